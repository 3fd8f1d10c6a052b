section P20LEAFX
abbrev rm_X3_init : Room := { frames := 8, cells := 0, slots := 0, locals := 150 }
def f_X3_init (S : mS) (a0 : Nat) : Option (Rs Unit) :=
  gd (gK S a0 = 9) (some (.inl (), S))
set_option maxHeartbeats 2000000 in
set_option maxRecDepth 100000 in
theorem t_X3_init {l : Launch} (hls : l.stackTraces = false) {C : cT} (hC : CX C cX3_init 1 yX3_init rm_X3_init) (hl : C.2.1 = l) {S0 : mS} (hE : CE C S0 (Option.none : Option Jvm.ClassFile.FieldType) []) {o : Rs Unit} {S : mS} {a0 : Nat} (h : f_X3_init S a0 = some o) : XX C 1 (QQ C (fun _ : Unit => none) S0 o) 0 0 S 0 [(0, .ref a0)] [] := by
  unfold f_X3_init at h
  refine x_aload_n (pc := 0) hC 0 dX3_init_0 rfl rfl ?_
  obtain ⟨g1, h⟩ := gd_some h
  refine x_objInit (pc := 1) hC wm_173 wm_94 wm_95 dX3_init_1 (by rw [g1]; decide) (Nat.le_of_ble_eq_true rfl) (Nat.le_of_ble_eq_true rfl) ?_
  exact x_vreturn (pc := 4) hC hE dX3_init_4 (so h) (Nat.le_of_ble_eq_true rfl) (Nat.le_of_ble_eq_true rfl)
theorem c_X3_init (l : Launch) (hls : l.stackTraces = false) {S : mS} {a0 : Nat} {o : Rs Unit} (h : f_X3_init S a0 = some o) : CT (fun _ : Unit => none) l yX3_init (.code yX3_init cX3_init 1 (Option.none : Option Jvm.ClassFile.FieldType)) rm_X3_init S [.ref a0] o := ct_of (by decide +kernel) hls (Nat.le_of_ble_eq_true rfl) (fun C hl hC hE => t_X3_init hls hC hl hE h)
abbrev rm_X0_init : Room := { frames := 9, cells := 10, slots := 30, locals := 170 }
def f_X0_init_46  : Nat → mS → Nat → Int32 → Option (Rs Unit)
  | 0, _, _, _ => none
  | k + 1, S, a0, a1 => gd (gK S a0 = 6) (lt9 (gR S a0 1) fun r2 => gd (gK S r2 = 35) (lt9 (Int32.ofNat (gZ S r2)) fun x4 => if x4 ≤ a1 then (zI (sI S a0 4 (109 : Int32)) fun S5 => some (.inl (), S5)) else (lt9 (gR S a0 1) fun r8 => gd (gN S + 1 < KB) (zW (sW S 9 0) fun S10 => lt9 (gN S + 1) fun r11 => bd (f_X3_init S10 r11) fun _ S14 => gd (gK S14 r8 = 35) (gd (¬ (a1 < 0 ∨ gZ S14 r8 ≤ (a1).toNatClampNeg)) (gd (gK S14 r11 = 9) (zR (sR S14 r8 (a1).toNatClampNeg r11) fun S19 => lt9 (a1 + Int32.ofInt (1)) fun x23 => f_X0_init_46 k S19 a0 x23)))))))
set_option maxHeartbeats 2000000 in
set_option maxRecDepth 100000 in
theorem t_X0_init_46 {l : Launch} (hls : l.stackTraces = false) {C : cT} (hC : CX C cX0_init 2 yX0_init rm_X0_init) (hl : C.2.1 = l) {S0 : mS} (hE : CE C S0 (Option.none : Option Jvm.ClassFile.FieldType) []) {o : Rs Unit} : ∀ (k cs46 sl46 : Nat) (S : mS) (a0 : Nat) (a1 : Int32), cs46 + k * 1 ≤ 6 → sl46 + k * 3 ≤ 18 → f_X0_init_46  k S a0 a1 = some o → XX C 2 (QQ C (fun _ : Unit => none) S0 o) cs46 sl46 S 46 [(0, .ref a0), (1, .int a1)] [] := by
  intro k
  induction k with
  | zero => intro cs46 sl46 S a0 a1 hcs46 hsl46 h; cases h
  | succ k ih =>
    intro cs46 sl46 S a0 a1 hcs46 hsl46 h
    unfold f_X0_init_46 at h
    refine x_iload_n (pc := 46) hC 1 dX0_init_46 rfl rfl ?_
    refine x_aload_n (pc := 47) hC 0 dX0_init_47 rfl rfl ?_
    obtain ⟨g1, h⟩ := gd_some h
    refine x_getRv (pc := 48) (k := 1) hC fc_6 fl_RX0_17 dX0_init_48 rfl g1 (fun r2 hr2 => ?_)
    replace h := lt_x hr2 h
    obtain ⟨g3, h⟩ := gd_some h
    refine x_alenv (pc := 51) (t0 := 5) hC dX0_init_51 g3 (by decide) (fun _ => rfl) (fun x4 hx4 => ?_)
    replace h := lt_x hx4 h
    refine x_icmp_ge (pc := 52) hC 74 dX0_init_52 (by decide) (fun c24 => ?_) (fun c24 => ?_)
    · rw [if_pos c24] at h
      refine x_aload_n (pc := 74) hC 0 dX0_init_74 rfl rfl ?_
      refine x_bipush (pc := 75) (v := (109 : Int32)) hC dX0_init_75 (by decide) ?_
      refine x_putIv (pc := 77) (k := 4) hC fc_6 fl_RX0_22 dX0_init_77 rfl rfl (show NF .char _ from ⟨rfl, rfl⟩) g1 (fun S5 hS5 => ?_)
      replace h := zI_x hS5 h
      have g6 : gK S5 a0 = 6 := by rw [hS5]; exact g1
      have g7 : gK S5 r2 = 35 := by rw [hS5]; exact g3
      exact x_vreturn (pc := 80) hC hE dX0_init_80 (so h) (show cs46 ≤ (10 : Nat) from by omega) (show sl46 ≤ (30 : Nat) from by omega)
    · rw [if_neg c24] at h
      refine x_aload_n (pc := 55) hC 0 dX0_init_55 rfl rfl ?_
      refine x_getRv (pc := 56) (k := 1) hC fc_6 fl_RX0_17 dX0_init_56 rfl g1 (fun r8 hr8 => ?_)
      replace h := lt_x hr8 h
      refine x_iload_n (pc := 59) hC 1 dX0_init_59 rfl rfl ?_
      obtain ⟨g9, h⟩ := gd_some h
      refine x_newv (pc := 60) hC fc_9 fn_9 wm_167 wm_169 wm_51 dX0_init_60 g9 (show cs46 + 1 ≤ (10 : Nat) from by omega) (show sl46 + 3 ≤ (30 : Nat) from by omega) (fun S10 r11 hS10 hr11 => ?_)
      replace h := zW_x hS10 h
      replace h := lt_x hr11 h
      have g12 : gK S10 r11 = 9 := by rw [hr11, hS10]; exact sW_K
      refine x_dup (pc := 63) hC dX0_init_63 rfl ?_
      obtain ⟨o15, ho15, h⟩ := bd_some h
      refine x_callI (pc := 64) (As := []) (rest := [.ref r11, .int a1, .ref r8]) hC hl (c_X3_init l hls ho15) lk_RX0_21 (by rw [g12]; decide) dX0_init_64 rfl rfl (Nat.le_of_ble_eq_true rfl) ⟨Nat.le_of_ble_eq_true rfl, Nat.le_of_ble_eq_true rfl⟩ ⟨(show cs46 + 1 ≤ (10 : Nat) from by omega), (show sl46 + 3 ≤ (30 : Nat) from by omega)⟩ ?_
      rcases o15 with ⟨_ | E16, S14⟩
      · refine xk_v ?_
        replace h := bk_l h
        refine x_widen (ce' := cs46 + 1) (sl' := sl46 + 3) (Nat.le_refl _) (Nat.le_refl _) ?_
        obtain ⟨g18, h⟩ := gd_some h
        obtain ⟨g17, h⟩ := gd_some h
        obtain ⟨g20, h⟩ := gd_some h
        refine x_rastv (pc := 67) (t0 := 5) hC fc_9 dX0_init_67 g18 (by decide) (fun _ => rfl) (Or.inl rfl) g20 g17 (fun S19 hS19 => ?_)
        replace h := zR_x hS19 h
        have g21 : gK S19 r8 = 35 := by rw [hS19]; exact g18
        have g22 : gK S19 r11 = 9 := by rw [hS19]; exact g20
        obtain ⟨x23, hx23⟩ : ∃ z, z = (a1 + Int32.ofInt (1)) := ⟨_, rfl⟩
        replace h := lt_x hx23 h
        refine x_iinc (pc := 68) hC 1 dX0_init_68 rfl hx23.symm (by decide) (by decide) rfl ?_
        refine x_goto (pc := 71) hC 46 dX0_init_71 (by decide) ?_
        refine x_pick [1, 0] rfl ?_
        refine x_widen (ce' := cs46 + 1) (sl' := sl46 + 3) (by omega) (by omega) ?_
        exact ih _ _ _ _ _ (by omega) (by omega) h
      · exact xk_r (xt_out hC hE (bk_r h) (show cs46 + 1 ≤ (10 : Nat) from by omega) (show sl46 + 3 ≤ (30 : Nat) from by omega))
def f_X0_init_13  : Nat → mS → Nat → Int32 → Option (Rs Unit)
  | 0, _, _, _ => none
  | k + 1, S, a0, a1 => gd (gK S a0 = 6) (lt9 (gR S a0 0) fun r2 => gd (gK S r2 = 30) (lt9 (Int32.ofNat (gZ S r2)) fun x4 => if x4 ≤ a1 then (gd (gN S + 1 < KB) (zW (sW S 35 3) fun S6 => lt9 (gN S + 1) fun r7 => gd (gK S6 a0 = 6) (zR (sR S6 a0 1 r7) fun S10 => f_X0_init_46  4 S10 a0 (0 : Int32)))) else (lt9 (gR S a0 0) fun r13 => gd (gK S r13 = 30) (gd (¬ (a1 < 0 ∨ gZ S r13 ≤ (a1).toNatClampNeg)) (zI (sI S r13 (a1).toNatClampNeg (100 : Int32)) fun S16 => lt9 (a1 + Int32.ofInt (1)) fun x20 => f_X0_init_13 k S16 a0 x20)))))
set_option maxHeartbeats 2000000 in
set_option maxRecDepth 100000 in
theorem t_X0_init_13 {l : Launch} (hls : l.stackTraces = false) {C : cT} (hC : CX C cX0_init 2 yX0_init rm_X0_init) (hl : C.2.1 = l) {S0 : mS} (hE : CE C S0 (Option.none : Option Jvm.ClassFile.FieldType) []) {o : Rs Unit} : ∀ (k : Nat) (S : mS) (a0 : Nat) (a1 : Int32), f_X0_init_13  k S a0 a1 = some o → XX C 2 (QQ C (fun _ : Unit => none) S0 o) (1) (3) S 13 [(0, .ref a0), (1, .int a1)] [] := by
  intro k
  induction k with
  | zero => intro S a0 a1 h; cases h
  | succ k ih =>
    intro S a0 a1 h
    unfold f_X0_init_13 at h
    refine x_iload_n (pc := 13) hC 1 dX0_init_13 rfl rfl ?_
    refine x_aload_n (pc := 14) hC 0 dX0_init_14 rfl rfl ?_
    obtain ⟨g1, h⟩ := gd_some h
    refine x_getRv (pc := 15) (k := 0) hC fc_6 fl_RX0_9 dX0_init_15 rfl g1 (fun r2 hr2 => ?_)
    replace h := lt_x hr2 h
    obtain ⟨g3, h⟩ := gd_some h
    refine x_alenv (pc := 18) (t0 := 0) hC dX0_init_18 g3 (by decide) (fun _ => rfl) (fun x4 hx4 => ?_)
    replace h := lt_x hx4 h
    refine x_icmp_ge (pc := 19) hC 36 dX0_init_19 (by decide) (fun c21 => ?_) (fun c21 => ?_)
    · rw [if_pos c21] at h
      refine x_aload_n (pc := 36) hC 0 dX0_init_36 rfl rfl ?_
      refine x_iconst (pc := 37) (v := (3 : Int32)) hC dX0_init_37 (by decide) ?_
      obtain ⟨g5, h⟩ := gd_some h
      refine x_newrv (pc := 38) (z := 3) (kd := 35) (t0 := 5) hC wm_167 wm_168 (by decide) (fun _ => rfl) dX0_init_38 (by decide) (by decide) (Nat.le_of_ble_eq_true rfl) g5 (Nat.le_of_ble_eq_true rfl) (Nat.le_of_ble_eq_true rfl) (fun S6 r7 hS6 hr7 => ?_)
      replace h := zW_x hS6 h
      replace h := lt_x hr7 h
      have g8 : gK S6 r7 = 35 := by rw [hr7, hS6]; exact sW_K
      obtain ⟨g9, h⟩ := gd_some h
      refine x_putRFv (pc := 41) (k := 1) hC fc_6 wm_188 rfl dX0_init_41 rfl rfl rfl rfl (Or.inr ⟨_, rfl⟩) g9 (fun S10 hS10 => ?_)
      replace h := zR_x hS10 h
      have g11 : gK S10 r7 = 35 := by rw [hS10]; exact g8
      have g12 : gK S10 a0 = 6 := by rw [hS10]; exact g9
      refine x_iconst (pc := 44) (v := (0 : Int32)) hC dX0_init_44 (by decide) ?_
      refine x_istore_n (pc := 45) hC dX0_init_45 rfl (by decide) (by decide) rfl ?_
      refine x_pick [1, 0] rfl ?_
      refine x_widen (ce' := 2) (sl' := 6) (Nat.le_of_ble_eq_true rfl) (Nat.le_of_ble_eq_true rfl) ?_
      exact t_X0_init_46 hls hC hl hE 4 _ _ _ _ _ (by omega) (by omega) h
    · rw [if_neg c21] at h
      refine x_aload_n (pc := 22) hC 0 dX0_init_22 rfl rfl ?_
      refine x_getRv (pc := 23) (k := 0) hC fc_6 fl_RX0_9 dX0_init_23 rfl g1 (fun r13 hr13 => ?_)
      replace h := lt_x hr13 h
      refine x_iload_n (pc := 26) hC 1 dX0_init_26 rfl rfl ?_
      refine x_bipush (pc := 27) (v := (100 : Int32)) hC dX0_init_27 (by decide) ?_
      obtain ⟨g15, h⟩ := gd_some h
      obtain ⟨g14, h⟩ := gd_some h
      refine x_iastv (pc := 29) hC dX0_init_29 g15 g14 (fun S16 hS16 => ?_)
      replace h := zI_x hS16 h
      have g17 : gK S16 a0 = 6 := by rw [hS16]; exact g1
      have g18 : gK S16 r2 = 30 := by rw [hS16]; exact g3
      have g19 : gK S16 r13 = 30 := by rw [hS16]; exact g15
      obtain ⟨x20, hx20⟩ : ∃ z, z = (a1 + Int32.ofInt (1)) := ⟨_, rfl⟩
      replace h := lt_x hx20 h
      refine x_iinc (pc := 30) hC 1 dX0_init_30 rfl hx20.symm (by decide) (by decide) rfl ?_
      refine x_goto (pc := 33) hC 13 dX0_init_33 (by decide) ?_
      refine x_pick [1, 0] rfl ?_
      exact ih _ _ _ h
def f_X0_init (S : mS) (a0 : Nat) : Option (Rs Unit) :=
  gd (gK S a0 = 6) (gd (gN S + 1 < KB) (zW (sW S 30 3) fun S3 => lt9 (gN S + 1) fun r4 => gd (gK S3 a0 = 6) (zR (sR S3 a0 0 r4) fun S7 => f_X0_init_13  4 S7 a0 (0 : Int32))))
set_option maxHeartbeats 2000000 in
set_option maxRecDepth 100000 in
theorem t_X0_init {l : Launch} (hls : l.stackTraces = false) {C : cT} (hC : CX C cX0_init 2 yX0_init rm_X0_init) (hl : C.2.1 = l) {S0 : mS} (hE : CE C S0 (Option.none : Option Jvm.ClassFile.FieldType) []) {o : Rs Unit} {S : mS} {a0 : Nat} (h : f_X0_init S a0 = some o) : XX C 2 (QQ C (fun _ : Unit => none) S0 o) 0 0 S 0 [(0, .ref a0)] [] := by
  unfold f_X0_init at h
  refine x_aload_n (pc := 0) hC 0 dX0_init_0 rfl rfl ?_
  obtain ⟨g1, h⟩ := gd_some h
  refine x_objInit (pc := 1) hC wm_166 wm_94 wm_95 dX0_init_1 (by rw [g1]; decide) (Nat.le_of_ble_eq_true rfl) (Nat.le_of_ble_eq_true rfl) ?_
  refine x_aload_n (pc := 4) hC 0 dX0_init_4 rfl rfl ?_
  refine x_iconst (pc := 5) (v := (3 : Int32)) hC dX0_init_5 (by decide) ?_
  obtain ⟨g2, h⟩ := gd_some h
  refine x_newaIv (pc := 6) (z := 3) hC wm_186 dX0_init_6 (by decide) (by decide) (Nat.le_of_ble_eq_true rfl) g2 (Nat.le_of_ble_eq_true rfl) (Nat.le_of_ble_eq_true rfl) (fun S3 r4 hS3 hr4 => ?_)
  replace h := zW_x hS3 h
  replace h := lt_x hr4 h
  have g5 : gK S3 r4 = 30 := by rw [hr4, hS3]; exact sW_K
  obtain ⟨g6, h⟩ := gd_some h
  refine x_putRFv (pc := 8) (k := 0) hC fc_6 wm_187 rfl dX0_init_8 rfl rfl rfl rfl (Or.inr ⟨_, rfl⟩) g6 (fun S7 hS7 => ?_)
  replace h := zR_x hS7 h
  have g8 : gK S7 r4 = 30 := by rw [hS7]; exact g5
  have g9 : gK S7 a0 = 6 := by rw [hS7]; exact g6
  refine x_iconst (pc := 11) (v := (0 : Int32)) hC dX0_init_11 (by decide) ?_
  refine x_istore_n (pc := 12) hC dX0_init_12 rfl (by decide) (by decide) rfl ?_
  refine x_pick [1, 0] rfl ?_
  exact t_X0_init_13 hls hC hl hE 4 _ _ _ h
theorem c_X0_init (l : Launch) (hls : l.stackTraces = false) {S : mS} {a0 : Nat} {o : Rs Unit} (h : f_X0_init S a0 = some o) : CT (fun _ : Unit => none) l yX0_init (.code yX0_init cX0_init 2 (Option.none : Option Jvm.ClassFile.FieldType)) rm_X0_init S [.ref a0] o := ct_of (by decide +kernel) hls (Nat.le_of_ble_eq_true rfl) (fun C hl hC hE => t_X0_init hls hC hl hE h)
abbrev rm_X0_slide : Room := { frames := 8, cells := 0, slots := 0, locals := 150 }
def f_X0_slide (S : mS) (a0 : Nat) (a1 : Int32) : Option (Rs Int32) :=
  gd (gK S a0 = 6) (lt9 (gI S a0 3) fun x2 => zI (sI S a0 3 a1) fun S3 => some (.inl x2, S3))
set_option maxHeartbeats 2000000 in
set_option maxRecDepth 100000 in
theorem t_X0_slide {l : Launch} (hls : l.stackTraces = false) {C : cT} (hC : CX C cX0_slide 3 yX0_slide rm_X0_slide) (hl : C.2.1 = l) {S0 : mS} (hE : CE C S0 (Option.some Jvm.ClassFile.FieldType.int) []) {o : Rs Int32} {S : mS} {a0 : Nat} {a1 : Int32} (h : f_X0_slide S a0 a1 = some o) : XX C 3 (QQ C (fun r : Int32 => some (.int r)) S0 o) 0 0 S 0 [(0, .ref a0), (1, .int a1)] [] := by
  unfold f_X0_slide at h
  refine x_aload_n (pc := 0) hC 0 dX0_slide_0 rfl rfl ?_
  obtain ⟨g1, h⟩ := gd_some h
  refine x_getIv (pc := 1) (k := 3) hC fc_6 fl_RX0_26 dX0_slide_1 rfl g1 (fun x2 hx2 => ?_)
  replace h := lt_x hx2 h
  refine x_istore_n (pc := 4) hC dX0_slide_4 rfl (by decide) (by decide) rfl ?_
  refine x_aload_n (pc := 5) hC 1 dX0_slide_5 rfl rfl ?_
  refine x_iload_n (pc := 6) hC 2 dX0_slide_6 rfl rfl ?_
  refine x_putIv (pc := 7) (k := 3) hC fc_6 fl_RX0_26 dX0_slide_7 rfl rfl (nf_int _) g1 (fun S3 hS3 => ?_)
  replace h := zI_x hS3 h
  have g4 : gK S3 a0 = 6 := by rw [hS3]; exact g1
  refine x_iload_n (pc := 10) hC 0 dX0_slide_10 rfl rfl ?_
  exact x_ireturn (pc := 11) hC hE dX0_slide_11 (so h) (Nat.le_of_ble_eq_true rfl) (Nat.le_of_ble_eq_true rfl)
theorem c_X0_slide (l : Launch) (hls : l.stackTraces = false) {S : mS} {a0 : Nat} {a1 : Int32} {o : Rs Int32} (h : f_X0_slide S a0 a1 = some o) : CT (fun r : Int32 => some (.int r)) l yX0_slide (.code yX0_slide cX0_slide 3 (Option.some Jvm.ClassFile.FieldType.int)) rm_X0_slide S [.ref a0, .int a1] o := ct_of (by decide +kernel) hls (Nat.le_of_ble_eq_true rfl) (fun C hl hC hE => t_X0_slide hls hC hl hE h)
abbrev rm_X0_turnBand : Room := { frames := 8, cells := 0, slots := 0, locals := 150 }
def f_X0_turnBand_13  (S : mS) : Option (Rs Int32) :=
  some (.inl (0 : Int32), S)
set_option maxHeartbeats 2000000 in
set_option maxRecDepth 100000 in
theorem t_X0_turnBand_13 {l : Launch} (hls : l.stackTraces = false) {C : cT} (hC : CX C cX0_turnBand 4 yX0_turnBand rm_X0_turnBand) (hl : C.2.1 = l) {S0 : mS} (hE : CE C S0 (Option.some Jvm.ClassFile.FieldType.int) []) {o : Rs Int32} {S : mS} (h : f_X0_turnBand_13  S = some o) : XX C 4 (QQ C (fun r : Int32 => some (.int r)) S0 o) (0) (0) S 13 [] [] := by
  unfold f_X0_turnBand_13 at h
  refine x_iconst (pc := 13) (v := (0 : Int32)) hC dX0_turnBand_13 (by decide) ?_
  exact x_ireturn (pc := 14) hC hE dX0_turnBand_14 (so h) (Nat.le_of_ble_eq_true rfl) (Nat.le_of_ble_eq_true rfl)
def f_X0_turnBand (S : mS) (a0 : Nat) (a1 : Int32) (a2 : Int32) : Option (Rs Int32) :=
  if a1 < 0 then (f_X0_turnBand_13  S) else (gd (gK S a0 = 6) (lt9 (gR S a0 0) fun r2 => gd (gK S r2 = 30) (lt9 (Int32.ofNat (gZ S r2)) fun x4 => if a1 < x4 then (lt9 (gR S a0 0) fun r5 => gd (gK S r5 = 30) (gd (¬ (a1 < 0 ∨ gZ S r5 ≤ (a1).toNatClampNeg)) (lt9 (gI S r5 (a1).toNatClampNeg) fun x9 => lt9 (gR S a0 0) fun r10 => gd (gK S r10 = 30) (gd (¬ (a1 < 0 ∨ gZ S r10 ≤ (a1).toNatClampNeg)) (zI (sI S r10 (a1).toNatClampNeg a2) fun S13 => some (.inl x9, S13)))))) else (f_X0_turnBand_13  S))))
set_option maxHeartbeats 2000000 in
set_option maxRecDepth 100000 in
theorem t_X0_turnBand {l : Launch} (hls : l.stackTraces = false) {C : cT} (hC : CX C cX0_turnBand 4 yX0_turnBand rm_X0_turnBand) (hl : C.2.1 = l) {S0 : mS} (hE : CE C S0 (Option.some Jvm.ClassFile.FieldType.int) []) {o : Rs Int32} {S : mS} {a0 : Nat} {a1 : Int32} {a2 : Int32} (h : f_X0_turnBand S a0 a1 a2 = some o) : XX C 4 (QQ C (fun r : Int32 => some (.int r)) S0 o) 0 0 S 0 [(0, .ref a0), (1, .int a1), (2, .int a2)] [] := by
  unfold f_X0_turnBand at h
  refine x_iload_n (pc := 0) hC 1 dX0_turnBand_0 rfl rfl ?_
  refine x_if_lt (pc := 1) hC 13 dX0_turnBand_1 (by decide) (fun c19 => ?_) (fun c19 => ?_)
  · rw [if_pos c19] at h
    refine x_pick [] rfl ?_
    exact t_X0_turnBand_13 hls hC hl hE h
  · rw [if_neg c19] at h
    refine x_iload_n (pc := 4) hC 1 dX0_turnBand_4 rfl rfl ?_
    refine x_aload_n (pc := 5) hC 0 dX0_turnBand_5 rfl rfl ?_
    obtain ⟨g1, h⟩ := gd_some h
    refine x_getRv (pc := 6) (k := 0) hC fc_6 fl_RX0_9 dX0_turnBand_6 rfl g1 (fun r2 hr2 => ?_)
    replace h := lt_x hr2 h
    obtain ⟨g3, h⟩ := gd_some h
    refine x_alenv (pc := 9) (t0 := 0) hC dX0_turnBand_9 g3 (by decide) (fun _ => rfl) (fun x4 hx4 => ?_)
    replace h := lt_x hx4 h
    refine x_icmp_lt (pc := 10) hC 15 dX0_turnBand_10 (by decide) (fun c18 => ?_) (fun c18 => ?_)
    · rw [if_pos c18] at h
      refine x_aload_n (pc := 15) hC 0 dX0_turnBand_15 rfl rfl ?_
      refine x_getRv (pc := 16) (k := 0) hC fc_6 fl_RX0_9 dX0_turnBand_16 rfl g1 (fun r5 hr5 => ?_)
      replace h := lt_x hr5 h
      refine x_iload_n (pc := 19) hC 1 dX0_turnBand_19 rfl rfl ?_
      obtain ⟨g8, h⟩ := gd_some h
      obtain ⟨g7, h⟩ := gd_some h
      refine x_ialdv (pc := 20) hC dX0_turnBand_20 g8 g7 (fun x9 hx9 => ?_)
      replace h := lt_x hx9 h
      refine x_istore_n (pc := 21) hC dX0_turnBand_21 rfl (by decide) (by decide) rfl ?_
      refine x_aload_n (pc := 22) hC 1 dX0_turnBand_22 rfl rfl ?_
      refine x_getRv (pc := 23) (k := 0) hC fc_6 fl_RX0_9 dX0_turnBand_23 rfl g1 (fun r10 hr10 => ?_)
      replace h := lt_x hr10 h
      refine x_iload_n (pc := 26) hC 2 dX0_turnBand_26 rfl rfl ?_
      refine x_iload_n (pc := 27) hC 3 dX0_turnBand_27 rfl rfl ?_
      obtain ⟨g12, h⟩ := gd_some h
      obtain ⟨g11, h⟩ := gd_some h
      refine x_iastv (pc := 28) hC dX0_turnBand_28 g12 g11 (fun S13 hS13 => ?_)
      replace h := zI_x hS13 h
      have g14 : gK S13 a0 = 6 := by rw [hS13]; exact g1
      have g15 : gK S13 r2 = 30 := by rw [hS13]; exact g3
      have g16 : gK S13 r5 = 30 := by rw [hS13]; exact g8
      have g17 : gK S13 r10 = 30 := by rw [hS13]; exact g12
      refine x_iload_n (pc := 29) hC 0 dX0_turnBand_29 rfl rfl ?_
      exact x_ireturn (pc := 30) hC hE dX0_turnBand_30 (so h) (Nat.le_of_ble_eq_true rfl) (Nat.le_of_ble_eq_true rfl)
    · rw [if_neg c18] at h
      refine x_pick [] rfl ?_
      exact t_X0_turnBand_13 hls hC hl hE h
theorem c_X0_turnBand (l : Launch) (hls : l.stackTraces = false) {S : mS} {a0 : Nat} {a1 : Int32} {a2 : Int32} {o : Rs Int32} (h : f_X0_turnBand S a0 a1 a2 = some o) : CT (fun r : Int32 => some (.int r)) l yX0_turnBand (.code yX0_turnBand cX0_turnBand 4 (Option.some Jvm.ClassFile.FieldType.int)) rm_X0_turnBand S [.ref a0, .int a1, .int a2] o := ct_of (by decide +kernel) hls (Nat.le_of_ble_eq_true rfl) (fun C hl hC hE => t_X0_turnBand hls hC hl hE h)
abbrev rm_X0_changeSide : Room := { frames := 8, cells := 0, slots := 0, locals := 150 }
def f_X0_changeSide (S : mS) (a0 : Nat) (a1 : Int32) : Option (Rs Int32) :=
  gd (gK S a0 = 6) (lt9 (gI S a0 4) fun x2 => gd ((a1.toUInt32.toUInt16.toUInt32.toInt32 = a1 ∧ 0 ≤ a1) ∧ a1 ≤ 65535) (zI (sI S a0 4 a1) fun S4 => gd ((x2.toUInt32.toUInt16.toUInt32.toInt32 = x2 ∧ 0 ≤ x2) ∧ x2 ≤ 65535) (some (.inl x2, S4))))
set_option maxHeartbeats 2000000 in
set_option maxRecDepth 100000 in
theorem t_X0_changeSide {l : Launch} (hls : l.stackTraces = false) {C : cT} (hC : CX C cX0_changeSide 3 yX0_changeSide rm_X0_changeSide) (hl : C.2.1 = l) {S0 : mS} (hE : CE C S0 (Option.some Jvm.ClassFile.FieldType.char) []) {o : Rs Int32} {S : mS} {a0 : Nat} {a1 : Int32} (h : f_X0_changeSide S a0 a1 = some o) : XX C 3 (QQ C (fun r : Int32 => some (.int r)) S0 o) 0 0 S 0 [(0, .ref a0), (1, .int a1)] [] := by
  unfold f_X0_changeSide at h
  refine x_aload_n (pc := 0) hC 0 dX0_changeSide_0 rfl rfl ?_
  obtain ⟨g1, h⟩ := gd_some h
  refine x_getIv (pc := 1) (k := 4) hC fc_6 fl_RX0_22 dX0_changeSide_1 rfl g1 (fun x2 hx2 => ?_)
  replace h := lt_x hx2 h
  refine x_istore_n (pc := 4) hC dX0_changeSide_4 rfl (by decide) (by decide) rfl ?_
  refine x_aload_n (pc := 5) hC 1 dX0_changeSide_5 rfl rfl ?_
  refine x_iload_n (pc := 6) hC 2 dX0_changeSide_6 rfl rfl ?_
  obtain ⟨g3, h⟩ := gd_some h
  refine x_putIv (pc := 7) (k := 4) hC fc_6 fl_RX0_22 dX0_changeSide_7 rfl rfl (nf_C g3) g1 (fun S4 hS4 => ?_)
  replace h := zI_x hS4 h
  have g5 : gK S4 a0 = 6 := by rw [hS4]; exact g1
  refine x_iload_n (pc := 10) hC 0 dX0_changeSide_10 rfl rfl ?_
  obtain ⟨g6, h⟩ := gd_some h
  exact x_zreturn (pc := 11) hC hE dX0_changeSide_11 (nf_C g6).1 (so h) (Nat.le_of_ble_eq_true rfl) (Nat.le_of_ble_eq_true rfl)
theorem c_X0_changeSide (l : Launch) (hls : l.stackTraces = false) {S : mS} {a0 : Nat} {a1 : Int32} {o : Rs Int32} (h : f_X0_changeSide S a0 a1 = some o) : CT (fun r : Int32 => some (.int r)) l yX0_changeSide (.code yX0_changeSide cX0_changeSide 3 (Option.some Jvm.ClassFile.FieldType.char)) rm_X0_changeSide S [.ref a0, .int a1] o := ct_of (by decide +kernel) hls (Nat.le_of_ble_eq_true rfl) (fun C hl hC hE => t_X0_changeSide hls hC hl hE h)
abbrev rm_X0_levelAt : Room := { frames := 8, cells := 0, slots := 0, locals := 150 }
def f_X0_levelAt_42  (S : mS) (a0 : Nat) (a2 : Int32) : Option (Rs Int32) :=
  gd (gK S a0 = 6) (lt9 (gI S a0 3) fun x2 => lt9 (x2 * a2) fun x3 => gd (¬ (100 : Int32) = 0) (lt9 (x3 / (100 : Int32)) fun x4 => some (.inl x4, S)))
set_option maxHeartbeats 2000000 in
set_option maxRecDepth 100000 in
theorem t_X0_levelAt_42 {l : Launch} (hls : l.stackTraces = false) {C : cT} (hC : CX C cX0_levelAt 3 yX0_levelAt rm_X0_levelAt) (hl : C.2.1 = l) {S0 : mS} (hE : CE C S0 (Option.some Jvm.ClassFile.FieldType.int) []) {o : Rs Int32} {S : mS} {a0 : Nat} {a2 : Int32} (h : f_X0_levelAt_42  S a0 a2 = some o) : XX C 3 (QQ C (fun r : Int32 => some (.int r)) S0 o) (0) (0) S 42 [(0, .ref a0), (2, .int a2)] [] := by
  unfold f_X0_levelAt_42 at h
  refine x_aload_n (pc := 42) hC 0 dX0_levelAt_42 rfl rfl ?_
  obtain ⟨g1, h⟩ := gd_some h
  refine x_getIv (pc := 43) (k := 3) hC fc_6 fl_RX0_26 dX0_levelAt_43 rfl g1 (fun x2 hx2 => ?_)
  replace h := lt_x hx2 h
  refine x_iload_n (pc := 46) hC 1 dX0_levelAt_46 rfl rfl ?_
  refine x_imulv (pc := 47) hC dX0_levelAt_47 (fun x3 hx3 => ?_)
  replace h := lt_x hx3 h
  refine x_bipush (pc := 48) (v := (100 : Int32)) hC dX0_levelAt_48 (by decide) ?_
  obtain ⟨g5, h⟩ := gd_some h
  refine x_idivv (pc := 50) hC dX0_levelAt_50 g5 (fun x4 hx4 => ?_)
  replace h := lt_x hx4 h
  exact x_ireturn (pc := 51) hC hE dX0_levelAt_51 (so h) (Nat.le_of_ble_eq_true rfl) (Nat.le_of_ble_eq_true rfl)
def f_X0_levelAt_24  (S : mS) (a0 : Nat) (a1 : Int32) (a2 : Int32) : Option (Rs Int32) :=
  gd (gK S a0 = 6) (lt9 (gI S a0 4) fun x2 => if x2 = (114 : Int32) then (if 0 ≤ a1 then (f_X0_levelAt_42  S a0 a2) else (lt9 ((100 : Int32) + a1) fun x3 => f_X0_levelAt_42  S a0 x3)) else (f_X0_levelAt_42  S a0 a2))
set_option maxHeartbeats 2000000 in
set_option maxRecDepth 100000 in
theorem t_X0_levelAt_24 {l : Launch} (hls : l.stackTraces = false) {C : cT} (hC : CX C cX0_levelAt 3 yX0_levelAt rm_X0_levelAt) (hl : C.2.1 = l) {S0 : mS} (hE : CE C S0 (Option.some Jvm.ClassFile.FieldType.int) []) {o : Rs Int32} {S : mS} {a0 : Nat} {a1 : Int32} {a2 : Int32} (h : f_X0_levelAt_24  S a0 a1 a2 = some o) : XX C 3 (QQ C (fun r : Int32 => some (.int r)) S0 o) (0) (0) S 24 [(0, .ref a0), (1, .int a1), (2, .int a2)] [] := by
  unfold f_X0_levelAt_24 at h
  refine x_aload_n (pc := 24) hC 0 dX0_levelAt_24 rfl rfl ?_
  obtain ⟨g1, h⟩ := gd_some h
  refine x_getIv (pc := 25) (k := 4) hC fc_6 fl_RX0_22 dX0_levelAt_25 rfl g1 (fun x2 hx2 => ?_)
  replace h := lt_x hx2 h
  refine x_bipush (pc := 28) (v := (114 : Int32)) hC dX0_levelAt_28 (by decide) ?_
  refine x_icmp_ne (pc := 30) hC 42 dX0_levelAt_30 (by decide) (fun c5 => ?_) (fun c5 => ?_)
  · rw [if_neg c5] at h
    refine x_pick [0, 2] rfl ?_
    exact t_X0_levelAt_42 hls hC hl hE h
  · rw [if_pos c5] at h
    refine x_iload_n (pc := 33) hC 1 dX0_levelAt_33 rfl rfl ?_
    refine x_if_ge (pc := 34) hC 42 dX0_levelAt_34 (by decide) (fun c4 => ?_) (fun c4 => ?_)
    · rw [if_pos c4] at h
      refine x_pick [0, 2] rfl ?_
      exact t_X0_levelAt_42 hls hC hl hE h
    · rw [if_neg c4] at h
      refine x_bipush (pc := 37) (v := (100 : Int32)) hC dX0_levelAt_37 (by decide) ?_
      refine x_iload_n (pc := 39) hC 1 dX0_levelAt_39 rfl rfl ?_
      refine x_iaddv (pc := 40) hC dX0_levelAt_40 (fun x3 hx3 => ?_)
      replace h := lt_x hx3 h
      refine x_istore_n (pc := 41) hC dX0_levelAt_41 rfl (by decide) (by decide) rfl ?_
      refine x_pick [1, 0] rfl ?_
      exact t_X0_levelAt_42 hls hC hl hE h
def f_X0_levelAt (S : mS) (a0 : Nat) (a1 : Int32) : Option (Rs Int32) :=
  gd (gK S a0 = 6) (lt9 (gI S a0 4) fun x2 => if x2 = (108 : Int32) then (if a1 ≤ 0 then (f_X0_levelAt_24  S a0 a1 (100 : Int32)) else (lt9 ((100 : Int32) - a1) fun x3 => f_X0_levelAt_42  S a0 x3)) else (f_X0_levelAt_24  S a0 a1 (100 : Int32)))
set_option maxHeartbeats 2000000 in
set_option maxRecDepth 100000 in
theorem t_X0_levelAt {l : Launch} (hls : l.stackTraces = false) {C : cT} (hC : CX C cX0_levelAt 3 yX0_levelAt rm_X0_levelAt) (hl : C.2.1 = l) {S0 : mS} (hE : CE C S0 (Option.some Jvm.ClassFile.FieldType.int) []) {o : Rs Int32} {S : mS} {a0 : Nat} {a1 : Int32} (h : f_X0_levelAt S a0 a1 = some o) : XX C 3 (QQ C (fun r : Int32 => some (.int r)) S0 o) 0 0 S 0 [(0, .ref a0), (1, .int a1)] [] := by
  unfold f_X0_levelAt at h
  refine x_bipush (pc := 0) (v := (100 : Int32)) hC dX0_levelAt_0 (by decide) ?_
  refine x_istore_n (pc := 2) hC dX0_levelAt_2 rfl (by decide) (by decide) rfl ?_
  refine x_aload_n (pc := 3) hC 1 dX0_levelAt_3 rfl rfl ?_
  obtain ⟨g1, h⟩ := gd_some h
  refine x_getIv (pc := 4) (k := 4) hC fc_6 fl_RX0_22 dX0_levelAt_4 rfl g1 (fun x2 hx2 => ?_)
  replace h := lt_x hx2 h
  refine x_bipush (pc := 7) (v := (108 : Int32)) hC dX0_levelAt_7 (by decide) ?_
  refine x_icmp_ne (pc := 9) hC 24 dX0_levelAt_9 (by decide) (fun c5 => ?_) (fun c5 => ?_)
  · rw [if_neg c5] at h
    refine x_pick [1, 2, 0] rfl ?_
    exact t_X0_levelAt_24 hls hC hl hE h
  · rw [if_pos c5] at h
    refine x_iload_n (pc := 12) hC 2 dX0_levelAt_12 rfl rfl ?_
    refine x_if_le (pc := 13) hC 24 dX0_levelAt_13 (by decide) (fun c4 => ?_) (fun c4 => ?_)
    · rw [if_pos c4] at h
      refine x_pick [1, 2, 0] rfl ?_
      exact t_X0_levelAt_24 hls hC hl hE h
    · rw [if_neg c4] at h
      refine x_bipush (pc := 16) (v := (100 : Int32)) hC dX0_levelAt_16 (by decide) ?_
      refine x_iload_n (pc := 18) hC 2 dX0_levelAt_18 rfl rfl ?_
      refine x_isubv (pc := 19) hC dX0_levelAt_19 (fun x3 hx3 => ?_)
      replace h := lt_x hx3 h
      refine x_istore_n (pc := 20) hC dX0_levelAt_20 rfl (by decide) (by decide) rfl ?_
      refine x_goto (pc := 21) hC 42 dX0_levelAt_21 (by decide) ?_
      refine x_pick [1, 0] rfl ?_
      exact t_X0_levelAt_42 hls hC hl hE h
theorem c_X0_levelAt (l : Launch) (hls : l.stackTraces = false) {S : mS} {a0 : Nat} {a1 : Int32} {o : Rs Int32} (h : f_X0_levelAt S a0 a1 = some o) : CT (fun r : Int32 => some (.int r)) l yX0_levelAt (.code yX0_levelAt cX0_levelAt 3 (Option.some Jvm.ClassFile.FieldType.int)) rm_X0_levelAt S [.ref a0, .int a1] o := ct_of (by decide +kernel) hls (Nat.le_of_ble_eq_true rfl) (fun C hl hC hE => t_X0_levelAt hls hC hl hE h)
abbrev rm_X0_bandSum : Room := { frames := 8, cells := 0, slots := 0, locals := 150 }
def f_X0_bandSum_4  : Nat → mS → Nat → Int32 → Int32 → Option (Rs Int32)
  | 0, _, _, _, _ => none
  | k + 1, S, a0, a1, a2 => gd (gK S a0 = 6) (lt9 (gR S a0 0) fun r2 => gd (gK S r2 = 30) (lt9 (Int32.ofNat (gZ S r2)) fun x4 => if x4 ≤ a2 then (some (.inl a1, S)) else (lt9 (gR S a0 0) fun r5 => gd (gK S r5 = 30) (gd (¬ (a2 < 0 ∨ gZ S r5 ≤ (a2).toNatClampNeg)) (lt9 (gI S r5 (a2).toNatClampNeg) fun x9 => lt9 (a1 + x9) fun x10 => lt9 (a2 + Int32.ofInt (1)) fun x11 => f_X0_bandSum_4 k S a0 x10 x11)))))
set_option maxHeartbeats 2000000 in
set_option maxRecDepth 100000 in
theorem t_X0_bandSum_4 {l : Launch} (hls : l.stackTraces = false) {C : cT} (hC : CX C cX0_bandSum 3 yX0_bandSum rm_X0_bandSum) (hl : C.2.1 = l) {S0 : mS} (hE : CE C S0 (Option.some Jvm.ClassFile.FieldType.int) []) {o : Rs Int32} : ∀ (k : Nat) (S : mS) (a0 : Nat) (a1 : Int32) (a2 : Int32), f_X0_bandSum_4  k S a0 a1 a2 = some o → XX C 3 (QQ C (fun r : Int32 => some (.int r)) S0 o) (0) (0) S 4 [(0, .ref a0), (1, .int a1), (2, .int a2)] [] := by
  intro k
  induction k with
  | zero => intro S a0 a1 a2 h; cases h
  | succ k ih =>
    intro S a0 a1 a2 h
    unfold f_X0_bandSum_4 at h
    refine x_iload_n (pc := 4) hC 2 dX0_bandSum_4 rfl rfl ?_
    refine x_aload_n (pc := 5) hC 0 dX0_bandSum_5 rfl rfl ?_
    obtain ⟨g1, h⟩ := gd_some h
    refine x_getRv (pc := 6) (k := 0) hC fc_6 fl_RX0_9 dX0_bandSum_6 rfl g1 (fun r2 hr2 => ?_)
    replace h := lt_x hr2 h
    obtain ⟨g3, h⟩ := gd_some h
    refine x_alenv (pc := 9) (t0 := 0) hC dX0_bandSum_9 g3 (by decide) (fun _ => rfl) (fun x4 hx4 => ?_)
    replace h := lt_x hx4 h
    refine x_icmp_ge (pc := 10) hC 28 dX0_bandSum_10 (by decide) (fun c12 => ?_) (fun c12 => ?_)
    · rw [if_pos c12] at h
      refine x_iload_n (pc := 28) hC 1 dX0_bandSum_28 rfl rfl ?_
      exact x_ireturn (pc := 29) hC hE dX0_bandSum_29 (so h) (Nat.le_of_ble_eq_true rfl) (Nat.le_of_ble_eq_true rfl)
    · rw [if_neg c12] at h
      refine x_iload_n (pc := 13) hC 1 dX0_bandSum_13 rfl rfl ?_
      refine x_aload_n (pc := 14) hC 0 dX0_bandSum_14 rfl rfl ?_
      refine x_getRv (pc := 15) (k := 0) hC fc_6 fl_RX0_9 dX0_bandSum_15 rfl g1 (fun r5 hr5 => ?_)
      replace h := lt_x hr5 h
      refine x_iload_n (pc := 18) hC 2 dX0_bandSum_18 rfl rfl ?_
      obtain ⟨g8, h⟩ := gd_some h
      obtain ⟨g7, h⟩ := gd_some h
      refine x_ialdv (pc := 19) hC dX0_bandSum_19 g8 g7 (fun x9 hx9 => ?_)
      replace h := lt_x hx9 h
      refine x_iaddv (pc := 20) hC dX0_bandSum_20 (fun x10 hx10 => ?_)
      replace h := lt_x hx10 h
      refine x_istore_n (pc := 21) hC dX0_bandSum_21 rfl (by decide) (by decide) rfl ?_
      obtain ⟨x11, hx11⟩ : ∃ z, z = (a2 + Int32.ofInt (1)) := ⟨_, rfl⟩
      replace h := lt_x hx11 h
      refine x_iinc (pc := 22) hC 2 dX0_bandSum_22 rfl hx11.symm (by decide) (by decide) rfl ?_
      refine x_goto (pc := 25) hC 4 dX0_bandSum_25 (by decide) ?_
      refine x_pick [2, 1, 0] rfl ?_
      exact ih _ _ _ _ h
def f_X0_bandSum (S : mS) (a0 : Nat) : Option (Rs Int32) :=
  f_X0_bandSum_4  16 S a0 (0 : Int32) (0 : Int32)
set_option maxHeartbeats 2000000 in
set_option maxRecDepth 100000 in
theorem t_X0_bandSum {l : Launch} (hls : l.stackTraces = false) {C : cT} (hC : CX C cX0_bandSum 3 yX0_bandSum rm_X0_bandSum) (hl : C.2.1 = l) {S0 : mS} (hE : CE C S0 (Option.some Jvm.ClassFile.FieldType.int) []) {o : Rs Int32} {S : mS} {a0 : Nat} (h : f_X0_bandSum S a0 = some o) : XX C 3 (QQ C (fun r : Int32 => some (.int r)) S0 o) 0 0 S 0 [(0, .ref a0)] [] := by
  unfold f_X0_bandSum at h
  refine x_iconst (pc := 0) (v := (0 : Int32)) hC dX0_bandSum_0 (by decide) ?_
  refine x_istore_n (pc := 1) hC dX0_bandSum_1 rfl (by decide) (by decide) rfl ?_
  refine x_iconst (pc := 2) (v := (0 : Int32)) hC dX0_bandSum_2 (by decide) ?_
  refine x_istore_n (pc := 3) hC dX0_bandSum_3 rfl (by decide) (by decide) rfl ?_
  refine x_pick [2, 1, 0] rfl ?_
  exact t_X0_bandSum_4 hls hC hl hE 16 _ _ _ _ h
theorem c_X0_bandSum (l : Launch) (hls : l.stackTraces = false) {S : mS} {a0 : Nat} {o : Rs Int32} (h : f_X0_bandSum S a0 = some o) : CT (fun r : Int32 => some (.int r)) l yX0_bandSum (.code yX0_bandSum cX0_bandSum 3 (Option.some Jvm.ClassFile.FieldType.int)) rm_X0_bandSum S [.ref a0] o := ct_of (by decide +kernel) hls (Nat.le_of_ble_eq_true rfl) (fun C hl hC hE => t_X0_bandSum hls hC hl hE h)
abbrev rm_X0_hasLowBand : Room := { frames := 8, cells := 0, slots := 0, locals := 150 }
def f_X0_hasLowBand_24  (S : mS) (s0 : Int32) : Option (Rs Int32) :=
  gd (s0 = 0 ∨ s0 = 1) (some (.inl s0, S))
set_option maxHeartbeats 2000000 in
set_option maxRecDepth 100000 in
theorem t_X0_hasLowBand_24 {l : Launch} (hls : l.stackTraces = false) {C : cT} (hC : CX C cX0_hasLowBand 1 yX0_hasLowBand rm_X0_hasLowBand) (hl : C.2.1 = l) {S0 : mS} (hE : CE C S0 (Option.some Jvm.ClassFile.FieldType.boolean) []) {o : Rs Int32} {S : mS} {s0 : Int32} (h : f_X0_hasLowBand_24  S s0 = some o) : XX C 1 (QQ C (fun r : Int32 => some (.int r)) S0 o) (0) (0) S 24 [] [.int s0] := by
  unfold f_X0_hasLowBand_24 at h
  obtain ⟨g1, h⟩ := gd_some h
  exact x_zreturn (pc := 24) hC hE dX0_hasLowBand_24 (nf_B g1).1 (so h) (Nat.le_of_ble_eq_true rfl) (Nat.le_of_ble_eq_true rfl)
def f_X0_hasLowBand_23  (S : mS) : Option (Rs Int32) :=
  f_X0_hasLowBand_24  S (0 : Int32)
set_option maxHeartbeats 2000000 in
set_option maxRecDepth 100000 in
theorem t_X0_hasLowBand_23 {l : Launch} (hls : l.stackTraces = false) {C : cT} (hC : CX C cX0_hasLowBand 1 yX0_hasLowBand rm_X0_hasLowBand) (hl : C.2.1 = l) {S0 : mS} (hE : CE C S0 (Option.some Jvm.ClassFile.FieldType.boolean) []) {o : Rs Int32} {S : mS} (h : f_X0_hasLowBand_23  S = some o) : XX C 1 (QQ C (fun r : Int32 => some (.int r)) S0 o) (0) (0) S 23 [] [] := by
  unfold f_X0_hasLowBand_23 at h
  refine x_iconst (pc := 23) (v := (0 : Int32)) hC dX0_hasLowBand_23 (by decide) ?_
  refine x_pick [] rfl ?_
  exact t_X0_hasLowBand_24 hls hC hl hE h
def f_X0_hasLowBand (S : mS) (a0 : Nat) : Option (Rs Int32) :=
  gd (gK S a0 = 6) (lt9 (gR S a0 0) fun r2 => gd (gK S r2 = 30) (lt9 (Int32.ofNat (gZ S r2)) fun x4 => if x4 ≤ 0 then (f_X0_hasLowBand_23  S) else (lt9 (gR S a0 0) fun r5 => gd (gK S r5 = 30) (gd (¬ ((0 : Int32) < 0 ∨ gZ S r5 ≤ ((0 : Int32)).toNatClampNeg)) (lt9 (gI S r5 ((0 : Int32)).toNatClampNeg) fun x9 => if x9 < (50 : Int32) then (f_X0_hasLowBand_23  S) else (f_X0_hasLowBand_24  S (1 : Int32)))))))
set_option maxHeartbeats 2000000 in
set_option maxRecDepth 100000 in
theorem t_X0_hasLowBand {l : Launch} (hls : l.stackTraces = false) {C : cT} (hC : CX C cX0_hasLowBand 1 yX0_hasLowBand rm_X0_hasLowBand) (hl : C.2.1 = l) {S0 : mS} (hE : CE C S0 (Option.some Jvm.ClassFile.FieldType.boolean) []) {o : Rs Int32} {S : mS} {a0 : Nat} (h : f_X0_hasLowBand S a0 = some o) : XX C 1 (QQ C (fun r : Int32 => some (.int r)) S0 o) 0 0 S 0 [(0, .ref a0)] [] := by
  unfold f_X0_hasLowBand at h
  refine x_aload_n (pc := 0) hC 0 dX0_hasLowBand_0 rfl rfl ?_
  obtain ⟨g1, h⟩ := gd_some h
  refine x_getRv (pc := 1) (k := 0) hC fc_6 fl_RX0_9 dX0_hasLowBand_1 rfl g1 (fun r2 hr2 => ?_)
  replace h := lt_x hr2 h
  obtain ⟨g3, h⟩ := gd_some h
  refine x_alenv (pc := 4) (t0 := 0) hC dX0_hasLowBand_4 g3 (by decide) (fun _ => rfl) (fun x4 hx4 => ?_)
  replace h := lt_x hx4 h
  refine x_if_le (pc := 5) hC 23 dX0_hasLowBand_5 (by decide) (fun c11 => ?_) (fun c11 => ?_)
  · rw [if_pos c11] at h
    refine x_pick [] rfl ?_
    exact t_X0_hasLowBand_23 hls hC hl hE h
  · rw [if_neg c11] at h
    refine x_aload_n (pc := 8) hC 0 dX0_hasLowBand_8 rfl rfl ?_
    refine x_getRv (pc := 9) (k := 0) hC fc_6 fl_RX0_9 dX0_hasLowBand_9 rfl g1 (fun r5 hr5 => ?_)
    replace h := lt_x hr5 h
    refine x_iconst (pc := 12) (v := (0 : Int32)) hC dX0_hasLowBand_12 (by decide) ?_
    obtain ⟨g8, h⟩ := gd_some h
    obtain ⟨g7, h⟩ := gd_some h
    refine x_ialdv (pc := 13) hC dX0_hasLowBand_13 g8 g7 (fun x9 hx9 => ?_)
    replace h := lt_x hx9 h
    refine x_bipush (pc := 14) (v := (50 : Int32)) hC dX0_hasLowBand_14 (by decide) ?_
    refine x_icmp_lt (pc := 16) hC 23 dX0_hasLowBand_16 (by decide) (fun c10 => ?_) (fun c10 => ?_)
    · rw [if_pos c10] at h
      refine x_pick [] rfl ?_
      exact t_X0_hasLowBand_23 hls hC hl hE h
    · rw [if_neg c10] at h
      refine x_iconst (pc := 19) (v := (1 : Int32)) hC dX0_hasLowBand_19 (by decide) ?_
      refine x_goto (pc := 20) hC 24 dX0_hasLowBand_20 (by decide) ?_
      refine x_pick [] rfl ?_
      exact t_X0_hasLowBand_24 hls hC hl hE h
theorem c_X0_hasLowBand (l : Launch) (hls : l.stackTraces = false) {S : mS} {a0 : Nat} {o : Rs Int32} (h : f_X0_hasLowBand S a0 = some o) : CT (fun r : Int32 => some (.int r)) l yX0_hasLowBand (.code yX0_hasLowBand cX0_hasLowBand 1 (Option.some Jvm.ClassFile.FieldType.boolean)) rm_X0_hasLowBand S [.ref a0] o := ct_of (by decide +kernel) hls (Nat.le_of_ble_eq_true rfl) (fun C hl hC hE => t_X0_hasLowBand hls hC hl hE h)
abbrev rm_X3_begin : Room := { frames := 8, cells := 0, slots := 0, locals := 150 }
def f_X3_begin (S : mS) (a0 : Nat) (a1 : Int32) (a2 : Int32) : Option (Rs Unit) :=
  gd (gK S a0 = 9) (gd ((a1.toUInt32.toUInt16.toUInt32.toInt32 = a1 ∧ 0 ≤ a1) ∧ a1 ≤ 65535) (zI (sI S a0 0 a1) fun S3 => zI (sI S3 a0 1 a2) fun S5 => zI (sI S5 a0 2 (0 : Int32)) fun S7 => some (.inl (), S7)))
set_option maxHeartbeats 2000000 in
set_option maxRecDepth 100000 in
theorem t_X3_begin {l : Launch} (hls : l.stackTraces = false) {C : cT} (hC : CX C cX3_begin 3 yX3_begin rm_X3_begin) (hl : C.2.1 = l) {S0 : mS} (hE : CE C S0 (Option.none : Option Jvm.ClassFile.FieldType) []) {o : Rs Unit} {S : mS} {a0 : Nat} {a1 : Int32} {a2 : Int32} (h : f_X3_begin S a0 a1 a2 = some o) : XX C 3 (QQ C (fun _ : Unit => none) S0 o) 0 0 S 0 [(0, .ref a0), (1, .int a1), (2, .int a2)] [] := by
  unfold f_X3_begin at h
  refine x_aload_n (pc := 0) hC 0 dX3_begin_0 rfl rfl ?_
  refine x_iload_n (pc := 1) hC 1 dX3_begin_1 rfl rfl ?_
  obtain ⟨g1, h⟩ := gd_some h
  obtain ⟨g2, h⟩ := gd_some h
  refine x_putIv (pc := 2) (k := 0) hC fc_9 fl_RX3_7 dX3_begin_2 rfl rfl (nf_C g2) g1 (fun S3 hS3 => ?_)
  replace h := zI_x hS3 h
  have g4 : gK S3 a0 = 9 := by rw [hS3]; exact g1
  refine x_aload_n (pc := 5) hC 0 dX3_begin_5 rfl rfl ?_
  refine x_iload_n (pc := 6) hC 2 dX3_begin_6 rfl rfl ?_
  refine x_putIv (pc := 7) (k := 1) hC fc_9 fl_RX3_13 dX3_begin_7 rfl rfl (nf_int _) g4 (fun S5 hS5 => ?_)
  replace h := zI_x hS5 h
  have g6 : gK S5 a0 = 9 := by rw [hS5]; exact g4
  refine x_aload_n (pc := 10) hC 0 dX3_begin_10 rfl rfl ?_
  refine x_iconst (pc := 11) (v := (0 : Int32)) hC dX3_begin_11 (by decide) ?_
  refine x_putIv (pc := 12) (k := 2) hC fc_9 fl_RX3_17 dX3_begin_12 rfl rfl (nf_int _) g6 (fun S7 hS7 => ?_)
  replace h := zI_x hS7 h
  have g8 : gK S7 a0 = 9 := by rw [hS7]; exact g6
  exact x_vreturn (pc := 15) hC hE dX3_begin_15 (so h) (Nat.le_of_ble_eq_true rfl) (Nat.le_of_ble_eq_true rfl)
theorem c_X3_begin (l : Launch) (hls : l.stackTraces = false) {S : mS} {a0 : Nat} {a1 : Int32} {a2 : Int32} {o : Rs Unit} (h : f_X3_begin S a0 a1 a2 = some o) : CT (fun _ : Unit => none) l yX3_begin (.code yX3_begin cX3_begin 3 (Option.none : Option Jvm.ClassFile.FieldType)) rm_X3_begin S [.ref a0, .int a1, .int a2] o := ct_of (by decide +kernel) hls (Nat.le_of_ble_eq_true rfl) (fun C hl hC hE => t_X3_begin hls hC hl hE h)
abbrev rm_X0_plugIn : Room := { frames := 9, cells := 0, slots := 0, locals := 172 }
def f_X0_plugIn_43  (S : mS) (a0 : Nat) : Option (Rs Int32) :=
  gd (gK S a0 = 6) (lt9 (gI S a0 2) fun x2 => some (.inl x2, S))
set_option maxHeartbeats 2000000 in
set_option maxRecDepth 100000 in
theorem t_X0_plugIn_43 {l : Launch} (hls : l.stackTraces = false) {C : cT} (hC : CX C cX0_plugIn 3 yX0_plugIn rm_X0_plugIn) (hl : C.2.1 = l) {S0 : mS} (hE : CE C S0 (Option.some Jvm.ClassFile.FieldType.int) []) {o : Rs Int32} {S : mS} {a0 : Nat} (h : f_X0_plugIn_43  S a0 = some o) : XX C 3 (QQ C (fun r : Int32 => some (.int r)) S0 o) (0) (0) S 43 [(0, .ref a0)] [] := by
  unfold f_X0_plugIn_43 at h
  refine x_aload_n (pc := 43) hC 0 dX0_plugIn_43 rfl rfl ?_
  obtain ⟨g1, h⟩ := gd_some h
  refine x_getIv (pc := 44) (k := 2) hC fc_6 fl_RX0_30 dX0_plugIn_44 rfl g1 (fun x2 hx2 => ?_)
  replace h := lt_x hx2 h
  exact x_ireturn (pc := 47) hC hE dX0_plugIn_47 (so h) (Nat.le_of_ble_eq_true rfl) (Nat.le_of_ble_eq_true rfl)
def f_X0_plugIn (S : mS) (a0 : Nat) (a1 : Int32) (a2 : Int32) : Option (Rs Int32) :=
  gd (gK S a0 = 6) (lt9 (gI S a0 2) fun x2 => if x2 < 0 then (f_X0_plugIn_43  S a0) else (lt9 (gI S a0 2) fun x3 => lt9 (gR S a0 1) fun r4 => gd (gK S r4 = 35) (lt9 (Int32.ofNat (gZ S r4)) fun x6 => if x6 ≤ x3 then (f_X0_plugIn_43  S a0) else (lt9 (gR S a0 1) fun r7 => lt9 (gI S a0 2) fun x8 => gd (gK S r7 = 35) (gd (¬ (x8 < 0 ∨ gZ S r7 ≤ (x8).toNatClampNeg)) (lt9 (gR S r7 (x8).toNatClampNeg) fun r12 => gd (gK S r12 = 9) (bd (f_X3_begin S r12 a1 a2) fun _ S15 => gd (gK S15 a0 = 6) (lt9 (gI S15 a0 2) fun x19 => lt9 (x19 + (1 : Int32)) fun x20 => zI (sI S15 a0 2 x20) fun S21 => f_X0_plugIn_43  S21 a0))))))))
set_option maxHeartbeats 2000000 in
set_option maxRecDepth 100000 in
theorem t_X0_plugIn {l : Launch} (hls : l.stackTraces = false) {C : cT} (hC : CX C cX0_plugIn 3 yX0_plugIn rm_X0_plugIn) (hl : C.2.1 = l) {S0 : mS} (hE : CE C S0 (Option.some Jvm.ClassFile.FieldType.int) []) {o : Rs Int32} {S : mS} {a0 : Nat} {a1 : Int32} {a2 : Int32} (h : f_X0_plugIn S a0 a1 a2 = some o) : XX C 3 (QQ C (fun r : Int32 => some (.int r)) S0 o) 0 0 S 0 [(0, .ref a0), (1, .int a1), (2, .int a2)] [] := by
  unfold f_X0_plugIn at h
  refine x_aload_n (pc := 0) hC 0 dX0_plugIn_0 rfl rfl ?_
  obtain ⟨g1, h⟩ := gd_some h
  refine x_getIv (pc := 1) (k := 2) hC fc_6 fl_RX0_30 dX0_plugIn_1 rfl g1 (fun x2 hx2 => ?_)
  replace h := lt_x hx2 h
  refine x_if_lt (pc := 4) hC 43 dX0_plugIn_4 (by decide) (fun c24 => ?_) (fun c24 => ?_)
  · rw [if_pos c24] at h
    refine x_pick [0] rfl ?_
    exact t_X0_plugIn_43 hls hC hl hE h
  · rw [if_neg c24] at h
    refine x_aload_n (pc := 7) hC 0 dX0_plugIn_7 rfl rfl ?_
    refine x_getIv (pc := 8) (k := 2) hC fc_6 fl_RX0_30 dX0_plugIn_8 rfl g1 (fun x3 hx3 => ?_)
    replace h := lt_x hx3 h
    refine x_aload_n (pc := 11) hC 0 dX0_plugIn_11 rfl rfl ?_
    refine x_getRv (pc := 12) (k := 1) hC fc_6 fl_RX0_17 dX0_plugIn_12 rfl g1 (fun r4 hr4 => ?_)
    replace h := lt_x hr4 h
    obtain ⟨g5, h⟩ := gd_some h
    refine x_alenv (pc := 15) (t0 := 5) hC dX0_plugIn_15 g5 (by decide) (fun _ => rfl) (fun x6 hx6 => ?_)
    replace h := lt_x hx6 h
    refine x_icmp_ge (pc := 16) hC 43 dX0_plugIn_16 (by decide) (fun c23 => ?_) (fun c23 => ?_)
    · rw [if_pos c23] at h
      refine x_pick [0] rfl ?_
      exact t_X0_plugIn_43 hls hC hl hE h
    · rw [if_neg c23] at h
      refine x_aload_n (pc := 19) hC 0 dX0_plugIn_19 rfl rfl ?_
      refine x_getRv (pc := 20) (k := 1) hC fc_6 fl_RX0_17 dX0_plugIn_20 rfl g1 (fun r7 hr7 => ?_)
      replace h := lt_x hr7 h
      refine x_aload_n (pc := 23) hC 0 dX0_plugIn_23 rfl rfl ?_
      refine x_getIv (pc := 24) (k := 2) hC fc_6 fl_RX0_30 dX0_plugIn_24 rfl g1 (fun x8 hx8 => ?_)
      replace h := lt_x hx8 h
      obtain ⟨g11, h⟩ := gd_some h
      obtain ⟨g10, h⟩ := gd_some h
      refine x_raldv (pc := 27) (t0 := 5) hC dX0_plugIn_27 g11 (by decide) (fun _ => rfl) g10 (fun r12 hr12 => ?_)
      replace h := lt_x hr12 h
      refine x_iload_n (pc := 28) hC 1 dX0_plugIn_28 rfl rfl ?_
      refine x_iload_n (pc := 29) hC 2 dX0_plugIn_29 rfl rfl ?_
      obtain ⟨g13, h⟩ := gd_some h
      obtain ⟨o16, ho16, h⟩ := bd_some h
      refine x_callV (pc := 30) (As := [.int a1, .int a2]) (rest := []) hC hl (c_X3_begin l hls ho16) lk_RX0_33 fc_9 g13 dX0_plugIn_30 rfl rfl (Nat.le_of_ble_eq_true rfl) ⟨Nat.le_of_ble_eq_true rfl, Nat.le_of_ble_eq_true rfl⟩ ⟨(Nat.le_of_ble_eq_true rfl), (Nat.le_of_ble_eq_true rfl)⟩ ?_
      rcases o16 with ⟨_ | E17, S15⟩
      · refine xk_v ?_
        replace h := bk_l h
        refine x_aload_n (pc := 33) hC 0 dX0_plugIn_33 rfl rfl ?_
        refine x_dup (pc := 34) hC dX0_plugIn_34 rfl ?_
        obtain ⟨g18, h⟩ := gd_some h
        refine x_getIv (pc := 35) (k := 2) hC fc_6 fl_RX0_30 dX0_plugIn_35 rfl g18 (fun x19 hx19 => ?_)
        replace h := lt_x hx19 h
        refine x_iconst (pc := 38) (v := (1 : Int32)) hC dX0_plugIn_38 (by decide) ?_
        refine x_iaddv (pc := 39) hC dX0_plugIn_39 (fun x20 hx20 => ?_)
        replace h := lt_x hx20 h
        refine x_putIv (pc := 40) (k := 2) hC fc_6 fl_RX0_30 dX0_plugIn_40 rfl rfl (nf_int _) g18 (fun S21 hS21 => ?_)
        replace h := zI_x hS21 h
        have g22 : gK S21 a0 = 6 := by rw [hS21]; exact g18
        refine x_pick [0] rfl ?_
        exact t_X0_plugIn_43 hls hC hl hE h
      · exact xk_r (xt_out hC hE (bk_r h) (Nat.le_of_ble_eq_true rfl) (Nat.le_of_ble_eq_true rfl))
theorem c_X0_plugIn (l : Launch) (hls : l.stackTraces = false) {S : mS} {a0 : Nat} {a1 : Int32} {a2 : Int32} {o : Rs Int32} (h : f_X0_plugIn S a0 a1 a2 = some o) : CT (fun r : Int32 => some (.int r)) l yX0_plugIn (.code yX0_plugIn cX0_plugIn 3 (Option.some Jvm.ClassFile.FieldType.int)) rm_X0_plugIn S [.ref a0, .int a1, .int a2] o := ct_of (by decide +kernel) hls (Nat.le_of_ble_eq_true rfl) (fun C hl hC hE => t_X0_plugIn hls hC hl hE h)
abbrev rm_X0_unplug : Room := { frames := 8, cells := 0, slots := 0, locals := 150 }
def f_X0_unplug (S : mS) (a0 : Nat) : Option (Rs Int32) :=
  gd (gK S a0 = 6) (lt9 (gI S a0 2) fun x2 => zI (sI S a0 2 (0 : Int32)) fun S3 => some (.inl x2, S3))
set_option maxHeartbeats 2000000 in
set_option maxRecDepth 100000 in
theorem t_X0_unplug {l : Launch} (hls : l.stackTraces = false) {C : cT} (hC : CX C cX0_unplug 2 yX0_unplug rm_X0_unplug) (hl : C.2.1 = l) {S0 : mS} (hE : CE C S0 (Option.some Jvm.ClassFile.FieldType.int) []) {o : Rs Int32} {S : mS} {a0 : Nat} (h : f_X0_unplug S a0 = some o) : XX C 2 (QQ C (fun r : Int32 => some (.int r)) S0 o) 0 0 S 0 [(0, .ref a0)] [] := by
  unfold f_X0_unplug at h
  refine x_aload_n (pc := 0) hC 0 dX0_unplug_0 rfl rfl ?_
  obtain ⟨g1, h⟩ := gd_some h
  refine x_getIv (pc := 1) (k := 2) hC fc_6 fl_RX0_30 dX0_unplug_1 rfl g1 (fun x2 hx2 => ?_)
  replace h := lt_x hx2 h
  refine x_istore_n (pc := 4) hC dX0_unplug_4 rfl (by decide) (by decide) rfl ?_
  refine x_aload_n (pc := 5) hC 1 dX0_unplug_5 rfl rfl ?_
  refine x_iconst (pc := 6) (v := (0 : Int32)) hC dX0_unplug_6 (by decide) ?_
  refine x_putIv (pc := 7) (k := 2) hC fc_6 fl_RX0_30 dX0_unplug_7 rfl rfl (nf_int _) g1 (fun S3 hS3 => ?_)
  replace h := zI_x hS3 h
  have g4 : gK S3 a0 = 6 := by rw [hS3]; exact g1
  refine x_iload_n (pc := 10) hC 0 dX0_unplug_10 rfl rfl ?_
  exact x_ireturn (pc := 11) hC hE dX0_unplug_11 (so h) (Nat.le_of_ble_eq_true rfl) (Nat.le_of_ble_eq_true rfl)
theorem c_X0_unplug (l : Launch) (hls : l.stackTraces = false) {S : mS} {a0 : Nat} {o : Rs Int32} (h : f_X0_unplug S a0 = some o) : CT (fun r : Int32 => some (.int r)) l yX0_unplug (.code yX0_unplug cX0_unplug 2 (Option.some Jvm.ClassFile.FieldType.int)) rm_X0_unplug S [.ref a0] o := ct_of (by decide +kernel) hls (Nat.le_of_ble_eq_true rfl) (fun C hl hC hE => t_X0_unplug hls hC hl hE h)
abbrev rm_X0_effectAt : Room := { frames := 8, cells := 0, slots := 0, locals := 150 }
def f_X0_effectAt_41  (S : mS) (s0 : Nat) : Option (Rs Nat) :=
  some (.inl s0, S)
set_option maxHeartbeats 2000000 in
set_option maxRecDepth 100000 in
theorem t_X0_effectAt_41 {l : Launch} (hls : l.stackTraces = false) {C : cT} (hC : CX C cX0_effectAt 3 yX0_effectAt rm_X0_effectAt) (hl : C.2.1 = l) {S0 : mS} (hE : CE C S0 (Option.some (Jvm.ClassFile.FieldType.object "MixBooth$Effect")) []) {o : Rs Nat} {S : mS} {s0 : Nat} (h : f_X0_effectAt_41  S s0 = some o) : XX C 3 (QQ C (fun r : Nat => some (.ref r)) S0 o) (0) (0) S 41 [] [.ref s0] := by
  unfold f_X0_effectAt_41 at h
  exact x_areturn (pc := 41) hC hE (Or.inl ⟨_, rfl⟩) dX0_effectAt_41 (so h) (Nat.le_of_ble_eq_true rfl) (Nat.le_of_ble_eq_true rfl)
def f_X0_effectAt_26  (S : mS) (a0 : Nat) (a1 : Int32) (s0 : Int32) : Option (Rs Nat) :=
  if s0 = 0 then (f_X0_effectAt_41  S 0) else (gd (gK S a0 = 6) (lt9 (gR S a0 1) fun r2 => gd (gK S r2 = 35) (gd (¬ (a1 < 0 ∨ gZ S r2 ≤ (a1).toNatClampNeg)) (lt9 (gR S r2 (a1).toNatClampNeg) fun r6 => f_X0_effectAt_41  S r6))))
set_option maxHeartbeats 2000000 in
set_option maxRecDepth 100000 in
theorem t_X0_effectAt_26 {l : Launch} (hls : l.stackTraces = false) {C : cT} (hC : CX C cX0_effectAt 3 yX0_effectAt rm_X0_effectAt) (hl : C.2.1 = l) {S0 : mS} (hE : CE C S0 (Option.some (Jvm.ClassFile.FieldType.object "MixBooth$Effect")) []) {o : Rs Nat} {S : mS} {a0 : Nat} {a1 : Int32} {s0 : Int32} (h : f_X0_effectAt_26  S a0 a1 s0 = some o) : XX C 3 (QQ C (fun r : Nat => some (.ref r)) S0 o) (0) (0) S 26 [(0, .ref a0), (1, .int a1)] [.int s0] := by
  unfold f_X0_effectAt_26 at h
  refine x_istore_n (pc := 26) hC dX0_effectAt_26 rfl (by decide) (by decide) rfl ?_
  refine x_iload_n (pc := 27) hC 0 dX0_effectAt_27 rfl rfl ?_
  refine x_if_eq (pc := 28) hC 40 dX0_effectAt_28 (by decide) (fun c7 => ?_) (fun c7 => ?_)
  · rw [if_pos c7] at h
    refine x_null (pc := 40) hC dX0_effectAt_40 ?_
    refine x_pick [] rfl ?_
    exact t_X0_effectAt_41 hls hC hl hE h
  · rw [if_neg c7] at h
    refine x_aload_n (pc := 31) hC 1 dX0_effectAt_31 rfl rfl ?_
    obtain ⟨g1, h⟩ := gd_some h
    refine x_getRv (pc := 32) (k := 1) hC fc_6 fl_RX0_17 dX0_effectAt_32 rfl g1 (fun r2 hr2 => ?_)
    replace h := lt_x hr2 h
    refine x_iload_n (pc := 35) hC 2 dX0_effectAt_35 rfl rfl ?_
    obtain ⟨g5, h⟩ := gd_some h
    obtain ⟨g4, h⟩ := gd_some h
    refine x_raldv (pc := 36) (t0 := 5) hC dX0_effectAt_36 g5 (by decide) (fun _ => rfl) g4 (fun r6 hr6 => ?_)
    replace h := lt_x hr6 h
    refine x_goto (pc := 37) hC 41 dX0_effectAt_37 (by decide) ?_
    refine x_pick [] rfl ?_
    exact t_X0_effectAt_41 hls hC hl hE h
def f_X0_effectAt_25  (S : mS) (a0 : Nat) (a1 : Int32) : Option (Rs Nat) :=
  f_X0_effectAt_26  S a0 a1 (0 : Int32)
set_option maxHeartbeats 2000000 in
set_option maxRecDepth 100000 in
theorem t_X0_effectAt_25 {l : Launch} (hls : l.stackTraces = false) {C : cT} (hC : CX C cX0_effectAt 3 yX0_effectAt rm_X0_effectAt) (hl : C.2.1 = l) {S0 : mS} (hE : CE C S0 (Option.some (Jvm.ClassFile.FieldType.object "MixBooth$Effect")) []) {o : Rs Nat} {S : mS} {a0 : Nat} {a1 : Int32} (h : f_X0_effectAt_25  S a0 a1 = some o) : XX C 3 (QQ C (fun r : Nat => some (.ref r)) S0 o) (0) (0) S 25 [(0, .ref a0), (1, .int a1)] [] := by
  unfold f_X0_effectAt_25 at h
  refine x_iconst (pc := 25) (v := (0 : Int32)) hC dX0_effectAt_25 (by decide) ?_
  refine x_pick [0, 1] rfl ?_
  exact t_X0_effectAt_26 hls hC hl hE h
def f_X0_effectAt (S : mS) (a0 : Nat) (a1 : Int32) : Option (Rs Nat) :=
  if a1 < 0 then (f_X0_effectAt_25  S a0 a1) else (gd (gK S a0 = 6) (lt9 (gI S a0 2) fun x2 => if x2 ≤ a1 then (f_X0_effectAt_25  S a0 a1) else (lt9 (gR S a0 1) fun r3 => gd (gK S r3 = 35) (lt9 (Int32.ofNat (gZ S r3)) fun x5 => if x5 ≤ a1 then (f_X0_effectAt_25  S a0 a1) else (f_X0_effectAt_26  S a0 a1 (1 : Int32))))))
set_option maxHeartbeats 2000000 in
set_option maxRecDepth 100000 in
theorem t_X0_effectAt {l : Launch} (hls : l.stackTraces = false) {C : cT} (hC : CX C cX0_effectAt 3 yX0_effectAt rm_X0_effectAt) (hl : C.2.1 = l) {S0 : mS} (hE : CE C S0 (Option.some (Jvm.ClassFile.FieldType.object "MixBooth$Effect")) []) {o : Rs Nat} {S : mS} {a0 : Nat} {a1 : Int32} (h : f_X0_effectAt S a0 a1 = some o) : XX C 3 (QQ C (fun r : Nat => some (.ref r)) S0 o) 0 0 S 0 [(0, .ref a0), (1, .int a1)] [] := by
  unfold f_X0_effectAt at h
  refine x_iload_n (pc := 0) hC 1 dX0_effectAt_0 rfl rfl ?_
  refine x_if_lt (pc := 1) hC 25 dX0_effectAt_1 (by decide) (fun c8 => ?_) (fun c8 => ?_)
  · rw [if_pos c8] at h
    refine x_pick [0, 1] rfl ?_
    exact t_X0_effectAt_25 hls hC hl hE h
  · rw [if_neg c8] at h
    refine x_iload_n (pc := 4) hC 1 dX0_effectAt_4 rfl rfl ?_
    refine x_aload_n (pc := 5) hC 0 dX0_effectAt_5 rfl rfl ?_
    obtain ⟨g1, h⟩ := gd_some h
    refine x_getIv (pc := 6) (k := 2) hC fc_6 fl_RX0_30 dX0_effectAt_6 rfl g1 (fun x2 hx2 => ?_)
    replace h := lt_x hx2 h
    refine x_icmp_ge (pc := 9) hC 25 dX0_effectAt_9 (by decide) (fun c7 => ?_) (fun c7 => ?_)
    · rw [if_pos c7] at h
      refine x_pick [0, 1] rfl ?_
      exact t_X0_effectAt_25 hls hC hl hE h
    · rw [if_neg c7] at h
      refine x_iload_n (pc := 12) hC 1 dX0_effectAt_12 rfl rfl ?_
      refine x_aload_n (pc := 13) hC 0 dX0_effectAt_13 rfl rfl ?_
      refine x_getRv (pc := 14) (k := 1) hC fc_6 fl_RX0_17 dX0_effectAt_14 rfl g1 (fun r3 hr3 => ?_)
      replace h := lt_x hr3 h
      obtain ⟨g4, h⟩ := gd_some h
      refine x_alenv (pc := 17) (t0 := 5) hC dX0_effectAt_17 g4 (by decide) (fun _ => rfl) (fun x5 hx5 => ?_)
      replace h := lt_x hx5 h
      refine x_icmp_ge (pc := 18) hC 25 dX0_effectAt_18 (by decide) (fun c6 => ?_) (fun c6 => ?_)
      · rw [if_pos c6] at h
        refine x_pick [0, 1] rfl ?_
        exact t_X0_effectAt_25 hls hC hl hE h
      · rw [if_neg c6] at h
        refine x_iconst (pc := 21) (v := (1 : Int32)) hC dX0_effectAt_21 (by decide) ?_
        refine x_goto (pc := 22) hC 26 dX0_effectAt_22 (by decide) ?_
        refine x_pick [0, 1] rfl ?_
        exact t_X0_effectAt_26 hls hC hl hE h
theorem c_X0_effectAt (l : Launch) (hls : l.stackTraces = false) {S : mS} {a0 : Nat} {a1 : Int32} {o : Rs Nat} (h : f_X0_effectAt S a0 a1 = some o) : CT (fun r : Nat => some (.ref r)) l yX0_effectAt (.code yX0_effectAt cX0_effectAt 3 (Option.some (Jvm.ClassFile.FieldType.object "MixBooth$Effect"))) rm_X0_effectAt S [.ref a0, .int a1] o := ct_of (by decide +kernel) hls (Nat.le_of_ble_eq_true rfl) (fun C hl hC hE => t_X0_effectAt hls hC hl hE h)
abbrev rm_X3_nextTail : Room := { frames := 8, cells := 0, slots := 0, locals := 150 }
def f_X3_nextTail_78  (S : mS) (a0 : Nat) : Option (Rs Int32) :=
  gd (gK S a0 = 9) (lt9 (gI S a0 2) fun x2 => some (.inl x2, S))
set_option maxHeartbeats 2000000 in
set_option maxRecDepth 100000 in
theorem t_X3_nextTail_78 {l : Launch} (hls : l.stackTraces = false) {C : cT} (hC : CX C cX3_nextTail 3 yX3_nextTail rm_X3_nextTail) (hl : C.2.1 = l) {S0 : mS} (hE : CE C S0 (Option.some Jvm.ClassFile.FieldType.int) []) {o : Rs Int32} {S : mS} {a0 : Nat} (h : f_X3_nextTail_78  S a0 = some o) : XX C 3 (QQ C (fun r : Int32 => some (.int r)) S0 o) (0) (0) S 78 [(0, .ref a0)] [] := by
  unfold f_X3_nextTail_78 at h
  refine x_aload_n (pc := 78) hC 0 dX3_nextTail_78 rfl rfl ?_
  obtain ⟨g1, h⟩ := gd_some h
  refine x_getIv (pc := 79) (k := 2) hC fc_9 fl_RX3_17 dX3_nextTail_79 rfl g1 (fun x2 hx2 => ?_)
  replace h := lt_x hx2 h
  exact x_ireturn (pc := 82) hC hE dX3_nextTail_82 (so h) (Nat.le_of_ble_eq_true rfl) (Nat.le_of_ble_eq_true rfl)
def f_X3_nextTail_74  (S : mS) (a0 : Nat) (s0 : Nat) (s1 : Int32) (s2 : Int32) : Option (Rs Int32) :=
  lt9 (s1 - s2) fun x1 => gd (gK S s0 = 9) (zI (sI S s0 2 x1) fun S3 => f_X3_nextTail_78  S3 a0)
set_option maxHeartbeats 2000000 in
set_option maxRecDepth 100000 in
theorem t_X3_nextTail_74 {l : Launch} (hls : l.stackTraces = false) {C : cT} (hC : CX C cX3_nextTail 3 yX3_nextTail rm_X3_nextTail) (hl : C.2.1 = l) {S0 : mS} (hE : CE C S0 (Option.some Jvm.ClassFile.FieldType.int) []) {o : Rs Int32} {S : mS} {a0 : Nat} {s0 : Nat} {s1 : Int32} {s2 : Int32} (h : f_X3_nextTail_74  S a0 s0 s1 s2 = some o) : XX C 3 (QQ C (fun r : Int32 => some (.int r)) S0 o) (0) (0) S 74 [(0, .ref a0)] [.int s2, .int s1, .ref s0] := by
  unfold f_X3_nextTail_74 at h
  refine x_isubv (pc := 74) hC dX3_nextTail_74 (fun x1 hx1 => ?_)
  replace h := lt_x hx1 h
  obtain ⟨g2, h⟩ := gd_some h
  refine x_putIv (pc := 75) (k := 2) hC fc_9 fl_RX3_17 dX3_nextTail_75 rfl rfl (nf_int _) g2 (fun S3 hS3 => ?_)
  replace h := zI_x hS3 h
  have g4 : gK S3 s0 = 9 := by rw [hS3]; exact g2
  refine x_pick [0] rfl ?_
  exact t_X3_nextTail_78 hls hC hl hE h
def f_X3_nextTail (S : mS) (a0 : Nat) (a1 : Int32) : Option (Rs Int32) :=
  gd (gK S a0 = 9) (lt9 (gI S a0 0) fun x2 => if x2 = (99 : Int32) then (some (.inl (0 : Int32), S)) else (lt9 (gI S a0 1) fun x3 => lt9 (a1 * x3) fun x4 => gd (¬ (100 : Int32) = 0) (lt9 (x4 / (100 : Int32)) fun x5 => lt9 (gI S a0 2) fun x7 => if x5 ≤ x7 then (lt9 (gI S a0 2) fun x8 => lt9 (gI S a0 0) fun x9 => if x9 = (101 : Int32) then (lt9 (gI S a0 2) fun x14 => lt9 (x14 + (19 : Int32)) fun x15 => gd (¬ (20 : Int32) = 0) (lt9 (x15 / (20 : Int32)) fun x16 => f_X3_nextTail_74  S a0 a0 x8 x16)) else (lt9 (gI S a0 2) fun x10 => lt9 (x10 + (49 : Int32)) fun x11 => gd (¬ (50 : Int32) = 0) (lt9 (x11 / (50 : Int32)) fun x12 => f_X3_nextTail_74  S a0 a0 x8 x12))) else (zI (sI S a0 2 x5) fun S19 => f_X3_nextTail_78  S19 a0))))
set_option maxHeartbeats 2000000 in
set_option maxRecDepth 100000 in
theorem t_X3_nextTail {l : Launch} (hls : l.stackTraces = false) {C : cT} (hC : CX C cX3_nextTail 3 yX3_nextTail rm_X3_nextTail) (hl : C.2.1 = l) {S0 : mS} (hE : CE C S0 (Option.some Jvm.ClassFile.FieldType.int) []) {o : Rs Int32} {S : mS} {a0 : Nat} {a1 : Int32} (h : f_X3_nextTail S a0 a1 = some o) : XX C 3 (QQ C (fun r : Int32 => some (.int r)) S0 o) 0 0 S 0 [(0, .ref a0), (1, .int a1)] [] := by
  unfold f_X3_nextTail at h
  refine x_aload_n (pc := 0) hC 0 dX3_nextTail_0 rfl rfl ?_
  obtain ⟨g1, h⟩ := gd_some h
  refine x_getIv (pc := 1) (k := 0) hC fc_9 fl_RX3_7 dX3_nextTail_1 rfl g1 (fun x2 hx2 => ?_)
  replace h := lt_x hx2 h
  refine x_bipush (pc := 4) (v := (99 : Int32)) hC dX3_nextTail_4 (by decide) ?_
  refine x_icmp_ne (pc := 6) hC 11 dX3_nextTail_6 (by decide) (fun c22 => ?_) (fun c22 => ?_)
  · rw [if_neg c22] at h
    refine x_iload_n (pc := 11) hC 1 dX3_nextTail_11 rfl rfl ?_
    refine x_aload_n (pc := 12) hC 0 dX3_nextTail_12 rfl rfl ?_
    refine x_getIv (pc := 13) (k := 1) hC fc_9 fl_RX3_13 dX3_nextTail_13 rfl g1 (fun x3 hx3 => ?_)
    replace h := lt_x hx3 h
    refine x_imulv (pc := 16) hC dX3_nextTail_16 (fun x4 hx4 => ?_)
    replace h := lt_x hx4 h
    refine x_bipush (pc := 17) (v := (100 : Int32)) hC dX3_nextTail_17 (by decide) ?_
    obtain ⟨g6, h⟩ := gd_some h
    refine x_idivv (pc := 19) hC dX3_nextTail_19 g6 (fun x5 hx5 => ?_)
    replace h := lt_x hx5 h
    refine x_istore_n (pc := 20) hC dX3_nextTail_20 rfl (by decide) (by decide) rfl ?_
    refine x_iload_n (pc := 21) hC 0 dX3_nextTail_21 rfl rfl ?_
    refine x_aload_n (pc := 22) hC 1 dX3_nextTail_22 rfl rfl ?_
    refine x_getIv (pc := 23) (k := 2) hC fc_9 fl_RX3_17 dX3_nextTail_23 rfl g1 (fun x7 hx7 => ?_)
    replace h := lt_x hx7 h
    refine x_icmp_le (pc := 26) hC 37 dX3_nextTail_26 (by decide) (fun c21 => ?_) (fun c21 => ?_)
    · rw [if_pos c21] at h
      refine x_aload_n (pc := 37) hC 1 dX3_nextTail_37 rfl rfl ?_
      refine x_dup (pc := 38) hC dX3_nextTail_38 rfl ?_
      refine x_getIv (pc := 39) (k := 2) hC fc_9 fl_RX3_17 dX3_nextTail_39 rfl g1 (fun x8 hx8 => ?_)
      replace h := lt_x hx8 h
      refine x_aload_n (pc := 42) hC 1 dX3_nextTail_42 rfl rfl ?_
      refine x_getIv (pc := 43) (k := 0) hC fc_9 fl_RX3_7 dX3_nextTail_43 rfl g1 (fun x9 hx9 => ?_)
      replace h := lt_x hx9 h
      refine x_bipush (pc := 46) (v := (101 : Int32)) hC dX3_nextTail_46 (by decide) ?_
      refine x_icmp_ne (pc := 48) hC 64 dX3_nextTail_48 (by decide) (fun c18 => ?_) (fun c18 => ?_)
      · rw [if_neg c18] at h
        refine x_aload_n (pc := 64) hC 1 dX3_nextTail_64 rfl rfl ?_
        refine x_getIv (pc := 65) (k := 2) hC fc_9 fl_RX3_17 dX3_nextTail_65 rfl g1 (fun x10 hx10 => ?_)
        replace h := lt_x hx10 h
        refine x_bipush (pc := 68) (v := (49 : Int32)) hC dX3_nextTail_68 (by decide) ?_
        refine x_iaddv (pc := 70) hC dX3_nextTail_70 (fun x11 hx11 => ?_)
        replace h := lt_x hx11 h
        refine x_bipush (pc := 71) (v := (50 : Int32)) hC dX3_nextTail_71 (by decide) ?_
        obtain ⟨g13, h⟩ := gd_some h
        refine x_idivv (pc := 73) hC dX3_nextTail_73 g13 (fun x12 hx12 => ?_)
        replace h := lt_x hx12 h
        refine x_pick [1] rfl ?_
        exact t_X3_nextTail_74 hls hC hl hE h
      · rw [if_pos c18] at h
        refine x_aload_n (pc := 51) hC 1 dX3_nextTail_51 rfl rfl ?_
        refine x_getIv (pc := 52) (k := 2) hC fc_9 fl_RX3_17 dX3_nextTail_52 rfl g1 (fun x14 hx14 => ?_)
        replace h := lt_x hx14 h
        refine x_bipush (pc := 55) (v := (19 : Int32)) hC dX3_nextTail_55 (by decide) ?_
        refine x_iaddv (pc := 57) hC dX3_nextTail_57 (fun x15 hx15 => ?_)
        replace h := lt_x hx15 h
        refine x_bipush (pc := 58) (v := (20 : Int32)) hC dX3_nextTail_58 (by decide) ?_
        obtain ⟨g17, h⟩ := gd_some h
        refine x_idivv (pc := 60) hC dX3_nextTail_60 g17 (fun x16 hx16 => ?_)
        replace h := lt_x hx16 h
        refine x_goto (pc := 61) hC 74 dX3_nextTail_61 (by decide) ?_
        refine x_pick [1] rfl ?_
        exact t_X3_nextTail_74 hls hC hl hE h
    · rw [if_neg c21] at h
      refine x_aload_n (pc := 29) hC 1 dX3_nextTail_29 rfl rfl ?_
      refine x_iload_n (pc := 30) hC 0 dX3_nextTail_30 rfl rfl ?_
      refine x_putIv (pc := 31) (k := 2) hC fc_9 fl_RX3_17 dX3_nextTail_31 rfl rfl (nf_int _) g1 (fun S19 hS19 => ?_)
      replace h := zI_x hS19 h
      have g20 : gK S19 a0 = 9 := by rw [hS19]; exact g1
      refine x_goto (pc := 34) hC 78 dX3_nextTail_34 (by decide) ?_
      refine x_pick [1] rfl ?_
      exact t_X3_nextTail_78 hls hC hl hE h
  · rw [if_pos c22] at h
    refine x_iconst (pc := 9) (v := (0 : Int32)) hC dX3_nextTail_9 (by decide) ?_
    exact x_ireturn (pc := 10) hC hE dX3_nextTail_10 (so h) (Nat.le_of_ble_eq_true rfl) (Nat.le_of_ble_eq_true rfl)
theorem c_X3_nextTail (l : Launch) (hls : l.stackTraces = false) {S : mS} {a0 : Nat} {a1 : Int32} {o : Rs Int32} (h : f_X3_nextTail S a0 a1 = some o) : CT (fun r : Int32 => some (.int r)) l yX3_nextTail (.code yX3_nextTail cX3_nextTail 3 (Option.some Jvm.ClassFile.FieldType.int)) rm_X3_nextTail S [.ref a0, .int a1] o := ct_of (by decide +kernel) hls (Nat.le_of_ble_eq_true rfl) (fun C hl hC hE => t_X3_nextTail hls hC hl hE h)
abbrev rm_X0_soundOf : Room := { frames := 9, cells := 0, slots := 0, locals := 172 }
def f_X0_soundOf_115  (S : mS) (s0 : Int32) : Option (Rs Int32) :=
  some (.inl s0, S)
set_option maxHeartbeats 2000000 in
set_option maxRecDepth 100000 in
theorem t_X0_soundOf_115 {l : Launch} (hls : l.stackTraces = false) {C : cT} (hC : CX C cX0_soundOf 7 yX0_soundOf rm_X0_soundOf) (hl : C.2.1 = l) {S0 : mS} (hE : CE C S0 (Option.some Jvm.ClassFile.FieldType.int) []) {o : Rs Int32} {S : mS} {s0 : Int32} (h : f_X0_soundOf_115  S s0 = some o) : XX C 7 (QQ C (fun r : Int32 => some (.int r)) S0 o) (0) (0) S 115 [] [.int s0] := by
  unfold f_X0_soundOf_115 at h
  exact x_ireturn (pc := 115) hC hE dX0_soundOf_115 (so h) (Nat.le_of_ble_eq_true rfl) (Nat.le_of_ble_eq_true rfl)
def f_X0_soundOf_111  (S : mS) (a1 : Int32) (a4 : Int32) : Option (Rs Int32) :=
  lt9 (a1 + a4) fun x1 => f_X0_soundOf_115  S x1
set_option maxHeartbeats 2000000 in
set_option maxRecDepth 100000 in
theorem t_X0_soundOf_111 {l : Launch} (hls : l.stackTraces = false) {C : cT} (hC : CX C cX0_soundOf 7 yX0_soundOf rm_X0_soundOf) (hl : C.2.1 = l) {S0 : mS} (hE : CE C S0 (Option.some Jvm.ClassFile.FieldType.int) []) {o : Rs Int32} {S : mS} {a1 : Int32} {a4 : Int32} (h : f_X0_soundOf_111  S a1 a4 = some o) : XX C 7 (QQ C (fun r : Int32 => some (.int r)) S0 o) (0) (0) S 111 [(1, .int a1), (4, .int a4)] [] := by
  unfold f_X0_soundOf_111 at h
  refine x_iload_n (pc := 111) hC 0 dX0_soundOf_111 rfl rfl ?_
  refine x_iload (pc := 112) hC 1 dX0_soundOf_112 rfl ?_
  refine x_iaddv (pc := 114) hC dX0_soundOf_114 (fun x1 hx1 => ?_)
  replace h := lt_x hx1 h
  refine x_pick [] rfl ?_
  exact t_X0_soundOf_115 hls hC hl hE h
def f_X0_soundOf_94  (S : mS) (a1 : Int32) (a4 : Int32) (a5 : Int32) (s0 : Int32) : Option (Rs Int32) :=
  if a5 = 0 then (f_X0_soundOf_111  S a1 a4) else (if s0 = 0 then (f_X0_soundOf_111  S a1 a4) else (f_X0_soundOf_115  S a4))
set_option maxHeartbeats 2000000 in
set_option maxRecDepth 100000 in
theorem t_X0_soundOf_94 {l : Launch} (hls : l.stackTraces = false) {C : cT} (hC : CX C cX0_soundOf 7 yX0_soundOf rm_X0_soundOf) (hl : C.2.1 = l) {S0 : mS} (hE : CE C S0 (Option.some Jvm.ClassFile.FieldType.int) []) {o : Rs Int32} {S : mS} {a1 : Int32} {a4 : Int32} {a5 : Int32} {s0 : Int32} (h : f_X0_soundOf_94  S a1 a4 a5 s0 = some o) : XX C 7 (QQ C (fun r : Int32 => some (.int r)) S0 o) (0) (0) S 94 [(1, .int a1), (4, .int a4), (5, .int a5)] [.int s0] := by
  unfold f_X0_soundOf_94 at h
  refine x_istore (pc := 94) hC dX0_soundOf_94 (by decide) (by decide) rfl ?_
  refine x_iload (pc := 96) hC 3 dX0_soundOf_96 rfl ?_
  refine x_if_eq (pc := 98) hC 111 dX0_soundOf_98 (by decide) (fun c2 => ?_) (fun c2 => ?_)
  · rw [if_pos c2] at h
    refine x_pick [1, 2] rfl ?_
    exact t_X0_soundOf_111 hls hC hl hE h
  · rw [if_neg c2] at h
    refine x_iload (pc := 101) hC 0 dX0_soundOf_101 rfl ?_
    refine x_if_eq (pc := 103) hC 111 dX0_soundOf_103 (by decide) (fun c1 => ?_) (fun c1 => ?_)
    · rw [if_pos c1] at h
      refine x_pick [1, 2] rfl ?_
      exact t_X0_soundOf_111 hls hC hl hE h
    · rw [if_neg c1] at h
      refine x_iload (pc := 106) hC 2 dX0_soundOf_106 rfl ?_
      refine x_goto (pc := 108) hC 115 dX0_soundOf_108 (by decide) ?_
      refine x_pick [] rfl ?_
      exact t_X0_soundOf_115 hls hC hl hE h
def f_X0_soundOf_77  (S : mS) (a1 : Int32) (a2 : Int64) (a4 : Int32) (a5 : Int32) : Option (Rs Int32) :=
  gd (¬ (60000000 : Int64) = 0) (lt9 (a2 - a2 / (60000000 : Int64) * (60000000 : Int64)) fun x1 => lt9 (lg_cmp x1 (30000000 : Int64)) fun x3 => if x3 < 0 then (f_X0_soundOf_94  S a1 a4 a5 (0 : Int32)) else (f_X0_soundOf_94  S a1 a4 a5 (1 : Int32)))
set_option maxHeartbeats 2000000 in
set_option maxRecDepth 100000 in
theorem t_X0_soundOf_77 {l : Launch} (hls : l.stackTraces = false) {C : cT} (hC : CX C cX0_soundOf 7 yX0_soundOf rm_X0_soundOf) (hl : C.2.1 = l) {S0 : mS} (hE : CE C S0 (Option.some Jvm.ClassFile.FieldType.int) []) {o : Rs Int32} {S : mS} {a1 : Int32} {a2 : Int64} {a4 : Int32} {a5 : Int32} (h : f_X0_soundOf_77  S a1 a2 a4 a5 = some o) : XX C 7 (QQ C (fun r : Int32 => some (.int r)) S0 o) (0) (0) S 77 [(1, .int a1), (2, .long a2), (4, .int a4), (5, .int a5)] [] := by
  unfold f_X0_soundOf_77 at h
  refine x_lload_n (pc := 77) hC 1 dX0_soundOf_77 rfl rfl ?_
  refine x_ldc2 (pc := 78) hC wm_595 dX0_soundOf_78 ?_
  obtain ⟨g2, h⟩ := gd_some h
  refine x_lremv (pc := 81) hC dX0_soundOf_81 g2 (fun x1 hx1 => ?_)
  replace h := lt_x hx1 h
  refine x_ldc2 (pc := 82) hC wm_596 dX0_soundOf_82 ?_
  refine x_lcmpv (pc := 85) hC dX0_soundOf_85 (fun x3 hx3 => ?_)
  replace h := lt_x hx3 h
  refine x_if_lt (pc := 86) hC 93 dX0_soundOf_86 (by decide) (fun c4 => ?_) (fun c4 => ?_)
  · rw [if_pos c4] at h
    refine x_iconst (pc := 93) (v := (0 : Int32)) hC dX0_soundOf_93 (by decide) ?_
    refine x_pick [0, 2, 3] rfl ?_
    exact t_X0_soundOf_94 hls hC hl hE h
  · rw [if_neg c4] at h
    refine x_iconst (pc := 89) (v := (1 : Int32)) hC dX0_soundOf_89 (by decide) ?_
    refine x_goto (pc := 90) hC 94 dX0_soundOf_90 (by decide) ?_
    refine x_pick [0, 2, 3] rfl ?_
    exact t_X0_soundOf_94 hls hC hl hE h
def f_X0_soundOf_69 (rc9 : mS → Nat → Int32 → Int64 → Int32 → Int32 → Int32 → Option (Rs Int32)) (S : mS) (a0 : Nat) (a1 : Int32) (a2 : Int64) (a4 : Int32) (a6 : Int32) (s0 : Int32) : Option (Rs Int32) :=
  lt9 (a6 + Int32.ofInt (1)) fun x1 => rc9 S a0 a1 a2 a4 s0 x1
set_option maxHeartbeats 2000000 in
set_option maxRecDepth 100000 in
theorem t_X0_soundOf_69 {l : Launch} (hls : l.stackTraces = false) {C : cT} (hC : CX C cX0_soundOf 7 yX0_soundOf rm_X0_soundOf) (hl : C.2.1 = l) {S0 : mS} (hE : CE C S0 (Option.some Jvm.ClassFile.FieldType.int) []) {o : Rs Int32} {rc9 : mS → Nat → Int32 → Int64 → Int32 → Int32 → Int32 → Option (Rs Int32)} (hrc9 : ∀ (S : mS) (a0 : Nat) (a1 : Int32) (a2 : Int64) (a4 : Int32) (a5 : Int32) (a6 : Int32), rc9 S a0 a1 a2 a4 a5 a6 = some o → XX C 7 (QQ C (fun r : Int32 => some (.int r)) S0 o) (0) (0) S 9 [(0, .ref a0), (1, .int a1), (2, .long a2), (4, .int a4), (5, .int a5), (6, .int a6)] []) {S : mS} {a0 : Nat} {a1 : Int32} {a2 : Int64} {a4 : Int32} {a6 : Int32} {s0 : Int32} (h : f_X0_soundOf_69 rc9 S a0 a1 a2 a4 a6 s0 = some o) : XX C 7 (QQ C (fun r : Int32 => some (.int r)) S0 o) (0) (0) S 69 [(0, .ref a0), (1, .int a1), (2, .long a2), (4, .int a4), (6, .int a6)] [.int s0] := by
  unfold f_X0_soundOf_69 at h
  refine x_istore (pc := 69) hC dX0_soundOf_69 (by decide) (by decide) rfl ?_
  obtain ⟨x1, hx1⟩ : ∃ z, z = (a6 + Int32.ofInt (1)) := ⟨_, rfl⟩
  replace h := lt_x hx1 h
  refine x_iinc (pc := 71) hC 5 dX0_soundOf_71 rfl hx1.symm (by decide) (by decide) rfl ?_
  refine x_goto (pc := 74) hC 9 dX0_soundOf_74 (by decide) ?_
  refine x_pick [2, 3, 4, 5, 1, 0] rfl ?_
  exact hrc9 _ _ _ _ _ _ _ h
def f_X0_soundOf_64 (rc9 : mS → Nat → Int32 → Int64 → Int32 → Int32 → Int32 → Option (Rs Int32)) (S : mS) (a0 : Nat) (a1 : Int32) (a2 : Int64) (a4 : Int32) (a6 : Int32) : Option (Rs Int32) :=
  f_X0_soundOf_69 (rc9) S a0 a1 a2 a4 a6 (1 : Int32)
set_option maxHeartbeats 2000000 in
set_option maxRecDepth 100000 in
theorem t_X0_soundOf_64 {l : Launch} (hls : l.stackTraces = false) {C : cT} (hC : CX C cX0_soundOf 7 yX0_soundOf rm_X0_soundOf) (hl : C.2.1 = l) {S0 : mS} (hE : CE C S0 (Option.some Jvm.ClassFile.FieldType.int) []) {o : Rs Int32} {rc9 : mS → Nat → Int32 → Int64 → Int32 → Int32 → Int32 → Option (Rs Int32)} (hrc9 : ∀ (S : mS) (a0 : Nat) (a1 : Int32) (a2 : Int64) (a4 : Int32) (a5 : Int32) (a6 : Int32), rc9 S a0 a1 a2 a4 a5 a6 = some o → XX C 7 (QQ C (fun r : Int32 => some (.int r)) S0 o) (0) (0) S 9 [(0, .ref a0), (1, .int a1), (2, .long a2), (4, .int a4), (5, .int a5), (6, .int a6)] []) {S : mS} {a0 : Nat} {a1 : Int32} {a2 : Int64} {a4 : Int32} {a6 : Int32} (h : f_X0_soundOf_64 rc9 S a0 a1 a2 a4 a6 = some o) : XX C 7 (QQ C (fun r : Int32 => some (.int r)) S0 o) (0) (0) S 64 [(0, .ref a0), (1, .int a1), (2, .long a2), (4, .int a4), (6, .int a6)] [] := by
  unfold f_X0_soundOf_64 at h
  refine x_iconst (pc := 64) (v := (1 : Int32)) hC dX0_soundOf_64 (by decide) ?_
  refine x_goto (pc := 65) hC 69 dX0_soundOf_65 (by decide) ?_
  refine x_pick [0, 1, 2, 3, 4] rfl ?_
  exact t_X0_soundOf_69 hls hC hl hE hrc9 h
def f_X0_soundOf_9  : Nat → mS → Nat → Int32 → Int64 → Int32 → Int32 → Int32 → Option (Rs Int32)
  | 0, _, _, _, _, _, _, _ => none
  | k + 1, S, a0, a1, a2, a4, a5, a6 => gd (gK S a0 = 6) (lt9 (gI S a0 2) fun x2 => if x2 ≤ a6 then (f_X0_soundOf_77  S a1 a2 a4 a5) else (lt9 (gR S a0 1) fun r3 => gd (gK S r3 = 35) (lt9 (Int32.ofNat (gZ S r3)) fun x5 => if x5 ≤ a6 then (f_X0_soundOf_77  S a1 a2 a4 a5) else (lt9 (gR S a0 1) fun r6 => gd (gK S r6 = 35) (gd (¬ (a6 < 0 ∨ gZ S r6 ≤ (a6).toNatClampNeg)) (lt9 (gR S r6 (a6).toNatClampNeg) fun r10 => gd (gK S r10 = 9) (bd (f_X3_nextTail S r10 a1) fun x12 S13 => lt9 (a4 + x12) fun x16 => if a5 = 0 then (gd (gK S13 a0 = 6) (lt9 (gR S13 a0 1) fun r18 => gd (gK S13 r18 = 35) (gd (¬ (a6 < 0 ∨ gZ S13 r18 ≤ (a6).toNatClampNeg)) (lt9 (gR S13 r18 (a6).toNatClampNeg) fun r22 => gd (gK S13 r22 = 9) (lt9 (gI S13 r22 0) fun x24 => if x24 = (99 : Int32) then (f_X0_soundOf_64 (f_X0_soundOf_9 k) S13 a0 a1 a2 x16 a6) else (f_X0_soundOf_69 (f_X0_soundOf_9 k) S13 a0 a1 a2 x16 a6 (0 : Int32))))))) else (f_X0_soundOf_64 (f_X0_soundOf_9 k) S13 a0 a1 a2 x16 a6))))))))
set_option maxHeartbeats 2000000 in
set_option maxRecDepth 100000 in
theorem t_X0_soundOf_9 {l : Launch} (hls : l.stackTraces = false) {C : cT} (hC : CX C cX0_soundOf 7 yX0_soundOf rm_X0_soundOf) (hl : C.2.1 = l) {S0 : mS} (hE : CE C S0 (Option.some Jvm.ClassFile.FieldType.int) []) {o : Rs Int32} : ∀ (k : Nat) (S : mS) (a0 : Nat) (a1 : Int32) (a2 : Int64) (a4 : Int32) (a5 : Int32) (a6 : Int32), f_X0_soundOf_9  k S a0 a1 a2 a4 a5 a6 = some o → XX C 7 (QQ C (fun r : Int32 => some (.int r)) S0 o) (0) (0) S 9 [(0, .ref a0), (1, .int a1), (2, .long a2), (4, .int a4), (5, .int a5), (6, .int a6)] [] := by
  intro k
  induction k with
  | zero => intro S a0 a1 a2 a4 a5 a6 h; cases h
  | succ k ih =>
    intro S a0 a1 a2 a4 a5 a6 h
    unfold f_X0_soundOf_9 at h
    refine x_iload (pc := 9) hC 5 dX0_soundOf_9 rfl ?_
    refine x_aload_n (pc := 11) hC 0 dX0_soundOf_11 rfl rfl ?_
    obtain ⟨g1, h⟩ := gd_some h
    refine x_getIv (pc := 12) (k := 2) hC fc_6 fl_RX0_30 dX0_soundOf_12 rfl g1 (fun x2 hx2 => ?_)
    replace h := lt_x hx2 h
    refine x_icmp_ge (pc := 15) hC 77 dX0_soundOf_15 (by decide) (fun c28 => ?_) (fun c28 => ?_)
    · rw [if_pos c28] at h
      refine x_pick [1, 2, 3, 4] rfl ?_
      exact t_X0_soundOf_77 hls hC hl hE h
    · rw [if_neg c28] at h
      refine x_iload (pc := 18) hC 5 dX0_soundOf_18 rfl ?_
      refine x_aload_n (pc := 20) hC 0 dX0_soundOf_20 rfl rfl ?_
      refine x_getRv (pc := 21) (k := 1) hC fc_6 fl_RX0_17 dX0_soundOf_21 rfl g1 (fun r3 hr3 => ?_)
      replace h := lt_x hr3 h
      obtain ⟨g4, h⟩ := gd_some h
      refine x_alenv (pc := 24) (t0 := 5) hC dX0_soundOf_24 g4 (by decide) (fun _ => rfl) (fun x5 hx5 => ?_)
      replace h := lt_x hx5 h
      refine x_icmp_ge (pc := 25) hC 77 dX0_soundOf_25 (by decide) (fun c27 => ?_) (fun c27 => ?_)
      · rw [if_pos c27] at h
        refine x_pick [1, 2, 3, 4] rfl ?_
        exact t_X0_soundOf_77 hls hC hl hE h
      · rw [if_neg c27] at h
        refine x_iload (pc := 28) hC 3 dX0_soundOf_28 rfl ?_
        refine x_aload_n (pc := 30) hC 0 dX0_soundOf_30 rfl rfl ?_
        refine x_getRv (pc := 31) (k := 1) hC fc_6 fl_RX0_17 dX0_soundOf_31 rfl g1 (fun r6 hr6 => ?_)
        replace h := lt_x hr6 h
        refine x_iload (pc := 34) hC 5 dX0_soundOf_34 rfl ?_
        obtain ⟨g9, h⟩ := gd_some h
        obtain ⟨g8, h⟩ := gd_some h
        refine x_raldv (pc := 36) (t0 := 5) hC dX0_soundOf_36 g9 (by decide) (fun _ => rfl) g8 (fun r10 hr10 => ?_)
        replace h := lt_x hr10 h
        refine x_iload_n (pc := 37) hC 1 dX0_soundOf_37 rfl rfl ?_
        obtain ⟨g11, h⟩ := gd_some h
        obtain ⟨o14, ho14, h⟩ := bd_some h
        refine x_callV (pc := 38) (As := [.int a1]) (rest := [.int a4]) hC hl (c_X3_nextTail l hls ho14) lk_RX0_37 fc_9 g11 dX0_soundOf_38 rfl rfl (Nat.le_of_ble_eq_true rfl) ⟨Nat.le_of_ble_eq_true rfl, Nat.le_of_ble_eq_true rfl⟩ ⟨(Nat.le_of_ble_eq_true rfl), (Nat.le_of_ble_eq_true rfl)⟩ ?_
        rcases o14 with ⟨x12 | E15, S13⟩
        · refine xk_i ?_
          replace h := bk_l h
          refine x_iaddv (pc := 41) hC dX0_soundOf_41 (fun x16 hx16 => ?_)
          replace h := lt_x hx16 h
          refine x_istore (pc := 42) hC dX0_soundOf_42 (by decide) (by decide) rfl ?_
          refine x_iload (pc := 44) hC 4 dX0_soundOf_44 rfl ?_
          refine x_if_ne (pc := 46) hC 64 dX0_soundOf_46 (by decide) (fun c26 => ?_) (fun c26 => ?_)
          · rw [if_neg c26] at h
            refine x_pick [1, 2, 3, 0, 5] rfl ?_
            exact t_X0_soundOf_64 hls hC hl hE (fun z0 z1 z2 z3 z4 z5 z6 hz => ih z0 z1 z2 z3 z4 z5 z6 hz) h
          · rw [if_pos c26] at h
            refine x_aload_n (pc := 49) hC 1 dX0_soundOf_49 rfl rfl ?_
            obtain ⟨g17, h⟩ := gd_some h
            refine x_getRv (pc := 50) (k := 1) hC fc_6 fl_RX0_17 dX0_soundOf_50 rfl g17 (fun r18 hr18 => ?_)
            replace h := lt_x hr18 h
            refine x_iload (pc := 53) hC 5 dX0_soundOf_53 rfl ?_
            obtain ⟨g21, h⟩ := gd_some h
            obtain ⟨g20, h⟩ := gd_some h
            refine x_raldv (pc := 55) (t0 := 5) hC dX0_soundOf_55 g21 (by decide) (fun _ => rfl) g20 (fun r22 hr22 => ?_)
            replace h := lt_x hr22 h
            obtain ⟨g23, h⟩ := gd_some h
            refine x_getIv (pc := 56) (k := 0) hC fc_9 fl_RX0_41 dX0_soundOf_56 rfl g23 (fun x24 hx24 => ?_)
            replace h := lt_x hx24 h
            refine x_bipush (pc := 59) (v := (99 : Int32)) hC dX0_soundOf_59 (by decide) ?_
            refine x_icmp_ne (pc := 61) hC 68 dX0_soundOf_61 (by decide) (fun c25 => ?_) (fun c25 => ?_)
            · rw [if_neg c25] at h
              refine x_iconst (pc := 68) (v := (0 : Int32)) hC dX0_soundOf_68 (by decide) ?_
              refine x_pick [1, 2, 3, 0, 5] rfl ?_
              exact t_X0_soundOf_69 hls hC hl hE (fun z0 z1 z2 z3 z4 z5 z6 hz => ih z0 z1 z2 z3 z4 z5 z6 hz) h
            · rw [if_pos c25] at h
              refine x_pick [1, 2, 3, 0, 5] rfl ?_
              exact t_X0_soundOf_64 hls hC hl hE (fun z0 z1 z2 z3 z4 z5 z6 hz => ih z0 z1 z2 z3 z4 z5 z6 hz) h
        · exact xk_r (xt_out hC hE (bk_r h) (Nat.le_of_ble_eq_true rfl) (Nat.le_of_ble_eq_true rfl))
def f_X0_soundOf (S : mS) (a0 : Nat) (a1 : Int32) (a2 : Int64) : Option (Rs Int32) :=
  f_X0_soundOf_9  16 S a0 a1 a2 (0 : Int32) (0 : Int32) (0 : Int32)
set_option maxHeartbeats 2000000 in
set_option maxRecDepth 100000 in
theorem t_X0_soundOf {l : Launch} (hls : l.stackTraces = false) {C : cT} (hC : CX C cX0_soundOf 7 yX0_soundOf rm_X0_soundOf) (hl : C.2.1 = l) {S0 : mS} (hE : CE C S0 (Option.some Jvm.ClassFile.FieldType.int) []) {o : Rs Int32} {S : mS} {a0 : Nat} {a1 : Int32} {a2 : Int64} (h : f_X0_soundOf S a0 a1 a2 = some o) : XX C 7 (QQ C (fun r : Int32 => some (.int r)) S0 o) 0 0 S 0 [(0, .ref a0), (1, .int a1), (2, .long a2)] [] := by
  unfold f_X0_soundOf at h
  refine x_iconst (pc := 0) (v := (0 : Int32)) hC dX0_soundOf_0 (by decide) ?_
  refine x_istore (pc := 1) hC dX0_soundOf_1 (by decide) (by decide) rfl ?_
  refine x_iconst (pc := 3) (v := (0 : Int32)) hC dX0_soundOf_3 (by decide) ?_
  refine x_istore (pc := 4) hC dX0_soundOf_4 (by decide) (by decide) rfl ?_
  refine x_iconst (pc := 6) (v := (0 : Int32)) hC dX0_soundOf_6 (by decide) ?_
  refine x_istore (pc := 7) hC dX0_soundOf_7 (by decide) (by decide) rfl ?_
  refine x_pick [3, 4, 5, 2, 1, 0] rfl ?_
  exact t_X0_soundOf_9 hls hC hl hE 16 _ _ _ _ _ _ _ h
theorem c_X0_soundOf (l : Launch) (hls : l.stackTraces = false) {S : mS} {a0 : Nat} {a1 : Int32} {a2 : Int64} {o : Rs Int32} (h : f_X0_soundOf S a0 a1 a2 = some o) : CT (fun r : Int32 => some (.int r)) l yX0_soundOf (.code yX0_soundOf cX0_soundOf 7 (Option.some Jvm.ClassFile.FieldType.int)) rm_X0_soundOf S [.ref a0, .int a1, .long a2] o := ct_of (by decide +kernel) hls (Nat.le_of_ble_eq_true rfl) (fun C hl hC hE => t_X0_soundOf hls hC hl hE h)
abbrev rm_X1_init : Room := { frames := 10, cells := 12, slots := 39, locals := 191 }
def f_X1_init (S : mS) (a0 : Nat) : Option (Rs Unit) :=
  gd (gK S a0 = 7) (gd (gN S + 1 < KB) (zW (sW S 6 0) fun S3 => lt9 (gN S + 1) fun r4 => bd (f_X0_init S3 r4) fun _ S7 => gd (gK S7 a0 = 7) (zR (sR S7 a0 0 r4) fun S11 => gd (gN S11 + 1 < KB) (zW (sW S11 30 4) fun S14 => lt9 (gN S11 + 1) fun r15 => gd (gK S14 a0 = 7) (zR (sR S14 a0 1 r15) fun S18 => zI (sI S18 a0 7 (-1 : Int32)) fun S21 => zI (sI S21 a0 8 (-1 : Int32)) fun S24 => some (.inl (), S24))))))
set_option maxHeartbeats 2000000 in
set_option maxRecDepth 100000 in
theorem t_X1_init {l : Launch} (hls : l.stackTraces = false) {C : cT} (hC : CX C cX1_init 1 yX1_init rm_X1_init) (hl : C.2.1 = l) {S0 : mS} (hE : CE C S0 (Option.none : Option Jvm.ClassFile.FieldType) []) {o : Rs Unit} {S : mS} {a0 : Nat} (h : f_X1_init S a0 = some o) : XX C 1 (QQ C (fun _ : Unit => none) S0 o) 0 0 S 0 [(0, .ref a0)] [] := by
  unfold f_X1_init at h
  refine x_aload_n (pc := 0) hC 0 dX1_init_0 rfl rfl ?_
  obtain ⟨g1, h⟩ := gd_some h
  refine x_objInit (pc := 1) hC wm_160 wm_94 wm_95 dX1_init_1 (by rw [g1]; decide) (Nat.le_of_ble_eq_true rfl) (Nat.le_of_ble_eq_true rfl) ?_
  refine x_aload_n (pc := 4) hC 0 dX1_init_4 rfl rfl ?_
  obtain ⟨g2, h⟩ := gd_some h
  refine x_newv (pc := 5) hC fc_6 fn_6 wm_161 wm_162 wm_50 dX1_init_5 g2 (Nat.le_of_ble_eq_true rfl) (Nat.le_of_ble_eq_true rfl) (fun S3 r4 hS3 hr4 => ?_)
  replace h := zW_x hS3 h
  replace h := lt_x hr4 h
  have g5 : gK S3 r4 = 6 := by rw [hr4, hS3]; exact sW_K
  refine x_dup (pc := 8) hC dX1_init_8 rfl ?_
  obtain ⟨o8, ho8, h⟩ := bd_some h
  refine x_callI (pc := 9) (As := []) (rest := [.ref r4, .ref a0]) hC hl (c_X0_init l hls ho8) lk_RX1_11 (by rw [g5]; decide) dX1_init_9 rfl rfl (Nat.le_of_ble_eq_true rfl) ⟨Nat.le_of_ble_eq_true rfl, Nat.le_of_ble_eq_true rfl⟩ ⟨(Nat.le_of_ble_eq_true rfl), (Nat.le_of_ble_eq_true rfl)⟩ ?_
  rcases o8 with ⟨_ | E9, S7⟩
  · refine xk_v ?_
    replace h := bk_l h
    obtain ⟨g10, h⟩ := gd_some h
    refine x_putRFv (pc := 12) (k := 0) hC fc_7 wm_206 rfl dX1_init_12 rfl rfl rfl rfl (Or.inl ⟨_, rfl⟩) g10 (fun S11 hS11 => ?_)
    replace h := zR_x hS11 h
    have g12 : gK S11 a0 = 7 := by rw [hS11]; exact g10
    refine x_aload_n (pc := 15) hC 0 dX1_init_15 rfl rfl ?_
    refine x_iconst (pc := 16) (v := (4 : Int32)) hC dX1_init_16 (by decide) ?_
    obtain ⟨g13, h⟩ := gd_some h
    refine x_newaIv (pc := 17) (z := 4) hC wm_186 dX1_init_17 (by decide) (by decide) (Nat.le_of_ble_eq_true rfl) g13 (Nat.le_of_ble_eq_true rfl) (Nat.le_of_ble_eq_true rfl) (fun S14 r15 hS14 hr15 => ?_)
    replace h := zW_x hS14 h
    replace h := lt_x hr15 h
    have g16 : gK S14 r15 = 30 := by rw [hr15, hS14]; exact sW_K
    obtain ⟨g17, h⟩ := gd_some h
    refine x_putRFv (pc := 19) (k := 1) hC fc_7 wm_210 rfl dX1_init_19 rfl rfl rfl rfl (Or.inr ⟨_, rfl⟩) g17 (fun S18 hS18 => ?_)
    replace h := zR_x hS18 h
    have g19 : gK S18 r15 = 30 := by rw [hS18]; exact g16
    have g20 : gK S18 a0 = 7 := by rw [hS18]; exact g17
    refine x_aload_n (pc := 22) hC 0 dX1_init_22 rfl rfl ?_
    refine x_iconst (pc := 23) (v := (-1 : Int32)) hC dX1_init_23 (by decide) ?_
    refine x_putIv (pc := 24) (k := 7) hC fc_7 fl_RX1_22 dX1_init_24 rfl rfl (nf_int _) g20 (fun S21 hS21 => ?_)
    replace h := zI_x hS21 h
    have g22 : gK S21 r15 = 30 := by rw [hS21]; exact g19
    have g23 : gK S21 a0 = 7 := by rw [hS21]; exact g20
    refine x_aload_n (pc := 27) hC 0 dX1_init_27 rfl rfl ?_
    refine x_iconst (pc := 28) (v := (-1 : Int32)) hC dX1_init_28 (by decide) ?_
    refine x_putIv (pc := 29) (k := 8) hC fc_7 fl_RX1_26 dX1_init_29 rfl rfl (nf_int _) g23 (fun S24 hS24 => ?_)
    replace h := zI_x hS24 h
    have g25 : gK S24 r15 = 30 := by rw [hS24]; exact g22
    have g26 : gK S24 a0 = 7 := by rw [hS24]; exact g23
    exact x_vreturn (pc := 32) hC hE dX1_init_32 (so h) (Nat.le_of_ble_eq_true rfl) (Nat.le_of_ble_eq_true rfl)
  · exact xk_r (xt_out hC hE (bk_r h) (Nat.le_of_ble_eq_true rfl) (Nat.le_of_ble_eq_true rfl))
theorem c_X1_init (l : Launch) (hls : l.stackTraces = false) {S : mS} {a0 : Nat} {o : Rs Unit} (h : f_X1_init S a0 = some o) : CT (fun _ : Unit => none) l yX1_init (.code yX1_init cX1_init 1 (Option.none : Option Jvm.ClassFile.FieldType)) rm_X1_init S [.ref a0] o := ct_of (by decide +kernel) hls (Nat.le_of_ble_eq_true rfl) (fun C hl hC hE => t_X1_init hls hC hl hE h)
abbrev rm_X1_takeOff : Room := { frames := 8, cells := 0, slots := 0, locals := 150 }
def f_X1_takeOff_37  : Nat → mS → Nat → Int32 → Option (Rs Unit)
  | 0, _, _, _ => none
  | k + 1, S, a0, a1 => gd (gK S a0 = 7) (lt9 (gR S a0 1) fun r2 => gd (gK S r2 = 30) (lt9 (Int32.ofNat (gZ S r2)) fun x4 => if x4 ≤ a1 then (some (.inl (), S)) else (lt9 (gR S a0 1) fun r5 => gd (gK S r5 = 30) (gd (¬ (a1 < 0 ∨ gZ S r5 ≤ (a1).toNatClampNeg)) (zI (sI S r5 (a1).toNatClampNeg (-1 : Int32)) fun S8 => lt9 (a1 + Int32.ofInt (1)) fun x12 => f_X1_takeOff_37 k S8 a0 x12)))))
set_option maxHeartbeats 2000000 in
set_option maxRecDepth 100000 in
theorem t_X1_takeOff_37 {l : Launch} (hls : l.stackTraces = false) {C : cT} (hC : CX C cX1_takeOff 2 yX1_takeOff rm_X1_takeOff) (hl : C.2.1 = l) {S0 : mS} (hE : CE C S0 (Option.none : Option Jvm.ClassFile.FieldType) []) {o : Rs Unit} : ∀ (k : Nat) (S : mS) (a0 : Nat) (a1 : Int32), f_X1_takeOff_37  k S a0 a1 = some o → XX C 2 (QQ C (fun _ : Unit => none) S0 o) (0) (0) S 37 [(0, .ref a0), (1, .int a1)] [] := by
  intro k
  induction k with
  | zero => intro S a0 a1 h; cases h
  | succ k ih =>
    intro S a0 a1 h
    unfold f_X1_takeOff_37 at h
    refine x_iload_n (pc := 37) hC 1 dX1_takeOff_37 rfl rfl ?_
    refine x_aload_n (pc := 38) hC 0 dX1_takeOff_38 rfl rfl ?_
    obtain ⟨g1, h⟩ := gd_some h
    refine x_getRv (pc := 39) (k := 1) hC fc_7 fl_RX1_18 dX1_takeOff_39 rfl g1 (fun r2 hr2 => ?_)
    replace h := lt_x hr2 h
    obtain ⟨g3, h⟩ := gd_some h
    refine x_alenv (pc := 42) (t0 := 0) hC dX1_takeOff_42 g3 (by decide) (fun _ => rfl) (fun x4 hx4 => ?_)
    replace h := lt_x hx4 h
    refine x_icmp_ge (pc := 43) hC 59 dX1_takeOff_43 (by decide) (fun c13 => ?_) (fun c13 => ?_)
    · rw [if_pos c13] at h
      exact x_vreturn (pc := 59) hC hE dX1_takeOff_59 (so h) (Nat.le_of_ble_eq_true rfl) (Nat.le_of_ble_eq_true rfl)
    · rw [if_neg c13] at h
      refine x_aload_n (pc := 46) hC 0 dX1_takeOff_46 rfl rfl ?_
      refine x_getRv (pc := 47) (k := 1) hC fc_7 fl_RX1_18 dX1_takeOff_47 rfl g1 (fun r5 hr5 => ?_)
      replace h := lt_x hr5 h
      refine x_iload_n (pc := 50) hC 1 dX1_takeOff_50 rfl rfl ?_
      refine x_iconst (pc := 51) (v := (-1 : Int32)) hC dX1_takeOff_51 (by decide) ?_
      obtain ⟨g7, h⟩ := gd_some h
      obtain ⟨g6, h⟩ := gd_some h
      refine x_iastv (pc := 52) hC dX1_takeOff_52 g7 g6 (fun S8 hS8 => ?_)
      replace h := zI_x hS8 h
      have g9 : gK S8 a0 = 7 := by rw [hS8]; exact g1
      have g10 : gK S8 r2 = 30 := by rw [hS8]; exact g3
      have g11 : gK S8 r5 = 30 := by rw [hS8]; exact g7
      obtain ⟨x12, hx12⟩ : ∃ z, z = (a1 + Int32.ofInt (1)) := ⟨_, rfl⟩
      replace h := lt_x hx12 h
      refine x_iinc (pc := 53) hC 1 dX1_takeOff_53 rfl hx12.symm (by decide) (by decide) rfl ?_
      refine x_goto (pc := 56) hC 37 dX1_takeOff_56 (by decide) ?_
      refine x_pick [1, 0] rfl ?_
      exact ih _ _ _ h
def f_X1_takeOff (S : mS) (a0 : Nat) : Option (Rs Unit) :=
  gd (gK S a0 = 7) (zR (sR S a0 2 0) fun S2 => zL (sL S2 a0 3 (0 : Int64)) fun S4 => zI (sI S4 a0 5 (0 : Int32)) fun S6 => zI (sI S6 a0 6 (0 : Int32)) fun S8 => zI (sI S8 a0 7 (-1 : Int32)) fun S10 => zI (sI S10 a0 8 (-1 : Int32)) fun S12 => zI (sI S12 a0 10 (0 : Int32)) fun S14 => f_X1_takeOff_37  16 S14 a0 (0 : Int32))
set_option maxHeartbeats 2000000 in
set_option maxRecDepth 100000 in
theorem t_X1_takeOff {l : Launch} (hls : l.stackTraces = false) {C : cT} (hC : CX C cX1_takeOff 2 yX1_takeOff rm_X1_takeOff) (hl : C.2.1 = l) {S0 : mS} (hE : CE C S0 (Option.none : Option Jvm.ClassFile.FieldType) []) {o : Rs Unit} {S : mS} {a0 : Nat} (h : f_X1_takeOff S a0 = some o) : XX C 2 (QQ C (fun _ : Unit => none) S0 o) 0 0 S 0 [(0, .ref a0)] [] := by
  unfold f_X1_takeOff at h
  refine x_aload_n (pc := 0) hC 0 dX1_takeOff_0 rfl rfl ?_
  refine x_null (pc := 1) hC dX1_takeOff_1 ?_
  obtain ⟨g1, h⟩ := gd_some h
  refine x_putRv (pc := 2) (k := 2) hC fc_7 fl_RX1_29 dX1_takeOff_2 rfl rfl (Or.inl ⟨_, rfl⟩) g1 (fun S2 hS2 => ?_)
  replace h := zR_x hS2 h
  have g3 : gK S2 a0 = 7 := by rw [hS2]; exact g1
  refine x_aload_n (pc := 5) hC 0 dX1_takeOff_5 rfl rfl ?_
  refine x_lconst (pc := 6) (v := (0 : Int64)) hC dX1_takeOff_6 (by decide) ?_
  refine x_putLv (pc := 7) (k := 3) hC fc_7 fl_RX1_41 dX1_takeOff_7 rfl rfl rfl g3 (fun S4 hS4 => ?_)
  replace h := zL_x hS4 h
  have g5 : gK S4 a0 = 7 := by rw [hS4]; exact g3
  refine x_aload_n (pc := 10) hC 0 dX1_takeOff_10 rfl rfl ?_
  refine x_iconst (pc := 11) (v := (0 : Int32)) hC dX1_takeOff_11 (by decide) ?_
  refine x_putIv (pc := 12) (k := 5) hC fc_7 fl_RX1_45 dX1_takeOff_12 rfl rfl (show NF .boolean _ from ⟨rfl, rfl⟩) g5 (fun S6 hS6 => ?_)
  replace h := zI_x hS6 h
  have g7 : gK S6 a0 = 7 := by rw [hS6]; exact g5
  refine x_aload_n (pc := 15) hC 0 dX1_takeOff_15 rfl rfl ?_
  refine x_iconst (pc := 16) (v := (0 : Int32)) hC dX1_takeOff_16 (by decide) ?_
  refine x_putIv (pc := 17) (k := 6) hC fc_7 fl_RX1_49 dX1_takeOff_17 rfl rfl (nf_int _) g7 (fun S8 hS8 => ?_)
  replace h := zI_x hS8 h
  have g9 : gK S8 a0 = 7 := by rw [hS8]; exact g7
  refine x_aload_n (pc := 20) hC 0 dX1_takeOff_20 rfl rfl ?_
  refine x_iconst (pc := 21) (v := (-1 : Int32)) hC dX1_takeOff_21 (by decide) ?_
  refine x_putIv (pc := 22) (k := 7) hC fc_7 fl_RX1_22 dX1_takeOff_22 rfl rfl (nf_int _) g9 (fun S10 hS10 => ?_)
  replace h := zI_x hS10 h
  have g11 : gK S10 a0 = 7 := by rw [hS10]; exact g9
  refine x_aload_n (pc := 25) hC 0 dX1_takeOff_25 rfl rfl ?_
  refine x_iconst (pc := 26) (v := (-1 : Int32)) hC dX1_takeOff_26 (by decide) ?_
  refine x_putIv (pc := 27) (k := 8) hC fc_7 fl_RX1_26 dX1_takeOff_27 rfl rfl (nf_int _) g11 (fun S12 hS12 => ?_)
  replace h := zI_x hS12 h
  have g13 : gK S12 a0 = 7 := by rw [hS12]; exact g11
  refine x_aload_n (pc := 30) hC 0 dX1_takeOff_30 rfl rfl ?_
  refine x_iconst (pc := 31) (v := (0 : Int32)) hC dX1_takeOff_31 (by decide) ?_
  refine x_putIv (pc := 32) (k := 10) hC fc_7 fl_RX1_52 dX1_takeOff_32 rfl rfl (show NF .boolean _ from ⟨rfl, rfl⟩) g13 (fun S14 hS14 => ?_)
  replace h := zI_x hS14 h
  have g15 : gK S14 a0 = 7 := by rw [hS14]; exact g13
  refine x_iconst (pc := 35) (v := (0 : Int32)) hC dX1_takeOff_35 (by decide) ?_
  refine x_istore_n (pc := 36) hC dX1_takeOff_36 rfl (by decide) (by decide) rfl ?_
  refine x_pick [1, 0] rfl ?_
  exact t_X1_takeOff_37 hls hC hl hE 16 _ _ _ h
theorem c_X1_takeOff (l : Launch) (hls : l.stackTraces = false) {S : mS} {a0 : Nat} {o : Rs Unit} (h : f_X1_takeOff S a0 = some o) : CT (fun _ : Unit => none) l yX1_takeOff (.code yX1_takeOff cX1_takeOff 2 (Option.none : Option Jvm.ClassFile.FieldType)) rm_X1_takeOff S [.ref a0] o := ct_of (by decide +kernel) hls (Nat.le_of_ble_eq_true rfl) (fun C hl hC hE => t_X1_takeOff hls hC hl hE h)
abbrev rm_X1_putOn : Room := { frames := 9, cells := 0, slots := 0, locals := 171 }
def f_X1_putOn_18  (S : mS) (a0 : Nat) (a1 : Nat) (s0 : Int32) : Option (Rs Int32) :=
  gd (gK S a0 = 7) (bd (f_X1_takeOff S a0) fun _ S3 => gd (gK S3 a0 = 7) (zR (sR S3 a0 2 a1) fun S7 => some (.inl s0, S7)))
set_option maxHeartbeats 2000000 in
set_option maxRecDepth 100000 in
theorem t_X1_putOn_18 {l : Launch} (hls : l.stackTraces = false) {C : cT} (hC : CX C cX1_putOn 3 yX1_putOn rm_X1_putOn) (hl : C.2.1 = l) {S0 : mS} (hE : CE C S0 (Option.some Jvm.ClassFile.FieldType.int) []) {o : Rs Int32} {S : mS} {a0 : Nat} {a1 : Nat} {s0 : Int32} (h : f_X1_putOn_18  S a0 a1 s0 = some o) : XX C 3 (QQ C (fun r : Int32 => some (.int r)) S0 o) (0) (0) S 18 [(0, .ref a0), (1, .ref a1)] [.int s0] := by
  unfold f_X1_putOn_18 at h
  refine x_istore_n (pc := 18) hC dX1_putOn_18 rfl (by decide) (by decide) rfl ?_
  refine x_aload_n (pc := 19) hC 1 dX1_putOn_19 rfl rfl ?_
  obtain ⟨g1, h⟩ := gd_some h
  obtain ⟨o4, ho4, h⟩ := bd_some h
  refine x_callV (pc := 20) (As := []) (rest := []) hC hl (c_X1_takeOff l hls ho4) lk_RX1_38 fc_7 g1 dX1_putOn_20 rfl rfl (Nat.le_of_ble_eq_true rfl) ⟨Nat.le_of_ble_eq_true rfl, Nat.le_of_ble_eq_true rfl⟩ ⟨(Nat.le_of_ble_eq_true rfl), (Nat.le_of_ble_eq_true rfl)⟩ ?_
  rcases o4 with ⟨_ | E5, S3⟩
  · refine xk_v ?_
    replace h := bk_l h
    refine x_aload_n (pc := 23) hC 1 dX1_putOn_23 rfl rfl ?_
    refine x_aload_n (pc := 24) hC 2 dX1_putOn_24 rfl rfl ?_
    obtain ⟨g6, h⟩ := gd_some h
    refine x_putRv (pc := 25) (k := 2) hC fc_7 fl_RX1_29 dX1_putOn_25 rfl rfl (Or.inl ⟨_, rfl⟩) g6 (fun S7 hS7 => ?_)
    replace h := zR_x hS7 h
    have g8 : gK S7 a0 = 7 := by rw [hS7]; exact g6
    refine x_iload_n (pc := 28) hC 0 dX1_putOn_28 rfl rfl ?_
    exact x_ireturn (pc := 29) hC hE dX1_putOn_29 (so h) (Nat.le_of_ble_eq_true rfl) (Nat.le_of_ble_eq_true rfl)
  · exact xk_r (xt_out hC hE (bk_r h) (Nat.le_of_ble_eq_true rfl) (Nat.le_of_ble_eq_true rfl))
def f_X1_putOn (S : mS) (a0 : Nat) (a1 : Nat) : Option (Rs Int32) :=
  gd (gK S a0 = 7) (lt9 (gR S a0 2) fun r2 => if r2 = 0 then (f_X1_putOn_18  S a0 a1 (-1 : Int32)) else (lt9 (gR S a0 2) fun r3 => gd (gK S r3 = 8) (lt9 (gI S r3 0) fun x5 => f_X1_putOn_18  S a0 a1 x5)))
set_option maxHeartbeats 2000000 in
set_option maxRecDepth 100000 in
theorem t_X1_putOn {l : Launch} (hls : l.stackTraces = false) {C : cT} (hC : CX C cX1_putOn 3 yX1_putOn rm_X1_putOn) (hl : C.2.1 = l) {S0 : mS} (hE : CE C S0 (Option.some Jvm.ClassFile.FieldType.int) []) {o : Rs Int32} {S : mS} {a0 : Nat} {a1 : Nat} (h : f_X1_putOn S a0 a1 = some o) : XX C 3 (QQ C (fun r : Int32 => some (.int r)) S0 o) 0 0 S 0 [(0, .ref a0), (1, .ref a1)] [] := by
  unfold f_X1_putOn at h
  refine x_aload_n (pc := 0) hC 0 dX1_putOn_0 rfl rfl ?_
  obtain ⟨g1, h⟩ := gd_some h
  refine x_getRv (pc := 1) (k := 2) hC fc_7 fl_RX1_29 dX1_putOn_1 rfl g1 (fun r2 hr2 => ?_)
  replace h := lt_x hr2 h
  refine x_ifnonnull (pc := 4) hC 11 dX1_putOn_4 (by decide) (fun c6 => ?_) (fun c6 => ?_)
  · rw [if_neg c6] at h
    refine x_aload_n (pc := 11) hC 0 dX1_putOn_11 rfl rfl ?_
    refine x_getRv (pc := 12) (k := 2) hC fc_7 fl_RX1_29 dX1_putOn_12 rfl g1 (fun r3 hr3 => ?_)
    replace h := lt_x hr3 h
    obtain ⟨g4, h⟩ := gd_some h
    refine x_getIv (pc := 15) (k := 0) hC fc_8 fl_RX1_33 dX1_putOn_15 rfl g4 (fun x5 hx5 => ?_)
    replace h := lt_x hx5 h
    refine x_pick [0, 1] rfl ?_
    exact t_X1_putOn_18 hls hC hl hE h
  · rw [if_pos c6] at h
    refine x_iconst (pc := 7) (v := (-1 : Int32)) hC dX1_putOn_7 (by decide) ?_
    refine x_goto (pc := 8) hC 18 dX1_putOn_8 (by decide) ?_
    refine x_pick [0, 1] rfl ?_
    exact t_X1_putOn_18 hls hC hl hE h
theorem c_X1_putOn (l : Launch) (hls : l.stackTraces = false) {S : mS} {a0 : Nat} {a1 : Nat} {o : Rs Int32} (h : f_X1_putOn S a0 a1 = some o) : CT (fun r : Int32 => some (.int r)) l yX1_putOn (.code yX1_putOn cX1_putOn 3 (Option.some Jvm.ClassFile.FieldType.int)) rm_X1_putOn S [.ref a0, .ref a1] o := ct_of (by decide +kernel) hls (Nat.le_of_ble_eq_true rfl) (fun C hl hC hE => t_X1_putOn hls hC hl hE h)
abbrev rm_X1_copyFrom : Room := { frames := 8, cells := 0, slots := 0, locals := 150 }
def f_X1_copyFrom_118  (S : mS) : Option (Rs Unit) :=
  some (.inl (), S)
set_option maxHeartbeats 2000000 in
set_option maxRecDepth 100000 in
theorem t_X1_copyFrom_118 {l : Launch} (hls : l.stackTraces = false) {C : cT} (hC : CX C cX1_copyFrom 3 yX1_copyFrom rm_X1_copyFrom) (hl : C.2.1 = l) {S0 : mS} (hE : CE C S0 (Option.none : Option Jvm.ClassFile.FieldType) []) {o : Rs Unit} {S : mS} (h : f_X1_copyFrom_118  S = some o) : XX C 3 (QQ C (fun _ : Unit => none) S0 o) (0) (0) S 118 [] [] := by
  unfold f_X1_copyFrom_118 at h
  exact x_vreturn (pc := 118) hC hE dX1_copyFrom_118 (so h) (Nat.le_of_ble_eq_true rfl) (Nat.le_of_ble_eq_true rfl)
def f_X1_copyFrom_82  : Nat → mS → Nat → Nat → Int32 → Option (Rs Unit)
  | 0, _, _, _, _ => none
  | k + 1, S, a0, a1, a2 => gd (gK S a0 = 7) (lt9 (gR S a0 1) fun r2 => gd (gK S r2 = 30) (lt9 (Int32.ofNat (gZ S r2)) fun x4 => if x4 ≤ a2 then (f_X1_copyFrom_118  S) else (gd (gK S a1 = 7) (lt9 (gR S a1 1) fun r6 => gd (gK S r6 = 30) (lt9 (Int32.ofNat (gZ S r6)) fun x8 => if x8 ≤ a2 then (f_X1_copyFrom_118  S) else (lt9 (gR S a0 1) fun r9 => lt9 (gR S a1 1) fun r10 => gd (gK S r10 = 30) (gd (¬ (a2 < 0 ∨ gZ S r10 ≤ (a2).toNatClampNeg)) (lt9 (gI S r10 (a2).toNatClampNeg) fun x14 => gd (gK S r9 = 30) (gd (¬ (a2 < 0 ∨ gZ S r9 ≤ (a2).toNatClampNeg)) (zI (sI S r9 (a2).toNatClampNeg x14) fun S17 => lt9 (a2 + Int32.ofInt (1)) fun x24 => f_X1_copyFrom_82 k S17 a0 a1 x24))))))))))
set_option maxHeartbeats 2000000 in
set_option maxRecDepth 100000 in
theorem t_X1_copyFrom_82 {l : Launch} (hls : l.stackTraces = false) {C : cT} (hC : CX C cX1_copyFrom 3 yX1_copyFrom rm_X1_copyFrom) (hl : C.2.1 = l) {S0 : mS} (hE : CE C S0 (Option.none : Option Jvm.ClassFile.FieldType) []) {o : Rs Unit} : ∀ (k : Nat) (S : mS) (a0 : Nat) (a1 : Nat) (a2 : Int32), f_X1_copyFrom_82  k S a0 a1 a2 = some o → XX C 3 (QQ C (fun _ : Unit => none) S0 o) (0) (0) S 82 [(0, .ref a0), (1, .ref a1), (2, .int a2)] [] := by
  intro k
  induction k with
  | zero => intro S a0 a1 a2 h; cases h
  | succ k ih =>
    intro S a0 a1 a2 h
    unfold f_X1_copyFrom_82 at h
    refine x_iload_n (pc := 82) hC 2 dX1_copyFrom_82 rfl rfl ?_
    refine x_aload_n (pc := 83) hC 0 dX1_copyFrom_83 rfl rfl ?_
    obtain ⟨g1, h⟩ := gd_some h
    refine x_getRv (pc := 84) (k := 1) hC fc_7 fl_RX1_18 dX1_copyFrom_84 rfl g1 (fun r2 hr2 => ?_)
    replace h := lt_x hr2 h
    obtain ⟨g3, h⟩ := gd_some h
    refine x_alenv (pc := 87) (t0 := 0) hC dX1_copyFrom_87 g3 (by decide) (fun _ => rfl) (fun x4 hx4 => ?_)
    replace h := lt_x hx4 h
    refine x_icmp_ge (pc := 88) hC 118 dX1_copyFrom_88 (by decide) (fun c26 => ?_) (fun c26 => ?_)
    · rw [if_pos c26] at h
      refine x_pick [] rfl ?_
      exact t_X1_copyFrom_118 hls hC hl hE h
    · rw [if_neg c26] at h
      refine x_iload_n (pc := 91) hC 2 dX1_copyFrom_91 rfl rfl ?_
      refine x_aload_n (pc := 92) hC 1 dX1_copyFrom_92 rfl rfl ?_
      obtain ⟨g5, h⟩ := gd_some h
      refine x_getRv (pc := 93) (k := 1) hC fc_7 fl_RX1_18 dX1_copyFrom_93 rfl g5 (fun r6 hr6 => ?_)
      replace h := lt_x hr6 h
      obtain ⟨g7, h⟩ := gd_some h
      refine x_alenv (pc := 96) (t0 := 0) hC dX1_copyFrom_96 g7 (by decide) (fun _ => rfl) (fun x8 hx8 => ?_)
      replace h := lt_x hx8 h
      refine x_icmp_ge (pc := 97) hC 118 dX1_copyFrom_97 (by decide) (fun c25 => ?_) (fun c25 => ?_)
      · rw [if_pos c25] at h
        refine x_pick [] rfl ?_
        exact t_X1_copyFrom_118 hls hC hl hE h
      · rw [if_neg c25] at h
        refine x_aload_n (pc := 100) hC 0 dX1_copyFrom_100 rfl rfl ?_
        refine x_getRv (pc := 101) (k := 1) hC fc_7 fl_RX1_18 dX1_copyFrom_101 rfl g1 (fun r9 hr9 => ?_)
        replace h := lt_x hr9 h
        refine x_iload_n (pc := 104) hC 2 dX1_copyFrom_104 rfl rfl ?_
        refine x_aload_n (pc := 105) hC 1 dX1_copyFrom_105 rfl rfl ?_
        refine x_getRv (pc := 106) (k := 1) hC fc_7 fl_RX1_18 dX1_copyFrom_106 rfl g5 (fun r10 hr10 => ?_)
        replace h := lt_x hr10 h
        refine x_iload_n (pc := 109) hC 2 dX1_copyFrom_109 rfl rfl ?_
        obtain ⟨g13, h⟩ := gd_some h
        obtain ⟨g12, h⟩ := gd_some h
        refine x_ialdv (pc := 110) hC dX1_copyFrom_110 g13 g12 (fun x14 hx14 => ?_)
        replace h := lt_x hx14 h
        obtain ⟨g16, h⟩ := gd_some h
        obtain ⟨g15, h⟩ := gd_some h
        refine x_iastv (pc := 111) hC dX1_copyFrom_111 g16 g15 (fun S17 hS17 => ?_)
        replace h := zI_x hS17 h
        have g18 : gK S17 a0 = 7 := by rw [hS17]; exact g1
        have g19 : gK S17 r2 = 30 := by rw [hS17]; exact g3
        have g20 : gK S17 a1 = 7 := by rw [hS17]; exact g5
        have g21 : gK S17 r6 = 30 := by rw [hS17]; exact g7
        have g22 : gK S17 r10 = 30 := by rw [hS17]; exact g13
        have g23 : gK S17 r9 = 30 := by rw [hS17]; exact g16
        obtain ⟨x24, hx24⟩ : ∃ z, z = (a2 + Int32.ofInt (1)) := ⟨_, rfl⟩
        replace h := lt_x hx24 h
        refine x_iinc (pc := 112) hC 2 dX1_copyFrom_112 rfl hx24.symm (by decide) (by decide) rfl ?_
        refine x_goto (pc := 115) hC 82 dX1_copyFrom_115 (by decide) ?_
        refine x_pick [1, 2, 0] rfl ?_
        exact ih _ _ _ _ h
def f_X1_copyFrom (S : mS) (a0 : Nat) (a1 : Nat) : Option (Rs Unit) :=
  gd (gK S a1 = 7) (lt9 (gR S a1 2) fun r2 => gd (gK S a0 = 7) (zR (sR S a0 2 r2) fun S4 => lt9 (gL S4 a1 3) fun x7 => zL (sL S4 a0 3 x7) fun S8 => lt9 (gI S8 a1 4) fun x11 => zI (sI S8 a0 4 x11) fun S12 => lt9 (gI S12 a1 5) fun x15 => gd (x15 = 0 ∨ x15 = 1) (zI (sI S12 a0 5 x15) fun S17 => lt9 (gI S17 a1 6) fun x20 => zI (sI S17 a0 6 x20) fun S21 => lt9 (gI S21 a1 7) fun x24 => zI (sI S21 a0 7 x24) fun S25 => lt9 (gI S25 a1 8) fun x28 => zI (sI S25 a0 8 x28) fun S29 => lt9 (gI S29 a1 9) fun x32 => zI (sI S29 a0 9 x32) fun S33 => lt9 (gI S33 a1 10) fun x36 => gd (x36 = 0 ∨ x36 = 1) (zI (sI S33 a0 10 x36) fun S38 => lt9 (gL S38 a1 11) fun x41 => zL (sL S38 a0 11 x41) fun S42 => f_X1_copyFrom_82  16 S42 a0 a1 (0 : Int32)))))
set_option maxHeartbeats 2000000 in
set_option maxRecDepth 100000 in
theorem t_X1_copyFrom {l : Launch} (hls : l.stackTraces = false) {C : cT} (hC : CX C cX1_copyFrom 3 yX1_copyFrom rm_X1_copyFrom) (hl : C.2.1 = l) {S0 : mS} (hE : CE C S0 (Option.none : Option Jvm.ClassFile.FieldType) []) {o : Rs Unit} {S : mS} {a0 : Nat} {a1 : Nat} (h : f_X1_copyFrom S a0 a1 = some o) : XX C 3 (QQ C (fun _ : Unit => none) S0 o) 0 0 S 0 [(0, .ref a0), (1, .ref a1)] [] := by
  unfold f_X1_copyFrom at h
  refine x_aload_n (pc := 0) hC 0 dX1_copyFrom_0 rfl rfl ?_
  refine x_aload_n (pc := 1) hC 1 dX1_copyFrom_1 rfl rfl ?_
  obtain ⟨g1, h⟩ := gd_some h
  refine x_getRv (pc := 2) (k := 2) hC fc_7 fl_RX1_29 dX1_copyFrom_2 rfl g1 (fun r2 hr2 => ?_)
  replace h := lt_x hr2 h
  obtain ⟨g3, h⟩ := gd_some h
  refine x_putRv (pc := 5) (k := 2) hC fc_7 fl_RX1_29 dX1_copyFrom_5 rfl rfl (Or.inl ⟨_, rfl⟩) g3 (fun S4 hS4 => ?_)
  replace h := zR_x hS4 h
  have g5 : gK S4 a1 = 7 := by rw [hS4]; exact g1
  have g6 : gK S4 a0 = 7 := by rw [hS4]; exact g3
  refine x_aload_n (pc := 8) hC 0 dX1_copyFrom_8 rfl rfl ?_
  refine x_aload_n (pc := 9) hC 1 dX1_copyFrom_9 rfl rfl ?_
  refine x_getLv (pc := 10) (k := 3) hC fc_7 fl_RX1_41 dX1_copyFrom_10 rfl g5 (fun x7 hx7 => ?_)
  replace h := lt_x hx7 h
  refine x_putLv (pc := 13) (k := 3) hC fc_7 fl_RX1_41 dX1_copyFrom_13 rfl rfl rfl g6 (fun S8 hS8 => ?_)
  replace h := zL_x hS8 h
  have g9 : gK S8 a1 = 7 := by rw [hS8]; exact g5
  have g10 : gK S8 a0 = 7 := by rw [hS8]; exact g6
  refine x_aload_n (pc := 16) hC 0 dX1_copyFrom_16 rfl rfl ?_
  refine x_aload_n (pc := 17) hC 1 dX1_copyFrom_17 rfl rfl ?_
  refine x_getIv (pc := 18) (k := 4) hC fc_7 fl_RX1_55 dX1_copyFrom_18 rfl g9 (fun x11 hx11 => ?_)
  replace h := lt_x hx11 h
  refine x_putIv (pc := 21) (k := 4) hC fc_7 fl_RX1_55 dX1_copyFrom_21 rfl rfl (nf_int _) g10 (fun S12 hS12 => ?_)
  replace h := zI_x hS12 h
  have g13 : gK S12 a1 = 7 := by rw [hS12]; exact g9
  have g14 : gK S12 a0 = 7 := by rw [hS12]; exact g10
  refine x_aload_n (pc := 24) hC 0 dX1_copyFrom_24 rfl rfl ?_
  refine x_aload_n (pc := 25) hC 1 dX1_copyFrom_25 rfl rfl ?_
  refine x_getIv (pc := 26) (k := 5) hC fc_7 fl_RX1_45 dX1_copyFrom_26 rfl g13 (fun x15 hx15 => ?_)
  replace h := lt_x hx15 h
  obtain ⟨g16, h⟩ := gd_some h
  refine x_putIv (pc := 29) (k := 5) hC fc_7 fl_RX1_45 dX1_copyFrom_29 rfl rfl (nf_B g16) g14 (fun S17 hS17 => ?_)
  replace h := zI_x hS17 h
  have g18 : gK S17 a1 = 7 := by rw [hS17]; exact g13
  have g19 : gK S17 a0 = 7 := by rw [hS17]; exact g14
  refine x_aload_n (pc := 32) hC 0 dX1_copyFrom_32 rfl rfl ?_
  refine x_aload_n (pc := 33) hC 1 dX1_copyFrom_33 rfl rfl ?_
  refine x_getIv (pc := 34) (k := 6) hC fc_7 fl_RX1_49 dX1_copyFrom_34 rfl g18 (fun x20 hx20 => ?_)
  replace h := lt_x hx20 h
  refine x_putIv (pc := 37) (k := 6) hC fc_7 fl_RX1_49 dX1_copyFrom_37 rfl rfl (nf_int _) g19 (fun S21 hS21 => ?_)
  replace h := zI_x hS21 h
  have g22 : gK S21 a1 = 7 := by rw [hS21]; exact g18
  have g23 : gK S21 a0 = 7 := by rw [hS21]; exact g19
  refine x_aload_n (pc := 40) hC 0 dX1_copyFrom_40 rfl rfl ?_
  refine x_aload_n (pc := 41) hC 1 dX1_copyFrom_41 rfl rfl ?_
  refine x_getIv (pc := 42) (k := 7) hC fc_7 fl_RX1_22 dX1_copyFrom_42 rfl g22 (fun x24 hx24 => ?_)
  replace h := lt_x hx24 h
  refine x_putIv (pc := 45) (k := 7) hC fc_7 fl_RX1_22 dX1_copyFrom_45 rfl rfl (nf_int _) g23 (fun S25 hS25 => ?_)
  replace h := zI_x hS25 h
  have g26 : gK S25 a1 = 7 := by rw [hS25]; exact g22
  have g27 : gK S25 a0 = 7 := by rw [hS25]; exact g23
  refine x_aload_n (pc := 48) hC 0 dX1_copyFrom_48 rfl rfl ?_
  refine x_aload_n (pc := 49) hC 1 dX1_copyFrom_49 rfl rfl ?_
  refine x_getIv (pc := 50) (k := 8) hC fc_7 fl_RX1_26 dX1_copyFrom_50 rfl g26 (fun x28 hx28 => ?_)
  replace h := lt_x hx28 h
  refine x_putIv (pc := 53) (k := 8) hC fc_7 fl_RX1_26 dX1_copyFrom_53 rfl rfl (nf_int _) g27 (fun S29 hS29 => ?_)
  replace h := zI_x hS29 h
  have g30 : gK S29 a1 = 7 := by rw [hS29]; exact g26
  have g31 : gK S29 a0 = 7 := by rw [hS29]; exact g27
  refine x_aload_n (pc := 56) hC 0 dX1_copyFrom_56 rfl rfl ?_
  refine x_aload_n (pc := 57) hC 1 dX1_copyFrom_57 rfl rfl ?_
  refine x_getIv (pc := 58) (k := 9) hC fc_7 fl_RX1_58 dX1_copyFrom_58 rfl g30 (fun x32 hx32 => ?_)
  replace h := lt_x hx32 h
  refine x_putIv (pc := 61) (k := 9) hC fc_7 fl_RX1_58 dX1_copyFrom_61 rfl rfl (nf_int _) g31 (fun S33 hS33 => ?_)
  replace h := zI_x hS33 h
  have g34 : gK S33 a1 = 7 := by rw [hS33]; exact g30
  have g35 : gK S33 a0 = 7 := by rw [hS33]; exact g31
  refine x_aload_n (pc := 64) hC 0 dX1_copyFrom_64 rfl rfl ?_
  refine x_aload_n (pc := 65) hC 1 dX1_copyFrom_65 rfl rfl ?_
  refine x_getIv (pc := 66) (k := 10) hC fc_7 fl_RX1_52 dX1_copyFrom_66 rfl g34 (fun x36 hx36 => ?_)
  replace h := lt_x hx36 h
  obtain ⟨g37, h⟩ := gd_some h
  refine x_putIv (pc := 69) (k := 10) hC fc_7 fl_RX1_52 dX1_copyFrom_69 rfl rfl (nf_B g37) g35 (fun S38 hS38 => ?_)
  replace h := zI_x hS38 h
  have g39 : gK S38 a1 = 7 := by rw [hS38]; exact g34
  have g40 : gK S38 a0 = 7 := by rw [hS38]; exact g35
  refine x_aload_n (pc := 72) hC 0 dX1_copyFrom_72 rfl rfl ?_
  refine x_aload_n (pc := 73) hC 1 dX1_copyFrom_73 rfl rfl ?_
  refine x_getLv (pc := 74) (k := 11) hC fc_7 fl_RX1_61 dX1_copyFrom_74 rfl g39 (fun x41 hx41 => ?_)
  replace h := lt_x hx41 h
  refine x_putLv (pc := 77) (k := 11) hC fc_7 fl_RX1_61 dX1_copyFrom_77 rfl rfl rfl g40 (fun S42 hS42 => ?_)
  replace h := zL_x hS42 h
  have g43 : gK S42 a1 = 7 := by rw [hS42]; exact g39
  have g44 : gK S42 a0 = 7 := by rw [hS42]; exact g40
  refine x_iconst (pc := 80) (v := (0 : Int32)) hC dX1_copyFrom_80 (by decide) ?_
  refine x_istore_n (pc := 81) hC dX1_copyFrom_81 rfl (by decide) (by decide) rfl ?_
  refine x_pick [1, 2, 0] rfl ?_
  exact t_X1_copyFrom_82 hls hC hl hE 16 _ _ _ _ h
theorem c_X1_copyFrom (l : Launch) (hls : l.stackTraces = false) {S : mS} {a0 : Nat} {a1 : Nat} {o : Rs Unit} (h : f_X1_copyFrom S a0 a1 = some o) : CT (fun _ : Unit => none) l yX1_copyFrom (.code yX1_copyFrom cX1_copyFrom 3 (Option.none : Option Jvm.ClassFile.FieldType)) rm_X1_copyFrom S [.ref a0, .ref a1] o := ct_of (by decide +kernel) hls (Nat.le_of_ble_eq_true rfl) (fun C hl hC hE => t_X1_copyFrom hls hC hl hE h)
abbrev rm_X2_lastPlace : Room := { frames := 8, cells := 0, slots := 0, locals := 150 }
def f_X2_lastPlace (S : mS) (a0 : Nat) : Option (Rs Int64) :=
  gd (gK S a0 = 8) (lt9 (gI S a0 2) fun x2 => lt9 ((x2).toInt64) fun x3 => lt9 (x3 * (60000000 : Int64)) fun x4 => lt9 (x4 - (1 : Int64)) fun x5 => some (.inl x5, S))
set_option maxHeartbeats 2000000 in
set_option maxRecDepth 100000 in
theorem t_X2_lastPlace {l : Launch} (hls : l.stackTraces = false) {C : cT} (hC : CX C cX2_lastPlace 1 yX2_lastPlace rm_X2_lastPlace) (hl : C.2.1 = l) {S0 : mS} (hE : CE C S0 (Option.some Jvm.ClassFile.FieldType.long) []) {o : Rs Int64} {S : mS} {a0 : Nat} (h : f_X2_lastPlace S a0 = some o) : XX C 1 (QQ C (fun r : Int64 => some (.long r)) S0 o) 0 0 S 0 [(0, .ref a0)] [] := by
  unfold f_X2_lastPlace at h
  refine x_aload_n (pc := 0) hC 0 dX2_lastPlace_0 rfl rfl ?_
  obtain ⟨g1, h⟩ := gd_some h
  refine x_getIv (pc := 1) (k := 2) hC fc_8 fl_RX2_18 dX2_lastPlace_1 rfl g1 (fun x2 hx2 => ?_)
  replace h := lt_x hx2 h
  refine x_i2lv (pc := 4) hC dX2_lastPlace_4 (fun x3 hx3 => ?_)
  replace h := lt_x hx3 h
  refine x_ldc2 (pc := 5) hC wm_554 dX2_lastPlace_5 ?_
  refine x_lmulv (pc := 8) hC dX2_lastPlace_8 (fun x4 hx4 => ?_)
  replace h := lt_x hx4 h
  refine x_lconst (pc := 9) (v := (1 : Int64)) hC dX2_lastPlace_9 (by decide) ?_
  refine x_lsubv (pc := 10) hC dX2_lastPlace_10 (fun x5 hx5 => ?_)
  replace h := lt_x hx5 h
  exact x_lreturn (pc := 11) hC hE dX2_lastPlace_11 (so h) (Nat.le_of_ble_eq_true rfl) (Nat.le_of_ble_eq_true rfl)
theorem c_X2_lastPlace (l : Launch) (hls : l.stackTraces = false) {S : mS} {a0 : Nat} {o : Rs Int64} (h : f_X2_lastPlace S a0 = some o) : CT (fun r : Int64 => some (.long r)) l yX2_lastPlace (.code yX2_lastPlace cX2_lastPlace 1 (Option.some Jvm.ClassFile.FieldType.long)) rm_X2_lastPlace S [.ref a0] o := ct_of (by decide +kernel) hls (Nat.le_of_ble_eq_true rfl) (fun C hl hC hE => t_X2_lastPlace hls hC hl hE h)
abbrev rm_X1_start : Room := { frames := 9, cells := 0, slots := 0, locals := 170 }
def f_X1_start_57  (S : mS) (a1 : Int32) (s0 : Nat) (s1 : Int32) : Option (Rs Int32) :=
  gd (gK S s0 = 7) (gd (s1 = 0 ∨ s1 = 1) (zI (sI S s0 5 s1) fun S3 => gd (a1 = 0 ∨ a1 = 1) (some (.inl a1, S3))))
set_option maxHeartbeats 2000000 in
set_option maxRecDepth 100000 in
theorem t_X1_start_57 {l : Launch} (hls : l.stackTraces = false) {C : cT} (hC : CX C cX1_start 2 yX1_start rm_X1_start) (hl : C.2.1 = l) {S0 : mS} (hE : CE C S0 (Option.some Jvm.ClassFile.FieldType.boolean) []) {o : Rs Int32} {S : mS} {a1 : Int32} {s0 : Nat} {s1 : Int32} (h : f_X1_start_57  S a1 s0 s1 = some o) : XX C 2 (QQ C (fun r : Int32 => some (.int r)) S0 o) (0) (0) S 57 [(1, .int a1)] [.int s1, .ref s0] := by
  unfold f_X1_start_57 at h
  obtain ⟨g1, h⟩ := gd_some h
  obtain ⟨g2, h⟩ := gd_some h
  refine x_putIv (pc := 57) (k := 5) hC fc_7 fl_RX1_45 dX1_start_57 rfl rfl (nf_B g2) g1 (fun S3 hS3 => ?_)
  replace h := zI_x hS3 h
  have g4 : gK S3 s0 = 7 := by rw [hS3]; exact g1
  refine x_iload_n (pc := 60) hC 0 dX1_start_60 rfl rfl ?_
  obtain ⟨g5, h⟩ := gd_some h
  exact x_zreturn (pc := 61) hC hE dX1_start_61 (nf_B g5).1 (so h) (Nat.le_of_ble_eq_true rfl) (Nat.le_of_ble_eq_true rfl)
def f_X1_start_52  (S : mS) (a1 : Int32) (s0 : Nat) : Option (Rs Int32) :=
  f_X1_start_57  S a1 s0 (1 : Int32)
set_option maxHeartbeats 2000000 in
set_option maxRecDepth 100000 in
theorem t_X1_start_52 {l : Launch} (hls : l.stackTraces = false) {C : cT} (hC : CX C cX1_start 2 yX1_start rm_X1_start) (hl : C.2.1 = l) {S0 : mS} (hE : CE C S0 (Option.some Jvm.ClassFile.FieldType.boolean) []) {o : Rs Int32} {S : mS} {a1 : Int32} {s0 : Nat} (h : f_X1_start_52  S a1 s0 = some o) : XX C 2 (QQ C (fun r : Int32 => some (.int r)) S0 o) (0) (0) S 52 [(1, .int a1)] [.ref s0] := by
  unfold f_X1_start_52 at h
  refine x_iconst (pc := 52) (v := (1 : Int32)) hC dX1_start_52 (by decide) ?_
  refine x_goto (pc := 53) hC 57 dX1_start_53 (by decide) ?_
  refine x_pick [0] rfl ?_
  exact t_X1_start_57 hls hC hl hE h
def f_X1_start_34  (S : mS) (a0 : Nat) (s0 : Int32) : Option (Rs Int32) :=
  gd (gK S a0 = 7) (zI (sI S a0 7 (-1 : Int32)) fun S2 => lt9 (gI S2 a0 5) fun x4 => if x4 = 0 then (if s0 = 0 then (f_X1_start_57  S2 s0 a0 (0 : Int32)) else (f_X1_start_52  S2 s0 a0)) else (f_X1_start_52  S2 s0 a0))
set_option maxHeartbeats 2000000 in
set_option maxRecDepth 100000 in
theorem t_X1_start_34 {l : Launch} (hls : l.stackTraces = false) {C : cT} (hC : CX C cX1_start 2 yX1_start rm_X1_start) (hl : C.2.1 = l) {S0 : mS} (hE : CE C S0 (Option.some Jvm.ClassFile.FieldType.boolean) []) {o : Rs Int32} {S : mS} {a0 : Nat} {s0 : Int32} (h : f_X1_start_34  S a0 s0 = some o) : XX C 2 (QQ C (fun r : Int32 => some (.int r)) S0 o) (0) (0) S 34 [(0, .ref a0)] [.int s0] := by
  unfold f_X1_start_34 at h
  refine x_istore_n (pc := 34) hC dX1_start_34 rfl (by decide) (by decide) rfl ?_
  refine x_aload_n (pc := 35) hC 1 dX1_start_35 rfl rfl ?_
  refine x_iconst (pc := 36) (v := (-1 : Int32)) hC dX1_start_36 (by decide) ?_
  obtain ⟨g1, h⟩ := gd_some h
  refine x_putIv (pc := 37) (k := 7) hC fc_7 fl_RX1_22 dX1_start_37 rfl rfl (nf_int _) g1 (fun S2 hS2 => ?_)
  replace h := zI_x hS2 h
  have g3 : gK S2 a0 = 7 := by rw [hS2]; exact g1
  refine x_aload_n (pc := 40) hC 1 dX1_start_40 rfl rfl ?_
  refine x_aload_n (pc := 41) hC 1 dX1_start_41 rfl rfl ?_
  refine x_getIv (pc := 42) (k := 5) hC fc_7 fl_RX1_45 dX1_start_42 rfl g3 (fun x4 hx4 => ?_)
  replace h := lt_x hx4 h
  refine x_if_ne (pc := 45) hC 52 dX1_start_45 (by decide) (fun c6 => ?_) (fun c6 => ?_)
  · rw [if_neg c6] at h
    refine x_pick [0] rfl ?_
    exact t_X1_start_52 hls hC hl hE h
  · rw [if_pos c6] at h
    refine x_iload_n (pc := 48) hC 0 dX1_start_48 rfl rfl ?_
    refine x_if_eq (pc := 49) hC 56 dX1_start_49 (by decide) (fun c5 => ?_) (fun c5 => ?_)
    · rw [if_pos c5] at h
      refine x_iconst (pc := 56) (v := (0 : Int32)) hC dX1_start_56 (by decide) ?_
      refine x_pick [0] rfl ?_
      exact t_X1_start_57 hls hC hl hE h
    · rw [if_neg c5] at h
      refine x_pick [0] rfl ?_
      exact t_X1_start_52 hls hC hl hE h
def f_X1_start_33  (S : mS) (a0 : Nat) : Option (Rs Int32) :=
  f_X1_start_34  S a0 (0 : Int32)
set_option maxHeartbeats 2000000 in
set_option maxRecDepth 100000 in
theorem t_X1_start_33 {l : Launch} (hls : l.stackTraces = false) {C : cT} (hC : CX C cX1_start 2 yX1_start rm_X1_start) (hl : C.2.1 = l) {S0 : mS} (hE : CE C S0 (Option.some Jvm.ClassFile.FieldType.boolean) []) {o : Rs Int32} {S : mS} {a0 : Nat} (h : f_X1_start_33  S a0 = some o) : XX C 2 (QQ C (fun r : Int32 => some (.int r)) S0 o) (0) (0) S 33 [(0, .ref a0)] [] := by
  unfold f_X1_start_33 at h
  refine x_iconst (pc := 33) (v := (0 : Int32)) hC dX1_start_33 (by decide) ?_
  refine x_pick [0] rfl ?_
  exact t_X1_start_34 hls hC hl hE h
def f_X1_start (S : mS) (a0 : Nat) : Option (Rs Int32) :=
  gd (gK S a0 = 7) (lt9 (gI S a0 5) fun x2 => if x2 = 0 then (lt9 (gR S a0 2) fun r3 => if r3 = 0 then (f_X1_start_33  S a0) else (lt9 (gL S a0 3) fun x4 => lt9 (gR S a0 2) fun r5 => gd (gK S r5 = 8) (bd (f_X2_lastPlace S r5) fun x7 S8 => lt9 (lg_cmp x4 x7) fun x11 => if 0 ≤ x11 then (f_X1_start_33  S8 a0) else (f_X1_start_34  S8 a0 (1 : Int32))))) else (f_X1_start_33  S a0))
set_option maxHeartbeats 2000000 in
set_option maxRecDepth 100000 in
theorem t_X1_start {l : Launch} (hls : l.stackTraces = false) {C : cT} (hC : CX C cX1_start 2 yX1_start rm_X1_start) (hl : C.2.1 = l) {S0 : mS} (hE : CE C S0 (Option.some Jvm.ClassFile.FieldType.boolean) []) {o : Rs Int32} {S : mS} {a0 : Nat} (h : f_X1_start S a0 = some o) : XX C 2 (QQ C (fun r : Int32 => some (.int r)) S0 o) 0 0 S 0 [(0, .ref a0)] [] := by
  unfold f_X1_start at h
  refine x_aload_n (pc := 0) hC 0 dX1_start_0 rfl rfl ?_
  obtain ⟨g1, h⟩ := gd_some h
  refine x_getIv (pc := 1) (k := 5) hC fc_7 fl_RX1_45 dX1_start_1 rfl g1 (fun x2 hx2 => ?_)
  replace h := lt_x hx2 h
  refine x_if_ne (pc := 4) hC 33 dX1_start_4 (by decide) (fun c14 => ?_) (fun c14 => ?_)
  · rw [if_neg c14] at h
    refine x_pick [0] rfl ?_
    exact t_X1_start_33 hls hC hl hE h
  · rw [if_pos c14] at h
    refine x_aload_n (pc := 7) hC 0 dX1_start_7 rfl rfl ?_
    refine x_getRv (pc := 8) (k := 2) hC fc_7 fl_RX1_29 dX1_start_8 rfl g1 (fun r3 hr3 => ?_)
    replace h := lt_x hr3 h
    refine x_ifnull (pc := 11) hC 33 dX1_start_11 (by decide) (fun c13 => ?_) (fun c13 => ?_)
    · rw [if_pos c13] at h
      refine x_pick [0] rfl ?_
      exact t_X1_start_33 hls hC hl hE h
    · rw [if_neg c13] at h
      refine x_aload_n (pc := 14) hC 0 dX1_start_14 rfl rfl ?_
      refine x_getLv (pc := 15) (k := 3) hC fc_7 fl_RX1_41 dX1_start_15 rfl g1 (fun x4 hx4 => ?_)
      replace h := lt_x hx4 h
      refine x_aload_n (pc := 18) hC 0 dX1_start_18 rfl rfl ?_
      refine x_getRv (pc := 19) (k := 2) hC fc_7 fl_RX1_29 dX1_start_19 rfl g1 (fun r5 hr5 => ?_)
      replace h := lt_x hr5 h
      obtain ⟨g6, h⟩ := gd_some h
      obtain ⟨o9, ho9, h⟩ := bd_some h
      refine x_callV (pc := 22) (As := []) (rest := [.long x4]) hC hl (c_X2_lastPlace l hls ho9) lk_RX1_64 fc_8 g6 dX1_start_22 rfl rfl (Nat.le_of_ble_eq_true rfl) ⟨Nat.le_of_ble_eq_true rfl, Nat.le_of_ble_eq_true rfl⟩ ⟨(Nat.le_of_ble_eq_true rfl), (Nat.le_of_ble_eq_true rfl)⟩ ?_
      rcases o9 with ⟨x7 | E10, S8⟩
      · refine xk_j ?_
        replace h := bk_l h
        refine x_lcmpv (pc := 25) hC dX1_start_25 (fun x11 hx11 => ?_)
        replace h := lt_x hx11 h
        refine x_if_ge (pc := 26) hC 33 dX1_start_26 (by decide) (fun c12 => ?_) (fun c12 => ?_)
        · rw [if_pos c12] at h
          refine x_pick [0] rfl ?_
          exact t_X1_start_33 hls hC hl hE h
        · rw [if_neg c12] at h
          refine x_iconst (pc := 29) (v := (1 : Int32)) hC dX1_start_29 (by decide) ?_
          refine x_goto (pc := 30) hC 34 dX1_start_30 (by decide) ?_
          refine x_pick [0] rfl ?_
          exact t_X1_start_34 hls hC hl hE h
      · exact xk_r (xt_out hC hE (bk_r h) (Nat.le_of_ble_eq_true rfl) (Nat.le_of_ble_eq_true rfl))
theorem c_X1_start (l : Launch) (hls : l.stackTraces = false) {S : mS} {a0 : Nat} {o : Rs Int32} (h : f_X1_start S a0 = some o) : CT (fun r : Int32 => some (.int r)) l yX1_start (.code yX1_start cX1_start 2 (Option.some Jvm.ClassFile.FieldType.boolean)) rm_X1_start S [.ref a0] o := ct_of (by decide +kernel) hls (Nat.le_of_ble_eq_true rfl) (fun C hl hC hE => t_X1_start hls hC hl hE h)
abbrev rm_X1_halt : Room := { frames := 8, cells := 0, slots := 0, locals := 150 }
def f_X1_halt (S : mS) (a0 : Nat) : Option (Rs Int32) :=
  gd (gK S a0 = 7) (lt9 (gI S a0 5) fun x2 => zI (sI S a0 5 (0 : Int32)) fun S3 => zI (sI S3 a0 7 (-1 : Int32)) fun S5 => gd (x2 = 0 ∨ x2 = 1) (some (.inl x2, S5)))
set_option maxHeartbeats 2000000 in
set_option maxRecDepth 100000 in
theorem t_X1_halt {l : Launch} (hls : l.stackTraces = false) {C : cT} (hC : CX C cX1_halt 2 yX1_halt rm_X1_halt) (hl : C.2.1 = l) {S0 : mS} (hE : CE C S0 (Option.some Jvm.ClassFile.FieldType.boolean) []) {o : Rs Int32} {S : mS} {a0 : Nat} (h : f_X1_halt S a0 = some o) : XX C 2 (QQ C (fun r : Int32 => some (.int r)) S0 o) 0 0 S 0 [(0, .ref a0)] [] := by
  unfold f_X1_halt at h
  refine x_aload_n (pc := 0) hC 0 dX1_halt_0 rfl rfl ?_
  obtain ⟨g1, h⟩ := gd_some h
  refine x_getIv (pc := 1) (k := 5) hC fc_7 fl_RX1_45 dX1_halt_1 rfl g1 (fun x2 hx2 => ?_)
  replace h := lt_x hx2 h
  refine x_istore_n (pc := 4) hC dX1_halt_4 rfl (by decide) (by decide) rfl ?_
  refine x_aload_n (pc := 5) hC 1 dX1_halt_5 rfl rfl ?_
  refine x_iconst (pc := 6) (v := (0 : Int32)) hC dX1_halt_6 (by decide) ?_
  refine x_putIv (pc := 7) (k := 5) hC fc_7 fl_RX1_45 dX1_halt_7 rfl rfl (show NF .boolean _ from ⟨rfl, rfl⟩) g1 (fun S3 hS3 => ?_)
  replace h := zI_x hS3 h
  have g4 : gK S3 a0 = 7 := by rw [hS3]; exact g1
  refine x_aload_n (pc := 10) hC 1 dX1_halt_10 rfl rfl ?_
  refine x_iconst (pc := 11) (v := (-1 : Int32)) hC dX1_halt_11 (by decide) ?_
  refine x_putIv (pc := 12) (k := 7) hC fc_7 fl_RX1_22 dX1_halt_12 rfl rfl (nf_int _) g4 (fun S5 hS5 => ?_)
  replace h := zI_x hS5 h
  have g6 : gK S5 a0 = 7 := by rw [hS5]; exact g4
  refine x_iload_n (pc := 15) hC 0 dX1_halt_15 rfl rfl ?_
  obtain ⟨g7, h⟩ := gd_some h
  exact x_zreturn (pc := 16) hC hE dX1_halt_16 (nf_B g7).1 (so h) (Nat.le_of_ble_eq_true rfl) (Nat.le_of_ble_eq_true rfl)
theorem c_X1_halt (l : Launch) (hls : l.stackTraces = false) {S : mS} {a0 : Nat} {o : Rs Int32} (h : f_X1_halt S a0 = some o) : CT (fun r : Int32 => some (.int r)) l yX1_halt (.code yX1_halt cX1_halt 2 (Option.some Jvm.ClassFile.FieldType.boolean)) rm_X1_halt S [.ref a0] o := ct_of (by decide +kernel) hls (Nat.le_of_ble_eq_true rfl) (fun C hl hC hE => t_X1_halt hls hC hl hE h)
abbrev rm_X1_takePitch : Room := { frames := 8, cells := 0, slots := 0, locals := 150 }
def f_X1_takePitch (S : mS) (a0 : Nat) (a1 : Int32) : Option (Rs Int32) :=
  gd (gK S a0 = 7) (lt9 (gI S a0 4) fun x2 => zI (sI S a0 4 a1) fun S3 => some (.inl x2, S3))
set_option maxHeartbeats 2000000 in
set_option maxRecDepth 100000 in
theorem t_X1_takePitch {l : Launch} (hls : l.stackTraces = false) {C : cT} (hC : CX C cX1_takePitch 3 yX1_takePitch rm_X1_takePitch) (hl : C.2.1 = l) {S0 : mS} (hE : CE C S0 (Option.some Jvm.ClassFile.FieldType.int) []) {o : Rs Int32} {S : mS} {a0 : Nat} {a1 : Int32} (h : f_X1_takePitch S a0 a1 = some o) : XX C 3 (QQ C (fun r : Int32 => some (.int r)) S0 o) 0 0 S 0 [(0, .ref a0), (1, .int a1)] [] := by
  unfold f_X1_takePitch at h
  refine x_aload_n (pc := 0) hC 0 dX1_takePitch_0 rfl rfl ?_
  obtain ⟨g1, h⟩ := gd_some h
  refine x_getIv (pc := 1) (k := 4) hC fc_7 fl_RX1_55 dX1_takePitch_1 rfl g1 (fun x2 hx2 => ?_)
  replace h := lt_x hx2 h
  refine x_istore_n (pc := 4) hC dX1_takePitch_4 rfl (by decide) (by decide) rfl ?_
  refine x_aload_n (pc := 5) hC 1 dX1_takePitch_5 rfl rfl ?_
  refine x_iload_n (pc := 6) hC 2 dX1_takePitch_6 rfl rfl ?_
  refine x_putIv (pc := 7) (k := 4) hC fc_7 fl_RX1_55 dX1_takePitch_7 rfl rfl (nf_int _) g1 (fun S3 hS3 => ?_)
  replace h := zI_x hS3 h
  have g4 : gK S3 a0 = 7 := by rw [hS3]; exact g1
  refine x_iload_n (pc := 10) hC 0 dX1_takePitch_10 rfl rfl ?_
  exact x_ireturn (pc := 11) hC hE dX1_takePitch_11 (so h) (Nat.le_of_ble_eq_true rfl) (Nat.le_of_ble_eq_true rfl)
theorem c_X1_takePitch (l : Launch) (hls : l.stackTraces = false) {S : mS} {a0 : Nat} {a1 : Int32} {o : Rs Int32} (h : f_X1_takePitch S a0 a1 = some o) : CT (fun r : Int32 => some (.int r)) l yX1_takePitch (.code yX1_takePitch cX1_takePitch 3 (Option.some Jvm.ClassFile.FieldType.int)) rm_X1_takePitch S [.ref a0, .int a1] o := ct_of (by decide +kernel) hls (Nat.le_of_ble_eq_true rfl) (fun C hl hC hE => t_X1_takePitch hls hC hl hE h)
abbrev rm_X1_push : Room := { frames := 8, cells := 0, slots := 0, locals := 150 }
def f_X1_push (S : mS) (a0 : Nat) (a1 : Int32) : Option (Rs Int32) :=
  gd (gK S a0 = 7) (lt9 (gI S a0 6) fun x2 => zI (sI S a0 6 a1) fun S3 => some (.inl x2, S3))
set_option maxHeartbeats 2000000 in
set_option maxRecDepth 100000 in
theorem t_X1_push {l : Launch} (hls : l.stackTraces = false) {C : cT} (hC : CX C cX1_push 3 yX1_push rm_X1_push) (hl : C.2.1 = l) {S0 : mS} (hE : CE C S0 (Option.some Jvm.ClassFile.FieldType.int) []) {o : Rs Int32} {S : mS} {a0 : Nat} {a1 : Int32} (h : f_X1_push S a0 a1 = some o) : XX C 3 (QQ C (fun r : Int32 => some (.int r)) S0 o) 0 0 S 0 [(0, .ref a0), (1, .int a1)] [] := by
  unfold f_X1_push at h
  refine x_aload_n (pc := 0) hC 0 dX1_push_0 rfl rfl ?_
  obtain ⟨g1, h⟩ := gd_some h
  refine x_getIv (pc := 1) (k := 6) hC fc_7 fl_RX1_49 dX1_push_1 rfl g1 (fun x2 hx2 => ?_)
  replace h := lt_x hx2 h
  refine x_istore_n (pc := 4) hC dX1_push_4 rfl (by decide) (by decide) rfl ?_
  refine x_aload_n (pc := 5) hC 1 dX1_push_5 rfl rfl ?_
  refine x_iload_n (pc := 6) hC 2 dX1_push_6 rfl rfl ?_
  refine x_putIv (pc := 7) (k := 6) hC fc_7 fl_RX1_49 dX1_push_7 rfl rfl (nf_int _) g1 (fun S3 hS3 => ?_)
  replace h := zI_x hS3 h
  have g4 : gK S3 a0 = 7 := by rw [hS3]; exact g1
  refine x_iload_n (pc := 10) hC 0 dX1_push_10 rfl rfl ?_
  exact x_ireturn (pc := 11) hC hE dX1_push_11 (so h) (Nat.le_of_ble_eq_true rfl) (Nat.le_of_ble_eq_true rfl)
theorem c_X1_push (l : Launch) (hls : l.stackTraces = false) {S : mS} {a0 : Nat} {a1 : Int32} {o : Rs Int32} (h : f_X1_push S a0 a1 = some o) : CT (fun r : Int32 => some (.int r)) l yX1_push (.code yX1_push cX1_push 3 (Option.some Jvm.ClassFile.FieldType.int)) rm_X1_push S [.ref a0, .int a1] o := ct_of (by decide +kernel) hls (Nat.le_of_ble_eq_true rfl) (fun C hl hC hE => t_X1_push hls hC hl hE h)
abbrev rm_X1_slowDown : Room := { frames := 8, cells := 0, slots := 0, locals := 150 }
def f_X1_slowDown_12  (S : mS) (a0 : Nat) : Option (Rs Int32) :=
  gd (gK S a0 = 7) (lt9 (gI S a0 5) fun x2 => gd (x2 = 0 ∨ x2 = 1) (some (.inl x2, S)))
set_option maxHeartbeats 2000000 in
set_option maxRecDepth 100000 in
theorem t_X1_slowDown_12 {l : Launch} (hls : l.stackTraces = false) {C : cT} (hC : CX C cX1_slowDown 1 yX1_slowDown rm_X1_slowDown) (hl : C.2.1 = l) {S0 : mS} (hE : CE C S0 (Option.some Jvm.ClassFile.FieldType.boolean) []) {o : Rs Int32} {S : mS} {a0 : Nat} (h : f_X1_slowDown_12  S a0 = some o) : XX C 1 (QQ C (fun r : Int32 => some (.int r)) S0 o) (0) (0) S 12 [(0, .ref a0)] [] := by
  unfold f_X1_slowDown_12 at h
  refine x_aload_n (pc := 12) hC 0 dX1_slowDown_12 rfl rfl ?_
  obtain ⟨g1, h⟩ := gd_some h
  refine x_getIv (pc := 13) (k := 5) hC fc_7 fl_RX1_45 dX1_slowDown_13 rfl g1 (fun x2 hx2 => ?_)
  replace h := lt_x hx2 h
  obtain ⟨g3, h⟩ := gd_some h
  exact x_zreturn (pc := 16) hC hE dX1_slowDown_16 (nf_B g3).1 (so h) (Nat.le_of_ble_eq_true rfl) (Nat.le_of_ble_eq_true rfl)
def f_X1_slowDown (S : mS) (a0 : Nat) : Option (Rs Int32) :=
  gd (gK S a0 = 7) (lt9 (gI S a0 5) fun x2 => if x2 = 0 then (f_X1_slowDown_12  S a0) else (zI (sI S a0 7 (0 : Int32)) fun S3 => f_X1_slowDown_12  S3 a0))
set_option maxHeartbeats 2000000 in
set_option maxRecDepth 100000 in
theorem t_X1_slowDown {l : Launch} (hls : l.stackTraces = false) {C : cT} (hC : CX C cX1_slowDown 1 yX1_slowDown rm_X1_slowDown) (hl : C.2.1 = l) {S0 : mS} (hE : CE C S0 (Option.some Jvm.ClassFile.FieldType.boolean) []) {o : Rs Int32} {S : mS} {a0 : Nat} (h : f_X1_slowDown S a0 = some o) : XX C 1 (QQ C (fun r : Int32 => some (.int r)) S0 o) 0 0 S 0 [(0, .ref a0)] [] := by
  unfold f_X1_slowDown at h
  refine x_aload_n (pc := 0) hC 0 dX1_slowDown_0 rfl rfl ?_
  obtain ⟨g1, h⟩ := gd_some h
  refine x_getIv (pc := 1) (k := 5) hC fc_7 fl_RX1_45 dX1_slowDown_1 rfl g1 (fun x2 hx2 => ?_)
  replace h := lt_x hx2 h
  refine x_if_eq (pc := 4) hC 12 dX1_slowDown_4 (by decide) (fun c5 => ?_) (fun c5 => ?_)
  · rw [if_pos c5] at h
    refine x_pick [0] rfl ?_
    exact t_X1_slowDown_12 hls hC hl hE h
  · rw [if_neg c5] at h
    refine x_aload_n (pc := 7) hC 0 dX1_slowDown_7 rfl rfl ?_
    refine x_iconst (pc := 8) (v := (0 : Int32)) hC dX1_slowDown_8 (by decide) ?_
    refine x_putIv (pc := 9) (k := 7) hC fc_7 fl_RX1_22 dX1_slowDown_9 rfl rfl (nf_int _) g1 (fun S3 hS3 => ?_)
    replace h := zI_x hS3 h
    have g4 : gK S3 a0 = 7 := by rw [hS3]; exact g1
    refine x_pick [0] rfl ?_
    exact t_X1_slowDown_12 hls hC hl hE h
theorem c_X1_slowDown (l : Launch) (hls : l.stackTraces = false) {S : mS} {a0 : Nat} {o : Rs Int32} (h : f_X1_slowDown S a0 = some o) : CT (fun r : Int32 => some (.int r)) l yX1_slowDown (.code yX1_slowDown cX1_slowDown 1 (Option.some Jvm.ClassFile.FieldType.boolean)) rm_X1_slowDown S [.ref a0] o := ct_of (by decide +kernel) hls (Nat.le_of_ble_eq_true rfl) (fun C hl hC hE => t_X1_slowDown hls hC hl hE h)
abbrev rm_X1_beatNow : Room := { frames := 8, cells := 0, slots := 0, locals := 150 }
def f_X1_beatNow (S : mS) (a0 : Nat) : Option (Rs Int32) :=
  gd (gK S a0 = 7) (lt9 (gL S a0 3) fun x2 => gd (¬ (60000000 : Int64) = 0) (lt9 (x2 / (60000000 : Int64)) fun x3 => lt9 ((x3).toInt32) fun x5 => some (.inl x5, S)))
set_option maxHeartbeats 2000000 in
set_option maxRecDepth 100000 in
theorem t_X1_beatNow {l : Launch} (hls : l.stackTraces = false) {C : cT} (hC : CX C cX1_beatNow 1 yX1_beatNow rm_X1_beatNow) (hl : C.2.1 = l) {S0 : mS} (hE : CE C S0 (Option.some Jvm.ClassFile.FieldType.int) []) {o : Rs Int32} {S : mS} {a0 : Nat} (h : f_X1_beatNow S a0 = some o) : XX C 1 (QQ C (fun r : Int32 => some (.int r)) S0 o) 0 0 S 0 [(0, .ref a0)] [] := by
  unfold f_X1_beatNow at h
  refine x_aload_n (pc := 0) hC 0 dX1_beatNow_0 rfl rfl ?_
  obtain ⟨g1, h⟩ := gd_some h
  refine x_getLv (pc := 1) (k := 3) hC fc_7 fl_RX1_41 dX1_beatNow_1 rfl g1 (fun x2 hx2 => ?_)
  replace h := lt_x hx2 h
  refine x_ldc2 (pc := 4) hC wm_559 dX1_beatNow_4 ?_
  obtain ⟨g4, h⟩ := gd_some h
  refine x_ldivv (pc := 7) hC dX1_beatNow_7 g4 (fun x3 hx3 => ?_)
  replace h := lt_x hx3 h
  refine x_l2iv (pc := 8) hC dX1_beatNow_8 (fun x5 hx5 => ?_)
  replace h := lt_x hx5 h
  exact x_ireturn (pc := 9) hC hE dX1_beatNow_9 (so h) (Nat.le_of_ble_eq_true rfl) (Nat.le_of_ble_eq_true rfl)
theorem c_X1_beatNow (l : Launch) (hls : l.stackTraces = false) {S : mS} {a0 : Nat} {o : Rs Int32} (h : f_X1_beatNow S a0 = some o) : CT (fun r : Int32 => some (.int r)) l yX1_beatNow (.code yX1_beatNow cX1_beatNow 1 (Option.some Jvm.ClassFile.FieldType.int)) rm_X1_beatNow S [.ref a0] o := ct_of (by decide +kernel) hls (Nat.le_of_ble_eq_true rfl) (fun C hl hC hE => t_X1_beatNow hls hC hl hE h)
abbrev rm_X1_hasBeat : Room := { frames := 8, cells := 0, slots := 0, locals := 150 }
def f_X1_hasBeat_27  (S : mS) (s0 : Int32) : Option (Rs Int32) :=
  gd (s0 = 0 ∨ s0 = 1) (some (.inl s0, S))
set_option maxHeartbeats 2000000 in
set_option maxRecDepth 100000 in
theorem t_X1_hasBeat_27 {l : Launch} (hls : l.stackTraces = false) {C : cT} (hC : CX C cX1_hasBeat 2 yX1_hasBeat rm_X1_hasBeat) (hl : C.2.1 = l) {S0 : mS} (hE : CE C S0 (Option.some Jvm.ClassFile.FieldType.boolean) []) {o : Rs Int32} {S : mS} {s0 : Int32} (h : f_X1_hasBeat_27  S s0 = some o) : XX C 2 (QQ C (fun r : Int32 => some (.int r)) S0 o) (0) (0) S 27 [] [.int s0] := by
  unfold f_X1_hasBeat_27 at h
  obtain ⟨g1, h⟩ := gd_some h
  exact x_zreturn (pc := 27) hC hE dX1_hasBeat_27 (nf_B g1).1 (so h) (Nat.le_of_ble_eq_true rfl) (Nat.le_of_ble_eq_true rfl)
def f_X1_hasBeat_26  (S : mS) : Option (Rs Int32) :=
  f_X1_hasBeat_27  S (0 : Int32)
set_option maxHeartbeats 2000000 in
set_option maxRecDepth 100000 in
theorem t_X1_hasBeat_26 {l : Launch} (hls : l.stackTraces = false) {C : cT} (hC : CX C cX1_hasBeat 2 yX1_hasBeat rm_X1_hasBeat) (hl : C.2.1 = l) {S0 : mS} (hE : CE C S0 (Option.some Jvm.ClassFile.FieldType.boolean) []) {o : Rs Int32} {S : mS} (h : f_X1_hasBeat_26  S = some o) : XX C 2 (QQ C (fun r : Int32 => some (.int r)) S0 o) (0) (0) S 26 [] [] := by
  unfold f_X1_hasBeat_26 at h
  refine x_iconst (pc := 26) (v := (0 : Int32)) hC dX1_hasBeat_26 (by decide) ?_
  refine x_pick [] rfl ?_
  exact t_X1_hasBeat_27 hls hC hl hE h
def f_X1_hasBeat (S : mS) (a0 : Nat) (a1 : Int32) : Option (Rs Int32) :=
  gd (gK S a0 = 7) (lt9 (gR S a0 2) fun r2 => if r2 = 0 then (f_X1_hasBeat_26  S) else (if a1 < 0 then (f_X1_hasBeat_26  S) else (lt9 (gR S a0 2) fun r3 => gd (gK S r3 = 8) (lt9 (gI S r3 2) fun x5 => if x5 ≤ a1 then (f_X1_hasBeat_26  S) else (f_X1_hasBeat_27  S (1 : Int32))))))
set_option maxHeartbeats 2000000 in
set_option maxRecDepth 100000 in
theorem t_X1_hasBeat {l : Launch} (hls : l.stackTraces = false) {C : cT} (hC : CX C cX1_hasBeat 2 yX1_hasBeat rm_X1_hasBeat) (hl : C.2.1 = l) {S0 : mS} (hE : CE C S0 (Option.some Jvm.ClassFile.FieldType.boolean) []) {o : Rs Int32} {S : mS} {a0 : Nat} {a1 : Int32} (h : f_X1_hasBeat S a0 a1 = some o) : XX C 2 (QQ C (fun r : Int32 => some (.int r)) S0 o) 0 0 S 0 [(0, .ref a0), (1, .int a1)] [] := by
  unfold f_X1_hasBeat at h
  refine x_aload_n (pc := 0) hC 0 dX1_hasBeat_0 rfl rfl ?_
  obtain ⟨g1, h⟩ := gd_some h
  refine x_getRv (pc := 1) (k := 2) hC fc_7 fl_RX1_29 dX1_hasBeat_1 rfl g1 (fun r2 hr2 => ?_)
  replace h := lt_x hr2 h
  refine x_ifnull (pc := 4) hC 26 dX1_hasBeat_4 (by decide) (fun c8 => ?_) (fun c8 => ?_)
  · rw [if_pos c8] at h
    refine x_pick [] rfl ?_
    exact t_X1_hasBeat_26 hls hC hl hE h
  · rw [if_neg c8] at h
    refine x_iload_n (pc := 7) hC 1 dX1_hasBeat_7 rfl rfl ?_
    refine x_if_lt (pc := 8) hC 26 dX1_hasBeat_8 (by decide) (fun c7 => ?_) (fun c7 => ?_)
    · rw [if_pos c7] at h
      refine x_pick [] rfl ?_
      exact t_X1_hasBeat_26 hls hC hl hE h
    · rw [if_neg c7] at h
      refine x_iload_n (pc := 11) hC 1 dX1_hasBeat_11 rfl rfl ?_
      refine x_aload_n (pc := 12) hC 0 dX1_hasBeat_12 rfl rfl ?_
      refine x_getRv (pc := 13) (k := 2) hC fc_7 fl_RX1_29 dX1_hasBeat_13 rfl g1 (fun r3 hr3 => ?_)
      replace h := lt_x hr3 h
      obtain ⟨g4, h⟩ := gd_some h
      refine x_getIv (pc := 16) (k := 2) hC fc_8 fl_RX1_70 dX1_hasBeat_16 rfl g4 (fun x5 hx5 => ?_)
      replace h := lt_x hx5 h
      refine x_icmp_ge (pc := 19) hC 26 dX1_hasBeat_19 (by decide) (fun c6 => ?_) (fun c6 => ?_)
      · rw [if_pos c6] at h
        refine x_pick [] rfl ?_
        exact t_X1_hasBeat_26 hls hC hl hE h
      · rw [if_neg c6] at h
        refine x_iconst (pc := 22) (v := (1 : Int32)) hC dX1_hasBeat_22 (by decide) ?_
        refine x_goto (pc := 23) hC 27 dX1_hasBeat_23 (by decide) ?_
        refine x_pick [] rfl ?_
        exact t_X1_hasBeat_27 hls hC hl hE h
theorem c_X1_hasBeat (l : Launch) (hls : l.stackTraces = false) {S : mS} {a0 : Nat} {a1 : Int32} {o : Rs Int32} (h : f_X1_hasBeat S a0 a1 = some o) : CT (fun r : Int32 => some (.int r)) l yX1_hasBeat (.code yX1_hasBeat cX1_hasBeat 2 (Option.some Jvm.ClassFile.FieldType.boolean)) rm_X1_hasBeat S [.ref a0, .int a1] o := ct_of (by decide +kernel) hls (Nat.le_of_ble_eq_true rfl) (fun C hl hC hE => t_X1_hasBeat hls hC hl hE h)
abbrev rm_X1_jumpTo : Room := { frames := 9, cells := 0, slots := 0, locals := 170 }
def f_X1_jumpTo (S : mS) (a0 : Nat) (a1 : Int32) : Option (Rs Int32) :=
  gd (gK S a0 = 7) (bd (f_X1_beatNow S a0) fun x2 S3 => lt9 ((a1).toInt64) fun x6 => lt9 (x6 * (60000000 : Int64)) fun x7 => gd (gK S3 a0 = 7) (zL (sL S3 a0 3 x7) fun S9 => some (.inl x2, S9)))
set_option maxHeartbeats 2000000 in
set_option maxRecDepth 100000 in
theorem t_X1_jumpTo {l : Launch} (hls : l.stackTraces = false) {C : cT} (hC : CX C cX1_jumpTo 3 yX1_jumpTo rm_X1_jumpTo) (hl : C.2.1 = l) {S0 : mS} (hE : CE C S0 (Option.some Jvm.ClassFile.FieldType.int) []) {o : Rs Int32} {S : mS} {a0 : Nat} {a1 : Int32} (h : f_X1_jumpTo S a0 a1 = some o) : XX C 3 (QQ C (fun r : Int32 => some (.int r)) S0 o) 0 0 S 0 [(0, .ref a0), (1, .int a1)] [] := by
  unfold f_X1_jumpTo at h
  refine x_aload_n (pc := 0) hC 0 dX1_jumpTo_0 rfl rfl ?_
  obtain ⟨g1, h⟩ := gd_some h
  obtain ⟨o4, ho4, h⟩ := bd_some h
  refine x_callV (pc := 1) (As := []) (rest := []) hC hl (c_X1_beatNow l hls ho4) lk_RX1_73 fc_7 g1 dX1_jumpTo_1 rfl rfl (Nat.le_of_ble_eq_true rfl) ⟨Nat.le_of_ble_eq_true rfl, Nat.le_of_ble_eq_true rfl⟩ ⟨(Nat.le_of_ble_eq_true rfl), (Nat.le_of_ble_eq_true rfl)⟩ ?_
  rcases o4 with ⟨x2 | E5, S3⟩
  · refine xk_i ?_
    replace h := bk_l h
    refine x_istore_n (pc := 4) hC dX1_jumpTo_4 rfl (by decide) (by decide) rfl ?_
    refine x_aload_n (pc := 5) hC 1 dX1_jumpTo_5 rfl rfl ?_
    refine x_iload_n (pc := 6) hC 2 dX1_jumpTo_6 rfl rfl ?_
    refine x_i2lv (pc := 7) hC dX1_jumpTo_7 (fun x6 hx6 => ?_)
    replace h := lt_x hx6 h
    refine x_ldc2 (pc := 8) hC wm_559 dX1_jumpTo_8 ?_
    refine x_lmulv (pc := 11) hC dX1_jumpTo_11 (fun x7 hx7 => ?_)
    replace h := lt_x hx7 h
    obtain ⟨g8, h⟩ := gd_some h
    refine x_putLv (pc := 12) (k := 3) hC fc_7 fl_RX1_41 dX1_jumpTo_12 rfl rfl rfl g8 (fun S9 hS9 => ?_)
    replace h := zL_x hS9 h
    have g10 : gK S9 a0 = 7 := by rw [hS9]; exact g8
    refine x_iload_n (pc := 15) hC 0 dX1_jumpTo_15 rfl rfl ?_
    exact x_ireturn (pc := 16) hC hE dX1_jumpTo_16 (so h) (Nat.le_of_ble_eq_true rfl) (Nat.le_of_ble_eq_true rfl)
  · exact xk_r (xt_out hC hE (bk_r h) (Nat.le_of_ble_eq_true rfl) (Nat.le_of_ble_eq_true rfl))
theorem c_X1_jumpTo (l : Launch) (hls : l.stackTraces = false) {S : mS} {a0 : Nat} {a1 : Int32} {o : Rs Int32} (h : f_X1_jumpTo S a0 a1 = some o) : CT (fun r : Int32 => some (.int r)) l yX1_jumpTo (.code yX1_jumpTo cX1_jumpTo 3 (Option.some Jvm.ClassFile.FieldType.int)) rm_X1_jumpTo S [.ref a0, .int a1] o := ct_of (by decide +kernel) hls (Nat.le_of_ble_eq_true rfl) (fun C hl hC hE => t_X1_jumpTo hls hC hl hE h)
abbrev rm_X1_mark : Room := { frames := 9, cells := 0, slots := 0, locals := 171 }
def f_X1_mark_20  (S : mS) : Option (Rs Int32) :=
  some (.inl (-1 : Int32), S)
set_option maxHeartbeats 2000000 in
set_option maxRecDepth 100000 in
theorem t_X1_mark_20 {l : Launch} (hls : l.stackTraces = false) {C : cT} (hC : CX C cX1_mark 3 yX1_mark rm_X1_mark) (hl : C.2.1 = l) {S0 : mS} (hE : CE C S0 (Option.some Jvm.ClassFile.FieldType.int) []) {o : Rs Int32} {S : mS} (h : f_X1_mark_20  S = some o) : XX C 3 (QQ C (fun r : Int32 => some (.int r)) S0 o) (0) (0) S 20 [] [] := by
  unfold f_X1_mark_20 at h
  refine x_iconst (pc := 20) (v := (-1 : Int32)) hC dX1_mark_20 (by decide) ?_
  exact x_ireturn (pc := 21) hC hE dX1_mark_21 (so h) (Nat.le_of_ble_eq_true rfl) (Nat.le_of_ble_eq_true rfl)
def f_X1_mark (S : mS) (a0 : Nat) (a1 : Int32) : Option (Rs Int32) :=
  gd (gK S a0 = 7) (lt9 (gR S a0 2) fun r2 => if r2 = 0 then (f_X1_mark_20  S) else (if a1 < 0 then (f_X1_mark_20  S) else (lt9 (gR S a0 1) fun r3 => gd (gK S r3 = 30) (lt9 (Int32.ofNat (gZ S r3)) fun x5 => if a1 < x5 then (lt9 (gL S a0 3) fun x6 => lt9 (x6 + (30000000 : Int64)) fun x7 => gd (¬ (60000000 : Int64) = 0) (lt9 (x7 / (60000000 : Int64)) fun x8 => lt9 ((x8).toInt32) fun x10 => lt9 (gR S a0 1) fun r11 => lt9 (gR S a0 2) fun r12 => gd (gK S r12 = 8) (lt9 (gI S r12 2) fun x14 => lt9 (x14 - (1 : Int32)) fun x15 => lt9 (if x15 < x10 then x15 else x10) fun x16 => gd (gK S r11 = 30) (gd (¬ (a1 < 0 ∨ gZ S r11 ≤ (a1).toNatClampNeg)) (zI (sI S r11 (a1).toNatClampNeg x16) fun S19 => lt9 (gR S19 a0 1) fun r24 => gd (gK S19 r24 = 30) (gd (¬ (a1 < 0 ∨ gZ S19 r24 ≤ (a1).toNatClampNeg)) (lt9 (gI S19 r24 (a1).toNatClampNeg) fun x28 => some (.inl x28, S19)))))))) else (f_X1_mark_20  S)))))
set_option maxHeartbeats 2000000 in
set_option maxRecDepth 100000 in
theorem t_X1_mark {l : Launch} (hls : l.stackTraces = false) {C : cT} (hC : CX C cX1_mark 3 yX1_mark rm_X1_mark) (hl : C.2.1 = l) {S0 : mS} (hE : CE C S0 (Option.some Jvm.ClassFile.FieldType.int) []) {o : Rs Int32} {S : mS} {a0 : Nat} {a1 : Int32} (h : f_X1_mark S a0 a1 = some o) : XX C 3 (QQ C (fun r : Int32 => some (.int r)) S0 o) 0 0 S 0 [(0, .ref a0), (1, .int a1)] [] := by
  unfold f_X1_mark at h
  refine x_aload_n (pc := 0) hC 0 dX1_mark_0 rfl rfl ?_
  obtain ⟨g1, h⟩ := gd_some h
  refine x_getRv (pc := 1) (k := 2) hC fc_7 fl_RX1_29 dX1_mark_1 rfl g1 (fun r2 hr2 => ?_)
  replace h := lt_x hr2 h
  refine x_ifnull (pc := 4) hC 20 dX1_mark_4 (by decide) (fun c31 => ?_) (fun c31 => ?_)
  · rw [if_pos c31] at h
    refine x_pick [] rfl ?_
    exact t_X1_mark_20 hls hC hl hE h
  · rw [if_neg c31] at h
    refine x_iload_n (pc := 7) hC 1 dX1_mark_7 rfl rfl ?_
    refine x_if_lt (pc := 8) hC 20 dX1_mark_8 (by decide) (fun c30 => ?_) (fun c30 => ?_)
    · rw [if_pos c30] at h
      refine x_pick [] rfl ?_
      exact t_X1_mark_20 hls hC hl hE h
    · rw [if_neg c30] at h
      refine x_iload_n (pc := 11) hC 1 dX1_mark_11 rfl rfl ?_
      refine x_aload_n (pc := 12) hC 0 dX1_mark_12 rfl rfl ?_
      refine x_getRv (pc := 13) (k := 1) hC fc_7 fl_RX1_18 dX1_mark_13 rfl g1 (fun r3 hr3 => ?_)
      replace h := lt_x hr3 h
      obtain ⟨g4, h⟩ := gd_some h
      refine x_alenv (pc := 16) (t0 := 0) hC dX1_mark_16 g4 (by decide) (fun _ => rfl) (fun x5 hx5 => ?_)
      replace h := lt_x hx5 h
      refine x_icmp_lt (pc := 17) hC 22 dX1_mark_17 (by decide) (fun c29 => ?_) (fun c29 => ?_)
      · rw [if_pos c29] at h
        refine x_aload_n (pc := 22) hC 0 dX1_mark_22 rfl rfl ?_
        refine x_getLv (pc := 23) (k := 3) hC fc_7 fl_RX1_41 dX1_mark_23 rfl g1 (fun x6 hx6 => ?_)
        replace h := lt_x hx6 h
        refine x_ldc2 (pc := 26) hC wm_706 dX1_mark_26 ?_
        refine x_laddv (pc := 29) hC dX1_mark_29 (fun x7 hx7 => ?_)
        replace h := lt_x hx7 h
        refine x_ldc2 (pc := 30) hC wm_559 dX1_mark_30 ?_
        obtain ⟨g9, h⟩ := gd_some h
        refine x_ldivv (pc := 33) hC dX1_mark_33 g9 (fun x8 hx8 => ?_)
        replace h := lt_x hx8 h
        refine x_l2iv (pc := 34) hC dX1_mark_34 (fun x10 hx10 => ?_)
        replace h := lt_x hx10 h
        refine x_istore_n (pc := 35) hC dX1_mark_35 rfl (by decide) (by decide) rfl ?_
        refine x_aload_n (pc := 36) hC 1 dX1_mark_36 rfl rfl ?_
        refine x_getRv (pc := 37) (k := 1) hC fc_7 fl_RX1_18 dX1_mark_37 rfl g1 (fun r11 hr11 => ?_)
        replace h := lt_x hr11 h
        refine x_iload_n (pc := 40) hC 2 dX1_mark_40 rfl rfl ?_
        refine x_iload_n (pc := 41) hC 0 dX1_mark_41 rfl rfl ?_
        refine x_aload_n (pc := 42) hC 1 dX1_mark_42 rfl rfl ?_
        refine x_getRv (pc := 43) (k := 2) hC fc_7 fl_RX1_29 dX1_mark_43 rfl g1 (fun r12 hr12 => ?_)
        replace h := lt_x hr12 h
        obtain ⟨g13, h⟩ := gd_some h
        refine x_getIv (pc := 46) (k := 2) hC fc_8 fl_RX1_70 dX1_mark_46 rfl g13 (fun x14 hx14 => ?_)
        replace h := lt_x hx14 h
        refine x_iconst (pc := 49) (v := (1 : Int32)) hC dX1_mark_49 (by decide) ?_
        refine x_isubv (pc := 50) hC dX1_mark_50 (fun x15 hx15 => ?_)
        replace h := lt_x hx15 h
        refine x_mmin (pc := 51) hC wm_707 wm_598 wm_69 wm_599 dX1_mark_51 (Nat.le_of_ble_eq_true rfl) (Nat.le_of_ble_eq_true rfl) (Nat.le_of_ble_eq_true rfl) (Nat.le_of_ble_eq_true rfl) (fun x16 hx16 => ?_)
        replace h := lt_x hx16 h
        obtain ⟨g18, h⟩ := gd_some h
        obtain ⟨g17, h⟩ := gd_some h
        refine x_iastv (pc := 54) hC dX1_mark_54 g18 g17 (fun S19 hS19 => ?_)
        replace h := zI_x hS19 h
        have g20 : gK S19 a0 = 7 := by rw [hS19]; exact g1
        have g21 : gK S19 r3 = 30 := by rw [hS19]; exact g4
        have g22 : gK S19 r12 = 8 := by rw [hS19]; exact g13
        have g23 : gK S19 r11 = 30 := by rw [hS19]; exact g18
        refine x_aload_n (pc := 55) hC 1 dX1_mark_55 rfl rfl ?_
        refine x_getRv (pc := 56) (k := 1) hC fc_7 fl_RX1_18 dX1_mark_56 rfl g20 (fun r24 hr24 => ?_)
        replace h := lt_x hr24 h
        refine x_iload_n (pc := 59) hC 2 dX1_mark_59 rfl rfl ?_
        obtain ⟨g27, h⟩ := gd_some h
        obtain ⟨g26, h⟩ := gd_some h
        refine x_ialdv (pc := 60) hC dX1_mark_60 g27 g26 (fun x28 hx28 => ?_)
        replace h := lt_x hx28 h
        exact x_ireturn (pc := 61) hC hE dX1_mark_61 (so h) (Nat.le_of_ble_eq_true rfl) (Nat.le_of_ble_eq_true rfl)
      · rw [if_neg c29] at h
        refine x_pick [] rfl ?_
        exact t_X1_mark_20 hls hC hl hE h
theorem c_X1_mark (l : Launch) (hls : l.stackTraces = false) {S : mS} {a0 : Nat} {a1 : Int32} {o : Rs Int32} (h : f_X1_mark S a0 a1 = some o) : CT (fun r : Int32 => some (.int r)) l yX1_mark (.code yX1_mark cX1_mark 3 (Option.some Jvm.ClassFile.FieldType.int)) rm_X1_mark S [.ref a0, .int a1] o := ct_of (by decide +kernel) hls (Nat.le_of_ble_eq_true rfl) (fun C hl hC hE => t_X1_mark hls hC hl hE h)
abbrev rm_X1_jumpToCue : Room := { frames := 8, cells := 0, slots := 0, locals := 150 }
def f_X1_jumpToCue_23  (S : mS) : Option (Rs Int32) :=
  some (.inl (0 : Int32), S)
set_option maxHeartbeats 2000000 in
set_option maxRecDepth 100000 in
theorem t_X1_jumpToCue_23 {l : Launch} (hls : l.stackTraces = false) {C : cT} (hC : CX C cX1_jumpToCue 2 yX1_jumpToCue rm_X1_jumpToCue) (hl : C.2.1 = l) {S0 : mS} (hE : CE C S0 (Option.some Jvm.ClassFile.FieldType.boolean) []) {o : Rs Int32} {S : mS} (h : f_X1_jumpToCue_23  S = some o) : XX C 2 (QQ C (fun r : Int32 => some (.int r)) S0 o) (0) (0) S 23 [] [] := by
  unfold f_X1_jumpToCue_23 at h
  refine x_iconst (pc := 23) (v := (0 : Int32)) hC dX1_jumpToCue_23 (by decide) ?_
  exact x_zreturn (pc := 24) hC hE dX1_jumpToCue_24 (show NF .boolean _ from ⟨rfl, rfl⟩).1 (so h) (Nat.le_of_ble_eq_true rfl) (Nat.le_of_ble_eq_true rfl)
def f_X1_jumpToCue (S : mS) (a0 : Nat) (a1 : Int32) : Option (Rs Int32) :=
  if a1 < 0 then (f_X1_jumpToCue_23  S) else (gd (gK S a0 = 7) (lt9 (gR S a0 1) fun r2 => gd (gK S r2 = 30) (lt9 (Int32.ofNat (gZ S r2)) fun x4 => if x4 ≤ a1 then (f_X1_jumpToCue_23  S) else (lt9 (gR S a0 1) fun r5 => gd (gK S r5 = 30) (gd (¬ (a1 < 0 ∨ gZ S r5 ≤ (a1).toNatClampNeg)) (lt9 (gI S r5 (a1).toNatClampNeg) fun x9 => if x9 = (-1 : Int32) then (f_X1_jumpToCue_23  S) else (lt9 (gR S a0 1) fun r10 => gd (gK S r10 = 30) (gd (¬ (a1 < 0 ∨ gZ S r10 ≤ (a1).toNatClampNeg)) (lt9 (gI S r10 (a1).toNatClampNeg) fun x14 => lt9 ((x14).toInt64) fun x15 => lt9 (x15 * (60000000 : Int64)) fun x16 => zL (sL S a0 3 x16) fun S17 => some (.inl (1 : Int32), S17))))))))))
set_option maxHeartbeats 2000000 in
set_option maxRecDepth 100000 in
theorem t_X1_jumpToCue {l : Launch} (hls : l.stackTraces = false) {C : cT} (hC : CX C cX1_jumpToCue 2 yX1_jumpToCue rm_X1_jumpToCue) (hl : C.2.1 = l) {S0 : mS} (hE : CE C S0 (Option.some Jvm.ClassFile.FieldType.boolean) []) {o : Rs Int32} {S : mS} {a0 : Nat} {a1 : Int32} (h : f_X1_jumpToCue S a0 a1 = some o) : XX C 2 (QQ C (fun r : Int32 => some (.int r)) S0 o) 0 0 S 0 [(0, .ref a0), (1, .int a1)] [] := by
  unfold f_X1_jumpToCue at h
  refine x_iload_n (pc := 0) hC 1 dX1_jumpToCue_0 rfl rfl ?_
  refine x_if_lt (pc := 1) hC 23 dX1_jumpToCue_1 (by decide) (fun c24 => ?_) (fun c24 => ?_)
  · rw [if_pos c24] at h
    refine x_pick [] rfl ?_
    exact t_X1_jumpToCue_23 hls hC hl hE h
  · rw [if_neg c24] at h
    refine x_iload_n (pc := 4) hC 1 dX1_jumpToCue_4 rfl rfl ?_
    refine x_aload_n (pc := 5) hC 0 dX1_jumpToCue_5 rfl rfl ?_
    obtain ⟨g1, h⟩ := gd_some h
    refine x_getRv (pc := 6) (k := 1) hC fc_7 fl_RX1_18 dX1_jumpToCue_6 rfl g1 (fun r2 hr2 => ?_)
    replace h := lt_x hr2 h
    obtain ⟨g3, h⟩ := gd_some h
    refine x_alenv (pc := 9) (t0 := 0) hC dX1_jumpToCue_9 g3 (by decide) (fun _ => rfl) (fun x4 hx4 => ?_)
    replace h := lt_x hx4 h
    refine x_icmp_ge (pc := 10) hC 23 dX1_jumpToCue_10 (by decide) (fun c23 => ?_) (fun c23 => ?_)
    · rw [if_pos c23] at h
      refine x_pick [] rfl ?_
      exact t_X1_jumpToCue_23 hls hC hl hE h
    · rw [if_neg c23] at h
      refine x_aload_n (pc := 13) hC 0 dX1_jumpToCue_13 rfl rfl ?_
      refine x_getRv (pc := 14) (k := 1) hC fc_7 fl_RX1_18 dX1_jumpToCue_14 rfl g1 (fun r5 hr5 => ?_)
      replace h := lt_x hr5 h
      refine x_iload_n (pc := 17) hC 1 dX1_jumpToCue_17 rfl rfl ?_
      obtain ⟨g8, h⟩ := gd_some h
      obtain ⟨g7, h⟩ := gd_some h
      refine x_ialdv (pc := 18) hC dX1_jumpToCue_18 g8 g7 (fun x9 hx9 => ?_)
      replace h := lt_x hx9 h
      refine x_iconst (pc := 19) (v := (-1 : Int32)) hC dX1_jumpToCue_19 (by decide) ?_
      refine x_icmp_ne (pc := 20) hC 25 dX1_jumpToCue_20 (by decide) (fun c22 => ?_) (fun c22 => ?_)
      · rw [if_neg c22] at h
        refine x_aload_n (pc := 25) hC 0 dX1_jumpToCue_25 rfl rfl ?_
        refine x_aload_n (pc := 26) hC 0 dX1_jumpToCue_26 rfl rfl ?_
        refine x_getRv (pc := 27) (k := 1) hC fc_7 fl_RX1_18 dX1_jumpToCue_27 rfl g1 (fun r10 hr10 => ?_)
        replace h := lt_x hr10 h
        refine x_iload_n (pc := 30) hC 1 dX1_jumpToCue_30 rfl rfl ?_
        obtain ⟨g13, h⟩ := gd_some h
        obtain ⟨g12, h⟩ := gd_some h
        refine x_ialdv (pc := 31) hC dX1_jumpToCue_31 g13 g12 (fun x14 hx14 => ?_)
        replace h := lt_x hx14 h
        refine x_i2lv (pc := 32) hC dX1_jumpToCue_32 (fun x15 hx15 => ?_)
        replace h := lt_x hx15 h
        refine x_ldc2 (pc := 33) hC wm_559 dX1_jumpToCue_33 ?_
        refine x_lmulv (pc := 36) hC dX1_jumpToCue_36 (fun x16 hx16 => ?_)
        replace h := lt_x hx16 h
        refine x_putLv (pc := 37) (k := 3) hC fc_7 fl_RX1_41 dX1_jumpToCue_37 rfl rfl rfl g1 (fun S17 hS17 => ?_)
        replace h := zL_x hS17 h
        have g18 : gK S17 a0 = 7 := by rw [hS17]; exact g1
        have g19 : gK S17 r2 = 30 := by rw [hS17]; exact g3
        have g20 : gK S17 r5 = 30 := by rw [hS17]; exact g8
        have g21 : gK S17 r10 = 30 := by rw [hS17]; exact g13
        refine x_iconst (pc := 40) (v := (1 : Int32)) hC dX1_jumpToCue_40 (by decide) ?_
        exact x_zreturn (pc := 41) hC hE dX1_jumpToCue_41 (show NF .boolean _ from ⟨rfl, rfl⟩).1 (so h) (Nat.le_of_ble_eq_true rfl) (Nat.le_of_ble_eq_true rfl)
      · rw [if_pos c22] at h
        refine x_pick [] rfl ?_
        exact t_X1_jumpToCue_23 hls hC hl hE h
theorem c_X1_jumpToCue (l : Launch) (hls : l.stackTraces = false) {S : mS} {a0 : Nat} {a1 : Int32} {o : Rs Int32} (h : f_X1_jumpToCue S a0 a1 = some o) : CT (fun r : Int32 => some (.int r)) l yX1_jumpToCue (.code yX1_jumpToCue cX1_jumpToCue 2 (Option.some Jvm.ClassFile.FieldType.boolean)) rm_X1_jumpToCue S [.ref a0, .int a1] o := ct_of (by decide +kernel) hls (Nat.le_of_ble_eq_true rfl) (fun C hl hC hE => t_X1_jumpToCue hls hC hl hE h)
abbrev rm_X1_hasRoomFor : Room := { frames := 9, cells := 0, slots := 0, locals := 170 }
def f_X1_hasRoomFor_30  (S : mS) (s0 : Int32) : Option (Rs Int32) :=
  gd (s0 = 0 ∨ s0 = 1) (some (.inl s0, S))
set_option maxHeartbeats 2000000 in
set_option maxRecDepth 100000 in
theorem t_X1_hasRoomFor_30 {l : Launch} (hls : l.stackTraces = false) {C : cT} (hC : CX C cX1_hasRoomFor 2 yX1_hasRoomFor rm_X1_hasRoomFor) (hl : C.2.1 = l) {S0 : mS} (hE : CE C S0 (Option.some Jvm.ClassFile.FieldType.boolean) []) {o : Rs Int32} {S : mS} {s0 : Int32} (h : f_X1_hasRoomFor_30  S s0 = some o) : XX C 2 (QQ C (fun r : Int32 => some (.int r)) S0 o) (0) (0) S 30 [] [.int s0] := by
  unfold f_X1_hasRoomFor_30 at h
  obtain ⟨g1, h⟩ := gd_some h
  exact x_zreturn (pc := 30) hC hE dX1_hasRoomFor_30 (nf_B g1).1 (so h) (Nat.le_of_ble_eq_true rfl) (Nat.le_of_ble_eq_true rfl)
def f_X1_hasRoomFor_29  (S : mS) : Option (Rs Int32) :=
  f_X1_hasRoomFor_30  S (0 : Int32)
set_option maxHeartbeats 2000000 in
set_option maxRecDepth 100000 in
theorem t_X1_hasRoomFor_29 {l : Launch} (hls : l.stackTraces = false) {C : cT} (hC : CX C cX1_hasRoomFor 2 yX1_hasRoomFor rm_X1_hasRoomFor) (hl : C.2.1 = l) {S0 : mS} (hE : CE C S0 (Option.some Jvm.ClassFile.FieldType.boolean) []) {o : Rs Int32} {S : mS} (h : f_X1_hasRoomFor_29  S = some o) : XX C 2 (QQ C (fun r : Int32 => some (.int r)) S0 o) (0) (0) S 29 [] [] := by
  unfold f_X1_hasRoomFor_29 at h
  refine x_iconst (pc := 29) (v := (0 : Int32)) hC dX1_hasRoomFor_29 (by decide) ?_
  refine x_pick [] rfl ?_
  exact t_X1_hasRoomFor_30 hls hC hl hE h
def f_X1_hasRoomFor (S : mS) (a0 : Nat) (a1 : Int32) : Option (Rs Int32) :=
  gd (gK S a0 = 7) (lt9 (gR S a0 2) fun r2 => if r2 = 0 then (f_X1_hasRoomFor_29  S) else (bd (f_X1_beatNow S a0) fun x3 S4 => lt9 ((1 : Int32) <<< (a1 &&& 31)) fun x7 => lt9 (x3 + x7) fun x8 => gd (gK S4 a0 = 7) (lt9 (gR S4 a0 2) fun r10 => gd (gK S4 r10 = 8) (lt9 (gI S4 r10 2) fun x12 => if x12 < x8 then (f_X1_hasRoomFor_29  S4) else (f_X1_hasRoomFor_30  S4 (1 : Int32))))))
set_option maxHeartbeats 2000000 in
set_option maxRecDepth 100000 in
theorem t_X1_hasRoomFor {l : Launch} (hls : l.stackTraces = false) {C : cT} (hC : CX C cX1_hasRoomFor 2 yX1_hasRoomFor rm_X1_hasRoomFor) (hl : C.2.1 = l) {S0 : mS} (hE : CE C S0 (Option.some Jvm.ClassFile.FieldType.boolean) []) {o : Rs Int32} {S : mS} {a0 : Nat} {a1 : Int32} (h : f_X1_hasRoomFor S a0 a1 = some o) : XX C 2 (QQ C (fun r : Int32 => some (.int r)) S0 o) 0 0 S 0 [(0, .ref a0), (1, .int a1)] [] := by
  unfold f_X1_hasRoomFor at h
  refine x_aload_n (pc := 0) hC 0 dX1_hasRoomFor_0 rfl rfl ?_
  obtain ⟨g1, h⟩ := gd_some h
  refine x_getRv (pc := 1) (k := 2) hC fc_7 fl_RX1_29 dX1_hasRoomFor_1 rfl g1 (fun r2 hr2 => ?_)
  replace h := lt_x hr2 h
  refine x_ifnull (pc := 4) hC 29 dX1_hasRoomFor_4 (by decide) (fun c14 => ?_) (fun c14 => ?_)
  · rw [if_pos c14] at h
    refine x_pick [] rfl ?_
    exact t_X1_hasRoomFor_29 hls hC hl hE h
  · rw [if_neg c14] at h
    refine x_aload_n (pc := 7) hC 0 dX1_hasRoomFor_7 rfl rfl ?_
    obtain ⟨o5, ho5, h⟩ := bd_some h
    refine x_callV (pc := 8) (As := []) (rest := []) hC hl (c_X1_beatNow l hls ho5) lk_RX1_73 fc_7 g1 dX1_hasRoomFor_8 rfl rfl (Nat.le_of_ble_eq_true rfl) ⟨Nat.le_of_ble_eq_true rfl, Nat.le_of_ble_eq_true rfl⟩ ⟨(Nat.le_of_ble_eq_true rfl), (Nat.le_of_ble_eq_true rfl)⟩ ?_
    rcases o5 with ⟨x3 | E6, S4⟩
    · refine xk_i ?_
      replace h := bk_l h
      refine x_iconst (pc := 11) (v := (1 : Int32)) hC dX1_hasRoomFor_11 (by decide) ?_
      refine x_iload_n (pc := 12) hC 1 dX1_hasRoomFor_12 rfl rfl ?_
      refine x_ishlv (pc := 13) hC dX1_hasRoomFor_13 (fun x7 hx7 => ?_)
      replace h := lt_x hx7 h
      refine x_iaddv (pc := 14) hC dX1_hasRoomFor_14 (fun x8 hx8 => ?_)
      replace h := lt_x hx8 h
      refine x_aload_n (pc := 15) hC 0 dX1_hasRoomFor_15 rfl rfl ?_
      obtain ⟨g9, h⟩ := gd_some h
      refine x_getRv (pc := 16) (k := 2) hC fc_7 fl_RX1_29 dX1_hasRoomFor_16 rfl g9 (fun r10 hr10 => ?_)
      replace h := lt_x hr10 h
      obtain ⟨g11, h⟩ := gd_some h
      refine x_getIv (pc := 19) (k := 2) hC fc_8 fl_RX1_70 dX1_hasRoomFor_19 rfl g11 (fun x12 hx12 => ?_)
      replace h := lt_x hx12 h
      refine x_icmp_gt (pc := 22) hC 29 dX1_hasRoomFor_22 (by decide) (fun c13 => ?_) (fun c13 => ?_)
      · rw [if_pos c13] at h
        refine x_pick [] rfl ?_
        exact t_X1_hasRoomFor_29 hls hC hl hE h
      · rw [if_neg c13] at h
        refine x_iconst (pc := 25) (v := (1 : Int32)) hC dX1_hasRoomFor_25 (by decide) ?_
        refine x_goto (pc := 26) hC 30 dX1_hasRoomFor_26 (by decide) ?_
        refine x_pick [] rfl ?_
        exact t_X1_hasRoomFor_30 hls hC hl hE h
    · exact xk_r (xt_out hC hE (bk_r h) (Nat.le_of_ble_eq_true rfl) (Nat.le_of_ble_eq_true rfl))
theorem c_X1_hasRoomFor (l : Launch) (hls : l.stackTraces = false) {S : mS} {a0 : Nat} {a1 : Int32} {o : Rs Int32} (h : f_X1_hasRoomFor S a0 a1 = some o) : CT (fun r : Int32 => some (.int r)) l yX1_hasRoomFor (.code yX1_hasRoomFor cX1_hasRoomFor 2 (Option.some Jvm.ClassFile.FieldType.boolean)) rm_X1_hasRoomFor S [.ref a0, .int a1] o := ct_of (by decide +kernel) hls (Nat.le_of_ble_eq_true rfl) (fun C hl hC hE => t_X1_hasRoomFor hls hC hl hE h)
abbrev rm_X1_turnRound : Room := { frames := 9, cells := 0, slots := 0, locals := 170 }
def f_X1_turnRound (S : mS) (a0 : Nat) (a1 : Int32) : Option (Rs Int32) :=
  gd (gK S a0 = 7) (bd (f_X1_beatNow S a0) fun x2 S3 => gd (gK S3 a0 = 7) (zI (sI S3 a0 8 x2) fun S7 => lt9 (gI S7 a0 8) fun x9 => lt9 ((1 : Int32) <<< (a1 &&& 31)) fun x10 => lt9 (x9 + x10) fun x11 => zI (sI S7 a0 9 x11) fun S12 => lt9 (gI S12 a0 9) fun x14 => some (.inl x14, S12)))
set_option maxHeartbeats 2000000 in
set_option maxRecDepth 100000 in
theorem t_X1_turnRound {l : Launch} (hls : l.stackTraces = false) {C : cT} (hC : CX C cX1_turnRound 2 yX1_turnRound rm_X1_turnRound) (hl : C.2.1 = l) {S0 : mS} (hE : CE C S0 (Option.some Jvm.ClassFile.FieldType.int) []) {o : Rs Int32} {S : mS} {a0 : Nat} {a1 : Int32} (h : f_X1_turnRound S a0 a1 = some o) : XX C 2 (QQ C (fun r : Int32 => some (.int r)) S0 o) 0 0 S 0 [(0, .ref a0), (1, .int a1)] [] := by
  unfold f_X1_turnRound at h
  refine x_aload_n (pc := 0) hC 0 dX1_turnRound_0 rfl rfl ?_
  refine x_aload_n (pc := 1) hC 0 dX1_turnRound_1 rfl rfl ?_
  obtain ⟨g1, h⟩ := gd_some h
  obtain ⟨o4, ho4, h⟩ := bd_some h
  refine x_callV (pc := 2) (As := []) (rest := [.ref a0]) hC hl (c_X1_beatNow l hls ho4) lk_RX1_73 fc_7 g1 dX1_turnRound_2 rfl rfl (Nat.le_of_ble_eq_true rfl) ⟨Nat.le_of_ble_eq_true rfl, Nat.le_of_ble_eq_true rfl⟩ ⟨(Nat.le_of_ble_eq_true rfl), (Nat.le_of_ble_eq_true rfl)⟩ ?_
  rcases o4 with ⟨x2 | E5, S3⟩
  · refine xk_i ?_
    replace h := bk_l h
    obtain ⟨g6, h⟩ := gd_some h
    refine x_putIv (pc := 5) (k := 8) hC fc_7 fl_RX1_26 dX1_turnRound_5 rfl rfl (nf_int _) g6 (fun S7 hS7 => ?_)
    replace h := zI_x hS7 h
    have g8 : gK S7 a0 = 7 := by rw [hS7]; exact g6
    refine x_aload_n (pc := 8) hC 0 dX1_turnRound_8 rfl rfl ?_
    refine x_aload_n (pc := 9) hC 0 dX1_turnRound_9 rfl rfl ?_
    refine x_getIv (pc := 10) (k := 8) hC fc_7 fl_RX1_26 dX1_turnRound_10 rfl g8 (fun x9 hx9 => ?_)
    replace h := lt_x hx9 h
    refine x_iconst (pc := 13) (v := (1 : Int32)) hC dX1_turnRound_13 (by decide) ?_
    refine x_iload_n (pc := 14) hC 1 dX1_turnRound_14 rfl rfl ?_
    refine x_ishlv (pc := 15) hC dX1_turnRound_15 (fun x10 hx10 => ?_)
    replace h := lt_x hx10 h
    refine x_iaddv (pc := 16) hC dX1_turnRound_16 (fun x11 hx11 => ?_)
    replace h := lt_x hx11 h
    refine x_putIv (pc := 17) (k := 9) hC fc_7 fl_RX1_58 dX1_turnRound_17 rfl rfl (nf_int _) g8 (fun S12 hS12 => ?_)
    replace h := zI_x hS12 h
    have g13 : gK S12 a0 = 7 := by rw [hS12]; exact g8
    refine x_aload_n (pc := 20) hC 0 dX1_turnRound_20 rfl rfl ?_
    refine x_getIv (pc := 21) (k := 9) hC fc_7 fl_RX1_58 dX1_turnRound_21 rfl g13 (fun x14 hx14 => ?_)
    replace h := lt_x hx14 h
    exact x_ireturn (pc := 24) hC hE dX1_turnRound_24 (so h) (Nat.le_of_ble_eq_true rfl) (Nat.le_of_ble_eq_true rfl)
  · exact xk_r (xt_out hC hE (bk_r h) (Nat.le_of_ble_eq_true rfl) (Nat.le_of_ble_eq_true rfl))
theorem c_X1_turnRound (l : Launch) (hls : l.stackTraces = false) {S : mS} {a0 : Nat} {a1 : Int32} {o : Rs Int32} (h : f_X1_turnRound S a0 a1 = some o) : CT (fun r : Int32 => some (.int r)) l yX1_turnRound (.code yX1_turnRound cX1_turnRound 2 (Option.some Jvm.ClassFile.FieldType.int)) rm_X1_turnRound S [.ref a0, .int a1] o := ct_of (by decide +kernel) hls (Nat.le_of_ble_eq_true rfl) (fun C hl hC hE => t_X1_turnRound hls hC hl hE h)
abbrev rm_X1_leaveLoop : Room := { frames := 8, cells := 0, slots := 0, locals := 150 }
def f_X1_leaveLoop_13  (S : mS) (a0 : Nat) (s0 : Int32) : Option (Rs Int32) :=
  gd (gK S a0 = 7) (zI (sI S a0 8 (-1 : Int32)) fun S2 => gd (s0 = 0 ∨ s0 = 1) (some (.inl s0, S2)))
set_option maxHeartbeats 2000000 in
set_option maxRecDepth 100000 in
theorem t_X1_leaveLoop_13 {l : Launch} (hls : l.stackTraces = false) {C : cT} (hC : CX C cX1_leaveLoop 2 yX1_leaveLoop rm_X1_leaveLoop) (hl : C.2.1 = l) {S0 : mS} (hE : CE C S0 (Option.some Jvm.ClassFile.FieldType.boolean) []) {o : Rs Int32} {S : mS} {a0 : Nat} {s0 : Int32} (h : f_X1_leaveLoop_13  S a0 s0 = some o) : XX C 2 (QQ C (fun r : Int32 => some (.int r)) S0 o) (0) (0) S 13 [(0, .ref a0)] [.int s0] := by
  unfold f_X1_leaveLoop_13 at h
  refine x_istore_n (pc := 13) hC dX1_leaveLoop_13 rfl (by decide) (by decide) rfl ?_
  refine x_aload_n (pc := 14) hC 1 dX1_leaveLoop_14 rfl rfl ?_
  refine x_iconst (pc := 15) (v := (-1 : Int32)) hC dX1_leaveLoop_15 (by decide) ?_
  obtain ⟨g1, h⟩ := gd_some h
  refine x_putIv (pc := 16) (k := 8) hC fc_7 fl_RX1_26 dX1_leaveLoop_16 rfl rfl (nf_int _) g1 (fun S2 hS2 => ?_)
  replace h := zI_x hS2 h
  have g3 : gK S2 a0 = 7 := by rw [hS2]; exact g1
  refine x_iload_n (pc := 19) hC 0 dX1_leaveLoop_19 rfl rfl ?_
  obtain ⟨g4, h⟩ := gd_some h
  exact x_zreturn (pc := 20) hC hE dX1_leaveLoop_20 (nf_B g4).1 (so h) (Nat.le_of_ble_eq_true rfl) (Nat.le_of_ble_eq_true rfl)
def f_X1_leaveLoop (S : mS) (a0 : Nat) : Option (Rs Int32) :=
  gd (gK S a0 = 7) (lt9 (gI S a0 8) fun x2 => if x2 = (-1 : Int32) then (f_X1_leaveLoop_13  S a0 (0 : Int32)) else (f_X1_leaveLoop_13  S a0 (1 : Int32)))
set_option maxHeartbeats 2000000 in
set_option maxRecDepth 100000 in
theorem t_X1_leaveLoop {l : Launch} (hls : l.stackTraces = false) {C : cT} (hC : CX C cX1_leaveLoop 2 yX1_leaveLoop rm_X1_leaveLoop) (hl : C.2.1 = l) {S0 : mS} (hE : CE C S0 (Option.some Jvm.ClassFile.FieldType.boolean) []) {o : Rs Int32} {S : mS} {a0 : Nat} (h : f_X1_leaveLoop S a0 = some o) : XX C 2 (QQ C (fun r : Int32 => some (.int r)) S0 o) 0 0 S 0 [(0, .ref a0)] [] := by
  unfold f_X1_leaveLoop at h
  refine x_aload_n (pc := 0) hC 0 dX1_leaveLoop_0 rfl rfl ?_
  obtain ⟨g1, h⟩ := gd_some h
  refine x_getIv (pc := 1) (k := 8) hC fc_7 fl_RX1_26 dX1_leaveLoop_1 rfl g1 (fun x2 hx2 => ?_)
  replace h := lt_x hx2 h
  refine x_iconst (pc := 4) (v := (-1 : Int32)) hC dX1_leaveLoop_4 (by decide) ?_
  refine x_icmp_eq (pc := 5) hC 12 dX1_leaveLoop_5 (by decide) (fun c3 => ?_) (fun c3 => ?_)
  · rw [if_pos c3] at h
    refine x_iconst (pc := 12) (v := (0 : Int32)) hC dX1_leaveLoop_12 (by decide) ?_
    refine x_pick [0] rfl ?_
    exact t_X1_leaveLoop_13 hls hC hl hE h
  · rw [if_neg c3] at h
    refine x_iconst (pc := 8) (v := (1 : Int32)) hC dX1_leaveLoop_8 (by decide) ?_
    refine x_goto (pc := 9) hC 13 dX1_leaveLoop_9 (by decide) ?_
    refine x_pick [0] rfl ?_
    exact t_X1_leaveLoop_13 hls hC hl hE h
theorem c_X1_leaveLoop (l : Launch) (hls : l.stackTraces = false) {S : mS} {a0 : Nat} {o : Rs Int32} (h : f_X1_leaveLoop S a0 = some o) : CT (fun r : Int32 => some (.int r)) l yX1_leaveLoop (.code yX1_leaveLoop cX1_leaveLoop 2 (Option.some Jvm.ClassFile.FieldType.boolean)) rm_X1_leaveLoop S [.ref a0] o := ct_of (by decide +kernel) hls (Nat.le_of_ble_eq_true rfl) (fun C hl hC hE => t_X1_leaveLoop hls hC hl hE h)
abbrev rm_X1_turnSlip : Room := { frames := 8, cells := 0, slots := 0, locals := 150 }
def f_X1_turnSlip_37  (S : mS) (a0 : Nat) (a1 : Int32) (a2 : Int32) : Option (Rs Int32) :=
  gd (gK S a0 = 7) (gd (a1 = 0 ∨ a1 = 1) (zI (sI S a0 10 a1) fun S3 => gd (a2 = 0 ∨ a2 = 1) (some (.inl a2, S3))))
set_option maxHeartbeats 2000000 in
set_option maxRecDepth 100000 in
theorem t_X1_turnSlip_37 {l : Launch} (hls : l.stackTraces = false) {C : cT} (hC : CX C cX1_turnSlip 3 yX1_turnSlip rm_X1_turnSlip) (hl : C.2.1 = l) {S0 : mS} (hE : CE C S0 (Option.some Jvm.ClassFile.FieldType.boolean) []) {o : Rs Int32} {S : mS} {a0 : Nat} {a1 : Int32} {a2 : Int32} (h : f_X1_turnSlip_37  S a0 a1 a2 = some o) : XX C 3 (QQ C (fun r : Int32 => some (.int r)) S0 o) (0) (0) S 37 [(0, .ref a0), (1, .int a1), (2, .int a2)] [] := by
  unfold f_X1_turnSlip_37 at h
  refine x_aload_n (pc := 37) hC 0 dX1_turnSlip_37 rfl rfl ?_
  refine x_iload_n (pc := 38) hC 1 dX1_turnSlip_38 rfl rfl ?_
  obtain ⟨g1, h⟩ := gd_some h
  obtain ⟨g2, h⟩ := gd_some h
  refine x_putIv (pc := 39) (k := 10) hC fc_7 fl_RX1_52 dX1_turnSlip_39 rfl rfl (nf_B g2) g1 (fun S3 hS3 => ?_)
  replace h := zI_x hS3 h
  have g4 : gK S3 a0 = 7 := by rw [hS3]; exact g1
  refine x_iload_n (pc := 42) hC 2 dX1_turnSlip_42 rfl rfl ?_
  obtain ⟨g5, h⟩ := gd_some h
  exact x_zreturn (pc := 43) hC hE dX1_turnSlip_43 (nf_B g5).1 (so h) (Nat.le_of_ble_eq_true rfl) (Nat.le_of_ble_eq_true rfl)
def f_X1_turnSlip_21  (S : mS) (a0 : Nat) (a1 : Int32) (a2 : Int32) : Option (Rs Int32) :=
  if a1 = 0 then (if a2 = 0 then (f_X1_turnSlip_37  S a0 a1 a2) else (gd (gK S a0 = 7) (lt9 (gL S a0 11) fun x2 => zL (sL S a0 3 x2) fun S3 => f_X1_turnSlip_37  S3 a0 a1 a2))) else (f_X1_turnSlip_37  S a0 a1 a2)
set_option maxHeartbeats 2000000 in
set_option maxRecDepth 100000 in
theorem t_X1_turnSlip_21 {l : Launch} (hls : l.stackTraces = false) {C : cT} (hC : CX C cX1_turnSlip 3 yX1_turnSlip rm_X1_turnSlip) (hl : C.2.1 = l) {S0 : mS} (hE : CE C S0 (Option.some Jvm.ClassFile.FieldType.boolean) []) {o : Rs Int32} {S : mS} {a0 : Nat} {a1 : Int32} {a2 : Int32} (h : f_X1_turnSlip_21  S a0 a1 a2 = some o) : XX C 3 (QQ C (fun r : Int32 => some (.int r)) S0 o) (0) (0) S 21 [(0, .ref a0), (1, .int a1), (2, .int a2)] [] := by
  unfold f_X1_turnSlip_21 at h
  refine x_iload_n (pc := 21) hC 1 dX1_turnSlip_21 rfl rfl ?_
  refine x_if_ne (pc := 22) hC 37 dX1_turnSlip_22 (by decide) (fun c6 => ?_) (fun c6 => ?_)
  · rw [if_neg c6] at h
    refine x_pick [0, 1, 2] rfl ?_
    exact t_X1_turnSlip_37 hls hC hl hE h
  · rw [if_pos c6] at h
    refine x_iload_n (pc := 25) hC 2 dX1_turnSlip_25 rfl rfl ?_
    refine x_if_eq (pc := 26) hC 37 dX1_turnSlip_26 (by decide) (fun c5 => ?_) (fun c5 => ?_)
    · rw [if_pos c5] at h
      refine x_pick [0, 1, 2] rfl ?_
      exact t_X1_turnSlip_37 hls hC hl hE h
    · rw [if_neg c5] at h
      refine x_aload_n (pc := 29) hC 0 dX1_turnSlip_29 rfl rfl ?_
      refine x_aload_n (pc := 30) hC 0 dX1_turnSlip_30 rfl rfl ?_
      obtain ⟨g1, h⟩ := gd_some h
      refine x_getLv (pc := 31) (k := 11) hC fc_7 fl_RX1_61 dX1_turnSlip_31 rfl g1 (fun x2 hx2 => ?_)
      replace h := lt_x hx2 h
      refine x_putLv (pc := 34) (k := 3) hC fc_7 fl_RX1_41 dX1_turnSlip_34 rfl rfl rfl g1 (fun S3 hS3 => ?_)
      replace h := zL_x hS3 h
      have g4 : gK S3 a0 = 7 := by rw [hS3]; exact g1
      refine x_pick [0, 1, 2] rfl ?_
      exact t_X1_turnSlip_37 hls hC hl hE h
def f_X1_turnSlip (S : mS) (a0 : Nat) (a1 : Int32) : Option (Rs Int32) :=
  gd (gK S a0 = 7) (lt9 (gI S a0 10) fun x2 => if a1 = 0 then (f_X1_turnSlip_21  S a0 a1 x2) else (if x2 = 0 then (lt9 (gL S a0 3) fun x3 => zL (sL S a0 11 x3) fun S4 => f_X1_turnSlip_21  S4 a0 a1 x2) else (f_X1_turnSlip_21  S a0 a1 x2)))
set_option maxHeartbeats 2000000 in
set_option maxRecDepth 100000 in
theorem t_X1_turnSlip {l : Launch} (hls : l.stackTraces = false) {C : cT} (hC : CX C cX1_turnSlip 3 yX1_turnSlip rm_X1_turnSlip) (hl : C.2.1 = l) {S0 : mS} (hE : CE C S0 (Option.some Jvm.ClassFile.FieldType.boolean) []) {o : Rs Int32} {S : mS} {a0 : Nat} {a1 : Int32} (h : f_X1_turnSlip S a0 a1 = some o) : XX C 3 (QQ C (fun r : Int32 => some (.int r)) S0 o) 0 0 S 0 [(0, .ref a0), (1, .int a1)] [] := by
  unfold f_X1_turnSlip at h
  refine x_aload_n (pc := 0) hC 0 dX1_turnSlip_0 rfl rfl ?_
  obtain ⟨g1, h⟩ := gd_some h
  refine x_getIv (pc := 1) (k := 10) hC fc_7 fl_RX1_52 dX1_turnSlip_1 rfl g1 (fun x2 hx2 => ?_)
  replace h := lt_x hx2 h
  refine x_istore_n (pc := 4) hC dX1_turnSlip_4 rfl (by decide) (by decide) rfl ?_
  refine x_iload_n (pc := 5) hC 2 dX1_turnSlip_5 rfl rfl ?_
  refine x_if_eq (pc := 6) hC 21 dX1_turnSlip_6 (by decide) (fun c7 => ?_) (fun c7 => ?_)
  · rw [if_pos c7] at h
    refine x_pick [1, 2, 0] rfl ?_
    exact t_X1_turnSlip_21 hls hC hl hE h
  · rw [if_neg c7] at h
    refine x_iload_n (pc := 9) hC 0 dX1_turnSlip_9 rfl rfl ?_
    refine x_if_ne (pc := 10) hC 21 dX1_turnSlip_10 (by decide) (fun c6 => ?_) (fun c6 => ?_)
    · rw [if_neg c6] at h
      refine x_pick [1, 2, 0] rfl ?_
      exact t_X1_turnSlip_21 hls hC hl hE h
    · rw [if_pos c6] at h
      refine x_aload_n (pc := 13) hC 1 dX1_turnSlip_13 rfl rfl ?_
      refine x_aload_n (pc := 14) hC 1 dX1_turnSlip_14 rfl rfl ?_
      refine x_getLv (pc := 15) (k := 3) hC fc_7 fl_RX1_41 dX1_turnSlip_15 rfl g1 (fun x3 hx3 => ?_)
      replace h := lt_x hx3 h
      refine x_putLv (pc := 18) (k := 11) hC fc_7 fl_RX1_61 dX1_turnSlip_18 rfl rfl rfl g1 (fun S4 hS4 => ?_)
      replace h := zL_x hS4 h
      have g5 : gK S4 a0 = 7 := by rw [hS4]; exact g1
      refine x_pick [1, 2, 0] rfl ?_
      exact t_X1_turnSlip_21 hls hC hl hE h
theorem c_X1_turnSlip (l : Launch) (hls : l.stackTraces = false) {S : mS} {a0 : Nat} {a1 : Int32} {o : Rs Int32} (h : f_X1_turnSlip S a0 a1 = some o) : CT (fun r : Int32 => some (.int r)) l yX1_turnSlip (.code yX1_turnSlip cX1_turnSlip 3 (Option.some Jvm.ClassFile.FieldType.boolean)) rm_X1_turnSlip S [.ref a0, .int a1] o := ct_of (by decide +kernel) hls (Nat.le_of_ble_eq_true rfl) (fun C hl hC hE => t_X1_turnSlip hls hC hl hE h)
abbrev rm_X1_skipBack : Room := { frames := 9, cells := 0, slots := 0, locals := 173 }
def f_X1_skipBack (S : mS) (a0 : Nat) (a1 : Int32) : Option (Rs Int64) :=
  gd (gK S a0 = 7) (lt9 (gL S a0 3) fun x2 => lt9 ((a1).toInt64) fun x3 => lt9 (x3 * (60000000 : Int64)) fun x4 => lt9 (x2 - x4) fun x5 => lt9 (if x5 < (0 : Int64) then (0 : Int64) else x5) fun x6 => zL (sL S a0 3 x6) fun S7 => lt9 (gL S7 a0 3) fun x9 => some (.inl x9, S7))
set_option maxHeartbeats 2000000 in
set_option maxRecDepth 100000 in
theorem t_X1_skipBack {l : Launch} (hls : l.stackTraces = false) {C : cT} (hC : CX C cX1_skipBack 2 yX1_skipBack rm_X1_skipBack) (hl : C.2.1 = l) {S0 : mS} (hE : CE C S0 (Option.some Jvm.ClassFile.FieldType.long) []) {o : Rs Int64} {S : mS} {a0 : Nat} {a1 : Int32} (h : f_X1_skipBack S a0 a1 = some o) : XX C 2 (QQ C (fun r : Int64 => some (.long r)) S0 o) 0 0 S 0 [(0, .ref a0), (1, .int a1)] [] := by
  unfold f_X1_skipBack at h
  refine x_aload_n (pc := 0) hC 0 dX1_skipBack_0 rfl rfl ?_
  refine x_lconst (pc := 1) (v := (0 : Int64)) hC dX1_skipBack_1 (by decide) ?_
  refine x_aload_n (pc := 2) hC 0 dX1_skipBack_2 rfl rfl ?_
  obtain ⟨g1, h⟩ := gd_some h
  refine x_getLv (pc := 3) (k := 3) hC fc_7 fl_RX1_41 dX1_skipBack_3 rfl g1 (fun x2 hx2 => ?_)
  replace h := lt_x hx2 h
  refine x_iload_n (pc := 6) hC 1 dX1_skipBack_6 rfl rfl ?_
  refine x_i2lv (pc := 7) hC dX1_skipBack_7 (fun x3 hx3 => ?_)
  replace h := lt_x hx3 h
  refine x_ldc2 (pc := 8) hC wm_559 dX1_skipBack_8 ?_
  refine x_lmulv (pc := 11) hC dX1_skipBack_11 (fun x4 hx4 => ?_)
  replace h := lt_x hx4 h
  refine x_lsubv (pc := 12) hC dX1_skipBack_12 (fun x5 hx5 => ?_)
  replace h := lt_x hx5 h
  refine x_mmax_long (pc := 13) hC wm_815 wm_816 wm_69 wm_817 dX1_skipBack_13 (Nat.le_of_ble_eq_true rfl) (Nat.le_of_ble_eq_true rfl) (Nat.le_of_ble_eq_true rfl) (Nat.le_of_ble_eq_true rfl) (fun x6 hx6 => ?_)
  replace h := lt_x hx6 h
  refine x_putLv (pc := 16) (k := 3) hC fc_7 fl_RX1_41 dX1_skipBack_16 rfl rfl rfl g1 (fun S7 hS7 => ?_)
  replace h := zL_x hS7 h
  have g8 : gK S7 a0 = 7 := by rw [hS7]; exact g1
  refine x_aload_n (pc := 19) hC 0 dX1_skipBack_19 rfl rfl ?_
  refine x_getLv (pc := 20) (k := 3) hC fc_7 fl_RX1_41 dX1_skipBack_20 rfl g8 (fun x9 hx9 => ?_)
  replace h := lt_x hx9 h
  exact x_lreturn (pc := 23) hC hE dX1_skipBack_23 (so h) (Nat.le_of_ble_eq_true rfl) (Nat.le_of_ble_eq_true rfl)
theorem c_X1_skipBack (l : Launch) (hls : l.stackTraces = false) {S : mS} {a0 : Nat} {a1 : Int32} {o : Rs Int64} (h : f_X1_skipBack S a0 a1 = some o) : CT (fun r : Int64 => some (.long r)) l yX1_skipBack (.code yX1_skipBack cX1_skipBack 2 (Option.some Jvm.ClassFile.FieldType.long)) rm_X1_skipBack S [.ref a0, .int a1] o := ct_of (by decide +kernel) hls (Nat.le_of_ble_eq_true rfl) (fun C hl hC hE => t_X1_skipBack hls hC hl hE h)
abbrev rm_X1_pace : Room := { frames := 8, cells := 0, slots := 0, locals := 150 }
def f_X1_pace_27  (S : mS) (s0 : Int32) : Option (Rs Int32) :=
  some (.inl s0, S)
set_option maxHeartbeats 2000000 in
set_option maxRecDepth 100000 in
theorem t_X1_pace_27 {l : Launch} (hls : l.stackTraces = false) {C : cT} (hC : CX C cX1_pace 1 yX1_pace rm_X1_pace) (hl : C.2.1 = l) {S0 : mS} (hE : CE C S0 (Option.some Jvm.ClassFile.FieldType.int) []) {o : Rs Int32} {S : mS} {s0 : Int32} (h : f_X1_pace_27  S s0 = some o) : XX C 1 (QQ C (fun r : Int32 => some (.int r)) S0 o) (0) (0) S 27 [] [.int s0] := by
  unfold f_X1_pace_27 at h
  exact x_ireturn (pc := 27) hC hE dX1_pace_27 (so h) (Nat.le_of_ble_eq_true rfl) (Nat.le_of_ble_eq_true rfl)
def f_X1_pace (S : mS) (a0 : Nat) : Option (Rs Int32) :=
  gd (gK S a0 = 7) (lt9 (gR S a0 2) fun r2 => if r2 = 0 then (f_X1_pace_27  S (0 : Int32)) else (lt9 (gR S a0 2) fun r3 => gd (gK S r3 = 8) (lt9 (gI S r3 1) fun x5 => lt9 (gI S a0 4) fun x6 => lt9 ((1000 : Int32) + x6) fun x7 => lt9 (x5 * x7) fun x8 => f_X1_pace_27  S x8)))
set_option maxHeartbeats 2000000 in
set_option maxRecDepth 100000 in
theorem t_X1_pace {l : Launch} (hls : l.stackTraces = false) {C : cT} (hC : CX C cX1_pace 1 yX1_pace rm_X1_pace) (hl : C.2.1 = l) {S0 : mS} (hE : CE C S0 (Option.some Jvm.ClassFile.FieldType.int) []) {o : Rs Int32} {S : mS} {a0 : Nat} (h : f_X1_pace S a0 = some o) : XX C 1 (QQ C (fun r : Int32 => some (.int r)) S0 o) 0 0 S 0 [(0, .ref a0)] [] := by
  unfold f_X1_pace at h
  refine x_aload_n (pc := 0) hC 0 dX1_pace_0 rfl rfl ?_
  obtain ⟨g1, h⟩ := gd_some h
  refine x_getRv (pc := 1) (k := 2) hC fc_7 fl_RX1_29 dX1_pace_1 rfl g1 (fun r2 hr2 => ?_)
  replace h := lt_x hr2 h
  refine x_ifnonnull (pc := 4) hC 11 dX1_pace_4 (by decide) (fun c9 => ?_) (fun c9 => ?_)
  · rw [if_neg c9] at h
    refine x_aload_n (pc := 11) hC 0 dX1_pace_11 rfl rfl ?_
    refine x_getRv (pc := 12) (k := 2) hC fc_7 fl_RX1_29 dX1_pace_12 rfl g1 (fun r3 hr3 => ?_)
    replace h := lt_x hr3 h
    obtain ⟨g4, h⟩ := gd_some h
    refine x_getIv (pc := 15) (k := 1) hC fc_8 fl_RX1_89 dX1_pace_15 rfl g4 (fun x5 hx5 => ?_)
    replace h := lt_x hx5 h
    refine x_sipush (pc := 18) (v := (1000 : Int32)) hC dX1_pace_18 (by decide) ?_
    refine x_aload_n (pc := 21) hC 0 dX1_pace_21 rfl rfl ?_
    refine x_getIv (pc := 22) (k := 4) hC fc_7 fl_RX1_55 dX1_pace_22 rfl g1 (fun x6 hx6 => ?_)
    replace h := lt_x hx6 h
    refine x_iaddv (pc := 25) hC dX1_pace_25 (fun x7 hx7 => ?_)
    replace h := lt_x hx7 h
    refine x_imulv (pc := 26) hC dX1_pace_26 (fun x8 hx8 => ?_)
    replace h := lt_x hx8 h
    refine x_pick [] rfl ?_
    exact t_X1_pace_27 hls hC hl hE h
  · rw [if_pos c9] at h
    refine x_iconst (pc := 7) (v := (0 : Int32)) hC dX1_pace_7 (by decide) ?_
    refine x_goto (pc := 8) hC 27 dX1_pace_8 (by decide) ?_
    refine x_pick [] rfl ?_
    exact t_X1_pace_27 hls hC hl hE h
theorem c_X1_pace (l : Launch) (hls : l.stackTraces = false) {S : mS} {a0 : Nat} {o : Rs Int32} (h : f_X1_pace S a0 = some o) : CT (fun r : Int32 => some (.int r)) l yX1_pace (.code yX1_pace cX1_pace 1 (Option.some Jvm.ClassFile.FieldType.int)) rm_X1_pace S [.ref a0] o := ct_of (by decide +kernel) hls (Nat.le_of_ble_eq_true rfl) (fun C hl hC hE => t_X1_pace hls hC hl hE h)
abbrev rm_X1_loopedBack : Room := { frames := 8, cells := 0, slots := 0, locals := 150 }
def f_X1_loopedBack_43  (S : mS) (a1 : Int64) : Option (Rs Int64) :=
  some (.inl a1, S)
set_option maxHeartbeats 2000000 in
set_option maxRecDepth 100000 in
theorem t_X1_loopedBack_43 {l : Launch} (hls : l.stackTraces = false) {C : cT} (hC : CX C cX1_loopedBack 5 yX1_loopedBack rm_X1_loopedBack) (hl : C.2.1 = l) {S0 : mS} (hE : CE C S0 (Option.some Jvm.ClassFile.FieldType.long) []) {o : Rs Int64} {S : mS} {a1 : Int64} (h : f_X1_loopedBack_43  S a1 = some o) : XX C 5 (QQ C (fun r : Int64 => some (.long r)) S0 o) (0) (0) S 43 [(1, .long a1)] [] := by
  unfold f_X1_loopedBack_43 at h
  refine x_lload_n (pc := 43) hC 0 dX1_loopedBack_43 rfl rfl ?_
  exact x_lreturn (pc := 44) hC hE dX1_loopedBack_44 (so h) (Nat.le_of_ble_eq_true rfl) (Nat.le_of_ble_eq_true rfl)
def f_X1_loopedBack (S : mS) (a0 : Nat) (a1 : Int64) : Option (Rs Int64) :=
  gd (gK S a0 = 7) (lt9 (gI S a0 9) fun x2 => lt9 (gI S a0 8) fun x3 => lt9 (x2 - x3) fun x4 => lt9 ((x4).toInt64) fun x5 => lt9 (x5 * (60000000 : Int64)) fun x6 => lt9 (gI S a0 8) fun x7 => if x7 = (-1 : Int32) then (f_X1_loopedBack_43  S a1) else (lt9 (lg_cmp x6 (0 : Int64)) fun x8 => if x8 ≤ 0 then (f_X1_loopedBack_43  S a1) else (lt9 (gI S a0 9) fun x9 => lt9 ((x9).toInt64) fun x10 => lt9 (x10 * (60000000 : Int64)) fun x11 => lt9 (lg_cmp a1 x11) fun x12 => if 0 ≤ x12 then (lt9 (gI S a0 8) fun x13 => lt9 ((x13).toInt64) fun x14 => lt9 (x14 * (60000000 : Int64)) fun x15 => lt9 (gI S a0 8) fun x16 => lt9 ((x16).toInt64) fun x17 => lt9 (x17 * (60000000 : Int64)) fun x18 => lt9 (a1 - x18) fun x19 => gd (¬ x6 = 0) (lt9 (x19 - x19 / x6 * x6) fun x20 => lt9 (x15 + x20) fun x22 => some (.inl x22, S))) else (f_X1_loopedBack_43  S a1))))
set_option maxHeartbeats 2000000 in
set_option maxRecDepth 100000 in
theorem t_X1_loopedBack {l : Launch} (hls : l.stackTraces = false) {C : cT} (hC : CX C cX1_loopedBack 5 yX1_loopedBack rm_X1_loopedBack) (hl : C.2.1 = l) {S0 : mS} (hE : CE C S0 (Option.some Jvm.ClassFile.FieldType.long) []) {o : Rs Int64} {S : mS} {a0 : Nat} {a1 : Int64} (h : f_X1_loopedBack S a0 a1 = some o) : XX C 5 (QQ C (fun r : Int64 => some (.long r)) S0 o) 0 0 S 0 [(0, .ref a0), (1, .long a1)] [] := by
  unfold f_X1_loopedBack at h
  refine x_aload_n (pc := 0) hC 0 dX1_loopedBack_0 rfl rfl ?_
  obtain ⟨g1, h⟩ := gd_some h
  refine x_getIv (pc := 1) (k := 9) hC fc_7 fl_RX1_58 dX1_loopedBack_1 rfl g1 (fun x2 hx2 => ?_)
  replace h := lt_x hx2 h
  refine x_aload_n (pc := 4) hC 0 dX1_loopedBack_4 rfl rfl ?_
  refine x_getIv (pc := 5) (k := 8) hC fc_7 fl_RX1_26 dX1_loopedBack_5 rfl g1 (fun x3 hx3 => ?_)
  replace h := lt_x hx3 h
  refine x_isubv (pc := 8) hC dX1_loopedBack_8 (fun x4 hx4 => ?_)
  replace h := lt_x hx4 h
  refine x_i2lv (pc := 9) hC dX1_loopedBack_9 (fun x5 hx5 => ?_)
  replace h := lt_x hx5 h
  refine x_ldc2 (pc := 10) hC wm_559 dX1_loopedBack_10 ?_
  refine x_lmulv (pc := 13) hC dX1_loopedBack_13 (fun x6 hx6 => ?_)
  replace h := lt_x hx6 h
  refine x_lstore_n (pc := 14) hC dX1_loopedBack_14 rfl (by decide) (by decide) rfl ?_
  refine x_aload_n (pc := 15) hC 1 dX1_loopedBack_15 rfl rfl ?_
  refine x_getIv (pc := 16) (k := 8) hC fc_7 fl_RX1_26 dX1_loopedBack_16 rfl g1 (fun x7 hx7 => ?_)
  replace h := lt_x hx7 h
  refine x_iconst (pc := 19) (v := (-1 : Int32)) hC dX1_loopedBack_19 (by decide) ?_
  refine x_icmp_eq (pc := 20) hC 43 dX1_loopedBack_20 (by decide) (fun c25 => ?_) (fun c25 => ?_)
  · rw [if_pos c25] at h
    refine x_pick [2] rfl ?_
    exact t_X1_loopedBack_43 hls hC hl hE h
  · rw [if_neg c25] at h
    refine x_lload_n (pc := 23) hC 0 dX1_loopedBack_23 rfl rfl ?_
    refine x_lconst (pc := 24) (v := (0 : Int64)) hC dX1_loopedBack_24 (by decide) ?_
    refine x_lcmpv (pc := 25) hC dX1_loopedBack_25 (fun x8 hx8 => ?_)
    replace h := lt_x hx8 h
    refine x_if_le (pc := 26) hC 43 dX1_loopedBack_26 (by decide) (fun c24 => ?_) (fun c24 => ?_)
    · rw [if_pos c24] at h
      refine x_pick [2] rfl ?_
      exact t_X1_loopedBack_43 hls hC hl hE h
    · rw [if_neg c24] at h
      refine x_lload_n (pc := 29) hC 2 dX1_loopedBack_29 rfl rfl ?_
      refine x_aload_n (pc := 30) hC 1 dX1_loopedBack_30 rfl rfl ?_
      refine x_getIv (pc := 31) (k := 9) hC fc_7 fl_RX1_58 dX1_loopedBack_31 rfl g1 (fun x9 hx9 => ?_)
      replace h := lt_x hx9 h
      refine x_i2lv (pc := 34) hC dX1_loopedBack_34 (fun x10 hx10 => ?_)
      replace h := lt_x hx10 h
      refine x_ldc2 (pc := 35) hC wm_559 dX1_loopedBack_35 ?_
      refine x_lmulv (pc := 38) hC dX1_loopedBack_38 (fun x11 hx11 => ?_)
      replace h := lt_x hx11 h
      refine x_lcmpv (pc := 39) hC dX1_loopedBack_39 (fun x12 hx12 => ?_)
      replace h := lt_x hx12 h
      refine x_if_ge (pc := 40) hC 45 dX1_loopedBack_40 (by decide) (fun c23 => ?_) (fun c23 => ?_)
      · rw [if_pos c23] at h
        refine x_aload_n (pc := 45) hC 1 dX1_loopedBack_45 rfl rfl ?_
        refine x_getIv (pc := 46) (k := 8) hC fc_7 fl_RX1_26 dX1_loopedBack_46 rfl g1 (fun x13 hx13 => ?_)
        replace h := lt_x hx13 h
        refine x_i2lv (pc := 49) hC dX1_loopedBack_49 (fun x14 hx14 => ?_)
        replace h := lt_x hx14 h
        refine x_ldc2 (pc := 50) hC wm_559 dX1_loopedBack_50 ?_
        refine x_lmulv (pc := 53) hC dX1_loopedBack_53 (fun x15 hx15 => ?_)
        replace h := lt_x hx15 h
        refine x_lload_n (pc := 54) hC 2 dX1_loopedBack_54 rfl rfl ?_
        refine x_aload_n (pc := 55) hC 1 dX1_loopedBack_55 rfl rfl ?_
        refine x_getIv (pc := 56) (k := 8) hC fc_7 fl_RX1_26 dX1_loopedBack_56 rfl g1 (fun x16 hx16 => ?_)
        replace h := lt_x hx16 h
        refine x_i2lv (pc := 59) hC dX1_loopedBack_59 (fun x17 hx17 => ?_)
        replace h := lt_x hx17 h
        refine x_ldc2 (pc := 60) hC wm_559 dX1_loopedBack_60 ?_
        refine x_lmulv (pc := 63) hC dX1_loopedBack_63 (fun x18 hx18 => ?_)
        replace h := lt_x hx18 h
        refine x_lsubv (pc := 64) hC dX1_loopedBack_64 (fun x19 hx19 => ?_)
        replace h := lt_x hx19 h
        refine x_lload_n (pc := 65) hC 0 dX1_loopedBack_65 rfl rfl ?_
        obtain ⟨g21, h⟩ := gd_some h
        refine x_lremv (pc := 66) hC dX1_loopedBack_66 g21 (fun x20 hx20 => ?_)
        replace h := lt_x hx20 h
        refine x_laddv (pc := 67) hC dX1_loopedBack_67 (fun x22 hx22 => ?_)
        replace h := lt_x hx22 h
        exact x_lreturn (pc := 68) hC hE dX1_loopedBack_68 (so h) (Nat.le_of_ble_eq_true rfl) (Nat.le_of_ble_eq_true rfl)
      · rw [if_neg c23] at h
        refine x_pick [2] rfl ?_
        exact t_X1_loopedBack_43 hls hC hl hE h
theorem c_X1_loopedBack (l : Launch) (hls : l.stackTraces = false) {S : mS} {a0 : Nat} {a1 : Int64} {o : Rs Int64} (h : f_X1_loopedBack S a0 a1 = some o) : CT (fun r : Int64 => some (.long r)) l yX1_loopedBack (.code yX1_loopedBack cX1_loopedBack 5 (Option.some Jvm.ClassFile.FieldType.long)) rm_X1_loopedBack S [.ref a0, .long a1] o := ct_of (by decide +kernel) hls (Nat.le_of_ble_eq_true rfl) (fun C hl hC hE => t_X1_loopedBack hls hC hl hE h)
abbrev rm_X1_nextStep : Room := { frames := 9, cells := 0, slots := 0, locals := 170 }
def f_X1_nextStep_85  (S : mS) (a1 : Int32) : Option (Rs Int32) :=
  some (.inl a1, S)
set_option maxHeartbeats 2000000 in
set_option maxRecDepth 100000 in
theorem t_X1_nextStep_85 {l : Launch} (hls : l.stackTraces = false) {C : cT} (hC : CX C cX1_nextStep 3 yX1_nextStep rm_X1_nextStep) (hl : C.2.1 = l) {S0 : mS} (hE : CE C S0 (Option.some Jvm.ClassFile.FieldType.int) []) {o : Rs Int32} {S : mS} {a1 : Int32} (h : f_X1_nextStep_85  S a1 = some o) : XX C 3 (QQ C (fun r : Int32 => some (.int r)) S0 o) (0) (0) S 85 [(1, .int a1)] [] := by
  unfold f_X1_nextStep_85 at h
  refine x_iload_n (pc := 85) hC 0 dX1_nextStep_85 rfl rfl ?_
  exact x_ireturn (pc := 86) hC hE dX1_nextStep_86 (so h) (Nat.le_of_ble_eq_true rfl) (Nat.le_of_ble_eq_true rfl)
def f_X1_nextStep_55  (S : mS) (a0 : Nat) (a1 : Int32) : Option (Rs Int32) :=
  gd (gK S a0 = 7) (lt9 (gI S a0 7) fun x2 => if x2 = (-1 : Int32) then (f_X1_nextStep_85  S a1) else (lt9 (gI S a0 7) fun x3 => gd (¬ (10 : Int32) = 0) (lt9 (x3 / (10 : Int32)) fun x4 => lt9 ((1 : Int32) + x4) fun x6 => lt9 (a1 >>> (x6 &&& 31)) fun x7 => lt9 (gI S a0 7) fun x8 => lt9 (x8 + (1 : Int32)) fun x9 => zI (sI S a0 7 x9) fun S10 => f_X1_nextStep_85  S10 x7)))
set_option maxHeartbeats 2000000 in
set_option maxRecDepth 100000 in
theorem t_X1_nextStep_55 {l : Launch} (hls : l.stackTraces = false) {C : cT} (hC : CX C cX1_nextStep 3 yX1_nextStep rm_X1_nextStep) (hl : C.2.1 = l) {S0 : mS} (hE : CE C S0 (Option.some Jvm.ClassFile.FieldType.int) []) {o : Rs Int32} {S : mS} {a0 : Nat} {a1 : Int32} (h : f_X1_nextStep_55  S a0 a1 = some o) : XX C 3 (QQ C (fun r : Int32 => some (.int r)) S0 o) (0) (0) S 55 [(0, .ref a0), (1, .int a1)] [] := by
  unfold f_X1_nextStep_55 at h
  refine x_aload_n (pc := 55) hC 0 dX1_nextStep_55 rfl rfl ?_
  obtain ⟨g1, h⟩ := gd_some h
  refine x_getIv (pc := 56) (k := 7) hC fc_7 fl_RX1_22 dX1_nextStep_56 rfl g1 (fun x2 hx2 => ?_)
  replace h := lt_x hx2 h
  refine x_iconst (pc := 59) (v := (-1 : Int32)) hC dX1_nextStep_59 (by decide) ?_
  refine x_icmp_eq (pc := 60) hC 85 dX1_nextStep_60 (by decide) (fun c12 => ?_) (fun c12 => ?_)
  · rw [if_pos c12] at h
    refine x_pick [1] rfl ?_
    exact t_X1_nextStep_85 hls hC hl hE h
  · rw [if_neg c12] at h
    refine x_iload_n (pc := 63) hC 1 dX1_nextStep_63 rfl rfl ?_
    refine x_iconst (pc := 64) (v := (1 : Int32)) hC dX1_nextStep_64 (by decide) ?_
    refine x_aload_n (pc := 65) hC 0 dX1_nextStep_65 rfl rfl ?_
    refine x_getIv (pc := 66) (k := 7) hC fc_7 fl_RX1_22 dX1_nextStep_66 rfl g1 (fun x3 hx3 => ?_)
    replace h := lt_x hx3 h
    refine x_bipush (pc := 69) (v := (10 : Int32)) hC dX1_nextStep_69 (by decide) ?_
    obtain ⟨g5, h⟩ := gd_some h
    refine x_idivv (pc := 71) hC dX1_nextStep_71 g5 (fun x4 hx4 => ?_)
    replace h := lt_x hx4 h
    refine x_iaddv (pc := 72) hC dX1_nextStep_72 (fun x6 hx6 => ?_)
    replace h := lt_x hx6 h
    refine x_ishrv (pc := 73) hC dX1_nextStep_73 (fun x7 hx7 => ?_)
    replace h := lt_x hx7 h
    refine x_istore_n (pc := 74) hC dX1_nextStep_74 rfl (by decide) (by decide) rfl ?_
    refine x_aload_n (pc := 75) hC 1 dX1_nextStep_75 rfl rfl ?_
    refine x_dup (pc := 76) hC dX1_nextStep_76 rfl ?_
    refine x_getIv (pc := 77) (k := 7) hC fc_7 fl_RX1_22 dX1_nextStep_77 rfl g1 (fun x8 hx8 => ?_)
    replace h := lt_x hx8 h
    refine x_iconst (pc := 80) (v := (1 : Int32)) hC dX1_nextStep_80 (by decide) ?_
    refine x_iaddv (pc := 81) hC dX1_nextStep_81 (fun x9 hx9 => ?_)
    replace h := lt_x hx9 h
    refine x_putIv (pc := 82) (k := 7) hC fc_7 fl_RX1_22 dX1_nextStep_82 rfl rfl (nf_int _) g1 (fun S10 hS10 => ?_)
    replace h := zI_x hS10 h
    have g11 : gK S10 a0 = 7 := by rw [hS10]; exact g1
    refine x_pick [0] rfl ?_
    exact t_X1_nextStep_85 hls hC hl hE h
def f_X1_nextStep (S : mS) (a0 : Nat) : Option (Rs Int32) :=
  gd (gK S a0 = 7) (bd (f_X1_pace S a0) fun x2 S3 => gd (¬ (10 : Int32) = 0) (lt9 (x2 / (10 : Int32)) fun x6 => gd (gK S3 a0 = 7) (lt9 (gI S3 a0 6) fun x9 => if x9 ≤ 0 then (lt9 (gI S3 a0 6) fun x10 => if 0 ≤ x10 then (f_X1_nextStep_55  S3 a0 x2) else (lt9 (x2 - x6) fun x11 => lt9 (gI S3 a0 6) fun x12 => lt9 (x12 + (1 : Int32)) fun x13 => zI (sI S3 a0 6 x13) fun S14 => f_X1_nextStep_55  S14 a0 x11)) else (lt9 (x2 + x6) fun x17 => lt9 (gI S3 a0 6) fun x18 => lt9 (x18 - (1 : Int32)) fun x19 => zI (sI S3 a0 6 x19) fun S20 => f_X1_nextStep_55  S20 a0 x17))))
set_option maxHeartbeats 2000000 in
set_option maxRecDepth 100000 in
theorem t_X1_nextStep {l : Launch} (hls : l.stackTraces = false) {C : cT} (hC : CX C cX1_nextStep 3 yX1_nextStep rm_X1_nextStep) (hl : C.2.1 = l) {S0 : mS} (hE : CE C S0 (Option.some Jvm.ClassFile.FieldType.int) []) {o : Rs Int32} {S : mS} {a0 : Nat} (h : f_X1_nextStep S a0 = some o) : XX C 3 (QQ C (fun r : Int32 => some (.int r)) S0 o) 0 0 S 0 [(0, .ref a0)] [] := by
  unfold f_X1_nextStep at h
  refine x_aload_n (pc := 0) hC 0 dX1_nextStep_0 rfl rfl ?_
  obtain ⟨g1, h⟩ := gd_some h
  obtain ⟨o4, ho4, h⟩ := bd_some h
  refine x_callV (pc := 1) (As := []) (rest := []) hC hl (c_X1_pace l hls ho4) lk_RX1_105 fc_7 g1 dX1_nextStep_1 rfl rfl (Nat.le_of_ble_eq_true rfl) ⟨Nat.le_of_ble_eq_true rfl, Nat.le_of_ble_eq_true rfl⟩ ⟨(Nat.le_of_ble_eq_true rfl), (Nat.le_of_ble_eq_true rfl)⟩ ?_
  rcases o4 with ⟨x2 | E5, S3⟩
  · refine xk_i ?_
    replace h := bk_l h
    refine x_istore_n (pc := 4) hC dX1_nextStep_4 rfl (by decide) (by decide) rfl ?_
    refine x_iload_n (pc := 5) hC 0 dX1_nextStep_5 rfl rfl ?_
    refine x_bipush (pc := 6) (v := (10 : Int32)) hC dX1_nextStep_6 (by decide) ?_
    obtain ⟨g7, h⟩ := gd_some h
    refine x_idivv (pc := 8) hC dX1_nextStep_8 g7 (fun x6 hx6 => ?_)
    replace h := lt_x hx6 h
    refine x_istore_n (pc := 9) hC dX1_nextStep_9 rfl (by decide) (by decide) rfl ?_
    refine x_aload_n (pc := 10) hC 2 dX1_nextStep_10 rfl rfl ?_
    obtain ⟨g8, h⟩ := gd_some h
    refine x_getIv (pc := 11) (k := 6) hC fc_7 fl_RX1_49 dX1_nextStep_11 rfl g8 (fun x9 hx9 => ?_)
    replace h := lt_x hx9 h
    refine x_if_le (pc := 14) hC 34 dX1_nextStep_14 (by decide) (fun c22 => ?_) (fun c22 => ?_)
    · rw [if_pos c22] at h
      refine x_aload_n (pc := 34) hC 2 dX1_nextStep_34 rfl rfl ?_
      refine x_getIv (pc := 35) (k := 6) hC fc_7 fl_RX1_49 dX1_nextStep_35 rfl g8 (fun x10 hx10 => ?_)
      replace h := lt_x hx10 h
      refine x_if_ge (pc := 38) hC 55 dX1_nextStep_38 (by decide) (fun c16 => ?_) (fun c16 => ?_)
      · rw [if_pos c16] at h
        refine x_pick [2, 1] rfl ?_
        exact t_X1_nextStep_55 hls hC hl hE h
      · rw [if_neg c16] at h
        refine x_iload_n (pc := 41) hC 1 dX1_nextStep_41 rfl rfl ?_
        refine x_iload_n (pc := 42) hC 0 dX1_nextStep_42 rfl rfl ?_
        refine x_isubv (pc := 43) hC dX1_nextStep_43 (fun x11 hx11 => ?_)
        replace h := lt_x hx11 h
        refine x_istore_n (pc := 44) hC dX1_nextStep_44 rfl (by decide) (by decide) rfl ?_
        refine x_aload_n (pc := 45) hC 2 dX1_nextStep_45 rfl rfl ?_
        refine x_dup (pc := 46) hC dX1_nextStep_46 rfl ?_
        refine x_getIv (pc := 47) (k := 6) hC fc_7 fl_RX1_49 dX1_nextStep_47 rfl g8 (fun x12 hx12 => ?_)
        replace h := lt_x hx12 h
        refine x_iconst (pc := 50) (v := (1 : Int32)) hC dX1_nextStep_50 (by decide) ?_
        refine x_iaddv (pc := 51) hC dX1_nextStep_51 (fun x13 hx13 => ?_)
        replace h := lt_x hx13 h
        refine x_putIv (pc := 52) (k := 6) hC fc_7 fl_RX1_49 dX1_nextStep_52 rfl rfl (nf_int _) g8 (fun S14 hS14 => ?_)
        replace h := zI_x hS14 h
        have g15 : gK S14 a0 = 7 := by rw [hS14]; exact g8
        refine x_pick [2, 0] rfl ?_
        exact t_X1_nextStep_55 hls hC hl hE h
    · rw [if_neg c22] at h
      refine x_iload_n (pc := 17) hC 1 dX1_nextStep_17 rfl rfl ?_
      refine x_iload_n (pc := 18) hC 0 dX1_nextStep_18 rfl rfl ?_
      refine x_iaddv (pc := 19) hC dX1_nextStep_19 (fun x17 hx17 => ?_)
      replace h := lt_x hx17 h
      refine x_istore_n (pc := 20) hC dX1_nextStep_20 rfl (by decide) (by decide) rfl ?_
      refine x_aload_n (pc := 21) hC 2 dX1_nextStep_21 rfl rfl ?_
      refine x_dup (pc := 22) hC dX1_nextStep_22 rfl ?_
      refine x_getIv (pc := 23) (k := 6) hC fc_7 fl_RX1_49 dX1_nextStep_23 rfl g8 (fun x18 hx18 => ?_)
      replace h := lt_x hx18 h
      refine x_iconst (pc := 26) (v := (1 : Int32)) hC dX1_nextStep_26 (by decide) ?_
      refine x_isubv (pc := 27) hC dX1_nextStep_27 (fun x19 hx19 => ?_)
      replace h := lt_x hx19 h
      refine x_putIv (pc := 28) (k := 6) hC fc_7 fl_RX1_49 dX1_nextStep_28 rfl rfl (nf_int _) g8 (fun S20 hS20 => ?_)
      replace h := zI_x hS20 h
      have g21 : gK S20 a0 = 7 := by rw [hS20]; exact g8
      refine x_goto (pc := 31) hC 55 dX1_nextStep_31 (by decide) ?_
      refine x_pick [2, 0] rfl ?_
      exact t_X1_nextStep_55 hls hC hl hE h
  · exact xk_r (xt_out hC hE (bk_r h) (Nat.le_of_ble_eq_true rfl) (Nat.le_of_ble_eq_true rfl))
theorem c_X1_nextStep (l : Launch) (hls : l.stackTraces = false) {S : mS} {a0 : Nat} {o : Rs Int32} (h : f_X1_nextStep S a0 = some o) : CT (fun r : Int32 => some (.int r)) l yX1_nextStep (.code yX1_nextStep cX1_nextStep 3 (Option.some Jvm.ClassFile.FieldType.int)) rm_X1_nextStep S [.ref a0] o := ct_of (by decide +kernel) hls (Nat.le_of_ble_eq_true rfl) (fun C hl hC hE => t_X1_nextStep hls hC hl hE h)
abbrev rm_X1_advance : Room := { frames := 10, cells := 0, slots := 0, locals := 192 }
def f_X1_advance_14  (S : mS) : Option (Rs Unit) :=
  some (.inl (), S)
set_option maxHeartbeats 2000000 in
set_option maxRecDepth 100000 in
theorem t_X1_advance_14 {l : Launch} (hls : l.stackTraces = false) {C : cT} (hC : CX C cX1_advance 4 yX1_advance rm_X1_advance) (hl : C.2.1 = l) {S0 : mS} (hE : CE C S0 (Option.none : Option Jvm.ClassFile.FieldType) []) {o : Rs Unit} {S : mS} (h : f_X1_advance_14  S = some o) : XX C 4 (QQ C (fun _ : Unit => none) S0 o) (0) (0) S 14 [] [] := by
  unfold f_X1_advance_14 at h
  exact x_vreturn (pc := 14) hC hE dX1_advance_14 (so h) (Nat.le_of_ble_eq_true rfl) (Nat.le_of_ble_eq_true rfl)
def f_X1_advance_98  (S : mS) : Option (Rs Unit) :=
  some (.inl (), S)
set_option maxHeartbeats 2000000 in
set_option maxRecDepth 100000 in
theorem t_X1_advance_98 {l : Launch} (hls : l.stackTraces = false) {C : cT} (hC : CX C cX1_advance 4 yX1_advance rm_X1_advance) (hl : C.2.1 = l) {S0 : mS} (hE : CE C S0 (Option.none : Option Jvm.ClassFile.FieldType) []) {o : Rs Unit} {S : mS} (h : f_X1_advance_98  S = some o) : XX C 4 (QQ C (fun _ : Unit => none) S0 o) (0) (0) S 98 [] [] := by
  unfold f_X1_advance_98 at h
  exact x_vreturn (pc := 98) hC hE dX1_advance_98 (so h) (Nat.le_of_ble_eq_true rfl) (Nat.le_of_ble_eq_true rfl)
def f_X1_advance_84  (S : mS) (a0 : Nat) : Option (Rs Unit) :=
  gd (gK S a0 = 7) (lt9 (gI S a0 7) fun x2 => if x2 < (50 : Int32) then (f_X1_advance_98  S) else (bd (f_X1_halt S a0) fun x3 S4 => f_X1_advance_98  S4))
set_option maxHeartbeats 2000000 in
set_option maxRecDepth 100000 in
theorem t_X1_advance_84 {l : Launch} (hls : l.stackTraces = false) {C : cT} (hC : CX C cX1_advance 4 yX1_advance rm_X1_advance) (hl : C.2.1 = l) {S0 : mS} (hE : CE C S0 (Option.none : Option Jvm.ClassFile.FieldType) []) {o : Rs Unit} {S : mS} {a0 : Nat} (h : f_X1_advance_84  S a0 = some o) : XX C 4 (QQ C (fun _ : Unit => none) S0 o) (0) (0) S 84 [(0, .ref a0)] [] := by
  unfold f_X1_advance_84 at h
  refine x_aload_n (pc := 84) hC 0 dX1_advance_84 rfl rfl ?_
  obtain ⟨g1, h⟩ := gd_some h
  refine x_getIv (pc := 85) (k := 7) hC fc_7 fl_RX1_22 dX1_advance_85 rfl g1 (fun x2 hx2 => ?_)
  replace h := lt_x hx2 h
  refine x_bipush (pc := 88) (v := (50 : Int32)) hC dX1_advance_88 (by decide) ?_
  refine x_icmp_lt (pc := 90) hC 98 dX1_advance_90 (by decide) (fun c7 => ?_) (fun c7 => ?_)
  · rw [if_pos c7] at h
    refine x_pick [] rfl ?_
    exact t_X1_advance_98 hls hC hl hE h
  · rw [if_neg c7] at h
    refine x_aload_n (pc := 93) hC 0 dX1_advance_93 rfl rfl ?_
    obtain ⟨o5, ho5, h⟩ := bd_some h
    refine x_callV (pc := 94) (As := []) (rest := []) hC hl (c_X1_halt l hls ho5) lk_RX1_101 fc_7 g1 dX1_advance_94 rfl rfl (Nat.le_of_ble_eq_true rfl) ⟨Nat.le_of_ble_eq_true rfl, Nat.le_of_ble_eq_true rfl⟩ ⟨(Nat.le_of_ble_eq_true rfl), (Nat.le_of_ble_eq_true rfl)⟩ ?_
    rcases o5 with ⟨x3 | E6, S4⟩
    · refine xk_i ?_
      replace h := bk_l h
      refine x_pop (pc := 97) hC dX1_advance_97 rfl ?_
      refine x_pick [] rfl ?_
      exact t_X1_advance_98 hls hC hl hE h
    · exact xk_r (xt_out hC hE (bk_r h) (Nat.le_of_ble_eq_true rfl) (Nat.le_of_ble_eq_true rfl))
def f_X1_advance_65  (S : mS) (a0 : Nat) (a2 : Int64) : Option (Rs Unit) :=
  gd (gK S a0 = 7) (lt9 (gL S a0 3) fun x2 => lt9 (lg_cmp x2 a2) fun x3 => if x3 ≤ 0 then (f_X1_advance_84  S a0) else (zL (sL S a0 3 a2) fun S4 => bd (f_X1_halt S4 a0) fun x6 S7 => f_X1_advance_84  S7 a0))
set_option maxHeartbeats 2000000 in
set_option maxRecDepth 100000 in
theorem t_X1_advance_65 {l : Launch} (hls : l.stackTraces = false) {C : cT} (hC : CX C cX1_advance 4 yX1_advance rm_X1_advance) (hl : C.2.1 = l) {S0 : mS} (hE : CE C S0 (Option.none : Option Jvm.ClassFile.FieldType) []) {o : Rs Unit} {S : mS} {a0 : Nat} {a2 : Int64} (h : f_X1_advance_65  S a0 a2 = some o) : XX C 4 (QQ C (fun _ : Unit => none) S0 o) (0) (0) S 65 [(0, .ref a0), (2, .long a2)] [] := by
  unfold f_X1_advance_65 at h
  refine x_aload_n (pc := 65) hC 0 dX1_advance_65 rfl rfl ?_
  obtain ⟨g1, h⟩ := gd_some h
  refine x_getLv (pc := 66) (k := 3) hC fc_7 fl_RX1_41 dX1_advance_66 rfl g1 (fun x2 hx2 => ?_)
  replace h := lt_x hx2 h
  refine x_lload_n (pc := 69) hC 1 dX1_advance_69 rfl rfl ?_
  refine x_lcmpv (pc := 70) hC dX1_advance_70 (fun x3 hx3 => ?_)
  replace h := lt_x hx3 h
  refine x_if_le (pc := 71) hC 84 dX1_advance_71 (by decide) (fun c10 => ?_) (fun c10 => ?_)
  · rw [if_pos c10] at h
    refine x_pick [0] rfl ?_
    exact t_X1_advance_84 hls hC hl hE h
  · rw [if_neg c10] at h
    refine x_aload_n (pc := 74) hC 0 dX1_advance_74 rfl rfl ?_
    refine x_lload_n (pc := 75) hC 1 dX1_advance_75 rfl rfl ?_
    refine x_putLv (pc := 76) (k := 3) hC fc_7 fl_RX1_41 dX1_advance_76 rfl rfl rfl g1 (fun S4 hS4 => ?_)
    replace h := zL_x hS4 h
    have g5 : gK S4 a0 = 7 := by rw [hS4]; exact g1
    refine x_aload_n (pc := 79) hC 0 dX1_advance_79 rfl rfl ?_
    obtain ⟨o8, ho8, h⟩ := bd_some h
    refine x_callV (pc := 80) (As := []) (rest := []) hC hl (c_X1_halt l hls ho8) lk_RX1_101 fc_7 g5 dX1_advance_80 rfl rfl (Nat.le_of_ble_eq_true rfl) ⟨Nat.le_of_ble_eq_true rfl, Nat.le_of_ble_eq_true rfl⟩ ⟨(Nat.le_of_ble_eq_true rfl), (Nat.le_of_ble_eq_true rfl)⟩ ?_
    rcases o8 with ⟨x6 | E9, S7⟩
    · refine xk_i ?_
      replace h := bk_l h
      refine x_pop (pc := 83) hC dX1_advance_83 rfl ?_
      refine x_pick [0] rfl ?_
      exact t_X1_advance_84 hls hC hl hE h
    · exact xk_r (xt_out hC hE (bk_r h) (Nat.le_of_ble_eq_true rfl) (Nat.le_of_ble_eq_true rfl))
def f_X1_advance (S : mS) (a0 : Nat) : Option (Rs Unit) :=
  gd (gK S a0 = 7) (lt9 (gI S a0 5) fun x2 => if x2 = 0 then (f_X1_advance_14  S) else (lt9 (gR S a0 2) fun r3 => if r3 = 0 then (f_X1_advance_14  S) else (bd (f_X1_nextStep S a0) fun x4 S5 => gd (gK S5 a0 = 7) (lt9 (gR S5 a0 2) fun r9 => gd (gK S5 r9 = 8) (bd (f_X2_lastPlace S5 r9) fun x11 S12 => gd (gK S12 a0 = 7) (lt9 (gL S12 a0 3) fun x16 => lt9 ((x4).toInt64) fun x17 => lt9 (x16 + x17) fun x18 => bd (f_X1_loopedBack S12 a0 x18) fun x19 S20 => gd (gK S20 a0 = 7) (zL (sL S20 a0 3 x19) fun S24 => lt9 (gI S24 a0 10) fun x26 => if x26 = 0 then (f_X1_advance_65  S24 a0 x11) else (lt9 (gL S24 a0 11) fun x27 => lt9 ((x4).toInt64) fun x28 => lt9 (x27 + x28) fun x29 => lt9 (if x11 < x29 then x11 else x29) fun x30 => zL (sL S24 a0 11 x30) fun S31 => f_X1_advance_65  S31 a0 x11))))))))
set_option maxHeartbeats 2000000 in
set_option maxRecDepth 100000 in
theorem t_X1_advance {l : Launch} (hls : l.stackTraces = false) {C : cT} (hC : CX C cX1_advance 4 yX1_advance rm_X1_advance) (hl : C.2.1 = l) {S0 : mS} (hE : CE C S0 (Option.none : Option Jvm.ClassFile.FieldType) []) {o : Rs Unit} {S : mS} {a0 : Nat} (h : f_X1_advance S a0 = some o) : XX C 4 (QQ C (fun _ : Unit => none) S0 o) 0 0 S 0 [(0, .ref a0)] [] := by
  unfold f_X1_advance at h
  refine x_aload_n (pc := 0) hC 0 dX1_advance_0 rfl rfl ?_
  obtain ⟨g1, h⟩ := gd_some h
  refine x_getIv (pc := 1) (k := 5) hC fc_7 fl_RX1_45 dX1_advance_1 rfl g1 (fun x2 hx2 => ?_)
  replace h := lt_x hx2 h
  refine x_if_eq (pc := 4) hC 14 dX1_advance_4 (by decide) (fun c35 => ?_) (fun c35 => ?_)
  · rw [if_pos c35] at h
    refine x_pick [] rfl ?_
    exact t_X1_advance_14 hls hC hl hE h
  · rw [if_neg c35] at h
    refine x_aload_n (pc := 7) hC 0 dX1_advance_7 rfl rfl ?_
    refine x_getRv (pc := 8) (k := 2) hC fc_7 fl_RX1_29 dX1_advance_8 rfl g1 (fun r3 hr3 => ?_)
    replace h := lt_x hr3 h
    refine x_ifnonnull (pc := 11) hC 15 dX1_advance_11 (by decide) (fun c34 => ?_) (fun c34 => ?_)
    · rw [if_neg c34] at h
      refine x_aload_n (pc := 15) hC 0 dX1_advance_15 rfl rfl ?_
      obtain ⟨o6, ho6, h⟩ := bd_some h
      refine x_callV (pc := 16) (As := []) (rest := []) hC hl (c_X1_nextStep l hls ho6) lk_RX1_92 fc_7 g1 dX1_advance_16 rfl rfl (Nat.le_of_ble_eq_true rfl) ⟨Nat.le_of_ble_eq_true rfl, Nat.le_of_ble_eq_true rfl⟩ ⟨(Nat.le_of_ble_eq_true rfl), (Nat.le_of_ble_eq_true rfl)⟩ ?_
      rcases o6 with ⟨x4 | E7, S5⟩
      · refine xk_i ?_
        replace h := bk_l h
        refine x_istore_n (pc := 19) hC dX1_advance_19 rfl (by decide) (by decide) rfl ?_
        refine x_aload_n (pc := 20) hC 1 dX1_advance_20 rfl rfl ?_
        obtain ⟨g8, h⟩ := gd_some h
        refine x_getRv (pc := 21) (k := 2) hC fc_7 fl_RX1_29 dX1_advance_21 rfl g8 (fun r9 hr9 => ?_)
        replace h := lt_x hr9 h
        obtain ⟨g10, h⟩ := gd_some h
        obtain ⟨o13, ho13, h⟩ := bd_some h
        refine x_callV (pc := 24) (As := []) (rest := []) hC hl (c_X2_lastPlace l hls ho13) lk_RX1_64 fc_8 g10 dX1_advance_24 rfl rfl (Nat.le_of_ble_eq_true rfl) ⟨Nat.le_of_ble_eq_true rfl, Nat.le_of_ble_eq_true rfl⟩ ⟨(Nat.le_of_ble_eq_true rfl), (Nat.le_of_ble_eq_true rfl)⟩ ?_
        rcases o13 with ⟨x11 | E14, S12⟩
        · refine xk_j ?_
          replace h := bk_l h
          refine x_lstore_n (pc := 27) hC dX1_advance_27 rfl (by decide) (by decide) rfl ?_
          refine x_aload_n (pc := 28) hC 2 dX1_advance_28 rfl rfl ?_
          refine x_aload_n (pc := 29) hC 2 dX1_advance_29 rfl rfl ?_
          refine x_aload_n (pc := 30) hC 2 dX1_advance_30 rfl rfl ?_
          obtain ⟨g15, h⟩ := gd_some h
          refine x_getLv (pc := 31) (k := 3) hC fc_7 fl_RX1_41 dX1_advance_31 rfl g15 (fun x16 hx16 => ?_)
          replace h := lt_x hx16 h
          refine x_iload_n (pc := 34) hC 1 dX1_advance_34 rfl rfl ?_
          refine x_i2lv (pc := 35) hC dX1_advance_35 (fun x17 hx17 => ?_)
          replace h := lt_x hx17 h
          refine x_laddv (pc := 36) hC dX1_advance_36 (fun x18 hx18 => ?_)
          replace h := lt_x hx18 h
          obtain ⟨o21, ho21, h⟩ := bd_some h
          refine x_callV (pc := 37) (As := [.long x18]) (rest := [.ref a0]) hC hl (c_X1_loopedBack l hls ho21) lk_RX1_95 fc_7 g15 dX1_advance_37 rfl rfl (Nat.le_of_ble_eq_true rfl) ⟨Nat.le_of_ble_eq_true rfl, Nat.le_of_ble_eq_true rfl⟩ ⟨(Nat.le_of_ble_eq_true rfl), (Nat.le_of_ble_eq_true rfl)⟩ ?_
          rcases o21 with ⟨x19 | E22, S20⟩
          · refine xk_j ?_
            replace h := bk_l h
            obtain ⟨g23, h⟩ := gd_some h
            refine x_putLv (pc := 40) (k := 3) hC fc_7 fl_RX1_41 dX1_advance_40 rfl rfl rfl g23 (fun S24 hS24 => ?_)
            replace h := zL_x hS24 h
            have g25 : gK S24 a0 = 7 := by rw [hS24]; exact g23
            refine x_aload_n (pc := 43) hC 2 dX1_advance_43 rfl rfl ?_
            refine x_getIv (pc := 44) (k := 10) hC fc_7 fl_RX1_52 dX1_advance_44 rfl g25 (fun x26 hx26 => ?_)
            replace h := lt_x hx26 h
            refine x_if_eq (pc := 47) hC 65 dX1_advance_47 (by decide) (fun c33 => ?_) (fun c33 => ?_)
            · rw [if_pos c33] at h
              refine x_pick [2, 0] rfl ?_
              exact t_X1_advance_65 hls hC hl hE h
            · rw [if_neg c33] at h
              refine x_aload_n (pc := 50) hC 2 dX1_advance_50 rfl rfl ?_
              refine x_aload_n (pc := 51) hC 2 dX1_advance_51 rfl rfl ?_
              refine x_getLv (pc := 52) (k := 11) hC fc_7 fl_RX1_61 dX1_advance_52 rfl g25 (fun x27 hx27 => ?_)
              replace h := lt_x hx27 h
              refine x_iload_n (pc := 55) hC 1 dX1_advance_55 rfl rfl ?_
              refine x_i2lv (pc := 56) hC dX1_advance_56 (fun x28 hx28 => ?_)
              replace h := lt_x hx28 h
              refine x_laddv (pc := 57) hC dX1_advance_57 (fun x29 hx29 => ?_)
              replace h := lt_x hx29 h
              refine x_lload_n (pc := 58) hC 0 dX1_advance_58 rfl rfl ?_
              refine x_mmin_long (pc := 59) hC wm_560 wm_561 wm_69 wm_562 dX1_advance_59 (Nat.le_of_ble_eq_true rfl) (Nat.le_of_ble_eq_true rfl) (Nat.le_of_ble_eq_true rfl) (Nat.le_of_ble_eq_true rfl) (fun x30 hx30 => ?_)
              replace h := lt_x hx30 h
              refine x_putLv (pc := 62) (k := 11) hC fc_7 fl_RX1_61 dX1_advance_62 rfl rfl rfl g25 (fun S31 hS31 => ?_)
              replace h := zL_x hS31 h
              have g32 : gK S31 a0 = 7 := by rw [hS31]; exact g25
              refine x_pick [2, 0] rfl ?_
              exact t_X1_advance_65 hls hC hl hE h
          · exact xk_r (xt_out hC hE (bk_r h) (Nat.le_of_ble_eq_true rfl) (Nat.le_of_ble_eq_true rfl))
        · exact xk_r (xt_out hC hE (bk_r h) (Nat.le_of_ble_eq_true rfl) (Nat.le_of_ble_eq_true rfl))
      · exact xk_r (xt_out hC hE (bk_r h) (Nat.le_of_ble_eq_true rfl) (Nat.le_of_ble_eq_true rfl))
    · rw [if_pos c34] at h
      refine x_pick [] rfl ?_
      exact t_X1_advance_14 hls hC hl hE h
theorem c_X1_advance (l : Launch) (hls : l.stackTraces = false) {S : mS} {a0 : Nat} {o : Rs Unit} (h : f_X1_advance S a0 = some o) : CT (fun _ : Unit => none) l yX1_advance (.code yX1_advance cX1_advance 4 (Option.none : Option Jvm.ClassFile.FieldType)) rm_X1_advance S [.ref a0] o := ct_of (by decide +kernel) hls (Nat.le_of_ble_eq_true rfl) (fun C hl hC hE => t_X1_advance hls hC hl hE h)
abbrev rm_X1_levelAt : Room := { frames := 9, cells := 0, slots := 0, locals := 172 }
def f_X1_levelAt_19  (S : mS) (s0 : Int32) : Option (Rs Int32) :=
  some (.inl s0, S)
set_option maxHeartbeats 2000000 in
set_option maxRecDepth 100000 in
theorem t_X1_levelAt_19 {l : Launch} (hls : l.stackTraces = false) {C : cT} (hC : CX C cX1_levelAt 2 yX1_levelAt rm_X1_levelAt) (hl : C.2.1 = l) {S0 : mS} (hE : CE C S0 (Option.some Jvm.ClassFile.FieldType.int) []) {o : Rs Int32} {S : mS} {s0 : Int32} (h : f_X1_levelAt_19  S s0 = some o) : XX C 2 (QQ C (fun r : Int32 => some (.int r)) S0 o) (0) (0) S 19 [] [.int s0] := by
  unfold f_X1_levelAt_19 at h
  exact x_ireturn (pc := 19) hC hE dX1_levelAt_19 (so h) (Nat.le_of_ble_eq_true rfl) (Nat.le_of_ble_eq_true rfl)
def f_X1_levelAt (S : mS) (a0 : Nat) (a1 : Int32) : Option (Rs Int32) :=
  gd (gK S a0 = 7) (lt9 (gI S a0 5) fun x2 => if x2 = 0 then (f_X1_levelAt_19  S (0 : Int32)) else (lt9 (gR S a0 0) fun r3 => gd (gK S r3 = 6) (bd (f_X0_levelAt S r3 a1) fun x5 S6 => f_X1_levelAt_19  S6 x5)))
set_option maxHeartbeats 2000000 in
set_option maxRecDepth 100000 in
theorem t_X1_levelAt {l : Launch} (hls : l.stackTraces = false) {C : cT} (hC : CX C cX1_levelAt 2 yX1_levelAt rm_X1_levelAt) (hl : C.2.1 = l) {S0 : mS} (hE : CE C S0 (Option.some Jvm.ClassFile.FieldType.int) []) {o : Rs Int32} {S : mS} {a0 : Nat} {a1 : Int32} (h : f_X1_levelAt S a0 a1 = some o) : XX C 2 (QQ C (fun r : Int32 => some (.int r)) S0 o) 0 0 S 0 [(0, .ref a0), (1, .int a1)] [] := by
  unfold f_X1_levelAt at h
  refine x_aload_n (pc := 0) hC 0 dX1_levelAt_0 rfl rfl ?_
  obtain ⟨g1, h⟩ := gd_some h
  refine x_getIv (pc := 1) (k := 5) hC fc_7 fl_RX1_45 dX1_levelAt_1 rfl g1 (fun x2 hx2 => ?_)
  replace h := lt_x hx2 h
  refine x_if_eq (pc := 4) hC 18 dX1_levelAt_4 (by decide) (fun c9 => ?_) (fun c9 => ?_)
  · rw [if_pos c9] at h
    refine x_iconst (pc := 18) (v := (0 : Int32)) hC dX1_levelAt_18 (by decide) ?_
    refine x_pick [] rfl ?_
    exact t_X1_levelAt_19 hls hC hl hE h
  · rw [if_neg c9] at h
    refine x_aload_n (pc := 7) hC 0 dX1_levelAt_7 rfl rfl ?_
    refine x_getRv (pc := 8) (k := 0) hC fc_7 fl_RX1_12 dX1_levelAt_8 rfl g1 (fun r3 hr3 => ?_)
    replace h := lt_x hr3 h
    refine x_iload_n (pc := 11) hC 1 dX1_levelAt_11 rfl rfl ?_
    obtain ⟨g4, h⟩ := gd_some h
    obtain ⟨o7, ho7, h⟩ := bd_some h
    refine x_callV (pc := 12) (As := [.int a1]) (rest := []) hC hl (c_X0_levelAt l hls ho7) lk_RX1_108 fc_6 g4 dX1_levelAt_12 rfl rfl (Nat.le_of_ble_eq_true rfl) ⟨Nat.le_of_ble_eq_true rfl, Nat.le_of_ble_eq_true rfl⟩ ⟨(Nat.le_of_ble_eq_true rfl), (Nat.le_of_ble_eq_true rfl)⟩ ?_
    rcases o7 with ⟨x5 | E8, S6⟩
    · refine xk_i ?_
      replace h := bk_l h
      refine x_goto (pc := 15) hC 19 dX1_levelAt_15 (by decide) ?_
      refine x_pick [] rfl ?_
      exact t_X1_levelAt_19 hls hC hl hE h
    · exact xk_r (xt_out hC hE (bk_r h) (Nat.le_of_ble_eq_true rfl) (Nat.le_of_ble_eq_true rfl))
theorem c_X1_levelAt (l : Launch) (hls : l.stackTraces = false) {S : mS} {a0 : Nat} {a1 : Int32} {o : Rs Int32} (h : f_X1_levelAt S a0 a1 = some o) : CT (fun r : Int32 => some (.int r)) l yX1_levelAt (.code yX1_levelAt cX1_levelAt 2 (Option.some Jvm.ClassFile.FieldType.int)) rm_X1_levelAt S [.ref a0, .int a1] o := ct_of (by decide +kernel) hls (Nat.le_of_ble_eq_true rfl) (fun C hl hC hE => t_X1_levelAt hls hC hl hE h)
abbrev rm_X1_isHeard : Room := { frames := 9, cells := 0, slots := 0, locals := 172 }
def f_X1_isHeard_25  (S : mS) (s0 : Int32) : Option (Rs Int32) :=
  gd (s0 = 0 ∨ s0 = 1) (some (.inl s0, S))
set_option maxHeartbeats 2000000 in
set_option maxRecDepth 100000 in
theorem t_X1_isHeard_25 {l : Launch} (hls : l.stackTraces = false) {C : cT} (hC : CX C cX1_isHeard 2 yX1_isHeard rm_X1_isHeard) (hl : C.2.1 = l) {S0 : mS} (hE : CE C S0 (Option.some Jvm.ClassFile.FieldType.boolean) []) {o : Rs Int32} {S : mS} {s0 : Int32} (h : f_X1_isHeard_25  S s0 = some o) : XX C 2 (QQ C (fun r : Int32 => some (.int r)) S0 o) (0) (0) S 25 [] [.int s0] := by
  unfold f_X1_isHeard_25 at h
  obtain ⟨g1, h⟩ := gd_some h
  exact x_zreturn (pc := 25) hC hE dX1_isHeard_25 (nf_B g1).1 (so h) (Nat.le_of_ble_eq_true rfl) (Nat.le_of_ble_eq_true rfl)
def f_X1_isHeard_24  (S : mS) : Option (Rs Int32) :=
  f_X1_isHeard_25  S (0 : Int32)
set_option maxHeartbeats 2000000 in
set_option maxRecDepth 100000 in
theorem t_X1_isHeard_24 {l : Launch} (hls : l.stackTraces = false) {C : cT} (hC : CX C cX1_isHeard 2 yX1_isHeard rm_X1_isHeard) (hl : C.2.1 = l) {S0 : mS} (hE : CE C S0 (Option.some Jvm.ClassFile.FieldType.boolean) []) {o : Rs Int32} {S : mS} (h : f_X1_isHeard_24  S = some o) : XX C 2 (QQ C (fun r : Int32 => some (.int r)) S0 o) (0) (0) S 24 [] [] := by
  unfold f_X1_isHeard_24 at h
  refine x_iconst (pc := 24) (v := (0 : Int32)) hC dX1_isHeard_24 (by decide) ?_
  refine x_pick [] rfl ?_
  exact t_X1_isHeard_25 hls hC hl hE h
def f_X1_isHeard (S : mS) (a0 : Nat) (a1 : Int32) : Option (Rs Int32) :=
  gd (gK S a0 = 7) (lt9 (gI S a0 5) fun x2 => if x2 = 0 then (f_X1_isHeard_24  S) else (lt9 (gR S a0 0) fun r3 => gd (gK S r3 = 6) (bd (f_X0_levelAt S r3 a1) fun x5 S6 => if x5 < (30 : Int32) then (f_X1_isHeard_24  S6) else (f_X1_isHeard_25  S6 (1 : Int32)))))
set_option maxHeartbeats 2000000 in
set_option maxRecDepth 100000 in
theorem t_X1_isHeard {l : Launch} (hls : l.stackTraces = false) {C : cT} (hC : CX C cX1_isHeard 2 yX1_isHeard rm_X1_isHeard) (hl : C.2.1 = l) {S0 : mS} (hE : CE C S0 (Option.some Jvm.ClassFile.FieldType.boolean) []) {o : Rs Int32} {S : mS} {a0 : Nat} {a1 : Int32} (h : f_X1_isHeard S a0 a1 = some o) : XX C 2 (QQ C (fun r : Int32 => some (.int r)) S0 o) 0 0 S 0 [(0, .ref a0), (1, .int a1)] [] := by
  unfold f_X1_isHeard at h
  refine x_aload_n (pc := 0) hC 0 dX1_isHeard_0 rfl rfl ?_
  obtain ⟨g1, h⟩ := gd_some h
  refine x_getIv (pc := 1) (k := 5) hC fc_7 fl_RX1_45 dX1_isHeard_1 rfl g1 (fun x2 hx2 => ?_)
  replace h := lt_x hx2 h
  refine x_if_eq (pc := 4) hC 24 dX1_isHeard_4 (by decide) (fun c10 => ?_) (fun c10 => ?_)
  · rw [if_pos c10] at h
    refine x_pick [] rfl ?_
    exact t_X1_isHeard_24 hls hC hl hE h
  · rw [if_neg c10] at h
    refine x_aload_n (pc := 7) hC 0 dX1_isHeard_7 rfl rfl ?_
    refine x_getRv (pc := 8) (k := 0) hC fc_7 fl_RX1_12 dX1_isHeard_8 rfl g1 (fun r3 hr3 => ?_)
    replace h := lt_x hr3 h
    refine x_iload_n (pc := 11) hC 1 dX1_isHeard_11 rfl rfl ?_
    obtain ⟨g4, h⟩ := gd_some h
    obtain ⟨o7, ho7, h⟩ := bd_some h
    refine x_callV (pc := 12) (As := [.int a1]) (rest := []) hC hl (c_X0_levelAt l hls ho7) lk_RX1_108 fc_6 g4 dX1_isHeard_12 rfl rfl (Nat.le_of_ble_eq_true rfl) ⟨Nat.le_of_ble_eq_true rfl, Nat.le_of_ble_eq_true rfl⟩ ⟨(Nat.le_of_ble_eq_true rfl), (Nat.le_of_ble_eq_true rfl)⟩ ?_
    rcases o7 with ⟨x5 | E8, S6⟩
    · refine xk_i ?_
      replace h := bk_l h
      refine x_bipush (pc := 15) (v := (30 : Int32)) hC dX1_isHeard_15 (by decide) ?_
      refine x_icmp_lt (pc := 17) hC 24 dX1_isHeard_17 (by decide) (fun c9 => ?_) (fun c9 => ?_)
      · rw [if_pos c9] at h
        refine x_pick [] rfl ?_
        exact t_X1_isHeard_24 hls hC hl hE h
      · rw [if_neg c9] at h
        refine x_iconst (pc := 20) (v := (1 : Int32)) hC dX1_isHeard_20 (by decide) ?_
        refine x_goto (pc := 21) hC 25 dX1_isHeard_21 (by decide) ?_
        refine x_pick [] rfl ?_
        exact t_X1_isHeard_25 hls hC hl hE h
    · exact xk_r (xt_out hC hE (bk_r h) (Nat.le_of_ble_eq_true rfl) (Nat.le_of_ble_eq_true rfl))
theorem c_X1_isHeard (l : Launch) (hls : l.stackTraces = false) {S : mS} {a0 : Nat} {a1 : Int32} {o : Rs Int32} (h : f_X1_isHeard S a0 a1 = some o) : CT (fun r : Int32 => some (.int r)) l yX1_isHeard (.code yX1_isHeard cX1_isHeard 2 (Option.some Jvm.ClassFile.FieldType.boolean)) rm_X1_isHeard S [.ref a0, .int a1] o := ct_of (by decide +kernel) hls (Nat.le_of_ble_eq_true rfl) (fun C hl hC hE => t_X1_isHeard hls hC hl hE h)
abbrev rm_X1_loudnessAt : Room := { frames := 9, cells := 0, slots := 0, locals := 172 }
def f_X1_loudnessAt_34  (S : mS) (s0 : Int32) : Option (Rs Int32) :=
  some (.inl s0, S)
set_option maxHeartbeats 2000000 in
set_option maxRecDepth 100000 in
theorem t_X1_loudnessAt_34 {l : Launch} (hls : l.stackTraces = false) {C : cT} (hC : CX C cX1_loudnessAt 2 yX1_loudnessAt rm_X1_loudnessAt) (hl : C.2.1 = l) {S0 : mS} (hE : CE C S0 (Option.some Jvm.ClassFile.FieldType.int) []) {o : Rs Int32} {S : mS} {s0 : Int32} (h : f_X1_loudnessAt_34  S s0 = some o) : XX C 2 (QQ C (fun r : Int32 => some (.int r)) S0 o) (0) (0) S 34 [] [.int s0] := by
  unfold f_X1_loudnessAt_34 at h
  exact x_ireturn (pc := 34) hC hE dX1_loudnessAt_34 (so h) (Nat.le_of_ble_eq_true rfl) (Nat.le_of_ble_eq_true rfl)
def f_X1_loudnessAt (S : mS) (a0 : Nat) (a1 : Int32) : Option (Rs Int32) :=
  gd (gK S a0 = 7) (lt9 (gR S a0 2) fun r2 => if r2 = 0 then (f_X1_loudnessAt_34  S (0 : Int32)) else (lt9 (gR S a0 2) fun r3 => gd (gK S r3 = 8) (lt9 (gI S r3 4) fun x5 => lt9 (x5 + (1 : Int32)) fun x6 => lt9 (a1 * x6) fun x7 => lt9 (gR S a0 0) fun r8 => gd (gK S r8 = 6) (bd (f_X0_bandSum S r8) fun x10 S11 => lt9 (x7 * x10) fun x14 => gd (¬ (300 : Int32) = 0) (lt9 (x14 / (300 : Int32)) fun x15 => f_X1_loudnessAt_34  S11 x15)))))
set_option maxHeartbeats 2000000 in
set_option maxRecDepth 100000 in
theorem t_X1_loudnessAt {l : Launch} (hls : l.stackTraces = false) {C : cT} (hC : CX C cX1_loudnessAt 2 yX1_loudnessAt rm_X1_loudnessAt) (hl : C.2.1 = l) {S0 : mS} (hE : CE C S0 (Option.some Jvm.ClassFile.FieldType.int) []) {o : Rs Int32} {S : mS} {a0 : Nat} {a1 : Int32} (h : f_X1_loudnessAt S a0 a1 = some o) : XX C 2 (QQ C (fun r : Int32 => some (.int r)) S0 o) 0 0 S 0 [(0, .ref a0), (1, .int a1)] [] := by
  unfold f_X1_loudnessAt at h
  refine x_aload_n (pc := 0) hC 0 dX1_loudnessAt_0 rfl rfl ?_
  obtain ⟨g1, h⟩ := gd_some h
  refine x_getRv (pc := 1) (k := 2) hC fc_7 fl_RX1_29 dX1_loudnessAt_1 rfl g1 (fun r2 hr2 => ?_)
  replace h := lt_x hr2 h
  refine x_ifnonnull (pc := 4) hC 11 dX1_loudnessAt_4 (by decide) (fun c17 => ?_) (fun c17 => ?_)
  · rw [if_neg c17] at h
    refine x_iload_n (pc := 11) hC 1 dX1_loudnessAt_11 rfl rfl ?_
    refine x_aload_n (pc := 12) hC 0 dX1_loudnessAt_12 rfl rfl ?_
    refine x_getRv (pc := 13) (k := 2) hC fc_7 fl_RX1_29 dX1_loudnessAt_13 rfl g1 (fun r3 hr3 => ?_)
    replace h := lt_x hr3 h
    obtain ⟨g4, h⟩ := gd_some h
    refine x_getIv (pc := 16) (k := 4) hC fc_8 fl_RX1_112 dX1_loudnessAt_16 rfl g4 (fun x5 hx5 => ?_)
    replace h := lt_x hx5 h
    refine x_iconst (pc := 19) (v := (1 : Int32)) hC dX1_loudnessAt_19 (by decide) ?_
    refine x_iaddv (pc := 20) hC dX1_loudnessAt_20 (fun x6 hx6 => ?_)
    replace h := lt_x hx6 h
    refine x_imulv (pc := 21) hC dX1_loudnessAt_21 (fun x7 hx7 => ?_)
    replace h := lt_x hx7 h
    refine x_aload_n (pc := 22) hC 0 dX1_loudnessAt_22 rfl rfl ?_
    refine x_getRv (pc := 23) (k := 0) hC fc_7 fl_RX1_12 dX1_loudnessAt_23 rfl g1 (fun r8 hr8 => ?_)
    replace h := lt_x hr8 h
    obtain ⟨g9, h⟩ := gd_some h
    obtain ⟨o12, ho12, h⟩ := bd_some h
    refine x_callV (pc := 26) (As := []) (rest := [.int x7]) hC hl (c_X0_bandSum l hls ho12) lk_RX1_115 fc_6 g9 dX1_loudnessAt_26 rfl rfl (Nat.le_of_ble_eq_true rfl) ⟨Nat.le_of_ble_eq_true rfl, Nat.le_of_ble_eq_true rfl⟩ ⟨(Nat.le_of_ble_eq_true rfl), (Nat.le_of_ble_eq_true rfl)⟩ ?_
    rcases o12 with ⟨x10 | E13, S11⟩
    · refine xk_i ?_
      replace h := bk_l h
      refine x_imulv (pc := 29) hC dX1_loudnessAt_29 (fun x14 hx14 => ?_)
      replace h := lt_x hx14 h
      refine x_sipush (pc := 30) (v := (300 : Int32)) hC dX1_loudnessAt_30 (by decide) ?_
      obtain ⟨g16, h⟩ := gd_some h
      refine x_idivv (pc := 33) hC dX1_loudnessAt_33 g16 (fun x15 hx15 => ?_)
      replace h := lt_x hx15 h
      refine x_pick [] rfl ?_
      exact t_X1_loudnessAt_34 hls hC hl hE h
    · exact xk_r (xt_out hC hE (bk_r h) (Nat.le_of_ble_eq_true rfl) (Nat.le_of_ble_eq_true rfl))
  · rw [if_pos c17] at h
    refine x_iconst (pc := 7) (v := (0 : Int32)) hC dX1_loudnessAt_7 (by decide) ?_
    refine x_goto (pc := 8) hC 34 dX1_loudnessAt_8 (by decide) ?_
    refine x_pick [] rfl ?_
    exact t_X1_loudnessAt_34 hls hC hl hE h
theorem c_X1_loudnessAt (l : Launch) (hls : l.stackTraces = false) {S : mS} {a0 : Nat} {a1 : Int32} {o : Rs Int32} (h : f_X1_loudnessAt S a0 a1 = some o) : CT (fun r : Int32 => some (.int r)) l yX1_loudnessAt (.code yX1_loudnessAt cX1_loudnessAt 2 (Option.some Jvm.ClassFile.FieldType.int)) rm_X1_loudnessAt S [.ref a0, .int a1] o := ct_of (by decide +kernel) hls (Nat.le_of_ble_eq_true rfl) (fun C hl hC hE => t_X1_loudnessAt hls hC hl hE h)
abbrev rm_X1_thousandthsFrom : Room := { frames := 9, cells := 0, slots := 0, locals := 175 }
def f_X1_thousandthsFrom_37  (S : mS) (s0 : Int32) : Option (Rs Int32) :=
  some (.inl s0, S)
set_option maxHeartbeats 2000000 in
set_option maxRecDepth 100000 in
theorem t_X1_thousandthsFrom_37 {l : Launch} (hls : l.stackTraces = false) {C : cT} (hC : CX C cX1_thousandthsFrom 3 yX1_thousandthsFrom rm_X1_thousandthsFrom) (hl : C.2.1 = l) {S0 : mS} (hE : CE C S0 (Option.some Jvm.ClassFile.FieldType.int) []) {o : Rs Int32} {S : mS} {s0 : Int32} (h : f_X1_thousandthsFrom_37  S s0 = some o) : XX C 3 (QQ C (fun r : Int32 => some (.int r)) S0 o) (0) (0) S 37 [] [.int s0] := by
  unfold f_X1_thousandthsFrom_37 at h
  exact x_ireturn (pc := 37) hC hE dX1_thousandthsFrom_37 (so h) (Nat.le_of_ble_eq_true rfl) (Nat.le_of_ble_eq_true rfl)
def f_X1_thousandthsFrom (S : mS) (a0 : Nat) (a1 : Nat) : Option (Rs Int32) :=
  gd (gK S a0 = 7) (lt9 (gL S a0 3) fun x2 => gd (gK S a1 = 7) (lt9 (gL S a1 3) fun x4 => lt9 (x2 - x4) fun x5 => bd (f_J9_floorMod_f86c9 S x5 (60000000 : Int64)) fun x6 S7 => gd (¬ (60000 : Int64) = 0) (lt9 (x6 / (60000 : Int64)) fun x10 => lt9 ((x10).toInt32) fun x12 => if x12 < (500 : Int32) then (f_X1_thousandthsFrom_37  S7 x12) else (lt9 (x12 - (1000 : Int32)) fun x13 => f_X1_thousandthsFrom_37  S7 x13))))
set_option maxHeartbeats 2000000 in
set_option maxRecDepth 100000 in
theorem t_X1_thousandthsFrom {l : Launch} (hls : l.stackTraces = false) {C : cT} (hC : CX C cX1_thousandthsFrom 3 yX1_thousandthsFrom rm_X1_thousandthsFrom) (hl : C.2.1 = l) {S0 : mS} (hE : CE C S0 (Option.some Jvm.ClassFile.FieldType.int) []) {o : Rs Int32} {S : mS} {a0 : Nat} {a1 : Nat} (h : f_X1_thousandthsFrom S a0 a1 = some o) : XX C 3 (QQ C (fun r : Int32 => some (.int r)) S0 o) 0 0 S 0 [(0, .ref a0), (1, .ref a1)] [] := by
  unfold f_X1_thousandthsFrom at h
  refine x_aload_n (pc := 0) hC 0 dX1_thousandthsFrom_0 rfl rfl ?_
  obtain ⟨g1, h⟩ := gd_some h
  refine x_getLv (pc := 1) (k := 3) hC fc_7 fl_RX1_41 dX1_thousandthsFrom_1 rfl g1 (fun x2 hx2 => ?_)
  replace h := lt_x hx2 h
  refine x_aload_n (pc := 4) hC 1 dX1_thousandthsFrom_4 rfl rfl ?_
  obtain ⟨g3, h⟩ := gd_some h
  refine x_getLv (pc := 5) (k := 3) hC fc_7 fl_RX1_41 dX1_thousandthsFrom_5 rfl g3 (fun x4 hx4 => ?_)
  replace h := lt_x hx4 h
  refine x_lsubv (pc := 8) hC dX1_thousandthsFrom_8 (fun x5 hx5 => ?_)
  replace h := lt_x hx5 h
  refine x_ldc2 (pc := 9) hC wm_559 dX1_thousandthsFrom_9 ?_
  obtain ⟨o8, ho8, h⟩ := bd_some h
  refine x_callS (pc := 12) (As := [.long x5, .long (60000000 : Int64)]) (rest := []) hC hl (c_J9_floorMod_f86c9 l hls ho8) lk_RX1_118 dX1_thousandthsFrom_12 rfl rfl (Nat.le_of_ble_eq_true rfl) ⟨Nat.le_of_ble_eq_true rfl, Nat.le_of_ble_eq_true rfl⟩ ⟨(Nat.le_of_ble_eq_true rfl), (Nat.le_of_ble_eq_true rfl)⟩ ?_
  rcases o8 with ⟨x6 | E9, S7⟩
  · refine xk_j ?_
    replace h := bk_l h
    refine x_ldc2 (pc := 15) hC wm_813 dX1_thousandthsFrom_15 ?_
    obtain ⟨g11, h⟩ := gd_some h
    refine x_ldivv (pc := 18) hC dX1_thousandthsFrom_18 g11 (fun x10 hx10 => ?_)
    replace h := lt_x hx10 h
    refine x_l2iv (pc := 19) hC dX1_thousandthsFrom_19 (fun x12 hx12 => ?_)
    replace h := lt_x hx12 h
    refine x_istore_n (pc := 20) hC dX1_thousandthsFrom_20 rfl (by decide) (by decide) rfl ?_
    refine x_iload_n (pc := 21) hC 0 dX1_thousandthsFrom_21 rfl rfl ?_
    refine x_sipush (pc := 22) (v := (500 : Int32)) hC dX1_thousandthsFrom_22 (by decide) ?_
    refine x_icmp_lt (pc := 25) hC 36 dX1_thousandthsFrom_25 (by decide) (fun c14 => ?_) (fun c14 => ?_)
    · rw [if_pos c14] at h
      refine x_iload_n (pc := 36) hC 0 dX1_thousandthsFrom_36 rfl rfl ?_
      refine x_pick [] rfl ?_
      exact t_X1_thousandthsFrom_37 hls hC hl hE h
    · rw [if_neg c14] at h
      refine x_iload_n (pc := 28) hC 0 dX1_thousandthsFrom_28 rfl rfl ?_
      refine x_sipush (pc := 29) (v := (1000 : Int32)) hC dX1_thousandthsFrom_29 (by decide) ?_
      refine x_isubv (pc := 32) hC dX1_thousandthsFrom_32 (fun x13 hx13 => ?_)
      replace h := lt_x hx13 h
      refine x_goto (pc := 33) hC 37 dX1_thousandthsFrom_33 (by decide) ?_
      refine x_pick [] rfl ?_
      exact t_X1_thousandthsFrom_37 hls hC hl hE h
  · exact xk_r (xt_out hC hE (bk_r h) (Nat.le_of_ble_eq_true rfl) (Nat.le_of_ble_eq_true rfl))
theorem c_X1_thousandthsFrom (l : Launch) (hls : l.stackTraces = false) {S : mS} {a0 : Nat} {a1 : Nat} {o : Rs Int32} (h : f_X1_thousandthsFrom S a0 a1 = some o) : CT (fun r : Int32 => some (.int r)) l yX1_thousandthsFrom (.code yX1_thousandthsFrom cX1_thousandthsFrom 3 (Option.some Jvm.ClassFile.FieldType.int)) rm_X1_thousandthsFrom S [.ref a0, .ref a1] o := ct_of (by decide +kernel) hls (Nat.le_of_ble_eq_true rfl) (fun C hl hC hE => t_X1_thousandthsFrom hls hC hl hE h)
abbrev rm_X1_paceOff : Room := { frames := 9, cells := 0, slots := 0, locals := 170 }
def f_X1_paceOff_29  (S : mS) (s0 : Int32) : Option (Rs Int32) :=
  some (.inl s0, S)
set_option maxHeartbeats 2000000 in
set_option maxRecDepth 100000 in
theorem t_X1_paceOff_29 {l : Launch} (hls : l.stackTraces = false) {C : cT} (hC : CX C cX1_paceOff 3 yX1_paceOff rm_X1_paceOff) (hl : C.2.1 = l) {S0 : mS} (hE : CE C S0 (Option.some Jvm.ClassFile.FieldType.int) []) {o : Rs Int32} {S : mS} {s0 : Int32} (h : f_X1_paceOff_29  S s0 = some o) : XX C 3 (QQ C (fun r : Int32 => some (.int r)) S0 o) (0) (0) S 29 [] [.int s0] := by
  unfold f_X1_paceOff_29 at h
  exact x_ireturn (pc := 29) hC hE dX1_paceOff_29 (so h) (Nat.le_of_ble_eq_true rfl) (Nat.le_of_ble_eq_true rfl)
def f_X1_paceOff (S : mS) (a0 : Nat) (a1 : Int32) (a2 : Int32) : Option (Rs Int32) :=
  gd (gK S a0 = 7) (lt9 (gR S a0 2) fun r2 => if r2 = 0 then (f_X1_paceOff_29  S (0 : Int32)) else (lt9 (gR S a0 2) fun r3 => gd (gK S r3 = 8) (lt9 (gI S r3 1) fun x5 => lt9 ((1000 : Int32) + a1) fun x6 => lt9 (x5 * x6) fun x7 => lt9 (x7 - a2) fun x8 => lt9 (if 0 ≤ x8 then x8 else 0 - x8) fun x9 => f_X1_paceOff_29  S x9)))
set_option maxHeartbeats 2000000 in
set_option maxRecDepth 100000 in
theorem t_X1_paceOff {l : Launch} (hls : l.stackTraces = false) {C : cT} (hC : CX C cX1_paceOff 3 yX1_paceOff rm_X1_paceOff) (hl : C.2.1 = l) {S0 : mS} (hE : CE C S0 (Option.some Jvm.ClassFile.FieldType.int) []) {o : Rs Int32} {S : mS} {a0 : Nat} {a1 : Int32} {a2 : Int32} (h : f_X1_paceOff S a0 a1 a2 = some o) : XX C 3 (QQ C (fun r : Int32 => some (.int r)) S0 o) 0 0 S 0 [(0, .ref a0), (1, .int a1), (2, .int a2)] [] := by
  unfold f_X1_paceOff at h
  refine x_aload_n (pc := 0) hC 0 dX1_paceOff_0 rfl rfl ?_
  obtain ⟨g1, h⟩ := gd_some h
  refine x_getRv (pc := 1) (k := 2) hC fc_7 fl_RX1_29 dX1_paceOff_1 rfl g1 (fun r2 hr2 => ?_)
  replace h := lt_x hr2 h
  refine x_ifnonnull (pc := 4) hC 11 dX1_paceOff_4 (by decide) (fun c10 => ?_) (fun c10 => ?_)
  · rw [if_neg c10] at h
    refine x_aload_n (pc := 11) hC 0 dX1_paceOff_11 rfl rfl ?_
    refine x_getRv (pc := 12) (k := 2) hC fc_7 fl_RX1_29 dX1_paceOff_12 rfl g1 (fun r3 hr3 => ?_)
    replace h := lt_x hr3 h
    obtain ⟨g4, h⟩ := gd_some h
    refine x_getIv (pc := 15) (k := 1) hC fc_8 fl_RX1_89 dX1_paceOff_15 rfl g4 (fun x5 hx5 => ?_)
    replace h := lt_x hx5 h
    refine x_sipush (pc := 18) (v := (1000 : Int32)) hC dX1_paceOff_18 (by decide) ?_
    refine x_iload_n (pc := 21) hC 1 dX1_paceOff_21 rfl rfl ?_
    refine x_iaddv (pc := 22) hC dX1_paceOff_22 (fun x6 hx6 => ?_)
    replace h := lt_x hx6 h
    refine x_imulv (pc := 23) hC dX1_paceOff_23 (fun x7 hx7 => ?_)
    replace h := lt_x hx7 h
    refine x_iload_n (pc := 24) hC 2 dX1_paceOff_24 rfl rfl ?_
    refine x_isubv (pc := 25) hC dX1_paceOff_25 (fun x8 hx8 => ?_)
    replace h := lt_x hx8 h
    refine x_mabs (pc := 26) hC wm_801 wm_640 wm_69 wm_641 dX1_paceOff_26 (Nat.le_of_ble_eq_true rfl) (Nat.le_of_ble_eq_true rfl) (Nat.le_of_ble_eq_true rfl) (Nat.le_of_ble_eq_true rfl) (fun x9 hx9 => ?_)
    replace h := lt_x hx9 h
    refine x_pick [] rfl ?_
    exact t_X1_paceOff_29 hls hC hl hE h
  · rw [if_pos c10] at h
    refine x_iconst (pc := 7) (v := (0 : Int32)) hC dX1_paceOff_7 (by decide) ?_
    refine x_goto (pc := 8) hC 29 dX1_paceOff_8 (by decide) ?_
    refine x_pick [] rfl ?_
    exact t_X1_paceOff_29 hls hC hl hE h
theorem c_X1_paceOff (l : Launch) (hls : l.stackTraces = false) {S : mS} {a0 : Nat} {a1 : Int32} {a2 : Int32} {o : Rs Int32} (h : f_X1_paceOff S a0 a1 a2 = some o) : CT (fun r : Int32 => some (.int r)) l yX1_paceOff (.code yX1_paceOff cX1_paceOff 3 (Option.some Jvm.ClassFile.FieldType.int)) rm_X1_paceOff S [.ref a0, .int a1, .int a2] o := ct_of (by decide +kernel) hls (Nat.le_of_ble_eq_true rfl) (fun C hl hC hE => t_X1_paceOff hls hC hl hE h)
abbrev rm_X1_nearestPitch : Room := { frames := 10, cells := 0, slots := 0, locals := 192 }
def f_X1_nearestPitch_45 (rc16 : mS → Nat → Int32 → Int32 → Int32 → Int32 → Option (Rs Int32)) (S : mS) (a0 : Nat) (a1 : Int32) (a2 : Int32) (a3 : Int32) (a4 : Int32) : Option (Rs Int32) :=
  lt9 (a4 + Int32.ofInt (1)) fun x1 => rc16 S a0 a1 a2 a3 x1
set_option maxHeartbeats 2000000 in
set_option maxRecDepth 100000 in
theorem t_X1_nearestPitch_45 {l : Launch} (hls : l.stackTraces = false) {C : cT} (hC : CX C cX1_nearestPitch 6 yX1_nearestPitch rm_X1_nearestPitch) (hl : C.2.1 = l) {S0 : mS} (hE : CE C S0 (Option.some Jvm.ClassFile.FieldType.int) []) {o : Rs Int32} {rc16 : mS → Nat → Int32 → Int32 → Int32 → Int32 → Option (Rs Int32)} (hrc16 : ∀ (S : mS) (a0 : Nat) (a1 : Int32) (a2 : Int32) (a3 : Int32) (a4 : Int32), rc16 S a0 a1 a2 a3 a4 = some o → XX C 6 (QQ C (fun r : Int32 => some (.int r)) S0 o) (0) (0) S 16 [(0, .ref a0), (1, .int a1), (2, .int a2), (3, .int a3), (4, .int a4)] []) {S : mS} {a0 : Nat} {a1 : Int32} {a2 : Int32} {a3 : Int32} {a4 : Int32} (h : f_X1_nearestPitch_45 rc16 S a0 a1 a2 a3 a4 = some o) : XX C 6 (QQ C (fun r : Int32 => some (.int r)) S0 o) (0) (0) S 45 [(0, .ref a0), (1, .int a1), (2, .int a2), (3, .int a3), (4, .int a4)] [] := by
  unfold f_X1_nearestPitch_45 at h
  obtain ⟨x1, hx1⟩ : ∃ z, z = (a4 + Int32.ofInt (1)) := ⟨_, rfl⟩
  replace h := lt_x hx1 h
  refine x_iinc (pc := 45) hC 4 dX1_nearestPitch_45 rfl hx1.symm (by decide) (by decide) rfl ?_
  refine x_goto (pc := 48) hC 16 dX1_nearestPitch_48 (by decide) ?_
  refine x_pick [1, 2, 3, 4, 0] rfl ?_
  exact hrc16 _ _ _ _ _ _ h
def f_X1_nearestPitch_16  : Nat → mS → Nat → Int32 → Int32 → Int32 → Int32 → Option (Rs Int32)
  | 0, _, _, _, _, _, _ => none
  | k + 1, S, a0, a1, a2, a3, a4 => if (160 : Int32) < a4 then (some (.inl a2, S)) else (gd (gK S a0 = 7) (bd (f_X1_paceOff S a0 a4 a1) fun x2 S3 => if a3 ≤ x2 then (f_X1_nearestPitch_45 (f_X1_nearestPitch_16 k) S3 a0 a1 a2 a3 a4) else (f_X1_nearestPitch_45 (f_X1_nearestPitch_16 k) S3 a0 a1 a4 x2 a4)))
set_option maxHeartbeats 2000000 in
set_option maxRecDepth 100000 in
theorem t_X1_nearestPitch_16 {l : Launch} (hls : l.stackTraces = false) {C : cT} (hC : CX C cX1_nearestPitch 6 yX1_nearestPitch rm_X1_nearestPitch) (hl : C.2.1 = l) {S0 : mS} (hE : CE C S0 (Option.some Jvm.ClassFile.FieldType.int) []) {o : Rs Int32} : ∀ (k : Nat) (S : mS) (a0 : Nat) (a1 : Int32) (a2 : Int32) (a3 : Int32) (a4 : Int32), f_X1_nearestPitch_16  k S a0 a1 a2 a3 a4 = some o → XX C 6 (QQ C (fun r : Int32 => some (.int r)) S0 o) (0) (0) S 16 [(0, .ref a0), (1, .int a1), (2, .int a2), (3, .int a3), (4, .int a4)] [] := by
  intro k
  induction k with
  | zero => intro S a0 a1 a2 a3 a4 h; cases h
  | succ k ih =>
    intro S a0 a1 a2 a3 a4 h
    unfold f_X1_nearestPitch_16 at h
    refine x_iload (pc := 16) hC 4 dX1_nearestPitch_16 rfl ?_
    refine x_sipush (pc := 18) (v := (160 : Int32)) hC dX1_nearestPitch_18 (by decide) ?_
    refine x_icmp_gt (pc := 21) hC 51 dX1_nearestPitch_21 (by decide) (fun c7 => ?_) (fun c7 => ?_)
    · rw [if_pos c7] at h
      refine x_iload_n (pc := 51) hC 2 dX1_nearestPitch_51 rfl rfl ?_
      exact x_ireturn (pc := 52) hC hE dX1_nearestPitch_52 (so h) (Nat.le_of_ble_eq_true rfl) (Nat.le_of_ble_eq_true rfl)
    · rw [if_neg c7] at h
      refine x_aload_n (pc := 24) hC 0 dX1_nearestPitch_24 rfl rfl ?_
      refine x_iload (pc := 25) hC 4 dX1_nearestPitch_25 rfl ?_
      refine x_iload_n (pc := 27) hC 1 dX1_nearestPitch_27 rfl rfl ?_
      obtain ⟨g1, h⟩ := gd_some h
      obtain ⟨o4, ho4, h⟩ := bd_some h
      refine x_callV (pc := 28) (As := [.int a4, .int a1]) (rest := []) hC hl (c_X1_paceOff l hls ho4) lk_RX1_126 fc_7 g1 dX1_nearestPitch_28 rfl rfl (Nat.le_of_ble_eq_true rfl) ⟨Nat.le_of_ble_eq_true rfl, Nat.le_of_ble_eq_true rfl⟩ ⟨(Nat.le_of_ble_eq_true rfl), (Nat.le_of_ble_eq_true rfl)⟩ ?_
      rcases o4 with ⟨x2 | E5, S3⟩
      · refine xk_i ?_
        replace h := bk_l h
        refine x_istore (pc := 31) hC dX1_nearestPitch_31 (by decide) (by decide) rfl ?_
        refine x_iload (pc := 33) hC 0 dX1_nearestPitch_33 rfl ?_
        refine x_iload_n (pc := 35) hC 4 dX1_nearestPitch_35 rfl rfl ?_
        refine x_icmp_ge (pc := 36) hC 45 dX1_nearestPitch_36 (by decide) (fun c6 => ?_) (fun c6 => ?_)
        · rw [if_pos c6] at h
          refine x_pick [1, 2, 3, 4, 5] rfl ?_
          exact t_X1_nearestPitch_45 hls hC hl hE (fun z0 z1 z2 z3 z4 z5 hz => ih z0 z1 z2 z3 z4 z5 hz) h
        · rw [if_neg c6] at h
          refine x_iload (pc := 39) hC 0 dX1_nearestPitch_39 rfl ?_
          refine x_istore_n (pc := 41) hC dX1_nearestPitch_41 rfl (by decide) (by decide) rfl ?_
          refine x_iload (pc := 42) hC 5 dX1_nearestPitch_42 rfl ?_
          refine x_istore_n (pc := 44) hC dX1_nearestPitch_44 rfl (by decide) (by decide) rfl ?_
          refine x_pick [3, 4, 0, 1, 5] rfl ?_
          exact t_X1_nearestPitch_45 hls hC hl hE (fun z0 z1 z2 z3 z4 z5 hz => ih z0 z1 z2 z3 z4 z5 hz) h
      · exact xk_r (xt_out hC hE (bk_r h) (Nat.le_of_ble_eq_true rfl) (Nat.le_of_ble_eq_true rfl))
def f_X1_nearestPitch (S : mS) (a0 : Nat) (a1 : Int32) : Option (Rs Int32) :=
  gd (gK S a0 = 7) (bd (f_X1_paceOff S a0 (-160 : Int32) a1) fun x2 S3 => lt9 ((-160 : Int32) + (1 : Int32)) fun x6 => f_X1_nearestPitch_16  16 S3 a0 a1 (-160 : Int32) x2 x6)
set_option maxHeartbeats 2000000 in
set_option maxRecDepth 100000 in
theorem t_X1_nearestPitch {l : Launch} (hls : l.stackTraces = false) {C : cT} (hC : CX C cX1_nearestPitch 6 yX1_nearestPitch rm_X1_nearestPitch) (hl : C.2.1 = l) {S0 : mS} (hE : CE C S0 (Option.some Jvm.ClassFile.FieldType.int) []) {o : Rs Int32} {S : mS} {a0 : Nat} {a1 : Int32} (h : f_X1_nearestPitch S a0 a1 = some o) : XX C 6 (QQ C (fun r : Int32 => some (.int r)) S0 o) 0 0 S 0 [(0, .ref a0), (1, .int a1)] [] := by
  unfold f_X1_nearestPitch at h
  refine x_sipush (pc := 0) (v := (-160 : Int32)) hC dX1_nearestPitch_0 (by decide) ?_
  refine x_istore_n (pc := 3) hC dX1_nearestPitch_3 rfl (by decide) (by decide) rfl ?_
  refine x_aload_n (pc := 4) hC 1 dX1_nearestPitch_4 rfl rfl ?_
  refine x_iload_n (pc := 5) hC 0 dX1_nearestPitch_5 rfl rfl ?_
  refine x_iload_n (pc := 6) hC 2 dX1_nearestPitch_6 rfl rfl ?_
  obtain ⟨g1, h⟩ := gd_some h
  obtain ⟨o4, ho4, h⟩ := bd_some h
  refine x_callV (pc := 7) (As := [.int (-160 : Int32), .int a1]) (rest := []) hC hl (c_X1_paceOff l hls ho4) lk_RX1_126 fc_7 g1 dX1_nearestPitch_7 rfl rfl (Nat.le_of_ble_eq_true rfl) ⟨Nat.le_of_ble_eq_true rfl, Nat.le_of_ble_eq_true rfl⟩ ⟨(Nat.le_of_ble_eq_true rfl), (Nat.le_of_ble_eq_true rfl)⟩ ?_
  rcases o4 with ⟨x2 | E5, S3⟩
  · refine xk_i ?_
    replace h := bk_l h
    refine x_istore_n (pc := 10) hC dX1_nearestPitch_10 rfl (by decide) (by decide) rfl ?_
    refine x_iload_n (pc := 11) hC 1 dX1_nearestPitch_11 rfl rfl ?_
    refine x_iconst (pc := 12) (v := (1 : Int32)) hC dX1_nearestPitch_12 (by decide) ?_
    refine x_iaddv (pc := 13) hC dX1_nearestPitch_13 (fun x6 hx6 => ?_)
    replace h := lt_x hx6 h
    refine x_istore (pc := 14) hC dX1_nearestPitch_14 (by decide) (by decide) rfl ?_
    refine x_pick [3, 4, 2, 1, 0] rfl ?_
    exact t_X1_nearestPitch_16 hls hC hl hE 16 _ _ _ _ _ _ h
  · exact xk_r (xt_out hC hE (bk_r h) (Nat.le_of_ble_eq_true rfl) (Nat.le_of_ble_eq_true rfl))
theorem c_X1_nearestPitch (l : Launch) (hls : l.stackTraces = false) {S : mS} {a0 : Nat} {a1 : Int32} {o : Rs Int32} (h : f_X1_nearestPitch S a0 a1 = some o) : CT (fun r : Int32 => some (.int r)) l yX1_nearestPitch (.code yX1_nearestPitch cX1_nearestPitch 6 (Option.some Jvm.ClassFile.FieldType.int)) rm_X1_nearestPitch S [.ref a0, .int a1] o := ct_of (by decide +kernel) hls (Nat.le_of_ble_eq_true rfl) (fun C hl hC hE => t_X1_nearestPitch hls hC hl hE h)
abbrev rm_X1_lockTo : Room := { frames := 11, cells := 0, slots := 0, locals := 217 }
def f_X1_lockTo_11  (S : mS) (a0 : Nat) : Option (Rs Int32) :=
  gd (gK S a0 = 7) (lt9 (gI S a0 4) fun x2 => some (.inl x2, S))
set_option maxHeartbeats 2000000 in
set_option maxRecDepth 100000 in
theorem t_X1_lockTo_11 {l : Launch} (hls : l.stackTraces = false) {C : cT} (hC : CX C cX1_lockTo 6 yX1_lockTo rm_X1_lockTo) (hl : C.2.1 = l) {S0 : mS} (hE : CE C S0 (Option.some Jvm.ClassFile.FieldType.int) []) {o : Rs Int32} {S : mS} {a0 : Nat} (h : f_X1_lockTo_11  S a0 = some o) : XX C 6 (QQ C (fun r : Int32 => some (.int r)) S0 o) (0) (0) S 11 [(0, .ref a0)] [] := by
  unfold f_X1_lockTo_11 at h
  refine x_aload_n (pc := 11) hC 0 dX1_lockTo_11 rfl rfl ?_
  obtain ⟨g1, h⟩ := gd_some h
  refine x_getIv (pc := 12) (k := 4) hC fc_7 fl_RX1_55 dX1_lockTo_12 rfl g1 (fun x2 hx2 => ?_)
  replace h := lt_x hx2 h
  exact x_ireturn (pc := 15) hC hE dX1_lockTo_15 (so h) (Nat.le_of_ble_eq_true rfl) (Nat.le_of_ble_eq_true rfl)
def f_X1_lockTo_114  (S : mS) (a0 : Nat) (a4 : Int64) : Option (Rs Int32) :=
  gd (gK S a0 = 7) (zL (sL S a0 3 a4) fun S2 => lt9 (gI S2 a0 4) fun x4 => some (.inl x4, S2))
set_option maxHeartbeats 2000000 in
set_option maxRecDepth 100000 in
theorem t_X1_lockTo_114 {l : Launch} (hls : l.stackTraces = false) {C : cT} (hC : CX C cX1_lockTo 6 yX1_lockTo rm_X1_lockTo) (hl : C.2.1 = l) {S0 : mS} (hE : CE C S0 (Option.some Jvm.ClassFile.FieldType.int) []) {o : Rs Int32} {S : mS} {a0 : Nat} {a4 : Int64} (h : f_X1_lockTo_114  S a0 a4 = some o) : XX C 6 (QQ C (fun r : Int32 => some (.int r)) S0 o) (0) (0) S 114 [(0, .ref a0), (4, .long a4)] [] := by
  unfold f_X1_lockTo_114 at h
  refine x_aload_n (pc := 114) hC 0 dX1_lockTo_114 rfl rfl ?_
  refine x_lload (pc := 115) hC 1 dX1_lockTo_115 rfl ?_
  obtain ⟨g1, h⟩ := gd_some h
  refine x_putLv (pc := 117) (k := 3) hC fc_7 fl_RX1_41 dX1_lockTo_117 rfl rfl rfl g1 (fun S2 hS2 => ?_)
  replace h := zL_x hS2 h
  have g3 : gK S2 a0 = 7 := by rw [hS2]; exact g1
  refine x_aload_n (pc := 120) hC 0 dX1_lockTo_120 rfl rfl ?_
  refine x_getIv (pc := 121) (k := 4) hC fc_7 fl_RX1_55 dX1_lockTo_121 rfl g3 (fun x4 hx4 => ?_)
  replace h := lt_x hx4 h
  exact x_ireturn (pc := 124) hC hE dX1_lockTo_124 (so h) (Nat.le_of_ble_eq_true rfl) (Nat.le_of_ble_eq_true rfl)
def f_X1_lockTo_73  (S : mS) (a0 : Nat) (s0 : Int64) : Option (Rs Int32) :=
  lt9 (lg_cmp s0 (0 : Int64)) fun x1 => if 0 ≤ x1 then (gd (gK S a0 = 7) (lt9 (gR S a0 2) fun r3 => gd (gK S r3 = 8) (bd (f_X2_lastPlace S r3) fun x5 S6 => lt9 (lg_cmp s0 x5) fun x9 => if x9 ≤ 0 then (f_X1_lockTo_114  S6 a0 s0) else (lt9 (s0 - (60000000 : Int64)) fun x10 => f_X1_lockTo_114  S6 a0 x10)))) else (lt9 (s0 + (60000000 : Int64)) fun x12 => f_X1_lockTo_114  S a0 x12)
set_option maxHeartbeats 2000000 in
set_option maxRecDepth 100000 in
theorem t_X1_lockTo_73 {l : Launch} (hls : l.stackTraces = false) {C : cT} (hC : CX C cX1_lockTo 6 yX1_lockTo rm_X1_lockTo) (hl : C.2.1 = l) {S0 : mS} (hE : CE C S0 (Option.some Jvm.ClassFile.FieldType.int) []) {o : Rs Int32} {S : mS} {a0 : Nat} {s0 : Int64} (h : f_X1_lockTo_73  S a0 s0 = some o) : XX C 6 (QQ C (fun r : Int32 => some (.int r)) S0 o) (0) (0) S 73 [(0, .ref a0)] [.long s0] := by
  unfold f_X1_lockTo_73 at h
  refine x_lstore (pc := 73) hC dX1_lockTo_73 (by decide) (by decide) rfl ?_
  refine x_lload (pc := 75) hC 0 dX1_lockTo_75 rfl ?_
  refine x_lconst (pc := 77) (v := (0 : Int64)) hC dX1_lockTo_77 (by decide) ?_
  refine x_lcmpv (pc := 78) hC dX1_lockTo_78 (fun x1 hx1 => ?_)
  replace h := lt_x hx1 h
  refine x_if_ge (pc := 79) hC 93 dX1_lockTo_79 (by decide) (fun c13 => ?_) (fun c13 => ?_)
  · rw [if_pos c13] at h
    refine x_lload (pc := 93) hC 0 dX1_lockTo_93 rfl ?_
    refine x_aload_n (pc := 95) hC 1 dX1_lockTo_95 rfl rfl ?_
    obtain ⟨g2, h⟩ := gd_some h
    refine x_getRv (pc := 96) (k := 2) hC fc_7 fl_RX1_29 dX1_lockTo_96 rfl g2 (fun r3 hr3 => ?_)
    replace h := lt_x hr3 h
    obtain ⟨g4, h⟩ := gd_some h
    obtain ⟨o7, ho7, h⟩ := bd_some h
    refine x_callV (pc := 99) (As := []) (rest := [.long s0]) hC hl (c_X2_lastPlace l hls ho7) lk_RX1_64 fc_8 g4 dX1_lockTo_99 rfl rfl (Nat.le_of_ble_eq_true rfl) ⟨Nat.le_of_ble_eq_true rfl, Nat.le_of_ble_eq_true rfl⟩ ⟨(Nat.le_of_ble_eq_true rfl), (Nat.le_of_ble_eq_true rfl)⟩ ?_
    rcases o7 with ⟨x5 | E8, S6⟩
    · refine xk_j ?_
      replace h := bk_l h
      refine x_lcmpv (pc := 102) hC dX1_lockTo_102 (fun x9 hx9 => ?_)
      replace h := lt_x hx9 h
      refine x_if_le (pc := 103) hC 114 dX1_lockTo_103 (by decide) (fun c11 => ?_) (fun c11 => ?_)
      · rw [if_pos c11] at h
        refine x_pick [1, 0] rfl ?_
        exact t_X1_lockTo_114 hls hC hl hE h
      · rw [if_neg c11] at h
        refine x_lload (pc := 106) hC 0 dX1_lockTo_106 rfl ?_
        refine x_ldc2 (pc := 108) hC wm_559 dX1_lockTo_108 ?_
        refine x_lsubv (pc := 111) hC dX1_lockTo_111 (fun x10 hx10 => ?_)
        replace h := lt_x hx10 h
        refine x_lstore (pc := 112) hC dX1_lockTo_112 (by decide) (by decide) rfl ?_
        refine x_pick [1, 0] rfl ?_
        exact t_X1_lockTo_114 hls hC hl hE h
    · exact xk_r (xt_out hC hE (bk_r h) (Nat.le_of_ble_eq_true rfl) (Nat.le_of_ble_eq_true rfl))
  · rw [if_neg c13] at h
    refine x_lload (pc := 82) hC 0 dX1_lockTo_82 rfl ?_
    refine x_ldc2 (pc := 84) hC wm_559 dX1_lockTo_84 ?_
    refine x_laddv (pc := 87) hC dX1_lockTo_87 (fun x12 hx12 => ?_)
    replace h := lt_x hx12 h
    refine x_lstore (pc := 88) hC dX1_lockTo_88 (by decide) (by decide) rfl ?_
    refine x_goto (pc := 90) hC 114 dX1_lockTo_90 (by decide) ?_
    refine x_pick [1, 0] rfl ?_
    exact t_X1_lockTo_114 hls hC hl hE h
def f_X1_lockTo (S : mS) (a0 : Nat) (a1 : Nat) : Option (Rs Int32) :=
  gd (gK S a0 = 7) (lt9 (gR S a0 2) fun r2 => if r2 = 0 then (f_X1_lockTo_11  S a0) else (if a1 = 0 then (f_X1_lockTo_11  S a0) else (gd (gK S a1 = 7) (bd (f_X1_pace S a1) fun x4 S5 => gd (gK S5 a0 = 7) (bd (f_X1_nearestPitch S5 a0 x4) fun x9 S10 => gd (gK S10 a0 = 7) (zI (sI S10 a0 4 x9) fun S14 => gd (gK S14 a1 = 7) (lt9 (gL S14 a1 3) fun x17 => lt9 (gL S14 a0 3) fun x18 => lt9 (x17 - x18) fun x19 => bd (f_J9_floorMod_f86c9 S14 x19 (60000000 : Int64)) fun x20 S21 => lt9 ((60000000 : Int64) - x20) fun x24 => lt9 (lg_cmp x20 x24) fun x25 => if 0 ≤ x25 then (gd (gK S21 a0 = 7) (lt9 (gL S21 a0 3) fun x27 => lt9 (x27 + x20) fun x28 => lt9 (x28 - (60000000 : Int64)) fun x29 => f_X1_lockTo_73  S21 a0 x29)) else (gd (gK S21 a0 = 7) (lt9 (gL S21 a0 3) fun x31 => lt9 (x31 + x20) fun x32 => f_X1_lockTo_73  S21 a0 x32)))))))))
set_option maxHeartbeats 2000000 in
set_option maxRecDepth 100000 in
theorem t_X1_lockTo {l : Launch} (hls : l.stackTraces = false) {C : cT} (hC : CX C cX1_lockTo 6 yX1_lockTo rm_X1_lockTo) (hl : C.2.1 = l) {S0 : mS} (hE : CE C S0 (Option.some Jvm.ClassFile.FieldType.int) []) {o : Rs Int32} {S : mS} {a0 : Nat} {a1 : Nat} (h : f_X1_lockTo S a0 a1 = some o) : XX C 6 (QQ C (fun r : Int32 => some (.int r)) S0 o) 0 0 S 0 [(0, .ref a0), (1, .ref a1)] [] := by
  unfold f_X1_lockTo at h
  refine x_aload_n (pc := 0) hC 0 dX1_lockTo_0 rfl rfl ?_
  obtain ⟨g1, h⟩ := gd_some h
  refine x_getRv (pc := 1) (k := 2) hC fc_7 fl_RX1_29 dX1_lockTo_1 rfl g1 (fun r2 hr2 => ?_)
  replace h := lt_x hr2 h
  refine x_ifnull (pc := 4) hC 11 dX1_lockTo_4 (by decide) (fun c35 => ?_) (fun c35 => ?_)
  · rw [if_pos c35] at h
    refine x_pick [0] rfl ?_
    exact t_X1_lockTo_11 hls hC hl hE h
  · rw [if_neg c35] at h
    refine x_aload_n (pc := 7) hC 1 dX1_lockTo_7 rfl rfl ?_
    refine x_ifnonnull (pc := 8) hC 16 dX1_lockTo_8 (by decide) (fun c34 => ?_) (fun c34 => ?_)
    · rw [if_neg c34] at h
      refine x_aload_n (pc := 16) hC 0 dX1_lockTo_16 rfl rfl ?_
      refine x_aload_n (pc := 17) hC 0 dX1_lockTo_17 rfl rfl ?_
      refine x_aload_n (pc := 18) hC 1 dX1_lockTo_18 rfl rfl ?_
      obtain ⟨g3, h⟩ := gd_some h
      obtain ⟨o6, ho6, h⟩ := bd_some h
      refine x_callV (pc := 19) (As := []) (rest := [.ref a0, .ref a0]) hC hl (c_X1_pace l hls ho6) lk_RX1_105 fc_7 g3 dX1_lockTo_19 rfl rfl (Nat.le_of_ble_eq_true rfl) ⟨Nat.le_of_ble_eq_true rfl, Nat.le_of_ble_eq_true rfl⟩ ⟨(Nat.le_of_ble_eq_true rfl), (Nat.le_of_ble_eq_true rfl)⟩ ?_
      rcases o6 with ⟨x4 | E7, S5⟩
      · refine xk_i ?_
        replace h := bk_l h
        obtain ⟨g8, h⟩ := gd_some h
        obtain ⟨o11, ho11, h⟩ := bd_some h
        refine x_callV (pc := 22) (As := [.int x4]) (rest := [.ref a0]) hC hl (c_X1_nearestPitch l hls ho11) lk_RX1_123 fc_7 g8 dX1_lockTo_22 rfl rfl (Nat.le_of_ble_eq_true rfl) ⟨Nat.le_of_ble_eq_true rfl, Nat.le_of_ble_eq_true rfl⟩ ⟨(Nat.le_of_ble_eq_true rfl), (Nat.le_of_ble_eq_true rfl)⟩ ?_
        rcases o11 with ⟨x9 | E12, S10⟩
        · refine xk_i ?_
          replace h := bk_l h
          obtain ⟨g13, h⟩ := gd_some h
          refine x_putIv (pc := 25) (k := 4) hC fc_7 fl_RX1_55 dX1_lockTo_25 rfl rfl (nf_int _) g13 (fun S14 hS14 => ?_)
          replace h := zI_x hS14 h
          have g15 : gK S14 a0 = 7 := by rw [hS14]; exact g13
          refine x_aload_n (pc := 28) hC 1 dX1_lockTo_28 rfl rfl ?_
          obtain ⟨g16, h⟩ := gd_some h
          refine x_getLv (pc := 29) (k := 3) hC fc_7 fl_RX1_41 dX1_lockTo_29 rfl g16 (fun x17 hx17 => ?_)
          replace h := lt_x hx17 h
          refine x_aload_n (pc := 32) hC 0 dX1_lockTo_32 rfl rfl ?_
          refine x_getLv (pc := 33) (k := 3) hC fc_7 fl_RX1_41 dX1_lockTo_33 rfl g15 (fun x18 hx18 => ?_)
          replace h := lt_x hx18 h
          refine x_lsubv (pc := 36) hC dX1_lockTo_36 (fun x19 hx19 => ?_)
          replace h := lt_x hx19 h
          refine x_ldc2 (pc := 37) hC wm_559 dX1_lockTo_37 ?_
          obtain ⟨o22, ho22, h⟩ := bd_some h
          refine x_callS (pc := 40) (As := [.long x19, .long (60000000 : Int64)]) (rest := []) hC hl (c_J9_floorMod_f86c9 l hls ho22) lk_RX1_118 dX1_lockTo_40 rfl rfl (Nat.le_of_ble_eq_true rfl) ⟨Nat.le_of_ble_eq_true rfl, Nat.le_of_ble_eq_true rfl⟩ ⟨(Nat.le_of_ble_eq_true rfl), (Nat.le_of_ble_eq_true rfl)⟩ ?_
          rcases o22 with ⟨x20 | E23, S21⟩
          · refine xk_j ?_
            replace h := bk_l h
            refine x_lstore_n (pc := 43) hC dX1_lockTo_43 rfl (by decide) (by decide) rfl ?_
            refine x_lload_n (pc := 44) hC 0 dX1_lockTo_44 rfl rfl ?_
            refine x_ldc2 (pc := 45) hC wm_559 dX1_lockTo_45 ?_
            refine x_lload_n (pc := 48) hC 0 dX1_lockTo_48 rfl rfl ?_
            refine x_lsubv (pc := 49) hC dX1_lockTo_49 (fun x24 hx24 => ?_)
            replace h := lt_x hx24 h
            refine x_lcmpv (pc := 50) hC dX1_lockTo_50 (fun x25 hx25 => ?_)
            replace h := lt_x hx25 h
            refine x_if_ge (pc := 51) hC 63 dX1_lockTo_51 (by decide) (fun c33 => ?_) (fun c33 => ?_)
            · rw [if_pos c33] at h
              refine x_aload_n (pc := 63) hC 1 dX1_lockTo_63 rfl rfl ?_
              obtain ⟨g26, h⟩ := gd_some h
              refine x_getLv (pc := 64) (k := 3) hC fc_7 fl_RX1_41 dX1_lockTo_64 rfl g26 (fun x27 hx27 => ?_)
              replace h := lt_x hx27 h
              refine x_lload_n (pc := 67) hC 0 dX1_lockTo_67 rfl rfl ?_
              refine x_laddv (pc := 68) hC dX1_lockTo_68 (fun x28 hx28 => ?_)
              replace h := lt_x hx28 h
              refine x_ldc2 (pc := 69) hC wm_559 dX1_lockTo_69 ?_
              refine x_lsubv (pc := 72) hC dX1_lockTo_72 (fun x29 hx29 => ?_)
              replace h := lt_x hx29 h
              refine x_pick [1] rfl ?_
              exact t_X1_lockTo_73 hls hC hl hE h
            · rw [if_neg c33] at h
              refine x_aload_n (pc := 54) hC 1 dX1_lockTo_54 rfl rfl ?_
              obtain ⟨g30, h⟩ := gd_some h
              refine x_getLv (pc := 55) (k := 3) hC fc_7 fl_RX1_41 dX1_lockTo_55 rfl g30 (fun x31 hx31 => ?_)
              replace h := lt_x hx31 h
              refine x_lload_n (pc := 58) hC 0 dX1_lockTo_58 rfl rfl ?_
              refine x_laddv (pc := 59) hC dX1_lockTo_59 (fun x32 hx32 => ?_)
              replace h := lt_x hx32 h
              refine x_goto (pc := 60) hC 73 dX1_lockTo_60 (by decide) ?_
              refine x_pick [1] rfl ?_
              exact t_X1_lockTo_73 hls hC hl hE h
          · exact xk_r (xt_out hC hE (bk_r h) (Nat.le_of_ble_eq_true rfl) (Nat.le_of_ble_eq_true rfl))
        · exact xk_r (xt_out hC hE (bk_r h) (Nat.le_of_ble_eq_true rfl) (Nat.le_of_ble_eq_true rfl))
      · exact xk_r (xt_out hC hE (bk_r h) (Nat.le_of_ble_eq_true rfl) (Nat.le_of_ble_eq_true rfl))
    · rw [if_pos c34] at h
      refine x_pick [0] rfl ?_
      exact t_X1_lockTo_11 hls hC hl hE h
theorem c_X1_lockTo (l : Launch) (hls : l.stackTraces = false) {S : mS} {a0 : Nat} {a1 : Nat} {o : Rs Int32} (h : f_X1_lockTo S a0 a1 = some o) : CT (fun r : Int32 => some (.int r)) l yX1_lockTo (.code yX1_lockTo cX1_lockTo 6 (Option.some Jvm.ClassFile.FieldType.int)) rm_X1_lockTo S [.ref a0, .ref a1] o := ct_of (by decide +kernel) hls (Nat.le_of_ble_eq_true rfl) (fun C hl hC hE => t_X1_lockTo hls hC hl hE h)
abbrev rm_X1_listenTo : Room := { frames := 10, cells := 0, slots := 0, locals := 197 }
def f_X1_listenTo_11  (S : mS) : Option (Rs Int32) :=
  some (.inl (0 : Int32), S)
set_option maxHeartbeats 2000000 in
set_option maxRecDepth 100000 in
theorem t_X1_listenTo_11 {l : Launch} (hls : l.stackTraces = false) {C : cT} (hC : CX C cX1_listenTo 8 yX1_listenTo rm_X1_listenTo) (hl : C.2.1 = l) {S0 : mS} (hE : CE C S0 (Option.some Jvm.ClassFile.FieldType.int) []) {o : Rs Int32} {S : mS} (h : f_X1_listenTo_11  S = some o) : XX C 8 (QQ C (fun r : Int32 => some (.int r)) S0 o) (0) (0) S 11 [] [] := by
  unfold f_X1_listenTo_11 at h
  refine x_iconst (pc := 11) (v := (0 : Int32)) hC dX1_listenTo_11 (by decide) ?_
  exact x_ireturn (pc := 12) hC hE dX1_listenTo_12 (so h) (Nat.le_of_ble_eq_true rfl) (Nat.le_of_ble_eq_true rfl)
def f_X1_listenTo_18  : Nat → mS → Nat → Nat → Int32 → Int32 → Int32 → Option (Rs Int32)
  | 0, _, _, _, _, _, _ => none
  | k + 1, S, a0, a1, a2, a3, a4 => if a2 ≤ a4 then (gd (gK S a0 = 7) (bd (f_X1_thousandthsFrom S a0 a1) fun x2 S3 => some (.inl x2, S3))) else (gd (gK S a0 = 7) (bd (f_X1_thousandthsFrom S a0 a1) fun x7 S8 => gd (gK S8 a0 = 7) (lt9 (gL S8 a0 3) fun x12 => gd (¬ (2 : Int32) = 0) (lt9 (a3 / (2 : Int32)) fun x13 => lt9 (x13 * (60000 : Int32)) fun x15 => lt9 ((x15).toInt64) fun x16 => lt9 (x12 - x16) fun x17 => lt9 (gR S8 a0 2) fun r18 => gd (gK S8 r18 = 8) (bd (f_X2_lastPlace S8 r18) fun x20 S21 => lt9 (if x20 < x17 then x20 else x17) fun x24 => lt9 (if x24 < (0 : Int64) then (0 : Int64) else x24) fun x25 => gd (gK S21 a0 = 7) (zL (sL S21 a0 3 x25) fun S27 => lt9 (a4 + Int32.ofInt (1)) fun x29 => f_X1_listenTo_18 k S27 a0 a1 a2 x7 x29))))))
set_option maxHeartbeats 2000000 in
set_option maxRecDepth 100000 in
theorem t_X1_listenTo_18 {l : Launch} (hls : l.stackTraces = false) {C : cT} (hC : CX C cX1_listenTo 8 yX1_listenTo rm_X1_listenTo) (hl : C.2.1 = l) {S0 : mS} (hE : CE C S0 (Option.some Jvm.ClassFile.FieldType.int) []) {o : Rs Int32} : ∀ (k : Nat) (S : mS) (a0 : Nat) (a1 : Nat) (a2 : Int32) (a3 : Int32) (a4 : Int32), f_X1_listenTo_18  k S a0 a1 a2 a3 a4 = some o → XX C 8 (QQ C (fun r : Int32 => some (.int r)) S0 o) (0) (0) S 18 [(0, .ref a0), (1, .ref a1), (2, .int a2), (3, .int a3), (4, .int a4)] [] := by
  intro k
  induction k with
  | zero => intro S a0 a1 a2 a3 a4 h; cases h
  | succ k ih =>
    intro S a0 a1 a2 a3 a4 h
    unfold f_X1_listenTo_18 at h
    refine x_iload (pc := 18) hC 4 dX1_listenTo_18 rfl ?_
    refine x_iload_n (pc := 20) hC 2 dX1_listenTo_20 rfl rfl ?_
    refine x_icmp_ge (pc := 21) hC 74 dX1_listenTo_21 (by decide) (fun c30 => ?_) (fun c30 => ?_)
    · rw [if_pos c30] at h
      refine x_aload_n (pc := 74) hC 0 dX1_listenTo_74 rfl rfl ?_
      refine x_aload_n (pc := 75) hC 1 dX1_listenTo_75 rfl rfl ?_
      obtain ⟨g1, h⟩ := gd_some h
      obtain ⟨o4, ho4, h⟩ := bd_some h
      refine x_callV (pc := 76) (As := [.ref a1]) (rest := []) hC hl (c_X1_thousandthsFrom l hls ho4) lk_RX1_132 fc_7 g1 dX1_listenTo_76 rfl rfl (Nat.le_of_ble_eq_true rfl) ⟨Nat.le_of_ble_eq_true rfl, Nat.le_of_ble_eq_true rfl⟩ ⟨(Nat.le_of_ble_eq_true rfl), (Nat.le_of_ble_eq_true rfl)⟩ ?_
      rcases o4 with ⟨x2 | E5, S3⟩
      · refine xk_i ?_
        replace h := bk_l h
        exact x_ireturn (pc := 79) hC hE dX1_listenTo_79 (so h) (Nat.le_of_ble_eq_true rfl) (Nat.le_of_ble_eq_true rfl)
      · exact xk_r (xt_out hC hE (bk_r h) (Nat.le_of_ble_eq_true rfl) (Nat.le_of_ble_eq_true rfl))
    · rw [if_neg c30] at h
      refine x_aload_n (pc := 24) hC 0 dX1_listenTo_24 rfl rfl ?_
      refine x_aload_n (pc := 25) hC 1 dX1_listenTo_25 rfl rfl ?_
      obtain ⟨g6, h⟩ := gd_some h
      obtain ⟨o9, ho9, h⟩ := bd_some h
      refine x_callV (pc := 26) (As := [.ref a1]) (rest := []) hC hl (c_X1_thousandthsFrom l hls ho9) lk_RX1_132 fc_7 g6 dX1_listenTo_26 rfl rfl (Nat.le_of_ble_eq_true rfl) ⟨Nat.le_of_ble_eq_true rfl, Nat.le_of_ble_eq_true rfl⟩ ⟨(Nat.le_of_ble_eq_true rfl), (Nat.le_of_ble_eq_true rfl)⟩ ?_
      rcases o9 with ⟨x7 | E10, S8⟩
      · refine xk_i ?_
        replace h := bk_l h
        refine x_istore (pc := 29) hC dX1_listenTo_29 (by decide) (by decide) rfl ?_
        refine x_aload_n (pc := 31) hC 1 dX1_listenTo_31 rfl rfl ?_
        obtain ⟨g11, h⟩ := gd_some h
        refine x_getLv (pc := 32) (k := 3) hC fc_7 fl_RX1_41 dX1_listenTo_32 rfl g11 (fun x12 hx12 => ?_)
        replace h := lt_x hx12 h
        refine x_iload_n (pc := 35) hC 4 dX1_listenTo_35 rfl rfl ?_
        refine x_iconst (pc := 36) (v := (2 : Int32)) hC dX1_listenTo_36 (by decide) ?_
        obtain ⟨g14, h⟩ := gd_some h
        refine x_idivv (pc := 37) hC dX1_listenTo_37 g14 (fun x13 hx13 => ?_)
        replace h := lt_x hx13 h
        refine x_ldc (pc := 38) hC wm_814 dX1_listenTo_38 ?_
        refine x_imulv (pc := 40) hC dX1_listenTo_40 (fun x15 hx15 => ?_)
        replace h := lt_x hx15 h
        refine x_i2lv (pc := 41) hC dX1_listenTo_41 (fun x16 hx16 => ?_)
        replace h := lt_x hx16 h
        refine x_lsubv (pc := 42) hC dX1_listenTo_42 (fun x17 hx17 => ?_)
        replace h := lt_x hx17 h
        refine x_lstore (pc := 43) hC dX1_listenTo_43 (by decide) (by decide) rfl ?_
        refine x_aload_n (pc := 45) hC 2 dX1_listenTo_45 rfl rfl ?_
        refine x_lconst (pc := 46) (v := (0 : Int64)) hC dX1_listenTo_46 (by decide) ?_
        refine x_lload (pc := 47) hC 0 dX1_listenTo_47 rfl ?_
        refine x_aload_n (pc := 49) hC 2 dX1_listenTo_49 rfl rfl ?_
        refine x_getRv (pc := 50) (k := 2) hC fc_7 fl_RX1_29 dX1_listenTo_50 rfl g11 (fun r18 hr18 => ?_)
        replace h := lt_x hr18 h
        obtain ⟨g19, h⟩ := gd_some h
        obtain ⟨o22, ho22, h⟩ := bd_some h
        refine x_callV (pc := 53) (As := []) (rest := [.long x17, .long (0 : Int64), .ref a0]) hC hl (c_X2_lastPlace l hls ho22) lk_RX1_64 fc_8 g19 dX1_listenTo_53 rfl rfl (Nat.le_of_ble_eq_true rfl) ⟨Nat.le_of_ble_eq_true rfl, Nat.le_of_ble_eq_true rfl⟩ ⟨(Nat.le_of_ble_eq_true rfl), (Nat.le_of_ble_eq_true rfl)⟩ ?_
        rcases o22 with ⟨x20 | E23, S21⟩
        · refine xk_j ?_
          replace h := bk_l h
          refine x_mmin_long (pc := 56) hC wm_560 wm_561 wm_69 wm_562 dX1_listenTo_56 (Nat.le_of_ble_eq_true rfl) (Nat.le_of_ble_eq_true rfl) (Nat.le_of_ble_eq_true rfl) (Nat.le_of_ble_eq_true rfl) (fun x24 hx24 => ?_)
          replace h := lt_x hx24 h
          refine x_mmax_long (pc := 59) hC wm_815 wm_816 wm_69 wm_817 dX1_listenTo_59 (Nat.le_of_ble_eq_true rfl) (Nat.le_of_ble_eq_true rfl) (Nat.le_of_ble_eq_true rfl) (Nat.le_of_ble_eq_true rfl) (fun x25 hx25 => ?_)
          replace h := lt_x hx25 h
          obtain ⟨g26, h⟩ := gd_some h
          refine x_putLv (pc := 62) (k := 3) hC fc_7 fl_RX1_41 dX1_listenTo_62 rfl rfl rfl g26 (fun S27 hS27 => ?_)
          replace h := zL_x hS27 h
          have g28 : gK S27 a0 = 7 := by rw [hS27]; exact g26
          refine x_iload (pc := 65) hC 1 dX1_listenTo_65 rfl ?_
          refine x_istore_n (pc := 67) hC dX1_listenTo_67 rfl (by decide) (by decide) rfl ?_
          obtain ⟨x29, hx29⟩ : ∃ z, z = (a4 + Int32.ofInt (1)) := ⟨_, rfl⟩
          replace h := lt_x hx29 h
          refine x_iinc (pc := 68) hC 6 dX1_listenTo_68 rfl hx29.symm (by decide) (by decide) rfl ?_
          refine x_goto (pc := 71) hC 18 dX1_listenTo_71 (by decide) ?_
          refine x_pick [4, 5, 6, 1, 0] rfl ?_
          exact ih _ _ _ _ _ _ h
        · exact xk_r (xt_out hC hE (bk_r h) (Nat.le_of_ble_eq_true rfl) (Nat.le_of_ble_eq_true rfl))
      · exact xk_r (xt_out hC hE (bk_r h) (Nat.le_of_ble_eq_true rfl) (Nat.le_of_ble_eq_true rfl))
def f_X1_listenTo (S : mS) (a0 : Nat) (a1 : Nat) (a2 : Int32) : Option (Rs Int32) :=
  gd (gK S a0 = 7) (lt9 (gR S a0 2) fun r2 => if r2 = 0 then (f_X1_listenTo_11  S) else (if a1 = 0 then (f_X1_listenTo_11  S) else (f_X1_listenTo_18  16 S a0 a1 a2 (0 : Int32) (0 : Int32))))
set_option maxHeartbeats 2000000 in
set_option maxRecDepth 100000 in
theorem t_X1_listenTo {l : Launch} (hls : l.stackTraces = false) {C : cT} (hC : CX C cX1_listenTo 8 yX1_listenTo rm_X1_listenTo) (hl : C.2.1 = l) {S0 : mS} (hE : CE C S0 (Option.some Jvm.ClassFile.FieldType.int) []) {o : Rs Int32} {S : mS} {a0 : Nat} {a1 : Nat} {a2 : Int32} (h : f_X1_listenTo S a0 a1 a2 = some o) : XX C 8 (QQ C (fun r : Int32 => some (.int r)) S0 o) 0 0 S 0 [(0, .ref a0), (1, .ref a1), (2, .int a2)] [] := by
  unfold f_X1_listenTo at h
  refine x_aload_n (pc := 0) hC 0 dX1_listenTo_0 rfl rfl ?_
  obtain ⟨g1, h⟩ := gd_some h
  refine x_getRv (pc := 1) (k := 2) hC fc_7 fl_RX1_29 dX1_listenTo_1 rfl g1 (fun r2 hr2 => ?_)
  replace h := lt_x hr2 h
  refine x_ifnull (pc := 4) hC 11 dX1_listenTo_4 (by decide) (fun c4 => ?_) (fun c4 => ?_)
  · rw [if_pos c4] at h
    refine x_pick [] rfl ?_
    exact t_X1_listenTo_11 hls hC hl hE h
  · rw [if_neg c4] at h
    refine x_aload_n (pc := 7) hC 1 dX1_listenTo_7 rfl rfl ?_
    refine x_ifnonnull (pc := 8) hC 13 dX1_listenTo_8 (by decide) (fun c3 => ?_) (fun c3 => ?_)
    · rw [if_neg c3] at h
      refine x_iconst (pc := 13) (v := (0 : Int32)) hC dX1_listenTo_13 (by decide) ?_
      refine x_istore_n (pc := 14) hC dX1_listenTo_14 rfl (by decide) (by decide) rfl ?_
      refine x_iconst (pc := 15) (v := (0 : Int32)) hC dX1_listenTo_15 (by decide) ?_
      refine x_istore (pc := 16) hC dX1_listenTo_16 (by decide) (by decide) rfl ?_
      refine x_pick [2, 3, 4, 1, 0] rfl ?_
      exact t_X1_listenTo_18 hls hC hl hE 16 _ _ _ _ _ _ h
    · rw [if_pos c3] at h
      refine x_pick [] rfl ?_
      exact t_X1_listenTo_11 hls hC hl hE h
theorem c_X1_listenTo (l : Launch) (hls : l.stackTraces = false) {S : mS} {a0 : Nat} {a1 : Nat} {a2 : Int32} {o : Rs Int32} (h : f_X1_listenTo S a0 a1 a2 = some o) : CT (fun r : Int32 => some (.int r)) l yX1_listenTo (.code yX1_listenTo cX1_listenTo 8 (Option.some Jvm.ClassFile.FieldType.int)) rm_X1_listenTo S [.ref a0, .ref a1, .int a2] o := ct_of (by decide +kernel) hls (Nat.le_of_ble_eq_true rfl) (fun C hl hC hE => t_X1_listenTo hls hC hl hE h)
abbrev rm_X2_init : Room := { frames := 8, cells := 0, slots := 0, locals := 150 }
def f_X2_init (S : mS) (a0 : Nat) (a1 : Int32) : Option (Rs Unit) :=
  gd (gK S a0 = 8) (zI (sI S a0 0 a1) fun S2 => some (.inl (), S2))
set_option maxHeartbeats 2000000 in
set_option maxRecDepth 100000 in
theorem t_X2_init {l : Launch} (hls : l.stackTraces = false) {C : cT} (hC : CX C cX2_init 2 yX2_init rm_X2_init) (hl : C.2.1 = l) {S0 : mS} (hE : CE C S0 (Option.none : Option Jvm.ClassFile.FieldType) []) {o : Rs Unit} {S : mS} {a0 : Nat} {a1 : Int32} (h : f_X2_init S a0 a1 = some o) : XX C 2 (QQ C (fun _ : Unit => none) S0 o) 0 0 S 0 [(0, .ref a0), (1, .int a1)] [] := by
  unfold f_X2_init at h
  refine x_aload_n (pc := 0) hC 0 dX2_init_0 rfl rfl ?_
  obtain ⟨g1, h⟩ := gd_some h
  refine x_objInit (pc := 1) hC wm_108 wm_94 wm_95 dX2_init_1 (by rw [g1]; decide) (Nat.le_of_ble_eq_true rfl) (Nat.le_of_ble_eq_true rfl) ?_
  refine x_aload_n (pc := 4) hC 0 dX2_init_4 rfl rfl ?_
  refine x_iload_n (pc := 5) hC 1 dX2_init_5 rfl rfl ?_
  refine x_putIFv (pc := 6) (k := 0) hC fc_8 wm_109 rfl dX2_init_6 rfl rfl rfl rfl (nf_int _) g1 (fun S2 hS2 => ?_)
  replace h := zI_x hS2 h
  have g3 : gK S2 a0 = 8 := by rw [hS2]; exact g1
  exact x_vreturn (pc := 9) hC hE dX2_init_9 (so h) (Nat.le_of_ble_eq_true rfl) (Nat.le_of_ble_eq_true rfl)
theorem c_X2_init (l : Launch) (hls : l.stackTraces = false) {S : mS} {a0 : Nat} {a1 : Int32} {o : Rs Unit} (h : f_X2_init S a0 a1 = some o) : CT (fun _ : Unit => none) l yX2_init (.code yX2_init cX2_init 2 (Option.none : Option Jvm.ClassFile.FieldType)) rm_X2_init S [.ref a0, .int a1] o := ct_of (by decide +kernel) hls (Nat.le_of_ble_eq_true rfl) (fun C hl hC hE => t_X2_init hls hC hl hE h)
abbrev rm_X2_fill : Room := { frames := 8, cells := 0, slots := 0, locals := 150 }
def f_X2_fill (S : mS) (a0 : Nat) (a1 : Int32) (a2 : Int32) (a3 : Int32) (a4 : Int32) (a5 : Int32) (a6 : Int32) (a7 : Int32) : Option (Rs Unit) :=
  gd (gK S a0 = 8) (zI (sI S a0 1 a1) fun S2 => zI (sI S2 a0 2 a2) fun S4 => zI (sI S4 a0 3 a3) fun S6 => zI (sI S6 a0 4 a4) fun S8 => zI (sI S8 a0 5 a5) fun S10 => zI (sI S10 a0 6 a6) fun S12 => zI (sI S12 a0 7 a7) fun S14 => some (.inl (), S14))
set_option maxHeartbeats 2000000 in
set_option maxRecDepth 100000 in
theorem t_X2_fill {l : Launch} (hls : l.stackTraces = false) {C : cT} (hC : CX C cX2_fill 8 yX2_fill rm_X2_fill) (hl : C.2.1 = l) {S0 : mS} (hE : CE C S0 (Option.none : Option Jvm.ClassFile.FieldType) []) {o : Rs Unit} {S : mS} {a0 : Nat} {a1 : Int32} {a2 : Int32} {a3 : Int32} {a4 : Int32} {a5 : Int32} {a6 : Int32} {a7 : Int32} (h : f_X2_fill S a0 a1 a2 a3 a4 a5 a6 a7 = some o) : XX C 8 (QQ C (fun _ : Unit => none) S0 o) 0 0 S 0 [(0, .ref a0), (1, .int a1), (2, .int a2), (3, .int a3), (4, .int a4), (5, .int a5), (6, .int a6), (7, .int a7)] [] := by
  unfold f_X2_fill at h
  refine x_aload_n (pc := 0) hC 0 dX2_fill_0 rfl rfl ?_
  refine x_iload_n (pc := 1) hC 1 dX2_fill_1 rfl rfl ?_
  obtain ⟨g1, h⟩ := gd_some h
  refine x_putIv (pc := 2) (k := 1) hC fc_8 fl_RX2_15 dX2_fill_2 rfl rfl (nf_int _) g1 (fun S2 hS2 => ?_)
  replace h := zI_x hS2 h
  have g3 : gK S2 a0 = 8 := by rw [hS2]; exact g1
  refine x_aload_n (pc := 5) hC 0 dX2_fill_5 rfl rfl ?_
  refine x_iload_n (pc := 6) hC 2 dX2_fill_6 rfl rfl ?_
  refine x_putIv (pc := 7) (k := 2) hC fc_8 fl_RX2_18 dX2_fill_7 rfl rfl (nf_int _) g3 (fun S4 hS4 => ?_)
  replace h := zI_x hS4 h
  have g5 : gK S4 a0 = 8 := by rw [hS4]; exact g3
  refine x_aload_n (pc := 10) hC 0 dX2_fill_10 rfl rfl ?_
  refine x_iload_n (pc := 11) hC 3 dX2_fill_11 rfl rfl ?_
  refine x_putIv (pc := 12) (k := 3) hC fc_8 fl_RX2_21 dX2_fill_12 rfl rfl (nf_int _) g5 (fun S6 hS6 => ?_)
  replace h := zI_x hS6 h
  have g7 : gK S6 a0 = 8 := by rw [hS6]; exact g5
  refine x_aload_n (pc := 15) hC 0 dX2_fill_15 rfl rfl ?_
  refine x_iload (pc := 16) hC 4 dX2_fill_16 rfl ?_
  refine x_putIv (pc := 18) (k := 4) hC fc_8 fl_RX2_24 dX2_fill_18 rfl rfl (nf_int _) g7 (fun S8 hS8 => ?_)
  replace h := zI_x hS8 h
  have g9 : gK S8 a0 = 8 := by rw [hS8]; exact g7
  refine x_aload_n (pc := 21) hC 0 dX2_fill_21 rfl rfl ?_
  refine x_iload (pc := 22) hC 5 dX2_fill_22 rfl ?_
  refine x_putIv (pc := 24) (k := 5) hC fc_8 fl_RX2_27 dX2_fill_24 rfl rfl (nf_int _) g9 (fun S10 hS10 => ?_)
  replace h := zI_x hS10 h
  have g11 : gK S10 a0 = 8 := by rw [hS10]; exact g9
  refine x_aload_n (pc := 27) hC 0 dX2_fill_27 rfl rfl ?_
  refine x_iload (pc := 28) hC 6 dX2_fill_28 rfl ?_
  refine x_putIv (pc := 30) (k := 6) hC fc_8 fl_RX2_30 dX2_fill_30 rfl rfl (nf_int _) g11 (fun S12 hS12 => ?_)
  replace h := zI_x hS12 h
  have g13 : gK S12 a0 = 8 := by rw [hS12]; exact g11
  refine x_aload_n (pc := 33) hC 0 dX2_fill_33 rfl rfl ?_
  refine x_iload (pc := 34) hC 7 dX2_fill_34 rfl ?_
  refine x_putIv (pc := 36) (k := 7) hC fc_8 fl_RX2_33 dX2_fill_36 rfl rfl (nf_int _) g13 (fun S14 hS14 => ?_)
  replace h := zI_x hS14 h
  have g15 : gK S14 a0 = 8 := by rw [hS14]; exact g13
  exact x_vreturn (pc := 39) hC hE dX2_fill_39 (so h) (Nat.le_of_ble_eq_true rfl) (Nat.le_of_ble_eq_true rfl)
theorem c_X2_fill (l : Launch) (hls : l.stackTraces = false) {S : mS} {a0 : Nat} {a1 : Int32} {a2 : Int32} {a3 : Int32} {a4 : Int32} {a5 : Int32} {a6 : Int32} {a7 : Int32} {o : Rs Unit} (h : f_X2_fill S a0 a1 a2 a3 a4 a5 a6 a7 = some o) : CT (fun _ : Unit => none) l yX2_fill (.code yX2_fill cX2_fill 8 (Option.none : Option Jvm.ClassFile.FieldType)) rm_X2_fill S [.ref a0, .int a1, .int a2, .int a3, .int a4, .int a5, .int a6, .int a7] o := ct_of (by decide +kernel) hls (Nat.le_of_ble_eq_true rfl) (fun C hl hC hE => t_X2_fill hls hC hl hE h)
abbrev rm_X2_keysApart : Room := { frames := 9, cells := 0, slots := 0, locals := 171 }
def f_X2_keysApart_40  (S : mS) (s0 : Int32) : Option (Rs Int32) :=
  some (.inl s0, S)
set_option maxHeartbeats 2000000 in
set_option maxRecDepth 100000 in
theorem t_X2_keysApart_40 {l : Launch} (hls : l.stackTraces = false) {C : cT} (hC : CX C cX2_keysApart 4 yX2_keysApart rm_X2_keysApart) (hl : C.2.1 = l) {S0 : mS} (hE : CE C S0 (Option.some Jvm.ClassFile.FieldType.int) []) {o : Rs Int32} {S : mS} {s0 : Int32} (h : f_X2_keysApart_40  S s0 = some o) : XX C 4 (QQ C (fun r : Int32 => some (.int r)) S0 o) (0) (0) S 40 [] [.int s0] := by
  unfold f_X2_keysApart_40 at h
  exact x_ireturn (pc := 40) hC hE dX2_keysApart_40 (so h) (Nat.le_of_ble_eq_true rfl) (Nat.le_of_ble_eq_true rfl)
def f_X2_keysApart (S : mS) (a0 : Int32) (a1 : Int32) : Option (Rs Int32) :=
  gd (¬ (12 : Int32) = 0) (lt9 (a0 - a0 / (12 : Int32) * (12 : Int32)) fun x1 => gd (¬ (12 : Int32) = 0) (lt9 (a1 - a1 / (12 : Int32) * (12 : Int32)) fun x3 => lt9 (x1 - x3) fun x5 => lt9 (if 0 ≤ x5 then x5 else 0 - x5) fun x6 => lt9 ((12 : Int32) - x6) fun x7 => lt9 (if x7 < x6 then x7 else x6) fun x8 => gd (¬ (12 : Int32) = 0) (lt9 (a0 / (12 : Int32)) fun x9 => gd (¬ (12 : Int32) = 0) (lt9 (a1 / (12 : Int32)) fun x11 => if x9 = x11 then (f_X2_keysApart_40  S x8) else (lt9 (x8 + (1 : Int32)) fun x13 => f_X2_keysApart_40  S x13)))))
set_option maxHeartbeats 2000000 in
set_option maxRecDepth 100000 in
theorem t_X2_keysApart {l : Launch} (hls : l.stackTraces = false) {C : cT} (hC : CX C cX2_keysApart 4 yX2_keysApart rm_X2_keysApart) (hl : C.2.1 = l) {S0 : mS} (hE : CE C S0 (Option.some Jvm.ClassFile.FieldType.int) []) {o : Rs Int32} {S : mS} {a0 : Int32} {a1 : Int32} (h : f_X2_keysApart S a0 a1 = some o) : XX C 4 (QQ C (fun r : Int32 => some (.int r)) S0 o) 0 0 S 0 [(0, .int a0), (1, .int a1)] [] := by
  unfold f_X2_keysApart at h
  refine x_iload_n (pc := 0) hC 0 dX2_keysApart_0 rfl rfl ?_
  refine x_bipush (pc := 1) (v := (12 : Int32)) hC dX2_keysApart_1 (by decide) ?_
  obtain ⟨g2, h⟩ := gd_some h
  refine x_iremv (pc := 3) hC dX2_keysApart_3 g2 (fun x1 hx1 => ?_)
  replace h := lt_x hx1 h
  refine x_iload_n (pc := 4) hC 1 dX2_keysApart_4 rfl rfl ?_
  refine x_bipush (pc := 5) (v := (12 : Int32)) hC dX2_keysApart_5 (by decide) ?_
  obtain ⟨g4, h⟩ := gd_some h
  refine x_iremv (pc := 7) hC dX2_keysApart_7 g4 (fun x3 hx3 => ?_)
  replace h := lt_x hx3 h
  refine x_isubv (pc := 8) hC dX2_keysApart_8 (fun x5 hx5 => ?_)
  replace h := lt_x hx5 h
  refine x_mabs (pc := 9) hC wm_639 wm_640 wm_69 wm_641 dX2_keysApart_9 (Nat.le_of_ble_eq_true rfl) (Nat.le_of_ble_eq_true rfl) (Nat.le_of_ble_eq_true rfl) (Nat.le_of_ble_eq_true rfl) (fun x6 hx6 => ?_)
  replace h := lt_x hx6 h
  refine x_istore_n (pc := 12) hC dX2_keysApart_12 rfl (by decide) (by decide) rfl ?_
  refine x_iload_n (pc := 13) hC 0 dX2_keysApart_13 rfl rfl ?_
  refine x_bipush (pc := 14) (v := (12 : Int32)) hC dX2_keysApart_14 (by decide) ?_
  refine x_iload_n (pc := 16) hC 0 dX2_keysApart_16 rfl rfl ?_
  refine x_isubv (pc := 17) hC dX2_keysApart_17 (fun x7 hx7 => ?_)
  replace h := lt_x hx7 h
  refine x_mmin (pc := 18) hC wm_642 wm_598 wm_69 wm_599 dX2_keysApart_18 (Nat.le_of_ble_eq_true rfl) (Nat.le_of_ble_eq_true rfl) (Nat.le_of_ble_eq_true rfl) (Nat.le_of_ble_eq_true rfl) (fun x8 hx8 => ?_)
  replace h := lt_x hx8 h
  refine x_istore_n (pc := 21) hC dX2_keysApart_21 rfl (by decide) (by decide) rfl ?_
  refine x_iload_n (pc := 22) hC 2 dX2_keysApart_22 rfl rfl ?_
  refine x_bipush (pc := 23) (v := (12 : Int32)) hC dX2_keysApart_23 (by decide) ?_
  obtain ⟨g10, h⟩ := gd_some h
  refine x_idivv (pc := 25) hC dX2_keysApart_25 g10 (fun x9 hx9 => ?_)
  replace h := lt_x hx9 h
  refine x_iload_n (pc := 26) hC 3 dX2_keysApart_26 rfl rfl ?_
  refine x_bipush (pc := 27) (v := (12 : Int32)) hC dX2_keysApart_27 (by decide) ?_
  obtain ⟨g12, h⟩ := gd_some h
  refine x_idivv (pc := 29) hC dX2_keysApart_29 g12 (fun x11 hx11 => ?_)
  replace h := lt_x hx11 h
  refine x_icmp_ne (pc := 30) hC 37 dX2_keysApart_30 (by decide) (fun c14 => ?_) (fun c14 => ?_)
  · rw [if_neg c14] at h
    refine x_iload_n (pc := 37) hC 0 dX2_keysApart_37 rfl rfl ?_
    refine x_iconst (pc := 38) (v := (1 : Int32)) hC dX2_keysApart_38 (by decide) ?_
    refine x_iaddv (pc := 39) hC dX2_keysApart_39 (fun x13 hx13 => ?_)
    replace h := lt_x hx13 h
    refine x_pick [] rfl ?_
    exact t_X2_keysApart_40 hls hC hl hE h
  · rw [if_pos c14] at h
    refine x_iload_n (pc := 33) hC 0 dX2_keysApart_33 rfl rfl ?_
    refine x_goto (pc := 34) hC 40 dX2_keysApart_34 (by decide) ?_
    refine x_pick [] rfl ?_
    exact t_X2_keysApart_40 hls hC hl hE h
theorem c_X2_keysApart (l : Launch) (hls : l.stackTraces = false) {S : mS} {a0 : Int32} {a1 : Int32} {o : Rs Int32} (h : f_X2_keysApart S a0 a1 = some o) : CT (fun r : Int32 => some (.int r)) l yX2_keysApart (.code yX2_keysApart cX2_keysApart 4 (Option.some Jvm.ClassFile.FieldType.int)) rm_X2_keysApart S [.int a0, .int a1] o := ct_of (by decide +kernel) hls (Nat.le_of_ble_eq_true rfl) (fun C hl hC hE => t_X2_keysApart hls hC hl hE h)
abbrev rm_X2_retune : Room := { frames := 8, cells := 0, slots := 0, locals := 150 }
def f_X2_retune (S : mS) (a0 : Nat) (a1 : Int32) : Option (Rs Int32) :=
  gd (gK S a0 = 8) (lt9 (gI S a0 1) fun x2 => zI (sI S a0 1 a1) fun S3 => some (.inl x2, S3))
set_option maxHeartbeats 2000000 in
set_option maxRecDepth 100000 in
theorem t_X2_retune {l : Launch} (hls : l.stackTraces = false) {C : cT} (hC : CX C cX2_retune 3 yX2_retune rm_X2_retune) (hl : C.2.1 = l) {S0 : mS} (hE : CE C S0 (Option.some Jvm.ClassFile.FieldType.int) []) {o : Rs Int32} {S : mS} {a0 : Nat} {a1 : Int32} (h : f_X2_retune S a0 a1 = some o) : XX C 3 (QQ C (fun r : Int32 => some (.int r)) S0 o) 0 0 S 0 [(0, .ref a0), (1, .int a1)] [] := by
  unfold f_X2_retune at h
  refine x_aload_n (pc := 0) hC 0 dX2_retune_0 rfl rfl ?_
  obtain ⟨g1, h⟩ := gd_some h
  refine x_getIv (pc := 1) (k := 1) hC fc_8 fl_RX2_15 dX2_retune_1 rfl g1 (fun x2 hx2 => ?_)
  replace h := lt_x hx2 h
  refine x_istore_n (pc := 4) hC dX2_retune_4 rfl (by decide) (by decide) rfl ?_
  refine x_aload_n (pc := 5) hC 1 dX2_retune_5 rfl rfl ?_
  refine x_iload_n (pc := 6) hC 2 dX2_retune_6 rfl rfl ?_
  refine x_putIv (pc := 7) (k := 1) hC fc_8 fl_RX2_15 dX2_retune_7 rfl rfl (nf_int _) g1 (fun S3 hS3 => ?_)
  replace h := zI_x hS3 h
  have g4 : gK S3 a0 = 8 := by rw [hS3]; exact g1
  refine x_iload_n (pc := 10) hC 0 dX2_retune_10 rfl rfl ?_
  exact x_ireturn (pc := 11) hC hE dX2_retune_11 (so h) (Nat.le_of_ble_eq_true rfl) (Nat.le_of_ble_eq_true rfl)
theorem c_X2_retune (l : Launch) (hls : l.stackTraces = false) {S : mS} {a0 : Nat} {a1 : Int32} {o : Rs Int32} (h : f_X2_retune S a0 a1 = some o) : CT (fun r : Int32 => some (.int r)) l yX2_retune (.code yX2_retune cX2_retune 3 (Option.some Jvm.ClassFile.FieldType.int)) rm_X2_retune S [.ref a0, .int a1] o := ct_of (by decide +kernel) hls (Nat.le_of_ble_eq_true rfl) (fun C hl hC hE => t_X2_retune hls hC hl hE h)
abbrev rm_X2_forbid : Room := { frames := 8, cells := 0, slots := 0, locals := 150 }
def f_X2_forbid (S : mS) (a0 : Nat) (a1 : Int32) : Option (Rs Int32) :=
  gd (gK S a0 = 8) (lt9 (gI S a0 8) fun x2 => gd (a1 = 0 ∨ a1 = 1) (zI (sI S a0 8 a1) fun S4 => gd (x2 = 0 ∨ x2 = 1) (some (.inl x2, S4))))
set_option maxHeartbeats 2000000 in
set_option maxRecDepth 100000 in
theorem t_X2_forbid {l : Launch} (hls : l.stackTraces = false) {C : cT} (hC : CX C cX2_forbid 3 yX2_forbid rm_X2_forbid) (hl : C.2.1 = l) {S0 : mS} (hE : CE C S0 (Option.some Jvm.ClassFile.FieldType.boolean) []) {o : Rs Int32} {S : mS} {a0 : Nat} {a1 : Int32} (h : f_X2_forbid S a0 a1 = some o) : XX C 3 (QQ C (fun r : Int32 => some (.int r)) S0 o) 0 0 S 0 [(0, .ref a0), (1, .int a1)] [] := by
  unfold f_X2_forbid at h
  refine x_aload_n (pc := 0) hC 0 dX2_forbid_0 rfl rfl ?_
  obtain ⟨g1, h⟩ := gd_some h
  refine x_getIv (pc := 1) (k := 8) hC fc_8 fl_RX2_46 dX2_forbid_1 rfl g1 (fun x2 hx2 => ?_)
  replace h := lt_x hx2 h
  refine x_istore_n (pc := 4) hC dX2_forbid_4 rfl (by decide) (by decide) rfl ?_
  refine x_aload_n (pc := 5) hC 1 dX2_forbid_5 rfl rfl ?_
  refine x_iload_n (pc := 6) hC 2 dX2_forbid_6 rfl rfl ?_
  obtain ⟨g3, h⟩ := gd_some h
  refine x_putIv (pc := 7) (k := 8) hC fc_8 fl_RX2_46 dX2_forbid_7 rfl rfl (nf_B g3) g1 (fun S4 hS4 => ?_)
  replace h := zI_x hS4 h
  have g5 : gK S4 a0 = 8 := by rw [hS4]; exact g1
  refine x_iload_n (pc := 10) hC 0 dX2_forbid_10 rfl rfl ?_
  obtain ⟨g6, h⟩ := gd_some h
  exact x_zreturn (pc := 11) hC hE dX2_forbid_11 (nf_B g6).1 (so h) (Nat.le_of_ble_eq_true rfl) (Nat.le_of_ble_eq_true rfl)
theorem c_X2_forbid (l : Launch) (hls : l.stackTraces = false) {S : mS} {a0 : Nat} {a1 : Int32} {o : Rs Int32} (h : f_X2_forbid S a0 a1 = some o) : CT (fun r : Int32 => some (.int r)) l yX2_forbid (.code yX2_forbid cX2_forbid 3 (Option.some Jvm.ClassFile.FieldType.boolean)) rm_X2_forbid S [.ref a0, .int a1] o := ct_of (by decide +kernel) hls (Nat.le_of_ble_eq_true rfl) (fun C hl hC hE => t_X2_forbid hls hC hl hE h)
abbrev rm_X2_wish : Room := { frames := 8, cells := 0, slots := 0, locals := 150 }
def f_X2_wish_12  (S : mS) (a0 : Nat) (s0 : Int32) : Option (Rs Int32) :=
  gd (gK S a0 = 8) (zI (sI S a0 9 (1 : Int32)) fun S2 => gd (s0 = 0 ∨ s0 = 1) (some (.inl s0, S2)))
set_option maxHeartbeats 2000000 in
set_option maxRecDepth 100000 in
theorem t_X2_wish_12 {l : Launch} (hls : l.stackTraces = false) {C : cT} (hC : CX C cX2_wish 2 yX2_wish rm_X2_wish) (hl : C.2.1 = l) {S0 : mS} (hE : CE C S0 (Option.some Jvm.ClassFile.FieldType.boolean) []) {o : Rs Int32} {S : mS} {a0 : Nat} {s0 : Int32} (h : f_X2_wish_12  S a0 s0 = some o) : XX C 2 (QQ C (fun r : Int32 => some (.int r)) S0 o) (0) (0) S 12 [(0, .ref a0)] [.int s0] := by
  unfold f_X2_wish_12 at h
  refine x_istore_n (pc := 12) hC dX2_wish_12 rfl (by decide) (by decide) rfl ?_
  refine x_aload_n (pc := 13) hC 1 dX2_wish_13 rfl rfl ?_
  refine x_iconst (pc := 14) (v := (1 : Int32)) hC dX2_wish_14 (by decide) ?_
  obtain ⟨g1, h⟩ := gd_some h
  refine x_putIv (pc := 15) (k := 9) hC fc_8 fl_RX2_50 dX2_wish_15 rfl rfl (show NF .boolean _ from ⟨rfl, rfl⟩) g1 (fun S2 hS2 => ?_)
  replace h := zI_x hS2 h
  have g3 : gK S2 a0 = 8 := by rw [hS2]; exact g1
  refine x_iload_n (pc := 18) hC 0 dX2_wish_18 rfl rfl ?_
  obtain ⟨g4, h⟩ := gd_some h
  exact x_zreturn (pc := 19) hC hE dX2_wish_19 (nf_B g4).1 (so h) (Nat.le_of_ble_eq_true rfl) (Nat.le_of_ble_eq_true rfl)
def f_X2_wish (S : mS) (a0 : Nat) : Option (Rs Int32) :=
  gd (gK S a0 = 8) (lt9 (gI S a0 9) fun x2 => if x2 = 0 then (f_X2_wish_12  S a0 (1 : Int32)) else (f_X2_wish_12  S a0 (0 : Int32)))
set_option maxHeartbeats 2000000 in
set_option maxRecDepth 100000 in
theorem t_X2_wish {l : Launch} (hls : l.stackTraces = false) {C : cT} (hC : CX C cX2_wish 2 yX2_wish rm_X2_wish) (hl : C.2.1 = l) {S0 : mS} (hE : CE C S0 (Option.some Jvm.ClassFile.FieldType.boolean) []) {o : Rs Int32} {S : mS} {a0 : Nat} (h : f_X2_wish S a0 = some o) : XX C 2 (QQ C (fun r : Int32 => some (.int r)) S0 o) 0 0 S 0 [(0, .ref a0)] [] := by
  unfold f_X2_wish at h
  refine x_aload_n (pc := 0) hC 0 dX2_wish_0 rfl rfl ?_
  obtain ⟨g1, h⟩ := gd_some h
  refine x_getIv (pc := 1) (k := 9) hC fc_8 fl_RX2_50 dX2_wish_1 rfl g1 (fun x2 hx2 => ?_)
  replace h := lt_x hx2 h
  refine x_if_ne (pc := 4) hC 11 dX2_wish_4 (by decide) (fun c3 => ?_) (fun c3 => ?_)
  · rw [if_neg c3] at h
    refine x_iconst (pc := 11) (v := (0 : Int32)) hC dX2_wish_11 (by decide) ?_
    refine x_pick [0] rfl ?_
    exact t_X2_wish_12 hls hC hl hE h
  · rw [if_pos c3] at h
    refine x_iconst (pc := 7) (v := (1 : Int32)) hC dX2_wish_7 (by decide) ?_
    refine x_goto (pc := 8) hC 12 dX2_wish_8 (by decide) ?_
    refine x_pick [0] rfl ?_
    exact t_X2_wish_12 hls hC hl hE h
theorem c_X2_wish (l : Launch) (hls : l.stackTraces = false) {S : mS} {a0 : Nat} {o : Rs Int32} (h : f_X2_wish S a0 = some o) : CT (fun r : Int32 => some (.int r)) l yX2_wish (.code yX2_wish cX2_wish 2 (Option.some Jvm.ClassFile.FieldType.boolean)) rm_X2_wish S [.ref a0] o := ct_of (by decide +kernel) hls (Nat.le_of_ble_eq_true rfl) (fun C hl hC hE => t_X2_wish hls hC hl hE h)
abbrev rm_X2_hasBitAt : Room := { frames := 8, cells := 0, slots := 0, locals := 150 }
def f_X2_hasBitAt_40  (S : mS) (s0 : Int32) : Option (Rs Int32) :=
  gd (s0 = 0 ∨ s0 = 1) (some (.inl s0, S))
set_option maxHeartbeats 2000000 in
set_option maxRecDepth 100000 in
theorem t_X2_hasBitAt_40 {l : Launch} (hls : l.stackTraces = false) {C : cT} (hC : CX C cX2_hasBitAt 5 yX2_hasBitAt rm_X2_hasBitAt) (hl : C.2.1 = l) {S0 : mS} (hE : CE C S0 (Option.some Jvm.ClassFile.FieldType.boolean) []) {o : Rs Int32} {S : mS} {s0 : Int32} (h : f_X2_hasBitAt_40  S s0 = some o) : XX C 5 (QQ C (fun r : Int32 => some (.int r)) S0 o) (0) (0) S 40 [] [.int s0] := by
  unfold f_X2_hasBitAt_40 at h
  obtain ⟨g1, h⟩ := gd_some h
  exact x_zreturn (pc := 40) hC hE dX2_hasBitAt_40 (nf_B g1).1 (so h) (Nat.le_of_ble_eq_true rfl) (Nat.le_of_ble_eq_true rfl)
def f_X2_hasBitAt (S : mS) (a0 : Nat) (a1 : Int32) (a2 : Int64) : Option (Rs Int32) :=
  gd (gK S a0 = 8) (lt9 (gI S a0 5) fun x2 => if 0 < x2 then (gd (¬ (60000000 : Int64) = 0) (lt9 (a2 / (60000000 : Int64)) fun x3 => lt9 ((x3).toInt32) fun x5 => lt9 (gI S a0 5) fun x6 => gd (¬ x6 = 0) (lt9 (x5 / x6) fun x7 => gd (¬ (16 : Int32) = 0) (lt9 (x7 - x7 / (16 : Int32) * (16 : Int32)) fun x9 => lt9 (a1 >>> (x9 &&& 31)) fun x11 => lt9 (x11 &&& (1 : Int32)) fun x12 => if x12 = (1 : Int32) then (f_X2_hasBitAt_40  S (1 : Int32)) else (f_X2_hasBitAt_40  S (0 : Int32)))))) else (some (.inl (0 : Int32), S)))
set_option maxHeartbeats 2000000 in
set_option maxRecDepth 100000 in
theorem t_X2_hasBitAt {l : Launch} (hls : l.stackTraces = false) {C : cT} (hC : CX C cX2_hasBitAt 5 yX2_hasBitAt rm_X2_hasBitAt) (hl : C.2.1 = l) {S0 : mS} (hE : CE C S0 (Option.some Jvm.ClassFile.FieldType.boolean) []) {o : Rs Int32} {S : mS} {a0 : Nat} {a1 : Int32} {a2 : Int64} (h : f_X2_hasBitAt S a0 a1 a2 = some o) : XX C 5 (QQ C (fun r : Int32 => some (.int r)) S0 o) 0 0 S 0 [(0, .ref a0), (1, .int a1), (2, .long a2)] [] := by
  unfold f_X2_hasBitAt at h
  refine x_aload_n (pc := 0) hC 0 dX2_hasBitAt_0 rfl rfl ?_
  obtain ⟨g1, h⟩ := gd_some h
  refine x_getIv (pc := 1) (k := 5) hC fc_8 fl_RX2_27 dX2_hasBitAt_1 rfl g1 (fun x2 hx2 => ?_)
  replace h := lt_x hx2 h
  refine x_if_gt (pc := 4) hC 9 dX2_hasBitAt_4 (by decide) (fun c14 => ?_) (fun c14 => ?_)
  · rw [if_pos c14] at h
    refine x_lload_n (pc := 9) hC 2 dX2_hasBitAt_9 rfl rfl ?_
    refine x_ldc2 (pc := 10) hC wm_554 dX2_hasBitAt_10 ?_
    obtain ⟨g4, h⟩ := gd_some h
    refine x_ldivv (pc := 13) hC dX2_hasBitAt_13 g4 (fun x3 hx3 => ?_)
    replace h := lt_x hx3 h
    refine x_l2iv (pc := 14) hC dX2_hasBitAt_14 (fun x5 hx5 => ?_)
    replace h := lt_x hx5 h
    refine x_aload_n (pc := 15) hC 0 dX2_hasBitAt_15 rfl rfl ?_
    refine x_getIv (pc := 16) (k := 5) hC fc_8 fl_RX2_27 dX2_hasBitAt_16 rfl g1 (fun x6 hx6 => ?_)
    replace h := lt_x hx6 h
    obtain ⟨g8, h⟩ := gd_some h
    refine x_idivv (pc := 19) hC dX2_hasBitAt_19 g8 (fun x7 hx7 => ?_)
    replace h := lt_x hx7 h
    refine x_istore (pc := 20) hC dX2_hasBitAt_20 (by decide) (by decide) rfl ?_
    refine x_iload_n (pc := 22) hC 2 dX2_hasBitAt_22 rfl rfl ?_
    refine x_iload (pc := 23) hC 0 dX2_hasBitAt_23 rfl ?_
    refine x_bipush (pc := 25) (v := (16 : Int32)) hC dX2_hasBitAt_25 (by decide) ?_
    obtain ⟨g10, h⟩ := gd_some h
    refine x_iremv (pc := 27) hC dX2_hasBitAt_27 g10 (fun x9 hx9 => ?_)
    replace h := lt_x hx9 h
    refine x_ishrv (pc := 28) hC dX2_hasBitAt_28 (fun x11 hx11 => ?_)
    replace h := lt_x hx11 h
    refine x_iconst (pc := 29) (v := (1 : Int32)) hC dX2_hasBitAt_29 (by decide) ?_
    refine x_iandv (pc := 30) hC dX2_hasBitAt_30 (fun x12 hx12 => ?_)
    replace h := lt_x hx12 h
    refine x_iconst (pc := 31) (v := (1 : Int32)) hC dX2_hasBitAt_31 (by decide) ?_
    refine x_icmp_ne (pc := 32) hC 39 dX2_hasBitAt_32 (by decide) (fun c13 => ?_) (fun c13 => ?_)
    · rw [if_neg c13] at h
      refine x_iconst (pc := 39) (v := (0 : Int32)) hC dX2_hasBitAt_39 (by decide) ?_
      refine x_pick [] rfl ?_
      exact t_X2_hasBitAt_40 hls hC hl hE h
    · rw [if_pos c13] at h
      refine x_iconst (pc := 35) (v := (1 : Int32)) hC dX2_hasBitAt_35 (by decide) ?_
      refine x_goto (pc := 36) hC 40 dX2_hasBitAt_36 (by decide) ?_
      refine x_pick [] rfl ?_
      exact t_X2_hasBitAt_40 hls hC hl hE h
  · rw [if_neg c14] at h
    refine x_iconst (pc := 7) (v := (0 : Int32)) hC dX2_hasBitAt_7 (by decide) ?_
    exact x_zreturn (pc := 8) hC hE dX2_hasBitAt_8 (show NF .boolean _ from ⟨rfl, rfl⟩).1 (so h) (Nat.le_of_ble_eq_true rfl) (Nat.le_of_ble_eq_true rfl)
theorem c_X2_hasBitAt (l : Launch) (hls : l.stackTraces = false) {S : mS} {a0 : Nat} {a1 : Int32} {a2 : Int64} {o : Rs Int32} (h : f_X2_hasBitAt S a0 a1 a2 = some o) : CT (fun r : Int32 => some (.int r)) l yX2_hasBitAt (.code yX2_hasBitAt cX2_hasBitAt 5 (Option.some Jvm.ClassFile.FieldType.boolean)) rm_X2_hasBitAt S [.ref a0, .int a1, .long a2] o := ct_of (by decide +kernel) hls (Nat.le_of_ble_eq_true rfl) (fun C hl hC hE => t_X2_hasBitAt hls hC hl hE h)
abbrev rm_X2_hasVoiceAt : Room := { frames := 9, cells := 0, slots := 0, locals := 174 }
def f_X2_hasVoiceAt (S : mS) (a0 : Nat) (a1 : Int64) : Option (Rs Int32) :=
  gd (gK S a0 = 8) (lt9 (gI S a0 6) fun x2 => bd (f_X2_hasBitAt S a0 x2 a1) fun x3 S4 => gd (x3 = 0 ∨ x3 = 1) (some (.inl x3, S4)))
set_option maxHeartbeats 2000000 in
set_option maxRecDepth 100000 in
theorem t_X2_hasVoiceAt {l : Launch} (hls : l.stackTraces = false) {C : cT} (hC : CX C cX2_hasVoiceAt 3 yX2_hasVoiceAt rm_X2_hasVoiceAt) (hl : C.2.1 = l) {S0 : mS} (hE : CE C S0 (Option.some Jvm.ClassFile.FieldType.boolean) []) {o : Rs Int32} {S : mS} {a0 : Nat} {a1 : Int64} (h : f_X2_hasVoiceAt S a0 a1 = some o) : XX C 3 (QQ C (fun r : Int32 => some (.int r)) S0 o) 0 0 S 0 [(0, .ref a0), (1, .long a1)] [] := by
  unfold f_X2_hasVoiceAt at h
  refine x_aload_n (pc := 0) hC 0 dX2_hasVoiceAt_0 rfl rfl ?_
  refine x_aload_n (pc := 1) hC 0 dX2_hasVoiceAt_1 rfl rfl ?_
  obtain ⟨g1, h⟩ := gd_some h
  refine x_getIv (pc := 2) (k := 6) hC fc_8 fl_RX2_30 dX2_hasVoiceAt_2 rfl g1 (fun x2 hx2 => ?_)
  replace h := lt_x hx2 h
  refine x_lload_n (pc := 5) hC 1 dX2_hasVoiceAt_5 rfl rfl ?_
  obtain ⟨o5, ho5, h⟩ := bd_some h
  refine x_callV (pc := 6) (As := [.int x2, .long a1]) (rest := []) hC hl (c_X2_hasBitAt l hls ho5) lk_RX2_55 fc_8 g1 dX2_hasVoiceAt_6 rfl rfl (Nat.le_of_ble_eq_true rfl) ⟨Nat.le_of_ble_eq_true rfl, Nat.le_of_ble_eq_true rfl⟩ ⟨(Nat.le_of_ble_eq_true rfl), (Nat.le_of_ble_eq_true rfl)⟩ ?_
  rcases o5 with ⟨x3 | E6, S4⟩
  · refine xk_i ?_
    replace h := bk_l h
    obtain ⟨g7, h⟩ := gd_some h
    exact x_zreturn (pc := 9) hC hE dX2_hasVoiceAt_9 (nf_B g7).1 (so h) (Nat.le_of_ble_eq_true rfl) (Nat.le_of_ble_eq_true rfl)
  · exact xk_r (xt_out hC hE (bk_r h) (Nat.le_of_ble_eq_true rfl) (Nat.le_of_ble_eq_true rfl))
theorem c_X2_hasVoiceAt (l : Launch) (hls : l.stackTraces = false) {S : mS} {a0 : Nat} {a1 : Int64} {o : Rs Int32} (h : f_X2_hasVoiceAt S a0 a1 = some o) : CT (fun r : Int32 => some (.int r)) l yX2_hasVoiceAt (.code yX2_hasVoiceAt cX2_hasVoiceAt 3 (Option.some Jvm.ClassFile.FieldType.boolean)) rm_X2_hasVoiceAt S [.ref a0, .long a1] o := ct_of (by decide +kernel) hls (Nat.le_of_ble_eq_true rfl) (fun C hl hC hE => t_X2_hasVoiceAt hls hC hl hE h)
abbrev rm_X2_hasBassAt : Room := { frames := 9, cells := 0, slots := 0, locals := 174 }
def f_X2_hasBassAt_17  (S : mS) (s0 : Int32) : Option (Rs Int32) :=
  gd (s0 = 0 ∨ s0 = 1) (some (.inl s0, S))
set_option maxHeartbeats 2000000 in
set_option maxRecDepth 100000 in
theorem t_X2_hasBassAt_17 {l : Launch} (hls : l.stackTraces = false) {C : cT} (hC : CX C cX2_hasBassAt 3 yX2_hasBassAt rm_X2_hasBassAt) (hl : C.2.1 = l) {S0 : mS} (hE : CE C S0 (Option.some Jvm.ClassFile.FieldType.boolean) []) {o : Rs Int32} {S : mS} {s0 : Int32} (h : f_X2_hasBassAt_17  S s0 = some o) : XX C 3 (QQ C (fun r : Int32 => some (.int r)) S0 o) (0) (0) S 17 [] [.int s0] := by
  unfold f_X2_hasBassAt_17 at h
  obtain ⟨g1, h⟩ := gd_some h
  exact x_zreturn (pc := 17) hC hE dX2_hasBassAt_17 (nf_B g1).1 (so h) (Nat.le_of_ble_eq_true rfl) (Nat.le_of_ble_eq_true rfl)
def f_X2_hasBassAt (S : mS) (a0 : Nat) (a1 : Int64) : Option (Rs Int32) :=
  gd (gK S a0 = 8) (lt9 (gI S a0 7) fun x2 => bd (f_X2_hasBitAt S a0 x2 a1) fun x3 S4 => if x3 = 0 then (f_X2_hasBassAt_17  S4 (1 : Int32)) else (f_X2_hasBassAt_17  S4 (0 : Int32)))
set_option maxHeartbeats 2000000 in
set_option maxRecDepth 100000 in
theorem t_X2_hasBassAt {l : Launch} (hls : l.stackTraces = false) {C : cT} (hC : CX C cX2_hasBassAt 3 yX2_hasBassAt rm_X2_hasBassAt) (hl : C.2.1 = l) {S0 : mS} (hE : CE C S0 (Option.some Jvm.ClassFile.FieldType.boolean) []) {o : Rs Int32} {S : mS} {a0 : Nat} {a1 : Int64} (h : f_X2_hasBassAt S a0 a1 = some o) : XX C 3 (QQ C (fun r : Int32 => some (.int r)) S0 o) 0 0 S 0 [(0, .ref a0), (1, .long a1)] [] := by
  unfold f_X2_hasBassAt at h
  refine x_aload_n (pc := 0) hC 0 dX2_hasBassAt_0 rfl rfl ?_
  refine x_aload_n (pc := 1) hC 0 dX2_hasBassAt_1 rfl rfl ?_
  obtain ⟨g1, h⟩ := gd_some h
  refine x_getIv (pc := 2) (k := 7) hC fc_8 fl_RX2_33 dX2_hasBassAt_2 rfl g1 (fun x2 hx2 => ?_)
  replace h := lt_x hx2 h
  refine x_lload_n (pc := 5) hC 1 dX2_hasBassAt_5 rfl rfl ?_
  obtain ⟨o5, ho5, h⟩ := bd_some h
  refine x_callV (pc := 6) (As := [.int x2, .long a1]) (rest := []) hC hl (c_X2_hasBitAt l hls ho5) lk_RX2_55 fc_8 g1 dX2_hasBassAt_6 rfl rfl (Nat.le_of_ble_eq_true rfl) ⟨Nat.le_of_ble_eq_true rfl, Nat.le_of_ble_eq_true rfl⟩ ⟨(Nat.le_of_ble_eq_true rfl), (Nat.le_of_ble_eq_true rfl)⟩ ?_
  rcases o5 with ⟨x3 | E6, S4⟩
  · refine xk_i ?_
    replace h := bk_l h
    refine x_if_ne (pc := 9) hC 16 dX2_hasBassAt_9 (by decide) (fun c7 => ?_) (fun c7 => ?_)
    · rw [if_neg c7] at h
      refine x_iconst (pc := 16) (v := (0 : Int32)) hC dX2_hasBassAt_16 (by decide) ?_
      refine x_pick [] rfl ?_
      exact t_X2_hasBassAt_17 hls hC hl hE h
    · rw [if_pos c7] at h
      refine x_iconst (pc := 12) (v := (1 : Int32)) hC dX2_hasBassAt_12 (by decide) ?_
      refine x_goto (pc := 13) hC 17 dX2_hasBassAt_13 (by decide) ?_
      refine x_pick [] rfl ?_
      exact t_X2_hasBassAt_17 hls hC hl hE h
  · exact xk_r (xt_out hC hE (bk_r h) (Nat.le_of_ble_eq_true rfl) (Nat.le_of_ble_eq_true rfl))
theorem c_X2_hasBassAt (l : Launch) (hls : l.stackTraces = false) {S : mS} {a0 : Nat} {a1 : Int64} {o : Rs Int32} (h : f_X2_hasBassAt S a0 a1 = some o) : CT (fun r : Int32 => some (.int r)) l yX2_hasBassAt (.code yX2_hasBassAt cX2_hasBassAt 3 (Option.some Jvm.ClassFile.FieldType.boolean)) rm_X2_hasBassAt S [.ref a0, .long a1] o := ct_of (by decide +kernel) hls (Nat.le_of_ble_eq_true rfl) (fun C hl hC hE => t_X2_hasBassAt hls hC hl hE h)
abbrev rm_X2_wholeSeconds : Room := { frames := 8, cells := 0, slots := 0, locals := 150 }
def f_X2_wholeSeconds (S : mS) (a0 : Nat) : Option (Rs Int32) :=
  gd (gK S a0 = 8) (lt9 (gI S a0 10) fun x2 => gd (¬ (100 : Int32) = 0) (lt9 (x2 / (100 : Int32)) fun x3 => some (.inl x3, S)))
set_option maxHeartbeats 2000000 in
set_option maxRecDepth 100000 in
theorem t_X2_wholeSeconds {l : Launch} (hls : l.stackTraces = false) {C : cT} (hC : CX C cX2_wholeSeconds 1 yX2_wholeSeconds rm_X2_wholeSeconds) (hl : C.2.1 = l) {S0 : mS} (hE : CE C S0 (Option.some Jvm.ClassFile.FieldType.int) []) {o : Rs Int32} {S : mS} {a0 : Nat} (h : f_X2_wholeSeconds S a0 = some o) : XX C 1 (QQ C (fun r : Int32 => some (.int r)) S0 o) 0 0 S 0 [(0, .ref a0)] [] := by
  unfold f_X2_wholeSeconds at h
  refine x_aload_n (pc := 0) hC 0 dX2_wholeSeconds_0 rfl rfl ?_
  obtain ⟨g1, h⟩ := gd_some h
  refine x_getIv (pc := 1) (k := 10) hC fc_8 fl_RX2_59 dX2_wholeSeconds_1 rfl g1 (fun x2 hx2 => ?_)
  replace h := lt_x hx2 h
  refine x_bipush (pc := 4) (v := (100 : Int32)) hC dX2_wholeSeconds_4 (by decide) ?_
  obtain ⟨g4, h⟩ := gd_some h
  refine x_idivv (pc := 6) hC dX2_wholeSeconds_6 g4 (fun x3 hx3 => ?_)
  replace h := lt_x hx3 h
  exact x_ireturn (pc := 7) hC hE dX2_wholeSeconds_7 (so h) (Nat.le_of_ble_eq_true rfl) (Nat.le_of_ble_eq_true rfl)
theorem c_X2_wholeSeconds (l : Launch) (hls : l.stackTraces = false) {S : mS} {a0 : Nat} {o : Rs Int32} (h : f_X2_wholeSeconds S a0 = some o) : CT (fun r : Int32 => some (.int r)) l yX2_wholeSeconds (.code yX2_wholeSeconds cX2_wholeSeconds 1 (Option.some Jvm.ClassFile.FieldType.int)) rm_X2_wholeSeconds S [.ref a0] o := ct_of (by decide +kernel) hls (Nat.le_of_ble_eq_true rfl) (fun C hl hC hE => t_X2_wholeSeconds hls hC hl hE h)
abbrev rm_X2_stepCost : Room := { frames := 10, cells := 0, slots := 0, locals := 194 }
def f_X2_stepCost_66  (S : mS) (s0 : Int32) (s1 : Int32) : Option (Rs Int32) :=
  lt9 (s0 - s1) fun x1 => some (.inl x1, S)
set_option maxHeartbeats 2000000 in
set_option maxRecDepth 100000 in
theorem t_X2_stepCost_66 {l : Launch} (hls : l.stackTraces = false) {C : cT} (hC : CX C cX2_stepCost 5 yX2_stepCost rm_X2_stepCost) (hl : C.2.1 = l) {S0 : mS} (hE : CE C S0 (Option.some Jvm.ClassFile.FieldType.int) []) {o : Rs Int32} {S : mS} {s0 : Int32} {s1 : Int32} (h : f_X2_stepCost_66  S s0 s1 = some o) : XX C 5 (QQ C (fun r : Int32 => some (.int r)) S0 o) (0) (0) S 66 [] [.int s1, .int s0] := by
  unfold f_X2_stepCost_66 at h
  refine x_isubv (pc := 66) hC dX2_stepCost_66 (fun x1 hx1 => ?_)
  replace h := lt_x hx1 h
  exact x_ireturn (pc := 67) hC hE dX2_stepCost_67 (so h) (Nat.le_of_ble_eq_true rfl) (Nat.le_of_ble_eq_true rfl)
def f_X2_stepCost (S : mS) (a0 : Nat) (a1 : Nat) : Option (Rs Int32) :=
  gd (gK S a0 = 8) (lt9 (gI S a0 3) fun x2 => gd (gK S a1 = 8) (lt9 (gI S a1 3) fun x4 => bd (f_X2_keysApart S x2 x4) fun x5 S6 => gd (gK S6 a0 = 8) (lt9 (gI S6 a0 4) fun x10 => gd (gK S6 a1 = 8) (lt9 (gI S6 a1 4) fun x12 => lt9 (x10 - x12) fun x13 => lt9 (if 0 ≤ x13 then x13 else 0 - x13) fun x14 => lt9 (gI S6 a0 1) fun x15 => lt9 (gI S6 a1 1) fun x16 => lt9 (x15 - x16) fun x17 => lt9 (if 0 ≤ x17 then x17 else 0 - x17) fun x18 => gd (¬ (10 : Int32) = 0) (lt9 (x18 / (10 : Int32)) fun x19 => lt9 ((10 : Int32) * x5) fun x21 => lt9 ((4 : Int32) * x14) fun x22 => lt9 (x21 + x22) fun x23 => lt9 (x23 + x19) fun x24 => lt9 (gI S6 a1 9) fun x25 => if x25 = 0 then (f_X2_stepCost_66  S6 x24 (0 : Int32)) else (f_X2_stepCost_66  S6 x24 (15 : Int32)))))))
set_option maxHeartbeats 2000000 in
set_option maxRecDepth 100000 in
theorem t_X2_stepCost {l : Launch} (hls : l.stackTraces = false) {C : cT} (hC : CX C cX2_stepCost 5 yX2_stepCost rm_X2_stepCost) (hl : C.2.1 = l) {S0 : mS} (hE : CE C S0 (Option.some Jvm.ClassFile.FieldType.int) []) {o : Rs Int32} {S : mS} {a0 : Nat} {a1 : Nat} (h : f_X2_stepCost S a0 a1 = some o) : XX C 5 (QQ C (fun r : Int32 => some (.int r)) S0 o) 0 0 S 0 [(0, .ref a0), (1, .ref a1)] [] := by
  unfold f_X2_stepCost at h
  refine x_aload_n (pc := 0) hC 0 dX2_stepCost_0 rfl rfl ?_
  obtain ⟨g1, h⟩ := gd_some h
  refine x_getIv (pc := 1) (k := 3) hC fc_8 fl_RX2_21 dX2_stepCost_1 rfl g1 (fun x2 hx2 => ?_)
  replace h := lt_x hx2 h
  refine x_aload_n (pc := 4) hC 1 dX2_stepCost_4 rfl rfl ?_
  obtain ⟨g3, h⟩ := gd_some h
  refine x_getIv (pc := 5) (k := 3) hC fc_8 fl_RX2_21 dX2_stepCost_5 rfl g3 (fun x4 hx4 => ?_)
  replace h := lt_x hx4 h
  obtain ⟨o7, ho7, h⟩ := bd_some h
  refine x_callS (pc := 8) (As := [.int x2, .int x4]) (rest := []) hC hl (c_X2_keysApart l hls ho7) lk_RX2_62 dX2_stepCost_8 rfl rfl (Nat.le_of_ble_eq_true rfl) ⟨Nat.le_of_ble_eq_true rfl, Nat.le_of_ble_eq_true rfl⟩ ⟨(Nat.le_of_ble_eq_true rfl), (Nat.le_of_ble_eq_true rfl)⟩ ?_
  rcases o7 with ⟨x5 | E8, S6⟩
  · refine xk_i ?_
    replace h := bk_l h
    refine x_istore_n (pc := 11) hC dX2_stepCost_11 rfl (by decide) (by decide) rfl ?_
    refine x_aload_n (pc := 12) hC 1 dX2_stepCost_12 rfl rfl ?_
    obtain ⟨g9, h⟩ := gd_some h
    refine x_getIv (pc := 13) (k := 4) hC fc_8 fl_RX2_24 dX2_stepCost_13 rfl g9 (fun x10 hx10 => ?_)
    replace h := lt_x hx10 h
    refine x_aload_n (pc := 16) hC 2 dX2_stepCost_16 rfl rfl ?_
    obtain ⟨g11, h⟩ := gd_some h
    refine x_getIv (pc := 17) (k := 4) hC fc_8 fl_RX2_24 dX2_stepCost_17 rfl g11 (fun x12 hx12 => ?_)
    replace h := lt_x hx12 h
    refine x_isubv (pc := 20) hC dX2_stepCost_20 (fun x13 hx13 => ?_)
    replace h := lt_x hx13 h
    refine x_mabs (pc := 21) hC wm_639 wm_640 wm_69 wm_641 dX2_stepCost_21 (Nat.le_of_ble_eq_true rfl) (Nat.le_of_ble_eq_true rfl) (Nat.le_of_ble_eq_true rfl) (Nat.le_of_ble_eq_true rfl) (fun x14 hx14 => ?_)
    replace h := lt_x hx14 h
    refine x_istore_n (pc := 24) hC dX2_stepCost_24 rfl (by decide) (by decide) rfl ?_
    refine x_aload_n (pc := 25) hC 2 dX2_stepCost_25 rfl rfl ?_
    refine x_getIv (pc := 26) (k := 1) hC fc_8 fl_RX2_15 dX2_stepCost_26 rfl g9 (fun x15 hx15 => ?_)
    replace h := lt_x hx15 h
    refine x_aload_n (pc := 29) hC 3 dX2_stepCost_29 rfl rfl ?_
    refine x_getIv (pc := 30) (k := 1) hC fc_8 fl_RX2_15 dX2_stepCost_30 rfl g11 (fun x16 hx16 => ?_)
    replace h := lt_x hx16 h
    refine x_isubv (pc := 33) hC dX2_stepCost_33 (fun x17 hx17 => ?_)
    replace h := lt_x hx17 h
    refine x_mabs (pc := 34) hC wm_639 wm_640 wm_69 wm_641 dX2_stepCost_34 (Nat.le_of_ble_eq_true rfl) (Nat.le_of_ble_eq_true rfl) (Nat.le_of_ble_eq_true rfl) (Nat.le_of_ble_eq_true rfl) (fun x18 hx18 => ?_)
    replace h := lt_x hx18 h
    refine x_bipush (pc := 37) (v := (10 : Int32)) hC dX2_stepCost_37 (by decide) ?_
    obtain ⟨g20, h⟩ := gd_some h
    refine x_idivv (pc := 39) hC dX2_stepCost_39 g20 (fun x19 hx19 => ?_)
    replace h := lt_x hx19 h
    refine x_istore (pc := 40) hC dX2_stepCost_40 (by decide) (by decide) rfl ?_
    refine x_bipush (pc := 42) (v := (10 : Int32)) hC dX2_stepCost_42 (by decide) ?_
    refine x_iload_n (pc := 44) hC 2 dX2_stepCost_44 rfl rfl ?_
    refine x_imulv (pc := 45) hC dX2_stepCost_45 (fun x21 hx21 => ?_)
    replace h := lt_x hx21 h
    refine x_iconst (pc := 46) (v := (4 : Int32)) hC dX2_stepCost_46 (by decide) ?_
    refine x_iload_n (pc := 47) hC 1 dX2_stepCost_47 rfl rfl ?_
    refine x_imulv (pc := 48) hC dX2_stepCost_48 (fun x22 hx22 => ?_)
    replace h := lt_x hx22 h
    refine x_iaddv (pc := 49) hC dX2_stepCost_49 (fun x23 hx23 => ?_)
    replace h := lt_x hx23 h
    refine x_iload (pc := 50) hC 0 dX2_stepCost_50 rfl ?_
    refine x_iaddv (pc := 52) hC dX2_stepCost_52 (fun x24 hx24 => ?_)
    replace h := lt_x hx24 h
    refine x_aload_n (pc := 53) hC 4 dX2_stepCost_53 rfl rfl ?_
    refine x_getIv (pc := 54) (k := 9) hC fc_8 fl_RX2_50 dX2_stepCost_54 rfl g11 (fun x25 hx25 => ?_)
    replace h := lt_x hx25 h
    refine x_if_eq (pc := 57) hC 65 dX2_stepCost_57 (by decide) (fun c26 => ?_) (fun c26 => ?_)
    · rw [if_pos c26] at h
      refine x_iconst (pc := 65) (v := (0 : Int32)) hC dX2_stepCost_65 (by decide) ?_
      refine x_pick [] rfl ?_
      exact t_X2_stepCost_66 hls hC hl hE h
    · rw [if_neg c26] at h
      refine x_bipush (pc := 60) (v := (15 : Int32)) hC dX2_stepCost_60 (by decide) ?_
      refine x_goto (pc := 62) hC 66 dX2_stepCost_62 (by decide) ?_
      refine x_pick [] rfl ?_
      exact t_X2_stepCost_66 hls hC hl hE h
  · exact xk_r (xt_out hC hE (bk_r h) (Nat.le_of_ble_eq_true rfl) (Nat.le_of_ble_eq_true rfl))
theorem c_X2_stepCost (l : Launch) (hls : l.stackTraces = false) {S : mS} {a0 : Nat} {a1 : Nat} {o : Rs Int32} (h : f_X2_stepCost S a0 a1 = some o) : CT (fun r : Int32 => some (.int r)) l yX2_stepCost (.code yX2_stepCost cX2_stepCost 5 (Option.some Jvm.ClassFile.FieldType.int)) rm_X2_stepCost S [.ref a0, .ref a1] o := ct_of (by decide +kernel) hls (Nat.le_of_ble_eq_true rfl) (fun C hl hC hE => t_X2_stepCost hls hC hl hE h)
abbrev rm_X4_init : Room := { frames := 8, cells := 2, slots := 12, locals := 150 }
def f_X4_init_22  : Nat → mS → Nat → Int32 → Option (Rs Unit)
  | 0, _, _, _ => none
  | k + 1, S, a0, a1 => gd (gK S a0 = 10) (lt9 (gR S a0 0) fun r2 => gd (gK S r2 = 30) (lt9 (Int32.ofNat (gZ S r2)) fun x4 => if x4 ≤ a1 then (some (.inl (), S)) else (lt9 (gR S a0 0) fun r5 => gd (gK S r5 = 30) (gd (¬ (a1 < 0 ∨ gZ S r5 ≤ (a1).toNatClampNeg)) (zI (sI S r5 (a1).toNatClampNeg (20 : Int32)) fun S8 => lt9 (a1 + Int32.ofInt (1)) fun x12 => f_X4_init_22 k S8 a0 x12)))))
set_option maxHeartbeats 2000000 in
set_option maxRecDepth 100000 in
theorem t_X4_init_22 {l : Launch} (hls : l.stackTraces = false) {C : cT} (hC : CX C cX4_init 2 yX4_init rm_X4_init) (hl : C.2.1 = l) {S0 : mS} (hE : CE C S0 (Option.none : Option Jvm.ClassFile.FieldType) []) {o : Rs Unit} : ∀ (k : Nat) (S : mS) (a0 : Nat) (a1 : Int32), f_X4_init_22  k S a0 a1 = some o → XX C 2 (QQ C (fun _ : Unit => none) S0 o) (2) (12) S 22 [(0, .ref a0), (1, .int a1)] [] := by
  intro k
  induction k with
  | zero => intro S a0 a1 h; cases h
  | succ k ih =>
    intro S a0 a1 h
    unfold f_X4_init_22 at h
    refine x_iload_n (pc := 22) hC 1 dX4_init_22 rfl rfl ?_
    refine x_aload_n (pc := 23) hC 0 dX4_init_23 rfl rfl ?_
    obtain ⟨g1, h⟩ := gd_some h
    refine x_getRv (pc := 24) (k := 0) hC fc_10 fl_RX4_9 dX4_init_24 rfl g1 (fun r2 hr2 => ?_)
    replace h := lt_x hr2 h
    obtain ⟨g3, h⟩ := gd_some h
    refine x_alenv (pc := 27) (t0 := 0) hC dX4_init_27 g3 (by decide) (fun _ => rfl) (fun x4 hx4 => ?_)
    replace h := lt_x hx4 h
    refine x_icmp_ge (pc := 28) hC 45 dX4_init_28 (by decide) (fun c13 => ?_) (fun c13 => ?_)
    · rw [if_pos c13] at h
      exact x_vreturn (pc := 45) hC hE dX4_init_45 (so h) (Nat.le_of_ble_eq_true rfl) (Nat.le_of_ble_eq_true rfl)
    · rw [if_neg c13] at h
      refine x_aload_n (pc := 31) hC 0 dX4_init_31 rfl rfl ?_
      refine x_getRv (pc := 32) (k := 0) hC fc_10 fl_RX4_9 dX4_init_32 rfl g1 (fun r5 hr5 => ?_)
      replace h := lt_x hr5 h
      refine x_iload_n (pc := 35) hC 1 dX4_init_35 rfl rfl ?_
      refine x_bipush (pc := 36) (v := (20 : Int32)) hC dX4_init_36 (by decide) ?_
      obtain ⟨g7, h⟩ := gd_some h
      obtain ⟨g6, h⟩ := gd_some h
      refine x_iastv (pc := 38) hC dX4_init_38 g7 g6 (fun S8 hS8 => ?_)
      replace h := zI_x hS8 h
      have g9 : gK S8 a0 = 10 := by rw [hS8]; exact g1
      have g10 : gK S8 r2 = 30 := by rw [hS8]; exact g3
      have g11 : gK S8 r5 = 30 := by rw [hS8]; exact g7
      obtain ⟨x12, hx12⟩ : ∃ z, z = (a1 + Int32.ofInt (1)) := ⟨_, rfl⟩
      replace h := lt_x hx12 h
      refine x_iinc (pc := 39) hC 1 dX4_init_39 rfl hx12.symm (by decide) (by decide) rfl ?_
      refine x_goto (pc := 42) hC 22 dX4_init_42 (by decide) ?_
      refine x_pick [1, 0] rfl ?_
      exact ih _ _ _ h
def f_X4_init (S : mS) (a0 : Nat) : Option (Rs Unit) :=
  gd (gK S a0 = 10) (gd (gN S + 1 < KB) (zW (sW S 30 6) fun S3 => lt9 (gN S + 1) fun r4 => gd (gK S3 a0 = 10) (zR (sR S3 a0 0 r4) fun S7 => gd (gN S7 + 1 < KB) (zW (sW S7 30 6) fun S11 => lt9 (gN S7 + 1) fun r12 => gd (gK S11 a0 = 10) (zR (sR S11 a0 1 r12) fun S15 => f_X4_init_22  16 S15 a0 (0 : Int32))))))
set_option maxHeartbeats 2000000 in
set_option maxRecDepth 100000 in
theorem t_X4_init {l : Launch} (hls : l.stackTraces = false) {C : cT} (hC : CX C cX4_init 2 yX4_init rm_X4_init) (hl : C.2.1 = l) {S0 : mS} (hE : CE C S0 (Option.none : Option Jvm.ClassFile.FieldType) []) {o : Rs Unit} {S : mS} {a0 : Nat} (h : f_X4_init S a0 = some o) : XX C 2 (QQ C (fun _ : Unit => none) S0 o) 0 0 S 0 [(0, .ref a0)] [] := by
  unfold f_X4_init at h
  refine x_aload_n (pc := 0) hC 0 dX4_init_0 rfl rfl ?_
  obtain ⟨g1, h⟩ := gd_some h
  refine x_objInit (pc := 1) hC wm_260 wm_94 wm_95 dX4_init_1 (by rw [g1]; decide) (Nat.le_of_ble_eq_true rfl) (Nat.le_of_ble_eq_true rfl) ?_
  refine x_aload_n (pc := 4) hC 0 dX4_init_4 rfl rfl ?_
  refine x_bipush (pc := 5) (v := (6 : Int32)) hC dX4_init_5 (by decide) ?_
  obtain ⟨g2, h⟩ := gd_some h
  refine x_newaIv (pc := 7) (z := 6) hC wm_186 dX4_init_7 (by decide) (by decide) (Nat.le_of_ble_eq_true rfl) g2 (Nat.le_of_ble_eq_true rfl) (Nat.le_of_ble_eq_true rfl) (fun S3 r4 hS3 hr4 => ?_)
  replace h := zW_x hS3 h
  replace h := lt_x hr4 h
  have g5 : gK S3 r4 = 30 := by rw [hr4, hS3]; exact sW_K
  obtain ⟨g6, h⟩ := gd_some h
  refine x_putRFv (pc := 9) (k := 0) hC fc_10 wm_261 rfl dX4_init_9 rfl rfl rfl rfl (Or.inr ⟨_, rfl⟩) g6 (fun S7 hS7 => ?_)
  replace h := zR_x hS7 h
  have g8 : gK S7 r4 = 30 := by rw [hS7]; exact g5
  have g9 : gK S7 a0 = 10 := by rw [hS7]; exact g6
  refine x_aload_n (pc := 12) hC 0 dX4_init_12 rfl rfl ?_
  refine x_bipush (pc := 13) (v := (6 : Int32)) hC dX4_init_13 (by decide) ?_
  obtain ⟨g10, h⟩ := gd_some h
  refine x_newaIv (pc := 15) (z := 6) hC wm_186 dX4_init_15 (by decide) (by decide) (Nat.le_of_ble_eq_true rfl) g10 (Nat.le_of_ble_eq_true rfl) (Nat.le_of_ble_eq_true rfl) (fun S11 r12 hS11 hr12 => ?_)
  replace h := zW_x hS11 h
  replace h := lt_x hr12 h
  have g13 : gK S11 r12 = 30 := by rw [hr12, hS11]; exact sW_K
  obtain ⟨g14, h⟩ := gd_some h
  refine x_putRFv (pc := 17) (k := 1) hC fc_10 wm_262 rfl dX4_init_17 rfl rfl rfl rfl (Or.inr ⟨_, rfl⟩) g14 (fun S15 hS15 => ?_)
  replace h := zR_x hS15 h
  have g16 : gK S15 r12 = 30 := by rw [hS15]; exact g13
  have g17 : gK S15 a0 = 10 := by rw [hS15]; exact g14
  refine x_iconst (pc := 20) (v := (0 : Int32)) hC dX4_init_20 (by decide) ?_
  refine x_istore_n (pc := 21) hC dX4_init_21 rfl (by decide) (by decide) rfl ?_
  refine x_pick [1, 0] rfl ?_
  exact t_X4_init_22 hls hC hl hE 16 _ _ _ h
theorem c_X4_init (l : Launch) (hls : l.stackTraces = false) {S : mS} {a0 : Nat} {o : Rs Unit} (h : f_X4_init S a0 = some o) : CT (fun _ : Unit => none) l yX4_init (.code yX4_init cX4_init 2 (Option.none : Option Jvm.ClassFile.FieldType)) rm_X4_init S [.ref a0] o := ct_of (by decide +kernel) hls (Nat.le_of_ble_eq_true rfl) (fun C hl hC hE => t_X4_init hls hC hl hE h)
abbrev rm_X4_sizeOf : Room := { frames := 8, cells := 0, slots := 0, locals := 150 }
def f_X4_sizeOf_23  (S : mS) (s0 : Int32) : Option (Rs Int32) :=
  some (.inl s0, S)
set_option maxHeartbeats 2000000 in
set_option maxRecDepth 100000 in
theorem t_X4_sizeOf_23 {l : Launch} (hls : l.stackTraces = false) {C : cT} (hC : CX C cX4_sizeOf 2 yX4_sizeOf rm_X4_sizeOf) (hl : C.2.1 = l) {S0 : mS} (hE : CE C S0 (Option.some Jvm.ClassFile.FieldType.int) []) {o : Rs Int32} {S : mS} {s0 : Int32} (h : f_X4_sizeOf_23  S s0 = some o) : XX C 2 (QQ C (fun r : Int32 => some (.int r)) S0 o) (0) (0) S 23 [] [.int s0] := by
  unfold f_X4_sizeOf_23 at h
  exact x_ireturn (pc := 23) hC hE dX4_sizeOf_23 (so h) (Nat.le_of_ble_eq_true rfl) (Nat.le_of_ble_eq_true rfl)
def f_X4_sizeOf_22  (S : mS) : Option (Rs Int32) :=
  f_X4_sizeOf_23  S (0 : Int32)
set_option maxHeartbeats 2000000 in
set_option maxRecDepth 100000 in
theorem t_X4_sizeOf_22 {l : Launch} (hls : l.stackTraces = false) {C : cT} (hC : CX C cX4_sizeOf 2 yX4_sizeOf rm_X4_sizeOf) (hl : C.2.1 = l) {S0 : mS} (hE : CE C S0 (Option.some Jvm.ClassFile.FieldType.int) []) {o : Rs Int32} {S : mS} (h : f_X4_sizeOf_22  S = some o) : XX C 2 (QQ C (fun r : Int32 => some (.int r)) S0 o) (0) (0) S 22 [] [] := by
  unfold f_X4_sizeOf_22 at h
  refine x_iconst (pc := 22) (v := (0 : Int32)) hC dX4_sizeOf_22 (by decide) ?_
  refine x_pick [] rfl ?_
  exact t_X4_sizeOf_23 hls hC hl hE h
def f_X4_sizeOf (S : mS) (a0 : Nat) (a1 : Int32) : Option (Rs Int32) :=
  if a1 < 0 then (f_X4_sizeOf_22  S) else (gd (gK S a0 = 10) (lt9 (gR S a0 0) fun r2 => gd (gK S r2 = 30) (lt9 (Int32.ofNat (gZ S r2)) fun x4 => if x4 ≤ a1 then (f_X4_sizeOf_22  S) else (lt9 (gR S a0 0) fun r5 => gd (gK S r5 = 30) (gd (¬ (a1 < 0 ∨ gZ S r5 ≤ (a1).toNatClampNeg)) (lt9 (gI S r5 (a1).toNatClampNeg) fun x9 => f_X4_sizeOf_23  S x9))))))
set_option maxHeartbeats 2000000 in
set_option maxRecDepth 100000 in
theorem t_X4_sizeOf {l : Launch} (hls : l.stackTraces = false) {C : cT} (hC : CX C cX4_sizeOf 2 yX4_sizeOf rm_X4_sizeOf) (hl : C.2.1 = l) {S0 : mS} (hE : CE C S0 (Option.some Jvm.ClassFile.FieldType.int) []) {o : Rs Int32} {S : mS} {a0 : Nat} {a1 : Int32} (h : f_X4_sizeOf S a0 a1 = some o) : XX C 2 (QQ C (fun r : Int32 => some (.int r)) S0 o) 0 0 S 0 [(0, .ref a0), (1, .int a1)] [] := by
  unfold f_X4_sizeOf at h
  refine x_iload_n (pc := 0) hC 1 dX4_sizeOf_0 rfl rfl ?_
  refine x_if_lt (pc := 1) hC 22 dX4_sizeOf_1 (by decide) (fun c11 => ?_) (fun c11 => ?_)
  · rw [if_pos c11] at h
    refine x_pick [] rfl ?_
    exact t_X4_sizeOf_22 hls hC hl hE h
  · rw [if_neg c11] at h
    refine x_iload_n (pc := 4) hC 1 dX4_sizeOf_4 rfl rfl ?_
    refine x_aload_n (pc := 5) hC 0 dX4_sizeOf_5 rfl rfl ?_
    obtain ⟨g1, h⟩ := gd_some h
    refine x_getRv (pc := 6) (k := 0) hC fc_10 fl_RX4_9 dX4_sizeOf_6 rfl g1 (fun r2 hr2 => ?_)
    replace h := lt_x hr2 h
    obtain ⟨g3, h⟩ := gd_some h
    refine x_alenv (pc := 9) (t0 := 0) hC dX4_sizeOf_9 g3 (by decide) (fun _ => rfl) (fun x4 hx4 => ?_)
    replace h := lt_x hx4 h
    refine x_icmp_ge (pc := 10) hC 22 dX4_sizeOf_10 (by decide) (fun c10 => ?_) (fun c10 => ?_)
    · rw [if_pos c10] at h
      refine x_pick [] rfl ?_
      exact t_X4_sizeOf_22 hls hC hl hE h
    · rw [if_neg c10] at h
      refine x_aload_n (pc := 13) hC 0 dX4_sizeOf_13 rfl rfl ?_
      refine x_getRv (pc := 14) (k := 0) hC fc_10 fl_RX4_9 dX4_sizeOf_14 rfl g1 (fun r5 hr5 => ?_)
      replace h := lt_x hr5 h
      refine x_iload_n (pc := 17) hC 1 dX4_sizeOf_17 rfl rfl ?_
      obtain ⟨g8, h⟩ := gd_some h
      obtain ⟨g7, h⟩ := gd_some h
      refine x_ialdv (pc := 18) hC dX4_sizeOf_18 g8 g7 (fun x9 hx9 => ?_)
      replace h := lt_x hx9 h
      refine x_goto (pc := 19) hC 23 dX4_sizeOf_19 (by decide) ?_
      refine x_pick [] rfl ?_
      exact t_X4_sizeOf_23 hls hC hl hE h
theorem c_X4_sizeOf (l : Launch) (hls : l.stackTraces = false) {S : mS} {a0 : Nat} {a1 : Int32} {o : Rs Int32} (h : f_X4_sizeOf S a0 a1 = some o) : CT (fun r : Int32 => some (.int r)) l yX4_sizeOf (.code yX4_sizeOf cX4_sizeOf 2 (Option.some Jvm.ClassFile.FieldType.int)) rm_X4_sizeOf S [.ref a0, .int a1] o := ct_of (by decide +kernel) hls (Nat.le_of_ble_eq_true rfl) (fun C hl hC hE => t_X4_sizeOf hls hC hl hE h)
abbrev rm_X4_wearOf : Room := { frames := 8, cells := 0, slots := 0, locals := 150 }
def f_X4_wearOf_23  (S : mS) (s0 : Int32) : Option (Rs Int32) :=
  some (.inl s0, S)
set_option maxHeartbeats 2000000 in
set_option maxRecDepth 100000 in
theorem t_X4_wearOf_23 {l : Launch} (hls : l.stackTraces = false) {C : cT} (hC : CX C cX4_wearOf 2 yX4_wearOf rm_X4_wearOf) (hl : C.2.1 = l) {S0 : mS} (hE : CE C S0 (Option.some Jvm.ClassFile.FieldType.int) []) {o : Rs Int32} {S : mS} {s0 : Int32} (h : f_X4_wearOf_23  S s0 = some o) : XX C 2 (QQ C (fun r : Int32 => some (.int r)) S0 o) (0) (0) S 23 [] [.int s0] := by
  unfold f_X4_wearOf_23 at h
  exact x_ireturn (pc := 23) hC hE dX4_wearOf_23 (so h) (Nat.le_of_ble_eq_true rfl) (Nat.le_of_ble_eq_true rfl)
def f_X4_wearOf_22  (S : mS) : Option (Rs Int32) :=
  f_X4_wearOf_23  S (0 : Int32)
set_option maxHeartbeats 2000000 in
set_option maxRecDepth 100000 in
theorem t_X4_wearOf_22 {l : Launch} (hls : l.stackTraces = false) {C : cT} (hC : CX C cX4_wearOf 2 yX4_wearOf rm_X4_wearOf) (hl : C.2.1 = l) {S0 : mS} (hE : CE C S0 (Option.some Jvm.ClassFile.FieldType.int) []) {o : Rs Int32} {S : mS} (h : f_X4_wearOf_22  S = some o) : XX C 2 (QQ C (fun r : Int32 => some (.int r)) S0 o) (0) (0) S 22 [] [] := by
  unfold f_X4_wearOf_22 at h
  refine x_iconst (pc := 22) (v := (0 : Int32)) hC dX4_wearOf_22 (by decide) ?_
  refine x_pick [] rfl ?_
  exact t_X4_wearOf_23 hls hC hl hE h
def f_X4_wearOf (S : mS) (a0 : Nat) (a1 : Int32) : Option (Rs Int32) :=
  if a1 < 0 then (f_X4_wearOf_22  S) else (gd (gK S a0 = 10) (lt9 (gR S a0 1) fun r2 => gd (gK S r2 = 30) (lt9 (Int32.ofNat (gZ S r2)) fun x4 => if x4 ≤ a1 then (f_X4_wearOf_22  S) else (lt9 (gR S a0 1) fun r5 => gd (gK S r5 = 30) (gd (¬ (a1 < 0 ∨ gZ S r5 ≤ (a1).toNatClampNeg)) (lt9 (gI S r5 (a1).toNatClampNeg) fun x9 => f_X4_wearOf_23  S x9))))))
set_option maxHeartbeats 2000000 in
set_option maxRecDepth 100000 in
theorem t_X4_wearOf {l : Launch} (hls : l.stackTraces = false) {C : cT} (hC : CX C cX4_wearOf 2 yX4_wearOf rm_X4_wearOf) (hl : C.2.1 = l) {S0 : mS} (hE : CE C S0 (Option.some Jvm.ClassFile.FieldType.int) []) {o : Rs Int32} {S : mS} {a0 : Nat} {a1 : Int32} (h : f_X4_wearOf S a0 a1 = some o) : XX C 2 (QQ C (fun r : Int32 => some (.int r)) S0 o) 0 0 S 0 [(0, .ref a0), (1, .int a1)] [] := by
  unfold f_X4_wearOf at h
  refine x_iload_n (pc := 0) hC 1 dX4_wearOf_0 rfl rfl ?_
  refine x_if_lt (pc := 1) hC 22 dX4_wearOf_1 (by decide) (fun c11 => ?_) (fun c11 => ?_)
  · rw [if_pos c11] at h
    refine x_pick [] rfl ?_
    exact t_X4_wearOf_22 hls hC hl hE h
  · rw [if_neg c11] at h
    refine x_iload_n (pc := 4) hC 1 dX4_wearOf_4 rfl rfl ?_
    refine x_aload_n (pc := 5) hC 0 dX4_wearOf_5 rfl rfl ?_
    obtain ⟨g1, h⟩ := gd_some h
    refine x_getRv (pc := 6) (k := 1) hC fc_10 fl_RX4_13 dX4_wearOf_6 rfl g1 (fun r2 hr2 => ?_)
    replace h := lt_x hr2 h
    obtain ⟨g3, h⟩ := gd_some h
    refine x_alenv (pc := 9) (t0 := 0) hC dX4_wearOf_9 g3 (by decide) (fun _ => rfl) (fun x4 hx4 => ?_)
    replace h := lt_x hx4 h
    refine x_icmp_ge (pc := 10) hC 22 dX4_wearOf_10 (by decide) (fun c10 => ?_) (fun c10 => ?_)
    · rw [if_pos c10] at h
      refine x_pick [] rfl ?_
      exact t_X4_wearOf_22 hls hC hl hE h
    · rw [if_neg c10] at h
      refine x_aload_n (pc := 13) hC 0 dX4_wearOf_13 rfl rfl ?_
      refine x_getRv (pc := 14) (k := 1) hC fc_10 fl_RX4_13 dX4_wearOf_14 rfl g1 (fun r5 hr5 => ?_)
      replace h := lt_x hr5 h
      refine x_iload_n (pc := 17) hC 1 dX4_wearOf_17 rfl rfl ?_
      obtain ⟨g8, h⟩ := gd_some h
      obtain ⟨g7, h⟩ := gd_some h
      refine x_ialdv (pc := 18) hC dX4_wearOf_18 g8 g7 (fun x9 hx9 => ?_)
      replace h := lt_x hx9 h
      refine x_goto (pc := 19) hC 23 dX4_wearOf_19 (by decide) ?_
      refine x_pick [] rfl ?_
      exact t_X4_wearOf_23 hls hC hl hE h
theorem c_X4_wearOf (l : Launch) (hls : l.stackTraces = false) {S : mS} {a0 : Nat} {a1 : Int32} {o : Rs Int32} (h : f_X4_wearOf S a0 a1 = some o) : CT (fun r : Int32 => some (.int r)) l yX4_wearOf (.code yX4_wearOf cX4_wearOf 2 (Option.some Jvm.ClassFile.FieldType.int)) rm_X4_wearOf S [.ref a0, .int a1] o := ct_of (by decide +kernel) hls (Nat.le_of_ble_eq_true rfl) (fun C hl hC hE => t_X4_wearOf hls hC hl hE h)
abbrev rm_X4_everybody : Room := { frames := 8, cells := 0, slots := 0, locals := 150 }
def f_X4_everybody_4  : Nat → mS → Nat → Int32 → Int32 → Option (Rs Int32)
  | 0, _, _, _, _ => none
  | k + 1, S, a0, a1, a2 => gd (gK S a0 = 10) (lt9 (gR S a0 0) fun r2 => gd (gK S r2 = 30) (lt9 (Int32.ofNat (gZ S r2)) fun x4 => if x4 ≤ a2 then (some (.inl a1, S)) else (lt9 (gR S a0 0) fun r5 => gd (gK S r5 = 30) (gd (¬ (a2 < 0 ∨ gZ S r5 ≤ (a2).toNatClampNeg)) (lt9 (gI S r5 (a2).toNatClampNeg) fun x9 => lt9 (a1 + x9) fun x10 => lt9 (a2 + Int32.ofInt (1)) fun x11 => f_X4_everybody_4 k S a0 x10 x11)))))
set_option maxHeartbeats 2000000 in
set_option maxRecDepth 100000 in
theorem t_X4_everybody_4 {l : Launch} (hls : l.stackTraces = false) {C : cT} (hC : CX C cX4_everybody 3 yX4_everybody rm_X4_everybody) (hl : C.2.1 = l) {S0 : mS} (hE : CE C S0 (Option.some Jvm.ClassFile.FieldType.int) []) {o : Rs Int32} : ∀ (k : Nat) (S : mS) (a0 : Nat) (a1 : Int32) (a2 : Int32), f_X4_everybody_4  k S a0 a1 a2 = some o → XX C 3 (QQ C (fun r : Int32 => some (.int r)) S0 o) (0) (0) S 4 [(0, .ref a0), (1, .int a1), (2, .int a2)] [] := by
  intro k
  induction k with
  | zero => intro S a0 a1 a2 h; cases h
  | succ k ih =>
    intro S a0 a1 a2 h
    unfold f_X4_everybody_4 at h
    refine x_iload_n (pc := 4) hC 2 dX4_everybody_4 rfl rfl ?_
    refine x_aload_n (pc := 5) hC 0 dX4_everybody_5 rfl rfl ?_
    obtain ⟨g1, h⟩ := gd_some h
    refine x_getRv (pc := 6) (k := 0) hC fc_10 fl_RX4_9 dX4_everybody_6 rfl g1 (fun r2 hr2 => ?_)
    replace h := lt_x hr2 h
    obtain ⟨g3, h⟩ := gd_some h
    refine x_alenv (pc := 9) (t0 := 0) hC dX4_everybody_9 g3 (by decide) (fun _ => rfl) (fun x4 hx4 => ?_)
    replace h := lt_x hx4 h
    refine x_icmp_ge (pc := 10) hC 28 dX4_everybody_10 (by decide) (fun c12 => ?_) (fun c12 => ?_)
    · rw [if_pos c12] at h
      refine x_iload_n (pc := 28) hC 1 dX4_everybody_28 rfl rfl ?_
      exact x_ireturn (pc := 29) hC hE dX4_everybody_29 (so h) (Nat.le_of_ble_eq_true rfl) (Nat.le_of_ble_eq_true rfl)
    · rw [if_neg c12] at h
      refine x_iload_n (pc := 13) hC 1 dX4_everybody_13 rfl rfl ?_
      refine x_aload_n (pc := 14) hC 0 dX4_everybody_14 rfl rfl ?_
      refine x_getRv (pc := 15) (k := 0) hC fc_10 fl_RX4_9 dX4_everybody_15 rfl g1 (fun r5 hr5 => ?_)
      replace h := lt_x hr5 h
      refine x_iload_n (pc := 18) hC 2 dX4_everybody_18 rfl rfl ?_
      obtain ⟨g8, h⟩ := gd_some h
      obtain ⟨g7, h⟩ := gd_some h
      refine x_ialdv (pc := 19) hC dX4_everybody_19 g8 g7 (fun x9 hx9 => ?_)
      replace h := lt_x hx9 h
      refine x_iaddv (pc := 20) hC dX4_everybody_20 (fun x10 hx10 => ?_)
      replace h := lt_x hx10 h
      refine x_istore_n (pc := 21) hC dX4_everybody_21 rfl (by decide) (by decide) rfl ?_
      obtain ⟨x11, hx11⟩ : ∃ z, z = (a2 + Int32.ofInt (1)) := ⟨_, rfl⟩
      replace h := lt_x hx11 h
      refine x_iinc (pc := 22) hC 2 dX4_everybody_22 rfl hx11.symm (by decide) (by decide) rfl ?_
      refine x_goto (pc := 25) hC 4 dX4_everybody_25 (by decide) ?_
      refine x_pick [2, 1, 0] rfl ?_
      exact ih _ _ _ _ h
def f_X4_everybody (S : mS) (a0 : Nat) : Option (Rs Int32) :=
  f_X4_everybody_4  16 S a0 (0 : Int32) (0 : Int32)
set_option maxHeartbeats 2000000 in
set_option maxRecDepth 100000 in
theorem t_X4_everybody {l : Launch} (hls : l.stackTraces = false) {C : cT} (hC : CX C cX4_everybody 3 yX4_everybody rm_X4_everybody) (hl : C.2.1 = l) {S0 : mS} (hE : CE C S0 (Option.some Jvm.ClassFile.FieldType.int) []) {o : Rs Int32} {S : mS} {a0 : Nat} (h : f_X4_everybody S a0 = some o) : XX C 3 (QQ C (fun r : Int32 => some (.int r)) S0 o) 0 0 S 0 [(0, .ref a0)] [] := by
  unfold f_X4_everybody at h
  refine x_iconst (pc := 0) (v := (0 : Int32)) hC dX4_everybody_0 (by decide) ?_
  refine x_istore_n (pc := 1) hC dX4_everybody_1 rfl (by decide) (by decide) rfl ?_
  refine x_iconst (pc := 2) (v := (0 : Int32)) hC dX4_everybody_2 (by decide) ?_
  refine x_istore_n (pc := 3) hC dX4_everybody_3 rfl (by decide) (by decide) rfl ?_
  refine x_pick [2, 1, 0] rfl ?_
  exact t_X4_everybody_4 hls hC hl hE 16 _ _ _ _ h
theorem c_X4_everybody (l : Launch) (hls : l.stackTraces = false) {S : mS} {a0 : Nat} {o : Rs Int32} (h : f_X4_everybody S a0 = some o) : CT (fun r : Int32 => some (.int r)) l yX4_everybody (.code yX4_everybody cX4_everybody 3 (Option.some Jvm.ClassFile.FieldType.int)) rm_X4_everybody S [.ref a0] o := ct_of (by decide +kernel) hls (Nat.le_of_ble_eq_true rfl) (fun C hl hC hE => t_X4_everybody hls hC hl hE h)
abbrev rm_X4_isInBounds : Room := { frames := 8, cells := 0, slots := 0, locals := 150 }
def f_X4_isInBounds_31  (S : mS) : Option (Rs Int32) :=
  some (.inl (0 : Int32), S)
set_option maxHeartbeats 2000000 in
set_option maxRecDepth 100000 in
theorem t_X4_isInBounds_31 {l : Launch} (hls : l.stackTraces = false) {C : cT} (hC : CX C cX4_isInBounds 2 yX4_isInBounds rm_X4_isInBounds) (hl : C.2.1 = l) {S0 : mS} (hE : CE C S0 (Option.some Jvm.ClassFile.FieldType.boolean) []) {o : Rs Int32} {S : mS} (h : f_X4_isInBounds_31  S = some o) : XX C 2 (QQ C (fun r : Int32 => some (.int r)) S0 o) (0) (0) S 31 [] [] := by
  unfold f_X4_isInBounds_31 at h
  refine x_iconst (pc := 31) (v := (0 : Int32)) hC dX4_isInBounds_31 (by decide) ?_
  exact x_zreturn (pc := 32) hC hE dX4_isInBounds_32 (show NF .boolean _ from ⟨rfl, rfl⟩).1 (so h) (Nat.le_of_ble_eq_true rfl) (Nat.le_of_ble_eq_true rfl)
def f_X4_isInBounds_2  : Nat → mS → Nat → Int32 → Option (Rs Int32)
  | 0, _, _, _ => none
  | k + 1, S, a0, a1 => gd (gK S a0 = 10) (lt9 (gR S a0 0) fun r2 => gd (gK S r2 = 30) (lt9 (Int32.ofNat (gZ S r2)) fun x4 => if x4 ≤ a1 then (some (.inl (1 : Int32), S)) else (lt9 (gR S a0 0) fun r5 => gd (gK S r5 = 30) (gd (¬ (a1 < 0 ∨ gZ S r5 ≤ (a1).toNatClampNeg)) (lt9 (gI S r5 (a1).toNatClampNeg) fun x9 => if x9 < 0 then (f_X4_isInBounds_31  S) else (lt9 (gR S a0 0) fun r10 => gd (gK S r10 = 30) (gd (¬ (a1 < 0 ∨ gZ S r10 ≤ (a1).toNatClampNeg)) (lt9 (gI S r10 (a1).toNatClampNeg) fun x14 => if x14 ≤ (40 : Int32) then (lt9 (a1 + Int32.ofInt (1)) fun x15 => f_X4_isInBounds_2 k S a0 x15) else (f_X4_isInBounds_31  S)))))))))
set_option maxHeartbeats 2000000 in
set_option maxRecDepth 100000 in
theorem t_X4_isInBounds_2 {l : Launch} (hls : l.stackTraces = false) {C : cT} (hC : CX C cX4_isInBounds 2 yX4_isInBounds rm_X4_isInBounds) (hl : C.2.1 = l) {S0 : mS} (hE : CE C S0 (Option.some Jvm.ClassFile.FieldType.boolean) []) {o : Rs Int32} : ∀ (k : Nat) (S : mS) (a0 : Nat) (a1 : Int32), f_X4_isInBounds_2  k S a0 a1 = some o → XX C 2 (QQ C (fun r : Int32 => some (.int r)) S0 o) (0) (0) S 2 [(0, .ref a0), (1, .int a1)] [] := by
  intro k
  induction k with
  | zero => intro S a0 a1 h; cases h
  | succ k ih =>
    intro S a0 a1 h
    unfold f_X4_isInBounds_2 at h
    refine x_iload_n (pc := 2) hC 1 dX4_isInBounds_2 rfl rfl ?_
    refine x_aload_n (pc := 3) hC 0 dX4_isInBounds_3 rfl rfl ?_
    obtain ⟨g1, h⟩ := gd_some h
    refine x_getRv (pc := 4) (k := 0) hC fc_10 fl_RX4_9 dX4_isInBounds_4 rfl g1 (fun r2 hr2 => ?_)
    replace h := lt_x hr2 h
    obtain ⟨g3, h⟩ := gd_some h
    refine x_alenv (pc := 7) (t0 := 0) hC dX4_isInBounds_7 g3 (by decide) (fun _ => rfl) (fun x4 hx4 => ?_)
    replace h := lt_x hx4 h
    refine x_icmp_ge (pc := 8) hC 39 dX4_isInBounds_8 (by decide) (fun c18 => ?_) (fun c18 => ?_)
    · rw [if_pos c18] at h
      refine x_iconst (pc := 39) (v := (1 : Int32)) hC dX4_isInBounds_39 (by decide) ?_
      exact x_zreturn (pc := 40) hC hE dX4_isInBounds_40 (show NF .boolean _ from ⟨rfl, rfl⟩).1 (so h) (Nat.le_of_ble_eq_true rfl) (Nat.le_of_ble_eq_true rfl)
    · rw [if_neg c18] at h
      refine x_aload_n (pc := 11) hC 0 dX4_isInBounds_11 rfl rfl ?_
      refine x_getRv (pc := 12) (k := 0) hC fc_10 fl_RX4_9 dX4_isInBounds_12 rfl g1 (fun r5 hr5 => ?_)
      replace h := lt_x hr5 h
      refine x_iload_n (pc := 15) hC 1 dX4_isInBounds_15 rfl rfl ?_
      obtain ⟨g8, h⟩ := gd_some h
      obtain ⟨g7, h⟩ := gd_some h
      refine x_ialdv (pc := 16) hC dX4_isInBounds_16 g8 g7 (fun x9 hx9 => ?_)
      replace h := lt_x hx9 h
      refine x_if_lt (pc := 17) hC 31 dX4_isInBounds_17 (by decide) (fun c17 => ?_) (fun c17 => ?_)
      · rw [if_pos c17] at h
        refine x_pick [] rfl ?_
        exact t_X4_isInBounds_31 hls hC hl hE h
      · rw [if_neg c17] at h
        refine x_aload_n (pc := 20) hC 0 dX4_isInBounds_20 rfl rfl ?_
        refine x_getRv (pc := 21) (k := 0) hC fc_10 fl_RX4_9 dX4_isInBounds_21 rfl g1 (fun r10 hr10 => ?_)
        replace h := lt_x hr10 h
        refine x_iload_n (pc := 24) hC 1 dX4_isInBounds_24 rfl rfl ?_
        obtain ⟨g13, h⟩ := gd_some h
        obtain ⟨g12, h⟩ := gd_some h
        refine x_ialdv (pc := 25) hC dX4_isInBounds_25 g13 g12 (fun x14 hx14 => ?_)
        replace h := lt_x hx14 h
        refine x_bipush (pc := 26) (v := (40 : Int32)) hC dX4_isInBounds_26 (by decide) ?_
        refine x_icmp_le (pc := 28) hC 33 dX4_isInBounds_28 (by decide) (fun c16 => ?_) (fun c16 => ?_)
        · rw [if_pos c16] at h
          obtain ⟨x15, hx15⟩ : ∃ z, z = (a1 + Int32.ofInt (1)) := ⟨_, rfl⟩
          replace h := lt_x hx15 h
          refine x_iinc (pc := 33) hC 1 dX4_isInBounds_33 rfl hx15.symm (by decide) (by decide) rfl ?_
          refine x_goto (pc := 36) hC 2 dX4_isInBounds_36 (by decide) ?_
          refine x_pick [1, 0] rfl ?_
          exact ih _ _ _ h
        · rw [if_neg c16] at h
          refine x_pick [] rfl ?_
          exact t_X4_isInBounds_31 hls hC hl hE h
def f_X4_isInBounds (S : mS) (a0 : Nat) : Option (Rs Int32) :=
  f_X4_isInBounds_2  16 S a0 (0 : Int32)
set_option maxHeartbeats 2000000 in
set_option maxRecDepth 100000 in
theorem t_X4_isInBounds {l : Launch} (hls : l.stackTraces = false) {C : cT} (hC : CX C cX4_isInBounds 2 yX4_isInBounds rm_X4_isInBounds) (hl : C.2.1 = l) {S0 : mS} (hE : CE C S0 (Option.some Jvm.ClassFile.FieldType.boolean) []) {o : Rs Int32} {S : mS} {a0 : Nat} (h : f_X4_isInBounds S a0 = some o) : XX C 2 (QQ C (fun r : Int32 => some (.int r)) S0 o) 0 0 S 0 [(0, .ref a0)] [] := by
  unfold f_X4_isInBounds at h
  refine x_iconst (pc := 0) (v := (0 : Int32)) hC dX4_isInBounds_0 (by decide) ?_
  refine x_istore_n (pc := 1) hC dX4_isInBounds_1 rfl (by decide) (by decide) rfl ?_
  refine x_pick [1, 0] rfl ?_
  exact t_X4_isInBounds_2 hls hC hl hE 16 _ _ _ h
theorem c_X4_isInBounds (l : Launch) (hls : l.stackTraces = false) {S : mS} {a0 : Nat} {o : Rs Int32} (h : f_X4_isInBounds S a0 = some o) : CT (fun r : Int32 => some (.int r)) l yX4_isInBounds (.code yX4_isInBounds cX4_isInBounds 2 (Option.some Jvm.ClassFile.FieldType.boolean)) rm_X4_isInBounds S [.ref a0] o := ct_of (by decide +kernel) hls (Nat.le_of_ble_eq_true rfl) (fun C hl hC hE => t_X4_isInBounds hls hC hl hE h)
abbrev rm_X4_feel : Room := { frames := 9, cells := 0, slots := 0, locals := 171 }
def f_X4_feel_22  (S : mS) : Option (Rs Unit) :=
  some (.inl (), S)
set_option maxHeartbeats 2000000 in
set_option maxRecDepth 100000 in
theorem t_X4_feel_22 {l : Launch} (hls : l.stackTraces = false) {C : cT} (hC : CX C cX4_feel 6 yX4_feel rm_X4_feel) (hl : C.2.1 = l) {S0 : mS} (hE : CE C S0 (Option.none : Option Jvm.ClassFile.FieldType) []) {o : Rs Unit} {S : mS} (h : f_X4_feel_22  S = some o) : XX C 6 (QQ C (fun _ : Unit => none) S0 o) (0) (0) S 22 [] [] := by
  unfold f_X4_feel_22 at h
  exact x_vreturn (pc := 22) hC hE dX4_feel_22 (so h) (Nat.le_of_ble_eq_true rfl) (Nat.le_of_ble_eq_true rfl)
def f_X4_feel_115  (S : mS) (a0 : Nat) (a1 : Int32) (a4 : Int32) (a5 : Int32) : Option (Rs Unit) :=
  gd (gK S a0 = 10) (lt9 (gR S a0 0) fun r2 => lt9 (if (0 : Int32) < a4 then a4 else (0 : Int32)) fun x3 => gd (gK S r2 = 30) (gd (¬ (a1 < 0 ∨ gZ S r2 ≤ (a1).toNatClampNeg)) (zI (sI S r2 (a1).toNatClampNeg x3) fun S6 => lt9 (gR S6 a0 1) fun r9 => gd (gK S6 r9 = 30) (gd (¬ (a1 < 0 ∨ gZ S6 r9 ≤ (a1).toNatClampNeg)) (zI (sI S6 r9 (a1).toNatClampNeg a5) fun S12 => some (.inl (), S12))))))
set_option maxHeartbeats 2000000 in
set_option maxRecDepth 100000 in
theorem t_X4_feel_115 {l : Launch} (hls : l.stackTraces = false) {C : cT} (hC : CX C cX4_feel 6 yX4_feel rm_X4_feel) (hl : C.2.1 = l) {S0 : mS} (hE : CE C S0 (Option.none : Option Jvm.ClassFile.FieldType) []) {o : Rs Unit} {S : mS} {a0 : Nat} {a1 : Int32} {a4 : Int32} {a5 : Int32} (h : f_X4_feel_115  S a0 a1 a4 a5 = some o) : XX C 6 (QQ C (fun _ : Unit => none) S0 o) (0) (0) S 115 [(0, .ref a0), (1, .int a1), (4, .int a4), (5, .int a5)] [] := by
  unfold f_X4_feel_115 at h
  refine x_aload_n (pc := 115) hC 0 dX4_feel_115 rfl rfl ?_
  obtain ⟨g1, h⟩ := gd_some h
  refine x_getRv (pc := 116) (k := 0) hC fc_10 fl_RX4_9 dX4_feel_116 rfl g1 (fun r2 hr2 => ?_)
  replace h := lt_x hr2 h
  refine x_iload_n (pc := 119) hC 1 dX4_feel_119 rfl rfl ?_
  refine x_iconst (pc := 120) (v := (0 : Int32)) hC dX4_feel_120 (by decide) ?_
  refine x_iload (pc := 121) hC 2 dX4_feel_121 rfl ?_
  refine x_mmax (pc := 123) hC wm_649 wm_650 wm_69 wm_651 dX4_feel_123 (Nat.le_of_ble_eq_true rfl) (Nat.le_of_ble_eq_true rfl) (Nat.le_of_ble_eq_true rfl) (Nat.le_of_ble_eq_true rfl) (fun x3 hx3 => ?_)
  replace h := lt_x hx3 h
  obtain ⟨g5, h⟩ := gd_some h
  obtain ⟨g4, h⟩ := gd_some h
  refine x_iastv (pc := 126) hC dX4_feel_126 g5 g4 (fun S6 hS6 => ?_)
  replace h := zI_x hS6 h
  have g7 : gK S6 a0 = 10 := by rw [hS6]; exact g1
  have g8 : gK S6 r2 = 30 := by rw [hS6]; exact g5
  refine x_aload_n (pc := 127) hC 0 dX4_feel_127 rfl rfl ?_
  refine x_getRv (pc := 128) (k := 1) hC fc_10 fl_RX4_13 dX4_feel_128 rfl g7 (fun r9 hr9 => ?_)
  replace h := lt_x hr9 h
  refine x_iload_n (pc := 131) hC 1 dX4_feel_131 rfl rfl ?_
  refine x_iload (pc := 132) hC 3 dX4_feel_132 rfl ?_
  obtain ⟨g11, h⟩ := gd_some h
  obtain ⟨g10, h⟩ := gd_some h
  refine x_iastv (pc := 134) hC dX4_feel_134 g11 g10 (fun S12 hS12 => ?_)
  replace h := zI_x hS12 h
  have g13 : gK S12 a0 = 10 := by rw [hS12]; exact g7
  have g14 : gK S12 r2 = 30 := by rw [hS12]; exact g8
  have g15 : gK S12 r9 = 30 := by rw [hS12]; exact g11
  exact x_vreturn (pc := 135) hC hE dX4_feel_135 (so h) (Nat.le_of_ble_eq_true rfl) (Nat.le_of_ble_eq_true rfl)
def f_X4_feel_102  (S : mS) (a0 : Nat) (a1 : Int32) (a4 : Int32) (a5 : Int32) : Option (Rs Unit) :=
  if a5 < (100 : Int32) then (f_X4_feel_115  S a0 a1 a4 a5) else (lt9 (a4 + Int32.ofInt (-2)) fun x1 => lt9 (a5 + Int32.ofInt (-40)) fun x2 => f_X4_feel_115  S a0 a1 x1 x2)
set_option maxHeartbeats 2000000 in
set_option maxRecDepth 100000 in
theorem t_X4_feel_102 {l : Launch} (hls : l.stackTraces = false) {C : cT} (hC : CX C cX4_feel 6 yX4_feel rm_X4_feel) (hl : C.2.1 = l) {S0 : mS} (hE : CE C S0 (Option.none : Option Jvm.ClassFile.FieldType) []) {o : Rs Unit} {S : mS} {a0 : Nat} {a1 : Int32} {a4 : Int32} {a5 : Int32} (h : f_X4_feel_102  S a0 a1 a4 a5 = some o) : XX C 6 (QQ C (fun _ : Unit => none) S0 o) (0) (0) S 102 [(0, .ref a0), (1, .int a1), (4, .int a4), (5, .int a5)] [] := by
  unfold f_X4_feel_102 at h
  refine x_iload (pc := 102) hC 3 dX4_feel_102 rfl ?_
  refine x_bipush (pc := 104) (v := (100 : Int32)) hC dX4_feel_104 (by decide) ?_
  refine x_icmp_lt (pc := 106) hC 115 dX4_feel_106 (by decide) (fun c3 => ?_) (fun c3 => ?_)
  · rw [if_pos c3] at h
    refine x_pick [0, 1, 2, 3] rfl ?_
    exact t_X4_feel_115 hls hC hl hE h
  · rw [if_neg c3] at h
    obtain ⟨x1, hx1⟩ : ∃ z, z = (a4 + Int32.ofInt (-2)) := ⟨_, rfl⟩
    replace h := lt_x hx1 h
    refine x_iinc (pc := 109) hC 2 dX4_feel_109 rfl hx1.symm (by decide) (by decide) rfl ?_
    obtain ⟨x2, hx2⟩ : ∃ z, z = (a5 + Int32.ofInt (-40)) := ⟨_, rfl⟩
    replace h := lt_x hx2 h
    refine x_iinc (pc := 112) hC 3 dX4_feel_112 rfl hx2.symm (by decide) (by decide) rfl ?_
    refine x_pick [2, 3, 1, 0] rfl ?_
    exact t_X4_feel_115 hls hC hl hE h
def f_X4_feel_71  (S : mS) (a0 : Nat) (a1 : Int32) (a4 : Int32) (a5 : Int32) : Option (Rs Unit) :=
  lt9 (a5 + Int32.ofInt (2)) fun x1 => f_X4_feel_102  S a0 a1 a4 x1
set_option maxHeartbeats 2000000 in
set_option maxRecDepth 100000 in
theorem t_X4_feel_71 {l : Launch} (hls : l.stackTraces = false) {C : cT} (hC : CX C cX4_feel 6 yX4_feel rm_X4_feel) (hl : C.2.1 = l) {S0 : mS} (hE : CE C S0 (Option.none : Option Jvm.ClassFile.FieldType) []) {o : Rs Unit} {S : mS} {a0 : Nat} {a1 : Int32} {a4 : Int32} {a5 : Int32} (h : f_X4_feel_71  S a0 a1 a4 a5 = some o) : XX C 6 (QQ C (fun _ : Unit => none) S0 o) (0) (0) S 71 [(0, .ref a0), (1, .int a1), (4, .int a4), (5, .int a5)] [] := by
  unfold f_X4_feel_71 at h
  obtain ⟨x1, hx1⟩ : ∃ z, z = (a5 + Int32.ofInt (2)) := ⟨_, rfl⟩
  replace h := lt_x hx1 h
  refine x_iinc (pc := 71) hC 3 dX4_feel_71 rfl hx1.symm (by decide) (by decide) rfl ?_
  refine x_goto (pc := 74) hC 102 dX4_feel_74 (by decide) ?_
  refine x_pick [1, 2, 3, 0] rfl ?_
  exact t_X4_feel_102 hls hC hl hE h
def f_X4_feel (S : mS) (a0 : Nat) (a1 : Int32) (a2 : Int32) (a3 : Int32) : Option (Rs Unit) :=
  if a1 < 0 then (f_X4_feel_22  S) else (gd (gK S a0 = 10) (lt9 (gR S a0 0) fun r2 => gd (gK S r2 = 30) (lt9 (Int32.ofNat (gZ S r2)) fun x4 => if x4 ≤ a1 then (f_X4_feel_22  S) else (lt9 (gR S a0 1) fun r5 => gd (gK S r5 = 30) (lt9 (Int32.ofNat (gZ S r5)) fun x7 => if a1 < x7 then (lt9 (gR S a0 0) fun r8 => gd (gK S r8 = 30) (gd (¬ (a1 < 0 ∨ gZ S r8 ≤ (a1).toNatClampNeg)) (lt9 (gI S r8 (a1).toNatClampNeg) fun x12 => lt9 (gR S a0 1) fun r13 => gd (gK S r13 = 30) (gd (¬ (a1 < 0 ∨ gZ S r13 ≤ (a1).toNatClampNeg)) (lt9 (gI S r13 (a1).toNatClampNeg) fun x17 => if a2 = (1000 : Int32) then (lt9 (x12 + Int32.ofInt (-1)) fun x27 => f_X4_feel_102  S a0 a1 x27 x17) else (if (2 : Int32) < a2 then (if a2 < (6 : Int32) then (lt9 (x17 + Int32.ofInt (1)) fun x18 => f_X4_feel_102  S a0 a1 x12 x18) else (lt9 (x12 + Int32.ofInt (-1)) fun x19 => lt9 (x17 - (3 : Int32)) fun x20 => lt9 (if (0 : Int32) < x20 then x20 else (0 : Int32)) fun x21 => f_X4_feel_102  S a0 a1 x19 x21)) else (if a3 = 0 then (if (40 : Int32) ≤ x12 then (f_X4_feel_71  S a0 a1 x12 x17) else (lt9 (x12 + Int32.ofInt (1)) fun x23 => f_X4_feel_71  S a0 a1 x23 x17)) else (f_X4_feel_71  S a0 a1 x12 x17)))))))) else (f_X4_feel_22  S))))))
set_option maxHeartbeats 2000000 in
set_option maxRecDepth 100000 in
theorem t_X4_feel {l : Launch} (hls : l.stackTraces = false) {C : cT} (hC : CX C cX4_feel 6 yX4_feel rm_X4_feel) (hl : C.2.1 = l) {S0 : mS} (hE : CE C S0 (Option.none : Option Jvm.ClassFile.FieldType) []) {o : Rs Unit} {S : mS} {a0 : Nat} {a1 : Int32} {a2 : Int32} {a3 : Int32} (h : f_X4_feel S a0 a1 a2 a3 = some o) : XX C 6 (QQ C (fun _ : Unit => none) S0 o) 0 0 S 0 [(0, .ref a0), (1, .int a1), (2, .int a2), (3, .int a3)] [] := by
  unfold f_X4_feel at h
  refine x_iload_n (pc := 0) hC 1 dX4_feel_0 rfl rfl ?_
  refine x_if_lt (pc := 1) hC 22 dX4_feel_1 (by decide) (fun c31 => ?_) (fun c31 => ?_)
  · rw [if_pos c31] at h
    refine x_pick [] rfl ?_
    exact t_X4_feel_22 hls hC hl hE h
  · rw [if_neg c31] at h
    refine x_iload_n (pc := 4) hC 1 dX4_feel_4 rfl rfl ?_
    refine x_aload_n (pc := 5) hC 0 dX4_feel_5 rfl rfl ?_
    obtain ⟨g1, h⟩ := gd_some h
    refine x_getRv (pc := 6) (k := 0) hC fc_10 fl_RX4_9 dX4_feel_6 rfl g1 (fun r2 hr2 => ?_)
    replace h := lt_x hr2 h
    obtain ⟨g3, h⟩ := gd_some h
    refine x_alenv (pc := 9) (t0 := 0) hC dX4_feel_9 g3 (by decide) (fun _ => rfl) (fun x4 hx4 => ?_)
    replace h := lt_x hx4 h
    refine x_icmp_ge (pc := 10) hC 22 dX4_feel_10 (by decide) (fun c30 => ?_) (fun c30 => ?_)
    · rw [if_pos c30] at h
      refine x_pick [] rfl ?_
      exact t_X4_feel_22 hls hC hl hE h
    · rw [if_neg c30] at h
      refine x_iload_n (pc := 13) hC 1 dX4_feel_13 rfl rfl ?_
      refine x_aload_n (pc := 14) hC 0 dX4_feel_14 rfl rfl ?_
      refine x_getRv (pc := 15) (k := 1) hC fc_10 fl_RX4_13 dX4_feel_15 rfl g1 (fun r5 hr5 => ?_)
      replace h := lt_x hr5 h
      obtain ⟨g6, h⟩ := gd_some h
      refine x_alenv (pc := 18) (t0 := 0) hC dX4_feel_18 g6 (by decide) (fun _ => rfl) (fun x7 hx7 => ?_)
      replace h := lt_x hx7 h
      refine x_icmp_lt (pc := 19) hC 23 dX4_feel_19 (by decide) (fun c29 => ?_) (fun c29 => ?_)
      · rw [if_pos c29] at h
        refine x_aload_n (pc := 23) hC 0 dX4_feel_23 rfl rfl ?_
        refine x_getRv (pc := 24) (k := 0) hC fc_10 fl_RX4_9 dX4_feel_24 rfl g1 (fun r8 hr8 => ?_)
        replace h := lt_x hr8 h
        refine x_iload_n (pc := 27) hC 1 dX4_feel_27 rfl rfl ?_
        obtain ⟨g11, h⟩ := gd_some h
        obtain ⟨g10, h⟩ := gd_some h
        refine x_ialdv (pc := 28) hC dX4_feel_28 g11 g10 (fun x12 hx12 => ?_)
        replace h := lt_x hx12 h
        refine x_istore (pc := 29) hC dX4_feel_29 (by decide) (by decide) rfl ?_
        refine x_aload_n (pc := 31) hC 1 dX4_feel_31 rfl rfl ?_
        refine x_getRv (pc := 32) (k := 1) hC fc_10 fl_RX4_13 dX4_feel_32 rfl g1 (fun r13 hr13 => ?_)
        replace h := lt_x hr13 h
        refine x_iload_n (pc := 35) hC 2 dX4_feel_35 rfl rfl ?_
        obtain ⟨g16, h⟩ := gd_some h
        obtain ⟨g15, h⟩ := gd_some h
        refine x_ialdv (pc := 36) hC dX4_feel_36 g16 g15 (fun x17 hx17 => ?_)
        replace h := lt_x hx17 h
        refine x_istore (pc := 37) hC dX4_feel_37 (by decide) (by decide) rfl ?_
        refine x_iload_n (pc := 39) hC 4 dX4_feel_39 rfl rfl ?_
        refine x_sipush (pc := 40) (v := (1000 : Int32)) hC dX4_feel_40 (by decide) ?_
        refine x_icmp_ne (pc := 43) hC 52 dX4_feel_43 (by decide) (fun c28 => ?_) (fun c28 => ?_)
        · rw [if_neg c28] at h
          refine x_iload_n (pc := 52) hC 4 dX4_feel_52 rfl rfl ?_
          refine x_iconst (pc := 53) (v := (2 : Int32)) hC dX4_feel_53 (by decide) ?_
          refine x_icmp_gt (pc := 54) hC 77 dX4_feel_54 (by decide) (fun c26 => ?_) (fun c26 => ?_)
          · rw [if_pos c26] at h
            refine x_iload_n (pc := 77) hC 4 dX4_feel_77 rfl rfl ?_
            refine x_bipush (pc := 78) (v := (6 : Int32)) hC dX4_feel_78 (by decide) ?_
            refine x_icmp_lt (pc := 80) hC 99 dX4_feel_80 (by decide) (fun c22 => ?_) (fun c22 => ?_)
            · rw [if_pos c22] at h
              obtain ⟨x18, hx18⟩ : ∃ z, z = (x17 + Int32.ofInt (1)) := ⟨_, rfl⟩
              replace h := lt_x hx18 h
              refine x_iinc (pc := 99) hC 0 dX4_feel_99 rfl hx18.symm (by decide) (by decide) rfl ?_
              refine x_pick [2, 3, 1, 0] rfl ?_
              exact t_X4_feel_102 hls hC hl hE h
            · rw [if_neg c22] at h
              obtain ⟨x19, hx19⟩ : ∃ z, z = (x12 + Int32.ofInt (-1)) := ⟨_, rfl⟩
              replace h := lt_x hx19 h
              refine x_iinc (pc := 83) hC 1 dX4_feel_83 rfl hx19.symm (by decide) (by decide) rfl ?_
              refine x_iconst (pc := 86) (v := (0 : Int32)) hC dX4_feel_86 (by decide) ?_
              refine x_iload (pc := 87) hC 1 dX4_feel_87 rfl ?_
              refine x_iconst (pc := 89) (v := (3 : Int32)) hC dX4_feel_89 (by decide) ?_
              refine x_isubv (pc := 90) hC dX4_feel_90 (fun x20 hx20 => ?_)
              replace h := lt_x hx20 h
              refine x_mmax (pc := 91) hC wm_649 wm_650 wm_69 wm_651 dX4_feel_91 (Nat.le_of_ble_eq_true rfl) (Nat.le_of_ble_eq_true rfl) (Nat.le_of_ble_eq_true rfl) (Nat.le_of_ble_eq_true rfl) (fun x21 hx21 => ?_)
              replace h := lt_x hx21 h
              refine x_istore (pc := 94) hC dX4_feel_94 (by decide) (by decide) rfl ?_
              refine x_goto (pc := 96) hC 102 dX4_feel_96 (by decide) ?_
              refine x_pick [2, 3, 1, 0] rfl ?_
              exact t_X4_feel_102 hls hC hl hE h
          · rw [if_neg c26] at h
            refine x_iload_n (pc := 57) hC 5 dX4_feel_57 rfl rfl ?_
            refine x_if_ne (pc := 58) hC 71 dX4_feel_58 (by decide) (fun c25 => ?_) (fun c25 => ?_)
            · rw [if_neg c25] at h
              refine x_pick [2, 3, 1, 0] rfl ?_
              exact t_X4_feel_71 hls hC hl hE h
            · rw [if_pos c25] at h
              refine x_iload (pc := 61) hC 1 dX4_feel_61 rfl ?_
              refine x_bipush (pc := 63) (v := (40 : Int32)) hC dX4_feel_63 (by decide) ?_
              refine x_icmp_ge (pc := 65) hC 71 dX4_feel_65 (by decide) (fun c24 => ?_) (fun c24 => ?_)
              · rw [if_pos c24] at h
                refine x_pick [2, 3, 1, 0] rfl ?_
                exact t_X4_feel_71 hls hC hl hE h
              · rw [if_neg c24] at h
                obtain ⟨x23, hx23⟩ : ∃ z, z = (x12 + Int32.ofInt (1)) := ⟨_, rfl⟩
                replace h := lt_x hx23 h
                refine x_iinc (pc := 68) hC 1 dX4_feel_68 rfl hx23.symm (by decide) (by decide) rfl ?_
                refine x_pick [2, 3, 0, 1] rfl ?_
                exact t_X4_feel_71 hls hC hl hE h
        · rw [if_pos c28] at h
          obtain ⟨x27, hx27⟩ : ∃ z, z = (x12 + Int32.ofInt (-1)) := ⟨_, rfl⟩
          replace h := lt_x hx27 h
          refine x_iinc (pc := 46) hC 1 dX4_feel_46 rfl hx27.symm (by decide) (by decide) rfl ?_
          refine x_goto (pc := 49) hC 102 dX4_feel_49 (by decide) ?_
          refine x_pick [2, 3, 0, 1] rfl ?_
          exact t_X4_feel_102 hls hC hl hE h
      · rw [if_neg c29] at h
        refine x_pick [] rfl ?_
        exact t_X4_feel_22 hls hC hl hE h
theorem c_X4_feel (l : Launch) (hls : l.stackTraces = false) {S : mS} {a0 : Nat} {a1 : Int32} {a2 : Int32} {a3 : Int32} {o : Rs Unit} (h : f_X4_feel S a0 a1 a2 a3 = some o) : CT (fun _ : Unit => none) l yX4_feel (.code yX4_feel cX4_feel 6 (Option.none : Option Jvm.ClassFile.FieldType)) rm_X4_feel S [.ref a0, .int a1, .int a2, .int a3] o := ct_of (by decide +kernel) hls (Nat.le_of_ble_eq_true rfl) (fun C hl hC hE => t_X4_feel hls hC hl hE h)
abbrev rm_X4_leastDislike : Room := { frames := 10, cells := 0, slots := 0, locals := 194 }
def f_X4_leastDislike_76 (rc7 : mS → Int32 → Nat → Int32 → Int32 → Int32 → Option (Rs Int32)) (S : mS) (a0 : Int32) (a1 : Nat) (a2 : Int32) (a3 : Int32) (a4 : Int32) : Option (Rs Int32) :=
  lt9 (a4 + Int32.ofInt (1)) fun x1 => rc7 S a0 a1 a2 a3 x1
set_option maxHeartbeats 2000000 in
set_option maxRecDepth 100000 in
theorem t_X4_leastDislike_76 {l : Launch} (hls : l.stackTraces = false) {C : cT} (hC : CX C cX4_leastDislike 8 yX4_leastDislike rm_X4_leastDislike) (hl : C.2.1 = l) {S0 : mS} (hE : CE C S0 (Option.some Jvm.ClassFile.FieldType.int) []) {o : Rs Int32} {rc7 : mS → Int32 → Nat → Int32 → Int32 → Int32 → Option (Rs Int32)} (hrc7 : ∀ (S : mS) (a0 : Int32) (a1 : Nat) (a2 : Int32) (a3 : Int32) (a4 : Int32), rc7 S a0 a1 a2 a3 a4 = some o → XX C 8 (QQ C (fun r : Int32 => some (.int r)) S0 o) (0) (0) S 7 [(0, .int a0), (1, .ref a1), (2, .int a2), (3, .int a3), (4, .int a4)] []) {S : mS} {a0 : Int32} {a1 : Nat} {a2 : Int32} {a3 : Int32} {a4 : Int32} (h : f_X4_leastDislike_76 rc7 S a0 a1 a2 a3 a4 = some o) : XX C 8 (QQ C (fun r : Int32 => some (.int r)) S0 o) (0) (0) S 76 [(0, .int a0), (1, .ref a1), (2, .int a2), (3, .int a3), (4, .int a4)] [] := by
  unfold f_X4_leastDislike_76 at h
  obtain ⟨x1, hx1⟩ : ∃ z, z = (a4 + Int32.ofInt (1)) := ⟨_, rfl⟩
  replace h := lt_x hx1 h
  refine x_iinc (pc := 76) hC 4 dX4_leastDislike_76 rfl hx1.symm (by decide) (by decide) rfl ?_
  refine x_goto (pc := 79) hC 7 dX4_leastDislike_79 (by decide) ?_
  refine x_pick [1, 2, 3, 4, 0] rfl ?_
  exact hrc7 _ _ _ _ _ _ h
def f_X4_leastDislike_7  : Nat → mS → Int32 → Nat → Int32 → Int32 → Int32 → Option (Rs Int32)
  | 0, _, _, _, _, _, _ => none
  | k + 1, S, a0, a1, a2, a3, a4 => gd (gK S a1 = 34) (lt9 (Int32.ofNat (gZ S a1)) fun x2 => if x2 ≤ a4 then (some (.inl a3, S)) else (gd (¬ (a4 < 0 ∨ gZ S a1 ≤ (a4).toNatClampNeg)) (lt9 (gR S a1 (a4).toNatClampNeg) fun r5 => gd (gK S r5 = 7) (lt9 (gR S r5 2) fun r7 => if r7 = 0 then (f_X4_leastDislike_76 (f_X4_leastDislike_7 k) S a0 a1 a2 a3 a4) else (gd (¬ (a4 < 0 ∨ gZ S a1 ≤ (a4).toNatClampNeg)) (lt9 (gR S a1 (a4).toNatClampNeg) fun r10 => gd (gK S r10 = 7) (bd (f_X1_isHeard S r10 a2) fun x12 S13 => if x12 = 0 then (f_X4_leastDislike_76 (f_X4_leastDislike_7 k) S13 a0 a1 a2 a3 a4) else (gd (gK S13 r7 = 8) (lt9 (gI S13 r7 3) fun x17 => lt9 ((4 : Int32) * a0) fun x18 => bd (f_X2_keysApart S13 x17 x18) fun x19 S20 => gd (gK S20 r7 = 8) (lt9 (gI S20 r7 4) fun x24 => lt9 (a0 + (3 : Int32)) fun x25 => lt9 (x24 - x25) fun x26 => lt9 (if 0 ≤ x26 then x26 else 0 - x26) fun x27 => lt9 (x19 + x27) fun x28 => lt9 (if x28 < a3 then x28 else a3) fun x29 => f_X4_leastDislike_76 (f_X4_leastDislike_7 k) S20 a0 a1 a2 x29 a4))))))))))
set_option maxHeartbeats 2000000 in
set_option maxRecDepth 100000 in
theorem t_X4_leastDislike_7 {l : Launch} (hls : l.stackTraces = false) {C : cT} (hC : CX C cX4_leastDislike 8 yX4_leastDislike rm_X4_leastDislike) (hl : C.2.1 = l) {S0 : mS} (hE : CE C S0 (Option.some Jvm.ClassFile.FieldType.int) []) {o : Rs Int32} : ∀ (k : Nat) (S : mS) (a0 : Int32) (a1 : Nat) (a2 : Int32) (a3 : Int32) (a4 : Int32), f_X4_leastDislike_7  k S a0 a1 a2 a3 a4 = some o → XX C 8 (QQ C (fun r : Int32 => some (.int r)) S0 o) (0) (0) S 7 [(0, .int a0), (1, .ref a1), (2, .int a2), (3, .int a3), (4, .int a4)] [] := by
  intro k
  induction k with
  | zero => intro S a0 a1 a2 a3 a4 h; cases h
  | succ k ih =>
    intro S a0 a1 a2 a3 a4 h
    unfold f_X4_leastDislike_7 at h
    refine x_iload (pc := 7) hC 4 dX4_leastDislike_7 rfl ?_
    refine x_aload_n (pc := 9) hC 1 dX4_leastDislike_9 rfl rfl ?_
    obtain ⟨g1, h⟩ := gd_some h
    refine x_alenv (pc := 10) (t0 := 4) hC dX4_leastDislike_10 g1 (by decide) (fun _ => rfl) (fun x2 hx2 => ?_)
    replace h := lt_x hx2 h
    refine x_icmp_ge (pc := 11) hC 82 dX4_leastDislike_11 (by decide) (fun c32 => ?_) (fun c32 => ?_)
    · rw [if_pos c32] at h
      refine x_iload_n (pc := 82) hC 3 dX4_leastDislike_82 rfl rfl ?_
      exact x_ireturn (pc := 83) hC hE dX4_leastDislike_83 (so h) (Nat.le_of_ble_eq_true rfl) (Nat.le_of_ble_eq_true rfl)
    · rw [if_neg c32] at h
      refine x_aload_n (pc := 14) hC 1 dX4_leastDislike_14 rfl rfl ?_
      refine x_iload (pc := 15) hC 4 dX4_leastDislike_15 rfl ?_
      obtain ⟨g4, h⟩ := gd_some h
      refine x_raldv (pc := 17) (t0 := 4) hC dX4_leastDislike_17 g1 (by decide) (fun _ => rfl) g4 (fun r5 hr5 => ?_)
      replace h := lt_x hr5 h
      obtain ⟨g6, h⟩ := gd_some h
      refine x_getRv (pc := 18) (k := 2) hC fc_7 fl_RX4_16 dX4_leastDislike_18 rfl g6 (fun r7 hr7 => ?_)
      replace h := lt_x hr7 h
      refine x_astore (pc := 21) hC dX4_leastDislike_21 (by decide) (by decide) rfl ?_
      refine x_aload (pc := 23) hC 0 dX4_leastDislike_23 rfl ?_
      refine x_ifnull (pc := 25) hC 76 dX4_leastDislike_25 (by decide) (fun c31 => ?_) (fun c31 => ?_)
      · rw [if_pos c31] at h
        refine x_pick [1, 2, 3, 4, 5] rfl ?_
        exact t_X4_leastDislike_76 hls hC hl hE (fun z0 z1 z2 z3 z4 z5 hz => ih z0 z1 z2 z3 z4 z5 hz) h
      · rw [if_neg c31] at h
        refine x_aload_n (pc := 28) hC 2 dX4_leastDislike_28 rfl rfl ?_
        refine x_iload (pc := 29) hC 5 dX4_leastDislike_29 rfl ?_
        obtain ⟨g9, h⟩ := gd_some h
        refine x_raldv (pc := 31) (t0 := 4) hC dX4_leastDislike_31 g1 (by decide) (fun _ => rfl) g9 (fun r10 hr10 => ?_)
        replace h := lt_x hr10 h
        refine x_iload_n (pc := 32) hC 3 dX4_leastDislike_32 rfl rfl ?_
        obtain ⟨g11, h⟩ := gd_some h
        obtain ⟨o14, ho14, h⟩ := bd_some h
        refine x_callV (pc := 33) (As := [.int a2]) (rest := []) hC hl (c_X1_isHeard l hls ho14) lk_RX4_28 fc_7 g11 dX4_leastDislike_33 rfl rfl (Nat.le_of_ble_eq_true rfl) ⟨Nat.le_of_ble_eq_true rfl, Nat.le_of_ble_eq_true rfl⟩ ⟨(Nat.le_of_ble_eq_true rfl), (Nat.le_of_ble_eq_true rfl)⟩ ?_
        rcases o14 with ⟨x12 | E15, S13⟩
        · refine xk_i ?_
          replace h := bk_l h
          refine x_if_eq (pc := 36) hC 76 dX4_leastDislike_36 (by decide) (fun c30 => ?_) (fun c30 => ?_)
          · rw [if_pos c30] at h
            refine x_pick [1, 2, 3, 4, 5] rfl ?_
            exact t_X4_leastDislike_76 hls hC hl hE (fun z0 z1 z2 z3 z4 z5 hz => ih z0 z1 z2 z3 z4 z5 hz) h
          · rw [if_neg c30] at h
            refine x_aload (pc := 39) hC 0 dX4_leastDislike_39 rfl ?_
            obtain ⟨g16, h⟩ := gd_some h
            refine x_getIv (pc := 41) (k := 3) hC fc_8 fl_RX4_40 dX4_leastDislike_41 rfl g16 (fun x17 hx17 => ?_)
            replace h := lt_x hx17 h
            refine x_iconst (pc := 44) (v := (4 : Int32)) hC dX4_leastDislike_44 (by decide) ?_
            refine x_iload_n (pc := 45) hC 1 dX4_leastDislike_45 rfl rfl ?_
            refine x_imulv (pc := 46) hC dX4_leastDislike_46 (fun x18 hx18 => ?_)
            replace h := lt_x hx18 h
            obtain ⟨o21, ho21, h⟩ := bd_some h
            refine x_callS (pc := 47) (As := [.int x17, .int x18]) (rest := []) hC hl (c_X2_keysApart l hls ho21) lk_RX4_44 dX4_leastDislike_47 rfl rfl (Nat.le_of_ble_eq_true rfl) ⟨Nat.le_of_ble_eq_true rfl, Nat.le_of_ble_eq_true rfl⟩ ⟨(Nat.le_of_ble_eq_true rfl), (Nat.le_of_ble_eq_true rfl)⟩ ?_
            rcases o21 with ⟨x19 | E22, S20⟩
            · refine xk_i ?_
              replace h := bk_l h
              refine x_istore (pc := 50) hC dX4_leastDislike_50 (by decide) (by decide) rfl ?_
              refine x_aload (pc := 52) hC 1 dX4_leastDislike_52 rfl ?_
              obtain ⟨g23, h⟩ := gd_some h
              refine x_getIv (pc := 54) (k := 4) hC fc_8 fl_RX4_48 dX4_leastDislike_54 rfl g23 (fun x24 hx24 => ?_)
              replace h := lt_x hx24 h
              refine x_iload_n (pc := 57) hC 2 dX4_leastDislike_57 rfl rfl ?_
              refine x_iconst (pc := 58) (v := (3 : Int32)) hC dX4_leastDislike_58 (by decide) ?_
              refine x_iaddv (pc := 59) hC dX4_leastDislike_59 (fun x25 hx25 => ?_)
              replace h := lt_x hx25 h
              refine x_isubv (pc := 60) hC dX4_leastDislike_60 (fun x26 hx26 => ?_)
              replace h := lt_x hx26 h
              refine x_mabs (pc := 61) hC wm_643 wm_640 wm_69 wm_641 dX4_leastDislike_61 (Nat.le_of_ble_eq_true rfl) (Nat.le_of_ble_eq_true rfl) (Nat.le_of_ble_eq_true rfl) (Nat.le_of_ble_eq_true rfl) (fun x27 hx27 => ?_)
              replace h := lt_x hx27 h
              refine x_istore (pc := 64) hC dX4_leastDislike_64 (by decide) (by decide) rfl ?_
              refine x_iload_n (pc := 66) hC 6 dX4_leastDislike_66 rfl rfl ?_
              refine x_iload (pc := 67) hC 1 dX4_leastDislike_67 rfl ?_
              refine x_iload (pc := 69) hC 0 dX4_leastDislike_69 rfl ?_
              refine x_iaddv (pc := 71) hC dX4_leastDislike_71 (fun x28 hx28 => ?_)
              replace h := lt_x hx28 h
              refine x_mmin (pc := 72) hC wm_644 wm_598 wm_69 wm_599 dX4_leastDislike_72 (Nat.le_of_ble_eq_true rfl) (Nat.le_of_ble_eq_true rfl) (Nat.le_of_ble_eq_true rfl) (Nat.le_of_ble_eq_true rfl) (fun x29 hx29 => ?_)
              replace h := lt_x hx29 h
              refine x_istore_n (pc := 75) hC dX4_leastDislike_75 rfl (by decide) (by decide) rfl ?_
              refine x_pick [4, 5, 6, 0, 7] rfl ?_
              exact t_X4_leastDislike_76 hls hC hl hE (fun z0 z1 z2 z3 z4 z5 hz => ih z0 z1 z2 z3 z4 z5 hz) h
            · exact xk_r (xt_out hC hE (bk_r h) (Nat.le_of_ble_eq_true rfl) (Nat.le_of_ble_eq_true rfl))
        · exact xk_r (xt_out hC hE (bk_r h) (Nat.le_of_ble_eq_true rfl) (Nat.le_of_ble_eq_true rfl))
def f_X4_leastDislike (S : mS) (a0 : Int32) (a1 : Nat) (a2 : Int32) : Option (Rs Int32) :=
  f_X4_leastDislike_7  16 S a0 a1 a2 (1000 : Int32) (0 : Int32)
set_option maxHeartbeats 2000000 in
set_option maxRecDepth 100000 in
theorem t_X4_leastDislike {l : Launch} (hls : l.stackTraces = false) {C : cT} (hC : CX C cX4_leastDislike 8 yX4_leastDislike rm_X4_leastDislike) (hl : C.2.1 = l) {S0 : mS} (hE : CE C S0 (Option.some Jvm.ClassFile.FieldType.int) []) {o : Rs Int32} {S : mS} {a0 : Int32} {a1 : Nat} {a2 : Int32} (h : f_X4_leastDislike S a0 a1 a2 = some o) : XX C 8 (QQ C (fun r : Int32 => some (.int r)) S0 o) 0 0 S 0 [(0, .int a0), (1, .ref a1), (2, .int a2)] [] := by
  unfold f_X4_leastDislike at h
  refine x_sipush (pc := 0) (v := (1000 : Int32)) hC dX4_leastDislike_0 (by decide) ?_
  refine x_istore_n (pc := 3) hC dX4_leastDislike_3 rfl (by decide) (by decide) rfl ?_
  refine x_iconst (pc := 4) (v := (0 : Int32)) hC dX4_leastDislike_4 (by decide) ?_
  refine x_istore (pc := 5) hC dX4_leastDislike_5 (by decide) (by decide) rfl ?_
  refine x_pick [2, 3, 4, 1, 0] rfl ?_
  exact t_X4_leastDislike_7 hls hC hl hE 16 _ _ _ _ _ _ h
theorem c_X4_leastDislike (l : Launch) (hls : l.stackTraces = false) {S : mS} {a0 : Int32} {a1 : Nat} {a2 : Int32} {o : Rs Int32} (h : f_X4_leastDislike S a0 a1 a2 = some o) : CT (fun r : Int32 => some (.int r)) l yX4_leastDislike (.code yX4_leastDislike cX4_leastDislike 8 (Option.some Jvm.ClassFile.FieldType.int)) rm_X4_leastDislike S [.int a0, .ref a1, .int a2] o := ct_of (by decide +kernel) hls (Nat.le_of_ble_eq_true rfl) (fun C hl hC hE => t_X4_leastDislike hls hC hl hE h)
abbrev rm_X4_dance : Room := { frames := 11, cells := 0, slots := 0, locals := 221 }
def f_X4_dance_56  : Nat → mS → Nat → Nat → Int32 → Int32 → Int32 → Option (Rs Unit)
  | 0, _, _, _, _, _, _ => none
  | k + 1, S, a0, a1, a2, a3, a4 => if (6 : Int32) ≤ a4 then (some (.inl (), S)) else (bd (f_X4_leastDislike S a4 a1 a2) fun x1 S2 => gd (gK S2 a0 = 10) (bd (f_X4_feel S2 a0 a4 x1 a3) fun _ S7 => lt9 (a4 + Int32.ofInt (1)) fun x10 => f_X4_dance_56 k S7 a0 a1 a2 a3 x10))
set_option maxHeartbeats 2000000 in
set_option maxRecDepth 100000 in
theorem t_X4_dance_56 {l : Launch} (hls : l.stackTraces = false) {C : cT} (hC : CX C cX4_dance 6 yX4_dance rm_X4_dance) (hl : C.2.1 = l) {S0 : mS} (hE : CE C S0 (Option.none : Option Jvm.ClassFile.FieldType) []) {o : Rs Unit} : ∀ (k : Nat) (S : mS) (a0 : Nat) (a1 : Nat) (a2 : Int32) (a3 : Int32) (a4 : Int32), f_X4_dance_56  k S a0 a1 a2 a3 a4 = some o → XX C 6 (QQ C (fun _ : Unit => none) S0 o) (0) (0) S 56 [(0, .ref a0), (1, .ref a1), (2, .int a2), (3, .int a3), (4, .int a4)] [] := by
  intro k
  induction k with
  | zero => intro S a0 a1 a2 a3 a4 h; cases h
  | succ k ih =>
    intro S a0 a1 a2 a3 a4 h
    unfold f_X4_dance_56 at h
    refine x_iload (pc := 56) hC 4 dX4_dance_56 rfl ?_
    refine x_bipush (pc := 58) (v := (6 : Int32)) hC dX4_dance_58 (by decide) ?_
    refine x_icmp_ge (pc := 60) hC 83 dX4_dance_60 (by decide) (fun c11 => ?_) (fun c11 => ?_)
    · rw [if_pos c11] at h
      exact x_vreturn (pc := 83) hC hE dX4_dance_83 (so h) (Nat.le_of_ble_eq_true rfl) (Nat.le_of_ble_eq_true rfl)
    · rw [if_neg c11] at h
      refine x_aload_n (pc := 63) hC 0 dX4_dance_63 rfl rfl ?_
      refine x_iload (pc := 64) hC 4 dX4_dance_64 rfl ?_
      refine x_iload (pc := 66) hC 4 dX4_dance_66 rfl ?_
      refine x_aload_n (pc := 68) hC 1 dX4_dance_68 rfl rfl ?_
      refine x_iload_n (pc := 69) hC 2 dX4_dance_69 rfl rfl ?_
      obtain ⟨o3, ho3, h⟩ := bd_some h
      refine x_callS (pc := 70) (As := [.int a4, .ref a1, .int a2]) (rest := [.int a4, .ref a0]) hC hl (c_X4_leastDislike l hls ho3) lk_RX4_32 dX4_dance_70 rfl rfl (Nat.le_of_ble_eq_true rfl) ⟨Nat.le_of_ble_eq_true rfl, Nat.le_of_ble_eq_true rfl⟩ ⟨(Nat.le_of_ble_eq_true rfl), (Nat.le_of_ble_eq_true rfl)⟩ ?_
      rcases o3 with ⟨x1 | E4, S2⟩
      · refine xk_i ?_
        replace h := bk_l h
        refine x_iload_n (pc := 73) hC 3 dX4_dance_73 rfl rfl ?_
        obtain ⟨g5, h⟩ := gd_some h
        obtain ⟨o8, ho8, h⟩ := bd_some h
        refine x_callV (pc := 74) (As := [.int a4, .int x1, .int a3]) (rest := []) hC hl (c_X4_feel l hls ho8) lk_RX4_36 fc_10 g5 dX4_dance_74 rfl rfl (Nat.le_of_ble_eq_true rfl) ⟨Nat.le_of_ble_eq_true rfl, Nat.le_of_ble_eq_true rfl⟩ ⟨(Nat.le_of_ble_eq_true rfl), (Nat.le_of_ble_eq_true rfl)⟩ ?_
        rcases o8 with ⟨_ | E9, S7⟩
        · refine xk_v ?_
          replace h := bk_l h
          obtain ⟨x10, hx10⟩ : ∃ z, z = (a4 + Int32.ofInt (1)) := ⟨_, rfl⟩
          replace h := lt_x hx10 h
          refine x_iinc (pc := 77) hC 4 dX4_dance_77 rfl hx10.symm (by decide) (by decide) rfl ?_
          refine x_goto (pc := 80) hC 56 dX4_dance_80 (by decide) ?_
          refine x_pick [1, 2, 3, 4, 0] rfl ?_
          exact ih _ _ _ _ _ _ h
        · exact xk_r (xt_out hC hE (bk_r h) (Nat.le_of_ble_eq_true rfl) (Nat.le_of_ble_eq_true rfl))
      · exact xk_r (xt_out hC hE (bk_r h) (Nat.le_of_ble_eq_true rfl) (Nat.le_of_ble_eq_true rfl))
def f_X4_dance_47 (rc5 : mS → Nat → Nat → Int32 → Int32 → Int32 → Option (Rs Unit)) (S : mS) (a0 : Nat) (a1 : Nat) (a2 : Int32) (a3 : Int32) (a4 : Int32) : Option (Rs Unit) :=
  lt9 (a4 + Int32.ofInt (1)) fun x1 => rc5 S a0 a1 a2 a3 x1
set_option maxHeartbeats 2000000 in
set_option maxRecDepth 100000 in
theorem t_X4_dance_47 {l : Launch} (hls : l.stackTraces = false) {C : cT} (hC : CX C cX4_dance 6 yX4_dance rm_X4_dance) (hl : C.2.1 = l) {S0 : mS} (hE : CE C S0 (Option.none : Option Jvm.ClassFile.FieldType) []) {o : Rs Unit} {rc5 : mS → Nat → Nat → Int32 → Int32 → Int32 → Option (Rs Unit)} (hrc5 : ∀ (S : mS) (a0 : Nat) (a1 : Nat) (a2 : Int32) (a3 : Int32) (a4 : Int32), rc5 S a0 a1 a2 a3 a4 = some o → XX C 6 (QQ C (fun _ : Unit => none) S0 o) (0) (0) S 5 [(0, .ref a0), (1, .ref a1), (2, .int a2), (3, .int a3), (4, .int a4)] []) {S : mS} {a0 : Nat} {a1 : Nat} {a2 : Int32} {a3 : Int32} {a4 : Int32} (h : f_X4_dance_47 rc5 S a0 a1 a2 a3 a4 = some o) : XX C 6 (QQ C (fun _ : Unit => none) S0 o) (0) (0) S 47 [(0, .ref a0), (1, .ref a1), (2, .int a2), (3, .int a3), (4, .int a4)] [] := by
  unfold f_X4_dance_47 at h
  obtain ⟨x1, hx1⟩ : ∃ z, z = (a4 + Int32.ofInt (1)) := ⟨_, rfl⟩
  replace h := lt_x hx1 h
  refine x_iinc (pc := 47) hC 4 dX4_dance_47 rfl hx1.symm (by decide) (by decide) rfl ?_
  refine x_goto (pc := 50) hC 5 dX4_dance_50 (by decide) ?_
  refine x_pick [1, 2, 3, 4, 0] rfl ?_
  exact hrc5 _ _ _ _ _ _ h
def f_X4_dance_5  : Nat → mS → Nat → Nat → Int32 → Int32 → Int32 → Option (Rs Unit)
  | 0, _, _, _, _, _, _ => none
  | k + 1, S, a0, a1, a2, a3, a4 => gd (gK S a1 = 34) (lt9 (Int32.ofNat (gZ S a1)) fun x2 => if x2 ≤ a4 then (f_X4_dance_56  16 S a0 a1 a2 a3 (0 : Int32)) else (gd (¬ (a4 < 0 ∨ gZ S a1 ≤ (a4).toNatClampNeg)) (lt9 (gR S a1 (a4).toNatClampNeg) fun r5 => gd (gK S r5 = 7) (lt9 (gR S r5 2) fun r7 => if r7 = 0 then (f_X4_dance_47 (f_X4_dance_5 k) S a0 a1 a2 a3 a4) else (gd (gK S r7 = 8) (lt9 (gI S r7 8) fun x9 => if x9 = 0 then (f_X4_dance_47 (f_X4_dance_5 k) S a0 a1 a2 a3 a4) else (gd (¬ (a4 < 0 ∨ gZ S a1 ≤ (a4).toNatClampNeg)) (lt9 (gR S a1 (a4).toNatClampNeg) fun r12 => gd (gK S r12 = 7) (bd (f_X1_isHeard S r12 a2) fun x14 S15 => if x14 = 0 then (f_X4_dance_47 (f_X4_dance_5 k) S15 a0 a1 a2 a3 a4) else (f_X4_dance_47 (f_X4_dance_5 k) S15 a0 a1 a2 (1 : Int32) a4))))))))))
set_option maxHeartbeats 2000000 in
set_option maxRecDepth 100000 in
theorem t_X4_dance_5 {l : Launch} (hls : l.stackTraces = false) {C : cT} (hC : CX C cX4_dance 6 yX4_dance rm_X4_dance) (hl : C.2.1 = l) {S0 : mS} (hE : CE C S0 (Option.none : Option Jvm.ClassFile.FieldType) []) {o : Rs Unit} : ∀ (k : Nat) (S : mS) (a0 : Nat) (a1 : Nat) (a2 : Int32) (a3 : Int32) (a4 : Int32), f_X4_dance_5  k S a0 a1 a2 a3 a4 = some o → XX C 6 (QQ C (fun _ : Unit => none) S0 o) (0) (0) S 5 [(0, .ref a0), (1, .ref a1), (2, .int a2), (3, .int a3), (4, .int a4)] [] := by
  intro k
  induction k with
  | zero => intro S a0 a1 a2 a3 a4 h; cases h
  | succ k ih =>
    intro S a0 a1 a2 a3 a4 h
    unfold f_X4_dance_5 at h
    refine x_iload (pc := 5) hC 4 dX4_dance_5 rfl ?_
    refine x_aload_n (pc := 7) hC 1 dX4_dance_7 rfl rfl ?_
    obtain ⟨g1, h⟩ := gd_some h
    refine x_alenv (pc := 8) (t0 := 4) hC dX4_dance_8 g1 (by decide) (fun _ => rfl) (fun x2 hx2 => ?_)
    replace h := lt_x hx2 h
    refine x_icmp_ge (pc := 9) hC 53 dX4_dance_9 (by decide) (fun c21 => ?_) (fun c21 => ?_)
    · rw [if_pos c21] at h
      refine x_iconst (pc := 53) (v := (0 : Int32)) hC dX4_dance_53 (by decide) ?_
      refine x_istore (pc := 54) hC dX4_dance_54 (by decide) (by decide) rfl ?_
      refine x_pick [1, 2, 3, 4, 0] rfl ?_
      exact t_X4_dance_56 hls hC hl hE 16 _ _ _ _ _ _ h
    · rw [if_neg c21] at h
      refine x_aload_n (pc := 12) hC 1 dX4_dance_12 rfl rfl ?_
      refine x_iload (pc := 13) hC 4 dX4_dance_13 rfl ?_
      obtain ⟨g4, h⟩ := gd_some h
      refine x_raldv (pc := 15) (t0 := 4) hC dX4_dance_15 g1 (by decide) (fun _ => rfl) g4 (fun r5 hr5 => ?_)
      replace h := lt_x hr5 h
      obtain ⟨g6, h⟩ := gd_some h
      refine x_getRv (pc := 16) (k := 2) hC fc_7 fl_RX4_16 dX4_dance_16 rfl g6 (fun r7 hr7 => ?_)
      replace h := lt_x hr7 h
      refine x_astore (pc := 19) hC dX4_dance_19 (by decide) (by decide) rfl ?_
      refine x_aload (pc := 21) hC 0 dX4_dance_21 rfl ?_
      refine x_ifnull (pc := 23) hC 47 dX4_dance_23 (by decide) (fun c20 => ?_) (fun c20 => ?_)
      · rw [if_pos c20] at h
        refine x_pick [1, 2, 3, 4, 5] rfl ?_
        exact t_X4_dance_47 hls hC hl hE (fun z0 z1 z2 z3 z4 z5 hz => ih z0 z1 z2 z3 z4 z5 hz) h
      · rw [if_neg c20] at h
        refine x_aload (pc := 26) hC 0 dX4_dance_26 rfl ?_
        obtain ⟨g8, h⟩ := gd_some h
        refine x_getIv (pc := 28) (k := 8) hC fc_8 fl_RX4_22 dX4_dance_28 rfl g8 (fun x9 hx9 => ?_)
        replace h := lt_x hx9 h
        refine x_if_eq (pc := 31) hC 47 dX4_dance_31 (by decide) (fun c19 => ?_) (fun c19 => ?_)
        · rw [if_pos c19] at h
          refine x_pick [1, 2, 3, 4, 5] rfl ?_
          exact t_X4_dance_47 hls hC hl hE (fun z0 z1 z2 z3 z4 z5 hz => ih z0 z1 z2 z3 z4 z5 hz) h
        · rw [if_neg c19] at h
          refine x_aload_n (pc := 34) hC 2 dX4_dance_34 rfl rfl ?_
          refine x_iload (pc := 35) hC 5 dX4_dance_35 rfl ?_
          obtain ⟨g11, h⟩ := gd_some h
          refine x_raldv (pc := 37) (t0 := 4) hC dX4_dance_37 g1 (by decide) (fun _ => rfl) g11 (fun r12 hr12 => ?_)
          replace h := lt_x hr12 h
          refine x_iload_n (pc := 38) hC 3 dX4_dance_38 rfl rfl ?_
          obtain ⟨g13, h⟩ := gd_some h
          obtain ⟨o16, ho16, h⟩ := bd_some h
          refine x_callV (pc := 39) (As := [.int a2]) (rest := []) hC hl (c_X1_isHeard l hls ho16) lk_RX4_28 fc_7 g13 dX4_dance_39 rfl rfl (Nat.le_of_ble_eq_true rfl) ⟨Nat.le_of_ble_eq_true rfl, Nat.le_of_ble_eq_true rfl⟩ ⟨(Nat.le_of_ble_eq_true rfl), (Nat.le_of_ble_eq_true rfl)⟩ ?_
          rcases o16 with ⟨x14 | E17, S15⟩
          · refine xk_i ?_
            replace h := bk_l h
            refine x_if_eq (pc := 42) hC 47 dX4_dance_42 (by decide) (fun c18 => ?_) (fun c18 => ?_)
            · rw [if_pos c18] at h
              refine x_pick [1, 2, 3, 4, 5] rfl ?_
              exact t_X4_dance_47 hls hC hl hE (fun z0 z1 z2 z3 z4 z5 hz => ih z0 z1 z2 z3 z4 z5 hz) h
            · rw [if_neg c18] at h
              refine x_iconst (pc := 45) (v := (1 : Int32)) hC dX4_dance_45 (by decide) ?_
              refine x_istore_n (pc := 46) hC dX4_dance_46 rfl (by decide) (by decide) rfl ?_
              refine x_pick [2, 3, 4, 0, 5] rfl ?_
              exact t_X4_dance_47 hls hC hl hE (fun z0 z1 z2 z3 z4 z5 hz => ih z0 z1 z2 z3 z4 z5 hz) h
          · exact xk_r (xt_out hC hE (bk_r h) (Nat.le_of_ble_eq_true rfl) (Nat.le_of_ble_eq_true rfl))
def f_X4_dance (S : mS) (a0 : Nat) (a1 : Nat) (a2 : Int32) : Option (Rs Unit) :=
  f_X4_dance_5  16 S a0 a1 a2 (0 : Int32) (0 : Int32)
set_option maxHeartbeats 2000000 in
set_option maxRecDepth 100000 in
theorem t_X4_dance {l : Launch} (hls : l.stackTraces = false) {C : cT} (hC : CX C cX4_dance 6 yX4_dance rm_X4_dance) (hl : C.2.1 = l) {S0 : mS} (hE : CE C S0 (Option.none : Option Jvm.ClassFile.FieldType) []) {o : Rs Unit} {S : mS} {a0 : Nat} {a1 : Nat} {a2 : Int32} (h : f_X4_dance S a0 a1 a2 = some o) : XX C 6 (QQ C (fun _ : Unit => none) S0 o) 0 0 S 0 [(0, .ref a0), (1, .ref a1), (2, .int a2)] [] := by
  unfold f_X4_dance at h
  refine x_iconst (pc := 0) (v := (0 : Int32)) hC dX4_dance_0 (by decide) ?_
  refine x_istore_n (pc := 1) hC dX4_dance_1 rfl (by decide) (by decide) rfl ?_
  refine x_iconst (pc := 2) (v := (0 : Int32)) hC dX4_dance_2 (by decide) ?_
  refine x_istore (pc := 3) hC dX4_dance_3 (by decide) (by decide) rfl ?_
  refine x_pick [2, 3, 4, 1, 0] rfl ?_
  exact t_X4_dance_5 hls hC hl hE 16 _ _ _ _ _ _ h
theorem c_X4_dance (l : Launch) (hls : l.stackTraces = false) {S : mS} {a0 : Nat} {a1 : Nat} {a2 : Int32} {o : Rs Unit} (h : f_X4_dance S a0 a1 a2 = some o) : CT (fun _ : Unit => none) l yX4_dance (.code yX4_dance cX4_dance 6 (Option.none : Option Jvm.ClassFile.FieldType)) rm_X4_dance S [.ref a0, .ref a1, .int a2] o := ct_of (by decide +kernel) hls (Nat.le_of_ble_eq_true rfl) (fun C hl hC hE => t_X4_dance hls hC hl hE h)
abbrev rm_X5_init : Room := { frames := 8, cells := 1, slots := 4, locals := 150 }
def f_X5_init_13  : Nat → mS → Nat → Int32 → Option (Rs Unit)
  | 0, _, _, _ => none
  | k + 1, S, a0, a1 => gd (gK S a0 = 11) (lt9 (gR S a0 0) fun r2 => gd (gK S r2 = 30) (lt9 (Int32.ofNat (gZ S r2)) fun x4 => if x4 ≤ a1 then (some (.inl (), S)) else (lt9 (gR S a0 0) fun r5 => gd (gK S r5 = 30) (gd (¬ (a1 < 0 ∨ gZ S r5 ≤ (a1).toNatClampNeg)) (zI (sI S r5 (a1).toNatClampNeg (1000 : Int32)) fun S8 => lt9 (a1 + Int32.ofInt (1)) fun x12 => f_X5_init_13 k S8 a0 x12)))))
set_option maxHeartbeats 2000000 in
set_option maxRecDepth 100000 in
theorem t_X5_init_13 {l : Launch} (hls : l.stackTraces = false) {C : cT} (hC : CX C cX5_init 2 yX5_init rm_X5_init) (hl : C.2.1 = l) {S0 : mS} (hE : CE C S0 (Option.none : Option Jvm.ClassFile.FieldType) []) {o : Rs Unit} : ∀ (k : Nat) (S : mS) (a0 : Nat) (a1 : Int32), f_X5_init_13  k S a0 a1 = some o → XX C 2 (QQ C (fun _ : Unit => none) S0 o) (1) (4) S 13 [(0, .ref a0), (1, .int a1)] [] := by
  intro k
  induction k with
  | zero => intro S a0 a1 h; cases h
  | succ k ih =>
    intro S a0 a1 h
    unfold f_X5_init_13 at h
    refine x_iload_n (pc := 13) hC 1 dX5_init_13 rfl rfl ?_
    refine x_aload_n (pc := 14) hC 0 dX5_init_14 rfl rfl ?_
    obtain ⟨g1, h⟩ := gd_some h
    refine x_getRv (pc := 15) (k := 0) hC fc_11 fl_RX5_9 dX5_init_15 rfl g1 (fun r2 hr2 => ?_)
    replace h := lt_x hr2 h
    obtain ⟨g3, h⟩ := gd_some h
    refine x_alenv (pc := 18) (t0 := 0) hC dX5_init_18 g3 (by decide) (fun _ => rfl) (fun x4 hx4 => ?_)
    replace h := lt_x hx4 h
    refine x_icmp_ge (pc := 19) hC 37 dX5_init_19 (by decide) (fun c13 => ?_) (fun c13 => ?_)
    · rw [if_pos c13] at h
      exact x_vreturn (pc := 37) hC hE dX5_init_37 (so h) (Nat.le_of_ble_eq_true rfl) (Nat.le_of_ble_eq_true rfl)
    · rw [if_neg c13] at h
      refine x_aload_n (pc := 22) hC 0 dX5_init_22 rfl rfl ?_
      refine x_getRv (pc := 23) (k := 0) hC fc_11 fl_RX5_9 dX5_init_23 rfl g1 (fun r5 hr5 => ?_)
      replace h := lt_x hr5 h
      refine x_iload_n (pc := 26) hC 1 dX5_init_26 rfl rfl ?_
      refine x_sipush (pc := 27) (v := (1000 : Int32)) hC dX5_init_27 (by decide) ?_
      obtain ⟨g7, h⟩ := gd_some h
      obtain ⟨g6, h⟩ := gd_some h
      refine x_iastv (pc := 30) hC dX5_init_30 g7 g6 (fun S8 hS8 => ?_)
      replace h := zI_x hS8 h
      have g9 : gK S8 a0 = 11 := by rw [hS8]; exact g1
      have g10 : gK S8 r2 = 30 := by rw [hS8]; exact g3
      have g11 : gK S8 r5 = 30 := by rw [hS8]; exact g7
      obtain ⟨x12, hx12⟩ : ∃ z, z = (a1 + Int32.ofInt (1)) := ⟨_, rfl⟩
      replace h := lt_x hx12 h
      refine x_iinc (pc := 31) hC 1 dX5_init_31 rfl hx12.symm (by decide) (by decide) rfl ?_
      refine x_goto (pc := 34) hC 13 dX5_init_34 (by decide) ?_
      refine x_pick [1, 0] rfl ?_
      exact ih _ _ _ h
def f_X5_init (S : mS) (a0 : Nat) : Option (Rs Unit) :=
  gd (gK S a0 = 11) (gd (gN S + 1 < KB) (zW (sW S 30 4) fun S3 => lt9 (gN S + 1) fun r4 => gd (gK S3 a0 = 11) (zR (sR S3 a0 0 r4) fun S7 => f_X5_init_13  16 S7 a0 (0 : Int32))))
set_option maxHeartbeats 2000000 in
set_option maxRecDepth 100000 in
theorem t_X5_init {l : Launch} (hls : l.stackTraces = false) {C : cT} (hC : CX C cX5_init 2 yX5_init rm_X5_init) (hl : C.2.1 = l) {S0 : mS} (hE : CE C S0 (Option.none : Option Jvm.ClassFile.FieldType) []) {o : Rs Unit} {S : mS} {a0 : Nat} (h : f_X5_init S a0 = some o) : XX C 2 (QQ C (fun _ : Unit => none) S0 o) 0 0 S 0 [(0, .ref a0)] [] := by
  unfold f_X5_init at h
  refine x_aload_n (pc := 0) hC 0 dX5_init_0 rfl rfl ?_
  obtain ⟨g1, h⟩ := gd_some h
  refine x_objInit (pc := 1) hC wm_273 wm_94 wm_95 dX5_init_1 (by rw [g1]; decide) (Nat.le_of_ble_eq_true rfl) (Nat.le_of_ble_eq_true rfl) ?_
  refine x_aload_n (pc := 4) hC 0 dX5_init_4 rfl rfl ?_
  refine x_iconst (pc := 5) (v := (4 : Int32)) hC dX5_init_5 (by decide) ?_
  obtain ⟨g2, h⟩ := gd_some h
  refine x_newaIv (pc := 6) (z := 4) hC wm_186 dX5_init_6 (by decide) (by decide) (Nat.le_of_ble_eq_true rfl) g2 (Nat.le_of_ble_eq_true rfl) (Nat.le_of_ble_eq_true rfl) (fun S3 r4 hS3 hr4 => ?_)
  replace h := zW_x hS3 h
  replace h := lt_x hr4 h
  have g5 : gK S3 r4 = 30 := by rw [hr4, hS3]; exact sW_K
  obtain ⟨g6, h⟩ := gd_some h
  refine x_putRFv (pc := 8) (k := 0) hC fc_11 wm_274 rfl dX5_init_8 rfl rfl rfl rfl (Or.inr ⟨_, rfl⟩) g6 (fun S7 hS7 => ?_)
  replace h := zR_x hS7 h
  have g8 : gK S7 r4 = 30 := by rw [hS7]; exact g5
  have g9 : gK S7 a0 = 11 := by rw [hS7]; exact g6
  refine x_iconst (pc := 11) (v := (0 : Int32)) hC dX5_init_11 (by decide) ?_
  refine x_istore_n (pc := 12) hC dX5_init_12 rfl (by decide) (by decide) rfl ?_
  refine x_pick [1, 0] rfl ?_
  exact t_X5_init_13 hls hC hl hE 16 _ _ _ h
theorem c_X5_init (l : Launch) (hls : l.stackTraces = false) {S : mS} {a0 : Nat} {o : Rs Unit} (h : f_X5_init S a0 = some o) : CT (fun _ : Unit => none) l yX5_init (.code yX5_init cX5_init 2 (Option.none : Option Jvm.ClassFile.FieldType)) rm_X5_init S [.ref a0] o := ct_of (by decide +kernel) hls (Nat.le_of_ble_eq_true rfl) (fun C hl hC hE => t_X5_init hls hC hl hE h)
abbrev rm_X5_change : Room := { frames := 8, cells := 0, slots := 0, locals := 150 }
def f_X5_change_13  (S : mS) : Option (Rs Int32) :=
  some (.inl (0 : Int32), S)
set_option maxHeartbeats 2000000 in
set_option maxRecDepth 100000 in
theorem t_X5_change_13 {l : Launch} (hls : l.stackTraces = false) {C : cT} (hC : CX C cX5_change 4 yX5_change rm_X5_change) (hl : C.2.1 = l) {S0 : mS} (hE : CE C S0 (Option.some Jvm.ClassFile.FieldType.int) []) {o : Rs Int32} {S : mS} (h : f_X5_change_13  S = some o) : XX C 4 (QQ C (fun r : Int32 => some (.int r)) S0 o) (0) (0) S 13 [] [] := by
  unfold f_X5_change_13 at h
  refine x_iconst (pc := 13) (v := (0 : Int32)) hC dX5_change_13 (by decide) ?_
  exact x_ireturn (pc := 14) hC hE dX5_change_14 (so h) (Nat.le_of_ble_eq_true rfl) (Nat.le_of_ble_eq_true rfl)
def f_X5_change (S : mS) (a0 : Nat) (a1 : Int32) (a2 : Int32) : Option (Rs Int32) :=
  if a1 < 0 then (f_X5_change_13  S) else (gd (gK S a0 = 11) (lt9 (gR S a0 0) fun r2 => gd (gK S r2 = 30) (lt9 (Int32.ofNat (gZ S r2)) fun x4 => if a1 < x4 then (lt9 (gR S a0 0) fun r5 => gd (gK S r5 = 30) (gd (¬ (a1 < 0 ∨ gZ S r5 ≤ (a1).toNatClampNeg)) (lt9 (gI S r5 (a1).toNatClampNeg) fun x9 => lt9 (gR S a0 0) fun r10 => gd (gK S r10 = 30) (gd (¬ (a1 < 0 ∨ gZ S r10 ≤ (a1).toNatClampNeg)) (zI (sI S r10 (a1).toNatClampNeg a2) fun S13 => some (.inl x9, S13)))))) else (f_X5_change_13  S))))
set_option maxHeartbeats 2000000 in
set_option maxRecDepth 100000 in
theorem t_X5_change {l : Launch} (hls : l.stackTraces = false) {C : cT} (hC : CX C cX5_change 4 yX5_change rm_X5_change) (hl : C.2.1 = l) {S0 : mS} (hE : CE C S0 (Option.some Jvm.ClassFile.FieldType.int) []) {o : Rs Int32} {S : mS} {a0 : Nat} {a1 : Int32} {a2 : Int32} (h : f_X5_change S a0 a1 a2 = some o) : XX C 4 (QQ C (fun r : Int32 => some (.int r)) S0 o) 0 0 S 0 [(0, .ref a0), (1, .int a1), (2, .int a2)] [] := by
  unfold f_X5_change at h
  refine x_iload_n (pc := 0) hC 1 dX5_change_0 rfl rfl ?_
  refine x_if_lt (pc := 1) hC 13 dX5_change_1 (by decide) (fun c19 => ?_) (fun c19 => ?_)
  · rw [if_pos c19] at h
    refine x_pick [] rfl ?_
    exact t_X5_change_13 hls hC hl hE h
  · rw [if_neg c19] at h
    refine x_iload_n (pc := 4) hC 1 dX5_change_4 rfl rfl ?_
    refine x_aload_n (pc := 5) hC 0 dX5_change_5 rfl rfl ?_
    obtain ⟨g1, h⟩ := gd_some h
    refine x_getRv (pc := 6) (k := 0) hC fc_11 fl_RX5_9 dX5_change_6 rfl g1 (fun r2 hr2 => ?_)
    replace h := lt_x hr2 h
    obtain ⟨g3, h⟩ := gd_some h
    refine x_alenv (pc := 9) (t0 := 0) hC dX5_change_9 g3 (by decide) (fun _ => rfl) (fun x4 hx4 => ?_)
    replace h := lt_x hx4 h
    refine x_icmp_lt (pc := 10) hC 15 dX5_change_10 (by decide) (fun c18 => ?_) (fun c18 => ?_)
    · rw [if_pos c18] at h
      refine x_aload_n (pc := 15) hC 0 dX5_change_15 rfl rfl ?_
      refine x_getRv (pc := 16) (k := 0) hC fc_11 fl_RX5_9 dX5_change_16 rfl g1 (fun r5 hr5 => ?_)
      replace h := lt_x hr5 h
      refine x_iload_n (pc := 19) hC 1 dX5_change_19 rfl rfl ?_
      obtain ⟨g8, h⟩ := gd_some h
      obtain ⟨g7, h⟩ := gd_some h
      refine x_ialdv (pc := 20) hC dX5_change_20 g8 g7 (fun x9 hx9 => ?_)
      replace h := lt_x hx9 h
      refine x_istore_n (pc := 21) hC dX5_change_21 rfl (by decide) (by decide) rfl ?_
      refine x_aload_n (pc := 22) hC 1 dX5_change_22 rfl rfl ?_
      refine x_getRv (pc := 23) (k := 0) hC fc_11 fl_RX5_9 dX5_change_23 rfl g1 (fun r10 hr10 => ?_)
      replace h := lt_x hr10 h
      refine x_iload_n (pc := 26) hC 2 dX5_change_26 rfl rfl ?_
      refine x_iload_n (pc := 27) hC 3 dX5_change_27 rfl rfl ?_
      obtain ⟨g12, h⟩ := gd_some h
      obtain ⟨g11, h⟩ := gd_some h
      refine x_iastv (pc := 28) hC dX5_change_28 g12 g11 (fun S13 hS13 => ?_)
      replace h := zI_x hS13 h
      have g14 : gK S13 a0 = 11 := by rw [hS13]; exact g1
      have g15 : gK S13 r2 = 30 := by rw [hS13]; exact g3
      have g16 : gK S13 r5 = 30 := by rw [hS13]; exact g8
      have g17 : gK S13 r10 = 30 := by rw [hS13]; exact g12
      refine x_iload_n (pc := 29) hC 0 dX5_change_29 rfl rfl ?_
      exact x_ireturn (pc := 30) hC hE dX5_change_30 (so h) (Nat.le_of_ble_eq_true rfl) (Nat.le_of_ble_eq_true rfl)
    · rw [if_neg c18] at h
      refine x_pick [] rfl ?_
      exact t_X5_change_13 hls hC hl hE h
theorem c_X5_change (l : Launch) (hls : l.stackTraces = false) {S : mS} {a0 : Nat} {a1 : Int32} {a2 : Int32} {o : Rs Int32} (h : f_X5_change S a0 a1 a2 = some o) : CT (fun r : Int32 => some (.int r)) l yX5_change (.code yX5_change cX5_change 4 (Option.some Jvm.ClassFile.FieldType.int)) rm_X5_change S [.ref a0, .int a1, .int a2] o := ct_of (by decide +kernel) hls (Nat.le_of_ble_eq_true rfl) (fun C hl hC hE => t_X5_change hls hC hl hE h)
abbrev rm_X5_listen : Room := { frames := 8, cells := 0, slots := 0, locals := 150 }
def f_X5_listen (S : mS) (a0 : Nat) (a1 : Int32) : Option (Rs Unit) :=
  gd (gK S a0 = 11) (lt9 (gI S a0 2) fun x2 => lt9 (x2 + a1) fun x3 => zI (sI S a0 2 x3) fun S4 => some (.inl (), S4))
set_option maxHeartbeats 2000000 in
set_option maxRecDepth 100000 in
theorem t_X5_listen {l : Launch} (hls : l.stackTraces = false) {C : cT} (hC : CX C cX5_listen 2 yX5_listen rm_X5_listen) (hl : C.2.1 = l) {S0 : mS} (hE : CE C S0 (Option.none : Option Jvm.ClassFile.FieldType) []) {o : Rs Unit} {S : mS} {a0 : Nat} {a1 : Int32} (h : f_X5_listen S a0 a1 = some o) : XX C 2 (QQ C (fun _ : Unit => none) S0 o) 0 0 S 0 [(0, .ref a0), (1, .int a1)] [] := by
  unfold f_X5_listen at h
  refine x_aload_n (pc := 0) hC 0 dX5_listen_0 rfl rfl ?_
  refine x_dup (pc := 1) hC dX5_listen_1 rfl ?_
  obtain ⟨g1, h⟩ := gd_some h
  refine x_getIv (pc := 2) (k := 2) hC fc_11 fl_RX5_15 dX5_listen_2 rfl g1 (fun x2 hx2 => ?_)
  replace h := lt_x hx2 h
  refine x_iload_n (pc := 5) hC 1 dX5_listen_5 rfl rfl ?_
  refine x_iaddv (pc := 6) hC dX5_listen_6 (fun x3 hx3 => ?_)
  replace h := lt_x hx3 h
  refine x_putIv (pc := 7) (k := 2) hC fc_11 fl_RX5_15 dX5_listen_7 rfl rfl (nf_int _) g1 (fun S4 hS4 => ?_)
  replace h := zI_x hS4 h
  have g5 : gK S4 a0 = 11 := by rw [hS4]; exact g1
  exact x_vreturn (pc := 10) hC hE dX5_listen_10 (so h) (Nat.le_of_ble_eq_true rfl) (Nat.le_of_ble_eq_true rfl)
theorem c_X5_listen (l : Launch) (hls : l.stackTraces = false) {S : mS} {a0 : Nat} {a1 : Int32} {o : Rs Unit} (h : f_X5_listen S a0 a1 = some o) : CT (fun _ : Unit => none) l yX5_listen (.code yX5_listen cX5_listen 2 (Option.none : Option Jvm.ClassFile.FieldType)) rm_X5_listen S [.ref a0, .int a1] o := ct_of (by decide +kernel) hls (Nat.le_of_ble_eq_true rfl) (fun C hl hC hE => t_X5_listen hls hC hl hE h)
abbrev rm_X5_judge : Room := { frames := 9, cells := 0, slots := 0, locals := 172 }
def f_X5_judge_48  (S : mS) (a0 : Nat) : Option (Rs Unit) :=
  gd (gK S a0 = 11) (zI (sI S a0 2 (0 : Int32)) fun S2 => some (.inl (), S2))
set_option maxHeartbeats 2000000 in
set_option maxRecDepth 100000 in
theorem t_X5_judge_48 {l : Launch} (hls : l.stackTraces = false) {C : cT} (hC : CX C cX5_judge 4 yX5_judge rm_X5_judge) (hl : C.2.1 = l) {S0 : mS} (hE : CE C S0 (Option.none : Option Jvm.ClassFile.FieldType) []) {o : Rs Unit} {S : mS} {a0 : Nat} (h : f_X5_judge_48  S a0 = some o) : XX C 4 (QQ C (fun _ : Unit => none) S0 o) (0) (0) S 48 [(0, .ref a0)] [] := by
  unfold f_X5_judge_48 at h
  refine x_aload_n (pc := 48) hC 0 dX5_judge_48 rfl rfl ?_
  refine x_iconst (pc := 49) (v := (0 : Int32)) hC dX5_judge_49 (by decide) ?_
  obtain ⟨g1, h⟩ := gd_some h
  refine x_putIv (pc := 50) (k := 2) hC fc_11 fl_RX5_15 dX5_judge_50 rfl rfl (nf_int _) g1 (fun S2 hS2 => ?_)
  replace h := zI_x hS2 h
  have g3 : gK S2 a0 = 11 := by rw [hS2]; exact g1
  exact x_vreturn (pc := 53) hC hE dX5_judge_53 (so h) (Nat.le_of_ble_eq_true rfl) (Nat.le_of_ble_eq_true rfl)
def f_X5_judge (S : mS) (a0 : Nat) (a1 : Int32) : Option (Rs Unit) :=
  lt9 (a1 - (1 : Int32)) fun x1 => gd (¬ (360000 : Int32) = 0) (lt9 (x1 / (360000 : Int32)) fun x2 => bd (f_J9_floorMod_7cf53 S x2 (4 : Int32)) fun x4 S5 => gd (gK S5 a0 = 11) (lt9 (gI S5 a0 2) fun x9 => gd (¬ (100 : Int32) = 0) (lt9 (x9 / (100 : Int32)) fun x10 => lt9 (gR S5 a0 0) fun r12 => gd (gK S5 r12 = 30) (lt9 (Int32.ofNat (gZ S5 r12)) fun x14 => if x14 ≤ x4 then (f_X5_judge_48  S5 a0) else (lt9 (gR S5 a0 0) fun r15 => gd (gK S5 r15 = 30) (gd (¬ (x4 < 0 ∨ gZ S5 r15 ≤ (x4).toNatClampNeg)) (lt9 (gI S5 r15 (x4).toNatClampNeg) fun x19 => if x10 ≤ x19 then (f_X5_judge_48  S5 a0) else (lt9 (gI S5 a0 1) fun x20 => lt9 (x20 + (1 : Int32)) fun x21 => zI (sI S5 a0 1 x21) fun S22 => f_X5_judge_48  S22 a0))))))))
set_option maxHeartbeats 2000000 in
set_option maxRecDepth 100000 in
theorem t_X5_judge {l : Launch} (hls : l.stackTraces = false) {C : cT} (hC : CX C cX5_judge 4 yX5_judge rm_X5_judge) (hl : C.2.1 = l) {S0 : mS} (hE : CE C S0 (Option.none : Option Jvm.ClassFile.FieldType) []) {o : Rs Unit} {S : mS} {a0 : Nat} {a1 : Int32} (h : f_X5_judge S a0 a1 = some o) : XX C 4 (QQ C (fun _ : Unit => none) S0 o) 0 0 S 0 [(0, .ref a0), (1, .int a1)] [] := by
  unfold f_X5_judge at h
  refine x_iload_n (pc := 0) hC 1 dX5_judge_0 rfl rfl ?_
  refine x_iconst (pc := 1) (v := (1 : Int32)) hC dX5_judge_1 (by decide) ?_
  refine x_isubv (pc := 2) hC dX5_judge_2 (fun x1 hx1 => ?_)
  replace h := lt_x hx1 h
  refine x_ldc (pc := 3) hC wm_656 dX5_judge_3 ?_
  obtain ⟨g3, h⟩ := gd_some h
  refine x_idivv (pc := 5) hC dX5_judge_5 g3 (fun x2 hx2 => ?_)
  replace h := lt_x hx2 h
  refine x_iconst (pc := 6) (v := (4 : Int32)) hC dX5_judge_6 (by decide) ?_
  obtain ⟨o6, ho6, h⟩ := bd_some h
  refine x_callS (pc := 7) (As := [.int x2, .int (4 : Int32)]) (rest := []) hC hl (c_J9_floorMod_7cf53 l hls ho6) lk_RX5_20 dX5_judge_7 rfl rfl (Nat.le_of_ble_eq_true rfl) ⟨Nat.le_of_ble_eq_true rfl, Nat.le_of_ble_eq_true rfl⟩ ⟨(Nat.le_of_ble_eq_true rfl), (Nat.le_of_ble_eq_true rfl)⟩ ?_
  rcases o6 with ⟨x4 | E7, S5⟩
  · refine xk_i ?_
    replace h := bk_l h
    refine x_istore_n (pc := 10) hC dX5_judge_10 rfl (by decide) (by decide) rfl ?_
    refine x_aload_n (pc := 11) hC 1 dX5_judge_11 rfl rfl ?_
    obtain ⟨g8, h⟩ := gd_some h
    refine x_getIv (pc := 12) (k := 2) hC fc_11 fl_RX5_15 dX5_judge_12 rfl g8 (fun x9 hx9 => ?_)
    replace h := lt_x hx9 h
    refine x_bipush (pc := 15) (v := (100 : Int32)) hC dX5_judge_15 (by decide) ?_
    obtain ⟨g11, h⟩ := gd_some h
    refine x_idivv (pc := 17) hC dX5_judge_17 g11 (fun x10 hx10 => ?_)
    replace h := lt_x hx10 h
    refine x_istore_n (pc := 18) hC dX5_judge_18 rfl (by decide) (by decide) rfl ?_
    refine x_iload_n (pc := 19) hC 1 dX5_judge_19 rfl rfl ?_
    refine x_aload_n (pc := 20) hC 2 dX5_judge_20 rfl rfl ?_
    refine x_getRv (pc := 21) (k := 0) hC fc_11 fl_RX5_9 dX5_judge_21 rfl g8 (fun r12 hr12 => ?_)
    replace h := lt_x hr12 h
    obtain ⟨g13, h⟩ := gd_some h
    refine x_alenv (pc := 24) (t0 := 0) hC dX5_judge_24 g13 (by decide) (fun _ => rfl) (fun x14 hx14 => ?_)
    replace h := lt_x hx14 h
    refine x_icmp_ge (pc := 25) hC 48 dX5_judge_25 (by decide) (fun c27 => ?_) (fun c27 => ?_)
    · rw [if_pos c27] at h
      refine x_pick [2] rfl ?_
      exact t_X5_judge_48 hls hC hl hE h
    · rw [if_neg c27] at h
      refine x_iload_n (pc := 28) hC 0 dX5_judge_28 rfl rfl ?_
      refine x_aload_n (pc := 29) hC 2 dX5_judge_29 rfl rfl ?_
      refine x_getRv (pc := 30) (k := 0) hC fc_11 fl_RX5_9 dX5_judge_30 rfl g8 (fun r15 hr15 => ?_)
      replace h := lt_x hr15 h
      refine x_iload_n (pc := 33) hC 1 dX5_judge_33 rfl rfl ?_
      obtain ⟨g18, h⟩ := gd_some h
      obtain ⟨g17, h⟩ := gd_some h
      refine x_ialdv (pc := 34) hC dX5_judge_34 g18 g17 (fun x19 hx19 => ?_)
      replace h := lt_x hx19 h
      refine x_icmp_le (pc := 35) hC 48 dX5_judge_35 (by decide) (fun c26 => ?_) (fun c26 => ?_)
      · rw [if_pos c26] at h
        refine x_pick [2] rfl ?_
        exact t_X5_judge_48 hls hC hl hE h
      · rw [if_neg c26] at h
        refine x_aload_n (pc := 38) hC 2 dX5_judge_38 rfl rfl ?_
        refine x_dup (pc := 39) hC dX5_judge_39 rfl ?_
        refine x_getIv (pc := 40) (k := 1) hC fc_11 fl_RX5_26 dX5_judge_40 rfl g8 (fun x20 hx20 => ?_)
        replace h := lt_x hx20 h
        refine x_iconst (pc := 43) (v := (1 : Int32)) hC dX5_judge_43 (by decide) ?_
        refine x_iaddv (pc := 44) hC dX5_judge_44 (fun x21 hx21 => ?_)
        replace h := lt_x hx21 h
        refine x_putIv (pc := 45) (k := 1) hC fc_11 fl_RX5_26 dX5_judge_45 rfl rfl (nf_int _) g8 (fun S22 hS22 => ?_)
        replace h := zI_x hS22 h
        have g23 : gK S22 a0 = 11 := by rw [hS22]; exact g8
        have g24 : gK S22 r12 = 30 := by rw [hS22]; exact g13
        have g25 : gK S22 r15 = 30 := by rw [hS22]; exact g18
        refine x_pick [2] rfl ?_
        exact t_X5_judge_48 hls hC hl hE h
  · exact xk_r (xt_out hC hE (bk_r h) (Nat.le_of_ble_eq_true rfl) (Nat.le_of_ble_eq_true rfl))
theorem c_X5_judge (l : Launch) (hls : l.stackTraces = false) {S : mS} {a0 : Nat} {a1 : Int32} {o : Rs Unit} (h : f_X5_judge S a0 a1 = some o) : CT (fun _ : Unit => none) l yX5_judge (.code yX5_judge cX5_judge 4 (Option.none : Option Jvm.ClassFile.FieldType)) rm_X5_judge S [.ref a0, .int a1] o := ct_of (by decide +kernel) hls (Nat.le_of_ble_eq_true rfl) (fun C hl hC hE => t_X5_judge hls hC hl hE h)
abbrev rm_X6_init : Room := { frames := 8, cells := 2, slots := 4608, locals := 150 }
def f_X6_init (S : mS) (a0 : Nat) : Option (Rs Unit) :=
  gd (gK S a0 = 12) (gd (gN S + 1 < KB) (zW (sW S 30 4096) fun S3 => lt9 (gN S + 1) fun r4 => gd (gK S3 a0 = 12) (zR (sR S3 a0 0 r4) fun S7 => gd (gN S7 + 1 < KB) (zW (sW S7 31 512) fun S11 => lt9 (gN S7 + 1) fun r12 => gd (gK S11 a0 = 12) (zR (sR S11 a0 1 r12) fun S15 => some (.inl (), S15))))))
set_option maxHeartbeats 2000000 in
set_option maxRecDepth 100000 in
theorem t_X6_init {l : Launch} (hls : l.stackTraces = false) {C : cT} (hC : CX C cX6_init 1 yX6_init rm_X6_init) (hl : C.2.1 = l) {S0 : mS} (hE : CE C S0 (Option.none : Option Jvm.ClassFile.FieldType) []) {o : Rs Unit} {S : mS} {a0 : Nat} (h : f_X6_init S a0 = some o) : XX C 1 (QQ C (fun _ : Unit => none) S0 o) 0 0 S 0 [(0, .ref a0)] [] := by
  unfold f_X6_init at h
  refine x_aload_n (pc := 0) hC 0 dX6_init_0 rfl rfl ?_
  obtain ⟨g1, h⟩ := gd_some h
  refine x_objInit (pc := 1) hC wm_345 wm_94 wm_95 dX6_init_1 (by rw [g1]; decide) (Nat.le_of_ble_eq_true rfl) (Nat.le_of_ble_eq_true rfl) ?_
  refine x_aload_n (pc := 4) hC 0 dX6_init_4 rfl rfl ?_
  refine x_sipush (pc := 5) (v := (4096 : Int32)) hC dX6_init_5 (by decide) ?_
  obtain ⟨g2, h⟩ := gd_some h
  refine x_newaIv (pc := 8) (z := 4096) hC wm_186 dX6_init_8 (by decide) (by decide) (Nat.le_of_ble_eq_true rfl) g2 (Nat.le_of_ble_eq_true rfl) (Nat.le_of_ble_eq_true rfl) (fun S3 r4 hS3 hr4 => ?_)
  replace h := zW_x hS3 h
  replace h := lt_x hr4 h
  have g5 : gK S3 r4 = 30 := by rw [hr4, hS3]; exact sW_K
  obtain ⟨g6, h⟩ := gd_some h
  refine x_putRFv (pc := 10) (k := 0) hC fc_12 wm_346 rfl dX6_init_10 rfl rfl rfl rfl (Or.inr ⟨_, rfl⟩) g6 (fun S7 hS7 => ?_)
  replace h := zR_x hS7 h
  have g8 : gK S7 r4 = 30 := by rw [hS7]; exact g5
  have g9 : gK S7 a0 = 12 := by rw [hS7]; exact g6
  refine x_aload_n (pc := 13) hC 0 dX6_init_13 rfl rfl ?_
  refine x_sipush (pc := 14) (v := (512 : Int32)) hC dX6_init_14 (by decide) ?_
  obtain ⟨g10, h⟩ := gd_some h
  refine x_newaCv (pc := 17) (z := 512) hC wm_364 dX6_init_17 (by decide) (by decide) (Nat.le_of_ble_eq_true rfl) g10 (Nat.le_of_ble_eq_true rfl) (Nat.le_of_ble_eq_true rfl) (fun S11 r12 hS11 hr12 => ?_)
  replace h := zW_x hS11 h
  replace h := lt_x hr12 h
  have g13 : gK S11 r12 = 31 := by rw [hr12, hS11]; exact sW_K
  obtain ⟨g14, h⟩ := gd_some h
  refine x_putRFv (pc := 19) (k := 1) hC fc_12 wm_347 rfl dX6_init_19 rfl rfl rfl rfl (Or.inr ⟨_, rfl⟩) g14 (fun S15 hS15 => ?_)
  replace h := zR_x hS15 h
  have g16 : gK S15 r12 = 31 := by rw [hS15]; exact g13
  have g17 : gK S15 a0 = 12 := by rw [hS15]; exact g14
  exact x_vreturn (pc := 22) hC hE dX6_init_22 (so h) (Nat.le_of_ble_eq_true rfl) (Nat.le_of_ble_eq_true rfl)
theorem c_X6_init (l : Launch) (hls : l.stackTraces = false) {S : mS} {a0 : Nat} {o : Rs Unit} (h : f_X6_init S a0 = some o) : CT (fun _ : Unit => none) l yX6_init (.code yX6_init cX6_init 1 (Option.none : Option Jvm.ClassFile.FieldType)) rm_X6_init S [.ref a0] o := ct_of (by decide +kernel) hls (Nat.le_of_ble_eq_true rfl) (fun C hl hC hE => t_X6_init hls hC hl hE h)
abbrev rm_X6_put : Room := { frames := 8, cells := 0, slots := 0, locals := 150 }
def f_X6_put_39  (S : mS) : Option (Rs Unit) :=
  some (.inl (), S)
set_option maxHeartbeats 2000000 in
set_option maxRecDepth 100000 in
theorem t_X6_put_39 {l : Launch} (hls : l.stackTraces = false) {C : cT} (hC : CX C cX6_put 2 yX6_put rm_X6_put) (hl : C.2.1 = l) {S0 : mS} (hE : CE C S0 (Option.none : Option Jvm.ClassFile.FieldType) []) {o : Rs Unit} {S : mS} (h : f_X6_put_39  S = some o) : XX C 2 (QQ C (fun _ : Unit => none) S0 o) (0) (0) S 39 [] [] := by
  unfold f_X6_put_39 at h
  exact x_vreturn (pc := 39) hC hE dX6_put_39 (so h) (Nat.le_of_ble_eq_true rfl) (Nat.le_of_ble_eq_true rfl)
def f_X6_put (S : mS) (a0 : Nat) (a1 : Int32) : Option (Rs Unit) :=
  gd (gK S a0 = 12) (lt9 (gI S a0 4) fun x2 => if x2 < 0 then (f_X6_put_39  S) else (lt9 (gI S a0 4) fun x3 => lt9 (gR S a0 0) fun r4 => gd (gK S r4 = 30) (lt9 (Int32.ofNat (gZ S r4)) fun x6 => if x6 ≤ x3 then (f_X6_put_39  S) else (lt9 (gR S a0 0) fun r7 => lt9 (gI S a0 4) fun x8 => gd (gK S r7 = 30) (gd (¬ (x8 < 0 ∨ gZ S r7 ≤ (x8).toNatClampNeg)) (zI (sI S r7 (x8).toNatClampNeg a1) fun S11 => lt9 (gI S11 a0 4) fun x15 => lt9 (x15 + (1 : Int32)) fun x16 => zI (sI S11 a0 4 x16) fun S17 => f_X6_put_39  S17))))))
set_option maxHeartbeats 2000000 in
set_option maxRecDepth 100000 in
theorem t_X6_put {l : Launch} (hls : l.stackTraces = false) {C : cT} (hC : CX C cX6_put 2 yX6_put rm_X6_put) (hl : C.2.1 = l) {S0 : mS} (hE : CE C S0 (Option.none : Option Jvm.ClassFile.FieldType) []) {o : Rs Unit} {S : mS} {a0 : Nat} {a1 : Int32} (h : f_X6_put S a0 a1 = some o) : XX C 2 (QQ C (fun _ : Unit => none) S0 o) 0 0 S 0 [(0, .ref a0), (1, .int a1)] [] := by
  unfold f_X6_put at h
  refine x_aload_n (pc := 0) hC 0 dX6_put_0 rfl rfl ?_
  obtain ⟨g1, h⟩ := gd_some h
  refine x_getIv (pc := 1) (k := 4) hC fc_12 fl_RX6_23 dX6_put_1 rfl g1 (fun x2 hx2 => ?_)
  replace h := lt_x hx2 h
  refine x_if_lt (pc := 4) hC 39 dX6_put_4 (by decide) (fun c22 => ?_) (fun c22 => ?_)
  · rw [if_pos c22] at h
    refine x_pick [] rfl ?_
    exact t_X6_put_39 hls hC hl hE h
  · rw [if_neg c22] at h
    refine x_aload_n (pc := 7) hC 0 dX6_put_7 rfl rfl ?_
    refine x_getIv (pc := 8) (k := 4) hC fc_12 fl_RX6_23 dX6_put_8 rfl g1 (fun x3 hx3 => ?_)
    replace h := lt_x hx3 h
    refine x_aload_n (pc := 11) hC 0 dX6_put_11 rfl rfl ?_
    refine x_getRv (pc := 12) (k := 0) hC fc_12 fl_RX6_11 dX6_put_12 rfl g1 (fun r4 hr4 => ?_)
    replace h := lt_x hr4 h
    obtain ⟨g5, h⟩ := gd_some h
    refine x_alenv (pc := 15) (t0 := 0) hC dX6_put_15 g5 (by decide) (fun _ => rfl) (fun x6 hx6 => ?_)
    replace h := lt_x hx6 h
    refine x_icmp_ge (pc := 16) hC 39 dX6_put_16 (by decide) (fun c21 => ?_) (fun c21 => ?_)
    · rw [if_pos c21] at h
      refine x_pick [] rfl ?_
      exact t_X6_put_39 hls hC hl hE h
    · rw [if_neg c21] at h
      refine x_aload_n (pc := 19) hC 0 dX6_put_19 rfl rfl ?_
      refine x_getRv (pc := 20) (k := 0) hC fc_12 fl_RX6_11 dX6_put_20 rfl g1 (fun r7 hr7 => ?_)
      replace h := lt_x hr7 h
      refine x_aload_n (pc := 23) hC 0 dX6_put_23 rfl rfl ?_
      refine x_getIv (pc := 24) (k := 4) hC fc_12 fl_RX6_23 dX6_put_24 rfl g1 (fun x8 hx8 => ?_)
      replace h := lt_x hx8 h
      refine x_iload_n (pc := 27) hC 1 dX6_put_27 rfl rfl ?_
      obtain ⟨g10, h⟩ := gd_some h
      obtain ⟨g9, h⟩ := gd_some h
      refine x_iastv (pc := 28) hC dX6_put_28 g10 g9 (fun S11 hS11 => ?_)
      replace h := zI_x hS11 h
      have g12 : gK S11 a0 = 12 := by rw [hS11]; exact g1
      have g13 : gK S11 r4 = 30 := by rw [hS11]; exact g5
      have g14 : gK S11 r7 = 30 := by rw [hS11]; exact g10
      refine x_aload_n (pc := 29) hC 0 dX6_put_29 rfl rfl ?_
      refine x_dup (pc := 30) hC dX6_put_30 rfl ?_
      refine x_getIv (pc := 31) (k := 4) hC fc_12 fl_RX6_23 dX6_put_31 rfl g12 (fun x15 hx15 => ?_)
      replace h := lt_x hx15 h
      refine x_iconst (pc := 34) (v := (1 : Int32)) hC dX6_put_34 (by decide) ?_
      refine x_iaddv (pc := 35) hC dX6_put_35 (fun x16 hx16 => ?_)
      replace h := lt_x hx16 h
      refine x_putIv (pc := 36) (k := 4) hC fc_12 fl_RX6_23 dX6_put_36 rfl rfl (nf_int _) g12 (fun S17 hS17 => ?_)
      replace h := zI_x hS17 h
      have g18 : gK S17 a0 = 12 := by rw [hS17]; exact g12
      have g19 : gK S17 r4 = 30 := by rw [hS17]; exact g13
      have g20 : gK S17 r7 = 30 := by rw [hS17]; exact g14
      refine x_pick [] rfl ?_
      exact t_X6_put_39 hls hC hl hE h
theorem c_X6_put (l : Launch) (hls : l.stackTraces = false) {S : mS} {a0 : Nat} {a1 : Int32} {o : Rs Unit} (h : f_X6_put S a0 a1 = some o) : CT (fun _ : Unit => none) l yX6_put (.code yX6_put cX6_put 2 (Option.none : Option Jvm.ClassFile.FieldType)) rm_X6_put S [.ref a0, .int a1] o := ct_of (by decide +kernel) hls (Nat.le_of_ble_eq_true rfl) (fun C hl hC hE => t_X6_put hls hC hl hE h)
abbrev rm_X6_open : Room := { frames := 9, cells := 0, slots := 0, locals := 171 }
def f_X6_open_31  (S : mS) (a0 : Nat) (a1 : Int32) : Option (Rs Unit) :=
  gd (gK S a0 = 12) (bd (f_X6_put S a0 a1) fun _ S3 => some (.inl (), S3))
set_option maxHeartbeats 2000000 in
set_option maxRecDepth 100000 in
theorem t_X6_open_31 {l : Launch} (hls : l.stackTraces = false) {C : cT} (hC : CX C cX6_open 2 yX6_open rm_X6_open) (hl : C.2.1 = l) {S0 : mS} (hE : CE C S0 (Option.none : Option Jvm.ClassFile.FieldType) []) {o : Rs Unit} {S : mS} {a0 : Nat} {a1 : Int32} (h : f_X6_open_31  S a0 a1 = some o) : XX C 2 (QQ C (fun _ : Unit => none) S0 o) (0) (0) S 31 [(0, .ref a0), (1, .int a1)] [] := by
  unfold f_X6_open_31 at h
  refine x_aload_n (pc := 31) hC 0 dX6_open_31 rfl rfl ?_
  refine x_iload_n (pc := 32) hC 1 dX6_open_32 rfl rfl ?_
  obtain ⟨g1, h⟩ := gd_some h
  obtain ⟨o4, ho4, h⟩ := bd_some h
  refine x_callV (pc := 33) (As := [.int a1]) (rest := []) hC hl (c_X6_put l hls ho4) lk_RX6_26 fc_12 g1 dX6_open_33 rfl rfl (Nat.le_of_ble_eq_true rfl) ⟨Nat.le_of_ble_eq_true rfl, Nat.le_of_ble_eq_true rfl⟩ ⟨(Nat.le_of_ble_eq_true rfl), (Nat.le_of_ble_eq_true rfl)⟩ ?_
  rcases o4 with ⟨_ | E5, S3⟩
  · refine xk_v ?_
    replace h := bk_l h
    exact x_vreturn (pc := 36) hC hE dX6_open_36 (so h) (Nat.le_of_ble_eq_true rfl) (Nat.le_of_ble_eq_true rfl)
  · exact xk_r (xt_out hC hE (bk_r h) (Nat.le_of_ble_eq_true rfl) (Nat.le_of_ble_eq_true rfl))
def f_X6_open (S : mS) (a0 : Nat) (a1 : Int32) : Option (Rs Unit) :=
  gd (gK S a0 = 12) (lt9 (gI S a0 2) fun x2 => lt9 (x2 * (8 : Int32)) fun x3 => zI (sI S a0 4 x3) fun S4 => lt9 (gI S4 a0 2) fun x6 => if (512 : Int32) ≤ x6 then (f_X6_open_31  S4 a0 a1) else (lt9 (gI S4 a0 2) fun x7 => lt9 (x7 + (1 : Int32)) fun x8 => zI (sI S4 a0 2 x8) fun S9 => f_X6_open_31  S9 a0 a1))
set_option maxHeartbeats 2000000 in
set_option maxRecDepth 100000 in
theorem t_X6_open {l : Launch} (hls : l.stackTraces = false) {C : cT} (hC : CX C cX6_open 2 yX6_open rm_X6_open) (hl : C.2.1 = l) {S0 : mS} (hE : CE C S0 (Option.none : Option Jvm.ClassFile.FieldType) []) {o : Rs Unit} {S : mS} {a0 : Nat} {a1 : Int32} (h : f_X6_open S a0 a1 = some o) : XX C 2 (QQ C (fun _ : Unit => none) S0 o) 0 0 S 0 [(0, .ref a0), (1, .int a1)] [] := by
  unfold f_X6_open at h
  refine x_aload_n (pc := 0) hC 0 dX6_open_0 rfl rfl ?_
  refine x_aload_n (pc := 1) hC 0 dX6_open_1 rfl rfl ?_
  obtain ⟨g1, h⟩ := gd_some h
  refine x_getIv (pc := 2) (k := 2) hC fc_12 fl_RX6_19 dX6_open_2 rfl g1 (fun x2 hx2 => ?_)
  replace h := lt_x hx2 h
  refine x_bipush (pc := 5) (v := (8 : Int32)) hC dX6_open_5 (by decide) ?_
  refine x_imulv (pc := 7) hC dX6_open_7 (fun x3 hx3 => ?_)
  replace h := lt_x hx3 h
  refine x_putIv (pc := 8) (k := 4) hC fc_12 fl_RX6_23 dX6_open_8 rfl rfl (nf_int _) g1 (fun S4 hS4 => ?_)
  replace h := zI_x hS4 h
  have g5 : gK S4 a0 = 12 := by rw [hS4]; exact g1
  refine x_aload_n (pc := 11) hC 0 dX6_open_11 rfl rfl ?_
  refine x_getIv (pc := 12) (k := 2) hC fc_12 fl_RX6_19 dX6_open_12 rfl g5 (fun x6 hx6 => ?_)
  replace h := lt_x hx6 h
  refine x_sipush (pc := 15) (v := (512 : Int32)) hC dX6_open_15 (by decide) ?_
  refine x_icmp_ge (pc := 18) hC 31 dX6_open_18 (by decide) (fun c11 => ?_) (fun c11 => ?_)
  · rw [if_pos c11] at h
    refine x_pick [0, 1] rfl ?_
    exact t_X6_open_31 hls hC hl hE h
  · rw [if_neg c11] at h
    refine x_aload_n (pc := 21) hC 0 dX6_open_21 rfl rfl ?_
    refine x_dup (pc := 22) hC dX6_open_22 rfl ?_
    refine x_getIv (pc := 23) (k := 2) hC fc_12 fl_RX6_19 dX6_open_23 rfl g5 (fun x7 hx7 => ?_)
    replace h := lt_x hx7 h
    refine x_iconst (pc := 26) (v := (1 : Int32)) hC dX6_open_26 (by decide) ?_
    refine x_iaddv (pc := 27) hC dX6_open_27 (fun x8 hx8 => ?_)
    replace h := lt_x hx8 h
    refine x_putIv (pc := 28) (k := 2) hC fc_12 fl_RX6_19 dX6_open_28 rfl rfl (nf_int _) g5 (fun S9 hS9 => ?_)
    replace h := zI_x hS9 h
    have g10 : gK S9 a0 = 12 := by rw [hS9]; exact g5
    refine x_pick [0, 1] rfl ?_
    exact t_X6_open_31 hls hC hl hE h
theorem c_X6_open (l : Launch) (hls : l.stackTraces = false) {S : mS} {a0 : Nat} {a1 : Int32} {o : Rs Unit} (h : f_X6_open S a0 a1 = some o) : CT (fun _ : Unit => none) l yX6_open (.code yX6_open cX6_open 2 (Option.none : Option Jvm.ClassFile.FieldType)) rm_X6_open S [.ref a0, .int a1] o := ct_of (by decide +kernel) hls (Nat.le_of_ble_eq_true rfl) (fun C hl hC hE => t_X6_open hls hC hl hE h)
abbrev rm_X6_note : Room := { frames := 10, cells := 0, slots := 0, locals := 192 }
def f_X6_note (S : mS) (a0 : Nat) (a1 : Int32) (a2 : Int32) (a3 : Int32) (a4 : Int32) : Option (Rs Unit) :=
  gd (gK S a0 = 12) (bd (f_X6_open S a0 a1) fun _ S3 => gd (gK S3 a0 = 12) (bd (f_X6_put S3 a0 a2) fun _ S8 => gd (gK S8 a0 = 12) (bd (f_X6_put S8 a0 a3) fun _ S13 => gd (gK S13 a0 = 12) (bd (f_X6_put S13 a0 a4) fun _ S18 => some (.inl (), S18)))))
set_option maxHeartbeats 2000000 in
set_option maxRecDepth 100000 in
theorem t_X6_note {l : Launch} (hls : l.stackTraces = false) {C : cT} (hC : CX C cX6_note 5 yX6_note rm_X6_note) (hl : C.2.1 = l) {S0 : mS} (hE : CE C S0 (Option.none : Option Jvm.ClassFile.FieldType) []) {o : Rs Unit} {S : mS} {a0 : Nat} {a1 : Int32} {a2 : Int32} {a3 : Int32} {a4 : Int32} (h : f_X6_note S a0 a1 a2 a3 a4 = some o) : XX C 5 (QQ C (fun _ : Unit => none) S0 o) 0 0 S 0 [(0, .ref a0), (1, .int a1), (2, .int a2), (3, .int a3), (4, .int a4)] [] := by
  unfold f_X6_note at h
  refine x_aload_n (pc := 0) hC 0 dX6_note_0 rfl rfl ?_
  refine x_iload_n (pc := 1) hC 1 dX6_note_1 rfl rfl ?_
  obtain ⟨g1, h⟩ := gd_some h
  obtain ⟨o4, ho4, h⟩ := bd_some h
  refine x_callV (pc := 2) (As := [.int a1]) (rest := []) hC hl (c_X6_open l hls ho4) lk_RX6_30 fc_12 g1 dX6_note_2 rfl rfl (Nat.le_of_ble_eq_true rfl) ⟨Nat.le_of_ble_eq_true rfl, Nat.le_of_ble_eq_true rfl⟩ ⟨(Nat.le_of_ble_eq_true rfl), (Nat.le_of_ble_eq_true rfl)⟩ ?_
  rcases o4 with ⟨_ | E5, S3⟩
  · refine xk_v ?_
    replace h := bk_l h
    refine x_aload_n (pc := 5) hC 0 dX6_note_5 rfl rfl ?_
    refine x_iload_n (pc := 6) hC 2 dX6_note_6 rfl rfl ?_
    obtain ⟨g6, h⟩ := gd_some h
    obtain ⟨o9, ho9, h⟩ := bd_some h
    refine x_callV (pc := 7) (As := [.int a2]) (rest := []) hC hl (c_X6_put l hls ho9) lk_RX6_26 fc_12 g6 dX6_note_7 rfl rfl (Nat.le_of_ble_eq_true rfl) ⟨Nat.le_of_ble_eq_true rfl, Nat.le_of_ble_eq_true rfl⟩ ⟨(Nat.le_of_ble_eq_true rfl), (Nat.le_of_ble_eq_true rfl)⟩ ?_
    rcases o9 with ⟨_ | E10, S8⟩
    · refine xk_v ?_
      replace h := bk_l h
      refine x_aload_n (pc := 10) hC 0 dX6_note_10 rfl rfl ?_
      refine x_iload_n (pc := 11) hC 3 dX6_note_11 rfl rfl ?_
      obtain ⟨g11, h⟩ := gd_some h
      obtain ⟨o14, ho14, h⟩ := bd_some h
      refine x_callV (pc := 12) (As := [.int a3]) (rest := []) hC hl (c_X6_put l hls ho14) lk_RX6_26 fc_12 g11 dX6_note_12 rfl rfl (Nat.le_of_ble_eq_true rfl) ⟨Nat.le_of_ble_eq_true rfl, Nat.le_of_ble_eq_true rfl⟩ ⟨(Nat.le_of_ble_eq_true rfl), (Nat.le_of_ble_eq_true rfl)⟩ ?_
      rcases o14 with ⟨_ | E15, S13⟩
      · refine xk_v ?_
        replace h := bk_l h
        refine x_aload_n (pc := 15) hC 0 dX6_note_15 rfl rfl ?_
        refine x_iload (pc := 16) hC 4 dX6_note_16 rfl ?_
        obtain ⟨g16, h⟩ := gd_some h
        obtain ⟨o19, ho19, h⟩ := bd_some h
        refine x_callV (pc := 18) (As := [.int a4]) (rest := []) hC hl (c_X6_put l hls ho19) lk_RX6_26 fc_12 g16 dX6_note_18 rfl rfl (Nat.le_of_ble_eq_true rfl) ⟨Nat.le_of_ble_eq_true rfl, Nat.le_of_ble_eq_true rfl⟩ ⟨(Nat.le_of_ble_eq_true rfl), (Nat.le_of_ble_eq_true rfl)⟩ ?_
        rcases o19 with ⟨_ | E20, S18⟩
        · refine xk_v ?_
          replace h := bk_l h
          exact x_vreturn (pc := 21) hC hE dX6_note_21 (so h) (Nat.le_of_ble_eq_true rfl) (Nat.le_of_ble_eq_true rfl)
        · exact xk_r (xt_out hC hE (bk_r h) (Nat.le_of_ble_eq_true rfl) (Nat.le_of_ble_eq_true rfl))
      · exact xk_r (xt_out hC hE (bk_r h) (Nat.le_of_ble_eq_true rfl) (Nat.le_of_ble_eq_true rfl))
    · exact xk_r (xt_out hC hE (bk_r h) (Nat.le_of_ble_eq_true rfl) (Nat.le_of_ble_eq_true rfl))
  · exact xk_r (xt_out hC hE (bk_r h) (Nat.le_of_ble_eq_true rfl) (Nat.le_of_ble_eq_true rfl))
theorem c_X6_note (l : Launch) (hls : l.stackTraces = false) {S : mS} {a0 : Nat} {a1 : Int32} {a2 : Int32} {a3 : Int32} {a4 : Int32} {o : Rs Unit} (h : f_X6_note S a0 a1 a2 a3 a4 = some o) : CT (fun _ : Unit => none) l yX6_note (.code yX6_note cX6_note 5 (Option.none : Option Jvm.ClassFile.FieldType)) rm_X6_note S [.ref a0, .int a1, .int a2, .int a3, .int a4] o := ct_of (by decide +kernel) hls (Nat.le_of_ble_eq_true rfl) (fun C hl hC hE => t_X6_note hls hC hl hE h)
abbrev rm_X6_noteText : Room := { frames := 8, cells := 0, slots := 0, locals := 150 }
def f_X6_noteText_69  (S : mS) (a3 : Int32) : Option (Rs Int32) :=
  some (.inl a3, S)
set_option maxHeartbeats 2000000 in
set_option maxRecDepth 100000 in
theorem t_X6_noteText_69 {l : Launch} (hls : l.stackTraces = false) {C : cT} (hC : CX C cX6_noteText 5 yX6_noteText rm_X6_noteText) (hl : C.2.1 = l) {S0 : mS} (hE : CE C S0 (Option.some Jvm.ClassFile.FieldType.int) []) {o : Rs Int32} {S : mS} {a3 : Int32} (h : f_X6_noteText_69  S a3 = some o) : XX C 5 (QQ C (fun r : Int32 => some (.int r)) S0 o) (0) (0) S 69 [(3, .int a3)] [] := by
  unfold f_X6_noteText_69 at h
  refine x_iload_n (pc := 69) hC 0 dX6_noteText_69 rfl rfl ?_
  exact x_ireturn (pc := 70) hC hE dX6_noteText_70 (so h) (Nat.le_of_ble_eq_true rfl) (Nat.le_of_ble_eq_true rfl)
def f_X6_noteText_63 (rc8 : mS → Nat → Nat → Int32 → Int32 → Int32 → Option (Rs Int32)) (S : mS) (a0 : Nat) (a1 : Nat) (a2 : Int32) (a3 : Int32) (a4 : Int32) : Option (Rs Int32) :=
  lt9 (a4 + Int32.ofInt (1)) fun x1 => rc8 S a0 a1 a2 a3 x1
set_option maxHeartbeats 2000000 in
set_option maxRecDepth 100000 in
theorem t_X6_noteText_63 {l : Launch} (hls : l.stackTraces = false) {C : cT} (hC : CX C cX6_noteText 5 yX6_noteText rm_X6_noteText) (hl : C.2.1 = l) {S0 : mS} (hE : CE C S0 (Option.some Jvm.ClassFile.FieldType.int) []) {o : Rs Int32} {rc8 : mS → Nat → Nat → Int32 → Int32 → Int32 → Option (Rs Int32)} (hrc8 : ∀ (S : mS) (a0 : Nat) (a1 : Nat) (a2 : Int32) (a3 : Int32) (a4 : Int32), rc8 S a0 a1 a2 a3 a4 = some o → XX C 5 (QQ C (fun r : Int32 => some (.int r)) S0 o) (0) (0) S 8 [(0, .ref a0), (1, .ref a1), (2, .int a2), (3, .int a3), (4, .int a4)] []) {S : mS} {a0 : Nat} {a1 : Nat} {a2 : Int32} {a3 : Int32} {a4 : Int32} (h : f_X6_noteText_63 rc8 S a0 a1 a2 a3 a4 = some o) : XX C 5 (QQ C (fun r : Int32 => some (.int r)) S0 o) (0) (0) S 63 [(0, .ref a0), (1, .ref a1), (2, .int a2), (3, .int a3), (4, .int a4)] [] := by
  unfold f_X6_noteText_63 at h
  obtain ⟨x1, hx1⟩ : ∃ z, z = (a4 + Int32.ofInt (1)) := ⟨_, rfl⟩
  replace h := lt_x hx1 h
  refine x_iinc (pc := 63) hC 4 dX6_noteText_63 rfl hx1.symm (by decide) (by decide) rfl ?_
  refine x_goto (pc := 66) hC 8 dX6_noteText_66 (by decide) ?_
  refine x_pick [1, 2, 3, 4, 0] rfl ?_
  exact hrc8 _ _ _ _ _ _ h
def f_X6_noteText_8  : Nat → mS → Nat → Nat → Int32 → Int32 → Int32 → Option (Rs Int32)
  | 0, _, _, _, _, _, _ => none
  | k + 1, S, a0, a1, a2, a3, a4 => if a2 ≤ a4 then (f_X6_noteText_69  S a3) else (gd (gK S a1 = 31) (lt9 (Int32.ofNat (gZ S a1)) fun x2 => if x2 ≤ a4 then (f_X6_noteText_69  S a3) else (gd (gK S a0 = 12) (lt9 (gI S a0 3) fun x4 => if x4 < 0 then (f_X6_noteText_63 (f_X6_noteText_8 k) S a0 a1 a2 a3 a4) else (lt9 (gI S a0 3) fun x5 => lt9 (gR S a0 1) fun r6 => gd (gK S r6 = 31) (lt9 (Int32.ofNat (gZ S r6)) fun x8 => if x8 ≤ x5 then (f_X6_noteText_63 (f_X6_noteText_8 k) S a0 a1 a2 a3 a4) else (lt9 (gR S a0 1) fun r9 => lt9 (gI S a0 3) fun x10 => gd (¬ (a4 < 0 ∨ gZ S a1 ≤ (a4).toNatClampNeg)) (lt9 (gI S a1 (a4).toNatClampNeg) fun x13 => gd (gK S r9 = 31) (gd (¬ (x10 < 0 ∨ gZ S r9 ≤ (x10).toNatClampNeg)) (gd ((x13.toUInt32.toUInt16.toUInt32.toInt32 = x13 ∧ 0 ≤ x13) ∧ x13 ≤ 65535) (zI (sI S r9 (x10).toNatClampNeg x13) fun S16 => lt9 (gI S16 a0 3) fun x22 => lt9 (x22 + (1 : Int32)) fun x23 => zI (sI S16 a0 3 x23) fun S24 => f_X6_noteText_63 (f_X6_noteText_8 k) S24 a0 a1 a2 a3 a4)))))))))))
set_option maxHeartbeats 2000000 in
set_option maxRecDepth 100000 in
theorem t_X6_noteText_8 {l : Launch} (hls : l.stackTraces = false) {C : cT} (hC : CX C cX6_noteText 5 yX6_noteText rm_X6_noteText) (hl : C.2.1 = l) {S0 : mS} (hE : CE C S0 (Option.some Jvm.ClassFile.FieldType.int) []) {o : Rs Int32} : ∀ (k : Nat) (S : mS) (a0 : Nat) (a1 : Nat) (a2 : Int32) (a3 : Int32) (a4 : Int32), f_X6_noteText_8  k S a0 a1 a2 a3 a4 = some o → XX C 5 (QQ C (fun r : Int32 => some (.int r)) S0 o) (0) (0) S 8 [(0, .ref a0), (1, .ref a1), (2, .int a2), (3, .int a3), (4, .int a4)] [] := by
  intro k
  induction k with
  | zero => intro S a0 a1 a2 a3 a4 h; cases h
  | succ k ih =>
    intro S a0 a1 a2 a3 a4 h
    unfold f_X6_noteText_8 at h
    refine x_iload (pc := 8) hC 4 dX6_noteText_8 rfl ?_
    refine x_iload_n (pc := 10) hC 2 dX6_noteText_10 rfl rfl ?_
    refine x_icmp_ge (pc := 11) hC 69 dX6_noteText_11 (by decide) (fun c32 => ?_) (fun c32 => ?_)
    · rw [if_pos c32] at h
      refine x_pick [3] rfl ?_
      exact t_X6_noteText_69 hls hC hl hE h
    · rw [if_neg c32] at h
      refine x_iload (pc := 14) hC 4 dX6_noteText_14 rfl ?_
      refine x_aload_n (pc := 16) hC 1 dX6_noteText_16 rfl rfl ?_
      obtain ⟨g1, h⟩ := gd_some h
      refine x_alenv (pc := 17) (t0 := 1) hC dX6_noteText_17 g1 (by decide) (fun _ => rfl) (fun x2 hx2 => ?_)
      replace h := lt_x hx2 h
      refine x_icmp_ge (pc := 18) hC 69 dX6_noteText_18 (by decide) (fun c31 => ?_) (fun c31 => ?_)
      · rw [if_pos c31] at h
        refine x_pick [3] rfl ?_
        exact t_X6_noteText_69 hls hC hl hE h
      · rw [if_neg c31] at h
        refine x_aload_n (pc := 21) hC 0 dX6_noteText_21 rfl rfl ?_
        obtain ⟨g3, h⟩ := gd_some h
        refine x_getIv (pc := 22) (k := 3) hC fc_12 fl_RX6_33 dX6_noteText_22 rfl g3 (fun x4 hx4 => ?_)
        replace h := lt_x hx4 h
        refine x_if_lt (pc := 25) hC 63 dX6_noteText_25 (by decide) (fun c30 => ?_) (fun c30 => ?_)
        · rw [if_pos c30] at h
          refine x_pick [0, 1, 2, 3, 4] rfl ?_
          exact t_X6_noteText_63 hls hC hl hE (fun z0 z1 z2 z3 z4 z5 hz => ih z0 z1 z2 z3 z4 z5 hz) h
        · rw [if_neg c30] at h
          refine x_aload_n (pc := 28) hC 0 dX6_noteText_28 rfl rfl ?_
          refine x_getIv (pc := 29) (k := 3) hC fc_12 fl_RX6_33 dX6_noteText_29 rfl g3 (fun x5 hx5 => ?_)
          replace h := lt_x hx5 h
          refine x_aload_n (pc := 32) hC 0 dX6_noteText_32 rfl rfl ?_
          refine x_getRv (pc := 33) (k := 1) hC fc_12 fl_RX6_15 dX6_noteText_33 rfl g3 (fun r6 hr6 => ?_)
          replace h := lt_x hr6 h
          obtain ⟨g7, h⟩ := gd_some h
          refine x_alenv (pc := 36) (t0 := 1) hC dX6_noteText_36 g7 (by decide) (fun _ => rfl) (fun x8 hx8 => ?_)
          replace h := lt_x hx8 h
          refine x_icmp_ge (pc := 37) hC 63 dX6_noteText_37 (by decide) (fun c29 => ?_) (fun c29 => ?_)
          · rw [if_pos c29] at h
            refine x_pick [0, 1, 2, 3, 4] rfl ?_
            exact t_X6_noteText_63 hls hC hl hE (fun z0 z1 z2 z3 z4 z5 hz => ih z0 z1 z2 z3 z4 z5 hz) h
          · rw [if_neg c29] at h
            refine x_aload_n (pc := 40) hC 0 dX6_noteText_40 rfl rfl ?_
            refine x_getRv (pc := 41) (k := 1) hC fc_12 fl_RX6_15 dX6_noteText_41 rfl g3 (fun r9 hr9 => ?_)
            replace h := lt_x hr9 h
            refine x_aload_n (pc := 44) hC 0 dX6_noteText_44 rfl rfl ?_
            refine x_getIv (pc := 45) (k := 3) hC fc_12 fl_RX6_33 dX6_noteText_45 rfl g3 (fun x10 hx10 => ?_)
            replace h := lt_x hx10 h
            refine x_aload_n (pc := 48) hC 1 dX6_noteText_48 rfl rfl ?_
            refine x_iload (pc := 49) hC 4 dX6_noteText_49 rfl ?_
            obtain ⟨g12, h⟩ := gd_some h
            refine x_caldv (pc := 51) hC dX6_noteText_51 g1 g12 (fun x13 hx13 => ?_)
            replace h := lt_x hx13 h
            obtain ⟨g15, h⟩ := gd_some h
            obtain ⟨g14, h⟩ := gd_some h
            obtain ⟨g17, h⟩ := gd_some h
            refine x_castv (pc := 52) hC dX6_noteText_52 (nf_C g17).1 g15 g14 (fun S16 hS16 => ?_)
            replace h := zI_x hS16 h
            have g18 : gK S16 a1 = 31 := by rw [hS16]; exact g1
            have g19 : gK S16 a0 = 12 := by rw [hS16]; exact g3
            have g20 : gK S16 r6 = 31 := by rw [hS16]; exact g7
            have g21 : gK S16 r9 = 31 := by rw [hS16]; exact g15
            refine x_aload_n (pc := 53) hC 0 dX6_noteText_53 rfl rfl ?_
            refine x_dup (pc := 54) hC dX6_noteText_54 rfl ?_
            refine x_getIv (pc := 55) (k := 3) hC fc_12 fl_RX6_33 dX6_noteText_55 rfl g19 (fun x22 hx22 => ?_)
            replace h := lt_x hx22 h
            refine x_iconst (pc := 58) (v := (1 : Int32)) hC dX6_noteText_58 (by decide) ?_
            refine x_iaddv (pc := 59) hC dX6_noteText_59 (fun x23 hx23 => ?_)
            replace h := lt_x hx23 h
            refine x_putIv (pc := 60) (k := 3) hC fc_12 fl_RX6_33 dX6_noteText_60 rfl rfl (nf_int _) g19 (fun S24 hS24 => ?_)
            replace h := zI_x hS24 h
            have g25 : gK S24 a1 = 31 := by rw [hS24]; exact g18
            have g26 : gK S24 a0 = 12 := by rw [hS24]; exact g19
            have g27 : gK S24 r6 = 31 := by rw [hS24]; exact g20
            have g28 : gK S24 r9 = 31 := by rw [hS24]; exact g21
            refine x_pick [0, 1, 2, 3, 4] rfl ?_
            exact t_X6_noteText_63 hls hC hl hE (fun z0 z1 z2 z3 z4 z5 hz => ih z0 z1 z2 z3 z4 z5 hz) h
def f_X6_noteText (S : mS) (a0 : Nat) (a1 : Nat) (a2 : Int32) : Option (Rs Int32) :=
  gd (gK S a0 = 12) (lt9 (gI S a0 3) fun x2 => f_X6_noteText_8  16 S a0 a1 a2 x2 (0 : Int32))
set_option maxHeartbeats 2000000 in
set_option maxRecDepth 100000 in
theorem t_X6_noteText {l : Launch} (hls : l.stackTraces = false) {C : cT} (hC : CX C cX6_noteText 5 yX6_noteText rm_X6_noteText) (hl : C.2.1 = l) {S0 : mS} (hE : CE C S0 (Option.some Jvm.ClassFile.FieldType.int) []) {o : Rs Int32} {S : mS} {a0 : Nat} {a1 : Nat} {a2 : Int32} (h : f_X6_noteText S a0 a1 a2 = some o) : XX C 5 (QQ C (fun r : Int32 => some (.int r)) S0 o) 0 0 S 0 [(0, .ref a0), (1, .ref a1), (2, .int a2)] [] := by
  unfold f_X6_noteText at h
  refine x_aload_n (pc := 0) hC 0 dX6_noteText_0 rfl rfl ?_
  obtain ⟨g1, h⟩ := gd_some h
  refine x_getIv (pc := 1) (k := 3) hC fc_12 fl_RX6_33 dX6_noteText_1 rfl g1 (fun x2 hx2 => ?_)
  replace h := lt_x hx2 h
  refine x_istore_n (pc := 4) hC dX6_noteText_4 rfl (by decide) (by decide) rfl ?_
  refine x_iconst (pc := 5) (v := (0 : Int32)) hC dX6_noteText_5 (by decide) ?_
  refine x_istore (pc := 6) hC dX6_noteText_6 (by decide) (by decide) rfl ?_
  refine x_pick [2, 3, 4, 1, 0] rfl ?_
  exact t_X6_noteText_8 hls hC hl hE 16 _ _ _ _ _ _ h
theorem c_X6_noteText (l : Launch) (hls : l.stackTraces = false) {S : mS} {a0 : Nat} {a1 : Nat} {a2 : Int32} {o : Rs Int32} (h : f_X6_noteText S a0 a1 a2 = some o) : CT (fun r : Int32 => some (.int r)) l yX6_noteText (.code yX6_noteText cX6_noteText 5 (Option.some Jvm.ClassFile.FieldType.int)) rm_X6_noteText S [.ref a0, .ref a1, .int a2] o := ct_of (by decide +kernel) hls (Nat.le_of_ble_eq_true rfl) (fun C hl hC hE => t_X6_noteText hls hC hl hE h)
abbrev rm_X6_numberAt : Room := { frames := 8, cells := 0, slots := 0, locals := 150 }
def f_X6_numberAt_30  (S : mS) (s0 : Int32) : Option (Rs Int32) :=
  some (.inl s0, S)
set_option maxHeartbeats 2000000 in
set_option maxRecDepth 100000 in
theorem t_X6_numberAt_30 {l : Launch} (hls : l.stackTraces = false) {C : cT} (hC : CX C cX6_numberAt 4 yX6_numberAt rm_X6_numberAt) (hl : C.2.1 = l) {S0 : mS} (hE : CE C S0 (Option.some Jvm.ClassFile.FieldType.int) []) {o : Rs Int32} {S : mS} {s0 : Int32} (h : f_X6_numberAt_30  S s0 = some o) : XX C 4 (QQ C (fun r : Int32 => some (.int r)) S0 o) (0) (0) S 30 [] [.int s0] := by
  unfold f_X6_numberAt_30 at h
  exact x_ireturn (pc := 30) hC hE dX6_numberAt_30 (so h) (Nat.le_of_ble_eq_true rfl) (Nat.le_of_ble_eq_true rfl)
def f_X6_numberAt_29  (S : mS) : Option (Rs Int32) :=
  f_X6_numberAt_30  S (0 : Int32)
set_option maxHeartbeats 2000000 in
set_option maxRecDepth 100000 in
theorem t_X6_numberAt_29 {l : Launch} (hls : l.stackTraces = false) {C : cT} (hC : CX C cX6_numberAt 4 yX6_numberAt rm_X6_numberAt) (hl : C.2.1 = l) {S0 : mS} (hE : CE C S0 (Option.some Jvm.ClassFile.FieldType.int) []) {o : Rs Int32} {S : mS} (h : f_X6_numberAt_29  S = some o) : XX C 4 (QQ C (fun r : Int32 => some (.int r)) S0 o) (0) (0) S 29 [] [] := by
  unfold f_X6_numberAt_29 at h
  refine x_iconst (pc := 29) (v := (0 : Int32)) hC dX6_numberAt_29 (by decide) ?_
  refine x_pick [] rfl ?_
  exact t_X6_numberAt_30 hls hC hl hE h
def f_X6_numberAt (S : mS) (a0 : Nat) (a1 : Int32) (a2 : Int32) : Option (Rs Int32) :=
  lt9 (a1 * (8 : Int32)) fun x1 => lt9 (x1 + a2) fun x2 => if x2 < 0 then (f_X6_numberAt_29  S) else (gd (gK S a0 = 12) (lt9 (gR S a0 0) fun r4 => gd (gK S r4 = 30) (lt9 (Int32.ofNat (gZ S r4)) fun x6 => if x6 ≤ x2 then (f_X6_numberAt_29  S) else (lt9 (gR S a0 0) fun r7 => gd (gK S r7 = 30) (gd (¬ (x2 < 0 ∨ gZ S r7 ≤ (x2).toNatClampNeg)) (lt9 (gI S r7 (x2).toNatClampNeg) fun x11 => f_X6_numberAt_30  S x11))))))
set_option maxHeartbeats 2000000 in
set_option maxRecDepth 100000 in
theorem t_X6_numberAt {l : Launch} (hls : l.stackTraces = false) {C : cT} (hC : CX C cX6_numberAt 4 yX6_numberAt rm_X6_numberAt) (hl : C.2.1 = l) {S0 : mS} (hE : CE C S0 (Option.some Jvm.ClassFile.FieldType.int) []) {o : Rs Int32} {S : mS} {a0 : Nat} {a1 : Int32} {a2 : Int32} (h : f_X6_numberAt S a0 a1 a2 = some o) : XX C 4 (QQ C (fun r : Int32 => some (.int r)) S0 o) 0 0 S 0 [(0, .ref a0), (1, .int a1), (2, .int a2)] [] := by
  unfold f_X6_numberAt at h
  refine x_iload_n (pc := 0) hC 1 dX6_numberAt_0 rfl rfl ?_
  refine x_bipush (pc := 1) (v := (8 : Int32)) hC dX6_numberAt_1 (by decide) ?_
  refine x_imulv (pc := 3) hC dX6_numberAt_3 (fun x1 hx1 => ?_)
  replace h := lt_x hx1 h
  refine x_iload_n (pc := 4) hC 2 dX6_numberAt_4 rfl rfl ?_
  refine x_iaddv (pc := 5) hC dX6_numberAt_5 (fun x2 hx2 => ?_)
  replace h := lt_x hx2 h
  refine x_istore_n (pc := 6) hC dX6_numberAt_6 rfl (by decide) (by decide) rfl ?_
  refine x_iload_n (pc := 7) hC 0 dX6_numberAt_7 rfl rfl ?_
  refine x_if_lt (pc := 8) hC 29 dX6_numberAt_8 (by decide) (fun c13 => ?_) (fun c13 => ?_)
  · rw [if_pos c13] at h
    refine x_pick [] rfl ?_
    exact t_X6_numberAt_29 hls hC hl hE h
  · rw [if_neg c13] at h
    refine x_iload_n (pc := 11) hC 0 dX6_numberAt_11 rfl rfl ?_
    refine x_aload_n (pc := 12) hC 1 dX6_numberAt_12 rfl rfl ?_
    obtain ⟨g3, h⟩ := gd_some h
    refine x_getRv (pc := 13) (k := 0) hC fc_12 fl_RX6_11 dX6_numberAt_13 rfl g3 (fun r4 hr4 => ?_)
    replace h := lt_x hr4 h
    obtain ⟨g5, h⟩ := gd_some h
    refine x_alenv (pc := 16) (t0 := 0) hC dX6_numberAt_16 g5 (by decide) (fun _ => rfl) (fun x6 hx6 => ?_)
    replace h := lt_x hx6 h
    refine x_icmp_ge (pc := 17) hC 29 dX6_numberAt_17 (by decide) (fun c12 => ?_) (fun c12 => ?_)
    · rw [if_pos c12] at h
      refine x_pick [] rfl ?_
      exact t_X6_numberAt_29 hls hC hl hE h
    · rw [if_neg c12] at h
      refine x_aload_n (pc := 20) hC 1 dX6_numberAt_20 rfl rfl ?_
      refine x_getRv (pc := 21) (k := 0) hC fc_12 fl_RX6_11 dX6_numberAt_21 rfl g3 (fun r7 hr7 => ?_)
      replace h := lt_x hr7 h
      refine x_iload_n (pc := 24) hC 0 dX6_numberAt_24 rfl rfl ?_
      obtain ⟨g10, h⟩ := gd_some h
      obtain ⟨g9, h⟩ := gd_some h
      refine x_ialdv (pc := 25) hC dX6_numberAt_25 g10 g9 (fun x11 hx11 => ?_)
      replace h := lt_x hx11 h
      refine x_goto (pc := 26) hC 30 dX6_numberAt_26 (by decide) ?_
      refine x_pick [] rfl ?_
      exact t_X6_numberAt_30 hls hC hl hE h
theorem c_X6_numberAt (l : Launch) (hls : l.stackTraces = false) {S : mS} {a0 : Nat} {a1 : Int32} {a2 : Int32} {o : Rs Int32} (h : f_X6_numberAt S a0 a1 a2 = some o) : CT (fun r : Int32 => some (.int r)) l yX6_numberAt (.code yX6_numberAt cX6_numberAt 4 (Option.some Jvm.ClassFile.FieldType.int)) rm_X6_numberAt S [.ref a0, .int a1, .int a2] o := ct_of (by decide +kernel) hls (Nat.le_of_ble_eq_true rfl) (fun C hl hC hE => t_X6_numberAt hls hC hl hE h)
end P20LEAFX
