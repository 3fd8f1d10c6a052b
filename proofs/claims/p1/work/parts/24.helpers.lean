section P24HELPERS
abbrev rm_L_addRecord : Room := { frames := 11, cells := 4, slots := 24, locals := 231 }
abbrev hh_L_addRecord : List (Nat × Nat × Nat × Nat) := [((0 : Nat), (20 : Nat), (23 : Nat), (13 : Nat)), ((0 : Nat), (20 : Nat), (27 : Nat), (15 : Nat))]
def f_L_addRecord (S : mS) (a0 : Nat) (a1 : Int32) (a2 : Int32) (a3 : Int32) (a4 : Int32) (a5 : Int32) (a6 : Int32) (a7 : Int32) (a8 : Nat) : Option (Rs Int32) :=
  gd (gK S a0 = 16) (bdc (f_X10_addRecord S a0 a1 a2 a3 a4 a5 a6 a7) (fun E S => if E = "java/lang/IllegalArgumentException" then some (.inl (1 : Int32), S) else if E = "java/lang/IllegalStateException" then some (.inl (2 : Int32), S) else none) fun x2 S3 => lt9 ((x2).toInt64) fun x6 => gd (gK S3 a8 = 38) (gd (¬ ((0 : Int32) < 0 ∨ gZ S3 a8 ≤ ((0 : Int32)).toNatClampNeg)) (zL (sL S3 a8 ((0 : Int32)).toNatClampNeg x6) fun S9 => some (.inl (0 : Int32), S9))))
set_option maxHeartbeats 2000000 in
set_option maxRecDepth 100000 in
theorem t_L_addRecord {l : Launch} (hls : l.stackTraces = false) {C : cT} (hC : CX C cL_addRecord 10 yL_addRecord rm_L_addRecord) (hl : C.2.1 = l) {S0 : mS} (hE : CE C S0 (Option.some Jvm.ClassFile.FieldType.int) (tableOf hh_L_addRecord)) {o : Rs Int32} {S : mS} {a0 : Nat} {a1 : Int32} {a2 : Int32} {a3 : Int32} {a4 : Int32} {a5 : Int32} {a6 : Int32} {a7 : Int32} {a8 : Nat} (h : f_L_addRecord S a0 a1 a2 a3 a4 a5 a6 a7 a8 = some o) : XX C 10 (QQ C (fun r : Int32 => some (.int r)) S0 o) 0 0 S 0 [(0, .ref a0), (1, .int a1), (2, .int a2), (3, .int a3), (4, .int a4), (5, .int a5), (6, .int a6), (7, .int a7), (8, .ref a8)] [] := by
  unfold f_L_addRecord at h
  refine x_aload (pc := 0) hC 8 dL_addRecord_0 rfl ?_
  refine x_iconst (pc := 2) (v := (0 : Int32)) hC dL_addRecord_2 (by decide) ?_
  refine x_aload_n (pc := 3) hC 0 dL_addRecord_3 rfl rfl ?_
  refine x_iload_n (pc := 4) hC 1 dL_addRecord_4 rfl rfl ?_
  refine x_iload_n (pc := 5) hC 2 dL_addRecord_5 rfl rfl ?_
  refine x_iload_n (pc := 6) hC 3 dL_addRecord_6 rfl rfl ?_
  refine x_iload (pc := 7) hC 4 dL_addRecord_7 rfl ?_
  refine x_iload (pc := 9) hC 5 dL_addRecord_9 rfl ?_
  refine x_iload (pc := 11) hC 6 dL_addRecord_11 rfl ?_
  refine x_iload (pc := 13) hC 7 dL_addRecord_13 rfl ?_
  obtain ⟨g1, h⟩ := gd_some h
  obtain ⟨o4, ho4, h⟩ := bdc_some h
  refine x_callV (pc := 15) (As := [.int a1, .int a2, .int a3, .int a4, .int a5, .int a6, .int a7]) (rest := [.int (0 : Int32), .ref a8]) hC hl (c_X10_addRecord l hls ho4) lk_RL_7 fc_16 g1 dL_addRecord_15 rfl rfl (Nat.le_of_ble_eq_true rfl) ⟨Nat.le_of_ble_eq_true rfl, Nat.le_of_ble_eq_true rfl⟩ ⟨(Nat.le_of_ble_eq_true rfl), (Nat.le_of_ble_eq_true rfl)⟩ ?_
  rcases o4 with ⟨x2 | E5, S3⟩
  · refine xk_i ?_
    replace h := bdc_l h
    refine x_i2lv (pc := 18) hC dL_addRecord_18 (fun x6 hx6 => ?_)
    replace h := lt_x hx6 h
    obtain ⟨g8, h⟩ := gd_some h
    obtain ⟨g7, h⟩ := gd_some h
    refine x_lastv (pc := 19) hC dL_addRecord_19 g8 g7 (fun S9 hS9 => ?_)
    replace h := zL_x hS9 h
    have g10 : gK S9 a8 = 38 := by rw [hS9]; exact g8
    refine x_goto (pc := 20) hC 31 dL_addRecord_20 (by decide) ?_
    refine x_iconst (pc := 31) (v := (0 : Int32)) hC dL_addRecord_31 (by decide) ?_
    exact x_ireturn (pc := 32) hC hE dL_addRecord_32 (so h) (Nat.le_of_ble_eq_true rfl) (Nat.le_of_ble_eq_true rfl)
  · replace h := bdc_r h
    by_cases c11 : E5 = "java/lang/IllegalArgumentException"
    · rw [if_pos c11] at h
      subst c11
      exact xk_r (xt_catch hC hE [] ⟨0, 20, 23, 13⟩ [⟨0, 20, 27, 15⟩] rfl (fun _ hz => nomatch hz) (by decide) (by decide) wm_885 wm_902 rfl dL_addRecord_23 (by decide) dL_addRecord_25 (by decide) dL_addRecord_26 (so h) (Nat.le_of_ble_eq_true rfl) (Nat.le_of_ble_eq_true rfl))
    rw [if_neg c11] at h
    by_cases c12 : E5 = "java/lang/IllegalStateException"
    · rw [if_pos c12] at h
      subst c12
      exact xk_r (xt_catch hC hE [⟨0, 20, 23, 13⟩] ⟨0, 20, 27, 15⟩ [] rfl (List.forall_mem_cons.mpr ⟨Or.inr ⟨by decide, "java/lang/IllegalArgumentException", wm_885, by decide⟩, (fun _ hz => nomatch hz)⟩) (by decide) (by decide) wm_886 wm_975 rfl dL_addRecord_27 (by decide) dL_addRecord_29 (by decide) dL_addRecord_30 (so h) (Nat.le_of_ble_eq_true rfl) (Nat.le_of_ble_eq_true rfl))
    rw [if_neg c12] at h
    cases h
theorem c_L_addRecord (l : Launch) (hls : l.stackTraces = false) {S : mS} {a0 : Nat} {a1 : Int32} {a2 : Int32} {a3 : Int32} {a4 : Int32} {a5 : Int32} {a6 : Int32} {a7 : Int32} {a8 : Nat} {o : Rs Int32} (h : f_L_addRecord S a0 a1 a2 a3 a4 a5 a6 a7 a8 = some o) : CT (fun r : Int32 => some (.int r)) l yL_addRecord (.codeWith yL_addRecord cL_addRecord 10 (Option.some Jvm.ClassFile.FieldType.int) [((0 : Nat), (20 : Nat), (23 : Nat), (13 : Nat)), ((0 : Nat), (20 : Nat), (27 : Nat), (15 : Nat))]) rm_L_addRecord S [.ref a0, .int a1, .int a2, .int a3, .int a4, .int a5, .int a6, .int a7, .ref a8] o := ct_ofH (by decide +kernel) hls (Nat.le_of_ble_eq_true rfl) (fun C hl hC hE => t_L_addRecord hls hC hl hE h)
abbrev rm_L_correct : Room := { frames := 12, cells := 3, slots := 18, locals := 239 }
abbrev hh_L_correct : List (Nat × Nat × Nat × Nat) := [((0 : Nat), (10 : Nat), (13 : Nat), (21 : Nat)), ((0 : Nat), (10 : Nat), (17 : Nat), (13 : Nat)), ((0 : Nat), (10 : Nat), (21 : Nat), (23 : Nat))]
def f_L_correct (S : mS) (a0 : Nat) (a1 : Int32) (a2 : Int32) (a3 : Nat) : Option (Rs Int32) :=
  gd (gK S a0 = 16) (bdc (f_X10_correct S a0 a1 a2) (fun E S => if E = "java/lang/IndexOutOfBoundsException" then some (.inl (1 : Int32), S) else if E = "java/lang/IllegalArgumentException" then some (.inl (2 : Int32), S) else if E = "java/lang/UnsupportedOperationException" then some (.inl (3 : Int32), S) else none) fun x2 S3 => lt9 ((x2).toInt64) fun x6 => gd (gK S3 a3 = 38) (gd (¬ ((0 : Int32) < 0 ∨ gZ S3 a3 ≤ ((0 : Int32)).toNatClampNeg)) (zL (sL S3 a3 ((0 : Int32)).toNatClampNeg x6) fun S9 => some (.inl (0 : Int32), S9))))
set_option maxHeartbeats 2000000 in
set_option maxRecDepth 100000 in
theorem t_L_correct {l : Launch} (hls : l.stackTraces = false) {C : cT} (hC : CX C cL_correct 5 yL_correct rm_L_correct) (hl : C.2.1 = l) {S0 : mS} (hE : CE C S0 (Option.some Jvm.ClassFile.FieldType.int) (tableOf hh_L_correct)) {o : Rs Int32} {S : mS} {a0 : Nat} {a1 : Int32} {a2 : Int32} {a3 : Nat} (h : f_L_correct S a0 a1 a2 a3 = some o) : XX C 5 (QQ C (fun r : Int32 => some (.int r)) S0 o) 0 0 S 0 [(0, .ref a0), (1, .int a1), (2, .int a2), (3, .ref a3)] [] := by
  unfold f_L_correct at h
  refine x_aload_n (pc := 0) hC 3 dL_correct_0 rfl rfl ?_
  refine x_iconst (pc := 1) (v := (0 : Int32)) hC dL_correct_1 (by decide) ?_
  refine x_aload_n (pc := 2) hC 0 dL_correct_2 rfl rfl ?_
  refine x_iload_n (pc := 3) hC 1 dL_correct_3 rfl rfl ?_
  refine x_iload_n (pc := 4) hC 2 dL_correct_4 rfl rfl ?_
  obtain ⟨g1, h⟩ := gd_some h
  obtain ⟨o4, ho4, h⟩ := bdc_some h
  refine x_callV (pc := 5) (As := [.int a1, .int a2]) (rest := [.int (0 : Int32), .ref a3]) hC hl (c_X10_correct l hls ho4) lk_RL_17 fc_16 g1 dL_correct_5 rfl rfl (Nat.le_of_ble_eq_true rfl) ⟨Nat.le_of_ble_eq_true rfl, Nat.le_of_ble_eq_true rfl⟩ ⟨(Nat.le_of_ble_eq_true rfl), (Nat.le_of_ble_eq_true rfl)⟩ ?_
  rcases o4 with ⟨x2 | E5, S3⟩
  · refine xk_i ?_
    replace h := bdc_l h
    refine x_i2lv (pc := 8) hC dL_correct_8 (fun x6 hx6 => ?_)
    replace h := lt_x hx6 h
    obtain ⟨g8, h⟩ := gd_some h
    obtain ⟨g7, h⟩ := gd_some h
    refine x_lastv (pc := 9) hC dL_correct_9 g8 g7 (fun S9 hS9 => ?_)
    replace h := zL_x hS9 h
    have g10 : gK S9 a3 = 38 := by rw [hS9]; exact g8
    refine x_goto (pc := 10) hC 25 dL_correct_10 (by decide) ?_
    refine x_iconst (pc := 25) (v := (0 : Int32)) hC dL_correct_25 (by decide) ?_
    exact x_ireturn (pc := 26) hC hE dL_correct_26 (so h) (Nat.le_of_ble_eq_true rfl) (Nat.le_of_ble_eq_true rfl)
  · replace h := bdc_r h
    by_cases c11 : E5 = "java/lang/IndexOutOfBoundsException"
    · rw [if_pos c11] at h
      subst c11
      exact xk_r (xt_catch hC hE [] ⟨0, 10, 13, 21⟩ [⟨0, 10, 17, 13⟩, ⟨0, 10, 21, 23⟩] rfl (fun _ hz => nomatch hz) (by decide) (by decide) wm_1001 wm_1036 rfl dL_correct_13 (by decide) dL_correct_15 (by decide) dL_correct_16 (so h) (Nat.le_of_ble_eq_true rfl) (Nat.le_of_ble_eq_true rfl))
    rw [if_neg c11] at h
    by_cases c12 : E5 = "java/lang/IllegalArgumentException"
    · rw [if_pos c12] at h
      subst c12
      exact xk_r (xt_catch hC hE [⟨0, 10, 13, 21⟩] ⟨0, 10, 17, 13⟩ [⟨0, 10, 21, 23⟩] rfl (List.forall_mem_cons.mpr ⟨Or.inr ⟨by decide, "java/lang/IndexOutOfBoundsException", wm_1001, by decide⟩, (fun _ hz => nomatch hz)⟩) (by decide) (by decide) wm_885 wm_902 rfl dL_correct_17 (by decide) dL_correct_19 (by decide) dL_correct_20 (so h) (Nat.le_of_ble_eq_true rfl) (Nat.le_of_ble_eq_true rfl))
    rw [if_neg c12] at h
    by_cases c13 : E5 = "java/lang/UnsupportedOperationException"
    · rw [if_pos c13] at h
      subst c13
      exact xk_r (xt_catch hC hE [⟨0, 10, 13, 21⟩, ⟨0, 10, 17, 13⟩] ⟨0, 10, 21, 23⟩ [] rfl (List.forall_mem_cons.mpr ⟨Or.inr ⟨by decide, "java/lang/IndexOutOfBoundsException", wm_1001, by decide⟩, (List.forall_mem_cons.mpr ⟨Or.inr ⟨by decide, "java/lang/IllegalArgumentException", wm_885, by decide⟩, (fun _ hz => nomatch hz)⟩)⟩) (by decide) (by decide) wm_1025 wm_1050 rfl dL_correct_21 (by decide) dL_correct_23 (by decide) dL_correct_24 (so h) (Nat.le_of_ble_eq_true rfl) (Nat.le_of_ble_eq_true rfl))
    rw [if_neg c13] at h
    cases h
theorem c_L_correct (l : Launch) (hls : l.stackTraces = false) {S : mS} {a0 : Nat} {a1 : Int32} {a2 : Int32} {a3 : Nat} {o : Rs Int32} (h : f_L_correct S a0 a1 a2 a3 = some o) : CT (fun r : Int32 => some (.int r)) l yL_correct (.codeWith yL_correct cL_correct 5 (Option.some Jvm.ClassFile.FieldType.int) [((0 : Nat), (10 : Nat), (13 : Nat), (21 : Nat)), ((0 : Nat), (10 : Nat), (17 : Nat), (13 : Nat)), ((0 : Nat), (10 : Nat), (21 : Nat), (23 : Nat))]) rm_L_correct S [.ref a0, .int a1, .int a2, .ref a3] o := ct_ofH (by decide +kernel) hls (Nat.le_of_ble_eq_true rfl) (fun C hl hC hE => t_L_correct hls hC hl hE h)
abbrev rm_L_apart : Room := { frames := 11, cells := 2, slots := 12, locals := 217 }
abbrev hh_L_apart : List (Nat × Nat × Nat × Nat) := [((0 : Nat), (10 : Nat), (13 : Nat), (21 : Nat))]
def f_L_apart (S : mS) (a0 : Nat) (a1 : Int32) (a2 : Int32) (a3 : Nat) : Option (Rs Int32) :=
  gd (gK S a0 = 16) (bdc (f_X10_apart S a0 a1 a2) (fun E S => if E = "java/lang/IndexOutOfBoundsException" then some (.inl (1 : Int32), S) else none) fun x2 S3 => lt9 ((x2).toInt64) fun x6 => gd (gK S3 a3 = 38) (gd (¬ ((0 : Int32) < 0 ∨ gZ S3 a3 ≤ ((0 : Int32)).toNatClampNeg)) (zL (sL S3 a3 ((0 : Int32)).toNatClampNeg x6) fun S9 => some (.inl (0 : Int32), S9))))
set_option maxHeartbeats 2000000 in
set_option maxRecDepth 100000 in
theorem t_L_apart {l : Launch} (hls : l.stackTraces = false) {C : cT} (hC : CX C cL_apart 5 yL_apart rm_L_apart) (hl : C.2.1 = l) {S0 : mS} (hE : CE C S0 (Option.some Jvm.ClassFile.FieldType.int) (tableOf hh_L_apart)) {o : Rs Int32} {S : mS} {a0 : Nat} {a1 : Int32} {a2 : Int32} {a3 : Nat} (h : f_L_apart S a0 a1 a2 a3 = some o) : XX C 5 (QQ C (fun r : Int32 => some (.int r)) S0 o) 0 0 S 0 [(0, .ref a0), (1, .int a1), (2, .int a2), (3, .ref a3)] [] := by
  unfold f_L_apart at h
  refine x_aload_n (pc := 0) hC 3 dL_apart_0 rfl rfl ?_
  refine x_iconst (pc := 1) (v := (0 : Int32)) hC dL_apart_1 (by decide) ?_
  refine x_aload_n (pc := 2) hC 0 dL_apart_2 rfl rfl ?_
  refine x_iload_n (pc := 3) hC 1 dL_apart_3 rfl rfl ?_
  refine x_iload_n (pc := 4) hC 2 dL_apart_4 rfl rfl ?_
  obtain ⟨g1, h⟩ := gd_some h
  obtain ⟨o4, ho4, h⟩ := bdc_some h
  refine x_callV (pc := 5) (As := [.int a1, .int a2]) (rest := [.int (0 : Int32), .ref a3]) hC hl (c_X10_apart l hls ho4) lk_RL_25 fc_16 g1 dL_apart_5 rfl rfl (Nat.le_of_ble_eq_true rfl) ⟨Nat.le_of_ble_eq_true rfl, Nat.le_of_ble_eq_true rfl⟩ ⟨(Nat.le_of_ble_eq_true rfl), (Nat.le_of_ble_eq_true rfl)⟩ ?_
  rcases o4 with ⟨x2 | E5, S3⟩
  · refine xk_i ?_
    replace h := bdc_l h
    refine x_i2lv (pc := 8) hC dL_apart_8 (fun x6 hx6 => ?_)
    replace h := lt_x hx6 h
    obtain ⟨g8, h⟩ := gd_some h
    obtain ⟨g7, h⟩ := gd_some h
    refine x_lastv (pc := 9) hC dL_apart_9 g8 g7 (fun S9 hS9 => ?_)
    replace h := zL_x hS9 h
    have g10 : gK S9 a3 = 38 := by rw [hS9]; exact g8
    refine x_goto (pc := 10) hC 17 dL_apart_10 (by decide) ?_
    refine x_iconst (pc := 17) (v := (0 : Int32)) hC dL_apart_17 (by decide) ?_
    exact x_ireturn (pc := 18) hC hE dL_apart_18 (so h) (Nat.le_of_ble_eq_true rfl) (Nat.le_of_ble_eq_true rfl)
  · replace h := bdc_r h
    by_cases c11 : E5 = "java/lang/IndexOutOfBoundsException"
    · rw [if_pos c11] at h
      subst c11
      exact xk_r (xt_catch hC hE [] ⟨0, 10, 13, 21⟩ [] rfl (fun _ hz => nomatch hz) (by decide) (by decide) wm_1001 wm_1036 rfl dL_apart_13 (by decide) dL_apart_15 (by decide) dL_apart_16 (so h) (Nat.le_of_ble_eq_true rfl) (Nat.le_of_ble_eq_true rfl))
    rw [if_neg c11] at h
    cases h
theorem c_L_apart (l : Launch) (hls : l.stackTraces = false) {S : mS} {a0 : Nat} {a1 : Int32} {a2 : Int32} {a3 : Nat} {o : Rs Int32} (h : f_L_apart S a0 a1 a2 a3 = some o) : CT (fun r : Int32 => some (.int r)) l yL_apart (.codeWith yL_apart cL_apart 5 (Option.some Jvm.ClassFile.FieldType.int) [((0 : Nat), (10 : Nat), (13 : Nat), (21 : Nat))]) rm_L_apart S [.ref a0, .int a1, .int a2, .ref a3] o := ct_ofH (by decide +kernel) hls (Nat.le_of_ble_eq_true rfl) (fun C hl hC hE => t_L_apart hls hC hl hE h)
abbrev rm_L_ban : Room := { frames := 12, cells := 1, slots := 6, locals := 239 }
abbrev hh_L_ban : List (Nat × Nat × Nat × Nat) := [((0 : Nat), (17 : Nat), (20 : Nat), (21 : Nat))]
def f_L_ban_16  (S : mS) (s0 : Nat) (s1 : Int32) (s2 : Int64) : Option (Rs Int32) :=
  gd (gK S s0 = 38) (gd (¬ (s1 < 0 ∨ gZ S s0 ≤ (s1).toNatClampNeg)) (zL (sL S s0 (s1).toNatClampNeg s2) fun S3 => some (.inl (0 : Int32), S3)))
set_option maxHeartbeats 2000000 in
set_option maxRecDepth 100000 in
theorem t_L_ban_16 {l : Launch} (hls : l.stackTraces = false) {C : cT} (hC : CX C cL_ban 5 yL_ban rm_L_ban) (hl : C.2.1 = l) {S0 : mS} (hE : CE C S0 (Option.some Jvm.ClassFile.FieldType.int) (tableOf hh_L_ban)) {o : Rs Int32} {S : mS} {s0 : Nat} {s1 : Int32} {s2 : Int64} (h : f_L_ban_16  S s0 s1 s2 = some o) : XX C 5 (QQ C (fun r : Int32 => some (.int r)) S0 o) (1) (6) S 16 [] [.long s2, .int s1, .ref s0] := by
  unfold f_L_ban_16 at h
  obtain ⟨g2, h⟩ := gd_some h
  obtain ⟨g1, h⟩ := gd_some h
  refine x_lastv (pc := 16) hC dL_ban_16 g2 g1 (fun S3 hS3 => ?_)
  replace h := zL_x hS3 h
  have g4 : gK S3 s0 = 38 := by rw [hS3]; exact g2
  refine x_goto (pc := 17) hC 24 dL_ban_17 (by decide) ?_
  refine x_iconst (pc := 24) (v := (0 : Int32)) hC dL_ban_24 (by decide) ?_
  exact x_ireturn (pc := 25) hC hE dL_ban_25 (so h) (Nat.le_of_ble_eq_true rfl) (Nat.le_of_ble_eq_true rfl)
def f_L_ban (S : mS) (a0 : Nat) (a1 : Int32) (a2 : Int32) (a3 : Nat) : Option (Rs Int32) :=
  gd (gK S a0 = 16) (bdc (f_X10_ban S a0 a1 a2) (fun E S => if E = "java/lang/IndexOutOfBoundsException" then some (.inl (1 : Int32), S) else none) fun x2 S3 => if x2 = 0 then (f_L_ban_16  S3 a3 (0 : Int32) (0 : Int64)) else (f_L_ban_16  S3 a3 (0 : Int32) (1 : Int64)))
set_option maxHeartbeats 2000000 in
set_option maxRecDepth 100000 in
theorem t_L_ban {l : Launch} (hls : l.stackTraces = false) {C : cT} (hC : CX C cL_ban 5 yL_ban rm_L_ban) (hl : C.2.1 = l) {S0 : mS} (hE : CE C S0 (Option.some Jvm.ClassFile.FieldType.int) (tableOf hh_L_ban)) {o : Rs Int32} {S : mS} {a0 : Nat} {a1 : Int32} {a2 : Int32} {a3 : Nat} (h : f_L_ban S a0 a1 a2 a3 = some o) : XX C 5 (QQ C (fun r : Int32 => some (.int r)) S0 o) 0 0 S 0 [(0, .ref a0), (1, .int a1), (2, .int a2), (3, .ref a3)] [] := by
  unfold f_L_ban at h
  refine x_aload_n (pc := 0) hC 3 dL_ban_0 rfl rfl ?_
  refine x_iconst (pc := 1) (v := (0 : Int32)) hC dL_ban_1 (by decide) ?_
  refine x_aload_n (pc := 2) hC 0 dL_ban_2 rfl rfl ?_
  refine x_iload_n (pc := 3) hC 1 dL_ban_3 rfl rfl ?_
  refine x_iload_n (pc := 4) hC 2 dL_ban_4 rfl rfl ?_
  obtain ⟨g1, h⟩ := gd_some h
  obtain ⟨o4, ho4, h⟩ := bdc_some h
  refine x_callV (pc := 5) (As := [.int a1, .int a2]) (rest := [.int (0 : Int32), .ref a3]) hC hl (c_X10_ban l hls ho4) lk_RL_28 fc_16 g1 dL_ban_5 rfl rfl (Nat.le_of_ble_eq_true rfl) ⟨Nat.le_of_ble_eq_true rfl, Nat.le_of_ble_eq_true rfl⟩ ⟨(Nat.le_of_ble_eq_true rfl), (Nat.le_of_ble_eq_true rfl)⟩ ?_
  rcases o4 with ⟨x2 | E5, S3⟩
  · refine xk_i ?_
    replace h := bdc_l h
    refine x_if_eq (pc := 8) hC 15 dL_ban_8 (by decide) (fun c6 => ?_) (fun c6 => ?_)
    · rw [if_pos c6] at h
      refine x_lconst (pc := 15) (v := (0 : Int64)) hC dL_ban_15 (by decide) ?_
      refine x_pick [] rfl ?_
      exact t_L_ban_16 hls hC hl hE h
    · rw [if_neg c6] at h
      refine x_lconst (pc := 11) (v := (1 : Int64)) hC dL_ban_11 (by decide) ?_
      refine x_goto (pc := 12) hC 16 dL_ban_12 (by decide) ?_
      refine x_pick [] rfl ?_
      exact t_L_ban_16 hls hC hl hE h
  · replace h := bdc_r h
    by_cases c7 : E5 = "java/lang/IndexOutOfBoundsException"
    · rw [if_pos c7] at h
      subst c7
      exact xk_r (xt_catch hC hE [] ⟨0, 17, 20, 21⟩ [] rfl (fun _ hz => nomatch hz) (by decide) (by decide) wm_1001 wm_1036 rfl dL_ban_20 (by decide) dL_ban_22 (by decide) dL_ban_23 (so h) (Nat.le_of_ble_eq_true rfl) (Nat.le_of_ble_eq_true rfl))
    rw [if_neg c7] at h
    cases h
theorem c_L_ban (l : Launch) (hls : l.stackTraces = false) {S : mS} {a0 : Nat} {a1 : Int32} {a2 : Int32} {a3 : Nat} {o : Rs Int32} (h : f_L_ban S a0 a1 a2 a3 = some o) : CT (fun r : Int32 => some (.int r)) l yL_ban (.codeWith yL_ban cL_ban 5 (Option.some Jvm.ClassFile.FieldType.int) [((0 : Nat), (17 : Nat), (20 : Nat), (21 : Nat))]) rm_L_ban S [.ref a0, .int a1, .int a2, .ref a3] o := ct_ofH (by decide +kernel) hls (Nat.le_of_ble_eq_true rfl) (fun C hl hC hE => t_L_ban hls hC hl hE h)
abbrev rm_L_request : Room := { frames := 12, cells := 1, slots := 6, locals := 238 }
abbrev hh_L_request : List (Nat × Nat × Nat × Nat) := [((0 : Nat), (16 : Nat), (19 : Nat), (21 : Nat))]
def f_L_request_15  (S : mS) (s0 : Nat) (s1 : Int32) (s2 : Int64) : Option (Rs Int32) :=
  gd (gK S s0 = 38) (gd (¬ (s1 < 0 ∨ gZ S s0 ≤ (s1).toNatClampNeg)) (zL (sL S s0 (s1).toNatClampNeg s2) fun S3 => some (.inl (0 : Int32), S3)))
set_option maxHeartbeats 2000000 in
set_option maxRecDepth 100000 in
theorem t_L_request_15 {l : Launch} (hls : l.stackTraces = false) {C : cT} (hC : CX C cL_request 4 yL_request rm_L_request) (hl : C.2.1 = l) {S0 : mS} (hE : CE C S0 (Option.some Jvm.ClassFile.FieldType.int) (tableOf hh_L_request)) {o : Rs Int32} {S : mS} {s0 : Nat} {s1 : Int32} {s2 : Int64} (h : f_L_request_15  S s0 s1 s2 = some o) : XX C 4 (QQ C (fun r : Int32 => some (.int r)) S0 o) (1) (6) S 15 [] [.long s2, .int s1, .ref s0] := by
  unfold f_L_request_15 at h
  obtain ⟨g2, h⟩ := gd_some h
  obtain ⟨g1, h⟩ := gd_some h
  refine x_lastv (pc := 15) hC dL_request_15 g2 g1 (fun S3 hS3 => ?_)
  replace h := zL_x hS3 h
  have g4 : gK S3 s0 = 38 := by rw [hS3]; exact g2
  refine x_goto (pc := 16) hC 22 dL_request_16 (by decide) ?_
  refine x_iconst (pc := 22) (v := (0 : Int32)) hC dL_request_22 (by decide) ?_
  exact x_ireturn (pc := 23) hC hE dL_request_23 (so h) (Nat.le_of_ble_eq_true rfl) (Nat.le_of_ble_eq_true rfl)
def f_L_request (S : mS) (a0 : Nat) (a1 : Int32) (a2 : Nat) : Option (Rs Int32) :=
  gd (gK S a0 = 16) (bdc (f_X10_request S a0 a1) (fun E S => if E = "java/lang/IndexOutOfBoundsException" then some (.inl (1 : Int32), S) else none) fun x2 S3 => if x2 = 0 then (f_L_request_15  S3 a2 (0 : Int32) (0 : Int64)) else (f_L_request_15  S3 a2 (0 : Int32) (1 : Int64)))
set_option maxHeartbeats 2000000 in
set_option maxRecDepth 100000 in
theorem t_L_request {l : Launch} (hls : l.stackTraces = false) {C : cT} (hC : CX C cL_request 4 yL_request rm_L_request) (hl : C.2.1 = l) {S0 : mS} (hE : CE C S0 (Option.some Jvm.ClassFile.FieldType.int) (tableOf hh_L_request)) {o : Rs Int32} {S : mS} {a0 : Nat} {a1 : Int32} {a2 : Nat} (h : f_L_request S a0 a1 a2 = some o) : XX C 4 (QQ C (fun r : Int32 => some (.int r)) S0 o) 0 0 S 0 [(0, .ref a0), (1, .int a1), (2, .ref a2)] [] := by
  unfold f_L_request at h
  refine x_aload_n (pc := 0) hC 2 dL_request_0 rfl rfl ?_
  refine x_iconst (pc := 1) (v := (0 : Int32)) hC dL_request_1 (by decide) ?_
  refine x_aload_n (pc := 2) hC 0 dL_request_2 rfl rfl ?_
  refine x_iload_n (pc := 3) hC 1 dL_request_3 rfl rfl ?_
  obtain ⟨g1, h⟩ := gd_some h
  obtain ⟨o4, ho4, h⟩ := bdc_some h
  refine x_callV (pc := 4) (As := [.int a1]) (rest := [.int (0 : Int32), .ref a2]) hC hl (c_X10_request l hls ho4) lk_RL_32 fc_16 g1 dL_request_4 rfl rfl (Nat.le_of_ble_eq_true rfl) ⟨Nat.le_of_ble_eq_true rfl, Nat.le_of_ble_eq_true rfl⟩ ⟨(Nat.le_of_ble_eq_true rfl), (Nat.le_of_ble_eq_true rfl)⟩ ?_
  rcases o4 with ⟨x2 | E5, S3⟩
  · refine xk_i ?_
    replace h := bdc_l h
    refine x_if_eq (pc := 7) hC 14 dL_request_7 (by decide) (fun c6 => ?_) (fun c6 => ?_)
    · rw [if_pos c6] at h
      refine x_lconst (pc := 14) (v := (0 : Int64)) hC dL_request_14 (by decide) ?_
      refine x_pick [] rfl ?_
      exact t_L_request_15 hls hC hl hE h
    · rw [if_neg c6] at h
      refine x_lconst (pc := 10) (v := (1 : Int64)) hC dL_request_10 (by decide) ?_
      refine x_goto (pc := 11) hC 15 dL_request_11 (by decide) ?_
      refine x_pick [] rfl ?_
      exact t_L_request_15 hls hC hl hE h
  · replace h := bdc_r h
    by_cases c7 : E5 = "java/lang/IndexOutOfBoundsException"
    · rw [if_pos c7] at h
      subst c7
      exact xk_r (xt_catch_n hC hE [] ⟨0, 16, 19, 21⟩ [] rfl (fun _ hz => nomatch hz) (by decide) (by decide) wm_1001 wm_1036 rfl dL_request_19 rfl (by decide) dL_request_20 (by decide) dL_request_21 (so h) (Nat.le_of_ble_eq_true rfl) (Nat.le_of_ble_eq_true rfl))
    rw [if_neg c7] at h
    cases h
theorem c_L_request (l : Launch) (hls : l.stackTraces = false) {S : mS} {a0 : Nat} {a1 : Int32} {a2 : Nat} {o : Rs Int32} (h : f_L_request S a0 a1 a2 = some o) : CT (fun r : Int32 => some (.int r)) l yL_request (.codeWith yL_request cL_request 4 (Option.some Jvm.ClassFile.FieldType.int) [((0 : Nat), (16 : Nat), (19 : Nat), (21 : Nat))]) rm_L_request S [.ref a0, .int a1, .ref a2] o := ct_ofH (by decide +kernel) hls (Nat.le_of_ble_eq_true rfl) (fun C hl hC hE => t_L_request hls hC hl hE h)
abbrev rm_L_load : Room := { frames := 12, cells := 3, slots := 18, locals := 240 }
abbrev hh_L_load : List (Nat × Nat × Nat × Nat) := [((0 : Nat), (10 : Nat), (13 : Nat), (21 : Nat)), ((0 : Nat), (10 : Nat), (17 : Nat), (23 : Nat))]
def f_L_load (S : mS) (a0 : Nat) (a1 : Int32) (a2 : Int32) (a3 : Nat) : Option (Rs Int32) :=
  gd (gK S a0 = 16) (bdc (f_X10_load S a0 a1 a2) (fun E S => if E = "java/lang/IndexOutOfBoundsException" then some (.inl (1 : Int32), S) else if E = "java/lang/UnsupportedOperationException" then some (.inl (2 : Int32), S) else none) fun x2 S3 => lt9 ((x2).toInt64) fun x6 => gd (gK S3 a3 = 38) (gd (¬ ((0 : Int32) < 0 ∨ gZ S3 a3 ≤ ((0 : Int32)).toNatClampNeg)) (zL (sL S3 a3 ((0 : Int32)).toNatClampNeg x6) fun S9 => some (.inl (0 : Int32), S9))))
set_option maxHeartbeats 2000000 in
set_option maxRecDepth 100000 in
theorem t_L_load {l : Launch} (hls : l.stackTraces = false) {C : cT} (hC : CX C cL_load 5 yL_load rm_L_load) (hl : C.2.1 = l) {S0 : mS} (hE : CE C S0 (Option.some Jvm.ClassFile.FieldType.int) (tableOf hh_L_load)) {o : Rs Int32} {S : mS} {a0 : Nat} {a1 : Int32} {a2 : Int32} {a3 : Nat} (h : f_L_load S a0 a1 a2 a3 = some o) : XX C 5 (QQ C (fun r : Int32 => some (.int r)) S0 o) 0 0 S 0 [(0, .ref a0), (1, .int a1), (2, .int a2), (3, .ref a3)] [] := by
  unfold f_L_load at h
  refine x_aload_n (pc := 0) hC 3 dL_load_0 rfl rfl ?_
  refine x_iconst (pc := 1) (v := (0 : Int32)) hC dL_load_1 (by decide) ?_
  refine x_aload_n (pc := 2) hC 0 dL_load_2 rfl rfl ?_
  refine x_iload_n (pc := 3) hC 1 dL_load_3 rfl rfl ?_
  refine x_iload_n (pc := 4) hC 2 dL_load_4 rfl rfl ?_
  obtain ⟨g1, h⟩ := gd_some h
  obtain ⟨o4, ho4, h⟩ := bdc_some h
  refine x_callV (pc := 5) (As := [.int a1, .int a2]) (rest := [.int (0 : Int32), .ref a3]) hC hl (c_X10_load l hls ho4) lk_RL_36 fc_16 g1 dL_load_5 rfl rfl (Nat.le_of_ble_eq_true rfl) ⟨Nat.le_of_ble_eq_true rfl, Nat.le_of_ble_eq_true rfl⟩ ⟨(Nat.le_of_ble_eq_true rfl), (Nat.le_of_ble_eq_true rfl)⟩ ?_
  rcases o4 with ⟨x2 | E5, S3⟩
  · refine xk_i ?_
    replace h := bdc_l h
    refine x_i2lv (pc := 8) hC dL_load_8 (fun x6 hx6 => ?_)
    replace h := lt_x hx6 h
    obtain ⟨g8, h⟩ := gd_some h
    obtain ⟨g7, h⟩ := gd_some h
    refine x_lastv (pc := 9) hC dL_load_9 g8 g7 (fun S9 hS9 => ?_)
    replace h := zL_x hS9 h
    have g10 : gK S9 a3 = 38 := by rw [hS9]; exact g8
    refine x_goto (pc := 10) hC 21 dL_load_10 (by decide) ?_
    refine x_iconst (pc := 21) (v := (0 : Int32)) hC dL_load_21 (by decide) ?_
    exact x_ireturn (pc := 22) hC hE dL_load_22 (so h) (Nat.le_of_ble_eq_true rfl) (Nat.le_of_ble_eq_true rfl)
  · replace h := bdc_r h
    by_cases c11 : E5 = "java/lang/IndexOutOfBoundsException"
    · rw [if_pos c11] at h
      subst c11
      exact xk_r (xt_catch hC hE [] ⟨0, 10, 13, 21⟩ [⟨0, 10, 17, 23⟩] rfl (fun _ hz => nomatch hz) (by decide) (by decide) wm_1001 wm_1036 rfl dL_load_13 (by decide) dL_load_15 (by decide) dL_load_16 (so h) (Nat.le_of_ble_eq_true rfl) (Nat.le_of_ble_eq_true rfl))
    rw [if_neg c11] at h
    by_cases c12 : E5 = "java/lang/UnsupportedOperationException"
    · rw [if_pos c12] at h
      subst c12
      exact xk_r (xt_catch hC hE [⟨0, 10, 13, 21⟩] ⟨0, 10, 17, 23⟩ [] rfl (List.forall_mem_cons.mpr ⟨Or.inr ⟨by decide, "java/lang/IndexOutOfBoundsException", wm_1001, by decide⟩, (fun _ hz => nomatch hz)⟩) (by decide) (by decide) wm_1025 wm_1050 rfl dL_load_17 (by decide) dL_load_19 (by decide) dL_load_20 (so h) (Nat.le_of_ble_eq_true rfl) (Nat.le_of_ble_eq_true rfl))
    rw [if_neg c12] at h
    cases h
theorem c_L_load (l : Launch) (hls : l.stackTraces = false) {S : mS} {a0 : Nat} {a1 : Int32} {a2 : Int32} {a3 : Nat} {o : Rs Int32} (h : f_L_load S a0 a1 a2 a3 = some o) : CT (fun r : Int32 => some (.int r)) l yL_load (.codeWith yL_load cL_load 5 (Option.some Jvm.ClassFile.FieldType.int) [((0 : Nat), (10 : Nat), (13 : Nat), (21 : Nat)), ((0 : Nat), (10 : Nat), (17 : Nat), (23 : Nat))]) rm_L_load S [.ref a0, .int a1, .int a2, .ref a3] o := ct_ofH (by decide +kernel) hls (Nat.le_of_ble_eq_true rfl) (fun C hl hC hE => t_L_load hls hC hl hE h)
abbrev rm_L_play : Room := { frames := 12, cells := 2, slots := 12, locals := 238 }
abbrev hh_L_play : List (Nat × Nat × Nat × Nat) := [((0 : Nat), (16 : Nat), (19 : Nat), (21 : Nat)), ((0 : Nat), (16 : Nat), (22 : Nat), (23 : Nat))]
def f_L_play_15  (S : mS) (s0 : Nat) (s1 : Int32) (s2 : Int64) : Option (Rs Int32) :=
  gd (gK S s0 = 38) (gd (¬ (s1 < 0 ∨ gZ S s0 ≤ (s1).toNatClampNeg)) (zL (sL S s0 (s1).toNatClampNeg s2) fun S3 => some (.inl (0 : Int32), S3)))
set_option maxHeartbeats 2000000 in
set_option maxRecDepth 100000 in
theorem t_L_play_15 {l : Launch} (hls : l.stackTraces = false) {C : cT} (hC : CX C cL_play 4 yL_play rm_L_play) (hl : C.2.1 = l) {S0 : mS} (hE : CE C S0 (Option.some Jvm.ClassFile.FieldType.int) (tableOf hh_L_play)) {o : Rs Int32} {S : mS} {s0 : Nat} {s1 : Int32} {s2 : Int64} (h : f_L_play_15  S s0 s1 s2 = some o) : XX C 4 (QQ C (fun r : Int32 => some (.int r)) S0 o) (2) (12) S 15 [] [.long s2, .int s1, .ref s0] := by
  unfold f_L_play_15 at h
  obtain ⟨g2, h⟩ := gd_some h
  obtain ⟨g1, h⟩ := gd_some h
  refine x_lastv (pc := 15) hC dL_play_15 g2 g1 (fun S3 hS3 => ?_)
  replace h := zL_x hS3 h
  have g4 : gK S3 s0 = 38 := by rw [hS3]; exact g2
  refine x_goto (pc := 16) hC 25 dL_play_16 (by decide) ?_
  refine x_iconst (pc := 25) (v := (0 : Int32)) hC dL_play_25 (by decide) ?_
  exact x_ireturn (pc := 26) hC hE dL_play_26 (so h) (Nat.le_of_ble_eq_true rfl) (Nat.le_of_ble_eq_true rfl)
def f_L_play (S : mS) (a0 : Nat) (a1 : Int32) (a2 : Nat) : Option (Rs Int32) :=
  gd (gK S a0 = 16) (bdc (f_X10_play S a0 a1) (fun E S => if E = "java/lang/IndexOutOfBoundsException" then some (.inl (1 : Int32), S) else if E = "java/lang/UnsupportedOperationException" then some (.inl (2 : Int32), S) else none) fun x2 S3 => if x2 = 0 then (f_L_play_15  S3 a2 (0 : Int32) (0 : Int64)) else (f_L_play_15  S3 a2 (0 : Int32) (1 : Int64)))
set_option maxHeartbeats 2000000 in
set_option maxRecDepth 100000 in
theorem t_L_play {l : Launch} (hls : l.stackTraces = false) {C : cT} (hC : CX C cL_play 4 yL_play rm_L_play) (hl : C.2.1 = l) {S0 : mS} (hE : CE C S0 (Option.some Jvm.ClassFile.FieldType.int) (tableOf hh_L_play)) {o : Rs Int32} {S : mS} {a0 : Nat} {a1 : Int32} {a2 : Nat} (h : f_L_play S a0 a1 a2 = some o) : XX C 4 (QQ C (fun r : Int32 => some (.int r)) S0 o) 0 0 S 0 [(0, .ref a0), (1, .int a1), (2, .ref a2)] [] := by
  unfold f_L_play at h
  refine x_aload_n (pc := 0) hC 2 dL_play_0 rfl rfl ?_
  refine x_iconst (pc := 1) (v := (0 : Int32)) hC dL_play_1 (by decide) ?_
  refine x_aload_n (pc := 2) hC 0 dL_play_2 rfl rfl ?_
  refine x_iload_n (pc := 3) hC 1 dL_play_3 rfl rfl ?_
  obtain ⟨g1, h⟩ := gd_some h
  obtain ⟨o4, ho4, h⟩ := bdc_some h
  refine x_callV (pc := 4) (As := [.int a1]) (rest := [.int (0 : Int32), .ref a2]) hC hl (c_X10_play l hls ho4) lk_RL_39 fc_16 g1 dL_play_4 rfl rfl (Nat.le_of_ble_eq_true rfl) ⟨Nat.le_of_ble_eq_true rfl, Nat.le_of_ble_eq_true rfl⟩ ⟨(Nat.le_of_ble_eq_true rfl), (Nat.le_of_ble_eq_true rfl)⟩ ?_
  rcases o4 with ⟨x2 | E5, S3⟩
  · refine xk_i ?_
    replace h := bdc_l h
    refine x_if_eq (pc := 7) hC 14 dL_play_7 (by decide) (fun c6 => ?_) (fun c6 => ?_)
    · rw [if_pos c6] at h
      refine x_lconst (pc := 14) (v := (0 : Int64)) hC dL_play_14 (by decide) ?_
      refine x_pick [] rfl ?_
      exact t_L_play_15 hls hC hl hE h
    · rw [if_neg c6] at h
      refine x_lconst (pc := 10) (v := (1 : Int64)) hC dL_play_10 (by decide) ?_
      refine x_goto (pc := 11) hC 15 dL_play_11 (by decide) ?_
      refine x_pick [] rfl ?_
      exact t_L_play_15 hls hC hl hE h
  · replace h := bdc_r h
    by_cases c7 : E5 = "java/lang/IndexOutOfBoundsException"
    · rw [if_pos c7] at h
      subst c7
      exact xk_r (xt_catch_n hC hE [] ⟨0, 16, 19, 21⟩ [⟨0, 16, 22, 23⟩] rfl (fun _ hz => nomatch hz) (by decide) (by decide) wm_1001 wm_1036 rfl dL_play_19 rfl (by decide) dL_play_20 (by decide) dL_play_21 (so h) (Nat.le_of_ble_eq_true rfl) (Nat.le_of_ble_eq_true rfl))
    rw [if_neg c7] at h
    by_cases c8 : E5 = "java/lang/UnsupportedOperationException"
    · rw [if_pos c8] at h
      subst c8
      exact xk_r (xt_catch_n hC hE [⟨0, 16, 19, 21⟩] ⟨0, 16, 22, 23⟩ [] rfl (List.forall_mem_cons.mpr ⟨Or.inr ⟨by decide, "java/lang/IndexOutOfBoundsException", wm_1001, by decide⟩, (fun _ hz => nomatch hz)⟩) (by decide) (by decide) wm_1025 wm_1050 rfl dL_play_22 rfl (by decide) dL_play_23 (by decide) dL_play_24 (so h) (Nat.le_of_ble_eq_true rfl) (Nat.le_of_ble_eq_true rfl))
    rw [if_neg c8] at h
    cases h
theorem c_L_play (l : Launch) (hls : l.stackTraces = false) {S : mS} {a0 : Nat} {a1 : Int32} {a2 : Nat} {o : Rs Int32} (h : f_L_play S a0 a1 a2 = some o) : CT (fun r : Int32 => some (.int r)) l yL_play (.codeWith yL_play cL_play 4 (Option.some Jvm.ClassFile.FieldType.int) [((0 : Nat), (16 : Nat), (19 : Nat), (21 : Nat)), ((0 : Nat), (16 : Nat), (22 : Nat), (23 : Nat))]) rm_L_play S [.ref a0, .int a1, .ref a2] o := ct_ofH (by decide +kernel) hls (Nat.le_of_ble_eq_true rfl) (fun C hl hC hE => t_L_play hls hC hl hE h)
abbrev rm_L_stop : Room := { frames := 12, cells := 1, slots := 6, locals := 238 }
abbrev hh_L_stop : List (Nat × Nat × Nat × Nat) := [((0 : Nat), (16 : Nat), (19 : Nat), (21 : Nat))]
def f_L_stop_15  (S : mS) (s0 : Nat) (s1 : Int32) (s2 : Int64) : Option (Rs Int32) :=
  gd (gK S s0 = 38) (gd (¬ (s1 < 0 ∨ gZ S s0 ≤ (s1).toNatClampNeg)) (zL (sL S s0 (s1).toNatClampNeg s2) fun S3 => some (.inl (0 : Int32), S3)))
set_option maxHeartbeats 2000000 in
set_option maxRecDepth 100000 in
theorem t_L_stop_15 {l : Launch} (hls : l.stackTraces = false) {C : cT} (hC : CX C cL_stop 4 yL_stop rm_L_stop) (hl : C.2.1 = l) {S0 : mS} (hE : CE C S0 (Option.some Jvm.ClassFile.FieldType.int) (tableOf hh_L_stop)) {o : Rs Int32} {S : mS} {s0 : Nat} {s1 : Int32} {s2 : Int64} (h : f_L_stop_15  S s0 s1 s2 = some o) : XX C 4 (QQ C (fun r : Int32 => some (.int r)) S0 o) (1) (6) S 15 [] [.long s2, .int s1, .ref s0] := by
  unfold f_L_stop_15 at h
  obtain ⟨g2, h⟩ := gd_some h
  obtain ⟨g1, h⟩ := gd_some h
  refine x_lastv (pc := 15) hC dL_stop_15 g2 g1 (fun S3 hS3 => ?_)
  replace h := zL_x hS3 h
  have g4 : gK S3 s0 = 38 := by rw [hS3]; exact g2
  refine x_goto (pc := 16) hC 22 dL_stop_16 (by decide) ?_
  refine x_iconst (pc := 22) (v := (0 : Int32)) hC dL_stop_22 (by decide) ?_
  exact x_ireturn (pc := 23) hC hE dL_stop_23 (so h) (Nat.le_of_ble_eq_true rfl) (Nat.le_of_ble_eq_true rfl)
def f_L_stop (S : mS) (a0 : Nat) (a1 : Int32) (a2 : Nat) : Option (Rs Int32) :=
  gd (gK S a0 = 16) (bdc (f_X10_stop S a0 a1) (fun E S => if E = "java/lang/IndexOutOfBoundsException" then some (.inl (1 : Int32), S) else none) fun x2 S3 => if x2 = 0 then (f_L_stop_15  S3 a2 (0 : Int32) (0 : Int64)) else (f_L_stop_15  S3 a2 (0 : Int32) (1 : Int64)))
set_option maxHeartbeats 2000000 in
set_option maxRecDepth 100000 in
theorem t_L_stop {l : Launch} (hls : l.stackTraces = false) {C : cT} (hC : CX C cL_stop 4 yL_stop rm_L_stop) (hl : C.2.1 = l) {S0 : mS} (hE : CE C S0 (Option.some Jvm.ClassFile.FieldType.int) (tableOf hh_L_stop)) {o : Rs Int32} {S : mS} {a0 : Nat} {a1 : Int32} {a2 : Nat} (h : f_L_stop S a0 a1 a2 = some o) : XX C 4 (QQ C (fun r : Int32 => some (.int r)) S0 o) 0 0 S 0 [(0, .ref a0), (1, .int a1), (2, .ref a2)] [] := by
  unfold f_L_stop at h
  refine x_aload_n (pc := 0) hC 2 dL_stop_0 rfl rfl ?_
  refine x_iconst (pc := 1) (v := (0 : Int32)) hC dL_stop_1 (by decide) ?_
  refine x_aload_n (pc := 2) hC 0 dL_stop_2 rfl rfl ?_
  refine x_iload_n (pc := 3) hC 1 dL_stop_3 rfl rfl ?_
  obtain ⟨g1, h⟩ := gd_some h
  obtain ⟨o4, ho4, h⟩ := bdc_some h
  refine x_callV (pc := 4) (As := [.int a1]) (rest := [.int (0 : Int32), .ref a2]) hC hl (c_X10_stop l hls ho4) lk_RL_42 fc_16 g1 dL_stop_4 rfl rfl (Nat.le_of_ble_eq_true rfl) ⟨Nat.le_of_ble_eq_true rfl, Nat.le_of_ble_eq_true rfl⟩ ⟨(Nat.le_of_ble_eq_true rfl), (Nat.le_of_ble_eq_true rfl)⟩ ?_
  rcases o4 with ⟨x2 | E5, S3⟩
  · refine xk_i ?_
    replace h := bdc_l h
    refine x_if_eq (pc := 7) hC 14 dL_stop_7 (by decide) (fun c6 => ?_) (fun c6 => ?_)
    · rw [if_pos c6] at h
      refine x_lconst (pc := 14) (v := (0 : Int64)) hC dL_stop_14 (by decide) ?_
      refine x_pick [] rfl ?_
      exact t_L_stop_15 hls hC hl hE h
    · rw [if_neg c6] at h
      refine x_lconst (pc := 10) (v := (1 : Int64)) hC dL_stop_10 (by decide) ?_
      refine x_goto (pc := 11) hC 15 dL_stop_11 (by decide) ?_
      refine x_pick [] rfl ?_
      exact t_L_stop_15 hls hC hl hE h
  · replace h := bdc_r h
    by_cases c7 : E5 = "java/lang/IndexOutOfBoundsException"
    · rw [if_pos c7] at h
      subst c7
      exact xk_r (xt_catch_n hC hE [] ⟨0, 16, 19, 21⟩ [] rfl (fun _ hz => nomatch hz) (by decide) (by decide) wm_1001 wm_1036 rfl dL_stop_19 rfl (by decide) dL_stop_20 (by decide) dL_stop_21 (so h) (Nat.le_of_ble_eq_true rfl) (Nat.le_of_ble_eq_true rfl))
    rw [if_neg c7] at h
    cases h
theorem c_L_stop (l : Launch) (hls : l.stackTraces = false) {S : mS} {a0 : Nat} {a1 : Int32} {a2 : Nat} {o : Rs Int32} (h : f_L_stop S a0 a1 a2 = some o) : CT (fun r : Int32 => some (.int r)) l yL_stop (.codeWith yL_stop cL_stop 4 (Option.some Jvm.ClassFile.FieldType.int) [((0 : Nat), (16 : Nat), (19 : Nat), (21 : Nat))]) rm_L_stop S [.ref a0, .int a1, .ref a2] o := ct_ofH (by decide +kernel) hls (Nat.le_of_ble_eq_true rfl) (fun C hl hC hE => t_L_stop hls hC hl hE h)
abbrev rm_L_setPitch : Room := { frames := 12, cells := 2, slots := 12, locals := 239 }
abbrev hh_L_setPitch : List (Nat × Nat × Nat × Nat) := [((0 : Nat), (10 : Nat), (13 : Nat), (21 : Nat)), ((0 : Nat), (10 : Nat), (17 : Nat), (13 : Nat))]
def f_L_setPitch (S : mS) (a0 : Nat) (a1 : Int32) (a2 : Int32) (a3 : Nat) : Option (Rs Int32) :=
  gd (gK S a0 = 16) (bdc (f_X10_setPitch S a0 a1 a2) (fun E S => if E = "java/lang/IndexOutOfBoundsException" then some (.inl (1 : Int32), S) else if E = "java/lang/IllegalArgumentException" then some (.inl (2 : Int32), S) else none) fun x2 S3 => lt9 ((x2).toInt64) fun x6 => gd (gK S3 a3 = 38) (gd (¬ ((0 : Int32) < 0 ∨ gZ S3 a3 ≤ ((0 : Int32)).toNatClampNeg)) (zL (sL S3 a3 ((0 : Int32)).toNatClampNeg x6) fun S9 => some (.inl (0 : Int32), S9))))
set_option maxHeartbeats 2000000 in
set_option maxRecDepth 100000 in
theorem t_L_setPitch {l : Launch} (hls : l.stackTraces = false) {C : cT} (hC : CX C cL_setPitch 5 yL_setPitch rm_L_setPitch) (hl : C.2.1 = l) {S0 : mS} (hE : CE C S0 (Option.some Jvm.ClassFile.FieldType.int) (tableOf hh_L_setPitch)) {o : Rs Int32} {S : mS} {a0 : Nat} {a1 : Int32} {a2 : Int32} {a3 : Nat} (h : f_L_setPitch S a0 a1 a2 a3 = some o) : XX C 5 (QQ C (fun r : Int32 => some (.int r)) S0 o) 0 0 S 0 [(0, .ref a0), (1, .int a1), (2, .int a2), (3, .ref a3)] [] := by
  unfold f_L_setPitch at h
  refine x_aload_n (pc := 0) hC 3 dL_setPitch_0 rfl rfl ?_
  refine x_iconst (pc := 1) (v := (0 : Int32)) hC dL_setPitch_1 (by decide) ?_
  refine x_aload_n (pc := 2) hC 0 dL_setPitch_2 rfl rfl ?_
  refine x_iload_n (pc := 3) hC 1 dL_setPitch_3 rfl rfl ?_
  refine x_iload_n (pc := 4) hC 2 dL_setPitch_4 rfl rfl ?_
  obtain ⟨g1, h⟩ := gd_some h
  obtain ⟨o4, ho4, h⟩ := bdc_some h
  refine x_callV (pc := 5) (As := [.int a1, .int a2]) (rest := [.int (0 : Int32), .ref a3]) hC hl (c_X10_setPitch l hls ho4) lk_RL_45 fc_16 g1 dL_setPitch_5 rfl rfl (Nat.le_of_ble_eq_true rfl) ⟨Nat.le_of_ble_eq_true rfl, Nat.le_of_ble_eq_true rfl⟩ ⟨(Nat.le_of_ble_eq_true rfl), (Nat.le_of_ble_eq_true rfl)⟩ ?_
  rcases o4 with ⟨x2 | E5, S3⟩
  · refine xk_i ?_
    replace h := bdc_l h
    refine x_i2lv (pc := 8) hC dL_setPitch_8 (fun x6 hx6 => ?_)
    replace h := lt_x hx6 h
    obtain ⟨g8, h⟩ := gd_some h
    obtain ⟨g7, h⟩ := gd_some h
    refine x_lastv (pc := 9) hC dL_setPitch_9 g8 g7 (fun S9 hS9 => ?_)
    replace h := zL_x hS9 h
    have g10 : gK S9 a3 = 38 := by rw [hS9]; exact g8
    refine x_goto (pc := 10) hC 21 dL_setPitch_10 (by decide) ?_
    refine x_iconst (pc := 21) (v := (0 : Int32)) hC dL_setPitch_21 (by decide) ?_
    exact x_ireturn (pc := 22) hC hE dL_setPitch_22 (so h) (Nat.le_of_ble_eq_true rfl) (Nat.le_of_ble_eq_true rfl)
  · replace h := bdc_r h
    by_cases c11 : E5 = "java/lang/IndexOutOfBoundsException"
    · rw [if_pos c11] at h
      subst c11
      exact xk_r (xt_catch hC hE [] ⟨0, 10, 13, 21⟩ [⟨0, 10, 17, 13⟩] rfl (fun _ hz => nomatch hz) (by decide) (by decide) wm_1001 wm_1036 rfl dL_setPitch_13 (by decide) dL_setPitch_15 (by decide) dL_setPitch_16 (so h) (Nat.le_of_ble_eq_true rfl) (Nat.le_of_ble_eq_true rfl))
    rw [if_neg c11] at h
    by_cases c12 : E5 = "java/lang/IllegalArgumentException"
    · rw [if_pos c12] at h
      subst c12
      exact xk_r (xt_catch hC hE [⟨0, 10, 13, 21⟩] ⟨0, 10, 17, 13⟩ [] rfl (List.forall_mem_cons.mpr ⟨Or.inr ⟨by decide, "java/lang/IndexOutOfBoundsException", wm_1001, by decide⟩, (fun _ hz => nomatch hz)⟩) (by decide) (by decide) wm_885 wm_902 rfl dL_setPitch_17 (by decide) dL_setPitch_19 (by decide) dL_setPitch_20 (so h) (Nat.le_of_ble_eq_true rfl) (Nat.le_of_ble_eq_true rfl))
    rw [if_neg c12] at h
    cases h
theorem c_L_setPitch (l : Launch) (hls : l.stackTraces = false) {S : mS} {a0 : Nat} {a1 : Int32} {a2 : Int32} {a3 : Nat} {o : Rs Int32} (h : f_L_setPitch S a0 a1 a2 a3 = some o) : CT (fun r : Int32 => some (.int r)) l yL_setPitch (.codeWith yL_setPitch cL_setPitch 5 (Option.some Jvm.ClassFile.FieldType.int) [((0 : Nat), (10 : Nat), (13 : Nat), (21 : Nat)), ((0 : Nat), (10 : Nat), (17 : Nat), (13 : Nat))]) rm_L_setPitch S [.ref a0, .int a1, .int a2, .ref a3] o := ct_ofH (by decide +kernel) hls (Nat.le_of_ble_eq_true rfl) (fun C hl hC hE => t_L_setPitch hls hC hl hE h)
abbrev rm_L_nudge : Room := { frames := 12, cells := 3, slots := 18, locals := 239 }
abbrev hh_L_nudge : List (Nat × Nat × Nat × Nat) := [((0 : Nat), (10 : Nat), (13 : Nat), (21 : Nat)), ((0 : Nat), (10 : Nat), (17 : Nat), (13 : Nat)), ((0 : Nat), (10 : Nat), (21 : Nat), (23 : Nat))]
def f_L_nudge (S : mS) (a0 : Nat) (a1 : Int32) (a2 : Int32) (a3 : Nat) : Option (Rs Int32) :=
  gd (gK S a0 = 16) (bdc (f_X10_nudge S a0 a1 a2) (fun E S => if E = "java/lang/IndexOutOfBoundsException" then some (.inl (1 : Int32), S) else if E = "java/lang/IllegalArgumentException" then some (.inl (2 : Int32), S) else if E = "java/lang/UnsupportedOperationException" then some (.inl (3 : Int32), S) else none) fun x2 S3 => lt9 ((x2).toInt64) fun x6 => gd (gK S3 a3 = 38) (gd (¬ ((0 : Int32) < 0 ∨ gZ S3 a3 ≤ ((0 : Int32)).toNatClampNeg)) (zL (sL S3 a3 ((0 : Int32)).toNatClampNeg x6) fun S9 => some (.inl (0 : Int32), S9))))
set_option maxHeartbeats 2000000 in
set_option maxRecDepth 100000 in
theorem t_L_nudge {l : Launch} (hls : l.stackTraces = false) {C : cT} (hC : CX C cL_nudge 5 yL_nudge rm_L_nudge) (hl : C.2.1 = l) {S0 : mS} (hE : CE C S0 (Option.some Jvm.ClassFile.FieldType.int) (tableOf hh_L_nudge)) {o : Rs Int32} {S : mS} {a0 : Nat} {a1 : Int32} {a2 : Int32} {a3 : Nat} (h : f_L_nudge S a0 a1 a2 a3 = some o) : XX C 5 (QQ C (fun r : Int32 => some (.int r)) S0 o) 0 0 S 0 [(0, .ref a0), (1, .int a1), (2, .int a2), (3, .ref a3)] [] := by
  unfold f_L_nudge at h
  refine x_aload_n (pc := 0) hC 3 dL_nudge_0 rfl rfl ?_
  refine x_iconst (pc := 1) (v := (0 : Int32)) hC dL_nudge_1 (by decide) ?_
  refine x_aload_n (pc := 2) hC 0 dL_nudge_2 rfl rfl ?_
  refine x_iload_n (pc := 3) hC 1 dL_nudge_3 rfl rfl ?_
  refine x_iload_n (pc := 4) hC 2 dL_nudge_4 rfl rfl ?_
  obtain ⟨g1, h⟩ := gd_some h
  obtain ⟨o4, ho4, h⟩ := bdc_some h
  refine x_callV (pc := 5) (As := [.int a1, .int a2]) (rest := [.int (0 : Int32), .ref a3]) hC hl (c_X10_nudge l hls ho4) lk_RL_48 fc_16 g1 dL_nudge_5 rfl rfl (Nat.le_of_ble_eq_true rfl) ⟨Nat.le_of_ble_eq_true rfl, Nat.le_of_ble_eq_true rfl⟩ ⟨(Nat.le_of_ble_eq_true rfl), (Nat.le_of_ble_eq_true rfl)⟩ ?_
  rcases o4 with ⟨x2 | E5, S3⟩
  · refine xk_i ?_
    replace h := bdc_l h
    refine x_i2lv (pc := 8) hC dL_nudge_8 (fun x6 hx6 => ?_)
    replace h := lt_x hx6 h
    obtain ⟨g8, h⟩ := gd_some h
    obtain ⟨g7, h⟩ := gd_some h
    refine x_lastv (pc := 9) hC dL_nudge_9 g8 g7 (fun S9 hS9 => ?_)
    replace h := zL_x hS9 h
    have g10 : gK S9 a3 = 38 := by rw [hS9]; exact g8
    refine x_goto (pc := 10) hC 25 dL_nudge_10 (by decide) ?_
    refine x_iconst (pc := 25) (v := (0 : Int32)) hC dL_nudge_25 (by decide) ?_
    exact x_ireturn (pc := 26) hC hE dL_nudge_26 (so h) (Nat.le_of_ble_eq_true rfl) (Nat.le_of_ble_eq_true rfl)
  · replace h := bdc_r h
    by_cases c11 : E5 = "java/lang/IndexOutOfBoundsException"
    · rw [if_pos c11] at h
      subst c11
      exact xk_r (xt_catch hC hE [] ⟨0, 10, 13, 21⟩ [⟨0, 10, 17, 13⟩, ⟨0, 10, 21, 23⟩] rfl (fun _ hz => nomatch hz) (by decide) (by decide) wm_1001 wm_1036 rfl dL_nudge_13 (by decide) dL_nudge_15 (by decide) dL_nudge_16 (so h) (Nat.le_of_ble_eq_true rfl) (Nat.le_of_ble_eq_true rfl))
    rw [if_neg c11] at h
    by_cases c12 : E5 = "java/lang/IllegalArgumentException"
    · rw [if_pos c12] at h
      subst c12
      exact xk_r (xt_catch hC hE [⟨0, 10, 13, 21⟩] ⟨0, 10, 17, 13⟩ [⟨0, 10, 21, 23⟩] rfl (List.forall_mem_cons.mpr ⟨Or.inr ⟨by decide, "java/lang/IndexOutOfBoundsException", wm_1001, by decide⟩, (fun _ hz => nomatch hz)⟩) (by decide) (by decide) wm_885 wm_902 rfl dL_nudge_17 (by decide) dL_nudge_19 (by decide) dL_nudge_20 (so h) (Nat.le_of_ble_eq_true rfl) (Nat.le_of_ble_eq_true rfl))
    rw [if_neg c12] at h
    by_cases c13 : E5 = "java/lang/UnsupportedOperationException"
    · rw [if_pos c13] at h
      subst c13
      exact xk_r (xt_catch hC hE [⟨0, 10, 13, 21⟩, ⟨0, 10, 17, 13⟩] ⟨0, 10, 21, 23⟩ [] rfl (List.forall_mem_cons.mpr ⟨Or.inr ⟨by decide, "java/lang/IndexOutOfBoundsException", wm_1001, by decide⟩, (List.forall_mem_cons.mpr ⟨Or.inr ⟨by decide, "java/lang/IllegalArgumentException", wm_885, by decide⟩, (fun _ hz => nomatch hz)⟩)⟩) (by decide) (by decide) wm_1025 wm_1050 rfl dL_nudge_21 (by decide) dL_nudge_23 (by decide) dL_nudge_24 (so h) (Nat.le_of_ble_eq_true rfl) (Nat.le_of_ble_eq_true rfl))
    rw [if_neg c13] at h
    cases h
theorem c_L_nudge (l : Launch) (hls : l.stackTraces = false) {S : mS} {a0 : Nat} {a1 : Int32} {a2 : Int32} {a3 : Nat} {o : Rs Int32} (h : f_L_nudge S a0 a1 a2 a3 = some o) : CT (fun r : Int32 => some (.int r)) l yL_nudge (.codeWith yL_nudge cL_nudge 5 (Option.some Jvm.ClassFile.FieldType.int) [((0 : Nat), (10 : Nat), (13 : Nat), (21 : Nat)), ((0 : Nat), (10 : Nat), (17 : Nat), (13 : Nat)), ((0 : Nat), (10 : Nat), (21 : Nat), (23 : Nat))]) rm_L_nudge S [.ref a0, .int a1, .int a2, .ref a3] o := ct_ofH (by decide +kernel) hls (Nat.le_of_ble_eq_true rfl) (fun C hl hC hE => t_L_nudge hls hC hl hE h)
abbrev rm_L_brake : Room := { frames := 12, cells := 2, slots := 12, locals := 238 }
abbrev hh_L_brake : List (Nat × Nat × Nat × Nat) := [((0 : Nat), (16 : Nat), (19 : Nat), (21 : Nat)), ((0 : Nat), (16 : Nat), (22 : Nat), (23 : Nat))]
def f_L_brake_15  (S : mS) (s0 : Nat) (s1 : Int32) (s2 : Int64) : Option (Rs Int32) :=
  gd (gK S s0 = 38) (gd (¬ (s1 < 0 ∨ gZ S s0 ≤ (s1).toNatClampNeg)) (zL (sL S s0 (s1).toNatClampNeg s2) fun S3 => some (.inl (0 : Int32), S3)))
set_option maxHeartbeats 2000000 in
set_option maxRecDepth 100000 in
theorem t_L_brake_15 {l : Launch} (hls : l.stackTraces = false) {C : cT} (hC : CX C cL_brake 4 yL_brake rm_L_brake) (hl : C.2.1 = l) {S0 : mS} (hE : CE C S0 (Option.some Jvm.ClassFile.FieldType.int) (tableOf hh_L_brake)) {o : Rs Int32} {S : mS} {s0 : Nat} {s1 : Int32} {s2 : Int64} (h : f_L_brake_15  S s0 s1 s2 = some o) : XX C 4 (QQ C (fun r : Int32 => some (.int r)) S0 o) (2) (12) S 15 [] [.long s2, .int s1, .ref s0] := by
  unfold f_L_brake_15 at h
  obtain ⟨g2, h⟩ := gd_some h
  obtain ⟨g1, h⟩ := gd_some h
  refine x_lastv (pc := 15) hC dL_brake_15 g2 g1 (fun S3 hS3 => ?_)
  replace h := zL_x hS3 h
  have g4 : gK S3 s0 = 38 := by rw [hS3]; exact g2
  refine x_goto (pc := 16) hC 25 dL_brake_16 (by decide) ?_
  refine x_iconst (pc := 25) (v := (0 : Int32)) hC dL_brake_25 (by decide) ?_
  exact x_ireturn (pc := 26) hC hE dL_brake_26 (so h) (Nat.le_of_ble_eq_true rfl) (Nat.le_of_ble_eq_true rfl)
def f_L_brake (S : mS) (a0 : Nat) (a1 : Int32) (a2 : Nat) : Option (Rs Int32) :=
  gd (gK S a0 = 16) (bdc (f_X10_brake S a0 a1) (fun E S => if E = "java/lang/IndexOutOfBoundsException" then some (.inl (1 : Int32), S) else if E = "java/lang/UnsupportedOperationException" then some (.inl (2 : Int32), S) else none) fun x2 S3 => if x2 = 0 then (f_L_brake_15  S3 a2 (0 : Int32) (0 : Int64)) else (f_L_brake_15  S3 a2 (0 : Int32) (1 : Int64)))
set_option maxHeartbeats 2000000 in
set_option maxRecDepth 100000 in
theorem t_L_brake {l : Launch} (hls : l.stackTraces = false) {C : cT} (hC : CX C cL_brake 4 yL_brake rm_L_brake) (hl : C.2.1 = l) {S0 : mS} (hE : CE C S0 (Option.some Jvm.ClassFile.FieldType.int) (tableOf hh_L_brake)) {o : Rs Int32} {S : mS} {a0 : Nat} {a1 : Int32} {a2 : Nat} (h : f_L_brake S a0 a1 a2 = some o) : XX C 4 (QQ C (fun r : Int32 => some (.int r)) S0 o) 0 0 S 0 [(0, .ref a0), (1, .int a1), (2, .ref a2)] [] := by
  unfold f_L_brake at h
  refine x_aload_n (pc := 0) hC 2 dL_brake_0 rfl rfl ?_
  refine x_iconst (pc := 1) (v := (0 : Int32)) hC dL_brake_1 (by decide) ?_
  refine x_aload_n (pc := 2) hC 0 dL_brake_2 rfl rfl ?_
  refine x_iload_n (pc := 3) hC 1 dL_brake_3 rfl rfl ?_
  obtain ⟨g1, h⟩ := gd_some h
  obtain ⟨o4, ho4, h⟩ := bdc_some h
  refine x_callV (pc := 4) (As := [.int a1]) (rest := [.int (0 : Int32), .ref a2]) hC hl (c_X10_brake l hls ho4) lk_RL_51 fc_16 g1 dL_brake_4 rfl rfl (Nat.le_of_ble_eq_true rfl) ⟨Nat.le_of_ble_eq_true rfl, Nat.le_of_ble_eq_true rfl⟩ ⟨(Nat.le_of_ble_eq_true rfl), (Nat.le_of_ble_eq_true rfl)⟩ ?_
  rcases o4 with ⟨x2 | E5, S3⟩
  · refine xk_i ?_
    replace h := bdc_l h
    refine x_if_eq (pc := 7) hC 14 dL_brake_7 (by decide) (fun c6 => ?_) (fun c6 => ?_)
    · rw [if_pos c6] at h
      refine x_lconst (pc := 14) (v := (0 : Int64)) hC dL_brake_14 (by decide) ?_
      refine x_pick [] rfl ?_
      exact t_L_brake_15 hls hC hl hE h
    · rw [if_neg c6] at h
      refine x_lconst (pc := 10) (v := (1 : Int64)) hC dL_brake_10 (by decide) ?_
      refine x_goto (pc := 11) hC 15 dL_brake_11 (by decide) ?_
      refine x_pick [] rfl ?_
      exact t_L_brake_15 hls hC hl hE h
  · replace h := bdc_r h
    by_cases c7 : E5 = "java/lang/IndexOutOfBoundsException"
    · rw [if_pos c7] at h
      subst c7
      exact xk_r (xt_catch_n hC hE [] ⟨0, 16, 19, 21⟩ [⟨0, 16, 22, 23⟩] rfl (fun _ hz => nomatch hz) (by decide) (by decide) wm_1001 wm_1036 rfl dL_brake_19 rfl (by decide) dL_brake_20 (by decide) dL_brake_21 (so h) (Nat.le_of_ble_eq_true rfl) (Nat.le_of_ble_eq_true rfl))
    rw [if_neg c7] at h
    by_cases c8 : E5 = "java/lang/UnsupportedOperationException"
    · rw [if_pos c8] at h
      subst c8
      exact xk_r (xt_catch_n hC hE [⟨0, 16, 19, 21⟩] ⟨0, 16, 22, 23⟩ [] rfl (List.forall_mem_cons.mpr ⟨Or.inr ⟨by decide, "java/lang/IndexOutOfBoundsException", wm_1001, by decide⟩, (fun _ hz => nomatch hz)⟩) (by decide) (by decide) wm_1025 wm_1050 rfl dL_brake_22 rfl (by decide) dL_brake_23 (by decide) dL_brake_24 (so h) (Nat.le_of_ble_eq_true rfl) (Nat.le_of_ble_eq_true rfl))
    rw [if_neg c8] at h
    cases h
theorem c_L_brake (l : Launch) (hls : l.stackTraces = false) {S : mS} {a0 : Nat} {a1 : Int32} {a2 : Nat} {o : Rs Int32} (h : f_L_brake S a0 a1 a2 = some o) : CT (fun r : Int32 => some (.int r)) l yL_brake (.codeWith yL_brake cL_brake 4 (Option.some Jvm.ClassFile.FieldType.int) [((0 : Nat), (16 : Nat), (19 : Nat), (21 : Nat)), ((0 : Nat), (16 : Nat), (22 : Nat), (23 : Nat))]) rm_L_brake S [.ref a0, .int a1, .ref a2] o := ct_ofH (by decide +kernel) hls (Nat.le_of_ble_eq_true rfl) (fun C hl hC hE => t_L_brake hls hC hl hE h)
abbrev rm_L_jump : Room := { frames := 12, cells := 3, slots := 18, locals := 239 }
abbrev hh_L_jump : List (Nat × Nat × Nat × Nat) := [((0 : Nat), (10 : Nat), (13 : Nat), (21 : Nat)), ((0 : Nat), (10 : Nat), (17 : Nat), (23 : Nat)), ((0 : Nat), (10 : Nat), (21 : Nat), (13 : Nat))]
def f_L_jump (S : mS) (a0 : Nat) (a1 : Int32) (a2 : Int32) (a3 : Nat) : Option (Rs Int32) :=
  gd (gK S a0 = 16) (bdc (f_X10_jump S a0 a1 a2) (fun E S => if E = "java/lang/IndexOutOfBoundsException" then some (.inl (1 : Int32), S) else if E = "java/lang/UnsupportedOperationException" then some (.inl (2 : Int32), S) else if E = "java/lang/IllegalArgumentException" then some (.inl (3 : Int32), S) else none) fun x2 S3 => lt9 ((x2).toInt64) fun x6 => gd (gK S3 a3 = 38) (gd (¬ ((0 : Int32) < 0 ∨ gZ S3 a3 ≤ ((0 : Int32)).toNatClampNeg)) (zL (sL S3 a3 ((0 : Int32)).toNatClampNeg x6) fun S9 => some (.inl (0 : Int32), S9))))
set_option maxHeartbeats 2000000 in
set_option maxRecDepth 100000 in
theorem t_L_jump {l : Launch} (hls : l.stackTraces = false) {C : cT} (hC : CX C cL_jump 5 yL_jump rm_L_jump) (hl : C.2.1 = l) {S0 : mS} (hE : CE C S0 (Option.some Jvm.ClassFile.FieldType.int) (tableOf hh_L_jump)) {o : Rs Int32} {S : mS} {a0 : Nat} {a1 : Int32} {a2 : Int32} {a3 : Nat} (h : f_L_jump S a0 a1 a2 a3 = some o) : XX C 5 (QQ C (fun r : Int32 => some (.int r)) S0 o) 0 0 S 0 [(0, .ref a0), (1, .int a1), (2, .int a2), (3, .ref a3)] [] := by
  unfold f_L_jump at h
  refine x_aload_n (pc := 0) hC 3 dL_jump_0 rfl rfl ?_
  refine x_iconst (pc := 1) (v := (0 : Int32)) hC dL_jump_1 (by decide) ?_
  refine x_aload_n (pc := 2) hC 0 dL_jump_2 rfl rfl ?_
  refine x_iload_n (pc := 3) hC 1 dL_jump_3 rfl rfl ?_
  refine x_iload_n (pc := 4) hC 2 dL_jump_4 rfl rfl ?_
  obtain ⟨g1, h⟩ := gd_some h
  obtain ⟨o4, ho4, h⟩ := bdc_some h
  refine x_callV (pc := 5) (As := [.int a1, .int a2]) (rest := [.int (0 : Int32), .ref a3]) hC hl (c_X10_jump l hls ho4) lk_RL_54 fc_16 g1 dL_jump_5 rfl rfl (Nat.le_of_ble_eq_true rfl) ⟨Nat.le_of_ble_eq_true rfl, Nat.le_of_ble_eq_true rfl⟩ ⟨(Nat.le_of_ble_eq_true rfl), (Nat.le_of_ble_eq_true rfl)⟩ ?_
  rcases o4 with ⟨x2 | E5, S3⟩
  · refine xk_i ?_
    replace h := bdc_l h
    refine x_i2lv (pc := 8) hC dL_jump_8 (fun x6 hx6 => ?_)
    replace h := lt_x hx6 h
    obtain ⟨g8, h⟩ := gd_some h
    obtain ⟨g7, h⟩ := gd_some h
    refine x_lastv (pc := 9) hC dL_jump_9 g8 g7 (fun S9 hS9 => ?_)
    replace h := zL_x hS9 h
    have g10 : gK S9 a3 = 38 := by rw [hS9]; exact g8
    refine x_goto (pc := 10) hC 25 dL_jump_10 (by decide) ?_
    refine x_iconst (pc := 25) (v := (0 : Int32)) hC dL_jump_25 (by decide) ?_
    exact x_ireturn (pc := 26) hC hE dL_jump_26 (so h) (Nat.le_of_ble_eq_true rfl) (Nat.le_of_ble_eq_true rfl)
  · replace h := bdc_r h
    by_cases c11 : E5 = "java/lang/IndexOutOfBoundsException"
    · rw [if_pos c11] at h
      subst c11
      exact xk_r (xt_catch hC hE [] ⟨0, 10, 13, 21⟩ [⟨0, 10, 17, 23⟩, ⟨0, 10, 21, 13⟩] rfl (fun _ hz => nomatch hz) (by decide) (by decide) wm_1001 wm_1036 rfl dL_jump_13 (by decide) dL_jump_15 (by decide) dL_jump_16 (so h) (Nat.le_of_ble_eq_true rfl) (Nat.le_of_ble_eq_true rfl))
    rw [if_neg c11] at h
    by_cases c12 : E5 = "java/lang/UnsupportedOperationException"
    · rw [if_pos c12] at h
      subst c12
      exact xk_r (xt_catch hC hE [⟨0, 10, 13, 21⟩] ⟨0, 10, 17, 23⟩ [⟨0, 10, 21, 13⟩] rfl (List.forall_mem_cons.mpr ⟨Or.inr ⟨by decide, "java/lang/IndexOutOfBoundsException", wm_1001, by decide⟩, (fun _ hz => nomatch hz)⟩) (by decide) (by decide) wm_1025 wm_1050 rfl dL_jump_17 (by decide) dL_jump_19 (by decide) dL_jump_20 (so h) (Nat.le_of_ble_eq_true rfl) (Nat.le_of_ble_eq_true rfl))
    rw [if_neg c12] at h
    by_cases c13 : E5 = "java/lang/IllegalArgumentException"
    · rw [if_pos c13] at h
      subst c13
      exact xk_r (xt_catch hC hE [⟨0, 10, 13, 21⟩, ⟨0, 10, 17, 23⟩] ⟨0, 10, 21, 13⟩ [] rfl (List.forall_mem_cons.mpr ⟨Or.inr ⟨by decide, "java/lang/IndexOutOfBoundsException", wm_1001, by decide⟩, (List.forall_mem_cons.mpr ⟨Or.inr ⟨by decide, "java/lang/UnsupportedOperationException", wm_1025, by decide⟩, (fun _ hz => nomatch hz)⟩)⟩) (by decide) (by decide) wm_885 wm_902 rfl dL_jump_21 (by decide) dL_jump_23 (by decide) dL_jump_24 (so h) (Nat.le_of_ble_eq_true rfl) (Nat.le_of_ble_eq_true rfl))
    rw [if_neg c13] at h
    cases h
theorem c_L_jump (l : Launch) (hls : l.stackTraces = false) {S : mS} {a0 : Nat} {a1 : Int32} {a2 : Int32} {a3 : Nat} {o : Rs Int32} (h : f_L_jump S a0 a1 a2 a3 = some o) : CT (fun r : Int32 => some (.int r)) l yL_jump (.codeWith yL_jump cL_jump 5 (Option.some Jvm.ClassFile.FieldType.int) [((0 : Nat), (10 : Nat), (13 : Nat), (21 : Nat)), ((0 : Nat), (10 : Nat), (17 : Nat), (23 : Nat)), ((0 : Nat), (10 : Nat), (21 : Nat), (13 : Nat))]) rm_L_jump S [.ref a0, .int a1, .int a2, .ref a3] o := ct_ofH (by decide +kernel) hls (Nat.le_of_ble_eq_true rfl) (fun C hl hC hE => t_L_jump hls hC hl hE h)
abbrev rm_L_setCue : Room := { frames := 12, cells := 3, slots := 18, locals := 239 }
abbrev hh_L_setCue : List (Nat × Nat × Nat × Nat) := [((0 : Nat), (10 : Nat), (13 : Nat), (21 : Nat)), ((0 : Nat), (10 : Nat), (17 : Nat), (13 : Nat)), ((0 : Nat), (10 : Nat), (21 : Nat), (23 : Nat))]
def f_L_setCue (S : mS) (a0 : Nat) (a1 : Int32) (a2 : Int32) (a3 : Nat) : Option (Rs Int32) :=
  gd (gK S a0 = 16) (bdc (f_X10_setCue S a0 a1 a2) (fun E S => if E = "java/lang/IndexOutOfBoundsException" then some (.inl (1 : Int32), S) else if E = "java/lang/IllegalArgumentException" then some (.inl (2 : Int32), S) else if E = "java/lang/UnsupportedOperationException" then some (.inl (3 : Int32), S) else none) fun x2 S3 => lt9 ((x2).toInt64) fun x6 => gd (gK S3 a3 = 38) (gd (¬ ((0 : Int32) < 0 ∨ gZ S3 a3 ≤ ((0 : Int32)).toNatClampNeg)) (zL (sL S3 a3 ((0 : Int32)).toNatClampNeg x6) fun S9 => some (.inl (0 : Int32), S9))))
set_option maxHeartbeats 2000000 in
set_option maxRecDepth 100000 in
theorem t_L_setCue {l : Launch} (hls : l.stackTraces = false) {C : cT} (hC : CX C cL_setCue 5 yL_setCue rm_L_setCue) (hl : C.2.1 = l) {S0 : mS} (hE : CE C S0 (Option.some Jvm.ClassFile.FieldType.int) (tableOf hh_L_setCue)) {o : Rs Int32} {S : mS} {a0 : Nat} {a1 : Int32} {a2 : Int32} {a3 : Nat} (h : f_L_setCue S a0 a1 a2 a3 = some o) : XX C 5 (QQ C (fun r : Int32 => some (.int r)) S0 o) 0 0 S 0 [(0, .ref a0), (1, .int a1), (2, .int a2), (3, .ref a3)] [] := by
  unfold f_L_setCue at h
  refine x_aload_n (pc := 0) hC 3 dL_setCue_0 rfl rfl ?_
  refine x_iconst (pc := 1) (v := (0 : Int32)) hC dL_setCue_1 (by decide) ?_
  refine x_aload_n (pc := 2) hC 0 dL_setCue_2 rfl rfl ?_
  refine x_iload_n (pc := 3) hC 1 dL_setCue_3 rfl rfl ?_
  refine x_iload_n (pc := 4) hC 2 dL_setCue_4 rfl rfl ?_
  obtain ⟨g1, h⟩ := gd_some h
  obtain ⟨o4, ho4, h⟩ := bdc_some h
  refine x_callV (pc := 5) (As := [.int a1, .int a2]) (rest := [.int (0 : Int32), .ref a3]) hC hl (c_X10_setCue l hls ho4) lk_RL_57 fc_16 g1 dL_setCue_5 rfl rfl (Nat.le_of_ble_eq_true rfl) ⟨Nat.le_of_ble_eq_true rfl, Nat.le_of_ble_eq_true rfl⟩ ⟨(Nat.le_of_ble_eq_true rfl), (Nat.le_of_ble_eq_true rfl)⟩ ?_
  rcases o4 with ⟨x2 | E5, S3⟩
  · refine xk_i ?_
    replace h := bdc_l h
    refine x_i2lv (pc := 8) hC dL_setCue_8 (fun x6 hx6 => ?_)
    replace h := lt_x hx6 h
    obtain ⟨g8, h⟩ := gd_some h
    obtain ⟨g7, h⟩ := gd_some h
    refine x_lastv (pc := 9) hC dL_setCue_9 g8 g7 (fun S9 hS9 => ?_)
    replace h := zL_x hS9 h
    have g10 : gK S9 a3 = 38 := by rw [hS9]; exact g8
    refine x_goto (pc := 10) hC 25 dL_setCue_10 (by decide) ?_
    refine x_iconst (pc := 25) (v := (0 : Int32)) hC dL_setCue_25 (by decide) ?_
    exact x_ireturn (pc := 26) hC hE dL_setCue_26 (so h) (Nat.le_of_ble_eq_true rfl) (Nat.le_of_ble_eq_true rfl)
  · replace h := bdc_r h
    by_cases c11 : E5 = "java/lang/IndexOutOfBoundsException"
    · rw [if_pos c11] at h
      subst c11
      exact xk_r (xt_catch hC hE [] ⟨0, 10, 13, 21⟩ [⟨0, 10, 17, 13⟩, ⟨0, 10, 21, 23⟩] rfl (fun _ hz => nomatch hz) (by decide) (by decide) wm_1001 wm_1036 rfl dL_setCue_13 (by decide) dL_setCue_15 (by decide) dL_setCue_16 (so h) (Nat.le_of_ble_eq_true rfl) (Nat.le_of_ble_eq_true rfl))
    rw [if_neg c11] at h
    by_cases c12 : E5 = "java/lang/IllegalArgumentException"
    · rw [if_pos c12] at h
      subst c12
      exact xk_r (xt_catch hC hE [⟨0, 10, 13, 21⟩] ⟨0, 10, 17, 13⟩ [⟨0, 10, 21, 23⟩] rfl (List.forall_mem_cons.mpr ⟨Or.inr ⟨by decide, "java/lang/IndexOutOfBoundsException", wm_1001, by decide⟩, (fun _ hz => nomatch hz)⟩) (by decide) (by decide) wm_885 wm_902 rfl dL_setCue_17 (by decide) dL_setCue_19 (by decide) dL_setCue_20 (so h) (Nat.le_of_ble_eq_true rfl) (Nat.le_of_ble_eq_true rfl))
    rw [if_neg c12] at h
    by_cases c13 : E5 = "java/lang/UnsupportedOperationException"
    · rw [if_pos c13] at h
      subst c13
      exact xk_r (xt_catch hC hE [⟨0, 10, 13, 21⟩, ⟨0, 10, 17, 13⟩] ⟨0, 10, 21, 23⟩ [] rfl (List.forall_mem_cons.mpr ⟨Or.inr ⟨by decide, "java/lang/IndexOutOfBoundsException", wm_1001, by decide⟩, (List.forall_mem_cons.mpr ⟨Or.inr ⟨by decide, "java/lang/IllegalArgumentException", wm_885, by decide⟩, (fun _ hz => nomatch hz)⟩)⟩) (by decide) (by decide) wm_1025 wm_1050 rfl dL_setCue_21 (by decide) dL_setCue_23 (by decide) dL_setCue_24 (so h) (Nat.le_of_ble_eq_true rfl) (Nat.le_of_ble_eq_true rfl))
    rw [if_neg c13] at h
    cases h
theorem c_L_setCue (l : Launch) (hls : l.stackTraces = false) {S : mS} {a0 : Nat} {a1 : Int32} {a2 : Int32} {a3 : Nat} {o : Rs Int32} (h : f_L_setCue S a0 a1 a2 a3 = some o) : CT (fun r : Int32 => some (.int r)) l yL_setCue (.codeWith yL_setCue cL_setCue 5 (Option.some Jvm.ClassFile.FieldType.int) [((0 : Nat), (10 : Nat), (13 : Nat), (21 : Nat)), ((0 : Nat), (10 : Nat), (17 : Nat), (13 : Nat)), ((0 : Nat), (10 : Nat), (21 : Nat), (23 : Nat))]) rm_L_setCue S [.ref a0, .int a1, .int a2, .ref a3] o := ct_ofH (by decide +kernel) hls (Nat.le_of_ble_eq_true rfl) (fun C hl hC hE => t_L_setCue hls hC hl hE h)
abbrev rm_L_loop : Room := { frames := 12, cells := 4, slots := 24, locals := 239 }
abbrev hh_L_loop : List (Nat × Nat × Nat × Nat) := [((0 : Nat), (10 : Nat), (13 : Nat), (21 : Nat)), ((0 : Nat), (10 : Nat), (17 : Nat), (13 : Nat)), ((0 : Nat), (10 : Nat), (21 : Nat), (23 : Nat)), ((0 : Nat), (10 : Nat), (25 : Nat), (15 : Nat))]
def f_L_loop (S : mS) (a0 : Nat) (a1 : Int32) (a2 : Int32) (a3 : Nat) : Option (Rs Int32) :=
  gd (gK S a0 = 16) (bdc (f_X10_loop S a0 a1 a2) (fun E S => if E = "java/lang/IndexOutOfBoundsException" then some (.inl (1 : Int32), S) else if E = "java/lang/IllegalArgumentException" then some (.inl (2 : Int32), S) else if E = "java/lang/UnsupportedOperationException" then some (.inl (3 : Int32), S) else if E = "java/lang/IllegalStateException" then some (.inl (4 : Int32), S) else none) fun x2 S3 => lt9 ((x2).toInt64) fun x6 => gd (gK S3 a3 = 38) (gd (¬ ((0 : Int32) < 0 ∨ gZ S3 a3 ≤ ((0 : Int32)).toNatClampNeg)) (zL (sL S3 a3 ((0 : Int32)).toNatClampNeg x6) fun S9 => some (.inl (0 : Int32), S9))))
set_option maxHeartbeats 2000000 in
set_option maxRecDepth 100000 in
theorem t_L_loop {l : Launch} (hls : l.stackTraces = false) {C : cT} (hC : CX C cL_loop 5 yL_loop rm_L_loop) (hl : C.2.1 = l) {S0 : mS} (hE : CE C S0 (Option.some Jvm.ClassFile.FieldType.int) (tableOf hh_L_loop)) {o : Rs Int32} {S : mS} {a0 : Nat} {a1 : Int32} {a2 : Int32} {a3 : Nat} (h : f_L_loop S a0 a1 a2 a3 = some o) : XX C 5 (QQ C (fun r : Int32 => some (.int r)) S0 o) 0 0 S 0 [(0, .ref a0), (1, .int a1), (2, .int a2), (3, .ref a3)] [] := by
  unfold f_L_loop at h
  refine x_aload_n (pc := 0) hC 3 dL_loop_0 rfl rfl ?_
  refine x_iconst (pc := 1) (v := (0 : Int32)) hC dL_loop_1 (by decide) ?_
  refine x_aload_n (pc := 2) hC 0 dL_loop_2 rfl rfl ?_
  refine x_iload_n (pc := 3) hC 1 dL_loop_3 rfl rfl ?_
  refine x_iload_n (pc := 4) hC 2 dL_loop_4 rfl rfl ?_
  obtain ⟨g1, h⟩ := gd_some h
  obtain ⟨o4, ho4, h⟩ := bdc_some h
  refine x_callV (pc := 5) (As := [.int a1, .int a2]) (rest := [.int (0 : Int32), .ref a3]) hC hl (c_X10_loop l hls ho4) lk_RL_60 fc_16 g1 dL_loop_5 rfl rfl (Nat.le_of_ble_eq_true rfl) ⟨Nat.le_of_ble_eq_true rfl, Nat.le_of_ble_eq_true rfl⟩ ⟨(Nat.le_of_ble_eq_true rfl), (Nat.le_of_ble_eq_true rfl)⟩ ?_
  rcases o4 with ⟨x2 | E5, S3⟩
  · refine xk_i ?_
    replace h := bdc_l h
    refine x_i2lv (pc := 8) hC dL_loop_8 (fun x6 hx6 => ?_)
    replace h := lt_x hx6 h
    obtain ⟨g8, h⟩ := gd_some h
    obtain ⟨g7, h⟩ := gd_some h
    refine x_lastv (pc := 9) hC dL_loop_9 g8 g7 (fun S9 hS9 => ?_)
    replace h := zL_x hS9 h
    have g10 : gK S9 a3 = 38 := by rw [hS9]; exact g8
    refine x_goto (pc := 10) hC 29 dL_loop_10 (by decide) ?_
    refine x_iconst (pc := 29) (v := (0 : Int32)) hC dL_loop_29 (by decide) ?_
    exact x_ireturn (pc := 30) hC hE dL_loop_30 (so h) (Nat.le_of_ble_eq_true rfl) (Nat.le_of_ble_eq_true rfl)
  · replace h := bdc_r h
    by_cases c11 : E5 = "java/lang/IndexOutOfBoundsException"
    · rw [if_pos c11] at h
      subst c11
      exact xk_r (xt_catch hC hE [] ⟨0, 10, 13, 21⟩ [⟨0, 10, 17, 13⟩, ⟨0, 10, 21, 23⟩, ⟨0, 10, 25, 15⟩] rfl (fun _ hz => nomatch hz) (by decide) (by decide) wm_1001 wm_1036 rfl dL_loop_13 (by decide) dL_loop_15 (by decide) dL_loop_16 (so h) (Nat.le_of_ble_eq_true rfl) (Nat.le_of_ble_eq_true rfl))
    rw [if_neg c11] at h
    by_cases c12 : E5 = "java/lang/IllegalArgumentException"
    · rw [if_pos c12] at h
      subst c12
      exact xk_r (xt_catch hC hE [⟨0, 10, 13, 21⟩] ⟨0, 10, 17, 13⟩ [⟨0, 10, 21, 23⟩, ⟨0, 10, 25, 15⟩] rfl (List.forall_mem_cons.mpr ⟨Or.inr ⟨by decide, "java/lang/IndexOutOfBoundsException", wm_1001, by decide⟩, (fun _ hz => nomatch hz)⟩) (by decide) (by decide) wm_885 wm_902 rfl dL_loop_17 (by decide) dL_loop_19 (by decide) dL_loop_20 (so h) (Nat.le_of_ble_eq_true rfl) (Nat.le_of_ble_eq_true rfl))
    rw [if_neg c12] at h
    by_cases c13 : E5 = "java/lang/UnsupportedOperationException"
    · rw [if_pos c13] at h
      subst c13
      exact xk_r (xt_catch hC hE [⟨0, 10, 13, 21⟩, ⟨0, 10, 17, 13⟩] ⟨0, 10, 21, 23⟩ [⟨0, 10, 25, 15⟩] rfl (List.forall_mem_cons.mpr ⟨Or.inr ⟨by decide, "java/lang/IndexOutOfBoundsException", wm_1001, by decide⟩, (List.forall_mem_cons.mpr ⟨Or.inr ⟨by decide, "java/lang/IllegalArgumentException", wm_885, by decide⟩, (fun _ hz => nomatch hz)⟩)⟩) (by decide) (by decide) wm_1025 wm_1050 rfl dL_loop_21 (by decide) dL_loop_23 (by decide) dL_loop_24 (so h) (Nat.le_of_ble_eq_true rfl) (Nat.le_of_ble_eq_true rfl))
    rw [if_neg c13] at h
    by_cases c14 : E5 = "java/lang/IllegalStateException"
    · rw [if_pos c14] at h
      subst c14
      exact xk_r (xt_catch hC hE [⟨0, 10, 13, 21⟩, ⟨0, 10, 17, 13⟩, ⟨0, 10, 21, 23⟩] ⟨0, 10, 25, 15⟩ [] rfl (List.forall_mem_cons.mpr ⟨Or.inr ⟨by decide, "java/lang/IndexOutOfBoundsException", wm_1001, by decide⟩, (List.forall_mem_cons.mpr ⟨Or.inr ⟨by decide, "java/lang/IllegalArgumentException", wm_885, by decide⟩, (List.forall_mem_cons.mpr ⟨Or.inr ⟨by decide, "java/lang/UnsupportedOperationException", wm_1025, by decide⟩, (fun _ hz => nomatch hz)⟩)⟩)⟩) (by decide) (by decide) wm_886 wm_975 rfl dL_loop_25 (by decide) dL_loop_27 (by decide) dL_loop_28 (so h) (Nat.le_of_ble_eq_true rfl) (Nat.le_of_ble_eq_true rfl))
    rw [if_neg c14] at h
    cases h
theorem c_L_loop (l : Launch) (hls : l.stackTraces = false) {S : mS} {a0 : Nat} {a1 : Int32} {a2 : Int32} {a3 : Nat} {o : Rs Int32} (h : f_L_loop S a0 a1 a2 a3 = some o) : CT (fun r : Int32 => some (.int r)) l yL_loop (.codeWith yL_loop cL_loop 5 (Option.some Jvm.ClassFile.FieldType.int) [((0 : Nat), (10 : Nat), (13 : Nat), (21 : Nat)), ((0 : Nat), (10 : Nat), (17 : Nat), (13 : Nat)), ((0 : Nat), (10 : Nat), (21 : Nat), (23 : Nat)), ((0 : Nat), (10 : Nat), (25 : Nat), (15 : Nat))]) rm_L_loop S [.ref a0, .int a1, .int a2, .ref a3] o := ct_ofH (by decide +kernel) hls (Nat.le_of_ble_eq_true rfl) (fun C hl hC hE => t_L_loop hls hC hl hE h)
abbrev rm_L_out : Room := { frames := 12, cells := 1, slots := 6, locals := 238 }
abbrev hh_L_out : List (Nat × Nat × Nat × Nat) := [((0 : Nat), (16 : Nat), (19 : Nat), (21 : Nat))]
def f_L_out_15  (S : mS) (s0 : Nat) (s1 : Int32) (s2 : Int64) : Option (Rs Int32) :=
  gd (gK S s0 = 38) (gd (¬ (s1 < 0 ∨ gZ S s0 ≤ (s1).toNatClampNeg)) (zL (sL S s0 (s1).toNatClampNeg s2) fun S3 => some (.inl (0 : Int32), S3)))
set_option maxHeartbeats 2000000 in
set_option maxRecDepth 100000 in
theorem t_L_out_15 {l : Launch} (hls : l.stackTraces = false) {C : cT} (hC : CX C cL_out 4 yL_out rm_L_out) (hl : C.2.1 = l) {S0 : mS} (hE : CE C S0 (Option.some Jvm.ClassFile.FieldType.int) (tableOf hh_L_out)) {o : Rs Int32} {S : mS} {s0 : Nat} {s1 : Int32} {s2 : Int64} (h : f_L_out_15  S s0 s1 s2 = some o) : XX C 4 (QQ C (fun r : Int32 => some (.int r)) S0 o) (1) (6) S 15 [] [.long s2, .int s1, .ref s0] := by
  unfold f_L_out_15 at h
  obtain ⟨g2, h⟩ := gd_some h
  obtain ⟨g1, h⟩ := gd_some h
  refine x_lastv (pc := 15) hC dL_out_15 g2 g1 (fun S3 hS3 => ?_)
  replace h := zL_x hS3 h
  have g4 : gK S3 s0 = 38 := by rw [hS3]; exact g2
  refine x_goto (pc := 16) hC 22 dL_out_16 (by decide) ?_
  refine x_iconst (pc := 22) (v := (0 : Int32)) hC dL_out_22 (by decide) ?_
  exact x_ireturn (pc := 23) hC hE dL_out_23 (so h) (Nat.le_of_ble_eq_true rfl) (Nat.le_of_ble_eq_true rfl)
def f_L_out (S : mS) (a0 : Nat) (a1 : Int32) (a2 : Nat) : Option (Rs Int32) :=
  gd (gK S a0 = 16) (bdc (f_X10_out S a0 a1) (fun E S => if E = "java/lang/IndexOutOfBoundsException" then some (.inl (1 : Int32), S) else none) fun x2 S3 => if x2 = 0 then (f_L_out_15  S3 a2 (0 : Int32) (0 : Int64)) else (f_L_out_15  S3 a2 (0 : Int32) (1 : Int64)))
set_option maxHeartbeats 2000000 in
set_option maxRecDepth 100000 in
theorem t_L_out {l : Launch} (hls : l.stackTraces = false) {C : cT} (hC : CX C cL_out 4 yL_out rm_L_out) (hl : C.2.1 = l) {S0 : mS} (hE : CE C S0 (Option.some Jvm.ClassFile.FieldType.int) (tableOf hh_L_out)) {o : Rs Int32} {S : mS} {a0 : Nat} {a1 : Int32} {a2 : Nat} (h : f_L_out S a0 a1 a2 = some o) : XX C 4 (QQ C (fun r : Int32 => some (.int r)) S0 o) 0 0 S 0 [(0, .ref a0), (1, .int a1), (2, .ref a2)] [] := by
  unfold f_L_out at h
  refine x_aload_n (pc := 0) hC 2 dL_out_0 rfl rfl ?_
  refine x_iconst (pc := 1) (v := (0 : Int32)) hC dL_out_1 (by decide) ?_
  refine x_aload_n (pc := 2) hC 0 dL_out_2 rfl rfl ?_
  refine x_iload_n (pc := 3) hC 1 dL_out_3 rfl rfl ?_
  obtain ⟨g1, h⟩ := gd_some h
  obtain ⟨o4, ho4, h⟩ := bdc_some h
  refine x_callV (pc := 4) (As := [.int a1]) (rest := [.int (0 : Int32), .ref a2]) hC hl (c_X10_out l hls ho4) lk_RL_63 fc_16 g1 dL_out_4 rfl rfl (Nat.le_of_ble_eq_true rfl) ⟨Nat.le_of_ble_eq_true rfl, Nat.le_of_ble_eq_true rfl⟩ ⟨(Nat.le_of_ble_eq_true rfl), (Nat.le_of_ble_eq_true rfl)⟩ ?_
  rcases o4 with ⟨x2 | E5, S3⟩
  · refine xk_i ?_
    replace h := bdc_l h
    refine x_if_eq (pc := 7) hC 14 dL_out_7 (by decide) (fun c6 => ?_) (fun c6 => ?_)
    · rw [if_pos c6] at h
      refine x_lconst (pc := 14) (v := (0 : Int64)) hC dL_out_14 (by decide) ?_
      refine x_pick [] rfl ?_
      exact t_L_out_15 hls hC hl hE h
    · rw [if_neg c6] at h
      refine x_lconst (pc := 10) (v := (1 : Int64)) hC dL_out_10 (by decide) ?_
      refine x_goto (pc := 11) hC 15 dL_out_11 (by decide) ?_
      refine x_pick [] rfl ?_
      exact t_L_out_15 hls hC hl hE h
  · replace h := bdc_r h
    by_cases c7 : E5 = "java/lang/IndexOutOfBoundsException"
    · rw [if_pos c7] at h
      subst c7
      exact xk_r (xt_catch_n hC hE [] ⟨0, 16, 19, 21⟩ [] rfl (fun _ hz => nomatch hz) (by decide) (by decide) wm_1001 wm_1036 rfl dL_out_19 rfl (by decide) dL_out_20 (by decide) dL_out_21 (so h) (Nat.le_of_ble_eq_true rfl) (Nat.le_of_ble_eq_true rfl))
    rw [if_neg c7] at h
    cases h
theorem c_L_out (l : Launch) (hls : l.stackTraces = false) {S : mS} {a0 : Nat} {a1 : Int32} {a2 : Nat} {o : Rs Int32} (h : f_L_out S a0 a1 a2 = some o) : CT (fun r : Int32 => some (.int r)) l yL_out (.codeWith yL_out cL_out 4 (Option.some Jvm.ClassFile.FieldType.int) [((0 : Nat), (16 : Nat), (19 : Nat), (21 : Nat))]) rm_L_out S [.ref a0, .int a1, .ref a2] o := ct_ofH (by decide +kernel) hls (Nat.le_of_ble_eq_true rfl) (fun C hl hC hE => t_L_out hls hC hl hE h)
abbrev rm_L_slip : Room := { frames := 12, cells := 2, slots := 12, locals := 239 }
abbrev hh_L_slip : List (Nat × Nat × Nat × Nat) := [((0 : Nat), (17 : Nat), (20 : Nat), (21 : Nat)), ((0 : Nat), (17 : Nat), (24 : Nat), (23 : Nat))]
def f_L_slip_16  (S : mS) (s0 : Nat) (s1 : Int32) (s2 : Int64) : Option (Rs Int32) :=
  gd (gK S s0 = 38) (gd (¬ (s1 < 0 ∨ gZ S s0 ≤ (s1).toNatClampNeg)) (zL (sL S s0 (s1).toNatClampNeg s2) fun S3 => some (.inl (0 : Int32), S3)))
set_option maxHeartbeats 2000000 in
set_option maxRecDepth 100000 in
theorem t_L_slip_16 {l : Launch} (hls : l.stackTraces = false) {C : cT} (hC : CX C cL_slip 5 yL_slip rm_L_slip) (hl : C.2.1 = l) {S0 : mS} (hE : CE C S0 (Option.some Jvm.ClassFile.FieldType.int) (tableOf hh_L_slip)) {o : Rs Int32} {S : mS} {s0 : Nat} {s1 : Int32} {s2 : Int64} (h : f_L_slip_16  S s0 s1 s2 = some o) : XX C 5 (QQ C (fun r : Int32 => some (.int r)) S0 o) (2) (12) S 16 [] [.long s2, .int s1, .ref s0] := by
  unfold f_L_slip_16 at h
  obtain ⟨g2, h⟩ := gd_some h
  obtain ⟨g1, h⟩ := gd_some h
  refine x_lastv (pc := 16) hC dL_slip_16 g2 g1 (fun S3 hS3 => ?_)
  replace h := zL_x hS3 h
  have g4 : gK S3 s0 = 38 := by rw [hS3]; exact g2
  refine x_goto (pc := 17) hC 28 dL_slip_17 (by decide) ?_
  refine x_iconst (pc := 28) (v := (0 : Int32)) hC dL_slip_28 (by decide) ?_
  exact x_ireturn (pc := 29) hC hE dL_slip_29 (so h) (Nat.le_of_ble_eq_true rfl) (Nat.le_of_ble_eq_true rfl)
def f_L_slip (S : mS) (a0 : Nat) (a1 : Int32) (a2 : Int32) (a3 : Nat) : Option (Rs Int32) :=
  gd (gK S a0 = 16) (bdc (f_X10_slip S a0 a1 a2) (fun E S => if E = "java/lang/IndexOutOfBoundsException" then some (.inl (1 : Int32), S) else if E = "java/lang/UnsupportedOperationException" then some (.inl (2 : Int32), S) else none) fun x2 S3 => if x2 = 0 then (f_L_slip_16  S3 a3 (0 : Int32) (0 : Int64)) else (f_L_slip_16  S3 a3 (0 : Int32) (1 : Int64)))
set_option maxHeartbeats 2000000 in
set_option maxRecDepth 100000 in
theorem t_L_slip {l : Launch} (hls : l.stackTraces = false) {C : cT} (hC : CX C cL_slip 5 yL_slip rm_L_slip) (hl : C.2.1 = l) {S0 : mS} (hE : CE C S0 (Option.some Jvm.ClassFile.FieldType.int) (tableOf hh_L_slip)) {o : Rs Int32} {S : mS} {a0 : Nat} {a1 : Int32} {a2 : Int32} {a3 : Nat} (h : f_L_slip S a0 a1 a2 a3 = some o) : XX C 5 (QQ C (fun r : Int32 => some (.int r)) S0 o) 0 0 S 0 [(0, .ref a0), (1, .int a1), (2, .int a2), (3, .ref a3)] [] := by
  unfold f_L_slip at h
  refine x_aload_n (pc := 0) hC 3 dL_slip_0 rfl rfl ?_
  refine x_iconst (pc := 1) (v := (0 : Int32)) hC dL_slip_1 (by decide) ?_
  refine x_aload_n (pc := 2) hC 0 dL_slip_2 rfl rfl ?_
  refine x_iload_n (pc := 3) hC 1 dL_slip_3 rfl rfl ?_
  refine x_iload_n (pc := 4) hC 2 dL_slip_4 rfl rfl ?_
  obtain ⟨g1, h⟩ := gd_some h
  obtain ⟨o4, ho4, h⟩ := bdc_some h
  refine x_callV (pc := 5) (As := [.int a1, .int a2]) (rest := [.int (0 : Int32), .ref a3]) hC hl (c_X10_slip l hls ho4) lk_RL_66 fc_16 g1 dL_slip_5 rfl rfl (Nat.le_of_ble_eq_true rfl) ⟨Nat.le_of_ble_eq_true rfl, Nat.le_of_ble_eq_true rfl⟩ ⟨(Nat.le_of_ble_eq_true rfl), (Nat.le_of_ble_eq_true rfl)⟩ ?_
  rcases o4 with ⟨x2 | E5, S3⟩
  · refine xk_i ?_
    replace h := bdc_l h
    refine x_if_eq (pc := 8) hC 15 dL_slip_8 (by decide) (fun c6 => ?_) (fun c6 => ?_)
    · rw [if_pos c6] at h
      refine x_lconst (pc := 15) (v := (0 : Int64)) hC dL_slip_15 (by decide) ?_
      refine x_pick [] rfl ?_
      exact t_L_slip_16 hls hC hl hE h
    · rw [if_neg c6] at h
      refine x_lconst (pc := 11) (v := (1 : Int64)) hC dL_slip_11 (by decide) ?_
      refine x_goto (pc := 12) hC 16 dL_slip_12 (by decide) ?_
      refine x_pick [] rfl ?_
      exact t_L_slip_16 hls hC hl hE h
  · replace h := bdc_r h
    by_cases c7 : E5 = "java/lang/IndexOutOfBoundsException"
    · rw [if_pos c7] at h
      subst c7
      exact xk_r (xt_catch hC hE [] ⟨0, 17, 20, 21⟩ [⟨0, 17, 24, 23⟩] rfl (fun _ hz => nomatch hz) (by decide) (by decide) wm_1001 wm_1036 rfl dL_slip_20 (by decide) dL_slip_22 (by decide) dL_slip_23 (so h) (Nat.le_of_ble_eq_true rfl) (Nat.le_of_ble_eq_true rfl))
    rw [if_neg c7] at h
    by_cases c8 : E5 = "java/lang/UnsupportedOperationException"
    · rw [if_pos c8] at h
      subst c8
      exact xk_r (xt_catch hC hE [⟨0, 17, 20, 21⟩] ⟨0, 17, 24, 23⟩ [] rfl (List.forall_mem_cons.mpr ⟨Or.inr ⟨by decide, "java/lang/IndexOutOfBoundsException", wm_1001, by decide⟩, (fun _ hz => nomatch hz)⟩) (by decide) (by decide) wm_1025 wm_1050 rfl dL_slip_24 (by decide) dL_slip_26 (by decide) dL_slip_27 (so h) (Nat.le_of_ble_eq_true rfl) (Nat.le_of_ble_eq_true rfl))
    rw [if_neg c8] at h
    cases h
theorem c_L_slip (l : Launch) (hls : l.stackTraces = false) {S : mS} {a0 : Nat} {a1 : Int32} {a2 : Int32} {a3 : Nat} {o : Rs Int32} (h : f_L_slip S a0 a1 a2 a3 = some o) : CT (fun r : Int32 => some (.int r)) l yL_slip (.codeWith yL_slip cL_slip 5 (Option.some Jvm.ClassFile.FieldType.int) [((0 : Nat), (17 : Nat), (20 : Nat), (21 : Nat)), ((0 : Nat), (17 : Nat), (24 : Nat), (23 : Nat))]) rm_L_slip S [.ref a0, .int a1, .int a2, .ref a3] o := ct_ofH (by decide +kernel) hls (Nat.le_of_ble_eq_true rfl) (fun C hl hC hE => t_L_slip hls hC hl hE h)
abbrev rm_L_place : Room := { frames := 11, cells := 2, slots := 12, locals := 215 }
abbrev hh_L_place : List (Nat × Nat × Nat × Nat) := [((0 : Nat), (8 : Nat), (11 : Nat), (21 : Nat)), ((0 : Nat), (8 : Nat), (14 : Nat), (23 : Nat))]
def f_L_place (S : mS) (a0 : Nat) (a1 : Int32) (a2 : Nat) : Option (Rs Int32) :=
  gd (gK S a0 = 16) (bdc (f_X10_place S a0 a1) (fun E S => if E = "java/lang/IndexOutOfBoundsException" then some (.inl (1 : Int32), S) else if E = "java/lang/UnsupportedOperationException" then some (.inl (2 : Int32), S) else none) fun x2 S3 => gd (gK S3 a2 = 38) (gd (¬ ((0 : Int32) < 0 ∨ gZ S3 a2 ≤ ((0 : Int32)).toNatClampNeg)) (zL (sL S3 a2 ((0 : Int32)).toNatClampNeg x2) fun S8 => some (.inl (0 : Int32), S8))))
set_option maxHeartbeats 2000000 in
set_option maxRecDepth 100000 in
theorem t_L_place {l : Launch} (hls : l.stackTraces = false) {C : cT} (hC : CX C cL_place 4 yL_place rm_L_place) (hl : C.2.1 = l) {S0 : mS} (hE : CE C S0 (Option.some Jvm.ClassFile.FieldType.int) (tableOf hh_L_place)) {o : Rs Int32} {S : mS} {a0 : Nat} {a1 : Int32} {a2 : Nat} (h : f_L_place S a0 a1 a2 = some o) : XX C 4 (QQ C (fun r : Int32 => some (.int r)) S0 o) 0 0 S 0 [(0, .ref a0), (1, .int a1), (2, .ref a2)] [] := by
  unfold f_L_place at h
  refine x_aload_n (pc := 0) hC 2 dL_place_0 rfl rfl ?_
  refine x_iconst (pc := 1) (v := (0 : Int32)) hC dL_place_1 (by decide) ?_
  refine x_aload_n (pc := 2) hC 0 dL_place_2 rfl rfl ?_
  refine x_iload_n (pc := 3) hC 1 dL_place_3 rfl rfl ?_
  obtain ⟨g1, h⟩ := gd_some h
  obtain ⟨o4, ho4, h⟩ := bdc_some h
  refine x_callV (pc := 4) (As := [.int a1]) (rest := [.int (0 : Int32), .ref a2]) hC hl (c_X10_place l hls ho4) lk_RL_69 fc_16 g1 dL_place_4 rfl rfl (Nat.le_of_ble_eq_true rfl) ⟨Nat.le_of_ble_eq_true rfl, Nat.le_of_ble_eq_true rfl⟩ ⟨(Nat.le_of_ble_eq_true rfl), (Nat.le_of_ble_eq_true rfl)⟩ ?_
  rcases o4 with ⟨x2 | E5, S3⟩
  · refine xk_j ?_
    replace h := bdc_l h
    obtain ⟨g7, h⟩ := gd_some h
    obtain ⟨g6, h⟩ := gd_some h
    refine x_lastv (pc := 7) hC dL_place_7 g7 g6 (fun S8 hS8 => ?_)
    replace h := zL_x hS8 h
    have g9 : gK S8 a2 = 38 := by rw [hS8]; exact g7
    refine x_goto (pc := 8) hC 17 dL_place_8 (by decide) ?_
    refine x_iconst (pc := 17) (v := (0 : Int32)) hC dL_place_17 (by decide) ?_
    exact x_ireturn (pc := 18) hC hE dL_place_18 (so h) (Nat.le_of_ble_eq_true rfl) (Nat.le_of_ble_eq_true rfl)
  · replace h := bdc_r h
    by_cases c10 : E5 = "java/lang/IndexOutOfBoundsException"
    · rw [if_pos c10] at h
      subst c10
      exact xk_r (xt_catch_n hC hE [] ⟨0, 8, 11, 21⟩ [⟨0, 8, 14, 23⟩] rfl (fun _ hz => nomatch hz) (by decide) (by decide) wm_1001 wm_1036 rfl dL_place_11 rfl (by decide) dL_place_12 (by decide) dL_place_13 (so h) (Nat.le_of_ble_eq_true rfl) (Nat.le_of_ble_eq_true rfl))
    rw [if_neg c10] at h
    by_cases c11 : E5 = "java/lang/UnsupportedOperationException"
    · rw [if_pos c11] at h
      subst c11
      exact xk_r (xt_catch_n hC hE [⟨0, 8, 11, 21⟩] ⟨0, 8, 14, 23⟩ [] rfl (List.forall_mem_cons.mpr ⟨Or.inr ⟨by decide, "java/lang/IndexOutOfBoundsException", wm_1001, by decide⟩, (fun _ hz => nomatch hz)⟩) (by decide) (by decide) wm_1025 wm_1050 rfl dL_place_14 rfl (by decide) dL_place_15 (by decide) dL_place_16 (so h) (Nat.le_of_ble_eq_true rfl) (Nat.le_of_ble_eq_true rfl))
    rw [if_neg c11] at h
    cases h
theorem c_L_place (l : Launch) (hls : l.stackTraces = false) {S : mS} {a0 : Nat} {a1 : Int32} {a2 : Nat} {o : Rs Int32} (h : f_L_place S a0 a1 a2 = some o) : CT (fun r : Int32 => some (.int r)) l yL_place (.codeWith yL_place cL_place 4 (Option.some Jvm.ClassFile.FieldType.int) [((0 : Nat), (8 : Nat), (11 : Nat), (21 : Nat)), ((0 : Nat), (8 : Nat), (14 : Nat), (23 : Nat))]) rm_L_place S [.ref a0, .int a1, .ref a2] o := ct_ofH (by decide +kernel) hls (Nat.le_of_ble_eq_true rfl) (fun C hl hC hE => t_L_place hls hC hl hE h)
abbrev rm_L_tempo : Room := { frames := 11, cells := 2, slots := 12, locals := 215 }
abbrev hh_L_tempo : List (Nat × Nat × Nat × Nat) := [((0 : Nat), (9 : Nat), (12 : Nat), (21 : Nat)), ((0 : Nat), (9 : Nat), (15 : Nat), (23 : Nat))]
def f_L_tempo (S : mS) (a0 : Nat) (a1 : Int32) (a2 : Nat) : Option (Rs Int32) :=
  gd (gK S a0 = 16) (bdc (f_X10_tempo S a0 a1) (fun E S => if E = "java/lang/IndexOutOfBoundsException" then some (.inl (1 : Int32), S) else if E = "java/lang/UnsupportedOperationException" then some (.inl (2 : Int32), S) else none) fun x2 S3 => lt9 ((x2).toInt64) fun x6 => gd (gK S3 a2 = 38) (gd (¬ ((0 : Int32) < 0 ∨ gZ S3 a2 ≤ ((0 : Int32)).toNatClampNeg)) (zL (sL S3 a2 ((0 : Int32)).toNatClampNeg x6) fun S9 => some (.inl (0 : Int32), S9))))
set_option maxHeartbeats 2000000 in
set_option maxRecDepth 100000 in
theorem t_L_tempo {l : Launch} (hls : l.stackTraces = false) {C : cT} (hC : CX C cL_tempo 4 yL_tempo rm_L_tempo) (hl : C.2.1 = l) {S0 : mS} (hE : CE C S0 (Option.some Jvm.ClassFile.FieldType.int) (tableOf hh_L_tempo)) {o : Rs Int32} {S : mS} {a0 : Nat} {a1 : Int32} {a2 : Nat} (h : f_L_tempo S a0 a1 a2 = some o) : XX C 4 (QQ C (fun r : Int32 => some (.int r)) S0 o) 0 0 S 0 [(0, .ref a0), (1, .int a1), (2, .ref a2)] [] := by
  unfold f_L_tempo at h
  refine x_aload_n (pc := 0) hC 2 dL_tempo_0 rfl rfl ?_
  refine x_iconst (pc := 1) (v := (0 : Int32)) hC dL_tempo_1 (by decide) ?_
  refine x_aload_n (pc := 2) hC 0 dL_tempo_2 rfl rfl ?_
  refine x_iload_n (pc := 3) hC 1 dL_tempo_3 rfl rfl ?_
  obtain ⟨g1, h⟩ := gd_some h
  obtain ⟨o4, ho4, h⟩ := bdc_some h
  refine x_callV (pc := 4) (As := [.int a1]) (rest := [.int (0 : Int32), .ref a2]) hC hl (c_X10_tempo l hls ho4) lk_RL_73 fc_16 g1 dL_tempo_4 rfl rfl (Nat.le_of_ble_eq_true rfl) ⟨Nat.le_of_ble_eq_true rfl, Nat.le_of_ble_eq_true rfl⟩ ⟨(Nat.le_of_ble_eq_true rfl), (Nat.le_of_ble_eq_true rfl)⟩ ?_
  rcases o4 with ⟨x2 | E5, S3⟩
  · refine xk_i ?_
    replace h := bdc_l h
    refine x_i2lv (pc := 7) hC dL_tempo_7 (fun x6 hx6 => ?_)
    replace h := lt_x hx6 h
    obtain ⟨g8, h⟩ := gd_some h
    obtain ⟨g7, h⟩ := gd_some h
    refine x_lastv (pc := 8) hC dL_tempo_8 g8 g7 (fun S9 hS9 => ?_)
    replace h := zL_x hS9 h
    have g10 : gK S9 a2 = 38 := by rw [hS9]; exact g8
    refine x_goto (pc := 9) hC 18 dL_tempo_9 (by decide) ?_
    refine x_iconst (pc := 18) (v := (0 : Int32)) hC dL_tempo_18 (by decide) ?_
    exact x_ireturn (pc := 19) hC hE dL_tempo_19 (so h) (Nat.le_of_ble_eq_true rfl) (Nat.le_of_ble_eq_true rfl)
  · replace h := bdc_r h
    by_cases c11 : E5 = "java/lang/IndexOutOfBoundsException"
    · rw [if_pos c11] at h
      subst c11
      exact xk_r (xt_catch_n hC hE [] ⟨0, 9, 12, 21⟩ [⟨0, 9, 15, 23⟩] rfl (fun _ hz => nomatch hz) (by decide) (by decide) wm_1001 wm_1036 rfl dL_tempo_12 rfl (by decide) dL_tempo_13 (by decide) dL_tempo_14 (so h) (Nat.le_of_ble_eq_true rfl) (Nat.le_of_ble_eq_true rfl))
    rw [if_neg c11] at h
    by_cases c12 : E5 = "java/lang/UnsupportedOperationException"
    · rw [if_pos c12] at h
      subst c12
      exact xk_r (xt_catch_n hC hE [⟨0, 9, 12, 21⟩] ⟨0, 9, 15, 23⟩ [] rfl (List.forall_mem_cons.mpr ⟨Or.inr ⟨by decide, "java/lang/IndexOutOfBoundsException", wm_1001, by decide⟩, (fun _ hz => nomatch hz)⟩) (by decide) (by decide) wm_1025 wm_1050 rfl dL_tempo_15 rfl (by decide) dL_tempo_16 (by decide) dL_tempo_17 (so h) (Nat.le_of_ble_eq_true rfl) (Nat.le_of_ble_eq_true rfl))
    rw [if_neg c12] at h
    cases h
theorem c_L_tempo (l : Launch) (hls : l.stackTraces = false) {S : mS} {a0 : Nat} {a1 : Int32} {a2 : Nat} {o : Rs Int32} (h : f_L_tempo S a0 a1 a2 = some o) : CT (fun r : Int32 => some (.int r)) l yL_tempo (.codeWith yL_tempo cL_tempo 4 (Option.some Jvm.ClassFile.FieldType.int) [((0 : Nat), (9 : Nat), (12 : Nat), (21 : Nat)), ((0 : Nat), (9 : Nat), (15 : Nat), (23 : Nat))]) rm_L_tempo S [.ref a0, .int a1, .ref a2] o := ct_ofH (by decide +kernel) hls (Nat.le_of_ble_eq_true rfl) (fun C hl hC hE => t_L_tempo hls hC hl hE h)
abbrev rm_L_plays : Room := { frames := 11, cells := 1, slots := 6, locals := 214 }
abbrev hh_L_plays : List (Nat × Nat × Nat × Nat) := [((0 : Nat), (16 : Nat), (19 : Nat), (21 : Nat))]
def f_L_plays_15  (S : mS) (s0 : Nat) (s1 : Int32) (s2 : Int64) : Option (Rs Int32) :=
  gd (gK S s0 = 38) (gd (¬ (s1 < 0 ∨ gZ S s0 ≤ (s1).toNatClampNeg)) (zL (sL S s0 (s1).toNatClampNeg s2) fun S3 => some (.inl (0 : Int32), S3)))
set_option maxHeartbeats 2000000 in
set_option maxRecDepth 100000 in
theorem t_L_plays_15 {l : Launch} (hls : l.stackTraces = false) {C : cT} (hC : CX C cL_plays 4 yL_plays rm_L_plays) (hl : C.2.1 = l) {S0 : mS} (hE : CE C S0 (Option.some Jvm.ClassFile.FieldType.int) (tableOf hh_L_plays)) {o : Rs Int32} {S : mS} {s0 : Nat} {s1 : Int32} {s2 : Int64} (h : f_L_plays_15  S s0 s1 s2 = some o) : XX C 4 (QQ C (fun r : Int32 => some (.int r)) S0 o) (1) (6) S 15 [] [.long s2, .int s1, .ref s0] := by
  unfold f_L_plays_15 at h
  obtain ⟨g2, h⟩ := gd_some h
  obtain ⟨g1, h⟩ := gd_some h
  refine x_lastv (pc := 15) hC dL_plays_15 g2 g1 (fun S3 hS3 => ?_)
  replace h := zL_x hS3 h
  have g4 : gK S3 s0 = 38 := by rw [hS3]; exact g2
  refine x_goto (pc := 16) hC 22 dL_plays_16 (by decide) ?_
  refine x_iconst (pc := 22) (v := (0 : Int32)) hC dL_plays_22 (by decide) ?_
  exact x_ireturn (pc := 23) hC hE dL_plays_23 (so h) (Nat.le_of_ble_eq_true rfl) (Nat.le_of_ble_eq_true rfl)
def f_L_plays (S : mS) (a0 : Nat) (a1 : Int32) (a2 : Nat) : Option (Rs Int32) :=
  gd (gK S a0 = 16) (bdc (f_X10_plays S a0 a1) (fun E S => if E = "java/lang/IndexOutOfBoundsException" then some (.inl (1 : Int32), S) else none) fun x2 S3 => if x2 = 0 then (f_L_plays_15  S3 a2 (0 : Int32) (0 : Int64)) else (f_L_plays_15  S3 a2 (0 : Int32) (1 : Int64)))
set_option maxHeartbeats 2000000 in
set_option maxRecDepth 100000 in
theorem t_L_plays {l : Launch} (hls : l.stackTraces = false) {C : cT} (hC : CX C cL_plays 4 yL_plays rm_L_plays) (hl : C.2.1 = l) {S0 : mS} (hE : CE C S0 (Option.some Jvm.ClassFile.FieldType.int) (tableOf hh_L_plays)) {o : Rs Int32} {S : mS} {a0 : Nat} {a1 : Int32} {a2 : Nat} (h : f_L_plays S a0 a1 a2 = some o) : XX C 4 (QQ C (fun r : Int32 => some (.int r)) S0 o) 0 0 S 0 [(0, .ref a0), (1, .int a1), (2, .ref a2)] [] := by
  unfold f_L_plays at h
  refine x_aload_n (pc := 0) hC 2 dL_plays_0 rfl rfl ?_
  refine x_iconst (pc := 1) (v := (0 : Int32)) hC dL_plays_1 (by decide) ?_
  refine x_aload_n (pc := 2) hC 0 dL_plays_2 rfl rfl ?_
  refine x_iload_n (pc := 3) hC 1 dL_plays_3 rfl rfl ?_
  obtain ⟨g1, h⟩ := gd_some h
  obtain ⟨o4, ho4, h⟩ := bdc_some h
  refine x_callV (pc := 4) (As := [.int a1]) (rest := [.int (0 : Int32), .ref a2]) hC hl (c_X10_plays l hls ho4) lk_RL_77 fc_16 g1 dL_plays_4 rfl rfl (Nat.le_of_ble_eq_true rfl) ⟨Nat.le_of_ble_eq_true rfl, Nat.le_of_ble_eq_true rfl⟩ ⟨(Nat.le_of_ble_eq_true rfl), (Nat.le_of_ble_eq_true rfl)⟩ ?_
  rcases o4 with ⟨x2 | E5, S3⟩
  · refine xk_i ?_
    replace h := bdc_l h
    refine x_if_eq (pc := 7) hC 14 dL_plays_7 (by decide) (fun c6 => ?_) (fun c6 => ?_)
    · rw [if_pos c6] at h
      refine x_lconst (pc := 14) (v := (0 : Int64)) hC dL_plays_14 (by decide) ?_
      refine x_pick [] rfl ?_
      exact t_L_plays_15 hls hC hl hE h
    · rw [if_neg c6] at h
      refine x_lconst (pc := 10) (v := (1 : Int64)) hC dL_plays_10 (by decide) ?_
      refine x_goto (pc := 11) hC 15 dL_plays_11 (by decide) ?_
      refine x_pick [] rfl ?_
      exact t_L_plays_15 hls hC hl hE h
  · replace h := bdc_r h
    by_cases c7 : E5 = "java/lang/IndexOutOfBoundsException"
    · rw [if_pos c7] at h
      subst c7
      exact xk_r (xt_catch_n hC hE [] ⟨0, 16, 19, 21⟩ [] rfl (fun _ hz => nomatch hz) (by decide) (by decide) wm_1001 wm_1036 rfl dL_plays_19 rfl (by decide) dL_plays_20 (by decide) dL_plays_21 (so h) (Nat.le_of_ble_eq_true rfl) (Nat.le_of_ble_eq_true rfl))
    rw [if_neg c7] at h
    cases h
theorem c_L_plays (l : Launch) (hls : l.stackTraces = false) {S : mS} {a0 : Nat} {a1 : Int32} {a2 : Nat} {o : Rs Int32} (h : f_L_plays S a0 a1 a2 = some o) : CT (fun r : Int32 => some (.int r)) l yL_plays (.codeWith yL_plays cL_plays 4 (Option.some Jvm.ClassFile.FieldType.int) [((0 : Nat), (16 : Nat), (19 : Nat), (21 : Nat))]) rm_L_plays S [.ref a0, .int a1, .ref a2] o := ct_ofH (by decide +kernel) hls (Nat.le_of_ble_eq_true rfl) (fun C hl hC hE => t_L_plays hls hC hl hE h)
abbrev rm_L_on : Room := { frames := 11, cells := 2, slots := 12, locals := 215 }
abbrev hh_L_on : List (Nat × Nat × Nat × Nat) := [((0 : Nat), (9 : Nat), (12 : Nat), (21 : Nat)), ((0 : Nat), (9 : Nat), (15 : Nat), (83 : Nat))]
def f_L_on (S : mS) (a0 : Nat) (a1 : Int32) (a2 : Nat) : Option (Rs Int32) :=
  gd (gK S a0 = 16) (bdc (f_X10_on S a0 a1) (fun E S => if E = "java/lang/IndexOutOfBoundsException" then some (.inl (1 : Int32), S) else if E = "java/util/NoSuchElementException" then some (.inl (2 : Int32), S) else none) fun x2 S3 => lt9 ((x2).toInt64) fun x6 => gd (gK S3 a2 = 38) (gd (¬ ((0 : Int32) < 0 ∨ gZ S3 a2 ≤ ((0 : Int32)).toNatClampNeg)) (zL (sL S3 a2 ((0 : Int32)).toNatClampNeg x6) fun S9 => some (.inl (0 : Int32), S9))))
set_option maxHeartbeats 2000000 in
set_option maxRecDepth 100000 in
theorem t_L_on {l : Launch} (hls : l.stackTraces = false) {C : cT} (hC : CX C cL_on 4 yL_on rm_L_on) (hl : C.2.1 = l) {S0 : mS} (hE : CE C S0 (Option.some Jvm.ClassFile.FieldType.int) (tableOf hh_L_on)) {o : Rs Int32} {S : mS} {a0 : Nat} {a1 : Int32} {a2 : Nat} (h : f_L_on S a0 a1 a2 = some o) : XX C 4 (QQ C (fun r : Int32 => some (.int r)) S0 o) 0 0 S 0 [(0, .ref a0), (1, .int a1), (2, .ref a2)] [] := by
  unfold f_L_on at h
  refine x_aload_n (pc := 0) hC 2 dL_on_0 rfl rfl ?_
  refine x_iconst (pc := 1) (v := (0 : Int32)) hC dL_on_1 (by decide) ?_
  refine x_aload_n (pc := 2) hC 0 dL_on_2 rfl rfl ?_
  refine x_iload_n (pc := 3) hC 1 dL_on_3 rfl rfl ?_
  obtain ⟨g1, h⟩ := gd_some h
  obtain ⟨o4, ho4, h⟩ := bdc_some h
  refine x_callV (pc := 4) (As := [.int a1]) (rest := [.int (0 : Int32), .ref a2]) hC hl (c_X10_on l hls ho4) lk_RL_80 fc_16 g1 dL_on_4 rfl rfl (Nat.le_of_ble_eq_true rfl) ⟨Nat.le_of_ble_eq_true rfl, Nat.le_of_ble_eq_true rfl⟩ ⟨(Nat.le_of_ble_eq_true rfl), (Nat.le_of_ble_eq_true rfl)⟩ ?_
  rcases o4 with ⟨x2 | E5, S3⟩
  · refine xk_i ?_
    replace h := bdc_l h
    refine x_i2lv (pc := 7) hC dL_on_7 (fun x6 hx6 => ?_)
    replace h := lt_x hx6 h
    obtain ⟨g8, h⟩ := gd_some h
    obtain ⟨g7, h⟩ := gd_some h
    refine x_lastv (pc := 8) hC dL_on_8 g8 g7 (fun S9 hS9 => ?_)
    replace h := zL_x hS9 h
    have g10 : gK S9 a2 = 38 := by rw [hS9]; exact g8
    refine x_goto (pc := 9) hC 18 dL_on_9 (by decide) ?_
    refine x_iconst (pc := 18) (v := (0 : Int32)) hC dL_on_18 (by decide) ?_
    exact x_ireturn (pc := 19) hC hE dL_on_19 (so h) (Nat.le_of_ble_eq_true rfl) (Nat.le_of_ble_eq_true rfl)
  · replace h := bdc_r h
    by_cases c11 : E5 = "java/lang/IndexOutOfBoundsException"
    · rw [if_pos c11] at h
      subst c11
      exact xk_r (xt_catch_n hC hE [] ⟨0, 9, 12, 21⟩ [⟨0, 9, 15, 83⟩] rfl (fun _ hz => nomatch hz) (by decide) (by decide) wm_1001 wm_1036 rfl dL_on_12 rfl (by decide) dL_on_13 (by decide) dL_on_14 (so h) (Nat.le_of_ble_eq_true rfl) (Nat.le_of_ble_eq_true rfl))
    rw [if_neg c11] at h
    by_cases c12 : E5 = "java/util/NoSuchElementException"
    · rw [if_pos c12] at h
      subst c12
      exact xk_r (xt_catch_n hC hE [⟨0, 9, 12, 21⟩] ⟨0, 9, 15, 83⟩ [] rfl (List.forall_mem_cons.mpr ⟨Or.inr ⟨by decide, "java/lang/IndexOutOfBoundsException", wm_1001, by decide⟩, (fun _ hz => nomatch hz)⟩) (by decide) (by decide) wm_1209 wm_1216 rfl dL_on_15 rfl (by decide) dL_on_16 (by decide) dL_on_17 (so h) (Nat.le_of_ble_eq_true rfl) (Nat.le_of_ble_eq_true rfl))
    rw [if_neg c12] at h
    cases h
theorem c_L_on (l : Launch) (hls : l.stackTraces = false) {S : mS} {a0 : Nat} {a1 : Int32} {a2 : Nat} {o : Rs Int32} (h : f_L_on S a0 a1 a2 = some o) : CT (fun r : Int32 => some (.int r)) l yL_on (.codeWith yL_on cL_on 4 (Option.some Jvm.ClassFile.FieldType.int) [((0 : Nat), (9 : Nat), (12 : Nat), (21 : Nat)), ((0 : Nat), (9 : Nat), (15 : Nat), (83 : Nat))]) rm_L_on S [.ref a0, .int a1, .ref a2] o := ct_ofH (by decide +kernel) hls (Nat.le_of_ble_eq_true rfl) (fun C hl hC hE => t_L_on hls hC hl hE h)
abbrev rm_L_setFader : Room := { frames := 12, cells := 2, slots := 12, locals := 239 }
abbrev hh_L_setFader : List (Nat × Nat × Nat × Nat) := [((0 : Nat), (10 : Nat), (13 : Nat), (21 : Nat)), ((0 : Nat), (10 : Nat), (17 : Nat), (13 : Nat))]
def f_L_setFader (S : mS) (a0 : Nat) (a1 : Int32) (a2 : Int32) (a3 : Nat) : Option (Rs Int32) :=
  gd (gK S a0 = 16) (bdc (f_X10_setFader S a0 a1 a2) (fun E S => if E = "java/lang/IndexOutOfBoundsException" then some (.inl (1 : Int32), S) else if E = "java/lang/IllegalArgumentException" then some (.inl (2 : Int32), S) else none) fun x2 S3 => lt9 ((x2).toInt64) fun x6 => gd (gK S3 a3 = 38) (gd (¬ ((0 : Int32) < 0 ∨ gZ S3 a3 ≤ ((0 : Int32)).toNatClampNeg)) (zL (sL S3 a3 ((0 : Int32)).toNatClampNeg x6) fun S9 => some (.inl (0 : Int32), S9))))
set_option maxHeartbeats 2000000 in
set_option maxRecDepth 100000 in
theorem t_L_setFader {l : Launch} (hls : l.stackTraces = false) {C : cT} (hC : CX C cL_setFader 5 yL_setFader rm_L_setFader) (hl : C.2.1 = l) {S0 : mS} (hE : CE C S0 (Option.some Jvm.ClassFile.FieldType.int) (tableOf hh_L_setFader)) {o : Rs Int32} {S : mS} {a0 : Nat} {a1 : Int32} {a2 : Int32} {a3 : Nat} (h : f_L_setFader S a0 a1 a2 a3 = some o) : XX C 5 (QQ C (fun r : Int32 => some (.int r)) S0 o) 0 0 S 0 [(0, .ref a0), (1, .int a1), (2, .int a2), (3, .ref a3)] [] := by
  unfold f_L_setFader at h
  refine x_aload_n (pc := 0) hC 3 dL_setFader_0 rfl rfl ?_
  refine x_iconst (pc := 1) (v := (0 : Int32)) hC dL_setFader_1 (by decide) ?_
  refine x_aload_n (pc := 2) hC 0 dL_setFader_2 rfl rfl ?_
  refine x_iload_n (pc := 3) hC 1 dL_setFader_3 rfl rfl ?_
  refine x_iload_n (pc := 4) hC 2 dL_setFader_4 rfl rfl ?_
  obtain ⟨g1, h⟩ := gd_some h
  obtain ⟨o4, ho4, h⟩ := bdc_some h
  refine x_callV (pc := 5) (As := [.int a1, .int a2]) (rest := [.int (0 : Int32), .ref a3]) hC hl (c_X10_setFader l hls ho4) lk_RL_85 fc_16 g1 dL_setFader_5 rfl rfl (Nat.le_of_ble_eq_true rfl) ⟨Nat.le_of_ble_eq_true rfl, Nat.le_of_ble_eq_true rfl⟩ ⟨(Nat.le_of_ble_eq_true rfl), (Nat.le_of_ble_eq_true rfl)⟩ ?_
  rcases o4 with ⟨x2 | E5, S3⟩
  · refine xk_i ?_
    replace h := bdc_l h
    refine x_i2lv (pc := 8) hC dL_setFader_8 (fun x6 hx6 => ?_)
    replace h := lt_x hx6 h
    obtain ⟨g8, h⟩ := gd_some h
    obtain ⟨g7, h⟩ := gd_some h
    refine x_lastv (pc := 9) hC dL_setFader_9 g8 g7 (fun S9 hS9 => ?_)
    replace h := zL_x hS9 h
    have g10 : gK S9 a3 = 38 := by rw [hS9]; exact g8
    refine x_goto (pc := 10) hC 21 dL_setFader_10 (by decide) ?_
    refine x_iconst (pc := 21) (v := (0 : Int32)) hC dL_setFader_21 (by decide) ?_
    exact x_ireturn (pc := 22) hC hE dL_setFader_22 (so h) (Nat.le_of_ble_eq_true rfl) (Nat.le_of_ble_eq_true rfl)
  · replace h := bdc_r h
    by_cases c11 : E5 = "java/lang/IndexOutOfBoundsException"
    · rw [if_pos c11] at h
      subst c11
      exact xk_r (xt_catch hC hE [] ⟨0, 10, 13, 21⟩ [⟨0, 10, 17, 13⟩] rfl (fun _ hz => nomatch hz) (by decide) (by decide) wm_1001 wm_1036 rfl dL_setFader_13 (by decide) dL_setFader_15 (by decide) dL_setFader_16 (so h) (Nat.le_of_ble_eq_true rfl) (Nat.le_of_ble_eq_true rfl))
    rw [if_neg c11] at h
    by_cases c12 : E5 = "java/lang/IllegalArgumentException"
    · rw [if_pos c12] at h
      subst c12
      exact xk_r (xt_catch hC hE [⟨0, 10, 13, 21⟩] ⟨0, 10, 17, 13⟩ [] rfl (List.forall_mem_cons.mpr ⟨Or.inr ⟨by decide, "java/lang/IndexOutOfBoundsException", wm_1001, by decide⟩, (fun _ hz => nomatch hz)⟩) (by decide) (by decide) wm_885 wm_902 rfl dL_setFader_17 (by decide) dL_setFader_19 (by decide) dL_setFader_20 (so h) (Nat.le_of_ble_eq_true rfl) (Nat.le_of_ble_eq_true rfl))
    rw [if_neg c12] at h
    cases h
theorem c_L_setFader (l : Launch) (hls : l.stackTraces = false) {S : mS} {a0 : Nat} {a1 : Int32} {a2 : Int32} {a3 : Nat} {o : Rs Int32} (h : f_L_setFader S a0 a1 a2 a3 = some o) : CT (fun r : Int32 => some (.int r)) l yL_setFader (.codeWith yL_setFader cL_setFader 5 (Option.some Jvm.ClassFile.FieldType.int) [((0 : Nat), (10 : Nat), (13 : Nat), (21 : Nat)), ((0 : Nat), (10 : Nat), (17 : Nat), (13 : Nat))]) rm_L_setFader S [.ref a0, .int a1, .int a2, .ref a3] o := ct_ofH (by decide +kernel) hls (Nat.le_of_ble_eq_true rfl) (fun C hl hC hE => t_L_setFader hls hC hl hE h)
abbrev rm_L_setBand : Room := { frames := 12, cells := 2, slots := 12, locals := 240 }
abbrev hh_L_setBand : List (Nat × Nat × Nat × Nat) := [((0 : Nat), (12 : Nat), (15 : Nat), (21 : Nat)), ((0 : Nat), (12 : Nat), (19 : Nat), (13 : Nat))]
def f_L_setBand (S : mS) (a0 : Nat) (a1 : Int32) (a2 : Int32) (a3 : Int32) (a4 : Nat) : Option (Rs Int32) :=
  gd (gK S a0 = 16) (bdc (f_X10_setBand S a0 a1 a2 a3) (fun E S => if E = "java/lang/IndexOutOfBoundsException" then some (.inl (1 : Int32), S) else if E = "java/lang/IllegalArgumentException" then some (.inl (2 : Int32), S) else none) fun x2 S3 => lt9 ((x2).toInt64) fun x6 => gd (gK S3 a4 = 38) (gd (¬ ((0 : Int32) < 0 ∨ gZ S3 a4 ≤ ((0 : Int32)).toNatClampNeg)) (zL (sL S3 a4 ((0 : Int32)).toNatClampNeg x6) fun S9 => some (.inl (0 : Int32), S9))))
set_option maxHeartbeats 2000000 in
set_option maxRecDepth 100000 in
theorem t_L_setBand {l : Launch} (hls : l.stackTraces = false) {C : cT} (hC : CX C cL_setBand 6 yL_setBand rm_L_setBand) (hl : C.2.1 = l) {S0 : mS} (hE : CE C S0 (Option.some Jvm.ClassFile.FieldType.int) (tableOf hh_L_setBand)) {o : Rs Int32} {S : mS} {a0 : Nat} {a1 : Int32} {a2 : Int32} {a3 : Int32} {a4 : Nat} (h : f_L_setBand S a0 a1 a2 a3 a4 = some o) : XX C 6 (QQ C (fun r : Int32 => some (.int r)) S0 o) 0 0 S 0 [(0, .ref a0), (1, .int a1), (2, .int a2), (3, .int a3), (4, .ref a4)] [] := by
  unfold f_L_setBand at h
  refine x_aload (pc := 0) hC 4 dL_setBand_0 rfl ?_
  refine x_iconst (pc := 2) (v := (0 : Int32)) hC dL_setBand_2 (by decide) ?_
  refine x_aload_n (pc := 3) hC 0 dL_setBand_3 rfl rfl ?_
  refine x_iload_n (pc := 4) hC 1 dL_setBand_4 rfl rfl ?_
  refine x_iload_n (pc := 5) hC 2 dL_setBand_5 rfl rfl ?_
  refine x_iload_n (pc := 6) hC 3 dL_setBand_6 rfl rfl ?_
  obtain ⟨g1, h⟩ := gd_some h
  obtain ⟨o4, ho4, h⟩ := bdc_some h
  refine x_callV (pc := 7) (As := [.int a1, .int a2, .int a3]) (rest := [.int (0 : Int32), .ref a4]) hC hl (c_X10_setBand l hls ho4) lk_RL_88 fc_16 g1 dL_setBand_7 rfl rfl (Nat.le_of_ble_eq_true rfl) ⟨Nat.le_of_ble_eq_true rfl, Nat.le_of_ble_eq_true rfl⟩ ⟨(Nat.le_of_ble_eq_true rfl), (Nat.le_of_ble_eq_true rfl)⟩ ?_
  rcases o4 with ⟨x2 | E5, S3⟩
  · refine xk_i ?_
    replace h := bdc_l h
    refine x_i2lv (pc := 10) hC dL_setBand_10 (fun x6 hx6 => ?_)
    replace h := lt_x hx6 h
    obtain ⟨g8, h⟩ := gd_some h
    obtain ⟨g7, h⟩ := gd_some h
    refine x_lastv (pc := 11) hC dL_setBand_11 g8 g7 (fun S9 hS9 => ?_)
    replace h := zL_x hS9 h
    have g10 : gK S9 a4 = 38 := by rw [hS9]; exact g8
    refine x_goto (pc := 12) hC 23 dL_setBand_12 (by decide) ?_
    refine x_iconst (pc := 23) (v := (0 : Int32)) hC dL_setBand_23 (by decide) ?_
    exact x_ireturn (pc := 24) hC hE dL_setBand_24 (so h) (Nat.le_of_ble_eq_true rfl) (Nat.le_of_ble_eq_true rfl)
  · replace h := bdc_r h
    by_cases c11 : E5 = "java/lang/IndexOutOfBoundsException"
    · rw [if_pos c11] at h
      subst c11
      exact xk_r (xt_catch hC hE [] ⟨0, 12, 15, 21⟩ [⟨0, 12, 19, 13⟩] rfl (fun _ hz => nomatch hz) (by decide) (by decide) wm_1001 wm_1036 rfl dL_setBand_15 (by decide) dL_setBand_17 (by decide) dL_setBand_18 (so h) (Nat.le_of_ble_eq_true rfl) (Nat.le_of_ble_eq_true rfl))
    rw [if_neg c11] at h
    by_cases c12 : E5 = "java/lang/IllegalArgumentException"
    · rw [if_pos c12] at h
      subst c12
      exact xk_r (xt_catch hC hE [⟨0, 12, 15, 21⟩] ⟨0, 12, 19, 13⟩ [] rfl (List.forall_mem_cons.mpr ⟨Or.inr ⟨by decide, "java/lang/IndexOutOfBoundsException", wm_1001, by decide⟩, (fun _ hz => nomatch hz)⟩) (by decide) (by decide) wm_885 wm_902 rfl dL_setBand_19 (by decide) dL_setBand_21 (by decide) dL_setBand_22 (so h) (Nat.le_of_ble_eq_true rfl) (Nat.le_of_ble_eq_true rfl))
    rw [if_neg c12] at h
    cases h
theorem c_L_setBand (l : Launch) (hls : l.stackTraces = false) {S : mS} {a0 : Nat} {a1 : Int32} {a2 : Int32} {a3 : Int32} {a4 : Nat} {o : Rs Int32} (h : f_L_setBand S a0 a1 a2 a3 a4 = some o) : CT (fun r : Int32 => some (.int r)) l yL_setBand (.codeWith yL_setBand cL_setBand 6 (Option.some Jvm.ClassFile.FieldType.int) [((0 : Nat), (12 : Nat), (15 : Nat), (21 : Nat)), ((0 : Nat), (12 : Nat), (19 : Nat), (13 : Nat))]) rm_L_setBand S [.ref a0, .int a1, .int a2, .int a3, .ref a4] o := ct_ofH (by decide +kernel) hls (Nat.le_of_ble_eq_true rfl) (fun C hl hC hE => t_L_setBand hls hC hl hE h)
abbrev rm_L_setSide : Room := { frames := 12, cells := 2, slots := 12, locals := 239 }
abbrev hh_L_setSide : List (Nat × Nat × Nat × Nat) := [((0 : Nat), (10 : Nat), (13 : Nat), (21 : Nat)), ((0 : Nat), (10 : Nat), (17 : Nat), (13 : Nat))]
def f_L_setSide (S : mS) (a0 : Nat) (a1 : Int32) (a2 : Int32) (a3 : Nat) : Option (Rs Int32) :=
  gd (gK S a0 = 16) (bdc (f_X10_setSide S a0 a1 a2) (fun E S => if E = "java/lang/IndexOutOfBoundsException" then some (.inl (1 : Int32), S) else if E = "java/lang/IllegalArgumentException" then some (.inl (2 : Int32), S) else none) fun x2 S3 => lt9 ((x2).toInt64) fun x6 => gd (gK S3 a3 = 38) (gd (¬ ((0 : Int32) < 0 ∨ gZ S3 a3 ≤ ((0 : Int32)).toNatClampNeg)) (zL (sL S3 a3 ((0 : Int32)).toNatClampNeg x6) fun S9 => some (.inl (0 : Int32), S9))))
set_option maxHeartbeats 2000000 in
set_option maxRecDepth 100000 in
theorem t_L_setSide {l : Launch} (hls : l.stackTraces = false) {C : cT} (hC : CX C cL_setSide 5 yL_setSide rm_L_setSide) (hl : C.2.1 = l) {S0 : mS} (hE : CE C S0 (Option.some Jvm.ClassFile.FieldType.int) (tableOf hh_L_setSide)) {o : Rs Int32} {S : mS} {a0 : Nat} {a1 : Int32} {a2 : Int32} {a3 : Nat} (h : f_L_setSide S a0 a1 a2 a3 = some o) : XX C 5 (QQ C (fun r : Int32 => some (.int r)) S0 o) 0 0 S 0 [(0, .ref a0), (1, .int a1), (2, .int a2), (3, .ref a3)] [] := by
  unfold f_L_setSide at h
  refine x_aload_n (pc := 0) hC 3 dL_setSide_0 rfl rfl ?_
  refine x_iconst (pc := 1) (v := (0 : Int32)) hC dL_setSide_1 (by decide) ?_
  refine x_aload_n (pc := 2) hC 0 dL_setSide_2 rfl rfl ?_
  refine x_iload_n (pc := 3) hC 1 dL_setSide_3 rfl rfl ?_
  refine x_iload_n (pc := 4) hC 2 dL_setSide_4 rfl rfl ?_
  obtain ⟨g1, h⟩ := gd_some h
  obtain ⟨o4, ho4, h⟩ := bdc_some h
  refine x_callV (pc := 5) (As := [.int a1, .int a2]) (rest := [.int (0 : Int32), .ref a3]) hC hl (c_X10_setSide l hls ho4) lk_RL_92 fc_16 g1 dL_setSide_5 rfl rfl (Nat.le_of_ble_eq_true rfl) ⟨Nat.le_of_ble_eq_true rfl, Nat.le_of_ble_eq_true rfl⟩ ⟨(Nat.le_of_ble_eq_true rfl), (Nat.le_of_ble_eq_true rfl)⟩ ?_
  rcases o4 with ⟨x2 | E5, S3⟩
  · refine xk_i ?_
    replace h := bdc_l h
    refine x_i2lv (pc := 8) hC dL_setSide_8 (fun x6 hx6 => ?_)
    replace h := lt_x hx6 h
    obtain ⟨g8, h⟩ := gd_some h
    obtain ⟨g7, h⟩ := gd_some h
    refine x_lastv (pc := 9) hC dL_setSide_9 g8 g7 (fun S9 hS9 => ?_)
    replace h := zL_x hS9 h
    have g10 : gK S9 a3 = 38 := by rw [hS9]; exact g8
    refine x_goto (pc := 10) hC 21 dL_setSide_10 (by decide) ?_
    refine x_iconst (pc := 21) (v := (0 : Int32)) hC dL_setSide_21 (by decide) ?_
    exact x_ireturn (pc := 22) hC hE dL_setSide_22 (so h) (Nat.le_of_ble_eq_true rfl) (Nat.le_of_ble_eq_true rfl)
  · replace h := bdc_r h
    by_cases c11 : E5 = "java/lang/IndexOutOfBoundsException"
    · rw [if_pos c11] at h
      subst c11
      exact xk_r (xt_catch hC hE [] ⟨0, 10, 13, 21⟩ [⟨0, 10, 17, 13⟩] rfl (fun _ hz => nomatch hz) (by decide) (by decide) wm_1001 wm_1036 rfl dL_setSide_13 (by decide) dL_setSide_15 (by decide) dL_setSide_16 (so h) (Nat.le_of_ble_eq_true rfl) (Nat.le_of_ble_eq_true rfl))
    rw [if_neg c11] at h
    by_cases c12 : E5 = "java/lang/IllegalArgumentException"
    · rw [if_pos c12] at h
      subst c12
      exact xk_r (xt_catch hC hE [⟨0, 10, 13, 21⟩] ⟨0, 10, 17, 13⟩ [] rfl (List.forall_mem_cons.mpr ⟨Or.inr ⟨by decide, "java/lang/IndexOutOfBoundsException", wm_1001, by decide⟩, (fun _ hz => nomatch hz)⟩) (by decide) (by decide) wm_885 wm_902 rfl dL_setSide_17 (by decide) dL_setSide_19 (by decide) dL_setSide_20 (so h) (Nat.le_of_ble_eq_true rfl) (Nat.le_of_ble_eq_true rfl))
    rw [if_neg c12] at h
    cases h
theorem c_L_setSide (l : Launch) (hls : l.stackTraces = false) {S : mS} {a0 : Nat} {a1 : Int32} {a2 : Int32} {a3 : Nat} {o : Rs Int32} (h : f_L_setSide S a0 a1 a2 a3 = some o) : CT (fun r : Int32 => some (.int r)) l yL_setSide (.codeWith yL_setSide cL_setSide 5 (Option.some Jvm.ClassFile.FieldType.int) [((0 : Nat), (10 : Nat), (13 : Nat), (21 : Nat)), ((0 : Nat), (10 : Nat), (17 : Nat), (13 : Nat))]) rm_L_setSide S [.ref a0, .int a1, .int a2, .ref a3] o := ct_ofH (by decide +kernel) hls (Nat.le_of_ble_eq_true rfl) (fun C hl hC hE => t_L_setSide hls hC hl hE h)
abbrev rm_L_setCross : Room := { frames := 12, cells := 1, slots := 6, locals := 237 }
abbrev hh_L_setCross : List (Nat × Nat × Nat × Nat) := [((0 : Nat), (9 : Nat), (12 : Nat), (13 : Nat))]
def f_L_setCross (S : mS) (a0 : Nat) (a1 : Int32) (a2 : Nat) : Option (Rs Int32) :=
  gd (gK S a0 = 16) (bdc (f_X10_setCross S a0 a1) (fun E S => if E = "java/lang/IllegalArgumentException" then some (.inl (1 : Int32), S) else none) fun x2 S3 => lt9 ((x2).toInt64) fun x6 => gd (gK S3 a2 = 38) (gd (¬ ((0 : Int32) < 0 ∨ gZ S3 a2 ≤ ((0 : Int32)).toNatClampNeg)) (zL (sL S3 a2 ((0 : Int32)).toNatClampNeg x6) fun S9 => some (.inl (0 : Int32), S9))))
set_option maxHeartbeats 2000000 in
set_option maxRecDepth 100000 in
theorem t_L_setCross {l : Launch} (hls : l.stackTraces = false) {C : cT} (hC : CX C cL_setCross 4 yL_setCross rm_L_setCross) (hl : C.2.1 = l) {S0 : mS} (hE : CE C S0 (Option.some Jvm.ClassFile.FieldType.int) (tableOf hh_L_setCross)) {o : Rs Int32} {S : mS} {a0 : Nat} {a1 : Int32} {a2 : Nat} (h : f_L_setCross S a0 a1 a2 = some o) : XX C 4 (QQ C (fun r : Int32 => some (.int r)) S0 o) 0 0 S 0 [(0, .ref a0), (1, .int a1), (2, .ref a2)] [] := by
  unfold f_L_setCross at h
  refine x_aload_n (pc := 0) hC 2 dL_setCross_0 rfl rfl ?_
  refine x_iconst (pc := 1) (v := (0 : Int32)) hC dL_setCross_1 (by decide) ?_
  refine x_aload_n (pc := 2) hC 0 dL_setCross_2 rfl rfl ?_
  refine x_iload_n (pc := 3) hC 1 dL_setCross_3 rfl rfl ?_
  obtain ⟨g1, h⟩ := gd_some h
  obtain ⟨o4, ho4, h⟩ := bdc_some h
  refine x_callV (pc := 4) (As := [.int a1]) (rest := [.int (0 : Int32), .ref a2]) hC hl (c_X10_setCross l hls ho4) lk_RL_96 fc_16 g1 dL_setCross_4 rfl rfl (Nat.le_of_ble_eq_true rfl) ⟨Nat.le_of_ble_eq_true rfl, Nat.le_of_ble_eq_true rfl⟩ ⟨(Nat.le_of_ble_eq_true rfl), (Nat.le_of_ble_eq_true rfl)⟩ ?_
  rcases o4 with ⟨x2 | E5, S3⟩
  · refine xk_i ?_
    replace h := bdc_l h
    refine x_i2lv (pc := 7) hC dL_setCross_7 (fun x6 hx6 => ?_)
    replace h := lt_x hx6 h
    obtain ⟨g8, h⟩ := gd_some h
    obtain ⟨g7, h⟩ := gd_some h
    refine x_lastv (pc := 8) hC dL_setCross_8 g8 g7 (fun S9 hS9 => ?_)
    replace h := zL_x hS9 h
    have g10 : gK S9 a2 = 38 := by rw [hS9]; exact g8
    refine x_goto (pc := 9) hC 15 dL_setCross_9 (by decide) ?_
    refine x_iconst (pc := 15) (v := (0 : Int32)) hC dL_setCross_15 (by decide) ?_
    exact x_ireturn (pc := 16) hC hE dL_setCross_16 (so h) (Nat.le_of_ble_eq_true rfl) (Nat.le_of_ble_eq_true rfl)
  · replace h := bdc_r h
    by_cases c11 : E5 = "java/lang/IllegalArgumentException"
    · rw [if_pos c11] at h
      subst c11
      exact xk_r (xt_catch_n hC hE [] ⟨0, 9, 12, 13⟩ [] rfl (fun _ hz => nomatch hz) (by decide) (by decide) wm_885 wm_902 rfl dL_setCross_12 rfl (by decide) dL_setCross_13 (by decide) dL_setCross_14 (so h) (Nat.le_of_ble_eq_true rfl) (Nat.le_of_ble_eq_true rfl))
    rw [if_neg c11] at h
    cases h
theorem c_L_setCross (l : Launch) (hls : l.stackTraces = false) {S : mS} {a0 : Nat} {a1 : Int32} {a2 : Nat} {o : Rs Int32} (h : f_L_setCross S a0 a1 a2 = some o) : CT (fun r : Int32 => some (.int r)) l yL_setCross (.codeWith yL_setCross cL_setCross 4 (Option.some Jvm.ClassFile.FieldType.int) [((0 : Nat), (9 : Nat), (12 : Nat), (13 : Nat))]) rm_L_setCross S [.ref a0, .int a1, .ref a2] o := ct_ofH (by decide +kernel) hls (Nat.le_of_ble_eq_true rfl) (fun C hl hC hE => t_L_setCross hls hC hl hE h)
abbrev rm_L_level : Room := { frames := 11, cells := 1, slots := 6, locals := 214 }
abbrev hh_L_level : List (Nat × Nat × Nat × Nat) := [((0 : Nat), (9 : Nat), (12 : Nat), (21 : Nat))]
def f_L_level (S : mS) (a0 : Nat) (a1 : Int32) (a2 : Nat) : Option (Rs Int32) :=
  gd (gK S a0 = 16) (bdc (f_X10_level S a0 a1) (fun E S => if E = "java/lang/IndexOutOfBoundsException" then some (.inl (1 : Int32), S) else none) fun x2 S3 => lt9 ((x2).toInt64) fun x6 => gd (gK S3 a2 = 38) (gd (¬ ((0 : Int32) < 0 ∨ gZ S3 a2 ≤ ((0 : Int32)).toNatClampNeg)) (zL (sL S3 a2 ((0 : Int32)).toNatClampNeg x6) fun S9 => some (.inl (0 : Int32), S9))))
set_option maxHeartbeats 2000000 in
set_option maxRecDepth 100000 in
theorem t_L_level {l : Launch} (hls : l.stackTraces = false) {C : cT} (hC : CX C cL_level 4 yL_level rm_L_level) (hl : C.2.1 = l) {S0 : mS} (hE : CE C S0 (Option.some Jvm.ClassFile.FieldType.int) (tableOf hh_L_level)) {o : Rs Int32} {S : mS} {a0 : Nat} {a1 : Int32} {a2 : Nat} (h : f_L_level S a0 a1 a2 = some o) : XX C 4 (QQ C (fun r : Int32 => some (.int r)) S0 o) 0 0 S 0 [(0, .ref a0), (1, .int a1), (2, .ref a2)] [] := by
  unfold f_L_level at h
  refine x_aload_n (pc := 0) hC 2 dL_level_0 rfl rfl ?_
  refine x_iconst (pc := 1) (v := (0 : Int32)) hC dL_level_1 (by decide) ?_
  refine x_aload_n (pc := 2) hC 0 dL_level_2 rfl rfl ?_
  refine x_iload_n (pc := 3) hC 1 dL_level_3 rfl rfl ?_
  obtain ⟨g1, h⟩ := gd_some h
  obtain ⟨o4, ho4, h⟩ := bdc_some h
  refine x_callV (pc := 4) (As := [.int a1]) (rest := [.int (0 : Int32), .ref a2]) hC hl (c_X10_level l hls ho4) lk_RL_99 fc_16 g1 dL_level_4 rfl rfl (Nat.le_of_ble_eq_true rfl) ⟨Nat.le_of_ble_eq_true rfl, Nat.le_of_ble_eq_true rfl⟩ ⟨(Nat.le_of_ble_eq_true rfl), (Nat.le_of_ble_eq_true rfl)⟩ ?_
  rcases o4 with ⟨x2 | E5, S3⟩
  · refine xk_i ?_
    replace h := bdc_l h
    refine x_i2lv (pc := 7) hC dL_level_7 (fun x6 hx6 => ?_)
    replace h := lt_x hx6 h
    obtain ⟨g8, h⟩ := gd_some h
    obtain ⟨g7, h⟩ := gd_some h
    refine x_lastv (pc := 8) hC dL_level_8 g8 g7 (fun S9 hS9 => ?_)
    replace h := zL_x hS9 h
    have g10 : gK S9 a2 = 38 := by rw [hS9]; exact g8
    refine x_goto (pc := 9) hC 15 dL_level_9 (by decide) ?_
    refine x_iconst (pc := 15) (v := (0 : Int32)) hC dL_level_15 (by decide) ?_
    exact x_ireturn (pc := 16) hC hE dL_level_16 (so h) (Nat.le_of_ble_eq_true rfl) (Nat.le_of_ble_eq_true rfl)
  · replace h := bdc_r h
    by_cases c11 : E5 = "java/lang/IndexOutOfBoundsException"
    · rw [if_pos c11] at h
      subst c11
      exact xk_r (xt_catch_n hC hE [] ⟨0, 9, 12, 21⟩ [] rfl (fun _ hz => nomatch hz) (by decide) (by decide) wm_1001 wm_1036 rfl dL_level_12 rfl (by decide) dL_level_13 (by decide) dL_level_14 (so h) (Nat.le_of_ble_eq_true rfl) (Nat.le_of_ble_eq_true rfl))
    rw [if_neg c11] at h
    cases h
theorem c_L_level (l : Launch) (hls : l.stackTraces = false) {S : mS} {a0 : Nat} {a1 : Int32} {a2 : Nat} {o : Rs Int32} (h : f_L_level S a0 a1 a2 = some o) : CT (fun r : Int32 => some (.int r)) l yL_level (.codeWith yL_level cL_level 4 (Option.some Jvm.ClassFile.FieldType.int) [((0 : Nat), (9 : Nat), (12 : Nat), (21 : Nat))]) rm_L_level S [.ref a0, .int a1, .ref a2] o := ct_ofH (by decide +kernel) hls (Nat.le_of_ble_eq_true rfl) (fun C hl hC hE => t_L_level hls hC hl hE h)
abbrev rm_L_addEffect : Room := { frames := 12, cells := 4, slots := 24, locals := 240 }
abbrev hh_L_addEffect : List (Nat × Nat × Nat × Nat) := [((0 : Nat), (12 : Nat), (15 : Nat), (21 : Nat)), ((0 : Nat), (12 : Nat), (19 : Nat), (13 : Nat)), ((0 : Nat), (12 : Nat), (23 : Nat), (15 : Nat))]
def f_L_addEffect (S : mS) (a0 : Nat) (a1 : Int32) (a2 : Int32) (a3 : Int32) (a4 : Nat) : Option (Rs Int32) :=
  gd (gK S a0 = 16) (bdc (f_X10_addEffect S a0 a1 a2 a3) (fun E S => if E = "java/lang/IndexOutOfBoundsException" then some (.inl (1 : Int32), S) else if E = "java/lang/IllegalArgumentException" then some (.inl (2 : Int32), S) else if E = "java/lang/IllegalStateException" then some (.inl (3 : Int32), S) else none) fun x2 S3 => lt9 ((x2).toInt64) fun x6 => gd (gK S3 a4 = 38) (gd (¬ ((0 : Int32) < 0 ∨ gZ S3 a4 ≤ ((0 : Int32)).toNatClampNeg)) (zL (sL S3 a4 ((0 : Int32)).toNatClampNeg x6) fun S9 => some (.inl (0 : Int32), S9))))
set_option maxHeartbeats 2000000 in
set_option maxRecDepth 100000 in
theorem t_L_addEffect {l : Launch} (hls : l.stackTraces = false) {C : cT} (hC : CX C cL_addEffect 6 yL_addEffect rm_L_addEffect) (hl : C.2.1 = l) {S0 : mS} (hE : CE C S0 (Option.some Jvm.ClassFile.FieldType.int) (tableOf hh_L_addEffect)) {o : Rs Int32} {S : mS} {a0 : Nat} {a1 : Int32} {a2 : Int32} {a3 : Int32} {a4 : Nat} (h : f_L_addEffect S a0 a1 a2 a3 a4 = some o) : XX C 6 (QQ C (fun r : Int32 => some (.int r)) S0 o) 0 0 S 0 [(0, .ref a0), (1, .int a1), (2, .int a2), (3, .int a3), (4, .ref a4)] [] := by
  unfold f_L_addEffect at h
  refine x_aload (pc := 0) hC 4 dL_addEffect_0 rfl ?_
  refine x_iconst (pc := 2) (v := (0 : Int32)) hC dL_addEffect_2 (by decide) ?_
  refine x_aload_n (pc := 3) hC 0 dL_addEffect_3 rfl rfl ?_
  refine x_iload_n (pc := 4) hC 1 dL_addEffect_4 rfl rfl ?_
  refine x_iload_n (pc := 5) hC 2 dL_addEffect_5 rfl rfl ?_
  refine x_iload_n (pc := 6) hC 3 dL_addEffect_6 rfl rfl ?_
  obtain ⟨g1, h⟩ := gd_some h
  obtain ⟨o4, ho4, h⟩ := bdc_some h
  refine x_callV (pc := 7) (As := [.int a1, .int a2, .int a3]) (rest := [.int (0 : Int32), .ref a4]) hC hl (c_X10_addEffect l hls ho4) lk_RL_102 fc_16 g1 dL_addEffect_7 rfl rfl (Nat.le_of_ble_eq_true rfl) ⟨Nat.le_of_ble_eq_true rfl, Nat.le_of_ble_eq_true rfl⟩ ⟨(Nat.le_of_ble_eq_true rfl), (Nat.le_of_ble_eq_true rfl)⟩ ?_
  rcases o4 with ⟨x2 | E5, S3⟩
  · refine xk_i ?_
    replace h := bdc_l h
    refine x_i2lv (pc := 10) hC dL_addEffect_10 (fun x6 hx6 => ?_)
    replace h := lt_x hx6 h
    obtain ⟨g8, h⟩ := gd_some h
    obtain ⟨g7, h⟩ := gd_some h
    refine x_lastv (pc := 11) hC dL_addEffect_11 g8 g7 (fun S9 hS9 => ?_)
    replace h := zL_x hS9 h
    have g10 : gK S9 a4 = 38 := by rw [hS9]; exact g8
    refine x_goto (pc := 12) hC 27 dL_addEffect_12 (by decide) ?_
    refine x_iconst (pc := 27) (v := (0 : Int32)) hC dL_addEffect_27 (by decide) ?_
    exact x_ireturn (pc := 28) hC hE dL_addEffect_28 (so h) (Nat.le_of_ble_eq_true rfl) (Nat.le_of_ble_eq_true rfl)
  · replace h := bdc_r h
    by_cases c11 : E5 = "java/lang/IndexOutOfBoundsException"
    · rw [if_pos c11] at h
      subst c11
      exact xk_r (xt_catch hC hE [] ⟨0, 12, 15, 21⟩ [⟨0, 12, 19, 13⟩, ⟨0, 12, 23, 15⟩] rfl (fun _ hz => nomatch hz) (by decide) (by decide) wm_1001 wm_1036 rfl dL_addEffect_15 (by decide) dL_addEffect_17 (by decide) dL_addEffect_18 (so h) (Nat.le_of_ble_eq_true rfl) (Nat.le_of_ble_eq_true rfl))
    rw [if_neg c11] at h
    by_cases c12 : E5 = "java/lang/IllegalArgumentException"
    · rw [if_pos c12] at h
      subst c12
      exact xk_r (xt_catch hC hE [⟨0, 12, 15, 21⟩] ⟨0, 12, 19, 13⟩ [⟨0, 12, 23, 15⟩] rfl (List.forall_mem_cons.mpr ⟨Or.inr ⟨by decide, "java/lang/IndexOutOfBoundsException", wm_1001, by decide⟩, (fun _ hz => nomatch hz)⟩) (by decide) (by decide) wm_885 wm_902 rfl dL_addEffect_19 (by decide) dL_addEffect_21 (by decide) dL_addEffect_22 (so h) (Nat.le_of_ble_eq_true rfl) (Nat.le_of_ble_eq_true rfl))
    rw [if_neg c12] at h
    by_cases c13 : E5 = "java/lang/IllegalStateException"
    · rw [if_pos c13] at h
      subst c13
      exact xk_r (xt_catch hC hE [⟨0, 12, 15, 21⟩, ⟨0, 12, 19, 13⟩] ⟨0, 12, 23, 15⟩ [] rfl (List.forall_mem_cons.mpr ⟨Or.inr ⟨by decide, "java/lang/IndexOutOfBoundsException", wm_1001, by decide⟩, (List.forall_mem_cons.mpr ⟨Or.inr ⟨by decide, "java/lang/IllegalArgumentException", wm_885, by decide⟩, (fun _ hz => nomatch hz)⟩)⟩) (by decide) (by decide) wm_886 wm_975 rfl dL_addEffect_23 (by decide) dL_addEffect_25 (by decide) dL_addEffect_26 (so h) (Nat.le_of_ble_eq_true rfl) (Nat.le_of_ble_eq_true rfl))
    rw [if_neg c13] at h
    cases h
theorem c_L_addEffect (l : Launch) (hls : l.stackTraces = false) {S : mS} {a0 : Nat} {a1 : Int32} {a2 : Int32} {a3 : Int32} {a4 : Nat} {o : Rs Int32} (h : f_L_addEffect S a0 a1 a2 a3 a4 = some o) : CT (fun r : Int32 => some (.int r)) l yL_addEffect (.codeWith yL_addEffect cL_addEffect 6 (Option.some Jvm.ClassFile.FieldType.int) [((0 : Nat), (12 : Nat), (15 : Nat), (21 : Nat)), ((0 : Nat), (12 : Nat), (19 : Nat), (13 : Nat)), ((0 : Nat), (12 : Nat), (23 : Nat), (15 : Nat))]) rm_L_addEffect S [.ref a0, .int a1, .int a2, .int a3, .ref a4] o := ct_ofH (by decide +kernel) hls (Nat.le_of_ble_eq_true rfl) (fun C hl hC hE => t_L_addEffect hls hC hl hE h)
abbrev rm_L_dropEffects : Room := { frames := 12, cells := 1, slots := 6, locals := 238 }
abbrev hh_L_dropEffects : List (Nat × Nat × Nat × Nat) := [((0 : Nat), (9 : Nat), (12 : Nat), (21 : Nat))]
def f_L_dropEffects (S : mS) (a0 : Nat) (a1 : Int32) (a2 : Nat) : Option (Rs Int32) :=
  gd (gK S a0 = 16) (bdc (f_X10_dropEffects S a0 a1) (fun E S => if E = "java/lang/IndexOutOfBoundsException" then some (.inl (1 : Int32), S) else none) fun x2 S3 => lt9 ((x2).toInt64) fun x6 => gd (gK S3 a2 = 38) (gd (¬ ((0 : Int32) < 0 ∨ gZ S3 a2 ≤ ((0 : Int32)).toNatClampNeg)) (zL (sL S3 a2 ((0 : Int32)).toNatClampNeg x6) fun S9 => some (.inl (0 : Int32), S9))))
set_option maxHeartbeats 2000000 in
set_option maxRecDepth 100000 in
theorem t_L_dropEffects {l : Launch} (hls : l.stackTraces = false) {C : cT} (hC : CX C cL_dropEffects 4 yL_dropEffects rm_L_dropEffects) (hl : C.2.1 = l) {S0 : mS} (hE : CE C S0 (Option.some Jvm.ClassFile.FieldType.int) (tableOf hh_L_dropEffects)) {o : Rs Int32} {S : mS} {a0 : Nat} {a1 : Int32} {a2 : Nat} (h : f_L_dropEffects S a0 a1 a2 = some o) : XX C 4 (QQ C (fun r : Int32 => some (.int r)) S0 o) 0 0 S 0 [(0, .ref a0), (1, .int a1), (2, .ref a2)] [] := by
  unfold f_L_dropEffects at h
  refine x_aload_n (pc := 0) hC 2 dL_dropEffects_0 rfl rfl ?_
  refine x_iconst (pc := 1) (v := (0 : Int32)) hC dL_dropEffects_1 (by decide) ?_
  refine x_aload_n (pc := 2) hC 0 dL_dropEffects_2 rfl rfl ?_
  refine x_iload_n (pc := 3) hC 1 dL_dropEffects_3 rfl rfl ?_
  obtain ⟨g1, h⟩ := gd_some h
  obtain ⟨o4, ho4, h⟩ := bdc_some h
  refine x_callV (pc := 4) (As := [.int a1]) (rest := [.int (0 : Int32), .ref a2]) hC hl (c_X10_dropEffects l hls ho4) lk_RL_106 fc_16 g1 dL_dropEffects_4 rfl rfl (Nat.le_of_ble_eq_true rfl) ⟨Nat.le_of_ble_eq_true rfl, Nat.le_of_ble_eq_true rfl⟩ ⟨(Nat.le_of_ble_eq_true rfl), (Nat.le_of_ble_eq_true rfl)⟩ ?_
  rcases o4 with ⟨x2 | E5, S3⟩
  · refine xk_i ?_
    replace h := bdc_l h
    refine x_i2lv (pc := 7) hC dL_dropEffects_7 (fun x6 hx6 => ?_)
    replace h := lt_x hx6 h
    obtain ⟨g8, h⟩ := gd_some h
    obtain ⟨g7, h⟩ := gd_some h
    refine x_lastv (pc := 8) hC dL_dropEffects_8 g8 g7 (fun S9 hS9 => ?_)
    replace h := zL_x hS9 h
    have g10 : gK S9 a2 = 38 := by rw [hS9]; exact g8
    refine x_goto (pc := 9) hC 15 dL_dropEffects_9 (by decide) ?_
    refine x_iconst (pc := 15) (v := (0 : Int32)) hC dL_dropEffects_15 (by decide) ?_
    exact x_ireturn (pc := 16) hC hE dL_dropEffects_16 (so h) (Nat.le_of_ble_eq_true rfl) (Nat.le_of_ble_eq_true rfl)
  · replace h := bdc_r h
    by_cases c11 : E5 = "java/lang/IndexOutOfBoundsException"
    · rw [if_pos c11] at h
      subst c11
      exact xk_r (xt_catch_n hC hE [] ⟨0, 9, 12, 21⟩ [] rfl (fun _ hz => nomatch hz) (by decide) (by decide) wm_1001 wm_1036 rfl dL_dropEffects_12 rfl (by decide) dL_dropEffects_13 (by decide) dL_dropEffects_14 (so h) (Nat.le_of_ble_eq_true rfl) (Nat.le_of_ble_eq_true rfl))
    rw [if_neg c11] at h
    cases h
theorem c_L_dropEffects (l : Launch) (hls : l.stackTraces = false) {S : mS} {a0 : Nat} {a1 : Int32} {a2 : Nat} {o : Rs Int32} (h : f_L_dropEffects S a0 a1 a2 = some o) : CT (fun r : Int32 => some (.int r)) l yL_dropEffects (.codeWith yL_dropEffects cL_dropEffects 4 (Option.some Jvm.ClassFile.FieldType.int) [((0 : Nat), (9 : Nat), (12 : Nat), (21 : Nat))]) rm_L_dropEffects S [.ref a0, .int a1, .ref a2] o := ct_ofH (by decide +kernel) hls (Nat.le_of_ble_eq_true rfl) (fun C hl hC hE => t_L_dropEffects hls hC hl hE h)
abbrev rm_L_tail : Room := { frames := 11, cells := 2, slots := 12, locals := 216 }
abbrev hh_L_tail : List (Nat × Nat × Nat × Nat) := [((0 : Nat), (10 : Nat), (13 : Nat), (21 : Nat)), ((0 : Nat), (10 : Nat), (17 : Nat), (83 : Nat))]
def f_L_tail (S : mS) (a0 : Nat) (a1 : Int32) (a2 : Int32) (a3 : Nat) : Option (Rs Int32) :=
  gd (gK S a0 = 16) (bdc (f_X10_tail S a0 a1 a2) (fun E S => if E = "java/lang/IndexOutOfBoundsException" then some (.inl (1 : Int32), S) else if E = "java/util/NoSuchElementException" then some (.inl (2 : Int32), S) else none) fun x2 S3 => lt9 ((x2).toInt64) fun x6 => gd (gK S3 a3 = 38) (gd (¬ ((0 : Int32) < 0 ∨ gZ S3 a3 ≤ ((0 : Int32)).toNatClampNeg)) (zL (sL S3 a3 ((0 : Int32)).toNatClampNeg x6) fun S9 => some (.inl (0 : Int32), S9))))
set_option maxHeartbeats 2000000 in
set_option maxRecDepth 100000 in
theorem t_L_tail {l : Launch} (hls : l.stackTraces = false) {C : cT} (hC : CX C cL_tail 5 yL_tail rm_L_tail) (hl : C.2.1 = l) {S0 : mS} (hE : CE C S0 (Option.some Jvm.ClassFile.FieldType.int) (tableOf hh_L_tail)) {o : Rs Int32} {S : mS} {a0 : Nat} {a1 : Int32} {a2 : Int32} {a3 : Nat} (h : f_L_tail S a0 a1 a2 a3 = some o) : XX C 5 (QQ C (fun r : Int32 => some (.int r)) S0 o) 0 0 S 0 [(0, .ref a0), (1, .int a1), (2, .int a2), (3, .ref a3)] [] := by
  unfold f_L_tail at h
  refine x_aload_n (pc := 0) hC 3 dL_tail_0 rfl rfl ?_
  refine x_iconst (pc := 1) (v := (0 : Int32)) hC dL_tail_1 (by decide) ?_
  refine x_aload_n (pc := 2) hC 0 dL_tail_2 rfl rfl ?_
  refine x_iload_n (pc := 3) hC 1 dL_tail_3 rfl rfl ?_
  refine x_iload_n (pc := 4) hC 2 dL_tail_4 rfl rfl ?_
  obtain ⟨g1, h⟩ := gd_some h
  obtain ⟨o4, ho4, h⟩ := bdc_some h
  refine x_callV (pc := 5) (As := [.int a1, .int a2]) (rest := [.int (0 : Int32), .ref a3]) hC hl (c_X10_tail l hls ho4) lk_RL_109 fc_16 g1 dL_tail_5 rfl rfl (Nat.le_of_ble_eq_true rfl) ⟨Nat.le_of_ble_eq_true rfl, Nat.le_of_ble_eq_true rfl⟩ ⟨(Nat.le_of_ble_eq_true rfl), (Nat.le_of_ble_eq_true rfl)⟩ ?_
  rcases o4 with ⟨x2 | E5, S3⟩
  · refine xk_i ?_
    replace h := bdc_l h
    refine x_i2lv (pc := 8) hC dL_tail_8 (fun x6 hx6 => ?_)
    replace h := lt_x hx6 h
    obtain ⟨g8, h⟩ := gd_some h
    obtain ⟨g7, h⟩ := gd_some h
    refine x_lastv (pc := 9) hC dL_tail_9 g8 g7 (fun S9 hS9 => ?_)
    replace h := zL_x hS9 h
    have g10 : gK S9 a3 = 38 := by rw [hS9]; exact g8
    refine x_goto (pc := 10) hC 21 dL_tail_10 (by decide) ?_
    refine x_iconst (pc := 21) (v := (0 : Int32)) hC dL_tail_21 (by decide) ?_
    exact x_ireturn (pc := 22) hC hE dL_tail_22 (so h) (Nat.le_of_ble_eq_true rfl) (Nat.le_of_ble_eq_true rfl)
  · replace h := bdc_r h
    by_cases c11 : E5 = "java/lang/IndexOutOfBoundsException"
    · rw [if_pos c11] at h
      subst c11
      exact xk_r (xt_catch hC hE [] ⟨0, 10, 13, 21⟩ [⟨0, 10, 17, 83⟩] rfl (fun _ hz => nomatch hz) (by decide) (by decide) wm_1001 wm_1036 rfl dL_tail_13 (by decide) dL_tail_15 (by decide) dL_tail_16 (so h) (Nat.le_of_ble_eq_true rfl) (Nat.le_of_ble_eq_true rfl))
    rw [if_neg c11] at h
    by_cases c12 : E5 = "java/util/NoSuchElementException"
    · rw [if_pos c12] at h
      subst c12
      exact xk_r (xt_catch hC hE [⟨0, 10, 13, 21⟩] ⟨0, 10, 17, 83⟩ [] rfl (List.forall_mem_cons.mpr ⟨Or.inr ⟨by decide, "java/lang/IndexOutOfBoundsException", wm_1001, by decide⟩, (fun _ hz => nomatch hz)⟩) (by decide) (by decide) wm_1209 wm_1216 rfl dL_tail_17 (by decide) dL_tail_19 (by decide) dL_tail_20 (so h) (Nat.le_of_ble_eq_true rfl) (Nat.le_of_ble_eq_true rfl))
    rw [if_neg c12] at h
    cases h
theorem c_L_tail (l : Launch) (hls : l.stackTraces = false) {S : mS} {a0 : Nat} {a1 : Int32} {a2 : Int32} {a3 : Nat} {o : Rs Int32} (h : f_L_tail S a0 a1 a2 a3 = some o) : CT (fun r : Int32 => some (.int r)) l yL_tail (.codeWith yL_tail cL_tail 5 (Option.some Jvm.ClassFile.FieldType.int) [((0 : Nat), (10 : Nat), (13 : Nat), (21 : Nat)), ((0 : Nat), (10 : Nat), (17 : Nat), (83 : Nat))]) rm_L_tail S [.ref a0, .int a1, .int a2, .ref a3] o := ct_ofH (by decide +kernel) hls (Nat.le_of_ble_eq_true rfl) (fun C hl hC hE => t_L_tail hls hC hl hE h)
abbrev rm_L_go : Room := { frames := 14, cells := 1, slots := 6, locals := 290 }
abbrev hh_L_go : List (Nat × Nat × Nat × Nat) := [((0 : Nat), (9 : Nat), (12 : Nat), (13 : Nat))]
def f_L_go (S : mS) (a0 : Nat) (a1 : Int32) (a2 : Nat) : Option (Rs Int32) :=
  gd (gK S a0 = 16) (bdc (f_X10_go S a0 a1) (fun E S => if E = "java/lang/IllegalArgumentException" then some (.inl (1 : Int32), S) else none) fun x2 S3 => lt9 ((x2).toInt64) fun x6 => gd (gK S3 a2 = 38) (gd (¬ ((0 : Int32) < 0 ∨ gZ S3 a2 ≤ ((0 : Int32)).toNatClampNeg)) (zL (sL S3 a2 ((0 : Int32)).toNatClampNeg x6) fun S9 => some (.inl (0 : Int32), S9))))
set_option maxHeartbeats 2000000 in
set_option maxRecDepth 100000 in
theorem t_L_go {l : Launch} (hls : l.stackTraces = false) {C : cT} (hC : CX C cL_go 4 yL_go rm_L_go) (hl : C.2.1 = l) {S0 : mS} (hE : CE C S0 (Option.some Jvm.ClassFile.FieldType.int) (tableOf hh_L_go)) {o : Rs Int32} {S : mS} {a0 : Nat} {a1 : Int32} {a2 : Nat} (h : f_L_go S a0 a1 a2 = some o) : XX C 4 (QQ C (fun r : Int32 => some (.int r)) S0 o) 0 0 S 0 [(0, .ref a0), (1, .int a1), (2, .ref a2)] [] := by
  unfold f_L_go at h
  refine x_aload_n (pc := 0) hC 2 dL_go_0 rfl rfl ?_
  refine x_iconst (pc := 1) (v := (0 : Int32)) hC dL_go_1 (by decide) ?_
  refine x_aload_n (pc := 2) hC 0 dL_go_2 rfl rfl ?_
  refine x_iload_n (pc := 3) hC 1 dL_go_3 rfl rfl ?_
  obtain ⟨g1, h⟩ := gd_some h
  obtain ⟨o4, ho4, h⟩ := bdc_some h
  refine x_callV (pc := 4) (As := [.int a1]) (rest := [.int (0 : Int32), .ref a2]) hC hl (c_X10_go l hls ho4) lk_RL_112 fc_16 g1 dL_go_4 rfl rfl (Nat.le_of_ble_eq_true rfl) ⟨Nat.le_of_ble_eq_true rfl, Nat.le_of_ble_eq_true rfl⟩ ⟨(Nat.le_of_ble_eq_true rfl), (Nat.le_of_ble_eq_true rfl)⟩ ?_
  rcases o4 with ⟨x2 | E5, S3⟩
  · refine xk_i ?_
    replace h := bdc_l h
    refine x_i2lv (pc := 7) hC dL_go_7 (fun x6 hx6 => ?_)
    replace h := lt_x hx6 h
    obtain ⟨g8, h⟩ := gd_some h
    obtain ⟨g7, h⟩ := gd_some h
    refine x_lastv (pc := 8) hC dL_go_8 g8 g7 (fun S9 hS9 => ?_)
    replace h := zL_x hS9 h
    have g10 : gK S9 a2 = 38 := by rw [hS9]; exact g8
    refine x_goto (pc := 9) hC 15 dL_go_9 (by decide) ?_
    refine x_iconst (pc := 15) (v := (0 : Int32)) hC dL_go_15 (by decide) ?_
    exact x_ireturn (pc := 16) hC hE dL_go_16 (so h) (Nat.le_of_ble_eq_true rfl) (Nat.le_of_ble_eq_true rfl)
  · replace h := bdc_r h
    by_cases c11 : E5 = "java/lang/IllegalArgumentException"
    · rw [if_pos c11] at h
      subst c11
      exact xk_r (xt_catch_n hC hE [] ⟨0, 9, 12, 13⟩ [] rfl (fun _ hz => nomatch hz) (by decide) (by decide) wm_885 wm_902 rfl dL_go_12 rfl (by decide) dL_go_13 (by decide) dL_go_14 (so h) (Nat.le_of_ble_eq_true rfl) (Nat.le_of_ble_eq_true rfl))
    rw [if_neg c11] at h
    cases h
theorem c_L_go (l : Launch) (hls : l.stackTraces = false) {S : mS} {a0 : Nat} {a1 : Int32} {a2 : Nat} {o : Rs Int32} (h : f_L_go S a0 a1 a2 = some o) : CT (fun r : Int32 => some (.int r)) l yL_go (.codeWith yL_go cL_go 4 (Option.some Jvm.ClassFile.FieldType.int) [((0 : Nat), (9 : Nat), (12 : Nat), (13 : Nat))]) rm_L_go S [.ref a0, .int a1, .ref a2] o := ct_ofH (by decide +kernel) hls (Nat.le_of_ble_eq_true rfl) (fun C hl hC hE => t_L_go hls hC hl hE h)
abbrev rm_L_clashes : Room := { frames := 10, cells := 1, slots := 6, locals := 191 }
abbrev hh_L_clashes : List (Nat × Nat × Nat × Nat) := [((0 : Nat), (9 : Nat), (12 : Nat), (13 : Nat))]
def f_L_clashes (S : mS) (a0 : Nat) (a1 : Int32) (a2 : Nat) : Option (Rs Int32) :=
  gd (gK S a0 = 16) (bdc (f_X10_clashes S a0 a1) (fun E S => if E = "java/lang/IllegalArgumentException" then some (.inl (1 : Int32), S) else none) fun x2 S3 => lt9 ((x2).toInt64) fun x6 => gd (gK S3 a2 = 38) (gd (¬ ((0 : Int32) < 0 ∨ gZ S3 a2 ≤ ((0 : Int32)).toNatClampNeg)) (zL (sL S3 a2 ((0 : Int32)).toNatClampNeg x6) fun S9 => some (.inl (0 : Int32), S9))))
set_option maxHeartbeats 2000000 in
set_option maxRecDepth 100000 in
theorem t_L_clashes {l : Launch} (hls : l.stackTraces = false) {C : cT} (hC : CX C cL_clashes 4 yL_clashes rm_L_clashes) (hl : C.2.1 = l) {S0 : mS} (hE : CE C S0 (Option.some Jvm.ClassFile.FieldType.int) (tableOf hh_L_clashes)) {o : Rs Int32} {S : mS} {a0 : Nat} {a1 : Int32} {a2 : Nat} (h : f_L_clashes S a0 a1 a2 = some o) : XX C 4 (QQ C (fun r : Int32 => some (.int r)) S0 o) 0 0 S 0 [(0, .ref a0), (1, .int a1), (2, .ref a2)] [] := by
  unfold f_L_clashes at h
  refine x_aload_n (pc := 0) hC 2 dL_clashes_0 rfl rfl ?_
  refine x_iconst (pc := 1) (v := (0 : Int32)) hC dL_clashes_1 (by decide) ?_
  refine x_aload_n (pc := 2) hC 0 dL_clashes_2 rfl rfl ?_
  refine x_iload_n (pc := 3) hC 1 dL_clashes_3 rfl rfl ?_
  obtain ⟨g1, h⟩ := gd_some h
  obtain ⟨o4, ho4, h⟩ := bdc_some h
  refine x_callV (pc := 4) (As := [.int a1]) (rest := [.int (0 : Int32), .ref a2]) hC hl (c_X10_clashes l hls ho4) lk_RL_115 fc_16 g1 dL_clashes_4 rfl rfl (Nat.le_of_ble_eq_true rfl) ⟨Nat.le_of_ble_eq_true rfl, Nat.le_of_ble_eq_true rfl⟩ ⟨(Nat.le_of_ble_eq_true rfl), (Nat.le_of_ble_eq_true rfl)⟩ ?_
  rcases o4 with ⟨x2 | E5, S3⟩
  · refine xk_i ?_
    replace h := bdc_l h
    refine x_i2lv (pc := 7) hC dL_clashes_7 (fun x6 hx6 => ?_)
    replace h := lt_x hx6 h
    obtain ⟨g8, h⟩ := gd_some h
    obtain ⟨g7, h⟩ := gd_some h
    refine x_lastv (pc := 8) hC dL_clashes_8 g8 g7 (fun S9 hS9 => ?_)
    replace h := zL_x hS9 h
    have g10 : gK S9 a2 = 38 := by rw [hS9]; exact g8
    refine x_goto (pc := 9) hC 15 dL_clashes_9 (by decide) ?_
    refine x_iconst (pc := 15) (v := (0 : Int32)) hC dL_clashes_15 (by decide) ?_
    exact x_ireturn (pc := 16) hC hE dL_clashes_16 (so h) (Nat.le_of_ble_eq_true rfl) (Nat.le_of_ble_eq_true rfl)
  · replace h := bdc_r h
    by_cases c11 : E5 = "java/lang/IllegalArgumentException"
    · rw [if_pos c11] at h
      subst c11
      exact xk_r (xt_catch_n hC hE [] ⟨0, 9, 12, 13⟩ [] rfl (fun _ hz => nomatch hz) (by decide) (by decide) wm_885 wm_902 rfl dL_clashes_12 rfl (by decide) dL_clashes_13 (by decide) dL_clashes_14 (so h) (Nat.le_of_ble_eq_true rfl) (Nat.le_of_ble_eq_true rfl))
    rw [if_neg c11] at h
    cases h
theorem c_L_clashes (l : Launch) (hls : l.stackTraces = false) {S : mS} {a0 : Nat} {a1 : Int32} {a2 : Nat} {o : Rs Int32} (h : f_L_clashes S a0 a1 a2 = some o) : CT (fun r : Int32 => some (.int r)) l yL_clashes (.codeWith yL_clashes cL_clashes 4 (Option.some Jvm.ClassFile.FieldType.int) [((0 : Nat), (9 : Nat), (12 : Nat), (13 : Nat))]) rm_L_clashes S [.ref a0, .int a1, .ref a2] o := ct_ofH (by decide +kernel) hls (Nat.le_of_ble_eq_true rfl) (fun C hl hC hE => t_L_clashes hls hC hl hE h)
abbrev rm_L_between : Room := { frames := 11, cells := 4, slots := 24, locals := 221 }
abbrev hh_L_between : List (Nat × Nat × Nat × Nat) := [((0 : Nat), (10 : Nat), (13 : Nat), (21 : Nat)), ((0 : Nat), (10 : Nat), (17 : Nat), (23 : Nat))]
def f_L_between (S : mS) (a0 : Nat) (a1 : Int32) (a2 : Int32) (a3 : Nat) : Option (Rs Int32) :=
  gd (gK S a0 = 16) (bdc (f_X10_between S a0 a1 a2) (fun E S => if E = "java/lang/IndexOutOfBoundsException" then some (.inl (1 : Int32), S) else if E = "java/lang/UnsupportedOperationException" then some (.inl (2 : Int32), S) else none) fun x2 S3 => lt9 ((x2).toInt64) fun x6 => gd (gK S3 a3 = 38) (gd (¬ ((0 : Int32) < 0 ∨ gZ S3 a3 ≤ ((0 : Int32)).toNatClampNeg)) (zL (sL S3 a3 ((0 : Int32)).toNatClampNeg x6) fun S9 => some (.inl (0 : Int32), S9))))
set_option maxHeartbeats 2000000 in
set_option maxRecDepth 100000 in
theorem t_L_between {l : Launch} (hls : l.stackTraces = false) {C : cT} (hC : CX C cL_between 5 yL_between rm_L_between) (hl : C.2.1 = l) {S0 : mS} (hE : CE C S0 (Option.some Jvm.ClassFile.FieldType.int) (tableOf hh_L_between)) {o : Rs Int32} {S : mS} {a0 : Nat} {a1 : Int32} {a2 : Int32} {a3 : Nat} (h : f_L_between S a0 a1 a2 a3 = some o) : XX C 5 (QQ C (fun r : Int32 => some (.int r)) S0 o) 0 0 S 0 [(0, .ref a0), (1, .int a1), (2, .int a2), (3, .ref a3)] [] := by
  unfold f_L_between at h
  refine x_aload_n (pc := 0) hC 3 dL_between_0 rfl rfl ?_
  refine x_iconst (pc := 1) (v := (0 : Int32)) hC dL_between_1 (by decide) ?_
  refine x_aload_n (pc := 2) hC 0 dL_between_2 rfl rfl ?_
  refine x_iload_n (pc := 3) hC 1 dL_between_3 rfl rfl ?_
  refine x_iload_n (pc := 4) hC 2 dL_between_4 rfl rfl ?_
  obtain ⟨g1, h⟩ := gd_some h
  obtain ⟨o4, ho4, h⟩ := bdc_some h
  refine x_callV (pc := 5) (As := [.int a1, .int a2]) (rest := [.int (0 : Int32), .ref a3]) hC hl (c_X10_between l hls ho4) lk_RL_119 fc_16 g1 dL_between_5 rfl rfl (Nat.le_of_ble_eq_true rfl) ⟨Nat.le_of_ble_eq_true rfl, Nat.le_of_ble_eq_true rfl⟩ ⟨(Nat.le_of_ble_eq_true rfl), (Nat.le_of_ble_eq_true rfl)⟩ ?_
  rcases o4 with ⟨x2 | E5, S3⟩
  · refine xk_i ?_
    replace h := bdc_l h
    refine x_i2lv (pc := 8) hC dL_between_8 (fun x6 hx6 => ?_)
    replace h := lt_x hx6 h
    obtain ⟨g8, h⟩ := gd_some h
    obtain ⟨g7, h⟩ := gd_some h
    refine x_lastv (pc := 9) hC dL_between_9 g8 g7 (fun S9 hS9 => ?_)
    replace h := zL_x hS9 h
    have g10 : gK S9 a3 = 38 := by rw [hS9]; exact g8
    refine x_goto (pc := 10) hC 21 dL_between_10 (by decide) ?_
    refine x_iconst (pc := 21) (v := (0 : Int32)) hC dL_between_21 (by decide) ?_
    exact x_ireturn (pc := 22) hC hE dL_between_22 (so h) (Nat.le_of_ble_eq_true rfl) (Nat.le_of_ble_eq_true rfl)
  · replace h := bdc_r h
    by_cases c11 : E5 = "java/lang/IndexOutOfBoundsException"
    · rw [if_pos c11] at h
      subst c11
      exact xk_r (xt_catch hC hE [] ⟨0, 10, 13, 21⟩ [⟨0, 10, 17, 23⟩] rfl (fun _ hz => nomatch hz) (by decide) (by decide) wm_1001 wm_1036 rfl dL_between_13 (by decide) dL_between_15 (by decide) dL_between_16 (so h) (Nat.le_of_ble_eq_true rfl) (Nat.le_of_ble_eq_true rfl))
    rw [if_neg c11] at h
    by_cases c12 : E5 = "java/lang/UnsupportedOperationException"
    · rw [if_pos c12] at h
      subst c12
      exact xk_r (xt_catch hC hE [⟨0, 10, 13, 21⟩] ⟨0, 10, 17, 23⟩ [] rfl (List.forall_mem_cons.mpr ⟨Or.inr ⟨by decide, "java/lang/IndexOutOfBoundsException", wm_1001, by decide⟩, (fun _ hz => nomatch hz)⟩) (by decide) (by decide) wm_1025 wm_1050 rfl dL_between_17 (by decide) dL_between_19 (by decide) dL_between_20 (so h) (Nat.le_of_ble_eq_true rfl) (Nat.le_of_ble_eq_true rfl))
    rw [if_neg c12] at h
    cases h
theorem c_L_between (l : Launch) (hls : l.stackTraces = false) {S : mS} {a0 : Nat} {a1 : Int32} {a2 : Int32} {a3 : Nat} {o : Rs Int32} (h : f_L_between S a0 a1 a2 a3 = some o) : CT (fun r : Int32 => some (.int r)) l yL_between (.codeWith yL_between cL_between 5 (Option.some Jvm.ClassFile.FieldType.int) [((0 : Nat), (10 : Nat), (13 : Nat), (21 : Nat)), ((0 : Nat), (10 : Nat), (17 : Nat), (23 : Nat))]) rm_L_between S [.ref a0, .int a1, .int a2, .ref a3] o := ct_ofH (by decide +kernel) hls (Nat.le_of_ble_eq_true rfl) (fun C hl hC hE => t_L_between hls hC hl hE h)
abbrev rm_L_sync : Room := { frames := 13, cells := 5, slots := 30, locals := 266 }
abbrev hh_L_sync : List (Nat × Nat × Nat × Nat) := [((0 : Nat), (10 : Nat), (13 : Nat), (21 : Nat)), ((0 : Nat), (10 : Nat), (17 : Nat), (23 : Nat))]
def f_L_sync (S : mS) (a0 : Nat) (a1 : Int32) (a2 : Int32) (a3 : Nat) : Option (Rs Int32) :=
  gd (gK S a0 = 16) (bdc (f_X10_sync S a0 a1 a2) (fun E S => if E = "java/lang/IndexOutOfBoundsException" then some (.inl (1 : Int32), S) else if E = "java/lang/UnsupportedOperationException" then some (.inl (2 : Int32), S) else none) fun x2 S3 => lt9 ((x2).toInt64) fun x6 => gd (gK S3 a3 = 38) (gd (¬ ((0 : Int32) < 0 ∨ gZ S3 a3 ≤ ((0 : Int32)).toNatClampNeg)) (zL (sL S3 a3 ((0 : Int32)).toNatClampNeg x6) fun S9 => some (.inl (0 : Int32), S9))))
set_option maxHeartbeats 2000000 in
set_option maxRecDepth 100000 in
theorem t_L_sync {l : Launch} (hls : l.stackTraces = false) {C : cT} (hC : CX C cL_sync 5 yL_sync rm_L_sync) (hl : C.2.1 = l) {S0 : mS} (hE : CE C S0 (Option.some Jvm.ClassFile.FieldType.int) (tableOf hh_L_sync)) {o : Rs Int32} {S : mS} {a0 : Nat} {a1 : Int32} {a2 : Int32} {a3 : Nat} (h : f_L_sync S a0 a1 a2 a3 = some o) : XX C 5 (QQ C (fun r : Int32 => some (.int r)) S0 o) 0 0 S 0 [(0, .ref a0), (1, .int a1), (2, .int a2), (3, .ref a3)] [] := by
  unfold f_L_sync at h
  refine x_aload_n (pc := 0) hC 3 dL_sync_0 rfl rfl ?_
  refine x_iconst (pc := 1) (v := (0 : Int32)) hC dL_sync_1 (by decide) ?_
  refine x_aload_n (pc := 2) hC 0 dL_sync_2 rfl rfl ?_
  refine x_iload_n (pc := 3) hC 1 dL_sync_3 rfl rfl ?_
  refine x_iload_n (pc := 4) hC 2 dL_sync_4 rfl rfl ?_
  obtain ⟨g1, h⟩ := gd_some h
  obtain ⟨o4, ho4, h⟩ := bdc_some h
  refine x_callV (pc := 5) (As := [.int a1, .int a2]) (rest := [.int (0 : Int32), .ref a3]) hC hl (c_X10_sync l hls ho4) lk_RL_122 fc_16 g1 dL_sync_5 rfl rfl (Nat.le_of_ble_eq_true rfl) ⟨Nat.le_of_ble_eq_true rfl, Nat.le_of_ble_eq_true rfl⟩ ⟨(Nat.le_of_ble_eq_true rfl), (Nat.le_of_ble_eq_true rfl)⟩ ?_
  rcases o4 with ⟨x2 | E5, S3⟩
  · refine xk_i ?_
    replace h := bdc_l h
    refine x_i2lv (pc := 8) hC dL_sync_8 (fun x6 hx6 => ?_)
    replace h := lt_x hx6 h
    obtain ⟨g8, h⟩ := gd_some h
    obtain ⟨g7, h⟩ := gd_some h
    refine x_lastv (pc := 9) hC dL_sync_9 g8 g7 (fun S9 hS9 => ?_)
    replace h := zL_x hS9 h
    have g10 : gK S9 a3 = 38 := by rw [hS9]; exact g8
    refine x_goto (pc := 10) hC 21 dL_sync_10 (by decide) ?_
    refine x_iconst (pc := 21) (v := (0 : Int32)) hC dL_sync_21 (by decide) ?_
    exact x_ireturn (pc := 22) hC hE dL_sync_22 (so h) (Nat.le_of_ble_eq_true rfl) (Nat.le_of_ble_eq_true rfl)
  · replace h := bdc_r h
    by_cases c11 : E5 = "java/lang/IndexOutOfBoundsException"
    · rw [if_pos c11] at h
      subst c11
      exact xk_r (xt_catch hC hE [] ⟨0, 10, 13, 21⟩ [⟨0, 10, 17, 23⟩] rfl (fun _ hz => nomatch hz) (by decide) (by decide) wm_1001 wm_1036 rfl dL_sync_13 (by decide) dL_sync_15 (by decide) dL_sync_16 (so h) (Nat.le_of_ble_eq_true rfl) (Nat.le_of_ble_eq_true rfl))
    rw [if_neg c11] at h
    by_cases c12 : E5 = "java/lang/UnsupportedOperationException"
    · rw [if_pos c12] at h
      subst c12
      exact xk_r (xt_catch hC hE [⟨0, 10, 13, 21⟩] ⟨0, 10, 17, 23⟩ [] rfl (List.forall_mem_cons.mpr ⟨Or.inr ⟨by decide, "java/lang/IndexOutOfBoundsException", wm_1001, by decide⟩, (fun _ hz => nomatch hz)⟩) (by decide) (by decide) wm_1025 wm_1050 rfl dL_sync_17 (by decide) dL_sync_19 (by decide) dL_sync_20 (so h) (Nat.le_of_ble_eq_true rfl) (Nat.le_of_ble_eq_true rfl))
    rw [if_neg c12] at h
    cases h
theorem c_L_sync (l : Launch) (hls : l.stackTraces = false) {S : mS} {a0 : Nat} {a1 : Int32} {a2 : Int32} {a3 : Nat} {o : Rs Int32} (h : f_L_sync S a0 a1 a2 a3 = some o) : CT (fun r : Int32 => some (.int r)) l yL_sync (.codeWith yL_sync cL_sync 5 (Option.some Jvm.ClassFile.FieldType.int) [((0 : Nat), (10 : Nat), (13 : Nat), (21 : Nat)), ((0 : Nat), (10 : Nat), (17 : Nat), (23 : Nat))]) rm_L_sync S [.ref a0, .int a1, .int a2, .ref a3] o := ct_ofH (by decide +kernel) hls (Nat.le_of_ble_eq_true rfl) (fun C hl hC hE => t_L_sync hls hC hl hE h)
abbrev rm_L_ear : Room := { frames := 12, cells := 6, slots := 36, locals := 249 }
abbrev hh_L_ear : List (Nat × Nat × Nat × Nat) := [((0 : Nat), (12 : Nat), (15 : Nat), (21 : Nat)), ((0 : Nat), (12 : Nat), (19 : Nat), (13 : Nat)), ((0 : Nat), (12 : Nat), (23 : Nat), (23 : Nat))]
def f_L_ear (S : mS) (a0 : Nat) (a1 : Int32) (a2 : Int32) (a3 : Int32) (a4 : Nat) : Option (Rs Int32) :=
  gd (gK S a0 = 16) (bdc (f_X10_ear S a0 a1 a2 a3) (fun E S => if E = "java/lang/IndexOutOfBoundsException" then some (.inl (1 : Int32), S) else if E = "java/lang/IllegalArgumentException" then some (.inl (2 : Int32), S) else if E = "java/lang/UnsupportedOperationException" then some (.inl (3 : Int32), S) else none) fun x2 S3 => lt9 ((x2).toInt64) fun x6 => gd (gK S3 a4 = 38) (gd (¬ ((0 : Int32) < 0 ∨ gZ S3 a4 ≤ ((0 : Int32)).toNatClampNeg)) (zL (sL S3 a4 ((0 : Int32)).toNatClampNeg x6) fun S9 => some (.inl (0 : Int32), S9))))
set_option maxHeartbeats 2000000 in
set_option maxRecDepth 100000 in
theorem t_L_ear {l : Launch} (hls : l.stackTraces = false) {C : cT} (hC : CX C cL_ear 6 yL_ear rm_L_ear) (hl : C.2.1 = l) {S0 : mS} (hE : CE C S0 (Option.some Jvm.ClassFile.FieldType.int) (tableOf hh_L_ear)) {o : Rs Int32} {S : mS} {a0 : Nat} {a1 : Int32} {a2 : Int32} {a3 : Int32} {a4 : Nat} (h : f_L_ear S a0 a1 a2 a3 a4 = some o) : XX C 6 (QQ C (fun r : Int32 => some (.int r)) S0 o) 0 0 S 0 [(0, .ref a0), (1, .int a1), (2, .int a2), (3, .int a3), (4, .ref a4)] [] := by
  unfold f_L_ear at h
  refine x_aload (pc := 0) hC 4 dL_ear_0 rfl ?_
  refine x_iconst (pc := 2) (v := (0 : Int32)) hC dL_ear_2 (by decide) ?_
  refine x_aload_n (pc := 3) hC 0 dL_ear_3 rfl rfl ?_
  refine x_iload_n (pc := 4) hC 1 dL_ear_4 rfl rfl ?_
  refine x_iload_n (pc := 5) hC 2 dL_ear_5 rfl rfl ?_
  refine x_iload_n (pc := 6) hC 3 dL_ear_6 rfl rfl ?_
  obtain ⟨g1, h⟩ := gd_some h
  obtain ⟨o4, ho4, h⟩ := bdc_some h
  refine x_callV (pc := 7) (As := [.int a1, .int a2, .int a3]) (rest := [.int (0 : Int32), .ref a4]) hC hl (c_X10_ear l hls ho4) lk_RL_125 fc_16 g1 dL_ear_7 rfl rfl (Nat.le_of_ble_eq_true rfl) ⟨Nat.le_of_ble_eq_true rfl, Nat.le_of_ble_eq_true rfl⟩ ⟨(Nat.le_of_ble_eq_true rfl), (Nat.le_of_ble_eq_true rfl)⟩ ?_
  rcases o4 with ⟨x2 | E5, S3⟩
  · refine xk_i ?_
    replace h := bdc_l h
    refine x_i2lv (pc := 10) hC dL_ear_10 (fun x6 hx6 => ?_)
    replace h := lt_x hx6 h
    obtain ⟨g8, h⟩ := gd_some h
    obtain ⟨g7, h⟩ := gd_some h
    refine x_lastv (pc := 11) hC dL_ear_11 g8 g7 (fun S9 hS9 => ?_)
    replace h := zL_x hS9 h
    have g10 : gK S9 a4 = 38 := by rw [hS9]; exact g8
    refine x_goto (pc := 12) hC 27 dL_ear_12 (by decide) ?_
    refine x_iconst (pc := 27) (v := (0 : Int32)) hC dL_ear_27 (by decide) ?_
    exact x_ireturn (pc := 28) hC hE dL_ear_28 (so h) (Nat.le_of_ble_eq_true rfl) (Nat.le_of_ble_eq_true rfl)
  · replace h := bdc_r h
    by_cases c11 : E5 = "java/lang/IndexOutOfBoundsException"
    · rw [if_pos c11] at h
      subst c11
      exact xk_r (xt_catch hC hE [] ⟨0, 12, 15, 21⟩ [⟨0, 12, 19, 13⟩, ⟨0, 12, 23, 23⟩] rfl (fun _ hz => nomatch hz) (by decide) (by decide) wm_1001 wm_1036 rfl dL_ear_15 (by decide) dL_ear_17 (by decide) dL_ear_18 (so h) (Nat.le_of_ble_eq_true rfl) (Nat.le_of_ble_eq_true rfl))
    rw [if_neg c11] at h
    by_cases c12 : E5 = "java/lang/IllegalArgumentException"
    · rw [if_pos c12] at h
      subst c12
      exact xk_r (xt_catch hC hE [⟨0, 12, 15, 21⟩] ⟨0, 12, 19, 13⟩ [⟨0, 12, 23, 23⟩] rfl (List.forall_mem_cons.mpr ⟨Or.inr ⟨by decide, "java/lang/IndexOutOfBoundsException", wm_1001, by decide⟩, (fun _ hz => nomatch hz)⟩) (by decide) (by decide) wm_885 wm_902 rfl dL_ear_19 (by decide) dL_ear_21 (by decide) dL_ear_22 (so h) (Nat.le_of_ble_eq_true rfl) (Nat.le_of_ble_eq_true rfl))
    rw [if_neg c12] at h
    by_cases c13 : E5 = "java/lang/UnsupportedOperationException"
    · rw [if_pos c13] at h
      subst c13
      exact xk_r (xt_catch hC hE [⟨0, 12, 15, 21⟩, ⟨0, 12, 19, 13⟩] ⟨0, 12, 23, 23⟩ [] rfl (List.forall_mem_cons.mpr ⟨Or.inr ⟨by decide, "java/lang/IndexOutOfBoundsException", wm_1001, by decide⟩, (List.forall_mem_cons.mpr ⟨Or.inr ⟨by decide, "java/lang/IllegalArgumentException", wm_885, by decide⟩, (fun _ hz => nomatch hz)⟩)⟩) (by decide) (by decide) wm_1025 wm_1050 rfl dL_ear_23 (by decide) dL_ear_25 (by decide) dL_ear_26 (so h) (Nat.le_of_ble_eq_true rfl) (Nat.le_of_ble_eq_true rfl))
    rw [if_neg c13] at h
    cases h
theorem c_L_ear (l : Launch) (hls : l.stackTraces = false) {S : mS} {a0 : Nat} {a1 : Int32} {a2 : Int32} {a3 : Int32} {a4 : Nat} {o : Rs Int32} (h : f_L_ear S a0 a1 a2 a3 a4 = some o) : CT (fun r : Int32 => some (.int r)) l yL_ear (.codeWith yL_ear cL_ear 6 (Option.some Jvm.ClassFile.FieldType.int) [((0 : Nat), (12 : Nat), (15 : Nat), (21 : Nat)), ((0 : Nat), (12 : Nat), (19 : Nat), (13 : Nat)), ((0 : Nat), (12 : Nat), (23 : Nat), (23 : Nat))]) rm_L_ear S [.ref a0, .int a1, .int a2, .int a3, .ref a4] o := ct_ofH (by decide +kernel) hls (Nat.le_of_ble_eq_true rfl) (fun C hl hC hE => t_L_ear hls hC hl hE h)
abbrev rm_L_people : Room := { frames := 10, cells := 1, slots := 6, locals := 193 }
abbrev hh_L_people : List (Nat × Nat × Nat × Nat) := [((0 : Nat), (9 : Nat), (12 : Nat), (13 : Nat))]
def f_L_people (S : mS) (a0 : Nat) (a1 : Int32) (a2 : Nat) : Option (Rs Int32) :=
  gd (gK S a0 = 16) (bdc (f_X10_people S a0 a1) (fun E S => if E = "java/lang/IllegalArgumentException" then some (.inl (1 : Int32), S) else none) fun x2 S3 => lt9 ((x2).toInt64) fun x6 => gd (gK S3 a2 = 38) (gd (¬ ((0 : Int32) < 0 ∨ gZ S3 a2 ≤ ((0 : Int32)).toNatClampNeg)) (zL (sL S3 a2 ((0 : Int32)).toNatClampNeg x6) fun S9 => some (.inl (0 : Int32), S9))))
set_option maxHeartbeats 2000000 in
set_option maxRecDepth 100000 in
theorem t_L_people {l : Launch} (hls : l.stackTraces = false) {C : cT} (hC : CX C cL_people 4 yL_people rm_L_people) (hl : C.2.1 = l) {S0 : mS} (hE : CE C S0 (Option.some Jvm.ClassFile.FieldType.int) (tableOf hh_L_people)) {o : Rs Int32} {S : mS} {a0 : Nat} {a1 : Int32} {a2 : Nat} (h : f_L_people S a0 a1 a2 = some o) : XX C 4 (QQ C (fun r : Int32 => some (.int r)) S0 o) 0 0 S 0 [(0, .ref a0), (1, .int a1), (2, .ref a2)] [] := by
  unfold f_L_people at h
  refine x_aload_n (pc := 0) hC 2 dL_people_0 rfl rfl ?_
  refine x_iconst (pc := 1) (v := (0 : Int32)) hC dL_people_1 (by decide) ?_
  refine x_aload_n (pc := 2) hC 0 dL_people_2 rfl rfl ?_
  refine x_iload_n (pc := 3) hC 1 dL_people_3 rfl rfl ?_
  obtain ⟨g1, h⟩ := gd_some h
  obtain ⟨o4, ho4, h⟩ := bdc_some h
  refine x_callV (pc := 4) (As := [.int a1]) (rest := [.int (0 : Int32), .ref a2]) hC hl (c_X10_people l hls ho4) lk_RL_128 fc_16 g1 dL_people_4 rfl rfl (Nat.le_of_ble_eq_true rfl) ⟨Nat.le_of_ble_eq_true rfl, Nat.le_of_ble_eq_true rfl⟩ ⟨(Nat.le_of_ble_eq_true rfl), (Nat.le_of_ble_eq_true rfl)⟩ ?_
  rcases o4 with ⟨x2 | E5, S3⟩
  · refine xk_i ?_
    replace h := bdc_l h
    refine x_i2lv (pc := 7) hC dL_people_7 (fun x6 hx6 => ?_)
    replace h := lt_x hx6 h
    obtain ⟨g8, h⟩ := gd_some h
    obtain ⟨g7, h⟩ := gd_some h
    refine x_lastv (pc := 8) hC dL_people_8 g8 g7 (fun S9 hS9 => ?_)
    replace h := zL_x hS9 h
    have g10 : gK S9 a2 = 38 := by rw [hS9]; exact g8
    refine x_goto (pc := 9) hC 15 dL_people_9 (by decide) ?_
    refine x_iconst (pc := 15) (v := (0 : Int32)) hC dL_people_15 (by decide) ?_
    exact x_ireturn (pc := 16) hC hE dL_people_16 (so h) (Nat.le_of_ble_eq_true rfl) (Nat.le_of_ble_eq_true rfl)
  · replace h := bdc_r h
    by_cases c11 : E5 = "java/lang/IllegalArgumentException"
    · rw [if_pos c11] at h
      subst c11
      exact xk_r (xt_catch_n hC hE [] ⟨0, 9, 12, 13⟩ [] rfl (fun _ hz => nomatch hz) (by decide) (by decide) wm_885 wm_902 rfl dL_people_12 rfl (by decide) dL_people_13 (by decide) dL_people_14 (so h) (Nat.le_of_ble_eq_true rfl) (Nat.le_of_ble_eq_true rfl))
    rw [if_neg c11] at h
    cases h
theorem c_L_people (l : Launch) (hls : l.stackTraces = false) {S : mS} {a0 : Nat} {a1 : Int32} {a2 : Nat} {o : Rs Int32} (h : f_L_people S a0 a1 a2 = some o) : CT (fun r : Int32 => some (.int r)) l yL_people (.codeWith yL_people cL_people 4 (Option.some Jvm.ClassFile.FieldType.int) [((0 : Nat), (9 : Nat), (12 : Nat), (13 : Nat))]) rm_L_people S [.ref a0, .int a1, .ref a2] o := ct_ofH (by decide +kernel) hls (Nat.le_of_ble_eq_true rfl) (fun C hl hC hE => t_L_people hls hC hl hE h)
abbrev rm_L_tired : Room := { frames := 10, cells := 1, slots := 6, locals := 193 }
abbrev hh_L_tired : List (Nat × Nat × Nat × Nat) := [((0 : Nat), (9 : Nat), (12 : Nat), (13 : Nat))]
def f_L_tired (S : mS) (a0 : Nat) (a1 : Int32) (a2 : Nat) : Option (Rs Int32) :=
  gd (gK S a0 = 16) (bdc (f_X10_tired S a0 a1) (fun E S => if E = "java/lang/IllegalArgumentException" then some (.inl (1 : Int32), S) else none) fun x2 S3 => lt9 ((x2).toInt64) fun x6 => gd (gK S3 a2 = 38) (gd (¬ ((0 : Int32) < 0 ∨ gZ S3 a2 ≤ ((0 : Int32)).toNatClampNeg)) (zL (sL S3 a2 ((0 : Int32)).toNatClampNeg x6) fun S9 => some (.inl (0 : Int32), S9))))
set_option maxHeartbeats 2000000 in
set_option maxRecDepth 100000 in
theorem t_L_tired {l : Launch} (hls : l.stackTraces = false) {C : cT} (hC : CX C cL_tired 4 yL_tired rm_L_tired) (hl : C.2.1 = l) {S0 : mS} (hE : CE C S0 (Option.some Jvm.ClassFile.FieldType.int) (tableOf hh_L_tired)) {o : Rs Int32} {S : mS} {a0 : Nat} {a1 : Int32} {a2 : Nat} (h : f_L_tired S a0 a1 a2 = some o) : XX C 4 (QQ C (fun r : Int32 => some (.int r)) S0 o) 0 0 S 0 [(0, .ref a0), (1, .int a1), (2, .ref a2)] [] := by
  unfold f_L_tired at h
  refine x_aload_n (pc := 0) hC 2 dL_tired_0 rfl rfl ?_
  refine x_iconst (pc := 1) (v := (0 : Int32)) hC dL_tired_1 (by decide) ?_
  refine x_aload_n (pc := 2) hC 0 dL_tired_2 rfl rfl ?_
  refine x_iload_n (pc := 3) hC 1 dL_tired_3 rfl rfl ?_
  obtain ⟨g1, h⟩ := gd_some h
  obtain ⟨o4, ho4, h⟩ := bdc_some h
  refine x_callV (pc := 4) (As := [.int a1]) (rest := [.int (0 : Int32), .ref a2]) hC hl (c_X10_tired l hls ho4) lk_RL_131 fc_16 g1 dL_tired_4 rfl rfl (Nat.le_of_ble_eq_true rfl) ⟨Nat.le_of_ble_eq_true rfl, Nat.le_of_ble_eq_true rfl⟩ ⟨(Nat.le_of_ble_eq_true rfl), (Nat.le_of_ble_eq_true rfl)⟩ ?_
  rcases o4 with ⟨x2 | E5, S3⟩
  · refine xk_i ?_
    replace h := bdc_l h
    refine x_i2lv (pc := 7) hC dL_tired_7 (fun x6 hx6 => ?_)
    replace h := lt_x hx6 h
    obtain ⟨g8, h⟩ := gd_some h
    obtain ⟨g7, h⟩ := gd_some h
    refine x_lastv (pc := 8) hC dL_tired_8 g8 g7 (fun S9 hS9 => ?_)
    replace h := zL_x hS9 h
    have g10 : gK S9 a2 = 38 := by rw [hS9]; exact g8
    refine x_goto (pc := 9) hC 15 dL_tired_9 (by decide) ?_
    refine x_iconst (pc := 15) (v := (0 : Int32)) hC dL_tired_15 (by decide) ?_
    exact x_ireturn (pc := 16) hC hE dL_tired_16 (so h) (Nat.le_of_ble_eq_true rfl) (Nat.le_of_ble_eq_true rfl)
  · replace h := bdc_r h
    by_cases c11 : E5 = "java/lang/IllegalArgumentException"
    · rw [if_pos c11] at h
      subst c11
      exact xk_r (xt_catch_n hC hE [] ⟨0, 9, 12, 13⟩ [] rfl (fun _ hz => nomatch hz) (by decide) (by decide) wm_885 wm_902 rfl dL_tired_12 rfl (by decide) dL_tired_13 (by decide) dL_tired_14 (so h) (Nat.le_of_ble_eq_true rfl) (Nat.le_of_ble_eq_true rfl))
    rw [if_neg c11] at h
    cases h
theorem c_L_tired (l : Launch) (hls : l.stackTraces = false) {S : mS} {a0 : Nat} {a1 : Int32} {a2 : Nat} {o : Rs Int32} (h : f_L_tired S a0 a1 a2 = some o) : CT (fun r : Int32 => some (.int r)) l yL_tired (.codeWith yL_tired cL_tired 4 (Option.some Jvm.ClassFile.FieldType.int) [((0 : Nat), (9 : Nat), (12 : Nat), (13 : Nat))]) rm_L_tired S [.ref a0, .int a1, .ref a2] o := ct_ofH (by decide +kernel) hls (Nat.le_of_ble_eq_true rfl) (fun C hl hC hE => t_L_tired hls hC hl hE h)
abbrev rm_L_seconds : Room := { frames := 11, cells := 1, slots := 6, locals := 214 }
abbrev hh_L_seconds : List (Nat × Nat × Nat × Nat) := [((0 : Nat), (9 : Nat), (12 : Nat), (21 : Nat))]
def f_L_seconds (S : mS) (a0 : Nat) (a1 : Int32) (a2 : Nat) : Option (Rs Int32) :=
  gd (gK S a0 = 16) (bdc (f_X10_seconds S a0 a1) (fun E S => if E = "java/lang/IndexOutOfBoundsException" then some (.inl (1 : Int32), S) else none) fun x2 S3 => lt9 ((x2).toInt64) fun x6 => gd (gK S3 a2 = 38) (gd (¬ ((0 : Int32) < 0 ∨ gZ S3 a2 ≤ ((0 : Int32)).toNatClampNeg)) (zL (sL S3 a2 ((0 : Int32)).toNatClampNeg x6) fun S9 => some (.inl (0 : Int32), S9))))
set_option maxHeartbeats 2000000 in
set_option maxRecDepth 100000 in
theorem t_L_seconds {l : Launch} (hls : l.stackTraces = false) {C : cT} (hC : CX C cL_seconds 4 yL_seconds rm_L_seconds) (hl : C.2.1 = l) {S0 : mS} (hE : CE C S0 (Option.some Jvm.ClassFile.FieldType.int) (tableOf hh_L_seconds)) {o : Rs Int32} {S : mS} {a0 : Nat} {a1 : Int32} {a2 : Nat} (h : f_L_seconds S a0 a1 a2 = some o) : XX C 4 (QQ C (fun r : Int32 => some (.int r)) S0 o) 0 0 S 0 [(0, .ref a0), (1, .int a1), (2, .ref a2)] [] := by
  unfold f_L_seconds at h
  refine x_aload_n (pc := 0) hC 2 dL_seconds_0 rfl rfl ?_
  refine x_iconst (pc := 1) (v := (0 : Int32)) hC dL_seconds_1 (by decide) ?_
  refine x_aload_n (pc := 2) hC 0 dL_seconds_2 rfl rfl ?_
  refine x_iload_n (pc := 3) hC 1 dL_seconds_3 rfl rfl ?_
  obtain ⟨g1, h⟩ := gd_some h
  obtain ⟨o4, ho4, h⟩ := bdc_some h
  refine x_callV (pc := 4) (As := [.int a1]) (rest := [.int (0 : Int32), .ref a2]) hC hl (c_X10_seconds l hls ho4) lk_RL_134 fc_16 g1 dL_seconds_4 rfl rfl (Nat.le_of_ble_eq_true rfl) ⟨Nat.le_of_ble_eq_true rfl, Nat.le_of_ble_eq_true rfl⟩ ⟨(Nat.le_of_ble_eq_true rfl), (Nat.le_of_ble_eq_true rfl)⟩ ?_
  rcases o4 with ⟨x2 | E5, S3⟩
  · refine xk_i ?_
    replace h := bdc_l h
    refine x_i2lv (pc := 7) hC dL_seconds_7 (fun x6 hx6 => ?_)
    replace h := lt_x hx6 h
    obtain ⟨g8, h⟩ := gd_some h
    obtain ⟨g7, h⟩ := gd_some h
    refine x_lastv (pc := 8) hC dL_seconds_8 g8 g7 (fun S9 hS9 => ?_)
    replace h := zL_x hS9 h
    have g10 : gK S9 a2 = 38 := by rw [hS9]; exact g8
    refine x_goto (pc := 9) hC 15 dL_seconds_9 (by decide) ?_
    refine x_iconst (pc := 15) (v := (0 : Int32)) hC dL_seconds_15 (by decide) ?_
    exact x_ireturn (pc := 16) hC hE dL_seconds_16 (so h) (Nat.le_of_ble_eq_true rfl) (Nat.le_of_ble_eq_true rfl)
  · replace h := bdc_r h
    by_cases c11 : E5 = "java/lang/IndexOutOfBoundsException"
    · rw [if_pos c11] at h
      subst c11
      exact xk_r (xt_catch_n hC hE [] ⟨0, 9, 12, 21⟩ [] rfl (fun _ hz => nomatch hz) (by decide) (by decide) wm_1001 wm_1036 rfl dL_seconds_12 rfl (by decide) dL_seconds_13 (by decide) dL_seconds_14 (so h) (Nat.le_of_ble_eq_true rfl) (Nat.le_of_ble_eq_true rfl))
    rw [if_neg c11] at h
    cases h
theorem c_L_seconds (l : Launch) (hls : l.stackTraces = false) {S : mS} {a0 : Nat} {a1 : Int32} {a2 : Nat} {o : Rs Int32} (h : f_L_seconds S a0 a1 a2 = some o) : CT (fun r : Int32 => some (.int r)) l yL_seconds (.codeWith yL_seconds cL_seconds 4 (Option.some Jvm.ClassFile.FieldType.int) [((0 : Nat), (9 : Nat), (12 : Nat), (21 : Nat))]) rm_L_seconds S [.ref a0, .int a1, .ref a2] o := ct_ofH (by decide +kernel) hls (Nat.le_of_ble_eq_true rfl) (fun C hl hC hE => t_L_seconds hls hC hl hE h)
abbrev rm_L_setLimit : Room := { frames := 12, cells := 1, slots := 6, locals := 238 }
abbrev hh_L_setLimit : List (Nat × Nat × Nat × Nat) := [((0 : Nat), (10 : Nat), (13 : Nat), (13 : Nat))]
def f_L_setLimit (S : mS) (a0 : Nat) (a1 : Int32) (a2 : Int32) (a3 : Nat) : Option (Rs Int32) :=
  gd (gK S a0 = 16) (bdc (f_X10_setLimit S a0 a1 a2) (fun E S => if E = "java/lang/IllegalArgumentException" then some (.inl (1 : Int32), S) else none) fun x2 S3 => lt9 ((x2).toInt64) fun x6 => gd (gK S3 a3 = 38) (gd (¬ ((0 : Int32) < 0 ∨ gZ S3 a3 ≤ ((0 : Int32)).toNatClampNeg)) (zL (sL S3 a3 ((0 : Int32)).toNatClampNeg x6) fun S9 => some (.inl (0 : Int32), S9))))
set_option maxHeartbeats 2000000 in
set_option maxRecDepth 100000 in
theorem t_L_setLimit {l : Launch} (hls : l.stackTraces = false) {C : cT} (hC : CX C cL_setLimit 5 yL_setLimit rm_L_setLimit) (hl : C.2.1 = l) {S0 : mS} (hE : CE C S0 (Option.some Jvm.ClassFile.FieldType.int) (tableOf hh_L_setLimit)) {o : Rs Int32} {S : mS} {a0 : Nat} {a1 : Int32} {a2 : Int32} {a3 : Nat} (h : f_L_setLimit S a0 a1 a2 a3 = some o) : XX C 5 (QQ C (fun r : Int32 => some (.int r)) S0 o) 0 0 S 0 [(0, .ref a0), (1, .int a1), (2, .int a2), (3, .ref a3)] [] := by
  unfold f_L_setLimit at h
  refine x_aload_n (pc := 0) hC 3 dL_setLimit_0 rfl rfl ?_
  refine x_iconst (pc := 1) (v := (0 : Int32)) hC dL_setLimit_1 (by decide) ?_
  refine x_aload_n (pc := 2) hC 0 dL_setLimit_2 rfl rfl ?_
  refine x_iload_n (pc := 3) hC 1 dL_setLimit_3 rfl rfl ?_
  refine x_iload_n (pc := 4) hC 2 dL_setLimit_4 rfl rfl ?_
  obtain ⟨g1, h⟩ := gd_some h
  obtain ⟨o4, ho4, h⟩ := bdc_some h
  refine x_callV (pc := 5) (As := [.int a1, .int a2]) (rest := [.int (0 : Int32), .ref a3]) hC hl (c_X10_setLimit l hls ho4) lk_RL_137 fc_16 g1 dL_setLimit_5 rfl rfl (Nat.le_of_ble_eq_true rfl) ⟨Nat.le_of_ble_eq_true rfl, Nat.le_of_ble_eq_true rfl⟩ ⟨(Nat.le_of_ble_eq_true rfl), (Nat.le_of_ble_eq_true rfl)⟩ ?_
  rcases o4 with ⟨x2 | E5, S3⟩
  · refine xk_i ?_
    replace h := bdc_l h
    refine x_i2lv (pc := 8) hC dL_setLimit_8 (fun x6 hx6 => ?_)
    replace h := lt_x hx6 h
    obtain ⟨g8, h⟩ := gd_some h
    obtain ⟨g7, h⟩ := gd_some h
    refine x_lastv (pc := 9) hC dL_setLimit_9 g8 g7 (fun S9 hS9 => ?_)
    replace h := zL_x hS9 h
    have g10 : gK S9 a3 = 38 := by rw [hS9]; exact g8
    refine x_goto (pc := 10) hC 17 dL_setLimit_10 (by decide) ?_
    refine x_iconst (pc := 17) (v := (0 : Int32)) hC dL_setLimit_17 (by decide) ?_
    exact x_ireturn (pc := 18) hC hE dL_setLimit_18 (so h) (Nat.le_of_ble_eq_true rfl) (Nat.le_of_ble_eq_true rfl)
  · replace h := bdc_r h
    by_cases c11 : E5 = "java/lang/IllegalArgumentException"
    · rw [if_pos c11] at h
      subst c11
      exact xk_r (xt_catch hC hE [] ⟨0, 10, 13, 13⟩ [] rfl (fun _ hz => nomatch hz) (by decide) (by decide) wm_885 wm_902 rfl dL_setLimit_13 (by decide) dL_setLimit_15 (by decide) dL_setLimit_16 (so h) (Nat.le_of_ble_eq_true rfl) (Nat.le_of_ble_eq_true rfl))
    rw [if_neg c11] at h
    cases h
theorem c_L_setLimit (l : Launch) (hls : l.stackTraces = false) {S : mS} {a0 : Nat} {a1 : Int32} {a2 : Int32} {a3 : Nat} {o : Rs Int32} (h : f_L_setLimit S a0 a1 a2 a3 = some o) : CT (fun r : Int32 => some (.int r)) l yL_setLimit (.codeWith yL_setLimit cL_setLimit 5 (Option.some Jvm.ClassFile.FieldType.int) [((0 : Nat), (10 : Nat), (13 : Nat), (13 : Nat))]) rm_L_setLimit S [.ref a0, .int a1, .int a2, .ref a3] o := ct_ofH (by decide +kernel) hls (Nat.le_of_ble_eq_true rfl) (fun C hl hC hE => t_L_setLimit hls hC hl hE h)
abbrev rm_L_strobe : Room := { frames := 12, cells := 1, slots := 6, locals := 238 }
abbrev hh_L_strobe : List (Nat × Nat × Nat × Nat) := [((0 : Nat), (10 : Nat), (13 : Nat), (13 : Nat))]
def f_L_strobe (S : mS) (a0 : Nat) (a1 : Int32) (a2 : Int32) (a3 : Nat) : Option (Rs Int32) :=
  gd (gK S a0 = 16) (bdc (f_X10_strobe S a0 a1 a2) (fun E S => if E = "java/lang/IllegalArgumentException" then some (.inl (1 : Int32), S) else none) fun x2 S3 => lt9 ((x2).toInt64) fun x6 => gd (gK S3 a3 = 38) (gd (¬ ((0 : Int32) < 0 ∨ gZ S3 a3 ≤ ((0 : Int32)).toNatClampNeg)) (zL (sL S3 a3 ((0 : Int32)).toNatClampNeg x6) fun S9 => some (.inl (0 : Int32), S9))))
set_option maxHeartbeats 2000000 in
set_option maxRecDepth 100000 in
theorem t_L_strobe {l : Launch} (hls : l.stackTraces = false) {C : cT} (hC : CX C cL_strobe 5 yL_strobe rm_L_strobe) (hl : C.2.1 = l) {S0 : mS} (hE : CE C S0 (Option.some Jvm.ClassFile.FieldType.int) (tableOf hh_L_strobe)) {o : Rs Int32} {S : mS} {a0 : Nat} {a1 : Int32} {a2 : Int32} {a3 : Nat} (h : f_L_strobe S a0 a1 a2 a3 = some o) : XX C 5 (QQ C (fun r : Int32 => some (.int r)) S0 o) 0 0 S 0 [(0, .ref a0), (1, .int a1), (2, .int a2), (3, .ref a3)] [] := by
  unfold f_L_strobe at h
  refine x_aload_n (pc := 0) hC 3 dL_strobe_0 rfl rfl ?_
  refine x_iconst (pc := 1) (v := (0 : Int32)) hC dL_strobe_1 (by decide) ?_
  refine x_aload_n (pc := 2) hC 0 dL_strobe_2 rfl rfl ?_
  refine x_iload_n (pc := 3) hC 1 dL_strobe_3 rfl rfl ?_
  refine x_iload_n (pc := 4) hC 2 dL_strobe_4 rfl rfl ?_
  obtain ⟨g1, h⟩ := gd_some h
  obtain ⟨o4, ho4, h⟩ := bdc_some h
  refine x_callV (pc := 5) (As := [.int a1, .int a2]) (rest := [.int (0 : Int32), .ref a3]) hC hl (c_X10_strobe l hls ho4) lk_RL_140 fc_16 g1 dL_strobe_5 rfl rfl (Nat.le_of_ble_eq_true rfl) ⟨Nat.le_of_ble_eq_true rfl, Nat.le_of_ble_eq_true rfl⟩ ⟨(Nat.le_of_ble_eq_true rfl), (Nat.le_of_ble_eq_true rfl)⟩ ?_
  rcases o4 with ⟨x2 | E5, S3⟩
  · refine xk_i ?_
    replace h := bdc_l h
    refine x_i2lv (pc := 8) hC dL_strobe_8 (fun x6 hx6 => ?_)
    replace h := lt_x hx6 h
    obtain ⟨g8, h⟩ := gd_some h
    obtain ⟨g7, h⟩ := gd_some h
    refine x_lastv (pc := 9) hC dL_strobe_9 g8 g7 (fun S9 hS9 => ?_)
    replace h := zL_x hS9 h
    have g10 : gK S9 a3 = 38 := by rw [hS9]; exact g8
    refine x_goto (pc := 10) hC 17 dL_strobe_10 (by decide) ?_
    refine x_iconst (pc := 17) (v := (0 : Int32)) hC dL_strobe_17 (by decide) ?_
    exact x_ireturn (pc := 18) hC hE dL_strobe_18 (so h) (Nat.le_of_ble_eq_true rfl) (Nat.le_of_ble_eq_true rfl)
  · replace h := bdc_r h
    by_cases c11 : E5 = "java/lang/IllegalArgumentException"
    · rw [if_pos c11] at h
      subst c11
      exact xk_r (xt_catch hC hE [] ⟨0, 10, 13, 13⟩ [] rfl (fun _ hz => nomatch hz) (by decide) (by decide) wm_885 wm_902 rfl dL_strobe_13 (by decide) dL_strobe_15 (by decide) dL_strobe_16 (so h) (Nat.le_of_ble_eq_true rfl) (Nat.le_of_ble_eq_true rfl))
    rw [if_neg c11] at h
    cases h
theorem c_L_strobe (l : Launch) (hls : l.stackTraces = false) {S : mS} {a0 : Nat} {a1 : Int32} {a2 : Int32} {a3 : Nat} {o : Rs Int32} (h : f_L_strobe S a0 a1 a2 a3 = some o) : CT (fun r : Int32 => some (.int r)) l yL_strobe (.codeWith yL_strobe cL_strobe 5 (Option.some Jvm.ClassFile.FieldType.int) [((0 : Nat), (10 : Nat), (13 : Nat), (13 : Nat))]) rm_L_strobe S [.ref a0, .int a1, .int a2, .ref a3] o := ct_ofH (by decide +kernel) hls (Nat.le_of_ble_eq_true rfl) (fun C hl hC hE => t_L_strobe hls hC hl hE h)
abbrev rm_L_light : Room := { frames := 12, cells := 1, slots := 6, locals := 238 }
abbrev hh_L_light : List (Nat × Nat × Nat × Nat) := [((0 : Nat), (8 : Nat), (11 : Nat), (83 : Nat))]
def f_L_light (S : mS) (a0 : Nat) (a1 : Nat) : Option (Rs Int32) :=
  gd (gK S a0 = 16) (bdc (f_X10_light S a0) (fun E S => if E = "java/util/NoSuchElementException" then some (.inl (1 : Int32), S) else none) fun x2 S3 => lt9 ((x2).toInt64) fun x6 => gd (gK S3 a1 = 38) (gd (¬ ((0 : Int32) < 0 ∨ gZ S3 a1 ≤ ((0 : Int32)).toNatClampNeg)) (zL (sL S3 a1 ((0 : Int32)).toNatClampNeg x6) fun S9 => some (.inl (0 : Int32), S9))))
set_option maxHeartbeats 2000000 in
set_option maxRecDepth 100000 in
theorem t_L_light {l : Launch} (hls : l.stackTraces = false) {C : cT} (hC : CX C cL_light 3 yL_light rm_L_light) (hl : C.2.1 = l) {S0 : mS} (hE : CE C S0 (Option.some Jvm.ClassFile.FieldType.int) (tableOf hh_L_light)) {o : Rs Int32} {S : mS} {a0 : Nat} {a1 : Nat} (h : f_L_light S a0 a1 = some o) : XX C 3 (QQ C (fun r : Int32 => some (.int r)) S0 o) 0 0 S 0 [(0, .ref a0), (1, .ref a1)] [] := by
  unfold f_L_light at h
  refine x_aload_n (pc := 0) hC 1 dL_light_0 rfl rfl ?_
  refine x_iconst (pc := 1) (v := (0 : Int32)) hC dL_light_1 (by decide) ?_
  refine x_aload_n (pc := 2) hC 0 dL_light_2 rfl rfl ?_
  obtain ⟨g1, h⟩ := gd_some h
  obtain ⟨o4, ho4, h⟩ := bdc_some h
  refine x_callV (pc := 3) (As := []) (rest := [.int (0 : Int32), .ref a1]) hC hl (c_X10_light l hls ho4) lk_RL_143 fc_16 g1 dL_light_3 rfl rfl (Nat.le_of_ble_eq_true rfl) ⟨Nat.le_of_ble_eq_true rfl, Nat.le_of_ble_eq_true rfl⟩ ⟨(Nat.le_of_ble_eq_true rfl), (Nat.le_of_ble_eq_true rfl)⟩ ?_
  rcases o4 with ⟨x2 | E5, S3⟩
  · refine xk_i ?_
    replace h := bdc_l h
    refine x_i2lv (pc := 6) hC dL_light_6 (fun x6 hx6 => ?_)
    replace h := lt_x hx6 h
    obtain ⟨g8, h⟩ := gd_some h
    obtain ⟨g7, h⟩ := gd_some h
    refine x_lastv (pc := 7) hC dL_light_7 g8 g7 (fun S9 hS9 => ?_)
    replace h := zL_x hS9 h
    have g10 : gK S9 a1 = 38 := by rw [hS9]; exact g8
    refine x_goto (pc := 8) hC 14 dL_light_8 (by decide) ?_
    refine x_iconst (pc := 14) (v := (0 : Int32)) hC dL_light_14 (by decide) ?_
    exact x_ireturn (pc := 15) hC hE dL_light_15 (so h) (Nat.le_of_ble_eq_true rfl) (Nat.le_of_ble_eq_true rfl)
  · replace h := bdc_r h
    by_cases c11 : E5 = "java/util/NoSuchElementException"
    · rw [if_pos c11] at h
      subst c11
      exact xk_r (xt_catch_n hC hE [] ⟨0, 8, 11, 83⟩ [] rfl (fun _ hz => nomatch hz) (by decide) (by decide) wm_1209 wm_1216 rfl dL_light_11 rfl (by decide) dL_light_12 (by decide) dL_light_13 (so h) (Nat.le_of_ble_eq_true rfl) (Nat.le_of_ble_eq_true rfl))
    rw [if_neg c11] at h
    cases h
theorem c_L_light (l : Launch) (hls : l.stackTraces = false) {S : mS} {a0 : Nat} {a1 : Nat} {o : Rs Int32} (h : f_L_light S a0 a1 = some o) : CT (fun r : Int32 => some (.int r)) l yL_light (.codeWith yL_light cL_light 3 (Option.some Jvm.ClassFile.FieldType.int) [((0 : Nat), (8 : Nat), (11 : Nat), (83 : Nat))]) rm_L_light S [.ref a0, .ref a1] o := ct_ofH (by decide +kernel) hls (Nat.le_of_ble_eq_true rfl) (fun C hl hC hE => t_L_light hls hC hl hE h)
abbrev rm_L_next : Room := { frames := 13, cells := 4, slots := 24, locals := 262 }
abbrev hh_L_next : List (Nat × Nat × Nat × Nat) := [((0 : Nat), (10 : Nat), (13 : Nat), (21 : Nat)), ((0 : Nat), (10 : Nat), (17 : Nat), (13 : Nat)), ((0 : Nat), (10 : Nat), (21 : Nat), (23 : Nat)), ((0 : Nat), (10 : Nat), (25 : Nat), (83 : Nat))]
def f_L_next (S : mS) (a0 : Nat) (a1 : Int32) (a2 : Int32) (a3 : Nat) : Option (Rs Int32) :=
  gd (gK S a0 = 16) (bdc (f_X10_next S a0 a1 a2) (fun E S => if E = "java/lang/IndexOutOfBoundsException" then some (.inl (1 : Int32), S) else if E = "java/lang/IllegalArgumentException" then some (.inl (2 : Int32), S) else if E = "java/lang/UnsupportedOperationException" then some (.inl (3 : Int32), S) else if E = "java/util/NoSuchElementException" then some (.inl (4 : Int32), S) else none) fun x2 S3 => lt9 ((x2).toInt64) fun x6 => gd (gK S3 a3 = 38) (gd (¬ ((0 : Int32) < 0 ∨ gZ S3 a3 ≤ ((0 : Int32)).toNatClampNeg)) (zL (sL S3 a3 ((0 : Int32)).toNatClampNeg x6) fun S9 => some (.inl (0 : Int32), S9))))
set_option maxHeartbeats 2000000 in
set_option maxRecDepth 100000 in
theorem t_L_next {l : Launch} (hls : l.stackTraces = false) {C : cT} (hC : CX C cL_next 5 yL_next rm_L_next) (hl : C.2.1 = l) {S0 : mS} (hE : CE C S0 (Option.some Jvm.ClassFile.FieldType.int) (tableOf hh_L_next)) {o : Rs Int32} {S : mS} {a0 : Nat} {a1 : Int32} {a2 : Int32} {a3 : Nat} (h : f_L_next S a0 a1 a2 a3 = some o) : XX C 5 (QQ C (fun r : Int32 => some (.int r)) S0 o) 0 0 S 0 [(0, .ref a0), (1, .int a1), (2, .int a2), (3, .ref a3)] [] := by
  unfold f_L_next at h
  refine x_aload_n (pc := 0) hC 3 dL_next_0 rfl rfl ?_
  refine x_iconst (pc := 1) (v := (0 : Int32)) hC dL_next_1 (by decide) ?_
  refine x_aload_n (pc := 2) hC 0 dL_next_2 rfl rfl ?_
  refine x_iload_n (pc := 3) hC 1 dL_next_3 rfl rfl ?_
  refine x_iload_n (pc := 4) hC 2 dL_next_4 rfl rfl ?_
  obtain ⟨g1, h⟩ := gd_some h
  obtain ⟨o4, ho4, h⟩ := bdc_some h
  refine x_callV (pc := 5) (As := [.int a1, .int a2]) (rest := [.int (0 : Int32), .ref a3]) hC hl (c_X10_next l hls ho4) lk_RL_147 fc_16 g1 dL_next_5 rfl rfl (Nat.le_of_ble_eq_true rfl) ⟨Nat.le_of_ble_eq_true rfl, Nat.le_of_ble_eq_true rfl⟩ ⟨(Nat.le_of_ble_eq_true rfl), (Nat.le_of_ble_eq_true rfl)⟩ ?_
  rcases o4 with ⟨x2 | E5, S3⟩
  · refine xk_i ?_
    replace h := bdc_l h
    refine x_i2lv (pc := 8) hC dL_next_8 (fun x6 hx6 => ?_)
    replace h := lt_x hx6 h
    obtain ⟨g8, h⟩ := gd_some h
    obtain ⟨g7, h⟩ := gd_some h
    refine x_lastv (pc := 9) hC dL_next_9 g8 g7 (fun S9 hS9 => ?_)
    replace h := zL_x hS9 h
    have g10 : gK S9 a3 = 38 := by rw [hS9]; exact g8
    refine x_goto (pc := 10) hC 29 dL_next_10 (by decide) ?_
    refine x_iconst (pc := 29) (v := (0 : Int32)) hC dL_next_29 (by decide) ?_
    exact x_ireturn (pc := 30) hC hE dL_next_30 (so h) (Nat.le_of_ble_eq_true rfl) (Nat.le_of_ble_eq_true rfl)
  · replace h := bdc_r h
    by_cases c11 : E5 = "java/lang/IndexOutOfBoundsException"
    · rw [if_pos c11] at h
      subst c11
      exact xk_r (xt_catch hC hE [] ⟨0, 10, 13, 21⟩ [⟨0, 10, 17, 13⟩, ⟨0, 10, 21, 23⟩, ⟨0, 10, 25, 83⟩] rfl (fun _ hz => nomatch hz) (by decide) (by decide) wm_1001 wm_1036 rfl dL_next_13 (by decide) dL_next_15 (by decide) dL_next_16 (so h) (Nat.le_of_ble_eq_true rfl) (Nat.le_of_ble_eq_true rfl))
    rw [if_neg c11] at h
    by_cases c12 : E5 = "java/lang/IllegalArgumentException"
    · rw [if_pos c12] at h
      subst c12
      exact xk_r (xt_catch hC hE [⟨0, 10, 13, 21⟩] ⟨0, 10, 17, 13⟩ [⟨0, 10, 21, 23⟩, ⟨0, 10, 25, 83⟩] rfl (List.forall_mem_cons.mpr ⟨Or.inr ⟨by decide, "java/lang/IndexOutOfBoundsException", wm_1001, by decide⟩, (fun _ hz => nomatch hz)⟩) (by decide) (by decide) wm_885 wm_902 rfl dL_next_17 (by decide) dL_next_19 (by decide) dL_next_20 (so h) (Nat.le_of_ble_eq_true rfl) (Nat.le_of_ble_eq_true rfl))
    rw [if_neg c12] at h
    by_cases c13 : E5 = "java/lang/UnsupportedOperationException"
    · rw [if_pos c13] at h
      subst c13
      exact xk_r (xt_catch hC hE [⟨0, 10, 13, 21⟩, ⟨0, 10, 17, 13⟩] ⟨0, 10, 21, 23⟩ [⟨0, 10, 25, 83⟩] rfl (List.forall_mem_cons.mpr ⟨Or.inr ⟨by decide, "java/lang/IndexOutOfBoundsException", wm_1001, by decide⟩, (List.forall_mem_cons.mpr ⟨Or.inr ⟨by decide, "java/lang/IllegalArgumentException", wm_885, by decide⟩, (fun _ hz => nomatch hz)⟩)⟩) (by decide) (by decide) wm_1025 wm_1050 rfl dL_next_21 (by decide) dL_next_23 (by decide) dL_next_24 (so h) (Nat.le_of_ble_eq_true rfl) (Nat.le_of_ble_eq_true rfl))
    rw [if_neg c13] at h
    by_cases c14 : E5 = "java/util/NoSuchElementException"
    · rw [if_pos c14] at h
      subst c14
      exact xk_r (xt_catch hC hE [⟨0, 10, 13, 21⟩, ⟨0, 10, 17, 13⟩, ⟨0, 10, 21, 23⟩] ⟨0, 10, 25, 83⟩ [] rfl (List.forall_mem_cons.mpr ⟨Or.inr ⟨by decide, "java/lang/IndexOutOfBoundsException", wm_1001, by decide⟩, (List.forall_mem_cons.mpr ⟨Or.inr ⟨by decide, "java/lang/IllegalArgumentException", wm_885, by decide⟩, (List.forall_mem_cons.mpr ⟨Or.inr ⟨by decide, "java/lang/UnsupportedOperationException", wm_1025, by decide⟩, (fun _ hz => nomatch hz)⟩)⟩)⟩) (by decide) (by decide) wm_1209 wm_1216 rfl dL_next_25 (by decide) dL_next_27 (by decide) dL_next_28 (so h) (Nat.le_of_ble_eq_true rfl) (Nat.le_of_ble_eq_true rfl))
    rw [if_neg c14] at h
    cases h
theorem c_L_next (l : Launch) (hls : l.stackTraces = false) {S : mS} {a0 : Nat} {a1 : Int32} {a2 : Int32} {a3 : Nat} {o : Rs Int32} (h : f_L_next S a0 a1 a2 a3 = some o) : CT (fun r : Int32 => some (.int r)) l yL_next (.codeWith yL_next cL_next 5 (Option.some Jvm.ClassFile.FieldType.int) [((0 : Nat), (10 : Nat), (13 : Nat), (21 : Nat)), ((0 : Nat), (10 : Nat), (17 : Nat), (13 : Nat)), ((0 : Nat), (10 : Nat), (21 : Nat), (23 : Nat)), ((0 : Nat), (10 : Nat), (25 : Nat), (83 : Nat))]) rm_L_next S [.ref a0, .int a1, .int a2, .ref a3] o := ct_ofH (by decide +kernel) hls (Nat.le_of_ble_eq_true rfl) (fun C hl hC hE => t_L_next hls hC hl hE h)
abbrev rm_L_cost : Room := { frames := 13, cells := 4, slots := 24, locals := 262 }
abbrev hh_L_cost : List (Nat × Nat × Nat × Nat) := [((0 : Nat), (10 : Nat), (13 : Nat), (21 : Nat)), ((0 : Nat), (10 : Nat), (17 : Nat), (13 : Nat)), ((0 : Nat), (10 : Nat), (21 : Nat), (23 : Nat)), ((0 : Nat), (10 : Nat), (25 : Nat), (83 : Nat))]
def f_L_cost (S : mS) (a0 : Nat) (a1 : Int32) (a2 : Int32) (a3 : Nat) : Option (Rs Int32) :=
  gd (gK S a0 = 16) (bdc (f_X10_cost S a0 a1 a2) (fun E S => if E = "java/lang/IndexOutOfBoundsException" then some (.inl (1 : Int32), S) else if E = "java/lang/IllegalArgumentException" then some (.inl (2 : Int32), S) else if E = "java/lang/UnsupportedOperationException" then some (.inl (3 : Int32), S) else if E = "java/util/NoSuchElementException" then some (.inl (4 : Int32), S) else none) fun x2 S3 => lt9 ((x2).toInt64) fun x6 => gd (gK S3 a3 = 38) (gd (¬ ((0 : Int32) < 0 ∨ gZ S3 a3 ≤ ((0 : Int32)).toNatClampNeg)) (zL (sL S3 a3 ((0 : Int32)).toNatClampNeg x6) fun S9 => some (.inl (0 : Int32), S9))))
set_option maxHeartbeats 2000000 in
set_option maxRecDepth 100000 in
theorem t_L_cost {l : Launch} (hls : l.stackTraces = false) {C : cT} (hC : CX C cL_cost 5 yL_cost rm_L_cost) (hl : C.2.1 = l) {S0 : mS} (hE : CE C S0 (Option.some Jvm.ClassFile.FieldType.int) (tableOf hh_L_cost)) {o : Rs Int32} {S : mS} {a0 : Nat} {a1 : Int32} {a2 : Int32} {a3 : Nat} (h : f_L_cost S a0 a1 a2 a3 = some o) : XX C 5 (QQ C (fun r : Int32 => some (.int r)) S0 o) 0 0 S 0 [(0, .ref a0), (1, .int a1), (2, .int a2), (3, .ref a3)] [] := by
  unfold f_L_cost at h
  refine x_aload_n (pc := 0) hC 3 dL_cost_0 rfl rfl ?_
  refine x_iconst (pc := 1) (v := (0 : Int32)) hC dL_cost_1 (by decide) ?_
  refine x_aload_n (pc := 2) hC 0 dL_cost_2 rfl rfl ?_
  refine x_iload_n (pc := 3) hC 1 dL_cost_3 rfl rfl ?_
  refine x_iload_n (pc := 4) hC 2 dL_cost_4 rfl rfl ?_
  obtain ⟨g1, h⟩ := gd_some h
  obtain ⟨o4, ho4, h⟩ := bdc_some h
  refine x_callV (pc := 5) (As := [.int a1, .int a2]) (rest := [.int (0 : Int32), .ref a3]) hC hl (c_X10_cost l hls ho4) lk_RL_150 fc_16 g1 dL_cost_5 rfl rfl (Nat.le_of_ble_eq_true rfl) ⟨Nat.le_of_ble_eq_true rfl, Nat.le_of_ble_eq_true rfl⟩ ⟨(Nat.le_of_ble_eq_true rfl), (Nat.le_of_ble_eq_true rfl)⟩ ?_
  rcases o4 with ⟨x2 | E5, S3⟩
  · refine xk_i ?_
    replace h := bdc_l h
    refine x_i2lv (pc := 8) hC dL_cost_8 (fun x6 hx6 => ?_)
    replace h := lt_x hx6 h
    obtain ⟨g8, h⟩ := gd_some h
    obtain ⟨g7, h⟩ := gd_some h
    refine x_lastv (pc := 9) hC dL_cost_9 g8 g7 (fun S9 hS9 => ?_)
    replace h := zL_x hS9 h
    have g10 : gK S9 a3 = 38 := by rw [hS9]; exact g8
    refine x_goto (pc := 10) hC 29 dL_cost_10 (by decide) ?_
    refine x_iconst (pc := 29) (v := (0 : Int32)) hC dL_cost_29 (by decide) ?_
    exact x_ireturn (pc := 30) hC hE dL_cost_30 (so h) (Nat.le_of_ble_eq_true rfl) (Nat.le_of_ble_eq_true rfl)
  · replace h := bdc_r h
    by_cases c11 : E5 = "java/lang/IndexOutOfBoundsException"
    · rw [if_pos c11] at h
      subst c11
      exact xk_r (xt_catch hC hE [] ⟨0, 10, 13, 21⟩ [⟨0, 10, 17, 13⟩, ⟨0, 10, 21, 23⟩, ⟨0, 10, 25, 83⟩] rfl (fun _ hz => nomatch hz) (by decide) (by decide) wm_1001 wm_1036 rfl dL_cost_13 (by decide) dL_cost_15 (by decide) dL_cost_16 (so h) (Nat.le_of_ble_eq_true rfl) (Nat.le_of_ble_eq_true rfl))
    rw [if_neg c11] at h
    by_cases c12 : E5 = "java/lang/IllegalArgumentException"
    · rw [if_pos c12] at h
      subst c12
      exact xk_r (xt_catch hC hE [⟨0, 10, 13, 21⟩] ⟨0, 10, 17, 13⟩ [⟨0, 10, 21, 23⟩, ⟨0, 10, 25, 83⟩] rfl (List.forall_mem_cons.mpr ⟨Or.inr ⟨by decide, "java/lang/IndexOutOfBoundsException", wm_1001, by decide⟩, (fun _ hz => nomatch hz)⟩) (by decide) (by decide) wm_885 wm_902 rfl dL_cost_17 (by decide) dL_cost_19 (by decide) dL_cost_20 (so h) (Nat.le_of_ble_eq_true rfl) (Nat.le_of_ble_eq_true rfl))
    rw [if_neg c12] at h
    by_cases c13 : E5 = "java/lang/UnsupportedOperationException"
    · rw [if_pos c13] at h
      subst c13
      exact xk_r (xt_catch hC hE [⟨0, 10, 13, 21⟩, ⟨0, 10, 17, 13⟩] ⟨0, 10, 21, 23⟩ [⟨0, 10, 25, 83⟩] rfl (List.forall_mem_cons.mpr ⟨Or.inr ⟨by decide, "java/lang/IndexOutOfBoundsException", wm_1001, by decide⟩, (List.forall_mem_cons.mpr ⟨Or.inr ⟨by decide, "java/lang/IllegalArgumentException", wm_885, by decide⟩, (fun _ hz => nomatch hz)⟩)⟩) (by decide) (by decide) wm_1025 wm_1050 rfl dL_cost_21 (by decide) dL_cost_23 (by decide) dL_cost_24 (so h) (Nat.le_of_ble_eq_true rfl) (Nat.le_of_ble_eq_true rfl))
    rw [if_neg c13] at h
    by_cases c14 : E5 = "java/util/NoSuchElementException"
    · rw [if_pos c14] at h
      subst c14
      exact xk_r (xt_catch hC hE [⟨0, 10, 13, 21⟩, ⟨0, 10, 17, 13⟩, ⟨0, 10, 21, 23⟩] ⟨0, 10, 25, 83⟩ [] rfl (List.forall_mem_cons.mpr ⟨Or.inr ⟨by decide, "java/lang/IndexOutOfBoundsException", wm_1001, by decide⟩, (List.forall_mem_cons.mpr ⟨Or.inr ⟨by decide, "java/lang/IllegalArgumentException", wm_885, by decide⟩, (List.forall_mem_cons.mpr ⟨Or.inr ⟨by decide, "java/lang/UnsupportedOperationException", wm_1025, by decide⟩, (fun _ hz => nomatch hz)⟩)⟩)⟩) (by decide) (by decide) wm_1209 wm_1216 rfl dL_cost_25 (by decide) dL_cost_27 (by decide) dL_cost_28 (so h) (Nat.le_of_ble_eq_true rfl) (Nat.le_of_ble_eq_true rfl))
    rw [if_neg c14] at h
    cases h
theorem c_L_cost (l : Launch) (hls : l.stackTraces = false) {S : mS} {a0 : Nat} {a1 : Int32} {a2 : Int32} {a3 : Nat} {o : Rs Int32} (h : f_L_cost S a0 a1 a2 a3 = some o) : CT (fun r : Int32 => some (.int r)) l yL_cost (.codeWith yL_cost cL_cost 5 (Option.some Jvm.ClassFile.FieldType.int) [((0 : Nat), (10 : Nat), (13 : Nat), (21 : Nat)), ((0 : Nat), (10 : Nat), (17 : Nat), (13 : Nat)), ((0 : Nat), (10 : Nat), (21 : Nat), (23 : Nat)), ((0 : Nat), (10 : Nat), (25 : Nat), (83 : Nat))]) rm_L_cost S [.ref a0, .int a1, .int a2, .ref a3] o := ct_ofH (by decide +kernel) hls (Nat.le_of_ble_eq_true rfl) (fun C hl hC hE => t_L_cost hls hC hl hE h)
abbrev rm_L_type : Room := { frames := 10, cells := 1, slots := 6, locals := 192 }
abbrev hh_L_type : List (Nat × Nat × Nat × Nat) := [((0 : Nat), (9 : Nat), (12 : Nat), (15 : Nat))]
def f_L_type (S : mS) (a0 : Nat) (a1 : Int32) (a2 : Nat) : Option (Rs Int32) :=
  gd (gK S a0 = 16) (bdc (f_X10_type S a0 a1) (fun E S => if E = "java/lang/IllegalStateException" then some (.inl (1 : Int32), S) else none) fun x2 S3 => lt9 ((x2).toInt64) fun x6 => gd (gK S3 a2 = 38) (gd (¬ ((0 : Int32) < 0 ∨ gZ S3 a2 ≤ ((0 : Int32)).toNatClampNeg)) (zL (sL S3 a2 ((0 : Int32)).toNatClampNeg x6) fun S9 => some (.inl (0 : Int32), S9))))
set_option maxHeartbeats 2000000 in
set_option maxRecDepth 100000 in
theorem t_L_type {l : Launch} (hls : l.stackTraces = false) {C : cT} (hC : CX C cL_type 4 yL_type rm_L_type) (hl : C.2.1 = l) {S0 : mS} (hE : CE C S0 (Option.some Jvm.ClassFile.FieldType.int) (tableOf hh_L_type)) {o : Rs Int32} {S : mS} {a0 : Nat} {a1 : Int32} {a2 : Nat} (h : f_L_type S a0 a1 a2 = some o) : XX C 4 (QQ C (fun r : Int32 => some (.int r)) S0 o) 0 0 S 0 [(0, .ref a0), (1, .int a1), (2, .ref a2)] [] := by
  unfold f_L_type at h
  refine x_aload_n (pc := 0) hC 2 dL_type_0 rfl rfl ?_
  refine x_iconst (pc := 1) (v := (0 : Int32)) hC dL_type_1 (by decide) ?_
  refine x_aload_n (pc := 2) hC 0 dL_type_2 rfl rfl ?_
  refine x_iload_n (pc := 3) hC 1 dL_type_3 rfl rfl ?_
  obtain ⟨g1, h⟩ := gd_some h
  obtain ⟨o4, ho4, h⟩ := bdc_some h
  refine x_callV (pc := 4) (As := [.int a1]) (rest := [.int (0 : Int32), .ref a2]) hC hl (c_X10_type l hls ho4) lk_RL_153 fc_16 g1 dL_type_4 rfl rfl (Nat.le_of_ble_eq_true rfl) ⟨Nat.le_of_ble_eq_true rfl, Nat.le_of_ble_eq_true rfl⟩ ⟨(Nat.le_of_ble_eq_true rfl), (Nat.le_of_ble_eq_true rfl)⟩ ?_
  rcases o4 with ⟨x2 | E5, S3⟩
  · refine xk_i ?_
    replace h := bdc_l h
    refine x_i2lv (pc := 7) hC dL_type_7 (fun x6 hx6 => ?_)
    replace h := lt_x hx6 h
    obtain ⟨g8, h⟩ := gd_some h
    obtain ⟨g7, h⟩ := gd_some h
    refine x_lastv (pc := 8) hC dL_type_8 g8 g7 (fun S9 hS9 => ?_)
    replace h := zL_x hS9 h
    have g10 : gK S9 a2 = 38 := by rw [hS9]; exact g8
    refine x_goto (pc := 9) hC 15 dL_type_9 (by decide) ?_
    refine x_iconst (pc := 15) (v := (0 : Int32)) hC dL_type_15 (by decide) ?_
    exact x_ireturn (pc := 16) hC hE dL_type_16 (so h) (Nat.le_of_ble_eq_true rfl) (Nat.le_of_ble_eq_true rfl)
  · replace h := bdc_r h
    by_cases c11 : E5 = "java/lang/IllegalStateException"
    · rw [if_pos c11] at h
      subst c11
      exact xk_r (xt_catch_n hC hE [] ⟨0, 9, 12, 15⟩ [] rfl (fun _ hz => nomatch hz) (by decide) (by decide) wm_886 wm_975 rfl dL_type_12 rfl (by decide) dL_type_13 (by decide) dL_type_14 (so h) (Nat.le_of_ble_eq_true rfl) (Nat.le_of_ble_eq_true rfl))
    rw [if_neg c11] at h
    cases h
theorem c_L_type (l : Launch) (hls : l.stackTraces = false) {S : mS} {a0 : Nat} {a1 : Int32} {a2 : Nat} {o : Rs Int32} (h : f_L_type S a0 a1 a2 = some o) : CT (fun r : Int32 => some (.int r)) l yL_type (.codeWith yL_type cL_type 4 (Option.some Jvm.ClassFile.FieldType.int) [((0 : Nat), (9 : Nat), (12 : Nat), (15 : Nat))]) rm_L_type S [.ref a0, .int a1, .ref a2] o := ct_ofH (by decide +kernel) hls (Nat.le_of_ble_eq_true rfl) (fun C hl hC hE => t_L_type hls hC hl hE h)
abbrev rm_L_perform : Room := { frames := 15, cells := 1, slots := 6, locals := 312 }
abbrev hh_L_perform : List (Nat × Nat × Nat × Nat) := [((0 : Nat), (8 : Nat), (11 : Nat), (13 : Nat)), ((0 : Nat), (8 : Nat), (14 : Nat), (23 : Nat))]
def f_L_perform (S : mS) (a0 : Nat) (a1 : Nat) : Option (Rs Int32) :=
  gd (gK S a0 = 16) (bdc (f_X10_perform S a0) (fun E S => if E = "java/lang/IllegalArgumentException" then some (.inl (1 : Int32), S) else if E = "java/lang/UnsupportedOperationException" then some (.inl (2 : Int32), S) else none) fun x2 S3 => lt9 ((x2).toInt64) fun x6 => gd (gK S3 a1 = 38) (gd (¬ ((0 : Int32) < 0 ∨ gZ S3 a1 ≤ ((0 : Int32)).toNatClampNeg)) (zL (sL S3 a1 ((0 : Int32)).toNatClampNeg x6) fun S9 => some (.inl (0 : Int32), S9))))
set_option maxHeartbeats 2000000 in
set_option maxRecDepth 100000 in
theorem t_L_perform {l : Launch} (hls : l.stackTraces = false) {C : cT} (hC : CX C cL_perform 3 yL_perform rm_L_perform) (hl : C.2.1 = l) {S0 : mS} (hE : CE C S0 (Option.some Jvm.ClassFile.FieldType.int) (tableOf hh_L_perform)) {o : Rs Int32} {S : mS} {a0 : Nat} {a1 : Nat} (h : f_L_perform S a0 a1 = some o) : XX C 3 (QQ C (fun r : Int32 => some (.int r)) S0 o) 0 0 S 0 [(0, .ref a0), (1, .ref a1)] [] := by
  unfold f_L_perform at h
  refine x_aload_n (pc := 0) hC 1 dL_perform_0 rfl rfl ?_
  refine x_iconst (pc := 1) (v := (0 : Int32)) hC dL_perform_1 (by decide) ?_
  refine x_aload_n (pc := 2) hC 0 dL_perform_2 rfl rfl ?_
  obtain ⟨g1, h⟩ := gd_some h
  obtain ⟨o4, ho4, h⟩ := bdc_some h
  refine x_callV (pc := 3) (As := []) (rest := [.int (0 : Int32), .ref a1]) hC hl (c_X10_perform l hls ho4) lk_RL_156 fc_16 g1 dL_perform_3 rfl rfl (Nat.le_of_ble_eq_true rfl) ⟨Nat.le_of_ble_eq_true rfl, Nat.le_of_ble_eq_true rfl⟩ ⟨(Nat.le_of_ble_eq_true rfl), (Nat.le_of_ble_eq_true rfl)⟩ ?_
  rcases o4 with ⟨x2 | E5, S3⟩
  · refine xk_i ?_
    replace h := bdc_l h
    refine x_i2lv (pc := 6) hC dL_perform_6 (fun x6 hx6 => ?_)
    replace h := lt_x hx6 h
    obtain ⟨g8, h⟩ := gd_some h
    obtain ⟨g7, h⟩ := gd_some h
    refine x_lastv (pc := 7) hC dL_perform_7 g8 g7 (fun S9 hS9 => ?_)
    replace h := zL_x hS9 h
    have g10 : gK S9 a1 = 38 := by rw [hS9]; exact g8
    refine x_goto (pc := 8) hC 17 dL_perform_8 (by decide) ?_
    refine x_iconst (pc := 17) (v := (0 : Int32)) hC dL_perform_17 (by decide) ?_
    exact x_ireturn (pc := 18) hC hE dL_perform_18 (so h) (Nat.le_of_ble_eq_true rfl) (Nat.le_of_ble_eq_true rfl)
  · replace h := bdc_r h
    by_cases c11 : E5 = "java/lang/IllegalArgumentException"
    · rw [if_pos c11] at h
      subst c11
      exact xk_r (xt_catch_n hC hE [] ⟨0, 8, 11, 13⟩ [⟨0, 8, 14, 23⟩] rfl (fun _ hz => nomatch hz) (by decide) (by decide) wm_885 wm_902 rfl dL_perform_11 rfl (by decide) dL_perform_12 (by decide) dL_perform_13 (so h) (Nat.le_of_ble_eq_true rfl) (Nat.le_of_ble_eq_true rfl))
    rw [if_neg c11] at h
    by_cases c12 : E5 = "java/lang/UnsupportedOperationException"
    · rw [if_pos c12] at h
      subst c12
      exact xk_r (xt_catch_n hC hE [⟨0, 8, 11, 13⟩] ⟨0, 8, 14, 23⟩ [] rfl (List.forall_mem_cons.mpr ⟨Or.inr ⟨by decide, "java/lang/IllegalArgumentException", wm_885, by decide⟩, (fun _ hz => nomatch hz)⟩) (by decide) (by decide) wm_1025 wm_1050 rfl dL_perform_14 rfl (by decide) dL_perform_15 (by decide) dL_perform_16 (so h) (Nat.le_of_ble_eq_true rfl) (Nat.le_of_ble_eq_true rfl))
    rw [if_neg c12] at h
    cases h
theorem c_L_perform (l : Launch) (hls : l.stackTraces = false) {S : mS} {a0 : Nat} {a1 : Nat} {o : Rs Int32} (h : f_L_perform S a0 a1 = some o) : CT (fun r : Int32 => some (.int r)) l yL_perform (.codeWith yL_perform cL_perform 3 (Option.some Jvm.ClassFile.FieldType.int) [((0 : Nat), (8 : Nat), (11 : Nat), (13 : Nat)), ((0 : Nat), (8 : Nat), (14 : Nat), (23 : Nat))]) rm_L_perform S [.ref a0, .ref a1] o := ct_ofH (by decide +kernel) hls (Nat.le_of_ble_eq_true rfl) (fun C hl hC hE => t_L_perform hls hC hl hE h)
abbrev rm_L_cause : Room := { frames := 10, cells := 1, slots := 6, locals := 192 }
abbrev hh_L_cause : List (Nat × Nat × Nat × Nat) := [((0 : Nat), (9 : Nat), (12 : Nat), (83 : Nat))]
def f_L_cause (S : mS) (a0 : Nat) (a1 : Int32) (a2 : Nat) : Option (Rs Int32) :=
  gd (gK S a0 = 16) (bdc (f_X10_cause S a0 a1) (fun E S => if E = "java/util/NoSuchElementException" then some (.inl (1 : Int32), S) else none) fun x2 S3 => lt9 ((x2).toInt64) fun x6 => gd (gK S3 a2 = 38) (gd (¬ ((0 : Int32) < 0 ∨ gZ S3 a2 ≤ ((0 : Int32)).toNatClampNeg)) (zL (sL S3 a2 ((0 : Int32)).toNatClampNeg x6) fun S9 => some (.inl (0 : Int32), S9))))
set_option maxHeartbeats 2000000 in
set_option maxRecDepth 100000 in
theorem t_L_cause {l : Launch} (hls : l.stackTraces = false) {C : cT} (hC : CX C cL_cause 4 yL_cause rm_L_cause) (hl : C.2.1 = l) {S0 : mS} (hE : CE C S0 (Option.some Jvm.ClassFile.FieldType.int) (tableOf hh_L_cause)) {o : Rs Int32} {S : mS} {a0 : Nat} {a1 : Int32} {a2 : Nat} (h : f_L_cause S a0 a1 a2 = some o) : XX C 4 (QQ C (fun r : Int32 => some (.int r)) S0 o) 0 0 S 0 [(0, .ref a0), (1, .int a1), (2, .ref a2)] [] := by
  unfold f_L_cause at h
  refine x_aload_n (pc := 0) hC 2 dL_cause_0 rfl rfl ?_
  refine x_iconst (pc := 1) (v := (0 : Int32)) hC dL_cause_1 (by decide) ?_
  refine x_aload_n (pc := 2) hC 0 dL_cause_2 rfl rfl ?_
  refine x_iload_n (pc := 3) hC 1 dL_cause_3 rfl rfl ?_
  obtain ⟨g1, h⟩ := gd_some h
  obtain ⟨o4, ho4, h⟩ := bdc_some h
  refine x_callV (pc := 4) (As := [.int a1]) (rest := [.int (0 : Int32), .ref a2]) hC hl (c_X10_cause l hls ho4) lk_RL_159 fc_16 g1 dL_cause_4 rfl rfl (Nat.le_of_ble_eq_true rfl) ⟨Nat.le_of_ble_eq_true rfl, Nat.le_of_ble_eq_true rfl⟩ ⟨(Nat.le_of_ble_eq_true rfl), (Nat.le_of_ble_eq_true rfl)⟩ ?_
  rcases o4 with ⟨x2 | E5, S3⟩
  · refine xk_i ?_
    replace h := bdc_l h
    refine x_i2lv (pc := 7) hC dL_cause_7 (fun x6 hx6 => ?_)
    replace h := lt_x hx6 h
    obtain ⟨g8, h⟩ := gd_some h
    obtain ⟨g7, h⟩ := gd_some h
    refine x_lastv (pc := 8) hC dL_cause_8 g8 g7 (fun S9 hS9 => ?_)
    replace h := zL_x hS9 h
    have g10 : gK S9 a2 = 38 := by rw [hS9]; exact g8
    refine x_goto (pc := 9) hC 15 dL_cause_9 (by decide) ?_
    refine x_iconst (pc := 15) (v := (0 : Int32)) hC dL_cause_15 (by decide) ?_
    exact x_ireturn (pc := 16) hC hE dL_cause_16 (so h) (Nat.le_of_ble_eq_true rfl) (Nat.le_of_ble_eq_true rfl)
  · replace h := bdc_r h
    by_cases c11 : E5 = "java/util/NoSuchElementException"
    · rw [if_pos c11] at h
      subst c11
      exact xk_r (xt_catch_n hC hE [] ⟨0, 9, 12, 83⟩ [] rfl (fun _ hz => nomatch hz) (by decide) (by decide) wm_1209 wm_1216 rfl dL_cause_12 rfl (by decide) dL_cause_13 (by decide) dL_cause_14 (so h) (Nat.le_of_ble_eq_true rfl) (Nat.le_of_ble_eq_true rfl))
    rw [if_neg c11] at h
    cases h
theorem c_L_cause (l : Launch) (hls : l.stackTraces = false) {S : mS} {a0 : Nat} {a1 : Int32} {a2 : Nat} {o : Rs Int32} (h : f_L_cause S a0 a1 a2 = some o) : CT (fun r : Int32 => some (.int r)) l yL_cause (.codeWith yL_cause cL_cause 4 (Option.some Jvm.ClassFile.FieldType.int) [((0 : Nat), (9 : Nat), (12 : Nat), (83 : Nat))]) rm_L_cause S [.ref a0, .int a1, .ref a2] o := ct_ofH (by decide +kernel) hls (Nat.le_of_ble_eq_true rfl) (fun C hl hC hE => t_L_cause hls hC hl hE h)
abbrev rm_L_causeNumber : Room := { frames := 10, cells := 1, slots := 6, locals := 192 }
abbrev hh_L_causeNumber : List (Nat × Nat × Nat × Nat) := [((0 : Nat), (9 : Nat), (12 : Nat), (83 : Nat))]
def f_L_causeNumber (S : mS) (a0 : Nat) (a1 : Int32) (a2 : Nat) : Option (Rs Int32) :=
  gd (gK S a0 = 16) (bdc (f_X10_causeNumber S a0 a1) (fun E S => if E = "java/util/NoSuchElementException" then some (.inl (1 : Int32), S) else none) fun x2 S3 => lt9 ((x2).toInt64) fun x6 => gd (gK S3 a2 = 38) (gd (¬ ((0 : Int32) < 0 ∨ gZ S3 a2 ≤ ((0 : Int32)).toNatClampNeg)) (zL (sL S3 a2 ((0 : Int32)).toNatClampNeg x6) fun S9 => some (.inl (0 : Int32), S9))))
set_option maxHeartbeats 2000000 in
set_option maxRecDepth 100000 in
theorem t_L_causeNumber {l : Launch} (hls : l.stackTraces = false) {C : cT} (hC : CX C cL_causeNumber 4 yL_causeNumber rm_L_causeNumber) (hl : C.2.1 = l) {S0 : mS} (hE : CE C S0 (Option.some Jvm.ClassFile.FieldType.int) (tableOf hh_L_causeNumber)) {o : Rs Int32} {S : mS} {a0 : Nat} {a1 : Int32} {a2 : Nat} (h : f_L_causeNumber S a0 a1 a2 = some o) : XX C 4 (QQ C (fun r : Int32 => some (.int r)) S0 o) 0 0 S 0 [(0, .ref a0), (1, .int a1), (2, .ref a2)] [] := by
  unfold f_L_causeNumber at h
  refine x_aload_n (pc := 0) hC 2 dL_causeNumber_0 rfl rfl ?_
  refine x_iconst (pc := 1) (v := (0 : Int32)) hC dL_causeNumber_1 (by decide) ?_
  refine x_aload_n (pc := 2) hC 0 dL_causeNumber_2 rfl rfl ?_
  refine x_iload_n (pc := 3) hC 1 dL_causeNumber_3 rfl rfl ?_
  obtain ⟨g1, h⟩ := gd_some h
  obtain ⟨o4, ho4, h⟩ := bdc_some h
  refine x_callV (pc := 4) (As := [.int a1]) (rest := [.int (0 : Int32), .ref a2]) hC hl (c_X10_causeNumber l hls ho4) lk_RL_163 fc_16 g1 dL_causeNumber_4 rfl rfl (Nat.le_of_ble_eq_true rfl) ⟨Nat.le_of_ble_eq_true rfl, Nat.le_of_ble_eq_true rfl⟩ ⟨(Nat.le_of_ble_eq_true rfl), (Nat.le_of_ble_eq_true rfl)⟩ ?_
  rcases o4 with ⟨x2 | E5, S3⟩
  · refine xk_i ?_
    replace h := bdc_l h
    refine x_i2lv (pc := 7) hC dL_causeNumber_7 (fun x6 hx6 => ?_)
    replace h := lt_x hx6 h
    obtain ⟨g8, h⟩ := gd_some h
    obtain ⟨g7, h⟩ := gd_some h
    refine x_lastv (pc := 8) hC dL_causeNumber_8 g8 g7 (fun S9 hS9 => ?_)
    replace h := zL_x hS9 h
    have g10 : gK S9 a2 = 38 := by rw [hS9]; exact g8
    refine x_goto (pc := 9) hC 15 dL_causeNumber_9 (by decide) ?_
    refine x_iconst (pc := 15) (v := (0 : Int32)) hC dL_causeNumber_15 (by decide) ?_
    exact x_ireturn (pc := 16) hC hE dL_causeNumber_16 (so h) (Nat.le_of_ble_eq_true rfl) (Nat.le_of_ble_eq_true rfl)
  · replace h := bdc_r h
    by_cases c11 : E5 = "java/util/NoSuchElementException"
    · rw [if_pos c11] at h
      subst c11
      exact xk_r (xt_catch_n hC hE [] ⟨0, 9, 12, 83⟩ [] rfl (fun _ hz => nomatch hz) (by decide) (by decide) wm_1209 wm_1216 rfl dL_causeNumber_12 rfl (by decide) dL_causeNumber_13 (by decide) dL_causeNumber_14 (so h) (Nat.le_of_ble_eq_true rfl) (Nat.le_of_ble_eq_true rfl))
    rw [if_neg c11] at h
    cases h
theorem c_L_causeNumber (l : Launch) (hls : l.stackTraces = false) {S : mS} {a0 : Nat} {a1 : Int32} {a2 : Nat} {o : Rs Int32} (h : f_L_causeNumber S a0 a1 a2 = some o) : CT (fun r : Int32 => some (.int r)) l yL_causeNumber (.codeWith yL_causeNumber cL_causeNumber 4 (Option.some Jvm.ClassFile.FieldType.int) [((0 : Nat), (9 : Nat), (12 : Nat), (83 : Nat))]) rm_L_causeNumber S [.ref a0, .int a1, .ref a2] o := ct_ofH (by decide +kernel) hls (Nat.le_of_ble_eq_true rfl) (fun C hl hC hE => t_L_causeNumber hls hC hl hE h)
abbrev rm_L_skip : Room := { frames := 12, cells := 3, slots := 18, locals := 239 }
abbrev hh_L_skip : List (Nat × Nat × Nat × Nat) := [((0 : Nat), (9 : Nat), (12 : Nat), (21 : Nat)), ((0 : Nat), (9 : Nat), (16 : Nat), (13 : Nat)), ((0 : Nat), (9 : Nat), (20 : Nat), (23 : Nat))]
def f_L_skip (S : mS) (a0 : Nat) (a1 : Int32) (a2 : Int32) (a3 : Nat) : Option (Rs Int32) :=
  gd (gK S a0 = 16) (bdc (f_X10_skip S a0 a1 a2) (fun E S => if E = "java/lang/IndexOutOfBoundsException" then some (.inl (1 : Int32), S) else if E = "java/lang/IllegalArgumentException" then some (.inl (2 : Int32), S) else if E = "java/lang/UnsupportedOperationException" then some (.inl (3 : Int32), S) else none) fun x2 S3 => gd (gK S3 a3 = 38) (gd (¬ ((0 : Int32) < 0 ∨ gZ S3 a3 ≤ ((0 : Int32)).toNatClampNeg)) (zL (sL S3 a3 ((0 : Int32)).toNatClampNeg x2) fun S8 => some (.inl (0 : Int32), S8))))
set_option maxHeartbeats 2000000 in
set_option maxRecDepth 100000 in
theorem t_L_skip {l : Launch} (hls : l.stackTraces = false) {C : cT} (hC : CX C cL_skip 5 yL_skip rm_L_skip) (hl : C.2.1 = l) {S0 : mS} (hE : CE C S0 (Option.some Jvm.ClassFile.FieldType.int) (tableOf hh_L_skip)) {o : Rs Int32} {S : mS} {a0 : Nat} {a1 : Int32} {a2 : Int32} {a3 : Nat} (h : f_L_skip S a0 a1 a2 a3 = some o) : XX C 5 (QQ C (fun r : Int32 => some (.int r)) S0 o) 0 0 S 0 [(0, .ref a0), (1, .int a1), (2, .int a2), (3, .ref a3)] [] := by
  unfold f_L_skip at h
  refine x_aload_n (pc := 0) hC 3 dL_skip_0 rfl rfl ?_
  refine x_iconst (pc := 1) (v := (0 : Int32)) hC dL_skip_1 (by decide) ?_
  refine x_aload_n (pc := 2) hC 0 dL_skip_2 rfl rfl ?_
  refine x_iload_n (pc := 3) hC 1 dL_skip_3 rfl rfl ?_
  refine x_iload_n (pc := 4) hC 2 dL_skip_4 rfl rfl ?_
  obtain ⟨g1, h⟩ := gd_some h
  obtain ⟨o4, ho4, h⟩ := bdc_some h
  refine x_callV (pc := 5) (As := [.int a1, .int a2]) (rest := [.int (0 : Int32), .ref a3]) hC hl (c_X10_skip l hls ho4) lk_RL_166 fc_16 g1 dL_skip_5 rfl rfl (Nat.le_of_ble_eq_true rfl) ⟨Nat.le_of_ble_eq_true rfl, Nat.le_of_ble_eq_true rfl⟩ ⟨(Nat.le_of_ble_eq_true rfl), (Nat.le_of_ble_eq_true rfl)⟩ ?_
  rcases o4 with ⟨x2 | E5, S3⟩
  · refine xk_j ?_
    replace h := bdc_l h
    obtain ⟨g7, h⟩ := gd_some h
    obtain ⟨g6, h⟩ := gd_some h
    refine x_lastv (pc := 8) hC dL_skip_8 g7 g6 (fun S8 hS8 => ?_)
    replace h := zL_x hS8 h
    have g9 : gK S8 a3 = 38 := by rw [hS8]; exact g7
    refine x_goto (pc := 9) hC 24 dL_skip_9 (by decide) ?_
    refine x_iconst (pc := 24) (v := (0 : Int32)) hC dL_skip_24 (by decide) ?_
    exact x_ireturn (pc := 25) hC hE dL_skip_25 (so h) (Nat.le_of_ble_eq_true rfl) (Nat.le_of_ble_eq_true rfl)
  · replace h := bdc_r h
    by_cases c10 : E5 = "java/lang/IndexOutOfBoundsException"
    · rw [if_pos c10] at h
      subst c10
      exact xk_r (xt_catch hC hE [] ⟨0, 9, 12, 21⟩ [⟨0, 9, 16, 13⟩, ⟨0, 9, 20, 23⟩] rfl (fun _ hz => nomatch hz) (by decide) (by decide) wm_1001 wm_1036 rfl dL_skip_12 (by decide) dL_skip_14 (by decide) dL_skip_15 (so h) (Nat.le_of_ble_eq_true rfl) (Nat.le_of_ble_eq_true rfl))
    rw [if_neg c10] at h
    by_cases c11 : E5 = "java/lang/IllegalArgumentException"
    · rw [if_pos c11] at h
      subst c11
      exact xk_r (xt_catch hC hE [⟨0, 9, 12, 21⟩] ⟨0, 9, 16, 13⟩ [⟨0, 9, 20, 23⟩] rfl (List.forall_mem_cons.mpr ⟨Or.inr ⟨by decide, "java/lang/IndexOutOfBoundsException", wm_1001, by decide⟩, (fun _ hz => nomatch hz)⟩) (by decide) (by decide) wm_885 wm_902 rfl dL_skip_16 (by decide) dL_skip_18 (by decide) dL_skip_19 (so h) (Nat.le_of_ble_eq_true rfl) (Nat.le_of_ble_eq_true rfl))
    rw [if_neg c11] at h
    by_cases c12 : E5 = "java/lang/UnsupportedOperationException"
    · rw [if_pos c12] at h
      subst c12
      exact xk_r (xt_catch hC hE [⟨0, 9, 12, 21⟩, ⟨0, 9, 16, 13⟩] ⟨0, 9, 20, 23⟩ [] rfl (List.forall_mem_cons.mpr ⟨Or.inr ⟨by decide, "java/lang/IndexOutOfBoundsException", wm_1001, by decide⟩, (List.forall_mem_cons.mpr ⟨Or.inr ⟨by decide, "java/lang/IllegalArgumentException", wm_885, by decide⟩, (fun _ hz => nomatch hz)⟩)⟩) (by decide) (by decide) wm_1025 wm_1050 rfl dL_skip_20 (by decide) dL_skip_22 (by decide) dL_skip_23 (so h) (Nat.le_of_ble_eq_true rfl) (Nat.le_of_ble_eq_true rfl))
    rw [if_neg c12] at h
    cases h
theorem c_L_skip (l : Launch) (hls : l.stackTraces = false) {S : mS} {a0 : Nat} {a1 : Int32} {a2 : Int32} {a3 : Nat} {o : Rs Int32} (h : f_L_skip S a0 a1 a2 a3 = some o) : CT (fun r : Int32 => some (.int r)) l yL_skip (.codeWith yL_skip cL_skip 5 (Option.some Jvm.ClassFile.FieldType.int) [((0 : Nat), (9 : Nat), (12 : Nat), (21 : Nat)), ((0 : Nat), (9 : Nat), (16 : Nat), (13 : Nat)), ((0 : Nat), (9 : Nat), (20 : Nat), (23 : Nat))]) rm_L_skip S [.ref a0, .int a1, .int a2, .ref a3] o := ct_ofH (by decide +kernel) hls (Nat.le_of_ble_eq_true rfl) (fun C hl hC hE => t_L_skip hls hC hl hE h)
abbrev rm_L_loseStick : Room := { frames := 13, cells := 2, slots := 12, locals := 262 }
abbrev hh_L_loseStick : List (Nat × Nat × Nat × Nat) := [((0 : Nat), (9 : Nat), (12 : Nat), (21 : Nat)), ((0 : Nat), (9 : Nat), (15 : Nat), (23 : Nat))]
def f_L_loseStick (S : mS) (a0 : Nat) (a1 : Int32) (a2 : Nat) : Option (Rs Int32) :=
  gd (gK S a0 = 16) (bdc (f_X10_loseStick S a0 a1) (fun E S => if E = "java/lang/IndexOutOfBoundsException" then some (.inl (1 : Int32), S) else if E = "java/lang/UnsupportedOperationException" then some (.inl (2 : Int32), S) else none) fun x2 S3 => lt9 ((x2).toInt64) fun x6 => gd (gK S3 a2 = 38) (gd (¬ ((0 : Int32) < 0 ∨ gZ S3 a2 ≤ ((0 : Int32)).toNatClampNeg)) (zL (sL S3 a2 ((0 : Int32)).toNatClampNeg x6) fun S9 => some (.inl (0 : Int32), S9))))
set_option maxHeartbeats 2000000 in
set_option maxRecDepth 100000 in
theorem t_L_loseStick {l : Launch} (hls : l.stackTraces = false) {C : cT} (hC : CX C cL_loseStick 4 yL_loseStick rm_L_loseStick) (hl : C.2.1 = l) {S0 : mS} (hE : CE C S0 (Option.some Jvm.ClassFile.FieldType.int) (tableOf hh_L_loseStick)) {o : Rs Int32} {S : mS} {a0 : Nat} {a1 : Int32} {a2 : Nat} (h : f_L_loseStick S a0 a1 a2 = some o) : XX C 4 (QQ C (fun r : Int32 => some (.int r)) S0 o) 0 0 S 0 [(0, .ref a0), (1, .int a1), (2, .ref a2)] [] := by
  unfold f_L_loseStick at h
  refine x_aload_n (pc := 0) hC 2 dL_loseStick_0 rfl rfl ?_
  refine x_iconst (pc := 1) (v := (0 : Int32)) hC dL_loseStick_1 (by decide) ?_
  refine x_aload_n (pc := 2) hC 0 dL_loseStick_2 rfl rfl ?_
  refine x_iload_n (pc := 3) hC 1 dL_loseStick_3 rfl rfl ?_
  obtain ⟨g1, h⟩ := gd_some h
  obtain ⟨o4, ho4, h⟩ := bdc_some h
  refine x_callV (pc := 4) (As := [.int a1]) (rest := [.int (0 : Int32), .ref a2]) hC hl (c_X10_loseStick l hls ho4) lk_RL_170 fc_16 g1 dL_loseStick_4 rfl rfl (Nat.le_of_ble_eq_true rfl) ⟨Nat.le_of_ble_eq_true rfl, Nat.le_of_ble_eq_true rfl⟩ ⟨(Nat.le_of_ble_eq_true rfl), (Nat.le_of_ble_eq_true rfl)⟩ ?_
  rcases o4 with ⟨x2 | E5, S3⟩
  · refine xk_i ?_
    replace h := bdc_l h
    refine x_i2lv (pc := 7) hC dL_loseStick_7 (fun x6 hx6 => ?_)
    replace h := lt_x hx6 h
    obtain ⟨g8, h⟩ := gd_some h
    obtain ⟨g7, h⟩ := gd_some h
    refine x_lastv (pc := 8) hC dL_loseStick_8 g8 g7 (fun S9 hS9 => ?_)
    replace h := zL_x hS9 h
    have g10 : gK S9 a2 = 38 := by rw [hS9]; exact g8
    refine x_goto (pc := 9) hC 18 dL_loseStick_9 (by decide) ?_
    refine x_iconst (pc := 18) (v := (0 : Int32)) hC dL_loseStick_18 (by decide) ?_
    exact x_ireturn (pc := 19) hC hE dL_loseStick_19 (so h) (Nat.le_of_ble_eq_true rfl) (Nat.le_of_ble_eq_true rfl)
  · replace h := bdc_r h
    by_cases c11 : E5 = "java/lang/IndexOutOfBoundsException"
    · rw [if_pos c11] at h
      subst c11
      exact xk_r (xt_catch_n hC hE [] ⟨0, 9, 12, 21⟩ [⟨0, 9, 15, 23⟩] rfl (fun _ hz => nomatch hz) (by decide) (by decide) wm_1001 wm_1036 rfl dL_loseStick_12 rfl (by decide) dL_loseStick_13 (by decide) dL_loseStick_14 (so h) (Nat.le_of_ble_eq_true rfl) (Nat.le_of_ble_eq_true rfl))
    rw [if_neg c11] at h
    by_cases c12 : E5 = "java/lang/UnsupportedOperationException"
    · rw [if_pos c12] at h
      subst c12
      exact xk_r (xt_catch_n hC hE [⟨0, 9, 12, 21⟩] ⟨0, 9, 15, 23⟩ [] rfl (List.forall_mem_cons.mpr ⟨Or.inr ⟨by decide, "java/lang/IndexOutOfBoundsException", wm_1001, by decide⟩, (fun _ hz => nomatch hz)⟩) (by decide) (by decide) wm_1025 wm_1050 rfl dL_loseStick_15 rfl (by decide) dL_loseStick_16 (by decide) dL_loseStick_17 (so h) (Nat.le_of_ble_eq_true rfl) (Nat.le_of_ble_eq_true rfl))
    rw [if_neg c12] at h
    cases h
theorem c_L_loseStick (l : Launch) (hls : l.stackTraces = false) {S : mS} {a0 : Nat} {a1 : Int32} {a2 : Nat} {o : Rs Int32} (h : f_L_loseStick S a0 a1 a2 = some o) : CT (fun r : Int32 => some (.int r)) l yL_loseStick (.codeWith yL_loseStick cL_loseStick 4 (Option.some Jvm.ClassFile.FieldType.int) [((0 : Nat), (9 : Nat), (12 : Nat), (21 : Nat)), ((0 : Nat), (9 : Nat), (15 : Nat), (23 : Nat))]) rm_L_loseStick S [.ref a0, .int a1, .ref a2] o := ct_ofH (by decide +kernel) hls (Nat.le_of_ble_eq_true rfl) (fun C hl hC hE => t_L_loseStick hls hC hl hE h)
abbrev rm_L_silentShare : Room := { frames := 10, cells := 1, slots := 6, locals := 190 }
abbrev hh_L_silentShare : List (Nat × Nat × Nat × Nat) := [((0 : Nat), (8 : Nat), (11 : Nat), (177 : Nat))]
def f_L_silentShare (S : mS) (a0 : Nat) (a1 : Nat) : Option (Rs Int32) :=
  gd (gK S a0 = 16) (bdc (f_X10_silentShare S a0) (fun E S => if E = "java/lang/ArithmeticException" then some (.inl (1 : Int32), S) else none) fun x2 S3 => none)
set_option maxHeartbeats 2000000 in
set_option maxRecDepth 100000 in
theorem t_L_silentShare {l : Launch} (hls : l.stackTraces = false) {C : cT} (hC : CX C cL_silentShare 3 yL_silentShare rm_L_silentShare) (hl : C.2.1 = l) {S0 : mS} (hE : CE C S0 (Option.some Jvm.ClassFile.FieldType.int) (tableOf hh_L_silentShare)) {o : Rs Int32} {S : mS} {a0 : Nat} {a1 : Nat} (h : f_L_silentShare S a0 a1 = some o) : XX C 3 (QQ C (fun r : Int32 => some (.int r)) S0 o) 0 0 S 0 [(0, .ref a0), (1, .ref a1)] [] := by
  unfold f_L_silentShare at h
  refine x_aload_n (pc := 0) hC 1 dL_silentShare_0 rfl rfl ?_
  refine x_iconst (pc := 1) (v := (0 : Int32)) hC dL_silentShare_1 (by decide) ?_
  refine x_aload_n (pc := 2) hC 0 dL_silentShare_2 rfl rfl ?_
  obtain ⟨g1, h⟩ := gd_some h
  obtain ⟨o4, ho4, h⟩ := bdc_some h
  refine x_callV (pc := 3) (As := []) (rest := [.int (0 : Int32), .ref a1]) hC hl (c_X10_silentShare l hls ho4) lk_RL_173 fc_16 g1 dL_silentShare_3 rfl rfl (Nat.le_of_ble_eq_true rfl) ⟨Nat.le_of_ble_eq_true rfl, Nat.le_of_ble_eq_true rfl⟩ ⟨(Nat.le_of_ble_eq_true rfl), (Nat.le_of_ble_eq_true rfl)⟩ ?_
  rcases o4 with ⟨x2 | E5, S3⟩
  · refine xk_f ?_
    replace h := bdc_l h
    cases h
  · replace h := bdc_r h
    by_cases c6 : E5 = "java/lang/ArithmeticException"
    · rw [if_pos c6] at h
      subst c6
      exact xk_r (xt_catch_n hC hE [] ⟨0, 8, 11, 177⟩ [] rfl (fun _ hz => nomatch hz) (by decide) (by decide) wm_1499 wm_1511 rfl dL_silentShare_11 rfl (by decide) dL_silentShare_12 (by decide) dL_silentShare_13 (so h) (Nat.le_of_ble_eq_true rfl) (Nat.le_of_ble_eq_true rfl))
    rw [if_neg c6] at h
    cases h
theorem c_L_silentShare (l : Launch) (hls : l.stackTraces = false) {S : mS} {a0 : Nat} {a1 : Nat} {o : Rs Int32} (h : f_L_silentShare S a0 a1 = some o) : CT (fun r : Int32 => some (.int r)) l yL_silentShare (.codeWith yL_silentShare cL_silentShare 3 (Option.some Jvm.ClassFile.FieldType.int) [((0 : Nat), (8 : Nat), (11 : Nat), (177 : Nat))]) rm_L_silentShare S [.ref a0, .ref a1] o := ct_ofH (by decide +kernel) hls (Nat.le_of_ble_eq_true rfl) (fun C hl hC hE => t_L_silentShare hls hC hl hE h)
abbrev rm_L_meanLoudness : Room := { frames := 10, cells := 1, slots := 6, locals := 190 }
abbrev hh_L_meanLoudness : List (Nat × Nat × Nat × Nat) := [((0 : Nat), (7 : Nat), (10 : Nat), (177 : Nat))]
def f_L_meanLoudness (S : mS) (a0 : Nat) (a1 : Nat) : Option (Rs Int32) :=
  gd (gK S a0 = 16) (bdc (f_X10_meanLoudness S a0) (fun E S => if E = "java/lang/ArithmeticException" then some (.inl (1 : Int32), S) else none) fun x2 S3 => none)
set_option maxHeartbeats 2000000 in
set_option maxRecDepth 100000 in
theorem t_L_meanLoudness {l : Launch} (hls : l.stackTraces = false) {C : cT} (hC : CX C cL_meanLoudness 3 yL_meanLoudness rm_L_meanLoudness) (hl : C.2.1 = l) {S0 : mS} (hE : CE C S0 (Option.some Jvm.ClassFile.FieldType.int) (tableOf hh_L_meanLoudness)) {o : Rs Int32} {S : mS} {a0 : Nat} {a1 : Nat} (h : f_L_meanLoudness S a0 a1 = some o) : XX C 3 (QQ C (fun r : Int32 => some (.int r)) S0 o) 0 0 S 0 [(0, .ref a0), (1, .ref a1)] [] := by
  unfold f_L_meanLoudness at h
  refine x_aload_n (pc := 0) hC 1 dL_meanLoudness_0 rfl rfl ?_
  refine x_iconst (pc := 1) (v := (0 : Int32)) hC dL_meanLoudness_1 (by decide) ?_
  refine x_aload_n (pc := 2) hC 0 dL_meanLoudness_2 rfl rfl ?_
  obtain ⟨g1, h⟩ := gd_some h
  obtain ⟨o4, ho4, h⟩ := bdc_some h
  refine x_callV (pc := 3) (As := []) (rest := [.int (0 : Int32), .ref a1]) hC hl (c_X10_meanLoudness l hls ho4) lk_RL_179 fc_16 g1 dL_meanLoudness_3 rfl rfl (Nat.le_of_ble_eq_true rfl) ⟨Nat.le_of_ble_eq_true rfl, Nat.le_of_ble_eq_true rfl⟩ ⟨(Nat.le_of_ble_eq_true rfl), (Nat.le_of_ble_eq_true rfl)⟩ ?_
  rcases o4 with ⟨x2 | E5, S3⟩
  · refine xk_d ?_
    replace h := bdc_l h
    cases h
  · replace h := bdc_r h
    by_cases c6 : E5 = "java/lang/ArithmeticException"
    · rw [if_pos c6] at h
      subst c6
      exact xk_r (xt_catch_n hC hE [] ⟨0, 7, 10, 177⟩ [] rfl (fun _ hz => nomatch hz) (by decide) (by decide) wm_1499 wm_1511 rfl dL_meanLoudness_10 rfl (by decide) dL_meanLoudness_11 (by decide) dL_meanLoudness_12 (so h) (Nat.le_of_ble_eq_true rfl) (Nat.le_of_ble_eq_true rfl))
    rw [if_neg c6] at h
    cases h
theorem c_L_meanLoudness (l : Launch) (hls : l.stackTraces = false) {S : mS} {a0 : Nat} {a1 : Nat} {o : Rs Int32} (h : f_L_meanLoudness S a0 a1 = some o) : CT (fun r : Int32 => some (.int r)) l yL_meanLoudness (.codeWith yL_meanLoudness cL_meanLoudness 3 (Option.some Jvm.ClassFile.FieldType.int) [((0 : Nat), (7 : Nat), (10 : Nat), (177 : Nat))]) rm_L_meanLoudness S [.ref a0, .ref a1] o := ct_ofH (by decide +kernel) hls (Nat.le_of_ble_eq_true rfl) (fun C hl hC hE => t_L_meanLoudness hls hC hl hE h)
end P24HELPERS
