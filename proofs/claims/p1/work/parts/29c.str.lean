section STRF
abbrev rm2_Jx4a65c_grow_92f84 : Room := { frames := 10, cells := 1, slots := 10, locals := 195 }
def f2_Jx4a65c_grow_92f84_20  (S : mS) (a0 : Nat) (a1 : Int32) (a2 : Int32) : Option (Rs Nat) :=
  lt9 (a1 - a2) fun x1 => lt9 (a2 >>> ((1 : Int32) &&& 31)) fun x2 => bd (f_J8_newLength_cabcc S a2 x1 x2) fun x3 S4 => gd (gK S4 a0 = 5) (lt9 (gR S4 a0 1) fun r8 => bd (f_J7_copyOf_1904c S4 r8 x3) fun r9 S10 => gd (gK S10 a0 = 5) (zR (sR S10 a0 1 r9) fun S14 => some (.inl r9, S14)))
set_option maxHeartbeats 2000000 in
set_option maxRecDepth 100000 in
theorem t2_Jx4a65c_grow_92f84_20 {l : Launch} (hls : l.stackTraces = false) {C : cT} (hC : CX C cJx4a65c_grow_92f84 4 yJx4a65c_grow_92f84 rm2_Jx4a65c_grow_92f84) (hl : C.2.1 = l) {S0 : mS} (hE : CE C S0 (Option.some (Jvm.ClassFile.FieldType.array (Jvm.ClassFile.FieldType.object "java/lang/Object"))) []) {o : Rs Nat} {S : mS} {a0 : Nat} {a1 : Int32} {a2 : Int32} (h : f2_Jx4a65c_grow_92f84_20  S a0 a1 a2 = some o) : XX C 4 (QQ C (fun r : Nat => some (.ref r)) S0 o) (0) (0) S 20 [(0, .ref a0), (1, .int a1), (2, .int a2)] [] := by
  unfold f2_Jx4a65c_grow_92f84_20 at h
  refine x_iload_n (pc := 20) hC 2 dJx4a65c_grow_92f84_20 rfl rfl ?_
  refine x_iload_n (pc := 21) hC 1 dJx4a65c_grow_92f84_21 rfl rfl ?_
  refine x_iload_n (pc := 22) hC 2 dJx4a65c_grow_92f84_22 rfl rfl ?_
  refine x_isubv (pc := 23) hC dJx4a65c_grow_92f84_23 (fun x1 hx1 => ?_)
  replace h := lt_x hx1 h
  refine x_iload_n (pc := 24) hC 2 dJx4a65c_grow_92f84_24 rfl rfl ?_
  refine x_iconst (pc := 25) (v := (1 : Int32)) hC dJx4a65c_grow_92f84_25 (by decide) ?_
  refine x_ishrv (pc := 26) hC dJx4a65c_grow_92f84_26 (fun x2 hx2 => ?_)
  replace h := lt_x hx2 h
  obtain ⟨o5, ho5, h⟩ := bd_some h
  refine x_callS (pc := 27) (As := [.int a2, .int x1, .int x2]) (rest := []) hC hl (c_J8_newLength_cabcc l hls ho5) lk_RJx4a65c_73 dJx4a65c_grow_92f84_27 rfl rfl (Nat.le_of_ble_eq_true rfl) ⟨Nat.le_of_ble_eq_true rfl, Nat.le_of_ble_eq_true rfl⟩ ⟨(Nat.le_of_ble_eq_true rfl), (Nat.le_of_ble_eq_true rfl)⟩ ?_
  rcases o5 with ⟨x3 | E6, S4⟩
  · refine xk_i ?_
    replace h := bk_l h
    refine x_istore_n (pc := 30) hC dJx4a65c_grow_92f84_30 rfl (by decide) (by decide) rfl ?_
    refine x_aload_n (pc := 31) hC 1 dJx4a65c_grow_92f84_31 rfl rfl ?_
    refine x_aload_n (pc := 32) hC 1 dJx4a65c_grow_92f84_32 rfl rfl ?_
    obtain ⟨g7, h⟩ := gd_some h
    refine x_getRv (pc := 33) (k := 1) hC fc_5 fl_RJx4a65c_9 dJx4a65c_grow_92f84_33 rfl g7 (fun r8 hr8 => ?_)
    replace h := lt_x hr8 h
    refine x_iload_n (pc := 36) hC 0 dJx4a65c_grow_92f84_36 rfl rfl ?_
    obtain ⟨o11, ho11, h⟩ := bd_some h
    refine x_callS (pc := 37) (As := [.ref r8, .int x3]) (rest := [.ref a0]) hC hl (c_J7_copyOf_1904c l hls ho11) lk_RJx4a65c_66 dJx4a65c_grow_92f84_37 rfl rfl (Nat.le_of_ble_eq_true rfl) ⟨Nat.le_of_ble_eq_true rfl, Nat.le_of_ble_eq_true rfl⟩ ⟨(Nat.le_of_ble_eq_true rfl), (Nat.le_of_ble_eq_true rfl)⟩ ?_
    rcases o11 with ⟨r9 | E12, S10⟩
    · refine xk_a ?_
      replace h := bk_l h
      refine x_dup_x1 (pc := 40) hC dJx4a65c_grow_92f84_40 rfl rfl ?_
      obtain ⟨g13, h⟩ := gd_some h
      refine x_putRv (pc := 41) (k := 1) hC fc_5 fl_RJx4a65c_9 dJx4a65c_grow_92f84_41 rfl rfl (Or.inr ⟨_, rfl⟩) g13 (fun S14 hS14 => ?_)
      replace h := zR_x hS14 h
      have g15 : gK S14 a0 = 5 := by rw [hS14]; exact g13
      exact x_areturn (pc := 44) hC hE (Or.inr ⟨_, rfl⟩) dJx4a65c_grow_92f84_44 (so h) (Nat.le_of_ble_eq_true rfl) (Nat.le_of_ble_eq_true rfl)
    · exact xk_r (xt_out hC hE (bk_r h) (Nat.le_of_ble_eq_true rfl) (Nat.le_of_ble_eq_true rfl))
  · exact xk_r (xt_out hC hE (bk_r h) (Nat.le_of_ble_eq_true rfl) (Nat.le_of_ble_eq_true rfl))
def f2_Jx4a65c_grow_92f84 (S : mS) (a0 : Nat) (a1 : Int32) : Option (Rs Nat) :=
  gd (gK S a0 = 5) (lt9 (gR S a0 1) fun r2 => if r2 = KB + 20 then (if 0 < (0 : Int32) then (f2_Jx4a65c_grow_92f84_20  S a0 a1 (0 : Int32)) else (lt9 (gR S a0 1) fun r3 => gd ((r3 < KB ∧ (KB + 20) < KB) ∨ r3 = (KB + 20)) (if r3 = (KB + 20) then (lt9 (if (10 : Int32) < a1 then a1 else (10 : Int32)) fun x5 => if x5 = (10 : Int32) then (gd (gN S + 1 < KB) (zW (sW S 40 10) fun S11 => lt9 (gN S + 1) fun r12 => gd (gK S11 a0 = 5) (zR (sR S11 a0 1 r12) fun S15 => some (.inl r12, S15)))) else none) else (f2_Jx4a65c_grow_92f84_20  S a0 a1 (0 : Int32))))) else (gd (gK S r2 = 40) (lt9 (Int32.ofNat (gZ S r2)) fun x21 => if 0 < x21 then (f2_Jx4a65c_grow_92f84_20  S a0 a1 x21) else (lt9 (gR S a0 1) fun r22 => gd ((r22 < KB ∧ (KB + 20) < KB) ∨ r22 = (KB + 20)) (if r22 = (KB + 20) then (lt9 (if (10 : Int32) < a1 then a1 else (10 : Int32)) fun x24 => if x24 = (10 : Int32) then (gd (gN S + 1 < KB) (zW (sW S 40 10) fun S30 => lt9 (gN S + 1) fun r31 => gd (gK S30 a0 = 5) (zR (sR S30 a0 1 r31) fun S34 => some (.inl r31, S34)))) else none) else (f2_Jx4a65c_grow_92f84_20  S a0 a1 x21))))))
set_option maxHeartbeats 2000000 in
set_option maxRecDepth 100000 in
theorem t2_Jx4a65c_grow_92f84 {l : Launch} (hls : l.stackTraces = false) {C : cT} (hC : CX C cJx4a65c_grow_92f84 4 yJx4a65c_grow_92f84 rm2_Jx4a65c_grow_92f84) (hl : C.2.1 = l) {S0 : mS} (hE : CE C S0 (Option.some (Jvm.ClassFile.FieldType.array (Jvm.ClassFile.FieldType.object "java/lang/Object"))) []) {o : Rs Nat} {S : mS} {a0 : Nat} {a1 : Int32} (h : f2_Jx4a65c_grow_92f84 S a0 a1 = some o) : XX C 4 (QQ C (fun r : Nat => some (.ref r)) S0 o) 0 0 S 0 [(0, .ref a0), (1, .int a1)] [] := by
  unfold f2_Jx4a65c_grow_92f84 at h
  refine x_aload_n (pc := 0) hC 0 dJx4a65c_grow_92f84_0 rfl rfl ?_
  obtain ⟨g1, h⟩ := gd_some h
  refine x_getRv (pc := 1) (k := 1) hC fc_5 fl_RJx4a65c_9 dJx4a65c_grow_92f84_1 rfl g1 (fun r2 hr2 => ?_)
  replace h := lt_x hr2 h
  by_cases c39 : r2 = KB + 20
  · rw [if_pos c39] at h
    refine x_alenKe (pc := 4) hC c39 dJx4a65c_grow_92f84_4 ?_
    refine x_istore_n (pc := 5) hC dJx4a65c_grow_92f84_5 rfl (by decide) (by decide) rfl ?_
    refine x_iload_n (pc := 6) hC 0 dJx4a65c_grow_92f84_6 rfl rfl ?_
    refine x_if_gt (pc := 7) hC 20 dJx4a65c_grow_92f84_7 (by decide) (fun c19 => ?_) (fun c19 => ?_)
    · rw [if_pos c19] at h
      refine x_pick [1, 2, 0] rfl ?_
      exact t2_Jx4a65c_grow_92f84_20 hls hC hl hE h
    · rw [if_neg c19] at h
      refine x_aload_n (pc := 10) hC 1 dJx4a65c_grow_92f84_10 rfl rfl ?_
      refine x_getRv (pc := 11) (k := 1) hC fc_5 fl_RJx4a65c_9 dJx4a65c_grow_92f84_11 rfl g1 (fun r3 hr3 => ?_)
      replace h := lt_x hr3 h
      refine x_getsK (pc := 14) hC wm_1549 dJx4a65c_grow_92f84_14 ?_
      obtain ⟨g4, h⟩ := gd_some h
      refine x_acmp_eqK (pc := 17) hC g4 45 dJx4a65c_grow_92f84_17 (by decide) (fun c18 => ?_) (fun c18 => ?_)
      · rw [if_pos c18] at h
        refine x_aload_n (pc := 45) hC 1 dJx4a65c_grow_92f84_45 rfl rfl ?_
        refine x_bipush (pc := 46) (v := (10 : Int32)) hC dJx4a65c_grow_92f84_46 (by decide) ?_
        refine x_iload_n (pc := 48) hC 2 dJx4a65c_grow_92f84_48 rfl rfl ?_
        refine x_mmax (pc := 49) hC wm_1853 wm_650 wm_69 wm_651 dJx4a65c_grow_92f84_49 (Nat.le_of_ble_eq_true rfl) (Nat.le_of_ble_eq_true rfl) (Nat.le_of_ble_eq_true rfl) (Nat.le_of_ble_eq_true rfl) (fun x5 hx5 => ?_)
        replace h := lt_x hx5 h
        by_cases c9 : x5 = (10 : Int32)
        · rw [if_pos c9] at h
          obtain ⟨g10, h⟩ := gd_some h
          refine x_newrv (pc := 52) (z := 10) (kd := 40) (t0 := 10) hC wm_1854 wm_1847 (by decide) (fun _ => rfl) dJx4a65c_grow_92f84_52 (by rw [c9]; decide) (by rw [c9]; decide) (Nat.le_of_ble_eq_true rfl) g10 (Nat.le_of_ble_eq_true rfl) (Nat.le_of_ble_eq_true rfl) (fun S11 r12 hS11 hr12 => ?_)
          replace h := zW_x hS11 h
          replace h := lt_x hr12 h
          have g13 : gK S11 r12 = 40 := by rw [hr12, hS11]; exact sW_K
          refine x_dup_x1 (pc := 55) hC dJx4a65c_grow_92f84_55 rfl rfl ?_
          obtain ⟨g14, h⟩ := gd_some h
          refine x_putRv (pc := 56) (k := 1) hC fc_5 fl_RJx4a65c_9 dJx4a65c_grow_92f84_56 rfl rfl (Or.inr ⟨_, rfl⟩) g14 (fun S15 hS15 => ?_)
          replace h := zR_x hS15 h
          have g16 : gK S15 r12 = 40 := by rw [hS15]; exact g13
          have g17 : gK S15 a0 = 5 := by rw [hS15]; exact g14
          exact x_areturn (pc := 59) hC hE (Or.inr ⟨_, rfl⟩) dJx4a65c_grow_92f84_59 (so h) (Nat.le_of_ble_eq_true rfl) (Nat.le_of_ble_eq_true rfl)
        rw [if_neg c9] at h
        cases h
      · rw [if_neg c18] at h
        refine x_pick [1, 2, 0] rfl ?_
        exact t2_Jx4a65c_grow_92f84_20 hls hC hl hE h
  · rw [if_neg c39] at h
    obtain ⟨g20, h⟩ := gd_some h
    refine x_alenv (pc := 4) (t0 := 10) hC dJx4a65c_grow_92f84_4 g20 (by decide) (fun _ => rfl) (fun x21 hx21 => ?_)
    replace h := lt_x hx21 h
    refine x_istore_n (pc := 5) hC dJx4a65c_grow_92f84_5 rfl (by decide) (by decide) rfl ?_
    refine x_iload_n (pc := 6) hC 0 dJx4a65c_grow_92f84_6 rfl rfl ?_
    refine x_if_gt (pc := 7) hC 20 dJx4a65c_grow_92f84_7 (by decide) (fun c38 => ?_) (fun c38 => ?_)
    · rw [if_pos c38] at h
      refine x_pick [1, 2, 0] rfl ?_
      exact t2_Jx4a65c_grow_92f84_20 hls hC hl hE h
    · rw [if_neg c38] at h
      refine x_aload_n (pc := 10) hC 1 dJx4a65c_grow_92f84_10 rfl rfl ?_
      refine x_getRv (pc := 11) (k := 1) hC fc_5 fl_RJx4a65c_9 dJx4a65c_grow_92f84_11 rfl g1 (fun r22 hr22 => ?_)
      replace h := lt_x hr22 h
      refine x_getsK (pc := 14) hC wm_1549 dJx4a65c_grow_92f84_14 ?_
      obtain ⟨g23, h⟩ := gd_some h
      refine x_acmp_eqK (pc := 17) hC g23 45 dJx4a65c_grow_92f84_17 (by decide) (fun c37 => ?_) (fun c37 => ?_)
      · rw [if_pos c37] at h
        refine x_aload_n (pc := 45) hC 1 dJx4a65c_grow_92f84_45 rfl rfl ?_
        refine x_bipush (pc := 46) (v := (10 : Int32)) hC dJx4a65c_grow_92f84_46 (by decide) ?_
        refine x_iload_n (pc := 48) hC 2 dJx4a65c_grow_92f84_48 rfl rfl ?_
        refine x_mmax (pc := 49) hC wm_1853 wm_650 wm_69 wm_651 dJx4a65c_grow_92f84_49 (Nat.le_of_ble_eq_true rfl) (Nat.le_of_ble_eq_true rfl) (Nat.le_of_ble_eq_true rfl) (Nat.le_of_ble_eq_true rfl) (fun x24 hx24 => ?_)
        replace h := lt_x hx24 h
        by_cases c28 : x24 = (10 : Int32)
        · rw [if_pos c28] at h
          obtain ⟨g29, h⟩ := gd_some h
          refine x_newrv (pc := 52) (z := 10) (kd := 40) (t0 := 10) hC wm_1854 wm_1847 (by decide) (fun _ => rfl) dJx4a65c_grow_92f84_52 (by rw [c28]; decide) (by rw [c28]; decide) (Nat.le_of_ble_eq_true rfl) g29 (Nat.le_of_ble_eq_true rfl) (Nat.le_of_ble_eq_true rfl) (fun S30 r31 hS30 hr31 => ?_)
          replace h := zW_x hS30 h
          replace h := lt_x hr31 h
          have g32 : gK S30 r31 = 40 := by rw [hr31, hS30]; exact sW_K
          refine x_dup_x1 (pc := 55) hC dJx4a65c_grow_92f84_55 rfl rfl ?_
          obtain ⟨g33, h⟩ := gd_some h
          refine x_putRv (pc := 56) (k := 1) hC fc_5 fl_RJx4a65c_9 dJx4a65c_grow_92f84_56 rfl rfl (Or.inr ⟨_, rfl⟩) g33 (fun S34 hS34 => ?_)
          replace h := zR_x hS34 h
          have g35 : gK S34 r31 = 40 := by rw [hS34]; exact g32
          have g36 : gK S34 a0 = 5 := by rw [hS34]; exact g33
          exact x_areturn (pc := 59) hC hE (Or.inr ⟨_, rfl⟩) dJx4a65c_grow_92f84_59 (so h) (Nat.le_of_ble_eq_true rfl) (Nat.le_of_ble_eq_true rfl)
        rw [if_neg c28] at h
        cases h
      · rw [if_neg c37] at h
        refine x_pick [1, 2, 0] rfl ?_
        exact t2_Jx4a65c_grow_92f84_20 hls hC hl hE h
theorem c2_Jx4a65c_grow_92f84 (l : Launch) (hls : l.stackTraces = false) {S : mS} {a0 : Nat} {a1 : Int32} {o : Rs Nat} (h : f2_Jx4a65c_grow_92f84 S a0 a1 = some o) : CT (fun r : Nat => some (.ref r)) l yJx4a65c_grow_92f84 (.code yJx4a65c_grow_92f84 cJx4a65c_grow_92f84 4 (Option.some (Jvm.ClassFile.FieldType.array (Jvm.ClassFile.FieldType.object "java/lang/Object")))) rm2_Jx4a65c_grow_92f84 S [.ref a0, .int a1] o := ct_of (by decide +kernel) hls (Nat.le_of_ble_eq_true rfl) (fun C hl hC hE => t2_Jx4a65c_grow_92f84 hls hC hl hE h)
abbrev rm2_Jx4a65c_grow_d5877 : Room := { frames := 11, cells := 1, slots := 10, locals := 218 }
def f2_Jx4a65c_grow_d5877 (S : mS) (a0 : Nat) : Option (Rs Nat) :=
  gd (gK S a0 = 5) (lt9 (gI S a0 2) fun x2 => lt9 (x2 + (1 : Int32)) fun x3 => bd (f2_Jx4a65c_grow_92f84 S a0 x3) fun r4 S5 => some (.inl r4, S5))
set_option maxHeartbeats 2000000 in
set_option maxRecDepth 100000 in
theorem t2_Jx4a65c_grow_d5877 {l : Launch} (hls : l.stackTraces = false) {C : cT} (hC : CX C cJx4a65c_grow_d5877 1 yJx4a65c_grow_d5877 rm2_Jx4a65c_grow_d5877) (hl : C.2.1 = l) {S0 : mS} (hE : CE C S0 (Option.some (Jvm.ClassFile.FieldType.array (Jvm.ClassFile.FieldType.object "java/lang/Object"))) []) {o : Rs Nat} {S : mS} {a0 : Nat} (h : f2_Jx4a65c_grow_d5877 S a0 = some o) : XX C 1 (QQ C (fun r : Nat => some (.ref r)) S0 o) 0 0 S 0 [(0, .ref a0)] [] := by
  unfold f2_Jx4a65c_grow_d5877 at h
  refine x_aload_n (pc := 0) hC 0 dJx4a65c_grow_d5877_0 rfl rfl ?_
  refine x_aload_n (pc := 1) hC 0 dJx4a65c_grow_d5877_1 rfl rfl ?_
  obtain ⟨g1, h⟩ := gd_some h
  refine x_getIv (pc := 2) (k := 2) hC fc_5 fl_RJx4a65c_48 dJx4a65c_grow_d5877_2 rfl g1 (fun x2 hx2 => ?_)
  replace h := lt_x hx2 h
  refine x_iconst (pc := 5) (v := (1 : Int32)) hC dJx4a65c_grow_d5877_5 (by decide) ?_
  refine x_iaddv (pc := 6) hC dJx4a65c_grow_d5877_6 (fun x3 hx3 => ?_)
  replace h := lt_x hx3 h
  obtain ⟨o6, ho6, h⟩ := bd_some h
  refine x_callV (pc := 7) (As := [.int x3]) (rest := []) hC hl (c2_Jx4a65c_grow_92f84 l hls ho6) lk_RJx4a65c_69 fc_5 g1 dJx4a65c_grow_d5877_7 rfl rfl (Nat.le_of_ble_eq_true rfl) ⟨Nat.le_of_ble_eq_true rfl, Nat.le_of_ble_eq_true rfl⟩ ⟨(Nat.le_of_ble_eq_true rfl), (Nat.le_of_ble_eq_true rfl)⟩ ?_
  rcases o6 with ⟨r4 | E7, S5⟩
  · refine xk_a ?_
    replace h := bk_l h
    exact x_areturn (pc := 10) hC hE (Or.inr ⟨_, rfl⟩) dJx4a65c_grow_d5877_10 (so h) (Nat.le_of_ble_eq_true rfl) (Nat.le_of_ble_eq_true rfl)
  · exact xk_r (xt_out hC hE (bk_r h) (Nat.le_of_ble_eq_true rfl) (Nat.le_of_ble_eq_true rfl))
theorem c2_Jx4a65c_grow_d5877 (l : Launch) (hls : l.stackTraces = false) {S : mS} {a0 : Nat} {o : Rs Nat} (h : f2_Jx4a65c_grow_d5877 S a0 = some o) : CT (fun r : Nat => some (.ref r)) l yJx4a65c_grow_d5877 (.code yJx4a65c_grow_d5877 cJx4a65c_grow_d5877 1 (Option.some (Jvm.ClassFile.FieldType.array (Jvm.ClassFile.FieldType.object "java/lang/Object")))) rm2_Jx4a65c_grow_d5877 S [.ref a0] o := ct_of (by decide +kernel) hls (Nat.le_of_ble_eq_true rfl) (fun C hl hC hE => t2_Jx4a65c_grow_d5877 hls hC hl hE h)
abbrev rm2_Jx4a65c_add_72be8 : Room := { frames := 12, cells := 1, slots := 10, locals := 238 }
def f2_Jx4a65c_add_72be8_11  (S : mS) (a0 : Nat) (a1 : Nat) (a2 : Nat) (a3 : Int32) : Option (Rs Unit) :=
  gd (gK S a2 = 40) (gd (¬ (a3 < 0 ∨ gZ S a2 ≤ (a3).toNatClampNeg)) (if gK S a1 = 18 then (zR (sR S a2 (a3).toNatClampNeg a1) fun S6 => lt9 (a3 + (1 : Int32)) fun x11 => gd (gK S6 a0 = 5) (zI (sI S6 a0 2 x11) fun S13 => some (.inl (), S13))) else (gd (gK S a1 = 30) (zR (sR S a2 (a3).toNatClampNeg a1) fun S7 => lt9 (a3 + (1 : Int32)) fun x16 => gd (gK S7 a0 = 5) (zI (sI S7 a0 2 x16) fun S18 => some (.inl (), S18))))))
set_option maxHeartbeats 2000000 in
set_option maxRecDepth 100000 in
theorem t2_Jx4a65c_add_72be8_11 {l : Launch} (hls : l.stackTraces = false) {C : cT} (hC : CX C cJx4a65c_add_72be8 4 yJx4a65c_add_72be8 rm2_Jx4a65c_add_72be8) (hl : C.2.1 = l) {S0 : mS} (hE : CE C S0 (Option.none : Option Jvm.ClassFile.FieldType) []) {o : Rs Unit} {S : mS} {a0 : Nat} {a1 : Nat} {a2 : Nat} {a3 : Int32} (h : f2_Jx4a65c_add_72be8_11  S a0 a1 a2 a3 = some o) : XX C 4 (QQ C (fun _ : Unit => none) S0 o) (1) (10) S 11 [(0, .ref a0), (1, .ref a1), (2, .ref a2), (3, .int a3)] [] := by
  unfold f2_Jx4a65c_add_72be8_11 at h
  refine x_aload_n (pc := 11) hC 2 dJx4a65c_add_72be8_11 rfl rfl ?_
  refine x_iload_n (pc := 12) hC 3 dJx4a65c_add_72be8_12 rfl rfl ?_
  refine x_aload_n (pc := 13) hC 1 dJx4a65c_add_72be8_13 rfl rfl ?_
  obtain ⟨g2, h⟩ := gd_some h
  obtain ⟨g1, h⟩ := gd_some h
  by_cases c4 : gK S a1 = 18
  · rw [if_pos c4] at h
    refine x_rastv (pc := 14) (t0 := 10) hC fc_18 dJx4a65c_add_72be8_14 g2 (by decide) (fun _ => rfl) (Or.inr wm_2690) c4 g1 (fun S6 hS6 => ?_)
    replace h := zR_x hS6 h
    have g9 : gK S6 a2 = 40 := by rw [hS6]; exact g2
    refine x_aload_n (pc := 15) hC 0 dJx4a65c_add_72be8_15 rfl rfl ?_
    refine x_iload_n (pc := 16) hC 3 dJx4a65c_add_72be8_16 rfl rfl ?_
    refine x_iconst (pc := 17) (v := (1 : Int32)) hC dJx4a65c_add_72be8_17 (by decide) ?_
    refine x_iaddv (pc := 18) hC dJx4a65c_add_72be8_18 (fun x11 hx11 => ?_)
    replace h := lt_x hx11 h
    obtain ⟨g12, h⟩ := gd_some h
    refine x_putIv (pc := 19) (k := 2) hC fc_5 fl_RJx4a65c_48 dJx4a65c_add_72be8_19 rfl rfl (nf_int _) g12 (fun S13 hS13 => ?_)
    replace h := zI_x hS13 h
    have g14 : gK S13 a2 = 40 := by rw [hS13]; exact g9
    have g15 : gK S13 a0 = 5 := by rw [hS13]; exact g12
    exact x_vreturn (pc := 22) hC hE dJx4a65c_add_72be8_22 (so h) (Nat.le_of_ble_eq_true rfl) (Nat.le_of_ble_eq_true rfl)
  · rw [if_neg c4] at h
    obtain ⟨g8, h⟩ := gd_some h
    refine x_rastA (pc := 14) (t0 := 10) hC dJx4a65c_add_72be8_14 g2 (by decide) (fun _ => rfl) wm_2706 g8 g1 (fun S7 hS7 => ?_)
    replace h := zR_x hS7 h
    have g10 : gK S7 a2 = 40 := by rw [hS7]; exact g2
    refine x_aload_n (pc := 15) hC 0 dJx4a65c_add_72be8_15 rfl rfl ?_
    refine x_iload_n (pc := 16) hC 3 dJx4a65c_add_72be8_16 rfl rfl ?_
    refine x_iconst (pc := 17) (v := (1 : Int32)) hC dJx4a65c_add_72be8_17 (by decide) ?_
    refine x_iaddv (pc := 18) hC dJx4a65c_add_72be8_18 (fun x16 hx16 => ?_)
    replace h := lt_x hx16 h
    obtain ⟨g17, h⟩ := gd_some h
    refine x_putIv (pc := 19) (k := 2) hC fc_5 fl_RJx4a65c_48 dJx4a65c_add_72be8_19 rfl rfl (nf_int _) g17 (fun S18 hS18 => ?_)
    replace h := zI_x hS18 h
    have g19 : gK S18 a2 = 40 := by rw [hS18]; exact g10
    have g20 : gK S18 a0 = 5 := by rw [hS18]; exact g17
    exact x_vreturn (pc := 22) hC hE dJx4a65c_add_72be8_22 (so h) (Nat.le_of_ble_eq_true rfl) (Nat.le_of_ble_eq_true rfl)
def f2_Jx4a65c_add_72be8 (S : mS) (a0 : Nat) (a1 : Nat) (a2 : Nat) (a3 : Int32) : Option (Rs Unit) :=
  if a2 = KB + 20 then (if a3 = (0 : Int32) then (gd (gK S a0 = 5) (bd (f2_Jx4a65c_grow_d5877 S a0) fun r2 S3 => f2_Jx4a65c_add_72be8_11  S3 a0 a1 r2 a3)) else (f2_Jx4a65c_add_72be8_11  S a0 a1 a2 a3)) else (gd (gK S a2 = 40) (lt9 (Int32.ofNat (gZ S a2)) fun x8 => if a3 = x8 then (gd (gK S a0 = 5) (bd (f2_Jx4a65c_grow_d5877 S a0) fun r10 S11 => f2_Jx4a65c_add_72be8_11  S11 a0 a1 r10 a3)) else (f2_Jx4a65c_add_72be8_11  S a0 a1 a2 a3)))
set_option maxHeartbeats 2000000 in
set_option maxRecDepth 100000 in
theorem t2_Jx4a65c_add_72be8 {l : Launch} (hls : l.stackTraces = false) {C : cT} (hC : CX C cJx4a65c_add_72be8 4 yJx4a65c_add_72be8 rm2_Jx4a65c_add_72be8) (hl : C.2.1 = l) {S0 : mS} (hE : CE C S0 (Option.none : Option Jvm.ClassFile.FieldType) []) {o : Rs Unit} {S : mS} {a0 : Nat} {a1 : Nat} {a2 : Nat} {a3 : Int32} (h : f2_Jx4a65c_add_72be8 S a0 a1 a2 a3 = some o) : XX C 4 (QQ C (fun _ : Unit => none) S0 o) 0 0 S 0 [(0, .ref a0), (1, .ref a1), (2, .ref a2), (3, .int a3)] [] := by
  unfold f2_Jx4a65c_add_72be8 at h
  refine x_iload_n (pc := 0) hC 3 dJx4a65c_add_72be8_0 rfl rfl ?_
  refine x_aload_n (pc := 1) hC 2 dJx4a65c_add_72be8_1 rfl rfl ?_
  by_cases c15 : a2 = KB + 20
  · rw [if_pos c15] at h
    refine x_alenKe (pc := 2) hC c15 dJx4a65c_add_72be8_2 ?_
    refine x_icmp_ne (pc := 3) hC 11 dJx4a65c_add_72be8_3 (by decide) (fun c6 => ?_) (fun c6 => ?_)
    · rw [if_neg c6] at h
      refine x_pick [0, 1, 2, 3] rfl ?_
      refine x_widen (ce' := 1) (sl' := 10) (Nat.le_of_ble_eq_true rfl) (Nat.le_of_ble_eq_true rfl) ?_
      exact t2_Jx4a65c_add_72be8_11 hls hC hl hE h
    · rw [if_pos c6] at h
      refine x_aload_n (pc := 6) hC 0 dJx4a65c_add_72be8_6 rfl rfl ?_
      obtain ⟨g1, h⟩ := gd_some h
      obtain ⟨o4, ho4, h⟩ := bd_some h
      refine x_callV (pc := 7) (As := []) (rest := []) hC hl (c2_Jx4a65c_grow_d5877 l hls ho4) lk_RJx4a65c_129 fc_5 g1 dJx4a65c_add_72be8_7 rfl rfl (Nat.le_of_ble_eq_true rfl) ⟨Nat.le_of_ble_eq_true rfl, Nat.le_of_ble_eq_true rfl⟩ ⟨(Nat.le_of_ble_eq_true rfl), (Nat.le_of_ble_eq_true rfl)⟩ ?_
      rcases o4 with ⟨r2 | E5, S3⟩
      · refine xk_a ?_
        replace h := bk_l h
        refine x_astore_n (pc := 10) hC dJx4a65c_add_72be8_10 rfl (by decide) (by decide) rfl ?_
        refine x_pick [1, 2, 0, 3] rfl ?_
        exact t2_Jx4a65c_add_72be8_11 hls hC hl hE h
      · exact xk_r (xt_out hC hE (bk_r h) (Nat.le_of_ble_eq_true rfl) (Nat.le_of_ble_eq_true rfl))
  · rw [if_neg c15] at h
    obtain ⟨g7, h⟩ := gd_some h
    refine x_alenv (pc := 2) (t0 := 10) hC dJx4a65c_add_72be8_2 g7 (by decide) (fun _ => rfl) (fun x8 hx8 => ?_)
    replace h := lt_x hx8 h
    refine x_icmp_ne (pc := 3) hC 11 dJx4a65c_add_72be8_3 (by decide) (fun c14 => ?_) (fun c14 => ?_)
    · rw [if_neg c14] at h
      refine x_pick [0, 1, 2, 3] rfl ?_
      refine x_widen (ce' := 1) (sl' := 10) (Nat.le_of_ble_eq_true rfl) (Nat.le_of_ble_eq_true rfl) ?_
      exact t2_Jx4a65c_add_72be8_11 hls hC hl hE h
    · rw [if_pos c14] at h
      refine x_aload_n (pc := 6) hC 0 dJx4a65c_add_72be8_6 rfl rfl ?_
      obtain ⟨g9, h⟩ := gd_some h
      obtain ⟨o12, ho12, h⟩ := bd_some h
      refine x_callV (pc := 7) (As := []) (rest := []) hC hl (c2_Jx4a65c_grow_d5877 l hls ho12) lk_RJx4a65c_129 fc_5 g9 dJx4a65c_add_72be8_7 rfl rfl (Nat.le_of_ble_eq_true rfl) ⟨Nat.le_of_ble_eq_true rfl, Nat.le_of_ble_eq_true rfl⟩ ⟨(Nat.le_of_ble_eq_true rfl), (Nat.le_of_ble_eq_true rfl)⟩ ?_
      rcases o12 with ⟨r10 | E13, S11⟩
      · refine xk_a ?_
        replace h := bk_l h
        refine x_astore_n (pc := 10) hC dJx4a65c_add_72be8_10 rfl (by decide) (by decide) rfl ?_
        refine x_pick [1, 2, 0, 3] rfl ?_
        exact t2_Jx4a65c_add_72be8_11 hls hC hl hE h
      · exact xk_r (xt_out hC hE (bk_r h) (Nat.le_of_ble_eq_true rfl) (Nat.le_of_ble_eq_true rfl))
theorem c2_Jx4a65c_add_72be8 (l : Launch) (hls : l.stackTraces = false) {S : mS} {a0 : Nat} {a1 : Nat} {a2 : Nat} {a3 : Int32} {o : Rs Unit} (h : f2_Jx4a65c_add_72be8 S a0 a1 a2 a3 = some o) : CT (fun _ : Unit => none) l yJx4a65c_add_72be8 (.code yJx4a65c_add_72be8 cJx4a65c_add_72be8 4 (Option.none : Option Jvm.ClassFile.FieldType)) rm2_Jx4a65c_add_72be8 S [.ref a0, .ref a1, .ref a2, .int a3] o := ct_of (by decide +kernel) hls (Nat.le_of_ble_eq_true rfl) (fun C hl hC hE => t2_Jx4a65c_add_72be8 hls hC hl hE h)
abbrev rm2_Jx4a65c_add_9ea2d : Room := { frames := 13, cells := 1, slots := 10, locals := 261 }
def f2_Jx4a65c_add_9ea2d (S : mS) (a0 : Nat) (a1 : Nat) : Option (Rs Int32) :=
  gd (gK S a0 = 5) (lt9 (gI S a0 0) fun x2 => lt9 (x2 + (1 : Int32)) fun x3 => zI (sI S a0 0 x3) fun S4 => lt9 (gR S4 a0 1) fun r6 => lt9 (gI S4 a0 2) fun x7 => bd (f2_Jx4a65c_add_72be8 S4 a0 a1 r6 x7) fun _ S9 => some (.inl (1 : Int32), S9))
set_option maxHeartbeats 2000000 in
set_option maxRecDepth 100000 in
theorem t2_Jx4a65c_add_9ea2d {l : Launch} (hls : l.stackTraces = false) {C : cT} (hC : CX C cJx4a65c_add_9ea2d 2 yJx4a65c_add_9ea2d rm2_Jx4a65c_add_9ea2d) (hl : C.2.1 = l) {S0 : mS} (hE : CE C S0 (Option.some Jvm.ClassFile.FieldType.boolean) []) {o : Rs Int32} {S : mS} {a0 : Nat} {a1 : Nat} (h : f2_Jx4a65c_add_9ea2d S a0 a1 = some o) : XX C 2 (QQ C (fun r : Int32 => some (.int r)) S0 o) 0 0 S 0 [(0, .ref a0), (1, .ref a1)] [] := by
  unfold f2_Jx4a65c_add_9ea2d at h
  refine x_aload_n (pc := 0) hC 0 dJx4a65c_add_9ea2d_0 rfl rfl ?_
  refine x_dup (pc := 1) hC dJx4a65c_add_9ea2d_1 rfl ?_
  obtain ⟨g1, h⟩ := gd_some h
  refine x_getIv (pc := 2) (k := 0) hC fc_5 fl_RJx4a65c_63 dJx4a65c_add_9ea2d_2 rfl g1 (fun x2 hx2 => ?_)
  replace h := lt_x hx2 h
  refine x_iconst (pc := 5) (v := (1 : Int32)) hC dJx4a65c_add_9ea2d_5 (by decide) ?_
  refine x_iaddv (pc := 6) hC dJx4a65c_add_9ea2d_6 (fun x3 hx3 => ?_)
  replace h := lt_x hx3 h
  refine x_putIv (pc := 7) (k := 0) hC fc_5 fl_RJx4a65c_63 dJx4a65c_add_9ea2d_7 rfl rfl (nf_int _) g1 (fun S4 hS4 => ?_)
  replace h := zI_x hS4 h
  have g5 : gK S4 a0 = 5 := by rw [hS4]; exact g1
  refine x_aload_n (pc := 10) hC 0 dJx4a65c_add_9ea2d_10 rfl rfl ?_
  refine x_aload_n (pc := 11) hC 1 dJx4a65c_add_9ea2d_11 rfl rfl ?_
  refine x_aload_n (pc := 12) hC 0 dJx4a65c_add_9ea2d_12 rfl rfl ?_
  refine x_getRv (pc := 13) (k := 1) hC fc_5 fl_RJx4a65c_9 dJx4a65c_add_9ea2d_13 rfl g5 (fun r6 hr6 => ?_)
  replace h := lt_x hr6 h
  refine x_aload_n (pc := 16) hC 0 dJx4a65c_add_9ea2d_16 rfl rfl ?_
  refine x_getIv (pc := 17) (k := 2) hC fc_5 fl_RJx4a65c_48 dJx4a65c_add_9ea2d_17 rfl g5 (fun x7 hx7 => ?_)
  replace h := lt_x hx7 h
  obtain ⟨o10, ho10, h⟩ := bd_some h
  refine x_callV (pc := 20) (As := [.ref a1, .ref r6, .int x7]) (rest := []) hC hl (c2_Jx4a65c_add_72be8 l hls ho10) lk_RJx4a65c_131 fc_5 g5 dJx4a65c_add_9ea2d_20 rfl rfl (Nat.le_of_ble_eq_true rfl) ⟨Nat.le_of_ble_eq_true rfl, Nat.le_of_ble_eq_true rfl⟩ ⟨(Nat.le_of_ble_eq_true rfl), (Nat.le_of_ble_eq_true rfl)⟩ ?_
  rcases o10 with ⟨_ | E11, S9⟩
  · refine xk_v ?_
    replace h := bk_l h
    refine x_iconst (pc := 23) (v := (1 : Int32)) hC dJx4a65c_add_9ea2d_23 (by decide) ?_
    exact x_zreturn (pc := 24) hC hE dJx4a65c_add_9ea2d_24 (show NF .boolean _ from ⟨rfl, rfl⟩).1 (so h) (Nat.le_of_ble_eq_true rfl) (Nat.le_of_ble_eq_true rfl)
  · exact xk_r (xt_out hC hE (bk_r h) (Nat.le_of_ble_eq_true rfl) (Nat.le_of_ble_eq_true rfl))
theorem c2_Jx4a65c_add_9ea2d (l : Launch) (hls : l.stackTraces = false) {S : mS} {a0 : Nat} {a1 : Nat} {o : Rs Int32} (h : f2_Jx4a65c_add_9ea2d S a0 a1 = some o) : CT (fun r : Int32 => some (.int r)) l yJx4a65c_add_9ea2d (.code yJx4a65c_add_9ea2d cJx4a65c_add_9ea2d 2 (Option.some Jvm.ClassFile.FieldType.boolean)) rm2_Jx4a65c_add_9ea2d S [.ref a0, .ref a1] o := ct_of (by decide +kernel) hls (Nat.le_of_ble_eq_true rfl) (fun C hl hC hE => t2_Jx4a65c_add_9ea2d hls hC hl hE h)
abbrev rm2_X13_addRecord : Room := { frames := 14, cells := 2, slots := 20, locals := 282 }
def f2_X13_addRecord_125  (S : mS) (a0 : Nat) (a1 : Int32) (a2 : Int32) (a3 : Int32) (a4 : Int32) (a5 : Int32) (a6 : Int32) (a7 : Int32) (s0 : Nat) (s1 : Int32) : Option (Rs Int32) :=
  gd (gK S s0 = 19) (bd (f_X13_isWrong S s0 s1) fun x2 S3 => if x2 = 0 then (gd (gK S3 a0 = 19) (lt9 (gR S3 a0 1) fun r7 => gd (gN S3 + 1 < KB) (zW (sW S3 18 0) fun S9 => lt9 (gN S3 + 1) fun r10 => bd (f_X12_init S9 r10 a1 a2 a3 a4 a5 a6 a7) fun _ S13 => gd (gK S13 r7 = 5) (bd (f2_Jx4a65c_add_9ea2d S13 r7 r10) fun x17 S18 => gd (gK S18 a0 = 19) (bd (f_X13_logs S18 a0) fun _ S23 => gd (gK S23 a0 = 19) (lt9 (gR S23 a0 1) fun r27 => gd (gK S23 r27 = 5) (bd (f_Jx4a65c_size_8abf5 S23 r27) fun x29 S30 => lt9 (x29 - (1 : Int32)) fun x33 => some (.inl x33, S30)))))))) else (some (.inl (0 : Int32), S3)))
set_option maxHeartbeats 2000000 in
set_option maxRecDepth 100000 in
theorem t2_X13_addRecord_125 {l : Launch} (hls : l.stackTraces = false) {C : cT} (hC : CX C cX13_addRecord 9 yX13_addRecord rm2_X13_addRecord) (hl : C.2.1 = l) {S0 : mS} (hE : CE C S0 (Option.some Jvm.ClassFile.FieldType.int) []) {o : Rs Int32} {S : mS} {a0 : Nat} {a1 : Int32} {a2 : Int32} {a3 : Int32} {a4 : Int32} {a5 : Int32} {a6 : Int32} {a7 : Int32} {s0 : Nat} {s1 : Int32} (h : f2_X13_addRecord_125  S a0 a1 a2 a3 a4 a5 a6 a7 s0 s1 = some o) : XX C 9 (QQ C (fun r : Int32 => some (.int r)) S0 o) (0) (0) S 125 [(0, .ref a0), (1, .int a1), (2, .int a2), (3, .int a3), (4, .int a4), (5, .int a5), (6, .int a6), (7, .int a7)] [.int s1, .ref s0] := by
  unfold f2_X13_addRecord_125 at h
  obtain ⟨g1, h⟩ := gd_some h
  obtain ⟨o4, ho4, h⟩ := bd_some h
  refine x_callV (pc := 125) (As := [.int s1]) (rest := []) hC hl (c_X13_isWrong l hls ho4) lk_RX13_68 fc_19 g1 dX13_addRecord_125 rfl rfl (Nat.le_of_ble_eq_true rfl) ⟨Nat.le_of_ble_eq_true rfl, Nat.le_of_ble_eq_true rfl⟩ ⟨(Nat.le_of_ble_eq_true rfl), (Nat.le_of_ble_eq_true rfl)⟩ ?_
  rcases o4 with ⟨x2 | E5, S3⟩
  · refine xk_i ?_
    replace h := bk_l h
    refine x_if_eq (pc := 128) hC 133 dX13_addRecord_128 (by decide) (fun c34 => ?_) (fun c34 => ?_)
    · rw [if_pos c34] at h
      refine x_aload_n (pc := 133) hC 0 dX13_addRecord_133 rfl rfl ?_
      obtain ⟨g6, h⟩ := gd_some h
      refine x_getRv (pc := 134) (k := 1) hC fc_19 fl_RX13_10 dX13_addRecord_134 rfl g6 (fun r7 hr7 => ?_)
      replace h := lt_x hr7 h
      obtain ⟨g8, h⟩ := gd_some h
      refine x_newv (pc := 137) hC fc_18 fn_18 wm_1737 wm_1738 wm_67 dX13_addRecord_137 g8 (Nat.le_of_ble_eq_true rfl) (Nat.le_of_ble_eq_true rfl) (fun S9 r10 hS9 hr10 => ?_)
      replace h := zW_x hS9 h
      replace h := lt_x hr10 h
      have g11 : gK S9 r10 = 18 := by rw [hr10, hS9]; exact sW_K
      refine x_dup (pc := 140) hC dX13_addRecord_140 rfl ?_
      refine x_iload_n (pc := 141) hC 1 dX13_addRecord_141 rfl rfl ?_
      refine x_iload_n (pc := 142) hC 2 dX13_addRecord_142 rfl rfl ?_
      refine x_iload_n (pc := 143) hC 3 dX13_addRecord_143 rfl rfl ?_
      refine x_iload (pc := 144) hC 4 dX13_addRecord_144 rfl ?_
      refine x_iload (pc := 146) hC 5 dX13_addRecord_146 rfl ?_
      refine x_iload (pc := 148) hC 6 dX13_addRecord_148 rfl ?_
      refine x_iload (pc := 150) hC 7 dX13_addRecord_150 rfl ?_
      obtain ⟨o14, ho14, h⟩ := bd_some h
      refine x_callI (pc := 152) (As := [.int a1, .int a2, .int a3, .int a4, .int a5, .int a6, .int a7]) (rest := [.ref r10, .ref r7]) hC hl (c_X12_init l hls ho14) lk_RX13_74 (by rw [g11]; decide) dX13_addRecord_152 rfl rfl (Nat.le_of_ble_eq_true rfl) ⟨Nat.le_of_ble_eq_true rfl, Nat.le_of_ble_eq_true rfl⟩ ⟨(Nat.le_of_ble_eq_true rfl), (Nat.le_of_ble_eq_true rfl)⟩ ?_
      rcases o14 with ⟨_ | E15, S13⟩
      · refine xk_v ?_
        replace h := bk_l h
        obtain ⟨g16, h⟩ := gd_some h
        obtain ⟨o19, ho19, h⟩ := bd_some h
        refine x_callF (pc := 155) (As := [.ref r10]) (rest := []) hC hl (c2_Jx4a65c_add_9ea2d l hls ho19) lk_RX13_77 fc_5 g16 dX13_addRecord_155 rfl rfl (Nat.le_of_ble_eq_true rfl) ⟨Nat.le_of_ble_eq_true rfl, Nat.le_of_ble_eq_true rfl⟩ ⟨(Nat.le_of_ble_eq_true rfl), (Nat.le_of_ble_eq_true rfl)⟩ ?_
        rcases o19 with ⟨x17 | E20, S18⟩
        · refine xk_i ?_
          replace h := bk_l h
          refine x_pop (pc := 160) hC dX13_addRecord_160 rfl ?_
          refine x_aload_n (pc := 161) hC 0 dX13_addRecord_161 rfl rfl ?_
          obtain ⟨g21, h⟩ := gd_some h
          obtain ⟨o24, ho24, h⟩ := bd_some h
          refine x_callV (pc := 162) (As := []) (rest := []) hC hl (c_X13_logs l hls ho24) lk_RX13_81 fc_19 g21 dX13_addRecord_162 rfl rfl (Nat.le_of_ble_eq_true rfl) ⟨Nat.le_of_ble_eq_true rfl, Nat.le_of_ble_eq_true rfl⟩ ⟨(Nat.le_of_ble_eq_true rfl), (Nat.le_of_ble_eq_true rfl)⟩ ?_
          rcases o24 with ⟨_ | E25, S23⟩
          · refine xk_v ?_
            replace h := bk_l h
            refine x_aload_n (pc := 165) hC 0 dX13_addRecord_165 rfl rfl ?_
            obtain ⟨g26, h⟩ := gd_some h
            refine x_getRv (pc := 166) (k := 1) hC fc_19 fl_RX13_10 dX13_addRecord_166 rfl g26 (fun r27 hr27 => ?_)
            replace h := lt_x hr27 h
            obtain ⟨g28, h⟩ := gd_some h
            obtain ⟨o31, ho31, h⟩ := bd_some h
            refine x_callF (pc := 169) (As := []) (rest := []) hC hl (c_Jx4a65c_size_8abf5 l hls ho31) lk_RX13_54 fc_5 g28 dX13_addRecord_169 rfl rfl (Nat.le_of_ble_eq_true rfl) ⟨Nat.le_of_ble_eq_true rfl, Nat.le_of_ble_eq_true rfl⟩ ⟨(Nat.le_of_ble_eq_true rfl), (Nat.le_of_ble_eq_true rfl)⟩ ?_
            rcases o31 with ⟨x29 | E32, S30⟩
            · refine xk_i ?_
              replace h := bk_l h
              refine x_iconst (pc := 174) (v := (1 : Int32)) hC dX13_addRecord_174 (by decide) ?_
              refine x_isubv (pc := 175) hC dX13_addRecord_175 (fun x33 hx33 => ?_)
              replace h := lt_x hx33 h
              exact x_ireturn (pc := 176) hC hE dX13_addRecord_176 (so h) (Nat.le_of_ble_eq_true rfl) (Nat.le_of_ble_eq_true rfl)
            · exact xk_r (xt_out hC hE (bk_r h) (Nat.le_of_ble_eq_true rfl) (Nat.le_of_ble_eq_true rfl))
          · exact xk_r (xt_out hC hE (bk_r h) (Nat.le_of_ble_eq_true rfl) (Nat.le_of_ble_eq_true rfl))
        · exact xk_r (xt_out hC hE (bk_r h) (Nat.le_of_ble_eq_true rfl) (Nat.le_of_ble_eq_true rfl))
      · exact xk_r (xt_out hC hE (bk_r h) (Nat.le_of_ble_eq_true rfl) (Nat.le_of_ble_eq_true rfl))
    · rw [if_neg c34] at h
      refine x_iconst (pc := 131) (v := (0 : Int32)) hC dX13_addRecord_131 (by decide) ?_
      exact x_ireturn (pc := 132) hC hE dX13_addRecord_132 (so h) (Nat.le_of_ble_eq_true rfl) (Nat.le_of_ble_eq_true rfl)
  · exact xk_r (xt_out hC hE (bk_r h) (Nat.le_of_ble_eq_true rfl) (Nat.le_of_ble_eq_true rfl))
def f2_X13_addRecord_94  (S : mS) (a0 : Nat) (a1 : Int32) (a2 : Int32) (a3 : Int32) (a4 : Int32) (a5 : Int32) (a6 : Int32) (a7 : Int32) (s0 : Int32) : Option (Rs Int32) :=
  if s0 = 0 then (f2_X13_addRecord_125  S a0 a1 a2 a3 a4 a5 a6 a7 a0 (1 : Int32)) else (gd (gK S a0 = 19) (lt9 (gR S a0 1) fun r2 => gd (gK S r2 = 5) (bd (f_Jx4a65c_size_8abf5 S r2) fun x4 S5 => if x4 = (12 : Int32) then (f2_X13_addRecord_125  S5 a0 a1 a2 a3 a4 a5 a6 a7 a0 (2 : Int32)) else (f2_X13_addRecord_125  S5 a0 a1 a2 a3 a4 a5 a6 a7 a0 (0 : Int32)))))
set_option maxHeartbeats 2000000 in
set_option maxRecDepth 100000 in
theorem t2_X13_addRecord_94 {l : Launch} (hls : l.stackTraces = false) {C : cT} (hC : CX C cX13_addRecord 9 yX13_addRecord rm2_X13_addRecord) (hl : C.2.1 = l) {S0 : mS} (hE : CE C S0 (Option.some Jvm.ClassFile.FieldType.int) []) {o : Rs Int32} {S : mS} {a0 : Nat} {a1 : Int32} {a2 : Int32} {a3 : Int32} {a4 : Int32} {a5 : Int32} {a6 : Int32} {a7 : Int32} {s0 : Int32} (h : f2_X13_addRecord_94  S a0 a1 a2 a3 a4 a5 a6 a7 s0 = some o) : XX C 9 (QQ C (fun r : Int32 => some (.int r)) S0 o) (0) (0) S 94 [(0, .ref a0), (1, .int a1), (2, .int a2), (3, .int a3), (4, .int a4), (5, .int a5), (6, .int a6), (7, .int a7)] [.int s0] := by
  unfold f2_X13_addRecord_94 at h
  refine x_istore (pc := 94) hC dX13_addRecord_94 (by decide) (by decide) rfl ?_
  refine x_aload_n (pc := 96) hC 1 dX13_addRecord_96 rfl rfl ?_
  refine x_iload (pc := 97) hC 0 dX13_addRecord_97 rfl ?_
  refine x_if_ne (pc := 99) hC 106 dX13_addRecord_99 (by decide) (fun c9 => ?_) (fun c9 => ?_)
  · rw [if_neg c9] at h
    refine x_aload_n (pc := 106) hC 1 dX13_addRecord_106 rfl rfl ?_
    obtain ⟨g1, h⟩ := gd_some h
    refine x_getRv (pc := 107) (k := 1) hC fc_19 fl_RX13_10 dX13_addRecord_107 rfl g1 (fun r2 hr2 => ?_)
    replace h := lt_x hr2 h
    obtain ⟨g3, h⟩ := gd_some h
    obtain ⟨o6, ho6, h⟩ := bd_some h
    refine x_callF (pc := 110) (As := []) (rest := [.ref a0]) hC hl (c_Jx4a65c_size_8abf5 l hls ho6) lk_RX13_54 fc_5 g3 dX13_addRecord_110 rfl rfl (Nat.le_of_ble_eq_true rfl) ⟨Nat.le_of_ble_eq_true rfl, Nat.le_of_ble_eq_true rfl⟩ ⟨(Nat.le_of_ble_eq_true rfl), (Nat.le_of_ble_eq_true rfl)⟩ ?_
    rcases o6 with ⟨x4 | E7, S5⟩
    · refine xk_i ?_
      replace h := bk_l h
      refine x_bipush (pc := 115) (v := (12 : Int32)) hC dX13_addRecord_115 (by decide) ?_
      refine x_icmp_ne (pc := 117) hC 124 dX13_addRecord_117 (by decide) (fun c8 => ?_) (fun c8 => ?_)
      · rw [if_neg c8] at h
        refine x_iconst (pc := 124) (v := (0 : Int32)) hC dX13_addRecord_124 (by decide) ?_
        refine x_pick [1, 2, 3, 4, 5, 6, 7, 8] rfl ?_
        exact t2_X13_addRecord_125 hls hC hl hE h
      · rw [if_pos c8] at h
        refine x_iconst (pc := 120) (v := (2 : Int32)) hC dX13_addRecord_120 (by decide) ?_
        refine x_goto (pc := 121) hC 125 dX13_addRecord_121 (by decide) ?_
        refine x_pick [1, 2, 3, 4, 5, 6, 7, 8] rfl ?_
        exact t2_X13_addRecord_125 hls hC hl hE h
    · exact xk_r (xt_out hC hE (bk_r h) (Nat.le_of_ble_eq_true rfl) (Nat.le_of_ble_eq_true rfl))
  · rw [if_pos c9] at h
    refine x_iconst (pc := 102) (v := (1 : Int32)) hC dX13_addRecord_102 (by decide) ?_
    refine x_goto (pc := 103) hC 125 dX13_addRecord_103 (by decide) ?_
    refine x_pick [1, 2, 3, 4, 5, 6, 7, 8] rfl ?_
    exact t2_X13_addRecord_125 hls hC hl hE h
def f2_X13_addRecord_93  (S : mS) (a0 : Nat) (a1 : Int32) (a2 : Int32) (a3 : Int32) (a4 : Int32) (a5 : Int32) (a6 : Int32) (a7 : Int32) : Option (Rs Int32) :=
  f2_X13_addRecord_94  S a0 a1 a2 a3 a4 a5 a6 a7 (0 : Int32)
set_option maxHeartbeats 2000000 in
set_option maxRecDepth 100000 in
theorem t2_X13_addRecord_93 {l : Launch} (hls : l.stackTraces = false) {C : cT} (hC : CX C cX13_addRecord 9 yX13_addRecord rm2_X13_addRecord) (hl : C.2.1 = l) {S0 : mS} (hE : CE C S0 (Option.some Jvm.ClassFile.FieldType.int) []) {o : Rs Int32} {S : mS} {a0 : Nat} {a1 : Int32} {a2 : Int32} {a3 : Int32} {a4 : Int32} {a5 : Int32} {a6 : Int32} {a7 : Int32} (h : f2_X13_addRecord_93  S a0 a1 a2 a3 a4 a5 a6 a7 = some o) : XX C 9 (QQ C (fun r : Int32 => some (.int r)) S0 o) (0) (0) S 93 [(0, .ref a0), (1, .int a1), (2, .int a2), (3, .int a3), (4, .int a4), (5, .int a5), (6, .int a6), (7, .int a7)] [] := by
  unfold f2_X13_addRecord_93 at h
  refine x_iconst (pc := 93) (v := (0 : Int32)) hC dX13_addRecord_93 (by decide) ?_
  refine x_pick [0, 1, 2, 3, 4, 5, 6, 7] rfl ?_
  exact t2_X13_addRecord_94 hls hC hl hE h
def f2_X13_addRecord_67  (S : mS) (a0 : Nat) (a1 : Int32) (a2 : Int32) (a3 : Int32) (a4 : Int32) (a5 : Int32) (a6 : Int32) (a7 : Int32) : Option (Rs Int32) :=
  bd (f_X13_isBetween S a6 (0 : Int32) (65535 : Int32)) fun x1 S2 => if x1 = 0 then (f2_X13_addRecord_93  S2 a0 a1 a2 a3 a4 a5 a6 a7) else (bd (f_X13_isBetween S2 a7 (0 : Int32) (65535 : Int32)) fun x5 S6 => if x5 = 0 then (f2_X13_addRecord_93  S6 a0 a1 a2 a3 a4 a5 a6 a7) else (f2_X13_addRecord_94  S6 a0 a1 a2 a3 a4 a5 a6 a7 (1 : Int32)))
set_option maxHeartbeats 2000000 in
set_option maxRecDepth 100000 in
theorem t2_X13_addRecord_67 {l : Launch} (hls : l.stackTraces = false) {C : cT} (hC : CX C cX13_addRecord 9 yX13_addRecord rm2_X13_addRecord) (hl : C.2.1 = l) {S0 : mS} (hE : CE C S0 (Option.some Jvm.ClassFile.FieldType.int) []) {o : Rs Int32} {S : mS} {a0 : Nat} {a1 : Int32} {a2 : Int32} {a3 : Int32} {a4 : Int32} {a5 : Int32} {a6 : Int32} {a7 : Int32} (h : f2_X13_addRecord_67  S a0 a1 a2 a3 a4 a5 a6 a7 = some o) : XX C 9 (QQ C (fun r : Int32 => some (.int r)) S0 o) (0) (0) S 67 [(0, .ref a0), (1, .int a1), (2, .int a2), (3, .int a3), (4, .int a4), (5, .int a5), (6, .int a6), (7, .int a7)] [] := by
  unfold f2_X13_addRecord_67 at h
  refine x_iload (pc := 67) hC 6 dX13_addRecord_67 rfl ?_
  refine x_iconst (pc := 69) (v := (0 : Int32)) hC dX13_addRecord_69 (by decide) ?_
  refine x_ldc (pc := 70) hC wm_1722 dX13_addRecord_70 ?_
  obtain ⟨o3, ho3, h⟩ := bd_some h
  refine x_callS (pc := 72) (As := [.int a6, .int (0 : Int32), .int (65535 : Int32)]) (rest := []) hC hl (c_X13_isBetween l hls ho3) lk_RX13_50 dX13_addRecord_72 rfl rfl (Nat.le_of_ble_eq_true rfl) ⟨Nat.le_of_ble_eq_true rfl, Nat.le_of_ble_eq_true rfl⟩ ⟨(Nat.le_of_ble_eq_true rfl), (Nat.le_of_ble_eq_true rfl)⟩ ?_
  rcases o3 with ⟨x1 | E4, S2⟩
  · refine xk_i ?_
    replace h := bk_l h
    refine x_if_eq (pc := 75) hC 93 dX13_addRecord_75 (by decide) (fun c10 => ?_) (fun c10 => ?_)
    · rw [if_pos c10] at h
      refine x_pick [0, 1, 2, 3, 4, 5, 6, 7] rfl ?_
      exact t2_X13_addRecord_93 hls hC hl hE h
    · rw [if_neg c10] at h
      refine x_iload (pc := 78) hC 7 dX13_addRecord_78 rfl ?_
      refine x_iconst (pc := 80) (v := (0 : Int32)) hC dX13_addRecord_80 (by decide) ?_
      refine x_ldc (pc := 81) hC wm_1722 dX13_addRecord_81 ?_
      obtain ⟨o7, ho7, h⟩ := bd_some h
      refine x_callS (pc := 83) (As := [.int a7, .int (0 : Int32), .int (65535 : Int32)]) (rest := []) hC hl (c_X13_isBetween l hls ho7) lk_RX13_50 dX13_addRecord_83 rfl rfl (Nat.le_of_ble_eq_true rfl) ⟨Nat.le_of_ble_eq_true rfl, Nat.le_of_ble_eq_true rfl⟩ ⟨(Nat.le_of_ble_eq_true rfl), (Nat.le_of_ble_eq_true rfl)⟩ ?_
      rcases o7 with ⟨x5 | E8, S6⟩
      · refine xk_i ?_
        replace h := bk_l h
        refine x_if_eq (pc := 86) hC 93 dX13_addRecord_86 (by decide) (fun c9 => ?_) (fun c9 => ?_)
        · rw [if_pos c9] at h
          refine x_pick [0, 1, 2, 3, 4, 5, 6, 7] rfl ?_
          exact t2_X13_addRecord_93 hls hC hl hE h
        · rw [if_neg c9] at h
          refine x_iconst (pc := 89) (v := (1 : Int32)) hC dX13_addRecord_89 (by decide) ?_
          refine x_goto (pc := 90) hC 94 dX13_addRecord_90 (by decide) ?_
          refine x_pick [0, 1, 2, 3, 4, 5, 6, 7] rfl ?_
          exact t2_X13_addRecord_94 hls hC hl hE h
      · exact xk_r (xt_out hC hE (bk_r h) (Nat.le_of_ble_eq_true rfl) (Nat.le_of_ble_eq_true rfl))
  · exact xk_r (xt_out hC hE (bk_r h) (Nat.le_of_ble_eq_true rfl) (Nat.le_of_ble_eq_true rfl))
def f2_X13_addRecord (S : mS) (a0 : Nat) (a1 : Int32) (a2 : Int32) (a3 : Int32) (a4 : Int32) (a5 : Int32) (a6 : Int32) (a7 : Int32) : Option (Rs Int32) :=
  bd (f_X13_isBetween S a1 (600 : Int32) (2000 : Int32)) fun x1 S2 => if x1 = 0 then (f2_X13_addRecord_93  S2 a0 a1 a2 a3 a4 a5 a6 a7) else (bd (f_X13_isBetween S2 a2 (16 : Int32) (999 : Int32)) fun x5 S6 => if x5 = 0 then (f2_X13_addRecord_93  S6 a0 a1 a2 a3 a4 a5 a6 a7) else (bd (f_X13_isBetween S6 a3 (0 : Int32) (23 : Int32)) fun x9 S10 => if x9 = 0 then (f2_X13_addRecord_93  S10 a0 a1 a2 a3 a4 a5 a6 a7) else (bd (f_X13_isBetween S10 a4 (0 : Int32) (9 : Int32)) fun x13 S14 => if x13 = 0 then (f2_X13_addRecord_93  S14 a0 a1 a2 a3 a4 a5 a6 a7) else (if a5 = (8 : Int32) then (f2_X13_addRecord_67  S14 a0 a1 a2 a3 a4 a5 a6 a7) else (if a5 = (16 : Int32) then (f2_X13_addRecord_67  S14 a0 a1 a2 a3 a4 a5 a6 a7) else (if a5 = (32 : Int32) then (f2_X13_addRecord_67  S14 a0 a1 a2 a3 a4 a5 a6 a7) else (f2_X13_addRecord_93  S14 a0 a1 a2 a3 a4 a5 a6 a7)))))))
set_option maxHeartbeats 2000000 in
set_option maxRecDepth 100000 in
theorem t2_X13_addRecord {l : Launch} (hls : l.stackTraces = false) {C : cT} (hC : CX C cX13_addRecord 9 yX13_addRecord rm2_X13_addRecord) (hl : C.2.1 = l) {S0 : mS} (hE : CE C S0 (Option.some Jvm.ClassFile.FieldType.int) []) {o : Rs Int32} {S : mS} {a0 : Nat} {a1 : Int32} {a2 : Int32} {a3 : Int32} {a4 : Int32} {a5 : Int32} {a6 : Int32} {a7 : Int32} (h : f2_X13_addRecord S a0 a1 a2 a3 a4 a5 a6 a7 = some o) : XX C 9 (QQ C (fun r : Int32 => some (.int r)) S0 o) 0 0 S 0 [(0, .ref a0), (1, .int a1), (2, .int a2), (3, .int a3), (4, .int a4), (5, .int a5), (6, .int a6), (7, .int a7)] [] := by
  unfold f2_X13_addRecord at h
  refine x_iload_n (pc := 0) hC 1 dX13_addRecord_0 rfl rfl ?_
  refine x_sipush (pc := 1) (v := (600 : Int32)) hC dX13_addRecord_1 (by decide) ?_
  refine x_sipush (pc := 4) (v := (2000 : Int32)) hC dX13_addRecord_4 (by decide) ?_
  obtain ⟨o3, ho3, h⟩ := bd_some h
  refine x_callS (pc := 7) (As := [.int a1, .int (600 : Int32), .int (2000 : Int32)]) (rest := []) hC hl (c_X13_isBetween l hls ho3) lk_RX13_50 dX13_addRecord_7 rfl rfl (Nat.le_of_ble_eq_true rfl) ⟨Nat.le_of_ble_eq_true rfl, Nat.le_of_ble_eq_true rfl⟩ ⟨(Nat.le_of_ble_eq_true rfl), (Nat.le_of_ble_eq_true rfl)⟩ ?_
  rcases o3 with ⟨x1 | E4, S2⟩
  · refine xk_i ?_
    replace h := bk_l h
    refine x_if_eq (pc := 10) hC 93 dX13_addRecord_10 (by decide) (fun c23 => ?_) (fun c23 => ?_)
    · rw [if_pos c23] at h
      refine x_pick [0, 1, 2, 3, 4, 5, 6, 7] rfl ?_
      exact t2_X13_addRecord_93 hls hC hl hE h
    · rw [if_neg c23] at h
      refine x_iload_n (pc := 13) hC 2 dX13_addRecord_13 rfl rfl ?_
      refine x_bipush (pc := 14) (v := (16 : Int32)) hC dX13_addRecord_14 (by decide) ?_
      refine x_sipush (pc := 16) (v := (999 : Int32)) hC dX13_addRecord_16 (by decide) ?_
      obtain ⟨o7, ho7, h⟩ := bd_some h
      refine x_callS (pc := 19) (As := [.int a2, .int (16 : Int32), .int (999 : Int32)]) (rest := []) hC hl (c_X13_isBetween l hls ho7) lk_RX13_50 dX13_addRecord_19 rfl rfl (Nat.le_of_ble_eq_true rfl) ⟨Nat.le_of_ble_eq_true rfl, Nat.le_of_ble_eq_true rfl⟩ ⟨(Nat.le_of_ble_eq_true rfl), (Nat.le_of_ble_eq_true rfl)⟩ ?_
      rcases o7 with ⟨x5 | E8, S6⟩
      · refine xk_i ?_
        replace h := bk_l h
        refine x_if_eq (pc := 22) hC 93 dX13_addRecord_22 (by decide) (fun c22 => ?_) (fun c22 => ?_)
        · rw [if_pos c22] at h
          refine x_pick [0, 1, 2, 3, 4, 5, 6, 7] rfl ?_
          exact t2_X13_addRecord_93 hls hC hl hE h
        · rw [if_neg c22] at h
          refine x_iload_n (pc := 25) hC 3 dX13_addRecord_25 rfl rfl ?_
          refine x_iconst (pc := 26) (v := (0 : Int32)) hC dX13_addRecord_26 (by decide) ?_
          refine x_bipush (pc := 27) (v := (23 : Int32)) hC dX13_addRecord_27 (by decide) ?_
          obtain ⟨o11, ho11, h⟩ := bd_some h
          refine x_callS (pc := 29) (As := [.int a3, .int (0 : Int32), .int (23 : Int32)]) (rest := []) hC hl (c_X13_isBetween l hls ho11) lk_RX13_50 dX13_addRecord_29 rfl rfl (Nat.le_of_ble_eq_true rfl) ⟨Nat.le_of_ble_eq_true rfl, Nat.le_of_ble_eq_true rfl⟩ ⟨(Nat.le_of_ble_eq_true rfl), (Nat.le_of_ble_eq_true rfl)⟩ ?_
          rcases o11 with ⟨x9 | E12, S10⟩
          · refine xk_i ?_
            replace h := bk_l h
            refine x_if_eq (pc := 32) hC 93 dX13_addRecord_32 (by decide) (fun c21 => ?_) (fun c21 => ?_)
            · rw [if_pos c21] at h
              refine x_pick [0, 1, 2, 3, 4, 5, 6, 7] rfl ?_
              exact t2_X13_addRecord_93 hls hC hl hE h
            · rw [if_neg c21] at h
              refine x_iload (pc := 35) hC 4 dX13_addRecord_35 rfl ?_
              refine x_iconst (pc := 37) (v := (0 : Int32)) hC dX13_addRecord_37 (by decide) ?_
              refine x_bipush (pc := 38) (v := (9 : Int32)) hC dX13_addRecord_38 (by decide) ?_
              obtain ⟨o15, ho15, h⟩ := bd_some h
              refine x_callS (pc := 40) (As := [.int a4, .int (0 : Int32), .int (9 : Int32)]) (rest := []) hC hl (c_X13_isBetween l hls ho15) lk_RX13_50 dX13_addRecord_40 rfl rfl (Nat.le_of_ble_eq_true rfl) ⟨Nat.le_of_ble_eq_true rfl, Nat.le_of_ble_eq_true rfl⟩ ⟨(Nat.le_of_ble_eq_true rfl), (Nat.le_of_ble_eq_true rfl)⟩ ?_
              rcases o15 with ⟨x13 | E16, S14⟩
              · refine xk_i ?_
                replace h := bk_l h
                refine x_if_eq (pc := 43) hC 93 dX13_addRecord_43 (by decide) (fun c20 => ?_) (fun c20 => ?_)
                · rw [if_pos c20] at h
                  refine x_pick [0, 1, 2, 3, 4, 5, 6, 7] rfl ?_
                  exact t2_X13_addRecord_93 hls hC hl hE h
                · rw [if_neg c20] at h
                  refine x_iload (pc := 46) hC 5 dX13_addRecord_46 rfl ?_
                  refine x_bipush (pc := 48) (v := (8 : Int32)) hC dX13_addRecord_48 (by decide) ?_
                  refine x_icmp_eq (pc := 50) hC 67 dX13_addRecord_50 (by decide) (fun c19 => ?_) (fun c19 => ?_)
                  · rw [if_pos c19] at h
                    refine x_pick [0, 1, 2, 3, 4, 5, 6, 7] rfl ?_
                    exact t2_X13_addRecord_67 hls hC hl hE h
                  · rw [if_neg c19] at h
                    refine x_iload (pc := 53) hC 5 dX13_addRecord_53 rfl ?_
                    refine x_bipush (pc := 55) (v := (16 : Int32)) hC dX13_addRecord_55 (by decide) ?_
                    refine x_icmp_eq (pc := 57) hC 67 dX13_addRecord_57 (by decide) (fun c18 => ?_) (fun c18 => ?_)
                    · rw [if_pos c18] at h
                      refine x_pick [0, 1, 2, 3, 4, 5, 6, 7] rfl ?_
                      exact t2_X13_addRecord_67 hls hC hl hE h
                    · rw [if_neg c18] at h
                      refine x_iload (pc := 60) hC 5 dX13_addRecord_60 rfl ?_
                      refine x_bipush (pc := 62) (v := (32 : Int32)) hC dX13_addRecord_62 (by decide) ?_
                      refine x_icmp_ne (pc := 64) hC 93 dX13_addRecord_64 (by decide) (fun c17 => ?_) (fun c17 => ?_)
                      · rw [if_neg c17] at h
                        refine x_pick [0, 1, 2, 3, 4, 5, 6, 7] rfl ?_
                        exact t2_X13_addRecord_93 hls hC hl hE h
                      · rw [if_pos c17] at h
                        refine x_pick [0, 1, 2, 3, 4, 5, 6, 7] rfl ?_
                        exact t2_X13_addRecord_67 hls hC hl hE h
              · exact xk_r (xt_out hC hE (bk_r h) (Nat.le_of_ble_eq_true rfl) (Nat.le_of_ble_eq_true rfl))
          · exact xk_r (xt_out hC hE (bk_r h) (Nat.le_of_ble_eq_true rfl) (Nat.le_of_ble_eq_true rfl))
      · exact xk_r (xt_out hC hE (bk_r h) (Nat.le_of_ble_eq_true rfl) (Nat.le_of_ble_eq_true rfl))
  · exact xk_r (xt_out hC hE (bk_r h) (Nat.le_of_ble_eq_true rfl) (Nat.le_of_ble_eq_true rfl))
theorem c2_X13_addRecord (l : Launch) (hls : l.stackTraces = false) {S : mS} {a0 : Nat} {a1 : Int32} {a2 : Int32} {a3 : Int32} {a4 : Int32} {a5 : Int32} {a6 : Int32} {a7 : Int32} {o : Rs Int32} (h : f2_X13_addRecord S a0 a1 a2 a3 a4 a5 a6 a7 = some o) : CT (fun r : Int32 => some (.int r)) l yX13_addRecord (.code yX13_addRecord cX13_addRecord 9 (Option.some Jvm.ClassFile.FieldType.int)) rm2_X13_addRecord S [.ref a0, .int a1, .int a2, .int a3, .int a4, .int a5, .int a6, .int a7] o := ct_of (by decide +kernel) hls (Nat.le_of_ble_eq_true rfl) (fun C hl hC hE => t2_X13_addRecord hls hC hl hE h)
abbrev rm2_J0_isLatin1_aae02 : Room := { frames := 8, cells := 0, slots := 0, locals := 150 }
def f2_J0_isLatin1_aae02_18  (S : mS) (s0 : Int32) : Option (Rs Int32) :=
  gd (s0 = 0 ∨ s0 = 1) (some (.inl s0, S))
set_option maxHeartbeats 2000000 in
set_option maxRecDepth 100000 in
theorem t2_J0_isLatin1_aae02_18 {l : Launch} (hls : l.stackTraces = false) {C : cT} (hC : CX C cJ0_isLatin1_aae02 1 yJ0_isLatin1_aae02 rm2_J0_isLatin1_aae02) (hl : C.2.1 = l) {S0 : mS} (hE : CE C S0 (Option.some Jvm.ClassFile.FieldType.boolean) []) {o : Rs Int32} {S : mS} {s0 : Int32} (h : f2_J0_isLatin1_aae02_18  S s0 = some o) : XX C 1 (QQ C (fun r : Int32 => some (.int r)) S0 o) (0) (0) S 18 [] [.int s0] := by
  unfold f2_J0_isLatin1_aae02_18 at h
  obtain ⟨g1, h⟩ := gd_some h
  exact x_zreturn (pc := 18) hC hE dJ0_isLatin1_aae02_18 (nf_B g1).1 (so h) (Nat.le_of_ble_eq_true rfl) (Nat.le_of_ble_eq_true rfl)
def f2_J0_isLatin1_aae02_17  (S : mS) : Option (Rs Int32) :=
  f2_J0_isLatin1_aae02_18  S (0 : Int32)
set_option maxHeartbeats 2000000 in
set_option maxRecDepth 100000 in
theorem t2_J0_isLatin1_aae02_17 {l : Launch} (hls : l.stackTraces = false) {C : cT} (hC : CX C cJ0_isLatin1_aae02 1 yJ0_isLatin1_aae02 rm2_J0_isLatin1_aae02) (hl : C.2.1 = l) {S0 : mS} (hE : CE C S0 (Option.some Jvm.ClassFile.FieldType.boolean) []) {o : Rs Int32} {S : mS} (h : f2_J0_isLatin1_aae02_17  S = some o) : XX C 1 (QQ C (fun r : Int32 => some (.int r)) S0 o) (0) (0) S 17 [] [] := by
  unfold f2_J0_isLatin1_aae02_17 at h
  refine x_iconst (pc := 17) (v := (0 : Int32)) hC dJ0_isLatin1_aae02_17 (by decide) ?_
  refine x_pick [] rfl ?_
  exact t2_J0_isLatin1_aae02_18 hls hC hl hE h
def f2_J0_isLatin1_aae02 (S : mS) (a0 : Nat) : Option (Rs Int32) :=
  if (1 : Int32) = 0 then (f2_J0_isLatin1_aae02_17  S) else (gd ((a0 < KB ∧ gK S a0 = 1) ∨ (KB ≤ a0 ∧ a0 < KB + 3)) (lt9 (if a0 < KB then gI S a0 1 else 0) fun x2 => if x2 = 0 then (f2_J0_isLatin1_aae02_18  S (1 : Int32)) else (f2_J0_isLatin1_aae02_17  S)))
set_option maxHeartbeats 2000000 in
set_option maxRecDepth 100000 in
theorem t2_J0_isLatin1_aae02 {l : Launch} (hls : l.stackTraces = false) {C : cT} (hC : CX C cJ0_isLatin1_aae02 1 yJ0_isLatin1_aae02 rm2_J0_isLatin1_aae02) (hl : C.2.1 = l) {S0 : mS} (hE : CE C S0 (Option.some Jvm.ClassFile.FieldType.boolean) []) {o : Rs Int32} {S : mS} {a0 : Nat} (h : f2_J0_isLatin1_aae02 S a0 = some o) : XX C 1 (QQ C (fun r : Int32 => some (.int r)) S0 o) 0 0 S 0 [(0, .ref a0)] [] := by
  unfold f2_J0_isLatin1_aae02 at h
  refine x_getsCO (pc := 0) hC wm_2037 dJ0_isLatin1_aae02_0 ?_
  refine x_if_eq (pc := 3) hC 17 dJ0_isLatin1_aae02_3 (by decide) (fun c4 => ?_) (fun c4 => ?_)
  · rw [if_pos c4] at h
    refine x_pick [] rfl ?_
    exact t2_J0_isLatin1_aae02_17 hls hC hl hE h
  · rw [if_neg c4] at h
    refine x_aload_n (pc := 6) hC 0 dJ0_isLatin1_aae02_6 rfl rfl ?_
    obtain ⟨g1, h⟩ := gd_some h
    refine x_getScv (pc := 7) hC wm_2555 dJ0_isLatin1_aae02_7 g1 (fun x2 hx2 => ?_)
    replace h := lt_x hx2 h
    refine x_if_ne (pc := 10) hC 17 dJ0_isLatin1_aae02_10 (by decide) (fun c3 => ?_) (fun c3 => ?_)
    · rw [if_neg c3] at h
      refine x_pick [] rfl ?_
      exact t2_J0_isLatin1_aae02_17 hls hC hl hE h
    · rw [if_pos c3] at h
      refine x_iconst (pc := 13) (v := (1 : Int32)) hC dJ0_isLatin1_aae02_13 (by decide) ?_
      refine x_goto (pc := 14) hC 18 dJ0_isLatin1_aae02_14 (by decide) ?_
      refine x_pick [] rfl ?_
      exact t2_J0_isLatin1_aae02_18 hls hC hl hE h
theorem c2_J0_isLatin1_aae02 (l : Launch) (hls : l.stackTraces = false) {S : mS} {a0 : Nat} {o : Rs Int32} (h : f2_J0_isLatin1_aae02 S a0 = some o) : CT (fun r : Int32 => some (.int r)) l yJ0_isLatin1_aae02 (.code yJ0_isLatin1_aae02 cJ0_isLatin1_aae02 1 (Option.some Jvm.ClassFile.FieldType.boolean)) rm2_J0_isLatin1_aae02 S [.ref a0] o := ct_of (by decide +kernel) hls (Nat.le_of_ble_eq_true rfl) (fun C hl hC hE => t2_J0_isLatin1_aae02 hls hC hl hE h)
abbrev rm2_J0_coder_7d493 : Room := { frames := 8, cells := 0, slots := 0, locals := 150 }
def f2_J0_coder_7d493_14  (S : mS) (s0 : Int32) : Option (Rs Int32) :=
  gd (s0.toInt8.toInt32 = s0) (some (.inl s0, S))
set_option maxHeartbeats 2000000 in
set_option maxRecDepth 100000 in
theorem t2_J0_coder_7d493_14 {l : Launch} (hls : l.stackTraces = false) {C : cT} (hC : CX C cJ0_coder_7d493 1 yJ0_coder_7d493 rm2_J0_coder_7d493) (hl : C.2.1 = l) {S0 : mS} (hE : CE C S0 (Option.some Jvm.ClassFile.FieldType.byte) []) {o : Rs Int32} {S : mS} {s0 : Int32} (h : f2_J0_coder_7d493_14  S s0 = some o) : XX C 1 (QQ C (fun r : Int32 => some (.int r)) S0 o) (0) (0) S 14 [] [.int s0] := by
  unfold f2_J0_coder_7d493_14 at h
  obtain ⟨g1, h⟩ := gd_some h
  exact x_zreturn (pc := 14) hC hE dJ0_coder_7d493_14 (nf_Y g1).1 (so h) (Nat.le_of_ble_eq_true rfl) (Nat.le_of_ble_eq_true rfl)
def f2_J0_coder_7d493 (S : mS) (a0 : Nat) : Option (Rs Int32) :=
  if (1 : Int32) = 0 then (f2_J0_coder_7d493_14  S (1 : Int32)) else (gd ((a0 < KB ∧ gK S a0 = 1) ∨ (KB ≤ a0 ∧ a0 < KB + 3)) (lt9 (if a0 < KB then gI S a0 1 else 0) fun x2 => f2_J0_coder_7d493_14  S x2))
set_option maxHeartbeats 2000000 in
set_option maxRecDepth 100000 in
theorem t2_J0_coder_7d493 {l : Launch} (hls : l.stackTraces = false) {C : cT} (hC : CX C cJ0_coder_7d493 1 yJ0_coder_7d493 rm2_J0_coder_7d493) (hl : C.2.1 = l) {S0 : mS} (hE : CE C S0 (Option.some Jvm.ClassFile.FieldType.byte) []) {o : Rs Int32} {S : mS} {a0 : Nat} (h : f2_J0_coder_7d493 S a0 = some o) : XX C 1 (QQ C (fun r : Int32 => some (.int r)) S0 o) 0 0 S 0 [(0, .ref a0)] [] := by
  unfold f2_J0_coder_7d493 at h
  refine x_getsCO (pc := 0) hC wm_2037 dJ0_coder_7d493_0 ?_
  refine x_if_eq (pc := 3) hC 13 dJ0_coder_7d493_3 (by decide) (fun c3 => ?_) (fun c3 => ?_)
  · rw [if_pos c3] at h
    refine x_iconst (pc := 13) (v := (1 : Int32)) hC dJ0_coder_7d493_13 (by decide) ?_
    refine x_pick [] rfl ?_
    exact t2_J0_coder_7d493_14 hls hC hl hE h
  · rw [if_neg c3] at h
    refine x_aload_n (pc := 6) hC 0 dJ0_coder_7d493_6 rfl rfl ?_
    obtain ⟨g1, h⟩ := gd_some h
    refine x_getScv (pc := 7) hC wm_2555 dJ0_coder_7d493_7 g1 (fun x2 hx2 => ?_)
    replace h := lt_x hx2 h
    refine x_goto (pc := 10) hC 14 dJ0_coder_7d493_10 (by decide) ?_
    refine x_pick [] rfl ?_
    exact t2_J0_coder_7d493_14 hls hC hl hE h
theorem c2_J0_coder_7d493 (l : Launch) (hls : l.stackTraces = false) {S : mS} {a0 : Nat} {o : Rs Int32} (h : f2_J0_coder_7d493 S a0 = some o) : CT (fun r : Int32 => some (.int r)) l yJ0_coder_7d493 (.code yJ0_coder_7d493 cJ0_coder_7d493 1 (Option.some Jvm.ClassFile.FieldType.byte)) rm2_J0_coder_7d493 S [.ref a0] o := ct_of (by decide +kernel) hls (Nat.le_of_ble_eq_true rfl) (fun C hl hC hE => t2_J0_coder_7d493 hls hC hl hE h)
abbrev rm2_J0_length_8abf5 : Room := { frames := 9, cells := 0, slots := 0, locals := 170 }
def f2_J0_length_8abf5 (S : mS) (a0 : Nat) : Option (Rs Int32) :=
  gd ((a0 < KB ∧ gK S a0 = 1) ∨ (KB ≤ a0 ∧ a0 < KB + 3)) (lt9 (if a0 < KB then gR S a0 0 else a0 + 10) fun r2 => gd ((r2 < KB ∧ gK S r2 = 33) ∨ (KB + 10 ≤ r2 ∧ r2 < KB + 13)) (lt9 (Int32.ofNat (zb S r2)) fun x4 => gd ((a0 < KB ∧ gK S a0 = 1) ∨ (KB ≤ a0 ∧ a0 < KB + 3)) (bd (f2_J0_coder_7d493 S a0) fun x6 S7 => lt9 (x4 >>> (x6 &&& 31)) fun x10 => some (.inl x10, S7))))
set_option maxHeartbeats 2000000 in
set_option maxRecDepth 100000 in
theorem t2_J0_length_8abf5 {l : Launch} (hls : l.stackTraces = false) {C : cT} (hC : CX C cJ0_length_8abf5 1 yJ0_length_8abf5 rm2_J0_length_8abf5) (hl : C.2.1 = l) {S0 : mS} (hE : CE C S0 (Option.some Jvm.ClassFile.FieldType.int) []) {o : Rs Int32} {S : mS} {a0 : Nat} (h : f2_J0_length_8abf5 S a0 = some o) : XX C 1 (QQ C (fun r : Int32 => some (.int r)) S0 o) 0 0 S 0 [(0, .ref a0)] [] := by
  unfold f2_J0_length_8abf5 at h
  refine x_aload_n (pc := 0) hC 0 dJ0_length_8abf5_0 rfl rfl ?_
  obtain ⟨g1, h⟩ := gd_some h
  refine x_getSvv (pc := 1) hC wm_2554 dJ0_length_8abf5_1 g1 (fun r2 hr2 => ?_)
  replace h := lt_x hr2 h
  obtain ⟨g3, h⟩ := gd_some h
  refine x_alenB (pc := 4) hC dJ0_length_8abf5_4 g3 (fun x4 hx4 => ?_)
  replace h := lt_x hx4 h
  refine x_aload_n (pc := 5) hC 0 dJ0_length_8abf5_5 rfl rfl ?_
  obtain ⟨g5, h⟩ := gd_some h
  obtain ⟨o8, ho8, h⟩ := bd_some h
  refine x_callVS (pc := 6) (As := []) (rest := [.int x4]) hC hl (c2_J0_coder_7d493 l hls ho8) lk_RJ0_335 rfl g5 dJ0_length_8abf5_6 rfl rfl (Nat.le_of_ble_eq_true rfl) ⟨Nat.le_of_ble_eq_true rfl, Nat.le_of_ble_eq_true rfl⟩ ⟨(Nat.le_of_ble_eq_true rfl), (Nat.le_of_ble_eq_true rfl)⟩ ?_
  rcases o8 with ⟨x6 | E9, S7⟩
  · refine xk_i ?_
    replace h := bk_l h
    refine x_ishrv (pc := 9) hC dJ0_length_8abf5_9 (fun x10 hx10 => ?_)
    replace h := lt_x hx10 h
    exact x_ireturn (pc := 10) hC hE dJ0_length_8abf5_10 (so h) (Nat.le_of_ble_eq_true rfl) (Nat.le_of_ble_eq_true rfl)
  · exact xk_r (xt_out hC hE (bk_r h) (Nat.le_of_ble_eq_true rfl) (Nat.le_of_ble_eq_true rfl))
theorem c2_J0_length_8abf5 (l : Launch) (hls : l.stackTraces = false) {S : mS} {a0 : Nat} {o : Rs Int32} (h : f2_J0_length_8abf5 S a0 = some o) : CT (fun r : Int32 => some (.int r)) l yJ0_length_8abf5 (.code yJ0_length_8abf5 cJ0_length_8abf5 1 (Option.some Jvm.ClassFile.FieldType.int)) rm2_J0_length_8abf5 S [.ref a0] o := ct_of (by decide +kernel) hls (Nat.le_of_ble_eq_true rfl) (fun C hl hC hE => t2_J0_length_8abf5 hls hC hl hE h)
abbrev rm2_J1_indexOfChar_4cfef : Room := { frames := 8, cells := 0, slots := 0, locals := 150 }
def f2_J1_indexOfChar_4cfef_7  : Nat → mS → Nat → Int32 → Int32 → Int32 → Option (Rs Int32)
  | 0, _, _, _, _, _ => none
  | k + 1, S, a0, a3, a4, a5 => if a3 ≤ a5 then (some (.inl (-1 : Int32), S)) else (gd ((a0 < KB ∧ gK S a0 = 33) ∨ (KB + 10 ≤ a0 ∧ a0 < KB + 13)) (gd (¬ (a5 < 0 ∨ zb S a0 ≤ (a5).toNatClampNeg)) (lt9 (ib S a0 (a5).toNatClampNeg) fun x3 => if x3 = a4 then (some (.inl a5, S)) else (lt9 (a5 + Int32.ofInt (1)) fun x4 => f2_J1_indexOfChar_4cfef_7 k S a0 a3 a4 x4))))
set_option maxHeartbeats 2000000 in
set_option maxRecDepth 100000 in
theorem t2_J1_indexOfChar_4cfef_7 {l : Launch} (hls : l.stackTraces = false) {C : cT} (hC : CX C cJ1_indexOfChar_4cfef 6 yJ1_indexOfChar_4cfef rm2_J1_indexOfChar_4cfef) (hl : C.2.1 = l) {S0 : mS} (hE : CE C S0 (Option.some Jvm.ClassFile.FieldType.int) []) {o : Rs Int32} : ∀ (k : Nat) (S : mS) (a0 : Nat) (a3 : Int32) (a4 : Int32) (a5 : Int32), f2_J1_indexOfChar_4cfef_7  k S a0 a3 a4 a5 = some o → XX C 6 (QQ C (fun r : Int32 => some (.int r)) S0 o) (0) (0) S 7 [(0, .ref a0), (3, .int a3), (4, .int a4), (5, .int a5)] [] := by
  intro k
  induction k with
  | zero => intro S a0 a3 a4 a5 h; cases h
  | succ k ih =>
    intro S a0 a3 a4 a5 h
    unfold f2_J1_indexOfChar_4cfef_7 at h
    refine x_iload (pc := 7) hC 3 dJ1_indexOfChar_4cfef_7 rfl ?_
    refine x_iload_n (pc := 9) hC 1 dJ1_indexOfChar_4cfef_9 rfl rfl ?_
    refine x_icmp_ge (pc := 10) hC 31 dJ1_indexOfChar_4cfef_10 (by decide) (fun c6 => ?_) (fun c6 => ?_)
    · rw [if_pos c6] at h
      refine x_iconst (pc := 31) (v := (-1 : Int32)) hC dJ1_indexOfChar_4cfef_31 (by decide) ?_
      exact x_ireturn (pc := 32) hC hE dJ1_indexOfChar_4cfef_32 (so h) (Nat.le_of_ble_eq_true rfl) (Nat.le_of_ble_eq_true rfl)
    · rw [if_neg c6] at h
      refine x_aload_n (pc := 13) hC 0 dJ1_indexOfChar_4cfef_13 rfl rfl ?_
      refine x_iload (pc := 14) hC 3 dJ1_indexOfChar_4cfef_14 rfl ?_
      obtain ⟨g1, h⟩ := gd_some h
      obtain ⟨g2, h⟩ := gd_some h
      refine x_yaldB (pc := 16) hC dJ1_indexOfChar_4cfef_16 g1 g2 (fun x3 hx3 => ?_)
      replace h := lt_x hx3 h
      refine x_iload (pc := 17) hC 2 dJ1_indexOfChar_4cfef_17 rfl ?_
      refine x_icmp_ne (pc := 19) hC 25 dJ1_indexOfChar_4cfef_19 (by decide) (fun c5 => ?_) (fun c5 => ?_)
      · rw [if_neg c5] at h
        obtain ⟨x4, hx4⟩ : ∃ z, z = (a5 + Int32.ofInt (1)) := ⟨_, rfl⟩
        replace h := lt_x hx4 h
        refine x_iinc (pc := 25) hC 3 dJ1_indexOfChar_4cfef_25 rfl hx4.symm (by decide) (by decide) rfl ?_
        refine x_goto (pc := 28) hC 7 dJ1_indexOfChar_4cfef_28 (by decide) ?_
        refine x_pick [1, 2, 3, 0] rfl ?_
        exact ih _ _ _ _ _ h
      · rw [if_pos c5] at h
        refine x_iload (pc := 22) hC 3 dJ1_indexOfChar_4cfef_22 rfl ?_
        exact x_ireturn (pc := 24) hC hE dJ1_indexOfChar_4cfef_24 (so h) (Nat.le_of_ble_eq_true rfl) (Nat.le_of_ble_eq_true rfl)
def f2_J1_indexOfChar_4cfef (S : mS) (a0 : Nat) (a1 : Int32) (a2 : Int32) (a3 : Int32) : Option (Rs Int32) :=
  lt9 ((a1).toInt8.toInt32) fun x1 => f2_J1_indexOfChar_4cfef_7  16 S a0 a3 x1 a2
set_option maxHeartbeats 2000000 in
set_option maxRecDepth 100000 in
theorem t2_J1_indexOfChar_4cfef {l : Launch} (hls : l.stackTraces = false) {C : cT} (hC : CX C cJ1_indexOfChar_4cfef 6 yJ1_indexOfChar_4cfef rm2_J1_indexOfChar_4cfef) (hl : C.2.1 = l) {S0 : mS} (hE : CE C S0 (Option.some Jvm.ClassFile.FieldType.int) []) {o : Rs Int32} {S : mS} {a0 : Nat} {a1 : Int32} {a2 : Int32} {a3 : Int32} (h : f2_J1_indexOfChar_4cfef S a0 a1 a2 a3 = some o) : XX C 6 (QQ C (fun r : Int32 => some (.int r)) S0 o) 0 0 S 0 [(0, .ref a0), (1, .int a1), (2, .int a2), (3, .int a3)] [] := by
  unfold f2_J1_indexOfChar_4cfef at h
  refine x_iload_n (pc := 0) hC 1 dJ1_indexOfChar_4cfef_0 rfl rfl ?_
  refine x_i2bv (pc := 1) hC dJ1_indexOfChar_4cfef_1 (fun x1 hx1 => ?_)
  replace h := lt_x hx1 h
  refine x_istore (pc := 2) hC dJ1_indexOfChar_4cfef_2 (by decide) (by decide) rfl ?_
  refine x_iload_n (pc := 4) hC 3 dJ1_indexOfChar_4cfef_4 rfl rfl ?_
  refine x_istore (pc := 5) hC dJ1_indexOfChar_4cfef_5 (by decide) (by decide) rfl ?_
  refine x_pick [2, 5, 1, 0] rfl ?_
  exact t2_J1_indexOfChar_4cfef_7 hls hC hl hE 16 _ _ _ _ _ h
theorem c2_J1_indexOfChar_4cfef (l : Launch) (hls : l.stackTraces = false) {S : mS} {a0 : Nat} {a1 : Int32} {a2 : Int32} {a3 : Int32} {o : Rs Int32} (h : f2_J1_indexOfChar_4cfef S a0 a1 a2 a3 = some o) : CT (fun r : Int32 => some (.int r)) l yJ1_indexOfChar_4cfef (.code yJ1_indexOfChar_4cfef cJ1_indexOfChar_4cfef 6 (Option.some Jvm.ClassFile.FieldType.int)) rm2_J1_indexOfChar_4cfef S [.ref a0, .int a1, .int a2, .int a3] o := ct_of (by decide +kernel) hls (Nat.le_of_ble_eq_true rfl) (fun C hl hC hE => t2_J1_indexOfChar_4cfef hls hC hl hE h)
abbrev rm2_J1_indexOf_4cfef : Room := { frames := 9, cells := 0, slots := 0, locals := 175 }
def f2_J1_indexOf_4cfef (S : mS) (a0 : Nat) (a1 : Int32) (a2 : Int32) (a3 : Int32) : Option (Rs Int32) :=
  bd (f_J1_canEncode_9a6ad S a1) fun x1 S2 => if x1 = 0 then (some (.inl (-1 : Int32), S2)) else (lt9 (if a2 < (0 : Int32) then (0 : Int32) else a2) fun x5 => gd ((a0 < KB ∧ gK S2 a0 = 33) ∨ (KB + 10 ≤ a0 ∧ a0 < KB + 13)) (lt9 (Int32.ofNat (zb S2 a0)) fun x7 => lt9 (if x7 < a3 then x7 else a3) fun x8 => if x5 < x8 then (bd (f2_J1_indexOfChar_4cfef S2 a0 a1 x5 x8) fun x9 S10 => some (.inl x9, S10)) else (some (.inl (-1 : Int32), S2))))
set_option maxHeartbeats 2000000 in
set_option maxRecDepth 100000 in
theorem t2_J1_indexOf_4cfef {l : Launch} (hls : l.stackTraces = false) {C : cT} (hC : CX C cJ1_indexOf_4cfef 4 yJ1_indexOf_4cfef rm2_J1_indexOf_4cfef) (hl : C.2.1 = l) {S0 : mS} (hE : CE C S0 (Option.some Jvm.ClassFile.FieldType.int) []) {o : Rs Int32} {S : mS} {a0 : Nat} {a1 : Int32} {a2 : Int32} {a3 : Int32} (h : f2_J1_indexOf_4cfef S a0 a1 a2 a3 = some o) : XX C 4 (QQ C (fun r : Int32 => some (.int r)) S0 o) 0 0 S 0 [(0, .ref a0), (1, .int a1), (2, .int a2), (3, .int a3)] [] := by
  unfold f2_J1_indexOf_4cfef at h
  refine x_iload_n (pc := 0) hC 1 dJ1_indexOf_4cfef_0 rfl rfl ?_
  obtain ⟨o3, ho3, h⟩ := bd_some h
  refine x_callS (pc := 1) (As := [.int a1]) (rest := []) hC hl (c_J1_canEncode_9a6ad l hls ho3) lk_RJ1_88 dJ1_indexOf_4cfef_1 rfl rfl (Nat.le_of_ble_eq_true rfl) ⟨Nat.le_of_ble_eq_true rfl, Nat.le_of_ble_eq_true rfl⟩ ⟨(Nat.le_of_ble_eq_true rfl), (Nat.le_of_ble_eq_true rfl)⟩ ?_
  rcases o3 with ⟨x1 | E4, S2⟩
  · refine xk_i ?_
    replace h := bk_l h
    refine x_if_ne (pc := 4) hC 9 dJ1_indexOf_4cfef_4 (by decide) (fun c14 => ?_) (fun c14 => ?_)
    · rw [if_neg c14] at h
      refine x_iload_n (pc := 9) hC 2 dJ1_indexOf_4cfef_9 rfl rfl ?_
      refine x_iconst (pc := 10) (v := (0 : Int32)) hC dJ1_indexOf_4cfef_10 (by decide) ?_
      refine x_mmax (pc := 11) hC wm_2053 wm_650 wm_69 wm_651 dJ1_indexOf_4cfef_11 (Nat.le_of_ble_eq_true rfl) (Nat.le_of_ble_eq_true rfl) (Nat.le_of_ble_eq_true rfl) (Nat.le_of_ble_eq_true rfl) (fun x5 hx5 => ?_)
      replace h := lt_x hx5 h
      refine x_istore_n (pc := 14) hC dJ1_indexOf_4cfef_14 rfl (by decide) (by decide) rfl ?_
      refine x_iload_n (pc := 15) hC 3 dJ1_indexOf_4cfef_15 rfl rfl ?_
      refine x_aload_n (pc := 16) hC 1 dJ1_indexOf_4cfef_16 rfl rfl ?_
      obtain ⟨g6, h⟩ := gd_some h
      refine x_alenB (pc := 17) hC dJ1_indexOf_4cfef_17 g6 (fun x7 hx7 => ?_)
      replace h := lt_x hx7 h
      refine x_mmin (pc := 18) hC wm_2054 wm_598 wm_69 wm_599 dJ1_indexOf_4cfef_18 (Nat.le_of_ble_eq_true rfl) (Nat.le_of_ble_eq_true rfl) (Nat.le_of_ble_eq_true rfl) (Nat.le_of_ble_eq_true rfl) (fun x8 hx8 => ?_)
      replace h := lt_x hx8 h
      refine x_istore_n (pc := 21) hC dJ1_indexOf_4cfef_21 rfl (by decide) (by decide) rfl ?_
      refine x_iload_n (pc := 22) hC 1 dJ1_indexOf_4cfef_22 rfl rfl ?_
      refine x_iload_n (pc := 23) hC 0 dJ1_indexOf_4cfef_23 rfl rfl ?_
      refine x_icmp_lt (pc := 24) hC 29 dJ1_indexOf_4cfef_24 (by decide) (fun c13 => ?_) (fun c13 => ?_)
      · rw [if_pos c13] at h
        refine x_aload_n (pc := 29) hC 2 dJ1_indexOf_4cfef_29 rfl rfl ?_
        refine x_iload_n (pc := 30) hC 3 dJ1_indexOf_4cfef_30 rfl rfl ?_
        refine x_iload_n (pc := 31) hC 1 dJ1_indexOf_4cfef_31 rfl rfl ?_
        refine x_iload_n (pc := 32) hC 0 dJ1_indexOf_4cfef_32 rfl rfl ?_
        obtain ⟨o11, ho11, h⟩ := bd_some h
        refine x_callS (pc := 33) (As := [.ref a0, .int a1, .int x5, .int x8]) (rest := []) hC hl (c2_J1_indexOfChar_4cfef l hls ho11) lk_RJ1_95 dJ1_indexOf_4cfef_33 rfl rfl (Nat.le_of_ble_eq_true rfl) ⟨Nat.le_of_ble_eq_true rfl, Nat.le_of_ble_eq_true rfl⟩ ⟨(Nat.le_of_ble_eq_true rfl), (Nat.le_of_ble_eq_true rfl)⟩ ?_
        rcases o11 with ⟨x9 | E12, S10⟩
        · refine xk_i ?_
          replace h := bk_l h
          exact x_ireturn (pc := 36) hC hE dJ1_indexOf_4cfef_36 (so h) (Nat.le_of_ble_eq_true rfl) (Nat.le_of_ble_eq_true rfl)
        · exact xk_r (xt_out hC hE (bk_r h) (Nat.le_of_ble_eq_true rfl) (Nat.le_of_ble_eq_true rfl))
      · rw [if_neg c13] at h
        refine x_iconst (pc := 27) (v := (-1 : Int32)) hC dJ1_indexOf_4cfef_27 (by decide) ?_
        exact x_ireturn (pc := 28) hC hE dJ1_indexOf_4cfef_28 (so h) (Nat.le_of_ble_eq_true rfl) (Nat.le_of_ble_eq_true rfl)
    · rw [if_pos c14] at h
      refine x_iconst (pc := 7) (v := (-1 : Int32)) hC dJ1_indexOf_4cfef_7 (by decide) ?_
      exact x_ireturn (pc := 8) hC hE dJ1_indexOf_4cfef_8 (so h) (Nat.le_of_ble_eq_true rfl) (Nat.le_of_ble_eq_true rfl)
  · exact xk_r (xt_out hC hE (bk_r h) (Nat.le_of_ble_eq_true rfl) (Nat.le_of_ble_eq_true rfl))
theorem c2_J1_indexOf_4cfef (l : Launch) (hls : l.stackTraces = false) {S : mS} {a0 : Nat} {a1 : Int32} {a2 : Int32} {a3 : Int32} {o : Rs Int32} (h : f2_J1_indexOf_4cfef S a0 a1 a2 a3 = some o) : CT (fun r : Int32 => some (.int r)) l yJ1_indexOf_4cfef (.code yJ1_indexOf_4cfef cJ1_indexOf_4cfef 4 (Option.some Jvm.ClassFile.FieldType.int)) rm2_J1_indexOf_4cfef S [.ref a0, .int a1, .int a2, .int a3] o := ct_of (by decide +kernel) hls (Nat.le_of_ble_eq_true rfl) (fun C hl hC hE => t2_J1_indexOf_4cfef hls hC hl hE h)
abbrev rm2_J0_checkBoundsBeginEnd_23922 : Room := { frames := 9, cells := 0, slots := 0, locals := 173 }
def f2_J0_checkBoundsBeginEnd_23922 (S : mS) (a0 : Int32) (a1 : Int32) (a2 : Int32) : Option (Rs Unit) :=
  bd (f_J3_checkFromToIndex_8c36e S a0 a1 a2 (KB + 21)) fun x1 S2 => some (.inl (), S2)
set_option maxHeartbeats 2000000 in
set_option maxRecDepth 100000 in
theorem t2_J0_checkBoundsBeginEnd_23922 {l : Launch} (hls : l.stackTraces = false) {C : cT} (hC : CX C cJ0_checkBoundsBeginEnd_23922 3 yJ0_checkBoundsBeginEnd_23922 rm2_J0_checkBoundsBeginEnd_23922) (hl : C.2.1 = l) {S0 : mS} (hE : CE C S0 (Option.none : Option Jvm.ClassFile.FieldType) []) {o : Rs Unit} {S : mS} {a0 : Int32} {a1 : Int32} {a2 : Int32} (h : f2_J0_checkBoundsBeginEnd_23922 S a0 a1 a2 = some o) : XX C 3 (QQ C (fun _ : Unit => none) S0 o) 0 0 S 0 [(0, .int a0), (1, .int a1), (2, .int a2)] [] := by
  unfold f2_J0_checkBoundsBeginEnd_23922 at h
  refine x_iload_n (pc := 0) hC 0 dJ0_checkBoundsBeginEnd_23922_0 rfl rfl ?_
  refine x_iload_n (pc := 1) hC 1 dJ0_checkBoundsBeginEnd_23922_1 rfl rfl ?_
  refine x_iload_n (pc := 2) hC 2 dJ0_checkBoundsBeginEnd_23922_2 rfl rfl ?_
  refine x_getsSF (pc := 3) hC wm_2076 dJ0_checkBoundsBeginEnd_23922_3 (fun w9 => ?_)
  obtain ⟨o3, ho3, h⟩ := bd_some h
  refine x_callS (pc := 6) (As := [.int a0, .int a1, .int a2, .ref w9]) (rest := []) hC hl (c_J3_checkFromToIndex_8c36e l hls (Eq.trans sf_J3_checkFromToIndex_8c36e ho3)) lk_RJ0_1062 dJ0_checkBoundsBeginEnd_23922_6 rfl rfl (Nat.le_of_ble_eq_true rfl) ⟨Nat.le_of_ble_eq_true rfl, Nat.le_of_ble_eq_true rfl⟩ ⟨(Nat.le_of_ble_eq_true rfl), (Nat.le_of_ble_eq_true rfl)⟩ ?_
  rcases o3 with ⟨x1 | E4, S2⟩
  · refine xk_i ?_
    replace h := bk_l h
    refine x_pop (pc := 9) hC dJ0_checkBoundsBeginEnd_23922_9 rfl ?_
    exact x_vreturn (pc := 10) hC hE dJ0_checkBoundsBeginEnd_23922_10 (so h) (Nat.le_of_ble_eq_true rfl) (Nat.le_of_ble_eq_true rfl)
  · exact xk_r (xt_out hC hE (bk_r h) (Nat.le_of_ble_eq_true rfl) (Nat.le_of_ble_eq_true rfl))
theorem c2_J0_checkBoundsBeginEnd_23922 (l : Launch) (hls : l.stackTraces = false) {S : mS} {a0 : Int32} {a1 : Int32} {a2 : Int32} {o : Rs Unit} (h : f2_J0_checkBoundsBeginEnd_23922 S a0 a1 a2 = some o) : CT (fun _ : Unit => none) l yJ0_checkBoundsBeginEnd_23922 (.code yJ0_checkBoundsBeginEnd_23922 cJ0_checkBoundsBeginEnd_23922 3 (Option.none : Option Jvm.ClassFile.FieldType)) rm2_J0_checkBoundsBeginEnd_23922 S [.int a0, .int a1, .int a2] o := ct_of (by decide +kernel) hls (Nat.le_of_ble_eq_true rfl) (fun C hl hC hE => t2_J0_checkBoundsBeginEnd_23922 hls hC hl hE h)
abbrev rm2_J2_length_9d52b : Room := { frames := 8, cells := 0, slots := 0, locals := 150 }
def f2_J2_length_9d52b (S : mS) (a0 : Nat) : Option (Rs Int32) :=
  gd ((a0 < KB ∧ gK S a0 = 33) ∨ (KB + 10 ≤ a0 ∧ a0 < KB + 13)) (lt9 (Int32.ofNat (zb S a0)) fun x2 => lt9 (x2 >>> ((1 : Int32) &&& 31)) fun x3 => some (.inl x3, S))
set_option maxHeartbeats 2000000 in
set_option maxRecDepth 100000 in
theorem t2_J2_length_9d52b {l : Launch} (hls : l.stackTraces = false) {C : cT} (hC : CX C cJ2_length_9d52b 1 yJ2_length_9d52b rm2_J2_length_9d52b) (hl : C.2.1 = l) {S0 : mS} (hE : CE C S0 (Option.some Jvm.ClassFile.FieldType.int) []) {o : Rs Int32} {S : mS} {a0 : Nat} (h : f2_J2_length_9d52b S a0 = some o) : XX C 1 (QQ C (fun r : Int32 => some (.int r)) S0 o) 0 0 S 0 [(0, .ref a0)] [] := by
  unfold f2_J2_length_9d52b at h
  refine x_aload_n (pc := 0) hC 0 dJ2_length_9d52b_0 rfl rfl ?_
  obtain ⟨g1, h⟩ := gd_some h
  refine x_alenB (pc := 1) hC dJ2_length_9d52b_1 g1 (fun x2 hx2 => ?_)
  replace h := lt_x hx2 h
  refine x_iconst (pc := 2) (v := (1 : Int32)) hC dJ2_length_9d52b_2 (by decide) ?_
  refine x_ishrv (pc := 3) hC dJ2_length_9d52b_3 (fun x3 hx3 => ?_)
  replace h := lt_x hx3 h
  exact x_ireturn (pc := 4) hC hE dJ2_length_9d52b_4 (so h) (Nat.le_of_ble_eq_true rfl) (Nat.le_of_ble_eq_true rfl)
theorem c2_J2_length_9d52b (l : Launch) (hls : l.stackTraces = false) {S : mS} {a0 : Nat} {o : Rs Int32} (h : f2_J2_length_9d52b S a0 = some o) : CT (fun r : Int32 => some (.int r)) l yJ2_length_9d52b (.code yJ2_length_9d52b cJ2_length_9d52b 1 (Option.some Jvm.ClassFile.FieldType.int)) rm2_J2_length_9d52b S [.ref a0] o := ct_of (by decide +kernel) hls (Nat.le_of_ble_eq_true rfl) (fun C hl hC hE => t2_J2_length_9d52b hls hC hl hE h)
abbrev rm2_J2_checkBoundsBeginEnd_d044e : Room := { frames := 10, cells := 0, slots := 0, locals := 195 }
def f2_J2_checkBoundsBeginEnd_d044e (S : mS) (a0 : Int32) (a1 : Int32) (a2 : Nat) : Option (Rs Unit) :=
  bd (f2_J2_length_9d52b S a2) fun x1 S2 => bd (f2_J0_checkBoundsBeginEnd_23922 S2 a0 a1 x1) fun _ S6 => some (.inl (), S6)
set_option maxHeartbeats 2000000 in
set_option maxRecDepth 100000 in
theorem t2_J2_checkBoundsBeginEnd_d044e {l : Launch} (hls : l.stackTraces = false) {C : cT} (hC : CX C cJ2_checkBoundsBeginEnd_d044e 3 yJ2_checkBoundsBeginEnd_d044e rm2_J2_checkBoundsBeginEnd_d044e) (hl : C.2.1 = l) {S0 : mS} (hE : CE C S0 (Option.none : Option Jvm.ClassFile.FieldType) []) {o : Rs Unit} {S : mS} {a0 : Int32} {a1 : Int32} {a2 : Nat} (h : f2_J2_checkBoundsBeginEnd_d044e S a0 a1 a2 = some o) : XX C 3 (QQ C (fun _ : Unit => none) S0 o) 0 0 S 0 [(0, .int a0), (1, .int a1), (2, .ref a2)] [] := by
  unfold f2_J2_checkBoundsBeginEnd_d044e at h
  refine x_iload_n (pc := 0) hC 0 dJ2_checkBoundsBeginEnd_d044e_0 rfl rfl ?_
  refine x_iload_n (pc := 1) hC 1 dJ2_checkBoundsBeginEnd_d044e_1 rfl rfl ?_
  refine x_aload_n (pc := 2) hC 2 dJ2_checkBoundsBeginEnd_d044e_2 rfl rfl ?_
  obtain ⟨o3, ho3, h⟩ := bd_some h
  refine x_callS (pc := 3) (As := [.ref a2]) (rest := [.int a1, .int a0]) hC hl (c2_J2_length_9d52b l hls ho3) lk_RJ2_48 dJ2_checkBoundsBeginEnd_d044e_3 rfl rfl (Nat.le_of_ble_eq_true rfl) ⟨Nat.le_of_ble_eq_true rfl, Nat.le_of_ble_eq_true rfl⟩ ⟨(Nat.le_of_ble_eq_true rfl), (Nat.le_of_ble_eq_true rfl)⟩ ?_
  rcases o3 with ⟨x1 | E4, S2⟩
  · refine xk_i ?_
    replace h := bk_l h
    obtain ⟨o7, ho7, h⟩ := bd_some h
    refine x_callS (pc := 6) (As := [.int a0, .int a1, .int x1]) (rest := []) hC hl (c2_J0_checkBoundsBeginEnd_23922 l hls ho7) lk_RJ2_241 dJ2_checkBoundsBeginEnd_d044e_6 rfl rfl (Nat.le_of_ble_eq_true rfl) ⟨Nat.le_of_ble_eq_true rfl, Nat.le_of_ble_eq_true rfl⟩ ⟨(Nat.le_of_ble_eq_true rfl), (Nat.le_of_ble_eq_true rfl)⟩ ?_
    rcases o7 with ⟨_ | E8, S6⟩
    · refine xk_v ?_
      replace h := bk_l h
      exact x_vreturn (pc := 9) hC hE dJ2_checkBoundsBeginEnd_d044e_9 (so h) (Nat.le_of_ble_eq_true rfl) (Nat.le_of_ble_eq_true rfl)
    · exact xk_r (xt_out hC hE (bk_r h) (Nat.le_of_ble_eq_true rfl) (Nat.le_of_ble_eq_true rfl))
  · exact xk_r (xt_out hC hE (bk_r h) (Nat.le_of_ble_eq_true rfl) (Nat.le_of_ble_eq_true rfl))
theorem c2_J2_checkBoundsBeginEnd_d044e (l : Launch) (hls : l.stackTraces = false) {S : mS} {a0 : Int32} {a1 : Int32} {a2 : Nat} {o : Rs Unit} (h : f2_J2_checkBoundsBeginEnd_d044e S a0 a1 a2 = some o) : CT (fun _ : Unit => none) l yJ2_checkBoundsBeginEnd_d044e (.code yJ2_checkBoundsBeginEnd_d044e cJ2_checkBoundsBeginEnd_d044e 3 (Option.none : Option Jvm.ClassFile.FieldType)) rm2_J2_checkBoundsBeginEnd_d044e S [.int a0, .int a1, .ref a2] o := ct_of (by decide +kernel) hls (Nat.le_of_ble_eq_true rfl) (fun C hl hC hE => t2_J2_checkBoundsBeginEnd_d044e hls hC hl hE h)
abbrev rm2_J2_getChar_3b067 : Room := { frames := 9, cells := 0, slots := 0, locals := 170 }
def f2_J2_getChar_3b067_28  (S : mS) (a0 : Nat) (a1 : Int32) : Option (Rs Int32) :=
  lt9 (a1 <<< ((1 : Int32) &&& 31)) fun x1 => lt9 (x1 + Int32.ofInt (1)) fun x2 => gd ((a0 < KB ∧ gK S a0 = 33) ∨ (KB + 10 ≤ a0 ∧ a0 < KB + 13)) (gd (¬ (x1 < 0 ∨ zb S a0 ≤ (x1).toNatClampNeg)) (lt9 (ib S a0 (x1).toNatClampNeg) fun x5 => lt9 (x5 &&& (255 : Int32)) fun x6 => lt9 (x6 <<< ((0 : Int32) &&& 31)) fun x7 => gd ((a0 < KB ∧ gK S a0 = 33) ∨ (KB + 10 ≤ a0 ∧ a0 < KB + 13)) (gd (¬ (x2 < 0 ∨ zb S a0 ≤ (x2).toNatClampNeg)) (lt9 (ib S a0 (x2).toNatClampNeg) fun x10 => lt9 (x10 &&& (255 : Int32)) fun x11 => lt9 (x11 <<< ((8 : Int32) &&& 31)) fun x12 => lt9 (x7 ||| x12) fun x13 => lt9 (((x13).toUInt32 % 65536).toInt32) fun x14 => gd ((x14.toUInt32.toUInt16.toUInt32.toInt32 = x14 ∧ 0 ≤ x14) ∧ x14 ≤ 65535) (some (.inl x14, S))))))
set_option maxHeartbeats 2000000 in
set_option maxRecDepth 100000 in
theorem t2_J2_getChar_3b067_28 {l : Launch} (hls : l.stackTraces = false) {C : cT} (hC : CX C cJ2_getChar_3b067 2 yJ2_getChar_3b067 rm2_J2_getChar_3b067) (hl : C.2.1 = l) {S0 : mS} (hE : CE C S0 (Option.some Jvm.ClassFile.FieldType.char) []) {o : Rs Int32} {S : mS} {a0 : Nat} {a1 : Int32} (h : f2_J2_getChar_3b067_28  S a0 a1 = some o) : XX C 2 (QQ C (fun r : Int32 => some (.int r)) S0 o) (0) (0) S 28 [(0, .ref a0), (1, .int a1)] [] := by
  unfold f2_J2_getChar_3b067_28 at h
  refine x_iload_n (pc := 28) hC 1 dJ2_getChar_3b067_28 rfl rfl ?_
  refine x_iconst (pc := 29) (v := (1 : Int32)) hC dJ2_getChar_3b067_29 (by decide) ?_
  refine x_ishlv (pc := 30) hC dJ2_getChar_3b067_30 (fun x1 hx1 => ?_)
  replace h := lt_x hx1 h
  refine x_istore_n (pc := 31) hC dJ2_getChar_3b067_31 rfl (by decide) (by decide) rfl ?_
  refine x_aload_n (pc := 32) hC 1 dJ2_getChar_3b067_32 rfl rfl ?_
  refine x_iload_n (pc := 33) hC 0 dJ2_getChar_3b067_33 rfl rfl ?_
  obtain ⟨x2, hx2⟩ : ∃ z, z = (x1 + Int32.ofInt (1)) := ⟨_, rfl⟩
  replace h := lt_x hx2 h
  refine x_iinc (pc := 34) hC 0 dJ2_getChar_3b067_34 rfl hx2.symm (by decide) (by decide) rfl ?_
  obtain ⟨g3, h⟩ := gd_some h
  obtain ⟨g4, h⟩ := gd_some h
  refine x_yaldB (pc := 37) hC dJ2_getChar_3b067_37 g3 g4 (fun x5 hx5 => ?_)
  replace h := lt_x hx5 h
  refine x_sipush (pc := 38) (v := (255 : Int32)) hC dJ2_getChar_3b067_38 (by decide) ?_
  refine x_iandv (pc := 41) hC dJ2_getChar_3b067_41 (fun x6 hx6 => ?_)
  replace h := lt_x hx6 h
  refine x_getsHI (pc := 42) hC wm_2089 dJ2_getChar_3b067_42 ?_
  refine x_ishlv (pc := 45) hC dJ2_getChar_3b067_45 (fun x7 hx7 => ?_)
  replace h := lt_x hx7 h
  refine x_aload_n (pc := 46) hC 1 dJ2_getChar_3b067_46 rfl rfl ?_
  refine x_iload_n (pc := 47) hC 0 dJ2_getChar_3b067_47 rfl rfl ?_
  obtain ⟨g8, h⟩ := gd_some h
  obtain ⟨g9, h⟩ := gd_some h
  refine x_yaldB (pc := 48) hC dJ2_getChar_3b067_48 g8 g9 (fun x10 hx10 => ?_)
  replace h := lt_x hx10 h
  refine x_sipush (pc := 49) (v := (255 : Int32)) hC dJ2_getChar_3b067_49 (by decide) ?_
  refine x_iandv (pc := 52) hC dJ2_getChar_3b067_52 (fun x11 hx11 => ?_)
  replace h := lt_x hx11 h
  refine x_getsLO (pc := 53) hC wm_2091 dJ2_getChar_3b067_53 ?_
  refine x_ishlv (pc := 56) hC dJ2_getChar_3b067_56 (fun x12 hx12 => ?_)
  replace h := lt_x hx12 h
  refine x_iorv (pc := 57) hC dJ2_getChar_3b067_57 (fun x13 hx13 => ?_)
  replace h := lt_x hx13 h
  refine x_i2cv (pc := 58) hC dJ2_getChar_3b067_58 (fun x14 hx14 => ?_)
  replace h := lt_x hx14 h
  obtain ⟨g15, h⟩ := gd_some h
  exact x_zreturn (pc := 59) hC hE dJ2_getChar_3b067_59 (nf_C g15).1 (so h) (Nat.le_of_ble_eq_true rfl) (Nat.le_of_ble_eq_true rfl)
def f2_J2_getChar_3b067_18  (S : mS) : Option (Rs Int32) :=
  none
set_option maxHeartbeats 2000000 in
set_option maxRecDepth 100000 in
theorem t2_J2_getChar_3b067_18 {l : Launch} (hls : l.stackTraces = false) {C : cT} (hC : CX C cJ2_getChar_3b067 2 yJ2_getChar_3b067 rm2_J2_getChar_3b067) (hl : C.2.1 = l) {S0 : mS} (hE : CE C S0 (Option.some Jvm.ClassFile.FieldType.char) []) {o : Rs Int32} {S : mS} (h : f2_J2_getChar_3b067_18  S = some o) : XX C 2 (QQ C (fun r : Int32 => some (.int r)) S0 o) (0) (0) S 18 [] [] := by
  unfold f2_J2_getChar_3b067_18 at h
  cases h
def f2_J2_getChar_3b067 (S : mS) (a0 : Nat) (a1 : Int32) : Option (Rs Int32) :=
  if (1 : Int32) = 0 then (if a1 < 0 then (f2_J2_getChar_3b067_18  S) else (bd (f2_J2_length_9d52b S a0) fun x1 S2 => if a1 < x1 then (f2_J2_getChar_3b067_28  S2 a0 a1) else (f2_J2_getChar_3b067_18  S2))) else (f2_J2_getChar_3b067_28  S a0 a1)
set_option maxHeartbeats 2000000 in
set_option maxRecDepth 100000 in
theorem t2_J2_getChar_3b067 {l : Launch} (hls : l.stackTraces = false) {C : cT} (hC : CX C cJ2_getChar_3b067 2 yJ2_getChar_3b067 rm2_J2_getChar_3b067) (hl : C.2.1 = l) {S0 : mS} (hE : CE C S0 (Option.some Jvm.ClassFile.FieldType.char) []) {o : Rs Int32} {S : mS} {a0 : Nat} {a1 : Int32} (h : f2_J2_getChar_3b067 S a0 a1 = some o) : XX C 2 (QQ C (fun r : Int32 => some (.int r)) S0 o) 0 0 S 0 [(0, .ref a0), (1, .int a1)] [] := by
  unfold f2_J2_getChar_3b067 at h
  refine x_getsAS (pc := 0) hC wm_2087 dJ2_getChar_3b067_0 ?_
  refine x_if_ne (pc := 3) hC 28 dJ2_getChar_3b067_3 (by decide) (fun c7 => ?_) (fun c7 => ?_)
  · rw [if_neg c7] at h
    refine x_pick [0, 1] rfl ?_
    exact t2_J2_getChar_3b067_28 hls hC hl hE h
  · rw [if_pos c7] at h
    refine x_iload_n (pc := 6) hC 1 dJ2_getChar_3b067_6 rfl rfl ?_
    refine x_if_lt (pc := 7) hC 18 dJ2_getChar_3b067_7 (by decide) (fun c6 => ?_) (fun c6 => ?_)
    · rw [if_pos c6] at h
      refine x_pick [] rfl ?_
      exact t2_J2_getChar_3b067_18 hls hC hl hE h
    · rw [if_neg c6] at h
      refine x_iload_n (pc := 10) hC 1 dJ2_getChar_3b067_10 rfl rfl ?_
      refine x_aload_n (pc := 11) hC 0 dJ2_getChar_3b067_11 rfl rfl ?_
      obtain ⟨o3, ho3, h⟩ := bd_some h
      refine x_callS (pc := 12) (As := [.ref a0]) (rest := [.int a1]) hC hl (c2_J2_length_9d52b l hls ho3) lk_RJ2_48 dJ2_getChar_3b067_12 rfl rfl (Nat.le_of_ble_eq_true rfl) ⟨Nat.le_of_ble_eq_true rfl, Nat.le_of_ble_eq_true rfl⟩ ⟨(Nat.le_of_ble_eq_true rfl), (Nat.le_of_ble_eq_true rfl)⟩ ?_
      rcases o3 with ⟨x1 | E4, S2⟩
      · refine xk_i ?_
        replace h := bk_l h
        refine x_icmp_lt (pc := 15) hC 28 dJ2_getChar_3b067_15 (by decide) (fun c5 => ?_) (fun c5 => ?_)
        · rw [if_pos c5] at h
          refine x_pick [0, 1] rfl ?_
          exact t2_J2_getChar_3b067_28 hls hC hl hE h
        · rw [if_neg c5] at h
          refine x_pick [] rfl ?_
          exact t2_J2_getChar_3b067_18 hls hC hl hE h
      · exact xk_r (xt_out hC hE (bk_r h) (Nat.le_of_ble_eq_true rfl) (Nat.le_of_ble_eq_true rfl))
theorem c2_J2_getChar_3b067 (l : Launch) (hls : l.stackTraces = false) {S : mS} {a0 : Nat} {a1 : Int32} {o : Rs Int32} (h : f2_J2_getChar_3b067 S a0 a1 = some o) : CT (fun r : Int32 => some (.int r)) l yJ2_getChar_3b067 (.code yJ2_getChar_3b067 cJ2_getChar_3b067 2 (Option.some Jvm.ClassFile.FieldType.char)) rm2_J2_getChar_3b067 S [.ref a0, .int a1] o := ct_of (by decide +kernel) hls (Nat.le_of_ble_eq_true rfl) (fun C hl hC hE => t2_J2_getChar_3b067 hls hC hl hE h)
abbrev rm2_J2_indexOfCharUnsafe_4cfef : Room := { frames := 10, cells := 0, slots := 0, locals := 191 }
def f2_J2_indexOfCharUnsafe_4cfef_3  : Nat → mS → Nat → Int32 → Int32 → Int32 → Option (Rs Int32)
  | 0, _, _, _, _, _ => none
  | k + 1, S, a0, a1, a3, a4 => if a3 ≤ a4 then (some (.inl (-1 : Int32), S)) else (bd (f2_J2_getChar_3b067 S a0 a4) fun x1 S2 => if x1 = a1 then (some (.inl a4, S2)) else (lt9 (a4 + Int32.ofInt (1)) fun x5 => f2_J2_indexOfCharUnsafe_4cfef_3 k S2 a0 a1 a3 x5))
set_option maxHeartbeats 2000000 in
set_option maxRecDepth 100000 in
theorem t2_J2_indexOfCharUnsafe_4cfef_3 {l : Launch} (hls : l.stackTraces = false) {C : cT} (hC : CX C cJ2_indexOfCharUnsafe_4cfef 5 yJ2_indexOfCharUnsafe_4cfef rm2_J2_indexOfCharUnsafe_4cfef) (hl : C.2.1 = l) {S0 : mS} (hE : CE C S0 (Option.some Jvm.ClassFile.FieldType.int) []) {o : Rs Int32} : ∀ (k : Nat) (S : mS) (a0 : Nat) (a1 : Int32) (a3 : Int32) (a4 : Int32), f2_J2_indexOfCharUnsafe_4cfef_3  k S a0 a1 a3 a4 = some o → XX C 5 (QQ C (fun r : Int32 => some (.int r)) S0 o) (0) (0) S 3 [(0, .ref a0), (1, .int a1), (3, .int a3), (4, .int a4)] [] := by
  intro k
  induction k with
  | zero => intro S a0 a1 a3 a4 h; cases h
  | succ k ih =>
    intro S a0 a1 a3 a4 h
    unfold f2_J2_indexOfCharUnsafe_4cfef_3 at h
    refine x_iload (pc := 3) hC 3 dJ2_indexOfCharUnsafe_4cfef_3 rfl ?_
    refine x_iload_n (pc := 5) hC 2 dJ2_indexOfCharUnsafe_4cfef_5 rfl rfl ?_
    refine x_icmp_ge (pc := 6) hC 28 dJ2_indexOfCharUnsafe_4cfef_6 (by decide) (fun c7 => ?_) (fun c7 => ?_)
    · rw [if_pos c7] at h
      refine x_iconst (pc := 28) (v := (-1 : Int32)) hC dJ2_indexOfCharUnsafe_4cfef_28 (by decide) ?_
      exact x_ireturn (pc := 29) hC hE dJ2_indexOfCharUnsafe_4cfef_29 (so h) (Nat.le_of_ble_eq_true rfl) (Nat.le_of_ble_eq_true rfl)
    · rw [if_neg c7] at h
      refine x_aload_n (pc := 9) hC 0 dJ2_indexOfCharUnsafe_4cfef_9 rfl rfl ?_
      refine x_iload (pc := 10) hC 3 dJ2_indexOfCharUnsafe_4cfef_10 rfl ?_
      obtain ⟨o3, ho3, h⟩ := bd_some h
      refine x_callS (pc := 12) (As := [.ref a0, .int a4]) (rest := []) hC hl (c2_J2_getChar_3b067 l hls ho3) lk_RJ2_71 dJ2_indexOfCharUnsafe_4cfef_12 rfl rfl (Nat.le_of_ble_eq_true rfl) ⟨Nat.le_of_ble_eq_true rfl, Nat.le_of_ble_eq_true rfl⟩ ⟨(Nat.le_of_ble_eq_true rfl), (Nat.le_of_ble_eq_true rfl)⟩ ?_
      rcases o3 with ⟨x1 | E4, S2⟩
      · refine xk_i ?_
        replace h := bk_l h
        refine x_iload_n (pc := 15) hC 1 dJ2_indexOfCharUnsafe_4cfef_15 rfl rfl ?_
        refine x_icmp_ne (pc := 16) hC 22 dJ2_indexOfCharUnsafe_4cfef_16 (by decide) (fun c6 => ?_) (fun c6 => ?_)
        · rw [if_neg c6] at h
          obtain ⟨x5, hx5⟩ : ∃ z, z = (a4 + Int32.ofInt (1)) := ⟨_, rfl⟩
          replace h := lt_x hx5 h
          refine x_iinc (pc := 22) hC 3 dJ2_indexOfCharUnsafe_4cfef_22 rfl hx5.symm (by decide) (by decide) rfl ?_
          refine x_goto (pc := 25) hC 3 dJ2_indexOfCharUnsafe_4cfef_25 (by decide) ?_
          refine x_pick [1, 2, 3, 0] rfl ?_
          exact ih _ _ _ _ _ h
        · rw [if_pos c6] at h
          refine x_iload (pc := 19) hC 3 dJ2_indexOfCharUnsafe_4cfef_19 rfl ?_
          exact x_ireturn (pc := 21) hC hE dJ2_indexOfCharUnsafe_4cfef_21 (so h) (Nat.le_of_ble_eq_true rfl) (Nat.le_of_ble_eq_true rfl)
      · exact xk_r (xt_out hC hE (bk_r h) (Nat.le_of_ble_eq_true rfl) (Nat.le_of_ble_eq_true rfl))
def f2_J2_indexOfCharUnsafe_4cfef (S : mS) (a0 : Nat) (a1 : Int32) (a2 : Int32) (a3 : Int32) : Option (Rs Int32) :=
  f2_J2_indexOfCharUnsafe_4cfef_3  16 S a0 a1 a3 a2
set_option maxHeartbeats 2000000 in
set_option maxRecDepth 100000 in
theorem t2_J2_indexOfCharUnsafe_4cfef {l : Launch} (hls : l.stackTraces = false) {C : cT} (hC : CX C cJ2_indexOfCharUnsafe_4cfef 5 yJ2_indexOfCharUnsafe_4cfef rm2_J2_indexOfCharUnsafe_4cfef) (hl : C.2.1 = l) {S0 : mS} (hE : CE C S0 (Option.some Jvm.ClassFile.FieldType.int) []) {o : Rs Int32} {S : mS} {a0 : Nat} {a1 : Int32} {a2 : Int32} {a3 : Int32} (h : f2_J2_indexOfCharUnsafe_4cfef S a0 a1 a2 a3 = some o) : XX C 5 (QQ C (fun r : Int32 => some (.int r)) S0 o) 0 0 S 0 [(0, .ref a0), (1, .int a1), (2, .int a2), (3, .int a3)] [] := by
  unfold f2_J2_indexOfCharUnsafe_4cfef at h
  refine x_iload_n (pc := 0) hC 2 dJ2_indexOfCharUnsafe_4cfef_0 rfl rfl ?_
  refine x_istore (pc := 1) hC dJ2_indexOfCharUnsafe_4cfef_1 (by decide) (by decide) rfl ?_
  refine x_pick [1, 2, 4, 0] rfl ?_
  exact t2_J2_indexOfCharUnsafe_4cfef_3 hls hC hl hE 16 _ _ _ _ _ h
theorem c2_J2_indexOfCharUnsafe_4cfef (l : Launch) (hls : l.stackTraces = false) {S : mS} {a0 : Nat} {a1 : Int32} {a2 : Int32} {a3 : Int32} {o : Rs Int32} (h : f2_J2_indexOfCharUnsafe_4cfef S a0 a1 a2 a3 = some o) : CT (fun r : Int32 => some (.int r)) l yJ2_indexOfCharUnsafe_4cfef (.code yJ2_indexOfCharUnsafe_4cfef cJ2_indexOfCharUnsafe_4cfef 5 (Option.some Jvm.ClassFile.FieldType.int)) rm2_J2_indexOfCharUnsafe_4cfef S [.ref a0, .int a1, .int a2, .int a3] o := ct_of (by decide +kernel) hls (Nat.le_of_ble_eq_true rfl) (fun C hl hC hE => t2_J2_indexOfCharUnsafe_4cfef hls hC hl hE h)
abbrev rm2_J2_indexOfChar_4cfef : Room := { frames := 11, cells := 0, slots := 0, locals := 217 }
def f2_J2_indexOfChar_4cfef (S : mS) (a0 : Nat) (a1 : Int32) (a2 : Int32) (a3 : Int32) : Option (Rs Int32) :=
  bd (f2_J2_checkBoundsBeginEnd_d044e S a2 a3 a0) fun _ S2 => bd (f2_J2_indexOfCharUnsafe_4cfef S2 a0 a1 a2 a3) fun x5 S6 => some (.inl x5, S6)
set_option maxHeartbeats 2000000 in
set_option maxRecDepth 100000 in
theorem t2_J2_indexOfChar_4cfef {l : Launch} (hls : l.stackTraces = false) {C : cT} (hC : CX C cJ2_indexOfChar_4cfef 4 yJ2_indexOfChar_4cfef rm2_J2_indexOfChar_4cfef) (hl : C.2.1 = l) {S0 : mS} (hE : CE C S0 (Option.some Jvm.ClassFile.FieldType.int) []) {o : Rs Int32} {S : mS} {a0 : Nat} {a1 : Int32} {a2 : Int32} {a3 : Int32} (h : f2_J2_indexOfChar_4cfef S a0 a1 a2 a3 = some o) : XX C 4 (QQ C (fun r : Int32 => some (.int r)) S0 o) 0 0 S 0 [(0, .ref a0), (1, .int a1), (2, .int a2), (3, .int a3)] [] := by
  unfold f2_J2_indexOfChar_4cfef at h
  refine x_iload_n (pc := 0) hC 2 dJ2_indexOfChar_4cfef_0 rfl rfl ?_
  refine x_iload_n (pc := 1) hC 3 dJ2_indexOfChar_4cfef_1 rfl rfl ?_
  refine x_aload_n (pc := 2) hC 0 dJ2_indexOfChar_4cfef_2 rfl rfl ?_
  obtain ⟨o3, ho3, h⟩ := bd_some h
  refine x_callS (pc := 3) (As := [.int a2, .int a3, .ref a0]) (rest := []) hC hl (c2_J2_checkBoundsBeginEnd_d044e l hls ho3) lk_RJ2_96 dJ2_indexOfChar_4cfef_3 rfl rfl (Nat.le_of_ble_eq_true rfl) ⟨Nat.le_of_ble_eq_true rfl, Nat.le_of_ble_eq_true rfl⟩ ⟨(Nat.le_of_ble_eq_true rfl), (Nat.le_of_ble_eq_true rfl)⟩ ?_
  rcases o3 with ⟨_ | E4, S2⟩
  · refine xk_v ?_
    replace h := bk_l h
    refine x_aload_n (pc := 6) hC 0 dJ2_indexOfChar_4cfef_6 rfl rfl ?_
    refine x_iload_n (pc := 7) hC 1 dJ2_indexOfChar_4cfef_7 rfl rfl ?_
    refine x_iload_n (pc := 8) hC 2 dJ2_indexOfChar_4cfef_8 rfl rfl ?_
    refine x_iload_n (pc := 9) hC 3 dJ2_indexOfChar_4cfef_9 rfl rfl ?_
    obtain ⟨o7, ho7, h⟩ := bd_some h
    refine x_callS (pc := 10) (As := [.ref a0, .int a1, .int a2, .int a3]) (rest := []) hC hl (c2_J2_indexOfCharUnsafe_4cfef l hls ho7) lk_RJ2_244 dJ2_indexOfChar_4cfef_10 rfl rfl (Nat.le_of_ble_eq_true rfl) ⟨Nat.le_of_ble_eq_true rfl, Nat.le_of_ble_eq_true rfl⟩ ⟨(Nat.le_of_ble_eq_true rfl), (Nat.le_of_ble_eq_true rfl)⟩ ?_
    rcases o7 with ⟨x5 | E8, S6⟩
    · refine xk_i ?_
      replace h := bk_l h
      exact x_ireturn (pc := 13) hC hE dJ2_indexOfChar_4cfef_13 (so h) (Nat.le_of_ble_eq_true rfl) (Nat.le_of_ble_eq_true rfl)
    · exact xk_r (xt_out hC hE (bk_r h) (Nat.le_of_ble_eq_true rfl) (Nat.le_of_ble_eq_true rfl))
  · exact xk_r (xt_out hC hE (bk_r h) (Nat.le_of_ble_eq_true rfl) (Nat.le_of_ble_eq_true rfl))
theorem c2_J2_indexOfChar_4cfef (l : Launch) (hls : l.stackTraces = false) {S : mS} {a0 : Nat} {a1 : Int32} {a2 : Int32} {a3 : Int32} {o : Rs Int32} (h : f2_J2_indexOfChar_4cfef S a0 a1 a2 a3 = some o) : CT (fun r : Int32 => some (.int r)) l yJ2_indexOfChar_4cfef (.code yJ2_indexOfChar_4cfef cJ2_indexOfChar_4cfef 4 (Option.some Jvm.ClassFile.FieldType.int)) rm2_J2_indexOfChar_4cfef S [.ref a0, .int a1, .int a2, .int a3] o := ct_of (by decide +kernel) hls (Nat.le_of_ble_eq_true rfl) (fun C hl hC hE => t2_J2_indexOfChar_4cfef hls hC hl hE h)
abbrev rm2_J2_indexOfSupplementary_4cfef : Room := { frames := 11, cells := 0, slots := 0, locals := 217 }
def f2_J2_indexOfSupplementary_4cfef_69  (S : mS) : Option (Rs Int32) :=
  some (.inl (-1 : Int32), S)
set_option maxHeartbeats 2000000 in
set_option maxRecDepth 100000 in
theorem t2_J2_indexOfSupplementary_4cfef_69 {l : Launch} (hls : l.stackTraces = false) {C : cT} (hC : CX C cJ2_indexOfSupplementary_4cfef 7 yJ2_indexOfSupplementary_4cfef rm2_J2_indexOfSupplementary_4cfef) (hl : C.2.1 = l) {S0 : mS} (hE : CE C S0 (Option.some Jvm.ClassFile.FieldType.int) []) {o : Rs Int32} {S : mS} (h : f2_J2_indexOfSupplementary_4cfef_69  S = some o) : XX C 7 (QQ C (fun r : Int32 => some (.int r)) S0 o) (0) (0) S 69 [] [] := by
  unfold f2_J2_indexOfSupplementary_4cfef_69 at h
  refine x_iconst (pc := 69) (v := (-1 : Int32)) hC dJ2_indexOfSupplementary_4cfef_69 (by decide) ?_
  exact x_ireturn (pc := 70) hC hE dJ2_indexOfSupplementary_4cfef_70 (so h) (Nat.le_of_ble_eq_true rfl) (Nat.le_of_ble_eq_true rfl)
def f2_J2_indexOfSupplementary_4cfef_63 (rc28 : mS → Nat → Int32 → Int32 → Int32 → Int32 → Option (Rs Int32)) (S : mS) (a0 : Nat) (a3 : Int32) (a4 : Int32) (a5 : Int32) (a6 : Int32) : Option (Rs Int32) :=
  lt9 (a6 + Int32.ofInt (1)) fun x1 => rc28 S a0 a3 a4 a5 x1
set_option maxHeartbeats 2000000 in
set_option maxRecDepth 100000 in
theorem t2_J2_indexOfSupplementary_4cfef_63 {l : Launch} (hls : l.stackTraces = false) {C : cT} (hC : CX C cJ2_indexOfSupplementary_4cfef 7 yJ2_indexOfSupplementary_4cfef rm2_J2_indexOfSupplementary_4cfef) (hl : C.2.1 = l) {S0 : mS} (hE : CE C S0 (Option.some Jvm.ClassFile.FieldType.int) []) {o : Rs Int32} {rc28 : mS → Nat → Int32 → Int32 → Int32 → Int32 → Option (Rs Int32)} (hrc28 : ∀ (S : mS) (a0 : Nat) (a3 : Int32) (a4 : Int32) (a5 : Int32) (a6 : Int32), rc28 S a0 a3 a4 a5 a6 = some o → XX C 7 (QQ C (fun r : Int32 => some (.int r)) S0 o) (0) (0) S 28 [(0, .ref a0), (3, .int a3), (4, .int a4), (5, .int a5), (6, .int a6)] []) {S : mS} {a0 : Nat} {a3 : Int32} {a4 : Int32} {a5 : Int32} {a6 : Int32} (h : f2_J2_indexOfSupplementary_4cfef_63 rc28 S a0 a3 a4 a5 a6 = some o) : XX C 7 (QQ C (fun r : Int32 => some (.int r)) S0 o) (0) (0) S 63 [(0, .ref a0), (3, .int a3), (4, .int a4), (5, .int a5), (6, .int a6)] [] := by
  unfold f2_J2_indexOfSupplementary_4cfef_63 at h
  obtain ⟨x1, hx1⟩ : ∃ z, z = (a6 + Int32.ofInt (1)) := ⟨_, rfl⟩
  replace h := lt_x hx1 h
  refine x_iinc (pc := 63) hC 4 dJ2_indexOfSupplementary_4cfef_63 rfl hx1.symm (by decide) (by decide) rfl ?_
  refine x_goto (pc := 66) hC 28 dJ2_indexOfSupplementary_4cfef_66 (by decide) ?_
  refine x_pick [1, 2, 3, 4, 0] rfl ?_
  exact hrc28 _ _ _ _ _ _ h
def f2_J2_indexOfSupplementary_4cfef_28  : Nat → mS → Nat → Int32 → Int32 → Int32 → Int32 → Option (Rs Int32)
  | 0, _, _, _, _, _, _ => none
  | k + 1, S, a0, a3, a4, a5, a6 => lt9 (a3 - (1 : Int32)) fun x1 => if x1 ≤ a6 then (f2_J2_indexOfSupplementary_4cfef_69  S) else (bd (f2_J2_getChar_3b067 S a0 a6) fun x2 S3 => if x2 = a4 then (lt9 (a6 + (1 : Int32)) fun x6 => bd (f2_J2_getChar_3b067 S3 a0 x6) fun x7 S8 => if x7 = a5 then (some (.inl a6, S8)) else (f2_J2_indexOfSupplementary_4cfef_63 (f2_J2_indexOfSupplementary_4cfef_28 k) S8 a0 a3 a4 a5 a6)) else (f2_J2_indexOfSupplementary_4cfef_63 (f2_J2_indexOfSupplementary_4cfef_28 k) S3 a0 a3 a4 a5 a6))
set_option maxHeartbeats 2000000 in
set_option maxRecDepth 100000 in
theorem t2_J2_indexOfSupplementary_4cfef_28 {l : Launch} (hls : l.stackTraces = false) {C : cT} (hC : CX C cJ2_indexOfSupplementary_4cfef 7 yJ2_indexOfSupplementary_4cfef rm2_J2_indexOfSupplementary_4cfef) (hl : C.2.1 = l) {S0 : mS} (hE : CE C S0 (Option.some Jvm.ClassFile.FieldType.int) []) {o : Rs Int32} : ∀ (k : Nat) (S : mS) (a0 : Nat) (a3 : Int32) (a4 : Int32) (a5 : Int32) (a6 : Int32), f2_J2_indexOfSupplementary_4cfef_28  k S a0 a3 a4 a5 a6 = some o → XX C 7 (QQ C (fun r : Int32 => some (.int r)) S0 o) (0) (0) S 28 [(0, .ref a0), (3, .int a3), (4, .int a4), (5, .int a5), (6, .int a6)] [] := by
  intro k
  induction k with
  | zero => intro S a0 a3 a4 a5 a6 h; cases h
  | succ k ih =>
    intro S a0 a3 a4 a5 a6 h
    unfold f2_J2_indexOfSupplementary_4cfef_28 at h
    refine x_iload (pc := 28) hC 4 dJ2_indexOfSupplementary_4cfef_28 rfl ?_
    refine x_iload_n (pc := 30) hC 1 dJ2_indexOfSupplementary_4cfef_30 rfl rfl ?_
    refine x_iconst (pc := 31) (v := (1 : Int32)) hC dJ2_indexOfSupplementary_4cfef_31 (by decide) ?_
    refine x_isubv (pc := 32) hC dJ2_indexOfSupplementary_4cfef_32 (fun x1 hx1 => ?_)
    replace h := lt_x hx1 h
    refine x_icmp_ge (pc := 33) hC 69 dJ2_indexOfSupplementary_4cfef_33 (by decide) (fun c13 => ?_) (fun c13 => ?_)
    · rw [if_pos c13] at h
      refine x_pick [] rfl ?_
      exact t2_J2_indexOfSupplementary_4cfef_69 hls hC hl hE h
    · rw [if_neg c13] at h
      refine x_aload_n (pc := 36) hC 0 dJ2_indexOfSupplementary_4cfef_36 rfl rfl ?_
      refine x_iload (pc := 37) hC 4 dJ2_indexOfSupplementary_4cfef_37 rfl ?_
      obtain ⟨o4, ho4, h⟩ := bd_some h
      refine x_callS (pc := 39) (As := [.ref a0, .int a6]) (rest := []) hC hl (c2_J2_getChar_3b067 l hls ho4) lk_RJ2_71 dJ2_indexOfSupplementary_4cfef_39 rfl rfl (Nat.le_of_ble_eq_true rfl) ⟨Nat.le_of_ble_eq_true rfl, Nat.le_of_ble_eq_true rfl⟩ ⟨(Nat.le_of_ble_eq_true rfl), (Nat.le_of_ble_eq_true rfl)⟩ ?_
      rcases o4 with ⟨x2 | E5, S3⟩
      · refine xk_i ?_
        replace h := bk_l h
        refine x_iload (pc := 42) hC 2 dJ2_indexOfSupplementary_4cfef_42 rfl ?_
        refine x_icmp_ne (pc := 44) hC 63 dJ2_indexOfSupplementary_4cfef_44 (by decide) (fun c12 => ?_) (fun c12 => ?_)
        · rw [if_neg c12] at h
          refine x_pick [0, 1, 2, 3, 4] rfl ?_
          exact t2_J2_indexOfSupplementary_4cfef_63 hls hC hl hE (fun z0 z1 z2 z3 z4 z5 hz => ih z0 z1 z2 z3 z4 z5 hz) h
        · rw [if_pos c12] at h
          refine x_aload_n (pc := 47) hC 0 dJ2_indexOfSupplementary_4cfef_47 rfl rfl ?_
          refine x_iload (pc := 48) hC 4 dJ2_indexOfSupplementary_4cfef_48 rfl ?_
          refine x_iconst (pc := 50) (v := (1 : Int32)) hC dJ2_indexOfSupplementary_4cfef_50 (by decide) ?_
          refine x_iaddv (pc := 51) hC dJ2_indexOfSupplementary_4cfef_51 (fun x6 hx6 => ?_)
          replace h := lt_x hx6 h
          obtain ⟨o9, ho9, h⟩ := bd_some h
          refine x_callS (pc := 52) (As := [.ref a0, .int x6]) (rest := []) hC hl (c2_J2_getChar_3b067 l hls ho9) lk_RJ2_71 dJ2_indexOfSupplementary_4cfef_52 rfl rfl (Nat.le_of_ble_eq_true rfl) ⟨Nat.le_of_ble_eq_true rfl, Nat.le_of_ble_eq_true rfl⟩ ⟨(Nat.le_of_ble_eq_true rfl), (Nat.le_of_ble_eq_true rfl)⟩ ?_
          rcases o9 with ⟨x7 | E10, S8⟩
          · refine xk_i ?_
            replace h := bk_l h
            refine x_iload (pc := 55) hC 3 dJ2_indexOfSupplementary_4cfef_55 rfl ?_
            refine x_icmp_ne (pc := 57) hC 63 dJ2_indexOfSupplementary_4cfef_57 (by decide) (fun c11 => ?_) (fun c11 => ?_)
            · rw [if_neg c11] at h
              refine x_pick [0, 1, 2, 3, 4] rfl ?_
              exact t2_J2_indexOfSupplementary_4cfef_63 hls hC hl hE (fun z0 z1 z2 z3 z4 z5 hz => ih z0 z1 z2 z3 z4 z5 hz) h
            · rw [if_pos c11] at h
              refine x_iload (pc := 60) hC 4 dJ2_indexOfSupplementary_4cfef_60 rfl ?_
              exact x_ireturn (pc := 62) hC hE dJ2_indexOfSupplementary_4cfef_62 (so h) (Nat.le_of_ble_eq_true rfl) (Nat.le_of_ble_eq_true rfl)
          · exact xk_r (xt_out hC hE (bk_r h) (Nat.le_of_ble_eq_true rfl) (Nat.le_of_ble_eq_true rfl))
      · exact xk_r (xt_out hC hE (bk_r h) (Nat.le_of_ble_eq_true rfl) (Nat.le_of_ble_eq_true rfl))
def f2_J2_indexOfSupplementary_4cfef (S : mS) (a0 : Nat) (a1 : Int32) (a2 : Int32) (a3 : Int32) : Option (Rs Int32) :=
  bd (f_J11_isValidCodePoint_9a6ad S a1) fun x1 S2 => if x1 = 0 then (f2_J2_indexOfSupplementary_4cfef_69  S2) else (bd (f_J11_highSurrogate_5068e S2 a1) fun x5 S6 => bd (f_J11_lowSurrogate_5068e S6 a1) fun x9 S10 => bd (f2_J2_checkBoundsBeginEnd_d044e S10 a2 a3 a0) fun _ S14 => f2_J2_indexOfSupplementary_4cfef_28  16 S14 a0 a3 x5 x9 a2)
set_option maxHeartbeats 2000000 in
set_option maxRecDepth 100000 in
theorem t2_J2_indexOfSupplementary_4cfef {l : Launch} (hls : l.stackTraces = false) {C : cT} (hC : CX C cJ2_indexOfSupplementary_4cfef 7 yJ2_indexOfSupplementary_4cfef rm2_J2_indexOfSupplementary_4cfef) (hl : C.2.1 = l) {S0 : mS} (hE : CE C S0 (Option.some Jvm.ClassFile.FieldType.int) []) {o : Rs Int32} {S : mS} {a0 : Nat} {a1 : Int32} {a2 : Int32} {a3 : Int32} (h : f2_J2_indexOfSupplementary_4cfef S a0 a1 a2 a3 = some o) : XX C 7 (QQ C (fun r : Int32 => some (.int r)) S0 o) 0 0 S 0 [(0, .ref a0), (1, .int a1), (2, .int a2), (3, .int a3)] [] := by
  unfold f2_J2_indexOfSupplementary_4cfef at h
  refine x_iload_n (pc := 0) hC 1 dJ2_indexOfSupplementary_4cfef_0 rfl rfl ?_
  obtain ⟨o3, ho3, h⟩ := bd_some h
  refine x_callS (pc := 1) (As := [.int a1]) (rest := []) hC hl (c_J11_isValidCodePoint_9a6ad l hls ho3) lk_RJ2_164 dJ2_indexOfSupplementary_4cfef_1 rfl rfl (Nat.le_of_ble_eq_true rfl) ⟨Nat.le_of_ble_eq_true rfl, Nat.le_of_ble_eq_true rfl⟩ ⟨(Nat.le_of_ble_eq_true rfl), (Nat.le_of_ble_eq_true rfl)⟩ ?_
  rcases o3 with ⟨x1 | E4, S2⟩
  · refine xk_i ?_
    replace h := bk_l h
    refine x_if_eq (pc := 4) hC 69 dJ2_indexOfSupplementary_4cfef_4 (by decide) (fun c17 => ?_) (fun c17 => ?_)
    · rw [if_pos c17] at h
      refine x_pick [] rfl ?_
      exact t2_J2_indexOfSupplementary_4cfef_69 hls hC hl hE h
    · rw [if_neg c17] at h
      refine x_iload_n (pc := 7) hC 1 dJ2_indexOfSupplementary_4cfef_7 rfl rfl ?_
      obtain ⟨o7, ho7, h⟩ := bd_some h
      refine x_callS (pc := 8) (As := [.int a1]) (rest := []) hC hl (c_J11_highSurrogate_5068e l hls ho7) lk_RJ2_157 dJ2_indexOfSupplementary_4cfef_8 rfl rfl (Nat.le_of_ble_eq_true rfl) ⟨Nat.le_of_ble_eq_true rfl, Nat.le_of_ble_eq_true rfl⟩ ⟨(Nat.le_of_ble_eq_true rfl), (Nat.le_of_ble_eq_true rfl)⟩ ?_
      rcases o7 with ⟨x5 | E8, S6⟩
      · refine xk_i ?_
        replace h := bk_l h
        refine x_istore (pc := 11) hC dJ2_indexOfSupplementary_4cfef_11 (by decide) (by decide) rfl ?_
        refine x_iload_n (pc := 13) hC 2 dJ2_indexOfSupplementary_4cfef_13 rfl rfl ?_
        obtain ⟨o11, ho11, h⟩ := bd_some h
        refine x_callS (pc := 14) (As := [.int a1]) (rest := []) hC hl (c_J11_lowSurrogate_5068e l hls ho11) lk_RJ2_161 dJ2_indexOfSupplementary_4cfef_14 rfl rfl (Nat.le_of_ble_eq_true rfl) ⟨Nat.le_of_ble_eq_true rfl, Nat.le_of_ble_eq_true rfl⟩ ⟨(Nat.le_of_ble_eq_true rfl), (Nat.le_of_ble_eq_true rfl)⟩ ?_
        rcases o11 with ⟨x9 | E12, S10⟩
        · refine xk_i ?_
          replace h := bk_l h
          refine x_istore (pc := 17) hC dJ2_indexOfSupplementary_4cfef_17 (by decide) (by decide) rfl ?_
          refine x_iload_n (pc := 19) hC 4 dJ2_indexOfSupplementary_4cfef_19 rfl rfl ?_
          refine x_iload_n (pc := 20) hC 5 dJ2_indexOfSupplementary_4cfef_20 rfl rfl ?_
          refine x_aload_n (pc := 21) hC 2 dJ2_indexOfSupplementary_4cfef_21 rfl rfl ?_
          obtain ⟨o15, ho15, h⟩ := bd_some h
          refine x_callS (pc := 22) (As := [.int a2, .int a3, .ref a0]) (rest := []) hC hl (c2_J2_checkBoundsBeginEnd_d044e l hls ho15) lk_RJ2_96 dJ2_indexOfSupplementary_4cfef_22 rfl rfl (Nat.le_of_ble_eq_true rfl) ⟨Nat.le_of_ble_eq_true rfl, Nat.le_of_ble_eq_true rfl⟩ ⟨(Nat.le_of_ble_eq_true rfl), (Nat.le_of_ble_eq_true rfl)⟩ ?_
          rcases o15 with ⟨_ | E16, S14⟩
          · refine xk_v ?_
            replace h := bk_l h
            refine x_iload_n (pc := 25) hC 4 dJ2_indexOfSupplementary_4cfef_25 rfl rfl ?_
            refine x_istore (pc := 26) hC dJ2_indexOfSupplementary_4cfef_26 (by decide) (by decide) rfl ?_
            refine x_pick [3, 6, 2, 1, 0] rfl ?_
            exact t2_J2_indexOfSupplementary_4cfef_28 hls hC hl hE 16 _ _ _ _ _ _ h
          · exact xk_r (xt_out hC hE (bk_r h) (Nat.le_of_ble_eq_true rfl) (Nat.le_of_ble_eq_true rfl))
        · exact xk_r (xt_out hC hE (bk_r h) (Nat.le_of_ble_eq_true rfl) (Nat.le_of_ble_eq_true rfl))
      · exact xk_r (xt_out hC hE (bk_r h) (Nat.le_of_ble_eq_true rfl) (Nat.le_of_ble_eq_true rfl))
  · exact xk_r (xt_out hC hE (bk_r h) (Nat.le_of_ble_eq_true rfl) (Nat.le_of_ble_eq_true rfl))
theorem c2_J2_indexOfSupplementary_4cfef (l : Launch) (hls : l.stackTraces = false) {S : mS} {a0 : Nat} {a1 : Int32} {a2 : Int32} {a3 : Int32} {o : Rs Int32} (h : f2_J2_indexOfSupplementary_4cfef S a0 a1 a2 a3 = some o) : CT (fun r : Int32 => some (.int r)) l yJ2_indexOfSupplementary_4cfef (.code yJ2_indexOfSupplementary_4cfef cJ2_indexOfSupplementary_4cfef 7 (Option.some Jvm.ClassFile.FieldType.int)) rm2_J2_indexOfSupplementary_4cfef S [.ref a0, .int a1, .int a2, .int a3] o := ct_of (by decide +kernel) hls (Nat.le_of_ble_eq_true rfl) (fun C hl hC hE => t2_J2_indexOfSupplementary_4cfef hls hC hl hE h)
abbrev rm2_J2_indexOf_4cfef : Room := { frames := 12, cells := 0, slots := 0, locals := 243 }
def f2_J2_indexOf_4cfef (S : mS) (a0 : Nat) (a1 : Int32) (a2 : Int32) (a3 : Int32) : Option (Rs Int32) :=
  lt9 (if a2 < (0 : Int32) then (0 : Int32) else a2) fun x1 => gd ((a0 < KB ∧ gK S a0 = 33) ∨ (KB + 10 ≤ a0 ∧ a0 < KB + 13)) (lt9 (Int32.ofNat (zb S a0)) fun x3 => lt9 (x3 >>> ((1 : Int32) &&& 31)) fun x4 => lt9 (if x4 < a3 then x4 else a3) fun x5 => if x1 < x5 then (if (65536 : Int32) ≤ a1 then (bd (f2_J2_indexOfSupplementary_4cfef S a0 a1 x1 x5) fun x6 S7 => some (.inl x6, S7)) else (bd (f2_J2_indexOfChar_4cfef S a0 a1 x1 x5) fun x10 S11 => some (.inl x10, S11))) else (some (.inl (-1 : Int32), S)))
set_option maxHeartbeats 2000000 in
set_option maxRecDepth 100000 in
theorem t2_J2_indexOf_4cfef {l : Launch} (hls : l.stackTraces = false) {C : cT} (hC : CX C cJ2_indexOf_4cfef 4 yJ2_indexOf_4cfef rm2_J2_indexOf_4cfef) (hl : C.2.1 = l) {S0 : mS} (hE : CE C S0 (Option.some Jvm.ClassFile.FieldType.int) []) {o : Rs Int32} {S : mS} {a0 : Nat} {a1 : Int32} {a2 : Int32} {a3 : Int32} (h : f2_J2_indexOf_4cfef S a0 a1 a2 a3 = some o) : XX C 4 (QQ C (fun r : Int32 => some (.int r)) S0 o) 0 0 S 0 [(0, .ref a0), (1, .int a1), (2, .int a2), (3, .int a3)] [] := by
  unfold f2_J2_indexOf_4cfef at h
  refine x_iload_n (pc := 0) hC 2 dJ2_indexOf_4cfef_0 rfl rfl ?_
  refine x_iconst (pc := 1) (v := (0 : Int32)) hC dJ2_indexOf_4cfef_1 (by decide) ?_
  refine x_mmax (pc := 2) hC wm_2061 wm_650 wm_69 wm_651 dJ2_indexOf_4cfef_2 (Nat.le_of_ble_eq_true rfl) (Nat.le_of_ble_eq_true rfl) (Nat.le_of_ble_eq_true rfl) (Nat.le_of_ble_eq_true rfl) (fun x1 hx1 => ?_)
  replace h := lt_x hx1 h
  refine x_istore_n (pc := 5) hC dJ2_indexOf_4cfef_5 rfl (by decide) (by decide) rfl ?_
  refine x_iload_n (pc := 6) hC 3 dJ2_indexOf_4cfef_6 rfl rfl ?_
  refine x_aload_n (pc := 7) hC 1 dJ2_indexOf_4cfef_7 rfl rfl ?_
  obtain ⟨g2, h⟩ := gd_some h
  refine x_alenB (pc := 8) hC dJ2_indexOf_4cfef_8 g2 (fun x3 hx3 => ?_)
  replace h := lt_x hx3 h
  refine x_iconst (pc := 9) (v := (1 : Int32)) hC dJ2_indexOf_4cfef_9 (by decide) ?_
  refine x_ishrv (pc := 10) hC dJ2_indexOf_4cfef_10 (fun x4 hx4 => ?_)
  replace h := lt_x hx4 h
  refine x_mmin (pc := 11) hC wm_2062 wm_598 wm_69 wm_599 dJ2_indexOf_4cfef_11 (Nat.le_of_ble_eq_true rfl) (Nat.le_of_ble_eq_true rfl) (Nat.le_of_ble_eq_true rfl) (Nat.le_of_ble_eq_true rfl) (fun x5 hx5 => ?_)
  replace h := lt_x hx5 h
  refine x_istore_n (pc := 14) hC dJ2_indexOf_4cfef_14 rfl (by decide) (by decide) rfl ?_
  refine x_iload_n (pc := 15) hC 1 dJ2_indexOf_4cfef_15 rfl rfl ?_
  refine x_iload_n (pc := 16) hC 0 dJ2_indexOf_4cfef_16 rfl rfl ?_
  refine x_icmp_lt (pc := 17) hC 22 dJ2_indexOf_4cfef_17 (by decide) (fun c15 => ?_) (fun c15 => ?_)
  · rw [if_pos c15] at h
    refine x_iload_n (pc := 22) hC 3 dJ2_indexOf_4cfef_22 rfl rfl ?_
    refine x_ldc (pc := 23) hC wm_2063 dJ2_indexOf_4cfef_23 ?_
    refine x_icmp_ge (pc := 25) hC 36 dJ2_indexOf_4cfef_25 (by decide) (fun c14 => ?_) (fun c14 => ?_)
    · rw [if_pos c14] at h
      refine x_aload_n (pc := 36) hC 2 dJ2_indexOf_4cfef_36 rfl rfl ?_
      refine x_iload_n (pc := 37) hC 3 dJ2_indexOf_4cfef_37 rfl rfl ?_
      refine x_iload_n (pc := 38) hC 1 dJ2_indexOf_4cfef_38 rfl rfl ?_
      refine x_iload_n (pc := 39) hC 0 dJ2_indexOf_4cfef_39 rfl rfl ?_
      obtain ⟨o8, ho8, h⟩ := bd_some h
      refine x_callS (pc := 40) (As := [.ref a0, .int a1, .int x1, .int x5]) (rest := []) hC hl (c2_J2_indexOfSupplementary_4cfef l hls ho8) lk_RJ2_232 dJ2_indexOf_4cfef_40 rfl rfl (Nat.le_of_ble_eq_true rfl) ⟨Nat.le_of_ble_eq_true rfl, Nat.le_of_ble_eq_true rfl⟩ ⟨(Nat.le_of_ble_eq_true rfl), (Nat.le_of_ble_eq_true rfl)⟩ ?_
      rcases o8 with ⟨x6 | E9, S7⟩
      · refine xk_i ?_
        replace h := bk_l h
        exact x_ireturn (pc := 43) hC hE dJ2_indexOf_4cfef_43 (so h) (Nat.le_of_ble_eq_true rfl) (Nat.le_of_ble_eq_true rfl)
      · exact xk_r (xt_out hC hE (bk_r h) (Nat.le_of_ble_eq_true rfl) (Nat.le_of_ble_eq_true rfl))
    · rw [if_neg c14] at h
      refine x_aload_n (pc := 28) hC 2 dJ2_indexOf_4cfef_28 rfl rfl ?_
      refine x_iload_n (pc := 29) hC 3 dJ2_indexOf_4cfef_29 rfl rfl ?_
      refine x_iload_n (pc := 30) hC 1 dJ2_indexOf_4cfef_30 rfl rfl ?_
      refine x_iload_n (pc := 31) hC 0 dJ2_indexOf_4cfef_31 rfl rfl ?_
      obtain ⟨o12, ho12, h⟩ := bd_some h
      refine x_callS (pc := 32) (As := [.ref a0, .int a1, .int x1, .int x5]) (rest := []) hC hl (c2_J2_indexOfChar_4cfef l hls ho12) lk_RJ2_228 dJ2_indexOf_4cfef_32 rfl rfl (Nat.le_of_ble_eq_true rfl) ⟨Nat.le_of_ble_eq_true rfl, Nat.le_of_ble_eq_true rfl⟩ ⟨(Nat.le_of_ble_eq_true rfl), (Nat.le_of_ble_eq_true rfl)⟩ ?_
      rcases o12 with ⟨x10 | E13, S11⟩
      · refine xk_i ?_
        replace h := bk_l h
        exact x_ireturn (pc := 35) hC hE dJ2_indexOf_4cfef_35 (so h) (Nat.le_of_ble_eq_true rfl) (Nat.le_of_ble_eq_true rfl)
      · exact xk_r (xt_out hC hE (bk_r h) (Nat.le_of_ble_eq_true rfl) (Nat.le_of_ble_eq_true rfl))
  · rw [if_neg c15] at h
    refine x_iconst (pc := 20) (v := (-1 : Int32)) hC dJ2_indexOf_4cfef_20 (by decide) ?_
    exact x_ireturn (pc := 21) hC hE dJ2_indexOf_4cfef_21 (so h) (Nat.le_of_ble_eq_true rfl) (Nat.le_of_ble_eq_true rfl)
theorem c2_J2_indexOf_4cfef (l : Launch) (hls : l.stackTraces = false) {S : mS} {a0 : Nat} {a1 : Int32} {a2 : Int32} {a3 : Int32} {o : Rs Int32} (h : f2_J2_indexOf_4cfef S a0 a1 a2 a3 = some o) : CT (fun r : Int32 => some (.int r)) l yJ2_indexOf_4cfef (.code yJ2_indexOf_4cfef cJ2_indexOf_4cfef 4 (Option.some Jvm.ClassFile.FieldType.int)) rm2_J2_indexOf_4cfef S [.ref a0, .int a1, .int a2, .int a3] o := ct_of (by decide +kernel) hls (Nat.le_of_ble_eq_true rfl) (fun C hl hC hE => t2_J2_indexOf_4cfef hls hC hl hE h)
abbrev rm2_J0_indexOf_7cf53 : Room := { frames := 13, cells := 0, slots := 0, locals := 266 }
def f2_J0_indexOf_7cf53_36  (S : mS) (s0 : Int32) : Option (Rs Int32) :=
  some (.inl s0, S)
set_option maxHeartbeats 2000000 in
set_option maxRecDepth 100000 in
theorem t2_J0_indexOf_7cf53_36 {l : Launch} (hls : l.stackTraces = false) {C : cT} (hC : CX C cJ0_indexOf_7cf53 3 yJ0_indexOf_7cf53 rm2_J0_indexOf_7cf53) (hl : C.2.1 = l) {S0 : mS} (hE : CE C S0 (Option.some Jvm.ClassFile.FieldType.int) []) {o : Rs Int32} {S : mS} {s0 : Int32} (h : f2_J0_indexOf_7cf53_36  S s0 = some o) : XX C 3 (QQ C (fun r : Int32 => some (.int r)) S0 o) (0) (0) S 36 [] [.int s0] := by
  unfold f2_J0_indexOf_7cf53_36 at h
  exact x_ireturn (pc := 36) hC hE dJ0_indexOf_7cf53_36 (so h) (Nat.le_of_ble_eq_true rfl) (Nat.le_of_ble_eq_true rfl)
def f2_J0_indexOf_7cf53 (S : mS) (a0 : Nat) (a1 : Int32) (a2 : Int32) : Option (Rs Int32) :=
  gd ((a0 < KB ∧ gK S a0 = 1) ∨ (KB ≤ a0 ∧ a0 < KB + 3)) (bd (f2_J0_isLatin1_aae02 S a0) fun x2 S3 => if x2 = 0 then (gd ((a0 < KB ∧ gK S3 a0 = 1) ∨ (KB ≤ a0 ∧ a0 < KB + 3)) (lt9 (if a0 < KB then gR S3 a0 0 else a0 + 10) fun r7 => gd ((a0 < KB ∧ gK S3 a0 = 1) ∨ (KB ≤ a0 ∧ a0 < KB + 3)) (bd (f2_J0_length_8abf5 S3 a0) fun x9 S10 => bd (f2_J2_indexOf_4cfef S10 r7 a1 a2 x9) fun x13 S14 => f2_J0_indexOf_7cf53_36  S14 x13))) else (gd ((a0 < KB ∧ gK S3 a0 = 1) ∨ (KB ≤ a0 ∧ a0 < KB + 3)) (lt9 (if a0 < KB then gR S3 a0 0 else a0 + 10) fun r18 => gd ((a0 < KB ∧ gK S3 a0 = 1) ∨ (KB ≤ a0 ∧ a0 < KB + 3)) (bd (f2_J0_length_8abf5 S3 a0) fun x20 S21 => bd (f2_J1_indexOf_4cfef S21 r18 a1 a2 x20) fun x24 S25 => f2_J0_indexOf_7cf53_36  S25 x24))))
set_option maxHeartbeats 2000000 in
set_option maxRecDepth 100000 in
theorem t2_J0_indexOf_7cf53 {l : Launch} (hls : l.stackTraces = false) {C : cT} (hC : CX C cJ0_indexOf_7cf53 3 yJ0_indexOf_7cf53 rm2_J0_indexOf_7cf53) (hl : C.2.1 = l) {S0 : mS} (hE : CE C S0 (Option.some Jvm.ClassFile.FieldType.int) []) {o : Rs Int32} {S : mS} {a0 : Nat} {a1 : Int32} {a2 : Int32} (h : f2_J0_indexOf_7cf53 S a0 a1 a2 = some o) : XX C 3 (QQ C (fun r : Int32 => some (.int r)) S0 o) 0 0 S 0 [(0, .ref a0), (1, .int a1), (2, .int a2)] [] := by
  unfold f2_J0_indexOf_7cf53 at h
  refine x_aload_n (pc := 0) hC 0 dJ0_indexOf_7cf53_0 rfl rfl ?_
  obtain ⟨g1, h⟩ := gd_some h
  obtain ⟨o4, ho4, h⟩ := bd_some h
  refine x_callVS (pc := 1) (As := []) (rest := []) hC hl (c2_J0_isLatin1_aae02 l hls ho4) lk_RJ0_492 rfl g1 dJ0_indexOf_7cf53_1 rfl rfl (Nat.le_of_ble_eq_true rfl) ⟨Nat.le_of_ble_eq_true rfl, Nat.le_of_ble_eq_true rfl⟩ ⟨(Nat.le_of_ble_eq_true rfl), (Nat.le_of_ble_eq_true rfl)⟩ ?_
  rcases o4 with ⟨x2 | E5, S3⟩
  · refine xk_i ?_
    replace h := bk_l h
    refine x_if_eq (pc := 4) hC 23 dJ0_indexOf_7cf53_4 (by decide) (fun c28 => ?_) (fun c28 => ?_)
    · rw [if_pos c28] at h
      refine x_aload_n (pc := 23) hC 0 dJ0_indexOf_7cf53_23 rfl rfl ?_
      obtain ⟨g6, h⟩ := gd_some h
      refine x_getSvv (pc := 24) hC wm_2554 dJ0_indexOf_7cf53_24 g6 (fun r7 hr7 => ?_)
      replace h := lt_x hr7 h
      refine x_iload_n (pc := 27) hC 1 dJ0_indexOf_7cf53_27 rfl rfl ?_
      refine x_iload_n (pc := 28) hC 2 dJ0_indexOf_7cf53_28 rfl rfl ?_
      refine x_aload_n (pc := 29) hC 0 dJ0_indexOf_7cf53_29 rfl rfl ?_
      obtain ⟨g8, h⟩ := gd_some h
      obtain ⟨o11, ho11, h⟩ := bd_some h
      refine x_callVS (pc := 30) (As := []) (rest := [.int a2, .int a1, .ref r7]) hC hl (c2_J0_length_8abf5 l hls ho11) lk_RJ0_505 rfl g8 dJ0_indexOf_7cf53_30 rfl rfl (Nat.le_of_ble_eq_true rfl) ⟨Nat.le_of_ble_eq_true rfl, Nat.le_of_ble_eq_true rfl⟩ ⟨(Nat.le_of_ble_eq_true rfl), (Nat.le_of_ble_eq_true rfl)⟩ ?_
      rcases o11 with ⟨x9 | E12, S10⟩
      · refine xk_i ?_
        replace h := bk_l h
        obtain ⟨o15, ho15, h⟩ := bd_some h
        refine x_callS (pc := 33) (As := [.ref r7, .int a1, .int a2, .int x9]) (rest := []) hC hl (c2_J2_indexOf_4cfef l hls ho15) lk_RJ0_640 dJ0_indexOf_7cf53_33 rfl rfl (Nat.le_of_ble_eq_true rfl) ⟨Nat.le_of_ble_eq_true rfl, Nat.le_of_ble_eq_true rfl⟩ ⟨(Nat.le_of_ble_eq_true rfl), (Nat.le_of_ble_eq_true rfl)⟩ ?_
        rcases o15 with ⟨x13 | E16, S14⟩
        · refine xk_i ?_
          replace h := bk_l h
          refine x_pick [] rfl ?_
          exact t2_J0_indexOf_7cf53_36 hls hC hl hE h
        · exact xk_r (xt_out hC hE (bk_r h) (Nat.le_of_ble_eq_true rfl) (Nat.le_of_ble_eq_true rfl))
      · exact xk_r (xt_out hC hE (bk_r h) (Nat.le_of_ble_eq_true rfl) (Nat.le_of_ble_eq_true rfl))
    · rw [if_neg c28] at h
      refine x_aload_n (pc := 7) hC 0 dJ0_indexOf_7cf53_7 rfl rfl ?_
      obtain ⟨g17, h⟩ := gd_some h
      refine x_getSvv (pc := 8) hC wm_2554 dJ0_indexOf_7cf53_8 g17 (fun r18 hr18 => ?_)
      replace h := lt_x hr18 h
      refine x_iload_n (pc := 11) hC 1 dJ0_indexOf_7cf53_11 rfl rfl ?_
      refine x_iload_n (pc := 12) hC 2 dJ0_indexOf_7cf53_12 rfl rfl ?_
      refine x_aload_n (pc := 13) hC 0 dJ0_indexOf_7cf53_13 rfl rfl ?_
      obtain ⟨g19, h⟩ := gd_some h
      obtain ⟨o22, ho22, h⟩ := bd_some h
      refine x_callVS (pc := 14) (As := []) (rest := [.int a2, .int a1, .ref r18]) hC hl (c2_J0_length_8abf5 l hls ho22) lk_RJ0_505 rfl g19 dJ0_indexOf_7cf53_14 rfl rfl (Nat.le_of_ble_eq_true rfl) ⟨Nat.le_of_ble_eq_true rfl, Nat.le_of_ble_eq_true rfl⟩ ⟨(Nat.le_of_ble_eq_true rfl), (Nat.le_of_ble_eq_true rfl)⟩ ?_
      rcases o22 with ⟨x20 | E23, S21⟩
      · refine xk_i ?_
        replace h := bk_l h
        obtain ⟨o26, ho26, h⟩ := bd_some h
        refine x_callS (pc := 17) (As := [.ref r18, .int a1, .int a2, .int x20]) (rest := []) hC hl (c2_J1_indexOf_4cfef l hls ho26) lk_RJ0_637 dJ0_indexOf_7cf53_17 rfl rfl (Nat.le_of_ble_eq_true rfl) ⟨Nat.le_of_ble_eq_true rfl, Nat.le_of_ble_eq_true rfl⟩ ⟨(Nat.le_of_ble_eq_true rfl), (Nat.le_of_ble_eq_true rfl)⟩ ?_
        rcases o26 with ⟨x24 | E27, S25⟩
        · refine xk_i ?_
          replace h := bk_l h
          refine x_goto (pc := 20) hC 36 dJ0_indexOf_7cf53_20 (by decide) ?_
          refine x_pick [] rfl ?_
          exact t2_J0_indexOf_7cf53_36 hls hC hl hE h
        · exact xk_r (xt_out hC hE (bk_r h) (Nat.le_of_ble_eq_true rfl) (Nat.le_of_ble_eq_true rfl))
      · exact xk_r (xt_out hC hE (bk_r h) (Nat.le_of_ble_eq_true rfl) (Nat.le_of_ble_eq_true rfl))
  · exact xk_r (xt_out hC hE (bk_r h) (Nat.le_of_ble_eq_true rfl) (Nat.le_of_ble_eq_true rfl))
theorem c2_J0_indexOf_7cf53 (l : Launch) (hls : l.stackTraces = false) {S : mS} {a0 : Nat} {a1 : Int32} {a2 : Int32} {o : Rs Int32} (h : f2_J0_indexOf_7cf53 S a0 a1 a2 = some o) : CT (fun r : Int32 => some (.int r)) l yJ0_indexOf_7cf53 (.code yJ0_indexOf_7cf53 cJ0_indexOf_7cf53 3 (Option.some Jvm.ClassFile.FieldType.int)) rm2_J0_indexOf_7cf53 S [.ref a0, .int a1, .int a2] o := ct_of (by decide +kernel) hls (Nat.le_of_ble_eq_true rfl) (fun C hl hC hE => t2_J0_indexOf_7cf53 hls hC hl hE h)
abbrev rm2_J0_indexOf_0f7a4 : Room := { frames := 14, cells := 0, slots := 0, locals := 288 }
def f2_J0_indexOf_0f7a4 (S : mS) (a0 : Nat) (a1 : Int32) : Option (Rs Int32) :=
  gd ((a0 < KB ∧ gK S a0 = 1) ∨ (KB ≤ a0 ∧ a0 < KB + 3)) (bd (f2_J0_indexOf_7cf53 S a0 a1 (0 : Int32)) fun x2 S3 => some (.inl x2, S3))
set_option maxHeartbeats 2000000 in
set_option maxRecDepth 100000 in
theorem t2_J0_indexOf_0f7a4 {l : Launch} (hls : l.stackTraces = false) {C : cT} (hC : CX C cJ0_indexOf_0f7a4 2 yJ0_indexOf_0f7a4 rm2_J0_indexOf_0f7a4) (hl : C.2.1 = l) {S0 : mS} (hE : CE C S0 (Option.some Jvm.ClassFile.FieldType.int) []) {o : Rs Int32} {S : mS} {a0 : Nat} {a1 : Int32} (h : f2_J0_indexOf_0f7a4 S a0 a1 = some o) : XX C 2 (QQ C (fun r : Int32 => some (.int r)) S0 o) 0 0 S 0 [(0, .ref a0), (1, .int a1)] [] := by
  unfold f2_J0_indexOf_0f7a4 at h
  refine x_aload_n (pc := 0) hC 0 dJ0_indexOf_0f7a4_0 rfl rfl ?_
  refine x_iload_n (pc := 1) hC 1 dJ0_indexOf_0f7a4_1 rfl rfl ?_
  refine x_iconst (pc := 2) (v := (0 : Int32)) hC dJ0_indexOf_0f7a4_2 (by decide) ?_
  obtain ⟨g1, h⟩ := gd_some h
  obtain ⟨o4, ho4, h⟩ := bd_some h
  refine x_callVS (pc := 3) (As := [.int a1, .int (0 : Int32)]) (rest := []) hC hl (c2_J0_indexOf_7cf53 l hls ho4) lk_RJ0_633 rfl g1 dJ0_indexOf_0f7a4_3 rfl rfl (Nat.le_of_ble_eq_true rfl) ⟨Nat.le_of_ble_eq_true rfl, Nat.le_of_ble_eq_true rfl⟩ ⟨(Nat.le_of_ble_eq_true rfl), (Nat.le_of_ble_eq_true rfl)⟩ ?_
  rcases o4 with ⟨x2 | E5, S3⟩
  · refine xk_i ?_
    replace h := bk_l h
    exact x_ireturn (pc := 6) hC hE dJ0_indexOf_0f7a4_6 (so h) (Nat.le_of_ble_eq_true rfl) (Nat.le_of_ble_eq_true rfl)
  · exact xk_r (xt_out hC hE (bk_r h) (Nat.le_of_ble_eq_true rfl) (Nat.le_of_ble_eq_true rfl))
theorem c2_J0_indexOf_0f7a4 (l : Launch) (hls : l.stackTraces = false) {S : mS} {a0 : Nat} {a1 : Int32} {o : Rs Int32} (h : f2_J0_indexOf_0f7a4 S a0 a1 = some o) : CT (fun r : Int32 => some (.int r)) l yJ0_indexOf_0f7a4 (.code yJ0_indexOf_0f7a4 cJ0_indexOf_0f7a4 2 (Option.some Jvm.ClassFile.FieldType.int)) rm2_J0_indexOf_0f7a4 S [.ref a0, .int a1] o := ct_of (by decide +kernel) hls (Nat.le_of_ble_eq_true rfl) (fun C hl hC hE => t2_J0_indexOf_0f7a4 hls hC hl hE h)
abbrev rm2_X13_setSide : Room := { frames := 15, cells := 0, slots := 0, locals := 309 }
def f2_X13_setSide_26  (S : mS) (a0 : Nat) (a1 : Int32) (a2 : Int32) (s0 : Nat) (s1 : Int32) : Option (Rs Int32) :=
  gd (gK S s0 = 19) (bd (f_X13_isWrong S s0 s1) fun x2 S3 => if x2 = 0 then (gd (gK S3 a0 = 19) (lt9 (gR S3 a0 2) fun r7 => gd (gK S3 r7 = 37) (gd (¬ (a1 < 0 ∨ gZ S3 r7 ≤ (a1).toNatClampNeg)) (lt9 (gR S3 r7 (a1).toNatClampNeg) fun r11 => gd (gK S3 r11 = 17) (lt9 (gI S3 r11 15) fun x13 => lt9 (gR S3 a0 2) fun r14 => gd (gK S3 r14 = 37) (gd (¬ (a1 < 0 ∨ gZ S3 r14 ≤ (a1).toNatClampNeg)) (lt9 (gR S3 r14 (a1).toNatClampNeg) fun r18 => gd (gK S3 r18 = 17) (gd ((a2.toUInt32.toUInt16.toUInt32.toInt32 = a2 ∧ 0 ≤ a2) ∧ a2 ≤ 65535) (zI (sI S3 r18 15 a2) fun S21 => bd (f_X13_logs S21 a0) fun _ S28 => gd ((x13.toUInt32.toUInt16.toUInt32.toInt32 = x13 ∧ 0 ≤ x13) ∧ x13 ≤ 65535) (some (.inl x13, S28))))))))))) else (some (.inl (0 : Int32), S3)))
set_option maxHeartbeats 2000000 in
set_option maxRecDepth 100000 in
theorem t2_X13_setSide_26 {l : Launch} (hls : l.stackTraces = false) {C : cT} (hC : CX C cX13_setSide 4 yX13_setSide rm2_X13_setSide) (hl : C.2.1 = l) {S0 : mS} (hE : CE C S0 (Option.some Jvm.ClassFile.FieldType.char) []) {o : Rs Int32} {S : mS} {a0 : Nat} {a1 : Int32} {a2 : Int32} {s0 : Nat} {s1 : Int32} (h : f2_X13_setSide_26  S a0 a1 a2 s0 s1 = some o) : XX C 4 (QQ C (fun r : Int32 => some (.int r)) S0 o) (0) (0) S 26 [(0, .ref a0), (1, .int a1), (2, .int a2)] [.int s1, .ref s0] := by
  unfold f2_X13_setSide_26 at h
  obtain ⟨g1, h⟩ := gd_some h
  obtain ⟨o4, ho4, h⟩ := bd_some h
  refine x_callV (pc := 26) (As := [.int s1]) (rest := []) hC hl (c_X13_isWrong l hls ho4) lk_RX13_68 fc_19 g1 dX13_setSide_26 rfl rfl (Nat.le_of_ble_eq_true rfl) ⟨Nat.le_of_ble_eq_true rfl, Nat.le_of_ble_eq_true rfl⟩ ⟨(Nat.le_of_ble_eq_true rfl), (Nat.le_of_ble_eq_true rfl)⟩ ?_
  rcases o4 with ⟨x2 | E5, S3⟩
  · refine xk_i ?_
    replace h := bk_l h
    refine x_if_eq (pc := 29) hC 34 dX13_setSide_29 (by decide) (fun c32 => ?_) (fun c32 => ?_)
    · rw [if_pos c32] at h
      refine x_aload_n (pc := 34) hC 0 dX13_setSide_34 rfl rfl ?_
      obtain ⟨g6, h⟩ := gd_some h
      refine x_getRv (pc := 35) (k := 2) hC fc_19 fl_RX13_19 dX13_setSide_35 rfl g6 (fun r7 hr7 => ?_)
      replace h := lt_x hr7 h
      refine x_iload_n (pc := 38) hC 1 dX13_setSide_38 rfl rfl ?_
      obtain ⟨g10, h⟩ := gd_some h
      obtain ⟨g9, h⟩ := gd_some h
      refine x_raldv (pc := 39) (t0 := 7) hC dX13_setSide_39 g10 (by decide) (fun _ => rfl) g9 (fun r11 hr11 => ?_)
      replace h := lt_x hr11 h
      obtain ⟨g12, h⟩ := gd_some h
      refine x_getIv (pc := 40) (k := 15) hC fc_17 fl_RX13_212 dX13_setSide_40 rfl g12 (fun x13 hx13 => ?_)
      replace h := lt_x hx13 h
      refine x_istore_n (pc := 43) hC dX13_setSide_43 rfl (by decide) (by decide) rfl ?_
      refine x_aload_n (pc := 44) hC 1 dX13_setSide_44 rfl rfl ?_
      refine x_getRv (pc := 45) (k := 2) hC fc_19 fl_RX13_19 dX13_setSide_45 rfl g6 (fun r14 hr14 => ?_)
      replace h := lt_x hr14 h
      refine x_iload_n (pc := 48) hC 2 dX13_setSide_48 rfl rfl ?_
      obtain ⟨g17, h⟩ := gd_some h
      obtain ⟨g16, h⟩ := gd_some h
      refine x_raldv (pc := 49) (t0 := 7) hC dX13_setSide_49 g17 (by decide) (fun _ => rfl) g16 (fun r18 hr18 => ?_)
      replace h := lt_x hr18 h
      refine x_iload_n (pc := 50) hC 3 dX13_setSide_50 rfl rfl ?_
      obtain ⟨g19, h⟩ := gd_some h
      obtain ⟨g20, h⟩ := gd_some h
      refine x_putIv (pc := 51) (k := 15) hC fc_17 fl_RX13_212 dX13_setSide_51 rfl rfl (nf_C g20) g19 (fun S21 hS21 => ?_)
      replace h := zI_x hS21 h
      have g22 : gK S21 a0 = 19 := by rw [hS21]; exact g6
      have g23 : gK S21 r7 = 37 := by rw [hS21]; exact g10
      have g24 : gK S21 r11 = 17 := by rw [hS21]; exact g12
      have g25 : gK S21 r14 = 37 := by rw [hS21]; exact g17
      have g26 : gK S21 r18 = 17 := by rw [hS21]; exact g19
      refine x_aload_n (pc := 54) hC 1 dX13_setSide_54 rfl rfl ?_
      obtain ⟨o29, ho29, h⟩ := bd_some h
      refine x_callV (pc := 55) (As := []) (rest := []) hC hl (c_X13_logs l hls ho29) lk_RX13_81 fc_19 g22 dX13_setSide_55 rfl rfl (Nat.le_of_ble_eq_true rfl) ⟨Nat.le_of_ble_eq_true rfl, Nat.le_of_ble_eq_true rfl⟩ ⟨(Nat.le_of_ble_eq_true rfl), (Nat.le_of_ble_eq_true rfl)⟩ ?_
      rcases o29 with ⟨_ | E30, S28⟩
      · refine xk_v ?_
        replace h := bk_l h
        refine x_iload_n (pc := 58) hC 0 dX13_setSide_58 rfl rfl ?_
        obtain ⟨g31, h⟩ := gd_some h
        exact x_zreturn (pc := 59) hC hE dX13_setSide_59 (nf_C g31).1 (so h) (Nat.le_of_ble_eq_true rfl) (Nat.le_of_ble_eq_true rfl)
      · exact xk_r (xt_out hC hE (bk_r h) (Nat.le_of_ble_eq_true rfl) (Nat.le_of_ble_eq_true rfl))
    · rw [if_neg c32] at h
      refine x_iconst (pc := 32) (v := (0 : Int32)) hC dX13_setSide_32 (by decide) ?_
      exact x_zreturn (pc := 33) hC hE dX13_setSide_33 (show NF .char _ from ⟨rfl, rfl⟩).1 (so h) (Nat.le_of_ble_eq_true rfl) (Nat.le_of_ble_eq_true rfl)
  · exact xk_r (xt_out hC hE (bk_r h) (Nat.le_of_ble_eq_true rfl) (Nat.le_of_ble_eq_true rfl))
def f2_X13_setSide (S : mS) (a0 : Nat) (a1 : Int32) (a2 : Int32) : Option (Rs Int32) :=
  bd (f_X13_isDeck S a1) fun x1 S2 => if x1 = 0 then (f2_X13_setSide_26  S2 a0 a1 a2 a0 (1 : Int32)) else (gd (((KB + 1) < KB ∧ gK S2 (KB + 1) = 1) ∨ (KB ≤ (KB + 1) ∧ (KB + 1) < KB + 3)) (bd (f2_J0_indexOf_0f7a4 S2 (KB + 1) a2) fun x6 S7 => if 0 ≤ x6 then (f2_X13_setSide_26  S7 a0 a1 a2 a0 (0 : Int32)) else (f2_X13_setSide_26  S7 a0 a1 a2 a0 (2 : Int32))))
set_option maxHeartbeats 2000000 in
set_option maxRecDepth 100000 in
theorem t2_X13_setSide {l : Launch} (hls : l.stackTraces = false) {C : cT} (hC : CX C cX13_setSide 4 yX13_setSide rm2_X13_setSide) (hl : C.2.1 = l) {S0 : mS} (hE : CE C S0 (Option.some Jvm.ClassFile.FieldType.char) []) {o : Rs Int32} {S : mS} {a0 : Nat} {a1 : Int32} {a2 : Int32} (h : f2_X13_setSide S a0 a1 a2 = some o) : XX C 4 (QQ C (fun r : Int32 => some (.int r)) S0 o) 0 0 S 0 [(0, .ref a0), (1, .int a1), (2, .int a2)] [] := by
  unfold f2_X13_setSide at h
  refine x_aload_n (pc := 0) hC 0 dX13_setSide_0 rfl rfl ?_
  refine x_iload_n (pc := 1) hC 1 dX13_setSide_1 rfl rfl ?_
  obtain ⟨o3, ho3, h⟩ := bd_some h
  refine x_callS (pc := 2) (As := [.int a1]) (rest := [.ref a0]) hC hl (c_X13_isDeck l hls ho3) lk_RX13_121 dX13_setSide_2 rfl rfl (Nat.le_of_ble_eq_true rfl) ⟨Nat.le_of_ble_eq_true rfl, Nat.le_of_ble_eq_true rfl⟩ ⟨(Nat.le_of_ble_eq_true rfl), (Nat.le_of_ble_eq_true rfl)⟩ ?_
  rcases o3 with ⟨x1 | E4, S2⟩
  · refine xk_i ?_
    replace h := bk_l h
    refine x_if_ne (pc := 5) hC 12 dX13_setSide_5 (by decide) (fun c11 => ?_) (fun c11 => ?_)
    · rw [if_neg c11] at h
      refine x_ldcK (pc := 12) (i := 1) (tx := "lmr") hC (by decide) dX13_setSide_12 ?_
      refine x_iload_n (pc := 14) hC 2 dX13_setSide_14 rfl rfl ?_
      obtain ⟨g5, h⟩ := gd_some h
      obtain ⟨o8, ho8, h⟩ := bd_some h
      refine x_callVS (pc := 15) (As := [.int a2]) (rest := [.ref a0]) hC hl (c2_J0_indexOf_0f7a4 l hls ho8) lk_RX13_207 rfl g5 dX13_setSide_15 rfl rfl (Nat.le_of_ble_eq_true rfl) ⟨Nat.le_of_ble_eq_true rfl, Nat.le_of_ble_eq_true rfl⟩ ⟨(Nat.le_of_ble_eq_true rfl), (Nat.le_of_ble_eq_true rfl)⟩ ?_
      rcases o8 with ⟨x6 | E9, S7⟩
      · refine xk_i ?_
        replace h := bk_l h
        refine x_if_ge (pc := 18) hC 25 dX13_setSide_18 (by decide) (fun c10 => ?_) (fun c10 => ?_)
        · rw [if_pos c10] at h
          refine x_iconst (pc := 25) (v := (0 : Int32)) hC dX13_setSide_25 (by decide) ?_
          refine x_pick [0, 1, 2] rfl ?_
          exact t2_X13_setSide_26 hls hC hl hE h
        · rw [if_neg c10] at h
          refine x_iconst (pc := 21) (v := (2 : Int32)) hC dX13_setSide_21 (by decide) ?_
          refine x_goto (pc := 22) hC 26 dX13_setSide_22 (by decide) ?_
          refine x_pick [0, 1, 2] rfl ?_
          exact t2_X13_setSide_26 hls hC hl hE h
      · exact xk_r (xt_out hC hE (bk_r h) (Nat.le_of_ble_eq_true rfl) (Nat.le_of_ble_eq_true rfl))
    · rw [if_pos c11] at h
      refine x_iconst (pc := 8) (v := (1 : Int32)) hC dX13_setSide_8 (by decide) ?_
      refine x_goto (pc := 9) hC 26 dX13_setSide_9 (by decide) ?_
      refine x_pick [0, 1, 2] rfl ?_
      exact t2_X13_setSide_26 hls hC hl hE h
  · exact xk_r (xt_out hC hE (bk_r h) (Nat.le_of_ble_eq_true rfl) (Nat.le_of_ble_eq_true rfl))
theorem c2_X13_setSide (l : Launch) (hls : l.stackTraces = false) {S : mS} {a0 : Nat} {a1 : Int32} {a2 : Int32} {o : Rs Int32} (h : f2_X13_setSide S a0 a1 a2 = some o) : CT (fun r : Int32 => some (.int r)) l yX13_setSide (.code yX13_setSide cX13_setSide 4 (Option.some Jvm.ClassFile.FieldType.char)) rm2_X13_setSide S [.ref a0, .int a1, .int a2] o := ct_of (by decide +kernel) hls (Nat.le_of_ble_eq_true rfl) (fun C hl hC hE => t2_X13_setSide hls hC hl hE h)
abbrev rm2_X13_addEffect : Room := { frames := 15, cells := 2, slots := 13, locals := 309 }
def f2_X13_addEffect_58  (S : mS) (a0 : Nat) (a1 : Int32) (a2 : Int32) (a3 : Int32) (s0 : Nat) (s1 : Int32) : Option (Rs Int32) :=
  gd (gK S s0 = 19) (bd (f_X13_isWrong S s0 s1) fun x2 S3 => if x2 = 0 then (gd (gK S3 a0 = 19) (lt9 (gR S3 a0 2) fun r7 => gd (gK S3 r7 = 37) (gd (¬ (a1 < 0 ∨ gZ S3 r7 ≤ (a1).toNatClampNeg)) (lt9 (gR S3 r7 (a1).toNatClampNeg) fun r11 => gd (gK S3 r11 = 17) (lt9 (gR S3 r11 8) fun r13 => gd (gN S3 + 1 < KB) (zW (sW S3 30 3) fun S15 => lt9 (gN S3 + 1) fun r16 => gd (¬ ((0 : Int32) < 0 ∨ gZ S15 r16 ≤ ((0 : Int32)).toNatClampNeg)) (zI (sI S15 r16 ((0 : Int32)).toNatClampNeg a2) fun S19 => gd (¬ ((1 : Int32) < 0 ∨ gZ S19 r16 ≤ ((1 : Int32)).toNatClampNeg)) (zI (sI S19 r16 ((1 : Int32)).toNatClampNeg a3) fun S22 => gd (¬ ((2 : Int32) < 0 ∨ gZ S22 r16 ≤ ((2 : Int32)).toNatClampNeg)) (zI (sI S22 r16 ((2 : Int32)).toNatClampNeg (0 : Int32)) fun S25 => gd (gK S25 r13 = 5) (bd (f2_Jx4a65c_add_9ea2d S25 r13 r16) fun x28 S29 => gd (gK S29 a0 = 19) (bd (f_X13_logs S29 a0) fun _ S34 => gd (gK S34 a0 = 19) (lt9 (gR S34 a0 2) fun r38 => gd (gK S34 r38 = 37) (gd (¬ (a1 < 0 ∨ gZ S34 r38 ≤ (a1).toNatClampNeg)) (lt9 (gR S34 r38 (a1).toNatClampNeg) fun r42 => gd (gK S34 r42 = 17) (lt9 (gR S34 r42 8) fun r44 => gd (gK S34 r44 = 5) (bd (f_Jx4a65c_size_8abf5 S34 r44) fun x46 S47 => some (.inl x46, S47))))))))))))))))) else (some (.inl (0 : Int32), S3)))
set_option maxHeartbeats 2000000 in
set_option maxRecDepth 100000 in
theorem t2_X13_addEffect_58 {l : Launch} (hls : l.stackTraces = false) {C : cT} (hC : CX C cX13_addEffect 4 yX13_addEffect rm2_X13_addEffect) (hl : C.2.1 = l) {S0 : mS} (hE : CE C S0 (Option.some Jvm.ClassFile.FieldType.int) []) {o : Rs Int32} {S : mS} {a0 : Nat} {a1 : Int32} {a2 : Int32} {a3 : Int32} {s0 : Nat} {s1 : Int32} (h : f2_X13_addEffect_58  S a0 a1 a2 a3 s0 s1 = some o) : XX C 4 (QQ C (fun r : Int32 => some (.int r)) S0 o) (0) (0) S 58 [(0, .ref a0), (1, .int a1), (2, .int a2), (3, .int a3)] [.int s1, .ref s0] := by
  unfold f2_X13_addEffect_58 at h
  obtain ⟨g1, h⟩ := gd_some h
  obtain ⟨o4, ho4, h⟩ := bd_some h
  refine x_callV (pc := 58) (As := [.int s1]) (rest := []) hC hl (c_X13_isWrong l hls ho4) lk_RX13_68 fc_19 g1 dX13_addEffect_58 rfl rfl (Nat.le_of_ble_eq_true rfl) ⟨Nat.le_of_ble_eq_true rfl, Nat.le_of_ble_eq_true rfl⟩ ⟨(Nat.le_of_ble_eq_true rfl), (Nat.le_of_ble_eq_true rfl)⟩ ?_
  rcases o4 with ⟨x2 | E5, S3⟩
  · refine xk_i ?_
    replace h := bk_l h
    refine x_if_eq (pc := 61) hC 66 dX13_addEffect_61 (by decide) (fun c50 => ?_) (fun c50 => ?_)
    · rw [if_pos c50] at h
      refine x_aload_n (pc := 66) hC 0 dX13_addEffect_66 rfl rfl ?_
      obtain ⟨g6, h⟩ := gd_some h
      refine x_getRv (pc := 67) (k := 2) hC fc_19 fl_RX13_19 dX13_addEffect_67 rfl g6 (fun r7 hr7 => ?_)
      replace h := lt_x hr7 h
      refine x_iload_n (pc := 70) hC 1 dX13_addEffect_70 rfl rfl ?_
      obtain ⟨g10, h⟩ := gd_some h
      obtain ⟨g9, h⟩ := gd_some h
      refine x_raldv (pc := 71) (t0 := 7) hC dX13_addEffect_71 g10 (by decide) (fun _ => rfl) g9 (fun r11 hr11 => ?_)
      replace h := lt_x hr11 h
      obtain ⟨g12, h⟩ := gd_some h
      refine x_getRv (pc := 72) (k := 8) hC fc_17 fl_RX13_230 dX13_addEffect_72 rfl g12 (fun r13 hr13 => ?_)
      replace h := lt_x hr13 h
      refine x_iconst (pc := 75) (v := (3 : Int32)) hC dX13_addEffect_75 (by decide) ?_
      obtain ⟨g14, h⟩ := gd_some h
      refine x_newaIv (pc := 76) (z := 3) hC wm_186 dX13_addEffect_76 (by decide) (by decide) (Nat.le_of_ble_eq_true rfl) g14 (Nat.le_of_ble_eq_true rfl) (Nat.le_of_ble_eq_true rfl) (fun S15 r16 hS15 hr16 => ?_)
      replace h := zW_x hS15 h
      replace h := lt_x hr16 h
      have g17 : gK S15 r16 = 30 := by rw [hr16, hS15]; exact sW_K
      refine x_dup (pc := 78) hC dX13_addEffect_78 rfl ?_
      refine x_iconst (pc := 79) (v := (0 : Int32)) hC dX13_addEffect_79 (by decide) ?_
      refine x_iload_n (pc := 80) hC 2 dX13_addEffect_80 rfl rfl ?_
      obtain ⟨g18, h⟩ := gd_some h
      refine x_iastv (pc := 81) hC dX13_addEffect_81 g17 g18 (fun S19 hS19 => ?_)
      replace h := zI_x hS19 h
      have g20 : gK S19 r16 = 30 := by rw [hS19]; exact g17
      refine x_dup (pc := 82) hC dX13_addEffect_82 rfl ?_
      refine x_iconst (pc := 83) (v := (1 : Int32)) hC dX13_addEffect_83 (by decide) ?_
      refine x_iload_n (pc := 84) hC 3 dX13_addEffect_84 rfl rfl ?_
      obtain ⟨g21, h⟩ := gd_some h
      refine x_iastv (pc := 85) hC dX13_addEffect_85 g20 g21 (fun S22 hS22 => ?_)
      replace h := zI_x hS22 h
      have g23 : gK S22 r16 = 30 := by rw [hS22]; exact g20
      refine x_dup (pc := 86) hC dX13_addEffect_86 rfl ?_
      refine x_iconst (pc := 87) (v := (2 : Int32)) hC dX13_addEffect_87 (by decide) ?_
      refine x_iconst (pc := 88) (v := (0 : Int32)) hC dX13_addEffect_88 (by decide) ?_
      obtain ⟨g24, h⟩ := gd_some h
      refine x_iastv (pc := 89) hC dX13_addEffect_89 g23 g24 (fun S25 hS25 => ?_)
      replace h := zI_x hS25 h
      have g26 : gK S25 r16 = 30 := by rw [hS25]; exact g23
      obtain ⟨g27, h⟩ := gd_some h
      obtain ⟨o30, ho30, h⟩ := bd_some h
      refine x_callF (pc := 90) (As := [.ref r16]) (rest := []) hC hl (c2_Jx4a65c_add_9ea2d l hls ho30) lk_RX13_77 fc_5 g27 dX13_addEffect_90 rfl rfl (Nat.le_of_ble_eq_true rfl) ⟨Nat.le_of_ble_eq_true rfl, Nat.le_of_ble_eq_true rfl⟩ ⟨(Nat.le_of_ble_eq_true rfl), (Nat.le_of_ble_eq_true rfl)⟩ ?_
      rcases o30 with ⟨x28 | E31, S29⟩
      · refine xk_i ?_
        replace h := bk_l h
        refine x_pop (pc := 95) hC dX13_addEffect_95 rfl ?_
        refine x_aload_n (pc := 96) hC 0 dX13_addEffect_96 rfl rfl ?_
        obtain ⟨g32, h⟩ := gd_some h
        obtain ⟨o35, ho35, h⟩ := bd_some h
        refine x_callV (pc := 97) (As := []) (rest := []) hC hl (c_X13_logs l hls ho35) lk_RX13_81 fc_19 g32 dX13_addEffect_97 rfl rfl (Nat.le_of_ble_eq_true rfl) ⟨Nat.le_of_ble_eq_true rfl, Nat.le_of_ble_eq_true rfl⟩ ⟨(Nat.le_of_ble_eq_true rfl), (Nat.le_of_ble_eq_true rfl)⟩ ?_
        rcases o35 with ⟨_ | E36, S34⟩
        · refine xk_v ?_
          replace h := bk_l h
          refine x_aload_n (pc := 100) hC 0 dX13_addEffect_100 rfl rfl ?_
          obtain ⟨g37, h⟩ := gd_some h
          refine x_getRv (pc := 101) (k := 2) hC fc_19 fl_RX13_19 dX13_addEffect_101 rfl g37 (fun r38 hr38 => ?_)
          replace h := lt_x hr38 h
          refine x_iload_n (pc := 104) hC 1 dX13_addEffect_104 rfl rfl ?_
          obtain ⟨g41, h⟩ := gd_some h
          obtain ⟨g40, h⟩ := gd_some h
          refine x_raldv (pc := 105) (t0 := 7) hC dX13_addEffect_105 g41 (by decide) (fun _ => rfl) g40 (fun r42 hr42 => ?_)
          replace h := lt_x hr42 h
          obtain ⟨g43, h⟩ := gd_some h
          refine x_getRv (pc := 106) (k := 8) hC fc_17 fl_RX13_230 dX13_addEffect_106 rfl g43 (fun r44 hr44 => ?_)
          replace h := lt_x hr44 h
          obtain ⟨g45, h⟩ := gd_some h
          obtain ⟨o48, ho48, h⟩ := bd_some h
          refine x_callF (pc := 109) (As := []) (rest := []) hC hl (c_Jx4a65c_size_8abf5 l hls ho48) lk_RX13_54 fc_5 g45 dX13_addEffect_109 rfl rfl (Nat.le_of_ble_eq_true rfl) ⟨Nat.le_of_ble_eq_true rfl, Nat.le_of_ble_eq_true rfl⟩ ⟨(Nat.le_of_ble_eq_true rfl), (Nat.le_of_ble_eq_true rfl)⟩ ?_
          rcases o48 with ⟨x46 | E49, S47⟩
          · refine xk_i ?_
            replace h := bk_l h
            exact x_ireturn (pc := 114) hC hE dX13_addEffect_114 (so h) (Nat.le_of_ble_eq_true rfl) (Nat.le_of_ble_eq_true rfl)
          · exact xk_r (xt_out hC hE (bk_r h) (Nat.le_of_ble_eq_true rfl) (Nat.le_of_ble_eq_true rfl))
        · exact xk_r (xt_out hC hE (bk_r h) (Nat.le_of_ble_eq_true rfl) (Nat.le_of_ble_eq_true rfl))
      · exact xk_r (xt_out hC hE (bk_r h) (Nat.le_of_ble_eq_true rfl) (Nat.le_of_ble_eq_true rfl))
    · rw [if_neg c50] at h
      refine x_iconst (pc := 64) (v := (0 : Int32)) hC dX13_addEffect_64 (by decide) ?_
      exact x_ireturn (pc := 65) hC hE dX13_addEffect_65 (so h) (Nat.le_of_ble_eq_true rfl) (Nat.le_of_ble_eq_true rfl)
  · exact xk_r (xt_out hC hE (bk_r h) (Nat.le_of_ble_eq_true rfl) (Nat.le_of_ble_eq_true rfl))
def f2_X13_addEffect_31  (S : mS) (a0 : Nat) (a1 : Int32) (a2 : Int32) (a3 : Int32) (s0 : Nat) : Option (Rs Int32) :=
  f2_X13_addEffect_58  S a0 a1 a2 a3 s0 (2 : Int32)
set_option maxHeartbeats 2000000 in
set_option maxRecDepth 100000 in
theorem t2_X13_addEffect_31 {l : Launch} (hls : l.stackTraces = false) {C : cT} (hC : CX C cX13_addEffect 4 yX13_addEffect rm2_X13_addEffect) (hl : C.2.1 = l) {S0 : mS} (hE : CE C S0 (Option.some Jvm.ClassFile.FieldType.int) []) {o : Rs Int32} {S : mS} {a0 : Nat} {a1 : Int32} {a2 : Int32} {a3 : Int32} {s0 : Nat} (h : f2_X13_addEffect_31  S a0 a1 a2 a3 s0 = some o) : XX C 4 (QQ C (fun r : Int32 => some (.int r)) S0 o) (0) (0) S 31 [(0, .ref a0), (1, .int a1), (2, .int a2), (3, .int a3)] [.ref s0] := by
  unfold f2_X13_addEffect_31 at h
  refine x_iconst (pc := 31) (v := (2 : Int32)) hC dX13_addEffect_31 (by decide) ?_
  refine x_goto (pc := 32) hC 58 dX13_addEffect_32 (by decide) ?_
  refine x_pick [0, 1, 2, 3] rfl ?_
  exact t2_X13_addEffect_58 hls hC hl hE h
def f2_X13_addEffect (S : mS) (a0 : Nat) (a1 : Int32) (a2 : Int32) (a3 : Int32) : Option (Rs Int32) :=
  bd (f_X13_isDeck S a1) fun x1 S2 => if x1 = 0 then (f2_X13_addEffect_58  S2 a0 a1 a2 a3 a0 (1 : Int32)) else (gd (((KB + 2) < KB ∧ gK S2 (KB + 2) = 1) ∨ (KB ≤ (KB + 2) ∧ (KB + 2) < KB + 3)) (bd (f2_J0_indexOf_0f7a4 S2 (KB + 2) a2) fun x6 S7 => if x6 < 0 then (f2_X13_addEffect_31  S7 a0 a1 a2 a3 a0) else (bd (f_X13_isBetween S7 a3 (0 : Int32) (100 : Int32)) fun x10 S11 => if x10 = 0 then (f2_X13_addEffect_31  S11 a0 a1 a2 a3 a0) else (gd (gK S11 a0 = 19) (lt9 (gR S11 a0 2) fun r15 => gd (gK S11 r15 = 37) (gd (¬ (a1 < 0 ∨ gZ S11 r15 ≤ (a1).toNatClampNeg)) (lt9 (gR S11 r15 (a1).toNatClampNeg) fun r19 => gd (gK S11 r19 = 17) (lt9 (gR S11 r19 8) fun r21 => gd (gK S11 r21 = 5) (bd (f_Jx4a65c_size_8abf5 S11 r21) fun x23 S24 => if x23 = (3 : Int32) then (f2_X13_addEffect_58  S24 a0 a1 a2 a3 a0 (3 : Int32)) else (f2_X13_addEffect_58  S24 a0 a1 a2 a3 a0 (0 : Int32)))))))))))
set_option maxHeartbeats 2000000 in
set_option maxRecDepth 100000 in
theorem t2_X13_addEffect {l : Launch} (hls : l.stackTraces = false) {C : cT} (hC : CX C cX13_addEffect 4 yX13_addEffect rm2_X13_addEffect) (hl : C.2.1 = l) {S0 : mS} (hE : CE C S0 (Option.some Jvm.ClassFile.FieldType.int) []) {o : Rs Int32} {S : mS} {a0 : Nat} {a1 : Int32} {a2 : Int32} {a3 : Int32} (h : f2_X13_addEffect S a0 a1 a2 a3 = some o) : XX C 4 (QQ C (fun r : Int32 => some (.int r)) S0 o) 0 0 S 0 [(0, .ref a0), (1, .int a1), (2, .int a2), (3, .int a3)] [] := by
  unfold f2_X13_addEffect at h
  refine x_aload_n (pc := 0) hC 0 dX13_addEffect_0 rfl rfl ?_
  refine x_iload_n (pc := 1) hC 1 dX13_addEffect_1 rfl rfl ?_
  obtain ⟨o3, ho3, h⟩ := bd_some h
  refine x_callS (pc := 2) (As := [.int a1]) (rest := [.ref a0]) hC hl (c_X13_isDeck l hls ho3) lk_RX13_121 dX13_addEffect_2 rfl rfl (Nat.le_of_ble_eq_true rfl) ⟨Nat.le_of_ble_eq_true rfl, Nat.le_of_ble_eq_true rfl⟩ ⟨(Nat.le_of_ble_eq_true rfl), (Nat.le_of_ble_eq_true rfl)⟩ ?_
  rcases o3 with ⟨x1 | E4, S2⟩
  · refine xk_i ?_
    replace h := bk_l h
    refine x_if_ne (pc := 5) hC 12 dX13_addEffect_5 (by decide) (fun c30 => ?_) (fun c30 => ?_)
    · rw [if_neg c30] at h
      refine x_ldcK (pc := 12) (i := 2) (tx := "erc") hC (by decide) dX13_addEffect_12 ?_
      refine x_iload_n (pc := 14) hC 2 dX13_addEffect_14 rfl rfl ?_
      obtain ⟨g5, h⟩ := gd_some h
      obtain ⟨o8, ho8, h⟩ := bd_some h
      refine x_callVS (pc := 15) (As := [.int a2]) (rest := [.ref a0]) hC hl (c2_J0_indexOf_0f7a4 l hls ho8) lk_RX13_207 rfl g5 dX13_addEffect_15 rfl rfl (Nat.le_of_ble_eq_true rfl) ⟨Nat.le_of_ble_eq_true rfl, Nat.le_of_ble_eq_true rfl⟩ ⟨(Nat.le_of_ble_eq_true rfl), (Nat.le_of_ble_eq_true rfl)⟩ ?_
      rcases o8 with ⟨x6 | E9, S7⟩
      · refine xk_i ?_
        replace h := bk_l h
        refine x_if_lt (pc := 18) hC 31 dX13_addEffect_18 (by decide) (fun c29 => ?_) (fun c29 => ?_)
        · rw [if_pos c29] at h
          refine x_pick [0, 1, 2, 3] rfl ?_
          exact t2_X13_addEffect_31 hls hC hl hE h
        · rw [if_neg c29] at h
          refine x_iload_n (pc := 21) hC 3 dX13_addEffect_21 rfl rfl ?_
          refine x_iconst (pc := 22) (v := (0 : Int32)) hC dX13_addEffect_22 (by decide) ?_
          refine x_bipush (pc := 23) (v := (100 : Int32)) hC dX13_addEffect_23 (by decide) ?_
          obtain ⟨o12, ho12, h⟩ := bd_some h
          refine x_callS (pc := 25) (As := [.int a3, .int (0 : Int32), .int (100 : Int32)]) (rest := [.ref a0]) hC hl (c_X13_isBetween l hls ho12) lk_RX13_50 dX13_addEffect_25 rfl rfl (Nat.le_of_ble_eq_true rfl) ⟨Nat.le_of_ble_eq_true rfl, Nat.le_of_ble_eq_true rfl⟩ ⟨(Nat.le_of_ble_eq_true rfl), (Nat.le_of_ble_eq_true rfl)⟩ ?_
          rcases o12 with ⟨x10 | E13, S11⟩
          · refine xk_i ?_
            replace h := bk_l h
            refine x_if_ne (pc := 28) hC 35 dX13_addEffect_28 (by decide) (fun c28 => ?_) (fun c28 => ?_)
            · rw [if_neg c28] at h
              refine x_aload_n (pc := 35) hC 0 dX13_addEffect_35 rfl rfl ?_
              obtain ⟨g14, h⟩ := gd_some h
              refine x_getRv (pc := 36) (k := 2) hC fc_19 fl_RX13_19 dX13_addEffect_36 rfl g14 (fun r15 hr15 => ?_)
              replace h := lt_x hr15 h
              refine x_iload_n (pc := 39) hC 1 dX13_addEffect_39 rfl rfl ?_
              obtain ⟨g18, h⟩ := gd_some h
              obtain ⟨g17, h⟩ := gd_some h
              refine x_raldv (pc := 40) (t0 := 7) hC dX13_addEffect_40 g18 (by decide) (fun _ => rfl) g17 (fun r19 hr19 => ?_)
              replace h := lt_x hr19 h
              obtain ⟨g20, h⟩ := gd_some h
              refine x_getRv (pc := 41) (k := 8) hC fc_17 fl_RX13_230 dX13_addEffect_41 rfl g20 (fun r21 hr21 => ?_)
              replace h := lt_x hr21 h
              obtain ⟨g22, h⟩ := gd_some h
              obtain ⟨o25, ho25, h⟩ := bd_some h
              refine x_callF (pc := 44) (As := []) (rest := [.ref a0]) hC hl (c_Jx4a65c_size_8abf5 l hls ho25) lk_RX13_54 fc_5 g22 dX13_addEffect_44 rfl rfl (Nat.le_of_ble_eq_true rfl) ⟨Nat.le_of_ble_eq_true rfl, Nat.le_of_ble_eq_true rfl⟩ ⟨(Nat.le_of_ble_eq_true rfl), (Nat.le_of_ble_eq_true rfl)⟩ ?_
              rcases o25 with ⟨x23 | E26, S24⟩
              · refine xk_i ?_
                replace h := bk_l h
                refine x_iconst (pc := 49) (v := (3 : Int32)) hC dX13_addEffect_49 (by decide) ?_
                refine x_icmp_ne (pc := 50) hC 57 dX13_addEffect_50 (by decide) (fun c27 => ?_) (fun c27 => ?_)
                · rw [if_neg c27] at h
                  refine x_iconst (pc := 57) (v := (0 : Int32)) hC dX13_addEffect_57 (by decide) ?_
                  refine x_pick [0, 1, 2, 3] rfl ?_
                  exact t2_X13_addEffect_58 hls hC hl hE h
                · rw [if_pos c27] at h
                  refine x_iconst (pc := 53) (v := (3 : Int32)) hC dX13_addEffect_53 (by decide) ?_
                  refine x_goto (pc := 54) hC 58 dX13_addEffect_54 (by decide) ?_
                  refine x_pick [0, 1, 2, 3] rfl ?_
                  exact t2_X13_addEffect_58 hls hC hl hE h
              · exact xk_r (xt_out hC hE (bk_r h) (Nat.le_of_ble_eq_true rfl) (Nat.le_of_ble_eq_true rfl))
            · rw [if_pos c28] at h
              refine x_pick [0, 1, 2, 3] rfl ?_
              exact t2_X13_addEffect_31 hls hC hl hE h
          · exact xk_r (xt_out hC hE (bk_r h) (Nat.le_of_ble_eq_true rfl) (Nat.le_of_ble_eq_true rfl))
      · exact xk_r (xt_out hC hE (bk_r h) (Nat.le_of_ble_eq_true rfl) (Nat.le_of_ble_eq_true rfl))
    · rw [if_pos c30] at h
      refine x_iconst (pc := 8) (v := (1 : Int32)) hC dX13_addEffect_8 (by decide) ?_
      refine x_goto (pc := 9) hC 58 dX13_addEffect_9 (by decide) ?_
      refine x_pick [0, 1, 2, 3] rfl ?_
      exact t2_X13_addEffect_58 hls hC hl hE h
  · exact xk_r (xt_out hC hE (bk_r h) (Nat.le_of_ble_eq_true rfl) (Nat.le_of_ble_eq_true rfl))
theorem c2_X13_addEffect (l : Launch) (hls : l.stackTraces = false) {S : mS} {a0 : Nat} {a1 : Int32} {a2 : Int32} {a3 : Int32} {o : Rs Int32} (h : f2_X13_addEffect S a0 a1 a2 a3 = some o) : CT (fun r : Int32 => some (.int r)) l yX13_addEffect (.code yX13_addEffect cX13_addEffect 4 (Option.some Jvm.ClassFile.FieldType.int)) rm2_X13_addEffect S [.ref a0, .int a1, .int a2, .int a3] o := ct_of (by decide +kernel) hls (Nat.le_of_ble_eq_true rfl) (fun C hl hC hE => t2_X13_addEffect hls hC hl hE h)
abbrev rm2_J2_putChar_b72d1 : Room := { frames := 9, cells := 0, slots := 0, locals := 170 }
def f2_J2_putChar_b72d1_28  (S : mS) (a0 : Nat) (a1 : Int32) (a2 : Int32) : Option (Rs Unit) :=
  lt9 (a1 <<< ((1 : Int32) &&& 31)) fun x1 => lt9 (x1 + Int32.ofInt (1)) fun x2 => lt9 (a2 >>> ((0 : Int32) &&& 31)) fun x3 => lt9 ((x3).toInt8.toInt32) fun x4 => gd (gK S a0 = 33) (gd (¬ (x1 < 0 ∨ gZ S a0 ≤ (x1).toNatClampNeg)) (gd (x4.toInt8.toInt32 = x4) (zI (sI S a0 (x1).toNatClampNeg x4) fun S7 => lt9 (a2 >>> ((8 : Int32) &&& 31)) fun x10 => lt9 ((x10).toInt8.toInt32) fun x11 => gd (¬ (x2 < 0 ∨ gZ S7 a0 ≤ (x2).toNatClampNeg)) (gd (x11.toInt8.toInt32 = x11) (zI (sI S7 a0 (x2).toNatClampNeg x11) fun S13 => some (.inl (), S13))))))
set_option maxHeartbeats 2000000 in
set_option maxRecDepth 100000 in
theorem t2_J2_putChar_b72d1_28 {l : Launch} (hls : l.stackTraces = false) {C : cT} (hC : CX C cJ2_putChar_b72d1 3 yJ2_putChar_b72d1 rm2_J2_putChar_b72d1) (hl : C.2.1 = l) {S0 : mS} (hE : CE C S0 (Option.none : Option Jvm.ClassFile.FieldType) []) {o : Rs Unit} {S : mS} {a0 : Nat} {a1 : Int32} {a2 : Int32} (h : f2_J2_putChar_b72d1_28  S a0 a1 a2 = some o) : XX C 3 (QQ C (fun _ : Unit => none) S0 o) (0) (0) S 28 [(0, .ref a0), (1, .int a1), (2, .int a2)] [] := by
  unfold f2_J2_putChar_b72d1_28 at h
  refine x_iload_n (pc := 28) hC 1 dJ2_putChar_b72d1_28 rfl rfl ?_
  refine x_iconst (pc := 29) (v := (1 : Int32)) hC dJ2_putChar_b72d1_29 (by decide) ?_
  refine x_ishlv (pc := 30) hC dJ2_putChar_b72d1_30 (fun x1 hx1 => ?_)
  replace h := lt_x hx1 h
  refine x_istore_n (pc := 31) hC dJ2_putChar_b72d1_31 rfl (by decide) (by decide) rfl ?_
  refine x_aload_n (pc := 32) hC 1 dJ2_putChar_b72d1_32 rfl rfl ?_
  refine x_iload_n (pc := 33) hC 0 dJ2_putChar_b72d1_33 rfl rfl ?_
  obtain ⟨x2, hx2⟩ : ∃ z, z = (x1 + Int32.ofInt (1)) := ⟨_, rfl⟩
  replace h := lt_x hx2 h
  refine x_iinc (pc := 34) hC 0 dJ2_putChar_b72d1_34 rfl hx2.symm (by decide) (by decide) rfl ?_
  refine x_iload_n (pc := 37) hC 2 dJ2_putChar_b72d1_37 rfl rfl ?_
  refine x_getsHI (pc := 38) hC wm_2089 dJ2_putChar_b72d1_38 ?_
  refine x_ishrv (pc := 41) hC dJ2_putChar_b72d1_41 (fun x3 hx3 => ?_)
  replace h := lt_x hx3 h
  refine x_i2bv (pc := 42) hC dJ2_putChar_b72d1_42 (fun x4 hx4 => ?_)
  replace h := lt_x hx4 h
  obtain ⟨g6, h⟩ := gd_some h
  obtain ⟨g5, h⟩ := gd_some h
  obtain ⟨g8, h⟩ := gd_some h
  refine x_yastv (pc := 43) hC dJ2_putChar_b72d1_43 (nf_Y g8).1 g6 g5 (fun S7 hS7 => ?_)
  replace h := zI_x hS7 h
  have g9 : gK S7 a0 = 33 := by rw [hS7]; exact g6
  refine x_aload_n (pc := 44) hC 1 dJ2_putChar_b72d1_44 rfl rfl ?_
  refine x_iload_n (pc := 45) hC 0 dJ2_putChar_b72d1_45 rfl rfl ?_
  refine x_iload_n (pc := 46) hC 2 dJ2_putChar_b72d1_46 rfl rfl ?_
  refine x_getsLO (pc := 47) hC wm_2091 dJ2_putChar_b72d1_47 ?_
  refine x_ishrv (pc := 50) hC dJ2_putChar_b72d1_50 (fun x10 hx10 => ?_)
  replace h := lt_x hx10 h
  refine x_i2bv (pc := 51) hC dJ2_putChar_b72d1_51 (fun x11 hx11 => ?_)
  replace h := lt_x hx11 h
  obtain ⟨g12, h⟩ := gd_some h
  obtain ⟨g14, h⟩ := gd_some h
  refine x_yastv (pc := 52) hC dJ2_putChar_b72d1_52 (nf_Y g14).1 g9 g12 (fun S13 hS13 => ?_)
  replace h := zI_x hS13 h
  have g15 : gK S13 a0 = 33 := by rw [hS13]; exact g9
  exact x_vreturn (pc := 53) hC hE dJ2_putChar_b72d1_53 (so h) (Nat.le_of_ble_eq_true rfl) (Nat.le_of_ble_eq_true rfl)
def f2_J2_putChar_b72d1_18  (S : mS) : Option (Rs Unit) :=
  none
set_option maxHeartbeats 2000000 in
set_option maxRecDepth 100000 in
theorem t2_J2_putChar_b72d1_18 {l : Launch} (hls : l.stackTraces = false) {C : cT} (hC : CX C cJ2_putChar_b72d1 3 yJ2_putChar_b72d1 rm2_J2_putChar_b72d1) (hl : C.2.1 = l) {S0 : mS} (hE : CE C S0 (Option.none : Option Jvm.ClassFile.FieldType) []) {o : Rs Unit} {S : mS} (h : f2_J2_putChar_b72d1_18  S = some o) : XX C 3 (QQ C (fun _ : Unit => none) S0 o) (0) (0) S 18 [] [] := by
  unfold f2_J2_putChar_b72d1_18 at h
  cases h
def f2_J2_putChar_b72d1 (S : mS) (a0 : Nat) (a1 : Int32) (a2 : Int32) : Option (Rs Unit) :=
  if (1 : Int32) = 0 then (if a1 < 0 then (f2_J2_putChar_b72d1_18  S) else (bd (f2_J2_length_9d52b S a0) fun x1 S2 => if a1 < x1 then (f2_J2_putChar_b72d1_28  S2 a0 a1 a2) else (f2_J2_putChar_b72d1_18  S2))) else (f2_J2_putChar_b72d1_28  S a0 a1 a2)
set_option maxHeartbeats 2000000 in
set_option maxRecDepth 100000 in
theorem t2_J2_putChar_b72d1 {l : Launch} (hls : l.stackTraces = false) {C : cT} (hC : CX C cJ2_putChar_b72d1 3 yJ2_putChar_b72d1 rm2_J2_putChar_b72d1) (hl : C.2.1 = l) {S0 : mS} (hE : CE C S0 (Option.none : Option Jvm.ClassFile.FieldType) []) {o : Rs Unit} {S : mS} {a0 : Nat} {a1 : Int32} {a2 : Int32} (h : f2_J2_putChar_b72d1 S a0 a1 a2 = some o) : XX C 3 (QQ C (fun _ : Unit => none) S0 o) 0 0 S 0 [(0, .ref a0), (1, .int a1), (2, .int a2)] [] := by
  unfold f2_J2_putChar_b72d1 at h
  refine x_getsAS (pc := 0) hC wm_2087 dJ2_putChar_b72d1_0 ?_
  refine x_if_ne (pc := 3) hC 28 dJ2_putChar_b72d1_3 (by decide) (fun c7 => ?_) (fun c7 => ?_)
  · rw [if_neg c7] at h
    refine x_pick [0, 1, 2] rfl ?_
    exact t2_J2_putChar_b72d1_28 hls hC hl hE h
  · rw [if_pos c7] at h
    refine x_iload_n (pc := 6) hC 1 dJ2_putChar_b72d1_6 rfl rfl ?_
    refine x_if_lt (pc := 7) hC 18 dJ2_putChar_b72d1_7 (by decide) (fun c6 => ?_) (fun c6 => ?_)
    · rw [if_pos c6] at h
      refine x_pick [] rfl ?_
      exact t2_J2_putChar_b72d1_18 hls hC hl hE h
    · rw [if_neg c6] at h
      refine x_iload_n (pc := 10) hC 1 dJ2_putChar_b72d1_10 rfl rfl ?_
      refine x_aload_n (pc := 11) hC 0 dJ2_putChar_b72d1_11 rfl rfl ?_
      obtain ⟨o3, ho3, h⟩ := bd_some h
      refine x_callS (pc := 12) (As := [.ref a0]) (rest := [.int a1]) hC hl (c2_J2_length_9d52b l hls ho3) lk_RJ2_48 dJ2_putChar_b72d1_12 rfl rfl (Nat.le_of_ble_eq_true rfl) ⟨Nat.le_of_ble_eq_true rfl, Nat.le_of_ble_eq_true rfl⟩ ⟨(Nat.le_of_ble_eq_true rfl), (Nat.le_of_ble_eq_true rfl)⟩ ?_
      rcases o3 with ⟨x1 | E4, S2⟩
      · refine xk_i ?_
        replace h := bk_l h
        refine x_icmp_lt (pc := 15) hC 28 dJ2_putChar_b72d1_15 (by decide) (fun c5 => ?_) (fun c5 => ?_)
        · rw [if_pos c5] at h
          refine x_pick [0, 1, 2] rfl ?_
          exact t2_J2_putChar_b72d1_28 hls hC hl hE h
        · rw [if_neg c5] at h
          refine x_pick [] rfl ?_
          exact t2_J2_putChar_b72d1_18 hls hC hl hE h
      · exact xk_r (xt_out hC hE (bk_r h) (Nat.le_of_ble_eq_true rfl) (Nat.le_of_ble_eq_true rfl))
theorem c2_J2_putChar_b72d1 (l : Launch) (hls : l.stackTraces = false) {S : mS} {a0 : Nat} {a1 : Int32} {a2 : Int32} {o : Rs Unit} (h : f2_J2_putChar_b72d1 S a0 a1 a2 = some o) : CT (fun _ : Unit => none) l yJ2_putChar_b72d1 (.code yJ2_putChar_b72d1 cJ2_putChar_b72d1 3 (Option.none : Option Jvm.ClassFile.FieldType)) rm2_J2_putChar_b72d1 S [.ref a0, .int a1, .int a2] o := ct_of (by decide +kernel) hls (Nat.le_of_ble_eq_true rfl) (fun C hl hC hE => t2_J2_putChar_b72d1 hls hC hl hE h)
abbrev rm2_J2_putCharsAt_cd4e5 : Room := { frames := 11, cells := 0, slots := 0, locals := 217 }
def f2_J2_putCharsAt_cd4e5_70  (S : mS) (a6 : Int32) : Option (Rs Int32) :=
  some (.inl a6, S)
set_option maxHeartbeats 2000000 in
set_option maxRecDepth 100000 in
theorem t2_J2_putCharsAt_cd4e5_70 {l : Launch} (hls : l.stackTraces = false) {C : cT} (hC : CX C cJ2_putCharsAt_cd4e5 7 yJ2_putCharsAt_cd4e5 rm2_J2_putCharsAt_cd4e5) (hl : C.2.1 = l) {S0 : mS} (hE : CE C S0 (Option.some Jvm.ClassFile.FieldType.int) []) {o : Rs Int32} {S : mS} {a6 : Int32} (h : f2_J2_putCharsAt_cd4e5_70  S a6 = some o) : XX C 7 (QQ C (fun r : Int32 => some (.int r)) S0 o) (0) (0) S 70 [(6, .int a6)] [] := by
  unfold f2_J2_putCharsAt_cd4e5_70 at h
  refine x_iload (pc := 70) hC 0 dJ2_putCharsAt_cd4e5_70 rfl ?_
  exact x_ireturn (pc := 72) hC hE dJ2_putCharsAt_cd4e5_72 (so h) (Nat.le_of_ble_eq_true rfl) (Nat.le_of_ble_eq_true rfl)
def f2_J2_putCharsAt_cd4e5 (S : mS) (a0 : Nat) (a1 : Int32) (a2 : Int32) (a3 : Int32) (a4 : Int32) (a5 : Int32) : Option (Rs Int32) :=
  lt9 (a1 + (4 : Int32)) fun x1 => bd (f2_J2_checkBoundsBeginEnd_d044e S a1 x1 a0) fun _ S3 => lt9 (a1 + Int32.ofInt (1)) fun x6 => bd (f2_J2_putChar_b72d1 S3 a0 a1 a2) fun _ S8 => lt9 (x6 + Int32.ofInt (1)) fun x11 => bd (f2_J2_putChar_b72d1 S8 a0 x6 a3) fun _ S13 => lt9 (x11 + Int32.ofInt (1)) fun x16 => bd (f2_J2_putChar_b72d1 S13 a0 x11 a4) fun _ S18 => lt9 (x16 + Int32.ofInt (1)) fun x21 => bd (f2_J2_putChar_b72d1 S18 a0 x16 a5) fun _ S23 => if (1 : Int32) = 0 then (if x21 = x1 then (f2_J2_putCharsAt_cd4e5_70  S23 x1) else (none)) else (f2_J2_putCharsAt_cd4e5_70  S23 x1)
set_option maxHeartbeats 2000000 in
set_option maxRecDepth 100000 in
theorem t2_J2_putCharsAt_cd4e5 {l : Launch} (hls : l.stackTraces = false) {C : cT} (hC : CX C cJ2_putCharsAt_cd4e5 7 yJ2_putCharsAt_cd4e5 rm2_J2_putCharsAt_cd4e5) (hl : C.2.1 = l) {S0 : mS} (hE : CE C S0 (Option.some Jvm.ClassFile.FieldType.int) []) {o : Rs Int32} {S : mS} {a0 : Nat} {a1 : Int32} {a2 : Int32} {a3 : Int32} {a4 : Int32} {a5 : Int32} (h : f2_J2_putCharsAt_cd4e5 S a0 a1 a2 a3 a4 a5 = some o) : XX C 7 (QQ C (fun r : Int32 => some (.int r)) S0 o) 0 0 S 0 [(0, .ref a0), (1, .int a1), (2, .int a2), (3, .int a3), (4, .int a4), (5, .int a5)] [] := by
  unfold f2_J2_putCharsAt_cd4e5 at h
  refine x_iload_n (pc := 0) hC 1 dJ2_putCharsAt_cd4e5_0 rfl rfl ?_
  refine x_iconst (pc := 1) (v := (4 : Int32)) hC dJ2_putCharsAt_cd4e5_1 (by decide) ?_
  refine x_iaddv (pc := 2) hC dJ2_putCharsAt_cd4e5_2 (fun x1 hx1 => ?_)
  replace h := lt_x hx1 h
  refine x_istore (pc := 3) hC dJ2_putCharsAt_cd4e5_3 (by decide) (by decide) rfl ?_
  refine x_iload_n (pc := 5) hC 2 dJ2_putCharsAt_cd4e5_5 rfl rfl ?_
  refine x_iload (pc := 6) hC 0 dJ2_putCharsAt_cd4e5_6 rfl ?_
  refine x_aload_n (pc := 8) hC 1 dJ2_putCharsAt_cd4e5_8 rfl rfl ?_
  obtain ⟨o4, ho4, h⟩ := bd_some h
  refine x_callS (pc := 9) (As := [.int a1, .int x1, .ref a0]) (rest := []) hC hl (c2_J2_checkBoundsBeginEnd_d044e l hls ho4) lk_RJ2_96 dJ2_putCharsAt_cd4e5_9 rfl rfl (Nat.le_of_ble_eq_true rfl) ⟨Nat.le_of_ble_eq_true rfl, Nat.le_of_ble_eq_true rfl⟩ ⟨(Nat.le_of_ble_eq_true rfl), (Nat.le_of_ble_eq_true rfl)⟩ ?_
  rcases o4 with ⟨_ | E5, S3⟩
  · refine xk_v ?_
    replace h := bk_l h
    refine x_aload_n (pc := 12) hC 1 dJ2_putCharsAt_cd4e5_12 rfl rfl ?_
    refine x_iload_n (pc := 13) hC 2 dJ2_putCharsAt_cd4e5_13 rfl rfl ?_
    obtain ⟨x6, hx6⟩ : ∃ z, z = (a1 + Int32.ofInt (1)) := ⟨_, rfl⟩
    replace h := lt_x hx6 h
    refine x_iinc (pc := 14) hC 2 dJ2_putCharsAt_cd4e5_14 rfl hx6.symm (by decide) (by decide) rfl ?_
    refine x_iload_n (pc := 17) hC 3 dJ2_putCharsAt_cd4e5_17 rfl rfl ?_
    obtain ⟨o9, ho9, h⟩ := bd_some h
    refine x_callS (pc := 18) (As := [.ref a0, .int a1, .int a2]) (rest := []) hC hl (c2_J2_putChar_b72d1 l hls ho9) lk_RJ2_111 dJ2_putCharsAt_cd4e5_18 rfl rfl (Nat.le_of_ble_eq_true rfl) ⟨Nat.le_of_ble_eq_true rfl, Nat.le_of_ble_eq_true rfl⟩ ⟨(Nat.le_of_ble_eq_true rfl), (Nat.le_of_ble_eq_true rfl)⟩ ?_
    rcases o9 with ⟨_ | E10, S8⟩
    · refine xk_v ?_
      replace h := bk_l h
      refine x_aload_n (pc := 21) hC 2 dJ2_putCharsAt_cd4e5_21 rfl rfl ?_
      refine x_iload_n (pc := 22) hC 0 dJ2_putCharsAt_cd4e5_22 rfl rfl ?_
      obtain ⟨x11, hx11⟩ : ∃ z, z = (x6 + Int32.ofInt (1)) := ⟨_, rfl⟩
      replace h := lt_x hx11 h
      refine x_iinc (pc := 23) hC 0 dJ2_putCharsAt_cd4e5_23 rfl hx11.symm (by decide) (by decide) rfl ?_
      refine x_iload_n (pc := 26) hC 4 dJ2_putCharsAt_cd4e5_26 rfl rfl ?_
      obtain ⟨o14, ho14, h⟩ := bd_some h
      refine x_callS (pc := 27) (As := [.ref a0, .int x6, .int a3]) (rest := []) hC hl (c2_J2_putChar_b72d1 l hls ho14) lk_RJ2_111 dJ2_putCharsAt_cd4e5_27 rfl rfl (Nat.le_of_ble_eq_true rfl) ⟨Nat.le_of_ble_eq_true rfl, Nat.le_of_ble_eq_true rfl⟩ ⟨(Nat.le_of_ble_eq_true rfl), (Nat.le_of_ble_eq_true rfl)⟩ ?_
      rcases o14 with ⟨_ | E15, S13⟩
      · refine xk_v ?_
        replace h := bk_l h
        refine x_aload_n (pc := 30) hC 2 dJ2_putCharsAt_cd4e5_30 rfl rfl ?_
        refine x_iload_n (pc := 31) hC 0 dJ2_putCharsAt_cd4e5_31 rfl rfl ?_
        obtain ⟨x16, hx16⟩ : ∃ z, z = (x11 + Int32.ofInt (1)) := ⟨_, rfl⟩
        replace h := lt_x hx16 h
        refine x_iinc (pc := 32) hC 0 dJ2_putCharsAt_cd4e5_32 rfl hx16.symm (by decide) (by decide) rfl ?_
        refine x_iload (pc := 35) hC 5 dJ2_putCharsAt_cd4e5_35 rfl ?_
        obtain ⟨o19, ho19, h⟩ := bd_some h
        refine x_callS (pc := 37) (As := [.ref a0, .int x11, .int a4]) (rest := []) hC hl (c2_J2_putChar_b72d1 l hls ho19) lk_RJ2_111 dJ2_putCharsAt_cd4e5_37 rfl rfl (Nat.le_of_ble_eq_true rfl) ⟨Nat.le_of_ble_eq_true rfl, Nat.le_of_ble_eq_true rfl⟩ ⟨(Nat.le_of_ble_eq_true rfl), (Nat.le_of_ble_eq_true rfl)⟩ ?_
        rcases o19 with ⟨_ | E20, S18⟩
        · refine xk_v ?_
          replace h := bk_l h
          refine x_aload_n (pc := 40) hC 2 dJ2_putCharsAt_cd4e5_40 rfl rfl ?_
          refine x_iload_n (pc := 41) hC 0 dJ2_putCharsAt_cd4e5_41 rfl rfl ?_
          obtain ⟨x21, hx21⟩ : ∃ z, z = (x16 + Int32.ofInt (1)) := ⟨_, rfl⟩
          replace h := lt_x hx21 h
          refine x_iinc (pc := 42) hC 0 dJ2_putCharsAt_cd4e5_42 rfl hx21.symm (by decide) (by decide) rfl ?_
          refine x_iload (pc := 45) hC 6 dJ2_putCharsAt_cd4e5_45 rfl ?_
          obtain ⟨o24, ho24, h⟩ := bd_some h
          refine x_callS (pc := 47) (As := [.ref a0, .int x16, .int a5]) (rest := []) hC hl (c2_J2_putChar_b72d1 l hls ho24) lk_RJ2_111 dJ2_putCharsAt_cd4e5_47 rfl rfl (Nat.le_of_ble_eq_true rfl) ⟨Nat.le_of_ble_eq_true rfl, Nat.le_of_ble_eq_true rfl⟩ ⟨(Nat.le_of_ble_eq_true rfl), (Nat.le_of_ble_eq_true rfl)⟩ ?_
          rcases o24 with ⟨_ | E25, S23⟩
          · refine xk_v ?_
            replace h := bk_l h
            refine x_getsAS (pc := 50) hC wm_2087 dJ2_putCharsAt_cd4e5_50 ?_
            refine x_if_ne (pc := 53) hC 70 dJ2_putCharsAt_cd4e5_53 (by decide) (fun c27 => ?_) (fun c27 => ?_)
            · rw [if_neg c27] at h
              refine x_pick [1] rfl ?_
              exact t2_J2_putCharsAt_cd4e5_70 hls hC hl hE h
            · rw [if_pos c27] at h
              refine x_iload_n (pc := 56) hC 0 dJ2_putCharsAt_cd4e5_56 rfl rfl ?_
              refine x_iload (pc := 57) hC 1 dJ2_putCharsAt_cd4e5_57 rfl ?_
              refine x_icmp_eq (pc := 59) hC 70 dJ2_putCharsAt_cd4e5_59 (by decide) (fun c26 => ?_) (fun c26 => ?_)
              · rw [if_pos c26] at h
                refine x_pick [1] rfl ?_
                exact t2_J2_putCharsAt_cd4e5_70 hls hC hl hE h
              · rw [if_neg c26] at h
                cases h
          · exact xk_r (xt_out hC hE (bk_r h) (Nat.le_of_ble_eq_true rfl) (Nat.le_of_ble_eq_true rfl))
        · exact xk_r (xt_out hC hE (bk_r h) (Nat.le_of_ble_eq_true rfl) (Nat.le_of_ble_eq_true rfl))
      · exact xk_r (xt_out hC hE (bk_r h) (Nat.le_of_ble_eq_true rfl) (Nat.le_of_ble_eq_true rfl))
    · exact xk_r (xt_out hC hE (bk_r h) (Nat.le_of_ble_eq_true rfl) (Nat.le_of_ble_eq_true rfl))
  · exact xk_r (xt_out hC hE (bk_r h) (Nat.le_of_ble_eq_true rfl) (Nat.le_of_ble_eq_true rfl))
theorem c2_J2_putCharsAt_cd4e5 (l : Launch) (hls : l.stackTraces = false) {S : mS} {a0 : Nat} {a1 : Int32} {a2 : Int32} {a3 : Int32} {a4 : Int32} {a5 : Int32} {o : Rs Int32} (h : f2_J2_putCharsAt_cd4e5 S a0 a1 a2 a3 a4 a5 = some o) : CT (fun r : Int32 => some (.int r)) l yJ2_putCharsAt_cd4e5 (.code yJ2_putCharsAt_cd4e5 cJ2_putCharsAt_cd4e5 7 (Option.some Jvm.ClassFile.FieldType.int)) rm2_J2_putCharsAt_cd4e5 S [.ref a0, .int a1, .int a2, .int a3, .int a4, .int a5] o := ct_of (by decide +kernel) hls (Nat.le_of_ble_eq_true rfl) (fun C hl hC hE => t2_J2_putCharsAt_cd4e5 hls hC hl hE h)
abbrev rm2_J5_newCapacity_0f7a4 : Room := { frames := 10, cells := 0, slots := 0, locals := 195 }
def f2_J5_newCapacity_0f7a4 (S : mS) (a0 : Nat) (a1 : Int32) : Option (Rs Int32) :=
  gd (gK S a0 = 2) (lt9 (gR S a0 0) fun r2 => gd ((r2 < KB ∧ gK S r2 = 33) ∨ (KB + 10 ≤ r2 ∧ r2 < KB + 13)) (lt9 (Int32.ofNat (zb S r2)) fun x4 => lt9 (gI S a0 1) fun x5 => lt9 (a1 <<< (x5 &&& 31)) fun x6 => lt9 (x6 - x4) fun x7 => lt9 (gI S a0 1) fun x8 => lt9 ((2 : Int32) <<< (x8 &&& 31)) fun x9 => lt9 (x4 + x9) fun x10 => bd (f_J8_newLength_cabcc S x4 x7 x10) fun x11 S12 => if x11 = (2147483647 : Int32) then (none) else (gd (gK S12 a0 = 2) (lt9 (gI S12 a0 1) fun x16 => lt9 (x11 >>> (x16 &&& 31)) fun x17 => some (.inl x17, S12)))))
set_option maxHeartbeats 2000000 in
set_option maxRecDepth 100000 in
theorem t2_J5_newCapacity_0f7a4 {l : Launch} (hls : l.stackTraces = false) {C : cT} (hC : CX C cJ5_newCapacity_0f7a4 6 yJ5_newCapacity_0f7a4 rm2_J5_newCapacity_0f7a4) (hl : C.2.1 = l) {S0 : mS} (hE : CE C S0 (Option.some Jvm.ClassFile.FieldType.int) []) {o : Rs Int32} {S : mS} {a0 : Nat} {a1 : Int32} (h : f2_J5_newCapacity_0f7a4 S a0 a1 = some o) : XX C 6 (QQ C (fun r : Int32 => some (.int r)) S0 o) 0 0 S 0 [(0, .ref a0), (1, .int a1)] [] := by
  unfold f2_J5_newCapacity_0f7a4 at h
  refine x_aload_n (pc := 0) hC 0 dJ5_newCapacity_0f7a4_0 rfl rfl ?_
  obtain ⟨g1, h⟩ := gd_some h
  refine x_getRv (pc := 1) (k := 0) hC fc_2 fl_RJ5_15 dJ5_newCapacity_0f7a4_1 rfl g1 (fun r2 hr2 => ?_)
  replace h := lt_x hr2 h
  obtain ⟨g3, h⟩ := gd_some h
  refine x_alenB (pc := 4) hC dJ5_newCapacity_0f7a4_4 g3 (fun x4 hx4 => ?_)
  replace h := lt_x hx4 h
  refine x_istore_n (pc := 5) hC dJ5_newCapacity_0f7a4_5 rfl (by decide) (by decide) rfl ?_
  refine x_iload_n (pc := 6) hC 2 dJ5_newCapacity_0f7a4_6 rfl rfl ?_
  refine x_aload_n (pc := 7) hC 1 dJ5_newCapacity_0f7a4_7 rfl rfl ?_
  refine x_getIv (pc := 8) (k := 1) hC fc_2 fl_RJ5_22 dJ5_newCapacity_0f7a4_8 rfl g1 (fun x5 hx5 => ?_)
  replace h := lt_x hx5 h
  refine x_ishlv (pc := 11) hC dJ5_newCapacity_0f7a4_11 (fun x6 hx6 => ?_)
  replace h := lt_x hx6 h
  refine x_istore_n (pc := 12) hC dJ5_newCapacity_0f7a4_12 rfl (by decide) (by decide) rfl ?_
  refine x_iload_n (pc := 13) hC 0 dJ5_newCapacity_0f7a4_13 rfl rfl ?_
  refine x_iload_n (pc := 14) hC 1 dJ5_newCapacity_0f7a4_14 rfl rfl ?_
  refine x_isubv (pc := 15) hC dJ5_newCapacity_0f7a4_15 (fun x7 hx7 => ?_)
  replace h := lt_x hx7 h
  refine x_istore (pc := 16) hC dJ5_newCapacity_0f7a4_16 (by decide) (by decide) rfl ?_
  refine x_iload_n (pc := 18) hC 2 dJ5_newCapacity_0f7a4_18 rfl rfl ?_
  refine x_iload (pc := 19) hC 0 dJ5_newCapacity_0f7a4_19 rfl ?_
  refine x_iload_n (pc := 21) hC 2 dJ5_newCapacity_0f7a4_21 rfl rfl ?_
  refine x_iconst (pc := 22) (v := (2 : Int32)) hC dJ5_newCapacity_0f7a4_22 (by decide) ?_
  refine x_aload_n (pc := 23) hC 3 dJ5_newCapacity_0f7a4_23 rfl rfl ?_
  refine x_getIv (pc := 24) (k := 1) hC fc_2 fl_RJ5_22 dJ5_newCapacity_0f7a4_24 rfl g1 (fun x8 hx8 => ?_)
  replace h := lt_x hx8 h
  refine x_ishlv (pc := 27) hC dJ5_newCapacity_0f7a4_27 (fun x9 hx9 => ?_)
  replace h := lt_x hx9 h
  refine x_iaddv (pc := 28) hC dJ5_newCapacity_0f7a4_28 (fun x10 hx10 => ?_)
  replace h := lt_x hx10 h
  obtain ⟨o13, ho13, h⟩ := bd_some h
  refine x_callS (pc := 29) (As := [.int x4, .int x7, .int x10]) (rest := []) hC hl (c_J8_newLength_cabcc l hls ho13) lk_RJ5_114 dJ5_newCapacity_0f7a4_29 rfl rfl (Nat.le_of_ble_eq_true rfl) ⟨Nat.le_of_ble_eq_true rfl, Nat.le_of_ble_eq_true rfl⟩ ⟨(Nat.le_of_ble_eq_true rfl), (Nat.le_of_ble_eq_true rfl)⟩ ?_
  rcases o13 with ⟨x11 | E14, S12⟩
  · refine xk_i ?_
    replace h := bk_l h
    refine x_istore (pc := 32) hC dJ5_newCapacity_0f7a4_32 (by decide) (by decide) rfl ?_
    refine x_iload (pc := 34) hC 0 dJ5_newCapacity_0f7a4_34 rfl ?_
    refine x_ldc (pc := 36) hC wm_2400 dJ5_newCapacity_0f7a4_36 ?_
    refine x_icmp_ne (pc := 38) hC 51 dJ5_newCapacity_0f7a4_38 (by decide) (fun c18 => ?_) (fun c18 => ?_)
    · rw [if_neg c18] at h
      refine x_iload (pc := 51) hC 0 dJ5_newCapacity_0f7a4_51 rfl ?_
      refine x_aload_n (pc := 53) hC 4 dJ5_newCapacity_0f7a4_53 rfl rfl ?_
      obtain ⟨g15, h⟩ := gd_some h
      refine x_getIv (pc := 54) (k := 1) hC fc_2 fl_RJ5_22 dJ5_newCapacity_0f7a4_54 rfl g15 (fun x16 hx16 => ?_)
      replace h := lt_x hx16 h
      refine x_ishrv (pc := 57) hC dJ5_newCapacity_0f7a4_57 (fun x17 hx17 => ?_)
      replace h := lt_x hx17 h
      exact x_ireturn (pc := 58) hC hE dJ5_newCapacity_0f7a4_58 (so h) (Nat.le_of_ble_eq_true rfl) (Nat.le_of_ble_eq_true rfl)
    · rw [if_pos c18] at h
      cases h
  · exact xk_r (xt_out hC hE (bk_r h) (Nat.le_of_ble_eq_true rfl) (Nat.le_of_ble_eq_true rfl))
theorem c2_J5_newCapacity_0f7a4 (l : Launch) (hls : l.stackTraces = false) {S : mS} {a0 : Nat} {a1 : Int32} {o : Rs Int32} (h : f2_J5_newCapacity_0f7a4 S a0 a1 = some o) : CT (fun r : Int32 => some (.int r)) l yJ5_newCapacity_0f7a4 (.code yJ5_newCapacity_0f7a4 cJ5_newCapacity_0f7a4 6 (Option.some Jvm.ClassFile.FieldType.int)) rm2_J5_newCapacity_0f7a4 S [.ref a0, .int a1] o := ct_of (by decide +kernel) hls (Nat.le_of_ble_eq_true rfl) (fun C hl hC hE => t2_J5_newCapacity_0f7a4 hls hC hl hE h)
abbrev rm2_J7_copyOf_9075b : Room := { frames := 9, cells := 0, slots := 0, locals := 171 }
def f2_J7_copyOf_9075b (S : mS) (a0 : Nat) (a1 : Int32) : Option (Rs Nat) :=
  gd ((a0 < KB ∧ gK S a0 = 33) ∨ (KB + 10 ≤ a0 ∧ a0 < KB + 13)) (lt9 (Int32.ofNat (zb S a0)) fun x2 => if a1 = x2 then (none) else (none))
set_option maxHeartbeats 2000000 in
set_option maxRecDepth 100000 in
theorem t2_J7_copyOf_9075b {l : Launch} (hls : l.stackTraces = false) {C : cT} (hC : CX C cJ7_copyOf_9075b 3 yJ7_copyOf_9075b rm2_J7_copyOf_9075b) (hl : C.2.1 = l) {S0 : mS} (hE : CE C S0 (Option.some (Jvm.ClassFile.FieldType.array Jvm.ClassFile.FieldType.byte)) []) {o : Rs Nat} {S : mS} {a0 : Nat} {a1 : Int32} (h : f2_J7_copyOf_9075b S a0 a1 = some o) : XX C 3 (QQ C (fun r : Nat => some (.ref r)) S0 o) 0 0 S 0 [(0, .ref a0), (1, .int a1)] [] := by
  unfold f2_J7_copyOf_9075b at h
  refine x_iload_n (pc := 0) hC 1 dJ7_copyOf_9075b_0 rfl rfl ?_
  refine x_aload_n (pc := 1) hC 0 dJ7_copyOf_9075b_1 rfl rfl ?_
  obtain ⟨g1, h⟩ := gd_some h
  refine x_alenB (pc := 2) hC dJ7_copyOf_9075b_2 g1 (fun x2 hx2 => ?_)
  replace h := lt_x hx2 h
  refine x_icmp_ne (pc := 3) hC 14 dJ7_copyOf_9075b_3 (by decide) (fun c6 => ?_) (fun c6 => ?_)
  · rw [if_neg c6] at h
    refine x_iload_n (pc := 14) hC 1 dJ7_copyOf_9075b_14 rfl rfl ?_
    cases h
  · rw [if_pos c6] at h
    refine x_aload_n (pc := 6) hC 0 dJ7_copyOf_9075b_6 rfl rfl ?_
    cases h
theorem c2_J7_copyOf_9075b (l : Launch) (hls : l.stackTraces = false) {S : mS} {a0 : Nat} {a1 : Int32} {o : Rs Nat} (h : f2_J7_copyOf_9075b S a0 a1 = some o) : CT (fun r : Nat => some (.ref r)) l yJ7_copyOf_9075b (.code yJ7_copyOf_9075b cJ7_copyOf_9075b 3 (Option.some (Jvm.ClassFile.FieldType.array Jvm.ClassFile.FieldType.byte))) rm2_J7_copyOf_9075b S [.ref a0, .int a1] o := ct_of (by decide +kernel) hls (Nat.le_of_ble_eq_true rfl) (fun C hl hC hE => t2_J7_copyOf_9075b hls hC hl hE h)
abbrev rm2_J5_ensureCapacityInternal_d00df : Room := { frames := 11, cells := 0, slots := 0, locals := 220 }
def f2_J5_ensureCapacityInternal_d00df_38  (S : mS) : Option (Rs Unit) :=
  some (.inl (), S)
set_option maxHeartbeats 2000000 in
set_option maxRecDepth 100000 in
theorem t2_J5_ensureCapacityInternal_d00df_38 {l : Launch} (hls : l.stackTraces = false) {C : cT} (hC : CX C cJ5_ensureCapacityInternal_d00df 3 yJ5_ensureCapacityInternal_d00df rm2_J5_ensureCapacityInternal_d00df) (hl : C.2.1 = l) {S0 : mS} (hE : CE C S0 (Option.none : Option Jvm.ClassFile.FieldType) []) {o : Rs Unit} {S : mS} (h : f2_J5_ensureCapacityInternal_d00df_38  S = some o) : XX C 3 (QQ C (fun _ : Unit => none) S0 o) (0) (0) S 38 [] [] := by
  unfold f2_J5_ensureCapacityInternal_d00df_38 at h
  exact x_vreturn (pc := 38) hC hE dJ5_ensureCapacityInternal_d00df_38 (so h) (Nat.le_of_ble_eq_true rfl) (Nat.le_of_ble_eq_true rfl)
def f2_J5_ensureCapacityInternal_d00df (S : mS) (a0 : Nat) (a1 : Int32) : Option (Rs Unit) :=
  gd (gK S a0 = 2) (lt9 (gR S a0 0) fun r2 => gd ((r2 < KB ∧ gK S r2 = 33) ∨ (KB + 10 ≤ r2 ∧ r2 < KB + 13)) (lt9 (Int32.ofNat (zb S r2)) fun x4 => lt9 (gI S a0 1) fun x5 => lt9 (x4 >>> (x5 &&& 31)) fun x6 => lt9 (a1 - x6) fun x7 => if x7 ≤ 0 then (f2_J5_ensureCapacityInternal_d00df_38  S) else (lt9 (gR S a0 0) fun r8 => bd (f2_J5_newCapacity_0f7a4 S a0 a1) fun x9 S10 => gd (gK S10 a0 = 2) (lt9 (gI S10 a0 1) fun x14 => lt9 (x9 <<< (x14 &&& 31)) fun x15 => bd (f2_J7_copyOf_9075b S10 r8 x15) fun r16 S17 => gd (gK S17 a0 = 2) (zR (sR S17 a0 0 r16) fun S21 => f2_J5_ensureCapacityInternal_d00df_38  S21)))))
set_option maxHeartbeats 2000000 in
set_option maxRecDepth 100000 in
theorem t2_J5_ensureCapacityInternal_d00df {l : Launch} (hls : l.stackTraces = false) {C : cT} (hC : CX C cJ5_ensureCapacityInternal_d00df 3 yJ5_ensureCapacityInternal_d00df rm2_J5_ensureCapacityInternal_d00df) (hl : C.2.1 = l) {S0 : mS} (hE : CE C S0 (Option.none : Option Jvm.ClassFile.FieldType) []) {o : Rs Unit} {S : mS} {a0 : Nat} {a1 : Int32} (h : f2_J5_ensureCapacityInternal_d00df S a0 a1 = some o) : XX C 3 (QQ C (fun _ : Unit => none) S0 o) 0 0 S 0 [(0, .ref a0), (1, .int a1)] [] := by
  unfold f2_J5_ensureCapacityInternal_d00df at h
  refine x_aload_n (pc := 0) hC 0 dJ5_ensureCapacityInternal_d00df_0 rfl rfl ?_
  obtain ⟨g1, h⟩ := gd_some h
  refine x_getRv (pc := 1) (k := 0) hC fc_2 fl_RJ5_15 dJ5_ensureCapacityInternal_d00df_1 rfl g1 (fun r2 hr2 => ?_)
  replace h := lt_x hr2 h
  obtain ⟨g3, h⟩ := gd_some h
  refine x_alenB (pc := 4) hC dJ5_ensureCapacityInternal_d00df_4 g3 (fun x4 hx4 => ?_)
  replace h := lt_x hx4 h
  refine x_aload_n (pc := 5) hC 0 dJ5_ensureCapacityInternal_d00df_5 rfl rfl ?_
  refine x_getIv (pc := 6) (k := 1) hC fc_2 fl_RJ5_22 dJ5_ensureCapacityInternal_d00df_6 rfl g1 (fun x5 hx5 => ?_)
  replace h := lt_x hx5 h
  refine x_ishrv (pc := 9) hC dJ5_ensureCapacityInternal_d00df_9 (fun x6 hx6 => ?_)
  replace h := lt_x hx6 h
  refine x_istore_n (pc := 10) hC dJ5_ensureCapacityInternal_d00df_10 rfl (by decide) (by decide) rfl ?_
  refine x_iload_n (pc := 11) hC 2 dJ5_ensureCapacityInternal_d00df_11 rfl rfl ?_
  refine x_iload_n (pc := 12) hC 0 dJ5_ensureCapacityInternal_d00df_12 rfl rfl ?_
  refine x_isubv (pc := 13) hC dJ5_ensureCapacityInternal_d00df_13 (fun x7 hx7 => ?_)
  replace h := lt_x hx7 h
  refine x_if_le (pc := 14) hC 38 dJ5_ensureCapacityInternal_d00df_14 (by decide) (fun c23 => ?_) (fun c23 => ?_)
  · rw [if_pos c23] at h
    refine x_pick [] rfl ?_
    exact t2_J5_ensureCapacityInternal_d00df_38 hls hC hl hE h
  · rw [if_neg c23] at h
    refine x_aload_n (pc := 17) hC 1 dJ5_ensureCapacityInternal_d00df_17 rfl rfl ?_
    refine x_aload_n (pc := 18) hC 1 dJ5_ensureCapacityInternal_d00df_18 rfl rfl ?_
    refine x_getRv (pc := 19) (k := 0) hC fc_2 fl_RJ5_15 dJ5_ensureCapacityInternal_d00df_19 rfl g1 (fun r8 hr8 => ?_)
    replace h := lt_x hr8 h
    refine x_aload_n (pc := 22) hC 1 dJ5_ensureCapacityInternal_d00df_22 rfl rfl ?_
    refine x_iload_n (pc := 23) hC 2 dJ5_ensureCapacityInternal_d00df_23 rfl rfl ?_
    obtain ⟨o11, ho11, h⟩ := bd_some h
    refine x_callC (pc := 24) (As := [.int a1]) (rest := [.ref r8, .ref a0]) hC hl (c2_J5_newCapacity_0f7a4 l hls ho11) lk_RJ5_104 fc_2 g1 dJ5_ensureCapacityInternal_d00df_24 rfl rfl (Nat.le_of_ble_eq_true rfl) ⟨Nat.le_of_ble_eq_true rfl, Nat.le_of_ble_eq_true rfl⟩ ⟨(Nat.le_of_ble_eq_true rfl), (Nat.le_of_ble_eq_true rfl)⟩ ?_
    rcases o11 with ⟨x9 | E12, S10⟩
    · refine xk_i ?_
      replace h := bk_l h
      refine x_aload_n (pc := 27) hC 1 dJ5_ensureCapacityInternal_d00df_27 rfl rfl ?_
      obtain ⟨g13, h⟩ := gd_some h
      refine x_getIv (pc := 28) (k := 1) hC fc_2 fl_RJ5_22 dJ5_ensureCapacityInternal_d00df_28 rfl g13 (fun x14 hx14 => ?_)
      replace h := lt_x hx14 h
      refine x_ishlv (pc := 31) hC dJ5_ensureCapacityInternal_d00df_31 (fun x15 hx15 => ?_)
      replace h := lt_x hx15 h
      obtain ⟨o18, ho18, h⟩ := bd_some h
      refine x_callS (pc := 32) (As := [.ref r8, .int x15]) (rest := [.ref a0]) hC hl (c2_J7_copyOf_9075b l hls ho18) lk_RJ5_108 dJ5_ensureCapacityInternal_d00df_32 rfl rfl (Nat.le_of_ble_eq_true rfl) ⟨Nat.le_of_ble_eq_true rfl, Nat.le_of_ble_eq_true rfl⟩ ⟨(Nat.le_of_ble_eq_true rfl), (Nat.le_of_ble_eq_true rfl)⟩ ?_
      rcases o18 with ⟨r16 | E19, S17⟩
      · refine xk_a ?_
        replace h := bk_l h
        obtain ⟨g20, h⟩ := gd_some h
        refine x_putRv (pc := 35) (k := 0) hC fc_2 fl_RJ5_15 dJ5_ensureCapacityInternal_d00df_35 rfl rfl (Or.inr ⟨_, rfl⟩) g20 (fun S21 hS21 => ?_)
        replace h := zR_x hS21 h
        have g22 : gK S21 a0 = 2 := by rw [hS21]; exact g20
        refine x_pick [] rfl ?_
        exact t2_J5_ensureCapacityInternal_d00df_38 hls hC hl hE h
      · exact xk_r (xt_out hC hE (bk_r h) (Nat.le_of_ble_eq_true rfl) (Nat.le_of_ble_eq_true rfl))
    · exact xk_r (xt_out hC hE (bk_r h) (Nat.le_of_ble_eq_true rfl) (Nat.le_of_ble_eq_true rfl))
theorem c2_J5_ensureCapacityInternal_d00df (l : Launch) (hls : l.stackTraces = false) {S : mS} {a0 : Nat} {a1 : Int32} {o : Rs Unit} (h : f2_J5_ensureCapacityInternal_d00df S a0 a1 = some o) : CT (fun _ : Unit => none) l yJ5_ensureCapacityInternal_d00df (.code yJ5_ensureCapacityInternal_d00df cJ5_ensureCapacityInternal_d00df 3 (Option.none : Option Jvm.ClassFile.FieldType)) rm2_J5_ensureCapacityInternal_d00df S [.ref a0, .int a1] o := ct_of (by decide +kernel) hls (Nat.le_of_ble_eq_true rfl) (fun C hl hC hE => t2_J5_ensureCapacityInternal_d00df hls hC hl hE h)
abbrev rm2_J5_isLatin1_aae02 : Room := { frames := 8, cells := 0, slots := 0, locals := 150 }
def f2_J5_isLatin1_aae02_18  (S : mS) (s0 : Int32) : Option (Rs Int32) :=
  gd (s0 = 0 ∨ s0 = 1) (some (.inl s0, S))
set_option maxHeartbeats 2000000 in
set_option maxRecDepth 100000 in
theorem t2_J5_isLatin1_aae02_18 {l : Launch} (hls : l.stackTraces = false) {C : cT} (hC : CX C cJ5_isLatin1_aae02 1 yJ5_isLatin1_aae02 rm2_J5_isLatin1_aae02) (hl : C.2.1 = l) {S0 : mS} (hE : CE C S0 (Option.some Jvm.ClassFile.FieldType.boolean) []) {o : Rs Int32} {S : mS} {s0 : Int32} (h : f2_J5_isLatin1_aae02_18  S s0 = some o) : XX C 1 (QQ C (fun r : Int32 => some (.int r)) S0 o) (0) (0) S 18 [] [.int s0] := by
  unfold f2_J5_isLatin1_aae02_18 at h
  obtain ⟨g1, h⟩ := gd_some h
  exact x_zreturn (pc := 18) hC hE dJ5_isLatin1_aae02_18 (nf_B g1).1 (so h) (Nat.le_of_ble_eq_true rfl) (Nat.le_of_ble_eq_true rfl)
def f2_J5_isLatin1_aae02_17  (S : mS) : Option (Rs Int32) :=
  f2_J5_isLatin1_aae02_18  S (0 : Int32)
set_option maxHeartbeats 2000000 in
set_option maxRecDepth 100000 in
theorem t2_J5_isLatin1_aae02_17 {l : Launch} (hls : l.stackTraces = false) {C : cT} (hC : CX C cJ5_isLatin1_aae02 1 yJ5_isLatin1_aae02 rm2_J5_isLatin1_aae02) (hl : C.2.1 = l) {S0 : mS} (hE : CE C S0 (Option.some Jvm.ClassFile.FieldType.boolean) []) {o : Rs Int32} {S : mS} (h : f2_J5_isLatin1_aae02_17  S = some o) : XX C 1 (QQ C (fun r : Int32 => some (.int r)) S0 o) (0) (0) S 17 [] [] := by
  unfold f2_J5_isLatin1_aae02_17 at h
  refine x_iconst (pc := 17) (v := (0 : Int32)) hC dJ5_isLatin1_aae02_17 (by decide) ?_
  refine x_pick [] rfl ?_
  exact t2_J5_isLatin1_aae02_18 hls hC hl hE h
def f2_J5_isLatin1_aae02 (S : mS) (a0 : Nat) : Option (Rs Int32) :=
  if (1 : Int32) = 0 then (f2_J5_isLatin1_aae02_17  S) else (gd (gK S a0 = 2) (lt9 (gI S a0 1) fun x2 => if x2 = 0 then (f2_J5_isLatin1_aae02_18  S (1 : Int32)) else (f2_J5_isLatin1_aae02_17  S)))
set_option maxHeartbeats 2000000 in
set_option maxRecDepth 100000 in
theorem t2_J5_isLatin1_aae02 {l : Launch} (hls : l.stackTraces = false) {C : cT} (hC : CX C cJ5_isLatin1_aae02 1 yJ5_isLatin1_aae02 rm2_J5_isLatin1_aae02) (hl : C.2.1 = l) {S0 : mS} (hE : CE C S0 (Option.some Jvm.ClassFile.FieldType.boolean) []) {o : Rs Int32} {S : mS} {a0 : Nat} (h : f2_J5_isLatin1_aae02 S a0 = some o) : XX C 1 (QQ C (fun r : Int32 => some (.int r)) S0 o) 0 0 S 0 [(0, .ref a0)] [] := by
  unfold f2_J5_isLatin1_aae02 at h
  refine x_getsCO (pc := 0) hC wm_2359 dJ5_isLatin1_aae02_0 ?_
  refine x_if_eq (pc := 3) hC 17 dJ5_isLatin1_aae02_3 (by decide) (fun c4 => ?_) (fun c4 => ?_)
  · rw [if_pos c4] at h
    refine x_pick [] rfl ?_
    exact t2_J5_isLatin1_aae02_17 hls hC hl hE h
  · rw [if_neg c4] at h
    refine x_aload_n (pc := 6) hC 0 dJ5_isLatin1_aae02_6 rfl rfl ?_
    obtain ⟨g1, h⟩ := gd_some h
    refine x_getIv (pc := 7) (k := 1) hC fc_2 fl_RJ5_22 dJ5_isLatin1_aae02_7 rfl g1 (fun x2 hx2 => ?_)
    replace h := lt_x hx2 h
    refine x_if_ne (pc := 10) hC 17 dJ5_isLatin1_aae02_10 (by decide) (fun c3 => ?_) (fun c3 => ?_)
    · rw [if_neg c3] at h
      refine x_pick [] rfl ?_
      exact t2_J5_isLatin1_aae02_17 hls hC hl hE h
    · rw [if_pos c3] at h
      refine x_iconst (pc := 13) (v := (1 : Int32)) hC dJ5_isLatin1_aae02_13 (by decide) ?_
      refine x_goto (pc := 14) hC 18 dJ5_isLatin1_aae02_14 (by decide) ?_
      refine x_pick [] rfl ?_
      exact t2_J5_isLatin1_aae02_18 hls hC hl hE h
theorem c2_J5_isLatin1_aae02 (l : Launch) (hls : l.stackTraces = false) {S : mS} {a0 : Nat} {o : Rs Int32} (h : f2_J5_isLatin1_aae02 S a0 = some o) : CT (fun r : Int32 => some (.int r)) l yJ5_isLatin1_aae02 (.code yJ5_isLatin1_aae02 cJ5_isLatin1_aae02 1 (Option.some Jvm.ClassFile.FieldType.boolean)) rm2_J5_isLatin1_aae02 S [.ref a0] o := ct_of (by decide +kernel) hls (Nat.le_of_ble_eq_true rfl) (fun C hl hC hE => t2_J5_isLatin1_aae02 hls hC hl hE h)
abbrev rm2_J5_appendNull_278bc : Room := { frames := 12, cells := 0, slots := 0, locals := 243 }
def f2_J5_appendNull_278bc_76  (S : mS) (a0 : Nat) (a1 : Int32) : Option (Rs Nat) :=
  gd (gK S a0 = 2) (zI (sI S a0 3 a1) fun S2 => some (.inl a0, S2))
set_option maxHeartbeats 2000000 in
set_option maxRecDepth 100000 in
theorem t2_J5_appendNull_278bc_76 {l : Launch} (hls : l.stackTraces = false) {C : cT} (hC : CX C cJ5_appendNull_278bc 3 yJ5_appendNull_278bc rm2_J5_appendNull_278bc) (hl : C.2.1 = l) {S0 : mS} (hE : CE C S0 (Option.some (Jvm.ClassFile.FieldType.object "java/lang/AbstractStringBuilder")) []) {o : Rs Nat} {S : mS} {a0 : Nat} {a1 : Int32} (h : f2_J5_appendNull_278bc_76  S a0 a1 = some o) : XX C 3 (QQ C (fun r : Nat => some (.ref r)) S0 o) (0) (0) S 76 [(0, .ref a0), (1, .int a1)] [] := by
  unfold f2_J5_appendNull_278bc_76 at h
  refine x_aload_n (pc := 76) hC 0 dJ5_appendNull_278bc_76 rfl rfl ?_
  refine x_iload_n (pc := 77) hC 1 dJ5_appendNull_278bc_77 rfl rfl ?_
  obtain ⟨g1, h⟩ := gd_some h
  refine x_putIv (pc := 78) (k := 3) hC fc_2 fl_RJ5_79 dJ5_appendNull_278bc_78 rfl rfl (nf_int _) g1 (fun S2 hS2 => ?_)
  replace h := zI_x hS2 h
  have g3 : gK S2 a0 = 2 := by rw [hS2]; exact g1
  refine x_aload_n (pc := 81) hC 0 dJ5_appendNull_278bc_81 rfl rfl ?_
  exact x_areturn (pc := 82) hC hE (Or.inl ⟨_, rfl⟩) dJ5_appendNull_278bc_82 (so h) (Nat.le_of_ble_eq_true rfl) (Nat.le_of_ble_eq_true rfl)
def f2_J5_appendNull_278bc (S : mS) (a0 : Nat) : Option (Rs Nat) :=
  gd (gK S a0 = 2) (lt9 (gI S a0 3) fun x2 => lt9 (x2 + (4 : Int32)) fun x3 => bd (f2_J5_ensureCapacityInternal_d00df S a0 x3) fun _ S5 => gd (gK S5 a0 = 2) (lt9 (gI S5 a0 3) fun x9 => lt9 (gR S5 a0 0) fun r10 => bd (f2_J5_isLatin1_aae02 S5 a0) fun x11 S12 => if x11 = 0 then (bd (f2_J2_putCharsAt_cd4e5 S12 r10 x9 (110 : Int32) (117 : Int32) (108 : Int32) (108 : Int32)) fun x15 S16 => f2_J5_appendNull_278bc_76  S16 a0 x15) else (lt9 (x9 + Int32.ofInt (1)) fun x19 => gd (gK S12 r10 = 33) (gd (¬ (x9 < 0 ∨ gZ S12 r10 ≤ (x9).toNatClampNeg)) (zI (sI S12 r10 (x9).toNatClampNeg (110 : Int32)) fun S22 => lt9 (x19 + Int32.ofInt (1)) fun x24 => gd (¬ (x19 < 0 ∨ gZ S22 r10 ≤ (x19).toNatClampNeg)) (zI (sI S22 r10 (x19).toNatClampNeg (117 : Int32)) fun S26 => lt9 (x24 + Int32.ofInt (1)) fun x28 => gd (¬ (x24 < 0 ∨ gZ S26 r10 ≤ (x24).toNatClampNeg)) (zI (sI S26 r10 (x24).toNatClampNeg (108 : Int32)) fun S30 => lt9 (x28 + Int32.ofInt (1)) fun x32 => gd (¬ (x28 < 0 ∨ gZ S30 r10 ≤ (x28).toNatClampNeg)) (zI (sI S30 r10 (x28).toNatClampNeg (108 : Int32)) fun S34 => f2_J5_appendNull_278bc_76  S34 a0 x32))))))))
set_option maxHeartbeats 2000000 in
set_option maxRecDepth 100000 in
theorem t2_J5_appendNull_278bc {l : Launch} (hls : l.stackTraces = false) {C : cT} (hC : CX C cJ5_appendNull_278bc 3 yJ5_appendNull_278bc rm2_J5_appendNull_278bc) (hl : C.2.1 = l) {S0 : mS} (hE : CE C S0 (Option.some (Jvm.ClassFile.FieldType.object "java/lang/AbstractStringBuilder")) []) {o : Rs Nat} {S : mS} {a0 : Nat} (h : f2_J5_appendNull_278bc S a0 = some o) : XX C 3 (QQ C (fun r : Nat => some (.ref r)) S0 o) 0 0 S 0 [(0, .ref a0)] [] := by
  unfold f2_J5_appendNull_278bc at h
  refine x_aload_n (pc := 0) hC 0 dJ5_appendNull_278bc_0 rfl rfl ?_
  refine x_aload_n (pc := 1) hC 0 dJ5_appendNull_278bc_1 rfl rfl ?_
  obtain ⟨g1, h⟩ := gd_some h
  refine x_getIv (pc := 2) (k := 3) hC fc_2 fl_RJ5_79 dJ5_appendNull_278bc_2 rfl g1 (fun x2 hx2 => ?_)
  replace h := lt_x hx2 h
  refine x_iconst (pc := 5) (v := (4 : Int32)) hC dJ5_appendNull_278bc_5 (by decide) ?_
  refine x_iaddv (pc := 6) hC dJ5_appendNull_278bc_6 (fun x3 hx3 => ?_)
  replace h := lt_x hx3 h
  obtain ⟨o6, ho6, h⟩ := bd_some h
  refine x_callC (pc := 7) (As := [.int x3]) (rest := []) hC hl (c2_J5_ensureCapacityInternal_d00df l hls ho6) lk_RJ5_100 fc_2 g1 dJ5_appendNull_278bc_7 rfl rfl (Nat.le_of_ble_eq_true rfl) ⟨Nat.le_of_ble_eq_true rfl, Nat.le_of_ble_eq_true rfl⟩ ⟨(Nat.le_of_ble_eq_true rfl), (Nat.le_of_ble_eq_true rfl)⟩ ?_
  rcases o6 with ⟨_ | E7, S5⟩
  · refine xk_v ?_
    replace h := bk_l h
    refine x_aload_n (pc := 10) hC 0 dJ5_appendNull_278bc_10 rfl rfl ?_
    obtain ⟨g8, h⟩ := gd_some h
    refine x_getIv (pc := 11) (k := 3) hC fc_2 fl_RJ5_79 dJ5_appendNull_278bc_11 rfl g8 (fun x9 hx9 => ?_)
    replace h := lt_x hx9 h
    refine x_istore_n (pc := 14) hC dJ5_appendNull_278bc_14 rfl (by decide) (by decide) rfl ?_
    refine x_aload_n (pc := 15) hC 1 dJ5_appendNull_278bc_15 rfl rfl ?_
    refine x_getRv (pc := 16) (k := 0) hC fc_2 fl_RJ5_15 dJ5_appendNull_278bc_16 rfl g8 (fun r10 hr10 => ?_)
    replace h := lt_x hr10 h
    refine x_astore_n (pc := 19) hC dJ5_appendNull_278bc_19 rfl (by decide) (by decide) rfl ?_
    refine x_aload_n (pc := 20) hC 2 dJ5_appendNull_278bc_20 rfl rfl ?_
    obtain ⟨o13, ho13, h⟩ := bd_some h
    refine x_callC (pc := 21) (As := []) (rest := []) hC hl (c2_J5_isLatin1_aae02 l hls ho13) lk_RJ5_83 fc_2 g8 dJ5_appendNull_278bc_21 rfl rfl (Nat.le_of_ble_eq_true rfl) ⟨Nat.le_of_ble_eq_true rfl, Nat.le_of_ble_eq_true rfl⟩ ⟨(Nat.le_of_ble_eq_true rfl), (Nat.le_of_ble_eq_true rfl)⟩ ?_
    rcases o13 with ⟨x11 | E14, S12⟩
    · refine xk_i ?_
      replace h := bk_l h
      refine x_if_eq (pc := 24) hC 62 dJ5_appendNull_278bc_24 (by decide) (fun c36 => ?_) (fun c36 => ?_)
      · rw [if_pos c36] at h
        refine x_aload_n (pc := 62) hC 0 dJ5_appendNull_278bc_62 rfl rfl ?_
        refine x_iload_n (pc := 63) hC 1 dJ5_appendNull_278bc_63 rfl rfl ?_
        refine x_bipush (pc := 64) (v := (110 : Int32)) hC dJ5_appendNull_278bc_64 (by decide) ?_
        refine x_bipush (pc := 66) (v := (117 : Int32)) hC dJ5_appendNull_278bc_66 (by decide) ?_
        refine x_bipush (pc := 68) (v := (108 : Int32)) hC dJ5_appendNull_278bc_68 (by decide) ?_
        refine x_bipush (pc := 70) (v := (108 : Int32)) hC dJ5_appendNull_278bc_70 (by decide) ?_
        obtain ⟨o17, ho17, h⟩ := bd_some h
        refine x_callS (pc := 72) (As := [.ref r10, .int x9, .int (110 : Int32), .int (117 : Int32), .int (108 : Int32), .int (108 : Int32)]) (rest := []) hC hl (c2_J2_putCharsAt_cd4e5 l hls ho17) lk_RJ5_226 dJ5_appendNull_278bc_72 rfl rfl (Nat.le_of_ble_eq_true rfl) ⟨Nat.le_of_ble_eq_true rfl, Nat.le_of_ble_eq_true rfl⟩ ⟨(Nat.le_of_ble_eq_true rfl), (Nat.le_of_ble_eq_true rfl)⟩ ?_
        rcases o17 with ⟨x15 | E18, S16⟩
        · refine xk_i ?_
          replace h := bk_l h
          refine x_istore_n (pc := 75) hC dJ5_appendNull_278bc_75 rfl (by decide) (by decide) rfl ?_
          refine x_pick [2, 0] rfl ?_
          exact t2_J5_appendNull_278bc_76 hls hC hl hE h
        · exact xk_r (xt_out hC hE (bk_r h) (Nat.le_of_ble_eq_true rfl) (Nat.le_of_ble_eq_true rfl))
      · rw [if_neg c36] at h
        refine x_aload_n (pc := 27) hC 0 dJ5_appendNull_278bc_27 rfl rfl ?_
        refine x_iload_n (pc := 28) hC 1 dJ5_appendNull_278bc_28 rfl rfl ?_
        obtain ⟨x19, hx19⟩ : ∃ z, z = (x9 + Int32.ofInt (1)) := ⟨_, rfl⟩
        replace h := lt_x hx19 h
        refine x_iinc (pc := 29) hC 1 dJ5_appendNull_278bc_29 rfl hx19.symm (by decide) (by decide) rfl ?_
        refine x_bipush (pc := 32) (v := (110 : Int32)) hC dJ5_appendNull_278bc_32 (by decide) ?_
        obtain ⟨g21, h⟩ := gd_some h
        obtain ⟨g20, h⟩ := gd_some h
        refine x_yastv (pc := 34) hC dJ5_appendNull_278bc_34 (show NF .byte _ from ⟨rfl, rfl⟩).1 g21 g20 (fun S22 hS22 => ?_)
        replace h := zI_x hS22 h
        have g23 : gK S22 r10 = 33 := by rw [hS22]; exact g21
        refine x_aload_n (pc := 35) hC 1 dJ5_appendNull_278bc_35 rfl rfl ?_
        refine x_iload_n (pc := 36) hC 0 dJ5_appendNull_278bc_36 rfl rfl ?_
        obtain ⟨x24, hx24⟩ : ∃ z, z = (x19 + Int32.ofInt (1)) := ⟨_, rfl⟩
        replace h := lt_x hx24 h
        refine x_iinc (pc := 37) hC 0 dJ5_appendNull_278bc_37 rfl hx24.symm (by decide) (by decide) rfl ?_
        refine x_bipush (pc := 40) (v := (117 : Int32)) hC dJ5_appendNull_278bc_40 (by decide) ?_
        obtain ⟨g25, h⟩ := gd_some h
        refine x_yastv (pc := 42) hC dJ5_appendNull_278bc_42 (show NF .byte _ from ⟨rfl, rfl⟩).1 g23 g25 (fun S26 hS26 => ?_)
        replace h := zI_x hS26 h
        have g27 : gK S26 r10 = 33 := by rw [hS26]; exact g23
        refine x_aload_n (pc := 43) hC 1 dJ5_appendNull_278bc_43 rfl rfl ?_
        refine x_iload_n (pc := 44) hC 0 dJ5_appendNull_278bc_44 rfl rfl ?_
        obtain ⟨x28, hx28⟩ : ∃ z, z = (x24 + Int32.ofInt (1)) := ⟨_, rfl⟩
        replace h := lt_x hx28 h
        refine x_iinc (pc := 45) hC 0 dJ5_appendNull_278bc_45 rfl hx28.symm (by decide) (by decide) rfl ?_
        refine x_bipush (pc := 48) (v := (108 : Int32)) hC dJ5_appendNull_278bc_48 (by decide) ?_
        obtain ⟨g29, h⟩ := gd_some h
        refine x_yastv (pc := 50) hC dJ5_appendNull_278bc_50 (show NF .byte _ from ⟨rfl, rfl⟩).1 g27 g29 (fun S30 hS30 => ?_)
        replace h := zI_x hS30 h
        have g31 : gK S30 r10 = 33 := by rw [hS30]; exact g27
        refine x_aload_n (pc := 51) hC 1 dJ5_appendNull_278bc_51 rfl rfl ?_
        refine x_iload_n (pc := 52) hC 0 dJ5_appendNull_278bc_52 rfl rfl ?_
        obtain ⟨x32, hx32⟩ : ∃ z, z = (x28 + Int32.ofInt (1)) := ⟨_, rfl⟩
        replace h := lt_x hx32 h
        refine x_iinc (pc := 53) hC 0 dJ5_appendNull_278bc_53 rfl hx32.symm (by decide) (by decide) rfl ?_
        refine x_bipush (pc := 56) (v := (108 : Int32)) hC dJ5_appendNull_278bc_56 (by decide) ?_
        obtain ⟨g33, h⟩ := gd_some h
        refine x_yastv (pc := 58) hC dJ5_appendNull_278bc_58 (show NF .byte _ from ⟨rfl, rfl⟩).1 g31 g33 (fun S34 hS34 => ?_)
        replace h := zI_x hS34 h
        have g35 : gK S34 r10 = 33 := by rw [hS34]; exact g31
        refine x_goto (pc := 59) hC 76 dJ5_appendNull_278bc_59 (by decide) ?_
        refine x_pick [2, 0] rfl ?_
        exact t2_J5_appendNull_278bc_76 hls hC hl hE h
    · exact xk_r (xt_out hC hE (bk_r h) (Nat.le_of_ble_eq_true rfl) (Nat.le_of_ble_eq_true rfl))
  · exact xk_r (xt_out hC hE (bk_r h) (Nat.le_of_ble_eq_true rfl) (Nat.le_of_ble_eq_true rfl))
theorem c2_J5_appendNull_278bc (l : Launch) (hls : l.stackTraces = false) {S : mS} {a0 : Nat} {o : Rs Nat} (h : f2_J5_appendNull_278bc S a0 = some o) : CT (fun r : Nat => some (.ref r)) l yJ5_appendNull_278bc (.code yJ5_appendNull_278bc cJ5_appendNull_278bc 3 (Option.some (Jvm.ClassFile.FieldType.object "java/lang/AbstractStringBuilder"))) rm2_J5_appendNull_278bc S [.ref a0] o := ct_of (by decide +kernel) hls (Nat.le_of_ble_eq_true rfl) (fun C hl hC hE => t2_J5_appendNull_278bc hls hC hl hE h)
abbrev rm2_J0_checkBoundsOffCount_cabcc : Room := { frames := 9, cells := 0, slots := 0, locals := 173 }
def f2_J0_checkBoundsOffCount_cabcc (S : mS) (a0 : Int32) (a1 : Int32) (a2 : Int32) : Option (Rs Int32) :=
  bd (f_J3_checkFromIndexSize_8c36e S a0 a1 a2 (KB + 21)) fun x1 S2 => some (.inl x1, S2)
set_option maxHeartbeats 2000000 in
set_option maxRecDepth 100000 in
theorem t2_J0_checkBoundsOffCount_cabcc {l : Launch} (hls : l.stackTraces = false) {C : cT} (hC : CX C cJ0_checkBoundsOffCount_cabcc 3 yJ0_checkBoundsOffCount_cabcc rm2_J0_checkBoundsOffCount_cabcc) (hl : C.2.1 = l) {S0 : mS} (hE : CE C S0 (Option.some Jvm.ClassFile.FieldType.int) []) {o : Rs Int32} {S : mS} {a0 : Int32} {a1 : Int32} {a2 : Int32} (h : f2_J0_checkBoundsOffCount_cabcc S a0 a1 a2 = some o) : XX C 3 (QQ C (fun r : Int32 => some (.int r)) S0 o) 0 0 S 0 [(0, .int a0), (1, .int a1), (2, .int a2)] [] := by
  unfold f2_J0_checkBoundsOffCount_cabcc at h
  refine x_iload_n (pc := 0) hC 0 dJ0_checkBoundsOffCount_cabcc_0 rfl rfl ?_
  refine x_iload_n (pc := 1) hC 1 dJ0_checkBoundsOffCount_cabcc_1 rfl rfl ?_
  refine x_iload_n (pc := 2) hC 2 dJ0_checkBoundsOffCount_cabcc_2 rfl rfl ?_
  refine x_getsSF (pc := 3) hC wm_2076 dJ0_checkBoundsOffCount_cabcc_3 (fun w9 => ?_)
  obtain ⟨o3, ho3, h⟩ := bd_some h
  refine x_callS (pc := 6) (As := [.int a0, .int a1, .int a2, .ref w9]) (rest := []) hC hl (c_J3_checkFromIndexSize_8c36e l hls (Eq.trans sf_J3_checkFromIndexSize_8c36e ho3)) lk_RJ0_1065 dJ0_checkBoundsOffCount_cabcc_6 rfl rfl (Nat.le_of_ble_eq_true rfl) ⟨Nat.le_of_ble_eq_true rfl, Nat.le_of_ble_eq_true rfl⟩ ⟨(Nat.le_of_ble_eq_true rfl), (Nat.le_of_ble_eq_true rfl)⟩ ?_
  rcases o3 with ⟨x1 | E4, S2⟩
  · refine xk_i ?_
    replace h := bk_l h
    exact x_ireturn (pc := 9) hC hE dJ0_checkBoundsOffCount_cabcc_9 (so h) (Nat.le_of_ble_eq_true rfl) (Nat.le_of_ble_eq_true rfl)
  · exact xk_r (xt_out hC hE (bk_r h) (Nat.le_of_ble_eq_true rfl) (Nat.le_of_ble_eq_true rfl))
theorem c2_J0_checkBoundsOffCount_cabcc (l : Launch) (hls : l.stackTraces = false) {S : mS} {a0 : Int32} {a1 : Int32} {a2 : Int32} {o : Rs Int32} (h : f2_J0_checkBoundsOffCount_cabcc S a0 a1 a2 = some o) : CT (fun r : Int32 => some (.int r)) l yJ0_checkBoundsOffCount_cabcc (.code yJ0_checkBoundsOffCount_cabcc cJ0_checkBoundsOffCount_cabcc 3 (Option.some Jvm.ClassFile.FieldType.int)) rm2_J0_checkBoundsOffCount_cabcc S [.int a0, .int a1, .int a2] o := ct_of (by decide +kernel) hls (Nat.le_of_ble_eq_true rfl) (fun C hl hC hE => t2_J0_checkBoundsOffCount_cabcc hls hC hl hE h)
abbrev rm2_J2_checkBoundsOffCount_d044e : Room := { frames := 10, cells := 0, slots := 0, locals := 195 }
def f2_J2_checkBoundsOffCount_d044e (S : mS) (a0 : Int32) (a1 : Int32) (a2 : Nat) : Option (Rs Unit) :=
  bd (f2_J2_length_9d52b S a2) fun x1 S2 => bd (f2_J0_checkBoundsOffCount_cabcc S2 a0 a1 x1) fun x5 S6 => some (.inl (), S6)
set_option maxHeartbeats 2000000 in
set_option maxRecDepth 100000 in
theorem t2_J2_checkBoundsOffCount_d044e {l : Launch} (hls : l.stackTraces = false) {C : cT} (hC : CX C cJ2_checkBoundsOffCount_d044e 3 yJ2_checkBoundsOffCount_d044e rm2_J2_checkBoundsOffCount_d044e) (hl : C.2.1 = l) {S0 : mS} (hE : CE C S0 (Option.none : Option Jvm.ClassFile.FieldType) []) {o : Rs Unit} {S : mS} {a0 : Int32} {a1 : Int32} {a2 : Nat} (h : f2_J2_checkBoundsOffCount_d044e S a0 a1 a2 = some o) : XX C 3 (QQ C (fun _ : Unit => none) S0 o) 0 0 S 0 [(0, .int a0), (1, .int a1), (2, .ref a2)] [] := by
  unfold f2_J2_checkBoundsOffCount_d044e at h
  refine x_iload_n (pc := 0) hC 0 dJ2_checkBoundsOffCount_d044e_0 rfl rfl ?_
  refine x_iload_n (pc := 1) hC 1 dJ2_checkBoundsOffCount_d044e_1 rfl rfl ?_
  refine x_aload_n (pc := 2) hC 2 dJ2_checkBoundsOffCount_d044e_2 rfl rfl ?_
  obtain ⟨o3, ho3, h⟩ := bd_some h
  refine x_callS (pc := 3) (As := [.ref a2]) (rest := [.int a1, .int a0]) hC hl (c2_J2_length_9d52b l hls ho3) lk_RJ2_48 dJ2_checkBoundsOffCount_d044e_3 rfl rfl (Nat.le_of_ble_eq_true rfl) ⟨Nat.le_of_ble_eq_true rfl, Nat.le_of_ble_eq_true rfl⟩ ⟨(Nat.le_of_ble_eq_true rfl), (Nat.le_of_ble_eq_true rfl)⟩ ?_
  rcases o3 with ⟨x1 | E4, S2⟩
  · refine xk_i ?_
    replace h := bk_l h
    obtain ⟨o7, ho7, h⟩ := bd_some h
    refine x_callS (pc := 6) (As := [.int a0, .int a1, .int x1]) (rest := []) hC hl (c2_J0_checkBoundsOffCount_cabcc l hls ho7) lk_RJ2_419 dJ2_checkBoundsOffCount_d044e_6 rfl rfl (Nat.le_of_ble_eq_true rfl) ⟨Nat.le_of_ble_eq_true rfl, Nat.le_of_ble_eq_true rfl⟩ ⟨(Nat.le_of_ble_eq_true rfl), (Nat.le_of_ble_eq_true rfl)⟩ ?_
    rcases o7 with ⟨x5 | E8, S6⟩
    · refine xk_i ?_
      replace h := bk_l h
      refine x_pop (pc := 9) hC dJ2_checkBoundsOffCount_d044e_9 rfl ?_
      exact x_vreturn (pc := 10) hC hE dJ2_checkBoundsOffCount_d044e_10 (so h) (Nat.le_of_ble_eq_true rfl) (Nat.le_of_ble_eq_true rfl)
    · exact xk_r (xt_out hC hE (bk_r h) (Nat.le_of_ble_eq_true rfl) (Nat.le_of_ble_eq_true rfl))
  · exact xk_r (xt_out hC hE (bk_r h) (Nat.le_of_ble_eq_true rfl) (Nat.le_of_ble_eq_true rfl))
theorem c2_J2_checkBoundsOffCount_d044e (l : Launch) (hls : l.stackTraces = false) {S : mS} {a0 : Int32} {a1 : Int32} {a2 : Nat} {o : Rs Unit} (h : f2_J2_checkBoundsOffCount_d044e S a0 a1 a2 = some o) : CT (fun _ : Unit => none) l yJ2_checkBoundsOffCount_d044e (.code yJ2_checkBoundsOffCount_d044e cJ2_checkBoundsOffCount_d044e 3 (Option.none : Option Jvm.ClassFile.FieldType)) rm2_J2_checkBoundsOffCount_d044e S [.int a0, .int a1, .ref a2] o := ct_of (by decide +kernel) hls (Nat.le_of_ble_eq_true rfl) (fun C hl hC hE => t2_J2_checkBoundsOffCount_d044e hls hC hl hE h)
abbrev rm2_J2_inflate_0e8fd : Room := { frames := 11, cells := 0, slots := 0, locals := 217 }
def f2_J2_inflate_0e8fd_10  : Nat → mS → Nat → Int32 → Nat → Int32 → Int32 → Int32 → Option (Rs Unit)
  | 0, _, _, _, _, _, _, _ => none
  | k + 1, S, a0, a1, a2, a3, a4, a5 => if a4 ≤ a5 then (some (.inl (), S)) else (lt9 (a3 + Int32.ofInt (1)) fun x1 => lt9 (a1 + Int32.ofInt (1)) fun x2 => gd ((a0 < KB ∧ gK S a0 = 33) ∨ (KB + 10 ≤ a0 ∧ a0 < KB + 13)) (gd (¬ (a1 < 0 ∨ zb S a0 ≤ (a1).toNatClampNeg)) (lt9 (ib S a0 (a1).toNatClampNeg) fun x5 => lt9 (x5 &&& (255 : Int32)) fun x6 => bd (f2_J2_putChar_b72d1 S a2 a3 x6) fun _ S8 => lt9 (a5 + Int32.ofInt (1)) fun x11 => f2_J2_inflate_0e8fd_10 k S8 a0 x2 a2 x1 a4 x11)))
set_option maxHeartbeats 2000000 in
set_option maxRecDepth 100000 in
theorem t2_J2_inflate_0e8fd_10 {l : Launch} (hls : l.stackTraces = false) {C : cT} (hC : CX C cJ2_inflate_0e8fd 6 yJ2_inflate_0e8fd rm2_J2_inflate_0e8fd) (hl : C.2.1 = l) {S0 : mS} (hE : CE C S0 (Option.none : Option Jvm.ClassFile.FieldType) []) {o : Rs Unit} : ∀ (k : Nat) (S : mS) (a0 : Nat) (a1 : Int32) (a2 : Nat) (a3 : Int32) (a4 : Int32) (a5 : Int32), f2_J2_inflate_0e8fd_10  k S a0 a1 a2 a3 a4 a5 = some o → XX C 6 (QQ C (fun _ : Unit => none) S0 o) (0) (0) S 10 [(0, .ref a0), (1, .int a1), (2, .ref a2), (3, .int a3), (4, .int a4), (5, .int a5)] [] := by
  intro k
  induction k with
  | zero => intro S a0 a1 a2 a3 a4 a5 h; cases h
  | succ k ih =>
    intro S a0 a1 a2 a3 a4 a5 h
    unfold f2_J2_inflate_0e8fd_10 at h
    refine x_iload (pc := 10) hC 5 dJ2_inflate_0e8fd_10 rfl ?_
    refine x_iload (pc := 12) hC 4 dJ2_inflate_0e8fd_12 rfl ?_
    refine x_icmp_ge (pc := 14) hC 41 dJ2_inflate_0e8fd_14 (by decide) (fun c12 => ?_) (fun c12 => ?_)
    · rw [if_pos c12] at h
      exact x_vreturn (pc := 41) hC hE dJ2_inflate_0e8fd_41 (so h) (Nat.le_of_ble_eq_true rfl) (Nat.le_of_ble_eq_true rfl)
    · rw [if_neg c12] at h
      refine x_aload_n (pc := 17) hC 2 dJ2_inflate_0e8fd_17 rfl rfl ?_
      refine x_iload_n (pc := 18) hC 3 dJ2_inflate_0e8fd_18 rfl rfl ?_
      obtain ⟨x1, hx1⟩ : ∃ z, z = (a3 + Int32.ofInt (1)) := ⟨_, rfl⟩
      replace h := lt_x hx1 h
      refine x_iinc (pc := 19) hC 3 dJ2_inflate_0e8fd_19 rfl hx1.symm (by decide) (by decide) rfl ?_
      refine x_aload_n (pc := 22) hC 1 dJ2_inflate_0e8fd_22 rfl rfl ?_
      refine x_iload_n (pc := 23) hC 2 dJ2_inflate_0e8fd_23 rfl rfl ?_
      obtain ⟨x2, hx2⟩ : ∃ z, z = (a1 + Int32.ofInt (1)) := ⟨_, rfl⟩
      replace h := lt_x hx2 h
      refine x_iinc (pc := 24) hC 2 dJ2_inflate_0e8fd_24 rfl hx2.symm (by decide) (by decide) rfl ?_
      obtain ⟨g3, h⟩ := gd_some h
      obtain ⟨g4, h⟩ := gd_some h
      refine x_yaldB (pc := 27) hC dJ2_inflate_0e8fd_27 g3 g4 (fun x5 hx5 => ?_)
      replace h := lt_x hx5 h
      refine x_sipush (pc := 28) (v := (255 : Int32)) hC dJ2_inflate_0e8fd_28 (by decide) ?_
      refine x_iandv (pc := 31) hC dJ2_inflate_0e8fd_31 (fun x6 hx6 => ?_)
      replace h := lt_x hx6 h
      obtain ⟨o9, ho9, h⟩ := bd_some h
      refine x_callS (pc := 32) (As := [.ref a2, .int a3, .int x6]) (rest := []) hC hl (c2_J2_putChar_b72d1 l hls ho9) lk_RJ2_111 dJ2_inflate_0e8fd_32 rfl rfl (Nat.le_of_ble_eq_true rfl) ⟨Nat.le_of_ble_eq_true rfl, Nat.le_of_ble_eq_true rfl⟩ ⟨(Nat.le_of_ble_eq_true rfl), (Nat.le_of_ble_eq_true rfl)⟩ ?_
      rcases o9 with ⟨_ | E10, S8⟩
      · refine xk_v ?_
        replace h := bk_l h
        obtain ⟨x11, hx11⟩ : ∃ z, z = (a5 + Int32.ofInt (1)) := ⟨_, rfl⟩
        replace h := lt_x hx11 h
        refine x_iinc (pc := 35) hC 5 dJ2_inflate_0e8fd_35 rfl hx11.symm (by decide) (by decide) rfl ?_
        refine x_goto (pc := 38) hC 10 dJ2_inflate_0e8fd_38 (by decide) ?_
        refine x_pick [3, 1, 4, 2, 5, 0] rfl ?_
        exact ih _ _ _ _ _ _ _ h
      · exact xk_r (xt_out hC hE (bk_r h) (Nat.le_of_ble_eq_true rfl) (Nat.le_of_ble_eq_true rfl))
def f2_J2_inflate_0e8fd (S : mS) (a0 : Nat) (a1 : Int32) (a2 : Nat) (a3 : Int32) (a4 : Int32) : Option (Rs Unit) :=
  bd (f2_J2_checkBoundsOffCount_d044e S a3 a4 a2) fun _ S2 => f2_J2_inflate_0e8fd_10  16 S2 a0 a1 a2 a3 a4 (0 : Int32)
set_option maxHeartbeats 2000000 in
set_option maxRecDepth 100000 in
theorem t2_J2_inflate_0e8fd {l : Launch} (hls : l.stackTraces = false) {C : cT} (hC : CX C cJ2_inflate_0e8fd 6 yJ2_inflate_0e8fd rm2_J2_inflate_0e8fd) (hl : C.2.1 = l) {S0 : mS} (hE : CE C S0 (Option.none : Option Jvm.ClassFile.FieldType) []) {o : Rs Unit} {S : mS} {a0 : Nat} {a1 : Int32} {a2 : Nat} {a3 : Int32} {a4 : Int32} (h : f2_J2_inflate_0e8fd S a0 a1 a2 a3 a4 = some o) : XX C 6 (QQ C (fun _ : Unit => none) S0 o) 0 0 S 0 [(0, .ref a0), (1, .int a1), (2, .ref a2), (3, .int a3), (4, .int a4)] [] := by
  unfold f2_J2_inflate_0e8fd at h
  refine x_iload_n (pc := 0) hC 3 dJ2_inflate_0e8fd_0 rfl rfl ?_
  refine x_iload (pc := 1) hC 4 dJ2_inflate_0e8fd_1 rfl ?_
  refine x_aload_n (pc := 3) hC 2 dJ2_inflate_0e8fd_3 rfl rfl ?_
  obtain ⟨o3, ho3, h⟩ := bd_some h
  refine x_callS (pc := 4) (As := [.int a3, .int a4, .ref a2]) (rest := []) hC hl (c2_J2_checkBoundsOffCount_d044e l hls ho3) lk_RJ2_173 dJ2_inflate_0e8fd_4 rfl rfl (Nat.le_of_ble_eq_true rfl) ⟨Nat.le_of_ble_eq_true rfl, Nat.le_of_ble_eq_true rfl⟩ ⟨(Nat.le_of_ble_eq_true rfl), (Nat.le_of_ble_eq_true rfl)⟩ ?_
  rcases o3 with ⟨_ | E4, S2⟩
  · refine xk_v ?_
    replace h := bk_l h
    refine x_iconst (pc := 7) (v := (0 : Int32)) hC dJ2_inflate_0e8fd_7 (by decide) ?_
    refine x_istore (pc := 8) hC dJ2_inflate_0e8fd_8 (by decide) (by decide) rfl ?_
    refine x_pick [1, 2, 3, 4, 5, 0] rfl ?_
    exact t2_J2_inflate_0e8fd_10 hls hC hl hE 16 _ _ _ _ _ _ _ h
  · exact xk_r (xt_out hC hE (bk_r h) (Nat.le_of_ble_eq_true rfl) (Nat.le_of_ble_eq_true rfl))
theorem c2_J2_inflate_0e8fd (l : Launch) (hls : l.stackTraces = false) {S : mS} {a0 : Nat} {a1 : Int32} {a2 : Nat} {a3 : Int32} {a4 : Int32} {o : Rs Unit} (h : f2_J2_inflate_0e8fd S a0 a1 a2 a3 a4 = some o) : CT (fun _ : Unit => none) l yJ2_inflate_0e8fd (.code yJ2_inflate_0e8fd cJ2_inflate_0e8fd 6 (Option.none : Option Jvm.ClassFile.FieldType)) rm2_J2_inflate_0e8fd S [.ref a0, .int a1, .ref a2, .int a3, .int a4] o := ct_of (by decide +kernel) hls (Nat.le_of_ble_eq_true rfl) (fun C hl hC hE => t2_J2_inflate_0e8fd hls hC hl hE h)
abbrev rm2_J1_inflate_0e8fd : Room := { frames := 12, cells := 0, slots := 0, locals := 242 }
def f2_J1_inflate_0e8fd (S : mS) (a0 : Nat) (a1 : Int32) (a2 : Nat) (a3 : Int32) (a4 : Int32) : Option (Rs Unit) :=
  bd (f2_J2_inflate_0e8fd S a0 a1 a2 a3 a4) fun _ S2 => some (.inl (), S2)
set_option maxHeartbeats 2000000 in
set_option maxRecDepth 100000 in
theorem t2_J1_inflate_0e8fd {l : Launch} (hls : l.stackTraces = false) {C : cT} (hC : CX C cJ1_inflate_0e8fd 5 yJ1_inflate_0e8fd rm2_J1_inflate_0e8fd) (hl : C.2.1 = l) {S0 : mS} (hE : CE C S0 (Option.none : Option Jvm.ClassFile.FieldType) []) {o : Rs Unit} {S : mS} {a0 : Nat} {a1 : Int32} {a2 : Nat} {a3 : Int32} {a4 : Int32} (h : f2_J1_inflate_0e8fd S a0 a1 a2 a3 a4 = some o) : XX C 5 (QQ C (fun _ : Unit => none) S0 o) 0 0 S 0 [(0, .ref a0), (1, .int a1), (2, .ref a2), (3, .int a3), (4, .int a4)] [] := by
  unfold f2_J1_inflate_0e8fd at h
  refine x_aload_n (pc := 0) hC 0 dJ1_inflate_0e8fd_0 rfl rfl ?_
  refine x_iload_n (pc := 1) hC 1 dJ1_inflate_0e8fd_1 rfl rfl ?_
  refine x_aload_n (pc := 2) hC 2 dJ1_inflate_0e8fd_2 rfl rfl ?_
  refine x_iload_n (pc := 3) hC 3 dJ1_inflate_0e8fd_3 rfl rfl ?_
  refine x_iload (pc := 4) hC 4 dJ1_inflate_0e8fd_4 rfl ?_
  obtain ⟨o3, ho3, h⟩ := bd_some h
  refine x_callS (pc := 6) (As := [.ref a0, .int a1, .ref a2, .int a3, .int a4]) (rest := []) hC hl (c2_J2_inflate_0e8fd l hls ho3) lk_RJ1_240 dJ1_inflate_0e8fd_6 rfl rfl (Nat.le_of_ble_eq_true rfl) ⟨Nat.le_of_ble_eq_true rfl, Nat.le_of_ble_eq_true rfl⟩ ⟨(Nat.le_of_ble_eq_true rfl), (Nat.le_of_ble_eq_true rfl)⟩ ?_
  rcases o3 with ⟨_ | E4, S2⟩
  · refine xk_v ?_
    replace h := bk_l h
    exact x_vreturn (pc := 9) hC hE dJ1_inflate_0e8fd_9 (so h) (Nat.le_of_ble_eq_true rfl) (Nat.le_of_ble_eq_true rfl)
  · exact xk_r (xt_out hC hE (bk_r h) (Nat.le_of_ble_eq_true rfl) (Nat.le_of_ble_eq_true rfl))
theorem c2_J1_inflate_0e8fd (l : Launch) (hls : l.stackTraces = false) {S : mS} {a0 : Nat} {a1 : Int32} {a2 : Nat} {a3 : Int32} {a4 : Int32} {o : Rs Unit} (h : f2_J1_inflate_0e8fd S a0 a1 a2 a3 a4 = some o) : CT (fun _ : Unit => none) l yJ1_inflate_0e8fd (.code yJ1_inflate_0e8fd cJ1_inflate_0e8fd 5 (Option.none : Option Jvm.ClassFile.FieldType)) rm2_J1_inflate_0e8fd S [.ref a0, .int a1, .ref a2, .int a3, .int a4] o := ct_of (by decide +kernel) hls (Nat.le_of_ble_eq_true rfl) (fun C hl hC hE => t2_J1_inflate_0e8fd hls hC hl hE h)
abbrev rm2_J0_getBytes_840e7 : Room := { frames := 13, cells := 0, slots := 0, locals := 266 }
def f2_J0_getBytes_840e7_43  (S : mS) : Option (Rs Unit) :=
  some (.inl (), S)
set_option maxHeartbeats 2000000 in
set_option maxRecDepth 100000 in
theorem t2_J0_getBytes_840e7_43 {l : Launch} (hls : l.stackTraces = false) {C : cT} (hC : CX C cJ0_getBytes_840e7 4 yJ0_getBytes_840e7 rm2_J0_getBytes_840e7) (hl : C.2.1 = l) {S0 : mS} (hE : CE C S0 (Option.none : Option Jvm.ClassFile.FieldType) []) {o : Rs Unit} {S : mS} (h : f2_J0_getBytes_840e7_43  S = some o) : XX C 4 (QQ C (fun _ : Unit => none) S0 o) (0) (0) S 43 [] [] := by
  unfold f2_J0_getBytes_840e7_43 at h
  exact x_vreturn (pc := 43) hC hE dJ0_getBytes_840e7_43 (so h) (Nat.le_of_ble_eq_true rfl) (Nat.le_of_ble_eq_true rfl)
def f2_J0_getBytes_840e7 (S : mS) (a0 : Nat) (a1 : Nat) (a2 : Int32) (a3 : Int32) : Option (Rs Unit) :=
  gd ((a0 < KB ∧ gK S a0 = 1) ∨ (KB ≤ a0 ∧ a0 < KB + 3)) (bd (f2_J0_coder_7d493 S a0) fun x2 S3 => if x2 = a3 then (gd ((a0 < KB ∧ gK S3 a0 = 1) ∨ (KB ≤ a0 ∧ a0 < KB + 3)) (lt9 (if a0 < KB then gR S3 a0 0 else a0 + 10) fun r17 => lt9 (a2 <<< (a3 &&& 31)) fun x18 => gd ((a0 < KB ∧ gK S3 a0 = 1) ∨ (KB ≤ a0 ∧ a0 < KB + 3)) (lt9 (if a0 < KB then gR S3 a0 0 else a0 + 10) fun r20 => gd ((r20 < KB ∧ gK S3 r20 = 33) ∨ (KB + 10 ≤ r20 ∧ r20 < KB + 13)) (lt9 (Int32.ofNat (zb S3 r20)) fun x22 => if x22 = (0 : Int32) then (gd (KB + 10 ≤ r17 ∧ r17 < KB + 13) (gd (gK S3 a1 = 33) (gd ((0 : Int32) = 0) (gd (¬ (x18 < 0 ∨ gZ S3 a1 ≤ (x18).toNatClampNeg)) (f2_J0_getBytes_840e7_43  S3))))) else if x22 = (1 : Int32) then (gd (gK S3 r17 = 33) (gd (gK S3 a1 = 33) (gd ((0 : Int32) = 0) (gd (x18 = 0) (gd (¬ ((0 : Int32) < 0 ∨ gZ S3 r17 ≤ ((0 : Int32)).toNatClampNeg)) (gd (¬ ((0 : Int32) < 0 ∨ gZ S3 a1 ≤ ((0 : Int32)).toNatClampNeg)) (lt9 (gI S3 r17 ((0 : Int32)).toNatClampNeg) fun x37 => gd (x37.toInt8.toInt32 = x37) (zI (sI S3 a1 ((0 : Int32)).toNatClampNeg x37) fun S39 => f2_J0_getBytes_840e7_43  S39)))))))) else if x22 = (2 : Int32) then (gd (gK S3 r17 = 33) (gd (gK S3 a1 = 33) (gd ((0 : Int32) = 0) (gd (x18 = 0) (gd (¬ ((1 : Int32) < 0 ∨ gZ S3 r17 ≤ ((1 : Int32)).toNatClampNeg)) (gd (¬ ((1 : Int32) < 0 ∨ gZ S3 a1 ≤ ((1 : Int32)).toNatClampNeg)) (lt9 (gI S3 r17 ((0 : Int32)).toNatClampNeg) fun x50 => gd (x50.toInt8.toInt32 = x50) (lt9 (gI S3 r17 ((1 : Int32)).toNatClampNeg) fun x51 => gd (x51.toInt8.toInt32 = x51) (zI (sI S3 a1 ((0 : Int32)).toNatClampNeg x50) fun S52 => zI (sI S52 a1 ((1 : Int32)).toNatClampNeg x51) fun S53 => f2_J0_getBytes_840e7_43  S53))))))))) else none)))) else (gd ((a0 < KB ∧ gK S3 a0 = 1) ∨ (KB ≤ a0 ∧ a0 < KB + 3)) (lt9 (if a0 < KB then gR S3 a0 0 else a0 + 10) fun r7 => gd ((a0 < KB ∧ gK S3 a0 = 1) ∨ (KB ≤ a0 ∧ a0 < KB + 3)) (lt9 (if a0 < KB then gR S3 a0 0 else a0 + 10) fun r9 => gd ((r9 < KB ∧ gK S3 r9 = 33) ∨ (KB + 10 ≤ r9 ∧ r9 < KB + 13)) (lt9 (Int32.ofNat (zb S3 r9)) fun x11 => bd (f2_J1_inflate_0e8fd S3 r7 (0 : Int32) a1 a2 x11) fun _ S13 => f2_J0_getBytes_840e7_43  S13)))))
set_option maxHeartbeats 2000000 in
set_option maxRecDepth 100000 in
theorem t2_J0_getBytes_840e7 {l : Launch} (hls : l.stackTraces = false) {C : cT} (hC : CX C cJ0_getBytes_840e7 4 yJ0_getBytes_840e7 rm2_J0_getBytes_840e7) (hl : C.2.1 = l) {S0 : mS} (hE : CE C S0 (Option.none : Option Jvm.ClassFile.FieldType) []) {o : Rs Unit} {S : mS} {a0 : Nat} {a1 : Nat} {a2 : Int32} {a3 : Int32} (h : f2_J0_getBytes_840e7 S a0 a1 a2 a3 = some o) : XX C 4 (QQ C (fun _ : Unit => none) S0 o) 0 0 S 0 [(0, .ref a0), (1, .ref a1), (2, .int a2), (3, .int a3)] [] := by
  unfold f2_J0_getBytes_840e7 at h
  refine x_aload_n (pc := 0) hC 0 dJ0_getBytes_840e7_0 rfl rfl ?_
  obtain ⟨g1, h⟩ := gd_some h
  obtain ⟨o4, ho4, h⟩ := bd_some h
  refine x_callVS (pc := 1) (As := []) (rest := []) hC hl (c2_J0_coder_7d493 l hls ho4) lk_RJ0_335 rfl g1 dJ0_getBytes_840e7_1 rfl rfl (Nat.le_of_ble_eq_true rfl) ⟨Nat.le_of_ble_eq_true rfl, Nat.le_of_ble_eq_true rfl⟩ ⟨(Nat.le_of_ble_eq_true rfl), (Nat.le_of_ble_eq_true rfl)⟩ ?_
  rcases o4 with ⟨x2 | E5, S3⟩
  · refine xk_i ?_
    replace h := bk_l h
    refine x_iload_n (pc := 4) hC 3 dJ0_getBytes_840e7_4 rfl rfl ?_
    refine x_icmp_ne (pc := 5) hC 28 dJ0_getBytes_840e7_5 (by decide) (fun c54 => ?_) (fun c54 => ?_)
    · rw [if_neg c54] at h
      refine x_aload_n (pc := 28) hC 0 dJ0_getBytes_840e7_28 rfl rfl ?_
      obtain ⟨g6, h⟩ := gd_some h
      refine x_getSvv (pc := 29) hC wm_2554 dJ0_getBytes_840e7_29 g6 (fun r7 hr7 => ?_)
      replace h := lt_x hr7 h
      refine x_iconst (pc := 32) (v := (0 : Int32)) hC dJ0_getBytes_840e7_32 (by decide) ?_
      refine x_aload_n (pc := 33) hC 1 dJ0_getBytes_840e7_33 rfl rfl ?_
      refine x_iload_n (pc := 34) hC 2 dJ0_getBytes_840e7_34 rfl rfl ?_
      refine x_aload_n (pc := 35) hC 0 dJ0_getBytes_840e7_35 rfl rfl ?_
      obtain ⟨g8, h⟩ := gd_some h
      refine x_getSvv (pc := 36) hC wm_2554 dJ0_getBytes_840e7_36 g8 (fun r9 hr9 => ?_)
      replace h := lt_x hr9 h
      obtain ⟨g10, h⟩ := gd_some h
      refine x_alenB (pc := 39) hC dJ0_getBytes_840e7_39 g10 (fun x11 hx11 => ?_)
      replace h := lt_x hx11 h
      obtain ⟨o14, ho14, h⟩ := bd_some h
      refine x_callS (pc := 40) (As := [.ref r7, .int (0 : Int32), .ref a1, .int a2, .int x11]) (rest := []) hC hl (c2_J1_inflate_0e8fd l hls ho14) lk_RJ0_106 dJ0_getBytes_840e7_40 rfl rfl (Nat.le_of_ble_eq_true rfl) ⟨Nat.le_of_ble_eq_true rfl, Nat.le_of_ble_eq_true rfl⟩ ⟨(Nat.le_of_ble_eq_true rfl), (Nat.le_of_ble_eq_true rfl)⟩ ?_
      rcases o14 with ⟨_ | E15, S13⟩
      · refine xk_v ?_
        replace h := bk_l h
        refine x_pick [] rfl ?_
        exact t2_J0_getBytes_840e7_43 hls hC hl hE h
      · exact xk_r (xt_out hC hE (bk_r h) (Nat.le_of_ble_eq_true rfl) (Nat.le_of_ble_eq_true rfl))
    · rw [if_pos c54] at h
      refine x_aload_n (pc := 8) hC 0 dJ0_getBytes_840e7_8 rfl rfl ?_
      obtain ⟨g16, h⟩ := gd_some h
      refine x_getSvv (pc := 9) hC wm_2554 dJ0_getBytes_840e7_9 g16 (fun r17 hr17 => ?_)
      replace h := lt_x hr17 h
      refine x_iconst (pc := 12) (v := (0 : Int32)) hC dJ0_getBytes_840e7_12 (by decide) ?_
      refine x_aload_n (pc := 13) hC 1 dJ0_getBytes_840e7_13 rfl rfl ?_
      refine x_iload_n (pc := 14) hC 2 dJ0_getBytes_840e7_14 rfl rfl ?_
      refine x_iload_n (pc := 15) hC 3 dJ0_getBytes_840e7_15 rfl rfl ?_
      refine x_ishlv (pc := 16) hC dJ0_getBytes_840e7_16 (fun x18 hx18 => ?_)
      replace h := lt_x hx18 h
      refine x_aload_n (pc := 17) hC 0 dJ0_getBytes_840e7_17 rfl rfl ?_
      obtain ⟨g19, h⟩ := gd_some h
      refine x_getSvv (pc := 18) hC wm_2554 dJ0_getBytes_840e7_18 g19 (fun r20 hr20 => ?_)
      replace h := lt_x hr20 h
      obtain ⟨g21, h⟩ := gd_some h
      refine x_alenB (pc := 21) hC dJ0_getBytes_840e7_21 g21 (fun x22 hx22 => ?_)
      replace h := lt_x hx22 h
      by_cases c23 : x22 = (0 : Int32)
      · rw [if_pos c23] at h
        obtain ⟨g24, h⟩ := gd_some h
        obtain ⟨g25, h⟩ := gd_some h
        obtain ⟨g26, h⟩ := gd_some h
        obtain ⟨g27, h⟩ := gd_some h
        refine x_copyK (pc := 22) hC ln_RJ0_212 dJ0_getBytes_840e7_22 g24 g25 g26 c23 g27 (Nat.le_of_ble_eq_true rfl) (Nat.le_of_ble_eq_true rfl) ?_
        refine x_goto (pc := 25) hC 43 dJ0_getBytes_840e7_25 (by decide) ?_
        refine x_pick [] rfl ?_
        exact t2_J0_getBytes_840e7_43 hls hC hl hE h
      rw [if_neg c23] at h
      by_cases c28 : x22 = (1 : Int32)
      · rw [if_pos c28] at h
        obtain ⟨g29, h⟩ := gd_some h
        obtain ⟨g30, h⟩ := gd_some h
        obtain ⟨g31, h⟩ := gd_some h
        obtain ⟨g32, h⟩ := gd_some h
        obtain ⟨g33, h⟩ := gd_some h
        obtain ⟨g34, h⟩ := gd_some h
        obtain ⟨x37, hx37⟩ : ∃ z, z = gI S3 r17 ((0 : Int32)).toNatClampNeg := ⟨_, rfl⟩
        replace h := lt_x hx37 h
        obtain ⟨g35, h⟩ := gd_some h
        refine x_copyY1 (pc := 22) hC ln_RJ0_212 dJ0_getBytes_840e7_22 g29 g30 g31 g32 c28 g33 g34 hx37 g35 (Nat.le_of_ble_eq_true rfl) (Nat.le_of_ble_eq_true rfl) (fun S39 hS39 => ?_)
        replace h := zI_x hS39 h
        refine x_goto (pc := 25) hC 43 dJ0_getBytes_840e7_25 (by decide) ?_
        refine x_pick [] rfl ?_
        exact t2_J0_getBytes_840e7_43 hls hC hl hE h
      rw [if_neg c28] at h
      by_cases c41 : x22 = (2 : Int32)
      · rw [if_pos c41] at h
        obtain ⟨g42, h⟩ := gd_some h
        obtain ⟨g43, h⟩ := gd_some h
        obtain ⟨g44, h⟩ := gd_some h
        obtain ⟨g45, h⟩ := gd_some h
        obtain ⟨g46, h⟩ := gd_some h
        obtain ⟨g47, h⟩ := gd_some h
        obtain ⟨x50, hx50⟩ : ∃ z, z = gI S3 r17 ((0 : Int32)).toNatClampNeg := ⟨_, rfl⟩
        replace h := lt_x hx50 h
        obtain ⟨g48, h⟩ := gd_some h
        obtain ⟨x51, hx51⟩ : ∃ z, z = gI S3 r17 ((1 : Int32)).toNatClampNeg := ⟨_, rfl⟩
        replace h := lt_x hx51 h
        obtain ⟨g49, h⟩ := gd_some h
        obtain ⟨S52, hS52⟩ : ∃ z, z = sI S3 a1 ((0 : Int32)).toNatClampNeg x50 := ⟨_, rfl⟩
        replace h := zI_x hS52 h
        refine x_copyY2 (pc := 22) hC ln_RJ0_212 dJ0_getBytes_840e7_22 g42 g43 g44 g45 c41 g46 g47 hx50 g48 hx51 g49 (Nat.le_of_ble_eq_true rfl) (Nat.le_of_ble_eq_true rfl) (fun S53 hS53 => ?_)
        rw [← hS52] at hS53
        replace h := zI_x hS53 h
        refine x_goto (pc := 25) hC 43 dJ0_getBytes_840e7_25 (by decide) ?_
        refine x_pick [] rfl ?_
        exact t2_J0_getBytes_840e7_43 hls hC hl hE h
      rw [if_neg c41] at h
      cases h
  · exact xk_r (xt_out hC hE (bk_r h) (Nat.le_of_ble_eq_true rfl) (Nat.le_of_ble_eq_true rfl))
theorem c2_J0_getBytes_840e7 (l : Launch) (hls : l.stackTraces = false) {S : mS} {a0 : Nat} {a1 : Nat} {a2 : Int32} {a3 : Int32} {o : Rs Unit} (h : f2_J0_getBytes_840e7 S a0 a1 a2 a3 = some o) : CT (fun _ : Unit => none) l yJ0_getBytes_840e7 (.code yJ0_getBytes_840e7 cJ0_getBytes_840e7 4 (Option.none : Option Jvm.ClassFile.FieldType)) rm2_J0_getBytes_840e7 S [.ref a0, .ref a1, .int a2, .int a3] o := ct_of (by decide +kernel) hls (Nat.le_of_ble_eq_true rfl) (fun C hl hC hE => t2_J0_getBytes_840e7 hls hC hl hE h)
abbrev rm2_J2_newBytesFor_77867 : Room := { frames := 9, cells := 1, slots := 32, locals := 170 }
def f2_J2_newBytesFor_77867 (S : mS) (a0 : Int32) : Option (Rs Nat) :=
  bd (f_J2_newBytesLength_0f7a4 S a0) fun x1 S2 => if x1 = (32 : Int32) then (gd (gN S2 + 1 < KB) (zW (sW S2 33 32) fun S10 => lt9 (gN S2 + 1) fun r11 => some (.inl r11, S10))) else none
set_option maxHeartbeats 2000000 in
set_option maxRecDepth 100000 in
theorem t2_J2_newBytesFor_77867 {l : Launch} (hls : l.stackTraces = false) {C : cT} (hC : CX C cJ2_newBytesFor_77867 1 yJ2_newBytesFor_77867 rm2_J2_newBytesFor_77867) (hl : C.2.1 = l) {S0 : mS} (hE : CE C S0 (Option.some (Jvm.ClassFile.FieldType.array Jvm.ClassFile.FieldType.byte)) []) {o : Rs Nat} {S : mS} {a0 : Int32} (h : f2_J2_newBytesFor_77867 S a0 = some o) : XX C 1 (QQ C (fun r : Nat => some (.ref r)) S0 o) 0 0 S 0 [(0, .int a0)] [] := by
  unfold f2_J2_newBytesFor_77867 at h
  refine x_iload_n (pc := 0) hC 0 dJ2_newBytesFor_77867_0 rfl rfl ?_
  obtain ⟨o3, ho3, h⟩ := bd_some h
  refine x_callS (pc := 1) (As := [.int a0]) (rest := []) hC hl (c_J2_newBytesLength_0f7a4 l hls ho3) lk_RJ2_11 dJ2_newBytesFor_77867_1 rfl rfl (Nat.le_of_ble_eq_true rfl) ⟨Nat.le_of_ble_eq_true rfl, Nat.le_of_ble_eq_true rfl⟩ ⟨(Nat.le_of_ble_eq_true rfl), (Nat.le_of_ble_eq_true rfl)⟩ ?_
  rcases o3 with ⟨x1 | E4, S2⟩
  · refine xk_i ?_
    replace h := bk_l h
    by_cases c8 : x1 = (32 : Int32)
    · rw [if_pos c8] at h
      obtain ⟨g9, h⟩ := gd_some h
      refine x_newaYv (pc := 4) (z := 32) hC wm_971 dJ2_newBytesFor_77867_4 (by rw [c8]; decide) (by rw [c8]; decide) (Nat.le_of_ble_eq_true rfl) g9 (Nat.le_of_ble_eq_true rfl) (Nat.le_of_ble_eq_true rfl) (fun S10 r11 hS10 hr11 => ?_)
      replace h := zW_x hS10 h
      replace h := lt_x hr11 h
      have g12 : gK S10 r11 = 33 := by rw [hr11, hS10]; exact sW_K
      exact x_areturn (pc := 6) hC hE (Or.inr ⟨_, rfl⟩) dJ2_newBytesFor_77867_6 (so h) (Nat.le_of_ble_eq_true rfl) (Nat.le_of_ble_eq_true rfl)
    rw [if_neg c8] at h
    cases h
  · exact xk_r (xt_out hC hE (bk_r h) (Nat.le_of_ble_eq_true rfl) (Nat.le_of_ble_eq_true rfl))
theorem c2_J2_newBytesFor_77867 (l : Launch) (hls : l.stackTraces = false) {S : mS} {a0 : Int32} {o : Rs Nat} (h : f2_J2_newBytesFor_77867 S a0 = some o) : CT (fun r : Nat => some (.ref r)) l yJ2_newBytesFor_77867 (.code yJ2_newBytesFor_77867 cJ2_newBytesFor_77867 1 (Option.some (Jvm.ClassFile.FieldType.array Jvm.ClassFile.FieldType.byte))) rm2_J2_newBytesFor_77867 S [.int a0] o := ct_of (by decide +kernel) hls (Nat.le_of_ble_eq_true rfl) (fun C hl hC hE => t2_J2_newBytesFor_77867 hls hC hl hE h)
abbrev rm2_J5_inflate_da8c8 : Room := { frames := 13, cells := 1, slots := 32, locals := 266 }
def f2_J5_inflate_da8c8 (S : mS) (a0 : Nat) : Option (Rs Unit) :=
  gd (gK S a0 = 2) (bd (f2_J5_isLatin1_aae02 S a0) fun x2 S3 => if x2 = 0 then (some (.inl (), S3)) else (gd (gK S3 a0 = 2) (lt9 (gR S3 a0 0) fun r7 => gd ((r7 < KB ∧ gK S3 r7 = 33) ∨ (KB + 10 ≤ r7 ∧ r7 < KB + 13)) (lt9 (Int32.ofNat (zb S3 r7)) fun x9 => bd (f2_J2_newBytesFor_77867 S3 x9) fun r10 S11 => gd (gK S11 a0 = 2) (lt9 (gR S11 a0 0) fun r15 => lt9 (gI S11 a0 3) fun x16 => bd (f2_J1_inflate_0e8fd S11 r15 (0 : Int32) r10 (0 : Int32) x16) fun _ S18 => gd (gK S18 a0 = 2) (zR (sR S18 a0 0 r10) fun S22 => zI (sI S22 a0 1 (1 : Int32)) fun S24 => some (.inl (), S24)))))))
set_option maxHeartbeats 2000000 in
set_option maxRecDepth 100000 in
theorem t2_J5_inflate_da8c8 {l : Launch} (hls : l.stackTraces = false) {C : cT} (hC : CX C cJ5_inflate_da8c8 2 yJ5_inflate_da8c8 rm2_J5_inflate_da8c8) (hl : C.2.1 = l) {S0 : mS} (hE : CE C S0 (Option.none : Option Jvm.ClassFile.FieldType) []) {o : Rs Unit} {S : mS} {a0 : Nat} (h : f2_J5_inflate_da8c8 S a0 = some o) : XX C 2 (QQ C (fun _ : Unit => none) S0 o) 0 0 S 0 [(0, .ref a0)] [] := by
  unfold f2_J5_inflate_da8c8 at h
  refine x_aload_n (pc := 0) hC 0 dJ5_inflate_da8c8_0 rfl rfl ?_
  obtain ⟨g1, h⟩ := gd_some h
  obtain ⟨o4, ho4, h⟩ := bd_some h
  refine x_callC (pc := 1) (As := []) (rest := []) hC hl (c2_J5_isLatin1_aae02 l hls ho4) lk_RJ5_83 fc_2 g1 dJ5_inflate_da8c8_1 rfl rfl (Nat.le_of_ble_eq_true rfl) ⟨Nat.le_of_ble_eq_true rfl, Nat.le_of_ble_eq_true rfl⟩ ⟨(Nat.le_of_ble_eq_true rfl), (Nat.le_of_ble_eq_true rfl)⟩ ?_
  rcases o4 with ⟨x2 | E5, S3⟩
  · refine xk_i ?_
    replace h := bk_l h
    refine x_if_ne (pc := 4) hC 8 dJ5_inflate_da8c8_4 (by decide) (fun c26 => ?_) (fun c26 => ?_)
    · rw [if_neg c26] at h
      refine x_aload_n (pc := 8) hC 0 dJ5_inflate_da8c8_8 rfl rfl ?_
      obtain ⟨g6, h⟩ := gd_some h
      refine x_getRv (pc := 9) (k := 0) hC fc_2 fl_RJ5_15 dJ5_inflate_da8c8_9 rfl g6 (fun r7 hr7 => ?_)
      replace h := lt_x hr7 h
      obtain ⟨g8, h⟩ := gd_some h
      refine x_alenB (pc := 12) hC dJ5_inflate_da8c8_12 g8 (fun x9 hx9 => ?_)
      replace h := lt_x hx9 h
      obtain ⟨o12, ho12, h⟩ := bd_some h
      refine x_callS (pc := 13) (As := [.int x9]) (rest := []) hC hl (c2_J2_newBytesFor_77867 l hls ho12) lk_RJ5_26 dJ5_inflate_da8c8_13 rfl rfl (Nat.le_of_ble_eq_true rfl) ⟨Nat.le_of_ble_eq_true rfl, Nat.le_of_ble_eq_true rfl⟩ ⟨(Nat.le_of_ble_eq_true rfl), (Nat.le_of_ble_eq_true rfl)⟩ ?_
      rcases o12 with ⟨r10 | E13, S11⟩
      · refine xk_a ?_
        replace h := bk_l h
        refine x_astore_n (pc := 16) hC dJ5_inflate_da8c8_16 rfl (by decide) (by decide) rfl ?_
        refine x_aload_n (pc := 17) hC 1 dJ5_inflate_da8c8_17 rfl rfl ?_
        obtain ⟨g14, h⟩ := gd_some h
        refine x_getRv (pc := 18) (k := 0) hC fc_2 fl_RJ5_15 dJ5_inflate_da8c8_18 rfl g14 (fun r15 hr15 => ?_)
        replace h := lt_x hr15 h
        refine x_iconst (pc := 21) (v := (0 : Int32)) hC dJ5_inflate_da8c8_21 (by decide) ?_
        refine x_aload_n (pc := 22) hC 0 dJ5_inflate_da8c8_22 rfl rfl ?_
        refine x_iconst (pc := 23) (v := (0 : Int32)) hC dJ5_inflate_da8c8_23 (by decide) ?_
        refine x_aload_n (pc := 24) hC 1 dJ5_inflate_da8c8_24 rfl rfl ?_
        refine x_getIv (pc := 25) (k := 3) hC fc_2 fl_RJ5_79 dJ5_inflate_da8c8_25 rfl g14 (fun x16 hx16 => ?_)
        replace h := lt_x hx16 h
        obtain ⟨o19, ho19, h⟩ := bd_some h
        refine x_callS (pc := 28) (As := [.ref r15, .int (0 : Int32), .ref r10, .int (0 : Int32), .int x16]) (rest := []) hC hl (c2_J1_inflate_0e8fd l hls ho19) lk_RJ5_125 dJ5_inflate_da8c8_28 rfl rfl (Nat.le_of_ble_eq_true rfl) ⟨Nat.le_of_ble_eq_true rfl, Nat.le_of_ble_eq_true rfl⟩ ⟨(Nat.le_of_ble_eq_true rfl), (Nat.le_of_ble_eq_true rfl)⟩ ?_
        rcases o19 with ⟨_ | E20, S18⟩
        · refine xk_v ?_
          replace h := bk_l h
          refine x_aload_n (pc := 31) hC 1 dJ5_inflate_da8c8_31 rfl rfl ?_
          refine x_aload_n (pc := 32) hC 0 dJ5_inflate_da8c8_32 rfl rfl ?_
          obtain ⟨g21, h⟩ := gd_some h
          refine x_putRv (pc := 33) (k := 0) hC fc_2 fl_RJ5_15 dJ5_inflate_da8c8_33 rfl rfl (Or.inr ⟨_, rfl⟩) g21 (fun S22 hS22 => ?_)
          replace h := zR_x hS22 h
          have g23 : gK S22 a0 = 2 := by rw [hS22]; exact g21
          refine x_aload_n (pc := 36) hC 1 dJ5_inflate_da8c8_36 rfl rfl ?_
          refine x_iconst (pc := 37) (v := (1 : Int32)) hC dJ5_inflate_da8c8_37 (by decide) ?_
          refine x_putIv (pc := 38) (k := 1) hC fc_2 fl_RJ5_22 dJ5_inflate_da8c8_38 rfl rfl (show NF .byte _ from ⟨rfl, rfl⟩) g23 (fun S24 hS24 => ?_)
          replace h := zI_x hS24 h
          have g25 : gK S24 a0 = 2 := by rw [hS24]; exact g23
          exact x_vreturn (pc := 41) hC hE dJ5_inflate_da8c8_41 (so h) (Nat.le_of_ble_eq_true rfl) (Nat.le_of_ble_eq_true rfl)
        · exact xk_r (xt_out hC hE (bk_r h) (Nat.le_of_ble_eq_true rfl) (Nat.le_of_ble_eq_true rfl))
      · exact xk_r (xt_out hC hE (bk_r h) (Nat.le_of_ble_eq_true rfl) (Nat.le_of_ble_eq_true rfl))
    · rw [if_pos c26] at h
      exact x_vreturn (pc := 7) hC hE dJ5_inflate_da8c8_7 (so h) (Nat.le_of_ble_eq_true rfl) (Nat.le_of_ble_eq_true rfl)
  · exact xk_r (xt_out hC hE (bk_r h) (Nat.le_of_ble_eq_true rfl) (Nat.le_of_ble_eq_true rfl))
theorem c2_J5_inflate_da8c8 (l : Launch) (hls : l.stackTraces = false) {S : mS} {a0 : Nat} {o : Rs Unit} (h : f2_J5_inflate_da8c8 S a0 = some o) : CT (fun _ : Unit => none) l yJ5_inflate_da8c8 (.code yJ5_inflate_da8c8 cJ5_inflate_da8c8 2 (Option.none : Option Jvm.ClassFile.FieldType)) rm2_J5_inflate_da8c8 S [.ref a0] o := ct_of (by decide +kernel) hls (Nat.le_of_ble_eq_true rfl) (fun C hl hC hE => t2_J5_inflate_da8c8 hls hC hl hE h)
abbrev rm2_J5_inflateIfNeededFor_a7421 : Room := { frames := 14, cells := 1, slots := 32, locals := 287 }
def f2_J5_inflateIfNeededFor_a7421_21  (S : mS) : Option (Rs Unit) :=
  some (.inl (), S)
set_option maxHeartbeats 2000000 in
set_option maxRecDepth 100000 in
theorem t2_J5_inflateIfNeededFor_a7421_21 {l : Launch} (hls : l.stackTraces = false) {C : cT} (hC : CX C cJ5_inflateIfNeededFor_a7421 2 yJ5_inflateIfNeededFor_a7421 rm2_J5_inflateIfNeededFor_a7421) (hl : C.2.1 = l) {S0 : mS} (hE : CE C S0 (Option.none : Option Jvm.ClassFile.FieldType) []) {o : Rs Unit} {S : mS} (h : f2_J5_inflateIfNeededFor_a7421_21  S = some o) : XX C 2 (QQ C (fun _ : Unit => none) S0 o) (1) (32) S 21 [] [] := by
  unfold f2_J5_inflateIfNeededFor_a7421_21 at h
  exact x_vreturn (pc := 21) hC hE dJ5_inflateIfNeededFor_a7421_21 (so h) (Nat.le_of_ble_eq_true rfl) (Nat.le_of_ble_eq_true rfl)
def f2_J5_inflateIfNeededFor_a7421 (S : mS) (a0 : Nat) (a1 : Nat) : Option (Rs Unit) :=
  if (1 : Int32) = 0 then (f2_J5_inflateIfNeededFor_a7421_21  S) else (gd (gK S a0 = 2) (lt9 (gI S a0 1) fun x2 => gd ((a1 < KB ∧ gK S a1 = 1) ∨ (KB ≤ a1 ∧ a1 < KB + 3)) (bd (f2_J0_coder_7d493 S a1) fun x4 S5 => if x2 = x4 then (f2_J5_inflateIfNeededFor_a7421_21  S5) else (gd (gK S5 a0 = 2) (bd (f2_J5_inflate_da8c8 S5 a0) fun _ S10 => f2_J5_inflateIfNeededFor_a7421_21  S10)))))
set_option maxHeartbeats 2000000 in
set_option maxRecDepth 100000 in
theorem t2_J5_inflateIfNeededFor_a7421 {l : Launch} (hls : l.stackTraces = false) {C : cT} (hC : CX C cJ5_inflateIfNeededFor_a7421 2 yJ5_inflateIfNeededFor_a7421 rm2_J5_inflateIfNeededFor_a7421) (hl : C.2.1 = l) {S0 : mS} (hE : CE C S0 (Option.none : Option Jvm.ClassFile.FieldType) []) {o : Rs Unit} {S : mS} {a0 : Nat} {a1 : Nat} (h : f2_J5_inflateIfNeededFor_a7421 S a0 a1 = some o) : XX C 2 (QQ C (fun _ : Unit => none) S0 o) 0 0 S 0 [(0, .ref a0), (1, .ref a1)] [] := by
  unfold f2_J5_inflateIfNeededFor_a7421 at h
  refine x_getsCO (pc := 0) hC wm_2359 dJ5_inflateIfNeededFor_a7421_0 ?_
  refine x_if_eq (pc := 3) hC 21 dJ5_inflateIfNeededFor_a7421_3 (by decide) (fun c14 => ?_) (fun c14 => ?_)
  · rw [if_pos c14] at h
    refine x_pick [] rfl ?_
    refine x_widen (ce' := 1) (sl' := 32) (Nat.le_of_ble_eq_true rfl) (Nat.le_of_ble_eq_true rfl) ?_
    exact t2_J5_inflateIfNeededFor_a7421_21 hls hC hl hE h
  · rw [if_neg c14] at h
    refine x_aload_n (pc := 6) hC 0 dJ5_inflateIfNeededFor_a7421_6 rfl rfl ?_
    obtain ⟨g1, h⟩ := gd_some h
    refine x_getIv (pc := 7) (k := 1) hC fc_2 fl_RJ5_22 dJ5_inflateIfNeededFor_a7421_7 rfl g1 (fun x2 hx2 => ?_)
    replace h := lt_x hx2 h
    refine x_aload_n (pc := 10) hC 1 dJ5_inflateIfNeededFor_a7421_10 rfl rfl ?_
    obtain ⟨g3, h⟩ := gd_some h
    obtain ⟨o6, ho6, h⟩ := bd_some h
    refine x_callVS (pc := 11) (As := []) (rest := [.int x2]) hC hl (c2_J0_coder_7d493 l hls ho6) lk_RJ5_40 rfl g3 dJ5_inflateIfNeededFor_a7421_11 rfl rfl (Nat.le_of_ble_eq_true rfl) ⟨Nat.le_of_ble_eq_true rfl, Nat.le_of_ble_eq_true rfl⟩ ⟨(Nat.le_of_ble_eq_true rfl), (Nat.le_of_ble_eq_true rfl)⟩ ?_
    rcases o6 with ⟨x4 | E7, S5⟩
    · refine xk_i ?_
      replace h := bk_l h
      refine x_icmp_eq (pc := 14) hC 21 dJ5_inflateIfNeededFor_a7421_14 (by decide) (fun c13 => ?_) (fun c13 => ?_)
      · rw [if_pos c13] at h
        refine x_pick [] rfl ?_
        refine x_widen (ce' := 1) (sl' := 32) (Nat.le_of_ble_eq_true rfl) (Nat.le_of_ble_eq_true rfl) ?_
        exact t2_J5_inflateIfNeededFor_a7421_21 hls hC hl hE h
      · rw [if_neg c13] at h
        refine x_aload_n (pc := 17) hC 0 dJ5_inflateIfNeededFor_a7421_17 rfl rfl ?_
        obtain ⟨g8, h⟩ := gd_some h
        obtain ⟨o11, ho11, h⟩ := bd_some h
        refine x_callC (pc := 18) (As := []) (rest := []) hC hl (c2_J5_inflate_da8c8 l hls ho11) lk_RJ5_195 fc_2 g8 dJ5_inflateIfNeededFor_a7421_18 rfl rfl (Nat.le_of_ble_eq_true rfl) ⟨Nat.le_of_ble_eq_true rfl, Nat.le_of_ble_eq_true rfl⟩ ⟨(Nat.le_of_ble_eq_true rfl), (Nat.le_of_ble_eq_true rfl)⟩ ?_
        rcases o11 with ⟨_ | E12, S10⟩
        · refine xk_v ?_
          replace h := bk_l h
          refine x_pick [] rfl ?_
          exact t2_J5_inflateIfNeededFor_a7421_21 hls hC hl hE h
        · exact xk_r (xt_out hC hE (bk_r h) (Nat.le_of_ble_eq_true rfl) (Nat.le_of_ble_eq_true rfl))
    · exact xk_r (xt_out hC hE (bk_r h) (Nat.le_of_ble_eq_true rfl) (Nat.le_of_ble_eq_true rfl))
theorem c2_J5_inflateIfNeededFor_a7421 (l : Launch) (hls : l.stackTraces = false) {S : mS} {a0 : Nat} {a1 : Nat} {o : Rs Unit} (h : f2_J5_inflateIfNeededFor_a7421 S a0 a1 = some o) : CT (fun _ : Unit => none) l yJ5_inflateIfNeededFor_a7421 (.code yJ5_inflateIfNeededFor_a7421 cJ5_inflateIfNeededFor_a7421 2 (Option.none : Option Jvm.ClassFile.FieldType)) rm2_J5_inflateIfNeededFor_a7421 S [.ref a0, .ref a1] o := ct_of (by decide +kernel) hls (Nat.le_of_ble_eq_true rfl) (fun C hl hC hE => t2_J5_inflateIfNeededFor_a7421 hls hC hl hE h)
abbrev rm2_J5_putStringAt_47b60 : Room := { frames := 15, cells := 1, slots := 32, locals := 308 }
def f2_J5_putStringAt_47b60 (S : mS) (a0 : Nat) (a1 : Int32) (a2 : Nat) : Option (Rs Unit) :=
  gd (gK S a0 = 2) (bd (f2_J5_inflateIfNeededFor_a7421 S a0 a2) fun _ S3 => gd (gK S3 a0 = 2) (lt9 (gR S3 a0 0) fun r7 => lt9 (gI S3 a0 1) fun x8 => gd ((a2 < KB ∧ gK S3 a2 = 1) ∨ (KB ≤ a2 ∧ a2 < KB + 3)) (bd (f2_J0_getBytes_840e7 S3 a2 r7 a1 x8) fun _ S11 => some (.inl (), S11))))
set_option maxHeartbeats 2000000 in
set_option maxRecDepth 100000 in
theorem t2_J5_putStringAt_47b60 {l : Launch} (hls : l.stackTraces = false) {C : cT} (hC : CX C cJ5_putStringAt_47b60 3 yJ5_putStringAt_47b60 rm2_J5_putStringAt_47b60) (hl : C.2.1 = l) {S0 : mS} (hE : CE C S0 (Option.none : Option Jvm.ClassFile.FieldType) []) {o : Rs Unit} {S : mS} {a0 : Nat} {a1 : Int32} {a2 : Nat} (h : f2_J5_putStringAt_47b60 S a0 a1 a2 = some o) : XX C 3 (QQ C (fun _ : Unit => none) S0 o) 0 0 S 0 [(0, .ref a0), (1, .int a1), (2, .ref a2)] [] := by
  unfold f2_J5_putStringAt_47b60 at h
  refine x_aload_n (pc := 0) hC 0 dJ5_putStringAt_47b60_0 rfl rfl ?_
  refine x_aload_n (pc := 1) hC 2 dJ5_putStringAt_47b60_1 rfl rfl ?_
  obtain ⟨g1, h⟩ := gd_some h
  obtain ⟨o4, ho4, h⟩ := bd_some h
  refine x_callC (pc := 2) (As := [.ref a2]) (rest := []) hC hl (c2_J5_inflateIfNeededFor_a7421 l hls ho4) lk_RJ5_397 fc_2 g1 dJ5_putStringAt_47b60_2 rfl rfl (Nat.le_of_ble_eq_true rfl) ⟨Nat.le_of_ble_eq_true rfl, Nat.le_of_ble_eq_true rfl⟩ ⟨(Nat.le_of_ble_eq_true rfl), (Nat.le_of_ble_eq_true rfl)⟩ ?_
  rcases o4 with ⟨_ | E5, S3⟩
  · refine xk_v ?_
    replace h := bk_l h
    refine x_aload_n (pc := 5) hC 2 dJ5_putStringAt_47b60_5 rfl rfl ?_
    refine x_aload_n (pc := 6) hC 0 dJ5_putStringAt_47b60_6 rfl rfl ?_
    obtain ⟨g6, h⟩ := gd_some h
    refine x_getRv (pc := 7) (k := 0) hC fc_2 fl_RJ5_15 dJ5_putStringAt_47b60_7 rfl g6 (fun r7 hr7 => ?_)
    replace h := lt_x hr7 h
    refine x_iload_n (pc := 10) hC 1 dJ5_putStringAt_47b60_10 rfl rfl ?_
    refine x_aload_n (pc := 11) hC 0 dJ5_putStringAt_47b60_11 rfl rfl ?_
    refine x_getIv (pc := 12) (k := 1) hC fc_2 fl_RJ5_22 dJ5_putStringAt_47b60_12 rfl g6 (fun x8 hx8 => ?_)
    replace h := lt_x hx8 h
    obtain ⟨g9, h⟩ := gd_some h
    obtain ⟨o12, ho12, h⟩ := bd_some h
    refine x_callVS (pc := 15) (As := [.ref r7, .int a1, .int x8]) (rest := []) hC hl (c2_J0_getBytes_840e7 l hls ho12) lk_RJ5_399 rfl g9 dJ5_putStringAt_47b60_15 rfl rfl (Nat.le_of_ble_eq_true rfl) ⟨Nat.le_of_ble_eq_true rfl, Nat.le_of_ble_eq_true rfl⟩ ⟨(Nat.le_of_ble_eq_true rfl), (Nat.le_of_ble_eq_true rfl)⟩ ?_
    rcases o12 with ⟨_ | E13, S11⟩
    · refine xk_v ?_
      replace h := bk_l h
      exact x_vreturn (pc := 18) hC hE dJ5_putStringAt_47b60_18 (so h) (Nat.le_of_ble_eq_true rfl) (Nat.le_of_ble_eq_true rfl)
    · exact xk_r (xt_out hC hE (bk_r h) (Nat.le_of_ble_eq_true rfl) (Nat.le_of_ble_eq_true rfl))
  · exact xk_r (xt_out hC hE (bk_r h) (Nat.le_of_ble_eq_true rfl) (Nat.le_of_ble_eq_true rfl))
theorem c2_J5_putStringAt_47b60 (l : Launch) (hls : l.stackTraces = false) {S : mS} {a0 : Nat} {a1 : Int32} {a2 : Nat} {o : Rs Unit} (h : f2_J5_putStringAt_47b60 S a0 a1 a2 = some o) : CT (fun _ : Unit => none) l yJ5_putStringAt_47b60 (.code yJ5_putStringAt_47b60 cJ5_putStringAt_47b60 3 (Option.none : Option Jvm.ClassFile.FieldType)) rm2_J5_putStringAt_47b60 S [.ref a0, .int a1, .ref a2] o := ct_of (by decide +kernel) hls (Nat.le_of_ble_eq_true rfl) (fun C hl hC hE => t2_J5_putStringAt_47b60 hls hC hl hE h)
abbrev rm2_J5_append_cf1ce : Room := { frames := 16, cells := 1, slots := 32, locals := 330 }
def f2_J5_append_cf1ce (S : mS) (a0 : Nat) (a1 : Nat) : Option (Rs Nat) :=
  if a1 = 0 then (gd (gK S a0 = 2) (bd (f2_J5_appendNull_278bc S a0) fun r25 S26 => some (.inl r25, S26))) else (gd ((a1 < KB ∧ gK S a1 = 1) ∨ (KB ≤ a1 ∧ a1 < KB + 3)) (bd (f2_J0_length_8abf5 S a1) fun x2 S3 => gd (gK S3 a0 = 2) (lt9 (gI S3 a0 3) fun x7 => lt9 (x7 + x2) fun x8 => bd (f2_J5_ensureCapacityInternal_d00df S3 a0 x8) fun _ S10 => gd (gK S10 a0 = 2) (lt9 (gI S10 a0 3) fun x14 => bd (f2_J5_putStringAt_47b60 S10 a0 x14 a1) fun _ S16 => gd (gK S16 a0 = 2) (lt9 (gI S16 a0 3) fun x20 => lt9 (x20 + x2) fun x21 => zI (sI S16 a0 3 x21) fun S22 => some (.inl a0, S22))))))
set_option maxHeartbeats 2000000 in
set_option maxRecDepth 100000 in
theorem t2_J5_append_cf1ce {l : Launch} (hls : l.stackTraces = false) {C : cT} (hC : CX C cJ5_append_cf1ce 3 yJ5_append_cf1ce rm2_J5_append_cf1ce) (hl : C.2.1 = l) {S0 : mS} (hE : CE C S0 (Option.some (Jvm.ClassFile.FieldType.object "java/lang/AbstractStringBuilder")) []) {o : Rs Nat} {S : mS} {a0 : Nat} {a1 : Nat} (h : f2_J5_append_cf1ce S a0 a1 = some o) : XX C 3 (QQ C (fun r : Nat => some (.ref r)) S0 o) 0 0 S 0 [(0, .ref a0), (1, .ref a1)] [] := by
  unfold f2_J5_append_cf1ce at h
  refine x_aload_n (pc := 0) hC 1 dJ5_append_cf1ce_0 rfl rfl ?_
  refine x_ifnonnull (pc := 1) hC 9 dJ5_append_cf1ce_1 (by decide) (fun c29 => ?_) (fun c29 => ?_)
  · rw [if_neg c29] at h
    refine x_aload_n (pc := 9) hC 1 dJ5_append_cf1ce_9 rfl rfl ?_
    obtain ⟨g1, h⟩ := gd_some h
    obtain ⟨o4, ho4, h⟩ := bd_some h
    refine x_callVS (pc := 10) (As := []) (rest := []) hC hl (c2_J0_length_8abf5 l hls ho4) lk_RJ5_32 rfl g1 dJ5_append_cf1ce_10 rfl rfl (Nat.le_of_ble_eq_true rfl) ⟨Nat.le_of_ble_eq_true rfl, Nat.le_of_ble_eq_true rfl⟩ ⟨(Nat.le_of_ble_eq_true rfl), (Nat.le_of_ble_eq_true rfl)⟩ ?_
    rcases o4 with ⟨x2 | E5, S3⟩
    · refine xk_i ?_
      replace h := bk_l h
      refine x_istore_n (pc := 13) hC dJ5_append_cf1ce_13 rfl (by decide) (by decide) rfl ?_
      refine x_aload_n (pc := 14) hC 1 dJ5_append_cf1ce_14 rfl rfl ?_
      refine x_aload_n (pc := 15) hC 1 dJ5_append_cf1ce_15 rfl rfl ?_
      obtain ⟨g6, h⟩ := gd_some h
      refine x_getIv (pc := 16) (k := 3) hC fc_2 fl_RJ5_79 dJ5_append_cf1ce_16 rfl g6 (fun x7 hx7 => ?_)
      replace h := lt_x hx7 h
      refine x_iload_n (pc := 19) hC 0 dJ5_append_cf1ce_19 rfl rfl ?_
      refine x_iaddv (pc := 20) hC dJ5_append_cf1ce_20 (fun x8 hx8 => ?_)
      replace h := lt_x hx8 h
      obtain ⟨o11, ho11, h⟩ := bd_some h
      refine x_callC (pc := 21) (As := [.int x8]) (rest := []) hC hl (c2_J5_ensureCapacityInternal_d00df l hls ho11) lk_RJ5_100 fc_2 g6 dJ5_append_cf1ce_21 rfl rfl (Nat.le_of_ble_eq_true rfl) ⟨Nat.le_of_ble_eq_true rfl, Nat.le_of_ble_eq_true rfl⟩ ⟨(Nat.le_of_ble_eq_true rfl), (Nat.le_of_ble_eq_true rfl)⟩ ?_
      rcases o11 with ⟨_ | E12, S10⟩
      · refine xk_v ?_
        replace h := bk_l h
        refine x_aload_n (pc := 24) hC 1 dJ5_append_cf1ce_24 rfl rfl ?_
        refine x_aload_n (pc := 25) hC 1 dJ5_append_cf1ce_25 rfl rfl ?_
        obtain ⟨g13, h⟩ := gd_some h
        refine x_getIv (pc := 26) (k := 3) hC fc_2 fl_RJ5_79 dJ5_append_cf1ce_26 rfl g13 (fun x14 hx14 => ?_)
        replace h := lt_x hx14 h
        refine x_aload_n (pc := 29) hC 2 dJ5_append_cf1ce_29 rfl rfl ?_
        obtain ⟨o17, ho17, h⟩ := bd_some h
        refine x_callC (pc := 30) (As := [.int x14, .ref a1]) (rest := []) hC hl (c2_J5_putStringAt_47b60 l hls ho17) lk_RJ5_208 fc_2 g13 dJ5_append_cf1ce_30 rfl rfl (Nat.le_of_ble_eq_true rfl) ⟨Nat.le_of_ble_eq_true rfl, Nat.le_of_ble_eq_true rfl⟩ ⟨(Nat.le_of_ble_eq_true rfl), (Nat.le_of_ble_eq_true rfl)⟩ ?_
        rcases o17 with ⟨_ | E18, S16⟩
        · refine xk_v ?_
          replace h := bk_l h
          refine x_aload_n (pc := 33) hC 1 dJ5_append_cf1ce_33 rfl rfl ?_
          refine x_dup (pc := 34) hC dJ5_append_cf1ce_34 rfl ?_
          obtain ⟨g19, h⟩ := gd_some h
          refine x_getIv (pc := 35) (k := 3) hC fc_2 fl_RJ5_79 dJ5_append_cf1ce_35 rfl g19 (fun x20 hx20 => ?_)
          replace h := lt_x hx20 h
          refine x_iload_n (pc := 38) hC 0 dJ5_append_cf1ce_38 rfl rfl ?_
          refine x_iaddv (pc := 39) hC dJ5_append_cf1ce_39 (fun x21 hx21 => ?_)
          replace h := lt_x hx21 h
          refine x_putIv (pc := 40) (k := 3) hC fc_2 fl_RJ5_79 dJ5_append_cf1ce_40 rfl rfl (nf_int _) g19 (fun S22 hS22 => ?_)
          replace h := zI_x hS22 h
          have g23 : gK S22 a0 = 2 := by rw [hS22]; exact g19
          refine x_aload_n (pc := 43) hC 1 dJ5_append_cf1ce_43 rfl rfl ?_
          exact x_areturn (pc := 44) hC hE (Or.inl ⟨_, rfl⟩) dJ5_append_cf1ce_44 (so h) (Nat.le_of_ble_eq_true rfl) (Nat.le_of_ble_eq_true rfl)
        · exact xk_r (xt_out hC hE (bk_r h) (Nat.le_of_ble_eq_true rfl) (Nat.le_of_ble_eq_true rfl))
      · exact xk_r (xt_out hC hE (bk_r h) (Nat.le_of_ble_eq_true rfl) (Nat.le_of_ble_eq_true rfl))
    · exact xk_r (xt_out hC hE (bk_r h) (Nat.le_of_ble_eq_true rfl) (Nat.le_of_ble_eq_true rfl))
  · rw [if_pos c29] at h
    refine x_aload_n (pc := 4) hC 0 dJ5_append_cf1ce_4 rfl rfl ?_
    obtain ⟨g24, h⟩ := gd_some h
    obtain ⟨o27, ho27, h⟩ := bd_some h
    refine x_callC (pc := 5) (As := []) (rest := []) hC hl (c2_J5_appendNull_278bc l hls ho27) lk_RJ5_204 fc_2 g24 dJ5_append_cf1ce_5 rfl rfl (Nat.le_of_ble_eq_true rfl) ⟨Nat.le_of_ble_eq_true rfl, Nat.le_of_ble_eq_true rfl⟩ ⟨(Nat.le_of_ble_eq_true rfl), (Nat.le_of_ble_eq_true rfl)⟩ ?_
    rcases o27 with ⟨r25 | E28, S26⟩
    · refine xk_a ?_
      replace h := bk_l h
      exact x_areturn (pc := 8) hC hE (Or.inl ⟨_, rfl⟩) dJ5_append_cf1ce_8 (so h) (Nat.le_of_ble_eq_true rfl) (Nat.le_of_ble_eq_true rfl)
    · exact xk_r (xt_out hC hE (bk_r h) (Nat.le_of_ble_eq_true rfl) (Nat.le_of_ble_eq_true rfl))
theorem c2_J5_append_cf1ce (l : Launch) (hls : l.stackTraces = false) {S : mS} {a0 : Nat} {a1 : Nat} {o : Rs Nat} (h : f2_J5_append_cf1ce S a0 a1 = some o) : CT (fun r : Nat => some (.ref r)) l yJ5_append_cf1ce (.code yJ5_append_cf1ce cJ5_append_cf1ce 3 (Option.some (Jvm.ClassFile.FieldType.object "java/lang/AbstractStringBuilder"))) rm2_J5_append_cf1ce S [.ref a0, .ref a1] o := ct_of (by decide +kernel) hls (Nat.le_of_ble_eq_true rfl) (fun C hl hC hE => t2_J5_append_cf1ce hls hC hl hE h)
abbrev rm2_J4_append_15ec4 : Room := { frames := 17, cells := 1, slots := 32, locals := 352 }
def f2_J4_append_15ec4 (S : mS) (a0 : Nat) (a1 : Nat) : Option (Rs Nat) :=
  gd (gK S a0 = 2) (bd (f2_J5_append_cf1ce S a0 a1) fun r2 S3 => some (.inl a0, S3))
set_option maxHeartbeats 2000000 in
set_option maxRecDepth 100000 in
theorem t2_J4_append_15ec4 {l : Launch} (hls : l.stackTraces = false) {C : cT} (hC : CX C cJ4_append_15ec4 2 yJ4_append_15ec4 rm2_J4_append_15ec4) (hl : C.2.1 = l) {S0 : mS} (hE : CE C S0 (Option.some (Jvm.ClassFile.FieldType.object "java/lang/StringBuilder")) []) {o : Rs Nat} {S : mS} {a0 : Nat} {a1 : Nat} (h : f2_J4_append_15ec4 S a0 a1 = some o) : XX C 2 (QQ C (fun r : Nat => some (.ref r)) S0 o) 0 0 S 0 [(0, .ref a0), (1, .ref a1)] [] := by
  unfold f2_J4_append_15ec4 at h
  refine x_aload_n (pc := 0) hC 0 dJ4_append_15ec4_0 rfl rfl ?_
  refine x_aload_n (pc := 1) hC 1 dJ4_append_15ec4_1 rfl rfl ?_
  obtain ⟨g1, h⟩ := gd_some h
  obtain ⟨o4, ho4, h⟩ := bd_some h
  refine x_callP (pc := 2) (As := [.ref a1]) (rest := []) hC hl (c2_J5_append_cf1ce l hls ho4) lk_RJ4_29 fc_2 g1 dJ4_append_15ec4_2 rfl rfl (Nat.le_of_ble_eq_true rfl) ⟨Nat.le_of_ble_eq_true rfl, Nat.le_of_ble_eq_true rfl⟩ ⟨(Nat.le_of_ble_eq_true rfl), (Nat.le_of_ble_eq_true rfl)⟩ ?_
  rcases o4 with ⟨r2 | E5, S3⟩
  · refine xk_a ?_
    replace h := bk_l h
    refine x_pop (pc := 5) hC dJ4_append_15ec4_5 rfl ?_
    refine x_aload_n (pc := 6) hC 0 dJ4_append_15ec4_6 rfl rfl ?_
    exact x_areturn (pc := 7) hC hE (Or.inl ⟨_, rfl⟩) dJ4_append_15ec4_7 (so h) (Nat.le_of_ble_eq_true rfl) (Nat.le_of_ble_eq_true rfl)
  · exact xk_r (xt_out hC hE (bk_r h) (Nat.le_of_ble_eq_true rfl) (Nat.le_of_ble_eq_true rfl))
theorem c2_J4_append_15ec4 (l : Launch) (hls : l.stackTraces = false) {S : mS} {a0 : Nat} {a1 : Nat} {o : Rs Nat} (h : f2_J4_append_15ec4 S a0 a1 = some o) : CT (fun r : Nat => some (.ref r)) l yJ4_append_15ec4 (.code yJ4_append_15ec4 cJ4_append_15ec4 2 (Option.some (Jvm.ClassFile.FieldType.object "java/lang/StringBuilder"))) rm2_J4_append_15ec4 S [.ref a0, .ref a1] o := ct_of (by decide +kernel) hls (Nat.le_of_ble_eq_true rfl) (fun C hl hC hE => t2_J4_append_15ec4 hls hC hl hE h)
abbrev rm2_J0_checkIndex_df160 : Room := { frames := 9, cells := 0, slots := 0, locals := 172 }
def f2_J0_checkIndex_df160 (S : mS) (a0 : Int32) (a1 : Int32) : Option (Rs Unit) :=
  bd (f_J3_checkIndex_8e157 S a0 a1 (KB + 21)) fun x1 S2 => some (.inl (), S2)
set_option maxHeartbeats 2000000 in
set_option maxRecDepth 100000 in
theorem t2_J0_checkIndex_df160 {l : Launch} (hls : l.stackTraces = false) {C : cT} (hC : CX C cJ0_checkIndex_df160 2 yJ0_checkIndex_df160 rm2_J0_checkIndex_df160) (hl : C.2.1 = l) {S0 : mS} (hE : CE C S0 (Option.none : Option Jvm.ClassFile.FieldType) []) {o : Rs Unit} {S : mS} {a0 : Int32} {a1 : Int32} (h : f2_J0_checkIndex_df160 S a0 a1 = some o) : XX C 2 (QQ C (fun _ : Unit => none) S0 o) 0 0 S 0 [(0, .int a0), (1, .int a1)] [] := by
  unfold f2_J0_checkIndex_df160 at h
  refine x_iload_n (pc := 0) hC 0 dJ0_checkIndex_df160_0 rfl rfl ?_
  refine x_iload_n (pc := 1) hC 1 dJ0_checkIndex_df160_1 rfl rfl ?_
  refine x_getsSF (pc := 2) hC wm_2076 dJ0_checkIndex_df160_2 (fun w9 => ?_)
  obtain ⟨o3, ho3, h⟩ := bd_some h
  refine x_callS (pc := 5) (As := [.int a0, .int a1, .ref w9]) (rest := []) hC hl (c_J3_checkIndex_8e157 l hls (Eq.trans sf_J3_checkIndex_8e157 ho3)) lk_RJ0_1059 dJ0_checkIndex_df160_5 rfl rfl (Nat.le_of_ble_eq_true rfl) ⟨Nat.le_of_ble_eq_true rfl, Nat.le_of_ble_eq_true rfl⟩ ⟨(Nat.le_of_ble_eq_true rfl), (Nat.le_of_ble_eq_true rfl)⟩ ?_
  rcases o3 with ⟨x1 | E4, S2⟩
  · refine xk_i ?_
    replace h := bk_l h
    refine x_pop (pc := 8) hC dJ0_checkIndex_df160_8 rfl ?_
    exact x_vreturn (pc := 9) hC hE dJ0_checkIndex_df160_9 (so h) (Nat.le_of_ble_eq_true rfl) (Nat.le_of_ble_eq_true rfl)
  · exact xk_r (xt_out hC hE (bk_r h) (Nat.le_of_ble_eq_true rfl) (Nat.le_of_ble_eq_true rfl))
theorem c2_J0_checkIndex_df160 (l : Launch) (hls : l.stackTraces = false) {S : mS} {a0 : Int32} {a1 : Int32} {o : Rs Unit} (h : f2_J0_checkIndex_df160 S a0 a1 = some o) : CT (fun _ : Unit => none) l yJ0_checkIndex_df160 (.code yJ0_checkIndex_df160 cJ0_checkIndex_df160 2 (Option.none : Option Jvm.ClassFile.FieldType)) rm2_J0_checkIndex_df160 S [.int a0, .int a1] o := ct_of (by decide +kernel) hls (Nat.le_of_ble_eq_true rfl) (fun C hl hC hE => t2_J0_checkIndex_df160 hls hC hl hE h)
abbrev rm2_J2_checkIndex_2214a : Room := { frames := 10, cells := 0, slots := 0, locals := 193 }
def f2_J2_checkIndex_2214a (S : mS) (a0 : Int32) (a1 : Nat) : Option (Rs Unit) :=
  bd (f2_J2_length_9d52b S a1) fun x1 S2 => bd (f2_J0_checkIndex_df160 S2 a0 x1) fun _ S6 => some (.inl (), S6)
set_option maxHeartbeats 2000000 in
set_option maxRecDepth 100000 in
theorem t2_J2_checkIndex_2214a {l : Launch} (hls : l.stackTraces = false) {C : cT} (hC : CX C cJ2_checkIndex_2214a 2 yJ2_checkIndex_2214a rm2_J2_checkIndex_2214a) (hl : C.2.1 = l) {S0 : mS} (hE : CE C S0 (Option.none : Option Jvm.ClassFile.FieldType) []) {o : Rs Unit} {S : mS} {a0 : Int32} {a1 : Nat} (h : f2_J2_checkIndex_2214a S a0 a1 = some o) : XX C 2 (QQ C (fun _ : Unit => none) S0 o) 0 0 S 0 [(0, .int a0), (1, .ref a1)] [] := by
  unfold f2_J2_checkIndex_2214a at h
  refine x_iload_n (pc := 0) hC 0 dJ2_checkIndex_2214a_0 rfl rfl ?_
  refine x_aload_n (pc := 1) hC 1 dJ2_checkIndex_2214a_1 rfl rfl ?_
  obtain ⟨o3, ho3, h⟩ := bd_some h
  refine x_callS (pc := 2) (As := [.ref a1]) (rest := [.int a0]) hC hl (c2_J2_length_9d52b l hls ho3) lk_RJ2_48 dJ2_checkIndex_2214a_2 rfl rfl (Nat.le_of_ble_eq_true rfl) ⟨Nat.le_of_ble_eq_true rfl, Nat.le_of_ble_eq_true rfl⟩ ⟨(Nat.le_of_ble_eq_true rfl), (Nat.le_of_ble_eq_true rfl)⟩ ?_
  rcases o3 with ⟨x1 | E4, S2⟩
  · refine xk_i ?_
    replace h := bk_l h
    obtain ⟨o7, ho7, h⟩ := bd_some h
    refine x_callS (pc := 5) (As := [.int a0, .int x1]) (rest := []) hC hl (c2_J0_checkIndex_df160 l hls ho7) lk_RJ2_414 dJ2_checkIndex_2214a_5 rfl rfl (Nat.le_of_ble_eq_true rfl) ⟨Nat.le_of_ble_eq_true rfl, Nat.le_of_ble_eq_true rfl⟩ ⟨(Nat.le_of_ble_eq_true rfl), (Nat.le_of_ble_eq_true rfl)⟩ ?_
    rcases o7 with ⟨_ | E8, S6⟩
    · refine xk_v ?_
      replace h := bk_l h
      exact x_vreturn (pc := 8) hC hE dJ2_checkIndex_2214a_8 (so h) (Nat.le_of_ble_eq_true rfl) (Nat.le_of_ble_eq_true rfl)
    · exact xk_r (xt_out hC hE (bk_r h) (Nat.le_of_ble_eq_true rfl) (Nat.le_of_ble_eq_true rfl))
  · exact xk_r (xt_out hC hE (bk_r h) (Nat.le_of_ble_eq_true rfl) (Nat.le_of_ble_eq_true rfl))
theorem c2_J2_checkIndex_2214a (l : Launch) (hls : l.stackTraces = false) {S : mS} {a0 : Int32} {a1 : Nat} {o : Rs Unit} (h : f2_J2_checkIndex_2214a S a0 a1 = some o) : CT (fun _ : Unit => none) l yJ2_checkIndex_2214a (.code yJ2_checkIndex_2214a cJ2_checkIndex_2214a 2 (Option.none : Option Jvm.ClassFile.FieldType)) rm2_J2_checkIndex_2214a S [.int a0, .ref a1] o := ct_of (by decide +kernel) hls (Nat.le_of_ble_eq_true rfl) (fun C hl hC hE => t2_J2_checkIndex_2214a hls hC hl hE h)
abbrev rm2_J2_putCharSB_b72d1 : Room := { frames := 11, cells := 0, slots := 0, locals := 214 }
def f2_J2_putCharSB_b72d1 (S : mS) (a0 : Nat) (a1 : Int32) (a2 : Int32) : Option (Rs Unit) :=
  bd (f2_J2_checkIndex_2214a S a1 a0) fun _ S2 => bd (f2_J2_putChar_b72d1 S2 a0 a1 a2) fun _ S6 => some (.inl (), S6)
set_option maxHeartbeats 2000000 in
set_option maxRecDepth 100000 in
theorem t2_J2_putCharSB_b72d1 {l : Launch} (hls : l.stackTraces = false) {C : cT} (hC : CX C cJ2_putCharSB_b72d1 3 yJ2_putCharSB_b72d1 rm2_J2_putCharSB_b72d1) (hl : C.2.1 = l) {S0 : mS} (hE : CE C S0 (Option.none : Option Jvm.ClassFile.FieldType) []) {o : Rs Unit} {S : mS} {a0 : Nat} {a1 : Int32} {a2 : Int32} (h : f2_J2_putCharSB_b72d1 S a0 a1 a2 = some o) : XX C 3 (QQ C (fun _ : Unit => none) S0 o) 0 0 S 0 [(0, .ref a0), (1, .int a1), (2, .int a2)] [] := by
  unfold f2_J2_putCharSB_b72d1 at h
  refine x_iload_n (pc := 0) hC 1 dJ2_putCharSB_b72d1_0 rfl rfl ?_
  refine x_aload_n (pc := 1) hC 0 dJ2_putCharSB_b72d1_1 rfl rfl ?_
  obtain ⟨o3, ho3, h⟩ := bd_some h
  refine x_callS (pc := 2) (As := [.int a1, .ref a0]) (rest := []) hC hl (c2_J2_checkIndex_2214a l hls ho3) lk_RJ2_67 dJ2_putCharSB_b72d1_2 rfl rfl (Nat.le_of_ble_eq_true rfl) ⟨Nat.le_of_ble_eq_true rfl, Nat.le_of_ble_eq_true rfl⟩ ⟨(Nat.le_of_ble_eq_true rfl), (Nat.le_of_ble_eq_true rfl)⟩ ?_
  rcases o3 with ⟨_ | E4, S2⟩
  · refine xk_v ?_
    replace h := bk_l h
    refine x_aload_n (pc := 5) hC 0 dJ2_putCharSB_b72d1_5 rfl rfl ?_
    refine x_iload_n (pc := 6) hC 1 dJ2_putCharSB_b72d1_6 rfl rfl ?_
    refine x_iload_n (pc := 7) hC 2 dJ2_putCharSB_b72d1_7 rfl rfl ?_
    obtain ⟨o7, ho7, h⟩ := bd_some h
    refine x_callS (pc := 8) (As := [.ref a0, .int a1, .int a2]) (rest := []) hC hl (c2_J2_putChar_b72d1 l hls ho7) lk_RJ2_111 dJ2_putCharSB_b72d1_8 rfl rfl (Nat.le_of_ble_eq_true rfl) ⟨Nat.le_of_ble_eq_true rfl, Nat.le_of_ble_eq_true rfl⟩ ⟨(Nat.le_of_ble_eq_true rfl), (Nat.le_of_ble_eq_true rfl)⟩ ?_
    rcases o7 with ⟨_ | E8, S6⟩
    · refine xk_v ?_
      replace h := bk_l h
      exact x_vreturn (pc := 11) hC hE dJ2_putCharSB_b72d1_11 (so h) (Nat.le_of_ble_eq_true rfl) (Nat.le_of_ble_eq_true rfl)
    · exact xk_r (xt_out hC hE (bk_r h) (Nat.le_of_ble_eq_true rfl) (Nat.le_of_ble_eq_true rfl))
  · exact xk_r (xt_out hC hE (bk_r h) (Nat.le_of_ble_eq_true rfl) (Nat.le_of_ble_eq_true rfl))
theorem c2_J2_putCharSB_b72d1 (l : Launch) (hls : l.stackTraces = false) {S : mS} {a0 : Nat} {a1 : Int32} {a2 : Int32} {o : Rs Unit} (h : f2_J2_putCharSB_b72d1 S a0 a1 a2 = some o) : CT (fun _ : Unit => none) l yJ2_putCharSB_b72d1 (.code yJ2_putCharSB_b72d1 cJ2_putCharSB_b72d1 3 (Option.none : Option Jvm.ClassFile.FieldType)) rm2_J2_putCharSB_b72d1 S [.ref a0, .int a1, .int a2] o := ct_of (by decide +kernel) hls (Nat.le_of_ble_eq_true rfl) (fun C hl hC hE => t2_J2_putCharSB_b72d1 hls hC hl hE h)
abbrev rm2_J5_append_3fe6f : Room := { frames := 14, cells := 1, slots := 32, locals := 287 }
def f2_J5_append_3fe6f_75  (S : mS) (a0 : Nat) : Option (Rs Nat) :=
  some (.inl a0, S)
set_option maxHeartbeats 2000000 in
set_option maxRecDepth 100000 in
theorem t2_J5_append_3fe6f_75 {l : Launch} (hls : l.stackTraces = false) {C : cT} (hC : CX C cJ5_append_3fe6f 2 yJ5_append_3fe6f rm2_J5_append_3fe6f) (hl : C.2.1 = l) {S0 : mS} (hE : CE C S0 (Option.some (Jvm.ClassFile.FieldType.object "java/lang/AbstractStringBuilder")) []) {o : Rs Nat} {S : mS} {a0 : Nat} (h : f2_J5_append_3fe6f_75  S a0 = some o) : XX C 2 (QQ C (fun r : Nat => some (.ref r)) S0 o) (1) (32) S 75 [(0, .ref a0)] [] := by
  unfold f2_J5_append_3fe6f_75 at h
  refine x_aload_n (pc := 75) hC 0 dJ5_append_3fe6f_75 rfl rfl ?_
  exact x_areturn (pc := 76) hC hE (Or.inl ⟨_, rfl⟩) dJ5_append_3fe6f_76 (so h) (Nat.le_of_ble_eq_true rfl) (Nat.le_of_ble_eq_true rfl)
def f2_J5_append_3fe6f_56  (S : mS) (a0 : Nat) (a1 : Int32) : Option (Rs Nat) :=
  gd (gK S a0 = 2) (lt9 (gR S a0 0) fun r2 => lt9 (gI S a0 3) fun x3 => lt9 (x3 + (1 : Int32)) fun x4 => zI (sI S a0 3 x4) fun S5 => bd (f2_J2_putCharSB_b72d1 S5 r2 x3 a1) fun _ S8 => f2_J5_append_3fe6f_75  S8 a0)
set_option maxHeartbeats 2000000 in
set_option maxRecDepth 100000 in
theorem t2_J5_append_3fe6f_56 {l : Launch} (hls : l.stackTraces = false) {C : cT} (hC : CX C cJ5_append_3fe6f 2 yJ5_append_3fe6f rm2_J5_append_3fe6f) (hl : C.2.1 = l) {S0 : mS} (hE : CE C S0 (Option.some (Jvm.ClassFile.FieldType.object "java/lang/AbstractStringBuilder")) []) {o : Rs Nat} {S : mS} {a0 : Nat} {a1 : Int32} (h : f2_J5_append_3fe6f_56  S a0 a1 = some o) : XX C 2 (QQ C (fun r : Nat => some (.ref r)) S0 o) (1) (32) S 56 [(0, .ref a0), (1, .int a1)] [] := by
  unfold f2_J5_append_3fe6f_56 at h
  refine x_aload_n (pc := 56) hC 0 dJ5_append_3fe6f_56 rfl rfl ?_
  obtain ⟨g1, h⟩ := gd_some h
  refine x_getRv (pc := 57) (k := 0) hC fc_2 fl_RJ5_15 dJ5_append_3fe6f_57 rfl g1 (fun r2 hr2 => ?_)
  replace h := lt_x hr2 h
  refine x_aload_n (pc := 60) hC 0 dJ5_append_3fe6f_60 rfl rfl ?_
  refine x_dup (pc := 61) hC dJ5_append_3fe6f_61 rfl ?_
  refine x_getIv (pc := 62) (k := 3) hC fc_2 fl_RJ5_79 dJ5_append_3fe6f_62 rfl g1 (fun x3 hx3 => ?_)
  replace h := lt_x hx3 h
  refine x_dup_x1 (pc := 65) hC dJ5_append_3fe6f_65 rfl rfl ?_
  refine x_iconst (pc := 66) (v := (1 : Int32)) hC dJ5_append_3fe6f_66 (by decide) ?_
  refine x_iaddv (pc := 67) hC dJ5_append_3fe6f_67 (fun x4 hx4 => ?_)
  replace h := lt_x hx4 h
  refine x_putIv (pc := 68) (k := 3) hC fc_2 fl_RJ5_79 dJ5_append_3fe6f_68 rfl rfl (nf_int _) g1 (fun S5 hS5 => ?_)
  replace h := zI_x hS5 h
  have g6 : gK S5 a0 = 2 := by rw [hS5]; exact g1
  refine x_iload_n (pc := 71) hC 1 dJ5_append_3fe6f_71 rfl rfl ?_
  obtain ⟨o9, ho9, h⟩ := bd_some h
  refine x_callS (pc := 72) (As := [.ref r2, .int x3, .int a1]) (rest := []) hC hl (c2_J2_putCharSB_b72d1 l hls ho9) lk_RJ5_197 dJ5_append_3fe6f_72 rfl rfl (Nat.le_of_ble_eq_true rfl) ⟨Nat.le_of_ble_eq_true rfl, Nat.le_of_ble_eq_true rfl⟩ ⟨(Nat.le_of_ble_eq_true rfl), (Nat.le_of_ble_eq_true rfl)⟩ ?_
  rcases o9 with ⟨_ | E10, S8⟩
  · refine xk_v ?_
    replace h := bk_l h
    refine x_pick [0] rfl ?_
    exact t2_J5_append_3fe6f_75 hls hC hl hE h
  · exact xk_r (xt_out hC hE (bk_r h) (Nat.le_of_ble_eq_true rfl) (Nat.le_of_ble_eq_true rfl))
def f2_J5_append_3fe6f_45  (S : mS) (a0 : Nat) (a1 : Int32) : Option (Rs Nat) :=
  gd (gK S a0 = 2) (bd (f2_J5_isLatin1_aae02 S a0) fun x2 S3 => if x2 = 0 then (f2_J5_append_3fe6f_56  S3 a0 a1) else (gd (gK S3 a0 = 2) (bd (f2_J5_inflate_da8c8 S3 a0) fun _ S8 => f2_J5_append_3fe6f_56  S8 a0 a1)))
set_option maxHeartbeats 2000000 in
set_option maxRecDepth 100000 in
theorem t2_J5_append_3fe6f_45 {l : Launch} (hls : l.stackTraces = false) {C : cT} (hC : CX C cJ5_append_3fe6f 2 yJ5_append_3fe6f rm2_J5_append_3fe6f) (hl : C.2.1 = l) {S0 : mS} (hE : CE C S0 (Option.some (Jvm.ClassFile.FieldType.object "java/lang/AbstractStringBuilder")) []) {o : Rs Nat} {S : mS} {a0 : Nat} {a1 : Int32} (h : f2_J5_append_3fe6f_45  S a0 a1 = some o) : XX C 2 (QQ C (fun r : Nat => some (.ref r)) S0 o) (0) (0) S 45 [(0, .ref a0), (1, .int a1)] [] := by
  unfold f2_J5_append_3fe6f_45 at h
  refine x_aload_n (pc := 45) hC 0 dJ5_append_3fe6f_45 rfl rfl ?_
  obtain ⟨g1, h⟩ := gd_some h
  obtain ⟨o4, ho4, h⟩ := bd_some h
  refine x_callC (pc := 46) (As := []) (rest := []) hC hl (c2_J5_isLatin1_aae02 l hls ho4) lk_RJ5_83 fc_2 g1 dJ5_append_3fe6f_46 rfl rfl (Nat.le_of_ble_eq_true rfl) ⟨Nat.le_of_ble_eq_true rfl, Nat.le_of_ble_eq_true rfl⟩ ⟨(Nat.le_of_ble_eq_true rfl), (Nat.le_of_ble_eq_true rfl)⟩ ?_
  rcases o4 with ⟨x2 | E5, S3⟩
  · refine xk_i ?_
    replace h := bk_l h
    refine x_if_eq (pc := 49) hC 56 dJ5_append_3fe6f_49 (by decide) (fun c11 => ?_) (fun c11 => ?_)
    · rw [if_pos c11] at h
      refine x_pick [0, 1] rfl ?_
      refine x_widen (ce' := 1) (sl' := 32) (Nat.le_of_ble_eq_true rfl) (Nat.le_of_ble_eq_true rfl) ?_
      exact t2_J5_append_3fe6f_56 hls hC hl hE h
    · rw [if_neg c11] at h
      refine x_aload_n (pc := 52) hC 0 dJ5_append_3fe6f_52 rfl rfl ?_
      obtain ⟨g6, h⟩ := gd_some h
      obtain ⟨o9, ho9, h⟩ := bd_some h
      refine x_callC (pc := 53) (As := []) (rest := []) hC hl (c2_J5_inflate_da8c8 l hls ho9) lk_RJ5_195 fc_2 g6 dJ5_append_3fe6f_53 rfl rfl (Nat.le_of_ble_eq_true rfl) ⟨Nat.le_of_ble_eq_true rfl, Nat.le_of_ble_eq_true rfl⟩ ⟨(Nat.le_of_ble_eq_true rfl), (Nat.le_of_ble_eq_true rfl)⟩ ?_
      rcases o9 with ⟨_ | E10, S8⟩
      · refine xk_v ?_
        replace h := bk_l h
        refine x_pick [0, 1] rfl ?_
        exact t2_J5_append_3fe6f_56 hls hC hl hE h
      · exact xk_r (xt_out hC hE (bk_r h) (Nat.le_of_ble_eq_true rfl) (Nat.le_of_ble_eq_true rfl))
  · exact xk_r (xt_out hC hE (bk_r h) (Nat.le_of_ble_eq_true rfl) (Nat.le_of_ble_eq_true rfl))
def f2_J5_append_3fe6f (S : mS) (a0 : Nat) (a1 : Int32) : Option (Rs Nat) :=
  gd (gK S a0 = 2) (lt9 (gI S a0 3) fun x2 => lt9 (x2 + (1 : Int32)) fun x3 => bd (f2_J5_ensureCapacityInternal_d00df S a0 x3) fun _ S5 => gd (gK S5 a0 = 2) (bd (f2_J5_isLatin1_aae02 S5 a0) fun x9 S10 => if x9 = 0 then (f2_J5_append_3fe6f_45  S10 a0 a1) else (bd (f_J1_canEncode_fc78d S10 a1) fun x13 S14 => if x13 = 0 then (f2_J5_append_3fe6f_45  S14 a0 a1) else (gd (gK S14 a0 = 2) (lt9 (gR S14 a0 0) fun r18 => lt9 (gI S14 a0 3) fun x19 => lt9 (x19 + (1 : Int32)) fun x20 => zI (sI S14 a0 3 x20) fun S21 => lt9 ((a1).toInt8.toInt32) fun x23 => gd (gK S21 r18 = 33) (gd (¬ (x19 < 0 ∨ gZ S21 r18 ≤ (x19).toNatClampNeg)) (gd (x23.toInt8.toInt32 = x23) (zI (sI S21 r18 (x19).toNatClampNeg x23) fun S26 => f2_J5_append_3fe6f_75  S26 a0))))))))
set_option maxHeartbeats 2000000 in
set_option maxRecDepth 100000 in
theorem t2_J5_append_3fe6f {l : Launch} (hls : l.stackTraces = false) {C : cT} (hC : CX C cJ5_append_3fe6f 2 yJ5_append_3fe6f rm2_J5_append_3fe6f) (hl : C.2.1 = l) {S0 : mS} (hE : CE C S0 (Option.some (Jvm.ClassFile.FieldType.object "java/lang/AbstractStringBuilder")) []) {o : Rs Nat} {S : mS} {a0 : Nat} {a1 : Int32} (h : f2_J5_append_3fe6f S a0 a1 = some o) : XX C 2 (QQ C (fun r : Nat => some (.ref r)) S0 o) 0 0 S 0 [(0, .ref a0), (1, .int a1)] [] := by
  unfold f2_J5_append_3fe6f at h
  refine x_aload_n (pc := 0) hC 0 dJ5_append_3fe6f_0 rfl rfl ?_
  refine x_aload_n (pc := 1) hC 0 dJ5_append_3fe6f_1 rfl rfl ?_
  obtain ⟨g1, h⟩ := gd_some h
  refine x_getIv (pc := 2) (k := 3) hC fc_2 fl_RJ5_79 dJ5_append_3fe6f_2 rfl g1 (fun x2 hx2 => ?_)
  replace h := lt_x hx2 h
  refine x_iconst (pc := 5) (v := (1 : Int32)) hC dJ5_append_3fe6f_5 (by decide) ?_
  refine x_iaddv (pc := 6) hC dJ5_append_3fe6f_6 (fun x3 hx3 => ?_)
  replace h := lt_x hx3 h
  obtain ⟨o6, ho6, h⟩ := bd_some h
  refine x_callC (pc := 7) (As := [.int x3]) (rest := []) hC hl (c2_J5_ensureCapacityInternal_d00df l hls ho6) lk_RJ5_100 fc_2 g1 dJ5_append_3fe6f_7 rfl rfl (Nat.le_of_ble_eq_true rfl) ⟨Nat.le_of_ble_eq_true rfl, Nat.le_of_ble_eq_true rfl⟩ ⟨(Nat.le_of_ble_eq_true rfl), (Nat.le_of_ble_eq_true rfl)⟩ ?_
  rcases o6 with ⟨_ | E7, S5⟩
  · refine xk_v ?_
    replace h := bk_l h
    refine x_aload_n (pc := 10) hC 0 dJ5_append_3fe6f_10 rfl rfl ?_
    obtain ⟨g8, h⟩ := gd_some h
    obtain ⟨o11, ho11, h⟩ := bd_some h
    refine x_callC (pc := 11) (As := []) (rest := []) hC hl (c2_J5_isLatin1_aae02 l hls ho11) lk_RJ5_83 fc_2 g8 dJ5_append_3fe6f_11 rfl rfl (Nat.le_of_ble_eq_true rfl) ⟨Nat.le_of_ble_eq_true rfl, Nat.le_of_ble_eq_true rfl⟩ ⟨(Nat.le_of_ble_eq_true rfl), (Nat.le_of_ble_eq_true rfl)⟩ ?_
    rcases o11 with ⟨x9 | E12, S10⟩
    · refine xk_i ?_
      replace h := bk_l h
      refine x_if_eq (pc := 14) hC 45 dJ5_append_3fe6f_14 (by decide) (fun c31 => ?_) (fun c31 => ?_)
      · rw [if_pos c31] at h
        refine x_pick [0, 1] rfl ?_
        exact t2_J5_append_3fe6f_45 hls hC hl hE h
      · rw [if_neg c31] at h
        refine x_iload_n (pc := 17) hC 1 dJ5_append_3fe6f_17 rfl rfl ?_
        obtain ⟨o15, ho15, h⟩ := bd_some h
        refine x_callS (pc := 18) (As := [.int a1]) (rest := []) hC hl (c_J1_canEncode_fc78d l hls ho15) lk_RJ5_191 dJ5_append_3fe6f_18 rfl rfl (Nat.le_of_ble_eq_true rfl) ⟨Nat.le_of_ble_eq_true rfl, Nat.le_of_ble_eq_true rfl⟩ ⟨(Nat.le_of_ble_eq_true rfl), (Nat.le_of_ble_eq_true rfl)⟩ ?_
        rcases o15 with ⟨x13 | E16, S14⟩
        · refine xk_i ?_
          replace h := bk_l h
          refine x_if_eq (pc := 21) hC 45 dJ5_append_3fe6f_21 (by decide) (fun c30 => ?_) (fun c30 => ?_)
          · rw [if_pos c30] at h
            refine x_pick [0, 1] rfl ?_
            exact t2_J5_append_3fe6f_45 hls hC hl hE h
          · rw [if_neg c30] at h
            refine x_aload_n (pc := 24) hC 0 dJ5_append_3fe6f_24 rfl rfl ?_
            obtain ⟨g17, h⟩ := gd_some h
            refine x_getRv (pc := 25) (k := 0) hC fc_2 fl_RJ5_15 dJ5_append_3fe6f_25 rfl g17 (fun r18 hr18 => ?_)
            replace h := lt_x hr18 h
            refine x_aload_n (pc := 28) hC 0 dJ5_append_3fe6f_28 rfl rfl ?_
            refine x_dup (pc := 29) hC dJ5_append_3fe6f_29 rfl ?_
            refine x_getIv (pc := 30) (k := 3) hC fc_2 fl_RJ5_79 dJ5_append_3fe6f_30 rfl g17 (fun x19 hx19 => ?_)
            replace h := lt_x hx19 h
            refine x_dup_x1 (pc := 33) hC dJ5_append_3fe6f_33 rfl rfl ?_
            refine x_iconst (pc := 34) (v := (1 : Int32)) hC dJ5_append_3fe6f_34 (by decide) ?_
            refine x_iaddv (pc := 35) hC dJ5_append_3fe6f_35 (fun x20 hx20 => ?_)
            replace h := lt_x hx20 h
            refine x_putIv (pc := 36) (k := 3) hC fc_2 fl_RJ5_79 dJ5_append_3fe6f_36 rfl rfl (nf_int _) g17 (fun S21 hS21 => ?_)
            replace h := zI_x hS21 h
            have g22 : gK S21 a0 = 2 := by rw [hS21]; exact g17
            refine x_iload_n (pc := 39) hC 1 dJ5_append_3fe6f_39 rfl rfl ?_
            refine x_i2bv (pc := 40) hC dJ5_append_3fe6f_40 (fun x23 hx23 => ?_)
            replace h := lt_x hx23 h
            obtain ⟨g25, h⟩ := gd_some h
            obtain ⟨g24, h⟩ := gd_some h
            obtain ⟨g27, h⟩ := gd_some h
            refine x_yastv (pc := 41) hC dJ5_append_3fe6f_41 (nf_Y g27).1 g25 g24 (fun S26 hS26 => ?_)
            replace h := zI_x hS26 h
            have g28 : gK S26 a0 = 2 := by rw [hS26]; exact g22
            have g29 : gK S26 r18 = 33 := by rw [hS26]; exact g25
            refine x_goto (pc := 42) hC 75 dJ5_append_3fe6f_42 (by decide) ?_
            refine x_pick [0] rfl ?_
            refine x_widen (ce' := 1) (sl' := 32) (Nat.le_of_ble_eq_true rfl) (Nat.le_of_ble_eq_true rfl) ?_
            exact t2_J5_append_3fe6f_75 hls hC hl hE h
        · exact xk_r (xt_out hC hE (bk_r h) (Nat.le_of_ble_eq_true rfl) (Nat.le_of_ble_eq_true rfl))
    · exact xk_r (xt_out hC hE (bk_r h) (Nat.le_of_ble_eq_true rfl) (Nat.le_of_ble_eq_true rfl))
  · exact xk_r (xt_out hC hE (bk_r h) (Nat.le_of_ble_eq_true rfl) (Nat.le_of_ble_eq_true rfl))
theorem c2_J5_append_3fe6f (l : Launch) (hls : l.stackTraces = false) {S : mS} {a0 : Nat} {a1 : Int32} {o : Rs Nat} (h : f2_J5_append_3fe6f S a0 a1 = some o) : CT (fun r : Nat => some (.ref r)) l yJ5_append_3fe6f (.code yJ5_append_3fe6f cJ5_append_3fe6f 2 (Option.some (Jvm.ClassFile.FieldType.object "java/lang/AbstractStringBuilder"))) rm2_J5_append_3fe6f S [.ref a0, .int a1] o := ct_of (by decide +kernel) hls (Nat.le_of_ble_eq_true rfl) (fun C hl hC hE => t2_J5_append_3fe6f hls hC hl hE h)
abbrev rm2_J4_append_cf468 : Room := { frames := 15, cells := 1, slots := 32, locals := 308 }
def f2_J4_append_cf468 (S : mS) (a0 : Nat) (a1 : Int32) : Option (Rs Nat) :=
  gd (gK S a0 = 2) (bd (f2_J5_append_3fe6f S a0 a1) fun r2 S3 => some (.inl a0, S3))
set_option maxHeartbeats 2000000 in
set_option maxRecDepth 100000 in
theorem t2_J4_append_cf468 {l : Launch} (hls : l.stackTraces = false) {C : cT} (hC : CX C cJ4_append_cf468 2 yJ4_append_cf468 rm2_J4_append_cf468) (hl : C.2.1 = l) {S0 : mS} (hE : CE C S0 (Option.some (Jvm.ClassFile.FieldType.object "java/lang/StringBuilder")) []) {o : Rs Nat} {S : mS} {a0 : Nat} {a1 : Int32} (h : f2_J4_append_cf468 S a0 a1 = some o) : XX C 2 (QQ C (fun r : Nat => some (.ref r)) S0 o) 0 0 S 0 [(0, .ref a0), (1, .int a1)] [] := by
  unfold f2_J4_append_cf468 at h
  refine x_aload_n (pc := 0) hC 0 dJ4_append_cf468_0 rfl rfl ?_
  refine x_iload_n (pc := 1) hC 1 dJ4_append_cf468_1 rfl rfl ?_
  obtain ⟨g1, h⟩ := gd_some h
  obtain ⟨o4, ho4, h⟩ := bd_some h
  refine x_callP (pc := 2) (As := [.int a1]) (rest := []) hC hl (c2_J5_append_3fe6f l hls ho4) lk_RJ4_50 fc_2 g1 dJ4_append_cf468_2 rfl rfl (Nat.le_of_ble_eq_true rfl) ⟨Nat.le_of_ble_eq_true rfl, Nat.le_of_ble_eq_true rfl⟩ ⟨(Nat.le_of_ble_eq_true rfl), (Nat.le_of_ble_eq_true rfl)⟩ ?_
  rcases o4 with ⟨r2 | E5, S3⟩
  · refine xk_a ?_
    replace h := bk_l h
    refine x_pop (pc := 5) hC dJ4_append_cf468_5 rfl ?_
    refine x_aload_n (pc := 6) hC 0 dJ4_append_cf468_6 rfl rfl ?_
    exact x_areturn (pc := 7) hC hE (Or.inl ⟨_, rfl⟩) dJ4_append_cf468_7 (so h) (Nat.le_of_ble_eq_true rfl) (Nat.le_of_ble_eq_true rfl)
  · exact xk_r (xt_out hC hE (bk_r h) (Nat.le_of_ble_eq_true rfl) (Nat.le_of_ble_eq_true rfl))
theorem c2_J4_append_cf468 (l : Launch) (hls : l.stackTraces = false) {S : mS} {a0 : Nat} {a1 : Int32} {o : Rs Nat} (h : f2_J4_append_cf468 S a0 a1 = some o) : CT (fun r : Nat => some (.ref r)) l yJ4_append_cf468 (.code yJ4_append_cf468 cJ4_append_cf468 2 (Option.some (Jvm.ClassFile.FieldType.object "java/lang/StringBuilder"))) rm2_J4_append_cf468 S [.ref a0, .int a1] o := ct_of (by decide +kernel) hls (Nat.le_of_ble_eq_true rfl) (fun C hl hC hE => t2_J4_append_cf468 hls hC hl hE h)
abbrev rm2_J5_init_d00df : Room := { frames := 10, cells := 1, slots := 32, locals := 190 }
def f2_J5_init_d00df_38  (S : mS) : Option (Rs Unit) :=
  some (.inl (), S)
set_option maxHeartbeats 2000000 in
set_option maxRecDepth 100000 in
theorem t2_J5_init_d00df_38 {l : Launch} (hls : l.stackTraces = false) {C : cT} (hC : CX C cJ5_init_d00df 2 yJ5_init_d00df rm2_J5_init_d00df) (hl : C.2.1 = l) {S0 : mS} (hE : CE C S0 (Option.none : Option Jvm.ClassFile.FieldType) []) {o : Rs Unit} {S : mS} (h : f2_J5_init_d00df_38  S = some o) : XX C 2 (QQ C (fun _ : Unit => none) S0 o) (1) (32) S 38 [] [] := by
  unfold f2_J5_init_d00df_38 at h
  exact x_vreturn (pc := 38) hC hE dJ5_init_d00df_38 (so h) (Nat.le_of_ble_eq_true rfl) (Nat.le_of_ble_eq_true rfl)
def f2_J5_init_d00df (S : mS) (a0 : Nat) (a1 : Int32) : Option (Rs Unit) :=
  gd (gK S a0 = 2) (if (1 : Int32) = 0 then (bd (f2_J2_newBytesFor_77867 S a1) fun r2 S3 => gd (gK S3 a0 = 2) (zR (sR S3 a0 0 r2) fun S7 => zI (sI S7 a0 1 (1 : Int32)) fun S9 => f2_J5_init_d00df_38  S9)) else (if a1 = (16 : Int32) then (gd (gN S + 1 < KB) (zW (sW S 33 16) fun S16 => lt9 (gN S + 1) fun r17 => gd (gK S16 a0 = 2) (zR (sR S16 a0 0 r17) fun S20 => zI (sI S20 a0 1 (0 : Int32)) fun S23 => f2_J5_init_d00df_38  S23))) else none))
set_option maxHeartbeats 2000000 in
set_option maxRecDepth 100000 in
theorem t2_J5_init_d00df {l : Launch} (hls : l.stackTraces = false) {C : cT} (hC : CX C cJ5_init_d00df 2 yJ5_init_d00df rm2_J5_init_d00df) (hl : C.2.1 = l) {S0 : mS} (hE : CE C S0 (Option.none : Option Jvm.ClassFile.FieldType) []) {o : Rs Unit} {S : mS} {a0 : Nat} {a1 : Int32} (h : f2_J5_init_d00df S a0 a1 = some o) : XX C 2 (QQ C (fun _ : Unit => none) S0 o) 0 0 S 0 [(0, .ref a0), (1, .int a1)] [] := by
  unfold f2_J5_init_d00df at h
  refine x_aload_n (pc := 0) hC 0 dJ5_init_d00df_0 rfl rfl ?_
  obtain ⟨g1, h⟩ := gd_some h
  refine x_objInit (pc := 1) hC wm_2358 wm_94 wm_95 dJ5_init_d00df_1 (by rw [g1]; decide) (Nat.le_of_ble_eq_true rfl) (Nat.le_of_ble_eq_true rfl) ?_
  refine x_getsCO (pc := 4) hC wm_2359 dJ5_init_d00df_4 ?_
  refine x_if_eq (pc := 7) hC 25 dJ5_init_d00df_7 (by decide) (fun c26 => ?_) (fun c26 => ?_)
  · rw [if_pos c26] at h
    refine x_aload_n (pc := 25) hC 0 dJ5_init_d00df_25 rfl rfl ?_
    refine x_iload_n (pc := 26) hC 1 dJ5_init_d00df_26 rfl rfl ?_
    obtain ⟨o4, ho4, h⟩ := bd_some h
    refine x_callS (pc := 27) (As := [.int a1]) (rest := [.ref a0]) hC hl (c2_J2_newBytesFor_77867 l hls ho4) lk_RJ5_26 dJ5_init_d00df_27 rfl rfl (Nat.le_of_ble_eq_true rfl) ⟨Nat.le_of_ble_eq_true rfl, Nat.le_of_ble_eq_true rfl⟩ ⟨(Nat.le_of_ble_eq_true rfl), (Nat.le_of_ble_eq_true rfl)⟩ ?_
    rcases o4 with ⟨r2 | E5, S3⟩
    · refine xk_a ?_
      replace h := bk_l h
      obtain ⟨g6, h⟩ := gd_some h
      refine x_putRv (pc := 30) (k := 0) hC fc_2 fl_RJ5_15 dJ5_init_d00df_30 rfl rfl (Or.inr ⟨_, rfl⟩) g6 (fun S7 hS7 => ?_)
      replace h := zR_x hS7 h
      have g8 : gK S7 a0 = 2 := by rw [hS7]; exact g6
      refine x_aload_n (pc := 33) hC 0 dJ5_init_d00df_33 rfl rfl ?_
      refine x_iconst (pc := 34) (v := (1 : Int32)) hC dJ5_init_d00df_34 (by decide) ?_
      refine x_putIv (pc := 35) (k := 1) hC fc_2 fl_RJ5_22 dJ5_init_d00df_35 rfl rfl (show NF .byte _ from ⟨rfl, rfl⟩) g8 (fun S9 hS9 => ?_)
      replace h := zI_x hS9 h
      have g10 : gK S9 a0 = 2 := by rw [hS9]; exact g8
      refine x_pick [] rfl ?_
      exact t2_J5_init_d00df_38 hls hC hl hE h
    · exact xk_r (xt_out hC hE (bk_r h) (Nat.le_of_ble_eq_true rfl) (Nat.le_of_ble_eq_true rfl))
  · rw [if_neg c26] at h
    refine x_aload_n (pc := 10) hC 0 dJ5_init_d00df_10 rfl rfl ?_
    refine x_iload_n (pc := 11) hC 1 dJ5_init_d00df_11 rfl rfl ?_
    by_cases c14 : a1 = (16 : Int32)
    · rw [if_pos c14] at h
      obtain ⟨g15, h⟩ := gd_some h
      refine x_newaYv (pc := 12) (z := 16) hC wm_971 dJ5_init_d00df_12 (by rw [c14]; decide) (by rw [c14]; decide) (Nat.le_of_ble_eq_true rfl) g15 (Nat.le_of_ble_eq_true rfl) (Nat.le_of_ble_eq_true rfl) (fun S16 r17 hS16 hr17 => ?_)
      replace h := zW_x hS16 h
      replace h := lt_x hr17 h
      have g18 : gK S16 r17 = 33 := by rw [hr17, hS16]; exact sW_K
      obtain ⟨g19, h⟩ := gd_some h
      refine x_putRv (pc := 14) (k := 0) hC fc_2 fl_RJ5_15 dJ5_init_d00df_14 rfl rfl (Or.inr ⟨_, rfl⟩) g19 (fun S20 hS20 => ?_)
      replace h := zR_x hS20 h
      have g21 : gK S20 r17 = 33 := by rw [hS20]; exact g18
      have g22 : gK S20 a0 = 2 := by rw [hS20]; exact g19
      refine x_aload_n (pc := 17) hC 0 dJ5_init_d00df_17 rfl rfl ?_
      refine x_iconst (pc := 18) (v := (0 : Int32)) hC dJ5_init_d00df_18 (by decide) ?_
      refine x_putIv (pc := 19) (k := 1) hC fc_2 fl_RJ5_22 dJ5_init_d00df_19 rfl rfl (show NF .byte _ from ⟨rfl, rfl⟩) g22 (fun S23 hS23 => ?_)
      replace h := zI_x hS23 h
      have g24 : gK S23 r17 = 33 := by rw [hS23]; exact g21
      have g25 : gK S23 a0 = 2 := by rw [hS23]; exact g22
      refine x_goto (pc := 22) hC 38 dJ5_init_d00df_22 (by decide) ?_
      refine x_pick [] rfl ?_
      refine x_widen (ce' := 1) (sl' := 32) (Nat.le_of_ble_eq_true rfl) (Nat.le_of_ble_eq_true rfl) ?_
      exact t2_J5_init_d00df_38 hls hC hl hE h
    rw [if_neg c14] at h
    cases h
theorem c2_J5_init_d00df (l : Launch) (hls : l.stackTraces = false) {S : mS} {a0 : Nat} {a1 : Int32} {o : Rs Unit} (h : f2_J5_init_d00df S a0 a1 = some o) : CT (fun _ : Unit => none) l yJ5_init_d00df (.code yJ5_init_d00df cJ5_init_d00df 2 (Option.none : Option Jvm.ClassFile.FieldType)) rm2_J5_init_d00df S [.ref a0, .int a1] o := ct_of (by decide +kernel) hls (Nat.le_of_ble_eq_true rfl) (fun C hl hC hE => t2_J5_init_d00df hls hC hl hE h)
abbrev rm2_J4_init_da8c8 : Room := { frames := 11, cells := 1, slots := 32, locals := 211 }
def f2_J4_init_da8c8 (S : mS) (a0 : Nat) : Option (Rs Unit) :=
  gd (gK S a0 = 2) (bd (f2_J5_init_d00df S a0 (16 : Int32)) fun _ S3 => some (.inl (), S3))
set_option maxHeartbeats 2000000 in
set_option maxRecDepth 100000 in
theorem t2_J4_init_da8c8 {l : Launch} (hls : l.stackTraces = false) {C : cT} (hC : CX C cJ4_init_da8c8 1 yJ4_init_da8c8 rm2_J4_init_da8c8) (hl : C.2.1 = l) {S0 : mS} (hE : CE C S0 (Option.none : Option Jvm.ClassFile.FieldType) []) {o : Rs Unit} {S : mS} {a0 : Nat} (h : f2_J4_init_da8c8 S a0 = some o) : XX C 1 (QQ C (fun _ : Unit => none) S0 o) 0 0 S 0 [(0, .ref a0)] [] := by
  unfold f2_J4_init_da8c8 at h
  refine x_aload_n (pc := 0) hC 0 dJ4_init_da8c8_0 rfl rfl ?_
  refine x_bipush (pc := 1) (v := (16 : Int32)) hC dJ4_init_da8c8_1 (by decide) ?_
  obtain ⟨g1, h⟩ := gd_some h
  obtain ⟨o4, ho4, h⟩ := bd_some h
  refine x_callI (pc := 3) (As := [.int (16 : Int32)]) (rest := []) hC hl (c2_J5_init_d00df l hls ho4) lk_RJ4_1 (by rw [g1]; decide) dJ4_init_da8c8_3 rfl rfl (Nat.le_of_ble_eq_true rfl) ⟨Nat.le_of_ble_eq_true rfl, Nat.le_of_ble_eq_true rfl⟩ ⟨(Nat.le_of_ble_eq_true rfl), (Nat.le_of_ble_eq_true rfl)⟩ ?_
  rcases o4 with ⟨_ | E5, S3⟩
  · refine xk_v ?_
    replace h := bk_l h
    exact x_vreturn (pc := 6) hC hE dJ4_init_da8c8_6 (so h) (Nat.le_of_ble_eq_true rfl) (Nat.le_of_ble_eq_true rfl)
  · exact xk_r (xt_out hC hE (bk_r h) (Nat.le_of_ble_eq_true rfl) (Nat.le_of_ble_eq_true rfl))
theorem c2_J4_init_da8c8 (l : Launch) (hls : l.stackTraces = false) {S : mS} {a0 : Nat} {o : Rs Unit} (h : f2_J4_init_da8c8 S a0 = some o) : CT (fun _ : Unit => none) l yJ4_init_da8c8 (.code yJ4_init_da8c8 cJ4_init_da8c8 1 (Option.none : Option Jvm.ClassFile.FieldType)) rm2_J4_init_da8c8 S [.ref a0] o := ct_of (by decide +kernel) hls (Nat.le_of_ble_eq_true rfl) (fun C hl hC hE => t2_J4_init_da8c8 hls hC hl hE h)
abbrev rm2_J2_coderFromArrayLen_85cad : Room := { frames := 8, cells := 0, slots := 0, locals := 150 }
def f2_J2_coderFromArrayLen_85cad (S : mS) (a0 : Nat) (a1 : Int32) : Option (Rs Int32) :=
  gd ((a0 < KB ∧ gK S a0 = 33) ∨ (KB + 10 ≤ a0 ∧ a0 < KB + 13)) (lt9 (Int32.ofNat (zb S a0)) fun x2 => lt9 (a1 - x2) fun x3 => none)
set_option maxHeartbeats 2000000 in
set_option maxRecDepth 100000 in
theorem t2_J2_coderFromArrayLen_85cad {l : Launch} (hls : l.stackTraces = false) {C : cT} (hC : CX C cJ2_coderFromArrayLen_85cad 2 yJ2_coderFromArrayLen_85cad rm2_J2_coderFromArrayLen_85cad) (hl : C.2.1 = l) {S0 : mS} (hE : CE C S0 (Option.some Jvm.ClassFile.FieldType.byte) []) {o : Rs Int32} {S : mS} {a0 : Nat} {a1 : Int32} (h : f2_J2_coderFromArrayLen_85cad S a0 a1 = some o) : XX C 2 (QQ C (fun r : Int32 => some (.int r)) S0 o) 0 0 S 0 [(0, .ref a0), (1, .int a1)] [] := by
  unfold f2_J2_coderFromArrayLen_85cad at h
  refine x_iload_n (pc := 0) hC 1 dJ2_coderFromArrayLen_85cad_0 rfl rfl ?_
  refine x_aload_n (pc := 1) hC 0 dJ2_coderFromArrayLen_85cad_1 rfl rfl ?_
  obtain ⟨g1, h⟩ := gd_some h
  refine x_alenB (pc := 2) hC dJ2_coderFromArrayLen_85cad_2 g1 (fun x2 hx2 => ?_)
  replace h := lt_x hx2 h
  refine x_isubv (pc := 3) hC dJ2_coderFromArrayLen_85cad_3 (fun x3 hx3 => ?_)
  replace h := lt_x hx3 h
  refine x_bipush (pc := 4) (v := (31 : Int32)) hC dJ2_coderFromArrayLen_85cad_4 (by decide) ?_
  cases h
theorem c2_J2_coderFromArrayLen_85cad (l : Launch) (hls : l.stackTraces = false) {S : mS} {a0 : Nat} {a1 : Int32} {o : Rs Int32} (h : f2_J2_coderFromArrayLen_85cad S a0 a1 = some o) : CT (fun r : Int32 => some (.int r)) l yJ2_coderFromArrayLen_85cad (.code yJ2_coderFromArrayLen_85cad cJ2_coderFromArrayLen_85cad 2 (Option.some Jvm.ClassFile.FieldType.byte)) rm2_J2_coderFromArrayLen_85cad S [.ref a0, .int a1] o := ct_of (by decide +kernel) hls (Nat.le_of_ble_eq_true rfl) (fun C hl hC hE => t2_J2_coderFromArrayLen_85cad hls hC hl hE h)
abbrev rm2_J2_compress_5af95 : Room := { frames := 11, cells := 0, slots := 0, locals := 217 }
def f2_J2_compress_5af95_10  : Nat → mS → Nat → Int32 → Nat → Int32 → Int32 → Int32 → Option (Rs Int32)
  | 0, _, _, _, _, _, _, _ => none
  | k + 1, S, a0, a1, a2, a3, a4, a5 => if a4 ≤ a5 then (some (.inl a4, S)) else (bd (f2_J2_getChar_3b067 S a0 a1) fun x1 S2 => if x1 ≤ (255 : Int32) then (lt9 ((x1).toInt8.toInt32) fun x5 => gd (gK S2 a2 = 33) (gd (¬ (a3 < 0 ∨ gZ S2 a2 ≤ (a3).toNatClampNeg)) (gd (x5.toInt8.toInt32 = x5) (zI (sI S2 a2 (a3).toNatClampNeg x5) fun S8 => lt9 (a1 + Int32.ofInt (1)) fun x11 => lt9 (a3 + Int32.ofInt (1)) fun x12 => lt9 (a5 + Int32.ofInt (1)) fun x13 => f2_J2_compress_5af95_10 k S8 a0 x11 a2 x12 a4 x13)))) else (some (.inl a5, S2)))
set_option maxHeartbeats 2000000 in
set_option maxRecDepth 100000 in
theorem t2_J2_compress_5af95_10 {l : Launch} (hls : l.stackTraces = false) {C : cT} (hC : CX C cJ2_compress_5af95 7 yJ2_compress_5af95 rm2_J2_compress_5af95) (hl : C.2.1 = l) {S0 : mS} (hE : CE C S0 (Option.some Jvm.ClassFile.FieldType.int) []) {o : Rs Int32} : ∀ (k : Nat) (S : mS) (a0 : Nat) (a1 : Int32) (a2 : Nat) (a3 : Int32) (a4 : Int32) (a5 : Int32), f2_J2_compress_5af95_10  k S a0 a1 a2 a3 a4 a5 = some o → XX C 7 (QQ C (fun r : Int32 => some (.int r)) S0 o) (0) (0) S 10 [(0, .ref a0), (1, .int a1), (2, .ref a2), (3, .int a3), (4, .int a4), (5, .int a5)] [] := by
  intro k
  induction k with
  | zero => intro S a0 a1 a2 a3 a4 a5 h; cases h
  | succ k ih =>
    intro S a0 a1 a2 a3 a4 a5 h
    unfold f2_J2_compress_5af95_10 at h
    refine x_iload (pc := 10) hC 5 dJ2_compress_5af95_10 rfl ?_
    refine x_iload (pc := 12) hC 4 dJ2_compress_5af95_12 rfl ?_
    refine x_icmp_ge (pc := 14) hC 53 dJ2_compress_5af95_14 (by decide) (fun c15 => ?_) (fun c15 => ?_)
    · rw [if_pos c15] at h
      refine x_iload (pc := 53) hC 4 dJ2_compress_5af95_53 rfl ?_
      exact x_ireturn (pc := 55) hC hE dJ2_compress_5af95_55 (so h) (Nat.le_of_ble_eq_true rfl) (Nat.le_of_ble_eq_true rfl)
    · rw [if_neg c15] at h
      refine x_aload_n (pc := 17) hC 0 dJ2_compress_5af95_17 rfl rfl ?_
      refine x_iload_n (pc := 18) hC 1 dJ2_compress_5af95_18 rfl rfl ?_
      obtain ⟨o3, ho3, h⟩ := bd_some h
      refine x_callS (pc := 19) (As := [.ref a0, .int a1]) (rest := []) hC hl (c2_J2_getChar_3b067 l hls ho3) lk_RJ2_71 dJ2_compress_5af95_19 rfl rfl (Nat.le_of_ble_eq_true rfl) ⟨Nat.le_of_ble_eq_true rfl, Nat.le_of_ble_eq_true rfl⟩ ⟨(Nat.le_of_ble_eq_true rfl), (Nat.le_of_ble_eq_true rfl)⟩ ?_
      rcases o3 with ⟨x1 | E4, S2⟩
      · refine xk_i ?_
        replace h := bk_l h
        refine x_istore (pc := 22) hC dJ2_compress_5af95_22 (by decide) (by decide) rfl ?_
        refine x_iload (pc := 24) hC 0 dJ2_compress_5af95_24 rfl ?_
        refine x_sipush (pc := 26) (v := (255 : Int32)) hC dJ2_compress_5af95_26 (by decide) ?_
        refine x_icmp_le (pc := 29) hC 35 dJ2_compress_5af95_29 (by decide) (fun c14 => ?_) (fun c14 => ?_)
        · rw [if_pos c14] at h
          refine x_aload_n (pc := 35) hC 3 dJ2_compress_5af95_35 rfl rfl ?_
          refine x_iload_n (pc := 36) hC 4 dJ2_compress_5af95_36 rfl rfl ?_
          refine x_iload (pc := 37) hC 0 dJ2_compress_5af95_37 rfl ?_
          refine x_i2bv (pc := 39) hC dJ2_compress_5af95_39 (fun x5 hx5 => ?_)
          replace h := lt_x hx5 h
          obtain ⟨g7, h⟩ := gd_some h
          obtain ⟨g6, h⟩ := gd_some h
          obtain ⟨g9, h⟩ := gd_some h
          refine x_yastv (pc := 40) hC dJ2_compress_5af95_40 (nf_Y g9).1 g7 g6 (fun S8 hS8 => ?_)
          replace h := zI_x hS8 h
          have g10 : gK S8 a2 = 33 := by rw [hS8]; exact g7
          obtain ⟨x11, hx11⟩ : ∃ z, z = (a1 + Int32.ofInt (1)) := ⟨_, rfl⟩
          replace h := lt_x hx11 h
          refine x_iinc (pc := 41) hC 2 dJ2_compress_5af95_41 rfl hx11.symm (by decide) (by decide) rfl ?_
          obtain ⟨x12, hx12⟩ : ∃ z, z = (a3 + Int32.ofInt (1)) := ⟨_, rfl⟩
          replace h := lt_x hx12 h
          refine x_iinc (pc := 44) hC 4 dJ2_compress_5af95_44 rfl hx12.symm (by decide) (by decide) rfl ?_
          obtain ⟨x13, hx13⟩ : ∃ z, z = (a5 + Int32.ofInt (1)) := ⟨_, rfl⟩
          replace h := lt_x hx13 h
          refine x_iinc (pc := 47) hC 6 dJ2_compress_5af95_47 rfl hx13.symm (by decide) (by decide) rfl ?_
          refine x_goto (pc := 50) hC 10 dJ2_compress_5af95_50 (by decide) ?_
          refine x_pick [4, 2, 5, 1, 6, 0] rfl ?_
          exact ih _ _ _ _ _ _ _ h
        · rw [if_neg c14] at h
          refine x_iload (pc := 32) hC 6 dJ2_compress_5af95_32 rfl ?_
          exact x_ireturn (pc := 34) hC hE dJ2_compress_5af95_34 (so h) (Nat.le_of_ble_eq_true rfl) (Nat.le_of_ble_eq_true rfl)
      · exact xk_r (xt_out hC hE (bk_r h) (Nat.le_of_ble_eq_true rfl) (Nat.le_of_ble_eq_true rfl))
def f2_J2_compress_5af95 (S : mS) (a0 : Nat) (a1 : Int32) (a2 : Nat) (a3 : Int32) (a4 : Int32) : Option (Rs Int32) :=
  bd (f2_J2_checkBoundsOffCount_d044e S a1 a4 a0) fun _ S2 => f2_J2_compress_5af95_10  16 S2 a0 a1 a2 a3 a4 (0 : Int32)
set_option maxHeartbeats 2000000 in
set_option maxRecDepth 100000 in
theorem t2_J2_compress_5af95 {l : Launch} (hls : l.stackTraces = false) {C : cT} (hC : CX C cJ2_compress_5af95 7 yJ2_compress_5af95 rm2_J2_compress_5af95) (hl : C.2.1 = l) {S0 : mS} (hE : CE C S0 (Option.some Jvm.ClassFile.FieldType.int) []) {o : Rs Int32} {S : mS} {a0 : Nat} {a1 : Int32} {a2 : Nat} {a3 : Int32} {a4 : Int32} (h : f2_J2_compress_5af95 S a0 a1 a2 a3 a4 = some o) : XX C 7 (QQ C (fun r : Int32 => some (.int r)) S0 o) 0 0 S 0 [(0, .ref a0), (1, .int a1), (2, .ref a2), (3, .int a3), (4, .int a4)] [] := by
  unfold f2_J2_compress_5af95 at h
  refine x_iload_n (pc := 0) hC 1 dJ2_compress_5af95_0 rfl rfl ?_
  refine x_iload (pc := 1) hC 4 dJ2_compress_5af95_1 rfl ?_
  refine x_aload_n (pc := 3) hC 0 dJ2_compress_5af95_3 rfl rfl ?_
  obtain ⟨o3, ho3, h⟩ := bd_some h
  refine x_callS (pc := 4) (As := [.int a1, .int a4, .ref a0]) (rest := []) hC hl (c2_J2_checkBoundsOffCount_d044e l hls ho3) lk_RJ2_173 dJ2_compress_5af95_4 rfl rfl (Nat.le_of_ble_eq_true rfl) ⟨Nat.le_of_ble_eq_true rfl, Nat.le_of_ble_eq_true rfl⟩ ⟨(Nat.le_of_ble_eq_true rfl), (Nat.le_of_ble_eq_true rfl)⟩ ?_
  rcases o3 with ⟨_ | E4, S2⟩
  · refine xk_v ?_
    replace h := bk_l h
    refine x_iconst (pc := 7) (v := (0 : Int32)) hC dJ2_compress_5af95_7 (by decide) ?_
    refine x_istore (pc := 8) hC dJ2_compress_5af95_8 (by decide) (by decide) rfl ?_
    refine x_pick [1, 2, 3, 4, 5, 0] rfl ?_
    exact t2_J2_compress_5af95_10 hls hC hl hE 16 _ _ _ _ _ _ _ h
  · exact xk_r (xt_out hC hE (bk_r h) (Nat.le_of_ble_eq_true rfl) (Nat.le_of_ble_eq_true rfl))
theorem c2_J2_compress_5af95 (l : Launch) (hls : l.stackTraces = false) {S : mS} {a0 : Nat} {a1 : Int32} {a2 : Nat} {a3 : Int32} {a4 : Int32} {o : Rs Int32} (h : f2_J2_compress_5af95 S a0 a1 a2 a3 a4 = some o) : CT (fun r : Int32 => some (.int r)) l yJ2_compress_5af95 (.code yJ2_compress_5af95 cJ2_compress_5af95 7 (Option.some Jvm.ClassFile.FieldType.int)) rm2_J2_compress_5af95 S [.ref a0, .int a1, .ref a2, .int a3, .int a4] o := ct_of (by decide +kernel) hls (Nat.le_of_ble_eq_true rfl) (fun C hl hC hE => t2_J2_compress_5af95 hls hC hl hE h)
abbrev rm2_J7_checkLength_df160 : Room := { frames := 8, cells := 0, slots := 0, locals := 150 }
def f2_J7_checkLength_df160 (S : mS) (a0 : Int32) (a1 : Int32) : Option (Rs Unit) :=
  if a0 ≤ a1 then (some (.inl (), S)) else (none)
set_option maxHeartbeats 2000000 in
set_option maxRecDepth 100000 in
theorem t2_J7_checkLength_df160 {l : Launch} (hls : l.stackTraces = false) {C : cT} (hC : CX C cJ7_checkLength_df160 2 yJ7_checkLength_df160 rm2_J7_checkLength_df160) (hl : C.2.1 = l) {S0 : mS} (hE : CE C S0 (Option.none : Option Jvm.ClassFile.FieldType) []) {o : Rs Unit} {S : mS} {a0 : Int32} {a1 : Int32} (h : f2_J7_checkLength_df160 S a0 a1 = some o) : XX C 2 (QQ C (fun _ : Unit => none) S0 o) 0 0 S 0 [(0, .int a0), (1, .int a1)] [] := by
  unfold f2_J7_checkLength_df160 at h
  refine x_iload_n (pc := 0) hC 1 dJ7_checkLength_df160_0 rfl rfl ?_
  refine x_iload_n (pc := 1) hC 0 dJ7_checkLength_df160_1 rfl rfl ?_
  refine x_icmp_ge (pc := 2) hC 37 dJ7_checkLength_df160_2 (by decide) (fun c1 => ?_) (fun c1 => ?_)
  · rw [if_pos c1] at h
    exact x_vreturn (pc := 37) hC hE dJ7_checkLength_df160_37 (so h) (Nat.le_of_ble_eq_true rfl) (Nat.le_of_ble_eq_true rfl)
  · rw [if_neg c1] at h
    cases h
theorem c2_J7_checkLength_df160 (l : Launch) (hls : l.stackTraces = false) {S : mS} {a0 : Int32} {a1 : Int32} {o : Rs Unit} (h : f2_J7_checkLength_df160 S a0 a1 = some o) : CT (fun _ : Unit => none) l yJ7_checkLength_df160 (.code yJ7_checkLength_df160 cJ7_checkLength_df160 2 (Option.none : Option Jvm.ClassFile.FieldType)) rm2_J7_checkLength_df160 S [.int a0, .int a1] o := ct_of (by decide +kernel) hls (Nat.le_of_ble_eq_true rfl) (fun C hl hC hE => t2_J7_checkLength_df160 hls hC hl hE h)
abbrev rm2_J7_copyOfRangeByte_39247 : Room := { frames := 9, cells := 1, slots := 2, locals := 171 }
def f2_J7_copyOfRangeByte_39247 (S : mS) (a0 : Nat) (a1 : Int32) (a2 : Int32) : Option (Rs Nat) :=
  bd (f2_J7_checkLength_df160 S a1 a2) fun _ S2 => lt9 (a2 - a1) fun x5 => if x5 = (1 : Int32) then (gd (gN S2 + 1 < KB) (zW (sW S2 33 1) fun S11 => lt9 (gN S2 + 1) fun r12 => gd ((a0 < KB ∧ gK S11 a0 = 33) ∨ (KB + 10 ≤ a0 ∧ a0 < KB + 13)) (lt9 (Int32.ofNat (zb S11 a0)) fun x15 => lt9 (x15 - a1) fun x16 => lt9 (if x5 < x16 then x5 else x16) fun x17 => if x17 = (0 : Int32) then (gd (KB + 10 ≤ a0 ∧ a0 < KB + 13) (gd (gK S11 r12 = 33) (gd (a1 = 0) (gd (¬ ((0 : Int32) < 0 ∨ gZ S11 r12 ≤ ((0 : Int32)).toNatClampNeg)) (some (.inl r12, S11)))))) else if x17 = (1 : Int32) then (gd (gK S11 a0 = 33) (gd (gK S11 r12 = 33) (gd (a1 = 0) (gd ((0 : Int32) = 0) (gd (¬ ((0 : Int32) < 0 ∨ gZ S11 a0 ≤ ((0 : Int32)).toNatClampNeg)) (gd (¬ ((0 : Int32) < 0 ∨ gZ S11 r12 ≤ ((0 : Int32)).toNatClampNeg)) (lt9 (gI S11 a0 ((0 : Int32)).toNatClampNeg) fun x32 => gd (x32.toInt8.toInt32 = x32) (zI (sI S11 r12 ((0 : Int32)).toNatClampNeg x32) fun S34 => some (.inl r12, S34))))))))) else if x17 = (2 : Int32) then (gd (gK S11 a0 = 33) (gd (gK S11 r12 = 33) (gd (a1 = 0) (gd ((0 : Int32) = 0) (gd (¬ ((1 : Int32) < 0 ∨ gZ S11 a0 ≤ ((1 : Int32)).toNatClampNeg)) (gd (¬ ((1 : Int32) < 0 ∨ gZ S11 r12 ≤ ((1 : Int32)).toNatClampNeg)) (lt9 (gI S11 a0 ((0 : Int32)).toNatClampNeg) fun x45 => gd (x45.toInt8.toInt32 = x45) (lt9 (gI S11 a0 ((1 : Int32)).toNatClampNeg) fun x46 => gd (x46.toInt8.toInt32 = x46) (zI (sI S11 r12 ((0 : Int32)).toNatClampNeg x45) fun S47 => zI (sI S47 r12 ((1 : Int32)).toNatClampNeg x46) fun S48 => some (.inl r12, S48)))))))))) else none))) else if x5 = (2 : Int32) then (gd (gN S2 + 1 < KB) (zW (sW S2 33 2) fun S51 => lt9 (gN S2 + 1) fun r52 => gd ((a0 < KB ∧ gK S51 a0 = 33) ∨ (KB + 10 ≤ a0 ∧ a0 < KB + 13)) (lt9 (Int32.ofNat (zb S51 a0)) fun x55 => lt9 (x55 - a1) fun x56 => lt9 (if x5 < x56 then x5 else x56) fun x57 => if x57 = (0 : Int32) then (gd (KB + 10 ≤ a0 ∧ a0 < KB + 13) (gd (gK S51 r52 = 33) (gd (a1 = 0) (gd (¬ ((0 : Int32) < 0 ∨ gZ S51 r52 ≤ ((0 : Int32)).toNatClampNeg)) (some (.inl r52, S51)))))) else if x57 = (1 : Int32) then (gd (gK S51 a0 = 33) (gd (gK S51 r52 = 33) (gd (a1 = 0) (gd ((0 : Int32) = 0) (gd (¬ ((0 : Int32) < 0 ∨ gZ S51 a0 ≤ ((0 : Int32)).toNatClampNeg)) (gd (¬ ((0 : Int32) < 0 ∨ gZ S51 r52 ≤ ((0 : Int32)).toNatClampNeg)) (lt9 (gI S51 a0 ((0 : Int32)).toNatClampNeg) fun x72 => gd (x72.toInt8.toInt32 = x72) (zI (sI S51 r52 ((0 : Int32)).toNatClampNeg x72) fun S74 => some (.inl r52, S74))))))))) else if x57 = (2 : Int32) then (gd (gK S51 a0 = 33) (gd (gK S51 r52 = 33) (gd (a1 = 0) (gd ((0 : Int32) = 0) (gd (¬ ((1 : Int32) < 0 ∨ gZ S51 a0 ≤ ((1 : Int32)).toNatClampNeg)) (gd (¬ ((1 : Int32) < 0 ∨ gZ S51 r52 ≤ ((1 : Int32)).toNatClampNeg)) (lt9 (gI S51 a0 ((0 : Int32)).toNatClampNeg) fun x85 => gd (x85.toInt8.toInt32 = x85) (lt9 (gI S51 a0 ((1 : Int32)).toNatClampNeg) fun x86 => gd (x86.toInt8.toInt32 = x86) (zI (sI S51 r52 ((0 : Int32)).toNatClampNeg x85) fun S87 => zI (sI S87 r52 ((1 : Int32)).toNatClampNeg x86) fun S88 => some (.inl r52, S88)))))))))) else none))) else none
set_option maxHeartbeats 2000000 in
set_option maxRecDepth 100000 in
theorem t2_J7_copyOfRangeByte_39247 {l : Launch} (hls : l.stackTraces = false) {C : cT} (hC : CX C cJ7_copyOfRangeByte_39247 5 yJ7_copyOfRangeByte_39247 rm2_J7_copyOfRangeByte_39247) (hl : C.2.1 = l) {S0 : mS} (hE : CE C S0 (Option.some (Jvm.ClassFile.FieldType.array Jvm.ClassFile.FieldType.byte)) []) {o : Rs Nat} {S : mS} {a0 : Nat} {a1 : Int32} {a2 : Int32} (h : f2_J7_copyOfRangeByte_39247 S a0 a1 a2 = some o) : XX C 5 (QQ C (fun r : Nat => some (.ref r)) S0 o) 0 0 S 0 [(0, .ref a0), (1, .int a1), (2, .int a2)] [] := by
  unfold f2_J7_copyOfRangeByte_39247 at h
  refine x_iload_n (pc := 0) hC 1 dJ7_copyOfRangeByte_39247_0 rfl rfl ?_
  refine x_iload_n (pc := 1) hC 2 dJ7_copyOfRangeByte_39247_1 rfl rfl ?_
  obtain ⟨o3, ho3, h⟩ := bd_some h
  refine x_callS (pc := 2) (As := [.int a1, .int a2]) (rest := []) hC hl (c2_J7_checkLength_df160 l hls ho3) lk_RJ7_343 dJ7_copyOfRangeByte_39247_2 rfl rfl (Nat.le_of_ble_eq_true rfl) ⟨Nat.le_of_ble_eq_true rfl, Nat.le_of_ble_eq_true rfl⟩ ⟨(Nat.le_of_ble_eq_true rfl), (Nat.le_of_ble_eq_true rfl)⟩ ?_
  rcases o3 with ⟨_ | E4, S2⟩
  · refine xk_v ?_
    replace h := bk_l h
    refine x_iload_n (pc := 5) hC 2 dJ7_copyOfRangeByte_39247_5 rfl rfl ?_
    refine x_iload_n (pc := 6) hC 1 dJ7_copyOfRangeByte_39247_6 rfl rfl ?_
    refine x_isubv (pc := 7) hC dJ7_copyOfRangeByte_39247_7 (fun x5 hx5 => ?_)
    replace h := lt_x hx5 h
    refine x_istore_n (pc := 8) hC dJ7_copyOfRangeByte_39247_8 rfl (by decide) (by decide) rfl ?_
    refine x_iload_n (pc := 9) hC 0 dJ7_copyOfRangeByte_39247_9 rfl rfl ?_
    by_cases c9 : x5 = (1 : Int32)
    · rw [if_pos c9] at h
      obtain ⟨g10, h⟩ := gd_some h
      refine x_newaYv (pc := 10) (z := 1) hC wm_971 dJ7_copyOfRangeByte_39247_10 (by rw [c9]; decide) (by rw [c9]; decide) (Nat.le_of_ble_eq_true rfl) g10 (Nat.le_of_ble_eq_true rfl) (Nat.le_of_ble_eq_true rfl) (fun S11 r12 hS11 hr12 => ?_)
      replace h := zW_x hS11 h
      replace h := lt_x hr12 h
      have g13 : gK S11 r12 = 33 := by rw [hr12, hS11]; exact sW_K
      refine x_astore (pc := 12) hC dJ7_copyOfRangeByte_39247_12 (by decide) (by decide) rfl ?_
      refine x_aload_n (pc := 14) hC 2 dJ7_copyOfRangeByte_39247_14 rfl rfl ?_
      refine x_iload_n (pc := 15) hC 3 dJ7_copyOfRangeByte_39247_15 rfl rfl ?_
      refine x_aload (pc := 16) hC 0 dJ7_copyOfRangeByte_39247_16 rfl ?_
      refine x_iconst (pc := 18) (v := (0 : Int32)) hC dJ7_copyOfRangeByte_39247_18 (by decide) ?_
      refine x_aload_n (pc := 19) hC 2 dJ7_copyOfRangeByte_39247_19 rfl rfl ?_
      obtain ⟨g14, h⟩ := gd_some h
      refine x_alenB (pc := 20) hC dJ7_copyOfRangeByte_39247_20 g14 (fun x15 hx15 => ?_)
      replace h := lt_x hx15 h
      refine x_iload_n (pc := 21) hC 3 dJ7_copyOfRangeByte_39247_21 rfl rfl ?_
      refine x_isubv (pc := 22) hC dJ7_copyOfRangeByte_39247_22 (fun x16 hx16 => ?_)
      replace h := lt_x hx16 h
      refine x_iload_n (pc := 23) hC 1 dJ7_copyOfRangeByte_39247_23 rfl rfl ?_
      refine x_mmin (pc := 24) hC wm_1849 wm_598 wm_69 wm_599 dJ7_copyOfRangeByte_39247_24 (Nat.le_of_ble_eq_true rfl) (Nat.le_of_ble_eq_true rfl) (Nat.le_of_ble_eq_true rfl) (Nat.le_of_ble_eq_true rfl) (fun x17 hx17 => ?_)
      replace h := lt_x hx17 h
      by_cases c18 : x17 = (0 : Int32)
      · rw [if_pos c18] at h
        obtain ⟨g19, h⟩ := gd_some h
        obtain ⟨g20, h⟩ := gd_some h
        obtain ⟨g21, h⟩ := gd_some h
        obtain ⟨g22, h⟩ := gd_some h
        refine x_copyK (pc := 27) hC ln_RJ7_150 dJ7_copyOfRangeByte_39247_27 g19 g20 g21 c18 g22 (Nat.le_of_ble_eq_true rfl) (Nat.le_of_ble_eq_true rfl) ?_
        refine x_aload (pc := 30) hC 0 dJ7_copyOfRangeByte_39247_30 rfl ?_
        exact x_areturn (pc := 32) hC hE (Or.inr ⟨_, rfl⟩) dJ7_copyOfRangeByte_39247_32 (so h) (Nat.le_of_ble_eq_true rfl) (Nat.le_of_ble_eq_true rfl)
      rw [if_neg c18] at h
      by_cases c23 : x17 = (1 : Int32)
      · rw [if_pos c23] at h
        obtain ⟨g24, h⟩ := gd_some h
        obtain ⟨g25, h⟩ := gd_some h
        obtain ⟨g26, h⟩ := gd_some h
        obtain ⟨g27, h⟩ := gd_some h
        obtain ⟨g28, h⟩ := gd_some h
        obtain ⟨g29, h⟩ := gd_some h
        obtain ⟨x32, hx32⟩ : ∃ z, z = gI S11 a0 ((0 : Int32)).toNatClampNeg := ⟨_, rfl⟩
        replace h := lt_x hx32 h
        obtain ⟨g30, h⟩ := gd_some h
        refine x_copyY1 (pc := 27) hC ln_RJ7_150 dJ7_copyOfRangeByte_39247_27 g24 g25 g26 g27 c23 g28 g29 hx32 g30 (Nat.le_of_ble_eq_true rfl) (Nat.le_of_ble_eq_true rfl) (fun S34 hS34 => ?_)
        replace h := zI_x hS34 h
        refine x_aload (pc := 30) hC 0 dJ7_copyOfRangeByte_39247_30 rfl ?_
        exact x_areturn (pc := 32) hC hE (Or.inr ⟨_, rfl⟩) dJ7_copyOfRangeByte_39247_32 (so h) (Nat.le_of_ble_eq_true rfl) (Nat.le_of_ble_eq_true rfl)
      rw [if_neg c23] at h
      by_cases c36 : x17 = (2 : Int32)
      · rw [if_pos c36] at h
        obtain ⟨g37, h⟩ := gd_some h
        obtain ⟨g38, h⟩ := gd_some h
        obtain ⟨g39, h⟩ := gd_some h
        obtain ⟨g40, h⟩ := gd_some h
        obtain ⟨g41, h⟩ := gd_some h
        obtain ⟨g42, h⟩ := gd_some h
        obtain ⟨x45, hx45⟩ : ∃ z, z = gI S11 a0 ((0 : Int32)).toNatClampNeg := ⟨_, rfl⟩
        replace h := lt_x hx45 h
        obtain ⟨g43, h⟩ := gd_some h
        obtain ⟨x46, hx46⟩ : ∃ z, z = gI S11 a0 ((1 : Int32)).toNatClampNeg := ⟨_, rfl⟩
        replace h := lt_x hx46 h
        obtain ⟨g44, h⟩ := gd_some h
        obtain ⟨S47, hS47⟩ : ∃ z, z = sI S11 r12 ((0 : Int32)).toNatClampNeg x45 := ⟨_, rfl⟩
        replace h := zI_x hS47 h
        refine x_copyY2 (pc := 27) hC ln_RJ7_150 dJ7_copyOfRangeByte_39247_27 g37 g38 g39 g40 c36 g41 g42 hx45 g43 hx46 g44 (Nat.le_of_ble_eq_true rfl) (Nat.le_of_ble_eq_true rfl) (fun S48 hS48 => ?_)
        rw [← hS47] at hS48
        replace h := zI_x hS48 h
        refine x_aload (pc := 30) hC 0 dJ7_copyOfRangeByte_39247_30 rfl ?_
        exact x_areturn (pc := 32) hC hE (Or.inr ⟨_, rfl⟩) dJ7_copyOfRangeByte_39247_32 (so h) (Nat.le_of_ble_eq_true rfl) (Nat.le_of_ble_eq_true rfl)
      rw [if_neg c36] at h
      cases h
    rw [if_neg c9] at h
    by_cases c49 : x5 = (2 : Int32)
    · rw [if_pos c49] at h
      obtain ⟨g50, h⟩ := gd_some h
      refine x_newaYv (pc := 10) (z := 2) hC wm_971 dJ7_copyOfRangeByte_39247_10 (by rw [c49]; decide) (by rw [c49]; decide) (Nat.le_of_ble_eq_true rfl) g50 (Nat.le_of_ble_eq_true rfl) (Nat.le_of_ble_eq_true rfl) (fun S51 r52 hS51 hr52 => ?_)
      replace h := zW_x hS51 h
      replace h := lt_x hr52 h
      have g53 : gK S51 r52 = 33 := by rw [hr52, hS51]; exact sW_K
      refine x_astore (pc := 12) hC dJ7_copyOfRangeByte_39247_12 (by decide) (by decide) rfl ?_
      refine x_aload_n (pc := 14) hC 2 dJ7_copyOfRangeByte_39247_14 rfl rfl ?_
      refine x_iload_n (pc := 15) hC 3 dJ7_copyOfRangeByte_39247_15 rfl rfl ?_
      refine x_aload (pc := 16) hC 0 dJ7_copyOfRangeByte_39247_16 rfl ?_
      refine x_iconst (pc := 18) (v := (0 : Int32)) hC dJ7_copyOfRangeByte_39247_18 (by decide) ?_
      refine x_aload_n (pc := 19) hC 2 dJ7_copyOfRangeByte_39247_19 rfl rfl ?_
      obtain ⟨g54, h⟩ := gd_some h
      refine x_alenB (pc := 20) hC dJ7_copyOfRangeByte_39247_20 g54 (fun x55 hx55 => ?_)
      replace h := lt_x hx55 h
      refine x_iload_n (pc := 21) hC 3 dJ7_copyOfRangeByte_39247_21 rfl rfl ?_
      refine x_isubv (pc := 22) hC dJ7_copyOfRangeByte_39247_22 (fun x56 hx56 => ?_)
      replace h := lt_x hx56 h
      refine x_iload_n (pc := 23) hC 1 dJ7_copyOfRangeByte_39247_23 rfl rfl ?_
      refine x_mmin (pc := 24) hC wm_1849 wm_598 wm_69 wm_599 dJ7_copyOfRangeByte_39247_24 (Nat.le_of_ble_eq_true rfl) (Nat.le_of_ble_eq_true rfl) (Nat.le_of_ble_eq_true rfl) (Nat.le_of_ble_eq_true rfl) (fun x57 hx57 => ?_)
      replace h := lt_x hx57 h
      by_cases c58 : x57 = (0 : Int32)
      · rw [if_pos c58] at h
        obtain ⟨g59, h⟩ := gd_some h
        obtain ⟨g60, h⟩ := gd_some h
        obtain ⟨g61, h⟩ := gd_some h
        obtain ⟨g62, h⟩ := gd_some h
        refine x_copyK (pc := 27) hC ln_RJ7_150 dJ7_copyOfRangeByte_39247_27 g59 g60 g61 c58 g62 (Nat.le_of_ble_eq_true rfl) (Nat.le_of_ble_eq_true rfl) ?_
        refine x_aload (pc := 30) hC 0 dJ7_copyOfRangeByte_39247_30 rfl ?_
        exact x_areturn (pc := 32) hC hE (Or.inr ⟨_, rfl⟩) dJ7_copyOfRangeByte_39247_32 (so h) (Nat.le_of_ble_eq_true rfl) (Nat.le_of_ble_eq_true rfl)
      rw [if_neg c58] at h
      by_cases c63 : x57 = (1 : Int32)
      · rw [if_pos c63] at h
        obtain ⟨g64, h⟩ := gd_some h
        obtain ⟨g65, h⟩ := gd_some h
        obtain ⟨g66, h⟩ := gd_some h
        obtain ⟨g67, h⟩ := gd_some h
        obtain ⟨g68, h⟩ := gd_some h
        obtain ⟨g69, h⟩ := gd_some h
        obtain ⟨x72, hx72⟩ : ∃ z, z = gI S51 a0 ((0 : Int32)).toNatClampNeg := ⟨_, rfl⟩
        replace h := lt_x hx72 h
        obtain ⟨g70, h⟩ := gd_some h
        refine x_copyY1 (pc := 27) hC ln_RJ7_150 dJ7_copyOfRangeByte_39247_27 g64 g65 g66 g67 c63 g68 g69 hx72 g70 (Nat.le_of_ble_eq_true rfl) (Nat.le_of_ble_eq_true rfl) (fun S74 hS74 => ?_)
        replace h := zI_x hS74 h
        refine x_aload (pc := 30) hC 0 dJ7_copyOfRangeByte_39247_30 rfl ?_
        exact x_areturn (pc := 32) hC hE (Or.inr ⟨_, rfl⟩) dJ7_copyOfRangeByte_39247_32 (so h) (Nat.le_of_ble_eq_true rfl) (Nat.le_of_ble_eq_true rfl)
      rw [if_neg c63] at h
      by_cases c76 : x57 = (2 : Int32)
      · rw [if_pos c76] at h
        obtain ⟨g77, h⟩ := gd_some h
        obtain ⟨g78, h⟩ := gd_some h
        obtain ⟨g79, h⟩ := gd_some h
        obtain ⟨g80, h⟩ := gd_some h
        obtain ⟨g81, h⟩ := gd_some h
        obtain ⟨g82, h⟩ := gd_some h
        obtain ⟨x85, hx85⟩ : ∃ z, z = gI S51 a0 ((0 : Int32)).toNatClampNeg := ⟨_, rfl⟩
        replace h := lt_x hx85 h
        obtain ⟨g83, h⟩ := gd_some h
        obtain ⟨x86, hx86⟩ : ∃ z, z = gI S51 a0 ((1 : Int32)).toNatClampNeg := ⟨_, rfl⟩
        replace h := lt_x hx86 h
        obtain ⟨g84, h⟩ := gd_some h
        obtain ⟨S87, hS87⟩ : ∃ z, z = sI S51 r52 ((0 : Int32)).toNatClampNeg x85 := ⟨_, rfl⟩
        replace h := zI_x hS87 h
        refine x_copyY2 (pc := 27) hC ln_RJ7_150 dJ7_copyOfRangeByte_39247_27 g77 g78 g79 g80 c76 g81 g82 hx85 g83 hx86 g84 (Nat.le_of_ble_eq_true rfl) (Nat.le_of_ble_eq_true rfl) (fun S88 hS88 => ?_)
        rw [← hS87] at hS88
        replace h := zI_x hS88 h
        refine x_aload (pc := 30) hC 0 dJ7_copyOfRangeByte_39247_30 rfl ?_
        exact x_areturn (pc := 32) hC hE (Or.inr ⟨_, rfl⟩) dJ7_copyOfRangeByte_39247_32 (so h) (Nat.le_of_ble_eq_true rfl) (Nat.le_of_ble_eq_true rfl)
      rw [if_neg c76] at h
      cases h
    rw [if_neg c49] at h
    cases h
  · exact xk_r (xt_out hC hE (bk_r h) (Nat.le_of_ble_eq_true rfl) (Nat.le_of_ble_eq_true rfl))
theorem c2_J7_copyOfRangeByte_39247 (l : Launch) (hls : l.stackTraces = false) {S : mS} {a0 : Nat} {a1 : Int32} {a2 : Int32} {o : Rs Nat} (h : f2_J7_copyOfRangeByte_39247 S a0 a1 a2 = some o) : CT (fun r : Nat => some (.ref r)) l yJ7_copyOfRangeByte_39247 (.code yJ7_copyOfRangeByte_39247 cJ7_copyOfRangeByte_39247 5 (Option.some (Jvm.ClassFile.FieldType.array Jvm.ClassFile.FieldType.byte))) rm2_J7_copyOfRangeByte_39247 S [.ref a0, .int a1, .int a2] o := ct_of (by decide +kernel) hls (Nat.le_of_ble_eq_true rfl) (fun C hl hC hE => t2_J7_copyOfRangeByte_39247 hls hC hl hE h)
abbrev rm2_J7_copyOfRange_39247 : Room := { frames := 10, cells := 1, slots := 2, locals := 195 }
def f2_J7_copyOfRange_39247_10  (S : mS) (a0 : Nat) (a1 : Int32) (a2 : Int32) : Option (Rs Nat) :=
  bd (f2_J7_copyOfRangeByte_39247 S a0 a1 a2) fun r1 S2 => some (.inl r1, S2)
set_option maxHeartbeats 2000000 in
set_option maxRecDepth 100000 in
theorem t2_J7_copyOfRange_39247_10 {l : Launch} (hls : l.stackTraces = false) {C : cT} (hC : CX C cJ7_copyOfRange_39247 3 yJ7_copyOfRange_39247 rm2_J7_copyOfRange_39247) (hl : C.2.1 = l) {S0 : mS} (hE : CE C S0 (Option.some (Jvm.ClassFile.FieldType.array Jvm.ClassFile.FieldType.byte)) []) {o : Rs Nat} {S : mS} {a0 : Nat} {a1 : Int32} {a2 : Int32} (h : f2_J7_copyOfRange_39247_10  S a0 a1 a2 = some o) : XX C 3 (QQ C (fun r : Nat => some (.ref r)) S0 o) (0) (0) S 10 [(0, .ref a0), (1, .int a1), (2, .int a2)] [] := by
  unfold f2_J7_copyOfRange_39247_10 at h
  refine x_aload_n (pc := 10) hC 0 dJ7_copyOfRange_39247_10 rfl rfl ?_
  refine x_iload_n (pc := 11) hC 1 dJ7_copyOfRange_39247_11 rfl rfl ?_
  refine x_iload_n (pc := 12) hC 2 dJ7_copyOfRange_39247_12 rfl rfl ?_
  obtain ⟨o3, ho3, h⟩ := bd_some h
  refine x_callS (pc := 13) (As := [.ref a0, .int a1, .int a2]) (rest := []) hC hl (c2_J7_copyOfRangeByte_39247 l hls ho3) lk_RJ7_339 dJ7_copyOfRange_39247_13 rfl rfl (Nat.le_of_ble_eq_true rfl) ⟨Nat.le_of_ble_eq_true rfl, Nat.le_of_ble_eq_true rfl⟩ ⟨(Nat.le_of_ble_eq_true rfl), (Nat.le_of_ble_eq_true rfl)⟩ ?_
  rcases o3 with ⟨r1 | E4, S2⟩
  · refine xk_a ?_
    replace h := bk_l h
    exact x_areturn (pc := 16) hC hE (Or.inr ⟨_, rfl⟩) dJ7_copyOfRange_39247_16 (so h) (Nat.le_of_ble_eq_true rfl) (Nat.le_of_ble_eq_true rfl)
  · exact xk_r (xt_out hC hE (bk_r h) (Nat.le_of_ble_eq_true rfl) (Nat.le_of_ble_eq_true rfl))
def f2_J7_copyOfRange_39247 (S : mS) (a0 : Nat) (a1 : Int32) (a2 : Int32) : Option (Rs Nat) :=
  if a1 = 0 then (gd ((a0 < KB ∧ gK S a0 = 33) ∨ (KB + 10 ≤ a0 ∧ a0 < KB + 13)) (lt9 (Int32.ofNat (zb S a0)) fun x2 => if a2 = x2 then (none) else (f2_J7_copyOfRange_39247_10  S a0 a1 a2))) else (f2_J7_copyOfRange_39247_10  S a0 a1 a2)
set_option maxHeartbeats 2000000 in
set_option maxRecDepth 100000 in
theorem t2_J7_copyOfRange_39247 {l : Launch} (hls : l.stackTraces = false) {C : cT} (hC : CX C cJ7_copyOfRange_39247 3 yJ7_copyOfRange_39247 rm2_J7_copyOfRange_39247) (hl : C.2.1 = l) {S0 : mS} (hE : CE C S0 (Option.some (Jvm.ClassFile.FieldType.array Jvm.ClassFile.FieldType.byte)) []) {o : Rs Nat} {S : mS} {a0 : Nat} {a1 : Int32} {a2 : Int32} (h : f2_J7_copyOfRange_39247 S a0 a1 a2 = some o) : XX C 3 (QQ C (fun r : Nat => some (.ref r)) S0 o) 0 0 S 0 [(0, .ref a0), (1, .int a1), (2, .int a2)] [] := by
  unfold f2_J7_copyOfRange_39247 at h
  refine x_iload_n (pc := 0) hC 1 dJ7_copyOfRange_39247_0 rfl rfl ?_
  refine x_if_ne (pc := 1) hC 10 dJ7_copyOfRange_39247_1 (by decide) (fun c4 => ?_) (fun c4 => ?_)
  · rw [if_neg c4] at h
    refine x_pick [0, 1, 2] rfl ?_
    exact t2_J7_copyOfRange_39247_10 hls hC hl hE h
  · rw [if_pos c4] at h
    refine x_iload_n (pc := 4) hC 2 dJ7_copyOfRange_39247_4 rfl rfl ?_
    refine x_aload_n (pc := 5) hC 0 dJ7_copyOfRange_39247_5 rfl rfl ?_
    obtain ⟨g1, h⟩ := gd_some h
    refine x_alenB (pc := 6) hC dJ7_copyOfRange_39247_6 g1 (fun x2 hx2 => ?_)
    replace h := lt_x hx2 h
    refine x_icmp_eq (pc := 7) hC 17 dJ7_copyOfRange_39247_7 (by decide) (fun c3 => ?_) (fun c3 => ?_)
    · rw [if_pos c3] at h
      refine x_aload_n (pc := 17) hC 0 dJ7_copyOfRange_39247_17 rfl rfl ?_
      cases h
    · rw [if_neg c3] at h
      refine x_pick [0, 1, 2] rfl ?_
      exact t2_J7_copyOfRange_39247_10 hls hC hl hE h
theorem c2_J7_copyOfRange_39247 (l : Launch) (hls : l.stackTraces = false) {S : mS} {a0 : Nat} {a1 : Int32} {a2 : Int32} {o : Rs Nat} (h : f2_J7_copyOfRange_39247 S a0 a1 a2 = some o) : CT (fun r : Nat => some (.ref r)) l yJ7_copyOfRange_39247 (.code yJ7_copyOfRange_39247 cJ7_copyOfRange_39247 3 (Option.some (Jvm.ClassFile.FieldType.array Jvm.ClassFile.FieldType.byte))) rm2_J7_copyOfRange_39247 S [.ref a0, .int a1, .int a2] o := ct_of (by decide +kernel) hls (Nat.le_of_ble_eq_true rfl) (fun C hl hC hE => t2_J7_copyOfRange_39247 hls hC hl hE h)
abbrev rm2_J2_compress_39247 : Room := { frames := 12, cells := 1, slots := 2, locals := 243 }
def f2_J2_compress_39247 (S : mS) (a0 : Nat) (a1 : Int32) (a2 : Int32) : Option (Rs Nat) :=
  none
set_option maxHeartbeats 2000000 in
set_option maxRecDepth 100000 in
theorem t2_J2_compress_39247 {l : Launch} (hls : l.stackTraces = false) {C : cT} (hC : CX C cJ2_compress_39247 6 yJ2_compress_39247 rm2_J2_compress_39247) (hl : C.2.1 = l) {S0 : mS} (hE : CE C S0 (Option.some (Jvm.ClassFile.FieldType.array Jvm.ClassFile.FieldType.byte)) []) {o : Rs Nat} {S : mS} {a0 : Nat} {a1 : Int32} {a2 : Int32} (h : f2_J2_compress_39247 S a0 a1 a2 = some o) : XX C 6 (QQ C (fun r : Nat => some (.ref r)) S0 o) 0 0 S 0 [(0, .ref a0), (1, .int a1), (2, .int a2)] [] := by
  unfold f2_J2_compress_39247 at h
  refine x_iload_n (pc := 0) hC 2 dJ2_compress_39247_0 rfl rfl ?_
  cases h
theorem c2_J2_compress_39247 (l : Launch) (hls : l.stackTraces = false) {S : mS} {a0 : Nat} {a1 : Int32} {a2 : Int32} {o : Rs Nat} (h : f2_J2_compress_39247 S a0 a1 a2 = some o) : CT (fun r : Nat => some (.ref r)) l yJ2_compress_39247 (.code yJ2_compress_39247 cJ2_compress_39247 6 (Option.some (Jvm.ClassFile.FieldType.array Jvm.ClassFile.FieldType.byte))) rm2_J2_compress_39247 S [.ref a0, .int a1, .int a2] o := ct_of (by decide +kernel) hls (Nat.le_of_ble_eq_true rfl) (fun C hl hC hE => t2_J2_compress_39247 hls hC hl hE h)
abbrev rm2_J4_length_8abf5 : Room := { frames := 9, cells := 0, slots := 0, locals := 170 }
def f2_J4_length_8abf5 (S : mS) (a0 : Nat) : Option (Rs Int32) :=
  gd (gK S a0 = 2) (bd (f_J5_length_8abf5 S a0) fun x2 S3 => some (.inl x2, S3))
set_option maxHeartbeats 2000000 in
set_option maxRecDepth 100000 in
theorem t2_J4_length_8abf5 {l : Launch} (hls : l.stackTraces = false) {C : cT} (hC : CX C cJ4_length_8abf5 1 yJ4_length_8abf5 rm2_J4_length_8abf5) (hl : C.2.1 = l) {S0 : mS} (hE : CE C S0 (Option.some Jvm.ClassFile.FieldType.int) []) {o : Rs Int32} {S : mS} {a0 : Nat} (h : f2_J4_length_8abf5 S a0 = some o) : XX C 1 (QQ C (fun r : Int32 => some (.int r)) S0 o) 0 0 S 0 [(0, .ref a0)] [] := by
  unfold f2_J4_length_8abf5 at h
  refine x_aload_n (pc := 0) hC 0 dJ4_length_8abf5_0 rfl rfl ?_
  obtain ⟨g1, h⟩ := gd_some h
  obtain ⟨o4, ho4, h⟩ := bd_some h
  refine x_callP (pc := 1) (As := []) (rest := []) hC hl (c_J5_length_8abf5 l hls ho4) lk_RJ4_343 fc_2 g1 dJ4_length_8abf5_1 rfl rfl (Nat.le_of_ble_eq_true rfl) ⟨Nat.le_of_ble_eq_true rfl, Nat.le_of_ble_eq_true rfl⟩ ⟨(Nat.le_of_ble_eq_true rfl), (Nat.le_of_ble_eq_true rfl)⟩ ?_
  rcases o4 with ⟨x2 | E5, S3⟩
  · refine xk_i ?_
    replace h := bk_l h
    exact x_ireturn (pc := 4) hC hE dJ4_length_8abf5_4 (so h) (Nat.le_of_ble_eq_true rfl) (Nat.le_of_ble_eq_true rfl)
  · exact xk_r (xt_out hC hE (bk_r h) (Nat.le_of_ble_eq_true rfl) (Nat.le_of_ble_eq_true rfl))
theorem c2_J4_length_8abf5 (l : Launch) (hls : l.stackTraces = false) {S : mS} {a0 : Nat} {o : Rs Int32} (h : f2_J4_length_8abf5 S a0 = some o) : CT (fun r : Int32 => some (.int r)) l yJ4_length_8abf5 (.code yJ4_length_8abf5 cJ4_length_8abf5 1 (Option.some Jvm.ClassFile.FieldType.int)) rm2_J4_length_8abf5 S [.ref a0] o := ct_of (by decide +kernel) hls (Nat.le_of_ble_eq_true rfl) (fun C hl hC hE => t2_J4_length_8abf5 hls hC hl hE h)
abbrev rm2_J0_init_db425 : Room := { frames := 13, cells := 1, slots := 2, locals := 268 }
def f2_J0_init_db425_97  (S : mS) : Option (Rs Unit) :=
  some (.inl (), S)
set_option maxHeartbeats 2000000 in
set_option maxRecDepth 100000 in
theorem t2_J0_init_db425_97 {l : Launch} (hls : l.stackTraces = false) {C : cT} (hC : CX C cJ0_init_db425 5 yJ0_init_db425 rm2_J0_init_db425) (hl : C.2.1 = l) {S0 : mS} (hE : CE C S0 (Option.none : Option Jvm.ClassFile.FieldType) []) {o : Rs Unit} {S : mS} (h : f2_J0_init_db425_97  S = some o) : XX C 5 (QQ C (fun _ : Unit => none) S0 o) (1) (2) S 97 [] [] := by
  unfold f2_J0_init_db425_97 at h
  exact x_vreturn (pc := 97) hC hE dJ0_init_db425_97 (so h) (Nat.le_of_ble_eq_true rfl) (Nat.le_of_ble_eq_true rfl)
def f2_J0_init_db425_79  (S : mS) (a0 : Nat) (a3 : Nat) (a4 : Int32) : Option (Rs Unit) :=
  gd (gK S a0 = 1) (zI (sI S a0 1 (1 : Int32)) fun S2 => lt9 (a4 <<< ((1 : Int32) &&& 31)) fun x4 => bd (f2_J7_copyOfRange_39247 S2 a3 (0 : Int32) x4) fun r5 S6 => gd (gK S6 a0 = 1) (zR (sR S6 a0 0 r5) fun S10 => f2_J0_init_db425_97  S10))
set_option maxHeartbeats 2000000 in
set_option maxRecDepth 100000 in
theorem t2_J0_init_db425_79 {l : Launch} (hls : l.stackTraces = false) {C : cT} (hC : CX C cJ0_init_db425 5 yJ0_init_db425 rm2_J0_init_db425) (hl : C.2.1 = l) {S0 : mS} (hE : CE C S0 (Option.none : Option Jvm.ClassFile.FieldType) []) {o : Rs Unit} {S : mS} {a0 : Nat} {a3 : Nat} {a4 : Int32} (h : f2_J0_init_db425_79  S a0 a3 a4 = some o) : XX C 5 (QQ C (fun _ : Unit => none) S0 o) (0) (0) S 79 [(0, .ref a0), (3, .ref a3), (4, .int a4)] [] := by
  unfold f2_J0_init_db425_79 at h
  refine x_aload_n (pc := 79) hC 0 dJ0_init_db425_79 rfl rfl ?_
  refine x_iconst (pc := 80) (v := (1 : Int32)) hC dJ0_init_db425_80 (by decide) ?_
  obtain ⟨g1, h⟩ := gd_some h
  refine x_putIFv (pc := 81) (k := 1) hC fc_1 wm_2555 rfl dJ0_init_db425_81 rfl rfl rfl rfl (show NF .byte _ from ⟨rfl, rfl⟩) g1 (fun S2 hS2 => ?_)
  replace h := zI_x hS2 h
  have g3 : gK S2 a0 = 1 := by rw [hS2]; exact g1
  refine x_aload_n (pc := 84) hC 0 dJ0_init_db425_84 rfl rfl ?_
  refine x_aload_n (pc := 85) hC 1 dJ0_init_db425_85 rfl rfl ?_
  refine x_iconst (pc := 86) (v := (0 : Int32)) hC dJ0_init_db425_86 (by decide) ?_
  refine x_iload (pc := 87) hC 2 dJ0_init_db425_87 rfl ?_
  refine x_iconst (pc := 89) (v := (1 : Int32)) hC dJ0_init_db425_89 (by decide) ?_
  refine x_ishlv (pc := 90) hC dJ0_init_db425_90 (fun x4 hx4 => ?_)
  replace h := lt_x hx4 h
  obtain ⟨o7, ho7, h⟩ := bd_some h
  refine x_callS (pc := 91) (As := [.ref a3, .int (0 : Int32), .int x4]) (rest := [.ref a0]) hC hl (c2_J7_copyOfRange_39247 l hls ho7) lk_RJ0_54 dJ0_init_db425_91 rfl rfl (Nat.le_of_ble_eq_true rfl) ⟨Nat.le_of_ble_eq_true rfl, Nat.le_of_ble_eq_true rfl⟩ ⟨(Nat.le_of_ble_eq_true rfl), (Nat.le_of_ble_eq_true rfl)⟩ ?_
  rcases o7 with ⟨r5 | E8, S6⟩
  · refine xk_a ?_
    replace h := bk_l h
    obtain ⟨g9, h⟩ := gd_some h
    refine x_putRFv (pc := 94) (k := 0) hC fc_1 wm_2554 rfl dJ0_init_db425_94 rfl rfl rfl rfl (Or.inr ⟨_, rfl⟩) g9 (fun S10 hS10 => ?_)
    replace h := zR_x hS10 h
    have g11 : gK S10 a0 = 1 := by rw [hS10]; exact g9
    refine x_pick [] rfl ?_
    exact t2_J0_init_db425_97 hls hC hl hE h
  · exact xk_r (xt_out hC hE (bk_r h) (Nat.le_of_ble_eq_true rfl) (Nat.le_of_ble_eq_true rfl))
def f2_J0_init_db425 (S : mS) (a0 : Nat) (a1 : Nat) (a2 : Nat) : Option (Rs Unit) :=
  gd (gK S a0 = 1) (gd (gK S a1 = 2) (bd (f_J5_getValue_6d5f1 S a1) fun r3 S4 => gd (gK S4 a1 = 2) (bd (f2_J4_length_8abf5 S4 a1) fun x8 S9 => gd (gK S9 a1 = 2) (bd (f2_J5_isLatin1_aae02 S9 a1) fun x13 S14 => if x13 = 0 then (if (1 : Int32) = 0 then (f2_J0_init_db425_79  S14 a0 r3 x8) else (gd (gK S14 a1 = 2) (lt9 (gI S14 a1 2) fun x18 => if x18 = 0 then (f2_J0_init_db425_79  S14 a0 r3 x8) else (bd (f2_J2_compress_39247 S14 r3 (0 : Int32) x8) fun r19 S20 => gd (gK S20 a0 = 1) (zR (sR S20 a0 0 r19) fun S24 => gd ((a0 < KB ∧ gK S24 a0 = 1) ∨ (KB ≤ a0 ∧ a0 < KB + 3)) (lt9 (if a0 < KB then gR S24 a0 0 else a0 + 10) fun r27 => bd (f2_J2_coderFromArrayLen_85cad S24 r27 x8) fun x28 S29 => gd (gK S29 a0 = 1) (gd (x28.toInt8.toInt32 = x28) (zI (sI S29 a0 1 x28) fun S34 => some (.inl (), S34))))))))) else (gd (gK S14 a0 = 1) (zI (sI S14 a0 1 (0 : Int32)) fun S39 => bd (f2_J7_copyOfRange_39247 S39 r3 (0 : Int32) x8) fun r41 S42 => gd (gK S42 a0 = 1) (zR (sR S42 a0 0 r41) fun S46 => f2_J0_init_db425_97  S46)))))))
set_option maxHeartbeats 2000000 in
set_option maxRecDepth 100000 in
theorem t2_J0_init_db425 {l : Launch} (hls : l.stackTraces = false) {C : cT} (hC : CX C cJ0_init_db425 5 yJ0_init_db425 rm2_J0_init_db425) (hl : C.2.1 = l) {S0 : mS} (hE : CE C S0 (Option.none : Option Jvm.ClassFile.FieldType) []) {o : Rs Unit} {S : mS} {a0 : Nat} {a1 : Nat} {a2 : Nat} (h : f2_J0_init_db425 S a0 a1 a2 = some o) : XX C 5 (QQ C (fun _ : Unit => none) S0 o) 0 0 S 0 [(0, .ref a0), (1, .ref a1), (2, .ref a2)] [] := by
  unfold f2_J0_init_db425 at h
  refine x_aload_n (pc := 0) hC 0 dJ0_init_db425_0 rfl rfl ?_
  obtain ⟨g1, h⟩ := gd_some h
  refine x_objInit (pc := 1) hC wm_2488 wm_94 wm_95 dJ0_init_db425_1 (by rw [g1]; decide) (Nat.le_of_ble_eq_true rfl) (Nat.le_of_ble_eq_true rfl) ?_
  refine x_aload_n (pc := 4) hC 1 dJ0_init_db425_4 rfl rfl ?_
  obtain ⟨g2, h⟩ := gd_some h
  obtain ⟨o5, ho5, h⟩ := bd_some h
  refine x_callC (pc := 5) (As := []) (rest := []) hC hl (c_J5_getValue_6d5f1 l hls ho5) lk_RJ0_552 fc_2 g2 dJ0_init_db425_5 rfl rfl (Nat.le_of_ble_eq_true rfl) ⟨Nat.le_of_ble_eq_true rfl, Nat.le_of_ble_eq_true rfl⟩ ⟨(Nat.le_of_ble_eq_true rfl), (Nat.le_of_ble_eq_true rfl)⟩ ?_
  rcases o5 with ⟨r3 | E6, S4⟩
  · refine xk_a ?_
    replace h := bk_l h
    refine x_astore_n (pc := 8) hC dJ0_init_db425_8 rfl (by decide) (by decide) rfl ?_
    refine x_aload_n (pc := 9) hC 2 dJ0_init_db425_9 rfl rfl ?_
    obtain ⟨g7, h⟩ := gd_some h
    obtain ⟨o10, ho10, h⟩ := bd_some h
    refine x_callU (pc := 10) (As := []) (rest := []) hC hl (c2_J4_length_8abf5 l hls ho10) lk_RJ0_549 fc_2 g7 dJ0_init_db425_10 rfl rfl (Nat.le_of_ble_eq_true rfl) ⟨Nat.le_of_ble_eq_true rfl, Nat.le_of_ble_eq_true rfl⟩ ⟨(Nat.le_of_ble_eq_true rfl), (Nat.le_of_ble_eq_true rfl)⟩ ?_
    rcases o10 with ⟨x8 | E11, S9⟩
    · refine xk_i ?_
      replace h := bk_l h
      refine x_istore (pc := 13) hC dJ0_init_db425_13 (by decide) (by decide) rfl ?_
      refine x_aload_n (pc := 15) hC 3 dJ0_init_db425_15 rfl rfl ?_
      obtain ⟨g12, h⟩ := gd_some h
      obtain ⟨o15, ho15, h⟩ := bd_some h
      refine x_callC (pc := 16) (As := []) (rest := []) hC hl (c2_J5_isLatin1_aae02 l hls ho15) lk_RJ0_1047 fc_2 g12 dJ0_init_db425_16 rfl rfl (Nat.le_of_ble_eq_true rfl) ⟨Nat.le_of_ble_eq_true rfl, Nat.le_of_ble_eq_true rfl⟩ ⟨(Nat.le_of_ble_eq_true rfl), (Nat.le_of_ble_eq_true rfl)⟩ ?_
      rcases o15 with ⟨x13 | E16, S14⟩
      · refine xk_i ?_
        replace h := bk_l h
        refine x_if_eq (pc := 19) hC 41 dJ0_init_db425_19 (by decide) (fun c48 => ?_) (fun c48 => ?_)
        · rw [if_pos c48] at h
          refine x_getsCO (pc := 41) hC wm_2037 dJ0_init_db425_41 ?_
          refine x_if_eq (pc := 44) hC 79 dJ0_init_db425_44 (by decide) (fun c37 => ?_) (fun c37 => ?_)
          · rw [if_pos c37] at h
            refine x_pick [2, 1, 0] rfl ?_
            exact t2_J0_init_db425_79 hls hC hl hE h
          · rw [if_neg c37] at h
            refine x_aload_n (pc := 47) hC 3 dJ0_init_db425_47 rfl rfl ?_
            obtain ⟨g17, h⟩ := gd_some h
            refine x_getIv (pc := 48) (k := 2) hC fc_2 fl_RJ0_1048 dJ0_init_db425_48 rfl g17 (fun x18 hx18 => ?_)
            replace h := lt_x hx18 h
            refine x_if_eq (pc := 51) hC 79 dJ0_init_db425_51 (by decide) (fun c36 => ?_) (fun c36 => ?_)
            · rw [if_pos c36] at h
              refine x_pick [2, 1, 0] rfl ?_
              exact t2_J0_init_db425_79 hls hC hl hE h
            · rw [if_neg c36] at h
              refine x_aload_n (pc := 54) hC 2 dJ0_init_db425_54 rfl rfl ?_
              refine x_aload_n (pc := 55) hC 1 dJ0_init_db425_55 rfl rfl ?_
              refine x_iconst (pc := 56) (v := (0 : Int32)) hC dJ0_init_db425_56 (by decide) ?_
              refine x_iload (pc := 57) hC 0 dJ0_init_db425_57 rfl ?_
              obtain ⟨o21, ho21, h⟩ := bd_some h
              refine x_callS (pc := 59) (As := [.ref r3, .int (0 : Int32), .int x8]) (rest := [.ref a0]) hC hl (c2_J2_compress_39247 l hls ho21) lk_RJ0_1051 dJ0_init_db425_59 rfl rfl (Nat.le_of_ble_eq_true rfl) ⟨Nat.le_of_ble_eq_true rfl, Nat.le_of_ble_eq_true rfl⟩ ⟨(Nat.le_of_ble_eq_true rfl), (Nat.le_of_ble_eq_true rfl)⟩ ?_
              rcases o21 with ⟨r19 | E22, S20⟩
              · refine xk_a ?_
                replace h := bk_l h
                obtain ⟨g23, h⟩ := gd_some h
                refine x_putRFv (pc := 62) (k := 0) hC fc_1 wm_2554 rfl dJ0_init_db425_62 rfl rfl rfl rfl (Or.inr ⟨_, rfl⟩) g23 (fun S24 hS24 => ?_)
                replace h := zR_x hS24 h
                have g25 : gK S24 a0 = 1 := by rw [hS24]; exact g23
                refine x_aload_n (pc := 65) hC 2 dJ0_init_db425_65 rfl rfl ?_
                refine x_aload_n (pc := 66) hC 2 dJ0_init_db425_66 rfl rfl ?_
                obtain ⟨g26, h⟩ := gd_some h
                refine x_getSvv (pc := 67) hC wm_2554 dJ0_init_db425_67 g26 (fun r27 hr27 => ?_)
                replace h := lt_x hr27 h
                refine x_iload (pc := 70) hC 0 dJ0_init_db425_70 rfl ?_
                obtain ⟨o30, ho30, h⟩ := bd_some h
                refine x_callS (pc := 72) (As := [.ref r27, .int x8]) (rest := [.ref a0]) hC hl (c2_J2_coderFromArrayLen_85cad l hls ho30) lk_RJ0_47 dJ0_init_db425_72 rfl rfl (Nat.le_of_ble_eq_true rfl) ⟨Nat.le_of_ble_eq_true rfl, Nat.le_of_ble_eq_true rfl⟩ ⟨(Nat.le_of_ble_eq_true rfl), (Nat.le_of_ble_eq_true rfl)⟩ ?_
                rcases o30 with ⟨x28 | E31, S29⟩
                · refine xk_i ?_
                  replace h := bk_l h
                  obtain ⟨g32, h⟩ := gd_some h
                  obtain ⟨g33, h⟩ := gd_some h
                  refine x_putIFv (pc := 75) (k := 1) hC fc_1 wm_2555 rfl dJ0_init_db425_75 rfl rfl rfl rfl (nf_Y g33) g32 (fun S34 hS34 => ?_)
                  replace h := zI_x hS34 h
                  have g35 : gK S34 a0 = 1 := by rw [hS34]; exact g32
                  exact x_vreturn (pc := 78) hC hE dJ0_init_db425_78 (so h) (Nat.le_of_ble_eq_true rfl) (Nat.le_of_ble_eq_true rfl)
                · exact xk_r (xt_out hC hE (bk_r h) (Nat.le_of_ble_eq_true rfl) (Nat.le_of_ble_eq_true rfl))
              · exact xk_r (xt_out hC hE (bk_r h) (Nat.le_of_ble_eq_true rfl) (Nat.le_of_ble_eq_true rfl))
        · rw [if_neg c48] at h
          refine x_aload_n (pc := 22) hC 2 dJ0_init_db425_22 rfl rfl ?_
          refine x_iconst (pc := 23) (v := (0 : Int32)) hC dJ0_init_db425_23 (by decide) ?_
          obtain ⟨g38, h⟩ := gd_some h
          refine x_putIFv (pc := 24) (k := 1) hC fc_1 wm_2555 rfl dJ0_init_db425_24 rfl rfl rfl rfl (show NF .byte _ from ⟨rfl, rfl⟩) g38 (fun S39 hS39 => ?_)
          replace h := zI_x hS39 h
          have g40 : gK S39 a0 = 1 := by rw [hS39]; exact g38
          refine x_aload_n (pc := 27) hC 2 dJ0_init_db425_27 rfl rfl ?_
          refine x_aload_n (pc := 28) hC 1 dJ0_init_db425_28 rfl rfl ?_
          refine x_iconst (pc := 29) (v := (0 : Int32)) hC dJ0_init_db425_29 (by decide) ?_
          refine x_iload (pc := 30) hC 0 dJ0_init_db425_30 rfl ?_
          obtain ⟨o43, ho43, h⟩ := bd_some h
          refine x_callS (pc := 32) (As := [.ref r3, .int (0 : Int32), .int x8]) (rest := [.ref a0]) hC hl (c2_J7_copyOfRange_39247 l hls ho43) lk_RJ0_54 dJ0_init_db425_32 rfl rfl (Nat.le_of_ble_eq_true rfl) ⟨Nat.le_of_ble_eq_true rfl, Nat.le_of_ble_eq_true rfl⟩ ⟨(Nat.le_of_ble_eq_true rfl), (Nat.le_of_ble_eq_true rfl)⟩ ?_
          rcases o43 with ⟨r41 | E44, S42⟩
          · refine xk_a ?_
            replace h := bk_l h
            obtain ⟨g45, h⟩ := gd_some h
            refine x_putRFv (pc := 35) (k := 0) hC fc_1 wm_2554 rfl dJ0_init_db425_35 rfl rfl rfl rfl (Or.inr ⟨_, rfl⟩) g45 (fun S46 hS46 => ?_)
            replace h := zR_x hS46 h
            have g47 : gK S46 a0 = 1 := by rw [hS46]; exact g45
            refine x_goto (pc := 38) hC 97 dJ0_init_db425_38 (by decide) ?_
            refine x_pick [] rfl ?_
            exact t2_J0_init_db425_97 hls hC hl hE h
          · exact xk_r (xt_out hC hE (bk_r h) (Nat.le_of_ble_eq_true rfl) (Nat.le_of_ble_eq_true rfl))
      · exact xk_r (xt_out hC hE (bk_r h) (Nat.le_of_ble_eq_true rfl) (Nat.le_of_ble_eq_true rfl))
    · exact xk_r (xt_out hC hE (bk_r h) (Nat.le_of_ble_eq_true rfl) (Nat.le_of_ble_eq_true rfl))
  · exact xk_r (xt_out hC hE (bk_r h) (Nat.le_of_ble_eq_true rfl) (Nat.le_of_ble_eq_true rfl))
theorem c2_J0_init_db425 (l : Launch) (hls : l.stackTraces = false) {S : mS} {a0 : Nat} {a1 : Nat} {a2 : Nat} {o : Rs Unit} (h : f2_J0_init_db425 S a0 a1 a2 = some o) : CT (fun _ : Unit => none) l yJ0_init_db425 (.code yJ0_init_db425 cJ0_init_db425 5 (Option.none : Option Jvm.ClassFile.FieldType)) rm2_J0_init_db425 S [.ref a0, .ref a1, .ref a2] o := ct_of (by decide +kernel) hls (Nat.le_of_ble_eq_true rfl) (fun C hl hC hE => t2_J0_init_db425 hls hC hl hE h)
abbrev rm2_J0_init_81219 : Room := { frames := 14, cells := 1, slots := 2, locals := 292 }
def f2_J0_init_81219 (S : mS) (a0 : Nat) (a1 : Nat) : Option (Rs Unit) :=
  gd (gK S a0 = 1) (bd (f2_J0_init_db425 S a0 a1 0) fun _ S3 => some (.inl (), S3))
set_option maxHeartbeats 2000000 in
set_option maxRecDepth 100000 in
theorem t2_J0_init_81219 {l : Launch} (hls : l.stackTraces = false) {C : cT} (hC : CX C cJ0_init_81219 2 yJ0_init_81219 rm2_J0_init_81219) (hl : C.2.1 = l) {S0 : mS} (hE : CE C S0 (Option.none : Option Jvm.ClassFile.FieldType) []) {o : Rs Unit} {S : mS} {a0 : Nat} {a1 : Nat} (h : f2_J0_init_81219 S a0 a1 = some o) : XX C 2 (QQ C (fun _ : Unit => none) S0 o) 0 0 S 0 [(0, .ref a0), (1, .ref a1)] [] := by
  unfold f2_J0_init_81219 at h
  refine x_aload_n (pc := 0) hC 0 dJ0_init_81219_0 rfl rfl ?_
  refine x_aload_n (pc := 1) hC 1 dJ0_init_81219_1 rfl rfl ?_
  refine x_null (pc := 2) hC dJ0_init_81219_2 ?_
  obtain ⟨g1, h⟩ := gd_some h
  obtain ⟨o4, ho4, h⟩ := bd_some h
  refine x_callI (pc := 3) (As := [.ref a1, .ref 0]) (rest := []) hC hl (c2_J0_init_db425 l hls ho4) lk_RJ0_489 (by rw [g1]; decide) dJ0_init_81219_3 rfl rfl (Nat.le_of_ble_eq_true rfl) ⟨Nat.le_of_ble_eq_true rfl, Nat.le_of_ble_eq_true rfl⟩ ⟨(Nat.le_of_ble_eq_true rfl), (Nat.le_of_ble_eq_true rfl)⟩ ?_
  rcases o4 with ⟨_ | E5, S3⟩
  · refine xk_v ?_
    replace h := bk_l h
    exact x_vreturn (pc := 6) hC hE dJ0_init_81219_6 (so h) (Nat.le_of_ble_eq_true rfl) (Nat.le_of_ble_eq_true rfl)
  · exact xk_r (xt_out hC hE (bk_r h) (Nat.le_of_ble_eq_true rfl) (Nat.le_of_ble_eq_true rfl))
theorem c2_J0_init_81219 (l : Launch) (hls : l.stackTraces = false) {S : mS} {a0 : Nat} {a1 : Nat} {o : Rs Unit} (h : f2_J0_init_81219 S a0 a1 = some o) : CT (fun _ : Unit => none) l yJ0_init_81219 (.code yJ0_init_81219 cJ0_init_81219 2 (Option.none : Option Jvm.ClassFile.FieldType)) rm2_J0_init_81219 S [.ref a0, .ref a1] o := ct_of (by decide +kernel) hls (Nat.le_of_ble_eq_true rfl) (fun C hl hC hE => t2_J0_init_81219 hls hC hl hE h)
abbrev rm2_J4_toString_0e30d : Room := { frames := 15, cells := 2, slots := 6, locals := 313 }
def f2_J4_toString_0e30d (S : mS) (a0 : Nat) : Option (Rs Nat) :=
  gd (gN S + 1 < KB) (zW (sW S 1 0) fun S2 => lt9 (gN S + 1) fun r3 => bd (f2_J0_init_81219 S2 r3 a0) fun _ S6 => some (.inl r3, S6))
set_option maxHeartbeats 2000000 in
set_option maxRecDepth 100000 in
theorem t2_J4_toString_0e30d {l : Launch} (hls : l.stackTraces = false) {C : cT} (hC : CX C cJ4_toString_0e30d 1 yJ4_toString_0e30d rm2_J4_toString_0e30d) (hl : C.2.1 = l) {S0 : mS} (hE : CE C S0 (Option.some (Jvm.ClassFile.FieldType.object "java/lang/String")) []) {o : Rs Nat} {S : mS} {a0 : Nat} (h : f2_J4_toString_0e30d S a0 = some o) : XX C 1 (QQ C (fun r : Nat => some (.ref r)) S0 o) 0 0 S 0 [(0, .ref a0)] [] := by
  unfold f2_J4_toString_0e30d at h
  obtain ⟨g1, h⟩ := gd_some h
  refine x_newv (pc := 0) hC fc_1 fn_1 wm_2481 wm_1020 wm_74 dJ4_toString_0e30d_0 g1 (Nat.le_of_ble_eq_true rfl) (Nat.le_of_ble_eq_true rfl) (fun S2 r3 hS2 hr3 => ?_)
  replace h := zW_x hS2 h
  replace h := lt_x hr3 h
  have g4 : gK S2 r3 = 1 := by rw [hr3, hS2]; exact sW_K
  refine x_dup (pc := 3) hC dJ4_toString_0e30d_3 rfl ?_
  refine x_aload_n (pc := 4) hC 0 dJ4_toString_0e30d_4 rfl rfl ?_
  obtain ⟨o7, ho7, h⟩ := bd_some h
  refine x_callI (pc := 5) (As := [.ref a0]) (rest := [.ref r3]) hC hl (c2_J0_init_81219 l hls ho7) lk_RJ4_137 (by rw [g4]; decide) dJ4_toString_0e30d_5 rfl rfl (Nat.le_of_ble_eq_true rfl) ⟨Nat.le_of_ble_eq_true rfl, Nat.le_of_ble_eq_true rfl⟩ ⟨(Nat.le_of_ble_eq_true rfl), (Nat.le_of_ble_eq_true rfl)⟩ ?_
  rcases o7 with ⟨_ | E8, S6⟩
  · refine xk_v ?_
    replace h := bk_l h
    exact x_areturn (pc := 8) hC hE (Or.inl ⟨_, rfl⟩) dJ4_toString_0e30d_8 (so h) (Nat.le_of_ble_eq_true rfl) (Nat.le_of_ble_eq_true rfl)
  · exact xk_r (xt_out hC hE (bk_r h) (Nat.le_of_ble_eq_true rfl) (Nat.le_of_ble_eq_true rfl))
theorem c2_J4_toString_0e30d (l : Launch) (hls : l.stackTraces = false) {S : mS} {a0 : Nat} {o : Rs Nat} (h : f2_J4_toString_0e30d S a0 = some o) : CT (fun r : Nat => some (.ref r)) l yJ4_toString_0e30d (.code yJ4_toString_0e30d cJ4_toString_0e30d 1 (Option.some (Jvm.ClassFile.FieldType.object "java/lang/String"))) rm2_J4_toString_0e30d S [.ref a0] o := ct_of (by decide +kernel) hls (Nat.le_of_ble_eq_true rfl) (fun C hl hC hE => t2_J4_toString_0e30d hls hC hl hE h)
abbrev rm2_X13_type : Room := { frames := 18, cells := 6, slots := 106, locals := 373 }
def f2_X13_type_18  (S : mS) (a0 : Nat) (a1 : Int32) (s0 : Nat) (s1 : Int32) : Option (Rs Int32) :=
  gd (gK S s0 = 19) (bd (f_X13_isWrong S s0 s1) fun x2 S3 => if x2 = 0 then (gd (gN S3 + 1 < KB) (zW (sW S3 2 0) fun S7 => lt9 (gN S3 + 1) fun r8 => bd (f2_J4_init_da8c8 S7 r8) fun _ S11 => gd (gK S11 a0 = 19) (lt9 (gR S11 a0 20) fun r15 => gd (gK S11 r8 = 2) (bd (f2_J4_append_15ec4 S11 r8 r15) fun r17 S18 => gd (gK S18 r17 = 2) (bd (f2_J4_append_cf468 S18 r17 a1) fun r22 S23 => gd (gK S23 r22 = 2) (bd (f2_J4_toString_0e30d S23 r22) fun r27 S28 => gd (gK S28 a0 = 19) (zR (sR S28 a0 20 r27) fun S32 => lt9 (gR S32 a0 20) fun r34 => gd ((r34 < KB ∧ gK S32 r34 = 1) ∨ (KB ≤ r34 ∧ r34 < KB + 3)) (bd (f2_J0_length_8abf5 S32 r34) fun x36 S37 => some (.inl x36, S37))))))))) else (some (.inl (0 : Int32), S3)))
set_option maxHeartbeats 2000000 in
set_option maxRecDepth 100000 in
theorem t2_X13_type_18 {l : Launch} (hls : l.stackTraces = false) {C : cT} (hC : CX C cX13_type 2 yX13_type rm2_X13_type) (hl : C.2.1 = l) {S0 : mS} (hE : CE C S0 (Option.some Jvm.ClassFile.FieldType.int) []) {o : Rs Int32} {S : mS} {a0 : Nat} {a1 : Int32} {s0 : Nat} {s1 : Int32} (h : f2_X13_type_18  S a0 a1 s0 s1 = some o) : XX C 2 (QQ C (fun r : Int32 => some (.int r)) S0 o) (0) (0) S 18 [(0, .ref a0), (1, .int a1)] [.int s1, .ref s0] := by
  unfold f2_X13_type_18 at h
  obtain ⟨g1, h⟩ := gd_some h
  obtain ⟨o4, ho4, h⟩ := bd_some h
  refine x_callV (pc := 18) (As := [.int s1]) (rest := []) hC hl (c_X13_isWrong l hls ho4) lk_RX13_68 fc_19 g1 dX13_type_18 rfl rfl (Nat.le_of_ble_eq_true rfl) ⟨Nat.le_of_ble_eq_true rfl, Nat.le_of_ble_eq_true rfl⟩ ⟨(Nat.le_of_ble_eq_true rfl), (Nat.le_of_ble_eq_true rfl)⟩ ?_
  rcases o4 with ⟨x2 | E5, S3⟩
  · refine xk_i ?_
    replace h := bk_l h
    refine x_if_eq (pc := 21) hC 26 dX13_type_21 (by decide) (fun c40 => ?_) (fun c40 => ?_)
    · rw [if_pos c40] at h
      obtain ⟨g6, h⟩ := gd_some h
      refine x_newv (pc := 26) hC fc_2 fn_2 wm_2350 wm_2351 wm_86 dX13_type_26 g6 (Nat.le_of_ble_eq_true rfl) (Nat.le_of_ble_eq_true rfl) (fun S7 r8 hS7 hr8 => ?_)
      replace h := zW_x hS7 h
      replace h := lt_x hr8 h
      have g9 : gK S7 r8 = 2 := by rw [hr8, hS7]; exact sW_K
      refine x_dup (pc := 29) hC dX13_type_29 rfl ?_
      obtain ⟨o12, ho12, h⟩ := bd_some h
      refine x_callI (pc := 30) (As := []) (rest := [.ref r8]) hC hl (c2_J4_init_da8c8 l hls ho12) lk_RX13_361 (by rw [g9]; decide) dX13_type_30 rfl rfl (Nat.le_of_ble_eq_true rfl) ⟨Nat.le_of_ble_eq_true rfl, Nat.le_of_ble_eq_true rfl⟩ ⟨(Nat.le_of_ble_eq_true rfl), (Nat.le_of_ble_eq_true rfl)⟩ ?_
      rcases o12 with ⟨_ | E13, S11⟩
      · refine xk_v ?_
        replace h := bk_l h
        refine x_aload_n (pc := 33) hC 0 dX13_type_33 rfl rfl ?_
        refine x_dup_x1 (pc := 34) hC dX13_type_34 rfl rfl ?_
        obtain ⟨g14, h⟩ := gd_some h
        refine x_getRv (pc := 35) (k := 20) hC fc_19 fl_RX13_42 dX13_type_35 rfl g14 (fun r15 hr15 => ?_)
        replace h := lt_x hr15 h
        obtain ⟨g16, h⟩ := gd_some h
        obtain ⟨o19, ho19, h⟩ := bd_some h
        refine x_callV (pc := 38) (As := [.ref r15]) (rest := [.ref a0]) hC hl (c2_J4_append_15ec4 l hls ho19) lk_RX13_362 fc_2 g16 dX13_type_38 rfl rfl (Nat.le_of_ble_eq_true rfl) ⟨Nat.le_of_ble_eq_true rfl, Nat.le_of_ble_eq_true rfl⟩ ⟨(Nat.le_of_ble_eq_true rfl), (Nat.le_of_ble_eq_true rfl)⟩ ?_
        rcases o19 with ⟨r17 | E20, S18⟩
        · refine xk_a ?_
          replace h := bk_l h
          refine x_iload_n (pc := 41) hC 1 dX13_type_41 rfl rfl ?_
          obtain ⟨g21, h⟩ := gd_some h
          obtain ⟨o24, ho24, h⟩ := bd_some h
          refine x_callV (pc := 42) (As := [.int a1]) (rest := [.ref a0]) hC hl (c2_J4_append_cf468 l hls ho24) lk_RX13_366 fc_2 g21 dX13_type_42 rfl rfl (Nat.le_of_ble_eq_true rfl) ⟨Nat.le_of_ble_eq_true rfl, Nat.le_of_ble_eq_true rfl⟩ ⟨(Nat.le_of_ble_eq_true rfl), (Nat.le_of_ble_eq_true rfl)⟩ ?_
          rcases o24 with ⟨r22 | E25, S23⟩
          · refine xk_a ?_
            replace h := bk_l h
            obtain ⟨g26, h⟩ := gd_some h
            obtain ⟨o29, ho29, h⟩ := bd_some h
            refine x_callV (pc := 45) (As := []) (rest := [.ref a0]) hC hl (c2_J4_toString_0e30d l hls ho29) lk_RX13_369 fc_2 g26 dX13_type_45 rfl rfl (Nat.le_of_ble_eq_true rfl) ⟨Nat.le_of_ble_eq_true rfl, Nat.le_of_ble_eq_true rfl⟩ ⟨(Nat.le_of_ble_eq_true rfl), (Nat.le_of_ble_eq_true rfl)⟩ ?_
            rcases o29 with ⟨r27 | E30, S28⟩
            · refine xk_a ?_
              replace h := bk_l h
              obtain ⟨g31, h⟩ := gd_some h
              refine x_putRv (pc := 48) (k := 20) hC fc_19 fl_RX13_42 dX13_type_48 rfl rfl (Or.inl ⟨_, rfl⟩) g31 (fun S32 hS32 => ?_)
              replace h := zR_x hS32 h
              have g33 : gK S32 a0 = 19 := by rw [hS32]; exact g31
              refine x_aload_n (pc := 51) hC 0 dX13_type_51 rfl rfl ?_
              refine x_getRv (pc := 52) (k := 20) hC fc_19 fl_RX13_42 dX13_type_52 rfl g33 (fun r34 hr34 => ?_)
              replace h := lt_x hr34 h
              obtain ⟨g35, h⟩ := gd_some h
              obtain ⟨o38, ho38, h⟩ := bd_some h
              refine x_callVS (pc := 55) (As := []) (rest := []) hC hl (c2_J0_length_8abf5 l hls ho38) lk_RX13_356 rfl g35 dX13_type_55 rfl rfl (Nat.le_of_ble_eq_true rfl) ⟨Nat.le_of_ble_eq_true rfl, Nat.le_of_ble_eq_true rfl⟩ ⟨(Nat.le_of_ble_eq_true rfl), (Nat.le_of_ble_eq_true rfl)⟩ ?_
              rcases o38 with ⟨x36 | E39, S37⟩
              · refine xk_i ?_
                replace h := bk_l h
                exact x_ireturn (pc := 58) hC hE dX13_type_58 (so h) (Nat.le_of_ble_eq_true rfl) (Nat.le_of_ble_eq_true rfl)
              · exact xk_r (xt_out hC hE (bk_r h) (Nat.le_of_ble_eq_true rfl) (Nat.le_of_ble_eq_true rfl))
            · exact xk_r (xt_out hC hE (bk_r h) (Nat.le_of_ble_eq_true rfl) (Nat.le_of_ble_eq_true rfl))
          · exact xk_r (xt_out hC hE (bk_r h) (Nat.le_of_ble_eq_true rfl) (Nat.le_of_ble_eq_true rfl))
        · exact xk_r (xt_out hC hE (bk_r h) (Nat.le_of_ble_eq_true rfl) (Nat.le_of_ble_eq_true rfl))
      · exact xk_r (xt_out hC hE (bk_r h) (Nat.le_of_ble_eq_true rfl) (Nat.le_of_ble_eq_true rfl))
    · rw [if_neg c40] at h
      refine x_iconst (pc := 24) (v := (0 : Int32)) hC dX13_type_24 (by decide) ?_
      exact x_ireturn (pc := 25) hC hE dX13_type_25 (so h) (Nat.le_of_ble_eq_true rfl) (Nat.le_of_ble_eq_true rfl)
  · exact xk_r (xt_out hC hE (bk_r h) (Nat.le_of_ble_eq_true rfl) (Nat.le_of_ble_eq_true rfl))
def f2_X13_type (S : mS) (a0 : Nat) (a1 : Int32) : Option (Rs Int32) :=
  gd (gK S a0 = 19) (lt9 (gR S a0 20) fun r2 => gd ((r2 < KB ∧ gK S r2 = 1) ∨ (KB ≤ r2 ∧ r2 < KB + 3)) (bd (f2_J0_length_8abf5 S r2) fun x4 S5 => if x4 = (30 : Int32) then (f2_X13_type_18  S5 a0 a1 a0 (1 : Int32)) else (f2_X13_type_18  S5 a0 a1 a0 (0 : Int32))))
set_option maxHeartbeats 2000000 in
set_option maxRecDepth 100000 in
theorem t2_X13_type {l : Launch} (hls : l.stackTraces = false) {C : cT} (hC : CX C cX13_type 2 yX13_type rm2_X13_type) (hl : C.2.1 = l) {S0 : mS} (hE : CE C S0 (Option.some Jvm.ClassFile.FieldType.int) []) {o : Rs Int32} {S : mS} {a0 : Nat} {a1 : Int32} (h : f2_X13_type S a0 a1 = some o) : XX C 2 (QQ C (fun r : Int32 => some (.int r)) S0 o) 0 0 S 0 [(0, .ref a0), (1, .int a1)] [] := by
  unfold f2_X13_type at h
  refine x_aload_n (pc := 0) hC 0 dX13_type_0 rfl rfl ?_
  refine x_aload_n (pc := 1) hC 0 dX13_type_1 rfl rfl ?_
  obtain ⟨g1, h⟩ := gd_some h
  refine x_getRv (pc := 2) (k := 20) hC fc_19 fl_RX13_42 dX13_type_2 rfl g1 (fun r2 hr2 => ?_)
  replace h := lt_x hr2 h
  obtain ⟨g3, h⟩ := gd_some h
  obtain ⟨o6, ho6, h⟩ := bd_some h
  refine x_callVS (pc := 5) (As := []) (rest := [.ref a0]) hC hl (c2_J0_length_8abf5 l hls ho6) lk_RX13_356 rfl g3 dX13_type_5 rfl rfl (Nat.le_of_ble_eq_true rfl) ⟨Nat.le_of_ble_eq_true rfl, Nat.le_of_ble_eq_true rfl⟩ ⟨(Nat.le_of_ble_eq_true rfl), (Nat.le_of_ble_eq_true rfl)⟩ ?_
  rcases o6 with ⟨x4 | E7, S5⟩
  · refine xk_i ?_
    replace h := bk_l h
    refine x_bipush (pc := 8) (v := (30 : Int32)) hC dX13_type_8 (by decide) ?_
    refine x_icmp_ne (pc := 10) hC 17 dX13_type_10 (by decide) (fun c8 => ?_) (fun c8 => ?_)
    · rw [if_neg c8] at h
      refine x_iconst (pc := 17) (v := (0 : Int32)) hC dX13_type_17 (by decide) ?_
      refine x_pick [0, 1] rfl ?_
      exact t2_X13_type_18 hls hC hl hE h
    · rw [if_pos c8] at h
      refine x_iconst (pc := 13) (v := (1 : Int32)) hC dX13_type_13 (by decide) ?_
      refine x_goto (pc := 14) hC 18 dX13_type_14 (by decide) ?_
      refine x_pick [0, 1] rfl ?_
      exact t2_X13_type_18 hls hC hl hE h
  · exact xk_r (xt_out hC hE (bk_r h) (Nat.le_of_ble_eq_true rfl) (Nat.le_of_ble_eq_true rfl))
theorem c2_X13_type (l : Launch) (hls : l.stackTraces = false) {S : mS} {a0 : Nat} {a1 : Int32} {o : Rs Int32} (h : f2_X13_type S a0 a1 = some o) : CT (fun r : Int32 => some (.int r)) l yX13_type (.code yX13_type cX13_type 2 (Option.some Jvm.ClassFile.FieldType.int)) rm2_X13_type S [.ref a0, .int a1] o := ct_of (by decide +kernel) hls (Nat.le_of_ble_eq_true rfl) (fun C hl hC hE => t2_X13_type hls hC hl hE h)
abbrev rm2_X13_wipe : Room := { frames := 10, cells := 0, slots := 0, locals := 190 }
def f2_X13_wipe (S : mS) (a0 : Nat) : Option (Rs Int32) :=
  gd (gK S a0 = 19) (zI (sI S a0 0 (0 : Int32)) fun S2 => lt9 (gR S2 a0 20) fun r4 => gd ((r4 < KB ∧ gK S2 r4 = 1) ∨ (KB ≤ r4 ∧ r4 < KB + 3)) (bd (f2_J0_length_8abf5 S2 r4) fun x6 S7 => gd (gK S7 a0 = 19) (zR (sR S7 a0 20 (KB + 0)) fun S11 => some (.inl x6, S11))))
set_option maxHeartbeats 2000000 in
set_option maxRecDepth 100000 in
theorem t2_X13_wipe {l : Launch} (hls : l.stackTraces = false) {C : cT} (hC : CX C cX13_wipe 2 yX13_wipe rm2_X13_wipe) (hl : C.2.1 = l) {S0 : mS} (hE : CE C S0 (Option.some Jvm.ClassFile.FieldType.int) []) {o : Rs Int32} {S : mS} {a0 : Nat} (h : f2_X13_wipe S a0 = some o) : XX C 2 (QQ C (fun r : Int32 => some (.int r)) S0 o) 0 0 S 0 [(0, .ref a0)] [] := by
  unfold f2_X13_wipe at h
  refine x_aload_n (pc := 0) hC 0 dX13_wipe_0 rfl rfl ?_
  refine x_iconst (pc := 1) (v := (0 : Int32)) hC dX13_wipe_1 (by decide) ?_
  obtain ⟨g1, h⟩ := gd_some h
  refine x_putIv (pc := 2) (k := 0) hC fc_19 fl_RX13_46 dX13_wipe_2 rfl rfl (nf_int _) g1 (fun S2 hS2 => ?_)
  replace h := zI_x hS2 h
  have g3 : gK S2 a0 = 19 := by rw [hS2]; exact g1
  refine x_aload_n (pc := 5) hC 0 dX13_wipe_5 rfl rfl ?_
  refine x_getRv (pc := 6) (k := 20) hC fc_19 fl_RX13_42 dX13_wipe_6 rfl g3 (fun r4 hr4 => ?_)
  replace h := lt_x hr4 h
  obtain ⟨g5, h⟩ := gd_some h
  obtain ⟨o8, ho8, h⟩ := bd_some h
  refine x_callVS (pc := 9) (As := []) (rest := []) hC hl (c2_J0_length_8abf5 l hls ho8) lk_RX13_356 rfl g5 dX13_wipe_9 rfl rfl (Nat.le_of_ble_eq_true rfl) ⟨Nat.le_of_ble_eq_true rfl, Nat.le_of_ble_eq_true rfl⟩ ⟨(Nat.le_of_ble_eq_true rfl), (Nat.le_of_ble_eq_true rfl)⟩ ?_
  rcases o8 with ⟨x6 | E9, S7⟩
  · refine xk_i ?_
    replace h := bk_l h
    refine x_istore_n (pc := 12) hC dX13_wipe_12 rfl (by decide) (by decide) rfl ?_
    refine x_aload_n (pc := 13) hC 1 dX13_wipe_13 rfl rfl ?_
    refine x_ldcK (pc := 14) (i := 0) (tx := "") hC (by decide) dX13_wipe_14 ?_
    obtain ⟨g10, h⟩ := gd_some h
    refine x_putRv (pc := 16) (k := 20) hC fc_19 fl_RX13_42 dX13_wipe_16 rfl rfl (Or.inl ⟨_, rfl⟩) g10 (fun S11 hS11 => ?_)
    replace h := zR_x hS11 h
    have g12 : gK S11 a0 = 19 := by rw [hS11]; exact g10
    refine x_iload_n (pc := 19) hC 0 dX13_wipe_19 rfl rfl ?_
    exact x_ireturn (pc := 20) hC hE dX13_wipe_20 (so h) (Nat.le_of_ble_eq_true rfl) (Nat.le_of_ble_eq_true rfl)
  · exact xk_r (xt_out hC hE (bk_r h) (Nat.le_of_ble_eq_true rfl) (Nat.le_of_ble_eq_true rfl))
theorem c2_X13_wipe (l : Launch) (hls : l.stackTraces = false) {S : mS} {a0 : Nat} {o : Rs Int32} (h : f2_X13_wipe S a0 = some o) : CT (fun r : Int32 => some (.int r)) l yX13_wipe (.code yX13_wipe cX13_wipe 2 (Option.some Jvm.ClassFile.FieldType.int)) rm2_X13_wipe S [.ref a0] o := ct_of (by decide +kernel) hls (Nat.le_of_ble_eq_true rfl) (fun C hl hC hE => t2_X13_wipe hls hC hl hE h)
abbrev rm2_J1_charAt_3b067 : Room := { frames := 10, cells := 0, slots := 0, locals := 193 }
def f2_J1_charAt_3b067 (S : mS) (a0 : Nat) (a1 : Int32) : Option (Rs Int32) :=
  gd ((a0 < KB ∧ gK S a0 = 33) ∨ (KB + 10 ≤ a0 ∧ a0 < KB + 13)) (lt9 (Int32.ofNat (zb S a0)) fun x2 => bd (f2_J0_checkIndex_df160 S a1 x2) fun _ S4 => gd ((a0 < KB ∧ gK S4 a0 = 33) ∨ (KB + 10 ≤ a0 ∧ a0 < KB + 13)) (gd (¬ (a1 < 0 ∨ zb S4 a0 ≤ (a1).toNatClampNeg)) (lt9 (ib S4 a0 (a1).toNatClampNeg) fun x9 => lt9 (x9 &&& (255 : Int32)) fun x10 => lt9 (((x10).toUInt32 % 65536).toInt32) fun x11 => gd ((x11.toUInt32.toUInt16.toUInt32.toInt32 = x11 ∧ 0 ≤ x11) ∧ x11 ≤ 65535) (some (.inl x11, S4)))))
set_option maxHeartbeats 2000000 in
set_option maxRecDepth 100000 in
theorem t2_J1_charAt_3b067 {l : Launch} (hls : l.stackTraces = false) {C : cT} (hC : CX C cJ1_charAt_3b067 2 yJ1_charAt_3b067 rm2_J1_charAt_3b067) (hl : C.2.1 = l) {S0 : mS} (hE : CE C S0 (Option.some Jvm.ClassFile.FieldType.char) []) {o : Rs Int32} {S : mS} {a0 : Nat} {a1 : Int32} (h : f2_J1_charAt_3b067 S a0 a1 = some o) : XX C 2 (QQ C (fun r : Int32 => some (.int r)) S0 o) 0 0 S 0 [(0, .ref a0), (1, .int a1)] [] := by
  unfold f2_J1_charAt_3b067 at h
  refine x_iload_n (pc := 0) hC 1 dJ1_charAt_3b067_0 rfl rfl ?_
  refine x_aload_n (pc := 1) hC 0 dJ1_charAt_3b067_1 rfl rfl ?_
  obtain ⟨g1, h⟩ := gd_some h
  refine x_alenB (pc := 2) hC dJ1_charAt_3b067_2 g1 (fun x2 hx2 => ?_)
  replace h := lt_x hx2 h
  obtain ⟨o5, ho5, h⟩ := bd_some h
  refine x_callS (pc := 3) (As := [.int a1, .int x2]) (rest := []) hC hl (c2_J0_checkIndex_df160 l hls ho5) lk_RJ1_9 dJ1_charAt_3b067_3 rfl rfl (Nat.le_of_ble_eq_true rfl) ⟨Nat.le_of_ble_eq_true rfl, Nat.le_of_ble_eq_true rfl⟩ ⟨(Nat.le_of_ble_eq_true rfl), (Nat.le_of_ble_eq_true rfl)⟩ ?_
  rcases o5 with ⟨_ | E6, S4⟩
  · refine xk_v ?_
    replace h := bk_l h
    refine x_aload_n (pc := 6) hC 0 dJ1_charAt_3b067_6 rfl rfl ?_
    refine x_iload_n (pc := 7) hC 1 dJ1_charAt_3b067_7 rfl rfl ?_
    obtain ⟨g7, h⟩ := gd_some h
    obtain ⟨g8, h⟩ := gd_some h
    refine x_yaldB (pc := 8) hC dJ1_charAt_3b067_8 g7 g8 (fun x9 hx9 => ?_)
    replace h := lt_x hx9 h
    refine x_sipush (pc := 9) (v := (255 : Int32)) hC dJ1_charAt_3b067_9 (by decide) ?_
    refine x_iandv (pc := 12) hC dJ1_charAt_3b067_12 (fun x10 hx10 => ?_)
    replace h := lt_x hx10 h
    refine x_i2cv (pc := 13) hC dJ1_charAt_3b067_13 (fun x11 hx11 => ?_)
    replace h := lt_x hx11 h
    obtain ⟨g12, h⟩ := gd_some h
    exact x_zreturn (pc := 14) hC hE dJ1_charAt_3b067_14 (nf_C g12).1 (so h) (Nat.le_of_ble_eq_true rfl) (Nat.le_of_ble_eq_true rfl)
  · exact xk_r (xt_out hC hE (bk_r h) (Nat.le_of_ble_eq_true rfl) (Nat.le_of_ble_eq_true rfl))
theorem c2_J1_charAt_3b067 (l : Launch) (hls : l.stackTraces = false) {S : mS} {a0 : Nat} {a1 : Int32} {o : Rs Int32} (h : f2_J1_charAt_3b067 S a0 a1 = some o) : CT (fun r : Int32 => some (.int r)) l yJ1_charAt_3b067 (.code yJ1_charAt_3b067 cJ1_charAt_3b067 2 (Option.some Jvm.ClassFile.FieldType.char)) rm2_J1_charAt_3b067 S [.ref a0, .int a1] o := ct_of (by decide +kernel) hls (Nat.le_of_ble_eq_true rfl) (fun C hl hC hE => t2_J1_charAt_3b067 hls hC hl hE h)
abbrev rm2_J2_charAt_3b067 : Room := { frames := 11, cells := 0, slots := 0, locals := 214 }
def f2_J2_charAt_3b067 (S : mS) (a0 : Nat) (a1 : Int32) : Option (Rs Int32) :=
  bd (f2_J2_checkIndex_2214a S a1 a0) fun _ S2 => bd (f2_J2_getChar_3b067 S2 a0 a1) fun x5 S6 => gd ((x5.toUInt32.toUInt16.toUInt32.toInt32 = x5 ∧ 0 ≤ x5) ∧ x5 ≤ 65535) (some (.inl x5, S6))
set_option maxHeartbeats 2000000 in
set_option maxRecDepth 100000 in
theorem t2_J2_charAt_3b067 {l : Launch} (hls : l.stackTraces = false) {C : cT} (hC : CX C cJ2_charAt_3b067 2 yJ2_charAt_3b067 rm2_J2_charAt_3b067) (hl : C.2.1 = l) {S0 : mS} (hE : CE C S0 (Option.some Jvm.ClassFile.FieldType.char) []) {o : Rs Int32} {S : mS} {a0 : Nat} {a1 : Int32} (h : f2_J2_charAt_3b067 S a0 a1 = some o) : XX C 2 (QQ C (fun r : Int32 => some (.int r)) S0 o) 0 0 S 0 [(0, .ref a0), (1, .int a1)] [] := by
  unfold f2_J2_charAt_3b067 at h
  refine x_iload_n (pc := 0) hC 1 dJ2_charAt_3b067_0 rfl rfl ?_
  refine x_aload_n (pc := 1) hC 0 dJ2_charAt_3b067_1 rfl rfl ?_
  obtain ⟨o3, ho3, h⟩ := bd_some h
  refine x_callS (pc := 2) (As := [.int a1, .ref a0]) (rest := []) hC hl (c2_J2_checkIndex_2214a l hls ho3) lk_RJ2_67 dJ2_charAt_3b067_2 rfl rfl (Nat.le_of_ble_eq_true rfl) ⟨Nat.le_of_ble_eq_true rfl, Nat.le_of_ble_eq_true rfl⟩ ⟨(Nat.le_of_ble_eq_true rfl), (Nat.le_of_ble_eq_true rfl)⟩ ?_
  rcases o3 with ⟨_ | E4, S2⟩
  · refine xk_v ?_
    replace h := bk_l h
    refine x_aload_n (pc := 5) hC 0 dJ2_charAt_3b067_5 rfl rfl ?_
    refine x_iload_n (pc := 6) hC 1 dJ2_charAt_3b067_6 rfl rfl ?_
    obtain ⟨o7, ho7, h⟩ := bd_some h
    refine x_callS (pc := 7) (As := [.ref a0, .int a1]) (rest := []) hC hl (c2_J2_getChar_3b067 l hls ho7) lk_RJ2_71 dJ2_charAt_3b067_7 rfl rfl (Nat.le_of_ble_eq_true rfl) ⟨Nat.le_of_ble_eq_true rfl, Nat.le_of_ble_eq_true rfl⟩ ⟨(Nat.le_of_ble_eq_true rfl), (Nat.le_of_ble_eq_true rfl)⟩ ?_
    rcases o7 with ⟨x5 | E8, S6⟩
    · refine xk_i ?_
      replace h := bk_l h
      obtain ⟨g9, h⟩ := gd_some h
      exact x_zreturn (pc := 10) hC hE dJ2_charAt_3b067_10 (nf_C g9).1 (so h) (Nat.le_of_ble_eq_true rfl) (Nat.le_of_ble_eq_true rfl)
    · exact xk_r (xt_out hC hE (bk_r h) (Nat.le_of_ble_eq_true rfl) (Nat.le_of_ble_eq_true rfl))
  · exact xk_r (xt_out hC hE (bk_r h) (Nat.le_of_ble_eq_true rfl) (Nat.le_of_ble_eq_true rfl))
theorem c2_J2_charAt_3b067 (l : Launch) (hls : l.stackTraces = false) {S : mS} {a0 : Nat} {a1 : Int32} {o : Rs Int32} (h : f2_J2_charAt_3b067 S a0 a1 = some o) : CT (fun r : Int32 => some (.int r)) l yJ2_charAt_3b067 (.code yJ2_charAt_3b067 cJ2_charAt_3b067 2 (Option.some Jvm.ClassFile.FieldType.char)) rm2_J2_charAt_3b067 S [.ref a0, .int a1] o := ct_of (by decide +kernel) hls (Nat.le_of_ble_eq_true rfl) (fun C hl hC hE => t2_J2_charAt_3b067 hls hC hl hE h)
abbrev rm2_J0_charAt_5068e : Room := { frames := 12, cells := 0, slots := 0, locals := 235 }
def f2_J0_charAt_5068e (S : mS) (a0 : Nat) (a1 : Int32) : Option (Rs Int32) :=
  gd ((a0 < KB ∧ gK S a0 = 1) ∨ (KB ≤ a0 ∧ a0 < KB + 3)) (bd (f2_J0_isLatin1_aae02 S a0) fun x2 S3 => if x2 = 0 then (gd ((a0 < KB ∧ gK S3 a0 = 1) ∨ (KB ≤ a0 ∧ a0 < KB + 3)) (lt9 (if a0 < KB then gR S3 a0 0 else a0 + 10) fun r7 => bd (f2_J2_charAt_3b067 S3 r7 a1) fun x8 S9 => gd ((x8.toUInt32.toUInt16.toUInt32.toInt32 = x8 ∧ 0 ≤ x8) ∧ x8 ≤ 65535) (some (.inl x8, S9)))) else (gd ((a0 < KB ∧ gK S3 a0 = 1) ∨ (KB ≤ a0 ∧ a0 < KB + 3)) (lt9 (if a0 < KB then gR S3 a0 0 else a0 + 10) fun r14 => bd (f2_J1_charAt_3b067 S3 r14 a1) fun x15 S16 => gd ((x15.toUInt32.toUInt16.toUInt32.toInt32 = x15 ∧ 0 ≤ x15) ∧ x15 ≤ 65535) (some (.inl x15, S16)))))
set_option maxHeartbeats 2000000 in
set_option maxRecDepth 100000 in
theorem t2_J0_charAt_5068e {l : Launch} (hls : l.stackTraces = false) {C : cT} (hC : CX C cJ0_charAt_5068e 2 yJ0_charAt_5068e rm2_J0_charAt_5068e) (hl : C.2.1 = l) {S0 : mS} (hE : CE C S0 (Option.some Jvm.ClassFile.FieldType.char) []) {o : Rs Int32} {S : mS} {a0 : Nat} {a1 : Int32} (h : f2_J0_charAt_5068e S a0 a1 = some o) : XX C 2 (QQ C (fun r : Int32 => some (.int r)) S0 o) 0 0 S 0 [(0, .ref a0), (1, .int a1)] [] := by
  unfold f2_J0_charAt_5068e at h
  refine x_aload_n (pc := 0) hC 0 dJ0_charAt_5068e_0 rfl rfl ?_
  obtain ⟨g1, h⟩ := gd_some h
  obtain ⟨o4, ho4, h⟩ := bd_some h
  refine x_callVS (pc := 1) (As := []) (rest := []) hC hl (c2_J0_isLatin1_aae02 l hls ho4) lk_RJ0_492 rfl g1 dJ0_charAt_5068e_1 rfl rfl (Nat.le_of_ble_eq_true rfl) ⟨Nat.le_of_ble_eq_true rfl, Nat.le_of_ble_eq_true rfl⟩ ⟨(Nat.le_of_ble_eq_true rfl), (Nat.le_of_ble_eq_true rfl)⟩ ?_
  rcases o4 with ⟨x2 | E5, S3⟩
  · refine xk_i ?_
    replace h := bk_l h
    refine x_if_eq (pc := 4) hC 16 dJ0_charAt_5068e_4 (by decide) (fun c20 => ?_) (fun c20 => ?_)
    · rw [if_pos c20] at h
      refine x_aload_n (pc := 16) hC 0 dJ0_charAt_5068e_16 rfl rfl ?_
      obtain ⟨g6, h⟩ := gd_some h
      refine x_getSvv (pc := 17) hC wm_2554 dJ0_charAt_5068e_17 g6 (fun r7 hr7 => ?_)
      replace h := lt_x hr7 h
      refine x_iload_n (pc := 20) hC 1 dJ0_charAt_5068e_20 rfl rfl ?_
      obtain ⟨o10, ho10, h⟩ := bd_some h
      refine x_callS (pc := 21) (As := [.ref r7, .int a1]) (rest := []) hC hl (c2_J2_charAt_3b067 l hls ho10) lk_RJ0_498 dJ0_charAt_5068e_21 rfl rfl (Nat.le_of_ble_eq_true rfl) ⟨Nat.le_of_ble_eq_true rfl, Nat.le_of_ble_eq_true rfl⟩ ⟨(Nat.le_of_ble_eq_true rfl), (Nat.le_of_ble_eq_true rfl)⟩ ?_
      rcases o10 with ⟨x8 | E11, S9⟩
      · refine xk_i ?_
        replace h := bk_l h
        obtain ⟨g12, h⟩ := gd_some h
        exact x_zreturn (pc := 24) hC hE dJ0_charAt_5068e_24 (nf_C g12).1 (so h) (Nat.le_of_ble_eq_true rfl) (Nat.le_of_ble_eq_true rfl)
      · exact xk_r (xt_out hC hE (bk_r h) (Nat.le_of_ble_eq_true rfl) (Nat.le_of_ble_eq_true rfl))
    · rw [if_neg c20] at h
      refine x_aload_n (pc := 7) hC 0 dJ0_charAt_5068e_7 rfl rfl ?_
      obtain ⟨g13, h⟩ := gd_some h
      refine x_getSvv (pc := 8) hC wm_2554 dJ0_charAt_5068e_8 g13 (fun r14 hr14 => ?_)
      replace h := lt_x hr14 h
      refine x_iload_n (pc := 11) hC 1 dJ0_charAt_5068e_11 rfl rfl ?_
      obtain ⟨o17, ho17, h⟩ := bd_some h
      refine x_callS (pc := 12) (As := [.ref r14, .int a1]) (rest := []) hC hl (c2_J1_charAt_3b067 l hls ho17) lk_RJ0_495 dJ0_charAt_5068e_12 rfl rfl (Nat.le_of_ble_eq_true rfl) ⟨Nat.le_of_ble_eq_true rfl, Nat.le_of_ble_eq_true rfl⟩ ⟨(Nat.le_of_ble_eq_true rfl), (Nat.le_of_ble_eq_true rfl)⟩ ?_
      rcases o17 with ⟨x15 | E18, S16⟩
      · refine xk_i ?_
        replace h := bk_l h
        obtain ⟨g19, h⟩ := gd_some h
        exact x_zreturn (pc := 15) hC hE dJ0_charAt_5068e_15 (nf_C g19).1 (so h) (Nat.le_of_ble_eq_true rfl) (Nat.le_of_ble_eq_true rfl)
      · exact xk_r (xt_out hC hE (bk_r h) (Nat.le_of_ble_eq_true rfl) (Nat.le_of_ble_eq_true rfl))
  · exact xk_r (xt_out hC hE (bk_r h) (Nat.le_of_ble_eq_true rfl) (Nat.le_of_ble_eq_true rfl))
theorem c2_J0_charAt_5068e (l : Launch) (hls : l.stackTraces = false) {S : mS} {a0 : Nat} {a1 : Int32} {o : Rs Int32} (h : f2_J0_charAt_5068e S a0 a1 = some o) : CT (fun r : Int32 => some (.int r)) l yJ0_charAt_5068e (.code yJ0_charAt_5068e cJ0_charAt_5068e 2 (Option.some Jvm.ClassFile.FieldType.char)) rm2_J0_charAt_5068e S [.ref a0, .int a1] o := ct_of (by decide +kernel) hls (Nat.le_of_ble_eq_true rfl) (fun C hl hC hE => t2_J0_charAt_5068e hls hC hl hE h)
abbrev rm2_J0_isEmpty_aae02 : Room := { frames := 8, cells := 0, slots := 0, locals := 150 }
def f2_J0_isEmpty_aae02_13  (S : mS) (s0 : Int32) : Option (Rs Int32) :=
  gd (s0 = 0 ∨ s0 = 1) (some (.inl s0, S))
set_option maxHeartbeats 2000000 in
set_option maxRecDepth 100000 in
theorem t2_J0_isEmpty_aae02_13 {l : Launch} (hls : l.stackTraces = false) {C : cT} (hC : CX C cJ0_isEmpty_aae02 1 yJ0_isEmpty_aae02 rm2_J0_isEmpty_aae02) (hl : C.2.1 = l) {S0 : mS} (hE : CE C S0 (Option.some Jvm.ClassFile.FieldType.boolean) []) {o : Rs Int32} {S : mS} {s0 : Int32} (h : f2_J0_isEmpty_aae02_13  S s0 = some o) : XX C 1 (QQ C (fun r : Int32 => some (.int r)) S0 o) (0) (0) S 13 [] [.int s0] := by
  unfold f2_J0_isEmpty_aae02_13 at h
  obtain ⟨g1, h⟩ := gd_some h
  exact x_zreturn (pc := 13) hC hE dJ0_isEmpty_aae02_13 (nf_B g1).1 (so h) (Nat.le_of_ble_eq_true rfl) (Nat.le_of_ble_eq_true rfl)
def f2_J0_isEmpty_aae02 (S : mS) (a0 : Nat) : Option (Rs Int32) :=
  gd ((a0 < KB ∧ gK S a0 = 1) ∨ (KB ≤ a0 ∧ a0 < KB + 3)) (lt9 (if a0 < KB then gR S a0 0 else a0 + 10) fun r2 => gd ((r2 < KB ∧ gK S r2 = 33) ∨ (KB + 10 ≤ r2 ∧ r2 < KB + 13)) (lt9 (Int32.ofNat (zb S r2)) fun x4 => if x4 = 0 then (f2_J0_isEmpty_aae02_13  S (1 : Int32)) else (f2_J0_isEmpty_aae02_13  S (0 : Int32))))
set_option maxHeartbeats 2000000 in
set_option maxRecDepth 100000 in
theorem t2_J0_isEmpty_aae02 {l : Launch} (hls : l.stackTraces = false) {C : cT} (hC : CX C cJ0_isEmpty_aae02 1 yJ0_isEmpty_aae02 rm2_J0_isEmpty_aae02) (hl : C.2.1 = l) {S0 : mS} (hE : CE C S0 (Option.some Jvm.ClassFile.FieldType.boolean) []) {o : Rs Int32} {S : mS} {a0 : Nat} (h : f2_J0_isEmpty_aae02 S a0 = some o) : XX C 1 (QQ C (fun r : Int32 => some (.int r)) S0 o) 0 0 S 0 [(0, .ref a0)] [] := by
  unfold f2_J0_isEmpty_aae02 at h
  refine x_aload_n (pc := 0) hC 0 dJ0_isEmpty_aae02_0 rfl rfl ?_
  obtain ⟨g1, h⟩ := gd_some h
  refine x_getSvv (pc := 1) hC wm_2554 dJ0_isEmpty_aae02_1 g1 (fun r2 hr2 => ?_)
  replace h := lt_x hr2 h
  obtain ⟨g3, h⟩ := gd_some h
  refine x_alenB (pc := 4) hC dJ0_isEmpty_aae02_4 g3 (fun x4 hx4 => ?_)
  replace h := lt_x hx4 h
  refine x_if_ne (pc := 5) hC 12 dJ0_isEmpty_aae02_5 (by decide) (fun c5 => ?_) (fun c5 => ?_)
  · rw [if_neg c5] at h
    refine x_iconst (pc := 12) (v := (0 : Int32)) hC dJ0_isEmpty_aae02_12 (by decide) ?_
    refine x_pick [] rfl ?_
    exact t2_J0_isEmpty_aae02_13 hls hC hl hE h
  · rw [if_pos c5] at h
    refine x_iconst (pc := 8) (v := (1 : Int32)) hC dJ0_isEmpty_aae02_8 (by decide) ?_
    refine x_goto (pc := 9) hC 13 dJ0_isEmpty_aae02_9 (by decide) ?_
    refine x_pick [] rfl ?_
    exact t2_J0_isEmpty_aae02_13 hls hC hl hE h
theorem c2_J0_isEmpty_aae02 (l : Launch) (hls : l.stackTraces = false) {S : mS} {a0 : Nat} {o : Rs Int32} (h : f2_J0_isEmpty_aae02 S a0 = some o) : CT (fun r : Int32 => some (.int r)) l yJ0_isEmpty_aae02 (.code yJ0_isEmpty_aae02 cJ0_isEmpty_aae02 1 (Option.some Jvm.ClassFile.FieldType.boolean)) rm2_J0_isEmpty_aae02 S [.ref a0] o := ct_of (by decide +kernel) hls (Nat.le_of_ble_eq_true rfl) (fun C hl hC hE => t2_J0_isEmpty_aae02 hls hC hl hE h)
abbrev rm2_X13_badSign : Room := { frames := 13, cells := 0, slots := 0, locals := 256 }
def f2_X13_badSign_65  (S : mS) (a1 : Int32) : Option (Rs Int32) :=
  some (.inl a1, S)
set_option maxHeartbeats 2000000 in
set_option maxRecDepth 100000 in
theorem t2_X13_badSign_65 {l : Launch} (hls : l.stackTraces = false) {C : cT} (hC : CX C cX13_badSign 4 yX13_badSign rm2_X13_badSign) (hl : C.2.1 = l) {S0 : mS} (hE : CE C S0 (Option.some Jvm.ClassFile.FieldType.int) []) {o : Rs Int32} {S : mS} {a1 : Int32} (h : f2_X13_badSign_65  S a1 = some o) : XX C 4 (QQ C (fun r : Int32 => some (.int r)) S0 o) (0) (0) S 65 [(1, .int a1)] [] := by
  unfold f2_X13_badSign_65 at h
  refine x_iload_n (pc := 65) hC 0 dX13_badSign_65 rfl rfl ?_
  exact x_ireturn (pc := 66) hC hE dX13_badSign_66 (so h) (Nat.le_of_ble_eq_true rfl) (Nat.le_of_ble_eq_true rfl)
def f2_X13_badSign_14  : Nat → mS → Nat → Int32 → Option (Rs Int32)
  | 0, _, _, _ => none
  | k + 1, S, a0, a1 => gd (gK S a0 = 19) (lt9 (gR S a0 20) fun r2 => gd ((r2 < KB ∧ gK S r2 = 1) ∨ (KB ≤ r2 ∧ r2 < KB + 3)) (bd (f2_J0_length_8abf5 S r2) fun x4 S5 => if x4 ≤ a1 then (some (.inl (-1 : Int32), S5)) else (gd (gK S5 a0 = 19) (lt9 (gR S5 a0 20) fun r9 => gd ((r9 < KB ∧ gK S5 r9 = 1) ∨ (KB ≤ r9 ∧ r9 < KB + 3)) (bd (f2_J0_charAt_5068e S5 r9 a1) fun x11 S12 => bd (f_X13_isBetween S12 x11 (65 : Int32) (68 : Int32)) fun x15 S16 => if x15 = 0 then (if a1 = 0 then (f2_X13_badSign_65  S16 a1) else (none)) else (lt9 (a1 + Int32.ofInt (1)) fun x20 => f2_X13_badSign_14 k S16 a0 x20))))))
set_option maxHeartbeats 2000000 in
set_option maxRecDepth 100000 in
theorem t2_X13_badSign_14 {l : Launch} (hls : l.stackTraces = false) {C : cT} (hC : CX C cX13_badSign 4 yX13_badSign rm2_X13_badSign) (hl : C.2.1 = l) {S0 : mS} (hE : CE C S0 (Option.some Jvm.ClassFile.FieldType.int) []) {o : Rs Int32} : ∀ (k : Nat) (S : mS) (a0 : Nat) (a1 : Int32), f2_X13_badSign_14  k S a0 a1 = some o → XX C 4 (QQ C (fun r : Int32 => some (.int r)) S0 o) (0) (0) S 14 [(0, .ref a0), (1, .int a1)] [] := by
  intro k
  induction k with
  | zero => intro S a0 a1 h; cases h
  | succ k ih =>
    intro S a0 a1 h
    unfold f2_X13_badSign_14 at h
    refine x_iload_n (pc := 14) hC 1 dX13_badSign_14 rfl rfl ?_
    refine x_aload_n (pc := 15) hC 0 dX13_badSign_15 rfl rfl ?_
    obtain ⟨g1, h⟩ := gd_some h
    refine x_getRv (pc := 16) (k := 20) hC fc_19 fl_RX13_42 dX13_badSign_16 rfl g1 (fun r2 hr2 => ?_)
    replace h := lt_x hr2 h
    obtain ⟨g3, h⟩ := gd_some h
    obtain ⟨o6, ho6, h⟩ := bd_some h
    refine x_callVS (pc := 19) (As := []) (rest := [.int a1]) hC hl (c2_J0_length_8abf5 l hls ho6) lk_RX13_356 rfl g3 dX13_badSign_19 rfl rfl (Nat.le_of_ble_eq_true rfl) ⟨Nat.le_of_ble_eq_true rfl, Nat.le_of_ble_eq_true rfl⟩ ⟨(Nat.le_of_ble_eq_true rfl), (Nat.le_of_ble_eq_true rfl)⟩ ?_
    rcases o6 with ⟨x4 | E7, S5⟩
    · refine xk_i ?_
      replace h := bk_l h
      refine x_icmp_ge (pc := 22) hC 136 dX13_badSign_22 (by decide) (fun c22 => ?_) (fun c22 => ?_)
      · rw [if_pos c22] at h
        refine x_iconst (pc := 136) (v := (-1 : Int32)) hC dX13_badSign_136 (by decide) ?_
        exact x_ireturn (pc := 137) hC hE dX13_badSign_137 (so h) (Nat.le_of_ble_eq_true rfl) (Nat.le_of_ble_eq_true rfl)
      · rw [if_neg c22] at h
        refine x_aload_n (pc := 25) hC 0 dX13_badSign_25 rfl rfl ?_
        obtain ⟨g8, h⟩ := gd_some h
        refine x_getRv (pc := 26) (k := 20) hC fc_19 fl_RX13_42 dX13_badSign_26 rfl g8 (fun r9 hr9 => ?_)
        replace h := lt_x hr9 h
        refine x_iload_n (pc := 29) hC 1 dX13_badSign_29 rfl rfl ?_
        obtain ⟨g10, h⟩ := gd_some h
        obtain ⟨o13, ho13, h⟩ := bd_some h
        refine x_callVS (pc := 30) (As := [.int a1]) (rest := []) hC hl (c2_J0_charAt_5068e l hls ho13) lk_RX13_375 rfl g10 dX13_badSign_30 rfl rfl (Nat.le_of_ble_eq_true rfl) ⟨Nat.le_of_ble_eq_true rfl, Nat.le_of_ble_eq_true rfl⟩ ⟨(Nat.le_of_ble_eq_true rfl), (Nat.le_of_ble_eq_true rfl)⟩ ?_
        rcases o13 with ⟨x11 | E14, S12⟩
        · refine xk_i ?_
          replace h := bk_l h
          refine x_istore_n (pc := 33) hC dX13_badSign_33 rfl (by decide) (by decide) rfl ?_
          refine x_iload_n (pc := 34) hC 0 dX13_badSign_34 rfl rfl ?_
          refine x_bipush (pc := 35) (v := (65 : Int32)) hC dX13_badSign_35 (by decide) ?_
          refine x_bipush (pc := 37) (v := (68 : Int32)) hC dX13_badSign_37 (by decide) ?_
          obtain ⟨o17, ho17, h⟩ := bd_some h
          refine x_callS (pc := 39) (As := [.int x11, .int (65 : Int32), .int (68 : Int32)]) (rest := []) hC hl (c_X13_isBetween l hls ho17) lk_RX13_50 dX13_badSign_39 rfl rfl (Nat.le_of_ble_eq_true rfl) ⟨Nat.le_of_ble_eq_true rfl, Nat.le_of_ble_eq_true rfl⟩ ⟨(Nat.le_of_ble_eq_true rfl), (Nat.le_of_ble_eq_true rfl)⟩ ?_
          rcases o17 with ⟨x15 | E18, S16⟩
          · refine xk_i ?_
            replace h := bk_l h
            refine x_if_eq (pc := 42) hC 51 dX13_badSign_42 (by decide) (fun c21 => ?_) (fun c21 => ?_)
            · rw [if_pos c21] at h
              refine x_iload_n (pc := 51) hC 2 dX13_badSign_51 rfl rfl ?_
              refine x_if_eq (pc := 52) hC 65 dX13_badSign_52 (by decide) (fun c19 => ?_) (fun c19 => ?_)
              · rw [if_pos c19] at h
                refine x_pick [2] rfl ?_
                exact t2_X13_badSign_65 hls hC hl hE h
              · rw [if_neg c19] at h
                cases h
            · rw [if_neg c21] at h
              obtain ⟨x20, hx20⟩ : ∃ z, z = (a1 + Int32.ofInt (1)) := ⟨_, rfl⟩
              replace h := lt_x hx20 h
              refine x_iinc (pc := 45) hC 2 dX13_badSign_45 rfl hx20.symm (by decide) (by decide) rfl ?_
              refine x_goto (pc := 48) hC 14 dX13_badSign_48 (by decide) ?_
              refine x_pick [2, 0] rfl ?_
              exact ih _ _ _ h
          · exact xk_r (xt_out hC hE (bk_r h) (Nat.le_of_ble_eq_true rfl) (Nat.le_of_ble_eq_true rfl))
        · exact xk_r (xt_out hC hE (bk_r h) (Nat.le_of_ble_eq_true rfl) (Nat.le_of_ble_eq_true rfl))
    · exact xk_r (xt_out hC hE (bk_r h) (Nat.le_of_ble_eq_true rfl) (Nat.le_of_ble_eq_true rfl))
def f2_X13_badSign (S : mS) (a0 : Nat) : Option (Rs Int32) :=
  gd (gK S a0 = 19) (lt9 (gR S a0 20) fun r2 => gd ((r2 < KB ∧ gK S r2 = 1) ∨ (KB ≤ r2 ∧ r2 < KB + 3)) (bd (f2_J0_isEmpty_aae02 S r2) fun x4 S5 => if x4 = 0 then (f2_X13_badSign_14  16 S5 a0 (0 : Int32)) else (some (.inl (0 : Int32), S5))))
set_option maxHeartbeats 2000000 in
set_option maxRecDepth 100000 in
theorem t2_X13_badSign {l : Launch} (hls : l.stackTraces = false) {C : cT} (hC : CX C cX13_badSign 4 yX13_badSign rm2_X13_badSign) (hl : C.2.1 = l) {S0 : mS} (hE : CE C S0 (Option.some Jvm.ClassFile.FieldType.int) []) {o : Rs Int32} {S : mS} {a0 : Nat} (h : f2_X13_badSign S a0 = some o) : XX C 4 (QQ C (fun r : Int32 => some (.int r)) S0 o) 0 0 S 0 [(0, .ref a0)] [] := by
  unfold f2_X13_badSign at h
  refine x_aload_n (pc := 0) hC 0 dX13_badSign_0 rfl rfl ?_
  obtain ⟨g1, h⟩ := gd_some h
  refine x_getRv (pc := 1) (k := 20) hC fc_19 fl_RX13_42 dX13_badSign_1 rfl g1 (fun r2 hr2 => ?_)
  replace h := lt_x hr2 h
  obtain ⟨g3, h⟩ := gd_some h
  obtain ⟨o6, ho6, h⟩ := bd_some h
  refine x_callVS (pc := 4) (As := []) (rest := []) hC hl (c2_J0_isEmpty_aae02 l hls ho6) lk_RX13_373 rfl g3 dX13_badSign_4 rfl rfl (Nat.le_of_ble_eq_true rfl) ⟨Nat.le_of_ble_eq_true rfl, Nat.le_of_ble_eq_true rfl⟩ ⟨(Nat.le_of_ble_eq_true rfl), (Nat.le_of_ble_eq_true rfl)⟩ ?_
  rcases o6 with ⟨x4 | E7, S5⟩
  · refine xk_i ?_
    replace h := bk_l h
    refine x_if_eq (pc := 7) hC 12 dX13_badSign_7 (by decide) (fun c8 => ?_) (fun c8 => ?_)
    · rw [if_pos c8] at h
      refine x_iconst (pc := 12) (v := (0 : Int32)) hC dX13_badSign_12 (by decide) ?_
      refine x_istore_n (pc := 13) hC dX13_badSign_13 rfl (by decide) (by decide) rfl ?_
      refine x_pick [1, 0] rfl ?_
      exact t2_X13_badSign_14 hls hC hl hE 16 _ _ _ h
    · rw [if_neg c8] at h
      refine x_iconst (pc := 10) (v := (0 : Int32)) hC dX13_badSign_10 (by decide) ?_
      exact x_ireturn (pc := 11) hC hE dX13_badSign_11 (so h) (Nat.le_of_ble_eq_true rfl) (Nat.le_of_ble_eq_true rfl)
  · exact xk_r (xt_out hC hE (bk_r h) (Nat.le_of_ble_eq_true rfl) (Nat.le_of_ble_eq_true rfl))
theorem c2_X13_badSign (l : Launch) (hls : l.stackTraces = false) {S : mS} {a0 : Nat} {o : Rs Int32} (h : f2_X13_badSign S a0 = some o) : CT (fun r : Int32 => some (.int r)) l yX13_badSign (.code yX13_badSign cX13_badSign 4 (Option.some Jvm.ClassFile.FieldType.int)) rm2_X13_badSign S [.ref a0] o := ct_of (by decide +kernel) hls (Nat.le_of_ble_eq_true rfl) (fun C hl hC hE => t2_X13_badSign hls hC hl hE h)
abbrev rm2_X13_does : Room := { frames := 8, cells := 0, slots := 0, locals := 150 }
def f2_X13_does (S : mS) (a0 : Nat) (a1 : Int32) (a2 : Int32) : Option (Rs Int32) :=
  none
set_option maxHeartbeats 2000000 in
set_option maxRecDepth 100000 in
theorem t2_X13_does {l : Launch} (hls : l.stackTraces = false) {C : cT} (hC : CX C cX13_does 3 yX13_does rm2_X13_does) (hl : C.2.1 = l) {S0 : mS} (hE : CE C S0 (Option.some Jvm.ClassFile.FieldType.char) []) {o : Rs Int32} {S : mS} {a0 : Nat} {a1 : Int32} {a2 : Int32} (h : f2_X13_does S a0 a1 a2 = some o) : XX C 3 (QQ C (fun r : Int32 => some (.int r)) S0 o) 0 0 S 0 [(0, .ref a0), (1, .int a1), (2, .int a2)] [] := by
  unfold f2_X13_does at h
  cases h
theorem c2_X13_does (l : Launch) (hls : l.stackTraces = false) {S : mS} {a0 : Nat} {a1 : Int32} {a2 : Int32} {o : Rs Int32} (h : f2_X13_does S a0 a1 a2 = some o) : CT (fun r : Int32 => some (.int r)) l yX13_does (.code yX13_does cX13_does 3 (Option.some Jvm.ClassFile.FieldType.char)) rm2_X13_does S [.ref a0, .int a1, .int a2] o := ct_of (by decide +kernel) hls (Nat.le_of_ble_eq_true rfl) (fun C hl hC hE => t2_X13_does hls hC hl hE h)
abbrev rm2_X13_perform : Room := { frames := 14, cells := 17, slots := 108, locals := 279 }
def f2_X13_perform_265 (rc95 : mS → Nat → Nat → Int32 → Int32 → Int32 → Option (Rs Int32)) (S : mS) (a0 : Nat) (a2 : Nat) (a3 : Int32) (a4 : Int32) (a5 : Int32) : Option (Rs Int32) :=
  lt9 (a5 + Int32.ofInt (1)) fun x1 => rc95 S a0 a2 a3 a4 x1
set_option maxHeartbeats 2000000 in
set_option maxRecDepth 100000 in
theorem t2_X13_perform_265 {l : Launch} (hls : l.stackTraces = false) {C : cT} (hC : CX C cX13_perform 10 yX13_perform rm2_X13_perform) (hl : C.2.1 = l) {S0 : mS} (hE : CE C S0 (Option.some Jvm.ClassFile.FieldType.int) []) {o : Rs Int32} {rc95 : mS → Nat → Nat → Int32 → Int32 → Int32 → Option (Rs Int32)} (hrc95 : ∀ (S : mS) (a0 : Nat) (a2 : Nat) (a3 : Int32) (a4 : Int32) (a5 : Int32), rc95 S a0 a2 a3 a4 a5 = some o → XX C 10 (QQ C (fun r : Int32 => some (.int r)) S0 o) (17) (108) S 95 [(0, .ref a0), (2, .ref a2), (3, .int a3), (4, .int a4), (5, .int a5)] []) {S : mS} {a0 : Nat} {a2 : Nat} {a3 : Int32} {a4 : Int32} {a5 : Int32} (h : f2_X13_perform_265 rc95 S a0 a2 a3 a4 a5 = some o) : XX C 10 (QQ C (fun r : Int32 => some (.int r)) S0 o) (17) (108) S 265 [(0, .ref a0), (2, .ref a2), (3, .int a3), (4, .int a4), (5, .int a5)] [] := by
  unfold f2_X13_perform_265 at h
  obtain ⟨x1, hx1⟩ : ∃ z, z = (a5 + Int32.ofInt (1)) := ⟨_, rfl⟩
  replace h := lt_x hx1 h
  refine x_iinc (pc := 265) hC 4 dX13_perform_265 rfl hx1.symm (by decide) (by decide) rfl ?_
  refine x_goto (pc := 268) hC 95 dX13_perform_268 (by decide) ?_
  refine x_pick [1, 2, 3, 4, 0] rfl ?_
  exact hrc95 _ _ _ _ _ _ h
def f2_X13_perform_95  : Nat → mS → Nat → Nat → Int32 → Int32 → Int32 → Option (Rs Int32)
  | 0, _, _, _, _, _, _ => none
  | k + 1, S, a0, a2, a3, a4, a5 => gd (gK S a0 = 19) (lt9 (gR S a0 20) fun r2 => gd ((r2 < KB ∧ gK S r2 = 1) ∨ (KB ≤ r2 ∧ r2 < KB + 3)) (bd (f2_J0_length_8abf5 S r2) fun x4 S5 => if x4 ≤ a5 then (gd (gK S5 a0 = 19) (zR (sR S5 a0 20 (KB + 0)) fun S9 => bd (f_X13_logs S9 a0) fun _ S12 => some (.inl a4, S12))) else (gd (gK S5 a0 = 19) (lt9 (gR S5 a0 20) fun r16 => gd ((r16 < KB ∧ gK S5 r16 = 1) ∨ (KB ≤ r16 ∧ r16 < KB + 3)) (bd (f2_J0_charAt_5068e S5 r16 a5) fun x18 S19 => bd (f_X13_isBetween S19 x18 (65 : Int32) (68 : Int32)) fun x22 S23 => if x22 = 0 then (none) else (lt9 (x18 - (65 : Int32)) fun x26 => f2_X13_perform_265 (f2_X13_perform_95 k) S23 a0 a2 x26 a4 a5))))))
set_option maxHeartbeats 2000000 in
set_option maxRecDepth 100000 in
theorem t2_X13_perform_95 {l : Launch} (hls : l.stackTraces = false) {C : cT} (hC : CX C cX13_perform 10 yX13_perform rm2_X13_perform) (hl : C.2.1 = l) {S0 : mS} (hE : CE C S0 (Option.some Jvm.ClassFile.FieldType.int) []) {o : Rs Int32} : ∀ (k : Nat) (S : mS) (a0 : Nat) (a2 : Nat) (a3 : Int32) (a4 : Int32) (a5 : Int32), f2_X13_perform_95  k S a0 a2 a3 a4 a5 = some o → XX C 10 (QQ C (fun r : Int32 => some (.int r)) S0 o) (17) (108) S 95 [(0, .ref a0), (2, .ref a2), (3, .int a3), (4, .int a4), (5, .int a5)] [] := by
  intro k
  induction k with
  | zero => intro S a0 a2 a3 a4 a5 h; cases h
  | succ k ih =>
    intro S a0 a2 a3 a4 a5 h
    unfold f2_X13_perform_95 at h
    refine x_iload (pc := 95) hC 4 dX13_perform_95 rfl ?_
    refine x_aload_n (pc := 97) hC 0 dX13_perform_97 rfl rfl ?_
    obtain ⟨g1, h⟩ := gd_some h
    refine x_getRv (pc := 98) (k := 20) hC fc_19 fl_RX13_42 dX13_perform_98 rfl g1 (fun r2 hr2 => ?_)
    replace h := lt_x hr2 h
    obtain ⟨g3, h⟩ := gd_some h
    obtain ⟨o6, ho6, h⟩ := bd_some h
    refine x_callVS (pc := 101) (As := []) (rest := [.int a5]) hC hl (c2_J0_length_8abf5 l hls ho6) lk_RX13_356 rfl g3 dX13_perform_101 rfl rfl (Nat.le_of_ble_eq_true rfl) ⟨Nat.le_of_ble_eq_true rfl, Nat.le_of_ble_eq_true rfl⟩ ⟨(Nat.le_of_ble_eq_true rfl), (Nat.le_of_ble_eq_true rfl)⟩ ?_
    rcases o6 with ⟨x4 | E7, S5⟩
    · refine xk_i ?_
      replace h := bk_l h
      refine x_icmp_ge (pc := 104) hC 271 dX13_perform_104 (by decide) (fun c28 => ?_) (fun c28 => ?_)
      · rw [if_pos c28] at h
        refine x_aload_n (pc := 271) hC 0 dX13_perform_271 rfl rfl ?_
        refine x_ldcK (pc := 272) (i := 0) (tx := "") hC (by decide) dX13_perform_272 ?_
        obtain ⟨g8, h⟩ := gd_some h
        refine x_putRv (pc := 274) (k := 20) hC fc_19 fl_RX13_42 dX13_perform_274 rfl rfl (Or.inl ⟨_, rfl⟩) g8 (fun S9 hS9 => ?_)
        replace h := zR_x hS9 h
        have g10 : gK S9 a0 = 19 := by rw [hS9]; exact g8
        refine x_aload_n (pc := 277) hC 0 dX13_perform_277 rfl rfl ?_
        obtain ⟨o13, ho13, h⟩ := bd_some h
        refine x_callV (pc := 278) (As := []) (rest := []) hC hl (c_X13_logs l hls ho13) lk_RX13_81 fc_19 g10 dX13_perform_278 rfl rfl (Nat.le_of_ble_eq_true rfl) ⟨Nat.le_of_ble_eq_true rfl, Nat.le_of_ble_eq_true rfl⟩ ⟨(Nat.le_of_ble_eq_true rfl), (Nat.le_of_ble_eq_true rfl)⟩ ?_
        rcases o13 with ⟨_ | E14, S12⟩
        · refine xk_v ?_
          replace h := bk_l h
          refine x_iload (pc := 281) hC 3 dX13_perform_281 rfl ?_
          exact x_ireturn (pc := 283) hC hE dX13_perform_283 (so h) (Nat.le_of_ble_eq_true rfl) (Nat.le_of_ble_eq_true rfl)
        · exact xk_r (xt_out hC hE (bk_r h) (Nat.le_of_ble_eq_true rfl) (Nat.le_of_ble_eq_true rfl))
      · rw [if_neg c28] at h
        refine x_aload_n (pc := 107) hC 0 dX13_perform_107 rfl rfl ?_
        obtain ⟨g15, h⟩ := gd_some h
        refine x_getRv (pc := 108) (k := 20) hC fc_19 fl_RX13_42 dX13_perform_108 rfl g15 (fun r16 hr16 => ?_)
        replace h := lt_x hr16 h
        refine x_iload (pc := 111) hC 4 dX13_perform_111 rfl ?_
        obtain ⟨g17, h⟩ := gd_some h
        obtain ⟨o20, ho20, h⟩ := bd_some h
        refine x_callVS (pc := 113) (As := [.int a5]) (rest := []) hC hl (c2_J0_charAt_5068e l hls ho20) lk_RX13_375 rfl g17 dX13_perform_113 rfl rfl (Nat.le_of_ble_eq_true rfl) ⟨Nat.le_of_ble_eq_true rfl, Nat.le_of_ble_eq_true rfl⟩ ⟨(Nat.le_of_ble_eq_true rfl), (Nat.le_of_ble_eq_true rfl)⟩ ?_
        rcases o20 with ⟨x18 | E21, S19⟩
        · refine xk_i ?_
          replace h := bk_l h
          refine x_istore (pc := 116) hC dX13_perform_116 (by decide) (by decide) rfl ?_
          refine x_iload (pc := 118) hC 0 dX13_perform_118 rfl ?_
          refine x_bipush (pc := 120) (v := (65 : Int32)) hC dX13_perform_120 (by decide) ?_
          refine x_bipush (pc := 122) (v := (68 : Int32)) hC dX13_perform_122 (by decide) ?_
          obtain ⟨o24, ho24, h⟩ := bd_some h
          refine x_callS (pc := 124) (As := [.int x18, .int (65 : Int32), .int (68 : Int32)]) (rest := []) hC hl (c_X13_isBetween l hls ho24) lk_RX13_50 dX13_perform_124 rfl rfl (Nat.le_of_ble_eq_true rfl) ⟨Nat.le_of_ble_eq_true rfl, Nat.le_of_ble_eq_true rfl⟩ ⟨(Nat.le_of_ble_eq_true rfl), (Nat.le_of_ble_eq_true rfl)⟩ ?_
          rcases o24 with ⟨x22 | E25, S23⟩
          · refine xk_i ?_
            replace h := bk_l h
            refine x_if_eq (pc := 127) hC 139 dX13_perform_127 (by decide) (fun c27 => ?_) (fun c27 => ?_)
            · rw [if_pos c27] at h
              cases h
            · rw [if_neg c27] at h
              refine x_iload (pc := 130) hC 0 dX13_perform_130 rfl ?_
              refine x_bipush (pc := 132) (v := (65 : Int32)) hC dX13_perform_132 (by decide) ?_
              refine x_isubv (pc := 134) hC dX13_perform_134 (fun x26 hx26 => ?_)
              replace h := lt_x hx26 h
              refine x_istore_n (pc := 135) hC dX13_perform_135 rfl (by decide) (by decide) rfl ?_
              refine x_goto (pc := 136) hC 265 dX13_perform_136 (by decide) ?_
              refine x_pick [2, 3, 0, 4, 5] rfl ?_
              exact t2_X13_perform_265 hls hC hl hE (fun z0 z1 z2 z3 z4 z5 hz => ih z0 z1 z2 z3 z4 z5 hz) h
          · exact xk_r (xt_out hC hE (bk_r h) (Nat.le_of_ble_eq_true rfl) (Nat.le_of_ble_eq_true rfl))
        · exact xk_r (xt_out hC hE (bk_r h) (Nat.le_of_ble_eq_true rfl) (Nat.le_of_ble_eq_true rfl))
    · exact xk_r (xt_out hC hE (bk_r h) (Nat.le_of_ble_eq_true rfl) (Nat.le_of_ble_eq_true rfl))
def f2_X13_perform_16  (S : mS) (a0 : Nat) (a1 : Int32) (s0 : Nat) (s1 : Int32) : Option (Rs Int32) :=
  gd (gK S s0 = 19) (bd (f_X13_isWrong S s0 s1) fun x2 S3 => if x2 = 0 then (gd (gN S3 + 1 < KB) (zW (sW S3 37 4) fun S7 => lt9 (gN S3 + 1) fun r8 => gd (gK S7 a0 = 19) (lt9 (gR S7 a0 2) fun r11 => gd (gK S7 r11 = 37) (gd (¬ ((0 : Int32) < 0 ∨ gZ S7 r11 ≤ ((0 : Int32)).toNatClampNeg)) (lt9 (gR S7 r11 ((0 : Int32)).toNatClampNeg) fun r15 => gd (gK S7 r15 = 17) (bd (f_X11_like S7 r15) fun r17 S18 => gd (gK S18 r8 = 37) (gd (¬ ((0 : Int32) < 0 ∨ gZ S18 r8 ≤ ((0 : Int32)).toNatClampNeg)) (gd (gK S18 r17 = 17) (zR (sR S18 r8 ((0 : Int32)).toNatClampNeg r17) fun S23 => gd (gK S23 a0 = 19) (lt9 (gR S23 a0 2) fun r28 => gd (gK S23 r28 = 37) (gd (¬ ((1 : Int32) < 0 ∨ gZ S23 r28 ≤ ((1 : Int32)).toNatClampNeg)) (lt9 (gR S23 r28 ((1 : Int32)).toNatClampNeg) fun r32 => gd (gK S23 r32 = 17) (bd (f_X11_like S23 r32) fun r34 S35 => gd (gK S35 r8 = 37) (gd (¬ ((1 : Int32) < 0 ∨ gZ S35 r8 ≤ ((1 : Int32)).toNatClampNeg)) (gd (gK S35 r34 = 17) (zR (sR S35 r8 ((1 : Int32)).toNatClampNeg r34) fun S40 => gd (gK S40 a0 = 19) (lt9 (gR S40 a0 2) fun r45 => gd (gK S40 r45 = 37) (gd (¬ ((2 : Int32) < 0 ∨ gZ S40 r45 ≤ ((2 : Int32)).toNatClampNeg)) (lt9 (gR S40 r45 ((2 : Int32)).toNatClampNeg) fun r49 => gd (gK S40 r49 = 17) (bd (f_X11_like S40 r49) fun r51 S52 => gd (gK S52 r8 = 37) (gd (¬ ((2 : Int32) < 0 ∨ gZ S52 r8 ≤ ((2 : Int32)).toNatClampNeg)) (gd (gK S52 r51 = 17) (zR (sR S52 r8 ((2 : Int32)).toNatClampNeg r51) fun S57 => gd (gK S57 a0 = 19) (lt9 (gR S57 a0 2) fun r62 => gd (gK S57 r62 = 37) (gd (¬ ((3 : Int32) < 0 ∨ gZ S57 r62 ≤ ((3 : Int32)).toNatClampNeg)) (lt9 (gR S57 r62 ((3 : Int32)).toNatClampNeg) fun r66 => gd (gK S57 r66 = 17) (bd (f_X11_like S57 r66) fun r68 S69 => gd (gK S69 r8 = 37) (gd (¬ ((3 : Int32) < 0 ∨ gZ S69 r8 ≤ ((3 : Int32)).toNatClampNeg)) (gd (gK S69 r68 = 17) (zR (sR S69 r8 ((3 : Int32)).toNatClampNeg r68) fun S74 => f2_X13_perform_95  16 S74 a0 r8 (0 : Int32) (0 : Int32) (0 : Int32))))))))))))))))))))))))))))))) else (gd (gK S3 a0 = 19) (bd (f_X13_refuses S3 a0 (116 : Int32) a1 (45 : Int32) (0 : Int32)) fun _ S80 => some (.inl (0 : Int32), S80))))
set_option maxHeartbeats 2000000 in
set_option maxRecDepth 100000 in
theorem t2_X13_perform_16 {l : Launch} (hls : l.stackTraces = false) {C : cT} (hC : CX C cX13_perform 10 yX13_perform rm2_X13_perform) (hl : C.2.1 = l) {S0 : mS} (hE : CE C S0 (Option.some Jvm.ClassFile.FieldType.int) []) {o : Rs Int32} {S : mS} {a0 : Nat} {a1 : Int32} {s0 : Nat} {s1 : Int32} (h : f2_X13_perform_16  S a0 a1 s0 s1 = some o) : XX C 10 (QQ C (fun r : Int32 => some (.int r)) S0 o) (0) (0) S 16 [(0, .ref a0), (1, .int a1)] [.int s1, .ref s0] := by
  unfold f2_X13_perform_16 at h
  obtain ⟨g1, h⟩ := gd_some h
  obtain ⟨o4, ho4, h⟩ := bd_some h
  refine x_callV (pc := 16) (As := [.int s1]) (rest := []) hC hl (c_X13_isWrong l hls ho4) lk_RX13_68 fc_19 g1 dX13_perform_16 rfl rfl (Nat.le_of_ble_eq_true rfl) ⟨Nat.le_of_ble_eq_true rfl, Nat.le_of_ble_eq_true rfl⟩ ⟨(Nat.le_of_ble_eq_true rfl), (Nat.le_of_ble_eq_true rfl)⟩ ?_
  rcases o4 with ⟨x2 | E5, S3⟩
  · refine xk_i ?_
    replace h := bk_l h
    refine x_if_eq (pc := 19) hC 34 dX13_perform_19 (by decide) (fun c83 => ?_) (fun c83 => ?_)
    · rw [if_pos c83] at h
      refine x_iconst (pc := 34) (v := (4 : Int32)) hC dX13_perform_34 (by decide) ?_
      obtain ⟨g6, h⟩ := gd_some h
      refine x_newrv (pc := 35) (z := 4) (kd := 37) (t0 := 7) hC wm_1566 wm_1567 (by decide) (fun _ => rfl) dX13_perform_35 (by decide) (by decide) (Nat.le_of_ble_eq_true rfl) g6 (Nat.le_of_ble_eq_true rfl) (Nat.le_of_ble_eq_true rfl) (fun S7 r8 hS7 hr8 => ?_)
      replace h := zW_x hS7 h
      replace h := lt_x hr8 h
      have g9 : gK S7 r8 = 37 := by rw [hr8, hS7]; exact sW_K
      refine x_dup (pc := 38) hC dX13_perform_38 rfl ?_
      refine x_iconst (pc := 39) (v := (0 : Int32)) hC dX13_perform_39 (by decide) ?_
      refine x_aload_n (pc := 40) hC 0 dX13_perform_40 rfl rfl ?_
      obtain ⟨g10, h⟩ := gd_some h
      refine x_getRv (pc := 41) (k := 2) hC fc_19 fl_RX13_19 dX13_perform_41 rfl g10 (fun r11 hr11 => ?_)
      replace h := lt_x hr11 h
      refine x_iconst (pc := 44) (v := (0 : Int32)) hC dX13_perform_44 (by decide) ?_
      obtain ⟨g14, h⟩ := gd_some h
      obtain ⟨g13, h⟩ := gd_some h
      refine x_raldv (pc := 45) (t0 := 7) hC dX13_perform_45 g14 (by decide) (fun _ => rfl) g13 (fun r15 hr15 => ?_)
      replace h := lt_x hr15 h
      obtain ⟨g16, h⟩ := gd_some h
      obtain ⟨o19, ho19, h⟩ := bd_some h
      refine x_callV (pc := 46) (As := []) (rest := [.int (0 : Int32), .ref r8, .ref r8]) hC hl (c_X11_like l hls ho19) lk_RX13_399 fc_17 g16 dX13_perform_46 rfl rfl (Nat.le_of_ble_eq_true rfl) ⟨Nat.le_of_ble_eq_true rfl, Nat.le_of_ble_eq_true rfl⟩ ⟨(Nat.le_of_ble_eq_true rfl), (Nat.le_of_ble_eq_true rfl)⟩ ?_
      rcases o19 with ⟨r17 | E20, S18⟩
      · refine xk_a ?_
        replace h := bk_l h
        obtain ⟨g22, h⟩ := gd_some h
        obtain ⟨g21, h⟩ := gd_some h
        obtain ⟨g24, h⟩ := gd_some h
        refine x_rastv (pc := 49) (t0 := 7) hC fc_17 dX13_perform_49 g22 (by decide) (fun _ => rfl) (Or.inl rfl) g24 g21 (fun S23 hS23 => ?_)
        replace h := zR_x hS23 h
        have g25 : gK S23 r8 = 37 := by rw [hS23]; exact g22
        have g26 : gK S23 r17 = 17 := by rw [hS23]; exact g24
        refine x_dup (pc := 50) hC dX13_perform_50 rfl ?_
        refine x_iconst (pc := 51) (v := (1 : Int32)) hC dX13_perform_51 (by decide) ?_
        refine x_aload_n (pc := 52) hC 0 dX13_perform_52 rfl rfl ?_
        obtain ⟨g27, h⟩ := gd_some h
        refine x_getRv (pc := 53) (k := 2) hC fc_19 fl_RX13_19 dX13_perform_53 rfl g27 (fun r28 hr28 => ?_)
        replace h := lt_x hr28 h
        refine x_iconst (pc := 56) (v := (1 : Int32)) hC dX13_perform_56 (by decide) ?_
        obtain ⟨g31, h⟩ := gd_some h
        obtain ⟨g30, h⟩ := gd_some h
        refine x_raldv (pc := 57) (t0 := 7) hC dX13_perform_57 g31 (by decide) (fun _ => rfl) g30 (fun r32 hr32 => ?_)
        replace h := lt_x hr32 h
        obtain ⟨g33, h⟩ := gd_some h
        obtain ⟨o36, ho36, h⟩ := bd_some h
        refine x_callV (pc := 58) (As := []) (rest := [.int (1 : Int32), .ref r8, .ref r8]) hC hl (c_X11_like l hls ho36) lk_RX13_399 fc_17 g33 dX13_perform_58 rfl rfl (Nat.le_of_ble_eq_true rfl) ⟨Nat.le_of_ble_eq_true rfl, Nat.le_of_ble_eq_true rfl⟩ ⟨(Nat.le_of_ble_eq_true rfl), (Nat.le_of_ble_eq_true rfl)⟩ ?_
        rcases o36 with ⟨r34 | E37, S35⟩
        · refine xk_a ?_
          replace h := bk_l h
          obtain ⟨g39, h⟩ := gd_some h
          obtain ⟨g38, h⟩ := gd_some h
          obtain ⟨g41, h⟩ := gd_some h
          refine x_rastv (pc := 61) (t0 := 7) hC fc_17 dX13_perform_61 g39 (by decide) (fun _ => rfl) (Or.inl rfl) g41 g38 (fun S40 hS40 => ?_)
          replace h := zR_x hS40 h
          have g42 : gK S40 r8 = 37 := by rw [hS40]; exact g39
          have g43 : gK S40 r34 = 17 := by rw [hS40]; exact g41
          refine x_dup (pc := 62) hC dX13_perform_62 rfl ?_
          refine x_iconst (pc := 63) (v := (2 : Int32)) hC dX13_perform_63 (by decide) ?_
          refine x_aload_n (pc := 64) hC 0 dX13_perform_64 rfl rfl ?_
          obtain ⟨g44, h⟩ := gd_some h
          refine x_getRv (pc := 65) (k := 2) hC fc_19 fl_RX13_19 dX13_perform_65 rfl g44 (fun r45 hr45 => ?_)
          replace h := lt_x hr45 h
          refine x_iconst (pc := 68) (v := (2 : Int32)) hC dX13_perform_68 (by decide) ?_
          obtain ⟨g48, h⟩ := gd_some h
          obtain ⟨g47, h⟩ := gd_some h
          refine x_raldv (pc := 69) (t0 := 7) hC dX13_perform_69 g48 (by decide) (fun _ => rfl) g47 (fun r49 hr49 => ?_)
          replace h := lt_x hr49 h
          obtain ⟨g50, h⟩ := gd_some h
          obtain ⟨o53, ho53, h⟩ := bd_some h
          refine x_callV (pc := 70) (As := []) (rest := [.int (2 : Int32), .ref r8, .ref r8]) hC hl (c_X11_like l hls ho53) lk_RX13_399 fc_17 g50 dX13_perform_70 rfl rfl (Nat.le_of_ble_eq_true rfl) ⟨Nat.le_of_ble_eq_true rfl, Nat.le_of_ble_eq_true rfl⟩ ⟨(Nat.le_of_ble_eq_true rfl), (Nat.le_of_ble_eq_true rfl)⟩ ?_
          rcases o53 with ⟨r51 | E54, S52⟩
          · refine xk_a ?_
            replace h := bk_l h
            obtain ⟨g56, h⟩ := gd_some h
            obtain ⟨g55, h⟩ := gd_some h
            obtain ⟨g58, h⟩ := gd_some h
            refine x_rastv (pc := 73) (t0 := 7) hC fc_17 dX13_perform_73 g56 (by decide) (fun _ => rfl) (Or.inl rfl) g58 g55 (fun S57 hS57 => ?_)
            replace h := zR_x hS57 h
            have g59 : gK S57 r8 = 37 := by rw [hS57]; exact g56
            have g60 : gK S57 r51 = 17 := by rw [hS57]; exact g58
            refine x_dup (pc := 74) hC dX13_perform_74 rfl ?_
            refine x_iconst (pc := 75) (v := (3 : Int32)) hC dX13_perform_75 (by decide) ?_
            refine x_aload_n (pc := 76) hC 0 dX13_perform_76 rfl rfl ?_
            obtain ⟨g61, h⟩ := gd_some h
            refine x_getRv (pc := 77) (k := 2) hC fc_19 fl_RX13_19 dX13_perform_77 rfl g61 (fun r62 hr62 => ?_)
            replace h := lt_x hr62 h
            refine x_iconst (pc := 80) (v := (3 : Int32)) hC dX13_perform_80 (by decide) ?_
            obtain ⟨g65, h⟩ := gd_some h
            obtain ⟨g64, h⟩ := gd_some h
            refine x_raldv (pc := 81) (t0 := 7) hC dX13_perform_81 g65 (by decide) (fun _ => rfl) g64 (fun r66 hr66 => ?_)
            replace h := lt_x hr66 h
            obtain ⟨g67, h⟩ := gd_some h
            obtain ⟨o70, ho70, h⟩ := bd_some h
            refine x_callV (pc := 82) (As := []) (rest := [.int (3 : Int32), .ref r8, .ref r8]) hC hl (c_X11_like l hls ho70) lk_RX13_399 fc_17 g67 dX13_perform_82 rfl rfl (Nat.le_of_ble_eq_true rfl) ⟨Nat.le_of_ble_eq_true rfl, Nat.le_of_ble_eq_true rfl⟩ ⟨(Nat.le_of_ble_eq_true rfl), (Nat.le_of_ble_eq_true rfl)⟩ ?_
            rcases o70 with ⟨r68 | E71, S69⟩
            · refine xk_a ?_
              replace h := bk_l h
              obtain ⟨g73, h⟩ := gd_some h
              obtain ⟨g72, h⟩ := gd_some h
              obtain ⟨g75, h⟩ := gd_some h
              refine x_rastv (pc := 85) (t0 := 7) hC fc_17 dX13_perform_85 g73 (by decide) (fun _ => rfl) (Or.inl rfl) g75 g72 (fun S74 hS74 => ?_)
              replace h := zR_x hS74 h
              have g76 : gK S74 r8 = 37 := by rw [hS74]; exact g73
              have g77 : gK S74 r68 = 17 := by rw [hS74]; exact g75
              refine x_astore_n (pc := 86) hC dX13_perform_86 rfl (by decide) (by decide) rfl ?_
              refine x_iconst (pc := 87) (v := (0 : Int32)) hC dX13_perform_87 (by decide) ?_
              refine x_istore_n (pc := 88) hC dX13_perform_88 rfl (by decide) (by decide) rfl ?_
              refine x_iconst (pc := 89) (v := (0 : Int32)) hC dX13_perform_89 (by decide) ?_
              refine x_istore (pc := 90) hC dX13_perform_90 (by decide) (by decide) rfl ?_
              refine x_iconst (pc := 92) (v := (0 : Int32)) hC dX13_perform_92 (by decide) ?_
              refine x_istore (pc := 93) hC dX13_perform_93 (by decide) (by decide) rfl ?_
              refine x_pick [4, 3, 2, 1, 0] rfl ?_
              exact t2_X13_perform_95 hls hC hl hE 16 _ _ _ _ _ _ h
            · exact xk_r (xt_out hC hE (bk_r h) (Nat.le_of_ble_eq_true rfl) (Nat.le_of_ble_eq_true rfl))
          · exact xk_r (xt_out hC hE (bk_r h) (Nat.le_of_ble_eq_true rfl) (Nat.le_of_ble_eq_true rfl))
        · exact xk_r (xt_out hC hE (bk_r h) (Nat.le_of_ble_eq_true rfl) (Nat.le_of_ble_eq_true rfl))
      · exact xk_r (xt_out hC hE (bk_r h) (Nat.le_of_ble_eq_true rfl) (Nat.le_of_ble_eq_true rfl))
    · rw [if_neg c83] at h
      refine x_aload_n (pc := 22) hC 0 dX13_perform_22 rfl rfl ?_
      refine x_bipush (pc := 23) (v := (116 : Int32)) hC dX13_perform_23 (by decide) ?_
      refine x_iload_n (pc := 25) hC 1 dX13_perform_25 rfl rfl ?_
      refine x_bipush (pc := 26) (v := (45 : Int32)) hC dX13_perform_26 (by decide) ?_
      refine x_iconst (pc := 28) (v := (0 : Int32)) hC dX13_perform_28 (by decide) ?_
      obtain ⟨g78, h⟩ := gd_some h
      obtain ⟨o81, ho81, h⟩ := bd_some h
      refine x_callV (pc := 29) (As := [.int (116 : Int32), .int a1, .int (45 : Int32), .int (0 : Int32)]) (rest := []) hC hl (c_X13_refuses l hls ho81) lk_RX13_395 fc_19 g78 dX13_perform_29 rfl rfl (Nat.le_of_ble_eq_true rfl) ⟨Nat.le_of_ble_eq_true rfl, Nat.le_of_ble_eq_true rfl⟩ ⟨(Nat.le_of_ble_eq_true rfl), (Nat.le_of_ble_eq_true rfl)⟩ ?_
      rcases o81 with ⟨_ | E82, S80⟩
      · refine xk_v ?_
        replace h := bk_l h
        refine x_iconst (pc := 32) (v := (0 : Int32)) hC dX13_perform_32 (by decide) ?_
        exact x_ireturn (pc := 33) hC hE dX13_perform_33 (so h) (Nat.le_of_ble_eq_true rfl) (Nat.le_of_ble_eq_true rfl)
      · exact xk_r (xt_out hC hE (bk_r h) (Nat.le_of_ble_eq_true rfl) (Nat.le_of_ble_eq_true rfl))
  · exact xk_r (xt_out hC hE (bk_r h) (Nat.le_of_ble_eq_true rfl) (Nat.le_of_ble_eq_true rfl))
def f2_X13_perform (S : mS) (a0 : Nat) : Option (Rs Int32) :=
  gd (gK S a0 = 19) (bd (f2_X13_badSign S a0) fun x2 S3 => if x2 = (-1 : Int32) then (f2_X13_perform_16  S3 a0 x2 a0 (0 : Int32)) else (f2_X13_perform_16  S3 a0 x2 a0 (1 : Int32)))
set_option maxHeartbeats 2000000 in
set_option maxRecDepth 100000 in
theorem t2_X13_perform {l : Launch} (hls : l.stackTraces = false) {C : cT} (hC : CX C cX13_perform 10 yX13_perform rm2_X13_perform) (hl : C.2.1 = l) {S0 : mS} (hE : CE C S0 (Option.some Jvm.ClassFile.FieldType.int) []) {o : Rs Int32} {S : mS} {a0 : Nat} (h : f2_X13_perform S a0 = some o) : XX C 10 (QQ C (fun r : Int32 => some (.int r)) S0 o) 0 0 S 0 [(0, .ref a0)] [] := by
  unfold f2_X13_perform at h
  refine x_aload_n (pc := 0) hC 0 dX13_perform_0 rfl rfl ?_
  obtain ⟨g1, h⟩ := gd_some h
  obtain ⟨o4, ho4, h⟩ := bd_some h
  refine x_callV (pc := 1) (As := []) (rest := []) hC hl (c2_X13_badSign l hls ho4) lk_RX13_392 fc_19 g1 dX13_perform_1 rfl rfl (Nat.le_of_ble_eq_true rfl) ⟨Nat.le_of_ble_eq_true rfl, Nat.le_of_ble_eq_true rfl⟩ ⟨(Nat.le_of_ble_eq_true rfl), (Nat.le_of_ble_eq_true rfl)⟩ ?_
  rcases o4 with ⟨x2 | E5, S3⟩
  · refine xk_i ?_
    replace h := bk_l h
    refine x_istore_n (pc := 4) hC dX13_perform_4 rfl (by decide) (by decide) rfl ?_
    refine x_aload_n (pc := 5) hC 1 dX13_perform_5 rfl rfl ?_
    refine x_iload_n (pc := 6) hC 0 dX13_perform_6 rfl rfl ?_
    refine x_iconst (pc := 7) (v := (-1 : Int32)) hC dX13_perform_7 (by decide) ?_
    refine x_icmp_ne (pc := 8) hC 15 dX13_perform_8 (by decide) (fun c6 => ?_) (fun c6 => ?_)
    · rw [if_neg c6] at h
      refine x_iconst (pc := 15) (v := (1 : Int32)) hC dX13_perform_15 (by decide) ?_
      refine x_pick [1, 0] rfl ?_
      exact t2_X13_perform_16 hls hC hl hE h
    · rw [if_pos c6] at h
      refine x_iconst (pc := 11) (v := (0 : Int32)) hC dX13_perform_11 (by decide) ?_
      refine x_goto (pc := 12) hC 16 dX13_perform_12 (by decide) ?_
      refine x_pick [1, 0] rfl ?_
      exact t2_X13_perform_16 hls hC hl hE h
  · exact xk_r (xt_out hC hE (bk_r h) (Nat.le_of_ble_eq_true rfl) (Nat.le_of_ble_eq_true rfl))
theorem c2_X13_perform (l : Launch) (hls : l.stackTraces = false) {S : mS} {a0 : Nat} {o : Rs Int32} (h : f2_X13_perform S a0 = some o) : CT (fun r : Int32 => some (.int r)) l yX13_perform (.code yX13_perform cX13_perform 10 (Option.some Jvm.ClassFile.FieldType.int)) rm2_X13_perform S [.ref a0] o := ct_of (by decide +kernel) hls (Nat.le_of_ble_eq_true rfl) (fun C hl hC hE => t2_X13_perform hls hC hl hE h)
end STRF
