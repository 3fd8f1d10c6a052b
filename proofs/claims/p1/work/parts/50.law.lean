section LAWB
abbrev rm_L_law : Room := room_1
set_option maxHeartbeats 2000000 in
set_option maxRecDepth 100000 in
theorem t_L_law_3632 {l : Launch} (hls : l.stackTraces = false) {C : cT} (hC : CX C cL_law 9 yL_law rm_L_law) (hl : C.2.1 = l) {b L : Nat} {xs : Nat → Int32} (hX : LX C b L xs) {S9 : mS}  {cs28 sl28 : Nat} (hcs28 : cs28 ≤ 80538) (hsl28 : sl28 ≤ 327207) {rc28 : mS → Nat → Nat → Nat → Nat → Int32 → Option (Rs Int32)} (hrc28 : ∀ (S : mS) (a1 : Nat) (a2 : Nat) (a3 : Nat) (a4 : Nat) (a5 : Int32), rc28 S a1 a2 a3 a4 a5 = some ((.inl (1 : Int32), S9) : Rs Int32) → XX C 9 (LQ C b) (cs28 + 40021) (sl28 + 160086) S 28 [(1, .ref a1), (2, .ref a2), (3, .ref a3), (4, .ref a4), (5, .int a5)] []) {S : mS} {a1 : Nat} {a2 : Nat} {a3 : Nat} {a4 : Nat} {a5 : Int32} (h : f_L_law_3632 L xs rc28 S a1 a2 a3 a4 a5 = some ((.inl (1 : Int32), S9) : Rs Int32)) : XX C 9 (LQ C b) (cs28 + 40021) (sl28 + 160086) S 3632 [(1, .ref a1), (2, .ref a2), (3, .ref a3), (4, .ref a4), (5, .int a5)] [] := by
  unfold f_L_law_3632 at h
  obtain ⟨x1, hx1⟩ : ∃ z, z = (a5 + Int32.ofInt (8)) := ⟨_, rfl⟩
  replace h := lt_x hx1 h
  refine x_iinc (pc := 3632) hC 4 dL_law_3632 rfl hx1.symm (by decide) (by decide) rfl ?_
  refine x_goto (pc := 3635) hC 28 dL_law_3635 (by decide) ?_
  refine x_pick [1, 2, 3, 4, 0] rfl ?_
  refine x_widen (ce' := cs28 + 40021) (sl' := sl28 + 160086) (by omega) (by omega) ?_
  exact hrc28 _ _ _ _ _ _ h
set_option maxHeartbeats 2000000 in
set_option maxRecDepth 100000 in
theorem t_L_law_421 {l : Launch} (hls : l.stackTraces = false) {C : cT} (hC : CX C cL_law 9 yL_law rm_L_law) (hl : C.2.1 = l) {b L : Nat} {xs : Nat → Int32} (hX : LX C b L xs) {S9 : mS}  {cs28 sl28 : Nat} (hcs28 : cs28 ≤ 80538) (hsl28 : sl28 ≤ 327207) {rc28 : mS → Nat → Nat → Nat → Nat → Int32 → Option (Rs Int32)} (hrc28 : ∀ (S : mS) (a1 : Nat) (a2 : Nat) (a3 : Nat) (a4 : Nat) (a5 : Int32), rc28 S a1 a2 a3 a4 a5 = some ((.inl (1 : Int32), S9) : Rs Int32) → XX C 9 (LQ C b) (cs28 + 40021) (sl28 + 160086) S 28 [(1, .ref a1), (2, .ref a2), (3, .ref a3), (4, .ref a4), (5, .int a5)] []) {S : mS} {a1 : Nat} {a2 : Nat} {a3 : Nat} {a4 : Nat} {a5 : Int32} (h : f_L_law_421 L xs rc28 S a1 a2 a3 a4 a5 = some ((.inl (1 : Int32), S9) : Rs Int32)) : XX C 9 (LQ C b) (cs28 + 6) (sl28 + 44) S 421 [(1, .ref a1), (2, .ref a2), (3, .ref a3), (4, .ref a4), (5, .int a5)] [] := by
  unfold f_L_law_421 at h
  refine x_goto (pc := 421) hC 3632 dL_law_421 (by decide) ?_
  refine x_pick [0, 1, 2, 3, 4] rfl ?_
  refine x_widen (ce' := cs28 + 40021) (sl' := sl28 + 160086) (by omega) (by omega) ?_
  exact t_L_law_3632 hls hC hl hX (by omega) (by omega) hrc28 h
set_option maxHeartbeats 2000000 in
set_option maxRecDepth 100000 in
theorem t_L_law_292 {l : Launch} (hls : l.stackTraces = false) {C : cT} (hC : CX C cL_law 9 yL_law rm_L_law) (hl : C.2.1 = l) {b L : Nat} {xs : Nat → Int32} (hX : LX C b L xs) {S9 : mS}  {cs28 sl28 : Nat} (hcs28 : cs28 ≤ 80538) (hsl28 : sl28 ≤ 327207) {rc28 : mS → Nat → Nat → Nat → Nat → Int32 → Option (Rs Int32)} (hrc28 : ∀ (S : mS) (a1 : Nat) (a2 : Nat) (a3 : Nat) (a4 : Nat) (a5 : Int32), rc28 S a1 a2 a3 a4 a5 = some ((.inl (1 : Int32), S9) : Rs Int32) → XX C 9 (LQ C b) (cs28 + 40021) (sl28 + 160086) S 28 [(1, .ref a1), (2, .ref a2), (3, .ref a3), (4, .ref a4), (5, .int a5)] []) {S : mS} {a1 : Nat} {a2 : Nat} {a3 : Nat} {a4 : Nat} {a5 : Int32} (h : f_L_law_292 L xs rc28 S a1 a2 a3 a4 a5 = some ((.inl (1 : Int32), S9) : Rs Int32)) : XX C 9 (LQ C b) (cs28) (sl28) S 292 [(1, .ref a1), (2, .ref a2), (3, .ref a3), (4, .ref a4), (5, .int a5)] [] := by
  unfold f_L_law_292 at h
  refine x_aload_n (pc := 292) hC 0 dL_law_292 rfl rfl ?_
  obtain ⟨g2, h⟩ := gd_some h
  refine x_sldk (pc := 293) (v := (1 : Int32)) hC hX 4 dL_law_293 dL_law_294 rfl dL_law_296 (by decide) dL_law_297 g2 dL_law_298 (fun x1 hx1 => ?_)
  replace h := lt_x hx1 h
  obtain ⟨g4, h⟩ := gd_some h
  refine x_sldk (pc := 299) (v := (2 : Int32)) hC hX 4 dL_law_299 dL_law_300 rfl dL_law_302 (by decide) dL_law_303 g4 dL_law_304 (fun x3 hx3 => ?_)
  replace h := lt_x hx3 h
  obtain ⟨g6, h⟩ := gd_some h
  refine x_sldk (pc := 305) (v := (3 : Int32)) hC hX 4 dL_law_305 dL_law_306 rfl dL_law_308 (by decide) dL_law_309 g6 dL_law_310 (fun x5 hx5 => ?_)
  replace h := lt_x hx5 h
  obtain ⟨g8, h⟩ := gd_some h
  refine x_sldk (pc := 311) (v := (4 : Int32)) hC hX 4 dL_law_311 dL_law_312 rfl dL_law_314 (by decide) dL_law_315 g8 dL_law_316 (fun x7 hx7 => ?_)
  replace h := lt_x hx7 h
  obtain ⟨g10, h⟩ := gd_some h
  refine x_sldk (pc := 317) (v := (5 : Int32)) hC hX 4 dL_law_317 dL_law_318 rfl dL_law_320 (by decide) dL_law_321 g10 dL_law_322 (fun x9 hx9 => ?_)
  replace h := lt_x hx9 h
  obtain ⟨g12, h⟩ := gd_some h
  refine x_sldb (pc := 323) (v := (6 : Int32)) hC hX 4 dL_law_323 dL_law_324 rfl dL_law_326 (by decide) dL_law_328 g12 dL_law_329 (fun x11 hx11 => ?_)
  replace h := lt_x hx11 h
  obtain ⟨g14, h⟩ := gd_some h
  refine x_sldb (pc := 330) (v := (7 : Int32)) hC hX 4 dL_law_330 dL_law_331 rfl dL_law_333 (by decide) dL_law_335 g14 dL_law_336 (fun x13 hx13 => ?_)
  replace h := lt_x hx13 h
  refine x_aload_n (pc := 337) hC 2 dL_law_337 rfl rfl ?_
  obtain ⟨o17, ho17, h⟩ := bd_some h
  refine x_callH (pc := 338) (As := [.ref a1, .int x1, .int x3, .int x5, .int x7, .int x9, .int x11, .int x13, .ref a3]) (rest := []) hC hl (c_L_addRecord l hls ho17) lk_RL_187 dL_law_338 rfl rfl (Nat.le_of_ble_eq_true rfl) ⟨Nat.le_of_ble_eq_true rfl, Nat.le_of_ble_eq_true rfl⟩ ⟨(show cs28 + 4 ≤ (625622 : Nat) from by omega), (show sl28 + 24 ≤ (7225229 : Nat) from by omega)⟩ ?_
  rcases o17 with ⟨x15 | E18, S16⟩
  · refine xk_i ?_
    replace h := bk_l h
    refine x_widen (ce' := cs28 + 4) (sl' := sl28 + 24) (Nat.le_refl _) (Nat.le_refl _) ?_
    refine x_istore (pc := 341) hC dL_law_341 (by decide) (by decide) rfl ?_
    refine x_aload_n (pc := 343) hC 2 dL_law_343 rfl rfl ?_
    obtain ⟨g20, h⟩ := gd_some h
    refine x_sldk (pc := 344) (v := (1 : Int32)) hC hX 5 dL_law_344 dL_law_345 rfl dL_law_347 (by decide) dL_law_348 g20 dL_law_349 (fun x19 hx19 => ?_)
    replace h := lt_x hx19 h
    obtain ⟨g22, h⟩ := gd_some h
    refine x_sldk (pc := 350) (v := (2 : Int32)) hC hX 5 dL_law_350 dL_law_351 rfl dL_law_353 (by decide) dL_law_354 g22 dL_law_355 (fun x21 hx21 => ?_)
    replace h := lt_x hx21 h
    obtain ⟨g24, h⟩ := gd_some h
    refine x_sldk (pc := 356) (v := (3 : Int32)) hC hX 5 dL_law_356 dL_law_357 rfl dL_law_359 (by decide) dL_law_360 g24 dL_law_361 (fun x23 hx23 => ?_)
    replace h := lt_x hx23 h
    obtain ⟨g26, h⟩ := gd_some h
    refine x_sldk (pc := 362) (v := (4 : Int32)) hC hX 5 dL_law_362 dL_law_363 rfl dL_law_365 (by decide) dL_law_366 g26 dL_law_367 (fun x25 hx25 => ?_)
    replace h := lt_x hx25 h
    obtain ⟨g28, h⟩ := gd_some h
    refine x_sldk (pc := 368) (v := (5 : Int32)) hC hX 5 dL_law_368 dL_law_369 rfl dL_law_371 (by decide) dL_law_372 g28 dL_law_373 (fun x27 hx27 => ?_)
    replace h := lt_x hx27 h
    obtain ⟨g30, h⟩ := gd_some h
    refine x_sldb (pc := 374) (v := (6 : Int32)) hC hX 5 dL_law_374 dL_law_375 rfl dL_law_377 (by decide) dL_law_379 g30 dL_law_380 (fun x29 hx29 => ?_)
    replace h := lt_x hx29 h
    obtain ⟨g32, h⟩ := gd_some h
    refine x_sldb (pc := 381) (v := (7 : Int32)) hC hX 5 dL_law_381 dL_law_382 rfl dL_law_384 (by decide) dL_law_386 g32 dL_law_387 (fun x31 hx31 => ?_)
    replace h := lt_x hx31 h
    obtain ⟨g33, h⟩ := gd_some h
    obtain ⟨o36, ho36, h⟩ := bd_some h
    refine x_callV (pc := 388) (As := [.int x19, .int x21, .int x23, .int x25, .int x27, .int x29, .int x31]) (rest := []) hC hl (c2_X13_addRecord l hls ho36) lk_RL_192 fc_19 g33 dL_law_388 rfl rfl (Nat.le_of_ble_eq_true rfl) ⟨Nat.le_of_ble_eq_true rfl, Nat.le_of_ble_eq_true rfl⟩ ⟨(show cs28 + 6 ≤ (625622 : Nat) from by omega), (show sl28 + 44 ≤ (7225229 : Nat) from by omega)⟩ ?_
    rcases o36 with ⟨x34 | E37, S35⟩
    · refine xk_i ?_
      replace h := bk_l h
      refine x_widen (ce' := cs28 + 6) (sl' := sl28 + 44) (Nat.le_refl _) (Nat.le_refl _) ?_
      refine x_istore (pc := 391) hC dL_law_391 (by decide) (by decide) rfl ?_
      refine x_aload_n (pc := 393) hC 3 dL_law_393 rfl rfl ?_
      obtain ⟨g38, h⟩ := gd_some h
      obtain ⟨o41, ho41, h⟩ := bd_some h
      refine x_callV (pc := 394) (As := []) (rest := []) hC hl (c_X13_thrown l hls ho41) lk_RL_193 fc_19 g38 dL_law_394 rfl rfl (Nat.le_of_ble_eq_true rfl) ⟨Nat.le_of_ble_eq_true rfl, Nat.le_of_ble_eq_true rfl⟩ ⟨(show cs28 + 6 ≤ (625622 : Nat) from by omega), (show sl28 + 44 ≤ (7225229 : Nat) from by omega)⟩ ?_
      rcases o41 with ⟨x39 | E42, S40⟩
      · refine xk_i ?_
        replace h := bk_l h
        refine x_widen (ce' := cs28 + 6) (sl' := sl28 + 44) (Nat.le_refl _) (Nat.le_refl _) ?_
        refine x_iload (pc := 397) hC 1 dL_law_397 rfl ?_
        refine x_icmp_eq (pc := 399) hC 404 dL_law_399 (by decide) (fun c51 => ?_) (fun c51 => ?_)
        · rw [if_pos c51] at h
          refine x_iload (pc := 404) hC 1 dL_law_404 rfl ?_
          refine x_if_ne (pc := 406) hC 421 dL_law_406 (by decide) (fun c50 => ?_) (fun c50 => ?_)
          · rw [if_neg c50] at h
            refine x_pick [2, 3, 4, 5, 6] rfl ?_
            exact t_L_law_421 hls hC hl hX (by omega) (by omega) hrc28 h
          · rw [if_pos c50] at h
            refine x_aload_n (pc := 409) hC 4 dL_law_409 rfl rfl ?_
            refine x_iconst (pc := 410) (v := (0 : Int32)) hC dL_law_410 (by decide) ?_
            obtain ⟨g45, h⟩ := gd_some h
            obtain ⟨g44, h⟩ := gd_some h
            refine x_laldv (pc := 411) hC dL_law_411 g45 g44 (fun x46 hx46 => ?_)
            replace h := lt_x hx46 h
            refine x_iload (pc := 412) hC 0 dL_law_412 rfl ?_
            refine x_i2lv (pc := 414) hC dL_law_414 (fun x47 hx47 => ?_)
            replace h := lt_x hx47 h
            refine x_lcmpv (pc := 415) hC dL_law_415 (fun x48 hx48 => ?_)
            replace h := lt_x hx48 h
            refine x_if_eq (pc := 416) hC 421 dL_law_416 (by decide) (fun c49 => ?_) (fun c49 => ?_)
            · rw [if_pos c49] at h
              refine x_pick [2, 3, 4, 5, 6] rfl ?_
              exact t_L_law_421 hls hC hl hX (by omega) (by omega) hrc28 h
            · rw [if_neg c49] at h
              refine x_iconst (pc := 419) (v := (0 : Int32)) hC dL_law_419 (by decide) ?_
              exact (law_no h).elim
        · rw [if_neg c51] at h
          refine x_iconst (pc := 402) (v := (0 : Int32)) hC dL_law_402 (by decide) ?_
          exact (law_no h).elim
      · exact absurd (congrArg Prod.fst (bk_r h)) (by intro q; cases q)
    · exact absurd (congrArg Prod.fst (bk_r h)) (by intro q; cases q)
  · exact absurd (congrArg Prod.fst (bk_r h)) (by intro q; cases q)
set_option maxHeartbeats 2000000 in
set_option maxRecDepth 100000 in
theorem t_L_law_489 {l : Launch} (hls : l.stackTraces = false) {C : cT} (hC : CX C cL_law 9 yL_law rm_L_law) (hl : C.2.1 = l) {b L : Nat} {xs : Nat → Int32} (hX : LX C b L xs) {S9 : mS}  {cs28 sl28 : Nat} (hcs28 : cs28 ≤ 80538) (hsl28 : sl28 ≤ 327207) {rc28 : mS → Nat → Nat → Nat → Nat → Int32 → Option (Rs Int32)} (hrc28 : ∀ (S : mS) (a1 : Nat) (a2 : Nat) (a3 : Nat) (a4 : Nat) (a5 : Int32), rc28 S a1 a2 a3 a4 a5 = some ((.inl (1 : Int32), S9) : Rs Int32) → XX C 9 (LQ C b) (cs28 + 40021) (sl28 + 160086) S 28 [(1, .ref a1), (2, .ref a2), (3, .ref a3), (4, .ref a4), (5, .int a5)] []) {S : mS} {a1 : Nat} {a2 : Nat} {a3 : Nat} {a4 : Nat} {a5 : Int32} (h : f_L_law_489 L xs rc28 S a1 a2 a3 a4 a5 = some ((.inl (1 : Int32), S9) : Rs Int32)) : XX C 9 (LQ C b) (cs28 + 3) (sl28 + 18) S 489 [(1, .ref a1), (2, .ref a2), (3, .ref a3), (4, .ref a4), (5, .int a5)] [] := by
  unfold f_L_law_489 at h
  refine x_goto (pc := 489) hC 3632 dL_law_489 (by decide) ?_
  refine x_pick [0, 1, 2, 3, 4] rfl ?_
  refine x_widen (ce' := cs28 + 40021) (sl' := sl28 + 160086) (by omega) (by omega) ?_
  exact t_L_law_3632 hls hC hl hX (by omega) (by omega) hrc28 h
set_option maxHeartbeats 2000000 in
set_option maxRecDepth 100000 in
theorem t_L_law_424 {l : Launch} (hls : l.stackTraces = false) {C : cT} (hC : CX C cL_law 9 yL_law rm_L_law) (hl : C.2.1 = l) {b L : Nat} {xs : Nat → Int32} (hX : LX C b L xs) {S9 : mS}  {cs28 sl28 : Nat} (hcs28 : cs28 ≤ 80538) (hsl28 : sl28 ≤ 327207) {rc28 : mS → Nat → Nat → Nat → Nat → Int32 → Option (Rs Int32)} (hrc28 : ∀ (S : mS) (a1 : Nat) (a2 : Nat) (a3 : Nat) (a4 : Nat) (a5 : Int32), rc28 S a1 a2 a3 a4 a5 = some ((.inl (1 : Int32), S9) : Rs Int32) → XX C 9 (LQ C b) (cs28 + 40021) (sl28 + 160086) S 28 [(1, .ref a1), (2, .ref a2), (3, .ref a3), (4, .ref a4), (5, .int a5)] []) {S : mS} {a1 : Nat} {a2 : Nat} {a3 : Nat} {a4 : Nat} {a5 : Int32} (h : f_L_law_424 L xs rc28 S a1 a2 a3 a4 a5 = some ((.inl (1 : Int32), S9) : Rs Int32)) : XX C 9 (LQ C b) (cs28) (sl28) S 424 [(1, .ref a1), (2, .ref a2), (3, .ref a3), (4, .ref a4), (5, .int a5)] [] := by
  unfold f_L_law_424 at h
  refine x_aload_n (pc := 424) hC 0 dL_law_424 rfl rfl ?_
  obtain ⟨g2, h⟩ := gd_some h
  refine x_sldk (pc := 425) (v := (1 : Int32)) hC hX 4 dL_law_425 dL_law_426 rfl dL_law_428 (by decide) dL_law_429 g2 dL_law_430 (fun x1 hx1 => ?_)
  replace h := lt_x hx1 h
  obtain ⟨g4, h⟩ := gd_some h
  refine x_sldk (pc := 431) (v := (2 : Int32)) hC hX 4 dL_law_431 dL_law_432 rfl dL_law_434 (by decide) dL_law_435 g4 dL_law_436 (fun x3 hx3 => ?_)
  replace h := lt_x hx3 h
  refine x_aload_n (pc := 437) hC 2 dL_law_437 rfl rfl ?_
  obtain ⟨o7, ho7, h⟩ := bd_some h
  refine x_callH (pc := 438) (As := [.ref a1, .int x1, .int x3, .ref a3]) (rest := []) hC hl (c_L_correct l hls ho7) lk_RL_196 dL_law_438 rfl rfl (Nat.le_of_ble_eq_true rfl) ⟨Nat.le_of_ble_eq_true rfl, Nat.le_of_ble_eq_true rfl⟩ ⟨(show cs28 + 3 ≤ (625622 : Nat) from by omega), (show sl28 + 18 ≤ (7225229 : Nat) from by omega)⟩ ?_
  rcases o7 with ⟨x5 | E8, S6⟩
  · refine xk_i ?_
    replace h := bk_l h
    refine x_widen (ce' := cs28 + 3) (sl' := sl28 + 18) (Nat.le_refl _) (Nat.le_refl _) ?_
    refine x_istore (pc := 441) hC dL_law_441 (by decide) (by decide) rfl ?_
    refine x_aload_n (pc := 443) hC 2 dL_law_443 rfl rfl ?_
    obtain ⟨g10, h⟩ := gd_some h
    refine x_sldk (pc := 444) (v := (1 : Int32)) hC hX 5 dL_law_444 dL_law_445 rfl dL_law_447 (by decide) dL_law_448 g10 dL_law_449 (fun x9 hx9 => ?_)
    replace h := lt_x hx9 h
    obtain ⟨g12, h⟩ := gd_some h
    refine x_sldk (pc := 450) (v := (2 : Int32)) hC hX 5 dL_law_450 dL_law_451 rfl dL_law_453 (by decide) dL_law_454 g12 dL_law_455 (fun x11 hx11 => ?_)
    replace h := lt_x hx11 h
    obtain ⟨g13, h⟩ := gd_some h
    obtain ⟨o16, ho16, h⟩ := bd_some h
    refine x_callV (pc := 456) (As := [.int x9, .int x11]) (rest := []) hC hl (c_X13_correct l hls ho16) lk_RL_199 fc_19 g13 dL_law_456 rfl rfl (Nat.le_of_ble_eq_true rfl) ⟨Nat.le_of_ble_eq_true rfl, Nat.le_of_ble_eq_true rfl⟩ ⟨(show cs28 + 3 ≤ (625622 : Nat) from by omega), (show sl28 + 18 ≤ (7225229 : Nat) from by omega)⟩ ?_
    rcases o16 with ⟨x14 | E17, S15⟩
    · refine xk_i ?_
      replace h := bk_l h
      refine x_widen (ce' := cs28 + 3) (sl' := sl28 + 18) (Nat.le_refl _) (Nat.le_refl _) ?_
      refine x_istore (pc := 459) hC dL_law_459 (by decide) (by decide) rfl ?_
      refine x_aload_n (pc := 461) hC 3 dL_law_461 rfl rfl ?_
      obtain ⟨g18, h⟩ := gd_some h
      obtain ⟨o21, ho21, h⟩ := bd_some h
      refine x_callV (pc := 462) (As := []) (rest := []) hC hl (c_X13_thrown l hls ho21) lk_RL_193 fc_19 g18 dL_law_462 rfl rfl (Nat.le_of_ble_eq_true rfl) ⟨Nat.le_of_ble_eq_true rfl, Nat.le_of_ble_eq_true rfl⟩ ⟨(show cs28 + 3 ≤ (625622 : Nat) from by omega), (show sl28 + 18 ≤ (7225229 : Nat) from by omega)⟩ ?_
      rcases o21 with ⟨x19 | E22, S20⟩
      · refine xk_i ?_
        replace h := bk_l h
        refine x_widen (ce' := cs28 + 3) (sl' := sl28 + 18) (Nat.le_refl _) (Nat.le_refl _) ?_
        refine x_iload (pc := 465) hC 1 dL_law_465 rfl ?_
        refine x_icmp_eq (pc := 467) hC 472 dL_law_467 (by decide) (fun c31 => ?_) (fun c31 => ?_)
        · rw [if_pos c31] at h
          refine x_iload (pc := 472) hC 1 dL_law_472 rfl ?_
          refine x_if_ne (pc := 474) hC 489 dL_law_474 (by decide) (fun c30 => ?_) (fun c30 => ?_)
          · rw [if_neg c30] at h
            refine x_pick [2, 3, 4, 5, 6] rfl ?_
            exact t_L_law_489 hls hC hl hX (by omega) (by omega) hrc28 h
          · rw [if_pos c30] at h
            refine x_aload_n (pc := 477) hC 4 dL_law_477 rfl rfl ?_
            refine x_iconst (pc := 478) (v := (0 : Int32)) hC dL_law_478 (by decide) ?_
            obtain ⟨g25, h⟩ := gd_some h
            obtain ⟨g24, h⟩ := gd_some h
            refine x_laldv (pc := 479) hC dL_law_479 g25 g24 (fun x26 hx26 => ?_)
            replace h := lt_x hx26 h
            refine x_iload (pc := 480) hC 0 dL_law_480 rfl ?_
            refine x_i2lv (pc := 482) hC dL_law_482 (fun x27 hx27 => ?_)
            replace h := lt_x hx27 h
            refine x_lcmpv (pc := 483) hC dL_law_483 (fun x28 hx28 => ?_)
            replace h := lt_x hx28 h
            refine x_if_eq (pc := 484) hC 489 dL_law_484 (by decide) (fun c29 => ?_) (fun c29 => ?_)
            · rw [if_pos c29] at h
              refine x_pick [2, 3, 4, 5, 6] rfl ?_
              exact t_L_law_489 hls hC hl hX (by omega) (by omega) hrc28 h
            · rw [if_neg c29] at h
              refine x_iconst (pc := 487) (v := (0 : Int32)) hC dL_law_487 (by decide) ?_
              exact (law_no h).elim
        · rw [if_neg c31] at h
          refine x_iconst (pc := 470) (v := (0 : Int32)) hC dL_law_470 (by decide) ?_
          exact (law_no h).elim
      · exact absurd (congrArg Prod.fst (bk_r h)) (by intro q; cases q)
    · exact absurd (congrArg Prod.fst (bk_r h)) (by intro q; cases q)
  · exact absurd (congrArg Prod.fst (bk_r h)) (by intro q; cases q)
set_option maxHeartbeats 2000000 in
set_option maxRecDepth 100000 in
theorem t_L_law_557 {l : Launch} (hls : l.stackTraces = false) {C : cT} (hC : CX C cL_law 9 yL_law rm_L_law) (hl : C.2.1 = l) {b L : Nat} {xs : Nat → Int32} (hX : LX C b L xs) {S9 : mS}  {cs28 sl28 : Nat} (hcs28 : cs28 ≤ 80538) (hsl28 : sl28 ≤ 327207) {rc28 : mS → Nat → Nat → Nat → Nat → Int32 → Option (Rs Int32)} (hrc28 : ∀ (S : mS) (a1 : Nat) (a2 : Nat) (a3 : Nat) (a4 : Nat) (a5 : Int32), rc28 S a1 a2 a3 a4 a5 = some ((.inl (1 : Int32), S9) : Rs Int32) → XX C 9 (LQ C b) (cs28 + 40021) (sl28 + 160086) S 28 [(1, .ref a1), (2, .ref a2), (3, .ref a3), (4, .ref a4), (5, .int a5)] []) {S : mS} {a1 : Nat} {a2 : Nat} {a3 : Nat} {a4 : Nat} {a5 : Int32} (h : f_L_law_557 L xs rc28 S a1 a2 a3 a4 a5 = some ((.inl (1 : Int32), S9) : Rs Int32)) : XX C 9 (LQ C b) (cs28 + 2) (sl28 + 12) S 557 [(1, .ref a1), (2, .ref a2), (3, .ref a3), (4, .ref a4), (5, .int a5)] [] := by
  unfold f_L_law_557 at h
  refine x_goto (pc := 557) hC 3632 dL_law_557 (by decide) ?_
  refine x_pick [0, 1, 2, 3, 4] rfl ?_
  refine x_widen (ce' := cs28 + 40021) (sl' := sl28 + 160086) (by omega) (by omega) ?_
  exact t_L_law_3632 hls hC hl hX (by omega) (by omega) hrc28 h
set_option maxHeartbeats 2000000 in
set_option maxRecDepth 100000 in
theorem t_L_law_492 {l : Launch} (hls : l.stackTraces = false) {C : cT} (hC : CX C cL_law 9 yL_law rm_L_law) (hl : C.2.1 = l) {b L : Nat} {xs : Nat → Int32} (hX : LX C b L xs) {S9 : mS}  {cs28 sl28 : Nat} (hcs28 : cs28 ≤ 80538) (hsl28 : sl28 ≤ 327207) {rc28 : mS → Nat → Nat → Nat → Nat → Int32 → Option (Rs Int32)} (hrc28 : ∀ (S : mS) (a1 : Nat) (a2 : Nat) (a3 : Nat) (a4 : Nat) (a5 : Int32), rc28 S a1 a2 a3 a4 a5 = some ((.inl (1 : Int32), S9) : Rs Int32) → XX C 9 (LQ C b) (cs28 + 40021) (sl28 + 160086) S 28 [(1, .ref a1), (2, .ref a2), (3, .ref a3), (4, .ref a4), (5, .int a5)] []) {S : mS} {a1 : Nat} {a2 : Nat} {a3 : Nat} {a4 : Nat} {a5 : Int32} (h : f_L_law_492 L xs rc28 S a1 a2 a3 a4 a5 = some ((.inl (1 : Int32), S9) : Rs Int32)) : XX C 9 (LQ C b) (cs28) (sl28) S 492 [(1, .ref a1), (2, .ref a2), (3, .ref a3), (4, .ref a4), (5, .int a5)] [] := by
  unfold f_L_law_492 at h
  refine x_aload_n (pc := 492) hC 0 dL_law_492 rfl rfl ?_
  obtain ⟨g2, h⟩ := gd_some h
  refine x_sldk (pc := 493) (v := (1 : Int32)) hC hX 4 dL_law_493 dL_law_494 rfl dL_law_496 (by decide) dL_law_497 g2 dL_law_498 (fun x1 hx1 => ?_)
  replace h := lt_x hx1 h
  obtain ⟨g4, h⟩ := gd_some h
  refine x_sldk (pc := 499) (v := (2 : Int32)) hC hX 4 dL_law_499 dL_law_500 rfl dL_law_502 (by decide) dL_law_503 g4 dL_law_504 (fun x3 hx3 => ?_)
  replace h := lt_x hx3 h
  refine x_aload_n (pc := 505) hC 2 dL_law_505 rfl rfl ?_
  obtain ⟨o7, ho7, h⟩ := bd_some h
  refine x_callH (pc := 506) (As := [.ref a1, .int x1, .int x3, .ref a3]) (rest := []) hC hl (c_L_apart l hls ho7) lk_RL_200 dL_law_506 rfl rfl (Nat.le_of_ble_eq_true rfl) ⟨Nat.le_of_ble_eq_true rfl, Nat.le_of_ble_eq_true rfl⟩ ⟨(show cs28 + 2 ≤ (625622 : Nat) from by omega), (show sl28 + 12 ≤ (7225229 : Nat) from by omega)⟩ ?_
  rcases o7 with ⟨x5 | E8, S6⟩
  · refine xk_i ?_
    replace h := bk_l h
    refine x_widen (ce' := cs28 + 2) (sl' := sl28 + 12) (Nat.le_refl _) (Nat.le_refl _) ?_
    refine x_istore (pc := 509) hC dL_law_509 (by decide) (by decide) rfl ?_
    refine x_aload_n (pc := 511) hC 2 dL_law_511 rfl rfl ?_
    obtain ⟨g10, h⟩ := gd_some h
    refine x_sldk (pc := 512) (v := (1 : Int32)) hC hX 5 dL_law_512 dL_law_513 rfl dL_law_515 (by decide) dL_law_516 g10 dL_law_517 (fun x9 hx9 => ?_)
    replace h := lt_x hx9 h
    obtain ⟨g12, h⟩ := gd_some h
    refine x_sldk (pc := 518) (v := (2 : Int32)) hC hX 5 dL_law_518 dL_law_519 rfl dL_law_521 (by decide) dL_law_522 g12 dL_law_523 (fun x11 hx11 => ?_)
    replace h := lt_x hx11 h
    obtain ⟨g13, h⟩ := gd_some h
    obtain ⟨o16, ho16, h⟩ := bd_some h
    refine x_callV (pc := 524) (As := [.int x9, .int x11]) (rest := []) hC hl (c_X13_apart l hls ho16) lk_RL_202 fc_19 g13 dL_law_524 rfl rfl (Nat.le_of_ble_eq_true rfl) ⟨Nat.le_of_ble_eq_true rfl, Nat.le_of_ble_eq_true rfl⟩ ⟨(show cs28 + 2 ≤ (625622 : Nat) from by omega), (show sl28 + 12 ≤ (7225229 : Nat) from by omega)⟩ ?_
    rcases o16 with ⟨x14 | E17, S15⟩
    · refine xk_i ?_
      replace h := bk_l h
      refine x_widen (ce' := cs28 + 2) (sl' := sl28 + 12) (Nat.le_refl _) (Nat.le_refl _) ?_
      refine x_istore (pc := 527) hC dL_law_527 (by decide) (by decide) rfl ?_
      refine x_aload_n (pc := 529) hC 3 dL_law_529 rfl rfl ?_
      obtain ⟨g18, h⟩ := gd_some h
      obtain ⟨o21, ho21, h⟩ := bd_some h
      refine x_callV (pc := 530) (As := []) (rest := []) hC hl (c_X13_thrown l hls ho21) lk_RL_193 fc_19 g18 dL_law_530 rfl rfl (Nat.le_of_ble_eq_true rfl) ⟨Nat.le_of_ble_eq_true rfl, Nat.le_of_ble_eq_true rfl⟩ ⟨(show cs28 + 2 ≤ (625622 : Nat) from by omega), (show sl28 + 12 ≤ (7225229 : Nat) from by omega)⟩ ?_
      rcases o21 with ⟨x19 | E22, S20⟩
      · refine xk_i ?_
        replace h := bk_l h
        refine x_widen (ce' := cs28 + 2) (sl' := sl28 + 12) (Nat.le_refl _) (Nat.le_refl _) ?_
        refine x_iload (pc := 533) hC 1 dL_law_533 rfl ?_
        refine x_icmp_eq (pc := 535) hC 540 dL_law_535 (by decide) (fun c31 => ?_) (fun c31 => ?_)
        · rw [if_pos c31] at h
          refine x_iload (pc := 540) hC 1 dL_law_540 rfl ?_
          refine x_if_ne (pc := 542) hC 557 dL_law_542 (by decide) (fun c30 => ?_) (fun c30 => ?_)
          · rw [if_neg c30] at h
            refine x_pick [2, 3, 4, 5, 6] rfl ?_
            exact t_L_law_557 hls hC hl hX (by omega) (by omega) hrc28 h
          · rw [if_pos c30] at h
            refine x_aload_n (pc := 545) hC 4 dL_law_545 rfl rfl ?_
            refine x_iconst (pc := 546) (v := (0 : Int32)) hC dL_law_546 (by decide) ?_
            obtain ⟨g25, h⟩ := gd_some h
            obtain ⟨g24, h⟩ := gd_some h
            refine x_laldv (pc := 547) hC dL_law_547 g25 g24 (fun x26 hx26 => ?_)
            replace h := lt_x hx26 h
            refine x_iload (pc := 548) hC 0 dL_law_548 rfl ?_
            refine x_i2lv (pc := 550) hC dL_law_550 (fun x27 hx27 => ?_)
            replace h := lt_x hx27 h
            refine x_lcmpv (pc := 551) hC dL_law_551 (fun x28 hx28 => ?_)
            replace h := lt_x hx28 h
            refine x_if_eq (pc := 552) hC 557 dL_law_552 (by decide) (fun c29 => ?_) (fun c29 => ?_)
            · rw [if_pos c29] at h
              refine x_pick [2, 3, 4, 5, 6] rfl ?_
              exact t_L_law_557 hls hC hl hX (by omega) (by omega) hrc28 h
            · rw [if_neg c29] at h
              refine x_iconst (pc := 555) (v := (0 : Int32)) hC dL_law_555 (by decide) ?_
              exact (law_no h).elim
        · rw [if_neg c31] at h
          refine x_iconst (pc := 538) (v := (0 : Int32)) hC dL_law_538 (by decide) ?_
          exact (law_no h).elim
      · exact absurd (congrArg Prod.fst (bk_r h)) (by intro q; cases q)
    · exact absurd (congrArg Prod.fst (bk_r h)) (by intro q; cases q)
  · exact absurd (congrArg Prod.fst (bk_r h)) (by intro q; cases q)
set_option maxHeartbeats 2000000 in
set_option maxRecDepth 100000 in
theorem t_L_law_648 {l : Launch} (hls : l.stackTraces = false) {C : cT} (hC : CX C cL_law 9 yL_law rm_L_law) (hl : C.2.1 = l) {b L : Nat} {xs : Nat → Int32} (hX : LX C b L xs) {S9 : mS}  {cs28 sl28 : Nat} (hcs28 : cs28 ≤ 80538) (hsl28 : sl28 ≤ 327207) {rc28 : mS → Nat → Nat → Nat → Nat → Int32 → Option (Rs Int32)} (hrc28 : ∀ (S : mS) (a1 : Nat) (a2 : Nat) (a3 : Nat) (a4 : Nat) (a5 : Int32), rc28 S a1 a2 a3 a4 a5 = some ((.inl (1 : Int32), S9) : Rs Int32) → XX C 9 (LQ C b) (cs28 + 40021) (sl28 + 160086) S 28 [(1, .ref a1), (2, .ref a2), (3, .ref a3), (4, .ref a4), (5, .int a5)] []) {S : mS} {a1 : Nat} {a2 : Nat} {a3 : Nat} {a4 : Nat} {a5 : Int32} (h : f_L_law_648 L xs rc28 S a1 a2 a3 a4 a5 = some ((.inl (1 : Int32), S9) : Rs Int32)) : XX C 9 (LQ C b) (cs28 + 1) (sl28 + 6) S 648 [(1, .ref a1), (2, .ref a2), (3, .ref a3), (4, .ref a4), (5, .int a5)] [] := by
  unfold f_L_law_648 at h
  refine x_goto (pc := 648) hC 3632 dL_law_648 (by decide) ?_
  refine x_pick [0, 1, 2, 3, 4] rfl ?_
  refine x_widen (ce' := cs28 + 40021) (sl' := sl28 + 160086) (by omega) (by omega) ?_
  exact t_L_law_3632 hls hC hl hX (by omega) (by omega) hrc28 h
set_option maxHeartbeats 2000000 in
set_option maxRecDepth 100000 in
theorem t_L_law_642 {l : Launch} (hls : l.stackTraces = false) {C : cT} (hC : CX C cL_law 9 yL_law rm_L_law) (hl : C.2.1 = l) {b L : Nat} {xs : Nat → Int32} (hX : LX C b L xs) {S9 : mS}  {cs28 sl28 : Nat} (hcs28 : cs28 ≤ 80538) (hsl28 : sl28 ≤ 327207) {rc28 : mS → Nat → Nat → Nat → Nat → Int32 → Option (Rs Int32)} (hrc28 : ∀ (S : mS) (a1 : Nat) (a2 : Nat) (a3 : Nat) (a4 : Nat) (a5 : Int32), rc28 S a1 a2 a3 a4 a5 = some ((.inl (1 : Int32), S9) : Rs Int32) → XX C 9 (LQ C b) (cs28 + 40021) (sl28 + 160086) S 28 [(1, .ref a1), (2, .ref a2), (3, .ref a3), (4, .ref a4), (5, .int a5)] []) {S : mS} {a1 : Nat} {a2 : Nat} {a3 : Nat} {a4 : Nat} {a5 : Int32} {s0 : Int64} {s1 : Int64} (h : f_L_law_642 L xs rc28 S a1 a2 a3 a4 a5 s0 s1 = some ((.inl (1 : Int32), S9) : Rs Int32)) : XX C 9 (LQ C b) (cs28 + 1) (sl28 + 6) S 642 [(1, .ref a1), (2, .ref a2), (3, .ref a3), (4, .ref a4), (5, .int a5)] [.long s1, .long s0] := by
  unfold f_L_law_642 at h
  refine x_lcmpv (pc := 642) hC dL_law_642 (fun x1 hx1 => ?_)
  replace h := lt_x hx1 h
  refine x_if_eq (pc := 643) hC 648 dL_law_643 (by decide) (fun c2 => ?_) (fun c2 => ?_)
  · rw [if_pos c2] at h
    refine x_pick [0, 1, 2, 3, 4] rfl ?_
    exact t_L_law_648 hls hC hl hX (by omega) (by omega) hrc28 h
  · rw [if_neg c2] at h
    refine x_iconst (pc := 646) (v := (0 : Int32)) hC dL_law_646 (by decide) ?_
    exact (law_no h).elim
set_option maxHeartbeats 2000000 in
set_option maxRecDepth 100000 in
theorem t_L_law_608 {l : Launch} (hls : l.stackTraces = false) {C : cT} (hC : CX C cL_law 9 yL_law rm_L_law) (hl : C.2.1 = l) {b L : Nat} {xs : Nat → Int32} (hX : LX C b L xs) {S9 : mS}  {cs28 sl28 : Nat} (hcs28 : cs28 ≤ 80538) (hsl28 : sl28 ≤ 327207) {rc28 : mS → Nat → Nat → Nat → Nat → Int32 → Option (Rs Int32)} (hrc28 : ∀ (S : mS) (a1 : Nat) (a2 : Nat) (a3 : Nat) (a4 : Nat) (a5 : Int32), rc28 S a1 a2 a3 a4 a5 = some ((.inl (1 : Int32), S9) : Rs Int32) → XX C 9 (LQ C b) (cs28 + 40021) (sl28 + 160086) S 28 [(1, .ref a1), (2, .ref a2), (3, .ref a3), (4, .ref a4), (5, .int a5)] []) {S : mS} {a1 : Nat} {a2 : Nat} {a3 : Nat} {a4 : Nat} {a5 : Int32} {a6 : Int32} {s0 : Nat} {s1 : Int32} {s2 : Int32} (h : f_L_law_608 L xs rc28 S a1 a2 a3 a4 a5 a6 s0 s1 s2 = some ((.inl (1 : Int32), S9) : Rs Int32)) : XX C 9 (LQ C b) (cs28 + 1) (sl28 + 6) S 608 [(1, .ref a1), (2, .ref a2), (3, .ref a3), (4, .ref a4), (5, .int a5), (6, .int a6)] [.int s2, .int s1, .ref s0] := by
  unfold f_L_law_608 at h
  obtain ⟨g1, h⟩ := gd_some h
  obtain ⟨o4, ho4, h⟩ := bd_some h
  refine x_callV (pc := 608) (As := [.int s1, .int s2]) (rest := []) hC hl (c_X13_ban l hls ho4) lk_RL_206 fc_19 g1 dL_law_608 rfl rfl (Nat.le_of_ble_eq_true rfl) ⟨Nat.le_of_ble_eq_true rfl, Nat.le_of_ble_eq_true rfl⟩ ⟨(show cs28 + 1 ≤ (625622 : Nat) from by omega), (show sl28 + 6 ≤ (7225229 : Nat) from by omega)⟩ ?_
  rcases o4 with ⟨x2 | E5, S3⟩
  · refine xk_i ?_
    replace h := bk_l h
    refine x_widen (ce' := cs28 + 1) (sl' := sl28 + 6) (Nat.le_refl _) (Nat.le_refl _) ?_
    refine x_istore (pc := 611) hC dL_law_611 (by decide) (by decide) rfl ?_
    refine x_aload_n (pc := 613) hC 2 dL_law_613 rfl rfl ?_
    obtain ⟨g6, h⟩ := gd_some h
    obtain ⟨o9, ho9, h⟩ := bd_some h
    refine x_callV (pc := 614) (As := []) (rest := []) hC hl (c_X13_thrown l hls ho9) lk_RL_193 fc_19 g6 dL_law_614 rfl rfl (Nat.le_of_ble_eq_true rfl) ⟨Nat.le_of_ble_eq_true rfl, Nat.le_of_ble_eq_true rfl⟩ ⟨(show cs28 + 1 ≤ (625622 : Nat) from by omega), (show sl28 + 6 ≤ (7225229 : Nat) from by omega)⟩ ?_
    rcases o9 with ⟨x7 | E10, S8⟩
    · refine xk_i ?_
      replace h := bk_l h
      refine x_widen (ce' := cs28 + 1) (sl' := sl28 + 6) (Nat.le_refl _) (Nat.le_refl _) ?_
      refine x_iload (pc := 617) hC 6 dL_law_617 rfl ?_
      refine x_icmp_eq (pc := 619) hC 624 dL_law_619 (by decide) (fun c17 => ?_) (fun c17 => ?_)
      · rw [if_pos c17] at h
        refine x_iload (pc := 624) hC 6 dL_law_624 rfl ?_
        refine x_if_ne (pc := 626) hC 648 dL_law_626 (by decide) (fun c16 => ?_) (fun c16 => ?_)
        · rw [if_neg c16] at h
          refine x_pick [1, 2, 3, 4, 5] rfl ?_
          exact t_L_law_648 hls hC hl hX (by omega) (by omega) hrc28 h
        · rw [if_pos c16] at h
          refine x_aload_n (pc := 629) hC 3 dL_law_629 rfl rfl ?_
          refine x_iconst (pc := 630) (v := (0 : Int32)) hC dL_law_630 (by decide) ?_
          obtain ⟨g13, h⟩ := gd_some h
          obtain ⟨g12, h⟩ := gd_some h
          refine x_laldv (pc := 631) hC dL_law_631 g13 g12 (fun x14 hx14 => ?_)
          replace h := lt_x hx14 h
          refine x_iload (pc := 632) hC 0 dL_law_632 rfl ?_
          refine x_if_eq (pc := 634) hC 641 dL_law_634 (by decide) (fun c15 => ?_) (fun c15 => ?_)
          · rw [if_pos c15] at h
            refine x_lconst (pc := 641) (v := (0 : Int64)) hC dL_law_641 (by decide) ?_
            refine x_pick [1, 2, 3, 4, 5] rfl ?_
            exact t_L_law_642 hls hC hl hX (by omega) (by omega) hrc28 h
          · rw [if_neg c15] at h
            refine x_lconst (pc := 637) (v := (1 : Int64)) hC dL_law_637 (by decide) ?_
            refine x_goto (pc := 638) hC 642 dL_law_638 (by decide) ?_
            refine x_pick [1, 2, 3, 4, 5] rfl ?_
            exact t_L_law_642 hls hC hl hX (by omega) (by omega) hrc28 h
      · rw [if_neg c17] at h
        refine x_iconst (pc := 622) (v := (0 : Int32)) hC dL_law_622 (by decide) ?_
        exact (law_no h).elim
    · exact absurd (congrArg Prod.fst (bk_r h)) (by intro q; cases q)
  · exact absurd (congrArg Prod.fst (bk_r h)) (by intro q; cases q)
set_option maxHeartbeats 2000000 in
set_option maxRecDepth 100000 in
theorem t_L_law_581 {l : Launch} (hls : l.stackTraces = false) {C : cT} (hC : CX C cL_law 9 yL_law rm_L_law) (hl : C.2.1 = l) {b L : Nat} {xs : Nat → Int32} (hX : LX C b L xs) {S9 : mS}  {cs28 sl28 : Nat} (hcs28 : cs28 ≤ 80538) (hsl28 : sl28 ≤ 327207) {rc28 : mS → Nat → Nat → Nat → Nat → Int32 → Option (Rs Int32)} (hrc28 : ∀ (S : mS) (a1 : Nat) (a2 : Nat) (a3 : Nat) (a4 : Nat) (a5 : Int32), rc28 S a1 a2 a3 a4 a5 = some ((.inl (1 : Int32), S9) : Rs Int32) → XX C 9 (LQ C b) (cs28 + 40021) (sl28 + 160086) S 28 [(1, .ref a1), (2, .ref a2), (3, .ref a3), (4, .ref a4), (5, .int a5)] []) {S : mS} {a1 : Nat} {a2 : Nat} {a3 : Nat} {a4 : Nat} {a5 : Int32} {s0 : Nat} {s1 : Int32} {s2 : Int32} (h : f_L_law_581 L xs rc28 S a1 a2 a3 a4 a5 s0 s1 s2 = some ((.inl (1 : Int32), S9) : Rs Int32)) : XX C 9 (LQ C b) (cs28) (sl28) S 581 [(1, .ref a1), (2, .ref a2), (3, .ref a3), (4, .ref a4), (5, .int a5)] [.int s2, .int s1, .ref s0] := by
  unfold f_L_law_581 at h
  refine x_aload_n (pc := 581) hC 2 dL_law_581 rfl rfl ?_
  obtain ⟨o3, ho3, h⟩ := bd_some h
  refine x_callH (pc := 582) (As := [.ref s0, .int s1, .int s2, .ref a3]) (rest := []) hC hl (c_L_ban l hls ho3) lk_RL_203 dL_law_582 rfl rfl (Nat.le_of_ble_eq_true rfl) ⟨Nat.le_of_ble_eq_true rfl, Nat.le_of_ble_eq_true rfl⟩ ⟨(show cs28 + 1 ≤ (625622 : Nat) from by omega), (show sl28 + 6 ≤ (7225229 : Nat) from by omega)⟩ ?_
  rcases o3 with ⟨x1 | E4, S2⟩
  · refine xk_i ?_
    replace h := bk_l h
    refine x_widen (ce' := cs28 + 1) (sl' := sl28 + 6) (Nat.le_refl _) (Nat.le_refl _) ?_
    refine x_istore (pc := 585) hC dL_law_585 (by decide) (by decide) rfl ?_
    refine x_aload_n (pc := 587) hC 2 dL_law_587 rfl rfl ?_
    obtain ⟨g6, h⟩ := gd_some h
    refine x_sldk (pc := 588) (v := (1 : Int32)) hC hX 5 dL_law_588 dL_law_589 rfl dL_law_591 (by decide) dL_law_592 g6 dL_law_593 (fun x5 hx5 => ?_)
    replace h := lt_x hx5 h
    obtain ⟨g8, h⟩ := gd_some h
    refine x_sldk (pc := 594) (v := (2 : Int32)) hC hX 5 dL_law_594 dL_law_595 rfl dL_law_597 (by decide) dL_law_598 g8 dL_law_599 (fun x7 hx7 => ?_)
    replace h := lt_x hx7 h
    refine x_if_eq (pc := 600) hC 607 dL_law_600 (by decide) (fun c9 => ?_) (fun c9 => ?_)
    · rw [if_pos c9] at h
      refine x_iconst (pc := 607) (v := (0 : Int32)) hC dL_law_607 (by decide) ?_
      refine x_pick [1, 2, 3, 4, 5, 0] rfl ?_
      exact t_L_law_608 hls hC hl hX (by omega) (by omega) hrc28 h
    · rw [if_neg c9] at h
      refine x_iconst (pc := 603) (v := (1 : Int32)) hC dL_law_603 (by decide) ?_
      refine x_goto (pc := 604) hC 608 dL_law_604 (by decide) ?_
      refine x_pick [1, 2, 3, 4, 5, 0] rfl ?_
      exact t_L_law_608 hls hC hl hX (by omega) (by omega) hrc28 h
  · exact absurd (congrArg Prod.fst (bk_r h)) (by intro q; cases q)
set_option maxHeartbeats 2000000 in
set_option maxRecDepth 100000 in
theorem t_L_law_560 {l : Launch} (hls : l.stackTraces = false) {C : cT} (hC : CX C cL_law 9 yL_law rm_L_law) (hl : C.2.1 = l) {b L : Nat} {xs : Nat → Int32} (hX : LX C b L xs) {S9 : mS}  {cs28 sl28 : Nat} (hcs28 : cs28 ≤ 80538) (hsl28 : sl28 ≤ 327207) {rc28 : mS → Nat → Nat → Nat → Nat → Int32 → Option (Rs Int32)} (hrc28 : ∀ (S : mS) (a1 : Nat) (a2 : Nat) (a3 : Nat) (a4 : Nat) (a5 : Int32), rc28 S a1 a2 a3 a4 a5 = some ((.inl (1 : Int32), S9) : Rs Int32) → XX C 9 (LQ C b) (cs28 + 40021) (sl28 + 160086) S 28 [(1, .ref a1), (2, .ref a2), (3, .ref a3), (4, .ref a4), (5, .int a5)] []) {S : mS} {a1 : Nat} {a2 : Nat} {a3 : Nat} {a4 : Nat} {a5 : Int32} (h : f_L_law_560 L xs rc28 S a1 a2 a3 a4 a5 = some ((.inl (1 : Int32), S9) : Rs Int32)) : XX C 9 (LQ C b) (cs28) (sl28) S 560 [(1, .ref a1), (2, .ref a2), (3, .ref a3), (4, .ref a4), (5, .int a5)] [] := by
  unfold f_L_law_560 at h
  refine x_aload_n (pc := 560) hC 0 dL_law_560 rfl rfl ?_
  obtain ⟨g2, h⟩ := gd_some h
  refine x_sldk (pc := 561) (v := (1 : Int32)) hC hX 4 dL_law_561 dL_law_562 rfl dL_law_564 (by decide) dL_law_565 g2 dL_law_566 (fun x1 hx1 => ?_)
  replace h := lt_x hx1 h
  obtain ⟨g4, h⟩ := gd_some h
  refine x_sldk (pc := 567) (v := (2 : Int32)) hC hX 4 dL_law_567 dL_law_568 rfl dL_law_570 (by decide) dL_law_571 g4 dL_law_572 (fun x3 hx3 => ?_)
  replace h := lt_x hx3 h
  refine x_if_eq (pc := 573) hC 580 dL_law_573 (by decide) (fun c5 => ?_) (fun c5 => ?_)
  · rw [if_pos c5] at h
    refine x_iconst (pc := 580) (v := (0 : Int32)) hC dL_law_580 (by decide) ?_
    refine x_pick [0, 1, 2, 3, 4] rfl ?_
    exact t_L_law_581 hls hC hl hX (by omega) (by omega) hrc28 h
  · rw [if_neg c5] at h
    refine x_iconst (pc := 576) (v := (1 : Int32)) hC dL_law_576 (by decide) ?_
    refine x_goto (pc := 577) hC 581 dL_law_577 (by decide) ?_
    refine x_pick [0, 1, 2, 3, 4] rfl ?_
    exact t_L_law_581 hls hC hl hX (by omega) (by omega) hrc28 h
set_option maxHeartbeats 2000000 in
set_option maxRecDepth 100000 in
theorem t_L_law_711 {l : Launch} (hls : l.stackTraces = false) {C : cT} (hC : CX C cL_law 9 yL_law rm_L_law) (hl : C.2.1 = l) {b L : Nat} {xs : Nat → Int32} (hX : LX C b L xs) {S9 : mS}  {cs28 sl28 : Nat} (hcs28 : cs28 ≤ 80538) (hsl28 : sl28 ≤ 327207) {rc28 : mS → Nat → Nat → Nat → Nat → Int32 → Option (Rs Int32)} (hrc28 : ∀ (S : mS) (a1 : Nat) (a2 : Nat) (a3 : Nat) (a4 : Nat) (a5 : Int32), rc28 S a1 a2 a3 a4 a5 = some ((.inl (1 : Int32), S9) : Rs Int32) → XX C 9 (LQ C b) (cs28 + 40021) (sl28 + 160086) S 28 [(1, .ref a1), (2, .ref a2), (3, .ref a3), (4, .ref a4), (5, .int a5)] []) {S : mS} {a1 : Nat} {a2 : Nat} {a3 : Nat} {a4 : Nat} {a5 : Int32} (h : f_L_law_711 L xs rc28 S a1 a2 a3 a4 a5 = some ((.inl (1 : Int32), S9) : Rs Int32)) : XX C 9 (LQ C b) (cs28 + 1) (sl28 + 6) S 711 [(1, .ref a1), (2, .ref a2), (3, .ref a3), (4, .ref a4), (5, .int a5)] [] := by
  unfold f_L_law_711 at h
  refine x_goto (pc := 711) hC 3632 dL_law_711 (by decide) ?_
  refine x_pick [0, 1, 2, 3, 4] rfl ?_
  refine x_widen (ce' := cs28 + 40021) (sl' := sl28 + 160086) (by omega) (by omega) ?_
  exact t_L_law_3632 hls hC hl hX (by omega) (by omega) hrc28 h
set_option maxHeartbeats 2000000 in
set_option maxRecDepth 100000 in
theorem t_L_law_705 {l : Launch} (hls : l.stackTraces = false) {C : cT} (hC : CX C cL_law 9 yL_law rm_L_law) (hl : C.2.1 = l) {b L : Nat} {xs : Nat → Int32} (hX : LX C b L xs) {S9 : mS}  {cs28 sl28 : Nat} (hcs28 : cs28 ≤ 80538) (hsl28 : sl28 ≤ 327207) {rc28 : mS → Nat → Nat → Nat → Nat → Int32 → Option (Rs Int32)} (hrc28 : ∀ (S : mS) (a1 : Nat) (a2 : Nat) (a3 : Nat) (a4 : Nat) (a5 : Int32), rc28 S a1 a2 a3 a4 a5 = some ((.inl (1 : Int32), S9) : Rs Int32) → XX C 9 (LQ C b) (cs28 + 40021) (sl28 + 160086) S 28 [(1, .ref a1), (2, .ref a2), (3, .ref a3), (4, .ref a4), (5, .int a5)] []) {S : mS} {a1 : Nat} {a2 : Nat} {a3 : Nat} {a4 : Nat} {a5 : Int32} {s0 : Int64} {s1 : Int64} (h : f_L_law_705 L xs rc28 S a1 a2 a3 a4 a5 s0 s1 = some ((.inl (1 : Int32), S9) : Rs Int32)) : XX C 9 (LQ C b) (cs28 + 1) (sl28 + 6) S 705 [(1, .ref a1), (2, .ref a2), (3, .ref a3), (4, .ref a4), (5, .int a5)] [.long s1, .long s0] := by
  unfold f_L_law_705 at h
  refine x_lcmpv (pc := 705) hC dL_law_705 (fun x1 hx1 => ?_)
  replace h := lt_x hx1 h
  refine x_if_eq (pc := 706) hC 711 dL_law_706 (by decide) (fun c2 => ?_) (fun c2 => ?_)
  · rw [if_pos c2] at h
    refine x_pick [0, 1, 2, 3, 4] rfl ?_
    exact t_L_law_711 hls hC hl hX (by omega) (by omega) hrc28 h
  · rw [if_neg c2] at h
    refine x_iconst (pc := 709) (v := (0 : Int32)) hC dL_law_709 (by decide) ?_
    exact (law_no h).elim
set_option maxHeartbeats 2000000 in
set_option maxRecDepth 100000 in
theorem t_L_law_651 {l : Launch} (hls : l.stackTraces = false) {C : cT} (hC : CX C cL_law 9 yL_law rm_L_law) (hl : C.2.1 = l) {b L : Nat} {xs : Nat → Int32} (hX : LX C b L xs) {S9 : mS}  {cs28 sl28 : Nat} (hcs28 : cs28 ≤ 80538) (hsl28 : sl28 ≤ 327207) {rc28 : mS → Nat → Nat → Nat → Nat → Int32 → Option (Rs Int32)} (hrc28 : ∀ (S : mS) (a1 : Nat) (a2 : Nat) (a3 : Nat) (a4 : Nat) (a5 : Int32), rc28 S a1 a2 a3 a4 a5 = some ((.inl (1 : Int32), S9) : Rs Int32) → XX C 9 (LQ C b) (cs28 + 40021) (sl28 + 160086) S 28 [(1, .ref a1), (2, .ref a2), (3, .ref a3), (4, .ref a4), (5, .int a5)] []) {S : mS} {a1 : Nat} {a2 : Nat} {a3 : Nat} {a4 : Nat} {a5 : Int32} (h : f_L_law_651 L xs rc28 S a1 a2 a3 a4 a5 = some ((.inl (1 : Int32), S9) : Rs Int32)) : XX C 9 (LQ C b) (cs28) (sl28) S 651 [(1, .ref a1), (2, .ref a2), (3, .ref a3), (4, .ref a4), (5, .int a5)] [] := by
  unfold f_L_law_651 at h
  refine x_aload_n (pc := 651) hC 0 dL_law_651 rfl rfl ?_
  obtain ⟨g2, h⟩ := gd_some h
  refine x_sldk (pc := 652) (v := (1 : Int32)) hC hX 4 dL_law_652 dL_law_653 rfl dL_law_655 (by decide) dL_law_656 g2 dL_law_657 (fun x1 hx1 => ?_)
  replace h := lt_x hx1 h
  refine x_aload_n (pc := 658) hC 2 dL_law_658 rfl rfl ?_
  obtain ⟨o5, ho5, h⟩ := bd_some h
  refine x_callH (pc := 659) (As := [.ref a1, .int x1, .ref a3]) (rest := []) hC hl (c_L_request l hls ho5) lk_RL_207 dL_law_659 rfl rfl (Nat.le_of_ble_eq_true rfl) ⟨Nat.le_of_ble_eq_true rfl, Nat.le_of_ble_eq_true rfl⟩ ⟨(show cs28 + 1 ≤ (625622 : Nat) from by omega), (show sl28 + 6 ≤ (7225229 : Nat) from by omega)⟩ ?_
  rcases o5 with ⟨x3 | E6, S4⟩
  · refine xk_i ?_
    replace h := bk_l h
    refine x_widen (ce' := cs28 + 1) (sl' := sl28 + 6) (Nat.le_refl _) (Nat.le_refl _) ?_
    refine x_istore (pc := 662) hC dL_law_662 (by decide) (by decide) rfl ?_
    refine x_aload_n (pc := 664) hC 2 dL_law_664 rfl rfl ?_
    obtain ⟨g8, h⟩ := gd_some h
    refine x_sldk (pc := 665) (v := (1 : Int32)) hC hX 5 dL_law_665 dL_law_666 rfl dL_law_668 (by decide) dL_law_669 g8 dL_law_670 (fun x7 hx7 => ?_)
    replace h := lt_x hx7 h
    obtain ⟨g9, h⟩ := gd_some h
    obtain ⟨o12, ho12, h⟩ := bd_some h
    refine x_callV (pc := 671) (As := [.int x7]) (rest := []) hC hl (c_X13_request l hls ho12) lk_RL_210 fc_19 g9 dL_law_671 rfl rfl (Nat.le_of_ble_eq_true rfl) ⟨Nat.le_of_ble_eq_true rfl, Nat.le_of_ble_eq_true rfl⟩ ⟨(show cs28 + 1 ≤ (625622 : Nat) from by omega), (show sl28 + 6 ≤ (7225229 : Nat) from by omega)⟩ ?_
    rcases o12 with ⟨x10 | E13, S11⟩
    · refine xk_i ?_
      replace h := bk_l h
      refine x_widen (ce' := cs28 + 1) (sl' := sl28 + 6) (Nat.le_refl _) (Nat.le_refl _) ?_
      refine x_istore (pc := 674) hC dL_law_674 (by decide) (by decide) rfl ?_
      refine x_aload_n (pc := 676) hC 3 dL_law_676 rfl rfl ?_
      obtain ⟨g14, h⟩ := gd_some h
      obtain ⟨o17, ho17, h⟩ := bd_some h
      refine x_callV (pc := 677) (As := []) (rest := []) hC hl (c_X13_thrown l hls ho17) lk_RL_193 fc_19 g14 dL_law_677 rfl rfl (Nat.le_of_ble_eq_true rfl) ⟨Nat.le_of_ble_eq_true rfl, Nat.le_of_ble_eq_true rfl⟩ ⟨(show cs28 + 1 ≤ (625622 : Nat) from by omega), (show sl28 + 6 ≤ (7225229 : Nat) from by omega)⟩ ?_
      rcases o17 with ⟨x15 | E18, S16⟩
      · refine xk_i ?_
        replace h := bk_l h
        refine x_widen (ce' := cs28 + 1) (sl' := sl28 + 6) (Nat.le_refl _) (Nat.le_refl _) ?_
        refine x_iload (pc := 680) hC 1 dL_law_680 rfl ?_
        refine x_icmp_eq (pc := 682) hC 687 dL_law_682 (by decide) (fun c25 => ?_) (fun c25 => ?_)
        · rw [if_pos c25] at h
          refine x_iload (pc := 687) hC 1 dL_law_687 rfl ?_
          refine x_if_ne (pc := 689) hC 711 dL_law_689 (by decide) (fun c24 => ?_) (fun c24 => ?_)
          · rw [if_neg c24] at h
            refine x_pick [2, 3, 4, 5, 6] rfl ?_
            exact t_L_law_711 hls hC hl hX (by omega) (by omega) hrc28 h
          · rw [if_pos c24] at h
            refine x_aload_n (pc := 692) hC 4 dL_law_692 rfl rfl ?_
            refine x_iconst (pc := 693) (v := (0 : Int32)) hC dL_law_693 (by decide) ?_
            obtain ⟨g21, h⟩ := gd_some h
            obtain ⟨g20, h⟩ := gd_some h
            refine x_laldv (pc := 694) hC dL_law_694 g21 g20 (fun x22 hx22 => ?_)
            replace h := lt_x hx22 h
            refine x_iload (pc := 695) hC 0 dL_law_695 rfl ?_
            refine x_if_eq (pc := 697) hC 704 dL_law_697 (by decide) (fun c23 => ?_) (fun c23 => ?_)
            · rw [if_pos c23] at h
              refine x_lconst (pc := 704) (v := (0 : Int64)) hC dL_law_704 (by decide) ?_
              refine x_pick [2, 3, 4, 5, 6] rfl ?_
              exact t_L_law_705 hls hC hl hX (by omega) (by omega) hrc28 h
            · rw [if_neg c23] at h
              refine x_lconst (pc := 700) (v := (1 : Int64)) hC dL_law_700 (by decide) ?_
              refine x_goto (pc := 701) hC 705 dL_law_701 (by decide) ?_
              refine x_pick [2, 3, 4, 5, 6] rfl ?_
              exact t_L_law_705 hls hC hl hX (by omega) (by omega) hrc28 h
        · rw [if_neg c25] at h
          refine x_iconst (pc := 685) (v := (0 : Int32)) hC dL_law_685 (by decide) ?_
          exact (law_no h).elim
      · exact absurd (congrArg Prod.fst (bk_r h)) (by intro q; cases q)
    · exact absurd (congrArg Prod.fst (bk_r h)) (by intro q; cases q)
  · exact absurd (congrArg Prod.fst (bk_r h)) (by intro q; cases q)
set_option maxHeartbeats 2000000 in
set_option maxRecDepth 100000 in
theorem t_L_law_779 {l : Launch} (hls : l.stackTraces = false) {C : cT} (hC : CX C cL_law 9 yL_law rm_L_law) (hl : C.2.1 = l) {b L : Nat} {xs : Nat → Int32} (hX : LX C b L xs) {S9 : mS}  {cs28 sl28 : Nat} (hcs28 : cs28 ≤ 80538) (hsl28 : sl28 ≤ 327207) {rc28 : mS → Nat → Nat → Nat → Nat → Int32 → Option (Rs Int32)} (hrc28 : ∀ (S : mS) (a1 : Nat) (a2 : Nat) (a3 : Nat) (a4 : Nat) (a5 : Int32), rc28 S a1 a2 a3 a4 a5 = some ((.inl (1 : Int32), S9) : Rs Int32) → XX C 9 (LQ C b) (cs28 + 40021) (sl28 + 160086) S 28 [(1, .ref a1), (2, .ref a2), (3, .ref a3), (4, .ref a4), (5, .int a5)] []) {S : mS} {a1 : Nat} {a2 : Nat} {a3 : Nat} {a4 : Nat} {a5 : Int32} (h : f_L_law_779 L xs rc28 S a1 a2 a3 a4 a5 = some ((.inl (1 : Int32), S9) : Rs Int32)) : XX C 9 (LQ C b) (cs28 + 3) (sl28 + 18) S 779 [(1, .ref a1), (2, .ref a2), (3, .ref a3), (4, .ref a4), (5, .int a5)] [] := by
  unfold f_L_law_779 at h
  refine x_goto (pc := 779) hC 3632 dL_law_779 (by decide) ?_
  refine x_pick [0, 1, 2, 3, 4] rfl ?_
  refine x_widen (ce' := cs28 + 40021) (sl' := sl28 + 160086) (by omega) (by omega) ?_
  exact t_L_law_3632 hls hC hl hX (by omega) (by omega) hrc28 h
set_option maxHeartbeats 2000000 in
set_option maxRecDepth 100000 in
theorem t_L_law_714 {l : Launch} (hls : l.stackTraces = false) {C : cT} (hC : CX C cL_law 9 yL_law rm_L_law) (hl : C.2.1 = l) {b L : Nat} {xs : Nat → Int32} (hX : LX C b L xs) {S9 : mS}  {cs28 sl28 : Nat} (hcs28 : cs28 ≤ 80538) (hsl28 : sl28 ≤ 327207) {rc28 : mS → Nat → Nat → Nat → Nat → Int32 → Option (Rs Int32)} (hrc28 : ∀ (S : mS) (a1 : Nat) (a2 : Nat) (a3 : Nat) (a4 : Nat) (a5 : Int32), rc28 S a1 a2 a3 a4 a5 = some ((.inl (1 : Int32), S9) : Rs Int32) → XX C 9 (LQ C b) (cs28 + 40021) (sl28 + 160086) S 28 [(1, .ref a1), (2, .ref a2), (3, .ref a3), (4, .ref a4), (5, .int a5)] []) {S : mS} {a1 : Nat} {a2 : Nat} {a3 : Nat} {a4 : Nat} {a5 : Int32} (h : f_L_law_714 L xs rc28 S a1 a2 a3 a4 a5 = some ((.inl (1 : Int32), S9) : Rs Int32)) : XX C 9 (LQ C b) (cs28) (sl28) S 714 [(1, .ref a1), (2, .ref a2), (3, .ref a3), (4, .ref a4), (5, .int a5)] [] := by
  unfold f_L_law_714 at h
  refine x_aload_n (pc := 714) hC 0 dL_law_714 rfl rfl ?_
  obtain ⟨g2, h⟩ := gd_some h
  refine x_sldk (pc := 715) (v := (1 : Int32)) hC hX 4 dL_law_715 dL_law_716 rfl dL_law_718 (by decide) dL_law_719 g2 dL_law_720 (fun x1 hx1 => ?_)
  replace h := lt_x hx1 h
  obtain ⟨g4, h⟩ := gd_some h
  refine x_sldk (pc := 721) (v := (2 : Int32)) hC hX 4 dL_law_721 dL_law_722 rfl dL_law_724 (by decide) dL_law_725 g4 dL_law_726 (fun x3 hx3 => ?_)
  replace h := lt_x hx3 h
  refine x_aload_n (pc := 727) hC 2 dL_law_727 rfl rfl ?_
  obtain ⟨o7, ho7, h⟩ := bd_some h
  refine x_callH (pc := 728) (As := [.ref a1, .int x1, .int x3, .ref a3]) (rest := []) hC hl (c_L_load l hls ho7) lk_RL_211 dL_law_728 rfl rfl (Nat.le_of_ble_eq_true rfl) ⟨Nat.le_of_ble_eq_true rfl, Nat.le_of_ble_eq_true rfl⟩ ⟨(show cs28 + 3 ≤ (625622 : Nat) from by omega), (show sl28 + 18 ≤ (7225229 : Nat) from by omega)⟩ ?_
  rcases o7 with ⟨x5 | E8, S6⟩
  · refine xk_i ?_
    replace h := bk_l h
    refine x_widen (ce' := cs28 + 3) (sl' := sl28 + 18) (Nat.le_refl _) (Nat.le_refl _) ?_
    refine x_istore (pc := 731) hC dL_law_731 (by decide) (by decide) rfl ?_
    refine x_aload_n (pc := 733) hC 2 dL_law_733 rfl rfl ?_
    obtain ⟨g10, h⟩ := gd_some h
    refine x_sldk (pc := 734) (v := (1 : Int32)) hC hX 5 dL_law_734 dL_law_735 rfl dL_law_737 (by decide) dL_law_738 g10 dL_law_739 (fun x9 hx9 => ?_)
    replace h := lt_x hx9 h
    obtain ⟨g12, h⟩ := gd_some h
    refine x_sldk (pc := 740) (v := (2 : Int32)) hC hX 5 dL_law_740 dL_law_741 rfl dL_law_743 (by decide) dL_law_744 g12 dL_law_745 (fun x11 hx11 => ?_)
    replace h := lt_x hx11 h
    obtain ⟨g13, h⟩ := gd_some h
    obtain ⟨o16, ho16, h⟩ := bd_some h
    refine x_callV (pc := 746) (As := [.int x9, .int x11]) (rest := []) hC hl (c_X13_load l hls ho16) lk_RL_213 fc_19 g13 dL_law_746 rfl rfl (Nat.le_of_ble_eq_true rfl) ⟨Nat.le_of_ble_eq_true rfl, Nat.le_of_ble_eq_true rfl⟩ ⟨(show cs28 + 3 ≤ (625622 : Nat) from by omega), (show sl28 + 18 ≤ (7225229 : Nat) from by omega)⟩ ?_
    rcases o16 with ⟨x14 | E17, S15⟩
    · refine xk_i ?_
      replace h := bk_l h
      refine x_widen (ce' := cs28 + 3) (sl' := sl28 + 18) (Nat.le_refl _) (Nat.le_refl _) ?_
      refine x_istore (pc := 749) hC dL_law_749 (by decide) (by decide) rfl ?_
      refine x_aload_n (pc := 751) hC 3 dL_law_751 rfl rfl ?_
      obtain ⟨g18, h⟩ := gd_some h
      obtain ⟨o21, ho21, h⟩ := bd_some h
      refine x_callV (pc := 752) (As := []) (rest := []) hC hl (c_X13_thrown l hls ho21) lk_RL_193 fc_19 g18 dL_law_752 rfl rfl (Nat.le_of_ble_eq_true rfl) ⟨Nat.le_of_ble_eq_true rfl, Nat.le_of_ble_eq_true rfl⟩ ⟨(show cs28 + 3 ≤ (625622 : Nat) from by omega), (show sl28 + 18 ≤ (7225229 : Nat) from by omega)⟩ ?_
      rcases o21 with ⟨x19 | E22, S20⟩
      · refine xk_i ?_
        replace h := bk_l h
        refine x_widen (ce' := cs28 + 3) (sl' := sl28 + 18) (Nat.le_refl _) (Nat.le_refl _) ?_
        refine x_iload (pc := 755) hC 1 dL_law_755 rfl ?_
        refine x_icmp_eq (pc := 757) hC 762 dL_law_757 (by decide) (fun c31 => ?_) (fun c31 => ?_)
        · rw [if_pos c31] at h
          refine x_iload (pc := 762) hC 1 dL_law_762 rfl ?_
          refine x_if_ne (pc := 764) hC 779 dL_law_764 (by decide) (fun c30 => ?_) (fun c30 => ?_)
          · rw [if_neg c30] at h
            refine x_pick [2, 3, 4, 5, 6] rfl ?_
            exact t_L_law_779 hls hC hl hX (by omega) (by omega) hrc28 h
          · rw [if_pos c30] at h
            refine x_aload_n (pc := 767) hC 4 dL_law_767 rfl rfl ?_
            refine x_iconst (pc := 768) (v := (0 : Int32)) hC dL_law_768 (by decide) ?_
            obtain ⟨g25, h⟩ := gd_some h
            obtain ⟨g24, h⟩ := gd_some h
            refine x_laldv (pc := 769) hC dL_law_769 g25 g24 (fun x26 hx26 => ?_)
            replace h := lt_x hx26 h
            refine x_iload (pc := 770) hC 0 dL_law_770 rfl ?_
            refine x_i2lv (pc := 772) hC dL_law_772 (fun x27 hx27 => ?_)
            replace h := lt_x hx27 h
            refine x_lcmpv (pc := 773) hC dL_law_773 (fun x28 hx28 => ?_)
            replace h := lt_x hx28 h
            refine x_if_eq (pc := 774) hC 779 dL_law_774 (by decide) (fun c29 => ?_) (fun c29 => ?_)
            · rw [if_pos c29] at h
              refine x_pick [2, 3, 4, 5, 6] rfl ?_
              exact t_L_law_779 hls hC hl hX (by omega) (by omega) hrc28 h
            · rw [if_neg c29] at h
              refine x_iconst (pc := 777) (v := (0 : Int32)) hC dL_law_777 (by decide) ?_
              exact (law_no h).elim
        · rw [if_neg c31] at h
          refine x_iconst (pc := 760) (v := (0 : Int32)) hC dL_law_760 (by decide) ?_
          exact (law_no h).elim
      · exact absurd (congrArg Prod.fst (bk_r h)) (by intro q; cases q)
    · exact absurd (congrArg Prod.fst (bk_r h)) (by intro q; cases q)
  · exact absurd (congrArg Prod.fst (bk_r h)) (by intro q; cases q)
set_option maxHeartbeats 2000000 in
set_option maxRecDepth 100000 in
theorem t_L_law_842 {l : Launch} (hls : l.stackTraces = false) {C : cT} (hC : CX C cL_law 9 yL_law rm_L_law) (hl : C.2.1 = l) {b L : Nat} {xs : Nat → Int32} (hX : LX C b L xs) {S9 : mS}  {cs28 sl28 : Nat} (hcs28 : cs28 ≤ 80538) (hsl28 : sl28 ≤ 327207) {rc28 : mS → Nat → Nat → Nat → Nat → Int32 → Option (Rs Int32)} (hrc28 : ∀ (S : mS) (a1 : Nat) (a2 : Nat) (a3 : Nat) (a4 : Nat) (a5 : Int32), rc28 S a1 a2 a3 a4 a5 = some ((.inl (1 : Int32), S9) : Rs Int32) → XX C 9 (LQ C b) (cs28 + 40021) (sl28 + 160086) S 28 [(1, .ref a1), (2, .ref a2), (3, .ref a3), (4, .ref a4), (5, .int a5)] []) {S : mS} {a1 : Nat} {a2 : Nat} {a3 : Nat} {a4 : Nat} {a5 : Int32} (h : f_L_law_842 L xs rc28 S a1 a2 a3 a4 a5 = some ((.inl (1 : Int32), S9) : Rs Int32)) : XX C 9 (LQ C b) (cs28 + 2) (sl28 + 12) S 842 [(1, .ref a1), (2, .ref a2), (3, .ref a3), (4, .ref a4), (5, .int a5)] [] := by
  unfold f_L_law_842 at h
  refine x_goto (pc := 842) hC 3632 dL_law_842 (by decide) ?_
  refine x_pick [0, 1, 2, 3, 4] rfl ?_
  refine x_widen (ce' := cs28 + 40021) (sl' := sl28 + 160086) (by omega) (by omega) ?_
  exact t_L_law_3632 hls hC hl hX (by omega) (by omega) hrc28 h
set_option maxHeartbeats 2000000 in
set_option maxRecDepth 100000 in
theorem t_L_law_836 {l : Launch} (hls : l.stackTraces = false) {C : cT} (hC : CX C cL_law 9 yL_law rm_L_law) (hl : C.2.1 = l) {b L : Nat} {xs : Nat → Int32} (hX : LX C b L xs) {S9 : mS}  {cs28 sl28 : Nat} (hcs28 : cs28 ≤ 80538) (hsl28 : sl28 ≤ 327207) {rc28 : mS → Nat → Nat → Nat → Nat → Int32 → Option (Rs Int32)} (hrc28 : ∀ (S : mS) (a1 : Nat) (a2 : Nat) (a3 : Nat) (a4 : Nat) (a5 : Int32), rc28 S a1 a2 a3 a4 a5 = some ((.inl (1 : Int32), S9) : Rs Int32) → XX C 9 (LQ C b) (cs28 + 40021) (sl28 + 160086) S 28 [(1, .ref a1), (2, .ref a2), (3, .ref a3), (4, .ref a4), (5, .int a5)] []) {S : mS} {a1 : Nat} {a2 : Nat} {a3 : Nat} {a4 : Nat} {a5 : Int32} {s0 : Int64} {s1 : Int64} (h : f_L_law_836 L xs rc28 S a1 a2 a3 a4 a5 s0 s1 = some ((.inl (1 : Int32), S9) : Rs Int32)) : XX C 9 (LQ C b) (cs28 + 2) (sl28 + 12) S 836 [(1, .ref a1), (2, .ref a2), (3, .ref a3), (4, .ref a4), (5, .int a5)] [.long s1, .long s0] := by
  unfold f_L_law_836 at h
  refine x_lcmpv (pc := 836) hC dL_law_836 (fun x1 hx1 => ?_)
  replace h := lt_x hx1 h
  refine x_if_eq (pc := 837) hC 842 dL_law_837 (by decide) (fun c2 => ?_) (fun c2 => ?_)
  · rw [if_pos c2] at h
    refine x_pick [0, 1, 2, 3, 4] rfl ?_
    exact t_L_law_842 hls hC hl hX (by omega) (by omega) hrc28 h
  · rw [if_neg c2] at h
    refine x_iconst (pc := 840) (v := (0 : Int32)) hC dL_law_840 (by decide) ?_
    exact (law_no h).elim
set_option maxHeartbeats 2000000 in
set_option maxRecDepth 100000 in
theorem t_L_law_782 {l : Launch} (hls : l.stackTraces = false) {C : cT} (hC : CX C cL_law 9 yL_law rm_L_law) (hl : C.2.1 = l) {b L : Nat} {xs : Nat → Int32} (hX : LX C b L xs) {S9 : mS}  {cs28 sl28 : Nat} (hcs28 : cs28 ≤ 80538) (hsl28 : sl28 ≤ 327207) {rc28 : mS → Nat → Nat → Nat → Nat → Int32 → Option (Rs Int32)} (hrc28 : ∀ (S : mS) (a1 : Nat) (a2 : Nat) (a3 : Nat) (a4 : Nat) (a5 : Int32), rc28 S a1 a2 a3 a4 a5 = some ((.inl (1 : Int32), S9) : Rs Int32) → XX C 9 (LQ C b) (cs28 + 40021) (sl28 + 160086) S 28 [(1, .ref a1), (2, .ref a2), (3, .ref a3), (4, .ref a4), (5, .int a5)] []) {S : mS} {a1 : Nat} {a2 : Nat} {a3 : Nat} {a4 : Nat} {a5 : Int32} (h : f_L_law_782 L xs rc28 S a1 a2 a3 a4 a5 = some ((.inl (1 : Int32), S9) : Rs Int32)) : XX C 9 (LQ C b) (cs28) (sl28) S 782 [(1, .ref a1), (2, .ref a2), (3, .ref a3), (4, .ref a4), (5, .int a5)] [] := by
  unfold f_L_law_782 at h
  refine x_aload_n (pc := 782) hC 0 dL_law_782 rfl rfl ?_
  obtain ⟨g2, h⟩ := gd_some h
  refine x_sldk (pc := 783) (v := (1 : Int32)) hC hX 4 dL_law_783 dL_law_784 rfl dL_law_786 (by decide) dL_law_787 g2 dL_law_788 (fun x1 hx1 => ?_)
  replace h := lt_x hx1 h
  refine x_aload_n (pc := 789) hC 2 dL_law_789 rfl rfl ?_
  obtain ⟨o5, ho5, h⟩ := bd_some h
  refine x_callH (pc := 790) (As := [.ref a1, .int x1, .ref a3]) (rest := []) hC hl (c_L_play l hls ho5) lk_RL_214 dL_law_790 rfl rfl (Nat.le_of_ble_eq_true rfl) ⟨Nat.le_of_ble_eq_true rfl, Nat.le_of_ble_eq_true rfl⟩ ⟨(show cs28 + 2 ≤ (625622 : Nat) from by omega), (show sl28 + 12 ≤ (7225229 : Nat) from by omega)⟩ ?_
  rcases o5 with ⟨x3 | E6, S4⟩
  · refine xk_i ?_
    replace h := bk_l h
    refine x_widen (ce' := cs28 + 2) (sl' := sl28 + 12) (Nat.le_refl _) (Nat.le_refl _) ?_
    refine x_istore (pc := 793) hC dL_law_793 (by decide) (by decide) rfl ?_
    refine x_aload_n (pc := 795) hC 2 dL_law_795 rfl rfl ?_
    obtain ⟨g8, h⟩ := gd_some h
    refine x_sldk (pc := 796) (v := (1 : Int32)) hC hX 5 dL_law_796 dL_law_797 rfl dL_law_799 (by decide) dL_law_800 g8 dL_law_801 (fun x7 hx7 => ?_)
    replace h := lt_x hx7 h
    obtain ⟨g9, h⟩ := gd_some h
    obtain ⟨o12, ho12, h⟩ := bd_some h
    refine x_callV (pc := 802) (As := [.int x7]) (rest := []) hC hl (c_X13_play l hls ho12) lk_RL_216 fc_19 g9 dL_law_802 rfl rfl (Nat.le_of_ble_eq_true rfl) ⟨Nat.le_of_ble_eq_true rfl, Nat.le_of_ble_eq_true rfl⟩ ⟨(show cs28 + 2 ≤ (625622 : Nat) from by omega), (show sl28 + 12 ≤ (7225229 : Nat) from by omega)⟩ ?_
    rcases o12 with ⟨x10 | E13, S11⟩
    · refine xk_i ?_
      replace h := bk_l h
      refine x_widen (ce' := cs28 + 2) (sl' := sl28 + 12) (Nat.le_refl _) (Nat.le_refl _) ?_
      refine x_istore (pc := 805) hC dL_law_805 (by decide) (by decide) rfl ?_
      refine x_aload_n (pc := 807) hC 3 dL_law_807 rfl rfl ?_
      obtain ⟨g14, h⟩ := gd_some h
      obtain ⟨o17, ho17, h⟩ := bd_some h
      refine x_callV (pc := 808) (As := []) (rest := []) hC hl (c_X13_thrown l hls ho17) lk_RL_193 fc_19 g14 dL_law_808 rfl rfl (Nat.le_of_ble_eq_true rfl) ⟨Nat.le_of_ble_eq_true rfl, Nat.le_of_ble_eq_true rfl⟩ ⟨(show cs28 + 2 ≤ (625622 : Nat) from by omega), (show sl28 + 12 ≤ (7225229 : Nat) from by omega)⟩ ?_
      rcases o17 with ⟨x15 | E18, S16⟩
      · refine xk_i ?_
        replace h := bk_l h
        refine x_widen (ce' := cs28 + 2) (sl' := sl28 + 12) (Nat.le_refl _) (Nat.le_refl _) ?_
        refine x_iload (pc := 811) hC 1 dL_law_811 rfl ?_
        refine x_icmp_eq (pc := 813) hC 818 dL_law_813 (by decide) (fun c25 => ?_) (fun c25 => ?_)
        · rw [if_pos c25] at h
          refine x_iload (pc := 818) hC 1 dL_law_818 rfl ?_
          refine x_if_ne (pc := 820) hC 842 dL_law_820 (by decide) (fun c24 => ?_) (fun c24 => ?_)
          · rw [if_neg c24] at h
            refine x_pick [2, 3, 4, 5, 6] rfl ?_
            exact t_L_law_842 hls hC hl hX (by omega) (by omega) hrc28 h
          · rw [if_pos c24] at h
            refine x_aload_n (pc := 823) hC 4 dL_law_823 rfl rfl ?_
            refine x_iconst (pc := 824) (v := (0 : Int32)) hC dL_law_824 (by decide) ?_
            obtain ⟨g21, h⟩ := gd_some h
            obtain ⟨g20, h⟩ := gd_some h
            refine x_laldv (pc := 825) hC dL_law_825 g21 g20 (fun x22 hx22 => ?_)
            replace h := lt_x hx22 h
            refine x_iload (pc := 826) hC 0 dL_law_826 rfl ?_
            refine x_if_eq (pc := 828) hC 835 dL_law_828 (by decide) (fun c23 => ?_) (fun c23 => ?_)
            · rw [if_pos c23] at h
              refine x_lconst (pc := 835) (v := (0 : Int64)) hC dL_law_835 (by decide) ?_
              refine x_pick [2, 3, 4, 5, 6] rfl ?_
              exact t_L_law_836 hls hC hl hX (by omega) (by omega) hrc28 h
            · rw [if_neg c23] at h
              refine x_lconst (pc := 831) (v := (1 : Int64)) hC dL_law_831 (by decide) ?_
              refine x_goto (pc := 832) hC 836 dL_law_832 (by decide) ?_
              refine x_pick [2, 3, 4, 5, 6] rfl ?_
              exact t_L_law_836 hls hC hl hX (by omega) (by omega) hrc28 h
        · rw [if_neg c25] at h
          refine x_iconst (pc := 816) (v := (0 : Int32)) hC dL_law_816 (by decide) ?_
          exact (law_no h).elim
      · exact absurd (congrArg Prod.fst (bk_r h)) (by intro q; cases q)
    · exact absurd (congrArg Prod.fst (bk_r h)) (by intro q; cases q)
  · exact absurd (congrArg Prod.fst (bk_r h)) (by intro q; cases q)
set_option maxHeartbeats 2000000 in
set_option maxRecDepth 100000 in
theorem t_L_law_905 {l : Launch} (hls : l.stackTraces = false) {C : cT} (hC : CX C cL_law 9 yL_law rm_L_law) (hl : C.2.1 = l) {b L : Nat} {xs : Nat → Int32} (hX : LX C b L xs) {S9 : mS}  {cs28 sl28 : Nat} (hcs28 : cs28 ≤ 80538) (hsl28 : sl28 ≤ 327207) {rc28 : mS → Nat → Nat → Nat → Nat → Int32 → Option (Rs Int32)} (hrc28 : ∀ (S : mS) (a1 : Nat) (a2 : Nat) (a3 : Nat) (a4 : Nat) (a5 : Int32), rc28 S a1 a2 a3 a4 a5 = some ((.inl (1 : Int32), S9) : Rs Int32) → XX C 9 (LQ C b) (cs28 + 40021) (sl28 + 160086) S 28 [(1, .ref a1), (2, .ref a2), (3, .ref a3), (4, .ref a4), (5, .int a5)] []) {S : mS} {a1 : Nat} {a2 : Nat} {a3 : Nat} {a4 : Nat} {a5 : Int32} (h : f_L_law_905 L xs rc28 S a1 a2 a3 a4 a5 = some ((.inl (1 : Int32), S9) : Rs Int32)) : XX C 9 (LQ C b) (cs28 + 1) (sl28 + 6) S 905 [(1, .ref a1), (2, .ref a2), (3, .ref a3), (4, .ref a4), (5, .int a5)] [] := by
  unfold f_L_law_905 at h
  refine x_goto (pc := 905) hC 3632 dL_law_905 (by decide) ?_
  refine x_pick [0, 1, 2, 3, 4] rfl ?_
  refine x_widen (ce' := cs28 + 40021) (sl' := sl28 + 160086) (by omega) (by omega) ?_
  exact t_L_law_3632 hls hC hl hX (by omega) (by omega) hrc28 h
set_option maxHeartbeats 2000000 in
set_option maxRecDepth 100000 in
theorem t_L_law_899 {l : Launch} (hls : l.stackTraces = false) {C : cT} (hC : CX C cL_law 9 yL_law rm_L_law) (hl : C.2.1 = l) {b L : Nat} {xs : Nat → Int32} (hX : LX C b L xs) {S9 : mS}  {cs28 sl28 : Nat} (hcs28 : cs28 ≤ 80538) (hsl28 : sl28 ≤ 327207) {rc28 : mS → Nat → Nat → Nat → Nat → Int32 → Option (Rs Int32)} (hrc28 : ∀ (S : mS) (a1 : Nat) (a2 : Nat) (a3 : Nat) (a4 : Nat) (a5 : Int32), rc28 S a1 a2 a3 a4 a5 = some ((.inl (1 : Int32), S9) : Rs Int32) → XX C 9 (LQ C b) (cs28 + 40021) (sl28 + 160086) S 28 [(1, .ref a1), (2, .ref a2), (3, .ref a3), (4, .ref a4), (5, .int a5)] []) {S : mS} {a1 : Nat} {a2 : Nat} {a3 : Nat} {a4 : Nat} {a5 : Int32} {s0 : Int64} {s1 : Int64} (h : f_L_law_899 L xs rc28 S a1 a2 a3 a4 a5 s0 s1 = some ((.inl (1 : Int32), S9) : Rs Int32)) : XX C 9 (LQ C b) (cs28 + 1) (sl28 + 6) S 899 [(1, .ref a1), (2, .ref a2), (3, .ref a3), (4, .ref a4), (5, .int a5)] [.long s1, .long s0] := by
  unfold f_L_law_899 at h
  refine x_lcmpv (pc := 899) hC dL_law_899 (fun x1 hx1 => ?_)
  replace h := lt_x hx1 h
  refine x_if_eq (pc := 900) hC 905 dL_law_900 (by decide) (fun c2 => ?_) (fun c2 => ?_)
  · rw [if_pos c2] at h
    refine x_pick [0, 1, 2, 3, 4] rfl ?_
    exact t_L_law_905 hls hC hl hX (by omega) (by omega) hrc28 h
  · rw [if_neg c2] at h
    refine x_iconst (pc := 903) (v := (0 : Int32)) hC dL_law_903 (by decide) ?_
    exact (law_no h).elim
set_option maxHeartbeats 2000000 in
set_option maxRecDepth 100000 in
theorem t_L_law_845 {l : Launch} (hls : l.stackTraces = false) {C : cT} (hC : CX C cL_law 9 yL_law rm_L_law) (hl : C.2.1 = l) {b L : Nat} {xs : Nat → Int32} (hX : LX C b L xs) {S9 : mS}  {cs28 sl28 : Nat} (hcs28 : cs28 ≤ 80538) (hsl28 : sl28 ≤ 327207) {rc28 : mS → Nat → Nat → Nat → Nat → Int32 → Option (Rs Int32)} (hrc28 : ∀ (S : mS) (a1 : Nat) (a2 : Nat) (a3 : Nat) (a4 : Nat) (a5 : Int32), rc28 S a1 a2 a3 a4 a5 = some ((.inl (1 : Int32), S9) : Rs Int32) → XX C 9 (LQ C b) (cs28 + 40021) (sl28 + 160086) S 28 [(1, .ref a1), (2, .ref a2), (3, .ref a3), (4, .ref a4), (5, .int a5)] []) {S : mS} {a1 : Nat} {a2 : Nat} {a3 : Nat} {a4 : Nat} {a5 : Int32} (h : f_L_law_845 L xs rc28 S a1 a2 a3 a4 a5 = some ((.inl (1 : Int32), S9) : Rs Int32)) : XX C 9 (LQ C b) (cs28) (sl28) S 845 [(1, .ref a1), (2, .ref a2), (3, .ref a3), (4, .ref a4), (5, .int a5)] [] := by
  unfold f_L_law_845 at h
  refine x_aload_n (pc := 845) hC 0 dL_law_845 rfl rfl ?_
  obtain ⟨g2, h⟩ := gd_some h
  refine x_sldk (pc := 846) (v := (1 : Int32)) hC hX 4 dL_law_846 dL_law_847 rfl dL_law_849 (by decide) dL_law_850 g2 dL_law_851 (fun x1 hx1 => ?_)
  replace h := lt_x hx1 h
  refine x_aload_n (pc := 852) hC 2 dL_law_852 rfl rfl ?_
  obtain ⟨o5, ho5, h⟩ := bd_some h
  refine x_callH (pc := 853) (As := [.ref a1, .int x1, .ref a3]) (rest := []) hC hl (c_L_stop l hls ho5) lk_RL_217 dL_law_853 rfl rfl (Nat.le_of_ble_eq_true rfl) ⟨Nat.le_of_ble_eq_true rfl, Nat.le_of_ble_eq_true rfl⟩ ⟨(show cs28 + 1 ≤ (625622 : Nat) from by omega), (show sl28 + 6 ≤ (7225229 : Nat) from by omega)⟩ ?_
  rcases o5 with ⟨x3 | E6, S4⟩
  · refine xk_i ?_
    replace h := bk_l h
    refine x_widen (ce' := cs28 + 1) (sl' := sl28 + 6) (Nat.le_refl _) (Nat.le_refl _) ?_
    refine x_istore (pc := 856) hC dL_law_856 (by decide) (by decide) rfl ?_
    refine x_aload_n (pc := 858) hC 2 dL_law_858 rfl rfl ?_
    obtain ⟨g8, h⟩ := gd_some h
    refine x_sldk (pc := 859) (v := (1 : Int32)) hC hX 5 dL_law_859 dL_law_860 rfl dL_law_862 (by decide) dL_law_863 g8 dL_law_864 (fun x7 hx7 => ?_)
    replace h := lt_x hx7 h
    obtain ⟨g9, h⟩ := gd_some h
    obtain ⟨o12, ho12, h⟩ := bd_some h
    refine x_callV (pc := 865) (As := [.int x7]) (rest := []) hC hl (c_X13_stop l hls ho12) lk_RL_219 fc_19 g9 dL_law_865 rfl rfl (Nat.le_of_ble_eq_true rfl) ⟨Nat.le_of_ble_eq_true rfl, Nat.le_of_ble_eq_true rfl⟩ ⟨(show cs28 + 1 ≤ (625622 : Nat) from by omega), (show sl28 + 6 ≤ (7225229 : Nat) from by omega)⟩ ?_
    rcases o12 with ⟨x10 | E13, S11⟩
    · refine xk_i ?_
      replace h := bk_l h
      refine x_widen (ce' := cs28 + 1) (sl' := sl28 + 6) (Nat.le_refl _) (Nat.le_refl _) ?_
      refine x_istore (pc := 868) hC dL_law_868 (by decide) (by decide) rfl ?_
      refine x_aload_n (pc := 870) hC 3 dL_law_870 rfl rfl ?_
      obtain ⟨g14, h⟩ := gd_some h
      obtain ⟨o17, ho17, h⟩ := bd_some h
      refine x_callV (pc := 871) (As := []) (rest := []) hC hl (c_X13_thrown l hls ho17) lk_RL_193 fc_19 g14 dL_law_871 rfl rfl (Nat.le_of_ble_eq_true rfl) ⟨Nat.le_of_ble_eq_true rfl, Nat.le_of_ble_eq_true rfl⟩ ⟨(show cs28 + 1 ≤ (625622 : Nat) from by omega), (show sl28 + 6 ≤ (7225229 : Nat) from by omega)⟩ ?_
      rcases o17 with ⟨x15 | E18, S16⟩
      · refine xk_i ?_
        replace h := bk_l h
        refine x_widen (ce' := cs28 + 1) (sl' := sl28 + 6) (Nat.le_refl _) (Nat.le_refl _) ?_
        refine x_iload (pc := 874) hC 1 dL_law_874 rfl ?_
        refine x_icmp_eq (pc := 876) hC 881 dL_law_876 (by decide) (fun c25 => ?_) (fun c25 => ?_)
        · rw [if_pos c25] at h
          refine x_iload (pc := 881) hC 1 dL_law_881 rfl ?_
          refine x_if_ne (pc := 883) hC 905 dL_law_883 (by decide) (fun c24 => ?_) (fun c24 => ?_)
          · rw [if_neg c24] at h
            refine x_pick [2, 3, 4, 5, 6] rfl ?_
            exact t_L_law_905 hls hC hl hX (by omega) (by omega) hrc28 h
          · rw [if_pos c24] at h
            refine x_aload_n (pc := 886) hC 4 dL_law_886 rfl rfl ?_
            refine x_iconst (pc := 887) (v := (0 : Int32)) hC dL_law_887 (by decide) ?_
            obtain ⟨g21, h⟩ := gd_some h
            obtain ⟨g20, h⟩ := gd_some h
            refine x_laldv (pc := 888) hC dL_law_888 g21 g20 (fun x22 hx22 => ?_)
            replace h := lt_x hx22 h
            refine x_iload (pc := 889) hC 0 dL_law_889 rfl ?_
            refine x_if_eq (pc := 891) hC 898 dL_law_891 (by decide) (fun c23 => ?_) (fun c23 => ?_)
            · rw [if_pos c23] at h
              refine x_lconst (pc := 898) (v := (0 : Int64)) hC dL_law_898 (by decide) ?_
              refine x_pick [2, 3, 4, 5, 6] rfl ?_
              exact t_L_law_899 hls hC hl hX (by omega) (by omega) hrc28 h
            · rw [if_neg c23] at h
              refine x_lconst (pc := 894) (v := (1 : Int64)) hC dL_law_894 (by decide) ?_
              refine x_goto (pc := 895) hC 899 dL_law_895 (by decide) ?_
              refine x_pick [2, 3, 4, 5, 6] rfl ?_
              exact t_L_law_899 hls hC hl hX (by omega) (by omega) hrc28 h
        · rw [if_neg c25] at h
          refine x_iconst (pc := 879) (v := (0 : Int32)) hC dL_law_879 (by decide) ?_
          exact (law_no h).elim
      · exact absurd (congrArg Prod.fst (bk_r h)) (by intro q; cases q)
    · exact absurd (congrArg Prod.fst (bk_r h)) (by intro q; cases q)
  · exact absurd (congrArg Prod.fst (bk_r h)) (by intro q; cases q)
set_option maxHeartbeats 2000000 in
set_option maxRecDepth 100000 in
theorem t_L_law_973 {l : Launch} (hls : l.stackTraces = false) {C : cT} (hC : CX C cL_law 9 yL_law rm_L_law) (hl : C.2.1 = l) {b L : Nat} {xs : Nat → Int32} (hX : LX C b L xs) {S9 : mS}  {cs28 sl28 : Nat} (hcs28 : cs28 ≤ 80538) (hsl28 : sl28 ≤ 327207) {rc28 : mS → Nat → Nat → Nat → Nat → Int32 → Option (Rs Int32)} (hrc28 : ∀ (S : mS) (a1 : Nat) (a2 : Nat) (a3 : Nat) (a4 : Nat) (a5 : Int32), rc28 S a1 a2 a3 a4 a5 = some ((.inl (1 : Int32), S9) : Rs Int32) → XX C 9 (LQ C b) (cs28 + 40021) (sl28 + 160086) S 28 [(1, .ref a1), (2, .ref a2), (3, .ref a3), (4, .ref a4), (5, .int a5)] []) {S : mS} {a1 : Nat} {a2 : Nat} {a3 : Nat} {a4 : Nat} {a5 : Int32} (h : f_L_law_973 L xs rc28 S a1 a2 a3 a4 a5 = some ((.inl (1 : Int32), S9) : Rs Int32)) : XX C 9 (LQ C b) (cs28 + 2) (sl28 + 12) S 973 [(1, .ref a1), (2, .ref a2), (3, .ref a3), (4, .ref a4), (5, .int a5)] [] := by
  unfold f_L_law_973 at h
  refine x_goto (pc := 973) hC 3632 dL_law_973 (by decide) ?_
  refine x_pick [0, 1, 2, 3, 4] rfl ?_
  refine x_widen (ce' := cs28 + 40021) (sl' := sl28 + 160086) (by omega) (by omega) ?_
  exact t_L_law_3632 hls hC hl hX (by omega) (by omega) hrc28 h
set_option maxHeartbeats 2000000 in
set_option maxRecDepth 100000 in
theorem t_L_law_908 {l : Launch} (hls : l.stackTraces = false) {C : cT} (hC : CX C cL_law 9 yL_law rm_L_law) (hl : C.2.1 = l) {b L : Nat} {xs : Nat → Int32} (hX : LX C b L xs) {S9 : mS}  {cs28 sl28 : Nat} (hcs28 : cs28 ≤ 80538) (hsl28 : sl28 ≤ 327207) {rc28 : mS → Nat → Nat → Nat → Nat → Int32 → Option (Rs Int32)} (hrc28 : ∀ (S : mS) (a1 : Nat) (a2 : Nat) (a3 : Nat) (a4 : Nat) (a5 : Int32), rc28 S a1 a2 a3 a4 a5 = some ((.inl (1 : Int32), S9) : Rs Int32) → XX C 9 (LQ C b) (cs28 + 40021) (sl28 + 160086) S 28 [(1, .ref a1), (2, .ref a2), (3, .ref a3), (4, .ref a4), (5, .int a5)] []) {S : mS} {a1 : Nat} {a2 : Nat} {a3 : Nat} {a4 : Nat} {a5 : Int32} (h : f_L_law_908 L xs rc28 S a1 a2 a3 a4 a5 = some ((.inl (1 : Int32), S9) : Rs Int32)) : XX C 9 (LQ C b) (cs28) (sl28) S 908 [(1, .ref a1), (2, .ref a2), (3, .ref a3), (4, .ref a4), (5, .int a5)] [] := by
  unfold f_L_law_908 at h
  refine x_aload_n (pc := 908) hC 0 dL_law_908 rfl rfl ?_
  obtain ⟨g2, h⟩ := gd_some h
  refine x_sldk (pc := 909) (v := (1 : Int32)) hC hX 4 dL_law_909 dL_law_910 rfl dL_law_912 (by decide) dL_law_913 g2 dL_law_914 (fun x1 hx1 => ?_)
  replace h := lt_x hx1 h
  obtain ⟨g4, h⟩ := gd_some h
  refine x_sldk (pc := 915) (v := (2 : Int32)) hC hX 4 dL_law_915 dL_law_916 rfl dL_law_918 (by decide) dL_law_919 g4 dL_law_920 (fun x3 hx3 => ?_)
  replace h := lt_x hx3 h
  refine x_aload_n (pc := 921) hC 2 dL_law_921 rfl rfl ?_
  obtain ⟨o7, ho7, h⟩ := bd_some h
  refine x_callH (pc := 922) (As := [.ref a1, .int x1, .int x3, .ref a3]) (rest := []) hC hl (c_L_setPitch l hls ho7) lk_RL_220 dL_law_922 rfl rfl (Nat.le_of_ble_eq_true rfl) ⟨Nat.le_of_ble_eq_true rfl, Nat.le_of_ble_eq_true rfl⟩ ⟨(show cs28 + 2 ≤ (625622 : Nat) from by omega), (show sl28 + 12 ≤ (7225229 : Nat) from by omega)⟩ ?_
  rcases o7 with ⟨x5 | E8, S6⟩
  · refine xk_i ?_
    replace h := bk_l h
    refine x_widen (ce' := cs28 + 2) (sl' := sl28 + 12) (Nat.le_refl _) (Nat.le_refl _) ?_
    refine x_istore (pc := 925) hC dL_law_925 (by decide) (by decide) rfl ?_
    refine x_aload_n (pc := 927) hC 2 dL_law_927 rfl rfl ?_
    obtain ⟨g10, h⟩ := gd_some h
    refine x_sldk (pc := 928) (v := (1 : Int32)) hC hX 5 dL_law_928 dL_law_929 rfl dL_law_931 (by decide) dL_law_932 g10 dL_law_933 (fun x9 hx9 => ?_)
    replace h := lt_x hx9 h
    obtain ⟨g12, h⟩ := gd_some h
    refine x_sldk (pc := 934) (v := (2 : Int32)) hC hX 5 dL_law_934 dL_law_935 rfl dL_law_937 (by decide) dL_law_938 g12 dL_law_939 (fun x11 hx11 => ?_)
    replace h := lt_x hx11 h
    obtain ⟨g13, h⟩ := gd_some h
    obtain ⟨o16, ho16, h⟩ := bd_some h
    refine x_callV (pc := 940) (As := [.int x9, .int x11]) (rest := []) hC hl (c_X13_setPitch l hls ho16) lk_RL_222 fc_19 g13 dL_law_940 rfl rfl (Nat.le_of_ble_eq_true rfl) ⟨Nat.le_of_ble_eq_true rfl, Nat.le_of_ble_eq_true rfl⟩ ⟨(show cs28 + 2 ≤ (625622 : Nat) from by omega), (show sl28 + 12 ≤ (7225229 : Nat) from by omega)⟩ ?_
    rcases o16 with ⟨x14 | E17, S15⟩
    · refine xk_i ?_
      replace h := bk_l h
      refine x_widen (ce' := cs28 + 2) (sl' := sl28 + 12) (Nat.le_refl _) (Nat.le_refl _) ?_
      refine x_istore (pc := 943) hC dL_law_943 (by decide) (by decide) rfl ?_
      refine x_aload_n (pc := 945) hC 3 dL_law_945 rfl rfl ?_
      obtain ⟨g18, h⟩ := gd_some h
      obtain ⟨o21, ho21, h⟩ := bd_some h
      refine x_callV (pc := 946) (As := []) (rest := []) hC hl (c_X13_thrown l hls ho21) lk_RL_193 fc_19 g18 dL_law_946 rfl rfl (Nat.le_of_ble_eq_true rfl) ⟨Nat.le_of_ble_eq_true rfl, Nat.le_of_ble_eq_true rfl⟩ ⟨(show cs28 + 2 ≤ (625622 : Nat) from by omega), (show sl28 + 12 ≤ (7225229 : Nat) from by omega)⟩ ?_
      rcases o21 with ⟨x19 | E22, S20⟩
      · refine xk_i ?_
        replace h := bk_l h
        refine x_widen (ce' := cs28 + 2) (sl' := sl28 + 12) (Nat.le_refl _) (Nat.le_refl _) ?_
        refine x_iload (pc := 949) hC 1 dL_law_949 rfl ?_
        refine x_icmp_eq (pc := 951) hC 956 dL_law_951 (by decide) (fun c31 => ?_) (fun c31 => ?_)
        · rw [if_pos c31] at h
          refine x_iload (pc := 956) hC 1 dL_law_956 rfl ?_
          refine x_if_ne (pc := 958) hC 973 dL_law_958 (by decide) (fun c30 => ?_) (fun c30 => ?_)
          · rw [if_neg c30] at h
            refine x_pick [2, 3, 4, 5, 6] rfl ?_
            exact t_L_law_973 hls hC hl hX (by omega) (by omega) hrc28 h
          · rw [if_pos c30] at h
            refine x_aload_n (pc := 961) hC 4 dL_law_961 rfl rfl ?_
            refine x_iconst (pc := 962) (v := (0 : Int32)) hC dL_law_962 (by decide) ?_
            obtain ⟨g25, h⟩ := gd_some h
            obtain ⟨g24, h⟩ := gd_some h
            refine x_laldv (pc := 963) hC dL_law_963 g25 g24 (fun x26 hx26 => ?_)
            replace h := lt_x hx26 h
            refine x_iload (pc := 964) hC 0 dL_law_964 rfl ?_
            refine x_i2lv (pc := 966) hC dL_law_966 (fun x27 hx27 => ?_)
            replace h := lt_x hx27 h
            refine x_lcmpv (pc := 967) hC dL_law_967 (fun x28 hx28 => ?_)
            replace h := lt_x hx28 h
            refine x_if_eq (pc := 968) hC 973 dL_law_968 (by decide) (fun c29 => ?_) (fun c29 => ?_)
            · rw [if_pos c29] at h
              refine x_pick [2, 3, 4, 5, 6] rfl ?_
              exact t_L_law_973 hls hC hl hX (by omega) (by omega) hrc28 h
            · rw [if_neg c29] at h
              refine x_iconst (pc := 971) (v := (0 : Int32)) hC dL_law_971 (by decide) ?_
              exact (law_no h).elim
        · rw [if_neg c31] at h
          refine x_iconst (pc := 954) (v := (0 : Int32)) hC dL_law_954 (by decide) ?_
          exact (law_no h).elim
      · exact absurd (congrArg Prod.fst (bk_r h)) (by intro q; cases q)
    · exact absurd (congrArg Prod.fst (bk_r h)) (by intro q; cases q)
  · exact absurd (congrArg Prod.fst (bk_r h)) (by intro q; cases q)
set_option maxHeartbeats 2000000 in
set_option maxRecDepth 100000 in
theorem t_L_law_1041 {l : Launch} (hls : l.stackTraces = false) {C : cT} (hC : CX C cL_law 9 yL_law rm_L_law) (hl : C.2.1 = l) {b L : Nat} {xs : Nat → Int32} (hX : LX C b L xs) {S9 : mS}  {cs28 sl28 : Nat} (hcs28 : cs28 ≤ 80538) (hsl28 : sl28 ≤ 327207) {rc28 : mS → Nat → Nat → Nat → Nat → Int32 → Option (Rs Int32)} (hrc28 : ∀ (S : mS) (a1 : Nat) (a2 : Nat) (a3 : Nat) (a4 : Nat) (a5 : Int32), rc28 S a1 a2 a3 a4 a5 = some ((.inl (1 : Int32), S9) : Rs Int32) → XX C 9 (LQ C b) (cs28 + 40021) (sl28 + 160086) S 28 [(1, .ref a1), (2, .ref a2), (3, .ref a3), (4, .ref a4), (5, .int a5)] []) {S : mS} {a1 : Nat} {a2 : Nat} {a3 : Nat} {a4 : Nat} {a5 : Int32} (h : f_L_law_1041 L xs rc28 S a1 a2 a3 a4 a5 = some ((.inl (1 : Int32), S9) : Rs Int32)) : XX C 9 (LQ C b) (cs28 + 3) (sl28 + 18) S 1041 [(1, .ref a1), (2, .ref a2), (3, .ref a3), (4, .ref a4), (5, .int a5)] [] := by
  unfold f_L_law_1041 at h
  refine x_goto (pc := 1041) hC 3632 dL_law_1041 (by decide) ?_
  refine x_pick [0, 1, 2, 3, 4] rfl ?_
  refine x_widen (ce' := cs28 + 40021) (sl' := sl28 + 160086) (by omega) (by omega) ?_
  exact t_L_law_3632 hls hC hl hX (by omega) (by omega) hrc28 h
set_option maxHeartbeats 2000000 in
set_option maxRecDepth 100000 in
theorem t_L_law_976 {l : Launch} (hls : l.stackTraces = false) {C : cT} (hC : CX C cL_law 9 yL_law rm_L_law) (hl : C.2.1 = l) {b L : Nat} {xs : Nat → Int32} (hX : LX C b L xs) {S9 : mS}  {cs28 sl28 : Nat} (hcs28 : cs28 ≤ 80538) (hsl28 : sl28 ≤ 327207) {rc28 : mS → Nat → Nat → Nat → Nat → Int32 → Option (Rs Int32)} (hrc28 : ∀ (S : mS) (a1 : Nat) (a2 : Nat) (a3 : Nat) (a4 : Nat) (a5 : Int32), rc28 S a1 a2 a3 a4 a5 = some ((.inl (1 : Int32), S9) : Rs Int32) → XX C 9 (LQ C b) (cs28 + 40021) (sl28 + 160086) S 28 [(1, .ref a1), (2, .ref a2), (3, .ref a3), (4, .ref a4), (5, .int a5)] []) {S : mS} {a1 : Nat} {a2 : Nat} {a3 : Nat} {a4 : Nat} {a5 : Int32} (h : f_L_law_976 L xs rc28 S a1 a2 a3 a4 a5 = some ((.inl (1 : Int32), S9) : Rs Int32)) : XX C 9 (LQ C b) (cs28) (sl28) S 976 [(1, .ref a1), (2, .ref a2), (3, .ref a3), (4, .ref a4), (5, .int a5)] [] := by
  unfold f_L_law_976 at h
  refine x_aload_n (pc := 976) hC 0 dL_law_976 rfl rfl ?_
  obtain ⟨g2, h⟩ := gd_some h
  refine x_sldk (pc := 977) (v := (1 : Int32)) hC hX 4 dL_law_977 dL_law_978 rfl dL_law_980 (by decide) dL_law_981 g2 dL_law_982 (fun x1 hx1 => ?_)
  replace h := lt_x hx1 h
  obtain ⟨g4, h⟩ := gd_some h
  refine x_sldk (pc := 983) (v := (2 : Int32)) hC hX 4 dL_law_983 dL_law_984 rfl dL_law_986 (by decide) dL_law_987 g4 dL_law_988 (fun x3 hx3 => ?_)
  replace h := lt_x hx3 h
  refine x_aload_n (pc := 989) hC 2 dL_law_989 rfl rfl ?_
  obtain ⟨o7, ho7, h⟩ := bd_some h
  refine x_callH (pc := 990) (As := [.ref a1, .int x1, .int x3, .ref a3]) (rest := []) hC hl (c_L_nudge l hls ho7) lk_RL_223 dL_law_990 rfl rfl (Nat.le_of_ble_eq_true rfl) ⟨Nat.le_of_ble_eq_true rfl, Nat.le_of_ble_eq_true rfl⟩ ⟨(show cs28 + 3 ≤ (625622 : Nat) from by omega), (show sl28 + 18 ≤ (7225229 : Nat) from by omega)⟩ ?_
  rcases o7 with ⟨x5 | E8, S6⟩
  · refine xk_i ?_
    replace h := bk_l h
    refine x_widen (ce' := cs28 + 3) (sl' := sl28 + 18) (Nat.le_refl _) (Nat.le_refl _) ?_
    refine x_istore (pc := 993) hC dL_law_993 (by decide) (by decide) rfl ?_
    refine x_aload_n (pc := 995) hC 2 dL_law_995 rfl rfl ?_
    obtain ⟨g10, h⟩ := gd_some h
    refine x_sldk (pc := 996) (v := (1 : Int32)) hC hX 5 dL_law_996 dL_law_997 rfl dL_law_999 (by decide) dL_law_1000 g10 dL_law_1001 (fun x9 hx9 => ?_)
    replace h := lt_x hx9 h
    obtain ⟨g12, h⟩ := gd_some h
    refine x_sldk (pc := 1002) (v := (2 : Int32)) hC hX 5 dL_law_1002 dL_law_1003 rfl dL_law_1005 (by decide) dL_law_1006 g12 dL_law_1007 (fun x11 hx11 => ?_)
    replace h := lt_x hx11 h
    obtain ⟨g13, h⟩ := gd_some h
    obtain ⟨o16, ho16, h⟩ := bd_some h
    refine x_callV (pc := 1008) (As := [.int x9, .int x11]) (rest := []) hC hl (c_X13_nudge l hls ho16) lk_RL_225 fc_19 g13 dL_law_1008 rfl rfl (Nat.le_of_ble_eq_true rfl) ⟨Nat.le_of_ble_eq_true rfl, Nat.le_of_ble_eq_true rfl⟩ ⟨(show cs28 + 3 ≤ (625622 : Nat) from by omega), (show sl28 + 18 ≤ (7225229 : Nat) from by omega)⟩ ?_
    rcases o16 with ⟨x14 | E17, S15⟩
    · refine xk_i ?_
      replace h := bk_l h
      refine x_widen (ce' := cs28 + 3) (sl' := sl28 + 18) (Nat.le_refl _) (Nat.le_refl _) ?_
      refine x_istore (pc := 1011) hC dL_law_1011 (by decide) (by decide) rfl ?_
      refine x_aload_n (pc := 1013) hC 3 dL_law_1013 rfl rfl ?_
      obtain ⟨g18, h⟩ := gd_some h
      obtain ⟨o21, ho21, h⟩ := bd_some h
      refine x_callV (pc := 1014) (As := []) (rest := []) hC hl (c_X13_thrown l hls ho21) lk_RL_193 fc_19 g18 dL_law_1014 rfl rfl (Nat.le_of_ble_eq_true rfl) ⟨Nat.le_of_ble_eq_true rfl, Nat.le_of_ble_eq_true rfl⟩ ⟨(show cs28 + 3 ≤ (625622 : Nat) from by omega), (show sl28 + 18 ≤ (7225229 : Nat) from by omega)⟩ ?_
      rcases o21 with ⟨x19 | E22, S20⟩
      · refine xk_i ?_
        replace h := bk_l h
        refine x_widen (ce' := cs28 + 3) (sl' := sl28 + 18) (Nat.le_refl _) (Nat.le_refl _) ?_
        refine x_iload (pc := 1017) hC 1 dL_law_1017 rfl ?_
        refine x_icmp_eq (pc := 1019) hC 1024 dL_law_1019 (by decide) (fun c31 => ?_) (fun c31 => ?_)
        · rw [if_pos c31] at h
          refine x_iload (pc := 1024) hC 1 dL_law_1024 rfl ?_
          refine x_if_ne (pc := 1026) hC 1041 dL_law_1026 (by decide) (fun c30 => ?_) (fun c30 => ?_)
          · rw [if_neg c30] at h
            refine x_pick [2, 3, 4, 5, 6] rfl ?_
            exact t_L_law_1041 hls hC hl hX (by omega) (by omega) hrc28 h
          · rw [if_pos c30] at h
            refine x_aload_n (pc := 1029) hC 4 dL_law_1029 rfl rfl ?_
            refine x_iconst (pc := 1030) (v := (0 : Int32)) hC dL_law_1030 (by decide) ?_
            obtain ⟨g25, h⟩ := gd_some h
            obtain ⟨g24, h⟩ := gd_some h
            refine x_laldv (pc := 1031) hC dL_law_1031 g25 g24 (fun x26 hx26 => ?_)
            replace h := lt_x hx26 h
            refine x_iload (pc := 1032) hC 0 dL_law_1032 rfl ?_
            refine x_i2lv (pc := 1034) hC dL_law_1034 (fun x27 hx27 => ?_)
            replace h := lt_x hx27 h
            refine x_lcmpv (pc := 1035) hC dL_law_1035 (fun x28 hx28 => ?_)
            replace h := lt_x hx28 h
            refine x_if_eq (pc := 1036) hC 1041 dL_law_1036 (by decide) (fun c29 => ?_) (fun c29 => ?_)
            · rw [if_pos c29] at h
              refine x_pick [2, 3, 4, 5, 6] rfl ?_
              exact t_L_law_1041 hls hC hl hX (by omega) (by omega) hrc28 h
            · rw [if_neg c29] at h
              refine x_iconst (pc := 1039) (v := (0 : Int32)) hC dL_law_1039 (by decide) ?_
              exact (law_no h).elim
        · rw [if_neg c31] at h
          refine x_iconst (pc := 1022) (v := (0 : Int32)) hC dL_law_1022 (by decide) ?_
          exact (law_no h).elim
      · exact absurd (congrArg Prod.fst (bk_r h)) (by intro q; cases q)
    · exact absurd (congrArg Prod.fst (bk_r h)) (by intro q; cases q)
  · exact absurd (congrArg Prod.fst (bk_r h)) (by intro q; cases q)
set_option maxHeartbeats 2000000 in
set_option maxRecDepth 100000 in
theorem t_L_law_1104 {l : Launch} (hls : l.stackTraces = false) {C : cT} (hC : CX C cL_law 9 yL_law rm_L_law) (hl : C.2.1 = l) {b L : Nat} {xs : Nat → Int32} (hX : LX C b L xs) {S9 : mS}  {cs28 sl28 : Nat} (hcs28 : cs28 ≤ 80538) (hsl28 : sl28 ≤ 327207) {rc28 : mS → Nat → Nat → Nat → Nat → Int32 → Option (Rs Int32)} (hrc28 : ∀ (S : mS) (a1 : Nat) (a2 : Nat) (a3 : Nat) (a4 : Nat) (a5 : Int32), rc28 S a1 a2 a3 a4 a5 = some ((.inl (1 : Int32), S9) : Rs Int32) → XX C 9 (LQ C b) (cs28 + 40021) (sl28 + 160086) S 28 [(1, .ref a1), (2, .ref a2), (3, .ref a3), (4, .ref a4), (5, .int a5)] []) {S : mS} {a1 : Nat} {a2 : Nat} {a3 : Nat} {a4 : Nat} {a5 : Int32} (h : f_L_law_1104 L xs rc28 S a1 a2 a3 a4 a5 = some ((.inl (1 : Int32), S9) : Rs Int32)) : XX C 9 (LQ C b) (cs28 + 2) (sl28 + 12) S 1104 [(1, .ref a1), (2, .ref a2), (3, .ref a3), (4, .ref a4), (5, .int a5)] [] := by
  unfold f_L_law_1104 at h
  refine x_goto (pc := 1104) hC 3632 dL_law_1104 (by decide) ?_
  refine x_pick [0, 1, 2, 3, 4] rfl ?_
  refine x_widen (ce' := cs28 + 40021) (sl' := sl28 + 160086) (by omega) (by omega) ?_
  exact t_L_law_3632 hls hC hl hX (by omega) (by omega) hrc28 h
set_option maxHeartbeats 2000000 in
set_option maxRecDepth 100000 in
theorem t_L_law_1098 {l : Launch} (hls : l.stackTraces = false) {C : cT} (hC : CX C cL_law 9 yL_law rm_L_law) (hl : C.2.1 = l) {b L : Nat} {xs : Nat → Int32} (hX : LX C b L xs) {S9 : mS}  {cs28 sl28 : Nat} (hcs28 : cs28 ≤ 80538) (hsl28 : sl28 ≤ 327207) {rc28 : mS → Nat → Nat → Nat → Nat → Int32 → Option (Rs Int32)} (hrc28 : ∀ (S : mS) (a1 : Nat) (a2 : Nat) (a3 : Nat) (a4 : Nat) (a5 : Int32), rc28 S a1 a2 a3 a4 a5 = some ((.inl (1 : Int32), S9) : Rs Int32) → XX C 9 (LQ C b) (cs28 + 40021) (sl28 + 160086) S 28 [(1, .ref a1), (2, .ref a2), (3, .ref a3), (4, .ref a4), (5, .int a5)] []) {S : mS} {a1 : Nat} {a2 : Nat} {a3 : Nat} {a4 : Nat} {a5 : Int32} {s0 : Int64} {s1 : Int64} (h : f_L_law_1098 L xs rc28 S a1 a2 a3 a4 a5 s0 s1 = some ((.inl (1 : Int32), S9) : Rs Int32)) : XX C 9 (LQ C b) (cs28 + 2) (sl28 + 12) S 1098 [(1, .ref a1), (2, .ref a2), (3, .ref a3), (4, .ref a4), (5, .int a5)] [.long s1, .long s0] := by
  unfold f_L_law_1098 at h
  refine x_lcmpv (pc := 1098) hC dL_law_1098 (fun x1 hx1 => ?_)
  replace h := lt_x hx1 h
  refine x_if_eq (pc := 1099) hC 1104 dL_law_1099 (by decide) (fun c2 => ?_) (fun c2 => ?_)
  · rw [if_pos c2] at h
    refine x_pick [0, 1, 2, 3, 4] rfl ?_
    exact t_L_law_1104 hls hC hl hX (by omega) (by omega) hrc28 h
  · rw [if_neg c2] at h
    refine x_iconst (pc := 1102) (v := (0 : Int32)) hC dL_law_1102 (by decide) ?_
    exact (law_no h).elim
set_option maxHeartbeats 2000000 in
set_option maxRecDepth 100000 in
theorem t_L_law_1044 {l : Launch} (hls : l.stackTraces = false) {C : cT} (hC : CX C cL_law 9 yL_law rm_L_law) (hl : C.2.1 = l) {b L : Nat} {xs : Nat → Int32} (hX : LX C b L xs) {S9 : mS}  {cs28 sl28 : Nat} (hcs28 : cs28 ≤ 80538) (hsl28 : sl28 ≤ 327207) {rc28 : mS → Nat → Nat → Nat → Nat → Int32 → Option (Rs Int32)} (hrc28 : ∀ (S : mS) (a1 : Nat) (a2 : Nat) (a3 : Nat) (a4 : Nat) (a5 : Int32), rc28 S a1 a2 a3 a4 a5 = some ((.inl (1 : Int32), S9) : Rs Int32) → XX C 9 (LQ C b) (cs28 + 40021) (sl28 + 160086) S 28 [(1, .ref a1), (2, .ref a2), (3, .ref a3), (4, .ref a4), (5, .int a5)] []) {S : mS} {a1 : Nat} {a2 : Nat} {a3 : Nat} {a4 : Nat} {a5 : Int32} (h : f_L_law_1044 L xs rc28 S a1 a2 a3 a4 a5 = some ((.inl (1 : Int32), S9) : Rs Int32)) : XX C 9 (LQ C b) (cs28) (sl28) S 1044 [(1, .ref a1), (2, .ref a2), (3, .ref a3), (4, .ref a4), (5, .int a5)] [] := by
  unfold f_L_law_1044 at h
  refine x_aload_n (pc := 1044) hC 0 dL_law_1044 rfl rfl ?_
  obtain ⟨g2, h⟩ := gd_some h
  refine x_sldk (pc := 1045) (v := (1 : Int32)) hC hX 4 dL_law_1045 dL_law_1046 rfl dL_law_1048 (by decide) dL_law_1049 g2 dL_law_1050 (fun x1 hx1 => ?_)
  replace h := lt_x hx1 h
  refine x_aload_n (pc := 1051) hC 2 dL_law_1051 rfl rfl ?_
  obtain ⟨o5, ho5, h⟩ := bd_some h
  refine x_callH (pc := 1052) (As := [.ref a1, .int x1, .ref a3]) (rest := []) hC hl (c_L_brake l hls ho5) lk_RL_226 dL_law_1052 rfl rfl (Nat.le_of_ble_eq_true rfl) ⟨Nat.le_of_ble_eq_true rfl, Nat.le_of_ble_eq_true rfl⟩ ⟨(show cs28 + 2 ≤ (625622 : Nat) from by omega), (show sl28 + 12 ≤ (7225229 : Nat) from by omega)⟩ ?_
  rcases o5 with ⟨x3 | E6, S4⟩
  · refine xk_i ?_
    replace h := bk_l h
    refine x_widen (ce' := cs28 + 2) (sl' := sl28 + 12) (Nat.le_refl _) (Nat.le_refl _) ?_
    refine x_istore (pc := 1055) hC dL_law_1055 (by decide) (by decide) rfl ?_
    refine x_aload_n (pc := 1057) hC 2 dL_law_1057 rfl rfl ?_
    obtain ⟨g8, h⟩ := gd_some h
    refine x_sldk (pc := 1058) (v := (1 : Int32)) hC hX 5 dL_law_1058 dL_law_1059 rfl dL_law_1061 (by decide) dL_law_1062 g8 dL_law_1063 (fun x7 hx7 => ?_)
    replace h := lt_x hx7 h
    obtain ⟨g9, h⟩ := gd_some h
    obtain ⟨o12, ho12, h⟩ := bd_some h
    refine x_callV (pc := 1064) (As := [.int x7]) (rest := []) hC hl (c_X13_brake l hls ho12) lk_RL_228 fc_19 g9 dL_law_1064 rfl rfl (Nat.le_of_ble_eq_true rfl) ⟨Nat.le_of_ble_eq_true rfl, Nat.le_of_ble_eq_true rfl⟩ ⟨(show cs28 + 2 ≤ (625622 : Nat) from by omega), (show sl28 + 12 ≤ (7225229 : Nat) from by omega)⟩ ?_
    rcases o12 with ⟨x10 | E13, S11⟩
    · refine xk_i ?_
      replace h := bk_l h
      refine x_widen (ce' := cs28 + 2) (sl' := sl28 + 12) (Nat.le_refl _) (Nat.le_refl _) ?_
      refine x_istore (pc := 1067) hC dL_law_1067 (by decide) (by decide) rfl ?_
      refine x_aload_n (pc := 1069) hC 3 dL_law_1069 rfl rfl ?_
      obtain ⟨g14, h⟩ := gd_some h
      obtain ⟨o17, ho17, h⟩ := bd_some h
      refine x_callV (pc := 1070) (As := []) (rest := []) hC hl (c_X13_thrown l hls ho17) lk_RL_193 fc_19 g14 dL_law_1070 rfl rfl (Nat.le_of_ble_eq_true rfl) ⟨Nat.le_of_ble_eq_true rfl, Nat.le_of_ble_eq_true rfl⟩ ⟨(show cs28 + 2 ≤ (625622 : Nat) from by omega), (show sl28 + 12 ≤ (7225229 : Nat) from by omega)⟩ ?_
      rcases o17 with ⟨x15 | E18, S16⟩
      · refine xk_i ?_
        replace h := bk_l h
        refine x_widen (ce' := cs28 + 2) (sl' := sl28 + 12) (Nat.le_refl _) (Nat.le_refl _) ?_
        refine x_iload (pc := 1073) hC 1 dL_law_1073 rfl ?_
        refine x_icmp_eq (pc := 1075) hC 1080 dL_law_1075 (by decide) (fun c25 => ?_) (fun c25 => ?_)
        · rw [if_pos c25] at h
          refine x_iload (pc := 1080) hC 1 dL_law_1080 rfl ?_
          refine x_if_ne (pc := 1082) hC 1104 dL_law_1082 (by decide) (fun c24 => ?_) (fun c24 => ?_)
          · rw [if_neg c24] at h
            refine x_pick [2, 3, 4, 5, 6] rfl ?_
            exact t_L_law_1104 hls hC hl hX (by omega) (by omega) hrc28 h
          · rw [if_pos c24] at h
            refine x_aload_n (pc := 1085) hC 4 dL_law_1085 rfl rfl ?_
            refine x_iconst (pc := 1086) (v := (0 : Int32)) hC dL_law_1086 (by decide) ?_
            obtain ⟨g21, h⟩ := gd_some h
            obtain ⟨g20, h⟩ := gd_some h
            refine x_laldv (pc := 1087) hC dL_law_1087 g21 g20 (fun x22 hx22 => ?_)
            replace h := lt_x hx22 h
            refine x_iload (pc := 1088) hC 0 dL_law_1088 rfl ?_
            refine x_if_eq (pc := 1090) hC 1097 dL_law_1090 (by decide) (fun c23 => ?_) (fun c23 => ?_)
            · rw [if_pos c23] at h
              refine x_lconst (pc := 1097) (v := (0 : Int64)) hC dL_law_1097 (by decide) ?_
              refine x_pick [2, 3, 4, 5, 6] rfl ?_
              exact t_L_law_1098 hls hC hl hX (by omega) (by omega) hrc28 h
            · rw [if_neg c23] at h
              refine x_lconst (pc := 1093) (v := (1 : Int64)) hC dL_law_1093 (by decide) ?_
              refine x_goto (pc := 1094) hC 1098 dL_law_1094 (by decide) ?_
              refine x_pick [2, 3, 4, 5, 6] rfl ?_
              exact t_L_law_1098 hls hC hl hX (by omega) (by omega) hrc28 h
        · rw [if_neg c25] at h
          refine x_iconst (pc := 1078) (v := (0 : Int32)) hC dL_law_1078 (by decide) ?_
          exact (law_no h).elim
      · exact absurd (congrArg Prod.fst (bk_r h)) (by intro q; cases q)
    · exact absurd (congrArg Prod.fst (bk_r h)) (by intro q; cases q)
  · exact absurd (congrArg Prod.fst (bk_r h)) (by intro q; cases q)
set_option maxHeartbeats 2000000 in
set_option maxRecDepth 100000 in
theorem t_L_law_1172 {l : Launch} (hls : l.stackTraces = false) {C : cT} (hC : CX C cL_law 9 yL_law rm_L_law) (hl : C.2.1 = l) {b L : Nat} {xs : Nat → Int32} (hX : LX C b L xs) {S9 : mS}  {cs28 sl28 : Nat} (hcs28 : cs28 ≤ 80538) (hsl28 : sl28 ≤ 327207) {rc28 : mS → Nat → Nat → Nat → Nat → Int32 → Option (Rs Int32)} (hrc28 : ∀ (S : mS) (a1 : Nat) (a2 : Nat) (a3 : Nat) (a4 : Nat) (a5 : Int32), rc28 S a1 a2 a3 a4 a5 = some ((.inl (1 : Int32), S9) : Rs Int32) → XX C 9 (LQ C b) (cs28 + 40021) (sl28 + 160086) S 28 [(1, .ref a1), (2, .ref a2), (3, .ref a3), (4, .ref a4), (5, .int a5)] []) {S : mS} {a1 : Nat} {a2 : Nat} {a3 : Nat} {a4 : Nat} {a5 : Int32} (h : f_L_law_1172 L xs rc28 S a1 a2 a3 a4 a5 = some ((.inl (1 : Int32), S9) : Rs Int32)) : XX C 9 (LQ C b) (cs28 + 3) (sl28 + 18) S 1172 [(1, .ref a1), (2, .ref a2), (3, .ref a3), (4, .ref a4), (5, .int a5)] [] := by
  unfold f_L_law_1172 at h
  refine x_goto (pc := 1172) hC 3632 dL_law_1172 (by decide) ?_
  refine x_pick [0, 1, 2, 3, 4] rfl ?_
  refine x_widen (ce' := cs28 + 40021) (sl' := sl28 + 160086) (by omega) (by omega) ?_
  exact t_L_law_3632 hls hC hl hX (by omega) (by omega) hrc28 h
set_option maxHeartbeats 2000000 in
set_option maxRecDepth 100000 in
theorem t_L_law_1107 {l : Launch} (hls : l.stackTraces = false) {C : cT} (hC : CX C cL_law 9 yL_law rm_L_law) (hl : C.2.1 = l) {b L : Nat} {xs : Nat → Int32} (hX : LX C b L xs) {S9 : mS}  {cs28 sl28 : Nat} (hcs28 : cs28 ≤ 80538) (hsl28 : sl28 ≤ 327207) {rc28 : mS → Nat → Nat → Nat → Nat → Int32 → Option (Rs Int32)} (hrc28 : ∀ (S : mS) (a1 : Nat) (a2 : Nat) (a3 : Nat) (a4 : Nat) (a5 : Int32), rc28 S a1 a2 a3 a4 a5 = some ((.inl (1 : Int32), S9) : Rs Int32) → XX C 9 (LQ C b) (cs28 + 40021) (sl28 + 160086) S 28 [(1, .ref a1), (2, .ref a2), (3, .ref a3), (4, .ref a4), (5, .int a5)] []) {S : mS} {a1 : Nat} {a2 : Nat} {a3 : Nat} {a4 : Nat} {a5 : Int32} (h : f_L_law_1107 L xs rc28 S a1 a2 a3 a4 a5 = some ((.inl (1 : Int32), S9) : Rs Int32)) : XX C 9 (LQ C b) (cs28) (sl28) S 1107 [(1, .ref a1), (2, .ref a2), (3, .ref a3), (4, .ref a4), (5, .int a5)] [] := by
  unfold f_L_law_1107 at h
  refine x_aload_n (pc := 1107) hC 0 dL_law_1107 rfl rfl ?_
  obtain ⟨g2, h⟩ := gd_some h
  refine x_sldk (pc := 1108) (v := (1 : Int32)) hC hX 4 dL_law_1108 dL_law_1109 rfl dL_law_1111 (by decide) dL_law_1112 g2 dL_law_1113 (fun x1 hx1 => ?_)
  replace h := lt_x hx1 h
  obtain ⟨g4, h⟩ := gd_some h
  refine x_sldk (pc := 1114) (v := (2 : Int32)) hC hX 4 dL_law_1114 dL_law_1115 rfl dL_law_1117 (by decide) dL_law_1118 g4 dL_law_1119 (fun x3 hx3 => ?_)
  replace h := lt_x hx3 h
  refine x_aload_n (pc := 1120) hC 2 dL_law_1120 rfl rfl ?_
  obtain ⟨o7, ho7, h⟩ := bd_some h
  refine x_callH (pc := 1121) (As := [.ref a1, .int x1, .int x3, .ref a3]) (rest := []) hC hl (c_L_jump l hls ho7) lk_RL_229 dL_law_1121 rfl rfl (Nat.le_of_ble_eq_true rfl) ⟨Nat.le_of_ble_eq_true rfl, Nat.le_of_ble_eq_true rfl⟩ ⟨(show cs28 + 3 ≤ (625622 : Nat) from by omega), (show sl28 + 18 ≤ (7225229 : Nat) from by omega)⟩ ?_
  rcases o7 with ⟨x5 | E8, S6⟩
  · refine xk_i ?_
    replace h := bk_l h
    refine x_widen (ce' := cs28 + 3) (sl' := sl28 + 18) (Nat.le_refl _) (Nat.le_refl _) ?_
    refine x_istore (pc := 1124) hC dL_law_1124 (by decide) (by decide) rfl ?_
    refine x_aload_n (pc := 1126) hC 2 dL_law_1126 rfl rfl ?_
    obtain ⟨g10, h⟩ := gd_some h
    refine x_sldk (pc := 1127) (v := (1 : Int32)) hC hX 5 dL_law_1127 dL_law_1128 rfl dL_law_1130 (by decide) dL_law_1131 g10 dL_law_1132 (fun x9 hx9 => ?_)
    replace h := lt_x hx9 h
    obtain ⟨g12, h⟩ := gd_some h
    refine x_sldk (pc := 1133) (v := (2 : Int32)) hC hX 5 dL_law_1133 dL_law_1134 rfl dL_law_1136 (by decide) dL_law_1137 g12 dL_law_1138 (fun x11 hx11 => ?_)
    replace h := lt_x hx11 h
    obtain ⟨g13, h⟩ := gd_some h
    obtain ⟨o16, ho16, h⟩ := bd_some h
    refine x_callV (pc := 1139) (As := [.int x9, .int x11]) (rest := []) hC hl (c_X13_jump l hls ho16) lk_RL_231 fc_19 g13 dL_law_1139 rfl rfl (Nat.le_of_ble_eq_true rfl) ⟨Nat.le_of_ble_eq_true rfl, Nat.le_of_ble_eq_true rfl⟩ ⟨(show cs28 + 3 ≤ (625622 : Nat) from by omega), (show sl28 + 18 ≤ (7225229 : Nat) from by omega)⟩ ?_
    rcases o16 with ⟨x14 | E17, S15⟩
    · refine xk_i ?_
      replace h := bk_l h
      refine x_widen (ce' := cs28 + 3) (sl' := sl28 + 18) (Nat.le_refl _) (Nat.le_refl _) ?_
      refine x_istore (pc := 1142) hC dL_law_1142 (by decide) (by decide) rfl ?_
      refine x_aload_n (pc := 1144) hC 3 dL_law_1144 rfl rfl ?_
      obtain ⟨g18, h⟩ := gd_some h
      obtain ⟨o21, ho21, h⟩ := bd_some h
      refine x_callV (pc := 1145) (As := []) (rest := []) hC hl (c_X13_thrown l hls ho21) lk_RL_193 fc_19 g18 dL_law_1145 rfl rfl (Nat.le_of_ble_eq_true rfl) ⟨Nat.le_of_ble_eq_true rfl, Nat.le_of_ble_eq_true rfl⟩ ⟨(show cs28 + 3 ≤ (625622 : Nat) from by omega), (show sl28 + 18 ≤ (7225229 : Nat) from by omega)⟩ ?_
      rcases o21 with ⟨x19 | E22, S20⟩
      · refine xk_i ?_
        replace h := bk_l h
        refine x_widen (ce' := cs28 + 3) (sl' := sl28 + 18) (Nat.le_refl _) (Nat.le_refl _) ?_
        refine x_iload (pc := 1148) hC 1 dL_law_1148 rfl ?_
        refine x_icmp_eq (pc := 1150) hC 1155 dL_law_1150 (by decide) (fun c31 => ?_) (fun c31 => ?_)
        · rw [if_pos c31] at h
          refine x_iload (pc := 1155) hC 1 dL_law_1155 rfl ?_
          refine x_if_ne (pc := 1157) hC 1172 dL_law_1157 (by decide) (fun c30 => ?_) (fun c30 => ?_)
          · rw [if_neg c30] at h
            refine x_pick [2, 3, 4, 5, 6] rfl ?_
            exact t_L_law_1172 hls hC hl hX (by omega) (by omega) hrc28 h
          · rw [if_pos c30] at h
            refine x_aload_n (pc := 1160) hC 4 dL_law_1160 rfl rfl ?_
            refine x_iconst (pc := 1161) (v := (0 : Int32)) hC dL_law_1161 (by decide) ?_
            obtain ⟨g25, h⟩ := gd_some h
            obtain ⟨g24, h⟩ := gd_some h
            refine x_laldv (pc := 1162) hC dL_law_1162 g25 g24 (fun x26 hx26 => ?_)
            replace h := lt_x hx26 h
            refine x_iload (pc := 1163) hC 0 dL_law_1163 rfl ?_
            refine x_i2lv (pc := 1165) hC dL_law_1165 (fun x27 hx27 => ?_)
            replace h := lt_x hx27 h
            refine x_lcmpv (pc := 1166) hC dL_law_1166 (fun x28 hx28 => ?_)
            replace h := lt_x hx28 h
            refine x_if_eq (pc := 1167) hC 1172 dL_law_1167 (by decide) (fun c29 => ?_) (fun c29 => ?_)
            · rw [if_pos c29] at h
              refine x_pick [2, 3, 4, 5, 6] rfl ?_
              exact t_L_law_1172 hls hC hl hX (by omega) (by omega) hrc28 h
            · rw [if_neg c29] at h
              refine x_iconst (pc := 1170) (v := (0 : Int32)) hC dL_law_1170 (by decide) ?_
              exact (law_no h).elim
        · rw [if_neg c31] at h
          refine x_iconst (pc := 1153) (v := (0 : Int32)) hC dL_law_1153 (by decide) ?_
          exact (law_no h).elim
      · exact absurd (congrArg Prod.fst (bk_r h)) (by intro q; cases q)
    · exact absurd (congrArg Prod.fst (bk_r h)) (by intro q; cases q)
  · exact absurd (congrArg Prod.fst (bk_r h)) (by intro q; cases q)
set_option maxHeartbeats 2000000 in
set_option maxRecDepth 100000 in
theorem t_L_law_1240 {l : Launch} (hls : l.stackTraces = false) {C : cT} (hC : CX C cL_law 9 yL_law rm_L_law) (hl : C.2.1 = l) {b L : Nat} {xs : Nat → Int32} (hX : LX C b L xs) {S9 : mS}  {cs28 sl28 : Nat} (hcs28 : cs28 ≤ 80538) (hsl28 : sl28 ≤ 327207) {rc28 : mS → Nat → Nat → Nat → Nat → Int32 → Option (Rs Int32)} (hrc28 : ∀ (S : mS) (a1 : Nat) (a2 : Nat) (a3 : Nat) (a4 : Nat) (a5 : Int32), rc28 S a1 a2 a3 a4 a5 = some ((.inl (1 : Int32), S9) : Rs Int32) → XX C 9 (LQ C b) (cs28 + 40021) (sl28 + 160086) S 28 [(1, .ref a1), (2, .ref a2), (3, .ref a3), (4, .ref a4), (5, .int a5)] []) {S : mS} {a1 : Nat} {a2 : Nat} {a3 : Nat} {a4 : Nat} {a5 : Int32} (h : f_L_law_1240 L xs rc28 S a1 a2 a3 a4 a5 = some ((.inl (1 : Int32), S9) : Rs Int32)) : XX C 9 (LQ C b) (cs28 + 3) (sl28 + 18) S 1240 [(1, .ref a1), (2, .ref a2), (3, .ref a3), (4, .ref a4), (5, .int a5)] [] := by
  unfold f_L_law_1240 at h
  refine x_goto (pc := 1240) hC 3632 dL_law_1240 (by decide) ?_
  refine x_pick [0, 1, 2, 3, 4] rfl ?_
  refine x_widen (ce' := cs28 + 40021) (sl' := sl28 + 160086) (by omega) (by omega) ?_
  exact t_L_law_3632 hls hC hl hX (by omega) (by omega) hrc28 h
set_option maxHeartbeats 2000000 in
set_option maxRecDepth 100000 in
theorem t_L_law_1175 {l : Launch} (hls : l.stackTraces = false) {C : cT} (hC : CX C cL_law 9 yL_law rm_L_law) (hl : C.2.1 = l) {b L : Nat} {xs : Nat → Int32} (hX : LX C b L xs) {S9 : mS}  {cs28 sl28 : Nat} (hcs28 : cs28 ≤ 80538) (hsl28 : sl28 ≤ 327207) {rc28 : mS → Nat → Nat → Nat → Nat → Int32 → Option (Rs Int32)} (hrc28 : ∀ (S : mS) (a1 : Nat) (a2 : Nat) (a3 : Nat) (a4 : Nat) (a5 : Int32), rc28 S a1 a2 a3 a4 a5 = some ((.inl (1 : Int32), S9) : Rs Int32) → XX C 9 (LQ C b) (cs28 + 40021) (sl28 + 160086) S 28 [(1, .ref a1), (2, .ref a2), (3, .ref a3), (4, .ref a4), (5, .int a5)] []) {S : mS} {a1 : Nat} {a2 : Nat} {a3 : Nat} {a4 : Nat} {a5 : Int32} (h : f_L_law_1175 L xs rc28 S a1 a2 a3 a4 a5 = some ((.inl (1 : Int32), S9) : Rs Int32)) : XX C 9 (LQ C b) (cs28) (sl28) S 1175 [(1, .ref a1), (2, .ref a2), (3, .ref a3), (4, .ref a4), (5, .int a5)] [] := by
  unfold f_L_law_1175 at h
  refine x_aload_n (pc := 1175) hC 0 dL_law_1175 rfl rfl ?_
  obtain ⟨g2, h⟩ := gd_some h
  refine x_sldk (pc := 1176) (v := (1 : Int32)) hC hX 4 dL_law_1176 dL_law_1177 rfl dL_law_1179 (by decide) dL_law_1180 g2 dL_law_1181 (fun x1 hx1 => ?_)
  replace h := lt_x hx1 h
  obtain ⟨g4, h⟩ := gd_some h
  refine x_sldk (pc := 1182) (v := (2 : Int32)) hC hX 4 dL_law_1182 dL_law_1183 rfl dL_law_1185 (by decide) dL_law_1186 g4 dL_law_1187 (fun x3 hx3 => ?_)
  replace h := lt_x hx3 h
  refine x_aload_n (pc := 1188) hC 2 dL_law_1188 rfl rfl ?_
  obtain ⟨o7, ho7, h⟩ := bd_some h
  refine x_callH (pc := 1189) (As := [.ref a1, .int x1, .int x3, .ref a3]) (rest := []) hC hl (c_L_setCue l hls ho7) lk_RL_232 dL_law_1189 rfl rfl (Nat.le_of_ble_eq_true rfl) ⟨Nat.le_of_ble_eq_true rfl, Nat.le_of_ble_eq_true rfl⟩ ⟨(show cs28 + 3 ≤ (625622 : Nat) from by omega), (show sl28 + 18 ≤ (7225229 : Nat) from by omega)⟩ ?_
  rcases o7 with ⟨x5 | E8, S6⟩
  · refine xk_i ?_
    replace h := bk_l h
    refine x_widen (ce' := cs28 + 3) (sl' := sl28 + 18) (Nat.le_refl _) (Nat.le_refl _) ?_
    refine x_istore (pc := 1192) hC dL_law_1192 (by decide) (by decide) rfl ?_
    refine x_aload_n (pc := 1194) hC 2 dL_law_1194 rfl rfl ?_
    obtain ⟨g10, h⟩ := gd_some h
    refine x_sldk (pc := 1195) (v := (1 : Int32)) hC hX 5 dL_law_1195 dL_law_1196 rfl dL_law_1198 (by decide) dL_law_1199 g10 dL_law_1200 (fun x9 hx9 => ?_)
    replace h := lt_x hx9 h
    obtain ⟨g12, h⟩ := gd_some h
    refine x_sldk (pc := 1201) (v := (2 : Int32)) hC hX 5 dL_law_1201 dL_law_1202 rfl dL_law_1204 (by decide) dL_law_1205 g12 dL_law_1206 (fun x11 hx11 => ?_)
    replace h := lt_x hx11 h
    obtain ⟨g13, h⟩ := gd_some h
    obtain ⟨o16, ho16, h⟩ := bd_some h
    refine x_callV (pc := 1207) (As := [.int x9, .int x11]) (rest := []) hC hl (c_X13_setCue l hls ho16) lk_RL_234 fc_19 g13 dL_law_1207 rfl rfl (Nat.le_of_ble_eq_true rfl) ⟨Nat.le_of_ble_eq_true rfl, Nat.le_of_ble_eq_true rfl⟩ ⟨(show cs28 + 3 ≤ (625622 : Nat) from by omega), (show sl28 + 18 ≤ (7225229 : Nat) from by omega)⟩ ?_
    rcases o16 with ⟨x14 | E17, S15⟩
    · refine xk_i ?_
      replace h := bk_l h
      refine x_widen (ce' := cs28 + 3) (sl' := sl28 + 18) (Nat.le_refl _) (Nat.le_refl _) ?_
      refine x_istore (pc := 1210) hC dL_law_1210 (by decide) (by decide) rfl ?_
      refine x_aload_n (pc := 1212) hC 3 dL_law_1212 rfl rfl ?_
      obtain ⟨g18, h⟩ := gd_some h
      obtain ⟨o21, ho21, h⟩ := bd_some h
      refine x_callV (pc := 1213) (As := []) (rest := []) hC hl (c_X13_thrown l hls ho21) lk_RL_193 fc_19 g18 dL_law_1213 rfl rfl (Nat.le_of_ble_eq_true rfl) ⟨Nat.le_of_ble_eq_true rfl, Nat.le_of_ble_eq_true rfl⟩ ⟨(show cs28 + 3 ≤ (625622 : Nat) from by omega), (show sl28 + 18 ≤ (7225229 : Nat) from by omega)⟩ ?_
      rcases o21 with ⟨x19 | E22, S20⟩
      · refine xk_i ?_
        replace h := bk_l h
        refine x_widen (ce' := cs28 + 3) (sl' := sl28 + 18) (Nat.le_refl _) (Nat.le_refl _) ?_
        refine x_iload (pc := 1216) hC 1 dL_law_1216 rfl ?_
        refine x_icmp_eq (pc := 1218) hC 1223 dL_law_1218 (by decide) (fun c31 => ?_) (fun c31 => ?_)
        · rw [if_pos c31] at h
          refine x_iload (pc := 1223) hC 1 dL_law_1223 rfl ?_
          refine x_if_ne (pc := 1225) hC 1240 dL_law_1225 (by decide) (fun c30 => ?_) (fun c30 => ?_)
          · rw [if_neg c30] at h
            refine x_pick [2, 3, 4, 5, 6] rfl ?_
            exact t_L_law_1240 hls hC hl hX (by omega) (by omega) hrc28 h
          · rw [if_pos c30] at h
            refine x_aload_n (pc := 1228) hC 4 dL_law_1228 rfl rfl ?_
            refine x_iconst (pc := 1229) (v := (0 : Int32)) hC dL_law_1229 (by decide) ?_
            obtain ⟨g25, h⟩ := gd_some h
            obtain ⟨g24, h⟩ := gd_some h
            refine x_laldv (pc := 1230) hC dL_law_1230 g25 g24 (fun x26 hx26 => ?_)
            replace h := lt_x hx26 h
            refine x_iload (pc := 1231) hC 0 dL_law_1231 rfl ?_
            refine x_i2lv (pc := 1233) hC dL_law_1233 (fun x27 hx27 => ?_)
            replace h := lt_x hx27 h
            refine x_lcmpv (pc := 1234) hC dL_law_1234 (fun x28 hx28 => ?_)
            replace h := lt_x hx28 h
            refine x_if_eq (pc := 1235) hC 1240 dL_law_1235 (by decide) (fun c29 => ?_) (fun c29 => ?_)
            · rw [if_pos c29] at h
              refine x_pick [2, 3, 4, 5, 6] rfl ?_
              exact t_L_law_1240 hls hC hl hX (by omega) (by omega) hrc28 h
            · rw [if_neg c29] at h
              refine x_iconst (pc := 1238) (v := (0 : Int32)) hC dL_law_1238 (by decide) ?_
              exact (law_no h).elim
        · rw [if_neg c31] at h
          refine x_iconst (pc := 1221) (v := (0 : Int32)) hC dL_law_1221 (by decide) ?_
          exact (law_no h).elim
      · exact absurd (congrArg Prod.fst (bk_r h)) (by intro q; cases q)
    · exact absurd (congrArg Prod.fst (bk_r h)) (by intro q; cases q)
  · exact absurd (congrArg Prod.fst (bk_r h)) (by intro q; cases q)
set_option maxHeartbeats 2000000 in
set_option maxRecDepth 100000 in
theorem t_L_law_1308 {l : Launch} (hls : l.stackTraces = false) {C : cT} (hC : CX C cL_law 9 yL_law rm_L_law) (hl : C.2.1 = l) {b L : Nat} {xs : Nat → Int32} (hX : LX C b L xs) {S9 : mS}  {cs28 sl28 : Nat} (hcs28 : cs28 ≤ 80538) (hsl28 : sl28 ≤ 327207) {rc28 : mS → Nat → Nat → Nat → Nat → Int32 → Option (Rs Int32)} (hrc28 : ∀ (S : mS) (a1 : Nat) (a2 : Nat) (a3 : Nat) (a4 : Nat) (a5 : Int32), rc28 S a1 a2 a3 a4 a5 = some ((.inl (1 : Int32), S9) : Rs Int32) → XX C 9 (LQ C b) (cs28 + 40021) (sl28 + 160086) S 28 [(1, .ref a1), (2, .ref a2), (3, .ref a3), (4, .ref a4), (5, .int a5)] []) {S : mS} {a1 : Nat} {a2 : Nat} {a3 : Nat} {a4 : Nat} {a5 : Int32} (h : f_L_law_1308 L xs rc28 S a1 a2 a3 a4 a5 = some ((.inl (1 : Int32), S9) : Rs Int32)) : XX C 9 (LQ C b) (cs28 + 4) (sl28 + 24) S 1308 [(1, .ref a1), (2, .ref a2), (3, .ref a3), (4, .ref a4), (5, .int a5)] [] := by
  unfold f_L_law_1308 at h
  refine x_goto (pc := 1308) hC 3632 dL_law_1308 (by decide) ?_
  refine x_pick [0, 1, 2, 3, 4] rfl ?_
  refine x_widen (ce' := cs28 + 40021) (sl' := sl28 + 160086) (by omega) (by omega) ?_
  exact t_L_law_3632 hls hC hl hX (by omega) (by omega) hrc28 h
set_option maxHeartbeats 2000000 in
set_option maxRecDepth 100000 in
theorem t_L_law_1243 {l : Launch} (hls : l.stackTraces = false) {C : cT} (hC : CX C cL_law 9 yL_law rm_L_law) (hl : C.2.1 = l) {b L : Nat} {xs : Nat → Int32} (hX : LX C b L xs) {S9 : mS}  {cs28 sl28 : Nat} (hcs28 : cs28 ≤ 80538) (hsl28 : sl28 ≤ 327207) {rc28 : mS → Nat → Nat → Nat → Nat → Int32 → Option (Rs Int32)} (hrc28 : ∀ (S : mS) (a1 : Nat) (a2 : Nat) (a3 : Nat) (a4 : Nat) (a5 : Int32), rc28 S a1 a2 a3 a4 a5 = some ((.inl (1 : Int32), S9) : Rs Int32) → XX C 9 (LQ C b) (cs28 + 40021) (sl28 + 160086) S 28 [(1, .ref a1), (2, .ref a2), (3, .ref a3), (4, .ref a4), (5, .int a5)] []) {S : mS} {a1 : Nat} {a2 : Nat} {a3 : Nat} {a4 : Nat} {a5 : Int32} (h : f_L_law_1243 L xs rc28 S a1 a2 a3 a4 a5 = some ((.inl (1 : Int32), S9) : Rs Int32)) : XX C 9 (LQ C b) (cs28) (sl28) S 1243 [(1, .ref a1), (2, .ref a2), (3, .ref a3), (4, .ref a4), (5, .int a5)] [] := by
  unfold f_L_law_1243 at h
  refine x_aload_n (pc := 1243) hC 0 dL_law_1243 rfl rfl ?_
  obtain ⟨g2, h⟩ := gd_some h
  refine x_sldk (pc := 1244) (v := (1 : Int32)) hC hX 4 dL_law_1244 dL_law_1245 rfl dL_law_1247 (by decide) dL_law_1248 g2 dL_law_1249 (fun x1 hx1 => ?_)
  replace h := lt_x hx1 h
  obtain ⟨g4, h⟩ := gd_some h
  refine x_sldk (pc := 1250) (v := (2 : Int32)) hC hX 4 dL_law_1250 dL_law_1251 rfl dL_law_1253 (by decide) dL_law_1254 g4 dL_law_1255 (fun x3 hx3 => ?_)
  replace h := lt_x hx3 h
  refine x_aload_n (pc := 1256) hC 2 dL_law_1256 rfl rfl ?_
  obtain ⟨o7, ho7, h⟩ := bd_some h
  refine x_callH (pc := 1257) (As := [.ref a1, .int x1, .int x3, .ref a3]) (rest := []) hC hl (c_L_loop l hls ho7) lk_RL_235 dL_law_1257 rfl rfl (Nat.le_of_ble_eq_true rfl) ⟨Nat.le_of_ble_eq_true rfl, Nat.le_of_ble_eq_true rfl⟩ ⟨(show cs28 + 4 ≤ (625622 : Nat) from by omega), (show sl28 + 24 ≤ (7225229 : Nat) from by omega)⟩ ?_
  rcases o7 with ⟨x5 | E8, S6⟩
  · refine xk_i ?_
    replace h := bk_l h
    refine x_widen (ce' := cs28 + 4) (sl' := sl28 + 24) (Nat.le_refl _) (Nat.le_refl _) ?_
    refine x_istore (pc := 1260) hC dL_law_1260 (by decide) (by decide) rfl ?_
    refine x_aload_n (pc := 1262) hC 2 dL_law_1262 rfl rfl ?_
    obtain ⟨g10, h⟩ := gd_some h
    refine x_sldk (pc := 1263) (v := (1 : Int32)) hC hX 5 dL_law_1263 dL_law_1264 rfl dL_law_1266 (by decide) dL_law_1267 g10 dL_law_1268 (fun x9 hx9 => ?_)
    replace h := lt_x hx9 h
    obtain ⟨g12, h⟩ := gd_some h
    refine x_sldk (pc := 1269) (v := (2 : Int32)) hC hX 5 dL_law_1269 dL_law_1270 rfl dL_law_1272 (by decide) dL_law_1273 g12 dL_law_1274 (fun x11 hx11 => ?_)
    replace h := lt_x hx11 h
    obtain ⟨g13, h⟩ := gd_some h
    obtain ⟨o16, ho16, h⟩ := bd_some h
    refine x_callV (pc := 1275) (As := [.int x9, .int x11]) (rest := []) hC hl (c_X13_loop l hls ho16) lk_RL_237 fc_19 g13 dL_law_1275 rfl rfl (Nat.le_of_ble_eq_true rfl) ⟨Nat.le_of_ble_eq_true rfl, Nat.le_of_ble_eq_true rfl⟩ ⟨(show cs28 + 4 ≤ (625622 : Nat) from by omega), (show sl28 + 24 ≤ (7225229 : Nat) from by omega)⟩ ?_
    rcases o16 with ⟨x14 | E17, S15⟩
    · refine xk_i ?_
      replace h := bk_l h
      refine x_widen (ce' := cs28 + 4) (sl' := sl28 + 24) (Nat.le_refl _) (Nat.le_refl _) ?_
      refine x_istore (pc := 1278) hC dL_law_1278 (by decide) (by decide) rfl ?_
      refine x_aload_n (pc := 1280) hC 3 dL_law_1280 rfl rfl ?_
      obtain ⟨g18, h⟩ := gd_some h
      obtain ⟨o21, ho21, h⟩ := bd_some h
      refine x_callV (pc := 1281) (As := []) (rest := []) hC hl (c_X13_thrown l hls ho21) lk_RL_193 fc_19 g18 dL_law_1281 rfl rfl (Nat.le_of_ble_eq_true rfl) ⟨Nat.le_of_ble_eq_true rfl, Nat.le_of_ble_eq_true rfl⟩ ⟨(show cs28 + 4 ≤ (625622 : Nat) from by omega), (show sl28 + 24 ≤ (7225229 : Nat) from by omega)⟩ ?_
      rcases o21 with ⟨x19 | E22, S20⟩
      · refine xk_i ?_
        replace h := bk_l h
        refine x_widen (ce' := cs28 + 4) (sl' := sl28 + 24) (Nat.le_refl _) (Nat.le_refl _) ?_
        refine x_iload (pc := 1284) hC 1 dL_law_1284 rfl ?_
        refine x_icmp_eq (pc := 1286) hC 1291 dL_law_1286 (by decide) (fun c31 => ?_) (fun c31 => ?_)
        · rw [if_pos c31] at h
          refine x_iload (pc := 1291) hC 1 dL_law_1291 rfl ?_
          refine x_if_ne (pc := 1293) hC 1308 dL_law_1293 (by decide) (fun c30 => ?_) (fun c30 => ?_)
          · rw [if_neg c30] at h
            refine x_pick [2, 3, 4, 5, 6] rfl ?_
            exact t_L_law_1308 hls hC hl hX (by omega) (by omega) hrc28 h
          · rw [if_pos c30] at h
            refine x_aload_n (pc := 1296) hC 4 dL_law_1296 rfl rfl ?_
            refine x_iconst (pc := 1297) (v := (0 : Int32)) hC dL_law_1297 (by decide) ?_
            obtain ⟨g25, h⟩ := gd_some h
            obtain ⟨g24, h⟩ := gd_some h
            refine x_laldv (pc := 1298) hC dL_law_1298 g25 g24 (fun x26 hx26 => ?_)
            replace h := lt_x hx26 h
            refine x_iload (pc := 1299) hC 0 dL_law_1299 rfl ?_
            refine x_i2lv (pc := 1301) hC dL_law_1301 (fun x27 hx27 => ?_)
            replace h := lt_x hx27 h
            refine x_lcmpv (pc := 1302) hC dL_law_1302 (fun x28 hx28 => ?_)
            replace h := lt_x hx28 h
            refine x_if_eq (pc := 1303) hC 1308 dL_law_1303 (by decide) (fun c29 => ?_) (fun c29 => ?_)
            · rw [if_pos c29] at h
              refine x_pick [2, 3, 4, 5, 6] rfl ?_
              exact t_L_law_1308 hls hC hl hX (by omega) (by omega) hrc28 h
            · rw [if_neg c29] at h
              refine x_iconst (pc := 1306) (v := (0 : Int32)) hC dL_law_1306 (by decide) ?_
              exact (law_no h).elim
        · rw [if_neg c31] at h
          refine x_iconst (pc := 1289) (v := (0 : Int32)) hC dL_law_1289 (by decide) ?_
          exact (law_no h).elim
      · exact absurd (congrArg Prod.fst (bk_r h)) (by intro q; cases q)
    · exact absurd (congrArg Prod.fst (bk_r h)) (by intro q; cases q)
  · exact absurd (congrArg Prod.fst (bk_r h)) (by intro q; cases q)
set_option maxHeartbeats 2000000 in
set_option maxRecDepth 100000 in
theorem t_L_law_1371 {l : Launch} (hls : l.stackTraces = false) {C : cT} (hC : CX C cL_law 9 yL_law rm_L_law) (hl : C.2.1 = l) {b L : Nat} {xs : Nat → Int32} (hX : LX C b L xs) {S9 : mS}  {cs28 sl28 : Nat} (hcs28 : cs28 ≤ 80538) (hsl28 : sl28 ≤ 327207) {rc28 : mS → Nat → Nat → Nat → Nat → Int32 → Option (Rs Int32)} (hrc28 : ∀ (S : mS) (a1 : Nat) (a2 : Nat) (a3 : Nat) (a4 : Nat) (a5 : Int32), rc28 S a1 a2 a3 a4 a5 = some ((.inl (1 : Int32), S9) : Rs Int32) → XX C 9 (LQ C b) (cs28 + 40021) (sl28 + 160086) S 28 [(1, .ref a1), (2, .ref a2), (3, .ref a3), (4, .ref a4), (5, .int a5)] []) {S : mS} {a1 : Nat} {a2 : Nat} {a3 : Nat} {a4 : Nat} {a5 : Int32} (h : f_L_law_1371 L xs rc28 S a1 a2 a3 a4 a5 = some ((.inl (1 : Int32), S9) : Rs Int32)) : XX C 9 (LQ C b) (cs28 + 1) (sl28 + 6) S 1371 [(1, .ref a1), (2, .ref a2), (3, .ref a3), (4, .ref a4), (5, .int a5)] [] := by
  unfold f_L_law_1371 at h
  refine x_goto (pc := 1371) hC 3632 dL_law_1371 (by decide) ?_
  refine x_pick [0, 1, 2, 3, 4] rfl ?_
  refine x_widen (ce' := cs28 + 40021) (sl' := sl28 + 160086) (by omega) (by omega) ?_
  exact t_L_law_3632 hls hC hl hX (by omega) (by omega) hrc28 h
set_option maxHeartbeats 2000000 in
set_option maxRecDepth 100000 in
theorem t_L_law_1365 {l : Launch} (hls : l.stackTraces = false) {C : cT} (hC : CX C cL_law 9 yL_law rm_L_law) (hl : C.2.1 = l) {b L : Nat} {xs : Nat → Int32} (hX : LX C b L xs) {S9 : mS}  {cs28 sl28 : Nat} (hcs28 : cs28 ≤ 80538) (hsl28 : sl28 ≤ 327207) {rc28 : mS → Nat → Nat → Nat → Nat → Int32 → Option (Rs Int32)} (hrc28 : ∀ (S : mS) (a1 : Nat) (a2 : Nat) (a3 : Nat) (a4 : Nat) (a5 : Int32), rc28 S a1 a2 a3 a4 a5 = some ((.inl (1 : Int32), S9) : Rs Int32) → XX C 9 (LQ C b) (cs28 + 40021) (sl28 + 160086) S 28 [(1, .ref a1), (2, .ref a2), (3, .ref a3), (4, .ref a4), (5, .int a5)] []) {S : mS} {a1 : Nat} {a2 : Nat} {a3 : Nat} {a4 : Nat} {a5 : Int32} {s0 : Int64} {s1 : Int64} (h : f_L_law_1365 L xs rc28 S a1 a2 a3 a4 a5 s0 s1 = some ((.inl (1 : Int32), S9) : Rs Int32)) : XX C 9 (LQ C b) (cs28 + 1) (sl28 + 6) S 1365 [(1, .ref a1), (2, .ref a2), (3, .ref a3), (4, .ref a4), (5, .int a5)] [.long s1, .long s0] := by
  unfold f_L_law_1365 at h
  refine x_lcmpv (pc := 1365) hC dL_law_1365 (fun x1 hx1 => ?_)
  replace h := lt_x hx1 h
  refine x_if_eq (pc := 1366) hC 1371 dL_law_1366 (by decide) (fun c2 => ?_) (fun c2 => ?_)
  · rw [if_pos c2] at h
    refine x_pick [0, 1, 2, 3, 4] rfl ?_
    exact t_L_law_1371 hls hC hl hX (by omega) (by omega) hrc28 h
  · rw [if_neg c2] at h
    refine x_iconst (pc := 1369) (v := (0 : Int32)) hC dL_law_1369 (by decide) ?_
    exact (law_no h).elim
set_option maxHeartbeats 2000000 in
set_option maxRecDepth 100000 in
theorem t_L_law_1311 {l : Launch} (hls : l.stackTraces = false) {C : cT} (hC : CX C cL_law 9 yL_law rm_L_law) (hl : C.2.1 = l) {b L : Nat} {xs : Nat → Int32} (hX : LX C b L xs) {S9 : mS}  {cs28 sl28 : Nat} (hcs28 : cs28 ≤ 80538) (hsl28 : sl28 ≤ 327207) {rc28 : mS → Nat → Nat → Nat → Nat → Int32 → Option (Rs Int32)} (hrc28 : ∀ (S : mS) (a1 : Nat) (a2 : Nat) (a3 : Nat) (a4 : Nat) (a5 : Int32), rc28 S a1 a2 a3 a4 a5 = some ((.inl (1 : Int32), S9) : Rs Int32) → XX C 9 (LQ C b) (cs28 + 40021) (sl28 + 160086) S 28 [(1, .ref a1), (2, .ref a2), (3, .ref a3), (4, .ref a4), (5, .int a5)] []) {S : mS} {a1 : Nat} {a2 : Nat} {a3 : Nat} {a4 : Nat} {a5 : Int32} (h : f_L_law_1311 L xs rc28 S a1 a2 a3 a4 a5 = some ((.inl (1 : Int32), S9) : Rs Int32)) : XX C 9 (LQ C b) (cs28) (sl28) S 1311 [(1, .ref a1), (2, .ref a2), (3, .ref a3), (4, .ref a4), (5, .int a5)] [] := by
  unfold f_L_law_1311 at h
  refine x_aload_n (pc := 1311) hC 0 dL_law_1311 rfl rfl ?_
  obtain ⟨g2, h⟩ := gd_some h
  refine x_sldk (pc := 1312) (v := (1 : Int32)) hC hX 4 dL_law_1312 dL_law_1313 rfl dL_law_1315 (by decide) dL_law_1316 g2 dL_law_1317 (fun x1 hx1 => ?_)
  replace h := lt_x hx1 h
  refine x_aload_n (pc := 1318) hC 2 dL_law_1318 rfl rfl ?_
  obtain ⟨o5, ho5, h⟩ := bd_some h
  refine x_callH (pc := 1319) (As := [.ref a1, .int x1, .ref a3]) (rest := []) hC hl (c_L_out l hls ho5) lk_RL_238 dL_law_1319 rfl rfl (Nat.le_of_ble_eq_true rfl) ⟨Nat.le_of_ble_eq_true rfl, Nat.le_of_ble_eq_true rfl⟩ ⟨(show cs28 + 1 ≤ (625622 : Nat) from by omega), (show sl28 + 6 ≤ (7225229 : Nat) from by omega)⟩ ?_
  rcases o5 with ⟨x3 | E6, S4⟩
  · refine xk_i ?_
    replace h := bk_l h
    refine x_widen (ce' := cs28 + 1) (sl' := sl28 + 6) (Nat.le_refl _) (Nat.le_refl _) ?_
    refine x_istore (pc := 1322) hC dL_law_1322 (by decide) (by decide) rfl ?_
    refine x_aload_n (pc := 1324) hC 2 dL_law_1324 rfl rfl ?_
    obtain ⟨g8, h⟩ := gd_some h
    refine x_sldk (pc := 1325) (v := (1 : Int32)) hC hX 5 dL_law_1325 dL_law_1326 rfl dL_law_1328 (by decide) dL_law_1329 g8 dL_law_1330 (fun x7 hx7 => ?_)
    replace h := lt_x hx7 h
    obtain ⟨g9, h⟩ := gd_some h
    obtain ⟨o12, ho12, h⟩ := bd_some h
    refine x_callV (pc := 1331) (As := [.int x7]) (rest := []) hC hl (c_X13_out l hls ho12) lk_RL_240 fc_19 g9 dL_law_1331 rfl rfl (Nat.le_of_ble_eq_true rfl) ⟨Nat.le_of_ble_eq_true rfl, Nat.le_of_ble_eq_true rfl⟩ ⟨(show cs28 + 1 ≤ (625622 : Nat) from by omega), (show sl28 + 6 ≤ (7225229 : Nat) from by omega)⟩ ?_
    rcases o12 with ⟨x10 | E13, S11⟩
    · refine xk_i ?_
      replace h := bk_l h
      refine x_widen (ce' := cs28 + 1) (sl' := sl28 + 6) (Nat.le_refl _) (Nat.le_refl _) ?_
      refine x_istore (pc := 1334) hC dL_law_1334 (by decide) (by decide) rfl ?_
      refine x_aload_n (pc := 1336) hC 3 dL_law_1336 rfl rfl ?_
      obtain ⟨g14, h⟩ := gd_some h
      obtain ⟨o17, ho17, h⟩ := bd_some h
      refine x_callV (pc := 1337) (As := []) (rest := []) hC hl (c_X13_thrown l hls ho17) lk_RL_193 fc_19 g14 dL_law_1337 rfl rfl (Nat.le_of_ble_eq_true rfl) ⟨Nat.le_of_ble_eq_true rfl, Nat.le_of_ble_eq_true rfl⟩ ⟨(show cs28 + 1 ≤ (625622 : Nat) from by omega), (show sl28 + 6 ≤ (7225229 : Nat) from by omega)⟩ ?_
      rcases o17 with ⟨x15 | E18, S16⟩
      · refine xk_i ?_
        replace h := bk_l h
        refine x_widen (ce' := cs28 + 1) (sl' := sl28 + 6) (Nat.le_refl _) (Nat.le_refl _) ?_
        refine x_iload (pc := 1340) hC 1 dL_law_1340 rfl ?_
        refine x_icmp_eq (pc := 1342) hC 1347 dL_law_1342 (by decide) (fun c25 => ?_) (fun c25 => ?_)
        · rw [if_pos c25] at h
          refine x_iload (pc := 1347) hC 1 dL_law_1347 rfl ?_
          refine x_if_ne (pc := 1349) hC 1371 dL_law_1349 (by decide) (fun c24 => ?_) (fun c24 => ?_)
          · rw [if_neg c24] at h
            refine x_pick [2, 3, 4, 5, 6] rfl ?_
            exact t_L_law_1371 hls hC hl hX (by omega) (by omega) hrc28 h
          · rw [if_pos c24] at h
            refine x_aload_n (pc := 1352) hC 4 dL_law_1352 rfl rfl ?_
            refine x_iconst (pc := 1353) (v := (0 : Int32)) hC dL_law_1353 (by decide) ?_
            obtain ⟨g21, h⟩ := gd_some h
            obtain ⟨g20, h⟩ := gd_some h
            refine x_laldv (pc := 1354) hC dL_law_1354 g21 g20 (fun x22 hx22 => ?_)
            replace h := lt_x hx22 h
            refine x_iload (pc := 1355) hC 0 dL_law_1355 rfl ?_
            refine x_if_eq (pc := 1357) hC 1364 dL_law_1357 (by decide) (fun c23 => ?_) (fun c23 => ?_)
            · rw [if_pos c23] at h
              refine x_lconst (pc := 1364) (v := (0 : Int64)) hC dL_law_1364 (by decide) ?_
              refine x_pick [2, 3, 4, 5, 6] rfl ?_
              exact t_L_law_1365 hls hC hl hX (by omega) (by omega) hrc28 h
            · rw [if_neg c23] at h
              refine x_lconst (pc := 1360) (v := (1 : Int64)) hC dL_law_1360 (by decide) ?_
              refine x_goto (pc := 1361) hC 1365 dL_law_1361 (by decide) ?_
              refine x_pick [2, 3, 4, 5, 6] rfl ?_
              exact t_L_law_1365 hls hC hl hX (by omega) (by omega) hrc28 h
        · rw [if_neg c25] at h
          refine x_iconst (pc := 1345) (v := (0 : Int32)) hC dL_law_1345 (by decide) ?_
          exact (law_no h).elim
      · exact absurd (congrArg Prod.fst (bk_r h)) (by intro q; cases q)
    · exact absurd (congrArg Prod.fst (bk_r h)) (by intro q; cases q)
  · exact absurd (congrArg Prod.fst (bk_r h)) (by intro q; cases q)
set_option maxHeartbeats 2000000 in
set_option maxRecDepth 100000 in
theorem t_L_law_1462 {l : Launch} (hls : l.stackTraces = false) {C : cT} (hC : CX C cL_law 9 yL_law rm_L_law) (hl : C.2.1 = l) {b L : Nat} {xs : Nat → Int32} (hX : LX C b L xs) {S9 : mS}  {cs28 sl28 : Nat} (hcs28 : cs28 ≤ 80538) (hsl28 : sl28 ≤ 327207) {rc28 : mS → Nat → Nat → Nat → Nat → Int32 → Option (Rs Int32)} (hrc28 : ∀ (S : mS) (a1 : Nat) (a2 : Nat) (a3 : Nat) (a4 : Nat) (a5 : Int32), rc28 S a1 a2 a3 a4 a5 = some ((.inl (1 : Int32), S9) : Rs Int32) → XX C 9 (LQ C b) (cs28 + 40021) (sl28 + 160086) S 28 [(1, .ref a1), (2, .ref a2), (3, .ref a3), (4, .ref a4), (5, .int a5)] []) {S : mS} {a1 : Nat} {a2 : Nat} {a3 : Nat} {a4 : Nat} {a5 : Int32} (h : f_L_law_1462 L xs rc28 S a1 a2 a3 a4 a5 = some ((.inl (1 : Int32), S9) : Rs Int32)) : XX C 9 (LQ C b) (cs28 + 2) (sl28 + 12) S 1462 [(1, .ref a1), (2, .ref a2), (3, .ref a3), (4, .ref a4), (5, .int a5)] [] := by
  unfold f_L_law_1462 at h
  refine x_goto (pc := 1462) hC 3632 dL_law_1462 (by decide) ?_
  refine x_pick [0, 1, 2, 3, 4] rfl ?_
  refine x_widen (ce' := cs28 + 40021) (sl' := sl28 + 160086) (by omega) (by omega) ?_
  exact t_L_law_3632 hls hC hl hX (by omega) (by omega) hrc28 h
set_option maxHeartbeats 2000000 in
set_option maxRecDepth 100000 in
theorem t_L_law_1456 {l : Launch} (hls : l.stackTraces = false) {C : cT} (hC : CX C cL_law 9 yL_law rm_L_law) (hl : C.2.1 = l) {b L : Nat} {xs : Nat → Int32} (hX : LX C b L xs) {S9 : mS}  {cs28 sl28 : Nat} (hcs28 : cs28 ≤ 80538) (hsl28 : sl28 ≤ 327207) {rc28 : mS → Nat → Nat → Nat → Nat → Int32 → Option (Rs Int32)} (hrc28 : ∀ (S : mS) (a1 : Nat) (a2 : Nat) (a3 : Nat) (a4 : Nat) (a5 : Int32), rc28 S a1 a2 a3 a4 a5 = some ((.inl (1 : Int32), S9) : Rs Int32) → XX C 9 (LQ C b) (cs28 + 40021) (sl28 + 160086) S 28 [(1, .ref a1), (2, .ref a2), (3, .ref a3), (4, .ref a4), (5, .int a5)] []) {S : mS} {a1 : Nat} {a2 : Nat} {a3 : Nat} {a4 : Nat} {a5 : Int32} {s0 : Int64} {s1 : Int64} (h : f_L_law_1456 L xs rc28 S a1 a2 a3 a4 a5 s0 s1 = some ((.inl (1 : Int32), S9) : Rs Int32)) : XX C 9 (LQ C b) (cs28 + 2) (sl28 + 12) S 1456 [(1, .ref a1), (2, .ref a2), (3, .ref a3), (4, .ref a4), (5, .int a5)] [.long s1, .long s0] := by
  unfold f_L_law_1456 at h
  refine x_lcmpv (pc := 1456) hC dL_law_1456 (fun x1 hx1 => ?_)
  replace h := lt_x hx1 h
  refine x_if_eq (pc := 1457) hC 1462 dL_law_1457 (by decide) (fun c2 => ?_) (fun c2 => ?_)
  · rw [if_pos c2] at h
    refine x_pick [0, 1, 2, 3, 4] rfl ?_
    exact t_L_law_1462 hls hC hl hX (by omega) (by omega) hrc28 h
  · rw [if_neg c2] at h
    refine x_iconst (pc := 1460) (v := (0 : Int32)) hC dL_law_1460 (by decide) ?_
    exact (law_no h).elim
set_option maxHeartbeats 2000000 in
set_option maxRecDepth 100000 in
theorem t_L_law_1422 {l : Launch} (hls : l.stackTraces = false) {C : cT} (hC : CX C cL_law 9 yL_law rm_L_law) (hl : C.2.1 = l) {b L : Nat} {xs : Nat → Int32} (hX : LX C b L xs) {S9 : mS}  {cs28 sl28 : Nat} (hcs28 : cs28 ≤ 80538) (hsl28 : sl28 ≤ 327207) {rc28 : mS → Nat → Nat → Nat → Nat → Int32 → Option (Rs Int32)} (hrc28 : ∀ (S : mS) (a1 : Nat) (a2 : Nat) (a3 : Nat) (a4 : Nat) (a5 : Int32), rc28 S a1 a2 a3 a4 a5 = some ((.inl (1 : Int32), S9) : Rs Int32) → XX C 9 (LQ C b) (cs28 + 40021) (sl28 + 160086) S 28 [(1, .ref a1), (2, .ref a2), (3, .ref a3), (4, .ref a4), (5, .int a5)] []) {S : mS} {a1 : Nat} {a2 : Nat} {a3 : Nat} {a4 : Nat} {a5 : Int32} {a6 : Int32} {s0 : Nat} {s1 : Int32} {s2 : Int32} (h : f_L_law_1422 L xs rc28 S a1 a2 a3 a4 a5 a6 s0 s1 s2 = some ((.inl (1 : Int32), S9) : Rs Int32)) : XX C 9 (LQ C b) (cs28 + 2) (sl28 + 12) S 1422 [(1, .ref a1), (2, .ref a2), (3, .ref a3), (4, .ref a4), (5, .int a5), (6, .int a6)] [.int s2, .int s1, .ref s0] := by
  unfold f_L_law_1422 at h
  obtain ⟨g1, h⟩ := gd_some h
  obtain ⟨o4, ho4, h⟩ := bd_some h
  refine x_callV (pc := 1422) (As := [.int s1, .int s2]) (rest := []) hC hl (c_X13_slip l hls ho4) lk_RL_243 fc_19 g1 dL_law_1422 rfl rfl (Nat.le_of_ble_eq_true rfl) ⟨Nat.le_of_ble_eq_true rfl, Nat.le_of_ble_eq_true rfl⟩ ⟨(show cs28 + 2 ≤ (625622 : Nat) from by omega), (show sl28 + 12 ≤ (7225229 : Nat) from by omega)⟩ ?_
  rcases o4 with ⟨x2 | E5, S3⟩
  · refine xk_i ?_
    replace h := bk_l h
    refine x_widen (ce' := cs28 + 2) (sl' := sl28 + 12) (Nat.le_refl _) (Nat.le_refl _) ?_
    refine x_istore (pc := 1425) hC dL_law_1425 (by decide) (by decide) rfl ?_
    refine x_aload_n (pc := 1427) hC 2 dL_law_1427 rfl rfl ?_
    obtain ⟨g6, h⟩ := gd_some h
    obtain ⟨o9, ho9, h⟩ := bd_some h
    refine x_callV (pc := 1428) (As := []) (rest := []) hC hl (c_X13_thrown l hls ho9) lk_RL_193 fc_19 g6 dL_law_1428 rfl rfl (Nat.le_of_ble_eq_true rfl) ⟨Nat.le_of_ble_eq_true rfl, Nat.le_of_ble_eq_true rfl⟩ ⟨(show cs28 + 2 ≤ (625622 : Nat) from by omega), (show sl28 + 12 ≤ (7225229 : Nat) from by omega)⟩ ?_
    rcases o9 with ⟨x7 | E10, S8⟩
    · refine xk_i ?_
      replace h := bk_l h
      refine x_widen (ce' := cs28 + 2) (sl' := sl28 + 12) (Nat.le_refl _) (Nat.le_refl _) ?_
      refine x_iload (pc := 1431) hC 6 dL_law_1431 rfl ?_
      refine x_icmp_eq (pc := 1433) hC 1438 dL_law_1433 (by decide) (fun c17 => ?_) (fun c17 => ?_)
      · rw [if_pos c17] at h
        refine x_iload (pc := 1438) hC 6 dL_law_1438 rfl ?_
        refine x_if_ne (pc := 1440) hC 1462 dL_law_1440 (by decide) (fun c16 => ?_) (fun c16 => ?_)
        · rw [if_neg c16] at h
          refine x_pick [1, 2, 3, 4, 5] rfl ?_
          exact t_L_law_1462 hls hC hl hX (by omega) (by omega) hrc28 h
        · rw [if_pos c16] at h
          refine x_aload_n (pc := 1443) hC 3 dL_law_1443 rfl rfl ?_
          refine x_iconst (pc := 1444) (v := (0 : Int32)) hC dL_law_1444 (by decide) ?_
          obtain ⟨g13, h⟩ := gd_some h
          obtain ⟨g12, h⟩ := gd_some h
          refine x_laldv (pc := 1445) hC dL_law_1445 g13 g12 (fun x14 hx14 => ?_)
          replace h := lt_x hx14 h
          refine x_iload (pc := 1446) hC 0 dL_law_1446 rfl ?_
          refine x_if_eq (pc := 1448) hC 1455 dL_law_1448 (by decide) (fun c15 => ?_) (fun c15 => ?_)
          · rw [if_pos c15] at h
            refine x_lconst (pc := 1455) (v := (0 : Int64)) hC dL_law_1455 (by decide) ?_
            refine x_pick [1, 2, 3, 4, 5] rfl ?_
            exact t_L_law_1456 hls hC hl hX (by omega) (by omega) hrc28 h
          · rw [if_neg c15] at h
            refine x_lconst (pc := 1451) (v := (1 : Int64)) hC dL_law_1451 (by decide) ?_
            refine x_goto (pc := 1452) hC 1456 dL_law_1452 (by decide) ?_
            refine x_pick [1, 2, 3, 4, 5] rfl ?_
            exact t_L_law_1456 hls hC hl hX (by omega) (by omega) hrc28 h
      · rw [if_neg c17] at h
        refine x_iconst (pc := 1436) (v := (0 : Int32)) hC dL_law_1436 (by decide) ?_
        exact (law_no h).elim
    · exact absurd (congrArg Prod.fst (bk_r h)) (by intro q; cases q)
  · exact absurd (congrArg Prod.fst (bk_r h)) (by intro q; cases q)
set_option maxHeartbeats 2000000 in
set_option maxRecDepth 100000 in
theorem t_L_law_1395 {l : Launch} (hls : l.stackTraces = false) {C : cT} (hC : CX C cL_law 9 yL_law rm_L_law) (hl : C.2.1 = l) {b L : Nat} {xs : Nat → Int32} (hX : LX C b L xs) {S9 : mS}  {cs28 sl28 : Nat} (hcs28 : cs28 ≤ 80538) (hsl28 : sl28 ≤ 327207) {rc28 : mS → Nat → Nat → Nat → Nat → Int32 → Option (Rs Int32)} (hrc28 : ∀ (S : mS) (a1 : Nat) (a2 : Nat) (a3 : Nat) (a4 : Nat) (a5 : Int32), rc28 S a1 a2 a3 a4 a5 = some ((.inl (1 : Int32), S9) : Rs Int32) → XX C 9 (LQ C b) (cs28 + 40021) (sl28 + 160086) S 28 [(1, .ref a1), (2, .ref a2), (3, .ref a3), (4, .ref a4), (5, .int a5)] []) {S : mS} {a1 : Nat} {a2 : Nat} {a3 : Nat} {a4 : Nat} {a5 : Int32} {s0 : Nat} {s1 : Int32} {s2 : Int32} (h : f_L_law_1395 L xs rc28 S a1 a2 a3 a4 a5 s0 s1 s2 = some ((.inl (1 : Int32), S9) : Rs Int32)) : XX C 9 (LQ C b) (cs28) (sl28) S 1395 [(1, .ref a1), (2, .ref a2), (3, .ref a3), (4, .ref a4), (5, .int a5)] [.int s2, .int s1, .ref s0] := by
  unfold f_L_law_1395 at h
  refine x_aload_n (pc := 1395) hC 2 dL_law_1395 rfl rfl ?_
  obtain ⟨o3, ho3, h⟩ := bd_some h
  refine x_callH (pc := 1396) (As := [.ref s0, .int s1, .int s2, .ref a3]) (rest := []) hC hl (c_L_slip l hls ho3) lk_RL_241 dL_law_1396 rfl rfl (Nat.le_of_ble_eq_true rfl) ⟨Nat.le_of_ble_eq_true rfl, Nat.le_of_ble_eq_true rfl⟩ ⟨(show cs28 + 2 ≤ (625622 : Nat) from by omega), (show sl28 + 12 ≤ (7225229 : Nat) from by omega)⟩ ?_
  rcases o3 with ⟨x1 | E4, S2⟩
  · refine xk_i ?_
    replace h := bk_l h
    refine x_widen (ce' := cs28 + 2) (sl' := sl28 + 12) (Nat.le_refl _) (Nat.le_refl _) ?_
    refine x_istore (pc := 1399) hC dL_law_1399 (by decide) (by decide) rfl ?_
    refine x_aload_n (pc := 1401) hC 2 dL_law_1401 rfl rfl ?_
    obtain ⟨g6, h⟩ := gd_some h
    refine x_sldk (pc := 1402) (v := (1 : Int32)) hC hX 5 dL_law_1402 dL_law_1403 rfl dL_law_1405 (by decide) dL_law_1406 g6 dL_law_1407 (fun x5 hx5 => ?_)
    replace h := lt_x hx5 h
    obtain ⟨g8, h⟩ := gd_some h
    refine x_sldk (pc := 1408) (v := (2 : Int32)) hC hX 5 dL_law_1408 dL_law_1409 rfl dL_law_1411 (by decide) dL_law_1412 g8 dL_law_1413 (fun x7 hx7 => ?_)
    replace h := lt_x hx7 h
    refine x_if_eq (pc := 1414) hC 1421 dL_law_1414 (by decide) (fun c9 => ?_) (fun c9 => ?_)
    · rw [if_pos c9] at h
      refine x_iconst (pc := 1421) (v := (0 : Int32)) hC dL_law_1421 (by decide) ?_
      refine x_pick [1, 2, 3, 4, 5, 0] rfl ?_
      exact t_L_law_1422 hls hC hl hX (by omega) (by omega) hrc28 h
    · rw [if_neg c9] at h
      refine x_iconst (pc := 1417) (v := (1 : Int32)) hC dL_law_1417 (by decide) ?_
      refine x_goto (pc := 1418) hC 1422 dL_law_1418 (by decide) ?_
      refine x_pick [1, 2, 3, 4, 5, 0] rfl ?_
      exact t_L_law_1422 hls hC hl hX (by omega) (by omega) hrc28 h
  · exact absurd (congrArg Prod.fst (bk_r h)) (by intro q; cases q)
set_option maxHeartbeats 2000000 in
set_option maxRecDepth 100000 in
theorem t_L_law_1374 {l : Launch} (hls : l.stackTraces = false) {C : cT} (hC : CX C cL_law 9 yL_law rm_L_law) (hl : C.2.1 = l) {b L : Nat} {xs : Nat → Int32} (hX : LX C b L xs) {S9 : mS}  {cs28 sl28 : Nat} (hcs28 : cs28 ≤ 80538) (hsl28 : sl28 ≤ 327207) {rc28 : mS → Nat → Nat → Nat → Nat → Int32 → Option (Rs Int32)} (hrc28 : ∀ (S : mS) (a1 : Nat) (a2 : Nat) (a3 : Nat) (a4 : Nat) (a5 : Int32), rc28 S a1 a2 a3 a4 a5 = some ((.inl (1 : Int32), S9) : Rs Int32) → XX C 9 (LQ C b) (cs28 + 40021) (sl28 + 160086) S 28 [(1, .ref a1), (2, .ref a2), (3, .ref a3), (4, .ref a4), (5, .int a5)] []) {S : mS} {a1 : Nat} {a2 : Nat} {a3 : Nat} {a4 : Nat} {a5 : Int32} (h : f_L_law_1374 L xs rc28 S a1 a2 a3 a4 a5 = some ((.inl (1 : Int32), S9) : Rs Int32)) : XX C 9 (LQ C b) (cs28) (sl28) S 1374 [(1, .ref a1), (2, .ref a2), (3, .ref a3), (4, .ref a4), (5, .int a5)] [] := by
  unfold f_L_law_1374 at h
  refine x_aload_n (pc := 1374) hC 0 dL_law_1374 rfl rfl ?_
  obtain ⟨g2, h⟩ := gd_some h
  refine x_sldk (pc := 1375) (v := (1 : Int32)) hC hX 4 dL_law_1375 dL_law_1376 rfl dL_law_1378 (by decide) dL_law_1379 g2 dL_law_1380 (fun x1 hx1 => ?_)
  replace h := lt_x hx1 h
  obtain ⟨g4, h⟩ := gd_some h
  refine x_sldk (pc := 1381) (v := (2 : Int32)) hC hX 4 dL_law_1381 dL_law_1382 rfl dL_law_1384 (by decide) dL_law_1385 g4 dL_law_1386 (fun x3 hx3 => ?_)
  replace h := lt_x hx3 h
  refine x_if_eq (pc := 1387) hC 1394 dL_law_1387 (by decide) (fun c5 => ?_) (fun c5 => ?_)
  · rw [if_pos c5] at h
    refine x_iconst (pc := 1394) (v := (0 : Int32)) hC dL_law_1394 (by decide) ?_
    refine x_pick [0, 1, 2, 3, 4] rfl ?_
    exact t_L_law_1395 hls hC hl hX (by omega) (by omega) hrc28 h
  · rw [if_neg c5] at h
    refine x_iconst (pc := 1390) (v := (1 : Int32)) hC dL_law_1390 (by decide) ?_
    refine x_goto (pc := 1391) hC 1395 dL_law_1391 (by decide) ?_
    refine x_pick [0, 1, 2, 3, 4] rfl ?_
    exact t_L_law_1395 hls hC hl hX (by omega) (by omega) hrc28 h
set_option maxHeartbeats 2000000 in
set_option maxRecDepth 100000 in
theorem t_L_law_1517 {l : Launch} (hls : l.stackTraces = false) {C : cT} (hC : CX C cL_law 9 yL_law rm_L_law) (hl : C.2.1 = l) {b L : Nat} {xs : Nat → Int32} (hX : LX C b L xs) {S9 : mS}  {cs28 sl28 : Nat} (hcs28 : cs28 ≤ 80538) (hsl28 : sl28 ≤ 327207) {rc28 : mS → Nat → Nat → Nat → Nat → Int32 → Option (Rs Int32)} (hrc28 : ∀ (S : mS) (a1 : Nat) (a2 : Nat) (a3 : Nat) (a4 : Nat) (a5 : Int32), rc28 S a1 a2 a3 a4 a5 = some ((.inl (1 : Int32), S9) : Rs Int32) → XX C 9 (LQ C b) (cs28 + 40021) (sl28 + 160086) S 28 [(1, .ref a1), (2, .ref a2), (3, .ref a3), (4, .ref a4), (5, .int a5)] []) {S : mS} {a1 : Nat} {a2 : Nat} {a3 : Nat} {a4 : Nat} {a5 : Int32} (h : f_L_law_1517 L xs rc28 S a1 a2 a3 a4 a5 = some ((.inl (1 : Int32), S9) : Rs Int32)) : XX C 9 (LQ C b) (cs28 + 2) (sl28 + 12) S 1517 [(1, .ref a1), (2, .ref a2), (3, .ref a3), (4, .ref a4), (5, .int a5)] [] := by
  unfold f_L_law_1517 at h
  refine x_goto (pc := 1517) hC 3632 dL_law_1517 (by decide) ?_
  refine x_pick [0, 1, 2, 3, 4] rfl ?_
  refine x_widen (ce' := cs28 + 40021) (sl' := sl28 + 160086) (by omega) (by omega) ?_
  exact t_L_law_3632 hls hC hl hX (by omega) (by omega) hrc28 h
set_option maxHeartbeats 2000000 in
set_option maxRecDepth 100000 in
theorem t_L_law_1465 {l : Launch} (hls : l.stackTraces = false) {C : cT} (hC : CX C cL_law 9 yL_law rm_L_law) (hl : C.2.1 = l) {b L : Nat} {xs : Nat → Int32} (hX : LX C b L xs) {S9 : mS}  {cs28 sl28 : Nat} (hcs28 : cs28 ≤ 80538) (hsl28 : sl28 ≤ 327207) {rc28 : mS → Nat → Nat → Nat → Nat → Int32 → Option (Rs Int32)} (hrc28 : ∀ (S : mS) (a1 : Nat) (a2 : Nat) (a3 : Nat) (a4 : Nat) (a5 : Int32), rc28 S a1 a2 a3 a4 a5 = some ((.inl (1 : Int32), S9) : Rs Int32) → XX C 9 (LQ C b) (cs28 + 40021) (sl28 + 160086) S 28 [(1, .ref a1), (2, .ref a2), (3, .ref a3), (4, .ref a4), (5, .int a5)] []) {S : mS} {a1 : Nat} {a2 : Nat} {a3 : Nat} {a4 : Nat} {a5 : Int32} (h : f_L_law_1465 L xs rc28 S a1 a2 a3 a4 a5 = some ((.inl (1 : Int32), S9) : Rs Int32)) : XX C 9 (LQ C b) (cs28) (sl28) S 1465 [(1, .ref a1), (2, .ref a2), (3, .ref a3), (4, .ref a4), (5, .int a5)] [] := by
  unfold f_L_law_1465 at h
  refine x_aload_n (pc := 1465) hC 0 dL_law_1465 rfl rfl ?_
  obtain ⟨g2, h⟩ := gd_some h
  refine x_sldk (pc := 1466) (v := (1 : Int32)) hC hX 4 dL_law_1466 dL_law_1467 rfl dL_law_1469 (by decide) dL_law_1470 g2 dL_law_1471 (fun x1 hx1 => ?_)
  replace h := lt_x hx1 h
  refine x_aload_n (pc := 1472) hC 2 dL_law_1472 rfl rfl ?_
  obtain ⟨o5, ho5, h⟩ := bd_some h
  refine x_callH (pc := 1473) (As := [.ref a1, .int x1, .ref a3]) (rest := []) hC hl (c_L_place l hls ho5) lk_RL_244 dL_law_1473 rfl rfl (Nat.le_of_ble_eq_true rfl) ⟨Nat.le_of_ble_eq_true rfl, Nat.le_of_ble_eq_true rfl⟩ ⟨(show cs28 + 2 ≤ (625622 : Nat) from by omega), (show sl28 + 12 ≤ (7225229 : Nat) from by omega)⟩ ?_
  rcases o5 with ⟨x3 | E6, S4⟩
  · refine xk_i ?_
    replace h := bk_l h
    refine x_widen (ce' := cs28 + 2) (sl' := sl28 + 12) (Nat.le_refl _) (Nat.le_refl _) ?_
    refine x_istore (pc := 1476) hC dL_law_1476 (by decide) (by decide) rfl ?_
    refine x_aload_n (pc := 1478) hC 2 dL_law_1478 rfl rfl ?_
    obtain ⟨g8, h⟩ := gd_some h
    refine x_sldk (pc := 1479) (v := (1 : Int32)) hC hX 5 dL_law_1479 dL_law_1480 rfl dL_law_1482 (by decide) dL_law_1483 g8 dL_law_1484 (fun x7 hx7 => ?_)
    replace h := lt_x hx7 h
    obtain ⟨g9, h⟩ := gd_some h
    obtain ⟨o12, ho12, h⟩ := bd_some h
    refine x_callV (pc := 1485) (As := [.int x7]) (rest := []) hC hl (c_X13_place l hls ho12) lk_RL_246 fc_19 g9 dL_law_1485 rfl rfl (Nat.le_of_ble_eq_true rfl) ⟨Nat.le_of_ble_eq_true rfl, Nat.le_of_ble_eq_true rfl⟩ ⟨(show cs28 + 2 ≤ (625622 : Nat) from by omega), (show sl28 + 12 ≤ (7225229 : Nat) from by omega)⟩ ?_
    rcases o12 with ⟨x10 | E13, S11⟩
    · refine xk_j ?_
      replace h := bk_l h
      refine x_widen (ce' := cs28 + 2) (sl' := sl28 + 12) (Nat.le_refl _) (Nat.le_refl _) ?_
      refine x_lstore (pc := 1488) hC dL_law_1488 (by decide) (by decide) rfl ?_
      refine x_aload_n (pc := 1490) hC 3 dL_law_1490 rfl rfl ?_
      obtain ⟨g14, h⟩ := gd_some h
      obtain ⟨o17, ho17, h⟩ := bd_some h
      refine x_callV (pc := 1491) (As := []) (rest := []) hC hl (c_X13_thrown l hls ho17) lk_RL_193 fc_19 g14 dL_law_1491 rfl rfl (Nat.le_of_ble_eq_true rfl) ⟨Nat.le_of_ble_eq_true rfl, Nat.le_of_ble_eq_true rfl⟩ ⟨(show cs28 + 2 ≤ (625622 : Nat) from by omega), (show sl28 + 12 ≤ (7225229 : Nat) from by omega)⟩ ?_
      rcases o17 with ⟨x15 | E18, S16⟩
      · refine xk_i ?_
        replace h := bk_l h
        refine x_widen (ce' := cs28 + 2) (sl' := sl28 + 12) (Nat.le_refl _) (Nat.le_refl _) ?_
        refine x_iload (pc := 1494) hC 1 dL_law_1494 rfl ?_
        refine x_icmp_eq (pc := 1496) hC 1501 dL_law_1496 (by decide) (fun c26 => ?_) (fun c26 => ?_)
        · rw [if_pos c26] at h
          refine x_iload (pc := 1501) hC 1 dL_law_1501 rfl ?_
          refine x_if_ne (pc := 1503) hC 1517 dL_law_1503 (by decide) (fun c25 => ?_) (fun c25 => ?_)
          · rw [if_neg c25] at h
            refine x_pick [2, 3, 4, 5, 6] rfl ?_
            exact t_L_law_1517 hls hC hl hX (by omega) (by omega) hrc28 h
          · rw [if_pos c25] at h
            refine x_aload_n (pc := 1506) hC 4 dL_law_1506 rfl rfl ?_
            refine x_iconst (pc := 1507) (v := (0 : Int32)) hC dL_law_1507 (by decide) ?_
            obtain ⟨g21, h⟩ := gd_some h
            obtain ⟨g20, h⟩ := gd_some h
            refine x_laldv (pc := 1508) hC dL_law_1508 g21 g20 (fun x22 hx22 => ?_)
            replace h := lt_x hx22 h
            refine x_lload (pc := 1509) hC 0 dL_law_1509 rfl ?_
            refine x_lcmpv (pc := 1511) hC dL_law_1511 (fun x23 hx23 => ?_)
            replace h := lt_x hx23 h
            refine x_if_eq (pc := 1512) hC 1517 dL_law_1512 (by decide) (fun c24 => ?_) (fun c24 => ?_)
            · rw [if_pos c24] at h
              refine x_pick [2, 3, 4, 5, 6] rfl ?_
              exact t_L_law_1517 hls hC hl hX (by omega) (by omega) hrc28 h
            · rw [if_neg c24] at h
              refine x_iconst (pc := 1515) (v := (0 : Int32)) hC dL_law_1515 (by decide) ?_
              exact (law_no h).elim
        · rw [if_neg c26] at h
          refine x_iconst (pc := 1499) (v := (0 : Int32)) hC dL_law_1499 (by decide) ?_
          exact (law_no h).elim
      · exact absurd (congrArg Prod.fst (bk_r h)) (by intro q; cases q)
    · exact absurd (congrArg Prod.fst (bk_r h)) (by intro q; cases q)
  · exact absurd (congrArg Prod.fst (bk_r h)) (by intro q; cases q)
set_option maxHeartbeats 2000000 in
set_option maxRecDepth 100000 in
theorem t_L_law_1573 {l : Launch} (hls : l.stackTraces = false) {C : cT} (hC : CX C cL_law 9 yL_law rm_L_law) (hl : C.2.1 = l) {b L : Nat} {xs : Nat → Int32} (hX : LX C b L xs) {S9 : mS}  {cs28 sl28 : Nat} (hcs28 : cs28 ≤ 80538) (hsl28 : sl28 ≤ 327207) {rc28 : mS → Nat → Nat → Nat → Nat → Int32 → Option (Rs Int32)} (hrc28 : ∀ (S : mS) (a1 : Nat) (a2 : Nat) (a3 : Nat) (a4 : Nat) (a5 : Int32), rc28 S a1 a2 a3 a4 a5 = some ((.inl (1 : Int32), S9) : Rs Int32) → XX C 9 (LQ C b) (cs28 + 40021) (sl28 + 160086) S 28 [(1, .ref a1), (2, .ref a2), (3, .ref a3), (4, .ref a4), (5, .int a5)] []) {S : mS} {a1 : Nat} {a2 : Nat} {a3 : Nat} {a4 : Nat} {a5 : Int32} (h : f_L_law_1573 L xs rc28 S a1 a2 a3 a4 a5 = some ((.inl (1 : Int32), S9) : Rs Int32)) : XX C 9 (LQ C b) (cs28 + 2) (sl28 + 12) S 1573 [(1, .ref a1), (2, .ref a2), (3, .ref a3), (4, .ref a4), (5, .int a5)] [] := by
  unfold f_L_law_1573 at h
  refine x_goto (pc := 1573) hC 3632 dL_law_1573 (by decide) ?_
  refine x_pick [0, 1, 2, 3, 4] rfl ?_
  refine x_widen (ce' := cs28 + 40021) (sl' := sl28 + 160086) (by omega) (by omega) ?_
  exact t_L_law_3632 hls hC hl hX (by omega) (by omega) hrc28 h
set_option maxHeartbeats 2000000 in
set_option maxRecDepth 100000 in
theorem t_L_law_1520 {l : Launch} (hls : l.stackTraces = false) {C : cT} (hC : CX C cL_law 9 yL_law rm_L_law) (hl : C.2.1 = l) {b L : Nat} {xs : Nat → Int32} (hX : LX C b L xs) {S9 : mS}  {cs28 sl28 : Nat} (hcs28 : cs28 ≤ 80538) (hsl28 : sl28 ≤ 327207) {rc28 : mS → Nat → Nat → Nat → Nat → Int32 → Option (Rs Int32)} (hrc28 : ∀ (S : mS) (a1 : Nat) (a2 : Nat) (a3 : Nat) (a4 : Nat) (a5 : Int32), rc28 S a1 a2 a3 a4 a5 = some ((.inl (1 : Int32), S9) : Rs Int32) → XX C 9 (LQ C b) (cs28 + 40021) (sl28 + 160086) S 28 [(1, .ref a1), (2, .ref a2), (3, .ref a3), (4, .ref a4), (5, .int a5)] []) {S : mS} {a1 : Nat} {a2 : Nat} {a3 : Nat} {a4 : Nat} {a5 : Int32} (h : f_L_law_1520 L xs rc28 S a1 a2 a3 a4 a5 = some ((.inl (1 : Int32), S9) : Rs Int32)) : XX C 9 (LQ C b) (cs28) (sl28) S 1520 [(1, .ref a1), (2, .ref a2), (3, .ref a3), (4, .ref a4), (5, .int a5)] [] := by
  unfold f_L_law_1520 at h
  refine x_aload_n (pc := 1520) hC 0 dL_law_1520 rfl rfl ?_
  obtain ⟨g2, h⟩ := gd_some h
  refine x_sldk (pc := 1521) (v := (1 : Int32)) hC hX 4 dL_law_1521 dL_law_1522 rfl dL_law_1524 (by decide) dL_law_1525 g2 dL_law_1526 (fun x1 hx1 => ?_)
  replace h := lt_x hx1 h
  refine x_aload_n (pc := 1527) hC 2 dL_law_1527 rfl rfl ?_
  obtain ⟨o5, ho5, h⟩ := bd_some h
  refine x_callH (pc := 1528) (As := [.ref a1, .int x1, .ref a3]) (rest := []) hC hl (c_L_tempo l hls ho5) lk_RL_247 dL_law_1528 rfl rfl (Nat.le_of_ble_eq_true rfl) ⟨Nat.le_of_ble_eq_true rfl, Nat.le_of_ble_eq_true rfl⟩ ⟨(show cs28 + 2 ≤ (625622 : Nat) from by omega), (show sl28 + 12 ≤ (7225229 : Nat) from by omega)⟩ ?_
  rcases o5 with ⟨x3 | E6, S4⟩
  · refine xk_i ?_
    replace h := bk_l h
    refine x_widen (ce' := cs28 + 2) (sl' := sl28 + 12) (Nat.le_refl _) (Nat.le_refl _) ?_
    refine x_istore (pc := 1531) hC dL_law_1531 (by decide) (by decide) rfl ?_
    refine x_aload_n (pc := 1533) hC 2 dL_law_1533 rfl rfl ?_
    obtain ⟨g8, h⟩ := gd_some h
    refine x_sldk (pc := 1534) (v := (1 : Int32)) hC hX 5 dL_law_1534 dL_law_1535 rfl dL_law_1537 (by decide) dL_law_1538 g8 dL_law_1539 (fun x7 hx7 => ?_)
    replace h := lt_x hx7 h
    obtain ⟨g9, h⟩ := gd_some h
    obtain ⟨o12, ho12, h⟩ := bd_some h
    refine x_callV (pc := 1540) (As := [.int x7]) (rest := []) hC hl (c_X13_tempo l hls ho12) lk_RL_249 fc_19 g9 dL_law_1540 rfl rfl (Nat.le_of_ble_eq_true rfl) ⟨Nat.le_of_ble_eq_true rfl, Nat.le_of_ble_eq_true rfl⟩ ⟨(show cs28 + 2 ≤ (625622 : Nat) from by omega), (show sl28 + 12 ≤ (7225229 : Nat) from by omega)⟩ ?_
    rcases o12 with ⟨x10 | E13, S11⟩
    · refine xk_i ?_
      replace h := bk_l h
      refine x_widen (ce' := cs28 + 2) (sl' := sl28 + 12) (Nat.le_refl _) (Nat.le_refl _) ?_
      refine x_istore (pc := 1543) hC dL_law_1543 (by decide) (by decide) rfl ?_
      refine x_aload_n (pc := 1545) hC 3 dL_law_1545 rfl rfl ?_
      obtain ⟨g14, h⟩ := gd_some h
      obtain ⟨o17, ho17, h⟩ := bd_some h
      refine x_callV (pc := 1546) (As := []) (rest := []) hC hl (c_X13_thrown l hls ho17) lk_RL_193 fc_19 g14 dL_law_1546 rfl rfl (Nat.le_of_ble_eq_true rfl) ⟨Nat.le_of_ble_eq_true rfl, Nat.le_of_ble_eq_true rfl⟩ ⟨(show cs28 + 2 ≤ (625622 : Nat) from by omega), (show sl28 + 12 ≤ (7225229 : Nat) from by omega)⟩ ?_
      rcases o17 with ⟨x15 | E18, S16⟩
      · refine xk_i ?_
        replace h := bk_l h
        refine x_widen (ce' := cs28 + 2) (sl' := sl28 + 12) (Nat.le_refl _) (Nat.le_refl _) ?_
        refine x_iload (pc := 1549) hC 1 dL_law_1549 rfl ?_
        refine x_icmp_eq (pc := 1551) hC 1556 dL_law_1551 (by decide) (fun c27 => ?_) (fun c27 => ?_)
        · rw [if_pos c27] at h
          refine x_iload (pc := 1556) hC 1 dL_law_1556 rfl ?_
          refine x_if_ne (pc := 1558) hC 1573 dL_law_1558 (by decide) (fun c26 => ?_) (fun c26 => ?_)
          · rw [if_neg c26] at h
            refine x_pick [2, 3, 4, 5, 6] rfl ?_
            exact t_L_law_1573 hls hC hl hX (by omega) (by omega) hrc28 h
          · rw [if_pos c26] at h
            refine x_aload_n (pc := 1561) hC 4 dL_law_1561 rfl rfl ?_
            refine x_iconst (pc := 1562) (v := (0 : Int32)) hC dL_law_1562 (by decide) ?_
            obtain ⟨g21, h⟩ := gd_some h
            obtain ⟨g20, h⟩ := gd_some h
            refine x_laldv (pc := 1563) hC dL_law_1563 g21 g20 (fun x22 hx22 => ?_)
            replace h := lt_x hx22 h
            refine x_iload (pc := 1564) hC 0 dL_law_1564 rfl ?_
            refine x_i2lv (pc := 1566) hC dL_law_1566 (fun x23 hx23 => ?_)
            replace h := lt_x hx23 h
            refine x_lcmpv (pc := 1567) hC dL_law_1567 (fun x24 hx24 => ?_)
            replace h := lt_x hx24 h
            refine x_if_eq (pc := 1568) hC 1573 dL_law_1568 (by decide) (fun c25 => ?_) (fun c25 => ?_)
            · rw [if_pos c25] at h
              refine x_pick [2, 3, 4, 5, 6] rfl ?_
              exact t_L_law_1573 hls hC hl hX (by omega) (by omega) hrc28 h
            · rw [if_neg c25] at h
              refine x_iconst (pc := 1571) (v := (0 : Int32)) hC dL_law_1571 (by decide) ?_
              exact (law_no h).elim
        · rw [if_neg c27] at h
          refine x_iconst (pc := 1554) (v := (0 : Int32)) hC dL_law_1554 (by decide) ?_
          exact (law_no h).elim
      · exact absurd (congrArg Prod.fst (bk_r h)) (by intro q; cases q)
    · exact absurd (congrArg Prod.fst (bk_r h)) (by intro q; cases q)
  · exact absurd (congrArg Prod.fst (bk_r h)) (by intro q; cases q)
set_option maxHeartbeats 2000000 in
set_option maxRecDepth 100000 in
theorem t_L_law_1636 {l : Launch} (hls : l.stackTraces = false) {C : cT} (hC : CX C cL_law 9 yL_law rm_L_law) (hl : C.2.1 = l) {b L : Nat} {xs : Nat → Int32} (hX : LX C b L xs) {S9 : mS}  {cs28 sl28 : Nat} (hcs28 : cs28 ≤ 80538) (hsl28 : sl28 ≤ 327207) {rc28 : mS → Nat → Nat → Nat → Nat → Int32 → Option (Rs Int32)} (hrc28 : ∀ (S : mS) (a1 : Nat) (a2 : Nat) (a3 : Nat) (a4 : Nat) (a5 : Int32), rc28 S a1 a2 a3 a4 a5 = some ((.inl (1 : Int32), S9) : Rs Int32) → XX C 9 (LQ C b) (cs28 + 40021) (sl28 + 160086) S 28 [(1, .ref a1), (2, .ref a2), (3, .ref a3), (4, .ref a4), (5, .int a5)] []) {S : mS} {a1 : Nat} {a2 : Nat} {a3 : Nat} {a4 : Nat} {a5 : Int32} (h : f_L_law_1636 L xs rc28 S a1 a2 a3 a4 a5 = some ((.inl (1 : Int32), S9) : Rs Int32)) : XX C 9 (LQ C b) (cs28 + 1) (sl28 + 6) S 1636 [(1, .ref a1), (2, .ref a2), (3, .ref a3), (4, .ref a4), (5, .int a5)] [] := by
  unfold f_L_law_1636 at h
  refine x_goto (pc := 1636) hC 3632 dL_law_1636 (by decide) ?_
  refine x_pick [0, 1, 2, 3, 4] rfl ?_
  refine x_widen (ce' := cs28 + 40021) (sl' := sl28 + 160086) (by omega) (by omega) ?_
  exact t_L_law_3632 hls hC hl hX (by omega) (by omega) hrc28 h
set_option maxHeartbeats 2000000 in
set_option maxRecDepth 100000 in
theorem t_L_law_1630 {l : Launch} (hls : l.stackTraces = false) {C : cT} (hC : CX C cL_law 9 yL_law rm_L_law) (hl : C.2.1 = l) {b L : Nat} {xs : Nat → Int32} (hX : LX C b L xs) {S9 : mS}  {cs28 sl28 : Nat} (hcs28 : cs28 ≤ 80538) (hsl28 : sl28 ≤ 327207) {rc28 : mS → Nat → Nat → Nat → Nat → Int32 → Option (Rs Int32)} (hrc28 : ∀ (S : mS) (a1 : Nat) (a2 : Nat) (a3 : Nat) (a4 : Nat) (a5 : Int32), rc28 S a1 a2 a3 a4 a5 = some ((.inl (1 : Int32), S9) : Rs Int32) → XX C 9 (LQ C b) (cs28 + 40021) (sl28 + 160086) S 28 [(1, .ref a1), (2, .ref a2), (3, .ref a3), (4, .ref a4), (5, .int a5)] []) {S : mS} {a1 : Nat} {a2 : Nat} {a3 : Nat} {a4 : Nat} {a5 : Int32} {s0 : Int64} {s1 : Int64} (h : f_L_law_1630 L xs rc28 S a1 a2 a3 a4 a5 s0 s1 = some ((.inl (1 : Int32), S9) : Rs Int32)) : XX C 9 (LQ C b) (cs28 + 1) (sl28 + 6) S 1630 [(1, .ref a1), (2, .ref a2), (3, .ref a3), (4, .ref a4), (5, .int a5)] [.long s1, .long s0] := by
  unfold f_L_law_1630 at h
  refine x_lcmpv (pc := 1630) hC dL_law_1630 (fun x1 hx1 => ?_)
  replace h := lt_x hx1 h
  refine x_if_eq (pc := 1631) hC 1636 dL_law_1631 (by decide) (fun c2 => ?_) (fun c2 => ?_)
  · rw [if_pos c2] at h
    refine x_pick [0, 1, 2, 3, 4] rfl ?_
    exact t_L_law_1636 hls hC hl hX (by omega) (by omega) hrc28 h
  · rw [if_neg c2] at h
    refine x_iconst (pc := 1634) (v := (0 : Int32)) hC dL_law_1634 (by decide) ?_
    exact (law_no h).elim
set_option maxHeartbeats 2000000 in
set_option maxRecDepth 100000 in
theorem t_L_law_1576 {l : Launch} (hls : l.stackTraces = false) {C : cT} (hC : CX C cL_law 9 yL_law rm_L_law) (hl : C.2.1 = l) {b L : Nat} {xs : Nat → Int32} (hX : LX C b L xs) {S9 : mS}  {cs28 sl28 : Nat} (hcs28 : cs28 ≤ 80538) (hsl28 : sl28 ≤ 327207) {rc28 : mS → Nat → Nat → Nat → Nat → Int32 → Option (Rs Int32)} (hrc28 : ∀ (S : mS) (a1 : Nat) (a2 : Nat) (a3 : Nat) (a4 : Nat) (a5 : Int32), rc28 S a1 a2 a3 a4 a5 = some ((.inl (1 : Int32), S9) : Rs Int32) → XX C 9 (LQ C b) (cs28 + 40021) (sl28 + 160086) S 28 [(1, .ref a1), (2, .ref a2), (3, .ref a3), (4, .ref a4), (5, .int a5)] []) {S : mS} {a1 : Nat} {a2 : Nat} {a3 : Nat} {a4 : Nat} {a5 : Int32} (h : f_L_law_1576 L xs rc28 S a1 a2 a3 a4 a5 = some ((.inl (1 : Int32), S9) : Rs Int32)) : XX C 9 (LQ C b) (cs28) (sl28) S 1576 [(1, .ref a1), (2, .ref a2), (3, .ref a3), (4, .ref a4), (5, .int a5)] [] := by
  unfold f_L_law_1576 at h
  refine x_aload_n (pc := 1576) hC 0 dL_law_1576 rfl rfl ?_
  obtain ⟨g2, h⟩ := gd_some h
  refine x_sldk (pc := 1577) (v := (1 : Int32)) hC hX 4 dL_law_1577 dL_law_1578 rfl dL_law_1580 (by decide) dL_law_1581 g2 dL_law_1582 (fun x1 hx1 => ?_)
  replace h := lt_x hx1 h
  refine x_aload_n (pc := 1583) hC 2 dL_law_1583 rfl rfl ?_
  obtain ⟨o5, ho5, h⟩ := bd_some h
  refine x_callH (pc := 1584) (As := [.ref a1, .int x1, .ref a3]) (rest := []) hC hl (c_L_plays l hls ho5) lk_RL_250 dL_law_1584 rfl rfl (Nat.le_of_ble_eq_true rfl) ⟨Nat.le_of_ble_eq_true rfl, Nat.le_of_ble_eq_true rfl⟩ ⟨(show cs28 + 1 ≤ (625622 : Nat) from by omega), (show sl28 + 6 ≤ (7225229 : Nat) from by omega)⟩ ?_
  rcases o5 with ⟨x3 | E6, S4⟩
  · refine xk_i ?_
    replace h := bk_l h
    refine x_widen (ce' := cs28 + 1) (sl' := sl28 + 6) (Nat.le_refl _) (Nat.le_refl _) ?_
    refine x_istore (pc := 1587) hC dL_law_1587 (by decide) (by decide) rfl ?_
    refine x_aload_n (pc := 1589) hC 2 dL_law_1589 rfl rfl ?_
    obtain ⟨g8, h⟩ := gd_some h
    refine x_sldk (pc := 1590) (v := (1 : Int32)) hC hX 5 dL_law_1590 dL_law_1591 rfl dL_law_1593 (by decide) dL_law_1594 g8 dL_law_1595 (fun x7 hx7 => ?_)
    replace h := lt_x hx7 h
    obtain ⟨g9, h⟩ := gd_some h
    obtain ⟨o12, ho12, h⟩ := bd_some h
    refine x_callV (pc := 1596) (As := [.int x7]) (rest := []) hC hl (c_X13_plays l hls ho12) lk_RL_252 fc_19 g9 dL_law_1596 rfl rfl (Nat.le_of_ble_eq_true rfl) ⟨Nat.le_of_ble_eq_true rfl, Nat.le_of_ble_eq_true rfl⟩ ⟨(show cs28 + 1 ≤ (625622 : Nat) from by omega), (show sl28 + 6 ≤ (7225229 : Nat) from by omega)⟩ ?_
    rcases o12 with ⟨x10 | E13, S11⟩
    · refine xk_i ?_
      replace h := bk_l h
      refine x_widen (ce' := cs28 + 1) (sl' := sl28 + 6) (Nat.le_refl _) (Nat.le_refl _) ?_
      refine x_istore (pc := 1599) hC dL_law_1599 (by decide) (by decide) rfl ?_
      refine x_aload_n (pc := 1601) hC 3 dL_law_1601 rfl rfl ?_
      obtain ⟨g14, h⟩ := gd_some h
      obtain ⟨o17, ho17, h⟩ := bd_some h
      refine x_callV (pc := 1602) (As := []) (rest := []) hC hl (c_X13_thrown l hls ho17) lk_RL_193 fc_19 g14 dL_law_1602 rfl rfl (Nat.le_of_ble_eq_true rfl) ⟨Nat.le_of_ble_eq_true rfl, Nat.le_of_ble_eq_true rfl⟩ ⟨(show cs28 + 1 ≤ (625622 : Nat) from by omega), (show sl28 + 6 ≤ (7225229 : Nat) from by omega)⟩ ?_
      rcases o17 with ⟨x15 | E18, S16⟩
      · refine xk_i ?_
        replace h := bk_l h
        refine x_widen (ce' := cs28 + 1) (sl' := sl28 + 6) (Nat.le_refl _) (Nat.le_refl _) ?_
        refine x_iload (pc := 1605) hC 1 dL_law_1605 rfl ?_
        refine x_icmp_eq (pc := 1607) hC 1612 dL_law_1607 (by decide) (fun c25 => ?_) (fun c25 => ?_)
        · rw [if_pos c25] at h
          refine x_iload (pc := 1612) hC 1 dL_law_1612 rfl ?_
          refine x_if_ne (pc := 1614) hC 1636 dL_law_1614 (by decide) (fun c24 => ?_) (fun c24 => ?_)
          · rw [if_neg c24] at h
            refine x_pick [2, 3, 4, 5, 6] rfl ?_
            exact t_L_law_1636 hls hC hl hX (by omega) (by omega) hrc28 h
          · rw [if_pos c24] at h
            refine x_aload_n (pc := 1617) hC 4 dL_law_1617 rfl rfl ?_
            refine x_iconst (pc := 1618) (v := (0 : Int32)) hC dL_law_1618 (by decide) ?_
            obtain ⟨g21, h⟩ := gd_some h
            obtain ⟨g20, h⟩ := gd_some h
            refine x_laldv (pc := 1619) hC dL_law_1619 g21 g20 (fun x22 hx22 => ?_)
            replace h := lt_x hx22 h
            refine x_iload (pc := 1620) hC 0 dL_law_1620 rfl ?_
            refine x_if_eq (pc := 1622) hC 1629 dL_law_1622 (by decide) (fun c23 => ?_) (fun c23 => ?_)
            · rw [if_pos c23] at h
              refine x_lconst (pc := 1629) (v := (0 : Int64)) hC dL_law_1629 (by decide) ?_
              refine x_pick [2, 3, 4, 5, 6] rfl ?_
              exact t_L_law_1630 hls hC hl hX (by omega) (by omega) hrc28 h
            · rw [if_neg c23] at h
              refine x_lconst (pc := 1625) (v := (1 : Int64)) hC dL_law_1625 (by decide) ?_
              refine x_goto (pc := 1626) hC 1630 dL_law_1626 (by decide) ?_
              refine x_pick [2, 3, 4, 5, 6] rfl ?_
              exact t_L_law_1630 hls hC hl hX (by omega) (by omega) hrc28 h
        · rw [if_neg c25] at h
          refine x_iconst (pc := 1610) (v := (0 : Int32)) hC dL_law_1610 (by decide) ?_
          exact (law_no h).elim
      · exact absurd (congrArg Prod.fst (bk_r h)) (by intro q; cases q)
    · exact absurd (congrArg Prod.fst (bk_r h)) (by intro q; cases q)
  · exact absurd (congrArg Prod.fst (bk_r h)) (by intro q; cases q)
set_option maxHeartbeats 2000000 in
set_option maxRecDepth 100000 in
theorem t_L_law_1692 {l : Launch} (hls : l.stackTraces = false) {C : cT} (hC : CX C cL_law 9 yL_law rm_L_law) (hl : C.2.1 = l) {b L : Nat} {xs : Nat → Int32} (hX : LX C b L xs) {S9 : mS}  {cs28 sl28 : Nat} (hcs28 : cs28 ≤ 80538) (hsl28 : sl28 ≤ 327207) {rc28 : mS → Nat → Nat → Nat → Nat → Int32 → Option (Rs Int32)} (hrc28 : ∀ (S : mS) (a1 : Nat) (a2 : Nat) (a3 : Nat) (a4 : Nat) (a5 : Int32), rc28 S a1 a2 a3 a4 a5 = some ((.inl (1 : Int32), S9) : Rs Int32) → XX C 9 (LQ C b) (cs28 + 40021) (sl28 + 160086) S 28 [(1, .ref a1), (2, .ref a2), (3, .ref a3), (4, .ref a4), (5, .int a5)] []) {S : mS} {a1 : Nat} {a2 : Nat} {a3 : Nat} {a4 : Nat} {a5 : Int32} (h : f_L_law_1692 L xs rc28 S a1 a2 a3 a4 a5 = some ((.inl (1 : Int32), S9) : Rs Int32)) : XX C 9 (LQ C b) (cs28 + 2) (sl28 + 12) S 1692 [(1, .ref a1), (2, .ref a2), (3, .ref a3), (4, .ref a4), (5, .int a5)] [] := by
  unfold f_L_law_1692 at h
  refine x_goto (pc := 1692) hC 3632 dL_law_1692 (by decide) ?_
  refine x_pick [0, 1, 2, 3, 4] rfl ?_
  refine x_widen (ce' := cs28 + 40021) (sl' := sl28 + 160086) (by omega) (by omega) ?_
  exact t_L_law_3632 hls hC hl hX (by omega) (by omega) hrc28 h
set_option maxHeartbeats 2000000 in
set_option maxRecDepth 100000 in
theorem t_L_law_1639 {l : Launch} (hls : l.stackTraces = false) {C : cT} (hC : CX C cL_law 9 yL_law rm_L_law) (hl : C.2.1 = l) {b L : Nat} {xs : Nat → Int32} (hX : LX C b L xs) {S9 : mS}  {cs28 sl28 : Nat} (hcs28 : cs28 ≤ 80538) (hsl28 : sl28 ≤ 327207) {rc28 : mS → Nat → Nat → Nat → Nat → Int32 → Option (Rs Int32)} (hrc28 : ∀ (S : mS) (a1 : Nat) (a2 : Nat) (a3 : Nat) (a4 : Nat) (a5 : Int32), rc28 S a1 a2 a3 a4 a5 = some ((.inl (1 : Int32), S9) : Rs Int32) → XX C 9 (LQ C b) (cs28 + 40021) (sl28 + 160086) S 28 [(1, .ref a1), (2, .ref a2), (3, .ref a3), (4, .ref a4), (5, .int a5)] []) {S : mS} {a1 : Nat} {a2 : Nat} {a3 : Nat} {a4 : Nat} {a5 : Int32} (h : f_L_law_1639 L xs rc28 S a1 a2 a3 a4 a5 = some ((.inl (1 : Int32), S9) : Rs Int32)) : XX C 9 (LQ C b) (cs28) (sl28) S 1639 [(1, .ref a1), (2, .ref a2), (3, .ref a3), (4, .ref a4), (5, .int a5)] [] := by
  unfold f_L_law_1639 at h
  refine x_aload_n (pc := 1639) hC 0 dL_law_1639 rfl rfl ?_
  obtain ⟨g2, h⟩ := gd_some h
  refine x_sldk (pc := 1640) (v := (1 : Int32)) hC hX 4 dL_law_1640 dL_law_1641 rfl dL_law_1643 (by decide) dL_law_1644 g2 dL_law_1645 (fun x1 hx1 => ?_)
  replace h := lt_x hx1 h
  refine x_aload_n (pc := 1646) hC 2 dL_law_1646 rfl rfl ?_
  obtain ⟨o5, ho5, h⟩ := bd_some h
  refine x_callH (pc := 1647) (As := [.ref a1, .int x1, .ref a3]) (rest := []) hC hl (c_L_on l hls ho5) lk_RL_253 dL_law_1647 rfl rfl (Nat.le_of_ble_eq_true rfl) ⟨Nat.le_of_ble_eq_true rfl, Nat.le_of_ble_eq_true rfl⟩ ⟨(show cs28 + 2 ≤ (625622 : Nat) from by omega), (show sl28 + 12 ≤ (7225229 : Nat) from by omega)⟩ ?_
  rcases o5 with ⟨x3 | E6, S4⟩
  · refine xk_i ?_
    replace h := bk_l h
    refine x_widen (ce' := cs28 + 2) (sl' := sl28 + 12) (Nat.le_refl _) (Nat.le_refl _) ?_
    refine x_istore (pc := 1650) hC dL_law_1650 (by decide) (by decide) rfl ?_
    refine x_aload_n (pc := 1652) hC 2 dL_law_1652 rfl rfl ?_
    obtain ⟨g8, h⟩ := gd_some h
    refine x_sldk (pc := 1653) (v := (1 : Int32)) hC hX 5 dL_law_1653 dL_law_1654 rfl dL_law_1656 (by decide) dL_law_1657 g8 dL_law_1658 (fun x7 hx7 => ?_)
    replace h := lt_x hx7 h
    obtain ⟨g9, h⟩ := gd_some h
    obtain ⟨o12, ho12, h⟩ := bd_some h
    refine x_callV (pc := 1659) (As := [.int x7]) (rest := []) hC hl (c_X13_on l hls ho12) lk_RL_255 fc_19 g9 dL_law_1659 rfl rfl (Nat.le_of_ble_eq_true rfl) ⟨Nat.le_of_ble_eq_true rfl, Nat.le_of_ble_eq_true rfl⟩ ⟨(show cs28 + 2 ≤ (625622 : Nat) from by omega), (show sl28 + 12 ≤ (7225229 : Nat) from by omega)⟩ ?_
    rcases o12 with ⟨x10 | E13, S11⟩
    · refine xk_i ?_
      replace h := bk_l h
      refine x_widen (ce' := cs28 + 2) (sl' := sl28 + 12) (Nat.le_refl _) (Nat.le_refl _) ?_
      refine x_istore (pc := 1662) hC dL_law_1662 (by decide) (by decide) rfl ?_
      refine x_aload_n (pc := 1664) hC 3 dL_law_1664 rfl rfl ?_
      obtain ⟨g14, h⟩ := gd_some h
      obtain ⟨o17, ho17, h⟩ := bd_some h
      refine x_callV (pc := 1665) (As := []) (rest := []) hC hl (c_X13_thrown l hls ho17) lk_RL_193 fc_19 g14 dL_law_1665 rfl rfl (Nat.le_of_ble_eq_true rfl) ⟨Nat.le_of_ble_eq_true rfl, Nat.le_of_ble_eq_true rfl⟩ ⟨(show cs28 + 2 ≤ (625622 : Nat) from by omega), (show sl28 + 12 ≤ (7225229 : Nat) from by omega)⟩ ?_
      rcases o17 with ⟨x15 | E18, S16⟩
      · refine xk_i ?_
        replace h := bk_l h
        refine x_widen (ce' := cs28 + 2) (sl' := sl28 + 12) (Nat.le_refl _) (Nat.le_refl _) ?_
        refine x_iload (pc := 1668) hC 1 dL_law_1668 rfl ?_
        refine x_icmp_eq (pc := 1670) hC 1675 dL_law_1670 (by decide) (fun c27 => ?_) (fun c27 => ?_)
        · rw [if_pos c27] at h
          refine x_iload (pc := 1675) hC 1 dL_law_1675 rfl ?_
          refine x_if_ne (pc := 1677) hC 1692 dL_law_1677 (by decide) (fun c26 => ?_) (fun c26 => ?_)
          · rw [if_neg c26] at h
            refine x_pick [2, 3, 4, 5, 6] rfl ?_
            exact t_L_law_1692 hls hC hl hX (by omega) (by omega) hrc28 h
          · rw [if_pos c26] at h
            refine x_aload_n (pc := 1680) hC 4 dL_law_1680 rfl rfl ?_
            refine x_iconst (pc := 1681) (v := (0 : Int32)) hC dL_law_1681 (by decide) ?_
            obtain ⟨g21, h⟩ := gd_some h
            obtain ⟨g20, h⟩ := gd_some h
            refine x_laldv (pc := 1682) hC dL_law_1682 g21 g20 (fun x22 hx22 => ?_)
            replace h := lt_x hx22 h
            refine x_iload (pc := 1683) hC 0 dL_law_1683 rfl ?_
            refine x_i2lv (pc := 1685) hC dL_law_1685 (fun x23 hx23 => ?_)
            replace h := lt_x hx23 h
            refine x_lcmpv (pc := 1686) hC dL_law_1686 (fun x24 hx24 => ?_)
            replace h := lt_x hx24 h
            refine x_if_eq (pc := 1687) hC 1692 dL_law_1687 (by decide) (fun c25 => ?_) (fun c25 => ?_)
            · rw [if_pos c25] at h
              refine x_pick [2, 3, 4, 5, 6] rfl ?_
              exact t_L_law_1692 hls hC hl hX (by omega) (by omega) hrc28 h
            · rw [if_neg c25] at h
              refine x_iconst (pc := 1690) (v := (0 : Int32)) hC dL_law_1690 (by decide) ?_
              exact (law_no h).elim
        · rw [if_neg c27] at h
          refine x_iconst (pc := 1673) (v := (0 : Int32)) hC dL_law_1673 (by decide) ?_
          exact (law_no h).elim
      · exact absurd (congrArg Prod.fst (bk_r h)) (by intro q; cases q)
    · exact absurd (congrArg Prod.fst (bk_r h)) (by intro q; cases q)
  · exact absurd (congrArg Prod.fst (bk_r h)) (by intro q; cases q)
set_option maxHeartbeats 2000000 in
set_option maxRecDepth 100000 in
theorem t_L_law_1760 {l : Launch} (hls : l.stackTraces = false) {C : cT} (hC : CX C cL_law 9 yL_law rm_L_law) (hl : C.2.1 = l) {b L : Nat} {xs : Nat → Int32} (hX : LX C b L xs) {S9 : mS}  {cs28 sl28 : Nat} (hcs28 : cs28 ≤ 80538) (hsl28 : sl28 ≤ 327207) {rc28 : mS → Nat → Nat → Nat → Nat → Int32 → Option (Rs Int32)} (hrc28 : ∀ (S : mS) (a1 : Nat) (a2 : Nat) (a3 : Nat) (a4 : Nat) (a5 : Int32), rc28 S a1 a2 a3 a4 a5 = some ((.inl (1 : Int32), S9) : Rs Int32) → XX C 9 (LQ C b) (cs28 + 40021) (sl28 + 160086) S 28 [(1, .ref a1), (2, .ref a2), (3, .ref a3), (4, .ref a4), (5, .int a5)] []) {S : mS} {a1 : Nat} {a2 : Nat} {a3 : Nat} {a4 : Nat} {a5 : Int32} (h : f_L_law_1760 L xs rc28 S a1 a2 a3 a4 a5 = some ((.inl (1 : Int32), S9) : Rs Int32)) : XX C 9 (LQ C b) (cs28 + 2) (sl28 + 12) S 1760 [(1, .ref a1), (2, .ref a2), (3, .ref a3), (4, .ref a4), (5, .int a5)] [] := by
  unfold f_L_law_1760 at h
  refine x_goto (pc := 1760) hC 3632 dL_law_1760 (by decide) ?_
  refine x_pick [0, 1, 2, 3, 4] rfl ?_
  refine x_widen (ce' := cs28 + 40021) (sl' := sl28 + 160086) (by omega) (by omega) ?_
  exact t_L_law_3632 hls hC hl hX (by omega) (by omega) hrc28 h
set_option maxHeartbeats 2000000 in
set_option maxRecDepth 100000 in
theorem t_L_law_1695 {l : Launch} (hls : l.stackTraces = false) {C : cT} (hC : CX C cL_law 9 yL_law rm_L_law) (hl : C.2.1 = l) {b L : Nat} {xs : Nat → Int32} (hX : LX C b L xs) {S9 : mS}  {cs28 sl28 : Nat} (hcs28 : cs28 ≤ 80538) (hsl28 : sl28 ≤ 327207) {rc28 : mS → Nat → Nat → Nat → Nat → Int32 → Option (Rs Int32)} (hrc28 : ∀ (S : mS) (a1 : Nat) (a2 : Nat) (a3 : Nat) (a4 : Nat) (a5 : Int32), rc28 S a1 a2 a3 a4 a5 = some ((.inl (1 : Int32), S9) : Rs Int32) → XX C 9 (LQ C b) (cs28 + 40021) (sl28 + 160086) S 28 [(1, .ref a1), (2, .ref a2), (3, .ref a3), (4, .ref a4), (5, .int a5)] []) {S : mS} {a1 : Nat} {a2 : Nat} {a3 : Nat} {a4 : Nat} {a5 : Int32} (h : f_L_law_1695 L xs rc28 S a1 a2 a3 a4 a5 = some ((.inl (1 : Int32), S9) : Rs Int32)) : XX C 9 (LQ C b) (cs28) (sl28) S 1695 [(1, .ref a1), (2, .ref a2), (3, .ref a3), (4, .ref a4), (5, .int a5)] [] := by
  unfold f_L_law_1695 at h
  refine x_aload_n (pc := 1695) hC 0 dL_law_1695 rfl rfl ?_
  obtain ⟨g2, h⟩ := gd_some h
  refine x_sldk (pc := 1696) (v := (1 : Int32)) hC hX 4 dL_law_1696 dL_law_1697 rfl dL_law_1699 (by decide) dL_law_1700 g2 dL_law_1701 (fun x1 hx1 => ?_)
  replace h := lt_x hx1 h
  obtain ⟨g4, h⟩ := gd_some h
  refine x_sldk (pc := 1702) (v := (2 : Int32)) hC hX 4 dL_law_1702 dL_law_1703 rfl dL_law_1705 (by decide) dL_law_1706 g4 dL_law_1707 (fun x3 hx3 => ?_)
  replace h := lt_x hx3 h
  refine x_aload_n (pc := 1708) hC 2 dL_law_1708 rfl rfl ?_
  obtain ⟨o7, ho7, h⟩ := bd_some h
  refine x_callH (pc := 1709) (As := [.ref a1, .int x1, .int x3, .ref a3]) (rest := []) hC hl (c_L_setFader l hls ho7) lk_RL_256 dL_law_1709 rfl rfl (Nat.le_of_ble_eq_true rfl) ⟨Nat.le_of_ble_eq_true rfl, Nat.le_of_ble_eq_true rfl⟩ ⟨(show cs28 + 2 ≤ (625622 : Nat) from by omega), (show sl28 + 12 ≤ (7225229 : Nat) from by omega)⟩ ?_
  rcases o7 with ⟨x5 | E8, S6⟩
  · refine xk_i ?_
    replace h := bk_l h
    refine x_widen (ce' := cs28 + 2) (sl' := sl28 + 12) (Nat.le_refl _) (Nat.le_refl _) ?_
    refine x_istore (pc := 1712) hC dL_law_1712 (by decide) (by decide) rfl ?_
    refine x_aload_n (pc := 1714) hC 2 dL_law_1714 rfl rfl ?_
    obtain ⟨g10, h⟩ := gd_some h
    refine x_sldk (pc := 1715) (v := (1 : Int32)) hC hX 5 dL_law_1715 dL_law_1716 rfl dL_law_1718 (by decide) dL_law_1719 g10 dL_law_1720 (fun x9 hx9 => ?_)
    replace h := lt_x hx9 h
    obtain ⟨g12, h⟩ := gd_some h
    refine x_sldk (pc := 1721) (v := (2 : Int32)) hC hX 5 dL_law_1721 dL_law_1722 rfl dL_law_1724 (by decide) dL_law_1725 g12 dL_law_1726 (fun x11 hx11 => ?_)
    replace h := lt_x hx11 h
    obtain ⟨g13, h⟩ := gd_some h
    obtain ⟨o16, ho16, h⟩ := bd_some h
    refine x_callV (pc := 1727) (As := [.int x9, .int x11]) (rest := []) hC hl (c_X13_setFader l hls ho16) lk_RL_258 fc_19 g13 dL_law_1727 rfl rfl (Nat.le_of_ble_eq_true rfl) ⟨Nat.le_of_ble_eq_true rfl, Nat.le_of_ble_eq_true rfl⟩ ⟨(show cs28 + 2 ≤ (625622 : Nat) from by omega), (show sl28 + 12 ≤ (7225229 : Nat) from by omega)⟩ ?_
    rcases o16 with ⟨x14 | E17, S15⟩
    · refine xk_i ?_
      replace h := bk_l h
      refine x_widen (ce' := cs28 + 2) (sl' := sl28 + 12) (Nat.le_refl _) (Nat.le_refl _) ?_
      refine x_istore (pc := 1730) hC dL_law_1730 (by decide) (by decide) rfl ?_
      refine x_aload_n (pc := 1732) hC 3 dL_law_1732 rfl rfl ?_
      obtain ⟨g18, h⟩ := gd_some h
      obtain ⟨o21, ho21, h⟩ := bd_some h
      refine x_callV (pc := 1733) (As := []) (rest := []) hC hl (c_X13_thrown l hls ho21) lk_RL_193 fc_19 g18 dL_law_1733 rfl rfl (Nat.le_of_ble_eq_true rfl) ⟨Nat.le_of_ble_eq_true rfl, Nat.le_of_ble_eq_true rfl⟩ ⟨(show cs28 + 2 ≤ (625622 : Nat) from by omega), (show sl28 + 12 ≤ (7225229 : Nat) from by omega)⟩ ?_
      rcases o21 with ⟨x19 | E22, S20⟩
      · refine xk_i ?_
        replace h := bk_l h
        refine x_widen (ce' := cs28 + 2) (sl' := sl28 + 12) (Nat.le_refl _) (Nat.le_refl _) ?_
        refine x_iload (pc := 1736) hC 1 dL_law_1736 rfl ?_
        refine x_icmp_eq (pc := 1738) hC 1743 dL_law_1738 (by decide) (fun c31 => ?_) (fun c31 => ?_)
        · rw [if_pos c31] at h
          refine x_iload (pc := 1743) hC 1 dL_law_1743 rfl ?_
          refine x_if_ne (pc := 1745) hC 1760 dL_law_1745 (by decide) (fun c30 => ?_) (fun c30 => ?_)
          · rw [if_neg c30] at h
            refine x_pick [2, 3, 4, 5, 6] rfl ?_
            exact t_L_law_1760 hls hC hl hX (by omega) (by omega) hrc28 h
          · rw [if_pos c30] at h
            refine x_aload_n (pc := 1748) hC 4 dL_law_1748 rfl rfl ?_
            refine x_iconst (pc := 1749) (v := (0 : Int32)) hC dL_law_1749 (by decide) ?_
            obtain ⟨g25, h⟩ := gd_some h
            obtain ⟨g24, h⟩ := gd_some h
            refine x_laldv (pc := 1750) hC dL_law_1750 g25 g24 (fun x26 hx26 => ?_)
            replace h := lt_x hx26 h
            refine x_iload (pc := 1751) hC 0 dL_law_1751 rfl ?_
            refine x_i2lv (pc := 1753) hC dL_law_1753 (fun x27 hx27 => ?_)
            replace h := lt_x hx27 h
            refine x_lcmpv (pc := 1754) hC dL_law_1754 (fun x28 hx28 => ?_)
            replace h := lt_x hx28 h
            refine x_if_eq (pc := 1755) hC 1760 dL_law_1755 (by decide) (fun c29 => ?_) (fun c29 => ?_)
            · rw [if_pos c29] at h
              refine x_pick [2, 3, 4, 5, 6] rfl ?_
              exact t_L_law_1760 hls hC hl hX (by omega) (by omega) hrc28 h
            · rw [if_neg c29] at h
              refine x_iconst (pc := 1758) (v := (0 : Int32)) hC dL_law_1758 (by decide) ?_
              exact (law_no h).elim
        · rw [if_neg c31] at h
          refine x_iconst (pc := 1741) (v := (0 : Int32)) hC dL_law_1741 (by decide) ?_
          exact (law_no h).elim
      · exact absurd (congrArg Prod.fst (bk_r h)) (by intro q; cases q)
    · exact absurd (congrArg Prod.fst (bk_r h)) (by intro q; cases q)
  · exact absurd (congrArg Prod.fst (bk_r h)) (by intro q; cases q)
set_option maxHeartbeats 2000000 in
set_option maxRecDepth 100000 in
theorem t_L_law_1840 {l : Launch} (hls : l.stackTraces = false) {C : cT} (hC : CX C cL_law 9 yL_law rm_L_law) (hl : C.2.1 = l) {b L : Nat} {xs : Nat → Int32} (hX : LX C b L xs) {S9 : mS}  {cs28 sl28 : Nat} (hcs28 : cs28 ≤ 80538) (hsl28 : sl28 ≤ 327207) {rc28 : mS → Nat → Nat → Nat → Nat → Int32 → Option (Rs Int32)} (hrc28 : ∀ (S : mS) (a1 : Nat) (a2 : Nat) (a3 : Nat) (a4 : Nat) (a5 : Int32), rc28 S a1 a2 a3 a4 a5 = some ((.inl (1 : Int32), S9) : Rs Int32) → XX C 9 (LQ C b) (cs28 + 40021) (sl28 + 160086) S 28 [(1, .ref a1), (2, .ref a2), (3, .ref a3), (4, .ref a4), (5, .int a5)] []) {S : mS} {a1 : Nat} {a2 : Nat} {a3 : Nat} {a4 : Nat} {a5 : Int32} (h : f_L_law_1840 L xs rc28 S a1 a2 a3 a4 a5 = some ((.inl (1 : Int32), S9) : Rs Int32)) : XX C 9 (LQ C b) (cs28 + 2) (sl28 + 12) S 1840 [(1, .ref a1), (2, .ref a2), (3, .ref a3), (4, .ref a4), (5, .int a5)] [] := by
  unfold f_L_law_1840 at h
  refine x_goto (pc := 1840) hC 3632 dL_law_1840 (by decide) ?_
  refine x_pick [0, 1, 2, 3, 4] rfl ?_
  refine x_widen (ce' := cs28 + 40021) (sl' := sl28 + 160086) (by omega) (by omega) ?_
  exact t_L_law_3632 hls hC hl hX (by omega) (by omega) hrc28 h
set_option maxHeartbeats 2000000 in
set_option maxRecDepth 100000 in
theorem t_L_law_1763 {l : Launch} (hls : l.stackTraces = false) {C : cT} (hC : CX C cL_law 9 yL_law rm_L_law) (hl : C.2.1 = l) {b L : Nat} {xs : Nat → Int32} (hX : LX C b L xs) {S9 : mS}  {cs28 sl28 : Nat} (hcs28 : cs28 ≤ 80538) (hsl28 : sl28 ≤ 327207) {rc28 : mS → Nat → Nat → Nat → Nat → Int32 → Option (Rs Int32)} (hrc28 : ∀ (S : mS) (a1 : Nat) (a2 : Nat) (a3 : Nat) (a4 : Nat) (a5 : Int32), rc28 S a1 a2 a3 a4 a5 = some ((.inl (1 : Int32), S9) : Rs Int32) → XX C 9 (LQ C b) (cs28 + 40021) (sl28 + 160086) S 28 [(1, .ref a1), (2, .ref a2), (3, .ref a3), (4, .ref a4), (5, .int a5)] []) {S : mS} {a1 : Nat} {a2 : Nat} {a3 : Nat} {a4 : Nat} {a5 : Int32} (h : f_L_law_1763 L xs rc28 S a1 a2 a3 a4 a5 = some ((.inl (1 : Int32), S9) : Rs Int32)) : XX C 9 (LQ C b) (cs28) (sl28) S 1763 [(1, .ref a1), (2, .ref a2), (3, .ref a3), (4, .ref a4), (5, .int a5)] [] := by
  unfold f_L_law_1763 at h
  refine x_aload_n (pc := 1763) hC 0 dL_law_1763 rfl rfl ?_
  obtain ⟨g2, h⟩ := gd_some h
  refine x_sldk (pc := 1764) (v := (1 : Int32)) hC hX 4 dL_law_1764 dL_law_1765 rfl dL_law_1767 (by decide) dL_law_1768 g2 dL_law_1769 (fun x1 hx1 => ?_)
  replace h := lt_x hx1 h
  obtain ⟨g4, h⟩ := gd_some h
  refine x_sldk (pc := 1770) (v := (2 : Int32)) hC hX 4 dL_law_1770 dL_law_1771 rfl dL_law_1773 (by decide) dL_law_1774 g4 dL_law_1775 (fun x3 hx3 => ?_)
  replace h := lt_x hx3 h
  obtain ⟨g6, h⟩ := gd_some h
  refine x_sldk (pc := 1776) (v := (3 : Int32)) hC hX 4 dL_law_1776 dL_law_1777 rfl dL_law_1779 (by decide) dL_law_1780 g6 dL_law_1781 (fun x5 hx5 => ?_)
  replace h := lt_x hx5 h
  refine x_aload_n (pc := 1782) hC 2 dL_law_1782 rfl rfl ?_
  obtain ⟨o9, ho9, h⟩ := bd_some h
  refine x_callH (pc := 1783) (As := [.ref a1, .int x1, .int x3, .int x5, .ref a3]) (rest := []) hC hl (c_L_setBand l hls ho9) lk_RL_259 dL_law_1783 rfl rfl (Nat.le_of_ble_eq_true rfl) ⟨Nat.le_of_ble_eq_true rfl, Nat.le_of_ble_eq_true rfl⟩ ⟨(show cs28 + 2 ≤ (625622 : Nat) from by omega), (show sl28 + 12 ≤ (7225229 : Nat) from by omega)⟩ ?_
  rcases o9 with ⟨x7 | E10, S8⟩
  · refine xk_i ?_
    replace h := bk_l h
    refine x_widen (ce' := cs28 + 2) (sl' := sl28 + 12) (Nat.le_refl _) (Nat.le_refl _) ?_
    refine x_istore (pc := 1786) hC dL_law_1786 (by decide) (by decide) rfl ?_
    refine x_aload_n (pc := 1788) hC 2 dL_law_1788 rfl rfl ?_
    obtain ⟨g12, h⟩ := gd_some h
    refine x_sldk (pc := 1789) (v := (1 : Int32)) hC hX 5 dL_law_1789 dL_law_1790 rfl dL_law_1792 (by decide) dL_law_1793 g12 dL_law_1794 (fun x11 hx11 => ?_)
    replace h := lt_x hx11 h
    obtain ⟨g14, h⟩ := gd_some h
    refine x_sldk (pc := 1795) (v := (2 : Int32)) hC hX 5 dL_law_1795 dL_law_1796 rfl dL_law_1798 (by decide) dL_law_1799 g14 dL_law_1800 (fun x13 hx13 => ?_)
    replace h := lt_x hx13 h
    obtain ⟨g16, h⟩ := gd_some h
    refine x_sldk (pc := 1801) (v := (3 : Int32)) hC hX 5 dL_law_1801 dL_law_1802 rfl dL_law_1804 (by decide) dL_law_1805 g16 dL_law_1806 (fun x15 hx15 => ?_)
    replace h := lt_x hx15 h
    obtain ⟨g17, h⟩ := gd_some h
    obtain ⟨o20, ho20, h⟩ := bd_some h
    refine x_callV (pc := 1807) (As := [.int x11, .int x13, .int x15]) (rest := []) hC hl (c_X13_setBand l hls ho20) lk_RL_262 fc_19 g17 dL_law_1807 rfl rfl (Nat.le_of_ble_eq_true rfl) ⟨Nat.le_of_ble_eq_true rfl, Nat.le_of_ble_eq_true rfl⟩ ⟨(show cs28 + 2 ≤ (625622 : Nat) from by omega), (show sl28 + 12 ≤ (7225229 : Nat) from by omega)⟩ ?_
    rcases o20 with ⟨x18 | E21, S19⟩
    · refine xk_i ?_
      replace h := bk_l h
      refine x_widen (ce' := cs28 + 2) (sl' := sl28 + 12) (Nat.le_refl _) (Nat.le_refl _) ?_
      refine x_istore (pc := 1810) hC dL_law_1810 (by decide) (by decide) rfl ?_
      refine x_aload_n (pc := 1812) hC 3 dL_law_1812 rfl rfl ?_
      obtain ⟨g22, h⟩ := gd_some h
      obtain ⟨o25, ho25, h⟩ := bd_some h
      refine x_callV (pc := 1813) (As := []) (rest := []) hC hl (c_X13_thrown l hls ho25) lk_RL_193 fc_19 g22 dL_law_1813 rfl rfl (Nat.le_of_ble_eq_true rfl) ⟨Nat.le_of_ble_eq_true rfl, Nat.le_of_ble_eq_true rfl⟩ ⟨(show cs28 + 2 ≤ (625622 : Nat) from by omega), (show sl28 + 12 ≤ (7225229 : Nat) from by omega)⟩ ?_
      rcases o25 with ⟨x23 | E26, S24⟩
      · refine xk_i ?_
        replace h := bk_l h
        refine x_widen (ce' := cs28 + 2) (sl' := sl28 + 12) (Nat.le_refl _) (Nat.le_refl _) ?_
        refine x_iload (pc := 1816) hC 1 dL_law_1816 rfl ?_
        refine x_icmp_eq (pc := 1818) hC 1823 dL_law_1818 (by decide) (fun c35 => ?_) (fun c35 => ?_)
        · rw [if_pos c35] at h
          refine x_iload (pc := 1823) hC 1 dL_law_1823 rfl ?_
          refine x_if_ne (pc := 1825) hC 1840 dL_law_1825 (by decide) (fun c34 => ?_) (fun c34 => ?_)
          · rw [if_neg c34] at h
            refine x_pick [2, 3, 4, 5, 6] rfl ?_
            exact t_L_law_1840 hls hC hl hX (by omega) (by omega) hrc28 h
          · rw [if_pos c34] at h
            refine x_aload_n (pc := 1828) hC 4 dL_law_1828 rfl rfl ?_
            refine x_iconst (pc := 1829) (v := (0 : Int32)) hC dL_law_1829 (by decide) ?_
            obtain ⟨g29, h⟩ := gd_some h
            obtain ⟨g28, h⟩ := gd_some h
            refine x_laldv (pc := 1830) hC dL_law_1830 g29 g28 (fun x30 hx30 => ?_)
            replace h := lt_x hx30 h
            refine x_iload (pc := 1831) hC 0 dL_law_1831 rfl ?_
            refine x_i2lv (pc := 1833) hC dL_law_1833 (fun x31 hx31 => ?_)
            replace h := lt_x hx31 h
            refine x_lcmpv (pc := 1834) hC dL_law_1834 (fun x32 hx32 => ?_)
            replace h := lt_x hx32 h
            refine x_if_eq (pc := 1835) hC 1840 dL_law_1835 (by decide) (fun c33 => ?_) (fun c33 => ?_)
            · rw [if_pos c33] at h
              refine x_pick [2, 3, 4, 5, 6] rfl ?_
              exact t_L_law_1840 hls hC hl hX (by omega) (by omega) hrc28 h
            · rw [if_neg c33] at h
              refine x_iconst (pc := 1838) (v := (0 : Int32)) hC dL_law_1838 (by decide) ?_
              exact (law_no h).elim
        · rw [if_neg c35] at h
          refine x_iconst (pc := 1821) (v := (0 : Int32)) hC dL_law_1821 (by decide) ?_
          exact (law_no h).elim
      · exact absurd (congrArg Prod.fst (bk_r h)) (by intro q; cases q)
    · exact absurd (congrArg Prod.fst (bk_r h)) (by intro q; cases q)
  · exact absurd (congrArg Prod.fst (bk_r h)) (by intro q; cases q)
set_option maxHeartbeats 2000000 in
set_option maxRecDepth 100000 in
theorem t_L_law_1910 {l : Launch} (hls : l.stackTraces = false) {C : cT} (hC : CX C cL_law 9 yL_law rm_L_law) (hl : C.2.1 = l) {b L : Nat} {xs : Nat → Int32} (hX : LX C b L xs) {S9 : mS}  {cs28 sl28 : Nat} (hcs28 : cs28 ≤ 80538) (hsl28 : sl28 ≤ 327207) {rc28 : mS → Nat → Nat → Nat → Nat → Int32 → Option (Rs Int32)} (hrc28 : ∀ (S : mS) (a1 : Nat) (a2 : Nat) (a3 : Nat) (a4 : Nat) (a5 : Int32), rc28 S a1 a2 a3 a4 a5 = some ((.inl (1 : Int32), S9) : Rs Int32) → XX C 9 (LQ C b) (cs28 + 40021) (sl28 + 160086) S 28 [(1, .ref a1), (2, .ref a2), (3, .ref a3), (4, .ref a4), (5, .int a5)] []) {S : mS} {a1 : Nat} {a2 : Nat} {a3 : Nat} {a4 : Nat} {a5 : Int32} (h : f_L_law_1910 L xs rc28 S a1 a2 a3 a4 a5 = some ((.inl (1 : Int32), S9) : Rs Int32)) : XX C 9 (LQ C b) (cs28 + 2) (sl28 + 12) S 1910 [(1, .ref a1), (2, .ref a2), (3, .ref a3), (4, .ref a4), (5, .int a5)] [] := by
  unfold f_L_law_1910 at h
  refine x_goto (pc := 1910) hC 3632 dL_law_1910 (by decide) ?_
  refine x_pick [0, 1, 2, 3, 4] rfl ?_
  refine x_widen (ce' := cs28 + 40021) (sl' := sl28 + 160086) (by omega) (by omega) ?_
  exact t_L_law_3632 hls hC hl hX (by omega) (by omega) hrc28 h
set_option maxHeartbeats 2000000 in
set_option maxRecDepth 100000 in
theorem t_L_law_1843 {l : Launch} (hls : l.stackTraces = false) {C : cT} (hC : CX C cL_law 9 yL_law rm_L_law) (hl : C.2.1 = l) {b L : Nat} {xs : Nat → Int32} (hX : LX C b L xs) {S9 : mS}  {cs28 sl28 : Nat} (hcs28 : cs28 ≤ 80538) (hsl28 : sl28 ≤ 327207) {rc28 : mS → Nat → Nat → Nat → Nat → Int32 → Option (Rs Int32)} (hrc28 : ∀ (S : mS) (a1 : Nat) (a2 : Nat) (a3 : Nat) (a4 : Nat) (a5 : Int32), rc28 S a1 a2 a3 a4 a5 = some ((.inl (1 : Int32), S9) : Rs Int32) → XX C 9 (LQ C b) (cs28 + 40021) (sl28 + 160086) S 28 [(1, .ref a1), (2, .ref a2), (3, .ref a3), (4, .ref a4), (5, .int a5)] []) {S : mS} {a1 : Nat} {a2 : Nat} {a3 : Nat} {a4 : Nat} {a5 : Int32} (h : f_L_law_1843 L xs rc28 S a1 a2 a3 a4 a5 = some ((.inl (1 : Int32), S9) : Rs Int32)) : XX C 9 (LQ C b) (cs28) (sl28) S 1843 [(1, .ref a1), (2, .ref a2), (3, .ref a3), (4, .ref a4), (5, .int a5)] [] := by
  unfold f_L_law_1843 at h
  refine x_aload_n (pc := 1843) hC 0 dL_law_1843 rfl rfl ?_
  obtain ⟨g2, h⟩ := gd_some h
  refine x_sldk (pc := 1844) (v := (1 : Int32)) hC hX 4 dL_law_1844 dL_law_1845 rfl dL_law_1847 (by decide) dL_law_1848 g2 dL_law_1849 (fun x1 hx1 => ?_)
  replace h := lt_x hx1 h
  obtain ⟨g4, h⟩ := gd_some h
  refine x_sldk (pc := 1850) (v := (2 : Int32)) hC hX 4 dL_law_1850 dL_law_1851 rfl dL_law_1853 (by decide) dL_law_1854 g4 dL_law_1855 (fun x3 hx3 => ?_)
  replace h := lt_x hx3 h
  refine x_i2cv (pc := 1856) hC dL_law_1856 (fun x5 hx5 => ?_)
  replace h := lt_x hx5 h
  refine x_aload_n (pc := 1857) hC 2 dL_law_1857 rfl rfl ?_
  obtain ⟨o8, ho8, h⟩ := bd_some h
  refine x_callH (pc := 1858) (As := [.ref a1, .int x1, .int x5, .ref a3]) (rest := []) hC hl (c_L_setSide l hls ho8) lk_RL_263 dL_law_1858 rfl rfl (Nat.le_of_ble_eq_true rfl) ⟨Nat.le_of_ble_eq_true rfl, Nat.le_of_ble_eq_true rfl⟩ ⟨(show cs28 + 2 ≤ (625622 : Nat) from by omega), (show sl28 + 12 ≤ (7225229 : Nat) from by omega)⟩ ?_
  rcases o8 with ⟨x6 | E9, S7⟩
  · refine xk_i ?_
    replace h := bk_l h
    refine x_widen (ce' := cs28 + 2) (sl' := sl28 + 12) (Nat.le_refl _) (Nat.le_refl _) ?_
    refine x_istore (pc := 1861) hC dL_law_1861 (by decide) (by decide) rfl ?_
    refine x_aload_n (pc := 1863) hC 2 dL_law_1863 rfl rfl ?_
    obtain ⟨g11, h⟩ := gd_some h
    refine x_sldk (pc := 1864) (v := (1 : Int32)) hC hX 5 dL_law_1864 dL_law_1865 rfl dL_law_1867 (by decide) dL_law_1868 g11 dL_law_1869 (fun x10 hx10 => ?_)
    replace h := lt_x hx10 h
    obtain ⟨g13, h⟩ := gd_some h
    refine x_sldk (pc := 1870) (v := (2 : Int32)) hC hX 5 dL_law_1870 dL_law_1871 rfl dL_law_1873 (by decide) dL_law_1874 g13 dL_law_1875 (fun x12 hx12 => ?_)
    replace h := lt_x hx12 h
    refine x_i2cv (pc := 1876) hC dL_law_1876 (fun x14 hx14 => ?_)
    replace h := lt_x hx14 h
    obtain ⟨g15, h⟩ := gd_some h
    obtain ⟨o18, ho18, h⟩ := bd_some h
    refine x_callV (pc := 1877) (As := [.int x10, .int x14]) (rest := []) hC hl (c2_X13_setSide l hls ho18) lk_RL_266 fc_19 g15 dL_law_1877 rfl rfl (Nat.le_of_ble_eq_true rfl) ⟨Nat.le_of_ble_eq_true rfl, Nat.le_of_ble_eq_true rfl⟩ ⟨(show cs28 + 2 ≤ (625622 : Nat) from by omega), (show sl28 + 12 ≤ (7225229 : Nat) from by omega)⟩ ?_
    rcases o18 with ⟨x16 | E19, S17⟩
    · refine xk_i ?_
      replace h := bk_l h
      refine x_widen (ce' := cs28 + 2) (sl' := sl28 + 12) (Nat.le_refl _) (Nat.le_refl _) ?_
      refine x_istore (pc := 1880) hC dL_law_1880 (by decide) (by decide) rfl ?_
      refine x_aload_n (pc := 1882) hC 3 dL_law_1882 rfl rfl ?_
      obtain ⟨g20, h⟩ := gd_some h
      obtain ⟨o23, ho23, h⟩ := bd_some h
      refine x_callV (pc := 1883) (As := []) (rest := []) hC hl (c_X13_thrown l hls ho23) lk_RL_193 fc_19 g20 dL_law_1883 rfl rfl (Nat.le_of_ble_eq_true rfl) ⟨Nat.le_of_ble_eq_true rfl, Nat.le_of_ble_eq_true rfl⟩ ⟨(show cs28 + 2 ≤ (625622 : Nat) from by omega), (show sl28 + 12 ≤ (7225229 : Nat) from by omega)⟩ ?_
      rcases o23 with ⟨x21 | E24, S22⟩
      · refine xk_i ?_
        replace h := bk_l h
        refine x_widen (ce' := cs28 + 2) (sl' := sl28 + 12) (Nat.le_refl _) (Nat.le_refl _) ?_
        refine x_iload (pc := 1886) hC 1 dL_law_1886 rfl ?_
        refine x_icmp_eq (pc := 1888) hC 1893 dL_law_1888 (by decide) (fun c33 => ?_) (fun c33 => ?_)
        · rw [if_pos c33] at h
          refine x_iload (pc := 1893) hC 1 dL_law_1893 rfl ?_
          refine x_if_ne (pc := 1895) hC 1910 dL_law_1895 (by decide) (fun c32 => ?_) (fun c32 => ?_)
          · rw [if_neg c32] at h
            refine x_pick [2, 3, 4, 5, 6] rfl ?_
            exact t_L_law_1910 hls hC hl hX (by omega) (by omega) hrc28 h
          · rw [if_pos c32] at h
            refine x_aload_n (pc := 1898) hC 4 dL_law_1898 rfl rfl ?_
            refine x_iconst (pc := 1899) (v := (0 : Int32)) hC dL_law_1899 (by decide) ?_
            obtain ⟨g27, h⟩ := gd_some h
            obtain ⟨g26, h⟩ := gd_some h
            refine x_laldv (pc := 1900) hC dL_law_1900 g27 g26 (fun x28 hx28 => ?_)
            replace h := lt_x hx28 h
            refine x_iload (pc := 1901) hC 0 dL_law_1901 rfl ?_
            refine x_i2lv (pc := 1903) hC dL_law_1903 (fun x29 hx29 => ?_)
            replace h := lt_x hx29 h
            refine x_lcmpv (pc := 1904) hC dL_law_1904 (fun x30 hx30 => ?_)
            replace h := lt_x hx30 h
            refine x_if_eq (pc := 1905) hC 1910 dL_law_1905 (by decide) (fun c31 => ?_) (fun c31 => ?_)
            · rw [if_pos c31] at h
              refine x_pick [2, 3, 4, 5, 6] rfl ?_
              exact t_L_law_1910 hls hC hl hX (by omega) (by omega) hrc28 h
            · rw [if_neg c31] at h
              refine x_iconst (pc := 1908) (v := (0 : Int32)) hC dL_law_1908 (by decide) ?_
              exact (law_no h).elim
        · rw [if_neg c33] at h
          refine x_iconst (pc := 1891) (v := (0 : Int32)) hC dL_law_1891 (by decide) ?_
          exact (law_no h).elim
      · exact absurd (congrArg Prod.fst (bk_r h)) (by intro q; cases q)
    · exact absurd (congrArg Prod.fst (bk_r h)) (by intro q; cases q)
  · exact absurd (congrArg Prod.fst (bk_r h)) (by intro q; cases q)
set_option maxHeartbeats 2000000 in
set_option maxRecDepth 100000 in
theorem t_L_law_1966 {l : Launch} (hls : l.stackTraces = false) {C : cT} (hC : CX C cL_law 9 yL_law rm_L_law) (hl : C.2.1 = l) {b L : Nat} {xs : Nat → Int32} (hX : LX C b L xs) {S9 : mS}  {cs28 sl28 : Nat} (hcs28 : cs28 ≤ 80538) (hsl28 : sl28 ≤ 327207) {rc28 : mS → Nat → Nat → Nat → Nat → Int32 → Option (Rs Int32)} (hrc28 : ∀ (S : mS) (a1 : Nat) (a2 : Nat) (a3 : Nat) (a4 : Nat) (a5 : Int32), rc28 S a1 a2 a3 a4 a5 = some ((.inl (1 : Int32), S9) : Rs Int32) → XX C 9 (LQ C b) (cs28 + 40021) (sl28 + 160086) S 28 [(1, .ref a1), (2, .ref a2), (3, .ref a3), (4, .ref a4), (5, .int a5)] []) {S : mS} {a1 : Nat} {a2 : Nat} {a3 : Nat} {a4 : Nat} {a5 : Int32} (h : f_L_law_1966 L xs rc28 S a1 a2 a3 a4 a5 = some ((.inl (1 : Int32), S9) : Rs Int32)) : XX C 9 (LQ C b) (cs28 + 1) (sl28 + 6) S 1966 [(1, .ref a1), (2, .ref a2), (3, .ref a3), (4, .ref a4), (5, .int a5)] [] := by
  unfold f_L_law_1966 at h
  refine x_goto (pc := 1966) hC 3632 dL_law_1966 (by decide) ?_
  refine x_pick [0, 1, 2, 3, 4] rfl ?_
  refine x_widen (ce' := cs28 + 40021) (sl' := sl28 + 160086) (by omega) (by omega) ?_
  exact t_L_law_3632 hls hC hl hX (by omega) (by omega) hrc28 h
set_option maxHeartbeats 2000000 in
set_option maxRecDepth 100000 in
theorem t_L_law_1913 {l : Launch} (hls : l.stackTraces = false) {C : cT} (hC : CX C cL_law 9 yL_law rm_L_law) (hl : C.2.1 = l) {b L : Nat} {xs : Nat → Int32} (hX : LX C b L xs) {S9 : mS}  {cs28 sl28 : Nat} (hcs28 : cs28 ≤ 80538) (hsl28 : sl28 ≤ 327207) {rc28 : mS → Nat → Nat → Nat → Nat → Int32 → Option (Rs Int32)} (hrc28 : ∀ (S : mS) (a1 : Nat) (a2 : Nat) (a3 : Nat) (a4 : Nat) (a5 : Int32), rc28 S a1 a2 a3 a4 a5 = some ((.inl (1 : Int32), S9) : Rs Int32) → XX C 9 (LQ C b) (cs28 + 40021) (sl28 + 160086) S 28 [(1, .ref a1), (2, .ref a2), (3, .ref a3), (4, .ref a4), (5, .int a5)] []) {S : mS} {a1 : Nat} {a2 : Nat} {a3 : Nat} {a4 : Nat} {a5 : Int32} (h : f_L_law_1913 L xs rc28 S a1 a2 a3 a4 a5 = some ((.inl (1 : Int32), S9) : Rs Int32)) : XX C 9 (LQ C b) (cs28) (sl28) S 1913 [(1, .ref a1), (2, .ref a2), (3, .ref a3), (4, .ref a4), (5, .int a5)] [] := by
  unfold f_L_law_1913 at h
  refine x_aload_n (pc := 1913) hC 0 dL_law_1913 rfl rfl ?_
  obtain ⟨g2, h⟩ := gd_some h
  refine x_sldk (pc := 1914) (v := (1 : Int32)) hC hX 4 dL_law_1914 dL_law_1915 rfl dL_law_1917 (by decide) dL_law_1918 g2 dL_law_1919 (fun x1 hx1 => ?_)
  replace h := lt_x hx1 h
  refine x_aload_n (pc := 1920) hC 2 dL_law_1920 rfl rfl ?_
  obtain ⟨o5, ho5, h⟩ := bd_some h
  refine x_callH (pc := 1921) (As := [.ref a1, .int x1, .ref a3]) (rest := []) hC hl (c_L_setCross l hls ho5) lk_RL_267 dL_law_1921 rfl rfl (Nat.le_of_ble_eq_true rfl) ⟨Nat.le_of_ble_eq_true rfl, Nat.le_of_ble_eq_true rfl⟩ ⟨(show cs28 + 1 ≤ (625622 : Nat) from by omega), (show sl28 + 6 ≤ (7225229 : Nat) from by omega)⟩ ?_
  rcases o5 with ⟨x3 | E6, S4⟩
  · refine xk_i ?_
    replace h := bk_l h
    refine x_widen (ce' := cs28 + 1) (sl' := sl28 + 6) (Nat.le_refl _) (Nat.le_refl _) ?_
    refine x_istore (pc := 1924) hC dL_law_1924 (by decide) (by decide) rfl ?_
    refine x_aload_n (pc := 1926) hC 2 dL_law_1926 rfl rfl ?_
    obtain ⟨g8, h⟩ := gd_some h
    refine x_sldk (pc := 1927) (v := (1 : Int32)) hC hX 5 dL_law_1927 dL_law_1928 rfl dL_law_1930 (by decide) dL_law_1931 g8 dL_law_1932 (fun x7 hx7 => ?_)
    replace h := lt_x hx7 h
    obtain ⟨g9, h⟩ := gd_some h
    obtain ⟨o12, ho12, h⟩ := bd_some h
    refine x_callV (pc := 1933) (As := [.int x7]) (rest := []) hC hl (c_X13_setCross l hls ho12) lk_RL_269 fc_19 g9 dL_law_1933 rfl rfl (Nat.le_of_ble_eq_true rfl) ⟨Nat.le_of_ble_eq_true rfl, Nat.le_of_ble_eq_true rfl⟩ ⟨(show cs28 + 1 ≤ (625622 : Nat) from by omega), (show sl28 + 6 ≤ (7225229 : Nat) from by omega)⟩ ?_
    rcases o12 with ⟨x10 | E13, S11⟩
    · refine xk_i ?_
      replace h := bk_l h
      refine x_widen (ce' := cs28 + 1) (sl' := sl28 + 6) (Nat.le_refl _) (Nat.le_refl _) ?_
      refine x_istore (pc := 1936) hC dL_law_1936 (by decide) (by decide) rfl ?_
      refine x_aload_n (pc := 1938) hC 3 dL_law_1938 rfl rfl ?_
      obtain ⟨g14, h⟩ := gd_some h
      obtain ⟨o17, ho17, h⟩ := bd_some h
      refine x_callV (pc := 1939) (As := []) (rest := []) hC hl (c_X13_thrown l hls ho17) lk_RL_193 fc_19 g14 dL_law_1939 rfl rfl (Nat.le_of_ble_eq_true rfl) ⟨Nat.le_of_ble_eq_true rfl, Nat.le_of_ble_eq_true rfl⟩ ⟨(show cs28 + 1 ≤ (625622 : Nat) from by omega), (show sl28 + 6 ≤ (7225229 : Nat) from by omega)⟩ ?_
      rcases o17 with ⟨x15 | E18, S16⟩
      · refine xk_i ?_
        replace h := bk_l h
        refine x_widen (ce' := cs28 + 1) (sl' := sl28 + 6) (Nat.le_refl _) (Nat.le_refl _) ?_
        refine x_iload (pc := 1942) hC 1 dL_law_1942 rfl ?_
        refine x_icmp_eq (pc := 1944) hC 1949 dL_law_1944 (by decide) (fun c27 => ?_) (fun c27 => ?_)
        · rw [if_pos c27] at h
          refine x_iload (pc := 1949) hC 1 dL_law_1949 rfl ?_
          refine x_if_ne (pc := 1951) hC 1966 dL_law_1951 (by decide) (fun c26 => ?_) (fun c26 => ?_)
          · rw [if_neg c26] at h
            refine x_pick [2, 3, 4, 5, 6] rfl ?_
            exact t_L_law_1966 hls hC hl hX (by omega) (by omega) hrc28 h
          · rw [if_pos c26] at h
            refine x_aload_n (pc := 1954) hC 4 dL_law_1954 rfl rfl ?_
            refine x_iconst (pc := 1955) (v := (0 : Int32)) hC dL_law_1955 (by decide) ?_
            obtain ⟨g21, h⟩ := gd_some h
            obtain ⟨g20, h⟩ := gd_some h
            refine x_laldv (pc := 1956) hC dL_law_1956 g21 g20 (fun x22 hx22 => ?_)
            replace h := lt_x hx22 h
            refine x_iload (pc := 1957) hC 0 dL_law_1957 rfl ?_
            refine x_i2lv (pc := 1959) hC dL_law_1959 (fun x23 hx23 => ?_)
            replace h := lt_x hx23 h
            refine x_lcmpv (pc := 1960) hC dL_law_1960 (fun x24 hx24 => ?_)
            replace h := lt_x hx24 h
            refine x_if_eq (pc := 1961) hC 1966 dL_law_1961 (by decide) (fun c25 => ?_) (fun c25 => ?_)
            · rw [if_pos c25] at h
              refine x_pick [2, 3, 4, 5, 6] rfl ?_
              exact t_L_law_1966 hls hC hl hX (by omega) (by omega) hrc28 h
            · rw [if_neg c25] at h
              refine x_iconst (pc := 1964) (v := (0 : Int32)) hC dL_law_1964 (by decide) ?_
              exact (law_no h).elim
        · rw [if_neg c27] at h
          refine x_iconst (pc := 1947) (v := (0 : Int32)) hC dL_law_1947 (by decide) ?_
          exact (law_no h).elim
      · exact absurd (congrArg Prod.fst (bk_r h)) (by intro q; cases q)
    · exact absurd (congrArg Prod.fst (bk_r h)) (by intro q; cases q)
  · exact absurd (congrArg Prod.fst (bk_r h)) (by intro q; cases q)
set_option maxHeartbeats 2000000 in
set_option maxRecDepth 100000 in
theorem t_L_law_2022 {l : Launch} (hls : l.stackTraces = false) {C : cT} (hC : CX C cL_law 9 yL_law rm_L_law) (hl : C.2.1 = l) {b L : Nat} {xs : Nat → Int32} (hX : LX C b L xs) {S9 : mS}  {cs28 sl28 : Nat} (hcs28 : cs28 ≤ 80538) (hsl28 : sl28 ≤ 327207) {rc28 : mS → Nat → Nat → Nat → Nat → Int32 → Option (Rs Int32)} (hrc28 : ∀ (S : mS) (a1 : Nat) (a2 : Nat) (a3 : Nat) (a4 : Nat) (a5 : Int32), rc28 S a1 a2 a3 a4 a5 = some ((.inl (1 : Int32), S9) : Rs Int32) → XX C 9 (LQ C b) (cs28 + 40021) (sl28 + 160086) S 28 [(1, .ref a1), (2, .ref a2), (3, .ref a3), (4, .ref a4), (5, .int a5)] []) {S : mS} {a1 : Nat} {a2 : Nat} {a3 : Nat} {a4 : Nat} {a5 : Int32} (h : f_L_law_2022 L xs rc28 S a1 a2 a3 a4 a5 = some ((.inl (1 : Int32), S9) : Rs Int32)) : XX C 9 (LQ C b) (cs28 + 1) (sl28 + 6) S 2022 [(1, .ref a1), (2, .ref a2), (3, .ref a3), (4, .ref a4), (5, .int a5)] [] := by
  unfold f_L_law_2022 at h
  refine x_goto (pc := 2022) hC 3632 dL_law_2022 (by decide) ?_
  refine x_pick [0, 1, 2, 3, 4] rfl ?_
  refine x_widen (ce' := cs28 + 40021) (sl' := sl28 + 160086) (by omega) (by omega) ?_
  exact t_L_law_3632 hls hC hl hX (by omega) (by omega) hrc28 h
set_option maxHeartbeats 2000000 in
set_option maxRecDepth 100000 in
theorem t_L_law_1969 {l : Launch} (hls : l.stackTraces = false) {C : cT} (hC : CX C cL_law 9 yL_law rm_L_law) (hl : C.2.1 = l) {b L : Nat} {xs : Nat → Int32} (hX : LX C b L xs) {S9 : mS}  {cs28 sl28 : Nat} (hcs28 : cs28 ≤ 80538) (hsl28 : sl28 ≤ 327207) {rc28 : mS → Nat → Nat → Nat → Nat → Int32 → Option (Rs Int32)} (hrc28 : ∀ (S : mS) (a1 : Nat) (a2 : Nat) (a3 : Nat) (a4 : Nat) (a5 : Int32), rc28 S a1 a2 a3 a4 a5 = some ((.inl (1 : Int32), S9) : Rs Int32) → XX C 9 (LQ C b) (cs28 + 40021) (sl28 + 160086) S 28 [(1, .ref a1), (2, .ref a2), (3, .ref a3), (4, .ref a4), (5, .int a5)] []) {S : mS} {a1 : Nat} {a2 : Nat} {a3 : Nat} {a4 : Nat} {a5 : Int32} (h : f_L_law_1969 L xs rc28 S a1 a2 a3 a4 a5 = some ((.inl (1 : Int32), S9) : Rs Int32)) : XX C 9 (LQ C b) (cs28) (sl28) S 1969 [(1, .ref a1), (2, .ref a2), (3, .ref a3), (4, .ref a4), (5, .int a5)] [] := by
  unfold f_L_law_1969 at h
  refine x_aload_n (pc := 1969) hC 0 dL_law_1969 rfl rfl ?_
  obtain ⟨g2, h⟩ := gd_some h
  refine x_sldk (pc := 1970) (v := (1 : Int32)) hC hX 4 dL_law_1970 dL_law_1971 rfl dL_law_1973 (by decide) dL_law_1974 g2 dL_law_1975 (fun x1 hx1 => ?_)
  replace h := lt_x hx1 h
  refine x_aload_n (pc := 1976) hC 2 dL_law_1976 rfl rfl ?_
  obtain ⟨o5, ho5, h⟩ := bd_some h
  refine x_callH (pc := 1977) (As := [.ref a1, .int x1, .ref a3]) (rest := []) hC hl (c_L_level l hls ho5) lk_RL_270 dL_law_1977 rfl rfl (Nat.le_of_ble_eq_true rfl) ⟨Nat.le_of_ble_eq_true rfl, Nat.le_of_ble_eq_true rfl⟩ ⟨(show cs28 + 1 ≤ (625622 : Nat) from by omega), (show sl28 + 6 ≤ (7225229 : Nat) from by omega)⟩ ?_
  rcases o5 with ⟨x3 | E6, S4⟩
  · refine xk_i ?_
    replace h := bk_l h
    refine x_widen (ce' := cs28 + 1) (sl' := sl28 + 6) (Nat.le_refl _) (Nat.le_refl _) ?_
    refine x_istore (pc := 1980) hC dL_law_1980 (by decide) (by decide) rfl ?_
    refine x_aload_n (pc := 1982) hC 2 dL_law_1982 rfl rfl ?_
    obtain ⟨g8, h⟩ := gd_some h
    refine x_sldk (pc := 1983) (v := (1 : Int32)) hC hX 5 dL_law_1983 dL_law_1984 rfl dL_law_1986 (by decide) dL_law_1987 g8 dL_law_1988 (fun x7 hx7 => ?_)
    replace h := lt_x hx7 h
    obtain ⟨g9, h⟩ := gd_some h
    obtain ⟨o12, ho12, h⟩ := bd_some h
    refine x_callV (pc := 1989) (As := [.int x7]) (rest := []) hC hl (c_X13_level l hls ho12) lk_RL_272 fc_19 g9 dL_law_1989 rfl rfl (Nat.le_of_ble_eq_true rfl) ⟨Nat.le_of_ble_eq_true rfl, Nat.le_of_ble_eq_true rfl⟩ ⟨(show cs28 + 1 ≤ (625622 : Nat) from by omega), (show sl28 + 6 ≤ (7225229 : Nat) from by omega)⟩ ?_
    rcases o12 with ⟨x10 | E13, S11⟩
    · refine xk_i ?_
      replace h := bk_l h
      refine x_widen (ce' := cs28 + 1) (sl' := sl28 + 6) (Nat.le_refl _) (Nat.le_refl _) ?_
      refine x_istore (pc := 1992) hC dL_law_1992 (by decide) (by decide) rfl ?_
      refine x_aload_n (pc := 1994) hC 3 dL_law_1994 rfl rfl ?_
      obtain ⟨g14, h⟩ := gd_some h
      obtain ⟨o17, ho17, h⟩ := bd_some h
      refine x_callV (pc := 1995) (As := []) (rest := []) hC hl (c_X13_thrown l hls ho17) lk_RL_193 fc_19 g14 dL_law_1995 rfl rfl (Nat.le_of_ble_eq_true rfl) ⟨Nat.le_of_ble_eq_true rfl, Nat.le_of_ble_eq_true rfl⟩ ⟨(show cs28 + 1 ≤ (625622 : Nat) from by omega), (show sl28 + 6 ≤ (7225229 : Nat) from by omega)⟩ ?_
      rcases o17 with ⟨x15 | E18, S16⟩
      · refine xk_i ?_
        replace h := bk_l h
        refine x_widen (ce' := cs28 + 1) (sl' := sl28 + 6) (Nat.le_refl _) (Nat.le_refl _) ?_
        refine x_iload (pc := 1998) hC 1 dL_law_1998 rfl ?_
        refine x_icmp_eq (pc := 2000) hC 2005 dL_law_2000 (by decide) (fun c27 => ?_) (fun c27 => ?_)
        · rw [if_pos c27] at h
          refine x_iload (pc := 2005) hC 1 dL_law_2005 rfl ?_
          refine x_if_ne (pc := 2007) hC 2022 dL_law_2007 (by decide) (fun c26 => ?_) (fun c26 => ?_)
          · rw [if_neg c26] at h
            refine x_pick [2, 3, 4, 5, 6] rfl ?_
            exact t_L_law_2022 hls hC hl hX (by omega) (by omega) hrc28 h
          · rw [if_pos c26] at h
            refine x_aload_n (pc := 2010) hC 4 dL_law_2010 rfl rfl ?_
            refine x_iconst (pc := 2011) (v := (0 : Int32)) hC dL_law_2011 (by decide) ?_
            obtain ⟨g21, h⟩ := gd_some h
            obtain ⟨g20, h⟩ := gd_some h
            refine x_laldv (pc := 2012) hC dL_law_2012 g21 g20 (fun x22 hx22 => ?_)
            replace h := lt_x hx22 h
            refine x_iload (pc := 2013) hC 0 dL_law_2013 rfl ?_
            refine x_i2lv (pc := 2015) hC dL_law_2015 (fun x23 hx23 => ?_)
            replace h := lt_x hx23 h
            refine x_lcmpv (pc := 2016) hC dL_law_2016 (fun x24 hx24 => ?_)
            replace h := lt_x hx24 h
            refine x_if_eq (pc := 2017) hC 2022 dL_law_2017 (by decide) (fun c25 => ?_) (fun c25 => ?_)
            · rw [if_pos c25] at h
              refine x_pick [2, 3, 4, 5, 6] rfl ?_
              exact t_L_law_2022 hls hC hl hX (by omega) (by omega) hrc28 h
            · rw [if_neg c25] at h
              refine x_iconst (pc := 2020) (v := (0 : Int32)) hC dL_law_2020 (by decide) ?_
              exact (law_no h).elim
        · rw [if_neg c27] at h
          refine x_iconst (pc := 2003) (v := (0 : Int32)) hC dL_law_2003 (by decide) ?_
          exact (law_no h).elim
      · exact absurd (congrArg Prod.fst (bk_r h)) (by intro q; cases q)
    · exact absurd (congrArg Prod.fst (bk_r h)) (by intro q; cases q)
  · exact absurd (congrArg Prod.fst (bk_r h)) (by intro q; cases q)
set_option maxHeartbeats 2000000 in
set_option maxRecDepth 100000 in
theorem t_L_law_2104 {l : Launch} (hls : l.stackTraces = false) {C : cT} (hC : CX C cL_law 9 yL_law rm_L_law) (hl : C.2.1 = l) {b L : Nat} {xs : Nat → Int32} (hX : LX C b L xs) {S9 : mS}  {cs28 sl28 : Nat} (hcs28 : cs28 ≤ 80538) (hsl28 : sl28 ≤ 327207) {rc28 : mS → Nat → Nat → Nat → Nat → Int32 → Option (Rs Int32)} (hrc28 : ∀ (S : mS) (a1 : Nat) (a2 : Nat) (a3 : Nat) (a4 : Nat) (a5 : Int32), rc28 S a1 a2 a3 a4 a5 = some ((.inl (1 : Int32), S9) : Rs Int32) → XX C 9 (LQ C b) (cs28 + 40021) (sl28 + 160086) S 28 [(1, .ref a1), (2, .ref a2), (3, .ref a3), (4, .ref a4), (5, .int a5)] []) {S : mS} {a1 : Nat} {a2 : Nat} {a3 : Nat} {a4 : Nat} {a5 : Int32} (h : f_L_law_2104 L xs rc28 S a1 a2 a3 a4 a5 = some ((.inl (1 : Int32), S9) : Rs Int32)) : XX C 9 (LQ C b) (cs28 + 6) (sl28 + 37) S 2104 [(1, .ref a1), (2, .ref a2), (3, .ref a3), (4, .ref a4), (5, .int a5)] [] := by
  unfold f_L_law_2104 at h
  refine x_goto (pc := 2104) hC 3632 dL_law_2104 (by decide) ?_
  refine x_pick [0, 1, 2, 3, 4] rfl ?_
  refine x_widen (ce' := cs28 + 40021) (sl' := sl28 + 160086) (by omega) (by omega) ?_
  exact t_L_law_3632 hls hC hl hX (by omega) (by omega) hrc28 h
set_option maxHeartbeats 2000000 in
set_option maxRecDepth 100000 in
theorem t_L_law_2025 {l : Launch} (hls : l.stackTraces = false) {C : cT} (hC : CX C cL_law 9 yL_law rm_L_law) (hl : C.2.1 = l) {b L : Nat} {xs : Nat → Int32} (hX : LX C b L xs) {S9 : mS}  {cs28 sl28 : Nat} (hcs28 : cs28 ≤ 80538) (hsl28 : sl28 ≤ 327207) {rc28 : mS → Nat → Nat → Nat → Nat → Int32 → Option (Rs Int32)} (hrc28 : ∀ (S : mS) (a1 : Nat) (a2 : Nat) (a3 : Nat) (a4 : Nat) (a5 : Int32), rc28 S a1 a2 a3 a4 a5 = some ((.inl (1 : Int32), S9) : Rs Int32) → XX C 9 (LQ C b) (cs28 + 40021) (sl28 + 160086) S 28 [(1, .ref a1), (2, .ref a2), (3, .ref a3), (4, .ref a4), (5, .int a5)] []) {S : mS} {a1 : Nat} {a2 : Nat} {a3 : Nat} {a4 : Nat} {a5 : Int32} (h : f_L_law_2025 L xs rc28 S a1 a2 a3 a4 a5 = some ((.inl (1 : Int32), S9) : Rs Int32)) : XX C 9 (LQ C b) (cs28) (sl28) S 2025 [(1, .ref a1), (2, .ref a2), (3, .ref a3), (4, .ref a4), (5, .int a5)] [] := by
  unfold f_L_law_2025 at h
  refine x_aload_n (pc := 2025) hC 0 dL_law_2025 rfl rfl ?_
  obtain ⟨g2, h⟩ := gd_some h
  refine x_sldk (pc := 2026) (v := (1 : Int32)) hC hX 4 dL_law_2026 dL_law_2027 rfl dL_law_2029 (by decide) dL_law_2030 g2 dL_law_2031 (fun x1 hx1 => ?_)
  replace h := lt_x hx1 h
  obtain ⟨g4, h⟩ := gd_some h
  refine x_sldk (pc := 2032) (v := (2 : Int32)) hC hX 4 dL_law_2032 dL_law_2033 rfl dL_law_2035 (by decide) dL_law_2036 g4 dL_law_2037 (fun x3 hx3 => ?_)
  replace h := lt_x hx3 h
  refine x_i2cv (pc := 2038) hC dL_law_2038 (fun x5 hx5 => ?_)
  replace h := lt_x hx5 h
  obtain ⟨g7, h⟩ := gd_some h
  refine x_sldk (pc := 2039) (v := (3 : Int32)) hC hX 4 dL_law_2039 dL_law_2040 rfl dL_law_2042 (by decide) dL_law_2043 g7 dL_law_2044 (fun x6 hx6 => ?_)
  replace h := lt_x hx6 h
  refine x_aload_n (pc := 2045) hC 2 dL_law_2045 rfl rfl ?_
  obtain ⟨o10, ho10, h⟩ := bd_some h
  refine x_callH (pc := 2046) (As := [.ref a1, .int x1, .int x5, .int x6, .ref a3]) (rest := []) hC hl (c_L_addEffect l hls ho10) lk_RL_273 dL_law_2046 rfl rfl (Nat.le_of_ble_eq_true rfl) ⟨Nat.le_of_ble_eq_true rfl, Nat.le_of_ble_eq_true rfl⟩ ⟨(show cs28 + 4 ≤ (625622 : Nat) from by omega), (show sl28 + 24 ≤ (7225229 : Nat) from by omega)⟩ ?_
  rcases o10 with ⟨x8 | E11, S9⟩
  · refine xk_i ?_
    replace h := bk_l h
    refine x_widen (ce' := cs28 + 4) (sl' := sl28 + 24) (Nat.le_refl _) (Nat.le_refl _) ?_
    refine x_istore (pc := 2049) hC dL_law_2049 (by decide) (by decide) rfl ?_
    refine x_aload_n (pc := 2051) hC 2 dL_law_2051 rfl rfl ?_
    obtain ⟨g13, h⟩ := gd_some h
    refine x_sldk (pc := 2052) (v := (1 : Int32)) hC hX 5 dL_law_2052 dL_law_2053 rfl dL_law_2055 (by decide) dL_law_2056 g13 dL_law_2057 (fun x12 hx12 => ?_)
    replace h := lt_x hx12 h
    obtain ⟨g15, h⟩ := gd_some h
    refine x_sldk (pc := 2058) (v := (2 : Int32)) hC hX 5 dL_law_2058 dL_law_2059 rfl dL_law_2061 (by decide) dL_law_2062 g15 dL_law_2063 (fun x14 hx14 => ?_)
    replace h := lt_x hx14 h
    refine x_i2cv (pc := 2064) hC dL_law_2064 (fun x16 hx16 => ?_)
    replace h := lt_x hx16 h
    obtain ⟨g18, h⟩ := gd_some h
    refine x_sldk (pc := 2065) (v := (3 : Int32)) hC hX 5 dL_law_2065 dL_law_2066 rfl dL_law_2068 (by decide) dL_law_2069 g18 dL_law_2070 (fun x17 hx17 => ?_)
    replace h := lt_x hx17 h
    obtain ⟨g19, h⟩ := gd_some h
    obtain ⟨o22, ho22, h⟩ := bd_some h
    refine x_callV (pc := 2071) (As := [.int x12, .int x16, .int x17]) (rest := []) hC hl (c2_X13_addEffect l hls ho22) lk_RL_276 fc_19 g19 dL_law_2071 rfl rfl (Nat.le_of_ble_eq_true rfl) ⟨Nat.le_of_ble_eq_true rfl, Nat.le_of_ble_eq_true rfl⟩ ⟨(show cs28 + 6 ≤ (625622 : Nat) from by omega), (show sl28 + 37 ≤ (7225229 : Nat) from by omega)⟩ ?_
    rcases o22 with ⟨x20 | E23, S21⟩
    · refine xk_i ?_
      replace h := bk_l h
      refine x_widen (ce' := cs28 + 6) (sl' := sl28 + 37) (Nat.le_refl _) (Nat.le_refl _) ?_
      refine x_istore (pc := 2074) hC dL_law_2074 (by decide) (by decide) rfl ?_
      refine x_aload_n (pc := 2076) hC 3 dL_law_2076 rfl rfl ?_
      obtain ⟨g24, h⟩ := gd_some h
      obtain ⟨o27, ho27, h⟩ := bd_some h
      refine x_callV (pc := 2077) (As := []) (rest := []) hC hl (c_X13_thrown l hls ho27) lk_RL_193 fc_19 g24 dL_law_2077 rfl rfl (Nat.le_of_ble_eq_true rfl) ⟨Nat.le_of_ble_eq_true rfl, Nat.le_of_ble_eq_true rfl⟩ ⟨(show cs28 + 6 ≤ (625622 : Nat) from by omega), (show sl28 + 37 ≤ (7225229 : Nat) from by omega)⟩ ?_
      rcases o27 with ⟨x25 | E28, S26⟩
      · refine xk_i ?_
        replace h := bk_l h
        refine x_widen (ce' := cs28 + 6) (sl' := sl28 + 37) (Nat.le_refl _) (Nat.le_refl _) ?_
        refine x_iload (pc := 2080) hC 1 dL_law_2080 rfl ?_
        refine x_icmp_eq (pc := 2082) hC 2087 dL_law_2082 (by decide) (fun c37 => ?_) (fun c37 => ?_)
        · rw [if_pos c37] at h
          refine x_iload (pc := 2087) hC 1 dL_law_2087 rfl ?_
          refine x_if_ne (pc := 2089) hC 2104 dL_law_2089 (by decide) (fun c36 => ?_) (fun c36 => ?_)
          · rw [if_neg c36] at h
            refine x_pick [2, 3, 4, 5, 6] rfl ?_
            exact t_L_law_2104 hls hC hl hX (by omega) (by omega) hrc28 h
          · rw [if_pos c36] at h
            refine x_aload_n (pc := 2092) hC 4 dL_law_2092 rfl rfl ?_
            refine x_iconst (pc := 2093) (v := (0 : Int32)) hC dL_law_2093 (by decide) ?_
            obtain ⟨g31, h⟩ := gd_some h
            obtain ⟨g30, h⟩ := gd_some h
            refine x_laldv (pc := 2094) hC dL_law_2094 g31 g30 (fun x32 hx32 => ?_)
            replace h := lt_x hx32 h
            refine x_iload (pc := 2095) hC 0 dL_law_2095 rfl ?_
            refine x_i2lv (pc := 2097) hC dL_law_2097 (fun x33 hx33 => ?_)
            replace h := lt_x hx33 h
            refine x_lcmpv (pc := 2098) hC dL_law_2098 (fun x34 hx34 => ?_)
            replace h := lt_x hx34 h
            refine x_if_eq (pc := 2099) hC 2104 dL_law_2099 (by decide) (fun c35 => ?_) (fun c35 => ?_)
            · rw [if_pos c35] at h
              refine x_pick [2, 3, 4, 5, 6] rfl ?_
              exact t_L_law_2104 hls hC hl hX (by omega) (by omega) hrc28 h
            · rw [if_neg c35] at h
              refine x_iconst (pc := 2102) (v := (0 : Int32)) hC dL_law_2102 (by decide) ?_
              exact (law_no h).elim
        · rw [if_neg c37] at h
          refine x_iconst (pc := 2085) (v := (0 : Int32)) hC dL_law_2085 (by decide) ?_
          exact (law_no h).elim
      · exact absurd (congrArg Prod.fst (bk_r h)) (by intro q; cases q)
    · exact absurd (congrArg Prod.fst (bk_r h)) (by intro q; cases q)
  · exact absurd (congrArg Prod.fst (bk_r h)) (by intro q; cases q)
set_option maxHeartbeats 2000000 in
set_option maxRecDepth 100000 in
theorem t_L_law_2160 {l : Launch} (hls : l.stackTraces = false) {C : cT} (hC : CX C cL_law 9 yL_law rm_L_law) (hl : C.2.1 = l) {b L : Nat} {xs : Nat → Int32} (hX : LX C b L xs) {S9 : mS}  {cs28 sl28 : Nat} (hcs28 : cs28 ≤ 80538) (hsl28 : sl28 ≤ 327207) {rc28 : mS → Nat → Nat → Nat → Nat → Int32 → Option (Rs Int32)} (hrc28 : ∀ (S : mS) (a1 : Nat) (a2 : Nat) (a3 : Nat) (a4 : Nat) (a5 : Int32), rc28 S a1 a2 a3 a4 a5 = some ((.inl (1 : Int32), S9) : Rs Int32) → XX C 9 (LQ C b) (cs28 + 40021) (sl28 + 160086) S 28 [(1, .ref a1), (2, .ref a2), (3, .ref a3), (4, .ref a4), (5, .int a5)] []) {S : mS} {a1 : Nat} {a2 : Nat} {a3 : Nat} {a4 : Nat} {a5 : Int32} (h : f_L_law_2160 L xs rc28 S a1 a2 a3 a4 a5 = some ((.inl (1 : Int32), S9) : Rs Int32)) : XX C 9 (LQ C b) (cs28 + 1) (sl28 + 6) S 2160 [(1, .ref a1), (2, .ref a2), (3, .ref a3), (4, .ref a4), (5, .int a5)] [] := by
  unfold f_L_law_2160 at h
  refine x_goto (pc := 2160) hC 3632 dL_law_2160 (by decide) ?_
  refine x_pick [0, 1, 2, 3, 4] rfl ?_
  refine x_widen (ce' := cs28 + 40021) (sl' := sl28 + 160086) (by omega) (by omega) ?_
  exact t_L_law_3632 hls hC hl hX (by omega) (by omega) hrc28 h
set_option maxHeartbeats 2000000 in
set_option maxRecDepth 100000 in
theorem t_L_law_2107 {l : Launch} (hls : l.stackTraces = false) {C : cT} (hC : CX C cL_law 9 yL_law rm_L_law) (hl : C.2.1 = l) {b L : Nat} {xs : Nat → Int32} (hX : LX C b L xs) {S9 : mS}  {cs28 sl28 : Nat} (hcs28 : cs28 ≤ 80538) (hsl28 : sl28 ≤ 327207) {rc28 : mS → Nat → Nat → Nat → Nat → Int32 → Option (Rs Int32)} (hrc28 : ∀ (S : mS) (a1 : Nat) (a2 : Nat) (a3 : Nat) (a4 : Nat) (a5 : Int32), rc28 S a1 a2 a3 a4 a5 = some ((.inl (1 : Int32), S9) : Rs Int32) → XX C 9 (LQ C b) (cs28 + 40021) (sl28 + 160086) S 28 [(1, .ref a1), (2, .ref a2), (3, .ref a3), (4, .ref a4), (5, .int a5)] []) {S : mS} {a1 : Nat} {a2 : Nat} {a3 : Nat} {a4 : Nat} {a5 : Int32} (h : f_L_law_2107 L xs rc28 S a1 a2 a3 a4 a5 = some ((.inl (1 : Int32), S9) : Rs Int32)) : XX C 9 (LQ C b) (cs28) (sl28) S 2107 [(1, .ref a1), (2, .ref a2), (3, .ref a3), (4, .ref a4), (5, .int a5)] [] := by
  unfold f_L_law_2107 at h
  refine x_aload_n (pc := 2107) hC 0 dL_law_2107 rfl rfl ?_
  obtain ⟨g2, h⟩ := gd_some h
  refine x_sldk (pc := 2108) (v := (1 : Int32)) hC hX 4 dL_law_2108 dL_law_2109 rfl dL_law_2111 (by decide) dL_law_2112 g2 dL_law_2113 (fun x1 hx1 => ?_)
  replace h := lt_x hx1 h
  refine x_aload_n (pc := 2114) hC 2 dL_law_2114 rfl rfl ?_
  obtain ⟨o5, ho5, h⟩ := bd_some h
  refine x_callH (pc := 2115) (As := [.ref a1, .int x1, .ref a3]) (rest := []) hC hl (c_L_dropEffects l hls ho5) lk_RL_277 dL_law_2115 rfl rfl (Nat.le_of_ble_eq_true rfl) ⟨Nat.le_of_ble_eq_true rfl, Nat.le_of_ble_eq_true rfl⟩ ⟨(show cs28 + 1 ≤ (625622 : Nat) from by omega), (show sl28 + 6 ≤ (7225229 : Nat) from by omega)⟩ ?_
  rcases o5 with ⟨x3 | E6, S4⟩
  · refine xk_i ?_
    replace h := bk_l h
    refine x_widen (ce' := cs28 + 1) (sl' := sl28 + 6) (Nat.le_refl _) (Nat.le_refl _) ?_
    refine x_istore (pc := 2118) hC dL_law_2118 (by decide) (by decide) rfl ?_
    refine x_aload_n (pc := 2120) hC 2 dL_law_2120 rfl rfl ?_
    obtain ⟨g8, h⟩ := gd_some h
    refine x_sldk (pc := 2121) (v := (1 : Int32)) hC hX 5 dL_law_2121 dL_law_2122 rfl dL_law_2124 (by decide) dL_law_2125 g8 dL_law_2126 (fun x7 hx7 => ?_)
    replace h := lt_x hx7 h
    obtain ⟨g9, h⟩ := gd_some h
    obtain ⟨o12, ho12, h⟩ := bd_some h
    refine x_callV (pc := 2127) (As := [.int x7]) (rest := []) hC hl (c_X13_dropEffects l hls ho12) lk_RL_279 fc_19 g9 dL_law_2127 rfl rfl (Nat.le_of_ble_eq_true rfl) ⟨Nat.le_of_ble_eq_true rfl, Nat.le_of_ble_eq_true rfl⟩ ⟨(show cs28 + 1 ≤ (625622 : Nat) from by omega), (show sl28 + 6 ≤ (7225229 : Nat) from by omega)⟩ ?_
    rcases o12 with ⟨x10 | E13, S11⟩
    · refine xk_i ?_
      replace h := bk_l h
      refine x_widen (ce' := cs28 + 1) (sl' := sl28 + 6) (Nat.le_refl _) (Nat.le_refl _) ?_
      refine x_istore (pc := 2130) hC dL_law_2130 (by decide) (by decide) rfl ?_
      refine x_aload_n (pc := 2132) hC 3 dL_law_2132 rfl rfl ?_
      obtain ⟨g14, h⟩ := gd_some h
      obtain ⟨o17, ho17, h⟩ := bd_some h
      refine x_callV (pc := 2133) (As := []) (rest := []) hC hl (c_X13_thrown l hls ho17) lk_RL_193 fc_19 g14 dL_law_2133 rfl rfl (Nat.le_of_ble_eq_true rfl) ⟨Nat.le_of_ble_eq_true rfl, Nat.le_of_ble_eq_true rfl⟩ ⟨(show cs28 + 1 ≤ (625622 : Nat) from by omega), (show sl28 + 6 ≤ (7225229 : Nat) from by omega)⟩ ?_
      rcases o17 with ⟨x15 | E18, S16⟩
      · refine xk_i ?_
        replace h := bk_l h
        refine x_widen (ce' := cs28 + 1) (sl' := sl28 + 6) (Nat.le_refl _) (Nat.le_refl _) ?_
        refine x_iload (pc := 2136) hC 1 dL_law_2136 rfl ?_
        refine x_icmp_eq (pc := 2138) hC 2143 dL_law_2138 (by decide) (fun c27 => ?_) (fun c27 => ?_)
        · rw [if_pos c27] at h
          refine x_iload (pc := 2143) hC 1 dL_law_2143 rfl ?_
          refine x_if_ne (pc := 2145) hC 2160 dL_law_2145 (by decide) (fun c26 => ?_) (fun c26 => ?_)
          · rw [if_neg c26] at h
            refine x_pick [2, 3, 4, 5, 6] rfl ?_
            exact t_L_law_2160 hls hC hl hX (by omega) (by omega) hrc28 h
          · rw [if_pos c26] at h
            refine x_aload_n (pc := 2148) hC 4 dL_law_2148 rfl rfl ?_
            refine x_iconst (pc := 2149) (v := (0 : Int32)) hC dL_law_2149 (by decide) ?_
            obtain ⟨g21, h⟩ := gd_some h
            obtain ⟨g20, h⟩ := gd_some h
            refine x_laldv (pc := 2150) hC dL_law_2150 g21 g20 (fun x22 hx22 => ?_)
            replace h := lt_x hx22 h
            refine x_iload (pc := 2151) hC 0 dL_law_2151 rfl ?_
            refine x_i2lv (pc := 2153) hC dL_law_2153 (fun x23 hx23 => ?_)
            replace h := lt_x hx23 h
            refine x_lcmpv (pc := 2154) hC dL_law_2154 (fun x24 hx24 => ?_)
            replace h := lt_x hx24 h
            refine x_if_eq (pc := 2155) hC 2160 dL_law_2155 (by decide) (fun c25 => ?_) (fun c25 => ?_)
            · rw [if_pos c25] at h
              refine x_pick [2, 3, 4, 5, 6] rfl ?_
              exact t_L_law_2160 hls hC hl hX (by omega) (by omega) hrc28 h
            · rw [if_neg c25] at h
              refine x_iconst (pc := 2158) (v := (0 : Int32)) hC dL_law_2158 (by decide) ?_
              exact (law_no h).elim
        · rw [if_neg c27] at h
          refine x_iconst (pc := 2141) (v := (0 : Int32)) hC dL_law_2141 (by decide) ?_
          exact (law_no h).elim
      · exact absurd (congrArg Prod.fst (bk_r h)) (by intro q; cases q)
    · exact absurd (congrArg Prod.fst (bk_r h)) (by intro q; cases q)
  · exact absurd (congrArg Prod.fst (bk_r h)) (by intro q; cases q)
set_option maxHeartbeats 2000000 in
set_option maxRecDepth 100000 in
theorem t_L_law_2228 {l : Launch} (hls : l.stackTraces = false) {C : cT} (hC : CX C cL_law 9 yL_law rm_L_law) (hl : C.2.1 = l) {b L : Nat} {xs : Nat → Int32} (hX : LX C b L xs) {S9 : mS}  {cs28 sl28 : Nat} (hcs28 : cs28 ≤ 80538) (hsl28 : sl28 ≤ 327207) {rc28 : mS → Nat → Nat → Nat → Nat → Int32 → Option (Rs Int32)} (hrc28 : ∀ (S : mS) (a1 : Nat) (a2 : Nat) (a3 : Nat) (a4 : Nat) (a5 : Int32), rc28 S a1 a2 a3 a4 a5 = some ((.inl (1 : Int32), S9) : Rs Int32) → XX C 9 (LQ C b) (cs28 + 40021) (sl28 + 160086) S 28 [(1, .ref a1), (2, .ref a2), (3, .ref a3), (4, .ref a4), (5, .int a5)] []) {S : mS} {a1 : Nat} {a2 : Nat} {a3 : Nat} {a4 : Nat} {a5 : Int32} (h : f_L_law_2228 L xs rc28 S a1 a2 a3 a4 a5 = some ((.inl (1 : Int32), S9) : Rs Int32)) : XX C 9 (LQ C b) (cs28 + 2) (sl28 + 12) S 2228 [(1, .ref a1), (2, .ref a2), (3, .ref a3), (4, .ref a4), (5, .int a5)] [] := by
  unfold f_L_law_2228 at h
  refine x_goto (pc := 2228) hC 3632 dL_law_2228 (by decide) ?_
  refine x_pick [0, 1, 2, 3, 4] rfl ?_
  refine x_widen (ce' := cs28 + 40021) (sl' := sl28 + 160086) (by omega) (by omega) ?_
  exact t_L_law_3632 hls hC hl hX (by omega) (by omega) hrc28 h
set_option maxHeartbeats 2000000 in
set_option maxRecDepth 100000 in
theorem t_L_law_2163 {l : Launch} (hls : l.stackTraces = false) {C : cT} (hC : CX C cL_law 9 yL_law rm_L_law) (hl : C.2.1 = l) {b L : Nat} {xs : Nat → Int32} (hX : LX C b L xs) {S9 : mS}  {cs28 sl28 : Nat} (hcs28 : cs28 ≤ 80538) (hsl28 : sl28 ≤ 327207) {rc28 : mS → Nat → Nat → Nat → Nat → Int32 → Option (Rs Int32)} (hrc28 : ∀ (S : mS) (a1 : Nat) (a2 : Nat) (a3 : Nat) (a4 : Nat) (a5 : Int32), rc28 S a1 a2 a3 a4 a5 = some ((.inl (1 : Int32), S9) : Rs Int32) → XX C 9 (LQ C b) (cs28 + 40021) (sl28 + 160086) S 28 [(1, .ref a1), (2, .ref a2), (3, .ref a3), (4, .ref a4), (5, .int a5)] []) {S : mS} {a1 : Nat} {a2 : Nat} {a3 : Nat} {a4 : Nat} {a5 : Int32} (h : f_L_law_2163 L xs rc28 S a1 a2 a3 a4 a5 = some ((.inl (1 : Int32), S9) : Rs Int32)) : XX C 9 (LQ C b) (cs28) (sl28) S 2163 [(1, .ref a1), (2, .ref a2), (3, .ref a3), (4, .ref a4), (5, .int a5)] [] := by
  unfold f_L_law_2163 at h
  refine x_aload_n (pc := 2163) hC 0 dL_law_2163 rfl rfl ?_
  obtain ⟨g2, h⟩ := gd_some h
  refine x_sldk (pc := 2164) (v := (1 : Int32)) hC hX 4 dL_law_2164 dL_law_2165 rfl dL_law_2167 (by decide) dL_law_2168 g2 dL_law_2169 (fun x1 hx1 => ?_)
  replace h := lt_x hx1 h
  obtain ⟨g4, h⟩ := gd_some h
  refine x_sldk (pc := 2170) (v := (2 : Int32)) hC hX 4 dL_law_2170 dL_law_2171 rfl dL_law_2173 (by decide) dL_law_2174 g4 dL_law_2175 (fun x3 hx3 => ?_)
  replace h := lt_x hx3 h
  refine x_aload_n (pc := 2176) hC 2 dL_law_2176 rfl rfl ?_
  obtain ⟨o7, ho7, h⟩ := bd_some h
  refine x_callH (pc := 2177) (As := [.ref a1, .int x1, .int x3, .ref a3]) (rest := []) hC hl (c_L_tail l hls ho7) lk_RL_280 dL_law_2177 rfl rfl (Nat.le_of_ble_eq_true rfl) ⟨Nat.le_of_ble_eq_true rfl, Nat.le_of_ble_eq_true rfl⟩ ⟨(show cs28 + 2 ≤ (625622 : Nat) from by omega), (show sl28 + 12 ≤ (7225229 : Nat) from by omega)⟩ ?_
  rcases o7 with ⟨x5 | E8, S6⟩
  · refine xk_i ?_
    replace h := bk_l h
    refine x_widen (ce' := cs28 + 2) (sl' := sl28 + 12) (Nat.le_refl _) (Nat.le_refl _) ?_
    refine x_istore (pc := 2180) hC dL_law_2180 (by decide) (by decide) rfl ?_
    refine x_aload_n (pc := 2182) hC 2 dL_law_2182 rfl rfl ?_
    obtain ⟨g10, h⟩ := gd_some h
    refine x_sldk (pc := 2183) (v := (1 : Int32)) hC hX 5 dL_law_2183 dL_law_2184 rfl dL_law_2186 (by decide) dL_law_2187 g10 dL_law_2188 (fun x9 hx9 => ?_)
    replace h := lt_x hx9 h
    obtain ⟨g12, h⟩ := gd_some h
    refine x_sldk (pc := 2189) (v := (2 : Int32)) hC hX 5 dL_law_2189 dL_law_2190 rfl dL_law_2192 (by decide) dL_law_2193 g12 dL_law_2194 (fun x11 hx11 => ?_)
    replace h := lt_x hx11 h
    obtain ⟨g13, h⟩ := gd_some h
    obtain ⟨o16, ho16, h⟩ := bd_some h
    refine x_callV (pc := 2195) (As := [.int x9, .int x11]) (rest := []) hC hl (c_X13_tail l hls ho16) lk_RL_282 fc_19 g13 dL_law_2195 rfl rfl (Nat.le_of_ble_eq_true rfl) ⟨Nat.le_of_ble_eq_true rfl, Nat.le_of_ble_eq_true rfl⟩ ⟨(show cs28 + 2 ≤ (625622 : Nat) from by omega), (show sl28 + 12 ≤ (7225229 : Nat) from by omega)⟩ ?_
    rcases o16 with ⟨x14 | E17, S15⟩
    · refine xk_i ?_
      replace h := bk_l h
      refine x_widen (ce' := cs28 + 2) (sl' := sl28 + 12) (Nat.le_refl _) (Nat.le_refl _) ?_
      refine x_istore (pc := 2198) hC dL_law_2198 (by decide) (by decide) rfl ?_
      refine x_aload_n (pc := 2200) hC 3 dL_law_2200 rfl rfl ?_
      obtain ⟨g18, h⟩ := gd_some h
      obtain ⟨o21, ho21, h⟩ := bd_some h
      refine x_callV (pc := 2201) (As := []) (rest := []) hC hl (c_X13_thrown l hls ho21) lk_RL_193 fc_19 g18 dL_law_2201 rfl rfl (Nat.le_of_ble_eq_true rfl) ⟨Nat.le_of_ble_eq_true rfl, Nat.le_of_ble_eq_true rfl⟩ ⟨(show cs28 + 2 ≤ (625622 : Nat) from by omega), (show sl28 + 12 ≤ (7225229 : Nat) from by omega)⟩ ?_
      rcases o21 with ⟨x19 | E22, S20⟩
      · refine xk_i ?_
        replace h := bk_l h
        refine x_widen (ce' := cs28 + 2) (sl' := sl28 + 12) (Nat.le_refl _) (Nat.le_refl _) ?_
        refine x_iload (pc := 2204) hC 1 dL_law_2204 rfl ?_
        refine x_icmp_eq (pc := 2206) hC 2211 dL_law_2206 (by decide) (fun c31 => ?_) (fun c31 => ?_)
        · rw [if_pos c31] at h
          refine x_iload (pc := 2211) hC 1 dL_law_2211 rfl ?_
          refine x_if_ne (pc := 2213) hC 2228 dL_law_2213 (by decide) (fun c30 => ?_) (fun c30 => ?_)
          · rw [if_neg c30] at h
            refine x_pick [2, 3, 4, 5, 6] rfl ?_
            exact t_L_law_2228 hls hC hl hX (by omega) (by omega) hrc28 h
          · rw [if_pos c30] at h
            refine x_aload_n (pc := 2216) hC 4 dL_law_2216 rfl rfl ?_
            refine x_iconst (pc := 2217) (v := (0 : Int32)) hC dL_law_2217 (by decide) ?_
            obtain ⟨g25, h⟩ := gd_some h
            obtain ⟨g24, h⟩ := gd_some h
            refine x_laldv (pc := 2218) hC dL_law_2218 g25 g24 (fun x26 hx26 => ?_)
            replace h := lt_x hx26 h
            refine x_iload (pc := 2219) hC 0 dL_law_2219 rfl ?_
            refine x_i2lv (pc := 2221) hC dL_law_2221 (fun x27 hx27 => ?_)
            replace h := lt_x hx27 h
            refine x_lcmpv (pc := 2222) hC dL_law_2222 (fun x28 hx28 => ?_)
            replace h := lt_x hx28 h
            refine x_if_eq (pc := 2223) hC 2228 dL_law_2223 (by decide) (fun c29 => ?_) (fun c29 => ?_)
            · rw [if_pos c29] at h
              refine x_pick [2, 3, 4, 5, 6] rfl ?_
              exact t_L_law_2228 hls hC hl hX (by omega) (by omega) hrc28 h
            · rw [if_neg c29] at h
              refine x_iconst (pc := 2226) (v := (0 : Int32)) hC dL_law_2226 (by decide) ?_
              exact (law_no h).elim
        · rw [if_neg c31] at h
          refine x_iconst (pc := 2209) (v := (0 : Int32)) hC dL_law_2209 (by decide) ?_
          exact (law_no h).elim
      · exact absurd (congrArg Prod.fst (bk_r h)) (by intro q; cases q)
    · exact absurd (congrArg Prod.fst (bk_r h)) (by intro q; cases q)
  · exact absurd (congrArg Prod.fst (bk_r h)) (by intro q; cases q)
set_option maxHeartbeats 2000000 in
set_option maxRecDepth 100000 in
theorem t_L_law_2284 {l : Launch} (hls : l.stackTraces = false) {C : cT} (hC : CX C cL_law 9 yL_law rm_L_law) (hl : C.2.1 = l) {b L : Nat} {xs : Nat → Int32} (hX : LX C b L xs) {S9 : mS}  {cs28 sl28 : Nat} (hcs28 : cs28 ≤ 80538) (hsl28 : sl28 ≤ 327207) {rc28 : mS → Nat → Nat → Nat → Nat → Int32 → Option (Rs Int32)} (hrc28 : ∀ (S : mS) (a1 : Nat) (a2 : Nat) (a3 : Nat) (a4 : Nat) (a5 : Int32), rc28 S a1 a2 a3 a4 a5 = some ((.inl (1 : Int32), S9) : Rs Int32) → XX C 9 (LQ C b) (cs28 + 40021) (sl28 + 160086) S 28 [(1, .ref a1), (2, .ref a2), (3, .ref a3), (4, .ref a4), (5, .int a5)] []) {S : mS} {a1 : Nat} {a2 : Nat} {a3 : Nat} {a4 : Nat} {a5 : Int32} (h : f_L_law_2284 L xs rc28 S a1 a2 a3 a4 a5 = some ((.inl (1 : Int32), S9) : Rs Int32)) : XX C 9 (LQ C b) (cs28 + 40021) (sl28 + 160086) S 2284 [(1, .ref a1), (2, .ref a2), (3, .ref a3), (4, .ref a4), (5, .int a5)] [] := by
  unfold f_L_law_2284 at h
  refine x_goto (pc := 2284) hC 3632 dL_law_2284 (by decide) ?_
  refine x_pick [0, 1, 2, 3, 4] rfl ?_
  exact t_L_law_3632 hls hC hl hX (by omega) (by omega) hrc28 h
set_option maxHeartbeats 2000000 in
set_option maxRecDepth 100000 in
theorem t_L_law_2231 {l : Launch} (hls : l.stackTraces = false) {C : cT} (hC : CX C cL_law 9 yL_law rm_L_law) (hl : C.2.1 = l) {b L : Nat} {xs : Nat → Int32} (hX : LX C b L xs) {S9 : mS}  {cs28 sl28 : Nat} (hcs28 : cs28 ≤ 80538) (hsl28 : sl28 ≤ 327207) {rc28 : mS → Nat → Nat → Nat → Nat → Int32 → Option (Rs Int32)} (hrc28 : ∀ (S : mS) (a1 : Nat) (a2 : Nat) (a3 : Nat) (a4 : Nat) (a5 : Int32), rc28 S a1 a2 a3 a4 a5 = some ((.inl (1 : Int32), S9) : Rs Int32) → XX C 9 (LQ C b) (cs28 + 40021) (sl28 + 160086) S 28 [(1, .ref a1), (2, .ref a2), (3, .ref a3), (4, .ref a4), (5, .int a5)] []) {S : mS} {a1 : Nat} {a2 : Nat} {a3 : Nat} {a4 : Nat} {a5 : Int32} (h : f_L_law_2231 L xs rc28 S a1 a2 a3 a4 a5 = some ((.inl (1 : Int32), S9) : Rs Int32)) : XX C 9 (LQ C b) (cs28) (sl28) S 2231 [(1, .ref a1), (2, .ref a2), (3, .ref a3), (4, .ref a4), (5, .int a5)] [] := by
  unfold f_L_law_2231 at h
  refine x_aload_n (pc := 2231) hC 0 dL_law_2231 rfl rfl ?_
  obtain ⟨g2, h⟩ := gd_some h
  refine x_sldk (pc := 2232) (v := (1 : Int32)) hC hX 4 dL_law_2232 dL_law_2233 rfl dL_law_2235 (by decide) dL_law_2236 g2 dL_law_2237 (fun x1 hx1 => ?_)
  replace h := lt_x hx1 h
  refine x_aload_n (pc := 2238) hC 2 dL_law_2238 rfl rfl ?_
  obtain ⟨o5, ho5, h⟩ := bd_some h
  refine x_callH (pc := 2239) (As := [.ref a1, .int x1, .ref a3]) (rest := []) hC hl (c_L_go l hls ho5) lk_RL_283 dL_law_2239 rfl rfl (Nat.le_of_ble_eq_true rfl) ⟨Nat.le_of_ble_eq_true rfl, Nat.le_of_ble_eq_true rfl⟩ ⟨(show cs28 + 1 ≤ (625622 : Nat) from by omega), (show sl28 + 6 ≤ (7225229 : Nat) from by omega)⟩ ?_
  rcases o5 with ⟨x3 | E6, S4⟩
  · refine xk_i ?_
    replace h := bk_l h
    refine x_widen (ce' := cs28 + 1) (sl' := sl28 + 6) (Nat.le_refl _) (Nat.le_refl _) ?_
    refine x_istore (pc := 2242) hC dL_law_2242 (by decide) (by decide) rfl ?_
    refine x_aload_n (pc := 2244) hC 2 dL_law_2244 rfl rfl ?_
    obtain ⟨g8, h⟩ := gd_some h
    refine x_sldk (pc := 2245) (v := (1 : Int32)) hC hX 5 dL_law_2245 dL_law_2246 rfl dL_law_2248 (by decide) dL_law_2249 g8 dL_law_2250 (fun x7 hx7 => ?_)
    replace h := lt_x hx7 h
    obtain ⟨g9, h⟩ := gd_some h
    obtain ⟨o12, ho12, h⟩ := bd_some h
    refine x_callV (pc := 2251) (As := [.int x7]) (rest := []) hC hl (c_X13_go l hls ho12) lk_RL_285 fc_19 g9 dL_law_2251 rfl rfl (Nat.le_of_ble_eq_true rfl) ⟨Nat.le_of_ble_eq_true rfl, Nat.le_of_ble_eq_true rfl⟩ ⟨(show cs28 + 40021 ≤ (625622 : Nat) from by omega), (show sl28 + 160086 ≤ (7225229 : Nat) from by omega)⟩ ?_
    rcases o12 with ⟨x10 | E13, S11⟩
    · refine xk_i ?_
      replace h := bk_l h
      refine x_widen (ce' := cs28 + 40021) (sl' := sl28 + 160086) (Nat.le_refl _) (Nat.le_refl _) ?_
      refine x_istore (pc := 2254) hC dL_law_2254 (by decide) (by decide) rfl ?_
      refine x_aload_n (pc := 2256) hC 3 dL_law_2256 rfl rfl ?_
      obtain ⟨g14, h⟩ := gd_some h
      obtain ⟨o17, ho17, h⟩ := bd_some h
      refine x_callV (pc := 2257) (As := []) (rest := []) hC hl (c_X13_thrown l hls ho17) lk_RL_193 fc_19 g14 dL_law_2257 rfl rfl (Nat.le_of_ble_eq_true rfl) ⟨Nat.le_of_ble_eq_true rfl, Nat.le_of_ble_eq_true rfl⟩ ⟨(show cs28 + 40021 ≤ (625622 : Nat) from by omega), (show sl28 + 160086 ≤ (7225229 : Nat) from by omega)⟩ ?_
      rcases o17 with ⟨x15 | E18, S16⟩
      · refine xk_i ?_
        replace h := bk_l h
        refine x_widen (ce' := cs28 + 40021) (sl' := sl28 + 160086) (Nat.le_refl _) (Nat.le_refl _) ?_
        refine x_iload (pc := 2260) hC 1 dL_law_2260 rfl ?_
        refine x_icmp_eq (pc := 2262) hC 2267 dL_law_2262 (by decide) (fun c27 => ?_) (fun c27 => ?_)
        · rw [if_pos c27] at h
          refine x_iload (pc := 2267) hC 1 dL_law_2267 rfl ?_
          refine x_if_ne (pc := 2269) hC 2284 dL_law_2269 (by decide) (fun c26 => ?_) (fun c26 => ?_)
          · rw [if_neg c26] at h
            refine x_pick [2, 3, 4, 5, 6] rfl ?_
            exact t_L_law_2284 hls hC hl hX (by omega) (by omega) hrc28 h
          · rw [if_pos c26] at h
            refine x_aload_n (pc := 2272) hC 4 dL_law_2272 rfl rfl ?_
            refine x_iconst (pc := 2273) (v := (0 : Int32)) hC dL_law_2273 (by decide) ?_
            obtain ⟨g21, h⟩ := gd_some h
            obtain ⟨g20, h⟩ := gd_some h
            refine x_laldv (pc := 2274) hC dL_law_2274 g21 g20 (fun x22 hx22 => ?_)
            replace h := lt_x hx22 h
            refine x_iload (pc := 2275) hC 0 dL_law_2275 rfl ?_
            refine x_i2lv (pc := 2277) hC dL_law_2277 (fun x23 hx23 => ?_)
            replace h := lt_x hx23 h
            refine x_lcmpv (pc := 2278) hC dL_law_2278 (fun x24 hx24 => ?_)
            replace h := lt_x hx24 h
            refine x_if_eq (pc := 2279) hC 2284 dL_law_2279 (by decide) (fun c25 => ?_) (fun c25 => ?_)
            · rw [if_pos c25] at h
              refine x_pick [2, 3, 4, 5, 6] rfl ?_
              exact t_L_law_2284 hls hC hl hX (by omega) (by omega) hrc28 h
            · rw [if_neg c25] at h
              refine x_iconst (pc := 2282) (v := (0 : Int32)) hC dL_law_2282 (by decide) ?_
              exact (law_no h).elim
        · rw [if_neg c27] at h
          refine x_iconst (pc := 2265) (v := (0 : Int32)) hC dL_law_2265 (by decide) ?_
          exact (law_no h).elim
      · exact absurd (congrArg Prod.fst (bk_r h)) (by intro q; cases q)
    · exact absurd (congrArg Prod.fst (bk_r h)) (by intro q; cases q)
  · exact absurd (congrArg Prod.fst (bk_r h)) (by intro q; cases q)
set_option maxHeartbeats 2000000 in
set_option maxRecDepth 100000 in
theorem t_L_law_2287 {l : Launch} (hls : l.stackTraces = false) {C : cT} (hC : CX C cL_law 9 yL_law rm_L_law) (hl : C.2.1 = l) {b L : Nat} {xs : Nat → Int32} (hX : LX C b L xs) {S9 : mS}  {cs28 sl28 : Nat} (hcs28 : cs28 ≤ 80538) (hsl28 : sl28 ≤ 327207) {rc28 : mS → Nat → Nat → Nat → Nat → Int32 → Option (Rs Int32)} (hrc28 : ∀ (S : mS) (a1 : Nat) (a2 : Nat) (a3 : Nat) (a4 : Nat) (a5 : Int32), rc28 S a1 a2 a3 a4 a5 = some ((.inl (1 : Int32), S9) : Rs Int32) → XX C 9 (LQ C b) (cs28 + 40021) (sl28 + 160086) S 28 [(1, .ref a1), (2, .ref a2), (3, .ref a3), (4, .ref a4), (5, .int a5)] []) {S : mS} {a1 : Nat} {a2 : Nat} {a3 : Nat} {a4 : Nat} {a5 : Int32} (h : f_L_law_2287 L xs rc28 S a1 a2 a3 a4 a5 = some ((.inl (1 : Int32), S9) : Rs Int32)) : XX C 9 (LQ C b) (cs28) (sl28) S 2287 [(1, .ref a1), (2, .ref a2), (3, .ref a3), (4, .ref a4), (5, .int a5)] [] := by
  unfold f_L_law_2287 at h
  refine x_aload_n (pc := 2287) hC 0 dL_law_2287 rfl rfl ?_
  obtain ⟨g1, h⟩ := gd_some h
  obtain ⟨o4, ho4, h⟩ := bd_some h
  refine x_callV (pc := 2288) (As := []) (rest := []) hC hl (c_X10_ticks l hls ho4) lk_RL_286 fc_16 g1 dL_law_2288 rfl rfl (Nat.le_of_ble_eq_true rfl) ⟨Nat.le_of_ble_eq_true rfl, Nat.le_of_ble_eq_true rfl⟩ ⟨(show cs28 ≤ (625622 : Nat) from by omega), (show sl28 ≤ (7225229 : Nat) from by omega)⟩ ?_
  rcases o4 with ⟨x2 | E5, S3⟩
  · refine xk_i ?_
    replace h := bk_l h
    refine x_widen (ce' := cs28) (sl' := sl28) (Nat.le_refl _) (Nat.le_refl _) ?_
    refine x_aload_n (pc := 2291) hC 1 dL_law_2291 rfl rfl ?_
    obtain ⟨g6, h⟩ := gd_some h
    obtain ⟨o9, ho9, h⟩ := bd_some h
    refine x_callV (pc := 2292) (As := []) (rest := [.int x2]) hC hl (c_X13_ticks l hls ho9) lk_RL_289 fc_19 g6 dL_law_2292 rfl rfl (Nat.le_of_ble_eq_true rfl) ⟨Nat.le_of_ble_eq_true rfl, Nat.le_of_ble_eq_true rfl⟩ ⟨(show cs28 ≤ (625622 : Nat) from by omega), (show sl28 ≤ (7225229 : Nat) from by omega)⟩ ?_
    rcases o9 with ⟨x7 | E10, S8⟩
    · refine xk_i ?_
      replace h := bk_l h
      refine x_widen (ce' := cs28) (sl' := sl28) (Nat.le_refl _) (Nat.le_refl _) ?_
      refine x_icmp_eq (pc := 2295) hC 3632 dL_law_2295 (by decide) (fun c11 => ?_) (fun c11 => ?_)
      · rw [if_pos c11] at h
        refine x_pick [0, 1, 2, 3, 4] rfl ?_
        refine x_widen (ce' := cs28 + 40021) (sl' := sl28 + 160086) (by omega) (by omega) ?_
        exact t_L_law_3632 hls hC hl hX (by omega) (by omega) hrc28 h
      · rw [if_neg c11] at h
        refine x_iconst (pc := 2298) (v := (0 : Int32)) hC dL_law_2298 (by decide) ?_
        exact (law_no h).elim
    · exact absurd (congrArg Prod.fst (bk_r h)) (by intro q; cases q)
  · exact absurd (congrArg Prod.fst (bk_r h)) (by intro q; cases q)
set_option maxHeartbeats 2000000 in
set_option maxRecDepth 100000 in
theorem t_L_law_2300 {l : Launch} (hls : l.stackTraces = false) {C : cT} (hC : CX C cL_law 9 yL_law rm_L_law) (hl : C.2.1 = l) {b L : Nat} {xs : Nat → Int32} (hX : LX C b L xs) {S9 : mS}  {cs28 sl28 : Nat} (hcs28 : cs28 ≤ 80538) (hsl28 : sl28 ≤ 327207) {rc28 : mS → Nat → Nat → Nat → Nat → Int32 → Option (Rs Int32)} (hrc28 : ∀ (S : mS) (a1 : Nat) (a2 : Nat) (a3 : Nat) (a4 : Nat) (a5 : Int32), rc28 S a1 a2 a3 a4 a5 = some ((.inl (1 : Int32), S9) : Rs Int32) → XX C 9 (LQ C b) (cs28 + 40021) (sl28 + 160086) S 28 [(1, .ref a1), (2, .ref a2), (3, .ref a3), (4, .ref a4), (5, .int a5)] []) {S : mS} {a1 : Nat} {a2 : Nat} {a3 : Nat} {a4 : Nat} {a5 : Int32} (h : f_L_law_2300 L xs rc28 S a1 a2 a3 a4 a5 = some ((.inl (1 : Int32), S9) : Rs Int32)) : XX C 9 (LQ C b) (cs28) (sl28) S 2300 [(1, .ref a1), (2, .ref a2), (3, .ref a3), (4, .ref a4), (5, .int a5)] [] := by
  unfold f_L_law_2300 at h
  refine x_aload_n (pc := 2300) hC 0 dL_law_2300 rfl rfl ?_
  obtain ⟨g1, h⟩ := gd_some h
  obtain ⟨o4, ho4, h⟩ := bd_some h
  refine x_callV (pc := 2301) (As := []) (rest := []) hC hl (c_X10_heard l hls ho4) lk_RL_290 fc_16 g1 dL_law_2301 rfl rfl (Nat.le_of_ble_eq_true rfl) ⟨Nat.le_of_ble_eq_true rfl, Nat.le_of_ble_eq_true rfl⟩ ⟨(show cs28 ≤ (625622 : Nat) from by omega), (show sl28 ≤ (7225229 : Nat) from by omega)⟩ ?_
  rcases o4 with ⟨x2 | E5, S3⟩
  · refine xk_i ?_
    replace h := bk_l h
    refine x_widen (ce' := cs28) (sl' := sl28) (Nat.le_refl _) (Nat.le_refl _) ?_
    refine x_aload_n (pc := 2304) hC 1 dL_law_2304 rfl rfl ?_
    obtain ⟨g6, h⟩ := gd_some h
    obtain ⟨o9, ho9, h⟩ := bd_some h
    refine x_callV (pc := 2305) (As := []) (rest := [.int x2]) hC hl (c_X13_heard l hls ho9) lk_RL_293 fc_19 g6 dL_law_2305 rfl rfl (Nat.le_of_ble_eq_true rfl) ⟨Nat.le_of_ble_eq_true rfl, Nat.le_of_ble_eq_true rfl⟩ ⟨(show cs28 ≤ (625622 : Nat) from by omega), (show sl28 ≤ (7225229 : Nat) from by omega)⟩ ?_
    rcases o9 with ⟨x7 | E10, S8⟩
    · refine xk_i ?_
      replace h := bk_l h
      refine x_widen (ce' := cs28) (sl' := sl28) (Nat.le_refl _) (Nat.le_refl _) ?_
      refine x_icmp_eq (pc := 2308) hC 3632 dL_law_2308 (by decide) (fun c11 => ?_) (fun c11 => ?_)
      · rw [if_pos c11] at h
        refine x_pick [0, 1, 2, 3, 4] rfl ?_
        refine x_widen (ce' := cs28 + 40021) (sl' := sl28 + 160086) (by omega) (by omega) ?_
        exact t_L_law_3632 hls hC hl hX (by omega) (by omega) hrc28 h
      · rw [if_neg c11] at h
        refine x_iconst (pc := 2311) (v := (0 : Int32)) hC dL_law_2311 (by decide) ?_
        exact (law_no h).elim
    · exact absurd (congrArg Prod.fst (bk_r h)) (by intro q; cases q)
  · exact absurd (congrArg Prod.fst (bk_r h)) (by intro q; cases q)
set_option maxHeartbeats 2000000 in
set_option maxRecDepth 100000 in
theorem t_L_law_2313 {l : Launch} (hls : l.stackTraces = false) {C : cT} (hC : CX C cL_law 9 yL_law rm_L_law) (hl : C.2.1 = l) {b L : Nat} {xs : Nat → Int32} (hX : LX C b L xs) {S9 : mS}  {cs28 sl28 : Nat} (hcs28 : cs28 ≤ 80538) (hsl28 : sl28 ≤ 327207) {rc28 : mS → Nat → Nat → Nat → Nat → Int32 → Option (Rs Int32)} (hrc28 : ∀ (S : mS) (a1 : Nat) (a2 : Nat) (a3 : Nat) (a4 : Nat) (a5 : Int32), rc28 S a1 a2 a3 a4 a5 = some ((.inl (1 : Int32), S9) : Rs Int32) → XX C 9 (LQ C b) (cs28 + 40021) (sl28 + 160086) S 28 [(1, .ref a1), (2, .ref a2), (3, .ref a3), (4, .ref a4), (5, .int a5)] []) {S : mS} {a1 : Nat} {a2 : Nat} {a3 : Nat} {a4 : Nat} {a5 : Int32} (h : f_L_law_2313 L xs rc28 S a1 a2 a3 a4 a5 = some ((.inl (1 : Int32), S9) : Rs Int32)) : XX C 9 (LQ C b) (cs28) (sl28) S 2313 [(1, .ref a1), (2, .ref a2), (3, .ref a3), (4, .ref a4), (5, .int a5)] [] := by
  unfold f_L_law_2313 at h
  refine x_aload_n (pc := 2313) hC 0 dL_law_2313 rfl rfl ?_
  obtain ⟨g1, h⟩ := gd_some h
  obtain ⟨o4, ho4, h⟩ := bd_some h
  refine x_callV (pc := 2314) (As := []) (rest := []) hC hl (c_X10_silence l hls ho4) lk_RL_294 fc_16 g1 dL_law_2314 rfl rfl (Nat.le_of_ble_eq_true rfl) ⟨Nat.le_of_ble_eq_true rfl, Nat.le_of_ble_eq_true rfl⟩ ⟨(show cs28 ≤ (625622 : Nat) from by omega), (show sl28 ≤ (7225229 : Nat) from by omega)⟩ ?_
  rcases o4 with ⟨x2 | E5, S3⟩
  · refine xk_i ?_
    replace h := bk_l h
    refine x_widen (ce' := cs28) (sl' := sl28) (Nat.le_refl _) (Nat.le_refl _) ?_
    refine x_aload_n (pc := 2317) hC 1 dL_law_2317 rfl rfl ?_
    obtain ⟨g6, h⟩ := gd_some h
    obtain ⟨o9, ho9, h⟩ := bd_some h
    refine x_callV (pc := 2318) (As := []) (rest := [.int x2]) hC hl (c_X13_silence l hls ho9) lk_RL_297 fc_19 g6 dL_law_2318 rfl rfl (Nat.le_of_ble_eq_true rfl) ⟨Nat.le_of_ble_eq_true rfl, Nat.le_of_ble_eq_true rfl⟩ ⟨(show cs28 ≤ (625622 : Nat) from by omega), (show sl28 ≤ (7225229 : Nat) from by omega)⟩ ?_
    rcases o9 with ⟨x7 | E10, S8⟩
    · refine xk_i ?_
      replace h := bk_l h
      refine x_widen (ce' := cs28) (sl' := sl28) (Nat.le_refl _) (Nat.le_refl _) ?_
      refine x_icmp_eq (pc := 2321) hC 3632 dL_law_2321 (by decide) (fun c11 => ?_) (fun c11 => ?_)
      · rw [if_pos c11] at h
        refine x_pick [0, 1, 2, 3, 4] rfl ?_
        refine x_widen (ce' := cs28 + 40021) (sl' := sl28 + 160086) (by omega) (by omega) ?_
        exact t_L_law_3632 hls hC hl hX (by omega) (by omega) hrc28 h
      · rw [if_neg c11] at h
        refine x_iconst (pc := 2324) (v := (0 : Int32)) hC dL_law_2324 (by decide) ?_
        exact (law_no h).elim
    · exact absurd (congrArg Prod.fst (bk_r h)) (by intro q; cases q)
  · exact absurd (congrArg Prod.fst (bk_r h)) (by intro q; cases q)
set_option maxHeartbeats 2000000 in
set_option maxRecDepth 100000 in
theorem t_L_law_2381 {l : Launch} (hls : l.stackTraces = false) {C : cT} (hC : CX C cL_law 9 yL_law rm_L_law) (hl : C.2.1 = l) {b L : Nat} {xs : Nat → Int32} (hX : LX C b L xs) {S9 : mS}  {cs28 sl28 : Nat} (hcs28 : cs28 ≤ 80538) (hsl28 : sl28 ≤ 327207) {rc28 : mS → Nat → Nat → Nat → Nat → Int32 → Option (Rs Int32)} (hrc28 : ∀ (S : mS) (a1 : Nat) (a2 : Nat) (a3 : Nat) (a4 : Nat) (a5 : Int32), rc28 S a1 a2 a3 a4 a5 = some ((.inl (1 : Int32), S9) : Rs Int32) → XX C 9 (LQ C b) (cs28 + 40021) (sl28 + 160086) S 28 [(1, .ref a1), (2, .ref a2), (3, .ref a3), (4, .ref a4), (5, .int a5)] []) {S : mS} {a1 : Nat} {a2 : Nat} {a3 : Nat} {a4 : Nat} {a5 : Int32} (h : f_L_law_2381 L xs rc28 S a1 a2 a3 a4 a5 = some ((.inl (1 : Int32), S9) : Rs Int32)) : XX C 9 (LQ C b) (cs28 + 1) (sl28 + 6) S 2381 [(1, .ref a1), (2, .ref a2), (3, .ref a3), (4, .ref a4), (5, .int a5)] [] := by
  unfold f_L_law_2381 at h
  refine x_goto (pc := 2381) hC 3632 dL_law_2381 (by decide) ?_
  refine x_pick [0, 1, 2, 3, 4] rfl ?_
  refine x_widen (ce' := cs28 + 40021) (sl' := sl28 + 160086) (by omega) (by omega) ?_
  exact t_L_law_3632 hls hC hl hX (by omega) (by omega) hrc28 h
set_option maxHeartbeats 2000000 in
set_option maxRecDepth 100000 in
theorem t_L_law_2326 {l : Launch} (hls : l.stackTraces = false) {C : cT} (hC : CX C cL_law 9 yL_law rm_L_law) (hl : C.2.1 = l) {b L : Nat} {xs : Nat → Int32} (hX : LX C b L xs) {S9 : mS}  {cs28 sl28 : Nat} (hcs28 : cs28 ≤ 80538) (hsl28 : sl28 ≤ 327207) {rc28 : mS → Nat → Nat → Nat → Nat → Int32 → Option (Rs Int32)} (hrc28 : ∀ (S : mS) (a1 : Nat) (a2 : Nat) (a3 : Nat) (a4 : Nat) (a5 : Int32), rc28 S a1 a2 a3 a4 a5 = some ((.inl (1 : Int32), S9) : Rs Int32) → XX C 9 (LQ C b) (cs28 + 40021) (sl28 + 160086) S 28 [(1, .ref a1), (2, .ref a2), (3, .ref a3), (4, .ref a4), (5, .int a5)] []) {S : mS} {a1 : Nat} {a2 : Nat} {a3 : Nat} {a4 : Nat} {a5 : Int32} (h : f_L_law_2326 L xs rc28 S a1 a2 a3 a4 a5 = some ((.inl (1 : Int32), S9) : Rs Int32)) : XX C 9 (LQ C b) (cs28) (sl28) S 2326 [(1, .ref a1), (2, .ref a2), (3, .ref a3), (4, .ref a4), (5, .int a5)] [] := by
  unfold f_L_law_2326 at h
  refine x_aload_n (pc := 2326) hC 0 dL_law_2326 rfl rfl ?_
  obtain ⟨g2, h⟩ := gd_some h
  refine x_sldk (pc := 2327) (v := (1 : Int32)) hC hX 4 dL_law_2327 dL_law_2328 rfl dL_law_2330 (by decide) dL_law_2331 g2 dL_law_2332 (fun x1 hx1 => ?_)
  replace h := lt_x hx1 h
  refine x_i2cv (pc := 2333) hC dL_law_2333 (fun x3 hx3 => ?_)
  replace h := lt_x hx3 h
  refine x_aload_n (pc := 2334) hC 2 dL_law_2334 rfl rfl ?_
  obtain ⟨o6, ho6, h⟩ := bd_some h
  refine x_callH (pc := 2335) (As := [.ref a1, .int x3, .ref a3]) (rest := []) hC hl (c_L_clashes l hls ho6) lk_RL_298 dL_law_2335 rfl rfl (Nat.le_of_ble_eq_true rfl) ⟨Nat.le_of_ble_eq_true rfl, Nat.le_of_ble_eq_true rfl⟩ ⟨(show cs28 + 1 ≤ (625622 : Nat) from by omega), (show sl28 + 6 ≤ (7225229 : Nat) from by omega)⟩ ?_
  rcases o6 with ⟨x4 | E7, S5⟩
  · refine xk_i ?_
    replace h := bk_l h
    refine x_widen (ce' := cs28 + 1) (sl' := sl28 + 6) (Nat.le_refl _) (Nat.le_refl _) ?_
    refine x_istore (pc := 2338) hC dL_law_2338 (by decide) (by decide) rfl ?_
    refine x_aload_n (pc := 2340) hC 2 dL_law_2340 rfl rfl ?_
    obtain ⟨g9, h⟩ := gd_some h
    refine x_sldk (pc := 2341) (v := (1 : Int32)) hC hX 5 dL_law_2341 dL_law_2342 rfl dL_law_2344 (by decide) dL_law_2345 g9 dL_law_2346 (fun x8 hx8 => ?_)
    replace h := lt_x hx8 h
    refine x_i2cv (pc := 2347) hC dL_law_2347 (fun x10 hx10 => ?_)
    replace h := lt_x hx10 h
    obtain ⟨g11, h⟩ := gd_some h
    obtain ⟨o14, ho14, h⟩ := bd_some h
    refine x_callV (pc := 2348) (As := [.int x10]) (rest := []) hC hl (c_X13_clashes l hls ho14) lk_RL_301 fc_19 g11 dL_law_2348 rfl rfl (Nat.le_of_ble_eq_true rfl) ⟨Nat.le_of_ble_eq_true rfl, Nat.le_of_ble_eq_true rfl⟩ ⟨(show cs28 + 1 ≤ (625622 : Nat) from by omega), (show sl28 + 6 ≤ (7225229 : Nat) from by omega)⟩ ?_
    rcases o14 with ⟨x12 | E15, S13⟩
    · refine xk_i ?_
      replace h := bk_l h
      refine x_widen (ce' := cs28 + 1) (sl' := sl28 + 6) (Nat.le_refl _) (Nat.le_refl _) ?_
      refine x_istore (pc := 2351) hC dL_law_2351 (by decide) (by decide) rfl ?_
      refine x_aload_n (pc := 2353) hC 3 dL_law_2353 rfl rfl ?_
      obtain ⟨g16, h⟩ := gd_some h
      obtain ⟨o19, ho19, h⟩ := bd_some h
      refine x_callV (pc := 2354) (As := []) (rest := []) hC hl (c_X13_thrown l hls ho19) lk_RL_193 fc_19 g16 dL_law_2354 rfl rfl (Nat.le_of_ble_eq_true rfl) ⟨Nat.le_of_ble_eq_true rfl, Nat.le_of_ble_eq_true rfl⟩ ⟨(show cs28 + 1 ≤ (625622 : Nat) from by omega), (show sl28 + 6 ≤ (7225229 : Nat) from by omega)⟩ ?_
      rcases o19 with ⟨x17 | E20, S18⟩
      · refine xk_i ?_
        replace h := bk_l h
        refine x_widen (ce' := cs28 + 1) (sl' := sl28 + 6) (Nat.le_refl _) (Nat.le_refl _) ?_
        refine x_iload (pc := 2357) hC 1 dL_law_2357 rfl ?_
        refine x_icmp_eq (pc := 2359) hC 2364 dL_law_2359 (by decide) (fun c29 => ?_) (fun c29 => ?_)
        · rw [if_pos c29] at h
          refine x_iload (pc := 2364) hC 1 dL_law_2364 rfl ?_
          refine x_if_ne (pc := 2366) hC 2381 dL_law_2366 (by decide) (fun c28 => ?_) (fun c28 => ?_)
          · rw [if_neg c28] at h
            refine x_pick [2, 3, 4, 5, 6] rfl ?_
            exact t_L_law_2381 hls hC hl hX (by omega) (by omega) hrc28 h
          · rw [if_pos c28] at h
            refine x_aload_n (pc := 2369) hC 4 dL_law_2369 rfl rfl ?_
            refine x_iconst (pc := 2370) (v := (0 : Int32)) hC dL_law_2370 (by decide) ?_
            obtain ⟨g23, h⟩ := gd_some h
            obtain ⟨g22, h⟩ := gd_some h
            refine x_laldv (pc := 2371) hC dL_law_2371 g23 g22 (fun x24 hx24 => ?_)
            replace h := lt_x hx24 h
            refine x_iload (pc := 2372) hC 0 dL_law_2372 rfl ?_
            refine x_i2lv (pc := 2374) hC dL_law_2374 (fun x25 hx25 => ?_)
            replace h := lt_x hx25 h
            refine x_lcmpv (pc := 2375) hC dL_law_2375 (fun x26 hx26 => ?_)
            replace h := lt_x hx26 h
            refine x_if_eq (pc := 2376) hC 2381 dL_law_2376 (by decide) (fun c27 => ?_) (fun c27 => ?_)
            · rw [if_pos c27] at h
              refine x_pick [2, 3, 4, 5, 6] rfl ?_
              exact t_L_law_2381 hls hC hl hX (by omega) (by omega) hrc28 h
            · rw [if_neg c27] at h
              refine x_iconst (pc := 2379) (v := (0 : Int32)) hC dL_law_2379 (by decide) ?_
              exact (law_no h).elim
        · rw [if_neg c29] at h
          refine x_iconst (pc := 2362) (v := (0 : Int32)) hC dL_law_2362 (by decide) ?_
          exact (law_no h).elim
      · exact absurd (congrArg Prod.fst (bk_r h)) (by intro q; cases q)
    · exact absurd (congrArg Prod.fst (bk_r h)) (by intro q; cases q)
  · exact absurd (congrArg Prod.fst (bk_r h)) (by intro q; cases q)
set_option maxHeartbeats 2000000 in
set_option maxRecDepth 100000 in
theorem t_L_law_2449 {l : Launch} (hls : l.stackTraces = false) {C : cT} (hC : CX C cL_law 9 yL_law rm_L_law) (hl : C.2.1 = l) {b L : Nat} {xs : Nat → Int32} (hX : LX C b L xs) {S9 : mS}  {cs28 sl28 : Nat} (hcs28 : cs28 ≤ 80538) (hsl28 : sl28 ≤ 327207) {rc28 : mS → Nat → Nat → Nat → Nat → Int32 → Option (Rs Int32)} (hrc28 : ∀ (S : mS) (a1 : Nat) (a2 : Nat) (a3 : Nat) (a4 : Nat) (a5 : Int32), rc28 S a1 a2 a3 a4 a5 = some ((.inl (1 : Int32), S9) : Rs Int32) → XX C 9 (LQ C b) (cs28 + 40021) (sl28 + 160086) S 28 [(1, .ref a1), (2, .ref a2), (3, .ref a3), (4, .ref a4), (5, .int a5)] []) {S : mS} {a1 : Nat} {a2 : Nat} {a3 : Nat} {a4 : Nat} {a5 : Int32} (h : f_L_law_2449 L xs rc28 S a1 a2 a3 a4 a5 = some ((.inl (1 : Int32), S9) : Rs Int32)) : XX C 9 (LQ C b) (cs28 + 4) (sl28 + 24) S 2449 [(1, .ref a1), (2, .ref a2), (3, .ref a3), (4, .ref a4), (5, .int a5)] [] := by
  unfold f_L_law_2449 at h
  refine x_goto (pc := 2449) hC 3632 dL_law_2449 (by decide) ?_
  refine x_pick [0, 1, 2, 3, 4] rfl ?_
  refine x_widen (ce' := cs28 + 40021) (sl' := sl28 + 160086) (by omega) (by omega) ?_
  exact t_L_law_3632 hls hC hl hX (by omega) (by omega) hrc28 h
set_option maxHeartbeats 2000000 in
set_option maxRecDepth 100000 in
theorem t_L_law_2384 {l : Launch} (hls : l.stackTraces = false) {C : cT} (hC : CX C cL_law 9 yL_law rm_L_law) (hl : C.2.1 = l) {b L : Nat} {xs : Nat → Int32} (hX : LX C b L xs) {S9 : mS}  {cs28 sl28 : Nat} (hcs28 : cs28 ≤ 80538) (hsl28 : sl28 ≤ 327207) {rc28 : mS → Nat → Nat → Nat → Nat → Int32 → Option (Rs Int32)} (hrc28 : ∀ (S : mS) (a1 : Nat) (a2 : Nat) (a3 : Nat) (a4 : Nat) (a5 : Int32), rc28 S a1 a2 a3 a4 a5 = some ((.inl (1 : Int32), S9) : Rs Int32) → XX C 9 (LQ C b) (cs28 + 40021) (sl28 + 160086) S 28 [(1, .ref a1), (2, .ref a2), (3, .ref a3), (4, .ref a4), (5, .int a5)] []) {S : mS} {a1 : Nat} {a2 : Nat} {a3 : Nat} {a4 : Nat} {a5 : Int32} (h : f_L_law_2384 L xs rc28 S a1 a2 a3 a4 a5 = some ((.inl (1 : Int32), S9) : Rs Int32)) : XX C 9 (LQ C b) (cs28) (sl28) S 2384 [(1, .ref a1), (2, .ref a2), (3, .ref a3), (4, .ref a4), (5, .int a5)] [] := by
  unfold f_L_law_2384 at h
  refine x_aload_n (pc := 2384) hC 0 dL_law_2384 rfl rfl ?_
  obtain ⟨g2, h⟩ := gd_some h
  refine x_sldk (pc := 2385) (v := (1 : Int32)) hC hX 4 dL_law_2385 dL_law_2386 rfl dL_law_2388 (by decide) dL_law_2389 g2 dL_law_2390 (fun x1 hx1 => ?_)
  replace h := lt_x hx1 h
  obtain ⟨g4, h⟩ := gd_some h
  refine x_sldk (pc := 2391) (v := (2 : Int32)) hC hX 4 dL_law_2391 dL_law_2392 rfl dL_law_2394 (by decide) dL_law_2395 g4 dL_law_2396 (fun x3 hx3 => ?_)
  replace h := lt_x hx3 h
  refine x_aload_n (pc := 2397) hC 2 dL_law_2397 rfl rfl ?_
  obtain ⟨o7, ho7, h⟩ := bd_some h
  refine x_callH (pc := 2398) (As := [.ref a1, .int x1, .int x3, .ref a3]) (rest := []) hC hl (c_L_between l hls ho7) lk_RL_302 dL_law_2398 rfl rfl (Nat.le_of_ble_eq_true rfl) ⟨Nat.le_of_ble_eq_true rfl, Nat.le_of_ble_eq_true rfl⟩ ⟨(show cs28 + 4 ≤ (625622 : Nat) from by omega), (show sl28 + 24 ≤ (7225229 : Nat) from by omega)⟩ ?_
  rcases o7 with ⟨x5 | E8, S6⟩
  · refine xk_i ?_
    replace h := bk_l h
    refine x_widen (ce' := cs28 + 4) (sl' := sl28 + 24) (Nat.le_refl _) (Nat.le_refl _) ?_
    refine x_istore (pc := 2401) hC dL_law_2401 (by decide) (by decide) rfl ?_
    refine x_aload_n (pc := 2403) hC 2 dL_law_2403 rfl rfl ?_
    obtain ⟨g10, h⟩ := gd_some h
    refine x_sldk (pc := 2404) (v := (1 : Int32)) hC hX 5 dL_law_2404 dL_law_2405 rfl dL_law_2407 (by decide) dL_law_2408 g10 dL_law_2409 (fun x9 hx9 => ?_)
    replace h := lt_x hx9 h
    obtain ⟨g12, h⟩ := gd_some h
    refine x_sldk (pc := 2410) (v := (2 : Int32)) hC hX 5 dL_law_2410 dL_law_2411 rfl dL_law_2413 (by decide) dL_law_2414 g12 dL_law_2415 (fun x11 hx11 => ?_)
    replace h := lt_x hx11 h
    obtain ⟨g13, h⟩ := gd_some h
    obtain ⟨o16, ho16, h⟩ := bd_some h
    refine x_callV (pc := 2416) (As := [.int x9, .int x11]) (rest := []) hC hl (c_X13_between l hls ho16) lk_RL_304 fc_19 g13 dL_law_2416 rfl rfl (Nat.le_of_ble_eq_true rfl) ⟨Nat.le_of_ble_eq_true rfl, Nat.le_of_ble_eq_true rfl⟩ ⟨(show cs28 + 4 ≤ (625622 : Nat) from by omega), (show sl28 + 24 ≤ (7225229 : Nat) from by omega)⟩ ?_
    rcases o16 with ⟨x14 | E17, S15⟩
    · refine xk_i ?_
      replace h := bk_l h
      refine x_widen (ce' := cs28 + 4) (sl' := sl28 + 24) (Nat.le_refl _) (Nat.le_refl _) ?_
      refine x_istore (pc := 2419) hC dL_law_2419 (by decide) (by decide) rfl ?_
      refine x_aload_n (pc := 2421) hC 3 dL_law_2421 rfl rfl ?_
      obtain ⟨g18, h⟩ := gd_some h
      obtain ⟨o21, ho21, h⟩ := bd_some h
      refine x_callV (pc := 2422) (As := []) (rest := []) hC hl (c_X13_thrown l hls ho21) lk_RL_193 fc_19 g18 dL_law_2422 rfl rfl (Nat.le_of_ble_eq_true rfl) ⟨Nat.le_of_ble_eq_true rfl, Nat.le_of_ble_eq_true rfl⟩ ⟨(show cs28 + 4 ≤ (625622 : Nat) from by omega), (show sl28 + 24 ≤ (7225229 : Nat) from by omega)⟩ ?_
      rcases o21 with ⟨x19 | E22, S20⟩
      · refine xk_i ?_
        replace h := bk_l h
        refine x_widen (ce' := cs28 + 4) (sl' := sl28 + 24) (Nat.le_refl _) (Nat.le_refl _) ?_
        refine x_iload (pc := 2425) hC 1 dL_law_2425 rfl ?_
        refine x_icmp_eq (pc := 2427) hC 2432 dL_law_2427 (by decide) (fun c31 => ?_) (fun c31 => ?_)
        · rw [if_pos c31] at h
          refine x_iload (pc := 2432) hC 1 dL_law_2432 rfl ?_
          refine x_if_ne (pc := 2434) hC 2449 dL_law_2434 (by decide) (fun c30 => ?_) (fun c30 => ?_)
          · rw [if_neg c30] at h
            refine x_pick [2, 3, 4, 5, 6] rfl ?_
            exact t_L_law_2449 hls hC hl hX (by omega) (by omega) hrc28 h
          · rw [if_pos c30] at h
            refine x_aload_n (pc := 2437) hC 4 dL_law_2437 rfl rfl ?_
            refine x_iconst (pc := 2438) (v := (0 : Int32)) hC dL_law_2438 (by decide) ?_
            obtain ⟨g25, h⟩ := gd_some h
            obtain ⟨g24, h⟩ := gd_some h
            refine x_laldv (pc := 2439) hC dL_law_2439 g25 g24 (fun x26 hx26 => ?_)
            replace h := lt_x hx26 h
            refine x_iload (pc := 2440) hC 0 dL_law_2440 rfl ?_
            refine x_i2lv (pc := 2442) hC dL_law_2442 (fun x27 hx27 => ?_)
            replace h := lt_x hx27 h
            refine x_lcmpv (pc := 2443) hC dL_law_2443 (fun x28 hx28 => ?_)
            replace h := lt_x hx28 h
            refine x_if_eq (pc := 2444) hC 2449 dL_law_2444 (by decide) (fun c29 => ?_) (fun c29 => ?_)
            · rw [if_pos c29] at h
              refine x_pick [2, 3, 4, 5, 6] rfl ?_
              exact t_L_law_2449 hls hC hl hX (by omega) (by omega) hrc28 h
            · rw [if_neg c29] at h
              refine x_iconst (pc := 2447) (v := (0 : Int32)) hC dL_law_2447 (by decide) ?_
              exact (law_no h).elim
        · rw [if_neg c31] at h
          refine x_iconst (pc := 2430) (v := (0 : Int32)) hC dL_law_2430 (by decide) ?_
          exact (law_no h).elim
      · exact absurd (congrArg Prod.fst (bk_r h)) (by intro q; cases q)
    · exact absurd (congrArg Prod.fst (bk_r h)) (by intro q; cases q)
  · exact absurd (congrArg Prod.fst (bk_r h)) (by intro q; cases q)
set_option maxHeartbeats 2000000 in
set_option maxRecDepth 100000 in
theorem t_L_law_2517 {l : Launch} (hls : l.stackTraces = false) {C : cT} (hC : CX C cL_law 9 yL_law rm_L_law) (hl : C.2.1 = l) {b L : Nat} {xs : Nat → Int32} (hX : LX C b L xs) {S9 : mS}  {cs28 sl28 : Nat} (hcs28 : cs28 ≤ 80538) (hsl28 : sl28 ≤ 327207) {rc28 : mS → Nat → Nat → Nat → Nat → Int32 → Option (Rs Int32)} (hrc28 : ∀ (S : mS) (a1 : Nat) (a2 : Nat) (a3 : Nat) (a4 : Nat) (a5 : Int32), rc28 S a1 a2 a3 a4 a5 = some ((.inl (1 : Int32), S9) : Rs Int32) → XX C 9 (LQ C b) (cs28 + 40021) (sl28 + 160086) S 28 [(1, .ref a1), (2, .ref a2), (3, .ref a3), (4, .ref a4), (5, .int a5)] []) {S : mS} {a1 : Nat} {a2 : Nat} {a3 : Nat} {a4 : Nat} {a5 : Int32} (h : f_L_law_2517 L xs rc28 S a1 a2 a3 a4 a5 = some ((.inl (1 : Int32), S9) : Rs Int32)) : XX C 9 (LQ C b) (cs28 + 5) (sl28 + 30) S 2517 [(1, .ref a1), (2, .ref a2), (3, .ref a3), (4, .ref a4), (5, .int a5)] [] := by
  unfold f_L_law_2517 at h
  refine x_goto (pc := 2517) hC 3632 dL_law_2517 (by decide) ?_
  refine x_pick [0, 1, 2, 3, 4] rfl ?_
  refine x_widen (ce' := cs28 + 40021) (sl' := sl28 + 160086) (by omega) (by omega) ?_
  exact t_L_law_3632 hls hC hl hX (by omega) (by omega) hrc28 h
set_option maxHeartbeats 2000000 in
set_option maxRecDepth 100000 in
theorem t_L_law_2452 {l : Launch} (hls : l.stackTraces = false) {C : cT} (hC : CX C cL_law 9 yL_law rm_L_law) (hl : C.2.1 = l) {b L : Nat} {xs : Nat → Int32} (hX : LX C b L xs) {S9 : mS}  {cs28 sl28 : Nat} (hcs28 : cs28 ≤ 80538) (hsl28 : sl28 ≤ 327207) {rc28 : mS → Nat → Nat → Nat → Nat → Int32 → Option (Rs Int32)} (hrc28 : ∀ (S : mS) (a1 : Nat) (a2 : Nat) (a3 : Nat) (a4 : Nat) (a5 : Int32), rc28 S a1 a2 a3 a4 a5 = some ((.inl (1 : Int32), S9) : Rs Int32) → XX C 9 (LQ C b) (cs28 + 40021) (sl28 + 160086) S 28 [(1, .ref a1), (2, .ref a2), (3, .ref a3), (4, .ref a4), (5, .int a5)] []) {S : mS} {a1 : Nat} {a2 : Nat} {a3 : Nat} {a4 : Nat} {a5 : Int32} (h : f_L_law_2452 L xs rc28 S a1 a2 a3 a4 a5 = some ((.inl (1 : Int32), S9) : Rs Int32)) : XX C 9 (LQ C b) (cs28) (sl28) S 2452 [(1, .ref a1), (2, .ref a2), (3, .ref a3), (4, .ref a4), (5, .int a5)] [] := by
  unfold f_L_law_2452 at h
  refine x_aload_n (pc := 2452) hC 0 dL_law_2452 rfl rfl ?_
  obtain ⟨g2, h⟩ := gd_some h
  refine x_sldk (pc := 2453) (v := (1 : Int32)) hC hX 4 dL_law_2453 dL_law_2454 rfl dL_law_2456 (by decide) dL_law_2457 g2 dL_law_2458 (fun x1 hx1 => ?_)
  replace h := lt_x hx1 h
  obtain ⟨g4, h⟩ := gd_some h
  refine x_sldk (pc := 2459) (v := (2 : Int32)) hC hX 4 dL_law_2459 dL_law_2460 rfl dL_law_2462 (by decide) dL_law_2463 g4 dL_law_2464 (fun x3 hx3 => ?_)
  replace h := lt_x hx3 h
  refine x_aload_n (pc := 2465) hC 2 dL_law_2465 rfl rfl ?_
  obtain ⟨o7, ho7, h⟩ := bd_some h
  refine x_callH (pc := 2466) (As := [.ref a1, .int x1, .int x3, .ref a3]) (rest := []) hC hl (c_L_sync l hls ho7) lk_RL_305 dL_law_2466 rfl rfl (Nat.le_of_ble_eq_true rfl) ⟨Nat.le_of_ble_eq_true rfl, Nat.le_of_ble_eq_true rfl⟩ ⟨(show cs28 + 5 ≤ (625622 : Nat) from by omega), (show sl28 + 30 ≤ (7225229 : Nat) from by omega)⟩ ?_
  rcases o7 with ⟨x5 | E8, S6⟩
  · refine xk_i ?_
    replace h := bk_l h
    refine x_widen (ce' := cs28 + 5) (sl' := sl28 + 30) (Nat.le_refl _) (Nat.le_refl _) ?_
    refine x_istore (pc := 2469) hC dL_law_2469 (by decide) (by decide) rfl ?_
    refine x_aload_n (pc := 2471) hC 2 dL_law_2471 rfl rfl ?_
    obtain ⟨g10, h⟩ := gd_some h
    refine x_sldk (pc := 2472) (v := (1 : Int32)) hC hX 5 dL_law_2472 dL_law_2473 rfl dL_law_2475 (by decide) dL_law_2476 g10 dL_law_2477 (fun x9 hx9 => ?_)
    replace h := lt_x hx9 h
    obtain ⟨g12, h⟩ := gd_some h
    refine x_sldk (pc := 2478) (v := (2 : Int32)) hC hX 5 dL_law_2478 dL_law_2479 rfl dL_law_2481 (by decide) dL_law_2482 g12 dL_law_2483 (fun x11 hx11 => ?_)
    replace h := lt_x hx11 h
    obtain ⟨g13, h⟩ := gd_some h
    obtain ⟨o16, ho16, h⟩ := bd_some h
    refine x_callV (pc := 2484) (As := [.int x9, .int x11]) (rest := []) hC hl (c_X13_sync l hls ho16) lk_RL_307 fc_19 g13 dL_law_2484 rfl rfl (Nat.le_of_ble_eq_true rfl) ⟨Nat.le_of_ble_eq_true rfl, Nat.le_of_ble_eq_true rfl⟩ ⟨(show cs28 + 5 ≤ (625622 : Nat) from by omega), (show sl28 + 30 ≤ (7225229 : Nat) from by omega)⟩ ?_
    rcases o16 with ⟨x14 | E17, S15⟩
    · refine xk_i ?_
      replace h := bk_l h
      refine x_widen (ce' := cs28 + 5) (sl' := sl28 + 30) (Nat.le_refl _) (Nat.le_refl _) ?_
      refine x_istore (pc := 2487) hC dL_law_2487 (by decide) (by decide) rfl ?_
      refine x_aload_n (pc := 2489) hC 3 dL_law_2489 rfl rfl ?_
      obtain ⟨g18, h⟩ := gd_some h
      obtain ⟨o21, ho21, h⟩ := bd_some h
      refine x_callV (pc := 2490) (As := []) (rest := []) hC hl (c_X13_thrown l hls ho21) lk_RL_193 fc_19 g18 dL_law_2490 rfl rfl (Nat.le_of_ble_eq_true rfl) ⟨Nat.le_of_ble_eq_true rfl, Nat.le_of_ble_eq_true rfl⟩ ⟨(show cs28 + 5 ≤ (625622 : Nat) from by omega), (show sl28 + 30 ≤ (7225229 : Nat) from by omega)⟩ ?_
      rcases o21 with ⟨x19 | E22, S20⟩
      · refine xk_i ?_
        replace h := bk_l h
        refine x_widen (ce' := cs28 + 5) (sl' := sl28 + 30) (Nat.le_refl _) (Nat.le_refl _) ?_
        refine x_iload (pc := 2493) hC 1 dL_law_2493 rfl ?_
        refine x_icmp_eq (pc := 2495) hC 2500 dL_law_2495 (by decide) (fun c31 => ?_) (fun c31 => ?_)
        · rw [if_pos c31] at h
          refine x_iload (pc := 2500) hC 1 dL_law_2500 rfl ?_
          refine x_if_ne (pc := 2502) hC 2517 dL_law_2502 (by decide) (fun c30 => ?_) (fun c30 => ?_)
          · rw [if_neg c30] at h
            refine x_pick [2, 3, 4, 5, 6] rfl ?_
            exact t_L_law_2517 hls hC hl hX (by omega) (by omega) hrc28 h
          · rw [if_pos c30] at h
            refine x_aload_n (pc := 2505) hC 4 dL_law_2505 rfl rfl ?_
            refine x_iconst (pc := 2506) (v := (0 : Int32)) hC dL_law_2506 (by decide) ?_
            obtain ⟨g25, h⟩ := gd_some h
            obtain ⟨g24, h⟩ := gd_some h
            refine x_laldv (pc := 2507) hC dL_law_2507 g25 g24 (fun x26 hx26 => ?_)
            replace h := lt_x hx26 h
            refine x_iload (pc := 2508) hC 0 dL_law_2508 rfl ?_
            refine x_i2lv (pc := 2510) hC dL_law_2510 (fun x27 hx27 => ?_)
            replace h := lt_x hx27 h
            refine x_lcmpv (pc := 2511) hC dL_law_2511 (fun x28 hx28 => ?_)
            replace h := lt_x hx28 h
            refine x_if_eq (pc := 2512) hC 2517 dL_law_2512 (by decide) (fun c29 => ?_) (fun c29 => ?_)
            · rw [if_pos c29] at h
              refine x_pick [2, 3, 4, 5, 6] rfl ?_
              exact t_L_law_2517 hls hC hl hX (by omega) (by omega) hrc28 h
            · rw [if_neg c29] at h
              refine x_iconst (pc := 2515) (v := (0 : Int32)) hC dL_law_2515 (by decide) ?_
              exact (law_no h).elim
        · rw [if_neg c31] at h
          refine x_iconst (pc := 2498) (v := (0 : Int32)) hC dL_law_2498 (by decide) ?_
          exact (law_no h).elim
      · exact absurd (congrArg Prod.fst (bk_r h)) (by intro q; cases q)
    · exact absurd (congrArg Prod.fst (bk_r h)) (by intro q; cases q)
  · exact absurd (congrArg Prod.fst (bk_r h)) (by intro q; cases q)
set_option maxHeartbeats 2000000 in
set_option maxRecDepth 100000 in
theorem t_L_law_2597 {l : Launch} (hls : l.stackTraces = false) {C : cT} (hC : CX C cL_law 9 yL_law rm_L_law) (hl : C.2.1 = l) {b L : Nat} {xs : Nat → Int32} (hX : LX C b L xs) {S9 : mS}  {cs28 sl28 : Nat} (hcs28 : cs28 ≤ 80538) (hsl28 : sl28 ≤ 327207) {rc28 : mS → Nat → Nat → Nat → Nat → Int32 → Option (Rs Int32)} (hrc28 : ∀ (S : mS) (a1 : Nat) (a2 : Nat) (a3 : Nat) (a4 : Nat) (a5 : Int32), rc28 S a1 a2 a3 a4 a5 = some ((.inl (1 : Int32), S9) : Rs Int32) → XX C 9 (LQ C b) (cs28 + 40021) (sl28 + 160086) S 28 [(1, .ref a1), (2, .ref a2), (3, .ref a3), (4, .ref a4), (5, .int a5)] []) {S : mS} {a1 : Nat} {a2 : Nat} {a3 : Nat} {a4 : Nat} {a5 : Int32} (h : f_L_law_2597 L xs rc28 S a1 a2 a3 a4 a5 = some ((.inl (1 : Int32), S9) : Rs Int32)) : XX C 9 (LQ C b) (cs28 + 6) (sl28 + 36) S 2597 [(1, .ref a1), (2, .ref a2), (3, .ref a3), (4, .ref a4), (5, .int a5)] [] := by
  unfold f_L_law_2597 at h
  refine x_goto (pc := 2597) hC 3632 dL_law_2597 (by decide) ?_
  refine x_pick [0, 1, 2, 3, 4] rfl ?_
  refine x_widen (ce' := cs28 + 40021) (sl' := sl28 + 160086) (by omega) (by omega) ?_
  exact t_L_law_3632 hls hC hl hX (by omega) (by omega) hrc28 h
set_option maxHeartbeats 2000000 in
set_option maxRecDepth 100000 in
theorem t_L_law_2520 {l : Launch} (hls : l.stackTraces = false) {C : cT} (hC : CX C cL_law 9 yL_law rm_L_law) (hl : C.2.1 = l) {b L : Nat} {xs : Nat → Int32} (hX : LX C b L xs) {S9 : mS}  {cs28 sl28 : Nat} (hcs28 : cs28 ≤ 80538) (hsl28 : sl28 ≤ 327207) {rc28 : mS → Nat → Nat → Nat → Nat → Int32 → Option (Rs Int32)} (hrc28 : ∀ (S : mS) (a1 : Nat) (a2 : Nat) (a3 : Nat) (a4 : Nat) (a5 : Int32), rc28 S a1 a2 a3 a4 a5 = some ((.inl (1 : Int32), S9) : Rs Int32) → XX C 9 (LQ C b) (cs28 + 40021) (sl28 + 160086) S 28 [(1, .ref a1), (2, .ref a2), (3, .ref a3), (4, .ref a4), (5, .int a5)] []) {S : mS} {a1 : Nat} {a2 : Nat} {a3 : Nat} {a4 : Nat} {a5 : Int32} (h : f_L_law_2520 L xs rc28 S a1 a2 a3 a4 a5 = some ((.inl (1 : Int32), S9) : Rs Int32)) : XX C 9 (LQ C b) (cs28) (sl28) S 2520 [(1, .ref a1), (2, .ref a2), (3, .ref a3), (4, .ref a4), (5, .int a5)] [] := by
  unfold f_L_law_2520 at h
  refine x_aload_n (pc := 2520) hC 0 dL_law_2520 rfl rfl ?_
  obtain ⟨g2, h⟩ := gd_some h
  refine x_sldk (pc := 2521) (v := (1 : Int32)) hC hX 4 dL_law_2521 dL_law_2522 rfl dL_law_2524 (by decide) dL_law_2525 g2 dL_law_2526 (fun x1 hx1 => ?_)
  replace h := lt_x hx1 h
  obtain ⟨g4, h⟩ := gd_some h
  refine x_sldk (pc := 2527) (v := (2 : Int32)) hC hX 4 dL_law_2527 dL_law_2528 rfl dL_law_2530 (by decide) dL_law_2531 g4 dL_law_2532 (fun x3 hx3 => ?_)
  replace h := lt_x hx3 h
  obtain ⟨g6, h⟩ := gd_some h
  refine x_sldk (pc := 2533) (v := (3 : Int32)) hC hX 4 dL_law_2533 dL_law_2534 rfl dL_law_2536 (by decide) dL_law_2537 g6 dL_law_2538 (fun x5 hx5 => ?_)
  replace h := lt_x hx5 h
  refine x_aload_n (pc := 2539) hC 2 dL_law_2539 rfl rfl ?_
  obtain ⟨o9, ho9, h⟩ := bd_some h
  refine x_callH (pc := 2540) (As := [.ref a1, .int x1, .int x3, .int x5, .ref a3]) (rest := []) hC hl (c_L_ear l hls ho9) lk_RL_308 dL_law_2540 rfl rfl (Nat.le_of_ble_eq_true rfl) ⟨Nat.le_of_ble_eq_true rfl, Nat.le_of_ble_eq_true rfl⟩ ⟨(show cs28 + 6 ≤ (625622 : Nat) from by omega), (show sl28 + 36 ≤ (7225229 : Nat) from by omega)⟩ ?_
  rcases o9 with ⟨x7 | E10, S8⟩
  · refine xk_i ?_
    replace h := bk_l h
    refine x_widen (ce' := cs28 + 6) (sl' := sl28 + 36) (Nat.le_refl _) (Nat.le_refl _) ?_
    refine x_istore (pc := 2543) hC dL_law_2543 (by decide) (by decide) rfl ?_
    refine x_aload_n (pc := 2545) hC 2 dL_law_2545 rfl rfl ?_
    obtain ⟨g12, h⟩ := gd_some h
    refine x_sldk (pc := 2546) (v := (1 : Int32)) hC hX 5 dL_law_2546 dL_law_2547 rfl dL_law_2549 (by decide) dL_law_2550 g12 dL_law_2551 (fun x11 hx11 => ?_)
    replace h := lt_x hx11 h
    obtain ⟨g14, h⟩ := gd_some h
    refine x_sldk (pc := 2552) (v := (2 : Int32)) hC hX 5 dL_law_2552 dL_law_2553 rfl dL_law_2555 (by decide) dL_law_2556 g14 dL_law_2557 (fun x13 hx13 => ?_)
    replace h := lt_x hx13 h
    obtain ⟨g16, h⟩ := gd_some h
    refine x_sldk (pc := 2558) (v := (3 : Int32)) hC hX 5 dL_law_2558 dL_law_2559 rfl dL_law_2561 (by decide) dL_law_2562 g16 dL_law_2563 (fun x15 hx15 => ?_)
    replace h := lt_x hx15 h
    obtain ⟨g17, h⟩ := gd_some h
    obtain ⟨o20, ho20, h⟩ := bd_some h
    refine x_callV (pc := 2564) (As := [.int x11, .int x13, .int x15]) (rest := []) hC hl (c_X13_ear l hls ho20) lk_RL_310 fc_19 g17 dL_law_2564 rfl rfl (Nat.le_of_ble_eq_true rfl) ⟨Nat.le_of_ble_eq_true rfl, Nat.le_of_ble_eq_true rfl⟩ ⟨(show cs28 + 6 ≤ (625622 : Nat) from by omega), (show sl28 + 36 ≤ (7225229 : Nat) from by omega)⟩ ?_
    rcases o20 with ⟨x18 | E21, S19⟩
    · refine xk_i ?_
      replace h := bk_l h
      refine x_widen (ce' := cs28 + 6) (sl' := sl28 + 36) (Nat.le_refl _) (Nat.le_refl _) ?_
      refine x_istore (pc := 2567) hC dL_law_2567 (by decide) (by decide) rfl ?_
      refine x_aload_n (pc := 2569) hC 3 dL_law_2569 rfl rfl ?_
      obtain ⟨g22, h⟩ := gd_some h
      obtain ⟨o25, ho25, h⟩ := bd_some h
      refine x_callV (pc := 2570) (As := []) (rest := []) hC hl (c_X13_thrown l hls ho25) lk_RL_193 fc_19 g22 dL_law_2570 rfl rfl (Nat.le_of_ble_eq_true rfl) ⟨Nat.le_of_ble_eq_true rfl, Nat.le_of_ble_eq_true rfl⟩ ⟨(show cs28 + 6 ≤ (625622 : Nat) from by omega), (show sl28 + 36 ≤ (7225229 : Nat) from by omega)⟩ ?_
      rcases o25 with ⟨x23 | E26, S24⟩
      · refine xk_i ?_
        replace h := bk_l h
        refine x_widen (ce' := cs28 + 6) (sl' := sl28 + 36) (Nat.le_refl _) (Nat.le_refl _) ?_
        refine x_iload (pc := 2573) hC 1 dL_law_2573 rfl ?_
        refine x_icmp_eq (pc := 2575) hC 2580 dL_law_2575 (by decide) (fun c35 => ?_) (fun c35 => ?_)
        · rw [if_pos c35] at h
          refine x_iload (pc := 2580) hC 1 dL_law_2580 rfl ?_
          refine x_if_ne (pc := 2582) hC 2597 dL_law_2582 (by decide) (fun c34 => ?_) (fun c34 => ?_)
          · rw [if_neg c34] at h
            refine x_pick [2, 3, 4, 5, 6] rfl ?_
            exact t_L_law_2597 hls hC hl hX (by omega) (by omega) hrc28 h
          · rw [if_pos c34] at h
            refine x_aload_n (pc := 2585) hC 4 dL_law_2585 rfl rfl ?_
            refine x_iconst (pc := 2586) (v := (0 : Int32)) hC dL_law_2586 (by decide) ?_
            obtain ⟨g29, h⟩ := gd_some h
            obtain ⟨g28, h⟩ := gd_some h
            refine x_laldv (pc := 2587) hC dL_law_2587 g29 g28 (fun x30 hx30 => ?_)
            replace h := lt_x hx30 h
            refine x_iload (pc := 2588) hC 0 dL_law_2588 rfl ?_
            refine x_i2lv (pc := 2590) hC dL_law_2590 (fun x31 hx31 => ?_)
            replace h := lt_x hx31 h
            refine x_lcmpv (pc := 2591) hC dL_law_2591 (fun x32 hx32 => ?_)
            replace h := lt_x hx32 h
            refine x_if_eq (pc := 2592) hC 2597 dL_law_2592 (by decide) (fun c33 => ?_) (fun c33 => ?_)
            · rw [if_pos c33] at h
              refine x_pick [2, 3, 4, 5, 6] rfl ?_
              exact t_L_law_2597 hls hC hl hX (by omega) (by omega) hrc28 h
            · rw [if_neg c33] at h
              refine x_iconst (pc := 2595) (v := (0 : Int32)) hC dL_law_2595 (by decide) ?_
              exact (law_no h).elim
        · rw [if_neg c35] at h
          refine x_iconst (pc := 2578) (v := (0 : Int32)) hC dL_law_2578 (by decide) ?_
          exact (law_no h).elim
      · exact absurd (congrArg Prod.fst (bk_r h)) (by intro q; cases q)
    · exact absurd (congrArg Prod.fst (bk_r h)) (by intro q; cases q)
  · exact absurd (congrArg Prod.fst (bk_r h)) (by intro q; cases q)
set_option maxHeartbeats 2000000 in
set_option maxRecDepth 100000 in
theorem t_L_law_2653 {l : Launch} (hls : l.stackTraces = false) {C : cT} (hC : CX C cL_law 9 yL_law rm_L_law) (hl : C.2.1 = l) {b L : Nat} {xs : Nat → Int32} (hX : LX C b L xs) {S9 : mS}  {cs28 sl28 : Nat} (hcs28 : cs28 ≤ 80538) (hsl28 : sl28 ≤ 327207) {rc28 : mS → Nat → Nat → Nat → Nat → Int32 → Option (Rs Int32)} (hrc28 : ∀ (S : mS) (a1 : Nat) (a2 : Nat) (a3 : Nat) (a4 : Nat) (a5 : Int32), rc28 S a1 a2 a3 a4 a5 = some ((.inl (1 : Int32), S9) : Rs Int32) → XX C 9 (LQ C b) (cs28 + 40021) (sl28 + 160086) S 28 [(1, .ref a1), (2, .ref a2), (3, .ref a3), (4, .ref a4), (5, .int a5)] []) {S : mS} {a1 : Nat} {a2 : Nat} {a3 : Nat} {a4 : Nat} {a5 : Int32} (h : f_L_law_2653 L xs rc28 S a1 a2 a3 a4 a5 = some ((.inl (1 : Int32), S9) : Rs Int32)) : XX C 9 (LQ C b) (cs28 + 1) (sl28 + 6) S 2653 [(1, .ref a1), (2, .ref a2), (3, .ref a3), (4, .ref a4), (5, .int a5)] [] := by
  unfold f_L_law_2653 at h
  refine x_goto (pc := 2653) hC 3632 dL_law_2653 (by decide) ?_
  refine x_pick [0, 1, 2, 3, 4] rfl ?_
  refine x_widen (ce' := cs28 + 40021) (sl' := sl28 + 160086) (by omega) (by omega) ?_
  exact t_L_law_3632 hls hC hl hX (by omega) (by omega) hrc28 h
set_option maxHeartbeats 2000000 in
set_option maxRecDepth 100000 in
theorem t_L_law_2600 {l : Launch} (hls : l.stackTraces = false) {C : cT} (hC : CX C cL_law 9 yL_law rm_L_law) (hl : C.2.1 = l) {b L : Nat} {xs : Nat → Int32} (hX : LX C b L xs) {S9 : mS}  {cs28 sl28 : Nat} (hcs28 : cs28 ≤ 80538) (hsl28 : sl28 ≤ 327207) {rc28 : mS → Nat → Nat → Nat → Nat → Int32 → Option (Rs Int32)} (hrc28 : ∀ (S : mS) (a1 : Nat) (a2 : Nat) (a3 : Nat) (a4 : Nat) (a5 : Int32), rc28 S a1 a2 a3 a4 a5 = some ((.inl (1 : Int32), S9) : Rs Int32) → XX C 9 (LQ C b) (cs28 + 40021) (sl28 + 160086) S 28 [(1, .ref a1), (2, .ref a2), (3, .ref a3), (4, .ref a4), (5, .int a5)] []) {S : mS} {a1 : Nat} {a2 : Nat} {a3 : Nat} {a4 : Nat} {a5 : Int32} (h : f_L_law_2600 L xs rc28 S a1 a2 a3 a4 a5 = some ((.inl (1 : Int32), S9) : Rs Int32)) : XX C 9 (LQ C b) (cs28) (sl28) S 2600 [(1, .ref a1), (2, .ref a2), (3, .ref a3), (4, .ref a4), (5, .int a5)] [] := by
  unfold f_L_law_2600 at h
  refine x_aload_n (pc := 2600) hC 0 dL_law_2600 rfl rfl ?_
  obtain ⟨g2, h⟩ := gd_some h
  refine x_sldk (pc := 2601) (v := (1 : Int32)) hC hX 4 dL_law_2601 dL_law_2602 rfl dL_law_2604 (by decide) dL_law_2605 g2 dL_law_2606 (fun x1 hx1 => ?_)
  replace h := lt_x hx1 h
  refine x_aload_n (pc := 2607) hC 2 dL_law_2607 rfl rfl ?_
  obtain ⟨o5, ho5, h⟩ := bd_some h
  refine x_callH (pc := 2608) (As := [.ref a1, .int x1, .ref a3]) (rest := []) hC hl (c_L_people l hls ho5) lk_RL_311 dL_law_2608 rfl rfl (Nat.le_of_ble_eq_true rfl) ⟨Nat.le_of_ble_eq_true rfl, Nat.le_of_ble_eq_true rfl⟩ ⟨(show cs28 + 1 ≤ (625622 : Nat) from by omega), (show sl28 + 6 ≤ (7225229 : Nat) from by omega)⟩ ?_
  rcases o5 with ⟨x3 | E6, S4⟩
  · refine xk_i ?_
    replace h := bk_l h
    refine x_widen (ce' := cs28 + 1) (sl' := sl28 + 6) (Nat.le_refl _) (Nat.le_refl _) ?_
    refine x_istore (pc := 2611) hC dL_law_2611 (by decide) (by decide) rfl ?_
    refine x_aload_n (pc := 2613) hC 2 dL_law_2613 rfl rfl ?_
    obtain ⟨g8, h⟩ := gd_some h
    refine x_sldk (pc := 2614) (v := (1 : Int32)) hC hX 5 dL_law_2614 dL_law_2615 rfl dL_law_2617 (by decide) dL_law_2618 g8 dL_law_2619 (fun x7 hx7 => ?_)
    replace h := lt_x hx7 h
    obtain ⟨g9, h⟩ := gd_some h
    obtain ⟨o12, ho12, h⟩ := bd_some h
    refine x_callV (pc := 2620) (As := [.int x7]) (rest := []) hC hl (c_X13_people l hls ho12) lk_RL_313 fc_19 g9 dL_law_2620 rfl rfl (Nat.le_of_ble_eq_true rfl) ⟨Nat.le_of_ble_eq_true rfl, Nat.le_of_ble_eq_true rfl⟩ ⟨(show cs28 + 1 ≤ (625622 : Nat) from by omega), (show sl28 + 6 ≤ (7225229 : Nat) from by omega)⟩ ?_
    rcases o12 with ⟨x10 | E13, S11⟩
    · refine xk_i ?_
      replace h := bk_l h
      refine x_widen (ce' := cs28 + 1) (sl' := sl28 + 6) (Nat.le_refl _) (Nat.le_refl _) ?_
      refine x_istore (pc := 2623) hC dL_law_2623 (by decide) (by decide) rfl ?_
      refine x_aload_n (pc := 2625) hC 3 dL_law_2625 rfl rfl ?_
      obtain ⟨g14, h⟩ := gd_some h
      obtain ⟨o17, ho17, h⟩ := bd_some h
      refine x_callV (pc := 2626) (As := []) (rest := []) hC hl (c_X13_thrown l hls ho17) lk_RL_193 fc_19 g14 dL_law_2626 rfl rfl (Nat.le_of_ble_eq_true rfl) ⟨Nat.le_of_ble_eq_true rfl, Nat.le_of_ble_eq_true rfl⟩ ⟨(show cs28 + 1 ≤ (625622 : Nat) from by omega), (show sl28 + 6 ≤ (7225229 : Nat) from by omega)⟩ ?_
      rcases o17 with ⟨x15 | E18, S16⟩
      · refine xk_i ?_
        replace h := bk_l h
        refine x_widen (ce' := cs28 + 1) (sl' := sl28 + 6) (Nat.le_refl _) (Nat.le_refl _) ?_
        refine x_iload (pc := 2629) hC 1 dL_law_2629 rfl ?_
        refine x_icmp_eq (pc := 2631) hC 2636 dL_law_2631 (by decide) (fun c27 => ?_) (fun c27 => ?_)
        · rw [if_pos c27] at h
          refine x_iload (pc := 2636) hC 1 dL_law_2636 rfl ?_
          refine x_if_ne (pc := 2638) hC 2653 dL_law_2638 (by decide) (fun c26 => ?_) (fun c26 => ?_)
          · rw [if_neg c26] at h
            refine x_pick [2, 3, 4, 5, 6] rfl ?_
            exact t_L_law_2653 hls hC hl hX (by omega) (by omega) hrc28 h
          · rw [if_pos c26] at h
            refine x_aload_n (pc := 2641) hC 4 dL_law_2641 rfl rfl ?_
            refine x_iconst (pc := 2642) (v := (0 : Int32)) hC dL_law_2642 (by decide) ?_
            obtain ⟨g21, h⟩ := gd_some h
            obtain ⟨g20, h⟩ := gd_some h
            refine x_laldv (pc := 2643) hC dL_law_2643 g21 g20 (fun x22 hx22 => ?_)
            replace h := lt_x hx22 h
            refine x_iload (pc := 2644) hC 0 dL_law_2644 rfl ?_
            refine x_i2lv (pc := 2646) hC dL_law_2646 (fun x23 hx23 => ?_)
            replace h := lt_x hx23 h
            refine x_lcmpv (pc := 2647) hC dL_law_2647 (fun x24 hx24 => ?_)
            replace h := lt_x hx24 h
            refine x_if_eq (pc := 2648) hC 2653 dL_law_2648 (by decide) (fun c25 => ?_) (fun c25 => ?_)
            · rw [if_pos c25] at h
              refine x_pick [2, 3, 4, 5, 6] rfl ?_
              exact t_L_law_2653 hls hC hl hX (by omega) (by omega) hrc28 h
            · rw [if_neg c25] at h
              refine x_iconst (pc := 2651) (v := (0 : Int32)) hC dL_law_2651 (by decide) ?_
              exact (law_no h).elim
        · rw [if_neg c27] at h
          refine x_iconst (pc := 2634) (v := (0 : Int32)) hC dL_law_2634 (by decide) ?_
          exact (law_no h).elim
      · exact absurd (congrArg Prod.fst (bk_r h)) (by intro q; cases q)
    · exact absurd (congrArg Prod.fst (bk_r h)) (by intro q; cases q)
  · exact absurd (congrArg Prod.fst (bk_r h)) (by intro q; cases q)
set_option maxHeartbeats 2000000 in
set_option maxRecDepth 100000 in
theorem t_L_law_2709 {l : Launch} (hls : l.stackTraces = false) {C : cT} (hC : CX C cL_law 9 yL_law rm_L_law) (hl : C.2.1 = l) {b L : Nat} {xs : Nat → Int32} (hX : LX C b L xs) {S9 : mS}  {cs28 sl28 : Nat} (hcs28 : cs28 ≤ 80538) (hsl28 : sl28 ≤ 327207) {rc28 : mS → Nat → Nat → Nat → Nat → Int32 → Option (Rs Int32)} (hrc28 : ∀ (S : mS) (a1 : Nat) (a2 : Nat) (a3 : Nat) (a4 : Nat) (a5 : Int32), rc28 S a1 a2 a3 a4 a5 = some ((.inl (1 : Int32), S9) : Rs Int32) → XX C 9 (LQ C b) (cs28 + 40021) (sl28 + 160086) S 28 [(1, .ref a1), (2, .ref a2), (3, .ref a3), (4, .ref a4), (5, .int a5)] []) {S : mS} {a1 : Nat} {a2 : Nat} {a3 : Nat} {a4 : Nat} {a5 : Int32} (h : f_L_law_2709 L xs rc28 S a1 a2 a3 a4 a5 = some ((.inl (1 : Int32), S9) : Rs Int32)) : XX C 9 (LQ C b) (cs28 + 1) (sl28 + 6) S 2709 [(1, .ref a1), (2, .ref a2), (3, .ref a3), (4, .ref a4), (5, .int a5)] [] := by
  unfold f_L_law_2709 at h
  refine x_goto (pc := 2709) hC 3632 dL_law_2709 (by decide) ?_
  refine x_pick [0, 1, 2, 3, 4] rfl ?_
  refine x_widen (ce' := cs28 + 40021) (sl' := sl28 + 160086) (by omega) (by omega) ?_
  exact t_L_law_3632 hls hC hl hX (by omega) (by omega) hrc28 h
set_option maxHeartbeats 2000000 in
set_option maxRecDepth 100000 in
theorem t_L_law_2656 {l : Launch} (hls : l.stackTraces = false) {C : cT} (hC : CX C cL_law 9 yL_law rm_L_law) (hl : C.2.1 = l) {b L : Nat} {xs : Nat → Int32} (hX : LX C b L xs) {S9 : mS}  {cs28 sl28 : Nat} (hcs28 : cs28 ≤ 80538) (hsl28 : sl28 ≤ 327207) {rc28 : mS → Nat → Nat → Nat → Nat → Int32 → Option (Rs Int32)} (hrc28 : ∀ (S : mS) (a1 : Nat) (a2 : Nat) (a3 : Nat) (a4 : Nat) (a5 : Int32), rc28 S a1 a2 a3 a4 a5 = some ((.inl (1 : Int32), S9) : Rs Int32) → XX C 9 (LQ C b) (cs28 + 40021) (sl28 + 160086) S 28 [(1, .ref a1), (2, .ref a2), (3, .ref a3), (4, .ref a4), (5, .int a5)] []) {S : mS} {a1 : Nat} {a2 : Nat} {a3 : Nat} {a4 : Nat} {a5 : Int32} (h : f_L_law_2656 L xs rc28 S a1 a2 a3 a4 a5 = some ((.inl (1 : Int32), S9) : Rs Int32)) : XX C 9 (LQ C b) (cs28) (sl28) S 2656 [(1, .ref a1), (2, .ref a2), (3, .ref a3), (4, .ref a4), (5, .int a5)] [] := by
  unfold f_L_law_2656 at h
  refine x_aload_n (pc := 2656) hC 0 dL_law_2656 rfl rfl ?_
  obtain ⟨g2, h⟩ := gd_some h
  refine x_sldk (pc := 2657) (v := (1 : Int32)) hC hX 4 dL_law_2657 dL_law_2658 rfl dL_law_2660 (by decide) dL_law_2661 g2 dL_law_2662 (fun x1 hx1 => ?_)
  replace h := lt_x hx1 h
  refine x_aload_n (pc := 2663) hC 2 dL_law_2663 rfl rfl ?_
  obtain ⟨o5, ho5, h⟩ := bd_some h
  refine x_callH (pc := 2664) (As := [.ref a1, .int x1, .ref a3]) (rest := []) hC hl (c_L_tired l hls ho5) lk_RL_314 dL_law_2664 rfl rfl (Nat.le_of_ble_eq_true rfl) ⟨Nat.le_of_ble_eq_true rfl, Nat.le_of_ble_eq_true rfl⟩ ⟨(show cs28 + 1 ≤ (625622 : Nat) from by omega), (show sl28 + 6 ≤ (7225229 : Nat) from by omega)⟩ ?_
  rcases o5 with ⟨x3 | E6, S4⟩
  · refine xk_i ?_
    replace h := bk_l h
    refine x_widen (ce' := cs28 + 1) (sl' := sl28 + 6) (Nat.le_refl _) (Nat.le_refl _) ?_
    refine x_istore (pc := 2667) hC dL_law_2667 (by decide) (by decide) rfl ?_
    refine x_aload_n (pc := 2669) hC 2 dL_law_2669 rfl rfl ?_
    obtain ⟨g8, h⟩ := gd_some h
    refine x_sldk (pc := 2670) (v := (1 : Int32)) hC hX 5 dL_law_2670 dL_law_2671 rfl dL_law_2673 (by decide) dL_law_2674 g8 dL_law_2675 (fun x7 hx7 => ?_)
    replace h := lt_x hx7 h
    obtain ⟨g9, h⟩ := gd_some h
    obtain ⟨o12, ho12, h⟩ := bd_some h
    refine x_callV (pc := 2676) (As := [.int x7]) (rest := []) hC hl (c_X13_tired l hls ho12) lk_RL_316 fc_19 g9 dL_law_2676 rfl rfl (Nat.le_of_ble_eq_true rfl) ⟨Nat.le_of_ble_eq_true rfl, Nat.le_of_ble_eq_true rfl⟩ ⟨(show cs28 + 1 ≤ (625622 : Nat) from by omega), (show sl28 + 6 ≤ (7225229 : Nat) from by omega)⟩ ?_
    rcases o12 with ⟨x10 | E13, S11⟩
    · refine xk_i ?_
      replace h := bk_l h
      refine x_widen (ce' := cs28 + 1) (sl' := sl28 + 6) (Nat.le_refl _) (Nat.le_refl _) ?_
      refine x_istore (pc := 2679) hC dL_law_2679 (by decide) (by decide) rfl ?_
      refine x_aload_n (pc := 2681) hC 3 dL_law_2681 rfl rfl ?_
      obtain ⟨g14, h⟩ := gd_some h
      obtain ⟨o17, ho17, h⟩ := bd_some h
      refine x_callV (pc := 2682) (As := []) (rest := []) hC hl (c_X13_thrown l hls ho17) lk_RL_193 fc_19 g14 dL_law_2682 rfl rfl (Nat.le_of_ble_eq_true rfl) ⟨Nat.le_of_ble_eq_true rfl, Nat.le_of_ble_eq_true rfl⟩ ⟨(show cs28 + 1 ≤ (625622 : Nat) from by omega), (show sl28 + 6 ≤ (7225229 : Nat) from by omega)⟩ ?_
      rcases o17 with ⟨x15 | E18, S16⟩
      · refine xk_i ?_
        replace h := bk_l h
        refine x_widen (ce' := cs28 + 1) (sl' := sl28 + 6) (Nat.le_refl _) (Nat.le_refl _) ?_
        refine x_iload (pc := 2685) hC 1 dL_law_2685 rfl ?_
        refine x_icmp_eq (pc := 2687) hC 2692 dL_law_2687 (by decide) (fun c27 => ?_) (fun c27 => ?_)
        · rw [if_pos c27] at h
          refine x_iload (pc := 2692) hC 1 dL_law_2692 rfl ?_
          refine x_if_ne (pc := 2694) hC 2709 dL_law_2694 (by decide) (fun c26 => ?_) (fun c26 => ?_)
          · rw [if_neg c26] at h
            refine x_pick [2, 3, 4, 5, 6] rfl ?_
            exact t_L_law_2709 hls hC hl hX (by omega) (by omega) hrc28 h
          · rw [if_pos c26] at h
            refine x_aload_n (pc := 2697) hC 4 dL_law_2697 rfl rfl ?_
            refine x_iconst (pc := 2698) (v := (0 : Int32)) hC dL_law_2698 (by decide) ?_
            obtain ⟨g21, h⟩ := gd_some h
            obtain ⟨g20, h⟩ := gd_some h
            refine x_laldv (pc := 2699) hC dL_law_2699 g21 g20 (fun x22 hx22 => ?_)
            replace h := lt_x hx22 h
            refine x_iload (pc := 2700) hC 0 dL_law_2700 rfl ?_
            refine x_i2lv (pc := 2702) hC dL_law_2702 (fun x23 hx23 => ?_)
            replace h := lt_x hx23 h
            refine x_lcmpv (pc := 2703) hC dL_law_2703 (fun x24 hx24 => ?_)
            replace h := lt_x hx24 h
            refine x_if_eq (pc := 2704) hC 2709 dL_law_2704 (by decide) (fun c25 => ?_) (fun c25 => ?_)
            · rw [if_pos c25] at h
              refine x_pick [2, 3, 4, 5, 6] rfl ?_
              exact t_L_law_2709 hls hC hl hX (by omega) (by omega) hrc28 h
            · rw [if_neg c25] at h
              refine x_iconst (pc := 2707) (v := (0 : Int32)) hC dL_law_2707 (by decide) ?_
              exact (law_no h).elim
        · rw [if_neg c27] at h
          refine x_iconst (pc := 2690) (v := (0 : Int32)) hC dL_law_2690 (by decide) ?_
          exact (law_no h).elim
      · exact absurd (congrArg Prod.fst (bk_r h)) (by intro q; cases q)
    · exact absurd (congrArg Prod.fst (bk_r h)) (by intro q; cases q)
  · exact absurd (congrArg Prod.fst (bk_r h)) (by intro q; cases q)
set_option maxHeartbeats 2000000 in
set_option maxRecDepth 100000 in
theorem t_L_law_2765 {l : Launch} (hls : l.stackTraces = false) {C : cT} (hC : CX C cL_law 9 yL_law rm_L_law) (hl : C.2.1 = l) {b L : Nat} {xs : Nat → Int32} (hX : LX C b L xs) {S9 : mS}  {cs28 sl28 : Nat} (hcs28 : cs28 ≤ 80538) (hsl28 : sl28 ≤ 327207) {rc28 : mS → Nat → Nat → Nat → Nat → Int32 → Option (Rs Int32)} (hrc28 : ∀ (S : mS) (a1 : Nat) (a2 : Nat) (a3 : Nat) (a4 : Nat) (a5 : Int32), rc28 S a1 a2 a3 a4 a5 = some ((.inl (1 : Int32), S9) : Rs Int32) → XX C 9 (LQ C b) (cs28 + 40021) (sl28 + 160086) S 28 [(1, .ref a1), (2, .ref a2), (3, .ref a3), (4, .ref a4), (5, .int a5)] []) {S : mS} {a1 : Nat} {a2 : Nat} {a3 : Nat} {a4 : Nat} {a5 : Int32} (h : f_L_law_2765 L xs rc28 S a1 a2 a3 a4 a5 = some ((.inl (1 : Int32), S9) : Rs Int32)) : XX C 9 (LQ C b) (cs28 + 1) (sl28 + 6) S 2765 [(1, .ref a1), (2, .ref a2), (3, .ref a3), (4, .ref a4), (5, .int a5)] [] := by
  unfold f_L_law_2765 at h
  refine x_goto (pc := 2765) hC 3632 dL_law_2765 (by decide) ?_
  refine x_pick [0, 1, 2, 3, 4] rfl ?_
  refine x_widen (ce' := cs28 + 40021) (sl' := sl28 + 160086) (by omega) (by omega) ?_
  exact t_L_law_3632 hls hC hl hX (by omega) (by omega) hrc28 h
set_option maxHeartbeats 2000000 in
set_option maxRecDepth 100000 in
theorem t_L_law_2712 {l : Launch} (hls : l.stackTraces = false) {C : cT} (hC : CX C cL_law 9 yL_law rm_L_law) (hl : C.2.1 = l) {b L : Nat} {xs : Nat → Int32} (hX : LX C b L xs) {S9 : mS}  {cs28 sl28 : Nat} (hcs28 : cs28 ≤ 80538) (hsl28 : sl28 ≤ 327207) {rc28 : mS → Nat → Nat → Nat → Nat → Int32 → Option (Rs Int32)} (hrc28 : ∀ (S : mS) (a1 : Nat) (a2 : Nat) (a3 : Nat) (a4 : Nat) (a5 : Int32), rc28 S a1 a2 a3 a4 a5 = some ((.inl (1 : Int32), S9) : Rs Int32) → XX C 9 (LQ C b) (cs28 + 40021) (sl28 + 160086) S 28 [(1, .ref a1), (2, .ref a2), (3, .ref a3), (4, .ref a4), (5, .int a5)] []) {S : mS} {a1 : Nat} {a2 : Nat} {a3 : Nat} {a4 : Nat} {a5 : Int32} (h : f_L_law_2712 L xs rc28 S a1 a2 a3 a4 a5 = some ((.inl (1 : Int32), S9) : Rs Int32)) : XX C 9 (LQ C b) (cs28) (sl28) S 2712 [(1, .ref a1), (2, .ref a2), (3, .ref a3), (4, .ref a4), (5, .int a5)] [] := by
  unfold f_L_law_2712 at h
  refine x_aload_n (pc := 2712) hC 0 dL_law_2712 rfl rfl ?_
  obtain ⟨g2, h⟩ := gd_some h
  refine x_sldk (pc := 2713) (v := (1 : Int32)) hC hX 4 dL_law_2713 dL_law_2714 rfl dL_law_2716 (by decide) dL_law_2717 g2 dL_law_2718 (fun x1 hx1 => ?_)
  replace h := lt_x hx1 h
  refine x_aload_n (pc := 2719) hC 2 dL_law_2719 rfl rfl ?_
  obtain ⟨o5, ho5, h⟩ := bd_some h
  refine x_callH (pc := 2720) (As := [.ref a1, .int x1, .ref a3]) (rest := []) hC hl (c_L_seconds l hls ho5) lk_RL_317 dL_law_2720 rfl rfl (Nat.le_of_ble_eq_true rfl) ⟨Nat.le_of_ble_eq_true rfl, Nat.le_of_ble_eq_true rfl⟩ ⟨(show cs28 + 1 ≤ (625622 : Nat) from by omega), (show sl28 + 6 ≤ (7225229 : Nat) from by omega)⟩ ?_
  rcases o5 with ⟨x3 | E6, S4⟩
  · refine xk_i ?_
    replace h := bk_l h
    refine x_widen (ce' := cs28 + 1) (sl' := sl28 + 6) (Nat.le_refl _) (Nat.le_refl _) ?_
    refine x_istore (pc := 2723) hC dL_law_2723 (by decide) (by decide) rfl ?_
    refine x_aload_n (pc := 2725) hC 2 dL_law_2725 rfl rfl ?_
    obtain ⟨g8, h⟩ := gd_some h
    refine x_sldk (pc := 2726) (v := (1 : Int32)) hC hX 5 dL_law_2726 dL_law_2727 rfl dL_law_2729 (by decide) dL_law_2730 g8 dL_law_2731 (fun x7 hx7 => ?_)
    replace h := lt_x hx7 h
    obtain ⟨g9, h⟩ := gd_some h
    obtain ⟨o12, ho12, h⟩ := bd_some h
    refine x_callV (pc := 2732) (As := [.int x7]) (rest := []) hC hl (c_X13_seconds l hls ho12) lk_RL_319 fc_19 g9 dL_law_2732 rfl rfl (Nat.le_of_ble_eq_true rfl) ⟨Nat.le_of_ble_eq_true rfl, Nat.le_of_ble_eq_true rfl⟩ ⟨(show cs28 + 1 ≤ (625622 : Nat) from by omega), (show sl28 + 6 ≤ (7225229 : Nat) from by omega)⟩ ?_
    rcases o12 with ⟨x10 | E13, S11⟩
    · refine xk_i ?_
      replace h := bk_l h
      refine x_widen (ce' := cs28 + 1) (sl' := sl28 + 6) (Nat.le_refl _) (Nat.le_refl _) ?_
      refine x_istore (pc := 2735) hC dL_law_2735 (by decide) (by decide) rfl ?_
      refine x_aload_n (pc := 2737) hC 3 dL_law_2737 rfl rfl ?_
      obtain ⟨g14, h⟩ := gd_some h
      obtain ⟨o17, ho17, h⟩ := bd_some h
      refine x_callV (pc := 2738) (As := []) (rest := []) hC hl (c_X13_thrown l hls ho17) lk_RL_193 fc_19 g14 dL_law_2738 rfl rfl (Nat.le_of_ble_eq_true rfl) ⟨Nat.le_of_ble_eq_true rfl, Nat.le_of_ble_eq_true rfl⟩ ⟨(show cs28 + 1 ≤ (625622 : Nat) from by omega), (show sl28 + 6 ≤ (7225229 : Nat) from by omega)⟩ ?_
      rcases o17 with ⟨x15 | E18, S16⟩
      · refine xk_i ?_
        replace h := bk_l h
        refine x_widen (ce' := cs28 + 1) (sl' := sl28 + 6) (Nat.le_refl _) (Nat.le_refl _) ?_
        refine x_iload (pc := 2741) hC 1 dL_law_2741 rfl ?_
        refine x_icmp_eq (pc := 2743) hC 2748 dL_law_2743 (by decide) (fun c27 => ?_) (fun c27 => ?_)
        · rw [if_pos c27] at h
          refine x_iload (pc := 2748) hC 1 dL_law_2748 rfl ?_
          refine x_if_ne (pc := 2750) hC 2765 dL_law_2750 (by decide) (fun c26 => ?_) (fun c26 => ?_)
          · rw [if_neg c26] at h
            refine x_pick [2, 3, 4, 5, 6] rfl ?_
            exact t_L_law_2765 hls hC hl hX (by omega) (by omega) hrc28 h
          · rw [if_pos c26] at h
            refine x_aload_n (pc := 2753) hC 4 dL_law_2753 rfl rfl ?_
            refine x_iconst (pc := 2754) (v := (0 : Int32)) hC dL_law_2754 (by decide) ?_
            obtain ⟨g21, h⟩ := gd_some h
            obtain ⟨g20, h⟩ := gd_some h
            refine x_laldv (pc := 2755) hC dL_law_2755 g21 g20 (fun x22 hx22 => ?_)
            replace h := lt_x hx22 h
            refine x_iload (pc := 2756) hC 0 dL_law_2756 rfl ?_
            refine x_i2lv (pc := 2758) hC dL_law_2758 (fun x23 hx23 => ?_)
            replace h := lt_x hx23 h
            refine x_lcmpv (pc := 2759) hC dL_law_2759 (fun x24 hx24 => ?_)
            replace h := lt_x hx24 h
            refine x_if_eq (pc := 2760) hC 2765 dL_law_2760 (by decide) (fun c25 => ?_) (fun c25 => ?_)
            · rw [if_pos c25] at h
              refine x_pick [2, 3, 4, 5, 6] rfl ?_
              exact t_L_law_2765 hls hC hl hX (by omega) (by omega) hrc28 h
            · rw [if_neg c25] at h
              refine x_iconst (pc := 2763) (v := (0 : Int32)) hC dL_law_2763 (by decide) ?_
              exact (law_no h).elim
        · rw [if_neg c27] at h
          refine x_iconst (pc := 2746) (v := (0 : Int32)) hC dL_law_2746 (by decide) ?_
          exact (law_no h).elim
      · exact absurd (congrArg Prod.fst (bk_r h)) (by intro q; cases q)
    · exact absurd (congrArg Prod.fst (bk_r h)) (by intro q; cases q)
  · exact absurd (congrArg Prod.fst (bk_r h)) (by intro q; cases q)
set_option maxHeartbeats 2000000 in
set_option maxRecDepth 100000 in
theorem t_L_law_2833 {l : Launch} (hls : l.stackTraces = false) {C : cT} (hC : CX C cL_law 9 yL_law rm_L_law) (hl : C.2.1 = l) {b L : Nat} {xs : Nat → Int32} (hX : LX C b L xs) {S9 : mS}  {cs28 sl28 : Nat} (hcs28 : cs28 ≤ 80538) (hsl28 : sl28 ≤ 327207) {rc28 : mS → Nat → Nat → Nat → Nat → Int32 → Option (Rs Int32)} (hrc28 : ∀ (S : mS) (a1 : Nat) (a2 : Nat) (a3 : Nat) (a4 : Nat) (a5 : Int32), rc28 S a1 a2 a3 a4 a5 = some ((.inl (1 : Int32), S9) : Rs Int32) → XX C 9 (LQ C b) (cs28 + 40021) (sl28 + 160086) S 28 [(1, .ref a1), (2, .ref a2), (3, .ref a3), (4, .ref a4), (5, .int a5)] []) {S : mS} {a1 : Nat} {a2 : Nat} {a3 : Nat} {a4 : Nat} {a5 : Int32} (h : f_L_law_2833 L xs rc28 S a1 a2 a3 a4 a5 = some ((.inl (1 : Int32), S9) : Rs Int32)) : XX C 9 (LQ C b) (cs28 + 1) (sl28 + 6) S 2833 [(1, .ref a1), (2, .ref a2), (3, .ref a3), (4, .ref a4), (5, .int a5)] [] := by
  unfold f_L_law_2833 at h
  refine x_goto (pc := 2833) hC 3632 dL_law_2833 (by decide) ?_
  refine x_pick [0, 1, 2, 3, 4] rfl ?_
  refine x_widen (ce' := cs28 + 40021) (sl' := sl28 + 160086) (by omega) (by omega) ?_
  exact t_L_law_3632 hls hC hl hX (by omega) (by omega) hrc28 h
set_option maxHeartbeats 2000000 in
set_option maxRecDepth 100000 in
theorem t_L_law_2768 {l : Launch} (hls : l.stackTraces = false) {C : cT} (hC : CX C cL_law 9 yL_law rm_L_law) (hl : C.2.1 = l) {b L : Nat} {xs : Nat → Int32} (hX : LX C b L xs) {S9 : mS}  {cs28 sl28 : Nat} (hcs28 : cs28 ≤ 80538) (hsl28 : sl28 ≤ 327207) {rc28 : mS → Nat → Nat → Nat → Nat → Int32 → Option (Rs Int32)} (hrc28 : ∀ (S : mS) (a1 : Nat) (a2 : Nat) (a3 : Nat) (a4 : Nat) (a5 : Int32), rc28 S a1 a2 a3 a4 a5 = some ((.inl (1 : Int32), S9) : Rs Int32) → XX C 9 (LQ C b) (cs28 + 40021) (sl28 + 160086) S 28 [(1, .ref a1), (2, .ref a2), (3, .ref a3), (4, .ref a4), (5, .int a5)] []) {S : mS} {a1 : Nat} {a2 : Nat} {a3 : Nat} {a4 : Nat} {a5 : Int32} (h : f_L_law_2768 L xs rc28 S a1 a2 a3 a4 a5 = some ((.inl (1 : Int32), S9) : Rs Int32)) : XX C 9 (LQ C b) (cs28) (sl28) S 2768 [(1, .ref a1), (2, .ref a2), (3, .ref a3), (4, .ref a4), (5, .int a5)] [] := by
  unfold f_L_law_2768 at h
  refine x_aload_n (pc := 2768) hC 0 dL_law_2768 rfl rfl ?_
  obtain ⟨g2, h⟩ := gd_some h
  refine x_sldk (pc := 2769) (v := (1 : Int32)) hC hX 4 dL_law_2769 dL_law_2770 rfl dL_law_2772 (by decide) dL_law_2773 g2 dL_law_2774 (fun x1 hx1 => ?_)
  replace h := lt_x hx1 h
  obtain ⟨g4, h⟩ := gd_some h
  refine x_sldk (pc := 2775) (v := (2 : Int32)) hC hX 4 dL_law_2775 dL_law_2776 rfl dL_law_2778 (by decide) dL_law_2779 g4 dL_law_2780 (fun x3 hx3 => ?_)
  replace h := lt_x hx3 h
  refine x_aload_n (pc := 2781) hC 2 dL_law_2781 rfl rfl ?_
  obtain ⟨o7, ho7, h⟩ := bd_some h
  refine x_callH (pc := 2782) (As := [.ref a1, .int x1, .int x3, .ref a3]) (rest := []) hC hl (c_L_setLimit l hls ho7) lk_RL_320 dL_law_2782 rfl rfl (Nat.le_of_ble_eq_true rfl) ⟨Nat.le_of_ble_eq_true rfl, Nat.le_of_ble_eq_true rfl⟩ ⟨(show cs28 + 1 ≤ (625622 : Nat) from by omega), (show sl28 + 6 ≤ (7225229 : Nat) from by omega)⟩ ?_
  rcases o7 with ⟨x5 | E8, S6⟩
  · refine xk_i ?_
    replace h := bk_l h
    refine x_widen (ce' := cs28 + 1) (sl' := sl28 + 6) (Nat.le_refl _) (Nat.le_refl _) ?_
    refine x_istore (pc := 2785) hC dL_law_2785 (by decide) (by decide) rfl ?_
    refine x_aload_n (pc := 2787) hC 2 dL_law_2787 rfl rfl ?_
    obtain ⟨g10, h⟩ := gd_some h
    refine x_sldk (pc := 2788) (v := (1 : Int32)) hC hX 5 dL_law_2788 dL_law_2789 rfl dL_law_2791 (by decide) dL_law_2792 g10 dL_law_2793 (fun x9 hx9 => ?_)
    replace h := lt_x hx9 h
    obtain ⟨g12, h⟩ := gd_some h
    refine x_sldk (pc := 2794) (v := (2 : Int32)) hC hX 5 dL_law_2794 dL_law_2795 rfl dL_law_2797 (by decide) dL_law_2798 g12 dL_law_2799 (fun x11 hx11 => ?_)
    replace h := lt_x hx11 h
    obtain ⟨g13, h⟩ := gd_some h
    obtain ⟨o16, ho16, h⟩ := bd_some h
    refine x_callV (pc := 2800) (As := [.int x9, .int x11]) (rest := []) hC hl (c_X13_setLimit l hls ho16) lk_RL_322 fc_19 g13 dL_law_2800 rfl rfl (Nat.le_of_ble_eq_true rfl) ⟨Nat.le_of_ble_eq_true rfl, Nat.le_of_ble_eq_true rfl⟩ ⟨(show cs28 + 1 ≤ (625622 : Nat) from by omega), (show sl28 + 6 ≤ (7225229 : Nat) from by omega)⟩ ?_
    rcases o16 with ⟨x14 | E17, S15⟩
    · refine xk_i ?_
      replace h := bk_l h
      refine x_widen (ce' := cs28 + 1) (sl' := sl28 + 6) (Nat.le_refl _) (Nat.le_refl _) ?_
      refine x_istore (pc := 2803) hC dL_law_2803 (by decide) (by decide) rfl ?_
      refine x_aload_n (pc := 2805) hC 3 dL_law_2805 rfl rfl ?_
      obtain ⟨g18, h⟩ := gd_some h
      obtain ⟨o21, ho21, h⟩ := bd_some h
      refine x_callV (pc := 2806) (As := []) (rest := []) hC hl (c_X13_thrown l hls ho21) lk_RL_193 fc_19 g18 dL_law_2806 rfl rfl (Nat.le_of_ble_eq_true rfl) ⟨Nat.le_of_ble_eq_true rfl, Nat.le_of_ble_eq_true rfl⟩ ⟨(show cs28 + 1 ≤ (625622 : Nat) from by omega), (show sl28 + 6 ≤ (7225229 : Nat) from by omega)⟩ ?_
      rcases o21 with ⟨x19 | E22, S20⟩
      · refine xk_i ?_
        replace h := bk_l h
        refine x_widen (ce' := cs28 + 1) (sl' := sl28 + 6) (Nat.le_refl _) (Nat.le_refl _) ?_
        refine x_iload (pc := 2809) hC 1 dL_law_2809 rfl ?_
        refine x_icmp_eq (pc := 2811) hC 2816 dL_law_2811 (by decide) (fun c31 => ?_) (fun c31 => ?_)
        · rw [if_pos c31] at h
          refine x_iload (pc := 2816) hC 1 dL_law_2816 rfl ?_
          refine x_if_ne (pc := 2818) hC 2833 dL_law_2818 (by decide) (fun c30 => ?_) (fun c30 => ?_)
          · rw [if_neg c30] at h
            refine x_pick [2, 3, 4, 5, 6] rfl ?_
            exact t_L_law_2833 hls hC hl hX (by omega) (by omega) hrc28 h
          · rw [if_pos c30] at h
            refine x_aload_n (pc := 2821) hC 4 dL_law_2821 rfl rfl ?_
            refine x_iconst (pc := 2822) (v := (0 : Int32)) hC dL_law_2822 (by decide) ?_
            obtain ⟨g25, h⟩ := gd_some h
            obtain ⟨g24, h⟩ := gd_some h
            refine x_laldv (pc := 2823) hC dL_law_2823 g25 g24 (fun x26 hx26 => ?_)
            replace h := lt_x hx26 h
            refine x_iload (pc := 2824) hC 0 dL_law_2824 rfl ?_
            refine x_i2lv (pc := 2826) hC dL_law_2826 (fun x27 hx27 => ?_)
            replace h := lt_x hx27 h
            refine x_lcmpv (pc := 2827) hC dL_law_2827 (fun x28 hx28 => ?_)
            replace h := lt_x hx28 h
            refine x_if_eq (pc := 2828) hC 2833 dL_law_2828 (by decide) (fun c29 => ?_) (fun c29 => ?_)
            · rw [if_pos c29] at h
              refine x_pick [2, 3, 4, 5, 6] rfl ?_
              exact t_L_law_2833 hls hC hl hX (by omega) (by omega) hrc28 h
            · rw [if_neg c29] at h
              refine x_iconst (pc := 2831) (v := (0 : Int32)) hC dL_law_2831 (by decide) ?_
              exact (law_no h).elim
        · rw [if_neg c31] at h
          refine x_iconst (pc := 2814) (v := (0 : Int32)) hC dL_law_2814 (by decide) ?_
          exact (law_no h).elim
      · exact absurd (congrArg Prod.fst (bk_r h)) (by intro q; cases q)
    · exact absurd (congrArg Prod.fst (bk_r h)) (by intro q; cases q)
  · exact absurd (congrArg Prod.fst (bk_r h)) (by intro q; cases q)
set_option maxHeartbeats 2000000 in
set_option maxRecDepth 100000 in
theorem t_L_law_2836 {l : Launch} (hls : l.stackTraces = false) {C : cT} (hC : CX C cL_law 9 yL_law rm_L_law) (hl : C.2.1 = l) {b L : Nat} {xs : Nat → Int32} (hX : LX C b L xs) {S9 : mS}  {cs28 sl28 : Nat} (hcs28 : cs28 ≤ 80538) (hsl28 : sl28 ≤ 327207) {rc28 : mS → Nat → Nat → Nat → Nat → Int32 → Option (Rs Int32)} (hrc28 : ∀ (S : mS) (a1 : Nat) (a2 : Nat) (a3 : Nat) (a4 : Nat) (a5 : Int32), rc28 S a1 a2 a3 a4 a5 = some ((.inl (1 : Int32), S9) : Rs Int32) → XX C 9 (LQ C b) (cs28 + 40021) (sl28 + 160086) S 28 [(1, .ref a1), (2, .ref a2), (3, .ref a3), (4, .ref a4), (5, .int a5)] []) {S : mS} {a1 : Nat} {a2 : Nat} {a3 : Nat} {a4 : Nat} {a5 : Int32} (h : f_L_law_2836 L xs rc28 S a1 a2 a3 a4 a5 = some ((.inl (1 : Int32), S9) : Rs Int32)) : XX C 9 (LQ C b) (cs28) (sl28) S 2836 [(1, .ref a1), (2, .ref a2), (3, .ref a3), (4, .ref a4), (5, .int a5)] [] := by
  unfold f_L_law_2836 at h
  refine x_aload_n (pc := 2836) hC 0 dL_law_2836 rfl rfl ?_
  obtain ⟨g1, h⟩ := gd_some h
  obtain ⟨o4, ho4, h⟩ := bd_some h
  refine x_callV (pc := 2837) (As := []) (rest := []) hC hl (c_X10_breaches l hls ho4) lk_RL_323 fc_16 g1 dL_law_2837 rfl rfl (Nat.le_of_ble_eq_true rfl) ⟨Nat.le_of_ble_eq_true rfl, Nat.le_of_ble_eq_true rfl⟩ ⟨(show cs28 ≤ (625622 : Nat) from by omega), (show sl28 ≤ (7225229 : Nat) from by omega)⟩ ?_
  rcases o4 with ⟨x2 | E5, S3⟩
  · refine xk_i ?_
    replace h := bk_l h
    refine x_widen (ce' := cs28) (sl' := sl28) (Nat.le_refl _) (Nat.le_refl _) ?_
    refine x_aload_n (pc := 2840) hC 1 dL_law_2840 rfl rfl ?_
    obtain ⟨g6, h⟩ := gd_some h
    obtain ⟨o9, ho9, h⟩ := bd_some h
    refine x_callV (pc := 2841) (As := []) (rest := [.int x2]) hC hl (c_X13_breaches l hls ho9) lk_RL_326 fc_19 g6 dL_law_2841 rfl rfl (Nat.le_of_ble_eq_true rfl) ⟨Nat.le_of_ble_eq_true rfl, Nat.le_of_ble_eq_true rfl⟩ ⟨(show cs28 ≤ (625622 : Nat) from by omega), (show sl28 ≤ (7225229 : Nat) from by omega)⟩ ?_
    rcases o9 with ⟨x7 | E10, S8⟩
    · refine xk_i ?_
      replace h := bk_l h
      refine x_widen (ce' := cs28) (sl' := sl28) (Nat.le_refl _) (Nat.le_refl _) ?_
      refine x_icmp_eq (pc := 2844) hC 3632 dL_law_2844 (by decide) (fun c11 => ?_) (fun c11 => ?_)
      · rw [if_pos c11] at h
        refine x_pick [0, 1, 2, 3, 4] rfl ?_
        refine x_widen (ce' := cs28 + 40021) (sl' := sl28 + 160086) (by omega) (by omega) ?_
        exact t_L_law_3632 hls hC hl hX (by omega) (by omega) hrc28 h
      · rw [if_neg c11] at h
        refine x_iconst (pc := 2847) (v := (0 : Int32)) hC dL_law_2847 (by decide) ?_
        exact (law_no h).elim
    · exact absurd (congrArg Prod.fst (bk_r h)) (by intro q; cases q)
  · exact absurd (congrArg Prod.fst (bk_r h)) (by intro q; cases q)
set_option maxHeartbeats 2000000 in
set_option maxRecDepth 100000 in
theorem t_L_law_2914 {l : Launch} (hls : l.stackTraces = false) {C : cT} (hC : CX C cL_law 9 yL_law rm_L_law) (hl : C.2.1 = l) {b L : Nat} {xs : Nat → Int32} (hX : LX C b L xs) {S9 : mS}  {cs28 sl28 : Nat} (hcs28 : cs28 ≤ 80538) (hsl28 : sl28 ≤ 327207) {rc28 : mS → Nat → Nat → Nat → Nat → Int32 → Option (Rs Int32)} (hrc28 : ∀ (S : mS) (a1 : Nat) (a2 : Nat) (a3 : Nat) (a4 : Nat) (a5 : Int32), rc28 S a1 a2 a3 a4 a5 = some ((.inl (1 : Int32), S9) : Rs Int32) → XX C 9 (LQ C b) (cs28 + 40021) (sl28 + 160086) S 28 [(1, .ref a1), (2, .ref a2), (3, .ref a3), (4, .ref a4), (5, .int a5)] []) {S : mS} {a1 : Nat} {a2 : Nat} {a3 : Nat} {a4 : Nat} {a5 : Int32} (h : f_L_law_2914 L xs rc28 S a1 a2 a3 a4 a5 = some ((.inl (1 : Int32), S9) : Rs Int32)) : XX C 9 (LQ C b) (cs28 + 1) (sl28 + 6) S 2914 [(1, .ref a1), (2, .ref a2), (3, .ref a3), (4, .ref a4), (5, .int a5)] [] := by
  unfold f_L_law_2914 at h
  refine x_goto (pc := 2914) hC 3632 dL_law_2914 (by decide) ?_
  refine x_pick [0, 1, 2, 3, 4] rfl ?_
  refine x_widen (ce' := cs28 + 40021) (sl' := sl28 + 160086) (by omega) (by omega) ?_
  exact t_L_law_3632 hls hC hl hX (by omega) (by omega) hrc28 h
set_option maxHeartbeats 2000000 in
set_option maxRecDepth 100000 in
theorem t_L_law_2849 {l : Launch} (hls : l.stackTraces = false) {C : cT} (hC : CX C cL_law 9 yL_law rm_L_law) (hl : C.2.1 = l) {b L : Nat} {xs : Nat → Int32} (hX : LX C b L xs) {S9 : mS}  {cs28 sl28 : Nat} (hcs28 : cs28 ≤ 80538) (hsl28 : sl28 ≤ 327207) {rc28 : mS → Nat → Nat → Nat → Nat → Int32 → Option (Rs Int32)} (hrc28 : ∀ (S : mS) (a1 : Nat) (a2 : Nat) (a3 : Nat) (a4 : Nat) (a5 : Int32), rc28 S a1 a2 a3 a4 a5 = some ((.inl (1 : Int32), S9) : Rs Int32) → XX C 9 (LQ C b) (cs28 + 40021) (sl28 + 160086) S 28 [(1, .ref a1), (2, .ref a2), (3, .ref a3), (4, .ref a4), (5, .int a5)] []) {S : mS} {a1 : Nat} {a2 : Nat} {a3 : Nat} {a4 : Nat} {a5 : Int32} (h : f_L_law_2849 L xs rc28 S a1 a2 a3 a4 a5 = some ((.inl (1 : Int32), S9) : Rs Int32)) : XX C 9 (LQ C b) (cs28) (sl28) S 2849 [(1, .ref a1), (2, .ref a2), (3, .ref a3), (4, .ref a4), (5, .int a5)] [] := by
  unfold f_L_law_2849 at h
  refine x_aload_n (pc := 2849) hC 0 dL_law_2849 rfl rfl ?_
  obtain ⟨g2, h⟩ := gd_some h
  refine x_sldk (pc := 2850) (v := (1 : Int32)) hC hX 4 dL_law_2850 dL_law_2851 rfl dL_law_2853 (by decide) dL_law_2854 g2 dL_law_2855 (fun x1 hx1 => ?_)
  replace h := lt_x hx1 h
  obtain ⟨g4, h⟩ := gd_some h
  refine x_sldk (pc := 2856) (v := (2 : Int32)) hC hX 4 dL_law_2856 dL_law_2857 rfl dL_law_2859 (by decide) dL_law_2860 g4 dL_law_2861 (fun x3 hx3 => ?_)
  replace h := lt_x hx3 h
  refine x_aload_n (pc := 2862) hC 2 dL_law_2862 rfl rfl ?_
  obtain ⟨o7, ho7, h⟩ := bd_some h
  refine x_callH (pc := 2863) (As := [.ref a1, .int x1, .int x3, .ref a3]) (rest := []) hC hl (c_L_strobe l hls ho7) lk_RL_327 dL_law_2863 rfl rfl (Nat.le_of_ble_eq_true rfl) ⟨Nat.le_of_ble_eq_true rfl, Nat.le_of_ble_eq_true rfl⟩ ⟨(show cs28 + 1 ≤ (625622 : Nat) from by omega), (show sl28 + 6 ≤ (7225229 : Nat) from by omega)⟩ ?_
  rcases o7 with ⟨x5 | E8, S6⟩
  · refine xk_i ?_
    replace h := bk_l h
    refine x_widen (ce' := cs28 + 1) (sl' := sl28 + 6) (Nat.le_refl _) (Nat.le_refl _) ?_
    refine x_istore (pc := 2866) hC dL_law_2866 (by decide) (by decide) rfl ?_
    refine x_aload_n (pc := 2868) hC 2 dL_law_2868 rfl rfl ?_
    obtain ⟨g10, h⟩ := gd_some h
    refine x_sldk (pc := 2869) (v := (1 : Int32)) hC hX 5 dL_law_2869 dL_law_2870 rfl dL_law_2872 (by decide) dL_law_2873 g10 dL_law_2874 (fun x9 hx9 => ?_)
    replace h := lt_x hx9 h
    obtain ⟨g12, h⟩ := gd_some h
    refine x_sldk (pc := 2875) (v := (2 : Int32)) hC hX 5 dL_law_2875 dL_law_2876 rfl dL_law_2878 (by decide) dL_law_2879 g12 dL_law_2880 (fun x11 hx11 => ?_)
    replace h := lt_x hx11 h
    obtain ⟨g13, h⟩ := gd_some h
    obtain ⟨o16, ho16, h⟩ := bd_some h
    refine x_callV (pc := 2881) (As := [.int x9, .int x11]) (rest := []) hC hl (c_X13_strobe l hls ho16) lk_RL_329 fc_19 g13 dL_law_2881 rfl rfl (Nat.le_of_ble_eq_true rfl) ⟨Nat.le_of_ble_eq_true rfl, Nat.le_of_ble_eq_true rfl⟩ ⟨(show cs28 + 1 ≤ (625622 : Nat) from by omega), (show sl28 + 6 ≤ (7225229 : Nat) from by omega)⟩ ?_
    rcases o16 with ⟨x14 | E17, S15⟩
    · refine xk_i ?_
      replace h := bk_l h
      refine x_widen (ce' := cs28 + 1) (sl' := sl28 + 6) (Nat.le_refl _) (Nat.le_refl _) ?_
      refine x_istore (pc := 2884) hC dL_law_2884 (by decide) (by decide) rfl ?_
      refine x_aload_n (pc := 2886) hC 3 dL_law_2886 rfl rfl ?_
      obtain ⟨g18, h⟩ := gd_some h
      obtain ⟨o21, ho21, h⟩ := bd_some h
      refine x_callV (pc := 2887) (As := []) (rest := []) hC hl (c_X13_thrown l hls ho21) lk_RL_193 fc_19 g18 dL_law_2887 rfl rfl (Nat.le_of_ble_eq_true rfl) ⟨Nat.le_of_ble_eq_true rfl, Nat.le_of_ble_eq_true rfl⟩ ⟨(show cs28 + 1 ≤ (625622 : Nat) from by omega), (show sl28 + 6 ≤ (7225229 : Nat) from by omega)⟩ ?_
      rcases o21 with ⟨x19 | E22, S20⟩
      · refine xk_i ?_
        replace h := bk_l h
        refine x_widen (ce' := cs28 + 1) (sl' := sl28 + 6) (Nat.le_refl _) (Nat.le_refl _) ?_
        refine x_iload (pc := 2890) hC 1 dL_law_2890 rfl ?_
        refine x_icmp_eq (pc := 2892) hC 2897 dL_law_2892 (by decide) (fun c31 => ?_) (fun c31 => ?_)
        · rw [if_pos c31] at h
          refine x_iload (pc := 2897) hC 1 dL_law_2897 rfl ?_
          refine x_if_ne (pc := 2899) hC 2914 dL_law_2899 (by decide) (fun c30 => ?_) (fun c30 => ?_)
          · rw [if_neg c30] at h
            refine x_pick [2, 3, 4, 5, 6] rfl ?_
            exact t_L_law_2914 hls hC hl hX (by omega) (by omega) hrc28 h
          · rw [if_pos c30] at h
            refine x_aload_n (pc := 2902) hC 4 dL_law_2902 rfl rfl ?_
            refine x_iconst (pc := 2903) (v := (0 : Int32)) hC dL_law_2903 (by decide) ?_
            obtain ⟨g25, h⟩ := gd_some h
            obtain ⟨g24, h⟩ := gd_some h
            refine x_laldv (pc := 2904) hC dL_law_2904 g25 g24 (fun x26 hx26 => ?_)
            replace h := lt_x hx26 h
            refine x_iload (pc := 2905) hC 0 dL_law_2905 rfl ?_
            refine x_i2lv (pc := 2907) hC dL_law_2907 (fun x27 hx27 => ?_)
            replace h := lt_x hx27 h
            refine x_lcmpv (pc := 2908) hC dL_law_2908 (fun x28 hx28 => ?_)
            replace h := lt_x hx28 h
            refine x_if_eq (pc := 2909) hC 2914 dL_law_2909 (by decide) (fun c29 => ?_) (fun c29 => ?_)
            · rw [if_pos c29] at h
              refine x_pick [2, 3, 4, 5, 6] rfl ?_
              exact t_L_law_2914 hls hC hl hX (by omega) (by omega) hrc28 h
            · rw [if_neg c29] at h
              refine x_iconst (pc := 2912) (v := (0 : Int32)) hC dL_law_2912 (by decide) ?_
              exact (law_no h).elim
        · rw [if_neg c31] at h
          refine x_iconst (pc := 2895) (v := (0 : Int32)) hC dL_law_2895 (by decide) ?_
          exact (law_no h).elim
      · exact absurd (congrArg Prod.fst (bk_r h)) (by intro q; cases q)
    · exact absurd (congrArg Prod.fst (bk_r h)) (by intro q; cases q)
  · exact absurd (congrArg Prod.fst (bk_r h)) (by intro q; cases q)
set_option maxHeartbeats 2000000 in
set_option maxRecDepth 100000 in
theorem t_L_law_2958 {l : Launch} (hls : l.stackTraces = false) {C : cT} (hC : CX C cL_law 9 yL_law rm_L_law) (hl : C.2.1 = l) {b L : Nat} {xs : Nat → Int32} (hX : LX C b L xs) {S9 : mS}  {cs28 sl28 : Nat} (hcs28 : cs28 ≤ 80538) (hsl28 : sl28 ≤ 327207) {rc28 : mS → Nat → Nat → Nat → Nat → Int32 → Option (Rs Int32)} (hrc28 : ∀ (S : mS) (a1 : Nat) (a2 : Nat) (a3 : Nat) (a4 : Nat) (a5 : Int32), rc28 S a1 a2 a3 a4 a5 = some ((.inl (1 : Int32), S9) : Rs Int32) → XX C 9 (LQ C b) (cs28 + 40021) (sl28 + 160086) S 28 [(1, .ref a1), (2, .ref a2), (3, .ref a3), (4, .ref a4), (5, .int a5)] []) {S : mS} {a1 : Nat} {a2 : Nat} {a3 : Nat} {a4 : Nat} {a5 : Int32} (h : f_L_law_2958 L xs rc28 S a1 a2 a3 a4 a5 = some ((.inl (1 : Int32), S9) : Rs Int32)) : XX C 9 (LQ C b) (cs28 + 1) (sl28 + 6) S 2958 [(1, .ref a1), (2, .ref a2), (3, .ref a3), (4, .ref a4), (5, .int a5)] [] := by
  unfold f_L_law_2958 at h
  refine x_goto (pc := 2958) hC 3632 dL_law_2958 (by decide) ?_
  refine x_pick [0, 1, 2, 3, 4] rfl ?_
  refine x_widen (ce' := cs28 + 40021) (sl' := sl28 + 160086) (by omega) (by omega) ?_
  exact t_L_law_3632 hls hC hl hX (by omega) (by omega) hrc28 h
set_option maxHeartbeats 2000000 in
set_option maxRecDepth 100000 in
theorem t_L_law_2917 {l : Launch} (hls : l.stackTraces = false) {C : cT} (hC : CX C cL_law 9 yL_law rm_L_law) (hl : C.2.1 = l) {b L : Nat} {xs : Nat → Int32} (hX : LX C b L xs) {S9 : mS}  {cs28 sl28 : Nat} (hcs28 : cs28 ≤ 80538) (hsl28 : sl28 ≤ 327207) {rc28 : mS → Nat → Nat → Nat → Nat → Int32 → Option (Rs Int32)} (hrc28 : ∀ (S : mS) (a1 : Nat) (a2 : Nat) (a3 : Nat) (a4 : Nat) (a5 : Int32), rc28 S a1 a2 a3 a4 a5 = some ((.inl (1 : Int32), S9) : Rs Int32) → XX C 9 (LQ C b) (cs28 + 40021) (sl28 + 160086) S 28 [(1, .ref a1), (2, .ref a2), (3, .ref a3), (4, .ref a4), (5, .int a5)] []) {S : mS} {a1 : Nat} {a2 : Nat} {a3 : Nat} {a4 : Nat} {a5 : Int32} (h : f_L_law_2917 L xs rc28 S a1 a2 a3 a4 a5 = some ((.inl (1 : Int32), S9) : Rs Int32)) : XX C 9 (LQ C b) (cs28) (sl28) S 2917 [(1, .ref a1), (2, .ref a2), (3, .ref a3), (4, .ref a4), (5, .int a5)] [] := by
  unfold f_L_law_2917 at h
  refine x_aload_n (pc := 2917) hC 0 dL_law_2917 rfl rfl ?_
  refine x_aload_n (pc := 2918) hC 2 dL_law_2918 rfl rfl ?_
  obtain ⟨o3, ho3, h⟩ := bd_some h
  refine x_callH (pc := 2919) (As := [.ref a1, .ref a3]) (rest := []) hC hl (c_L_light l hls ho3) lk_RL_330 dL_law_2919 rfl rfl (Nat.le_of_ble_eq_true rfl) ⟨Nat.le_of_ble_eq_true rfl, Nat.le_of_ble_eq_true rfl⟩ ⟨(show cs28 + 1 ≤ (625622 : Nat) from by omega), (show sl28 + 6 ≤ (7225229 : Nat) from by omega)⟩ ?_
  rcases o3 with ⟨x1 | E4, S2⟩
  · refine xk_i ?_
    replace h := bk_l h
    refine x_widen (ce' := cs28 + 1) (sl' := sl28 + 6) (Nat.le_refl _) (Nat.le_refl _) ?_
    refine x_istore (pc := 2922) hC dL_law_2922 (by decide) (by decide) rfl ?_
    refine x_aload_n (pc := 2924) hC 2 dL_law_2924 rfl rfl ?_
    obtain ⟨g5, h⟩ := gd_some h
    obtain ⟨o8, ho8, h⟩ := bd_some h
    refine x_callV (pc := 2925) (As := []) (rest := []) hC hl (c_X13_light l hls ho8) lk_RL_333 fc_19 g5 dL_law_2925 rfl rfl (Nat.le_of_ble_eq_true rfl) ⟨Nat.le_of_ble_eq_true rfl, Nat.le_of_ble_eq_true rfl⟩ ⟨(show cs28 + 1 ≤ (625622 : Nat) from by omega), (show sl28 + 6 ≤ (7225229 : Nat) from by omega)⟩ ?_
    rcases o8 with ⟨x6 | E9, S7⟩
    · refine xk_i ?_
      replace h := bk_l h
      refine x_widen (ce' := cs28 + 1) (sl' := sl28 + 6) (Nat.le_refl _) (Nat.le_refl _) ?_
      refine x_istore (pc := 2928) hC dL_law_2928 (by decide) (by decide) rfl ?_
      refine x_aload_n (pc := 2930) hC 3 dL_law_2930 rfl rfl ?_
      obtain ⟨g10, h⟩ := gd_some h
      obtain ⟨o13, ho13, h⟩ := bd_some h
      refine x_callV (pc := 2931) (As := []) (rest := []) hC hl (c_X13_thrown l hls ho13) lk_RL_193 fc_19 g10 dL_law_2931 rfl rfl (Nat.le_of_ble_eq_true rfl) ⟨Nat.le_of_ble_eq_true rfl, Nat.le_of_ble_eq_true rfl⟩ ⟨(show cs28 + 1 ≤ (625622 : Nat) from by omega), (show sl28 + 6 ≤ (7225229 : Nat) from by omega)⟩ ?_
      rcases o13 with ⟨x11 | E14, S12⟩
      · refine xk_i ?_
        replace h := bk_l h
        refine x_widen (ce' := cs28 + 1) (sl' := sl28 + 6) (Nat.le_refl _) (Nat.le_refl _) ?_
        refine x_iload (pc := 2934) hC 1 dL_law_2934 rfl ?_
        refine x_icmp_eq (pc := 2936) hC 2941 dL_law_2936 (by decide) (fun c23 => ?_) (fun c23 => ?_)
        · rw [if_pos c23] at h
          refine x_iload (pc := 2941) hC 1 dL_law_2941 rfl ?_
          refine x_if_ne (pc := 2943) hC 2958 dL_law_2943 (by decide) (fun c22 => ?_) (fun c22 => ?_)
          · rw [if_neg c22] at h
            refine x_pick [2, 3, 4, 5, 6] rfl ?_
            exact t_L_law_2958 hls hC hl hX (by omega) (by omega) hrc28 h
          · rw [if_pos c22] at h
            refine x_aload_n (pc := 2946) hC 4 dL_law_2946 rfl rfl ?_
            refine x_iconst (pc := 2947) (v := (0 : Int32)) hC dL_law_2947 (by decide) ?_
            obtain ⟨g17, h⟩ := gd_some h
            obtain ⟨g16, h⟩ := gd_some h
            refine x_laldv (pc := 2948) hC dL_law_2948 g17 g16 (fun x18 hx18 => ?_)
            replace h := lt_x hx18 h
            refine x_iload (pc := 2949) hC 0 dL_law_2949 rfl ?_
            refine x_i2lv (pc := 2951) hC dL_law_2951 (fun x19 hx19 => ?_)
            replace h := lt_x hx19 h
            refine x_lcmpv (pc := 2952) hC dL_law_2952 (fun x20 hx20 => ?_)
            replace h := lt_x hx20 h
            refine x_if_eq (pc := 2953) hC 2958 dL_law_2953 (by decide) (fun c21 => ?_) (fun c21 => ?_)
            · rw [if_pos c21] at h
              refine x_pick [2, 3, 4, 5, 6] rfl ?_
              exact t_L_law_2958 hls hC hl hX (by omega) (by omega) hrc28 h
            · rw [if_neg c21] at h
              refine x_iconst (pc := 2956) (v := (0 : Int32)) hC dL_law_2956 (by decide) ?_
              exact (law_no h).elim
        · rw [if_neg c23] at h
          refine x_iconst (pc := 2939) (v := (0 : Int32)) hC dL_law_2939 (by decide) ?_
          exact (law_no h).elim
      · exact absurd (congrArg Prod.fst (bk_r h)) (by intro q; cases q)
    · exact absurd (congrArg Prod.fst (bk_r h)) (by intro q; cases q)
  · exact absurd (congrArg Prod.fst (bk_r h)) (by intro q; cases q)
set_option maxHeartbeats 2000000 in
set_option maxRecDepth 100000 in
theorem t_L_law_3026 {l : Launch} (hls : l.stackTraces = false) {C : cT} (hC : CX C cL_law 9 yL_law rm_L_law) (hl : C.2.1 = l) {b L : Nat} {xs : Nat → Int32} (hX : LX C b L xs) {S9 : mS}  {cs28 sl28 : Nat} (hcs28 : cs28 ≤ 80538) (hsl28 : sl28 ≤ 327207) {rc28 : mS → Nat → Nat → Nat → Nat → Int32 → Option (Rs Int32)} (hrc28 : ∀ (S : mS) (a1 : Nat) (a2 : Nat) (a3 : Nat) (a4 : Nat) (a5 : Int32), rc28 S a1 a2 a3 a4 a5 = some ((.inl (1 : Int32), S9) : Rs Int32) → XX C 9 (LQ C b) (cs28 + 40021) (sl28 + 160086) S 28 [(1, .ref a1), (2, .ref a2), (3, .ref a3), (4, .ref a4), (5, .int a5)] []) {S : mS} {a1 : Nat} {a2 : Nat} {a3 : Nat} {a4 : Nat} {a5 : Int32} (h : f_L_law_3026 L xs rc28 S a1 a2 a3 a4 a5 = some ((.inl (1 : Int32), S9) : Rs Int32)) : XX C 9 (LQ C b) (cs28 + 5) (sl28 + 36) S 3026 [(1, .ref a1), (2, .ref a2), (3, .ref a3), (4, .ref a4), (5, .int a5)] [] := by
  unfold f_L_law_3026 at h
  refine x_goto (pc := 3026) hC 3632 dL_law_3026 (by decide) ?_
  refine x_pick [0, 1, 2, 3, 4] rfl ?_
  refine x_widen (ce' := cs28 + 40021) (sl' := sl28 + 160086) (by omega) (by omega) ?_
  exact t_L_law_3632 hls hC hl hX (by omega) (by omega) hrc28 h
set_option maxHeartbeats 2000000 in
set_option maxRecDepth 100000 in
theorem t_L_law_2961 {l : Launch} (hls : l.stackTraces = false) {C : cT} (hC : CX C cL_law 9 yL_law rm_L_law) (hl : C.2.1 = l) {b L : Nat} {xs : Nat → Int32} (hX : LX C b L xs) {S9 : mS}  {cs28 sl28 : Nat} (hcs28 : cs28 ≤ 80538) (hsl28 : sl28 ≤ 327207) {rc28 : mS → Nat → Nat → Nat → Nat → Int32 → Option (Rs Int32)} (hrc28 : ∀ (S : mS) (a1 : Nat) (a2 : Nat) (a3 : Nat) (a4 : Nat) (a5 : Int32), rc28 S a1 a2 a3 a4 a5 = some ((.inl (1 : Int32), S9) : Rs Int32) → XX C 9 (LQ C b) (cs28 + 40021) (sl28 + 160086) S 28 [(1, .ref a1), (2, .ref a2), (3, .ref a3), (4, .ref a4), (5, .int a5)] []) {S : mS} {a1 : Nat} {a2 : Nat} {a3 : Nat} {a4 : Nat} {a5 : Int32} (h : f_L_law_2961 L xs rc28 S a1 a2 a3 a4 a5 = some ((.inl (1 : Int32), S9) : Rs Int32)) : XX C 9 (LQ C b) (cs28) (sl28) S 2961 [(1, .ref a1), (2, .ref a2), (3, .ref a3), (4, .ref a4), (5, .int a5)] [] := by
  unfold f_L_law_2961 at h
  refine x_aload_n (pc := 2961) hC 0 dL_law_2961 rfl rfl ?_
  obtain ⟨g2, h⟩ := gd_some h
  refine x_sldk (pc := 2962) (v := (1 : Int32)) hC hX 4 dL_law_2962 dL_law_2963 rfl dL_law_2965 (by decide) dL_law_2966 g2 dL_law_2967 (fun x1 hx1 => ?_)
  replace h := lt_x hx1 h
  obtain ⟨g4, h⟩ := gd_some h
  refine x_sldk (pc := 2968) (v := (2 : Int32)) hC hX 4 dL_law_2968 dL_law_2969 rfl dL_law_2971 (by decide) dL_law_2972 g4 dL_law_2973 (fun x3 hx3 => ?_)
  replace h := lt_x hx3 h
  refine x_aload_n (pc := 2974) hC 2 dL_law_2974 rfl rfl ?_
  obtain ⟨o7, ho7, h⟩ := bd_some h
  refine x_callH (pc := 2975) (As := [.ref a1, .int x1, .int x3, .ref a3]) (rest := []) hC hl (c_L_next l hls ho7) lk_RL_334 dL_law_2975 rfl rfl (Nat.le_of_ble_eq_true rfl) ⟨Nat.le_of_ble_eq_true rfl, Nat.le_of_ble_eq_true rfl⟩ ⟨(show cs28 + 4 ≤ (625622 : Nat) from by omega), (show sl28 + 24 ≤ (7225229 : Nat) from by omega)⟩ ?_
  rcases o7 with ⟨x5 | E8, S6⟩
  · refine xk_i ?_
    replace h := bk_l h
    refine x_widen (ce' := cs28 + 4) (sl' := sl28 + 24) (Nat.le_refl _) (Nat.le_refl _) ?_
    refine x_istore (pc := 2978) hC dL_law_2978 (by decide) (by decide) rfl ?_
    refine x_aload_n (pc := 2980) hC 2 dL_law_2980 rfl rfl ?_
    obtain ⟨g10, h⟩ := gd_some h
    refine x_sldk (pc := 2981) (v := (1 : Int32)) hC hX 5 dL_law_2981 dL_law_2982 rfl dL_law_2984 (by decide) dL_law_2985 g10 dL_law_2986 (fun x9 hx9 => ?_)
    replace h := lt_x hx9 h
    obtain ⟨g12, h⟩ := gd_some h
    refine x_sldk (pc := 2987) (v := (2 : Int32)) hC hX 5 dL_law_2987 dL_law_2988 rfl dL_law_2990 (by decide) dL_law_2991 g12 dL_law_2992 (fun x11 hx11 => ?_)
    replace h := lt_x hx11 h
    obtain ⟨g13, h⟩ := gd_some h
    obtain ⟨o16, ho16, h⟩ := bd_some h
    refine x_callV (pc := 2993) (As := [.int x9, .int x11]) (rest := []) hC hl (c_X13_next l hls ho16) lk_RL_336 fc_19 g13 dL_law_2993 rfl rfl (Nat.le_of_ble_eq_true rfl) ⟨Nat.le_of_ble_eq_true rfl, Nat.le_of_ble_eq_true rfl⟩ ⟨(show cs28 + 5 ≤ (625622 : Nat) from by omega), (show sl28 + 36 ≤ (7225229 : Nat) from by omega)⟩ ?_
    rcases o16 with ⟨x14 | E17, S15⟩
    · refine xk_i ?_
      replace h := bk_l h
      refine x_widen (ce' := cs28 + 5) (sl' := sl28 + 36) (Nat.le_refl _) (Nat.le_refl _) ?_
      refine x_istore (pc := 2996) hC dL_law_2996 (by decide) (by decide) rfl ?_
      refine x_aload_n (pc := 2998) hC 3 dL_law_2998 rfl rfl ?_
      obtain ⟨g18, h⟩ := gd_some h
      obtain ⟨o21, ho21, h⟩ := bd_some h
      refine x_callV (pc := 2999) (As := []) (rest := []) hC hl (c_X13_thrown l hls ho21) lk_RL_193 fc_19 g18 dL_law_2999 rfl rfl (Nat.le_of_ble_eq_true rfl) ⟨Nat.le_of_ble_eq_true rfl, Nat.le_of_ble_eq_true rfl⟩ ⟨(show cs28 + 5 ≤ (625622 : Nat) from by omega), (show sl28 + 36 ≤ (7225229 : Nat) from by omega)⟩ ?_
      rcases o21 with ⟨x19 | E22, S20⟩
      · refine xk_i ?_
        replace h := bk_l h
        refine x_widen (ce' := cs28 + 5) (sl' := sl28 + 36) (Nat.le_refl _) (Nat.le_refl _) ?_
        refine x_iload (pc := 3002) hC 1 dL_law_3002 rfl ?_
        refine x_icmp_eq (pc := 3004) hC 3009 dL_law_3004 (by decide) (fun c31 => ?_) (fun c31 => ?_)
        · rw [if_pos c31] at h
          refine x_iload (pc := 3009) hC 1 dL_law_3009 rfl ?_
          refine x_if_ne (pc := 3011) hC 3026 dL_law_3011 (by decide) (fun c30 => ?_) (fun c30 => ?_)
          · rw [if_neg c30] at h
            refine x_pick [2, 3, 4, 5, 6] rfl ?_
            exact t_L_law_3026 hls hC hl hX (by omega) (by omega) hrc28 h
          · rw [if_pos c30] at h
            refine x_aload_n (pc := 3014) hC 4 dL_law_3014 rfl rfl ?_
            refine x_iconst (pc := 3015) (v := (0 : Int32)) hC dL_law_3015 (by decide) ?_
            obtain ⟨g25, h⟩ := gd_some h
            obtain ⟨g24, h⟩ := gd_some h
            refine x_laldv (pc := 3016) hC dL_law_3016 g25 g24 (fun x26 hx26 => ?_)
            replace h := lt_x hx26 h
            refine x_iload (pc := 3017) hC 0 dL_law_3017 rfl ?_
            refine x_i2lv (pc := 3019) hC dL_law_3019 (fun x27 hx27 => ?_)
            replace h := lt_x hx27 h
            refine x_lcmpv (pc := 3020) hC dL_law_3020 (fun x28 hx28 => ?_)
            replace h := lt_x hx28 h
            refine x_if_eq (pc := 3021) hC 3026 dL_law_3021 (by decide) (fun c29 => ?_) (fun c29 => ?_)
            · rw [if_pos c29] at h
              refine x_pick [2, 3, 4, 5, 6] rfl ?_
              exact t_L_law_3026 hls hC hl hX (by omega) (by omega) hrc28 h
            · rw [if_neg c29] at h
              refine x_iconst (pc := 3024) (v := (0 : Int32)) hC dL_law_3024 (by decide) ?_
              exact (law_no h).elim
        · rw [if_neg c31] at h
          refine x_iconst (pc := 3007) (v := (0 : Int32)) hC dL_law_3007 (by decide) ?_
          exact (law_no h).elim
      · exact absurd (congrArg Prod.fst (bk_r h)) (by intro q; cases q)
    · exact absurd (congrArg Prod.fst (bk_r h)) (by intro q; cases q)
  · exact absurd (congrArg Prod.fst (bk_r h)) (by intro q; cases q)
set_option maxHeartbeats 2000000 in
set_option maxRecDepth 100000 in
theorem t_L_law_3094 {l : Launch} (hls : l.stackTraces = false) {C : cT} (hC : CX C cL_law 9 yL_law rm_L_law) (hl : C.2.1 = l) {b L : Nat} {xs : Nat → Int32} (hX : LX C b L xs) {S9 : mS}  {cs28 sl28 : Nat} (hcs28 : cs28 ≤ 80538) (hsl28 : sl28 ≤ 327207) {rc28 : mS → Nat → Nat → Nat → Nat → Int32 → Option (Rs Int32)} (hrc28 : ∀ (S : mS) (a1 : Nat) (a2 : Nat) (a3 : Nat) (a4 : Nat) (a5 : Int32), rc28 S a1 a2 a3 a4 a5 = some ((.inl (1 : Int32), S9) : Rs Int32) → XX C 9 (LQ C b) (cs28 + 40021) (sl28 + 160086) S 28 [(1, .ref a1), (2, .ref a2), (3, .ref a3), (4, .ref a4), (5, .int a5)] []) {S : mS} {a1 : Nat} {a2 : Nat} {a3 : Nat} {a4 : Nat} {a5 : Int32} (h : f_L_law_3094 L xs rc28 S a1 a2 a3 a4 a5 = some ((.inl (1 : Int32), S9) : Rs Int32)) : XX C 9 (LQ C b) (cs28 + 5) (sl28 + 36) S 3094 [(1, .ref a1), (2, .ref a2), (3, .ref a3), (4, .ref a4), (5, .int a5)] [] := by
  unfold f_L_law_3094 at h
  refine x_goto (pc := 3094) hC 3632 dL_law_3094 (by decide) ?_
  refine x_pick [0, 1, 2, 3, 4] rfl ?_
  refine x_widen (ce' := cs28 + 40021) (sl' := sl28 + 160086) (by omega) (by omega) ?_
  exact t_L_law_3632 hls hC hl hX (by omega) (by omega) hrc28 h
set_option maxHeartbeats 2000000 in
set_option maxRecDepth 100000 in
theorem t_L_law_3029 {l : Launch} (hls : l.stackTraces = false) {C : cT} (hC : CX C cL_law 9 yL_law rm_L_law) (hl : C.2.1 = l) {b L : Nat} {xs : Nat → Int32} (hX : LX C b L xs) {S9 : mS}  {cs28 sl28 : Nat} (hcs28 : cs28 ≤ 80538) (hsl28 : sl28 ≤ 327207) {rc28 : mS → Nat → Nat → Nat → Nat → Int32 → Option (Rs Int32)} (hrc28 : ∀ (S : mS) (a1 : Nat) (a2 : Nat) (a3 : Nat) (a4 : Nat) (a5 : Int32), rc28 S a1 a2 a3 a4 a5 = some ((.inl (1 : Int32), S9) : Rs Int32) → XX C 9 (LQ C b) (cs28 + 40021) (sl28 + 160086) S 28 [(1, .ref a1), (2, .ref a2), (3, .ref a3), (4, .ref a4), (5, .int a5)] []) {S : mS} {a1 : Nat} {a2 : Nat} {a3 : Nat} {a4 : Nat} {a5 : Int32} (h : f_L_law_3029 L xs rc28 S a1 a2 a3 a4 a5 = some ((.inl (1 : Int32), S9) : Rs Int32)) : XX C 9 (LQ C b) (cs28) (sl28) S 3029 [(1, .ref a1), (2, .ref a2), (3, .ref a3), (4, .ref a4), (5, .int a5)] [] := by
  unfold f_L_law_3029 at h
  refine x_aload_n (pc := 3029) hC 0 dL_law_3029 rfl rfl ?_
  obtain ⟨g2, h⟩ := gd_some h
  refine x_sldk (pc := 3030) (v := (1 : Int32)) hC hX 4 dL_law_3030 dL_law_3031 rfl dL_law_3033 (by decide) dL_law_3034 g2 dL_law_3035 (fun x1 hx1 => ?_)
  replace h := lt_x hx1 h
  obtain ⟨g4, h⟩ := gd_some h
  refine x_sldk (pc := 3036) (v := (2 : Int32)) hC hX 4 dL_law_3036 dL_law_3037 rfl dL_law_3039 (by decide) dL_law_3040 g4 dL_law_3041 (fun x3 hx3 => ?_)
  replace h := lt_x hx3 h
  refine x_aload_n (pc := 3042) hC 2 dL_law_3042 rfl rfl ?_
  obtain ⟨o7, ho7, h⟩ := bd_some h
  refine x_callH (pc := 3043) (As := [.ref a1, .int x1, .int x3, .ref a3]) (rest := []) hC hl (c_L_cost l hls ho7) lk_RL_337 dL_law_3043 rfl rfl (Nat.le_of_ble_eq_true rfl) ⟨Nat.le_of_ble_eq_true rfl, Nat.le_of_ble_eq_true rfl⟩ ⟨(show cs28 + 4 ≤ (625622 : Nat) from by omega), (show sl28 + 24 ≤ (7225229 : Nat) from by omega)⟩ ?_
  rcases o7 with ⟨x5 | E8, S6⟩
  · refine xk_i ?_
    replace h := bk_l h
    refine x_widen (ce' := cs28 + 4) (sl' := sl28 + 24) (Nat.le_refl _) (Nat.le_refl _) ?_
    refine x_istore (pc := 3046) hC dL_law_3046 (by decide) (by decide) rfl ?_
    refine x_aload_n (pc := 3048) hC 2 dL_law_3048 rfl rfl ?_
    obtain ⟨g10, h⟩ := gd_some h
    refine x_sldk (pc := 3049) (v := (1 : Int32)) hC hX 5 dL_law_3049 dL_law_3050 rfl dL_law_3052 (by decide) dL_law_3053 g10 dL_law_3054 (fun x9 hx9 => ?_)
    replace h := lt_x hx9 h
    obtain ⟨g12, h⟩ := gd_some h
    refine x_sldk (pc := 3055) (v := (2 : Int32)) hC hX 5 dL_law_3055 dL_law_3056 rfl dL_law_3058 (by decide) dL_law_3059 g12 dL_law_3060 (fun x11 hx11 => ?_)
    replace h := lt_x hx11 h
    obtain ⟨g13, h⟩ := gd_some h
    obtain ⟨o16, ho16, h⟩ := bd_some h
    refine x_callV (pc := 3061) (As := [.int x9, .int x11]) (rest := []) hC hl (c_X13_cost l hls ho16) lk_RL_339 fc_19 g13 dL_law_3061 rfl rfl (Nat.le_of_ble_eq_true rfl) ⟨Nat.le_of_ble_eq_true rfl, Nat.le_of_ble_eq_true rfl⟩ ⟨(show cs28 + 5 ≤ (625622 : Nat) from by omega), (show sl28 + 36 ≤ (7225229 : Nat) from by omega)⟩ ?_
    rcases o16 with ⟨x14 | E17, S15⟩
    · refine xk_i ?_
      replace h := bk_l h
      refine x_widen (ce' := cs28 + 5) (sl' := sl28 + 36) (Nat.le_refl _) (Nat.le_refl _) ?_
      refine x_istore (pc := 3064) hC dL_law_3064 (by decide) (by decide) rfl ?_
      refine x_aload_n (pc := 3066) hC 3 dL_law_3066 rfl rfl ?_
      obtain ⟨g18, h⟩ := gd_some h
      obtain ⟨o21, ho21, h⟩ := bd_some h
      refine x_callV (pc := 3067) (As := []) (rest := []) hC hl (c_X13_thrown l hls ho21) lk_RL_193 fc_19 g18 dL_law_3067 rfl rfl (Nat.le_of_ble_eq_true rfl) ⟨Nat.le_of_ble_eq_true rfl, Nat.le_of_ble_eq_true rfl⟩ ⟨(show cs28 + 5 ≤ (625622 : Nat) from by omega), (show sl28 + 36 ≤ (7225229 : Nat) from by omega)⟩ ?_
      rcases o21 with ⟨x19 | E22, S20⟩
      · refine xk_i ?_
        replace h := bk_l h
        refine x_widen (ce' := cs28 + 5) (sl' := sl28 + 36) (Nat.le_refl _) (Nat.le_refl _) ?_
        refine x_iload (pc := 3070) hC 1 dL_law_3070 rfl ?_
        refine x_icmp_eq (pc := 3072) hC 3077 dL_law_3072 (by decide) (fun c31 => ?_) (fun c31 => ?_)
        · rw [if_pos c31] at h
          refine x_iload (pc := 3077) hC 1 dL_law_3077 rfl ?_
          refine x_if_ne (pc := 3079) hC 3094 dL_law_3079 (by decide) (fun c30 => ?_) (fun c30 => ?_)
          · rw [if_neg c30] at h
            refine x_pick [2, 3, 4, 5, 6] rfl ?_
            exact t_L_law_3094 hls hC hl hX (by omega) (by omega) hrc28 h
          · rw [if_pos c30] at h
            refine x_aload_n (pc := 3082) hC 4 dL_law_3082 rfl rfl ?_
            refine x_iconst (pc := 3083) (v := (0 : Int32)) hC dL_law_3083 (by decide) ?_
            obtain ⟨g25, h⟩ := gd_some h
            obtain ⟨g24, h⟩ := gd_some h
            refine x_laldv (pc := 3084) hC dL_law_3084 g25 g24 (fun x26 hx26 => ?_)
            replace h := lt_x hx26 h
            refine x_iload (pc := 3085) hC 0 dL_law_3085 rfl ?_
            refine x_i2lv (pc := 3087) hC dL_law_3087 (fun x27 hx27 => ?_)
            replace h := lt_x hx27 h
            refine x_lcmpv (pc := 3088) hC dL_law_3088 (fun x28 hx28 => ?_)
            replace h := lt_x hx28 h
            refine x_if_eq (pc := 3089) hC 3094 dL_law_3089 (by decide) (fun c29 => ?_) (fun c29 => ?_)
            · rw [if_pos c29] at h
              refine x_pick [2, 3, 4, 5, 6] rfl ?_
              exact t_L_law_3094 hls hC hl hX (by omega) (by omega) hrc28 h
            · rw [if_neg c29] at h
              refine x_iconst (pc := 3092) (v := (0 : Int32)) hC dL_law_3092 (by decide) ?_
              exact (law_no h).elim
        · rw [if_neg c31] at h
          refine x_iconst (pc := 3075) (v := (0 : Int32)) hC dL_law_3075 (by decide) ?_
          exact (law_no h).elim
      · exact absurd (congrArg Prod.fst (bk_r h)) (by intro q; cases q)
    · exact absurd (congrArg Prod.fst (bk_r h)) (by intro q; cases q)
  · exact absurd (congrArg Prod.fst (bk_r h)) (by intro q; cases q)
set_option maxHeartbeats 2000000 in
set_option maxRecDepth 100000 in
theorem t_L_law_3152 {l : Launch} (hls : l.stackTraces = false) {C : cT} (hC : CX C cL_law 9 yL_law rm_L_law) (hl : C.2.1 = l) {b L : Nat} {xs : Nat → Int32} (hX : LX C b L xs) {S9 : mS}  {cs28 sl28 : Nat} (hcs28 : cs28 ≤ 80538) (hsl28 : sl28 ≤ 327207) {rc28 : mS → Nat → Nat → Nat → Nat → Int32 → Option (Rs Int32)} (hrc28 : ∀ (S : mS) (a1 : Nat) (a2 : Nat) (a3 : Nat) (a4 : Nat) (a5 : Int32), rc28 S a1 a2 a3 a4 a5 = some ((.inl (1 : Int32), S9) : Rs Int32) → XX C 9 (LQ C b) (cs28 + 40021) (sl28 + 160086) S 28 [(1, .ref a1), (2, .ref a2), (3, .ref a3), (4, .ref a4), (5, .int a5)] []) {S : mS} {a1 : Nat} {a2 : Nat} {a3 : Nat} {a4 : Nat} {a5 : Int32} (h : f_L_law_3152 L xs rc28 S a1 a2 a3 a4 a5 = some ((.inl (1 : Int32), S9) : Rs Int32)) : XX C 9 (LQ C b) (cs28 + 7) (sl28 + 112) S 3152 [(1, .ref a1), (2, .ref a2), (3, .ref a3), (4, .ref a4), (5, .int a5)] [] := by
  unfold f_L_law_3152 at h
  refine x_goto (pc := 3152) hC 3632 dL_law_3152 (by decide) ?_
  refine x_pick [0, 1, 2, 3, 4] rfl ?_
  refine x_widen (ce' := cs28 + 40021) (sl' := sl28 + 160086) (by omega) (by omega) ?_
  exact t_L_law_3632 hls hC hl hX (by omega) (by omega) hrc28 h
set_option maxHeartbeats 2000000 in
set_option maxRecDepth 100000 in
theorem t_L_law_3097 {l : Launch} (hls : l.stackTraces = false) {C : cT} (hC : CX C cL_law 9 yL_law rm_L_law) (hl : C.2.1 = l) {b L : Nat} {xs : Nat → Int32} (hX : LX C b L xs) {S9 : mS}  {cs28 sl28 : Nat} (hcs28 : cs28 ≤ 80538) (hsl28 : sl28 ≤ 327207) {rc28 : mS → Nat → Nat → Nat → Nat → Int32 → Option (Rs Int32)} (hrc28 : ∀ (S : mS) (a1 : Nat) (a2 : Nat) (a3 : Nat) (a4 : Nat) (a5 : Int32), rc28 S a1 a2 a3 a4 a5 = some ((.inl (1 : Int32), S9) : Rs Int32) → XX C 9 (LQ C b) (cs28 + 40021) (sl28 + 160086) S 28 [(1, .ref a1), (2, .ref a2), (3, .ref a3), (4, .ref a4), (5, .int a5)] []) {S : mS} {a1 : Nat} {a2 : Nat} {a3 : Nat} {a4 : Nat} {a5 : Int32} (h : f_L_law_3097 L xs rc28 S a1 a2 a3 a4 a5 = some ((.inl (1 : Int32), S9) : Rs Int32)) : XX C 9 (LQ C b) (cs28) (sl28) S 3097 [(1, .ref a1), (2, .ref a2), (3, .ref a3), (4, .ref a4), (5, .int a5)] [] := by
  unfold f_L_law_3097 at h
  refine x_aload_n (pc := 3097) hC 0 dL_law_3097 rfl rfl ?_
  obtain ⟨g2, h⟩ := gd_some h
  refine x_sldk (pc := 3098) (v := (1 : Int32)) hC hX 4 dL_law_3098 dL_law_3099 rfl dL_law_3101 (by decide) dL_law_3102 g2 dL_law_3103 (fun x1 hx1 => ?_)
  replace h := lt_x hx1 h
  refine x_i2cv (pc := 3104) hC dL_law_3104 (fun x3 hx3 => ?_)
  replace h := lt_x hx3 h
  refine x_aload_n (pc := 3105) hC 2 dL_law_3105 rfl rfl ?_
  obtain ⟨o6, ho6, h⟩ := bd_some h
  refine x_callH (pc := 3106) (As := [.ref a1, .int x3, .ref a3]) (rest := []) hC hl (c_L_type l hls ho6) lk_RL_340 dL_law_3106 rfl rfl (Nat.le_of_ble_eq_true rfl) ⟨Nat.le_of_ble_eq_true rfl, Nat.le_of_ble_eq_true rfl⟩ ⟨(show cs28 + 1 ≤ (625622 : Nat) from by omega), (show sl28 + 6 ≤ (7225229 : Nat) from by omega)⟩ ?_
  rcases o6 with ⟨x4 | E7, S5⟩
  · refine xk_i ?_
    replace h := bk_l h
    refine x_widen (ce' := cs28 + 1) (sl' := sl28 + 6) (Nat.le_refl _) (Nat.le_refl _) ?_
    refine x_istore (pc := 3109) hC dL_law_3109 (by decide) (by decide) rfl ?_
    refine x_aload_n (pc := 3111) hC 2 dL_law_3111 rfl rfl ?_
    obtain ⟨g9, h⟩ := gd_some h
    refine x_sldk (pc := 3112) (v := (1 : Int32)) hC hX 5 dL_law_3112 dL_law_3113 rfl dL_law_3115 (by decide) dL_law_3116 g9 dL_law_3117 (fun x8 hx8 => ?_)
    replace h := lt_x hx8 h
    refine x_i2cv (pc := 3118) hC dL_law_3118 (fun x10 hx10 => ?_)
    replace h := lt_x hx10 h
    obtain ⟨g11, h⟩ := gd_some h
    obtain ⟨o14, ho14, h⟩ := bd_some h
    refine x_callV (pc := 3119) (As := [.int x10]) (rest := []) hC hl (c2_X13_type l hls ho14) lk_RL_342 fc_19 g11 dL_law_3119 rfl rfl (Nat.le_of_ble_eq_true rfl) ⟨Nat.le_of_ble_eq_true rfl, Nat.le_of_ble_eq_true rfl⟩ ⟨(show cs28 + 7 ≤ (625622 : Nat) from by omega), (show sl28 + 112 ≤ (7225229 : Nat) from by omega)⟩ ?_
    rcases o14 with ⟨x12 | E15, S13⟩
    · refine xk_i ?_
      replace h := bk_l h
      refine x_widen (ce' := cs28 + 7) (sl' := sl28 + 112) (Nat.le_refl _) (Nat.le_refl _) ?_
      refine x_istore (pc := 3122) hC dL_law_3122 (by decide) (by decide) rfl ?_
      refine x_aload_n (pc := 3124) hC 3 dL_law_3124 rfl rfl ?_
      obtain ⟨g16, h⟩ := gd_some h
      obtain ⟨o19, ho19, h⟩ := bd_some h
      refine x_callV (pc := 3125) (As := []) (rest := []) hC hl (c_X13_thrown l hls ho19) lk_RL_193 fc_19 g16 dL_law_3125 rfl rfl (Nat.le_of_ble_eq_true rfl) ⟨Nat.le_of_ble_eq_true rfl, Nat.le_of_ble_eq_true rfl⟩ ⟨(show cs28 + 7 ≤ (625622 : Nat) from by omega), (show sl28 + 112 ≤ (7225229 : Nat) from by omega)⟩ ?_
      rcases o19 with ⟨x17 | E20, S18⟩
      · refine xk_i ?_
        replace h := bk_l h
        refine x_widen (ce' := cs28 + 7) (sl' := sl28 + 112) (Nat.le_refl _) (Nat.le_refl _) ?_
        refine x_iload (pc := 3128) hC 1 dL_law_3128 rfl ?_
        refine x_icmp_eq (pc := 3130) hC 3135 dL_law_3130 (by decide) (fun c29 => ?_) (fun c29 => ?_)
        · rw [if_pos c29] at h
          refine x_iload (pc := 3135) hC 1 dL_law_3135 rfl ?_
          refine x_if_ne (pc := 3137) hC 3152 dL_law_3137 (by decide) (fun c28 => ?_) (fun c28 => ?_)
          · rw [if_neg c28] at h
            refine x_pick [2, 3, 4, 5, 6] rfl ?_
            exact t_L_law_3152 hls hC hl hX (by omega) (by omega) hrc28 h
          · rw [if_pos c28] at h
            refine x_aload_n (pc := 3140) hC 4 dL_law_3140 rfl rfl ?_
            refine x_iconst (pc := 3141) (v := (0 : Int32)) hC dL_law_3141 (by decide) ?_
            obtain ⟨g23, h⟩ := gd_some h
            obtain ⟨g22, h⟩ := gd_some h
            refine x_laldv (pc := 3142) hC dL_law_3142 g23 g22 (fun x24 hx24 => ?_)
            replace h := lt_x hx24 h
            refine x_iload (pc := 3143) hC 0 dL_law_3143 rfl ?_
            refine x_i2lv (pc := 3145) hC dL_law_3145 (fun x25 hx25 => ?_)
            replace h := lt_x hx25 h
            refine x_lcmpv (pc := 3146) hC dL_law_3146 (fun x26 hx26 => ?_)
            replace h := lt_x hx26 h
            refine x_if_eq (pc := 3147) hC 3152 dL_law_3147 (by decide) (fun c27 => ?_) (fun c27 => ?_)
            · rw [if_pos c27] at h
              refine x_pick [2, 3, 4, 5, 6] rfl ?_
              exact t_L_law_3152 hls hC hl hX (by omega) (by omega) hrc28 h
            · rw [if_neg c27] at h
              refine x_iconst (pc := 3150) (v := (0 : Int32)) hC dL_law_3150 (by decide) ?_
              exact (law_no h).elim
        · rw [if_neg c29] at h
          refine x_iconst (pc := 3133) (v := (0 : Int32)) hC dL_law_3133 (by decide) ?_
          exact (law_no h).elim
      · exact absurd (congrArg Prod.fst (bk_r h)) (by intro q; cases q)
    · exact absurd (congrArg Prod.fst (bk_r h)) (by intro q; cases q)
  · exact absurd (congrArg Prod.fst (bk_r h)) (by intro q; cases q)
set_option maxHeartbeats 2000000 in
set_option maxRecDepth 100000 in
theorem t_L_law_3155 {l : Launch} (hls : l.stackTraces = false) {C : cT} (hC : CX C cL_law 9 yL_law rm_L_law) (hl : C.2.1 = l) {b L : Nat} {xs : Nat → Int32} (hX : LX C b L xs) {S9 : mS}  {cs28 sl28 : Nat} (hcs28 : cs28 ≤ 80538) (hsl28 : sl28 ≤ 327207) {rc28 : mS → Nat → Nat → Nat → Nat → Int32 → Option (Rs Int32)} (hrc28 : ∀ (S : mS) (a1 : Nat) (a2 : Nat) (a3 : Nat) (a4 : Nat) (a5 : Int32), rc28 S a1 a2 a3 a4 a5 = some ((.inl (1 : Int32), S9) : Rs Int32) → XX C 9 (LQ C b) (cs28 + 40021) (sl28 + 160086) S 28 [(1, .ref a1), (2, .ref a2), (3, .ref a3), (4, .ref a4), (5, .int a5)] []) {S : mS} {a1 : Nat} {a2 : Nat} {a3 : Nat} {a4 : Nat} {a5 : Int32} (h : f_L_law_3155 L xs rc28 S a1 a2 a3 a4 a5 = some ((.inl (1 : Int32), S9) : Rs Int32)) : XX C 9 (LQ C b) (cs28) (sl28) S 3155 [(1, .ref a1), (2, .ref a2), (3, .ref a3), (4, .ref a4), (5, .int a5)] [] := by
  unfold f_L_law_3155 at h
  refine x_aload_n (pc := 3155) hC 0 dL_law_3155 rfl rfl ?_
  obtain ⟨g1, h⟩ := gd_some h
  obtain ⟨o4, ho4, h⟩ := bd_some h
  refine x_callV (pc := 3156) (As := []) (rest := []) hC hl (c_X10_wipe l hls ho4) lk_RL_343 fc_16 g1 dL_law_3156 rfl rfl (Nat.le_of_ble_eq_true rfl) ⟨Nat.le_of_ble_eq_true rfl, Nat.le_of_ble_eq_true rfl⟩ ⟨(show cs28 ≤ (625622 : Nat) from by omega), (show sl28 ≤ (7225229 : Nat) from by omega)⟩ ?_
  rcases o4 with ⟨x2 | E5, S3⟩
  · refine xk_i ?_
    replace h := bk_l h
    refine x_widen (ce' := cs28) (sl' := sl28) (Nat.le_refl _) (Nat.le_refl _) ?_
    refine x_aload_n (pc := 3159) hC 1 dL_law_3159 rfl rfl ?_
    obtain ⟨g6, h⟩ := gd_some h
    obtain ⟨o9, ho9, h⟩ := bd_some h
    refine x_callV (pc := 3160) (As := []) (rest := [.int x2]) hC hl (c2_X13_wipe l hls ho9) lk_RL_346 fc_19 g6 dL_law_3160 rfl rfl (Nat.le_of_ble_eq_true rfl) ⟨Nat.le_of_ble_eq_true rfl, Nat.le_of_ble_eq_true rfl⟩ ⟨(show cs28 ≤ (625622 : Nat) from by omega), (show sl28 ≤ (7225229 : Nat) from by omega)⟩ ?_
    rcases o9 with ⟨x7 | E10, S8⟩
    · refine xk_i ?_
      replace h := bk_l h
      refine x_widen (ce' := cs28) (sl' := sl28) (Nat.le_refl _) (Nat.le_refl _) ?_
      refine x_icmp_eq (pc := 3163) hC 3632 dL_law_3163 (by decide) (fun c11 => ?_) (fun c11 => ?_)
      · rw [if_pos c11] at h
        refine x_pick [0, 1, 2, 3, 4] rfl ?_
        refine x_widen (ce' := cs28 + 40021) (sl' := sl28 + 160086) (by omega) (by omega) ?_
        exact t_L_law_3632 hls hC hl hX (by omega) (by omega) hrc28 h
      · rw [if_neg c11] at h
        refine x_iconst (pc := 3166) (v := (0 : Int32)) hC dL_law_3166 (by decide) ?_
        exact (law_no h).elim
    · exact absurd (congrArg Prod.fst (bk_r h)) (by intro q; cases q)
  · exact absurd (congrArg Prod.fst (bk_r h)) (by intro q; cases q)
set_option maxHeartbeats 2000000 in
set_option maxRecDepth 100000 in
theorem t_L_law_3209 {l : Launch} (hls : l.stackTraces = false) {C : cT} (hC : CX C cL_law 9 yL_law rm_L_law) (hl : C.2.1 = l) {b L : Nat} {xs : Nat → Int32} (hX : LX C b L xs) {S9 : mS}  {cs28 sl28 : Nat} (hcs28 : cs28 ≤ 80538) (hsl28 : sl28 ≤ 327207) {rc28 : mS → Nat → Nat → Nat → Nat → Int32 → Option (Rs Int32)} (hrc28 : ∀ (S : mS) (a1 : Nat) (a2 : Nat) (a3 : Nat) (a4 : Nat) (a5 : Int32), rc28 S a1 a2 a3 a4 a5 = some ((.inl (1 : Int32), S9) : Rs Int32) → XX C 9 (LQ C b) (cs28 + 40021) (sl28 + 160086) S 28 [(1, .ref a1), (2, .ref a2), (3, .ref a3), (4, .ref a4), (5, .int a5)] []) {S : mS} {a1 : Nat} {a2 : Nat} {a3 : Nat} {a4 : Nat} {a5 : Int32} (h : f_L_law_3209 L xs rc28 S a1 a2 a3 a4 a5 = some ((.inl (1 : Int32), S9) : Rs Int32)) : XX C 9 (LQ C b) (cs28 + 18) (sl28 + 114) S 3209 [(1, .ref a1), (2, .ref a2), (3, .ref a3), (4, .ref a4), (5, .int a5)] [] := by
  unfold f_L_law_3209 at h
  refine x_goto (pc := 3209) hC 3632 dL_law_3209 (by decide) ?_
  refine x_pick [0, 1, 2, 3, 4] rfl ?_
  refine x_widen (ce' := cs28 + 40021) (sl' := sl28 + 160086) (by omega) (by omega) ?_
  exact t_L_law_3632 hls hC hl hX (by omega) (by omega) hrc28 h
set_option maxHeartbeats 2000000 in
set_option maxRecDepth 100000 in
theorem t_L_law_3168 {l : Launch} (hls : l.stackTraces = false) {C : cT} (hC : CX C cL_law 9 yL_law rm_L_law) (hl : C.2.1 = l) {b L : Nat} {xs : Nat → Int32} (hX : LX C b L xs) {S9 : mS}  {cs28 sl28 : Nat} (hcs28 : cs28 ≤ 80538) (hsl28 : sl28 ≤ 327207) {rc28 : mS → Nat → Nat → Nat → Nat → Int32 → Option (Rs Int32)} (hrc28 : ∀ (S : mS) (a1 : Nat) (a2 : Nat) (a3 : Nat) (a4 : Nat) (a5 : Int32), rc28 S a1 a2 a3 a4 a5 = some ((.inl (1 : Int32), S9) : Rs Int32) → XX C 9 (LQ C b) (cs28 + 40021) (sl28 + 160086) S 28 [(1, .ref a1), (2, .ref a2), (3, .ref a3), (4, .ref a4), (5, .int a5)] []) {S : mS} {a1 : Nat} {a2 : Nat} {a3 : Nat} {a4 : Nat} {a5 : Int32} (h : f_L_law_3168 L xs rc28 S a1 a2 a3 a4 a5 = some ((.inl (1 : Int32), S9) : Rs Int32)) : XX C 9 (LQ C b) (cs28) (sl28) S 3168 [(1, .ref a1), (2, .ref a2), (3, .ref a3), (4, .ref a4), (5, .int a5)] [] := by
  unfold f_L_law_3168 at h
  refine x_aload_n (pc := 3168) hC 0 dL_law_3168 rfl rfl ?_
  refine x_aload_n (pc := 3169) hC 2 dL_law_3169 rfl rfl ?_
  obtain ⟨o3, ho3, h⟩ := bd_some h
  refine x_callH (pc := 3170) (As := [.ref a1, .ref a3]) (rest := []) hC hl (c_L_perform l hls ho3) lk_RL_347 dL_law_3170 rfl rfl (Nat.le_of_ble_eq_true rfl) ⟨Nat.le_of_ble_eq_true rfl, Nat.le_of_ble_eq_true rfl⟩ ⟨(show cs28 + 1 ≤ (625622 : Nat) from by omega), (show sl28 + 6 ≤ (7225229 : Nat) from by omega)⟩ ?_
  rcases o3 with ⟨x1 | E4, S2⟩
  · refine xk_i ?_
    replace h := bk_l h
    refine x_widen (ce' := cs28 + 1) (sl' := sl28 + 6) (Nat.le_refl _) (Nat.le_refl _) ?_
    refine x_istore (pc := 3173) hC dL_law_3173 (by decide) (by decide) rfl ?_
    refine x_aload_n (pc := 3175) hC 2 dL_law_3175 rfl rfl ?_
    obtain ⟨g5, h⟩ := gd_some h
    obtain ⟨o8, ho8, h⟩ := bd_some h
    refine x_callV (pc := 3176) (As := []) (rest := []) hC hl (c2_X13_perform l hls ho8) lk_RL_349 fc_19 g5 dL_law_3176 rfl rfl (Nat.le_of_ble_eq_true rfl) ⟨Nat.le_of_ble_eq_true rfl, Nat.le_of_ble_eq_true rfl⟩ ⟨(show cs28 + 18 ≤ (625622 : Nat) from by omega), (show sl28 + 114 ≤ (7225229 : Nat) from by omega)⟩ ?_
    rcases o8 with ⟨x6 | E9, S7⟩
    · refine xk_i ?_
      replace h := bk_l h
      refine x_widen (ce' := cs28 + 18) (sl' := sl28 + 114) (Nat.le_refl _) (Nat.le_refl _) ?_
      refine x_istore (pc := 3179) hC dL_law_3179 (by decide) (by decide) rfl ?_
      refine x_aload_n (pc := 3181) hC 3 dL_law_3181 rfl rfl ?_
      obtain ⟨g10, h⟩ := gd_some h
      obtain ⟨o13, ho13, h⟩ := bd_some h
      refine x_callV (pc := 3182) (As := []) (rest := []) hC hl (c_X13_thrown l hls ho13) lk_RL_193 fc_19 g10 dL_law_3182 rfl rfl (Nat.le_of_ble_eq_true rfl) ⟨Nat.le_of_ble_eq_true rfl, Nat.le_of_ble_eq_true rfl⟩ ⟨(show cs28 + 18 ≤ (625622 : Nat) from by omega), (show sl28 + 114 ≤ (7225229 : Nat) from by omega)⟩ ?_
      rcases o13 with ⟨x11 | E14, S12⟩
      · refine xk_i ?_
        replace h := bk_l h
        refine x_widen (ce' := cs28 + 18) (sl' := sl28 + 114) (Nat.le_refl _) (Nat.le_refl _) ?_
        refine x_iload (pc := 3185) hC 1 dL_law_3185 rfl ?_
        refine x_icmp_eq (pc := 3187) hC 3192 dL_law_3187 (by decide) (fun c23 => ?_) (fun c23 => ?_)
        · rw [if_pos c23] at h
          refine x_iload (pc := 3192) hC 1 dL_law_3192 rfl ?_
          refine x_if_ne (pc := 3194) hC 3209 dL_law_3194 (by decide) (fun c22 => ?_) (fun c22 => ?_)
          · rw [if_neg c22] at h
            refine x_pick [2, 3, 4, 5, 6] rfl ?_
            exact t_L_law_3209 hls hC hl hX (by omega) (by omega) hrc28 h
          · rw [if_pos c22] at h
            refine x_aload_n (pc := 3197) hC 4 dL_law_3197 rfl rfl ?_
            refine x_iconst (pc := 3198) (v := (0 : Int32)) hC dL_law_3198 (by decide) ?_
            obtain ⟨g17, h⟩ := gd_some h
            obtain ⟨g16, h⟩ := gd_some h
            refine x_laldv (pc := 3199) hC dL_law_3199 g17 g16 (fun x18 hx18 => ?_)
            replace h := lt_x hx18 h
            refine x_iload (pc := 3200) hC 0 dL_law_3200 rfl ?_
            refine x_i2lv (pc := 3202) hC dL_law_3202 (fun x19 hx19 => ?_)
            replace h := lt_x hx19 h
            refine x_lcmpv (pc := 3203) hC dL_law_3203 (fun x20 hx20 => ?_)
            replace h := lt_x hx20 h
            refine x_if_eq (pc := 3204) hC 3209 dL_law_3204 (by decide) (fun c21 => ?_) (fun c21 => ?_)
            · rw [if_pos c21] at h
              refine x_pick [2, 3, 4, 5, 6] rfl ?_
              exact t_L_law_3209 hls hC hl hX (by omega) (by omega) hrc28 h
            · rw [if_neg c21] at h
              refine x_iconst (pc := 3207) (v := (0 : Int32)) hC dL_law_3207 (by decide) ?_
              exact (law_no h).elim
        · rw [if_neg c23] at h
          refine x_iconst (pc := 3190) (v := (0 : Int32)) hC dL_law_3190 (by decide) ?_
          exact (law_no h).elim
      · exact absurd (congrArg Prod.fst (bk_r h)) (by intro q; cases q)
    · exact absurd (congrArg Prod.fst (bk_r h)) (by intro q; cases q)
  · exact absurd (congrArg Prod.fst (bk_r h)) (by intro q; cases q)
set_option maxHeartbeats 2000000 in
set_option maxRecDepth 100000 in
theorem t_L_law_3265 {l : Launch} (hls : l.stackTraces = false) {C : cT} (hC : CX C cL_law 9 yL_law rm_L_law) (hl : C.2.1 = l) {b L : Nat} {xs : Nat → Int32} (hX : LX C b L xs) {S9 : mS}  {cs28 sl28 : Nat} (hcs28 : cs28 ≤ 80538) (hsl28 : sl28 ≤ 327207) {rc28 : mS → Nat → Nat → Nat → Nat → Int32 → Option (Rs Int32)} (hrc28 : ∀ (S : mS) (a1 : Nat) (a2 : Nat) (a3 : Nat) (a4 : Nat) (a5 : Int32), rc28 S a1 a2 a3 a4 a5 = some ((.inl (1 : Int32), S9) : Rs Int32) → XX C 9 (LQ C b) (cs28 + 40021) (sl28 + 160086) S 28 [(1, .ref a1), (2, .ref a2), (3, .ref a3), (4, .ref a4), (5, .int a5)] []) {S : mS} {a1 : Nat} {a2 : Nat} {a3 : Nat} {a4 : Nat} {a5 : Int32} (h : f_L_law_3265 L xs rc28 S a1 a2 a3 a4 a5 = some ((.inl (1 : Int32), S9) : Rs Int32)) : XX C 9 (LQ C b) (cs28 + 1) (sl28 + 6) S 3265 [(1, .ref a1), (2, .ref a2), (3, .ref a3), (4, .ref a4), (5, .int a5)] [] := by
  unfold f_L_law_3265 at h
  refine x_goto (pc := 3265) hC 3632 dL_law_3265 (by decide) ?_
  refine x_pick [0, 1, 2, 3, 4] rfl ?_
  refine x_widen (ce' := cs28 + 40021) (sl' := sl28 + 160086) (by omega) (by omega) ?_
  exact t_L_law_3632 hls hC hl hX (by omega) (by omega) hrc28 h
set_option maxHeartbeats 2000000 in
set_option maxRecDepth 100000 in
theorem t_L_law_3212 {l : Launch} (hls : l.stackTraces = false) {C : cT} (hC : CX C cL_law 9 yL_law rm_L_law) (hl : C.2.1 = l) {b L : Nat} {xs : Nat → Int32} (hX : LX C b L xs) {S9 : mS}  {cs28 sl28 : Nat} (hcs28 : cs28 ≤ 80538) (hsl28 : sl28 ≤ 327207) {rc28 : mS → Nat → Nat → Nat → Nat → Int32 → Option (Rs Int32)} (hrc28 : ∀ (S : mS) (a1 : Nat) (a2 : Nat) (a3 : Nat) (a4 : Nat) (a5 : Int32), rc28 S a1 a2 a3 a4 a5 = some ((.inl (1 : Int32), S9) : Rs Int32) → XX C 9 (LQ C b) (cs28 + 40021) (sl28 + 160086) S 28 [(1, .ref a1), (2, .ref a2), (3, .ref a3), (4, .ref a4), (5, .int a5)] []) {S : mS} {a1 : Nat} {a2 : Nat} {a3 : Nat} {a4 : Nat} {a5 : Int32} (h : f_L_law_3212 L xs rc28 S a1 a2 a3 a4 a5 = some ((.inl (1 : Int32), S9) : Rs Int32)) : XX C 9 (LQ C b) (cs28) (sl28) S 3212 [(1, .ref a1), (2, .ref a2), (3, .ref a3), (4, .ref a4), (5, .int a5)] [] := by
  unfold f_L_law_3212 at h
  refine x_aload_n (pc := 3212) hC 0 dL_law_3212 rfl rfl ?_
  obtain ⟨g2, h⟩ := gd_some h
  refine x_sldk (pc := 3213) (v := (1 : Int32)) hC hX 4 dL_law_3213 dL_law_3214 rfl dL_law_3216 (by decide) dL_law_3217 g2 dL_law_3218 (fun x1 hx1 => ?_)
  replace h := lt_x hx1 h
  refine x_aload_n (pc := 3219) hC 2 dL_law_3219 rfl rfl ?_
  obtain ⟨o5, ho5, h⟩ := bd_some h
  refine x_callH (pc := 3220) (As := [.ref a1, .int x1, .ref a3]) (rest := []) hC hl (c_L_cause l hls ho5) lk_RL_350 dL_law_3220 rfl rfl (Nat.le_of_ble_eq_true rfl) ⟨Nat.le_of_ble_eq_true rfl, Nat.le_of_ble_eq_true rfl⟩ ⟨(show cs28 + 1 ≤ (625622 : Nat) from by omega), (show sl28 + 6 ≤ (7225229 : Nat) from by omega)⟩ ?_
  rcases o5 with ⟨x3 | E6, S4⟩
  · refine xk_i ?_
    replace h := bk_l h
    refine x_widen (ce' := cs28 + 1) (sl' := sl28 + 6) (Nat.le_refl _) (Nat.le_refl _) ?_
    refine x_istore (pc := 3223) hC dL_law_3223 (by decide) (by decide) rfl ?_
    refine x_aload_n (pc := 3225) hC 2 dL_law_3225 rfl rfl ?_
    obtain ⟨g8, h⟩ := gd_some h
    refine x_sldk (pc := 3226) (v := (1 : Int32)) hC hX 5 dL_law_3226 dL_law_3227 rfl dL_law_3229 (by decide) dL_law_3230 g8 dL_law_3231 (fun x7 hx7 => ?_)
    replace h := lt_x hx7 h
    obtain ⟨g9, h⟩ := gd_some h
    obtain ⟨o12, ho12, h⟩ := bd_some h
    refine x_callV (pc := 3232) (As := [.int x7]) (rest := []) hC hl (c_X13_cause l hls ho12) lk_RL_352 fc_19 g9 dL_law_3232 rfl rfl (Nat.le_of_ble_eq_true rfl) ⟨Nat.le_of_ble_eq_true rfl, Nat.le_of_ble_eq_true rfl⟩ ⟨(show cs28 + 1 ≤ (625622 : Nat) from by omega), (show sl28 + 6 ≤ (7225229 : Nat) from by omega)⟩ ?_
    rcases o12 with ⟨x10 | E13, S11⟩
    · refine xk_i ?_
      replace h := bk_l h
      refine x_widen (ce' := cs28 + 1) (sl' := sl28 + 6) (Nat.le_refl _) (Nat.le_refl _) ?_
      refine x_istore (pc := 3235) hC dL_law_3235 (by decide) (by decide) rfl ?_
      refine x_aload_n (pc := 3237) hC 3 dL_law_3237 rfl rfl ?_
      obtain ⟨g14, h⟩ := gd_some h
      obtain ⟨o17, ho17, h⟩ := bd_some h
      refine x_callV (pc := 3238) (As := []) (rest := []) hC hl (c_X13_thrown l hls ho17) lk_RL_193 fc_19 g14 dL_law_3238 rfl rfl (Nat.le_of_ble_eq_true rfl) ⟨Nat.le_of_ble_eq_true rfl, Nat.le_of_ble_eq_true rfl⟩ ⟨(show cs28 + 1 ≤ (625622 : Nat) from by omega), (show sl28 + 6 ≤ (7225229 : Nat) from by omega)⟩ ?_
      rcases o17 with ⟨x15 | E18, S16⟩
      · refine xk_i ?_
        replace h := bk_l h
        refine x_widen (ce' := cs28 + 1) (sl' := sl28 + 6) (Nat.le_refl _) (Nat.le_refl _) ?_
        refine x_iload (pc := 3241) hC 1 dL_law_3241 rfl ?_
        refine x_icmp_eq (pc := 3243) hC 3248 dL_law_3243 (by decide) (fun c27 => ?_) (fun c27 => ?_)
        · rw [if_pos c27] at h
          refine x_iload (pc := 3248) hC 1 dL_law_3248 rfl ?_
          refine x_if_ne (pc := 3250) hC 3265 dL_law_3250 (by decide) (fun c26 => ?_) (fun c26 => ?_)
          · rw [if_neg c26] at h
            refine x_pick [2, 3, 4, 5, 6] rfl ?_
            exact t_L_law_3265 hls hC hl hX (by omega) (by omega) hrc28 h
          · rw [if_pos c26] at h
            refine x_aload_n (pc := 3253) hC 4 dL_law_3253 rfl rfl ?_
            refine x_iconst (pc := 3254) (v := (0 : Int32)) hC dL_law_3254 (by decide) ?_
            obtain ⟨g21, h⟩ := gd_some h
            obtain ⟨g20, h⟩ := gd_some h
            refine x_laldv (pc := 3255) hC dL_law_3255 g21 g20 (fun x22 hx22 => ?_)
            replace h := lt_x hx22 h
            refine x_iload (pc := 3256) hC 0 dL_law_3256 rfl ?_
            refine x_i2lv (pc := 3258) hC dL_law_3258 (fun x23 hx23 => ?_)
            replace h := lt_x hx23 h
            refine x_lcmpv (pc := 3259) hC dL_law_3259 (fun x24 hx24 => ?_)
            replace h := lt_x hx24 h
            refine x_if_eq (pc := 3260) hC 3265 dL_law_3260 (by decide) (fun c25 => ?_) (fun c25 => ?_)
            · rw [if_pos c25] at h
              refine x_pick [2, 3, 4, 5, 6] rfl ?_
              exact t_L_law_3265 hls hC hl hX (by omega) (by omega) hrc28 h
            · rw [if_neg c25] at h
              refine x_iconst (pc := 3263) (v := (0 : Int32)) hC dL_law_3263 (by decide) ?_
              exact (law_no h).elim
        · rw [if_neg c27] at h
          refine x_iconst (pc := 3246) (v := (0 : Int32)) hC dL_law_3246 (by decide) ?_
          exact (law_no h).elim
      · exact absurd (congrArg Prod.fst (bk_r h)) (by intro q; cases q)
    · exact absurd (congrArg Prod.fst (bk_r h)) (by intro q; cases q)
  · exact absurd (congrArg Prod.fst (bk_r h)) (by intro q; cases q)
set_option maxHeartbeats 2000000 in
set_option maxRecDepth 100000 in
theorem t_L_law_3321 {l : Launch} (hls : l.stackTraces = false) {C : cT} (hC : CX C cL_law 9 yL_law rm_L_law) (hl : C.2.1 = l) {b L : Nat} {xs : Nat → Int32} (hX : LX C b L xs) {S9 : mS}  {cs28 sl28 : Nat} (hcs28 : cs28 ≤ 80538) (hsl28 : sl28 ≤ 327207) {rc28 : mS → Nat → Nat → Nat → Nat → Int32 → Option (Rs Int32)} (hrc28 : ∀ (S : mS) (a1 : Nat) (a2 : Nat) (a3 : Nat) (a4 : Nat) (a5 : Int32), rc28 S a1 a2 a3 a4 a5 = some ((.inl (1 : Int32), S9) : Rs Int32) → XX C 9 (LQ C b) (cs28 + 40021) (sl28 + 160086) S 28 [(1, .ref a1), (2, .ref a2), (3, .ref a3), (4, .ref a4), (5, .int a5)] []) {S : mS} {a1 : Nat} {a2 : Nat} {a3 : Nat} {a4 : Nat} {a5 : Int32} (h : f_L_law_3321 L xs rc28 S a1 a2 a3 a4 a5 = some ((.inl (1 : Int32), S9) : Rs Int32)) : XX C 9 (LQ C b) (cs28 + 1) (sl28 + 6) S 3321 [(1, .ref a1), (2, .ref a2), (3, .ref a3), (4, .ref a4), (5, .int a5)] [] := by
  unfold f_L_law_3321 at h
  refine x_goto (pc := 3321) hC 3632 dL_law_3321 (by decide) ?_
  refine x_pick [0, 1, 2, 3, 4] rfl ?_
  refine x_widen (ce' := cs28 + 40021) (sl' := sl28 + 160086) (by omega) (by omega) ?_
  exact t_L_law_3632 hls hC hl hX (by omega) (by omega) hrc28 h
set_option maxHeartbeats 2000000 in
set_option maxRecDepth 100000 in
theorem t_L_law_3268 {l : Launch} (hls : l.stackTraces = false) {C : cT} (hC : CX C cL_law 9 yL_law rm_L_law) (hl : C.2.1 = l) {b L : Nat} {xs : Nat → Int32} (hX : LX C b L xs) {S9 : mS}  {cs28 sl28 : Nat} (hcs28 : cs28 ≤ 80538) (hsl28 : sl28 ≤ 327207) {rc28 : mS → Nat → Nat → Nat → Nat → Int32 → Option (Rs Int32)} (hrc28 : ∀ (S : mS) (a1 : Nat) (a2 : Nat) (a3 : Nat) (a4 : Nat) (a5 : Int32), rc28 S a1 a2 a3 a4 a5 = some ((.inl (1 : Int32), S9) : Rs Int32) → XX C 9 (LQ C b) (cs28 + 40021) (sl28 + 160086) S 28 [(1, .ref a1), (2, .ref a2), (3, .ref a3), (4, .ref a4), (5, .int a5)] []) {S : mS} {a1 : Nat} {a2 : Nat} {a3 : Nat} {a4 : Nat} {a5 : Int32} (h : f_L_law_3268 L xs rc28 S a1 a2 a3 a4 a5 = some ((.inl (1 : Int32), S9) : Rs Int32)) : XX C 9 (LQ C b) (cs28) (sl28) S 3268 [(1, .ref a1), (2, .ref a2), (3, .ref a3), (4, .ref a4), (5, .int a5)] [] := by
  unfold f_L_law_3268 at h
  refine x_aload_n (pc := 3268) hC 0 dL_law_3268 rfl rfl ?_
  obtain ⟨g2, h⟩ := gd_some h
  refine x_sldk (pc := 3269) (v := (1 : Int32)) hC hX 4 dL_law_3269 dL_law_3270 rfl dL_law_3272 (by decide) dL_law_3273 g2 dL_law_3274 (fun x1 hx1 => ?_)
  replace h := lt_x hx1 h
  refine x_aload_n (pc := 3275) hC 2 dL_law_3275 rfl rfl ?_
  obtain ⟨o5, ho5, h⟩ := bd_some h
  refine x_callH (pc := 3276) (As := [.ref a1, .int x1, .ref a3]) (rest := []) hC hl (c_L_causeNumber l hls ho5) lk_RL_353 dL_law_3276 rfl rfl (Nat.le_of_ble_eq_true rfl) ⟨Nat.le_of_ble_eq_true rfl, Nat.le_of_ble_eq_true rfl⟩ ⟨(show cs28 + 1 ≤ (625622 : Nat) from by omega), (show sl28 + 6 ≤ (7225229 : Nat) from by omega)⟩ ?_
  rcases o5 with ⟨x3 | E6, S4⟩
  · refine xk_i ?_
    replace h := bk_l h
    refine x_widen (ce' := cs28 + 1) (sl' := sl28 + 6) (Nat.le_refl _) (Nat.le_refl _) ?_
    refine x_istore (pc := 3279) hC dL_law_3279 (by decide) (by decide) rfl ?_
    refine x_aload_n (pc := 3281) hC 2 dL_law_3281 rfl rfl ?_
    obtain ⟨g8, h⟩ := gd_some h
    refine x_sldk (pc := 3282) (v := (1 : Int32)) hC hX 5 dL_law_3282 dL_law_3283 rfl dL_law_3285 (by decide) dL_law_3286 g8 dL_law_3287 (fun x7 hx7 => ?_)
    replace h := lt_x hx7 h
    obtain ⟨g9, h⟩ := gd_some h
    obtain ⟨o12, ho12, h⟩ := bd_some h
    refine x_callV (pc := 3288) (As := [.int x7]) (rest := []) hC hl (c_X13_causeNumber l hls ho12) lk_RL_355 fc_19 g9 dL_law_3288 rfl rfl (Nat.le_of_ble_eq_true rfl) ⟨Nat.le_of_ble_eq_true rfl, Nat.le_of_ble_eq_true rfl⟩ ⟨(show cs28 + 1 ≤ (625622 : Nat) from by omega), (show sl28 + 6 ≤ (7225229 : Nat) from by omega)⟩ ?_
    rcases o12 with ⟨x10 | E13, S11⟩
    · refine xk_i ?_
      replace h := bk_l h
      refine x_widen (ce' := cs28 + 1) (sl' := sl28 + 6) (Nat.le_refl _) (Nat.le_refl _) ?_
      refine x_istore (pc := 3291) hC dL_law_3291 (by decide) (by decide) rfl ?_
      refine x_aload_n (pc := 3293) hC 3 dL_law_3293 rfl rfl ?_
      obtain ⟨g14, h⟩ := gd_some h
      obtain ⟨o17, ho17, h⟩ := bd_some h
      refine x_callV (pc := 3294) (As := []) (rest := []) hC hl (c_X13_thrown l hls ho17) lk_RL_193 fc_19 g14 dL_law_3294 rfl rfl (Nat.le_of_ble_eq_true rfl) ⟨Nat.le_of_ble_eq_true rfl, Nat.le_of_ble_eq_true rfl⟩ ⟨(show cs28 + 1 ≤ (625622 : Nat) from by omega), (show sl28 + 6 ≤ (7225229 : Nat) from by omega)⟩ ?_
      rcases o17 with ⟨x15 | E18, S16⟩
      · refine xk_i ?_
        replace h := bk_l h
        refine x_widen (ce' := cs28 + 1) (sl' := sl28 + 6) (Nat.le_refl _) (Nat.le_refl _) ?_
        refine x_iload (pc := 3297) hC 1 dL_law_3297 rfl ?_
        refine x_icmp_eq (pc := 3299) hC 3304 dL_law_3299 (by decide) (fun c27 => ?_) (fun c27 => ?_)
        · rw [if_pos c27] at h
          refine x_iload (pc := 3304) hC 1 dL_law_3304 rfl ?_
          refine x_if_ne (pc := 3306) hC 3321 dL_law_3306 (by decide) (fun c26 => ?_) (fun c26 => ?_)
          · rw [if_neg c26] at h
            refine x_pick [2, 3, 4, 5, 6] rfl ?_
            exact t_L_law_3321 hls hC hl hX (by omega) (by omega) hrc28 h
          · rw [if_pos c26] at h
            refine x_aload_n (pc := 3309) hC 4 dL_law_3309 rfl rfl ?_
            refine x_iconst (pc := 3310) (v := (0 : Int32)) hC dL_law_3310 (by decide) ?_
            obtain ⟨g21, h⟩ := gd_some h
            obtain ⟨g20, h⟩ := gd_some h
            refine x_laldv (pc := 3311) hC dL_law_3311 g21 g20 (fun x22 hx22 => ?_)
            replace h := lt_x hx22 h
            refine x_iload (pc := 3312) hC 0 dL_law_3312 rfl ?_
            refine x_i2lv (pc := 3314) hC dL_law_3314 (fun x23 hx23 => ?_)
            replace h := lt_x hx23 h
            refine x_lcmpv (pc := 3315) hC dL_law_3315 (fun x24 hx24 => ?_)
            replace h := lt_x hx24 h
            refine x_if_eq (pc := 3316) hC 3321 dL_law_3316 (by decide) (fun c25 => ?_) (fun c25 => ?_)
            · rw [if_pos c25] at h
              refine x_pick [2, 3, 4, 5, 6] rfl ?_
              exact t_L_law_3321 hls hC hl hX (by omega) (by omega) hrc28 h
            · rw [if_neg c25] at h
              refine x_iconst (pc := 3319) (v := (0 : Int32)) hC dL_law_3319 (by decide) ?_
              exact (law_no h).elim
        · rw [if_neg c27] at h
          refine x_iconst (pc := 3302) (v := (0 : Int32)) hC dL_law_3302 (by decide) ?_
          exact (law_no h).elim
      · exact absurd (congrArg Prod.fst (bk_r h)) (by intro q; cases q)
    · exact absurd (congrArg Prod.fst (bk_r h)) (by intro q; cases q)
  · exact absurd (congrArg Prod.fst (bk_r h)) (by intro q; cases q)
set_option maxHeartbeats 2000000 in
set_option maxRecDepth 100000 in
theorem t_L_law_3388 {l : Launch} (hls : l.stackTraces = false) {C : cT} (hC : CX C cL_law 9 yL_law rm_L_law) (hl : C.2.1 = l) {b L : Nat} {xs : Nat → Int32} (hX : LX C b L xs) {S9 : mS}  {cs28 sl28 : Nat} (hcs28 : cs28 ≤ 80538) (hsl28 : sl28 ≤ 327207) {rc28 : mS → Nat → Nat → Nat → Nat → Int32 → Option (Rs Int32)} (hrc28 : ∀ (S : mS) (a1 : Nat) (a2 : Nat) (a3 : Nat) (a4 : Nat) (a5 : Int32), rc28 S a1 a2 a3 a4 a5 = some ((.inl (1 : Int32), S9) : Rs Int32) → XX C 9 (LQ C b) (cs28 + 40021) (sl28 + 160086) S 28 [(1, .ref a1), (2, .ref a2), (3, .ref a3), (4, .ref a4), (5, .int a5)] []) {S : mS} {a1 : Nat} {a2 : Nat} {a3 : Nat} {a4 : Nat} {a5 : Int32} (h : f_L_law_3388 L xs rc28 S a1 a2 a3 a4 a5 = some ((.inl (1 : Int32), S9) : Rs Int32)) : XX C 9 (LQ C b) (cs28 + 3) (sl28 + 18) S 3388 [(1, .ref a1), (2, .ref a2), (3, .ref a3), (4, .ref a4), (5, .int a5)] [] := by
  unfold f_L_law_3388 at h
  refine x_goto (pc := 3388) hC 3632 dL_law_3388 (by decide) ?_
  refine x_pick [0, 1, 2, 3, 4] rfl ?_
  refine x_widen (ce' := cs28 + 40021) (sl' := sl28 + 160086) (by omega) (by omega) ?_
  exact t_L_law_3632 hls hC hl hX (by omega) (by omega) hrc28 h
set_option maxHeartbeats 2000000 in
set_option maxRecDepth 100000 in
theorem t_L_law_3324 {l : Launch} (hls : l.stackTraces = false) {C : cT} (hC : CX C cL_law 9 yL_law rm_L_law) (hl : C.2.1 = l) {b L : Nat} {xs : Nat → Int32} (hX : LX C b L xs) {S9 : mS}  {cs28 sl28 : Nat} (hcs28 : cs28 ≤ 80538) (hsl28 : sl28 ≤ 327207) {rc28 : mS → Nat → Nat → Nat → Nat → Int32 → Option (Rs Int32)} (hrc28 : ∀ (S : mS) (a1 : Nat) (a2 : Nat) (a3 : Nat) (a4 : Nat) (a5 : Int32), rc28 S a1 a2 a3 a4 a5 = some ((.inl (1 : Int32), S9) : Rs Int32) → XX C 9 (LQ C b) (cs28 + 40021) (sl28 + 160086) S 28 [(1, .ref a1), (2, .ref a2), (3, .ref a3), (4, .ref a4), (5, .int a5)] []) {S : mS} {a1 : Nat} {a2 : Nat} {a3 : Nat} {a4 : Nat} {a5 : Int32} (h : f_L_law_3324 L xs rc28 S a1 a2 a3 a4 a5 = some ((.inl (1 : Int32), S9) : Rs Int32)) : XX C 9 (LQ C b) (cs28) (sl28) S 3324 [(1, .ref a1), (2, .ref a2), (3, .ref a3), (4, .ref a4), (5, .int a5)] [] := by
  unfold f_L_law_3324 at h
  refine x_aload_n (pc := 3324) hC 0 dL_law_3324 rfl rfl ?_
  obtain ⟨g2, h⟩ := gd_some h
  refine x_sldk (pc := 3325) (v := (1 : Int32)) hC hX 4 dL_law_3325 dL_law_3326 rfl dL_law_3328 (by decide) dL_law_3329 g2 dL_law_3330 (fun x1 hx1 => ?_)
  replace h := lt_x hx1 h
  obtain ⟨g4, h⟩ := gd_some h
  refine x_sldk (pc := 3331) (v := (2 : Int32)) hC hX 4 dL_law_3331 dL_law_3332 rfl dL_law_3334 (by decide) dL_law_3335 g4 dL_law_3336 (fun x3 hx3 => ?_)
  replace h := lt_x hx3 h
  refine x_aload_n (pc := 3337) hC 2 dL_law_3337 rfl rfl ?_
  obtain ⟨o7, ho7, h⟩ := bd_some h
  refine x_callH (pc := 3338) (As := [.ref a1, .int x1, .int x3, .ref a3]) (rest := []) hC hl (c_L_skip l hls ho7) lk_RL_356 dL_law_3338 rfl rfl (Nat.le_of_ble_eq_true rfl) ⟨Nat.le_of_ble_eq_true rfl, Nat.le_of_ble_eq_true rfl⟩ ⟨(show cs28 + 3 ≤ (625622 : Nat) from by omega), (show sl28 + 18 ≤ (7225229 : Nat) from by omega)⟩ ?_
  rcases o7 with ⟨x5 | E8, S6⟩
  · refine xk_i ?_
    replace h := bk_l h
    refine x_widen (ce' := cs28 + 3) (sl' := sl28 + 18) (Nat.le_refl _) (Nat.le_refl _) ?_
    refine x_istore (pc := 3341) hC dL_law_3341 (by decide) (by decide) rfl ?_
    refine x_aload_n (pc := 3343) hC 2 dL_law_3343 rfl rfl ?_
    obtain ⟨g10, h⟩ := gd_some h
    refine x_sldk (pc := 3344) (v := (1 : Int32)) hC hX 5 dL_law_3344 dL_law_3345 rfl dL_law_3347 (by decide) dL_law_3348 g10 dL_law_3349 (fun x9 hx9 => ?_)
    replace h := lt_x hx9 h
    obtain ⟨g12, h⟩ := gd_some h
    refine x_sldk (pc := 3350) (v := (2 : Int32)) hC hX 5 dL_law_3350 dL_law_3351 rfl dL_law_3353 (by decide) dL_law_3354 g12 dL_law_3355 (fun x11 hx11 => ?_)
    replace h := lt_x hx11 h
    obtain ⟨g13, h⟩ := gd_some h
    obtain ⟨o16, ho16, h⟩ := bd_some h
    refine x_callV (pc := 3356) (As := [.int x9, .int x11]) (rest := []) hC hl (c_X13_skip l hls ho16) lk_RL_358 fc_19 g13 dL_law_3356 rfl rfl (Nat.le_of_ble_eq_true rfl) ⟨Nat.le_of_ble_eq_true rfl, Nat.le_of_ble_eq_true rfl⟩ ⟨(show cs28 + 3 ≤ (625622 : Nat) from by omega), (show sl28 + 18 ≤ (7225229 : Nat) from by omega)⟩ ?_
    rcases o16 with ⟨x14 | E17, S15⟩
    · refine xk_j ?_
      replace h := bk_l h
      refine x_widen (ce' := cs28 + 3) (sl' := sl28 + 18) (Nat.le_refl _) (Nat.le_refl _) ?_
      refine x_lstore (pc := 3359) hC dL_law_3359 (by decide) (by decide) rfl ?_
      refine x_aload_n (pc := 3361) hC 3 dL_law_3361 rfl rfl ?_
      obtain ⟨g18, h⟩ := gd_some h
      obtain ⟨o21, ho21, h⟩ := bd_some h
      refine x_callV (pc := 3362) (As := []) (rest := []) hC hl (c_X13_thrown l hls ho21) lk_RL_193 fc_19 g18 dL_law_3362 rfl rfl (Nat.le_of_ble_eq_true rfl) ⟨Nat.le_of_ble_eq_true rfl, Nat.le_of_ble_eq_true rfl⟩ ⟨(show cs28 + 3 ≤ (625622 : Nat) from by omega), (show sl28 + 18 ≤ (7225229 : Nat) from by omega)⟩ ?_
      rcases o21 with ⟨x19 | E22, S20⟩
      · refine xk_i ?_
        replace h := bk_l h
        refine x_widen (ce' := cs28 + 3) (sl' := sl28 + 18) (Nat.le_refl _) (Nat.le_refl _) ?_
        refine x_iload (pc := 3365) hC 1 dL_law_3365 rfl ?_
        refine x_icmp_eq (pc := 3367) hC 3372 dL_law_3367 (by decide) (fun c30 => ?_) (fun c30 => ?_)
        · rw [if_pos c30] at h
          refine x_iload (pc := 3372) hC 1 dL_law_3372 rfl ?_
          refine x_if_ne (pc := 3374) hC 3388 dL_law_3374 (by decide) (fun c29 => ?_) (fun c29 => ?_)
          · rw [if_neg c29] at h
            refine x_pick [2, 3, 4, 5, 6] rfl ?_
            exact t_L_law_3388 hls hC hl hX (by omega) (by omega) hrc28 h
          · rw [if_pos c29] at h
            refine x_aload_n (pc := 3377) hC 4 dL_law_3377 rfl rfl ?_
            refine x_iconst (pc := 3378) (v := (0 : Int32)) hC dL_law_3378 (by decide) ?_
            obtain ⟨g25, h⟩ := gd_some h
            obtain ⟨g24, h⟩ := gd_some h
            refine x_laldv (pc := 3379) hC dL_law_3379 g25 g24 (fun x26 hx26 => ?_)
            replace h := lt_x hx26 h
            refine x_lload (pc := 3380) hC 0 dL_law_3380 rfl ?_
            refine x_lcmpv (pc := 3382) hC dL_law_3382 (fun x27 hx27 => ?_)
            replace h := lt_x hx27 h
            refine x_if_eq (pc := 3383) hC 3388 dL_law_3383 (by decide) (fun c28 => ?_) (fun c28 => ?_)
            · rw [if_pos c28] at h
              refine x_pick [2, 3, 4, 5, 6] rfl ?_
              exact t_L_law_3388 hls hC hl hX (by omega) (by omega) hrc28 h
            · rw [if_neg c28] at h
              refine x_iconst (pc := 3386) (v := (0 : Int32)) hC dL_law_3386 (by decide) ?_
              exact (law_no h).elim
        · rw [if_neg c30] at h
          refine x_iconst (pc := 3370) (v := (0 : Int32)) hC dL_law_3370 (by decide) ?_
          exact (law_no h).elim
      · exact absurd (congrArg Prod.fst (bk_r h)) (by intro q; cases q)
    · exact absurd (congrArg Prod.fst (bk_r h)) (by intro q; cases q)
  · exact absurd (congrArg Prod.fst (bk_r h)) (by intro q; cases q)
set_option maxHeartbeats 2000000 in
set_option maxRecDepth 100000 in
theorem t_L_law_3444 {l : Launch} (hls : l.stackTraces = false) {C : cT} (hC : CX C cL_law 9 yL_law rm_L_law) (hl : C.2.1 = l) {b L : Nat} {xs : Nat → Int32} (hX : LX C b L xs) {S9 : mS}  {cs28 sl28 : Nat} (hcs28 : cs28 ≤ 80538) (hsl28 : sl28 ≤ 327207) {rc28 : mS → Nat → Nat → Nat → Nat → Int32 → Option (Rs Int32)} (hrc28 : ∀ (S : mS) (a1 : Nat) (a2 : Nat) (a3 : Nat) (a4 : Nat) (a5 : Int32), rc28 S a1 a2 a3 a4 a5 = some ((.inl (1 : Int32), S9) : Rs Int32) → XX C 9 (LQ C b) (cs28 + 40021) (sl28 + 160086) S 28 [(1, .ref a1), (2, .ref a2), (3, .ref a3), (4, .ref a4), (5, .int a5)] []) {S : mS} {a1 : Nat} {a2 : Nat} {a3 : Nat} {a4 : Nat} {a5 : Int32} (h : f_L_law_3444 L xs rc28 S a1 a2 a3 a4 a5 = some ((.inl (1 : Int32), S9) : Rs Int32)) : XX C 9 (LQ C b) (cs28 + 2) (sl28 + 12) S 3444 [(1, .ref a1), (2, .ref a2), (3, .ref a3), (4, .ref a4), (5, .int a5)] [] := by
  unfold f_L_law_3444 at h
  refine x_goto (pc := 3444) hC 3632 dL_law_3444 (by decide) ?_
  refine x_pick [0, 1, 2, 3, 4] rfl ?_
  refine x_widen (ce' := cs28 + 40021) (sl' := sl28 + 160086) (by omega) (by omega) ?_
  exact t_L_law_3632 hls hC hl hX (by omega) (by omega) hrc28 h
set_option maxHeartbeats 2000000 in
set_option maxRecDepth 100000 in
theorem t_L_law_3391 {l : Launch} (hls : l.stackTraces = false) {C : cT} (hC : CX C cL_law 9 yL_law rm_L_law) (hl : C.2.1 = l) {b L : Nat} {xs : Nat → Int32} (hX : LX C b L xs) {S9 : mS}  {cs28 sl28 : Nat} (hcs28 : cs28 ≤ 80538) (hsl28 : sl28 ≤ 327207) {rc28 : mS → Nat → Nat → Nat → Nat → Int32 → Option (Rs Int32)} (hrc28 : ∀ (S : mS) (a1 : Nat) (a2 : Nat) (a3 : Nat) (a4 : Nat) (a5 : Int32), rc28 S a1 a2 a3 a4 a5 = some ((.inl (1 : Int32), S9) : Rs Int32) → XX C 9 (LQ C b) (cs28 + 40021) (sl28 + 160086) S 28 [(1, .ref a1), (2, .ref a2), (3, .ref a3), (4, .ref a4), (5, .int a5)] []) {S : mS} {a1 : Nat} {a2 : Nat} {a3 : Nat} {a4 : Nat} {a5 : Int32} (h : f_L_law_3391 L xs rc28 S a1 a2 a3 a4 a5 = some ((.inl (1 : Int32), S9) : Rs Int32)) : XX C 9 (LQ C b) (cs28) (sl28) S 3391 [(1, .ref a1), (2, .ref a2), (3, .ref a3), (4, .ref a4), (5, .int a5)] [] := by
  unfold f_L_law_3391 at h
  refine x_aload_n (pc := 3391) hC 0 dL_law_3391 rfl rfl ?_
  obtain ⟨g2, h⟩ := gd_some h
  refine x_sldk (pc := 3392) (v := (1 : Int32)) hC hX 4 dL_law_3392 dL_law_3393 rfl dL_law_3395 (by decide) dL_law_3396 g2 dL_law_3397 (fun x1 hx1 => ?_)
  replace h := lt_x hx1 h
  refine x_aload_n (pc := 3398) hC 2 dL_law_3398 rfl rfl ?_
  obtain ⟨o5, ho5, h⟩ := bd_some h
  refine x_callH (pc := 3399) (As := [.ref a1, .int x1, .ref a3]) (rest := []) hC hl (c_L_loseStick l hls ho5) lk_RL_359 dL_law_3399 rfl rfl (Nat.le_of_ble_eq_true rfl) ⟨Nat.le_of_ble_eq_true rfl, Nat.le_of_ble_eq_true rfl⟩ ⟨(show cs28 + 2 ≤ (625622 : Nat) from by omega), (show sl28 + 12 ≤ (7225229 : Nat) from by omega)⟩ ?_
  rcases o5 with ⟨x3 | E6, S4⟩
  · refine xk_i ?_
    replace h := bk_l h
    refine x_widen (ce' := cs28 + 2) (sl' := sl28 + 12) (Nat.le_refl _) (Nat.le_refl _) ?_
    refine x_istore (pc := 3402) hC dL_law_3402 (by decide) (by decide) rfl ?_
    refine x_aload_n (pc := 3404) hC 2 dL_law_3404 rfl rfl ?_
    obtain ⟨g8, h⟩ := gd_some h
    refine x_sldk (pc := 3405) (v := (1 : Int32)) hC hX 5 dL_law_3405 dL_law_3406 rfl dL_law_3408 (by decide) dL_law_3409 g8 dL_law_3410 (fun x7 hx7 => ?_)
    replace h := lt_x hx7 h
    obtain ⟨g9, h⟩ := gd_some h
    obtain ⟨o12, ho12, h⟩ := bd_some h
    refine x_callV (pc := 3411) (As := [.int x7]) (rest := []) hC hl (c_X13_loseStick l hls ho12) lk_RL_361 fc_19 g9 dL_law_3411 rfl rfl (Nat.le_of_ble_eq_true rfl) ⟨Nat.le_of_ble_eq_true rfl, Nat.le_of_ble_eq_true rfl⟩ ⟨(show cs28 + 2 ≤ (625622 : Nat) from by omega), (show sl28 + 12 ≤ (7225229 : Nat) from by omega)⟩ ?_
    rcases o12 with ⟨x10 | E13, S11⟩
    · refine xk_i ?_
      replace h := bk_l h
      refine x_widen (ce' := cs28 + 2) (sl' := sl28 + 12) (Nat.le_refl _) (Nat.le_refl _) ?_
      refine x_istore (pc := 3414) hC dL_law_3414 (by decide) (by decide) rfl ?_
      refine x_aload_n (pc := 3416) hC 3 dL_law_3416 rfl rfl ?_
      obtain ⟨g14, h⟩ := gd_some h
      obtain ⟨o17, ho17, h⟩ := bd_some h
      refine x_callV (pc := 3417) (As := []) (rest := []) hC hl (c_X13_thrown l hls ho17) lk_RL_193 fc_19 g14 dL_law_3417 rfl rfl (Nat.le_of_ble_eq_true rfl) ⟨Nat.le_of_ble_eq_true rfl, Nat.le_of_ble_eq_true rfl⟩ ⟨(show cs28 + 2 ≤ (625622 : Nat) from by omega), (show sl28 + 12 ≤ (7225229 : Nat) from by omega)⟩ ?_
      rcases o17 with ⟨x15 | E18, S16⟩
      · refine xk_i ?_
        replace h := bk_l h
        refine x_widen (ce' := cs28 + 2) (sl' := sl28 + 12) (Nat.le_refl _) (Nat.le_refl _) ?_
        refine x_iload (pc := 3420) hC 1 dL_law_3420 rfl ?_
        refine x_icmp_eq (pc := 3422) hC 3427 dL_law_3422 (by decide) (fun c27 => ?_) (fun c27 => ?_)
        · rw [if_pos c27] at h
          refine x_iload (pc := 3427) hC 1 dL_law_3427 rfl ?_
          refine x_if_ne (pc := 3429) hC 3444 dL_law_3429 (by decide) (fun c26 => ?_) (fun c26 => ?_)
          · rw [if_neg c26] at h
            refine x_pick [2, 3, 4, 5, 6] rfl ?_
            exact t_L_law_3444 hls hC hl hX (by omega) (by omega) hrc28 h
          · rw [if_pos c26] at h
            refine x_aload_n (pc := 3432) hC 4 dL_law_3432 rfl rfl ?_
            refine x_iconst (pc := 3433) (v := (0 : Int32)) hC dL_law_3433 (by decide) ?_
            obtain ⟨g21, h⟩ := gd_some h
            obtain ⟨g20, h⟩ := gd_some h
            refine x_laldv (pc := 3434) hC dL_law_3434 g21 g20 (fun x22 hx22 => ?_)
            replace h := lt_x hx22 h
            refine x_iload (pc := 3435) hC 0 dL_law_3435 rfl ?_
            refine x_i2lv (pc := 3437) hC dL_law_3437 (fun x23 hx23 => ?_)
            replace h := lt_x hx23 h
            refine x_lcmpv (pc := 3438) hC dL_law_3438 (fun x24 hx24 => ?_)
            replace h := lt_x hx24 h
            refine x_if_eq (pc := 3439) hC 3444 dL_law_3439 (by decide) (fun c25 => ?_) (fun c25 => ?_)
            · rw [if_pos c25] at h
              refine x_pick [2, 3, 4, 5, 6] rfl ?_
              exact t_L_law_3444 hls hC hl hX (by omega) (by omega) hrc28 h
            · rw [if_neg c25] at h
              refine x_iconst (pc := 3442) (v := (0 : Int32)) hC dL_law_3442 (by decide) ?_
              exact (law_no h).elim
        · rw [if_neg c27] at h
          refine x_iconst (pc := 3425) (v := (0 : Int32)) hC dL_law_3425 (by decide) ?_
          exact (law_no h).elim
      · exact absurd (congrArg Prod.fst (bk_r h)) (by intro q; cases q)
    · exact absurd (congrArg Prod.fst (bk_r h)) (by intro q; cases q)
  · exact absurd (congrArg Prod.fst (bk_r h)) (by intro q; cases q)
set_option maxHeartbeats 2000000 in
set_option maxRecDepth 100000 in
theorem t_L_law_3447 {l : Launch} (hls : l.stackTraces = false) {C : cT} (hC : CX C cL_law 9 yL_law rm_L_law) (hl : C.2.1 = l) {b L : Nat} {xs : Nat → Int32} (hX : LX C b L xs) {S9 : mS}  {cs28 sl28 : Nat} (hcs28 : cs28 ≤ 80538) (hsl28 : sl28 ≤ 327207) {rc28 : mS → Nat → Nat → Nat → Nat → Int32 → Option (Rs Int32)} (hrc28 : ∀ (S : mS) (a1 : Nat) (a2 : Nat) (a3 : Nat) (a4 : Nat) (a5 : Int32), rc28 S a1 a2 a3 a4 a5 = some ((.inl (1 : Int32), S9) : Rs Int32) → XX C 9 (LQ C b) (cs28 + 40021) (sl28 + 160086) S 28 [(1, .ref a1), (2, .ref a2), (3, .ref a3), (4, .ref a4), (5, .int a5)] []) {S : mS} {a1 : Nat} {a2 : Nat} {a3 : Nat} {a4 : Nat} {a5 : Int32} (h : f_L_law_3447 L xs rc28 S a1 a2 a3 a4 a5 = some ((.inl (1 : Int32), S9) : Rs Int32)) : XX C 9 (LQ C b) (cs28) (sl28) S 3447 [(1, .ref a1), (2, .ref a2), (3, .ref a3), (4, .ref a4), (5, .int a5)] [] := by
  unfold f_L_law_3447 at h
  refine x_aload_n (pc := 3447) hC 0 dL_law_3447 rfl rfl ?_
  obtain ⟨g1, h⟩ := gd_some h
  obtain ⟨o4, ho4, h⟩ := bd_some h
  refine x_callV (pc := 3448) (As := []) (rest := []) hC hl (c_X10_logged l hls ho4) lk_RL_362 fc_16 g1 dL_law_3448 rfl rfl (Nat.le_of_ble_eq_true rfl) ⟨Nat.le_of_ble_eq_true rfl, Nat.le_of_ble_eq_true rfl⟩ ⟨(show cs28 ≤ (625622 : Nat) from by omega), (show sl28 ≤ (7225229 : Nat) from by omega)⟩ ?_
  rcases o4 with ⟨x2 | E5, S3⟩
  · refine xk_i ?_
    replace h := bk_l h
    refine x_widen (ce' := cs28) (sl' := sl28) (Nat.le_refl _) (Nat.le_refl _) ?_
    refine x_aload_n (pc := 3451) hC 1 dL_law_3451 rfl rfl ?_
    obtain ⟨g6, h⟩ := gd_some h
    obtain ⟨o9, ho9, h⟩ := bd_some h
    refine x_callV (pc := 3452) (As := []) (rest := [.int x2]) hC hl (c_X13_logged l hls ho9) lk_RL_365 fc_19 g6 dL_law_3452 rfl rfl (Nat.le_of_ble_eq_true rfl) ⟨Nat.le_of_ble_eq_true rfl, Nat.le_of_ble_eq_true rfl⟩ ⟨(show cs28 ≤ (625622 : Nat) from by omega), (show sl28 ≤ (7225229 : Nat) from by omega)⟩ ?_
    rcases o9 with ⟨x7 | E10, S8⟩
    · refine xk_i ?_
      replace h := bk_l h
      refine x_widen (ce' := cs28) (sl' := sl28) (Nat.le_refl _) (Nat.le_refl _) ?_
      refine x_icmp_eq (pc := 3455) hC 3632 dL_law_3455 (by decide) (fun c11 => ?_) (fun c11 => ?_)
      · rw [if_pos c11] at h
        refine x_pick [0, 1, 2, 3, 4] rfl ?_
        refine x_widen (ce' := cs28 + 40021) (sl' := sl28 + 160086) (by omega) (by omega) ?_
        exact t_L_law_3632 hls hC hl hX (by omega) (by omega) hrc28 h
      · rw [if_neg c11] at h
        refine x_iconst (pc := 3458) (v := (0 : Int32)) hC dL_law_3458 (by decide) ?_
        exact (law_no h).elim
    · exact absurd (congrArg Prod.fst (bk_r h)) (by intro q; cases q)
  · exact absurd (congrArg Prod.fst (bk_r h)) (by intro q; cases q)
set_option maxHeartbeats 2000000 in
set_option maxRecDepth 100000 in
theorem t_L_law_3460 {l : Launch} (hls : l.stackTraces = false) {C : cT} (hC : CX C cL_law 9 yL_law rm_L_law) (hl : C.2.1 = l) {b L : Nat} {xs : Nat → Int32} (hX : LX C b L xs) {S9 : mS}  {cs28 sl28 : Nat} (hcs28 : cs28 ≤ 80538) (hsl28 : sl28 ≤ 327207) {rc28 : mS → Nat → Nat → Nat → Nat → Int32 → Option (Rs Int32)} (hrc28 : ∀ (S : mS) (a1 : Nat) (a2 : Nat) (a3 : Nat) (a4 : Nat) (a5 : Int32), rc28 S a1 a2 a3 a4 a5 = some ((.inl (1 : Int32), S9) : Rs Int32) → XX C 9 (LQ C b) (cs28 + 40021) (sl28 + 160086) S 28 [(1, .ref a1), (2, .ref a2), (3, .ref a3), (4, .ref a4), (5, .int a5)] []) {S : mS} {a1 : Nat} {a2 : Nat} {a3 : Nat} {a4 : Nat} {a5 : Int32} (h : f_L_law_3460 L xs rc28 S a1 a2 a3 a4 a5 = some ((.inl (1 : Int32), S9) : Rs Int32)) : XX C 9 (LQ C b) (cs28) (sl28) S 3460 [(1, .ref a1), (2, .ref a2), (3, .ref a3), (4, .ref a4), (5, .int a5)] [] := by
  unfold f_L_law_3460 at h
  refine x_aload_n (pc := 3460) hC 0 dL_law_3460 rfl rfl ?_
  obtain ⟨g1, h⟩ := gd_some h
  obtain ⟨o4, ho4, h⟩ := bd_some h
  refine x_callV (pc := 3461) (As := []) (rest := []) hC hl (c_X10_print l hls ho4) lk_RL_366 fc_16 g1 dL_law_3461 rfl rfl (Nat.le_of_ble_eq_true rfl) ⟨Nat.le_of_ble_eq_true rfl, Nat.le_of_ble_eq_true rfl⟩ ⟨(show cs28 ≤ (625622 : Nat) from by omega), (show sl28 ≤ (7225229 : Nat) from by omega)⟩ ?_
  rcases o4 with ⟨x2 | E5, S3⟩
  · refine xk_j ?_
    replace h := bk_l h
    refine x_widen (ce' := cs28) (sl' := sl28) (Nat.le_refl _) (Nat.le_refl _) ?_
    refine x_aload_n (pc := 3464) hC 1 dL_law_3464 rfl rfl ?_
    obtain ⟨g6, h⟩ := gd_some h
    obtain ⟨o9, ho9, h⟩ := bd_some h
    refine x_callV (pc := 3465) (As := []) (rest := [.long x2]) hC hl (c_X13_print l hls ho9) lk_RL_370 fc_19 g6 dL_law_3465 rfl rfl (Nat.le_of_ble_eq_true rfl) ⟨Nat.le_of_ble_eq_true rfl, Nat.le_of_ble_eq_true rfl⟩ ⟨(show cs28 + 1 ≤ (625622 : Nat) from by omega), (show sl28 + 6 ≤ (7225229 : Nat) from by omega)⟩ ?_
    rcases o9 with ⟨x7 | E10, S8⟩
    · refine xk_j ?_
      replace h := bk_l h
      refine x_widen (ce' := cs28 + 1) (sl' := sl28 + 6) (Nat.le_refl _) (Nat.le_refl _) ?_
      refine x_lcmpv (pc := 3468) hC dL_law_3468 (fun x11 hx11 => ?_)
      replace h := lt_x hx11 h
      refine x_if_eq (pc := 3469) hC 3632 dL_law_3469 (by decide) (fun c12 => ?_) (fun c12 => ?_)
      · rw [if_pos c12] at h
        refine x_pick [0, 1, 2, 3, 4] rfl ?_
        refine x_widen (ce' := cs28 + 40021) (sl' := sl28 + 160086) (by omega) (by omega) ?_
        exact t_L_law_3632 hls hC hl hX (by omega) (by omega) hrc28 h
      · rw [if_neg c12] at h
        refine x_iconst (pc := 3472) (v := (0 : Int32)) hC dL_law_3472 (by decide) ?_
        exact (law_no h).elim
    · exact absurd (congrArg Prod.fst (bk_r h)) (by intro q; cases q)
  · exact absurd (congrArg Prod.fst (bk_r h)) (by intro q; cases q)
set_option maxHeartbeats 2000000 in
set_option maxRecDepth 100000 in
theorem t_L_law_3474 {l : Launch} (hls : l.stackTraces = false) {C : cT} (hC : CX C cL_law 9 yL_law rm_L_law) (hl : C.2.1 = l) {b L : Nat} {xs : Nat → Int32} (hX : LX C b L xs) {S9 : mS}  {cs28 sl28 : Nat} (hcs28 : cs28 ≤ 80538) (hsl28 : sl28 ≤ 327207) {rc28 : mS → Nat → Nat → Nat → Nat → Int32 → Option (Rs Int32)} (hrc28 : ∀ (S : mS) (a1 : Nat) (a2 : Nat) (a3 : Nat) (a4 : Nat) (a5 : Int32), rc28 S a1 a2 a3 a4 a5 = some ((.inl (1 : Int32), S9) : Rs Int32) → XX C 9 (LQ C b) (cs28 + 40021) (sl28 + 160086) S 28 [(1, .ref a1), (2, .ref a2), (3, .ref a3), (4, .ref a4), (5, .int a5)] []) {S : mS} {a1 : Nat} {a2 : Nat} {a3 : Nat} {a4 : Nat} {a5 : Int32} (h : f_L_law_3474 L xs rc28 S a1 a2 a3 a4 a5 = some ((.inl (1 : Int32), S9) : Rs Int32)) : XX C 9 (LQ C b) (cs28) (sl28) S 3474 [(1, .ref a1), (2, .ref a2), (3, .ref a3), (4, .ref a4), (5, .int a5)] [] := by
  unfold f_L_law_3474 at h
  refine x_aload_n (pc := 3474) hC 0 dL_law_3474 rfl rfl ?_
  obtain ⟨g1, h⟩ := gd_some h
  obtain ⟨o4, ho4, h⟩ := bd_some h
  refine x_callV (pc := 3475) (As := []) (rest := []) hC hl (c_X10_printAgain l hls ho4) lk_RL_371 fc_16 g1 dL_law_3475 rfl rfl (Nat.le_of_ble_eq_true rfl) ⟨Nat.le_of_ble_eq_true rfl, Nat.le_of_ble_eq_true rfl⟩ ⟨(show cs28 ≤ (625622 : Nat) from by omega), (show sl28 ≤ (7225229 : Nat) from by omega)⟩ ?_
  rcases o4 with ⟨x2 | E5, S3⟩
  · refine xk_j ?_
    replace h := bk_l h
    refine x_widen (ce' := cs28) (sl' := sl28) (Nat.le_refl _) (Nat.le_refl _) ?_
    refine x_aload_n (pc := 3478) hC 1 dL_law_3478 rfl rfl ?_
    obtain ⟨g6, h⟩ := gd_some h
    obtain ⟨o9, ho9, h⟩ := bd_some h
    refine x_callV (pc := 3479) (As := []) (rest := [.long x2]) hC hl (c_X13_printAgain l hls ho9) lk_RL_374 fc_19 g6 dL_law_3479 rfl rfl (Nat.le_of_ble_eq_true rfl) ⟨Nat.le_of_ble_eq_true rfl, Nat.le_of_ble_eq_true rfl⟩ ⟨(show cs28 + 1 ≤ (625622 : Nat) from by omega), (show sl28 + 6 ≤ (7225229 : Nat) from by omega)⟩ ?_
    rcases o9 with ⟨x7 | E10, S8⟩
    · refine xk_j ?_
      replace h := bk_l h
      refine x_widen (ce' := cs28 + 1) (sl' := sl28 + 6) (Nat.le_refl _) (Nat.le_refl _) ?_
      refine x_lcmpv (pc := 3482) hC dL_law_3482 (fun x11 hx11 => ?_)
      replace h := lt_x hx11 h
      refine x_if_eq (pc := 3483) hC 3632 dL_law_3483 (by decide) (fun c12 => ?_) (fun c12 => ?_)
      · rw [if_pos c12] at h
        refine x_pick [0, 1, 2, 3, 4] rfl ?_
        refine x_widen (ce' := cs28 + 40021) (sl' := sl28 + 160086) (by omega) (by omega) ?_
        exact t_L_law_3632 hls hC hl hX (by omega) (by omega) hrc28 h
      · rw [if_neg c12] at h
        refine x_iconst (pc := 3486) (v := (0 : Int32)) hC dL_law_3486 (by decide) ?_
        exact (law_no h).elim
    · exact absurd (congrArg Prod.fst (bk_r h)) (by intro q; cases q)
  · exact absurd (congrArg Prod.fst (bk_r h)) (by intro q; cases q)
set_option maxHeartbeats 2000000 in
set_option maxRecDepth 100000 in
theorem t_L_law_3551 {l : Launch} (hls : l.stackTraces = false) {C : cT} (hC : CX C cL_law 9 yL_law rm_L_law) (hl : C.2.1 = l) {b L : Nat} {xs : Nat → Int32} (hX : LX C b L xs) {S9 : mS}  {cs28 sl28 : Nat} (hcs28 : cs28 ≤ 80538) (hsl28 : sl28 ≤ 327207) {rc28 : mS → Nat → Nat → Nat → Nat → Int32 → Option (Rs Int32)} (hrc28 : ∀ (S : mS) (a1 : Nat) (a2 : Nat) (a3 : Nat) (a4 : Nat) (a5 : Int32), rc28 S a1 a2 a3 a4 a5 = some ((.inl (1 : Int32), S9) : Rs Int32) → XX C 9 (LQ C b) (cs28 + 40021) (sl28 + 160086) S 28 [(1, .ref a1), (2, .ref a2), (3, .ref a3), (4, .ref a4), (5, .int a5)] []) {S : mS} {a1 : Nat} {a2 : Nat} {a3 : Nat} {a4 : Nat} {a5 : Int32} (h : f_L_law_3551 L xs rc28 S a1 a2 a3 a4 a5 = some ((.inl (1 : Int32), S9) : Rs Int32)) : XX C 9 (LQ C b) (cs28 + 1) (sl28 + 6) S 3551 [(1, .ref a1), (2, .ref a2), (3, .ref a3), (4, .ref a4), (5, .int a5)] [] := by
  unfold f_L_law_3551 at h
  refine x_goto (pc := 3551) hC 3632 dL_law_3551 (by decide) ?_
  refine x_pick [0, 1, 2, 3, 4] rfl ?_
  refine x_widen (ce' := cs28 + 40021) (sl' := sl28 + 160086) (by omega) (by omega) ?_
  exact t_L_law_3632 hls hC hl hX (by omega) (by omega) hrc28 h
set_option maxHeartbeats 2000000 in
set_option maxRecDepth 100000 in
theorem t_L_law_3488 {l : Launch} (hls : l.stackTraces = false) {C : cT} (hC : CX C cL_law 9 yL_law rm_L_law) (hl : C.2.1 = l) {b L : Nat} {xs : Nat → Int32} (hX : LX C b L xs) {S9 : mS}  {cs28 sl28 : Nat} (hcs28 : cs28 ≤ 80538) (hsl28 : sl28 ≤ 327207) {rc28 : mS → Nat → Nat → Nat → Nat → Int32 → Option (Rs Int32)} (hrc28 : ∀ (S : mS) (a1 : Nat) (a2 : Nat) (a3 : Nat) (a4 : Nat) (a5 : Int32), rc28 S a1 a2 a3 a4 a5 = some ((.inl (1 : Int32), S9) : Rs Int32) → XX C 9 (LQ C b) (cs28 + 40021) (sl28 + 160086) S 28 [(1, .ref a1), (2, .ref a2), (3, .ref a3), (4, .ref a4), (5, .int a5)] []) {S : mS} {a1 : Nat} {a2 : Nat} {a3 : Nat} {a4 : Nat} {a5 : Int32} (h : f_L_law_3488 L xs rc28 S a1 a2 a3 a4 a5 = some ((.inl (1 : Int32), S9) : Rs Int32)) : XX C 9 (LQ C b) (cs28) (sl28) S 3488 [(1, .ref a1), (2, .ref a2), (3, .ref a3), (4, .ref a4), (5, .int a5)] [] := by
  unfold f_L_law_3488 at h
  refine x_aload_n (pc := 3488) hC 0 dL_law_3488 rfl rfl ?_
  refine x_aload (pc := 3489) hC 3 dL_law_3489 rfl ?_
  obtain ⟨o3, ho3, h⟩ := bd_some h
  refine x_callH (pc := 3491) (As := [.ref a1, .ref a4]) (rest := []) hC hl (c_L_silentShare l hls ho3) lk_RL_375 dL_law_3491 rfl rfl (Nat.le_of_ble_eq_true rfl) ⟨Nat.le_of_ble_eq_true rfl, Nat.le_of_ble_eq_true rfl⟩ ⟨(show cs28 + 1 ≤ (625622 : Nat) from by omega), (show sl28 + 6 ≤ (7225229 : Nat) from by omega)⟩ ?_
  rcases o3 with ⟨x1 | E4, S2⟩
  · refine xk_i ?_
    replace h := bk_l h
    refine x_widen (ce' := cs28 + 1) (sl' := sl28 + 6) (Nat.le_refl _) (Nat.le_refl _) ?_
    refine x_istore (pc := 3494) hC dL_law_3494 (by decide) (by decide) rfl ?_
    refine x_aload_n (pc := 3496) hC 2 dL_law_3496 rfl rfl ?_
    obtain ⟨g5, h⟩ := gd_some h
    obtain ⟨o8, ho8, h⟩ := bd_some h
    refine x_callV (pc := 3497) (As := []) (rest := []) hC hl (c_X13_silentShare l hls ho8) lk_RL_378 fc_19 g5 dL_law_3497 rfl rfl (Nat.le_of_ble_eq_true rfl) ⟨Nat.le_of_ble_eq_true rfl, Nat.le_of_ble_eq_true rfl⟩ ⟨(show cs28 + 1 ≤ (625622 : Nat) from by omega), (show sl28 + 6 ≤ (7225229 : Nat) from by omega)⟩ ?_
    rcases o8 with ⟨x6 | E9, S7⟩
    · refine xk_f ?_
      replace h := bk_l h
      refine x_widen (ce' := cs28 + 1) (sl' := sl28 + 6) (Nat.le_refl _) (Nat.le_refl _) ?_
      refine x_fstore (pc := 3500) hC dL_law_3500 (by decide) (by decide) rfl ?_
      refine x_aload_n (pc := 3502) hC 3 dL_law_3502 rfl rfl ?_
      obtain ⟨g10, h⟩ := gd_some h
      obtain ⟨o13, ho13, h⟩ := bd_some h
      refine x_callV (pc := 3503) (As := []) (rest := []) hC hl (c_X13_thrown l hls ho13) lk_RL_193 fc_19 g10 dL_law_3503 rfl rfl (Nat.le_of_ble_eq_true rfl) ⟨Nat.le_of_ble_eq_true rfl, Nat.le_of_ble_eq_true rfl⟩ ⟨(show cs28 + 1 ≤ (625622 : Nat) from by omega), (show sl28 + 6 ≤ (7225229 : Nat) from by omega)⟩ ?_
      rcases o13 with ⟨x11 | E14, S12⟩
      · refine xk_i ?_
        replace h := bk_l h
        refine x_widen (ce' := cs28 + 1) (sl' := sl28 + 6) (Nat.le_refl _) (Nat.le_refl _) ?_
        refine x_iload (pc := 3506) hC 1 dL_law_3506 rfl ?_
        refine x_icmp_eq (pc := 3508) hC 3513 dL_law_3508 (by decide) (fun c16 => ?_) (fun c16 => ?_)
        · rw [if_pos c16] at h
          refine x_iload (pc := 3513) hC 1 dL_law_3513 rfl ?_
          refine x_if_ne (pc := 3515) hC 3551 dL_law_3515 (by decide) (fun c15 => ?_) (fun c15 => ?_)
          · rw [if_neg c15] at h
            refine x_pick [2, 3, 4, 5, 6] rfl ?_
            exact t_L_law_3551 hls hC hl hX (by omega) (by omega) hrc28 h
          · rw [if_pos c15] at h
            refine x_aload (pc := 3518) hC 5 dL_law_3518 rfl ?_
            refine x_iconst (pc := 3520) (v := (0 : Int32)) hC dL_law_3520 (by decide) ?_
            cases h
        · rw [if_neg c16] at h
          refine x_iconst (pc := 3511) (v := (0 : Int32)) hC dL_law_3511 (by decide) ?_
          exact (law_no h).elim
      · exact absurd (congrArg Prod.fst (bk_r h)) (by intro q; cases q)
    · exact absurd (congrArg Prod.fst (bk_r h)) (by intro q; cases q)
  · exact absurd (congrArg Prod.fst (bk_r h)) (by intro q; cases q)
set_option maxHeartbeats 2000000 in
set_option maxRecDepth 100000 in
theorem t_L_law_3616 {l : Launch} (hls : l.stackTraces = false) {C : cT} (hC : CX C cL_law 9 yL_law rm_L_law) (hl : C.2.1 = l) {b L : Nat} {xs : Nat → Int32} (hX : LX C b L xs) {S9 : mS}  {cs28 sl28 : Nat} (hcs28 : cs28 ≤ 80538) (hsl28 : sl28 ≤ 327207) {rc28 : mS → Nat → Nat → Nat → Nat → Int32 → Option (Rs Int32)} (hrc28 : ∀ (S : mS) (a1 : Nat) (a2 : Nat) (a3 : Nat) (a4 : Nat) (a5 : Int32), rc28 S a1 a2 a3 a4 a5 = some ((.inl (1 : Int32), S9) : Rs Int32) → XX C 9 (LQ C b) (cs28 + 40021) (sl28 + 160086) S 28 [(1, .ref a1), (2, .ref a2), (3, .ref a3), (4, .ref a4), (5, .int a5)] []) {S : mS} {a1 : Nat} {a2 : Nat} {a3 : Nat} {a4 : Nat} {a5 : Int32} (h : f_L_law_3616 L xs rc28 S a1 a2 a3 a4 a5 = some ((.inl (1 : Int32), S9) : Rs Int32)) : XX C 9 (LQ C b) (cs28 + 1) (sl28 + 6) S 3616 [(1, .ref a1), (2, .ref a2), (3, .ref a3), (4, .ref a4), (5, .int a5)] [] := by
  unfold f_L_law_3616 at h
  refine x_goto (pc := 3616) hC 3632 dL_law_3616 (by decide) ?_
  refine x_pick [0, 1, 2, 3, 4] rfl ?_
  refine x_widen (ce' := cs28 + 40021) (sl' := sl28 + 160086) (by omega) (by omega) ?_
  exact t_L_law_3632 hls hC hl hX (by omega) (by omega) hrc28 h
set_option maxHeartbeats 2000000 in
set_option maxRecDepth 100000 in
theorem t_L_law_3554 {l : Launch} (hls : l.stackTraces = false) {C : cT} (hC : CX C cL_law 9 yL_law rm_L_law) (hl : C.2.1 = l) {b L : Nat} {xs : Nat → Int32} (hX : LX C b L xs) {S9 : mS}  {cs28 sl28 : Nat} (hcs28 : cs28 ≤ 80538) (hsl28 : sl28 ≤ 327207) {rc28 : mS → Nat → Nat → Nat → Nat → Int32 → Option (Rs Int32)} (hrc28 : ∀ (S : mS) (a1 : Nat) (a2 : Nat) (a3 : Nat) (a4 : Nat) (a5 : Int32), rc28 S a1 a2 a3 a4 a5 = some ((.inl (1 : Int32), S9) : Rs Int32) → XX C 9 (LQ C b) (cs28 + 40021) (sl28 + 160086) S 28 [(1, .ref a1), (2, .ref a2), (3, .ref a3), (4, .ref a4), (5, .int a5)] []) {S : mS} {a1 : Nat} {a2 : Nat} {a3 : Nat} {a4 : Nat} {a5 : Int32} (h : f_L_law_3554 L xs rc28 S a1 a2 a3 a4 a5 = some ((.inl (1 : Int32), S9) : Rs Int32)) : XX C 9 (LQ C b) (cs28) (sl28) S 3554 [(1, .ref a1), (2, .ref a2), (3, .ref a3), (4, .ref a4), (5, .int a5)] [] := by
  unfold f_L_law_3554 at h
  refine x_aload_n (pc := 3554) hC 0 dL_law_3554 rfl rfl ?_
  refine x_aload (pc := 3555) hC 3 dL_law_3555 rfl ?_
  obtain ⟨o3, ho3, h⟩ := bd_some h
  refine x_callH (pc := 3557) (As := [.ref a1, .ref a4]) (rest := []) hC hl (c_L_meanLoudness l hls ho3) lk_RL_379 dL_law_3557 rfl rfl (Nat.le_of_ble_eq_true rfl) ⟨Nat.le_of_ble_eq_true rfl, Nat.le_of_ble_eq_true rfl⟩ ⟨(show cs28 + 1 ≤ (625622 : Nat) from by omega), (show sl28 + 6 ≤ (7225229 : Nat) from by omega)⟩ ?_
  rcases o3 with ⟨x1 | E4, S2⟩
  · refine xk_i ?_
    replace h := bk_l h
    refine x_widen (ce' := cs28 + 1) (sl' := sl28 + 6) (Nat.le_refl _) (Nat.le_refl _) ?_
    refine x_istore (pc := 3560) hC dL_law_3560 (by decide) (by decide) rfl ?_
    refine x_aload_n (pc := 3562) hC 2 dL_law_3562 rfl rfl ?_
    obtain ⟨g5, h⟩ := gd_some h
    obtain ⟨o8, ho8, h⟩ := bd_some h
    refine x_callV (pc := 3563) (As := []) (rest := []) hC hl (c_X13_meanLoudness l hls ho8) lk_RL_381 fc_19 g5 dL_law_3563 rfl rfl (Nat.le_of_ble_eq_true rfl) ⟨Nat.le_of_ble_eq_true rfl, Nat.le_of_ble_eq_true rfl⟩ ⟨(show cs28 + 1 ≤ (625622 : Nat) from by omega), (show sl28 + 6 ≤ (7225229 : Nat) from by omega)⟩ ?_
    rcases o8 with ⟨x6 | E9, S7⟩
    · refine xk_d ?_
      replace h := bk_l h
      refine x_widen (ce' := cs28 + 1) (sl' := sl28 + 6) (Nat.le_refl _) (Nat.le_refl _) ?_
      refine x_dstore (pc := 3566) hC dL_law_3566 (by decide) (by decide) rfl ?_
      refine x_aload_n (pc := 3568) hC 3 dL_law_3568 rfl rfl ?_
      obtain ⟨g10, h⟩ := gd_some h
      obtain ⟨o13, ho13, h⟩ := bd_some h
      refine x_callV (pc := 3569) (As := []) (rest := []) hC hl (c_X13_thrown l hls ho13) lk_RL_193 fc_19 g10 dL_law_3569 rfl rfl (Nat.le_of_ble_eq_true rfl) ⟨Nat.le_of_ble_eq_true rfl, Nat.le_of_ble_eq_true rfl⟩ ⟨(show cs28 + 1 ≤ (625622 : Nat) from by omega), (show sl28 + 6 ≤ (7225229 : Nat) from by omega)⟩ ?_
      rcases o13 with ⟨x11 | E14, S12⟩
      · refine xk_i ?_
        replace h := bk_l h
        refine x_widen (ce' := cs28 + 1) (sl' := sl28 + 6) (Nat.le_refl _) (Nat.le_refl _) ?_
        refine x_iload (pc := 3572) hC 1 dL_law_3572 rfl ?_
        refine x_icmp_eq (pc := 3574) hC 3579 dL_law_3574 (by decide) (fun c16 => ?_) (fun c16 => ?_)
        · rw [if_pos c16] at h
          refine x_iload (pc := 3579) hC 1 dL_law_3579 rfl ?_
          refine x_if_ne (pc := 3581) hC 3616 dL_law_3581 (by decide) (fun c15 => ?_) (fun c15 => ?_)
          · rw [if_neg c15] at h
            refine x_pick [2, 3, 4, 5, 6] rfl ?_
            exact t_L_law_3616 hls hC hl hX (by omega) (by omega) hrc28 h
          · rw [if_pos c15] at h
            refine x_aload (pc := 3584) hC 5 dL_law_3584 rfl ?_
            refine x_iconst (pc := 3586) (v := (0 : Int32)) hC dL_law_3586 (by decide) ?_
            cases h
        · rw [if_neg c16] at h
          refine x_iconst (pc := 3577) (v := (0 : Int32)) hC dL_law_3577 (by decide) ?_
          exact (law_no h).elim
      · exact absurd (congrArg Prod.fst (bk_r h)) (by intro q; cases q)
    · exact absurd (congrArg Prod.fst (bk_r h)) (by intro q; cases q)
  · exact absurd (congrArg Prod.fst (bk_r h)) (by intro q; cases q)
set_option maxHeartbeats 2000000 in
set_option maxRecDepth 100000 in
theorem t_L_law_3619 {l : Launch} (hls : l.stackTraces = false) {C : cT} (hC : CX C cL_law 9 yL_law rm_L_law) (hl : C.2.1 = l) {b L : Nat} {xs : Nat → Int32} (hX : LX C b L xs) {S9 : mS}  {cs28 sl28 : Nat} (hcs28 : cs28 ≤ 80538) (hsl28 : sl28 ≤ 327207) {rc28 : mS → Nat → Nat → Nat → Nat → Int32 → Option (Rs Int32)} (hrc28 : ∀ (S : mS) (a1 : Nat) (a2 : Nat) (a3 : Nat) (a4 : Nat) (a5 : Int32), rc28 S a1 a2 a3 a4 a5 = some ((.inl (1 : Int32), S9) : Rs Int32) → XX C 9 (LQ C b) (cs28 + 40021) (sl28 + 160086) S 28 [(1, .ref a1), (2, .ref a2), (3, .ref a3), (4, .ref a4), (5, .int a5)] []) {S : mS} {a1 : Nat} {a2 : Nat} {a3 : Nat} {a4 : Nat} {a5 : Int32} (h : f_L_law_3619 L xs rc28 S a1 a2 a3 a4 a5 = some ((.inl (1 : Int32), S9) : Rs Int32)) : XX C 9 (LQ C b) (cs28) (sl28) S 3619 [(1, .ref a1), (2, .ref a2), (3, .ref a3), (4, .ref a4), (5, .int a5)] [] := by
  unfold f_L_law_3619 at h
  refine x_aload_n (pc := 3619) hC 0 dL_law_3619 rfl rfl ?_
  obtain ⟨g1, h⟩ := gd_some h
  obtain ⟨o4, ho4, h⟩ := bd_some h
  refine x_callV (pc := 3620) (As := []) (rest := []) hC hl (c_X10_isSound l hls ho4) lk_RL_382 fc_16 g1 dL_law_3620 rfl rfl (Nat.le_of_ble_eq_true rfl) ⟨Nat.le_of_ble_eq_true rfl, Nat.le_of_ble_eq_true rfl⟩ ⟨(show cs28 ≤ (625622 : Nat) from by omega), (show sl28 ≤ (7225229 : Nat) from by omega)⟩ ?_
  rcases o4 with ⟨x2 | E5, S3⟩
  · refine xk_i ?_
    replace h := bk_l h
    refine x_widen (ce' := cs28) (sl' := sl28) (Nat.le_refl _) (Nat.le_refl _) ?_
    refine x_aload_n (pc := 3623) hC 1 dL_law_3623 rfl rfl ?_
    obtain ⟨g6, h⟩ := gd_some h
    obtain ⟨o9, ho9, h⟩ := bd_some h
    refine x_callV (pc := 3624) (As := []) (rest := [.int x2]) hC hl (c_X13_isSound l hls ho9) lk_RL_386 fc_19 g6 dL_law_3624 rfl rfl (Nat.le_of_ble_eq_true rfl) ⟨Nat.le_of_ble_eq_true rfl, Nat.le_of_ble_eq_true rfl⟩ ⟨(show cs28 ≤ (625622 : Nat) from by omega), (show sl28 ≤ (7225229 : Nat) from by omega)⟩ ?_
    rcases o9 with ⟨x7 | E10, S8⟩
    · refine xk_i ?_
      replace h := bk_l h
      refine x_widen (ce' := cs28) (sl' := sl28) (Nat.le_refl _) (Nat.le_refl _) ?_
      refine x_icmp_eq (pc := 3627) hC 3632 dL_law_3627 (by decide) (fun c11 => ?_) (fun c11 => ?_)
      · rw [if_pos c11] at h
        refine x_pick [0, 1, 2, 3, 4] rfl ?_
        refine x_widen (ce' := cs28 + 40021) (sl' := sl28 + 160086) (by omega) (by omega) ?_
        exact t_L_law_3632 hls hC hl hX (by omega) (by omega) hrc28 h
      · rw [if_neg c11] at h
        refine x_iconst (pc := 3630) (v := (0 : Int32)) hC dL_law_3630 (by decide) ?_
        exact (law_no h).elim
    · exact absurd (congrArg Prod.fst (bk_r h)) (by intro q; cases q)
  · exact absurd (congrArg Prod.fst (bk_r h)) (by intro q; cases q)
set_option maxHeartbeats 2000000 in
set_option maxRecDepth 100000 in
theorem t_L_law_28 {l : Launch} (hls : l.stackTraces = false) {C : cT} (hC : CX C cL_law 9 yL_law rm_L_law) (hl : C.2.1 = l) {b L : Nat} {xs : Nat → Int32} (hX : LX C b L xs) {S9 : mS}  : ∀ (k cs28 sl28 : Nat) (S : mS) (a1 : Nat) (a2 : Nat) (a3 : Nat) (a4 : Nat) (a5 : Int32), cs28 + k * 40021 ≤ 80538 → sl28 + k * 160086 ≤ 327207 → f_L_law_28 L xs  k S a1 a2 a3 a4 a5 = some ((.inl (1 : Int32), S9) : Rs Int32) → XX C 9 (LQ C b) cs28 sl28 S 28 [(1, .ref a1), (2, .ref a2), (3, .ref a3), (4, .ref a4), (5, .int a5)] [] := by
  intro k
  induction k with
  | zero => intro cs28 sl28 S a1 a2 a3 a4 a5 hcs28 hsl28 h; cases h
  | succ k ih =>
    intro cs28 sl28 S a1 a2 a3 a4 a5 hcs28 hsl28 h
    unfold f_L_law_28 at h
    refine x_iload (pc := 28) hC 4 dL_law_28 rfl ?_
    refine x_slen (pc := 30) hC hX dL_law_30 dL_law_31 (fun x1 hx1 => ?_)
    replace h := lt_x hx1 h
    refine x_bipush (pc := 32) (v := (8 : Int32)) hC dL_law_32 (by decide) ?_
    refine x_isubv (pc := 34) hC dL_law_34 (fun x2 hx2 => ?_)
    replace h := lt_x hx2 h
    refine x_icmp_gt (pc := 35) hC 3638 dL_law_35 (by decide) (fun c64 => ?_) (fun c64 => ?_)
    · rw [if_pos c64] at h
      refine x_iconst (pc := 3638) (v := (1 : Int32)) hC dL_law_3638 (by decide) ?_
      exact x_lawret (pc := 3639) hC hX dL_law_3639 (show cs28 ≤ (625622 : Nat) from by omega) (show sl28 ≤ (7225229 : Nat) from by omega)
    · rw [if_neg c64] at h
      obtain ⟨g4, h⟩ := gd_some h
      refine x_sld (pc := 38) hC hX 4 dL_law_38 dL_law_39 rfl g4 dL_law_41 (fun x3 hx3 => ?_)
      replace h := lt_x hx3 h
      refine x_bipush (pc := 42) (v := (63 : Int32)) hC dL_law_42 (by decide) ?_
      refine x_iandv (pc := 44) hC dL_law_44 (fun x5 hx5 => ?_)
      replace h := lt_x hx5 h
      by_cases c6 : x5 = (0 : Int32)
      · rw [if_pos c6] at h
        rw [c6]
        refine x_tableIn (pc := 45) hC 292 dL_law_45 (by decide) (by decide) rfl (by decide) ?_
        refine x_pick [0, 1, 2, 3, 4] rfl ?_
        exact t_L_law_292 hls hC hl hX (by omega) (by omega) (fun z0 z1 z2 z3 z4 z5 hz => ih (cs28 + 40021) (sl28 + 160086) z0 z1 z2 z3 z4 z5 (by omega) (by omega) hz) h
      rw [if_neg c6] at h
      by_cases c7 : x5 = (1 : Int32)
      · rw [if_pos c7] at h
        rw [c7]
        refine x_tableIn (pc := 45) hC 424 dL_law_45 (by decide) (by decide) rfl (by decide) ?_
        refine x_pick [0, 1, 2, 3, 4] rfl ?_
        exact t_L_law_424 hls hC hl hX (by omega) (by omega) (fun z0 z1 z2 z3 z4 z5 hz => ih (cs28 + 40021) (sl28 + 160086) z0 z1 z2 z3 z4 z5 (by omega) (by omega) hz) h
      rw [if_neg c7] at h
      by_cases c8 : x5 = (2 : Int32)
      · rw [if_pos c8] at h
        rw [c8]
        refine x_tableIn (pc := 45) hC 492 dL_law_45 (by decide) (by decide) rfl (by decide) ?_
        refine x_pick [0, 1, 2, 3, 4] rfl ?_
        exact t_L_law_492 hls hC hl hX (by omega) (by omega) (fun z0 z1 z2 z3 z4 z5 hz => ih (cs28 + 40021) (sl28 + 160086) z0 z1 z2 z3 z4 z5 (by omega) (by omega) hz) h
      rw [if_neg c8] at h
      by_cases c9 : x5 = (3 : Int32)
      · rw [if_pos c9] at h
        rw [c9]
        refine x_tableIn (pc := 45) hC 560 dL_law_45 (by decide) (by decide) rfl (by decide) ?_
        refine x_pick [0, 1, 2, 3, 4] rfl ?_
        exact t_L_law_560 hls hC hl hX (by omega) (by omega) (fun z0 z1 z2 z3 z4 z5 hz => ih (cs28 + 40021) (sl28 + 160086) z0 z1 z2 z3 z4 z5 (by omega) (by omega) hz) h
      rw [if_neg c9] at h
      by_cases c10 : x5 = (4 : Int32)
      · rw [if_pos c10] at h
        rw [c10]
        refine x_tableIn (pc := 45) hC 651 dL_law_45 (by decide) (by decide) rfl (by decide) ?_
        refine x_pick [0, 1, 2, 3, 4] rfl ?_
        exact t_L_law_651 hls hC hl hX (by omega) (by omega) (fun z0 z1 z2 z3 z4 z5 hz => ih (cs28 + 40021) (sl28 + 160086) z0 z1 z2 z3 z4 z5 (by omega) (by omega) hz) h
      rw [if_neg c10] at h
      by_cases c11 : x5 = (5 : Int32)
      · rw [if_pos c11] at h
        rw [c11]
        refine x_tableIn (pc := 45) hC 714 dL_law_45 (by decide) (by decide) rfl (by decide) ?_
        refine x_pick [0, 1, 2, 3, 4] rfl ?_
        exact t_L_law_714 hls hC hl hX (by omega) (by omega) (fun z0 z1 z2 z3 z4 z5 hz => ih (cs28 + 40021) (sl28 + 160086) z0 z1 z2 z3 z4 z5 (by omega) (by omega) hz) h
      rw [if_neg c11] at h
      by_cases c12 : x5 = (6 : Int32)
      · rw [if_pos c12] at h
        rw [c12]
        refine x_tableIn (pc := 45) hC 782 dL_law_45 (by decide) (by decide) rfl (by decide) ?_
        refine x_pick [0, 1, 2, 3, 4] rfl ?_
        exact t_L_law_782 hls hC hl hX (by omega) (by omega) (fun z0 z1 z2 z3 z4 z5 hz => ih (cs28 + 40021) (sl28 + 160086) z0 z1 z2 z3 z4 z5 (by omega) (by omega) hz) h
      rw [if_neg c12] at h
      by_cases c13 : x5 = (7 : Int32)
      · rw [if_pos c13] at h
        rw [c13]
        refine x_tableIn (pc := 45) hC 845 dL_law_45 (by decide) (by decide) rfl (by decide) ?_
        refine x_pick [0, 1, 2, 3, 4] rfl ?_
        exact t_L_law_845 hls hC hl hX (by omega) (by omega) (fun z0 z1 z2 z3 z4 z5 hz => ih (cs28 + 40021) (sl28 + 160086) z0 z1 z2 z3 z4 z5 (by omega) (by omega) hz) h
      rw [if_neg c13] at h
      by_cases c14 : x5 = (8 : Int32)
      · rw [if_pos c14] at h
        rw [c14]
        refine x_tableIn (pc := 45) hC 908 dL_law_45 (by decide) (by decide) rfl (by decide) ?_
        refine x_pick [0, 1, 2, 3, 4] rfl ?_
        exact t_L_law_908 hls hC hl hX (by omega) (by omega) (fun z0 z1 z2 z3 z4 z5 hz => ih (cs28 + 40021) (sl28 + 160086) z0 z1 z2 z3 z4 z5 (by omega) (by omega) hz) h
      rw [if_neg c14] at h
      by_cases c15 : x5 = (9 : Int32)
      · rw [if_pos c15] at h
        rw [c15]
        refine x_tableIn (pc := 45) hC 976 dL_law_45 (by decide) (by decide) rfl (by decide) ?_
        refine x_pick [0, 1, 2, 3, 4] rfl ?_
        exact t_L_law_976 hls hC hl hX (by omega) (by omega) (fun z0 z1 z2 z3 z4 z5 hz => ih (cs28 + 40021) (sl28 + 160086) z0 z1 z2 z3 z4 z5 (by omega) (by omega) hz) h
      rw [if_neg c15] at h
      by_cases c16 : x5 = (10 : Int32)
      · rw [if_pos c16] at h
        rw [c16]
        refine x_tableIn (pc := 45) hC 1044 dL_law_45 (by decide) (by decide) rfl (by decide) ?_
        refine x_pick [0, 1, 2, 3, 4] rfl ?_
        exact t_L_law_1044 hls hC hl hX (by omega) (by omega) (fun z0 z1 z2 z3 z4 z5 hz => ih (cs28 + 40021) (sl28 + 160086) z0 z1 z2 z3 z4 z5 (by omega) (by omega) hz) h
      rw [if_neg c16] at h
      by_cases c17 : x5 = (11 : Int32)
      · rw [if_pos c17] at h
        rw [c17]
        refine x_tableIn (pc := 45) hC 1107 dL_law_45 (by decide) (by decide) rfl (by decide) ?_
        refine x_pick [0, 1, 2, 3, 4] rfl ?_
        exact t_L_law_1107 hls hC hl hX (by omega) (by omega) (fun z0 z1 z2 z3 z4 z5 hz => ih (cs28 + 40021) (sl28 + 160086) z0 z1 z2 z3 z4 z5 (by omega) (by omega) hz) h
      rw [if_neg c17] at h
      by_cases c18 : x5 = (12 : Int32)
      · rw [if_pos c18] at h
        rw [c18]
        refine x_tableIn (pc := 45) hC 1175 dL_law_45 (by decide) (by decide) rfl (by decide) ?_
        refine x_pick [0, 1, 2, 3, 4] rfl ?_
        exact t_L_law_1175 hls hC hl hX (by omega) (by omega) (fun z0 z1 z2 z3 z4 z5 hz => ih (cs28 + 40021) (sl28 + 160086) z0 z1 z2 z3 z4 z5 (by omega) (by omega) hz) h
      rw [if_neg c18] at h
      by_cases c19 : x5 = (13 : Int32)
      · rw [if_pos c19] at h
        rw [c19]
        refine x_tableIn (pc := 45) hC 1243 dL_law_45 (by decide) (by decide) rfl (by decide) ?_
        refine x_pick [0, 1, 2, 3, 4] rfl ?_
        exact t_L_law_1243 hls hC hl hX (by omega) (by omega) (fun z0 z1 z2 z3 z4 z5 hz => ih (cs28 + 40021) (sl28 + 160086) z0 z1 z2 z3 z4 z5 (by omega) (by omega) hz) h
      rw [if_neg c19] at h
      by_cases c20 : x5 = (14 : Int32)
      · rw [if_pos c20] at h
        rw [c20]
        refine x_tableIn (pc := 45) hC 1311 dL_law_45 (by decide) (by decide) rfl (by decide) ?_
        refine x_pick [0, 1, 2, 3, 4] rfl ?_
        exact t_L_law_1311 hls hC hl hX (by omega) (by omega) (fun z0 z1 z2 z3 z4 z5 hz => ih (cs28 + 40021) (sl28 + 160086) z0 z1 z2 z3 z4 z5 (by omega) (by omega) hz) h
      rw [if_neg c20] at h
      by_cases c21 : x5 = (15 : Int32)
      · rw [if_pos c21] at h
        rw [c21]
        refine x_tableIn (pc := 45) hC 1374 dL_law_45 (by decide) (by decide) rfl (by decide) ?_
        refine x_pick [0, 1, 2, 3, 4] rfl ?_
        exact t_L_law_1374 hls hC hl hX (by omega) (by omega) (fun z0 z1 z2 z3 z4 z5 hz => ih (cs28 + 40021) (sl28 + 160086) z0 z1 z2 z3 z4 z5 (by omega) (by omega) hz) h
      rw [if_neg c21] at h
      by_cases c22 : x5 = (16 : Int32)
      · rw [if_pos c22] at h
        rw [c22]
        refine x_tableIn (pc := 45) hC 1465 dL_law_45 (by decide) (by decide) rfl (by decide) ?_
        refine x_pick [0, 1, 2, 3, 4] rfl ?_
        exact t_L_law_1465 hls hC hl hX (by omega) (by omega) (fun z0 z1 z2 z3 z4 z5 hz => ih (cs28 + 40021) (sl28 + 160086) z0 z1 z2 z3 z4 z5 (by omega) (by omega) hz) h
      rw [if_neg c22] at h
      by_cases c23 : x5 = (17 : Int32)
      · rw [if_pos c23] at h
        rw [c23]
        refine x_tableIn (pc := 45) hC 1520 dL_law_45 (by decide) (by decide) rfl (by decide) ?_
        refine x_pick [0, 1, 2, 3, 4] rfl ?_
        exact t_L_law_1520 hls hC hl hX (by omega) (by omega) (fun z0 z1 z2 z3 z4 z5 hz => ih (cs28 + 40021) (sl28 + 160086) z0 z1 z2 z3 z4 z5 (by omega) (by omega) hz) h
      rw [if_neg c23] at h
      by_cases c24 : x5 = (18 : Int32)
      · rw [if_pos c24] at h
        rw [c24]
        refine x_tableIn (pc := 45) hC 1576 dL_law_45 (by decide) (by decide) rfl (by decide) ?_
        refine x_pick [0, 1, 2, 3, 4] rfl ?_
        exact t_L_law_1576 hls hC hl hX (by omega) (by omega) (fun z0 z1 z2 z3 z4 z5 hz => ih (cs28 + 40021) (sl28 + 160086) z0 z1 z2 z3 z4 z5 (by omega) (by omega) hz) h
      rw [if_neg c24] at h
      by_cases c25 : x5 = (19 : Int32)
      · rw [if_pos c25] at h
        rw [c25]
        refine x_tableIn (pc := 45) hC 1639 dL_law_45 (by decide) (by decide) rfl (by decide) ?_
        refine x_pick [0, 1, 2, 3, 4] rfl ?_
        exact t_L_law_1639 hls hC hl hX (by omega) (by omega) (fun z0 z1 z2 z3 z4 z5 hz => ih (cs28 + 40021) (sl28 + 160086) z0 z1 z2 z3 z4 z5 (by omega) (by omega) hz) h
      rw [if_neg c25] at h
      by_cases c26 : x5 = (20 : Int32)
      · rw [if_pos c26] at h
        rw [c26]
        refine x_tableIn (pc := 45) hC 1695 dL_law_45 (by decide) (by decide) rfl (by decide) ?_
        refine x_pick [0, 1, 2, 3, 4] rfl ?_
        exact t_L_law_1695 hls hC hl hX (by omega) (by omega) (fun z0 z1 z2 z3 z4 z5 hz => ih (cs28 + 40021) (sl28 + 160086) z0 z1 z2 z3 z4 z5 (by omega) (by omega) hz) h
      rw [if_neg c26] at h
      by_cases c27 : x5 = (21 : Int32)
      · rw [if_pos c27] at h
        rw [c27]
        refine x_tableIn (pc := 45) hC 1763 dL_law_45 (by decide) (by decide) rfl (by decide) ?_
        refine x_pick [0, 1, 2, 3, 4] rfl ?_
        exact t_L_law_1763 hls hC hl hX (by omega) (by omega) (fun z0 z1 z2 z3 z4 z5 hz => ih (cs28 + 40021) (sl28 + 160086) z0 z1 z2 z3 z4 z5 (by omega) (by omega) hz) h
      rw [if_neg c27] at h
      by_cases c28 : x5 = (22 : Int32)
      · rw [if_pos c28] at h
        rw [c28]
        refine x_tableIn (pc := 45) hC 1843 dL_law_45 (by decide) (by decide) rfl (by decide) ?_
        refine x_pick [0, 1, 2, 3, 4] rfl ?_
        exact t_L_law_1843 hls hC hl hX (by omega) (by omega) (fun z0 z1 z2 z3 z4 z5 hz => ih (cs28 + 40021) (sl28 + 160086) z0 z1 z2 z3 z4 z5 (by omega) (by omega) hz) h
      rw [if_neg c28] at h
      by_cases c29 : x5 = (23 : Int32)
      · rw [if_pos c29] at h
        rw [c29]
        refine x_tableIn (pc := 45) hC 1913 dL_law_45 (by decide) (by decide) rfl (by decide) ?_
        refine x_pick [0, 1, 2, 3, 4] rfl ?_
        exact t_L_law_1913 hls hC hl hX (by omega) (by omega) (fun z0 z1 z2 z3 z4 z5 hz => ih (cs28 + 40021) (sl28 + 160086) z0 z1 z2 z3 z4 z5 (by omega) (by omega) hz) h
      rw [if_neg c29] at h
      by_cases c30 : x5 = (24 : Int32)
      · rw [if_pos c30] at h
        rw [c30]
        refine x_tableIn (pc := 45) hC 1969 dL_law_45 (by decide) (by decide) rfl (by decide) ?_
        refine x_pick [0, 1, 2, 3, 4] rfl ?_
        exact t_L_law_1969 hls hC hl hX (by omega) (by omega) (fun z0 z1 z2 z3 z4 z5 hz => ih (cs28 + 40021) (sl28 + 160086) z0 z1 z2 z3 z4 z5 (by omega) (by omega) hz) h
      rw [if_neg c30] at h
      by_cases c31 : x5 = (25 : Int32)
      · rw [if_pos c31] at h
        rw [c31]
        refine x_tableIn (pc := 45) hC 2025 dL_law_45 (by decide) (by decide) rfl (by decide) ?_
        refine x_pick [0, 1, 2, 3, 4] rfl ?_
        exact t_L_law_2025 hls hC hl hX (by omega) (by omega) (fun z0 z1 z2 z3 z4 z5 hz => ih (cs28 + 40021) (sl28 + 160086) z0 z1 z2 z3 z4 z5 (by omega) (by omega) hz) h
      rw [if_neg c31] at h
      by_cases c32 : x5 = (26 : Int32)
      · rw [if_pos c32] at h
        rw [c32]
        refine x_tableIn (pc := 45) hC 2107 dL_law_45 (by decide) (by decide) rfl (by decide) ?_
        refine x_pick [0, 1, 2, 3, 4] rfl ?_
        exact t_L_law_2107 hls hC hl hX (by omega) (by omega) (fun z0 z1 z2 z3 z4 z5 hz => ih (cs28 + 40021) (sl28 + 160086) z0 z1 z2 z3 z4 z5 (by omega) (by omega) hz) h
      rw [if_neg c32] at h
      by_cases c33 : x5 = (27 : Int32)
      · rw [if_pos c33] at h
        rw [c33]
        refine x_tableIn (pc := 45) hC 2163 dL_law_45 (by decide) (by decide) rfl (by decide) ?_
        refine x_pick [0, 1, 2, 3, 4] rfl ?_
        exact t_L_law_2163 hls hC hl hX (by omega) (by omega) (fun z0 z1 z2 z3 z4 z5 hz => ih (cs28 + 40021) (sl28 + 160086) z0 z1 z2 z3 z4 z5 (by omega) (by omega) hz) h
      rw [if_neg c33] at h
      by_cases c34 : x5 = (28 : Int32)
      · rw [if_pos c34] at h
        rw [c34]
        refine x_tableIn (pc := 45) hC 2231 dL_law_45 (by decide) (by decide) rfl (by decide) ?_
        refine x_pick [0, 1, 2, 3, 4] rfl ?_
        exact t_L_law_2231 hls hC hl hX (by omega) (by omega) (fun z0 z1 z2 z3 z4 z5 hz => ih (cs28 + 40021) (sl28 + 160086) z0 z1 z2 z3 z4 z5 (by omega) (by omega) hz) h
      rw [if_neg c34] at h
      by_cases c35 : x5 = (29 : Int32)
      · rw [if_pos c35] at h
        rw [c35]
        refine x_tableIn (pc := 45) hC 2287 dL_law_45 (by decide) (by decide) rfl (by decide) ?_
        refine x_pick [0, 1, 2, 3, 4] rfl ?_
        exact t_L_law_2287 hls hC hl hX (by omega) (by omega) (fun z0 z1 z2 z3 z4 z5 hz => ih (cs28 + 40021) (sl28 + 160086) z0 z1 z2 z3 z4 z5 (by omega) (by omega) hz) h
      rw [if_neg c35] at h
      by_cases c36 : x5 = (30 : Int32)
      · rw [if_pos c36] at h
        rw [c36]
        refine x_tableIn (pc := 45) hC 2300 dL_law_45 (by decide) (by decide) rfl (by decide) ?_
        refine x_pick [0, 1, 2, 3, 4] rfl ?_
        exact t_L_law_2300 hls hC hl hX (by omega) (by omega) (fun z0 z1 z2 z3 z4 z5 hz => ih (cs28 + 40021) (sl28 + 160086) z0 z1 z2 z3 z4 z5 (by omega) (by omega) hz) h
      rw [if_neg c36] at h
      by_cases c37 : x5 = (31 : Int32)
      · rw [if_pos c37] at h
        rw [c37]
        refine x_tableIn (pc := 45) hC 2313 dL_law_45 (by decide) (by decide) rfl (by decide) ?_
        refine x_pick [0, 1, 2, 3, 4] rfl ?_
        exact t_L_law_2313 hls hC hl hX (by omega) (by omega) (fun z0 z1 z2 z3 z4 z5 hz => ih (cs28 + 40021) (sl28 + 160086) z0 z1 z2 z3 z4 z5 (by omega) (by omega) hz) h
      rw [if_neg c37] at h
      by_cases c38 : x5 = (32 : Int32)
      · rw [if_pos c38] at h
        rw [c38]
        refine x_tableIn (pc := 45) hC 2326 dL_law_45 (by decide) (by decide) rfl (by decide) ?_
        refine x_pick [0, 1, 2, 3, 4] rfl ?_
        exact t_L_law_2326 hls hC hl hX (by omega) (by omega) (fun z0 z1 z2 z3 z4 z5 hz => ih (cs28 + 40021) (sl28 + 160086) z0 z1 z2 z3 z4 z5 (by omega) (by omega) hz) h
      rw [if_neg c38] at h
      by_cases c39 : x5 = (33 : Int32)
      · rw [if_pos c39] at h
        rw [c39]
        refine x_tableIn (pc := 45) hC 2384 dL_law_45 (by decide) (by decide) rfl (by decide) ?_
        refine x_pick [0, 1, 2, 3, 4] rfl ?_
        exact t_L_law_2384 hls hC hl hX (by omega) (by omega) (fun z0 z1 z2 z3 z4 z5 hz => ih (cs28 + 40021) (sl28 + 160086) z0 z1 z2 z3 z4 z5 (by omega) (by omega) hz) h
      rw [if_neg c39] at h
      by_cases c40 : x5 = (34 : Int32)
      · rw [if_pos c40] at h
        rw [c40]
        refine x_tableIn (pc := 45) hC 2452 dL_law_45 (by decide) (by decide) rfl (by decide) ?_
        refine x_pick [0, 1, 2, 3, 4] rfl ?_
        exact t_L_law_2452 hls hC hl hX (by omega) (by omega) (fun z0 z1 z2 z3 z4 z5 hz => ih (cs28 + 40021) (sl28 + 160086) z0 z1 z2 z3 z4 z5 (by omega) (by omega) hz) h
      rw [if_neg c40] at h
      by_cases c41 : x5 = (35 : Int32)
      · rw [if_pos c41] at h
        rw [c41]
        refine x_tableIn (pc := 45) hC 2520 dL_law_45 (by decide) (by decide) rfl (by decide) ?_
        refine x_pick [0, 1, 2, 3, 4] rfl ?_
        exact t_L_law_2520 hls hC hl hX (by omega) (by omega) (fun z0 z1 z2 z3 z4 z5 hz => ih (cs28 + 40021) (sl28 + 160086) z0 z1 z2 z3 z4 z5 (by omega) (by omega) hz) h
      rw [if_neg c41] at h
      by_cases c42 : x5 = (36 : Int32)
      · rw [if_pos c42] at h
        rw [c42]
        refine x_tableIn (pc := 45) hC 2600 dL_law_45 (by decide) (by decide) rfl (by decide) ?_
        refine x_pick [0, 1, 2, 3, 4] rfl ?_
        exact t_L_law_2600 hls hC hl hX (by omega) (by omega) (fun z0 z1 z2 z3 z4 z5 hz => ih (cs28 + 40021) (sl28 + 160086) z0 z1 z2 z3 z4 z5 (by omega) (by omega) hz) h
      rw [if_neg c42] at h
      by_cases c43 : x5 = (37 : Int32)
      · rw [if_pos c43] at h
        rw [c43]
        refine x_tableIn (pc := 45) hC 2656 dL_law_45 (by decide) (by decide) rfl (by decide) ?_
        refine x_pick [0, 1, 2, 3, 4] rfl ?_
        exact t_L_law_2656 hls hC hl hX (by omega) (by omega) (fun z0 z1 z2 z3 z4 z5 hz => ih (cs28 + 40021) (sl28 + 160086) z0 z1 z2 z3 z4 z5 (by omega) (by omega) hz) h
      rw [if_neg c43] at h
      by_cases c44 : x5 = (38 : Int32)
      · rw [if_pos c44] at h
        rw [c44]
        refine x_tableIn (pc := 45) hC 2712 dL_law_45 (by decide) (by decide) rfl (by decide) ?_
        refine x_pick [0, 1, 2, 3, 4] rfl ?_
        exact t_L_law_2712 hls hC hl hX (by omega) (by omega) (fun z0 z1 z2 z3 z4 z5 hz => ih (cs28 + 40021) (sl28 + 160086) z0 z1 z2 z3 z4 z5 (by omega) (by omega) hz) h
      rw [if_neg c44] at h
      by_cases c45 : x5 = (39 : Int32)
      · rw [if_pos c45] at h
        rw [c45]
        refine x_tableIn (pc := 45) hC 2768 dL_law_45 (by decide) (by decide) rfl (by decide) ?_
        refine x_pick [0, 1, 2, 3, 4] rfl ?_
        exact t_L_law_2768 hls hC hl hX (by omega) (by omega) (fun z0 z1 z2 z3 z4 z5 hz => ih (cs28 + 40021) (sl28 + 160086) z0 z1 z2 z3 z4 z5 (by omega) (by omega) hz) h
      rw [if_neg c45] at h
      by_cases c46 : x5 = (40 : Int32)
      · rw [if_pos c46] at h
        rw [c46]
        refine x_tableIn (pc := 45) hC 2836 dL_law_45 (by decide) (by decide) rfl (by decide) ?_
        refine x_pick [0, 1, 2, 3, 4] rfl ?_
        exact t_L_law_2836 hls hC hl hX (by omega) (by omega) (fun z0 z1 z2 z3 z4 z5 hz => ih (cs28 + 40021) (sl28 + 160086) z0 z1 z2 z3 z4 z5 (by omega) (by omega) hz) h
      rw [if_neg c46] at h
      by_cases c47 : x5 = (41 : Int32)
      · rw [if_pos c47] at h
        rw [c47]
        refine x_tableIn (pc := 45) hC 2849 dL_law_45 (by decide) (by decide) rfl (by decide) ?_
        refine x_pick [0, 1, 2, 3, 4] rfl ?_
        exact t_L_law_2849 hls hC hl hX (by omega) (by omega) (fun z0 z1 z2 z3 z4 z5 hz => ih (cs28 + 40021) (sl28 + 160086) z0 z1 z2 z3 z4 z5 (by omega) (by omega) hz) h
      rw [if_neg c47] at h
      by_cases c48 : x5 = (42 : Int32)
      · rw [if_pos c48] at h
        rw [c48]
        refine x_tableIn (pc := 45) hC 2917 dL_law_45 (by decide) (by decide) rfl (by decide) ?_
        refine x_pick [0, 1, 2, 3, 4] rfl ?_
        exact t_L_law_2917 hls hC hl hX (by omega) (by omega) (fun z0 z1 z2 z3 z4 z5 hz => ih (cs28 + 40021) (sl28 + 160086) z0 z1 z2 z3 z4 z5 (by omega) (by omega) hz) h
      rw [if_neg c48] at h
      by_cases c49 : x5 = (43 : Int32)
      · rw [if_pos c49] at h
        rw [c49]
        refine x_tableIn (pc := 45) hC 2961 dL_law_45 (by decide) (by decide) rfl (by decide) ?_
        refine x_pick [0, 1, 2, 3, 4] rfl ?_
        exact t_L_law_2961 hls hC hl hX (by omega) (by omega) (fun z0 z1 z2 z3 z4 z5 hz => ih (cs28 + 40021) (sl28 + 160086) z0 z1 z2 z3 z4 z5 (by omega) (by omega) hz) h
      rw [if_neg c49] at h
      by_cases c50 : x5 = (44 : Int32)
      · rw [if_pos c50] at h
        rw [c50]
        refine x_tableIn (pc := 45) hC 3029 dL_law_45 (by decide) (by decide) rfl (by decide) ?_
        refine x_pick [0, 1, 2, 3, 4] rfl ?_
        exact t_L_law_3029 hls hC hl hX (by omega) (by omega) (fun z0 z1 z2 z3 z4 z5 hz => ih (cs28 + 40021) (sl28 + 160086) z0 z1 z2 z3 z4 z5 (by omega) (by omega) hz) h
      rw [if_neg c50] at h
      by_cases c51 : x5 = (45 : Int32)
      · rw [if_pos c51] at h
        rw [c51]
        refine x_tableIn (pc := 45) hC 3097 dL_law_45 (by decide) (by decide) rfl (by decide) ?_
        refine x_pick [0, 1, 2, 3, 4] rfl ?_
        exact t_L_law_3097 hls hC hl hX (by omega) (by omega) (fun z0 z1 z2 z3 z4 z5 hz => ih (cs28 + 40021) (sl28 + 160086) z0 z1 z2 z3 z4 z5 (by omega) (by omega) hz) h
      rw [if_neg c51] at h
      by_cases c52 : x5 = (46 : Int32)
      · rw [if_pos c52] at h
        rw [c52]
        refine x_tableIn (pc := 45) hC 3155 dL_law_45 (by decide) (by decide) rfl (by decide) ?_
        refine x_pick [0, 1, 2, 3, 4] rfl ?_
        exact t_L_law_3155 hls hC hl hX (by omega) (by omega) (fun z0 z1 z2 z3 z4 z5 hz => ih (cs28 + 40021) (sl28 + 160086) z0 z1 z2 z3 z4 z5 (by omega) (by omega) hz) h
      rw [if_neg c52] at h
      by_cases c53 : x5 = (47 : Int32)
      · rw [if_pos c53] at h
        rw [c53]
        refine x_tableIn (pc := 45) hC 3168 dL_law_45 (by decide) (by decide) rfl (by decide) ?_
        refine x_pick [0, 1, 2, 3, 4] rfl ?_
        exact t_L_law_3168 hls hC hl hX (by omega) (by omega) (fun z0 z1 z2 z3 z4 z5 hz => ih (cs28 + 40021) (sl28 + 160086) z0 z1 z2 z3 z4 z5 (by omega) (by omega) hz) h
      rw [if_neg c53] at h
      by_cases c54 : x5 = (48 : Int32)
      · rw [if_pos c54] at h
        rw [c54]
        refine x_tableIn (pc := 45) hC 3212 dL_law_45 (by decide) (by decide) rfl (by decide) ?_
        refine x_pick [0, 1, 2, 3, 4] rfl ?_
        exact t_L_law_3212 hls hC hl hX (by omega) (by omega) (fun z0 z1 z2 z3 z4 z5 hz => ih (cs28 + 40021) (sl28 + 160086) z0 z1 z2 z3 z4 z5 (by omega) (by omega) hz) h
      rw [if_neg c54] at h
      by_cases c55 : x5 = (49 : Int32)
      · rw [if_pos c55] at h
        rw [c55]
        refine x_tableIn (pc := 45) hC 3268 dL_law_45 (by decide) (by decide) rfl (by decide) ?_
        refine x_pick [0, 1, 2, 3, 4] rfl ?_
        exact t_L_law_3268 hls hC hl hX (by omega) (by omega) (fun z0 z1 z2 z3 z4 z5 hz => ih (cs28 + 40021) (sl28 + 160086) z0 z1 z2 z3 z4 z5 (by omega) (by omega) hz) h
      rw [if_neg c55] at h
      by_cases c56 : x5 = (50 : Int32)
      · rw [if_pos c56] at h
        rw [c56]
        refine x_tableIn (pc := 45) hC 3324 dL_law_45 (by decide) (by decide) rfl (by decide) ?_
        refine x_pick [0, 1, 2, 3, 4] rfl ?_
        exact t_L_law_3324 hls hC hl hX (by omega) (by omega) (fun z0 z1 z2 z3 z4 z5 hz => ih (cs28 + 40021) (sl28 + 160086) z0 z1 z2 z3 z4 z5 (by omega) (by omega) hz) h
      rw [if_neg c56] at h
      by_cases c57 : x5 = (51 : Int32)
      · rw [if_pos c57] at h
        rw [c57]
        refine x_tableIn (pc := 45) hC 3391 dL_law_45 (by decide) (by decide) rfl (by decide) ?_
        refine x_pick [0, 1, 2, 3, 4] rfl ?_
        exact t_L_law_3391 hls hC hl hX (by omega) (by omega) (fun z0 z1 z2 z3 z4 z5 hz => ih (cs28 + 40021) (sl28 + 160086) z0 z1 z2 z3 z4 z5 (by omega) (by omega) hz) h
      rw [if_neg c57] at h
      by_cases c58 : x5 = (52 : Int32)
      · rw [if_pos c58] at h
        rw [c58]
        refine x_tableIn (pc := 45) hC 3447 dL_law_45 (by decide) (by decide) rfl (by decide) ?_
        refine x_pick [0, 1, 2, 3, 4] rfl ?_
        exact t_L_law_3447 hls hC hl hX (by omega) (by omega) (fun z0 z1 z2 z3 z4 z5 hz => ih (cs28 + 40021) (sl28 + 160086) z0 z1 z2 z3 z4 z5 (by omega) (by omega) hz) h
      rw [if_neg c58] at h
      by_cases c59 : x5 = (53 : Int32)
      · rw [if_pos c59] at h
        rw [c59]
        refine x_tableIn (pc := 45) hC 3460 dL_law_45 (by decide) (by decide) rfl (by decide) ?_
        refine x_pick [0, 1, 2, 3, 4] rfl ?_
        exact t_L_law_3460 hls hC hl hX (by omega) (by omega) (fun z0 z1 z2 z3 z4 z5 hz => ih (cs28 + 40021) (sl28 + 160086) z0 z1 z2 z3 z4 z5 (by omega) (by omega) hz) h
      rw [if_neg c59] at h
      by_cases c60 : x5 = (54 : Int32)
      · rw [if_pos c60] at h
        rw [c60]
        refine x_tableIn (pc := 45) hC 3474 dL_law_45 (by decide) (by decide) rfl (by decide) ?_
        refine x_pick [0, 1, 2, 3, 4] rfl ?_
        exact t_L_law_3474 hls hC hl hX (by omega) (by omega) (fun z0 z1 z2 z3 z4 z5 hz => ih (cs28 + 40021) (sl28 + 160086) z0 z1 z2 z3 z4 z5 (by omega) (by omega) hz) h
      rw [if_neg c60] at h
      by_cases c61 : x5 = (55 : Int32)
      · rw [if_pos c61] at h
        rw [c61]
        refine x_tableIn (pc := 45) hC 3488 dL_law_45 (by decide) (by decide) rfl (by decide) ?_
        refine x_pick [0, 1, 2, 3, 4] rfl ?_
        exact t_L_law_3488 hls hC hl hX (by omega) (by omega) (fun z0 z1 z2 z3 z4 z5 hz => ih (cs28 + 40021) (sl28 + 160086) z0 z1 z2 z3 z4 z5 (by omega) (by omega) hz) h
      rw [if_neg c61] at h
      by_cases c62 : x5 = (56 : Int32)
      · rw [if_pos c62] at h
        rw [c62]
        refine x_tableIn (pc := 45) hC 3554 dL_law_45 (by decide) (by decide) rfl (by decide) ?_
        refine x_pick [0, 1, 2, 3, 4] rfl ?_
        exact t_L_law_3554 hls hC hl hX (by omega) (by omega) (fun z0 z1 z2 z3 z4 z5 hz => ih (cs28 + 40021) (sl28 + 160086) z0 z1 z2 z3 z4 z5 (by omega) (by omega) hz) h
      rw [if_neg c62] at h
      by_cases c63 : x5 = (57 : Int32)
      · rw [if_pos c63] at h
        rw [c63]
        refine x_tableIn (pc := 45) hC 3619 dL_law_45 (by decide) (by decide) rfl (by decide) ?_
        refine x_pick [0, 1, 2, 3, 4] rfl ?_
        exact t_L_law_3619 hls hC hl hX (by omega) (by omega) (fun z0 z1 z2 z3 z4 z5 hz => ih (cs28 + 40021) (sl28 + 160086) z0 z1 z2 z3 z4 z5 (by omega) (by omega) hz) h
      rw [if_neg c63] at h
      have n0 : ¬ x5.toInt = (0 : Int) := lv_neT c6 (by decide)
      have n1 : ¬ x5.toInt = (1 : Int) := lv_neT c7 (by decide)
      have n2 : ¬ x5.toInt = (2 : Int) := lv_neT c8 (by decide)
      have n3 : ¬ x5.toInt = (3 : Int) := lv_neT c9 (by decide)
      have n4 : ¬ x5.toInt = (4 : Int) := lv_neT c10 (by decide)
      have n5 : ¬ x5.toInt = (5 : Int) := lv_neT c11 (by decide)
      have n6 : ¬ x5.toInt = (6 : Int) := lv_neT c12 (by decide)
      have n7 : ¬ x5.toInt = (7 : Int) := lv_neT c13 (by decide)
      have n8 : ¬ x5.toInt = (8 : Int) := lv_neT c14 (by decide)
      have n9 : ¬ x5.toInt = (9 : Int) := lv_neT c15 (by decide)
      have n10 : ¬ x5.toInt = (10 : Int) := lv_neT c16 (by decide)
      have n11 : ¬ x5.toInt = (11 : Int) := lv_neT c17 (by decide)
      have n12 : ¬ x5.toInt = (12 : Int) := lv_neT c18 (by decide)
      have n13 : ¬ x5.toInt = (13 : Int) := lv_neT c19 (by decide)
      have n14 : ¬ x5.toInt = (14 : Int) := lv_neT c20 (by decide)
      have n15 : ¬ x5.toInt = (15 : Int) := lv_neT c21 (by decide)
      have n16 : ¬ x5.toInt = (16 : Int) := lv_neT c22 (by decide)
      have n17 : ¬ x5.toInt = (17 : Int) := lv_neT c23 (by decide)
      have n18 : ¬ x5.toInt = (18 : Int) := lv_neT c24 (by decide)
      have n19 : ¬ x5.toInt = (19 : Int) := lv_neT c25 (by decide)
      have n20 : ¬ x5.toInt = (20 : Int) := lv_neT c26 (by decide)
      have n21 : ¬ x5.toInt = (21 : Int) := lv_neT c27 (by decide)
      have n22 : ¬ x5.toInt = (22 : Int) := lv_neT c28 (by decide)
      have n23 : ¬ x5.toInt = (23 : Int) := lv_neT c29 (by decide)
      have n24 : ¬ x5.toInt = (24 : Int) := lv_neT c30 (by decide)
      have n25 : ¬ x5.toInt = (25 : Int) := lv_neT c31 (by decide)
      have n26 : ¬ x5.toInt = (26 : Int) := lv_neT c32 (by decide)
      have n27 : ¬ x5.toInt = (27 : Int) := lv_neT c33 (by decide)
      have n28 : ¬ x5.toInt = (28 : Int) := lv_neT c34 (by decide)
      have n29 : ¬ x5.toInt = (29 : Int) := lv_neT c35 (by decide)
      have n30 : ¬ x5.toInt = (30 : Int) := lv_neT c36 (by decide)
      have n31 : ¬ x5.toInt = (31 : Int) := lv_neT c37 (by decide)
      have n32 : ¬ x5.toInt = (32 : Int) := lv_neT c38 (by decide)
      have n33 : ¬ x5.toInt = (33 : Int) := lv_neT c39 (by decide)
      have n34 : ¬ x5.toInt = (34 : Int) := lv_neT c40 (by decide)
      have n35 : ¬ x5.toInt = (35 : Int) := lv_neT c41 (by decide)
      have n36 : ¬ x5.toInt = (36 : Int) := lv_neT c42 (by decide)
      have n37 : ¬ x5.toInt = (37 : Int) := lv_neT c43 (by decide)
      have n38 : ¬ x5.toInt = (38 : Int) := lv_neT c44 (by decide)
      have n39 : ¬ x5.toInt = (39 : Int) := lv_neT c45 (by decide)
      have n40 : ¬ x5.toInt = (40 : Int) := lv_neT c46 (by decide)
      have n41 : ¬ x5.toInt = (41 : Int) := lv_neT c47 (by decide)
      have n42 : ¬ x5.toInt = (42 : Int) := lv_neT c48 (by decide)
      have n43 : ¬ x5.toInt = (43 : Int) := lv_neT c49 (by decide)
      have n44 : ¬ x5.toInt = (44 : Int) := lv_neT c50 (by decide)
      have n45 : ¬ x5.toInt = (45 : Int) := lv_neT c51 (by decide)
      have n46 : ¬ x5.toInt = (46 : Int) := lv_neT c52 (by decide)
      have n47 : ¬ x5.toInt = (47 : Int) := lv_neT c53 (by decide)
      have n48 : ¬ x5.toInt = (48 : Int) := lv_neT c54 (by decide)
      have n49 : ¬ x5.toInt = (49 : Int) := lv_neT c55 (by decide)
      have n50 : ¬ x5.toInt = (50 : Int) := lv_neT c56 (by decide)
      have n51 : ¬ x5.toInt = (51 : Int) := lv_neT c57 (by decide)
      have n52 : ¬ x5.toInt = (52 : Int) := lv_neT c58 (by decide)
      have n53 : ¬ x5.toInt = (53 : Int) := lv_neT c59 (by decide)
      have n54 : ¬ x5.toInt = (54 : Int) := lv_neT c60 (by decide)
      have n55 : ¬ x5.toInt = (55 : Int) := lv_neT c61 (by decide)
      have n56 : ¬ x5.toInt = (56 : Int) := lv_neT c62 (by decide)
      have n57 : ¬ x5.toInt = (57 : Int) := lv_neT c63 (by decide)
      by_cases hlo : x5.toInt < 0 ∨ 57 < x5.toInt
      · refine x_tableOut (pc := 45) hC 3632 dL_law_45 hlo (by decide) ?_
        refine x_pick [0, 1, 2, 3, 4] rfl ?_
        refine x_widen (ce' := cs28 + 40021) (sl' := sl28 + 160086) (by omega) (by omega) ?_
        exact t_L_law_3632 hls hC hl hX (by omega) (by omega) (fun z0 z1 z2 z3 z4 z5 hz => ih (cs28 + 40021) (sl28 + 160086) z0 z1 z2 z3 z4 z5 (by omega) (by omega) hz) h
      · omega
set_option maxHeartbeats 2000000 in
set_option maxRecDepth 100000 in
theorem t_L_law {l : Launch} (hls : l.stackTraces = false) {C : cT} (hC : CX C cL_law 9 yL_law rm_L_law) (hl : C.2.1 = l) {b L : Nat} {xs : Nat → Int32} (hX : LX C b L xs) {S9 : mS} {S : mS} (h : f_L_law L xs S = some ((.inl (1 : Int32), S9) : Rs Int32)) : XX C 9 (LQ C b) 0 0 S 0 [] [] := by
  unfold f_L_law at h
  obtain ⟨g1, h⟩ := gd_some h
  refine x_newv (pc := 0) hC fc_16 fn_16 wm_88 wm_89 wm_46 dL_law_0 g1 (Nat.le_of_ble_eq_true rfl) (Nat.le_of_ble_eq_true rfl) (fun S2 r3 hS2 hr3 => ?_)
  replace h := zW_x hS2 h
  replace h := lt_x hr3 h
  have g4 : gK S2 r3 = 16 := by rw [hr3, hS2]; exact sW_K
  refine x_dup (pc := 3) hC dL_law_3 rfl ?_
  obtain ⟨o7, ho7, h⟩ := bd_some h
  refine x_callI (pc := 4) (As := []) (rest := [.ref r3]) hC hl (c_X10_init l hls ho7) lk_RL_183 (by rw [g4]; decide) dL_law_4 rfl rfl (Nat.le_of_ble_eq_true rfl) ⟨Nat.le_of_ble_eq_true rfl, Nat.le_of_ble_eq_true rfl⟩ ⟨(Nat.le_of_ble_eq_true rfl), (Nat.le_of_ble_eq_true rfl)⟩ ?_
  rcases o7 with ⟨_ | E8, S6⟩
  · refine xk_v ?_
    replace h := bk_l h
    refine x_astore_n (pc := 7) hC dL_law_7 rfl (by decide) (by decide) rfl ?_
    obtain ⟨g9, h⟩ := gd_some h
    refine x_newv (pc := 8) hC fc_19 fn_19 wm_1531 wm_1532 wm_57 dL_law_8 g9 (Nat.le_of_ble_eq_true rfl) (Nat.le_of_ble_eq_true rfl) (fun S10 r11 hS10 hr11 => ?_)
    replace h := zW_x hS10 h
    replace h := lt_x hr11 h
    have g12 : gK S10 r11 = 19 := by rw [hr11, hS10]; exact sW_K
    refine x_dup (pc := 11) hC dL_law_11 rfl ?_
    obtain ⟨o15, ho15, h⟩ := bd_some h
    refine x_callI (pc := 12) (As := []) (rest := [.ref r11]) hC hl (c_X13_init l hls ho15) lk_RL_186 (by rw [g12]; decide) dL_law_12 rfl rfl (Nat.le_of_ble_eq_true rfl) ⟨Nat.le_of_ble_eq_true rfl, Nat.le_of_ble_eq_true rfl⟩ ⟨(Nat.le_of_ble_eq_true rfl), (Nat.le_of_ble_eq_true rfl)⟩ ?_
    rcases o15 with ⟨_ | E16, S14⟩
    · refine xk_v ?_
      replace h := bk_l h
      refine x_astore_n (pc := 15) hC dL_law_15 rfl (by decide) (by decide) rfl ?_
      refine x_iconst (pc := 16) (v := (1 : Int32)) hC dL_law_16 (by decide) ?_
      obtain ⟨g17, h⟩ := gd_some h
      refine x_newaLv (pc := 17) (z := 1) hC wm_2661 dL_law_17 (by decide) (by decide) (Nat.le_of_ble_eq_true rfl) g17 (Nat.le_of_ble_eq_true rfl) (Nat.le_of_ble_eq_true rfl) (fun S18 r19 hS18 hr19 => ?_)
      replace h := zW_x hS18 h
      replace h := lt_x hr19 h
      have g20 : gK S18 r19 = 38 := by rw [hr19, hS18]; exact sW_K
      refine x_astore_n (pc := 19) hC dL_law_19 rfl (by decide) (by decide) rfl ?_
      refine x_iconst (pc := 20) (v := (1 : Int32)) hC dL_law_20 (by decide) ?_
      obtain ⟨g21, h⟩ := gd_some h
      refine x_newaDv (pc := 21) (z := 1) hC wm_2662 dL_law_21 (by decide) (by decide) (Nat.le_of_ble_eq_true rfl) g21 (Nat.le_of_ble_eq_true rfl) (Nat.le_of_ble_eq_true rfl) (fun S22 r23 hS22 hr23 => ?_)
      replace h := zW_x hS22 h
      replace h := lt_x hr23 h
      have g24 : gK S22 r23 = 39 := by rw [hr23, hS22]; exact sW_K
      refine x_astore (pc := 23) hC dL_law_23 (by decide) (by decide) rfl ?_
      refine x_iconst (pc := 25) (v := (0 : Int32)) hC dL_law_25 (by decide) ?_
      refine x_istore (pc := 26) hC dL_law_26 (by decide) (by decide) rfl ?_
      refine x_pick [4, 3, 2, 1, 0] rfl ?_
      refine x_widen (ce' := 496) (sl' := 7035) (Nat.le_of_ble_eq_true rfl) (Nat.le_of_ble_eq_true rfl) ?_
      exact t_L_law_28 hls hC hl hX 2 _ _ _ _ _ _ _ _ (by omega) (by omega) h
    · exact absurd (congrArg Prod.fst (bk_r h)) (by intro q; cases q)
  · exact absurd (congrArg Prod.fst (bk_r h)) (by intro q; cases q)
end LAWB
