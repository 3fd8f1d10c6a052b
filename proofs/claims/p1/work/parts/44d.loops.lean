section TICKL
theorem c_loop {Q : Rs Int32 → Prop} {n : Nat} (hn : n ≤ 2000) (hQ : ∀ I L, AGL 0 okC I M3I → AGL 0 okT L M3L → Q (.inl (Int32.ofNat n), (I, L, M3R, M3D, M3K, M3Z, 174))) : ∀ (m j f : Nat) (g : Int32) (I : List (List Int32)) (L : List (List Int64)), m ≤ f → j + m = n → CI (Int32.ofNat j) (Int32.ofNat j) g I L → WP Q (f_X8_run_7 (f + 1) (I, L, M3R, M3D, M3K, M3Z, 174) 2 (Int32.ofNat n) 0 (Int32.ofNat j)) := by
  intro m
  induction m with
  | zero =>
    intro j f g I L hf hj hc
    obtain rfl : j = n := by omega
    obtain ⟨hI, hL, ht, hu, -⟩ := hc
    refine wp_of (f_X8_run_7.eq_2 ..) ?_
    refine wp_ifp (nI_le (Nat.le_refl _) (by omega)) ?_
    refine wp_gd ql_K_2 ?_
    refine wp_lt hu ?_
    refine wp_lt (show Int32.ofNat j - 0 = Int32.ofNat j by simp) ?_
    exact ⟨_, rfl, hQ I L hI hL⟩
  | succ m ih =>
    intro j f g I L hf hj hc
    obtain ⟨f, rfl⟩ : ∃ f', f = f' + 1 := ⟨f - 1, by omega⟩
    refine c_tick (not_le9 (by omega) hn) (dj j (by omega)) hc (fun t9 u9 g9 I9 L9 ht hu hc9 => ?_)
    rw [← inc_ofNat] at ht hu
    subst ht
    subst hu
    rw [inc9]
    exact ih (j + 1) f g9 I9 L9 (by omega) (by omega) hc9
theorem r_loop {Q : Rs Int32 → Prop} {n : Nat} {w : Int64} (hn : n ≤ 2000) (hQ : ∀ I L R D K Z N, AGL 0 okR I M3I → AGL 0 okH L M3L → AGL 0 okG R M3R → AK K M3K → AK Z M3Z → gL (I, L, R, D, K, Z, N) 173 0 = w → Q (.inl (Int32.ofNat n), (I, L, R, D, K, Z, N))) : ∀ (m j f N : Nat) (g : Int32) (I : List (List Int32)) (L : List (List Int64)) (R : List (List Nat)) (D : List (List UInt64)) (K Z : List Nat), 174 ≤ N → N ≤ 174 + 4 * j → m ≤ f → j + m = n → RI (Int32.ofNat j) (Int32.ofNat j) g w (I, L, R, D, K, Z, N) → WP Q (f_X13_go_32 (f + 1) (I, L, R, D, K, Z, N) 149 (Int32.ofNat n) 0 (Int32.ofNat j)) := by
  intro m
  induction m with
  | zero =>
    intro j f N g I L R D K Z hN hN2 hf hj hc
    obtain rfl : j = n := by omega
    obtain ⟨hI, hL, hR, hK, hZ, hw, ht, hu, -⟩ := hc
    dsimp only at hI hL hR hK hZ
    refine wp_of (f_X13_go_32.eq_2 ..) ?_
    refine wp_ifp (nI_le (Nat.le_refl _) (by omega)) ?_
    refine wp_gd (agK hK rfl ql_K_149) ?_
    refine wp_bd ?_
    refine wp_of (f_X13_logs.eq_1 ..) ?_
    refine wp_gd (agK hK rfl ql_K_149) ?_
    refine wp_ltr ?_
    refine wp_ltr ?_
    refine wp_zI ?_
    refine wp_ret_bd ?_
    refine wp_gd (agK hK rfl ql_K_149) ?_
    refine wp_lt (Eq.trans (gI_b rfl) hu) ?_
    refine wp_lt (show Int32.ofNat j - 0 = Int32.ofNat j by simp) ?_
    exact ⟨_, rfl, hQ _ _ _ _ _ _ _ (ag_p2 rfl hI) hL hR hK hZ hw⟩
  | succ m ih =>
    intro j f N g I L R D K Z hN hN2 hf hj hc
    obtain ⟨f, rfl⟩ : ∃ f', f = f' + 1 := ⟨f - 1, by omega⟩
    refine r_tick hN (by omega) (not_le9 (by omega) hn) (dj j (by omega)) hc (fun t9 u9 g9 I9 L9 R9 D9 K9 Z9 ht hu hc9 => ?_)
    rw [← inc_ofNat] at ht hu
    subst ht
    subst hu
    rw [inc9]
    exact ih (j + 1) f (N + 4) g9 I9 L9 R9 D9 K9 Z9 (by omega) (by omega) (by omega) (by omega) hc9
theorem c_go {Q : Rs Int32 → Prop} {f : Int32 → mS → Option (Rs Int32)} {a1 g : Int32} {I : List (List Int32)} {L : List (List Int64)} (h1 : ¬ a1 < 1) (h2 : ¬ (2000 : Int32) < a1) (hc : CI 0 0 g I L) (hQ : ∀ I L, AGL 0 okC I M3I → AGL 0 okT L M3L → WP Q (f a1 (I, L, M3R, M3D, M3K, M3Z, 174))) : WP (BK f Q) (f_X8_run_7 2001 (I, L, M3R, M3D, M3K, M3Z, 174) 2 a1 0 0) := by
  obtain ⟨n, hn, rfl⟩ := of_range h1 h2
  exact c_loop hn hQ n 0 2000 g I L hn (by omega) hc
theorem r_go {Q : Rs Int32 → Prop} {f : Int32 → mS → Option (Rs Int32)} {a1 g : Int32} {w : Int64} {I : List (List Int32)} {L : List (List Int64)} {R : List (List Nat)} {D : List (List UInt64)} {K Z : List Nat} (h1 : ¬ a1 < 1) (h2 : ¬ (2000 : Int32) < a1) (hc : RI 0 0 g w (I, L, R, D, K, Z, 174)) (hQ : ∀ I L R D K Z N, AGL 0 okR I M3I → AGL 0 okH L M3L → AGL 0 okG R M3R → AK K M3K → AK Z M3Z → gL (I, L, R, D, K, Z, N) 173 0 = w → WP Q (f a1 (I, L, R, D, K, Z, N))) : WP (BK f Q) (f_X13_go_32 2001 (I, L, R, D, K, Z, 174) 149 a1 0 0) := by
  obtain ⟨n, hn, rfl⟩ := of_range h1 h2
  exact r_loop hn hQ n 0 2000 174 g I L R D K Z (Nat.le_refl _) (by omega) hn (by omega) hc
end TICKL
