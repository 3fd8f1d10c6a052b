section START
theorem cls_all {args : Array Value} {s : State} (hts : ∀ w ∈ lw_tbl, w.before args s = true) : ∀ (c : Nat) (q : vw_C), vwCl[c]? = some q → ∃ z : ClassId × (Nat → Nat), u_Kn s q.1 q.2.1 q.2.2 z.1 z.2 := by
  intro c q hq
  match c, hq with
  | 0, hq => cases hq; obtain ⟨a, b, h⟩ := u_known (C := RJ0) (T := TJ0) (N := 4) (n := 4) hts (by decide +kernel) (hts _ (tk_5 (List.mem_of_getElem? (i := 15) (by decide +kernel)))); exact ⟨(a, b), h⟩
  | 1, hq => cases hq; obtain ⟨a, b, h⟩ := u_known (C := RJ4) (T := TJ4) (N := 4) (n := 4) hts (by decide +kernel) (hts _ (tk_10 (List.mem_of_getElem? (i := 146) (by decide +kernel)))); exact ⟨(a, b), h⟩
  | 2, hq => cases hq; obtain ⟨a, b, h⟩ := u_known (C := RJx00060) (T := TJx00060) (N := 6) (n := 6) hts (by decide +kernel) (hts _ (tk_4 (List.mem_of_getElem? (i := 237) (by decide +kernel)))); exact ⟨(a, b), h⟩
  | 3, hq => cases hq; obtain ⟨a, b, h⟩ := u_known (C := RJx35411) (T := TJx35411) (N := 4) (n := 4) hts (by decide +kernel) (hts _ (tk_9 (List.mem_of_getElem? (i := 214) (by decide +kernel)))); exact ⟨(a, b), h⟩
  | 4, hq => cases hq; obtain ⟨a, b, h⟩ := u_known (C := RJx4a65c) (T := TJx4a65c) (N := 3) (n := 3) hts (by decide +kernel) (hts _ (tk_7 (List.mem_of_getElem? (i := 53) (by decide +kernel)))); exact ⟨(a, b), h⟩
  | 5, hq => cases hq; obtain ⟨a, b, h⟩ := u_known (C := RX0) (T := TX0) (N := 5) (n := 5) hts (by decide +kernel) (hts _ (tk_1 (List.mem_of_getElem? (i := 117) (by decide +kernel)))); exact ⟨(a, b), h⟩
  | 6, hq => cases hq; obtain ⟨a, b, h⟩ := u_known (C := RX1) (T := TX1) (N := 12) (n := 12) hts (by decide +kernel) (hts _ (tk_1 (List.mem_of_getElem? (i := 111) (by decide +kernel)))); exact ⟨(a, b), h⟩
  | 7, hq => cases hq; obtain ⟨a, b, h⟩ := u_known (C := RX2) (T := TX2) (N := 11) (n := 11) hts (by decide +kernel) (hts _ (tk_1 (List.mem_of_getElem? (i := 59) (by decide +kernel)))); exact ⟨(a, b), h⟩
  | 8, hq => cases hq; obtain ⟨a, b, h⟩ := u_known (C := RX3) (T := TX3) (N := 3) (n := 3) hts (by decide +kernel) (hts _ (tk_1 (List.mem_of_getElem? (i := 124) (by decide +kernel)))); exact ⟨(a, b), h⟩
  | 9, hq => cases hq; obtain ⟨a, b, h⟩ := u_known (C := RX4) (T := TX4) (N := 2) (n := 2) hts (by decide +kernel) (hts _ (tk_1 (List.mem_of_getElem? (i := 211) (by decide +kernel)))); exact ⟨(a, b), h⟩
  | 10, hq => cases hq; obtain ⟨a, b, h⟩ := u_known (C := RX5) (T := TX5) (N := 3) (n := 3) hts (by decide +kernel) (hts _ (tk_1 (List.mem_of_getElem? (i := 224) (by decide +kernel)))); exact ⟨(a, b), h⟩
  | 11, hq => cases hq; obtain ⟨a, b, h⟩ := u_known (C := RX6) (T := TX6) (N := 5) (n := 5) hts (by decide +kernel) (hts _ (tk_2 (List.mem_of_getElem? (i := 56) (by decide +kernel)))); exact ⟨(a, b), h⟩
  | 12, hq => cases hq; obtain ⟨a, b, h⟩ := u_known (C := RX7) (T := TX7) (N := 6) (n := 6) hts (by decide +kernel) (hts _ (tk_2 (List.mem_of_getElem? (i := 81) (by decide +kernel)))); exact ⟨(a, b), h⟩
  | 13, hq => cases hq; obtain ⟨a, b, h⟩ := u_known (C := RX8) (T := TX8) (N := 13) (n := 13) hts (by decide +kernel) (hts _ (tk_1 (List.mem_of_getElem? (i := 52) (by decide +kernel)))); exact ⟨(a, b), h⟩
  | 14, hq => cases hq; obtain ⟨a, b, h⟩ := u_known (C := RX9) (T := TX9) (N := 6) (n := 6) hts (by decide +kernel) (hts _ (tk_2 (List.mem_of_getElem? (i := 111) (by decide +kernel)))); exact ⟨(a, b), h⟩
  | 15, hq => cases hq; obtain ⟨a, b, h⟩ := u_known (C := RX10) (T := TX10) (N := 6) (n := 6) hts (by decide +kernel) (hts _ (tk_1 (List.mem_of_getElem? (i := 44) (by decide +kernel)))); exact ⟨(a, b), h⟩
  | 16, hq => cases hq; obtain ⟨a, b, h⟩ := u_known (C := RX11) (T := TX11) (N := 16) (n := 16) hts (by decide +kernel) (hts _ (tk_7 (List.mem_of_getElem? (i := 83) (by decide +kernel)))); exact ⟨(a, b), h⟩
  | 17, hq => cases hq; obtain ⟨a, b, h⟩ := u_known (C := RX12) (T := TX12) (N := 10) (n := 10) hts (by decide +kernel) (hts _ (tk_8 (List.mem_of_getElem? (i := 13) (by decide +kernel)))); exact ⟨(a, b), h⟩
  | 18, hq => cases hq; obtain ⟨a, b, h⟩ := u_known (C := RX13) (T := TX13) (N := 23) (n := 23) hts (by decide +kernel) (hts _ (tk_7 (List.mem_of_getElem? (i := 47) (by decide +kernel)))); exact ⟨(a, b), h⟩
  | k + 19, hq => simp [vwCl] at hq
theorem arr_p {args : Array Value} {s : State} {t : FieldType} (h : (Cond.arrayClass t).before args s = true) (ht : ∀ C, t ≠ .object C) : ∃ c, ArrOfT s c t ∧ va_RA s c t := by
  obtain ⟨c, k, comp, h1, h2, h3⟩ := Cond.arrayClass_spec h
  refine ⟨c, fun n z => ⟨fun k9 h9 => (by cases h9), k, h2, comp, h3⟩, ?_⟩
  cases t with
  | object C => exact absurd rfl (ht C)
  | _ => exact h1
theorem arr_o {args : Array Value} {s : State} {E : String} (h : (Cond.arrayOver (.object E)).before args s = true) : ∃ c, ArrOfT s c (.object E) ∧ va_RA s c (.object E) := by
  obtain ⟨comp, c, k, h1, h2, h3, h4, h5⟩ := Cond.arrayOver_spec h
  exact ⟨c, fun n z => ⟨fun k9 h9 => (by cases h9), k, h3, comp, h4⟩, k, comp, h3, h4, h1, h5⟩
theorem arr_all {args : Array Value} {s : State} (hts : ∀ w ∈ lw_tbl, w.before args s = true) : ∃ cA : Nat → ClassId, ∀ (k : Nat) (q : ClassId × FieldType), (tyA cA)[k]? = some q → ArrOfT s q.1 q.2 ∧ va_RA s q.1 q.2 := by
  obtain ⟨c30, h30⟩ := arr_p (t := .int) (hts _ (tk_1 (List.mem_of_getElem? (i := 141) (by decide +kernel)))) (fun C h => (by cases h))
  obtain ⟨c31, h31⟩ := arr_p (t := .char) (hts _ (tk_2 (List.mem_of_getElem? (i := 79) (by decide +kernel)))) (fun C h => (by cases h))
  obtain ⟨c32, h32⟩ := arr_p (t := .boolean) (hts _ (tk_10 (List.mem_of_getElem? (i := 135) (by decide +kernel)))) (fun C h => (by cases h))
  obtain ⟨c33, h33⟩ := arr_p (t := .byte) (hts _ (tk_4 (List.mem_of_getElem? (i := 206) (by decide +kernel)))) (fun C h => (by cases h))
  obtain ⟨c38, h38⟩ := arr_p (t := .long) (hts _ (tk_11 (List.mem_of_getElem? (i := 216) (by decide +kernel)))) (fun C h => (by cases h))
  obtain ⟨c39, h39⟩ := arr_p (t := .double) (hts _ (tk_11 (List.mem_of_getElem? (i := 217) (by decide +kernel)))) (fun C h => (by cases h))
  obtain ⟨c34, h34⟩ := arr_o (E := "MixBooth$Deck") (hts _ (tk_1 (List.mem_of_getElem? (i := 110) (by decide +kernel))))
  obtain ⟨c35, h35⟩ := arr_o (E := "MixBooth$Effect") (hts _ (tk_1 (List.mem_of_getElem? (i := 123) (by decide +kernel))))
  obtain ⟨c36, h36⟩ := arr_o (E := "MixBooth$Disc") (hts _ (tk_1 (List.mem_of_getElem? (i := 58) (by decide +kernel))))
  obtain ⟨c37, h37⟩ := arr_o (E := "MixBoothModel$Deck") (hts _ (tk_7 (List.mem_of_getElem? (i := 82) (by decide +kernel))))
  obtain ⟨c40, h40⟩ := arr_o (E := "java/lang/Object") (hts _ (tk_8 (List.mem_of_getElem? (i := 122) (by decide +kernel))))
  refine ⟨fun n => if n = 30 then c30 else if n = 31 then c31 else if n = 32 then c32 else if n = 33 then c33 else if n = 34 then c34 else if n = 35 then c35 else if n = 36 then c36 else if n = 37 then c37 else if n = 38 then c38 else if n = 39 then c39 else c40, ?_⟩
  intro k q hq
  match k, hq with
  | 0, hq => cases hq; exact h30
  | 1, hq => cases hq; exact h31
  | 2, hq => cases hq; exact h32
  | 3, hq => cases hq; exact h33
  | 4, hq => cases hq; exact h34
  | 5, hq => cases hq; exact h35
  | 6, hq => cases hq; exact h36
  | 7, hq => cases hq; exact h37
  | 8, hq => cases hq; exact h38
  | 9, hq => cases hq; exact h39
  | 10, hq => cases hq; exact h40
  | k + 11, hq => simp [tyA] at hq
def lw_fl : Cond := Jvm.Cond.and given_1 narrow_1
theorem start_EE {args : Array Value} {s : State} {A : Nat → Prop} (hA : ∀ a : Nat, a < s.heap.size → ¬ A a) (hts : ∀ w ∈ lw_tbl, w.before args s = true) (hs : ∀ c ∈ flatC lw_fl, c.before args s = true) : EE A s s.heap := by
  exact ⟨vx_Zqof (hts _ (tk_4 (List.mem_of_getElem? (i := 162) (by decide +kernel)))) (hts _ (tk_1 (List.mem_of_getElem? (i := 17) (by decide +kernel)))) (hs _ (List.mem_of_getElem? (i := 4) (by decide +kernel))) hA, vx_Zqof (hts _ (tk_4 (List.mem_of_getElem? (i := 164) (by decide +kernel)))) (hts _ (tk_1 (List.mem_of_getElem? (i := 17) (by decide +kernel)))) (hs _ (List.mem_of_getElem? (i := 5) (by decide +kernel))) hA⟩
theorem str_at {args : Array Value} {s : State} {own tx : String} {k : Nat} (h1 : (Cond.stringRef own k tx).before args s = true) (h2 : (Cond.exactly (.string own k) "java/lang/String").before args s = true) : ∃ a, vk_R own k tx a s := by
  obtain ⟨a, c, cA, kA, q1, -⟩ := Cond.exactly_spec (args := args) (first := s) (o := none) (s := s) (idx := []) h2
  exact ⟨a, vk_R.of h1 q1⟩
theorem start_NN {args : Array Value} {s : State} (hts : ∀ w ∈ lw_tbl, w.before args s = true) (hs : ∀ c ∈ flatC lw_fl, c.before args s = true) : NN s := by
  refine ⟨fun w hw => nwd_use (List.mem_filter.mp hw).2 (hts w (List.mem_filter.mp hw).1), ?_, ?_⟩
  · intro q hq
    simp only [ncs, List.mem_cons, List.not_mem_nil, or_false] at hq
    rcases hq with rfl | rfl | rfl | rfl | rfl | rfl | rfl | rfl | rfl | rfl
    · exact va_Nc.of (hs _ (List.mem_of_getElem? (i := 283) (by decide +kernel)))
    · exact va_Nc.of (hs _ (List.mem_of_getElem? (i := 306) (by decide +kernel)))
    · exact va_Nc.of (hs _ (List.mem_of_getElem? (i := 235) (by decide +kernel)))
    · exact va_Nc.of (hs _ (List.mem_of_getElem? (i := 284) (by decide +kernel)))
    · exact va_Nc.of (hs _ (List.mem_of_getElem? (i := 307) (by decide +kernel)))
    · exact va_Nc.of (hs _ (List.mem_of_getElem? (i := 239) (by decide +kernel)))
    · exact va_Nc.of (hs _ (List.mem_of_getElem? (i := 286) (by decide +kernel)))
    · exact va_Nc.of (hs _ (List.mem_of_getElem? (i := 240) (by decide +kernel)))
    · exact va_Nc.of (hs _ (List.mem_of_getElem? (i := 287) (by decide +kernel)))
    · exact va_Nc.of (hs _ (List.mem_of_getElem? (i := 311) (by decide +kernel)))
  · intro q hq
    simp only [sts, List.mem_cons, List.not_mem_nil, or_false] at hq
    rcases hq with rfl | rfl | rfl | rfl | rfl | rfl | rfl | rfl | rfl | rfl | rfl | rfl | rfl | rfl | rfl | rfl | rfl | rfl | rfl | rfl | rfl | rfl | rfl | rfl
    · exact str_at (hts _ (tk_4 (List.mem_of_getElem? (i := 180) (by decide +kernel)))) (hs _ (List.mem_of_getElem? (i := 465) (by decide +kernel)))
    · exact str_at (hts _ (tk_4 (List.mem_of_getElem? (i := 217) (by decide +kernel)))) (hs _ (List.mem_of_getElem? (i := 496) (by decide +kernel)))
    · exact str_at (hts _ (tk_5 (List.mem_of_getElem? (i := 38) (by decide +kernel)))) (hs _ (List.mem_of_getElem? (i := 536) (by decide +kernel)))
    · exact str_at (hts _ (tk_5 (List.mem_of_getElem? (i := 52) (by decide +kernel)))) (hs _ (List.mem_of_getElem? (i := 565) (by decide +kernel)))
    · exact str_at (hts _ (tk_5 (List.mem_of_getElem? (i := 97) (by decide +kernel)))) (hs _ (List.mem_of_getElem? (i := 595) (by decide +kernel)))
    · exact str_at (hts _ (tk_5 (List.mem_of_getElem? (i := 98) (by decide +kernel)))) (hs _ (List.mem_of_getElem? (i := 624) (by decide +kernel)))
    · exact str_at (hts _ (tk_5 (List.mem_of_getElem? (i := 109) (by decide +kernel)))) (hs _ (List.mem_of_getElem? (i := 647) (by decide +kernel)))
    · exact str_at (hts _ (tk_5 (List.mem_of_getElem? (i := 164) (by decide +kernel)))) (hs _ (List.mem_of_getElem? (i := 674) (by decide +kernel)))
    · exact str_at (hts _ (tk_6 (List.mem_of_getElem? (i := 27) (by decide +kernel)))) (hs _ (List.mem_of_getElem? (i := 716) (by decide +kernel)))
    · exact str_at (hts _ (tk_6 (List.mem_of_getElem? (i := 46) (by decide +kernel)))) (hs _ (List.mem_of_getElem? (i := 767) (by decide +kernel)))
    · exact str_at (hts _ (tk_6 (List.mem_of_getElem? (i := 79) (by decide +kernel)))) (hs _ (List.mem_of_getElem? (i := 803) (by decide +kernel)))
    · exact str_at (hts _ (tk_6 (List.mem_of_getElem? (i := 140) (by decide +kernel)))) (hs _ (List.mem_of_getElem? (i := 840) (by decide +kernel)))
    · exact str_at (hts _ (tk_6 (List.mem_of_getElem? (i := 153) (by decide +kernel)))) (hs _ (List.mem_of_getElem? (i := 871) (by decide +kernel)))
    · exact str_at (hts _ (tk_6 (List.mem_of_getElem? (i := 172) (by decide +kernel)))) (hs _ (List.mem_of_getElem? (i := 916) (by decide +kernel)))
    · exact str_at (hts _ (tk_6 (List.mem_of_getElem? (i := 195) (by decide +kernel)))) (hs _ (List.mem_of_getElem? (i := 949) (by decide +kernel)))
    · exact str_at (hts _ (tk_6 (List.mem_of_getElem? (i := 205) (by decide +kernel)))) (hs _ (List.mem_of_getElem? (i := 990) (by decide +kernel)))
    · exact str_at (hts _ (tk_6 (List.mem_of_getElem? (i := 221) (by decide +kernel)))) (hs _ (List.mem_of_getElem? (i := 1030) (by decide +kernel)))
    · exact str_at (hts _ (tk_7 (List.mem_of_getElem? (i := 37) (by decide +kernel)))) (hs _ (List.mem_of_getElem? (i := 1075) (by decide +kernel)))
    · exact str_at (hts _ (tk_7 (List.mem_of_getElem? (i := 155) (by decide +kernel)))) (hs _ (List.mem_of_getElem? (i := 1111) (by decide +kernel)))
    · exact str_at (hts _ (tk_9 (List.mem_of_getElem? (i := 59) (by decide +kernel)))) (hs _ (List.mem_of_getElem? (i := 1133) (by decide +kernel)))
    · exact str_at (hts _ (tk_9 (List.mem_of_getElem? (i := 159) (by decide +kernel)))) (hs _ (List.mem_of_getElem? (i := 1159) (by decide +kernel)))
    · exact str_at (hts _ (tk_11 (List.mem_of_getElem? (i := 143) (by decide +kernel)))) (hs _ (List.mem_of_getElem? (i := 1214) (by decide +kernel)))
    · exact str_at (hts _ (tk_11 (List.mem_of_getElem? (i := 144) (by decide +kernel)))) (hs _ (List.mem_of_getElem? (i := 1251) (by decide +kernel)))
    · exact str_at (hts _ (tk_11 (List.mem_of_getElem? (i := 166) (by decide +kernel)))) (hs _ (List.mem_of_getElem? (i := 1284) (by decide +kernel)))
def kTm : Nat → Term := fun i => if i = 0 then .string "MixBoothModel" 40 else if i = 1 then .string "MixBoothModel" 205 else .string "MixBoothModel" 228
theorem start_SK {args : Array Value} {s : State} {A : Nat → Prop} (hA : ∀ a : Nat, a < s.heap.size → ¬ A a) (hts : ∀ w ∈ lw_tbl, w.before args s = true) (hs : ∀ c ∈ flatC lw_fl, c.before args s = true) : ∃ z : Nat → Nat, SK z A s s.heap := by
  have hex : ∀ i : Nat, i < 3 → (Cond.exactly (kTm i) "java/lang/String").before args s = true := fun i hi => by
    rcases (show i = 0 ∨ i = 1 ∨ i = 2 by omega) with rfl | rfl | rfl
    · exact hs _ (List.mem_of_getElem? (i := 1111) (by decide +kernel))
    · exact hs _ (List.mem_of_getElem? (i := 1133) (by decide +kernel))
    · exact hs _ (List.mem_of_getElem? (i := 1159) (by decide +kernel))
  have hco : ∀ i : Nat, i < 3 → (Cond.eq (.field (kTm i) "java/lang/String" "coder" "B") (.int 0)).before args s = true := fun i hi => by
    rcases (show i = 0 ∨ i = 1 ∨ i = 2 by omega) with rfl | rfl | rfl
    · exact hs _ (List.mem_of_getElem? (i := 1112) (by decide +kernel))
    · exact hs _ (List.mem_of_getElem? (i := 1134) (by decide +kernel))
    · exact hs _ (List.mem_of_getElem? (i := 1160) (by decide +kernel))
  have har : ∀ i : Nat, i < 3 → (Cond.arrayOf (.field (kTm i) "java/lang/String" "value" "[B") .byte).before args s = true := fun i hi => by
    rcases (show i = 0 ∨ i = 1 ∨ i = 2 by omega) with rfl | rfl | rfl
    · exact hs _ (List.mem_of_getElem? (i := 1113) (by decide +kernel))
    · exact hs _ (List.mem_of_getElem? (i := 1135) (by decide +kernel))
    · exact hs _ (List.mem_of_getElem? (i := 1161) (by decide +kernel))
  have hle : ∀ i : Nat, i < 3 → (Cond.eq (.length (.field (kTm i) "java/lang/String" "value" "[B")) (.int (Int32.ofNat (kLen.getD i 0)))).before args s = true := fun i hi => by
    rcases (show i = 0 ∨ i = 1 ∨ i = 2 by omega) with rfl | rfl | rfl
    · exact hs _ (List.mem_of_getElem? (i := 1114) (by decide +kernel))
    · exact hs _ (List.mem_of_getElem? (i := 1136) (by decide +kernel))
    · exact hs _ (List.mem_of_getElem? (i := 1162) (by decide +kernel))
  have hel : ∀ i : Nat, i < 3 → ∀ j : Nat, j < kLen.getD i 0 → (Cond.eq (.elem (.field (kTm i) "java/lang/String" "value" "[B") (.int (Int32.ofNat j))) (.int ((kByt.getD i []).getD j 0))).before args s = true := fun i hi j hj => by
    rcases (show i = 0 ∨ i = 1 ∨ i = 2 by omega) with rfl | rfl | rfl
    · exact absurd (show j < 0 from hj) (Nat.not_lt_zero j)
    · rcases (show j = 0 ∨ j = 1 ∨ j = 2 by have : j < 3 := hj; omega) with rfl | rfl | rfl
      · exact hs _ (List.mem_of_getElem? (i := 1137) (by decide +kernel))
      · exact hs _ (List.mem_of_getElem? (i := 1138) (by decide +kernel))
      · exact hs _ (List.mem_of_getElem? (i := 1139) (by decide +kernel))
    · rcases (show j = 0 ∨ j = 1 ∨ j = 2 by have : j < 3 := hj; omega) with rfl | rfl | rfl
      · exact hs _ (List.mem_of_getElem? (i := 1163) (by decide +kernel))
      · exact hs _ (List.mem_of_getElem? (i := 1164) (by decide +kernel))
      · exact hs _ (List.mem_of_getElem? (i := 1165) (by decide +kernel))
  have hne : ∀ i j : Nat, i < 3 → j < 3 → i ≠ j → (Cond.not (Cond.eq (kTm i) (kTm j))).before args s = true ∨ (Cond.not (Cond.eq (kTm j) (kTm i))).before args s = true := fun i j hi hj hij => by
    rcases (show i = 0 ∨ i = 1 ∨ i = 2 by omega) with rfl | rfl | rfl <;> rcases (show j = 0 ∨ j = 1 ∨ j = 2 by omega) with rfl | rfl | rfl
    · exact absurd rfl hij
    · exact Or.inl (hs _ (List.mem_of_getElem? (i := 1158) (by decide +kernel)))
    · exact Or.inl (hs _ (List.mem_of_getElem? (i := 1184) (by decide +kernel)))
    · exact Or.inr (hs _ (List.mem_of_getElem? (i := 1158) (by decide +kernel)))
    · exact absurd rfl hij
    · exact Or.inl (hs _ (List.mem_of_getElem? (i := 1185) (by decide +kernel)))
    · exact Or.inr (hs _ (List.mem_of_getElem? (i := 1184) (by decide +kernel)))
    · exact Or.inr (hs _ (List.mem_of_getElem? (i := 1185) (by decide +kernel)))
    · exact absurd rfl hij
  obtain ⟨adK, adV, hvS, hev⟩ := vk_Sof (N := 3) (tm := kTm) (len := kLen) (byt := kByt) (A := A) (fun i hi => by rcases (show i = 0 ∨ i = 1 ∨ i = 2 by omega) with rfl | rfl | rfl <;> decide) hex hco har hle hel hne hA
  obtain ⟨t20, hev20, hT20⟩ := va_Tof (tm := Jvm.Term.static "java/util/ArrayList" "DEFAULTCAPACITY_EMPTY_ELEMENTDATA" "[Ljava/lang/Object;") (ty := .object "java/lang/Object") (N := 0) (f := fun _ => .null) (A := A) (by decide) (hs _ (List.mem_of_getElem? (i := 7) (by decide +kernel))) (va_eqt (hs _ (List.mem_of_getElem? (i := 9) (by decide +kernel)))) (fun j hj => absurd hj (Nat.not_lt_zero j)) hA
  obtain ⟨a21, hev21⟩ : ∃ a, (Jvm.Term.static "jdk/internal/util/Preconditions" "SIOOBE_FORMATTER" "Ljava/util/function/BiFunction;").eval args s none [] s = some (.ref a) ∨ (Jvm.Term.static "jdk/internal/util/Preconditions" "SIOOBE_FORMATTER" "Ljava/util/function/BiFunction;").eval args s none [] s = some .null := by
    have hr : (Jvm.Cond.isRef (Jvm.Term.static "jdk/internal/util/Preconditions" "SIOOBE_FORMATTER" "Ljava/util/function/BiFunction;")).before args s = true := hs _ (List.mem_of_getElem? (i := 11) (by decide +kernel))
    obtain ⟨v, h1, h2⟩ := Cond.isRef_spec hr
    cases v <;> first | exact ⟨_, Or.inl h1⟩ | exact ⟨0, Or.inr h1⟩ | cases h2
  have zz : ∃ z : Nat → Nat, (∀ i, i < 3 → z i = adK i) ∧ (∀ i, i < 3 → z (10 + i) = adV i) ∧ z 20 = t20 ∧ z 21 = a21 := by
    refine ⟨fun n => if n < 3 then adK n else if n < 13 then adV (n - 10) else if n = 20 then t20 else a21, fun i hi => if_pos hi, fun i hi => ?_, rfl, rfl⟩
    show (if 10 + i < 3 then adK (10 + i) else if 10 + i < 13 then adV (10 + i - 10) else if 10 + i = 20 then t20 else a21) = adV i
    rw [if_neg (by omega), if_pos (by omega), show 10 + i - 10 = i from by omega]
  obtain ⟨z, zK, zV, z20, z21⟩ := zz
  refine ⟨z, ⟨fun i hi => ?_, fun i j hi hj e => hvS.2 i j hi hj ?_⟩, ?_, ?_, ?_, ?_, ?_, ?_, ?_, ?_⟩
  · simp only [zK i hi, zV i hi]; exact hvS.1 i hi
  · simp only [zK i hi, zK j hj] at e; exact e
  · intro q hq
    simp only [ksts, List.mem_cons, List.not_mem_nil, or_false] at hq
    rcases hq with rfl | rfl | rfl
    · exact vk_R.of (hts _ (tk_7 (List.mem_of_getElem? (i := 155) (by decide +kernel)))) (by rw [zK 0 (by decide)]; exact hev 0 (by decide))
    · exact vk_R.of (hts _ (tk_9 (List.mem_of_getElem? (i := 59) (by decide +kernel)))) (by rw [zK 1 (by decide)]; exact hev 1 (by decide))
    · exact vk_R.of (hts _ (tk_9 (List.mem_of_getElem? (i := 159) (by decide +kernel)))) (by rw [zK 2 (by decide)]; exact hev 2 (by decide))
  · rw [z20]; exact va_Zof (hts _ (tk_7 (List.mem_of_getElem? (i := 65) (by decide +kernel)))) (hts _ (tk_1 (List.mem_of_getElem? (i := 15) (by decide +kernel)))) hev20 hA
  · rw [z20]; exact hT20
  · exact va_Zof (hts _ (tk_9 (List.mem_of_getElem? (i := 73) (by decide +kernel)))) (hts _ (tk_1 (List.mem_of_getElem? (i := 29) (by decide +kernel)))) (va_eqi (hs _ (List.mem_of_getElem? (i := 10) (by decide +kernel)))) hA
  · exact va_Zof (hts _ (tk_9 (List.mem_of_getElem? (i := 123) (by decide +kernel)))) (hts _ (tk_1 (List.mem_of_getElem? (i := 35) (by decide +kernel)))) (va_eqi (hs _ (List.mem_of_getElem? (i := 12) (by decide +kernel)))) hA
  · exact va_Zof (hts _ (tk_9 (List.mem_of_getElem? (i := 125) (by decide +kernel)))) (hts _ (tk_1 (List.mem_of_getElem? (i := 35) (by decide +kernel)))) (va_eqi (hs _ (List.mem_of_getElem? (i := 13) (by decide +kernel)))) hA
  · exact va_Zof (hts _ (tk_9 (List.mem_of_getElem? (i := 127) (by decide +kernel)))) (hts _ (tk_1 (List.mem_of_getElem? (i := 35) (by decide +kernel)))) (va_eqi (hs _ (List.mem_of_getElem? (i := 14) (by decide +kernel)))) hA
  · rw [z21]; exact hev21.elim (fun q => Or.inl (va_Zof (hts _ (tk_9 (List.mem_of_getElem? (i := 112) (by decide +kernel)))) (hts _ (tk_1 (List.mem_of_getElem? (i := 32) (by decide +kernel)))) q hA)) (fun q => Or.inr (va_Zof (hts _ (tk_9 (List.mem_of_getElem? (i := 112) (by decide +kernel)))) (hts _ (tk_1 (List.mem_of_getElem? (i := 32) (by decide +kernel)))) q hA))
theorem gK_00 (n : Nat) : gK S00 n = 0 := by cases n <;> rfl
theorem gR_00 (n k : Nat) : gR S00 n k = 0 := by
  show nt 0 (nt [] [] n) k = 0
  rw [show nt ([] : List Nat) [] n = [] from by cases n <;> rfl]
  cases k <;> rfl
theorem whole_start {p : Program} {e : Env} {s : State} {m : MethodId} {below : List Frame} {meth : Method} {c : Code} (l : Launch) (hflags : l.flags = flags0) {b L : Nat} {xs : Nat → Int32} (hL : L ≤ 8) (hname : meth.name = yL_law.name) (C0 : lw_At p s m meth c b L xs) : W p l e room_1 s m #[Value.ref b] below meth c s.heap [] 0 0 (lw_Z below #[Value.ref b] s) (entryFrame m ([Value.ref b] : List Value).toArray 9) := by
  obtain ⟨hx, hb, hr, hml, hown, hts, hX, hbl, hlocks, hgv⟩ := C0
  have hs : ∀ c ∈ flatC lw_fl, c.before #[Value.ref b] s = true := flat_of_before _ hgv
  have hA : ∀ a : Nat, a < s.heap.size → ¬ (fun q : Nat => s.heap.size ≤ q) a := fun a h q => absurd h (Nat.not_lt.mpr q)
  have hst : l.stackTraces = false := by unfold Launch.stackTraces; rw [hflags]; decide
  obtain ⟨z, hSK⟩ := start_SK hA hts hs
  obtain ⟨cA, hcA⟩ := arr_all hts
  obtain ⟨D, hD⟩ : ∃ D : va_G, ∀ (c : Nat) (q : vw_C), vwCl[c]? = some q → u_Kn s q.1 q.2.1 q.2.2 (D.1 c) (D.2 c) := by
    have h0 : ∀ c : Nat, ∃ z : ClassId × (Nat → Nat), ∀ q : vw_C, vwCl[c]? = some q → u_Kn s q.1 q.2.1 q.2.2 z.1 z.2 := by
      intro c
      cases hc : vwCl[c]? with
      | none => exact ⟨(cA 0, fun _ => 0), fun q h => by cases h⟩
      | some q =>
        obtain ⟨z, hz⟩ := cls_all hts c q hc
        exact ⟨z, fun q9 h => by cases h; exact hz⟩
    obtain ⟨f, hf⟩ := Classical.axiomOfChoice h0
    exact ⟨(fun c => (f c).1, fun c => (f c).2), fun c q h => hf c q h⟩
  have hk0 : kz (fun n => z (n - KB)) = z := by
    funext i
    show z (KB + i - KB) = z i
    rw [Nat.add_sub_cancel_left]
  have hC : CX (p, l, e, room_1, s, m, #[Value.ref b], below, meth, c, D, cA, (fun q : Nat => s.heap.size ≤ q), 0, (fun n => z (n - KB)), [(0, Value.ref b)]) cL_law 9 yL_law rm_L_law := by
    refine ⟨hx, hb, hml, hown, fun w hw => hts w (wt_tbl hw), ⟨hD, hcA⟩, fun q h => h, start_EE hA hts hs, start_NN hts hs, hlocks, hst, rfl, hname, fun q hq => ?_, by rw [hk0]; exact hSK⟩
    obtain rfl := List.mem_singleton.mp hq
    exact ⟨rfl, rfl⟩
  have hLX : LX (p, l, e, room_1, s, m, #[Value.ref b], below, meth, c, D, cA, (fun q : Nat => s.heap.size ≤ q), 0, (fun n => z (n - KB)), [(0, Value.ref b)]) b L xs := ⟨rfl, hX, hbl, hA b hbl, rfl, rfl, hr⟩
  obtain ⟨S9, h9⟩ := law_all (xs := xs) hL
  have hw := t_L_law hst hC rfl hLX h9
  have hl := lv_entry ([.ref b]) (n := 9) (Nat.le_of_ble_eq_true rfl)
  rw [lg_entry_eq]
  generalize (lg_sl ([.ref b]) ++ List.replicate (9 - (lg_sl ([.ref b])).length) Slot.unset).toArray = ls at hl ⊢
  have hl : lv_has ls 9 [(0, .ref b)] := hl
  refine hw (fun n => z (n - KB)) s.heap [] ls (Nat.le_refl _) AG.rf ⟨fun k q h => ?_, ⟨fun i j p q h => ?_, fun k q h => ?_⟩, fun n h => absurd (gK_00 n) h, fun n k => Or.inl (by rw [gR_00]; exact Nat.zero_le _)⟩ va_S.rf hl (fun q hq => nomatch hq) (fun v hv => nomatch hv)
  · simp [pw, S00, gN] at h
  · simp [pw, S00, gN] at h
  · simp [pw, S00, gN] at h
end START
