section THR
def ncs : List (String × String) := [("java/lang/IllegalArgumentException", "java/lang/IndexOutOfBoundsException"), ("java/lang/IllegalArgumentException", "java/lang/UnsupportedOperationException"), ("java/lang/IllegalStateException", "java/lang/IllegalArgumentException"), ("java/lang/IllegalStateException", "java/lang/IndexOutOfBoundsException"), ("java/lang/IllegalStateException", "java/lang/UnsupportedOperationException"), ("java/lang/UnsupportedOperationException", "java/lang/IllegalArgumentException"), ("java/lang/UnsupportedOperationException", "java/lang/IndexOutOfBoundsException"), ("java/util/NoSuchElementException", "java/lang/IllegalArgumentException"), ("java/util/NoSuchElementException", "java/lang/IndexOutOfBoundsException"), ("java/util/NoSuchElementException", "java/lang/UnsupportedOperationException")]
def sts : List (String × Nat × String) := [("MixBooth", 421, "an argument is out of range"), ("MixBooth", 65, "there is no room for another record"), ("MixBooth", 446, "there is no such record"), ("MixBooth", 91, "the record is on a deck"), ("MixBooth", 440, "there is no such deck"), ("MixBooth", 129, "the deck plays"), ("MixBooth", 191, "the deck is empty"), ("MixBooth", 166, "the loop goes beyond the record"), ("MixBooth", 229, "the deck has no room for another effect"), ("MixBooth", 242, "there is no such effect"), ("MixBooth", 423, "both decks are the same"), ("MixBooth", 319, "nothing is heard"), ("MixBooth", 452, "there are not so many records"), ("MixBooth", 344, "the text is full"), ("MixBooth", 358, "the text cannot be read"), ("MixBooth", 369, "a move cannot be done"), ("MixBooth", 433, "there is no cause so deep"), ("MixBooth", 427, "no tick is gone"), ("MixBoothModel", 40, ""), ("MixBoothModel", 205, "lmr"), ("MixBoothModel", 228, "erc"), ("MixBoothModel", 379, "psbcmlx+-fk"), ("MixBoothModel", 381, "cml+-f"), ("MixBoothModel", 387, "pbcml+-k")]
def THS (own : String) (ik is ic : Nat) (cls text : String) (names : List String) : Prop := Bundle.fit cls = true ∧ (∀ n ∈ names, Bundle.fit n = true) ∧ Cond.classLink own ik cls ∈ wt ∧ Cond.initialized cls ∈ wt ∧ (own, is, text) ∈ sts ∧ (∀ w ∈ vx_atS own ic cls names, w ∈ wt ∨ w ∈ wn) ∧ (∀ w ∈ Cond.classLink own ik cls :: Cond.initialized cls :: vx_atS own ic cls names, vx_ot w = true)
theorem ths_in {L : List Cond} (h : L.all (fun w => (goodWord w || nwd w) && decide (w ∈ lw_tbl)) = true) : ∀ w ∈ L, w ∈ wt ∨ w ∈ wn := fun w hw => by
  have h1 := List.all_eq_true.mp h w hw
  simp only [Bool.and_eq_true, Bool.or_eq_true, decide_eq_true_eq] at h1
  rcases h1.1 with g | g
  · exact Or.inl (List.mem_filter.mpr ⟨h1.2, g⟩)
  · exact Or.inr (List.mem_filter.mpr ⟨h1.2, g⟩)
def THN (own : String) (ik is ic ix : Nat) (cls text : String) (rx : ByteArray) : Prop := Bundle.fit cls = true ∧ Cond.classLink own ik cls ∈ wt ∧ Cond.initialized cls ∈ wt ∧ (own, is, text) ∈ sts ∧ (∀ w ∈ ns_at own ic cls ix rx, w ∈ wt ∨ w ∈ wn) ∧ (∀ w ∈ Cond.classLink own ik cls :: Cond.initialized cls :: ns_at own ic cls ix rx, vx_ot w = true) ∧ decode rx 0 = .ok (.aload_n 0, 1) ∧ decode rx 1 = .ok (.aload_n 1, 1) ∧ decode rx 2 = .ok (.invokespecial ix, 3) ∧ decode rx 5 = .ok (.return_, 1)
set_option maxRecDepth 100000 in
theorem th_RX10_356_360_421 : THS RX10 356 421 360 "java/lang/IllegalArgumentException" "an argument is out of range" ["java/lang/RuntimeException", "java/lang/Exception"] := ⟨by decide, by decide, wm_900, wm_65, by decide, ths_in (by decide +kernel), by decide +kernel⟩
set_option maxRecDepth 100000 in
theorem th_RX10_63_67_65 : THS RX10 63 65 67 "java/lang/IllegalStateException" "there is no room for another record" ["java/lang/RuntimeException", "java/lang/Exception"] := ⟨by decide, by decide, wm_973, wm_66, by decide, ths_in (by decide +kernel), by decide +kernel⟩
set_option maxRecDepth 100000 in
theorem th_RX10_438_442_446 : THS RX10 438 446 442 "java/lang/IndexOutOfBoundsException" "there is no such record" ["java/lang/RuntimeException", "java/lang/Exception"] := ⟨by decide, by decide, wm_1034, wm_72, by decide, ths_in (by decide +kernel), by decide +kernel⟩
set_option maxRecDepth 100000 in
theorem th_RX10_89_93_91 : THS RX10 89 91 93 "java/lang/UnsupportedOperationException" "the record is on a deck" ["java/lang/RuntimeException", "java/lang/Exception"] := ⟨by decide, by decide, wm_1048, wm_75, by decide, ths_in (by decide +kernel), by decide +kernel⟩
set_option maxRecDepth 100000 in
theorem th_RX10_438_442_440 : THS RX10 438 440 442 "java/lang/IndexOutOfBoundsException" "there is no such deck" ["java/lang/RuntimeException", "java/lang/Exception"] := ⟨by decide, by decide, wm_1034, wm_72, by decide, ths_in (by decide +kernel), by decide +kernel⟩
set_option maxRecDepth 100000 in
theorem th_RX10_89_93_129 : THS RX10 89 129 93 "java/lang/UnsupportedOperationException" "the deck plays" ["java/lang/RuntimeException", "java/lang/Exception"] := ⟨by decide, by decide, wm_1048, wm_75, by decide, ths_in (by decide +kernel), by decide +kernel⟩
set_option maxRecDepth 100000 in
theorem th_RX10_89_93_191 : THS RX10 89 191 93 "java/lang/UnsupportedOperationException" "the deck is empty" ["java/lang/RuntimeException", "java/lang/Exception"] := ⟨by decide, by decide, wm_1048, wm_75, by decide, ths_in (by decide +kernel), by decide +kernel⟩
set_option maxRecDepth 100000 in
theorem th_RX10_63_67_166 : THS RX10 63 166 67 "java/lang/IllegalStateException" "the loop goes beyond the record" ["java/lang/RuntimeException", "java/lang/Exception"] := ⟨by decide, by decide, wm_973, wm_66, by decide, ths_in (by decide +kernel), by decide +kernel⟩
set_option maxRecDepth 100000 in
theorem th_RX10_189_193_191 : THN RX10 189 191 193 13 "java/util/NoSuchElementException" "the deck is empty" prog_51_method_4_code := ⟨by decide, wm_1214, wm_78, by decide, ths_in (by decide +kernel), by decide +kernel, by decide +kernel, by decide +kernel, by decide +kernel, by decide +kernel⟩
set_option maxRecDepth 100000 in
theorem th_RX10_63_67_229 : THS RX10 63 229 67 "java/lang/IllegalStateException" "the deck has no room for another effect" ["java/lang/RuntimeException", "java/lang/Exception"] := ⟨by decide, by decide, wm_973, wm_66, by decide, ths_in (by decide +kernel), by decide +kernel⟩
set_option maxRecDepth 100000 in
theorem th_RX10_189_193_242 : THN RX10 189 242 193 13 "java/util/NoSuchElementException" "there is no such effect" prog_51_method_4_code := ⟨by decide, wm_1214, wm_78, by decide, ths_in (by decide +kernel), by decide +kernel, by decide +kernel, by decide +kernel, by decide +kernel, by decide +kernel⟩
set_option maxRecDepth 100000 in
theorem th_RX10_89_93_423 : THS RX10 89 423 93 "java/lang/UnsupportedOperationException" "both decks are the same" ["java/lang/RuntimeException", "java/lang/Exception"] := ⟨by decide, by decide, wm_1048, wm_75, by decide, ths_in (by decide +kernel), by decide +kernel⟩
set_option maxRecDepth 100000 in
theorem th_RX10_189_193_319 : THN RX10 189 319 193 13 "java/util/NoSuchElementException" "nothing is heard" prog_51_method_4_code := ⟨by decide, wm_1214, wm_78, by decide, ths_in (by decide +kernel), by decide +kernel, by decide +kernel, by decide +kernel, by decide +kernel, by decide +kernel⟩
set_option maxRecDepth 100000 in
theorem th_RX10_189_193_452 : THN RX10 189 452 193 13 "java/util/NoSuchElementException" "there are not so many records" prog_51_method_4_code := ⟨by decide, wm_1214, wm_78, by decide, ths_in (by decide +kernel), by decide +kernel, by decide +kernel, by decide +kernel, by decide +kernel, by decide +kernel⟩
set_option maxRecDepth 100000 in
theorem th_RX10_63_67_344 : THS RX10 63 344 67 "java/lang/IllegalStateException" "the text is full" ["java/lang/RuntimeException", "java/lang/Exception"] := ⟨by decide, by decide, wm_973, wm_66, by decide, ths_in (by decide +kernel), by decide +kernel⟩
set_option maxRecDepth 100000 in
theorem th_RX10_89_93_369 : THS RX10 89 369 93 "java/lang/UnsupportedOperationException" "a move cannot be done" ["java/lang/RuntimeException", "java/lang/Exception"] := ⟨by decide, by decide, wm_1048, wm_75, by decide, ths_in (by decide +kernel), by decide +kernel⟩
set_option maxRecDepth 100000 in
theorem th_RX10_356_360_358 : THS RX10 356 358 360 "java/lang/IllegalArgumentException" "the text cannot be read" ["java/lang/RuntimeException", "java/lang/Exception"] := ⟨by decide, by decide, wm_900, wm_65, by decide, ths_in (by decide +kernel), by decide +kernel⟩
set_option maxRecDepth 100000 in
theorem th_RX10_189_193_433 : THN RX10 189 433 193 13 "java/util/NoSuchElementException" "there is no cause so deep" prog_51_method_4_code := ⟨by decide, wm_1214, wm_78, by decide, ths_in (by decide +kernel), by decide +kernel, by decide +kernel, by decide +kernel, by decide +kernel, by decide +kernel⟩
set_option maxRecDepth 100000 in
theorem th_RX10_425_429_427 : THS RX10 425 427 429 "java/lang/ArithmeticException" "no tick is gone" ["java/lang/RuntimeException", "java/lang/Exception"] := ⟨by decide, by decide, wm_1521, wm_87, by decide, ths_in (by decide +kernel), by decide +kernel⟩
end THR
