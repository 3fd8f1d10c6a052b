def wt : List Cond := lw_tbl.filter goodWord
theorem wt_of {w : Cond} (i : Nat) (h : lw_tbl[i]? = some w) (hg : goodWord w = true) : w ∈ wt := List.mem_filter.mpr ⟨List.mem_of_getElem? h, hg⟩
theorem wt_good {w : Cond} (h : w ∈ wt) : (w.onTables && w.keeps) = true ∨ ∃ ty, w = .arrayClass ty := good_of_word (List.mem_filter.mp h).2
theorem wt_tbl {w : Cond} (h : w ∈ wt) : w ∈ lw_tbl := (List.mem_filter.mp h).1
theorem wm_0 : (Jvm.Cond.selects "MixBooth" ({ cls := "MixBooth", name := "redoLog", desc := "()V" } : Jvm.MethodName) ({ cls := "MixBooth", name := "redoLog", desc := "()V" } : Jvm.MethodName)) ∈ wt := wt_of 0 (by decide +kernel) rfl
theorem wm_1 : (Jvm.Cond.selects "MixBooth" ({ cls := "MixBooth", name := "redoAdd", desc := "(I)V" } : Jvm.MethodName) ({ cls := "MixBooth", name := "redoAdd", desc := "(I)V" } : Jvm.MethodName)) ∈ wt := wt_of 1 (by decide +kernel) rfl
theorem wm_2 : (Jvm.Cond.selects "MixBooth" ({ cls := "MixBooth", name := "redoOnDisc", desc := "(I)V" } : Jvm.MethodName) ({ cls := "MixBooth", name := "redoOnDisc", desc := "(I)V" } : Jvm.MethodName)) ∈ wt := wt_of 2 (by decide +kernel) rfl
theorem wm_3 : (Jvm.Cond.selects "MixBooth$Night" ({ cls := "MixBooth$Night", name := "advanceDecks", desc := "()V" } : Jvm.MethodName) ({ cls := "MixBooth$Night", name := "advanceDecks", desc := "()V" } : Jvm.MethodName)) ∈ wt := wt_of 3 (by decide +kernel) rfl
theorem wm_4 : (Jvm.Cond.selects "MixBooth$Deck" ({ cls := "MixBooth$Deck", name := "nextStep", desc := "()I" } : Jvm.MethodName) ({ cls := "MixBooth$Deck", name := "nextStep", desc := "()I" } : Jvm.MethodName)) ∈ wt := wt_of 4 (by decide +kernel) rfl
theorem wm_5 : (Jvm.Cond.selects "MixBooth$Deck" ({ cls := "MixBooth$Deck", name := "loopedBack", desc := "(J)J" } : Jvm.MethodName) ({ cls := "MixBooth$Deck", name := "loopedBack", desc := "(J)J" } : Jvm.MethodName)) ∈ wt := wt_of 5 (by decide +kernel) rfl
theorem wm_6 : (Jvm.Cond.selects "MixBooth$Night" ({ cls := "MixBooth$Night", name := "mixDecks", desc := "()V" } : Jvm.MethodName) ({ cls := "MixBooth$Night", name := "mixDecks", desc := "()V" } : Jvm.MethodName)) ∈ wt := wt_of 6 (by decide +kernel) rfl
theorem wm_7 : (Jvm.Cond.selects "MixBooth$Night" ({ cls := "MixBooth$Night", name := "countClashes", desc := "()V" } : Jvm.MethodName) ({ cls := "MixBooth$Night", name := "countClashes", desc := "()V" } : Jvm.MethodName)) ∈ wt := wt_of 7 (by decide +kernel) rfl
theorem wm_8 : (Jvm.Cond.selects "MixBooth$Disc" ({ cls := "MixBooth$Disc", name := "hasBitAt", desc := "(IJ)Z" } : Jvm.MethodName) ({ cls := "MixBooth$Disc", name := "hasBitAt", desc := "(IJ)Z" } : Jvm.MethodName)) ∈ wt := wt_of 8 (by decide +kernel) rfl
theorem wm_9 : (Jvm.Cond.selects "MixBooth$Floor" ({ cls := "MixBooth$Floor", name := "feel", desc := "(IIZ)V" } : Jvm.MethodName) ({ cls := "MixBooth$Floor", name := "feel", desc := "(IIZ)V" } : Jvm.MethodName)) ∈ wt := wt_of 9 (by decide +kernel) rfl
theorem wm_10 : (Jvm.Cond.selects "MixBooth$Moves" ({ cls := "MixBooth$Moves", name := "addCause", desc := "(CI)V" } : Jvm.MethodName) ({ cls := "MixBooth$Moves", name := "addCause", desc := "(CI)V" } : Jvm.MethodName)) ∈ wt := wt_of 10 (by decide +kernel) rfl
theorem wm_11 : (Jvm.Cond.selects "MixBooth" ({ cls := "MixBooth", name := "redoOnDeck", desc := "(I)V" } : Jvm.MethodName) ({ cls := "MixBooth", name := "redoOnDeck", desc := "(I)V" } : Jvm.MethodName)) ∈ wt := wt_of 11 (by decide +kernel) rfl
theorem wm_12 : (Jvm.Cond.selects "MixBooth$Deck" ({ cls := "MixBooth$Deck", name := "nearestPitch", desc := "(I)I" } : Jvm.MethodName) ({ cls := "MixBooth$Deck", name := "nearestPitch", desc := "(I)I" } : Jvm.MethodName)) ∈ wt := wt_of 12 (by decide +kernel) rfl
theorem wm_13 : (Jvm.Cond.selects "MixBooth$Deck" ({ cls := "MixBooth$Deck", name := "paceOff", desc := "(II)I" } : Jvm.MethodName) ({ cls := "MixBooth$Deck", name := "paceOff", desc := "(II)I" } : Jvm.MethodName)) ∈ wt := wt_of 13 (by decide +kernel) rfl
theorem wm_14 : (Jvm.Cond.selects "MixBooth" ({ cls := "MixBooth", name := "rowsAreSound", desc := "()Z" } : Jvm.MethodName) ({ cls := "MixBooth", name := "rowsAreSound", desc := "()Z" } : Jvm.MethodName)) ∈ wt := wt_of 14 (by decide +kernel) rfl
theorem wm_15 : (Jvm.Cond.selects "MixBooth$Search" ({ cls := "MixBooth$Search", name := "wantedDiscs", desc := "()I" } : Jvm.MethodName) ({ cls := "MixBooth$Search", name := "wantedDiscs", desc := "()I" } : Jvm.MethodName)) ∈ wt := wt_of 15 (by decide +kernel) rfl
theorem wm_16 : (Jvm.Cond.selects "MixBooth$Search" ({ cls := "MixBooth$Search", name := "keepIfCheaper", desc := "(I)V" } : Jvm.MethodName) ({ cls := "MixBooth$Search", name := "keepIfCheaper", desc := "(I)V" } : Jvm.MethodName)) ∈ wt := wt_of 16 (by decide +kernel) rfl
theorem wm_17 : (Jvm.Cond.selects "java/lang/Throwable" ({ cls := "java/lang/Throwable", name := "fillInStackTrace", desc := "(I)Ljava/lang/Throwable;" } : Jvm.MethodName) ({ cls := "java/lang/Throwable", name := "fillInStackTrace", desc := "(I)Ljava/lang/Throwable;" } : Jvm.MethodName)) ∈ wt := wt_of 17 (by decide +kernel) rfl
theorem wm_18 : (Jvm.Cond.selects "MixBooth" ({ cls := "MixBooth", name := "discOf", desc := "(I)LMixBooth$Disc;" } : Jvm.MethodName) ({ cls := "MixBooth", name := "discOf", desc := "(I)LMixBooth$Disc;" } : Jvm.MethodName)) ∈ wt := wt_of 18 (by decide +kernel) rfl
theorem wm_19 : (Jvm.Cond.selects "MixBooth" ({ cls := "MixBooth", name := "deckOf", desc := "(I)LMixBooth$Deck;" } : Jvm.MethodName) ({ cls := "MixBooth", name := "deckOf", desc := "(I)LMixBooth$Deck;" } : Jvm.MethodName)) ∈ wt := wt_of 19 (by decide +kernel) rfl
theorem wm_20 : (Jvm.Cond.selects "MixBooth" ({ cls := "MixBooth", name := "searchFrom", desc := "(II)V" } : Jvm.MethodName) ({ cls := "MixBooth", name := "searchFrom", desc := "(II)V" } : Jvm.MethodName)) ∈ wt := wt_of 20 (by decide +kernel) rfl
theorem wm_21 : (Jvm.Cond.selects "MixBooth$Moves" ({ cls := "MixBooth$Moves", name := "firstFault", desc := "()I" } : Jvm.MethodName) ({ cls := "MixBooth$Moves", name := "firstFault", desc := "()I" } : Jvm.MethodName)) ∈ wt := wt_of 21 (by decide +kernel) rfl
theorem wm_22 : (Jvm.Cond.selects "MixBooth" ({ cls := "MixBooth", name := "demandCause", desc := "(I)V" } : Jvm.MethodName) ({ cls := "MixBooth", name := "demandCause", desc := "(I)V" } : Jvm.MethodName)) ∈ wt := wt_of 22 (by decide +kernel) rfl
theorem wm_23 : (Jvm.Cond.selects "MixBooth" ({ cls := "MixBooth", name := "demandTicks", desc := "()V" } : Jvm.MethodName) ({ cls := "MixBooth", name := "demandTicks", desc := "()V" } : Jvm.MethodName)) ∈ wt := wt_of 23 (by decide +kernel) rfl
theorem wm_24 : (Jvm.Cond.selects "MixBoothModel" ({ cls := "MixBoothModel", name := "isWrong", desc := "(I)Z" } : Jvm.MethodName) ({ cls := "MixBoothModel", name := "isWrong", desc := "(I)Z" } : Jvm.MethodName)) ∈ wt := wt_of 24 (by decide +kernel) rfl
theorem wm_25 : (Jvm.Cond.selects "java/util/ArrayList" ({ cls := "java/util/ArrayList", name := "add", desc := "(Ljava/lang/Object;[Ljava/lang/Object;I)V" } : Jvm.MethodName) ({ cls := "java/util/ArrayList", name := "add", desc := "(Ljava/lang/Object;[Ljava/lang/Object;I)V" } : Jvm.MethodName)) ∈ wt := wt_of 25 (by decide +kernel) rfl
theorem wm_26 : (Jvm.Cond.selects "java/util/ArrayList" ({ cls := "java/util/ArrayList", name := "grow", desc := "()[Ljava/lang/Object;" } : Jvm.MethodName) ({ cls := "java/util/ArrayList", name := "grow", desc := "()[Ljava/lang/Object;" } : Jvm.MethodName)) ∈ wt := wt_of 26 (by decide +kernel) rfl
theorem wm_27 : (Jvm.Cond.selects "java/util/ArrayList" ({ cls := "java/util/ArrayList", name := "grow", desc := "(I)[Ljava/lang/Object;" } : Jvm.MethodName) ({ cls := "java/util/ArrayList", name := "grow", desc := "(I)[Ljava/lang/Object;" } : Jvm.MethodName)) ∈ wt := wt_of 27 (by decide +kernel) rfl
theorem wm_28 : (Jvm.Cond.selects "MixBoothModel" ({ cls := "MixBoothModel", name := "logs", desc := "()V" } : Jvm.MethodName) ({ cls := "MixBoothModel", name := "logs", desc := "()V" } : Jvm.MethodName)) ∈ wt := wt_of 28 (by decide +kernel) rfl
theorem wm_29 : (Jvm.Cond.selects "MixBoothModel" ({ cls := "MixBoothModel", name := "isDisc", desc := "(I)Z" } : Jvm.MethodName) ({ cls := "MixBoothModel", name := "isDisc", desc := "(I)Z" } : Jvm.MethodName)) ∈ wt := wt_of 29 (by decide +kernel) rfl
theorem wm_30 : (Jvm.Cond.selects "MixBoothModel" ({ cls := "MixBoothModel", name := "isOnDeck", desc := "(LMixBoothModel$Disc;)Z" } : Jvm.MethodName) ({ cls := "MixBoothModel", name := "isOnDeck", desc := "(LMixBoothModel$Disc;)Z" } : Jvm.MethodName)) ∈ wt := wt_of 30 (by decide +kernel) rfl
theorem wm_31 : (Jvm.Cond.selects "MixBoothModel" ({ cls := "MixBoothModel", name := "isNoRecord", desc := "(I)Z" } : Jvm.MethodName) ({ cls := "MixBoothModel", name := "isNoRecord", desc := "(I)Z" } : Jvm.MethodName)) ∈ wt := wt_of 31 (by decide +kernel) rfl
theorem wm_32 : (Jvm.Cond.selects "MixBoothModel" ({ cls := "MixBoothModel", name := "isEmpty", desc := "(I)Z" } : Jvm.MethodName) ({ cls := "MixBoothModel", name := "isEmpty", desc := "(I)Z" } : Jvm.MethodName)) ∈ wt := wt_of 32 (by decide +kernel) rfl
theorem wm_33 : (Jvm.Cond.selects "MixBoothModel" ({ cls := "MixBoothModel", name := "levelOf", desc := "(LMixBoothModel$Deck;)I" } : Jvm.MethodName) ({ cls := "MixBoothModel", name := "levelOf", desc := "(LMixBoothModel$Deck;)I" } : Jvm.MethodName)) ∈ wt := wt_of 33 (by decide +kernel) rfl
theorem wm_34 : (Jvm.Cond.selects "MixBoothModel" ({ cls := "MixBoothModel", name := "tick", desc := "()V" } : Jvm.MethodName) ({ cls := "MixBoothModel", name := "tick", desc := "()V" } : Jvm.MethodName)) ∈ wt := wt_of 34 (by decide +kernel) rfl
theorem wm_35 : (Jvm.Cond.selects "MixBoothModel" ({ cls := "MixBoothModel", name := "sounds", desc := "(LMixBoothModel$Deck;)I" } : Jvm.MethodName) ({ cls := "MixBoothModel", name := "sounds", desc := "(LMixBoothModel$Deck;)I" } : Jvm.MethodName)) ∈ wt := wt_of 35 (by decide +kernel) rfl
theorem wm_36 : (Jvm.Cond.selects "MixBoothModel" ({ cls := "MixBoothModel", name := "loudnessOf", desc := "(LMixBoothModel$Deck;)I" } : Jvm.MethodName) ({ cls := "MixBoothModel", name := "loudnessOf", desc := "(LMixBoothModel$Deck;)I" } : Jvm.MethodName)) ∈ wt := wt_of 36 (by decide +kernel) rfl
theorem wm_37 : (Jvm.Cond.selects "MixBoothModel" ({ cls := "MixBoothModel", name := "isHeard", desc := "(LMixBoothModel$Deck;)Z" } : Jvm.MethodName) ({ cls := "MixBoothModel", name := "isHeard", desc := "(LMixBoothModel$Deck;)Z" } : Jvm.MethodName)) ∈ wt := wt_of 37 (by decide +kernel) rfl
theorem wm_38 : (Jvm.Cond.selects "MixBoothModel" ({ cls := "MixBoothModel", name := "dances", desc := "()V" } : Jvm.MethodName) ({ cls := "MixBoothModel", name := "dances", desc := "()V" } : Jvm.MethodName)) ∈ wt := wt_of 38 (by decide +kernel) rfl
theorem wm_39 : (Jvm.Cond.selects "MixBoothModel" ({ cls := "MixBoothModel", name := "plain", desc := "(I)I" } : Jvm.MethodName) ({ cls := "MixBoothModel", name := "plain", desc := "(I)I" } : Jvm.MethodName)) ∈ wt := wt_of 39 (by decide +kernel) rfl
theorem wm_40 : (Jvm.Cond.selects "MixBoothModel" ({ cls := "MixBoothModel", name := "finds", desc := "(II)Z" } : Jvm.MethodName) ({ cls := "MixBoothModel", name := "finds", desc := "(II)Z" } : Jvm.MethodName)) ∈ wt := wt_of 40 (by decide +kernel) rfl
theorem wm_41 : (Jvm.Cond.selects "MixBoothModel" ({ cls := "MixBoothModel", name := "rows", desc := "(LMixBoothModel$Disc;I[ZII)V" } : Jvm.MethodName) ({ cls := "MixBoothModel", name := "rows", desc := "(LMixBoothModel$Disc;I[ZII)V" } : Jvm.MethodName)) ∈ wt := wt_of 41 (by decide +kernel) rfl
theorem wm_42 : (Jvm.Cond.selects "MixBoothModel" ({ cls := "MixBoothModel", name := "isFree", desc := "(LMixBoothModel$Disc;)Z" } : Jvm.MethodName) ({ cls := "MixBoothModel", name := "isFree", desc := "(LMixBoothModel$Disc;)Z" } : Jvm.MethodName)) ∈ wt := wt_of 42 (by decide +kernel) rfl
theorem wm_43 : (Jvm.Cond.selects "MixBoothModel" ({ cls := "MixBoothModel", name := "badSign", desc := "()I" } : Jvm.MethodName) ({ cls := "MixBoothModel", name := "badSign", desc := "()I" } : Jvm.MethodName)) ∈ wt := wt_of 43 (by decide +kernel) rfl
theorem wm_44 : (Jvm.Cond.selects "MixBoothModel" ({ cls := "MixBoothModel", name := "refuses", desc := "(CICI)V" } : Jvm.MethodName) ({ cls := "MixBoothModel", name := "refuses", desc := "(CICI)V" } : Jvm.MethodName)) ∈ wt := wt_of 44 (by decide +kernel) rfl
theorem wm_45 : (Jvm.Cond.initialized "MixBoothLaw") ∈ wt := wt_of 45 (by decide +kernel) rfl
theorem wm_46 : (Jvm.Cond.initialized "MixBooth") ∈ wt := wt_of 46 (by decide +kernel) rfl
theorem wm_47 : (Jvm.Cond.initialized "MixBooth$Night") ∈ wt := wt_of 47 (by decide +kernel) rfl
theorem wm_48 : (Jvm.Cond.initialized "MixBooth$Disc") ∈ wt := wt_of 48 (by decide +kernel) rfl
theorem wm_49 : (Jvm.Cond.initialized "MixBooth$Deck") ∈ wt := wt_of 49 (by decide +kernel) rfl
theorem wm_50 : (Jvm.Cond.initialized "MixBooth$Channel") ∈ wt := wt_of 50 (by decide +kernel) rfl
theorem wm_51 : (Jvm.Cond.initialized "MixBooth$Effect") ∈ wt := wt_of 51 (by decide +kernel) rfl
theorem wm_52 : (Jvm.Cond.initialized "MixBooth$Floor") ∈ wt := wt_of 52 (by decide +kernel) rfl
theorem wm_53 : (Jvm.Cond.initialized "MixBooth$Law") ∈ wt := wt_of 53 (by decide +kernel) rfl
theorem wm_54 : (Jvm.Cond.initialized "MixBooth$Log") ∈ wt := wt_of 54 (by decide +kernel) rfl
theorem wm_55 : (Jvm.Cond.initialized "MixBooth$Moves") ∈ wt := wt_of 55 (by decide +kernel) rfl
theorem wm_56 : (Jvm.Cond.initialized "MixBooth$Search") ∈ wt := wt_of 56 (by decide +kernel) rfl
theorem wm_57 : (Jvm.Cond.initialized "MixBoothModel") ∈ wt := wt_of 57 (by decide +kernel) rfl
theorem wm_58 : (Jvm.Cond.initialized "java/util/AbstractCollection") ∈ wt := wt_of 58 (by decide +kernel) rfl
theorem wm_59 : (Jvm.Cond.initialized "java/util/AbstractList") ∈ wt := wt_of 59 (by decide +kernel) rfl
theorem wm_60 : (Jvm.Cond.initialized "java/util/ArrayList") ∈ wt := wt_of 60 (by decide +kernel) rfl
theorem wm_61 : (Jvm.Cond.initialized "MixBoothModel$Deck") ∈ wt := wt_of 61 (by decide +kernel) rfl
theorem wm_62 : (Jvm.Cond.initialized "java/lang/Throwable") ∈ wt := wt_of 62 (by decide +kernel) rfl
theorem wm_63 : (Jvm.Cond.initialized "java/lang/Exception") ∈ wt := wt_of 63 (by decide +kernel) rfl
theorem wm_64 : (Jvm.Cond.initialized "java/lang/RuntimeException") ∈ wt := wt_of 64 (by decide +kernel) rfl
theorem wm_65 : (Jvm.Cond.initialized "java/lang/IllegalArgumentException") ∈ wt := wt_of 65 (by decide +kernel) rfl
theorem wm_66 : (Jvm.Cond.initialized "java/lang/IllegalStateException") ∈ wt := wt_of 66 (by decide +kernel) rfl
theorem wm_67 : (Jvm.Cond.initialized "MixBoothModel$Disc") ∈ wt := wt_of 67 (by decide +kernel) rfl
theorem wm_68 : (Jvm.Cond.initialized "jdk/internal/util/ArraysSupport") ∈ wt := wt_of 68 (by decide +kernel) rfl
theorem wm_69 : (Jvm.Cond.initialized "java/lang/Math") ∈ wt := wt_of 69 (by decide +kernel) rfl
theorem wm_70 : (Jvm.Cond.initialized "java/util/Arrays") ∈ wt := wt_of 70 (by decide +kernel) rfl
theorem wm_71 : (Jvm.Cond.initialized "java/lang/System") ∈ wt := wt_of 71 (by decide +kernel) rfl
theorem wm_72 : (Jvm.Cond.initialized "java/lang/IndexOutOfBoundsException") ∈ wt := wt_of 72 (by decide +kernel) rfl
theorem wm_73 : (Jvm.Cond.initialized "java/lang/ArrayIndexOutOfBoundsException") ∈ wt := wt_of 73 (by decide +kernel) rfl
theorem wm_74 : (Jvm.Cond.initialized "java/lang/String") ∈ wt := wt_of 74 (by decide +kernel) rfl
theorem wm_75 : (Jvm.Cond.initialized "java/lang/UnsupportedOperationException") ∈ wt := wt_of 75 (by decide +kernel) rfl
theorem wm_76 : (Jvm.Cond.initialized "java/util/Objects") ∈ wt := wt_of 76 (by decide +kernel) rfl
theorem wm_77 : (Jvm.Cond.initialized "jdk/internal/util/Preconditions") ∈ wt := wt_of 77 (by decide +kernel) rfl
theorem wm_78 : (Jvm.Cond.initialized "java/util/NoSuchElementException") ∈ wt := wt_of 78 (by decide +kernel) rfl
theorem wm_79 : (Jvm.Cond.initialized "java/lang/StringLatin1") ∈ wt := wt_of 79 (by decide +kernel) rfl
theorem wm_80 : (Jvm.Cond.initialized "java/lang/StringUTF16") ∈ wt := wt_of 80 (by decide +kernel) rfl
theorem wm_81 : (Jvm.Cond.initialized "java/lang/Character") ∈ wt := wt_of 81 (by decide +kernel) rfl
theorem wm_82 : (Jvm.Cond.initialized "java/lang/Number") ∈ wt := wt_of 82 (by decide +kernel) rfl
theorem wm_83 : (Jvm.Cond.initialized "java/lang/Integer") ∈ wt := wt_of 83 (by decide +kernel) rfl
theorem wm_84 : (Jvm.Cond.initialized "java/util/ArrayList$Itr") ∈ wt := wt_of 84 (by decide +kernel) rfl
theorem wm_85 : (Jvm.Cond.initialized "java/lang/AbstractStringBuilder") ∈ wt := wt_of 85 (by decide +kernel) rfl
theorem wm_86 : (Jvm.Cond.initialized "java/lang/StringBuilder") ∈ wt := wt_of 86 (by decide +kernel) rfl
theorem wm_87 : (Jvm.Cond.initialized "java/lang/ArithmeticException") ∈ wt := wt_of 87 (by decide +kernel) rfl
theorem wm_88 : (Jvm.Cond.classLink "MixBoothLaw" (8 : Nat) "MixBooth") ∈ wt := wt_of 88 (by decide +kernel) rfl
theorem wm_89 : (Jvm.Cond.instantiable "MixBooth" (6 : Nat)) ∈ wt := wt_of 89 (by decide +kernel) rfl
theorem wm_90 : (Jvm.Cond.methodLink "MixBoothLaw" (183 : Nat) ({ cls := "MixBooth", name := "<init>", desc := "()V" } : Jvm.MethodName)) ∈ wt := wt_of 90 (by decide +kernel) rfl
theorem wm_91 : (Jvm.Cond.instanceMethod ({ cls := "MixBooth", name := "<init>", desc := "()V" } : Jvm.MethodName)) ∈ wt := wt_of 91 (by decide +kernel) rfl
theorem wm_92 : (Jvm.Cond.code ({ cls := "MixBooth", name := "<init>", desc := "()V" } : Jvm.MethodName) prog_1_method_1_code (1 : Nat) (Option.none : Option Jvm.ClassFile.FieldType)) ∈ wt := wt_of 92 (by decide +kernel) rfl
theorem wm_93 : (Jvm.Cond.methodLink "MixBooth" (1 : Nat) ({ cls := "java/lang/Object", name := "<init>", desc := "()V" } : Jvm.MethodName)) ∈ wt := wt_of 93 (by decide +kernel) rfl
theorem wm_94 : (Jvm.Cond.instanceMethod ({ cls := "java/lang/Object", name := "<init>", desc := "()V" } : Jvm.MethodName)) ∈ wt := wt_of 94 (by decide +kernel) rfl
theorem wm_95 : (Jvm.Cond.code ({ cls := "java/lang/Object", name := "<init>", desc := "()V" } : Jvm.MethodName) object_method_1_code (1 : Nat) (Option.none : Option Jvm.ClassFile.FieldType)) ∈ wt := wt_of 95 (by decide +kernel) rfl
theorem wm_96 : (Jvm.Cond.classLink "MixBooth" (7 : Nat) "MixBooth$Night") ∈ wt := wt_of 96 (by decide +kernel) rfl
theorem wm_97 : (Jvm.Cond.instantiable "MixBooth$Night" (13 : Nat)) ∈ wt := wt_of 97 (by decide +kernel) rfl
theorem wm_98 : (Jvm.Cond.methodLink "MixBooth" (9 : Nat) ({ cls := "MixBooth$Night", name := "<init>", desc := "()V" } : Jvm.MethodName)) ∈ wt := wt_of 98 (by decide +kernel) rfl
theorem wm_99 : (Jvm.Cond.instanceMethod ({ cls := "MixBooth$Night", name := "<init>", desc := "()V" } : Jvm.MethodName)) ∈ wt := wt_of 99 (by decide +kernel) rfl
theorem wm_100 : (Jvm.Cond.code ({ cls := "MixBooth$Night", name := "<init>", desc := "()V" } : Jvm.MethodName) prog_10_method_1_code (2 : Nat) (Option.none : Option Jvm.ClassFile.FieldType)) ∈ wt := wt_of 100 (by decide +kernel) rfl
theorem wm_101 : (Jvm.Cond.methodLink "MixBooth$Night" (3 : Nat) ({ cls := "java/lang/Object", name := "<init>", desc := "()V" } : Jvm.MethodName)) ∈ wt := wt_of 101 (by decide +kernel) rfl
theorem wm_102 : (Jvm.Cond.classLink "MixBooth$Night" (11 : Nat) "MixBooth$Disc") ∈ wt := wt_of 102 (by decide +kernel) rfl
theorem wm_103 : (Jvm.Cond.arrayOver (Jvm.ClassFile.FieldType.object "MixBooth$Disc")) ∈ wt := wt_of 103 (by decide +kernel) rfl
theorem wm_104 : (Jvm.Cond.instantiable "MixBooth$Disc" (11 : Nat)) ∈ wt := wt_of 104 (by decide +kernel) rfl
theorem wm_105 : (Jvm.Cond.methodLink "MixBooth$Night" (17 : Nat) ({ cls := "MixBooth$Disc", name := "<init>", desc := "(I)V" } : Jvm.MethodName)) ∈ wt := wt_of 105 (by decide +kernel) rfl
theorem wm_106 : (Jvm.Cond.instanceMethod ({ cls := "MixBooth$Disc", name := "<init>", desc := "(I)V" } : Jvm.MethodName)) ∈ wt := wt_of 106 (by decide +kernel) rfl
theorem wm_107 : (Jvm.Cond.code ({ cls := "MixBooth$Disc", name := "<init>", desc := "(I)V" } : Jvm.MethodName) prog_4_method_1_code (2 : Nat) (Option.none : Option Jvm.ClassFile.FieldType)) ∈ wt := wt_of 107 (by decide +kernel) rfl
theorem wm_108 : (Jvm.Cond.methodLink "MixBooth$Disc" (3 : Nat) ({ cls := "java/lang/Object", name := "<init>", desc := "()V" } : Jvm.MethodName)) ∈ wt := wt_of 108 (by decide +kernel) rfl
theorem wm_109 : (Jvm.Cond.fieldLink "MixBooth$Disc" (9 : Nat) "MixBooth$Disc" "number" "I") ∈ wt := wt_of 109 (by decide +kernel) rfl
theorem wm_110 : (Jvm.Cond.fieldLink "MixBooth$Deck" (33 : Nat) "MixBooth$Disc" "number" "I") ∈ wt := wt_of 110 (by decide +kernel) rfl
theorem wm_111 : (Jvm.Cond.fieldLink "MixBooth" (194 : Nat) "MixBooth$Disc" "number" "I") ∈ wt := wt_of 111 (by decide +kernel) rfl
theorem wm_112 : (Jvm.Cond.fieldLink "MixBooth$Disc" (15 : Nat) "MixBooth$Disc" "tempo" "I") ∈ wt := wt_of 112 (by decide +kernel) rfl
theorem wm_113 : (Jvm.Cond.fieldLink "MixBooth$Deck" (89 : Nat) "MixBooth$Disc" "tempo" "I") ∈ wt := wt_of 113 (by decide +kernel) rfl
theorem wm_114 : (Jvm.Cond.fieldLink "MixBooth$Disc" (18 : Nat) "MixBooth$Disc" "beats" "I") ∈ wt := wt_of 114 (by decide +kernel) rfl
theorem wm_115 : (Jvm.Cond.fieldLink "MixBooth$Deck" (70 : Nat) "MixBooth$Disc" "beats" "I") ∈ wt := wt_of 115 (by decide +kernel) rfl
theorem wm_116 : (Jvm.Cond.fieldLink "MixBooth$Disc" (21 : Nat) "MixBooth$Disc" "key" "I") ∈ wt := wt_of 116 (by decide +kernel) rfl
theorem wm_117 : (Jvm.Cond.fieldLink "MixBooth" (104 : Nat) "MixBooth$Disc" "key" "I") ∈ wt := wt_of 117 (by decide +kernel) rfl
theorem wm_118 : (Jvm.Cond.fieldLink "MixBooth$Floor" (40 : Nat) "MixBooth$Disc" "key" "I") ∈ wt := wt_of 118 (by decide +kernel) rfl
theorem wm_119 : (Jvm.Cond.fieldLink "MixBooth$Disc" (24 : Nat) "MixBooth$Disc" "energy" "I") ∈ wt := wt_of 119 (by decide +kernel) rfl
theorem wm_120 : (Jvm.Cond.fieldLink "MixBooth$Floor" (48 : Nat) "MixBooth$Disc" "energy" "I") ∈ wt := wt_of 120 (by decide +kernel) rfl
theorem wm_121 : (Jvm.Cond.fieldLink "MixBooth$Deck" (112 : Nat) "MixBooth$Disc" "energy" "I") ∈ wt := wt_of 121 (by decide +kernel) rfl
theorem wm_122 : (Jvm.Cond.fieldLink "MixBooth$Disc" (27 : Nat) "MixBooth$Disc" "phrase" "I") ∈ wt := wt_of 122 (by decide +kernel) rfl
theorem wm_123 : (Jvm.Cond.fieldLink "MixBooth$Disc" (30 : Nat) "MixBooth$Disc" "voices" "I") ∈ wt := wt_of 123 (by decide +kernel) rfl
theorem wm_124 : (Jvm.Cond.fieldLink "MixBooth$Disc" (33 : Nat) "MixBooth$Disc" "quiet" "I") ∈ wt := wt_of 124 (by decide +kernel) rfl
theorem wm_125 : (Jvm.Cond.fieldLink "MixBooth$Search" (57 : Nat) "MixBooth$Disc" "banned" "Z") ∈ wt := wt_of 125 (by decide +kernel) rfl
theorem wm_126 : (Jvm.Cond.fieldLink "MixBooth$Disc" (46 : Nat) "MixBooth$Disc" "banned" "Z") ∈ wt := wt_of 126 (by decide +kernel) rfl
theorem wm_127 : (Jvm.Cond.fieldLink "MixBooth$Floor" (22 : Nat) "MixBooth$Disc" "banned" "Z") ∈ wt := wt_of 127 (by decide +kernel) rfl
theorem wm_128 : (Jvm.Cond.fieldLink "MixBooth$Disc" (50 : Nat) "MixBooth$Disc" "requested" "Z") ∈ wt := wt_of 128 (by decide +kernel) rfl
theorem wm_129 : (Jvm.Cond.fieldLink "MixBooth$Disc" (59 : Nat) "MixBooth$Disc" "heardTicks" "I") ∈ wt := wt_of 129 (by decide +kernel) rfl
theorem wm_130 : (Jvm.Cond.fieldLink "MixBooth$Night" (124 : Nat) "MixBooth$Disc" "heardTicks" "I") ∈ wt := wt_of 130 (by decide +kernel) rfl
theorem wm_131 : (Jvm.Cond.laysFinal "MixBooth$Disc" "MixBooth$Disc" "number" "I") ∈ wt := wt_of 131 (by decide +kernel) rfl
theorem wm_132 : (Jvm.Cond.soleField "MixBooth$Disc" "number") ∈ wt := wt_of 132 (by decide +kernel) rfl
theorem wm_133 : (Jvm.Cond.lays "MixBooth$Disc" "MixBooth$Disc" "tempo" "I") ∈ wt := wt_of 133 (by decide +kernel) rfl
theorem wm_134 : (Jvm.Cond.soleField "MixBooth$Disc" "tempo") ∈ wt := wt_of 134 (by decide +kernel) rfl
theorem wm_135 : (Jvm.Cond.lays "MixBooth$Disc" "MixBooth$Disc" "beats" "I") ∈ wt := wt_of 135 (by decide +kernel) rfl
theorem wm_136 : (Jvm.Cond.soleField "MixBooth$Disc" "beats") ∈ wt := wt_of 136 (by decide +kernel) rfl
theorem wm_137 : (Jvm.Cond.lays "MixBooth$Disc" "MixBooth$Disc" "key" "I") ∈ wt := wt_of 137 (by decide +kernel) rfl
theorem wm_138 : (Jvm.Cond.soleField "MixBooth$Disc" "key") ∈ wt := wt_of 138 (by decide +kernel) rfl
theorem wm_139 : (Jvm.Cond.lays "MixBooth$Disc" "MixBooth$Disc" "energy" "I") ∈ wt := wt_of 139 (by decide +kernel) rfl
theorem wm_140 : (Jvm.Cond.soleField "MixBooth$Disc" "energy") ∈ wt := wt_of 140 (by decide +kernel) rfl
theorem wm_141 : (Jvm.Cond.lays "MixBooth$Disc" "MixBooth$Disc" "phrase" "I") ∈ wt := wt_of 141 (by decide +kernel) rfl
theorem wm_142 : (Jvm.Cond.soleField "MixBooth$Disc" "phrase") ∈ wt := wt_of 142 (by decide +kernel) rfl
theorem wm_143 : (Jvm.Cond.lays "MixBooth$Disc" "MixBooth$Disc" "voices" "I") ∈ wt := wt_of 143 (by decide +kernel) rfl
theorem wm_144 : (Jvm.Cond.soleField "MixBooth$Disc" "voices") ∈ wt := wt_of 144 (by decide +kernel) rfl
theorem wm_145 : (Jvm.Cond.lays "MixBooth$Disc" "MixBooth$Disc" "quiet" "I") ∈ wt := wt_of 145 (by decide +kernel) rfl
theorem wm_146 : (Jvm.Cond.soleField "MixBooth$Disc" "quiet") ∈ wt := wt_of 146 (by decide +kernel) rfl
theorem wm_147 : (Jvm.Cond.lays "MixBooth$Disc" "MixBooth$Disc" "banned" "Z") ∈ wt := wt_of 147 (by decide +kernel) rfl
theorem wm_148 : (Jvm.Cond.soleField "MixBooth$Disc" "banned") ∈ wt := wt_of 148 (by decide +kernel) rfl
theorem wm_149 : (Jvm.Cond.lays "MixBooth$Disc" "MixBooth$Disc" "requested" "Z") ∈ wt := wt_of 149 (by decide +kernel) rfl
theorem wm_150 : (Jvm.Cond.soleField "MixBooth$Disc" "requested") ∈ wt := wt_of 150 (by decide +kernel) rfl
theorem wm_151 : (Jvm.Cond.lays "MixBooth$Disc" "MixBooth$Disc" "heardTicks" "I") ∈ wt := wt_of 151 (by decide +kernel) rfl
theorem wm_152 : (Jvm.Cond.soleField "MixBooth$Disc" "heardTicks") ∈ wt := wt_of 152 (by decide +kernel) rfl
theorem wm_153 : (Jvm.Cond.superclass "MixBooth$Disc" "java/lang/Object") ∈ wt := wt_of 153 (by decide +kernel) rfl
theorem wm_154 : (Jvm.Cond.classLink "MixBooth$Night" (20 : Nat) "MixBooth$Deck") ∈ wt := wt_of 154 (by decide +kernel) rfl
theorem wm_155 : (Jvm.Cond.arrayOver (Jvm.ClassFile.FieldType.object "MixBooth$Deck")) ∈ wt := wt_of 155 (by decide +kernel) rfl
theorem wm_156 : (Jvm.Cond.instantiable "MixBooth$Deck" (12 : Nat)) ∈ wt := wt_of 156 (by decide +kernel) rfl
theorem wm_157 : (Jvm.Cond.methodLink "MixBooth$Night" (26 : Nat) ({ cls := "MixBooth$Deck", name := "<init>", desc := "()V" } : Jvm.MethodName)) ∈ wt := wt_of 157 (by decide +kernel) rfl
theorem wm_158 : (Jvm.Cond.instanceMethod ({ cls := "MixBooth$Deck", name := "<init>", desc := "()V" } : Jvm.MethodName)) ∈ wt := wt_of 158 (by decide +kernel) rfl
theorem wm_159 : (Jvm.Cond.code ({ cls := "MixBooth$Deck", name := "<init>", desc := "()V" } : Jvm.MethodName) prog_3_method_1_code (1 : Nat) (Option.none : Option Jvm.ClassFile.FieldType)) ∈ wt := wt_of 159 (by decide +kernel) rfl
theorem wm_160 : (Jvm.Cond.methodLink "MixBooth$Deck" (3 : Nat) ({ cls := "java/lang/Object", name := "<init>", desc := "()V" } : Jvm.MethodName)) ∈ wt := wt_of 160 (by decide +kernel) rfl
theorem wm_161 : (Jvm.Cond.classLink "MixBooth$Deck" (9 : Nat) "MixBooth$Channel") ∈ wt := wt_of 161 (by decide +kernel) rfl
theorem wm_162 : (Jvm.Cond.instantiable "MixBooth$Channel" (5 : Nat)) ∈ wt := wt_of 162 (by decide +kernel) rfl
theorem wm_163 : (Jvm.Cond.methodLink "MixBooth$Deck" (11 : Nat) ({ cls := "MixBooth$Channel", name := "<init>", desc := "()V" } : Jvm.MethodName)) ∈ wt := wt_of 163 (by decide +kernel) rfl
theorem wm_164 : (Jvm.Cond.instanceMethod ({ cls := "MixBooth$Channel", name := "<init>", desc := "()V" } : Jvm.MethodName)) ∈ wt := wt_of 164 (by decide +kernel) rfl
theorem wm_165 : (Jvm.Cond.code ({ cls := "MixBooth$Channel", name := "<init>", desc := "()V" } : Jvm.MethodName) prog_2_method_1_code (2 : Nat) (Option.none : Option Jvm.ClassFile.FieldType)) ∈ wt := wt_of 165 (by decide +kernel) rfl
theorem wm_166 : (Jvm.Cond.methodLink "MixBooth$Channel" (3 : Nat) ({ cls := "java/lang/Object", name := "<init>", desc := "()V" } : Jvm.MethodName)) ∈ wt := wt_of 166 (by decide +kernel) rfl
theorem wm_167 : (Jvm.Cond.classLink "MixBooth$Channel" (15 : Nat) "MixBooth$Effect") ∈ wt := wt_of 167 (by decide +kernel) rfl
theorem wm_168 : (Jvm.Cond.arrayOver (Jvm.ClassFile.FieldType.object "MixBooth$Effect")) ∈ wt := wt_of 168 (by decide +kernel) rfl
theorem wm_169 : (Jvm.Cond.instantiable "MixBooth$Effect" (3 : Nat)) ∈ wt := wt_of 169 (by decide +kernel) rfl
theorem wm_170 : (Jvm.Cond.methodLinkNest "MixBooth$Channel" (21 : Nat) ({ cls := "MixBooth$Effect", name := "<init>", desc := "()V" } : Jvm.MethodName) "MixBooth") ∈ wt := wt_of 170 (by decide +kernel) rfl
theorem wm_171 : (Jvm.Cond.instanceMethod ({ cls := "MixBooth$Effect", name := "<init>", desc := "()V" } : Jvm.MethodName)) ∈ wt := wt_of 171 (by decide +kernel) rfl
theorem wm_172 : (Jvm.Cond.code ({ cls := "MixBooth$Effect", name := "<init>", desc := "()V" } : Jvm.MethodName) prog_5_method_1_code (1 : Nat) (Option.none : Option Jvm.ClassFile.FieldType)) ∈ wt := wt_of 172 (by decide +kernel) rfl
theorem wm_173 : (Jvm.Cond.methodLink "MixBooth$Effect" (1 : Nat) ({ cls := "java/lang/Object", name := "<init>", desc := "()V" } : Jvm.MethodName)) ∈ wt := wt_of 173 (by decide +kernel) rfl
theorem wm_174 : (Jvm.Cond.fieldLink "MixBooth$Effect" (7 : Nat) "MixBooth$Effect" "kind" "C") ∈ wt := wt_of 174 (by decide +kernel) rfl
theorem wm_175 : (Jvm.Cond.fieldLink "MixBooth$Channel" (41 : Nat) "MixBooth$Effect" "kind" "C") ∈ wt := wt_of 175 (by decide +kernel) rfl
theorem wm_176 : (Jvm.Cond.fieldLink "MixBooth$Effect" (13 : Nat) "MixBooth$Effect" "strength" "I") ∈ wt := wt_of 176 (by decide +kernel) rfl
theorem wm_177 : (Jvm.Cond.fieldLink "MixBooth$Effect" (17 : Nat) "MixBooth$Effect" "tail" "I") ∈ wt := wt_of 177 (by decide +kernel) rfl
theorem wm_178 : (Jvm.Cond.fieldLink "MixBooth" (244 : Nat) "MixBooth$Effect" "tail" "I") ∈ wt := wt_of 178 (by decide +kernel) rfl
theorem wm_179 : (Jvm.Cond.lays "MixBooth$Effect" "MixBooth$Effect" "kind" "C") ∈ wt := wt_of 179 (by decide +kernel) rfl
theorem wm_180 : (Jvm.Cond.soleField "MixBooth$Effect" "kind") ∈ wt := wt_of 180 (by decide +kernel) rfl
theorem wm_181 : (Jvm.Cond.lays "MixBooth$Effect" "MixBooth$Effect" "strength" "I") ∈ wt := wt_of 181 (by decide +kernel) rfl
theorem wm_182 : (Jvm.Cond.soleField "MixBooth$Effect" "strength") ∈ wt := wt_of 182 (by decide +kernel) rfl
theorem wm_183 : (Jvm.Cond.lays "MixBooth$Effect" "MixBooth$Effect" "tail" "I") ∈ wt := wt_of 183 (by decide +kernel) rfl
theorem wm_184 : (Jvm.Cond.soleField "MixBooth$Effect" "tail") ∈ wt := wt_of 184 (by decide +kernel) rfl
theorem wm_185 : (Jvm.Cond.superclass "MixBooth$Effect" "java/lang/Object") ∈ wt := wt_of 185 (by decide +kernel) rfl
theorem wm_186 : (Jvm.Cond.arrayClass Jvm.ClassFile.FieldType.int) ∈ wt := wt_of 186 (by decide +kernel) rfl
theorem wm_187 : (Jvm.Cond.fieldLink "MixBooth$Channel" (9 : Nat) "MixBooth$Channel" "bands" "[I") ∈ wt := wt_of 187 (by decide +kernel) rfl
theorem wm_188 : (Jvm.Cond.fieldLink "MixBooth$Channel" (17 : Nat) "MixBooth$Channel" "effects" "[LMixBooth$Effect;") ∈ wt := wt_of 188 (by decide +kernel) rfl
theorem wm_189 : (Jvm.Cond.fieldLink "MixBooth" (225 : Nat) "MixBooth$Channel" "effects" "[LMixBooth$Effect;") ∈ wt := wt_of 189 (by decide +kernel) rfl
theorem wm_190 : (Jvm.Cond.fieldLink "MixBooth$Channel" (30 : Nat) "MixBooth$Channel" "effectCount" "I") ∈ wt := wt_of 190 (by decide +kernel) rfl
theorem wm_191 : (Jvm.Cond.fieldLink "MixBooth" (222 : Nat) "MixBooth$Channel" "effectCount" "I") ∈ wt := wt_of 191 (by decide +kernel) rfl
theorem wm_192 : (Jvm.Cond.fieldLink "MixBooth$Channel" (26 : Nat) "MixBooth$Channel" "fader" "I") ∈ wt := wt_of 192 (by decide +kernel) rfl
theorem wm_193 : (Jvm.Cond.fieldLink "MixBooth$Night" (155 : Nat) "MixBooth$Channel" "fader" "I") ∈ wt := wt_of 193 (by decide +kernel) rfl
theorem wm_194 : (Jvm.Cond.fieldLink "MixBooth$Channel" (22 : Nat) "MixBooth$Channel" "side" "C") ∈ wt := wt_of 194 (by decide +kernel) rfl
theorem wm_195 : (Jvm.Cond.laysFinal "MixBooth$Channel" "MixBooth$Channel" "bands" "[I") ∈ wt := wt_of 195 (by decide +kernel) rfl
theorem wm_196 : (Jvm.Cond.soleField "MixBooth$Channel" "bands") ∈ wt := wt_of 196 (by decide +kernel) rfl
theorem wm_197 : (Jvm.Cond.laysFinal "MixBooth$Channel" "MixBooth$Channel" "effects" "[LMixBooth$Effect;") ∈ wt := wt_of 197 (by decide +kernel) rfl
theorem wm_198 : (Jvm.Cond.soleField "MixBooth$Channel" "effects") ∈ wt := wt_of 198 (by decide +kernel) rfl
theorem wm_199 : (Jvm.Cond.lays "MixBooth$Channel" "MixBooth$Channel" "effectCount" "I") ∈ wt := wt_of 199 (by decide +kernel) rfl
theorem wm_200 : (Jvm.Cond.soleField "MixBooth$Channel" "effectCount") ∈ wt := wt_of 200 (by decide +kernel) rfl
theorem wm_201 : (Jvm.Cond.lays "MixBooth$Channel" "MixBooth$Channel" "fader" "I") ∈ wt := wt_of 201 (by decide +kernel) rfl
theorem wm_202 : (Jvm.Cond.soleField "MixBooth$Channel" "fader") ∈ wt := wt_of 202 (by decide +kernel) rfl
theorem wm_203 : (Jvm.Cond.lays "MixBooth$Channel" "MixBooth$Channel" "side" "C") ∈ wt := wt_of 203 (by decide +kernel) rfl
theorem wm_204 : (Jvm.Cond.soleField "MixBooth$Channel" "side") ∈ wt := wt_of 204 (by decide +kernel) rfl
theorem wm_205 : (Jvm.Cond.superclass "MixBooth$Channel" "java/lang/Object") ∈ wt := wt_of 205 (by decide +kernel) rfl
theorem wm_206 : (Jvm.Cond.fieldLink "MixBooth$Deck" (12 : Nat) "MixBooth$Deck" "channel" "LMixBooth$Channel;") ∈ wt := wt_of 206 (by decide +kernel) rfl
theorem wm_207 : (Jvm.Cond.fieldLink "MixBooth$Night" (97 : Nat) "MixBooth$Deck" "channel" "LMixBooth$Channel;") ∈ wt := wt_of 207 (by decide +kernel) rfl
theorem wm_208 : (Jvm.Cond.fieldLink "MixBooth$Moves" (73 : Nat) "MixBooth$Deck" "channel" "LMixBooth$Channel;") ∈ wt := wt_of 208 (by decide +kernel) rfl
theorem wm_209 : (Jvm.Cond.fieldLink "MixBooth" (197 : Nat) "MixBooth$Deck" "channel" "LMixBooth$Channel;") ∈ wt := wt_of 209 (by decide +kernel) rfl
theorem wm_210 : (Jvm.Cond.fieldLink "MixBooth$Deck" (18 : Nat) "MixBooth$Deck" "cues" "[I") ∈ wt := wt_of 210 (by decide +kernel) rfl
theorem wm_211 : (Jvm.Cond.fieldLink "MixBooth$Deck" (29 : Nat) "MixBooth$Deck" "disc" "LMixBooth$Disc;") ∈ wt := wt_of 211 (by decide +kernel) rfl
theorem wm_212 : (Jvm.Cond.fieldLink "MixBooth$Night" (49 : Nat) "MixBooth$Deck" "disc" "LMixBooth$Disc;") ∈ wt := wt_of 212 (by decide +kernel) rfl
theorem wm_213 : (Jvm.Cond.fieldLink "MixBooth$Floor" (16 : Nat) "MixBooth$Deck" "disc" "LMixBooth$Disc;") ∈ wt := wt_of 213 (by decide +kernel) rfl
theorem wm_214 : (Jvm.Cond.fieldLink "MixBooth$Moves" (92 : Nat) "MixBooth$Deck" "disc" "LMixBooth$Disc;") ∈ wt := wt_of 214 (by decide +kernel) rfl
theorem wm_215 : (Jvm.Cond.fieldLink "MixBooth" (185 : Nat) "MixBooth$Deck" "disc" "LMixBooth$Disc;") ∈ wt := wt_of 215 (by decide +kernel) rfl
theorem wm_216 : (Jvm.Cond.fieldLink "MixBooth$Deck" (41 : Nat) "MixBooth$Deck" "place" "J") ∈ wt := wt_of 216 (by decide +kernel) rfl
theorem wm_217 : (Jvm.Cond.fieldLink "MixBooth$Night" (101 : Nat) "MixBooth$Deck" "place" "J") ∈ wt := wt_of 217 (by decide +kernel) rfl
theorem wm_218 : (Jvm.Cond.fieldLink "MixBooth" (177 : Nat) "MixBooth$Deck" "place" "J") ∈ wt := wt_of 218 (by decide +kernel) rfl
theorem wm_219 : (Jvm.Cond.fieldLink "MixBooth$Deck" (55 : Nat) "MixBooth$Deck" "pitch" "I") ∈ wt := wt_of 219 (by decide +kernel) rfl
theorem wm_220 : (Jvm.Cond.fieldLink "MixBooth$Deck" (45 : Nat) "MixBooth$Deck" "playing" "Z") ∈ wt := wt_of 220 (by decide +kernel) rfl
theorem wm_221 : (Jvm.Cond.fieldLink "MixBooth" (123 : Nat) "MixBooth$Deck" "playing" "Z") ∈ wt := wt_of 221 (by decide +kernel) rfl
theorem wm_222 : (Jvm.Cond.fieldLink "MixBooth$Night" (151 : Nat) "MixBooth$Deck" "playing" "Z") ∈ wt := wt_of 222 (by decide +kernel) rfl
theorem wm_223 : (Jvm.Cond.fieldLink "MixBooth$Deck" (49 : Nat) "MixBooth$Deck" "nudged" "I") ∈ wt := wt_of 223 (by decide +kernel) rfl
theorem wm_224 : (Jvm.Cond.fieldLink "MixBooth$Deck" (22 : Nat) "MixBooth$Deck" "braked" "I") ∈ wt := wt_of 224 (by decide +kernel) rfl
theorem wm_225 : (Jvm.Cond.fieldLink "MixBooth$Deck" (26 : Nat) "MixBooth$Deck" "loopFrom" "I") ∈ wt := wt_of 225 (by decide +kernel) rfl
theorem wm_226 : (Jvm.Cond.fieldLink "MixBooth$Deck" (58 : Nat) "MixBooth$Deck" "loopTo" "I") ∈ wt := wt_of 226 (by decide +kernel) rfl
theorem wm_227 : (Jvm.Cond.fieldLink "MixBooth$Deck" (52 : Nat) "MixBooth$Deck" "slipping" "Z") ∈ wt := wt_of 227 (by decide +kernel) rfl
theorem wm_228 : (Jvm.Cond.fieldLink "MixBooth$Moves" (111 : Nat) "MixBooth$Deck" "slipping" "Z") ∈ wt := wt_of 228 (by decide +kernel) rfl
theorem wm_229 : (Jvm.Cond.fieldLink "MixBooth$Deck" (61 : Nat) "MixBooth$Deck" "slipPlace" "J") ∈ wt := wt_of 229 (by decide +kernel) rfl
theorem wm_230 : (Jvm.Cond.laysFinal "MixBooth$Deck" "MixBooth$Deck" "channel" "LMixBooth$Channel;") ∈ wt := wt_of 230 (by decide +kernel) rfl
theorem wm_231 : (Jvm.Cond.soleField "MixBooth$Deck" "channel") ∈ wt := wt_of 231 (by decide +kernel) rfl
theorem wm_232 : (Jvm.Cond.laysFinal "MixBooth$Deck" "MixBooth$Deck" "cues" "[I") ∈ wt := wt_of 232 (by decide +kernel) rfl
theorem wm_233 : (Jvm.Cond.soleField "MixBooth$Deck" "cues") ∈ wt := wt_of 233 (by decide +kernel) rfl
theorem wm_234 : (Jvm.Cond.lays "MixBooth$Deck" "MixBooth$Deck" "disc" "LMixBooth$Disc;") ∈ wt := wt_of 234 (by decide +kernel) rfl
theorem wm_235 : (Jvm.Cond.soleField "MixBooth$Deck" "disc") ∈ wt := wt_of 235 (by decide +kernel) rfl
theorem wm_236 : (Jvm.Cond.lays "MixBooth$Deck" "MixBooth$Deck" "place" "J") ∈ wt := wt_of 236 (by decide +kernel) rfl
theorem wm_237 : (Jvm.Cond.soleField "MixBooth$Deck" "place") ∈ wt := wt_of 237 (by decide +kernel) rfl
theorem wm_238 : (Jvm.Cond.lays "MixBooth$Deck" "MixBooth$Deck" "pitch" "I") ∈ wt := wt_of 238 (by decide +kernel) rfl
theorem wm_239 : (Jvm.Cond.soleField "MixBooth$Deck" "pitch") ∈ wt := wt_of 239 (by decide +kernel) rfl
theorem wm_240 : (Jvm.Cond.lays "MixBooth$Deck" "MixBooth$Deck" "playing" "Z") ∈ wt := wt_of 240 (by decide +kernel) rfl
theorem wm_241 : (Jvm.Cond.soleField "MixBooth$Deck" "playing") ∈ wt := wt_of 241 (by decide +kernel) rfl
theorem wm_242 : (Jvm.Cond.lays "MixBooth$Deck" "MixBooth$Deck" "nudged" "I") ∈ wt := wt_of 242 (by decide +kernel) rfl
theorem wm_243 : (Jvm.Cond.soleField "MixBooth$Deck" "nudged") ∈ wt := wt_of 243 (by decide +kernel) rfl
theorem wm_244 : (Jvm.Cond.lays "MixBooth$Deck" "MixBooth$Deck" "braked" "I") ∈ wt := wt_of 244 (by decide +kernel) rfl
theorem wm_245 : (Jvm.Cond.soleField "MixBooth$Deck" "braked") ∈ wt := wt_of 245 (by decide +kernel) rfl
theorem wm_246 : (Jvm.Cond.lays "MixBooth$Deck" "MixBooth$Deck" "loopFrom" "I") ∈ wt := wt_of 246 (by decide +kernel) rfl
theorem wm_247 : (Jvm.Cond.soleField "MixBooth$Deck" "loopFrom") ∈ wt := wt_of 247 (by decide +kernel) rfl
theorem wm_248 : (Jvm.Cond.lays "MixBooth$Deck" "MixBooth$Deck" "loopTo" "I") ∈ wt := wt_of 248 (by decide +kernel) rfl
theorem wm_249 : (Jvm.Cond.soleField "MixBooth$Deck" "loopTo") ∈ wt := wt_of 249 (by decide +kernel) rfl
theorem wm_250 : (Jvm.Cond.lays "MixBooth$Deck" "MixBooth$Deck" "slipping" "Z") ∈ wt := wt_of 250 (by decide +kernel) rfl
theorem wm_251 : (Jvm.Cond.soleField "MixBooth$Deck" "slipping") ∈ wt := wt_of 251 (by decide +kernel) rfl
theorem wm_252 : (Jvm.Cond.lays "MixBooth$Deck" "MixBooth$Deck" "slipPlace" "J") ∈ wt := wt_of 252 (by decide +kernel) rfl
theorem wm_253 : (Jvm.Cond.soleField "MixBooth$Deck" "slipPlace") ∈ wt := wt_of 253 (by decide +kernel) rfl
theorem wm_254 : (Jvm.Cond.superclass "MixBooth$Deck" "java/lang/Object") ∈ wt := wt_of 254 (by decide +kernel) rfl
theorem wm_255 : (Jvm.Cond.classLink "MixBooth$Night" (27 : Nat) "MixBooth$Floor") ∈ wt := wt_of 255 (by decide +kernel) rfl
theorem wm_256 : (Jvm.Cond.instantiable "MixBooth$Floor" (2 : Nat)) ∈ wt := wt_of 256 (by decide +kernel) rfl
theorem wm_257 : (Jvm.Cond.methodLink "MixBooth$Night" (29 : Nat) ({ cls := "MixBooth$Floor", name := "<init>", desc := "()V" } : Jvm.MethodName)) ∈ wt := wt_of 257 (by decide +kernel) rfl
theorem wm_258 : (Jvm.Cond.instanceMethod ({ cls := "MixBooth$Floor", name := "<init>", desc := "()V" } : Jvm.MethodName)) ∈ wt := wt_of 258 (by decide +kernel) rfl
theorem wm_259 : (Jvm.Cond.code ({ cls := "MixBooth$Floor", name := "<init>", desc := "()V" } : Jvm.MethodName) prog_6_method_1_code (2 : Nat) (Option.none : Option Jvm.ClassFile.FieldType)) ∈ wt := wt_of 259 (by decide +kernel) rfl
theorem wm_260 : (Jvm.Cond.methodLink "MixBooth$Floor" (1 : Nat) ({ cls := "java/lang/Object", name := "<init>", desc := "()V" } : Jvm.MethodName)) ∈ wt := wt_of 260 (by decide +kernel) rfl
theorem wm_261 : (Jvm.Cond.fieldLink "MixBooth$Floor" (9 : Nat) "MixBooth$Floor" "sizes" "[I") ∈ wt := wt_of 261 (by decide +kernel) rfl
theorem wm_262 : (Jvm.Cond.fieldLink "MixBooth$Floor" (13 : Nat) "MixBooth$Floor" "wear" "[I") ∈ wt := wt_of 262 (by decide +kernel) rfl
theorem wm_263 : (Jvm.Cond.laysFinal "MixBooth$Floor" "MixBooth$Floor" "sizes" "[I") ∈ wt := wt_of 263 (by decide +kernel) rfl
theorem wm_264 : (Jvm.Cond.soleField "MixBooth$Floor" "sizes") ∈ wt := wt_of 264 (by decide +kernel) rfl
theorem wm_265 : (Jvm.Cond.laysFinal "MixBooth$Floor" "MixBooth$Floor" "wear" "[I") ∈ wt := wt_of 265 (by decide +kernel) rfl
theorem wm_266 : (Jvm.Cond.soleField "MixBooth$Floor" "wear") ∈ wt := wt_of 266 (by decide +kernel) rfl
theorem wm_267 : (Jvm.Cond.superclass "MixBooth$Floor" "java/lang/Object") ∈ wt := wt_of 267 (by decide +kernel) rfl
theorem wm_268 : (Jvm.Cond.classLink "MixBooth$Night" (34 : Nat) "MixBooth$Law") ∈ wt := wt_of 268 (by decide +kernel) rfl
theorem wm_269 : (Jvm.Cond.instantiable "MixBooth$Law" (3 : Nat)) ∈ wt := wt_of 269 (by decide +kernel) rfl
theorem wm_270 : (Jvm.Cond.methodLink "MixBooth$Night" (36 : Nat) ({ cls := "MixBooth$Law", name := "<init>", desc := "()V" } : Jvm.MethodName)) ∈ wt := wt_of 270 (by decide +kernel) rfl
theorem wm_271 : (Jvm.Cond.instanceMethod ({ cls := "MixBooth$Law", name := "<init>", desc := "()V" } : Jvm.MethodName)) ∈ wt := wt_of 271 (by decide +kernel) rfl
theorem wm_272 : (Jvm.Cond.code ({ cls := "MixBooth$Law", name := "<init>", desc := "()V" } : Jvm.MethodName) prog_7_method_1_code (2 : Nat) (Option.none : Option Jvm.ClassFile.FieldType)) ∈ wt := wt_of 272 (by decide +kernel) rfl
theorem wm_273 : (Jvm.Cond.methodLink "MixBooth$Law" (3 : Nat) ({ cls := "java/lang/Object", name := "<init>", desc := "()V" } : Jvm.MethodName)) ∈ wt := wt_of 273 (by decide +kernel) rfl
theorem wm_274 : (Jvm.Cond.fieldLink "MixBooth$Law" (9 : Nat) "MixBooth$Law" "limits" "[I") ∈ wt := wt_of 274 (by decide +kernel) rfl
theorem wm_275 : (Jvm.Cond.fieldLink "MixBooth$Law" (26 : Nat) "MixBooth$Law" "breachCount" "I") ∈ wt := wt_of 275 (by decide +kernel) rfl
theorem wm_276 : (Jvm.Cond.fieldLink "MixBooth$Night" (169 : Nat) "MixBooth$Law" "breachCount" "I") ∈ wt := wt_of 276 (by decide +kernel) rfl
theorem wm_277 : (Jvm.Cond.fieldLink "MixBooth" (309 : Nat) "MixBooth$Law" "breachCount" "I") ∈ wt := wt_of 277 (by decide +kernel) rfl
theorem wm_278 : (Jvm.Cond.fieldLink "MixBooth$Law" (15 : Nat) "MixBooth$Law" "loudnessOfSecond" "I") ∈ wt := wt_of 278 (by decide +kernel) rfl
theorem wm_279 : (Jvm.Cond.laysFinal "MixBooth$Law" "MixBooth$Law" "limits" "[I") ∈ wt := wt_of 279 (by decide +kernel) rfl
theorem wm_280 : (Jvm.Cond.soleField "MixBooth$Law" "limits") ∈ wt := wt_of 280 (by decide +kernel) rfl
theorem wm_281 : (Jvm.Cond.lays "MixBooth$Law" "MixBooth$Law" "breachCount" "I") ∈ wt := wt_of 281 (by decide +kernel) rfl
theorem wm_282 : (Jvm.Cond.soleField "MixBooth$Law" "breachCount") ∈ wt := wt_of 282 (by decide +kernel) rfl
theorem wm_283 : (Jvm.Cond.lays "MixBooth$Law" "MixBooth$Law" "loudnessOfSecond" "I") ∈ wt := wt_of 283 (by decide +kernel) rfl
theorem wm_284 : (Jvm.Cond.soleField "MixBooth$Law" "loudnessOfSecond") ∈ wt := wt_of 284 (by decide +kernel) rfl
theorem wm_285 : (Jvm.Cond.superclass "MixBooth$Law" "java/lang/Object") ∈ wt := wt_of 285 (by decide +kernel) rfl
theorem wm_286 : (Jvm.Cond.fieldLink "MixBooth$Night" (13 : Nat) "MixBooth$Night" "discs" "[LMixBooth$Disc;") ∈ wt := wt_of 286 (by decide +kernel) rfl
theorem wm_287 : (Jvm.Cond.fieldLink "MixBooth" (59 : Nat) "MixBooth$Night" "discs" "[LMixBooth$Disc;") ∈ wt := wt_of 287 (by decide +kernel) rfl
theorem wm_288 : (Jvm.Cond.fieldLink "MixBooth$Night" (22 : Nat) "MixBooth$Night" "decks" "[LMixBooth$Deck;") ∈ wt := wt_of 288 (by decide +kernel) rfl
theorem wm_289 : (Jvm.Cond.fieldLink "MixBooth" (361 : Nat) "MixBooth$Night" "decks" "[LMixBooth$Deck;") ∈ wt := wt_of 289 (by decide +kernel) rfl
theorem wm_290 : (Jvm.Cond.fieldLink "MixBooth$Night" (30 : Nat) "MixBooth$Night" "floor" "LMixBooth$Floor;") ∈ wt := wt_of 290 (by decide +kernel) rfl
theorem wm_291 : (Jvm.Cond.fieldLink "MixBooth" (284 : Nat) "MixBooth$Night" "floor" "LMixBooth$Floor;") ∈ wt := wt_of 291 (by decide +kernel) rfl
theorem wm_292 : (Jvm.Cond.fieldLink "MixBooth$Night" (37 : Nat) "MixBooth$Night" "law" "LMixBooth$Law;") ∈ wt := wt_of 292 (by decide +kernel) rfl
theorem wm_293 : (Jvm.Cond.fieldLink "MixBooth" (300 : Nat) "MixBooth$Night" "law" "LMixBooth$Law;") ∈ wt := wt_of 293 (by decide +kernel) rfl
theorem wm_294 : (Jvm.Cond.fieldLink "MixBooth$Night" (41 : Nat) "MixBooth$Night" "discCount" "I") ∈ wt := wt_of 294 (by decide +kernel) rfl
theorem wm_295 : (Jvm.Cond.fieldLink "MixBooth" (55 : Nat) "MixBooth$Night" "discCount" "I") ∈ wt := wt_of 295 (by decide +kernel) rfl
theorem wm_296 : (Jvm.Cond.fieldLink "MixBooth$Search" (42 : Nat) "MixBooth$Night" "discCount" "I") ∈ wt := wt_of 296 (by decide +kernel) rfl
theorem wm_297 : (Jvm.Cond.fieldLink "MixBooth$Night" (53 : Nat) "MixBooth$Night" "cross" "I") ∈ wt := wt_of 297 (by decide +kernel) rfl
theorem wm_298 : (Jvm.Cond.fieldLink "MixBooth" (216 : Nat) "MixBooth$Night" "cross" "I") ∈ wt := wt_of 298 (by decide +kernel) rfl
theorem wm_299 : (Jvm.Cond.fieldLink "MixBooth$Night" (56 : Nat) "MixBooth$Night" "scene" "I") ∈ wt := wt_of 299 (by decide +kernel) rfl
theorem wm_300 : (Jvm.Cond.fieldLink "MixBooth" (321 : Nat) "MixBooth$Night" "scene" "I") ∈ wt := wt_of 300 (by decide +kernel) rfl
theorem wm_301 : (Jvm.Cond.fieldLink "MixBooth$Night" (71 : Nat) "MixBooth$Night" "ticks" "I") ∈ wt := wt_of 301 (by decide +kernel) rfl
theorem wm_302 : (Jvm.Cond.fieldLink "MixBooth" (252 : Nat) "MixBooth$Night" "ticks" "I") ∈ wt := wt_of 302 (by decide +kernel) rfl
theorem wm_303 : (Jvm.Cond.fieldLink "MixBooth$Night" (65 : Nat) "MixBooth$Night" "silentTicks" "I") ∈ wt := wt_of 303 (by decide +kernel) rfl
theorem wm_304 : (Jvm.Cond.fieldLink "MixBooth" (258 : Nat) "MixBooth$Night" "silentTicks" "I") ∈ wt := wt_of 304 (by decide +kernel) rfl
theorem wm_305 : (Jvm.Cond.fieldLink "MixBooth$Night" (138 : Nat) "MixBooth$Night" "voiceClashes" "I") ∈ wt := wt_of 305 (by decide +kernel) rfl
theorem wm_306 : (Jvm.Cond.fieldLink "MixBooth" (261 : Nat) "MixBooth$Night" "voiceClashes" "I") ∈ wt := wt_of 306 (by decide +kernel) rfl
theorem wm_307 : (Jvm.Cond.fieldLink "MixBooth$Night" (141 : Nat) "MixBooth$Night" "bassClashes" "I") ∈ wt := wt_of 307 (by decide +kernel) rfl
theorem wm_308 : (Jvm.Cond.fieldLink "MixBooth" (264 : Nat) "MixBooth$Night" "bassClashes" "I") ∈ wt := wt_of 308 (by decide +kernel) rfl
theorem wm_309 : (Jvm.Cond.fieldLink "MixBooth$Night" (111 : Nat) "MixBooth$Night" "lastLoudness" "I") ∈ wt := wt_of 309 (by decide +kernel) rfl
theorem wm_310 : (Jvm.Cond.fieldLink "MixBooth" (255 : Nat) "MixBooth$Night" "lastLoudness" "I") ∈ wt := wt_of 310 (by decide +kernel) rfl
theorem wm_311 : (Jvm.Cond.fieldLink "MixBooth$Night" (114 : Nat) "MixBooth$Night" "loudnessSum" "J") ∈ wt := wt_of 311 (by decide +kernel) rfl
theorem wm_312 : (Jvm.Cond.fieldLink "MixBooth" (409 : Nat) "MixBooth$Night" "loudnessSum" "J") ∈ wt := wt_of 312 (by decide +kernel) rfl
theorem wm_313 : (Jvm.Cond.laysFinal "MixBooth$Night" "MixBooth$Night" "discs" "[LMixBooth$Disc;") ∈ wt := wt_of 313 (by decide +kernel) rfl
theorem wm_314 : (Jvm.Cond.soleField "MixBooth$Night" "discs") ∈ wt := wt_of 314 (by decide +kernel) rfl
theorem wm_315 : (Jvm.Cond.laysFinal "MixBooth$Night" "MixBooth$Night" "decks" "[LMixBooth$Deck;") ∈ wt := wt_of 315 (by decide +kernel) rfl
theorem wm_316 : (Jvm.Cond.soleField "MixBooth$Night" "decks") ∈ wt := wt_of 316 (by decide +kernel) rfl
theorem wm_317 : (Jvm.Cond.laysFinal "MixBooth$Night" "MixBooth$Night" "floor" "LMixBooth$Floor;") ∈ wt := wt_of 317 (by decide +kernel) rfl
theorem wm_318 : (Jvm.Cond.soleField "MixBooth$Night" "floor") ∈ wt := wt_of 318 (by decide +kernel) rfl
theorem wm_319 : (Jvm.Cond.laysFinal "MixBooth$Night" "MixBooth$Night" "law" "LMixBooth$Law;") ∈ wt := wt_of 319 (by decide +kernel) rfl
theorem wm_320 : (Jvm.Cond.soleField "MixBooth$Night" "law") ∈ wt := wt_of 320 (by decide +kernel) rfl
theorem wm_321 : (Jvm.Cond.lays "MixBooth$Night" "MixBooth$Night" "discCount" "I") ∈ wt := wt_of 321 (by decide +kernel) rfl
theorem wm_322 : (Jvm.Cond.soleField "MixBooth$Night" "discCount") ∈ wt := wt_of 322 (by decide +kernel) rfl
theorem wm_323 : (Jvm.Cond.lays "MixBooth$Night" "MixBooth$Night" "cross" "I") ∈ wt := wt_of 323 (by decide +kernel) rfl
theorem wm_324 : (Jvm.Cond.soleField "MixBooth$Night" "cross") ∈ wt := wt_of 324 (by decide +kernel) rfl
theorem wm_325 : (Jvm.Cond.lays "MixBooth$Night" "MixBooth$Night" "scene" "I") ∈ wt := wt_of 325 (by decide +kernel) rfl
theorem wm_326 : (Jvm.Cond.soleField "MixBooth$Night" "scene") ∈ wt := wt_of 326 (by decide +kernel) rfl
theorem wm_327 : (Jvm.Cond.lays "MixBooth$Night" "MixBooth$Night" "ticks" "I") ∈ wt := wt_of 327 (by decide +kernel) rfl
theorem wm_328 : (Jvm.Cond.soleField "MixBooth$Night" "ticks") ∈ wt := wt_of 328 (by decide +kernel) rfl
theorem wm_329 : (Jvm.Cond.lays "MixBooth$Night" "MixBooth$Night" "silentTicks" "I") ∈ wt := wt_of 329 (by decide +kernel) rfl
theorem wm_330 : (Jvm.Cond.soleField "MixBooth$Night" "silentTicks") ∈ wt := wt_of 330 (by decide +kernel) rfl
theorem wm_331 : (Jvm.Cond.lays "MixBooth$Night" "MixBooth$Night" "voiceClashes" "I") ∈ wt := wt_of 331 (by decide +kernel) rfl
theorem wm_332 : (Jvm.Cond.soleField "MixBooth$Night" "voiceClashes") ∈ wt := wt_of 332 (by decide +kernel) rfl
theorem wm_333 : (Jvm.Cond.lays "MixBooth$Night" "MixBooth$Night" "bassClashes" "I") ∈ wt := wt_of 333 (by decide +kernel) rfl
theorem wm_334 : (Jvm.Cond.soleField "MixBooth$Night" "bassClashes") ∈ wt := wt_of 334 (by decide +kernel) rfl
theorem wm_335 : (Jvm.Cond.lays "MixBooth$Night" "MixBooth$Night" "lastLoudness" "I") ∈ wt := wt_of 335 (by decide +kernel) rfl
theorem wm_336 : (Jvm.Cond.soleField "MixBooth$Night" "lastLoudness") ∈ wt := wt_of 336 (by decide +kernel) rfl
theorem wm_337 : (Jvm.Cond.lays "MixBooth$Night" "MixBooth$Night" "loudnessSum" "J") ∈ wt := wt_of 337 (by decide +kernel) rfl
theorem wm_338 : (Jvm.Cond.soleField "MixBooth$Night" "loudnessSum") ∈ wt := wt_of 338 (by decide +kernel) rfl
theorem wm_339 : (Jvm.Cond.superclass "MixBooth$Night" "java/lang/Object") ∈ wt := wt_of 339 (by decide +kernel) rfl
theorem wm_340 : (Jvm.Cond.classLink "MixBooth" (19 : Nat) "MixBooth$Log") ∈ wt := wt_of 340 (by decide +kernel) rfl
theorem wm_341 : (Jvm.Cond.instantiable "MixBooth$Log" (5 : Nat)) ∈ wt := wt_of 341 (by decide +kernel) rfl
theorem wm_342 : (Jvm.Cond.methodLink "MixBooth" (21 : Nat) ({ cls := "MixBooth$Log", name := "<init>", desc := "()V" } : Jvm.MethodName)) ∈ wt := wt_of 342 (by decide +kernel) rfl
theorem wm_343 : (Jvm.Cond.instanceMethod ({ cls := "MixBooth$Log", name := "<init>", desc := "()V" } : Jvm.MethodName)) ∈ wt := wt_of 343 (by decide +kernel) rfl
theorem wm_344 : (Jvm.Cond.code ({ cls := "MixBooth$Log", name := "<init>", desc := "()V" } : Jvm.MethodName) prog_8_method_1_code (1 : Nat) (Option.none : Option Jvm.ClassFile.FieldType)) ∈ wt := wt_of 344 (by decide +kernel) rfl
theorem wm_345 : (Jvm.Cond.methodLink "MixBooth$Log" (3 : Nat) ({ cls := "java/lang/Object", name := "<init>", desc := "()V" } : Jvm.MethodName)) ∈ wt := wt_of 345 (by decide +kernel) rfl
theorem wm_346 : (Jvm.Cond.fieldLink "MixBooth$Log" (11 : Nat) "MixBooth$Log" "numbers" "[I") ∈ wt := wt_of 346 (by decide +kernel) rfl
theorem wm_347 : (Jvm.Cond.fieldLink "MixBooth$Log" (15 : Nat) "MixBooth$Log" "letters" "[C") ∈ wt := wt_of 347 (by decide +kernel) rfl
theorem wm_348 : (Jvm.Cond.fieldLink "MixBooth" (469 : Nat) "MixBooth$Log" "letters" "[C") ∈ wt := wt_of 348 (by decide +kernel) rfl
theorem wm_349 : (Jvm.Cond.fieldLink "MixBooth$Log" (19 : Nat) "MixBooth$Log" "acts" "I") ∈ wt := wt_of 349 (by decide +kernel) rfl
theorem wm_350 : (Jvm.Cond.fieldLink "MixBooth" (396 : Nat) "MixBooth$Log" "acts" "I") ∈ wt := wt_of 350 (by decide +kernel) rfl
theorem wm_351 : (Jvm.Cond.fieldLink "MixBooth$Log" (33 : Nat) "MixBooth$Log" "letterCount" "I") ∈ wt := wt_of 351 (by decide +kernel) rfl
theorem wm_352 : (Jvm.Cond.fieldLink "MixBooth$Log" (23 : Nat) "MixBooth$Log" "filled" "I") ∈ wt := wt_of 352 (by decide +kernel) rfl
theorem wm_353 : (Jvm.Cond.laysFinal "MixBooth$Log" "MixBooth$Log" "numbers" "[I") ∈ wt := wt_of 353 (by decide +kernel) rfl
theorem wm_354 : (Jvm.Cond.soleField "MixBooth$Log" "numbers") ∈ wt := wt_of 354 (by decide +kernel) rfl
theorem wm_355 : (Jvm.Cond.laysFinal "MixBooth$Log" "MixBooth$Log" "letters" "[C") ∈ wt := wt_of 355 (by decide +kernel) rfl
theorem wm_356 : (Jvm.Cond.soleField "MixBooth$Log" "letters") ∈ wt := wt_of 356 (by decide +kernel) rfl
theorem wm_357 : (Jvm.Cond.lays "MixBooth$Log" "MixBooth$Log" "acts" "I") ∈ wt := wt_of 357 (by decide +kernel) rfl
theorem wm_358 : (Jvm.Cond.soleField "MixBooth$Log" "acts") ∈ wt := wt_of 358 (by decide +kernel) rfl
theorem wm_359 : (Jvm.Cond.lays "MixBooth$Log" "MixBooth$Log" "letterCount" "I") ∈ wt := wt_of 359 (by decide +kernel) rfl
theorem wm_360 : (Jvm.Cond.soleField "MixBooth$Log" "letterCount") ∈ wt := wt_of 360 (by decide +kernel) rfl
theorem wm_361 : (Jvm.Cond.lays "MixBooth$Log" "MixBooth$Log" "filled" "I") ∈ wt := wt_of 361 (by decide +kernel) rfl
theorem wm_362 : (Jvm.Cond.soleField "MixBooth$Log" "filled") ∈ wt := wt_of 362 (by decide +kernel) rfl
theorem wm_363 : (Jvm.Cond.superclass "MixBooth$Log" "java/lang/Object") ∈ wt := wt_of 363 (by decide +kernel) rfl
theorem wm_364 : (Jvm.Cond.arrayClass Jvm.ClassFile.FieldType.char) ∈ wt := wt_of 364 (by decide +kernel) rfl
theorem wm_365 : (Jvm.Cond.classLink "MixBooth" (26 : Nat) "MixBooth$Moves") ∈ wt := wt_of 365 (by decide +kernel) rfl
theorem wm_366 : (Jvm.Cond.instantiable "MixBooth$Moves" (6 : Nat)) ∈ wt := wt_of 366 (by decide +kernel) rfl
theorem wm_367 : (Jvm.Cond.methodLink "MixBooth" (28 : Nat) ({ cls := "MixBooth$Moves", name := "<init>", desc := "()V" } : Jvm.MethodName)) ∈ wt := wt_of 367 (by decide +kernel) rfl
theorem wm_368 : (Jvm.Cond.instanceMethod ({ cls := "MixBooth$Moves", name := "<init>", desc := "()V" } : Jvm.MethodName)) ∈ wt := wt_of 368 (by decide +kernel) rfl
theorem wm_369 : (Jvm.Cond.code ({ cls := "MixBooth$Moves", name := "<init>", desc := "()V" } : Jvm.MethodName) prog_9_method_1_code (2 : Nat) (Option.none : Option Jvm.ClassFile.FieldType)) ∈ wt := wt_of 369 (by decide +kernel) rfl
theorem wm_370 : (Jvm.Cond.methodLink "MixBooth$Moves" (3 : Nat) ({ cls := "java/lang/Object", name := "<init>", desc := "()V" } : Jvm.MethodName)) ∈ wt := wt_of 370 (by decide +kernel) rfl
theorem wm_371 : (Jvm.Cond.classLink "MixBooth$Moves" (24 : Nat) "MixBooth$Deck") ∈ wt := wt_of 371 (by decide +kernel) rfl
theorem wm_372 : (Jvm.Cond.methodLink "MixBooth$Moves" (30 : Nat) ({ cls := "MixBooth$Deck", name := "<init>", desc := "()V" } : Jvm.MethodName)) ∈ wt := wt_of 372 (by decide +kernel) rfl
theorem wm_373 : (Jvm.Cond.fieldLink "MixBooth$Moves" (9 : Nat) "MixBooth$Moves" "signs" "[C") ∈ wt := wt_of 373 (by decide +kernel) rfl
theorem wm_374 : (Jvm.Cond.fieldLink "MixBooth" (340 : Nat) "MixBooth$Moves" "signs" "[C") ∈ wt := wt_of 374 (by decide +kernel) rfl
theorem wm_375 : (Jvm.Cond.fieldLink "MixBooth$Moves" (15 : Nat) "MixBooth$Moves" "causeSigns" "[C") ∈ wt := wt_of 375 (by decide +kernel) rfl
theorem wm_376 : (Jvm.Cond.fieldLink "MixBooth$Moves" (18 : Nat) "MixBooth$Moves" "causePlaces" "[I") ∈ wt := wt_of 376 (by decide +kernel) rfl
theorem wm_377 : (Jvm.Cond.fieldLink "MixBooth$Moves" (26 : Nat) "MixBooth$Moves" "rehearsal" "[LMixBooth$Deck;") ∈ wt := wt_of 377 (by decide +kernel) rfl
theorem wm_378 : (Jvm.Cond.fieldLink "MixBooth$Moves" (31 : Nat) "MixBooth$Moves" "length" "I") ∈ wt := wt_of 378 (by decide +kernel) rfl
theorem wm_379 : (Jvm.Cond.fieldLink "MixBooth" (337 : Nat) "MixBooth$Moves" "length" "I") ∈ wt := wt_of 379 (by decide +kernel) rfl
theorem wm_380 : (Jvm.Cond.fieldLink "MixBooth$Moves" (35 : Nat) "MixBooth$Moves" "causeCount" "I") ∈ wt := wt_of 380 (by decide +kernel) rfl
theorem wm_381 : (Jvm.Cond.fieldLink "MixBooth" (430 : Nat) "MixBooth$Moves" "causeCount" "I") ∈ wt := wt_of 381 (by decide +kernel) rfl
theorem wm_382 : (Jvm.Cond.laysFinal "MixBooth$Moves" "MixBooth$Moves" "signs" "[C") ∈ wt := wt_of 382 (by decide +kernel) rfl
theorem wm_383 : (Jvm.Cond.soleField "MixBooth$Moves" "signs") ∈ wt := wt_of 383 (by decide +kernel) rfl
theorem wm_384 : (Jvm.Cond.laysFinal "MixBooth$Moves" "MixBooth$Moves" "causeSigns" "[C") ∈ wt := wt_of 384 (by decide +kernel) rfl
theorem wm_385 : (Jvm.Cond.soleField "MixBooth$Moves" "causeSigns") ∈ wt := wt_of 385 (by decide +kernel) rfl
theorem wm_386 : (Jvm.Cond.laysFinal "MixBooth$Moves" "MixBooth$Moves" "causePlaces" "[I") ∈ wt := wt_of 386 (by decide +kernel) rfl
theorem wm_387 : (Jvm.Cond.soleField "MixBooth$Moves" "causePlaces") ∈ wt := wt_of 387 (by decide +kernel) rfl
theorem wm_388 : (Jvm.Cond.laysFinal "MixBooth$Moves" "MixBooth$Moves" "rehearsal" "[LMixBooth$Deck;") ∈ wt := wt_of 388 (by decide +kernel) rfl
theorem wm_389 : (Jvm.Cond.soleField "MixBooth$Moves" "rehearsal") ∈ wt := wt_of 389 (by decide +kernel) rfl
theorem wm_390 : (Jvm.Cond.lays "MixBooth$Moves" "MixBooth$Moves" "length" "I") ∈ wt := wt_of 390 (by decide +kernel) rfl
theorem wm_391 : (Jvm.Cond.soleField "MixBooth$Moves" "length") ∈ wt := wt_of 391 (by decide +kernel) rfl
theorem wm_392 : (Jvm.Cond.lays "MixBooth$Moves" "MixBooth$Moves" "causeCount" "I") ∈ wt := wt_of 392 (by decide +kernel) rfl
theorem wm_393 : (Jvm.Cond.soleField "MixBooth$Moves" "causeCount") ∈ wt := wt_of 393 (by decide +kernel) rfl
theorem wm_394 : (Jvm.Cond.superclass "MixBooth$Moves" "java/lang/Object") ∈ wt := wt_of 394 (by decide +kernel) rfl
theorem wm_395 : (Jvm.Cond.classLink "MixBooth" (33 : Nat) "MixBooth$Search") ∈ wt := wt_of 395 (by decide +kernel) rfl
theorem wm_396 : (Jvm.Cond.instantiable "MixBooth$Search" (6 : Nat)) ∈ wt := wt_of 396 (by decide +kernel) rfl
theorem wm_397 : (Jvm.Cond.methodLink "MixBooth" (35 : Nat) ({ cls := "MixBooth$Search", name := "<init>", desc := "(LMixBooth$Night;)V" } : Jvm.MethodName)) ∈ wt := wt_of 397 (by decide +kernel) rfl
theorem wm_398 : (Jvm.Cond.instanceMethod ({ cls := "MixBooth$Search", name := "<init>", desc := "(LMixBooth$Night;)V" } : Jvm.MethodName)) ∈ wt := wt_of 398 (by decide +kernel) rfl
theorem wm_399 : (Jvm.Cond.code ({ cls := "MixBooth$Search", name := "<init>", desc := "(LMixBooth$Night;)V" } : Jvm.MethodName) prog_11_method_1_code (2 : Nat) (Option.none : Option Jvm.ClassFile.FieldType)) ∈ wt := wt_of 399 (by decide +kernel) rfl
theorem wm_400 : (Jvm.Cond.methodLink "MixBooth$Search" (3 : Nat) ({ cls := "java/lang/Object", name := "<init>", desc := "()V" } : Jvm.MethodName)) ∈ wt := wt_of 400 (by decide +kernel) rfl
theorem wm_401 : (Jvm.Cond.fieldLink "MixBooth$Search" (9 : Nat) "MixBooth$Search" "night" "LMixBooth$Night;") ∈ wt := wt_of 401 (by decide +kernel) rfl
theorem wm_402 : (Jvm.Cond.fieldLink "MixBooth$Search" (15 : Nat) "MixBooth$Search" "row" "[I") ∈ wt := wt_of 402 (by decide +kernel) rfl
theorem wm_403 : (Jvm.Cond.fieldLink "MixBooth$Search" (19 : Nat) "MixBooth$Search" "bestRow" "[I") ∈ wt := wt_of 403 (by decide +kernel) rfl
theorem wm_404 : (Jvm.Cond.fieldLink "MixBooth$Search" (22 : Nat) "MixBooth$Search" "depth" "I") ∈ wt := wt_of 404 (by decide +kernel) rfl
theorem wm_405 : (Jvm.Cond.fieldLink "MixBooth$Search" (26 : Nat) "MixBooth$Search" "isFound" "Z") ∈ wt := wt_of 405 (by decide +kernel) rfl
theorem wm_406 : (Jvm.Cond.fieldLink "MixBooth$Search" (67 : Nat) "MixBooth$Search" "leastCost" "I") ∈ wt := wt_of 406 (by decide +kernel) rfl
theorem wm_407 : (Jvm.Cond.fieldLink "MixBooth" (334 : Nat) "MixBooth$Search" "leastCost" "I") ∈ wt := wt_of 407 (by decide +kernel) rfl
theorem wm_408 : (Jvm.Cond.laysFinal "MixBooth$Search" "MixBooth$Search" "night" "LMixBooth$Night;") ∈ wt := wt_of 408 (by decide +kernel) rfl
theorem wm_409 : (Jvm.Cond.soleField "MixBooth$Search" "night") ∈ wt := wt_of 409 (by decide +kernel) rfl
theorem wm_410 : (Jvm.Cond.laysFinal "MixBooth$Search" "MixBooth$Search" "row" "[I") ∈ wt := wt_of 410 (by decide +kernel) rfl
theorem wm_411 : (Jvm.Cond.soleField "MixBooth$Search" "row") ∈ wt := wt_of 411 (by decide +kernel) rfl
theorem wm_412 : (Jvm.Cond.laysFinal "MixBooth$Search" "MixBooth$Search" "bestRow" "[I") ∈ wt := wt_of 412 (by decide +kernel) rfl
theorem wm_413 : (Jvm.Cond.soleField "MixBooth$Search" "bestRow") ∈ wt := wt_of 413 (by decide +kernel) rfl
theorem wm_414 : (Jvm.Cond.lays "MixBooth$Search" "MixBooth$Search" "depth" "I") ∈ wt := wt_of 414 (by decide +kernel) rfl
theorem wm_415 : (Jvm.Cond.soleField "MixBooth$Search" "depth") ∈ wt := wt_of 415 (by decide +kernel) rfl
theorem wm_416 : (Jvm.Cond.lays "MixBooth$Search" "MixBooth$Search" "isFound" "Z") ∈ wt := wt_of 416 (by decide +kernel) rfl
theorem wm_417 : (Jvm.Cond.soleField "MixBooth$Search" "isFound") ∈ wt := wt_of 417 (by decide +kernel) rfl
theorem wm_418 : (Jvm.Cond.lays "MixBooth$Search" "MixBooth$Search" "leastCost" "I") ∈ wt := wt_of 418 (by decide +kernel) rfl
theorem wm_419 : (Jvm.Cond.soleField "MixBooth$Search" "leastCost") ∈ wt := wt_of 419 (by decide +kernel) rfl
theorem wm_420 : (Jvm.Cond.superclass "MixBooth$Search" "java/lang/Object") ∈ wt := wt_of 420 (by decide +kernel) rfl
theorem wm_421 : (Jvm.Cond.fieldLink "MixBooth" (10 : Nat) "MixBooth" "night" "LMixBooth$Night;") ∈ wt := wt_of 421 (by decide +kernel) rfl
theorem wm_422 : (Jvm.Cond.fieldLink "MixBooth" (16 : Nat) "MixBooth" "nightAgain" "LMixBooth$Night;") ∈ wt := wt_of 422 (by decide +kernel) rfl
theorem wm_423 : (Jvm.Cond.fieldLink "MixBooth" (22 : Nat) "MixBooth" "log" "LMixBooth$Log;") ∈ wt := wt_of 423 (by decide +kernel) rfl
theorem wm_424 : (Jvm.Cond.fieldLink "MixBooth" (29 : Nat) "MixBooth" "moves" "LMixBooth$Moves;") ∈ wt := wt_of 424 (by decide +kernel) rfl
theorem wm_425 : (Jvm.Cond.fieldLink "MixBooth" (38 : Nat) "MixBooth" "search" "LMixBooth$Search;") ∈ wt := wt_of 425 (by decide +kernel) rfl
theorem wm_426 : (Jvm.Cond.fieldLink "MixBooth" (457 : Nat) "MixBooth" "redone" "I") ∈ wt := wt_of 426 (by decide +kernel) rfl
theorem wm_427 : (Jvm.Cond.laysFinal "MixBooth" "MixBooth" "night" "LMixBooth$Night;") ∈ wt := wt_of 427 (by decide +kernel) rfl
theorem wm_428 : (Jvm.Cond.soleField "MixBooth" "night") ∈ wt := wt_of 428 (by decide +kernel) rfl
theorem wm_429 : (Jvm.Cond.laysFinal "MixBooth" "MixBooth" "nightAgain" "LMixBooth$Night;") ∈ wt := wt_of 429 (by decide +kernel) rfl
theorem wm_430 : (Jvm.Cond.soleField "MixBooth" "nightAgain") ∈ wt := wt_of 430 (by decide +kernel) rfl
theorem wm_431 : (Jvm.Cond.laysFinal "MixBooth" "MixBooth" "log" "LMixBooth$Log;") ∈ wt := wt_of 431 (by decide +kernel) rfl
theorem wm_432 : (Jvm.Cond.soleField "MixBooth" "log") ∈ wt := wt_of 432 (by decide +kernel) rfl
theorem wm_433 : (Jvm.Cond.laysFinal "MixBooth" "MixBooth" "moves" "LMixBooth$Moves;") ∈ wt := wt_of 433 (by decide +kernel) rfl
theorem wm_434 : (Jvm.Cond.soleField "MixBooth" "moves") ∈ wt := wt_of 434 (by decide +kernel) rfl
theorem wm_435 : (Jvm.Cond.laysFinal "MixBooth" "MixBooth" "search" "LMixBooth$Search;") ∈ wt := wt_of 435 (by decide +kernel) rfl
theorem wm_436 : (Jvm.Cond.soleField "MixBooth" "search") ∈ wt := wt_of 436 (by decide +kernel) rfl
theorem wm_437 : (Jvm.Cond.lays "MixBooth" "MixBooth" "redone" "I") ∈ wt := wt_of 437 (by decide +kernel) rfl
theorem wm_438 : (Jvm.Cond.soleField "MixBooth" "redone") ∈ wt := wt_of 438 (by decide +kernel) rfl
theorem wm_439 : (Jvm.Cond.superclass "MixBooth" "java/lang/Object") ∈ wt := wt_of 439 (by decide +kernel) rfl
theorem wm_440 : (Jvm.Cond.methodLink "MixBoothLaw" (286 : Nat) ({ cls := "MixBooth", name := "ticks", desc := "()I" } : Jvm.MethodName)) ∈ wt := wt_of 440 (by decide +kernel) rfl
theorem wm_441 : (Jvm.Cond.instanceMethod ({ cls := "MixBooth", name := "ticks", desc := "()I" } : Jvm.MethodName)) ∈ wt := wt_of 441 (by decide +kernel) rfl
theorem wm_442 : (Jvm.Cond.selects "MixBooth" ({ cls := "MixBooth", name := "ticks", desc := "()I" } : Jvm.MethodName) ({ cls := "MixBooth", name := "ticks", desc := "()I" } : Jvm.MethodName)) ∈ wt := wt_of 442 (by decide +kernel) rfl
theorem wm_443 : (Jvm.Cond.code ({ cls := "MixBooth", name := "ticks", desc := "()I" } : Jvm.MethodName) prog_1_method_31_code (1 : Nat) (Option.some Jvm.ClassFile.FieldType.int)) ∈ wt := wt_of 443 (by decide +kernel) rfl
theorem wm_444 : (Jvm.Cond.methodLink "MixBoothLaw" (290 : Nat) ({ cls := "MixBooth", name := "heard", desc := "()I" } : Jvm.MethodName)) ∈ wt := wt_of 444 (by decide +kernel) rfl
theorem wm_445 : (Jvm.Cond.instanceMethod ({ cls := "MixBooth", name := "heard", desc := "()I" } : Jvm.MethodName)) ∈ wt := wt_of 445 (by decide +kernel) rfl
theorem wm_446 : (Jvm.Cond.selects "MixBooth" ({ cls := "MixBooth", name := "heard", desc := "()I" } : Jvm.MethodName) ({ cls := "MixBooth", name := "heard", desc := "()I" } : Jvm.MethodName)) ∈ wt := wt_of 446 (by decide +kernel) rfl
theorem wm_447 : (Jvm.Cond.code ({ cls := "MixBooth", name := "heard", desc := "()I" } : Jvm.MethodName) prog_1_method_32_code (1 : Nat) (Option.some Jvm.ClassFile.FieldType.int)) ∈ wt := wt_of 447 (by decide +kernel) rfl
theorem wm_448 : (Jvm.Cond.methodLink "MixBoothLaw" (294 : Nat) ({ cls := "MixBooth", name := "silence", desc := "()I" } : Jvm.MethodName)) ∈ wt := wt_of 448 (by decide +kernel) rfl
theorem wm_449 : (Jvm.Cond.instanceMethod ({ cls := "MixBooth", name := "silence", desc := "()I" } : Jvm.MethodName)) ∈ wt := wt_of 449 (by decide +kernel) rfl
theorem wm_450 : (Jvm.Cond.selects "MixBooth" ({ cls := "MixBooth", name := "silence", desc := "()I" } : Jvm.MethodName) ({ cls := "MixBooth", name := "silence", desc := "()I" } : Jvm.MethodName)) ∈ wt := wt_of 450 (by decide +kernel) rfl
theorem wm_451 : (Jvm.Cond.code ({ cls := "MixBooth", name := "silence", desc := "()I" } : Jvm.MethodName) prog_1_method_33_code (1 : Nat) (Option.some Jvm.ClassFile.FieldType.int)) ∈ wt := wt_of 451 (by decide +kernel) rfl
theorem wm_452 : (Jvm.Cond.methodLink "MixBoothLaw" (323 : Nat) ({ cls := "MixBooth", name := "breaches", desc := "()I" } : Jvm.MethodName)) ∈ wt := wt_of 452 (by decide +kernel) rfl
theorem wm_453 : (Jvm.Cond.instanceMethod ({ cls := "MixBooth", name := "breaches", desc := "()I" } : Jvm.MethodName)) ∈ wt := wt_of 453 (by decide +kernel) rfl
theorem wm_454 : (Jvm.Cond.selects "MixBooth" ({ cls := "MixBooth", name := "breaches", desc := "()I" } : Jvm.MethodName) ({ cls := "MixBooth", name := "breaches", desc := "()I" } : Jvm.MethodName)) ∈ wt := wt_of 454 (by decide +kernel) rfl
theorem wm_455 : (Jvm.Cond.code ({ cls := "MixBooth", name := "breaches", desc := "()I" } : Jvm.MethodName) prog_1_method_42_code (1 : Nat) (Option.some Jvm.ClassFile.FieldType.int)) ∈ wt := wt_of 455 (by decide +kernel) rfl
theorem wm_456 : (Jvm.Cond.methodLink "MixBoothLaw" (343 : Nat) ({ cls := "MixBooth", name := "wipe", desc := "()I" } : Jvm.MethodName)) ∈ wt := wt_of 456 (by decide +kernel) rfl
theorem wm_457 : (Jvm.Cond.instanceMethod ({ cls := "MixBooth", name := "wipe", desc := "()I" } : Jvm.MethodName)) ∈ wt := wt_of 457 (by decide +kernel) rfl
theorem wm_458 : (Jvm.Cond.selects "MixBooth" ({ cls := "MixBooth", name := "wipe", desc := "()I" } : Jvm.MethodName) ({ cls := "MixBooth", name := "wipe", desc := "()I" } : Jvm.MethodName)) ∈ wt := wt_of 458 (by decide +kernel) rfl
theorem wm_459 : (Jvm.Cond.code ({ cls := "MixBooth", name := "wipe", desc := "()I" } : Jvm.MethodName) prog_1_method_48_code (1 : Nat) (Option.some Jvm.ClassFile.FieldType.int)) ∈ wt := wt_of 459 (by decide +kernel) rfl
theorem wm_460 : (Jvm.Cond.methodLink "MixBooth" (350 : Nat) ({ cls := "MixBooth$Moves", name := "empty", desc := "()I" } : Jvm.MethodName)) ∈ wt := wt_of 460 (by decide +kernel) rfl
theorem wm_461 : (Jvm.Cond.instanceMethod ({ cls := "MixBooth$Moves", name := "empty", desc := "()I" } : Jvm.MethodName)) ∈ wt := wt_of 461 (by decide +kernel) rfl
theorem wm_462 : (Jvm.Cond.selects "MixBooth$Moves" ({ cls := "MixBooth$Moves", name := "empty", desc := "()I" } : Jvm.MethodName) ({ cls := "MixBooth$Moves", name := "empty", desc := "()I" } : Jvm.MethodName)) ∈ wt := wt_of 462 (by decide +kernel) rfl
theorem wm_463 : (Jvm.Cond.code ({ cls := "MixBooth$Moves", name := "empty", desc := "()I" } : Jvm.MethodName) prog_9_method_3_code (2 : Nat) (Option.some Jvm.ClassFile.FieldType.int)) ∈ wt := wt_of 463 (by decide +kernel) rfl
theorem wm_464 : (Jvm.Cond.methodLink "MixBoothLaw" (362 : Nat) ({ cls := "MixBooth", name := "logged", desc := "()I" } : Jvm.MethodName)) ∈ wt := wt_of 464 (by decide +kernel) rfl
theorem wm_465 : (Jvm.Cond.instanceMethod ({ cls := "MixBooth", name := "logged", desc := "()I" } : Jvm.MethodName)) ∈ wt := wt_of 465 (by decide +kernel) rfl
theorem wm_466 : (Jvm.Cond.selects "MixBooth" ({ cls := "MixBooth", name := "logged", desc := "()I" } : Jvm.MethodName) ({ cls := "MixBooth", name := "logged", desc := "()I" } : Jvm.MethodName)) ∈ wt := wt_of 466 (by decide +kernel) rfl
theorem wm_467 : (Jvm.Cond.code ({ cls := "MixBooth", name := "logged", desc := "()I" } : Jvm.MethodName) prog_1_method_54_code (1 : Nat) (Option.some Jvm.ClassFile.FieldType.int)) ∈ wt := wt_of 467 (by decide +kernel) rfl
theorem wm_468 : (Jvm.Cond.methodLink "MixBoothLaw" (366 : Nat) ({ cls := "MixBooth", name := "print", desc := "()J" } : Jvm.MethodName)) ∈ wt := wt_of 468 (by decide +kernel) rfl
theorem wm_469 : (Jvm.Cond.instanceMethod ({ cls := "MixBooth", name := "print", desc := "()J" } : Jvm.MethodName)) ∈ wt := wt_of 469 (by decide +kernel) rfl
theorem wm_470 : (Jvm.Cond.selects "MixBooth" ({ cls := "MixBooth", name := "print", desc := "()J" } : Jvm.MethodName) ({ cls := "MixBooth", name := "print", desc := "()J" } : Jvm.MethodName)) ∈ wt := wt_of 470 (by decide +kernel) rfl
theorem wm_471 : (Jvm.Cond.code ({ cls := "MixBooth", name := "print", desc := "()J" } : Jvm.MethodName) prog_1_method_55_code (1 : Nat) (Option.some Jvm.ClassFile.FieldType.long)) ∈ wt := wt_of 471 (by decide +kernel) rfl
theorem wm_472 : (Jvm.Cond.methodLink "MixBooth" (399 : Nat) ({ cls := "MixBooth$Night", name := "fingerprint", desc := "()J" } : Jvm.MethodName)) ∈ wt := wt_of 472 (by decide +kernel) rfl
theorem wm_473 : (Jvm.Cond.instanceMethod ({ cls := "MixBooth$Night", name := "fingerprint", desc := "()J" } : Jvm.MethodName)) ∈ wt := wt_of 473 (by decide +kernel) rfl
theorem wm_474 : (Jvm.Cond.selects "MixBooth$Night" ({ cls := "MixBooth$Night", name := "fingerprint", desc := "()J" } : Jvm.MethodName) ({ cls := "MixBooth$Night", name := "fingerprint", desc := "()J" } : Jvm.MethodName)) ∈ wt := wt_of 474 (by decide +kernel) rfl
theorem wm_475 : (Jvm.Cond.code ({ cls := "MixBooth$Night", name := "fingerprint", desc := "()J" } : Jvm.MethodName) prog_10_method_14_code (4 : Nat) (Option.some Jvm.ClassFile.FieldType.long)) ∈ wt := wt_of 475 (by decide +kernel) rfl
theorem wm_476 : (Jvm.Cond.constantLong "MixBooth$Night" (161 : Nat) (7 : Int64)) ∈ wt := wt_of 476 (by decide +kernel) rfl
theorem wm_477 : (Jvm.Cond.constantLong "MixBooth$Night" (163 : Nat) (31 : Int64)) ∈ wt := wt_of 477 (by decide +kernel) rfl
theorem wm_478 : (Jvm.Cond.methodLink "MixBooth$Night" (165 : Nat) ({ cls := "MixBooth$Floor", name := "everybody", desc := "()I" } : Jvm.MethodName)) ∈ wt := wt_of 478 (by decide +kernel) rfl
theorem wm_479 : (Jvm.Cond.instanceMethod ({ cls := "MixBooth$Floor", name := "everybody", desc := "()I" } : Jvm.MethodName)) ∈ wt := wt_of 479 (by decide +kernel) rfl
theorem wm_480 : (Jvm.Cond.selects "MixBooth$Floor" ({ cls := "MixBooth$Floor", name := "everybody", desc := "()I" } : Jvm.MethodName) ({ cls := "MixBooth$Floor", name := "everybody", desc := "()I" } : Jvm.MethodName)) ∈ wt := wt_of 480 (by decide +kernel) rfl
theorem wm_481 : (Jvm.Cond.code ({ cls := "MixBooth$Floor", name := "everybody", desc := "()I" } : Jvm.MethodName) prog_6_method_4_code (3 : Nat) (Option.some Jvm.ClassFile.FieldType.int)) ∈ wt := wt_of 481 (by decide +kernel) rfl
theorem wm_482 : (Jvm.Cond.methodLink "MixBoothLaw" (371 : Nat) ({ cls := "MixBooth", name := "printAgain", desc := "()J" } : Jvm.MethodName)) ∈ wt := wt_of 482 (by decide +kernel) rfl
theorem wm_483 : (Jvm.Cond.instanceMethod ({ cls := "MixBooth", name := "printAgain", desc := "()J" } : Jvm.MethodName)) ∈ wt := wt_of 483 (by decide +kernel) rfl
theorem wm_484 : (Jvm.Cond.selects "MixBooth" ({ cls := "MixBooth", name := "printAgain", desc := "()J" } : Jvm.MethodName) ({ cls := "MixBooth", name := "printAgain", desc := "()J" } : Jvm.MethodName)) ∈ wt := wt_of 484 (by decide +kernel) rfl
theorem wm_485 : (Jvm.Cond.code ({ cls := "MixBooth", name := "printAgain", desc := "()J" } : Jvm.MethodName) prog_1_method_56_code (1 : Nat) (Option.some Jvm.ClassFile.FieldType.long)) ∈ wt := wt_of 485 (by decide +kernel) rfl
theorem wm_486 : (Jvm.Cond.methodLink "MixBooth" (403 : Nat) ({ cls := "MixBooth", name := "redoLog", desc := "()V" } : Jvm.MethodName)) ∈ wt := wt_of 486 (by decide +kernel) rfl
theorem wm_487 : (Jvm.Cond.privateMethod ({ cls := "MixBooth", name := "redoLog", desc := "()V" } : Jvm.MethodName)) ∈ wt := wt_of 487 (by decide +kernel) rfl
theorem wm_488 : (Jvm.Cond.instanceMethod ({ cls := "MixBooth", name := "redoLog", desc := "()V" } : Jvm.MethodName)) ∈ wt := wt_of 488 (by decide +kernel) rfl
theorem wm_489 : (Jvm.Cond.code ({ cls := "MixBooth", name := "redoLog", desc := "()V" } : Jvm.MethodName) prog_1_method_71_code (3 : Nat) (Option.none : Option Jvm.ClassFile.FieldType)) ∈ wt := wt_of 489 (by decide +kernel) rfl
theorem wm_490 : (Jvm.Cond.methodLink "MixBooth" (460 : Nat) ({ cls := "MixBooth$Log", name := "numberAt", desc := "(II)I" } : Jvm.MethodName)) ∈ wt := wt_of 490 (by decide +kernel) rfl
theorem wm_491 : (Jvm.Cond.instanceMethod ({ cls := "MixBooth$Log", name := "numberAt", desc := "(II)I" } : Jvm.MethodName)) ∈ wt := wt_of 491 (by decide +kernel) rfl
theorem wm_492 : (Jvm.Cond.selects "MixBooth$Log" ({ cls := "MixBooth$Log", name := "numberAt", desc := "(II)I" } : Jvm.MethodName) ({ cls := "MixBooth$Log", name := "numberAt", desc := "(II)I" } : Jvm.MethodName)) ∈ wt := wt_of 492 (by decide +kernel) rfl
theorem wm_493 : (Jvm.Cond.code ({ cls := "MixBooth$Log", name := "numberAt", desc := "(II)I" } : Jvm.MethodName) prog_8_method_6_code (4 : Nat) (Option.some Jvm.ClassFile.FieldType.int)) ∈ wt := wt_of 493 (by decide +kernel) rfl
theorem wm_494 : (Jvm.Cond.methodLink "MixBooth" (463 : Nat) ({ cls := "MixBooth", name := "redoAdd", desc := "(I)V" } : Jvm.MethodName)) ∈ wt := wt_of 494 (by decide +kernel) rfl
theorem wm_495 : (Jvm.Cond.privateMethod ({ cls := "MixBooth", name := "redoAdd", desc := "(I)V" } : Jvm.MethodName)) ∈ wt := wt_of 495 (by decide +kernel) rfl
theorem wm_496 : (Jvm.Cond.instanceMethod ({ cls := "MixBooth", name := "redoAdd", desc := "(I)V" } : Jvm.MethodName)) ∈ wt := wt_of 496 (by decide +kernel) rfl
theorem wm_497 : (Jvm.Cond.code ({ cls := "MixBooth", name := "redoAdd", desc := "(I)V" } : Jvm.MethodName) prog_1_method_72_code (2 : Nat) (Option.none : Option Jvm.ClassFile.FieldType)) ∈ wt := wt_of 497 (by decide +kernel) rfl
theorem wm_498 : (Jvm.Cond.methodLink "MixBooth" (77 : Nat) ({ cls := "MixBooth$Night", name := "addDisc", desc := "(IIIIIII)I" } : Jvm.MethodName)) ∈ wt := wt_of 498 (by decide +kernel) rfl
theorem wm_499 : (Jvm.Cond.instanceMethod ({ cls := "MixBooth$Night", name := "addDisc", desc := "(IIIIIII)I" } : Jvm.MethodName)) ∈ wt := wt_of 499 (by decide +kernel) rfl
theorem wm_500 : (Jvm.Cond.selects "MixBooth$Night" ({ cls := "MixBooth$Night", name := "addDisc", desc := "(IIIIIII)I" } : Jvm.MethodName) ({ cls := "MixBooth$Night", name := "addDisc", desc := "(IIIIIII)I" } : Jvm.MethodName)) ∈ wt := wt_of 500 (by decide +kernel) rfl
theorem wm_501 : (Jvm.Cond.code ({ cls := "MixBooth$Night", name := "addDisc", desc := "(IIIIIII)I" } : Jvm.MethodName) prog_10_method_2_code (8 : Nat) (Option.some Jvm.ClassFile.FieldType.int)) ∈ wt := wt_of 501 (by decide +kernel) rfl
theorem wm_502 : (Jvm.Cond.methodLink "MixBooth$Night" (45 : Nat) ({ cls := "MixBooth$Disc", name := "fill", desc := "(IIIIIII)V" } : Jvm.MethodName)) ∈ wt := wt_of 502 (by decide +kernel) rfl
theorem wm_503 : (Jvm.Cond.instanceMethod ({ cls := "MixBooth$Disc", name := "fill", desc := "(IIIIIII)V" } : Jvm.MethodName)) ∈ wt := wt_of 503 (by decide +kernel) rfl
theorem wm_504 : (Jvm.Cond.selects "MixBooth$Disc" ({ cls := "MixBooth$Disc", name := "fill", desc := "(IIIIIII)V" } : Jvm.MethodName) ({ cls := "MixBooth$Disc", name := "fill", desc := "(IIIIIII)V" } : Jvm.MethodName)) ∈ wt := wt_of 504 (by decide +kernel) rfl
theorem wm_505 : (Jvm.Cond.code ({ cls := "MixBooth$Disc", name := "fill", desc := "(IIIIIII)V" } : Jvm.MethodName) prog_4_method_2_code (8 : Nat) (Option.none : Option Jvm.ClassFile.FieldType)) ∈ wt := wt_of 505 (by decide +kernel) rfl
theorem wm_506 : (Jvm.Cond.methodLink "MixBooth" (466 : Nat) ({ cls := "MixBooth", name := "redoOnDisc", desc := "(I)V" } : Jvm.MethodName)) ∈ wt := wt_of 506 (by decide +kernel) rfl
theorem wm_507 : (Jvm.Cond.privateMethod ({ cls := "MixBooth", name := "redoOnDisc", desc := "(I)V" } : Jvm.MethodName)) ∈ wt := wt_of 507 (by decide +kernel) rfl
theorem wm_508 : (Jvm.Cond.instanceMethod ({ cls := "MixBooth", name := "redoOnDisc", desc := "(I)V" } : Jvm.MethodName)) ∈ wt := wt_of 508 (by decide +kernel) rfl
theorem wm_509 : (Jvm.Cond.code ({ cls := "MixBooth", name := "redoOnDisc", desc := "(I)V" } : Jvm.MethodName) prog_1_method_73_code (4 : Nat) (Option.none : Option Jvm.ClassFile.FieldType)) ∈ wt := wt_of 509 (by decide +kernel) rfl
theorem wm_510 : (Jvm.Cond.methodLink "MixBooth" (443 : Nat) ({ cls := "MixBooth$Night", name := "discAt", desc := "(I)LMixBooth$Disc;" } : Jvm.MethodName)) ∈ wt := wt_of 510 (by decide +kernel) rfl
theorem wm_511 : (Jvm.Cond.instanceMethod ({ cls := "MixBooth$Night", name := "discAt", desc := "(I)LMixBooth$Disc;" } : Jvm.MethodName)) ∈ wt := wt_of 511 (by decide +kernel) rfl
theorem wm_512 : (Jvm.Cond.selects "MixBooth$Night" ({ cls := "MixBooth$Night", name := "discAt", desc := "(I)LMixBooth$Disc;" } : Jvm.MethodName) ({ cls := "MixBooth$Night", name := "discAt", desc := "(I)LMixBooth$Disc;" } : Jvm.MethodName)) ∈ wt := wt_of 512 (by decide +kernel) rfl
theorem wm_513 : (Jvm.Cond.code ({ cls := "MixBooth$Night", name := "discAt", desc := "(I)LMixBooth$Disc;" } : Jvm.MethodName) prog_10_method_3_code (2 : Nat) (Option.some (Jvm.ClassFile.FieldType.object "MixBooth$Disc"))) ∈ wt := wt_of 513 (by decide +kernel) rfl
theorem wm_514 : (Jvm.Cond.methodLink "MixBooth" (98 : Nat) ({ cls := "MixBooth$Disc", name := "retune", desc := "(I)I" } : Jvm.MethodName)) ∈ wt := wt_of 514 (by decide +kernel) rfl
theorem wm_515 : (Jvm.Cond.instanceMethod ({ cls := "MixBooth$Disc", name := "retune", desc := "(I)I" } : Jvm.MethodName)) ∈ wt := wt_of 515 (by decide +kernel) rfl
theorem wm_516 : (Jvm.Cond.selects "MixBooth$Disc" ({ cls := "MixBooth$Disc", name := "retune", desc := "(I)I" } : Jvm.MethodName) ({ cls := "MixBooth$Disc", name := "retune", desc := "(I)I" } : Jvm.MethodName)) ∈ wt := wt_of 516 (by decide +kernel) rfl
theorem wm_517 : (Jvm.Cond.code ({ cls := "MixBooth$Disc", name := "retune", desc := "(I)I" } : Jvm.MethodName) prog_4_method_4_code (3 : Nat) (Option.some Jvm.ClassFile.FieldType.int)) ∈ wt := wt_of 517 (by decide +kernel) rfl
theorem wm_518 : (Jvm.Cond.methodLink "MixBooth" (111 : Nat) ({ cls := "MixBooth$Disc", name := "forbid", desc := "(Z)Z" } : Jvm.MethodName)) ∈ wt := wt_of 518 (by decide +kernel) rfl
theorem wm_519 : (Jvm.Cond.instanceMethod ({ cls := "MixBooth$Disc", name := "forbid", desc := "(Z)Z" } : Jvm.MethodName)) ∈ wt := wt_of 519 (by decide +kernel) rfl
theorem wm_520 : (Jvm.Cond.selects "MixBooth$Disc" ({ cls := "MixBooth$Disc", name := "forbid", desc := "(Z)Z" } : Jvm.MethodName) ({ cls := "MixBooth$Disc", name := "forbid", desc := "(Z)Z" } : Jvm.MethodName)) ∈ wt := wt_of 520 (by decide +kernel) rfl
theorem wm_521 : (Jvm.Cond.code ({ cls := "MixBooth$Disc", name := "forbid", desc := "(Z)Z" } : Jvm.MethodName) prog_4_method_5_code (3 : Nat) (Option.some Jvm.ClassFile.FieldType.boolean)) ∈ wt := wt_of 521 (by decide +kernel) rfl
theorem wm_522 : (Jvm.Cond.methodLink "MixBooth" (115 : Nat) ({ cls := "MixBooth$Disc", name := "wish", desc := "()Z" } : Jvm.MethodName)) ∈ wt := wt_of 522 (by decide +kernel) rfl
theorem wm_523 : (Jvm.Cond.instanceMethod ({ cls := "MixBooth$Disc", name := "wish", desc := "()Z" } : Jvm.MethodName)) ∈ wt := wt_of 523 (by decide +kernel) rfl
theorem wm_524 : (Jvm.Cond.selects "MixBooth$Disc" ({ cls := "MixBooth$Disc", name := "wish", desc := "()Z" } : Jvm.MethodName) ({ cls := "MixBooth$Disc", name := "wish", desc := "()Z" } : Jvm.MethodName)) ∈ wt := wt_of 524 (by decide +kernel) rfl
theorem wm_525 : (Jvm.Cond.code ({ cls := "MixBooth$Disc", name := "wish", desc := "()Z" } : Jvm.MethodName) prog_4_method_6_code (2 : Nat) (Option.some Jvm.ClassFile.FieldType.boolean)) ∈ wt := wt_of 525 (by decide +kernel) rfl
theorem wm_526 : (Jvm.Cond.methodLink "MixBooth" (213 : Nat) ({ cls := "MixBooth$Night", name := "slideCross", desc := "(I)I" } : Jvm.MethodName)) ∈ wt := wt_of 526 (by decide +kernel) rfl
theorem wm_527 : (Jvm.Cond.instanceMethod ({ cls := "MixBooth$Night", name := "slideCross", desc := "(I)I" } : Jvm.MethodName)) ∈ wt := wt_of 527 (by decide +kernel) rfl
theorem wm_528 : (Jvm.Cond.selects "MixBooth$Night" ({ cls := "MixBooth$Night", name := "slideCross", desc := "(I)I" } : Jvm.MethodName) ({ cls := "MixBooth$Night", name := "slideCross", desc := "(I)I" } : Jvm.MethodName)) ∈ wt := wt_of 528 (by decide +kernel) rfl
theorem wm_529 : (Jvm.Cond.code ({ cls := "MixBooth$Night", name := "slideCross", desc := "(I)I" } : Jvm.MethodName) prog_10_method_6_code (3 : Nat) (Option.some Jvm.ClassFile.FieldType.int)) ∈ wt := wt_of 529 (by decide +kernel) rfl
theorem wm_530 : (Jvm.Cond.methodLink "MixBooth" (249 : Nat) ({ cls := "MixBooth$Night", name := "run", desc := "(I)I" } : Jvm.MethodName)) ∈ wt := wt_of 530 (by decide +kernel) rfl
theorem wm_531 : (Jvm.Cond.instanceMethod ({ cls := "MixBooth$Night", name := "run", desc := "(I)I" } : Jvm.MethodName)) ∈ wt := wt_of 531 (by decide +kernel) rfl
theorem wm_532 : (Jvm.Cond.selects "MixBooth$Night" ({ cls := "MixBooth$Night", name := "run", desc := "(I)I" } : Jvm.MethodName) ({ cls := "MixBooth$Night", name := "run", desc := "(I)I" } : Jvm.MethodName)) ∈ wt := wt_of 532 (by decide +kernel) rfl
theorem wm_533 : (Jvm.Cond.code ({ cls := "MixBooth$Night", name := "run", desc := "(I)I" } : Jvm.MethodName) prog_10_method_8_code (4 : Nat) (Option.some Jvm.ClassFile.FieldType.int)) ∈ wt := wt_of 533 (by decide +kernel) rfl
theorem wm_534 : (Jvm.Cond.methodLink "MixBooth$Night" (68 : Nat) ({ cls := "MixBooth$Night", name := "advanceDecks", desc := "()V" } : Jvm.MethodName)) ∈ wt := wt_of 534 (by decide +kernel) rfl
theorem wm_535 : (Jvm.Cond.privateMethod ({ cls := "MixBooth$Night", name := "advanceDecks", desc := "()V" } : Jvm.MethodName)) ∈ wt := wt_of 535 (by decide +kernel) rfl
theorem wm_536 : (Jvm.Cond.instanceMethod ({ cls := "MixBooth$Night", name := "advanceDecks", desc := "()V" } : Jvm.MethodName)) ∈ wt := wt_of 536 (by decide +kernel) rfl
theorem wm_537 : (Jvm.Cond.code ({ cls := "MixBooth$Night", name := "advanceDecks", desc := "()V" } : Jvm.MethodName) prog_10_method_9_code (2 : Nat) (Option.none : Option Jvm.ClassFile.FieldType)) ∈ wt := wt_of 537 (by decide +kernel) rfl
theorem wm_538 : (Jvm.Cond.methodLink "MixBooth$Night" (87 : Nat) ({ cls := "MixBooth$Deck", name := "advance", desc := "()V" } : Jvm.MethodName)) ∈ wt := wt_of 538 (by decide +kernel) rfl
theorem wm_539 : (Jvm.Cond.instanceMethod ({ cls := "MixBooth$Deck", name := "advance", desc := "()V" } : Jvm.MethodName)) ∈ wt := wt_of 539 (by decide +kernel) rfl
theorem wm_540 : (Jvm.Cond.selects "MixBooth$Deck" ({ cls := "MixBooth$Deck", name := "advance", desc := "()V" } : Jvm.MethodName) ({ cls := "MixBooth$Deck", name := "advance", desc := "()V" } : Jvm.MethodName)) ∈ wt := wt_of 540 (by decide +kernel) rfl
theorem wm_541 : (Jvm.Cond.code ({ cls := "MixBooth$Deck", name := "advance", desc := "()V" } : Jvm.MethodName) prog_3_method_21_code (4 : Nat) (Option.none : Option Jvm.ClassFile.FieldType)) ∈ wt := wt_of 541 (by decide +kernel) rfl
theorem wm_542 : (Jvm.Cond.methodLink "MixBooth$Deck" (92 : Nat) ({ cls := "MixBooth$Deck", name := "nextStep", desc := "()I" } : Jvm.MethodName)) ∈ wt := wt_of 542 (by decide +kernel) rfl
theorem wm_543 : (Jvm.Cond.privateMethod ({ cls := "MixBooth$Deck", name := "nextStep", desc := "()I" } : Jvm.MethodName)) ∈ wt := wt_of 543 (by decide +kernel) rfl
theorem wm_544 : (Jvm.Cond.instanceMethod ({ cls := "MixBooth$Deck", name := "nextStep", desc := "()I" } : Jvm.MethodName)) ∈ wt := wt_of 544 (by decide +kernel) rfl
theorem wm_545 : (Jvm.Cond.code ({ cls := "MixBooth$Deck", name := "nextStep", desc := "()I" } : Jvm.MethodName) prog_3_method_22_code (3 : Nat) (Option.some Jvm.ClassFile.FieldType.int)) ∈ wt := wt_of 545 (by decide +kernel) rfl
theorem wm_546 : (Jvm.Cond.methodLink "MixBooth$Deck" (105 : Nat) ({ cls := "MixBooth$Deck", name := "pace", desc := "()I" } : Jvm.MethodName)) ∈ wt := wt_of 546 (by decide +kernel) rfl
theorem wm_547 : (Jvm.Cond.instanceMethod ({ cls := "MixBooth$Deck", name := "pace", desc := "()I" } : Jvm.MethodName)) ∈ wt := wt_of 547 (by decide +kernel) rfl
theorem wm_548 : (Jvm.Cond.selects "MixBooth$Deck" ({ cls := "MixBooth$Deck", name := "pace", desc := "()I" } : Jvm.MethodName) ({ cls := "MixBooth$Deck", name := "pace", desc := "()I" } : Jvm.MethodName)) ∈ wt := wt_of 548 (by decide +kernel) rfl
theorem wm_549 : (Jvm.Cond.code ({ cls := "MixBooth$Deck", name := "pace", desc := "()I" } : Jvm.MethodName) prog_3_method_20_code (1 : Nat) (Option.some Jvm.ClassFile.FieldType.int)) ∈ wt := wt_of 549 (by decide +kernel) rfl
theorem wm_550 : (Jvm.Cond.methodLink "MixBooth$Deck" (64 : Nat) ({ cls := "MixBooth$Disc", name := "lastPlace", desc := "()J" } : Jvm.MethodName)) ∈ wt := wt_of 550 (by decide +kernel) rfl
theorem wm_551 : (Jvm.Cond.instanceMethod ({ cls := "MixBooth$Disc", name := "lastPlace", desc := "()J" } : Jvm.MethodName)) ∈ wt := wt_of 551 (by decide +kernel) rfl
theorem wm_552 : (Jvm.Cond.selects "MixBooth$Disc" ({ cls := "MixBooth$Disc", name := "lastPlace", desc := "()J" } : Jvm.MethodName) ({ cls := "MixBooth$Disc", name := "lastPlace", desc := "()J" } : Jvm.MethodName)) ∈ wt := wt_of 552 (by decide +kernel) rfl
theorem wm_553 : (Jvm.Cond.code ({ cls := "MixBooth$Disc", name := "lastPlace", desc := "()J" } : Jvm.MethodName) prog_4_method_7_code (1 : Nat) (Option.some Jvm.ClassFile.FieldType.long)) ∈ wt := wt_of 553 (by decide +kernel) rfl
theorem wm_554 : (Jvm.Cond.constantLong "MixBooth$Disc" (53 : Nat) (60000000 : Int64)) ∈ wt := wt_of 554 (by decide +kernel) rfl
theorem wm_555 : (Jvm.Cond.methodLink "MixBooth$Deck" (95 : Nat) ({ cls := "MixBooth$Deck", name := "loopedBack", desc := "(J)J" } : Jvm.MethodName)) ∈ wt := wt_of 555 (by decide +kernel) rfl
theorem wm_556 : (Jvm.Cond.privateMethod ({ cls := "MixBooth$Deck", name := "loopedBack", desc := "(J)J" } : Jvm.MethodName)) ∈ wt := wt_of 556 (by decide +kernel) rfl
theorem wm_557 : (Jvm.Cond.instanceMethod ({ cls := "MixBooth$Deck", name := "loopedBack", desc := "(J)J" } : Jvm.MethodName)) ∈ wt := wt_of 557 (by decide +kernel) rfl
theorem wm_558 : (Jvm.Cond.code ({ cls := "MixBooth$Deck", name := "loopedBack", desc := "(J)J" } : Jvm.MethodName) prog_3_method_23_code (5 : Nat) (Option.some Jvm.ClassFile.FieldType.long)) ∈ wt := wt_of 558 (by decide +kernel) rfl
theorem wm_559 : (Jvm.Cond.constantLong "MixBooth$Deck" (68 : Nat) (60000000 : Int64)) ∈ wt := wt_of 559 (by decide +kernel) rfl
theorem wm_560 : (Jvm.Cond.methodLink "MixBooth$Deck" (99 : Nat) ({ cls := "java/lang/Math", name := "min", desc := "(JJ)J" } : Jvm.MethodName)) ∈ wt := wt_of 560 (by decide +kernel) rfl
theorem wm_561 : (Jvm.Cond.static ({ cls := "java/lang/Math", name := "min", desc := "(JJ)J" } : Jvm.MethodName)) ∈ wt := wt_of 561 (by decide +kernel) rfl
theorem wm_562 : (Jvm.Cond.code ({ cls := "java/lang/Math", name := "min", desc := "(JJ)J" } : Jvm.MethodName) prog_31_method_70_code (4 : Nat) (Option.some Jvm.ClassFile.FieldType.long)) ∈ wt := wt_of 562 (by decide +kernel) rfl
theorem wm_563 : (Jvm.Cond.methodLink "MixBooth$Deck" (101 : Nat) ({ cls := "MixBooth$Deck", name := "halt", desc := "()Z" } : Jvm.MethodName)) ∈ wt := wt_of 563 (by decide +kernel) rfl
theorem wm_564 : (Jvm.Cond.instanceMethod ({ cls := "MixBooth$Deck", name := "halt", desc := "()Z" } : Jvm.MethodName)) ∈ wt := wt_of 564 (by decide +kernel) rfl
theorem wm_565 : (Jvm.Cond.selects "MixBooth$Deck" ({ cls := "MixBooth$Deck", name := "halt", desc := "()Z" } : Jvm.MethodName) ({ cls := "MixBooth$Deck", name := "halt", desc := "()Z" } : Jvm.MethodName)) ∈ wt := wt_of 565 (by decide +kernel) rfl
theorem wm_566 : (Jvm.Cond.code ({ cls := "MixBooth$Deck", name := "halt", desc := "()Z" } : Jvm.MethodName) prog_3_method_6_code (2 : Nat) (Option.some Jvm.ClassFile.FieldType.boolean)) ∈ wt := wt_of 566 (by decide +kernel) rfl
theorem wm_567 : (Jvm.Cond.methodLink "MixBooth$Night" (74 : Nat) ({ cls := "MixBooth$Night", name := "mixDecks", desc := "()V" } : Jvm.MethodName)) ∈ wt := wt_of 567 (by decide +kernel) rfl
theorem wm_568 : (Jvm.Cond.privateMethod ({ cls := "MixBooth$Night", name := "mixDecks", desc := "()V" } : Jvm.MethodName)) ∈ wt := wt_of 568 (by decide +kernel) rfl
theorem wm_569 : (Jvm.Cond.instanceMethod ({ cls := "MixBooth$Night", name := "mixDecks", desc := "()V" } : Jvm.MethodName)) ∈ wt := wt_of 569 (by decide +kernel) rfl
theorem wm_570 : (Jvm.Cond.code ({ cls := "MixBooth$Night", name := "mixDecks", desc := "()V" } : Jvm.MethodName) prog_10_method_10_code (5 : Nat) (Option.none : Option Jvm.ClassFile.FieldType)) ∈ wt := wt_of 570 (by decide +kernel) rfl
theorem wm_571 : (Jvm.Cond.methodLink "MixBooth$Night" (90 : Nat) ({ cls := "MixBooth$Deck", name := "levelAt", desc := "(I)I" } : Jvm.MethodName)) ∈ wt := wt_of 571 (by decide +kernel) rfl
theorem wm_572 : (Jvm.Cond.instanceMethod ({ cls := "MixBooth$Deck", name := "levelAt", desc := "(I)I" } : Jvm.MethodName)) ∈ wt := wt_of 572 (by decide +kernel) rfl
theorem wm_573 : (Jvm.Cond.selects "MixBooth$Deck" ({ cls := "MixBooth$Deck", name := "levelAt", desc := "(I)I" } : Jvm.MethodName) ({ cls := "MixBooth$Deck", name := "levelAt", desc := "(I)I" } : Jvm.MethodName)) ∈ wt := wt_of 573 (by decide +kernel) rfl
theorem wm_574 : (Jvm.Cond.code ({ cls := "MixBooth$Deck", name := "levelAt", desc := "(I)I" } : Jvm.MethodName) prog_3_method_24_code (2 : Nat) (Option.some Jvm.ClassFile.FieldType.int)) ∈ wt := wt_of 574 (by decide +kernel) rfl
theorem wm_575 : (Jvm.Cond.methodLink "MixBooth$Deck" (108 : Nat) ({ cls := "MixBooth$Channel", name := "levelAt", desc := "(I)I" } : Jvm.MethodName)) ∈ wt := wt_of 575 (by decide +kernel) rfl
theorem wm_576 : (Jvm.Cond.instanceMethod ({ cls := "MixBooth$Channel", name := "levelAt", desc := "(I)I" } : Jvm.MethodName)) ∈ wt := wt_of 576 (by decide +kernel) rfl
theorem wm_577 : (Jvm.Cond.selects "MixBooth$Channel" ({ cls := "MixBooth$Channel", name := "levelAt", desc := "(I)I" } : Jvm.MethodName) ({ cls := "MixBooth$Channel", name := "levelAt", desc := "(I)I" } : Jvm.MethodName)) ∈ wt := wt_of 577 (by decide +kernel) rfl
theorem wm_578 : (Jvm.Cond.code ({ cls := "MixBooth$Channel", name := "levelAt", desc := "(I)I" } : Jvm.MethodName) prog_2_method_5_code (3 : Nat) (Option.some Jvm.ClassFile.FieldType.int)) ∈ wt := wt_of 578 (by decide +kernel) rfl
theorem wm_579 : (Jvm.Cond.methodLink "MixBooth$Night" (94 : Nat) ({ cls := "MixBooth$Deck", name := "loudnessAt", desc := "(I)I" } : Jvm.MethodName)) ∈ wt := wt_of 579 (by decide +kernel) rfl
theorem wm_580 : (Jvm.Cond.instanceMethod ({ cls := "MixBooth$Deck", name := "loudnessAt", desc := "(I)I" } : Jvm.MethodName)) ∈ wt := wt_of 580 (by decide +kernel) rfl
theorem wm_581 : (Jvm.Cond.selects "MixBooth$Deck" ({ cls := "MixBooth$Deck", name := "loudnessAt", desc := "(I)I" } : Jvm.MethodName) ({ cls := "MixBooth$Deck", name := "loudnessAt", desc := "(I)I" } : Jvm.MethodName)) ∈ wt := wt_of 581 (by decide +kernel) rfl
theorem wm_582 : (Jvm.Cond.code ({ cls := "MixBooth$Deck", name := "loudnessAt", desc := "(I)I" } : Jvm.MethodName) prog_3_method_26_code (2 : Nat) (Option.some Jvm.ClassFile.FieldType.int)) ∈ wt := wt_of 582 (by decide +kernel) rfl
theorem wm_583 : (Jvm.Cond.methodLink "MixBooth$Deck" (115 : Nat) ({ cls := "MixBooth$Channel", name := "bandSum", desc := "()I" } : Jvm.MethodName)) ∈ wt := wt_of 583 (by decide +kernel) rfl
theorem wm_584 : (Jvm.Cond.instanceMethod ({ cls := "MixBooth$Channel", name := "bandSum", desc := "()I" } : Jvm.MethodName)) ∈ wt := wt_of 584 (by decide +kernel) rfl
theorem wm_585 : (Jvm.Cond.selects "MixBooth$Channel" ({ cls := "MixBooth$Channel", name := "bandSum", desc := "()I" } : Jvm.MethodName) ({ cls := "MixBooth$Channel", name := "bandSum", desc := "()I" } : Jvm.MethodName)) ∈ wt := wt_of 585 (by decide +kernel) rfl
theorem wm_586 : (Jvm.Cond.code ({ cls := "MixBooth$Channel", name := "bandSum", desc := "()I" } : Jvm.MethodName) prog_2_method_6_code (3 : Nat) (Option.some Jvm.ClassFile.FieldType.int)) ∈ wt := wt_of 586 (by decide +kernel) rfl
theorem wm_587 : (Jvm.Cond.methodLink "MixBooth$Night" (105 : Nat) ({ cls := "MixBooth$Channel", name := "soundOf", desc := "(IJ)I" } : Jvm.MethodName)) ∈ wt := wt_of 587 (by decide +kernel) rfl
theorem wm_588 : (Jvm.Cond.instanceMethod ({ cls := "MixBooth$Channel", name := "soundOf", desc := "(IJ)I" } : Jvm.MethodName)) ∈ wt := wt_of 588 (by decide +kernel) rfl
theorem wm_589 : (Jvm.Cond.selects "MixBooth$Channel" ({ cls := "MixBooth$Channel", name := "soundOf", desc := "(IJ)I" } : Jvm.MethodName) ({ cls := "MixBooth$Channel", name := "soundOf", desc := "(IJ)I" } : Jvm.MethodName)) ∈ wt := wt_of 589 (by decide +kernel) rfl
theorem wm_590 : (Jvm.Cond.code ({ cls := "MixBooth$Channel", name := "soundOf", desc := "(IJ)I" } : Jvm.MethodName) prog_2_method_11_code (7 : Nat) (Option.some Jvm.ClassFile.FieldType.int)) ∈ wt := wt_of 590 (by decide +kernel) rfl
theorem wm_591 : (Jvm.Cond.methodLink "MixBooth$Channel" (37 : Nat) ({ cls := "MixBooth$Effect", name := "nextTail", desc := "(I)I" } : Jvm.MethodName)) ∈ wt := wt_of 591 (by decide +kernel) rfl
theorem wm_592 : (Jvm.Cond.instanceMethod ({ cls := "MixBooth$Effect", name := "nextTail", desc := "(I)I" } : Jvm.MethodName)) ∈ wt := wt_of 592 (by decide +kernel) rfl
theorem wm_593 : (Jvm.Cond.selects "MixBooth$Effect" ({ cls := "MixBooth$Effect", name := "nextTail", desc := "(I)I" } : Jvm.MethodName) ({ cls := "MixBooth$Effect", name := "nextTail", desc := "(I)I" } : Jvm.MethodName)) ∈ wt := wt_of 593 (by decide +kernel) rfl
theorem wm_594 : (Jvm.Cond.code ({ cls := "MixBooth$Effect", name := "nextTail", desc := "(I)I" } : Jvm.MethodName) prog_5_method_3_code (3 : Nat) (Option.some Jvm.ClassFile.FieldType.int)) ∈ wt := wt_of 594 (by decide +kernel) rfl
theorem wm_595 : (Jvm.Cond.constantLong "MixBooth$Channel" (44 : Nat) (60000000 : Int64)) ∈ wt := wt_of 595 (by decide +kernel) rfl
theorem wm_596 : (Jvm.Cond.constantLong "MixBooth$Channel" (46 : Nat) (30000000 : Int64)) ∈ wt := wt_of 596 (by decide +kernel) rfl
theorem wm_597 : (Jvm.Cond.methodLink "MixBooth$Night" (59 : Nat) ({ cls := "java/lang/Math", name := "min", desc := "(II)I" } : Jvm.MethodName)) ∈ wt := wt_of 597 (by decide +kernel) rfl
theorem wm_598 : (Jvm.Cond.static ({ cls := "java/lang/Math", name := "min", desc := "(II)I" } : Jvm.MethodName)) ∈ wt := wt_of 598 (by decide +kernel) rfl
theorem wm_599 : (Jvm.Cond.code ({ cls := "java/lang/Math", name := "min", desc := "(II)I" } : Jvm.MethodName) prog_31_method_69_code (2 : Nat) (Option.some Jvm.ClassFile.FieldType.int)) ∈ wt := wt_of 599 (by decide +kernel) rfl
theorem wm_600 : (Jvm.Cond.methodLink "MixBooth$Night" (117 : Nat) ({ cls := "MixBooth$Law", name := "listen", desc := "(I)V" } : Jvm.MethodName)) ∈ wt := wt_of 600 (by decide +kernel) rfl
theorem wm_601 : (Jvm.Cond.instanceMethod ({ cls := "MixBooth$Law", name := "listen", desc := "(I)V" } : Jvm.MethodName)) ∈ wt := wt_of 601 (by decide +kernel) rfl
theorem wm_602 : (Jvm.Cond.selects "MixBooth$Law" ({ cls := "MixBooth$Law", name := "listen", desc := "(I)V" } : Jvm.MethodName) ({ cls := "MixBooth$Law", name := "listen", desc := "(I)V" } : Jvm.MethodName)) ∈ wt := wt_of 602 (by decide +kernel) rfl
theorem wm_603 : (Jvm.Cond.code ({ cls := "MixBooth$Law", name := "listen", desc := "(I)V" } : Jvm.MethodName) prog_7_method_3_code (2 : Nat) (Option.none : Option Jvm.ClassFile.FieldType)) ∈ wt := wt_of 603 (by decide +kernel) rfl
theorem wm_604 : (Jvm.Cond.methodLink "MixBooth$Night" (77 : Nat) ({ cls := "MixBooth$Night", name := "countClashes", desc := "()V" } : Jvm.MethodName)) ∈ wt := wt_of 604 (by decide +kernel) rfl
theorem wm_605 : (Jvm.Cond.privateMethod ({ cls := "MixBooth$Night", name := "countClashes", desc := "()V" } : Jvm.MethodName)) ∈ wt := wt_of 605 (by decide +kernel) rfl
theorem wm_606 : (Jvm.Cond.instanceMethod ({ cls := "MixBooth$Night", name := "countClashes", desc := "()V" } : Jvm.MethodName)) ∈ wt := wt_of 606 (by decide +kernel) rfl
theorem wm_607 : (Jvm.Cond.code ({ cls := "MixBooth$Night", name := "countClashes", desc := "()V" } : Jvm.MethodName) prog_10_method_11_code (6 : Nat) (Option.none : Option Jvm.ClassFile.FieldType)) ∈ wt := wt_of 607 (by decide +kernel) rfl
theorem wm_608 : (Jvm.Cond.methodLink "MixBooth$Night" (120 : Nat) ({ cls := "MixBooth$Deck", name := "isHeard", desc := "(I)Z" } : Jvm.MethodName)) ∈ wt := wt_of 608 (by decide +kernel) rfl
theorem wm_609 : (Jvm.Cond.instanceMethod ({ cls := "MixBooth$Deck", name := "isHeard", desc := "(I)Z" } : Jvm.MethodName)) ∈ wt := wt_of 609 (by decide +kernel) rfl
theorem wm_610 : (Jvm.Cond.selects "MixBooth$Deck" ({ cls := "MixBooth$Deck", name := "isHeard", desc := "(I)Z" } : Jvm.MethodName) ({ cls := "MixBooth$Deck", name := "isHeard", desc := "(I)Z" } : Jvm.MethodName)) ∈ wt := wt_of 610 (by decide +kernel) rfl
theorem wm_611 : (Jvm.Cond.code ({ cls := "MixBooth$Deck", name := "isHeard", desc := "(I)Z" } : Jvm.MethodName) prog_3_method_25_code (2 : Nat) (Option.some Jvm.ClassFile.FieldType.boolean)) ∈ wt := wt_of 611 (by decide +kernel) rfl
theorem wm_612 : (Jvm.Cond.methodLink "MixBooth$Night" (127 : Nat) ({ cls := "MixBooth$Disc", name := "hasVoiceAt", desc := "(J)Z" } : Jvm.MethodName)) ∈ wt := wt_of 612 (by decide +kernel) rfl
theorem wm_613 : (Jvm.Cond.instanceMethod ({ cls := "MixBooth$Disc", name := "hasVoiceAt", desc := "(J)Z" } : Jvm.MethodName)) ∈ wt := wt_of 613 (by decide +kernel) rfl
theorem wm_614 : (Jvm.Cond.selects "MixBooth$Disc" ({ cls := "MixBooth$Disc", name := "hasVoiceAt", desc := "(J)Z" } : Jvm.MethodName) ({ cls := "MixBooth$Disc", name := "hasVoiceAt", desc := "(J)Z" } : Jvm.MethodName)) ∈ wt := wt_of 614 (by decide +kernel) rfl
theorem wm_615 : (Jvm.Cond.code ({ cls := "MixBooth$Disc", name := "hasVoiceAt", desc := "(J)Z" } : Jvm.MethodName) prog_4_method_8_code (3 : Nat) (Option.some Jvm.ClassFile.FieldType.boolean)) ∈ wt := wt_of 615 (by decide +kernel) rfl
theorem wm_616 : (Jvm.Cond.methodLink "MixBooth$Disc" (55 : Nat) ({ cls := "MixBooth$Disc", name := "hasBitAt", desc := "(IJ)Z" } : Jvm.MethodName)) ∈ wt := wt_of 616 (by decide +kernel) rfl
theorem wm_617 : (Jvm.Cond.privateMethod ({ cls := "MixBooth$Disc", name := "hasBitAt", desc := "(IJ)Z" } : Jvm.MethodName)) ∈ wt := wt_of 617 (by decide +kernel) rfl
theorem wm_618 : (Jvm.Cond.instanceMethod ({ cls := "MixBooth$Disc", name := "hasBitAt", desc := "(IJ)Z" } : Jvm.MethodName)) ∈ wt := wt_of 618 (by decide +kernel) rfl
theorem wm_619 : (Jvm.Cond.code ({ cls := "MixBooth$Disc", name := "hasBitAt", desc := "(IJ)Z" } : Jvm.MethodName) prog_4_method_10_code (5 : Nat) (Option.some Jvm.ClassFile.FieldType.boolean)) ∈ wt := wt_of 619 (by decide +kernel) rfl
theorem wm_620 : (Jvm.Cond.methodLink "MixBooth$Night" (131 : Nat) ({ cls := "MixBooth$Disc", name := "hasBassAt", desc := "(J)Z" } : Jvm.MethodName)) ∈ wt := wt_of 620 (by decide +kernel) rfl
theorem wm_621 : (Jvm.Cond.instanceMethod ({ cls := "MixBooth$Disc", name := "hasBassAt", desc := "(J)Z" } : Jvm.MethodName)) ∈ wt := wt_of 621 (by decide +kernel) rfl
theorem wm_622 : (Jvm.Cond.selects "MixBooth$Disc" ({ cls := "MixBooth$Disc", name := "hasBassAt", desc := "(J)Z" } : Jvm.MethodName) ({ cls := "MixBooth$Disc", name := "hasBassAt", desc := "(J)Z" } : Jvm.MethodName)) ∈ wt := wt_of 622 (by decide +kernel) rfl
theorem wm_623 : (Jvm.Cond.code ({ cls := "MixBooth$Disc", name := "hasBassAt", desc := "(J)Z" } : Jvm.MethodName) prog_4_method_9_code (3 : Nat) (Option.some Jvm.ClassFile.FieldType.boolean)) ∈ wt := wt_of 623 (by decide +kernel) rfl
theorem wm_624 : (Jvm.Cond.methodLink "MixBooth$Night" (134 : Nat) ({ cls := "MixBooth$Channel", name := "hasLowBand", desc := "()Z" } : Jvm.MethodName)) ∈ wt := wt_of 624 (by decide +kernel) rfl
theorem wm_625 : (Jvm.Cond.instanceMethod ({ cls := "MixBooth$Channel", name := "hasLowBand", desc := "()Z" } : Jvm.MethodName)) ∈ wt := wt_of 625 (by decide +kernel) rfl
theorem wm_626 : (Jvm.Cond.selects "MixBooth$Channel" ({ cls := "MixBooth$Channel", name := "hasLowBand", desc := "()Z" } : Jvm.MethodName) ({ cls := "MixBooth$Channel", name := "hasLowBand", desc := "()Z" } : Jvm.MethodName)) ∈ wt := wt_of 626 (by decide +kernel) rfl
theorem wm_627 : (Jvm.Cond.code ({ cls := "MixBooth$Channel", name := "hasLowBand", desc := "()Z" } : Jvm.MethodName) prog_2_method_7_code (1 : Nat) (Option.some Jvm.ClassFile.FieldType.boolean)) ∈ wt := wt_of 627 (by decide +kernel) rfl
theorem wm_628 : (Jvm.Cond.methodLink "MixBooth$Night" (80 : Nat) ({ cls := "MixBooth$Floor", name := "dance", desc := "([LMixBooth$Deck;I)V" } : Jvm.MethodName)) ∈ wt := wt_of 628 (by decide +kernel) rfl
theorem wm_629 : (Jvm.Cond.instanceMethod ({ cls := "MixBooth$Floor", name := "dance", desc := "([LMixBooth$Deck;I)V" } : Jvm.MethodName)) ∈ wt := wt_of 629 (by decide +kernel) rfl
theorem wm_630 : (Jvm.Cond.selects "MixBooth$Floor" ({ cls := "MixBooth$Floor", name := "dance", desc := "([LMixBooth$Deck;I)V" } : Jvm.MethodName) ({ cls := "MixBooth$Floor", name := "dance", desc := "([LMixBooth$Deck;I)V" } : Jvm.MethodName)) ∈ wt := wt_of 630 (by decide +kernel) rfl
theorem wm_631 : (Jvm.Cond.code ({ cls := "MixBooth$Floor", name := "dance", desc := "([LMixBooth$Deck;I)V" } : Jvm.MethodName) prog_6_method_6_code (6 : Nat) (Option.none : Option Jvm.ClassFile.FieldType)) ∈ wt := wt_of 631 (by decide +kernel) rfl
theorem wm_632 : (Jvm.Cond.methodLink "MixBooth$Floor" (28 : Nat) ({ cls := "MixBooth$Deck", name := "isHeard", desc := "(I)Z" } : Jvm.MethodName)) ∈ wt := wt_of 632 (by decide +kernel) rfl
theorem wm_633 : (Jvm.Cond.methodLink "MixBooth$Floor" (32 : Nat) ({ cls := "MixBooth$Floor", name := "leastDislike", desc := "(I[LMixBooth$Deck;I)I" } : Jvm.MethodName)) ∈ wt := wt_of 633 (by decide +kernel) rfl
theorem wm_634 : (Jvm.Cond.static ({ cls := "MixBooth$Floor", name := "leastDislike", desc := "(I[LMixBooth$Deck;I)I" } : Jvm.MethodName)) ∈ wt := wt_of 634 (by decide +kernel) rfl
theorem wm_635 : (Jvm.Cond.code ({ cls := "MixBooth$Floor", name := "leastDislike", desc := "(I[LMixBooth$Deck;I)I" } : Jvm.MethodName) prog_6_method_7_code (8 : Nat) (Option.some Jvm.ClassFile.FieldType.int)) ∈ wt := wt_of 635 (by decide +kernel) rfl
theorem wm_636 : (Jvm.Cond.methodLink "MixBooth$Floor" (44 : Nat) ({ cls := "MixBooth$Disc", name := "keysApart", desc := "(II)I" } : Jvm.MethodName)) ∈ wt := wt_of 636 (by decide +kernel) rfl
theorem wm_637 : (Jvm.Cond.static ({ cls := "MixBooth$Disc", name := "keysApart", desc := "(II)I" } : Jvm.MethodName)) ∈ wt := wt_of 637 (by decide +kernel) rfl
theorem wm_638 : (Jvm.Cond.code ({ cls := "MixBooth$Disc", name := "keysApart", desc := "(II)I" } : Jvm.MethodName) prog_4_method_3_code (4 : Nat) (Option.some Jvm.ClassFile.FieldType.int)) ∈ wt := wt_of 638 (by decide +kernel) rfl
theorem wm_639 : (Jvm.Cond.methodLink "MixBooth$Disc" (36 : Nat) ({ cls := "java/lang/Math", name := "abs", desc := "(I)I" } : Jvm.MethodName)) ∈ wt := wt_of 639 (by decide +kernel) rfl
theorem wm_640 : (Jvm.Cond.static ({ cls := "java/lang/Math", name := "abs", desc := "(I)I" } : Jvm.MethodName)) ∈ wt := wt_of 640 (by decide +kernel) rfl
theorem wm_641 : (Jvm.Cond.code ({ cls := "java/lang/Math", name := "abs", desc := "(I)I" } : Jvm.MethodName) prog_31_method_59_code (1 : Nat) (Option.some Jvm.ClassFile.FieldType.int)) ∈ wt := wt_of 641 (by decide +kernel) rfl
theorem wm_642 : (Jvm.Cond.methodLink "MixBooth$Disc" (42 : Nat) ({ cls := "java/lang/Math", name := "min", desc := "(II)I" } : Jvm.MethodName)) ∈ wt := wt_of 642 (by decide +kernel) rfl
theorem wm_643 : (Jvm.Cond.methodLink "MixBooth$Floor" (51 : Nat) ({ cls := "java/lang/Math", name := "abs", desc := "(I)I" } : Jvm.MethodName)) ∈ wt := wt_of 643 (by decide +kernel) rfl
theorem wm_644 : (Jvm.Cond.methodLink "MixBooth$Floor" (57 : Nat) ({ cls := "java/lang/Math", name := "min", desc := "(II)I" } : Jvm.MethodName)) ∈ wt := wt_of 644 (by decide +kernel) rfl
theorem wm_645 : (Jvm.Cond.methodLink "MixBooth$Floor" (36 : Nat) ({ cls := "MixBooth$Floor", name := "feel", desc := "(IIZ)V" } : Jvm.MethodName)) ∈ wt := wt_of 645 (by decide +kernel) rfl
theorem wm_646 : (Jvm.Cond.privateMethod ({ cls := "MixBooth$Floor", name := "feel", desc := "(IIZ)V" } : Jvm.MethodName)) ∈ wt := wt_of 646 (by decide +kernel) rfl
theorem wm_647 : (Jvm.Cond.instanceMethod ({ cls := "MixBooth$Floor", name := "feel", desc := "(IIZ)V" } : Jvm.MethodName)) ∈ wt := wt_of 647 (by decide +kernel) rfl
theorem wm_648 : (Jvm.Cond.code ({ cls := "MixBooth$Floor", name := "feel", desc := "(IIZ)V" } : Jvm.MethodName) prog_6_method_8_code (6 : Nat) (Option.none : Option Jvm.ClassFile.FieldType)) ∈ wt := wt_of 648 (by decide +kernel) rfl
theorem wm_649 : (Jvm.Cond.methodLink "MixBooth$Floor" (60 : Nat) ({ cls := "java/lang/Math", name := "max", desc := "(II)I" } : Jvm.MethodName)) ∈ wt := wt_of 649 (by decide +kernel) rfl
theorem wm_650 : (Jvm.Cond.static ({ cls := "java/lang/Math", name := "max", desc := "(II)I" } : Jvm.MethodName)) ∈ wt := wt_of 650 (by decide +kernel) rfl
theorem wm_651 : (Jvm.Cond.code ({ cls := "java/lang/Math", name := "max", desc := "(II)I" } : Jvm.MethodName) prog_31_method_65_code (2 : Nat) (Option.some Jvm.ClassFile.FieldType.int)) ∈ wt := wt_of 651 (by decide +kernel) rfl
theorem wm_652 : (Jvm.Cond.methodLink "MixBooth$Night" (84 : Nat) ({ cls := "MixBooth$Law", name := "judge", desc := "(I)V" } : Jvm.MethodName)) ∈ wt := wt_of 652 (by decide +kernel) rfl
theorem wm_653 : (Jvm.Cond.instanceMethod ({ cls := "MixBooth$Law", name := "judge", desc := "(I)V" } : Jvm.MethodName)) ∈ wt := wt_of 653 (by decide +kernel) rfl
theorem wm_654 : (Jvm.Cond.selects "MixBooth$Law" ({ cls := "MixBooth$Law", name := "judge", desc := "(I)V" } : Jvm.MethodName) ({ cls := "MixBooth$Law", name := "judge", desc := "(I)V" } : Jvm.MethodName)) ∈ wt := wt_of 654 (by decide +kernel) rfl
theorem wm_655 : (Jvm.Cond.code ({ cls := "MixBooth$Law", name := "judge", desc := "(I)V" } : Jvm.MethodName) prog_7_method_4_code (4 : Nat) (Option.none : Option Jvm.ClassFile.FieldType)) ∈ wt := wt_of 655 (by decide +kernel) rfl
theorem wm_656 : (Jvm.Cond.constant "MixBooth$Law" (19 : Nat) (360000 : Int32)) ∈ wt := wt_of 656 (by decide +kernel) rfl
theorem wm_657 : (Jvm.Cond.methodLink "MixBooth$Law" (20 : Nat) ({ cls := "java/lang/Math", name := "floorMod", desc := "(II)I" } : Jvm.MethodName)) ∈ wt := wt_of 657 (by decide +kernel) rfl
theorem wm_658 : (Jvm.Cond.static ({ cls := "java/lang/Math", name := "floorMod", desc := "(II)I" } : Jvm.MethodName)) ∈ wt := wt_of 658 (by decide +kernel) rfl
theorem wm_659 : (Jvm.Cond.code ({ cls := "java/lang/Math", name := "floorMod", desc := "(II)I" } : Jvm.MethodName) prog_31_method_50_code (3 : Nat) (Option.some Jvm.ClassFile.FieldType.int)) ∈ wt := wt_of 659 (by decide +kernel) rfl
theorem wm_660 : (Jvm.Cond.methodLink "MixBooth" (304 : Nat) ({ cls := "MixBooth$Law", name := "change", desc := "(II)I" } : Jvm.MethodName)) ∈ wt := wt_of 660 (by decide +kernel) rfl
theorem wm_661 : (Jvm.Cond.instanceMethod ({ cls := "MixBooth$Law", name := "change", desc := "(II)I" } : Jvm.MethodName)) ∈ wt := wt_of 661 (by decide +kernel) rfl
theorem wm_662 : (Jvm.Cond.selects "MixBooth$Law" ({ cls := "MixBooth$Law", name := "change", desc := "(II)I" } : Jvm.MethodName) ({ cls := "MixBooth$Law", name := "change", desc := "(II)I" } : Jvm.MethodName)) ∈ wt := wt_of 662 (by decide +kernel) rfl
theorem wm_663 : (Jvm.Cond.code ({ cls := "MixBooth$Law", name := "change", desc := "(II)I" } : Jvm.MethodName) prog_7_method_2_code (4 : Nat) (Option.some Jvm.ClassFile.FieldType.int)) ∈ wt := wt_of 663 (by decide +kernel) rfl
theorem wm_664 : (Jvm.Cond.methodLink "MixBooth" (312 : Nat) ({ cls := "MixBooth$Night", name := "setLights", desc := "(II)I" } : Jvm.MethodName)) ∈ wt := wt_of 664 (by decide +kernel) rfl
theorem wm_665 : (Jvm.Cond.instanceMethod ({ cls := "MixBooth$Night", name := "setLights", desc := "(II)I" } : Jvm.MethodName)) ∈ wt := wt_of 665 (by decide +kernel) rfl
theorem wm_666 : (Jvm.Cond.selects "MixBooth$Night" ({ cls := "MixBooth$Night", name := "setLights", desc := "(II)I" } : Jvm.MethodName) ({ cls := "MixBooth$Night", name := "setLights", desc := "(II)I" } : Jvm.MethodName)) ∈ wt := wt_of 666 (by decide +kernel) rfl
theorem wm_667 : (Jvm.Cond.code ({ cls := "MixBooth$Night", name := "setLights", desc := "(II)I" } : Jvm.MethodName) prog_10_method_7_code (3 : Nat) (Option.some Jvm.ClassFile.FieldType.int)) ∈ wt := wt_of 667 (by decide +kernel) rfl
theorem wm_668 : (Jvm.Cond.methodLink "MixBooth" (375 : Nat) ({ cls := "MixBooth$Moves", name := "doAll", desc := "([LMixBooth$Deck;[CII)I" } : Jvm.MethodName)) ∈ wt := wt_of 668 (by decide +kernel) rfl
theorem wm_669 : (Jvm.Cond.instanceMethod ({ cls := "MixBooth$Moves", name := "doAll", desc := "([LMixBooth$Deck;[CII)I" } : Jvm.MethodName)) ∈ wt := wt_of 669 (by decide +kernel) rfl
theorem wm_670 : (Jvm.Cond.selects "MixBooth$Moves" ({ cls := "MixBooth$Moves", name := "doAll", desc := "([LMixBooth$Deck;[CII)I" } : Jvm.MethodName) ({ cls := "MixBooth$Moves", name := "doAll", desc := "([LMixBooth$Deck;[CII)I" } : Jvm.MethodName)) ∈ wt := wt_of 670 (by decide +kernel) rfl
theorem wm_671 : (Jvm.Cond.code ({ cls := "MixBooth$Moves", name := "doAll", desc := "([LMixBooth$Deck;[CII)I" } : Jvm.MethodName) prog_9_method_13_code (12 : Nat) (Option.some Jvm.ClassFile.FieldType.int)) ∈ wt := wt_of 671 (by decide +kernel) rfl
theorem wm_672 : (Jvm.Cond.methodLink "MixBooth$Moves" (46 : Nat) ({ cls := "MixBooth$Moves", name := "isDeckLetter", desc := "(C)Z" } : Jvm.MethodName)) ∈ wt := wt_of 672 (by decide +kernel) rfl
theorem wm_673 : (Jvm.Cond.static ({ cls := "MixBooth$Moves", name := "isDeckLetter", desc := "(C)Z" } : Jvm.MethodName)) ∈ wt := wt_of 673 (by decide +kernel) rfl
theorem wm_674 : (Jvm.Cond.code ({ cls := "MixBooth$Moves", name := "isDeckLetter", desc := "(C)Z" } : Jvm.MethodName) prog_9_method_9_code (1 : Nat) (Option.some Jvm.ClassFile.FieldType.boolean)) ∈ wt := wt_of 674 (by decide +kernel) rfl
theorem wm_675 : (Jvm.Cond.methodLink "MixBooth$Moves" (50 : Nat) ({ cls := "MixBooth$Moves", name := "mostAfter", desc := "(C)I" } : Jvm.MethodName)) ∈ wt := wt_of 675 (by decide +kernel) rfl
theorem wm_676 : (Jvm.Cond.static ({ cls := "MixBooth$Moves", name := "mostAfter", desc := "(C)I" } : Jvm.MethodName)) ∈ wt := wt_of 676 (by decide +kernel) rfl
theorem wm_677 : (Jvm.Cond.code ({ cls := "MixBooth$Moves", name := "mostAfter", desc := "(C)I" } : Jvm.MethodName) prog_9_method_11_code (1 : Nat) (Option.some Jvm.ClassFile.FieldType.int)) ∈ wt := wt_of 677 (by decide +kernel) rfl
theorem wm_678 : (Jvm.Cond.methodLink "MixBooth$Moves" (65 : Nat) ({ cls := "MixBooth$Moves", name := "doOne", desc := "(LMixBooth$Deck;CI)C" } : Jvm.MethodName)) ∈ wt := wt_of 678 (by decide +kernel) rfl
theorem wm_679 : (Jvm.Cond.static ({ cls := "MixBooth$Moves", name := "doOne", desc := "(LMixBooth$Deck;CI)C" } : Jvm.MethodName)) ∈ wt := wt_of 679 (by decide +kernel) rfl
theorem wm_680 : (Jvm.Cond.code ({ cls := "MixBooth$Moves", name := "doOne", desc := "(LMixBooth$Deck;CI)C" } : Jvm.MethodName) prog_9_method_14_code (3 : Nat) (Option.some Jvm.ClassFile.FieldType.char)) ∈ wt := wt_of 680 (by decide +kernel) rfl
theorem wm_681 : (Jvm.Cond.methodLink "MixBooth$Moves" (69 : Nat) ({ cls := "MixBooth$Deck", name := "halt", desc := "()Z" } : Jvm.MethodName)) ∈ wt := wt_of 681 (by decide +kernel) rfl
theorem wm_682 : (Jvm.Cond.methodLink "MixBooth$Moves" (77 : Nat) ({ cls := "java/lang/Math", name := "min", desc := "(II)I" } : Jvm.MethodName)) ∈ wt := wt_of 682 (by decide +kernel) rfl
theorem wm_683 : (Jvm.Cond.methodLink "MixBooth$Moves" (83 : Nat) ({ cls := "MixBooth$Channel", name := "slide", desc := "(I)I" } : Jvm.MethodName)) ∈ wt := wt_of 683 (by decide +kernel) rfl
theorem wm_684 : (Jvm.Cond.instanceMethod ({ cls := "MixBooth$Channel", name := "slide", desc := "(I)I" } : Jvm.MethodName)) ∈ wt := wt_of 684 (by decide +kernel) rfl
theorem wm_685 : (Jvm.Cond.selects "MixBooth$Channel" ({ cls := "MixBooth$Channel", name := "slide", desc := "(I)I" } : Jvm.MethodName) ({ cls := "MixBooth$Channel", name := "slide", desc := "(I)I" } : Jvm.MethodName)) ∈ wt := wt_of 685 (by decide +kernel) rfl
theorem wm_686 : (Jvm.Cond.code ({ cls := "MixBooth$Channel", name := "slide", desc := "(I)I" } : Jvm.MethodName) prog_2_method_2_code (3 : Nat) (Option.some Jvm.ClassFile.FieldType.int)) ∈ wt := wt_of 686 (by decide +kernel) rfl
theorem wm_687 : (Jvm.Cond.methodLink "MixBooth$Moves" (89 : Nat) ({ cls := "MixBooth$Deck", name := "leaveLoop", desc := "()Z" } : Jvm.MethodName)) ∈ wt := wt_of 687 (by decide +kernel) rfl
theorem wm_688 : (Jvm.Cond.instanceMethod ({ cls := "MixBooth$Deck", name := "leaveLoop", desc := "()Z" } : Jvm.MethodName)) ∈ wt := wt_of 688 (by decide +kernel) rfl
theorem wm_689 : (Jvm.Cond.selects "MixBooth$Deck" ({ cls := "MixBooth$Deck", name := "leaveLoop", desc := "()Z" } : Jvm.MethodName) ({ cls := "MixBooth$Deck", name := "leaveLoop", desc := "()Z" } : Jvm.MethodName)) ∈ wt := wt_of 689 (by decide +kernel) rfl
theorem wm_690 : (Jvm.Cond.code ({ cls := "MixBooth$Deck", name := "leaveLoop", desc := "()Z" } : Jvm.MethodName) prog_3_method_17_code (2 : Nat) (Option.some Jvm.ClassFile.FieldType.boolean)) ∈ wt := wt_of 690 (by decide +kernel) rfl
theorem wm_691 : (Jvm.Cond.methodLink "MixBooth$Moves" (96 : Nat) ({ cls := "MixBooth$Moves", name := "doOnDisc", desc := "(LMixBooth$Deck;CI)C" } : Jvm.MethodName)) ∈ wt := wt_of 691 (by decide +kernel) rfl
theorem wm_692 : (Jvm.Cond.static ({ cls := "MixBooth$Moves", name := "doOnDisc", desc := "(LMixBooth$Deck;CI)C" } : Jvm.MethodName)) ∈ wt := wt_of 692 (by decide +kernel) rfl
theorem wm_693 : (Jvm.Cond.code ({ cls := "MixBooth$Moves", name := "doOnDisc", desc := "(LMixBooth$Deck;CI)C" } : Jvm.MethodName) prog_9_method_15_code (3 : Nat) (Option.some Jvm.ClassFile.FieldType.char)) ∈ wt := wt_of 693 (by decide +kernel) rfl
theorem wm_694 : (Jvm.Cond.methodLink "MixBooth$Moves" (99 : Nat) ({ cls := "MixBooth$Deck", name := "start", desc := "()Z" } : Jvm.MethodName)) ∈ wt := wt_of 694 (by decide +kernel) rfl
theorem wm_695 : (Jvm.Cond.instanceMethod ({ cls := "MixBooth$Deck", name := "start", desc := "()Z" } : Jvm.MethodName)) ∈ wt := wt_of 695 (by decide +kernel) rfl
theorem wm_696 : (Jvm.Cond.selects "MixBooth$Deck" ({ cls := "MixBooth$Deck", name := "start", desc := "()Z" } : Jvm.MethodName) ({ cls := "MixBooth$Deck", name := "start", desc := "()Z" } : Jvm.MethodName)) ∈ wt := wt_of 696 (by decide +kernel) rfl
theorem wm_697 : (Jvm.Cond.code ({ cls := "MixBooth$Deck", name := "start", desc := "()Z" } : Jvm.MethodName) prog_3_method_5_code (2 : Nat) (Option.some Jvm.ClassFile.FieldType.boolean)) ∈ wt := wt_of 697 (by decide +kernel) rfl
theorem wm_698 : (Jvm.Cond.methodLink "MixBooth$Moves" (102 : Nat) ({ cls := "MixBooth$Deck", name := "slowDown", desc := "()Z" } : Jvm.MethodName)) ∈ wt := wt_of 698 (by decide +kernel) rfl
theorem wm_699 : (Jvm.Cond.instanceMethod ({ cls := "MixBooth$Deck", name := "slowDown", desc := "()Z" } : Jvm.MethodName)) ∈ wt := wt_of 699 (by decide +kernel) rfl
theorem wm_700 : (Jvm.Cond.selects "MixBooth$Deck" ({ cls := "MixBooth$Deck", name := "slowDown", desc := "()Z" } : Jvm.MethodName) ({ cls := "MixBooth$Deck", name := "slowDown", desc := "()Z" } : Jvm.MethodName)) ∈ wt := wt_of 700 (by decide +kernel) rfl
theorem wm_701 : (Jvm.Cond.code ({ cls := "MixBooth$Deck", name := "slowDown", desc := "()Z" } : Jvm.MethodName) prog_3_method_9_code (1 : Nat) (Option.some Jvm.ClassFile.FieldType.boolean)) ∈ wt := wt_of 701 (by decide +kernel) rfl
theorem wm_702 : (Jvm.Cond.methodLink "MixBooth$Moves" (105 : Nat) ({ cls := "MixBooth$Deck", name := "mark", desc := "(I)I" } : Jvm.MethodName)) ∈ wt := wt_of 702 (by decide +kernel) rfl
theorem wm_703 : (Jvm.Cond.instanceMethod ({ cls := "MixBooth$Deck", name := "mark", desc := "(I)I" } : Jvm.MethodName)) ∈ wt := wt_of 703 (by decide +kernel) rfl
theorem wm_704 : (Jvm.Cond.selects "MixBooth$Deck" ({ cls := "MixBooth$Deck", name := "mark", desc := "(I)I" } : Jvm.MethodName) ({ cls := "MixBooth$Deck", name := "mark", desc := "(I)I" } : Jvm.MethodName)) ∈ wt := wt_of 704 (by decide +kernel) rfl
theorem wm_705 : (Jvm.Cond.code ({ cls := "MixBooth$Deck", name := "mark", desc := "(I)I" } : Jvm.MethodName) prog_3_method_13_code (3 : Nat) (Option.some Jvm.ClassFile.FieldType.int)) ∈ wt := wt_of 705 (by decide +kernel) rfl
theorem wm_706 : (Jvm.Cond.constantLong "MixBooth$Deck" (77 : Nat) (30000000 : Int64)) ∈ wt := wt_of 706 (by decide +kernel) rfl
theorem wm_707 : (Jvm.Cond.methodLink "MixBooth$Deck" (79 : Nat) ({ cls := "java/lang/Math", name := "min", desc := "(II)I" } : Jvm.MethodName)) ∈ wt := wt_of 707 (by decide +kernel) rfl
theorem wm_708 : (Jvm.Cond.methodLink "MixBooth$Moves" (108 : Nat) ({ cls := "MixBooth$Deck", name := "push", desc := "(I)I" } : Jvm.MethodName)) ∈ wt := wt_of 708 (by decide +kernel) rfl
theorem wm_709 : (Jvm.Cond.instanceMethod ({ cls := "MixBooth$Deck", name := "push", desc := "(I)I" } : Jvm.MethodName)) ∈ wt := wt_of 709 (by decide +kernel) rfl
theorem wm_710 : (Jvm.Cond.selects "MixBooth$Deck" ({ cls := "MixBooth$Deck", name := "push", desc := "(I)I" } : Jvm.MethodName) ({ cls := "MixBooth$Deck", name := "push", desc := "(I)I" } : Jvm.MethodName)) ∈ wt := wt_of 710 (by decide +kernel) rfl
theorem wm_711 : (Jvm.Cond.code ({ cls := "MixBooth$Deck", name := "push", desc := "(I)I" } : Jvm.MethodName) prog_3_method_8_code (3 : Nat) (Option.some Jvm.ClassFile.FieldType.int)) ∈ wt := wt_of 711 (by decide +kernel) rfl
theorem wm_712 : (Jvm.Cond.methodLink "MixBooth$Moves" (115 : Nat) ({ cls := "MixBooth$Deck", name := "turnSlip", desc := "(Z)Z" } : Jvm.MethodName)) ∈ wt := wt_of 712 (by decide +kernel) rfl
theorem wm_713 : (Jvm.Cond.instanceMethod ({ cls := "MixBooth$Deck", name := "turnSlip", desc := "(Z)Z" } : Jvm.MethodName)) ∈ wt := wt_of 713 (by decide +kernel) rfl
theorem wm_714 : (Jvm.Cond.selects "MixBooth$Deck" ({ cls := "MixBooth$Deck", name := "turnSlip", desc := "(Z)Z" } : Jvm.MethodName) ({ cls := "MixBooth$Deck", name := "turnSlip", desc := "(Z)Z" } : Jvm.MethodName)) ∈ wt := wt_of 714 (by decide +kernel) rfl
theorem wm_715 : (Jvm.Cond.code ({ cls := "MixBooth$Deck", name := "turnSlip", desc := "(Z)Z" } : Jvm.MethodName) prog_3_method_18_code (3 : Nat) (Option.some Jvm.ClassFile.FieldType.boolean)) ∈ wt := wt_of 715 (by decide +kernel) rfl
theorem wm_716 : (Jvm.Cond.methodLink "MixBooth$Moves" (119 : Nat) ({ cls := "MixBooth$Deck", name := "jumpToCue", desc := "(I)Z" } : Jvm.MethodName)) ∈ wt := wt_of 716 (by decide +kernel) rfl
theorem wm_717 : (Jvm.Cond.instanceMethod ({ cls := "MixBooth$Deck", name := "jumpToCue", desc := "(I)Z" } : Jvm.MethodName)) ∈ wt := wt_of 717 (by decide +kernel) rfl
theorem wm_718 : (Jvm.Cond.selects "MixBooth$Deck" ({ cls := "MixBooth$Deck", name := "jumpToCue", desc := "(I)Z" } : Jvm.MethodName) ({ cls := "MixBooth$Deck", name := "jumpToCue", desc := "(I)Z" } : Jvm.MethodName)) ∈ wt := wt_of 718 (by decide +kernel) rfl
theorem wm_719 : (Jvm.Cond.code ({ cls := "MixBooth$Deck", name := "jumpToCue", desc := "(I)Z" } : Jvm.MethodName) prog_3_method_14_code (2 : Nat) (Option.some Jvm.ClassFile.FieldType.boolean)) ∈ wt := wt_of 719 (by decide +kernel) rfl
theorem wm_720 : (Jvm.Cond.methodLink "MixBooth$Moves" (123 : Nat) ({ cls := "MixBooth$Deck", name := "hasRoomFor", desc := "(I)Z" } : Jvm.MethodName)) ∈ wt := wt_of 720 (by decide +kernel) rfl
theorem wm_721 : (Jvm.Cond.instanceMethod ({ cls := "MixBooth$Deck", name := "hasRoomFor", desc := "(I)Z" } : Jvm.MethodName)) ∈ wt := wt_of 721 (by decide +kernel) rfl
theorem wm_722 : (Jvm.Cond.selects "MixBooth$Deck" ({ cls := "MixBooth$Deck", name := "hasRoomFor", desc := "(I)Z" } : Jvm.MethodName) ({ cls := "MixBooth$Deck", name := "hasRoomFor", desc := "(I)Z" } : Jvm.MethodName)) ∈ wt := wt_of 722 (by decide +kernel) rfl
theorem wm_723 : (Jvm.Cond.code ({ cls := "MixBooth$Deck", name := "hasRoomFor", desc := "(I)Z" } : Jvm.MethodName) prog_3_method_15_code (2 : Nat) (Option.some Jvm.ClassFile.FieldType.boolean)) ∈ wt := wt_of 723 (by decide +kernel) rfl
theorem wm_724 : (Jvm.Cond.methodLink "MixBooth$Deck" (73 : Nat) ({ cls := "MixBooth$Deck", name := "beatNow", desc := "()I" } : Jvm.MethodName)) ∈ wt := wt_of 724 (by decide +kernel) rfl
theorem wm_725 : (Jvm.Cond.instanceMethod ({ cls := "MixBooth$Deck", name := "beatNow", desc := "()I" } : Jvm.MethodName)) ∈ wt := wt_of 725 (by decide +kernel) rfl
theorem wm_726 : (Jvm.Cond.selects "MixBooth$Deck" ({ cls := "MixBooth$Deck", name := "beatNow", desc := "()I" } : Jvm.MethodName) ({ cls := "MixBooth$Deck", name := "beatNow", desc := "()I" } : Jvm.MethodName)) ∈ wt := wt_of 726 (by decide +kernel) rfl
theorem wm_727 : (Jvm.Cond.code ({ cls := "MixBooth$Deck", name := "beatNow", desc := "()I" } : Jvm.MethodName) prog_3_method_10_code (1 : Nat) (Option.some Jvm.ClassFile.FieldType.int)) ∈ wt := wt_of 727 (by decide +kernel) rfl
theorem wm_728 : (Jvm.Cond.methodLink "MixBooth$Moves" (126 : Nat) ({ cls := "MixBooth$Deck", name := "turnRound", desc := "(I)I" } : Jvm.MethodName)) ∈ wt := wt_of 728 (by decide +kernel) rfl
theorem wm_729 : (Jvm.Cond.instanceMethod ({ cls := "MixBooth$Deck", name := "turnRound", desc := "(I)I" } : Jvm.MethodName)) ∈ wt := wt_of 729 (by decide +kernel) rfl
theorem wm_730 : (Jvm.Cond.selects "MixBooth$Deck" ({ cls := "MixBooth$Deck", name := "turnRound", desc := "(I)I" } : Jvm.MethodName) ({ cls := "MixBooth$Deck", name := "turnRound", desc := "(I)I" } : Jvm.MethodName)) ∈ wt := wt_of 730 (by decide +kernel) rfl
theorem wm_731 : (Jvm.Cond.code ({ cls := "MixBooth$Deck", name := "turnRound", desc := "(I)I" } : Jvm.MethodName) prog_3_method_16_code (2 : Nat) (Option.some Jvm.ClassFile.FieldType.int)) ∈ wt := wt_of 731 (by decide +kernel) rfl
theorem wm_732 : (Jvm.Cond.methodLink "MixBooth$Moves" (42 : Nat) ({ cls := "MixBooth$Moves", name := "addCause", desc := "(CI)V" } : Jvm.MethodName)) ∈ wt := wt_of 732 (by decide +kernel) rfl
theorem wm_733 : (Jvm.Cond.privateMethod ({ cls := "MixBooth$Moves", name := "addCause", desc := "(CI)V" } : Jvm.MethodName)) ∈ wt := wt_of 733 (by decide +kernel) rfl
theorem wm_734 : (Jvm.Cond.instanceMethod ({ cls := "MixBooth$Moves", name := "addCause", desc := "(CI)V" } : Jvm.MethodName)) ∈ wt := wt_of 734 (by decide +kernel) rfl
theorem wm_735 : (Jvm.Cond.code ({ cls := "MixBooth$Moves", name := "addCause", desc := "(CI)V" } : Jvm.MethodName) prog_9_method_6_code (3 : Nat) (Option.none : Option Jvm.ClassFile.FieldType)) ∈ wt := wt_of 735 (by decide +kernel) rfl
theorem wm_736 : (Jvm.Cond.methodLink "MixBooth" (472 : Nat) ({ cls := "MixBooth", name := "redoOnDeck", desc := "(I)V" } : Jvm.MethodName)) ∈ wt := wt_of 736 (by decide +kernel) rfl
theorem wm_737 : (Jvm.Cond.privateMethod ({ cls := "MixBooth", name := "redoOnDeck", desc := "(I)V" } : Jvm.MethodName)) ∈ wt := wt_of 737 (by decide +kernel) rfl
theorem wm_738 : (Jvm.Cond.instanceMethod ({ cls := "MixBooth", name := "redoOnDeck", desc := "(I)V" } : Jvm.MethodName)) ∈ wt := wt_of 738 (by decide +kernel) rfl
theorem wm_739 : (Jvm.Cond.code ({ cls := "MixBooth", name := "redoOnDeck", desc := "(I)V" } : Jvm.MethodName) prog_1_method_74_code (5 : Nat) (Option.none : Option Jvm.ClassFile.FieldType)) ∈ wt := wt_of 739 (by decide +kernel) rfl
theorem wm_740 : (Jvm.Cond.methodLink "MixBooth" (435 : Nat) ({ cls := "MixBooth$Night", name := "deckAt", desc := "(I)LMixBooth$Deck;" } : Jvm.MethodName)) ∈ wt := wt_of 740 (by decide +kernel) rfl
theorem wm_741 : (Jvm.Cond.instanceMethod ({ cls := "MixBooth$Night", name := "deckAt", desc := "(I)LMixBooth$Deck;" } : Jvm.MethodName)) ∈ wt := wt_of 741 (by decide +kernel) rfl
theorem wm_742 : (Jvm.Cond.selects "MixBooth$Night" ({ cls := "MixBooth$Night", name := "deckAt", desc := "(I)LMixBooth$Deck;" } : Jvm.MethodName) ({ cls := "MixBooth$Night", name := "deckAt", desc := "(I)LMixBooth$Deck;" } : Jvm.MethodName)) ∈ wt := wt_of 742 (by decide +kernel) rfl
theorem wm_743 : (Jvm.Cond.code ({ cls := "MixBooth$Night", name := "deckAt", desc := "(I)LMixBooth$Deck;" } : Jvm.MethodName) prog_10_method_4_code (2 : Nat) (Option.some (Jvm.ClassFile.FieldType.object "MixBooth$Deck"))) ∈ wt := wt_of 743 (by decide +kernel) rfl
theorem wm_744 : (Jvm.Cond.methodLink "MixBooth" (131 : Nat) ({ cls := "MixBooth$Deck", name := "putOn", desc := "(LMixBooth$Disc;)I" } : Jvm.MethodName)) ∈ wt := wt_of 744 (by decide +kernel) rfl
theorem wm_745 : (Jvm.Cond.instanceMethod ({ cls := "MixBooth$Deck", name := "putOn", desc := "(LMixBooth$Disc;)I" } : Jvm.MethodName)) ∈ wt := wt_of 745 (by decide +kernel) rfl
theorem wm_746 : (Jvm.Cond.selects "MixBooth$Deck" ({ cls := "MixBooth$Deck", name := "putOn", desc := "(LMixBooth$Disc;)I" } : Jvm.MethodName) ({ cls := "MixBooth$Deck", name := "putOn", desc := "(LMixBooth$Disc;)I" } : Jvm.MethodName)) ∈ wt := wt_of 746 (by decide +kernel) rfl
theorem wm_747 : (Jvm.Cond.code ({ cls := "MixBooth$Deck", name := "putOn", desc := "(LMixBooth$Disc;)I" } : Jvm.MethodName) prog_3_method_2_code (3 : Nat) (Option.some Jvm.ClassFile.FieldType.int)) ∈ wt := wt_of 747 (by decide +kernel) rfl
theorem wm_748 : (Jvm.Cond.methodLink "MixBooth$Deck" (38 : Nat) ({ cls := "MixBooth$Deck", name := "takeOff", desc := "()V" } : Jvm.MethodName)) ∈ wt := wt_of 748 (by decide +kernel) rfl
theorem wm_749 : (Jvm.Cond.instanceMethod ({ cls := "MixBooth$Deck", name := "takeOff", desc := "()V" } : Jvm.MethodName)) ∈ wt := wt_of 749 (by decide +kernel) rfl
theorem wm_750 : (Jvm.Cond.selects "MixBooth$Deck" ({ cls := "MixBooth$Deck", name := "takeOff", desc := "()V" } : Jvm.MethodName) ({ cls := "MixBooth$Deck", name := "takeOff", desc := "()V" } : Jvm.MethodName)) ∈ wt := wt_of 750 (by decide +kernel) rfl
theorem wm_751 : (Jvm.Cond.code ({ cls := "MixBooth$Deck", name := "takeOff", desc := "()V" } : Jvm.MethodName) prog_3_method_3_code (2 : Nat) (Option.none : Option Jvm.ClassFile.FieldType)) ∈ wt := wt_of 751 (by decide +kernel) rfl
theorem wm_752 : (Jvm.Cond.methodLink "MixBooth" (139 : Nat) ({ cls := "MixBooth$Deck", name := "start", desc := "()Z" } : Jvm.MethodName)) ∈ wt := wt_of 752 (by decide +kernel) rfl
theorem wm_753 : (Jvm.Cond.methodLink "MixBooth" (142 : Nat) ({ cls := "MixBooth$Deck", name := "halt", desc := "()Z" } : Jvm.MethodName)) ∈ wt := wt_of 753 (by decide +kernel) rfl
theorem wm_754 : (Jvm.Cond.methodLink "MixBooth" (145 : Nat) ({ cls := "MixBooth$Deck", name := "takePitch", desc := "(I)I" } : Jvm.MethodName)) ∈ wt := wt_of 754 (by decide +kernel) rfl
theorem wm_755 : (Jvm.Cond.instanceMethod ({ cls := "MixBooth$Deck", name := "takePitch", desc := "(I)I" } : Jvm.MethodName)) ∈ wt := wt_of 755 (by decide +kernel) rfl
theorem wm_756 : (Jvm.Cond.selects "MixBooth$Deck" ({ cls := "MixBooth$Deck", name := "takePitch", desc := "(I)I" } : Jvm.MethodName) ({ cls := "MixBooth$Deck", name := "takePitch", desc := "(I)I" } : Jvm.MethodName)) ∈ wt := wt_of 756 (by decide +kernel) rfl
theorem wm_757 : (Jvm.Cond.code ({ cls := "MixBooth$Deck", name := "takePitch", desc := "(I)I" } : Jvm.MethodName) prog_3_method_7_code (3 : Nat) (Option.some Jvm.ClassFile.FieldType.int)) ∈ wt := wt_of 757 (by decide +kernel) rfl
theorem wm_758 : (Jvm.Cond.methodLink "MixBooth" (148 : Nat) ({ cls := "MixBooth$Deck", name := "push", desc := "(I)I" } : Jvm.MethodName)) ∈ wt := wt_of 758 (by decide +kernel) rfl
theorem wm_759 : (Jvm.Cond.methodLink "MixBooth" (151 : Nat) ({ cls := "MixBooth$Deck", name := "slowDown", desc := "()Z" } : Jvm.MethodName)) ∈ wt := wt_of 759 (by decide +kernel) rfl
theorem wm_760 : (Jvm.Cond.methodLink "MixBooth" (157 : Nat) ({ cls := "MixBooth$Deck", name := "jumpTo", desc := "(I)I" } : Jvm.MethodName)) ∈ wt := wt_of 760 (by decide +kernel) rfl
theorem wm_761 : (Jvm.Cond.instanceMethod ({ cls := "MixBooth$Deck", name := "jumpTo", desc := "(I)I" } : Jvm.MethodName)) ∈ wt := wt_of 761 (by decide +kernel) rfl
theorem wm_762 : (Jvm.Cond.selects "MixBooth$Deck" ({ cls := "MixBooth$Deck", name := "jumpTo", desc := "(I)I" } : Jvm.MethodName) ({ cls := "MixBooth$Deck", name := "jumpTo", desc := "(I)I" } : Jvm.MethodName)) ∈ wt := wt_of 762 (by decide +kernel) rfl
theorem wm_763 : (Jvm.Cond.code ({ cls := "MixBooth$Deck", name := "jumpTo", desc := "(I)I" } : Jvm.MethodName) prog_3_method_12_code (3 : Nat) (Option.some Jvm.ClassFile.FieldType.int)) ∈ wt := wt_of 763 (by decide +kernel) rfl
theorem wm_764 : (Jvm.Cond.methodLink "MixBooth" (160 : Nat) ({ cls := "MixBooth$Deck", name := "mark", desc := "(I)I" } : Jvm.MethodName)) ∈ wt := wt_of 764 (by decide +kernel) rfl
theorem wm_765 : (Jvm.Cond.methodLink "MixBooth" (168 : Nat) ({ cls := "MixBooth$Deck", name := "turnRound", desc := "(I)I" } : Jvm.MethodName)) ∈ wt := wt_of 765 (by decide +kernel) rfl
theorem wm_766 : (Jvm.Cond.methodLink "MixBooth" (171 : Nat) ({ cls := "MixBooth$Deck", name := "leaveLoop", desc := "()Z" } : Jvm.MethodName)) ∈ wt := wt_of 766 (by decide +kernel) rfl
theorem wm_767 : (Jvm.Cond.methodLink "MixBooth" (174 : Nat) ({ cls := "MixBooth$Deck", name := "turnSlip", desc := "(Z)Z" } : Jvm.MethodName)) ∈ wt := wt_of 767 (by decide +kernel) rfl
theorem wm_768 : (Jvm.Cond.methodLink "MixBooth" (201 : Nat) ({ cls := "MixBooth$Channel", name := "slide", desc := "(I)I" } : Jvm.MethodName)) ∈ wt := wt_of 768 (by decide +kernel) rfl
theorem wm_769 : (Jvm.Cond.methodLink "MixBooth" (206 : Nat) ({ cls := "MixBooth$Channel", name := "turnBand", desc := "(II)I" } : Jvm.MethodName)) ∈ wt := wt_of 769 (by decide +kernel) rfl
theorem wm_770 : (Jvm.Cond.instanceMethod ({ cls := "MixBooth$Channel", name := "turnBand", desc := "(II)I" } : Jvm.MethodName)) ∈ wt := wt_of 770 (by decide +kernel) rfl
theorem wm_771 : (Jvm.Cond.selects "MixBooth$Channel" ({ cls := "MixBooth$Channel", name := "turnBand", desc := "(II)I" } : Jvm.MethodName) ({ cls := "MixBooth$Channel", name := "turnBand", desc := "(II)I" } : Jvm.MethodName)) ∈ wt := wt_of 771 (by decide +kernel) rfl
theorem wm_772 : (Jvm.Cond.code ({ cls := "MixBooth$Channel", name := "turnBand", desc := "(II)I" } : Jvm.MethodName) prog_2_method_3_code (4 : Nat) (Option.some Jvm.ClassFile.FieldType.int)) ∈ wt := wt_of 772 (by decide +kernel) rfl
theorem wm_773 : (Jvm.Cond.methodLink "MixBooth" (209 : Nat) ({ cls := "MixBooth$Channel", name := "changeSide", desc := "(C)C" } : Jvm.MethodName)) ∈ wt := wt_of 773 (by decide +kernel) rfl
theorem wm_774 : (Jvm.Cond.instanceMethod ({ cls := "MixBooth$Channel", name := "changeSide", desc := "(C)C" } : Jvm.MethodName)) ∈ wt := wt_of 774 (by decide +kernel) rfl
theorem wm_775 : (Jvm.Cond.selects "MixBooth$Channel" ({ cls := "MixBooth$Channel", name := "changeSide", desc := "(C)C" } : Jvm.MethodName) ({ cls := "MixBooth$Channel", name := "changeSide", desc := "(C)C" } : Jvm.MethodName)) ∈ wt := wt_of 775 (by decide +kernel) rfl
theorem wm_776 : (Jvm.Cond.code ({ cls := "MixBooth$Channel", name := "changeSide", desc := "(C)C" } : Jvm.MethodName) prog_2_method_4_code (3 : Nat) (Option.some Jvm.ClassFile.FieldType.char)) ∈ wt := wt_of 776 (by decide +kernel) rfl
theorem wm_777 : (Jvm.Cond.methodLink "MixBooth" (231 : Nat) ({ cls := "MixBooth$Channel", name := "plugIn", desc := "(CI)I" } : Jvm.MethodName)) ∈ wt := wt_of 777 (by decide +kernel) rfl
theorem wm_778 : (Jvm.Cond.instanceMethod ({ cls := "MixBooth$Channel", name := "plugIn", desc := "(CI)I" } : Jvm.MethodName)) ∈ wt := wt_of 778 (by decide +kernel) rfl
theorem wm_779 : (Jvm.Cond.selects "MixBooth$Channel" ({ cls := "MixBooth$Channel", name := "plugIn", desc := "(CI)I" } : Jvm.MethodName) ({ cls := "MixBooth$Channel", name := "plugIn", desc := "(CI)I" } : Jvm.MethodName)) ∈ wt := wt_of 779 (by decide +kernel) rfl
theorem wm_780 : (Jvm.Cond.code ({ cls := "MixBooth$Channel", name := "plugIn", desc := "(CI)I" } : Jvm.MethodName) prog_2_method_8_code (3 : Nat) (Option.some Jvm.ClassFile.FieldType.int)) ∈ wt := wt_of 780 (by decide +kernel) rfl
theorem wm_781 : (Jvm.Cond.methodLink "MixBooth$Channel" (33 : Nat) ({ cls := "MixBooth$Effect", name := "begin", desc := "(CI)V" } : Jvm.MethodName)) ∈ wt := wt_of 781 (by decide +kernel) rfl
theorem wm_782 : (Jvm.Cond.instanceMethod ({ cls := "MixBooth$Effect", name := "begin", desc := "(CI)V" } : Jvm.MethodName)) ∈ wt := wt_of 782 (by decide +kernel) rfl
theorem wm_783 : (Jvm.Cond.selects "MixBooth$Effect" ({ cls := "MixBooth$Effect", name := "begin", desc := "(CI)V" } : Jvm.MethodName) ({ cls := "MixBooth$Effect", name := "begin", desc := "(CI)V" } : Jvm.MethodName)) ∈ wt := wt_of 783 (by decide +kernel) rfl
theorem wm_784 : (Jvm.Cond.code ({ cls := "MixBooth$Effect", name := "begin", desc := "(CI)V" } : Jvm.MethodName) prog_5_method_2_code (3 : Nat) (Option.none : Option Jvm.ClassFile.FieldType)) ∈ wt := wt_of 784 (by decide +kernel) rfl
theorem wm_785 : (Jvm.Cond.methodLink "MixBooth" (235 : Nat) ({ cls := "MixBooth$Channel", name := "unplug", desc := "()I" } : Jvm.MethodName)) ∈ wt := wt_of 785 (by decide +kernel) rfl
theorem wm_786 : (Jvm.Cond.instanceMethod ({ cls := "MixBooth$Channel", name := "unplug", desc := "()I" } : Jvm.MethodName)) ∈ wt := wt_of 786 (by decide +kernel) rfl
theorem wm_787 : (Jvm.Cond.selects "MixBooth$Channel" ({ cls := "MixBooth$Channel", name := "unplug", desc := "()I" } : Jvm.MethodName) ({ cls := "MixBooth$Channel", name := "unplug", desc := "()I" } : Jvm.MethodName)) ∈ wt := wt_of 787 (by decide +kernel) rfl
theorem wm_788 : (Jvm.Cond.code ({ cls := "MixBooth$Channel", name := "unplug", desc := "()I" } : Jvm.MethodName) prog_2_method_9_code (2 : Nat) (Option.some Jvm.ClassFile.FieldType.int)) ∈ wt := wt_of 788 (by decide +kernel) rfl
theorem wm_789 : (Jvm.Cond.methodLink "MixBooth" (275 : Nat) ({ cls := "MixBooth$Deck", name := "lockTo", desc := "(LMixBooth$Deck;)I" } : Jvm.MethodName)) ∈ wt := wt_of 789 (by decide +kernel) rfl
theorem wm_790 : (Jvm.Cond.instanceMethod ({ cls := "MixBooth$Deck", name := "lockTo", desc := "(LMixBooth$Deck;)I" } : Jvm.MethodName)) ∈ wt := wt_of 790 (by decide +kernel) rfl
theorem wm_791 : (Jvm.Cond.selects "MixBooth$Deck" ({ cls := "MixBooth$Deck", name := "lockTo", desc := "(LMixBooth$Deck;)I" } : Jvm.MethodName) ({ cls := "MixBooth$Deck", name := "lockTo", desc := "(LMixBooth$Deck;)I" } : Jvm.MethodName)) ∈ wt := wt_of 791 (by decide +kernel) rfl
theorem wm_792 : (Jvm.Cond.code ({ cls := "MixBooth$Deck", name := "lockTo", desc := "(LMixBooth$Deck;)I" } : Jvm.MethodName) prog_3_method_28_code (6 : Nat) (Option.some Jvm.ClassFile.FieldType.int)) ∈ wt := wt_of 792 (by decide +kernel) rfl
theorem wm_793 : (Jvm.Cond.methodLink "MixBooth$Deck" (123 : Nat) ({ cls := "MixBooth$Deck", name := "nearestPitch", desc := "(I)I" } : Jvm.MethodName)) ∈ wt := wt_of 793 (by decide +kernel) rfl
theorem wm_794 : (Jvm.Cond.privateMethod ({ cls := "MixBooth$Deck", name := "nearestPitch", desc := "(I)I" } : Jvm.MethodName)) ∈ wt := wt_of 794 (by decide +kernel) rfl
theorem wm_795 : (Jvm.Cond.instanceMethod ({ cls := "MixBooth$Deck", name := "nearestPitch", desc := "(I)I" } : Jvm.MethodName)) ∈ wt := wt_of 795 (by decide +kernel) rfl
theorem wm_796 : (Jvm.Cond.code ({ cls := "MixBooth$Deck", name := "nearestPitch", desc := "(I)I" } : Jvm.MethodName) prog_3_method_29_code (6 : Nat) (Option.some Jvm.ClassFile.FieldType.int)) ∈ wt := wt_of 796 (by decide +kernel) rfl
theorem wm_797 : (Jvm.Cond.methodLink "MixBooth$Deck" (126 : Nat) ({ cls := "MixBooth$Deck", name := "paceOff", desc := "(II)I" } : Jvm.MethodName)) ∈ wt := wt_of 797 (by decide +kernel) rfl
theorem wm_798 : (Jvm.Cond.privateMethod ({ cls := "MixBooth$Deck", name := "paceOff", desc := "(II)I" } : Jvm.MethodName)) ∈ wt := wt_of 798 (by decide +kernel) rfl
theorem wm_799 : (Jvm.Cond.instanceMethod ({ cls := "MixBooth$Deck", name := "paceOff", desc := "(II)I" } : Jvm.MethodName)) ∈ wt := wt_of 799 (by decide +kernel) rfl
theorem wm_800 : (Jvm.Cond.code ({ cls := "MixBooth$Deck", name := "paceOff", desc := "(II)I" } : Jvm.MethodName) prog_3_method_30_code (3 : Nat) (Option.some Jvm.ClassFile.FieldType.int)) ∈ wt := wt_of 800 (by decide +kernel) rfl
theorem wm_801 : (Jvm.Cond.methodLink "MixBooth$Deck" (129 : Nat) ({ cls := "java/lang/Math", name := "abs", desc := "(I)I" } : Jvm.MethodName)) ∈ wt := wt_of 801 (by decide +kernel) rfl
theorem wm_802 : (Jvm.Cond.methodLink "MixBooth$Deck" (118 : Nat) ({ cls := "java/lang/Math", name := "floorMod", desc := "(JJ)J" } : Jvm.MethodName)) ∈ wt := wt_of 802 (by decide +kernel) rfl
theorem wm_803 : (Jvm.Cond.static ({ cls := "java/lang/Math", name := "floorMod", desc := "(JJ)J" } : Jvm.MethodName)) ∈ wt := wt_of 803 (by decide +kernel) rfl
theorem wm_804 : (Jvm.Cond.code ({ cls := "java/lang/Math", name := "floorMod", desc := "(JJ)J" } : Jvm.MethodName) prog_31_method_52_code (6 : Nat) (Option.some Jvm.ClassFile.FieldType.long)) ∈ wt := wt_of 804 (by decide +kernel) rfl
theorem wm_805 : (Jvm.Cond.methodLink "MixBooth" (278 : Nat) ({ cls := "MixBooth$Deck", name := "listenTo", desc := "(LMixBooth$Deck;I)I" } : Jvm.MethodName)) ∈ wt := wt_of 805 (by decide +kernel) rfl
theorem wm_806 : (Jvm.Cond.instanceMethod ({ cls := "MixBooth$Deck", name := "listenTo", desc := "(LMixBooth$Deck;I)I" } : Jvm.MethodName)) ∈ wt := wt_of 806 (by decide +kernel) rfl
theorem wm_807 : (Jvm.Cond.selects "MixBooth$Deck" ({ cls := "MixBooth$Deck", name := "listenTo", desc := "(LMixBooth$Deck;I)I" } : Jvm.MethodName) ({ cls := "MixBooth$Deck", name := "listenTo", desc := "(LMixBooth$Deck;I)I" } : Jvm.MethodName)) ∈ wt := wt_of 807 (by decide +kernel) rfl
theorem wm_808 : (Jvm.Cond.code ({ cls := "MixBooth$Deck", name := "listenTo", desc := "(LMixBooth$Deck;I)I" } : Jvm.MethodName) prog_3_method_31_code (8 : Nat) (Option.some Jvm.ClassFile.FieldType.int)) ∈ wt := wt_of 808 (by decide +kernel) rfl
theorem wm_809 : (Jvm.Cond.methodLink "MixBooth$Deck" (132 : Nat) ({ cls := "MixBooth$Deck", name := "thousandthsFrom", desc := "(LMixBooth$Deck;)I" } : Jvm.MethodName)) ∈ wt := wt_of 809 (by decide +kernel) rfl
theorem wm_810 : (Jvm.Cond.instanceMethod ({ cls := "MixBooth$Deck", name := "thousandthsFrom", desc := "(LMixBooth$Deck;)I" } : Jvm.MethodName)) ∈ wt := wt_of 810 (by decide +kernel) rfl
theorem wm_811 : (Jvm.Cond.selects "MixBooth$Deck" ({ cls := "MixBooth$Deck", name := "thousandthsFrom", desc := "(LMixBooth$Deck;)I" } : Jvm.MethodName) ({ cls := "MixBooth$Deck", name := "thousandthsFrom", desc := "(LMixBooth$Deck;)I" } : Jvm.MethodName)) ∈ wt := wt_of 811 (by decide +kernel) rfl
theorem wm_812 : (Jvm.Cond.code ({ cls := "MixBooth$Deck", name := "thousandthsFrom", desc := "(LMixBooth$Deck;)I" } : Jvm.MethodName) prog_3_method_27_code (3 : Nat) (Option.some Jvm.ClassFile.FieldType.int)) ∈ wt := wt_of 812 (by decide +kernel) rfl
theorem wm_813 : (Jvm.Cond.constantLong "MixBooth$Deck" (121 : Nat) (60000 : Int64)) ∈ wt := wt_of 813 (by decide +kernel) rfl
theorem wm_814 : (Jvm.Cond.constant "MixBooth$Deck" (136 : Nat) (60000 : Int32)) ∈ wt := wt_of 814 (by decide +kernel) rfl
theorem wm_815 : (Jvm.Cond.methodLink "MixBooth$Deck" (85 : Nat) ({ cls := "java/lang/Math", name := "max", desc := "(JJ)J" } : Jvm.MethodName)) ∈ wt := wt_of 815 (by decide +kernel) rfl
theorem wm_816 : (Jvm.Cond.static ({ cls := "java/lang/Math", name := "max", desc := "(JJ)J" } : Jvm.MethodName)) ∈ wt := wt_of 816 (by decide +kernel) rfl
theorem wm_817 : (Jvm.Cond.code ({ cls := "java/lang/Math", name := "max", desc := "(JJ)J" } : Jvm.MethodName) prog_31_method_66_code (4 : Nat) (Option.some Jvm.ClassFile.FieldType.long)) ∈ wt := wt_of 817 (by decide +kernel) rfl
theorem wm_818 : (Jvm.Cond.methodLink "MixBooth" (389 : Nat) ({ cls := "MixBooth$Deck", name := "skipBack", desc := "(I)J" } : Jvm.MethodName)) ∈ wt := wt_of 818 (by decide +kernel) rfl
theorem wm_819 : (Jvm.Cond.instanceMethod ({ cls := "MixBooth$Deck", name := "skipBack", desc := "(I)J" } : Jvm.MethodName)) ∈ wt := wt_of 819 (by decide +kernel) rfl
theorem wm_820 : (Jvm.Cond.selects "MixBooth$Deck" ({ cls := "MixBooth$Deck", name := "skipBack", desc := "(I)J" } : Jvm.MethodName) ({ cls := "MixBooth$Deck", name := "skipBack", desc := "(I)J" } : Jvm.MethodName)) ∈ wt := wt_of 820 (by decide +kernel) rfl
theorem wm_821 : (Jvm.Cond.code ({ cls := "MixBooth$Deck", name := "skipBack", desc := "(I)J" } : Jvm.MethodName) prog_3_method_19_code (2 : Nat) (Option.some Jvm.ClassFile.FieldType.long)) ∈ wt := wt_of 821 (by decide +kernel) rfl
theorem wm_822 : (Jvm.Cond.methodLink "MixBooth" (393 : Nat) ({ cls := "MixBooth$Night", name := "loseDisc", desc := "(LMixBooth$Deck;)I" } : Jvm.MethodName)) ∈ wt := wt_of 822 (by decide +kernel) rfl
theorem wm_823 : (Jvm.Cond.instanceMethod ({ cls := "MixBooth$Night", name := "loseDisc", desc := "(LMixBooth$Deck;)I" } : Jvm.MethodName)) ∈ wt := wt_of 823 (by decide +kernel) rfl
theorem wm_824 : (Jvm.Cond.selects "MixBooth$Night" ({ cls := "MixBooth$Night", name := "loseDisc", desc := "(LMixBooth$Deck;)I" } : Jvm.MethodName) ({ cls := "MixBooth$Night", name := "loseDisc", desc := "(LMixBooth$Deck;)I" } : Jvm.MethodName)) ∈ wt := wt_of 824 (by decide +kernel) rfl
theorem wm_825 : (Jvm.Cond.code ({ cls := "MixBooth$Night", name := "loseDisc", desc := "(LMixBooth$Deck;)I" } : Jvm.MethodName) prog_10_method_13_code (4 : Nat) (Option.some Jvm.ClassFile.FieldType.int)) ∈ wt := wt_of 825 (by decide +kernel) rfl
theorem wm_826 : (Jvm.Cond.methodLink "MixBooth$Night" (144 : Nat) ({ cls := "MixBooth$Deck", name := "takeOff", desc := "()V" } : Jvm.MethodName)) ∈ wt := wt_of 826 (by decide +kernel) rfl
theorem wm_827 : (Jvm.Cond.methodLink "MixBooth$Night" (147 : Nat) ({ cls := "MixBooth$Night", name := "loudestDeck", desc := "()LMixBooth$Deck;" } : Jvm.MethodName)) ∈ wt := wt_of 827 (by decide +kernel) rfl
theorem wm_828 : (Jvm.Cond.instanceMethod ({ cls := "MixBooth$Night", name := "loudestDeck", desc := "()LMixBooth$Deck;" } : Jvm.MethodName)) ∈ wt := wt_of 828 (by decide +kernel) rfl
theorem wm_829 : (Jvm.Cond.selects "MixBooth$Night" ({ cls := "MixBooth$Night", name := "loudestDeck", desc := "()LMixBooth$Deck;" } : Jvm.MethodName) ({ cls := "MixBooth$Night", name := "loudestDeck", desc := "()LMixBooth$Deck;" } : Jvm.MethodName)) ∈ wt := wt_of 829 (by decide +kernel) rfl
theorem wm_830 : (Jvm.Cond.code ({ cls := "MixBooth$Night", name := "loudestDeck", desc := "()LMixBooth$Deck;" } : Jvm.MethodName) prog_10_method_12_code (5 : Nat) (Option.some (Jvm.ClassFile.FieldType.object "MixBooth$Deck"))) ∈ wt := wt_of 830 (by decide +kernel) rfl
theorem wm_831 : (Jvm.Cond.methodLink "MixBooth$Night" (158 : Nat) ({ cls := "MixBooth$Deck", name := "start", desc := "()Z" } : Jvm.MethodName)) ∈ wt := wt_of 831 (by decide +kernel) rfl
theorem wm_832 : (Jvm.Cond.methodLink "MixBoothLaw" (382 : Nat) ({ cls := "MixBooth", name := "isSound", desc := "()Z" } : Jvm.MethodName)) ∈ wt := wt_of 832 (by decide +kernel) rfl
theorem wm_833 : (Jvm.Cond.instanceMethod ({ cls := "MixBooth", name := "isSound", desc := "()Z" } : Jvm.MethodName)) ∈ wt := wt_of 833 (by decide +kernel) rfl
theorem wm_834 : (Jvm.Cond.selects "MixBooth" ({ cls := "MixBooth", name := "isSound", desc := "()Z" } : Jvm.MethodName) ({ cls := "MixBooth", name := "isSound", desc := "()Z" } : Jvm.MethodName)) ∈ wt := wt_of 834 (by decide +kernel) rfl
theorem wm_835 : (Jvm.Cond.code ({ cls := "MixBooth", name := "isSound", desc := "()Z" } : Jvm.MethodName) prog_1_method_59_code (1 : Nat) (Option.some Jvm.ClassFile.FieldType.boolean)) ∈ wt := wt_of 835 (by decide +kernel) rfl
theorem wm_836 : (Jvm.Cond.methodLink "MixBooth" (412 : Nat) ({ cls := "MixBooth$Night", name := "placesAreSound", desc := "()Z" } : Jvm.MethodName)) ∈ wt := wt_of 836 (by decide +kernel) rfl
theorem wm_837 : (Jvm.Cond.instanceMethod ({ cls := "MixBooth$Night", name := "placesAreSound", desc := "()Z" } : Jvm.MethodName)) ∈ wt := wt_of 837 (by decide +kernel) rfl
theorem wm_838 : (Jvm.Cond.selects "MixBooth$Night" ({ cls := "MixBooth$Night", name := "placesAreSound", desc := "()Z" } : Jvm.MethodName) ({ cls := "MixBooth$Night", name := "placesAreSound", desc := "()Z" } : Jvm.MethodName)) ∈ wt := wt_of 838 (by decide +kernel) rfl
theorem wm_839 : (Jvm.Cond.code ({ cls := "MixBooth$Night", name := "placesAreSound", desc := "()Z" } : Jvm.MethodName) prog_10_method_15_code (3 : Nat) (Option.some Jvm.ClassFile.FieldType.boolean)) ∈ wt := wt_of 839 (by decide +kernel) rfl
theorem wm_840 : (Jvm.Cond.methodLink "MixBooth$Night" (172 : Nat) ({ cls := "MixBooth$Disc", name := "lastPlace", desc := "()J" } : Jvm.MethodName)) ∈ wt := wt_of 840 (by decide +kernel) rfl
theorem wm_841 : (Jvm.Cond.methodLink "MixBooth" (415 : Nat) ({ cls := "MixBooth$Floor", name := "isInBounds", desc := "()Z" } : Jvm.MethodName)) ∈ wt := wt_of 841 (by decide +kernel) rfl
theorem wm_842 : (Jvm.Cond.instanceMethod ({ cls := "MixBooth$Floor", name := "isInBounds", desc := "()Z" } : Jvm.MethodName)) ∈ wt := wt_of 842 (by decide +kernel) rfl
theorem wm_843 : (Jvm.Cond.selects "MixBooth$Floor" ({ cls := "MixBooth$Floor", name := "isInBounds", desc := "()Z" } : Jvm.MethodName) ({ cls := "MixBooth$Floor", name := "isInBounds", desc := "()Z" } : Jvm.MethodName)) ∈ wt := wt_of 843 (by decide +kernel) rfl
theorem wm_844 : (Jvm.Cond.code ({ cls := "MixBooth$Floor", name := "isInBounds", desc := "()Z" } : Jvm.MethodName) prog_6_method_5_code (2 : Nat) (Option.some Jvm.ClassFile.FieldType.boolean)) ∈ wt := wt_of 844 (by decide +kernel) rfl
theorem wm_845 : (Jvm.Cond.methodLink "MixBooth" (418 : Nat) ({ cls := "MixBooth", name := "rowsAreSound", desc := "()Z" } : Jvm.MethodName)) ∈ wt := wt_of 845 (by decide +kernel) rfl
theorem wm_846 : (Jvm.Cond.privateMethod ({ cls := "MixBooth", name := "rowsAreSound", desc := "()Z" } : Jvm.MethodName)) ∈ wt := wt_of 846 (by decide +kernel) rfl
theorem wm_847 : (Jvm.Cond.instanceMethod ({ cls := "MixBooth", name := "rowsAreSound", desc := "()Z" } : Jvm.MethodName)) ∈ wt := wt_of 847 (by decide +kernel) rfl
theorem wm_848 : (Jvm.Cond.code ({ cls := "MixBooth", name := "rowsAreSound", desc := "()Z" } : Jvm.MethodName) prog_1_method_70_code (4 : Nat) (Option.some Jvm.ClassFile.FieldType.boolean)) ∈ wt := wt_of 848 (by decide +kernel) rfl
theorem wm_849 : (Jvm.Cond.methodLink "MixBooth" (448 : Nat) ({ cls := "MixBooth$Search", name := "look", desc := "(LMixBooth$Disc;I)Z" } : Jvm.MethodName)) ∈ wt := wt_of 849 (by decide +kernel) rfl
theorem wm_850 : (Jvm.Cond.instanceMethod ({ cls := "MixBooth$Search", name := "look", desc := "(LMixBooth$Disc;I)Z" } : Jvm.MethodName)) ∈ wt := wt_of 850 (by decide +kernel) rfl
theorem wm_851 : (Jvm.Cond.selects "MixBooth$Search" ({ cls := "MixBooth$Search", name := "look", desc := "(LMixBooth$Disc;I)Z" } : Jvm.MethodName) ({ cls := "MixBooth$Search", name := "look", desc := "(LMixBooth$Disc;I)Z" } : Jvm.MethodName)) ∈ wt := wt_of 851 (by decide +kernel) rfl
theorem wm_852 : (Jvm.Cond.code ({ cls := "MixBooth$Search", name := "look", desc := "(LMixBooth$Disc;I)Z" } : Jvm.MethodName) prog_11_method_2_code (3 : Nat) (Option.some Jvm.ClassFile.FieldType.boolean)) ∈ wt := wt_of 852 (by decide +kernel) rfl
theorem wm_853 : (Jvm.Cond.methodLink "MixBooth$Search" (30 : Nat) ({ cls := "MixBooth$Search", name := "wantedDiscs", desc := "()I" } : Jvm.MethodName)) ∈ wt := wt_of 853 (by decide +kernel) rfl
theorem wm_854 : (Jvm.Cond.privateMethod ({ cls := "MixBooth$Search", name := "wantedDiscs", desc := "()I" } : Jvm.MethodName)) ∈ wt := wt_of 854 (by decide +kernel) rfl
theorem wm_855 : (Jvm.Cond.instanceMethod ({ cls := "MixBooth$Search", name := "wantedDiscs", desc := "()I" } : Jvm.MethodName)) ∈ wt := wt_of 855 (by decide +kernel) rfl
theorem wm_856 : (Jvm.Cond.code ({ cls := "MixBooth$Search", name := "wantedDiscs", desc := "()I" } : Jvm.MethodName) prog_11_method_4_code (4 : Nat) (Option.some Jvm.ClassFile.FieldType.int)) ∈ wt := wt_of 856 (by decide +kernel) rfl
theorem wm_857 : (Jvm.Cond.methodLink "MixBooth$Search" (47 : Nat) ({ cls := "MixBooth$Night", name := "discAt", desc := "(I)LMixBooth$Disc;" } : Jvm.MethodName)) ∈ wt := wt_of 857 (by decide +kernel) rfl
theorem wm_858 : (Jvm.Cond.methodLink "MixBooth$Search" (60 : Nat) ({ cls := "MixBooth$Disc", name := "wholeSeconds", desc := "()I" } : Jvm.MethodName)) ∈ wt := wt_of 858 (by decide +kernel) rfl
theorem wm_859 : (Jvm.Cond.instanceMethod ({ cls := "MixBooth$Disc", name := "wholeSeconds", desc := "()I" } : Jvm.MethodName)) ∈ wt := wt_of 859 (by decide +kernel) rfl
theorem wm_860 : (Jvm.Cond.selects "MixBooth$Disc" ({ cls := "MixBooth$Disc", name := "wholeSeconds", desc := "()I" } : Jvm.MethodName) ({ cls := "MixBooth$Disc", name := "wholeSeconds", desc := "()I" } : Jvm.MethodName)) ∈ wt := wt_of 860 (by decide +kernel) rfl
theorem wm_861 : (Jvm.Cond.code ({ cls := "MixBooth$Disc", name := "wholeSeconds", desc := "()I" } : Jvm.MethodName) prog_4_method_11_code (1 : Nat) (Option.some Jvm.ClassFile.FieldType.int)) ∈ wt := wt_of 861 (by decide +kernel) rfl
theorem wm_862 : (Jvm.Cond.methodLink "MixBooth$Search" (63 : Nat) ({ cls := "MixBooth$Night", name := "isOnDeck", desc := "(LMixBooth$Disc;)Z" } : Jvm.MethodName)) ∈ wt := wt_of 862 (by decide +kernel) rfl
theorem wm_863 : (Jvm.Cond.instanceMethod ({ cls := "MixBooth$Night", name := "isOnDeck", desc := "(LMixBooth$Disc;)Z" } : Jvm.MethodName)) ∈ wt := wt_of 863 (by decide +kernel) rfl
theorem wm_864 : (Jvm.Cond.selects "MixBooth$Night" ({ cls := "MixBooth$Night", name := "isOnDeck", desc := "(LMixBooth$Disc;)Z" } : Jvm.MethodName) ({ cls := "MixBooth$Night", name := "isOnDeck", desc := "(LMixBooth$Disc;)Z" } : Jvm.MethodName)) ∈ wt := wt_of 864 (by decide +kernel) rfl
theorem wm_865 : (Jvm.Cond.code ({ cls := "MixBooth$Night", name := "isOnDeck", desc := "(LMixBooth$Disc;)Z" } : Jvm.MethodName) prog_10_method_5_code (3 : Nat) (Option.some Jvm.ClassFile.FieldType.boolean)) ∈ wt := wt_of 865 (by decide +kernel) rfl
theorem wm_866 : (Jvm.Cond.methodLink "MixBooth$Search" (34 : Nat) ({ cls := "MixBooth$Search", name := "lengthen", desc := "(LMixBooth$Search;LMixBooth$Disc;III)V" } : Jvm.MethodName)) ∈ wt := wt_of 866 (by decide +kernel) rfl
theorem wm_867 : (Jvm.Cond.static ({ cls := "MixBooth$Search", name := "lengthen", desc := "(LMixBooth$Search;LMixBooth$Disc;III)V" } : Jvm.MethodName)) ∈ wt := wt_of 867 (by decide +kernel) rfl
theorem wm_868 : (Jvm.Cond.code ({ cls := "MixBooth$Search", name := "lengthen", desc := "(LMixBooth$Search;LMixBooth$Disc;III)V" } : Jvm.MethodName) prog_11_method_3_code (7 : Nat) (Option.none : Option Jvm.ClassFile.FieldType)) ∈ wt := wt_of 868 (by decide +kernel) rfl
theorem wm_869 : (Jvm.Cond.methodLink "MixBooth$Search" (38 : Nat) ({ cls := "MixBooth$Search", name := "keepIfCheaper", desc := "(I)V" } : Jvm.MethodName)) ∈ wt := wt_of 869 (by decide +kernel) rfl
theorem wm_870 : (Jvm.Cond.privateMethod ({ cls := "MixBooth$Search", name := "keepIfCheaper", desc := "(I)V" } : Jvm.MethodName)) ∈ wt := wt_of 870 (by decide +kernel) rfl
theorem wm_871 : (Jvm.Cond.instanceMethod ({ cls := "MixBooth$Search", name := "keepIfCheaper", desc := "(I)V" } : Jvm.MethodName)) ∈ wt := wt_of 871 (by decide +kernel) rfl
theorem wm_872 : (Jvm.Cond.code ({ cls := "MixBooth$Search", name := "keepIfCheaper", desc := "(I)V" } : Jvm.MethodName) prog_11_method_5_code (3 : Nat) (Option.none : Option Jvm.ClassFile.FieldType)) ∈ wt := wt_of 872 (by decide +kernel) rfl
theorem wm_873 : (Jvm.Cond.methodLink "MixBooth$Search" (51 : Nat) ({ cls := "MixBooth$Disc", name := "stepCost", desc := "(LMixBooth$Disc;)I" } : Jvm.MethodName)) ∈ wt := wt_of 873 (by decide +kernel) rfl
theorem wm_874 : (Jvm.Cond.instanceMethod ({ cls := "MixBooth$Disc", name := "stepCost", desc := "(LMixBooth$Disc;)I" } : Jvm.MethodName)) ∈ wt := wt_of 874 (by decide +kernel) rfl
theorem wm_875 : (Jvm.Cond.selects "MixBooth$Disc" ({ cls := "MixBooth$Disc", name := "stepCost", desc := "(LMixBooth$Disc;)I" } : Jvm.MethodName) ({ cls := "MixBooth$Disc", name := "stepCost", desc := "(LMixBooth$Disc;)I" } : Jvm.MethodName)) ∈ wt := wt_of 875 (by decide +kernel) rfl
theorem wm_876 : (Jvm.Cond.code ({ cls := "MixBooth$Disc", name := "stepCost", desc := "(LMixBooth$Disc;)I" } : Jvm.MethodName) prog_4_method_12_code (5 : Nat) (Option.some Jvm.ClassFile.FieldType.int)) ∈ wt := wt_of 876 (by decide +kernel) rfl
theorem wm_877 : (Jvm.Cond.methodLink "MixBooth$Disc" (62 : Nat) ({ cls := "MixBooth$Disc", name := "keysApart", desc := "(II)I" } : Jvm.MethodName)) ∈ wt := wt_of 877 (by decide +kernel) rfl
theorem wm_878 : (Jvm.Cond.methodLink "MixBooth" (454 : Nat) ({ cls := "MixBooth$Search", name := "costOfRow", desc := "(LMixBooth$Disc;)I" } : Jvm.MethodName)) ∈ wt := wt_of 878 (by decide +kernel) rfl
theorem wm_879 : (Jvm.Cond.instanceMethod ({ cls := "MixBooth$Search", name := "costOfRow", desc := "(LMixBooth$Disc;)I" } : Jvm.MethodName)) ∈ wt := wt_of 879 (by decide +kernel) rfl
theorem wm_880 : (Jvm.Cond.selects "MixBooth$Search" ({ cls := "MixBooth$Search", name := "costOfRow", desc := "(LMixBooth$Disc;)I" } : Jvm.MethodName) ({ cls := "MixBooth$Search", name := "costOfRow", desc := "(LMixBooth$Disc;)I" } : Jvm.MethodName)) ∈ wt := wt_of 880 (by decide +kernel) rfl
theorem wm_881 : (Jvm.Cond.code ({ cls := "MixBooth$Search", name := "costOfRow", desc := "(LMixBooth$Disc;)I" } : Jvm.MethodName) prog_11_method_7_code (6 : Nat) (Option.some Jvm.ClassFile.FieldType.int)) ∈ wt := wt_of 881 (by decide +kernel) rfl
theorem wm_882 : (Jvm.Cond.methodLink "MixBoothLaw" (187 : Nat) ({ cls := "MixBoothLaw", name := "addRecord", desc := "(LMixBooth;IIIIIII[J)I" } : Jvm.MethodName)) ∈ wt := wt_of 882 (by decide +kernel) rfl
theorem wm_883 : (Jvm.Cond.static ({ cls := "MixBoothLaw", name := "addRecord", desc := "(LMixBooth;IIIIIII[J)I" } : Jvm.MethodName)) ∈ wt := wt_of 883 (by decide +kernel) rfl
theorem wm_884 : (Jvm.Cond.codeWith ({ cls := "MixBoothLaw", name := "addRecord", desc := "(LMixBooth;IIIIIII[J)I" } : Jvm.MethodName) method_3_code (10 : Nat) (Option.some Jvm.ClassFile.FieldType.int) [((0 : Nat), (20 : Nat), (23 : Nat), (13 : Nat)), ((0 : Nat), (20 : Nat), (27 : Nat), (15 : Nat))]) ∈ wt := wt_of 884 (by decide +kernel) rfl
theorem wm_885 : (Jvm.Cond.classLink "MixBoothLaw" (13 : Nat) "java/lang/IllegalArgumentException") ∈ wt := wt_of 885 (by decide +kernel) rfl
theorem wm_886 : (Jvm.Cond.classLink "MixBoothLaw" (15 : Nat) "java/lang/IllegalStateException") ∈ wt := wt_of 886 (by decide +kernel) rfl
theorem wm_887 : (Jvm.Cond.methodLink "MixBoothLaw" (7 : Nat) ({ cls := "MixBooth", name := "addRecord", desc := "(IIIIIII)I" } : Jvm.MethodName)) ∈ wt := wt_of 887 (by decide +kernel) rfl
theorem wm_888 : (Jvm.Cond.instanceMethod ({ cls := "MixBooth", name := "addRecord", desc := "(IIIIIII)I" } : Jvm.MethodName)) ∈ wt := wt_of 888 (by decide +kernel) rfl
theorem wm_889 : (Jvm.Cond.selects "MixBooth" ({ cls := "MixBooth", name := "addRecord", desc := "(IIIIIII)I" } : Jvm.MethodName) ({ cls := "MixBooth", name := "addRecord", desc := "(IIIIIII)I" } : Jvm.MethodName)) ∈ wt := wt_of 889 (by decide +kernel) rfl
theorem wm_890 : (Jvm.Cond.code ({ cls := "MixBooth", name := "addRecord", desc := "(IIIIIII)I" } : Jvm.MethodName) prog_1_method_2_code (8 : Nat) (Option.some Jvm.ClassFile.FieldType.int)) ∈ wt := wt_of 890 (by decide +kernel) rfl
theorem wm_891 : (Jvm.Cond.methodLink "MixBooth" (42 : Nat) ({ cls := "MixBooth", name := "isTempo", desc := "(I)Z" } : Jvm.MethodName)) ∈ wt := wt_of 891 (by decide +kernel) rfl
theorem wm_892 : (Jvm.Cond.static ({ cls := "MixBooth", name := "isTempo", desc := "(I)Z" } : Jvm.MethodName)) ∈ wt := wt_of 892 (by decide +kernel) rfl
theorem wm_893 : (Jvm.Cond.code ({ cls := "MixBooth", name := "isTempo", desc := "(I)Z" } : Jvm.MethodName) prog_1_method_61_code (1 : Nat) (Option.some Jvm.ClassFile.FieldType.boolean)) ∈ wt := wt_of 893 (by decide +kernel) rfl
theorem wm_894 : (Jvm.Cond.methodLink "MixBooth" (46 : Nat) ({ cls := "MixBooth", name := "isIn", desc := "(III)Z" } : Jvm.MethodName)) ∈ wt := wt_of 894 (by decide +kernel) rfl
theorem wm_895 : (Jvm.Cond.static ({ cls := "MixBooth", name := "isIn", desc := "(III)Z" } : Jvm.MethodName)) ∈ wt := wt_of 895 (by decide +kernel) rfl
theorem wm_896 : (Jvm.Cond.code ({ cls := "MixBooth", name := "isIn", desc := "(III)Z" } : Jvm.MethodName) prog_1_method_60_code (3 : Nat) (Option.some Jvm.ClassFile.FieldType.boolean)) ∈ wt := wt_of 896 (by decide +kernel) rfl
theorem wm_897 : (Jvm.Cond.methodLink "MixBooth" (50 : Nat) ({ cls := "MixBooth", name := "demand", desc := "(Z)V" } : Jvm.MethodName)) ∈ wt := wt_of 897 (by decide +kernel) rfl
theorem wm_898 : (Jvm.Cond.static ({ cls := "MixBooth", name := "demand", desc := "(Z)V" } : Jvm.MethodName)) ∈ wt := wt_of 898 (by decide +kernel) rfl
theorem wm_899 : (Jvm.Cond.code ({ cls := "MixBooth", name := "demand", desc := "(Z)V" } : Jvm.MethodName) prog_1_method_62_code (1 : Nat) (Option.none : Option Jvm.ClassFile.FieldType)) ∈ wt := wt_of 899 (by decide +kernel) rfl
theorem wm_900 : (Jvm.Cond.classLink "MixBooth" (356 : Nat) "java/lang/IllegalArgumentException") ∈ wt := wt_of 900 (by decide +kernel) rfl
theorem wm_901 : (Jvm.Cond.instantiable "java/lang/IllegalArgumentException" (6 : Nat)) ∈ wt := wt_of 901 (by decide +kernel) rfl
theorem wm_902 : (Jvm.Cond.castable "java/lang/IllegalArgumentException" "java/lang/IllegalArgumentException") ∈ wt := wt_of 902 (by decide +kernel) rfl
theorem wm_903 : (Jvm.Cond.declares ({ cls := "java/lang/RuntimeException", name := "<init>", desc := "()V" } : Jvm.MethodName)) ∈ wt := wt_of 903 (by decide +kernel) rfl
theorem wm_904 : (Jvm.Cond.declares ({ cls := "java/lang/RuntimeException", name := "<init>", desc := "(Ljava/lang/String;)V" } : Jvm.MethodName)) ∈ wt := wt_of 904 (by decide +kernel) rfl
theorem wm_905 : (Jvm.Cond.declares ({ cls := "java/lang/Exception", name := "<init>", desc := "()V" } : Jvm.MethodName)) ∈ wt := wt_of 905 (by decide +kernel) rfl
theorem wm_906 : (Jvm.Cond.declares ({ cls := "java/lang/Exception", name := "<init>", desc := "(Ljava/lang/String;)V" } : Jvm.MethodName)) ∈ wt := wt_of 906 (by decide +kernel) rfl
theorem wm_907 : (Jvm.Cond.declares ({ cls := "java/lang/Throwable", name := "<init>", desc := "()V" } : Jvm.MethodName)) ∈ wt := wt_of 907 (by decide +kernel) rfl
theorem wm_908 : (Jvm.Cond.declares ({ cls := "java/lang/Throwable", name := "<init>", desc := "(Ljava/lang/String;)V" } : Jvm.MethodName)) ∈ wt := wt_of 908 (by decide +kernel) rfl
theorem wm_909 : (Jvm.Cond.selects "java/lang/IllegalArgumentException" ({ cls := "java/lang/Throwable", name := "fillInStackTrace", desc := "(I)Ljava/lang/Throwable;" } : Jvm.MethodName) ({ cls := "java/lang/Throwable", name := "fillInStackTrace", desc := "(I)Ljava/lang/Throwable;" } : Jvm.MethodName)) ∈ wt := wt_of 909 (by decide +kernel) rfl
theorem wm_910 : (Jvm.Cond.selects "java/lang/IllegalArgumentException" ({ cls := "java/lang/Throwable", name := "fillInStackTrace", desc := "()Ljava/lang/Throwable;" } : Jvm.MethodName) ({ cls := "java/lang/Throwable", name := "fillInStackTrace", desc := "()Ljava/lang/Throwable;" } : Jvm.MethodName)) ∈ wt := wt_of 910 (by decide +kernel) rfl
theorem wm_911 : (Jvm.Cond.lays "java/lang/IllegalArgumentException" "java/lang/Throwable" "cause" "Ljava/lang/Throwable;") ∈ wt := wt_of 911 (by decide +kernel) rfl
theorem wm_912 : (Jvm.Cond.lays "java/lang/Throwable" "java/lang/Throwable" "cause" "Ljava/lang/Throwable;") ∈ wt := wt_of 912 (by decide +kernel) rfl
theorem wm_913 : (Jvm.Cond.lays "java/lang/IllegalArgumentException" "java/lang/Throwable" "stackTrace" "[Ljava/lang/StackTraceElement;") ∈ wt := wt_of 913 (by decide +kernel) rfl
theorem wm_914 : (Jvm.Cond.lays "java/lang/Throwable" "java/lang/Throwable" "stackTrace" "[Ljava/lang/StackTraceElement;") ∈ wt := wt_of 914 (by decide +kernel) rfl
theorem wm_915 : (Jvm.Cond.lays "java/lang/IllegalArgumentException" "java/lang/Throwable" "suppressedExceptions" "Ljava/util/List;") ∈ wt := wt_of 915 (by decide +kernel) rfl
theorem wm_916 : (Jvm.Cond.lays "java/lang/Throwable" "java/lang/Throwable" "suppressedExceptions" "Ljava/util/List;") ∈ wt := wt_of 916 (by decide +kernel) rfl
theorem wm_917 : (Jvm.Cond.lays "java/lang/IllegalArgumentException" "java/lang/Throwable" "detailMessage" "Ljava/lang/String;") ∈ wt := wt_of 917 (by decide +kernel) rfl
theorem wm_918 : (Jvm.Cond.lays "java/lang/Throwable" "java/lang/Throwable" "detailMessage" "Ljava/lang/String;") ∈ wt := wt_of 918 (by decide +kernel) rfl
theorem wm_919 : (Jvm.Cond.lays "java/lang/IllegalArgumentException" "java/lang/Throwable" "backtrace" "Ljava/lang/Object;") ∈ wt := wt_of 919 (by decide +kernel) rfl
theorem wm_920 : (Jvm.Cond.lays "java/lang/Throwable" "java/lang/Throwable" "backtrace" "Ljava/lang/Object;") ∈ wt := wt_of 920 (by decide +kernel) rfl
theorem wm_921 : (Jvm.Cond.fieldLink "java/lang/Throwable" (198 : Nat) "java/lang/Throwable" "backtrace" "Ljava/lang/Object;") ∈ wt := wt_of 921 (by decide +kernel) rfl
theorem wm_922 : (Jvm.Cond.superclass "java/lang/Throwable" "java/lang/Object") ∈ wt := wt_of 922 (by decide +kernel) rfl
theorem wm_923 : (Jvm.Cond.instanceMethod ({ cls := "java/lang/Throwable", name := "<init>", desc := "()V" } : Jvm.MethodName)) ∈ wt := wt_of 923 (by decide +kernel) rfl
theorem wm_924 : (Jvm.Cond.code ({ cls := "java/lang/Throwable", name := "<init>", desc := "()V" } : Jvm.MethodName) prog_39_method_1_code (1 : Nat) (Option.none : Option Jvm.ClassFile.FieldType)) ∈ wt := wt_of 924 (by decide +kernel) rfl
theorem wm_925 : (Jvm.Cond.methodLink "java/lang/Throwable" (1 : Nat) ({ cls := "java/lang/Object", name := "<init>", desc := "()V" } : Jvm.MethodName)) ∈ wt := wt_of 925 (by decide +kernel) rfl
theorem wm_926 : (Jvm.Cond.fieldLink "java/lang/Throwable" (13 : Nat) "java/lang/Throwable" "UNASSIGNED_STACK" "[Ljava/lang/StackTraceElement;") ∈ wt := wt_of 926 (by decide +kernel) rfl
theorem wm_927 : (Jvm.Cond.laysStatic "java/lang/Throwable" "UNASSIGNED_STACK" "[Ljava/lang/StackTraceElement;") ∈ wt := wt_of 927 (by decide +kernel) rfl
theorem wm_928 : (Jvm.Cond.fieldLink "java/lang/Throwable" (20 : Nat) "java/lang/Throwable" "SUPPRESSED_SENTINEL" "Ljava/util/List;") ∈ wt := wt_of 928 (by decide +kernel) rfl
theorem wm_929 : (Jvm.Cond.laysStatic "java/lang/Throwable" "SUPPRESSED_SENTINEL" "Ljava/util/List;") ∈ wt := wt_of 929 (by decide +kernel) rfl
theorem wm_930 : (Jvm.Cond.methodLink "java/lang/Throwable" (27 : Nat) ({ cls := "java/lang/Throwable", name := "fillInStackTrace", desc := "()Ljava/lang/Throwable;" } : Jvm.MethodName)) ∈ wt := wt_of 930 (by decide +kernel) rfl
theorem wm_931 : (Jvm.Cond.instanceMethod ({ cls := "java/lang/Throwable", name := "fillInStackTrace", desc := "()Ljava/lang/Throwable;" } : Jvm.MethodName)) ∈ wt := wt_of 931 (by decide +kernel) rfl
theorem wm_932 : (Jvm.Cond.sameMethod "java/lang/Throwable" "java/lang/Throwable" "fillInStackTrace" "()Ljava/lang/Throwable;") ∈ wt := wt_of 932 (by decide +kernel) rfl
theorem wm_933 : (Jvm.Cond.selects "java/lang/ArithmeticException" ({ cls := "java/lang/Throwable", name := "fillInStackTrace", desc := "()Ljava/lang/Throwable;" } : Jvm.MethodName) ({ cls := "java/lang/Throwable", name := "fillInStackTrace", desc := "()Ljava/lang/Throwable;" } : Jvm.MethodName)) ∈ wt := wt_of 933 (by decide +kernel) rfl
theorem wm_934 : (Jvm.Cond.selects "java/lang/ArrayIndexOutOfBoundsException" ({ cls := "java/lang/Throwable", name := "fillInStackTrace", desc := "()Ljava/lang/Throwable;" } : Jvm.MethodName) ({ cls := "java/lang/Throwable", name := "fillInStackTrace", desc := "()Ljava/lang/Throwable;" } : Jvm.MethodName)) ∈ wt := wt_of 934 (by decide +kernel) rfl
theorem wm_935 : (Jvm.Cond.selects "java/lang/IllegalStateException" ({ cls := "java/lang/Throwable", name := "fillInStackTrace", desc := "()Ljava/lang/Throwable;" } : Jvm.MethodName) ({ cls := "java/lang/Throwable", name := "fillInStackTrace", desc := "()Ljava/lang/Throwable;" } : Jvm.MethodName)) ∈ wt := wt_of 935 (by decide +kernel) rfl
theorem wm_936 : (Jvm.Cond.selects "java/lang/IndexOutOfBoundsException" ({ cls := "java/lang/Throwable", name := "fillInStackTrace", desc := "()Ljava/lang/Throwable;" } : Jvm.MethodName) ({ cls := "java/lang/Throwable", name := "fillInStackTrace", desc := "()Ljava/lang/Throwable;" } : Jvm.MethodName)) ∈ wt := wt_of 936 (by decide +kernel) rfl
theorem wm_937 : (Jvm.Cond.selects "java/lang/UnsupportedOperationException" ({ cls := "java/lang/Throwable", name := "fillInStackTrace", desc := "()Ljava/lang/Throwable;" } : Jvm.MethodName) ({ cls := "java/lang/Throwable", name := "fillInStackTrace", desc := "()Ljava/lang/Throwable;" } : Jvm.MethodName)) ∈ wt := wt_of 937 (by decide +kernel) rfl
theorem wm_938 : (Jvm.Cond.selects "java/util/NoSuchElementException" ({ cls := "java/lang/Throwable", name := "fillInStackTrace", desc := "()Ljava/lang/Throwable;" } : Jvm.MethodName) ({ cls := "java/lang/Throwable", name := "fillInStackTrace", desc := "()Ljava/lang/Throwable;" } : Jvm.MethodName)) ∈ wt := wt_of 938 (by decide +kernel) rfl
theorem wm_939 : (Jvm.Cond.codeSync ({ cls := "java/lang/Throwable", name := "fillInStackTrace", desc := "()Ljava/lang/Throwable;" } : Jvm.MethodName) prog_39_method_18_code (1 : Nat) (Option.some (Jvm.ClassFile.FieldType.object "java/lang/Throwable"))) ∈ wt := wt_of 939 (by decide +kernel) rfl
theorem wm_940 : (Jvm.Cond.methodLink "java/lang/Throwable" (202 : Nat) ({ cls := "java/lang/Throwable", name := "fillInStackTrace", desc := "(I)Ljava/lang/Throwable;" } : Jvm.MethodName)) ∈ wt := wt_of 940 (by decide +kernel) rfl
theorem wm_941 : (Jvm.Cond.privateMethod ({ cls := "java/lang/Throwable", name := "fillInStackTrace", desc := "(I)Ljava/lang/Throwable;" } : Jvm.MethodName)) ∈ wt := wt_of 941 (by decide +kernel) rfl
theorem wm_942 : (Jvm.Cond.instanceMethod ({ cls := "java/lang/Throwable", name := "fillInStackTrace", desc := "(I)Ljava/lang/Throwable;" } : Jvm.MethodName)) ∈ wt := wt_of 942 (by decide +kernel) rfl
theorem wm_943 : (Jvm.Cond.instantiable "java/lang/Throwable" (6 : Nat)) ∈ wt := wt_of 943 (by decide +kernel) rfl
theorem wm_944 : (Jvm.Cond.native ({ cls := "java/lang/Throwable", name := "fillInStackTrace", desc := "(I)Ljava/lang/Throwable;" } : Jvm.MethodName)) ∈ wt := wt_of 944 (by decide +kernel) rfl
theorem wm_945 : (Jvm.Cond.stringRef "MixBooth" (421 : Nat) "an argument is out of range") ∈ wt := wt_of 945 (by decide +kernel) rfl
theorem wm_946 : (Jvm.Cond.methodLink "MixBooth" (360 : Nat) ({ cls := "java/lang/IllegalArgumentException", name := "<init>", desc := "(Ljava/lang/String;)V" } : Jvm.MethodName)) ∈ wt := wt_of 946 (by decide +kernel) rfl
theorem wm_947 : (Jvm.Cond.instanceMethod ({ cls := "java/lang/IllegalArgumentException", name := "<init>", desc := "(Ljava/lang/String;)V" } : Jvm.MethodName)) ∈ wt := wt_of 947 (by decide +kernel) rfl
theorem wm_948 : (Jvm.Cond.code ({ cls := "java/lang/IllegalArgumentException", name := "<init>", desc := "(Ljava/lang/String;)V" } : Jvm.MethodName) prog_26_method_2_code (2 : Nat) (Option.none : Option Jvm.ClassFile.FieldType)) ∈ wt := wt_of 948 (by decide +kernel) rfl
theorem wm_949 : (Jvm.Cond.methodLink "java/lang/IllegalArgumentException" (7 : Nat) ({ cls := "java/lang/RuntimeException", name := "<init>", desc := "(Ljava/lang/String;)V" } : Jvm.MethodName)) ∈ wt := wt_of 949 (by decide +kernel) rfl
theorem wm_950 : (Jvm.Cond.instanceMethod ({ cls := "java/lang/RuntimeException", name := "<init>", desc := "(Ljava/lang/String;)V" } : Jvm.MethodName)) ∈ wt := wt_of 950 (by decide +kernel) rfl
theorem wm_951 : (Jvm.Cond.code ({ cls := "java/lang/RuntimeException", name := "<init>", desc := "(Ljava/lang/String;)V" } : Jvm.MethodName) prog_33_method_2_code (2 : Nat) (Option.none : Option Jvm.ClassFile.FieldType)) ∈ wt := wt_of 951 (by decide +kernel) rfl
theorem wm_952 : (Jvm.Cond.methodLink "java/lang/RuntimeException" (7 : Nat) ({ cls := "java/lang/Exception", name := "<init>", desc := "(Ljava/lang/String;)V" } : Jvm.MethodName)) ∈ wt := wt_of 952 (by decide +kernel) rfl
theorem wm_953 : (Jvm.Cond.instanceMethod ({ cls := "java/lang/Exception", name := "<init>", desc := "(Ljava/lang/String;)V" } : Jvm.MethodName)) ∈ wt := wt_of 953 (by decide +kernel) rfl
theorem wm_954 : (Jvm.Cond.code ({ cls := "java/lang/Exception", name := "<init>", desc := "(Ljava/lang/String;)V" } : Jvm.MethodName) prog_25_method_2_code (2 : Nat) (Option.none : Option Jvm.ClassFile.FieldType)) ∈ wt := wt_of 954 (by decide +kernel) rfl
theorem wm_955 : (Jvm.Cond.methodLink "java/lang/Exception" (7 : Nat) ({ cls := "java/lang/Throwable", name := "<init>", desc := "(Ljava/lang/String;)V" } : Jvm.MethodName)) ∈ wt := wt_of 955 (by decide +kernel) rfl
theorem wm_956 : (Jvm.Cond.instanceMethod ({ cls := "java/lang/Throwable", name := "<init>", desc := "(Ljava/lang/String;)V" } : Jvm.MethodName)) ∈ wt := wt_of 956 (by decide +kernel) rfl
theorem wm_957 : (Jvm.Cond.code ({ cls := "java/lang/Throwable", name := "<init>", desc := "(Ljava/lang/String;)V" } : Jvm.MethodName) prog_39_method_2_code (2 : Nat) (Option.none : Option Jvm.ClassFile.FieldType)) ∈ wt := wt_of 957 (by decide +kernel) rfl
theorem wm_958 : (Jvm.Cond.fieldLink "java/lang/Throwable" (198 : Nat) "java/lang/Throwable" "backtrace" "Ljava/lang/Object;") ∈ wt := wt_of 958 (by decide +kernel) rfl
theorem wm_959 : (Jvm.Cond.fieldLink "java/lang/Throwable" (31 : Nat) "java/lang/Throwable" "detailMessage" "Ljava/lang/String;") ∈ wt := wt_of 959 (by decide +kernel) rfl
theorem wm_960 : (Jvm.Cond.fieldLink "java/lang/Throwable" (7 : Nat) "java/lang/Throwable" "cause" "Ljava/lang/Throwable;") ∈ wt := wt_of 960 (by decide +kernel) rfl
theorem wm_961 : (Jvm.Cond.fieldLink "java/lang/Throwable" (17 : Nat) "java/lang/Throwable" "stackTrace" "[Ljava/lang/StackTraceElement;") ∈ wt := wt_of 961 (by decide +kernel) rfl
theorem wm_962 : (Jvm.Cond.fieldLink "java/lang/Throwable" (24 : Nat) "java/lang/Throwable" "suppressedExceptions" "Ljava/util/List;") ∈ wt := wt_of 962 (by decide +kernel) rfl
theorem wm_963 : (Jvm.Cond.soleField "java/lang/Throwable" "backtrace") ∈ wt := wt_of 963 (by decide +kernel) rfl
theorem wm_964 : (Jvm.Cond.soleField "java/lang/Throwable" "detailMessage") ∈ wt := wt_of 964 (by decide +kernel) rfl
theorem wm_965 : (Jvm.Cond.soleField "java/lang/Throwable" "cause") ∈ wt := wt_of 965 (by decide +kernel) rfl
theorem wm_966 : (Jvm.Cond.soleField "java/lang/Throwable" "stackTrace") ∈ wt := wt_of 966 (by decide +kernel) rfl
theorem wm_967 : (Jvm.Cond.lays "java/lang/IllegalArgumentException" "java/lang/Throwable" "depth" "I") ∈ wt := wt_of 967 (by decide +kernel) rfl
theorem wm_968 : (Jvm.Cond.soleField "java/lang/Throwable" "depth") ∈ wt := wt_of 968 (by decide +kernel) rfl
theorem wm_969 : (Jvm.Cond.soleField "java/lang/Throwable" "suppressedExceptions") ∈ wt := wt_of 969 (by decide +kernel) rfl
theorem wm_970 : (Jvm.Cond.superclass "java/lang/IllegalArgumentException" "java/lang/RuntimeException") ∈ wt := wt_of 970 (by decide +kernel) rfl
theorem wm_971 : (Jvm.Cond.arrayClass Jvm.ClassFile.FieldType.byte) ∈ wt := wt_of 971 (by decide +kernel) rfl
theorem wm_972 : (Jvm.Cond.constant "MixBooth" (54 : Nat) (65535 : Int32)) ∈ wt := wt_of 972 (by decide +kernel) rfl
theorem wm_973 : (Jvm.Cond.classLink "MixBooth" (63 : Nat) "java/lang/IllegalStateException") ∈ wt := wt_of 973 (by decide +kernel) rfl
theorem wm_974 : (Jvm.Cond.instantiable "java/lang/IllegalStateException" (6 : Nat)) ∈ wt := wt_of 974 (by decide +kernel) rfl
theorem wm_975 : (Jvm.Cond.castable "java/lang/IllegalStateException" "java/lang/IllegalStateException") ∈ wt := wt_of 975 (by decide +kernel) rfl
theorem wm_976 : (Jvm.Cond.selects "java/lang/IllegalStateException" ({ cls := "java/lang/Throwable", name := "fillInStackTrace", desc := "(I)Ljava/lang/Throwable;" } : Jvm.MethodName) ({ cls := "java/lang/Throwable", name := "fillInStackTrace", desc := "(I)Ljava/lang/Throwable;" } : Jvm.MethodName)) ∈ wt := wt_of 976 (by decide +kernel) rfl
theorem wm_977 : (Jvm.Cond.lays "java/lang/IllegalStateException" "java/lang/Throwable" "cause" "Ljava/lang/Throwable;") ∈ wt := wt_of 977 (by decide +kernel) rfl
theorem wm_978 : (Jvm.Cond.lays "java/lang/IllegalStateException" "java/lang/Throwable" "stackTrace" "[Ljava/lang/StackTraceElement;") ∈ wt := wt_of 978 (by decide +kernel) rfl
theorem wm_979 : (Jvm.Cond.lays "java/lang/IllegalStateException" "java/lang/Throwable" "suppressedExceptions" "Ljava/util/List;") ∈ wt := wt_of 979 (by decide +kernel) rfl
theorem wm_980 : (Jvm.Cond.lays "java/lang/IllegalStateException" "java/lang/Throwable" "detailMessage" "Ljava/lang/String;") ∈ wt := wt_of 980 (by decide +kernel) rfl
theorem wm_981 : (Jvm.Cond.lays "java/lang/IllegalStateException" "java/lang/Throwable" "backtrace" "Ljava/lang/Object;") ∈ wt := wt_of 981 (by decide +kernel) rfl
theorem wm_982 : (Jvm.Cond.stringRef "MixBooth" (65 : Nat) "there is no room for another record") ∈ wt := wt_of 982 (by decide +kernel) rfl
theorem wm_983 : (Jvm.Cond.methodLink "MixBooth" (67 : Nat) ({ cls := "java/lang/IllegalStateException", name := "<init>", desc := "(Ljava/lang/String;)V" } : Jvm.MethodName)) ∈ wt := wt_of 983 (by decide +kernel) rfl
theorem wm_984 : (Jvm.Cond.instanceMethod ({ cls := "java/lang/IllegalStateException", name := "<init>", desc := "(Ljava/lang/String;)V" } : Jvm.MethodName)) ∈ wt := wt_of 984 (by decide +kernel) rfl
theorem wm_985 : (Jvm.Cond.code ({ cls := "java/lang/IllegalStateException", name := "<init>", desc := "(Ljava/lang/String;)V" } : Jvm.MethodName) prog_27_method_2_code (2 : Nat) (Option.none : Option Jvm.ClassFile.FieldType)) ∈ wt := wt_of 985 (by decide +kernel) rfl
theorem wm_986 : (Jvm.Cond.methodLink "java/lang/IllegalStateException" (7 : Nat) ({ cls := "java/lang/RuntimeException", name := "<init>", desc := "(Ljava/lang/String;)V" } : Jvm.MethodName)) ∈ wt := wt_of 986 (by decide +kernel) rfl
theorem wm_987 : (Jvm.Cond.lays "java/lang/IllegalStateException" "java/lang/Throwable" "depth" "I") ∈ wt := wt_of 987 (by decide +kernel) rfl
theorem wm_988 : (Jvm.Cond.superclass "java/lang/IllegalStateException" "java/lang/RuntimeException") ∈ wt := wt_of 988 (by decide +kernel) rfl
theorem wm_989 : (Jvm.Cond.methodLink "MixBooth" (70 : Nat) ({ cls := "MixBooth$Log", name := "open", desc := "(I)V" } : Jvm.MethodName)) ∈ wt := wt_of 989 (by decide +kernel) rfl
theorem wm_990 : (Jvm.Cond.instanceMethod ({ cls := "MixBooth$Log", name := "open", desc := "(I)V" } : Jvm.MethodName)) ∈ wt := wt_of 990 (by decide +kernel) rfl
theorem wm_991 : (Jvm.Cond.selects "MixBooth$Log" ({ cls := "MixBooth$Log", name := "open", desc := "(I)V" } : Jvm.MethodName) ({ cls := "MixBooth$Log", name := "open", desc := "(I)V" } : Jvm.MethodName)) ∈ wt := wt_of 991 (by decide +kernel) rfl
theorem wm_992 : (Jvm.Cond.code ({ cls := "MixBooth$Log", name := "open", desc := "(I)V" } : Jvm.MethodName) prog_8_method_2_code (2 : Nat) (Option.none : Option Jvm.ClassFile.FieldType)) ∈ wt := wt_of 992 (by decide +kernel) rfl
theorem wm_993 : (Jvm.Cond.methodLink "MixBooth$Log" (26 : Nat) ({ cls := "MixBooth$Log", name := "put", desc := "(I)V" } : Jvm.MethodName)) ∈ wt := wt_of 993 (by decide +kernel) rfl
theorem wm_994 : (Jvm.Cond.instanceMethod ({ cls := "MixBooth$Log", name := "put", desc := "(I)V" } : Jvm.MethodName)) ∈ wt := wt_of 994 (by decide +kernel) rfl
theorem wm_995 : (Jvm.Cond.selects "MixBooth$Log" ({ cls := "MixBooth$Log", name := "put", desc := "(I)V" } : Jvm.MethodName) ({ cls := "MixBooth$Log", name := "put", desc := "(I)V" } : Jvm.MethodName)) ∈ wt := wt_of 995 (by decide +kernel) rfl
theorem wm_996 : (Jvm.Cond.code ({ cls := "MixBooth$Log", name := "put", desc := "(I)V" } : Jvm.MethodName) prog_8_method_3_code (2 : Nat) (Option.none : Option Jvm.ClassFile.FieldType)) ∈ wt := wt_of 996 (by decide +kernel) rfl
theorem wm_997 : (Jvm.Cond.methodLink "MixBooth" (74 : Nat) ({ cls := "MixBooth$Log", name := "put", desc := "(I)V" } : Jvm.MethodName)) ∈ wt := wt_of 997 (by decide +kernel) rfl
theorem wm_998 : (Jvm.Cond.methodLink "MixBoothLaw" (196 : Nat) ({ cls := "MixBoothLaw", name := "correct", desc := "(LMixBooth;II[J)I" } : Jvm.MethodName)) ∈ wt := wt_of 998 (by decide +kernel) rfl
theorem wm_999 : (Jvm.Cond.static ({ cls := "MixBoothLaw", name := "correct", desc := "(LMixBooth;II[J)I" } : Jvm.MethodName)) ∈ wt := wt_of 999 (by decide +kernel) rfl
theorem wm_1000 : (Jvm.Cond.codeWith ({ cls := "MixBoothLaw", name := "correct", desc := "(LMixBooth;II[J)I" } : Jvm.MethodName) method_4_code (5 : Nat) (Option.some Jvm.ClassFile.FieldType.int) [((0 : Nat), (10 : Nat), (13 : Nat), (21 : Nat)), ((0 : Nat), (10 : Nat), (17 : Nat), (13 : Nat)), ((0 : Nat), (10 : Nat), (21 : Nat), (23 : Nat))]) ∈ wt := wt_of 1000 (by decide +kernel) rfl
theorem wm_1001 : (Jvm.Cond.classLink "MixBoothLaw" (21 : Nat) "java/lang/IndexOutOfBoundsException") ∈ wt := wt_of 1001 (by decide +kernel) rfl
theorem wm_1002 : (Jvm.Cond.instantiable "java/lang/ArrayIndexOutOfBoundsException" (6 : Nat)) ∈ wt := wt_of 1002 (by decide +kernel) rfl
theorem wm_1003 : (Jvm.Cond.instanceMethod ({ cls := "java/lang/ArrayIndexOutOfBoundsException", name := "<init>", desc := "(Ljava/lang/String;)V" } : Jvm.MethodName)) ∈ wt := wt_of 1003 (by decide +kernel) rfl
theorem wm_1004 : (Jvm.Cond.code ({ cls := "java/lang/ArrayIndexOutOfBoundsException", name := "<init>", desc := "(Ljava/lang/String;)V" } : Jvm.MethodName) prog_20_method_2_code (2 : Nat) (Option.none : Option Jvm.ClassFile.FieldType)) ∈ wt := wt_of 1004 (by decide +kernel) rfl
theorem wm_1005 : (Jvm.Cond.methodLink "java/lang/ArrayIndexOutOfBoundsException" (7 : Nat) ({ cls := "java/lang/IndexOutOfBoundsException", name := "<init>", desc := "(Ljava/lang/String;)V" } : Jvm.MethodName)) ∈ wt := wt_of 1005 (by decide +kernel) rfl
theorem wm_1006 : (Jvm.Cond.instanceMethod ({ cls := "java/lang/IndexOutOfBoundsException", name := "<init>", desc := "(Ljava/lang/String;)V" } : Jvm.MethodName)) ∈ wt := wt_of 1006 (by decide +kernel) rfl
theorem wm_1007 : (Jvm.Cond.code ({ cls := "java/lang/IndexOutOfBoundsException", name := "<init>", desc := "(Ljava/lang/String;)V" } : Jvm.MethodName) prog_28_method_2_code (2 : Nat) (Option.none : Option Jvm.ClassFile.FieldType)) ∈ wt := wt_of 1007 (by decide +kernel) rfl
theorem wm_1008 : (Jvm.Cond.methodLink "java/lang/IndexOutOfBoundsException" (7 : Nat) ({ cls := "java/lang/RuntimeException", name := "<init>", desc := "(Ljava/lang/String;)V" } : Jvm.MethodName)) ∈ wt := wt_of 1008 (by decide +kernel) rfl
theorem wm_1009 : (Jvm.Cond.lays "java/lang/ArrayIndexOutOfBoundsException" "java/lang/Throwable" "backtrace" "Ljava/lang/Object;") ∈ wt := wt_of 1009 (by decide +kernel) rfl
theorem wm_1010 : (Jvm.Cond.lays "java/lang/ArrayIndexOutOfBoundsException" "java/lang/Throwable" "detailMessage" "Ljava/lang/String;") ∈ wt := wt_of 1010 (by decide +kernel) rfl
theorem wm_1011 : (Jvm.Cond.lays "java/lang/ArrayIndexOutOfBoundsException" "java/lang/Throwable" "cause" "Ljava/lang/Throwable;") ∈ wt := wt_of 1011 (by decide +kernel) rfl
theorem wm_1012 : (Jvm.Cond.lays "java/lang/ArrayIndexOutOfBoundsException" "java/lang/Throwable" "stackTrace" "[Ljava/lang/StackTraceElement;") ∈ wt := wt_of 1012 (by decide +kernel) rfl
theorem wm_1013 : (Jvm.Cond.lays "java/lang/ArrayIndexOutOfBoundsException" "java/lang/Throwable" "depth" "I") ∈ wt := wt_of 1013 (by decide +kernel) rfl
theorem wm_1014 : (Jvm.Cond.lays "java/lang/ArrayIndexOutOfBoundsException" "java/lang/Throwable" "suppressedExceptions" "Ljava/util/List;") ∈ wt := wt_of 1014 (by decide +kernel) rfl
theorem wm_1015 : (Jvm.Cond.superclass "java/lang/ArrayIndexOutOfBoundsException" "java/lang/IndexOutOfBoundsException") ∈ wt := wt_of 1015 (by decide +kernel) rfl
theorem wm_1016 : (Jvm.Cond.castable "java/lang/ArrayIndexOutOfBoundsException" "java/lang/ArrayIndexOutOfBoundsException") ∈ wt := wt_of 1016 (by decide +kernel) rfl
theorem wm_1017 : (Jvm.Cond.declares ({ cls := "java/lang/IndexOutOfBoundsException", name := "<init>", desc := "()V" } : Jvm.MethodName)) ∈ wt := wt_of 1017 (by decide +kernel) rfl
theorem wm_1018 : (Jvm.Cond.declares ({ cls := "java/lang/IndexOutOfBoundsException", name := "<init>", desc := "(Ljava/lang/String;)V" } : Jvm.MethodName)) ∈ wt := wt_of 1018 (by decide +kernel) rfl
theorem wm_1019 : (Jvm.Cond.selects "java/lang/ArrayIndexOutOfBoundsException" ({ cls := "java/lang/Throwable", name := "fillInStackTrace", desc := "(I)Ljava/lang/Throwable;" } : Jvm.MethodName) ({ cls := "java/lang/Throwable", name := "fillInStackTrace", desc := "(I)Ljava/lang/Throwable;" } : Jvm.MethodName)) ∈ wt := wt_of 1019 (by decide +kernel) rfl
theorem wm_1020 : (Jvm.Cond.instantiable "java/lang/String" (4 : Nat)) ∈ wt := wt_of 1020 (by decide +kernel) rfl
theorem wm_1021 : (Jvm.Cond.laysFinal "java/lang/String" "java/lang/String" "value" "[B") ∈ wt := wt_of 1021 (by decide +kernel) rfl
theorem wm_1022 : (Jvm.Cond.soleField "java/lang/String" "value") ∈ wt := wt_of 1022 (by decide +kernel) rfl
theorem wm_1023 : (Jvm.Cond.laysFinal "java/lang/String" "java/lang/String" "coder" "B") ∈ wt := wt_of 1023 (by decide +kernel) rfl
theorem wm_1024 : (Jvm.Cond.soleField "java/lang/String" "coder") ∈ wt := wt_of 1024 (by decide +kernel) rfl
theorem wm_1025 : (Jvm.Cond.classLink "MixBoothLaw" (23 : Nat) "java/lang/UnsupportedOperationException") ∈ wt := wt_of 1025 (by decide +kernel) rfl
theorem wm_1026 : (Jvm.Cond.methodLink "MixBoothLaw" (17 : Nat) ({ cls := "MixBooth", name := "correct", desc := "(II)I" } : Jvm.MethodName)) ∈ wt := wt_of 1026 (by decide +kernel) rfl
theorem wm_1027 : (Jvm.Cond.instanceMethod ({ cls := "MixBooth", name := "correct", desc := "(II)I" } : Jvm.MethodName)) ∈ wt := wt_of 1027 (by decide +kernel) rfl
theorem wm_1028 : (Jvm.Cond.selects "MixBooth" ({ cls := "MixBooth", name := "correct", desc := "(II)I" } : Jvm.MethodName) ({ cls := "MixBooth", name := "correct", desc := "(II)I" } : Jvm.MethodName)) ∈ wt := wt_of 1028 (by decide +kernel) rfl
theorem wm_1029 : (Jvm.Cond.code ({ cls := "MixBooth", name := "correct", desc := "(II)I" } : Jvm.MethodName) prog_1_method_3_code (4 : Nat) (Option.some Jvm.ClassFile.FieldType.int)) ∈ wt := wt_of 1029 (by decide +kernel) rfl
theorem wm_1030 : (Jvm.Cond.methodLink "MixBooth" (81 : Nat) ({ cls := "MixBooth", name := "discOf", desc := "(I)LMixBooth$Disc;" } : Jvm.MethodName)) ∈ wt := wt_of 1030 (by decide +kernel) rfl
theorem wm_1031 : (Jvm.Cond.privateMethod ({ cls := "MixBooth", name := "discOf", desc := "(I)LMixBooth$Disc;" } : Jvm.MethodName)) ∈ wt := wt_of 1031 (by decide +kernel) rfl
theorem wm_1032 : (Jvm.Cond.instanceMethod ({ cls := "MixBooth", name := "discOf", desc := "(I)LMixBooth$Disc;" } : Jvm.MethodName)) ∈ wt := wt_of 1032 (by decide +kernel) rfl
theorem wm_1033 : (Jvm.Cond.code ({ cls := "MixBooth", name := "discOf", desc := "(I)LMixBooth$Disc;" } : Jvm.MethodName) prog_1_method_68_code (3 : Nat) (Option.some (Jvm.ClassFile.FieldType.object "MixBooth$Disc"))) ∈ wt := wt_of 1033 (by decide +kernel) rfl
theorem wm_1034 : (Jvm.Cond.classLink "MixBooth" (438 : Nat) "java/lang/IndexOutOfBoundsException") ∈ wt := wt_of 1034 (by decide +kernel) rfl
theorem wm_1035 : (Jvm.Cond.instantiable "java/lang/IndexOutOfBoundsException" (6 : Nat)) ∈ wt := wt_of 1035 (by decide +kernel) rfl
theorem wm_1036 : (Jvm.Cond.castable "java/lang/IndexOutOfBoundsException" "java/lang/IndexOutOfBoundsException") ∈ wt := wt_of 1036 (by decide +kernel) rfl
theorem wm_1037 : (Jvm.Cond.selects "java/lang/IndexOutOfBoundsException" ({ cls := "java/lang/Throwable", name := "fillInStackTrace", desc := "(I)Ljava/lang/Throwable;" } : Jvm.MethodName) ({ cls := "java/lang/Throwable", name := "fillInStackTrace", desc := "(I)Ljava/lang/Throwable;" } : Jvm.MethodName)) ∈ wt := wt_of 1037 (by decide +kernel) rfl
theorem wm_1038 : (Jvm.Cond.lays "java/lang/IndexOutOfBoundsException" "java/lang/Throwable" "cause" "Ljava/lang/Throwable;") ∈ wt := wt_of 1038 (by decide +kernel) rfl
theorem wm_1039 : (Jvm.Cond.lays "java/lang/IndexOutOfBoundsException" "java/lang/Throwable" "stackTrace" "[Ljava/lang/StackTraceElement;") ∈ wt := wt_of 1039 (by decide +kernel) rfl
theorem wm_1040 : (Jvm.Cond.lays "java/lang/IndexOutOfBoundsException" "java/lang/Throwable" "suppressedExceptions" "Ljava/util/List;") ∈ wt := wt_of 1040 (by decide +kernel) rfl
theorem wm_1041 : (Jvm.Cond.lays "java/lang/IndexOutOfBoundsException" "java/lang/Throwable" "detailMessage" "Ljava/lang/String;") ∈ wt := wt_of 1041 (by decide +kernel) rfl
theorem wm_1042 : (Jvm.Cond.lays "java/lang/IndexOutOfBoundsException" "java/lang/Throwable" "backtrace" "Ljava/lang/Object;") ∈ wt := wt_of 1042 (by decide +kernel) rfl
theorem wm_1043 : (Jvm.Cond.stringRef "MixBooth" (446 : Nat) "there is no such record") ∈ wt := wt_of 1043 (by decide +kernel) rfl
theorem wm_1044 : (Jvm.Cond.methodLink "MixBooth" (442 : Nat) ({ cls := "java/lang/IndexOutOfBoundsException", name := "<init>", desc := "(Ljava/lang/String;)V" } : Jvm.MethodName)) ∈ wt := wt_of 1044 (by decide +kernel) rfl
theorem wm_1045 : (Jvm.Cond.lays "java/lang/IndexOutOfBoundsException" "java/lang/Throwable" "depth" "I") ∈ wt := wt_of 1045 (by decide +kernel) rfl
theorem wm_1046 : (Jvm.Cond.superclass "java/lang/IndexOutOfBoundsException" "java/lang/RuntimeException") ∈ wt := wt_of 1046 (by decide +kernel) rfl
theorem wm_1047 : (Jvm.Cond.methodLink "MixBooth" (85 : Nat) ({ cls := "MixBooth$Night", name := "isOnDeck", desc := "(LMixBooth$Disc;)Z" } : Jvm.MethodName)) ∈ wt := wt_of 1047 (by decide +kernel) rfl
theorem wm_1048 : (Jvm.Cond.classLink "MixBooth" (89 : Nat) "java/lang/UnsupportedOperationException") ∈ wt := wt_of 1048 (by decide +kernel) rfl
theorem wm_1049 : (Jvm.Cond.instantiable "java/lang/UnsupportedOperationException" (6 : Nat)) ∈ wt := wt_of 1049 (by decide +kernel) rfl
theorem wm_1050 : (Jvm.Cond.castable "java/lang/UnsupportedOperationException" "java/lang/UnsupportedOperationException") ∈ wt := wt_of 1050 (by decide +kernel) rfl
theorem wm_1051 : (Jvm.Cond.selects "java/lang/UnsupportedOperationException" ({ cls := "java/lang/Throwable", name := "fillInStackTrace", desc := "(I)Ljava/lang/Throwable;" } : Jvm.MethodName) ({ cls := "java/lang/Throwable", name := "fillInStackTrace", desc := "(I)Ljava/lang/Throwable;" } : Jvm.MethodName)) ∈ wt := wt_of 1051 (by decide +kernel) rfl
theorem wm_1052 : (Jvm.Cond.lays "java/lang/UnsupportedOperationException" "java/lang/Throwable" "cause" "Ljava/lang/Throwable;") ∈ wt := wt_of 1052 (by decide +kernel) rfl
theorem wm_1053 : (Jvm.Cond.lays "java/lang/UnsupportedOperationException" "java/lang/Throwable" "stackTrace" "[Ljava/lang/StackTraceElement;") ∈ wt := wt_of 1053 (by decide +kernel) rfl
theorem wm_1054 : (Jvm.Cond.lays "java/lang/UnsupportedOperationException" "java/lang/Throwable" "suppressedExceptions" "Ljava/util/List;") ∈ wt := wt_of 1054 (by decide +kernel) rfl
theorem wm_1055 : (Jvm.Cond.lays "java/lang/UnsupportedOperationException" "java/lang/Throwable" "detailMessage" "Ljava/lang/String;") ∈ wt := wt_of 1055 (by decide +kernel) rfl
theorem wm_1056 : (Jvm.Cond.lays "java/lang/UnsupportedOperationException" "java/lang/Throwable" "backtrace" "Ljava/lang/Object;") ∈ wt := wt_of 1056 (by decide +kernel) rfl
theorem wm_1057 : (Jvm.Cond.stringRef "MixBooth" (91 : Nat) "the record is on a deck") ∈ wt := wt_of 1057 (by decide +kernel) rfl
theorem wm_1058 : (Jvm.Cond.methodLink "MixBooth" (93 : Nat) ({ cls := "java/lang/UnsupportedOperationException", name := "<init>", desc := "(Ljava/lang/String;)V" } : Jvm.MethodName)) ∈ wt := wt_of 1058 (by decide +kernel) rfl
theorem wm_1059 : (Jvm.Cond.instanceMethod ({ cls := "java/lang/UnsupportedOperationException", name := "<init>", desc := "(Ljava/lang/String;)V" } : Jvm.MethodName)) ∈ wt := wt_of 1059 (by decide +kernel) rfl
theorem wm_1060 : (Jvm.Cond.code ({ cls := "java/lang/UnsupportedOperationException", name := "<init>", desc := "(Ljava/lang/String;)V" } : Jvm.MethodName) prog_40_method_2_code (2 : Nat) (Option.none : Option Jvm.ClassFile.FieldType)) ∈ wt := wt_of 1060 (by decide +kernel) rfl
theorem wm_1061 : (Jvm.Cond.methodLink "java/lang/UnsupportedOperationException" (7 : Nat) ({ cls := "java/lang/RuntimeException", name := "<init>", desc := "(Ljava/lang/String;)V" } : Jvm.MethodName)) ∈ wt := wt_of 1061 (by decide +kernel) rfl
theorem wm_1062 : (Jvm.Cond.lays "java/lang/UnsupportedOperationException" "java/lang/Throwable" "depth" "I") ∈ wt := wt_of 1062 (by decide +kernel) rfl
theorem wm_1063 : (Jvm.Cond.superclass "java/lang/UnsupportedOperationException" "java/lang/RuntimeException") ∈ wt := wt_of 1063 (by decide +kernel) rfl
theorem wm_1064 : (Jvm.Cond.methodLink "MixBooth" (94 : Nat) ({ cls := "MixBooth$Log", name := "note", desc := "(IIII)V" } : Jvm.MethodName)) ∈ wt := wt_of 1064 (by decide +kernel) rfl
theorem wm_1065 : (Jvm.Cond.instanceMethod ({ cls := "MixBooth$Log", name := "note", desc := "(IIII)V" } : Jvm.MethodName)) ∈ wt := wt_of 1065 (by decide +kernel) rfl
theorem wm_1066 : (Jvm.Cond.selects "MixBooth$Log" ({ cls := "MixBooth$Log", name := "note", desc := "(IIII)V" } : Jvm.MethodName) ({ cls := "MixBooth$Log", name := "note", desc := "(IIII)V" } : Jvm.MethodName)) ∈ wt := wt_of 1066 (by decide +kernel) rfl
theorem wm_1067 : (Jvm.Cond.code ({ cls := "MixBooth$Log", name := "note", desc := "(IIII)V" } : Jvm.MethodName) prog_8_method_4_code (5 : Nat) (Option.none : Option Jvm.ClassFile.FieldType)) ∈ wt := wt_of 1067 (by decide +kernel) rfl
theorem wm_1068 : (Jvm.Cond.methodLink "MixBooth$Log" (30 : Nat) ({ cls := "MixBooth$Log", name := "open", desc := "(I)V" } : Jvm.MethodName)) ∈ wt := wt_of 1068 (by decide +kernel) rfl
theorem wm_1069 : (Jvm.Cond.methodLink "MixBoothLaw" (200 : Nat) ({ cls := "MixBoothLaw", name := "apart", desc := "(LMixBooth;II[J)I" } : Jvm.MethodName)) ∈ wt := wt_of 1069 (by decide +kernel) rfl
theorem wm_1070 : (Jvm.Cond.static ({ cls := "MixBoothLaw", name := "apart", desc := "(LMixBooth;II[J)I" } : Jvm.MethodName)) ∈ wt := wt_of 1070 (by decide +kernel) rfl
theorem wm_1071 : (Jvm.Cond.codeWith ({ cls := "MixBoothLaw", name := "apart", desc := "(LMixBooth;II[J)I" } : Jvm.MethodName) method_5_code (5 : Nat) (Option.some Jvm.ClassFile.FieldType.int) [((0 : Nat), (10 : Nat), (13 : Nat), (21 : Nat))]) ∈ wt := wt_of 1071 (by decide +kernel) rfl
theorem wm_1072 : (Jvm.Cond.methodLink "MixBoothLaw" (25 : Nat) ({ cls := "MixBooth", name := "apart", desc := "(II)I" } : Jvm.MethodName)) ∈ wt := wt_of 1072 (by decide +kernel) rfl
theorem wm_1073 : (Jvm.Cond.instanceMethod ({ cls := "MixBooth", name := "apart", desc := "(II)I" } : Jvm.MethodName)) ∈ wt := wt_of 1073 (by decide +kernel) rfl
theorem wm_1074 : (Jvm.Cond.selects "MixBooth" ({ cls := "MixBooth", name := "apart", desc := "(II)I" } : Jvm.MethodName) ({ cls := "MixBooth", name := "apart", desc := "(II)I" } : Jvm.MethodName)) ∈ wt := wt_of 1074 (by decide +kernel) rfl
theorem wm_1075 : (Jvm.Cond.code ({ cls := "MixBooth", name := "apart", desc := "(II)I" } : Jvm.MethodName) prog_1_method_4_code (4 : Nat) (Option.some Jvm.ClassFile.FieldType.int)) ∈ wt := wt_of 1075 (by decide +kernel) rfl
theorem wm_1076 : (Jvm.Cond.methodLink "MixBooth" (107 : Nat) ({ cls := "MixBooth$Disc", name := "keysApart", desc := "(II)I" } : Jvm.MethodName)) ∈ wt := wt_of 1076 (by decide +kernel) rfl
theorem wm_1077 : (Jvm.Cond.methodLink "MixBoothLaw" (203 : Nat) ({ cls := "MixBoothLaw", name := "ban", desc := "(LMixBooth;IZ[J)I" } : Jvm.MethodName)) ∈ wt := wt_of 1077 (by decide +kernel) rfl
theorem wm_1078 : (Jvm.Cond.static ({ cls := "MixBoothLaw", name := "ban", desc := "(LMixBooth;IZ[J)I" } : Jvm.MethodName)) ∈ wt := wt_of 1078 (by decide +kernel) rfl
theorem wm_1079 : (Jvm.Cond.codeWith ({ cls := "MixBoothLaw", name := "ban", desc := "(LMixBooth;IZ[J)I" } : Jvm.MethodName) method_6_code (5 : Nat) (Option.some Jvm.ClassFile.FieldType.int) [((0 : Nat), (17 : Nat), (20 : Nat), (21 : Nat))]) ∈ wt := wt_of 1079 (by decide +kernel) rfl
theorem wm_1080 : (Jvm.Cond.methodLink "MixBoothLaw" (28 : Nat) ({ cls := "MixBooth", name := "ban", desc := "(IZ)Z" } : Jvm.MethodName)) ∈ wt := wt_of 1080 (by decide +kernel) rfl
theorem wm_1081 : (Jvm.Cond.instanceMethod ({ cls := "MixBooth", name := "ban", desc := "(IZ)Z" } : Jvm.MethodName)) ∈ wt := wt_of 1081 (by decide +kernel) rfl
theorem wm_1082 : (Jvm.Cond.selects "MixBooth" ({ cls := "MixBooth", name := "ban", desc := "(IZ)Z" } : Jvm.MethodName) ({ cls := "MixBooth", name := "ban", desc := "(IZ)Z" } : Jvm.MethodName)) ∈ wt := wt_of 1082 (by decide +kernel) rfl
theorem wm_1083 : (Jvm.Cond.code ({ cls := "MixBooth", name := "ban", desc := "(IZ)Z" } : Jvm.MethodName) prog_1_method_5_code (4 : Nat) (Option.some Jvm.ClassFile.FieldType.boolean)) ∈ wt := wt_of 1083 (by decide +kernel) rfl
theorem wm_1084 : (Jvm.Cond.methodLink "MixBoothLaw" (207 : Nat) ({ cls := "MixBoothLaw", name := "request", desc := "(LMixBooth;I[J)I" } : Jvm.MethodName)) ∈ wt := wt_of 1084 (by decide +kernel) rfl
theorem wm_1085 : (Jvm.Cond.static ({ cls := "MixBoothLaw", name := "request", desc := "(LMixBooth;I[J)I" } : Jvm.MethodName)) ∈ wt := wt_of 1085 (by decide +kernel) rfl
theorem wm_1086 : (Jvm.Cond.codeWith ({ cls := "MixBoothLaw", name := "request", desc := "(LMixBooth;I[J)I" } : Jvm.MethodName) method_7_code (4 : Nat) (Option.some Jvm.ClassFile.FieldType.int) [((0 : Nat), (16 : Nat), (19 : Nat), (21 : Nat))]) ∈ wt := wt_of 1086 (by decide +kernel) rfl
theorem wm_1087 : (Jvm.Cond.methodLink "MixBoothLaw" (32 : Nat) ({ cls := "MixBooth", name := "request", desc := "(I)Z" } : Jvm.MethodName)) ∈ wt := wt_of 1087 (by decide +kernel) rfl
theorem wm_1088 : (Jvm.Cond.instanceMethod ({ cls := "MixBooth", name := "request", desc := "(I)Z" } : Jvm.MethodName)) ∈ wt := wt_of 1088 (by decide +kernel) rfl
theorem wm_1089 : (Jvm.Cond.selects "MixBooth" ({ cls := "MixBooth", name := "request", desc := "(I)Z" } : Jvm.MethodName) ({ cls := "MixBooth", name := "request", desc := "(I)Z" } : Jvm.MethodName)) ∈ wt := wt_of 1089 (by decide +kernel) rfl
theorem wm_1090 : (Jvm.Cond.code ({ cls := "MixBooth", name := "request", desc := "(I)Z" } : Jvm.MethodName) prog_1_method_6_code (3 : Nat) (Option.some Jvm.ClassFile.FieldType.boolean)) ∈ wt := wt_of 1090 (by decide +kernel) rfl
theorem wm_1091 : (Jvm.Cond.methodLink "MixBoothLaw" (211 : Nat) ({ cls := "MixBoothLaw", name := "load", desc := "(LMixBooth;II[J)I" } : Jvm.MethodName)) ∈ wt := wt_of 1091 (by decide +kernel) rfl
theorem wm_1092 : (Jvm.Cond.static ({ cls := "MixBoothLaw", name := "load", desc := "(LMixBooth;II[J)I" } : Jvm.MethodName)) ∈ wt := wt_of 1092 (by decide +kernel) rfl
theorem wm_1093 : (Jvm.Cond.codeWith ({ cls := "MixBoothLaw", name := "load", desc := "(LMixBooth;II[J)I" } : Jvm.MethodName) method_8_code (5 : Nat) (Option.some Jvm.ClassFile.FieldType.int) [((0 : Nat), (10 : Nat), (13 : Nat), (21 : Nat)), ((0 : Nat), (10 : Nat), (17 : Nat), (23 : Nat))]) ∈ wt := wt_of 1093 (by decide +kernel) rfl
theorem wm_1094 : (Jvm.Cond.methodLink "MixBoothLaw" (36 : Nat) ({ cls := "MixBooth", name := "load", desc := "(II)I" } : Jvm.MethodName)) ∈ wt := wt_of 1094 (by decide +kernel) rfl
theorem wm_1095 : (Jvm.Cond.instanceMethod ({ cls := "MixBooth", name := "load", desc := "(II)I" } : Jvm.MethodName)) ∈ wt := wt_of 1095 (by decide +kernel) rfl
theorem wm_1096 : (Jvm.Cond.selects "MixBooth" ({ cls := "MixBooth", name := "load", desc := "(II)I" } : Jvm.MethodName) ({ cls := "MixBooth", name := "load", desc := "(II)I" } : Jvm.MethodName)) ∈ wt := wt_of 1096 (by decide +kernel) rfl
theorem wm_1097 : (Jvm.Cond.code ({ cls := "MixBooth", name := "load", desc := "(II)I" } : Jvm.MethodName) prog_1_method_7_code (5 : Nat) (Option.some Jvm.ClassFile.FieldType.int)) ∈ wt := wt_of 1097 (by decide +kernel) rfl
theorem wm_1098 : (Jvm.Cond.methodLink "MixBooth" (119 : Nat) ({ cls := "MixBooth", name := "deckOf", desc := "(I)LMixBooth$Deck;" } : Jvm.MethodName)) ∈ wt := wt_of 1098 (by decide +kernel) rfl
theorem wm_1099 : (Jvm.Cond.privateMethod ({ cls := "MixBooth", name := "deckOf", desc := "(I)LMixBooth$Deck;" } : Jvm.MethodName)) ∈ wt := wt_of 1099 (by decide +kernel) rfl
theorem wm_1100 : (Jvm.Cond.instanceMethod ({ cls := "MixBooth", name := "deckOf", desc := "(I)LMixBooth$Deck;" } : Jvm.MethodName)) ∈ wt := wt_of 1100 (by decide +kernel) rfl
theorem wm_1101 : (Jvm.Cond.code ({ cls := "MixBooth", name := "deckOf", desc := "(I)LMixBooth$Deck;" } : Jvm.MethodName) prog_1_method_67_code (3 : Nat) (Option.some (Jvm.ClassFile.FieldType.object "MixBooth$Deck"))) ∈ wt := wt_of 1101 (by decide +kernel) rfl
theorem wm_1102 : (Jvm.Cond.stringRef "MixBooth" (440 : Nat) "there is no such deck") ∈ wt := wt_of 1102 (by decide +kernel) rfl
theorem wm_1103 : (Jvm.Cond.stringRef "MixBooth" (129 : Nat) "the deck plays") ∈ wt := wt_of 1103 (by decide +kernel) rfl
theorem wm_1104 : (Jvm.Cond.methodLink "MixBoothLaw" (214 : Nat) ({ cls := "MixBoothLaw", name := "play", desc := "(LMixBooth;I[J)I" } : Jvm.MethodName)) ∈ wt := wt_of 1104 (by decide +kernel) rfl
theorem wm_1105 : (Jvm.Cond.static ({ cls := "MixBoothLaw", name := "play", desc := "(LMixBooth;I[J)I" } : Jvm.MethodName)) ∈ wt := wt_of 1105 (by decide +kernel) rfl
theorem wm_1106 : (Jvm.Cond.codeWith ({ cls := "MixBoothLaw", name := "play", desc := "(LMixBooth;I[J)I" } : Jvm.MethodName) method_9_code (4 : Nat) (Option.some Jvm.ClassFile.FieldType.int) [((0 : Nat), (16 : Nat), (19 : Nat), (21 : Nat)), ((0 : Nat), (16 : Nat), (22 : Nat), (23 : Nat))]) ∈ wt := wt_of 1106 (by decide +kernel) rfl
theorem wm_1107 : (Jvm.Cond.methodLink "MixBoothLaw" (39 : Nat) ({ cls := "MixBooth", name := "play", desc := "(I)Z" } : Jvm.MethodName)) ∈ wt := wt_of 1107 (by decide +kernel) rfl
theorem wm_1108 : (Jvm.Cond.instanceMethod ({ cls := "MixBooth", name := "play", desc := "(I)Z" } : Jvm.MethodName)) ∈ wt := wt_of 1108 (by decide +kernel) rfl
theorem wm_1109 : (Jvm.Cond.selects "MixBooth" ({ cls := "MixBooth", name := "play", desc := "(I)Z" } : Jvm.MethodName) ({ cls := "MixBooth", name := "play", desc := "(I)Z" } : Jvm.MethodName)) ∈ wt := wt_of 1109 (by decide +kernel) rfl
theorem wm_1110 : (Jvm.Cond.code ({ cls := "MixBooth", name := "play", desc := "(I)Z" } : Jvm.MethodName) prog_1_method_8_code (3 : Nat) (Option.some Jvm.ClassFile.FieldType.boolean)) ∈ wt := wt_of 1110 (by decide +kernel) rfl
theorem wm_1111 : (Jvm.Cond.methodLink "MixBooth" (135 : Nat) ({ cls := "MixBooth", name := "demandRecord", desc := "(LMixBooth$Deck;)V" } : Jvm.MethodName)) ∈ wt := wt_of 1111 (by decide +kernel) rfl
theorem wm_1112 : (Jvm.Cond.static ({ cls := "MixBooth", name := "demandRecord", desc := "(LMixBooth$Deck;)V" } : Jvm.MethodName)) ∈ wt := wt_of 1112 (by decide +kernel) rfl
theorem wm_1113 : (Jvm.Cond.code ({ cls := "MixBooth", name := "demandRecord", desc := "(LMixBooth$Deck;)V" } : Jvm.MethodName) prog_1_method_63_code (1 : Nat) (Option.none : Option Jvm.ClassFile.FieldType)) ∈ wt := wt_of 1113 (by decide +kernel) rfl
theorem wm_1114 : (Jvm.Cond.stringRef "MixBooth" (191 : Nat) "the deck is empty") ∈ wt := wt_of 1114 (by decide +kernel) rfl
theorem wm_1115 : (Jvm.Cond.methodLink "MixBoothLaw" (217 : Nat) ({ cls := "MixBoothLaw", name := "stop", desc := "(LMixBooth;I[J)I" } : Jvm.MethodName)) ∈ wt := wt_of 1115 (by decide +kernel) rfl
theorem wm_1116 : (Jvm.Cond.static ({ cls := "MixBoothLaw", name := "stop", desc := "(LMixBooth;I[J)I" } : Jvm.MethodName)) ∈ wt := wt_of 1116 (by decide +kernel) rfl
theorem wm_1117 : (Jvm.Cond.codeWith ({ cls := "MixBoothLaw", name := "stop", desc := "(LMixBooth;I[J)I" } : Jvm.MethodName) method_10_code (4 : Nat) (Option.some Jvm.ClassFile.FieldType.int) [((0 : Nat), (16 : Nat), (19 : Nat), (21 : Nat))]) ∈ wt := wt_of 1117 (by decide +kernel) rfl
theorem wm_1118 : (Jvm.Cond.methodLink "MixBoothLaw" (42 : Nat) ({ cls := "MixBooth", name := "stop", desc := "(I)Z" } : Jvm.MethodName)) ∈ wt := wt_of 1118 (by decide +kernel) rfl
theorem wm_1119 : (Jvm.Cond.instanceMethod ({ cls := "MixBooth", name := "stop", desc := "(I)Z" } : Jvm.MethodName)) ∈ wt := wt_of 1119 (by decide +kernel) rfl
theorem wm_1120 : (Jvm.Cond.selects "MixBooth" ({ cls := "MixBooth", name := "stop", desc := "(I)Z" } : Jvm.MethodName) ({ cls := "MixBooth", name := "stop", desc := "(I)Z" } : Jvm.MethodName)) ∈ wt := wt_of 1120 (by decide +kernel) rfl
theorem wm_1121 : (Jvm.Cond.code ({ cls := "MixBooth", name := "stop", desc := "(I)Z" } : Jvm.MethodName) prog_1_method_9_code (3 : Nat) (Option.some Jvm.ClassFile.FieldType.boolean)) ∈ wt := wt_of 1121 (by decide +kernel) rfl
theorem wm_1122 : (Jvm.Cond.methodLink "MixBoothLaw" (220 : Nat) ({ cls := "MixBoothLaw", name := "setPitch", desc := "(LMixBooth;II[J)I" } : Jvm.MethodName)) ∈ wt := wt_of 1122 (by decide +kernel) rfl
theorem wm_1123 : (Jvm.Cond.static ({ cls := "MixBoothLaw", name := "setPitch", desc := "(LMixBooth;II[J)I" } : Jvm.MethodName)) ∈ wt := wt_of 1123 (by decide +kernel) rfl
theorem wm_1124 : (Jvm.Cond.codeWith ({ cls := "MixBoothLaw", name := "setPitch", desc := "(LMixBooth;II[J)I" } : Jvm.MethodName) method_11_code (5 : Nat) (Option.some Jvm.ClassFile.FieldType.int) [((0 : Nat), (10 : Nat), (13 : Nat), (21 : Nat)), ((0 : Nat), (10 : Nat), (17 : Nat), (13 : Nat))]) ∈ wt := wt_of 1124 (by decide +kernel) rfl
theorem wm_1125 : (Jvm.Cond.methodLink "MixBoothLaw" (45 : Nat) ({ cls := "MixBooth", name := "setPitch", desc := "(II)I" } : Jvm.MethodName)) ∈ wt := wt_of 1125 (by decide +kernel) rfl
theorem wm_1126 : (Jvm.Cond.instanceMethod ({ cls := "MixBooth", name := "setPitch", desc := "(II)I" } : Jvm.MethodName)) ∈ wt := wt_of 1126 (by decide +kernel) rfl
theorem wm_1127 : (Jvm.Cond.selects "MixBooth" ({ cls := "MixBooth", name := "setPitch", desc := "(II)I" } : Jvm.MethodName) ({ cls := "MixBooth", name := "setPitch", desc := "(II)I" } : Jvm.MethodName)) ∈ wt := wt_of 1127 (by decide +kernel) rfl
theorem wm_1128 : (Jvm.Cond.code ({ cls := "MixBooth", name := "setPitch", desc := "(II)I" } : Jvm.MethodName) prog_1_method_10_code (4 : Nat) (Option.some Jvm.ClassFile.FieldType.int)) ∈ wt := wt_of 1128 (by decide +kernel) rfl
theorem wm_1129 : (Jvm.Cond.methodLink "MixBoothLaw" (223 : Nat) ({ cls := "MixBoothLaw", name := "nudge", desc := "(LMixBooth;II[J)I" } : Jvm.MethodName)) ∈ wt := wt_of 1129 (by decide +kernel) rfl
theorem wm_1130 : (Jvm.Cond.static ({ cls := "MixBoothLaw", name := "nudge", desc := "(LMixBooth;II[J)I" } : Jvm.MethodName)) ∈ wt := wt_of 1130 (by decide +kernel) rfl
theorem wm_1131 : (Jvm.Cond.codeWith ({ cls := "MixBoothLaw", name := "nudge", desc := "(LMixBooth;II[J)I" } : Jvm.MethodName) method_12_code (5 : Nat) (Option.some Jvm.ClassFile.FieldType.int) [((0 : Nat), (10 : Nat), (13 : Nat), (21 : Nat)), ((0 : Nat), (10 : Nat), (17 : Nat), (13 : Nat)), ((0 : Nat), (10 : Nat), (21 : Nat), (23 : Nat))]) ∈ wt := wt_of 1131 (by decide +kernel) rfl
theorem wm_1132 : (Jvm.Cond.methodLink "MixBoothLaw" (48 : Nat) ({ cls := "MixBooth", name := "nudge", desc := "(II)I" } : Jvm.MethodName)) ∈ wt := wt_of 1132 (by decide +kernel) rfl
theorem wm_1133 : (Jvm.Cond.instanceMethod ({ cls := "MixBooth", name := "nudge", desc := "(II)I" } : Jvm.MethodName)) ∈ wt := wt_of 1133 (by decide +kernel) rfl
theorem wm_1134 : (Jvm.Cond.selects "MixBooth" ({ cls := "MixBooth", name := "nudge", desc := "(II)I" } : Jvm.MethodName) ({ cls := "MixBooth", name := "nudge", desc := "(II)I" } : Jvm.MethodName)) ∈ wt := wt_of 1134 (by decide +kernel) rfl
theorem wm_1135 : (Jvm.Cond.code ({ cls := "MixBooth", name := "nudge", desc := "(II)I" } : Jvm.MethodName) prog_1_method_11_code (4 : Nat) (Option.some Jvm.ClassFile.FieldType.int)) ∈ wt := wt_of 1135 (by decide +kernel) rfl
theorem wm_1136 : (Jvm.Cond.methodLink "MixBoothLaw" (226 : Nat) ({ cls := "MixBoothLaw", name := "brake", desc := "(LMixBooth;I[J)I" } : Jvm.MethodName)) ∈ wt := wt_of 1136 (by decide +kernel) rfl
theorem wm_1137 : (Jvm.Cond.static ({ cls := "MixBoothLaw", name := "brake", desc := "(LMixBooth;I[J)I" } : Jvm.MethodName)) ∈ wt := wt_of 1137 (by decide +kernel) rfl
theorem wm_1138 : (Jvm.Cond.codeWith ({ cls := "MixBoothLaw", name := "brake", desc := "(LMixBooth;I[J)I" } : Jvm.MethodName) method_13_code (4 : Nat) (Option.some Jvm.ClassFile.FieldType.int) [((0 : Nat), (16 : Nat), (19 : Nat), (21 : Nat)), ((0 : Nat), (16 : Nat), (22 : Nat), (23 : Nat))]) ∈ wt := wt_of 1138 (by decide +kernel) rfl
theorem wm_1139 : (Jvm.Cond.methodLink "MixBoothLaw" (51 : Nat) ({ cls := "MixBooth", name := "brake", desc := "(I)Z" } : Jvm.MethodName)) ∈ wt := wt_of 1139 (by decide +kernel) rfl
theorem wm_1140 : (Jvm.Cond.instanceMethod ({ cls := "MixBooth", name := "brake", desc := "(I)Z" } : Jvm.MethodName)) ∈ wt := wt_of 1140 (by decide +kernel) rfl
theorem wm_1141 : (Jvm.Cond.selects "MixBooth" ({ cls := "MixBooth", name := "brake", desc := "(I)Z" } : Jvm.MethodName) ({ cls := "MixBooth", name := "brake", desc := "(I)Z" } : Jvm.MethodName)) ∈ wt := wt_of 1141 (by decide +kernel) rfl
theorem wm_1142 : (Jvm.Cond.code ({ cls := "MixBooth", name := "brake", desc := "(I)Z" } : Jvm.MethodName) prog_1_method_12_code (3 : Nat) (Option.some Jvm.ClassFile.FieldType.boolean)) ∈ wt := wt_of 1142 (by decide +kernel) rfl
theorem wm_1143 : (Jvm.Cond.methodLink "MixBoothLaw" (229 : Nat) ({ cls := "MixBoothLaw", name := "jump", desc := "(LMixBooth;II[J)I" } : Jvm.MethodName)) ∈ wt := wt_of 1143 (by decide +kernel) rfl
theorem wm_1144 : (Jvm.Cond.static ({ cls := "MixBoothLaw", name := "jump", desc := "(LMixBooth;II[J)I" } : Jvm.MethodName)) ∈ wt := wt_of 1144 (by decide +kernel) rfl
theorem wm_1145 : (Jvm.Cond.codeWith ({ cls := "MixBoothLaw", name := "jump", desc := "(LMixBooth;II[J)I" } : Jvm.MethodName) method_14_code (5 : Nat) (Option.some Jvm.ClassFile.FieldType.int) [((0 : Nat), (10 : Nat), (13 : Nat), (21 : Nat)), ((0 : Nat), (10 : Nat), (17 : Nat), (23 : Nat)), ((0 : Nat), (10 : Nat), (21 : Nat), (13 : Nat))]) ∈ wt := wt_of 1145 (by decide +kernel) rfl
theorem wm_1146 : (Jvm.Cond.methodLink "MixBoothLaw" (54 : Nat) ({ cls := "MixBooth", name := "jump", desc := "(II)I" } : Jvm.MethodName)) ∈ wt := wt_of 1146 (by decide +kernel) rfl
theorem wm_1147 : (Jvm.Cond.instanceMethod ({ cls := "MixBooth", name := "jump", desc := "(II)I" } : Jvm.MethodName)) ∈ wt := wt_of 1147 (by decide +kernel) rfl
theorem wm_1148 : (Jvm.Cond.selects "MixBooth" ({ cls := "MixBooth", name := "jump", desc := "(II)I" } : Jvm.MethodName) ({ cls := "MixBooth", name := "jump", desc := "(II)I" } : Jvm.MethodName)) ∈ wt := wt_of 1148 (by decide +kernel) rfl
theorem wm_1149 : (Jvm.Cond.code ({ cls := "MixBooth", name := "jump", desc := "(II)I" } : Jvm.MethodName) prog_1_method_13_code (4 : Nat) (Option.some Jvm.ClassFile.FieldType.int)) ∈ wt := wt_of 1149 (by decide +kernel) rfl
theorem wm_1150 : (Jvm.Cond.methodLink "MixBooth" (154 : Nat) ({ cls := "MixBooth$Deck", name := "hasBeat", desc := "(I)Z" } : Jvm.MethodName)) ∈ wt := wt_of 1150 (by decide +kernel) rfl
theorem wm_1151 : (Jvm.Cond.instanceMethod ({ cls := "MixBooth$Deck", name := "hasBeat", desc := "(I)Z" } : Jvm.MethodName)) ∈ wt := wt_of 1151 (by decide +kernel) rfl
theorem wm_1152 : (Jvm.Cond.selects "MixBooth$Deck" ({ cls := "MixBooth$Deck", name := "hasBeat", desc := "(I)Z" } : Jvm.MethodName) ({ cls := "MixBooth$Deck", name := "hasBeat", desc := "(I)Z" } : Jvm.MethodName)) ∈ wt := wt_of 1152 (by decide +kernel) rfl
theorem wm_1153 : (Jvm.Cond.code ({ cls := "MixBooth$Deck", name := "hasBeat", desc := "(I)Z" } : Jvm.MethodName) prog_3_method_11_code (2 : Nat) (Option.some Jvm.ClassFile.FieldType.boolean)) ∈ wt := wt_of 1153 (by decide +kernel) rfl
theorem wm_1154 : (Jvm.Cond.methodLink "MixBoothLaw" (232 : Nat) ({ cls := "MixBoothLaw", name := "setCue", desc := "(LMixBooth;II[J)I" } : Jvm.MethodName)) ∈ wt := wt_of 1154 (by decide +kernel) rfl
theorem wm_1155 : (Jvm.Cond.static ({ cls := "MixBoothLaw", name := "setCue", desc := "(LMixBooth;II[J)I" } : Jvm.MethodName)) ∈ wt := wt_of 1155 (by decide +kernel) rfl
theorem wm_1156 : (Jvm.Cond.codeWith ({ cls := "MixBoothLaw", name := "setCue", desc := "(LMixBooth;II[J)I" } : Jvm.MethodName) method_15_code (5 : Nat) (Option.some Jvm.ClassFile.FieldType.int) [((0 : Nat), (10 : Nat), (13 : Nat), (21 : Nat)), ((0 : Nat), (10 : Nat), (17 : Nat), (13 : Nat)), ((0 : Nat), (10 : Nat), (21 : Nat), (23 : Nat))]) ∈ wt := wt_of 1156 (by decide +kernel) rfl
theorem wm_1157 : (Jvm.Cond.methodLink "MixBoothLaw" (57 : Nat) ({ cls := "MixBooth", name := "setCue", desc := "(II)I" } : Jvm.MethodName)) ∈ wt := wt_of 1157 (by decide +kernel) rfl
theorem wm_1158 : (Jvm.Cond.instanceMethod ({ cls := "MixBooth", name := "setCue", desc := "(II)I" } : Jvm.MethodName)) ∈ wt := wt_of 1158 (by decide +kernel) rfl
theorem wm_1159 : (Jvm.Cond.selects "MixBooth" ({ cls := "MixBooth", name := "setCue", desc := "(II)I" } : Jvm.MethodName) ({ cls := "MixBooth", name := "setCue", desc := "(II)I" } : Jvm.MethodName)) ∈ wt := wt_of 1159 (by decide +kernel) rfl
theorem wm_1160 : (Jvm.Cond.code ({ cls := "MixBooth", name := "setCue", desc := "(II)I" } : Jvm.MethodName) prog_1_method_14_code (4 : Nat) (Option.some Jvm.ClassFile.FieldType.int)) ∈ wt := wt_of 1160 (by decide +kernel) rfl
theorem wm_1161 : (Jvm.Cond.methodLink "MixBoothLaw" (235 : Nat) ({ cls := "MixBoothLaw", name := "loop", desc := "(LMixBooth;II[J)I" } : Jvm.MethodName)) ∈ wt := wt_of 1161 (by decide +kernel) rfl
theorem wm_1162 : (Jvm.Cond.static ({ cls := "MixBoothLaw", name := "loop", desc := "(LMixBooth;II[J)I" } : Jvm.MethodName)) ∈ wt := wt_of 1162 (by decide +kernel) rfl
theorem wm_1163 : (Jvm.Cond.codeWith ({ cls := "MixBoothLaw", name := "loop", desc := "(LMixBooth;II[J)I" } : Jvm.MethodName) method_16_code (5 : Nat) (Option.some Jvm.ClassFile.FieldType.int) [((0 : Nat), (10 : Nat), (13 : Nat), (21 : Nat)), ((0 : Nat), (10 : Nat), (17 : Nat), (13 : Nat)), ((0 : Nat), (10 : Nat), (21 : Nat), (23 : Nat)), ((0 : Nat), (10 : Nat), (25 : Nat), (15 : Nat))]) ∈ wt := wt_of 1163 (by decide +kernel) rfl
theorem wm_1164 : (Jvm.Cond.methodLink "MixBoothLaw" (60 : Nat) ({ cls := "MixBooth", name := "loop", desc := "(II)I" } : Jvm.MethodName)) ∈ wt := wt_of 1164 (by decide +kernel) rfl
theorem wm_1165 : (Jvm.Cond.instanceMethod ({ cls := "MixBooth", name := "loop", desc := "(II)I" } : Jvm.MethodName)) ∈ wt := wt_of 1165 (by decide +kernel) rfl
theorem wm_1166 : (Jvm.Cond.selects "MixBooth" ({ cls := "MixBooth", name := "loop", desc := "(II)I" } : Jvm.MethodName) ({ cls := "MixBooth", name := "loop", desc := "(II)I" } : Jvm.MethodName)) ∈ wt := wt_of 1166 (by decide +kernel) rfl
theorem wm_1167 : (Jvm.Cond.code ({ cls := "MixBooth", name := "loop", desc := "(II)I" } : Jvm.MethodName) prog_1_method_15_code (4 : Nat) (Option.some Jvm.ClassFile.FieldType.int)) ∈ wt := wt_of 1167 (by decide +kernel) rfl
theorem wm_1168 : (Jvm.Cond.methodLink "MixBooth" (163 : Nat) ({ cls := "MixBooth$Deck", name := "hasRoomFor", desc := "(I)Z" } : Jvm.MethodName)) ∈ wt := wt_of 1168 (by decide +kernel) rfl
theorem wm_1169 : (Jvm.Cond.stringRef "MixBooth" (166 : Nat) "the loop goes beyond the record") ∈ wt := wt_of 1169 (by decide +kernel) rfl
theorem wm_1170 : (Jvm.Cond.methodLink "MixBoothLaw" (238 : Nat) ({ cls := "MixBoothLaw", name := "out", desc := "(LMixBooth;I[J)I" } : Jvm.MethodName)) ∈ wt := wt_of 1170 (by decide +kernel) rfl
theorem wm_1171 : (Jvm.Cond.static ({ cls := "MixBoothLaw", name := "out", desc := "(LMixBooth;I[J)I" } : Jvm.MethodName)) ∈ wt := wt_of 1171 (by decide +kernel) rfl
theorem wm_1172 : (Jvm.Cond.codeWith ({ cls := "MixBoothLaw", name := "out", desc := "(LMixBooth;I[J)I" } : Jvm.MethodName) method_17_code (4 : Nat) (Option.some Jvm.ClassFile.FieldType.int) [((0 : Nat), (16 : Nat), (19 : Nat), (21 : Nat))]) ∈ wt := wt_of 1172 (by decide +kernel) rfl
theorem wm_1173 : (Jvm.Cond.methodLink "MixBoothLaw" (63 : Nat) ({ cls := "MixBooth", name := "out", desc := "(I)Z" } : Jvm.MethodName)) ∈ wt := wt_of 1173 (by decide +kernel) rfl
theorem wm_1174 : (Jvm.Cond.instanceMethod ({ cls := "MixBooth", name := "out", desc := "(I)Z" } : Jvm.MethodName)) ∈ wt := wt_of 1174 (by decide +kernel) rfl
theorem wm_1175 : (Jvm.Cond.selects "MixBooth" ({ cls := "MixBooth", name := "out", desc := "(I)Z" } : Jvm.MethodName) ({ cls := "MixBooth", name := "out", desc := "(I)Z" } : Jvm.MethodName)) ∈ wt := wt_of 1175 (by decide +kernel) rfl
theorem wm_1176 : (Jvm.Cond.code ({ cls := "MixBooth", name := "out", desc := "(I)Z" } : Jvm.MethodName) prog_1_method_16_code (3 : Nat) (Option.some Jvm.ClassFile.FieldType.boolean)) ∈ wt := wt_of 1176 (by decide +kernel) rfl
theorem wm_1177 : (Jvm.Cond.methodLink "MixBoothLaw" (241 : Nat) ({ cls := "MixBoothLaw", name := "slip", desc := "(LMixBooth;IZ[J)I" } : Jvm.MethodName)) ∈ wt := wt_of 1177 (by decide +kernel) rfl
theorem wm_1178 : (Jvm.Cond.static ({ cls := "MixBoothLaw", name := "slip", desc := "(LMixBooth;IZ[J)I" } : Jvm.MethodName)) ∈ wt := wt_of 1178 (by decide +kernel) rfl
theorem wm_1179 : (Jvm.Cond.codeWith ({ cls := "MixBoothLaw", name := "slip", desc := "(LMixBooth;IZ[J)I" } : Jvm.MethodName) method_18_code (5 : Nat) (Option.some Jvm.ClassFile.FieldType.int) [((0 : Nat), (17 : Nat), (20 : Nat), (21 : Nat)), ((0 : Nat), (17 : Nat), (24 : Nat), (23 : Nat))]) ∈ wt := wt_of 1179 (by decide +kernel) rfl
theorem wm_1180 : (Jvm.Cond.methodLink "MixBoothLaw" (66 : Nat) ({ cls := "MixBooth", name := "slip", desc := "(IZ)Z" } : Jvm.MethodName)) ∈ wt := wt_of 1180 (by decide +kernel) rfl
theorem wm_1181 : (Jvm.Cond.instanceMethod ({ cls := "MixBooth", name := "slip", desc := "(IZ)Z" } : Jvm.MethodName)) ∈ wt := wt_of 1181 (by decide +kernel) rfl
theorem wm_1182 : (Jvm.Cond.selects "MixBooth" ({ cls := "MixBooth", name := "slip", desc := "(IZ)Z" } : Jvm.MethodName) ({ cls := "MixBooth", name := "slip", desc := "(IZ)Z" } : Jvm.MethodName)) ∈ wt := wt_of 1182 (by decide +kernel) rfl
theorem wm_1183 : (Jvm.Cond.code ({ cls := "MixBooth", name := "slip", desc := "(IZ)Z" } : Jvm.MethodName) prog_1_method_17_code (4 : Nat) (Option.some Jvm.ClassFile.FieldType.boolean)) ∈ wt := wt_of 1183 (by decide +kernel) rfl
theorem wm_1184 : (Jvm.Cond.methodLink "MixBoothLaw" (244 : Nat) ({ cls := "MixBoothLaw", name := "place", desc := "(LMixBooth;I[J)I" } : Jvm.MethodName)) ∈ wt := wt_of 1184 (by decide +kernel) rfl
theorem wm_1185 : (Jvm.Cond.static ({ cls := "MixBoothLaw", name := "place", desc := "(LMixBooth;I[J)I" } : Jvm.MethodName)) ∈ wt := wt_of 1185 (by decide +kernel) rfl
theorem wm_1186 : (Jvm.Cond.codeWith ({ cls := "MixBoothLaw", name := "place", desc := "(LMixBooth;I[J)I" } : Jvm.MethodName) method_19_code (4 : Nat) (Option.some Jvm.ClassFile.FieldType.int) [((0 : Nat), (8 : Nat), (11 : Nat), (21 : Nat)), ((0 : Nat), (8 : Nat), (14 : Nat), (23 : Nat))]) ∈ wt := wt_of 1186 (by decide +kernel) rfl
theorem wm_1187 : (Jvm.Cond.methodLink "MixBoothLaw" (69 : Nat) ({ cls := "MixBooth", name := "place", desc := "(I)J" } : Jvm.MethodName)) ∈ wt := wt_of 1187 (by decide +kernel) rfl
theorem wm_1188 : (Jvm.Cond.instanceMethod ({ cls := "MixBooth", name := "place", desc := "(I)J" } : Jvm.MethodName)) ∈ wt := wt_of 1188 (by decide +kernel) rfl
theorem wm_1189 : (Jvm.Cond.selects "MixBooth" ({ cls := "MixBooth", name := "place", desc := "(I)J" } : Jvm.MethodName) ({ cls := "MixBooth", name := "place", desc := "(I)J" } : Jvm.MethodName)) ∈ wt := wt_of 1189 (by decide +kernel) rfl
theorem wm_1190 : (Jvm.Cond.code ({ cls := "MixBooth", name := "place", desc := "(I)J" } : Jvm.MethodName) prog_1_method_18_code (3 : Nat) (Option.some Jvm.ClassFile.FieldType.long)) ∈ wt := wt_of 1190 (by decide +kernel) rfl
theorem wm_1191 : (Jvm.Cond.methodLink "MixBoothLaw" (247 : Nat) ({ cls := "MixBoothLaw", name := "tempo", desc := "(LMixBooth;I[J)I" } : Jvm.MethodName)) ∈ wt := wt_of 1191 (by decide +kernel) rfl
theorem wm_1192 : (Jvm.Cond.static ({ cls := "MixBoothLaw", name := "tempo", desc := "(LMixBooth;I[J)I" } : Jvm.MethodName)) ∈ wt := wt_of 1192 (by decide +kernel) rfl
theorem wm_1193 : (Jvm.Cond.codeWith ({ cls := "MixBoothLaw", name := "tempo", desc := "(LMixBooth;I[J)I" } : Jvm.MethodName) method_20_code (4 : Nat) (Option.some Jvm.ClassFile.FieldType.int) [((0 : Nat), (9 : Nat), (12 : Nat), (21 : Nat)), ((0 : Nat), (9 : Nat), (15 : Nat), (23 : Nat))]) ∈ wt := wt_of 1193 (by decide +kernel) rfl
theorem wm_1194 : (Jvm.Cond.methodLink "MixBoothLaw" (73 : Nat) ({ cls := "MixBooth", name := "tempo", desc := "(I)I" } : Jvm.MethodName)) ∈ wt := wt_of 1194 (by decide +kernel) rfl
theorem wm_1195 : (Jvm.Cond.instanceMethod ({ cls := "MixBooth", name := "tempo", desc := "(I)I" } : Jvm.MethodName)) ∈ wt := wt_of 1195 (by decide +kernel) rfl
theorem wm_1196 : (Jvm.Cond.selects "MixBooth" ({ cls := "MixBooth", name := "tempo", desc := "(I)I" } : Jvm.MethodName) ({ cls := "MixBooth", name := "tempo", desc := "(I)I" } : Jvm.MethodName)) ∈ wt := wt_of 1196 (by decide +kernel) rfl
theorem wm_1197 : (Jvm.Cond.code ({ cls := "MixBooth", name := "tempo", desc := "(I)I" } : Jvm.MethodName) prog_1_method_19_code (3 : Nat) (Option.some Jvm.ClassFile.FieldType.int)) ∈ wt := wt_of 1197 (by decide +kernel) rfl
theorem wm_1198 : (Jvm.Cond.methodLink "MixBooth" (181 : Nat) ({ cls := "MixBooth$Deck", name := "pace", desc := "()I" } : Jvm.MethodName)) ∈ wt := wt_of 1198 (by decide +kernel) rfl
theorem wm_1199 : (Jvm.Cond.methodLink "MixBoothLaw" (250 : Nat) ({ cls := "MixBoothLaw", name := "plays", desc := "(LMixBooth;I[J)I" } : Jvm.MethodName)) ∈ wt := wt_of 1199 (by decide +kernel) rfl
theorem wm_1200 : (Jvm.Cond.static ({ cls := "MixBoothLaw", name := "plays", desc := "(LMixBooth;I[J)I" } : Jvm.MethodName)) ∈ wt := wt_of 1200 (by decide +kernel) rfl
theorem wm_1201 : (Jvm.Cond.codeWith ({ cls := "MixBoothLaw", name := "plays", desc := "(LMixBooth;I[J)I" } : Jvm.MethodName) method_21_code (4 : Nat) (Option.some Jvm.ClassFile.FieldType.int) [((0 : Nat), (16 : Nat), (19 : Nat), (21 : Nat))]) ∈ wt := wt_of 1201 (by decide +kernel) rfl
theorem wm_1202 : (Jvm.Cond.methodLink "MixBoothLaw" (77 : Nat) ({ cls := "MixBooth", name := "plays", desc := "(I)Z" } : Jvm.MethodName)) ∈ wt := wt_of 1202 (by decide +kernel) rfl
theorem wm_1203 : (Jvm.Cond.instanceMethod ({ cls := "MixBooth", name := "plays", desc := "(I)Z" } : Jvm.MethodName)) ∈ wt := wt_of 1203 (by decide +kernel) rfl
theorem wm_1204 : (Jvm.Cond.selects "MixBooth" ({ cls := "MixBooth", name := "plays", desc := "(I)Z" } : Jvm.MethodName) ({ cls := "MixBooth", name := "plays", desc := "(I)Z" } : Jvm.MethodName)) ∈ wt := wt_of 1204 (by decide +kernel) rfl
theorem wm_1205 : (Jvm.Cond.code ({ cls := "MixBooth", name := "plays", desc := "(I)Z" } : Jvm.MethodName) prog_1_method_20_code (2 : Nat) (Option.some Jvm.ClassFile.FieldType.boolean)) ∈ wt := wt_of 1205 (by decide +kernel) rfl
theorem wm_1206 : (Jvm.Cond.methodLink "MixBoothLaw" (253 : Nat) ({ cls := "MixBoothLaw", name := "on", desc := "(LMixBooth;I[J)I" } : Jvm.MethodName)) ∈ wt := wt_of 1206 (by decide +kernel) rfl
theorem wm_1207 : (Jvm.Cond.static ({ cls := "MixBoothLaw", name := "on", desc := "(LMixBooth;I[J)I" } : Jvm.MethodName)) ∈ wt := wt_of 1207 (by decide +kernel) rfl
theorem wm_1208 : (Jvm.Cond.codeWith ({ cls := "MixBoothLaw", name := "on", desc := "(LMixBooth;I[J)I" } : Jvm.MethodName) method_22_code (4 : Nat) (Option.some Jvm.ClassFile.FieldType.int) [((0 : Nat), (9 : Nat), (12 : Nat), (21 : Nat)), ((0 : Nat), (9 : Nat), (15 : Nat), (83 : Nat))]) ∈ wt := wt_of 1208 (by decide +kernel) rfl
theorem wm_1209 : (Jvm.Cond.classLink "MixBoothLaw" (83 : Nat) "java/util/NoSuchElementException") ∈ wt := wt_of 1209 (by decide +kernel) rfl
theorem wm_1210 : (Jvm.Cond.methodLink "MixBoothLaw" (80 : Nat) ({ cls := "MixBooth", name := "on", desc := "(I)I" } : Jvm.MethodName)) ∈ wt := wt_of 1210 (by decide +kernel) rfl
theorem wm_1211 : (Jvm.Cond.instanceMethod ({ cls := "MixBooth", name := "on", desc := "(I)I" } : Jvm.MethodName)) ∈ wt := wt_of 1211 (by decide +kernel) rfl
theorem wm_1212 : (Jvm.Cond.selects "MixBooth" ({ cls := "MixBooth", name := "on", desc := "(I)I" } : Jvm.MethodName) ({ cls := "MixBooth", name := "on", desc := "(I)I" } : Jvm.MethodName)) ∈ wt := wt_of 1212 (by decide +kernel) rfl
theorem wm_1213 : (Jvm.Cond.code ({ cls := "MixBooth", name := "on", desc := "(I)I" } : Jvm.MethodName) prog_1_method_21_code (3 : Nat) (Option.some Jvm.ClassFile.FieldType.int)) ∈ wt := wt_of 1213 (by decide +kernel) rfl
theorem wm_1214 : (Jvm.Cond.classLink "MixBooth" (189 : Nat) "java/util/NoSuchElementException") ∈ wt := wt_of 1214 (by decide +kernel) rfl
theorem wm_1215 : (Jvm.Cond.instantiable "java/util/NoSuchElementException" (6 : Nat)) ∈ wt := wt_of 1215 (by decide +kernel) rfl
theorem wm_1216 : (Jvm.Cond.castable "java/util/NoSuchElementException" "java/util/NoSuchElementException") ∈ wt := wt_of 1216 (by decide +kernel) rfl
theorem wm_1217 : (Jvm.Cond.selects "java/util/NoSuchElementException" ({ cls := "java/lang/Throwable", name := "fillInStackTrace", desc := "(I)Ljava/lang/Throwable;" } : Jvm.MethodName) ({ cls := "java/lang/Throwable", name := "fillInStackTrace", desc := "(I)Ljava/lang/Throwable;" } : Jvm.MethodName)) ∈ wt := wt_of 1217 (by decide +kernel) rfl
theorem wm_1218 : (Jvm.Cond.lays "java/util/NoSuchElementException" "java/lang/Throwable" "cause" "Ljava/lang/Throwable;") ∈ wt := wt_of 1218 (by decide +kernel) rfl
theorem wm_1219 : (Jvm.Cond.lays "java/util/NoSuchElementException" "java/lang/Throwable" "stackTrace" "[Ljava/lang/StackTraceElement;") ∈ wt := wt_of 1219 (by decide +kernel) rfl
theorem wm_1220 : (Jvm.Cond.lays "java/util/NoSuchElementException" "java/lang/Throwable" "suppressedExceptions" "Ljava/util/List;") ∈ wt := wt_of 1220 (by decide +kernel) rfl
theorem wm_1221 : (Jvm.Cond.lays "java/util/NoSuchElementException" "java/lang/Throwable" "detailMessage" "Ljava/lang/String;") ∈ wt := wt_of 1221 (by decide +kernel) rfl
theorem wm_1222 : (Jvm.Cond.lays "java/util/NoSuchElementException" "java/lang/Throwable" "backtrace" "Ljava/lang/Object;") ∈ wt := wt_of 1222 (by decide +kernel) rfl
theorem wm_1223 : (Jvm.Cond.methodLink "MixBooth" (193 : Nat) ({ cls := "java/util/NoSuchElementException", name := "<init>", desc := "(Ljava/lang/String;)V" } : Jvm.MethodName)) ∈ wt := wt_of 1223 (by decide +kernel) rfl
theorem wm_1224 : (Jvm.Cond.instanceMethod ({ cls := "java/util/NoSuchElementException", name := "<init>", desc := "(Ljava/lang/String;)V" } : Jvm.MethodName)) ∈ wt := wt_of 1224 (by decide +kernel) rfl
theorem wm_1225 : (Jvm.Cond.code ({ cls := "java/util/NoSuchElementException", name := "<init>", desc := "(Ljava/lang/String;)V" } : Jvm.MethodName) prog_51_method_4_code (2 : Nat) (Option.none : Option Jvm.ClassFile.FieldType)) ∈ wt := wt_of 1225 (by decide +kernel) rfl
theorem wm_1226 : (Jvm.Cond.methodLink "java/util/NoSuchElementException" (13 : Nat) ({ cls := "java/lang/RuntimeException", name := "<init>", desc := "(Ljava/lang/String;)V" } : Jvm.MethodName)) ∈ wt := wt_of 1226 (by decide +kernel) rfl
theorem wm_1227 : (Jvm.Cond.lays "java/util/NoSuchElementException" "java/lang/Throwable" "depth" "I") ∈ wt := wt_of 1227 (by decide +kernel) rfl
theorem wm_1228 : (Jvm.Cond.superclass "java/util/NoSuchElementException" "java/lang/RuntimeException") ∈ wt := wt_of 1228 (by decide +kernel) rfl
theorem wm_1229 : (Jvm.Cond.methodLink "MixBoothLaw" (256 : Nat) ({ cls := "MixBoothLaw", name := "setFader", desc := "(LMixBooth;II[J)I" } : Jvm.MethodName)) ∈ wt := wt_of 1229 (by decide +kernel) rfl
theorem wm_1230 : (Jvm.Cond.static ({ cls := "MixBoothLaw", name := "setFader", desc := "(LMixBooth;II[J)I" } : Jvm.MethodName)) ∈ wt := wt_of 1230 (by decide +kernel) rfl
theorem wm_1231 : (Jvm.Cond.codeWith ({ cls := "MixBoothLaw", name := "setFader", desc := "(LMixBooth;II[J)I" } : Jvm.MethodName) method_23_code (5 : Nat) (Option.some Jvm.ClassFile.FieldType.int) [((0 : Nat), (10 : Nat), (13 : Nat), (21 : Nat)), ((0 : Nat), (10 : Nat), (17 : Nat), (13 : Nat))]) ∈ wt := wt_of 1231 (by decide +kernel) rfl
theorem wm_1232 : (Jvm.Cond.methodLink "MixBoothLaw" (85 : Nat) ({ cls := "MixBooth", name := "setFader", desc := "(II)I" } : Jvm.MethodName)) ∈ wt := wt_of 1232 (by decide +kernel) rfl
theorem wm_1233 : (Jvm.Cond.instanceMethod ({ cls := "MixBooth", name := "setFader", desc := "(II)I" } : Jvm.MethodName)) ∈ wt := wt_of 1233 (by decide +kernel) rfl
theorem wm_1234 : (Jvm.Cond.selects "MixBooth" ({ cls := "MixBooth", name := "setFader", desc := "(II)I" } : Jvm.MethodName) ({ cls := "MixBooth", name := "setFader", desc := "(II)I" } : Jvm.MethodName)) ∈ wt := wt_of 1234 (by decide +kernel) rfl
theorem wm_1235 : (Jvm.Cond.code ({ cls := "MixBooth", name := "setFader", desc := "(II)I" } : Jvm.MethodName) prog_1_method_22_code (4 : Nat) (Option.some Jvm.ClassFile.FieldType.int)) ∈ wt := wt_of 1235 (by decide +kernel) rfl
theorem wm_1236 : (Jvm.Cond.methodLink "MixBoothLaw" (259 : Nat) ({ cls := "MixBoothLaw", name := "setBand", desc := "(LMixBooth;III[J)I" } : Jvm.MethodName)) ∈ wt := wt_of 1236 (by decide +kernel) rfl
theorem wm_1237 : (Jvm.Cond.static ({ cls := "MixBoothLaw", name := "setBand", desc := "(LMixBooth;III[J)I" } : Jvm.MethodName)) ∈ wt := wt_of 1237 (by decide +kernel) rfl
theorem wm_1238 : (Jvm.Cond.codeWith ({ cls := "MixBoothLaw", name := "setBand", desc := "(LMixBooth;III[J)I" } : Jvm.MethodName) method_24_code (6 : Nat) (Option.some Jvm.ClassFile.FieldType.int) [((0 : Nat), (12 : Nat), (15 : Nat), (21 : Nat)), ((0 : Nat), (12 : Nat), (19 : Nat), (13 : Nat))]) ∈ wt := wt_of 1238 (by decide +kernel) rfl
theorem wm_1239 : (Jvm.Cond.methodLink "MixBoothLaw" (88 : Nat) ({ cls := "MixBooth", name := "setBand", desc := "(III)I" } : Jvm.MethodName)) ∈ wt := wt_of 1239 (by decide +kernel) rfl
theorem wm_1240 : (Jvm.Cond.instanceMethod ({ cls := "MixBooth", name := "setBand", desc := "(III)I" } : Jvm.MethodName)) ∈ wt := wt_of 1240 (by decide +kernel) rfl
theorem wm_1241 : (Jvm.Cond.selects "MixBooth" ({ cls := "MixBooth", name := "setBand", desc := "(III)I" } : Jvm.MethodName) ({ cls := "MixBooth", name := "setBand", desc := "(III)I" } : Jvm.MethodName)) ∈ wt := wt_of 1241 (by decide +kernel) rfl
theorem wm_1242 : (Jvm.Cond.code ({ cls := "MixBooth", name := "setBand", desc := "(III)I" } : Jvm.MethodName) prog_1_method_23_code (5 : Nat) (Option.some Jvm.ClassFile.FieldType.int)) ∈ wt := wt_of 1242 (by decide +kernel) rfl
theorem wm_1243 : (Jvm.Cond.methodLink "MixBoothLaw" (263 : Nat) ({ cls := "MixBoothLaw", name := "setSide", desc := "(LMixBooth;IC[J)I" } : Jvm.MethodName)) ∈ wt := wt_of 1243 (by decide +kernel) rfl
theorem wm_1244 : (Jvm.Cond.static ({ cls := "MixBoothLaw", name := "setSide", desc := "(LMixBooth;IC[J)I" } : Jvm.MethodName)) ∈ wt := wt_of 1244 (by decide +kernel) rfl
theorem wm_1245 : (Jvm.Cond.codeWith ({ cls := "MixBoothLaw", name := "setSide", desc := "(LMixBooth;IC[J)I" } : Jvm.MethodName) method_25_code (5 : Nat) (Option.some Jvm.ClassFile.FieldType.int) [((0 : Nat), (10 : Nat), (13 : Nat), (21 : Nat)), ((0 : Nat), (10 : Nat), (17 : Nat), (13 : Nat))]) ∈ wt := wt_of 1245 (by decide +kernel) rfl
theorem wm_1246 : (Jvm.Cond.methodLink "MixBoothLaw" (92 : Nat) ({ cls := "MixBooth", name := "setSide", desc := "(IC)C" } : Jvm.MethodName)) ∈ wt := wt_of 1246 (by decide +kernel) rfl
theorem wm_1247 : (Jvm.Cond.instanceMethod ({ cls := "MixBooth", name := "setSide", desc := "(IC)C" } : Jvm.MethodName)) ∈ wt := wt_of 1247 (by decide +kernel) rfl
theorem wm_1248 : (Jvm.Cond.selects "MixBooth" ({ cls := "MixBooth", name := "setSide", desc := "(IC)C" } : Jvm.MethodName) ({ cls := "MixBooth", name := "setSide", desc := "(IC)C" } : Jvm.MethodName)) ∈ wt := wt_of 1248 (by decide +kernel) rfl
theorem wm_1249 : (Jvm.Cond.code ({ cls := "MixBooth", name := "setSide", desc := "(IC)C" } : Jvm.MethodName) prog_1_method_24_code (4 : Nat) (Option.some Jvm.ClassFile.FieldType.char)) ∈ wt := wt_of 1249 (by decide +kernel) rfl
theorem wm_1250 : (Jvm.Cond.methodLink "MixBoothLaw" (267 : Nat) ({ cls := "MixBoothLaw", name := "setCross", desc := "(LMixBooth;I[J)I" } : Jvm.MethodName)) ∈ wt := wt_of 1250 (by decide +kernel) rfl
theorem wm_1251 : (Jvm.Cond.static ({ cls := "MixBoothLaw", name := "setCross", desc := "(LMixBooth;I[J)I" } : Jvm.MethodName)) ∈ wt := wt_of 1251 (by decide +kernel) rfl
theorem wm_1252 : (Jvm.Cond.codeWith ({ cls := "MixBoothLaw", name := "setCross", desc := "(LMixBooth;I[J)I" } : Jvm.MethodName) method_26_code (4 : Nat) (Option.some Jvm.ClassFile.FieldType.int) [((0 : Nat), (9 : Nat), (12 : Nat), (13 : Nat))]) ∈ wt := wt_of 1252 (by decide +kernel) rfl
theorem wm_1253 : (Jvm.Cond.methodLink "MixBoothLaw" (96 : Nat) ({ cls := "MixBooth", name := "setCross", desc := "(I)I" } : Jvm.MethodName)) ∈ wt := wt_of 1253 (by decide +kernel) rfl
theorem wm_1254 : (Jvm.Cond.instanceMethod ({ cls := "MixBooth", name := "setCross", desc := "(I)I" } : Jvm.MethodName)) ∈ wt := wt_of 1254 (by decide +kernel) rfl
theorem wm_1255 : (Jvm.Cond.selects "MixBooth" ({ cls := "MixBooth", name := "setCross", desc := "(I)I" } : Jvm.MethodName) ({ cls := "MixBooth", name := "setCross", desc := "(I)I" } : Jvm.MethodName)) ∈ wt := wt_of 1255 (by decide +kernel) rfl
theorem wm_1256 : (Jvm.Cond.code ({ cls := "MixBooth", name := "setCross", desc := "(I)I" } : Jvm.MethodName) prog_1_method_25_code (2 : Nat) (Option.some Jvm.ClassFile.FieldType.int)) ∈ wt := wt_of 1256 (by decide +kernel) rfl
theorem wm_1257 : (Jvm.Cond.methodLink "MixBoothLaw" (270 : Nat) ({ cls := "MixBoothLaw", name := "level", desc := "(LMixBooth;I[J)I" } : Jvm.MethodName)) ∈ wt := wt_of 1257 (by decide +kernel) rfl
theorem wm_1258 : (Jvm.Cond.static ({ cls := "MixBoothLaw", name := "level", desc := "(LMixBooth;I[J)I" } : Jvm.MethodName)) ∈ wt := wt_of 1258 (by decide +kernel) rfl
theorem wm_1259 : (Jvm.Cond.codeWith ({ cls := "MixBoothLaw", name := "level", desc := "(LMixBooth;I[J)I" } : Jvm.MethodName) method_27_code (4 : Nat) (Option.some Jvm.ClassFile.FieldType.int) [((0 : Nat), (9 : Nat), (12 : Nat), (21 : Nat))]) ∈ wt := wt_of 1259 (by decide +kernel) rfl
theorem wm_1260 : (Jvm.Cond.methodLink "MixBoothLaw" (99 : Nat) ({ cls := "MixBooth", name := "level", desc := "(I)I" } : Jvm.MethodName)) ∈ wt := wt_of 1260 (by decide +kernel) rfl
theorem wm_1261 : (Jvm.Cond.instanceMethod ({ cls := "MixBooth", name := "level", desc := "(I)I" } : Jvm.MethodName)) ∈ wt := wt_of 1261 (by decide +kernel) rfl
theorem wm_1262 : (Jvm.Cond.selects "MixBooth" ({ cls := "MixBooth", name := "level", desc := "(I)I" } : Jvm.MethodName) ({ cls := "MixBooth", name := "level", desc := "(I)I" } : Jvm.MethodName)) ∈ wt := wt_of 1262 (by decide +kernel) rfl
theorem wm_1263 : (Jvm.Cond.code ({ cls := "MixBooth", name := "level", desc := "(I)I" } : Jvm.MethodName) prog_1_method_26_code (2 : Nat) (Option.some Jvm.ClassFile.FieldType.int)) ∈ wt := wt_of 1263 (by decide +kernel) rfl
theorem wm_1264 : (Jvm.Cond.methodLink "MixBooth" (219 : Nat) ({ cls := "MixBooth$Deck", name := "levelAt", desc := "(I)I" } : Jvm.MethodName)) ∈ wt := wt_of 1264 (by decide +kernel) rfl
theorem wm_1265 : (Jvm.Cond.methodLink "MixBoothLaw" (273 : Nat) ({ cls := "MixBoothLaw", name := "addEffect", desc := "(LMixBooth;ICI[J)I" } : Jvm.MethodName)) ∈ wt := wt_of 1265 (by decide +kernel) rfl
theorem wm_1266 : (Jvm.Cond.static ({ cls := "MixBoothLaw", name := "addEffect", desc := "(LMixBooth;ICI[J)I" } : Jvm.MethodName)) ∈ wt := wt_of 1266 (by decide +kernel) rfl
theorem wm_1267 : (Jvm.Cond.codeWith ({ cls := "MixBoothLaw", name := "addEffect", desc := "(LMixBooth;ICI[J)I" } : Jvm.MethodName) method_28_code (6 : Nat) (Option.some Jvm.ClassFile.FieldType.int) [((0 : Nat), (12 : Nat), (15 : Nat), (21 : Nat)), ((0 : Nat), (12 : Nat), (19 : Nat), (13 : Nat)), ((0 : Nat), (12 : Nat), (23 : Nat), (15 : Nat))]) ∈ wt := wt_of 1267 (by decide +kernel) rfl
theorem wm_1268 : (Jvm.Cond.methodLink "MixBoothLaw" (102 : Nat) ({ cls := "MixBooth", name := "addEffect", desc := "(ICI)I" } : Jvm.MethodName)) ∈ wt := wt_of 1268 (by decide +kernel) rfl
theorem wm_1269 : (Jvm.Cond.instanceMethod ({ cls := "MixBooth", name := "addEffect", desc := "(ICI)I" } : Jvm.MethodName)) ∈ wt := wt_of 1269 (by decide +kernel) rfl
theorem wm_1270 : (Jvm.Cond.selects "MixBooth" ({ cls := "MixBooth", name := "addEffect", desc := "(ICI)I" } : Jvm.MethodName) ({ cls := "MixBooth", name := "addEffect", desc := "(ICI)I" } : Jvm.MethodName)) ∈ wt := wt_of 1270 (by decide +kernel) rfl
theorem wm_1271 : (Jvm.Cond.code ({ cls := "MixBooth", name := "addEffect", desc := "(ICI)I" } : Jvm.MethodName) prog_1_method_27_code (5 : Nat) (Option.some Jvm.ClassFile.FieldType.int)) ∈ wt := wt_of 1271 (by decide +kernel) rfl
theorem wm_1272 : (Jvm.Cond.stringRef "MixBooth" (229 : Nat) "the deck has no room for another effect") ∈ wt := wt_of 1272 (by decide +kernel) rfl
theorem wm_1273 : (Jvm.Cond.methodLink "MixBoothLaw" (277 : Nat) ({ cls := "MixBoothLaw", name := "dropEffects", desc := "(LMixBooth;I[J)I" } : Jvm.MethodName)) ∈ wt := wt_of 1273 (by decide +kernel) rfl
theorem wm_1274 : (Jvm.Cond.static ({ cls := "MixBoothLaw", name := "dropEffects", desc := "(LMixBooth;I[J)I" } : Jvm.MethodName)) ∈ wt := wt_of 1274 (by decide +kernel) rfl
theorem wm_1275 : (Jvm.Cond.codeWith ({ cls := "MixBoothLaw", name := "dropEffects", desc := "(LMixBooth;I[J)I" } : Jvm.MethodName) method_29_code (4 : Nat) (Option.some Jvm.ClassFile.FieldType.int) [((0 : Nat), (9 : Nat), (12 : Nat), (21 : Nat))]) ∈ wt := wt_of 1275 (by decide +kernel) rfl
theorem wm_1276 : (Jvm.Cond.methodLink "MixBoothLaw" (106 : Nat) ({ cls := "MixBooth", name := "dropEffects", desc := "(I)I" } : Jvm.MethodName)) ∈ wt := wt_of 1276 (by decide +kernel) rfl
theorem wm_1277 : (Jvm.Cond.instanceMethod ({ cls := "MixBooth", name := "dropEffects", desc := "(I)I" } : Jvm.MethodName)) ∈ wt := wt_of 1277 (by decide +kernel) rfl
theorem wm_1278 : (Jvm.Cond.selects "MixBooth" ({ cls := "MixBooth", name := "dropEffects", desc := "(I)I" } : Jvm.MethodName) ({ cls := "MixBooth", name := "dropEffects", desc := "(I)I" } : Jvm.MethodName)) ∈ wt := wt_of 1278 (by decide +kernel) rfl
theorem wm_1279 : (Jvm.Cond.code ({ cls := "MixBooth", name := "dropEffects", desc := "(I)I" } : Jvm.MethodName) prog_1_method_28_code (3 : Nat) (Option.some Jvm.ClassFile.FieldType.int)) ∈ wt := wt_of 1279 (by decide +kernel) rfl
theorem wm_1280 : (Jvm.Cond.methodLink "MixBoothLaw" (280 : Nat) ({ cls := "MixBoothLaw", name := "tail", desc := "(LMixBooth;II[J)I" } : Jvm.MethodName)) ∈ wt := wt_of 1280 (by decide +kernel) rfl
theorem wm_1281 : (Jvm.Cond.static ({ cls := "MixBoothLaw", name := "tail", desc := "(LMixBooth;II[J)I" } : Jvm.MethodName)) ∈ wt := wt_of 1281 (by decide +kernel) rfl
theorem wm_1282 : (Jvm.Cond.codeWith ({ cls := "MixBoothLaw", name := "tail", desc := "(LMixBooth;II[J)I" } : Jvm.MethodName) method_30_code (5 : Nat) (Option.some Jvm.ClassFile.FieldType.int) [((0 : Nat), (10 : Nat), (13 : Nat), (21 : Nat)), ((0 : Nat), (10 : Nat), (17 : Nat), (83 : Nat))]) ∈ wt := wt_of 1282 (by decide +kernel) rfl
theorem wm_1283 : (Jvm.Cond.methodLink "MixBoothLaw" (109 : Nat) ({ cls := "MixBooth", name := "tail", desc := "(II)I" } : Jvm.MethodName)) ∈ wt := wt_of 1283 (by decide +kernel) rfl
theorem wm_1284 : (Jvm.Cond.instanceMethod ({ cls := "MixBooth", name := "tail", desc := "(II)I" } : Jvm.MethodName)) ∈ wt := wt_of 1284 (by decide +kernel) rfl
theorem wm_1285 : (Jvm.Cond.selects "MixBooth" ({ cls := "MixBooth", name := "tail", desc := "(II)I" } : Jvm.MethodName) ({ cls := "MixBooth", name := "tail", desc := "(II)I" } : Jvm.MethodName)) ∈ wt := wt_of 1285 (by decide +kernel) rfl
theorem wm_1286 : (Jvm.Cond.code ({ cls := "MixBooth", name := "tail", desc := "(II)I" } : Jvm.MethodName) prog_1_method_29_code (4 : Nat) (Option.some Jvm.ClassFile.FieldType.int)) ∈ wt := wt_of 1286 (by decide +kernel) rfl
theorem wm_1287 : (Jvm.Cond.methodLink "MixBooth" (238 : Nat) ({ cls := "MixBooth$Channel", name := "effectAt", desc := "(I)LMixBooth$Effect;" } : Jvm.MethodName)) ∈ wt := wt_of 1287 (by decide +kernel) rfl
theorem wm_1288 : (Jvm.Cond.instanceMethod ({ cls := "MixBooth$Channel", name := "effectAt", desc := "(I)LMixBooth$Effect;" } : Jvm.MethodName)) ∈ wt := wt_of 1288 (by decide +kernel) rfl
theorem wm_1289 : (Jvm.Cond.selects "MixBooth$Channel" ({ cls := "MixBooth$Channel", name := "effectAt", desc := "(I)LMixBooth$Effect;" } : Jvm.MethodName) ({ cls := "MixBooth$Channel", name := "effectAt", desc := "(I)LMixBooth$Effect;" } : Jvm.MethodName)) ∈ wt := wt_of 1289 (by decide +kernel) rfl
theorem wm_1290 : (Jvm.Cond.code ({ cls := "MixBooth$Channel", name := "effectAt", desc := "(I)LMixBooth$Effect;" } : Jvm.MethodName) prog_2_method_10_code (3 : Nat) (Option.some (Jvm.ClassFile.FieldType.object "MixBooth$Effect"))) ∈ wt := wt_of 1290 (by decide +kernel) rfl
theorem wm_1291 : (Jvm.Cond.stringRef "MixBooth" (242 : Nat) "there is no such effect") ∈ wt := wt_of 1291 (by decide +kernel) rfl
theorem wm_1292 : (Jvm.Cond.methodLink "MixBoothLaw" (283 : Nat) ({ cls := "MixBoothLaw", name := "go", desc := "(LMixBooth;I[J)I" } : Jvm.MethodName)) ∈ wt := wt_of 1292 (by decide +kernel) rfl
theorem wm_1293 : (Jvm.Cond.static ({ cls := "MixBoothLaw", name := "go", desc := "(LMixBooth;I[J)I" } : Jvm.MethodName)) ∈ wt := wt_of 1293 (by decide +kernel) rfl
theorem wm_1294 : (Jvm.Cond.codeWith ({ cls := "MixBoothLaw", name := "go", desc := "(LMixBooth;I[J)I" } : Jvm.MethodName) method_31_code (4 : Nat) (Option.some Jvm.ClassFile.FieldType.int) [((0 : Nat), (9 : Nat), (12 : Nat), (13 : Nat))]) ∈ wt := wt_of 1294 (by decide +kernel) rfl
theorem wm_1295 : (Jvm.Cond.methodLink "MixBoothLaw" (112 : Nat) ({ cls := "MixBooth", name := "go", desc := "(I)I" } : Jvm.MethodName)) ∈ wt := wt_of 1295 (by decide +kernel) rfl
theorem wm_1296 : (Jvm.Cond.instanceMethod ({ cls := "MixBooth", name := "go", desc := "(I)I" } : Jvm.MethodName)) ∈ wt := wt_of 1296 (by decide +kernel) rfl
theorem wm_1297 : (Jvm.Cond.selects "MixBooth" ({ cls := "MixBooth", name := "go", desc := "(I)I" } : Jvm.MethodName) ({ cls := "MixBooth", name := "go", desc := "(I)I" } : Jvm.MethodName)) ∈ wt := wt_of 1297 (by decide +kernel) rfl
theorem wm_1298 : (Jvm.Cond.code ({ cls := "MixBooth", name := "go", desc := "(I)I" } : Jvm.MethodName) prog_1_method_30_code (2 : Nat) (Option.some Jvm.ClassFile.FieldType.int)) ∈ wt := wt_of 1298 (by decide +kernel) rfl
theorem wm_1299 : (Jvm.Cond.methodLink "MixBoothLaw" (298 : Nat) ({ cls := "MixBoothLaw", name := "clashes", desc := "(LMixBooth;C[J)I" } : Jvm.MethodName)) ∈ wt := wt_of 1299 (by decide +kernel) rfl
theorem wm_1300 : (Jvm.Cond.static ({ cls := "MixBoothLaw", name := "clashes", desc := "(LMixBooth;C[J)I" } : Jvm.MethodName)) ∈ wt := wt_of 1300 (by decide +kernel) rfl
theorem wm_1301 : (Jvm.Cond.codeWith ({ cls := "MixBoothLaw", name := "clashes", desc := "(LMixBooth;C[J)I" } : Jvm.MethodName) method_32_code (4 : Nat) (Option.some Jvm.ClassFile.FieldType.int) [((0 : Nat), (9 : Nat), (12 : Nat), (13 : Nat))]) ∈ wt := wt_of 1301 (by decide +kernel) rfl
theorem wm_1302 : (Jvm.Cond.methodLink "MixBoothLaw" (115 : Nat) ({ cls := "MixBooth", name := "clashes", desc := "(C)I" } : Jvm.MethodName)) ∈ wt := wt_of 1302 (by decide +kernel) rfl
theorem wm_1303 : (Jvm.Cond.instanceMethod ({ cls := "MixBooth", name := "clashes", desc := "(C)I" } : Jvm.MethodName)) ∈ wt := wt_of 1303 (by decide +kernel) rfl
theorem wm_1304 : (Jvm.Cond.selects "MixBooth" ({ cls := "MixBooth", name := "clashes", desc := "(C)I" } : Jvm.MethodName) ({ cls := "MixBooth", name := "clashes", desc := "(C)I" } : Jvm.MethodName)) ∈ wt := wt_of 1304 (by decide +kernel) rfl
theorem wm_1305 : (Jvm.Cond.code ({ cls := "MixBooth", name := "clashes", desc := "(C)I" } : Jvm.MethodName) prog_1_method_34_code (2 : Nat) (Option.some Jvm.ClassFile.FieldType.int)) ∈ wt := wt_of 1305 (by decide +kernel) rfl
theorem wm_1306 : (Jvm.Cond.methodLink "MixBoothLaw" (302 : Nat) ({ cls := "MixBoothLaw", name := "between", desc := "(LMixBooth;II[J)I" } : Jvm.MethodName)) ∈ wt := wt_of 1306 (by decide +kernel) rfl
theorem wm_1307 : (Jvm.Cond.static ({ cls := "MixBoothLaw", name := "between", desc := "(LMixBooth;II[J)I" } : Jvm.MethodName)) ∈ wt := wt_of 1307 (by decide +kernel) rfl
theorem wm_1308 : (Jvm.Cond.codeWith ({ cls := "MixBoothLaw", name := "between", desc := "(LMixBooth;II[J)I" } : Jvm.MethodName) method_33_code (5 : Nat) (Option.some Jvm.ClassFile.FieldType.int) [((0 : Nat), (10 : Nat), (13 : Nat), (21 : Nat)), ((0 : Nat), (10 : Nat), (17 : Nat), (23 : Nat))]) ∈ wt := wt_of 1308 (by decide +kernel) rfl
theorem wm_1309 : (Jvm.Cond.methodLink "MixBoothLaw" (119 : Nat) ({ cls := "MixBooth", name := "between", desc := "(II)I" } : Jvm.MethodName)) ∈ wt := wt_of 1309 (by decide +kernel) rfl
theorem wm_1310 : (Jvm.Cond.instanceMethod ({ cls := "MixBooth", name := "between", desc := "(II)I" } : Jvm.MethodName)) ∈ wt := wt_of 1310 (by decide +kernel) rfl
theorem wm_1311 : (Jvm.Cond.selects "MixBooth" ({ cls := "MixBooth", name := "between", desc := "(II)I" } : Jvm.MethodName) ({ cls := "MixBooth", name := "between", desc := "(II)I" } : Jvm.MethodName)) ∈ wt := wt_of 1311 (by decide +kernel) rfl
theorem wm_1312 : (Jvm.Cond.code ({ cls := "MixBooth", name := "between", desc := "(II)I" } : Jvm.MethodName) prog_1_method_35_code (5 : Nat) (Option.some Jvm.ClassFile.FieldType.int)) ∈ wt := wt_of 1312 (by decide +kernel) rfl
theorem wm_1313 : (Jvm.Cond.methodLink "MixBooth" (267 : Nat) ({ cls := "MixBooth$Deck", name := "thousandthsFrom", desc := "(LMixBooth$Deck;)I" } : Jvm.MethodName)) ∈ wt := wt_of 1313 (by decide +kernel) rfl
theorem wm_1314 : (Jvm.Cond.methodLink "MixBoothLaw" (305 : Nat) ({ cls := "MixBoothLaw", name := "sync", desc := "(LMixBooth;II[J)I" } : Jvm.MethodName)) ∈ wt := wt_of 1314 (by decide +kernel) rfl
theorem wm_1315 : (Jvm.Cond.static ({ cls := "MixBoothLaw", name := "sync", desc := "(LMixBooth;II[J)I" } : Jvm.MethodName)) ∈ wt := wt_of 1315 (by decide +kernel) rfl
theorem wm_1316 : (Jvm.Cond.codeWith ({ cls := "MixBoothLaw", name := "sync", desc := "(LMixBooth;II[J)I" } : Jvm.MethodName) method_34_code (5 : Nat) (Option.some Jvm.ClassFile.FieldType.int) [((0 : Nat), (10 : Nat), (13 : Nat), (21 : Nat)), ((0 : Nat), (10 : Nat), (17 : Nat), (23 : Nat))]) ∈ wt := wt_of 1316 (by decide +kernel) rfl
theorem wm_1317 : (Jvm.Cond.methodLink "MixBoothLaw" (122 : Nat) ({ cls := "MixBooth", name := "sync", desc := "(II)I" } : Jvm.MethodName)) ∈ wt := wt_of 1317 (by decide +kernel) rfl
theorem wm_1318 : (Jvm.Cond.instanceMethod ({ cls := "MixBooth", name := "sync", desc := "(II)I" } : Jvm.MethodName)) ∈ wt := wt_of 1318 (by decide +kernel) rfl
theorem wm_1319 : (Jvm.Cond.selects "MixBooth" ({ cls := "MixBooth", name := "sync", desc := "(II)I" } : Jvm.MethodName) ({ cls := "MixBooth", name := "sync", desc := "(II)I" } : Jvm.MethodName)) ∈ wt := wt_of 1319 (by decide +kernel) rfl
theorem wm_1320 : (Jvm.Cond.code ({ cls := "MixBooth", name := "sync", desc := "(II)I" } : Jvm.MethodName) prog_1_method_36_code (5 : Nat) (Option.some Jvm.ClassFile.FieldType.int)) ∈ wt := wt_of 1320 (by decide +kernel) rfl
theorem wm_1321 : (Jvm.Cond.methodLink "MixBooth" (271 : Nat) ({ cls := "MixBooth", name := "demandPair", desc := "(LMixBooth$Deck;LMixBooth$Deck;)V" } : Jvm.MethodName)) ∈ wt := wt_of 1321 (by decide +kernel) rfl
theorem wm_1322 : (Jvm.Cond.static ({ cls := "MixBooth", name := "demandPair", desc := "(LMixBooth$Deck;LMixBooth$Deck;)V" } : Jvm.MethodName)) ∈ wt := wt_of 1322 (by decide +kernel) rfl
theorem wm_1323 : (Jvm.Cond.code ({ cls := "MixBooth", name := "demandPair", desc := "(LMixBooth$Deck;LMixBooth$Deck;)V" } : Jvm.MethodName) prog_1_method_64_code (2 : Nat) (Option.none : Option Jvm.ClassFile.FieldType)) ∈ wt := wt_of 1323 (by decide +kernel) rfl
theorem wm_1324 : (Jvm.Cond.stringRef "MixBooth" (423 : Nat) "both decks are the same") ∈ wt := wt_of 1324 (by decide +kernel) rfl
theorem wm_1325 : (Jvm.Cond.methodLink "MixBoothLaw" (308 : Nat) ({ cls := "MixBoothLaw", name := "ear", desc := "(LMixBooth;III[J)I" } : Jvm.MethodName)) ∈ wt := wt_of 1325 (by decide +kernel) rfl
theorem wm_1326 : (Jvm.Cond.static ({ cls := "MixBoothLaw", name := "ear", desc := "(LMixBooth;III[J)I" } : Jvm.MethodName)) ∈ wt := wt_of 1326 (by decide +kernel) rfl
theorem wm_1327 : (Jvm.Cond.codeWith ({ cls := "MixBoothLaw", name := "ear", desc := "(LMixBooth;III[J)I" } : Jvm.MethodName) method_35_code (6 : Nat) (Option.some Jvm.ClassFile.FieldType.int) [((0 : Nat), (12 : Nat), (15 : Nat), (21 : Nat)), ((0 : Nat), (12 : Nat), (19 : Nat), (13 : Nat)), ((0 : Nat), (12 : Nat), (23 : Nat), (23 : Nat))]) ∈ wt := wt_of 1327 (by decide +kernel) rfl
theorem wm_1328 : (Jvm.Cond.methodLink "MixBoothLaw" (125 : Nat) ({ cls := "MixBooth", name := "ear", desc := "(III)I" } : Jvm.MethodName)) ∈ wt := wt_of 1328 (by decide +kernel) rfl
theorem wm_1329 : (Jvm.Cond.instanceMethod ({ cls := "MixBooth", name := "ear", desc := "(III)I" } : Jvm.MethodName)) ∈ wt := wt_of 1329 (by decide +kernel) rfl
theorem wm_1330 : (Jvm.Cond.selects "MixBooth" ({ cls := "MixBooth", name := "ear", desc := "(III)I" } : Jvm.MethodName) ({ cls := "MixBooth", name := "ear", desc := "(III)I" } : Jvm.MethodName)) ∈ wt := wt_of 1330 (by decide +kernel) rfl
theorem wm_1331 : (Jvm.Cond.code ({ cls := "MixBooth", name := "ear", desc := "(III)I" } : Jvm.MethodName) prog_1_method_37_code (6 : Nat) (Option.some Jvm.ClassFile.FieldType.int)) ∈ wt := wt_of 1331 (by decide +kernel) rfl
theorem wm_1332 : (Jvm.Cond.methodLink "MixBoothLaw" (311 : Nat) ({ cls := "MixBoothLaw", name := "people", desc := "(LMixBooth;I[J)I" } : Jvm.MethodName)) ∈ wt := wt_of 1332 (by decide +kernel) rfl
theorem wm_1333 : (Jvm.Cond.static ({ cls := "MixBoothLaw", name := "people", desc := "(LMixBooth;I[J)I" } : Jvm.MethodName)) ∈ wt := wt_of 1333 (by decide +kernel) rfl
theorem wm_1334 : (Jvm.Cond.codeWith ({ cls := "MixBoothLaw", name := "people", desc := "(LMixBooth;I[J)I" } : Jvm.MethodName) method_36_code (4 : Nat) (Option.some Jvm.ClassFile.FieldType.int) [((0 : Nat), (9 : Nat), (12 : Nat), (13 : Nat))]) ∈ wt := wt_of 1334 (by decide +kernel) rfl
theorem wm_1335 : (Jvm.Cond.methodLink "MixBoothLaw" (128 : Nat) ({ cls := "MixBooth", name := "people", desc := "(I)I" } : Jvm.MethodName)) ∈ wt := wt_of 1335 (by decide +kernel) rfl
theorem wm_1336 : (Jvm.Cond.instanceMethod ({ cls := "MixBooth", name := "people", desc := "(I)I" } : Jvm.MethodName)) ∈ wt := wt_of 1336 (by decide +kernel) rfl
theorem wm_1337 : (Jvm.Cond.selects "MixBooth" ({ cls := "MixBooth", name := "people", desc := "(I)I" } : Jvm.MethodName) ({ cls := "MixBooth", name := "people", desc := "(I)I" } : Jvm.MethodName)) ∈ wt := wt_of 1337 (by decide +kernel) rfl
theorem wm_1338 : (Jvm.Cond.code ({ cls := "MixBooth", name := "people", desc := "(I)I" } : Jvm.MethodName) prog_1_method_38_code (2 : Nat) (Option.some Jvm.ClassFile.FieldType.int)) ∈ wt := wt_of 1338 (by decide +kernel) rfl
theorem wm_1339 : (Jvm.Cond.methodLink "MixBooth" (288 : Nat) ({ cls := "MixBooth$Floor", name := "everybody", desc := "()I" } : Jvm.MethodName)) ∈ wt := wt_of 1339 (by decide +kernel) rfl
theorem wm_1340 : (Jvm.Cond.methodLink "MixBooth" (291 : Nat) ({ cls := "MixBooth$Floor", name := "sizeOf", desc := "(I)I" } : Jvm.MethodName)) ∈ wt := wt_of 1340 (by decide +kernel) rfl
theorem wm_1341 : (Jvm.Cond.instanceMethod ({ cls := "MixBooth$Floor", name := "sizeOf", desc := "(I)I" } : Jvm.MethodName)) ∈ wt := wt_of 1341 (by decide +kernel) rfl
theorem wm_1342 : (Jvm.Cond.selects "MixBooth$Floor" ({ cls := "MixBooth$Floor", name := "sizeOf", desc := "(I)I" } : Jvm.MethodName) ({ cls := "MixBooth$Floor", name := "sizeOf", desc := "(I)I" } : Jvm.MethodName)) ∈ wt := wt_of 1342 (by decide +kernel) rfl
theorem wm_1343 : (Jvm.Cond.code ({ cls := "MixBooth$Floor", name := "sizeOf", desc := "(I)I" } : Jvm.MethodName) prog_6_method_2_code (2 : Nat) (Option.some Jvm.ClassFile.FieldType.int)) ∈ wt := wt_of 1343 (by decide +kernel) rfl
theorem wm_1344 : (Jvm.Cond.methodLink "MixBoothLaw" (314 : Nat) ({ cls := "MixBoothLaw", name := "tired", desc := "(LMixBooth;I[J)I" } : Jvm.MethodName)) ∈ wt := wt_of 1344 (by decide +kernel) rfl
theorem wm_1345 : (Jvm.Cond.static ({ cls := "MixBoothLaw", name := "tired", desc := "(LMixBooth;I[J)I" } : Jvm.MethodName)) ∈ wt := wt_of 1345 (by decide +kernel) rfl
theorem wm_1346 : (Jvm.Cond.codeWith ({ cls := "MixBoothLaw", name := "tired", desc := "(LMixBooth;I[J)I" } : Jvm.MethodName) method_37_code (4 : Nat) (Option.some Jvm.ClassFile.FieldType.int) [((0 : Nat), (9 : Nat), (12 : Nat), (13 : Nat))]) ∈ wt := wt_of 1346 (by decide +kernel) rfl
theorem wm_1347 : (Jvm.Cond.methodLink "MixBoothLaw" (131 : Nat) ({ cls := "MixBooth", name := "tired", desc := "(I)I" } : Jvm.MethodName)) ∈ wt := wt_of 1347 (by decide +kernel) rfl
theorem wm_1348 : (Jvm.Cond.instanceMethod ({ cls := "MixBooth", name := "tired", desc := "(I)I" } : Jvm.MethodName)) ∈ wt := wt_of 1348 (by decide +kernel) rfl
theorem wm_1349 : (Jvm.Cond.selects "MixBooth" ({ cls := "MixBooth", name := "tired", desc := "(I)I" } : Jvm.MethodName) ({ cls := "MixBooth", name := "tired", desc := "(I)I" } : Jvm.MethodName)) ∈ wt := wt_of 1349 (by decide +kernel) rfl
theorem wm_1350 : (Jvm.Cond.code ({ cls := "MixBooth", name := "tired", desc := "(I)I" } : Jvm.MethodName) prog_1_method_39_code (2 : Nat) (Option.some Jvm.ClassFile.FieldType.int)) ∈ wt := wt_of 1350 (by decide +kernel) rfl
theorem wm_1351 : (Jvm.Cond.methodLink "MixBooth" (294 : Nat) ({ cls := "MixBooth$Floor", name := "wearOf", desc := "(I)I" } : Jvm.MethodName)) ∈ wt := wt_of 1351 (by decide +kernel) rfl
theorem wm_1352 : (Jvm.Cond.instanceMethod ({ cls := "MixBooth$Floor", name := "wearOf", desc := "(I)I" } : Jvm.MethodName)) ∈ wt := wt_of 1352 (by decide +kernel) rfl
theorem wm_1353 : (Jvm.Cond.selects "MixBooth$Floor" ({ cls := "MixBooth$Floor", name := "wearOf", desc := "(I)I" } : Jvm.MethodName) ({ cls := "MixBooth$Floor", name := "wearOf", desc := "(I)I" } : Jvm.MethodName)) ∈ wt := wt_of 1353 (by decide +kernel) rfl
theorem wm_1354 : (Jvm.Cond.code ({ cls := "MixBooth$Floor", name := "wearOf", desc := "(I)I" } : Jvm.MethodName) prog_6_method_3_code (2 : Nat) (Option.some Jvm.ClassFile.FieldType.int)) ∈ wt := wt_of 1354 (by decide +kernel) rfl
theorem wm_1355 : (Jvm.Cond.methodLink "MixBoothLaw" (317 : Nat) ({ cls := "MixBoothLaw", name := "seconds", desc := "(LMixBooth;I[J)I" } : Jvm.MethodName)) ∈ wt := wt_of 1355 (by decide +kernel) rfl
theorem wm_1356 : (Jvm.Cond.static ({ cls := "MixBoothLaw", name := "seconds", desc := "(LMixBooth;I[J)I" } : Jvm.MethodName)) ∈ wt := wt_of 1356 (by decide +kernel) rfl
theorem wm_1357 : (Jvm.Cond.codeWith ({ cls := "MixBoothLaw", name := "seconds", desc := "(LMixBooth;I[J)I" } : Jvm.MethodName) method_38_code (4 : Nat) (Option.some Jvm.ClassFile.FieldType.int) [((0 : Nat), (9 : Nat), (12 : Nat), (21 : Nat))]) ∈ wt := wt_of 1357 (by decide +kernel) rfl
theorem wm_1358 : (Jvm.Cond.methodLink "MixBoothLaw" (134 : Nat) ({ cls := "MixBooth", name := "seconds", desc := "(I)I" } : Jvm.MethodName)) ∈ wt := wt_of 1358 (by decide +kernel) rfl
theorem wm_1359 : (Jvm.Cond.instanceMethod ({ cls := "MixBooth", name := "seconds", desc := "(I)I" } : Jvm.MethodName)) ∈ wt := wt_of 1359 (by decide +kernel) rfl
theorem wm_1360 : (Jvm.Cond.selects "MixBooth" ({ cls := "MixBooth", name := "seconds", desc := "(I)I" } : Jvm.MethodName) ({ cls := "MixBooth", name := "seconds", desc := "(I)I" } : Jvm.MethodName)) ∈ wt := wt_of 1360 (by decide +kernel) rfl
theorem wm_1361 : (Jvm.Cond.code ({ cls := "MixBooth", name := "seconds", desc := "(I)I" } : Jvm.MethodName) prog_1_method_40_code (2 : Nat) (Option.some Jvm.ClassFile.FieldType.int)) ∈ wt := wt_of 1361 (by decide +kernel) rfl
theorem wm_1362 : (Jvm.Cond.methodLink "MixBooth" (297 : Nat) ({ cls := "MixBooth$Disc", name := "wholeSeconds", desc := "()I" } : Jvm.MethodName)) ∈ wt := wt_of 1362 (by decide +kernel) rfl
theorem wm_1363 : (Jvm.Cond.methodLink "MixBoothLaw" (320 : Nat) ({ cls := "MixBoothLaw", name := "setLimit", desc := "(LMixBooth;II[J)I" } : Jvm.MethodName)) ∈ wt := wt_of 1363 (by decide +kernel) rfl
theorem wm_1364 : (Jvm.Cond.static ({ cls := "MixBoothLaw", name := "setLimit", desc := "(LMixBooth;II[J)I" } : Jvm.MethodName)) ∈ wt := wt_of 1364 (by decide +kernel) rfl
theorem wm_1365 : (Jvm.Cond.codeWith ({ cls := "MixBoothLaw", name := "setLimit", desc := "(LMixBooth;II[J)I" } : Jvm.MethodName) method_39_code (5 : Nat) (Option.some Jvm.ClassFile.FieldType.int) [((0 : Nat), (10 : Nat), (13 : Nat), (13 : Nat))]) ∈ wt := wt_of 1365 (by decide +kernel) rfl
theorem wm_1366 : (Jvm.Cond.methodLink "MixBoothLaw" (137 : Nat) ({ cls := "MixBooth", name := "setLimit", desc := "(II)I" } : Jvm.MethodName)) ∈ wt := wt_of 1366 (by decide +kernel) rfl
theorem wm_1367 : (Jvm.Cond.instanceMethod ({ cls := "MixBooth", name := "setLimit", desc := "(II)I" } : Jvm.MethodName)) ∈ wt := wt_of 1367 (by decide +kernel) rfl
theorem wm_1368 : (Jvm.Cond.selects "MixBooth" ({ cls := "MixBooth", name := "setLimit", desc := "(II)I" } : Jvm.MethodName) ({ cls := "MixBooth", name := "setLimit", desc := "(II)I" } : Jvm.MethodName)) ∈ wt := wt_of 1368 (by decide +kernel) rfl
theorem wm_1369 : (Jvm.Cond.code ({ cls := "MixBooth", name := "setLimit", desc := "(II)I" } : Jvm.MethodName) prog_1_method_41_code (3 : Nat) (Option.some Jvm.ClassFile.FieldType.int)) ∈ wt := wt_of 1369 (by decide +kernel) rfl
theorem wm_1370 : (Jvm.Cond.methodLink "MixBoothLaw" (327 : Nat) ({ cls := "MixBoothLaw", name := "strobe", desc := "(LMixBooth;II[J)I" } : Jvm.MethodName)) ∈ wt := wt_of 1370 (by decide +kernel) rfl
theorem wm_1371 : (Jvm.Cond.static ({ cls := "MixBoothLaw", name := "strobe", desc := "(LMixBooth;II[J)I" } : Jvm.MethodName)) ∈ wt := wt_of 1371 (by decide +kernel) rfl
theorem wm_1372 : (Jvm.Cond.codeWith ({ cls := "MixBoothLaw", name := "strobe", desc := "(LMixBooth;II[J)I" } : Jvm.MethodName) method_40_code (5 : Nat) (Option.some Jvm.ClassFile.FieldType.int) [((0 : Nat), (10 : Nat), (13 : Nat), (13 : Nat))]) ∈ wt := wt_of 1372 (by decide +kernel) rfl
theorem wm_1373 : (Jvm.Cond.methodLink "MixBoothLaw" (140 : Nat) ({ cls := "MixBooth", name := "strobe", desc := "(II)I" } : Jvm.MethodName)) ∈ wt := wt_of 1373 (by decide +kernel) rfl
theorem wm_1374 : (Jvm.Cond.instanceMethod ({ cls := "MixBooth", name := "strobe", desc := "(II)I" } : Jvm.MethodName)) ∈ wt := wt_of 1374 (by decide +kernel) rfl
theorem wm_1375 : (Jvm.Cond.selects "MixBooth" ({ cls := "MixBooth", name := "strobe", desc := "(II)I" } : Jvm.MethodName) ({ cls := "MixBooth", name := "strobe", desc := "(II)I" } : Jvm.MethodName)) ∈ wt := wt_of 1375 (by decide +kernel) rfl
theorem wm_1376 : (Jvm.Cond.code ({ cls := "MixBooth", name := "strobe", desc := "(II)I" } : Jvm.MethodName) prog_1_method_43_code (3 : Nat) (Option.some Jvm.ClassFile.FieldType.int)) ∈ wt := wt_of 1376 (by decide +kernel) rfl
theorem wm_1377 : (Jvm.Cond.methodLink "MixBoothLaw" (330 : Nat) ({ cls := "MixBoothLaw", name := "light", desc := "(LMixBooth;[J)I" } : Jvm.MethodName)) ∈ wt := wt_of 1377 (by decide +kernel) rfl
theorem wm_1378 : (Jvm.Cond.static ({ cls := "MixBoothLaw", name := "light", desc := "(LMixBooth;[J)I" } : Jvm.MethodName)) ∈ wt := wt_of 1378 (by decide +kernel) rfl
theorem wm_1379 : (Jvm.Cond.codeWith ({ cls := "MixBoothLaw", name := "light", desc := "(LMixBooth;[J)I" } : Jvm.MethodName) method_41_code (3 : Nat) (Option.some Jvm.ClassFile.FieldType.int) [((0 : Nat), (8 : Nat), (11 : Nat), (83 : Nat))]) ∈ wt := wt_of 1379 (by decide +kernel) rfl
theorem wm_1380 : (Jvm.Cond.methodLink "MixBoothLaw" (143 : Nat) ({ cls := "MixBooth", name := "light", desc := "()I" } : Jvm.MethodName)) ∈ wt := wt_of 1380 (by decide +kernel) rfl
theorem wm_1381 : (Jvm.Cond.instanceMethod ({ cls := "MixBooth", name := "light", desc := "()I" } : Jvm.MethodName)) ∈ wt := wt_of 1381 (by decide +kernel) rfl
theorem wm_1382 : (Jvm.Cond.selects "MixBooth" ({ cls := "MixBooth", name := "light", desc := "()I" } : Jvm.MethodName) ({ cls := "MixBooth", name := "light", desc := "()I" } : Jvm.MethodName)) ∈ wt := wt_of 1382 (by decide +kernel) rfl
theorem wm_1383 : (Jvm.Cond.code ({ cls := "MixBooth", name := "light", desc := "()I" } : Jvm.MethodName) prog_1_method_44_code (2 : Nat) (Option.some Jvm.ClassFile.FieldType.int)) ∈ wt := wt_of 1383 (by decide +kernel) rfl
theorem wm_1384 : (Jvm.Cond.methodLink "MixBooth" (315 : Nat) ({ cls := "MixBooth$Night", name := "loudestDeck", desc := "()LMixBooth$Deck;" } : Jvm.MethodName)) ∈ wt := wt_of 1384 (by decide +kernel) rfl
theorem wm_1385 : (Jvm.Cond.stringRef "MixBooth" (319 : Nat) "nothing is heard") ∈ wt := wt_of 1385 (by decide +kernel) rfl
theorem wm_1386 : (Jvm.Cond.methodLink "MixBooth" (324 : Nat) ({ cls := "MixBooth$Deck", name := "beatNow", desc := "()I" } : Jvm.MethodName)) ∈ wt := wt_of 1386 (by decide +kernel) rfl
theorem wm_1387 : (Jvm.Cond.methodLink "MixBoothLaw" (334 : Nat) ({ cls := "MixBoothLaw", name := "next", desc := "(LMixBooth;II[J)I" } : Jvm.MethodName)) ∈ wt := wt_of 1387 (by decide +kernel) rfl
theorem wm_1388 : (Jvm.Cond.static ({ cls := "MixBoothLaw", name := "next", desc := "(LMixBooth;II[J)I" } : Jvm.MethodName)) ∈ wt := wt_of 1388 (by decide +kernel) rfl
theorem wm_1389 : (Jvm.Cond.codeWith ({ cls := "MixBoothLaw", name := "next", desc := "(LMixBooth;II[J)I" } : Jvm.MethodName) method_42_code (5 : Nat) (Option.some Jvm.ClassFile.FieldType.int) [((0 : Nat), (10 : Nat), (13 : Nat), (21 : Nat)), ((0 : Nat), (10 : Nat), (17 : Nat), (13 : Nat)), ((0 : Nat), (10 : Nat), (21 : Nat), (23 : Nat)), ((0 : Nat), (10 : Nat), (25 : Nat), (83 : Nat))]) ∈ wt := wt_of 1389 (by decide +kernel) rfl
theorem wm_1390 : (Jvm.Cond.methodLink "MixBoothLaw" (147 : Nat) ({ cls := "MixBooth", name := "next", desc := "(II)I" } : Jvm.MethodName)) ∈ wt := wt_of 1390 (by decide +kernel) rfl
theorem wm_1391 : (Jvm.Cond.instanceMethod ({ cls := "MixBooth", name := "next", desc := "(II)I" } : Jvm.MethodName)) ∈ wt := wt_of 1391 (by decide +kernel) rfl
theorem wm_1392 : (Jvm.Cond.selects "MixBooth" ({ cls := "MixBooth", name := "next", desc := "(II)I" } : Jvm.MethodName) ({ cls := "MixBooth", name := "next", desc := "(II)I" } : Jvm.MethodName)) ∈ wt := wt_of 1392 (by decide +kernel) rfl
theorem wm_1393 : (Jvm.Cond.code ({ cls := "MixBooth", name := "next", desc := "(II)I" } : Jvm.MethodName) prog_1_method_45_code (3 : Nat) (Option.some Jvm.ClassFile.FieldType.int)) ∈ wt := wt_of 1393 (by decide +kernel) rfl
theorem wm_1394 : (Jvm.Cond.methodLink "MixBooth" (327 : Nat) ({ cls := "MixBooth", name := "searchFrom", desc := "(II)V" } : Jvm.MethodName)) ∈ wt := wt_of 1394 (by decide +kernel) rfl
theorem wm_1395 : (Jvm.Cond.privateMethod ({ cls := "MixBooth", name := "searchFrom", desc := "(II)V" } : Jvm.MethodName)) ∈ wt := wt_of 1395 (by decide +kernel) rfl
theorem wm_1396 : (Jvm.Cond.instanceMethod ({ cls := "MixBooth", name := "searchFrom", desc := "(II)V" } : Jvm.MethodName)) ∈ wt := wt_of 1396 (by decide +kernel) rfl
theorem wm_1397 : (Jvm.Cond.code ({ cls := "MixBooth", name := "searchFrom", desc := "(II)V" } : Jvm.MethodName) prog_1_method_69_code (4 : Nat) (Option.none : Option Jvm.ClassFile.FieldType)) ∈ wt := wt_of 1397 (by decide +kernel) rfl
theorem wm_1398 : (Jvm.Cond.stringRef "MixBooth" (452 : Nat) "there are not so many records") ∈ wt := wt_of 1398 (by decide +kernel) rfl
theorem wm_1399 : (Jvm.Cond.methodLink "MixBooth" (331 : Nat) ({ cls := "MixBooth$Search", name := "firstOfRow", desc := "()I" } : Jvm.MethodName)) ∈ wt := wt_of 1399 (by decide +kernel) rfl
theorem wm_1400 : (Jvm.Cond.instanceMethod ({ cls := "MixBooth$Search", name := "firstOfRow", desc := "()I" } : Jvm.MethodName)) ∈ wt := wt_of 1400 (by decide +kernel) rfl
theorem wm_1401 : (Jvm.Cond.selects "MixBooth$Search" ({ cls := "MixBooth$Search", name := "firstOfRow", desc := "()I" } : Jvm.MethodName) ({ cls := "MixBooth$Search", name := "firstOfRow", desc := "()I" } : Jvm.MethodName)) ∈ wt := wt_of 1401 (by decide +kernel) rfl
theorem wm_1402 : (Jvm.Cond.code ({ cls := "MixBooth$Search", name := "firstOfRow", desc := "()I" } : Jvm.MethodName) prog_11_method_6_code (1 : Nat) (Option.some Jvm.ClassFile.FieldType.int)) ∈ wt := wt_of 1402 (by decide +kernel) rfl
theorem wm_1403 : (Jvm.Cond.methodLink "MixBoothLaw" (337 : Nat) ({ cls := "MixBoothLaw", name := "cost", desc := "(LMixBooth;II[J)I" } : Jvm.MethodName)) ∈ wt := wt_of 1403 (by decide +kernel) rfl
theorem wm_1404 : (Jvm.Cond.static ({ cls := "MixBoothLaw", name := "cost", desc := "(LMixBooth;II[J)I" } : Jvm.MethodName)) ∈ wt := wt_of 1404 (by decide +kernel) rfl
theorem wm_1405 : (Jvm.Cond.codeWith ({ cls := "MixBoothLaw", name := "cost", desc := "(LMixBooth;II[J)I" } : Jvm.MethodName) method_43_code (5 : Nat) (Option.some Jvm.ClassFile.FieldType.int) [((0 : Nat), (10 : Nat), (13 : Nat), (21 : Nat)), ((0 : Nat), (10 : Nat), (17 : Nat), (13 : Nat)), ((0 : Nat), (10 : Nat), (21 : Nat), (23 : Nat)), ((0 : Nat), (10 : Nat), (25 : Nat), (83 : Nat))]) ∈ wt := wt_of 1405 (by decide +kernel) rfl
theorem wm_1406 : (Jvm.Cond.methodLink "MixBoothLaw" (150 : Nat) ({ cls := "MixBooth", name := "cost", desc := "(II)I" } : Jvm.MethodName)) ∈ wt := wt_of 1406 (by decide +kernel) rfl
theorem wm_1407 : (Jvm.Cond.instanceMethod ({ cls := "MixBooth", name := "cost", desc := "(II)I" } : Jvm.MethodName)) ∈ wt := wt_of 1407 (by decide +kernel) rfl
theorem wm_1408 : (Jvm.Cond.selects "MixBooth" ({ cls := "MixBooth", name := "cost", desc := "(II)I" } : Jvm.MethodName) ({ cls := "MixBooth", name := "cost", desc := "(II)I" } : Jvm.MethodName)) ∈ wt := wt_of 1408 (by decide +kernel) rfl
theorem wm_1409 : (Jvm.Cond.code ({ cls := "MixBooth", name := "cost", desc := "(II)I" } : Jvm.MethodName) prog_1_method_46_code (3 : Nat) (Option.some Jvm.ClassFile.FieldType.int)) ∈ wt := wt_of 1409 (by decide +kernel) rfl
theorem wm_1410 : (Jvm.Cond.methodLink "MixBoothLaw" (340 : Nat) ({ cls := "MixBoothLaw", name := "type", desc := "(LMixBooth;C[J)I" } : Jvm.MethodName)) ∈ wt := wt_of 1410 (by decide +kernel) rfl
theorem wm_1411 : (Jvm.Cond.static ({ cls := "MixBoothLaw", name := "type", desc := "(LMixBooth;C[J)I" } : Jvm.MethodName)) ∈ wt := wt_of 1411 (by decide +kernel) rfl
theorem wm_1412 : (Jvm.Cond.codeWith ({ cls := "MixBoothLaw", name := "type", desc := "(LMixBooth;C[J)I" } : Jvm.MethodName) method_44_code (4 : Nat) (Option.some Jvm.ClassFile.FieldType.int) [((0 : Nat), (9 : Nat), (12 : Nat), (15 : Nat))]) ∈ wt := wt_of 1412 (by decide +kernel) rfl
theorem wm_1413 : (Jvm.Cond.methodLink "MixBoothLaw" (153 : Nat) ({ cls := "MixBooth", name := "type", desc := "(C)I" } : Jvm.MethodName)) ∈ wt := wt_of 1413 (by decide +kernel) rfl
theorem wm_1414 : (Jvm.Cond.instanceMethod ({ cls := "MixBooth", name := "type", desc := "(C)I" } : Jvm.MethodName)) ∈ wt := wt_of 1414 (by decide +kernel) rfl
theorem wm_1415 : (Jvm.Cond.selects "MixBooth" ({ cls := "MixBooth", name := "type", desc := "(C)I" } : Jvm.MethodName) ({ cls := "MixBooth", name := "type", desc := "(C)I" } : Jvm.MethodName)) ∈ wt := wt_of 1415 (by decide +kernel) rfl
theorem wm_1416 : (Jvm.Cond.code ({ cls := "MixBooth", name := "type", desc := "(C)I" } : Jvm.MethodName) prog_1_method_47_code (2 : Nat) (Option.some Jvm.ClassFile.FieldType.int)) ∈ wt := wt_of 1416 (by decide +kernel) rfl
theorem wm_1417 : (Jvm.Cond.stringRef "MixBooth" (344 : Nat) "the text is full") ∈ wt := wt_of 1417 (by decide +kernel) rfl
theorem wm_1418 : (Jvm.Cond.methodLink "MixBooth" (346 : Nat) ({ cls := "MixBooth$Moves", name := "append", desc := "(C)I" } : Jvm.MethodName)) ∈ wt := wt_of 1418 (by decide +kernel) rfl
theorem wm_1419 : (Jvm.Cond.instanceMethod ({ cls := "MixBooth$Moves", name := "append", desc := "(C)I" } : Jvm.MethodName)) ∈ wt := wt_of 1419 (by decide +kernel) rfl
theorem wm_1420 : (Jvm.Cond.selects "MixBooth$Moves" ({ cls := "MixBooth$Moves", name := "append", desc := "(C)I" } : Jvm.MethodName) ({ cls := "MixBooth$Moves", name := "append", desc := "(C)I" } : Jvm.MethodName)) ∈ wt := wt_of 1420 (by decide +kernel) rfl
theorem wm_1421 : (Jvm.Cond.code ({ cls := "MixBooth$Moves", name := "append", desc := "(C)I" } : Jvm.MethodName) prog_9_method_2_code (2 : Nat) (Option.some Jvm.ClassFile.FieldType.int)) ∈ wt := wt_of 1421 (by decide +kernel) rfl
theorem wm_1422 : (Jvm.Cond.methodLink "MixBoothLaw" (347 : Nat) ({ cls := "MixBoothLaw", name := "perform", desc := "(LMixBooth;[J)I" } : Jvm.MethodName)) ∈ wt := wt_of 1422 (by decide +kernel) rfl
theorem wm_1423 : (Jvm.Cond.static ({ cls := "MixBoothLaw", name := "perform", desc := "(LMixBooth;[J)I" } : Jvm.MethodName)) ∈ wt := wt_of 1423 (by decide +kernel) rfl
theorem wm_1424 : (Jvm.Cond.codeWith ({ cls := "MixBoothLaw", name := "perform", desc := "(LMixBooth;[J)I" } : Jvm.MethodName) method_45_code (3 : Nat) (Option.some Jvm.ClassFile.FieldType.int) [((0 : Nat), (8 : Nat), (11 : Nat), (13 : Nat)), ((0 : Nat), (8 : Nat), (14 : Nat), (23 : Nat))]) ∈ wt := wt_of 1424 (by decide +kernel) rfl
theorem wm_1425 : (Jvm.Cond.methodLink "MixBoothLaw" (156 : Nat) ({ cls := "MixBooth", name := "perform", desc := "()I" } : Jvm.MethodName)) ∈ wt := wt_of 1425 (by decide +kernel) rfl
theorem wm_1426 : (Jvm.Cond.instanceMethod ({ cls := "MixBooth", name := "perform", desc := "()I" } : Jvm.MethodName)) ∈ wt := wt_of 1426 (by decide +kernel) rfl
theorem wm_1427 : (Jvm.Cond.selects "MixBooth" ({ cls := "MixBooth", name := "perform", desc := "()I" } : Jvm.MethodName) ({ cls := "MixBooth", name := "perform", desc := "()I" } : Jvm.MethodName)) ∈ wt := wt_of 1427 (by decide +kernel) rfl
theorem wm_1428 : (Jvm.Cond.code ({ cls := "MixBooth", name := "perform", desc := "()I" } : Jvm.MethodName) prog_1_method_49_code (3 : Nat) (Option.some Jvm.ClassFile.FieldType.int)) ∈ wt := wt_of 1428 (by decide +kernel) rfl
theorem wm_1429 : (Jvm.Cond.methodLink "MixBooth" (353 : Nat) ({ cls := "MixBooth$Moves", name := "isReadable", desc := "()Z" } : Jvm.MethodName)) ∈ wt := wt_of 1429 (by decide +kernel) rfl
theorem wm_1430 : (Jvm.Cond.instanceMethod ({ cls := "MixBooth$Moves", name := "isReadable", desc := "()Z" } : Jvm.MethodName)) ∈ wt := wt_of 1430 (by decide +kernel) rfl
theorem wm_1431 : (Jvm.Cond.selects "MixBooth$Moves" ({ cls := "MixBooth$Moves", name := "isReadable", desc := "()Z" } : Jvm.MethodName) ({ cls := "MixBooth$Moves", name := "isReadable", desc := "()Z" } : Jvm.MethodName)) ∈ wt := wt_of 1431 (by decide +kernel) rfl
theorem wm_1432 : (Jvm.Cond.code ({ cls := "MixBooth$Moves", name := "isReadable", desc := "()Z" } : Jvm.MethodName) prog_9_method_7_code (2 : Nat) (Option.some Jvm.ClassFile.FieldType.boolean)) ∈ wt := wt_of 1432 (by decide +kernel) rfl
theorem wm_1433 : (Jvm.Cond.methodLink "MixBooth$Moves" (38 : Nat) ({ cls := "MixBooth$Moves", name := "firstFault", desc := "()I" } : Jvm.MethodName)) ∈ wt := wt_of 1433 (by decide +kernel) rfl
theorem wm_1434 : (Jvm.Cond.privateMethod ({ cls := "MixBooth$Moves", name := "firstFault", desc := "()I" } : Jvm.MethodName)) ∈ wt := wt_of 1434 (by decide +kernel) rfl
theorem wm_1435 : (Jvm.Cond.instanceMethod ({ cls := "MixBooth$Moves", name := "firstFault", desc := "()I" } : Jvm.MethodName)) ∈ wt := wt_of 1435 (by decide +kernel) rfl
theorem wm_1436 : (Jvm.Cond.code ({ cls := "MixBooth$Moves", name := "firstFault", desc := "()I" } : Jvm.MethodName) prog_9_method_8_code (6 : Nat) (Option.some Jvm.ClassFile.FieldType.int)) ∈ wt := wt_of 1436 (by decide +kernel) rfl
theorem wm_1437 : (Jvm.Cond.methodLink "MixBooth$Moves" (54 : Nat) ({ cls := "MixBooth$Moves", name := "isLoneMove", desc := "(C)Z" } : Jvm.MethodName)) ∈ wt := wt_of 1437 (by decide +kernel) rfl
theorem wm_1438 : (Jvm.Cond.static ({ cls := "MixBooth$Moves", name := "isLoneMove", desc := "(C)Z" } : Jvm.MethodName)) ∈ wt := wt_of 1438 (by decide +kernel) rfl
theorem wm_1439 : (Jvm.Cond.code ({ cls := "MixBooth$Moves", name := "isLoneMove", desc := "(C)Z" } : Jvm.MethodName) prog_9_method_10_code (1 : Nat) (Option.some Jvm.ClassFile.FieldType.boolean)) ∈ wt := wt_of 1439 (by decide +kernel) rfl
theorem wm_1440 : (Jvm.Cond.stringRef "MixBooth" (358 : Nat) "the text cannot be read") ∈ wt := wt_of 1440 (by decide +kernel) rfl
theorem wm_1441 : (Jvm.Cond.methodLink "MixBooth" (365 : Nat) ({ cls := "MixBooth$Moves", name := "canBeDone", desc := "([LMixBooth$Deck;)Z" } : Jvm.MethodName)) ∈ wt := wt_of 1441 (by decide +kernel) rfl
theorem wm_1442 : (Jvm.Cond.instanceMethod ({ cls := "MixBooth$Moves", name := "canBeDone", desc := "([LMixBooth$Deck;)Z" } : Jvm.MethodName)) ∈ wt := wt_of 1442 (by decide +kernel) rfl
theorem wm_1443 : (Jvm.Cond.selects "MixBooth$Moves" ({ cls := "MixBooth$Moves", name := "canBeDone", desc := "([LMixBooth$Deck;)Z" } : Jvm.MethodName) ({ cls := "MixBooth$Moves", name := "canBeDone", desc := "([LMixBooth$Deck;)Z" } : Jvm.MethodName)) ∈ wt := wt_of 1443 (by decide +kernel) rfl
theorem wm_1444 : (Jvm.Cond.code ({ cls := "MixBooth$Moves", name := "canBeDone", desc := "([LMixBooth$Deck;)Z" } : Jvm.MethodName) prog_9_method_12_code (3 : Nat) (Option.some Jvm.ClassFile.FieldType.boolean)) ∈ wt := wt_of 1444 (by decide +kernel) rfl
theorem wm_1445 : (Jvm.Cond.methodLink "MixBooth$Moves" (57 : Nat) ({ cls := "MixBooth$Deck", name := "copyFrom", desc := "(LMixBooth$Deck;)V" } : Jvm.MethodName)) ∈ wt := wt_of 1445 (by decide +kernel) rfl
theorem wm_1446 : (Jvm.Cond.instanceMethod ({ cls := "MixBooth$Deck", name := "copyFrom", desc := "(LMixBooth$Deck;)V" } : Jvm.MethodName)) ∈ wt := wt_of 1446 (by decide +kernel) rfl
theorem wm_1447 : (Jvm.Cond.selects "MixBooth$Deck" ({ cls := "MixBooth$Deck", name := "copyFrom", desc := "(LMixBooth$Deck;)V" } : Jvm.MethodName) ({ cls := "MixBooth$Deck", name := "copyFrom", desc := "(LMixBooth$Deck;)V" } : Jvm.MethodName)) ∈ wt := wt_of 1447 (by decide +kernel) rfl
theorem wm_1448 : (Jvm.Cond.code ({ cls := "MixBooth$Deck", name := "copyFrom", desc := "(LMixBooth$Deck;)V" } : Jvm.MethodName) prog_3_method_4_code (3 : Nat) (Option.none : Option Jvm.ClassFile.FieldType)) ∈ wt := wt_of 1448 (by decide +kernel) rfl
theorem wm_1449 : (Jvm.Cond.methodLink "MixBooth$Moves" (61 : Nat) ({ cls := "MixBooth$Moves", name := "doAll", desc := "([LMixBooth$Deck;[CII)I" } : Jvm.MethodName)) ∈ wt := wt_of 1449 (by decide +kernel) rfl
theorem wm_1450 : (Jvm.Cond.stringRef "MixBooth" (369 : Nat) "a move cannot be done") ∈ wt := wt_of 1450 (by decide +kernel) rfl
theorem wm_1451 : (Jvm.Cond.methodLink "MixBooth" (371 : Nat) ({ cls := "MixBooth$Log", name := "noteText", desc := "([CI)I" } : Jvm.MethodName)) ∈ wt := wt_of 1451 (by decide +kernel) rfl
theorem wm_1452 : (Jvm.Cond.instanceMethod ({ cls := "MixBooth$Log", name := "noteText", desc := "([CI)I" } : Jvm.MethodName)) ∈ wt := wt_of 1452 (by decide +kernel) rfl
theorem wm_1453 : (Jvm.Cond.selects "MixBooth$Log" ({ cls := "MixBooth$Log", name := "noteText", desc := "([CI)I" } : Jvm.MethodName) ({ cls := "MixBooth$Log", name := "noteText", desc := "([CI)I" } : Jvm.MethodName)) ∈ wt := wt_of 1453 (by decide +kernel) rfl
theorem wm_1454 : (Jvm.Cond.code ({ cls := "MixBooth$Log", name := "noteText", desc := "([CI)I" } : Jvm.MethodName) prog_8_method_5_code (5 : Nat) (Option.some Jvm.ClassFile.FieldType.int)) ∈ wt := wt_of 1454 (by decide +kernel) rfl
theorem wm_1455 : (Jvm.Cond.methodLink "MixBoothLaw" (350 : Nat) ({ cls := "MixBoothLaw", name := "cause", desc := "(LMixBooth;I[J)I" } : Jvm.MethodName)) ∈ wt := wt_of 1455 (by decide +kernel) rfl
theorem wm_1456 : (Jvm.Cond.static ({ cls := "MixBoothLaw", name := "cause", desc := "(LMixBooth;I[J)I" } : Jvm.MethodName)) ∈ wt := wt_of 1456 (by decide +kernel) rfl
theorem wm_1457 : (Jvm.Cond.codeWith ({ cls := "MixBoothLaw", name := "cause", desc := "(LMixBooth;I[J)I" } : Jvm.MethodName) method_46_code (4 : Nat) (Option.some Jvm.ClassFile.FieldType.int) [((0 : Nat), (9 : Nat), (12 : Nat), (83 : Nat))]) ∈ wt := wt_of 1457 (by decide +kernel) rfl
theorem wm_1458 : (Jvm.Cond.methodLink "MixBoothLaw" (159 : Nat) ({ cls := "MixBooth", name := "cause", desc := "(I)C" } : Jvm.MethodName)) ∈ wt := wt_of 1458 (by decide +kernel) rfl
theorem wm_1459 : (Jvm.Cond.instanceMethod ({ cls := "MixBooth", name := "cause", desc := "(I)C" } : Jvm.MethodName)) ∈ wt := wt_of 1459 (by decide +kernel) rfl
theorem wm_1460 : (Jvm.Cond.selects "MixBooth" ({ cls := "MixBooth", name := "cause", desc := "(I)C" } : Jvm.MethodName) ({ cls := "MixBooth", name := "cause", desc := "(I)C" } : Jvm.MethodName)) ∈ wt := wt_of 1460 (by decide +kernel) rfl
theorem wm_1461 : (Jvm.Cond.code ({ cls := "MixBooth", name := "cause", desc := "(I)C" } : Jvm.MethodName) prog_1_method_50_code (2 : Nat) (Option.some Jvm.ClassFile.FieldType.char)) ∈ wt := wt_of 1461 (by decide +kernel) rfl
theorem wm_1462 : (Jvm.Cond.methodLink "MixBooth" (379 : Nat) ({ cls := "MixBooth", name := "demandCause", desc := "(I)V" } : Jvm.MethodName)) ∈ wt := wt_of 1462 (by decide +kernel) rfl
theorem wm_1463 : (Jvm.Cond.privateMethod ({ cls := "MixBooth", name := "demandCause", desc := "(I)V" } : Jvm.MethodName)) ∈ wt := wt_of 1463 (by decide +kernel) rfl
theorem wm_1464 : (Jvm.Cond.instanceMethod ({ cls := "MixBooth", name := "demandCause", desc := "(I)V" } : Jvm.MethodName)) ∈ wt := wt_of 1464 (by decide +kernel) rfl
theorem wm_1465 : (Jvm.Cond.code ({ cls := "MixBooth", name := "demandCause", desc := "(I)V" } : Jvm.MethodName) prog_1_method_66_code (2 : Nat) (Option.none : Option Jvm.ClassFile.FieldType)) ∈ wt := wt_of 1465 (by decide +kernel) rfl
theorem wm_1466 : (Jvm.Cond.stringRef "MixBooth" (433 : Nat) "there is no cause so deep") ∈ wt := wt_of 1466 (by decide +kernel) rfl
theorem wm_1467 : (Jvm.Cond.methodLink "MixBooth" (382 : Nat) ({ cls := "MixBooth$Moves", name := "causeSign", desc := "(I)C" } : Jvm.MethodName)) ∈ wt := wt_of 1467 (by decide +kernel) rfl
theorem wm_1468 : (Jvm.Cond.instanceMethod ({ cls := "MixBooth$Moves", name := "causeSign", desc := "(I)C" } : Jvm.MethodName)) ∈ wt := wt_of 1468 (by decide +kernel) rfl
theorem wm_1469 : (Jvm.Cond.selects "MixBooth$Moves" ({ cls := "MixBooth$Moves", name := "causeSign", desc := "(I)C" } : Jvm.MethodName) ({ cls := "MixBooth$Moves", name := "causeSign", desc := "(I)C" } : Jvm.MethodName)) ∈ wt := wt_of 1469 (by decide +kernel) rfl
theorem wm_1470 : (Jvm.Cond.code ({ cls := "MixBooth$Moves", name := "causeSign", desc := "(I)C" } : Jvm.MethodName) prog_9_method_4_code (2 : Nat) (Option.some Jvm.ClassFile.FieldType.char)) ∈ wt := wt_of 1470 (by decide +kernel) rfl
theorem wm_1471 : (Jvm.Cond.methodLink "MixBoothLaw" (353 : Nat) ({ cls := "MixBoothLaw", name := "causeNumber", desc := "(LMixBooth;I[J)I" } : Jvm.MethodName)) ∈ wt := wt_of 1471 (by decide +kernel) rfl
theorem wm_1472 : (Jvm.Cond.static ({ cls := "MixBoothLaw", name := "causeNumber", desc := "(LMixBooth;I[J)I" } : Jvm.MethodName)) ∈ wt := wt_of 1472 (by decide +kernel) rfl
theorem wm_1473 : (Jvm.Cond.codeWith ({ cls := "MixBoothLaw", name := "causeNumber", desc := "(LMixBooth;I[J)I" } : Jvm.MethodName) method_47_code (4 : Nat) (Option.some Jvm.ClassFile.FieldType.int) [((0 : Nat), (9 : Nat), (12 : Nat), (83 : Nat))]) ∈ wt := wt_of 1473 (by decide +kernel) rfl
theorem wm_1474 : (Jvm.Cond.methodLink "MixBoothLaw" (163 : Nat) ({ cls := "MixBooth", name := "causeNumber", desc := "(I)I" } : Jvm.MethodName)) ∈ wt := wt_of 1474 (by decide +kernel) rfl
theorem wm_1475 : (Jvm.Cond.instanceMethod ({ cls := "MixBooth", name := "causeNumber", desc := "(I)I" } : Jvm.MethodName)) ∈ wt := wt_of 1475 (by decide +kernel) rfl
theorem wm_1476 : (Jvm.Cond.selects "MixBooth" ({ cls := "MixBooth", name := "causeNumber", desc := "(I)I" } : Jvm.MethodName) ({ cls := "MixBooth", name := "causeNumber", desc := "(I)I" } : Jvm.MethodName)) ∈ wt := wt_of 1476 (by decide +kernel) rfl
theorem wm_1477 : (Jvm.Cond.code ({ cls := "MixBooth", name := "causeNumber", desc := "(I)I" } : Jvm.MethodName) prog_1_method_51_code (2 : Nat) (Option.some Jvm.ClassFile.FieldType.int)) ∈ wt := wt_of 1477 (by decide +kernel) rfl
theorem wm_1478 : (Jvm.Cond.methodLink "MixBooth" (386 : Nat) ({ cls := "MixBooth$Moves", name := "causePlace", desc := "(I)I" } : Jvm.MethodName)) ∈ wt := wt_of 1478 (by decide +kernel) rfl
theorem wm_1479 : (Jvm.Cond.instanceMethod ({ cls := "MixBooth$Moves", name := "causePlace", desc := "(I)I" } : Jvm.MethodName)) ∈ wt := wt_of 1479 (by decide +kernel) rfl
theorem wm_1480 : (Jvm.Cond.selects "MixBooth$Moves" ({ cls := "MixBooth$Moves", name := "causePlace", desc := "(I)I" } : Jvm.MethodName) ({ cls := "MixBooth$Moves", name := "causePlace", desc := "(I)I" } : Jvm.MethodName)) ∈ wt := wt_of 1480 (by decide +kernel) rfl
theorem wm_1481 : (Jvm.Cond.code ({ cls := "MixBooth$Moves", name := "causePlace", desc := "(I)I" } : Jvm.MethodName) prog_9_method_5_code (2 : Nat) (Option.some Jvm.ClassFile.FieldType.int)) ∈ wt := wt_of 1481 (by decide +kernel) rfl
theorem wm_1482 : (Jvm.Cond.methodLink "MixBoothLaw" (356 : Nat) ({ cls := "MixBoothLaw", name := "skip", desc := "(LMixBooth;II[J)I" } : Jvm.MethodName)) ∈ wt := wt_of 1482 (by decide +kernel) rfl
theorem wm_1483 : (Jvm.Cond.static ({ cls := "MixBoothLaw", name := "skip", desc := "(LMixBooth;II[J)I" } : Jvm.MethodName)) ∈ wt := wt_of 1483 (by decide +kernel) rfl
theorem wm_1484 : (Jvm.Cond.codeWith ({ cls := "MixBoothLaw", name := "skip", desc := "(LMixBooth;II[J)I" } : Jvm.MethodName) method_48_code (5 : Nat) (Option.some Jvm.ClassFile.FieldType.int) [((0 : Nat), (9 : Nat), (12 : Nat), (21 : Nat)), ((0 : Nat), (9 : Nat), (16 : Nat), (13 : Nat)), ((0 : Nat), (9 : Nat), (20 : Nat), (23 : Nat))]) ∈ wt := wt_of 1484 (by decide +kernel) rfl
theorem wm_1485 : (Jvm.Cond.methodLink "MixBoothLaw" (166 : Nat) ({ cls := "MixBooth", name := "skip", desc := "(II)J" } : Jvm.MethodName)) ∈ wt := wt_of 1485 (by decide +kernel) rfl
theorem wm_1486 : (Jvm.Cond.instanceMethod ({ cls := "MixBooth", name := "skip", desc := "(II)J" } : Jvm.MethodName)) ∈ wt := wt_of 1486 (by decide +kernel) rfl
theorem wm_1487 : (Jvm.Cond.selects "MixBooth" ({ cls := "MixBooth", name := "skip", desc := "(II)J" } : Jvm.MethodName) ({ cls := "MixBooth", name := "skip", desc := "(II)J" } : Jvm.MethodName)) ∈ wt := wt_of 1487 (by decide +kernel) rfl
theorem wm_1488 : (Jvm.Cond.code ({ cls := "MixBooth", name := "skip", desc := "(II)J" } : Jvm.MethodName) prog_1_method_52_code (4 : Nat) (Option.some Jvm.ClassFile.FieldType.long)) ∈ wt := wt_of 1488 (by decide +kernel) rfl
theorem wm_1489 : (Jvm.Cond.methodLink "MixBoothLaw" (359 : Nat) ({ cls := "MixBoothLaw", name := "loseStick", desc := "(LMixBooth;I[J)I" } : Jvm.MethodName)) ∈ wt := wt_of 1489 (by decide +kernel) rfl
theorem wm_1490 : (Jvm.Cond.static ({ cls := "MixBoothLaw", name := "loseStick", desc := "(LMixBooth;I[J)I" } : Jvm.MethodName)) ∈ wt := wt_of 1490 (by decide +kernel) rfl
theorem wm_1491 : (Jvm.Cond.codeWith ({ cls := "MixBoothLaw", name := "loseStick", desc := "(LMixBooth;I[J)I" } : Jvm.MethodName) method_49_code (4 : Nat) (Option.some Jvm.ClassFile.FieldType.int) [((0 : Nat), (9 : Nat), (12 : Nat), (21 : Nat)), ((0 : Nat), (9 : Nat), (15 : Nat), (23 : Nat))]) ∈ wt := wt_of 1491 (by decide +kernel) rfl
theorem wm_1492 : (Jvm.Cond.methodLink "MixBoothLaw" (170 : Nat) ({ cls := "MixBooth", name := "loseStick", desc := "(I)I" } : Jvm.MethodName)) ∈ wt := wt_of 1492 (by decide +kernel) rfl
theorem wm_1493 : (Jvm.Cond.instanceMethod ({ cls := "MixBooth", name := "loseStick", desc := "(I)I" } : Jvm.MethodName)) ∈ wt := wt_of 1493 (by decide +kernel) rfl
theorem wm_1494 : (Jvm.Cond.selects "MixBooth" ({ cls := "MixBooth", name := "loseStick", desc := "(I)I" } : Jvm.MethodName) ({ cls := "MixBooth", name := "loseStick", desc := "(I)I" } : Jvm.MethodName)) ∈ wt := wt_of 1494 (by decide +kernel) rfl
theorem wm_1495 : (Jvm.Cond.code ({ cls := "MixBooth", name := "loseStick", desc := "(I)I" } : Jvm.MethodName) prog_1_method_53_code (3 : Nat) (Option.some Jvm.ClassFile.FieldType.int)) ∈ wt := wt_of 1495 (by decide +kernel) rfl
theorem wm_1496 : (Jvm.Cond.methodLink "MixBoothLaw" (375 : Nat) ({ cls := "MixBoothLaw", name := "silentShare", desc := "(LMixBooth;[D)I" } : Jvm.MethodName)) ∈ wt := wt_of 1496 (by decide +kernel) rfl
theorem wm_1497 : (Jvm.Cond.static ({ cls := "MixBoothLaw", name := "silentShare", desc := "(LMixBooth;[D)I" } : Jvm.MethodName)) ∈ wt := wt_of 1497 (by decide +kernel) rfl
theorem wm_1498 : (Jvm.Cond.codeWith ({ cls := "MixBoothLaw", name := "silentShare", desc := "(LMixBooth;[D)I" } : Jvm.MethodName) method_50_code (3 : Nat) (Option.some Jvm.ClassFile.FieldType.int) [((0 : Nat), (8 : Nat), (11 : Nat), (177 : Nat))]) ∈ wt := wt_of 1498 (by decide +kernel) rfl
theorem wm_1499 : (Jvm.Cond.classLink "MixBoothLaw" (177 : Nat) "java/lang/ArithmeticException") ∈ wt := wt_of 1499 (by decide +kernel) rfl
theorem wm_1500 : (Jvm.Cond.instantiable "java/lang/ArithmeticException" (6 : Nat)) ∈ wt := wt_of 1500 (by decide +kernel) rfl
theorem wm_1501 : (Jvm.Cond.instanceMethod ({ cls := "java/lang/ArithmeticException", name := "<init>", desc := "(Ljava/lang/String;)V" } : Jvm.MethodName)) ∈ wt := wt_of 1501 (by decide +kernel) rfl
theorem wm_1502 : (Jvm.Cond.code ({ cls := "java/lang/ArithmeticException", name := "<init>", desc := "(Ljava/lang/String;)V" } : Jvm.MethodName) prog_19_method_2_code (2 : Nat) (Option.none : Option Jvm.ClassFile.FieldType)) ∈ wt := wt_of 1502 (by decide +kernel) rfl
theorem wm_1503 : (Jvm.Cond.methodLink "java/lang/ArithmeticException" (7 : Nat) ({ cls := "java/lang/RuntimeException", name := "<init>", desc := "(Ljava/lang/String;)V" } : Jvm.MethodName)) ∈ wt := wt_of 1503 (by decide +kernel) rfl
theorem wm_1504 : (Jvm.Cond.lays "java/lang/ArithmeticException" "java/lang/Throwable" "backtrace" "Ljava/lang/Object;") ∈ wt := wt_of 1504 (by decide +kernel) rfl
theorem wm_1505 : (Jvm.Cond.lays "java/lang/ArithmeticException" "java/lang/Throwable" "detailMessage" "Ljava/lang/String;") ∈ wt := wt_of 1505 (by decide +kernel) rfl
theorem wm_1506 : (Jvm.Cond.lays "java/lang/ArithmeticException" "java/lang/Throwable" "cause" "Ljava/lang/Throwable;") ∈ wt := wt_of 1506 (by decide +kernel) rfl
theorem wm_1507 : (Jvm.Cond.lays "java/lang/ArithmeticException" "java/lang/Throwable" "stackTrace" "[Ljava/lang/StackTraceElement;") ∈ wt := wt_of 1507 (by decide +kernel) rfl
theorem wm_1508 : (Jvm.Cond.lays "java/lang/ArithmeticException" "java/lang/Throwable" "depth" "I") ∈ wt := wt_of 1508 (by decide +kernel) rfl
theorem wm_1509 : (Jvm.Cond.lays "java/lang/ArithmeticException" "java/lang/Throwable" "suppressedExceptions" "Ljava/util/List;") ∈ wt := wt_of 1509 (by decide +kernel) rfl
theorem wm_1510 : (Jvm.Cond.superclass "java/lang/ArithmeticException" "java/lang/RuntimeException") ∈ wt := wt_of 1510 (by decide +kernel) rfl
theorem wm_1511 : (Jvm.Cond.castable "java/lang/ArithmeticException" "java/lang/ArithmeticException") ∈ wt := wt_of 1511 (by decide +kernel) rfl
theorem wm_1512 : (Jvm.Cond.selects "java/lang/ArithmeticException" ({ cls := "java/lang/Throwable", name := "fillInStackTrace", desc := "(I)Ljava/lang/Throwable;" } : Jvm.MethodName) ({ cls := "java/lang/Throwable", name := "fillInStackTrace", desc := "(I)Ljava/lang/Throwable;" } : Jvm.MethodName)) ∈ wt := wt_of 1512 (by decide +kernel) rfl
theorem wm_1513 : (Jvm.Cond.methodLink "MixBoothLaw" (173 : Nat) ({ cls := "MixBooth", name := "silentShare", desc := "()F" } : Jvm.MethodName)) ∈ wt := wt_of 1513 (by decide +kernel) rfl
theorem wm_1514 : (Jvm.Cond.instanceMethod ({ cls := "MixBooth", name := "silentShare", desc := "()F" } : Jvm.MethodName)) ∈ wt := wt_of 1514 (by decide +kernel) rfl
theorem wm_1515 : (Jvm.Cond.selects "MixBooth" ({ cls := "MixBooth", name := "silentShare", desc := "()F" } : Jvm.MethodName) ({ cls := "MixBooth", name := "silentShare", desc := "()F" } : Jvm.MethodName)) ∈ wt := wt_of 1515 (by decide +kernel) rfl
theorem wm_1516 : (Jvm.Cond.code ({ cls := "MixBooth", name := "silentShare", desc := "()F" } : Jvm.MethodName) prog_1_method_57_code (1 : Nat) (Option.some Jvm.ClassFile.FieldType.float)) ∈ wt := wt_of 1516 (by decide +kernel) rfl
theorem wm_1517 : (Jvm.Cond.methodLink "MixBooth" (406 : Nat) ({ cls := "MixBooth", name := "demandTicks", desc := "()V" } : Jvm.MethodName)) ∈ wt := wt_of 1517 (by decide +kernel) rfl
theorem wm_1518 : (Jvm.Cond.privateMethod ({ cls := "MixBooth", name := "demandTicks", desc := "()V" } : Jvm.MethodName)) ∈ wt := wt_of 1518 (by decide +kernel) rfl
theorem wm_1519 : (Jvm.Cond.instanceMethod ({ cls := "MixBooth", name := "demandTicks", desc := "()V" } : Jvm.MethodName)) ∈ wt := wt_of 1519 (by decide +kernel) rfl
theorem wm_1520 : (Jvm.Cond.code ({ cls := "MixBooth", name := "demandTicks", desc := "()V" } : Jvm.MethodName) prog_1_method_65_code (1 : Nat) (Option.none : Option Jvm.ClassFile.FieldType)) ∈ wt := wt_of 1520 (by decide +kernel) rfl
theorem wm_1521 : (Jvm.Cond.classLink "MixBooth" (425 : Nat) "java/lang/ArithmeticException") ∈ wt := wt_of 1521 (by decide +kernel) rfl
theorem wm_1522 : (Jvm.Cond.stringRef "MixBooth" (427 : Nat) "no tick is gone") ∈ wt := wt_of 1522 (by decide +kernel) rfl
theorem wm_1523 : (Jvm.Cond.methodLink "MixBooth" (429 : Nat) ({ cls := "java/lang/ArithmeticException", name := "<init>", desc := "(Ljava/lang/String;)V" } : Jvm.MethodName)) ∈ wt := wt_of 1523 (by decide +kernel) rfl
theorem wm_1524 : (Jvm.Cond.methodLink "MixBoothLaw" (379 : Nat) ({ cls := "MixBoothLaw", name := "meanLoudness", desc := "(LMixBooth;[D)I" } : Jvm.MethodName)) ∈ wt := wt_of 1524 (by decide +kernel) rfl
theorem wm_1525 : (Jvm.Cond.static ({ cls := "MixBoothLaw", name := "meanLoudness", desc := "(LMixBooth;[D)I" } : Jvm.MethodName)) ∈ wt := wt_of 1525 (by decide +kernel) rfl
theorem wm_1526 : (Jvm.Cond.codeWith ({ cls := "MixBoothLaw", name := "meanLoudness", desc := "(LMixBooth;[D)I" } : Jvm.MethodName) method_51_code (3 : Nat) (Option.some Jvm.ClassFile.FieldType.int) [((0 : Nat), (7 : Nat), (10 : Nat), (177 : Nat))]) ∈ wt := wt_of 1526 (by decide +kernel) rfl
theorem wm_1527 : (Jvm.Cond.methodLink "MixBoothLaw" (179 : Nat) ({ cls := "MixBooth", name := "meanLoudness", desc := "()D" } : Jvm.MethodName)) ∈ wt := wt_of 1527 (by decide +kernel) rfl
theorem wm_1528 : (Jvm.Cond.instanceMethod ({ cls := "MixBooth", name := "meanLoudness", desc := "()D" } : Jvm.MethodName)) ∈ wt := wt_of 1528 (by decide +kernel) rfl
theorem wm_1529 : (Jvm.Cond.selects "MixBooth" ({ cls := "MixBooth", name := "meanLoudness", desc := "()D" } : Jvm.MethodName) ({ cls := "MixBooth", name := "meanLoudness", desc := "()D" } : Jvm.MethodName)) ∈ wt := wt_of 1529 (by decide +kernel) rfl
theorem wm_1530 : (Jvm.Cond.code ({ cls := "MixBooth", name := "meanLoudness", desc := "()D" } : Jvm.MethodName) prog_1_method_58_code (1 : Nat) (Option.some Jvm.ClassFile.FieldType.double)) ∈ wt := wt_of 1530 (by decide +kernel) rfl
theorem wm_1531 : (Jvm.Cond.classLink "MixBoothLaw" (184 : Nat) "MixBoothModel") ∈ wt := wt_of 1531 (by decide +kernel) rfl
theorem wm_1532 : (Jvm.Cond.instantiable "MixBoothModel" (23 : Nat)) ∈ wt := wt_of 1532 (by decide +kernel) rfl
theorem wm_1533 : (Jvm.Cond.methodLink "MixBoothLaw" (186 : Nat) ({ cls := "MixBoothModel", name := "<init>", desc := "()V" } : Jvm.MethodName)) ∈ wt := wt_of 1533 (by decide +kernel) rfl
theorem wm_1534 : (Jvm.Cond.instanceMethod ({ cls := "MixBoothModel", name := "<init>", desc := "()V" } : Jvm.MethodName)) ∈ wt := wt_of 1534 (by decide +kernel) rfl
theorem wm_1535 : (Jvm.Cond.code ({ cls := "MixBoothModel", name := "<init>", desc := "()V" } : Jvm.MethodName) prog_13_method_1_code (1 : Nat) (Option.none : Option Jvm.ClassFile.FieldType)) ∈ wt := wt_of 1535 (by decide +kernel) rfl
theorem wm_1536 : (Jvm.Cond.methodLink "MixBoothModel" (1 : Nat) ({ cls := "java/lang/Object", name := "<init>", desc := "()V" } : Jvm.MethodName)) ∈ wt := wt_of 1536 (by decide +kernel) rfl
theorem wm_1537 : (Jvm.Cond.classLink "MixBoothModel" (7 : Nat) "java/util/ArrayList") ∈ wt := wt_of 1537 (by decide +kernel) rfl
theorem wm_1538 : (Jvm.Cond.instantiable "java/util/ArrayList" (3 : Nat)) ∈ wt := wt_of 1538 (by decide +kernel) rfl
theorem wm_1539 : (Jvm.Cond.methodLink "MixBoothModel" (9 : Nat) ({ cls := "java/util/ArrayList", name := "<init>", desc := "()V" } : Jvm.MethodName)) ∈ wt := wt_of 1539 (by decide +kernel) rfl
theorem wm_1540 : (Jvm.Cond.instanceMethod ({ cls := "java/util/ArrayList", name := "<init>", desc := "()V" } : Jvm.MethodName)) ∈ wt := wt_of 1540 (by decide +kernel) rfl
theorem wm_1541 : (Jvm.Cond.code ({ cls := "java/util/ArrayList", name := "<init>", desc := "()V" } : Jvm.MethodName) prog_45_method_2_code (1 : Nat) (Option.none : Option Jvm.ClassFile.FieldType)) ∈ wt := wt_of 1541 (by decide +kernel) rfl
theorem wm_1542 : (Jvm.Cond.methodLink "java/util/ArrayList" (1 : Nat) ({ cls := "java/util/AbstractList", name := "<init>", desc := "()V" } : Jvm.MethodName)) ∈ wt := wt_of 1542 (by decide +kernel) rfl
theorem wm_1543 : (Jvm.Cond.instanceMethod ({ cls := "java/util/AbstractList", name := "<init>", desc := "()V" } : Jvm.MethodName)) ∈ wt := wt_of 1543 (by decide +kernel) rfl
theorem wm_1544 : (Jvm.Cond.code ({ cls := "java/util/AbstractList", name := "<init>", desc := "()V" } : Jvm.MethodName) prog_44_method_1_code (1 : Nat) (Option.none : Option Jvm.ClassFile.FieldType)) ∈ wt := wt_of 1544 (by decide +kernel) rfl
theorem wm_1545 : (Jvm.Cond.methodLink "java/util/AbstractList" (1 : Nat) ({ cls := "java/util/AbstractCollection", name := "<init>", desc := "()V" } : Jvm.MethodName)) ∈ wt := wt_of 1545 (by decide +kernel) rfl
theorem wm_1546 : (Jvm.Cond.instanceMethod ({ cls := "java/util/AbstractCollection", name := "<init>", desc := "()V" } : Jvm.MethodName)) ∈ wt := wt_of 1546 (by decide +kernel) rfl
theorem wm_1547 : (Jvm.Cond.code ({ cls := "java/util/AbstractCollection", name := "<init>", desc := "()V" } : Jvm.MethodName) prog_43_method_1_code (1 : Nat) (Option.none : Option Jvm.ClassFile.FieldType)) ∈ wt := wt_of 1547 (by decide +kernel) rfl
theorem wm_1548 : (Jvm.Cond.methodLink "java/util/AbstractCollection" (1 : Nat) ({ cls := "java/lang/Object", name := "<init>", desc := "()V" } : Jvm.MethodName)) ∈ wt := wt_of 1548 (by decide +kernel) rfl
theorem wm_1549 : (Jvm.Cond.fieldLink "java/util/ArrayList" (39 : Nat) "java/util/ArrayList" "DEFAULTCAPACITY_EMPTY_ELEMENTDATA" "[Ljava/lang/Object;") ∈ wt := wt_of 1549 (by decide +kernel) rfl
theorem wm_1550 : (Jvm.Cond.laysStatic "java/util/ArrayList" "DEFAULTCAPACITY_EMPTY_ELEMENTDATA" "[Ljava/lang/Object;") ∈ wt := wt_of 1550 (by decide +kernel) rfl
theorem wm_1551 : (Jvm.Cond.fieldLink "java/util/ArrayList" (9 : Nat) "java/util/ArrayList" "elementData" "[Ljava/lang/Object;") ∈ wt := wt_of 1551 (by decide +kernel) rfl
theorem wm_1552 : (Jvm.Cond.fieldLink "java/util/ArrayList$Itr" (37 : Nat) "java/util/ArrayList" "elementData" "[Ljava/lang/Object;") ∈ wt := wt_of 1552 (by decide +kernel) rfl
theorem wm_1553 : (Jvm.Cond.fieldLinkNest "java/util/ArrayList$Itr" (28 : Nat) "java/util/ArrayList" "size" "I" "java/util/ArrayList") ∈ wt := wt_of 1553 (by decide +kernel) rfl
theorem wm_1554 : (Jvm.Cond.fieldLink "java/util/ArrayList" (48 : Nat) "java/util/ArrayList" "size" "I") ∈ wt := wt_of 1554 (by decide +kernel) rfl
theorem wm_1555 : (Jvm.Cond.fieldLink "java/util/AbstractList" (7 : Nat) "java/util/AbstractList" "modCount" "I") ∈ wt := wt_of 1555 (by decide +kernel) rfl
theorem wm_1556 : (Jvm.Cond.fieldLink "java/util/ArrayList$Itr" (17 : Nat) "java/util/ArrayList" "modCount" "I") ∈ wt := wt_of 1556 (by decide +kernel) rfl
theorem wm_1557 : (Jvm.Cond.sameField "java/util/ArrayList" "java/util/AbstractList" "modCount" "I") ∈ wt := wt_of 1557 (by decide +kernel) rfl
theorem wm_1558 : (Jvm.Cond.fieldLink "java/util/ArrayList" (63 : Nat) "java/util/ArrayList" "modCount" "I") ∈ wt := wt_of 1558 (by decide +kernel) rfl
theorem wm_1559 : (Jvm.Cond.lays "java/util/ArrayList" "java/util/ArrayList" "elementData" "[Ljava/lang/Object;") ∈ wt := wt_of 1559 (by decide +kernel) rfl
theorem wm_1560 : (Jvm.Cond.soleField "java/util/ArrayList" "elementData") ∈ wt := wt_of 1560 (by decide +kernel) rfl
theorem wm_1561 : (Jvm.Cond.lays "java/util/ArrayList" "java/util/ArrayList" "size" "I") ∈ wt := wt_of 1561 (by decide +kernel) rfl
theorem wm_1562 : (Jvm.Cond.soleField "java/util/ArrayList" "size") ∈ wt := wt_of 1562 (by decide +kernel) rfl
theorem wm_1563 : (Jvm.Cond.lays "java/util/ArrayList" "java/util/AbstractList" "modCount" "I") ∈ wt := wt_of 1563 (by decide +kernel) rfl
theorem wm_1564 : (Jvm.Cond.soleField "java/util/AbstractList" "modCount") ∈ wt := wt_of 1564 (by decide +kernel) rfl
theorem wm_1565 : (Jvm.Cond.superclass "java/util/ArrayList" "java/util/AbstractList") ∈ wt := wt_of 1565 (by decide +kernel) rfl
theorem wm_1566 : (Jvm.Cond.classLink "MixBoothModel" (16 : Nat) "MixBoothModel$Deck") ∈ wt := wt_of 1566 (by decide +kernel) rfl
theorem wm_1567 : (Jvm.Cond.arrayOver (Jvm.ClassFile.FieldType.object "MixBoothModel$Deck")) ∈ wt := wt_of 1567 (by decide +kernel) rfl
theorem wm_1568 : (Jvm.Cond.instantiable "MixBoothModel$Deck" (16 : Nat)) ∈ wt := wt_of 1568 (by decide +kernel) rfl
theorem wm_1569 : (Jvm.Cond.methodLinkNest "MixBoothModel" (18 : Nat) ({ cls := "MixBoothModel$Deck", name := "<init>", desc := "()V" } : Jvm.MethodName) "MixBoothModel") ∈ wt := wt_of 1569 (by decide +kernel) rfl
theorem wm_1570 : (Jvm.Cond.instanceMethod ({ cls := "MixBoothModel$Deck", name := "<init>", desc := "()V" } : Jvm.MethodName)) ∈ wt := wt_of 1570 (by decide +kernel) rfl
theorem wm_1571 : (Jvm.Cond.code ({ cls := "MixBoothModel$Deck", name := "<init>", desc := "()V" } : Jvm.MethodName) prog_14_method_1_code (1 : Nat) (Option.none : Option Jvm.ClassFile.FieldType)) ∈ wt := wt_of 1571 (by decide +kernel) rfl
theorem wm_1572 : (Jvm.Cond.methodLink "MixBoothModel$Deck" (3 : Nat) ({ cls := "java/lang/Object", name := "<init>", desc := "()V" } : Jvm.MethodName)) ∈ wt := wt_of 1572 (by decide +kernel) rfl
theorem wm_1573 : (Jvm.Cond.classLink "MixBoothModel$Deck" (25 : Nat) "java/util/ArrayList") ∈ wt := wt_of 1573 (by decide +kernel) rfl
theorem wm_1574 : (Jvm.Cond.methodLink "MixBoothModel$Deck" (27 : Nat) ({ cls := "java/util/ArrayList", name := "<init>", desc := "()V" } : Jvm.MethodName)) ∈ wt := wt_of 1574 (by decide +kernel) rfl
theorem wm_1575 : (Jvm.Cond.fieldLink "MixBoothModel$Deck" (41 : Nat) "MixBoothModel$Deck" "disc" "LMixBoothModel$Disc;") ∈ wt := wt_of 1575 (by decide +kernel) rfl
theorem wm_1576 : (Jvm.Cond.fieldLinkNest "MixBoothModel" (60 : Nat) "MixBoothModel$Deck" "disc" "LMixBoothModel$Disc;" "MixBoothModel") ∈ wt := wt_of 1576 (by decide +kernel) rfl
theorem wm_1577 : (Jvm.Cond.fieldLink "MixBoothModel$Deck" (9 : Nat) "MixBoothModel$Deck" "number" "I") ∈ wt := wt_of 1577 (by decide +kernel) rfl
theorem wm_1578 : (Jvm.Cond.fieldLinkNest "MixBoothModel" (127 : Nat) "MixBoothModel$Deck" "number" "I" "MixBoothModel") ∈ wt := wt_of 1578 (by decide +kernel) rfl
theorem wm_1579 : (Jvm.Cond.fieldLink "MixBoothModel$Deck" (45 : Nat) "MixBoothModel$Deck" "pitch" "I") ∈ wt := wt_of 1579 (by decide +kernel) rfl
theorem wm_1580 : (Jvm.Cond.fieldLinkNest "MixBoothModel" (146 : Nat) "MixBoothModel$Deck" "pitch" "I" "MixBoothModel") ∈ wt := wt_of 1580 (by decide +kernel) rfl
theorem wm_1581 : (Jvm.Cond.fieldLink "MixBoothModel$Deck" (48 : Nat) "MixBoothModel$Deck" "nudge" "I") ∈ wt := wt_of 1581 (by decide +kernel) rfl
theorem wm_1582 : (Jvm.Cond.fieldLinkNest "MixBoothModel" (149 : Nat) "MixBoothModel$Deck" "nudge" "I" "MixBoothModel") ∈ wt := wt_of 1582 (by decide +kernel) rfl
theorem wm_1583 : (Jvm.Cond.fieldLink "MixBoothModel$Deck" (15 : Nat) "MixBoothModel$Deck" "braked" "I") ∈ wt := wt_of 1583 (by decide +kernel) rfl
theorem wm_1584 : (Jvm.Cond.fieldLinkNest "MixBoothModel" (152 : Nat) "MixBoothModel$Deck" "braked" "I" "MixBoothModel") ∈ wt := wt_of 1584 (by decide +kernel) rfl
theorem wm_1585 : (Jvm.Cond.fieldLink "MixBoothModel$Deck" (51 : Nat) "MixBoothModel$Deck" "fader" "I") ∈ wt := wt_of 1585 (by decide +kernel) rfl
theorem wm_1586 : (Jvm.Cond.fieldLinkNest "MixBoothModel" (199 : Nat) "MixBoothModel$Deck" "fader" "I" "MixBoothModel") ∈ wt := wt_of 1586 (by decide +kernel) rfl
theorem wm_1587 : (Jvm.Cond.fieldLink "MixBoothModel$Deck" (18 : Nat) "MixBoothModel$Deck" "bands" "[I") ∈ wt := wt_of 1587 (by decide +kernel) rfl
theorem wm_1588 : (Jvm.Cond.fieldLinkNest "MixBoothModel" (202 : Nat) "MixBoothModel$Deck" "bands" "[I" "MixBoothModel") ∈ wt := wt_of 1588 (by decide +kernel) rfl
theorem wm_1589 : (Jvm.Cond.fieldLink "MixBoothModel$Deck" (22 : Nat) "MixBoothModel$Deck" "cues" "[I") ∈ wt := wt_of 1589 (by decide +kernel) rfl
theorem wm_1590 : (Jvm.Cond.fieldLinkNest "MixBoothModel" (176 : Nat) "MixBoothModel$Deck" "cues" "[I" "MixBoothModel") ∈ wt := wt_of 1590 (by decide +kernel) rfl
theorem wm_1591 : (Jvm.Cond.fieldLink "MixBoothModel$Deck" (28 : Nat) "MixBoothModel$Deck" "effects" "Ljava/util/List;") ∈ wt := wt_of 1591 (by decide +kernel) rfl
theorem wm_1592 : (Jvm.Cond.fieldLinkNest "MixBoothModel" (230 : Nat) "MixBoothModel$Deck" "effects" "Ljava/util/List;" "MixBoothModel") ∈ wt := wt_of 1592 (by decide +kernel) rfl
theorem wm_1593 : (Jvm.Cond.fieldLink "MixBoothModel$Deck" (54 : Nat) "MixBoothModel$Deck" "place" "J") ∈ wt := wt_of 1593 (by decide +kernel) rfl
theorem wm_1594 : (Jvm.Cond.fieldLinkNest "MixBoothModel" (163 : Nat) "MixBoothModel$Deck" "place" "J" "MixBoothModel") ∈ wt := wt_of 1594 (by decide +kernel) rfl
theorem wm_1595 : (Jvm.Cond.fieldLink "MixBoothModel$Deck" (58 : Nat) "MixBoothModel$Deck" "second" "J") ∈ wt := wt_of 1595 (by decide +kernel) rfl
theorem wm_1596 : (Jvm.Cond.fieldLinkNest "MixBoothModel" (192 : Nat) "MixBoothModel$Deck" "second" "J" "MixBoothModel") ∈ wt := wt_of 1596 (by decide +kernel) rfl
theorem wm_1597 : (Jvm.Cond.fieldLink "MixBoothModel$Deck" (61 : Nat) "MixBoothModel$Deck" "loopEnd" "J") ∈ wt := wt_of 1597 (by decide +kernel) rfl
theorem wm_1598 : (Jvm.Cond.fieldLinkNest "MixBoothModel" (179 : Nat) "MixBoothModel$Deck" "loopEnd" "J" "MixBoothModel") ∈ wt := wt_of 1598 (by decide +kernel) rfl
theorem wm_1599 : (Jvm.Cond.fieldLink "MixBoothModel$Deck" (64 : Nat) "MixBoothModel$Deck" "loopLength" "J") ∈ wt := wt_of 1599 (by decide +kernel) rfl
theorem wm_1600 : (Jvm.Cond.fieldLinkNest "MixBoothModel" (182 : Nat) "MixBoothModel$Deck" "loopLength" "J" "MixBoothModel") ∈ wt := wt_of 1600 (by decide +kernel) rfl
theorem wm_1601 : (Jvm.Cond.fieldLink "MixBoothModel$Deck" (67 : Nat) "MixBoothModel$Deck" "plays" "Z") ∈ wt := wt_of 1601 (by decide +kernel) rfl
theorem wm_1602 : (Jvm.Cond.fieldLinkNest "MixBoothModel" (124 : Nat) "MixBoothModel$Deck" "plays" "Z" "MixBoothModel") ∈ wt := wt_of 1602 (by decide +kernel) rfl
theorem wm_1603 : (Jvm.Cond.fieldLink "MixBoothModel$Deck" (71 : Nat) "MixBoothModel$Deck" "isSlip" "Z") ∈ wt := wt_of 1603 (by decide +kernel) rfl
theorem wm_1604 : (Jvm.Cond.fieldLinkNest "MixBoothModel" (189 : Nat) "MixBoothModel$Deck" "isSlip" "Z" "MixBoothModel") ∈ wt := wt_of 1604 (by decide +kernel) rfl
theorem wm_1605 : (Jvm.Cond.fieldLink "MixBoothModel$Deck" (32 : Nat) "MixBoothModel$Deck" "side" "C") ∈ wt := wt_of 1605 (by decide +kernel) rfl
theorem wm_1606 : (Jvm.Cond.fieldLinkNest "MixBoothModel" (212 : Nat) "MixBoothModel$Deck" "side" "C" "MixBoothModel") ∈ wt := wt_of 1606 (by decide +kernel) rfl
theorem wm_1607 : (Jvm.Cond.lays "MixBoothModel$Deck" "MixBoothModel$Deck" "disc" "LMixBoothModel$Disc;") ∈ wt := wt_of 1607 (by decide +kernel) rfl
theorem wm_1608 : (Jvm.Cond.soleField "MixBoothModel$Deck" "disc") ∈ wt := wt_of 1608 (by decide +kernel) rfl
theorem wm_1609 : (Jvm.Cond.lays "MixBoothModel$Deck" "MixBoothModel$Deck" "number" "I") ∈ wt := wt_of 1609 (by decide +kernel) rfl
theorem wm_1610 : (Jvm.Cond.soleField "MixBoothModel$Deck" "number") ∈ wt := wt_of 1610 (by decide +kernel) rfl
theorem wm_1611 : (Jvm.Cond.lays "MixBoothModel$Deck" "MixBoothModel$Deck" "pitch" "I") ∈ wt := wt_of 1611 (by decide +kernel) rfl
theorem wm_1612 : (Jvm.Cond.soleField "MixBoothModel$Deck" "pitch") ∈ wt := wt_of 1612 (by decide +kernel) rfl
theorem wm_1613 : (Jvm.Cond.lays "MixBoothModel$Deck" "MixBoothModel$Deck" "nudge" "I") ∈ wt := wt_of 1613 (by decide +kernel) rfl
theorem wm_1614 : (Jvm.Cond.soleField "MixBoothModel$Deck" "nudge") ∈ wt := wt_of 1614 (by decide +kernel) rfl
theorem wm_1615 : (Jvm.Cond.lays "MixBoothModel$Deck" "MixBoothModel$Deck" "braked" "I") ∈ wt := wt_of 1615 (by decide +kernel) rfl
theorem wm_1616 : (Jvm.Cond.soleField "MixBoothModel$Deck" "braked") ∈ wt := wt_of 1616 (by decide +kernel) rfl
theorem wm_1617 : (Jvm.Cond.lays "MixBoothModel$Deck" "MixBoothModel$Deck" "fader" "I") ∈ wt := wt_of 1617 (by decide +kernel) rfl
theorem wm_1618 : (Jvm.Cond.soleField "MixBoothModel$Deck" "fader") ∈ wt := wt_of 1618 (by decide +kernel) rfl
theorem wm_1619 : (Jvm.Cond.laysFinal "MixBoothModel$Deck" "MixBoothModel$Deck" "bands" "[I") ∈ wt := wt_of 1619 (by decide +kernel) rfl
theorem wm_1620 : (Jvm.Cond.soleField "MixBoothModel$Deck" "bands") ∈ wt := wt_of 1620 (by decide +kernel) rfl
theorem wm_1621 : (Jvm.Cond.laysFinal "MixBoothModel$Deck" "MixBoothModel$Deck" "cues" "[I") ∈ wt := wt_of 1621 (by decide +kernel) rfl
theorem wm_1622 : (Jvm.Cond.soleField "MixBoothModel$Deck" "cues") ∈ wt := wt_of 1622 (by decide +kernel) rfl
theorem wm_1623 : (Jvm.Cond.laysFinal "MixBoothModel$Deck" "MixBoothModel$Deck" "effects" "Ljava/util/List;") ∈ wt := wt_of 1623 (by decide +kernel) rfl
theorem wm_1624 : (Jvm.Cond.soleField "MixBoothModel$Deck" "effects") ∈ wt := wt_of 1624 (by decide +kernel) rfl
theorem wm_1625 : (Jvm.Cond.lays "MixBoothModel$Deck" "MixBoothModel$Deck" "place" "J") ∈ wt := wt_of 1625 (by decide +kernel) rfl
theorem wm_1626 : (Jvm.Cond.soleField "MixBoothModel$Deck" "place") ∈ wt := wt_of 1626 (by decide +kernel) rfl
theorem wm_1627 : (Jvm.Cond.lays "MixBoothModel$Deck" "MixBoothModel$Deck" "second" "J") ∈ wt := wt_of 1627 (by decide +kernel) rfl
theorem wm_1628 : (Jvm.Cond.soleField "MixBoothModel$Deck" "second") ∈ wt := wt_of 1628 (by decide +kernel) rfl
theorem wm_1629 : (Jvm.Cond.lays "MixBoothModel$Deck" "MixBoothModel$Deck" "loopEnd" "J") ∈ wt := wt_of 1629 (by decide +kernel) rfl
theorem wm_1630 : (Jvm.Cond.soleField "MixBoothModel$Deck" "loopEnd") ∈ wt := wt_of 1630 (by decide +kernel) rfl
theorem wm_1631 : (Jvm.Cond.lays "MixBoothModel$Deck" "MixBoothModel$Deck" "loopLength" "J") ∈ wt := wt_of 1631 (by decide +kernel) rfl
theorem wm_1632 : (Jvm.Cond.soleField "MixBoothModel$Deck" "loopLength") ∈ wt := wt_of 1632 (by decide +kernel) rfl
theorem wm_1633 : (Jvm.Cond.lays "MixBoothModel$Deck" "MixBoothModel$Deck" "plays" "Z") ∈ wt := wt_of 1633 (by decide +kernel) rfl
theorem wm_1634 : (Jvm.Cond.soleField "MixBoothModel$Deck" "plays") ∈ wt := wt_of 1634 (by decide +kernel) rfl
theorem wm_1635 : (Jvm.Cond.lays "MixBoothModel$Deck" "MixBoothModel$Deck" "isSlip" "Z") ∈ wt := wt_of 1635 (by decide +kernel) rfl
theorem wm_1636 : (Jvm.Cond.soleField "MixBoothModel$Deck" "isSlip") ∈ wt := wt_of 1636 (by decide +kernel) rfl
theorem wm_1637 : (Jvm.Cond.lays "MixBoothModel$Deck" "MixBoothModel$Deck" "side" "C") ∈ wt := wt_of 1637 (by decide +kernel) rfl
theorem wm_1638 : (Jvm.Cond.soleField "MixBoothModel$Deck" "side") ∈ wt := wt_of 1638 (by decide +kernel) rfl
theorem wm_1639 : (Jvm.Cond.superclass "MixBoothModel$Deck" "java/lang/Object") ∈ wt := wt_of 1639 (by decide +kernel) rfl
theorem wm_1640 : (Jvm.Cond.stringRef "MixBoothModel" (40 : Nat) "") ∈ wt := wt_of 1640 (by decide +kernel) rfl
theorem wm_1641 : (Jvm.Cond.fieldLink "MixBoothModel" (46 : Nat) "MixBoothModel" "thrown" "I") ∈ wt := wt_of 1641 (by decide +kernel) rfl
theorem wm_1642 : (Jvm.Cond.fieldLink "MixBoothModel" (10 : Nat) "MixBoothModel" "discs" "Ljava/util/List;") ∈ wt := wt_of 1642 (by decide +kernel) rfl
theorem wm_1643 : (Jvm.Cond.fieldLink "MixBoothModel" (19 : Nat) "MixBoothModel" "decks" "[LMixBoothModel$Deck;") ∈ wt := wt_of 1643 (by decide +kernel) rfl
theorem wm_1644 : (Jvm.Cond.fieldLink "MixBoothModel" (23 : Nat) "MixBoothModel" "people" "[I") ∈ wt := wt_of 1644 (by decide +kernel) rfl
theorem wm_1645 : (Jvm.Cond.fieldLink "MixBoothModel" (27 : Nat) "MixBoothModel" "tired" "[I") ∈ wt := wt_of 1645 (by decide +kernel) rfl
theorem wm_1646 : (Jvm.Cond.fieldLink "MixBoothModel" (30 : Nat) "MixBoothModel" "limits" "[I") ∈ wt := wt_of 1646 (by decide +kernel) rfl
theorem wm_1647 : (Jvm.Cond.fieldLink "MixBoothModel" (33 : Nat) "MixBoothModel" "causeNumbers" "[I") ∈ wt := wt_of 1647 (by decide +kernel) rfl
theorem wm_1648 : (Jvm.Cond.fieldLink "MixBoothModel" (36 : Nat) "MixBoothModel" "causes" "[C") ∈ wt := wt_of 1648 (by decide +kernel) rfl
theorem wm_1649 : (Jvm.Cond.fieldLink "MixBoothModel" (216 : Nat) "MixBoothModel" "cross" "I") ∈ wt := wt_of 1649 (by decide +kernel) rfl
theorem wm_1650 : (Jvm.Cond.fieldLink "MixBoothModel" (295 : Nat) "MixBoothModel" "ticks" "I") ∈ wt := wt_of 1650 (by decide +kernel) rfl
theorem wm_1651 : (Jvm.Cond.fieldLink "MixBoothModel" (278 : Nat) "MixBoothModel" "heard" "I") ∈ wt := wt_of 1651 (by decide +kernel) rfl
theorem wm_1652 : (Jvm.Cond.fieldLink "MixBoothModel" (280 : Nat) "MixBoothModel" "silent" "I") ∈ wt := wt_of 1652 (by decide +kernel) rfl
theorem wm_1653 : (Jvm.Cond.fieldLink "MixBoothModel" (283 : Nat) "MixBoothModel" "voiced" "I") ∈ wt := wt_of 1653 (by decide +kernel) rfl
theorem wm_1654 : (Jvm.Cond.fieldLink "MixBoothModel" (286 : Nat) "MixBoothModel" "bassed" "I") ∈ wt := wt_of 1654 (by decide +kernel) rfl
theorem wm_1655 : (Jvm.Cond.fieldLink "MixBoothModel" (301 : Nat) "MixBoothModel" "breaches" "I") ∈ wt := wt_of 1655 (by decide +kernel) rfl
theorem wm_1656 : (Jvm.Cond.fieldLink "MixBoothModel" (334 : Nat) "MixBoothModel" "scene" "I") ∈ wt := wt_of 1656 (by decide +kernel) rfl
theorem wm_1657 : (Jvm.Cond.fieldLink "MixBoothModel" (64 : Nat) "MixBoothModel" "logged" "I") ∈ wt := wt_of 1657 (by decide +kernel) rfl
theorem wm_1658 : (Jvm.Cond.fieldLink "MixBoothModel" (389 : Nat) "MixBoothModel" "causing" "I") ∈ wt := wt_of 1658 (by decide +kernel) rfl
theorem wm_1659 : (Jvm.Cond.fieldLink "MixBoothModel" (289 : Nat) "MixBoothModel" "sum" "J") ∈ wt := wt_of 1659 (by decide +kernel) rfl
theorem wm_1660 : (Jvm.Cond.fieldLink "MixBoothModel" (292 : Nat) "MixBoothModel" "secondSum" "J") ∈ wt := wt_of 1660 (by decide +kernel) rfl
theorem wm_1661 : (Jvm.Cond.fieldLink "MixBoothModel" (42 : Nat) "MixBoothModel" "text" "Ljava/lang/String;") ∈ wt := wt_of 1661 (by decide +kernel) rfl
theorem wm_1662 : (Jvm.Cond.fieldLink "MixBoothModel" (339 : Nat) "MixBoothModel" "rowFirst" "I") ∈ wt := wt_of 1662 (by decide +kernel) rfl
theorem wm_1663 : (Jvm.Cond.fieldLink "MixBoothModel" (342 : Nat) "MixBoothModel" "rowCost" "I") ∈ wt := wt_of 1663 (by decide +kernel) rfl
theorem wm_1664 : (Jvm.Cond.lays "MixBoothModel" "MixBoothModel" "thrown" "I") ∈ wt := wt_of 1664 (by decide +kernel) rfl
theorem wm_1665 : (Jvm.Cond.soleField "MixBoothModel" "thrown") ∈ wt := wt_of 1665 (by decide +kernel) rfl
theorem wm_1666 : (Jvm.Cond.laysFinal "MixBoothModel" "MixBoothModel" "discs" "Ljava/util/List;") ∈ wt := wt_of 1666 (by decide +kernel) rfl
theorem wm_1667 : (Jvm.Cond.soleField "MixBoothModel" "discs") ∈ wt := wt_of 1667 (by decide +kernel) rfl
theorem wm_1668 : (Jvm.Cond.laysFinal "MixBoothModel" "MixBoothModel" "decks" "[LMixBoothModel$Deck;") ∈ wt := wt_of 1668 (by decide +kernel) rfl
theorem wm_1669 : (Jvm.Cond.soleField "MixBoothModel" "decks") ∈ wt := wt_of 1669 (by decide +kernel) rfl
theorem wm_1670 : (Jvm.Cond.laysFinal "MixBoothModel" "MixBoothModel" "people" "[I") ∈ wt := wt_of 1670 (by decide +kernel) rfl
theorem wm_1671 : (Jvm.Cond.soleField "MixBoothModel" "people") ∈ wt := wt_of 1671 (by decide +kernel) rfl
theorem wm_1672 : (Jvm.Cond.laysFinal "MixBoothModel" "MixBoothModel" "tired" "[I") ∈ wt := wt_of 1672 (by decide +kernel) rfl
theorem wm_1673 : (Jvm.Cond.soleField "MixBoothModel" "tired") ∈ wt := wt_of 1673 (by decide +kernel) rfl
theorem wm_1674 : (Jvm.Cond.laysFinal "MixBoothModel" "MixBoothModel" "limits" "[I") ∈ wt := wt_of 1674 (by decide +kernel) rfl
theorem wm_1675 : (Jvm.Cond.soleField "MixBoothModel" "limits") ∈ wt := wt_of 1675 (by decide +kernel) rfl
theorem wm_1676 : (Jvm.Cond.laysFinal "MixBoothModel" "MixBoothModel" "causeNumbers" "[I") ∈ wt := wt_of 1676 (by decide +kernel) rfl
theorem wm_1677 : (Jvm.Cond.soleField "MixBoothModel" "causeNumbers") ∈ wt := wt_of 1677 (by decide +kernel) rfl
theorem wm_1678 : (Jvm.Cond.laysFinal "MixBoothModel" "MixBoothModel" "causes" "[C") ∈ wt := wt_of 1678 (by decide +kernel) rfl
theorem wm_1679 : (Jvm.Cond.soleField "MixBoothModel" "causes") ∈ wt := wt_of 1679 (by decide +kernel) rfl
theorem wm_1680 : (Jvm.Cond.lays "MixBoothModel" "MixBoothModel" "cross" "I") ∈ wt := wt_of 1680 (by decide +kernel) rfl
theorem wm_1681 : (Jvm.Cond.soleField "MixBoothModel" "cross") ∈ wt := wt_of 1681 (by decide +kernel) rfl
theorem wm_1682 : (Jvm.Cond.lays "MixBoothModel" "MixBoothModel" "ticks" "I") ∈ wt := wt_of 1682 (by decide +kernel) rfl
theorem wm_1683 : (Jvm.Cond.soleField "MixBoothModel" "ticks") ∈ wt := wt_of 1683 (by decide +kernel) rfl
theorem wm_1684 : (Jvm.Cond.lays "MixBoothModel" "MixBoothModel" "heard" "I") ∈ wt := wt_of 1684 (by decide +kernel) rfl
theorem wm_1685 : (Jvm.Cond.soleField "MixBoothModel" "heard") ∈ wt := wt_of 1685 (by decide +kernel) rfl
theorem wm_1686 : (Jvm.Cond.lays "MixBoothModel" "MixBoothModel" "silent" "I") ∈ wt := wt_of 1686 (by decide +kernel) rfl
theorem wm_1687 : (Jvm.Cond.soleField "MixBoothModel" "silent") ∈ wt := wt_of 1687 (by decide +kernel) rfl
theorem wm_1688 : (Jvm.Cond.lays "MixBoothModel" "MixBoothModel" "voiced" "I") ∈ wt := wt_of 1688 (by decide +kernel) rfl
theorem wm_1689 : (Jvm.Cond.soleField "MixBoothModel" "voiced") ∈ wt := wt_of 1689 (by decide +kernel) rfl
theorem wm_1690 : (Jvm.Cond.lays "MixBoothModel" "MixBoothModel" "bassed" "I") ∈ wt := wt_of 1690 (by decide +kernel) rfl
theorem wm_1691 : (Jvm.Cond.soleField "MixBoothModel" "bassed") ∈ wt := wt_of 1691 (by decide +kernel) rfl
theorem wm_1692 : (Jvm.Cond.lays "MixBoothModel" "MixBoothModel" "breaches" "I") ∈ wt := wt_of 1692 (by decide +kernel) rfl
theorem wm_1693 : (Jvm.Cond.soleField "MixBoothModel" "breaches") ∈ wt := wt_of 1693 (by decide +kernel) rfl
theorem wm_1694 : (Jvm.Cond.lays "MixBoothModel" "MixBoothModel" "scene" "I") ∈ wt := wt_of 1694 (by decide +kernel) rfl
theorem wm_1695 : (Jvm.Cond.soleField "MixBoothModel" "scene") ∈ wt := wt_of 1695 (by decide +kernel) rfl
theorem wm_1696 : (Jvm.Cond.lays "MixBoothModel" "MixBoothModel" "logged" "I") ∈ wt := wt_of 1696 (by decide +kernel) rfl
theorem wm_1697 : (Jvm.Cond.soleField "MixBoothModel" "logged") ∈ wt := wt_of 1697 (by decide +kernel) rfl
theorem wm_1698 : (Jvm.Cond.lays "MixBoothModel" "MixBoothModel" "causing" "I") ∈ wt := wt_of 1698 (by decide +kernel) rfl
theorem wm_1699 : (Jvm.Cond.soleField "MixBoothModel" "causing") ∈ wt := wt_of 1699 (by decide +kernel) rfl
theorem wm_1700 : (Jvm.Cond.lays "MixBoothModel" "MixBoothModel" "sum" "J") ∈ wt := wt_of 1700 (by decide +kernel) rfl
theorem wm_1701 : (Jvm.Cond.soleField "MixBoothModel" "sum") ∈ wt := wt_of 1701 (by decide +kernel) rfl
theorem wm_1702 : (Jvm.Cond.lays "MixBoothModel" "MixBoothModel" "secondSum" "J") ∈ wt := wt_of 1702 (by decide +kernel) rfl
theorem wm_1703 : (Jvm.Cond.soleField "MixBoothModel" "secondSum") ∈ wt := wt_of 1703 (by decide +kernel) rfl
theorem wm_1704 : (Jvm.Cond.lays "MixBoothModel" "MixBoothModel" "text" "Ljava/lang/String;") ∈ wt := wt_of 1704 (by decide +kernel) rfl
theorem wm_1705 : (Jvm.Cond.soleField "MixBoothModel" "text") ∈ wt := wt_of 1705 (by decide +kernel) rfl
theorem wm_1706 : (Jvm.Cond.lays "MixBoothModel" "MixBoothModel" "rowFirst" "I") ∈ wt := wt_of 1706 (by decide +kernel) rfl
theorem wm_1707 : (Jvm.Cond.soleField "MixBoothModel" "rowFirst") ∈ wt := wt_of 1707 (by decide +kernel) rfl
theorem wm_1708 : (Jvm.Cond.lays "MixBoothModel" "MixBoothModel" "rowCost" "I") ∈ wt := wt_of 1708 (by decide +kernel) rfl
theorem wm_1709 : (Jvm.Cond.soleField "MixBoothModel" "rowCost") ∈ wt := wt_of 1709 (by decide +kernel) rfl
theorem wm_1710 : (Jvm.Cond.superclass "MixBoothModel" "java/lang/Object") ∈ wt := wt_of 1710 (by decide +kernel) rfl
theorem wm_1711 : (Jvm.Cond.methodLink "MixBoothLaw" (193 : Nat) ({ cls := "MixBoothModel", name := "thrown", desc := "()I" } : Jvm.MethodName)) ∈ wt := wt_of 1711 (by decide +kernel) rfl
theorem wm_1712 : (Jvm.Cond.instanceMethod ({ cls := "MixBoothModel", name := "thrown", desc := "()I" } : Jvm.MethodName)) ∈ wt := wt_of 1712 (by decide +kernel) rfl
theorem wm_1713 : (Jvm.Cond.selects "MixBoothModel" ({ cls := "MixBoothModel", name := "thrown", desc := "()I" } : Jvm.MethodName) ({ cls := "MixBoothModel", name := "thrown", desc := "()I" } : Jvm.MethodName)) ∈ wt := wt_of 1713 (by decide +kernel) rfl
theorem wm_1714 : (Jvm.Cond.code ({ cls := "MixBoothModel", name := "thrown", desc := "()I" } : Jvm.MethodName) prog_13_method_2_code (1 : Nat) (Option.some Jvm.ClassFile.FieldType.int)) ∈ wt := wt_of 1714 (by decide +kernel) rfl
theorem wm_1715 : (Jvm.Cond.methodLink "MixBoothLaw" (192 : Nat) ({ cls := "MixBoothModel", name := "addRecord", desc := "(IIIIIII)I" } : Jvm.MethodName)) ∈ wt := wt_of 1715 (by decide +kernel) rfl
theorem wm_1716 : (Jvm.Cond.instanceMethod ({ cls := "MixBoothModel", name := "addRecord", desc := "(IIIIIII)I" } : Jvm.MethodName)) ∈ wt := wt_of 1716 (by decide +kernel) rfl
theorem wm_1717 : (Jvm.Cond.selects "MixBoothModel" ({ cls := "MixBoothModel", name := "addRecord", desc := "(IIIIIII)I" } : Jvm.MethodName) ({ cls := "MixBoothModel", name := "addRecord", desc := "(IIIIIII)I" } : Jvm.MethodName)) ∈ wt := wt_of 1717 (by decide +kernel) rfl
theorem wm_1718 : (Jvm.Cond.code ({ cls := "MixBoothModel", name := "addRecord", desc := "(IIIIIII)I" } : Jvm.MethodName) prog_13_method_9_code (9 : Nat) (Option.some Jvm.ClassFile.FieldType.int)) ∈ wt := wt_of 1718 (by decide +kernel) rfl
theorem wm_1719 : (Jvm.Cond.methodLink "MixBoothModel" (50 : Nat) ({ cls := "MixBoothModel", name := "isBetween", desc := "(III)Z" } : Jvm.MethodName)) ∈ wt := wt_of 1719 (by decide +kernel) rfl
theorem wm_1720 : (Jvm.Cond.static ({ cls := "MixBoothModel", name := "isBetween", desc := "(III)Z" } : Jvm.MethodName)) ∈ wt := wt_of 1720 (by decide +kernel) rfl
theorem wm_1721 : (Jvm.Cond.code ({ cls := "MixBoothModel", name := "isBetween", desc := "(III)Z" } : Jvm.MethodName) prog_13_method_4_code (3 : Nat) (Option.some Jvm.ClassFile.FieldType.boolean)) ∈ wt := wt_of 1721 (by decide +kernel) rfl
theorem wm_1722 : (Jvm.Cond.constant "MixBoothModel" (67 : Nat) (65535 : Int32)) ∈ wt := wt_of 1722 (by decide +kernel) rfl
theorem wm_1723 : (Jvm.Cond.interfaceEntry "MixBoothModel" (54 : Nat)) ∈ wt := wt_of 1723 (by decide +kernel) rfl
theorem wm_1724 : (Jvm.Cond.methodLink "MixBoothModel" (54 : Nat) ({ cls := "java/util/List", name := "size", desc := "()I" } : Jvm.MethodName)) ∈ wt := wt_of 1724 (by decide +kernel) rfl
theorem wm_1725 : (Jvm.Cond.interfaceMethod "java/util/List" "java/util/List" "size" "()I") ∈ wt := wt_of 1725 (by decide +kernel) rfl
theorem wm_1726 : (Jvm.Cond.declares ({ cls := "java/util/List", name := "size", desc := "()I" } : Jvm.MethodName)) ∈ wt := wt_of 1726 (by decide +kernel) rfl
theorem wm_1727 : (Jvm.Cond.castable "java/util/ArrayList" "java/util/List") ∈ wt := wt_of 1727 (by decide +kernel) rfl
theorem wm_1728 : (Jvm.Cond.selects "java/util/ArrayList" ({ cls := "java/util/List", name := "size", desc := "()I" } : Jvm.MethodName) ({ cls := "java/util/ArrayList", name := "size", desc := "()I" } : Jvm.MethodName)) ∈ wt := wt_of 1728 (by decide +kernel) rfl
theorem wm_1729 : (Jvm.Cond.unhidden "java/util/ArrayList" "size" "()I") ∈ wt := wt_of 1729 (by decide +kernel) rfl
theorem wm_1730 : (Jvm.Cond.instanceMethod ({ cls := "java/util/ArrayList", name := "size", desc := "()I" } : Jvm.MethodName)) ∈ wt := wt_of 1730 (by decide +kernel) rfl
theorem wm_1731 : (Jvm.Cond.publicMethod ({ cls := "java/util/ArrayList", name := "size", desc := "()I" } : Jvm.MethodName)) ∈ wt := wt_of 1731 (by decide +kernel) rfl
theorem wm_1732 : (Jvm.Cond.code ({ cls := "java/util/ArrayList", name := "size", desc := "()I" } : Jvm.MethodName) prog_45_method_8_code (1 : Nat) (Option.some Jvm.ClassFile.FieldType.int)) ∈ wt := wt_of 1732 (by decide +kernel) rfl
theorem wm_1733 : (Jvm.Cond.methodLink "MixBoothModel" (68 : Nat) ({ cls := "MixBoothModel", name := "isWrong", desc := "(I)Z" } : Jvm.MethodName)) ∈ wt := wt_of 1733 (by decide +kernel) rfl
theorem wm_1734 : (Jvm.Cond.privateMethod ({ cls := "MixBoothModel", name := "isWrong", desc := "(I)Z" } : Jvm.MethodName)) ∈ wt := wt_of 1734 (by decide +kernel) rfl
theorem wm_1735 : (Jvm.Cond.instanceMethod ({ cls := "MixBoothModel", name := "isWrong", desc := "(I)Z" } : Jvm.MethodName)) ∈ wt := wt_of 1735 (by decide +kernel) rfl
theorem wm_1736 : (Jvm.Cond.code ({ cls := "MixBoothModel", name := "isWrong", desc := "(I)Z" } : Jvm.MethodName) prog_13_method_3_code (2 : Nat) (Option.some Jvm.ClassFile.FieldType.boolean)) ∈ wt := wt_of 1736 (by decide +kernel) rfl
theorem wm_1737 : (Jvm.Cond.classLink "MixBoothModel" (72 : Nat) "MixBoothModel$Disc") ∈ wt := wt_of 1737 (by decide +kernel) rfl
theorem wm_1738 : (Jvm.Cond.instantiable "MixBoothModel$Disc" (10 : Nat)) ∈ wt := wt_of 1738 (by decide +kernel) rfl
theorem wm_1739 : (Jvm.Cond.methodLink "MixBoothModel" (74 : Nat) ({ cls := "MixBoothModel$Disc", name := "<init>", desc := "(IIIIIII)V" } : Jvm.MethodName)) ∈ wt := wt_of 1739 (by decide +kernel) rfl
theorem wm_1740 : (Jvm.Cond.instanceMethod ({ cls := "MixBoothModel$Disc", name := "<init>", desc := "(IIIIIII)V" } : Jvm.MethodName)) ∈ wt := wt_of 1740 (by decide +kernel) rfl
theorem wm_1741 : (Jvm.Cond.code ({ cls := "MixBoothModel$Disc", name := "<init>", desc := "(IIIIIII)V" } : Jvm.MethodName) prog_15_method_1_code (8 : Nat) (Option.none : Option Jvm.ClassFile.FieldType)) ∈ wt := wt_of 1741 (by decide +kernel) rfl
theorem wm_1742 : (Jvm.Cond.methodLink "MixBoothModel$Disc" (3 : Nat) ({ cls := "java/lang/Object", name := "<init>", desc := "()V" } : Jvm.MethodName)) ∈ wt := wt_of 1742 (by decide +kernel) rfl
theorem wm_1743 : (Jvm.Cond.fieldLink "MixBoothModel$Disc" (15 : Nat) "MixBoothModel$Disc" "beats" "I") ∈ wt := wt_of 1743 (by decide +kernel) rfl
theorem wm_1744 : (Jvm.Cond.fieldLinkNest "MixBoothModel" (155 : Nat) "MixBoothModel$Disc" "beats" "I" "MixBoothModel") ∈ wt := wt_of 1744 (by decide +kernel) rfl
theorem wm_1745 : (Jvm.Cond.fieldLink "MixBoothModel$Disc" (18 : Nat) "MixBoothModel$Disc" "key" "I") ∈ wt := wt_of 1745 (by decide +kernel) rfl
theorem wm_1746 : (Jvm.Cond.fieldLinkNest "MixBoothModel" (108 : Nat) "MixBoothModel$Disc" "key" "I" "MixBoothModel") ∈ wt := wt_of 1746 (by decide +kernel) rfl
theorem wm_1747 : (Jvm.Cond.fieldLink "MixBoothModel$Disc" (21 : Nat) "MixBoothModel$Disc" "energy" "I") ∈ wt := wt_of 1747 (by decide +kernel) rfl
theorem wm_1748 : (Jvm.Cond.fieldLinkNest "MixBoothModel" (225 : Nat) "MixBoothModel$Disc" "energy" "I" "MixBoothModel") ∈ wt := wt_of 1748 (by decide +kernel) rfl
theorem wm_1749 : (Jvm.Cond.fieldLink "MixBoothModel$Disc" (24 : Nat) "MixBoothModel$Disc" "phrase" "I") ∈ wt := wt_of 1749 (by decide +kernel) rfl
theorem wm_1750 : (Jvm.Cond.fieldLinkNest "MixBoothModel$Deck" (115 : Nat) "MixBoothModel$Disc" "phrase" "I" "MixBoothModel") ∈ wt := wt_of 1750 (by decide +kernel) rfl
theorem wm_1751 : (Jvm.Cond.fieldLink "MixBoothModel$Disc" (27 : Nat) "MixBoothModel$Disc" "voices" "I") ∈ wt := wt_of 1751 (by decide +kernel) rfl
theorem wm_1752 : (Jvm.Cond.fieldLinkNest "MixBoothModel" (266 : Nat) "MixBoothModel$Disc" "voices" "I" "MixBoothModel") ∈ wt := wt_of 1752 (by decide +kernel) rfl
theorem wm_1753 : (Jvm.Cond.fieldLink "MixBoothModel$Disc" (30 : Nat) "MixBoothModel$Disc" "quiet" "I") ∈ wt := wt_of 1753 (by decide +kernel) rfl
theorem wm_1754 : (Jvm.Cond.fieldLinkNest "MixBoothModel" (272 : Nat) "MixBoothModel$Disc" "quiet" "I" "MixBoothModel") ∈ wt := wt_of 1754 (by decide +kernel) rfl
theorem wm_1755 : (Jvm.Cond.fieldLink "MixBoothModel$Disc" (9 : Nat) "MixBoothModel$Disc" "tempo" "I") ∈ wt := wt_of 1755 (by decide +kernel) rfl
theorem wm_1756 : (Jvm.Cond.fieldLinkNest "MixBoothModel$Deck" (85 : Nat) "MixBoothModel$Disc" "tempo" "I" "MixBoothModel") ∈ wt := wt_of 1756 (by decide +kernel) rfl
theorem wm_1757 : (Jvm.Cond.fieldLinkNest "MixBoothModel" (95 : Nat) "MixBoothModel$Disc" "tempo" "I" "MixBoothModel") ∈ wt := wt_of 1757 (by decide +kernel) rfl
theorem wm_1758 : (Jvm.Cond.fieldLinkNest "MixBoothModel" (114 : Nat) "MixBoothModel$Disc" "isBanned" "Z" "MixBoothModel") ∈ wt := wt_of 1758 (by decide +kernel) rfl
theorem wm_1759 : (Jvm.Cond.fieldLinkNest "MixBoothModel" (118 : Nat) "MixBoothModel$Disc" "isRequested" "Z" "MixBoothModel") ∈ wt := wt_of 1759 (by decide +kernel) rfl
theorem wm_1760 : (Jvm.Cond.fieldLinkNest "MixBoothModel" (275 : Nat) "MixBoothModel$Disc" "heard" "J" "MixBoothModel") ∈ wt := wt_of 1760 (by decide +kernel) rfl
theorem wm_1761 : (Jvm.Cond.laysFinal "MixBoothModel$Disc" "MixBoothModel$Disc" "beats" "I") ∈ wt := wt_of 1761 (by decide +kernel) rfl
theorem wm_1762 : (Jvm.Cond.soleField "MixBoothModel$Disc" "beats") ∈ wt := wt_of 1762 (by decide +kernel) rfl
theorem wm_1763 : (Jvm.Cond.laysFinal "MixBoothModel$Disc" "MixBoothModel$Disc" "key" "I") ∈ wt := wt_of 1763 (by decide +kernel) rfl
theorem wm_1764 : (Jvm.Cond.soleField "MixBoothModel$Disc" "key") ∈ wt := wt_of 1764 (by decide +kernel) rfl
theorem wm_1765 : (Jvm.Cond.laysFinal "MixBoothModel$Disc" "MixBoothModel$Disc" "energy" "I") ∈ wt := wt_of 1765 (by decide +kernel) rfl
theorem wm_1766 : (Jvm.Cond.soleField "MixBoothModel$Disc" "energy") ∈ wt := wt_of 1766 (by decide +kernel) rfl
theorem wm_1767 : (Jvm.Cond.laysFinal "MixBoothModel$Disc" "MixBoothModel$Disc" "phrase" "I") ∈ wt := wt_of 1767 (by decide +kernel) rfl
theorem wm_1768 : (Jvm.Cond.soleField "MixBoothModel$Disc" "phrase") ∈ wt := wt_of 1768 (by decide +kernel) rfl
theorem wm_1769 : (Jvm.Cond.laysFinal "MixBoothModel$Disc" "MixBoothModel$Disc" "voices" "I") ∈ wt := wt_of 1769 (by decide +kernel) rfl
theorem wm_1770 : (Jvm.Cond.soleField "MixBoothModel$Disc" "voices") ∈ wt := wt_of 1770 (by decide +kernel) rfl
theorem wm_1771 : (Jvm.Cond.laysFinal "MixBoothModel$Disc" "MixBoothModel$Disc" "quiet" "I") ∈ wt := wt_of 1771 (by decide +kernel) rfl
theorem wm_1772 : (Jvm.Cond.soleField "MixBoothModel$Disc" "quiet") ∈ wt := wt_of 1772 (by decide +kernel) rfl
theorem wm_1773 : (Jvm.Cond.lays "MixBoothModel$Disc" "MixBoothModel$Disc" "tempo" "I") ∈ wt := wt_of 1773 (by decide +kernel) rfl
theorem wm_1774 : (Jvm.Cond.soleField "MixBoothModel$Disc" "tempo") ∈ wt := wt_of 1774 (by decide +kernel) rfl
theorem wm_1775 : (Jvm.Cond.lays "MixBoothModel$Disc" "MixBoothModel$Disc" "isBanned" "Z") ∈ wt := wt_of 1775 (by decide +kernel) rfl
theorem wm_1776 : (Jvm.Cond.soleField "MixBoothModel$Disc" "isBanned") ∈ wt := wt_of 1776 (by decide +kernel) rfl
theorem wm_1777 : (Jvm.Cond.lays "MixBoothModel$Disc" "MixBoothModel$Disc" "isRequested" "Z") ∈ wt := wt_of 1777 (by decide +kernel) rfl
theorem wm_1778 : (Jvm.Cond.soleField "MixBoothModel$Disc" "isRequested") ∈ wt := wt_of 1778 (by decide +kernel) rfl
theorem wm_1779 : (Jvm.Cond.lays "MixBoothModel$Disc" "MixBoothModel$Disc" "heard" "J") ∈ wt := wt_of 1779 (by decide +kernel) rfl
theorem wm_1780 : (Jvm.Cond.soleField "MixBoothModel$Disc" "heard") ∈ wt := wt_of 1780 (by decide +kernel) rfl
theorem wm_1781 : (Jvm.Cond.superclass "MixBoothModel$Disc" "java/lang/Object") ∈ wt := wt_of 1781 (by decide +kernel) rfl
theorem wm_1782 : (Jvm.Cond.interfaceEntry "MixBoothModel" (77 : Nat)) ∈ wt := wt_of 1782 (by decide +kernel) rfl
theorem wm_1783 : (Jvm.Cond.methodLink "MixBoothModel" (77 : Nat) ({ cls := "java/util/List", name := "add", desc := "(Ljava/lang/Object;)Z" } : Jvm.MethodName)) ∈ wt := wt_of 1783 (by decide +kernel) rfl
theorem wm_1784 : (Jvm.Cond.interfaceMethod "java/util/List" "java/util/List" "add" "(Ljava/lang/Object;)Z") ∈ wt := wt_of 1784 (by decide +kernel) rfl
theorem wm_1785 : (Jvm.Cond.declares ({ cls := "java/util/List", name := "add", desc := "(Ljava/lang/Object;)Z" } : Jvm.MethodName)) ∈ wt := wt_of 1785 (by decide +kernel) rfl
theorem wm_1786 : (Jvm.Cond.selects "java/util/ArrayList" ({ cls := "java/util/List", name := "add", desc := "(Ljava/lang/Object;)Z" } : Jvm.MethodName) ({ cls := "java/util/ArrayList", name := "add", desc := "(Ljava/lang/Object;)Z" } : Jvm.MethodName)) ∈ wt := wt_of 1786 (by decide +kernel) rfl
theorem wm_1787 : (Jvm.Cond.unhidden "java/util/ArrayList" "add" "(Ljava/lang/Object;)Z") ∈ wt := wt_of 1787 (by decide +kernel) rfl
theorem wm_1788 : (Jvm.Cond.instanceMethod ({ cls := "java/util/ArrayList", name := "add", desc := "(Ljava/lang/Object;)Z" } : Jvm.MethodName)) ∈ wt := wt_of 1788 (by decide +kernel) rfl
theorem wm_1789 : (Jvm.Cond.publicMethod ({ cls := "java/util/ArrayList", name := "add", desc := "(Ljava/lang/Object;)Z" } : Jvm.MethodName)) ∈ wt := wt_of 1789 (by decide +kernel) rfl
theorem wm_1790 : (Jvm.Cond.code ({ cls := "java/util/ArrayList", name := "add", desc := "(Ljava/lang/Object;)Z" } : Jvm.MethodName) prog_45_method_25_code (2 : Nat) (Option.some Jvm.ClassFile.FieldType.boolean)) ∈ wt := wt_of 1790 (by decide +kernel) rfl
theorem wm_1791 : (Jvm.Cond.methodLink "java/util/ArrayList" (131 : Nat) ({ cls := "java/util/ArrayList", name := "add", desc := "(Ljava/lang/Object;[Ljava/lang/Object;I)V" } : Jvm.MethodName)) ∈ wt := wt_of 1791 (by decide +kernel) rfl
theorem wm_1792 : (Jvm.Cond.privateMethod ({ cls := "java/util/ArrayList", name := "add", desc := "(Ljava/lang/Object;[Ljava/lang/Object;I)V" } : Jvm.MethodName)) ∈ wt := wt_of 1792 (by decide +kernel) rfl
theorem wm_1793 : (Jvm.Cond.instanceMethod ({ cls := "java/util/ArrayList", name := "add", desc := "(Ljava/lang/Object;[Ljava/lang/Object;I)V" } : Jvm.MethodName)) ∈ wt := wt_of 1793 (by decide +kernel) rfl
theorem wm_1794 : (Jvm.Cond.code ({ cls := "java/util/ArrayList", name := "add", desc := "(Ljava/lang/Object;[Ljava/lang/Object;I)V" } : Jvm.MethodName) prog_45_method_24_code (4 : Nat) (Option.none : Option Jvm.ClassFile.FieldType)) ∈ wt := wt_of 1794 (by decide +kernel) rfl
theorem wm_1795 : (Jvm.Cond.methodLink "java/util/ArrayList" (129 : Nat) ({ cls := "java/util/ArrayList", name := "grow", desc := "()[Ljava/lang/Object;" } : Jvm.MethodName)) ∈ wt := wt_of 1795 (by decide +kernel) rfl
theorem wm_1796 : (Jvm.Cond.privateMethod ({ cls := "java/util/ArrayList", name := "grow", desc := "()[Ljava/lang/Object;" } : Jvm.MethodName)) ∈ wt := wt_of 1796 (by decide +kernel) rfl
theorem wm_1797 : (Jvm.Cond.instanceMethod ({ cls := "java/util/ArrayList", name := "grow", desc := "()[Ljava/lang/Object;" } : Jvm.MethodName)) ∈ wt := wt_of 1797 (by decide +kernel) rfl
theorem wm_1798 : (Jvm.Cond.code ({ cls := "java/util/ArrayList", name := "grow", desc := "()[Ljava/lang/Object;" } : Jvm.MethodName) prog_45_method_7_code (1 : Nat) (Option.some (Jvm.ClassFile.FieldType.array (Jvm.ClassFile.FieldType.object "java/lang/Object")))) ∈ wt := wt_of 1798 (by decide +kernel) rfl
theorem wm_1799 : (Jvm.Cond.methodLink "java/util/ArrayList" (69 : Nat) ({ cls := "java/util/ArrayList", name := "grow", desc := "(I)[Ljava/lang/Object;" } : Jvm.MethodName)) ∈ wt := wt_of 1799 (by decide +kernel) rfl
theorem wm_1800 : (Jvm.Cond.privateMethod ({ cls := "java/util/ArrayList", name := "grow", desc := "(I)[Ljava/lang/Object;" } : Jvm.MethodName)) ∈ wt := wt_of 1800 (by decide +kernel) rfl
theorem wm_1801 : (Jvm.Cond.instanceMethod ({ cls := "java/util/ArrayList", name := "grow", desc := "(I)[Ljava/lang/Object;" } : Jvm.MethodName)) ∈ wt := wt_of 1801 (by decide +kernel) rfl
theorem wm_1802 : (Jvm.Cond.code ({ cls := "java/util/ArrayList", name := "grow", desc := "(I)[Ljava/lang/Object;" } : Jvm.MethodName) prog_45_method_6_code (4 : Nat) (Option.some (Jvm.ClassFile.FieldType.array (Jvm.ClassFile.FieldType.object "java/lang/Object")))) ∈ wt := wt_of 1802 (by decide +kernel) rfl
theorem wm_1803 : (Jvm.Cond.methodLink "java/util/ArrayList" (73 : Nat) ({ cls := "jdk/internal/util/ArraysSupport", name := "newLength", desc := "(III)I" } : Jvm.MethodName)) ∈ wt := wt_of 1803 (by decide +kernel) rfl
theorem wm_1804 : (Jvm.Cond.static ({ cls := "jdk/internal/util/ArraysSupport", name := "newLength", desc := "(III)I" } : Jvm.MethodName)) ∈ wt := wt_of 1804 (by decide +kernel) rfl
theorem wm_1805 : (Jvm.Cond.code ({ cls := "jdk/internal/util/ArraysSupport", name := "newLength", desc := "(III)I" } : Jvm.MethodName) prog_55_method_27_code (4 : Nat) (Option.some Jvm.ClassFile.FieldType.int)) ∈ wt := wt_of 1805 (by decide +kernel) rfl
theorem wm_1806 : (Jvm.Cond.methodLink "jdk/internal/util/ArraysSupport" (194 : Nat) ({ cls := "java/lang/Math", name := "max", desc := "(II)I" } : Jvm.MethodName)) ∈ wt := wt_of 1806 (by decide +kernel) rfl
theorem wm_1807 : (Jvm.Cond.constant "jdk/internal/util/ArraysSupport" (200 : Nat) (2147483639 : Int32)) ∈ wt := wt_of 1807 (by decide +kernel) rfl
theorem wm_1808 : (Jvm.Cond.methodLink "jdk/internal/util/ArraysSupport" (201 : Nat) ({ cls := "jdk/internal/util/ArraysSupport", name := "hugeLength", desc := "(II)I" } : Jvm.MethodName)) ∈ wt := wt_of 1808 (by decide +kernel) rfl
theorem wm_1809 : (Jvm.Cond.static ({ cls := "jdk/internal/util/ArraysSupport", name := "hugeLength", desc := "(II)I" } : Jvm.MethodName)) ∈ wt := wt_of 1809 (by decide +kernel) rfl
theorem wm_1810 : (Jvm.Cond.code ({ cls := "jdk/internal/util/ArraysSupport", name := "hugeLength", desc := "(II)I" } : Jvm.MethodName) prog_55_method_28_code (3 : Nat) (Option.some Jvm.ClassFile.FieldType.int)) ∈ wt := wt_of 1810 (by decide +kernel) rfl
theorem wm_1811 : (Jvm.Cond.methodLink "java/util/ArrayList" (66 : Nat) ({ cls := "java/util/Arrays", name := "copyOf", desc := "([Ljava/lang/Object;I)[Ljava/lang/Object;" } : Jvm.MethodName)) ∈ wt := wt_of 1811 (by decide +kernel) rfl
theorem wm_1812 : (Jvm.Cond.static ({ cls := "java/util/Arrays", name := "copyOf", desc := "([Ljava/lang/Object;I)[Ljava/lang/Object;" } : Jvm.MethodName)) ∈ wt := wt_of 1812 (by decide +kernel) rfl
theorem wm_1813 : (Jvm.Cond.code ({ cls := "java/util/Arrays", name := "copyOf", desc := "([Ljava/lang/Object;I)[Ljava/lang/Object;" } : Jvm.MethodName) prog_47_method_119_code (2 : Nat) (Option.some (Jvm.ClassFile.FieldType.array (Jvm.ClassFile.FieldType.object "java/lang/Object")))) ∈ wt := wt_of 1813 (by decide +kernel) rfl
theorem wm_1814 : (Jvm.Cond.methodLink "java/util/Arrays" (86 : Nat) ({ cls := "java/lang/Object", name := "getClass", desc := "()Ljava/lang/Class;" } : Jvm.MethodName)) ∈ wt := wt_of 1814 (by decide +kernel) rfl
theorem wm_1815 : (Jvm.Cond.instanceMethod ({ cls := "java/lang/Object", name := "getClass", desc := "()Ljava/lang/Class;" } : Jvm.MethodName)) ∈ wt := wt_of 1815 (by decide +kernel) rfl
theorem wm_1816 : (Jvm.Cond.sameMethod "java/lang/Object" "java/lang/Object" "getClass" "()Ljava/lang/Class;") ∈ wt := wt_of 1816 (by decide +kernel) rfl
theorem wm_1817 : (Jvm.Cond.selects "MixBooth" ({ cls := "java/lang/Object", name := "getClass", desc := "()Ljava/lang/Class;" } : Jvm.MethodName) ({ cls := "java/lang/Object", name := "getClass", desc := "()Ljava/lang/Class;" } : Jvm.MethodName)) ∈ wt := wt_of 1817 (by decide +kernel) rfl
theorem wm_1818 : (Jvm.Cond.selects "MixBooth$Channel" ({ cls := "java/lang/Object", name := "getClass", desc := "()Ljava/lang/Class;" } : Jvm.MethodName) ({ cls := "java/lang/Object", name := "getClass", desc := "()Ljava/lang/Class;" } : Jvm.MethodName)) ∈ wt := wt_of 1818 (by decide +kernel) rfl
theorem wm_1819 : (Jvm.Cond.selects "MixBooth$Deck" ({ cls := "java/lang/Object", name := "getClass", desc := "()Ljava/lang/Class;" } : Jvm.MethodName) ({ cls := "java/lang/Object", name := "getClass", desc := "()Ljava/lang/Class;" } : Jvm.MethodName)) ∈ wt := wt_of 1819 (by decide +kernel) rfl
theorem wm_1820 : (Jvm.Cond.selects "MixBooth$Disc" ({ cls := "java/lang/Object", name := "getClass", desc := "()Ljava/lang/Class;" } : Jvm.MethodName) ({ cls := "java/lang/Object", name := "getClass", desc := "()Ljava/lang/Class;" } : Jvm.MethodName)) ∈ wt := wt_of 1820 (by decide +kernel) rfl
theorem wm_1821 : (Jvm.Cond.selects "MixBooth$Effect" ({ cls := "java/lang/Object", name := "getClass", desc := "()Ljava/lang/Class;" } : Jvm.MethodName) ({ cls := "java/lang/Object", name := "getClass", desc := "()Ljava/lang/Class;" } : Jvm.MethodName)) ∈ wt := wt_of 1821 (by decide +kernel) rfl
theorem wm_1822 : (Jvm.Cond.selects "MixBooth$Floor" ({ cls := "java/lang/Object", name := "getClass", desc := "()Ljava/lang/Class;" } : Jvm.MethodName) ({ cls := "java/lang/Object", name := "getClass", desc := "()Ljava/lang/Class;" } : Jvm.MethodName)) ∈ wt := wt_of 1822 (by decide +kernel) rfl
theorem wm_1823 : (Jvm.Cond.selects "MixBooth$Law" ({ cls := "java/lang/Object", name := "getClass", desc := "()Ljava/lang/Class;" } : Jvm.MethodName) ({ cls := "java/lang/Object", name := "getClass", desc := "()Ljava/lang/Class;" } : Jvm.MethodName)) ∈ wt := wt_of 1823 (by decide +kernel) rfl
theorem wm_1824 : (Jvm.Cond.selects "MixBooth$Log" ({ cls := "java/lang/Object", name := "getClass", desc := "()Ljava/lang/Class;" } : Jvm.MethodName) ({ cls := "java/lang/Object", name := "getClass", desc := "()Ljava/lang/Class;" } : Jvm.MethodName)) ∈ wt := wt_of 1824 (by decide +kernel) rfl
theorem wm_1825 : (Jvm.Cond.selects "MixBooth$Moves" ({ cls := "java/lang/Object", name := "getClass", desc := "()Ljava/lang/Class;" } : Jvm.MethodName) ({ cls := "java/lang/Object", name := "getClass", desc := "()Ljava/lang/Class;" } : Jvm.MethodName)) ∈ wt := wt_of 1825 (by decide +kernel) rfl
theorem wm_1826 : (Jvm.Cond.selects "MixBooth$Night" ({ cls := "java/lang/Object", name := "getClass", desc := "()Ljava/lang/Class;" } : Jvm.MethodName) ({ cls := "java/lang/Object", name := "getClass", desc := "()Ljava/lang/Class;" } : Jvm.MethodName)) ∈ wt := wt_of 1826 (by decide +kernel) rfl
theorem wm_1827 : (Jvm.Cond.selects "MixBooth$Search" ({ cls := "java/lang/Object", name := "getClass", desc := "()Ljava/lang/Class;" } : Jvm.MethodName) ({ cls := "java/lang/Object", name := "getClass", desc := "()Ljava/lang/Class;" } : Jvm.MethodName)) ∈ wt := wt_of 1827 (by decide +kernel) rfl
theorem wm_1828 : (Jvm.Cond.selects "MixBoothModel" ({ cls := "java/lang/Object", name := "getClass", desc := "()Ljava/lang/Class;" } : Jvm.MethodName) ({ cls := "java/lang/Object", name := "getClass", desc := "()Ljava/lang/Class;" } : Jvm.MethodName)) ∈ wt := wt_of 1828 (by decide +kernel) rfl
theorem wm_1829 : (Jvm.Cond.selects "MixBoothModel$Deck" ({ cls := "java/lang/Object", name := "getClass", desc := "()Ljava/lang/Class;" } : Jvm.MethodName) ({ cls := "java/lang/Object", name := "getClass", desc := "()Ljava/lang/Class;" } : Jvm.MethodName)) ∈ wt := wt_of 1829 (by decide +kernel) rfl
theorem wm_1830 : (Jvm.Cond.selects "MixBoothModel$Disc" ({ cls := "java/lang/Object", name := "getClass", desc := "()Ljava/lang/Class;" } : Jvm.MethodName) ({ cls := "java/lang/Object", name := "getClass", desc := "()Ljava/lang/Class;" } : Jvm.MethodName)) ∈ wt := wt_of 1830 (by decide +kernel) rfl
theorem wm_1831 : (Jvm.Cond.selects "java/lang/ArithmeticException" ({ cls := "java/lang/Object", name := "getClass", desc := "()Ljava/lang/Class;" } : Jvm.MethodName) ({ cls := "java/lang/Object", name := "getClass", desc := "()Ljava/lang/Class;" } : Jvm.MethodName)) ∈ wt := wt_of 1831 (by decide +kernel) rfl
theorem wm_1832 : (Jvm.Cond.selects "java/lang/ArrayIndexOutOfBoundsException" ({ cls := "java/lang/Object", name := "getClass", desc := "()Ljava/lang/Class;" } : Jvm.MethodName) ({ cls := "java/lang/Object", name := "getClass", desc := "()Ljava/lang/Class;" } : Jvm.MethodName)) ∈ wt := wt_of 1832 (by decide +kernel) rfl
theorem wm_1833 : (Jvm.Cond.selects "java/lang/IllegalArgumentException" ({ cls := "java/lang/Object", name := "getClass", desc := "()Ljava/lang/Class;" } : Jvm.MethodName) ({ cls := "java/lang/Object", name := "getClass", desc := "()Ljava/lang/Class;" } : Jvm.MethodName)) ∈ wt := wt_of 1833 (by decide +kernel) rfl
theorem wm_1834 : (Jvm.Cond.selects "java/lang/IllegalStateException" ({ cls := "java/lang/Object", name := "getClass", desc := "()Ljava/lang/Class;" } : Jvm.MethodName) ({ cls := "java/lang/Object", name := "getClass", desc := "()Ljava/lang/Class;" } : Jvm.MethodName)) ∈ wt := wt_of 1834 (by decide +kernel) rfl
theorem wm_1835 : (Jvm.Cond.selects "java/lang/IndexOutOfBoundsException" ({ cls := "java/lang/Object", name := "getClass", desc := "()Ljava/lang/Class;" } : Jvm.MethodName) ({ cls := "java/lang/Object", name := "getClass", desc := "()Ljava/lang/Class;" } : Jvm.MethodName)) ∈ wt := wt_of 1835 (by decide +kernel) rfl
theorem wm_1836 : (Jvm.Cond.selects "java/lang/String" ({ cls := "java/lang/Object", name := "getClass", desc := "()Ljava/lang/Class;" } : Jvm.MethodName) ({ cls := "java/lang/Object", name := "getClass", desc := "()Ljava/lang/Class;" } : Jvm.MethodName)) ∈ wt := wt_of 1836 (by decide +kernel) rfl
theorem wm_1837 : (Jvm.Cond.selects "java/lang/StringBuilder" ({ cls := "java/lang/Object", name := "getClass", desc := "()Ljava/lang/Class;" } : Jvm.MethodName) ({ cls := "java/lang/Object", name := "getClass", desc := "()Ljava/lang/Class;" } : Jvm.MethodName)) ∈ wt := wt_of 1837 (by decide +kernel) rfl
theorem wm_1838 : (Jvm.Cond.selects "java/lang/UnsupportedOperationException" ({ cls := "java/lang/Object", name := "getClass", desc := "()Ljava/lang/Class;" } : Jvm.MethodName) ({ cls := "java/lang/Object", name := "getClass", desc := "()Ljava/lang/Class;" } : Jvm.MethodName)) ∈ wt := wt_of 1838 (by decide +kernel) rfl
theorem wm_1839 : (Jvm.Cond.selects "java/util/ArrayList" ({ cls := "java/lang/Object", name := "getClass", desc := "()Ljava/lang/Class;" } : Jvm.MethodName) ({ cls := "java/lang/Object", name := "getClass", desc := "()Ljava/lang/Class;" } : Jvm.MethodName)) ∈ wt := wt_of 1839 (by decide +kernel) rfl
theorem wm_1840 : (Jvm.Cond.selects "java/util/ArrayList$Itr" ({ cls := "java/lang/Object", name := "getClass", desc := "()Ljava/lang/Class;" } : Jvm.MethodName) ({ cls := "java/lang/Object", name := "getClass", desc := "()Ljava/lang/Class;" } : Jvm.MethodName)) ∈ wt := wt_of 1840 (by decide +kernel) rfl
theorem wm_1841 : (Jvm.Cond.selects "java/util/NoSuchElementException" ({ cls := "java/lang/Object", name := "getClass", desc := "()Ljava/lang/Class;" } : Jvm.MethodName) ({ cls := "java/lang/Object", name := "getClass", desc := "()Ljava/lang/Class;" } : Jvm.MethodName)) ∈ wt := wt_of 1841 (by decide +kernel) rfl
theorem wm_1842 : (Jvm.Cond.native ({ cls := "java/lang/Object", name := "getClass", desc := "()Ljava/lang/Class;" } : Jvm.MethodName)) ∈ wt := wt_of 1842 (by decide +kernel) rfl
theorem wm_1843 : (Jvm.Cond.methodLink "java/util/Arrays" (300 : Nat) ({ cls := "java/util/Arrays", name := "copyOf", desc := "([Ljava/lang/Object;ILjava/lang/Class;)[Ljava/lang/Object;" } : Jvm.MethodName)) ∈ wt := wt_of 1843 (by decide +kernel) rfl
theorem wm_1844 : (Jvm.Cond.static ({ cls := "java/util/Arrays", name := "copyOf", desc := "([Ljava/lang/Object;ILjava/lang/Class;)[Ljava/lang/Object;" } : Jvm.MethodName)) ∈ wt := wt_of 1844 (by decide +kernel) rfl
theorem wm_1845 : (Jvm.Cond.code ({ cls := "java/util/Arrays", name := "copyOf", desc := "([Ljava/lang/Object;ILjava/lang/Class;)[Ljava/lang/Object;" } : Jvm.MethodName) prog_47_method_120_code (4 : Nat) (Option.some (Jvm.ClassFile.FieldType.array (Jvm.ClassFile.FieldType.object "java/lang/Object")))) ∈ wt := wt_of 1845 (by decide +kernel) rfl
theorem wm_1846 : (Jvm.Cond.classLink "java/util/Arrays" (110 : Nat) "[Ljava/lang/Object;") ∈ wt := wt_of 1846 (by decide +kernel) rfl
theorem wm_1847 : (Jvm.Cond.arrayOver (Jvm.ClassFile.FieldType.object "java/lang/Object")) ∈ wt := wt_of 1847 (by decide +kernel) rfl
theorem wm_1848 : (Jvm.Cond.classLink "java/util/Arrays" (2 : Nat) "java/lang/Object") ∈ wt := wt_of 1848 (by decide +kernel) rfl
theorem wm_1849 : (Jvm.Cond.methodLink "java/util/Arrays" (304 : Nat) ({ cls := "java/lang/Math", name := "min", desc := "(II)I" } : Jvm.MethodName)) ∈ wt := wt_of 1849 (by decide +kernel) rfl
theorem wm_1850 : (Jvm.Cond.methodLink "java/util/Arrays" (150 : Nat) ({ cls := "java/lang/System", name := "arraycopy", desc := "(Ljava/lang/Object;ILjava/lang/Object;II)V" } : Jvm.MethodName)) ∈ wt := wt_of 1850 (by decide +kernel) rfl
theorem wm_1851 : (Jvm.Cond.static ({ cls := "java/lang/System", name := "arraycopy", desc := "(Ljava/lang/Object;ILjava/lang/Object;II)V" } : Jvm.MethodName)) ∈ wt := wt_of 1851 (by decide +kernel) rfl
theorem wm_1852 : (Jvm.Cond.native ({ cls := "java/lang/System", name := "arraycopy", desc := "(Ljava/lang/Object;ILjava/lang/Object;II)V" } : Jvm.MethodName)) ∈ wt := wt_of 1852 (by decide +kernel) rfl
theorem wm_1853 : (Jvm.Cond.methodLink "java/util/ArrayList" (79 : Nat) ({ cls := "java/lang/Math", name := "max", desc := "(II)I" } : Jvm.MethodName)) ∈ wt := wt_of 1853 (by decide +kernel) rfl
theorem wm_1854 : (Jvm.Cond.classLink "java/util/ArrayList" (7 : Nat) "java/lang/Object") ∈ wt := wt_of 1854 (by decide +kernel) rfl
theorem wm_1855 : (Jvm.Cond.methodLink "MixBoothModel" (81 : Nat) ({ cls := "MixBoothModel", name := "logs", desc := "()V" } : Jvm.MethodName)) ∈ wt := wt_of 1855 (by decide +kernel) rfl
theorem wm_1856 : (Jvm.Cond.privateMethod ({ cls := "MixBoothModel", name := "logs", desc := "()V" } : Jvm.MethodName)) ∈ wt := wt_of 1856 (by decide +kernel) rfl
theorem wm_1857 : (Jvm.Cond.instanceMethod ({ cls := "MixBoothModel", name := "logs", desc := "()V" } : Jvm.MethodName)) ∈ wt := wt_of 1857 (by decide +kernel) rfl
theorem wm_1858 : (Jvm.Cond.code ({ cls := "MixBoothModel", name := "logs", desc := "()V" } : Jvm.MethodName) prog_13_method_8_code (1 : Nat) (Option.none : Option Jvm.ClassFile.FieldType)) ∈ wt := wt_of 1858 (by decide +kernel) rfl
theorem wm_1859 : (Jvm.Cond.methodLink "MixBoothLaw" (199 : Nat) ({ cls := "MixBoothModel", name := "correct", desc := "(II)I" } : Jvm.MethodName)) ∈ wt := wt_of 1859 (by decide +kernel) rfl
theorem wm_1860 : (Jvm.Cond.instanceMethod ({ cls := "MixBoothModel", name := "correct", desc := "(II)I" } : Jvm.MethodName)) ∈ wt := wt_of 1860 (by decide +kernel) rfl
theorem wm_1861 : (Jvm.Cond.selects "MixBoothModel" ({ cls := "MixBoothModel", name := "correct", desc := "(II)I" } : Jvm.MethodName) ({ cls := "MixBoothModel", name := "correct", desc := "(II)I" } : Jvm.MethodName)) ∈ wt := wt_of 1861 (by decide +kernel) rfl
theorem wm_1862 : (Jvm.Cond.code ({ cls := "MixBoothModel", name := "correct", desc := "(II)I" } : Jvm.MethodName) prog_13_method_11_code (4 : Nat) (Option.some Jvm.ClassFile.FieldType.int)) ∈ wt := wt_of 1862 (by decide +kernel) rfl
theorem wm_1863 : (Jvm.Cond.methodLink "MixBoothModel" (84 : Nat) ({ cls := "MixBoothModel", name := "isDisc", desc := "(I)Z" } : Jvm.MethodName)) ∈ wt := wt_of 1863 (by decide +kernel) rfl
theorem wm_1864 : (Jvm.Cond.privateMethod ({ cls := "MixBoothModel", name := "isDisc", desc := "(I)Z" } : Jvm.MethodName)) ∈ wt := wt_of 1864 (by decide +kernel) rfl
theorem wm_1865 : (Jvm.Cond.instanceMethod ({ cls := "MixBoothModel", name := "isDisc", desc := "(I)Z" } : Jvm.MethodName)) ∈ wt := wt_of 1865 (by decide +kernel) rfl
theorem wm_1866 : (Jvm.Cond.code ({ cls := "MixBoothModel", name := "isDisc", desc := "(I)Z" } : Jvm.MethodName) prog_13_method_6_code (2 : Nat) (Option.some Jvm.ClassFile.FieldType.boolean)) ∈ wt := wt_of 1866 (by decide +kernel) rfl
theorem wm_1867 : (Jvm.Cond.interfaceEntry "MixBoothModel" (87 : Nat)) ∈ wt := wt_of 1867 (by decide +kernel) rfl
theorem wm_1868 : (Jvm.Cond.methodLink "MixBoothModel" (87 : Nat) ({ cls := "java/util/List", name := "get", desc := "(I)Ljava/lang/Object;" } : Jvm.MethodName)) ∈ wt := wt_of 1868 (by decide +kernel) rfl
theorem wm_1869 : (Jvm.Cond.interfaceMethod "java/util/List" "java/util/List" "get" "(I)Ljava/lang/Object;") ∈ wt := wt_of 1869 (by decide +kernel) rfl
theorem wm_1870 : (Jvm.Cond.declares ({ cls := "java/util/List", name := "get", desc := "(I)Ljava/lang/Object;" } : Jvm.MethodName)) ∈ wt := wt_of 1870 (by decide +kernel) rfl
theorem wm_1871 : (Jvm.Cond.selects "java/util/ArrayList" ({ cls := "java/util/List", name := "get", desc := "(I)Ljava/lang/Object;" } : Jvm.MethodName) ({ cls := "java/util/ArrayList", name := "get", desc := "(I)Ljava/lang/Object;" } : Jvm.MethodName)) ∈ wt := wt_of 1871 (by decide +kernel) rfl
theorem wm_1872 : (Jvm.Cond.unhidden "java/util/ArrayList" "get" "(I)Ljava/lang/Object;") ∈ wt := wt_of 1872 (by decide +kernel) rfl
theorem wm_1873 : (Jvm.Cond.instanceMethod ({ cls := "java/util/ArrayList", name := "get", desc := "(I)Ljava/lang/Object;" } : Jvm.MethodName)) ∈ wt := wt_of 1873 (by decide +kernel) rfl
theorem wm_1874 : (Jvm.Cond.publicMethod ({ cls := "java/util/ArrayList", name := "get", desc := "(I)Ljava/lang/Object;" } : Jvm.MethodName)) ∈ wt := wt_of 1874 (by decide +kernel) rfl
theorem wm_1875 : (Jvm.Cond.code ({ cls := "java/util/ArrayList", name := "get", desc := "(I)Ljava/lang/Object;" } : Jvm.MethodName) prog_45_method_20_code (2 : Nat) (Option.some (Jvm.ClassFile.FieldType.object "java/lang/Object"))) ∈ wt := wt_of 1875 (by decide +kernel) rfl
theorem wm_1876 : (Jvm.Cond.methodLink "java/util/ArrayList" (118 : Nat) ({ cls := "java/util/Objects", name := "checkIndex", desc := "(II)I" } : Jvm.MethodName)) ∈ wt := wt_of 1876 (by decide +kernel) rfl
theorem wm_1877 : (Jvm.Cond.static ({ cls := "java/util/Objects", name := "checkIndex", desc := "(II)I" } : Jvm.MethodName)) ∈ wt := wt_of 1877 (by decide +kernel) rfl
theorem wm_1878 : (Jvm.Cond.code ({ cls := "java/util/Objects", name := "checkIndex", desc := "(II)I" } : Jvm.MethodName) prog_52_method_17_code (2 : Nat) (Option.some Jvm.ClassFile.FieldType.int)) ∈ wt := wt_of 1878 (by decide +kernel) rfl
theorem wm_1879 : (Jvm.Cond.methodLink "java/util/Objects" (105 : Nat) ({ cls := "jdk/internal/util/Preconditions", name := "checkIndex", desc := "(IILjava/util/function/BiFunction;)I" } : Jvm.MethodName)) ∈ wt := wt_of 1879 (by decide +kernel) rfl
theorem wm_1880 : (Jvm.Cond.static ({ cls := "jdk/internal/util/Preconditions", name := "checkIndex", desc := "(IILjava/util/function/BiFunction;)I" } : Jvm.MethodName)) ∈ wt := wt_of 1880 (by decide +kernel) rfl
theorem wm_1881 : (Jvm.Cond.code ({ cls := "jdk/internal/util/Preconditions", name := "checkIndex", desc := "(IILjava/util/function/BiFunction;)I" } : Jvm.MethodName) prog_56_method_11_code (3 : Nat) (Option.some Jvm.ClassFile.FieldType.int)) ∈ wt := wt_of 1881 (by decide +kernel) rfl
theorem wm_1882 : (Jvm.Cond.methodLink "java/util/ArrayList" (123 : Nat) ({ cls := "java/util/ArrayList", name := "elementData", desc := "(I)Ljava/lang/Object;" } : Jvm.MethodName)) ∈ wt := wt_of 1882 (by decide +kernel) rfl
theorem wm_1883 : (Jvm.Cond.instanceMethod ({ cls := "java/util/ArrayList", name := "elementData", desc := "(I)Ljava/lang/Object;" } : Jvm.MethodName)) ∈ wt := wt_of 1883 (by decide +kernel) rfl
theorem wm_1884 : (Jvm.Cond.selects "java/util/ArrayList" ({ cls := "java/util/ArrayList", name := "elementData", desc := "(I)Ljava/lang/Object;" } : Jvm.MethodName) ({ cls := "java/util/ArrayList", name := "elementData", desc := "(I)Ljava/lang/Object;" } : Jvm.MethodName)) ∈ wt := wt_of 1884 (by decide +kernel) rfl
theorem wm_1885 : (Jvm.Cond.code ({ cls := "java/util/ArrayList", name := "elementData", desc := "(I)Ljava/lang/Object;" } : Jvm.MethodName) prog_45_method_18_code (2 : Nat) (Option.some (Jvm.ClassFile.FieldType.object "java/lang/Object"))) ∈ wt := wt_of 1885 (by decide +kernel) rfl
theorem wm_1886 : (Jvm.Cond.methodLink "MixBoothModel" (91 : Nat) ({ cls := "MixBoothModel", name := "isOnDeck", desc := "(LMixBoothModel$Disc;)Z" } : Jvm.MethodName)) ∈ wt := wt_of 1886 (by decide +kernel) rfl
theorem wm_1887 : (Jvm.Cond.privateMethod ({ cls := "MixBoothModel", name := "isOnDeck", desc := "(LMixBoothModel$Disc;)Z" } : Jvm.MethodName)) ∈ wt := wt_of 1887 (by decide +kernel) rfl
theorem wm_1888 : (Jvm.Cond.instanceMethod ({ cls := "MixBoothModel", name := "isOnDeck", desc := "(LMixBoothModel$Disc;)Z" } : Jvm.MethodName)) ∈ wt := wt_of 1888 (by decide +kernel) rfl
theorem wm_1889 : (Jvm.Cond.code ({ cls := "MixBoothModel", name := "isOnDeck", desc := "(LMixBoothModel$Disc;)Z" } : Jvm.MethodName) prog_13_method_10_code (7 : Nat) (Option.some Jvm.ClassFile.FieldType.boolean)) ∈ wt := wt_of 1889 (by decide +kernel) rfl
theorem wm_1890 : (Jvm.Cond.methodLink "MixBoothLaw" (202 : Nat) ({ cls := "MixBoothModel", name := "apart", desc := "(II)I" } : Jvm.MethodName)) ∈ wt := wt_of 1890 (by decide +kernel) rfl
theorem wm_1891 : (Jvm.Cond.instanceMethod ({ cls := "MixBoothModel", name := "apart", desc := "(II)I" } : Jvm.MethodName)) ∈ wt := wt_of 1891 (by decide +kernel) rfl
theorem wm_1892 : (Jvm.Cond.selects "MixBoothModel" ({ cls := "MixBoothModel", name := "apart", desc := "(II)I" } : Jvm.MethodName) ({ cls := "MixBoothModel", name := "apart", desc := "(II)I" } : Jvm.MethodName)) ∈ wt := wt_of 1892 (by decide +kernel) rfl
theorem wm_1893 : (Jvm.Cond.code ({ cls := "MixBoothModel", name := "apart", desc := "(II)I" } : Jvm.MethodName) prog_13_method_13_code (3 : Nat) (Option.some Jvm.ClassFile.FieldType.int)) ∈ wt := wt_of 1893 (by decide +kernel) rfl
theorem wm_1894 : (Jvm.Cond.methodLink "MixBoothModel" (111 : Nat) ({ cls := "MixBoothModel", name := "apartKeys", desc := "(II)I" } : Jvm.MethodName)) ∈ wt := wt_of 1894 (by decide +kernel) rfl
theorem wm_1895 : (Jvm.Cond.static ({ cls := "MixBoothModel", name := "apartKeys", desc := "(II)I" } : Jvm.MethodName)) ∈ wt := wt_of 1895 (by decide +kernel) rfl
theorem wm_1896 : (Jvm.Cond.code ({ cls := "MixBoothModel", name := "apartKeys", desc := "(II)I" } : Jvm.MethodName) prog_13_method_12_code (3 : Nat) (Option.some Jvm.ClassFile.FieldType.int)) ∈ wt := wt_of 1896 (by decide +kernel) rfl
theorem wm_1897 : (Jvm.Cond.methodLink "MixBoothModel" (98 : Nat) ({ cls := "java/lang/Math", name := "abs", desc := "(I)I" } : Jvm.MethodName)) ∈ wt := wt_of 1897 (by decide +kernel) rfl
theorem wm_1898 : (Jvm.Cond.methodLink "MixBoothModel" (104 : Nat) ({ cls := "java/lang/Math", name := "min", desc := "(II)I" } : Jvm.MethodName)) ∈ wt := wt_of 1898 (by decide +kernel) rfl
theorem wm_1899 : (Jvm.Cond.methodLink "MixBoothLaw" (206 : Nat) ({ cls := "MixBoothModel", name := "ban", desc := "(IZ)Z" } : Jvm.MethodName)) ∈ wt := wt_of 1899 (by decide +kernel) rfl
theorem wm_1900 : (Jvm.Cond.instanceMethod ({ cls := "MixBoothModel", name := "ban", desc := "(IZ)Z" } : Jvm.MethodName)) ∈ wt := wt_of 1900 (by decide +kernel) rfl
theorem wm_1901 : (Jvm.Cond.selects "MixBoothModel" ({ cls := "MixBoothModel", name := "ban", desc := "(IZ)Z" } : Jvm.MethodName) ({ cls := "MixBoothModel", name := "ban", desc := "(IZ)Z" } : Jvm.MethodName)) ∈ wt := wt_of 1901 (by decide +kernel) rfl
theorem wm_1902 : (Jvm.Cond.code ({ cls := "MixBoothModel", name := "ban", desc := "(IZ)Z" } : Jvm.MethodName) prog_13_method_14_code (4 : Nat) (Option.some Jvm.ClassFile.FieldType.boolean)) ∈ wt := wt_of 1902 (by decide +kernel) rfl
theorem wm_1903 : (Jvm.Cond.methodLink "MixBoothLaw" (210 : Nat) ({ cls := "MixBoothModel", name := "request", desc := "(I)Z" } : Jvm.MethodName)) ∈ wt := wt_of 1903 (by decide +kernel) rfl
theorem wm_1904 : (Jvm.Cond.instanceMethod ({ cls := "MixBoothModel", name := "request", desc := "(I)Z" } : Jvm.MethodName)) ∈ wt := wt_of 1904 (by decide +kernel) rfl
theorem wm_1905 : (Jvm.Cond.selects "MixBoothModel" ({ cls := "MixBoothModel", name := "request", desc := "(I)Z" } : Jvm.MethodName) ({ cls := "MixBoothModel", name := "request", desc := "(I)Z" } : Jvm.MethodName)) ∈ wt := wt_of 1905 (by decide +kernel) rfl
theorem wm_1906 : (Jvm.Cond.code ({ cls := "MixBoothModel", name := "request", desc := "(I)Z" } : Jvm.MethodName) prog_13_method_15_code (3 : Nat) (Option.some Jvm.ClassFile.FieldType.boolean)) ∈ wt := wt_of 1906 (by decide +kernel) rfl
theorem wm_1907 : (Jvm.Cond.methodLink "MixBoothLaw" (213 : Nat) ({ cls := "MixBoothModel", name := "load", desc := "(II)I" } : Jvm.MethodName)) ∈ wt := wt_of 1907 (by decide +kernel) rfl
theorem wm_1908 : (Jvm.Cond.instanceMethod ({ cls := "MixBoothModel", name := "load", desc := "(II)I" } : Jvm.MethodName)) ∈ wt := wt_of 1908 (by decide +kernel) rfl
theorem wm_1909 : (Jvm.Cond.selects "MixBoothModel" ({ cls := "MixBoothModel", name := "load", desc := "(II)I" } : Jvm.MethodName) ({ cls := "MixBoothModel", name := "load", desc := "(II)I" } : Jvm.MethodName)) ∈ wt := wt_of 1909 (by decide +kernel) rfl
theorem wm_1910 : (Jvm.Cond.code ({ cls := "MixBoothModel", name := "load", desc := "(II)I" } : Jvm.MethodName) prog_13_method_16_code (4 : Nat) (Option.some Jvm.ClassFile.FieldType.int)) ∈ wt := wt_of 1910 (by decide +kernel) rfl
theorem wm_1911 : (Jvm.Cond.methodLink "MixBoothModel" (121 : Nat) ({ cls := "MixBoothModel", name := "isDeck", desc := "(I)Z" } : Jvm.MethodName)) ∈ wt := wt_of 1911 (by decide +kernel) rfl
theorem wm_1912 : (Jvm.Cond.static ({ cls := "MixBoothModel", name := "isDeck", desc := "(I)Z" } : Jvm.MethodName)) ∈ wt := wt_of 1912 (by decide +kernel) rfl
theorem wm_1913 : (Jvm.Cond.code ({ cls := "MixBoothModel", name := "isDeck", desc := "(I)Z" } : Jvm.MethodName) prog_13_method_5_code (1 : Nat) (Option.some Jvm.ClassFile.FieldType.boolean)) ∈ wt := wt_of 1913 (by decide +kernel) rfl
theorem wm_1914 : (Jvm.Cond.methodLink "MixBoothModel" (130 : Nat) ({ cls := "MixBoothModel$Deck", name := "anew", desc := "()V" } : Jvm.MethodName)) ∈ wt := wt_of 1914 (by decide +kernel) rfl
theorem wm_1915 : (Jvm.Cond.instanceMethod ({ cls := "MixBoothModel$Deck", name := "anew", desc := "()V" } : Jvm.MethodName)) ∈ wt := wt_of 1915 (by decide +kernel) rfl
theorem wm_1916 : (Jvm.Cond.selects "MixBoothModel$Deck" ({ cls := "MixBoothModel$Deck", name := "anew", desc := "()V" } : Jvm.MethodName) ({ cls := "MixBoothModel$Deck", name := "anew", desc := "()V" } : Jvm.MethodName)) ∈ wt := wt_of 1916 (by decide +kernel) rfl
theorem wm_1917 : (Jvm.Cond.code ({ cls := "MixBoothModel$Deck", name := "anew", desc := "()V" } : Jvm.MethodName) prog_14_method_5_code (2 : Nat) (Option.none : Option Jvm.ClassFile.FieldType)) ∈ wt := wt_of 1917 (by decide +kernel) rfl
theorem wm_1918 : (Jvm.Cond.methodLink "MixBoothLaw" (216 : Nat) ({ cls := "MixBoothModel", name := "play", desc := "(I)Z" } : Jvm.MethodName)) ∈ wt := wt_of 1918 (by decide +kernel) rfl
theorem wm_1919 : (Jvm.Cond.instanceMethod ({ cls := "MixBoothModel", name := "play", desc := "(I)Z" } : Jvm.MethodName)) ∈ wt := wt_of 1919 (by decide +kernel) rfl
theorem wm_1920 : (Jvm.Cond.selects "MixBoothModel" ({ cls := "MixBoothModel", name := "play", desc := "(I)Z" } : Jvm.MethodName) ({ cls := "MixBoothModel", name := "play", desc := "(I)Z" } : Jvm.MethodName)) ∈ wt := wt_of 1920 (by decide +kernel) rfl
theorem wm_1921 : (Jvm.Cond.code ({ cls := "MixBoothModel", name := "play", desc := "(I)Z" } : Jvm.MethodName) prog_13_method_18_code (2 : Nat) (Option.some Jvm.ClassFile.FieldType.boolean)) ∈ wt := wt_of 1921 (by decide +kernel) rfl
theorem wm_1922 : (Jvm.Cond.methodLink "MixBoothModel" (136 : Nat) ({ cls := "MixBoothModel", name := "isNoRecord", desc := "(I)Z" } : Jvm.MethodName)) ∈ wt := wt_of 1922 (by decide +kernel) rfl
theorem wm_1923 : (Jvm.Cond.privateMethod ({ cls := "MixBoothModel", name := "isNoRecord", desc := "(I)Z" } : Jvm.MethodName)) ∈ wt := wt_of 1923 (by decide +kernel) rfl
theorem wm_1924 : (Jvm.Cond.instanceMethod ({ cls := "MixBoothModel", name := "isNoRecord", desc := "(I)Z" } : Jvm.MethodName)) ∈ wt := wt_of 1924 (by decide +kernel) rfl
theorem wm_1925 : (Jvm.Cond.code ({ cls := "MixBoothModel", name := "isNoRecord", desc := "(I)Z" } : Jvm.MethodName) prog_13_method_17_code (2 : Nat) (Option.some Jvm.ClassFile.FieldType.boolean)) ∈ wt := wt_of 1925 (by decide +kernel) rfl
theorem wm_1926 : (Jvm.Cond.methodLink "MixBoothModel" (133 : Nat) ({ cls := "MixBoothModel", name := "isEmpty", desc := "(I)Z" } : Jvm.MethodName)) ∈ wt := wt_of 1926 (by decide +kernel) rfl
theorem wm_1927 : (Jvm.Cond.privateMethod ({ cls := "MixBoothModel", name := "isEmpty", desc := "(I)Z" } : Jvm.MethodName)) ∈ wt := wt_of 1927 (by decide +kernel) rfl
theorem wm_1928 : (Jvm.Cond.instanceMethod ({ cls := "MixBoothModel", name := "isEmpty", desc := "(I)Z" } : Jvm.MethodName)) ∈ wt := wt_of 1928 (by decide +kernel) rfl
theorem wm_1929 : (Jvm.Cond.code ({ cls := "MixBoothModel", name := "isEmpty", desc := "(I)Z" } : Jvm.MethodName) prog_13_method_7_code (2 : Nat) (Option.some Jvm.ClassFile.FieldType.boolean)) ∈ wt := wt_of 1929 (by decide +kernel) rfl
theorem wm_1930 : (Jvm.Cond.methodLink "MixBoothModel" (139 : Nat) ({ cls := "MixBoothModel$Deck", name := "begins", desc := "()Z" } : Jvm.MethodName)) ∈ wt := wt_of 1930 (by decide +kernel) rfl
theorem wm_1931 : (Jvm.Cond.instanceMethod ({ cls := "MixBoothModel$Deck", name := "begins", desc := "()Z" } : Jvm.MethodName)) ∈ wt := wt_of 1931 (by decide +kernel) rfl
theorem wm_1932 : (Jvm.Cond.selects "MixBoothModel$Deck" ({ cls := "MixBoothModel$Deck", name := "begins", desc := "()Z" } : Jvm.MethodName) ({ cls := "MixBoothModel$Deck", name := "begins", desc := "()Z" } : Jvm.MethodName)) ∈ wt := wt_of 1932 (by decide +kernel) rfl
theorem wm_1933 : (Jvm.Cond.code ({ cls := "MixBoothModel$Deck", name := "begins", desc := "()Z" } : Jvm.MethodName) prog_14_method_9_code (2 : Nat) (Option.some Jvm.ClassFile.FieldType.boolean)) ∈ wt := wt_of 1933 (by decide +kernel) rfl
theorem wm_1934 : (Jvm.Cond.methodLink "MixBoothModel$Deck" (98 : Nat) ({ cls := "MixBoothModel$Disc", name := "last", desc := "()J" } : Jvm.MethodName)) ∈ wt := wt_of 1934 (by decide +kernel) rfl
theorem wm_1935 : (Jvm.Cond.instanceMethod ({ cls := "MixBoothModel$Disc", name := "last", desc := "()J" } : Jvm.MethodName)) ∈ wt := wt_of 1935 (by decide +kernel) rfl
theorem wm_1936 : (Jvm.Cond.selects "MixBoothModel$Disc" ({ cls := "MixBoothModel$Disc", name := "last", desc := "()J" } : Jvm.MethodName) ({ cls := "MixBoothModel$Disc", name := "last", desc := "()J" } : Jvm.MethodName)) ∈ wt := wt_of 1936 (by decide +kernel) rfl
theorem wm_1937 : (Jvm.Cond.code ({ cls := "MixBoothModel$Disc", name := "last", desc := "()J" } : Jvm.MethodName) prog_15_method_2_code (1 : Nat) (Option.some Jvm.ClassFile.FieldType.long)) ∈ wt := wt_of 1937 (by decide +kernel) rfl
theorem wm_1938 : (Jvm.Cond.constantLong "MixBoothModel$Disc" (33 : Nat) (60000000 : Int64)) ∈ wt := wt_of 1938 (by decide +kernel) rfl
theorem wm_1939 : (Jvm.Cond.methodLink "MixBoothLaw" (219 : Nat) ({ cls := "MixBoothModel", name := "stop", desc := "(I)Z" } : Jvm.MethodName)) ∈ wt := wt_of 1939 (by decide +kernel) rfl
theorem wm_1940 : (Jvm.Cond.instanceMethod ({ cls := "MixBoothModel", name := "stop", desc := "(I)Z" } : Jvm.MethodName)) ∈ wt := wt_of 1940 (by decide +kernel) rfl
theorem wm_1941 : (Jvm.Cond.selects "MixBoothModel" ({ cls := "MixBoothModel", name := "stop", desc := "(I)Z" } : Jvm.MethodName) ({ cls := "MixBoothModel", name := "stop", desc := "(I)Z" } : Jvm.MethodName)) ∈ wt := wt_of 1941 (by decide +kernel) rfl
theorem wm_1942 : (Jvm.Cond.code ({ cls := "MixBoothModel", name := "stop", desc := "(I)Z" } : Jvm.MethodName) prog_13_method_19_code (3 : Nat) (Option.some Jvm.ClassFile.FieldType.boolean)) ∈ wt := wt_of 1942 (by decide +kernel) rfl
theorem wm_1943 : (Jvm.Cond.methodLink "MixBoothModel" (143 : Nat) ({ cls := "MixBoothModel$Deck", name := "stands", desc := "()V" } : Jvm.MethodName)) ∈ wt := wt_of 1943 (by decide +kernel) rfl
theorem wm_1944 : (Jvm.Cond.instanceMethod ({ cls := "MixBoothModel$Deck", name := "stands", desc := "()V" } : Jvm.MethodName)) ∈ wt := wt_of 1944 (by decide +kernel) rfl
theorem wm_1945 : (Jvm.Cond.selects "MixBoothModel$Deck" ({ cls := "MixBoothModel$Deck", name := "stands", desc := "()V" } : Jvm.MethodName) ({ cls := "MixBoothModel$Deck", name := "stands", desc := "()V" } : Jvm.MethodName)) ∈ wt := wt_of 1945 (by decide +kernel) rfl
theorem wm_1946 : (Jvm.Cond.code ({ cls := "MixBoothModel$Deck", name := "stands", desc := "()V" } : Jvm.MethodName) prog_14_method_8_code (1 : Nat) (Option.none : Option Jvm.ClassFile.FieldType)) ∈ wt := wt_of 1946 (by decide +kernel) rfl
theorem wm_1947 : (Jvm.Cond.methodLink "MixBoothLaw" (222 : Nat) ({ cls := "MixBoothModel", name := "setPitch", desc := "(II)I" } : Jvm.MethodName)) ∈ wt := wt_of 1947 (by decide +kernel) rfl
theorem wm_1948 : (Jvm.Cond.instanceMethod ({ cls := "MixBoothModel", name := "setPitch", desc := "(II)I" } : Jvm.MethodName)) ∈ wt := wt_of 1948 (by decide +kernel) rfl
theorem wm_1949 : (Jvm.Cond.selects "MixBoothModel" ({ cls := "MixBoothModel", name := "setPitch", desc := "(II)I" } : Jvm.MethodName) ({ cls := "MixBoothModel", name := "setPitch", desc := "(II)I" } : Jvm.MethodName)) ∈ wt := wt_of 1949 (by decide +kernel) rfl
theorem wm_1950 : (Jvm.Cond.code ({ cls := "MixBoothModel", name := "setPitch", desc := "(II)I" } : Jvm.MethodName) prog_13_method_20_code (4 : Nat) (Option.some Jvm.ClassFile.FieldType.int)) ∈ wt := wt_of 1950 (by decide +kernel) rfl
theorem wm_1951 : (Jvm.Cond.methodLink "MixBoothLaw" (225 : Nat) ({ cls := "MixBoothModel", name := "nudge", desc := "(II)I" } : Jvm.MethodName)) ∈ wt := wt_of 1951 (by decide +kernel) rfl
theorem wm_1952 : (Jvm.Cond.instanceMethod ({ cls := "MixBoothModel", name := "nudge", desc := "(II)I" } : Jvm.MethodName)) ∈ wt := wt_of 1952 (by decide +kernel) rfl
theorem wm_1953 : (Jvm.Cond.selects "MixBoothModel" ({ cls := "MixBoothModel", name := "nudge", desc := "(II)I" } : Jvm.MethodName) ({ cls := "MixBoothModel", name := "nudge", desc := "(II)I" } : Jvm.MethodName)) ∈ wt := wt_of 1953 (by decide +kernel) rfl
theorem wm_1954 : (Jvm.Cond.code ({ cls := "MixBoothModel", name := "nudge", desc := "(II)I" } : Jvm.MethodName) prog_13_method_21_code (4 : Nat) (Option.some Jvm.ClassFile.FieldType.int)) ∈ wt := wt_of 1954 (by decide +kernel) rfl
theorem wm_1955 : (Jvm.Cond.methodLink "MixBoothLaw" (228 : Nat) ({ cls := "MixBoothModel", name := "brake", desc := "(I)Z" } : Jvm.MethodName)) ∈ wt := wt_of 1955 (by decide +kernel) rfl
theorem wm_1956 : (Jvm.Cond.instanceMethod ({ cls := "MixBoothModel", name := "brake", desc := "(I)Z" } : Jvm.MethodName)) ∈ wt := wt_of 1956 (by decide +kernel) rfl
theorem wm_1957 : (Jvm.Cond.selects "MixBoothModel" ({ cls := "MixBoothModel", name := "brake", desc := "(I)Z" } : Jvm.MethodName) ({ cls := "MixBoothModel", name := "brake", desc := "(I)Z" } : Jvm.MethodName)) ∈ wt := wt_of 1957 (by decide +kernel) rfl
theorem wm_1958 : (Jvm.Cond.code ({ cls := "MixBoothModel", name := "brake", desc := "(I)Z" } : Jvm.MethodName) prog_13_method_22_code (2 : Nat) (Option.some Jvm.ClassFile.FieldType.boolean)) ∈ wt := wt_of 1958 (by decide +kernel) rfl
theorem wm_1959 : (Jvm.Cond.methodLink "MixBoothLaw" (231 : Nat) ({ cls := "MixBoothModel", name := "jump", desc := "(II)I" } : Jvm.MethodName)) ∈ wt := wt_of 1959 (by decide +kernel) rfl
theorem wm_1960 : (Jvm.Cond.instanceMethod ({ cls := "MixBoothModel", name := "jump", desc := "(II)I" } : Jvm.MethodName)) ∈ wt := wt_of 1960 (by decide +kernel) rfl
theorem wm_1961 : (Jvm.Cond.selects "MixBoothModel" ({ cls := "MixBoothModel", name := "jump", desc := "(II)I" } : Jvm.MethodName) ({ cls := "MixBoothModel", name := "jump", desc := "(II)I" } : Jvm.MethodName)) ∈ wt := wt_of 1961 (by decide +kernel) rfl
theorem wm_1962 : (Jvm.Cond.code ({ cls := "MixBoothModel", name := "jump", desc := "(II)I" } : Jvm.MethodName) prog_13_method_23_code (4 : Nat) (Option.some Jvm.ClassFile.FieldType.int)) ∈ wt := wt_of 1962 (by decide +kernel) rfl
theorem wm_1963 : (Jvm.Cond.methodLink "MixBoothModel" (158 : Nat) ({ cls := "MixBoothModel$Deck", name := "beat", desc := "()I" } : Jvm.MethodName)) ∈ wt := wt_of 1963 (by decide +kernel) rfl
theorem wm_1964 : (Jvm.Cond.instanceMethod ({ cls := "MixBoothModel$Deck", name := "beat", desc := "()I" } : Jvm.MethodName)) ∈ wt := wt_of 1964 (by decide +kernel) rfl
theorem wm_1965 : (Jvm.Cond.selects "MixBoothModel$Deck" ({ cls := "MixBoothModel$Deck", name := "beat", desc := "()I" } : Jvm.MethodName) ({ cls := "MixBoothModel$Deck", name := "beat", desc := "()I" } : Jvm.MethodName)) ∈ wt := wt_of 1965 (by decide +kernel) rfl
theorem wm_1966 : (Jvm.Cond.code ({ cls := "MixBoothModel$Deck", name := "beat", desc := "()I" } : Jvm.MethodName) prog_14_method_6_code (1 : Nat) (Option.some Jvm.ClassFile.FieldType.int)) ∈ wt := wt_of 1966 (by decide +kernel) rfl
theorem wm_1967 : (Jvm.Cond.constantLong "MixBoothModel$Deck" (83 : Nat) (60000000 : Int64)) ∈ wt := wt_of 1967 (by decide +kernel) rfl
theorem wm_1968 : (Jvm.Cond.constantLong "MixBoothModel" (161 : Nat) (60000000 : Int64)) ∈ wt := wt_of 1968 (by decide +kernel) rfl
theorem wm_1969 : (Jvm.Cond.methodLink "MixBoothLaw" (234 : Nat) ({ cls := "MixBoothModel", name := "setCue", desc := "(II)I" } : Jvm.MethodName)) ∈ wt := wt_of 1969 (by decide +kernel) rfl
theorem wm_1970 : (Jvm.Cond.instanceMethod ({ cls := "MixBoothModel", name := "setCue", desc := "(II)I" } : Jvm.MethodName)) ∈ wt := wt_of 1970 (by decide +kernel) rfl
theorem wm_1971 : (Jvm.Cond.selects "MixBoothModel" ({ cls := "MixBoothModel", name := "setCue", desc := "(II)I" } : Jvm.MethodName) ({ cls := "MixBoothModel", name := "setCue", desc := "(II)I" } : Jvm.MethodName)) ∈ wt := wt_of 1971 (by decide +kernel) rfl
theorem wm_1972 : (Jvm.Cond.code ({ cls := "MixBoothModel", name := "setCue", desc := "(II)I" } : Jvm.MethodName) prog_13_method_25_code (4 : Nat) (Option.some Jvm.ClassFile.FieldType.int)) ∈ wt := wt_of 1972 (by decide +kernel) rfl
theorem wm_1973 : (Jvm.Cond.methodLink "MixBoothModel" (172 : Nat) ({ cls := "MixBoothModel", name := "nearest", desc := "(LMixBoothModel$Deck;)I" } : Jvm.MethodName)) ∈ wt := wt_of 1973 (by decide +kernel) rfl
theorem wm_1974 : (Jvm.Cond.static ({ cls := "MixBoothModel", name := "nearest", desc := "(LMixBoothModel$Deck;)I" } : Jvm.MethodName)) ∈ wt := wt_of 1974 (by decide +kernel) rfl
theorem wm_1975 : (Jvm.Cond.code ({ cls := "MixBoothModel", name := "nearest", desc := "(LMixBoothModel$Deck;)I" } : Jvm.MethodName) prog_13_method_24_code (1 : Nat) (Option.some Jvm.ClassFile.FieldType.int)) ∈ wt := wt_of 1975 (by decide +kernel) rfl
theorem wm_1976 : (Jvm.Cond.constantLong "MixBoothModel" (167 : Nat) (30000000 : Int64)) ∈ wt := wt_of 1976 (by decide +kernel) rfl
theorem wm_1977 : (Jvm.Cond.methodLink "MixBoothModel" (169 : Nat) ({ cls := "java/lang/Math", name := "min", desc := "(JJ)J" } : Jvm.MethodName)) ∈ wt := wt_of 1977 (by decide +kernel) rfl
theorem wm_1978 : (Jvm.Cond.methodLink "MixBoothLaw" (237 : Nat) ({ cls := "MixBoothModel", name := "loop", desc := "(II)I" } : Jvm.MethodName)) ∈ wt := wt_of 1978 (by decide +kernel) rfl
theorem wm_1979 : (Jvm.Cond.instanceMethod ({ cls := "MixBoothModel", name := "loop", desc := "(II)I" } : Jvm.MethodName)) ∈ wt := wt_of 1979 (by decide +kernel) rfl
theorem wm_1980 : (Jvm.Cond.selects "MixBoothModel" ({ cls := "MixBoothModel", name := "loop", desc := "(II)I" } : Jvm.MethodName) ({ cls := "MixBoothModel", name := "loop", desc := "(II)I" } : Jvm.MethodName)) ∈ wt := wt_of 1980 (by decide +kernel) rfl
theorem wm_1981 : (Jvm.Cond.code ({ cls := "MixBoothModel", name := "loop", desc := "(II)I" } : Jvm.MethodName) prog_13_method_27_code (3 : Nat) (Option.some Jvm.ClassFile.FieldType.int)) ∈ wt := wt_of 1981 (by decide +kernel) rfl
theorem wm_1982 : (Jvm.Cond.methodLink "MixBoothModel" (185 : Nat) ({ cls := "MixBoothModel", name := "loops", desc := "(LMixBoothModel$Deck;I)Z" } : Jvm.MethodName)) ∈ wt := wt_of 1982 (by decide +kernel) rfl
theorem wm_1983 : (Jvm.Cond.static ({ cls := "MixBoothModel", name := "loops", desc := "(LMixBoothModel$Deck;I)Z" } : Jvm.MethodName)) ∈ wt := wt_of 1983 (by decide +kernel) rfl
theorem wm_1984 : (Jvm.Cond.code ({ cls := "MixBoothModel", name := "loops", desc := "(LMixBoothModel$Deck;I)Z" } : Jvm.MethodName) prog_13_method_26_code (3 : Nat) (Option.some Jvm.ClassFile.FieldType.boolean)) ∈ wt := wt_of 1984 (by decide +kernel) rfl
theorem wm_1985 : (Jvm.Cond.methodLink "MixBoothLaw" (240 : Nat) ({ cls := "MixBoothModel", name := "out", desc := "(I)Z" } : Jvm.MethodName)) ∈ wt := wt_of 1985 (by decide +kernel) rfl
theorem wm_1986 : (Jvm.Cond.instanceMethod ({ cls := "MixBoothModel", name := "out", desc := "(I)Z" } : Jvm.MethodName)) ∈ wt := wt_of 1986 (by decide +kernel) rfl
theorem wm_1987 : (Jvm.Cond.selects "MixBoothModel" ({ cls := "MixBoothModel", name := "out", desc := "(I)Z" } : Jvm.MethodName) ({ cls := "MixBoothModel", name := "out", desc := "(I)Z" } : Jvm.MethodName)) ∈ wt := wt_of 1987 (by decide +kernel) rfl
theorem wm_1988 : (Jvm.Cond.code ({ cls := "MixBoothModel", name := "out", desc := "(I)Z" } : Jvm.MethodName) prog_13_method_28_code (3 : Nat) (Option.some Jvm.ClassFile.FieldType.boolean)) ∈ wt := wt_of 1988 (by decide +kernel) rfl
theorem wm_1989 : (Jvm.Cond.methodLink "MixBoothLaw" (243 : Nat) ({ cls := "MixBoothModel", name := "slip", desc := "(IZ)Z" } : Jvm.MethodName)) ∈ wt := wt_of 1989 (by decide +kernel) rfl
theorem wm_1990 : (Jvm.Cond.instanceMethod ({ cls := "MixBoothModel", name := "slip", desc := "(IZ)Z" } : Jvm.MethodName)) ∈ wt := wt_of 1990 (by decide +kernel) rfl
theorem wm_1991 : (Jvm.Cond.selects "MixBoothModel" ({ cls := "MixBoothModel", name := "slip", desc := "(IZ)Z" } : Jvm.MethodName) ({ cls := "MixBoothModel", name := "slip", desc := "(IZ)Z" } : Jvm.MethodName)) ∈ wt := wt_of 1991 (by decide +kernel) rfl
theorem wm_1992 : (Jvm.Cond.code ({ cls := "MixBoothModel", name := "slip", desc := "(IZ)Z" } : Jvm.MethodName) prog_13_method_30_code (3 : Nat) (Option.some Jvm.ClassFile.FieldType.boolean)) ∈ wt := wt_of 1992 (by decide +kernel) rfl
theorem wm_1993 : (Jvm.Cond.methodLink "MixBoothModel" (195 : Nat) ({ cls := "MixBoothModel", name := "slips", desc := "(LMixBoothModel$Deck;Z)Z" } : Jvm.MethodName)) ∈ wt := wt_of 1993 (by decide +kernel) rfl
theorem wm_1994 : (Jvm.Cond.static ({ cls := "MixBoothModel", name := "slips", desc := "(LMixBoothModel$Deck;Z)Z" } : Jvm.MethodName)) ∈ wt := wt_of 1994 (by decide +kernel) rfl
theorem wm_1995 : (Jvm.Cond.code ({ cls := "MixBoothModel", name := "slips", desc := "(LMixBoothModel$Deck;Z)Z" } : Jvm.MethodName) prog_13_method_29_code (3 : Nat) (Option.some Jvm.ClassFile.FieldType.boolean)) ∈ wt := wt_of 1995 (by decide +kernel) rfl
theorem wm_1996 : (Jvm.Cond.methodLink "MixBoothLaw" (246 : Nat) ({ cls := "MixBoothModel", name := "place", desc := "(I)J" } : Jvm.MethodName)) ∈ wt := wt_of 1996 (by decide +kernel) rfl
theorem wm_1997 : (Jvm.Cond.instanceMethod ({ cls := "MixBoothModel", name := "place", desc := "(I)J" } : Jvm.MethodName)) ∈ wt := wt_of 1997 (by decide +kernel) rfl
theorem wm_1998 : (Jvm.Cond.selects "MixBoothModel" ({ cls := "MixBoothModel", name := "place", desc := "(I)J" } : Jvm.MethodName) ({ cls := "MixBoothModel", name := "place", desc := "(I)J" } : Jvm.MethodName)) ∈ wt := wt_of 1998 (by decide +kernel) rfl
theorem wm_1999 : (Jvm.Cond.code ({ cls := "MixBoothModel", name := "place", desc := "(I)J" } : Jvm.MethodName) prog_13_method_31_code (2 : Nat) (Option.some Jvm.ClassFile.FieldType.long)) ∈ wt := wt_of 1999 (by decide +kernel) rfl
theorem wm_2000 : (Jvm.Cond.methodLink "MixBoothLaw" (249 : Nat) ({ cls := "MixBoothModel", name := "tempo", desc := "(I)I" } : Jvm.MethodName)) ∈ wt := wt_of 2000 (by decide +kernel) rfl
theorem wm_2001 : (Jvm.Cond.instanceMethod ({ cls := "MixBoothModel", name := "tempo", desc := "(I)I" } : Jvm.MethodName)) ∈ wt := wt_of 2001 (by decide +kernel) rfl
theorem wm_2002 : (Jvm.Cond.selects "MixBoothModel" ({ cls := "MixBoothModel", name := "tempo", desc := "(I)I" } : Jvm.MethodName) ({ cls := "MixBoothModel", name := "tempo", desc := "(I)I" } : Jvm.MethodName)) ∈ wt := wt_of 2002 (by decide +kernel) rfl
theorem wm_2003 : (Jvm.Cond.code ({ cls := "MixBoothModel", name := "tempo", desc := "(I)I" } : Jvm.MethodName) prog_13_method_32_code (2 : Nat) (Option.some Jvm.ClassFile.FieldType.int)) ∈ wt := wt_of 2003 (by decide +kernel) rfl
theorem wm_2004 : (Jvm.Cond.methodLink "MixBoothLaw" (252 : Nat) ({ cls := "MixBoothModel", name := "plays", desc := "(I)Z" } : Jvm.MethodName)) ∈ wt := wt_of 2004 (by decide +kernel) rfl
theorem wm_2005 : (Jvm.Cond.instanceMethod ({ cls := "MixBoothModel", name := "plays", desc := "(I)Z" } : Jvm.MethodName)) ∈ wt := wt_of 2005 (by decide +kernel) rfl
theorem wm_2006 : (Jvm.Cond.selects "MixBoothModel" ({ cls := "MixBoothModel", name := "plays", desc := "(I)Z" } : Jvm.MethodName) ({ cls := "MixBoothModel", name := "plays", desc := "(I)Z" } : Jvm.MethodName)) ∈ wt := wt_of 2006 (by decide +kernel) rfl
theorem wm_2007 : (Jvm.Cond.code ({ cls := "MixBoothModel", name := "plays", desc := "(I)Z" } : Jvm.MethodName) prog_13_method_33_code (2 : Nat) (Option.some Jvm.ClassFile.FieldType.boolean)) ∈ wt := wt_of 2007 (by decide +kernel) rfl
theorem wm_2008 : (Jvm.Cond.methodLink "MixBoothLaw" (255 : Nat) ({ cls := "MixBoothModel", name := "on", desc := "(I)I" } : Jvm.MethodName)) ∈ wt := wt_of 2008 (by decide +kernel) rfl
theorem wm_2009 : (Jvm.Cond.instanceMethod ({ cls := "MixBoothModel", name := "on", desc := "(I)I" } : Jvm.MethodName)) ∈ wt := wt_of 2009 (by decide +kernel) rfl
theorem wm_2010 : (Jvm.Cond.selects "MixBoothModel" ({ cls := "MixBoothModel", name := "on", desc := "(I)I" } : Jvm.MethodName) ({ cls := "MixBoothModel", name := "on", desc := "(I)I" } : Jvm.MethodName)) ∈ wt := wt_of 2010 (by decide +kernel) rfl
theorem wm_2011 : (Jvm.Cond.code ({ cls := "MixBoothModel", name := "on", desc := "(I)I" } : Jvm.MethodName) prog_13_method_34_code (2 : Nat) (Option.some Jvm.ClassFile.FieldType.int)) ∈ wt := wt_of 2011 (by decide +kernel) rfl
theorem wm_2012 : (Jvm.Cond.methodLink "MixBoothLaw" (258 : Nat) ({ cls := "MixBoothModel", name := "setFader", desc := "(II)I" } : Jvm.MethodName)) ∈ wt := wt_of 2012 (by decide +kernel) rfl
theorem wm_2013 : (Jvm.Cond.instanceMethod ({ cls := "MixBoothModel", name := "setFader", desc := "(II)I" } : Jvm.MethodName)) ∈ wt := wt_of 2013 (by decide +kernel) rfl
theorem wm_2014 : (Jvm.Cond.selects "MixBoothModel" ({ cls := "MixBoothModel", name := "setFader", desc := "(II)I" } : Jvm.MethodName) ({ cls := "MixBoothModel", name := "setFader", desc := "(II)I" } : Jvm.MethodName)) ∈ wt := wt_of 2014 (by decide +kernel) rfl
theorem wm_2015 : (Jvm.Cond.code ({ cls := "MixBoothModel", name := "setFader", desc := "(II)I" } : Jvm.MethodName) prog_13_method_35_code (4 : Nat) (Option.some Jvm.ClassFile.FieldType.int)) ∈ wt := wt_of 2015 (by decide +kernel) rfl
theorem wm_2016 : (Jvm.Cond.methodLink "MixBoothLaw" (262 : Nat) ({ cls := "MixBoothModel", name := "setBand", desc := "(III)I" } : Jvm.MethodName)) ∈ wt := wt_of 2016 (by decide +kernel) rfl
theorem wm_2017 : (Jvm.Cond.instanceMethod ({ cls := "MixBoothModel", name := "setBand", desc := "(III)I" } : Jvm.MethodName)) ∈ wt := wt_of 2017 (by decide +kernel) rfl
theorem wm_2018 : (Jvm.Cond.selects "MixBoothModel" ({ cls := "MixBoothModel", name := "setBand", desc := "(III)I" } : Jvm.MethodName) ({ cls := "MixBoothModel", name := "setBand", desc := "(III)I" } : Jvm.MethodName)) ∈ wt := wt_of 2018 (by decide +kernel) rfl
theorem wm_2019 : (Jvm.Cond.code ({ cls := "MixBoothModel", name := "setBand", desc := "(III)I" } : Jvm.MethodName) prog_13_method_36_code (5 : Nat) (Option.some Jvm.ClassFile.FieldType.int)) ∈ wt := wt_of 2019 (by decide +kernel) rfl
theorem wm_2020 : (Jvm.Cond.methodLink "MixBoothLaw" (266 : Nat) ({ cls := "MixBoothModel", name := "setSide", desc := "(IC)C" } : Jvm.MethodName)) ∈ wt := wt_of 2020 (by decide +kernel) rfl
theorem wm_2021 : (Jvm.Cond.instanceMethod ({ cls := "MixBoothModel", name := "setSide", desc := "(IC)C" } : Jvm.MethodName)) ∈ wt := wt_of 2021 (by decide +kernel) rfl
theorem wm_2022 : (Jvm.Cond.selects "MixBoothModel" ({ cls := "MixBoothModel", name := "setSide", desc := "(IC)C" } : Jvm.MethodName) ({ cls := "MixBoothModel", name := "setSide", desc := "(IC)C" } : Jvm.MethodName)) ∈ wt := wt_of 2022 (by decide +kernel) rfl
theorem wm_2023 : (Jvm.Cond.code ({ cls := "MixBoothModel", name := "setSide", desc := "(IC)C" } : Jvm.MethodName) prog_13_method_37_code (4 : Nat) (Option.some Jvm.ClassFile.FieldType.char)) ∈ wt := wt_of 2023 (by decide +kernel) rfl
theorem wm_2024 : (Jvm.Cond.stringRef "MixBoothModel" (205 : Nat) "lmr") ∈ wt := wt_of 2024 (by decide +kernel) rfl
theorem wm_2025 : (Jvm.Cond.methodLink "MixBoothModel" (207 : Nat) ({ cls := "java/lang/String", name := "indexOf", desc := "(I)I" } : Jvm.MethodName)) ∈ wt := wt_of 2025 (by decide +kernel) rfl
theorem wm_2026 : (Jvm.Cond.instanceMethod ({ cls := "java/lang/String", name := "indexOf", desc := "(I)I" } : Jvm.MethodName)) ∈ wt := wt_of 2026 (by decide +kernel) rfl
theorem wm_2027 : (Jvm.Cond.selects "java/lang/String" ({ cls := "java/lang/String", name := "indexOf", desc := "(I)I" } : Jvm.MethodName) ({ cls := "java/lang/String", name := "indexOf", desc := "(I)I" } : Jvm.MethodName)) ∈ wt := wt_of 2027 (by decide +kernel) rfl
theorem wm_2028 : (Jvm.Cond.code ({ cls := "java/lang/String", name := "indexOf", desc := "(I)I" } : Jvm.MethodName) prog_34_method_79_code (2 : Nat) (Option.some Jvm.ClassFile.FieldType.int)) ∈ wt := wt_of 2028 (by decide +kernel) rfl
theorem wm_2029 : (Jvm.Cond.methodLink "java/lang/String" (633 : Nat) ({ cls := "java/lang/String", name := "indexOf", desc := "(II)I" } : Jvm.MethodName)) ∈ wt := wt_of 2029 (by decide +kernel) rfl
theorem wm_2030 : (Jvm.Cond.instanceMethod ({ cls := "java/lang/String", name := "indexOf", desc := "(II)I" } : Jvm.MethodName)) ∈ wt := wt_of 2030 (by decide +kernel) rfl
theorem wm_2031 : (Jvm.Cond.selects "java/lang/String" ({ cls := "java/lang/String", name := "indexOf", desc := "(II)I" } : Jvm.MethodName) ({ cls := "java/lang/String", name := "indexOf", desc := "(II)I" } : Jvm.MethodName)) ∈ wt := wt_of 2031 (by decide +kernel) rfl
theorem wm_2032 : (Jvm.Cond.code ({ cls := "java/lang/String", name := "indexOf", desc := "(II)I" } : Jvm.MethodName) prog_34_method_80_code (3 : Nat) (Option.some Jvm.ClassFile.FieldType.int)) ∈ wt := wt_of 2032 (by decide +kernel) rfl
theorem wm_2033 : (Jvm.Cond.methodLink "java/lang/String" (492 : Nat) ({ cls := "java/lang/String", name := "isLatin1", desc := "()Z" } : Jvm.MethodName)) ∈ wt := wt_of 2033 (by decide +kernel) rfl
theorem wm_2034 : (Jvm.Cond.instanceMethod ({ cls := "java/lang/String", name := "isLatin1", desc := "()Z" } : Jvm.MethodName)) ∈ wt := wt_of 2034 (by decide +kernel) rfl
theorem wm_2035 : (Jvm.Cond.selects "java/lang/String" ({ cls := "java/lang/String", name := "isLatin1", desc := "()Z" } : Jvm.MethodName) ({ cls := "java/lang/String", name := "isLatin1", desc := "()Z" } : Jvm.MethodName)) ∈ wt := wt_of 2035 (by decide +kernel) rfl
theorem wm_2036 : (Jvm.Cond.code ({ cls := "java/lang/String", name := "isLatin1", desc := "()Z" } : Jvm.MethodName) prog_34_method_154_code (1 : Nat) (Option.some Jvm.ClassFile.FieldType.boolean)) ∈ wt := wt_of 2036 (by decide +kernel) rfl
theorem wm_2037 : (Jvm.Cond.fieldLink "java/lang/String" (38 : Nat) "java/lang/String" "COMPACT_STRINGS" "Z") ∈ wt := wt_of 2037 (by decide +kernel) rfl
theorem wm_2038 : (Jvm.Cond.laysStatic "java/lang/String" "COMPACT_STRINGS" "Z") ∈ wt := wt_of 2038 (by decide +kernel) rfl
theorem wm_2039 : (Jvm.Cond.methodLink "java/lang/String" (505 : Nat) ({ cls := "java/lang/String", name := "length", desc := "()I" } : Jvm.MethodName)) ∈ wt := wt_of 2039 (by decide +kernel) rfl
theorem wm_2040 : (Jvm.Cond.instanceMethod ({ cls := "java/lang/String", name := "length", desc := "()I" } : Jvm.MethodName)) ∈ wt := wt_of 2040 (by decide +kernel) rfl
theorem wm_2041 : (Jvm.Cond.selects "java/lang/String" ({ cls := "java/lang/String", name := "length", desc := "()I" } : Jvm.MethodName) ({ cls := "java/lang/String", name := "length", desc := "()I" } : Jvm.MethodName)) ∈ wt := wt_of 2041 (by decide +kernel) rfl
theorem wm_2042 : (Jvm.Cond.code ({ cls := "java/lang/String", name := "length", desc := "()I" } : Jvm.MethodName) prog_34_method_54_code (1 : Nat) (Option.some Jvm.ClassFile.FieldType.int)) ∈ wt := wt_of 2042 (by decide +kernel) rfl
theorem wm_2043 : (Jvm.Cond.methodLink "java/lang/String" (335 : Nat) ({ cls := "java/lang/String", name := "coder", desc := "()B" } : Jvm.MethodName)) ∈ wt := wt_of 2043 (by decide +kernel) rfl
theorem wm_2044 : (Jvm.Cond.instanceMethod ({ cls := "java/lang/String", name := "coder", desc := "()B" } : Jvm.MethodName)) ∈ wt := wt_of 2044 (by decide +kernel) rfl
theorem wm_2045 : (Jvm.Cond.selects "java/lang/String" ({ cls := "java/lang/String", name := "coder", desc := "()B" } : Jvm.MethodName) ({ cls := "java/lang/String", name := "coder", desc := "()B" } : Jvm.MethodName)) ∈ wt := wt_of 2045 (by decide +kernel) rfl
theorem wm_2046 : (Jvm.Cond.code ({ cls := "java/lang/String", name := "coder", desc := "()B" } : Jvm.MethodName) prog_34_method_152_code (1 : Nat) (Option.some Jvm.ClassFile.FieldType.byte)) ∈ wt := wt_of 2046 (by decide +kernel) rfl
theorem wm_2047 : (Jvm.Cond.methodLink "java/lang/String" (637 : Nat) ({ cls := "java/lang/StringLatin1", name := "indexOf", desc := "([BIII)I" } : Jvm.MethodName)) ∈ wt := wt_of 2047 (by decide +kernel) rfl
theorem wm_2048 : (Jvm.Cond.static ({ cls := "java/lang/StringLatin1", name := "indexOf", desc := "([BIII)I" } : Jvm.MethodName)) ∈ wt := wt_of 2048 (by decide +kernel) rfl
theorem wm_2049 : (Jvm.Cond.code ({ cls := "java/lang/StringLatin1", name := "indexOf", desc := "([BIII)I" } : Jvm.MethodName) prog_36_method_22_code (4 : Nat) (Option.some Jvm.ClassFile.FieldType.int)) ∈ wt := wt_of 2049 (by decide +kernel) rfl
theorem wm_2050 : (Jvm.Cond.methodLink "java/lang/StringLatin1" (88 : Nat) ({ cls := "java/lang/StringLatin1", name := "canEncode", desc := "(I)Z" } : Jvm.MethodName)) ∈ wt := wt_of 2050 (by decide +kernel) rfl
theorem wm_2051 : (Jvm.Cond.static ({ cls := "java/lang/StringLatin1", name := "canEncode", desc := "(I)Z" } : Jvm.MethodName)) ∈ wt := wt_of 2051 (by decide +kernel) rfl
theorem wm_2052 : (Jvm.Cond.code ({ cls := "java/lang/StringLatin1", name := "canEncode", desc := "(I)Z" } : Jvm.MethodName) prog_36_method_4_code (1 : Nat) (Option.some Jvm.ClassFile.FieldType.boolean)) ∈ wt := wt_of 2052 (by decide +kernel) rfl
theorem wm_2053 : (Jvm.Cond.methodLink "java/lang/StringLatin1" (92 : Nat) ({ cls := "java/lang/Math", name := "max", desc := "(II)I" } : Jvm.MethodName)) ∈ wt := wt_of 2053 (by decide +kernel) rfl
theorem wm_2054 : (Jvm.Cond.methodLink "java/lang/StringLatin1" (38 : Nat) ({ cls := "java/lang/Math", name := "min", desc := "(II)I" } : Jvm.MethodName)) ∈ wt := wt_of 2054 (by decide +kernel) rfl
theorem wm_2055 : (Jvm.Cond.methodLink "java/lang/StringLatin1" (95 : Nat) ({ cls := "java/lang/StringLatin1", name := "indexOfChar", desc := "([BIII)I" } : Jvm.MethodName)) ∈ wt := wt_of 2055 (by decide +kernel) rfl
theorem wm_2056 : (Jvm.Cond.static ({ cls := "java/lang/StringLatin1", name := "indexOfChar", desc := "([BIII)I" } : Jvm.MethodName)) ∈ wt := wt_of 2056 (by decide +kernel) rfl
theorem wm_2057 : (Jvm.Cond.code ({ cls := "java/lang/StringLatin1", name := "indexOfChar", desc := "([BIII)I" } : Jvm.MethodName) prog_36_method_23_code (6 : Nat) (Option.some Jvm.ClassFile.FieldType.int)) ∈ wt := wt_of 2057 (by decide +kernel) rfl
theorem wm_2058 : (Jvm.Cond.methodLink "java/lang/String" (640 : Nat) ({ cls := "java/lang/StringUTF16", name := "indexOf", desc := "([BIII)I" } : Jvm.MethodName)) ∈ wt := wt_of 2058 (by decide +kernel) rfl
theorem wm_2059 : (Jvm.Cond.static ({ cls := "java/lang/StringUTF16", name := "indexOf", desc := "([BIII)I" } : Jvm.MethodName)) ∈ wt := wt_of 2059 (by decide +kernel) rfl
theorem wm_2060 : (Jvm.Cond.code ({ cls := "java/lang/StringUTF16", name := "indexOf", desc := "([BIII)I" } : Jvm.MethodName) prog_37_method_40_code (4 : Nat) (Option.some Jvm.ClassFile.FieldType.int)) ∈ wt := wt_of 2060 (by decide +kernel) rfl
theorem wm_2061 : (Jvm.Cond.methodLink "java/lang/StringUTF16" (224 : Nat) ({ cls := "java/lang/Math", name := "max", desc := "(II)I" } : Jvm.MethodName)) ∈ wt := wt_of 2061 (by decide +kernel) rfl
theorem wm_2062 : (Jvm.Cond.methodLink "java/lang/StringUTF16" (183 : Nat) ({ cls := "java/lang/Math", name := "min", desc := "(II)I" } : Jvm.MethodName)) ∈ wt := wt_of 2062 (by decide +kernel) rfl
theorem wm_2063 : (Jvm.Cond.constant "java/lang/StringUTF16" (227 : Nat) (65536 : Int32)) ∈ wt := wt_of 2063 (by decide +kernel) rfl
theorem wm_2064 : (Jvm.Cond.methodLink "java/lang/StringUTF16" (228 : Nat) ({ cls := "java/lang/StringUTF16", name := "indexOfChar", desc := "([BIII)I" } : Jvm.MethodName)) ∈ wt := wt_of 2064 (by decide +kernel) rfl
theorem wm_2065 : (Jvm.Cond.static ({ cls := "java/lang/StringUTF16", name := "indexOfChar", desc := "([BIII)I" } : Jvm.MethodName)) ∈ wt := wt_of 2065 (by decide +kernel) rfl
theorem wm_2066 : (Jvm.Cond.code ({ cls := "java/lang/StringUTF16", name := "indexOfChar", desc := "([BIII)I" } : Jvm.MethodName) prog_37_method_47_code (4 : Nat) (Option.some Jvm.ClassFile.FieldType.int)) ∈ wt := wt_of 2066 (by decide +kernel) rfl
theorem wm_2067 : (Jvm.Cond.methodLink "java/lang/StringUTF16" (96 : Nat) ({ cls := "java/lang/StringUTF16", name := "checkBoundsBeginEnd", desc := "(II[B)V" } : Jvm.MethodName)) ∈ wt := wt_of 2067 (by decide +kernel) rfl
theorem wm_2068 : (Jvm.Cond.static ({ cls := "java/lang/StringUTF16", name := "checkBoundsBeginEnd", desc := "(II[B)V" } : Jvm.MethodName)) ∈ wt := wt_of 2068 (by decide +kernel) rfl
theorem wm_2069 : (Jvm.Cond.code ({ cls := "java/lang/StringUTF16", name := "checkBoundsBeginEnd", desc := "(II[B)V" } : Jvm.MethodName) prog_37_method_93_code (3 : Nat) (Option.none : Option Jvm.ClassFile.FieldType)) ∈ wt := wt_of 2069 (by decide +kernel) rfl
theorem wm_2070 : (Jvm.Cond.methodLink "java/lang/StringUTF16" (48 : Nat) ({ cls := "java/lang/StringUTF16", name := "length", desc := "([B)I" } : Jvm.MethodName)) ∈ wt := wt_of 2070 (by decide +kernel) rfl
theorem wm_2071 : (Jvm.Cond.static ({ cls := "java/lang/StringUTF16", name := "length", desc := "([B)I" } : Jvm.MethodName)) ∈ wt := wt_of 2071 (by decide +kernel) rfl
theorem wm_2072 : (Jvm.Cond.code ({ cls := "java/lang/StringUTF16", name := "length", desc := "([B)I" } : Jvm.MethodName) prog_37_method_6_code (1 : Nat) (Option.some Jvm.ClassFile.FieldType.int)) ∈ wt := wt_of 2072 (by decide +kernel) rfl
theorem wm_2073 : (Jvm.Cond.methodLink "java/lang/StringUTF16" (241 : Nat) ({ cls := "java/lang/String", name := "checkBoundsBeginEnd", desc := "(III)V" } : Jvm.MethodName)) ∈ wt := wt_of 2073 (by decide +kernel) rfl
theorem wm_2074 : (Jvm.Cond.static ({ cls := "java/lang/String", name := "checkBoundsBeginEnd", desc := "(III)V" } : Jvm.MethodName)) ∈ wt := wt_of 2074 (by decide +kernel) rfl
theorem wm_2075 : (Jvm.Cond.code ({ cls := "java/lang/String", name := "checkBoundsBeginEnd", desc := "(III)V" } : Jvm.MethodName) prog_34_method_158_code (3 : Nat) (Option.none : Option Jvm.ClassFile.FieldType)) ∈ wt := wt_of 2075 (by decide +kernel) rfl
theorem wm_2076 : (Jvm.Cond.fieldLink "java/lang/String" (1053 : Nat) "jdk/internal/util/Preconditions" "SIOOBE_FORMATTER" "Ljava/util/function/BiFunction;") ∈ wt := wt_of 2076 (by decide +kernel) rfl
theorem wm_2077 : (Jvm.Cond.laysStatic "jdk/internal/util/Preconditions" "SIOOBE_FORMATTER" "Ljava/util/function/BiFunction;") ∈ wt := wt_of 2077 (by decide +kernel) rfl
theorem wm_2078 : (Jvm.Cond.methodLink "java/lang/String" (1062 : Nat) ({ cls := "jdk/internal/util/Preconditions", name := "checkFromToIndex", desc := "(IIILjava/util/function/BiFunction;)I" } : Jvm.MethodName)) ∈ wt := wt_of 2078 (by decide +kernel) rfl
theorem wm_2079 : (Jvm.Cond.static ({ cls := "jdk/internal/util/Preconditions", name := "checkFromToIndex", desc := "(IIILjava/util/function/BiFunction;)I" } : Jvm.MethodName)) ∈ wt := wt_of 2079 (by decide +kernel) rfl
theorem wm_2080 : (Jvm.Cond.code ({ cls := "jdk/internal/util/Preconditions", name := "checkFromToIndex", desc := "(IIILjava/util/function/BiFunction;)I" } : Jvm.MethodName) prog_56_method_12_code (4 : Nat) (Option.some Jvm.ClassFile.FieldType.int)) ∈ wt := wt_of 2080 (by decide +kernel) rfl
theorem wm_2081 : (Jvm.Cond.methodLink "java/lang/StringUTF16" (244 : Nat) ({ cls := "java/lang/StringUTF16", name := "indexOfCharUnsafe", desc := "([BIII)I" } : Jvm.MethodName)) ∈ wt := wt_of 2081 (by decide +kernel) rfl
theorem wm_2082 : (Jvm.Cond.static ({ cls := "java/lang/StringUTF16", name := "indexOfCharUnsafe", desc := "([BIII)I" } : Jvm.MethodName)) ∈ wt := wt_of 2082 (by decide +kernel) rfl
theorem wm_2083 : (Jvm.Cond.code ({ cls := "java/lang/StringUTF16", name := "indexOfCharUnsafe", desc := "([BIII)I" } : Jvm.MethodName) prog_37_method_48_code (5 : Nat) (Option.some Jvm.ClassFile.FieldType.int)) ∈ wt := wt_of 2083 (by decide +kernel) rfl
theorem wm_2084 : (Jvm.Cond.methodLink "java/lang/StringUTF16" (71 : Nat) ({ cls := "java/lang/StringUTF16", name := "getChar", desc := "([BI)C" } : Jvm.MethodName)) ∈ wt := wt_of 2084 (by decide +kernel) rfl
theorem wm_2085 : (Jvm.Cond.static ({ cls := "java/lang/StringUTF16", name := "getChar", desc := "([BI)C" } : Jvm.MethodName)) ∈ wt := wt_of 2085 (by decide +kernel) rfl
theorem wm_2086 : (Jvm.Cond.code ({ cls := "java/lang/StringUTF16", name := "getChar", desc := "([BI)C" } : Jvm.MethodName) prog_37_method_5_code (2 : Nat) (Option.some Jvm.ClassFile.FieldType.char)) ∈ wt := wt_of 2086 (by decide +kernel) rfl
theorem wm_2087 : (Jvm.Cond.fieldLink "java/lang/StringUTF16" (44 : Nat) "java/lang/StringUTF16" "$assertionsDisabled" "Z") ∈ wt := wt_of 2087 (by decide +kernel) rfl
theorem wm_2088 : (Jvm.Cond.laysStatic "java/lang/StringUTF16" "$assertionsDisabled" "Z") ∈ wt := wt_of 2088 (by decide +kernel) rfl
theorem wm_2089 : (Jvm.Cond.fieldLink "java/lang/StringUTF16" (59 : Nat) "java/lang/StringUTF16" "HI_BYTE_SHIFT" "I") ∈ wt := wt_of 2089 (by decide +kernel) rfl
theorem wm_2090 : (Jvm.Cond.laysStatic "java/lang/StringUTF16" "HI_BYTE_SHIFT" "I") ∈ wt := wt_of 2090 (by decide +kernel) rfl
theorem wm_2091 : (Jvm.Cond.fieldLink "java/lang/StringUTF16" (63 : Nat) "java/lang/StringUTF16" "LO_BYTE_SHIFT" "I") ∈ wt := wt_of 2091 (by decide +kernel) rfl
theorem wm_2092 : (Jvm.Cond.laysStatic "java/lang/StringUTF16" "LO_BYTE_SHIFT" "I") ∈ wt := wt_of 2092 (by decide +kernel) rfl
theorem wm_2093 : (Jvm.Cond.methodLink "java/lang/StringUTF16" (232 : Nat) ({ cls := "java/lang/StringUTF16", name := "indexOfSupplementary", desc := "([BIII)I" } : Jvm.MethodName)) ∈ wt := wt_of 2093 (by decide +kernel) rfl
theorem wm_2094 : (Jvm.Cond.static ({ cls := "java/lang/StringUTF16", name := "indexOfSupplementary", desc := "([BIII)I" } : Jvm.MethodName)) ∈ wt := wt_of 2094 (by decide +kernel) rfl
theorem wm_2095 : (Jvm.Cond.code ({ cls := "java/lang/StringUTF16", name := "indexOfSupplementary", desc := "([BIII)I" } : Jvm.MethodName) prog_37_method_49_code (7 : Nat) (Option.some Jvm.ClassFile.FieldType.int)) ∈ wt := wt_of 2095 (by decide +kernel) rfl
theorem wm_2096 : (Jvm.Cond.methodLink "java/lang/StringUTF16" (164 : Nat) ({ cls := "java/lang/Character", name := "isValidCodePoint", desc := "(I)Z" } : Jvm.MethodName)) ∈ wt := wt_of 2096 (by decide +kernel) rfl
theorem wm_2097 : (Jvm.Cond.static ({ cls := "java/lang/Character", name := "isValidCodePoint", desc := "(I)Z" } : Jvm.MethodName)) ∈ wt := wt_of 2097 (by decide +kernel) rfl
theorem wm_2098 : (Jvm.Cond.code ({ cls := "java/lang/Character", name := "isValidCodePoint", desc := "(I)Z" } : Jvm.MethodName) prog_22_method_11_code (2 : Nat) (Option.some Jvm.ClassFile.FieldType.boolean)) ∈ wt := wt_of 2098 (by decide +kernel) rfl
theorem wm_2099 : (Jvm.Cond.methodLink "java/lang/StringUTF16" (157 : Nat) ({ cls := "java/lang/Character", name := "highSurrogate", desc := "(I)C" } : Jvm.MethodName)) ∈ wt := wt_of 2099 (by decide +kernel) rfl
theorem wm_2100 : (Jvm.Cond.static ({ cls := "java/lang/Character", name := "highSurrogate", desc := "(I)C" } : Jvm.MethodName)) ∈ wt := wt_of 2100 (by decide +kernel) rfl
theorem wm_2101 : (Jvm.Cond.code ({ cls := "java/lang/Character", name := "highSurrogate", desc := "(I)C" } : Jvm.MethodName) prog_22_method_28_code (1 : Nat) (Option.some Jvm.ClassFile.FieldType.char)) ∈ wt := wt_of 2101 (by decide +kernel) rfl
theorem wm_2102 : (Jvm.Cond.constant "java/lang/Character" (110 : Nat) (55232 : Int32)) ∈ wt := wt_of 2102 (by decide +kernel) rfl
theorem wm_2103 : (Jvm.Cond.methodLink "java/lang/StringUTF16" (161 : Nat) ({ cls := "java/lang/Character", name := "lowSurrogate", desc := "(I)C" } : Jvm.MethodName)) ∈ wt := wt_of 2103 (by decide +kernel) rfl
theorem wm_2104 : (Jvm.Cond.static ({ cls := "java/lang/Character", name := "lowSurrogate", desc := "(I)C" } : Jvm.MethodName)) ∈ wt := wt_of 2104 (by decide +kernel) rfl
theorem wm_2105 : (Jvm.Cond.code ({ cls := "java/lang/Character", name := "lowSurrogate", desc := "(I)C" } : Jvm.MethodName) prog_22_method_29_code (1 : Nat) (Option.some Jvm.ClassFile.FieldType.char)) ∈ wt := wt_of 2105 (by decide +kernel) rfl
theorem wm_2106 : (Jvm.Cond.constant "java/lang/Character" (76 : Nat) (56320 : Int32)) ∈ wt := wt_of 2106 (by decide +kernel) rfl
theorem wm_2107 : (Jvm.Cond.methodLink "MixBoothLaw" (269 : Nat) ({ cls := "MixBoothModel", name := "setCross", desc := "(I)I" } : Jvm.MethodName)) ∈ wt := wt_of 2107 (by decide +kernel) rfl
theorem wm_2108 : (Jvm.Cond.instanceMethod ({ cls := "MixBoothModel", name := "setCross", desc := "(I)I" } : Jvm.MethodName)) ∈ wt := wt_of 2108 (by decide +kernel) rfl
theorem wm_2109 : (Jvm.Cond.selects "MixBoothModel" ({ cls := "MixBoothModel", name := "setCross", desc := "(I)I" } : Jvm.MethodName) ({ cls := "MixBoothModel", name := "setCross", desc := "(I)I" } : Jvm.MethodName)) ∈ wt := wt_of 2109 (by decide +kernel) rfl
theorem wm_2110 : (Jvm.Cond.code ({ cls := "MixBoothModel", name := "setCross", desc := "(I)I" } : Jvm.MethodName) prog_13_method_38_code (3 : Nat) (Option.some Jvm.ClassFile.FieldType.int)) ∈ wt := wt_of 2110 (by decide +kernel) rfl
theorem wm_2111 : (Jvm.Cond.methodLink "MixBoothLaw" (272 : Nat) ({ cls := "MixBoothModel", name := "level", desc := "(I)I" } : Jvm.MethodName)) ∈ wt := wt_of 2111 (by decide +kernel) rfl
theorem wm_2112 : (Jvm.Cond.instanceMethod ({ cls := "MixBoothModel", name := "level", desc := "(I)I" } : Jvm.MethodName)) ∈ wt := wt_of 2112 (by decide +kernel) rfl
theorem wm_2113 : (Jvm.Cond.selects "MixBoothModel" ({ cls := "MixBoothModel", name := "level", desc := "(I)I" } : Jvm.MethodName) ({ cls := "MixBoothModel", name := "level", desc := "(I)I" } : Jvm.MethodName)) ∈ wt := wt_of 2113 (by decide +kernel) rfl
theorem wm_2114 : (Jvm.Cond.code ({ cls := "MixBoothModel", name := "level", desc := "(I)I" } : Jvm.MethodName) prog_13_method_42_code (2 : Nat) (Option.some Jvm.ClassFile.FieldType.int)) ∈ wt := wt_of 2114 (by decide +kernel) rfl
theorem wm_2115 : (Jvm.Cond.methodLink "MixBoothModel" (222 : Nat) ({ cls := "MixBoothModel", name := "levelOf", desc := "(LMixBoothModel$Deck;)I" } : Jvm.MethodName)) ∈ wt := wt_of 2115 (by decide +kernel) rfl
theorem wm_2116 : (Jvm.Cond.privateMethod ({ cls := "MixBoothModel", name := "levelOf", desc := "(LMixBoothModel$Deck;)I" } : Jvm.MethodName)) ∈ wt := wt_of 2116 (by decide +kernel) rfl
theorem wm_2117 : (Jvm.Cond.instanceMethod ({ cls := "MixBoothModel", name := "levelOf", desc := "(LMixBoothModel$Deck;)I" } : Jvm.MethodName)) ∈ wt := wt_of 2117 (by decide +kernel) rfl
theorem wm_2118 : (Jvm.Cond.code ({ cls := "MixBoothModel", name := "levelOf", desc := "(LMixBoothModel$Deck;)I" } : Jvm.MethodName) prog_13_method_39_code (3 : Nat) (Option.some Jvm.ClassFile.FieldType.int)) ∈ wt := wt_of 2118 (by decide +kernel) rfl
theorem wm_2119 : (Jvm.Cond.methodLink "MixBoothModel" (219 : Nat) ({ cls := "java/lang/Math", name := "max", desc := "(II)I" } : Jvm.MethodName)) ∈ wt := wt_of 2119 (by decide +kernel) rfl
theorem wm_2120 : (Jvm.Cond.methodLink "MixBoothLaw" (276 : Nat) ({ cls := "MixBoothModel", name := "addEffect", desc := "(ICI)I" } : Jvm.MethodName)) ∈ wt := wt_of 2120 (by decide +kernel) rfl
theorem wm_2121 : (Jvm.Cond.instanceMethod ({ cls := "MixBoothModel", name := "addEffect", desc := "(ICI)I" } : Jvm.MethodName)) ∈ wt := wt_of 2121 (by decide +kernel) rfl
theorem wm_2122 : (Jvm.Cond.selects "MixBoothModel" ({ cls := "MixBoothModel", name := "addEffect", desc := "(ICI)I" } : Jvm.MethodName) ({ cls := "MixBoothModel", name := "addEffect", desc := "(ICI)I" } : Jvm.MethodName)) ∈ wt := wt_of 2122 (by decide +kernel) rfl
theorem wm_2123 : (Jvm.Cond.code ({ cls := "MixBoothModel", name := "addEffect", desc := "(ICI)I" } : Jvm.MethodName) prog_13_method_43_code (4 : Nat) (Option.some Jvm.ClassFile.FieldType.int)) ∈ wt := wt_of 2123 (by decide +kernel) rfl
theorem wm_2124 : (Jvm.Cond.stringRef "MixBoothModel" (228 : Nat) "erc") ∈ wt := wt_of 2124 (by decide +kernel) rfl
theorem wm_2125 : (Jvm.Cond.methodLink "MixBoothLaw" (279 : Nat) ({ cls := "MixBoothModel", name := "dropEffects", desc := "(I)I" } : Jvm.MethodName)) ∈ wt := wt_of 2125 (by decide +kernel) rfl
theorem wm_2126 : (Jvm.Cond.instanceMethod ({ cls := "MixBoothModel", name := "dropEffects", desc := "(I)I" } : Jvm.MethodName)) ∈ wt := wt_of 2126 (by decide +kernel) rfl
theorem wm_2127 : (Jvm.Cond.selects "MixBoothModel" ({ cls := "MixBoothModel", name := "dropEffects", desc := "(I)I" } : Jvm.MethodName) ({ cls := "MixBoothModel", name := "dropEffects", desc := "(I)I" } : Jvm.MethodName)) ∈ wt := wt_of 2127 (by decide +kernel) rfl
theorem wm_2128 : (Jvm.Cond.code ({ cls := "MixBoothModel", name := "dropEffects", desc := "(I)I" } : Jvm.MethodName) prog_13_method_44_code (3 : Nat) (Option.some Jvm.ClassFile.FieldType.int)) ∈ wt := wt_of 2128 (by decide +kernel) rfl
theorem wm_2129 : (Jvm.Cond.interfaceEntry "MixBoothModel" (233 : Nat)) ∈ wt := wt_of 2129 (by decide +kernel) rfl
theorem wm_2130 : (Jvm.Cond.methodLink "MixBoothModel" (233 : Nat) ({ cls := "java/util/List", name := "clear", desc := "()V" } : Jvm.MethodName)) ∈ wt := wt_of 2130 (by decide +kernel) rfl
theorem wm_2131 : (Jvm.Cond.interfaceMethod "java/util/List" "java/util/List" "clear" "()V") ∈ wt := wt_of 2131 (by decide +kernel) rfl
theorem wm_2132 : (Jvm.Cond.declares ({ cls := "java/util/List", name := "clear", desc := "()V" } : Jvm.MethodName)) ∈ wt := wt_of 2132 (by decide +kernel) rfl
theorem wm_2133 : (Jvm.Cond.selects "java/util/ArrayList" ({ cls := "java/util/List", name := "clear", desc := "()V" } : Jvm.MethodName) ({ cls := "java/util/ArrayList", name := "clear", desc := "()V" } : Jvm.MethodName)) ∈ wt := wt_of 2133 (by decide +kernel) rfl
theorem wm_2134 : (Jvm.Cond.unhidden "java/util/ArrayList" "clear" "()V") ∈ wt := wt_of 2134 (by decide +kernel) rfl
theorem wm_2135 : (Jvm.Cond.instanceMethod ({ cls := "java/util/ArrayList", name := "clear", desc := "()V" } : Jvm.MethodName)) ∈ wt := wt_of 2135 (by decide +kernel) rfl
theorem wm_2136 : (Jvm.Cond.publicMethod ({ cls := "java/util/ArrayList", name := "clear", desc := "()V" } : Jvm.MethodName)) ∈ wt := wt_of 2136 (by decide +kernel) rfl
theorem wm_2137 : (Jvm.Cond.code ({ cls := "java/util/ArrayList", name := "clear", desc := "()V" } : Jvm.MethodName) prog_45_method_40_code (4 : Nat) (Option.none : Option Jvm.ClassFile.FieldType)) ∈ wt := wt_of 2137 (by decide +kernel) rfl
theorem wm_2138 : (Jvm.Cond.methodLink "MixBoothLaw" (282 : Nat) ({ cls := "MixBoothModel", name := "tail", desc := "(II)I" } : Jvm.MethodName)) ∈ wt := wt_of 2138 (by decide +kernel) rfl
theorem wm_2139 : (Jvm.Cond.instanceMethod ({ cls := "MixBoothModel", name := "tail", desc := "(II)I" } : Jvm.MethodName)) ∈ wt := wt_of 2139 (by decide +kernel) rfl
theorem wm_2140 : (Jvm.Cond.selects "MixBoothModel" ({ cls := "MixBoothModel", name := "tail", desc := "(II)I" } : Jvm.MethodName) ({ cls := "MixBoothModel", name := "tail", desc := "(II)I" } : Jvm.MethodName)) ∈ wt := wt_of 2140 (by decide +kernel) rfl
theorem wm_2141 : (Jvm.Cond.code ({ cls := "MixBoothModel", name := "tail", desc := "(II)I" } : Jvm.MethodName) prog_13_method_45_code (3 : Nat) (Option.some Jvm.ClassFile.FieldType.int)) ∈ wt := wt_of 2141 (by decide +kernel) rfl
theorem wm_2142 : (Jvm.Cond.classLink "MixBoothModel" (236 : Nat) "[I") ∈ wt := wt_of 2142 (by decide +kernel) rfl
theorem wm_2143 : (Jvm.Cond.methodLink "MixBoothLaw" (285 : Nat) ({ cls := "MixBoothModel", name := "go", desc := "(I)I" } : Jvm.MethodName)) ∈ wt := wt_of 2143 (by decide +kernel) rfl
theorem wm_2144 : (Jvm.Cond.instanceMethod ({ cls := "MixBoothModel", name := "go", desc := "(I)I" } : Jvm.MethodName)) ∈ wt := wt_of 2144 (by decide +kernel) rfl
theorem wm_2145 : (Jvm.Cond.selects "MixBoothModel" ({ cls := "MixBoothModel", name := "go", desc := "(I)I" } : Jvm.MethodName) ({ cls := "MixBoothModel", name := "go", desc := "(I)I" } : Jvm.MethodName)) ∈ wt := wt_of 2145 (by decide +kernel) rfl
theorem wm_2146 : (Jvm.Cond.code ({ cls := "MixBoothModel", name := "go", desc := "(I)I" } : Jvm.MethodName) prog_13_method_49_code (4 : Nat) (Option.some Jvm.ClassFile.FieldType.int)) ∈ wt := wt_of 2146 (by decide +kernel) rfl
theorem wm_2147 : (Jvm.Cond.methodLink "MixBoothModel" (307 : Nat) ({ cls := "MixBoothModel", name := "tick", desc := "()V" } : Jvm.MethodName)) ∈ wt := wt_of 2147 (by decide +kernel) rfl
theorem wm_2148 : (Jvm.Cond.privateMethod ({ cls := "MixBoothModel", name := "tick", desc := "()V" } : Jvm.MethodName)) ∈ wt := wt_of 2148 (by decide +kernel) rfl
theorem wm_2149 : (Jvm.Cond.instanceMethod ({ cls := "MixBoothModel", name := "tick", desc := "()V" } : Jvm.MethodName)) ∈ wt := wt_of 2149 (by decide +kernel) rfl
theorem wm_2150 : (Jvm.Cond.code ({ cls := "MixBoothModel", name := "tick", desc := "()V" } : Jvm.MethodName) prog_13_method_48_code (8 : Nat) (Option.none : Option Jvm.ClassFile.FieldType)) ∈ wt := wt_of 2150 (by decide +kernel) rfl
theorem wm_2151 : (Jvm.Cond.methodLink "MixBoothModel" (260 : Nat) ({ cls := "MixBoothModel$Deck", name := "goesOn", desc := "()V" } : Jvm.MethodName)) ∈ wt := wt_of 2151 (by decide +kernel) rfl
theorem wm_2152 : (Jvm.Cond.instanceMethod ({ cls := "MixBoothModel$Deck", name := "goesOn", desc := "()V" } : Jvm.MethodName)) ∈ wt := wt_of 2152 (by decide +kernel) rfl
theorem wm_2153 : (Jvm.Cond.selects "MixBoothModel$Deck" ({ cls := "MixBoothModel$Deck", name := "goesOn", desc := "()V" } : Jvm.MethodName) ({ cls := "MixBoothModel$Deck", name := "goesOn", desc := "()V" } : Jvm.MethodName)) ∈ wt := wt_of 2153 (by decide +kernel) rfl
theorem wm_2154 : (Jvm.Cond.code ({ cls := "MixBoothModel$Deck", name := "goesOn", desc := "()V" } : Jvm.MethodName) prog_14_method_7_code (3 : Nat) (Option.none : Option Jvm.ClassFile.FieldType)) ∈ wt := wt_of 2154 (by decide +kernel) rfl
theorem wm_2155 : (Jvm.Cond.constantLong "MixBoothModel$Deck" (90 : Nat) (10 : Int64)) ∈ wt := wt_of 2155 (by decide +kernel) rfl
theorem wm_2156 : (Jvm.Cond.methodLink "MixBoothModel$Deck" (92 : Nat) ({ cls := "java/lang/Integer", name := "signum", desc := "(I)I" } : Jvm.MethodName)) ∈ wt := wt_of 2156 (by decide +kernel) rfl
theorem wm_2157 : (Jvm.Cond.static ({ cls := "java/lang/Integer", name := "signum", desc := "(I)I" } : Jvm.MethodName)) ∈ wt := wt_of 2157 (by decide +kernel) rfl
theorem wm_2158 : (Jvm.Cond.code ({ cls := "java/lang/Integer", name := "signum", desc := "(I)I" } : Jvm.MethodName) prog_29_method_56_code (1 : Nat) (Option.some Jvm.ClassFile.FieldType.int)) ∈ wt := wt_of 2158 (by decide +kernel) rfl
theorem wm_2159 : (Jvm.Cond.methodLink "MixBoothModel$Deck" (102 : Nat) ({ cls := "java/lang/Math", name := "min", desc := "(JJ)J" } : Jvm.MethodName)) ∈ wt := wt_of 2159 (by decide +kernel) rfl
theorem wm_2160 : (Jvm.Cond.methodLink "MixBoothModel$Deck" (108 : Nat) ({ cls := "MixBoothModel$Deck", name := "stands", desc := "()V" } : Jvm.MethodName)) ∈ wt := wt_of 2160 (by decide +kernel) rfl
theorem wm_2161 : (Jvm.Cond.methodLink "MixBoothModel" (263 : Nat) ({ cls := "MixBoothModel", name := "sounds", desc := "(LMixBoothModel$Deck;)I" } : Jvm.MethodName)) ∈ wt := wt_of 2161 (by decide +kernel) rfl
theorem wm_2162 : (Jvm.Cond.privateMethod ({ cls := "MixBoothModel", name := "sounds", desc := "(LMixBoothModel$Deck;)I" } : Jvm.MethodName)) ∈ wt := wt_of 2162 (by decide +kernel) rfl
theorem wm_2163 : (Jvm.Cond.instanceMethod ({ cls := "MixBoothModel", name := "sounds", desc := "(LMixBoothModel$Deck;)I" } : Jvm.MethodName)) ∈ wt := wt_of 2163 (by decide +kernel) rfl
theorem wm_2164 : (Jvm.Cond.code ({ cls := "MixBoothModel", name := "sounds", desc := "(LMixBoothModel$Deck;)I" } : Jvm.MethodName) prog_13_method_46_code (9 : Nat) (Option.some Jvm.ClassFile.FieldType.int)) ∈ wt := wt_of 2164 (by decide +kernel) rfl
theorem wm_2165 : (Jvm.Cond.methodLink "MixBoothModel" (237 : Nat) ({ cls := "MixBoothModel", name := "loudnessOf", desc := "(LMixBoothModel$Deck;)I" } : Jvm.MethodName)) ∈ wt := wt_of 2165 (by decide +kernel) rfl
theorem wm_2166 : (Jvm.Cond.privateMethod ({ cls := "MixBoothModel", name := "loudnessOf", desc := "(LMixBoothModel$Deck;)I" } : Jvm.MethodName)) ∈ wt := wt_of 2166 (by decide +kernel) rfl
theorem wm_2167 : (Jvm.Cond.instanceMethod ({ cls := "MixBoothModel", name := "loudnessOf", desc := "(LMixBoothModel$Deck;)I" } : Jvm.MethodName)) ∈ wt := wt_of 2167 (by decide +kernel) rfl
theorem wm_2168 : (Jvm.Cond.code ({ cls := "MixBoothModel", name := "loudnessOf", desc := "(LMixBoothModel$Deck;)I" } : Jvm.MethodName) prog_13_method_40_code (2 : Nat) (Option.some Jvm.ClassFile.FieldType.int)) ∈ wt := wt_of 2168 (by decide +kernel) rfl
theorem wm_2169 : (Jvm.Cond.interfaceEntry "MixBoothModel" (240 : Nat)) ∈ wt := wt_of 2169 (by decide +kernel) rfl
theorem wm_2170 : (Jvm.Cond.methodLink "MixBoothModel" (240 : Nat) ({ cls := "java/util/List", name := "iterator", desc := "()Ljava/util/Iterator;" } : Jvm.MethodName)) ∈ wt := wt_of 2170 (by decide +kernel) rfl
theorem wm_2171 : (Jvm.Cond.interfaceMethod "java/util/List" "java/util/List" "iterator" "()Ljava/util/Iterator;") ∈ wt := wt_of 2171 (by decide +kernel) rfl
theorem wm_2172 : (Jvm.Cond.declares ({ cls := "java/util/List", name := "iterator", desc := "()Ljava/util/Iterator;" } : Jvm.MethodName)) ∈ wt := wt_of 2172 (by decide +kernel) rfl
theorem wm_2173 : (Jvm.Cond.selects "java/util/ArrayList" ({ cls := "java/util/List", name := "iterator", desc := "()Ljava/util/Iterator;" } : Jvm.MethodName) ({ cls := "java/util/ArrayList", name := "iterator", desc := "()Ljava/util/Iterator;" } : Jvm.MethodName)) ∈ wt := wt_of 2173 (by decide +kernel) rfl
theorem wm_2174 : (Jvm.Cond.unhidden "java/util/ArrayList" "iterator" "()Ljava/util/Iterator;") ∈ wt := wt_of 2174 (by decide +kernel) rfl
theorem wm_2175 : (Jvm.Cond.instanceMethod ({ cls := "java/util/ArrayList", name := "iterator", desc := "()Ljava/util/Iterator;" } : Jvm.MethodName)) ∈ wt := wt_of 2175 (by decide +kernel) rfl
theorem wm_2176 : (Jvm.Cond.publicMethod ({ cls := "java/util/ArrayList", name := "iterator", desc := "()Ljava/util/Iterator;" } : Jvm.MethodName)) ∈ wt := wt_of 2176 (by decide +kernel) rfl
theorem wm_2177 : (Jvm.Cond.code ({ cls := "java/util/ArrayList", name := "iterator", desc := "()Ljava/util/Iterator;" } : Jvm.MethodName) prog_45_method_55_code (1 : Nat) (Option.some (Jvm.ClassFile.FieldType.object "java/util/Iterator"))) ∈ wt := wt_of 2177 (by decide +kernel) rfl
theorem wm_2178 : (Jvm.Cond.classLink "java/util/ArrayList" (267 : Nat) "java/util/ArrayList$Itr") ∈ wt := wt_of 2178 (by decide +kernel) rfl
theorem wm_2179 : (Jvm.Cond.instantiable "java/util/ArrayList$Itr" (4 : Nat)) ∈ wt := wt_of 2179 (by decide +kernel) rfl
theorem wm_2180 : (Jvm.Cond.methodLink "java/util/ArrayList" (269 : Nat) ({ cls := "java/util/ArrayList$Itr", name := "<init>", desc := "(Ljava/util/ArrayList;)V" } : Jvm.MethodName)) ∈ wt := wt_of 2180 (by decide +kernel) rfl
theorem wm_2181 : (Jvm.Cond.instanceMethod ({ cls := "java/util/ArrayList$Itr", name := "<init>", desc := "(Ljava/util/ArrayList;)V" } : Jvm.MethodName)) ∈ wt := wt_of 2181 (by decide +kernel) rfl
theorem wm_2182 : (Jvm.Cond.code ({ cls := "java/util/ArrayList$Itr", name := "<init>", desc := "(Ljava/util/ArrayList;)V" } : Jvm.MethodName) prog_46_method_1_code (2 : Nat) (Option.none : Option Jvm.ClassFile.FieldType)) ∈ wt := wt_of 2182 (by decide +kernel) rfl
theorem wm_2183 : (Jvm.Cond.methodLink "java/util/ArrayList$Itr" (7 : Nat) ({ cls := "java/lang/Object", name := "<init>", desc := "()V" } : Jvm.MethodName)) ∈ wt := wt_of 2183 (by decide +kernel) rfl
theorem wm_2184 : (Jvm.Cond.fieldLink "java/util/ArrayList$Itr" (25 : Nat) "java/util/ArrayList$Itr" "cursor" "I") ∈ wt := wt_of 2184 (by decide +kernel) rfl
theorem wm_2185 : (Jvm.Cond.fieldLink "java/util/ArrayList$Itr" (13 : Nat) "java/util/ArrayList$Itr" "lastRet" "I") ∈ wt := wt_of 2185 (by decide +kernel) rfl
theorem wm_2186 : (Jvm.Cond.fieldLink "java/util/ArrayList$Itr" (22 : Nat) "java/util/ArrayList$Itr" "expectedModCount" "I") ∈ wt := wt_of 2186 (by decide +kernel) rfl
theorem wm_2187 : (Jvm.Cond.fieldLink "java/util/ArrayList$Itr" (1 : Nat) "java/util/ArrayList$Itr" "this$0" "Ljava/util/ArrayList;") ∈ wt := wt_of 2187 (by decide +kernel) rfl
theorem wm_2188 : (Jvm.Cond.lays "java/util/ArrayList$Itr" "java/util/ArrayList$Itr" "cursor" "I") ∈ wt := wt_of 2188 (by decide +kernel) rfl
theorem wm_2189 : (Jvm.Cond.soleField "java/util/ArrayList$Itr" "cursor") ∈ wt := wt_of 2189 (by decide +kernel) rfl
theorem wm_2190 : (Jvm.Cond.lays "java/util/ArrayList$Itr" "java/util/ArrayList$Itr" "lastRet" "I") ∈ wt := wt_of 2190 (by decide +kernel) rfl
theorem wm_2191 : (Jvm.Cond.soleField "java/util/ArrayList$Itr" "lastRet") ∈ wt := wt_of 2191 (by decide +kernel) rfl
theorem wm_2192 : (Jvm.Cond.lays "java/util/ArrayList$Itr" "java/util/ArrayList$Itr" "expectedModCount" "I") ∈ wt := wt_of 2192 (by decide +kernel) rfl
theorem wm_2193 : (Jvm.Cond.soleField "java/util/ArrayList$Itr" "expectedModCount") ∈ wt := wt_of 2193 (by decide +kernel) rfl
theorem wm_2194 : (Jvm.Cond.laysFinal "java/util/ArrayList$Itr" "java/util/ArrayList$Itr" "this$0" "Ljava/util/ArrayList;") ∈ wt := wt_of 2194 (by decide +kernel) rfl
theorem wm_2195 : (Jvm.Cond.soleField "java/util/ArrayList$Itr" "this$0") ∈ wt := wt_of 2195 (by decide +kernel) rfl
theorem wm_2196 : (Jvm.Cond.superclass "java/util/ArrayList$Itr" "java/lang/Object") ∈ wt := wt_of 2196 (by decide +kernel) rfl
theorem wm_2197 : (Jvm.Cond.interfaceEntry "MixBoothModel" (244 : Nat)) ∈ wt := wt_of 2197 (by decide +kernel) rfl
theorem wm_2198 : (Jvm.Cond.methodLink "MixBoothModel" (244 : Nat) ({ cls := "java/util/Iterator", name := "hasNext", desc := "()Z" } : Jvm.MethodName)) ∈ wt := wt_of 2198 (by decide +kernel) rfl
theorem wm_2199 : (Jvm.Cond.interfaceMethod "java/util/Iterator" "java/util/Iterator" "hasNext" "()Z") ∈ wt := wt_of 2199 (by decide +kernel) rfl
theorem wm_2200 : (Jvm.Cond.declares ({ cls := "java/util/Iterator", name := "hasNext", desc := "()Z" } : Jvm.MethodName)) ∈ wt := wt_of 2200 (by decide +kernel) rfl
theorem wm_2201 : (Jvm.Cond.castable "java/util/ArrayList$Itr" "java/util/Iterator") ∈ wt := wt_of 2201 (by decide +kernel) rfl
theorem wm_2202 : (Jvm.Cond.selects "java/util/ArrayList$Itr" ({ cls := "java/util/Iterator", name := "hasNext", desc := "()Z" } : Jvm.MethodName) ({ cls := "java/util/ArrayList$Itr", name := "hasNext", desc := "()Z" } : Jvm.MethodName)) ∈ wt := wt_of 2202 (by decide +kernel) rfl
theorem wm_2203 : (Jvm.Cond.unhidden "java/util/ArrayList$Itr" "hasNext" "()Z") ∈ wt := wt_of 2203 (by decide +kernel) rfl
theorem wm_2204 : (Jvm.Cond.instanceMethod ({ cls := "java/util/ArrayList$Itr", name := "hasNext", desc := "()Z" } : Jvm.MethodName)) ∈ wt := wt_of 2204 (by decide +kernel) rfl
theorem wm_2205 : (Jvm.Cond.publicMethod ({ cls := "java/util/ArrayList$Itr", name := "hasNext", desc := "()Z" } : Jvm.MethodName)) ∈ wt := wt_of 2205 (by decide +kernel) rfl
theorem wm_2206 : (Jvm.Cond.code ({ cls := "java/util/ArrayList$Itr", name := "hasNext", desc := "()Z" } : Jvm.MethodName) prog_46_method_2_code (1 : Nat) (Option.some Jvm.ClassFile.FieldType.boolean)) ∈ wt := wt_of 2206 (by decide +kernel) rfl
theorem wm_2207 : (Jvm.Cond.interfaceEntry "MixBoothModel" (249 : Nat)) ∈ wt := wt_of 2207 (by decide +kernel) rfl
theorem wm_2208 : (Jvm.Cond.methodLink "MixBoothModel" (249 : Nat) ({ cls := "java/util/Iterator", name := "next", desc := "()Ljava/lang/Object;" } : Jvm.MethodName)) ∈ wt := wt_of 2208 (by decide +kernel) rfl
theorem wm_2209 : (Jvm.Cond.interfaceMethod "java/util/Iterator" "java/util/Iterator" "next" "()Ljava/lang/Object;") ∈ wt := wt_of 2209 (by decide +kernel) rfl
theorem wm_2210 : (Jvm.Cond.declares ({ cls := "java/util/Iterator", name := "next", desc := "()Ljava/lang/Object;" } : Jvm.MethodName)) ∈ wt := wt_of 2210 (by decide +kernel) rfl
theorem wm_2211 : (Jvm.Cond.selects "java/util/ArrayList$Itr" ({ cls := "java/util/Iterator", name := "next", desc := "()Ljava/lang/Object;" } : Jvm.MethodName) ({ cls := "java/util/ArrayList$Itr", name := "next", desc := "()Ljava/lang/Object;" } : Jvm.MethodName)) ∈ wt := wt_of 2211 (by decide +kernel) rfl
theorem wm_2212 : (Jvm.Cond.unhidden "java/util/ArrayList$Itr" "next" "()Ljava/lang/Object;") ∈ wt := wt_of 2212 (by decide +kernel) rfl
theorem wm_2213 : (Jvm.Cond.instanceMethod ({ cls := "java/util/ArrayList$Itr", name := "next", desc := "()Ljava/lang/Object;" } : Jvm.MethodName)) ∈ wt := wt_of 2213 (by decide +kernel) rfl
theorem wm_2214 : (Jvm.Cond.publicMethod ({ cls := "java/util/ArrayList$Itr", name := "next", desc := "()Ljava/lang/Object;" } : Jvm.MethodName)) ∈ wt := wt_of 2214 (by decide +kernel) rfl
theorem wm_2215 : (Jvm.Cond.code ({ cls := "java/util/ArrayList$Itr", name := "next", desc := "()Ljava/lang/Object;" } : Jvm.MethodName) prog_46_method_3_code (3 : Nat) (Option.some (Jvm.ClassFile.FieldType.object "java/lang/Object"))) ∈ wt := wt_of 2215 (by decide +kernel) rfl
theorem wm_2216 : (Jvm.Cond.methodLink "java/util/ArrayList$Itr" (31 : Nat) ({ cls := "java/util/ArrayList$Itr", name := "checkForComodification", desc := "()V" } : Jvm.MethodName)) ∈ wt := wt_of 2216 (by decide +kernel) rfl
theorem wm_2217 : (Jvm.Cond.instanceMethod ({ cls := "java/util/ArrayList$Itr", name := "checkForComodification", desc := "()V" } : Jvm.MethodName)) ∈ wt := wt_of 2217 (by decide +kernel) rfl
theorem wm_2218 : (Jvm.Cond.selects "java/util/ArrayList$Itr" ({ cls := "java/util/ArrayList$Itr", name := "checkForComodification", desc := "()V" } : Jvm.MethodName) ({ cls := "java/util/ArrayList$Itr", name := "checkForComodification", desc := "()V" } : Jvm.MethodName)) ∈ wt := wt_of 2218 (by decide +kernel) rfl
theorem wm_2219 : (Jvm.Cond.code ({ cls := "java/util/ArrayList$Itr", name := "checkForComodification", desc := "()V" } : Jvm.MethodName) prog_46_method_6_code (1 : Nat) (Option.none : Option Jvm.ClassFile.FieldType)) ∈ wt := wt_of 2219 (by decide +kernel) rfl
theorem wm_2220 : (Jvm.Cond.classLink "java/util/ArrayList$Itr" (34 : Nat) "java/util/NoSuchElementException") ∈ wt := wt_of 2220 (by decide +kernel) rfl
theorem wm_2221 : (Jvm.Cond.methodLink "java/util/ArrayList$Itr" (36 : Nat) ({ cls := "java/util/NoSuchElementException", name := "<init>", desc := "()V" } : Jvm.MethodName)) ∈ wt := wt_of 2221 (by decide +kernel) rfl
theorem wm_2222 : (Jvm.Cond.instanceMethod ({ cls := "java/util/NoSuchElementException", name := "<init>", desc := "()V" } : Jvm.MethodName)) ∈ wt := wt_of 2222 (by decide +kernel) rfl
theorem wm_2223 : (Jvm.Cond.code ({ cls := "java/util/NoSuchElementException", name := "<init>", desc := "()V" } : Jvm.MethodName) prog_51_method_1_code (1 : Nat) (Option.none : Option Jvm.ClassFile.FieldType)) ∈ wt := wt_of 2223 (by decide +kernel) rfl
theorem wm_2224 : (Jvm.Cond.methodLink "java/util/NoSuchElementException" (1 : Nat) ({ cls := "java/lang/RuntimeException", name := "<init>", desc := "()V" } : Jvm.MethodName)) ∈ wt := wt_of 2224 (by decide +kernel) rfl
theorem wm_2225 : (Jvm.Cond.instanceMethod ({ cls := "java/lang/RuntimeException", name := "<init>", desc := "()V" } : Jvm.MethodName)) ∈ wt := wt_of 2225 (by decide +kernel) rfl
theorem wm_2226 : (Jvm.Cond.code ({ cls := "java/lang/RuntimeException", name := "<init>", desc := "()V" } : Jvm.MethodName) prog_33_method_1_code (1 : Nat) (Option.none : Option Jvm.ClassFile.FieldType)) ∈ wt := wt_of 2226 (by decide +kernel) rfl
theorem wm_2227 : (Jvm.Cond.methodLink "java/lang/RuntimeException" (1 : Nat) ({ cls := "java/lang/Exception", name := "<init>", desc := "()V" } : Jvm.MethodName)) ∈ wt := wt_of 2227 (by decide +kernel) rfl
theorem wm_2228 : (Jvm.Cond.instanceMethod ({ cls := "java/lang/Exception", name := "<init>", desc := "()V" } : Jvm.MethodName)) ∈ wt := wt_of 2228 (by decide +kernel) rfl
theorem wm_2229 : (Jvm.Cond.code ({ cls := "java/lang/Exception", name := "<init>", desc := "()V" } : Jvm.MethodName) prog_25_method_1_code (1 : Nat) (Option.none : Option Jvm.ClassFile.FieldType)) ∈ wt := wt_of 2229 (by decide +kernel) rfl
theorem wm_2230 : (Jvm.Cond.methodLink "java/lang/Exception" (1 : Nat) ({ cls := "java/lang/Throwable", name := "<init>", desc := "()V" } : Jvm.MethodName)) ∈ wt := wt_of 2230 (by decide +kernel) rfl
theorem wm_2231 : (Jvm.Cond.methodLink "MixBoothModel" (253 : Nat) ({ cls := "MixBoothModel$Deck", name := "isHalf", desc := "()Z" } : Jvm.MethodName)) ∈ wt := wt_of 2231 (by decide +kernel) rfl
theorem wm_2232 : (Jvm.Cond.instanceMethod ({ cls := "MixBoothModel$Deck", name := "isHalf", desc := "()Z" } : Jvm.MethodName)) ∈ wt := wt_of 2232 (by decide +kernel) rfl
theorem wm_2233 : (Jvm.Cond.selects "MixBoothModel$Deck" ({ cls := "MixBoothModel$Deck", name := "isHalf", desc := "()Z" } : Jvm.MethodName) ({ cls := "MixBoothModel$Deck", name := "isHalf", desc := "()Z" } : Jvm.MethodName)) ∈ wt := wt_of 2233 (by decide +kernel) rfl
theorem wm_2234 : (Jvm.Cond.code ({ cls := "MixBoothModel$Deck", name := "isHalf", desc := "()Z" } : Jvm.MethodName) prog_14_method_11_code (1 : Nat) (Option.some Jvm.ClassFile.FieldType.boolean)) ∈ wt := wt_of 2234 (by decide +kernel) rfl
theorem wm_2235 : (Jvm.Cond.constantLong "MixBoothModel$Deck" (118 : Nat) (30000000 : Int64)) ∈ wt := wt_of 2235 (by decide +kernel) rfl
theorem wm_2236 : (Jvm.Cond.methodLink "MixBoothModel" (256 : Nat) ({ cls := "MixBoothModel", name := "isHeard", desc := "(LMixBoothModel$Deck;)Z" } : Jvm.MethodName)) ∈ wt := wt_of 2236 (by decide +kernel) rfl
theorem wm_2237 : (Jvm.Cond.privateMethod ({ cls := "MixBoothModel", name := "isHeard", desc := "(LMixBoothModel$Deck;)Z" } : Jvm.MethodName)) ∈ wt := wt_of 2237 (by decide +kernel) rfl
theorem wm_2238 : (Jvm.Cond.instanceMethod ({ cls := "MixBoothModel", name := "isHeard", desc := "(LMixBoothModel$Deck;)Z" } : Jvm.MethodName)) ∈ wt := wt_of 2238 (by decide +kernel) rfl
theorem wm_2239 : (Jvm.Cond.code ({ cls := "MixBoothModel", name := "isHeard", desc := "(LMixBoothModel$Deck;)Z" } : Jvm.MethodName) prog_13_method_41_code (2 : Nat) (Option.some Jvm.ClassFile.FieldType.boolean)) ∈ wt := wt_of 2239 (by decide +kernel) rfl
theorem wm_2240 : (Jvm.Cond.methodLink "MixBoothModel" (269 : Nat) ({ cls := "MixBoothModel$Deck", name := "has", desc := "(I)Z" } : Jvm.MethodName)) ∈ wt := wt_of 2240 (by decide +kernel) rfl
theorem wm_2241 : (Jvm.Cond.instanceMethod ({ cls := "MixBoothModel$Deck", name := "has", desc := "(I)Z" } : Jvm.MethodName)) ∈ wt := wt_of 2241 (by decide +kernel) rfl
theorem wm_2242 : (Jvm.Cond.selects "MixBoothModel$Deck" ({ cls := "MixBoothModel$Deck", name := "has", desc := "(I)Z" } : Jvm.MethodName) ({ cls := "MixBoothModel$Deck", name := "has", desc := "(I)Z" } : Jvm.MethodName)) ∈ wt := wt_of 2242 (by decide +kernel) rfl
theorem wm_2243 : (Jvm.Cond.code ({ cls := "MixBoothModel$Deck", name := "has", desc := "(I)Z" } : Jvm.MethodName) prog_14_method_10_code (2 : Nat) (Option.some Jvm.ClassFile.FieldType.boolean)) ∈ wt := wt_of 2243 (by decide +kernel) rfl
theorem wm_2244 : (Jvm.Cond.methodLink "MixBoothModel$Deck" (111 : Nat) ({ cls := "MixBoothModel$Deck", name := "beat", desc := "()I" } : Jvm.MethodName)) ∈ wt := wt_of 2244 (by decide +kernel) rfl
theorem wm_2245 : (Jvm.Cond.methodLink "MixBoothModel" (298 : Nat) ({ cls := "MixBoothModel", name := "dances", desc := "()V" } : Jvm.MethodName)) ∈ wt := wt_of 2245 (by decide +kernel) rfl
theorem wm_2246 : (Jvm.Cond.privateMethod ({ cls := "MixBoothModel", name := "dances", desc := "()V" } : Jvm.MethodName)) ∈ wt := wt_of 2246 (by decide +kernel) rfl
theorem wm_2247 : (Jvm.Cond.instanceMethod ({ cls := "MixBoothModel", name := "dances", desc := "()V" } : Jvm.MethodName)) ∈ wt := wt_of 2247 (by decide +kernel) rfl
theorem wm_2248 : (Jvm.Cond.code ({ cls := "MixBoothModel", name := "dances", desc := "()V" } : Jvm.MethodName) prog_13_method_47_code (9 : Nat) (Option.none : Option Jvm.ClassFile.FieldType)) ∈ wt := wt_of 2248 (by decide +kernel) rfl
theorem wm_2249 : (Jvm.Cond.constantLong "MixBoothModel" (304 : Nat) (100 : Int64)) ∈ wt := wt_of 2249 (by decide +kernel) rfl
theorem wm_2250 : (Jvm.Cond.constant "MixBoothModel" (306 : Nat) (360000 : Int32)) ∈ wt := wt_of 2250 (by decide +kernel) rfl
theorem wm_2251 : (Jvm.Cond.methodLink "MixBoothLaw" (289 : Nat) ({ cls := "MixBoothModel", name := "ticks", desc := "()I" } : Jvm.MethodName)) ∈ wt := wt_of 2251 (by decide +kernel) rfl
theorem wm_2252 : (Jvm.Cond.instanceMethod ({ cls := "MixBoothModel", name := "ticks", desc := "()I" } : Jvm.MethodName)) ∈ wt := wt_of 2252 (by decide +kernel) rfl
theorem wm_2253 : (Jvm.Cond.selects "MixBoothModel" ({ cls := "MixBoothModel", name := "ticks", desc := "()I" } : Jvm.MethodName) ({ cls := "MixBoothModel", name := "ticks", desc := "()I" } : Jvm.MethodName)) ∈ wt := wt_of 2253 (by decide +kernel) rfl
theorem wm_2254 : (Jvm.Cond.code ({ cls := "MixBoothModel", name := "ticks", desc := "()I" } : Jvm.MethodName) prog_13_method_51_code (1 : Nat) (Option.some Jvm.ClassFile.FieldType.int)) ∈ wt := wt_of 2254 (by decide +kernel) rfl
theorem wm_2255 : (Jvm.Cond.methodLink "MixBoothModel" (310 : Nat) ({ cls := "MixBoothModel", name := "plain", desc := "(I)I" } : Jvm.MethodName)) ∈ wt := wt_of 2255 (by decide +kernel) rfl
theorem wm_2256 : (Jvm.Cond.privateMethod ({ cls := "MixBoothModel", name := "plain", desc := "(I)I" } : Jvm.MethodName)) ∈ wt := wt_of 2256 (by decide +kernel) rfl
theorem wm_2257 : (Jvm.Cond.instanceMethod ({ cls := "MixBoothModel", name := "plain", desc := "(I)I" } : Jvm.MethodName)) ∈ wt := wt_of 2257 (by decide +kernel) rfl
theorem wm_2258 : (Jvm.Cond.code ({ cls := "MixBoothModel", name := "plain", desc := "(I)I" } : Jvm.MethodName) prog_13_method_50_code (2 : Nat) (Option.some Jvm.ClassFile.FieldType.int)) ∈ wt := wt_of 2258 (by decide +kernel) rfl
theorem wm_2259 : (Jvm.Cond.methodLink "MixBoothLaw" (293 : Nat) ({ cls := "MixBoothModel", name := "heard", desc := "()I" } : Jvm.MethodName)) ∈ wt := wt_of 2259 (by decide +kernel) rfl
theorem wm_2260 : (Jvm.Cond.instanceMethod ({ cls := "MixBoothModel", name := "heard", desc := "()I" } : Jvm.MethodName)) ∈ wt := wt_of 2260 (by decide +kernel) rfl
theorem wm_2261 : (Jvm.Cond.selects "MixBoothModel" ({ cls := "MixBoothModel", name := "heard", desc := "()I" } : Jvm.MethodName) ({ cls := "MixBoothModel", name := "heard", desc := "()I" } : Jvm.MethodName)) ∈ wt := wt_of 2261 (by decide +kernel) rfl
theorem wm_2262 : (Jvm.Cond.code ({ cls := "MixBoothModel", name := "heard", desc := "()I" } : Jvm.MethodName) prog_13_method_52_code (1 : Nat) (Option.some Jvm.ClassFile.FieldType.int)) ∈ wt := wt_of 2262 (by decide +kernel) rfl
theorem wm_2263 : (Jvm.Cond.methodLink "MixBoothLaw" (297 : Nat) ({ cls := "MixBoothModel", name := "silence", desc := "()I" } : Jvm.MethodName)) ∈ wt := wt_of 2263 (by decide +kernel) rfl
theorem wm_2264 : (Jvm.Cond.instanceMethod ({ cls := "MixBoothModel", name := "silence", desc := "()I" } : Jvm.MethodName)) ∈ wt := wt_of 2264 (by decide +kernel) rfl
theorem wm_2265 : (Jvm.Cond.selects "MixBoothModel" ({ cls := "MixBoothModel", name := "silence", desc := "()I" } : Jvm.MethodName) ({ cls := "MixBoothModel", name := "silence", desc := "()I" } : Jvm.MethodName)) ∈ wt := wt_of 2265 (by decide +kernel) rfl
theorem wm_2266 : (Jvm.Cond.code ({ cls := "MixBoothModel", name := "silence", desc := "()I" } : Jvm.MethodName) prog_13_method_53_code (1 : Nat) (Option.some Jvm.ClassFile.FieldType.int)) ∈ wt := wt_of 2266 (by decide +kernel) rfl
theorem wm_2267 : (Jvm.Cond.methodLink "MixBoothLaw" (301 : Nat) ({ cls := "MixBoothModel", name := "clashes", desc := "(C)I" } : Jvm.MethodName)) ∈ wt := wt_of 2267 (by decide +kernel) rfl
theorem wm_2268 : (Jvm.Cond.instanceMethod ({ cls := "MixBoothModel", name := "clashes", desc := "(C)I" } : Jvm.MethodName)) ∈ wt := wt_of 2268 (by decide +kernel) rfl
theorem wm_2269 : (Jvm.Cond.selects "MixBoothModel" ({ cls := "MixBoothModel", name := "clashes", desc := "(C)I" } : Jvm.MethodName) ({ cls := "MixBoothModel", name := "clashes", desc := "(C)I" } : Jvm.MethodName)) ∈ wt := wt_of 2269 (by decide +kernel) rfl
theorem wm_2270 : (Jvm.Cond.code ({ cls := "MixBoothModel", name := "clashes", desc := "(C)I" } : Jvm.MethodName) prog_13_method_54_code (2 : Nat) (Option.some Jvm.ClassFile.FieldType.int)) ∈ wt := wt_of 2270 (by decide +kernel) rfl
theorem wm_2271 : (Jvm.Cond.methodLink "MixBoothLaw" (304 : Nat) ({ cls := "MixBoothModel", name := "between", desc := "(II)I" } : Jvm.MethodName)) ∈ wt := wt_of 2271 (by decide +kernel) rfl
theorem wm_2272 : (Jvm.Cond.instanceMethod ({ cls := "MixBoothModel", name := "between", desc := "(II)I" } : Jvm.MethodName)) ∈ wt := wt_of 2272 (by decide +kernel) rfl
theorem wm_2273 : (Jvm.Cond.selects "MixBoothModel" ({ cls := "MixBoothModel", name := "between", desc := "(II)I" } : Jvm.MethodName) ({ cls := "MixBoothModel", name := "between", desc := "(II)I" } : Jvm.MethodName)) ∈ wt := wt_of 2273 (by decide +kernel) rfl
theorem wm_2274 : (Jvm.Cond.code ({ cls := "MixBoothModel", name := "between", desc := "(II)I" } : Jvm.MethodName) prog_13_method_56_code (3 : Nat) (Option.some Jvm.ClassFile.FieldType.int)) ∈ wt := wt_of 2274 (by decide +kernel) rfl
theorem wm_2275 : (Jvm.Cond.methodLink "MixBoothModel" (318 : Nat) ({ cls := "MixBoothModel", name := "off", desc := "(LMixBoothModel$Deck;LMixBoothModel$Deck;)I" } : Jvm.MethodName)) ∈ wt := wt_of 2275 (by decide +kernel) rfl
theorem wm_2276 : (Jvm.Cond.static ({ cls := "MixBoothModel", name := "off", desc := "(LMixBoothModel$Deck;LMixBoothModel$Deck;)I" } : Jvm.MethodName)) ∈ wt := wt_of 2276 (by decide +kernel) rfl
theorem wm_2277 : (Jvm.Cond.code ({ cls := "MixBoothModel", name := "off", desc := "(LMixBoothModel$Deck;LMixBoothModel$Deck;)I" } : Jvm.MethodName) prog_13_method_55_code (3 : Nat) (Option.some Jvm.ClassFile.FieldType.int)) ∈ wt := wt_of 2277 (by decide +kernel) rfl
theorem wm_2278 : (Jvm.Cond.methodLink "MixBoothModel" (313 : Nat) ({ cls := "java/lang/Math", name := "floorMod", desc := "(JJ)J" } : Jvm.MethodName)) ∈ wt := wt_of 2278 (by decide +kernel) rfl
theorem wm_2279 : (Jvm.Cond.constantLong "MixBoothModel" (316 : Nat) (1000 : Int64)) ∈ wt := wt_of 2279 (by decide +kernel) rfl
theorem wm_2280 : (Jvm.Cond.methodLink "MixBoothLaw" (307 : Nat) ({ cls := "MixBoothModel", name := "sync", desc := "(II)I" } : Jvm.MethodName)) ∈ wt := wt_of 2280 (by decide +kernel) rfl
theorem wm_2281 : (Jvm.Cond.instanceMethod ({ cls := "MixBoothModel", name := "sync", desc := "(II)I" } : Jvm.MethodName)) ∈ wt := wt_of 2281 (by decide +kernel) rfl
theorem wm_2282 : (Jvm.Cond.selects "MixBoothModel" ({ cls := "MixBoothModel", name := "sync", desc := "(II)I" } : Jvm.MethodName) ({ cls := "MixBoothModel", name := "sync", desc := "(II)I" } : Jvm.MethodName)) ∈ wt := wt_of 2282 (by decide +kernel) rfl
theorem wm_2283 : (Jvm.Cond.code ({ cls := "MixBoothModel", name := "sync", desc := "(II)I" } : Jvm.MethodName) prog_13_method_57_code (9 : Nat) (Option.some Jvm.ClassFile.FieldType.int)) ∈ wt := wt_of 2283 (by decide +kernel) rfl
theorem wm_2284 : (Jvm.Cond.methodLink "MixBoothModel" (322 : Nat) ({ cls := "MixBoothModel$Deck", name := "puts", desc := "(J)V" } : Jvm.MethodName)) ∈ wt := wt_of 2284 (by decide +kernel) rfl
theorem wm_2285 : (Jvm.Cond.instanceMethod ({ cls := "MixBoothModel$Deck", name := "puts", desc := "(J)V" } : Jvm.MethodName)) ∈ wt := wt_of 2285 (by decide +kernel) rfl
theorem wm_2286 : (Jvm.Cond.selects "MixBoothModel$Deck" ({ cls := "MixBoothModel$Deck", name := "puts", desc := "(J)V" } : Jvm.MethodName) ({ cls := "MixBoothModel$Deck", name := "puts", desc := "(J)V" } : Jvm.MethodName)) ∈ wt := wt_of 2286 (by decide +kernel) rfl
theorem wm_2287 : (Jvm.Cond.code ({ cls := "MixBoothModel$Deck", name := "puts", desc := "(J)V" } : Jvm.MethodName) prog_14_method_12_code (3 : Nat) (Option.none : Option Jvm.ClassFile.FieldType)) ∈ wt := wt_of 2287 (by decide +kernel) rfl
theorem wm_2288 : (Jvm.Cond.methodLink "MixBoothLaw" (310 : Nat) ({ cls := "MixBoothModel", name := "ear", desc := "(III)I" } : Jvm.MethodName)) ∈ wt := wt_of 2288 (by decide +kernel) rfl
theorem wm_2289 : (Jvm.Cond.instanceMethod ({ cls := "MixBoothModel", name := "ear", desc := "(III)I" } : Jvm.MethodName)) ∈ wt := wt_of 2289 (by decide +kernel) rfl
theorem wm_2290 : (Jvm.Cond.selects "MixBoothModel" ({ cls := "MixBoothModel", name := "ear", desc := "(III)I" } : Jvm.MethodName) ({ cls := "MixBoothModel", name := "ear", desc := "(III)I" } : Jvm.MethodName)) ∈ wt := wt_of 2290 (by decide +kernel) rfl
theorem wm_2291 : (Jvm.Cond.code ({ cls := "MixBoothModel", name := "ear", desc := "(III)I" } : Jvm.MethodName) prog_13_method_58_code (8 : Nat) (Option.some Jvm.ClassFile.FieldType.int)) ∈ wt := wt_of 2291 (by decide +kernel) rfl
theorem wm_2292 : (Jvm.Cond.methodLink "MixBoothModel" (326 : Nat) ({ cls := "MixBoothModel$Disc", name := "last", desc := "()J" } : Jvm.MethodName)) ∈ wt := wt_of 2292 (by decide +kernel) rfl
theorem wm_2293 : (Jvm.Cond.constantLong "MixBoothModel" (330 : Nat) (60000 : Int64)) ∈ wt := wt_of 2293 (by decide +kernel) rfl
theorem wm_2294 : (Jvm.Cond.methodLink "MixBoothModel" (332 : Nat) ({ cls := "java/lang/Math", name := "max", desc := "(JJ)J" } : Jvm.MethodName)) ∈ wt := wt_of 2294 (by decide +kernel) rfl
theorem wm_2295 : (Jvm.Cond.methodLink "MixBoothLaw" (313 : Nat) ({ cls := "MixBoothModel", name := "people", desc := "(I)I" } : Jvm.MethodName)) ∈ wt := wt_of 2295 (by decide +kernel) rfl
theorem wm_2296 : (Jvm.Cond.instanceMethod ({ cls := "MixBoothModel", name := "people", desc := "(I)I" } : Jvm.MethodName)) ∈ wt := wt_of 2296 (by decide +kernel) rfl
theorem wm_2297 : (Jvm.Cond.selects "MixBoothModel" ({ cls := "MixBoothModel", name := "people", desc := "(I)I" } : Jvm.MethodName) ({ cls := "MixBoothModel", name := "people", desc := "(I)I" } : Jvm.MethodName)) ∈ wt := wt_of 2297 (by decide +kernel) rfl
theorem wm_2298 : (Jvm.Cond.code ({ cls := "MixBoothModel", name := "people", desc := "(I)I" } : Jvm.MethodName) prog_13_method_59_code (4 : Nat) (Option.some Jvm.ClassFile.FieldType.int)) ∈ wt := wt_of 2298 (by decide +kernel) rfl
theorem wm_2299 : (Jvm.Cond.methodLink "MixBoothLaw" (316 : Nat) ({ cls := "MixBoothModel", name := "tired", desc := "(I)I" } : Jvm.MethodName)) ∈ wt := wt_of 2299 (by decide +kernel) rfl
theorem wm_2300 : (Jvm.Cond.instanceMethod ({ cls := "MixBoothModel", name := "tired", desc := "(I)I" } : Jvm.MethodName)) ∈ wt := wt_of 2300 (by decide +kernel) rfl
theorem wm_2301 : (Jvm.Cond.selects "MixBoothModel" ({ cls := "MixBoothModel", name := "tired", desc := "(I)I" } : Jvm.MethodName) ({ cls := "MixBoothModel", name := "tired", desc := "(I)I" } : Jvm.MethodName)) ∈ wt := wt_of 2301 (by decide +kernel) rfl
theorem wm_2302 : (Jvm.Cond.code ({ cls := "MixBoothModel", name := "tired", desc := "(I)I" } : Jvm.MethodName) prog_13_method_60_code (2 : Nat) (Option.some Jvm.ClassFile.FieldType.int)) ∈ wt := wt_of 2302 (by decide +kernel) rfl
theorem wm_2303 : (Jvm.Cond.methodLink "MixBoothLaw" (319 : Nat) ({ cls := "MixBoothModel", name := "seconds", desc := "(I)I" } : Jvm.MethodName)) ∈ wt := wt_of 2303 (by decide +kernel) rfl
theorem wm_2304 : (Jvm.Cond.instanceMethod ({ cls := "MixBoothModel", name := "seconds", desc := "(I)I" } : Jvm.MethodName)) ∈ wt := wt_of 2304 (by decide +kernel) rfl
theorem wm_2305 : (Jvm.Cond.selects "MixBoothModel" ({ cls := "MixBoothModel", name := "seconds", desc := "(I)I" } : Jvm.MethodName) ({ cls := "MixBoothModel", name := "seconds", desc := "(I)I" } : Jvm.MethodName)) ∈ wt := wt_of 2305 (by decide +kernel) rfl
theorem wm_2306 : (Jvm.Cond.code ({ cls := "MixBoothModel", name := "seconds", desc := "(I)I" } : Jvm.MethodName) prog_13_method_61_code (2 : Nat) (Option.some Jvm.ClassFile.FieldType.int)) ∈ wt := wt_of 2306 (by decide +kernel) rfl
theorem wm_2307 : (Jvm.Cond.methodLink "MixBoothLaw" (322 : Nat) ({ cls := "MixBoothModel", name := "setLimit", desc := "(II)I" } : Jvm.MethodName)) ∈ wt := wt_of 2307 (by decide +kernel) rfl
theorem wm_2308 : (Jvm.Cond.instanceMethod ({ cls := "MixBoothModel", name := "setLimit", desc := "(II)I" } : Jvm.MethodName)) ∈ wt := wt_of 2308 (by decide +kernel) rfl
theorem wm_2309 : (Jvm.Cond.selects "MixBoothModel" ({ cls := "MixBoothModel", name := "setLimit", desc := "(II)I" } : Jvm.MethodName) ({ cls := "MixBoothModel", name := "setLimit", desc := "(II)I" } : Jvm.MethodName)) ∈ wt := wt_of 2309 (by decide +kernel) rfl
theorem wm_2310 : (Jvm.Cond.code ({ cls := "MixBoothModel", name := "setLimit", desc := "(II)I" } : Jvm.MethodName) prog_13_method_62_code (4 : Nat) (Option.some Jvm.ClassFile.FieldType.int)) ∈ wt := wt_of 2310 (by decide +kernel) rfl
theorem wm_2311 : (Jvm.Cond.methodLink "MixBoothLaw" (326 : Nat) ({ cls := "MixBoothModel", name := "breaches", desc := "()I" } : Jvm.MethodName)) ∈ wt := wt_of 2311 (by decide +kernel) rfl
theorem wm_2312 : (Jvm.Cond.instanceMethod ({ cls := "MixBoothModel", name := "breaches", desc := "()I" } : Jvm.MethodName)) ∈ wt := wt_of 2312 (by decide +kernel) rfl
theorem wm_2313 : (Jvm.Cond.selects "MixBoothModel" ({ cls := "MixBoothModel", name := "breaches", desc := "()I" } : Jvm.MethodName) ({ cls := "MixBoothModel", name := "breaches", desc := "()I" } : Jvm.MethodName)) ∈ wt := wt_of 2313 (by decide +kernel) rfl
theorem wm_2314 : (Jvm.Cond.code ({ cls := "MixBoothModel", name := "breaches", desc := "()I" } : Jvm.MethodName) prog_13_method_63_code (1 : Nat) (Option.some Jvm.ClassFile.FieldType.int)) ∈ wt := wt_of 2314 (by decide +kernel) rfl
theorem wm_2315 : (Jvm.Cond.methodLink "MixBoothLaw" (329 : Nat) ({ cls := "MixBoothModel", name := "strobe", desc := "(II)I" } : Jvm.MethodName)) ∈ wt := wt_of 2315 (by decide +kernel) rfl
theorem wm_2316 : (Jvm.Cond.instanceMethod ({ cls := "MixBoothModel", name := "strobe", desc := "(II)I" } : Jvm.MethodName)) ∈ wt := wt_of 2316 (by decide +kernel) rfl
theorem wm_2317 : (Jvm.Cond.selects "MixBoothModel" ({ cls := "MixBoothModel", name := "strobe", desc := "(II)I" } : Jvm.MethodName) ({ cls := "MixBoothModel", name := "strobe", desc := "(II)I" } : Jvm.MethodName)) ∈ wt := wt_of 2317 (by decide +kernel) rfl
theorem wm_2318 : (Jvm.Cond.code ({ cls := "MixBoothModel", name := "strobe", desc := "(II)I" } : Jvm.MethodName) prog_13_method_64_code (3 : Nat) (Option.some Jvm.ClassFile.FieldType.int)) ∈ wt := wt_of 2318 (by decide +kernel) rfl
theorem wm_2319 : (Jvm.Cond.methodLink "MixBoothLaw" (333 : Nat) ({ cls := "MixBoothModel", name := "light", desc := "()I" } : Jvm.MethodName)) ∈ wt := wt_of 2319 (by decide +kernel) rfl
theorem wm_2320 : (Jvm.Cond.instanceMethod ({ cls := "MixBoothModel", name := "light", desc := "()I" } : Jvm.MethodName)) ∈ wt := wt_of 2320 (by decide +kernel) rfl
theorem wm_2321 : (Jvm.Cond.selects "MixBoothModel" ({ cls := "MixBoothModel", name := "light", desc := "()I" } : Jvm.MethodName) ({ cls := "MixBoothModel", name := "light", desc := "()I" } : Jvm.MethodName)) ∈ wt := wt_of 2321 (by decide +kernel) rfl
theorem wm_2322 : (Jvm.Cond.code ({ cls := "MixBoothModel", name := "light", desc := "()I" } : Jvm.MethodName) prog_13_method_65_code (6 : Nat) (Option.some Jvm.ClassFile.FieldType.int)) ∈ wt := wt_of 2322 (by decide +kernel) rfl
theorem wm_2323 : (Jvm.Cond.methodLink "MixBoothLaw" (336 : Nat) ({ cls := "MixBoothModel", name := "next", desc := "(II)I" } : Jvm.MethodName)) ∈ wt := wt_of 2323 (by decide +kernel) rfl
theorem wm_2324 : (Jvm.Cond.instanceMethod ({ cls := "MixBoothModel", name := "next", desc := "(II)I" } : Jvm.MethodName)) ∈ wt := wt_of 2324 (by decide +kernel) rfl
theorem wm_2325 : (Jvm.Cond.selects "MixBoothModel" ({ cls := "MixBoothModel", name := "next", desc := "(II)I" } : Jvm.MethodName) ({ cls := "MixBoothModel", name := "next", desc := "(II)I" } : Jvm.MethodName)) ∈ wt := wt_of 2325 (by decide +kernel) rfl
theorem wm_2326 : (Jvm.Cond.code ({ cls := "MixBoothModel", name := "next", desc := "(II)I" } : Jvm.MethodName) prog_13_method_69_code (3 : Nat) (Option.some Jvm.ClassFile.FieldType.int)) ∈ wt := wt_of 2326 (by decide +kernel) rfl
theorem wm_2327 : (Jvm.Cond.methodLink "MixBoothModel" (352 : Nat) ({ cls := "MixBoothModel", name := "finds", desc := "(II)Z" } : Jvm.MethodName)) ∈ wt := wt_of 2327 (by decide +kernel) rfl
theorem wm_2328 : (Jvm.Cond.privateMethod ({ cls := "MixBoothModel", name := "finds", desc := "(II)Z" } : Jvm.MethodName)) ∈ wt := wt_of 2328 (by decide +kernel) rfl
theorem wm_2329 : (Jvm.Cond.instanceMethod ({ cls := "MixBoothModel", name := "finds", desc := "(II)Z" } : Jvm.MethodName)) ∈ wt := wt_of 2329 (by decide +kernel) rfl
theorem wm_2330 : (Jvm.Cond.code ({ cls := "MixBoothModel", name := "finds", desc := "(II)Z" } : Jvm.MethodName) prog_13_method_68_code (3 : Nat) (Option.some Jvm.ClassFile.FieldType.boolean)) ∈ wt := wt_of 2330 (by decide +kernel) rfl
theorem wm_2331 : (Jvm.Cond.methodLink "MixBoothModel" (348 : Nat) ({ cls := "MixBoothModel", name := "rows", desc := "(LMixBoothModel$Disc;I[ZII)V" } : Jvm.MethodName)) ∈ wt := wt_of 2331 (by decide +kernel) rfl
theorem wm_2332 : (Jvm.Cond.privateMethod ({ cls := "MixBoothModel", name := "rows", desc := "(LMixBoothModel$Disc;I[ZII)V" } : Jvm.MethodName)) ∈ wt := wt_of 2332 (by decide +kernel) rfl
theorem wm_2333 : (Jvm.Cond.instanceMethod ({ cls := "MixBoothModel", name := "rows", desc := "(LMixBoothModel$Disc;I[ZII)V" } : Jvm.MethodName)) ∈ wt := wt_of 2333 (by decide +kernel) rfl
theorem wm_2334 : (Jvm.Cond.code ({ cls := "MixBoothModel", name := "rows", desc := "(LMixBoothModel$Disc;I[ZII)V" } : Jvm.MethodName) prog_13_method_67_code (9 : Nat) (Option.none : Option Jvm.ClassFile.FieldType)) ∈ wt := wt_of 2334 (by decide +kernel) rfl
theorem wm_2335 : (Jvm.Cond.methodLink "MixBoothModel" (345 : Nat) ({ cls := "MixBoothModel", name := "isFree", desc := "(LMixBoothModel$Disc;)Z" } : Jvm.MethodName)) ∈ wt := wt_of 2335 (by decide +kernel) rfl
theorem wm_2336 : (Jvm.Cond.privateMethod ({ cls := "MixBoothModel", name := "isFree", desc := "(LMixBoothModel$Disc;)Z" } : Jvm.MethodName)) ∈ wt := wt_of 2336 (by decide +kernel) rfl
theorem wm_2337 : (Jvm.Cond.instanceMethod ({ cls := "MixBoothModel", name := "isFree", desc := "(LMixBoothModel$Disc;)Z" } : Jvm.MethodName)) ∈ wt := wt_of 2337 (by decide +kernel) rfl
theorem wm_2338 : (Jvm.Cond.code ({ cls := "MixBoothModel", name := "isFree", desc := "(LMixBoothModel$Disc;)Z" } : Jvm.MethodName) prog_13_method_66_code (2 : Nat) (Option.some Jvm.ClassFile.FieldType.boolean)) ∈ wt := wt_of 2338 (by decide +kernel) rfl
theorem wm_2339 : (Jvm.Cond.constantLong "MixBoothModel" (337 : Nat) (10 : Int64)) ∈ wt := wt_of 2339 (by decide +kernel) rfl
theorem wm_2340 : (Jvm.Cond.arrayClass Jvm.ClassFile.FieldType.boolean) ∈ wt := wt_of 2340 (by decide +kernel) rfl
theorem wm_2341 : (Jvm.Cond.methodLink "MixBoothLaw" (339 : Nat) ({ cls := "MixBoothModel", name := "cost", desc := "(II)I" } : Jvm.MethodName)) ∈ wt := wt_of 2341 (by decide +kernel) rfl
theorem wm_2342 : (Jvm.Cond.instanceMethod ({ cls := "MixBoothModel", name := "cost", desc := "(II)I" } : Jvm.MethodName)) ∈ wt := wt_of 2342 (by decide +kernel) rfl
theorem wm_2343 : (Jvm.Cond.selects "MixBoothModel" ({ cls := "MixBoothModel", name := "cost", desc := "(II)I" } : Jvm.MethodName) ({ cls := "MixBoothModel", name := "cost", desc := "(II)I" } : Jvm.MethodName)) ∈ wt := wt_of 2343 (by decide +kernel) rfl
theorem wm_2344 : (Jvm.Cond.code ({ cls := "MixBoothModel", name := "cost", desc := "(II)I" } : Jvm.MethodName) prog_13_method_70_code (3 : Nat) (Option.some Jvm.ClassFile.FieldType.int)) ∈ wt := wt_of 2344 (by decide +kernel) rfl
theorem wm_2345 : (Jvm.Cond.methodLink "MixBoothLaw" (342 : Nat) ({ cls := "MixBoothModel", name := "type", desc := "(C)I" } : Jvm.MethodName)) ∈ wt := wt_of 2345 (by decide +kernel) rfl
theorem wm_2346 : (Jvm.Cond.instanceMethod ({ cls := "MixBoothModel", name := "type", desc := "(C)I" } : Jvm.MethodName)) ∈ wt := wt_of 2346 (by decide +kernel) rfl
theorem wm_2347 : (Jvm.Cond.selects "MixBoothModel" ({ cls := "MixBoothModel", name := "type", desc := "(C)I" } : Jvm.MethodName) ({ cls := "MixBoothModel", name := "type", desc := "(C)I" } : Jvm.MethodName)) ∈ wt := wt_of 2347 (by decide +kernel) rfl
theorem wm_2348 : (Jvm.Cond.code ({ cls := "MixBoothModel", name := "type", desc := "(C)I" } : Jvm.MethodName) prog_13_method_71_code (2 : Nat) (Option.some Jvm.ClassFile.FieldType.int)) ∈ wt := wt_of 2348 (by decide +kernel) rfl
theorem wm_2349 : (Jvm.Cond.methodLink "MixBoothModel" (356 : Nat) ({ cls := "java/lang/String", name := "length", desc := "()I" } : Jvm.MethodName)) ∈ wt := wt_of 2349 (by decide +kernel) rfl
theorem wm_2350 : (Jvm.Cond.classLink "MixBoothModel" (359 : Nat) "java/lang/StringBuilder") ∈ wt := wt_of 2350 (by decide +kernel) rfl
theorem wm_2351 : (Jvm.Cond.instantiable "java/lang/StringBuilder" (4 : Nat)) ∈ wt := wt_of 2351 (by decide +kernel) rfl
theorem wm_2352 : (Jvm.Cond.methodLink "MixBoothModel" (361 : Nat) ({ cls := "java/lang/StringBuilder", name := "<init>", desc := "()V" } : Jvm.MethodName)) ∈ wt := wt_of 2352 (by decide +kernel) rfl
theorem wm_2353 : (Jvm.Cond.instanceMethod ({ cls := "java/lang/StringBuilder", name := "<init>", desc := "()V" } : Jvm.MethodName)) ∈ wt := wt_of 2353 (by decide +kernel) rfl
theorem wm_2354 : (Jvm.Cond.code ({ cls := "java/lang/StringBuilder", name := "<init>", desc := "()V" } : Jvm.MethodName) prog_35_method_1_code (1 : Nat) (Option.none : Option Jvm.ClassFile.FieldType)) ∈ wt := wt_of 2354 (by decide +kernel) rfl
theorem wm_2355 : (Jvm.Cond.methodLink "java/lang/StringBuilder" (1 : Nat) ({ cls := "java/lang/AbstractStringBuilder", name := "<init>", desc := "(I)V" } : Jvm.MethodName)) ∈ wt := wt_of 2355 (by decide +kernel) rfl
theorem wm_2356 : (Jvm.Cond.instanceMethod ({ cls := "java/lang/AbstractStringBuilder", name := "<init>", desc := "(I)V" } : Jvm.MethodName)) ∈ wt := wt_of 2356 (by decide +kernel) rfl
theorem wm_2357 : (Jvm.Cond.code ({ cls := "java/lang/AbstractStringBuilder", name := "<init>", desc := "(I)V" } : Jvm.MethodName) prog_17_method_2_code (2 : Nat) (Option.none : Option Jvm.ClassFile.FieldType)) ∈ wt := wt_of 2357 (by decide +kernel) rfl
theorem wm_2358 : (Jvm.Cond.methodLink "java/lang/AbstractStringBuilder" (3 : Nat) ({ cls := "java/lang/Object", name := "<init>", desc := "()V" } : Jvm.MethodName)) ∈ wt := wt_of 2358 (by decide +kernel) rfl
theorem wm_2359 : (Jvm.Cond.fieldLink "java/lang/AbstractStringBuilder" (18 : Nat) "java/lang/String" "COMPACT_STRINGS" "Z") ∈ wt := wt_of 2359 (by decide +kernel) rfl
theorem wm_2360 : (Jvm.Cond.methodLink "java/lang/AbstractStringBuilder" (26 : Nat) ({ cls := "java/lang/StringUTF16", name := "newBytesFor", desc := "(I)[B" } : Jvm.MethodName)) ∈ wt := wt_of 2360 (by decide +kernel) rfl
theorem wm_2361 : (Jvm.Cond.static ({ cls := "java/lang/StringUTF16", name := "newBytesFor", desc := "(I)[B" } : Jvm.MethodName)) ∈ wt := wt_of 2361 (by decide +kernel) rfl
theorem wm_2362 : (Jvm.Cond.code ({ cls := "java/lang/StringUTF16", name := "newBytesFor", desc := "(I)[B" } : Jvm.MethodName) prog_37_method_2_code (1 : Nat) (Option.some (Jvm.ClassFile.FieldType.array Jvm.ClassFile.FieldType.byte))) ∈ wt := wt_of 2362 (by decide +kernel) rfl
theorem wm_2363 : (Jvm.Cond.methodLink "java/lang/StringUTF16" (11 : Nat) ({ cls := "java/lang/StringUTF16", name := "newBytesLength", desc := "(I)I" } : Jvm.MethodName)) ∈ wt := wt_of 2363 (by decide +kernel) rfl
theorem wm_2364 : (Jvm.Cond.static ({ cls := "java/lang/StringUTF16", name := "newBytesLength", desc := "(I)I" } : Jvm.MethodName)) ∈ wt := wt_of 2364 (by decide +kernel) rfl
theorem wm_2365 : (Jvm.Cond.code ({ cls := "java/lang/StringUTF16", name := "newBytesLength", desc := "(I)I" } : Jvm.MethodName) prog_37_method_3_code (1 : Nat) (Option.some Jvm.ClassFile.FieldType.int)) ∈ wt := wt_of 2365 (by decide +kernel) rfl
theorem wm_2366 : (Jvm.Cond.constant "java/lang/StringUTF16" (20 : Nat) (1073741823 : Int32)) ∈ wt := wt_of 2366 (by decide +kernel) rfl
theorem wm_2367 : (Jvm.Cond.fieldLink "java/lang/AbstractStringBuilder" (15 : Nat) "java/lang/AbstractStringBuilder" "value" "[B") ∈ wt := wt_of 2367 (by decide +kernel) rfl
theorem wm_2368 : (Jvm.Cond.fieldLink "java/lang/AbstractStringBuilder" (22 : Nat) "java/lang/AbstractStringBuilder" "coder" "B") ∈ wt := wt_of 2368 (by decide +kernel) rfl
theorem wm_2369 : (Jvm.Cond.fieldLink "java/lang/String" (1048 : Nat) "java/lang/AbstractStringBuilder" "maybeLatin1" "Z") ∈ wt := wt_of 2369 (by decide +kernel) rfl
theorem wm_2370 : (Jvm.Cond.fieldLink "java/lang/AbstractStringBuilder" (79 : Nat) "java/lang/AbstractStringBuilder" "count" "I") ∈ wt := wt_of 2370 (by decide +kernel) rfl
theorem wm_2371 : (Jvm.Cond.lays "java/lang/StringBuilder" "java/lang/AbstractStringBuilder" "value" "[B") ∈ wt := wt_of 2371 (by decide +kernel) rfl
theorem wm_2372 : (Jvm.Cond.soleField "java/lang/AbstractStringBuilder" "value") ∈ wt := wt_of 2372 (by decide +kernel) rfl
theorem wm_2373 : (Jvm.Cond.lays "java/lang/StringBuilder" "java/lang/AbstractStringBuilder" "coder" "B") ∈ wt := wt_of 2373 (by decide +kernel) rfl
theorem wm_2374 : (Jvm.Cond.soleField "java/lang/AbstractStringBuilder" "coder") ∈ wt := wt_of 2374 (by decide +kernel) rfl
theorem wm_2375 : (Jvm.Cond.lays "java/lang/StringBuilder" "java/lang/AbstractStringBuilder" "maybeLatin1" "Z") ∈ wt := wt_of 2375 (by decide +kernel) rfl
theorem wm_2376 : (Jvm.Cond.soleField "java/lang/AbstractStringBuilder" "maybeLatin1") ∈ wt := wt_of 2376 (by decide +kernel) rfl
theorem wm_2377 : (Jvm.Cond.lays "java/lang/StringBuilder" "java/lang/AbstractStringBuilder" "count" "I") ∈ wt := wt_of 2377 (by decide +kernel) rfl
theorem wm_2378 : (Jvm.Cond.soleField "java/lang/AbstractStringBuilder" "count") ∈ wt := wt_of 2378 (by decide +kernel) rfl
theorem wm_2379 : (Jvm.Cond.superclass "java/lang/StringBuilder" "java/lang/AbstractStringBuilder") ∈ wt := wt_of 2379 (by decide +kernel) rfl
theorem wm_2380 : (Jvm.Cond.methodLink "MixBoothModel" (362 : Nat) ({ cls := "java/lang/StringBuilder", name := "append", desc := "(Ljava/lang/String;)Ljava/lang/StringBuilder;" } : Jvm.MethodName)) ∈ wt := wt_of 2380 (by decide +kernel) rfl
theorem wm_2381 : (Jvm.Cond.instanceMethod ({ cls := "java/lang/StringBuilder", name := "append", desc := "(Ljava/lang/String;)Ljava/lang/StringBuilder;" } : Jvm.MethodName)) ∈ wt := wt_of 2381 (by decide +kernel) rfl
theorem wm_2382 : (Jvm.Cond.selects "java/lang/StringBuilder" ({ cls := "java/lang/StringBuilder", name := "append", desc := "(Ljava/lang/String;)Ljava/lang/StringBuilder;" } : Jvm.MethodName) ({ cls := "java/lang/StringBuilder", name := "append", desc := "(Ljava/lang/String;)Ljava/lang/StringBuilder;" } : Jvm.MethodName)) ∈ wt := wt_of 2382 (by decide +kernel) rfl
theorem wm_2383 : (Jvm.Cond.code ({ cls := "java/lang/StringBuilder", name := "append", desc := "(Ljava/lang/String;)Ljava/lang/StringBuilder;" } : Jvm.MethodName) prog_35_method_7_code (2 : Nat) (Option.some (Jvm.ClassFile.FieldType.object "java/lang/StringBuilder"))) ∈ wt := wt_of 2383 (by decide +kernel) rfl
theorem wm_2384 : (Jvm.Cond.methodLink "java/lang/StringBuilder" (29 : Nat) ({ cls := "java/lang/AbstractStringBuilder", name := "append", desc := "(Ljava/lang/String;)Ljava/lang/AbstractStringBuilder;" } : Jvm.MethodName)) ∈ wt := wt_of 2384 (by decide +kernel) rfl
theorem wm_2385 : (Jvm.Cond.instanceMethod ({ cls := "java/lang/AbstractStringBuilder", name := "append", desc := "(Ljava/lang/String;)Ljava/lang/AbstractStringBuilder;" } : Jvm.MethodName)) ∈ wt := wt_of 2385 (by decide +kernel) rfl
theorem wm_2386 : (Jvm.Cond.code ({ cls := "java/lang/AbstractStringBuilder", name := "append", desc := "(Ljava/lang/String;)Ljava/lang/AbstractStringBuilder;" } : Jvm.MethodName) prog_17_method_22_code (3 : Nat) (Option.some (Jvm.ClassFile.FieldType.object "java/lang/AbstractStringBuilder"))) ∈ wt := wt_of 2386 (by decide +kernel) rfl
theorem wm_2387 : (Jvm.Cond.methodLink "java/lang/AbstractStringBuilder" (204 : Nat) ({ cls := "java/lang/AbstractStringBuilder", name := "appendNull", desc := "()Ljava/lang/AbstractStringBuilder;" } : Jvm.MethodName)) ∈ wt := wt_of 2387 (by decide +kernel) rfl
theorem wm_2388 : (Jvm.Cond.privateMethod ({ cls := "java/lang/AbstractStringBuilder", name := "appendNull", desc := "()Ljava/lang/AbstractStringBuilder;" } : Jvm.MethodName)) ∈ wt := wt_of 2388 (by decide +kernel) rfl
theorem wm_2389 : (Jvm.Cond.instanceMethod ({ cls := "java/lang/AbstractStringBuilder", name := "appendNull", desc := "()Ljava/lang/AbstractStringBuilder;" } : Jvm.MethodName)) ∈ wt := wt_of 2389 (by decide +kernel) rfl
theorem wm_2390 : (Jvm.Cond.code ({ cls := "java/lang/AbstractStringBuilder", name := "appendNull", desc := "()Ljava/lang/AbstractStringBuilder;" } : Jvm.MethodName) prog_17_method_26_code (3 : Nat) (Option.some (Jvm.ClassFile.FieldType.object "java/lang/AbstractStringBuilder"))) ∈ wt := wt_of 2390 (by decide +kernel) rfl
theorem wm_2391 : (Jvm.Cond.methodLink "java/lang/AbstractStringBuilder" (100 : Nat) ({ cls := "java/lang/AbstractStringBuilder", name := "ensureCapacityInternal", desc := "(I)V" } : Jvm.MethodName)) ∈ wt := wt_of 2391 (by decide +kernel) rfl
theorem wm_2392 : (Jvm.Cond.privateMethod ({ cls := "java/lang/AbstractStringBuilder", name := "ensureCapacityInternal", desc := "(I)V" } : Jvm.MethodName)) ∈ wt := wt_of 2392 (by decide +kernel) rfl
theorem wm_2393 : (Jvm.Cond.instanceMethod ({ cls := "java/lang/AbstractStringBuilder", name := "ensureCapacityInternal", desc := "(I)V" } : Jvm.MethodName)) ∈ wt := wt_of 2393 (by decide +kernel) rfl
theorem wm_2394 : (Jvm.Cond.code ({ cls := "java/lang/AbstractStringBuilder", name := "ensureCapacityInternal", desc := "(I)V" } : Jvm.MethodName) prog_17_method_9_code (3 : Nat) (Option.none : Option Jvm.ClassFile.FieldType)) ∈ wt := wt_of 2394 (by decide +kernel) rfl
theorem wm_2395 : (Jvm.Cond.methodLink "java/lang/AbstractStringBuilder" (104 : Nat) ({ cls := "java/lang/AbstractStringBuilder", name := "newCapacity", desc := "(I)I" } : Jvm.MethodName)) ∈ wt := wt_of 2395 (by decide +kernel) rfl
theorem wm_2396 : (Jvm.Cond.privateMethod ({ cls := "java/lang/AbstractStringBuilder", name := "newCapacity", desc := "(I)I" } : Jvm.MethodName)) ∈ wt := wt_of 2396 (by decide +kernel) rfl
theorem wm_2397 : (Jvm.Cond.instanceMethod ({ cls := "java/lang/AbstractStringBuilder", name := "newCapacity", desc := "(I)I" } : Jvm.MethodName)) ∈ wt := wt_of 2397 (by decide +kernel) rfl
theorem wm_2398 : (Jvm.Cond.code ({ cls := "java/lang/AbstractStringBuilder", name := "newCapacity", desc := "(I)I" } : Jvm.MethodName) prog_17_method_10_code (6 : Nat) (Option.some Jvm.ClassFile.FieldType.int)) ∈ wt := wt_of 2398 (by decide +kernel) rfl
theorem wm_2399 : (Jvm.Cond.methodLink "java/lang/AbstractStringBuilder" (114 : Nat) ({ cls := "jdk/internal/util/ArraysSupport", name := "newLength", desc := "(III)I" } : Jvm.MethodName)) ∈ wt := wt_of 2399 (by decide +kernel) rfl
theorem wm_2400 : (Jvm.Cond.constant "java/lang/AbstractStringBuilder" (39 : Nat) (2147483647 : Int32)) ∈ wt := wt_of 2400 (by decide +kernel) rfl
theorem wm_2401 : (Jvm.Cond.methodLink "java/lang/AbstractStringBuilder" (108 : Nat) ({ cls := "java/util/Arrays", name := "copyOf", desc := "([BI)[B" } : Jvm.MethodName)) ∈ wt := wt_of 2401 (by decide +kernel) rfl
theorem wm_2402 : (Jvm.Cond.static ({ cls := "java/util/Arrays", name := "copyOf", desc := "([BI)[B" } : Jvm.MethodName)) ∈ wt := wt_of 2402 (by decide +kernel) rfl
theorem wm_2403 : (Jvm.Cond.code ({ cls := "java/util/Arrays", name := "copyOf", desc := "([BI)[B" } : Jvm.MethodName) prog_47_method_121_code (3 : Nat) (Option.some (Jvm.ClassFile.FieldType.array Jvm.ClassFile.FieldType.byte))) ∈ wt := wt_of 2403 (by decide +kernel) rfl
theorem wm_2404 : (Jvm.Cond.methodLink "java/util/Arrays" (310 : Nat) ({ cls := "[B", name := "clone", desc := "()Ljava/lang/Object;" } : Jvm.MethodName)) ∈ wt := wt_of 2404 (by decide +kernel) rfl
theorem wm_2405 : (Jvm.Cond.sameMethod "[B" "java/lang/Object" "clone" "()Ljava/lang/Object;") ∈ wt := wt_of 2405 (by decide +kernel) rfl
theorem wm_2406 : (Jvm.Cond.native ({ cls := "java/lang/Object", name := "clone", desc := "()Ljava/lang/Object;" } : Jvm.MethodName)) ∈ wt := wt_of 2406 (by decide +kernel) rfl
theorem wm_2407 : (Jvm.Cond.instanceMethod ({ cls := "java/lang/Object", name := "clone", desc := "()Ljava/lang/Object;" } : Jvm.MethodName)) ∈ wt := wt_of 2407 (by decide +kernel) rfl
theorem wm_2408 : (Jvm.Cond.selects "[B" ({ cls := "[B", name := "clone", desc := "()Ljava/lang/Object;" } : Jvm.MethodName) ({ cls := "java/lang/Object", name := "clone", desc := "()Ljava/lang/Object;" } : Jvm.MethodName)) ∈ wt := wt_of 2408 (by decide +kernel) rfl
theorem wm_2409 : (Jvm.Cond.castable "[B" "java/lang/Cloneable") ∈ wt := wt_of 2409 (by decide +kernel) rfl
theorem wm_2410 : (Jvm.Cond.classLink "java/util/Arrays" (311 : Nat) "[B") ∈ wt := wt_of 2410 (by decide +kernel) rfl
theorem wm_2411 : (Jvm.Cond.methodLink "java/lang/AbstractStringBuilder" (83 : Nat) ({ cls := "java/lang/AbstractStringBuilder", name := "isLatin1", desc := "()Z" } : Jvm.MethodName)) ∈ wt := wt_of 2411 (by decide +kernel) rfl
theorem wm_2412 : (Jvm.Cond.instanceMethod ({ cls := "java/lang/AbstractStringBuilder", name := "isLatin1", desc := "()Z" } : Jvm.MethodName)) ∈ wt := wt_of 2412 (by decide +kernel) rfl
theorem wm_2413 : (Jvm.Cond.sameMethod "java/lang/AbstractStringBuilder" "java/lang/AbstractStringBuilder" "isLatin1" "()Z") ∈ wt := wt_of 2413 (by decide +kernel) rfl
theorem wm_2414 : (Jvm.Cond.selects "java/lang/StringBuilder" ({ cls := "java/lang/AbstractStringBuilder", name := "isLatin1", desc := "()Z" } : Jvm.MethodName) ({ cls := "java/lang/AbstractStringBuilder", name := "isLatin1", desc := "()Z" } : Jvm.MethodName)) ∈ wt := wt_of 2414 (by decide +kernel) rfl
theorem wm_2415 : (Jvm.Cond.code ({ cls := "java/lang/AbstractStringBuilder", name := "isLatin1", desc := "()Z" } : Jvm.MethodName) prog_17_method_68_code (1 : Nat) (Option.some Jvm.ClassFile.FieldType.boolean)) ∈ wt := wt_of 2415 (by decide +kernel) rfl
theorem wm_2416 : (Jvm.Cond.methodLink "java/lang/AbstractStringBuilder" (226 : Nat) ({ cls := "java/lang/StringUTF16", name := "putCharsAt", desc := "([BICCCC)I" } : Jvm.MethodName)) ∈ wt := wt_of 2416 (by decide +kernel) rfl
theorem wm_2417 : (Jvm.Cond.static ({ cls := "java/lang/StringUTF16", name := "putCharsAt", desc := "([BICCCC)I" } : Jvm.MethodName)) ∈ wt := wt_of 2417 (by decide +kernel) rfl
theorem wm_2418 : (Jvm.Cond.code ({ cls := "java/lang/StringUTF16", name := "putCharsAt", desc := "([BICCCC)I" } : Jvm.MethodName) prog_37_method_81_code (7 : Nat) (Option.some Jvm.ClassFile.FieldType.int)) ∈ wt := wt_of 2418 (by decide +kernel) rfl
theorem wm_2419 : (Jvm.Cond.methodLink "java/lang/StringUTF16" (111 : Nat) ({ cls := "java/lang/StringUTF16", name := "putChar", desc := "([BII)V" } : Jvm.MethodName)) ∈ wt := wt_of 2419 (by decide +kernel) rfl
theorem wm_2420 : (Jvm.Cond.static ({ cls := "java/lang/StringUTF16", name := "putChar", desc := "([BII)V" } : Jvm.MethodName)) ∈ wt := wt_of 2420 (by decide +kernel) rfl
theorem wm_2421 : (Jvm.Cond.code ({ cls := "java/lang/StringUTF16", name := "putChar", desc := "([BII)V" } : Jvm.MethodName) prog_37_method_4_code (3 : Nat) (Option.none : Option Jvm.ClassFile.FieldType)) ∈ wt := wt_of 2421 (by decide +kernel) rfl
theorem wm_2422 : (Jvm.Cond.methodLink "java/lang/AbstractStringBuilder" (32 : Nat) ({ cls := "java/lang/String", name := "length", desc := "()I" } : Jvm.MethodName)) ∈ wt := wt_of 2422 (by decide +kernel) rfl
theorem wm_2423 : (Jvm.Cond.methodLink "java/lang/AbstractStringBuilder" (208 : Nat) ({ cls := "java/lang/AbstractStringBuilder", name := "putStringAt", desc := "(ILjava/lang/String;)V" } : Jvm.MethodName)) ∈ wt := wt_of 2423 (by decide +kernel) rfl
theorem wm_2424 : (Jvm.Cond.privateMethod ({ cls := "java/lang/AbstractStringBuilder", name := "putStringAt", desc := "(ILjava/lang/String;)V" } : Jvm.MethodName)) ∈ wt := wt_of 2424 (by decide +kernel) rfl
theorem wm_2425 : (Jvm.Cond.instanceMethod ({ cls := "java/lang/AbstractStringBuilder", name := "putStringAt", desc := "(ILjava/lang/String;)V" } : Jvm.MethodName)) ∈ wt := wt_of 2425 (by decide +kernel) rfl
theorem wm_2426 : (Jvm.Cond.code ({ cls := "java/lang/AbstractStringBuilder", name := "putStringAt", desc := "(ILjava/lang/String;)V" } : Jvm.MethodName) prog_17_method_73_code (3 : Nat) (Option.none : Option Jvm.ClassFile.FieldType)) ∈ wt := wt_of 2426 (by decide +kernel) rfl
theorem wm_2427 : (Jvm.Cond.methodLink "java/lang/AbstractStringBuilder" (397 : Nat) ({ cls := "java/lang/AbstractStringBuilder", name := "inflateIfNeededFor", desc := "(Ljava/lang/String;)V" } : Jvm.MethodName)) ∈ wt := wt_of 2427 (by decide +kernel) rfl
theorem wm_2428 : (Jvm.Cond.privateMethod ({ cls := "java/lang/AbstractStringBuilder", name := "inflateIfNeededFor", desc := "(Ljava/lang/String;)V" } : Jvm.MethodName)) ∈ wt := wt_of 2428 (by decide +kernel) rfl
theorem wm_2429 : (Jvm.Cond.instanceMethod ({ cls := "java/lang/AbstractStringBuilder", name := "inflateIfNeededFor", desc := "(Ljava/lang/String;)V" } : Jvm.MethodName)) ∈ wt := wt_of 2429 (by decide +kernel) rfl
theorem wm_2430 : (Jvm.Cond.code ({ cls := "java/lang/AbstractStringBuilder", name := "inflateIfNeededFor", desc := "(Ljava/lang/String;)V" } : Jvm.MethodName) prog_17_method_71_code (2 : Nat) (Option.none : Option Jvm.ClassFile.FieldType)) ∈ wt := wt_of 2430 (by decide +kernel) rfl
theorem wm_2431 : (Jvm.Cond.methodLink "java/lang/AbstractStringBuilder" (40 : Nat) ({ cls := "java/lang/String", name := "coder", desc := "()B" } : Jvm.MethodName)) ∈ wt := wt_of 2431 (by decide +kernel) rfl
theorem wm_2432 : (Jvm.Cond.methodLink "java/lang/AbstractStringBuilder" (195 : Nat) ({ cls := "java/lang/AbstractStringBuilder", name := "inflate", desc := "()V" } : Jvm.MethodName)) ∈ wt := wt_of 2432 (by decide +kernel) rfl
theorem wm_2433 : (Jvm.Cond.privateMethod ({ cls := "java/lang/AbstractStringBuilder", name := "inflate", desc := "()V" } : Jvm.MethodName)) ∈ wt := wt_of 2433 (by decide +kernel) rfl
theorem wm_2434 : (Jvm.Cond.instanceMethod ({ cls := "java/lang/AbstractStringBuilder", name := "inflate", desc := "()V" } : Jvm.MethodName)) ∈ wt := wt_of 2434 (by decide +kernel) rfl
theorem wm_2435 : (Jvm.Cond.code ({ cls := "java/lang/AbstractStringBuilder", name := "inflate", desc := "()V" } : Jvm.MethodName) prog_17_method_11_code (2 : Nat) (Option.none : Option Jvm.ClassFile.FieldType)) ∈ wt := wt_of 2435 (by decide +kernel) rfl
theorem wm_2436 : (Jvm.Cond.methodLink "java/lang/AbstractStringBuilder" (125 : Nat) ({ cls := "java/lang/StringLatin1", name := "inflate", desc := "([BI[BII)V" } : Jvm.MethodName)) ∈ wt := wt_of 2436 (by decide +kernel) rfl
theorem wm_2437 : (Jvm.Cond.static ({ cls := "java/lang/StringLatin1", name := "inflate", desc := "([BI[BII)V" } : Jvm.MethodName)) ∈ wt := wt_of 2437 (by decide +kernel) rfl
theorem wm_2438 : (Jvm.Cond.code ({ cls := "java/lang/StringLatin1", name := "inflate", desc := "([BI[BII)V" } : Jvm.MethodName) prog_36_method_50_code (5 : Nat) (Option.none : Option Jvm.ClassFile.FieldType)) ∈ wt := wt_of 2438 (by decide +kernel) rfl
theorem wm_2439 : (Jvm.Cond.methodLink "java/lang/StringLatin1" (240 : Nat) ({ cls := "java/lang/StringUTF16", name := "inflate", desc := "([BI[BII)V" } : Jvm.MethodName)) ∈ wt := wt_of 2439 (by decide +kernel) rfl
theorem wm_2440 : (Jvm.Cond.static ({ cls := "java/lang/StringUTF16", name := "inflate", desc := "([BI[BII)V" } : Jvm.MethodName)) ∈ wt := wt_of 2440 (by decide +kernel) rfl
theorem wm_2441 : (Jvm.Cond.code ({ cls := "java/lang/StringUTF16", name := "inflate", desc := "([BI[BII)V" } : Jvm.MethodName) prog_37_method_86_code (6 : Nat) (Option.none : Option Jvm.ClassFile.FieldType)) ∈ wt := wt_of 2441 (by decide +kernel) rfl
theorem wm_2442 : (Jvm.Cond.methodLink "java/lang/StringUTF16" (173 : Nat) ({ cls := "java/lang/StringUTF16", name := "checkBoundsOffCount", desc := "(II[B)V" } : Jvm.MethodName)) ∈ wt := wt_of 2442 (by decide +kernel) rfl
theorem wm_2443 : (Jvm.Cond.static ({ cls := "java/lang/StringUTF16", name := "checkBoundsOffCount", desc := "(II[B)V" } : Jvm.MethodName)) ∈ wt := wt_of 2443 (by decide +kernel) rfl
theorem wm_2444 : (Jvm.Cond.code ({ cls := "java/lang/StringUTF16", name := "checkBoundsOffCount", desc := "(II[B)V" } : Jvm.MethodName) prog_37_method_94_code (3 : Nat) (Option.none : Option Jvm.ClassFile.FieldType)) ∈ wt := wt_of 2444 (by decide +kernel) rfl
theorem wm_2445 : (Jvm.Cond.methodLink "java/lang/StringUTF16" (419 : Nat) ({ cls := "java/lang/String", name := "checkBoundsOffCount", desc := "(III)I" } : Jvm.MethodName)) ∈ wt := wt_of 2445 (by decide +kernel) rfl
theorem wm_2446 : (Jvm.Cond.static ({ cls := "java/lang/String", name := "checkBoundsOffCount", desc := "(III)I" } : Jvm.MethodName)) ∈ wt := wt_of 2446 (by decide +kernel) rfl
theorem wm_2447 : (Jvm.Cond.code ({ cls := "java/lang/String", name := "checkBoundsOffCount", desc := "(III)I" } : Jvm.MethodName) prog_34_method_157_code (3 : Nat) (Option.some Jvm.ClassFile.FieldType.int)) ∈ wt := wt_of 2447 (by decide +kernel) rfl
theorem wm_2448 : (Jvm.Cond.methodLink "java/lang/String" (1065 : Nat) ({ cls := "jdk/internal/util/Preconditions", name := "checkFromIndexSize", desc := "(IIILjava/util/function/BiFunction;)I" } : Jvm.MethodName)) ∈ wt := wt_of 2448 (by decide +kernel) rfl
theorem wm_2449 : (Jvm.Cond.static ({ cls := "jdk/internal/util/Preconditions", name := "checkFromIndexSize", desc := "(IIILjava/util/function/BiFunction;)I" } : Jvm.MethodName)) ∈ wt := wt_of 2449 (by decide +kernel) rfl
theorem wm_2450 : (Jvm.Cond.code ({ cls := "jdk/internal/util/Preconditions", name := "checkFromIndexSize", desc := "(IIILjava/util/function/BiFunction;)I" } : Jvm.MethodName) prog_56_method_13_code (4 : Nat) (Option.some Jvm.ClassFile.FieldType.int)) ∈ wt := wt_of 2450 (by decide +kernel) rfl
theorem wm_2451 : (Jvm.Cond.methodLink "java/lang/AbstractStringBuilder" (399 : Nat) ({ cls := "java/lang/String", name := "getBytes", desc := "([BIB)V" } : Jvm.MethodName)) ∈ wt := wt_of 2451 (by decide +kernel) rfl
theorem wm_2452 : (Jvm.Cond.instanceMethod ({ cls := "java/lang/String", name := "getBytes", desc := "([BIB)V" } : Jvm.MethodName)) ∈ wt := wt_of 2452 (by decide +kernel) rfl
theorem wm_2453 : (Jvm.Cond.selects "java/lang/String" ({ cls := "java/lang/String", name := "getBytes", desc := "([BIB)V" } : Jvm.MethodName) ({ cls := "java/lang/String", name := "getBytes", desc := "([BIB)V" } : Jvm.MethodName)) ∈ wt := wt_of 2453 (by decide +kernel) rfl
theorem wm_2454 : (Jvm.Cond.code ({ cls := "java/lang/String", name := "getBytes", desc := "([BIB)V" } : Jvm.MethodName) prog_34_method_147_code (4 : Nat) (Option.none : Option Jvm.ClassFile.FieldType)) ∈ wt := wt_of 2454 (by decide +kernel) rfl
theorem wm_2455 : (Jvm.Cond.methodLink "java/lang/String" (212 : Nat) ({ cls := "java/lang/System", name := "arraycopy", desc := "(Ljava/lang/Object;ILjava/lang/Object;II)V" } : Jvm.MethodName)) ∈ wt := wt_of 2455 (by decide +kernel) rfl
theorem wm_2456 : (Jvm.Cond.methodLink "java/lang/String" (106 : Nat) ({ cls := "java/lang/StringLatin1", name := "inflate", desc := "([BI[BII)V" } : Jvm.MethodName)) ∈ wt := wt_of 2456 (by decide +kernel) rfl
theorem wm_2457 : (Jvm.Cond.methodLink "MixBoothModel" (366 : Nat) ({ cls := "java/lang/StringBuilder", name := "append", desc := "(C)Ljava/lang/StringBuilder;" } : Jvm.MethodName)) ∈ wt := wt_of 2457 (by decide +kernel) rfl
theorem wm_2458 : (Jvm.Cond.instanceMethod ({ cls := "java/lang/StringBuilder", name := "append", desc := "(C)Ljava/lang/StringBuilder;" } : Jvm.MethodName)) ∈ wt := wt_of 2458 (by decide +kernel) rfl
theorem wm_2459 : (Jvm.Cond.selects "java/lang/StringBuilder" ({ cls := "java/lang/StringBuilder", name := "append", desc := "(C)Ljava/lang/StringBuilder;" } : Jvm.MethodName) ({ cls := "java/lang/StringBuilder", name := "append", desc := "(C)Ljava/lang/StringBuilder;" } : Jvm.MethodName)) ∈ wt := wt_of 2459 (by decide +kernel) rfl
theorem wm_2460 : (Jvm.Cond.code ({ cls := "java/lang/StringBuilder", name := "append", desc := "(C)Ljava/lang/StringBuilder;" } : Jvm.MethodName) prog_35_method_14_code (2 : Nat) (Option.some (Jvm.ClassFile.FieldType.object "java/lang/StringBuilder"))) ∈ wt := wt_of 2460 (by decide +kernel) rfl
theorem wm_2461 : (Jvm.Cond.methodLink "java/lang/StringBuilder" (50 : Nat) ({ cls := "java/lang/AbstractStringBuilder", name := "append", desc := "(C)Ljava/lang/AbstractStringBuilder;" } : Jvm.MethodName)) ∈ wt := wt_of 2461 (by decide +kernel) rfl
theorem wm_2462 : (Jvm.Cond.instanceMethod ({ cls := "java/lang/AbstractStringBuilder", name := "append", desc := "(C)Ljava/lang/AbstractStringBuilder;" } : Jvm.MethodName)) ∈ wt := wt_of 2462 (by decide +kernel) rfl
theorem wm_2463 : (Jvm.Cond.code ({ cls := "java/lang/AbstractStringBuilder", name := "append", desc := "(C)Ljava/lang/AbstractStringBuilder;" } : Jvm.MethodName) prog_17_method_31_code (2 : Nat) (Option.some (Jvm.ClassFile.FieldType.object "java/lang/AbstractStringBuilder"))) ∈ wt := wt_of 2463 (by decide +kernel) rfl
theorem wm_2464 : (Jvm.Cond.methodLink "java/lang/AbstractStringBuilder" (191 : Nat) ({ cls := "java/lang/StringLatin1", name := "canEncode", desc := "(C)Z" } : Jvm.MethodName)) ∈ wt := wt_of 2464 (by decide +kernel) rfl
theorem wm_2465 : (Jvm.Cond.static ({ cls := "java/lang/StringLatin1", name := "canEncode", desc := "(C)Z" } : Jvm.MethodName)) ∈ wt := wt_of 2465 (by decide +kernel) rfl
theorem wm_2466 : (Jvm.Cond.code ({ cls := "java/lang/StringLatin1", name := "canEncode", desc := "(C)Z" } : Jvm.MethodName) prog_36_method_3_code (1 : Nat) (Option.some Jvm.ClassFile.FieldType.boolean)) ∈ wt := wt_of 2466 (by decide +kernel) rfl
theorem wm_2467 : (Jvm.Cond.methodLink "java/lang/AbstractStringBuilder" (197 : Nat) ({ cls := "java/lang/StringUTF16", name := "putCharSB", desc := "([BII)V" } : Jvm.MethodName)) ∈ wt := wt_of 2467 (by decide +kernel) rfl
theorem wm_2468 : (Jvm.Cond.static ({ cls := "java/lang/StringUTF16", name := "putCharSB", desc := "([BII)V" } : Jvm.MethodName)) ∈ wt := wt_of 2468 (by decide +kernel) rfl
theorem wm_2469 : (Jvm.Cond.code ({ cls := "java/lang/StringUTF16", name := "putCharSB", desc := "([BII)V" } : Jvm.MethodName) prog_37_method_71_code (3 : Nat) (Option.none : Option Jvm.ClassFile.FieldType)) ∈ wt := wt_of 2469 (by decide +kernel) rfl
theorem wm_2470 : (Jvm.Cond.methodLink "java/lang/StringUTF16" (67 : Nat) ({ cls := "java/lang/StringUTF16", name := "checkIndex", desc := "(I[B)V" } : Jvm.MethodName)) ∈ wt := wt_of 2470 (by decide +kernel) rfl
theorem wm_2471 : (Jvm.Cond.static ({ cls := "java/lang/StringUTF16", name := "checkIndex", desc := "(I[B)V" } : Jvm.MethodName)) ∈ wt := wt_of 2471 (by decide +kernel) rfl
theorem wm_2472 : (Jvm.Cond.code ({ cls := "java/lang/StringUTF16", name := "checkIndex", desc := "(I[B)V" } : Jvm.MethodName) prog_37_method_91_code (2 : Nat) (Option.none : Option Jvm.ClassFile.FieldType)) ∈ wt := wt_of 2472 (by decide +kernel) rfl
theorem wm_2473 : (Jvm.Cond.methodLink "java/lang/StringUTF16" (414 : Nat) ({ cls := "java/lang/String", name := "checkIndex", desc := "(II)V" } : Jvm.MethodName)) ∈ wt := wt_of 2473 (by decide +kernel) rfl
theorem wm_2474 : (Jvm.Cond.static ({ cls := "java/lang/String", name := "checkIndex", desc := "(II)V" } : Jvm.MethodName)) ∈ wt := wt_of 2474 (by decide +kernel) rfl
theorem wm_2475 : (Jvm.Cond.code ({ cls := "java/lang/String", name := "checkIndex", desc := "(II)V" } : Jvm.MethodName) prog_34_method_155_code (2 : Nat) (Option.none : Option Jvm.ClassFile.FieldType)) ∈ wt := wt_of 2475 (by decide +kernel) rfl
theorem wm_2476 : (Jvm.Cond.methodLink "java/lang/String" (1059 : Nat) ({ cls := "jdk/internal/util/Preconditions", name := "checkIndex", desc := "(IILjava/util/function/BiFunction;)I" } : Jvm.MethodName)) ∈ wt := wt_of 2476 (by decide +kernel) rfl
theorem wm_2477 : (Jvm.Cond.methodLink "MixBoothModel" (369 : Nat) ({ cls := "java/lang/StringBuilder", name := "toString", desc := "()Ljava/lang/String;" } : Jvm.MethodName)) ∈ wt := wt_of 2477 (by decide +kernel) rfl
theorem wm_2478 : (Jvm.Cond.instanceMethod ({ cls := "java/lang/StringBuilder", name := "toString", desc := "()Ljava/lang/String;" } : Jvm.MethodName)) ∈ wt := wt_of 2478 (by decide +kernel) rfl
theorem wm_2479 : (Jvm.Cond.selects "java/lang/StringBuilder" ({ cls := "java/lang/StringBuilder", name := "toString", desc := "()Ljava/lang/String;" } : Jvm.MethodName) ({ cls := "java/lang/StringBuilder", name := "toString", desc := "()Ljava/lang/String;" } : Jvm.MethodName)) ∈ wt := wt_of 2479 (by decide +kernel) rfl
theorem wm_2480 : (Jvm.Cond.code ({ cls := "java/lang/StringBuilder", name := "toString", desc := "()Ljava/lang/String;" } : Jvm.MethodName) prog_35_method_42_code (1 : Nat) (Option.some (Jvm.ClassFile.FieldType.object "java/lang/String"))) ∈ wt := wt_of 2480 (by decide +kernel) rfl
theorem wm_2481 : (Jvm.Cond.classLink "java/lang/StringBuilder" (18 : Nat) "java/lang/String") ∈ wt := wt_of 2481 (by decide +kernel) rfl
theorem wm_2482 : (Jvm.Cond.methodLink "java/lang/StringBuilder" (137 : Nat) ({ cls := "java/lang/String", name := "<init>", desc := "(Ljava/lang/StringBuilder;)V" } : Jvm.MethodName)) ∈ wt := wt_of 2482 (by decide +kernel) rfl
theorem wm_2483 : (Jvm.Cond.instanceMethod ({ cls := "java/lang/String", name := "<init>", desc := "(Ljava/lang/StringBuilder;)V" } : Jvm.MethodName)) ∈ wt := wt_of 2483 (by decide +kernel) rfl
theorem wm_2484 : (Jvm.Cond.code ({ cls := "java/lang/String", name := "<init>", desc := "(Ljava/lang/StringBuilder;)V" } : Jvm.MethodName) prog_34_method_53_code (2 : Nat) (Option.none : Option Jvm.ClassFile.FieldType)) ∈ wt := wt_of 2484 (by decide +kernel) rfl
theorem wm_2485 : (Jvm.Cond.methodLink "java/lang/String" (489 : Nat) ({ cls := "java/lang/String", name := "<init>", desc := "(Ljava/lang/AbstractStringBuilder;Ljava/lang/Void;)V" } : Jvm.MethodName)) ∈ wt := wt_of 2485 (by decide +kernel) rfl
theorem wm_2486 : (Jvm.Cond.instanceMethod ({ cls := "java/lang/String", name := "<init>", desc := "(Ljava/lang/AbstractStringBuilder;Ljava/lang/Void;)V" } : Jvm.MethodName)) ∈ wt := wt_of 2486 (by decide +kernel) rfl
theorem wm_2487 : (Jvm.Cond.code ({ cls := "java/lang/String", name := "<init>", desc := "(Ljava/lang/AbstractStringBuilder;Ljava/lang/Void;)V" } : Jvm.MethodName) prog_34_method_150_code (5 : Nat) (Option.none : Option Jvm.ClassFile.FieldType)) ∈ wt := wt_of 2487 (by decide +kernel) rfl
theorem wm_2488 : (Jvm.Cond.methodLink "java/lang/String" (1 : Nat) ({ cls := "java/lang/Object", name := "<init>", desc := "()V" } : Jvm.MethodName)) ∈ wt := wt_of 2488 (by decide +kernel) rfl
theorem wm_2489 : (Jvm.Cond.methodLink "java/lang/String" (552 : Nat) ({ cls := "java/lang/AbstractStringBuilder", name := "getValue", desc := "()[B" } : Jvm.MethodName)) ∈ wt := wt_of 2489 (by decide +kernel) rfl
theorem wm_2490 : (Jvm.Cond.instanceMethod ({ cls := "java/lang/AbstractStringBuilder", name := "getValue", desc := "()[B" } : Jvm.MethodName)) ∈ wt := wt_of 2490 (by decide +kernel) rfl
theorem wm_2491 : (Jvm.Cond.sameMethod "java/lang/AbstractStringBuilder" "java/lang/AbstractStringBuilder" "getValue" "()[B") ∈ wt := wt_of 2491 (by decide +kernel) rfl
theorem wm_2492 : (Jvm.Cond.selects "java/lang/StringBuilder" ({ cls := "java/lang/AbstractStringBuilder", name := "getValue", desc := "()[B" } : Jvm.MethodName) ({ cls := "java/lang/AbstractStringBuilder", name := "getValue", desc := "()[B" } : Jvm.MethodName)) ∈ wt := wt_of 2492 (by decide +kernel) rfl
theorem wm_2493 : (Jvm.Cond.code ({ cls := "java/lang/AbstractStringBuilder", name := "getValue", desc := "()[B" } : Jvm.MethodName) prog_17_method_64_code (1 : Nat) (Option.some (Jvm.ClassFile.FieldType.array Jvm.ClassFile.FieldType.byte))) ∈ wt := wt_of 2493 (by decide +kernel) rfl
theorem wm_2494 : (Jvm.Cond.methodLink "java/lang/String" (549 : Nat) ({ cls := "java/lang/AbstractStringBuilder", name := "length", desc := "()I" } : Jvm.MethodName)) ∈ wt := wt_of 2494 (by decide +kernel) rfl
theorem wm_2495 : (Jvm.Cond.instanceMethod ({ cls := "java/lang/AbstractStringBuilder", name := "length", desc := "()I" } : Jvm.MethodName)) ∈ wt := wt_of 2495 (by decide +kernel) rfl
theorem wm_2496 : (Jvm.Cond.sameMethod "java/lang/AbstractStringBuilder" "java/lang/AbstractStringBuilder" "length" "()I") ∈ wt := wt_of 2496 (by decide +kernel) rfl
theorem wm_2497 : (Jvm.Cond.selects "java/lang/StringBuilder" ({ cls := "java/lang/AbstractStringBuilder", name := "length", desc := "()I" } : Jvm.MethodName) ({ cls := "java/lang/StringBuilder", name := "length", desc := "()I" } : Jvm.MethodName)) ∈ wt := wt_of 2497 (by decide +kernel) rfl
theorem wm_2498 : (Jvm.Cond.instanceMethod ({ cls := "java/lang/StringBuilder", name := "length", desc := "()I" } : Jvm.MethodName)) ∈ wt := wt_of 2498 (by decide +kernel) rfl
theorem wm_2499 : (Jvm.Cond.code ({ cls := "java/lang/StringBuilder", name := "length", desc := "()I" } : Jvm.MethodName) prog_35_method_93_code (1 : Nat) (Option.some Jvm.ClassFile.FieldType.int)) ∈ wt := wt_of 2499 (by decide +kernel) rfl
theorem wm_2500 : (Jvm.Cond.methodLink "java/lang/StringBuilder" (343 : Nat) ({ cls := "java/lang/AbstractStringBuilder", name := "length", desc := "()I" } : Jvm.MethodName)) ∈ wt := wt_of 2500 (by decide +kernel) rfl
theorem wm_2501 : (Jvm.Cond.code ({ cls := "java/lang/AbstractStringBuilder", name := "length", desc := "()I" } : Jvm.MethodName) prog_17_method_6_code (1 : Nat) (Option.some Jvm.ClassFile.FieldType.int)) ∈ wt := wt_of 2501 (by decide +kernel) rfl
theorem wm_2502 : (Jvm.Cond.methodLink "java/lang/String" (1047 : Nat) ({ cls := "java/lang/AbstractStringBuilder", name := "isLatin1", desc := "()Z" } : Jvm.MethodName)) ∈ wt := wt_of 2502 (by decide +kernel) rfl
theorem wm_2503 : (Jvm.Cond.methodLink "java/lang/String" (54 : Nat) ({ cls := "java/util/Arrays", name := "copyOfRange", desc := "([BII)[B" } : Jvm.MethodName)) ∈ wt := wt_of 2503 (by decide +kernel) rfl
theorem wm_2504 : (Jvm.Cond.static ({ cls := "java/util/Arrays", name := "copyOfRange", desc := "([BII)[B" } : Jvm.MethodName)) ∈ wt := wt_of 2504 (by decide +kernel) rfl
theorem wm_2505 : (Jvm.Cond.code ({ cls := "java/util/Arrays", name := "copyOfRange", desc := "([BII)[B" } : Jvm.MethodName) prog_47_method_132_code (3 : Nat) (Option.some (Jvm.ClassFile.FieldType.array Jvm.ClassFile.FieldType.byte))) ∈ wt := wt_of 2505 (by decide +kernel) rfl
theorem wm_2506 : (Jvm.Cond.methodLink "java/util/Arrays" (339 : Nat) ({ cls := "java/util/Arrays", name := "copyOfRangeByte", desc := "([BII)[B" } : Jvm.MethodName)) ∈ wt := wt_of 2506 (by decide +kernel) rfl
theorem wm_2507 : (Jvm.Cond.static ({ cls := "java/util/Arrays", name := "copyOfRangeByte", desc := "([BII)[B" } : Jvm.MethodName)) ∈ wt := wt_of 2507 (by decide +kernel) rfl
theorem wm_2508 : (Jvm.Cond.code ({ cls := "java/util/Arrays", name := "copyOfRangeByte", desc := "([BII)[B" } : Jvm.MethodName) prog_47_method_133_code (5 : Nat) (Option.some (Jvm.ClassFile.FieldType.array Jvm.ClassFile.FieldType.byte))) ∈ wt := wt_of 2508 (by decide +kernel) rfl
theorem wm_2509 : (Jvm.Cond.methodLink "java/util/Arrays" (343 : Nat) ({ cls := "java/util/Arrays", name := "checkLength", desc := "(II)V" } : Jvm.MethodName)) ∈ wt := wt_of 2509 (by decide +kernel) rfl
theorem wm_2510 : (Jvm.Cond.static ({ cls := "java/util/Arrays", name := "checkLength", desc := "(II)V" } : Jvm.MethodName)) ∈ wt := wt_of 2510 (by decide +kernel) rfl
theorem wm_2511 : (Jvm.Cond.code ({ cls := "java/util/Arrays", name := "checkLength", desc := "(II)V" } : Jvm.MethodName) prog_47_method_131_code (2 : Nat) (Option.none : Option Jvm.ClassFile.FieldType)) ∈ wt := wt_of 2511 (by decide +kernel) rfl
theorem wm_2512 : (Jvm.Cond.classLink "java/util/Arrays" (43 : Nat) "java/lang/IllegalArgumentException") ∈ wt := wt_of 2512 (by decide +kernel) rfl
theorem wm_2513 : (Jvm.Cond.classLink "java/util/Arrays" (45 : Nat) "java/lang/StringBuilder") ∈ wt := wt_of 2513 (by decide +kernel) rfl
theorem wm_2514 : (Jvm.Cond.methodLink "java/util/Arrays" (47 : Nat) ({ cls := "java/lang/StringBuilder", name := "<init>", desc := "()V" } : Jvm.MethodName)) ∈ wt := wt_of 2514 (by decide +kernel) rfl
theorem wm_2515 : (Jvm.Cond.methodLink "java/util/Arrays" (54 : Nat) ({ cls := "java/lang/StringBuilder", name := "append", desc := "(I)Ljava/lang/StringBuilder;" } : Jvm.MethodName)) ∈ wt := wt_of 2515 (by decide +kernel) rfl
theorem wm_2516 : (Jvm.Cond.instanceMethod ({ cls := "java/lang/StringBuilder", name := "append", desc := "(I)Ljava/lang/StringBuilder;" } : Jvm.MethodName)) ∈ wt := wt_of 2516 (by decide +kernel) rfl
theorem wm_2517 : (Jvm.Cond.selects "java/lang/StringBuilder" ({ cls := "java/lang/StringBuilder", name := "append", desc := "(I)Ljava/lang/StringBuilder;" } : Jvm.MethodName) ({ cls := "java/lang/StringBuilder", name := "append", desc := "(I)Ljava/lang/StringBuilder;" } : Jvm.MethodName)) ∈ wt := wt_of 2517 (by decide +kernel) rfl
theorem wm_2518 : (Jvm.Cond.code ({ cls := "java/lang/StringBuilder", name := "append", desc := "(I)Ljava/lang/StringBuilder;" } : Jvm.MethodName) prog_35_method_15_code (2 : Nat) (Option.some (Jvm.ClassFile.FieldType.object "java/lang/StringBuilder"))) ∈ wt := wt_of 2518 (by decide +kernel) rfl
theorem wm_2519 : (Jvm.Cond.methodLink "java/lang/StringBuilder" (53 : Nat) ({ cls := "java/lang/AbstractStringBuilder", name := "append", desc := "(I)Ljava/lang/AbstractStringBuilder;" } : Jvm.MethodName)) ∈ wt := wt_of 2519 (by decide +kernel) rfl
theorem wm_2520 : (Jvm.Cond.instanceMethod ({ cls := "java/lang/AbstractStringBuilder", name := "append", desc := "(I)Ljava/lang/AbstractStringBuilder;" } : Jvm.MethodName)) ∈ wt := wt_of 2520 (by decide +kernel) rfl
theorem wm_2521 : (Jvm.Cond.code ({ cls := "java/lang/AbstractStringBuilder", name := "append", desc := "(I)Ljava/lang/AbstractStringBuilder;" } : Jvm.MethodName) prog_17_method_32_code (4 : Nat) (Option.some (Jvm.ClassFile.FieldType.object "java/lang/AbstractStringBuilder"))) ∈ wt := wt_of 2521 (by decide +kernel) rfl
theorem wm_2522 : (Jvm.Cond.methodLink "java/lang/AbstractStringBuilder" (245 : Nat) ({ cls := "java/lang/Integer", name := "stringSize", desc := "(I)I" } : Jvm.MethodName)) ∈ wt := wt_of 2522 (by decide +kernel) rfl
theorem wm_2523 : (Jvm.Cond.static ({ cls := "java/lang/Integer", name := "stringSize", desc := "(I)I" } : Jvm.MethodName)) ∈ wt := wt_of 2523 (by decide +kernel) rfl
theorem wm_2524 : (Jvm.Cond.code ({ cls := "java/lang/Integer", name := "stringSize", desc := "(I)I" } : Jvm.MethodName) prog_29_method_13_code (4 : Nat) (Option.some Jvm.ClassFile.FieldType.int)) ∈ wt := wt_of 2524 (by decide +kernel) rfl
theorem wm_2525 : (Jvm.Cond.methodLink "java/lang/AbstractStringBuilder" (248 : Nat) ({ cls := "java/lang/Integer", name := "getChars", desc := "(II[B)I" } : Jvm.MethodName)) ∈ wt := wt_of 2525 (by decide +kernel) rfl
theorem wm_2526 : (Jvm.Cond.static ({ cls := "java/lang/Integer", name := "getChars", desc := "(II[B)I" } : Jvm.MethodName)) ∈ wt := wt_of 2526 (by decide +kernel) rfl
theorem wm_2527 : (Jvm.Cond.code ({ cls := "java/lang/Integer", name := "getChars", desc := "(II[B)I" } : Jvm.MethodName) prog_29_method_12_code (7 : Nat) (Option.some Jvm.ClassFile.FieldType.int)) ∈ wt := wt_of 2527 (by decide +kernel) rfl
theorem wm_2528 : (Jvm.Cond.fieldLink "java/lang/Integer" (83 : Nat) "java/lang/Integer" "DigitOnes" "[B") ∈ wt := wt_of 2528 (by decide +kernel) rfl
theorem wm_2529 : (Jvm.Cond.laysStatic "java/lang/Integer" "DigitOnes" "[B") ∈ wt := wt_of 2529 (by decide +kernel) rfl
theorem wm_2530 : (Jvm.Cond.fieldLink "java/lang/Integer" (87 : Nat) "java/lang/Integer" "DigitTens" "[B") ∈ wt := wt_of 2530 (by decide +kernel) rfl
theorem wm_2531 : (Jvm.Cond.laysStatic "java/lang/Integer" "DigitTens" "[B") ∈ wt := wt_of 2531 (by decide +kernel) rfl
theorem wm_2532 : (Jvm.Cond.methodLink "java/lang/AbstractStringBuilder" (251 : Nat) ({ cls := "java/lang/StringUTF16", name := "getChars", desc := "(III[B)I" } : Jvm.MethodName)) ∈ wt := wt_of 2532 (by decide +kernel) rfl
theorem wm_2533 : (Jvm.Cond.static ({ cls := "java/lang/StringUTF16", name := "getChars", desc := "(III[B)I" } : Jvm.MethodName)) ∈ wt := wt_of 2533 (by decide +kernel) rfl
theorem wm_2534 : (Jvm.Cond.code ({ cls := "java/lang/StringUTF16", name := "getChars", desc := "(III[B)I" } : Jvm.MethodName) prog_37_method_77_code (5 : Nat) (Option.some Jvm.ClassFile.FieldType.int)) ∈ wt := wt_of 2534 (by decide +kernel) rfl
theorem wm_2535 : (Jvm.Cond.methodLink "java/lang/StringUTF16" (393 : Nat) ({ cls := "java/lang/StringUTF16", name := "getChars", desc := "(II[B)I" } : Jvm.MethodName)) ∈ wt := wt_of 2535 (by decide +kernel) rfl
theorem wm_2536 : (Jvm.Cond.static ({ cls := "java/lang/StringUTF16", name := "getChars", desc := "(II[B)I" } : Jvm.MethodName)) ∈ wt := wt_of 2536 (by decide +kernel) rfl
theorem wm_2537 : (Jvm.Cond.code ({ cls := "java/lang/StringUTF16", name := "getChars", desc := "(II[B)I" } : Jvm.MethodName) prog_37_method_89_code (7 : Nat) (Option.some Jvm.ClassFile.FieldType.int)) ∈ wt := wt_of 2537 (by decide +kernel) rfl
theorem wm_2538 : (Jvm.Cond.fieldLink "java/lang/StringUTF16" (403 : Nat) "java/lang/Integer" "DigitOnes" "[B") ∈ wt := wt_of 2538 (by decide +kernel) rfl
theorem wm_2539 : (Jvm.Cond.fieldLink "java/lang/StringUTF16" (407 : Nat) "java/lang/Integer" "DigitTens" "[B") ∈ wt := wt_of 2539 (by decide +kernel) rfl
theorem wm_2540 : (Jvm.Cond.stringRef "java/util/Arrays" (337 : Nat) " > ") ∈ wt := wt_of 2540 (by decide +kernel) rfl
theorem wm_2541 : (Jvm.Cond.methodLink "java/util/Arrays" (50 : Nat) ({ cls := "java/lang/StringBuilder", name := "append", desc := "(Ljava/lang/String;)Ljava/lang/StringBuilder;" } : Jvm.MethodName)) ∈ wt := wt_of 2541 (by decide +kernel) rfl
theorem wm_2542 : (Jvm.Cond.methodLink "java/util/Arrays" (61 : Nat) ({ cls := "java/lang/StringBuilder", name := "toString", desc := "()Ljava/lang/String;" } : Jvm.MethodName)) ∈ wt := wt_of 2542 (by decide +kernel) rfl
theorem wm_2543 : (Jvm.Cond.methodLink "java/util/Arrays" (65 : Nat) ({ cls := "java/lang/IllegalArgumentException", name := "<init>", desc := "(Ljava/lang/String;)V" } : Jvm.MethodName)) ∈ wt := wt_of 2543 (by decide +kernel) rfl
theorem wm_2544 : (Jvm.Cond.methodLink "java/lang/String" (1051 : Nat) ({ cls := "java/lang/StringUTF16", name := "compress", desc := "([BII)[B" } : Jvm.MethodName)) ∈ wt := wt_of 2544 (by decide +kernel) rfl
theorem wm_2545 : (Jvm.Cond.static ({ cls := "java/lang/StringUTF16", name := "compress", desc := "([BII)[B" } : Jvm.MethodName)) ∈ wt := wt_of 2545 (by decide +kernel) rfl
theorem wm_2546 : (Jvm.Cond.code ({ cls := "java/lang/StringUTF16", name := "compress", desc := "([BII)[B" } : Jvm.MethodName) prog_37_method_17_code (6 : Nat) (Option.some (Jvm.ClassFile.FieldType.array Jvm.ClassFile.FieldType.byte))) ∈ wt := wt_of 2546 (by decide +kernel) rfl
theorem wm_2547 : (Jvm.Cond.methodLink "java/lang/StringUTF16" (123 : Nat) ({ cls := "java/lang/StringUTF16", name := "compress", desc := "([BI[BII)I" } : Jvm.MethodName)) ∈ wt := wt_of 2547 (by decide +kernel) rfl
theorem wm_2548 : (Jvm.Cond.static ({ cls := "java/lang/StringUTF16", name := "compress", desc := "([BI[BII)I" } : Jvm.MethodName)) ∈ wt := wt_of 2548 (by decide +kernel) rfl
theorem wm_2549 : (Jvm.Cond.code ({ cls := "java/lang/StringUTF16", name := "compress", desc := "([BI[BII)I" } : Jvm.MethodName) prog_37_method_22_code (7 : Nat) (Option.some Jvm.ClassFile.FieldType.int)) ∈ wt := wt_of 2549 (by decide +kernel) rfl
theorem wm_2550 : (Jvm.Cond.methodLink "java/lang/StringUTF16" (126 : Nat) ({ cls := "java/util/Arrays", name := "copyOfRange", desc := "([BII)[B" } : Jvm.MethodName)) ∈ wt := wt_of 2550 (by decide +kernel) rfl
theorem wm_2551 : (Jvm.Cond.methodLink "java/lang/String" (47 : Nat) ({ cls := "java/lang/StringUTF16", name := "coderFromArrayLen", desc := "([BI)B" } : Jvm.MethodName)) ∈ wt := wt_of 2551 (by decide +kernel) rfl
theorem wm_2552 : (Jvm.Cond.static ({ cls := "java/lang/StringUTF16", name := "coderFromArrayLen", desc := "([BI)B" } : Jvm.MethodName)) ∈ wt := wt_of 2552 (by decide +kernel) rfl
theorem wm_2553 : (Jvm.Cond.code ({ cls := "java/lang/StringUTF16", name := "coderFromArrayLen", desc := "([BI)B" } : Jvm.MethodName) prog_37_method_15_code (2 : Nat) (Option.some Jvm.ClassFile.FieldType.byte)) ∈ wt := wt_of 2553 (by decide +kernel) rfl
theorem wm_2554 : (Jvm.Cond.fieldLink "java/lang/String" (9 : Nat) "java/lang/String" "value" "[B") ∈ wt := wt_of 2554 (by decide +kernel) rfl
theorem wm_2555 : (Jvm.Cond.fieldLink "java/lang/String" (15 : Nat) "java/lang/String" "coder" "B") ∈ wt := wt_of 2555 (by decide +kernel) rfl
theorem wm_2556 : (Jvm.Cond.lays "java/lang/String" "java/lang/String" "hash" "I") ∈ wt := wt_of 2556 (by decide +kernel) rfl
theorem wm_2557 : (Jvm.Cond.soleField "java/lang/String" "hash") ∈ wt := wt_of 2557 (by decide +kernel) rfl
theorem wm_2558 : (Jvm.Cond.lays "java/lang/String" "java/lang/String" "hashIsZero" "Z") ∈ wt := wt_of 2558 (by decide +kernel) rfl
theorem wm_2559 : (Jvm.Cond.soleField "java/lang/String" "hashIsZero") ∈ wt := wt_of 2559 (by decide +kernel) rfl
theorem wm_2560 : (Jvm.Cond.superclass "java/lang/String" "java/lang/Object") ∈ wt := wt_of 2560 (by decide +kernel) rfl
theorem wm_2561 : (Jvm.Cond.methodLink "MixBoothLaw" (346 : Nat) ({ cls := "MixBoothModel", name := "wipe", desc := "()I" } : Jvm.MethodName)) ∈ wt := wt_of 2561 (by decide +kernel) rfl
theorem wm_2562 : (Jvm.Cond.instanceMethod ({ cls := "MixBoothModel", name := "wipe", desc := "()I" } : Jvm.MethodName)) ∈ wt := wt_of 2562 (by decide +kernel) rfl
theorem wm_2563 : (Jvm.Cond.selects "MixBoothModel" ({ cls := "MixBoothModel", name := "wipe", desc := "()I" } : Jvm.MethodName) ({ cls := "MixBoothModel", name := "wipe", desc := "()I" } : Jvm.MethodName)) ∈ wt := wt_of 2563 (by decide +kernel) rfl
theorem wm_2564 : (Jvm.Cond.code ({ cls := "MixBoothModel", name := "wipe", desc := "()I" } : Jvm.MethodName) prog_13_method_72_code (2 : Nat) (Option.some Jvm.ClassFile.FieldType.int)) ∈ wt := wt_of 2564 (by decide +kernel) rfl
theorem wm_2565 : (Jvm.Cond.methodLink "MixBoothLaw" (349 : Nat) ({ cls := "MixBoothModel", name := "perform", desc := "()I" } : Jvm.MethodName)) ∈ wt := wt_of 2565 (by decide +kernel) rfl
theorem wm_2566 : (Jvm.Cond.instanceMethod ({ cls := "MixBoothModel", name := "perform", desc := "()I" } : Jvm.MethodName)) ∈ wt := wt_of 2566 (by decide +kernel) rfl
theorem wm_2567 : (Jvm.Cond.selects "MixBoothModel" ({ cls := "MixBoothModel", name := "perform", desc := "()I" } : Jvm.MethodName) ({ cls := "MixBoothModel", name := "perform", desc := "()I" } : Jvm.MethodName)) ∈ wt := wt_of 2567 (by decide +kernel) rfl
theorem wm_2568 : (Jvm.Cond.code ({ cls := "MixBoothModel", name := "perform", desc := "()I" } : Jvm.MethodName) prog_13_method_77_code (10 : Nat) (Option.some Jvm.ClassFile.FieldType.int)) ∈ wt := wt_of 2568 (by decide +kernel) rfl
theorem wm_2569 : (Jvm.Cond.methodLink "MixBoothModel" (392 : Nat) ({ cls := "MixBoothModel", name := "badSign", desc := "()I" } : Jvm.MethodName)) ∈ wt := wt_of 2569 (by decide +kernel) rfl
theorem wm_2570 : (Jvm.Cond.privateMethod ({ cls := "MixBoothModel", name := "badSign", desc := "()I" } : Jvm.MethodName)) ∈ wt := wt_of 2570 (by decide +kernel) rfl
theorem wm_2571 : (Jvm.Cond.instanceMethod ({ cls := "MixBoothModel", name := "badSign", desc := "()I" } : Jvm.MethodName)) ∈ wt := wt_of 2571 (by decide +kernel) rfl
theorem wm_2572 : (Jvm.Cond.code ({ cls := "MixBoothModel", name := "badSign", desc := "()I" } : Jvm.MethodName) prog_13_method_74_code (4 : Nat) (Option.some Jvm.ClassFile.FieldType.int)) ∈ wt := wt_of 2572 (by decide +kernel) rfl
theorem wm_2573 : (Jvm.Cond.methodLink "MixBoothModel" (373 : Nat) ({ cls := "java/lang/String", name := "isEmpty", desc := "()Z" } : Jvm.MethodName)) ∈ wt := wt_of 2573 (by decide +kernel) rfl
theorem wm_2574 : (Jvm.Cond.instanceMethod ({ cls := "java/lang/String", name := "isEmpty", desc := "()Z" } : Jvm.MethodName)) ∈ wt := wt_of 2574 (by decide +kernel) rfl
theorem wm_2575 : (Jvm.Cond.selects "java/lang/String" ({ cls := "java/lang/String", name := "isEmpty", desc := "()Z" } : Jvm.MethodName) ({ cls := "java/lang/String", name := "isEmpty", desc := "()Z" } : Jvm.MethodName)) ∈ wt := wt_of 2575 (by decide +kernel) rfl
theorem wm_2576 : (Jvm.Cond.code ({ cls := "java/lang/String", name := "isEmpty", desc := "()Z" } : Jvm.MethodName) prog_34_method_55_code (1 : Nat) (Option.some Jvm.ClassFile.FieldType.boolean)) ∈ wt := wt_of 2576 (by decide +kernel) rfl
theorem wm_2577 : (Jvm.Cond.methodLink "MixBoothModel" (375 : Nat) ({ cls := "java/lang/String", name := "charAt", desc := "(I)C" } : Jvm.MethodName)) ∈ wt := wt_of 2577 (by decide +kernel) rfl
theorem wm_2578 : (Jvm.Cond.instanceMethod ({ cls := "java/lang/String", name := "charAt", desc := "(I)C" } : Jvm.MethodName)) ∈ wt := wt_of 2578 (by decide +kernel) rfl
theorem wm_2579 : (Jvm.Cond.selects "java/lang/String" ({ cls := "java/lang/String", name := "charAt", desc := "(I)C" } : Jvm.MethodName) ({ cls := "java/lang/String", name := "charAt", desc := "(I)C" } : Jvm.MethodName)) ∈ wt := wt_of 2579 (by decide +kernel) rfl
theorem wm_2580 : (Jvm.Cond.code ({ cls := "java/lang/String", name := "charAt", desc := "(I)C" } : Jvm.MethodName) prog_34_method_56_code (2 : Nat) (Option.some Jvm.ClassFile.FieldType.char)) ∈ wt := wt_of 2580 (by decide +kernel) rfl
theorem wm_2581 : (Jvm.Cond.methodLink "java/lang/String" (495 : Nat) ({ cls := "java/lang/StringLatin1", name := "charAt", desc := "([BI)C" } : Jvm.MethodName)) ∈ wt := wt_of 2581 (by decide +kernel) rfl
theorem wm_2582 : (Jvm.Cond.static ({ cls := "java/lang/StringLatin1", name := "charAt", desc := "([BI)C" } : Jvm.MethodName)) ∈ wt := wt_of 2582 (by decide +kernel) rfl
theorem wm_2583 : (Jvm.Cond.code ({ cls := "java/lang/StringLatin1", name := "charAt", desc := "([BI)C" } : Jvm.MethodName) prog_36_method_2_code (2 : Nat) (Option.some Jvm.ClassFile.FieldType.char)) ∈ wt := wt_of 2583 (by decide +kernel) rfl
theorem wm_2584 : (Jvm.Cond.methodLink "java/lang/StringLatin1" (9 : Nat) ({ cls := "java/lang/String", name := "checkIndex", desc := "(II)V" } : Jvm.MethodName)) ∈ wt := wt_of 2584 (by decide +kernel) rfl
theorem wm_2585 : (Jvm.Cond.methodLink "java/lang/String" (498 : Nat) ({ cls := "java/lang/StringUTF16", name := "charAt", desc := "([BI)C" } : Jvm.MethodName)) ∈ wt := wt_of 2585 (by decide +kernel) rfl
theorem wm_2586 : (Jvm.Cond.static ({ cls := "java/lang/StringUTF16", name := "charAt", desc := "([BI)C" } : Jvm.MethodName)) ∈ wt := wt_of 2586 (by decide +kernel) rfl
theorem wm_2587 : (Jvm.Cond.code ({ cls := "java/lang/StringUTF16", name := "charAt", desc := "([BI)C" } : Jvm.MethodName) prog_37_method_83_code (2 : Nat) (Option.some Jvm.ClassFile.FieldType.char)) ∈ wt := wt_of 2587 (by decide +kernel) rfl
theorem wm_2588 : (Jvm.Cond.stringRef "MixBoothModel" (379 : Nat) "psbcmlx+-fk") ∈ wt := wt_of 2588 (by decide +kernel) rfl
theorem wm_2589 : (Jvm.Cond.stringRef "MixBoothModel" (381 : Nat) "cml+-f") ∈ wt := wt_of 2589 (by decide +kernel) rfl
theorem wm_2590 : (Jvm.Cond.methodLink "MixBoothModel" (383 : Nat) ({ cls := "MixBoothModel", name := "isDigit", desc := "(CC)Z" } : Jvm.MethodName)) ∈ wt := wt_of 2590 (by decide +kernel) rfl
theorem wm_2591 : (Jvm.Cond.static ({ cls := "MixBoothModel", name := "isDigit", desc := "(CC)Z" } : Jvm.MethodName)) ∈ wt := wt_of 2591 (by decide +kernel) rfl
theorem wm_2592 : (Jvm.Cond.code ({ cls := "MixBoothModel", name := "isDigit", desc := "(CC)Z" } : Jvm.MethodName) prog_13_method_73_code (2 : Nat) (Option.some Jvm.ClassFile.FieldType.boolean)) ∈ wt := wt_of 2592 (by decide +kernel) rfl
theorem wm_2593 : (Jvm.Cond.methodLink "MixBoothModel" (395 : Nat) ({ cls := "MixBoothModel", name := "refuses", desc := "(CICI)V" } : Jvm.MethodName)) ∈ wt := wt_of 2593 (by decide +kernel) rfl
theorem wm_2594 : (Jvm.Cond.privateMethod ({ cls := "MixBoothModel", name := "refuses", desc := "(CICI)V" } : Jvm.MethodName)) ∈ wt := wt_of 2594 (by decide +kernel) rfl
theorem wm_2595 : (Jvm.Cond.instanceMethod ({ cls := "MixBoothModel", name := "refuses", desc := "(CICI)V" } : Jvm.MethodName)) ∈ wt := wt_of 2595 (by decide +kernel) rfl
theorem wm_2596 : (Jvm.Cond.code ({ cls := "MixBoothModel", name := "refuses", desc := "(CICI)V" } : Jvm.MethodName) prog_13_method_76_code (5 : Nat) (Option.none : Option Jvm.ClassFile.FieldType)) ∈ wt := wt_of 2596 (by decide +kernel) rfl
theorem wm_2597 : (Jvm.Cond.methodLink "MixBoothModel" (399 : Nat) ({ cls := "MixBoothModel$Deck", name := "like", desc := "()LMixBoothModel$Deck;" } : Jvm.MethodName)) ∈ wt := wt_of 2597 (by decide +kernel) rfl
theorem wm_2598 : (Jvm.Cond.instanceMethod ({ cls := "MixBoothModel$Deck", name := "like", desc := "()LMixBoothModel$Deck;" } : Jvm.MethodName)) ∈ wt := wt_of 2598 (by decide +kernel) rfl
theorem wm_2599 : (Jvm.Cond.selects "MixBoothModel$Deck" ({ cls := "MixBoothModel$Deck", name := "like", desc := "()LMixBoothModel$Deck;" } : Jvm.MethodName) ({ cls := "MixBoothModel$Deck", name := "like", desc := "()LMixBoothModel$Deck;" } : Jvm.MethodName)) ∈ wt := wt_of 2599 (by decide +kernel) rfl
theorem wm_2600 : (Jvm.Cond.code ({ cls := "MixBoothModel$Deck", name := "like", desc := "()LMixBoothModel$Deck;" } : Jvm.MethodName) prog_14_method_2_code (2 : Nat) (Option.some (Jvm.ClassFile.FieldType.object "MixBoothModel$Deck"))) ∈ wt := wt_of 2600 (by decide +kernel) rfl
theorem wm_2601 : (Jvm.Cond.classLink "MixBoothModel$Deck" (10 : Nat) "MixBoothModel$Deck") ∈ wt := wt_of 2601 (by decide +kernel) rfl
theorem wm_2602 : (Jvm.Cond.methodLink "MixBoothModel$Deck" (36 : Nat) ({ cls := "MixBoothModel$Deck", name := "<init>", desc := "()V" } : Jvm.MethodName)) ∈ wt := wt_of 2602 (by decide +kernel) rfl
theorem wm_2603 : (Jvm.Cond.methodLink "MixBoothModel$Deck" (37 : Nat) ({ cls := "MixBoothModel$Deck", name := "takes", desc := "(LMixBoothModel$Deck;)V" } : Jvm.MethodName)) ∈ wt := wt_of 2603 (by decide +kernel) rfl
theorem wm_2604 : (Jvm.Cond.instanceMethod ({ cls := "MixBoothModel$Deck", name := "takes", desc := "(LMixBoothModel$Deck;)V" } : Jvm.MethodName)) ∈ wt := wt_of 2604 (by decide +kernel) rfl
theorem wm_2605 : (Jvm.Cond.selects "MixBoothModel$Deck" ({ cls := "MixBoothModel$Deck", name := "takes", desc := "(LMixBoothModel$Deck;)V" } : Jvm.MethodName) ({ cls := "MixBoothModel$Deck", name := "takes", desc := "(LMixBoothModel$Deck;)V" } : Jvm.MethodName)) ∈ wt := wt_of 2605 (by decide +kernel) rfl
theorem wm_2606 : (Jvm.Cond.code ({ cls := "MixBoothModel$Deck", name := "takes", desc := "(LMixBoothModel$Deck;)V" } : Jvm.MethodName) prog_14_method_3_code (2 : Nat) (Option.none : Option Jvm.ClassFile.FieldType)) ∈ wt := wt_of 2606 (by decide +kernel) rfl
theorem wm_2607 : (Jvm.Cond.methodLink "MixBoothModel$Deck" (74 : Nat) ({ cls := "java/lang/System", name := "arraycopy", desc := "(Ljava/lang/Object;ILjava/lang/Object;II)V" } : Jvm.MethodName)) ∈ wt := wt_of 2607 (by decide +kernel) rfl
theorem wm_2608 : (Jvm.Cond.methodLink "MixBoothModel" (403 : Nat) ({ cls := "MixBoothModel", name := "does", desc := "(LMixBoothModel$Deck;CI)C" } : Jvm.MethodName)) ∈ wt := wt_of 2608 (by decide +kernel) rfl
theorem wm_2609 : (Jvm.Cond.static ({ cls := "MixBoothModel", name := "does", desc := "(LMixBoothModel$Deck;CI)C" } : Jvm.MethodName)) ∈ wt := wt_of 2609 (by decide +kernel) rfl
theorem wm_2610 : (Jvm.Cond.code ({ cls := "MixBoothModel", name := "does", desc := "(LMixBoothModel$Deck;CI)C" } : Jvm.MethodName) prog_13_method_75_code (3 : Nat) (Option.some Jvm.ClassFile.FieldType.char)) ∈ wt := wt_of 2610 (by decide +kernel) rfl
theorem wm_2611 : (Jvm.Cond.stringRef "MixBoothModel" (387 : Nat) "pbcml+-k") ∈ wt := wt_of 2611 (by decide +kernel) rfl
theorem wm_2612 : (Jvm.Cond.methodLink "MixBoothModel" (407 : Nat) ({ cls := "MixBoothModel$Deck", name := "takes", desc := "(LMixBoothModel$Deck;)V" } : Jvm.MethodName)) ∈ wt := wt_of 2612 (by decide +kernel) rfl
theorem wm_2613 : (Jvm.Cond.methodLink "MixBoothLaw" (352 : Nat) ({ cls := "MixBoothModel", name := "cause", desc := "(I)C" } : Jvm.MethodName)) ∈ wt := wt_of 2613 (by decide +kernel) rfl
theorem wm_2614 : (Jvm.Cond.instanceMethod ({ cls := "MixBoothModel", name := "cause", desc := "(I)C" } : Jvm.MethodName)) ∈ wt := wt_of 2614 (by decide +kernel) rfl
theorem wm_2615 : (Jvm.Cond.selects "MixBoothModel" ({ cls := "MixBoothModel", name := "cause", desc := "(I)C" } : Jvm.MethodName) ({ cls := "MixBoothModel", name := "cause", desc := "(I)C" } : Jvm.MethodName)) ∈ wt := wt_of 2615 (by decide +kernel) rfl
theorem wm_2616 : (Jvm.Cond.code ({ cls := "MixBoothModel", name := "cause", desc := "(I)C" } : Jvm.MethodName) prog_13_method_78_code (2 : Nat) (Option.some Jvm.ClassFile.FieldType.char)) ∈ wt := wt_of 2616 (by decide +kernel) rfl
theorem wm_2617 : (Jvm.Cond.methodLink "MixBoothLaw" (355 : Nat) ({ cls := "MixBoothModel", name := "causeNumber", desc := "(I)I" } : Jvm.MethodName)) ∈ wt := wt_of 2617 (by decide +kernel) rfl
theorem wm_2618 : (Jvm.Cond.instanceMethod ({ cls := "MixBoothModel", name := "causeNumber", desc := "(I)I" } : Jvm.MethodName)) ∈ wt := wt_of 2618 (by decide +kernel) rfl
theorem wm_2619 : (Jvm.Cond.selects "MixBoothModel" ({ cls := "MixBoothModel", name := "causeNumber", desc := "(I)I" } : Jvm.MethodName) ({ cls := "MixBoothModel", name := "causeNumber", desc := "(I)I" } : Jvm.MethodName)) ∈ wt := wt_of 2619 (by decide +kernel) rfl
theorem wm_2620 : (Jvm.Cond.code ({ cls := "MixBoothModel", name := "causeNumber", desc := "(I)I" } : Jvm.MethodName) prog_13_method_79_code (2 : Nat) (Option.some Jvm.ClassFile.FieldType.int)) ∈ wt := wt_of 2620 (by decide +kernel) rfl
theorem wm_2621 : (Jvm.Cond.methodLink "MixBoothLaw" (358 : Nat) ({ cls := "MixBoothModel", name := "skip", desc := "(II)J" } : Jvm.MethodName)) ∈ wt := wt_of 2621 (by decide +kernel) rfl
theorem wm_2622 : (Jvm.Cond.instanceMethod ({ cls := "MixBoothModel", name := "skip", desc := "(II)J" } : Jvm.MethodName)) ∈ wt := wt_of 2622 (by decide +kernel) rfl
theorem wm_2623 : (Jvm.Cond.selects "MixBoothModel" ({ cls := "MixBoothModel", name := "skip", desc := "(II)J" } : Jvm.MethodName) ({ cls := "MixBoothModel", name := "skip", desc := "(II)J" } : Jvm.MethodName)) ∈ wt := wt_of 2623 (by decide +kernel) rfl
theorem wm_2624 : (Jvm.Cond.code ({ cls := "MixBoothModel", name := "skip", desc := "(II)J" } : Jvm.MethodName) prog_13_method_80_code (3 : Nat) (Option.some Jvm.ClassFile.FieldType.long)) ∈ wt := wt_of 2624 (by decide +kernel) rfl
theorem wm_2625 : (Jvm.Cond.methodLink "MixBoothLaw" (361 : Nat) ({ cls := "MixBoothModel", name := "loseStick", desc := "(I)I" } : Jvm.MethodName)) ∈ wt := wt_of 2625 (by decide +kernel) rfl
theorem wm_2626 : (Jvm.Cond.instanceMethod ({ cls := "MixBoothModel", name := "loseStick", desc := "(I)I" } : Jvm.MethodName)) ∈ wt := wt_of 2626 (by decide +kernel) rfl
theorem wm_2627 : (Jvm.Cond.selects "MixBoothModel" ({ cls := "MixBoothModel", name := "loseStick", desc := "(I)I" } : Jvm.MethodName) ({ cls := "MixBoothModel", name := "loseStick", desc := "(I)I" } : Jvm.MethodName)) ∈ wt := wt_of 2627 (by decide +kernel) rfl
theorem wm_2628 : (Jvm.Cond.code ({ cls := "MixBoothModel", name := "loseStick", desc := "(I)I" } : Jvm.MethodName) prog_13_method_81_code (7 : Nat) (Option.some Jvm.ClassFile.FieldType.int)) ∈ wt := wt_of 2628 (by decide +kernel) rfl
theorem wm_2629 : (Jvm.Cond.methodLink "MixBoothModel" (411 : Nat) ({ cls := "MixBoothModel$Deck", name := "empties", desc := "()V" } : Jvm.MethodName)) ∈ wt := wt_of 2629 (by decide +kernel) rfl
theorem wm_2630 : (Jvm.Cond.instanceMethod ({ cls := "MixBoothModel$Deck", name := "empties", desc := "()V" } : Jvm.MethodName)) ∈ wt := wt_of 2630 (by decide +kernel) rfl
theorem wm_2631 : (Jvm.Cond.selects "MixBoothModel$Deck" ({ cls := "MixBoothModel$Deck", name := "empties", desc := "()V" } : Jvm.MethodName) ({ cls := "MixBoothModel$Deck", name := "empties", desc := "()V" } : Jvm.MethodName)) ∈ wt := wt_of 2631 (by decide +kernel) rfl
theorem wm_2632 : (Jvm.Cond.code ({ cls := "MixBoothModel$Deck", name := "empties", desc := "()V" } : Jvm.MethodName) prog_14_method_4_code (1 : Nat) (Option.none : Option Jvm.ClassFile.FieldType)) ∈ wt := wt_of 2632 (by decide +kernel) rfl
theorem wm_2633 : (Jvm.Cond.methodLink "MixBoothModel$Deck" (80 : Nat) ({ cls := "MixBoothModel$Deck", name := "anew", desc := "()V" } : Jvm.MethodName)) ∈ wt := wt_of 2633 (by decide +kernel) rfl
theorem wm_2634 : (Jvm.Cond.methodLink "MixBoothLaw" (365 : Nat) ({ cls := "MixBoothModel", name := "logged", desc := "()I" } : Jvm.MethodName)) ∈ wt := wt_of 2634 (by decide +kernel) rfl
theorem wm_2635 : (Jvm.Cond.instanceMethod ({ cls := "MixBoothModel", name := "logged", desc := "()I" } : Jvm.MethodName)) ∈ wt := wt_of 2635 (by decide +kernel) rfl
theorem wm_2636 : (Jvm.Cond.selects "MixBoothModel" ({ cls := "MixBoothModel", name := "logged", desc := "()I" } : Jvm.MethodName) ({ cls := "MixBoothModel", name := "logged", desc := "()I" } : Jvm.MethodName)) ∈ wt := wt_of 2636 (by decide +kernel) rfl
theorem wm_2637 : (Jvm.Cond.code ({ cls := "MixBoothModel", name := "logged", desc := "()I" } : Jvm.MethodName) prog_13_method_82_code (1 : Nat) (Option.some Jvm.ClassFile.FieldType.int)) ∈ wt := wt_of 2637 (by decide +kernel) rfl
theorem wm_2638 : (Jvm.Cond.methodLink "MixBoothLaw" (370 : Nat) ({ cls := "MixBoothModel", name := "print", desc := "()J" } : Jvm.MethodName)) ∈ wt := wt_of 2638 (by decide +kernel) rfl
theorem wm_2639 : (Jvm.Cond.instanceMethod ({ cls := "MixBoothModel", name := "print", desc := "()J" } : Jvm.MethodName)) ∈ wt := wt_of 2639 (by decide +kernel) rfl
theorem wm_2640 : (Jvm.Cond.selects "MixBoothModel" ({ cls := "MixBoothModel", name := "print", desc := "()J" } : Jvm.MethodName) ({ cls := "MixBoothModel", name := "print", desc := "()J" } : Jvm.MethodName)) ∈ wt := wt_of 2640 (by decide +kernel) rfl
theorem wm_2641 : (Jvm.Cond.code ({ cls := "MixBoothModel", name := "print", desc := "()J" } : Jvm.MethodName) prog_13_method_83_code (9 : Nat) (Option.some Jvm.ClassFile.FieldType.long)) ∈ wt := wt_of 2641 (by decide +kernel) rfl
theorem wm_2642 : (Jvm.Cond.constantLong "MixBoothModel" (414 : Nat) (7 : Int64)) ∈ wt := wt_of 2642 (by decide +kernel) rfl
theorem wm_2643 : (Jvm.Cond.constantLong "MixBoothModel" (416 : Nat) (31 : Int64)) ∈ wt := wt_of 2643 (by decide +kernel) rfl
theorem wm_2644 : (Jvm.Cond.methodLink "MixBoothLaw" (374 : Nat) ({ cls := "MixBoothModel", name := "printAgain", desc := "()J" } : Jvm.MethodName)) ∈ wt := wt_of 2644 (by decide +kernel) rfl
theorem wm_2645 : (Jvm.Cond.instanceMethod ({ cls := "MixBoothModel", name := "printAgain", desc := "()J" } : Jvm.MethodName)) ∈ wt := wt_of 2645 (by decide +kernel) rfl
theorem wm_2646 : (Jvm.Cond.selects "MixBoothModel" ({ cls := "MixBoothModel", name := "printAgain", desc := "()J" } : Jvm.MethodName) ({ cls := "MixBoothModel", name := "printAgain", desc := "()J" } : Jvm.MethodName)) ∈ wt := wt_of 2646 (by decide +kernel) rfl
theorem wm_2647 : (Jvm.Cond.code ({ cls := "MixBoothModel", name := "printAgain", desc := "()J" } : Jvm.MethodName) prog_13_method_84_code (1 : Nat) (Option.some Jvm.ClassFile.FieldType.long)) ∈ wt := wt_of 2647 (by decide +kernel) rfl
theorem wm_2648 : (Jvm.Cond.methodLink "MixBoothModel" (418 : Nat) ({ cls := "MixBoothModel", name := "print", desc := "()J" } : Jvm.MethodName)) ∈ wt := wt_of 2648 (by decide +kernel) rfl
theorem wm_2649 : (Jvm.Cond.methodLink "MixBoothLaw" (378 : Nat) ({ cls := "MixBoothModel", name := "silentShare", desc := "()F" } : Jvm.MethodName)) ∈ wt := wt_of 2649 (by decide +kernel) rfl
theorem wm_2650 : (Jvm.Cond.instanceMethod ({ cls := "MixBoothModel", name := "silentShare", desc := "()F" } : Jvm.MethodName)) ∈ wt := wt_of 2650 (by decide +kernel) rfl
theorem wm_2651 : (Jvm.Cond.selects "MixBoothModel" ({ cls := "MixBoothModel", name := "silentShare", desc := "()F" } : Jvm.MethodName) ({ cls := "MixBoothModel", name := "silentShare", desc := "()F" } : Jvm.MethodName)) ∈ wt := wt_of 2651 (by decide +kernel) rfl
theorem wm_2652 : (Jvm.Cond.code ({ cls := "MixBoothModel", name := "silentShare", desc := "()F" } : Jvm.MethodName) prog_13_method_85_code (1 : Nat) (Option.some Jvm.ClassFile.FieldType.float)) ∈ wt := wt_of 2652 (by decide +kernel) rfl
theorem wm_2653 : (Jvm.Cond.methodLink "MixBoothLaw" (381 : Nat) ({ cls := "MixBoothModel", name := "meanLoudness", desc := "()D" } : Jvm.MethodName)) ∈ wt := wt_of 2653 (by decide +kernel) rfl
theorem wm_2654 : (Jvm.Cond.instanceMethod ({ cls := "MixBoothModel", name := "meanLoudness", desc := "()D" } : Jvm.MethodName)) ∈ wt := wt_of 2654 (by decide +kernel) rfl
theorem wm_2655 : (Jvm.Cond.selects "MixBoothModel" ({ cls := "MixBoothModel", name := "meanLoudness", desc := "()D" } : Jvm.MethodName) ({ cls := "MixBoothModel", name := "meanLoudness", desc := "()D" } : Jvm.MethodName)) ∈ wt := wt_of 2655 (by decide +kernel) rfl
theorem wm_2656 : (Jvm.Cond.code ({ cls := "MixBoothModel", name := "meanLoudness", desc := "()D" } : Jvm.MethodName) prog_13_method_86_code (1 : Nat) (Option.some Jvm.ClassFile.FieldType.double)) ∈ wt := wt_of 2656 (by decide +kernel) rfl
theorem wm_2657 : (Jvm.Cond.methodLink "MixBoothLaw" (386 : Nat) ({ cls := "MixBoothModel", name := "isSound", desc := "()Z" } : Jvm.MethodName)) ∈ wt := wt_of 2657 (by decide +kernel) rfl
theorem wm_2658 : (Jvm.Cond.instanceMethod ({ cls := "MixBoothModel", name := "isSound", desc := "()Z" } : Jvm.MethodName)) ∈ wt := wt_of 2658 (by decide +kernel) rfl
theorem wm_2659 : (Jvm.Cond.selects "MixBoothModel" ({ cls := "MixBoothModel", name := "isSound", desc := "()Z" } : Jvm.MethodName) ({ cls := "MixBoothModel", name := "isSound", desc := "()Z" } : Jvm.MethodName)) ∈ wt := wt_of 2659 (by decide +kernel) rfl
theorem wm_2660 : (Jvm.Cond.code ({ cls := "MixBoothModel", name := "isSound", desc := "()Z" } : Jvm.MethodName) prog_13_method_87_code (1 : Nat) (Option.some Jvm.ClassFile.FieldType.boolean)) ∈ wt := wt_of 2660 (by decide +kernel) rfl
theorem wm_2661 : (Jvm.Cond.arrayClass Jvm.ClassFile.FieldType.long) ∈ wt := wt_of 2661 (by decide +kernel) rfl
theorem wm_2662 : (Jvm.Cond.arrayClass Jvm.ClassFile.FieldType.double) ∈ wt := wt_of 2662 (by decide +kernel) rfl
theorem wm_2663 : (Jvm.Cond.sameMethod "java/lang/Throwable" "java/lang/Throwable" "fillInStackTrace" "(I)Ljava/lang/Throwable;") ∈ wt := wt_of 2663 (by decide +kernel) rfl
theorem wm_2664 : (Jvm.Cond.sameMethod "java/lang/AbstractStringBuilder" "java/lang/AbstractStringBuilder" "append" "(Ljava/lang/String;)Ljava/lang/AbstractStringBuilder;") ∈ wt := wt_of 2664 (by decide +kernel) rfl
theorem wm_2665 : (Jvm.Cond.sameMethod "java/lang/AbstractStringBuilder" "java/lang/AbstractStringBuilder" "appendNull" "()Ljava/lang/AbstractStringBuilder;") ∈ wt := wt_of 2665 (by decide +kernel) rfl
theorem wm_2666 : (Jvm.Cond.sameMethod "java/lang/AbstractStringBuilder" "java/lang/AbstractStringBuilder" "ensureCapacityInternal" "(I)V") ∈ wt := wt_of 2666 (by decide +kernel) rfl
theorem wm_2667 : (Jvm.Cond.sameMethod "java/lang/AbstractStringBuilder" "java/lang/AbstractStringBuilder" "newCapacity" "(I)I") ∈ wt := wt_of 2667 (by decide +kernel) rfl
theorem wm_2668 : (Jvm.Cond.sameMethod "java/lang/AbstractStringBuilder" "java/lang/AbstractStringBuilder" "putStringAt" "(ILjava/lang/String;)V") ∈ wt := wt_of 2668 (by decide +kernel) rfl
theorem wm_2669 : (Jvm.Cond.sameMethod "java/lang/AbstractStringBuilder" "java/lang/AbstractStringBuilder" "inflateIfNeededFor" "(Ljava/lang/String;)V") ∈ wt := wt_of 2669 (by decide +kernel) rfl
theorem wm_2670 : (Jvm.Cond.sameMethod "java/lang/AbstractStringBuilder" "java/lang/AbstractStringBuilder" "inflate" "()V") ∈ wt := wt_of 2670 (by decide +kernel) rfl
theorem wm_2671 : (Jvm.Cond.sameMethod "java/lang/AbstractStringBuilder" "java/lang/AbstractStringBuilder" "append" "(C)Ljava/lang/AbstractStringBuilder;") ∈ wt := wt_of 2671 (by decide +kernel) rfl
theorem wm_2672 : (Jvm.Cond.sameMethod "java/lang/AbstractStringBuilder" "java/lang/AbstractStringBuilder" "append" "(I)Ljava/lang/AbstractStringBuilder;") ∈ wt := wt_of 2672 (by decide +kernel) rfl
theorem wm_2673 : (Jvm.Cond.castable "java/lang/ArrayIndexOutOfBoundsException" "java/lang/IndexOutOfBoundsException") ∈ wt := wt_of 2673 (by decide +kernel) rfl
theorem wm_2674 : (Jvm.Cond.castable "MixBooth$Disc" "java/lang/Object") ∈ wt := wt_of 2674 (by decide +kernel) rfl
theorem wm_2675 : (Jvm.Cond.castable "MixBooth$Deck" "java/lang/Object") ∈ wt := wt_of 2675 (by decide +kernel) rfl
theorem wm_2676 : (Jvm.Cond.castable "MixBooth$Effect" "java/lang/Object") ∈ wt := wt_of 2676 (by decide +kernel) rfl
theorem wm_2677 : (Jvm.Cond.castable "MixBoothModel$Deck" "java/lang/Object") ∈ wt := wt_of 2677 (by decide +kernel) rfl
theorem wm_2678 : (Jvm.Cond.castable "MixBooth" "java/lang/Object") ∈ wt := wt_of 2678 (by decide +kernel) rfl
theorem wm_2679 : (Jvm.Cond.castable "MixBooth$Night" "java/lang/Object") ∈ wt := wt_of 2679 (by decide +kernel) rfl
theorem wm_2680 : (Jvm.Cond.castable "MixBooth$Channel" "java/lang/Object") ∈ wt := wt_of 2680 (by decide +kernel) rfl
theorem wm_2681 : (Jvm.Cond.castable "MixBooth$Floor" "java/lang/Object") ∈ wt := wt_of 2681 (by decide +kernel) rfl
theorem wm_2682 : (Jvm.Cond.castable "MixBooth$Law" "java/lang/Object") ∈ wt := wt_of 2682 (by decide +kernel) rfl
theorem wm_2683 : (Jvm.Cond.castable "MixBooth$Log" "java/lang/Object") ∈ wt := wt_of 2683 (by decide +kernel) rfl
theorem wm_2684 : (Jvm.Cond.castable "MixBooth$Moves" "java/lang/Object") ∈ wt := wt_of 2684 (by decide +kernel) rfl
theorem wm_2685 : (Jvm.Cond.castable "MixBooth$Search" "java/lang/Object") ∈ wt := wt_of 2685 (by decide +kernel) rfl
theorem wm_2686 : (Jvm.Cond.castable "MixBoothModel" "java/lang/Object") ∈ wt := wt_of 2686 (by decide +kernel) rfl
theorem wm_2687 : (Jvm.Cond.castable "java/util/ArrayList" "java/lang/Object") ∈ wt := wt_of 2687 (by decide +kernel) rfl
theorem wm_2688 : (Jvm.Cond.castable "java/lang/IllegalArgumentException" "java/lang/Object") ∈ wt := wt_of 2688 (by decide +kernel) rfl
theorem wm_2689 : (Jvm.Cond.castable "java/lang/IllegalStateException" "java/lang/Object") ∈ wt := wt_of 2689 (by decide +kernel) rfl
theorem wm_2690 : (Jvm.Cond.castable "MixBoothModel$Disc" "java/lang/Object") ∈ wt := wt_of 2690 (by decide +kernel) rfl
theorem wm_2691 : (Jvm.Cond.castable "java/lang/ArrayIndexOutOfBoundsException" "java/lang/Object") ∈ wt := wt_of 2691 (by decide +kernel) rfl
theorem wm_2692 : (Jvm.Cond.castable "java/lang/IndexOutOfBoundsException" "java/lang/Object") ∈ wt := wt_of 2692 (by decide +kernel) rfl
theorem wm_2693 : (Jvm.Cond.castable "java/lang/UnsupportedOperationException" "java/lang/Object") ∈ wt := wt_of 2693 (by decide +kernel) rfl
theorem wm_2694 : (Jvm.Cond.castable "java/util/NoSuchElementException" "java/lang/Object") ∈ wt := wt_of 2694 (by decide +kernel) rfl
theorem wm_2695 : (Jvm.Cond.castable "java/util/ArrayList$Itr" "java/lang/Object") ∈ wt := wt_of 2695 (by decide +kernel) rfl
theorem wm_2696 : (Jvm.Cond.castable "java/lang/StringBuilder" "java/lang/Object") ∈ wt := wt_of 2696 (by decide +kernel) rfl
theorem wm_2697 : (Jvm.Cond.castable "java/lang/String" "java/lang/Object") ∈ wt := wt_of 2697 (by decide +kernel) rfl
theorem wm_2698 : (Jvm.Cond.castable "java/lang/ArithmeticException" "java/lang/Object") ∈ wt := wt_of 2698 (by decide +kernel) rfl
theorem wm_2699 : (Jvm.Cond.castable "java/lang/Throwable" "java/lang/Object") ∈ wt := wt_of 2699 (by decide +kernel) rfl
theorem wm_2700 : (Jvm.Cond.sameMethod "[Ljava/lang/Object;" "java/lang/Object" "getClass" "()Ljava/lang/Class;") ∈ wt := wt_of 2700 (by decide +kernel) rfl
theorem wm_2701 : (Jvm.Cond.selects "[Ljava/lang/Object;" ({ cls := "java/lang/Object", name := "getClass", desc := "()Ljava/lang/Class;" } : Jvm.MethodName) ({ cls := "java/lang/Object", name := "getClass", desc := "()Ljava/lang/Class;" } : Jvm.MethodName)) ∈ wt := wt_of 2701 (by decide +kernel) rfl
theorem wm_2702 : (Jvm.Cond.declares ({ cls := "java/lang/Object", name := "getClass", desc := "()Ljava/lang/Class;" } : Jvm.MethodName)) ∈ wt := wt_of 2702 (by decide +kernel) rfl
theorem wm_2703 : (Jvm.Cond.castable "[LMixBooth$Disc;" "java/lang/Object") ∈ wt := wt_of 2703 (by decide +kernel) rfl
theorem wm_2704 : (Jvm.Cond.castable "[LMixBooth$Deck;" "java/lang/Object") ∈ wt := wt_of 2704 (by decide +kernel) rfl
theorem wm_2705 : (Jvm.Cond.castable "[LMixBooth$Effect;" "java/lang/Object") ∈ wt := wt_of 2705 (by decide +kernel) rfl
theorem wm_2706 : (Jvm.Cond.castable "[I" "java/lang/Object") ∈ wt := wt_of 2706 (by decide +kernel) rfl
theorem wm_2707 : (Jvm.Cond.castable "[C" "java/lang/Object") ∈ wt := wt_of 2707 (by decide +kernel) rfl
theorem wm_2708 : (Jvm.Cond.castable "[B" "java/lang/Object") ∈ wt := wt_of 2708 (by decide +kernel) rfl
theorem wm_2709 : (Jvm.Cond.castable "[LMixBoothModel$Deck;" "java/lang/Object") ∈ wt := wt_of 2709 (by decide +kernel) rfl
theorem wm_2710 : (Jvm.Cond.castable "[Ljava/lang/Object;" "java/lang/Object") ∈ wt := wt_of 2710 (by decide +kernel) rfl
theorem wm_2711 : (Jvm.Cond.castable "[Z" "java/lang/Object") ∈ wt := wt_of 2711 (by decide +kernel) rfl
theorem wm_2712 : (Jvm.Cond.castable "[J" "java/lang/Object") ∈ wt := wt_of 2712 (by decide +kernel) rfl
theorem wm_2713 : (Jvm.Cond.castable "[D" "java/lang/Object") ∈ wt := wt_of 2713 (by decide +kernel) rfl
