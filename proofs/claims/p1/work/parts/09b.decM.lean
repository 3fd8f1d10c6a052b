theorem dX11_init_0 : decode cX11_init 0 = .ok (.aload_n 0, 1) := by decide +kernel
theorem dX11_init_1 : decode cX11_init 1 = .ok (.invokespecial 3, 3) := by decide +kernel
theorem dX11_init_4 : decode cX11_init 4 = .ok (.aload_n 0, 1) := by decide +kernel
theorem dX11_init_5 : decode cX11_init 5 = .ok (.iconst (-1), 1) := by decide +kernel
theorem dX11_init_6 : decode cX11_init 6 = .ok (.putfield 9, 3) := by decide +kernel
theorem dX11_init_9 : decode cX11_init 9 = .ok (.aload_n 0, 1) := by decide +kernel
theorem dX11_init_10 : decode cX11_init 10 = .ok (.iconst (-1), 1) := by decide +kernel
theorem dX11_init_11 : decode cX11_init 11 = .ok (.putfield 15, 3) := by decide +kernel
theorem dX11_init_14 : decode cX11_init 14 = .ok (.aload_n 0, 1) := by decide +kernel
theorem dX11_init_15 : decode cX11_init 15 = .ok (.iconst 3, 1) := by decide +kernel
theorem dX11_init_16 : decode cX11_init 16 = .ok (.newarray .int, 2) := by decide +kernel
theorem dX11_init_18 : decode cX11_init 18 = .ok (.dup, 1) := by decide +kernel
theorem dX11_init_19 : decode cX11_init 19 = .ok (.iconst 0, 1) := by decide +kernel
theorem dX11_init_20 : decode cX11_init 20 = .ok (.bipush 100, 2) := by decide +kernel
theorem dX11_init_22 : decode cX11_init 22 = .ok (.iastore, 1) := by decide +kernel
theorem dX11_init_23 : decode cX11_init 23 = .ok (.dup, 1) := by decide +kernel
theorem dX11_init_24 : decode cX11_init 24 = .ok (.iconst 1, 1) := by decide +kernel
theorem dX11_init_25 : decode cX11_init 25 = .ok (.bipush 100, 2) := by decide +kernel
theorem dX11_init_27 : decode cX11_init 27 = .ok (.iastore, 1) := by decide +kernel
theorem dX11_init_28 : decode cX11_init 28 = .ok (.dup, 1) := by decide +kernel
theorem dX11_init_29 : decode cX11_init 29 = .ok (.iconst 2, 1) := by decide +kernel
theorem dX11_init_30 : decode cX11_init 30 = .ok (.bipush 100, 2) := by decide +kernel
theorem dX11_init_32 : decode cX11_init 32 = .ok (.iastore, 1) := by decide +kernel
theorem dX11_init_33 : decode cX11_init 33 = .ok (.putfield 18, 3) := by decide +kernel
theorem dX11_init_36 : decode cX11_init 36 = .ok (.aload_n 0, 1) := by decide +kernel
theorem dX11_init_37 : decode cX11_init 37 = .ok (.iconst 4, 1) := by decide +kernel
theorem dX11_init_38 : decode cX11_init 38 = .ok (.newarray .int, 2) := by decide +kernel
theorem dX11_init_40 : decode cX11_init 40 = .ok (.dup, 1) := by decide +kernel
theorem dX11_init_41 : decode cX11_init 41 = .ok (.iconst 0, 1) := by decide +kernel
theorem dX11_init_42 : decode cX11_init 42 = .ok (.iconst (-1), 1) := by decide +kernel
theorem dX11_init_43 : decode cX11_init 43 = .ok (.iastore, 1) := by decide +kernel
theorem dX11_init_44 : decode cX11_init 44 = .ok (.dup, 1) := by decide +kernel
theorem dX11_init_45 : decode cX11_init 45 = .ok (.iconst 1, 1) := by decide +kernel
theorem dX11_init_46 : decode cX11_init 46 = .ok (.iconst (-1), 1) := by decide +kernel
theorem dX11_init_47 : decode cX11_init 47 = .ok (.iastore, 1) := by decide +kernel
theorem dX11_init_48 : decode cX11_init 48 = .ok (.dup, 1) := by decide +kernel
theorem dX11_init_49 : decode cX11_init 49 = .ok (.iconst 2, 1) := by decide +kernel
theorem dX11_init_50 : decode cX11_init 50 = .ok (.iconst (-1), 1) := by decide +kernel
theorem dX11_init_51 : decode cX11_init 51 = .ok (.iastore, 1) := by decide +kernel
theorem dX11_init_52 : decode cX11_init 52 = .ok (.dup, 1) := by decide +kernel
theorem dX11_init_53 : decode cX11_init 53 = .ok (.iconst 3, 1) := by decide +kernel
theorem dX11_init_54 : decode cX11_init 54 = .ok (.iconst (-1), 1) := by decide +kernel
theorem dX11_init_55 : decode cX11_init 55 = .ok (.iastore, 1) := by decide +kernel
theorem dX11_init_56 : decode cX11_init 56 = .ok (.putfield 22, 3) := by decide +kernel
theorem dX11_init_59 : decode cX11_init 59 = .ok (.aload_n 0, 1) := by decide +kernel
theorem dX11_init_60 : decode cX11_init 60 = .ok (.new 25, 3) := by decide +kernel
theorem dX11_init_63 : decode cX11_init 63 = .ok (.dup, 1) := by decide +kernel
theorem dX11_init_64 : decode cX11_init 64 = .ok (.invokespecial 27, 3) := by decide +kernel
theorem dX11_init_67 : decode cX11_init 67 = .ok (.putfield 28, 3) := by decide +kernel
theorem dX11_init_70 : decode cX11_init 70 = .ok (.aload_n 0, 1) := by decide +kernel
theorem dX11_init_71 : decode cX11_init 71 = .ok (.bipush 109, 2) := by decide +kernel
theorem dX11_init_73 : decode cX11_init 73 = .ok (.putfield 32, 3) := by decide +kernel
theorem dX11_init_76 : decode cX11_init 76 = .ok (.return_, 1) := by decide +kernel
theorem dX11_like_0 : decode cX11_like 0 = .ok (.new 10, 3) := by decide +kernel
theorem dX11_like_3 : decode cX11_like 3 = .ok (.dup, 1) := by decide +kernel
theorem dX11_like_4 : decode cX11_like 4 = .ok (.invokespecial 36, 3) := by decide +kernel
theorem dX11_like_7 : decode cX11_like 7 = .ok (.astore_n 1, 1) := by decide +kernel
theorem dX11_like_8 : decode cX11_like 8 = .ok (.aload_n 1, 1) := by decide +kernel
theorem dX11_like_9 : decode cX11_like 9 = .ok (.aload_n 0, 1) := by decide +kernel
theorem dX11_like_10 : decode cX11_like 10 = .ok (.invokevirtual 37, 3) := by decide +kernel
theorem dX11_like_13 : decode cX11_like 13 = .ok (.aload_n 1, 1) := by decide +kernel
theorem dX11_like_14 : decode cX11_like 14 = .ok (.areturn, 1) := by decide +kernel
theorem dX11_takes_0 : decode cX11_takes 0 = .ok (.aload_n 0, 1) := by decide +kernel
theorem dX11_takes_1 : decode cX11_takes 1 = .ok (.aload_n 1, 1) := by decide +kernel
theorem dX11_takes_2 : decode cX11_takes 2 = .ok (.getfield 41, 3) := by decide +kernel
theorem dX11_takes_5 : decode cX11_takes 5 = .ok (.putfield 41, 3) := by decide +kernel
theorem dX11_takes_8 : decode cX11_takes 8 = .ok (.aload_n 0, 1) := by decide +kernel
theorem dX11_takes_9 : decode cX11_takes 9 = .ok (.aload_n 1, 1) := by decide +kernel
theorem dX11_takes_10 : decode cX11_takes 10 = .ok (.getfield 9, 3) := by decide +kernel
theorem dX11_takes_13 : decode cX11_takes 13 = .ok (.putfield 9, 3) := by decide +kernel
theorem dX11_takes_16 : decode cX11_takes 16 = .ok (.aload_n 0, 1) := by decide +kernel
theorem dX11_takes_17 : decode cX11_takes 17 = .ok (.aload_n 1, 1) := by decide +kernel
theorem dX11_takes_18 : decode cX11_takes 18 = .ok (.getfield 45, 3) := by decide +kernel
theorem dX11_takes_21 : decode cX11_takes 21 = .ok (.putfield 45, 3) := by decide +kernel
theorem dX11_takes_24 : decode cX11_takes 24 = .ok (.aload_n 0, 1) := by decide +kernel
theorem dX11_takes_25 : decode cX11_takes 25 = .ok (.aload_n 1, 1) := by decide +kernel
theorem dX11_takes_26 : decode cX11_takes 26 = .ok (.getfield 48, 3) := by decide +kernel
theorem dX11_takes_29 : decode cX11_takes 29 = .ok (.putfield 48, 3) := by decide +kernel
theorem dX11_takes_32 : decode cX11_takes 32 = .ok (.aload_n 0, 1) := by decide +kernel
theorem dX11_takes_33 : decode cX11_takes 33 = .ok (.aload_n 1, 1) := by decide +kernel
theorem dX11_takes_34 : decode cX11_takes 34 = .ok (.getfield 15, 3) := by decide +kernel
theorem dX11_takes_37 : decode cX11_takes 37 = .ok (.putfield 15, 3) := by decide +kernel
theorem dX11_takes_40 : decode cX11_takes 40 = .ok (.aload_n 0, 1) := by decide +kernel
theorem dX11_takes_41 : decode cX11_takes 41 = .ok (.aload_n 1, 1) := by decide +kernel
theorem dX11_takes_42 : decode cX11_takes 42 = .ok (.getfield 51, 3) := by decide +kernel
theorem dX11_takes_45 : decode cX11_takes 45 = .ok (.putfield 51, 3) := by decide +kernel
theorem dX11_takes_48 : decode cX11_takes 48 = .ok (.aload_n 0, 1) := by decide +kernel
theorem dX11_takes_49 : decode cX11_takes 49 = .ok (.aload_n 1, 1) := by decide +kernel
theorem dX11_takes_50 : decode cX11_takes 50 = .ok (.getfield 54, 3) := by decide +kernel
theorem dX11_takes_53 : decode cX11_takes 53 = .ok (.putfield 54, 3) := by decide +kernel
theorem dX11_takes_56 : decode cX11_takes 56 = .ok (.aload_n 0, 1) := by decide +kernel
theorem dX11_takes_57 : decode cX11_takes 57 = .ok (.aload_n 1, 1) := by decide +kernel
theorem dX11_takes_58 : decode cX11_takes 58 = .ok (.getfield 58, 3) := by decide +kernel
theorem dX11_takes_61 : decode cX11_takes 61 = .ok (.putfield 58, 3) := by decide +kernel
theorem dX11_takes_64 : decode cX11_takes 64 = .ok (.aload_n 0, 1) := by decide +kernel
theorem dX11_takes_65 : decode cX11_takes 65 = .ok (.aload_n 1, 1) := by decide +kernel
theorem dX11_takes_66 : decode cX11_takes 66 = .ok (.getfield 61, 3) := by decide +kernel
theorem dX11_takes_69 : decode cX11_takes 69 = .ok (.putfield 61, 3) := by decide +kernel
theorem dX11_takes_72 : decode cX11_takes 72 = .ok (.aload_n 0, 1) := by decide +kernel
theorem dX11_takes_73 : decode cX11_takes 73 = .ok (.aload_n 1, 1) := by decide +kernel
theorem dX11_takes_74 : decode cX11_takes 74 = .ok (.getfield 64, 3) := by decide +kernel
theorem dX11_takes_77 : decode cX11_takes 77 = .ok (.putfield 64, 3) := by decide +kernel
theorem dX11_takes_80 : decode cX11_takes 80 = .ok (.aload_n 0, 1) := by decide +kernel
theorem dX11_takes_81 : decode cX11_takes 81 = .ok (.aload_n 1, 1) := by decide +kernel
theorem dX11_takes_82 : decode cX11_takes 82 = .ok (.getfield 67, 3) := by decide +kernel
theorem dX11_takes_85 : decode cX11_takes 85 = .ok (.putfield 67, 3) := by decide +kernel
theorem dX11_takes_88 : decode cX11_takes 88 = .ok (.aload_n 0, 1) := by decide +kernel
theorem dX11_takes_89 : decode cX11_takes 89 = .ok (.aload_n 1, 1) := by decide +kernel
theorem dX11_takes_90 : decode cX11_takes 90 = .ok (.getfield 71, 3) := by decide +kernel
theorem dX11_takes_93 : decode cX11_takes 93 = .ok (.putfield 71, 3) := by decide +kernel
theorem dX11_takes_96 : decode cX11_takes 96 = .ok (.aload_n 1, 1) := by decide +kernel
theorem dX11_takes_97 : decode cX11_takes 97 = .ok (.getfield 22, 3) := by decide +kernel
theorem dX11_takes_100 : decode cX11_takes 100 = .ok (.iconst 0, 1) := by decide +kernel
theorem dX11_takes_101 : decode cX11_takes 101 = .ok (.aload_n 0, 1) := by decide +kernel
theorem dX11_takes_102 : decode cX11_takes 102 = .ok (.getfield 22, 3) := by decide +kernel
theorem dX11_takes_105 : decode cX11_takes 105 = .ok (.iconst 0, 1) := by decide +kernel
theorem dX11_takes_106 : decode cX11_takes 106 = .ok (.iconst 4, 1) := by decide +kernel
theorem dX11_takes_107 : decode cX11_takes 107 = .ok (.invokestatic 74, 3) := by decide +kernel
theorem dX11_takes_110 : decode cX11_takes 110 = .ok (.return_, 1) := by decide +kernel
theorem dX11_empties_0 : decode cX11_empties 0 = .ok (.aload_n 0, 1) := by decide +kernel
theorem dX11_empties_1 : decode cX11_empties 1 = .ok (.aconst_null, 1) := by decide +kernel
theorem dX11_empties_2 : decode cX11_empties 2 = .ok (.putfield 41, 3) := by decide +kernel
theorem dX11_empties_5 : decode cX11_empties 5 = .ok (.aload_n 0, 1) := by decide +kernel
theorem dX11_empties_6 : decode cX11_empties 6 = .ok (.iconst (-1), 1) := by decide +kernel
theorem dX11_empties_7 : decode cX11_empties 7 = .ok (.putfield 9, 3) := by decide +kernel
theorem dX11_empties_10 : decode cX11_empties 10 = .ok (.aload_n 0, 1) := by decide +kernel
theorem dX11_empties_11 : decode cX11_empties 11 = .ok (.invokevirtual 80, 3) := by decide +kernel
theorem dX11_empties_14 : decode cX11_empties 14 = .ok (.return_, 1) := by decide +kernel
theorem dX11_anew_0 : decode cX11_anew 0 = .ok (.aload_n 0, 1) := by decide +kernel
theorem dX11_anew_1 : decode cX11_anew 1 = .ok (.lconst 0, 1) := by decide +kernel
theorem dX11_anew_2 : decode cX11_anew 2 = .ok (.putfield 54, 3) := by decide +kernel
theorem dX11_anew_5 : decode cX11_anew 5 = .ok (.aload_n 0, 1) := by decide +kernel
theorem dX11_anew_6 : decode cX11_anew 6 = .ok (.lconst 0, 1) := by decide +kernel
theorem dX11_anew_7 : decode cX11_anew 7 = .ok (.putfield 58, 3) := by decide +kernel
theorem dX11_anew_10 : decode cX11_anew 10 = .ok (.aload_n 0, 1) := by decide +kernel
theorem dX11_anew_11 : decode cX11_anew 11 = .ok (.lconst 0, 1) := by decide +kernel
theorem dX11_anew_12 : decode cX11_anew 12 = .ok (.putfield 64, 3) := by decide +kernel
theorem dX11_anew_15 : decode cX11_anew 15 = .ok (.aload_n 0, 1) := by decide +kernel
theorem dX11_anew_16 : decode cX11_anew 16 = .ok (.iconst 0, 1) := by decide +kernel
theorem dX11_anew_17 : decode cX11_anew 17 = .ok (.putfield 48, 3) := by decide +kernel
theorem dX11_anew_20 : decode cX11_anew 20 = .ok (.aload_n 0, 1) := by decide +kernel
theorem dX11_anew_21 : decode cX11_anew 21 = .ok (.iconst (-1), 1) := by decide +kernel
theorem dX11_anew_22 : decode cX11_anew 22 = .ok (.putfield 15, 3) := by decide +kernel
theorem dX11_anew_25 : decode cX11_anew 25 = .ok (.aload_n 0, 1) := by decide +kernel
theorem dX11_anew_26 : decode cX11_anew 26 = .ok (.iconst 0, 1) := by decide +kernel
theorem dX11_anew_27 : decode cX11_anew 27 = .ok (.putfield 67, 3) := by decide +kernel
theorem dX11_anew_30 : decode cX11_anew 30 = .ok (.aload_n 0, 1) := by decide +kernel
theorem dX11_anew_31 : decode cX11_anew 31 = .ok (.iconst 0, 1) := by decide +kernel
theorem dX11_anew_32 : decode cX11_anew 32 = .ok (.putfield 71, 3) := by decide +kernel
theorem dX11_anew_35 : decode cX11_anew 35 = .ok (.iconst 0, 1) := by decide +kernel
theorem dX11_anew_36 : decode cX11_anew 36 = .ok (.istore_n 1, 1) := by decide +kernel
theorem dX11_anew_37 : decode cX11_anew 37 = .ok (.iload_n 1, 1) := by decide +kernel
theorem dX11_anew_38 : decode cX11_anew 38 = .ok (.iconst 4, 1) := by decide +kernel
theorem dX11_anew_39 : decode cX11_anew 39 = .ok (.if_icmp .ge 16, 3) := by decide +kernel
theorem dX11_anew_42 : decode cX11_anew 42 = .ok (.aload_n 0, 1) := by decide +kernel
theorem dX11_anew_43 : decode cX11_anew 43 = .ok (.getfield 22, 3) := by decide +kernel
theorem dX11_anew_46 : decode cX11_anew 46 = .ok (.iload_n 1, 1) := by decide +kernel
theorem dX11_anew_47 : decode cX11_anew 47 = .ok (.iconst (-1), 1) := by decide +kernel
theorem dX11_anew_48 : decode cX11_anew 48 = .ok (.iastore, 1) := by decide +kernel
theorem dX11_anew_49 : decode cX11_anew 49 = .ok (.iinc 1 1, 3) := by decide +kernel
theorem dX11_anew_52 : decode cX11_anew 52 = .ok (.goto (-15), 3) := by decide +kernel
theorem dX11_anew_55 : decode cX11_anew 55 = .ok (.return_, 1) := by decide +kernel
theorem dX11_beat_0 : decode cX11_beat 0 = .ok (.aload_n 0, 1) := by decide +kernel
theorem dX11_beat_1 : decode cX11_beat 1 = .ok (.getfield 54, 3) := by decide +kernel
theorem dX11_beat_4 : decode cX11_beat 4 = .ok (.ldc2_w 83, 3) := by decide +kernel
theorem dX11_beat_7 : decode cX11_beat 7 = .ok (.ldiv, 1) := by decide +kernel
theorem dX11_beat_8 : decode cX11_beat 8 = .ok (.l2i, 1) := by decide +kernel
theorem dX11_beat_9 : decode cX11_beat 9 = .ok (.ireturn, 1) := by decide +kernel
theorem dX11_goesOn_0 : decode cX11_goesOn 0 = .ok (.aload_n 0, 1) := by decide +kernel
theorem dX11_goesOn_1 : decode cX11_goesOn 1 = .ok (.getfield 67, 3) := by decide +kernel
theorem dX11_goesOn_4 : decode cX11_goesOn 4 = .ok (.ifCond .ne 4, 3) := by decide +kernel
theorem dX11_goesOn_7 : decode cX11_goesOn 7 = .ok (.return_, 1) := by decide +kernel
theorem dX11_goesOn_8 : decode cX11_goesOn 8 = .ok (.aload_n 0, 1) := by decide +kernel
theorem dX11_goesOn_9 : decode cX11_goesOn 9 = .ok (.getfield 41, 3) := by decide +kernel
theorem dX11_goesOn_12 : decode cX11_goesOn 12 = .ok (.getfield 85, 3) := by decide +kernel
theorem dX11_goesOn_15 : decode cX11_goesOn 15 = .ok (.i2l, 1) := by decide +kernel
theorem dX11_goesOn_16 : decode cX11_goesOn 16 = .ok (.sipush 1000, 3) := by decide +kernel
theorem dX11_goesOn_19 : decode cX11_goesOn 19 = .ok (.aload_n 0, 1) := by decide +kernel
theorem dX11_goesOn_20 : decode cX11_goesOn 20 = .ok (.getfield 45, 3) := by decide +kernel
theorem dX11_goesOn_23 : decode cX11_goesOn 23 = .ok (.iadd, 1) := by decide +kernel
theorem dX11_goesOn_24 : decode cX11_goesOn 24 = .ok (.i2l, 1) := by decide +kernel
theorem dX11_goesOn_25 : decode cX11_goesOn 25 = .ok (.lmul, 1) := by decide +kernel
theorem dX11_goesOn_26 : decode cX11_goesOn 26 = .ok (.lstore_n 1, 1) := by decide +kernel
theorem dX11_goesOn_27 : decode cX11_goesOn 27 = .ok (.lload_n 1, 1) := by decide +kernel
theorem dX11_goesOn_28 : decode cX11_goesOn 28 = .ok (.aload_n 0, 1) := by decide +kernel
theorem dX11_goesOn_29 : decode cX11_goesOn 29 = .ok (.getfield 48, 3) := by decide +kernel
theorem dX11_goesOn_32 : decode cX11_goesOn 32 = .ok (.ifCond .le 11, 3) := by decide +kernel
theorem dX11_goesOn_35 : decode cX11_goesOn 35 = .ok (.lload_n 1, 1) := by decide +kernel
theorem dX11_goesOn_36 : decode cX11_goesOn 36 = .ok (.ldc2_w 90, 3) := by decide +kernel
theorem dX11_goesOn_39 : decode cX11_goesOn 39 = .ok (.ldiv, 1) := by decide +kernel
theorem dX11_goesOn_40 : decode cX11_goesOn 40 = .ok (.goto 20, 3) := by decide +kernel
theorem dX11_goesOn_43 : decode cX11_goesOn 43 = .ok (.aload_n 0, 1) := by decide +kernel
theorem dX11_goesOn_44 : decode cX11_goesOn 44 = .ok (.getfield 48, 3) := by decide +kernel
theorem dX11_goesOn_47 : decode cX11_goesOn 47 = .ok (.ifCond .ge 12, 3) := by decide +kernel
theorem dX11_goesOn_50 : decode cX11_goesOn 50 = .ok (.lload_n 1, 1) := by decide +kernel
theorem dX11_goesOn_51 : decode cX11_goesOn 51 = .ok (.ldc2_w 90, 3) := by decide +kernel
theorem dX11_goesOn_54 : decode cX11_goesOn 54 = .ok (.ldiv, 1) := by decide +kernel
theorem dX11_goesOn_55 : decode cX11_goesOn 55 = .ok (.lneg, 1) := by decide +kernel
theorem dX11_goesOn_56 : decode cX11_goesOn 56 = .ok (.goto 4, 3) := by decide +kernel
theorem dX11_goesOn_59 : decode cX11_goesOn 59 = .ok (.lconst 0, 1) := by decide +kernel
theorem dX11_goesOn_60 : decode cX11_goesOn 60 = .ok (.ladd, 1) := by decide +kernel
theorem dX11_goesOn_61 : decode cX11_goesOn 61 = .ok (.lstore_n 1, 1) := by decide +kernel
theorem dX11_goesOn_62 : decode cX11_goesOn 62 = .ok (.aload_n 0, 1) := by decide +kernel
theorem dX11_goesOn_63 : decode cX11_goesOn 63 = .ok (.dup, 1) := by decide +kernel
theorem dX11_goesOn_64 : decode cX11_goesOn 64 = .ok (.getfield 48, 3) := by decide +kernel
theorem dX11_goesOn_67 : decode cX11_goesOn 67 = .ok (.aload_n 0, 1) := by decide +kernel
theorem dX11_goesOn_68 : decode cX11_goesOn 68 = .ok (.getfield 48, 3) := by decide +kernel
theorem dX11_goesOn_71 : decode cX11_goesOn 71 = .ok (.invokestatic 92, 3) := by decide +kernel
theorem dX11_goesOn_74 : decode cX11_goesOn 74 = .ok (.isub, 1) := by decide +kernel
theorem dX11_goesOn_75 : decode cX11_goesOn 75 = .ok (.putfield 48, 3) := by decide +kernel
theorem dX11_goesOn_78 : decode cX11_goesOn 78 = .ok (.aload_n 0, 1) := by decide +kernel
theorem dX11_goesOn_79 : decode cX11_goesOn 79 = .ok (.getfield 15, 3) := by decide +kernel
theorem dX11_goesOn_82 : decode cX11_goesOn 82 = .ok (.iconst (-1), 1) := by decide +kernel
theorem dX11_goesOn_83 : decode cX11_goesOn 83 = .ok (.if_icmp .eq 25, 3) := by decide +kernel
theorem dX11_goesOn_86 : decode cX11_goesOn 86 = .ok (.lload_n 1, 1) := by decide +kernel
theorem dX11_goesOn_87 : decode cX11_goesOn 87 = .ok (.iconst 1, 1) := by decide +kernel
theorem dX11_goesOn_88 : decode cX11_goesOn 88 = .ok (.aload_n 0, 1) := by decide +kernel
theorem dX11_goesOn_89 : decode cX11_goesOn 89 = .ok (.getfield 15, 3) := by decide +kernel
theorem dX11_goesOn_92 : decode cX11_goesOn 92 = .ok (.bipush 10, 2) := by decide +kernel
theorem dX11_goesOn_94 : decode cX11_goesOn 94 = .ok (.idiv, 1) := by decide +kernel
theorem dX11_goesOn_95 : decode cX11_goesOn 95 = .ok (.iadd, 1) := by decide +kernel
theorem dX11_goesOn_96 : decode cX11_goesOn 96 = .ok (.lshr, 1) := by decide +kernel
theorem dX11_goesOn_97 : decode cX11_goesOn 97 = .ok (.lstore_n 1, 1) := by decide +kernel
theorem dX11_goesOn_98 : decode cX11_goesOn 98 = .ok (.aload_n 0, 1) := by decide +kernel
theorem dX11_goesOn_99 : decode cX11_goesOn 99 = .ok (.dup, 1) := by decide +kernel
theorem dX11_goesOn_100 : decode cX11_goesOn 100 = .ok (.getfield 15, 3) := by decide +kernel
theorem dX11_goesOn_103 : decode cX11_goesOn 103 = .ok (.iconst 1, 1) := by decide +kernel
theorem dX11_goesOn_104 : decode cX11_goesOn 104 = .ok (.iadd, 1) := by decide +kernel
theorem dX11_goesOn_105 : decode cX11_goesOn 105 = .ok (.putfield 15, 3) := by decide +kernel
theorem dX11_goesOn_108 : decode cX11_goesOn 108 = .ok (.aload_n 0, 1) := by decide +kernel
theorem dX11_goesOn_109 : decode cX11_goesOn 109 = .ok (.dup, 1) := by decide +kernel
theorem dX11_goesOn_110 : decode cX11_goesOn 110 = .ok (.getfield 54, 3) := by decide +kernel
theorem dX11_goesOn_113 : decode cX11_goesOn 113 = .ok (.lload_n 1, 1) := by decide +kernel
theorem dX11_goesOn_114 : decode cX11_goesOn 114 = .ok (.ladd, 1) := by decide +kernel
theorem dX11_goesOn_115 : decode cX11_goesOn 115 = .ok (.putfield 54, 3) := by decide +kernel
theorem dX11_goesOn_118 : decode cX11_goesOn 118 = .ok (.aload_n 0, 1) := by decide +kernel
theorem dX11_goesOn_119 : decode cX11_goesOn 119 = .ok (.getfield 64, 3) := by decide +kernel
theorem dX11_goesOn_122 : decode cX11_goesOn 122 = .ok (.lconst 0, 1) := by decide +kernel
theorem dX11_goesOn_123 : decode cX11_goesOn 123 = .ok (.lcmp, 1) := by decide +kernel
theorem dX11_goesOn_124 : decode cX11_goesOn 124 = .ok (.ifCond .le 31, 3) := by decide +kernel
theorem dX11_goesOn_127 : decode cX11_goesOn 127 = .ok (.aload_n 0, 1) := by decide +kernel
theorem dX11_goesOn_128 : decode cX11_goesOn 128 = .ok (.getfield 54, 3) := by decide +kernel
theorem dX11_goesOn_131 : decode cX11_goesOn 131 = .ok (.aload_n 0, 1) := by decide +kernel
theorem dX11_goesOn_132 : decode cX11_goesOn 132 = .ok (.getfield 61, 3) := by decide +kernel
theorem dX11_goesOn_135 : decode cX11_goesOn 135 = .ok (.lcmp, 1) := by decide +kernel
theorem dX11_goesOn_136 : decode cX11_goesOn 136 = .ok (.ifCond .lt 19, 3) := by decide +kernel
theorem dX11_goesOn_139 : decode cX11_goesOn 139 = .ok (.aload_n 0, 1) := by decide +kernel
theorem dX11_goesOn_140 : decode cX11_goesOn 140 = .ok (.dup, 1) := by decide +kernel
theorem dX11_goesOn_141 : decode cX11_goesOn 141 = .ok (.getfield 54, 3) := by decide +kernel
theorem dX11_goesOn_144 : decode cX11_goesOn 144 = .ok (.aload_n 0, 1) := by decide +kernel
theorem dX11_goesOn_145 : decode cX11_goesOn 145 = .ok (.getfield 64, 3) := by decide +kernel
theorem dX11_goesOn_148 : decode cX11_goesOn 148 = .ok (.lsub, 1) := by decide +kernel
theorem dX11_goesOn_149 : decode cX11_goesOn 149 = .ok (.putfield 54, 3) := by decide +kernel
theorem dX11_goesOn_152 : decode cX11_goesOn 152 = .ok (.goto (-34), 3) := by decide +kernel
theorem dX11_goesOn_155 : decode cX11_goesOn 155 = .ok (.aload_n 0, 1) := by decide +kernel
theorem dX11_goesOn_156 : decode cX11_goesOn 156 = .ok (.aload_n 0, 1) := by decide +kernel
theorem dX11_goesOn_157 : decode cX11_goesOn 157 = .ok (.getfield 58, 3) := by decide +kernel
theorem dX11_goesOn_160 : decode cX11_goesOn 160 = .ok (.lload_n 1, 1) := by decide +kernel
theorem dX11_goesOn_161 : decode cX11_goesOn 161 = .ok (.ladd, 1) := by decide +kernel
theorem dX11_goesOn_162 : decode cX11_goesOn 162 = .ok (.aload_n 0, 1) := by decide +kernel
theorem dX11_goesOn_163 : decode cX11_goesOn 163 = .ok (.getfield 41, 3) := by decide +kernel
theorem dX11_goesOn_166 : decode cX11_goesOn 166 = .ok (.invokevirtual 98, 3) := by decide +kernel
theorem dX11_goesOn_169 : decode cX11_goesOn 169 = .ok (.invokestatic 102, 3) := by decide +kernel
theorem dX11_goesOn_172 : decode cX11_goesOn 172 = .ok (.putfield 58, 3) := by decide +kernel
theorem dX11_goesOn_175 : decode cX11_goesOn 175 = .ok (.aload_n 0, 1) := by decide +kernel
theorem dX11_goesOn_176 : decode cX11_goesOn 176 = .ok (.getfield 54, 3) := by decide +kernel
theorem dX11_goesOn_179 : decode cX11_goesOn 179 = .ok (.aload_n 0, 1) := by decide +kernel
theorem dX11_goesOn_180 : decode cX11_goesOn 180 = .ok (.getfield 41, 3) := by decide +kernel
theorem dX11_goesOn_183 : decode cX11_goesOn 183 = .ok (.invokevirtual 98, 3) := by decide +kernel
theorem dX11_goesOn_186 : decode cX11_goesOn 186 = .ok (.lcmp, 1) := by decide +kernel
theorem dX11_goesOn_187 : decode cX11_goesOn 187 = .ok (.ifCond .le 18, 3) := by decide +kernel
theorem dX11_goesOn_190 : decode cX11_goesOn 190 = .ok (.aload_n 0, 1) := by decide +kernel
theorem dX11_goesOn_191 : decode cX11_goesOn 191 = .ok (.aload_n 0, 1) := by decide +kernel
theorem dX11_goesOn_192 : decode cX11_goesOn 192 = .ok (.getfield 41, 3) := by decide +kernel
theorem dX11_goesOn_195 : decode cX11_goesOn 195 = .ok (.invokevirtual 98, 3) := by decide +kernel
theorem dX11_goesOn_198 : decode cX11_goesOn 198 = .ok (.putfield 54, 3) := by decide +kernel
theorem dX11_goesOn_201 : decode cX11_goesOn 201 = .ok (.aload_n 0, 1) := by decide +kernel
theorem dX11_goesOn_202 : decode cX11_goesOn 202 = .ok (.invokevirtual 108, 3) := by decide +kernel
theorem dX11_goesOn_205 : decode cX11_goesOn 205 = .ok (.aload_n 0, 1) := by decide +kernel
theorem dX11_goesOn_206 : decode cX11_goesOn 206 = .ok (.getfield 15, 3) := by decide +kernel
theorem dX11_goesOn_209 : decode cX11_goesOn 209 = .ok (.bipush 50, 2) := by decide +kernel
theorem dX11_goesOn_211 : decode cX11_goesOn 211 = .ok (.if_icmp .ne 7, 3) := by decide +kernel
theorem dX11_goesOn_214 : decode cX11_goesOn 214 = .ok (.aload_n 0, 1) := by decide +kernel
theorem dX11_goesOn_215 : decode cX11_goesOn 215 = .ok (.invokevirtual 108, 3) := by decide +kernel
theorem dX11_goesOn_218 : decode cX11_goesOn 218 = .ok (.return_, 1) := by decide +kernel
theorem dX11_stands_0 : decode cX11_stands 0 = .ok (.aload_n 0, 1) := by decide +kernel
theorem dX11_stands_1 : decode cX11_stands 1 = .ok (.iconst 0, 1) := by decide +kernel
theorem dX11_stands_2 : decode cX11_stands 2 = .ok (.putfield 67, 3) := by decide +kernel
theorem dX11_stands_5 : decode cX11_stands 5 = .ok (.aload_n 0, 1) := by decide +kernel
theorem dX11_stands_6 : decode cX11_stands 6 = .ok (.iconst (-1), 1) := by decide +kernel
theorem dX11_stands_7 : decode cX11_stands 7 = .ok (.putfield 15, 3) := by decide +kernel
theorem dX11_stands_10 : decode cX11_stands 10 = .ok (.return_, 1) := by decide +kernel
theorem dX11_begins_0 : decode cX11_begins 0 = .ok (.aload_n 0, 1) := by decide +kernel
theorem dX11_begins_1 : decode cX11_begins 1 = .ok (.getfield 67, 3) := by decide +kernel
theorem dX11_begins_4 : decode cX11_begins 4 = .ok (.istore_n 1, 1) := by decide +kernel
theorem dX11_begins_5 : decode cX11_begins 5 = .ok (.aload_n 0, 1) := by decide +kernel
theorem dX11_begins_6 : decode cX11_begins 6 = .ok (.getfield 54, 3) := by decide +kernel
theorem dX11_begins_9 : decode cX11_begins 9 = .ok (.aload_n 0, 1) := by decide +kernel
theorem dX11_begins_10 : decode cX11_begins 10 = .ok (.getfield 41, 3) := by decide +kernel
theorem dX11_begins_13 : decode cX11_begins 13 = .ok (.invokevirtual 98, 3) := by decide +kernel
theorem dX11_begins_16 : decode cX11_begins 16 = .ok (.lcmp, 1) := by decide +kernel
theorem dX11_begins_17 : decode cX11_begins 17 = .ok (.ifCond .lt 9, 3) := by decide +kernel
theorem dX11_begins_20 : decode cX11_begins 20 = .ok (.iload_n 1, 1) := by decide +kernel
theorem dX11_begins_21 : decode cX11_begins 21 = .ok (.ifCond .ne 5, 3) := by decide +kernel
theorem dX11_begins_24 : decode cX11_begins 24 = .ok (.iconst 0, 1) := by decide +kernel
theorem dX11_begins_25 : decode cX11_begins 25 = .ok (.ireturn, 1) := by decide +kernel
theorem dX11_begins_26 : decode cX11_begins 26 = .ok (.aload_n 0, 1) := by decide +kernel
theorem dX11_begins_27 : decode cX11_begins 27 = .ok (.iconst 1, 1) := by decide +kernel
theorem dX11_begins_28 : decode cX11_begins 28 = .ok (.putfield 67, 3) := by decide +kernel
theorem dX11_begins_31 : decode cX11_begins 31 = .ok (.aload_n 0, 1) := by decide +kernel
theorem dX11_begins_32 : decode cX11_begins 32 = .ok (.iconst (-1), 1) := by decide +kernel
theorem dX11_begins_33 : decode cX11_begins 33 = .ok (.putfield 15, 3) := by decide +kernel
theorem dX11_begins_36 : decode cX11_begins 36 = .ok (.iload_n 1, 1) := by decide +kernel
theorem dX11_begins_37 : decode cX11_begins 37 = .ok (.ifCond .ne 7, 3) := by decide +kernel
theorem dX11_begins_40 : decode cX11_begins 40 = .ok (.iconst 1, 1) := by decide +kernel
theorem dX11_begins_41 : decode cX11_begins 41 = .ok (.goto 4, 3) := by decide +kernel
theorem dX11_begins_44 : decode cX11_begins 44 = .ok (.iconst 0, 1) := by decide +kernel
theorem dX11_begins_45 : decode cX11_begins 45 = .ok (.ireturn, 1) := by decide +kernel
theorem dX11_has_0 : decode cX11_has 0 = .ok (.iload_n 1, 1) := by decide +kernel
theorem dX11_has_1 : decode cX11_has 1 = .ok (.aload_n 0, 1) := by decide +kernel
theorem dX11_has_2 : decode cX11_has 2 = .ok (.invokevirtual 111, 3) := by decide +kernel
theorem dX11_has_5 : decode cX11_has 5 = .ok (.aload_n 0, 1) := by decide +kernel
theorem dX11_has_6 : decode cX11_has 6 = .ok (.getfield 41, 3) := by decide +kernel
theorem dX11_has_9 : decode cX11_has 9 = .ok (.getfield 115, 3) := by decide +kernel
theorem dX11_has_12 : decode cX11_has 12 = .ok (.idiv, 1) := by decide +kernel
theorem dX11_has_13 : decode cX11_has 13 = .ok (.bipush 16, 2) := by decide +kernel
theorem dX11_has_15 : decode cX11_has 15 = .ok (.irem, 1) := by decide +kernel
theorem dX11_has_16 : decode cX11_has 16 = .ok (.ishr, 1) := by decide +kernel
theorem dX11_has_17 : decode cX11_has 17 = .ok (.iconst 1, 1) := by decide +kernel
theorem dX11_has_18 : decode cX11_has 18 = .ok (.iand, 1) := by decide +kernel
theorem dX11_has_19 : decode cX11_has 19 = .ok (.iconst 1, 1) := by decide +kernel
theorem dX11_has_20 : decode cX11_has 20 = .ok (.if_icmp .ne 7, 3) := by decide +kernel
theorem dX11_has_23 : decode cX11_has 23 = .ok (.iconst 1, 1) := by decide +kernel
theorem dX11_has_24 : decode cX11_has 24 = .ok (.goto 4, 3) := by decide +kernel
theorem dX11_has_27 : decode cX11_has 27 = .ok (.iconst 0, 1) := by decide +kernel
theorem dX11_has_28 : decode cX11_has 28 = .ok (.ireturn, 1) := by decide +kernel
theorem dX11_isHalf_0 : decode cX11_isHalf 0 = .ok (.aload_n 0, 1) := by decide +kernel
theorem dX11_isHalf_1 : decode cX11_isHalf 1 = .ok (.getfield 41, 3) := by decide +kernel
theorem dX11_isHalf_4 : decode cX11_isHalf 4 = .ok (.ifnull 22, 3) := by decide +kernel
theorem dX11_isHalf_7 : decode cX11_isHalf 7 = .ok (.aload_n 0, 1) := by decide +kernel
theorem dX11_isHalf_8 : decode cX11_isHalf 8 = .ok (.getfield 54, 3) := by decide +kernel
theorem dX11_isHalf_11 : decode cX11_isHalf 11 = .ok (.ldc2_w 83, 3) := by decide +kernel
theorem dX11_isHalf_14 : decode cX11_isHalf 14 = .ok (.lrem, 1) := by decide +kernel
theorem dX11_isHalf_15 : decode cX11_isHalf 15 = .ok (.ldc2_w 118, 3) := by decide +kernel
theorem dX11_isHalf_18 : decode cX11_isHalf 18 = .ok (.lcmp, 1) := by decide +kernel
theorem dX11_isHalf_19 : decode cX11_isHalf 19 = .ok (.ifCond .lt 7, 3) := by decide +kernel
theorem dX11_isHalf_22 : decode cX11_isHalf 22 = .ok (.iconst 1, 1) := by decide +kernel
theorem dX11_isHalf_23 : decode cX11_isHalf 23 = .ok (.goto 4, 3) := by decide +kernel
theorem dX11_isHalf_26 : decode cX11_isHalf 26 = .ok (.iconst 0, 1) := by decide +kernel
theorem dX11_isHalf_27 : decode cX11_isHalf 27 = .ok (.ireturn, 1) := by decide +kernel
theorem dX11_puts_0 : decode cX11_puts 0 = .ok (.aload_n 0, 1) := by decide +kernel
theorem dX11_puts_1 : decode cX11_puts 1 = .ok (.lload_n 1, 1) := by decide +kernel
theorem dX11_puts_2 : decode cX11_puts 2 = .ok (.lconst 0, 1) := by decide +kernel
theorem dX11_puts_3 : decode cX11_puts 3 = .ok (.lcmp, 1) := by decide +kernel
theorem dX11_puts_4 : decode cX11_puts 4 = .ok (.ifCond .ge 11, 3) := by decide +kernel
theorem dX11_puts_7 : decode cX11_puts 7 = .ok (.lload_n 1, 1) := by decide +kernel
theorem dX11_puts_8 : decode cX11_puts 8 = .ok (.ldc2_w 83, 3) := by decide +kernel
theorem dX11_puts_11 : decode cX11_puts 11 = .ok (.ladd, 1) := by decide +kernel
theorem dX11_puts_12 : decode cX11_puts 12 = .ok (.goto 24, 3) := by decide +kernel
theorem dX11_puts_15 : decode cX11_puts 15 = .ok (.lload_n 1, 1) := by decide +kernel
theorem dX11_puts_16 : decode cX11_puts 16 = .ok (.aload_n 0, 1) := by decide +kernel
theorem dX11_puts_17 : decode cX11_puts 17 = .ok (.getfield 41, 3) := by decide +kernel
theorem dX11_puts_20 : decode cX11_puts 20 = .ok (.invokevirtual 98, 3) := by decide +kernel
theorem dX11_puts_23 : decode cX11_puts 23 = .ok (.lcmp, 1) := by decide +kernel
theorem dX11_puts_24 : decode cX11_puts 24 = .ok (.ifCond .le 11, 3) := by decide +kernel
theorem dX11_puts_27 : decode cX11_puts 27 = .ok (.lload_n 1, 1) := by decide +kernel
theorem dX11_puts_28 : decode cX11_puts 28 = .ok (.ldc2_w 83, 3) := by decide +kernel
theorem dX11_puts_31 : decode cX11_puts 31 = .ok (.lsub, 1) := by decide +kernel
theorem dX11_puts_32 : decode cX11_puts 32 = .ok (.goto 4, 3) := by decide +kernel
theorem dX11_puts_35 : decode cX11_puts 35 = .ok (.lload_n 1, 1) := by decide +kernel
theorem dX11_puts_36 : decode cX11_puts 36 = .ok (.putfield 54, 3) := by decide +kernel
theorem dX11_puts_39 : decode cX11_puts 39 = .ok (.return_, 1) := by decide +kernel
theorem dX12_init_0 : decode cX12_init 0 = .ok (.aload_n 0, 1) := by decide +kernel
theorem dX12_init_1 : decode cX12_init 1 = .ok (.invokespecial 3, 3) := by decide +kernel
theorem dX12_init_4 : decode cX12_init 4 = .ok (.aload_n 0, 1) := by decide +kernel
theorem dX12_init_5 : decode cX12_init 5 = .ok (.iload_n 1, 1) := by decide +kernel
theorem dX12_init_6 : decode cX12_init 6 = .ok (.putfield 9, 3) := by decide +kernel
theorem dX12_init_9 : decode cX12_init 9 = .ok (.aload_n 0, 1) := by decide +kernel
theorem dX12_init_10 : decode cX12_init 10 = .ok (.iload_n 2, 1) := by decide +kernel
theorem dX12_init_11 : decode cX12_init 11 = .ok (.putfield 15, 3) := by decide +kernel
theorem dX12_init_14 : decode cX12_init 14 = .ok (.aload_n 0, 1) := by decide +kernel
theorem dX12_init_15 : decode cX12_init 15 = .ok (.iload_n 3, 1) := by decide +kernel
theorem dX12_init_16 : decode cX12_init 16 = .ok (.putfield 18, 3) := by decide +kernel
theorem dX12_init_19 : decode cX12_init 19 = .ok (.aload_n 0, 1) := by decide +kernel
theorem dX12_init_20 : decode cX12_init 20 = .ok (.iload 4, 2) := by decide +kernel
theorem dX12_init_22 : decode cX12_init 22 = .ok (.putfield 21, 3) := by decide +kernel
theorem dX12_init_25 : decode cX12_init 25 = .ok (.aload_n 0, 1) := by decide +kernel
theorem dX12_init_26 : decode cX12_init 26 = .ok (.iload 5, 2) := by decide +kernel
theorem dX12_init_28 : decode cX12_init 28 = .ok (.putfield 24, 3) := by decide +kernel
theorem dX12_init_31 : decode cX12_init 31 = .ok (.aload_n 0, 1) := by decide +kernel
theorem dX12_init_32 : decode cX12_init 32 = .ok (.iload 6, 2) := by decide +kernel
theorem dX12_init_34 : decode cX12_init 34 = .ok (.putfield 27, 3) := by decide +kernel
theorem dX12_init_37 : decode cX12_init 37 = .ok (.aload_n 0, 1) := by decide +kernel
theorem dX12_init_38 : decode cX12_init 38 = .ok (.iload 7, 2) := by decide +kernel
theorem dX12_init_40 : decode cX12_init 40 = .ok (.putfield 30, 3) := by decide +kernel
theorem dX12_init_43 : decode cX12_init 43 = .ok (.return_, 1) := by decide +kernel
theorem dX12_last_0 : decode cX12_last 0 = .ok (.aload_n 0, 1) := by decide +kernel
theorem dX12_last_1 : decode cX12_last 1 = .ok (.getfield 15, 3) := by decide +kernel
theorem dX12_last_4 : decode cX12_last 4 = .ok (.i2l, 1) := by decide +kernel
theorem dX12_last_5 : decode cX12_last 5 = .ok (.ldc2_w 33, 3) := by decide +kernel
theorem dX12_last_8 : decode cX12_last 8 = .ok (.lmul, 1) := by decide +kernel
theorem dX12_last_9 : decode cX12_last 9 = .ok (.lconst 1, 1) := by decide +kernel
theorem dX12_last_10 : decode cX12_last 10 = .ok (.lsub, 1) := by decide +kernel
theorem dX12_last_11 : decode cX12_last 11 = .ok (.lreturn, 1) := by decide +kernel
theorem dX13_init_0 : decode cX13_init 0 = .ok (.aload_n 0, 1) := by decide +kernel
theorem dX13_init_1 : decode cX13_init 1 = .ok (.invokespecial 1, 3) := by decide +kernel
theorem dX13_init_4 : decode cX13_init 4 = .ok (.aload_n 0, 1) := by decide +kernel
theorem dX13_init_5 : decode cX13_init 5 = .ok (.new 7, 3) := by decide +kernel
theorem dX13_init_8 : decode cX13_init 8 = .ok (.dup, 1) := by decide +kernel
theorem dX13_init_9 : decode cX13_init 9 = .ok (.invokespecial 9, 3) := by decide +kernel
theorem dX13_init_12 : decode cX13_init 12 = .ok (.putfield 10, 3) := by decide +kernel
theorem dX13_init_15 : decode cX13_init 15 = .ok (.aload_n 0, 1) := by decide +kernel
theorem dX13_init_16 : decode cX13_init 16 = .ok (.iconst 4, 1) := by decide +kernel
theorem dX13_init_17 : decode cX13_init 17 = .ok (.anewarray 16, 3) := by decide +kernel
theorem dX13_init_20 : decode cX13_init 20 = .ok (.dup, 1) := by decide +kernel
theorem dX13_init_21 : decode cX13_init 21 = .ok (.iconst 0, 1) := by decide +kernel
theorem dX13_init_22 : decode cX13_init 22 = .ok (.new 16, 3) := by decide +kernel
theorem dX13_init_25 : decode cX13_init 25 = .ok (.dup, 1) := by decide +kernel
theorem dX13_init_26 : decode cX13_init 26 = .ok (.invokespecial 18, 3) := by decide +kernel
theorem dX13_init_29 : decode cX13_init 29 = .ok (.aastore, 1) := by decide +kernel
theorem dX13_init_30 : decode cX13_init 30 = .ok (.dup, 1) := by decide +kernel
theorem dX13_init_31 : decode cX13_init 31 = .ok (.iconst 1, 1) := by decide +kernel
theorem dX13_init_32 : decode cX13_init 32 = .ok (.new 16, 3) := by decide +kernel
theorem dX13_init_35 : decode cX13_init 35 = .ok (.dup, 1) := by decide +kernel
theorem dX13_init_36 : decode cX13_init 36 = .ok (.invokespecial 18, 3) := by decide +kernel
theorem dX13_init_39 : decode cX13_init 39 = .ok (.aastore, 1) := by decide +kernel
theorem dX13_init_40 : decode cX13_init 40 = .ok (.dup, 1) := by decide +kernel
theorem dX13_init_41 : decode cX13_init 41 = .ok (.iconst 2, 1) := by decide +kernel
theorem dX13_init_42 : decode cX13_init 42 = .ok (.new 16, 3) := by decide +kernel
theorem dX13_init_45 : decode cX13_init 45 = .ok (.dup, 1) := by decide +kernel
theorem dX13_init_46 : decode cX13_init 46 = .ok (.invokespecial 18, 3) := by decide +kernel
theorem dX13_init_49 : decode cX13_init 49 = .ok (.aastore, 1) := by decide +kernel
theorem dX13_init_50 : decode cX13_init 50 = .ok (.dup, 1) := by decide +kernel
theorem dX13_init_51 : decode cX13_init 51 = .ok (.iconst 3, 1) := by decide +kernel
theorem dX13_init_52 : decode cX13_init 52 = .ok (.new 16, 3) := by decide +kernel
theorem dX13_init_55 : decode cX13_init 55 = .ok (.dup, 1) := by decide +kernel
theorem dX13_init_56 : decode cX13_init 56 = .ok (.invokespecial 18, 3) := by decide +kernel
theorem dX13_init_59 : decode cX13_init 59 = .ok (.aastore, 1) := by decide +kernel
theorem dX13_init_60 : decode cX13_init 60 = .ok (.putfield 19, 3) := by decide +kernel
theorem dX13_init_63 : decode cX13_init 63 = .ok (.aload_n 0, 1) := by decide +kernel
theorem dX13_init_64 : decode cX13_init 64 = .ok (.bipush 6, 2) := by decide +kernel
theorem dX13_init_66 : decode cX13_init 66 = .ok (.newarray .int, 2) := by decide +kernel
theorem dX13_init_68 : decode cX13_init 68 = .ok (.dup, 1) := by decide +kernel
theorem dX13_init_69 : decode cX13_init 69 = .ok (.iconst 0, 1) := by decide +kernel
theorem dX13_init_70 : decode cX13_init 70 = .ok (.bipush 20, 2) := by decide +kernel
theorem dX13_init_72 : decode cX13_init 72 = .ok (.iastore, 1) := by decide +kernel
theorem dX13_init_73 : decode cX13_init 73 = .ok (.dup, 1) := by decide +kernel
theorem dX13_init_74 : decode cX13_init 74 = .ok (.iconst 1, 1) := by decide +kernel
theorem dX13_init_75 : decode cX13_init 75 = .ok (.bipush 20, 2) := by decide +kernel
theorem dX13_init_77 : decode cX13_init 77 = .ok (.iastore, 1) := by decide +kernel
theorem dX13_init_78 : decode cX13_init 78 = .ok (.dup, 1) := by decide +kernel
theorem dX13_init_79 : decode cX13_init 79 = .ok (.iconst 2, 1) := by decide +kernel
theorem dX13_init_80 : decode cX13_init 80 = .ok (.bipush 20, 2) := by decide +kernel
theorem dX13_init_82 : decode cX13_init 82 = .ok (.iastore, 1) := by decide +kernel
theorem dX13_init_83 : decode cX13_init 83 = .ok (.dup, 1) := by decide +kernel
theorem dX13_init_84 : decode cX13_init 84 = .ok (.iconst 3, 1) := by decide +kernel
theorem dX13_init_85 : decode cX13_init 85 = .ok (.bipush 20, 2) := by decide +kernel
theorem dX13_init_87 : decode cX13_init 87 = .ok (.iastore, 1) := by decide +kernel
theorem dX13_init_88 : decode cX13_init 88 = .ok (.dup, 1) := by decide +kernel
theorem dX13_init_89 : decode cX13_init 89 = .ok (.iconst 4, 1) := by decide +kernel
theorem dX13_init_90 : decode cX13_init 90 = .ok (.bipush 20, 2) := by decide +kernel
theorem dX13_init_92 : decode cX13_init 92 = .ok (.iastore, 1) := by decide +kernel
theorem dX13_init_93 : decode cX13_init 93 = .ok (.dup, 1) := by decide +kernel
theorem dX13_init_94 : decode cX13_init 94 = .ok (.iconst 5, 1) := by decide +kernel
theorem dX13_init_95 : decode cX13_init 95 = .ok (.bipush 20, 2) := by decide +kernel
theorem dX13_init_97 : decode cX13_init 97 = .ok (.iastore, 1) := by decide +kernel
theorem dX13_init_98 : decode cX13_init 98 = .ok (.putfield 23, 3) := by decide +kernel
theorem dX13_init_101 : decode cX13_init 101 = .ok (.aload_n 0, 1) := by decide +kernel
theorem dX13_init_102 : decode cX13_init 102 = .ok (.bipush 6, 2) := by decide +kernel
theorem dX13_init_104 : decode cX13_init 104 = .ok (.newarray .int, 2) := by decide +kernel
theorem dX13_init_106 : decode cX13_init 106 = .ok (.putfield 27, 3) := by decide +kernel
theorem dX13_init_109 : decode cX13_init 109 = .ok (.aload_n 0, 1) := by decide +kernel
theorem dX13_init_110 : decode cX13_init 110 = .ok (.iconst 4, 1) := by decide +kernel
theorem dX13_init_111 : decode cX13_init 111 = .ok (.newarray .int, 2) := by decide +kernel
theorem dX13_init_113 : decode cX13_init 113 = .ok (.dup, 1) := by decide +kernel
theorem dX13_init_114 : decode cX13_init 114 = .ok (.iconst 0, 1) := by decide +kernel
theorem dX13_init_115 : decode cX13_init 115 = .ok (.sipush 1000, 3) := by decide +kernel
theorem dX13_init_118 : decode cX13_init 118 = .ok (.iastore, 1) := by decide +kernel
theorem dX13_init_119 : decode cX13_init 119 = .ok (.dup, 1) := by decide +kernel
theorem dX13_init_120 : decode cX13_init 120 = .ok (.iconst 1, 1) := by decide +kernel
theorem dX13_init_121 : decode cX13_init 121 = .ok (.sipush 1000, 3) := by decide +kernel
theorem dX13_init_124 : decode cX13_init 124 = .ok (.iastore, 1) := by decide +kernel
theorem dX13_init_125 : decode cX13_init 125 = .ok (.dup, 1) := by decide +kernel
theorem dX13_init_126 : decode cX13_init 126 = .ok (.iconst 2, 1) := by decide +kernel
theorem dX13_init_127 : decode cX13_init 127 = .ok (.sipush 1000, 3) := by decide +kernel
theorem dX13_init_130 : decode cX13_init 130 = .ok (.iastore, 1) := by decide +kernel
theorem dX13_init_131 : decode cX13_init 131 = .ok (.dup, 1) := by decide +kernel
theorem dX13_init_132 : decode cX13_init 132 = .ok (.iconst 3, 1) := by decide +kernel
theorem dX13_init_133 : decode cX13_init 133 = .ok (.sipush 1000, 3) := by decide +kernel
theorem dX13_init_136 : decode cX13_init 136 = .ok (.iastore, 1) := by decide +kernel
theorem dX13_init_137 : decode cX13_init 137 = .ok (.putfield 30, 3) := by decide +kernel
theorem dX13_init_140 : decode cX13_init 140 = .ok (.aload_n 0, 1) := by decide +kernel
theorem dX13_init_141 : decode cX13_init 141 = .ok (.iconst 2, 1) := by decide +kernel
theorem dX13_init_142 : decode cX13_init 142 = .ok (.newarray .int, 2) := by decide +kernel
theorem dX13_init_144 : decode cX13_init 144 = .ok (.putfield 33, 3) := by decide +kernel
theorem dX13_init_147 : decode cX13_init 147 = .ok (.aload_n 0, 1) := by decide +kernel
theorem dX13_init_148 : decode cX13_init 148 = .ok (.iconst 2, 1) := by decide +kernel
theorem dX13_init_149 : decode cX13_init 149 = .ok (.newarray .char, 2) := by decide +kernel
theorem dX13_init_151 : decode cX13_init 151 = .ok (.putfield 36, 3) := by decide +kernel
theorem dX13_init_154 : decode cX13_init 154 = .ok (.aload_n 0, 1) := by decide +kernel
theorem dX13_init_155 : decode cX13_init 155 = .ok (.ldc 40, 2) := by decide +kernel
theorem dX13_init_157 : decode cX13_init 157 = .ok (.putfield 42, 3) := by decide +kernel
theorem dX13_init_160 : decode cX13_init 160 = .ok (.return_, 1) := by decide +kernel
theorem dX13_thrown_0 : decode cX13_thrown 0 = .ok (.aload_n 0, 1) := by decide +kernel
theorem dX13_thrown_1 : decode cX13_thrown 1 = .ok (.getfield 46, 3) := by decide +kernel
theorem dX13_thrown_4 : decode cX13_thrown 4 = .ok (.ireturn, 1) := by decide +kernel
theorem dX13_isWrong_0 : decode cX13_isWrong 0 = .ok (.aload_n 0, 1) := by decide +kernel
theorem dX13_isWrong_1 : decode cX13_isWrong 1 = .ok (.iload_n 1, 1) := by decide +kernel
theorem dX13_isWrong_2 : decode cX13_isWrong 2 = .ok (.putfield 46, 3) := by decide +kernel
theorem dX13_isWrong_5 : decode cX13_isWrong 5 = .ok (.iload_n 1, 1) := by decide +kernel
theorem dX13_isWrong_6 : decode cX13_isWrong 6 = .ok (.ifCond .le 7, 3) := by decide +kernel
theorem dX13_isWrong_9 : decode cX13_isWrong 9 = .ok (.iconst 1, 1) := by decide +kernel
theorem dX13_isWrong_10 : decode cX13_isWrong 10 = .ok (.goto 4, 3) := by decide +kernel
theorem dX13_isWrong_13 : decode cX13_isWrong 13 = .ok (.iconst 0, 1) := by decide +kernel
theorem dX13_isWrong_14 : decode cX13_isWrong 14 = .ok (.ireturn, 1) := by decide +kernel
theorem dX13_isBetween_0 : decode cX13_isBetween 0 = .ok (.iload_n 1, 1) := by decide +kernel
theorem dX13_isBetween_1 : decode cX13_isBetween 1 = .ok (.iload_n 0, 1) := by decide +kernel
theorem dX13_isBetween_2 : decode cX13_isBetween 2 = .ok (.if_icmp .gt 12, 3) := by decide +kernel
theorem dX13_isBetween_5 : decode cX13_isBetween 5 = .ok (.iload_n 0, 1) := by decide +kernel
theorem dX13_isBetween_6 : decode cX13_isBetween 6 = .ok (.iload_n 2, 1) := by decide +kernel
theorem dX13_isBetween_7 : decode cX13_isBetween 7 = .ok (.if_icmp .gt 7, 3) := by decide +kernel
theorem dX13_isBetween_10 : decode cX13_isBetween 10 = .ok (.iconst 1, 1) := by decide +kernel
theorem dX13_isBetween_11 : decode cX13_isBetween 11 = .ok (.goto 4, 3) := by decide +kernel
theorem dX13_isBetween_14 : decode cX13_isBetween 14 = .ok (.iconst 0, 1) := by decide +kernel
theorem dX13_isBetween_15 : decode cX13_isBetween 15 = .ok (.ireturn, 1) := by decide +kernel
theorem dX13_isDeck_0 : decode cX13_isDeck 0 = .ok (.iload_n 0, 1) := by decide +kernel
theorem dX13_isDeck_1 : decode cX13_isDeck 1 = .ok (.iconst 0, 1) := by decide +kernel
theorem dX13_isDeck_2 : decode cX13_isDeck 2 = .ok (.iconst 3, 1) := by decide +kernel
theorem dX13_isDeck_3 : decode cX13_isDeck 3 = .ok (.invokestatic 50, 3) := by decide +kernel
theorem dX13_isDeck_6 : decode cX13_isDeck 6 = .ok (.ireturn, 1) := by decide +kernel
theorem dX13_isDisc_0 : decode cX13_isDisc 0 = .ok (.iload_n 1, 1) := by decide +kernel
theorem dX13_isDisc_1 : decode cX13_isDisc 1 = .ok (.iconst 0, 1) := by decide +kernel
theorem dX13_isDisc_2 : decode cX13_isDisc 2 = .ok (.aload_n 0, 1) := by decide +kernel
theorem dX13_isDisc_3 : decode cX13_isDisc 3 = .ok (.getfield 10, 3) := by decide +kernel
theorem dX13_isDisc_6 : decode cX13_isDisc 6 = .ok (.invokeinterface 54 1, 5) := by decide +kernel
theorem dX13_isDisc_11 : decode cX13_isDisc 11 = .ok (.iconst 1, 1) := by decide +kernel
theorem dX13_isDisc_12 : decode cX13_isDisc 12 = .ok (.isub, 1) := by decide +kernel
theorem dX13_isDisc_13 : decode cX13_isDisc 13 = .ok (.invokestatic 50, 3) := by decide +kernel
theorem dX13_isDisc_16 : decode cX13_isDisc 16 = .ok (.ireturn, 1) := by decide +kernel
theorem dX13_isEmpty_0 : decode cX13_isEmpty 0 = .ok (.aload_n 0, 1) := by decide +kernel
theorem dX13_isEmpty_1 : decode cX13_isEmpty 1 = .ok (.getfield 19, 3) := by decide +kernel
theorem dX13_isEmpty_4 : decode cX13_isEmpty 4 = .ok (.iload_n 1, 1) := by decide +kernel
theorem dX13_isEmpty_5 : decode cX13_isEmpty 5 = .ok (.aaload, 1) := by decide +kernel
theorem dX13_isEmpty_6 : decode cX13_isEmpty 6 = .ok (.getfield 60, 3) := by decide +kernel
theorem dX13_isEmpty_9 : decode cX13_isEmpty 9 = .ok (.ifnonnull 7, 3) := by decide +kernel
theorem dX13_isEmpty_12 : decode cX13_isEmpty 12 = .ok (.iconst 1, 1) := by decide +kernel
theorem dX13_isEmpty_13 : decode cX13_isEmpty 13 = .ok (.goto 4, 3) := by decide +kernel
theorem dX13_isEmpty_16 : decode cX13_isEmpty 16 = .ok (.iconst 0, 1) := by decide +kernel
theorem dX13_isEmpty_17 : decode cX13_isEmpty 17 = .ok (.ireturn, 1) := by decide +kernel
theorem dX13_logs_0 : decode cX13_logs 0 = .ok (.aload_n 0, 1) := by decide +kernel
theorem dX13_logs_1 : decode cX13_logs 1 = .ok (.dup, 1) := by decide +kernel
theorem dX13_logs_2 : decode cX13_logs 2 = .ok (.getfield 64, 3) := by decide +kernel
theorem dX13_logs_5 : decode cX13_logs 5 = .ok (.iconst 1, 1) := by decide +kernel
theorem dX13_logs_6 : decode cX13_logs 6 = .ok (.iadd, 1) := by decide +kernel
theorem dX13_logs_7 : decode cX13_logs 7 = .ok (.putfield 64, 3) := by decide +kernel
theorem dX13_logs_10 : decode cX13_logs 10 = .ok (.return_, 1) := by decide +kernel
theorem dX13_addRecord_0 : decode cX13_addRecord 0 = .ok (.iload_n 1, 1) := by decide +kernel
theorem dX13_addRecord_1 : decode cX13_addRecord 1 = .ok (.sipush 600, 3) := by decide +kernel
theorem dX13_addRecord_4 : decode cX13_addRecord 4 = .ok (.sipush 2000, 3) := by decide +kernel
theorem dX13_addRecord_7 : decode cX13_addRecord 7 = .ok (.invokestatic 50, 3) := by decide +kernel
theorem dX13_addRecord_10 : decode cX13_addRecord 10 = .ok (.ifCond .eq 83, 3) := by decide +kernel
theorem dX13_addRecord_13 : decode cX13_addRecord 13 = .ok (.iload_n 2, 1) := by decide +kernel
theorem dX13_addRecord_14 : decode cX13_addRecord 14 = .ok (.bipush 16, 2) := by decide +kernel
theorem dX13_addRecord_16 : decode cX13_addRecord 16 = .ok (.sipush 999, 3) := by decide +kernel
theorem dX13_addRecord_19 : decode cX13_addRecord 19 = .ok (.invokestatic 50, 3) := by decide +kernel
theorem dX13_addRecord_22 : decode cX13_addRecord 22 = .ok (.ifCond .eq 71, 3) := by decide +kernel
theorem dX13_addRecord_25 : decode cX13_addRecord 25 = .ok (.iload_n 3, 1) := by decide +kernel
theorem dX13_addRecord_26 : decode cX13_addRecord 26 = .ok (.iconst 0, 1) := by decide +kernel
theorem dX13_addRecord_27 : decode cX13_addRecord 27 = .ok (.bipush 23, 2) := by decide +kernel
theorem dX13_addRecord_29 : decode cX13_addRecord 29 = .ok (.invokestatic 50, 3) := by decide +kernel
theorem dX13_addRecord_32 : decode cX13_addRecord 32 = .ok (.ifCond .eq 61, 3) := by decide +kernel
theorem dX13_addRecord_35 : decode cX13_addRecord 35 = .ok (.iload 4, 2) := by decide +kernel
theorem dX13_addRecord_37 : decode cX13_addRecord 37 = .ok (.iconst 0, 1) := by decide +kernel
theorem dX13_addRecord_38 : decode cX13_addRecord 38 = .ok (.bipush 9, 2) := by decide +kernel
theorem dX13_addRecord_40 : decode cX13_addRecord 40 = .ok (.invokestatic 50, 3) := by decide +kernel
theorem dX13_addRecord_43 : decode cX13_addRecord 43 = .ok (.ifCond .eq 50, 3) := by decide +kernel
theorem dX13_addRecord_46 : decode cX13_addRecord 46 = .ok (.iload 5, 2) := by decide +kernel
theorem dX13_addRecord_48 : decode cX13_addRecord 48 = .ok (.bipush 8, 2) := by decide +kernel
theorem dX13_addRecord_50 : decode cX13_addRecord 50 = .ok (.if_icmp .eq 17, 3) := by decide +kernel
theorem dX13_addRecord_53 : decode cX13_addRecord 53 = .ok (.iload 5, 2) := by decide +kernel
theorem dX13_addRecord_55 : decode cX13_addRecord 55 = .ok (.bipush 16, 2) := by decide +kernel
theorem dX13_addRecord_57 : decode cX13_addRecord 57 = .ok (.if_icmp .eq 10, 3) := by decide +kernel
theorem dX13_addRecord_60 : decode cX13_addRecord 60 = .ok (.iload 5, 2) := by decide +kernel
theorem dX13_addRecord_62 : decode cX13_addRecord 62 = .ok (.bipush 32, 2) := by decide +kernel
theorem dX13_addRecord_64 : decode cX13_addRecord 64 = .ok (.if_icmp .ne 29, 3) := by decide +kernel
theorem dX13_addRecord_67 : decode cX13_addRecord 67 = .ok (.iload 6, 2) := by decide +kernel
theorem dX13_addRecord_69 : decode cX13_addRecord 69 = .ok (.iconst 0, 1) := by decide +kernel
theorem dX13_addRecord_70 : decode cX13_addRecord 70 = .ok (.ldc 67, 2) := by decide +kernel
theorem dX13_addRecord_72 : decode cX13_addRecord 72 = .ok (.invokestatic 50, 3) := by decide +kernel
theorem dX13_addRecord_75 : decode cX13_addRecord 75 = .ok (.ifCond .eq 18, 3) := by decide +kernel
theorem dX13_addRecord_78 : decode cX13_addRecord 78 = .ok (.iload 7, 2) := by decide +kernel
theorem dX13_addRecord_80 : decode cX13_addRecord 80 = .ok (.iconst 0, 1) := by decide +kernel
theorem dX13_addRecord_81 : decode cX13_addRecord 81 = .ok (.ldc 67, 2) := by decide +kernel
theorem dX13_addRecord_83 : decode cX13_addRecord 83 = .ok (.invokestatic 50, 3) := by decide +kernel
theorem dX13_addRecord_86 : decode cX13_addRecord 86 = .ok (.ifCond .eq 7, 3) := by decide +kernel
theorem dX13_addRecord_89 : decode cX13_addRecord 89 = .ok (.iconst 1, 1) := by decide +kernel
theorem dX13_addRecord_90 : decode cX13_addRecord 90 = .ok (.goto 4, 3) := by decide +kernel
theorem dX13_addRecord_93 : decode cX13_addRecord 93 = .ok (.iconst 0, 1) := by decide +kernel
theorem dX13_addRecord_94 : decode cX13_addRecord 94 = .ok (.istore 8, 2) := by decide +kernel
theorem dX13_addRecord_96 : decode cX13_addRecord 96 = .ok (.aload_n 0, 1) := by decide +kernel
theorem dX13_addRecord_97 : decode cX13_addRecord 97 = .ok (.iload 8, 2) := by decide +kernel
theorem dX13_addRecord_99 : decode cX13_addRecord 99 = .ok (.ifCond .ne 7, 3) := by decide +kernel
theorem dX13_addRecord_102 : decode cX13_addRecord 102 = .ok (.iconst 1, 1) := by decide +kernel
theorem dX13_addRecord_103 : decode cX13_addRecord 103 = .ok (.goto 22, 3) := by decide +kernel
theorem dX13_addRecord_106 : decode cX13_addRecord 106 = .ok (.aload_n 0, 1) := by decide +kernel
theorem dX13_addRecord_107 : decode cX13_addRecord 107 = .ok (.getfield 10, 3) := by decide +kernel
theorem dX13_addRecord_110 : decode cX13_addRecord 110 = .ok (.invokeinterface 54 1, 5) := by decide +kernel
theorem dX13_addRecord_115 : decode cX13_addRecord 115 = .ok (.bipush 12, 2) := by decide +kernel
theorem dX13_addRecord_117 : decode cX13_addRecord 117 = .ok (.if_icmp .ne 7, 3) := by decide +kernel
theorem dX13_addRecord_120 : decode cX13_addRecord 120 = .ok (.iconst 2, 1) := by decide +kernel
theorem dX13_addRecord_121 : decode cX13_addRecord 121 = .ok (.goto 4, 3) := by decide +kernel
theorem dX13_addRecord_124 : decode cX13_addRecord 124 = .ok (.iconst 0, 1) := by decide +kernel
theorem dX13_addRecord_125 : decode cX13_addRecord 125 = .ok (.invokevirtual 68, 3) := by decide +kernel
theorem dX13_addRecord_128 : decode cX13_addRecord 128 = .ok (.ifCond .eq 5, 3) := by decide +kernel
theorem dX13_addRecord_131 : decode cX13_addRecord 131 = .ok (.iconst 0, 1) := by decide +kernel
theorem dX13_addRecord_132 : decode cX13_addRecord 132 = .ok (.ireturn, 1) := by decide +kernel
theorem dX13_addRecord_133 : decode cX13_addRecord 133 = .ok (.aload_n 0, 1) := by decide +kernel
theorem dX13_addRecord_134 : decode cX13_addRecord 134 = .ok (.getfield 10, 3) := by decide +kernel
theorem dX13_addRecord_137 : decode cX13_addRecord 137 = .ok (.new 72, 3) := by decide +kernel
theorem dX13_addRecord_140 : decode cX13_addRecord 140 = .ok (.dup, 1) := by decide +kernel
theorem dX13_addRecord_141 : decode cX13_addRecord 141 = .ok (.iload_n 1, 1) := by decide +kernel
theorem dX13_addRecord_142 : decode cX13_addRecord 142 = .ok (.iload_n 2, 1) := by decide +kernel
theorem dX13_addRecord_143 : decode cX13_addRecord 143 = .ok (.iload_n 3, 1) := by decide +kernel
theorem dX13_addRecord_144 : decode cX13_addRecord 144 = .ok (.iload 4, 2) := by decide +kernel
theorem dX13_addRecord_146 : decode cX13_addRecord 146 = .ok (.iload 5, 2) := by decide +kernel
theorem dX13_addRecord_148 : decode cX13_addRecord 148 = .ok (.iload 6, 2) := by decide +kernel
theorem dX13_addRecord_150 : decode cX13_addRecord 150 = .ok (.iload 7, 2) := by decide +kernel
theorem dX13_addRecord_152 : decode cX13_addRecord 152 = .ok (.invokespecial 74, 3) := by decide +kernel
theorem dX13_addRecord_155 : decode cX13_addRecord 155 = .ok (.invokeinterface 77 2, 5) := by decide +kernel
theorem dX13_addRecord_160 : decode cX13_addRecord 160 = .ok (.pop, 1) := by decide +kernel
theorem dX13_addRecord_161 : decode cX13_addRecord 161 = .ok (.aload_n 0, 1) := by decide +kernel
theorem dX13_addRecord_162 : decode cX13_addRecord 162 = .ok (.invokevirtual 81, 3) := by decide +kernel
theorem dX13_addRecord_165 : decode cX13_addRecord 165 = .ok (.aload_n 0, 1) := by decide +kernel
theorem dX13_addRecord_166 : decode cX13_addRecord 166 = .ok (.getfield 10, 3) := by decide +kernel
theorem dX13_addRecord_169 : decode cX13_addRecord 169 = .ok (.invokeinterface 54 1, 5) := by decide +kernel
theorem dX13_addRecord_174 : decode cX13_addRecord 174 = .ok (.iconst 1, 1) := by decide +kernel
theorem dX13_addRecord_175 : decode cX13_addRecord 175 = .ok (.isub, 1) := by decide +kernel
theorem dX13_addRecord_176 : decode cX13_addRecord 176 = .ok (.ireturn, 1) := by decide +kernel
theorem dX13_isOnDeck_0 : decode cX13_isOnDeck 0 = .ok (.iconst 0, 1) := by decide +kernel
theorem dX13_isOnDeck_1 : decode cX13_isOnDeck 1 = .ok (.istore_n 2, 1) := by decide +kernel
theorem dX13_isOnDeck_2 : decode cX13_isOnDeck 2 = .ok (.aload_n 0, 1) := by decide +kernel
theorem dX13_isOnDeck_3 : decode cX13_isOnDeck 3 = .ok (.getfield 19, 3) := by decide +kernel
theorem dX13_isOnDeck_6 : decode cX13_isOnDeck 6 = .ok (.astore_n 3, 1) := by decide +kernel
theorem dX13_isOnDeck_7 : decode cX13_isOnDeck 7 = .ok (.aload_n 3, 1) := by decide +kernel
theorem dX13_isOnDeck_8 : decode cX13_isOnDeck 8 = .ok (.arraylength, 1) := by decide +kernel
theorem dX13_isOnDeck_9 : decode cX13_isOnDeck 9 = .ok (.istore 4, 2) := by decide +kernel
theorem dX13_isOnDeck_11 : decode cX13_isOnDeck 11 = .ok (.iconst 0, 1) := by decide +kernel
theorem dX13_isOnDeck_12 : decode cX13_isOnDeck 12 = .ok (.istore 5, 2) := by decide +kernel
theorem dX13_isOnDeck_14 : decode cX13_isOnDeck 14 = .ok (.iload 5, 2) := by decide +kernel
theorem dX13_isOnDeck_16 : decode cX13_isOnDeck 16 = .ok (.iload 4, 2) := by decide +kernel
theorem dX13_isOnDeck_18 : decode cX13_isOnDeck 18 = .ok (.if_icmp .ge 32, 3) := by decide +kernel
theorem dX13_isOnDeck_21 : decode cX13_isOnDeck 21 = .ok (.aload_n 3, 1) := by decide +kernel
theorem dX13_isOnDeck_22 : decode cX13_isOnDeck 22 = .ok (.iload 5, 2) := by decide +kernel
theorem dX13_isOnDeck_24 : decode cX13_isOnDeck 24 = .ok (.aaload, 1) := by decide +kernel
theorem dX13_isOnDeck_25 : decode cX13_isOnDeck 25 = .ok (.astore 6, 2) := by decide +kernel
theorem dX13_isOnDeck_27 : decode cX13_isOnDeck 27 = .ok (.iload_n 2, 1) := by decide +kernel
theorem dX13_isOnDeck_28 : decode cX13_isOnDeck 28 = .ok (.aload 6, 2) := by decide +kernel
theorem dX13_isOnDeck_30 : decode cX13_isOnDeck 30 = .ok (.getfield 60, 3) := by decide +kernel
theorem dX13_isOnDeck_33 : decode cX13_isOnDeck 33 = .ok (.aload_n 1, 1) := by decide +kernel
theorem dX13_isOnDeck_34 : decode cX13_isOnDeck 34 = .ok (.if_acmp .ne 7, 3) := by decide +kernel
theorem dX13_isOnDeck_37 : decode cX13_isOnDeck 37 = .ok (.iconst 1, 1) := by decide +kernel
theorem dX13_isOnDeck_38 : decode cX13_isOnDeck 38 = .ok (.goto 4, 3) := by decide +kernel
theorem dX13_isOnDeck_41 : decode cX13_isOnDeck 41 = .ok (.iconst 0, 1) := by decide +kernel
theorem dX13_isOnDeck_42 : decode cX13_isOnDeck 42 = .ok (.ior, 1) := by decide +kernel
theorem dX13_isOnDeck_43 : decode cX13_isOnDeck 43 = .ok (.istore_n 2, 1) := by decide +kernel
theorem dX13_isOnDeck_44 : decode cX13_isOnDeck 44 = .ok (.iinc 5 1, 3) := by decide +kernel
theorem dX13_isOnDeck_47 : decode cX13_isOnDeck 47 = .ok (.goto (-33), 3) := by decide +kernel
theorem dX13_isOnDeck_50 : decode cX13_isOnDeck 50 = .ok (.iload_n 2, 1) := by decide +kernel
theorem dX13_isOnDeck_51 : decode cX13_isOnDeck 51 = .ok (.ireturn, 1) := by decide +kernel
theorem dX13_correct_0 : decode cX13_correct 0 = .ok (.aload_n 0, 1) := by decide +kernel
theorem dX13_correct_1 : decode cX13_correct 1 = .ok (.aload_n 0, 1) := by decide +kernel
theorem dX13_correct_2 : decode cX13_correct 2 = .ok (.iload_n 1, 1) := by decide +kernel
theorem dX13_correct_3 : decode cX13_correct 3 = .ok (.invokevirtual 84, 3) := by decide +kernel
theorem dX13_correct_6 : decode cX13_correct 6 = .ok (.ifCond .ne 7, 3) := by decide +kernel
theorem dX13_correct_9 : decode cX13_correct 9 = .ok (.iconst 1, 1) := by decide +kernel
theorem dX13_correct_10 : decode cX13_correct 10 = .ok (.goto 45, 3) := by decide +kernel
theorem dX13_correct_13 : decode cX13_correct 13 = .ok (.iload_n 2, 1) := by decide +kernel
theorem dX13_correct_14 : decode cX13_correct 14 = .ok (.sipush 600, 3) := by decide +kernel
theorem dX13_correct_17 : decode cX13_correct 17 = .ok (.sipush 2000, 3) := by decide +kernel
theorem dX13_correct_20 : decode cX13_correct 20 = .ok (.invokestatic 50, 3) := by decide +kernel
theorem dX13_correct_23 : decode cX13_correct 23 = .ok (.ifCond .ne 7, 3) := by decide +kernel
theorem dX13_correct_26 : decode cX13_correct 26 = .ok (.iconst 2, 1) := by decide +kernel
theorem dX13_correct_27 : decode cX13_correct 27 = .ok (.goto 28, 3) := by decide +kernel
theorem dX13_correct_30 : decode cX13_correct 30 = .ok (.aload_n 0, 1) := by decide +kernel
theorem dX13_correct_31 : decode cX13_correct 31 = .ok (.aload_n 0, 1) := by decide +kernel
theorem dX13_correct_32 : decode cX13_correct 32 = .ok (.getfield 10, 3) := by decide +kernel
theorem dX13_correct_35 : decode cX13_correct 35 = .ok (.iload_n 1, 1) := by decide +kernel
theorem dX13_correct_36 : decode cX13_correct 36 = .ok (.invokeinterface 87 2, 5) := by decide +kernel
theorem dX13_correct_41 : decode cX13_correct 41 = .ok (.checkcast 72, 3) := by decide +kernel
theorem dX13_correct_44 : decode cX13_correct 44 = .ok (.invokevirtual 91, 3) := by decide +kernel
theorem dX13_correct_47 : decode cX13_correct 47 = .ok (.ifCond .eq 7, 3) := by decide +kernel
theorem dX13_correct_50 : decode cX13_correct 50 = .ok (.iconst 3, 1) := by decide +kernel
theorem dX13_correct_51 : decode cX13_correct 51 = .ok (.goto 4, 3) := by decide +kernel
theorem dX13_correct_54 : decode cX13_correct 54 = .ok (.iconst 0, 1) := by decide +kernel
theorem dX13_correct_55 : decode cX13_correct 55 = .ok (.invokevirtual 68, 3) := by decide +kernel
theorem dX13_correct_58 : decode cX13_correct 58 = .ok (.ifCond .eq 5, 3) := by decide +kernel
theorem dX13_correct_61 : decode cX13_correct 61 = .ok (.iconst 0, 1) := by decide +kernel
theorem dX13_correct_62 : decode cX13_correct 62 = .ok (.ireturn, 1) := by decide +kernel
theorem dX13_correct_63 : decode cX13_correct 63 = .ok (.aload_n 0, 1) := by decide +kernel
theorem dX13_correct_64 : decode cX13_correct 64 = .ok (.getfield 10, 3) := by decide +kernel
theorem dX13_correct_67 : decode cX13_correct 67 = .ok (.iload_n 1, 1) := by decide +kernel
theorem dX13_correct_68 : decode cX13_correct 68 = .ok (.invokeinterface 87 2, 5) := by decide +kernel
theorem dX13_correct_73 : decode cX13_correct 73 = .ok (.checkcast 72, 3) := by decide +kernel
theorem dX13_correct_76 : decode cX13_correct 76 = .ok (.getfield 95, 3) := by decide +kernel
theorem dX13_correct_79 : decode cX13_correct 79 = .ok (.istore_n 3, 1) := by decide +kernel
theorem dX13_correct_80 : decode cX13_correct 80 = .ok (.aload_n 0, 1) := by decide +kernel
theorem dX13_correct_81 : decode cX13_correct 81 = .ok (.getfield 10, 3) := by decide +kernel
theorem dX13_correct_84 : decode cX13_correct 84 = .ok (.iload_n 1, 1) := by decide +kernel
theorem dX13_correct_85 : decode cX13_correct 85 = .ok (.invokeinterface 87 2, 5) := by decide +kernel
theorem dX13_correct_90 : decode cX13_correct 90 = .ok (.checkcast 72, 3) := by decide +kernel
theorem dX13_correct_93 : decode cX13_correct 93 = .ok (.iload_n 2, 1) := by decide +kernel
theorem dX13_correct_94 : decode cX13_correct 94 = .ok (.putfield 95, 3) := by decide +kernel
theorem dX13_correct_97 : decode cX13_correct 97 = .ok (.aload_n 0, 1) := by decide +kernel
theorem dX13_correct_98 : decode cX13_correct 98 = .ok (.invokevirtual 81, 3) := by decide +kernel
theorem dX13_correct_101 : decode cX13_correct 101 = .ok (.iload_n 3, 1) := by decide +kernel
theorem dX13_correct_102 : decode cX13_correct 102 = .ok (.ireturn, 1) := by decide +kernel
theorem dX13_apartKeys_0 : decode cX13_apartKeys 0 = .ok (.iload_n 0, 1) := by decide +kernel
theorem dX13_apartKeys_1 : decode cX13_apartKeys 1 = .ok (.bipush 12, 2) := by decide +kernel
theorem dX13_apartKeys_3 : decode cX13_apartKeys 3 = .ok (.irem, 1) := by decide +kernel
theorem dX13_apartKeys_4 : decode cX13_apartKeys 4 = .ok (.iload_n 1, 1) := by decide +kernel
theorem dX13_apartKeys_5 : decode cX13_apartKeys 5 = .ok (.bipush 12, 2) := by decide +kernel
theorem dX13_apartKeys_7 : decode cX13_apartKeys 7 = .ok (.irem, 1) := by decide +kernel
theorem dX13_apartKeys_8 : decode cX13_apartKeys 8 = .ok (.isub, 1) := by decide +kernel
theorem dX13_apartKeys_9 : decode cX13_apartKeys 9 = .ok (.invokestatic 98, 3) := by decide +kernel
theorem dX13_apartKeys_12 : decode cX13_apartKeys 12 = .ok (.istore_n 2, 1) := by decide +kernel
theorem dX13_apartKeys_13 : decode cX13_apartKeys 13 = .ok (.iload_n 2, 1) := by decide +kernel
theorem dX13_apartKeys_14 : decode cX13_apartKeys 14 = .ok (.bipush 12, 2) := by decide +kernel
theorem dX13_apartKeys_16 : decode cX13_apartKeys 16 = .ok (.iload_n 2, 1) := by decide +kernel
theorem dX13_apartKeys_17 : decode cX13_apartKeys 17 = .ok (.isub, 1) := by decide +kernel
theorem dX13_apartKeys_18 : decode cX13_apartKeys 18 = .ok (.invokestatic 104, 3) := by decide +kernel
theorem dX13_apartKeys_21 : decode cX13_apartKeys 21 = .ok (.iload_n 0, 1) := by decide +kernel
theorem dX13_apartKeys_22 : decode cX13_apartKeys 22 = .ok (.bipush 12, 2) := by decide +kernel
theorem dX13_apartKeys_24 : decode cX13_apartKeys 24 = .ok (.idiv, 1) := by decide +kernel
theorem dX13_apartKeys_25 : decode cX13_apartKeys 25 = .ok (.iload_n 1, 1) := by decide +kernel
theorem dX13_apartKeys_26 : decode cX13_apartKeys 26 = .ok (.bipush 12, 2) := by decide +kernel
theorem dX13_apartKeys_28 : decode cX13_apartKeys 28 = .ok (.idiv, 1) := by decide +kernel
theorem dX13_apartKeys_29 : decode cX13_apartKeys 29 = .ok (.if_icmp .ne 7, 3) := by decide +kernel
theorem dX13_apartKeys_32 : decode cX13_apartKeys 32 = .ok (.iconst 0, 1) := by decide +kernel
theorem dX13_apartKeys_33 : decode cX13_apartKeys 33 = .ok (.goto 4, 3) := by decide +kernel
theorem dX13_apartKeys_36 : decode cX13_apartKeys 36 = .ok (.iconst 1, 1) := by decide +kernel
theorem dX13_apartKeys_37 : decode cX13_apartKeys 37 = .ok (.iadd, 1) := by decide +kernel
theorem dX13_apartKeys_38 : decode cX13_apartKeys 38 = .ok (.ireturn, 1) := by decide +kernel
theorem dX13_apart_0 : decode cX13_apart 0 = .ok (.aload_n 0, 1) := by decide +kernel
theorem dX13_apart_1 : decode cX13_apart 1 = .ok (.aload_n 0, 1) := by decide +kernel
theorem dX13_apart_2 : decode cX13_apart 2 = .ok (.iload_n 1, 1) := by decide +kernel
theorem dX13_apart_3 : decode cX13_apart 3 = .ok (.invokevirtual 84, 3) := by decide +kernel
theorem dX13_apart_6 : decode cX13_apart 6 = .ok (.ifCond .eq 15, 3) := by decide +kernel
theorem dX13_apart_9 : decode cX13_apart 9 = .ok (.aload_n 0, 1) := by decide +kernel
theorem dX13_apart_10 : decode cX13_apart 10 = .ok (.iload_n 2, 1) := by decide +kernel
theorem dX13_apart_11 : decode cX13_apart 11 = .ok (.invokevirtual 84, 3) := by decide +kernel
theorem dX13_apart_14 : decode cX13_apart 14 = .ok (.ifCond .eq 7, 3) := by decide +kernel
theorem dX13_apart_17 : decode cX13_apart 17 = .ok (.iconst 0, 1) := by decide +kernel
theorem dX13_apart_18 : decode cX13_apart 18 = .ok (.goto 4, 3) := by decide +kernel
theorem dX13_apart_21 : decode cX13_apart 21 = .ok (.iconst 1, 1) := by decide +kernel
theorem dX13_apart_22 : decode cX13_apart 22 = .ok (.invokevirtual 68, 3) := by decide +kernel
theorem dX13_apart_25 : decode cX13_apart 25 = .ok (.ifCond .eq 7, 3) := by decide +kernel
theorem dX13_apart_28 : decode cX13_apart 28 = .ok (.iconst 0, 1) := by decide +kernel
theorem dX13_apart_29 : decode cX13_apart 29 = .ok (.goto 38, 3) := by decide +kernel
theorem dX13_apart_32 : decode cX13_apart 32 = .ok (.aload_n 0, 1) := by decide +kernel
theorem dX13_apart_33 : decode cX13_apart 33 = .ok (.getfield 10, 3) := by decide +kernel
theorem dX13_apart_36 : decode cX13_apart 36 = .ok (.iload_n 1, 1) := by decide +kernel
theorem dX13_apart_37 : decode cX13_apart 37 = .ok (.invokeinterface 87 2, 5) := by decide +kernel
theorem dX13_apart_42 : decode cX13_apart 42 = .ok (.checkcast 72, 3) := by decide +kernel
theorem dX13_apart_45 : decode cX13_apart 45 = .ok (.getfield 108, 3) := by decide +kernel
theorem dX13_apart_48 : decode cX13_apart 48 = .ok (.aload_n 0, 1) := by decide +kernel
theorem dX13_apart_49 : decode cX13_apart 49 = .ok (.getfield 10, 3) := by decide +kernel
theorem dX13_apart_52 : decode cX13_apart 52 = .ok (.iload_n 2, 1) := by decide +kernel
theorem dX13_apart_53 : decode cX13_apart 53 = .ok (.invokeinterface 87 2, 5) := by decide +kernel
theorem dX13_apart_58 : decode cX13_apart 58 = .ok (.checkcast 72, 3) := by decide +kernel
theorem dX13_apart_61 : decode cX13_apart 61 = .ok (.getfield 108, 3) := by decide +kernel
theorem dX13_apart_64 : decode cX13_apart 64 = .ok (.invokestatic 111, 3) := by decide +kernel
theorem dX13_apart_67 : decode cX13_apart 67 = .ok (.ireturn, 1) := by decide +kernel
theorem dX13_ban_0 : decode cX13_ban 0 = .ok (.aload_n 0, 1) := by decide +kernel
theorem dX13_ban_1 : decode cX13_ban 1 = .ok (.aload_n 0, 1) := by decide +kernel
theorem dX13_ban_2 : decode cX13_ban 2 = .ok (.iload_n 1, 1) := by decide +kernel
theorem dX13_ban_3 : decode cX13_ban 3 = .ok (.invokevirtual 84, 3) := by decide +kernel
theorem dX13_ban_6 : decode cX13_ban 6 = .ok (.ifCond .eq 7, 3) := by decide +kernel
theorem dX13_ban_9 : decode cX13_ban 9 = .ok (.iconst 0, 1) := by decide +kernel
theorem dX13_ban_10 : decode cX13_ban 10 = .ok (.goto 4, 3) := by decide +kernel
theorem dX13_ban_13 : decode cX13_ban 13 = .ok (.iconst 1, 1) := by decide +kernel
theorem dX13_ban_14 : decode cX13_ban 14 = .ok (.invokevirtual 68, 3) := by decide +kernel
theorem dX13_ban_17 : decode cX13_ban 17 = .ok (.ifCond .eq 5, 3) := by decide +kernel
theorem dX13_ban_20 : decode cX13_ban 20 = .ok (.iconst 0, 1) := by decide +kernel
theorem dX13_ban_21 : decode cX13_ban 21 = .ok (.ireturn, 1) := by decide +kernel
theorem dX13_ban_22 : decode cX13_ban 22 = .ok (.aload_n 0, 1) := by decide +kernel
theorem dX13_ban_23 : decode cX13_ban 23 = .ok (.getfield 10, 3) := by decide +kernel
theorem dX13_ban_26 : decode cX13_ban 26 = .ok (.iload_n 1, 1) := by decide +kernel
theorem dX13_ban_27 : decode cX13_ban 27 = .ok (.invokeinterface 87 2, 5) := by decide +kernel
theorem dX13_ban_32 : decode cX13_ban 32 = .ok (.checkcast 72, 3) := by decide +kernel
theorem dX13_ban_35 : decode cX13_ban 35 = .ok (.getfield 114, 3) := by decide +kernel
theorem dX13_ban_38 : decode cX13_ban 38 = .ok (.istore_n 3, 1) := by decide +kernel
theorem dX13_ban_39 : decode cX13_ban 39 = .ok (.aload_n 0, 1) := by decide +kernel
theorem dX13_ban_40 : decode cX13_ban 40 = .ok (.getfield 10, 3) := by decide +kernel
theorem dX13_ban_43 : decode cX13_ban 43 = .ok (.iload_n 1, 1) := by decide +kernel
theorem dX13_ban_44 : decode cX13_ban 44 = .ok (.invokeinterface 87 2, 5) := by decide +kernel
theorem dX13_ban_49 : decode cX13_ban 49 = .ok (.checkcast 72, 3) := by decide +kernel
theorem dX13_ban_52 : decode cX13_ban 52 = .ok (.iload_n 2, 1) := by decide +kernel
theorem dX13_ban_53 : decode cX13_ban 53 = .ok (.putfield 114, 3) := by decide +kernel
theorem dX13_ban_56 : decode cX13_ban 56 = .ok (.aload_n 0, 1) := by decide +kernel
theorem dX13_ban_57 : decode cX13_ban 57 = .ok (.invokevirtual 81, 3) := by decide +kernel
theorem dX13_ban_60 : decode cX13_ban 60 = .ok (.iload_n 3, 1) := by decide +kernel
theorem dX13_ban_61 : decode cX13_ban 61 = .ok (.ireturn, 1) := by decide +kernel
theorem dX13_request_0 : decode cX13_request 0 = .ok (.aload_n 0, 1) := by decide +kernel
theorem dX13_request_1 : decode cX13_request 1 = .ok (.aload_n 0, 1) := by decide +kernel
theorem dX13_request_2 : decode cX13_request 2 = .ok (.iload_n 1, 1) := by decide +kernel
theorem dX13_request_3 : decode cX13_request 3 = .ok (.invokevirtual 84, 3) := by decide +kernel
theorem dX13_request_6 : decode cX13_request 6 = .ok (.ifCond .eq 7, 3) := by decide +kernel
theorem dX13_request_9 : decode cX13_request 9 = .ok (.iconst 0, 1) := by decide +kernel
theorem dX13_request_10 : decode cX13_request 10 = .ok (.goto 4, 3) := by decide +kernel
theorem dX13_request_13 : decode cX13_request 13 = .ok (.iconst 1, 1) := by decide +kernel
theorem dX13_request_14 : decode cX13_request 14 = .ok (.invokevirtual 68, 3) := by decide +kernel
theorem dX13_request_17 : decode cX13_request 17 = .ok (.ifCond .eq 5, 3) := by decide +kernel
theorem dX13_request_20 : decode cX13_request 20 = .ok (.iconst 0, 1) := by decide +kernel
theorem dX13_request_21 : decode cX13_request 21 = .ok (.ireturn, 1) := by decide +kernel
theorem dX13_request_22 : decode cX13_request 22 = .ok (.aload_n 0, 1) := by decide +kernel
theorem dX13_request_23 : decode cX13_request 23 = .ok (.getfield 10, 3) := by decide +kernel
theorem dX13_request_26 : decode cX13_request 26 = .ok (.iload_n 1, 1) := by decide +kernel
theorem dX13_request_27 : decode cX13_request 27 = .ok (.invokeinterface 87 2, 5) := by decide +kernel
theorem dX13_request_32 : decode cX13_request 32 = .ok (.checkcast 72, 3) := by decide +kernel
theorem dX13_request_35 : decode cX13_request 35 = .ok (.getfield 118, 3) := by decide +kernel
theorem dX13_request_38 : decode cX13_request 38 = .ok (.istore_n 2, 1) := by decide +kernel
theorem dX13_request_39 : decode cX13_request 39 = .ok (.aload_n 0, 1) := by decide +kernel
theorem dX13_request_40 : decode cX13_request 40 = .ok (.getfield 10, 3) := by decide +kernel
theorem dX13_request_43 : decode cX13_request 43 = .ok (.iload_n 1, 1) := by decide +kernel
theorem dX13_request_44 : decode cX13_request 44 = .ok (.invokeinterface 87 2, 5) := by decide +kernel
theorem dX13_request_49 : decode cX13_request 49 = .ok (.checkcast 72, 3) := by decide +kernel
theorem dX13_request_52 : decode cX13_request 52 = .ok (.iconst 1, 1) := by decide +kernel
theorem dX13_request_53 : decode cX13_request 53 = .ok (.putfield 118, 3) := by decide +kernel
theorem dX13_request_56 : decode cX13_request 56 = .ok (.aload_n 0, 1) := by decide +kernel
theorem dX13_request_57 : decode cX13_request 57 = .ok (.invokevirtual 81, 3) := by decide +kernel
theorem dX13_request_60 : decode cX13_request 60 = .ok (.iload_n 2, 1) := by decide +kernel
theorem dX13_request_61 : decode cX13_request 61 = .ok (.ifCond .ne 7, 3) := by decide +kernel
theorem dX13_request_64 : decode cX13_request 64 = .ok (.iconst 1, 1) := by decide +kernel
theorem dX13_request_65 : decode cX13_request 65 = .ok (.goto 4, 3) := by decide +kernel
theorem dX13_request_68 : decode cX13_request 68 = .ok (.iconst 0, 1) := by decide +kernel
theorem dX13_request_69 : decode cX13_request 69 = .ok (.ireturn, 1) := by decide +kernel
theorem dX13_load_0 : decode cX13_load 0 = .ok (.aload_n 0, 1) := by decide +kernel
theorem dX13_load_1 : decode cX13_load 1 = .ok (.iload_n 1, 1) := by decide +kernel
theorem dX13_load_2 : decode cX13_load 2 = .ok (.invokestatic 121, 3) := by decide +kernel
theorem dX13_load_5 : decode cX13_load 5 = .ok (.ifCond .eq 11, 3) := by decide +kernel
theorem dX13_load_8 : decode cX13_load 8 = .ok (.aload_n 0, 1) := by decide +kernel
theorem dX13_load_9 : decode cX13_load 9 = .ok (.iload_n 2, 1) := by decide +kernel
theorem dX13_load_10 : decode cX13_load 10 = .ok (.invokevirtual 84, 3) := by decide +kernel
theorem dX13_load_13 : decode cX13_load 13 = .ok (.ifCond .ne 7, 3) := by decide +kernel
theorem dX13_load_16 : decode cX13_load 16 = .ok (.iconst 1, 1) := by decide +kernel
theorem dX13_load_17 : decode cX13_load 17 = .ok (.goto 20, 3) := by decide +kernel
theorem dX13_load_20 : decode cX13_load 20 = .ok (.aload_n 0, 1) := by decide +kernel
theorem dX13_load_21 : decode cX13_load 21 = .ok (.getfield 19, 3) := by decide +kernel
theorem dX13_load_24 : decode cX13_load 24 = .ok (.iload_n 1, 1) := by decide +kernel
theorem dX13_load_25 : decode cX13_load 25 = .ok (.aaload, 1) := by decide +kernel
theorem dX13_load_26 : decode cX13_load 26 = .ok (.getfield 124, 3) := by decide +kernel
theorem dX13_load_29 : decode cX13_load 29 = .ok (.ifCond .eq 7, 3) := by decide +kernel
theorem dX13_load_32 : decode cX13_load 32 = .ok (.iconst 2, 1) := by decide +kernel
theorem dX13_load_33 : decode cX13_load 33 = .ok (.goto 4, 3) := by decide +kernel
theorem dX13_load_36 : decode cX13_load 36 = .ok (.iconst 0, 1) := by decide +kernel
theorem dX13_load_37 : decode cX13_load 37 = .ok (.invokevirtual 68, 3) := by decide +kernel
theorem dX13_load_40 : decode cX13_load 40 = .ok (.ifCond .eq 5, 3) := by decide +kernel
theorem dX13_load_43 : decode cX13_load 43 = .ok (.iconst 0, 1) := by decide +kernel
theorem dX13_load_44 : decode cX13_load 44 = .ok (.ireturn, 1) := by decide +kernel
theorem dX13_load_45 : decode cX13_load 45 = .ok (.aload_n 0, 1) := by decide +kernel
theorem dX13_load_46 : decode cX13_load 46 = .ok (.getfield 19, 3) := by decide +kernel
theorem dX13_load_49 : decode cX13_load 49 = .ok (.iload_n 1, 1) := by decide +kernel
theorem dX13_load_50 : decode cX13_load 50 = .ok (.aaload, 1) := by decide +kernel
theorem dX13_load_51 : decode cX13_load 51 = .ok (.getfield 127, 3) := by decide +kernel
theorem dX13_load_54 : decode cX13_load 54 = .ok (.istore_n 3, 1) := by decide +kernel
theorem dX13_load_55 : decode cX13_load 55 = .ok (.aload_n 0, 1) := by decide +kernel
theorem dX13_load_56 : decode cX13_load 56 = .ok (.getfield 19, 3) := by decide +kernel
theorem dX13_load_59 : decode cX13_load 59 = .ok (.iload_n 1, 1) := by decide +kernel
theorem dX13_load_60 : decode cX13_load 60 = .ok (.aaload, 1) := by decide +kernel
theorem dX13_load_61 : decode cX13_load 61 = .ok (.invokevirtual 130, 3) := by decide +kernel
theorem dX13_load_64 : decode cX13_load 64 = .ok (.aload_n 0, 1) := by decide +kernel
theorem dX13_load_65 : decode cX13_load 65 = .ok (.getfield 19, 3) := by decide +kernel
theorem dX13_load_68 : decode cX13_load 68 = .ok (.iload_n 1, 1) := by decide +kernel
theorem dX13_load_69 : decode cX13_load 69 = .ok (.aaload, 1) := by decide +kernel
theorem dX13_load_70 : decode cX13_load 70 = .ok (.aload_n 0, 1) := by decide +kernel
theorem dX13_load_71 : decode cX13_load 71 = .ok (.getfield 10, 3) := by decide +kernel
theorem dX13_load_74 : decode cX13_load 74 = .ok (.iload_n 2, 1) := by decide +kernel
theorem dX13_load_75 : decode cX13_load 75 = .ok (.invokeinterface 87 2, 5) := by decide +kernel
theorem dX13_load_80 : decode cX13_load 80 = .ok (.checkcast 72, 3) := by decide +kernel
theorem dX13_load_83 : decode cX13_load 83 = .ok (.putfield 60, 3) := by decide +kernel
theorem dX13_load_86 : decode cX13_load 86 = .ok (.aload_n 0, 1) := by decide +kernel
theorem dX13_load_87 : decode cX13_load 87 = .ok (.getfield 19, 3) := by decide +kernel
theorem dX13_load_90 : decode cX13_load 90 = .ok (.iload_n 1, 1) := by decide +kernel
theorem dX13_load_91 : decode cX13_load 91 = .ok (.aaload, 1) := by decide +kernel
theorem dX13_load_92 : decode cX13_load 92 = .ok (.iload_n 2, 1) := by decide +kernel
theorem dX13_load_93 : decode cX13_load 93 = .ok (.putfield 127, 3) := by decide +kernel
theorem dX13_load_96 : decode cX13_load 96 = .ok (.aload_n 0, 1) := by decide +kernel
theorem dX13_load_97 : decode cX13_load 97 = .ok (.invokevirtual 81, 3) := by decide +kernel
theorem dX13_load_100 : decode cX13_load 100 = .ok (.iload_n 3, 1) := by decide +kernel
theorem dX13_load_101 : decode cX13_load 101 = .ok (.ireturn, 1) := by decide +kernel
theorem dX13_isNoRecord_0 : decode cX13_isNoRecord 0 = .ok (.aload_n 0, 1) := by decide +kernel
theorem dX13_isNoRecord_1 : decode cX13_isNoRecord 1 = .ok (.iload_n 1, 1) := by decide +kernel
theorem dX13_isNoRecord_2 : decode cX13_isNoRecord 2 = .ok (.invokestatic 121, 3) := by decide +kernel
theorem dX13_isNoRecord_5 : decode cX13_isNoRecord 5 = .ok (.ifCond .ne 7, 3) := by decide +kernel
theorem dX13_isNoRecord_8 : decode cX13_isNoRecord 8 = .ok (.iconst 1, 1) := by decide +kernel
theorem dX13_isNoRecord_9 : decode cX13_isNoRecord 9 = .ok (.goto 16, 3) := by decide +kernel
theorem dX13_isNoRecord_12 : decode cX13_isNoRecord 12 = .ok (.aload_n 0, 1) := by decide +kernel
theorem dX13_isNoRecord_13 : decode cX13_isNoRecord 13 = .ok (.iload_n 1, 1) := by decide +kernel
theorem dX13_isNoRecord_14 : decode cX13_isNoRecord 14 = .ok (.invokevirtual 133, 3) := by decide +kernel
theorem dX13_isNoRecord_17 : decode cX13_isNoRecord 17 = .ok (.ifCond .eq 7, 3) := by decide +kernel
theorem dX13_isNoRecord_20 : decode cX13_isNoRecord 20 = .ok (.iconst 2, 1) := by decide +kernel
theorem dX13_isNoRecord_21 : decode cX13_isNoRecord 21 = .ok (.goto 4, 3) := by decide +kernel
theorem dX13_isNoRecord_24 : decode cX13_isNoRecord 24 = .ok (.iconst 0, 1) := by decide +kernel
theorem dX13_isNoRecord_25 : decode cX13_isNoRecord 25 = .ok (.invokevirtual 68, 3) := by decide +kernel
theorem dX13_isNoRecord_28 : decode cX13_isNoRecord 28 = .ok (.ireturn, 1) := by decide +kernel
theorem dX13_play_0 : decode cX13_play 0 = .ok (.aload_n 0, 1) := by decide +kernel
theorem dX13_play_1 : decode cX13_play 1 = .ok (.iload_n 1, 1) := by decide +kernel
theorem dX13_play_2 : decode cX13_play 2 = .ok (.invokevirtual 136, 3) := by decide +kernel
theorem dX13_play_5 : decode cX13_play 5 = .ok (.ifCond .eq 5, 3) := by decide +kernel
theorem dX13_play_8 : decode cX13_play 8 = .ok (.iconst 0, 1) := by decide +kernel
theorem dX13_play_9 : decode cX13_play 9 = .ok (.ireturn, 1) := by decide +kernel
theorem dX13_play_10 : decode cX13_play 10 = .ok (.aload_n 0, 1) := by decide +kernel
theorem dX13_play_11 : decode cX13_play 11 = .ok (.invokevirtual 81, 3) := by decide +kernel
theorem dX13_play_14 : decode cX13_play 14 = .ok (.aload_n 0, 1) := by decide +kernel
theorem dX13_play_15 : decode cX13_play 15 = .ok (.getfield 19, 3) := by decide +kernel
theorem dX13_play_18 : decode cX13_play 18 = .ok (.iload_n 1, 1) := by decide +kernel
theorem dX13_play_19 : decode cX13_play 19 = .ok (.aaload, 1) := by decide +kernel
theorem dX13_play_20 : decode cX13_play 20 = .ok (.invokevirtual 139, 3) := by decide +kernel
theorem dX13_play_23 : decode cX13_play 23 = .ok (.ireturn, 1) := by decide +kernel
theorem dX13_stop_0 : decode cX13_stop 0 = .ok (.aload_n 0, 1) := by decide +kernel
theorem dX13_stop_1 : decode cX13_stop 1 = .ok (.iload_n 1, 1) := by decide +kernel
theorem dX13_stop_2 : decode cX13_stop 2 = .ok (.invokestatic 121, 3) := by decide +kernel
theorem dX13_stop_5 : decode cX13_stop 5 = .ok (.ifCond .eq 7, 3) := by decide +kernel
theorem dX13_stop_8 : decode cX13_stop 8 = .ok (.iconst 0, 1) := by decide +kernel
theorem dX13_stop_9 : decode cX13_stop 9 = .ok (.goto 4, 3) := by decide +kernel
theorem dX13_stop_12 : decode cX13_stop 12 = .ok (.iconst 1, 1) := by decide +kernel
theorem dX13_stop_13 : decode cX13_stop 13 = .ok (.invokevirtual 68, 3) := by decide +kernel
theorem dX13_stop_16 : decode cX13_stop 16 = .ok (.ifCond .eq 5, 3) := by decide +kernel
theorem dX13_stop_19 : decode cX13_stop 19 = .ok (.iconst 0, 1) := by decide +kernel
theorem dX13_stop_20 : decode cX13_stop 20 = .ok (.ireturn, 1) := by decide +kernel
theorem dX13_stop_21 : decode cX13_stop 21 = .ok (.aload_n 0, 1) := by decide +kernel
theorem dX13_stop_22 : decode cX13_stop 22 = .ok (.getfield 19, 3) := by decide +kernel
theorem dX13_stop_25 : decode cX13_stop 25 = .ok (.iload_n 1, 1) := by decide +kernel
theorem dX13_stop_26 : decode cX13_stop 26 = .ok (.aaload, 1) := by decide +kernel
theorem dX13_stop_27 : decode cX13_stop 27 = .ok (.getfield 124, 3) := by decide +kernel
theorem dX13_stop_30 : decode cX13_stop 30 = .ok (.istore_n 2, 1) := by decide +kernel
theorem dX13_stop_31 : decode cX13_stop 31 = .ok (.aload_n 0, 1) := by decide +kernel
theorem dX13_stop_32 : decode cX13_stop 32 = .ok (.getfield 19, 3) := by decide +kernel
theorem dX13_stop_35 : decode cX13_stop 35 = .ok (.iload_n 1, 1) := by decide +kernel
theorem dX13_stop_36 : decode cX13_stop 36 = .ok (.aaload, 1) := by decide +kernel
theorem dX13_stop_37 : decode cX13_stop 37 = .ok (.invokevirtual 143, 3) := by decide +kernel
theorem dX13_stop_40 : decode cX13_stop 40 = .ok (.aload_n 0, 1) := by decide +kernel
theorem dX13_stop_41 : decode cX13_stop 41 = .ok (.invokevirtual 81, 3) := by decide +kernel
theorem dX13_stop_44 : decode cX13_stop 44 = .ok (.iload_n 2, 1) := by decide +kernel
theorem dX13_stop_45 : decode cX13_stop 45 = .ok (.ireturn, 1) := by decide +kernel
theorem dX13_setPitch_0 : decode cX13_setPitch 0 = .ok (.aload_n 0, 1) := by decide +kernel
theorem dX13_setPitch_1 : decode cX13_setPitch 1 = .ok (.iload_n 1, 1) := by decide +kernel
theorem dX13_setPitch_2 : decode cX13_setPitch 2 = .ok (.invokestatic 121, 3) := by decide +kernel
theorem dX13_setPitch_5 : decode cX13_setPitch 5 = .ok (.ifCond .ne 7, 3) := by decide +kernel
theorem dX13_setPitch_8 : decode cX13_setPitch 8 = .ok (.iconst 1, 1) := by decide +kernel
theorem dX13_setPitch_9 : decode cX13_setPitch 9 = .ok (.goto 21, 3) := by decide +kernel
theorem dX13_setPitch_12 : decode cX13_setPitch 12 = .ok (.iload_n 2, 1) := by decide +kernel
theorem dX13_setPitch_13 : decode cX13_setPitch 13 = .ok (.sipush (-160), 3) := by decide +kernel
theorem dX13_setPitch_16 : decode cX13_setPitch 16 = .ok (.sipush 160, 3) := by decide +kernel
theorem dX13_setPitch_19 : decode cX13_setPitch 19 = .ok (.invokestatic 50, 3) := by decide +kernel
theorem dX13_setPitch_22 : decode cX13_setPitch 22 = .ok (.ifCond .ne 7, 3) := by decide +kernel
theorem dX13_setPitch_25 : decode cX13_setPitch 25 = .ok (.iconst 2, 1) := by decide +kernel
theorem dX13_setPitch_26 : decode cX13_setPitch 26 = .ok (.goto 4, 3) := by decide +kernel
theorem dX13_setPitch_29 : decode cX13_setPitch 29 = .ok (.iconst 0, 1) := by decide +kernel
theorem dX13_setPitch_30 : decode cX13_setPitch 30 = .ok (.invokevirtual 68, 3) := by decide +kernel
theorem dX13_setPitch_33 : decode cX13_setPitch 33 = .ok (.ifCond .eq 5, 3) := by decide +kernel
theorem dX13_setPitch_36 : decode cX13_setPitch 36 = .ok (.iconst 0, 1) := by decide +kernel
theorem dX13_setPitch_37 : decode cX13_setPitch 37 = .ok (.ireturn, 1) := by decide +kernel
theorem dX13_setPitch_38 : decode cX13_setPitch 38 = .ok (.aload_n 0, 1) := by decide +kernel
theorem dX13_setPitch_39 : decode cX13_setPitch 39 = .ok (.getfield 19, 3) := by decide +kernel
theorem dX13_setPitch_42 : decode cX13_setPitch 42 = .ok (.iload_n 1, 1) := by decide +kernel
theorem dX13_setPitch_43 : decode cX13_setPitch 43 = .ok (.aaload, 1) := by decide +kernel
theorem dX13_setPitch_44 : decode cX13_setPitch 44 = .ok (.getfield 146, 3) := by decide +kernel
theorem dX13_setPitch_47 : decode cX13_setPitch 47 = .ok (.istore_n 3, 1) := by decide +kernel
theorem dX13_setPitch_48 : decode cX13_setPitch 48 = .ok (.aload_n 0, 1) := by decide +kernel
theorem dX13_setPitch_49 : decode cX13_setPitch 49 = .ok (.getfield 19, 3) := by decide +kernel
theorem dX13_setPitch_52 : decode cX13_setPitch 52 = .ok (.iload_n 1, 1) := by decide +kernel
theorem dX13_setPitch_53 : decode cX13_setPitch 53 = .ok (.aaload, 1) := by decide +kernel
theorem dX13_setPitch_54 : decode cX13_setPitch 54 = .ok (.iload_n 2, 1) := by decide +kernel
theorem dX13_setPitch_55 : decode cX13_setPitch 55 = .ok (.putfield 146, 3) := by decide +kernel
theorem dX13_setPitch_58 : decode cX13_setPitch 58 = .ok (.aload_n 0, 1) := by decide +kernel
theorem dX13_setPitch_59 : decode cX13_setPitch 59 = .ok (.invokevirtual 81, 3) := by decide +kernel
theorem dX13_setPitch_62 : decode cX13_setPitch 62 = .ok (.iload_n 3, 1) := by decide +kernel
theorem dX13_setPitch_63 : decode cX13_setPitch 63 = .ok (.ireturn, 1) := by decide +kernel
theorem dX13_nudge_0 : decode cX13_nudge 0 = .ok (.aload_n 0, 1) := by decide +kernel
theorem dX13_nudge_1 : decode cX13_nudge 1 = .ok (.iload_n 1, 1) := by decide +kernel
theorem dX13_nudge_2 : decode cX13_nudge 2 = .ok (.invokestatic 121, 3) := by decide +kernel
theorem dX13_nudge_5 : decode cX13_nudge 5 = .ok (.ifCond .ne 7, 3) := by decide +kernel
theorem dX13_nudge_8 : decode cX13_nudge 8 = .ok (.iconst 1, 1) := by decide +kernel
theorem dX13_nudge_9 : decode cX13_nudge 9 = .ok (.goto 33, 3) := by decide +kernel
theorem dX13_nudge_12 : decode cX13_nudge 12 = .ok (.iload_n 2, 1) := by decide +kernel
theorem dX13_nudge_13 : decode cX13_nudge 13 = .ok (.sipush (-200), 3) := by decide +kernel
theorem dX13_nudge_16 : decode cX13_nudge 16 = .ok (.sipush 200, 3) := by decide +kernel
theorem dX13_nudge_19 : decode cX13_nudge 19 = .ok (.invokestatic 50, 3) := by decide +kernel
theorem dX13_nudge_22 : decode cX13_nudge 22 = .ok (.ifCond .ne 7, 3) := by decide +kernel
theorem dX13_nudge_25 : decode cX13_nudge 25 = .ok (.iconst 2, 1) := by decide +kernel
theorem dX13_nudge_26 : decode cX13_nudge 26 = .ok (.goto 16, 3) := by decide +kernel
theorem dX13_nudge_29 : decode cX13_nudge 29 = .ok (.aload_n 0, 1) := by decide +kernel
theorem dX13_nudge_30 : decode cX13_nudge 30 = .ok (.iload_n 1, 1) := by decide +kernel
theorem dX13_nudge_31 : decode cX13_nudge 31 = .ok (.invokevirtual 133, 3) := by decide +kernel
theorem dX13_nudge_34 : decode cX13_nudge 34 = .ok (.ifCond .eq 7, 3) := by decide +kernel
theorem dX13_nudge_37 : decode cX13_nudge 37 = .ok (.iconst 3, 1) := by decide +kernel
theorem dX13_nudge_38 : decode cX13_nudge 38 = .ok (.goto 4, 3) := by decide +kernel
theorem dX13_nudge_41 : decode cX13_nudge 41 = .ok (.iconst 0, 1) := by decide +kernel
theorem dX13_nudge_42 : decode cX13_nudge 42 = .ok (.invokevirtual 68, 3) := by decide +kernel
theorem dX13_nudge_45 : decode cX13_nudge 45 = .ok (.ifCond .eq 5, 3) := by decide +kernel
theorem dX13_nudge_48 : decode cX13_nudge 48 = .ok (.iconst 0, 1) := by decide +kernel
theorem dX13_nudge_49 : decode cX13_nudge 49 = .ok (.ireturn, 1) := by decide +kernel
theorem dX13_nudge_50 : decode cX13_nudge 50 = .ok (.aload_n 0, 1) := by decide +kernel
theorem dX13_nudge_51 : decode cX13_nudge 51 = .ok (.getfield 19, 3) := by decide +kernel
theorem dX13_nudge_54 : decode cX13_nudge 54 = .ok (.iload_n 1, 1) := by decide +kernel
theorem dX13_nudge_55 : decode cX13_nudge 55 = .ok (.aaload, 1) := by decide +kernel
theorem dX13_nudge_56 : decode cX13_nudge 56 = .ok (.getfield 149, 3) := by decide +kernel
theorem dX13_nudge_59 : decode cX13_nudge 59 = .ok (.istore_n 3, 1) := by decide +kernel
theorem dX13_nudge_60 : decode cX13_nudge 60 = .ok (.aload_n 0, 1) := by decide +kernel
theorem dX13_nudge_61 : decode cX13_nudge 61 = .ok (.getfield 19, 3) := by decide +kernel
theorem dX13_nudge_64 : decode cX13_nudge 64 = .ok (.iload_n 1, 1) := by decide +kernel
theorem dX13_nudge_65 : decode cX13_nudge 65 = .ok (.aaload, 1) := by decide +kernel
theorem dX13_nudge_66 : decode cX13_nudge 66 = .ok (.iload_n 2, 1) := by decide +kernel
theorem dX13_nudge_67 : decode cX13_nudge 67 = .ok (.putfield 149, 3) := by decide +kernel
theorem dX13_nudge_70 : decode cX13_nudge 70 = .ok (.aload_n 0, 1) := by decide +kernel
theorem dX13_nudge_71 : decode cX13_nudge 71 = .ok (.invokevirtual 81, 3) := by decide +kernel
theorem dX13_nudge_74 : decode cX13_nudge 74 = .ok (.iload_n 3, 1) := by decide +kernel
theorem dX13_nudge_75 : decode cX13_nudge 75 = .ok (.ireturn, 1) := by decide +kernel
theorem dX13_brake_0 : decode cX13_brake 0 = .ok (.aload_n 0, 1) := by decide +kernel
theorem dX13_brake_1 : decode cX13_brake 1 = .ok (.iload_n 1, 1) := by decide +kernel
theorem dX13_brake_2 : decode cX13_brake 2 = .ok (.invokevirtual 136, 3) := by decide +kernel
theorem dX13_brake_5 : decode cX13_brake 5 = .ok (.ifCond .eq 5, 3) := by decide +kernel
theorem dX13_brake_8 : decode cX13_brake 8 = .ok (.iconst 0, 1) := by decide +kernel
theorem dX13_brake_9 : decode cX13_brake 9 = .ok (.ireturn, 1) := by decide +kernel
theorem dX13_brake_10 : decode cX13_brake 10 = .ok (.aload_n 0, 1) := by decide +kernel
theorem dX13_brake_11 : decode cX13_brake 11 = .ok (.getfield 19, 3) := by decide +kernel
theorem dX13_brake_14 : decode cX13_brake 14 = .ok (.iload_n 1, 1) := by decide +kernel
theorem dX13_brake_15 : decode cX13_brake 15 = .ok (.aaload, 1) := by decide +kernel
theorem dX13_brake_16 : decode cX13_brake 16 = .ok (.getfield 124, 3) := by decide +kernel
theorem dX13_brake_19 : decode cX13_brake 19 = .ok (.ifCond .eq 13, 3) := by decide +kernel
theorem dX13_brake_22 : decode cX13_brake 22 = .ok (.aload_n 0, 1) := by decide +kernel
theorem dX13_brake_23 : decode cX13_brake 23 = .ok (.getfield 19, 3) := by decide +kernel
theorem dX13_brake_26 : decode cX13_brake 26 = .ok (.iload_n 1, 1) := by decide +kernel
theorem dX13_brake_27 : decode cX13_brake 27 = .ok (.aaload, 1) := by decide +kernel
theorem dX13_brake_28 : decode cX13_brake 28 = .ok (.iconst 0, 1) := by decide +kernel
theorem dX13_brake_29 : decode cX13_brake 29 = .ok (.putfield 152, 3) := by decide +kernel
theorem dX13_brake_32 : decode cX13_brake 32 = .ok (.aload_n 0, 1) := by decide +kernel
theorem dX13_brake_33 : decode cX13_brake 33 = .ok (.invokevirtual 81, 3) := by decide +kernel
theorem dX13_brake_36 : decode cX13_brake 36 = .ok (.aload_n 0, 1) := by decide +kernel
theorem dX13_brake_37 : decode cX13_brake 37 = .ok (.getfield 19, 3) := by decide +kernel
theorem dX13_brake_40 : decode cX13_brake 40 = .ok (.iload_n 1, 1) := by decide +kernel
theorem dX13_brake_41 : decode cX13_brake 41 = .ok (.aaload, 1) := by decide +kernel
theorem dX13_brake_42 : decode cX13_brake 42 = .ok (.getfield 124, 3) := by decide +kernel
theorem dX13_brake_45 : decode cX13_brake 45 = .ok (.ireturn, 1) := by decide +kernel
theorem dX13_jump_0 : decode cX13_jump 0 = .ok (.aload_n 0, 1) := by decide +kernel
theorem dX13_jump_1 : decode cX13_jump 1 = .ok (.iload_n 1, 1) := by decide +kernel
theorem dX13_jump_2 : decode cX13_jump 2 = .ok (.invokevirtual 136, 3) := by decide +kernel
theorem dX13_jump_5 : decode cX13_jump 5 = .ok (.ifCond .ne 37, 3) := by decide +kernel
theorem dX13_jump_8 : decode cX13_jump 8 = .ok (.aload_n 0, 1) := by decide +kernel
theorem dX13_jump_9 : decode cX13_jump 9 = .ok (.iload_n 2, 1) := by decide +kernel
theorem dX13_jump_10 : decode cX13_jump 10 = .ok (.iconst 0, 1) := by decide +kernel
theorem dX13_jump_11 : decode cX13_jump 11 = .ok (.aload_n 0, 1) := by decide +kernel
theorem dX13_jump_12 : decode cX13_jump 12 = .ok (.getfield 19, 3) := by decide +kernel
theorem dX13_jump_15 : decode cX13_jump 15 = .ok (.iload_n 1, 1) := by decide +kernel
theorem dX13_jump_16 : decode cX13_jump 16 = .ok (.aaload, 1) := by decide +kernel
theorem dX13_jump_17 : decode cX13_jump 17 = .ok (.getfield 60, 3) := by decide +kernel
theorem dX13_jump_20 : decode cX13_jump 20 = .ok (.getfield 155, 3) := by decide +kernel
theorem dX13_jump_23 : decode cX13_jump 23 = .ok (.iconst 1, 1) := by decide +kernel
theorem dX13_jump_24 : decode cX13_jump 24 = .ok (.isub, 1) := by decide +kernel
theorem dX13_jump_25 : decode cX13_jump 25 = .ok (.invokestatic 50, 3) := by decide +kernel
theorem dX13_jump_28 : decode cX13_jump 28 = .ok (.ifCond .eq 7, 3) := by decide +kernel
theorem dX13_jump_31 : decode cX13_jump 31 = .ok (.iconst 0, 1) := by decide +kernel
theorem dX13_jump_32 : decode cX13_jump 32 = .ok (.goto 4, 3) := by decide +kernel
theorem dX13_jump_35 : decode cX13_jump 35 = .ok (.iconst 3, 1) := by decide +kernel
theorem dX13_jump_36 : decode cX13_jump 36 = .ok (.invokevirtual 68, 3) := by decide +kernel
theorem dX13_jump_39 : decode cX13_jump 39 = .ok (.ifCond .eq 5, 3) := by decide +kernel
theorem dX13_jump_42 : decode cX13_jump 42 = .ok (.iconst 0, 1) := by decide +kernel
theorem dX13_jump_43 : decode cX13_jump 43 = .ok (.ireturn, 1) := by decide +kernel
theorem dX13_jump_44 : decode cX13_jump 44 = .ok (.aload_n 0, 1) := by decide +kernel
theorem dX13_jump_45 : decode cX13_jump 45 = .ok (.getfield 19, 3) := by decide +kernel
theorem dX13_jump_48 : decode cX13_jump 48 = .ok (.iload_n 1, 1) := by decide +kernel
theorem dX13_jump_49 : decode cX13_jump 49 = .ok (.aaload, 1) := by decide +kernel
theorem dX13_jump_50 : decode cX13_jump 50 = .ok (.invokevirtual 158, 3) := by decide +kernel
theorem dX13_jump_53 : decode cX13_jump 53 = .ok (.istore_n 3, 1) := by decide +kernel
theorem dX13_jump_54 : decode cX13_jump 54 = .ok (.aload_n 0, 1) := by decide +kernel
theorem dX13_jump_55 : decode cX13_jump 55 = .ok (.getfield 19, 3) := by decide +kernel
theorem dX13_jump_58 : decode cX13_jump 58 = .ok (.iload_n 1, 1) := by decide +kernel
theorem dX13_jump_59 : decode cX13_jump 59 = .ok (.aaload, 1) := by decide +kernel
theorem dX13_jump_60 : decode cX13_jump 60 = .ok (.iload_n 2, 1) := by decide +kernel
theorem dX13_jump_61 : decode cX13_jump 61 = .ok (.i2l, 1) := by decide +kernel
theorem dX13_jump_62 : decode cX13_jump 62 = .ok (.ldc2_w 161, 3) := by decide +kernel
theorem dX13_jump_65 : decode cX13_jump 65 = .ok (.lmul, 1) := by decide +kernel
theorem dX13_jump_66 : decode cX13_jump 66 = .ok (.putfield 163, 3) := by decide +kernel
theorem dX13_jump_69 : decode cX13_jump 69 = .ok (.aload_n 0, 1) := by decide +kernel
theorem dX13_jump_70 : decode cX13_jump 70 = .ok (.invokevirtual 81, 3) := by decide +kernel
theorem dX13_jump_73 : decode cX13_jump 73 = .ok (.iload_n 3, 1) := by decide +kernel
theorem dX13_jump_74 : decode cX13_jump 74 = .ok (.ireturn, 1) := by decide +kernel
theorem dX13_nearest_0 : decode cX13_nearest 0 = .ok (.aload_n 0, 1) := by decide +kernel
theorem dX13_nearest_1 : decode cX13_nearest 1 = .ok (.getfield 163, 3) := by decide +kernel
theorem dX13_nearest_4 : decode cX13_nearest 4 = .ok (.ldc2_w 167, 3) := by decide +kernel
theorem dX13_nearest_7 : decode cX13_nearest 7 = .ok (.ladd, 1) := by decide +kernel
theorem dX13_nearest_8 : decode cX13_nearest 8 = .ok (.ldc2_w 161, 3) := by decide +kernel
theorem dX13_nearest_11 : decode cX13_nearest 11 = .ok (.ldiv, 1) := by decide +kernel
theorem dX13_nearest_12 : decode cX13_nearest 12 = .ok (.aload_n 0, 1) := by decide +kernel
theorem dX13_nearest_13 : decode cX13_nearest 13 = .ok (.getfield 60, 3) := by decide +kernel
theorem dX13_nearest_16 : decode cX13_nearest 16 = .ok (.getfield 155, 3) := by decide +kernel
theorem dX13_nearest_19 : decode cX13_nearest 19 = .ok (.iconst 1, 1) := by decide +kernel
theorem dX13_nearest_20 : decode cX13_nearest 20 = .ok (.isub, 1) := by decide +kernel
theorem dX13_nearest_21 : decode cX13_nearest 21 = .ok (.i2l, 1) := by decide +kernel
theorem dX13_nearest_22 : decode cX13_nearest 22 = .ok (.invokestatic 169, 3) := by decide +kernel
theorem dX13_nearest_25 : decode cX13_nearest 25 = .ok (.l2i, 1) := by decide +kernel
theorem dX13_nearest_26 : decode cX13_nearest 26 = .ok (.ireturn, 1) := by decide +kernel
theorem dX13_setCue_0 : decode cX13_setCue 0 = .ok (.aload_n 0, 1) := by decide +kernel
theorem dX13_setCue_1 : decode cX13_setCue 1 = .ok (.iload_n 1, 1) := by decide +kernel
theorem dX13_setCue_2 : decode cX13_setCue 2 = .ok (.invokestatic 121, 3) := by decide +kernel
theorem dX13_setCue_5 : decode cX13_setCue 5 = .ok (.ifCond .ne 7, 3) := by decide +kernel
theorem dX13_setCue_8 : decode cX13_setCue 8 = .ok (.iconst 1, 1) := by decide +kernel
theorem dX13_setCue_9 : decode cX13_setCue 9 = .ok (.goto 29, 3) := by decide +kernel
theorem dX13_setCue_12 : decode cX13_setCue 12 = .ok (.iload_n 2, 1) := by decide +kernel
theorem dX13_setCue_13 : decode cX13_setCue 13 = .ok (.iconst 0, 1) := by decide +kernel
theorem dX13_setCue_14 : decode cX13_setCue 14 = .ok (.iconst 3, 1) := by decide +kernel
theorem dX13_setCue_15 : decode cX13_setCue 15 = .ok (.invokestatic 50, 3) := by decide +kernel
theorem dX13_setCue_18 : decode cX13_setCue 18 = .ok (.ifCond .ne 7, 3) := by decide +kernel
theorem dX13_setCue_21 : decode cX13_setCue 21 = .ok (.iconst 2, 1) := by decide +kernel
theorem dX13_setCue_22 : decode cX13_setCue 22 = .ok (.goto 16, 3) := by decide +kernel
theorem dX13_setCue_25 : decode cX13_setCue 25 = .ok (.aload_n 0, 1) := by decide +kernel
theorem dX13_setCue_26 : decode cX13_setCue 26 = .ok (.iload_n 1, 1) := by decide +kernel
theorem dX13_setCue_27 : decode cX13_setCue 27 = .ok (.invokevirtual 133, 3) := by decide +kernel
theorem dX13_setCue_30 : decode cX13_setCue 30 = .ok (.ifCond .eq 7, 3) := by decide +kernel
theorem dX13_setCue_33 : decode cX13_setCue 33 = .ok (.iconst 3, 1) := by decide +kernel
theorem dX13_setCue_34 : decode cX13_setCue 34 = .ok (.goto 4, 3) := by decide +kernel
theorem dX13_setCue_37 : decode cX13_setCue 37 = .ok (.iconst 0, 1) := by decide +kernel
theorem dX13_setCue_38 : decode cX13_setCue 38 = .ok (.invokevirtual 68, 3) := by decide +kernel
theorem dX13_setCue_41 : decode cX13_setCue 41 = .ok (.ifCond .eq 5, 3) := by decide +kernel
theorem dX13_setCue_44 : decode cX13_setCue 44 = .ok (.iconst 0, 1) := by decide +kernel
theorem dX13_setCue_45 : decode cX13_setCue 45 = .ok (.ireturn, 1) := by decide +kernel
theorem dX13_setCue_46 : decode cX13_setCue 46 = .ok (.aload_n 0, 1) := by decide +kernel
theorem dX13_setCue_47 : decode cX13_setCue 47 = .ok (.getfield 19, 3) := by decide +kernel
theorem dX13_setCue_50 : decode cX13_setCue 50 = .ok (.iload_n 1, 1) := by decide +kernel
theorem dX13_setCue_51 : decode cX13_setCue 51 = .ok (.aaload, 1) := by decide +kernel
theorem dX13_setCue_52 : decode cX13_setCue 52 = .ok (.invokestatic 172, 3) := by decide +kernel
theorem dX13_setCue_55 : decode cX13_setCue 55 = .ok (.istore_n 3, 1) := by decide +kernel
theorem dX13_setCue_56 : decode cX13_setCue 56 = .ok (.aload_n 0, 1) := by decide +kernel
theorem dX13_setCue_57 : decode cX13_setCue 57 = .ok (.getfield 19, 3) := by decide +kernel
theorem dX13_setCue_60 : decode cX13_setCue 60 = .ok (.iload_n 1, 1) := by decide +kernel
theorem dX13_setCue_61 : decode cX13_setCue 61 = .ok (.aaload, 1) := by decide +kernel
theorem dX13_setCue_62 : decode cX13_setCue 62 = .ok (.getfield 176, 3) := by decide +kernel
theorem dX13_setCue_65 : decode cX13_setCue 65 = .ok (.iload_n 2, 1) := by decide +kernel
theorem dX13_setCue_66 : decode cX13_setCue 66 = .ok (.iload_n 3, 1) := by decide +kernel
theorem dX13_setCue_67 : decode cX13_setCue 67 = .ok (.iastore, 1) := by decide +kernel
theorem dX13_setCue_68 : decode cX13_setCue 68 = .ok (.aload_n 0, 1) := by decide +kernel
theorem dX13_setCue_69 : decode cX13_setCue 69 = .ok (.invokevirtual 81, 3) := by decide +kernel
theorem dX13_setCue_72 : decode cX13_setCue 72 = .ok (.iload_n 3, 1) := by decide +kernel
theorem dX13_setCue_73 : decode cX13_setCue 73 = .ok (.ireturn, 1) := by decide +kernel
theorem dX13_loops_0 : decode cX13_loops 0 = .ok (.aload_n 0, 1) := by decide +kernel
theorem dX13_loops_1 : decode cX13_loops 1 = .ok (.invokevirtual 158, 3) := by decide +kernel
theorem dX13_loops_4 : decode cX13_loops 4 = .ok (.iconst 1, 1) := by decide +kernel
theorem dX13_loops_5 : decode cX13_loops 5 = .ok (.iload_n 1, 1) := by decide +kernel
theorem dX13_loops_6 : decode cX13_loops 6 = .ok (.ishl, 1) := by decide +kernel
theorem dX13_loops_7 : decode cX13_loops 7 = .ok (.iadd, 1) := by decide +kernel
theorem dX13_loops_8 : decode cX13_loops 8 = .ok (.istore_n 2, 1) := by decide +kernel
theorem dX13_loops_9 : decode cX13_loops 9 = .ok (.iload_n 2, 1) := by decide +kernel
theorem dX13_loops_10 : decode cX13_loops 10 = .ok (.aload_n 0, 1) := by decide +kernel
theorem dX13_loops_11 : decode cX13_loops 11 = .ok (.getfield 60, 3) := by decide +kernel
theorem dX13_loops_14 : decode cX13_loops 14 = .ok (.getfield 155, 3) := by decide +kernel
theorem dX13_loops_17 : decode cX13_loops 17 = .ok (.if_icmp .le 5, 3) := by decide +kernel
theorem dX13_loops_20 : decode cX13_loops 20 = .ok (.iconst 0, 1) := by decide +kernel
theorem dX13_loops_21 : decode cX13_loops 21 = .ok (.ireturn, 1) := by decide +kernel
theorem dX13_loops_22 : decode cX13_loops 22 = .ok (.aload_n 0, 1) := by decide +kernel
theorem dX13_loops_23 : decode cX13_loops 23 = .ok (.iload_n 2, 1) := by decide +kernel
theorem dX13_loops_24 : decode cX13_loops 24 = .ok (.i2l, 1) := by decide +kernel
theorem dX13_loops_25 : decode cX13_loops 25 = .ok (.ldc2_w 161, 3) := by decide +kernel
theorem dX13_loops_28 : decode cX13_loops 28 = .ok (.lmul, 1) := by decide +kernel
theorem dX13_loops_29 : decode cX13_loops 29 = .ok (.putfield 179, 3) := by decide +kernel
theorem dX13_loops_32 : decode cX13_loops 32 = .ok (.aload_n 0, 1) := by decide +kernel
theorem dX13_loops_33 : decode cX13_loops 33 = .ok (.iconst 1, 1) := by decide +kernel
theorem dX13_loops_34 : decode cX13_loops 34 = .ok (.iload_n 1, 1) := by decide +kernel
theorem dX13_loops_35 : decode cX13_loops 35 = .ok (.ishl, 1) := by decide +kernel
theorem dX13_loops_36 : decode cX13_loops 36 = .ok (.i2l, 1) := by decide +kernel
theorem dX13_loops_37 : decode cX13_loops 37 = .ok (.ldc2_w 161, 3) := by decide +kernel
theorem dX13_loops_40 : decode cX13_loops 40 = .ok (.lmul, 1) := by decide +kernel
theorem dX13_loops_41 : decode cX13_loops 41 = .ok (.putfield 182, 3) := by decide +kernel
theorem dX13_loops_44 : decode cX13_loops 44 = .ok (.iconst 1, 1) := by decide +kernel
theorem dX13_loops_45 : decode cX13_loops 45 = .ok (.ireturn, 1) := by decide +kernel
theorem dX13_loop_0 : decode cX13_loop 0 = .ok (.aload_n 0, 1) := by decide +kernel
theorem dX13_loop_1 : decode cX13_loop 1 = .ok (.iload_n 1, 1) := by decide +kernel
theorem dX13_loop_2 : decode cX13_loop 2 = .ok (.invokestatic 121, 3) := by decide +kernel
theorem dX13_loop_5 : decode cX13_loop 5 = .ok (.ifCond .ne 7, 3) := by decide +kernel
theorem dX13_loop_8 : decode cX13_loop 8 = .ok (.iconst 1, 1) := by decide +kernel
theorem dX13_loop_9 : decode cX13_loop 9 = .ok (.goto 30, 3) := by decide +kernel
theorem dX13_loop_12 : decode cX13_loop 12 = .ok (.iload_n 2, 1) := by decide +kernel
theorem dX13_loop_13 : decode cX13_loop 13 = .ok (.iconst 0, 1) := by decide +kernel
theorem dX13_loop_14 : decode cX13_loop 14 = .ok (.bipush 6, 2) := by decide +kernel
theorem dX13_loop_16 : decode cX13_loop 16 = .ok (.invokestatic 50, 3) := by decide +kernel
theorem dX13_loop_19 : decode cX13_loop 19 = .ok (.ifCond .ne 7, 3) := by decide +kernel
theorem dX13_loop_22 : decode cX13_loop 22 = .ok (.iconst 2, 1) := by decide +kernel
theorem dX13_loop_23 : decode cX13_loop 23 = .ok (.goto 16, 3) := by decide +kernel
theorem dX13_loop_26 : decode cX13_loop 26 = .ok (.aload_n 0, 1) := by decide +kernel
theorem dX13_loop_27 : decode cX13_loop 27 = .ok (.iload_n 1, 1) := by decide +kernel
theorem dX13_loop_28 : decode cX13_loop 28 = .ok (.invokevirtual 133, 3) := by decide +kernel
theorem dX13_loop_31 : decode cX13_loop 31 = .ok (.ifCond .eq 7, 3) := by decide +kernel
theorem dX13_loop_34 : decode cX13_loop 34 = .ok (.iconst 3, 1) := by decide +kernel
theorem dX13_loop_35 : decode cX13_loop 35 = .ok (.goto 4, 3) := by decide +kernel
theorem dX13_loop_38 : decode cX13_loop 38 = .ok (.iconst 0, 1) := by decide +kernel
theorem dX13_loop_39 : decode cX13_loop 39 = .ok (.invokevirtual 68, 3) := by decide +kernel
theorem dX13_loop_42 : decode cX13_loop 42 = .ok (.ifCond .eq 5, 3) := by decide +kernel
theorem dX13_loop_45 : decode cX13_loop 45 = .ok (.iconst 0, 1) := by decide +kernel
theorem dX13_loop_46 : decode cX13_loop 46 = .ok (.ireturn, 1) := by decide +kernel
theorem dX13_loop_47 : decode cX13_loop 47 = .ok (.aload_n 0, 1) := by decide +kernel
theorem dX13_loop_48 : decode cX13_loop 48 = .ok (.aload_n 0, 1) := by decide +kernel
theorem dX13_loop_49 : decode cX13_loop 49 = .ok (.getfield 19, 3) := by decide +kernel
theorem dX13_loop_52 : decode cX13_loop 52 = .ok (.iload_n 1, 1) := by decide +kernel
theorem dX13_loop_53 : decode cX13_loop 53 = .ok (.aaload, 1) := by decide +kernel
theorem dX13_loop_54 : decode cX13_loop 54 = .ok (.iload_n 2, 1) := by decide +kernel
theorem dX13_loop_55 : decode cX13_loop 55 = .ok (.invokestatic 185, 3) := by decide +kernel
theorem dX13_loop_58 : decode cX13_loop 58 = .ok (.ifCond .eq 7, 3) := by decide +kernel
theorem dX13_loop_61 : decode cX13_loop 61 = .ok (.iconst 0, 1) := by decide +kernel
theorem dX13_loop_62 : decode cX13_loop 62 = .ok (.goto 4, 3) := by decide +kernel
theorem dX13_loop_65 : decode cX13_loop 65 = .ok (.iconst 4, 1) := by decide +kernel
theorem dX13_loop_66 : decode cX13_loop 66 = .ok (.invokevirtual 68, 3) := by decide +kernel
theorem dX13_loop_69 : decode cX13_loop 69 = .ok (.ifCond .eq 5, 3) := by decide +kernel
theorem dX13_loop_72 : decode cX13_loop 72 = .ok (.iconst 0, 1) := by decide +kernel
theorem dX13_loop_73 : decode cX13_loop 73 = .ok (.ireturn, 1) := by decide +kernel
theorem dX13_loop_74 : decode cX13_loop 74 = .ok (.aload_n 0, 1) := by decide +kernel
theorem dX13_loop_75 : decode cX13_loop 75 = .ok (.invokevirtual 81, 3) := by decide +kernel
theorem dX13_loop_78 : decode cX13_loop 78 = .ok (.aload_n 0, 1) := by decide +kernel
theorem dX13_loop_79 : decode cX13_loop 79 = .ok (.getfield 19, 3) := by decide +kernel
theorem dX13_loop_82 : decode cX13_loop 82 = .ok (.iload_n 1, 1) := by decide +kernel
theorem dX13_loop_83 : decode cX13_loop 83 = .ok (.aaload, 1) := by decide +kernel
theorem dX13_loop_84 : decode cX13_loop 84 = .ok (.getfield 179, 3) := by decide +kernel
theorem dX13_loop_87 : decode cX13_loop 87 = .ok (.ldc2_w 161, 3) := by decide +kernel
theorem dX13_loop_90 : decode cX13_loop 90 = .ok (.ldiv, 1) := by decide +kernel
theorem dX13_loop_91 : decode cX13_loop 91 = .ok (.l2i, 1) := by decide +kernel
theorem dX13_loop_92 : decode cX13_loop 92 = .ok (.ireturn, 1) := by decide +kernel
theorem dX13_out_0 : decode cX13_out 0 = .ok (.aload_n 0, 1) := by decide +kernel
theorem dX13_out_1 : decode cX13_out 1 = .ok (.iload_n 1, 1) := by decide +kernel
theorem dX13_out_2 : decode cX13_out 2 = .ok (.invokestatic 121, 3) := by decide +kernel
theorem dX13_out_5 : decode cX13_out 5 = .ok (.ifCond .eq 7, 3) := by decide +kernel
theorem dX13_out_8 : decode cX13_out 8 = .ok (.iconst 0, 1) := by decide +kernel
theorem dX13_out_9 : decode cX13_out 9 = .ok (.goto 4, 3) := by decide +kernel
theorem dX13_out_12 : decode cX13_out 12 = .ok (.iconst 1, 1) := by decide +kernel
theorem dX13_out_13 : decode cX13_out 13 = .ok (.invokevirtual 68, 3) := by decide +kernel
theorem dX13_out_16 : decode cX13_out 16 = .ok (.ifCond .eq 5, 3) := by decide +kernel
theorem dX13_out_19 : decode cX13_out 19 = .ok (.iconst 0, 1) := by decide +kernel
theorem dX13_out_20 : decode cX13_out 20 = .ok (.ireturn, 1) := by decide +kernel
theorem dX13_out_21 : decode cX13_out 21 = .ok (.aload_n 0, 1) := by decide +kernel
theorem dX13_out_22 : decode cX13_out 22 = .ok (.getfield 19, 3) := by decide +kernel
theorem dX13_out_25 : decode cX13_out 25 = .ok (.iload_n 1, 1) := by decide +kernel
theorem dX13_out_26 : decode cX13_out 26 = .ok (.aaload, 1) := by decide +kernel
theorem dX13_out_27 : decode cX13_out 27 = .ok (.getfield 182, 3) := by decide +kernel
theorem dX13_out_30 : decode cX13_out 30 = .ok (.lconst 0, 1) := by decide +kernel
theorem dX13_out_31 : decode cX13_out 31 = .ok (.lcmp, 1) := by decide +kernel
theorem dX13_out_32 : decode cX13_out 32 = .ok (.ifCond .le 7, 3) := by decide +kernel
theorem dX13_out_35 : decode cX13_out 35 = .ok (.iconst 1, 1) := by decide +kernel
theorem dX13_out_36 : decode cX13_out 36 = .ok (.goto 4, 3) := by decide +kernel
theorem dX13_out_39 : decode cX13_out 39 = .ok (.iconst 0, 1) := by decide +kernel
theorem dX13_out_40 : decode cX13_out 40 = .ok (.istore_n 2, 1) := by decide +kernel
theorem dX13_out_41 : decode cX13_out 41 = .ok (.aload_n 0, 1) := by decide +kernel
theorem dX13_out_42 : decode cX13_out 42 = .ok (.getfield 19, 3) := by decide +kernel
theorem dX13_out_45 : decode cX13_out 45 = .ok (.iload_n 1, 1) := by decide +kernel
theorem dX13_out_46 : decode cX13_out 46 = .ok (.aaload, 1) := by decide +kernel
theorem dX13_out_47 : decode cX13_out 47 = .ok (.lconst 0, 1) := by decide +kernel
theorem dX13_out_48 : decode cX13_out 48 = .ok (.putfield 182, 3) := by decide +kernel
theorem dX13_out_51 : decode cX13_out 51 = .ok (.aload_n 0, 1) := by decide +kernel
theorem dX13_out_52 : decode cX13_out 52 = .ok (.invokevirtual 81, 3) := by decide +kernel
theorem dX13_out_55 : decode cX13_out 55 = .ok (.iload_n 2, 1) := by decide +kernel
theorem dX13_out_56 : decode cX13_out 56 = .ok (.ireturn, 1) := by decide +kernel
theorem dX13_slips_0 : decode cX13_slips 0 = .ok (.aload_n 0, 1) := by decide +kernel
theorem dX13_slips_1 : decode cX13_slips 1 = .ok (.getfield 189, 3) := by decide +kernel
theorem dX13_slips_4 : decode cX13_slips 4 = .ok (.istore_n 2, 1) := by decide +kernel
theorem dX13_slips_5 : decode cX13_slips 5 = .ok (.iload_n 1, 1) := by decide +kernel
theorem dX13_slips_6 : decode cX13_slips 6 = .ok (.ifCond .eq 15, 3) := by decide +kernel
theorem dX13_slips_9 : decode cX13_slips 9 = .ok (.iload_n 2, 1) := by decide +kernel
theorem dX13_slips_10 : decode cX13_slips 10 = .ok (.ifCond .ne 11, 3) := by decide +kernel
theorem dX13_slips_13 : decode cX13_slips 13 = .ok (.aload_n 0, 1) := by decide +kernel
theorem dX13_slips_14 : decode cX13_slips 14 = .ok (.aload_n 0, 1) := by decide +kernel
theorem dX13_slips_15 : decode cX13_slips 15 = .ok (.getfield 163, 3) := by decide +kernel
theorem dX13_slips_18 : decode cX13_slips 18 = .ok (.putfield 192, 3) := by decide +kernel
theorem dX13_slips_21 : decode cX13_slips 21 = .ok (.iload_n 1, 1) := by decide +kernel
theorem dX13_slips_22 : decode cX13_slips 22 = .ok (.ifCond .ne 15, 3) := by decide +kernel
theorem dX13_slips_25 : decode cX13_slips 25 = .ok (.iload_n 2, 1) := by decide +kernel
theorem dX13_slips_26 : decode cX13_slips 26 = .ok (.ifCond .eq 11, 3) := by decide +kernel
theorem dX13_slips_29 : decode cX13_slips 29 = .ok (.aload_n 0, 1) := by decide +kernel
theorem dX13_slips_30 : decode cX13_slips 30 = .ok (.aload_n 0, 1) := by decide +kernel
theorem dX13_slips_31 : decode cX13_slips 31 = .ok (.getfield 192, 3) := by decide +kernel
theorem dX13_slips_34 : decode cX13_slips 34 = .ok (.putfield 163, 3) := by decide +kernel
theorem dX13_slips_37 : decode cX13_slips 37 = .ok (.aload_n 0, 1) := by decide +kernel
theorem dX13_slips_38 : decode cX13_slips 38 = .ok (.iload_n 1, 1) := by decide +kernel
theorem dX13_slips_39 : decode cX13_slips 39 = .ok (.putfield 189, 3) := by decide +kernel
theorem dX13_slips_42 : decode cX13_slips 42 = .ok (.iload_n 2, 1) := by decide +kernel
theorem dX13_slips_43 : decode cX13_slips 43 = .ok (.ireturn, 1) := by decide +kernel
theorem dX13_slip_0 : decode cX13_slip 0 = .ok (.aload_n 0, 1) := by decide +kernel
theorem dX13_slip_1 : decode cX13_slip 1 = .ok (.iload_n 1, 1) := by decide +kernel
theorem dX13_slip_2 : decode cX13_slip 2 = .ok (.invokevirtual 136, 3) := by decide +kernel
theorem dX13_slip_5 : decode cX13_slip 5 = .ok (.ifCond .eq 5, 3) := by decide +kernel
theorem dX13_slip_8 : decode cX13_slip 8 = .ok (.iconst 0, 1) := by decide +kernel
theorem dX13_slip_9 : decode cX13_slip 9 = .ok (.ireturn, 1) := by decide +kernel
theorem dX13_slip_10 : decode cX13_slip 10 = .ok (.aload_n 0, 1) := by decide +kernel
theorem dX13_slip_11 : decode cX13_slip 11 = .ok (.invokevirtual 81, 3) := by decide +kernel
theorem dX13_slip_14 : decode cX13_slip 14 = .ok (.aload_n 0, 1) := by decide +kernel
theorem dX13_slip_15 : decode cX13_slip 15 = .ok (.getfield 19, 3) := by decide +kernel
theorem dX13_slip_18 : decode cX13_slip 18 = .ok (.iload_n 1, 1) := by decide +kernel
theorem dX13_slip_19 : decode cX13_slip 19 = .ok (.aaload, 1) := by decide +kernel
theorem dX13_slip_20 : decode cX13_slip 20 = .ok (.iload_n 2, 1) := by decide +kernel
theorem dX13_slip_21 : decode cX13_slip 21 = .ok (.invokestatic 195, 3) := by decide +kernel
theorem dX13_slip_24 : decode cX13_slip 24 = .ok (.ireturn, 1) := by decide +kernel
theorem dX13_place_0 : decode cX13_place 0 = .ok (.aload_n 0, 1) := by decide +kernel
theorem dX13_place_1 : decode cX13_place 1 = .ok (.iload_n 1, 1) := by decide +kernel
theorem dX13_place_2 : decode cX13_place 2 = .ok (.invokevirtual 136, 3) := by decide +kernel
theorem dX13_place_5 : decode cX13_place 5 = .ok (.ifCond .eq 7, 3) := by decide +kernel
theorem dX13_place_8 : decode cX13_place 8 = .ok (.lconst 0, 1) := by decide +kernel
theorem dX13_place_9 : decode cX13_place 9 = .ok (.goto 12, 3) := by decide +kernel
theorem dX13_place_12 : decode cX13_place 12 = .ok (.aload_n 0, 1) := by decide +kernel
theorem dX13_place_13 : decode cX13_place 13 = .ok (.getfield 19, 3) := by decide +kernel
theorem dX13_place_16 : decode cX13_place 16 = .ok (.iload_n 1, 1) := by decide +kernel
theorem dX13_place_17 : decode cX13_place 17 = .ok (.aaload, 1) := by decide +kernel
theorem dX13_place_18 : decode cX13_place 18 = .ok (.getfield 163, 3) := by decide +kernel
theorem dX13_place_21 : decode cX13_place 21 = .ok (.lreturn, 1) := by decide +kernel
theorem dX13_tempo_0 : decode cX13_tempo 0 = .ok (.aload_n 0, 1) := by decide +kernel
theorem dX13_tempo_1 : decode cX13_tempo 1 = .ok (.iload_n 1, 1) := by decide +kernel
theorem dX13_tempo_2 : decode cX13_tempo 2 = .ok (.invokevirtual 136, 3) := by decide +kernel
theorem dX13_tempo_5 : decode cX13_tempo 5 = .ok (.ifCond .eq 7, 3) := by decide +kernel
theorem dX13_tempo_8 : decode cX13_tempo 8 = .ok (.iconst 0, 1) := by decide +kernel
theorem dX13_tempo_9 : decode cX13_tempo 9 = .ok (.goto 29, 3) := by decide +kernel
theorem dX13_tempo_12 : decode cX13_tempo 12 = .ok (.aload_n 0, 1) := by decide +kernel
theorem dX13_tempo_13 : decode cX13_tempo 13 = .ok (.getfield 19, 3) := by decide +kernel
theorem dX13_tempo_16 : decode cX13_tempo 16 = .ok (.iload_n 1, 1) := by decide +kernel
theorem dX13_tempo_17 : decode cX13_tempo 17 = .ok (.aaload, 1) := by decide +kernel
theorem dX13_tempo_18 : decode cX13_tempo 18 = .ok (.getfield 60, 3) := by decide +kernel
theorem dX13_tempo_21 : decode cX13_tempo 21 = .ok (.getfield 95, 3) := by decide +kernel
theorem dX13_tempo_24 : decode cX13_tempo 24 = .ok (.sipush 1000, 3) := by decide +kernel
theorem dX13_tempo_27 : decode cX13_tempo 27 = .ok (.aload_n 0, 1) := by decide +kernel
theorem dX13_tempo_28 : decode cX13_tempo 28 = .ok (.getfield 19, 3) := by decide +kernel
theorem dX13_tempo_31 : decode cX13_tempo 31 = .ok (.iload_n 1, 1) := by decide +kernel
theorem dX13_tempo_32 : decode cX13_tempo 32 = .ok (.aaload, 1) := by decide +kernel
theorem dX13_tempo_33 : decode cX13_tempo 33 = .ok (.getfield 146, 3) := by decide +kernel
theorem dX13_tempo_36 : decode cX13_tempo 36 = .ok (.iadd, 1) := by decide +kernel
theorem dX13_tempo_37 : decode cX13_tempo 37 = .ok (.imul, 1) := by decide +kernel
theorem dX13_tempo_38 : decode cX13_tempo 38 = .ok (.ireturn, 1) := by decide +kernel
theorem dX13_plays_0 : decode cX13_plays 0 = .ok (.aload_n 0, 1) := by decide +kernel
theorem dX13_plays_1 : decode cX13_plays 1 = .ok (.iload_n 1, 1) := by decide +kernel
theorem dX13_plays_2 : decode cX13_plays 2 = .ok (.invokestatic 121, 3) := by decide +kernel
theorem dX13_plays_5 : decode cX13_plays 5 = .ok (.ifCond .eq 7, 3) := by decide +kernel
theorem dX13_plays_8 : decode cX13_plays 8 = .ok (.iconst 0, 1) := by decide +kernel
theorem dX13_plays_9 : decode cX13_plays 9 = .ok (.goto 4, 3) := by decide +kernel
theorem dX13_plays_12 : decode cX13_plays 12 = .ok (.iconst 1, 1) := by decide +kernel
theorem dX13_plays_13 : decode cX13_plays 13 = .ok (.invokevirtual 68, 3) := by decide +kernel
theorem dX13_plays_16 : decode cX13_plays 16 = .ok (.ifCond .ne 19, 3) := by decide +kernel
theorem dX13_plays_19 : decode cX13_plays 19 = .ok (.aload_n 0, 1) := by decide +kernel
theorem dX13_plays_20 : decode cX13_plays 20 = .ok (.getfield 19, 3) := by decide +kernel
theorem dX13_plays_23 : decode cX13_plays 23 = .ok (.iload_n 1, 1) := by decide +kernel
theorem dX13_plays_24 : decode cX13_plays 24 = .ok (.aaload, 1) := by decide +kernel
theorem dX13_plays_25 : decode cX13_plays 25 = .ok (.getfield 124, 3) := by decide +kernel
theorem dX13_plays_28 : decode cX13_plays 28 = .ok (.ifCond .eq 7, 3) := by decide +kernel
theorem dX13_plays_31 : decode cX13_plays 31 = .ok (.iconst 1, 1) := by decide +kernel
theorem dX13_plays_32 : decode cX13_plays 32 = .ok (.goto 4, 3) := by decide +kernel
theorem dX13_plays_35 : decode cX13_plays 35 = .ok (.iconst 0, 1) := by decide +kernel
theorem dX13_plays_36 : decode cX13_plays 36 = .ok (.ireturn, 1) := by decide +kernel
theorem dX13_on_0 : decode cX13_on 0 = .ok (.aload_n 0, 1) := by decide +kernel
theorem dX13_on_1 : decode cX13_on 1 = .ok (.iload_n 1, 1) := by decide +kernel
theorem dX13_on_2 : decode cX13_on 2 = .ok (.invokevirtual 136, 3) := by decide +kernel
theorem dX13_on_5 : decode cX13_on 5 = .ok (.ifCond .eq 7, 3) := by decide +kernel
theorem dX13_on_8 : decode cX13_on 8 = .ok (.iconst 0, 1) := by decide +kernel
theorem dX13_on_9 : decode cX13_on 9 = .ok (.goto 12, 3) := by decide +kernel
theorem dX13_on_12 : decode cX13_on 12 = .ok (.aload_n 0, 1) := by decide +kernel
theorem dX13_on_13 : decode cX13_on 13 = .ok (.getfield 19, 3) := by decide +kernel
theorem dX13_on_16 : decode cX13_on 16 = .ok (.iload_n 1, 1) := by decide +kernel
theorem dX13_on_17 : decode cX13_on 17 = .ok (.aaload, 1) := by decide +kernel
theorem dX13_on_18 : decode cX13_on 18 = .ok (.getfield 127, 3) := by decide +kernel
theorem dX13_on_21 : decode cX13_on 21 = .ok (.ireturn, 1) := by decide +kernel
theorem dX13_setFader_0 : decode cX13_setFader 0 = .ok (.aload_n 0, 1) := by decide +kernel
theorem dX13_setFader_1 : decode cX13_setFader 1 = .ok (.iload_n 1, 1) := by decide +kernel
theorem dX13_setFader_2 : decode cX13_setFader 2 = .ok (.invokestatic 121, 3) := by decide +kernel
theorem dX13_setFader_5 : decode cX13_setFader 5 = .ok (.ifCond .ne 7, 3) := by decide +kernel
theorem dX13_setFader_8 : decode cX13_setFader 8 = .ok (.iconst 1, 1) := by decide +kernel
theorem dX13_setFader_9 : decode cX13_setFader 9 = .ok (.goto 18, 3) := by decide +kernel
theorem dX13_setFader_12 : decode cX13_setFader 12 = .ok (.iload_n 2, 1) := by decide +kernel
theorem dX13_setFader_13 : decode cX13_setFader 13 = .ok (.iconst 0, 1) := by decide +kernel
theorem dX13_setFader_14 : decode cX13_setFader 14 = .ok (.bipush 100, 2) := by decide +kernel
theorem dX13_setFader_16 : decode cX13_setFader 16 = .ok (.invokestatic 50, 3) := by decide +kernel
theorem dX13_setFader_19 : decode cX13_setFader 19 = .ok (.ifCond .ne 7, 3) := by decide +kernel
theorem dX13_setFader_22 : decode cX13_setFader 22 = .ok (.iconst 2, 1) := by decide +kernel
theorem dX13_setFader_23 : decode cX13_setFader 23 = .ok (.goto 4, 3) := by decide +kernel
theorem dX13_setFader_26 : decode cX13_setFader 26 = .ok (.iconst 0, 1) := by decide +kernel
theorem dX13_setFader_27 : decode cX13_setFader 27 = .ok (.invokevirtual 68, 3) := by decide +kernel
theorem dX13_setFader_30 : decode cX13_setFader 30 = .ok (.ifCond .eq 5, 3) := by decide +kernel
theorem dX13_setFader_33 : decode cX13_setFader 33 = .ok (.iconst 0, 1) := by decide +kernel
theorem dX13_setFader_34 : decode cX13_setFader 34 = .ok (.ireturn, 1) := by decide +kernel
theorem dX13_setFader_35 : decode cX13_setFader 35 = .ok (.aload_n 0, 1) := by decide +kernel
theorem dX13_setFader_36 : decode cX13_setFader 36 = .ok (.getfield 19, 3) := by decide +kernel
theorem dX13_setFader_39 : decode cX13_setFader 39 = .ok (.iload_n 1, 1) := by decide +kernel
theorem dX13_setFader_40 : decode cX13_setFader 40 = .ok (.aaload, 1) := by decide +kernel
theorem dX13_setFader_41 : decode cX13_setFader 41 = .ok (.getfield 199, 3) := by decide +kernel
theorem dX13_setFader_44 : decode cX13_setFader 44 = .ok (.istore_n 3, 1) := by decide +kernel
theorem dX13_setFader_45 : decode cX13_setFader 45 = .ok (.aload_n 0, 1) := by decide +kernel
theorem dX13_setFader_46 : decode cX13_setFader 46 = .ok (.getfield 19, 3) := by decide +kernel
theorem dX13_setFader_49 : decode cX13_setFader 49 = .ok (.iload_n 1, 1) := by decide +kernel
theorem dX13_setFader_50 : decode cX13_setFader 50 = .ok (.aaload, 1) := by decide +kernel
theorem dX13_setFader_51 : decode cX13_setFader 51 = .ok (.iload_n 2, 1) := by decide +kernel
theorem dX13_setFader_52 : decode cX13_setFader 52 = .ok (.putfield 199, 3) := by decide +kernel
theorem dX13_setFader_55 : decode cX13_setFader 55 = .ok (.aload_n 0, 1) := by decide +kernel
theorem dX13_setFader_56 : decode cX13_setFader 56 = .ok (.invokevirtual 81, 3) := by decide +kernel
theorem dX13_setFader_59 : decode cX13_setFader 59 = .ok (.iload_n 3, 1) := by decide +kernel
theorem dX13_setFader_60 : decode cX13_setFader 60 = .ok (.ireturn, 1) := by decide +kernel
theorem dX13_setBand_0 : decode cX13_setBand 0 = .ok (.aload_n 0, 1) := by decide +kernel
theorem dX13_setBand_1 : decode cX13_setBand 1 = .ok (.iload_n 1, 1) := by decide +kernel
theorem dX13_setBand_2 : decode cX13_setBand 2 = .ok (.invokestatic 121, 3) := by decide +kernel
theorem dX13_setBand_5 : decode cX13_setBand 5 = .ok (.ifCond .ne 7, 3) := by decide +kernel
theorem dX13_setBand_8 : decode cX13_setBand 8 = .ok (.iconst 1, 1) := by decide +kernel
theorem dX13_setBand_9 : decode cX13_setBand 9 = .ok (.goto 27, 3) := by decide +kernel
theorem dX13_setBand_12 : decode cX13_setBand 12 = .ok (.iload_n 2, 1) := by decide +kernel
theorem dX13_setBand_13 : decode cX13_setBand 13 = .ok (.iconst 0, 1) := by decide +kernel
theorem dX13_setBand_14 : decode cX13_setBand 14 = .ok (.iconst 2, 1) := by decide +kernel
theorem dX13_setBand_15 : decode cX13_setBand 15 = .ok (.invokestatic 50, 3) := by decide +kernel
theorem dX13_setBand_18 : decode cX13_setBand 18 = .ok (.ifCond .eq 13, 3) := by decide +kernel
theorem dX13_setBand_21 : decode cX13_setBand 21 = .ok (.iload_n 3, 1) := by decide +kernel
theorem dX13_setBand_22 : decode cX13_setBand 22 = .ok (.iconst 0, 1) := by decide +kernel
theorem dX13_setBand_23 : decode cX13_setBand 23 = .ok (.bipush 100, 2) := by decide +kernel
theorem dX13_setBand_25 : decode cX13_setBand 25 = .ok (.invokestatic 50, 3) := by decide +kernel
theorem dX13_setBand_28 : decode cX13_setBand 28 = .ok (.ifCond .ne 7, 3) := by decide +kernel
theorem dX13_setBand_31 : decode cX13_setBand 31 = .ok (.iconst 2, 1) := by decide +kernel
theorem dX13_setBand_32 : decode cX13_setBand 32 = .ok (.goto 4, 3) := by decide +kernel
theorem dX13_setBand_35 : decode cX13_setBand 35 = .ok (.iconst 0, 1) := by decide +kernel
theorem dX13_setBand_36 : decode cX13_setBand 36 = .ok (.invokevirtual 68, 3) := by decide +kernel
theorem dX13_setBand_39 : decode cX13_setBand 39 = .ok (.ifCond .eq 5, 3) := by decide +kernel
theorem dX13_setBand_42 : decode cX13_setBand 42 = .ok (.iconst 0, 1) := by decide +kernel
theorem dX13_setBand_43 : decode cX13_setBand 43 = .ok (.ireturn, 1) := by decide +kernel
theorem dX13_setBand_44 : decode cX13_setBand 44 = .ok (.aload_n 0, 1) := by decide +kernel
theorem dX13_setBand_45 : decode cX13_setBand 45 = .ok (.getfield 19, 3) := by decide +kernel
theorem dX13_setBand_48 : decode cX13_setBand 48 = .ok (.iload_n 1, 1) := by decide +kernel
theorem dX13_setBand_49 : decode cX13_setBand 49 = .ok (.aaload, 1) := by decide +kernel
theorem dX13_setBand_50 : decode cX13_setBand 50 = .ok (.getfield 202, 3) := by decide +kernel
theorem dX13_setBand_53 : decode cX13_setBand 53 = .ok (.iload_n 2, 1) := by decide +kernel
theorem dX13_setBand_54 : decode cX13_setBand 54 = .ok (.iaload, 1) := by decide +kernel
theorem dX13_setBand_55 : decode cX13_setBand 55 = .ok (.istore 4, 2) := by decide +kernel
theorem dX13_setBand_57 : decode cX13_setBand 57 = .ok (.aload_n 0, 1) := by decide +kernel
theorem dX13_setBand_58 : decode cX13_setBand 58 = .ok (.getfield 19, 3) := by decide +kernel
theorem dX13_setBand_61 : decode cX13_setBand 61 = .ok (.iload_n 1, 1) := by decide +kernel
theorem dX13_setBand_62 : decode cX13_setBand 62 = .ok (.aaload, 1) := by decide +kernel
theorem dX13_setBand_63 : decode cX13_setBand 63 = .ok (.getfield 202, 3) := by decide +kernel
theorem dX13_setBand_66 : decode cX13_setBand 66 = .ok (.iload_n 2, 1) := by decide +kernel
theorem dX13_setBand_67 : decode cX13_setBand 67 = .ok (.iload_n 3, 1) := by decide +kernel
theorem dX13_setBand_68 : decode cX13_setBand 68 = .ok (.iastore, 1) := by decide +kernel
theorem dX13_setBand_69 : decode cX13_setBand 69 = .ok (.aload_n 0, 1) := by decide +kernel
theorem dX13_setBand_70 : decode cX13_setBand 70 = .ok (.invokevirtual 81, 3) := by decide +kernel
theorem dX13_setBand_73 : decode cX13_setBand 73 = .ok (.iload 4, 2) := by decide +kernel
theorem dX13_setBand_75 : decode cX13_setBand 75 = .ok (.ireturn, 1) := by decide +kernel
theorem dX13_setSide_0 : decode cX13_setSide 0 = .ok (.aload_n 0, 1) := by decide +kernel
theorem dX13_setSide_1 : decode cX13_setSide 1 = .ok (.iload_n 1, 1) := by decide +kernel
theorem dX13_setSide_2 : decode cX13_setSide 2 = .ok (.invokestatic 121, 3) := by decide +kernel
theorem dX13_setSide_5 : decode cX13_setSide 5 = .ok (.ifCond .ne 7, 3) := by decide +kernel
theorem dX13_setSide_8 : decode cX13_setSide 8 = .ok (.iconst 1, 1) := by decide +kernel
theorem dX13_setSide_9 : decode cX13_setSide 9 = .ok (.goto 17, 3) := by decide +kernel
theorem dX13_setSide_12 : decode cX13_setSide 12 = .ok (.ldc 205, 2) := by decide +kernel
theorem dX13_setSide_14 : decode cX13_setSide 14 = .ok (.iload_n 2, 1) := by decide +kernel
theorem dX13_setSide_15 : decode cX13_setSide 15 = .ok (.invokevirtual 207, 3) := by decide +kernel
theorem dX13_setSide_18 : decode cX13_setSide 18 = .ok (.ifCond .ge 7, 3) := by decide +kernel
theorem dX13_setSide_21 : decode cX13_setSide 21 = .ok (.iconst 2, 1) := by decide +kernel
theorem dX13_setSide_22 : decode cX13_setSide 22 = .ok (.goto 4, 3) := by decide +kernel
theorem dX13_setSide_25 : decode cX13_setSide 25 = .ok (.iconst 0, 1) := by decide +kernel
theorem dX13_setSide_26 : decode cX13_setSide 26 = .ok (.invokevirtual 68, 3) := by decide +kernel
theorem dX13_setSide_29 : decode cX13_setSide 29 = .ok (.ifCond .eq 5, 3) := by decide +kernel
theorem dX13_setSide_32 : decode cX13_setSide 32 = .ok (.iconst 0, 1) := by decide +kernel
theorem dX13_setSide_33 : decode cX13_setSide 33 = .ok (.ireturn, 1) := by decide +kernel
theorem dX13_setSide_34 : decode cX13_setSide 34 = .ok (.aload_n 0, 1) := by decide +kernel
theorem dX13_setSide_35 : decode cX13_setSide 35 = .ok (.getfield 19, 3) := by decide +kernel
theorem dX13_setSide_38 : decode cX13_setSide 38 = .ok (.iload_n 1, 1) := by decide +kernel
theorem dX13_setSide_39 : decode cX13_setSide 39 = .ok (.aaload, 1) := by decide +kernel
theorem dX13_setSide_40 : decode cX13_setSide 40 = .ok (.getfield 212, 3) := by decide +kernel
theorem dX13_setSide_43 : decode cX13_setSide 43 = .ok (.istore_n 3, 1) := by decide +kernel
theorem dX13_setSide_44 : decode cX13_setSide 44 = .ok (.aload_n 0, 1) := by decide +kernel
theorem dX13_setSide_45 : decode cX13_setSide 45 = .ok (.getfield 19, 3) := by decide +kernel
theorem dX13_setSide_48 : decode cX13_setSide 48 = .ok (.iload_n 1, 1) := by decide +kernel
theorem dX13_setSide_49 : decode cX13_setSide 49 = .ok (.aaload, 1) := by decide +kernel
theorem dX13_setSide_50 : decode cX13_setSide 50 = .ok (.iload_n 2, 1) := by decide +kernel
theorem dX13_setSide_51 : decode cX13_setSide 51 = .ok (.putfield 212, 3) := by decide +kernel
theorem dX13_setSide_54 : decode cX13_setSide 54 = .ok (.aload_n 0, 1) := by decide +kernel
theorem dX13_setSide_55 : decode cX13_setSide 55 = .ok (.invokevirtual 81, 3) := by decide +kernel
theorem dX13_setSide_58 : decode cX13_setSide 58 = .ok (.iload_n 3, 1) := by decide +kernel
theorem dX13_setSide_59 : decode cX13_setSide 59 = .ok (.ireturn, 1) := by decide +kernel
theorem dX13_setCross_0 : decode cX13_setCross 0 = .ok (.aload_n 0, 1) := by decide +kernel
theorem dX13_setCross_1 : decode cX13_setCross 1 = .ok (.iload_n 1, 1) := by decide +kernel
theorem dX13_setCross_2 : decode cX13_setCross 2 = .ok (.bipush (-100), 2) := by decide +kernel
theorem dX13_setCross_4 : decode cX13_setCross 4 = .ok (.bipush 100, 2) := by decide +kernel
theorem dX13_setCross_6 : decode cX13_setCross 6 = .ok (.invokestatic 50, 3) := by decide +kernel
theorem dX13_setCross_9 : decode cX13_setCross 9 = .ok (.ifCond .eq 7, 3) := by decide +kernel
theorem dX13_setCross_12 : decode cX13_setCross 12 = .ok (.iconst 0, 1) := by decide +kernel
theorem dX13_setCross_13 : decode cX13_setCross 13 = .ok (.goto 4, 3) := by decide +kernel
theorem dX13_setCross_16 : decode cX13_setCross 16 = .ok (.iconst 1, 1) := by decide +kernel
theorem dX13_setCross_17 : decode cX13_setCross 17 = .ok (.invokevirtual 68, 3) := by decide +kernel
theorem dX13_setCross_20 : decode cX13_setCross 20 = .ok (.ifCond .eq 5, 3) := by decide +kernel
theorem dX13_setCross_23 : decode cX13_setCross 23 = .ok (.iconst 0, 1) := by decide +kernel
theorem dX13_setCross_24 : decode cX13_setCross 24 = .ok (.ireturn, 1) := by decide +kernel
theorem dX13_setCross_25 : decode cX13_setCross 25 = .ok (.aload_n 0, 1) := by decide +kernel
theorem dX13_setCross_26 : decode cX13_setCross 26 = .ok (.getfield 216, 3) := by decide +kernel
theorem dX13_setCross_29 : decode cX13_setCross 29 = .ok (.istore_n 2, 1) := by decide +kernel
theorem dX13_setCross_30 : decode cX13_setCross 30 = .ok (.aload_n 0, 1) := by decide +kernel
theorem dX13_setCross_31 : decode cX13_setCross 31 = .ok (.iload_n 1, 1) := by decide +kernel
theorem dX13_setCross_32 : decode cX13_setCross 32 = .ok (.putfield 216, 3) := by decide +kernel
theorem dX13_setCross_35 : decode cX13_setCross 35 = .ok (.aload_n 0, 1) := by decide +kernel
theorem dX13_setCross_36 : decode cX13_setCross 36 = .ok (.invokevirtual 81, 3) := by decide +kernel
theorem dX13_setCross_39 : decode cX13_setCross 39 = .ok (.iload_n 2, 1) := by decide +kernel
theorem dX13_setCross_40 : decode cX13_setCross 40 = .ok (.ireturn, 1) := by decide +kernel
theorem dX13_levelOf_0 : decode cX13_levelOf 0 = .ok (.aload_n 1, 1) := by decide +kernel
theorem dX13_levelOf_1 : decode cX13_levelOf 1 = .ok (.getfield 212, 3) := by decide +kernel
theorem dX13_levelOf_4 : decode cX13_levelOf 4 = .ok (.bipush 108, 2) := by decide +kernel
theorem dX13_levelOf_6 : decode cX13_levelOf 6 = .ok (.if_icmp .ne 17, 3) := by decide +kernel
theorem dX13_levelOf_9 : decode cX13_levelOf 9 = .ok (.bipush 100, 2) := by decide +kernel
theorem dX13_levelOf_11 : decode cX13_levelOf 11 = .ok (.iconst 0, 1) := by decide +kernel
theorem dX13_levelOf_12 : decode cX13_levelOf 12 = .ok (.aload_n 0, 1) := by decide +kernel
theorem dX13_levelOf_13 : decode cX13_levelOf 13 = .ok (.getfield 216, 3) := by decide +kernel
theorem dX13_levelOf_16 : decode cX13_levelOf 16 = .ok (.invokestatic 219, 3) := by decide +kernel
theorem dX13_levelOf_19 : decode cX13_levelOf 19 = .ok (.isub, 1) := by decide +kernel
theorem dX13_levelOf_20 : decode cX13_levelOf 20 = .ok (.goto 29, 3) := by decide +kernel
theorem dX13_levelOf_23 : decode cX13_levelOf 23 = .ok (.aload_n 1, 1) := by decide +kernel
theorem dX13_levelOf_24 : decode cX13_levelOf 24 = .ok (.getfield 212, 3) := by decide +kernel
theorem dX13_levelOf_27 : decode cX13_levelOf 27 = .ok (.bipush 114, 2) := by decide +kernel
theorem dX13_levelOf_29 : decode cX13_levelOf 29 = .ok (.if_icmp .ne 18, 3) := by decide +kernel
theorem dX13_levelOf_32 : decode cX13_levelOf 32 = .ok (.bipush 100, 2) := by decide +kernel
theorem dX13_levelOf_34 : decode cX13_levelOf 34 = .ok (.iconst 0, 1) := by decide +kernel
theorem dX13_levelOf_35 : decode cX13_levelOf 35 = .ok (.aload_n 0, 1) := by decide +kernel
theorem dX13_levelOf_36 : decode cX13_levelOf 36 = .ok (.getfield 216, 3) := by decide +kernel
theorem dX13_levelOf_39 : decode cX13_levelOf 39 = .ok (.ineg, 1) := by decide +kernel
theorem dX13_levelOf_40 : decode cX13_levelOf 40 = .ok (.invokestatic 219, 3) := by decide +kernel
theorem dX13_levelOf_43 : decode cX13_levelOf 43 = .ok (.isub, 1) := by decide +kernel
theorem dX13_levelOf_44 : decode cX13_levelOf 44 = .ok (.goto 5, 3) := by decide +kernel
theorem dX13_levelOf_47 : decode cX13_levelOf 47 = .ok (.bipush 100, 2) := by decide +kernel
theorem dX13_levelOf_49 : decode cX13_levelOf 49 = .ok (.istore_n 2, 1) := by decide +kernel
theorem dX13_levelOf_50 : decode cX13_levelOf 50 = .ok (.aload_n 1, 1) := by decide +kernel
theorem dX13_levelOf_51 : decode cX13_levelOf 51 = .ok (.getfield 124, 3) := by decide +kernel
theorem dX13_levelOf_54 : decode cX13_levelOf 54 = .ok (.ifCond .eq 15, 3) := by decide +kernel
theorem dX13_levelOf_57 : decode cX13_levelOf 57 = .ok (.aload_n 1, 1) := by decide +kernel
theorem dX13_levelOf_58 : decode cX13_levelOf 58 = .ok (.getfield 199, 3) := by decide +kernel
theorem dX13_levelOf_61 : decode cX13_levelOf 61 = .ok (.iload_n 2, 1) := by decide +kernel
theorem dX13_levelOf_62 : decode cX13_levelOf 62 = .ok (.imul, 1) := by decide +kernel
theorem dX13_levelOf_63 : decode cX13_levelOf 63 = .ok (.bipush 100, 2) := by decide +kernel
theorem dX13_levelOf_65 : decode cX13_levelOf 65 = .ok (.idiv, 1) := by decide +kernel
theorem dX13_levelOf_66 : decode cX13_levelOf 66 = .ok (.goto 4, 3) := by decide +kernel
theorem dX13_levelOf_69 : decode cX13_levelOf 69 = .ok (.iconst 0, 1) := by decide +kernel
theorem dX13_levelOf_70 : decode cX13_levelOf 70 = .ok (.ireturn, 1) := by decide +kernel
theorem dX13_loudnessOf_0 : decode cX13_loudnessOf 0 = .ok (.aload_n 1, 1) := by decide +kernel
theorem dX13_loudnessOf_1 : decode cX13_loudnessOf 1 = .ok (.getfield 60, 3) := by decide +kernel
theorem dX13_loudnessOf_4 : decode cX13_loudnessOf 4 = .ok (.ifnonnull 7, 3) := by decide +kernel
theorem dX13_loudnessOf_7 : decode cX13_loudnessOf 7 = .ok (.iconst 0, 1) := by decide +kernel
theorem dX13_loudnessOf_8 : decode cX13_loudnessOf 8 = .ok (.goto 43, 3) := by decide +kernel
theorem dX13_loudnessOf_11 : decode cX13_loudnessOf 11 = .ok (.aload_n 0, 1) := by decide +kernel
theorem dX13_loudnessOf_12 : decode cX13_loudnessOf 12 = .ok (.aload_n 1, 1) := by decide +kernel
theorem dX13_loudnessOf_13 : decode cX13_loudnessOf 13 = .ok (.invokevirtual 222, 3) := by decide +kernel
theorem dX13_loudnessOf_16 : decode cX13_loudnessOf 16 = .ok (.aload_n 1, 1) := by decide +kernel
theorem dX13_loudnessOf_17 : decode cX13_loudnessOf 17 = .ok (.getfield 60, 3) := by decide +kernel
theorem dX13_loudnessOf_20 : decode cX13_loudnessOf 20 = .ok (.getfield 225, 3) := by decide +kernel
theorem dX13_loudnessOf_23 : decode cX13_loudnessOf 23 = .ok (.iconst 1, 1) := by decide +kernel
theorem dX13_loudnessOf_24 : decode cX13_loudnessOf 24 = .ok (.iadd, 1) := by decide +kernel
theorem dX13_loudnessOf_25 : decode cX13_loudnessOf 25 = .ok (.imul, 1) := by decide +kernel
theorem dX13_loudnessOf_26 : decode cX13_loudnessOf 26 = .ok (.aload_n 1, 1) := by decide +kernel
theorem dX13_loudnessOf_27 : decode cX13_loudnessOf 27 = .ok (.getfield 202, 3) := by decide +kernel
theorem dX13_loudnessOf_30 : decode cX13_loudnessOf 30 = .ok (.iconst 0, 1) := by decide +kernel
theorem dX13_loudnessOf_31 : decode cX13_loudnessOf 31 = .ok (.iaload, 1) := by decide +kernel
theorem dX13_loudnessOf_32 : decode cX13_loudnessOf 32 = .ok (.aload_n 1, 1) := by decide +kernel
theorem dX13_loudnessOf_33 : decode cX13_loudnessOf 33 = .ok (.getfield 202, 3) := by decide +kernel
theorem dX13_loudnessOf_36 : decode cX13_loudnessOf 36 = .ok (.iconst 1, 1) := by decide +kernel
theorem dX13_loudnessOf_37 : decode cX13_loudnessOf 37 = .ok (.iaload, 1) := by decide +kernel
theorem dX13_loudnessOf_38 : decode cX13_loudnessOf 38 = .ok (.iadd, 1) := by decide +kernel
theorem dX13_loudnessOf_39 : decode cX13_loudnessOf 39 = .ok (.aload_n 1, 1) := by decide +kernel
theorem dX13_loudnessOf_40 : decode cX13_loudnessOf 40 = .ok (.getfield 202, 3) := by decide +kernel
theorem dX13_loudnessOf_43 : decode cX13_loudnessOf 43 = .ok (.iconst 2, 1) := by decide +kernel
theorem dX13_loudnessOf_44 : decode cX13_loudnessOf 44 = .ok (.iaload, 1) := by decide +kernel
theorem dX13_loudnessOf_45 : decode cX13_loudnessOf 45 = .ok (.iadd, 1) := by decide +kernel
theorem dX13_loudnessOf_46 : decode cX13_loudnessOf 46 = .ok (.imul, 1) := by decide +kernel
theorem dX13_loudnessOf_47 : decode cX13_loudnessOf 47 = .ok (.sipush 300, 3) := by decide +kernel
theorem dX13_loudnessOf_50 : decode cX13_loudnessOf 50 = .ok (.idiv, 1) := by decide +kernel
theorem dX13_loudnessOf_51 : decode cX13_loudnessOf 51 = .ok (.ireturn, 1) := by decide +kernel
theorem dX13_isHeard_0 : decode cX13_isHeard 0 = .ok (.aload_n 0, 1) := by decide +kernel
theorem dX13_isHeard_1 : decode cX13_isHeard 1 = .ok (.aload_n 1, 1) := by decide +kernel
theorem dX13_isHeard_2 : decode cX13_isHeard 2 = .ok (.invokevirtual 222, 3) := by decide +kernel
theorem dX13_isHeard_5 : decode cX13_isHeard 5 = .ok (.bipush 30, 2) := by decide +kernel
theorem dX13_isHeard_7 : decode cX13_isHeard 7 = .ok (.if_icmp .lt 7, 3) := by decide +kernel
theorem dX13_isHeard_10 : decode cX13_isHeard 10 = .ok (.iconst 1, 1) := by decide +kernel
theorem dX13_isHeard_11 : decode cX13_isHeard 11 = .ok (.goto 4, 3) := by decide +kernel
theorem dX13_isHeard_14 : decode cX13_isHeard 14 = .ok (.iconst 0, 1) := by decide +kernel
theorem dX13_isHeard_15 : decode cX13_isHeard 15 = .ok (.ireturn, 1) := by decide +kernel
theorem dX13_level_0 : decode cX13_level 0 = .ok (.aload_n 0, 1) := by decide +kernel
theorem dX13_level_1 : decode cX13_level 1 = .ok (.iload_n 1, 1) := by decide +kernel
theorem dX13_level_2 : decode cX13_level 2 = .ok (.invokestatic 121, 3) := by decide +kernel
theorem dX13_level_5 : decode cX13_level 5 = .ok (.ifCond .eq 7, 3) := by decide +kernel
theorem dX13_level_8 : decode cX13_level 8 = .ok (.iconst 0, 1) := by decide +kernel
theorem dX13_level_9 : decode cX13_level 9 = .ok (.goto 4, 3) := by decide +kernel
theorem dX13_level_12 : decode cX13_level 12 = .ok (.iconst 1, 1) := by decide +kernel
theorem dX13_level_13 : decode cX13_level 13 = .ok (.invokevirtual 68, 3) := by decide +kernel
theorem dX13_level_16 : decode cX13_level 16 = .ok (.ifCond .eq 7, 3) := by decide +kernel
theorem dX13_level_19 : decode cX13_level 19 = .ok (.iconst 0, 1) := by decide +kernel
theorem dX13_level_20 : decode cX13_level 20 = .ok (.goto 13, 3) := by decide +kernel
theorem dX13_level_23 : decode cX13_level 23 = .ok (.aload_n 0, 1) := by decide +kernel
theorem dX13_level_24 : decode cX13_level 24 = .ok (.aload_n 0, 1) := by decide +kernel
theorem dX13_level_25 : decode cX13_level 25 = .ok (.getfield 19, 3) := by decide +kernel
theorem dX13_level_28 : decode cX13_level 28 = .ok (.iload_n 1, 1) := by decide +kernel
theorem dX13_level_29 : decode cX13_level 29 = .ok (.aaload, 1) := by decide +kernel
theorem dX13_level_30 : decode cX13_level 30 = .ok (.invokevirtual 222, 3) := by decide +kernel
theorem dX13_level_33 : decode cX13_level 33 = .ok (.ireturn, 1) := by decide +kernel
theorem dX13_addEffect_0 : decode cX13_addEffect 0 = .ok (.aload_n 0, 1) := by decide +kernel
theorem dX13_addEffect_1 : decode cX13_addEffect 1 = .ok (.iload_n 1, 1) := by decide +kernel
theorem dX13_addEffect_2 : decode cX13_addEffect 2 = .ok (.invokestatic 121, 3) := by decide +kernel
theorem dX13_addEffect_5 : decode cX13_addEffect 5 = .ok (.ifCond .ne 7, 3) := by decide +kernel
theorem dX13_addEffect_8 : decode cX13_addEffect 8 = .ok (.iconst 1, 1) := by decide +kernel
theorem dX13_addEffect_9 : decode cX13_addEffect 9 = .ok (.goto 49, 3) := by decide +kernel
theorem dX13_addEffect_12 : decode cX13_addEffect 12 = .ok (.ldc 228, 2) := by decide +kernel
theorem dX13_addEffect_14 : decode cX13_addEffect 14 = .ok (.iload_n 2, 1) := by decide +kernel
theorem dX13_addEffect_15 : decode cX13_addEffect 15 = .ok (.invokevirtual 207, 3) := by decide +kernel
theorem dX13_addEffect_18 : decode cX13_addEffect 18 = .ok (.ifCond .lt 13, 3) := by decide +kernel
theorem dX13_addEffect_21 : decode cX13_addEffect 21 = .ok (.iload_n 3, 1) := by decide +kernel
theorem dX13_addEffect_22 : decode cX13_addEffect 22 = .ok (.iconst 0, 1) := by decide +kernel
theorem dX13_addEffect_23 : decode cX13_addEffect 23 = .ok (.bipush 100, 2) := by decide +kernel
theorem dX13_addEffect_25 : decode cX13_addEffect 25 = .ok (.invokestatic 50, 3) := by decide +kernel
theorem dX13_addEffect_28 : decode cX13_addEffect 28 = .ok (.ifCond .ne 7, 3) := by decide +kernel
theorem dX13_addEffect_31 : decode cX13_addEffect 31 = .ok (.iconst 2, 1) := by decide +kernel
theorem dX13_addEffect_32 : decode cX13_addEffect 32 = .ok (.goto 26, 3) := by decide +kernel
theorem dX13_addEffect_35 : decode cX13_addEffect 35 = .ok (.aload_n 0, 1) := by decide +kernel
theorem dX13_addEffect_36 : decode cX13_addEffect 36 = .ok (.getfield 19, 3) := by decide +kernel
theorem dX13_addEffect_39 : decode cX13_addEffect 39 = .ok (.iload_n 1, 1) := by decide +kernel
theorem dX13_addEffect_40 : decode cX13_addEffect 40 = .ok (.aaload, 1) := by decide +kernel
theorem dX13_addEffect_41 : decode cX13_addEffect 41 = .ok (.getfield 230, 3) := by decide +kernel
theorem dX13_addEffect_44 : decode cX13_addEffect 44 = .ok (.invokeinterface 54 1, 5) := by decide +kernel
theorem dX13_addEffect_49 : decode cX13_addEffect 49 = .ok (.iconst 3, 1) := by decide +kernel
theorem dX13_addEffect_50 : decode cX13_addEffect 50 = .ok (.if_icmp .ne 7, 3) := by decide +kernel
theorem dX13_addEffect_53 : decode cX13_addEffect 53 = .ok (.iconst 3, 1) := by decide +kernel
theorem dX13_addEffect_54 : decode cX13_addEffect 54 = .ok (.goto 4, 3) := by decide +kernel
theorem dX13_addEffect_57 : decode cX13_addEffect 57 = .ok (.iconst 0, 1) := by decide +kernel
theorem dX13_addEffect_58 : decode cX13_addEffect 58 = .ok (.invokevirtual 68, 3) := by decide +kernel
theorem dX13_addEffect_61 : decode cX13_addEffect 61 = .ok (.ifCond .eq 5, 3) := by decide +kernel
theorem dX13_addEffect_64 : decode cX13_addEffect 64 = .ok (.iconst 0, 1) := by decide +kernel
theorem dX13_addEffect_65 : decode cX13_addEffect 65 = .ok (.ireturn, 1) := by decide +kernel
theorem dX13_addEffect_66 : decode cX13_addEffect 66 = .ok (.aload_n 0, 1) := by decide +kernel
theorem dX13_addEffect_67 : decode cX13_addEffect 67 = .ok (.getfield 19, 3) := by decide +kernel
theorem dX13_addEffect_70 : decode cX13_addEffect 70 = .ok (.iload_n 1, 1) := by decide +kernel
theorem dX13_addEffect_71 : decode cX13_addEffect 71 = .ok (.aaload, 1) := by decide +kernel
theorem dX13_addEffect_72 : decode cX13_addEffect 72 = .ok (.getfield 230, 3) := by decide +kernel
theorem dX13_addEffect_75 : decode cX13_addEffect 75 = .ok (.iconst 3, 1) := by decide +kernel
theorem dX13_addEffect_76 : decode cX13_addEffect 76 = .ok (.newarray .int, 2) := by decide +kernel
theorem dX13_addEffect_78 : decode cX13_addEffect 78 = .ok (.dup, 1) := by decide +kernel
theorem dX13_addEffect_79 : decode cX13_addEffect 79 = .ok (.iconst 0, 1) := by decide +kernel
theorem dX13_addEffect_80 : decode cX13_addEffect 80 = .ok (.iload_n 2, 1) := by decide +kernel
theorem dX13_addEffect_81 : decode cX13_addEffect 81 = .ok (.iastore, 1) := by decide +kernel
theorem dX13_addEffect_82 : decode cX13_addEffect 82 = .ok (.dup, 1) := by decide +kernel
theorem dX13_addEffect_83 : decode cX13_addEffect 83 = .ok (.iconst 1, 1) := by decide +kernel
theorem dX13_addEffect_84 : decode cX13_addEffect 84 = .ok (.iload_n 3, 1) := by decide +kernel
theorem dX13_addEffect_85 : decode cX13_addEffect 85 = .ok (.iastore, 1) := by decide +kernel
theorem dX13_addEffect_86 : decode cX13_addEffect 86 = .ok (.dup, 1) := by decide +kernel
theorem dX13_addEffect_87 : decode cX13_addEffect 87 = .ok (.iconst 2, 1) := by decide +kernel
theorem dX13_addEffect_88 : decode cX13_addEffect 88 = .ok (.iconst 0, 1) := by decide +kernel
theorem dX13_addEffect_89 : decode cX13_addEffect 89 = .ok (.iastore, 1) := by decide +kernel
theorem dX13_addEffect_90 : decode cX13_addEffect 90 = .ok (.invokeinterface 77 2, 5) := by decide +kernel
theorem dX13_addEffect_95 : decode cX13_addEffect 95 = .ok (.pop, 1) := by decide +kernel
theorem dX13_addEffect_96 : decode cX13_addEffect 96 = .ok (.aload_n 0, 1) := by decide +kernel
theorem dX13_addEffect_97 : decode cX13_addEffect 97 = .ok (.invokevirtual 81, 3) := by decide +kernel
theorem dX13_addEffect_100 : decode cX13_addEffect 100 = .ok (.aload_n 0, 1) := by decide +kernel
theorem dX13_addEffect_101 : decode cX13_addEffect 101 = .ok (.getfield 19, 3) := by decide +kernel
theorem dX13_addEffect_104 : decode cX13_addEffect 104 = .ok (.iload_n 1, 1) := by decide +kernel
theorem dX13_addEffect_105 : decode cX13_addEffect 105 = .ok (.aaload, 1) := by decide +kernel
theorem dX13_addEffect_106 : decode cX13_addEffect 106 = .ok (.getfield 230, 3) := by decide +kernel
theorem dX13_addEffect_109 : decode cX13_addEffect 109 = .ok (.invokeinterface 54 1, 5) := by decide +kernel
theorem dX13_addEffect_114 : decode cX13_addEffect 114 = .ok (.ireturn, 1) := by decide +kernel
theorem dX13_dropEffects_0 : decode cX13_dropEffects 0 = .ok (.aload_n 0, 1) := by decide +kernel
theorem dX13_dropEffects_1 : decode cX13_dropEffects 1 = .ok (.iload_n 1, 1) := by decide +kernel
theorem dX13_dropEffects_2 : decode cX13_dropEffects 2 = .ok (.invokestatic 121, 3) := by decide +kernel
theorem dX13_dropEffects_5 : decode cX13_dropEffects 5 = .ok (.ifCond .eq 7, 3) := by decide +kernel
theorem dX13_dropEffects_8 : decode cX13_dropEffects 8 = .ok (.iconst 0, 1) := by decide +kernel
theorem dX13_dropEffects_9 : decode cX13_dropEffects 9 = .ok (.goto 4, 3) := by decide +kernel
theorem dX13_dropEffects_12 : decode cX13_dropEffects 12 = .ok (.iconst 1, 1) := by decide +kernel
theorem dX13_dropEffects_13 : decode cX13_dropEffects 13 = .ok (.invokevirtual 68, 3) := by decide +kernel
theorem dX13_dropEffects_16 : decode cX13_dropEffects 16 = .ok (.ifCond .eq 5, 3) := by decide +kernel
theorem dX13_dropEffects_19 : decode cX13_dropEffects 19 = .ok (.iconst 0, 1) := by decide +kernel
theorem dX13_dropEffects_20 : decode cX13_dropEffects 20 = .ok (.ireturn, 1) := by decide +kernel
theorem dX13_dropEffects_21 : decode cX13_dropEffects 21 = .ok (.aload_n 0, 1) := by decide +kernel
theorem dX13_dropEffects_22 : decode cX13_dropEffects 22 = .ok (.getfield 19, 3) := by decide +kernel
theorem dX13_dropEffects_25 : decode cX13_dropEffects 25 = .ok (.iload_n 1, 1) := by decide +kernel
theorem dX13_dropEffects_26 : decode cX13_dropEffects 26 = .ok (.aaload, 1) := by decide +kernel
theorem dX13_dropEffects_27 : decode cX13_dropEffects 27 = .ok (.getfield 230, 3) := by decide +kernel
theorem dX13_dropEffects_30 : decode cX13_dropEffects 30 = .ok (.invokeinterface 54 1, 5) := by decide +kernel
theorem dX13_dropEffects_35 : decode cX13_dropEffects 35 = .ok (.istore_n 2, 1) := by decide +kernel
theorem dX13_dropEffects_36 : decode cX13_dropEffects 36 = .ok (.aload_n 0, 1) := by decide +kernel
theorem dX13_dropEffects_37 : decode cX13_dropEffects 37 = .ok (.getfield 19, 3) := by decide +kernel
theorem dX13_dropEffects_40 : decode cX13_dropEffects 40 = .ok (.iload_n 1, 1) := by decide +kernel
theorem dX13_dropEffects_41 : decode cX13_dropEffects 41 = .ok (.aaload, 1) := by decide +kernel
theorem dX13_dropEffects_42 : decode cX13_dropEffects 42 = .ok (.getfield 230, 3) := by decide +kernel
theorem dX13_dropEffects_45 : decode cX13_dropEffects 45 = .ok (.invokeinterface 233 1, 5) := by decide +kernel
theorem dX13_dropEffects_50 : decode cX13_dropEffects 50 = .ok (.aload_n 0, 1) := by decide +kernel
theorem dX13_dropEffects_51 : decode cX13_dropEffects 51 = .ok (.invokevirtual 81, 3) := by decide +kernel
theorem dX13_dropEffects_54 : decode cX13_dropEffects 54 = .ok (.iload_n 2, 1) := by decide +kernel
theorem dX13_dropEffects_55 : decode cX13_dropEffects 55 = .ok (.ireturn, 1) := by decide +kernel
theorem dX13_tail_0 : decode cX13_tail 0 = .ok (.aload_n 0, 1) := by decide +kernel
theorem dX13_tail_1 : decode cX13_tail 1 = .ok (.iload_n 1, 1) := by decide +kernel
theorem dX13_tail_2 : decode cX13_tail 2 = .ok (.invokestatic 121, 3) := by decide +kernel
theorem dX13_tail_5 : decode cX13_tail 5 = .ok (.ifCond .ne 7, 3) := by decide +kernel
theorem dX13_tail_8 : decode cX13_tail 8 = .ok (.iconst 1, 1) := by decide +kernel
theorem dX13_tail_9 : decode cX13_tail 9 = .ok (.goto 32, 3) := by decide +kernel
theorem dX13_tail_12 : decode cX13_tail 12 = .ok (.iload_n 2, 1) := by decide +kernel
theorem dX13_tail_13 : decode cX13_tail 13 = .ok (.iconst 0, 1) := by decide +kernel
theorem dX13_tail_14 : decode cX13_tail 14 = .ok (.aload_n 0, 1) := by decide +kernel
theorem dX13_tail_15 : decode cX13_tail 15 = .ok (.getfield 19, 3) := by decide +kernel
theorem dX13_tail_18 : decode cX13_tail 18 = .ok (.iload_n 1, 1) := by decide +kernel
theorem dX13_tail_19 : decode cX13_tail 19 = .ok (.aaload, 1) := by decide +kernel
theorem dX13_tail_20 : decode cX13_tail 20 = .ok (.getfield 230, 3) := by decide +kernel
theorem dX13_tail_23 : decode cX13_tail 23 = .ok (.invokeinterface 54 1, 5) := by decide +kernel
theorem dX13_tail_28 : decode cX13_tail 28 = .ok (.iconst 1, 1) := by decide +kernel
theorem dX13_tail_29 : decode cX13_tail 29 = .ok (.isub, 1) := by decide +kernel
theorem dX13_tail_30 : decode cX13_tail 30 = .ok (.invokestatic 50, 3) := by decide +kernel
theorem dX13_tail_33 : decode cX13_tail 33 = .ok (.ifCond .ne 7, 3) := by decide +kernel
theorem dX13_tail_36 : decode cX13_tail 36 = .ok (.iconst 2, 1) := by decide +kernel
theorem dX13_tail_37 : decode cX13_tail 37 = .ok (.goto 4, 3) := by decide +kernel
theorem dX13_tail_40 : decode cX13_tail 40 = .ok (.iconst 0, 1) := by decide +kernel
theorem dX13_tail_41 : decode cX13_tail 41 = .ok (.invokevirtual 68, 3) := by decide +kernel
theorem dX13_tail_44 : decode cX13_tail 44 = .ok (.ifCond .eq 7, 3) := by decide +kernel
theorem dX13_tail_47 : decode cX13_tail 47 = .ok (.iconst 0, 1) := by decide +kernel
theorem dX13_tail_48 : decode cX13_tail 48 = .ok (.goto 23, 3) := by decide +kernel
theorem dX13_tail_51 : decode cX13_tail 51 = .ok (.aload_n 0, 1) := by decide +kernel
theorem dX13_tail_52 : decode cX13_tail 52 = .ok (.getfield 19, 3) := by decide +kernel
theorem dX13_tail_55 : decode cX13_tail 55 = .ok (.iload_n 1, 1) := by decide +kernel
theorem dX13_tail_56 : decode cX13_tail 56 = .ok (.aaload, 1) := by decide +kernel
theorem dX13_tail_57 : decode cX13_tail 57 = .ok (.getfield 230, 3) := by decide +kernel
theorem dX13_tail_60 : decode cX13_tail 60 = .ok (.iload_n 2, 1) := by decide +kernel
theorem dX13_tail_61 : decode cX13_tail 61 = .ok (.invokeinterface 87 2, 5) := by decide +kernel
theorem dX13_tail_66 : decode cX13_tail 66 = .ok (.checkcast 236, 3) := by decide +kernel
theorem dX13_tail_69 : decode cX13_tail 69 = .ok (.iconst 2, 1) := by decide +kernel
theorem dX13_tail_70 : decode cX13_tail 70 = .ok (.iaload, 1) := by decide +kernel
theorem dX13_tail_71 : decode cX13_tail 71 = .ok (.ireturn, 1) := by decide +kernel
theorem dX13_sounds_0 : decode cX13_sounds 0 = .ok (.aload_n 0, 1) := by decide +kernel
theorem dX13_sounds_1 : decode cX13_sounds 1 = .ok (.aload_n 1, 1) := by decide +kernel
theorem dX13_sounds_2 : decode cX13_sounds 2 = .ok (.invokevirtual 237, 3) := by decide +kernel
theorem dX13_sounds_5 : decode cX13_sounds 5 = .ok (.istore_n 2, 1) := by decide +kernel
theorem dX13_sounds_6 : decode cX13_sounds 6 = .ok (.iconst 0, 1) := by decide +kernel
theorem dX13_sounds_7 : decode cX13_sounds 7 = .ok (.istore_n 3, 1) := by decide +kernel
theorem dX13_sounds_8 : decode cX13_sounds 8 = .ok (.iconst 0, 1) := by decide +kernel
theorem dX13_sounds_9 : decode cX13_sounds 9 = .ok (.istore 4, 2) := by decide +kernel
theorem dX13_sounds_11 : decode cX13_sounds 11 = .ok (.aload_n 1, 1) := by decide +kernel
theorem dX13_sounds_12 : decode cX13_sounds 12 = .ok (.getfield 230, 3) := by decide +kernel
theorem dX13_sounds_15 : decode cX13_sounds 15 = .ok (.invokeinterface 240 1, 5) := by decide +kernel
theorem dX13_sounds_20 : decode cX13_sounds 20 = .ok (.astore 5, 2) := by decide +kernel
theorem dX13_sounds_22 : decode cX13_sounds 22 = .ok (.aload 5, 2) := by decide +kernel
theorem dX13_sounds_24 : decode cX13_sounds 24 = .ok (.invokeinterface 244 1, 5) := by decide +kernel
theorem dX13_sounds_29 : decode cX13_sounds 29 = .ok (.ifCond .eq 120, 3) := by decide +kernel
theorem dX13_sounds_32 : decode cX13_sounds 32 = .ok (.aload 5, 2) := by decide +kernel
theorem dX13_sounds_34 : decode cX13_sounds 34 = .ok (.invokeinterface 249 1, 5) := by decide +kernel
theorem dX13_sounds_39 : decode cX13_sounds 39 = .ok (.checkcast 236, 3) := by decide +kernel
theorem dX13_sounds_42 : decode cX13_sounds 42 = .ok (.astore 6, 2) := by decide +kernel
theorem dX13_sounds_44 : decode cX13_sounds 44 = .ok (.iload 4, 2) := by decide +kernel
theorem dX13_sounds_46 : decode cX13_sounds 46 = .ok (.aload 6, 2) := by decide +kernel
theorem dX13_sounds_48 : decode cX13_sounds 48 = .ok (.iconst 0, 1) := by decide +kernel
theorem dX13_sounds_49 : decode cX13_sounds 49 = .ok (.iaload, 1) := by decide +kernel
theorem dX13_sounds_50 : decode cX13_sounds 50 = .ok (.bipush 99, 2) := by decide +kernel
theorem dX13_sounds_52 : decode cX13_sounds 52 = .ok (.if_icmp .ne 7, 3) := by decide +kernel
theorem dX13_sounds_55 : decode cX13_sounds 55 = .ok (.iconst 1, 1) := by decide +kernel
theorem dX13_sounds_56 : decode cX13_sounds 56 = .ok (.goto 4, 3) := by decide +kernel
theorem dX13_sounds_59 : decode cX13_sounds 59 = .ok (.iconst 0, 1) := by decide +kernel
theorem dX13_sounds_60 : decode cX13_sounds 60 = .ok (.ior, 1) := by decide +kernel
theorem dX13_sounds_61 : decode cX13_sounds 61 = .ok (.istore 4, 2) := by decide +kernel
theorem dX13_sounds_63 : decode cX13_sounds 63 = .ok (.aload 6, 2) := by decide +kernel
theorem dX13_sounds_65 : decode cX13_sounds 65 = .ok (.iconst 0, 1) := by decide +kernel
theorem dX13_sounds_66 : decode cX13_sounds 66 = .ok (.iaload, 1) := by decide +kernel
theorem dX13_sounds_67 : decode cX13_sounds 67 = .ok (.bipush 99, 2) := by decide +kernel
theorem dX13_sounds_69 : decode cX13_sounds 69 = .ok (.if_icmp .ne 6, 3) := by decide +kernel
theorem dX13_sounds_72 : decode cX13_sounds 72 = .ok (.goto (-50), 3) := by decide +kernel
theorem dX13_sounds_75 : decode cX13_sounds 75 = .ok (.aload 6, 2) := by decide +kernel
theorem dX13_sounds_77 : decode cX13_sounds 77 = .ok (.iconst 0, 1) := by decide +kernel
theorem dX13_sounds_78 : decode cX13_sounds 78 = .ok (.iaload, 1) := by decide +kernel
theorem dX13_sounds_79 : decode cX13_sounds 79 = .ok (.bipush 101, 2) := by decide +kernel
theorem dX13_sounds_81 : decode cX13_sounds 81 = .ok (.if_icmp .ne 8, 3) := by decide +kernel
theorem dX13_sounds_84 : decode cX13_sounds 84 = .ok (.bipush 20, 2) := by decide +kernel
theorem dX13_sounds_86 : decode cX13_sounds 86 = .ok (.goto 5, 3) := by decide +kernel
theorem dX13_sounds_89 : decode cX13_sounds 89 = .ok (.bipush 50, 2) := by decide +kernel
theorem dX13_sounds_91 : decode cX13_sounds 91 = .ok (.istore 7, 2) := by decide +kernel
theorem dX13_sounds_93 : decode cX13_sounds 93 = .ok (.iload_n 2, 1) := by decide +kernel
theorem dX13_sounds_94 : decode cX13_sounds 94 = .ok (.aload 6, 2) := by decide +kernel
theorem dX13_sounds_96 : decode cX13_sounds 96 = .ok (.iconst 1, 1) := by decide +kernel
theorem dX13_sounds_97 : decode cX13_sounds 97 = .ok (.iaload, 1) := by decide +kernel
theorem dX13_sounds_98 : decode cX13_sounds 98 = .ok (.imul, 1) := by decide +kernel
theorem dX13_sounds_99 : decode cX13_sounds 99 = .ok (.bipush 100, 2) := by decide +kernel
theorem dX13_sounds_101 : decode cX13_sounds 101 = .ok (.idiv, 1) := by decide +kernel
theorem dX13_sounds_102 : decode cX13_sounds 102 = .ok (.istore 8, 2) := by decide +kernel
theorem dX13_sounds_104 : decode cX13_sounds 104 = .ok (.aload 6, 2) := by decide +kernel
theorem dX13_sounds_106 : decode cX13_sounds 106 = .ok (.iconst 2, 1) := by decide +kernel
theorem dX13_sounds_107 : decode cX13_sounds 107 = .ok (.iload 8, 2) := by decide +kernel
theorem dX13_sounds_109 : decode cX13_sounds 109 = .ok (.aload 6, 2) := by decide +kernel
theorem dX13_sounds_111 : decode cX13_sounds 111 = .ok (.iconst 2, 1) := by decide +kernel
theorem dX13_sounds_112 : decode cX13_sounds 112 = .ok (.iaload, 1) := by decide +kernel
theorem dX13_sounds_113 : decode cX13_sounds 113 = .ok (.if_icmp .le 8, 3) := by decide +kernel
theorem dX13_sounds_116 : decode cX13_sounds 116 = .ok (.iload 8, 2) := by decide +kernel
theorem dX13_sounds_118 : decode cX13_sounds 118 = .ok (.goto 20, 3) := by decide +kernel
theorem dX13_sounds_121 : decode cX13_sounds 121 = .ok (.aload 6, 2) := by decide +kernel
theorem dX13_sounds_123 : decode cX13_sounds 123 = .ok (.iconst 2, 1) := by decide +kernel
theorem dX13_sounds_124 : decode cX13_sounds 124 = .ok (.iaload, 1) := by decide +kernel
theorem dX13_sounds_125 : decode cX13_sounds 125 = .ok (.aload 6, 2) := by decide +kernel
theorem dX13_sounds_127 : decode cX13_sounds 127 = .ok (.iconst 2, 1) := by decide +kernel
theorem dX13_sounds_128 : decode cX13_sounds 128 = .ok (.iaload, 1) := by decide +kernel
theorem dX13_sounds_129 : decode cX13_sounds 129 = .ok (.iload 7, 2) := by decide +kernel
theorem dX13_sounds_131 : decode cX13_sounds 131 = .ok (.iadd, 1) := by decide +kernel
theorem dX13_sounds_132 : decode cX13_sounds 132 = .ok (.iconst 1, 1) := by decide +kernel
theorem dX13_sounds_133 : decode cX13_sounds 133 = .ok (.isub, 1) := by decide +kernel
theorem dX13_sounds_134 : decode cX13_sounds 134 = .ok (.iload 7, 2) := by decide +kernel
theorem dX13_sounds_136 : decode cX13_sounds 136 = .ok (.idiv, 1) := by decide +kernel
theorem dX13_sounds_137 : decode cX13_sounds 137 = .ok (.isub, 1) := by decide +kernel
theorem dX13_sounds_138 : decode cX13_sounds 138 = .ok (.iastore, 1) := by decide +kernel
theorem dX13_sounds_139 : decode cX13_sounds 139 = .ok (.iload_n 3, 1) := by decide +kernel
theorem dX13_sounds_140 : decode cX13_sounds 140 = .ok (.aload 6, 2) := by decide +kernel
theorem dX13_sounds_142 : decode cX13_sounds 142 = .ok (.iconst 2, 1) := by decide +kernel
theorem dX13_sounds_143 : decode cX13_sounds 143 = .ok (.iaload, 1) := by decide +kernel
theorem dX13_sounds_144 : decode cX13_sounds 144 = .ok (.iadd, 1) := by decide +kernel
theorem dX13_sounds_145 : decode cX13_sounds 145 = .ok (.istore_n 3, 1) := by decide +kernel
theorem dX13_sounds_146 : decode cX13_sounds 146 = .ok (.goto (-124), 3) := by decide +kernel
theorem dX13_sounds_149 : decode cX13_sounds 149 = .ok (.iload 4, 2) := by decide +kernel
theorem dX13_sounds_151 : decode cX13_sounds 151 = .ok (.ifCond .eq 14, 3) := by decide +kernel
theorem dX13_sounds_154 : decode cX13_sounds 154 = .ok (.aload_n 1, 1) := by decide +kernel
theorem dX13_sounds_155 : decode cX13_sounds 155 = .ok (.invokevirtual 253, 3) := by decide +kernel
theorem dX13_sounds_158 : decode cX13_sounds 158 = .ok (.ifCond .eq 7, 3) := by decide +kernel
theorem dX13_sounds_161 : decode cX13_sounds 161 = .ok (.iload_n 3, 1) := by decide +kernel
theorem dX13_sounds_162 : decode cX13_sounds 162 = .ok (.goto 6, 3) := by decide +kernel
theorem dX13_sounds_165 : decode cX13_sounds 165 = .ok (.iload_n 2, 1) := by decide +kernel
theorem dX13_sounds_166 : decode cX13_sounds 166 = .ok (.iload_n 3, 1) := by decide +kernel
theorem dX13_sounds_167 : decode cX13_sounds 167 = .ok (.iadd, 1) := by decide +kernel
theorem dX13_sounds_168 : decode cX13_sounds 168 = .ok (.ireturn, 1) := by decide +kernel
theorem dX13_dances_0 : decode cX13_dances 0 = .ok (.iconst 0, 1) := by decide +kernel
theorem dX13_dances_1 : decode cX13_dances 1 = .ok (.istore_n 1, 1) := by decide +kernel
theorem dX13_dances_2 : decode cX13_dances 2 = .ok (.aload_n 0, 1) := by decide +kernel
theorem dX13_dances_3 : decode cX13_dances 3 = .ok (.getfield 19, 3) := by decide +kernel
theorem dX13_dances_6 : decode cX13_dances 6 = .ok (.astore_n 2, 1) := by decide +kernel
theorem dX13_dances_7 : decode cX13_dances 7 = .ok (.aload_n 2, 1) := by decide +kernel
theorem dX13_dances_8 : decode cX13_dances 8 = .ok (.arraylength, 1) := by decide +kernel
theorem dX13_dances_9 : decode cX13_dances 9 = .ok (.istore_n 3, 1) := by decide +kernel
theorem dX13_dances_10 : decode cX13_dances 10 = .ok (.iconst 0, 1) := by decide +kernel
theorem dX13_dances_11 : decode cX13_dances 11 = .ok (.istore 4, 2) := by decide +kernel
theorem dX13_dances_13 : decode cX13_dances 13 = .ok (.iload 4, 2) := by decide +kernel
theorem dX13_dances_15 : decode cX13_dances 15 = .ok (.iload_n 3, 1) := by decide +kernel
theorem dX13_dances_16 : decode cX13_dances 16 = .ok (.if_icmp .ge 43, 3) := by decide +kernel
theorem dX13_dances_19 : decode cX13_dances 19 = .ok (.aload_n 2, 1) := by decide +kernel
theorem dX13_dances_20 : decode cX13_dances 20 = .ok (.iload 4, 2) := by decide +kernel
theorem dX13_dances_22 : decode cX13_dances 22 = .ok (.aaload, 1) := by decide +kernel
theorem dX13_dances_23 : decode cX13_dances 23 = .ok (.astore 5, 2) := by decide +kernel
theorem dX13_dances_25 : decode cX13_dances 25 = .ok (.iload_n 1, 1) := by decide +kernel
theorem dX13_dances_26 : decode cX13_dances 26 = .ok (.aload_n 0, 1) := by decide +kernel
theorem dX13_dances_27 : decode cX13_dances 27 = .ok (.aload 5, 2) := by decide +kernel
theorem dX13_dances_29 : decode cX13_dances 29 = .ok (.invokevirtual 256, 3) := by decide +kernel
theorem dX13_dances_32 : decode cX13_dances 32 = .ok (.ifCond .eq 18, 3) := by decide +kernel
theorem dX13_dances_35 : decode cX13_dances 35 = .ok (.aload 5, 2) := by decide +kernel
theorem dX13_dances_37 : decode cX13_dances 37 = .ok (.getfield 60, 3) := by decide +kernel
theorem dX13_dances_40 : decode cX13_dances 40 = .ok (.getfield 114, 3) := by decide +kernel
theorem dX13_dances_43 : decode cX13_dances 43 = .ok (.ifCond .eq 7, 3) := by decide +kernel
theorem dX13_dances_46 : decode cX13_dances 46 = .ok (.iconst 1, 1) := by decide +kernel
theorem dX13_dances_47 : decode cX13_dances 47 = .ok (.goto 4, 3) := by decide +kernel
theorem dX13_dances_50 : decode cX13_dances 50 = .ok (.iconst 0, 1) := by decide +kernel
theorem dX13_dances_51 : decode cX13_dances 51 = .ok (.ior, 1) := by decide +kernel
theorem dX13_dances_52 : decode cX13_dances 52 = .ok (.istore_n 1, 1) := by decide +kernel
theorem dX13_dances_53 : decode cX13_dances 53 = .ok (.iinc 4 1, 3) := by decide +kernel
theorem dX13_dances_56 : decode cX13_dances 56 = .ok (.goto (-43), 3) := by decide +kernel
theorem dX13_dances_59 : decode cX13_dances 59 = .ok (.iconst 0, 1) := by decide +kernel
theorem dX13_dances_60 : decode cX13_dances 60 = .ok (.istore_n 2, 1) := by decide +kernel
theorem dX13_dances_61 : decode cX13_dances 61 = .ok (.iload_n 2, 1) := by decide +kernel
theorem dX13_dances_62 : decode cX13_dances 62 = .ok (.bipush 6, 2) := by decide +kernel
theorem dX13_dances_64 : decode cX13_dances 64 = .ok (.if_icmp .ge 275, 3) := by decide +kernel
theorem dX13_dances_67 : decode cX13_dances 67 = .ok (.iconst (-1), 1) := by decide +kernel
theorem dX13_dances_68 : decode cX13_dances 68 = .ok (.istore_n 3, 1) := by decide +kernel
theorem dX13_dances_69 : decode cX13_dances 69 = .ok (.aload_n 0, 1) := by decide +kernel
theorem dX13_dances_70 : decode cX13_dances 70 = .ok (.getfield 19, 3) := by decide +kernel
theorem dX13_dances_73 : decode cX13_dances 73 = .ok (.astore 4, 2) := by decide +kernel
theorem dX13_dances_75 : decode cX13_dances 75 = .ok (.aload 4, 2) := by decide +kernel
theorem dX13_dances_77 : decode cX13_dances 77 = .ok (.arraylength, 1) := by decide +kernel
theorem dX13_dances_78 : decode cX13_dances 78 = .ok (.istore 5, 2) := by decide +kernel
theorem dX13_dances_80 : decode cX13_dances 80 = .ok (.iconst 0, 1) := by decide +kernel
theorem dX13_dances_81 : decode cX13_dances 81 = .ok (.istore 6, 2) := by decide +kernel
theorem dX13_dances_83 : decode cX13_dances 83 = .ok (.iload 6, 2) := by decide +kernel
theorem dX13_dances_85 : decode cX13_dances 85 = .ok (.iload 5, 2) := by decide +kernel
theorem dX13_dances_87 : decode cX13_dances 87 = .ok (.if_icmp .ge 77, 3) := by decide +kernel
theorem dX13_dances_90 : decode cX13_dances 90 = .ok (.aload 4, 2) := by decide +kernel
theorem dX13_dances_92 : decode cX13_dances 92 = .ok (.iload 6, 2) := by decide +kernel
theorem dX13_dances_94 : decode cX13_dances 94 = .ok (.aaload, 1) := by decide +kernel
theorem dX13_dances_95 : decode cX13_dances 95 = .ok (.astore 7, 2) := by decide +kernel
theorem dX13_dances_97 : decode cX13_dances 97 = .ok (.aload_n 0, 1) := by decide +kernel
theorem dX13_dances_98 : decode cX13_dances 98 = .ok (.aload 7, 2) := by decide +kernel
theorem dX13_dances_100 : decode cX13_dances 100 = .ok (.invokevirtual 256, 3) := by decide +kernel
theorem dX13_dances_103 : decode cX13_dances 103 = .ok (.ifCond .ne 6, 3) := by decide +kernel
theorem dX13_dances_106 : decode cX13_dances 106 = .ok (.goto 52, 3) := by decide +kernel
theorem dX13_dances_109 : decode cX13_dances 109 = .ok (.aload 7, 2) := by decide +kernel
theorem dX13_dances_111 : decode cX13_dances 111 = .ok (.getfield 60, 3) := by decide +kernel
theorem dX13_dances_114 : decode cX13_dances 114 = .ok (.getfield 108, 3) := by decide +kernel
theorem dX13_dances_117 : decode cX13_dances 117 = .ok (.iconst 4, 1) := by decide +kernel
theorem dX13_dances_118 : decode cX13_dances 118 = .ok (.iload_n 2, 1) := by decide +kernel
theorem dX13_dances_119 : decode cX13_dances 119 = .ok (.imul, 1) := by decide +kernel
theorem dX13_dances_120 : decode cX13_dances 120 = .ok (.invokestatic 111, 3) := by decide +kernel
theorem dX13_dances_123 : decode cX13_dances 123 = .ok (.aload 7, 2) := by decide +kernel
theorem dX13_dances_125 : decode cX13_dances 125 = .ok (.getfield 60, 3) := by decide +kernel
theorem dX13_dances_128 : decode cX13_dances 128 = .ok (.getfield 225, 3) := by decide +kernel
theorem dX13_dances_131 : decode cX13_dances 131 = .ok (.iload_n 2, 1) := by decide +kernel
theorem dX13_dances_132 : decode cX13_dances 132 = .ok (.isub, 1) := by decide +kernel
theorem dX13_dances_133 : decode cX13_dances 133 = .ok (.iconst 3, 1) := by decide +kernel
theorem dX13_dances_134 : decode cX13_dances 134 = .ok (.isub, 1) := by decide +kernel
theorem dX13_dances_135 : decode cX13_dances 135 = .ok (.invokestatic 98, 3) := by decide +kernel
theorem dX13_dances_138 : decode cX13_dances 138 = .ok (.iadd, 1) := by decide +kernel
theorem dX13_dances_139 : decode cX13_dances 139 = .ok (.istore 8, 2) := by decide +kernel
theorem dX13_dances_141 : decode cX13_dances 141 = .ok (.iload_n 3, 1) := by decide +kernel
theorem dX13_dances_142 : decode cX13_dances 142 = .ok (.iconst (-1), 1) := by decide +kernel
theorem dX13_dances_143 : decode cX13_dances 143 = .ok (.if_icmp .ne 8, 3) := by decide +kernel
theorem dX13_dances_146 : decode cX13_dances 146 = .ok (.iload 8, 2) := by decide +kernel
theorem dX13_dances_148 : decode cX13_dances 148 = .ok (.goto 9, 3) := by decide +kernel
theorem dX13_dances_151 : decode cX13_dances 151 = .ok (.iload_n 3, 1) := by decide +kernel
theorem dX13_dances_152 : decode cX13_dances 152 = .ok (.iload 8, 2) := by decide +kernel
theorem dX13_dances_154 : decode cX13_dances 154 = .ok (.invokestatic 104, 3) := by decide +kernel
theorem dX13_dances_157 : decode cX13_dances 157 = .ok (.istore_n 3, 1) := by decide +kernel
theorem dX13_dances_158 : decode cX13_dances 158 = .ok (.iinc 6 1, 3) := by decide +kernel
theorem dX13_dances_161 : decode cX13_dances 161 = .ok (.goto (-78), 3) := by decide +kernel
theorem dX13_dances_164 : decode cX13_dances 164 = .ok (.iload_n 3, 1) := by decide +kernel
theorem dX13_dances_165 : decode cX13_dances 165 = .ok (.iconst (-1), 1) := by decide +kernel
theorem dX13_dances_166 : decode cX13_dances 166 = .ok (.if_icmp .eq 9, 3) := by decide +kernel
theorem dX13_dances_169 : decode cX13_dances 169 = .ok (.iload_n 3, 1) := by decide +kernel
theorem dX13_dances_170 : decode cX13_dances 170 = .ok (.bipush 6, 2) := by decide +kernel
theorem dX13_dances_172 : decode cX13_dances 172 = .ok (.if_icmp .lt 21, 3) := by decide +kernel
theorem dX13_dances_175 : decode cX13_dances 175 = .ok (.aload_n 0, 1) := by decide +kernel
theorem dX13_dances_176 : decode cX13_dances 176 = .ok (.getfield 23, 3) := by decide +kernel
theorem dX13_dances_179 : decode cX13_dances 179 = .ok (.iload_n 2, 1) := by decide +kernel
theorem dX13_dances_180 : decode cX13_dances 180 = .ok (.iconst 0, 1) := by decide +kernel
theorem dX13_dances_181 : decode cX13_dances 181 = .ok (.aload_n 0, 1) := by decide +kernel
theorem dX13_dances_182 : decode cX13_dances 182 = .ok (.getfield 23, 3) := by decide +kernel
theorem dX13_dances_185 : decode cX13_dances 185 = .ok (.iload_n 2, 1) := by decide +kernel
theorem dX13_dances_186 : decode cX13_dances 186 = .ok (.iaload, 1) := by decide +kernel
theorem dX13_dances_187 : decode cX13_dances 187 = .ok (.iconst 1, 1) := by decide +kernel
theorem dX13_dances_188 : decode cX13_dances 188 = .ok (.isub, 1) := by decide +kernel
theorem dX13_dances_189 : decode cX13_dances 189 = .ok (.invokestatic 219, 3) := by decide +kernel
theorem dX13_dances_192 : decode cX13_dances 192 = .ok (.iastore, 1) := by decide +kernel
theorem dX13_dances_193 : decode cX13_dances 193 = .ok (.iload_n 3, 1) := by decide +kernel
theorem dX13_dances_194 : decode cX13_dances 194 = .ok (.iconst 0, 1) := by decide +kernel
theorem dX13_dances_195 : decode cX13_dances 195 = .ok (.iconst 2, 1) := by decide +kernel
theorem dX13_dances_196 : decode cX13_dances 196 = .ok (.invokestatic 50, 3) := by decide +kernel
theorem dX13_dances_199 : decode cX13_dances 199 = .ok (.ifCond .eq 26, 3) := by decide +kernel
theorem dX13_dances_202 : decode cX13_dances 202 = .ok (.iload_n 1, 1) := by decide +kernel
theorem dX13_dances_203 : decode cX13_dances 203 = .ok (.ifCond .ne 22, 3) := by decide +kernel
theorem dX13_dances_206 : decode cX13_dances 206 = .ok (.aload_n 0, 1) := by decide +kernel
theorem dX13_dances_207 : decode cX13_dances 207 = .ok (.getfield 23, 3) := by decide +kernel
theorem dX13_dances_210 : decode cX13_dances 210 = .ok (.iload_n 2, 1) := by decide +kernel
theorem dX13_dances_211 : decode cX13_dances 211 = .ok (.bipush 40, 2) := by decide +kernel
theorem dX13_dances_213 : decode cX13_dances 213 = .ok (.aload_n 0, 1) := by decide +kernel
theorem dX13_dances_214 : decode cX13_dances 214 = .ok (.getfield 23, 3) := by decide +kernel
theorem dX13_dances_217 : decode cX13_dances 217 = .ok (.iload_n 2, 1) := by decide +kernel
theorem dX13_dances_218 : decode cX13_dances 218 = .ok (.iaload, 1) := by decide +kernel
theorem dX13_dances_219 : decode cX13_dances 219 = .ok (.iconst 1, 1) := by decide +kernel
theorem dX13_dances_220 : decode cX13_dances 220 = .ok (.iadd, 1) := by decide +kernel
theorem dX13_dances_221 : decode cX13_dances 221 = .ok (.invokestatic 104, 3) := by decide +kernel
theorem dX13_dances_224 : decode cX13_dances 224 = .ok (.iastore, 1) := by decide +kernel
theorem dX13_dances_225 : decode cX13_dances 225 = .ok (.aload_n 0, 1) := by decide +kernel
theorem dX13_dances_226 : decode cX13_dances 226 = .ok (.getfield 27, 3) := by decide +kernel
theorem dX13_dances_229 : decode cX13_dances 229 = .ok (.iload_n 2, 1) := by decide +kernel
theorem dX13_dances_230 : decode cX13_dances 230 = .ok (.iload_n 3, 1) := by decide +kernel
theorem dX13_dances_231 : decode cX13_dances 231 = .ok (.iconst (-1), 1) := by decide +kernel
theorem dX13_dances_232 : decode cX13_dances 232 = .ok (.if_icmp .ne 12, 3) := by decide +kernel
theorem dX13_dances_235 : decode cX13_dances 235 = .ok (.aload_n 0, 1) := by decide +kernel
theorem dX13_dances_236 : decode cX13_dances 236 = .ok (.getfield 27, 3) := by decide +kernel
theorem dX13_dances_239 : decode cX13_dances 239 = .ok (.iload_n 2, 1) := by decide +kernel
theorem dX13_dances_240 : decode cX13_dances 240 = .ok (.iaload, 1) := by decide +kernel
theorem dX13_dances_241 : decode cX13_dances 241 = .ok (.goto 48, 3) := by decide +kernel
theorem dX13_dances_244 : decode cX13_dances 244 = .ok (.iload_n 3, 1) := by decide +kernel
theorem dX13_dances_245 : decode cX13_dances 245 = .ok (.iconst 2, 1) := by decide +kernel
theorem dX13_dances_246 : decode cX13_dances 246 = .ok (.if_icmp .gt 14, 3) := by decide +kernel
theorem dX13_dances_249 : decode cX13_dances 249 = .ok (.aload_n 0, 1) := by decide +kernel
theorem dX13_dances_250 : decode cX13_dances 250 = .ok (.getfield 27, 3) := by decide +kernel
theorem dX13_dances_253 : decode cX13_dances 253 = .ok (.iload_n 2, 1) := by decide +kernel
theorem dX13_dances_254 : decode cX13_dances 254 = .ok (.iaload, 1) := by decide +kernel
theorem dX13_dances_255 : decode cX13_dances 255 = .ok (.iconst 2, 1) := by decide +kernel
theorem dX13_dances_256 : decode cX13_dances 256 = .ok (.iadd, 1) := by decide +kernel
theorem dX13_dances_257 : decode cX13_dances 257 = .ok (.goto 32, 3) := by decide +kernel
theorem dX13_dances_260 : decode cX13_dances 260 = .ok (.iload_n 3, 1) := by decide +kernel
theorem dX13_dances_261 : decode cX13_dances 261 = .ok (.bipush 6, 2) := by decide +kernel
theorem dX13_dances_263 : decode cX13_dances 263 = .ok (.if_icmp .lt 18, 3) := by decide +kernel
theorem dX13_dances_266 : decode cX13_dances 266 = .ok (.iconst 0, 1) := by decide +kernel
theorem dX13_dances_267 : decode cX13_dances 267 = .ok (.aload_n 0, 1) := by decide +kernel
theorem dX13_dances_268 : decode cX13_dances 268 = .ok (.getfield 27, 3) := by decide +kernel
theorem dX13_dances_271 : decode cX13_dances 271 = .ok (.iload_n 2, 1) := by decide +kernel
theorem dX13_dances_272 : decode cX13_dances 272 = .ok (.iaload, 1) := by decide +kernel
theorem dX13_dances_273 : decode cX13_dances 273 = .ok (.iconst 3, 1) := by decide +kernel
theorem dX13_dances_274 : decode cX13_dances 274 = .ok (.isub, 1) := by decide +kernel
theorem dX13_dances_275 : decode cX13_dances 275 = .ok (.invokestatic 219, 3) := by decide +kernel
theorem dX13_dances_278 : decode cX13_dances 278 = .ok (.goto 11, 3) := by decide +kernel
theorem dX13_dances_281 : decode cX13_dances 281 = .ok (.aload_n 0, 1) := by decide +kernel
theorem dX13_dances_282 : decode cX13_dances 282 = .ok (.getfield 27, 3) := by decide +kernel
theorem dX13_dances_285 : decode cX13_dances 285 = .ok (.iload_n 2, 1) := by decide +kernel
theorem dX13_dances_286 : decode cX13_dances 286 = .ok (.iaload, 1) := by decide +kernel
theorem dX13_dances_287 : decode cX13_dances 287 = .ok (.iconst 1, 1) := by decide +kernel
theorem dX13_dances_288 : decode cX13_dances 288 = .ok (.iadd, 1) := by decide +kernel
theorem dX13_dances_289 : decode cX13_dances 289 = .ok (.iastore, 1) := by decide +kernel
theorem dX13_dances_290 : decode cX13_dances 290 = .ok (.aload_n 0, 1) := by decide +kernel
theorem dX13_dances_291 : decode cX13_dances 291 = .ok (.getfield 27, 3) := by decide +kernel
theorem dX13_dances_294 : decode cX13_dances 294 = .ok (.iload_n 2, 1) := by decide +kernel
theorem dX13_dances_295 : decode cX13_dances 295 = .ok (.iaload, 1) := by decide +kernel
theorem dX13_dances_296 : decode cX13_dances 296 = .ok (.bipush 100, 2) := by decide +kernel
theorem dX13_dances_298 : decode cX13_dances 298 = .ok (.if_icmp .ge 6, 3) := by decide +kernel
theorem dX13_dances_301 : decode cX13_dances 301 = .ok (.goto 32, 3) := by decide +kernel
theorem dX13_dances_304 : decode cX13_dances 304 = .ok (.aload_n 0, 1) := by decide +kernel
theorem dX13_dances_305 : decode cX13_dances 305 = .ok (.getfield 23, 3) := by decide +kernel
theorem dX13_dances_308 : decode cX13_dances 308 = .ok (.iload_n 2, 1) := by decide +kernel
theorem dX13_dances_309 : decode cX13_dances 309 = .ok (.iconst 0, 1) := by decide +kernel
theorem dX13_dances_310 : decode cX13_dances 310 = .ok (.aload_n 0, 1) := by decide +kernel
theorem dX13_dances_311 : decode cX13_dances 311 = .ok (.getfield 23, 3) := by decide +kernel
theorem dX13_dances_314 : decode cX13_dances 314 = .ok (.iload_n 2, 1) := by decide +kernel
theorem dX13_dances_315 : decode cX13_dances 315 = .ok (.iaload, 1) := by decide +kernel
theorem dX13_dances_316 : decode cX13_dances 316 = .ok (.iconst 2, 1) := by decide +kernel
theorem dX13_dances_317 : decode cX13_dances 317 = .ok (.isub, 1) := by decide +kernel
theorem dX13_dances_318 : decode cX13_dances 318 = .ok (.invokestatic 219, 3) := by decide +kernel
theorem dX13_dances_321 : decode cX13_dances 321 = .ok (.iastore, 1) := by decide +kernel
theorem dX13_dances_322 : decode cX13_dances 322 = .ok (.aload_n 0, 1) := by decide +kernel
theorem dX13_dances_323 : decode cX13_dances 323 = .ok (.getfield 27, 3) := by decide +kernel
theorem dX13_dances_326 : decode cX13_dances 326 = .ok (.iload_n 2, 1) := by decide +kernel
theorem dX13_dances_327 : decode cX13_dances 327 = .ok (.dup2, 1) := by decide +kernel
theorem dX13_dances_328 : decode cX13_dances 328 = .ok (.iaload, 1) := by decide +kernel
theorem dX13_dances_329 : decode cX13_dances 329 = .ok (.bipush 40, 2) := by decide +kernel
theorem dX13_dances_331 : decode cX13_dances 331 = .ok (.isub, 1) := by decide +kernel
theorem dX13_dances_332 : decode cX13_dances 332 = .ok (.iastore, 1) := by decide +kernel
theorem dX13_dances_333 : decode cX13_dances 333 = .ok (.iinc 2 1, 3) := by decide +kernel
theorem dX13_dances_336 : decode cX13_dances 336 = .ok (.goto (-275), 3) := by decide +kernel
theorem dX13_dances_339 : decode cX13_dances 339 = .ok (.return_, 1) := by decide +kernel
theorem dX13_tick_0 : decode cX13_tick 0 = .ok (.aload_n 0, 1) := by decide +kernel
theorem dX13_tick_1 : decode cX13_tick 1 = .ok (.getfield 19, 3) := by decide +kernel
theorem dX13_tick_4 : decode cX13_tick 4 = .ok (.astore_n 1, 1) := by decide +kernel
theorem dX13_tick_5 : decode cX13_tick 5 = .ok (.aload_n 1, 1) := by decide +kernel
theorem dX13_tick_6 : decode cX13_tick 6 = .ok (.arraylength, 1) := by decide +kernel
theorem dX13_tick_7 : decode cX13_tick 7 = .ok (.istore_n 2, 1) := by decide +kernel
theorem dX13_tick_8 : decode cX13_tick 8 = .ok (.iconst 0, 1) := by decide +kernel
theorem dX13_tick_9 : decode cX13_tick 9 = .ok (.istore_n 3, 1) := by decide +kernel
theorem dX13_tick_10 : decode cX13_tick 10 = .ok (.iload_n 3, 1) := by decide +kernel
theorem dX13_tick_11 : decode cX13_tick 11 = .ok (.iload_n 2, 1) := by decide +kernel
theorem dX13_tick_12 : decode cX13_tick 12 = .ok (.if_icmp .ge 19, 3) := by decide +kernel
theorem dX13_tick_15 : decode cX13_tick 15 = .ok (.aload_n 1, 1) := by decide +kernel
theorem dX13_tick_16 : decode cX13_tick 16 = .ok (.iload_n 3, 1) := by decide +kernel
theorem dX13_tick_17 : decode cX13_tick 17 = .ok (.aaload, 1) := by decide +kernel
theorem dX13_tick_18 : decode cX13_tick 18 = .ok (.astore 4, 2) := by decide +kernel
theorem dX13_tick_20 : decode cX13_tick 20 = .ok (.aload 4, 2) := by decide +kernel
theorem dX13_tick_22 : decode cX13_tick 22 = .ok (.invokevirtual 260, 3) := by decide +kernel
theorem dX13_tick_25 : decode cX13_tick 25 = .ok (.iinc 3 1, 3) := by decide +kernel
theorem dX13_tick_28 : decode cX13_tick 28 = .ok (.goto (-18), 3) := by decide +kernel
theorem dX13_tick_31 : decode cX13_tick 31 = .ok (.iconst 0, 1) := by decide +kernel
theorem dX13_tick_32 : decode cX13_tick 32 = .ok (.istore_n 1, 1) := by decide +kernel
theorem dX13_tick_33 : decode cX13_tick 33 = .ok (.iconst 0, 1) := by decide +kernel
theorem dX13_tick_34 : decode cX13_tick 34 = .ok (.istore_n 2, 1) := by decide +kernel
theorem dX13_tick_35 : decode cX13_tick 35 = .ok (.iconst 0, 1) := by decide +kernel
theorem dX13_tick_36 : decode cX13_tick 36 = .ok (.istore_n 3, 1) := by decide +kernel
theorem dX13_tick_37 : decode cX13_tick 37 = .ok (.aload_n 0, 1) := by decide +kernel
theorem dX13_tick_38 : decode cX13_tick 38 = .ok (.getfield 19, 3) := by decide +kernel
theorem dX13_tick_41 : decode cX13_tick 41 = .ok (.astore 4, 2) := by decide +kernel
theorem dX13_tick_43 : decode cX13_tick 43 = .ok (.aload 4, 2) := by decide +kernel
theorem dX13_tick_45 : decode cX13_tick 45 = .ok (.arraylength, 1) := by decide +kernel
theorem dX13_tick_46 : decode cX13_tick 46 = .ok (.istore 5, 2) := by decide +kernel
theorem dX13_tick_48 : decode cX13_tick 48 = .ok (.iconst 0, 1) := by decide +kernel
theorem dX13_tick_49 : decode cX13_tick 49 = .ok (.istore 6, 2) := by decide +kernel
theorem dX13_tick_51 : decode cX13_tick 51 = .ok (.iload 6, 2) := by decide +kernel
theorem dX13_tick_53 : decode cX13_tick 53 = .ok (.iload 5, 2) := by decide +kernel
theorem dX13_tick_55 : decode cX13_tick 55 = .ok (.if_icmp .ge 111, 3) := by decide +kernel
theorem dX13_tick_58 : decode cX13_tick 58 = .ok (.aload 4, 2) := by decide +kernel
theorem dX13_tick_60 : decode cX13_tick 60 = .ok (.iload 6, 2) := by decide +kernel
theorem dX13_tick_62 : decode cX13_tick 62 = .ok (.aaload, 1) := by decide +kernel
theorem dX13_tick_63 : decode cX13_tick 63 = .ok (.astore 7, 2) := by decide +kernel
theorem dX13_tick_65 : decode cX13_tick 65 = .ok (.iload_n 1, 1) := by decide +kernel
theorem dX13_tick_66 : decode cX13_tick 66 = .ok (.aload_n 0, 1) := by decide +kernel
theorem dX13_tick_67 : decode cX13_tick 67 = .ok (.aload 7, 2) := by decide +kernel
theorem dX13_tick_69 : decode cX13_tick 69 = .ok (.invokevirtual 263, 3) := by decide +kernel
theorem dX13_tick_72 : decode cX13_tick 72 = .ok (.iadd, 1) := by decide +kernel
theorem dX13_tick_73 : decode cX13_tick 73 = .ok (.istore_n 1, 1) := by decide +kernel
theorem dX13_tick_74 : decode cX13_tick 74 = .ok (.aload_n 0, 1) := by decide +kernel
theorem dX13_tick_75 : decode cX13_tick 75 = .ok (.aload 7, 2) := by decide +kernel
theorem dX13_tick_77 : decode cX13_tick 77 = .ok (.invokevirtual 256, 3) := by decide +kernel
theorem dX13_tick_80 : decode cX13_tick 80 = .ok (.ifCond .ne 6, 3) := by decide +kernel
theorem dX13_tick_83 : decode cX13_tick 83 = .ok (.goto 77, 3) := by decide +kernel
theorem dX13_tick_86 : decode cX13_tick 86 = .ok (.iload_n 2, 1) := by decide +kernel
theorem dX13_tick_87 : decode cX13_tick 87 = .ok (.aload 7, 2) := by decide +kernel
theorem dX13_tick_89 : decode cX13_tick 89 = .ok (.aload 7, 2) := by decide +kernel
theorem dX13_tick_91 : decode cX13_tick 91 = .ok (.getfield 60, 3) := by decide +kernel
theorem dX13_tick_94 : decode cX13_tick 94 = .ok (.getfield 266, 3) := by decide +kernel
theorem dX13_tick_97 : decode cX13_tick 97 = .ok (.invokevirtual 269, 3) := by decide +kernel
theorem dX13_tick_100 : decode cX13_tick 100 = .ok (.ifCond .eq 7, 3) := by decide +kernel
theorem dX13_tick_103 : decode cX13_tick 103 = .ok (.iconst 1, 1) := by decide +kernel
theorem dX13_tick_104 : decode cX13_tick 104 = .ok (.goto 4, 3) := by decide +kernel
theorem dX13_tick_107 : decode cX13_tick 107 = .ok (.iconst 0, 1) := by decide +kernel
theorem dX13_tick_108 : decode cX13_tick 108 = .ok (.iadd, 1) := by decide +kernel
theorem dX13_tick_109 : decode cX13_tick 109 = .ok (.istore_n 2, 1) := by decide +kernel
theorem dX13_tick_110 : decode cX13_tick 110 = .ok (.iload_n 3, 1) := by decide +kernel
theorem dX13_tick_111 : decode cX13_tick 111 = .ok (.aload 7, 2) := by decide +kernel
theorem dX13_tick_113 : decode cX13_tick 113 = .ok (.aload 7, 2) := by decide +kernel
theorem dX13_tick_115 : decode cX13_tick 115 = .ok (.getfield 60, 3) := by decide +kernel
theorem dX13_tick_118 : decode cX13_tick 118 = .ok (.getfield 272, 3) := by decide +kernel
theorem dX13_tick_121 : decode cX13_tick 121 = .ok (.invokevirtual 269, 3) := by decide +kernel
theorem dX13_tick_124 : decode cX13_tick 124 = .ok (.ifCond .ne 19, 3) := by decide +kernel
theorem dX13_tick_127 : decode cX13_tick 127 = .ok (.aload 7, 2) := by decide +kernel
theorem dX13_tick_129 : decode cX13_tick 129 = .ok (.getfield 202, 3) := by decide +kernel
theorem dX13_tick_132 : decode cX13_tick 132 = .ok (.iconst 0, 1) := by decide +kernel
theorem dX13_tick_133 : decode cX13_tick 133 = .ok (.iaload, 1) := by decide +kernel
theorem dX13_tick_134 : decode cX13_tick 134 = .ok (.bipush 50, 2) := by decide +kernel
theorem dX13_tick_136 : decode cX13_tick 136 = .ok (.if_icmp .lt 7, 3) := by decide +kernel
theorem dX13_tick_139 : decode cX13_tick 139 = .ok (.iconst 1, 1) := by decide +kernel
theorem dX13_tick_140 : decode cX13_tick 140 = .ok (.goto 4, 3) := by decide +kernel
theorem dX13_tick_143 : decode cX13_tick 143 = .ok (.iconst 0, 1) := by decide +kernel
theorem dX13_tick_144 : decode cX13_tick 144 = .ok (.iadd, 1) := by decide +kernel
theorem dX13_tick_145 : decode cX13_tick 145 = .ok (.istore_n 3, 1) := by decide +kernel
theorem dX13_tick_146 : decode cX13_tick 146 = .ok (.aload 7, 2) := by decide +kernel
theorem dX13_tick_148 : decode cX13_tick 148 = .ok (.getfield 60, 3) := by decide +kernel
theorem dX13_tick_151 : decode cX13_tick 151 = .ok (.dup, 1) := by decide +kernel
theorem dX13_tick_152 : decode cX13_tick 152 = .ok (.getfield 275, 3) := by decide +kernel
theorem dX13_tick_155 : decode cX13_tick 155 = .ok (.lconst 1, 1) := by decide +kernel
theorem dX13_tick_156 : decode cX13_tick 156 = .ok (.ladd, 1) := by decide +kernel
theorem dX13_tick_157 : decode cX13_tick 157 = .ok (.putfield 275, 3) := by decide +kernel
theorem dX13_tick_160 : decode cX13_tick 160 = .ok (.iinc 6 1, 3) := by decide +kernel
theorem dX13_tick_163 : decode cX13_tick 163 = .ok (.goto (-112), 3) := by decide +kernel
theorem dX13_tick_166 : decode cX13_tick 166 = .ok (.aload_n 0, 1) := by decide +kernel
theorem dX13_tick_167 : decode cX13_tick 167 = .ok (.sipush 2000, 3) := by decide +kernel
theorem dX13_tick_170 : decode cX13_tick 170 = .ok (.iload_n 1, 1) := by decide +kernel
theorem dX13_tick_171 : decode cX13_tick 171 = .ok (.invokestatic 104, 3) := by decide +kernel
theorem dX13_tick_174 : decode cX13_tick 174 = .ok (.putfield 278, 3) := by decide +kernel
theorem dX13_tick_177 : decode cX13_tick 177 = .ok (.aload_n 0, 1) := by decide +kernel
theorem dX13_tick_178 : decode cX13_tick 178 = .ok (.dup, 1) := by decide +kernel
theorem dX13_tick_179 : decode cX13_tick 179 = .ok (.getfield 280, 3) := by decide +kernel
theorem dX13_tick_182 : decode cX13_tick 182 = .ok (.aload_n 0, 1) := by decide +kernel
theorem dX13_tick_183 : decode cX13_tick 183 = .ok (.getfield 278, 3) := by decide +kernel
theorem dX13_tick_186 : decode cX13_tick 186 = .ok (.ifCond .ne 7, 3) := by decide +kernel
theorem dX13_tick_189 : decode cX13_tick 189 = .ok (.iconst 1, 1) := by decide +kernel
theorem dX13_tick_190 : decode cX13_tick 190 = .ok (.goto 4, 3) := by decide +kernel
theorem dX13_tick_193 : decode cX13_tick 193 = .ok (.iconst 0, 1) := by decide +kernel
theorem dX13_tick_194 : decode cX13_tick 194 = .ok (.iadd, 1) := by decide +kernel
theorem dX13_tick_195 : decode cX13_tick 195 = .ok (.putfield 280, 3) := by decide +kernel
theorem dX13_tick_198 : decode cX13_tick 198 = .ok (.aload_n 0, 1) := by decide +kernel
theorem dX13_tick_199 : decode cX13_tick 199 = .ok (.dup, 1) := by decide +kernel
theorem dX13_tick_200 : decode cX13_tick 200 = .ok (.getfield 283, 3) := by decide +kernel
theorem dX13_tick_203 : decode cX13_tick 203 = .ok (.iload_n 2, 1) := by decide +kernel
theorem dX13_tick_204 : decode cX13_tick 204 = .ok (.iconst 1, 1) := by decide +kernel
theorem dX13_tick_205 : decode cX13_tick 205 = .ok (.if_icmp .le 7, 3) := by decide +kernel
theorem dX13_tick_208 : decode cX13_tick 208 = .ok (.iconst 1, 1) := by decide +kernel
theorem dX13_tick_209 : decode cX13_tick 209 = .ok (.goto 4, 3) := by decide +kernel
theorem dX13_tick_212 : decode cX13_tick 212 = .ok (.iconst 0, 1) := by decide +kernel
theorem dX13_tick_213 : decode cX13_tick 213 = .ok (.iadd, 1) := by decide +kernel
theorem dX13_tick_214 : decode cX13_tick 214 = .ok (.putfield 283, 3) := by decide +kernel
theorem dX13_tick_217 : decode cX13_tick 217 = .ok (.aload_n 0, 1) := by decide +kernel
theorem dX13_tick_218 : decode cX13_tick 218 = .ok (.dup, 1) := by decide +kernel
theorem dX13_tick_219 : decode cX13_tick 219 = .ok (.getfield 286, 3) := by decide +kernel
theorem dX13_tick_222 : decode cX13_tick 222 = .ok (.iload_n 3, 1) := by decide +kernel
theorem dX13_tick_223 : decode cX13_tick 223 = .ok (.iconst 1, 1) := by decide +kernel
theorem dX13_tick_224 : decode cX13_tick 224 = .ok (.if_icmp .le 7, 3) := by decide +kernel
theorem dX13_tick_227 : decode cX13_tick 227 = .ok (.iconst 1, 1) := by decide +kernel
theorem dX13_tick_228 : decode cX13_tick 228 = .ok (.goto 4, 3) := by decide +kernel
theorem dX13_tick_231 : decode cX13_tick 231 = .ok (.iconst 0, 1) := by decide +kernel
theorem dX13_tick_232 : decode cX13_tick 232 = .ok (.iadd, 1) := by decide +kernel
theorem dX13_tick_233 : decode cX13_tick 233 = .ok (.putfield 286, 3) := by decide +kernel
theorem dX13_tick_236 : decode cX13_tick 236 = .ok (.aload_n 0, 1) := by decide +kernel
theorem dX13_tick_237 : decode cX13_tick 237 = .ok (.dup, 1) := by decide +kernel
theorem dX13_tick_238 : decode cX13_tick 238 = .ok (.getfield 289, 3) := by decide +kernel
theorem dX13_tick_241 : decode cX13_tick 241 = .ok (.aload_n 0, 1) := by decide +kernel
theorem dX13_tick_242 : decode cX13_tick 242 = .ok (.getfield 278, 3) := by decide +kernel
theorem dX13_tick_245 : decode cX13_tick 245 = .ok (.i2l, 1) := by decide +kernel
theorem dX13_tick_246 : decode cX13_tick 246 = .ok (.ladd, 1) := by decide +kernel
theorem dX13_tick_247 : decode cX13_tick 247 = .ok (.putfield 289, 3) := by decide +kernel
theorem dX13_tick_250 : decode cX13_tick 250 = .ok (.aload_n 0, 1) := by decide +kernel
theorem dX13_tick_251 : decode cX13_tick 251 = .ok (.dup, 1) := by decide +kernel
theorem dX13_tick_252 : decode cX13_tick 252 = .ok (.getfield 292, 3) := by decide +kernel
theorem dX13_tick_255 : decode cX13_tick 255 = .ok (.aload_n 0, 1) := by decide +kernel
theorem dX13_tick_256 : decode cX13_tick 256 = .ok (.getfield 278, 3) := by decide +kernel
theorem dX13_tick_259 : decode cX13_tick 259 = .ok (.i2l, 1) := by decide +kernel
theorem dX13_tick_260 : decode cX13_tick 260 = .ok (.ladd, 1) := by decide +kernel
theorem dX13_tick_261 : decode cX13_tick 261 = .ok (.putfield 292, 3) := by decide +kernel
theorem dX13_tick_264 : decode cX13_tick 264 = .ok (.aload_n 0, 1) := by decide +kernel
theorem dX13_tick_265 : decode cX13_tick 265 = .ok (.dup, 1) := by decide +kernel
theorem dX13_tick_266 : decode cX13_tick 266 = .ok (.getfield 295, 3) := by decide +kernel
theorem dX13_tick_269 : decode cX13_tick 269 = .ok (.iconst 1, 1) := by decide +kernel
theorem dX13_tick_270 : decode cX13_tick 270 = .ok (.iadd, 1) := by decide +kernel
theorem dX13_tick_271 : decode cX13_tick 271 = .ok (.putfield 295, 3) := by decide +kernel
theorem dX13_tick_274 : decode cX13_tick 274 = .ok (.aload_n 0, 1) := by decide +kernel
theorem dX13_tick_275 : decode cX13_tick 275 = .ok (.getfield 295, 3) := by decide +kernel
theorem dX13_tick_278 : decode cX13_tick 278 = .ok (.bipush 100, 2) := by decide +kernel
theorem dX13_tick_280 : decode cX13_tick 280 = .ok (.irem, 1) := by decide +kernel
theorem dX13_tick_281 : decode cX13_tick 281 = .ok (.ifCond .eq 4, 3) := by decide +kernel
theorem dX13_tick_284 : decode cX13_tick 284 = .ok (.return_, 1) := by decide +kernel
theorem dX13_tick_285 : decode cX13_tick 285 = .ok (.aload_n 0, 1) := by decide +kernel
theorem dX13_tick_286 : decode cX13_tick 286 = .ok (.invokevirtual 298, 3) := by decide +kernel
theorem dX13_tick_289 : decode cX13_tick 289 = .ok (.aload_n 0, 1) := by decide +kernel
theorem dX13_tick_290 : decode cX13_tick 290 = .ok (.dup, 1) := by decide +kernel
theorem dX13_tick_291 : decode cX13_tick 291 = .ok (.getfield 301, 3) := by decide +kernel
theorem dX13_tick_294 : decode cX13_tick 294 = .ok (.aload_n 0, 1) := by decide +kernel
theorem dX13_tick_295 : decode cX13_tick 295 = .ok (.getfield 292, 3) := by decide +kernel
theorem dX13_tick_298 : decode cX13_tick 298 = .ok (.ldc2_w 304, 3) := by decide +kernel
theorem dX13_tick_301 : decode cX13_tick 301 = .ok (.ldiv, 1) := by decide +kernel
theorem dX13_tick_302 : decode cX13_tick 302 = .ok (.aload_n 0, 1) := by decide +kernel
theorem dX13_tick_303 : decode cX13_tick 303 = .ok (.getfield 30, 3) := by decide +kernel
theorem dX13_tick_306 : decode cX13_tick 306 = .ok (.aload_n 0, 1) := by decide +kernel
theorem dX13_tick_307 : decode cX13_tick 307 = .ok (.getfield 295, 3) := by decide +kernel
theorem dX13_tick_310 : decode cX13_tick 310 = .ok (.iconst 1, 1) := by decide +kernel
theorem dX13_tick_311 : decode cX13_tick 311 = .ok (.isub, 1) := by decide +kernel
theorem dX13_tick_312 : decode cX13_tick 312 = .ok (.ldc_w 306, 3) := by decide +kernel
theorem dX13_tick_315 : decode cX13_tick 315 = .ok (.idiv, 1) := by decide +kernel
theorem dX13_tick_316 : decode cX13_tick 316 = .ok (.iconst 4, 1) := by decide +kernel
theorem dX13_tick_317 : decode cX13_tick 317 = .ok (.irem, 1) := by decide +kernel
theorem dX13_tick_318 : decode cX13_tick 318 = .ok (.iaload, 1) := by decide +kernel
theorem dX13_tick_319 : decode cX13_tick 319 = .ok (.i2l, 1) := by decide +kernel
theorem dX13_tick_320 : decode cX13_tick 320 = .ok (.lcmp, 1) := by decide +kernel
theorem dX13_tick_321 : decode cX13_tick 321 = .ok (.ifCond .le 7, 3) := by decide +kernel
theorem dX13_tick_324 : decode cX13_tick 324 = .ok (.iconst 1, 1) := by decide +kernel
theorem dX13_tick_325 : decode cX13_tick 325 = .ok (.goto 4, 3) := by decide +kernel
theorem dX13_tick_328 : decode cX13_tick 328 = .ok (.iconst 0, 1) := by decide +kernel
theorem dX13_tick_329 : decode cX13_tick 329 = .ok (.iadd, 1) := by decide +kernel
theorem dX13_tick_330 : decode cX13_tick 330 = .ok (.putfield 301, 3) := by decide +kernel
theorem dX13_tick_333 : decode cX13_tick 333 = .ok (.aload_n 0, 1) := by decide +kernel
theorem dX13_tick_334 : decode cX13_tick 334 = .ok (.lconst 0, 1) := by decide +kernel
theorem dX13_tick_335 : decode cX13_tick 335 = .ok (.putfield 292, 3) := by decide +kernel
theorem dX13_tick_338 : decode cX13_tick 338 = .ok (.return_, 1) := by decide +kernel
theorem dX13_go_0 : decode cX13_go 0 = .ok (.aload_n 0, 1) := by decide +kernel
theorem dX13_go_1 : decode cX13_go 1 = .ok (.iload_n 1, 1) := by decide +kernel
theorem dX13_go_2 : decode cX13_go 2 = .ok (.iconst 1, 1) := by decide +kernel
theorem dX13_go_3 : decode cX13_go 3 = .ok (.sipush 2000, 3) := by decide +kernel
theorem dX13_go_6 : decode cX13_go 6 = .ok (.invokestatic 50, 3) := by decide +kernel
theorem dX13_go_9 : decode cX13_go 9 = .ok (.ifCond .eq 7, 3) := by decide +kernel
theorem dX13_go_12 : decode cX13_go 12 = .ok (.iconst 0, 1) := by decide +kernel
theorem dX13_go_13 : decode cX13_go 13 = .ok (.goto 4, 3) := by decide +kernel
theorem dX13_go_16 : decode cX13_go 16 = .ok (.iconst 1, 1) := by decide +kernel
theorem dX13_go_17 : decode cX13_go 17 = .ok (.invokevirtual 68, 3) := by decide +kernel
theorem dX13_go_20 : decode cX13_go 20 = .ok (.ifCond .eq 5, 3) := by decide +kernel
theorem dX13_go_23 : decode cX13_go 23 = .ok (.iconst 0, 1) := by decide +kernel
theorem dX13_go_24 : decode cX13_go 24 = .ok (.ireturn, 1) := by decide +kernel
theorem dX13_go_25 : decode cX13_go 25 = .ok (.aload_n 0, 1) := by decide +kernel
theorem dX13_go_26 : decode cX13_go 26 = .ok (.getfield 280, 3) := by decide +kernel
theorem dX13_go_29 : decode cX13_go 29 = .ok (.istore_n 2, 1) := by decide +kernel
theorem dX13_go_30 : decode cX13_go 30 = .ok (.iconst 0, 1) := by decide +kernel
theorem dX13_go_31 : decode cX13_go 31 = .ok (.istore_n 3, 1) := by decide +kernel
theorem dX13_go_32 : decode cX13_go 32 = .ok (.iload_n 3, 1) := by decide +kernel
theorem dX13_go_33 : decode cX13_go 33 = .ok (.iload_n 1, 1) := by decide +kernel
theorem dX13_go_34 : decode cX13_go 34 = .ok (.if_icmp .ge 13, 3) := by decide +kernel
theorem dX13_go_37 : decode cX13_go 37 = .ok (.aload_n 0, 1) := by decide +kernel
theorem dX13_go_38 : decode cX13_go 38 = .ok (.invokevirtual 307, 3) := by decide +kernel
theorem dX13_go_41 : decode cX13_go 41 = .ok (.iinc 3 1, 3) := by decide +kernel
theorem dX13_go_44 : decode cX13_go 44 = .ok (.goto (-12), 3) := by decide +kernel
theorem dX13_go_47 : decode cX13_go 47 = .ok (.aload_n 0, 1) := by decide +kernel
theorem dX13_go_48 : decode cX13_go 48 = .ok (.invokevirtual 81, 3) := by decide +kernel
theorem dX13_go_51 : decode cX13_go 51 = .ok (.aload_n 0, 1) := by decide +kernel
theorem dX13_go_52 : decode cX13_go 52 = .ok (.getfield 280, 3) := by decide +kernel
theorem dX13_go_55 : decode cX13_go 55 = .ok (.iload_n 2, 1) := by decide +kernel
theorem dX13_go_56 : decode cX13_go 56 = .ok (.isub, 1) := by decide +kernel
theorem dX13_go_57 : decode cX13_go 57 = .ok (.ireturn, 1) := by decide +kernel
theorem dX13_plain_0 : decode cX13_plain 0 = .ok (.aload_n 0, 1) := by decide +kernel
theorem dX13_plain_1 : decode cX13_plain 1 = .ok (.iconst 0, 1) := by decide +kernel
theorem dX13_plain_2 : decode cX13_plain 2 = .ok (.putfield 46, 3) := by decide +kernel
theorem dX13_plain_5 : decode cX13_plain 5 = .ok (.iload_n 1, 1) := by decide +kernel
theorem dX13_plain_6 : decode cX13_plain 6 = .ok (.ireturn, 1) := by decide +kernel
theorem dX13_ticks_0 : decode cX13_ticks 0 = .ok (.aload_n 0, 1) := by decide +kernel
theorem dX13_ticks_1 : decode cX13_ticks 1 = .ok (.aload_n 0, 1) := by decide +kernel
theorem dX13_ticks_2 : decode cX13_ticks 2 = .ok (.getfield 295, 3) := by decide +kernel
theorem dX13_ticks_5 : decode cX13_ticks 5 = .ok (.invokevirtual 310, 3) := by decide +kernel
theorem dX13_ticks_8 : decode cX13_ticks 8 = .ok (.ireturn, 1) := by decide +kernel
theorem dX13_heard_0 : decode cX13_heard 0 = .ok (.aload_n 0, 1) := by decide +kernel
theorem dX13_heard_1 : decode cX13_heard 1 = .ok (.aload_n 0, 1) := by decide +kernel
theorem dX13_heard_2 : decode cX13_heard 2 = .ok (.getfield 278, 3) := by decide +kernel
theorem dX13_heard_5 : decode cX13_heard 5 = .ok (.invokevirtual 310, 3) := by decide +kernel
theorem dX13_heard_8 : decode cX13_heard 8 = .ok (.ireturn, 1) := by decide +kernel
theorem dX13_silence_0 : decode cX13_silence 0 = .ok (.aload_n 0, 1) := by decide +kernel
theorem dX13_silence_1 : decode cX13_silence 1 = .ok (.aload_n 0, 1) := by decide +kernel
theorem dX13_silence_2 : decode cX13_silence 2 = .ok (.getfield 280, 3) := by decide +kernel
theorem dX13_silence_5 : decode cX13_silence 5 = .ok (.invokevirtual 310, 3) := by decide +kernel
theorem dX13_silence_8 : decode cX13_silence 8 = .ok (.ireturn, 1) := by decide +kernel
theorem dX13_clashes_0 : decode cX13_clashes 0 = .ok (.aload_n 0, 1) := by decide +kernel
theorem dX13_clashes_1 : decode cX13_clashes 1 = .ok (.iload_n 1, 1) := by decide +kernel
theorem dX13_clashes_2 : decode cX13_clashes 2 = .ok (.bipush 118, 2) := by decide +kernel
theorem dX13_clashes_4 : decode cX13_clashes 4 = .ok (.if_icmp .eq 13, 3) := by decide +kernel
theorem dX13_clashes_7 : decode cX13_clashes 7 = .ok (.iload_n 1, 1) := by decide +kernel
theorem dX13_clashes_8 : decode cX13_clashes 8 = .ok (.bipush 98, 2) := by decide +kernel
theorem dX13_clashes_10 : decode cX13_clashes 10 = .ok (.if_icmp .eq 7, 3) := by decide +kernel
theorem dX13_clashes_13 : decode cX13_clashes 13 = .ok (.iconst 1, 1) := by decide +kernel
theorem dX13_clashes_14 : decode cX13_clashes 14 = .ok (.goto 4, 3) := by decide +kernel
theorem dX13_clashes_17 : decode cX13_clashes 17 = .ok (.iconst 0, 1) := by decide +kernel
theorem dX13_clashes_18 : decode cX13_clashes 18 = .ok (.invokevirtual 68, 3) := by decide +kernel
theorem dX13_clashes_21 : decode cX13_clashes 21 = .ok (.ifCond .eq 7, 3) := by decide +kernel
theorem dX13_clashes_24 : decode cX13_clashes 24 = .ok (.iconst 0, 1) := by decide +kernel
theorem dX13_clashes_25 : decode cX13_clashes 25 = .ok (.goto 20, 3) := by decide +kernel
theorem dX13_clashes_28 : decode cX13_clashes 28 = .ok (.iload_n 1, 1) := by decide +kernel
theorem dX13_clashes_29 : decode cX13_clashes 29 = .ok (.bipush 118, 2) := by decide +kernel
theorem dX13_clashes_31 : decode cX13_clashes 31 = .ok (.if_icmp .ne 10, 3) := by decide +kernel
theorem dX13_clashes_34 : decode cX13_clashes 34 = .ok (.aload_n 0, 1) := by decide +kernel
theorem dX13_clashes_35 : decode cX13_clashes 35 = .ok (.getfield 283, 3) := by decide +kernel
theorem dX13_clashes_38 : decode cX13_clashes 38 = .ok (.goto 7, 3) := by decide +kernel
theorem dX13_clashes_41 : decode cX13_clashes 41 = .ok (.aload_n 0, 1) := by decide +kernel
theorem dX13_clashes_42 : decode cX13_clashes 42 = .ok (.getfield 286, 3) := by decide +kernel
theorem dX13_clashes_45 : decode cX13_clashes 45 = .ok (.ireturn, 1) := by decide +kernel
theorem dX13_off_0 : decode cX13_off 0 = .ok (.aload_n 0, 1) := by decide +kernel
theorem dX13_off_1 : decode cX13_off 1 = .ok (.getfield 163, 3) := by decide +kernel
theorem dX13_off_4 : decode cX13_off 4 = .ok (.aload_n 1, 1) := by decide +kernel
theorem dX13_off_5 : decode cX13_off 5 = .ok (.getfield 163, 3) := by decide +kernel
theorem dX13_off_8 : decode cX13_off 8 = .ok (.lsub, 1) := by decide +kernel
theorem dX13_off_9 : decode cX13_off 9 = .ok (.ldc2_w 161, 3) := by decide +kernel
theorem dX13_off_12 : decode cX13_off 12 = .ok (.invokestatic 313, 3) := by decide +kernel
theorem dX13_off_15 : decode cX13_off 15 = .ok (.ldc2_w 316, 3) := by decide +kernel
theorem dX13_off_18 : decode cX13_off 18 = .ok (.lmul, 1) := by decide +kernel
theorem dX13_off_19 : decode cX13_off 19 = .ok (.ldc2_w 161, 3) := by decide +kernel
theorem dX13_off_22 : decode cX13_off 22 = .ok (.ldiv, 1) := by decide +kernel
theorem dX13_off_23 : decode cX13_off 23 = .ok (.l2i, 1) := by decide +kernel
theorem dX13_off_24 : decode cX13_off 24 = .ok (.istore_n 2, 1) := by decide +kernel
theorem dX13_off_25 : decode cX13_off 25 = .ok (.iload_n 2, 1) := by decide +kernel
theorem dX13_off_26 : decode cX13_off 26 = .ok (.sipush 500, 3) := by decide +kernel
theorem dX13_off_29 : decode cX13_off 29 = .ok (.if_icmp .lt 11, 3) := by decide +kernel
theorem dX13_off_32 : decode cX13_off 32 = .ok (.iload_n 2, 1) := by decide +kernel
theorem dX13_off_33 : decode cX13_off 33 = .ok (.sipush 1000, 3) := by decide +kernel
theorem dX13_off_36 : decode cX13_off 36 = .ok (.isub, 1) := by decide +kernel
theorem dX13_off_37 : decode cX13_off 37 = .ok (.goto 4, 3) := by decide +kernel
theorem dX13_off_40 : decode cX13_off 40 = .ok (.iload_n 2, 1) := by decide +kernel
theorem dX13_off_41 : decode cX13_off 41 = .ok (.ireturn, 1) := by decide +kernel
theorem dX13_between_0 : decode cX13_between 0 = .ok (.aload_n 0, 1) := by decide +kernel
theorem dX13_between_1 : decode cX13_between 1 = .ok (.iload_n 1, 1) := by decide +kernel
theorem dX13_between_2 : decode cX13_between 2 = .ok (.invokestatic 121, 3) := by decide +kernel
theorem dX13_between_5 : decode cX13_between 5 = .ok (.ifCond .eq 10, 3) := by decide +kernel
theorem dX13_between_8 : decode cX13_between 8 = .ok (.iload_n 2, 1) := by decide +kernel
theorem dX13_between_9 : decode cX13_between 9 = .ok (.invokestatic 121, 3) := by decide +kernel
theorem dX13_between_12 : decode cX13_between 12 = .ok (.ifCond .ne 7, 3) := by decide +kernel
theorem dX13_between_15 : decode cX13_between 15 = .ok (.iconst 1, 1) := by decide +kernel
theorem dX13_between_16 : decode cX13_between 16 = .ok (.goto 24, 3) := by decide +kernel
theorem dX13_between_19 : decode cX13_between 19 = .ok (.aload_n 0, 1) := by decide +kernel
theorem dX13_between_20 : decode cX13_between 20 = .ok (.iload_n 1, 1) := by decide +kernel
theorem dX13_between_21 : decode cX13_between 21 = .ok (.invokevirtual 133, 3) := by decide +kernel
theorem dX13_between_24 : decode cX13_between 24 = .ok (.ifCond .ne 11, 3) := by decide +kernel
theorem dX13_between_27 : decode cX13_between 27 = .ok (.aload_n 0, 1) := by decide +kernel
theorem dX13_between_28 : decode cX13_between 28 = .ok (.iload_n 2, 1) := by decide +kernel
theorem dX13_between_29 : decode cX13_between 29 = .ok (.invokevirtual 133, 3) := by decide +kernel
theorem dX13_between_32 : decode cX13_between 32 = .ok (.ifCond .eq 7, 3) := by decide +kernel
theorem dX13_between_35 : decode cX13_between 35 = .ok (.iconst 2, 1) := by decide +kernel
theorem dX13_between_36 : decode cX13_between 36 = .ok (.goto 4, 3) := by decide +kernel
theorem dX13_between_39 : decode cX13_between 39 = .ok (.iconst 0, 1) := by decide +kernel
theorem dX13_between_40 : decode cX13_between 40 = .ok (.invokevirtual 68, 3) := by decide +kernel
theorem dX13_between_43 : decode cX13_between 43 = .ok (.ifCond .eq 7, 3) := by decide +kernel
theorem dX13_between_46 : decode cX13_between 46 = .ok (.iconst 0, 1) := by decide +kernel
theorem dX13_between_47 : decode cX13_between 47 = .ok (.goto 18, 3) := by decide +kernel
theorem dX13_between_50 : decode cX13_between 50 = .ok (.aload_n 0, 1) := by decide +kernel
theorem dX13_between_51 : decode cX13_between 51 = .ok (.getfield 19, 3) := by decide +kernel
theorem dX13_between_54 : decode cX13_between 54 = .ok (.iload_n 1, 1) := by decide +kernel
theorem dX13_between_55 : decode cX13_between 55 = .ok (.aaload, 1) := by decide +kernel
theorem dX13_between_56 : decode cX13_between 56 = .ok (.aload_n 0, 1) := by decide +kernel
theorem dX13_between_57 : decode cX13_between 57 = .ok (.getfield 19, 3) := by decide +kernel
theorem dX13_between_60 : decode cX13_between 60 = .ok (.iload_n 2, 1) := by decide +kernel
theorem dX13_between_61 : decode cX13_between 61 = .ok (.aaload, 1) := by decide +kernel
theorem dX13_between_62 : decode cX13_between 62 = .ok (.invokestatic 318, 3) := by decide +kernel
theorem dX13_between_65 : decode cX13_between 65 = .ok (.ireturn, 1) := by decide +kernel
theorem dX13_sync_0 : decode cX13_sync 0 = .ok (.aload_n 0, 1) := by decide +kernel
theorem dX13_sync_1 : decode cX13_sync 1 = .ok (.iload_n 1, 1) := by decide +kernel
theorem dX13_sync_2 : decode cX13_sync 2 = .ok (.invokestatic 121, 3) := by decide +kernel
theorem dX13_sync_5 : decode cX13_sync 5 = .ok (.ifCond .eq 10, 3) := by decide +kernel
theorem dX13_sync_8 : decode cX13_sync 8 = .ok (.iload_n 2, 1) := by decide +kernel
theorem dX13_sync_9 : decode cX13_sync 9 = .ok (.invokestatic 121, 3) := by decide +kernel
theorem dX13_sync_12 : decode cX13_sync 12 = .ok (.ifCond .ne 7, 3) := by decide +kernel
theorem dX13_sync_15 : decode cX13_sync 15 = .ok (.iconst 1, 1) := by decide +kernel
theorem dX13_sync_16 : decode cX13_sync 16 = .ok (.goto 29, 3) := by decide +kernel
theorem dX13_sync_19 : decode cX13_sync 19 = .ok (.aload_n 0, 1) := by decide +kernel
theorem dX13_sync_20 : decode cX13_sync 20 = .ok (.iload_n 1, 1) := by decide +kernel
theorem dX13_sync_21 : decode cX13_sync 21 = .ok (.invokevirtual 133, 3) := by decide +kernel
theorem dX13_sync_24 : decode cX13_sync 24 = .ok (.ifCond .ne 16, 3) := by decide +kernel
theorem dX13_sync_27 : decode cX13_sync 27 = .ok (.aload_n 0, 1) := by decide +kernel
theorem dX13_sync_28 : decode cX13_sync 28 = .ok (.iload_n 2, 1) := by decide +kernel
theorem dX13_sync_29 : decode cX13_sync 29 = .ok (.invokevirtual 133, 3) := by decide +kernel
theorem dX13_sync_32 : decode cX13_sync 32 = .ok (.ifCond .ne 8, 3) := by decide +kernel
theorem dX13_sync_35 : decode cX13_sync 35 = .ok (.iload_n 1, 1) := by decide +kernel
theorem dX13_sync_36 : decode cX13_sync 36 = .ok (.iload_n 2, 1) := by decide +kernel
theorem dX13_sync_37 : decode cX13_sync 37 = .ok (.if_icmp .ne 7, 3) := by decide +kernel
theorem dX13_sync_40 : decode cX13_sync 40 = .ok (.iconst 2, 1) := by decide +kernel
theorem dX13_sync_41 : decode cX13_sync 41 = .ok (.goto 4, 3) := by decide +kernel
theorem dX13_sync_44 : decode cX13_sync 44 = .ok (.iconst 0, 1) := by decide +kernel
theorem dX13_sync_45 : decode cX13_sync 45 = .ok (.invokevirtual 68, 3) := by decide +kernel
theorem dX13_sync_48 : decode cX13_sync 48 = .ok (.ifCond .eq 5, 3) := by decide +kernel
theorem dX13_sync_51 : decode cX13_sync 51 = .ok (.iconst 0, 1) := by decide +kernel
theorem dX13_sync_52 : decode cX13_sync 52 = .ok (.ireturn, 1) := by decide +kernel
theorem dX13_sync_53 : decode cX13_sync 53 = .ok (.aload_n 0, 1) := by decide +kernel
theorem dX13_sync_54 : decode cX13_sync 54 = .ok (.getfield 19, 3) := by decide +kernel
theorem dX13_sync_57 : decode cX13_sync 57 = .ok (.iload_n 1, 1) := by decide +kernel
theorem dX13_sync_58 : decode cX13_sync 58 = .ok (.aaload, 1) := by decide +kernel
theorem dX13_sync_59 : decode cX13_sync 59 = .ok (.astore_n 3, 1) := by decide +kernel
theorem dX13_sync_60 : decode cX13_sync 60 = .ok (.aload_n 0, 1) := by decide +kernel
theorem dX13_sync_61 : decode cX13_sync 61 = .ok (.getfield 19, 3) := by decide +kernel
theorem dX13_sync_64 : decode cX13_sync 64 = .ok (.iload_n 2, 1) := by decide +kernel
theorem dX13_sync_65 : decode cX13_sync 65 = .ok (.aaload, 1) := by decide +kernel
theorem dX13_sync_66 : decode cX13_sync 66 = .ok (.astore 4, 2) := by decide +kernel
theorem dX13_sync_68 : decode cX13_sync 68 = .ok (.aload 4, 2) := by decide +kernel
theorem dX13_sync_70 : decode cX13_sync 70 = .ok (.getfield 60, 3) := by decide +kernel
theorem dX13_sync_73 : decode cX13_sync 73 = .ok (.getfield 95, 3) := by decide +kernel
theorem dX13_sync_76 : decode cX13_sync 76 = .ok (.sipush 1000, 3) := by decide +kernel
theorem dX13_sync_79 : decode cX13_sync 79 = .ok (.aload 4, 2) := by decide +kernel
theorem dX13_sync_81 : decode cX13_sync 81 = .ok (.getfield 146, 3) := by decide +kernel
theorem dX13_sync_84 : decode cX13_sync 84 = .ok (.iadd, 1) := by decide +kernel
theorem dX13_sync_85 : decode cX13_sync 85 = .ok (.imul, 1) := by decide +kernel
theorem dX13_sync_86 : decode cX13_sync 86 = .ok (.istore 5, 2) := by decide +kernel
theorem dX13_sync_88 : decode cX13_sync 88 = .ok (.sipush (-160), 3) := by decide +kernel
theorem dX13_sync_91 : decode cX13_sync 91 = .ok (.istore 6, 2) := by decide +kernel
theorem dX13_sync_93 : decode cX13_sync 93 = .ok (.sipush (-159), 3) := by decide +kernel
theorem dX13_sync_96 : decode cX13_sync 96 = .ok (.istore 7, 2) := by decide +kernel
theorem dX13_sync_98 : decode cX13_sync 98 = .ok (.iload 7, 2) := by decide +kernel
theorem dX13_sync_100 : decode cX13_sync 100 = .ok (.sipush 160, 3) := by decide +kernel
theorem dX13_sync_103 : decode cX13_sync 103 = .ok (.if_icmp .gt 56, 3) := by decide +kernel
theorem dX13_sync_106 : decode cX13_sync 106 = .ok (.aload_n 3, 1) := by decide +kernel
theorem dX13_sync_107 : decode cX13_sync 107 = .ok (.getfield 60, 3) := by decide +kernel
theorem dX13_sync_110 : decode cX13_sync 110 = .ok (.getfield 95, 3) := by decide +kernel
theorem dX13_sync_113 : decode cX13_sync 113 = .ok (.sipush 1000, 3) := by decide +kernel
theorem dX13_sync_116 : decode cX13_sync 116 = .ok (.iload 7, 2) := by decide +kernel
theorem dX13_sync_118 : decode cX13_sync 118 = .ok (.iadd, 1) := by decide +kernel
theorem dX13_sync_119 : decode cX13_sync 119 = .ok (.imul, 1) := by decide +kernel
theorem dX13_sync_120 : decode cX13_sync 120 = .ok (.iload 5, 2) := by decide +kernel
theorem dX13_sync_122 : decode cX13_sync 122 = .ok (.isub, 1) := by decide +kernel
theorem dX13_sync_123 : decode cX13_sync 123 = .ok (.invokestatic 98, 3) := by decide +kernel
theorem dX13_sync_126 : decode cX13_sync 126 = .ok (.aload_n 3, 1) := by decide +kernel
theorem dX13_sync_127 : decode cX13_sync 127 = .ok (.getfield 60, 3) := by decide +kernel
theorem dX13_sync_130 : decode cX13_sync 130 = .ok (.getfield 95, 3) := by decide +kernel
theorem dX13_sync_133 : decode cX13_sync 133 = .ok (.sipush 1000, 3) := by decide +kernel
theorem dX13_sync_136 : decode cX13_sync 136 = .ok (.iload 6, 2) := by decide +kernel
theorem dX13_sync_138 : decode cX13_sync 138 = .ok (.iadd, 1) := by decide +kernel
theorem dX13_sync_139 : decode cX13_sync 139 = .ok (.imul, 1) := by decide +kernel
theorem dX13_sync_140 : decode cX13_sync 140 = .ok (.iload 5, 2) := by decide +kernel
theorem dX13_sync_142 : decode cX13_sync 142 = .ok (.isub, 1) := by decide +kernel
theorem dX13_sync_143 : decode cX13_sync 143 = .ok (.invokestatic 98, 3) := by decide +kernel
theorem dX13_sync_146 : decode cX13_sync 146 = .ok (.if_icmp .ge 7, 3) := by decide +kernel
theorem dX13_sync_149 : decode cX13_sync 149 = .ok (.iload 7, 2) := by decide +kernel
theorem dX13_sync_151 : decode cX13_sync 151 = .ok (.istore 6, 2) := by decide +kernel
theorem dX13_sync_153 : decode cX13_sync 153 = .ok (.iinc 7 1, 3) := by decide +kernel
theorem dX13_sync_156 : decode cX13_sync 156 = .ok (.goto (-58), 3) := by decide +kernel
theorem dX13_sync_159 : decode cX13_sync 159 = .ok (.aload_n 3, 1) := by decide +kernel
theorem dX13_sync_160 : decode cX13_sync 160 = .ok (.iload 6, 2) := by decide +kernel
theorem dX13_sync_162 : decode cX13_sync 162 = .ok (.putfield 146, 3) := by decide +kernel
theorem dX13_sync_165 : decode cX13_sync 165 = .ok (.aload 4, 2) := by decide +kernel
theorem dX13_sync_167 : decode cX13_sync 167 = .ok (.getfield 163, 3) := by decide +kernel
theorem dX13_sync_170 : decode cX13_sync 170 = .ok (.aload_n 3, 1) := by decide +kernel
theorem dX13_sync_171 : decode cX13_sync 171 = .ok (.getfield 163, 3) := by decide +kernel
theorem dX13_sync_174 : decode cX13_sync 174 = .ok (.lsub, 1) := by decide +kernel
theorem dX13_sync_175 : decode cX13_sync 175 = .ok (.ldc2_w 161, 3) := by decide +kernel
theorem dX13_sync_178 : decode cX13_sync 178 = .ok (.invokestatic 313, 3) := by decide +kernel
theorem dX13_sync_181 : decode cX13_sync 181 = .ok (.lstore 7, 2) := by decide +kernel
theorem dX13_sync_183 : decode cX13_sync 183 = .ok (.aload_n 3, 1) := by decide +kernel
theorem dX13_sync_184 : decode cX13_sync 184 = .ok (.aload_n 3, 1) := by decide +kernel
theorem dX13_sync_185 : decode cX13_sync 185 = .ok (.getfield 163, 3) := by decide +kernel
theorem dX13_sync_188 : decode cX13_sync 188 = .ok (.lload 7, 2) := by decide +kernel
theorem dX13_sync_190 : decode cX13_sync 190 = .ok (.ldc2_w 167, 3) := by decide +kernel
theorem dX13_sync_193 : decode cX13_sync 193 = .ok (.lcmp, 1) := by decide +kernel
theorem dX13_sync_194 : decode cX13_sync 194 = .ok (.ifCond .lt 12, 3) := by decide +kernel
theorem dX13_sync_197 : decode cX13_sync 197 = .ok (.lload 7, 2) := by decide +kernel
theorem dX13_sync_199 : decode cX13_sync 199 = .ok (.ldc2_w 161, 3) := by decide +kernel
theorem dX13_sync_202 : decode cX13_sync 202 = .ok (.lsub, 1) := by decide +kernel
theorem dX13_sync_203 : decode cX13_sync 203 = .ok (.goto 5, 3) := by decide +kernel
theorem dX13_sync_206 : decode cX13_sync 206 = .ok (.lload 7, 2) := by decide +kernel
theorem dX13_sync_208 : decode cX13_sync 208 = .ok (.ladd, 1) := by decide +kernel
theorem dX13_sync_209 : decode cX13_sync 209 = .ok (.invokevirtual 322, 3) := by decide +kernel
theorem dX13_sync_212 : decode cX13_sync 212 = .ok (.aload_n 0, 1) := by decide +kernel
theorem dX13_sync_213 : decode cX13_sync 213 = .ok (.invokevirtual 81, 3) := by decide +kernel
theorem dX13_sync_216 : decode cX13_sync 216 = .ok (.iload 6, 2) := by decide +kernel
theorem dX13_sync_218 : decode cX13_sync 218 = .ok (.ireturn, 1) := by decide +kernel
theorem dX13_ear_0 : decode cX13_ear 0 = .ok (.aload_n 0, 1) := by decide +kernel
theorem dX13_ear_1 : decode cX13_ear 1 = .ok (.iload_n 1, 1) := by decide +kernel
theorem dX13_ear_2 : decode cX13_ear 2 = .ok (.invokestatic 121, 3) := by decide +kernel
theorem dX13_ear_5 : decode cX13_ear 5 = .ok (.ifCond .eq 10, 3) := by decide +kernel
theorem dX13_ear_8 : decode cX13_ear 8 = .ok (.iload_n 2, 1) := by decide +kernel
theorem dX13_ear_9 : decode cX13_ear 9 = .ok (.invokestatic 121, 3) := by decide +kernel
theorem dX13_ear_12 : decode cX13_ear 12 = .ok (.ifCond .ne 7, 3) := by decide +kernel
theorem dX13_ear_15 : decode cX13_ear 15 = .ok (.iconst 1, 1) := by decide +kernel
theorem dX13_ear_16 : decode cX13_ear 16 = .ok (.goto 43, 3) := by decide +kernel
theorem dX13_ear_19 : decode cX13_ear 19 = .ok (.iload_n 3, 1) := by decide +kernel
theorem dX13_ear_20 : decode cX13_ear 20 = .ok (.iconst 1, 1) := by decide +kernel
theorem dX13_ear_21 : decode cX13_ear 21 = .ok (.bipush 10, 2) := by decide +kernel
theorem dX13_ear_23 : decode cX13_ear 23 = .ok (.invokestatic 50, 3) := by decide +kernel
theorem dX13_ear_26 : decode cX13_ear 26 = .ok (.ifCond .ne 7, 3) := by decide +kernel
theorem dX13_ear_29 : decode cX13_ear 29 = .ok (.iconst 2, 1) := by decide +kernel
theorem dX13_ear_30 : decode cX13_ear 30 = .ok (.goto 29, 3) := by decide +kernel
theorem dX13_ear_33 : decode cX13_ear 33 = .ok (.aload_n 0, 1) := by decide +kernel
theorem dX13_ear_34 : decode cX13_ear 34 = .ok (.iload_n 1, 1) := by decide +kernel
theorem dX13_ear_35 : decode cX13_ear 35 = .ok (.invokevirtual 133, 3) := by decide +kernel
theorem dX13_ear_38 : decode cX13_ear 38 = .ok (.ifCond .ne 16, 3) := by decide +kernel
theorem dX13_ear_41 : decode cX13_ear 41 = .ok (.aload_n 0, 1) := by decide +kernel
theorem dX13_ear_42 : decode cX13_ear 42 = .ok (.iload_n 2, 1) := by decide +kernel
theorem dX13_ear_43 : decode cX13_ear 43 = .ok (.invokevirtual 133, 3) := by decide +kernel
theorem dX13_ear_46 : decode cX13_ear 46 = .ok (.ifCond .ne 8, 3) := by decide +kernel
theorem dX13_ear_49 : decode cX13_ear 49 = .ok (.iload_n 1, 1) := by decide +kernel
theorem dX13_ear_50 : decode cX13_ear 50 = .ok (.iload_n 2, 1) := by decide +kernel
theorem dX13_ear_51 : decode cX13_ear 51 = .ok (.if_icmp .ne 7, 3) := by decide +kernel
theorem dX13_ear_54 : decode cX13_ear 54 = .ok (.iconst 3, 1) := by decide +kernel
theorem dX13_ear_55 : decode cX13_ear 55 = .ok (.goto 4, 3) := by decide +kernel
theorem dX13_ear_58 : decode cX13_ear 58 = .ok (.iconst 0, 1) := by decide +kernel
theorem dX13_ear_59 : decode cX13_ear 59 = .ok (.invokevirtual 68, 3) := by decide +kernel
theorem dX13_ear_62 : decode cX13_ear 62 = .ok (.ifCond .eq 5, 3) := by decide +kernel
theorem dX13_ear_65 : decode cX13_ear 65 = .ok (.iconst 0, 1) := by decide +kernel
theorem dX13_ear_66 : decode cX13_ear 66 = .ok (.ireturn, 1) := by decide +kernel
theorem dX13_ear_67 : decode cX13_ear 67 = .ok (.aload_n 0, 1) := by decide +kernel
theorem dX13_ear_68 : decode cX13_ear 68 = .ok (.getfield 19, 3) := by decide +kernel
theorem dX13_ear_71 : decode cX13_ear 71 = .ok (.iload_n 1, 1) := by decide +kernel
theorem dX13_ear_72 : decode cX13_ear 72 = .ok (.aaload, 1) := by decide +kernel
theorem dX13_ear_73 : decode cX13_ear 73 = .ok (.astore 4, 2) := by decide +kernel
theorem dX13_ear_75 : decode cX13_ear 75 = .ok (.iconst 0, 1) := by decide +kernel
theorem dX13_ear_76 : decode cX13_ear 76 = .ok (.istore 5, 2) := by decide +kernel
theorem dX13_ear_78 : decode cX13_ear 78 = .ok (.iconst 0, 1) := by decide +kernel
theorem dX13_ear_79 : decode cX13_ear 79 = .ok (.istore 6, 2) := by decide +kernel
theorem dX13_ear_81 : decode cX13_ear 81 = .ok (.iload 6, 2) := by decide +kernel
theorem dX13_ear_83 : decode cX13_ear 83 = .ok (.iload_n 3, 1) := by decide +kernel
theorem dX13_ear_84 : decode cX13_ear 84 = .ok (.if_icmp .ge 61, 3) := by decide +kernel
theorem dX13_ear_87 : decode cX13_ear 87 = .ok (.aload 4, 2) := by decide +kernel
theorem dX13_ear_89 : decode cX13_ear 89 = .ok (.aload_n 0, 1) := by decide +kernel
theorem dX13_ear_90 : decode cX13_ear 90 = .ok (.getfield 19, 3) := by decide +kernel
theorem dX13_ear_93 : decode cX13_ear 93 = .ok (.iload_n 2, 1) := by decide +kernel
theorem dX13_ear_94 : decode cX13_ear 94 = .ok (.aaload, 1) := by decide +kernel
theorem dX13_ear_95 : decode cX13_ear 95 = .ok (.invokestatic 318, 3) := by decide +kernel
theorem dX13_ear_98 : decode cX13_ear 98 = .ok (.istore 7, 2) := by decide +kernel
theorem dX13_ear_100 : decode cX13_ear 100 = .ok (.aload 4, 2) := by decide +kernel
theorem dX13_ear_102 : decode cX13_ear 102 = .ok (.lconst 0, 1) := by decide +kernel
theorem dX13_ear_103 : decode cX13_ear 103 = .ok (.aload 4, 2) := by decide +kernel
theorem dX13_ear_105 : decode cX13_ear 105 = .ok (.getfield 60, 3) := by decide +kernel
theorem dX13_ear_108 : decode cX13_ear 108 = .ok (.invokevirtual 326, 3) := by decide +kernel
theorem dX13_ear_111 : decode cX13_ear 111 = .ok (.aload 4, 2) := by decide +kernel
theorem dX13_ear_113 : decode cX13_ear 113 = .ok (.getfield 163, 3) := by decide +kernel
theorem dX13_ear_116 : decode cX13_ear 116 = .ok (.iload 5, 2) := by decide +kernel
theorem dX13_ear_118 : decode cX13_ear 118 = .ok (.iconst 2, 1) := by decide +kernel
theorem dX13_ear_119 : decode cX13_ear 119 = .ok (.idiv, 1) := by decide +kernel
theorem dX13_ear_120 : decode cX13_ear 120 = .ok (.i2l, 1) := by decide +kernel
theorem dX13_ear_121 : decode cX13_ear 121 = .ok (.ldc2_w 330, 3) := by decide +kernel
theorem dX13_ear_124 : decode cX13_ear 124 = .ok (.lmul, 1) := by decide +kernel
theorem dX13_ear_125 : decode cX13_ear 125 = .ok (.lsub, 1) := by decide +kernel
theorem dX13_ear_126 : decode cX13_ear 126 = .ok (.invokestatic 169, 3) := by decide +kernel
theorem dX13_ear_129 : decode cX13_ear 129 = .ok (.invokestatic 332, 3) := by decide +kernel
theorem dX13_ear_132 : decode cX13_ear 132 = .ok (.putfield 163, 3) := by decide +kernel
theorem dX13_ear_135 : decode cX13_ear 135 = .ok (.iload 7, 2) := by decide +kernel
theorem dX13_ear_137 : decode cX13_ear 137 = .ok (.istore 5, 2) := by decide +kernel
theorem dX13_ear_139 : decode cX13_ear 139 = .ok (.iinc 6 1, 3) := by decide +kernel
theorem dX13_ear_142 : decode cX13_ear 142 = .ok (.goto (-61), 3) := by decide +kernel
theorem dX13_ear_145 : decode cX13_ear 145 = .ok (.aload_n 0, 1) := by decide +kernel
theorem dX13_ear_146 : decode cX13_ear 146 = .ok (.invokevirtual 81, 3) := by decide +kernel
theorem dX13_ear_149 : decode cX13_ear 149 = .ok (.aload 4, 2) := by decide +kernel
theorem dX13_ear_151 : decode cX13_ear 151 = .ok (.aload_n 0, 1) := by decide +kernel
theorem dX13_ear_152 : decode cX13_ear 152 = .ok (.getfield 19, 3) := by decide +kernel
theorem dX13_ear_155 : decode cX13_ear 155 = .ok (.iload_n 2, 1) := by decide +kernel
theorem dX13_ear_156 : decode cX13_ear 156 = .ok (.aaload, 1) := by decide +kernel
theorem dX13_ear_157 : decode cX13_ear 157 = .ok (.invokestatic 318, 3) := by decide +kernel
theorem dX13_ear_160 : decode cX13_ear 160 = .ok (.ireturn, 1) := by decide +kernel
theorem dX13_people_0 : decode cX13_people 0 = .ok (.aload_n 0, 1) := by decide +kernel
theorem dX13_people_1 : decode cX13_people 1 = .ok (.iload_n 1, 1) := by decide +kernel
theorem dX13_people_2 : decode cX13_people 2 = .ok (.iconst (-1), 1) := by decide +kernel
theorem dX13_people_3 : decode cX13_people 3 = .ok (.iconst 5, 1) := by decide +kernel
theorem dX13_people_4 : decode cX13_people 4 = .ok (.invokestatic 50, 3) := by decide +kernel
theorem dX13_people_7 : decode cX13_people 7 = .ok (.ifCond .eq 7, 3) := by decide +kernel
theorem dX13_people_10 : decode cX13_people 10 = .ok (.iconst 0, 1) := by decide +kernel
theorem dX13_people_11 : decode cX13_people 11 = .ok (.goto 4, 3) := by decide +kernel
theorem dX13_people_14 : decode cX13_people 14 = .ok (.iconst 1, 1) := by decide +kernel
theorem dX13_people_15 : decode cX13_people 15 = .ok (.invokevirtual 68, 3) := by decide +kernel
theorem dX13_people_18 : decode cX13_people 18 = .ok (.ifCond .eq 5, 3) := by decide +kernel
theorem dX13_people_21 : decode cX13_people 21 = .ok (.iconst 0, 1) := by decide +kernel
theorem dX13_people_22 : decode cX13_people 22 = .ok (.ireturn, 1) := by decide +kernel
theorem dX13_people_23 : decode cX13_people 23 = .ok (.iconst 0, 1) := by decide +kernel
theorem dX13_people_24 : decode cX13_people 24 = .ok (.istore_n 2, 1) := by decide +kernel
theorem dX13_people_25 : decode cX13_people 25 = .ok (.iconst 0, 1) := by decide +kernel
theorem dX13_people_26 : decode cX13_people 26 = .ok (.istore_n 3, 1) := by decide +kernel
theorem dX13_people_27 : decode cX13_people 27 = .ok (.iload_n 3, 1) := by decide +kernel
theorem dX13_people_28 : decode cX13_people 28 = .ok (.bipush 6, 2) := by decide +kernel
theorem dX13_people_30 : decode cX13_people 30 = .ok (.if_icmp .ge 32, 3) := by decide +kernel
theorem dX13_people_33 : decode cX13_people 33 = .ok (.iload_n 2, 1) := by decide +kernel
theorem dX13_people_34 : decode cX13_people 34 = .ok (.iload_n 1, 1) := by decide +kernel
theorem dX13_people_35 : decode cX13_people 35 = .ok (.iconst (-1), 1) := by decide +kernel
theorem dX13_people_36 : decode cX13_people 36 = .ok (.if_icmp .eq 8, 3) := by decide +kernel
theorem dX13_people_39 : decode cX13_people 39 = .ok (.iload_n 1, 1) := by decide +kernel
theorem dX13_people_40 : decode cX13_people 40 = .ok (.iload_n 3, 1) := by decide +kernel
theorem dX13_people_41 : decode cX13_people 41 = .ok (.if_icmp .ne 12, 3) := by decide +kernel
theorem dX13_people_44 : decode cX13_people 44 = .ok (.aload_n 0, 1) := by decide +kernel
theorem dX13_people_45 : decode cX13_people 45 = .ok (.getfield 23, 3) := by decide +kernel
theorem dX13_people_48 : decode cX13_people 48 = .ok (.iload_n 3, 1) := by decide +kernel
theorem dX13_people_49 : decode cX13_people 49 = .ok (.iaload, 1) := by decide +kernel
theorem dX13_people_50 : decode cX13_people 50 = .ok (.goto 4, 3) := by decide +kernel
theorem dX13_people_53 : decode cX13_people 53 = .ok (.iconst 0, 1) := by decide +kernel
theorem dX13_people_54 : decode cX13_people 54 = .ok (.iadd, 1) := by decide +kernel
theorem dX13_people_55 : decode cX13_people 55 = .ok (.istore_n 2, 1) := by decide +kernel
theorem dX13_people_56 : decode cX13_people 56 = .ok (.iinc 3 1, 3) := by decide +kernel
theorem dX13_people_59 : decode cX13_people 59 = .ok (.goto (-32), 3) := by decide +kernel
theorem dX13_people_62 : decode cX13_people 62 = .ok (.iload_n 2, 1) := by decide +kernel
theorem dX13_people_63 : decode cX13_people 63 = .ok (.ireturn, 1) := by decide +kernel
theorem dX13_tired_0 : decode cX13_tired 0 = .ok (.aload_n 0, 1) := by decide +kernel
theorem dX13_tired_1 : decode cX13_tired 1 = .ok (.iload_n 1, 1) := by decide +kernel
theorem dX13_tired_2 : decode cX13_tired 2 = .ok (.iconst 0, 1) := by decide +kernel
theorem dX13_tired_3 : decode cX13_tired 3 = .ok (.iconst 5, 1) := by decide +kernel
theorem dX13_tired_4 : decode cX13_tired 4 = .ok (.invokestatic 50, 3) := by decide +kernel
theorem dX13_tired_7 : decode cX13_tired 7 = .ok (.ifCond .eq 7, 3) := by decide +kernel
theorem dX13_tired_10 : decode cX13_tired 10 = .ok (.iconst 0, 1) := by decide +kernel
theorem dX13_tired_11 : decode cX13_tired 11 = .ok (.goto 4, 3) := by decide +kernel
theorem dX13_tired_14 : decode cX13_tired 14 = .ok (.iconst 1, 1) := by decide +kernel
theorem dX13_tired_15 : decode cX13_tired 15 = .ok (.invokevirtual 68, 3) := by decide +kernel
theorem dX13_tired_18 : decode cX13_tired 18 = .ok (.ifCond .eq 7, 3) := by decide +kernel
theorem dX13_tired_21 : decode cX13_tired 21 = .ok (.iconst 0, 1) := by decide +kernel
theorem dX13_tired_22 : decode cX13_tired 22 = .ok (.goto 9, 3) := by decide +kernel
theorem dX13_tired_25 : decode cX13_tired 25 = .ok (.aload_n 0, 1) := by decide +kernel
theorem dX13_tired_26 : decode cX13_tired 26 = .ok (.getfield 27, 3) := by decide +kernel
theorem dX13_tired_29 : decode cX13_tired 29 = .ok (.iload_n 1, 1) := by decide +kernel
theorem dX13_tired_30 : decode cX13_tired 30 = .ok (.iaload, 1) := by decide +kernel
theorem dX13_tired_31 : decode cX13_tired 31 = .ok (.ireturn, 1) := by decide +kernel
theorem dX13_seconds_0 : decode cX13_seconds 0 = .ok (.aload_n 0, 1) := by decide +kernel
theorem dX13_seconds_1 : decode cX13_seconds 1 = .ok (.aload_n 0, 1) := by decide +kernel
theorem dX13_seconds_2 : decode cX13_seconds 2 = .ok (.iload_n 1, 1) := by decide +kernel
theorem dX13_seconds_3 : decode cX13_seconds 3 = .ok (.invokevirtual 84, 3) := by decide +kernel
theorem dX13_seconds_6 : decode cX13_seconds 6 = .ok (.ifCond .eq 7, 3) := by decide +kernel
theorem dX13_seconds_9 : decode cX13_seconds 9 = .ok (.iconst 0, 1) := by decide +kernel
theorem dX13_seconds_10 : decode cX13_seconds 10 = .ok (.goto 4, 3) := by decide +kernel
theorem dX13_seconds_13 : decode cX13_seconds 13 = .ok (.iconst 1, 1) := by decide +kernel
theorem dX13_seconds_14 : decode cX13_seconds 14 = .ok (.invokevirtual 68, 3) := by decide +kernel
theorem dX13_seconds_17 : decode cX13_seconds 17 = .ok (.ifCond .eq 7, 3) := by decide +kernel
theorem dX13_seconds_20 : decode cX13_seconds 20 = .ok (.iconst 0, 1) := by decide +kernel
theorem dX13_seconds_21 : decode cX13_seconds 21 = .ok (.goto 24, 3) := by decide +kernel
theorem dX13_seconds_24 : decode cX13_seconds 24 = .ok (.aload_n 0, 1) := by decide +kernel
theorem dX13_seconds_25 : decode cX13_seconds 25 = .ok (.getfield 10, 3) := by decide +kernel
theorem dX13_seconds_28 : decode cX13_seconds 28 = .ok (.iload_n 1, 1) := by decide +kernel
theorem dX13_seconds_29 : decode cX13_seconds 29 = .ok (.invokeinterface 87 2, 5) := by decide +kernel
theorem dX13_seconds_34 : decode cX13_seconds 34 = .ok (.checkcast 72, 3) := by decide +kernel
theorem dX13_seconds_37 : decode cX13_seconds 37 = .ok (.getfield 275, 3) := by decide +kernel
theorem dX13_seconds_40 : decode cX13_seconds 40 = .ok (.ldc2_w 304, 3) := by decide +kernel
theorem dX13_seconds_43 : decode cX13_seconds 43 = .ok (.ldiv, 1) := by decide +kernel
theorem dX13_seconds_44 : decode cX13_seconds 44 = .ok (.l2i, 1) := by decide +kernel
theorem dX13_seconds_45 : decode cX13_seconds 45 = .ok (.ireturn, 1) := by decide +kernel
theorem dX13_setLimit_0 : decode cX13_setLimit 0 = .ok (.aload_n 0, 1) := by decide +kernel
theorem dX13_setLimit_1 : decode cX13_setLimit 1 = .ok (.iload_n 1, 1) := by decide +kernel
theorem dX13_setLimit_2 : decode cX13_setLimit 2 = .ok (.iconst 0, 1) := by decide +kernel
theorem dX13_setLimit_3 : decode cX13_setLimit 3 = .ok (.iconst 3, 1) := by decide +kernel
theorem dX13_setLimit_4 : decode cX13_setLimit 4 = .ok (.invokestatic 50, 3) := by decide +kernel
theorem dX13_setLimit_7 : decode cX13_setLimit 7 = .ok (.ifCond .eq 18, 3) := by decide +kernel
theorem dX13_setLimit_10 : decode cX13_setLimit 10 = .ok (.iload_n 2, 1) := by decide +kernel
theorem dX13_setLimit_11 : decode cX13_setLimit 11 = .ok (.iconst 0, 1) := by decide +kernel
theorem dX13_setLimit_12 : decode cX13_setLimit 12 = .ok (.sipush 2000, 3) := by decide +kernel
theorem dX13_setLimit_15 : decode cX13_setLimit 15 = .ok (.invokestatic 50, 3) := by decide +kernel
theorem dX13_setLimit_18 : decode cX13_setLimit 18 = .ok (.ifCond .eq 7, 3) := by decide +kernel
theorem dX13_setLimit_21 : decode cX13_setLimit 21 = .ok (.iconst 0, 1) := by decide +kernel
theorem dX13_setLimit_22 : decode cX13_setLimit 22 = .ok (.goto 4, 3) := by decide +kernel
theorem dX13_setLimit_25 : decode cX13_setLimit 25 = .ok (.iconst 1, 1) := by decide +kernel
theorem dX13_setLimit_26 : decode cX13_setLimit 26 = .ok (.invokevirtual 68, 3) := by decide +kernel
theorem dX13_setLimit_29 : decode cX13_setLimit 29 = .ok (.ifCond .eq 5, 3) := by decide +kernel
theorem dX13_setLimit_32 : decode cX13_setLimit 32 = .ok (.iconst 0, 1) := by decide +kernel
theorem dX13_setLimit_33 : decode cX13_setLimit 33 = .ok (.ireturn, 1) := by decide +kernel
theorem dX13_setLimit_34 : decode cX13_setLimit 34 = .ok (.aload_n 0, 1) := by decide +kernel
theorem dX13_setLimit_35 : decode cX13_setLimit 35 = .ok (.getfield 30, 3) := by decide +kernel
theorem dX13_setLimit_38 : decode cX13_setLimit 38 = .ok (.iload_n 1, 1) := by decide +kernel
theorem dX13_setLimit_39 : decode cX13_setLimit 39 = .ok (.iaload, 1) := by decide +kernel
theorem dX13_setLimit_40 : decode cX13_setLimit 40 = .ok (.istore_n 3, 1) := by decide +kernel
theorem dX13_setLimit_41 : decode cX13_setLimit 41 = .ok (.aload_n 0, 1) := by decide +kernel
theorem dX13_setLimit_42 : decode cX13_setLimit 42 = .ok (.getfield 30, 3) := by decide +kernel
theorem dX13_setLimit_45 : decode cX13_setLimit 45 = .ok (.iload_n 1, 1) := by decide +kernel
theorem dX13_setLimit_46 : decode cX13_setLimit 46 = .ok (.iload_n 2, 1) := by decide +kernel
theorem dX13_setLimit_47 : decode cX13_setLimit 47 = .ok (.iastore, 1) := by decide +kernel
theorem dX13_setLimit_48 : decode cX13_setLimit 48 = .ok (.aload_n 0, 1) := by decide +kernel
theorem dX13_setLimit_49 : decode cX13_setLimit 49 = .ok (.invokevirtual 81, 3) := by decide +kernel
theorem dX13_setLimit_52 : decode cX13_setLimit 52 = .ok (.iload_n 3, 1) := by decide +kernel
theorem dX13_setLimit_53 : decode cX13_setLimit 53 = .ok (.ireturn, 1) := by decide +kernel
theorem dX13_breaches_0 : decode cX13_breaches 0 = .ok (.aload_n 0, 1) := by decide +kernel
theorem dX13_breaches_1 : decode cX13_breaches 1 = .ok (.aload_n 0, 1) := by decide +kernel
theorem dX13_breaches_2 : decode cX13_breaches 2 = .ok (.getfield 301, 3) := by decide +kernel
theorem dX13_breaches_5 : decode cX13_breaches 5 = .ok (.invokevirtual 310, 3) := by decide +kernel
theorem dX13_breaches_8 : decode cX13_breaches 8 = .ok (.ireturn, 1) := by decide +kernel
theorem dX13_strobe_0 : decode cX13_strobe 0 = .ok (.aload_n 0, 1) := by decide +kernel
theorem dX13_strobe_1 : decode cX13_strobe 1 = .ok (.iload_n 1, 1) := by decide +kernel
theorem dX13_strobe_2 : decode cX13_strobe 2 = .ok (.iconst 1, 1) := by decide +kernel
theorem dX13_strobe_3 : decode cX13_strobe 3 = .ok (.bipush 30, 2) := by decide +kernel
theorem dX13_strobe_5 : decode cX13_strobe 5 = .ok (.invokestatic 50, 3) := by decide +kernel
theorem dX13_strobe_8 : decode cX13_strobe 8 = .ok (.ifCond .eq 17, 3) := by decide +kernel
theorem dX13_strobe_11 : decode cX13_strobe 11 = .ok (.iload_n 2, 1) := by decide +kernel
theorem dX13_strobe_12 : decode cX13_strobe 12 = .ok (.iconst 0, 1) := by decide +kernel
theorem dX13_strobe_13 : decode cX13_strobe 13 = .ok (.bipush 7, 2) := by decide +kernel
theorem dX13_strobe_15 : decode cX13_strobe 15 = .ok (.invokestatic 50, 3) := by decide +kernel
theorem dX13_strobe_18 : decode cX13_strobe 18 = .ok (.ifCond .eq 7, 3) := by decide +kernel
theorem dX13_strobe_21 : decode cX13_strobe 21 = .ok (.iconst 0, 1) := by decide +kernel
theorem dX13_strobe_22 : decode cX13_strobe 22 = .ok (.goto 4, 3) := by decide +kernel
theorem dX13_strobe_25 : decode cX13_strobe 25 = .ok (.iconst 1, 1) := by decide +kernel
theorem dX13_strobe_26 : decode cX13_strobe 26 = .ok (.invokevirtual 68, 3) := by decide +kernel
theorem dX13_strobe_29 : decode cX13_strobe 29 = .ok (.ifCond .eq 5, 3) := by decide +kernel
theorem dX13_strobe_32 : decode cX13_strobe 32 = .ok (.iconst 0, 1) := by decide +kernel
theorem dX13_strobe_33 : decode cX13_strobe 33 = .ok (.ireturn, 1) := by decide +kernel
theorem dX13_strobe_34 : decode cX13_strobe 34 = .ok (.aload_n 0, 1) := by decide +kernel
theorem dX13_strobe_35 : decode cX13_strobe 35 = .ok (.iload_n 2, 1) := by decide +kernel
theorem dX13_strobe_36 : decode cX13_strobe 36 = .ok (.putfield 334, 3) := by decide +kernel
theorem dX13_strobe_39 : decode cX13_strobe 39 = .ok (.aload_n 0, 1) := by decide +kernel
theorem dX13_strobe_40 : decode cX13_strobe 40 = .ok (.invokevirtual 81, 3) := by decide +kernel
theorem dX13_strobe_43 : decode cX13_strobe 43 = .ok (.bipush 10, 2) := by decide +kernel
theorem dX13_strobe_45 : decode cX13_strobe 45 = .ok (.iload_n 1, 1) := by decide +kernel
theorem dX13_strobe_46 : decode cX13_strobe 46 = .ok (.invokestatic 104, 3) := by decide +kernel
theorem dX13_strobe_49 : decode cX13_strobe 49 = .ok (.ireturn, 1) := by decide +kernel
theorem dX13_light_0 : decode cX13_light 0 = .ok (.aconst_null, 1) := by decide +kernel
theorem dX13_light_1 : decode cX13_light 1 = .ok (.astore_n 1, 1) := by decide +kernel
theorem dX13_light_2 : decode cX13_light 2 = .ok (.aload_n 0, 1) := by decide +kernel
theorem dX13_light_3 : decode cX13_light 3 = .ok (.getfield 19, 3) := by decide +kernel
theorem dX13_light_6 : decode cX13_light 6 = .ok (.astore_n 2, 1) := by decide +kernel
theorem dX13_light_7 : decode cX13_light 7 = .ok (.aload_n 2, 1) := by decide +kernel
theorem dX13_light_8 : decode cX13_light 8 = .ok (.arraylength, 1) := by decide +kernel
theorem dX13_light_9 : decode cX13_light 9 = .ok (.istore_n 3, 1) := by decide +kernel
theorem dX13_light_10 : decode cX13_light 10 = .ok (.iconst 0, 1) := by decide +kernel
theorem dX13_light_11 : decode cX13_light 11 = .ok (.istore 4, 2) := by decide +kernel
theorem dX13_light_13 : decode cX13_light 13 = .ok (.iload 4, 2) := by decide +kernel
theorem dX13_light_15 : decode cX13_light 15 = .ok (.iload_n 3, 1) := by decide +kernel
theorem dX13_light_16 : decode cX13_light 16 = .ok (.if_icmp .ge 49, 3) := by decide +kernel
theorem dX13_light_19 : decode cX13_light 19 = .ok (.aload_n 2, 1) := by decide +kernel
theorem dX13_light_20 : decode cX13_light 20 = .ok (.iload 4, 2) := by decide +kernel
theorem dX13_light_22 : decode cX13_light 22 = .ok (.aaload, 1) := by decide +kernel
theorem dX13_light_23 : decode cX13_light 23 = .ok (.astore 5, 2) := by decide +kernel
theorem dX13_light_25 : decode cX13_light 25 = .ok (.aload_n 0, 1) := by decide +kernel
theorem dX13_light_26 : decode cX13_light 26 = .ok (.aload 5, 2) := by decide +kernel
theorem dX13_light_28 : decode cX13_light 28 = .ok (.invokevirtual 256, 3) := by decide +kernel
theorem dX13_light_31 : decode cX13_light 31 = .ok (.ifCond .eq 26, 3) := by decide +kernel
theorem dX13_light_34 : decode cX13_light 34 = .ok (.aload_n 1, 1) := by decide +kernel
theorem dX13_light_35 : decode cX13_light 35 = .ok (.ifnull 17, 3) := by decide +kernel
theorem dX13_light_38 : decode cX13_light 38 = .ok (.aload_n 0, 1) := by decide +kernel
theorem dX13_light_39 : decode cX13_light 39 = .ok (.aload 5, 2) := by decide +kernel
theorem dX13_light_41 : decode cX13_light 41 = .ok (.invokevirtual 237, 3) := by decide +kernel
theorem dX13_light_44 : decode cX13_light 44 = .ok (.aload_n 0, 1) := by decide +kernel
theorem dX13_light_45 : decode cX13_light 45 = .ok (.aload_n 1, 1) := by decide +kernel
theorem dX13_light_46 : decode cX13_light 46 = .ok (.invokevirtual 237, 3) := by decide +kernel
theorem dX13_light_49 : decode cX13_light 49 = .ok (.if_icmp .le 8, 3) := by decide +kernel
theorem dX13_light_52 : decode cX13_light 52 = .ok (.aload 5, 2) := by decide +kernel
theorem dX13_light_54 : decode cX13_light 54 = .ok (.goto 4, 3) := by decide +kernel
theorem dX13_light_57 : decode cX13_light 57 = .ok (.aload_n 1, 1) := by decide +kernel
theorem dX13_light_58 : decode cX13_light 58 = .ok (.astore_n 1, 1) := by decide +kernel
theorem dX13_light_59 : decode cX13_light 59 = .ok (.iinc 4 1, 3) := by decide +kernel
theorem dX13_light_62 : decode cX13_light 62 = .ok (.goto (-49), 3) := by decide +kernel
theorem dX13_light_65 : decode cX13_light 65 = .ok (.aload_n 0, 1) := by decide +kernel
theorem dX13_light_66 : decode cX13_light 66 = .ok (.aload_n 1, 1) := by decide +kernel
theorem dX13_light_67 : decode cX13_light 67 = .ok (.ifnonnull 7, 3) := by decide +kernel
theorem dX13_light_70 : decode cX13_light 70 = .ok (.iconst 1, 1) := by decide +kernel
theorem dX13_light_71 : decode cX13_light 71 = .ok (.goto 4, 3) := by decide +kernel
theorem dX13_light_74 : decode cX13_light 74 = .ok (.iconst 0, 1) := by decide +kernel
theorem dX13_light_75 : decode cX13_light 75 = .ok (.invokevirtual 68, 3) := by decide +kernel
theorem dX13_light_78 : decode cX13_light 78 = .ok (.ifCond .eq 7, 3) := by decide +kernel
theorem dX13_light_81 : decode cX13_light 81 = .ok (.iconst 0, 1) := by decide +kernel
theorem dX13_light_82 : decode cX13_light 82 = .ok (.goto 15, 3) := by decide +kernel
theorem dX13_light_85 : decode cX13_light 85 = .ok (.aload_n 0, 1) := by decide +kernel
theorem dX13_light_86 : decode cX13_light 86 = .ok (.getfield 334, 3) := by decide +kernel
theorem dX13_light_89 : decode cX13_light 89 = .ok (.aload_n 1, 1) := by decide +kernel
theorem dX13_light_90 : decode cX13_light 90 = .ok (.invokevirtual 158, 3) := by decide +kernel
theorem dX13_light_93 : decode cX13_light 93 = .ok (.iadd, 1) := by decide +kernel
theorem dX13_light_94 : decode cX13_light 94 = .ok (.bipush 8, 2) := by decide +kernel
theorem dX13_light_96 : decode cX13_light 96 = .ok (.irem, 1) := by decide +kernel
theorem dX13_light_97 : decode cX13_light 97 = .ok (.ireturn, 1) := by decide +kernel
theorem dX13_isFree_0 : decode cX13_isFree 0 = .ok (.aload_n 0, 1) := by decide +kernel
theorem dX13_isFree_1 : decode cX13_isFree 1 = .ok (.aload_n 1, 1) := by decide +kernel
theorem dX13_isFree_2 : decode cX13_isFree 2 = .ok (.invokevirtual 91, 3) := by decide +kernel
theorem dX13_isFree_5 : decode cX13_isFree 5 = .ok (.ifCond .ne 29, 3) := by decide +kernel
theorem dX13_isFree_8 : decode cX13_isFree 8 = .ok (.aload_n 1, 1) := by decide +kernel
theorem dX13_isFree_9 : decode cX13_isFree 9 = .ok (.getfield 114, 3) := by decide +kernel
theorem dX13_isFree_12 : decode cX13_isFree 12 = .ok (.ifCond .ne 22, 3) := by decide +kernel
theorem dX13_isFree_15 : decode cX13_isFree 15 = .ok (.aload_n 1, 1) := by decide +kernel
theorem dX13_isFree_16 : decode cX13_isFree 16 = .ok (.getfield 275, 3) := by decide +kernel
theorem dX13_isFree_19 : decode cX13_isFree 19 = .ok (.ldc2_w 304, 3) := by decide +kernel
theorem dX13_isFree_22 : decode cX13_isFree 22 = .ok (.ldiv, 1) := by decide +kernel
theorem dX13_isFree_23 : decode cX13_isFree 23 = .ok (.ldc2_w 337, 3) := by decide +kernel
theorem dX13_isFree_26 : decode cX13_isFree 26 = .ok (.lcmp, 1) := by decide +kernel
theorem dX13_isFree_27 : decode cX13_isFree 27 = .ok (.ifCond .ge 7, 3) := by decide +kernel
theorem dX13_isFree_30 : decode cX13_isFree 30 = .ok (.iconst 1, 1) := by decide +kernel
theorem dX13_isFree_31 : decode cX13_isFree 31 = .ok (.goto 4, 3) := by decide +kernel
theorem dX13_isFree_34 : decode cX13_isFree 34 = .ok (.iconst 0, 1) := by decide +kernel
theorem dX13_isFree_35 : decode cX13_isFree 35 = .ok (.ireturn, 1) := by decide +kernel
theorem dX13_rows_0 : decode cX13_rows 0 = .ok (.iload_n 2, 1) := by decide +kernel
theorem dX13_rows_1 : decode cX13_rows 1 = .ok (.ifCond .ne 33, 3) := by decide +kernel
theorem dX13_rows_4 : decode cX13_rows 4 = .ok (.aload_n 0, 1) := by decide +kernel
theorem dX13_rows_5 : decode cX13_rows 5 = .ok (.getfield 339, 3) := by decide +kernel
theorem dX13_rows_8 : decode cX13_rows 8 = .ok (.iconst (-1), 1) := by decide +kernel
theorem dX13_rows_9 : decode cX13_rows 9 = .ok (.if_icmp .eq 12, 3) := by decide +kernel
theorem dX13_rows_12 : decode cX13_rows 12 = .ok (.iload 5, 2) := by decide +kernel
theorem dX13_rows_14 : decode cX13_rows 14 = .ok (.aload_n 0, 1) := by decide +kernel
theorem dX13_rows_15 : decode cX13_rows 15 = .ok (.getfield 342, 3) := by decide +kernel
theorem dX13_rows_18 : decode cX13_rows 18 = .ok (.if_icmp .ge 15, 3) := by decide +kernel
theorem dX13_rows_21 : decode cX13_rows 21 = .ok (.aload_n 0, 1) := by decide +kernel
theorem dX13_rows_22 : decode cX13_rows 22 = .ok (.iload 4, 2) := by decide +kernel
theorem dX13_rows_24 : decode cX13_rows 24 = .ok (.putfield 339, 3) := by decide +kernel
theorem dX13_rows_27 : decode cX13_rows 27 = .ok (.aload_n 0, 1) := by decide +kernel
theorem dX13_rows_28 : decode cX13_rows 28 = .ok (.iload 5, 2) := by decide +kernel
theorem dX13_rows_30 : decode cX13_rows 30 = .ok (.putfield 342, 3) := by decide +kernel
theorem dX13_rows_33 : decode cX13_rows 33 = .ok (.return_, 1) := by decide +kernel
theorem dX13_rows_34 : decode cX13_rows 34 = .ok (.iconst 0, 1) := by decide +kernel
theorem dX13_rows_35 : decode cX13_rows 35 = .ok (.istore 6, 2) := by decide +kernel
theorem dX13_rows_37 : decode cX13_rows 37 = .ok (.iload 6, 2) := by decide +kernel
theorem dX13_rows_39 : decode cX13_rows 39 = .ok (.aload_n 0, 1) := by decide +kernel
theorem dX13_rows_40 : decode cX13_rows 40 = .ok (.getfield 10, 3) := by decide +kernel
theorem dX13_rows_43 : decode cX13_rows 43 = .ok (.invokeinterface 54 1, 5) := by decide +kernel
theorem dX13_rows_48 : decode cX13_rows 48 = .ok (.if_icmp .ge 147, 3) := by decide +kernel
theorem dX13_rows_51 : decode cX13_rows 51 = .ok (.aload_n 0, 1) := by decide +kernel
theorem dX13_rows_52 : decode cX13_rows 52 = .ok (.getfield 10, 3) := by decide +kernel
theorem dX13_rows_55 : decode cX13_rows 55 = .ok (.iload 6, 2) := by decide +kernel
theorem dX13_rows_57 : decode cX13_rows 57 = .ok (.invokeinterface 87 2, 5) := by decide +kernel
theorem dX13_rows_62 : decode cX13_rows 62 = .ok (.checkcast 72, 3) := by decide +kernel
theorem dX13_rows_65 : decode cX13_rows 65 = .ok (.astore 7, 2) := by decide +kernel
theorem dX13_rows_67 : decode cX13_rows 67 = .ok (.aload_n 3, 1) := by decide +kernel
theorem dX13_rows_68 : decode cX13_rows 68 = .ok (.iload 6, 2) := by decide +kernel
theorem dX13_rows_70 : decode cX13_rows 70 = .ok (.baload, 1) := by decide +kernel
theorem dX13_rows_71 : decode cX13_rows 71 = .ok (.ifCond .ne 118, 3) := by decide +kernel
theorem dX13_rows_74 : decode cX13_rows 74 = .ok (.aload_n 0, 1) := by decide +kernel
theorem dX13_rows_75 : decode cX13_rows 75 = .ok (.aload 7, 2) := by decide +kernel
theorem dX13_rows_77 : decode cX13_rows 77 = .ok (.invokevirtual 345, 3) := by decide +kernel
theorem dX13_rows_80 : decode cX13_rows 80 = .ok (.ifCond .ne 6, 3) := by decide +kernel
theorem dX13_rows_83 : decode cX13_rows 83 = .ok (.goto 106, 3) := by decide +kernel
theorem dX13_rows_86 : decode cX13_rows 86 = .ok (.bipush 10, 2) := by decide +kernel
theorem dX13_rows_88 : decode cX13_rows 88 = .ok (.aload_n 1, 1) := by decide +kernel
theorem dX13_rows_89 : decode cX13_rows 89 = .ok (.getfield 108, 3) := by decide +kernel
theorem dX13_rows_92 : decode cX13_rows 92 = .ok (.aload 7, 2) := by decide +kernel
theorem dX13_rows_94 : decode cX13_rows 94 = .ok (.getfield 108, 3) := by decide +kernel
theorem dX13_rows_97 : decode cX13_rows 97 = .ok (.invokestatic 111, 3) := by decide +kernel
theorem dX13_rows_100 : decode cX13_rows 100 = .ok (.imul, 1) := by decide +kernel
theorem dX13_rows_101 : decode cX13_rows 101 = .ok (.iconst 4, 1) := by decide +kernel
theorem dX13_rows_102 : decode cX13_rows 102 = .ok (.aload_n 1, 1) := by decide +kernel
theorem dX13_rows_103 : decode cX13_rows 103 = .ok (.getfield 225, 3) := by decide +kernel
theorem dX13_rows_106 : decode cX13_rows 106 = .ok (.aload 7, 2) := by decide +kernel
theorem dX13_rows_108 : decode cX13_rows 108 = .ok (.getfield 225, 3) := by decide +kernel
theorem dX13_rows_111 : decode cX13_rows 111 = .ok (.isub, 1) := by decide +kernel
theorem dX13_rows_112 : decode cX13_rows 112 = .ok (.invokestatic 98, 3) := by decide +kernel
theorem dX13_rows_115 : decode cX13_rows 115 = .ok (.imul, 1) := by decide +kernel
theorem dX13_rows_116 : decode cX13_rows 116 = .ok (.iadd, 1) := by decide +kernel
theorem dX13_rows_117 : decode cX13_rows 117 = .ok (.aload_n 1, 1) := by decide +kernel
theorem dX13_rows_118 : decode cX13_rows 118 = .ok (.getfield 95, 3) := by decide +kernel
theorem dX13_rows_121 : decode cX13_rows 121 = .ok (.aload 7, 2) := by decide +kernel
theorem dX13_rows_123 : decode cX13_rows 123 = .ok (.getfield 95, 3) := by decide +kernel
theorem dX13_rows_126 : decode cX13_rows 126 = .ok (.isub, 1) := by decide +kernel
theorem dX13_rows_127 : decode cX13_rows 127 = .ok (.invokestatic 98, 3) := by decide +kernel
theorem dX13_rows_130 : decode cX13_rows 130 = .ok (.bipush 10, 2) := by decide +kernel
theorem dX13_rows_132 : decode cX13_rows 132 = .ok (.idiv, 1) := by decide +kernel
theorem dX13_rows_133 : decode cX13_rows 133 = .ok (.iadd, 1) := by decide +kernel
theorem dX13_rows_134 : decode cX13_rows 134 = .ok (.aload 7, 2) := by decide +kernel
theorem dX13_rows_136 : decode cX13_rows 136 = .ok (.getfield 118, 3) := by decide +kernel
theorem dX13_rows_139 : decode cX13_rows 139 = .ok (.ifCond .eq 8, 3) := by decide +kernel
theorem dX13_rows_142 : decode cX13_rows 142 = .ok (.bipush 15, 2) := by decide +kernel
theorem dX13_rows_144 : decode cX13_rows 144 = .ok (.goto 4, 3) := by decide +kernel
theorem dX13_rows_147 : decode cX13_rows 147 = .ok (.iconst 0, 1) := by decide +kernel
theorem dX13_rows_148 : decode cX13_rows 148 = .ok (.isub, 1) := by decide +kernel
theorem dX13_rows_149 : decode cX13_rows 149 = .ok (.istore 8, 2) := by decide +kernel
theorem dX13_rows_151 : decode cX13_rows 151 = .ok (.aload_n 3, 1) := by decide +kernel
theorem dX13_rows_152 : decode cX13_rows 152 = .ok (.iload 6, 2) := by decide +kernel
theorem dX13_rows_154 : decode cX13_rows 154 = .ok (.iconst 1, 1) := by decide +kernel
theorem dX13_rows_155 : decode cX13_rows 155 = .ok (.bastore, 1) := by decide +kernel
theorem dX13_rows_156 : decode cX13_rows 156 = .ok (.aload_n 0, 1) := by decide +kernel
theorem dX13_rows_157 : decode cX13_rows 157 = .ok (.aload 7, 2) := by decide +kernel
theorem dX13_rows_159 : decode cX13_rows 159 = .ok (.iload_n 2, 1) := by decide +kernel
theorem dX13_rows_160 : decode cX13_rows 160 = .ok (.iconst 1, 1) := by decide +kernel
theorem dX13_rows_161 : decode cX13_rows 161 = .ok (.isub, 1) := by decide +kernel
theorem dX13_rows_162 : decode cX13_rows 162 = .ok (.aload_n 3, 1) := by decide +kernel
theorem dX13_rows_163 : decode cX13_rows 163 = .ok (.iload 4, 2) := by decide +kernel
theorem dX13_rows_165 : decode cX13_rows 165 = .ok (.iconst (-1), 1) := by decide +kernel
theorem dX13_rows_166 : decode cX13_rows 166 = .ok (.if_icmp .ne 8, 3) := by decide +kernel
theorem dX13_rows_169 : decode cX13_rows 169 = .ok (.iload 6, 2) := by decide +kernel
theorem dX13_rows_171 : decode cX13_rows 171 = .ok (.goto 5, 3) := by decide +kernel
theorem dX13_rows_174 : decode cX13_rows 174 = .ok (.iload 4, 2) := by decide +kernel
theorem dX13_rows_176 : decode cX13_rows 176 = .ok (.iload 5, 2) := by decide +kernel
theorem dX13_rows_178 : decode cX13_rows 178 = .ok (.iload 8, 2) := by decide +kernel
theorem dX13_rows_180 : decode cX13_rows 180 = .ok (.iadd, 1) := by decide +kernel
theorem dX13_rows_181 : decode cX13_rows 181 = .ok (.invokevirtual 348, 3) := by decide +kernel
theorem dX13_rows_184 : decode cX13_rows 184 = .ok (.aload_n 3, 1) := by decide +kernel
theorem dX13_rows_185 : decode cX13_rows 185 = .ok (.iload 6, 2) := by decide +kernel
theorem dX13_rows_187 : decode cX13_rows 187 = .ok (.iconst 0, 1) := by decide +kernel
theorem dX13_rows_188 : decode cX13_rows 188 = .ok (.bastore, 1) := by decide +kernel
theorem dX13_rows_189 : decode cX13_rows 189 = .ok (.iinc 6 1, 3) := by decide +kernel
theorem dX13_rows_192 : decode cX13_rows 192 = .ok (.goto (-155), 3) := by decide +kernel
theorem dX13_rows_195 : decode cX13_rows 195 = .ok (.return_, 1) := by decide +kernel
theorem dX13_finds_0 : decode cX13_finds 0 = .ok (.aload_n 0, 1) := by decide +kernel
theorem dX13_finds_1 : decode cX13_finds 1 = .ok (.iload_n 1, 1) := by decide +kernel
theorem dX13_finds_2 : decode cX13_finds 2 = .ok (.invokestatic 121, 3) := by decide +kernel
theorem dX13_finds_5 : decode cX13_finds 5 = .ok (.ifCond .ne 7, 3) := by decide +kernel
theorem dX13_finds_8 : decode cX13_finds 8 = .ok (.iconst 1, 1) := by decide +kernel
theorem dX13_finds_9 : decode cX13_finds 9 = .ok (.goto 29, 3) := by decide +kernel
theorem dX13_finds_12 : decode cX13_finds 12 = .ok (.iload_n 2, 1) := by decide +kernel
theorem dX13_finds_13 : decode cX13_finds 13 = .ok (.iconst 1, 1) := by decide +kernel
theorem dX13_finds_14 : decode cX13_finds 14 = .ok (.iconst 4, 1) := by decide +kernel
theorem dX13_finds_15 : decode cX13_finds 15 = .ok (.invokestatic 50, 3) := by decide +kernel
theorem dX13_finds_18 : decode cX13_finds 18 = .ok (.ifCond .ne 7, 3) := by decide +kernel
theorem dX13_finds_21 : decode cX13_finds 21 = .ok (.iconst 2, 1) := by decide +kernel
theorem dX13_finds_22 : decode cX13_finds 22 = .ok (.goto 16, 3) := by decide +kernel
theorem dX13_finds_25 : decode cX13_finds 25 = .ok (.aload_n 0, 1) := by decide +kernel
theorem dX13_finds_26 : decode cX13_finds 26 = .ok (.iload_n 1, 1) := by decide +kernel
theorem dX13_finds_27 : decode cX13_finds 27 = .ok (.invokevirtual 133, 3) := by decide +kernel
theorem dX13_finds_30 : decode cX13_finds 30 = .ok (.ifCond .eq 7, 3) := by decide +kernel
theorem dX13_finds_33 : decode cX13_finds 33 = .ok (.iconst 3, 1) := by decide +kernel
theorem dX13_finds_34 : decode cX13_finds 34 = .ok (.goto 4, 3) := by decide +kernel
theorem dX13_finds_37 : decode cX13_finds 37 = .ok (.iconst 0, 1) := by decide +kernel
theorem dX13_finds_38 : decode cX13_finds 38 = .ok (.invokevirtual 68, 3) := by decide +kernel
theorem dX13_finds_41 : decode cX13_finds 41 = .ok (.ifCond .eq 5, 3) := by decide +kernel
theorem dX13_finds_44 : decode cX13_finds 44 = .ok (.iconst 0, 1) := by decide +kernel
theorem dX13_finds_45 : decode cX13_finds 45 = .ok (.ireturn, 1) := by decide +kernel
theorem dX13_finds_46 : decode cX13_finds 46 = .ok (.aload_n 0, 1) := by decide +kernel
theorem dX13_finds_47 : decode cX13_finds 47 = .ok (.iconst (-1), 1) := by decide +kernel
theorem dX13_finds_48 : decode cX13_finds 48 = .ok (.putfield 339, 3) := by decide +kernel
theorem dX13_finds_51 : decode cX13_finds 51 = .ok (.aload_n 0, 1) := by decide +kernel
theorem dX13_finds_52 : decode cX13_finds 52 = .ok (.aload_n 0, 1) := by decide +kernel
theorem dX13_finds_53 : decode cX13_finds 53 = .ok (.getfield 19, 3) := by decide +kernel
theorem dX13_finds_56 : decode cX13_finds 56 = .ok (.iload_n 1, 1) := by decide +kernel
theorem dX13_finds_57 : decode cX13_finds 57 = .ok (.aaload, 1) := by decide +kernel
theorem dX13_finds_58 : decode cX13_finds 58 = .ok (.getfield 60, 3) := by decide +kernel
theorem dX13_finds_61 : decode cX13_finds 61 = .ok (.iload_n 2, 1) := by decide +kernel
theorem dX13_finds_62 : decode cX13_finds 62 = .ok (.bipush 12, 2) := by decide +kernel
theorem dX13_finds_64 : decode cX13_finds 64 = .ok (.newarray .boolean, 2) := by decide +kernel
theorem dX13_finds_66 : decode cX13_finds 66 = .ok (.iconst (-1), 1) := by decide +kernel
theorem dX13_finds_67 : decode cX13_finds 67 = .ok (.iconst 0, 1) := by decide +kernel
theorem dX13_finds_68 : decode cX13_finds 68 = .ok (.invokevirtual 348, 3) := by decide +kernel
theorem dX13_finds_71 : decode cX13_finds 71 = .ok (.aload_n 0, 1) := by decide +kernel
theorem dX13_finds_72 : decode cX13_finds 72 = .ok (.aload_n 0, 1) := by decide +kernel
theorem dX13_finds_73 : decode cX13_finds 73 = .ok (.getfield 339, 3) := by decide +kernel
theorem dX13_finds_76 : decode cX13_finds 76 = .ok (.iconst (-1), 1) := by decide +kernel
theorem dX13_finds_77 : decode cX13_finds 77 = .ok (.if_icmp .ne 7, 3) := by decide +kernel
theorem dX13_finds_80 : decode cX13_finds 80 = .ok (.iconst 4, 1) := by decide +kernel
theorem dX13_finds_81 : decode cX13_finds 81 = .ok (.goto 4, 3) := by decide +kernel
theorem dX13_finds_84 : decode cX13_finds 84 = .ok (.iconst 0, 1) := by decide +kernel
theorem dX13_finds_85 : decode cX13_finds 85 = .ok (.invokevirtual 68, 3) := by decide +kernel
theorem dX13_finds_88 : decode cX13_finds 88 = .ok (.ifCond .ne 7, 3) := by decide +kernel
theorem dX13_finds_91 : decode cX13_finds 91 = .ok (.iconst 1, 1) := by decide +kernel
theorem dX13_finds_92 : decode cX13_finds 92 = .ok (.goto 4, 3) := by decide +kernel
theorem dX13_finds_95 : decode cX13_finds 95 = .ok (.iconst 0, 1) := by decide +kernel
theorem dX13_finds_96 : decode cX13_finds 96 = .ok (.ireturn, 1) := by decide +kernel
theorem dX13_next_0 : decode cX13_next 0 = .ok (.aload_n 0, 1) := by decide +kernel
theorem dX13_next_1 : decode cX13_next 1 = .ok (.iload_n 1, 1) := by decide +kernel
theorem dX13_next_2 : decode cX13_next 2 = .ok (.iload_n 2, 1) := by decide +kernel
theorem dX13_next_3 : decode cX13_next 3 = .ok (.invokevirtual 352, 3) := by decide +kernel
theorem dX13_next_6 : decode cX13_next 6 = .ok (.ifCond .eq 10, 3) := by decide +kernel
theorem dX13_next_9 : decode cX13_next 9 = .ok (.aload_n 0, 1) := by decide +kernel
theorem dX13_next_10 : decode cX13_next 10 = .ok (.getfield 339, 3) := by decide +kernel
theorem dX13_next_13 : decode cX13_next 13 = .ok (.goto 4, 3) := by decide +kernel
theorem dX13_next_16 : decode cX13_next 16 = .ok (.iconst 0, 1) := by decide +kernel
theorem dX13_next_17 : decode cX13_next 17 = .ok (.ireturn, 1) := by decide +kernel
theorem dX13_cost_0 : decode cX13_cost 0 = .ok (.aload_n 0, 1) := by decide +kernel
theorem dX13_cost_1 : decode cX13_cost 1 = .ok (.iload_n 1, 1) := by decide +kernel
theorem dX13_cost_2 : decode cX13_cost 2 = .ok (.iload_n 2, 1) := by decide +kernel
theorem dX13_cost_3 : decode cX13_cost 3 = .ok (.invokevirtual 352, 3) := by decide +kernel
theorem dX13_cost_6 : decode cX13_cost 6 = .ok (.ifCond .eq 10, 3) := by decide +kernel
theorem dX13_cost_9 : decode cX13_cost 9 = .ok (.aload_n 0, 1) := by decide +kernel
theorem dX13_cost_10 : decode cX13_cost 10 = .ok (.getfield 342, 3) := by decide +kernel
theorem dX13_cost_13 : decode cX13_cost 13 = .ok (.goto 4, 3) := by decide +kernel
theorem dX13_cost_16 : decode cX13_cost 16 = .ok (.iconst 0, 1) := by decide +kernel
theorem dX13_cost_17 : decode cX13_cost 17 = .ok (.ireturn, 1) := by decide +kernel
theorem dX13_type_0 : decode cX13_type 0 = .ok (.aload_n 0, 1) := by decide +kernel
theorem dX13_type_1 : decode cX13_type 1 = .ok (.aload_n 0, 1) := by decide +kernel
theorem dX13_type_2 : decode cX13_type 2 = .ok (.getfield 42, 3) := by decide +kernel
theorem dX13_type_5 : decode cX13_type 5 = .ok (.invokevirtual 356, 3) := by decide +kernel
theorem dX13_type_8 : decode cX13_type 8 = .ok (.bipush 30, 2) := by decide +kernel
theorem dX13_type_10 : decode cX13_type 10 = .ok (.if_icmp .ne 7, 3) := by decide +kernel
theorem dX13_type_13 : decode cX13_type 13 = .ok (.iconst 1, 1) := by decide +kernel
theorem dX13_type_14 : decode cX13_type 14 = .ok (.goto 4, 3) := by decide +kernel
theorem dX13_type_17 : decode cX13_type 17 = .ok (.iconst 0, 1) := by decide +kernel
theorem dX13_type_18 : decode cX13_type 18 = .ok (.invokevirtual 68, 3) := by decide +kernel
theorem dX13_type_21 : decode cX13_type 21 = .ok (.ifCond .eq 5, 3) := by decide +kernel
theorem dX13_type_24 : decode cX13_type 24 = .ok (.iconst 0, 1) := by decide +kernel
theorem dX13_type_25 : decode cX13_type 25 = .ok (.ireturn, 1) := by decide +kernel
theorem dX13_type_26 : decode cX13_type 26 = .ok (.new 359, 3) := by decide +kernel
theorem dX13_type_29 : decode cX13_type 29 = .ok (.dup, 1) := by decide +kernel
theorem dX13_type_30 : decode cX13_type 30 = .ok (.invokespecial 361, 3) := by decide +kernel
theorem dX13_type_33 : decode cX13_type 33 = .ok (.aload_n 0, 1) := by decide +kernel
theorem dX13_type_34 : decode cX13_type 34 = .ok (.dup_x1, 1) := by decide +kernel
theorem dX13_type_35 : decode cX13_type 35 = .ok (.getfield 42, 3) := by decide +kernel
theorem dX13_type_38 : decode cX13_type 38 = .ok (.invokevirtual 362, 3) := by decide +kernel
theorem dX13_type_41 : decode cX13_type 41 = .ok (.iload_n 1, 1) := by decide +kernel
theorem dX13_type_42 : decode cX13_type 42 = .ok (.invokevirtual 366, 3) := by decide +kernel
theorem dX13_type_45 : decode cX13_type 45 = .ok (.invokevirtual 369, 3) := by decide +kernel
theorem dX13_type_48 : decode cX13_type 48 = .ok (.putfield 42, 3) := by decide +kernel
theorem dX13_type_51 : decode cX13_type 51 = .ok (.aload_n 0, 1) := by decide +kernel
theorem dX13_type_52 : decode cX13_type 52 = .ok (.getfield 42, 3) := by decide +kernel
theorem dX13_type_55 : decode cX13_type 55 = .ok (.invokevirtual 356, 3) := by decide +kernel
theorem dX13_type_58 : decode cX13_type 58 = .ok (.ireturn, 1) := by decide +kernel
theorem dX13_wipe_0 : decode cX13_wipe 0 = .ok (.aload_n 0, 1) := by decide +kernel
theorem dX13_wipe_1 : decode cX13_wipe 1 = .ok (.iconst 0, 1) := by decide +kernel
theorem dX13_wipe_2 : decode cX13_wipe 2 = .ok (.putfield 46, 3) := by decide +kernel
theorem dX13_wipe_5 : decode cX13_wipe 5 = .ok (.aload_n 0, 1) := by decide +kernel
theorem dX13_wipe_6 : decode cX13_wipe 6 = .ok (.getfield 42, 3) := by decide +kernel
theorem dX13_wipe_9 : decode cX13_wipe 9 = .ok (.invokevirtual 356, 3) := by decide +kernel
theorem dX13_wipe_12 : decode cX13_wipe 12 = .ok (.istore_n 1, 1) := by decide +kernel
theorem dX13_wipe_13 : decode cX13_wipe 13 = .ok (.aload_n 0, 1) := by decide +kernel
theorem dX13_wipe_14 : decode cX13_wipe 14 = .ok (.ldc 40, 2) := by decide +kernel
theorem dX13_wipe_16 : decode cX13_wipe 16 = .ok (.putfield 42, 3) := by decide +kernel
theorem dX13_wipe_19 : decode cX13_wipe 19 = .ok (.iload_n 1, 1) := by decide +kernel
theorem dX13_wipe_20 : decode cX13_wipe 20 = .ok (.ireturn, 1) := by decide +kernel
theorem dX13_isDigit_0 : decode cX13_isDigit 0 = .ok (.iload_n 1, 1) := by decide +kernel
theorem dX13_isDigit_1 : decode cX13_isDigit 1 = .ok (.bipush 48, 2) := by decide +kernel
theorem dX13_isDigit_3 : decode cX13_isDigit 3 = .ok (.iload_n 0, 1) := by decide +kernel
theorem dX13_isDigit_4 : decode cX13_isDigit 4 = .ok (.bipush 99, 2) := by decide +kernel
theorem dX13_isDigit_6 : decode cX13_isDigit 6 = .ok (.if_icmp .eq 9, 3) := by decide +kernel
theorem dX13_isDigit_9 : decode cX13_isDigit 9 = .ok (.iload_n 0, 1) := by decide +kernel
theorem dX13_isDigit_10 : decode cX13_isDigit 10 = .ok (.bipush 109, 2) := by decide +kernel
theorem dX13_isDigit_12 : decode cX13_isDigit 12 = .ok (.if_icmp .ne 8, 3) := by decide +kernel
theorem dX13_isDigit_15 : decode cX13_isDigit 15 = .ok (.bipush 51, 2) := by decide +kernel
theorem dX13_isDigit_17 : decode cX13_isDigit 17 = .ok (.goto 16, 3) := by decide +kernel
theorem dX13_isDigit_20 : decode cX13_isDigit 20 = .ok (.iload_n 0, 1) := by decide +kernel
theorem dX13_isDigit_21 : decode cX13_isDigit 21 = .ok (.bipush 108, 2) := by decide +kernel
theorem dX13_isDigit_23 : decode cX13_isDigit 23 = .ok (.if_icmp .ne 8, 3) := by decide +kernel
theorem dX13_isDigit_26 : decode cX13_isDigit 26 = .ok (.bipush 54, 2) := by decide +kernel
theorem dX13_isDigit_28 : decode cX13_isDigit 28 = .ok (.goto 5, 3) := by decide +kernel
theorem dX13_isDigit_31 : decode cX13_isDigit 31 = .ok (.bipush 57, 2) := by decide +kernel
theorem dX13_isDigit_33 : decode cX13_isDigit 33 = .ok (.invokestatic 50, 3) := by decide +kernel
theorem dX13_isDigit_36 : decode cX13_isDigit 36 = .ok (.ireturn, 1) := by decide +kernel
theorem dX13_badSign_0 : decode cX13_badSign 0 = .ok (.aload_n 0, 1) := by decide +kernel
theorem dX13_badSign_1 : decode cX13_badSign 1 = .ok (.getfield 42, 3) := by decide +kernel
theorem dX13_badSign_4 : decode cX13_badSign 4 = .ok (.invokevirtual 373, 3) := by decide +kernel
theorem dX13_badSign_7 : decode cX13_badSign 7 = .ok (.ifCond .eq 5, 3) := by decide +kernel
theorem dX13_badSign_10 : decode cX13_badSign 10 = .ok (.iconst 0, 1) := by decide +kernel
theorem dX13_badSign_11 : decode cX13_badSign 11 = .ok (.ireturn, 1) := by decide +kernel
theorem dX13_badSign_12 : decode cX13_badSign 12 = .ok (.iconst 0, 1) := by decide +kernel
theorem dX13_badSign_13 : decode cX13_badSign 13 = .ok (.istore_n 1, 1) := by decide +kernel
theorem dX13_badSign_14 : decode cX13_badSign 14 = .ok (.iload_n 1, 1) := by decide +kernel
theorem dX13_badSign_15 : decode cX13_badSign 15 = .ok (.aload_n 0, 1) := by decide +kernel
theorem dX13_badSign_16 : decode cX13_badSign 16 = .ok (.getfield 42, 3) := by decide +kernel
theorem dX13_badSign_19 : decode cX13_badSign 19 = .ok (.invokevirtual 356, 3) := by decide +kernel
theorem dX13_badSign_22 : decode cX13_badSign 22 = .ok (.if_icmp .ge 114, 3) := by decide +kernel
theorem dX13_badSign_25 : decode cX13_badSign 25 = .ok (.aload_n 0, 1) := by decide +kernel
theorem dX13_badSign_26 : decode cX13_badSign 26 = .ok (.getfield 42, 3) := by decide +kernel
theorem dX13_badSign_29 : decode cX13_badSign 29 = .ok (.iload_n 1, 1) := by decide +kernel
theorem dX13_badSign_30 : decode cX13_badSign 30 = .ok (.invokevirtual 375, 3) := by decide +kernel
theorem dX13_badSign_33 : decode cX13_badSign 33 = .ok (.istore_n 2, 1) := by decide +kernel
theorem dX13_badSign_34 : decode cX13_badSign 34 = .ok (.iload_n 2, 1) := by decide +kernel
theorem dX13_badSign_35 : decode cX13_badSign 35 = .ok (.bipush 65, 2) := by decide +kernel
theorem dX13_badSign_37 : decode cX13_badSign 37 = .ok (.bipush 68, 2) := by decide +kernel
theorem dX13_badSign_39 : decode cX13_badSign 39 = .ok (.invokestatic 50, 3) := by decide +kernel
theorem dX13_badSign_42 : decode cX13_badSign 42 = .ok (.ifCond .eq 9, 3) := by decide +kernel
theorem dX13_badSign_45 : decode cX13_badSign 45 = .ok (.iinc 1 1, 3) := by decide +kernel
theorem dX13_badSign_48 : decode cX13_badSign 48 = .ok (.goto (-34), 3) := by decide +kernel
theorem dX13_badSign_51 : decode cX13_badSign 51 = .ok (.iload_n 1, 1) := by decide +kernel
theorem dX13_badSign_52 : decode cX13_badSign 52 = .ok (.ifCond .eq 13, 3) := by decide +kernel
theorem dX13_badSign_55 : decode cX13_badSign 55 = .ok (.ldc_w 379, 3) := by decide +kernel
theorem dX13_badSign_58 : decode cX13_badSign 58 = .ok (.iload_n 2, 1) := by decide +kernel
theorem dX13_badSign_59 : decode cX13_badSign 59 = .ok (.invokevirtual 207, 3) := by decide +kernel
theorem dX13_badSign_62 : decode cX13_badSign 62 = .ok (.ifCond .ge 5, 3) := by decide +kernel
theorem dX13_badSign_65 : decode cX13_badSign 65 = .ok (.iload_n 1, 1) := by decide +kernel
theorem dX13_badSign_66 : decode cX13_badSign 66 = .ok (.ireturn, 1) := by decide +kernel
theorem dX13_badSign_67 : decode cX13_badSign 67 = .ok (.ldc_w 381, 3) := by decide +kernel
theorem dX13_badSign_70 : decode cX13_badSign 70 = .ok (.iload_n 2, 1) := by decide +kernel
theorem dX13_badSign_71 : decode cX13_badSign 71 = .ok (.invokevirtual 207, 3) := by decide +kernel
theorem dX13_badSign_74 : decode cX13_badSign 74 = .ok (.ifCond .lt 7, 3) := by decide +kernel
theorem dX13_badSign_77 : decode cX13_badSign 77 = .ok (.iconst 1, 1) := by decide +kernel
theorem dX13_badSign_78 : decode cX13_badSign 78 = .ok (.goto 4, 3) := by decide +kernel
theorem dX13_badSign_81 : decode cX13_badSign 81 = .ok (.iconst 0, 1) := by decide +kernel
theorem dX13_badSign_82 : decode cX13_badSign 82 = .ok (.istore_n 3, 1) := by decide +kernel
theorem dX13_badSign_83 : decode cX13_badSign 83 = .ok (.iload_n 3, 1) := by decide +kernel
theorem dX13_badSign_84 : decode cX13_badSign 84 = .ok (.ifCond .eq 37, 3) := by decide +kernel
theorem dX13_badSign_87 : decode cX13_badSign 87 = .ok (.iload_n 1, 1) := by decide +kernel
theorem dX13_badSign_88 : decode cX13_badSign 88 = .ok (.iconst 1, 1) := by decide +kernel
theorem dX13_badSign_89 : decode cX13_badSign 89 = .ok (.iadd, 1) := by decide +kernel
theorem dX13_badSign_90 : decode cX13_badSign 90 = .ok (.aload_n 0, 1) := by decide +kernel
theorem dX13_badSign_91 : decode cX13_badSign 91 = .ok (.getfield 42, 3) := by decide +kernel
theorem dX13_badSign_94 : decode cX13_badSign 94 = .ok (.invokevirtual 356, 3) := by decide +kernel
theorem dX13_badSign_97 : decode cX13_badSign 97 = .ok (.if_icmp .eq 20, 3) := by decide +kernel
theorem dX13_badSign_100 : decode cX13_badSign 100 = .ok (.iload_n 2, 1) := by decide +kernel
theorem dX13_badSign_101 : decode cX13_badSign 101 = .ok (.aload_n 0, 1) := by decide +kernel
theorem dX13_badSign_102 : decode cX13_badSign 102 = .ok (.getfield 42, 3) := by decide +kernel
theorem dX13_badSign_105 : decode cX13_badSign 105 = .ok (.iload_n 1, 1) := by decide +kernel
theorem dX13_badSign_106 : decode cX13_badSign 106 = .ok (.iconst 1, 1) := by decide +kernel
theorem dX13_badSign_107 : decode cX13_badSign 107 = .ok (.iadd, 1) := by decide +kernel
theorem dX13_badSign_108 : decode cX13_badSign 108 = .ok (.invokevirtual 375, 3) := by decide +kernel
theorem dX13_badSign_111 : decode cX13_badSign 111 = .ok (.invokestatic 383, 3) := by decide +kernel
theorem dX13_badSign_114 : decode cX13_badSign 114 = .ok (.ifCond .ne 7, 3) := by decide +kernel
theorem dX13_badSign_117 : decode cX13_badSign 117 = .ok (.iload_n 1, 1) := by decide +kernel
theorem dX13_badSign_118 : decode cX13_badSign 118 = .ok (.iconst 1, 1) := by decide +kernel
theorem dX13_badSign_119 : decode cX13_badSign 119 = .ok (.iadd, 1) := by decide +kernel
theorem dX13_badSign_120 : decode cX13_badSign 120 = .ok (.ireturn, 1) := by decide +kernel
theorem dX13_badSign_121 : decode cX13_badSign 121 = .ok (.iload_n 1, 1) := by decide +kernel
theorem dX13_badSign_122 : decode cX13_badSign 122 = .ok (.iload_n 3, 1) := by decide +kernel
theorem dX13_badSign_123 : decode cX13_badSign 123 = .ok (.ifCond .eq 7, 3) := by decide +kernel
theorem dX13_badSign_126 : decode cX13_badSign 126 = .ok (.iconst 2, 1) := by decide +kernel
theorem dX13_badSign_127 : decode cX13_badSign 127 = .ok (.goto 4, 3) := by decide +kernel
theorem dX13_badSign_130 : decode cX13_badSign 130 = .ok (.iconst 1, 1) := by decide +kernel
theorem dX13_badSign_131 : decode cX13_badSign 131 = .ok (.iadd, 1) := by decide +kernel
theorem dX13_badSign_132 : decode cX13_badSign 132 = .ok (.istore_n 1, 1) := by decide +kernel
theorem dX13_badSign_133 : decode cX13_badSign 133 = .ok (.goto (-119), 3) := by decide +kernel
theorem dX13_badSign_136 : decode cX13_badSign 136 = .ok (.iconst (-1), 1) := by decide +kernel
theorem dX13_badSign_137 : decode cX13_badSign 137 = .ok (.ireturn, 1) := by decide +kernel
theorem dX13_does_0 : decode cX13_does 0 = .ok (.ldc_w 387, 3) := by decide +kernel
theorem dX13_does_3 : decode cX13_does 3 = .ok (.iload_n 1, 1) := by decide +kernel
theorem dX13_does_4 : decode cX13_does 4 = .ok (.invokevirtual 207, 3) := by decide +kernel
theorem dX13_does_7 : decode cX13_does 7 = .ok (.ifCond .lt 13, 3) := by decide +kernel
theorem dX13_does_10 : decode cX13_does 10 = .ok (.aload_n 0, 1) := by decide +kernel
theorem dX13_does_11 : decode cX13_does 11 = .ok (.getfield 60, 3) := by decide +kernel
theorem dX13_does_14 : decode cX13_does 14 = .ok (.ifnonnull 6, 3) := by decide +kernel
theorem dX13_does_17 : decode cX13_does 17 = .ok (.bipush 101, 2) := by decide +kernel
theorem dX13_does_19 : decode cX13_does 19 = .ok (.ireturn, 1) := by decide +kernel
theorem dX13_does_20 : decode cX13_does 20 = .ok (.iload_n 1, 1) := by decide +kernel
theorem dX13_does_21 : decode cX13_does 21 = .ok (.lookupswitch 243 #[(43, 205), (45, 216), (98, 106), (99, 125), (102, 227), (108, 169), (109, 156), (112, 91), (115, 99), (120, 185)], 91) := by decide +kernel
theorem dX13_does_112 : decode cX13_does 112 = .ok (.aload_n 0, 1) := by decide +kernel
theorem dX13_does_113 : decode cX13_does 113 = .ok (.invokevirtual 139, 3) := by decide +kernel
theorem dX13_does_116 : decode cX13_does 116 = .ok (.pop, 1) := by decide +kernel
theorem dX13_does_117 : decode cX13_does 117 = .ok (.goto 164, 3) := by decide +kernel
theorem dX13_does_120 : decode cX13_does 120 = .ok (.aload_n 0, 1) := by decide +kernel
theorem dX13_does_121 : decode cX13_does 121 = .ok (.invokevirtual 143, 3) := by decide +kernel
theorem dX13_does_124 : decode cX13_does 124 = .ok (.goto 157, 3) := by decide +kernel
theorem dX13_does_127 : decode cX13_does 127 = .ok (.aload_n 0, 1) := by decide +kernel
theorem dX13_does_128 : decode cX13_does 128 = .ok (.aload_n 0, 1) := by decide +kernel
theorem dX13_does_129 : decode cX13_does 129 = .ok (.getfield 124, 3) := by decide +kernel
theorem dX13_does_132 : decode cX13_does 132 = .ok (.ifCond .eq 7, 3) := by decide +kernel
theorem dX13_does_135 : decode cX13_does 135 = .ok (.iconst 0, 1) := by decide +kernel
theorem dX13_does_136 : decode cX13_does 136 = .ok (.goto 4, 3) := by decide +kernel
theorem dX13_does_139 : decode cX13_does 139 = .ok (.iconst (-1), 1) := by decide +kernel
theorem dX13_does_140 : decode cX13_does 140 = .ok (.putfield 152, 3) := by decide +kernel
theorem dX13_does_143 : decode cX13_does 143 = .ok (.goto 138, 3) := by decide +kernel
theorem dX13_does_146 : decode cX13_does 146 = .ok (.aload_n 0, 1) := by decide +kernel
theorem dX13_does_147 : decode cX13_does 147 = .ok (.getfield 176, 3) := by decide +kernel
theorem dX13_does_150 : decode cX13_does 150 = .ok (.iload_n 2, 1) := by decide +kernel
theorem dX13_does_151 : decode cX13_does 151 = .ok (.iaload, 1) := by decide +kernel
theorem dX13_does_152 : decode cX13_does 152 = .ok (.iconst (-1), 1) := by decide +kernel
theorem dX13_does_153 : decode cX13_does 153 = .ok (.if_icmp .ne 6, 3) := by decide +kernel
theorem dX13_does_156 : decode cX13_does 156 = .ok (.bipush 99, 2) := by decide +kernel
theorem dX13_does_158 : decode cX13_does 158 = .ok (.ireturn, 1) := by decide +kernel
theorem dX13_does_159 : decode cX13_does 159 = .ok (.aload_n 0, 1) := by decide +kernel
theorem dX13_does_160 : decode cX13_does 160 = .ok (.aload_n 0, 1) := by decide +kernel
theorem dX13_does_161 : decode cX13_does 161 = .ok (.getfield 176, 3) := by decide +kernel
theorem dX13_does_164 : decode cX13_does 164 = .ok (.iload_n 2, 1) := by decide +kernel
theorem dX13_does_165 : decode cX13_does 165 = .ok (.iaload, 1) := by decide +kernel
theorem dX13_does_166 : decode cX13_does 166 = .ok (.i2l, 1) := by decide +kernel
theorem dX13_does_167 : decode cX13_does 167 = .ok (.ldc2_w 161, 3) := by decide +kernel
theorem dX13_does_170 : decode cX13_does 170 = .ok (.lmul, 1) := by decide +kernel
theorem dX13_does_171 : decode cX13_does 171 = .ok (.putfield 163, 3) := by decide +kernel
theorem dX13_does_174 : decode cX13_does 174 = .ok (.goto 107, 3) := by decide +kernel
theorem dX13_does_177 : decode cX13_does 177 = .ok (.aload_n 0, 1) := by decide +kernel
theorem dX13_does_178 : decode cX13_does 178 = .ok (.getfield 176, 3) := by decide +kernel
theorem dX13_does_181 : decode cX13_does 181 = .ok (.iload_n 2, 1) := by decide +kernel
theorem dX13_does_182 : decode cX13_does 182 = .ok (.aload_n 0, 1) := by decide +kernel
theorem dX13_does_183 : decode cX13_does 183 = .ok (.invokestatic 172, 3) := by decide +kernel
theorem dX13_does_186 : decode cX13_does 186 = .ok (.iastore, 1) := by decide +kernel
theorem dX13_does_187 : decode cX13_does 187 = .ok (.goto 94, 3) := by decide +kernel
theorem dX13_does_190 : decode cX13_does 190 = .ok (.aload_n 0, 1) := by decide +kernel
theorem dX13_does_191 : decode cX13_does 191 = .ok (.iload_n 2, 1) := by decide +kernel
theorem dX13_does_192 : decode cX13_does 192 = .ok (.invokestatic 185, 3) := by decide +kernel
theorem dX13_does_195 : decode cX13_does 195 = .ok (.ifCond .eq 8, 3) := by decide +kernel
theorem dX13_does_198 : decode cX13_does 198 = .ok (.bipush 45, 2) := by decide +kernel
theorem dX13_does_200 : decode cX13_does 200 = .ok (.goto 5, 3) := by decide +kernel
theorem dX13_does_203 : decode cX13_does 203 = .ok (.bipush 108, 2) := by decide +kernel
theorem dX13_does_205 : decode cX13_does 205 = .ok (.ireturn, 1) := by decide +kernel
theorem dX13_does_206 : decode cX13_does 206 = .ok (.aload_n 0, 1) := by decide +kernel
theorem dX13_does_207 : decode cX13_does 207 = .ok (.getfield 182, 3) := by decide +kernel
theorem dX13_does_210 : decode cX13_does 210 = .ok (.lconst 0, 1) := by decide +kernel
theorem dX13_does_211 : decode cX13_does 211 = .ok (.lcmp, 1) := by decide +kernel
theorem dX13_does_212 : decode cX13_does 212 = .ok (.ifCond .ne 6, 3) := by decide +kernel
theorem dX13_does_215 : decode cX13_does 215 = .ok (.bipush 105, 2) := by decide +kernel
theorem dX13_does_217 : decode cX13_does 217 = .ok (.ireturn, 1) := by decide +kernel
theorem dX13_does_218 : decode cX13_does 218 = .ok (.aload_n 0, 1) := by decide +kernel
theorem dX13_does_219 : decode cX13_does 219 = .ok (.lconst 0, 1) := by decide +kernel
theorem dX13_does_220 : decode cX13_does 220 = .ok (.putfield 182, 3) := by decide +kernel
theorem dX13_does_223 : decode cX13_does 223 = .ok (.goto 58, 3) := by decide +kernel
theorem dX13_does_226 : decode cX13_does 226 = .ok (.aload_n 0, 1) := by decide +kernel
theorem dX13_does_227 : decode cX13_does 227 = .ok (.bipush 10, 2) := by decide +kernel
theorem dX13_does_229 : decode cX13_does 229 = .ok (.iload_n 2, 1) := by decide +kernel
theorem dX13_does_230 : decode cX13_does 230 = .ok (.imul, 1) := by decide +kernel
theorem dX13_does_231 : decode cX13_does 231 = .ok (.putfield 149, 3) := by decide +kernel
theorem dX13_does_234 : decode cX13_does 234 = .ok (.goto 47, 3) := by decide +kernel
theorem dX13_does_237 : decode cX13_does 237 = .ok (.aload_n 0, 1) := by decide +kernel
theorem dX13_does_238 : decode cX13_does 238 = .ok (.bipush (-10), 2) := by decide +kernel
theorem dX13_does_240 : decode cX13_does 240 = .ok (.iload_n 2, 1) := by decide +kernel
theorem dX13_does_241 : decode cX13_does 241 = .ok (.imul, 1) := by decide +kernel
theorem dX13_does_242 : decode cX13_does 242 = .ok (.putfield 149, 3) := by decide +kernel
theorem dX13_does_245 : decode cX13_does 245 = .ok (.goto 36, 3) := by decide +kernel
theorem dX13_does_248 : decode cX13_does 248 = .ok (.aload_n 0, 1) := by decide +kernel
theorem dX13_does_249 : decode cX13_does 249 = .ok (.bipush 100, 2) := by decide +kernel
theorem dX13_does_251 : decode cX13_does 251 = .ok (.bipush 11, 2) := by decide +kernel
theorem dX13_does_253 : decode cX13_does 253 = .ok (.iload_n 2, 1) := by decide +kernel
theorem dX13_does_254 : decode cX13_does 254 = .ok (.imul, 1) := by decide +kernel
theorem dX13_does_255 : decode cX13_does 255 = .ok (.invokestatic 104, 3) := by decide +kernel
theorem dX13_does_258 : decode cX13_does 258 = .ok (.putfield 199, 3) := by decide +kernel
theorem dX13_does_261 : decode cX13_does 261 = .ok (.goto 20, 3) := by decide +kernel
theorem dX13_does_264 : decode cX13_does 264 = .ok (.aload_n 0, 1) := by decide +kernel
theorem dX13_does_265 : decode cX13_does 265 = .ok (.aload_n 0, 1) := by decide +kernel
theorem dX13_does_266 : decode cX13_does 266 = .ok (.getfield 189, 3) := by decide +kernel
theorem dX13_does_269 : decode cX13_does 269 = .ok (.ifCond .ne 7, 3) := by decide +kernel
theorem dX13_does_272 : decode cX13_does 272 = .ok (.iconst 1, 1) := by decide +kernel
theorem dX13_does_273 : decode cX13_does 273 = .ok (.goto 4, 3) := by decide +kernel
theorem dX13_does_276 : decode cX13_does 276 = .ok (.iconst 0, 1) := by decide +kernel
theorem dX13_does_277 : decode cX13_does 277 = .ok (.invokestatic 195, 3) := by decide +kernel
theorem dX13_does_280 : decode cX13_does 280 = .ok (.pop, 1) := by decide +kernel
theorem dX13_does_281 : decode cX13_does 281 = .ok (.bipush 45, 2) := by decide +kernel
theorem dX13_does_283 : decode cX13_does 283 = .ok (.ireturn, 1) := by decide +kernel
theorem dX13_refuses_0 : decode cX13_refuses 0 = .ok (.aload_n 0, 1) := by decide +kernel
theorem dX13_refuses_1 : decode cX13_refuses 1 = .ok (.getfield 36, 3) := by decide +kernel
theorem dX13_refuses_4 : decode cX13_refuses 4 = .ok (.iconst 0, 1) := by decide +kernel
theorem dX13_refuses_5 : decode cX13_refuses 5 = .ok (.iload_n 1, 1) := by decide +kernel
theorem dX13_refuses_6 : decode cX13_refuses 6 = .ok (.castore, 1) := by decide +kernel
theorem dX13_refuses_7 : decode cX13_refuses 7 = .ok (.aload_n 0, 1) := by decide +kernel
theorem dX13_refuses_8 : decode cX13_refuses 8 = .ok (.getfield 33, 3) := by decide +kernel
theorem dX13_refuses_11 : decode cX13_refuses 11 = .ok (.iconst 0, 1) := by decide +kernel
theorem dX13_refuses_12 : decode cX13_refuses 12 = .ok (.iload_n 2, 1) := by decide +kernel
theorem dX13_refuses_13 : decode cX13_refuses 13 = .ok (.iastore, 1) := by decide +kernel
theorem dX13_refuses_14 : decode cX13_refuses 14 = .ok (.aload_n 0, 1) := by decide +kernel
theorem dX13_refuses_15 : decode cX13_refuses 15 = .ok (.getfield 36, 3) := by decide +kernel
theorem dX13_refuses_18 : decode cX13_refuses 18 = .ok (.iconst 1, 1) := by decide +kernel
theorem dX13_refuses_19 : decode cX13_refuses 19 = .ok (.iload_n 3, 1) := by decide +kernel
theorem dX13_refuses_20 : decode cX13_refuses 20 = .ok (.castore, 1) := by decide +kernel
theorem dX13_refuses_21 : decode cX13_refuses 21 = .ok (.aload_n 0, 1) := by decide +kernel
theorem dX13_refuses_22 : decode cX13_refuses 22 = .ok (.getfield 33, 3) := by decide +kernel
theorem dX13_refuses_25 : decode cX13_refuses 25 = .ok (.iconst 1, 1) := by decide +kernel
theorem dX13_refuses_26 : decode cX13_refuses 26 = .ok (.iload 4, 2) := by decide +kernel
theorem dX13_refuses_28 : decode cX13_refuses 28 = .ok (.iastore, 1) := by decide +kernel
theorem dX13_refuses_29 : decode cX13_refuses 29 = .ok (.aload_n 0, 1) := by decide +kernel
theorem dX13_refuses_30 : decode cX13_refuses 30 = .ok (.iload_n 3, 1) := by decide +kernel
theorem dX13_refuses_31 : decode cX13_refuses 31 = .ok (.bipush 45, 2) := by decide +kernel
theorem dX13_refuses_33 : decode cX13_refuses 33 = .ok (.if_icmp .ne 7, 3) := by decide +kernel
theorem dX13_refuses_36 : decode cX13_refuses 36 = .ok (.iconst 1, 1) := by decide +kernel
theorem dX13_refuses_37 : decode cX13_refuses 37 = .ok (.goto 4, 3) := by decide +kernel
theorem dX13_refuses_40 : decode cX13_refuses 40 = .ok (.iconst 2, 1) := by decide +kernel
theorem dX13_refuses_41 : decode cX13_refuses 41 = .ok (.putfield 389, 3) := by decide +kernel
theorem dX13_refuses_44 : decode cX13_refuses 44 = .ok (.return_, 1) := by decide +kernel
theorem dX13_perform_0 : decode cX13_perform 0 = .ok (.aload_n 0, 1) := by decide +kernel
theorem dX13_perform_1 : decode cX13_perform 1 = .ok (.invokevirtual 392, 3) := by decide +kernel
theorem dX13_perform_4 : decode cX13_perform 4 = .ok (.istore_n 1, 1) := by decide +kernel
theorem dX13_perform_5 : decode cX13_perform 5 = .ok (.aload_n 0, 1) := by decide +kernel
theorem dX13_perform_6 : decode cX13_perform 6 = .ok (.iload_n 1, 1) := by decide +kernel
theorem dX13_perform_7 : decode cX13_perform 7 = .ok (.iconst (-1), 1) := by decide +kernel
theorem dX13_perform_8 : decode cX13_perform 8 = .ok (.if_icmp .ne 7, 3) := by decide +kernel
theorem dX13_perform_11 : decode cX13_perform 11 = .ok (.iconst 0, 1) := by decide +kernel
theorem dX13_perform_12 : decode cX13_perform 12 = .ok (.goto 4, 3) := by decide +kernel
theorem dX13_perform_15 : decode cX13_perform 15 = .ok (.iconst 1, 1) := by decide +kernel
theorem dX13_perform_16 : decode cX13_perform 16 = .ok (.invokevirtual 68, 3) := by decide +kernel
theorem dX13_perform_19 : decode cX13_perform 19 = .ok (.ifCond .eq 15, 3) := by decide +kernel
theorem dX13_perform_22 : decode cX13_perform 22 = .ok (.aload_n 0, 1) := by decide +kernel
theorem dX13_perform_23 : decode cX13_perform 23 = .ok (.bipush 116, 2) := by decide +kernel
theorem dX13_perform_25 : decode cX13_perform 25 = .ok (.iload_n 1, 1) := by decide +kernel
theorem dX13_perform_26 : decode cX13_perform 26 = .ok (.bipush 45, 2) := by decide +kernel
theorem dX13_perform_28 : decode cX13_perform 28 = .ok (.iconst 0, 1) := by decide +kernel
theorem dX13_perform_29 : decode cX13_perform 29 = .ok (.invokevirtual 395, 3) := by decide +kernel
theorem dX13_perform_32 : decode cX13_perform 32 = .ok (.iconst 0, 1) := by decide +kernel
theorem dX13_perform_33 : decode cX13_perform 33 = .ok (.ireturn, 1) := by decide +kernel
theorem dX13_perform_34 : decode cX13_perform 34 = .ok (.iconst 4, 1) := by decide +kernel
theorem dX13_perform_35 : decode cX13_perform 35 = .ok (.anewarray 16, 3) := by decide +kernel
theorem dX13_perform_38 : decode cX13_perform 38 = .ok (.dup, 1) := by decide +kernel
theorem dX13_perform_39 : decode cX13_perform 39 = .ok (.iconst 0, 1) := by decide +kernel
theorem dX13_perform_40 : decode cX13_perform 40 = .ok (.aload_n 0, 1) := by decide +kernel
theorem dX13_perform_41 : decode cX13_perform 41 = .ok (.getfield 19, 3) := by decide +kernel
theorem dX13_perform_44 : decode cX13_perform 44 = .ok (.iconst 0, 1) := by decide +kernel
theorem dX13_perform_45 : decode cX13_perform 45 = .ok (.aaload, 1) := by decide +kernel
theorem dX13_perform_46 : decode cX13_perform 46 = .ok (.invokevirtual 399, 3) := by decide +kernel
theorem dX13_perform_49 : decode cX13_perform 49 = .ok (.aastore, 1) := by decide +kernel
theorem dX13_perform_50 : decode cX13_perform 50 = .ok (.dup, 1) := by decide +kernel
theorem dX13_perform_51 : decode cX13_perform 51 = .ok (.iconst 1, 1) := by decide +kernel
theorem dX13_perform_52 : decode cX13_perform 52 = .ok (.aload_n 0, 1) := by decide +kernel
theorem dX13_perform_53 : decode cX13_perform 53 = .ok (.getfield 19, 3) := by decide +kernel
theorem dX13_perform_56 : decode cX13_perform 56 = .ok (.iconst 1, 1) := by decide +kernel
theorem dX13_perform_57 : decode cX13_perform 57 = .ok (.aaload, 1) := by decide +kernel
theorem dX13_perform_58 : decode cX13_perform 58 = .ok (.invokevirtual 399, 3) := by decide +kernel
theorem dX13_perform_61 : decode cX13_perform 61 = .ok (.aastore, 1) := by decide +kernel
theorem dX13_perform_62 : decode cX13_perform 62 = .ok (.dup, 1) := by decide +kernel
theorem dX13_perform_63 : decode cX13_perform 63 = .ok (.iconst 2, 1) := by decide +kernel
theorem dX13_perform_64 : decode cX13_perform 64 = .ok (.aload_n 0, 1) := by decide +kernel
theorem dX13_perform_65 : decode cX13_perform 65 = .ok (.getfield 19, 3) := by decide +kernel
theorem dX13_perform_68 : decode cX13_perform 68 = .ok (.iconst 2, 1) := by decide +kernel
theorem dX13_perform_69 : decode cX13_perform 69 = .ok (.aaload, 1) := by decide +kernel
theorem dX13_perform_70 : decode cX13_perform 70 = .ok (.invokevirtual 399, 3) := by decide +kernel
theorem dX13_perform_73 : decode cX13_perform 73 = .ok (.aastore, 1) := by decide +kernel
theorem dX13_perform_74 : decode cX13_perform 74 = .ok (.dup, 1) := by decide +kernel
theorem dX13_perform_75 : decode cX13_perform 75 = .ok (.iconst 3, 1) := by decide +kernel
theorem dX13_perform_76 : decode cX13_perform 76 = .ok (.aload_n 0, 1) := by decide +kernel
theorem dX13_perform_77 : decode cX13_perform 77 = .ok (.getfield 19, 3) := by decide +kernel
theorem dX13_perform_80 : decode cX13_perform 80 = .ok (.iconst 3, 1) := by decide +kernel
theorem dX13_perform_81 : decode cX13_perform 81 = .ok (.aaload, 1) := by decide +kernel
theorem dX13_perform_82 : decode cX13_perform 82 = .ok (.invokevirtual 399, 3) := by decide +kernel
theorem dX13_perform_85 : decode cX13_perform 85 = .ok (.aastore, 1) := by decide +kernel
theorem dX13_perform_86 : decode cX13_perform 86 = .ok (.astore_n 2, 1) := by decide +kernel
theorem dX13_perform_87 : decode cX13_perform 87 = .ok (.iconst 0, 1) := by decide +kernel
theorem dX13_perform_88 : decode cX13_perform 88 = .ok (.istore_n 3, 1) := by decide +kernel
theorem dX13_perform_89 : decode cX13_perform 89 = .ok (.iconst 0, 1) := by decide +kernel
theorem dX13_perform_90 : decode cX13_perform 90 = .ok (.istore 4, 2) := by decide +kernel
theorem dX13_perform_92 : decode cX13_perform 92 = .ok (.iconst 0, 1) := by decide +kernel
theorem dX13_perform_93 : decode cX13_perform 93 = .ok (.istore 5, 2) := by decide +kernel
theorem dX13_perform_95 : decode cX13_perform 95 = .ok (.iload 5, 2) := by decide +kernel
theorem dX13_perform_97 : decode cX13_perform 97 = .ok (.aload_n 0, 1) := by decide +kernel
theorem dX13_perform_98 : decode cX13_perform 98 = .ok (.getfield 42, 3) := by decide +kernel
theorem dX13_perform_101 : decode cX13_perform 101 = .ok (.invokevirtual 356, 3) := by decide +kernel
theorem dX13_perform_104 : decode cX13_perform 104 = .ok (.if_icmp .ge 167, 3) := by decide +kernel
theorem dX13_perform_107 : decode cX13_perform 107 = .ok (.aload_n 0, 1) := by decide +kernel
theorem dX13_perform_108 : decode cX13_perform 108 = .ok (.getfield 42, 3) := by decide +kernel
theorem dX13_perform_111 : decode cX13_perform 111 = .ok (.iload 5, 2) := by decide +kernel
theorem dX13_perform_113 : decode cX13_perform 113 = .ok (.invokevirtual 375, 3) := by decide +kernel
theorem dX13_perform_116 : decode cX13_perform 116 = .ok (.istore 6, 2) := by decide +kernel
theorem dX13_perform_118 : decode cX13_perform 118 = .ok (.iload 6, 2) := by decide +kernel
theorem dX13_perform_120 : decode cX13_perform 120 = .ok (.bipush 65, 2) := by decide +kernel
theorem dX13_perform_122 : decode cX13_perform 122 = .ok (.bipush 68, 2) := by decide +kernel
theorem dX13_perform_124 : decode cX13_perform 124 = .ok (.invokestatic 50, 3) := by decide +kernel
theorem dX13_perform_127 : decode cX13_perform 127 = .ok (.ifCond .eq 12, 3) := by decide +kernel
theorem dX13_perform_130 : decode cX13_perform 130 = .ok (.iload 6, 2) := by decide +kernel
theorem dX13_perform_132 : decode cX13_perform 132 = .ok (.bipush 65, 2) := by decide +kernel
theorem dX13_perform_134 : decode cX13_perform 134 = .ok (.isub, 1) := by decide +kernel
theorem dX13_perform_135 : decode cX13_perform 135 = .ok (.istore_n 3, 1) := by decide +kernel
theorem dX13_perform_136 : decode cX13_perform 136 = .ok (.goto 129, 3) := by decide +kernel
theorem dX13_perform_139 : decode cX13_perform 139 = .ok (.ldc_w 381, 3) := by decide +kernel
theorem dX13_perform_142 : decode cX13_perform 142 = .ok (.iload 6, 2) := by decide +kernel
theorem dX13_perform_144 : decode cX13_perform 144 = .ok (.invokevirtual 207, 3) := by decide +kernel
theorem dX13_perform_147 : decode cX13_perform 147 = .ok (.ifCond .lt 7, 3) := by decide +kernel
theorem dX13_perform_150 : decode cX13_perform 150 = .ok (.iconst 1, 1) := by decide +kernel
theorem dX13_perform_151 : decode cX13_perform 151 = .ok (.goto 4, 3) := by decide +kernel
theorem dX13_perform_154 : decode cX13_perform 154 = .ok (.iconst 0, 1) := by decide +kernel
theorem dX13_perform_155 : decode cX13_perform 155 = .ok (.istore 7, 2) := by decide +kernel
theorem dX13_perform_157 : decode cX13_perform 157 = .ok (.aload_n 0, 1) := by decide +kernel
theorem dX13_perform_158 : decode cX13_perform 158 = .ok (.getfield 19, 3) := by decide +kernel
theorem dX13_perform_161 : decode cX13_perform 161 = .ok (.iload_n 3, 1) := by decide +kernel
theorem dX13_perform_162 : decode cX13_perform 162 = .ok (.aaload, 1) := by decide +kernel
theorem dX13_perform_163 : decode cX13_perform 163 = .ok (.iload 6, 2) := by decide +kernel
theorem dX13_perform_165 : decode cX13_perform 165 = .ok (.iload 7, 2) := by decide +kernel
theorem dX13_perform_167 : decode cX13_perform 167 = .ok (.ifCond .eq 20, 3) := by decide +kernel
theorem dX13_perform_170 : decode cX13_perform 170 = .ok (.aload_n 0, 1) := by decide +kernel
theorem dX13_perform_171 : decode cX13_perform 171 = .ok (.getfield 42, 3) := by decide +kernel
theorem dX13_perform_174 : decode cX13_perform 174 = .ok (.iload 5, 2) := by decide +kernel
theorem dX13_perform_176 : decode cX13_perform 176 = .ok (.iconst 1, 1) := by decide +kernel
theorem dX13_perform_177 : decode cX13_perform 177 = .ok (.iadd, 1) := by decide +kernel
theorem dX13_perform_178 : decode cX13_perform 178 = .ok (.invokevirtual 375, 3) := by decide +kernel
theorem dX13_perform_181 : decode cX13_perform 181 = .ok (.bipush 48, 2) := by decide +kernel
theorem dX13_perform_183 : decode cX13_perform 183 = .ok (.isub, 1) := by decide +kernel
theorem dX13_perform_184 : decode cX13_perform 184 = .ok (.goto 4, 3) := by decide +kernel
theorem dX13_perform_187 : decode cX13_perform 187 = .ok (.iconst 0, 1) := by decide +kernel
theorem dX13_perform_188 : decode cX13_perform 188 = .ok (.invokestatic 403, 3) := by decide +kernel
theorem dX13_perform_191 : decode cX13_perform 191 = .ok (.istore 8, 2) := by decide +kernel
theorem dX13_perform_193 : decode cX13_perform 193 = .ok (.iload 8, 2) := by decide +kernel
theorem dX13_perform_195 : decode cX13_perform 195 = .ok (.bipush 45, 2) := by decide +kernel
theorem dX13_perform_197 : decode cX13_perform 197 = .ok (.if_icmp .eq 50, 3) := by decide +kernel
theorem dX13_perform_200 : decode cX13_perform 200 = .ok (.iconst 0, 1) := by decide +kernel
theorem dX13_perform_201 : decode cX13_perform 201 = .ok (.istore 9, 2) := by decide +kernel
theorem dX13_perform_203 : decode cX13_perform 203 = .ok (.iload 9, 2) := by decide +kernel
theorem dX13_perform_205 : decode cX13_perform 205 = .ok (.iconst 4, 1) := by decide +kernel
theorem dX13_perform_206 : decode cX13_perform 206 = .ok (.if_icmp .ge 23, 3) := by decide +kernel
theorem dX13_perform_209 : decode cX13_perform 209 = .ok (.aload_n 0, 1) := by decide +kernel
theorem dX13_perform_210 : decode cX13_perform 210 = .ok (.getfield 19, 3) := by decide +kernel
theorem dX13_perform_213 : decode cX13_perform 213 = .ok (.iload 9, 2) := by decide +kernel
theorem dX13_perform_215 : decode cX13_perform 215 = .ok (.aaload, 1) := by decide +kernel
theorem dX13_perform_216 : decode cX13_perform 216 = .ok (.aload_n 2, 1) := by decide +kernel
theorem dX13_perform_217 : decode cX13_perform 217 = .ok (.iload 9, 2) := by decide +kernel
theorem dX13_perform_219 : decode cX13_perform 219 = .ok (.aaload, 1) := by decide +kernel
theorem dX13_perform_220 : decode cX13_perform 220 = .ok (.invokevirtual 407, 3) := by decide +kernel
theorem dX13_perform_223 : decode cX13_perform 223 = .ok (.iinc 9 1, 3) := by decide +kernel
theorem dX13_perform_226 : decode cX13_perform 226 = .ok (.goto (-23), 3) := by decide +kernel
theorem dX13_perform_229 : decode cX13_perform 229 = .ok (.aload_n 0, 1) := by decide +kernel
theorem dX13_perform_230 : decode cX13_perform 230 = .ok (.bipush 109, 2) := by decide +kernel
theorem dX13_perform_232 : decode cX13_perform 232 = .ok (.iload 5, 2) := by decide +kernel
theorem dX13_perform_234 : decode cX13_perform 234 = .ok (.iload 8, 2) := by decide +kernel
theorem dX13_perform_236 : decode cX13_perform 236 = .ok (.iload_n 3, 1) := by decide +kernel
theorem dX13_perform_237 : decode cX13_perform 237 = .ok (.invokevirtual 395, 3) := by decide +kernel
theorem dX13_perform_240 : decode cX13_perform 240 = .ok (.aload_n 0, 1) := by decide +kernel
theorem dX13_perform_241 : decode cX13_perform 241 = .ok (.iconst 2, 1) := by decide +kernel
theorem dX13_perform_242 : decode cX13_perform 242 = .ok (.putfield 46, 3) := by decide +kernel
theorem dX13_perform_245 : decode cX13_perform 245 = .ok (.iconst 0, 1) := by decide +kernel
theorem dX13_perform_246 : decode cX13_perform 246 = .ok (.ireturn, 1) := by decide +kernel
theorem dX13_perform_247 : decode cX13_perform 247 = .ok (.iinc 4 1, 3) := by decide +kernel
theorem dX13_perform_250 : decode cX13_perform 250 = .ok (.iload 5, 2) := by decide +kernel
theorem dX13_perform_252 : decode cX13_perform 252 = .ok (.iload 7, 2) := by decide +kernel
theorem dX13_perform_254 : decode cX13_perform 254 = .ok (.ifCond .eq 7, 3) := by decide +kernel
theorem dX13_perform_257 : decode cX13_perform 257 = .ok (.iconst 1, 1) := by decide +kernel
theorem dX13_perform_258 : decode cX13_perform 258 = .ok (.goto 4, 3) := by decide +kernel
theorem dX13_perform_261 : decode cX13_perform 261 = .ok (.iconst 0, 1) := by decide +kernel
theorem dX13_perform_262 : decode cX13_perform 262 = .ok (.iadd, 1) := by decide +kernel
theorem dX13_perform_263 : decode cX13_perform 263 = .ok (.istore 5, 2) := by decide +kernel
theorem dX13_perform_265 : decode cX13_perform 265 = .ok (.iinc 5 1, 3) := by decide +kernel
theorem dX13_perform_268 : decode cX13_perform 268 = .ok (.goto (-173), 3) := by decide +kernel
theorem dX13_perform_271 : decode cX13_perform 271 = .ok (.aload_n 0, 1) := by decide +kernel
theorem dX13_perform_272 : decode cX13_perform 272 = .ok (.ldc 40, 2) := by decide +kernel
theorem dX13_perform_274 : decode cX13_perform 274 = .ok (.putfield 42, 3) := by decide +kernel
theorem dX13_perform_277 : decode cX13_perform 277 = .ok (.aload_n 0, 1) := by decide +kernel
theorem dX13_perform_278 : decode cX13_perform 278 = .ok (.invokevirtual 81, 3) := by decide +kernel
theorem dX13_perform_281 : decode cX13_perform 281 = .ok (.iload 4, 2) := by decide +kernel
theorem dX13_perform_283 : decode cX13_perform 283 = .ok (.ireturn, 1) := by decide +kernel
theorem dX13_cause_0 : decode cX13_cause 0 = .ok (.aload_n 0, 1) := by decide +kernel
theorem dX13_cause_1 : decode cX13_cause 1 = .ok (.iload_n 1, 1) := by decide +kernel
theorem dX13_cause_2 : decode cX13_cause 2 = .ok (.iconst 0, 1) := by decide +kernel
theorem dX13_cause_3 : decode cX13_cause 3 = .ok (.aload_n 0, 1) := by decide +kernel
theorem dX13_cause_4 : decode cX13_cause 4 = .ok (.getfield 389, 3) := by decide +kernel
theorem dX13_cause_7 : decode cX13_cause 7 = .ok (.iconst 1, 1) := by decide +kernel
theorem dX13_cause_8 : decode cX13_cause 8 = .ok (.isub, 1) := by decide +kernel
theorem dX13_cause_9 : decode cX13_cause 9 = .ok (.invokestatic 50, 3) := by decide +kernel
theorem dX13_cause_12 : decode cX13_cause 12 = .ok (.ifCond .eq 7, 3) := by decide +kernel
theorem dX13_cause_15 : decode cX13_cause 15 = .ok (.iconst 0, 1) := by decide +kernel
theorem dX13_cause_16 : decode cX13_cause 16 = .ok (.goto 4, 3) := by decide +kernel
theorem dX13_cause_19 : decode cX13_cause 19 = .ok (.iconst 1, 1) := by decide +kernel
theorem dX13_cause_20 : decode cX13_cause 20 = .ok (.invokevirtual 68, 3) := by decide +kernel
theorem dX13_cause_23 : decode cX13_cause 23 = .ok (.ifCond .eq 7, 3) := by decide +kernel
theorem dX13_cause_26 : decode cX13_cause 26 = .ok (.iconst 0, 1) := by decide +kernel
theorem dX13_cause_27 : decode cX13_cause 27 = .ok (.goto 9, 3) := by decide +kernel
theorem dX13_cause_30 : decode cX13_cause 30 = .ok (.aload_n 0, 1) := by decide +kernel
theorem dX13_cause_31 : decode cX13_cause 31 = .ok (.getfield 36, 3) := by decide +kernel
theorem dX13_cause_34 : decode cX13_cause 34 = .ok (.iload_n 1, 1) := by decide +kernel
theorem dX13_cause_35 : decode cX13_cause 35 = .ok (.caload, 1) := by decide +kernel
theorem dX13_cause_36 : decode cX13_cause 36 = .ok (.ireturn, 1) := by decide +kernel
theorem dX13_causeNumber_0 : decode cX13_causeNumber 0 = .ok (.aload_n 0, 1) := by decide +kernel
theorem dX13_causeNumber_1 : decode cX13_causeNumber 1 = .ok (.iload_n 1, 1) := by decide +kernel
theorem dX13_causeNumber_2 : decode cX13_causeNumber 2 = .ok (.iconst 0, 1) := by decide +kernel
theorem dX13_causeNumber_3 : decode cX13_causeNumber 3 = .ok (.aload_n 0, 1) := by decide +kernel
theorem dX13_causeNumber_4 : decode cX13_causeNumber 4 = .ok (.getfield 389, 3) := by decide +kernel
theorem dX13_causeNumber_7 : decode cX13_causeNumber 7 = .ok (.iconst 1, 1) := by decide +kernel
theorem dX13_causeNumber_8 : decode cX13_causeNumber 8 = .ok (.isub, 1) := by decide +kernel
theorem dX13_causeNumber_9 : decode cX13_causeNumber 9 = .ok (.invokestatic 50, 3) := by decide +kernel
theorem dX13_causeNumber_12 : decode cX13_causeNumber 12 = .ok (.ifCond .eq 7, 3) := by decide +kernel
theorem dX13_causeNumber_15 : decode cX13_causeNumber 15 = .ok (.iconst 0, 1) := by decide +kernel
theorem dX13_causeNumber_16 : decode cX13_causeNumber 16 = .ok (.goto 4, 3) := by decide +kernel
theorem dX13_causeNumber_19 : decode cX13_causeNumber 19 = .ok (.iconst 1, 1) := by decide +kernel
theorem dX13_causeNumber_20 : decode cX13_causeNumber 20 = .ok (.invokevirtual 68, 3) := by decide +kernel
theorem dX13_causeNumber_23 : decode cX13_causeNumber 23 = .ok (.ifCond .eq 7, 3) := by decide +kernel
theorem dX13_causeNumber_26 : decode cX13_causeNumber 26 = .ok (.iconst 0, 1) := by decide +kernel
theorem dX13_causeNumber_27 : decode cX13_causeNumber 27 = .ok (.goto 9, 3) := by decide +kernel
theorem dX13_causeNumber_30 : decode cX13_causeNumber 30 = .ok (.aload_n 0, 1) := by decide +kernel
theorem dX13_causeNumber_31 : decode cX13_causeNumber 31 = .ok (.getfield 33, 3) := by decide +kernel
theorem dX13_causeNumber_34 : decode cX13_causeNumber 34 = .ok (.iload_n 1, 1) := by decide +kernel
theorem dX13_causeNumber_35 : decode cX13_causeNumber 35 = .ok (.iaload, 1) := by decide +kernel
theorem dX13_causeNumber_36 : decode cX13_causeNumber 36 = .ok (.ireturn, 1) := by decide +kernel
theorem dX13_skip_0 : decode cX13_skip 0 = .ok (.aload_n 0, 1) := by decide +kernel
theorem dX13_skip_1 : decode cX13_skip 1 = .ok (.iload_n 1, 1) := by decide +kernel
theorem dX13_skip_2 : decode cX13_skip 2 = .ok (.invokestatic 121, 3) := by decide +kernel
theorem dX13_skip_5 : decode cX13_skip 5 = .ok (.ifCond .ne 7, 3) := by decide +kernel
theorem dX13_skip_8 : decode cX13_skip 8 = .ok (.iconst 1, 1) := by decide +kernel
theorem dX13_skip_9 : decode cX13_skip 9 = .ok (.goto 30, 3) := by decide +kernel
theorem dX13_skip_12 : decode cX13_skip 12 = .ok (.iload_n 2, 1) := by decide +kernel
theorem dX13_skip_13 : decode cX13_skip 13 = .ok (.iconst 1, 1) := by decide +kernel
theorem dX13_skip_14 : decode cX13_skip 14 = .ok (.bipush 32, 2) := by decide +kernel
theorem dX13_skip_16 : decode cX13_skip 16 = .ok (.invokestatic 50, 3) := by decide +kernel
theorem dX13_skip_19 : decode cX13_skip 19 = .ok (.ifCond .ne 7, 3) := by decide +kernel
theorem dX13_skip_22 : decode cX13_skip 22 = .ok (.iconst 2, 1) := by decide +kernel
theorem dX13_skip_23 : decode cX13_skip 23 = .ok (.goto 16, 3) := by decide +kernel
theorem dX13_skip_26 : decode cX13_skip 26 = .ok (.aload_n 0, 1) := by decide +kernel
theorem dX13_skip_27 : decode cX13_skip 27 = .ok (.iload_n 1, 1) := by decide +kernel
theorem dX13_skip_28 : decode cX13_skip 28 = .ok (.invokevirtual 133, 3) := by decide +kernel
theorem dX13_skip_31 : decode cX13_skip 31 = .ok (.ifCond .eq 7, 3) := by decide +kernel
theorem dX13_skip_34 : decode cX13_skip 34 = .ok (.iconst 3, 1) := by decide +kernel
theorem dX13_skip_35 : decode cX13_skip 35 = .ok (.goto 4, 3) := by decide +kernel
theorem dX13_skip_38 : decode cX13_skip 38 = .ok (.iconst 0, 1) := by decide +kernel
theorem dX13_skip_39 : decode cX13_skip 39 = .ok (.invokevirtual 68, 3) := by decide +kernel
theorem dX13_skip_42 : decode cX13_skip 42 = .ok (.ifCond .eq 5, 3) := by decide +kernel
theorem dX13_skip_45 : decode cX13_skip 45 = .ok (.lconst 0, 1) := by decide +kernel
theorem dX13_skip_46 : decode cX13_skip 46 = .ok (.lreturn, 1) := by decide +kernel
theorem dX13_skip_47 : decode cX13_skip 47 = .ok (.aload_n 0, 1) := by decide +kernel
theorem dX13_skip_48 : decode cX13_skip 48 = .ok (.getfield 19, 3) := by decide +kernel
theorem dX13_skip_51 : decode cX13_skip 51 = .ok (.iload_n 1, 1) := by decide +kernel
theorem dX13_skip_52 : decode cX13_skip 52 = .ok (.aaload, 1) := by decide +kernel
theorem dX13_skip_53 : decode cX13_skip 53 = .ok (.lconst 0, 1) := by decide +kernel
theorem dX13_skip_54 : decode cX13_skip 54 = .ok (.aload_n 0, 1) := by decide +kernel
theorem dX13_skip_55 : decode cX13_skip 55 = .ok (.getfield 19, 3) := by decide +kernel
theorem dX13_skip_58 : decode cX13_skip 58 = .ok (.iload_n 1, 1) := by decide +kernel
theorem dX13_skip_59 : decode cX13_skip 59 = .ok (.aaload, 1) := by decide +kernel
theorem dX13_skip_60 : decode cX13_skip 60 = .ok (.getfield 163, 3) := by decide +kernel
theorem dX13_skip_63 : decode cX13_skip 63 = .ok (.iload_n 2, 1) := by decide +kernel
theorem dX13_skip_64 : decode cX13_skip 64 = .ok (.i2l, 1) := by decide +kernel
theorem dX13_skip_65 : decode cX13_skip 65 = .ok (.ldc2_w 161, 3) := by decide +kernel
theorem dX13_skip_68 : decode cX13_skip 68 = .ok (.lmul, 1) := by decide +kernel
theorem dX13_skip_69 : decode cX13_skip 69 = .ok (.lsub, 1) := by decide +kernel
theorem dX13_skip_70 : decode cX13_skip 70 = .ok (.invokestatic 332, 3) := by decide +kernel
theorem dX13_skip_73 : decode cX13_skip 73 = .ok (.putfield 163, 3) := by decide +kernel
theorem dX13_skip_76 : decode cX13_skip 76 = .ok (.aload_n 0, 1) := by decide +kernel
theorem dX13_skip_77 : decode cX13_skip 77 = .ok (.invokevirtual 81, 3) := by decide +kernel
theorem dX13_skip_80 : decode cX13_skip 80 = .ok (.aload_n 0, 1) := by decide +kernel
theorem dX13_skip_81 : decode cX13_skip 81 = .ok (.getfield 19, 3) := by decide +kernel
theorem dX13_skip_84 : decode cX13_skip 84 = .ok (.iload_n 1, 1) := by decide +kernel
theorem dX13_skip_85 : decode cX13_skip 85 = .ok (.aaload, 1) := by decide +kernel
theorem dX13_skip_86 : decode cX13_skip 86 = .ok (.getfield 163, 3) := by decide +kernel
theorem dX13_skip_89 : decode cX13_skip 89 = .ok (.lreturn, 1) := by decide +kernel
theorem dX13_loseStick_0 : decode cX13_loseStick 0 = .ok (.aload_n 0, 1) := by decide +kernel
theorem dX13_loseStick_1 : decode cX13_loseStick 1 = .ok (.iload_n 1, 1) := by decide +kernel
theorem dX13_loseStick_2 : decode cX13_loseStick 2 = .ok (.invokevirtual 136, 3) := by decide +kernel
theorem dX13_loseStick_5 : decode cX13_loseStick 5 = .ok (.ifCond .eq 5, 3) := by decide +kernel
theorem dX13_loseStick_8 : decode cX13_loseStick 8 = .ok (.iconst 0, 1) := by decide +kernel
theorem dX13_loseStick_9 : decode cX13_loseStick 9 = .ok (.ireturn, 1) := by decide +kernel
theorem dX13_loseStick_10 : decode cX13_loseStick 10 = .ok (.aload_n 0, 1) := by decide +kernel
theorem dX13_loseStick_11 : decode cX13_loseStick 11 = .ok (.getfield 19, 3) := by decide +kernel
theorem dX13_loseStick_14 : decode cX13_loseStick 14 = .ok (.iload_n 1, 1) := by decide +kernel
theorem dX13_loseStick_15 : decode cX13_loseStick 15 = .ok (.aaload, 1) := by decide +kernel
theorem dX13_loseStick_16 : decode cX13_loseStick 16 = .ok (.invokevirtual 411, 3) := by decide +kernel
theorem dX13_loseStick_19 : decode cX13_loseStick 19 = .ok (.aload_n 0, 1) := by decide +kernel
theorem dX13_loseStick_20 : decode cX13_loseStick 20 = .ok (.invokevirtual 81, 3) := by decide +kernel
theorem dX13_loseStick_23 : decode cX13_loseStick 23 = .ok (.iconst 0, 1) := by decide +kernel
theorem dX13_loseStick_24 : decode cX13_loseStick 24 = .ok (.istore_n 2, 1) := by decide +kernel
theorem dX13_loseStick_25 : decode cX13_loseStick 25 = .ok (.aload_n 0, 1) := by decide +kernel
theorem dX13_loseStick_26 : decode cX13_loseStick 26 = .ok (.getfield 19, 3) := by decide +kernel
theorem dX13_loseStick_29 : decode cX13_loseStick 29 = .ok (.astore_n 3, 1) := by decide +kernel
theorem dX13_loseStick_30 : decode cX13_loseStick 30 = .ok (.aload_n 3, 1) := by decide +kernel
theorem dX13_loseStick_31 : decode cX13_loseStick 31 = .ok (.arraylength, 1) := by decide +kernel
theorem dX13_loseStick_32 : decode cX13_loseStick 32 = .ok (.istore 4, 2) := by decide +kernel
theorem dX13_loseStick_34 : decode cX13_loseStick 34 = .ok (.iconst 0, 1) := by decide +kernel
theorem dX13_loseStick_35 : decode cX13_loseStick 35 = .ok (.istore 5, 2) := by decide +kernel
theorem dX13_loseStick_37 : decode cX13_loseStick 37 = .ok (.iload 5, 2) := by decide +kernel
theorem dX13_loseStick_39 : decode cX13_loseStick 39 = .ok (.iload 4, 2) := by decide +kernel
theorem dX13_loseStick_41 : decode cX13_loseStick 41 = .ok (.if_icmp .ge 24, 3) := by decide +kernel
theorem dX13_loseStick_44 : decode cX13_loseStick 44 = .ok (.aload_n 3, 1) := by decide +kernel
theorem dX13_loseStick_45 : decode cX13_loseStick 45 = .ok (.iload 5, 2) := by decide +kernel
theorem dX13_loseStick_47 : decode cX13_loseStick 47 = .ok (.aaload, 1) := by decide +kernel
theorem dX13_loseStick_48 : decode cX13_loseStick 48 = .ok (.astore 6, 2) := by decide +kernel
theorem dX13_loseStick_50 : decode cX13_loseStick 50 = .ok (.iload_n 2, 1) := by decide +kernel
theorem dX13_loseStick_51 : decode cX13_loseStick 51 = .ok (.aload_n 0, 1) := by decide +kernel
theorem dX13_loseStick_52 : decode cX13_loseStick 52 = .ok (.aload 6, 2) := by decide +kernel
theorem dX13_loseStick_54 : decode cX13_loseStick 54 = .ok (.invokevirtual 256, 3) := by decide +kernel
theorem dX13_loseStick_57 : decode cX13_loseStick 57 = .ok (.ior, 1) := by decide +kernel
theorem dX13_loseStick_58 : decode cX13_loseStick 58 = .ok (.istore_n 2, 1) := by decide +kernel
theorem dX13_loseStick_59 : decode cX13_loseStick 59 = .ok (.iinc 5 1, 3) := by decide +kernel
theorem dX13_loseStick_62 : decode cX13_loseStick 62 = .ok (.goto (-25), 3) := by decide +kernel
theorem dX13_loseStick_65 : decode cX13_loseStick 65 = .ok (.iconst 0, 1) := by decide +kernel
theorem dX13_loseStick_66 : decode cX13_loseStick 66 = .ok (.istore_n 3, 1) := by decide +kernel
theorem dX13_loseStick_67 : decode cX13_loseStick 67 = .ok (.iload_n 3, 1) := by decide +kernel
theorem dX13_loseStick_68 : decode cX13_loseStick 68 = .ok (.iconst 4, 1) := by decide +kernel
theorem dX13_loseStick_69 : decode cX13_loseStick 69 = .ok (.if_icmp .ge 80, 3) := by decide +kernel
theorem dX13_loseStick_72 : decode cX13_loseStick 72 = .ok (.iload_n 2, 1) := by decide +kernel
theorem dX13_loseStick_73 : decode cX13_loseStick 73 = .ok (.ifCond .ne 76, 3) := by decide +kernel
theorem dX13_loseStick_76 : decode cX13_loseStick 76 = .ok (.aload_n 0, 1) := by decide +kernel
theorem dX13_loseStick_77 : decode cX13_loseStick 77 = .ok (.getfield 19, 3) := by decide +kernel
theorem dX13_loseStick_80 : decode cX13_loseStick 80 = .ok (.iload_n 3, 1) := by decide +kernel
theorem dX13_loseStick_81 : decode cX13_loseStick 81 = .ok (.aaload, 1) := by decide +kernel
theorem dX13_loseStick_82 : decode cX13_loseStick 82 = .ok (.astore 4, 2) := by decide +kernel
theorem dX13_loseStick_84 : decode cX13_loseStick 84 = .ok (.iload_n 3, 1) := by decide +kernel
theorem dX13_loseStick_85 : decode cX13_loseStick 85 = .ok (.iload_n 1, 1) := by decide +kernel
theorem dX13_loseStick_86 : decode cX13_loseStick 86 = .ok (.if_icmp .eq 57, 3) := by decide +kernel
theorem dX13_loseStick_89 : decode cX13_loseStick 89 = .ok (.aload 4, 2) := by decide +kernel
theorem dX13_loseStick_91 : decode cX13_loseStick 91 = .ok (.getfield 60, 3) := by decide +kernel
theorem dX13_loseStick_94 : decode cX13_loseStick 94 = .ok (.ifnull 49, 3) := by decide +kernel
theorem dX13_loseStick_97 : decode cX13_loseStick 97 = .ok (.aload 4, 2) := by decide +kernel
theorem dX13_loseStick_99 : decode cX13_loseStick 99 = .ok (.getfield 199, 3) := by decide +kernel
theorem dX13_loseStick_102 : decode cX13_loseStick 102 = .ok (.bipush 30, 2) := by decide +kernel
theorem dX13_loseStick_104 : decode cX13_loseStick 104 = .ok (.if_icmp .lt 39, 3) := by decide +kernel
theorem dX13_loseStick_107 : decode cX13_loseStick 107 = .ok (.aload 4, 2) := by decide +kernel
theorem dX13_loseStick_109 : decode cX13_loseStick 109 = .ok (.getfield 124, 3) := by decide +kernel
theorem dX13_loseStick_112 : decode cX13_loseStick 112 = .ok (.ifCond .ne 31, 3) := by decide +kernel
theorem dX13_loseStick_115 : decode cX13_loseStick 115 = .ok (.aload 4, 2) := by decide +kernel
theorem dX13_loseStick_117 : decode cX13_loseStick 117 = .ok (.getfield 163, 3) := by decide +kernel
theorem dX13_loseStick_120 : decode cX13_loseStick 120 = .ok (.aload 4, 2) := by decide +kernel
theorem dX13_loseStick_122 : decode cX13_loseStick 122 = .ok (.getfield 60, 3) := by decide +kernel
theorem dX13_loseStick_125 : decode cX13_loseStick 125 = .ok (.invokevirtual 326, 3) := by decide +kernel
theorem dX13_loseStick_128 : decode cX13_loseStick 128 = .ok (.lcmp, 1) := by decide +kernel
theorem dX13_loseStick_129 : decode cX13_loseStick 129 = .ok (.ifCond .lt 6, 3) := by decide +kernel
theorem dX13_loseStick_132 : decode cX13_loseStick 132 = .ok (.goto 11, 3) := by decide +kernel
theorem dX13_loseStick_135 : decode cX13_loseStick 135 = .ok (.aload 4, 2) := by decide +kernel
theorem dX13_loseStick_137 : decode cX13_loseStick 137 = .ok (.invokevirtual 139, 3) := by decide +kernel
theorem dX13_loseStick_140 : decode cX13_loseStick 140 = .ok (.pop, 1) := by decide +kernel
theorem dX13_loseStick_141 : decode cX13_loseStick 141 = .ok (.iload_n 3, 1) := by decide +kernel
theorem dX13_loseStick_142 : decode cX13_loseStick 142 = .ok (.ireturn, 1) := by decide +kernel
theorem dX13_loseStick_143 : decode cX13_loseStick 143 = .ok (.iinc 3 1, 3) := by decide +kernel
theorem dX13_loseStick_146 : decode cX13_loseStick 146 = .ok (.goto (-79), 3) := by decide +kernel
theorem dX13_loseStick_149 : decode cX13_loseStick 149 = .ok (.iconst (-1), 1) := by decide +kernel
theorem dX13_loseStick_150 : decode cX13_loseStick 150 = .ok (.ireturn, 1) := by decide +kernel
theorem dX13_logged_0 : decode cX13_logged 0 = .ok (.aload_n 0, 1) := by decide +kernel
theorem dX13_logged_1 : decode cX13_logged 1 = .ok (.aload_n 0, 1) := by decide +kernel
theorem dX13_logged_2 : decode cX13_logged 2 = .ok (.getfield 64, 3) := by decide +kernel
theorem dX13_logged_5 : decode cX13_logged 5 = .ok (.invokevirtual 310, 3) := by decide +kernel
theorem dX13_logged_8 : decode cX13_logged 8 = .ok (.ireturn, 1) := by decide +kernel
theorem dX13_print_0 : decode cX13_print 0 = .ok (.aload_n 0, 1) := by decide +kernel
theorem dX13_print_1 : decode cX13_print 1 = .ok (.iconst 0, 1) := by decide +kernel
theorem dX13_print_2 : decode cX13_print 2 = .ok (.putfield 46, 3) := by decide +kernel
theorem dX13_print_5 : decode cX13_print 5 = .ok (.ldc2_w 414, 3) := by decide +kernel
theorem dX13_print_8 : decode cX13_print 8 = .ok (.lstore_n 1, 1) := by decide +kernel
theorem dX13_print_9 : decode cX13_print 9 = .ok (.aload_n 0, 1) := by decide +kernel
theorem dX13_print_10 : decode cX13_print 10 = .ok (.getfield 19, 3) := by decide +kernel
theorem dX13_print_13 : decode cX13_print 13 = .ok (.astore_n 3, 1) := by decide +kernel
theorem dX13_print_14 : decode cX13_print 14 = .ok (.aload_n 3, 1) := by decide +kernel
theorem dX13_print_15 : decode cX13_print 15 = .ok (.arraylength, 1) := by decide +kernel
theorem dX13_print_16 : decode cX13_print 16 = .ok (.istore 4, 2) := by decide +kernel
theorem dX13_print_18 : decode cX13_print 18 = .ok (.iconst 0, 1) := by decide +kernel
theorem dX13_print_19 : decode cX13_print 19 = .ok (.istore 5, 2) := by decide +kernel
theorem dX13_print_21 : decode cX13_print 21 = .ok (.iload 5, 2) := by decide +kernel
theorem dX13_print_23 : decode cX13_print 23 = .ok (.iload 4, 2) := by decide +kernel
theorem dX13_print_25 : decode cX13_print 25 = .ok (.if_icmp .ge 39, 3) := by decide +kernel
theorem dX13_print_28 : decode cX13_print 28 = .ok (.aload_n 3, 1) := by decide +kernel
theorem dX13_print_29 : decode cX13_print 29 = .ok (.iload 5, 2) := by decide +kernel
theorem dX13_print_31 : decode cX13_print 31 = .ok (.aaload, 1) := by decide +kernel
theorem dX13_print_32 : decode cX13_print 32 = .ok (.astore 6, 2) := by decide +kernel
theorem dX13_print_34 : decode cX13_print 34 = .ok (.ldc2_w 416, 3) := by decide +kernel
theorem dX13_print_37 : decode cX13_print 37 = .ok (.lload_n 1, 1) := by decide +kernel
theorem dX13_print_38 : decode cX13_print 38 = .ok (.lmul, 1) := by decide +kernel
theorem dX13_print_39 : decode cX13_print 39 = .ok (.aload 6, 2) := by decide +kernel
theorem dX13_print_41 : decode cX13_print 41 = .ok (.getfield 60, 3) := by decide +kernel
theorem dX13_print_44 : decode cX13_print 44 = .ok (.ifnonnull 7, 3) := by decide +kernel
theorem dX13_print_47 : decode cX13_print 47 = .ok (.lconst 0, 1) := by decide +kernel
theorem dX13_print_48 : decode cX13_print 48 = .ok (.goto 8, 3) := by decide +kernel
theorem dX13_print_51 : decode cX13_print 51 = .ok (.aload 6, 2) := by decide +kernel
theorem dX13_print_53 : decode cX13_print 53 = .ok (.getfield 163, 3) := by decide +kernel
theorem dX13_print_56 : decode cX13_print 56 = .ok (.ladd, 1) := by decide +kernel
theorem dX13_print_57 : decode cX13_print 57 = .ok (.lstore_n 1, 1) := by decide +kernel
theorem dX13_print_58 : decode cX13_print 58 = .ok (.iinc 5 1, 3) := by decide +kernel
theorem dX13_print_61 : decode cX13_print 61 = .ok (.goto (-40), 3) := by decide +kernel
theorem dX13_print_64 : decode cX13_print 64 = .ok (.iconst 0, 1) := by decide +kernel
theorem dX13_print_65 : decode cX13_print 65 = .ok (.istore_n 3, 1) := by decide +kernel
theorem dX13_print_66 : decode cX13_print 66 = .ok (.aload_n 0, 1) := by decide +kernel
theorem dX13_print_67 : decode cX13_print 67 = .ok (.getfield 23, 3) := by decide +kernel
theorem dX13_print_70 : decode cX13_print 70 = .ok (.astore 4, 2) := by decide +kernel
theorem dX13_print_72 : decode cX13_print 72 = .ok (.aload 4, 2) := by decide +kernel
theorem dX13_print_74 : decode cX13_print 74 = .ok (.arraylength, 1) := by decide +kernel
theorem dX13_print_75 : decode cX13_print 75 = .ok (.istore 5, 2) := by decide +kernel
theorem dX13_print_77 : decode cX13_print 77 = .ok (.iconst 0, 1) := by decide +kernel
theorem dX13_print_78 : decode cX13_print 78 = .ok (.istore 6, 2) := by decide +kernel
theorem dX13_print_80 : decode cX13_print 80 = .ok (.iload 6, 2) := by decide +kernel
theorem dX13_print_82 : decode cX13_print 82 = .ok (.iload 5, 2) := by decide +kernel
theorem dX13_print_84 : decode cX13_print 84 = .ok (.if_icmp .ge 21, 3) := by decide +kernel
theorem dX13_print_87 : decode cX13_print 87 = .ok (.aload 4, 2) := by decide +kernel
theorem dX13_print_89 : decode cX13_print 89 = .ok (.iload 6, 2) := by decide +kernel
theorem dX13_print_91 : decode cX13_print 91 = .ok (.iaload, 1) := by decide +kernel
theorem dX13_print_92 : decode cX13_print 92 = .ok (.istore 7, 2) := by decide +kernel
theorem dX13_print_94 : decode cX13_print 94 = .ok (.iload_n 3, 1) := by decide +kernel
theorem dX13_print_95 : decode cX13_print 95 = .ok (.iload 7, 2) := by decide +kernel
theorem dX13_print_97 : decode cX13_print 97 = .ok (.iadd, 1) := by decide +kernel
theorem dX13_print_98 : decode cX13_print 98 = .ok (.istore_n 3, 1) := by decide +kernel
theorem dX13_print_99 : decode cX13_print 99 = .ok (.iinc 6 1, 3) := by decide +kernel
theorem dX13_print_102 : decode cX13_print 102 = .ok (.goto (-22), 3) := by decide +kernel
theorem dX13_print_105 : decode cX13_print 105 = .ok (.bipush 6, 2) := by decide +kernel
theorem dX13_print_107 : decode cX13_print 107 = .ok (.newarray .int, 2) := by decide +kernel
theorem dX13_print_109 : decode cX13_print 109 = .ok (.dup, 1) := by decide +kernel
theorem dX13_print_110 : decode cX13_print 110 = .ok (.iconst 0, 1) := by decide +kernel
theorem dX13_print_111 : decode cX13_print 111 = .ok (.aload_n 0, 1) := by decide +kernel
theorem dX13_print_112 : decode cX13_print 112 = .ok (.getfield 295, 3) := by decide +kernel
theorem dX13_print_115 : decode cX13_print 115 = .ok (.iastore, 1) := by decide +kernel
theorem dX13_print_116 : decode cX13_print 116 = .ok (.dup, 1) := by decide +kernel
theorem dX13_print_117 : decode cX13_print 117 = .ok (.iconst 1, 1) := by decide +kernel
theorem dX13_print_118 : decode cX13_print 118 = .ok (.aload_n 0, 1) := by decide +kernel
theorem dX13_print_119 : decode cX13_print 119 = .ok (.getfield 280, 3) := by decide +kernel
theorem dX13_print_122 : decode cX13_print 122 = .ok (.iastore, 1) := by decide +kernel
theorem dX13_print_123 : decode cX13_print 123 = .ok (.dup, 1) := by decide +kernel
theorem dX13_print_124 : decode cX13_print 124 = .ok (.iconst 2, 1) := by decide +kernel
theorem dX13_print_125 : decode cX13_print 125 = .ok (.aload_n 0, 1) := by decide +kernel
theorem dX13_print_126 : decode cX13_print 126 = .ok (.getfield 283, 3) := by decide +kernel
theorem dX13_print_129 : decode cX13_print 129 = .ok (.iastore, 1) := by decide +kernel
theorem dX13_print_130 : decode cX13_print 130 = .ok (.dup, 1) := by decide +kernel
theorem dX13_print_131 : decode cX13_print 131 = .ok (.iconst 3, 1) := by decide +kernel
theorem dX13_print_132 : decode cX13_print 132 = .ok (.aload_n 0, 1) := by decide +kernel
theorem dX13_print_133 : decode cX13_print 133 = .ok (.getfield 286, 3) := by decide +kernel
theorem dX13_print_136 : decode cX13_print 136 = .ok (.iastore, 1) := by decide +kernel
theorem dX13_print_137 : decode cX13_print 137 = .ok (.dup, 1) := by decide +kernel
theorem dX13_print_138 : decode cX13_print 138 = .ok (.iconst 4, 1) := by decide +kernel
theorem dX13_print_139 : decode cX13_print 139 = .ok (.iload_n 3, 1) := by decide +kernel
theorem dX13_print_140 : decode cX13_print 140 = .ok (.iastore, 1) := by decide +kernel
theorem dX13_print_141 : decode cX13_print 141 = .ok (.dup, 1) := by decide +kernel
theorem dX13_print_142 : decode cX13_print 142 = .ok (.iconst 5, 1) := by decide +kernel
theorem dX13_print_143 : decode cX13_print 143 = .ok (.aload_n 0, 1) := by decide +kernel
theorem dX13_print_144 : decode cX13_print 144 = .ok (.getfield 301, 3) := by decide +kernel
theorem dX13_print_147 : decode cX13_print 147 = .ok (.iastore, 1) := by decide +kernel
theorem dX13_print_148 : decode cX13_print 148 = .ok (.astore 4, 2) := by decide +kernel
theorem dX13_print_150 : decode cX13_print 150 = .ok (.aload 4, 2) := by decide +kernel
theorem dX13_print_152 : decode cX13_print 152 = .ok (.astore 5, 2) := by decide +kernel
theorem dX13_print_154 : decode cX13_print 154 = .ok (.aload 5, 2) := by decide +kernel
theorem dX13_print_156 : decode cX13_print 156 = .ok (.arraylength, 1) := by decide +kernel
theorem dX13_print_157 : decode cX13_print 157 = .ok (.istore 6, 2) := by decide +kernel
theorem dX13_print_159 : decode cX13_print 159 = .ok (.iconst 0, 1) := by decide +kernel
theorem dX13_print_160 : decode cX13_print 160 = .ok (.istore 7, 2) := by decide +kernel
theorem dX13_print_162 : decode cX13_print 162 = .ok (.iload 7, 2) := by decide +kernel
theorem dX13_print_164 : decode cX13_print 164 = .ok (.iload 6, 2) := by decide +kernel
theorem dX13_print_166 : decode cX13_print 166 = .ok (.if_icmp .ge 26, 3) := by decide +kernel
theorem dX13_print_169 : decode cX13_print 169 = .ok (.aload 5, 2) := by decide +kernel
theorem dX13_print_171 : decode cX13_print 171 = .ok (.iload 7, 2) := by decide +kernel
theorem dX13_print_173 : decode cX13_print 173 = .ok (.iaload, 1) := by decide +kernel
theorem dX13_print_174 : decode cX13_print 174 = .ok (.istore 8, 2) := by decide +kernel
theorem dX13_print_176 : decode cX13_print 176 = .ok (.ldc2_w 416, 3) := by decide +kernel
theorem dX13_print_179 : decode cX13_print 179 = .ok (.lload_n 1, 1) := by decide +kernel
theorem dX13_print_180 : decode cX13_print 180 = .ok (.lmul, 1) := by decide +kernel
theorem dX13_print_181 : decode cX13_print 181 = .ok (.iload 8, 2) := by decide +kernel
theorem dX13_print_183 : decode cX13_print 183 = .ok (.i2l, 1) := by decide +kernel
theorem dX13_print_184 : decode cX13_print 184 = .ok (.ladd, 1) := by decide +kernel
theorem dX13_print_185 : decode cX13_print 185 = .ok (.lstore_n 1, 1) := by decide +kernel
theorem dX13_print_186 : decode cX13_print 186 = .ok (.iinc 7 1, 3) := by decide +kernel
theorem dX13_print_189 : decode cX13_print 189 = .ok (.goto (-27), 3) := by decide +kernel
theorem dX13_print_192 : decode cX13_print 192 = .ok (.lload_n 1, 1) := by decide +kernel
theorem dX13_print_193 : decode cX13_print 193 = .ok (.lreturn, 1) := by decide +kernel
theorem dX13_printAgain_0 : decode cX13_printAgain 0 = .ok (.aload_n 0, 1) := by decide +kernel
theorem dX13_printAgain_1 : decode cX13_printAgain 1 = .ok (.invokevirtual 418, 3) := by decide +kernel
theorem dX13_printAgain_4 : decode cX13_printAgain 4 = .ok (.lreturn, 1) := by decide +kernel
theorem dX13_silentShare_0 : decode cX13_silentShare 0 = .ok (.aload_n 0, 1) := by decide +kernel
theorem dX13_silentShare_1 : decode cX13_silentShare 1 = .ok (.aload_n 0, 1) := by decide +kernel
theorem dX13_silentShare_2 : decode cX13_silentShare 2 = .ok (.getfield 295, 3) := by decide +kernel
theorem dX13_silentShare_5 : decode cX13_silentShare 5 = .ok (.ifCond .ne 7, 3) := by decide +kernel
theorem dX13_silentShare_8 : decode cX13_silentShare 8 = .ok (.iconst 1, 1) := by decide +kernel
theorem dX13_silentShare_9 : decode cX13_silentShare 9 = .ok (.goto 4, 3) := by decide +kernel
theorem dX13_silentShare_12 : decode cX13_silentShare 12 = .ok (.iconst 0, 1) := by decide +kernel
theorem dX13_silentShare_13 : decode cX13_silentShare 13 = .ok (.invokevirtual 68, 3) := by decide +kernel
theorem dX13_silentShare_16 : decode cX13_silentShare 16 = .ok (.ifCond .eq 7, 3) := by decide +kernel
theorem dX13_silentShare_19 : decode cX13_silentShare 19 = .ok (.fconst 0, 1) := by decide +kernel
theorem dX13_silentShare_20 : decode cX13_silentShare 20 = .ok (.goto 14, 3) := by decide +kernel
theorem dX13_silentShare_23 : decode cX13_silentShare 23 = .ok (.aload_n 0, 1) := by decide +kernel
theorem dX13_silentShare_24 : decode cX13_silentShare 24 = .ok (.getfield 280, 3) := by decide +kernel
theorem dX13_silentShare_27 : decode cX13_silentShare 27 = .ok (.i2f, 1) := by decide +kernel
theorem dX13_silentShare_28 : decode cX13_silentShare 28 = .ok (.aload_n 0, 1) := by decide +kernel
theorem dX13_silentShare_29 : decode cX13_silentShare 29 = .ok (.getfield 295, 3) := by decide +kernel
theorem dX13_silentShare_32 : decode cX13_silentShare 32 = .ok (.i2f, 1) := by decide +kernel
theorem dX13_silentShare_33 : decode cX13_silentShare 33 = .ok (.fdiv, 1) := by decide +kernel
theorem dX13_silentShare_34 : decode cX13_silentShare 34 = .ok (.freturn, 1) := by decide +kernel
theorem dX13_meanLoudness_0 : decode cX13_meanLoudness 0 = .ok (.aload_n 0, 1) := by decide +kernel
theorem dX13_meanLoudness_1 : decode cX13_meanLoudness 1 = .ok (.aload_n 0, 1) := by decide +kernel
theorem dX13_meanLoudness_2 : decode cX13_meanLoudness 2 = .ok (.getfield 295, 3) := by decide +kernel
theorem dX13_meanLoudness_5 : decode cX13_meanLoudness 5 = .ok (.ifCond .ne 7, 3) := by decide +kernel
theorem dX13_meanLoudness_8 : decode cX13_meanLoudness 8 = .ok (.iconst 1, 1) := by decide +kernel
theorem dX13_meanLoudness_9 : decode cX13_meanLoudness 9 = .ok (.goto 4, 3) := by decide +kernel
theorem dX13_meanLoudness_12 : decode cX13_meanLoudness 12 = .ok (.iconst 0, 1) := by decide +kernel
theorem dX13_meanLoudness_13 : decode cX13_meanLoudness 13 = .ok (.invokevirtual 68, 3) := by decide +kernel
theorem dX13_meanLoudness_16 : decode cX13_meanLoudness 16 = .ok (.ifCond .eq 7, 3) := by decide +kernel
theorem dX13_meanLoudness_19 : decode cX13_meanLoudness 19 = .ok (.dconst 0, 1) := by decide +kernel
theorem dX13_meanLoudness_20 : decode cX13_meanLoudness 20 = .ok (.goto 14, 3) := by decide +kernel
theorem dX13_meanLoudness_23 : decode cX13_meanLoudness 23 = .ok (.aload_n 0, 1) := by decide +kernel
theorem dX13_meanLoudness_24 : decode cX13_meanLoudness 24 = .ok (.getfield 289, 3) := by decide +kernel
theorem dX13_meanLoudness_27 : decode cX13_meanLoudness 27 = .ok (.l2d, 1) := by decide +kernel
theorem dX13_meanLoudness_28 : decode cX13_meanLoudness 28 = .ok (.aload_n 0, 1) := by decide +kernel
theorem dX13_meanLoudness_29 : decode cX13_meanLoudness 29 = .ok (.getfield 295, 3) := by decide +kernel
theorem dX13_meanLoudness_32 : decode cX13_meanLoudness 32 = .ok (.i2d, 1) := by decide +kernel
theorem dX13_meanLoudness_33 : decode cX13_meanLoudness 33 = .ok (.ddiv, 1) := by decide +kernel
theorem dX13_meanLoudness_34 : decode cX13_meanLoudness 34 = .ok (.dreturn, 1) := by decide +kernel
theorem dX13_isSound_0 : decode cX13_isSound 0 = .ok (.aload_n 0, 1) := by decide +kernel
theorem dX13_isSound_1 : decode cX13_isSound 1 = .ok (.iconst 0, 1) := by decide +kernel
theorem dX13_isSound_2 : decode cX13_isSound 2 = .ok (.putfield 46, 3) := by decide +kernel
theorem dX13_isSound_5 : decode cX13_isSound 5 = .ok (.iconst 1, 1) := by decide +kernel
theorem dX13_isSound_6 : decode cX13_isSound 6 = .ok (.ireturn, 1) := by decide +kernel
