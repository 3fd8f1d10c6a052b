theorem dX0_init_0 : decode cX0_init 0 = .ok (.aload_n 0, 1) := by decide +kernel
theorem dX0_init_1 : decode cX0_init 1 = .ok (.invokespecial 3, 3) := by decide +kernel
theorem dX0_init_4 : decode cX0_init 4 = .ok (.aload_n 0, 1) := by decide +kernel
theorem dX0_init_5 : decode cX0_init 5 = .ok (.iconst 3, 1) := by decide +kernel
theorem dX0_init_6 : decode cX0_init 6 = .ok (.newarray .int, 2) := by decide +kernel
theorem dX0_init_8 : decode cX0_init 8 = .ok (.putfield 9, 3) := by decide +kernel
theorem dX0_init_11 : decode cX0_init 11 = .ok (.iconst 0, 1) := by decide +kernel
theorem dX0_init_12 : decode cX0_init 12 = .ok (.istore_n 1, 1) := by decide +kernel
theorem dX0_init_13 : decode cX0_init 13 = .ok (.iload_n 1, 1) := by decide +kernel
theorem dX0_init_14 : decode cX0_init 14 = .ok (.aload_n 0, 1) := by decide +kernel
theorem dX0_init_15 : decode cX0_init 15 = .ok (.getfield 9, 3) := by decide +kernel
theorem dX0_init_18 : decode cX0_init 18 = .ok (.arraylength, 1) := by decide +kernel
theorem dX0_init_19 : decode cX0_init 19 = .ok (.if_icmp .ge 17, 3) := by decide +kernel
theorem dX0_init_22 : decode cX0_init 22 = .ok (.aload_n 0, 1) := by decide +kernel
theorem dX0_init_23 : decode cX0_init 23 = .ok (.getfield 9, 3) := by decide +kernel
theorem dX0_init_26 : decode cX0_init 26 = .ok (.iload_n 1, 1) := by decide +kernel
theorem dX0_init_27 : decode cX0_init 27 = .ok (.bipush 100, 2) := by decide +kernel
theorem dX0_init_29 : decode cX0_init 29 = .ok (.iastore, 1) := by decide +kernel
theorem dX0_init_30 : decode cX0_init 30 = .ok (.iinc 1 1, 3) := by decide +kernel
theorem dX0_init_33 : decode cX0_init 33 = .ok (.goto (-20), 3) := by decide +kernel
theorem dX0_init_36 : decode cX0_init 36 = .ok (.aload_n 0, 1) := by decide +kernel
theorem dX0_init_37 : decode cX0_init 37 = .ok (.iconst 3, 1) := by decide +kernel
theorem dX0_init_38 : decode cX0_init 38 = .ok (.anewarray 15, 3) := by decide +kernel
theorem dX0_init_41 : decode cX0_init 41 = .ok (.putfield 17, 3) := by decide +kernel
theorem dX0_init_44 : decode cX0_init 44 = .ok (.iconst 0, 1) := by decide +kernel
theorem dX0_init_45 : decode cX0_init 45 = .ok (.istore_n 1, 1) := by decide +kernel
theorem dX0_init_46 : decode cX0_init 46 = .ok (.iload_n 1, 1) := by decide +kernel
theorem dX0_init_47 : decode cX0_init 47 = .ok (.aload_n 0, 1) := by decide +kernel
theorem dX0_init_48 : decode cX0_init 48 = .ok (.getfield 17, 3) := by decide +kernel
theorem dX0_init_51 : decode cX0_init 51 = .ok (.arraylength, 1) := by decide +kernel
theorem dX0_init_52 : decode cX0_init 52 = .ok (.if_icmp .ge 22, 3) := by decide +kernel
theorem dX0_init_55 : decode cX0_init 55 = .ok (.aload_n 0, 1) := by decide +kernel
theorem dX0_init_56 : decode cX0_init 56 = .ok (.getfield 17, 3) := by decide +kernel
theorem dX0_init_59 : decode cX0_init 59 = .ok (.iload_n 1, 1) := by decide +kernel
theorem dX0_init_60 : decode cX0_init 60 = .ok (.new 15, 3) := by decide +kernel
theorem dX0_init_63 : decode cX0_init 63 = .ok (.dup, 1) := by decide +kernel
theorem dX0_init_64 : decode cX0_init 64 = .ok (.invokespecial 21, 3) := by decide +kernel
theorem dX0_init_67 : decode cX0_init 67 = .ok (.aastore, 1) := by decide +kernel
theorem dX0_init_68 : decode cX0_init 68 = .ok (.iinc 1 1, 3) := by decide +kernel
theorem dX0_init_71 : decode cX0_init 71 = .ok (.goto (-25), 3) := by decide +kernel
theorem dX0_init_74 : decode cX0_init 74 = .ok (.aload_n 0, 1) := by decide +kernel
theorem dX0_init_75 : decode cX0_init 75 = .ok (.bipush 109, 2) := by decide +kernel
theorem dX0_init_77 : decode cX0_init 77 = .ok (.putfield 22, 3) := by decide +kernel
theorem dX0_init_80 : decode cX0_init 80 = .ok (.return_, 1) := by decide +kernel
theorem dX0_slide_0 : decode cX0_slide 0 = .ok (.aload_n 0, 1) := by decide +kernel
theorem dX0_slide_1 : decode cX0_slide 1 = .ok (.getfield 26, 3) := by decide +kernel
theorem dX0_slide_4 : decode cX0_slide 4 = .ok (.istore_n 2, 1) := by decide +kernel
theorem dX0_slide_5 : decode cX0_slide 5 = .ok (.aload_n 0, 1) := by decide +kernel
theorem dX0_slide_6 : decode cX0_slide 6 = .ok (.iload_n 1, 1) := by decide +kernel
theorem dX0_slide_7 : decode cX0_slide 7 = .ok (.putfield 26, 3) := by decide +kernel
theorem dX0_slide_10 : decode cX0_slide 10 = .ok (.iload_n 2, 1) := by decide +kernel
theorem dX0_slide_11 : decode cX0_slide 11 = .ok (.ireturn, 1) := by decide +kernel
theorem dX0_turnBand_0 : decode cX0_turnBand 0 = .ok (.iload_n 1, 1) := by decide +kernel
theorem dX0_turnBand_1 : decode cX0_turnBand 1 = .ok (.ifCond .lt 12, 3) := by decide +kernel
theorem dX0_turnBand_4 : decode cX0_turnBand 4 = .ok (.iload_n 1, 1) := by decide +kernel
theorem dX0_turnBand_5 : decode cX0_turnBand 5 = .ok (.aload_n 0, 1) := by decide +kernel
theorem dX0_turnBand_6 : decode cX0_turnBand 6 = .ok (.getfield 9, 3) := by decide +kernel
theorem dX0_turnBand_9 : decode cX0_turnBand 9 = .ok (.arraylength, 1) := by decide +kernel
theorem dX0_turnBand_10 : decode cX0_turnBand 10 = .ok (.if_icmp .lt 5, 3) := by decide +kernel
theorem dX0_turnBand_13 : decode cX0_turnBand 13 = .ok (.iconst 0, 1) := by decide +kernel
theorem dX0_turnBand_14 : decode cX0_turnBand 14 = .ok (.ireturn, 1) := by decide +kernel
theorem dX0_turnBand_15 : decode cX0_turnBand 15 = .ok (.aload_n 0, 1) := by decide +kernel
theorem dX0_turnBand_16 : decode cX0_turnBand 16 = .ok (.getfield 9, 3) := by decide +kernel
theorem dX0_turnBand_19 : decode cX0_turnBand 19 = .ok (.iload_n 1, 1) := by decide +kernel
theorem dX0_turnBand_20 : decode cX0_turnBand 20 = .ok (.iaload, 1) := by decide +kernel
theorem dX0_turnBand_21 : decode cX0_turnBand 21 = .ok (.istore_n 3, 1) := by decide +kernel
theorem dX0_turnBand_22 : decode cX0_turnBand 22 = .ok (.aload_n 0, 1) := by decide +kernel
theorem dX0_turnBand_23 : decode cX0_turnBand 23 = .ok (.getfield 9, 3) := by decide +kernel
theorem dX0_turnBand_26 : decode cX0_turnBand 26 = .ok (.iload_n 1, 1) := by decide +kernel
theorem dX0_turnBand_27 : decode cX0_turnBand 27 = .ok (.iload_n 2, 1) := by decide +kernel
theorem dX0_turnBand_28 : decode cX0_turnBand 28 = .ok (.iastore, 1) := by decide +kernel
theorem dX0_turnBand_29 : decode cX0_turnBand 29 = .ok (.iload_n 3, 1) := by decide +kernel
theorem dX0_turnBand_30 : decode cX0_turnBand 30 = .ok (.ireturn, 1) := by decide +kernel
theorem dX0_changeSide_0 : decode cX0_changeSide 0 = .ok (.aload_n 0, 1) := by decide +kernel
theorem dX0_changeSide_1 : decode cX0_changeSide 1 = .ok (.getfield 22, 3) := by decide +kernel
theorem dX0_changeSide_4 : decode cX0_changeSide 4 = .ok (.istore_n 2, 1) := by decide +kernel
theorem dX0_changeSide_5 : decode cX0_changeSide 5 = .ok (.aload_n 0, 1) := by decide +kernel
theorem dX0_changeSide_6 : decode cX0_changeSide 6 = .ok (.iload_n 1, 1) := by decide +kernel
theorem dX0_changeSide_7 : decode cX0_changeSide 7 = .ok (.putfield 22, 3) := by decide +kernel
theorem dX0_changeSide_10 : decode cX0_changeSide 10 = .ok (.iload_n 2, 1) := by decide +kernel
theorem dX0_changeSide_11 : decode cX0_changeSide 11 = .ok (.ireturn, 1) := by decide +kernel
theorem dX0_levelAt_0 : decode cX0_levelAt 0 = .ok (.bipush 100, 2) := by decide +kernel
theorem dX0_levelAt_2 : decode cX0_levelAt 2 = .ok (.istore_n 2, 1) := by decide +kernel
theorem dX0_levelAt_3 : decode cX0_levelAt 3 = .ok (.aload_n 0, 1) := by decide +kernel
theorem dX0_levelAt_4 : decode cX0_levelAt 4 = .ok (.getfield 22, 3) := by decide +kernel
theorem dX0_levelAt_7 : decode cX0_levelAt 7 = .ok (.bipush 108, 2) := by decide +kernel
theorem dX0_levelAt_9 : decode cX0_levelAt 9 = .ok (.if_icmp .ne 15, 3) := by decide +kernel
theorem dX0_levelAt_12 : decode cX0_levelAt 12 = .ok (.iload_n 1, 1) := by decide +kernel
theorem dX0_levelAt_13 : decode cX0_levelAt 13 = .ok (.ifCond .le 11, 3) := by decide +kernel
theorem dX0_levelAt_16 : decode cX0_levelAt 16 = .ok (.bipush 100, 2) := by decide +kernel
theorem dX0_levelAt_18 : decode cX0_levelAt 18 = .ok (.iload_n 1, 1) := by decide +kernel
theorem dX0_levelAt_19 : decode cX0_levelAt 19 = .ok (.isub, 1) := by decide +kernel
theorem dX0_levelAt_20 : decode cX0_levelAt 20 = .ok (.istore_n 2, 1) := by decide +kernel
theorem dX0_levelAt_21 : decode cX0_levelAt 21 = .ok (.goto 21, 3) := by decide +kernel
theorem dX0_levelAt_24 : decode cX0_levelAt 24 = .ok (.aload_n 0, 1) := by decide +kernel
theorem dX0_levelAt_25 : decode cX0_levelAt 25 = .ok (.getfield 22, 3) := by decide +kernel
theorem dX0_levelAt_28 : decode cX0_levelAt 28 = .ok (.bipush 114, 2) := by decide +kernel
theorem dX0_levelAt_30 : decode cX0_levelAt 30 = .ok (.if_icmp .ne 12, 3) := by decide +kernel
theorem dX0_levelAt_33 : decode cX0_levelAt 33 = .ok (.iload_n 1, 1) := by decide +kernel
theorem dX0_levelAt_34 : decode cX0_levelAt 34 = .ok (.ifCond .ge 8, 3) := by decide +kernel
theorem dX0_levelAt_37 : decode cX0_levelAt 37 = .ok (.bipush 100, 2) := by decide +kernel
theorem dX0_levelAt_39 : decode cX0_levelAt 39 = .ok (.iload_n 1, 1) := by decide +kernel
theorem dX0_levelAt_40 : decode cX0_levelAt 40 = .ok (.iadd, 1) := by decide +kernel
theorem dX0_levelAt_41 : decode cX0_levelAt 41 = .ok (.istore_n 2, 1) := by decide +kernel
theorem dX0_levelAt_42 : decode cX0_levelAt 42 = .ok (.aload_n 0, 1) := by decide +kernel
theorem dX0_levelAt_43 : decode cX0_levelAt 43 = .ok (.getfield 26, 3) := by decide +kernel
theorem dX0_levelAt_46 : decode cX0_levelAt 46 = .ok (.iload_n 2, 1) := by decide +kernel
theorem dX0_levelAt_47 : decode cX0_levelAt 47 = .ok (.imul, 1) := by decide +kernel
theorem dX0_levelAt_48 : decode cX0_levelAt 48 = .ok (.bipush 100, 2) := by decide +kernel
theorem dX0_levelAt_50 : decode cX0_levelAt 50 = .ok (.idiv, 1) := by decide +kernel
theorem dX0_levelAt_51 : decode cX0_levelAt 51 = .ok (.ireturn, 1) := by decide +kernel
theorem dX0_bandSum_0 : decode cX0_bandSum 0 = .ok (.iconst 0, 1) := by decide +kernel
theorem dX0_bandSum_1 : decode cX0_bandSum 1 = .ok (.istore_n 1, 1) := by decide +kernel
theorem dX0_bandSum_2 : decode cX0_bandSum 2 = .ok (.iconst 0, 1) := by decide +kernel
theorem dX0_bandSum_3 : decode cX0_bandSum 3 = .ok (.istore_n 2, 1) := by decide +kernel
theorem dX0_bandSum_4 : decode cX0_bandSum 4 = .ok (.iload_n 2, 1) := by decide +kernel
theorem dX0_bandSum_5 : decode cX0_bandSum 5 = .ok (.aload_n 0, 1) := by decide +kernel
theorem dX0_bandSum_6 : decode cX0_bandSum 6 = .ok (.getfield 9, 3) := by decide +kernel
theorem dX0_bandSum_9 : decode cX0_bandSum 9 = .ok (.arraylength, 1) := by decide +kernel
theorem dX0_bandSum_10 : decode cX0_bandSum 10 = .ok (.if_icmp .ge 18, 3) := by decide +kernel
theorem dX0_bandSum_13 : decode cX0_bandSum 13 = .ok (.iload_n 1, 1) := by decide +kernel
theorem dX0_bandSum_14 : decode cX0_bandSum 14 = .ok (.aload_n 0, 1) := by decide +kernel
theorem dX0_bandSum_15 : decode cX0_bandSum 15 = .ok (.getfield 9, 3) := by decide +kernel
theorem dX0_bandSum_18 : decode cX0_bandSum 18 = .ok (.iload_n 2, 1) := by decide +kernel
theorem dX0_bandSum_19 : decode cX0_bandSum 19 = .ok (.iaload, 1) := by decide +kernel
theorem dX0_bandSum_20 : decode cX0_bandSum 20 = .ok (.iadd, 1) := by decide +kernel
theorem dX0_bandSum_21 : decode cX0_bandSum 21 = .ok (.istore_n 1, 1) := by decide +kernel
theorem dX0_bandSum_22 : decode cX0_bandSum 22 = .ok (.iinc 2 1, 3) := by decide +kernel
theorem dX0_bandSum_25 : decode cX0_bandSum 25 = .ok (.goto (-21), 3) := by decide +kernel
theorem dX0_bandSum_28 : decode cX0_bandSum 28 = .ok (.iload_n 1, 1) := by decide +kernel
theorem dX0_bandSum_29 : decode cX0_bandSum 29 = .ok (.ireturn, 1) := by decide +kernel
theorem dX0_hasLowBand_0 : decode cX0_hasLowBand 0 = .ok (.aload_n 0, 1) := by decide +kernel
theorem dX0_hasLowBand_1 : decode cX0_hasLowBand 1 = .ok (.getfield 9, 3) := by decide +kernel
theorem dX0_hasLowBand_4 : decode cX0_hasLowBand 4 = .ok (.arraylength, 1) := by decide +kernel
theorem dX0_hasLowBand_5 : decode cX0_hasLowBand 5 = .ok (.ifCond .le 18, 3) := by decide +kernel
theorem dX0_hasLowBand_8 : decode cX0_hasLowBand 8 = .ok (.aload_n 0, 1) := by decide +kernel
theorem dX0_hasLowBand_9 : decode cX0_hasLowBand 9 = .ok (.getfield 9, 3) := by decide +kernel
theorem dX0_hasLowBand_12 : decode cX0_hasLowBand 12 = .ok (.iconst 0, 1) := by decide +kernel
theorem dX0_hasLowBand_13 : decode cX0_hasLowBand 13 = .ok (.iaload, 1) := by decide +kernel
theorem dX0_hasLowBand_14 : decode cX0_hasLowBand 14 = .ok (.bipush 50, 2) := by decide +kernel
theorem dX0_hasLowBand_16 : decode cX0_hasLowBand 16 = .ok (.if_icmp .lt 7, 3) := by decide +kernel
theorem dX0_hasLowBand_19 : decode cX0_hasLowBand 19 = .ok (.iconst 1, 1) := by decide +kernel
theorem dX0_hasLowBand_20 : decode cX0_hasLowBand 20 = .ok (.goto 4, 3) := by decide +kernel
theorem dX0_hasLowBand_23 : decode cX0_hasLowBand 23 = .ok (.iconst 0, 1) := by decide +kernel
theorem dX0_hasLowBand_24 : decode cX0_hasLowBand 24 = .ok (.ireturn, 1) := by decide +kernel
theorem dX0_plugIn_0 : decode cX0_plugIn 0 = .ok (.aload_n 0, 1) := by decide +kernel
theorem dX0_plugIn_1 : decode cX0_plugIn 1 = .ok (.getfield 30, 3) := by decide +kernel
theorem dX0_plugIn_4 : decode cX0_plugIn 4 = .ok (.ifCond .lt 39, 3) := by decide +kernel
theorem dX0_plugIn_7 : decode cX0_plugIn 7 = .ok (.aload_n 0, 1) := by decide +kernel
theorem dX0_plugIn_8 : decode cX0_plugIn 8 = .ok (.getfield 30, 3) := by decide +kernel
theorem dX0_plugIn_11 : decode cX0_plugIn 11 = .ok (.aload_n 0, 1) := by decide +kernel
theorem dX0_plugIn_12 : decode cX0_plugIn 12 = .ok (.getfield 17, 3) := by decide +kernel
theorem dX0_plugIn_15 : decode cX0_plugIn 15 = .ok (.arraylength, 1) := by decide +kernel
theorem dX0_plugIn_16 : decode cX0_plugIn 16 = .ok (.if_icmp .ge 27, 3) := by decide +kernel
theorem dX0_plugIn_19 : decode cX0_plugIn 19 = .ok (.aload_n 0, 1) := by decide +kernel
theorem dX0_plugIn_20 : decode cX0_plugIn 20 = .ok (.getfield 17, 3) := by decide +kernel
theorem dX0_plugIn_23 : decode cX0_plugIn 23 = .ok (.aload_n 0, 1) := by decide +kernel
theorem dX0_plugIn_24 : decode cX0_plugIn 24 = .ok (.getfield 30, 3) := by decide +kernel
theorem dX0_plugIn_27 : decode cX0_plugIn 27 = .ok (.aaload, 1) := by decide +kernel
theorem dX0_plugIn_28 : decode cX0_plugIn 28 = .ok (.iload_n 1, 1) := by decide +kernel
theorem dX0_plugIn_29 : decode cX0_plugIn 29 = .ok (.iload_n 2, 1) := by decide +kernel
theorem dX0_plugIn_30 : decode cX0_plugIn 30 = .ok (.invokevirtual 33, 3) := by decide +kernel
theorem dX0_plugIn_33 : decode cX0_plugIn 33 = .ok (.aload_n 0, 1) := by decide +kernel
theorem dX0_plugIn_34 : decode cX0_plugIn 34 = .ok (.dup, 1) := by decide +kernel
theorem dX0_plugIn_35 : decode cX0_plugIn 35 = .ok (.getfield 30, 3) := by decide +kernel
theorem dX0_plugIn_38 : decode cX0_plugIn 38 = .ok (.iconst 1, 1) := by decide +kernel
theorem dX0_plugIn_39 : decode cX0_plugIn 39 = .ok (.iadd, 1) := by decide +kernel
theorem dX0_plugIn_40 : decode cX0_plugIn 40 = .ok (.putfield 30, 3) := by decide +kernel
theorem dX0_plugIn_43 : decode cX0_plugIn 43 = .ok (.aload_n 0, 1) := by decide +kernel
theorem dX0_plugIn_44 : decode cX0_plugIn 44 = .ok (.getfield 30, 3) := by decide +kernel
theorem dX0_plugIn_47 : decode cX0_plugIn 47 = .ok (.ireturn, 1) := by decide +kernel
theorem dX0_unplug_0 : decode cX0_unplug 0 = .ok (.aload_n 0, 1) := by decide +kernel
theorem dX0_unplug_1 : decode cX0_unplug 1 = .ok (.getfield 30, 3) := by decide +kernel
theorem dX0_unplug_4 : decode cX0_unplug 4 = .ok (.istore_n 1, 1) := by decide +kernel
theorem dX0_unplug_5 : decode cX0_unplug 5 = .ok (.aload_n 0, 1) := by decide +kernel
theorem dX0_unplug_6 : decode cX0_unplug 6 = .ok (.iconst 0, 1) := by decide +kernel
theorem dX0_unplug_7 : decode cX0_unplug 7 = .ok (.putfield 30, 3) := by decide +kernel
theorem dX0_unplug_10 : decode cX0_unplug 10 = .ok (.iload_n 1, 1) := by decide +kernel
theorem dX0_unplug_11 : decode cX0_unplug 11 = .ok (.ireturn, 1) := by decide +kernel
theorem dX0_effectAt_0 : decode cX0_effectAt 0 = .ok (.iload_n 1, 1) := by decide +kernel
theorem dX0_effectAt_1 : decode cX0_effectAt 1 = .ok (.ifCond .lt 24, 3) := by decide +kernel
theorem dX0_effectAt_4 : decode cX0_effectAt 4 = .ok (.iload_n 1, 1) := by decide +kernel
theorem dX0_effectAt_5 : decode cX0_effectAt 5 = .ok (.aload_n 0, 1) := by decide +kernel
theorem dX0_effectAt_6 : decode cX0_effectAt 6 = .ok (.getfield 30, 3) := by decide +kernel
theorem dX0_effectAt_9 : decode cX0_effectAt 9 = .ok (.if_icmp .ge 16, 3) := by decide +kernel
theorem dX0_effectAt_12 : decode cX0_effectAt 12 = .ok (.iload_n 1, 1) := by decide +kernel
theorem dX0_effectAt_13 : decode cX0_effectAt 13 = .ok (.aload_n 0, 1) := by decide +kernel
theorem dX0_effectAt_14 : decode cX0_effectAt 14 = .ok (.getfield 17, 3) := by decide +kernel
theorem dX0_effectAt_17 : decode cX0_effectAt 17 = .ok (.arraylength, 1) := by decide +kernel
theorem dX0_effectAt_18 : decode cX0_effectAt 18 = .ok (.if_icmp .ge 7, 3) := by decide +kernel
theorem dX0_effectAt_21 : decode cX0_effectAt 21 = .ok (.iconst 1, 1) := by decide +kernel
theorem dX0_effectAt_22 : decode cX0_effectAt 22 = .ok (.goto 4, 3) := by decide +kernel
theorem dX0_effectAt_25 : decode cX0_effectAt 25 = .ok (.iconst 0, 1) := by decide +kernel
theorem dX0_effectAt_26 : decode cX0_effectAt 26 = .ok (.istore_n 2, 1) := by decide +kernel
theorem dX0_effectAt_27 : decode cX0_effectAt 27 = .ok (.iload_n 2, 1) := by decide +kernel
theorem dX0_effectAt_28 : decode cX0_effectAt 28 = .ok (.ifCond .eq 12, 3) := by decide +kernel
theorem dX0_effectAt_31 : decode cX0_effectAt 31 = .ok (.aload_n 0, 1) := by decide +kernel
theorem dX0_effectAt_32 : decode cX0_effectAt 32 = .ok (.getfield 17, 3) := by decide +kernel
theorem dX0_effectAt_35 : decode cX0_effectAt 35 = .ok (.iload_n 1, 1) := by decide +kernel
theorem dX0_effectAt_36 : decode cX0_effectAt 36 = .ok (.aaload, 1) := by decide +kernel
theorem dX0_effectAt_37 : decode cX0_effectAt 37 = .ok (.goto 4, 3) := by decide +kernel
theorem dX0_effectAt_40 : decode cX0_effectAt 40 = .ok (.aconst_null, 1) := by decide +kernel
theorem dX0_effectAt_41 : decode cX0_effectAt 41 = .ok (.areturn, 1) := by decide +kernel
theorem dX0_soundOf_0 : decode cX0_soundOf 0 = .ok (.iconst 0, 1) := by decide +kernel
theorem dX0_soundOf_1 : decode cX0_soundOf 1 = .ok (.istore 4, 2) := by decide +kernel
theorem dX0_soundOf_3 : decode cX0_soundOf 3 = .ok (.iconst 0, 1) := by decide +kernel
theorem dX0_soundOf_4 : decode cX0_soundOf 4 = .ok (.istore 5, 2) := by decide +kernel
theorem dX0_soundOf_6 : decode cX0_soundOf 6 = .ok (.iconst 0, 1) := by decide +kernel
theorem dX0_soundOf_7 : decode cX0_soundOf 7 = .ok (.istore 6, 2) := by decide +kernel
theorem dX0_soundOf_9 : decode cX0_soundOf 9 = .ok (.iload 6, 2) := by decide +kernel
theorem dX0_soundOf_11 : decode cX0_soundOf 11 = .ok (.aload_n 0, 1) := by decide +kernel
theorem dX0_soundOf_12 : decode cX0_soundOf 12 = .ok (.getfield 30, 3) := by decide +kernel
theorem dX0_soundOf_15 : decode cX0_soundOf 15 = .ok (.if_icmp .ge 62, 3) := by decide +kernel
theorem dX0_soundOf_18 : decode cX0_soundOf 18 = .ok (.iload 6, 2) := by decide +kernel
theorem dX0_soundOf_20 : decode cX0_soundOf 20 = .ok (.aload_n 0, 1) := by decide +kernel
theorem dX0_soundOf_21 : decode cX0_soundOf 21 = .ok (.getfield 17, 3) := by decide +kernel
theorem dX0_soundOf_24 : decode cX0_soundOf 24 = .ok (.arraylength, 1) := by decide +kernel
theorem dX0_soundOf_25 : decode cX0_soundOf 25 = .ok (.if_icmp .ge 52, 3) := by decide +kernel
theorem dX0_soundOf_28 : decode cX0_soundOf 28 = .ok (.iload 4, 2) := by decide +kernel
theorem dX0_soundOf_30 : decode cX0_soundOf 30 = .ok (.aload_n 0, 1) := by decide +kernel
theorem dX0_soundOf_31 : decode cX0_soundOf 31 = .ok (.getfield 17, 3) := by decide +kernel
theorem dX0_soundOf_34 : decode cX0_soundOf 34 = .ok (.iload 6, 2) := by decide +kernel
theorem dX0_soundOf_36 : decode cX0_soundOf 36 = .ok (.aaload, 1) := by decide +kernel
theorem dX0_soundOf_37 : decode cX0_soundOf 37 = .ok (.iload_n 1, 1) := by decide +kernel
theorem dX0_soundOf_38 : decode cX0_soundOf 38 = .ok (.invokevirtual 37, 3) := by decide +kernel
theorem dX0_soundOf_41 : decode cX0_soundOf 41 = .ok (.iadd, 1) := by decide +kernel
theorem dX0_soundOf_42 : decode cX0_soundOf 42 = .ok (.istore 4, 2) := by decide +kernel
theorem dX0_soundOf_44 : decode cX0_soundOf 44 = .ok (.iload 5, 2) := by decide +kernel
theorem dX0_soundOf_46 : decode cX0_soundOf 46 = .ok (.ifCond .ne 18, 3) := by decide +kernel
theorem dX0_soundOf_49 : decode cX0_soundOf 49 = .ok (.aload_n 0, 1) := by decide +kernel
theorem dX0_soundOf_50 : decode cX0_soundOf 50 = .ok (.getfield 17, 3) := by decide +kernel
theorem dX0_soundOf_53 : decode cX0_soundOf 53 = .ok (.iload 6, 2) := by decide +kernel
theorem dX0_soundOf_55 : decode cX0_soundOf 55 = .ok (.aaload, 1) := by decide +kernel
theorem dX0_soundOf_56 : decode cX0_soundOf 56 = .ok (.getfield 41, 3) := by decide +kernel
theorem dX0_soundOf_59 : decode cX0_soundOf 59 = .ok (.bipush 99, 2) := by decide +kernel
theorem dX0_soundOf_61 : decode cX0_soundOf 61 = .ok (.if_icmp .ne 7, 3) := by decide +kernel
theorem dX0_soundOf_64 : decode cX0_soundOf 64 = .ok (.iconst 1, 1) := by decide +kernel
theorem dX0_soundOf_65 : decode cX0_soundOf 65 = .ok (.goto 4, 3) := by decide +kernel
theorem dX0_soundOf_68 : decode cX0_soundOf 68 = .ok (.iconst 0, 1) := by decide +kernel
theorem dX0_soundOf_69 : decode cX0_soundOf 69 = .ok (.istore 5, 2) := by decide +kernel
theorem dX0_soundOf_71 : decode cX0_soundOf 71 = .ok (.iinc 6 1, 3) := by decide +kernel
theorem dX0_soundOf_74 : decode cX0_soundOf 74 = .ok (.goto (-65), 3) := by decide +kernel
theorem dX0_soundOf_77 : decode cX0_soundOf 77 = .ok (.lload_n 2, 1) := by decide +kernel
theorem dX0_soundOf_78 : decode cX0_soundOf 78 = .ok (.ldc2_w 44, 3) := by decide +kernel
theorem dX0_soundOf_81 : decode cX0_soundOf 81 = .ok (.lrem, 1) := by decide +kernel
theorem dX0_soundOf_82 : decode cX0_soundOf 82 = .ok (.ldc2_w 46, 3) := by decide +kernel
theorem dX0_soundOf_85 : decode cX0_soundOf 85 = .ok (.lcmp, 1) := by decide +kernel
theorem dX0_soundOf_86 : decode cX0_soundOf 86 = .ok (.ifCond .lt 7, 3) := by decide +kernel
theorem dX0_soundOf_89 : decode cX0_soundOf 89 = .ok (.iconst 1, 1) := by decide +kernel
theorem dX0_soundOf_90 : decode cX0_soundOf 90 = .ok (.goto 4, 3) := by decide +kernel
theorem dX0_soundOf_93 : decode cX0_soundOf 93 = .ok (.iconst 0, 1) := by decide +kernel
theorem dX0_soundOf_94 : decode cX0_soundOf 94 = .ok (.istore 6, 2) := by decide +kernel
theorem dX0_soundOf_96 : decode cX0_soundOf 96 = .ok (.iload 5, 2) := by decide +kernel
theorem dX0_soundOf_98 : decode cX0_soundOf 98 = .ok (.ifCond .eq 13, 3) := by decide +kernel
theorem dX0_soundOf_101 : decode cX0_soundOf 101 = .ok (.iload 6, 2) := by decide +kernel
theorem dX0_soundOf_103 : decode cX0_soundOf 103 = .ok (.ifCond .eq 8, 3) := by decide +kernel
theorem dX0_soundOf_106 : decode cX0_soundOf 106 = .ok (.iload 4, 2) := by decide +kernel
theorem dX0_soundOf_108 : decode cX0_soundOf 108 = .ok (.goto 7, 3) := by decide +kernel
theorem dX0_soundOf_111 : decode cX0_soundOf 111 = .ok (.iload_n 1, 1) := by decide +kernel
theorem dX0_soundOf_112 : decode cX0_soundOf 112 = .ok (.iload 4, 2) := by decide +kernel
theorem dX0_soundOf_114 : decode cX0_soundOf 114 = .ok (.iadd, 1) := by decide +kernel
theorem dX0_soundOf_115 : decode cX0_soundOf 115 = .ok (.ireturn, 1) := by decide +kernel
theorem dX1_init_0 : decode cX1_init 0 = .ok (.aload_n 0, 1) := by decide +kernel
theorem dX1_init_1 : decode cX1_init 1 = .ok (.invokespecial 3, 3) := by decide +kernel
theorem dX1_init_4 : decode cX1_init 4 = .ok (.aload_n 0, 1) := by decide +kernel
theorem dX1_init_5 : decode cX1_init 5 = .ok (.new 9, 3) := by decide +kernel
theorem dX1_init_8 : decode cX1_init 8 = .ok (.dup, 1) := by decide +kernel
theorem dX1_init_9 : decode cX1_init 9 = .ok (.invokespecial 11, 3) := by decide +kernel
theorem dX1_init_12 : decode cX1_init 12 = .ok (.putfield 12, 3) := by decide +kernel
theorem dX1_init_15 : decode cX1_init 15 = .ok (.aload_n 0, 1) := by decide +kernel
theorem dX1_init_16 : decode cX1_init 16 = .ok (.iconst 4, 1) := by decide +kernel
theorem dX1_init_17 : decode cX1_init 17 = .ok (.newarray .int, 2) := by decide +kernel
theorem dX1_init_19 : decode cX1_init 19 = .ok (.putfield 18, 3) := by decide +kernel
theorem dX1_init_22 : decode cX1_init 22 = .ok (.aload_n 0, 1) := by decide +kernel
theorem dX1_init_23 : decode cX1_init 23 = .ok (.iconst (-1), 1) := by decide +kernel
theorem dX1_init_24 : decode cX1_init 24 = .ok (.putfield 22, 3) := by decide +kernel
theorem dX1_init_27 : decode cX1_init 27 = .ok (.aload_n 0, 1) := by decide +kernel
theorem dX1_init_28 : decode cX1_init 28 = .ok (.iconst (-1), 1) := by decide +kernel
theorem dX1_init_29 : decode cX1_init 29 = .ok (.putfield 26, 3) := by decide +kernel
theorem dX1_init_32 : decode cX1_init 32 = .ok (.return_, 1) := by decide +kernel
theorem dX1_putOn_0 : decode cX1_putOn 0 = .ok (.aload_n 0, 1) := by decide +kernel
theorem dX1_putOn_1 : decode cX1_putOn 1 = .ok (.getfield 29, 3) := by decide +kernel
theorem dX1_putOn_4 : decode cX1_putOn 4 = .ok (.ifnonnull 7, 3) := by decide +kernel
theorem dX1_putOn_7 : decode cX1_putOn 7 = .ok (.iconst (-1), 1) := by decide +kernel
theorem dX1_putOn_8 : decode cX1_putOn 8 = .ok (.goto 10, 3) := by decide +kernel
theorem dX1_putOn_11 : decode cX1_putOn 11 = .ok (.aload_n 0, 1) := by decide +kernel
theorem dX1_putOn_12 : decode cX1_putOn 12 = .ok (.getfield 29, 3) := by decide +kernel
theorem dX1_putOn_15 : decode cX1_putOn 15 = .ok (.getfield 33, 3) := by decide +kernel
theorem dX1_putOn_18 : decode cX1_putOn 18 = .ok (.istore_n 2, 1) := by decide +kernel
theorem dX1_putOn_19 : decode cX1_putOn 19 = .ok (.aload_n 0, 1) := by decide +kernel
theorem dX1_putOn_20 : decode cX1_putOn 20 = .ok (.invokevirtual 38, 3) := by decide +kernel
theorem dX1_putOn_23 : decode cX1_putOn 23 = .ok (.aload_n 0, 1) := by decide +kernel
theorem dX1_putOn_24 : decode cX1_putOn 24 = .ok (.aload_n 1, 1) := by decide +kernel
theorem dX1_putOn_25 : decode cX1_putOn 25 = .ok (.putfield 29, 3) := by decide +kernel
theorem dX1_putOn_28 : decode cX1_putOn 28 = .ok (.iload_n 2, 1) := by decide +kernel
theorem dX1_putOn_29 : decode cX1_putOn 29 = .ok (.ireturn, 1) := by decide +kernel
theorem dX1_takeOff_0 : decode cX1_takeOff 0 = .ok (.aload_n 0, 1) := by decide +kernel
theorem dX1_takeOff_1 : decode cX1_takeOff 1 = .ok (.aconst_null, 1) := by decide +kernel
theorem dX1_takeOff_2 : decode cX1_takeOff 2 = .ok (.putfield 29, 3) := by decide +kernel
theorem dX1_takeOff_5 : decode cX1_takeOff 5 = .ok (.aload_n 0, 1) := by decide +kernel
theorem dX1_takeOff_6 : decode cX1_takeOff 6 = .ok (.lconst 0, 1) := by decide +kernel
theorem dX1_takeOff_7 : decode cX1_takeOff 7 = .ok (.putfield 41, 3) := by decide +kernel
theorem dX1_takeOff_10 : decode cX1_takeOff 10 = .ok (.aload_n 0, 1) := by decide +kernel
theorem dX1_takeOff_11 : decode cX1_takeOff 11 = .ok (.iconst 0, 1) := by decide +kernel
theorem dX1_takeOff_12 : decode cX1_takeOff 12 = .ok (.putfield 45, 3) := by decide +kernel
theorem dX1_takeOff_15 : decode cX1_takeOff 15 = .ok (.aload_n 0, 1) := by decide +kernel
theorem dX1_takeOff_16 : decode cX1_takeOff 16 = .ok (.iconst 0, 1) := by decide +kernel
theorem dX1_takeOff_17 : decode cX1_takeOff 17 = .ok (.putfield 49, 3) := by decide +kernel
theorem dX1_takeOff_20 : decode cX1_takeOff 20 = .ok (.aload_n 0, 1) := by decide +kernel
theorem dX1_takeOff_21 : decode cX1_takeOff 21 = .ok (.iconst (-1), 1) := by decide +kernel
theorem dX1_takeOff_22 : decode cX1_takeOff 22 = .ok (.putfield 22, 3) := by decide +kernel
theorem dX1_takeOff_25 : decode cX1_takeOff 25 = .ok (.aload_n 0, 1) := by decide +kernel
theorem dX1_takeOff_26 : decode cX1_takeOff 26 = .ok (.iconst (-1), 1) := by decide +kernel
theorem dX1_takeOff_27 : decode cX1_takeOff 27 = .ok (.putfield 26, 3) := by decide +kernel
theorem dX1_takeOff_30 : decode cX1_takeOff 30 = .ok (.aload_n 0, 1) := by decide +kernel
theorem dX1_takeOff_31 : decode cX1_takeOff 31 = .ok (.iconst 0, 1) := by decide +kernel
theorem dX1_takeOff_32 : decode cX1_takeOff 32 = .ok (.putfield 52, 3) := by decide +kernel
theorem dX1_takeOff_35 : decode cX1_takeOff 35 = .ok (.iconst 0, 1) := by decide +kernel
theorem dX1_takeOff_36 : decode cX1_takeOff 36 = .ok (.istore_n 1, 1) := by decide +kernel
theorem dX1_takeOff_37 : decode cX1_takeOff 37 = .ok (.iload_n 1, 1) := by decide +kernel
theorem dX1_takeOff_38 : decode cX1_takeOff 38 = .ok (.aload_n 0, 1) := by decide +kernel
theorem dX1_takeOff_39 : decode cX1_takeOff 39 = .ok (.getfield 18, 3) := by decide +kernel
theorem dX1_takeOff_42 : decode cX1_takeOff 42 = .ok (.arraylength, 1) := by decide +kernel
theorem dX1_takeOff_43 : decode cX1_takeOff 43 = .ok (.if_icmp .ge 16, 3) := by decide +kernel
theorem dX1_takeOff_46 : decode cX1_takeOff 46 = .ok (.aload_n 0, 1) := by decide +kernel
theorem dX1_takeOff_47 : decode cX1_takeOff 47 = .ok (.getfield 18, 3) := by decide +kernel
theorem dX1_takeOff_50 : decode cX1_takeOff 50 = .ok (.iload_n 1, 1) := by decide +kernel
theorem dX1_takeOff_51 : decode cX1_takeOff 51 = .ok (.iconst (-1), 1) := by decide +kernel
theorem dX1_takeOff_52 : decode cX1_takeOff 52 = .ok (.iastore, 1) := by decide +kernel
theorem dX1_takeOff_53 : decode cX1_takeOff 53 = .ok (.iinc 1 1, 3) := by decide +kernel
theorem dX1_takeOff_56 : decode cX1_takeOff 56 = .ok (.goto (-19), 3) := by decide +kernel
theorem dX1_takeOff_59 : decode cX1_takeOff 59 = .ok (.return_, 1) := by decide +kernel
theorem dX1_copyFrom_0 : decode cX1_copyFrom 0 = .ok (.aload_n 0, 1) := by decide +kernel
theorem dX1_copyFrom_1 : decode cX1_copyFrom 1 = .ok (.aload_n 1, 1) := by decide +kernel
theorem dX1_copyFrom_2 : decode cX1_copyFrom 2 = .ok (.getfield 29, 3) := by decide +kernel
theorem dX1_copyFrom_5 : decode cX1_copyFrom 5 = .ok (.putfield 29, 3) := by decide +kernel
theorem dX1_copyFrom_8 : decode cX1_copyFrom 8 = .ok (.aload_n 0, 1) := by decide +kernel
theorem dX1_copyFrom_9 : decode cX1_copyFrom 9 = .ok (.aload_n 1, 1) := by decide +kernel
theorem dX1_copyFrom_10 : decode cX1_copyFrom 10 = .ok (.getfield 41, 3) := by decide +kernel
theorem dX1_copyFrom_13 : decode cX1_copyFrom 13 = .ok (.putfield 41, 3) := by decide +kernel
theorem dX1_copyFrom_16 : decode cX1_copyFrom 16 = .ok (.aload_n 0, 1) := by decide +kernel
theorem dX1_copyFrom_17 : decode cX1_copyFrom 17 = .ok (.aload_n 1, 1) := by decide +kernel
theorem dX1_copyFrom_18 : decode cX1_copyFrom 18 = .ok (.getfield 55, 3) := by decide +kernel
theorem dX1_copyFrom_21 : decode cX1_copyFrom 21 = .ok (.putfield 55, 3) := by decide +kernel
theorem dX1_copyFrom_24 : decode cX1_copyFrom 24 = .ok (.aload_n 0, 1) := by decide +kernel
theorem dX1_copyFrom_25 : decode cX1_copyFrom 25 = .ok (.aload_n 1, 1) := by decide +kernel
theorem dX1_copyFrom_26 : decode cX1_copyFrom 26 = .ok (.getfield 45, 3) := by decide +kernel
theorem dX1_copyFrom_29 : decode cX1_copyFrom 29 = .ok (.putfield 45, 3) := by decide +kernel
theorem dX1_copyFrom_32 : decode cX1_copyFrom 32 = .ok (.aload_n 0, 1) := by decide +kernel
theorem dX1_copyFrom_33 : decode cX1_copyFrom 33 = .ok (.aload_n 1, 1) := by decide +kernel
theorem dX1_copyFrom_34 : decode cX1_copyFrom 34 = .ok (.getfield 49, 3) := by decide +kernel
theorem dX1_copyFrom_37 : decode cX1_copyFrom 37 = .ok (.putfield 49, 3) := by decide +kernel
theorem dX1_copyFrom_40 : decode cX1_copyFrom 40 = .ok (.aload_n 0, 1) := by decide +kernel
theorem dX1_copyFrom_41 : decode cX1_copyFrom 41 = .ok (.aload_n 1, 1) := by decide +kernel
theorem dX1_copyFrom_42 : decode cX1_copyFrom 42 = .ok (.getfield 22, 3) := by decide +kernel
theorem dX1_copyFrom_45 : decode cX1_copyFrom 45 = .ok (.putfield 22, 3) := by decide +kernel
theorem dX1_copyFrom_48 : decode cX1_copyFrom 48 = .ok (.aload_n 0, 1) := by decide +kernel
theorem dX1_copyFrom_49 : decode cX1_copyFrom 49 = .ok (.aload_n 1, 1) := by decide +kernel
theorem dX1_copyFrom_50 : decode cX1_copyFrom 50 = .ok (.getfield 26, 3) := by decide +kernel
theorem dX1_copyFrom_53 : decode cX1_copyFrom 53 = .ok (.putfield 26, 3) := by decide +kernel
theorem dX1_copyFrom_56 : decode cX1_copyFrom 56 = .ok (.aload_n 0, 1) := by decide +kernel
theorem dX1_copyFrom_57 : decode cX1_copyFrom 57 = .ok (.aload_n 1, 1) := by decide +kernel
theorem dX1_copyFrom_58 : decode cX1_copyFrom 58 = .ok (.getfield 58, 3) := by decide +kernel
theorem dX1_copyFrom_61 : decode cX1_copyFrom 61 = .ok (.putfield 58, 3) := by decide +kernel
theorem dX1_copyFrom_64 : decode cX1_copyFrom 64 = .ok (.aload_n 0, 1) := by decide +kernel
theorem dX1_copyFrom_65 : decode cX1_copyFrom 65 = .ok (.aload_n 1, 1) := by decide +kernel
theorem dX1_copyFrom_66 : decode cX1_copyFrom 66 = .ok (.getfield 52, 3) := by decide +kernel
theorem dX1_copyFrom_69 : decode cX1_copyFrom 69 = .ok (.putfield 52, 3) := by decide +kernel
theorem dX1_copyFrom_72 : decode cX1_copyFrom 72 = .ok (.aload_n 0, 1) := by decide +kernel
theorem dX1_copyFrom_73 : decode cX1_copyFrom 73 = .ok (.aload_n 1, 1) := by decide +kernel
theorem dX1_copyFrom_74 : decode cX1_copyFrom 74 = .ok (.getfield 61, 3) := by decide +kernel
theorem dX1_copyFrom_77 : decode cX1_copyFrom 77 = .ok (.putfield 61, 3) := by decide +kernel
theorem dX1_copyFrom_80 : decode cX1_copyFrom 80 = .ok (.iconst 0, 1) := by decide +kernel
theorem dX1_copyFrom_81 : decode cX1_copyFrom 81 = .ok (.istore_n 2, 1) := by decide +kernel
theorem dX1_copyFrom_82 : decode cX1_copyFrom 82 = .ok (.iload_n 2, 1) := by decide +kernel
theorem dX1_copyFrom_83 : decode cX1_copyFrom 83 = .ok (.aload_n 0, 1) := by decide +kernel
theorem dX1_copyFrom_84 : decode cX1_copyFrom 84 = .ok (.getfield 18, 3) := by decide +kernel
theorem dX1_copyFrom_87 : decode cX1_copyFrom 87 = .ok (.arraylength, 1) := by decide +kernel
theorem dX1_copyFrom_88 : decode cX1_copyFrom 88 = .ok (.if_icmp .ge 30, 3) := by decide +kernel
theorem dX1_copyFrom_91 : decode cX1_copyFrom 91 = .ok (.iload_n 2, 1) := by decide +kernel
theorem dX1_copyFrom_92 : decode cX1_copyFrom 92 = .ok (.aload_n 1, 1) := by decide +kernel
theorem dX1_copyFrom_93 : decode cX1_copyFrom 93 = .ok (.getfield 18, 3) := by decide +kernel
theorem dX1_copyFrom_96 : decode cX1_copyFrom 96 = .ok (.arraylength, 1) := by decide +kernel
theorem dX1_copyFrom_97 : decode cX1_copyFrom 97 = .ok (.if_icmp .ge 21, 3) := by decide +kernel
theorem dX1_copyFrom_100 : decode cX1_copyFrom 100 = .ok (.aload_n 0, 1) := by decide +kernel
theorem dX1_copyFrom_101 : decode cX1_copyFrom 101 = .ok (.getfield 18, 3) := by decide +kernel
theorem dX1_copyFrom_104 : decode cX1_copyFrom 104 = .ok (.iload_n 2, 1) := by decide +kernel
theorem dX1_copyFrom_105 : decode cX1_copyFrom 105 = .ok (.aload_n 1, 1) := by decide +kernel
theorem dX1_copyFrom_106 : decode cX1_copyFrom 106 = .ok (.getfield 18, 3) := by decide +kernel
theorem dX1_copyFrom_109 : decode cX1_copyFrom 109 = .ok (.iload_n 2, 1) := by decide +kernel
theorem dX1_copyFrom_110 : decode cX1_copyFrom 110 = .ok (.iaload, 1) := by decide +kernel
theorem dX1_copyFrom_111 : decode cX1_copyFrom 111 = .ok (.iastore, 1) := by decide +kernel
theorem dX1_copyFrom_112 : decode cX1_copyFrom 112 = .ok (.iinc 2 1, 3) := by decide +kernel
theorem dX1_copyFrom_115 : decode cX1_copyFrom 115 = .ok (.goto (-33), 3) := by decide +kernel
theorem dX1_copyFrom_118 : decode cX1_copyFrom 118 = .ok (.return_, 1) := by decide +kernel
theorem dX1_start_0 : decode cX1_start 0 = .ok (.aload_n 0, 1) := by decide +kernel
theorem dX1_start_1 : decode cX1_start 1 = .ok (.getfield 45, 3) := by decide +kernel
theorem dX1_start_4 : decode cX1_start 4 = .ok (.ifCond .ne 29, 3) := by decide +kernel
theorem dX1_start_7 : decode cX1_start 7 = .ok (.aload_n 0, 1) := by decide +kernel
theorem dX1_start_8 : decode cX1_start 8 = .ok (.getfield 29, 3) := by decide +kernel
theorem dX1_start_11 : decode cX1_start 11 = .ok (.ifnull 22, 3) := by decide +kernel
theorem dX1_start_14 : decode cX1_start 14 = .ok (.aload_n 0, 1) := by decide +kernel
theorem dX1_start_15 : decode cX1_start 15 = .ok (.getfield 41, 3) := by decide +kernel
theorem dX1_start_18 : decode cX1_start 18 = .ok (.aload_n 0, 1) := by decide +kernel
theorem dX1_start_19 : decode cX1_start 19 = .ok (.getfield 29, 3) := by decide +kernel
theorem dX1_start_22 : decode cX1_start 22 = .ok (.invokevirtual 64, 3) := by decide +kernel
theorem dX1_start_25 : decode cX1_start 25 = .ok (.lcmp, 1) := by decide +kernel
theorem dX1_start_26 : decode cX1_start 26 = .ok (.ifCond .ge 7, 3) := by decide +kernel
theorem dX1_start_29 : decode cX1_start 29 = .ok (.iconst 1, 1) := by decide +kernel
theorem dX1_start_30 : decode cX1_start 30 = .ok (.goto 4, 3) := by decide +kernel
theorem dX1_start_33 : decode cX1_start 33 = .ok (.iconst 0, 1) := by decide +kernel
theorem dX1_start_34 : decode cX1_start 34 = .ok (.istore_n 1, 1) := by decide +kernel
theorem dX1_start_35 : decode cX1_start 35 = .ok (.aload_n 0, 1) := by decide +kernel
theorem dX1_start_36 : decode cX1_start 36 = .ok (.iconst (-1), 1) := by decide +kernel
theorem dX1_start_37 : decode cX1_start 37 = .ok (.putfield 22, 3) := by decide +kernel
theorem dX1_start_40 : decode cX1_start 40 = .ok (.aload_n 0, 1) := by decide +kernel
theorem dX1_start_41 : decode cX1_start 41 = .ok (.aload_n 0, 1) := by decide +kernel
theorem dX1_start_42 : decode cX1_start 42 = .ok (.getfield 45, 3) := by decide +kernel
theorem dX1_start_45 : decode cX1_start 45 = .ok (.ifCond .ne 7, 3) := by decide +kernel
theorem dX1_start_48 : decode cX1_start 48 = .ok (.iload_n 1, 1) := by decide +kernel
theorem dX1_start_49 : decode cX1_start 49 = .ok (.ifCond .eq 7, 3) := by decide +kernel
theorem dX1_start_52 : decode cX1_start 52 = .ok (.iconst 1, 1) := by decide +kernel
theorem dX1_start_53 : decode cX1_start 53 = .ok (.goto 4, 3) := by decide +kernel
theorem dX1_start_56 : decode cX1_start 56 = .ok (.iconst 0, 1) := by decide +kernel
theorem dX1_start_57 : decode cX1_start 57 = .ok (.putfield 45, 3) := by decide +kernel
theorem dX1_start_60 : decode cX1_start 60 = .ok (.iload_n 1, 1) := by decide +kernel
theorem dX1_start_61 : decode cX1_start 61 = .ok (.ireturn, 1) := by decide +kernel
theorem dX1_halt_0 : decode cX1_halt 0 = .ok (.aload_n 0, 1) := by decide +kernel
theorem dX1_halt_1 : decode cX1_halt 1 = .ok (.getfield 45, 3) := by decide +kernel
theorem dX1_halt_4 : decode cX1_halt 4 = .ok (.istore_n 1, 1) := by decide +kernel
theorem dX1_halt_5 : decode cX1_halt 5 = .ok (.aload_n 0, 1) := by decide +kernel
theorem dX1_halt_6 : decode cX1_halt 6 = .ok (.iconst 0, 1) := by decide +kernel
theorem dX1_halt_7 : decode cX1_halt 7 = .ok (.putfield 45, 3) := by decide +kernel
theorem dX1_halt_10 : decode cX1_halt 10 = .ok (.aload_n 0, 1) := by decide +kernel
theorem dX1_halt_11 : decode cX1_halt 11 = .ok (.iconst (-1), 1) := by decide +kernel
theorem dX1_halt_12 : decode cX1_halt 12 = .ok (.putfield 22, 3) := by decide +kernel
theorem dX1_halt_15 : decode cX1_halt 15 = .ok (.iload_n 1, 1) := by decide +kernel
theorem dX1_halt_16 : decode cX1_halt 16 = .ok (.ireturn, 1) := by decide +kernel
theorem dX1_takePitch_0 : decode cX1_takePitch 0 = .ok (.aload_n 0, 1) := by decide +kernel
theorem dX1_takePitch_1 : decode cX1_takePitch 1 = .ok (.getfield 55, 3) := by decide +kernel
theorem dX1_takePitch_4 : decode cX1_takePitch 4 = .ok (.istore_n 2, 1) := by decide +kernel
theorem dX1_takePitch_5 : decode cX1_takePitch 5 = .ok (.aload_n 0, 1) := by decide +kernel
theorem dX1_takePitch_6 : decode cX1_takePitch 6 = .ok (.iload_n 1, 1) := by decide +kernel
theorem dX1_takePitch_7 : decode cX1_takePitch 7 = .ok (.putfield 55, 3) := by decide +kernel
theorem dX1_takePitch_10 : decode cX1_takePitch 10 = .ok (.iload_n 2, 1) := by decide +kernel
theorem dX1_takePitch_11 : decode cX1_takePitch 11 = .ok (.ireturn, 1) := by decide +kernel
theorem dX1_push_0 : decode cX1_push 0 = .ok (.aload_n 0, 1) := by decide +kernel
theorem dX1_push_1 : decode cX1_push 1 = .ok (.getfield 49, 3) := by decide +kernel
theorem dX1_push_4 : decode cX1_push 4 = .ok (.istore_n 2, 1) := by decide +kernel
theorem dX1_push_5 : decode cX1_push 5 = .ok (.aload_n 0, 1) := by decide +kernel
theorem dX1_push_6 : decode cX1_push 6 = .ok (.iload_n 1, 1) := by decide +kernel
theorem dX1_push_7 : decode cX1_push 7 = .ok (.putfield 49, 3) := by decide +kernel
theorem dX1_push_10 : decode cX1_push 10 = .ok (.iload_n 2, 1) := by decide +kernel
theorem dX1_push_11 : decode cX1_push 11 = .ok (.ireturn, 1) := by decide +kernel
theorem dX1_slowDown_0 : decode cX1_slowDown 0 = .ok (.aload_n 0, 1) := by decide +kernel
theorem dX1_slowDown_1 : decode cX1_slowDown 1 = .ok (.getfield 45, 3) := by decide +kernel
theorem dX1_slowDown_4 : decode cX1_slowDown 4 = .ok (.ifCond .eq 8, 3) := by decide +kernel
theorem dX1_slowDown_7 : decode cX1_slowDown 7 = .ok (.aload_n 0, 1) := by decide +kernel
theorem dX1_slowDown_8 : decode cX1_slowDown 8 = .ok (.iconst 0, 1) := by decide +kernel
theorem dX1_slowDown_9 : decode cX1_slowDown 9 = .ok (.putfield 22, 3) := by decide +kernel
theorem dX1_slowDown_12 : decode cX1_slowDown 12 = .ok (.aload_n 0, 1) := by decide +kernel
theorem dX1_slowDown_13 : decode cX1_slowDown 13 = .ok (.getfield 45, 3) := by decide +kernel
theorem dX1_slowDown_16 : decode cX1_slowDown 16 = .ok (.ireturn, 1) := by decide +kernel
theorem dX1_beatNow_0 : decode cX1_beatNow 0 = .ok (.aload_n 0, 1) := by decide +kernel
theorem dX1_beatNow_1 : decode cX1_beatNow 1 = .ok (.getfield 41, 3) := by decide +kernel
theorem dX1_beatNow_4 : decode cX1_beatNow 4 = .ok (.ldc2_w 68, 3) := by decide +kernel
theorem dX1_beatNow_7 : decode cX1_beatNow 7 = .ok (.ldiv, 1) := by decide +kernel
theorem dX1_beatNow_8 : decode cX1_beatNow 8 = .ok (.l2i, 1) := by decide +kernel
theorem dX1_beatNow_9 : decode cX1_beatNow 9 = .ok (.ireturn, 1) := by decide +kernel
theorem dX1_hasBeat_0 : decode cX1_hasBeat 0 = .ok (.aload_n 0, 1) := by decide +kernel
theorem dX1_hasBeat_1 : decode cX1_hasBeat 1 = .ok (.getfield 29, 3) := by decide +kernel
theorem dX1_hasBeat_4 : decode cX1_hasBeat 4 = .ok (.ifnull 22, 3) := by decide +kernel
theorem dX1_hasBeat_7 : decode cX1_hasBeat 7 = .ok (.iload_n 1, 1) := by decide +kernel
theorem dX1_hasBeat_8 : decode cX1_hasBeat 8 = .ok (.ifCond .lt 18, 3) := by decide +kernel
theorem dX1_hasBeat_11 : decode cX1_hasBeat 11 = .ok (.iload_n 1, 1) := by decide +kernel
theorem dX1_hasBeat_12 : decode cX1_hasBeat 12 = .ok (.aload_n 0, 1) := by decide +kernel
theorem dX1_hasBeat_13 : decode cX1_hasBeat 13 = .ok (.getfield 29, 3) := by decide +kernel
theorem dX1_hasBeat_16 : decode cX1_hasBeat 16 = .ok (.getfield 70, 3) := by decide +kernel
theorem dX1_hasBeat_19 : decode cX1_hasBeat 19 = .ok (.if_icmp .ge 7, 3) := by decide +kernel
theorem dX1_hasBeat_22 : decode cX1_hasBeat 22 = .ok (.iconst 1, 1) := by decide +kernel
theorem dX1_hasBeat_23 : decode cX1_hasBeat 23 = .ok (.goto 4, 3) := by decide +kernel
theorem dX1_hasBeat_26 : decode cX1_hasBeat 26 = .ok (.iconst 0, 1) := by decide +kernel
theorem dX1_hasBeat_27 : decode cX1_hasBeat 27 = .ok (.ireturn, 1) := by decide +kernel
theorem dX1_jumpTo_0 : decode cX1_jumpTo 0 = .ok (.aload_n 0, 1) := by decide +kernel
theorem dX1_jumpTo_1 : decode cX1_jumpTo 1 = .ok (.invokevirtual 73, 3) := by decide +kernel
theorem dX1_jumpTo_4 : decode cX1_jumpTo 4 = .ok (.istore_n 2, 1) := by decide +kernel
theorem dX1_jumpTo_5 : decode cX1_jumpTo 5 = .ok (.aload_n 0, 1) := by decide +kernel
theorem dX1_jumpTo_6 : decode cX1_jumpTo 6 = .ok (.iload_n 1, 1) := by decide +kernel
theorem dX1_jumpTo_7 : decode cX1_jumpTo 7 = .ok (.i2l, 1) := by decide +kernel
theorem dX1_jumpTo_8 : decode cX1_jumpTo 8 = .ok (.ldc2_w 68, 3) := by decide +kernel
theorem dX1_jumpTo_11 : decode cX1_jumpTo 11 = .ok (.lmul, 1) := by decide +kernel
theorem dX1_jumpTo_12 : decode cX1_jumpTo 12 = .ok (.putfield 41, 3) := by decide +kernel
theorem dX1_jumpTo_15 : decode cX1_jumpTo 15 = .ok (.iload_n 2, 1) := by decide +kernel
theorem dX1_jumpTo_16 : decode cX1_jumpTo 16 = .ok (.ireturn, 1) := by decide +kernel
theorem dX1_mark_0 : decode cX1_mark 0 = .ok (.aload_n 0, 1) := by decide +kernel
theorem dX1_mark_1 : decode cX1_mark 1 = .ok (.getfield 29, 3) := by decide +kernel
theorem dX1_mark_4 : decode cX1_mark 4 = .ok (.ifnull 16, 3) := by decide +kernel
theorem dX1_mark_7 : decode cX1_mark 7 = .ok (.iload_n 1, 1) := by decide +kernel
theorem dX1_mark_8 : decode cX1_mark 8 = .ok (.ifCond .lt 12, 3) := by decide +kernel
theorem dX1_mark_11 : decode cX1_mark 11 = .ok (.iload_n 1, 1) := by decide +kernel
theorem dX1_mark_12 : decode cX1_mark 12 = .ok (.aload_n 0, 1) := by decide +kernel
theorem dX1_mark_13 : decode cX1_mark 13 = .ok (.getfield 18, 3) := by decide +kernel
theorem dX1_mark_16 : decode cX1_mark 16 = .ok (.arraylength, 1) := by decide +kernel
theorem dX1_mark_17 : decode cX1_mark 17 = .ok (.if_icmp .lt 5, 3) := by decide +kernel
theorem dX1_mark_20 : decode cX1_mark 20 = .ok (.iconst (-1), 1) := by decide +kernel
theorem dX1_mark_21 : decode cX1_mark 21 = .ok (.ireturn, 1) := by decide +kernel
theorem dX1_mark_22 : decode cX1_mark 22 = .ok (.aload_n 0, 1) := by decide +kernel
theorem dX1_mark_23 : decode cX1_mark 23 = .ok (.getfield 41, 3) := by decide +kernel
theorem dX1_mark_26 : decode cX1_mark 26 = .ok (.ldc2_w 77, 3) := by decide +kernel
theorem dX1_mark_29 : decode cX1_mark 29 = .ok (.ladd, 1) := by decide +kernel
theorem dX1_mark_30 : decode cX1_mark 30 = .ok (.ldc2_w 68, 3) := by decide +kernel
theorem dX1_mark_33 : decode cX1_mark 33 = .ok (.ldiv, 1) := by decide +kernel
theorem dX1_mark_34 : decode cX1_mark 34 = .ok (.l2i, 1) := by decide +kernel
theorem dX1_mark_35 : decode cX1_mark 35 = .ok (.istore_n 2, 1) := by decide +kernel
theorem dX1_mark_36 : decode cX1_mark 36 = .ok (.aload_n 0, 1) := by decide +kernel
theorem dX1_mark_37 : decode cX1_mark 37 = .ok (.getfield 18, 3) := by decide +kernel
theorem dX1_mark_40 : decode cX1_mark 40 = .ok (.iload_n 1, 1) := by decide +kernel
theorem dX1_mark_41 : decode cX1_mark 41 = .ok (.iload_n 2, 1) := by decide +kernel
theorem dX1_mark_42 : decode cX1_mark 42 = .ok (.aload_n 0, 1) := by decide +kernel
theorem dX1_mark_43 : decode cX1_mark 43 = .ok (.getfield 29, 3) := by decide +kernel
theorem dX1_mark_46 : decode cX1_mark 46 = .ok (.getfield 70, 3) := by decide +kernel
theorem dX1_mark_49 : decode cX1_mark 49 = .ok (.iconst 1, 1) := by decide +kernel
theorem dX1_mark_50 : decode cX1_mark 50 = .ok (.isub, 1) := by decide +kernel
theorem dX1_mark_51 : decode cX1_mark 51 = .ok (.invokestatic 79, 3) := by decide +kernel
theorem dX1_mark_54 : decode cX1_mark 54 = .ok (.iastore, 1) := by decide +kernel
theorem dX1_mark_55 : decode cX1_mark 55 = .ok (.aload_n 0, 1) := by decide +kernel
theorem dX1_mark_56 : decode cX1_mark 56 = .ok (.getfield 18, 3) := by decide +kernel
theorem dX1_mark_59 : decode cX1_mark 59 = .ok (.iload_n 1, 1) := by decide +kernel
theorem dX1_mark_60 : decode cX1_mark 60 = .ok (.iaload, 1) := by decide +kernel
theorem dX1_mark_61 : decode cX1_mark 61 = .ok (.ireturn, 1) := by decide +kernel
theorem dX1_jumpToCue_0 : decode cX1_jumpToCue 0 = .ok (.iload_n 1, 1) := by decide +kernel
theorem dX1_jumpToCue_1 : decode cX1_jumpToCue 1 = .ok (.ifCond .lt 22, 3) := by decide +kernel
theorem dX1_jumpToCue_4 : decode cX1_jumpToCue 4 = .ok (.iload_n 1, 1) := by decide +kernel
theorem dX1_jumpToCue_5 : decode cX1_jumpToCue 5 = .ok (.aload_n 0, 1) := by decide +kernel
theorem dX1_jumpToCue_6 : decode cX1_jumpToCue 6 = .ok (.getfield 18, 3) := by decide +kernel
theorem dX1_jumpToCue_9 : decode cX1_jumpToCue 9 = .ok (.arraylength, 1) := by decide +kernel
theorem dX1_jumpToCue_10 : decode cX1_jumpToCue 10 = .ok (.if_icmp .ge 13, 3) := by decide +kernel
theorem dX1_jumpToCue_13 : decode cX1_jumpToCue 13 = .ok (.aload_n 0, 1) := by decide +kernel
theorem dX1_jumpToCue_14 : decode cX1_jumpToCue 14 = .ok (.getfield 18, 3) := by decide +kernel
theorem dX1_jumpToCue_17 : decode cX1_jumpToCue 17 = .ok (.iload_n 1, 1) := by decide +kernel
theorem dX1_jumpToCue_18 : decode cX1_jumpToCue 18 = .ok (.iaload, 1) := by decide +kernel
theorem dX1_jumpToCue_19 : decode cX1_jumpToCue 19 = .ok (.iconst (-1), 1) := by decide +kernel
theorem dX1_jumpToCue_20 : decode cX1_jumpToCue 20 = .ok (.if_icmp .ne 5, 3) := by decide +kernel
theorem dX1_jumpToCue_23 : decode cX1_jumpToCue 23 = .ok (.iconst 0, 1) := by decide +kernel
theorem dX1_jumpToCue_24 : decode cX1_jumpToCue 24 = .ok (.ireturn, 1) := by decide +kernel
theorem dX1_jumpToCue_25 : decode cX1_jumpToCue 25 = .ok (.aload_n 0, 1) := by decide +kernel
theorem dX1_jumpToCue_26 : decode cX1_jumpToCue 26 = .ok (.aload_n 0, 1) := by decide +kernel
theorem dX1_jumpToCue_27 : decode cX1_jumpToCue 27 = .ok (.getfield 18, 3) := by decide +kernel
theorem dX1_jumpToCue_30 : decode cX1_jumpToCue 30 = .ok (.iload_n 1, 1) := by decide +kernel
theorem dX1_jumpToCue_31 : decode cX1_jumpToCue 31 = .ok (.iaload, 1) := by decide +kernel
theorem dX1_jumpToCue_32 : decode cX1_jumpToCue 32 = .ok (.i2l, 1) := by decide +kernel
theorem dX1_jumpToCue_33 : decode cX1_jumpToCue 33 = .ok (.ldc2_w 68, 3) := by decide +kernel
theorem dX1_jumpToCue_36 : decode cX1_jumpToCue 36 = .ok (.lmul, 1) := by decide +kernel
theorem dX1_jumpToCue_37 : decode cX1_jumpToCue 37 = .ok (.putfield 41, 3) := by decide +kernel
theorem dX1_jumpToCue_40 : decode cX1_jumpToCue 40 = .ok (.iconst 1, 1) := by decide +kernel
theorem dX1_jumpToCue_41 : decode cX1_jumpToCue 41 = .ok (.ireturn, 1) := by decide +kernel
theorem dX1_hasRoomFor_0 : decode cX1_hasRoomFor 0 = .ok (.aload_n 0, 1) := by decide +kernel
theorem dX1_hasRoomFor_1 : decode cX1_hasRoomFor 1 = .ok (.getfield 29, 3) := by decide +kernel
theorem dX1_hasRoomFor_4 : decode cX1_hasRoomFor 4 = .ok (.ifnull 25, 3) := by decide +kernel
theorem dX1_hasRoomFor_7 : decode cX1_hasRoomFor 7 = .ok (.aload_n 0, 1) := by decide +kernel
theorem dX1_hasRoomFor_8 : decode cX1_hasRoomFor 8 = .ok (.invokevirtual 73, 3) := by decide +kernel
theorem dX1_hasRoomFor_11 : decode cX1_hasRoomFor 11 = .ok (.iconst 1, 1) := by decide +kernel
theorem dX1_hasRoomFor_12 : decode cX1_hasRoomFor 12 = .ok (.iload_n 1, 1) := by decide +kernel
theorem dX1_hasRoomFor_13 : decode cX1_hasRoomFor 13 = .ok (.ishl, 1) := by decide +kernel
theorem dX1_hasRoomFor_14 : decode cX1_hasRoomFor 14 = .ok (.iadd, 1) := by decide +kernel
theorem dX1_hasRoomFor_15 : decode cX1_hasRoomFor 15 = .ok (.aload_n 0, 1) := by decide +kernel
theorem dX1_hasRoomFor_16 : decode cX1_hasRoomFor 16 = .ok (.getfield 29, 3) := by decide +kernel
theorem dX1_hasRoomFor_19 : decode cX1_hasRoomFor 19 = .ok (.getfield 70, 3) := by decide +kernel
theorem dX1_hasRoomFor_22 : decode cX1_hasRoomFor 22 = .ok (.if_icmp .gt 7, 3) := by decide +kernel
theorem dX1_hasRoomFor_25 : decode cX1_hasRoomFor 25 = .ok (.iconst 1, 1) := by decide +kernel
theorem dX1_hasRoomFor_26 : decode cX1_hasRoomFor 26 = .ok (.goto 4, 3) := by decide +kernel
theorem dX1_hasRoomFor_29 : decode cX1_hasRoomFor 29 = .ok (.iconst 0, 1) := by decide +kernel
theorem dX1_hasRoomFor_30 : decode cX1_hasRoomFor 30 = .ok (.ireturn, 1) := by decide +kernel
theorem dX1_turnRound_0 : decode cX1_turnRound 0 = .ok (.aload_n 0, 1) := by decide +kernel
theorem dX1_turnRound_1 : decode cX1_turnRound 1 = .ok (.aload_n 0, 1) := by decide +kernel
theorem dX1_turnRound_2 : decode cX1_turnRound 2 = .ok (.invokevirtual 73, 3) := by decide +kernel
theorem dX1_turnRound_5 : decode cX1_turnRound 5 = .ok (.putfield 26, 3) := by decide +kernel
theorem dX1_turnRound_8 : decode cX1_turnRound 8 = .ok (.aload_n 0, 1) := by decide +kernel
theorem dX1_turnRound_9 : decode cX1_turnRound 9 = .ok (.aload_n 0, 1) := by decide +kernel
theorem dX1_turnRound_10 : decode cX1_turnRound 10 = .ok (.getfield 26, 3) := by decide +kernel
theorem dX1_turnRound_13 : decode cX1_turnRound 13 = .ok (.iconst 1, 1) := by decide +kernel
theorem dX1_turnRound_14 : decode cX1_turnRound 14 = .ok (.iload_n 1, 1) := by decide +kernel
theorem dX1_turnRound_15 : decode cX1_turnRound 15 = .ok (.ishl, 1) := by decide +kernel
theorem dX1_turnRound_16 : decode cX1_turnRound 16 = .ok (.iadd, 1) := by decide +kernel
theorem dX1_turnRound_17 : decode cX1_turnRound 17 = .ok (.putfield 58, 3) := by decide +kernel
theorem dX1_turnRound_20 : decode cX1_turnRound 20 = .ok (.aload_n 0, 1) := by decide +kernel
theorem dX1_turnRound_21 : decode cX1_turnRound 21 = .ok (.getfield 58, 3) := by decide +kernel
theorem dX1_turnRound_24 : decode cX1_turnRound 24 = .ok (.ireturn, 1) := by decide +kernel
theorem dX1_leaveLoop_0 : decode cX1_leaveLoop 0 = .ok (.aload_n 0, 1) := by decide +kernel
theorem dX1_leaveLoop_1 : decode cX1_leaveLoop 1 = .ok (.getfield 26, 3) := by decide +kernel
theorem dX1_leaveLoop_4 : decode cX1_leaveLoop 4 = .ok (.iconst (-1), 1) := by decide +kernel
theorem dX1_leaveLoop_5 : decode cX1_leaveLoop 5 = .ok (.if_icmp .eq 7, 3) := by decide +kernel
theorem dX1_leaveLoop_8 : decode cX1_leaveLoop 8 = .ok (.iconst 1, 1) := by decide +kernel
theorem dX1_leaveLoop_9 : decode cX1_leaveLoop 9 = .ok (.goto 4, 3) := by decide +kernel
theorem dX1_leaveLoop_12 : decode cX1_leaveLoop 12 = .ok (.iconst 0, 1) := by decide +kernel
theorem dX1_leaveLoop_13 : decode cX1_leaveLoop 13 = .ok (.istore_n 1, 1) := by decide +kernel
theorem dX1_leaveLoop_14 : decode cX1_leaveLoop 14 = .ok (.aload_n 0, 1) := by decide +kernel
theorem dX1_leaveLoop_15 : decode cX1_leaveLoop 15 = .ok (.iconst (-1), 1) := by decide +kernel
theorem dX1_leaveLoop_16 : decode cX1_leaveLoop 16 = .ok (.putfield 26, 3) := by decide +kernel
theorem dX1_leaveLoop_19 : decode cX1_leaveLoop 19 = .ok (.iload_n 1, 1) := by decide +kernel
theorem dX1_leaveLoop_20 : decode cX1_leaveLoop 20 = .ok (.ireturn, 1) := by decide +kernel
theorem dX1_turnSlip_0 : decode cX1_turnSlip 0 = .ok (.aload_n 0, 1) := by decide +kernel
theorem dX1_turnSlip_1 : decode cX1_turnSlip 1 = .ok (.getfield 52, 3) := by decide +kernel
theorem dX1_turnSlip_4 : decode cX1_turnSlip 4 = .ok (.istore_n 2, 1) := by decide +kernel
theorem dX1_turnSlip_5 : decode cX1_turnSlip 5 = .ok (.iload_n 1, 1) := by decide +kernel
theorem dX1_turnSlip_6 : decode cX1_turnSlip 6 = .ok (.ifCond .eq 15, 3) := by decide +kernel
theorem dX1_turnSlip_9 : decode cX1_turnSlip 9 = .ok (.iload_n 2, 1) := by decide +kernel
theorem dX1_turnSlip_10 : decode cX1_turnSlip 10 = .ok (.ifCond .ne 11, 3) := by decide +kernel
theorem dX1_turnSlip_13 : decode cX1_turnSlip 13 = .ok (.aload_n 0, 1) := by decide +kernel
theorem dX1_turnSlip_14 : decode cX1_turnSlip 14 = .ok (.aload_n 0, 1) := by decide +kernel
theorem dX1_turnSlip_15 : decode cX1_turnSlip 15 = .ok (.getfield 41, 3) := by decide +kernel
theorem dX1_turnSlip_18 : decode cX1_turnSlip 18 = .ok (.putfield 61, 3) := by decide +kernel
theorem dX1_turnSlip_21 : decode cX1_turnSlip 21 = .ok (.iload_n 1, 1) := by decide +kernel
theorem dX1_turnSlip_22 : decode cX1_turnSlip 22 = .ok (.ifCond .ne 15, 3) := by decide +kernel
theorem dX1_turnSlip_25 : decode cX1_turnSlip 25 = .ok (.iload_n 2, 1) := by decide +kernel
theorem dX1_turnSlip_26 : decode cX1_turnSlip 26 = .ok (.ifCond .eq 11, 3) := by decide +kernel
theorem dX1_turnSlip_29 : decode cX1_turnSlip 29 = .ok (.aload_n 0, 1) := by decide +kernel
theorem dX1_turnSlip_30 : decode cX1_turnSlip 30 = .ok (.aload_n 0, 1) := by decide +kernel
theorem dX1_turnSlip_31 : decode cX1_turnSlip 31 = .ok (.getfield 61, 3) := by decide +kernel
theorem dX1_turnSlip_34 : decode cX1_turnSlip 34 = .ok (.putfield 41, 3) := by decide +kernel
theorem dX1_turnSlip_37 : decode cX1_turnSlip 37 = .ok (.aload_n 0, 1) := by decide +kernel
theorem dX1_turnSlip_38 : decode cX1_turnSlip 38 = .ok (.iload_n 1, 1) := by decide +kernel
theorem dX1_turnSlip_39 : decode cX1_turnSlip 39 = .ok (.putfield 52, 3) := by decide +kernel
theorem dX1_turnSlip_42 : decode cX1_turnSlip 42 = .ok (.iload_n 2, 1) := by decide +kernel
theorem dX1_turnSlip_43 : decode cX1_turnSlip 43 = .ok (.ireturn, 1) := by decide +kernel
theorem dX1_skipBack_0 : decode cX1_skipBack 0 = .ok (.aload_n 0, 1) := by decide +kernel
theorem dX1_skipBack_1 : decode cX1_skipBack 1 = .ok (.lconst 0, 1) := by decide +kernel
theorem dX1_skipBack_2 : decode cX1_skipBack 2 = .ok (.aload_n 0, 1) := by decide +kernel
theorem dX1_skipBack_3 : decode cX1_skipBack 3 = .ok (.getfield 41, 3) := by decide +kernel
theorem dX1_skipBack_6 : decode cX1_skipBack 6 = .ok (.iload_n 1, 1) := by decide +kernel
theorem dX1_skipBack_7 : decode cX1_skipBack 7 = .ok (.i2l, 1) := by decide +kernel
theorem dX1_skipBack_8 : decode cX1_skipBack 8 = .ok (.ldc2_w 68, 3) := by decide +kernel
theorem dX1_skipBack_11 : decode cX1_skipBack 11 = .ok (.lmul, 1) := by decide +kernel
theorem dX1_skipBack_12 : decode cX1_skipBack 12 = .ok (.lsub, 1) := by decide +kernel
theorem dX1_skipBack_13 : decode cX1_skipBack 13 = .ok (.invokestatic 85, 3) := by decide +kernel
theorem dX1_skipBack_16 : decode cX1_skipBack 16 = .ok (.putfield 41, 3) := by decide +kernel
theorem dX1_skipBack_19 : decode cX1_skipBack 19 = .ok (.aload_n 0, 1) := by decide +kernel
theorem dX1_skipBack_20 : decode cX1_skipBack 20 = .ok (.getfield 41, 3) := by decide +kernel
theorem dX1_skipBack_23 : decode cX1_skipBack 23 = .ok (.lreturn, 1) := by decide +kernel
theorem dX1_pace_0 : decode cX1_pace 0 = .ok (.aload_n 0, 1) := by decide +kernel
theorem dX1_pace_1 : decode cX1_pace 1 = .ok (.getfield 29, 3) := by decide +kernel
theorem dX1_pace_4 : decode cX1_pace 4 = .ok (.ifnonnull 7, 3) := by decide +kernel
theorem dX1_pace_7 : decode cX1_pace 7 = .ok (.iconst 0, 1) := by decide +kernel
theorem dX1_pace_8 : decode cX1_pace 8 = .ok (.goto 19, 3) := by decide +kernel
theorem dX1_pace_11 : decode cX1_pace 11 = .ok (.aload_n 0, 1) := by decide +kernel
theorem dX1_pace_12 : decode cX1_pace 12 = .ok (.getfield 29, 3) := by decide +kernel
theorem dX1_pace_15 : decode cX1_pace 15 = .ok (.getfield 89, 3) := by decide +kernel
theorem dX1_pace_18 : decode cX1_pace 18 = .ok (.sipush 1000, 3) := by decide +kernel
theorem dX1_pace_21 : decode cX1_pace 21 = .ok (.aload_n 0, 1) := by decide +kernel
theorem dX1_pace_22 : decode cX1_pace 22 = .ok (.getfield 55, 3) := by decide +kernel
theorem dX1_pace_25 : decode cX1_pace 25 = .ok (.iadd, 1) := by decide +kernel
theorem dX1_pace_26 : decode cX1_pace 26 = .ok (.imul, 1) := by decide +kernel
theorem dX1_pace_27 : decode cX1_pace 27 = .ok (.ireturn, 1) := by decide +kernel
theorem dX1_advance_0 : decode cX1_advance 0 = .ok (.aload_n 0, 1) := by decide +kernel
theorem dX1_advance_1 : decode cX1_advance 1 = .ok (.getfield 45, 3) := by decide +kernel
theorem dX1_advance_4 : decode cX1_advance 4 = .ok (.ifCond .eq 10, 3) := by decide +kernel
theorem dX1_advance_7 : decode cX1_advance 7 = .ok (.aload_n 0, 1) := by decide +kernel
theorem dX1_advance_8 : decode cX1_advance 8 = .ok (.getfield 29, 3) := by decide +kernel
theorem dX1_advance_11 : decode cX1_advance 11 = .ok (.ifnonnull 4, 3) := by decide +kernel
theorem dX1_advance_14 : decode cX1_advance 14 = .ok (.return_, 1) := by decide +kernel
theorem dX1_advance_15 : decode cX1_advance 15 = .ok (.aload_n 0, 1) := by decide +kernel
theorem dX1_advance_16 : decode cX1_advance 16 = .ok (.invokevirtual 92, 3) := by decide +kernel
theorem dX1_advance_19 : decode cX1_advance 19 = .ok (.istore_n 1, 1) := by decide +kernel
theorem dX1_advance_20 : decode cX1_advance 20 = .ok (.aload_n 0, 1) := by decide +kernel
theorem dX1_advance_21 : decode cX1_advance 21 = .ok (.getfield 29, 3) := by decide +kernel
theorem dX1_advance_24 : decode cX1_advance 24 = .ok (.invokevirtual 64, 3) := by decide +kernel
theorem dX1_advance_27 : decode cX1_advance 27 = .ok (.lstore_n 2, 1) := by decide +kernel
theorem dX1_advance_28 : decode cX1_advance 28 = .ok (.aload_n 0, 1) := by decide +kernel
theorem dX1_advance_29 : decode cX1_advance 29 = .ok (.aload_n 0, 1) := by decide +kernel
theorem dX1_advance_30 : decode cX1_advance 30 = .ok (.aload_n 0, 1) := by decide +kernel
theorem dX1_advance_31 : decode cX1_advance 31 = .ok (.getfield 41, 3) := by decide +kernel
theorem dX1_advance_34 : decode cX1_advance 34 = .ok (.iload_n 1, 1) := by decide +kernel
theorem dX1_advance_35 : decode cX1_advance 35 = .ok (.i2l, 1) := by decide +kernel
theorem dX1_advance_36 : decode cX1_advance 36 = .ok (.ladd, 1) := by decide +kernel
theorem dX1_advance_37 : decode cX1_advance 37 = .ok (.invokevirtual 95, 3) := by decide +kernel
theorem dX1_advance_40 : decode cX1_advance 40 = .ok (.putfield 41, 3) := by decide +kernel
theorem dX1_advance_43 : decode cX1_advance 43 = .ok (.aload_n 0, 1) := by decide +kernel
theorem dX1_advance_44 : decode cX1_advance 44 = .ok (.getfield 52, 3) := by decide +kernel
theorem dX1_advance_47 : decode cX1_advance 47 = .ok (.ifCond .eq 18, 3) := by decide +kernel
theorem dX1_advance_50 : decode cX1_advance 50 = .ok (.aload_n 0, 1) := by decide +kernel
theorem dX1_advance_51 : decode cX1_advance 51 = .ok (.aload_n 0, 1) := by decide +kernel
theorem dX1_advance_52 : decode cX1_advance 52 = .ok (.getfield 61, 3) := by decide +kernel
theorem dX1_advance_55 : decode cX1_advance 55 = .ok (.iload_n 1, 1) := by decide +kernel
theorem dX1_advance_56 : decode cX1_advance 56 = .ok (.i2l, 1) := by decide +kernel
theorem dX1_advance_57 : decode cX1_advance 57 = .ok (.ladd, 1) := by decide +kernel
theorem dX1_advance_58 : decode cX1_advance 58 = .ok (.lload_n 2, 1) := by decide +kernel
theorem dX1_advance_59 : decode cX1_advance 59 = .ok (.invokestatic 99, 3) := by decide +kernel
theorem dX1_advance_62 : decode cX1_advance 62 = .ok (.putfield 61, 3) := by decide +kernel
theorem dX1_advance_65 : decode cX1_advance 65 = .ok (.aload_n 0, 1) := by decide +kernel
theorem dX1_advance_66 : decode cX1_advance 66 = .ok (.getfield 41, 3) := by decide +kernel
theorem dX1_advance_69 : decode cX1_advance 69 = .ok (.lload_n 2, 1) := by decide +kernel
theorem dX1_advance_70 : decode cX1_advance 70 = .ok (.lcmp, 1) := by decide +kernel
theorem dX1_advance_71 : decode cX1_advance 71 = .ok (.ifCond .le 13, 3) := by decide +kernel
theorem dX1_advance_74 : decode cX1_advance 74 = .ok (.aload_n 0, 1) := by decide +kernel
theorem dX1_advance_75 : decode cX1_advance 75 = .ok (.lload_n 2, 1) := by decide +kernel
theorem dX1_advance_76 : decode cX1_advance 76 = .ok (.putfield 41, 3) := by decide +kernel
theorem dX1_advance_79 : decode cX1_advance 79 = .ok (.aload_n 0, 1) := by decide +kernel
theorem dX1_advance_80 : decode cX1_advance 80 = .ok (.invokevirtual 101, 3) := by decide +kernel
theorem dX1_advance_83 : decode cX1_advance 83 = .ok (.pop, 1) := by decide +kernel
theorem dX1_advance_84 : decode cX1_advance 84 = .ok (.aload_n 0, 1) := by decide +kernel
theorem dX1_advance_85 : decode cX1_advance 85 = .ok (.getfield 22, 3) := by decide +kernel
theorem dX1_advance_88 : decode cX1_advance 88 = .ok (.bipush 50, 2) := by decide +kernel
theorem dX1_advance_90 : decode cX1_advance 90 = .ok (.if_icmp .lt 8, 3) := by decide +kernel
theorem dX1_advance_93 : decode cX1_advance 93 = .ok (.aload_n 0, 1) := by decide +kernel
theorem dX1_advance_94 : decode cX1_advance 94 = .ok (.invokevirtual 101, 3) := by decide +kernel
theorem dX1_advance_97 : decode cX1_advance 97 = .ok (.pop, 1) := by decide +kernel
theorem dX1_advance_98 : decode cX1_advance 98 = .ok (.return_, 1) := by decide +kernel
theorem dX1_nextStep_0 : decode cX1_nextStep 0 = .ok (.aload_n 0, 1) := by decide +kernel
theorem dX1_nextStep_1 : decode cX1_nextStep 1 = .ok (.invokevirtual 105, 3) := by decide +kernel
theorem dX1_nextStep_4 : decode cX1_nextStep 4 = .ok (.istore_n 1, 1) := by decide +kernel
theorem dX1_nextStep_5 : decode cX1_nextStep 5 = .ok (.iload_n 1, 1) := by decide +kernel
theorem dX1_nextStep_6 : decode cX1_nextStep 6 = .ok (.bipush 10, 2) := by decide +kernel
theorem dX1_nextStep_8 : decode cX1_nextStep 8 = .ok (.idiv, 1) := by decide +kernel
theorem dX1_nextStep_9 : decode cX1_nextStep 9 = .ok (.istore_n 2, 1) := by decide +kernel
theorem dX1_nextStep_10 : decode cX1_nextStep 10 = .ok (.aload_n 0, 1) := by decide +kernel
theorem dX1_nextStep_11 : decode cX1_nextStep 11 = .ok (.getfield 49, 3) := by decide +kernel
theorem dX1_nextStep_14 : decode cX1_nextStep 14 = .ok (.ifCond .le 20, 3) := by decide +kernel
theorem dX1_nextStep_17 : decode cX1_nextStep 17 = .ok (.iload_n 1, 1) := by decide +kernel
theorem dX1_nextStep_18 : decode cX1_nextStep 18 = .ok (.iload_n 2, 1) := by decide +kernel
theorem dX1_nextStep_19 : decode cX1_nextStep 19 = .ok (.iadd, 1) := by decide +kernel
theorem dX1_nextStep_20 : decode cX1_nextStep 20 = .ok (.istore_n 1, 1) := by decide +kernel
theorem dX1_nextStep_21 : decode cX1_nextStep 21 = .ok (.aload_n 0, 1) := by decide +kernel
theorem dX1_nextStep_22 : decode cX1_nextStep 22 = .ok (.dup, 1) := by decide +kernel
theorem dX1_nextStep_23 : decode cX1_nextStep 23 = .ok (.getfield 49, 3) := by decide +kernel
theorem dX1_nextStep_26 : decode cX1_nextStep 26 = .ok (.iconst 1, 1) := by decide +kernel
theorem dX1_nextStep_27 : decode cX1_nextStep 27 = .ok (.isub, 1) := by decide +kernel
theorem dX1_nextStep_28 : decode cX1_nextStep 28 = .ok (.putfield 49, 3) := by decide +kernel
theorem dX1_nextStep_31 : decode cX1_nextStep 31 = .ok (.goto 24, 3) := by decide +kernel
theorem dX1_nextStep_34 : decode cX1_nextStep 34 = .ok (.aload_n 0, 1) := by decide +kernel
theorem dX1_nextStep_35 : decode cX1_nextStep 35 = .ok (.getfield 49, 3) := by decide +kernel
theorem dX1_nextStep_38 : decode cX1_nextStep 38 = .ok (.ifCond .ge 17, 3) := by decide +kernel
theorem dX1_nextStep_41 : decode cX1_nextStep 41 = .ok (.iload_n 1, 1) := by decide +kernel
theorem dX1_nextStep_42 : decode cX1_nextStep 42 = .ok (.iload_n 2, 1) := by decide +kernel
theorem dX1_nextStep_43 : decode cX1_nextStep 43 = .ok (.isub, 1) := by decide +kernel
theorem dX1_nextStep_44 : decode cX1_nextStep 44 = .ok (.istore_n 1, 1) := by decide +kernel
theorem dX1_nextStep_45 : decode cX1_nextStep 45 = .ok (.aload_n 0, 1) := by decide +kernel
theorem dX1_nextStep_46 : decode cX1_nextStep 46 = .ok (.dup, 1) := by decide +kernel
theorem dX1_nextStep_47 : decode cX1_nextStep 47 = .ok (.getfield 49, 3) := by decide +kernel
theorem dX1_nextStep_50 : decode cX1_nextStep 50 = .ok (.iconst 1, 1) := by decide +kernel
theorem dX1_nextStep_51 : decode cX1_nextStep 51 = .ok (.iadd, 1) := by decide +kernel
theorem dX1_nextStep_52 : decode cX1_nextStep 52 = .ok (.putfield 49, 3) := by decide +kernel
theorem dX1_nextStep_55 : decode cX1_nextStep 55 = .ok (.aload_n 0, 1) := by decide +kernel
theorem dX1_nextStep_56 : decode cX1_nextStep 56 = .ok (.getfield 22, 3) := by decide +kernel
theorem dX1_nextStep_59 : decode cX1_nextStep 59 = .ok (.iconst (-1), 1) := by decide +kernel
theorem dX1_nextStep_60 : decode cX1_nextStep 60 = .ok (.if_icmp .eq 25, 3) := by decide +kernel
theorem dX1_nextStep_63 : decode cX1_nextStep 63 = .ok (.iload_n 1, 1) := by decide +kernel
theorem dX1_nextStep_64 : decode cX1_nextStep 64 = .ok (.iconst 1, 1) := by decide +kernel
theorem dX1_nextStep_65 : decode cX1_nextStep 65 = .ok (.aload_n 0, 1) := by decide +kernel
theorem dX1_nextStep_66 : decode cX1_nextStep 66 = .ok (.getfield 22, 3) := by decide +kernel
theorem dX1_nextStep_69 : decode cX1_nextStep 69 = .ok (.bipush 10, 2) := by decide +kernel
theorem dX1_nextStep_71 : decode cX1_nextStep 71 = .ok (.idiv, 1) := by decide +kernel
theorem dX1_nextStep_72 : decode cX1_nextStep 72 = .ok (.iadd, 1) := by decide +kernel
theorem dX1_nextStep_73 : decode cX1_nextStep 73 = .ok (.ishr, 1) := by decide +kernel
theorem dX1_nextStep_74 : decode cX1_nextStep 74 = .ok (.istore_n 1, 1) := by decide +kernel
theorem dX1_nextStep_75 : decode cX1_nextStep 75 = .ok (.aload_n 0, 1) := by decide +kernel
theorem dX1_nextStep_76 : decode cX1_nextStep 76 = .ok (.dup, 1) := by decide +kernel
theorem dX1_nextStep_77 : decode cX1_nextStep 77 = .ok (.getfield 22, 3) := by decide +kernel
theorem dX1_nextStep_80 : decode cX1_nextStep 80 = .ok (.iconst 1, 1) := by decide +kernel
theorem dX1_nextStep_81 : decode cX1_nextStep 81 = .ok (.iadd, 1) := by decide +kernel
theorem dX1_nextStep_82 : decode cX1_nextStep 82 = .ok (.putfield 22, 3) := by decide +kernel
theorem dX1_nextStep_85 : decode cX1_nextStep 85 = .ok (.iload_n 1, 1) := by decide +kernel
theorem dX1_nextStep_86 : decode cX1_nextStep 86 = .ok (.ireturn, 1) := by decide +kernel
theorem dX1_loopedBack_0 : decode cX1_loopedBack 0 = .ok (.aload_n 0, 1) := by decide +kernel
theorem dX1_loopedBack_1 : decode cX1_loopedBack 1 = .ok (.getfield 58, 3) := by decide +kernel
theorem dX1_loopedBack_4 : decode cX1_loopedBack 4 = .ok (.aload_n 0, 1) := by decide +kernel
theorem dX1_loopedBack_5 : decode cX1_loopedBack 5 = .ok (.getfield 26, 3) := by decide +kernel
theorem dX1_loopedBack_8 : decode cX1_loopedBack 8 = .ok (.isub, 1) := by decide +kernel
theorem dX1_loopedBack_9 : decode cX1_loopedBack 9 = .ok (.i2l, 1) := by decide +kernel
theorem dX1_loopedBack_10 : decode cX1_loopedBack 10 = .ok (.ldc2_w 68, 3) := by decide +kernel
theorem dX1_loopedBack_13 : decode cX1_loopedBack 13 = .ok (.lmul, 1) := by decide +kernel
theorem dX1_loopedBack_14 : decode cX1_loopedBack 14 = .ok (.lstore_n 3, 1) := by decide +kernel
theorem dX1_loopedBack_15 : decode cX1_loopedBack 15 = .ok (.aload_n 0, 1) := by decide +kernel
theorem dX1_loopedBack_16 : decode cX1_loopedBack 16 = .ok (.getfield 26, 3) := by decide +kernel
theorem dX1_loopedBack_19 : decode cX1_loopedBack 19 = .ok (.iconst (-1), 1) := by decide +kernel
theorem dX1_loopedBack_20 : decode cX1_loopedBack 20 = .ok (.if_icmp .eq 23, 3) := by decide +kernel
theorem dX1_loopedBack_23 : decode cX1_loopedBack 23 = .ok (.lload_n 3, 1) := by decide +kernel
theorem dX1_loopedBack_24 : decode cX1_loopedBack 24 = .ok (.lconst 0, 1) := by decide +kernel
theorem dX1_loopedBack_25 : decode cX1_loopedBack 25 = .ok (.lcmp, 1) := by decide +kernel
theorem dX1_loopedBack_26 : decode cX1_loopedBack 26 = .ok (.ifCond .le 17, 3) := by decide +kernel
theorem dX1_loopedBack_29 : decode cX1_loopedBack 29 = .ok (.lload_n 1, 1) := by decide +kernel
theorem dX1_loopedBack_30 : decode cX1_loopedBack 30 = .ok (.aload_n 0, 1) := by decide +kernel
theorem dX1_loopedBack_31 : decode cX1_loopedBack 31 = .ok (.getfield 58, 3) := by decide +kernel
theorem dX1_loopedBack_34 : decode cX1_loopedBack 34 = .ok (.i2l, 1) := by decide +kernel
theorem dX1_loopedBack_35 : decode cX1_loopedBack 35 = .ok (.ldc2_w 68, 3) := by decide +kernel
theorem dX1_loopedBack_38 : decode cX1_loopedBack 38 = .ok (.lmul, 1) := by decide +kernel
theorem dX1_loopedBack_39 : decode cX1_loopedBack 39 = .ok (.lcmp, 1) := by decide +kernel
theorem dX1_loopedBack_40 : decode cX1_loopedBack 40 = .ok (.ifCond .ge 5, 3) := by decide +kernel
theorem dX1_loopedBack_43 : decode cX1_loopedBack 43 = .ok (.lload_n 1, 1) := by decide +kernel
theorem dX1_loopedBack_44 : decode cX1_loopedBack 44 = .ok (.lreturn, 1) := by decide +kernel
theorem dX1_loopedBack_45 : decode cX1_loopedBack 45 = .ok (.aload_n 0, 1) := by decide +kernel
theorem dX1_loopedBack_46 : decode cX1_loopedBack 46 = .ok (.getfield 26, 3) := by decide +kernel
theorem dX1_loopedBack_49 : decode cX1_loopedBack 49 = .ok (.i2l, 1) := by decide +kernel
theorem dX1_loopedBack_50 : decode cX1_loopedBack 50 = .ok (.ldc2_w 68, 3) := by decide +kernel
theorem dX1_loopedBack_53 : decode cX1_loopedBack 53 = .ok (.lmul, 1) := by decide +kernel
theorem dX1_loopedBack_54 : decode cX1_loopedBack 54 = .ok (.lload_n 1, 1) := by decide +kernel
theorem dX1_loopedBack_55 : decode cX1_loopedBack 55 = .ok (.aload_n 0, 1) := by decide +kernel
theorem dX1_loopedBack_56 : decode cX1_loopedBack 56 = .ok (.getfield 26, 3) := by decide +kernel
theorem dX1_loopedBack_59 : decode cX1_loopedBack 59 = .ok (.i2l, 1) := by decide +kernel
theorem dX1_loopedBack_60 : decode cX1_loopedBack 60 = .ok (.ldc2_w 68, 3) := by decide +kernel
theorem dX1_loopedBack_63 : decode cX1_loopedBack 63 = .ok (.lmul, 1) := by decide +kernel
theorem dX1_loopedBack_64 : decode cX1_loopedBack 64 = .ok (.lsub, 1) := by decide +kernel
theorem dX1_loopedBack_65 : decode cX1_loopedBack 65 = .ok (.lload_n 3, 1) := by decide +kernel
theorem dX1_loopedBack_66 : decode cX1_loopedBack 66 = .ok (.lrem, 1) := by decide +kernel
theorem dX1_loopedBack_67 : decode cX1_loopedBack 67 = .ok (.ladd, 1) := by decide +kernel
theorem dX1_loopedBack_68 : decode cX1_loopedBack 68 = .ok (.lreturn, 1) := by decide +kernel
theorem dX1_levelAt_0 : decode cX1_levelAt 0 = .ok (.aload_n 0, 1) := by decide +kernel
theorem dX1_levelAt_1 : decode cX1_levelAt 1 = .ok (.getfield 45, 3) := by decide +kernel
theorem dX1_levelAt_4 : decode cX1_levelAt 4 = .ok (.ifCond .eq 14, 3) := by decide +kernel
theorem dX1_levelAt_7 : decode cX1_levelAt 7 = .ok (.aload_n 0, 1) := by decide +kernel
theorem dX1_levelAt_8 : decode cX1_levelAt 8 = .ok (.getfield 12, 3) := by decide +kernel
theorem dX1_levelAt_11 : decode cX1_levelAt 11 = .ok (.iload_n 1, 1) := by decide +kernel
theorem dX1_levelAt_12 : decode cX1_levelAt 12 = .ok (.invokevirtual 108, 3) := by decide +kernel
theorem dX1_levelAt_15 : decode cX1_levelAt 15 = .ok (.goto 4, 3) := by decide +kernel
theorem dX1_levelAt_18 : decode cX1_levelAt 18 = .ok (.iconst 0, 1) := by decide +kernel
theorem dX1_levelAt_19 : decode cX1_levelAt 19 = .ok (.ireturn, 1) := by decide +kernel
theorem dX1_isHeard_0 : decode cX1_isHeard 0 = .ok (.aload_n 0, 1) := by decide +kernel
theorem dX1_isHeard_1 : decode cX1_isHeard 1 = .ok (.getfield 45, 3) := by decide +kernel
theorem dX1_isHeard_4 : decode cX1_isHeard 4 = .ok (.ifCond .eq 20, 3) := by decide +kernel
theorem dX1_isHeard_7 : decode cX1_isHeard 7 = .ok (.aload_n 0, 1) := by decide +kernel
theorem dX1_isHeard_8 : decode cX1_isHeard 8 = .ok (.getfield 12, 3) := by decide +kernel
theorem dX1_isHeard_11 : decode cX1_isHeard 11 = .ok (.iload_n 1, 1) := by decide +kernel
theorem dX1_isHeard_12 : decode cX1_isHeard 12 = .ok (.invokevirtual 108, 3) := by decide +kernel
theorem dX1_isHeard_15 : decode cX1_isHeard 15 = .ok (.bipush 30, 2) := by decide +kernel
theorem dX1_isHeard_17 : decode cX1_isHeard 17 = .ok (.if_icmp .lt 7, 3) := by decide +kernel
theorem dX1_isHeard_20 : decode cX1_isHeard 20 = .ok (.iconst 1, 1) := by decide +kernel
theorem dX1_isHeard_21 : decode cX1_isHeard 21 = .ok (.goto 4, 3) := by decide +kernel
theorem dX1_isHeard_24 : decode cX1_isHeard 24 = .ok (.iconst 0, 1) := by decide +kernel
theorem dX1_isHeard_25 : decode cX1_isHeard 25 = .ok (.ireturn, 1) := by decide +kernel
theorem dX1_loudnessAt_0 : decode cX1_loudnessAt 0 = .ok (.aload_n 0, 1) := by decide +kernel
theorem dX1_loudnessAt_1 : decode cX1_loudnessAt 1 = .ok (.getfield 29, 3) := by decide +kernel
theorem dX1_loudnessAt_4 : decode cX1_loudnessAt 4 = .ok (.ifnonnull 7, 3) := by decide +kernel
theorem dX1_loudnessAt_7 : decode cX1_loudnessAt 7 = .ok (.iconst 0, 1) := by decide +kernel
theorem dX1_loudnessAt_8 : decode cX1_loudnessAt 8 = .ok (.goto 26, 3) := by decide +kernel
theorem dX1_loudnessAt_11 : decode cX1_loudnessAt 11 = .ok (.iload_n 1, 1) := by decide +kernel
theorem dX1_loudnessAt_12 : decode cX1_loudnessAt 12 = .ok (.aload_n 0, 1) := by decide +kernel
theorem dX1_loudnessAt_13 : decode cX1_loudnessAt 13 = .ok (.getfield 29, 3) := by decide +kernel
theorem dX1_loudnessAt_16 : decode cX1_loudnessAt 16 = .ok (.getfield 112, 3) := by decide +kernel
theorem dX1_loudnessAt_19 : decode cX1_loudnessAt 19 = .ok (.iconst 1, 1) := by decide +kernel
theorem dX1_loudnessAt_20 : decode cX1_loudnessAt 20 = .ok (.iadd, 1) := by decide +kernel
theorem dX1_loudnessAt_21 : decode cX1_loudnessAt 21 = .ok (.imul, 1) := by decide +kernel
theorem dX1_loudnessAt_22 : decode cX1_loudnessAt 22 = .ok (.aload_n 0, 1) := by decide +kernel
theorem dX1_loudnessAt_23 : decode cX1_loudnessAt 23 = .ok (.getfield 12, 3) := by decide +kernel
theorem dX1_loudnessAt_26 : decode cX1_loudnessAt 26 = .ok (.invokevirtual 115, 3) := by decide +kernel
theorem dX1_loudnessAt_29 : decode cX1_loudnessAt 29 = .ok (.imul, 1) := by decide +kernel
theorem dX1_loudnessAt_30 : decode cX1_loudnessAt 30 = .ok (.sipush 300, 3) := by decide +kernel
theorem dX1_loudnessAt_33 : decode cX1_loudnessAt 33 = .ok (.idiv, 1) := by decide +kernel
theorem dX1_loudnessAt_34 : decode cX1_loudnessAt 34 = .ok (.ireturn, 1) := by decide +kernel
theorem dX1_thousandthsFrom_0 : decode cX1_thousandthsFrom 0 = .ok (.aload_n 0, 1) := by decide +kernel
theorem dX1_thousandthsFrom_1 : decode cX1_thousandthsFrom 1 = .ok (.getfield 41, 3) := by decide +kernel
theorem dX1_thousandthsFrom_4 : decode cX1_thousandthsFrom 4 = .ok (.aload_n 1, 1) := by decide +kernel
theorem dX1_thousandthsFrom_5 : decode cX1_thousandthsFrom 5 = .ok (.getfield 41, 3) := by decide +kernel
theorem dX1_thousandthsFrom_8 : decode cX1_thousandthsFrom 8 = .ok (.lsub, 1) := by decide +kernel
theorem dX1_thousandthsFrom_9 : decode cX1_thousandthsFrom 9 = .ok (.ldc2_w 68, 3) := by decide +kernel
theorem dX1_thousandthsFrom_12 : decode cX1_thousandthsFrom 12 = .ok (.invokestatic 118, 3) := by decide +kernel
theorem dX1_thousandthsFrom_15 : decode cX1_thousandthsFrom 15 = .ok (.ldc2_w 121, 3) := by decide +kernel
theorem dX1_thousandthsFrom_18 : decode cX1_thousandthsFrom 18 = .ok (.ldiv, 1) := by decide +kernel
theorem dX1_thousandthsFrom_19 : decode cX1_thousandthsFrom 19 = .ok (.l2i, 1) := by decide +kernel
theorem dX1_thousandthsFrom_20 : decode cX1_thousandthsFrom 20 = .ok (.istore_n 2, 1) := by decide +kernel
theorem dX1_thousandthsFrom_21 : decode cX1_thousandthsFrom 21 = .ok (.iload_n 2, 1) := by decide +kernel
theorem dX1_thousandthsFrom_22 : decode cX1_thousandthsFrom 22 = .ok (.sipush 500, 3) := by decide +kernel
theorem dX1_thousandthsFrom_25 : decode cX1_thousandthsFrom 25 = .ok (.if_icmp .lt 11, 3) := by decide +kernel
theorem dX1_thousandthsFrom_28 : decode cX1_thousandthsFrom 28 = .ok (.iload_n 2, 1) := by decide +kernel
theorem dX1_thousandthsFrom_29 : decode cX1_thousandthsFrom 29 = .ok (.sipush 1000, 3) := by decide +kernel
theorem dX1_thousandthsFrom_32 : decode cX1_thousandthsFrom 32 = .ok (.isub, 1) := by decide +kernel
theorem dX1_thousandthsFrom_33 : decode cX1_thousandthsFrom 33 = .ok (.goto 4, 3) := by decide +kernel
theorem dX1_thousandthsFrom_36 : decode cX1_thousandthsFrom 36 = .ok (.iload_n 2, 1) := by decide +kernel
theorem dX1_thousandthsFrom_37 : decode cX1_thousandthsFrom 37 = .ok (.ireturn, 1) := by decide +kernel
theorem dX1_lockTo_0 : decode cX1_lockTo 0 = .ok (.aload_n 0, 1) := by decide +kernel
theorem dX1_lockTo_1 : decode cX1_lockTo 1 = .ok (.getfield 29, 3) := by decide +kernel
theorem dX1_lockTo_4 : decode cX1_lockTo 4 = .ok (.ifnull 7, 3) := by decide +kernel
theorem dX1_lockTo_7 : decode cX1_lockTo 7 = .ok (.aload_n 1, 1) := by decide +kernel
theorem dX1_lockTo_8 : decode cX1_lockTo 8 = .ok (.ifnonnull 8, 3) := by decide +kernel
theorem dX1_lockTo_11 : decode cX1_lockTo 11 = .ok (.aload_n 0, 1) := by decide +kernel
theorem dX1_lockTo_12 : decode cX1_lockTo 12 = .ok (.getfield 55, 3) := by decide +kernel
theorem dX1_lockTo_15 : decode cX1_lockTo 15 = .ok (.ireturn, 1) := by decide +kernel
theorem dX1_lockTo_16 : decode cX1_lockTo 16 = .ok (.aload_n 0, 1) := by decide +kernel
theorem dX1_lockTo_17 : decode cX1_lockTo 17 = .ok (.aload_n 0, 1) := by decide +kernel
theorem dX1_lockTo_18 : decode cX1_lockTo 18 = .ok (.aload_n 1, 1) := by decide +kernel
theorem dX1_lockTo_19 : decode cX1_lockTo 19 = .ok (.invokevirtual 105, 3) := by decide +kernel
theorem dX1_lockTo_22 : decode cX1_lockTo 22 = .ok (.invokevirtual 123, 3) := by decide +kernel
theorem dX1_lockTo_25 : decode cX1_lockTo 25 = .ok (.putfield 55, 3) := by decide +kernel
theorem dX1_lockTo_28 : decode cX1_lockTo 28 = .ok (.aload_n 1, 1) := by decide +kernel
theorem dX1_lockTo_29 : decode cX1_lockTo 29 = .ok (.getfield 41, 3) := by decide +kernel
theorem dX1_lockTo_32 : decode cX1_lockTo 32 = .ok (.aload_n 0, 1) := by decide +kernel
theorem dX1_lockTo_33 : decode cX1_lockTo 33 = .ok (.getfield 41, 3) := by decide +kernel
theorem dX1_lockTo_36 : decode cX1_lockTo 36 = .ok (.lsub, 1) := by decide +kernel
theorem dX1_lockTo_37 : decode cX1_lockTo 37 = .ok (.ldc2_w 68, 3) := by decide +kernel
theorem dX1_lockTo_40 : decode cX1_lockTo 40 = .ok (.invokestatic 118, 3) := by decide +kernel
theorem dX1_lockTo_43 : decode cX1_lockTo 43 = .ok (.lstore_n 2, 1) := by decide +kernel
theorem dX1_lockTo_44 : decode cX1_lockTo 44 = .ok (.lload_n 2, 1) := by decide +kernel
theorem dX1_lockTo_45 : decode cX1_lockTo 45 = .ok (.ldc2_w 68, 3) := by decide +kernel
theorem dX1_lockTo_48 : decode cX1_lockTo 48 = .ok (.lload_n 2, 1) := by decide +kernel
theorem dX1_lockTo_49 : decode cX1_lockTo 49 = .ok (.lsub, 1) := by decide +kernel
theorem dX1_lockTo_50 : decode cX1_lockTo 50 = .ok (.lcmp, 1) := by decide +kernel
theorem dX1_lockTo_51 : decode cX1_lockTo 51 = .ok (.ifCond .ge 12, 3) := by decide +kernel
theorem dX1_lockTo_54 : decode cX1_lockTo 54 = .ok (.aload_n 0, 1) := by decide +kernel
theorem dX1_lockTo_55 : decode cX1_lockTo 55 = .ok (.getfield 41, 3) := by decide +kernel
theorem dX1_lockTo_58 : decode cX1_lockTo 58 = .ok (.lload_n 2, 1) := by decide +kernel
theorem dX1_lockTo_59 : decode cX1_lockTo 59 = .ok (.ladd, 1) := by decide +kernel
theorem dX1_lockTo_60 : decode cX1_lockTo 60 = .ok (.goto 13, 3) := by decide +kernel
theorem dX1_lockTo_63 : decode cX1_lockTo 63 = .ok (.aload_n 0, 1) := by decide +kernel
theorem dX1_lockTo_64 : decode cX1_lockTo 64 = .ok (.getfield 41, 3) := by decide +kernel
theorem dX1_lockTo_67 : decode cX1_lockTo 67 = .ok (.lload_n 2, 1) := by decide +kernel
theorem dX1_lockTo_68 : decode cX1_lockTo 68 = .ok (.ladd, 1) := by decide +kernel
theorem dX1_lockTo_69 : decode cX1_lockTo 69 = .ok (.ldc2_w 68, 3) := by decide +kernel
theorem dX1_lockTo_72 : decode cX1_lockTo 72 = .ok (.lsub, 1) := by decide +kernel
theorem dX1_lockTo_73 : decode cX1_lockTo 73 = .ok (.lstore 4, 2) := by decide +kernel
theorem dX1_lockTo_75 : decode cX1_lockTo 75 = .ok (.lload 4, 2) := by decide +kernel
theorem dX1_lockTo_77 : decode cX1_lockTo 77 = .ok (.lconst 0, 1) := by decide +kernel
theorem dX1_lockTo_78 : decode cX1_lockTo 78 = .ok (.lcmp, 1) := by decide +kernel
theorem dX1_lockTo_79 : decode cX1_lockTo 79 = .ok (.ifCond .ge 14, 3) := by decide +kernel
theorem dX1_lockTo_82 : decode cX1_lockTo 82 = .ok (.lload 4, 2) := by decide +kernel
theorem dX1_lockTo_84 : decode cX1_lockTo 84 = .ok (.ldc2_w 68, 3) := by decide +kernel
theorem dX1_lockTo_87 : decode cX1_lockTo 87 = .ok (.ladd, 1) := by decide +kernel
theorem dX1_lockTo_88 : decode cX1_lockTo 88 = .ok (.lstore 4, 2) := by decide +kernel
theorem dX1_lockTo_90 : decode cX1_lockTo 90 = .ok (.goto 24, 3) := by decide +kernel
theorem dX1_lockTo_93 : decode cX1_lockTo 93 = .ok (.lload 4, 2) := by decide +kernel
theorem dX1_lockTo_95 : decode cX1_lockTo 95 = .ok (.aload_n 0, 1) := by decide +kernel
theorem dX1_lockTo_96 : decode cX1_lockTo 96 = .ok (.getfield 29, 3) := by decide +kernel
theorem dX1_lockTo_99 : decode cX1_lockTo 99 = .ok (.invokevirtual 64, 3) := by decide +kernel
theorem dX1_lockTo_102 : decode cX1_lockTo 102 = .ok (.lcmp, 1) := by decide +kernel
theorem dX1_lockTo_103 : decode cX1_lockTo 103 = .ok (.ifCond .le 11, 3) := by decide +kernel
theorem dX1_lockTo_106 : decode cX1_lockTo 106 = .ok (.lload 4, 2) := by decide +kernel
theorem dX1_lockTo_108 : decode cX1_lockTo 108 = .ok (.ldc2_w 68, 3) := by decide +kernel
theorem dX1_lockTo_111 : decode cX1_lockTo 111 = .ok (.lsub, 1) := by decide +kernel
theorem dX1_lockTo_112 : decode cX1_lockTo 112 = .ok (.lstore 4, 2) := by decide +kernel
theorem dX1_lockTo_114 : decode cX1_lockTo 114 = .ok (.aload_n 0, 1) := by decide +kernel
theorem dX1_lockTo_115 : decode cX1_lockTo 115 = .ok (.lload 4, 2) := by decide +kernel
theorem dX1_lockTo_117 : decode cX1_lockTo 117 = .ok (.putfield 41, 3) := by decide +kernel
theorem dX1_lockTo_120 : decode cX1_lockTo 120 = .ok (.aload_n 0, 1) := by decide +kernel
theorem dX1_lockTo_121 : decode cX1_lockTo 121 = .ok (.getfield 55, 3) := by decide +kernel
theorem dX1_lockTo_124 : decode cX1_lockTo 124 = .ok (.ireturn, 1) := by decide +kernel
theorem dX1_nearestPitch_0 : decode cX1_nearestPitch 0 = .ok (.sipush (-160), 3) := by decide +kernel
theorem dX1_nearestPitch_3 : decode cX1_nearestPitch 3 = .ok (.istore_n 2, 1) := by decide +kernel
theorem dX1_nearestPitch_4 : decode cX1_nearestPitch 4 = .ok (.aload_n 0, 1) := by decide +kernel
theorem dX1_nearestPitch_5 : decode cX1_nearestPitch 5 = .ok (.iload_n 2, 1) := by decide +kernel
theorem dX1_nearestPitch_6 : decode cX1_nearestPitch 6 = .ok (.iload_n 1, 1) := by decide +kernel
theorem dX1_nearestPitch_7 : decode cX1_nearestPitch 7 = .ok (.invokevirtual 126, 3) := by decide +kernel
theorem dX1_nearestPitch_10 : decode cX1_nearestPitch 10 = .ok (.istore_n 3, 1) := by decide +kernel
theorem dX1_nearestPitch_11 : decode cX1_nearestPitch 11 = .ok (.iload_n 2, 1) := by decide +kernel
theorem dX1_nearestPitch_12 : decode cX1_nearestPitch 12 = .ok (.iconst 1, 1) := by decide +kernel
theorem dX1_nearestPitch_13 : decode cX1_nearestPitch 13 = .ok (.iadd, 1) := by decide +kernel
theorem dX1_nearestPitch_14 : decode cX1_nearestPitch 14 = .ok (.istore 4, 2) := by decide +kernel
theorem dX1_nearestPitch_16 : decode cX1_nearestPitch 16 = .ok (.iload 4, 2) := by decide +kernel
theorem dX1_nearestPitch_18 : decode cX1_nearestPitch 18 = .ok (.sipush 160, 3) := by decide +kernel
theorem dX1_nearestPitch_21 : decode cX1_nearestPitch 21 = .ok (.if_icmp .gt 30, 3) := by decide +kernel
theorem dX1_nearestPitch_24 : decode cX1_nearestPitch 24 = .ok (.aload_n 0, 1) := by decide +kernel
theorem dX1_nearestPitch_25 : decode cX1_nearestPitch 25 = .ok (.iload 4, 2) := by decide +kernel
theorem dX1_nearestPitch_27 : decode cX1_nearestPitch 27 = .ok (.iload_n 1, 1) := by decide +kernel
theorem dX1_nearestPitch_28 : decode cX1_nearestPitch 28 = .ok (.invokevirtual 126, 3) := by decide +kernel
theorem dX1_nearestPitch_31 : decode cX1_nearestPitch 31 = .ok (.istore 5, 2) := by decide +kernel
theorem dX1_nearestPitch_33 : decode cX1_nearestPitch 33 = .ok (.iload 5, 2) := by decide +kernel
theorem dX1_nearestPitch_35 : decode cX1_nearestPitch 35 = .ok (.iload_n 3, 1) := by decide +kernel
theorem dX1_nearestPitch_36 : decode cX1_nearestPitch 36 = .ok (.if_icmp .ge 9, 3) := by decide +kernel
theorem dX1_nearestPitch_39 : decode cX1_nearestPitch 39 = .ok (.iload 5, 2) := by decide +kernel
theorem dX1_nearestPitch_41 : decode cX1_nearestPitch 41 = .ok (.istore_n 3, 1) := by decide +kernel
theorem dX1_nearestPitch_42 : decode cX1_nearestPitch 42 = .ok (.iload 4, 2) := by decide +kernel
theorem dX1_nearestPitch_44 : decode cX1_nearestPitch 44 = .ok (.istore_n 2, 1) := by decide +kernel
theorem dX1_nearestPitch_45 : decode cX1_nearestPitch 45 = .ok (.iinc 4 1, 3) := by decide +kernel
theorem dX1_nearestPitch_48 : decode cX1_nearestPitch 48 = .ok (.goto (-32), 3) := by decide +kernel
theorem dX1_nearestPitch_51 : decode cX1_nearestPitch 51 = .ok (.iload_n 2, 1) := by decide +kernel
theorem dX1_nearestPitch_52 : decode cX1_nearestPitch 52 = .ok (.ireturn, 1) := by decide +kernel
theorem dX1_paceOff_0 : decode cX1_paceOff 0 = .ok (.aload_n 0, 1) := by decide +kernel
theorem dX1_paceOff_1 : decode cX1_paceOff 1 = .ok (.getfield 29, 3) := by decide +kernel
theorem dX1_paceOff_4 : decode cX1_paceOff 4 = .ok (.ifnonnull 7, 3) := by decide +kernel
theorem dX1_paceOff_7 : decode cX1_paceOff 7 = .ok (.iconst 0, 1) := by decide +kernel
theorem dX1_paceOff_8 : decode cX1_paceOff 8 = .ok (.goto 21, 3) := by decide +kernel
theorem dX1_paceOff_11 : decode cX1_paceOff 11 = .ok (.aload_n 0, 1) := by decide +kernel
theorem dX1_paceOff_12 : decode cX1_paceOff 12 = .ok (.getfield 29, 3) := by decide +kernel
theorem dX1_paceOff_15 : decode cX1_paceOff 15 = .ok (.getfield 89, 3) := by decide +kernel
theorem dX1_paceOff_18 : decode cX1_paceOff 18 = .ok (.sipush 1000, 3) := by decide +kernel
theorem dX1_paceOff_21 : decode cX1_paceOff 21 = .ok (.iload_n 1, 1) := by decide +kernel
theorem dX1_paceOff_22 : decode cX1_paceOff 22 = .ok (.iadd, 1) := by decide +kernel
theorem dX1_paceOff_23 : decode cX1_paceOff 23 = .ok (.imul, 1) := by decide +kernel
theorem dX1_paceOff_24 : decode cX1_paceOff 24 = .ok (.iload_n 2, 1) := by decide +kernel
theorem dX1_paceOff_25 : decode cX1_paceOff 25 = .ok (.isub, 1) := by decide +kernel
theorem dX1_paceOff_26 : decode cX1_paceOff 26 = .ok (.invokestatic 129, 3) := by decide +kernel
theorem dX1_paceOff_29 : decode cX1_paceOff 29 = .ok (.ireturn, 1) := by decide +kernel
theorem dX1_listenTo_0 : decode cX1_listenTo 0 = .ok (.aload_n 0, 1) := by decide +kernel
theorem dX1_listenTo_1 : decode cX1_listenTo 1 = .ok (.getfield 29, 3) := by decide +kernel
theorem dX1_listenTo_4 : decode cX1_listenTo 4 = .ok (.ifnull 7, 3) := by decide +kernel
theorem dX1_listenTo_7 : decode cX1_listenTo 7 = .ok (.aload_n 1, 1) := by decide +kernel
theorem dX1_listenTo_8 : decode cX1_listenTo 8 = .ok (.ifnonnull 5, 3) := by decide +kernel
theorem dX1_listenTo_11 : decode cX1_listenTo 11 = .ok (.iconst 0, 1) := by decide +kernel
theorem dX1_listenTo_12 : decode cX1_listenTo 12 = .ok (.ireturn, 1) := by decide +kernel
theorem dX1_listenTo_13 : decode cX1_listenTo 13 = .ok (.iconst 0, 1) := by decide +kernel
theorem dX1_listenTo_14 : decode cX1_listenTo 14 = .ok (.istore_n 3, 1) := by decide +kernel
theorem dX1_listenTo_15 : decode cX1_listenTo 15 = .ok (.iconst 0, 1) := by decide +kernel
theorem dX1_listenTo_16 : decode cX1_listenTo 16 = .ok (.istore 4, 2) := by decide +kernel
theorem dX1_listenTo_18 : decode cX1_listenTo 18 = .ok (.iload 4, 2) := by decide +kernel
theorem dX1_listenTo_20 : decode cX1_listenTo 20 = .ok (.iload_n 2, 1) := by decide +kernel
theorem dX1_listenTo_21 : decode cX1_listenTo 21 = .ok (.if_icmp .ge 53, 3) := by decide +kernel
theorem dX1_listenTo_24 : decode cX1_listenTo 24 = .ok (.aload_n 0, 1) := by decide +kernel
theorem dX1_listenTo_25 : decode cX1_listenTo 25 = .ok (.aload_n 1, 1) := by decide +kernel
theorem dX1_listenTo_26 : decode cX1_listenTo 26 = .ok (.invokevirtual 132, 3) := by decide +kernel
theorem dX1_listenTo_29 : decode cX1_listenTo 29 = .ok (.istore 5, 2) := by decide +kernel
theorem dX1_listenTo_31 : decode cX1_listenTo 31 = .ok (.aload_n 0, 1) := by decide +kernel
theorem dX1_listenTo_32 : decode cX1_listenTo 32 = .ok (.getfield 41, 3) := by decide +kernel
theorem dX1_listenTo_35 : decode cX1_listenTo 35 = .ok (.iload_n 3, 1) := by decide +kernel
theorem dX1_listenTo_36 : decode cX1_listenTo 36 = .ok (.iconst 2, 1) := by decide +kernel
theorem dX1_listenTo_37 : decode cX1_listenTo 37 = .ok (.idiv, 1) := by decide +kernel
theorem dX1_listenTo_38 : decode cX1_listenTo 38 = .ok (.ldc 136, 2) := by decide +kernel
theorem dX1_listenTo_40 : decode cX1_listenTo 40 = .ok (.imul, 1) := by decide +kernel
theorem dX1_listenTo_41 : decode cX1_listenTo 41 = .ok (.i2l, 1) := by decide +kernel
theorem dX1_listenTo_42 : decode cX1_listenTo 42 = .ok (.lsub, 1) := by decide +kernel
theorem dX1_listenTo_43 : decode cX1_listenTo 43 = .ok (.lstore 6, 2) := by decide +kernel
theorem dX1_listenTo_45 : decode cX1_listenTo 45 = .ok (.aload_n 0, 1) := by decide +kernel
theorem dX1_listenTo_46 : decode cX1_listenTo 46 = .ok (.lconst 0, 1) := by decide +kernel
theorem dX1_listenTo_47 : decode cX1_listenTo 47 = .ok (.lload 6, 2) := by decide +kernel
theorem dX1_listenTo_49 : decode cX1_listenTo 49 = .ok (.aload_n 0, 1) := by decide +kernel
theorem dX1_listenTo_50 : decode cX1_listenTo 50 = .ok (.getfield 29, 3) := by decide +kernel
theorem dX1_listenTo_53 : decode cX1_listenTo 53 = .ok (.invokevirtual 64, 3) := by decide +kernel
theorem dX1_listenTo_56 : decode cX1_listenTo 56 = .ok (.invokestatic 99, 3) := by decide +kernel
theorem dX1_listenTo_59 : decode cX1_listenTo 59 = .ok (.invokestatic 85, 3) := by decide +kernel
theorem dX1_listenTo_62 : decode cX1_listenTo 62 = .ok (.putfield 41, 3) := by decide +kernel
theorem dX1_listenTo_65 : decode cX1_listenTo 65 = .ok (.iload 5, 2) := by decide +kernel
theorem dX1_listenTo_67 : decode cX1_listenTo 67 = .ok (.istore_n 3, 1) := by decide +kernel
theorem dX1_listenTo_68 : decode cX1_listenTo 68 = .ok (.iinc 4 1, 3) := by decide +kernel
theorem dX1_listenTo_71 : decode cX1_listenTo 71 = .ok (.goto (-53), 3) := by decide +kernel
theorem dX1_listenTo_74 : decode cX1_listenTo 74 = .ok (.aload_n 0, 1) := by decide +kernel
theorem dX1_listenTo_75 : decode cX1_listenTo 75 = .ok (.aload_n 1, 1) := by decide +kernel
theorem dX1_listenTo_76 : decode cX1_listenTo 76 = .ok (.invokevirtual 132, 3) := by decide +kernel
theorem dX1_listenTo_79 : decode cX1_listenTo 79 = .ok (.ireturn, 1) := by decide +kernel
theorem dX2_init_0 : decode cX2_init 0 = .ok (.aload_n 0, 1) := by decide +kernel
theorem dX2_init_1 : decode cX2_init 1 = .ok (.invokespecial 3, 3) := by decide +kernel
theorem dX2_init_4 : decode cX2_init 4 = .ok (.aload_n 0, 1) := by decide +kernel
theorem dX2_init_5 : decode cX2_init 5 = .ok (.iload_n 1, 1) := by decide +kernel
theorem dX2_init_6 : decode cX2_init 6 = .ok (.putfield 9, 3) := by decide +kernel
theorem dX2_init_9 : decode cX2_init 9 = .ok (.return_, 1) := by decide +kernel
theorem dX2_fill_0 : decode cX2_fill 0 = .ok (.aload_n 0, 1) := by decide +kernel
theorem dX2_fill_1 : decode cX2_fill 1 = .ok (.iload_n 1, 1) := by decide +kernel
theorem dX2_fill_2 : decode cX2_fill 2 = .ok (.putfield 15, 3) := by decide +kernel
theorem dX2_fill_5 : decode cX2_fill 5 = .ok (.aload_n 0, 1) := by decide +kernel
theorem dX2_fill_6 : decode cX2_fill 6 = .ok (.iload_n 2, 1) := by decide +kernel
theorem dX2_fill_7 : decode cX2_fill 7 = .ok (.putfield 18, 3) := by decide +kernel
theorem dX2_fill_10 : decode cX2_fill 10 = .ok (.aload_n 0, 1) := by decide +kernel
theorem dX2_fill_11 : decode cX2_fill 11 = .ok (.iload_n 3, 1) := by decide +kernel
theorem dX2_fill_12 : decode cX2_fill 12 = .ok (.putfield 21, 3) := by decide +kernel
theorem dX2_fill_15 : decode cX2_fill 15 = .ok (.aload_n 0, 1) := by decide +kernel
theorem dX2_fill_16 : decode cX2_fill 16 = .ok (.iload 4, 2) := by decide +kernel
theorem dX2_fill_18 : decode cX2_fill 18 = .ok (.putfield 24, 3) := by decide +kernel
theorem dX2_fill_21 : decode cX2_fill 21 = .ok (.aload_n 0, 1) := by decide +kernel
theorem dX2_fill_22 : decode cX2_fill 22 = .ok (.iload 5, 2) := by decide +kernel
theorem dX2_fill_24 : decode cX2_fill 24 = .ok (.putfield 27, 3) := by decide +kernel
theorem dX2_fill_27 : decode cX2_fill 27 = .ok (.aload_n 0, 1) := by decide +kernel
theorem dX2_fill_28 : decode cX2_fill 28 = .ok (.iload 6, 2) := by decide +kernel
theorem dX2_fill_30 : decode cX2_fill 30 = .ok (.putfield 30, 3) := by decide +kernel
theorem dX2_fill_33 : decode cX2_fill 33 = .ok (.aload_n 0, 1) := by decide +kernel
theorem dX2_fill_34 : decode cX2_fill 34 = .ok (.iload 7, 2) := by decide +kernel
theorem dX2_fill_36 : decode cX2_fill 36 = .ok (.putfield 33, 3) := by decide +kernel
theorem dX2_fill_39 : decode cX2_fill 39 = .ok (.return_, 1) := by decide +kernel
theorem dX2_keysApart_0 : decode cX2_keysApart 0 = .ok (.iload_n 0, 1) := by decide +kernel
theorem dX2_keysApart_1 : decode cX2_keysApart 1 = .ok (.bipush 12, 2) := by decide +kernel
theorem dX2_keysApart_3 : decode cX2_keysApart 3 = .ok (.irem, 1) := by decide +kernel
theorem dX2_keysApart_4 : decode cX2_keysApart 4 = .ok (.iload_n 1, 1) := by decide +kernel
theorem dX2_keysApart_5 : decode cX2_keysApart 5 = .ok (.bipush 12, 2) := by decide +kernel
theorem dX2_keysApart_7 : decode cX2_keysApart 7 = .ok (.irem, 1) := by decide +kernel
theorem dX2_keysApart_8 : decode cX2_keysApart 8 = .ok (.isub, 1) := by decide +kernel
theorem dX2_keysApart_9 : decode cX2_keysApart 9 = .ok (.invokestatic 36, 3) := by decide +kernel
theorem dX2_keysApart_12 : decode cX2_keysApart 12 = .ok (.istore_n 2, 1) := by decide +kernel
theorem dX2_keysApart_13 : decode cX2_keysApart 13 = .ok (.iload_n 2, 1) := by decide +kernel
theorem dX2_keysApart_14 : decode cX2_keysApart 14 = .ok (.bipush 12, 2) := by decide +kernel
theorem dX2_keysApart_16 : decode cX2_keysApart 16 = .ok (.iload_n 2, 1) := by decide +kernel
theorem dX2_keysApart_17 : decode cX2_keysApart 17 = .ok (.isub, 1) := by decide +kernel
theorem dX2_keysApart_18 : decode cX2_keysApart 18 = .ok (.invokestatic 42, 3) := by decide +kernel
theorem dX2_keysApart_21 : decode cX2_keysApart 21 = .ok (.istore_n 3, 1) := by decide +kernel
theorem dX2_keysApart_22 : decode cX2_keysApart 22 = .ok (.iload_n 0, 1) := by decide +kernel
theorem dX2_keysApart_23 : decode cX2_keysApart 23 = .ok (.bipush 12, 2) := by decide +kernel
theorem dX2_keysApart_25 : decode cX2_keysApart 25 = .ok (.idiv, 1) := by decide +kernel
theorem dX2_keysApart_26 : decode cX2_keysApart 26 = .ok (.iload_n 1, 1) := by decide +kernel
theorem dX2_keysApart_27 : decode cX2_keysApart 27 = .ok (.bipush 12, 2) := by decide +kernel
theorem dX2_keysApart_29 : decode cX2_keysApart 29 = .ok (.idiv, 1) := by decide +kernel
theorem dX2_keysApart_30 : decode cX2_keysApart 30 = .ok (.if_icmp .ne 7, 3) := by decide +kernel
theorem dX2_keysApart_33 : decode cX2_keysApart 33 = .ok (.iload_n 3, 1) := by decide +kernel
theorem dX2_keysApart_34 : decode cX2_keysApart 34 = .ok (.goto 6, 3) := by decide +kernel
theorem dX2_keysApart_37 : decode cX2_keysApart 37 = .ok (.iload_n 3, 1) := by decide +kernel
theorem dX2_keysApart_38 : decode cX2_keysApart 38 = .ok (.iconst 1, 1) := by decide +kernel
theorem dX2_keysApart_39 : decode cX2_keysApart 39 = .ok (.iadd, 1) := by decide +kernel
theorem dX2_keysApart_40 : decode cX2_keysApart 40 = .ok (.ireturn, 1) := by decide +kernel
theorem dX2_retune_0 : decode cX2_retune 0 = .ok (.aload_n 0, 1) := by decide +kernel
theorem dX2_retune_1 : decode cX2_retune 1 = .ok (.getfield 15, 3) := by decide +kernel
theorem dX2_retune_4 : decode cX2_retune 4 = .ok (.istore_n 2, 1) := by decide +kernel
theorem dX2_retune_5 : decode cX2_retune 5 = .ok (.aload_n 0, 1) := by decide +kernel
theorem dX2_retune_6 : decode cX2_retune 6 = .ok (.iload_n 1, 1) := by decide +kernel
theorem dX2_retune_7 : decode cX2_retune 7 = .ok (.putfield 15, 3) := by decide +kernel
theorem dX2_retune_10 : decode cX2_retune 10 = .ok (.iload_n 2, 1) := by decide +kernel
theorem dX2_retune_11 : decode cX2_retune 11 = .ok (.ireturn, 1) := by decide +kernel
theorem dX2_forbid_0 : decode cX2_forbid 0 = .ok (.aload_n 0, 1) := by decide +kernel
theorem dX2_forbid_1 : decode cX2_forbid 1 = .ok (.getfield 46, 3) := by decide +kernel
theorem dX2_forbid_4 : decode cX2_forbid 4 = .ok (.istore_n 2, 1) := by decide +kernel
theorem dX2_forbid_5 : decode cX2_forbid 5 = .ok (.aload_n 0, 1) := by decide +kernel
theorem dX2_forbid_6 : decode cX2_forbid 6 = .ok (.iload_n 1, 1) := by decide +kernel
theorem dX2_forbid_7 : decode cX2_forbid 7 = .ok (.putfield 46, 3) := by decide +kernel
theorem dX2_forbid_10 : decode cX2_forbid 10 = .ok (.iload_n 2, 1) := by decide +kernel
theorem dX2_forbid_11 : decode cX2_forbid 11 = .ok (.ireturn, 1) := by decide +kernel
theorem dX2_wish_0 : decode cX2_wish 0 = .ok (.aload_n 0, 1) := by decide +kernel
theorem dX2_wish_1 : decode cX2_wish 1 = .ok (.getfield 50, 3) := by decide +kernel
theorem dX2_wish_4 : decode cX2_wish 4 = .ok (.ifCond .ne 7, 3) := by decide +kernel
theorem dX2_wish_7 : decode cX2_wish 7 = .ok (.iconst 1, 1) := by decide +kernel
theorem dX2_wish_8 : decode cX2_wish 8 = .ok (.goto 4, 3) := by decide +kernel
theorem dX2_wish_11 : decode cX2_wish 11 = .ok (.iconst 0, 1) := by decide +kernel
theorem dX2_wish_12 : decode cX2_wish 12 = .ok (.istore_n 1, 1) := by decide +kernel
theorem dX2_wish_13 : decode cX2_wish 13 = .ok (.aload_n 0, 1) := by decide +kernel
theorem dX2_wish_14 : decode cX2_wish 14 = .ok (.iconst 1, 1) := by decide +kernel
theorem dX2_wish_15 : decode cX2_wish 15 = .ok (.putfield 50, 3) := by decide +kernel
theorem dX2_wish_18 : decode cX2_wish 18 = .ok (.iload_n 1, 1) := by decide +kernel
theorem dX2_wish_19 : decode cX2_wish 19 = .ok (.ireturn, 1) := by decide +kernel
theorem dX2_lastPlace_0 : decode cX2_lastPlace 0 = .ok (.aload_n 0, 1) := by decide +kernel
theorem dX2_lastPlace_1 : decode cX2_lastPlace 1 = .ok (.getfield 18, 3) := by decide +kernel
theorem dX2_lastPlace_4 : decode cX2_lastPlace 4 = .ok (.i2l, 1) := by decide +kernel
theorem dX2_lastPlace_5 : decode cX2_lastPlace 5 = .ok (.ldc2_w 53, 3) := by decide +kernel
theorem dX2_lastPlace_8 : decode cX2_lastPlace 8 = .ok (.lmul, 1) := by decide +kernel
theorem dX2_lastPlace_9 : decode cX2_lastPlace 9 = .ok (.lconst 1, 1) := by decide +kernel
theorem dX2_lastPlace_10 : decode cX2_lastPlace 10 = .ok (.lsub, 1) := by decide +kernel
theorem dX2_lastPlace_11 : decode cX2_lastPlace 11 = .ok (.lreturn, 1) := by decide +kernel
theorem dX2_hasVoiceAt_0 : decode cX2_hasVoiceAt 0 = .ok (.aload_n 0, 1) := by decide +kernel
theorem dX2_hasVoiceAt_1 : decode cX2_hasVoiceAt 1 = .ok (.aload_n 0, 1) := by decide +kernel
theorem dX2_hasVoiceAt_2 : decode cX2_hasVoiceAt 2 = .ok (.getfield 30, 3) := by decide +kernel
theorem dX2_hasVoiceAt_5 : decode cX2_hasVoiceAt 5 = .ok (.lload_n 1, 1) := by decide +kernel
theorem dX2_hasVoiceAt_6 : decode cX2_hasVoiceAt 6 = .ok (.invokevirtual 55, 3) := by decide +kernel
theorem dX2_hasVoiceAt_9 : decode cX2_hasVoiceAt 9 = .ok (.ireturn, 1) := by decide +kernel
theorem dX2_hasBassAt_0 : decode cX2_hasBassAt 0 = .ok (.aload_n 0, 1) := by decide +kernel
theorem dX2_hasBassAt_1 : decode cX2_hasBassAt 1 = .ok (.aload_n 0, 1) := by decide +kernel
theorem dX2_hasBassAt_2 : decode cX2_hasBassAt 2 = .ok (.getfield 33, 3) := by decide +kernel
theorem dX2_hasBassAt_5 : decode cX2_hasBassAt 5 = .ok (.lload_n 1, 1) := by decide +kernel
theorem dX2_hasBassAt_6 : decode cX2_hasBassAt 6 = .ok (.invokevirtual 55, 3) := by decide +kernel
theorem dX2_hasBassAt_9 : decode cX2_hasBassAt 9 = .ok (.ifCond .ne 7, 3) := by decide +kernel
theorem dX2_hasBassAt_12 : decode cX2_hasBassAt 12 = .ok (.iconst 1, 1) := by decide +kernel
theorem dX2_hasBassAt_13 : decode cX2_hasBassAt 13 = .ok (.goto 4, 3) := by decide +kernel
theorem dX2_hasBassAt_16 : decode cX2_hasBassAt 16 = .ok (.iconst 0, 1) := by decide +kernel
theorem dX2_hasBassAt_17 : decode cX2_hasBassAt 17 = .ok (.ireturn, 1) := by decide +kernel
theorem dX2_hasBitAt_0 : decode cX2_hasBitAt 0 = .ok (.aload_n 0, 1) := by decide +kernel
theorem dX2_hasBitAt_1 : decode cX2_hasBitAt 1 = .ok (.getfield 27, 3) := by decide +kernel
theorem dX2_hasBitAt_4 : decode cX2_hasBitAt 4 = .ok (.ifCond .gt 5, 3) := by decide +kernel
theorem dX2_hasBitAt_7 : decode cX2_hasBitAt 7 = .ok (.iconst 0, 1) := by decide +kernel
theorem dX2_hasBitAt_8 : decode cX2_hasBitAt 8 = .ok (.ireturn, 1) := by decide +kernel
theorem dX2_hasBitAt_9 : decode cX2_hasBitAt 9 = .ok (.lload_n 2, 1) := by decide +kernel
theorem dX2_hasBitAt_10 : decode cX2_hasBitAt 10 = .ok (.ldc2_w 53, 3) := by decide +kernel
theorem dX2_hasBitAt_13 : decode cX2_hasBitAt 13 = .ok (.ldiv, 1) := by decide +kernel
theorem dX2_hasBitAt_14 : decode cX2_hasBitAt 14 = .ok (.l2i, 1) := by decide +kernel
theorem dX2_hasBitAt_15 : decode cX2_hasBitAt 15 = .ok (.aload_n 0, 1) := by decide +kernel
theorem dX2_hasBitAt_16 : decode cX2_hasBitAt 16 = .ok (.getfield 27, 3) := by decide +kernel
theorem dX2_hasBitAt_19 : decode cX2_hasBitAt 19 = .ok (.idiv, 1) := by decide +kernel
theorem dX2_hasBitAt_20 : decode cX2_hasBitAt 20 = .ok (.istore 4, 2) := by decide +kernel
theorem dX2_hasBitAt_22 : decode cX2_hasBitAt 22 = .ok (.iload_n 1, 1) := by decide +kernel
theorem dX2_hasBitAt_23 : decode cX2_hasBitAt 23 = .ok (.iload 4, 2) := by decide +kernel
theorem dX2_hasBitAt_25 : decode cX2_hasBitAt 25 = .ok (.bipush 16, 2) := by decide +kernel
theorem dX2_hasBitAt_27 : decode cX2_hasBitAt 27 = .ok (.irem, 1) := by decide +kernel
theorem dX2_hasBitAt_28 : decode cX2_hasBitAt 28 = .ok (.ishr, 1) := by decide +kernel
theorem dX2_hasBitAt_29 : decode cX2_hasBitAt 29 = .ok (.iconst 1, 1) := by decide +kernel
theorem dX2_hasBitAt_30 : decode cX2_hasBitAt 30 = .ok (.iand, 1) := by decide +kernel
theorem dX2_hasBitAt_31 : decode cX2_hasBitAt 31 = .ok (.iconst 1, 1) := by decide +kernel
theorem dX2_hasBitAt_32 : decode cX2_hasBitAt 32 = .ok (.if_icmp .ne 7, 3) := by decide +kernel
theorem dX2_hasBitAt_35 : decode cX2_hasBitAt 35 = .ok (.iconst 1, 1) := by decide +kernel
theorem dX2_hasBitAt_36 : decode cX2_hasBitAt 36 = .ok (.goto 4, 3) := by decide +kernel
theorem dX2_hasBitAt_39 : decode cX2_hasBitAt 39 = .ok (.iconst 0, 1) := by decide +kernel
theorem dX2_hasBitAt_40 : decode cX2_hasBitAt 40 = .ok (.ireturn, 1) := by decide +kernel
theorem dX2_wholeSeconds_0 : decode cX2_wholeSeconds 0 = .ok (.aload_n 0, 1) := by decide +kernel
theorem dX2_wholeSeconds_1 : decode cX2_wholeSeconds 1 = .ok (.getfield 59, 3) := by decide +kernel
theorem dX2_wholeSeconds_4 : decode cX2_wholeSeconds 4 = .ok (.bipush 100, 2) := by decide +kernel
theorem dX2_wholeSeconds_6 : decode cX2_wholeSeconds 6 = .ok (.idiv, 1) := by decide +kernel
theorem dX2_wholeSeconds_7 : decode cX2_wholeSeconds 7 = .ok (.ireturn, 1) := by decide +kernel
theorem dX2_stepCost_0 : decode cX2_stepCost 0 = .ok (.aload_n 0, 1) := by decide +kernel
theorem dX2_stepCost_1 : decode cX2_stepCost 1 = .ok (.getfield 21, 3) := by decide +kernel
theorem dX2_stepCost_4 : decode cX2_stepCost 4 = .ok (.aload_n 1, 1) := by decide +kernel
theorem dX2_stepCost_5 : decode cX2_stepCost 5 = .ok (.getfield 21, 3) := by decide +kernel
theorem dX2_stepCost_8 : decode cX2_stepCost 8 = .ok (.invokestatic 62, 3) := by decide +kernel
theorem dX2_stepCost_11 : decode cX2_stepCost 11 = .ok (.istore_n 2, 1) := by decide +kernel
theorem dX2_stepCost_12 : decode cX2_stepCost 12 = .ok (.aload_n 0, 1) := by decide +kernel
theorem dX2_stepCost_13 : decode cX2_stepCost 13 = .ok (.getfield 24, 3) := by decide +kernel
theorem dX2_stepCost_16 : decode cX2_stepCost 16 = .ok (.aload_n 1, 1) := by decide +kernel
theorem dX2_stepCost_17 : decode cX2_stepCost 17 = .ok (.getfield 24, 3) := by decide +kernel
theorem dX2_stepCost_20 : decode cX2_stepCost 20 = .ok (.isub, 1) := by decide +kernel
theorem dX2_stepCost_21 : decode cX2_stepCost 21 = .ok (.invokestatic 36, 3) := by decide +kernel
theorem dX2_stepCost_24 : decode cX2_stepCost 24 = .ok (.istore_n 3, 1) := by decide +kernel
theorem dX2_stepCost_25 : decode cX2_stepCost 25 = .ok (.aload_n 0, 1) := by decide +kernel
theorem dX2_stepCost_26 : decode cX2_stepCost 26 = .ok (.getfield 15, 3) := by decide +kernel
theorem dX2_stepCost_29 : decode cX2_stepCost 29 = .ok (.aload_n 1, 1) := by decide +kernel
theorem dX2_stepCost_30 : decode cX2_stepCost 30 = .ok (.getfield 15, 3) := by decide +kernel
theorem dX2_stepCost_33 : decode cX2_stepCost 33 = .ok (.isub, 1) := by decide +kernel
theorem dX2_stepCost_34 : decode cX2_stepCost 34 = .ok (.invokestatic 36, 3) := by decide +kernel
theorem dX2_stepCost_37 : decode cX2_stepCost 37 = .ok (.bipush 10, 2) := by decide +kernel
theorem dX2_stepCost_39 : decode cX2_stepCost 39 = .ok (.idiv, 1) := by decide +kernel
theorem dX2_stepCost_40 : decode cX2_stepCost 40 = .ok (.istore 4, 2) := by decide +kernel
theorem dX2_stepCost_42 : decode cX2_stepCost 42 = .ok (.bipush 10, 2) := by decide +kernel
theorem dX2_stepCost_44 : decode cX2_stepCost 44 = .ok (.iload_n 2, 1) := by decide +kernel
theorem dX2_stepCost_45 : decode cX2_stepCost 45 = .ok (.imul, 1) := by decide +kernel
theorem dX2_stepCost_46 : decode cX2_stepCost 46 = .ok (.iconst 4, 1) := by decide +kernel
theorem dX2_stepCost_47 : decode cX2_stepCost 47 = .ok (.iload_n 3, 1) := by decide +kernel
theorem dX2_stepCost_48 : decode cX2_stepCost 48 = .ok (.imul, 1) := by decide +kernel
theorem dX2_stepCost_49 : decode cX2_stepCost 49 = .ok (.iadd, 1) := by decide +kernel
theorem dX2_stepCost_50 : decode cX2_stepCost 50 = .ok (.iload 4, 2) := by decide +kernel
theorem dX2_stepCost_52 : decode cX2_stepCost 52 = .ok (.iadd, 1) := by decide +kernel
theorem dX2_stepCost_53 : decode cX2_stepCost 53 = .ok (.aload_n 1, 1) := by decide +kernel
theorem dX2_stepCost_54 : decode cX2_stepCost 54 = .ok (.getfield 50, 3) := by decide +kernel
theorem dX2_stepCost_57 : decode cX2_stepCost 57 = .ok (.ifCond .eq 8, 3) := by decide +kernel
theorem dX2_stepCost_60 : decode cX2_stepCost 60 = .ok (.bipush 15, 2) := by decide +kernel
theorem dX2_stepCost_62 : decode cX2_stepCost 62 = .ok (.goto 4, 3) := by decide +kernel
theorem dX2_stepCost_65 : decode cX2_stepCost 65 = .ok (.iconst 0, 1) := by decide +kernel
theorem dX2_stepCost_66 : decode cX2_stepCost 66 = .ok (.isub, 1) := by decide +kernel
theorem dX2_stepCost_67 : decode cX2_stepCost 67 = .ok (.ireturn, 1) := by decide +kernel
theorem dX3_init_0 : decode cX3_init 0 = .ok (.aload_n 0, 1) := by decide +kernel
theorem dX3_init_1 : decode cX3_init 1 = .ok (.invokespecial 1, 3) := by decide +kernel
theorem dX3_init_4 : decode cX3_init 4 = .ok (.return_, 1) := by decide +kernel
theorem dX3_begin_0 : decode cX3_begin 0 = .ok (.aload_n 0, 1) := by decide +kernel
theorem dX3_begin_1 : decode cX3_begin 1 = .ok (.iload_n 1, 1) := by decide +kernel
theorem dX3_begin_2 : decode cX3_begin 2 = .ok (.putfield 7, 3) := by decide +kernel
theorem dX3_begin_5 : decode cX3_begin 5 = .ok (.aload_n 0, 1) := by decide +kernel
theorem dX3_begin_6 : decode cX3_begin 6 = .ok (.iload_n 2, 1) := by decide +kernel
theorem dX3_begin_7 : decode cX3_begin 7 = .ok (.putfield 13, 3) := by decide +kernel
theorem dX3_begin_10 : decode cX3_begin 10 = .ok (.aload_n 0, 1) := by decide +kernel
theorem dX3_begin_11 : decode cX3_begin 11 = .ok (.iconst 0, 1) := by decide +kernel
theorem dX3_begin_12 : decode cX3_begin 12 = .ok (.putfield 17, 3) := by decide +kernel
theorem dX3_begin_15 : decode cX3_begin 15 = .ok (.return_, 1) := by decide +kernel
theorem dX3_nextTail_0 : decode cX3_nextTail 0 = .ok (.aload_n 0, 1) := by decide +kernel
theorem dX3_nextTail_1 : decode cX3_nextTail 1 = .ok (.getfield 7, 3) := by decide +kernel
theorem dX3_nextTail_4 : decode cX3_nextTail 4 = .ok (.bipush 99, 2) := by decide +kernel
theorem dX3_nextTail_6 : decode cX3_nextTail 6 = .ok (.if_icmp .ne 5, 3) := by decide +kernel
theorem dX3_nextTail_9 : decode cX3_nextTail 9 = .ok (.iconst 0, 1) := by decide +kernel
theorem dX3_nextTail_10 : decode cX3_nextTail 10 = .ok (.ireturn, 1) := by decide +kernel
theorem dX3_nextTail_11 : decode cX3_nextTail 11 = .ok (.iload_n 1, 1) := by decide +kernel
theorem dX3_nextTail_12 : decode cX3_nextTail 12 = .ok (.aload_n 0, 1) := by decide +kernel
theorem dX3_nextTail_13 : decode cX3_nextTail 13 = .ok (.getfield 13, 3) := by decide +kernel
theorem dX3_nextTail_16 : decode cX3_nextTail 16 = .ok (.imul, 1) := by decide +kernel
theorem dX3_nextTail_17 : decode cX3_nextTail 17 = .ok (.bipush 100, 2) := by decide +kernel
theorem dX3_nextTail_19 : decode cX3_nextTail 19 = .ok (.idiv, 1) := by decide +kernel
theorem dX3_nextTail_20 : decode cX3_nextTail 20 = .ok (.istore_n 2, 1) := by decide +kernel
theorem dX3_nextTail_21 : decode cX3_nextTail 21 = .ok (.iload_n 2, 1) := by decide +kernel
theorem dX3_nextTail_22 : decode cX3_nextTail 22 = .ok (.aload_n 0, 1) := by decide +kernel
theorem dX3_nextTail_23 : decode cX3_nextTail 23 = .ok (.getfield 17, 3) := by decide +kernel
theorem dX3_nextTail_26 : decode cX3_nextTail 26 = .ok (.if_icmp .le 11, 3) := by decide +kernel
theorem dX3_nextTail_29 : decode cX3_nextTail 29 = .ok (.aload_n 0, 1) := by decide +kernel
theorem dX3_nextTail_30 : decode cX3_nextTail 30 = .ok (.iload_n 2, 1) := by decide +kernel
theorem dX3_nextTail_31 : decode cX3_nextTail 31 = .ok (.putfield 17, 3) := by decide +kernel
theorem dX3_nextTail_34 : decode cX3_nextTail 34 = .ok (.goto 44, 3) := by decide +kernel
theorem dX3_nextTail_37 : decode cX3_nextTail 37 = .ok (.aload_n 0, 1) := by decide +kernel
theorem dX3_nextTail_38 : decode cX3_nextTail 38 = .ok (.dup, 1) := by decide +kernel
theorem dX3_nextTail_39 : decode cX3_nextTail 39 = .ok (.getfield 17, 3) := by decide +kernel
theorem dX3_nextTail_42 : decode cX3_nextTail 42 = .ok (.aload_n 0, 1) := by decide +kernel
theorem dX3_nextTail_43 : decode cX3_nextTail 43 = .ok (.getfield 7, 3) := by decide +kernel
theorem dX3_nextTail_46 : decode cX3_nextTail 46 = .ok (.bipush 101, 2) := by decide +kernel
theorem dX3_nextTail_48 : decode cX3_nextTail 48 = .ok (.if_icmp .ne 16, 3) := by decide +kernel
theorem dX3_nextTail_51 : decode cX3_nextTail 51 = .ok (.aload_n 0, 1) := by decide +kernel
theorem dX3_nextTail_52 : decode cX3_nextTail 52 = .ok (.getfield 17, 3) := by decide +kernel
theorem dX3_nextTail_55 : decode cX3_nextTail 55 = .ok (.bipush 19, 2) := by decide +kernel
theorem dX3_nextTail_57 : decode cX3_nextTail 57 = .ok (.iadd, 1) := by decide +kernel
theorem dX3_nextTail_58 : decode cX3_nextTail 58 = .ok (.bipush 20, 2) := by decide +kernel
theorem dX3_nextTail_60 : decode cX3_nextTail 60 = .ok (.idiv, 1) := by decide +kernel
theorem dX3_nextTail_61 : decode cX3_nextTail 61 = .ok (.goto 13, 3) := by decide +kernel
theorem dX3_nextTail_64 : decode cX3_nextTail 64 = .ok (.aload_n 0, 1) := by decide +kernel
theorem dX3_nextTail_65 : decode cX3_nextTail 65 = .ok (.getfield 17, 3) := by decide +kernel
theorem dX3_nextTail_68 : decode cX3_nextTail 68 = .ok (.bipush 49, 2) := by decide +kernel
theorem dX3_nextTail_70 : decode cX3_nextTail 70 = .ok (.iadd, 1) := by decide +kernel
theorem dX3_nextTail_71 : decode cX3_nextTail 71 = .ok (.bipush 50, 2) := by decide +kernel
theorem dX3_nextTail_73 : decode cX3_nextTail 73 = .ok (.idiv, 1) := by decide +kernel
theorem dX3_nextTail_74 : decode cX3_nextTail 74 = .ok (.isub, 1) := by decide +kernel
theorem dX3_nextTail_75 : decode cX3_nextTail 75 = .ok (.putfield 17, 3) := by decide +kernel
theorem dX3_nextTail_78 : decode cX3_nextTail 78 = .ok (.aload_n 0, 1) := by decide +kernel
theorem dX3_nextTail_79 : decode cX3_nextTail 79 = .ok (.getfield 17, 3) := by decide +kernel
theorem dX3_nextTail_82 : decode cX3_nextTail 82 = .ok (.ireturn, 1) := by decide +kernel
theorem dX4_init_0 : decode cX4_init 0 = .ok (.aload_n 0, 1) := by decide +kernel
theorem dX4_init_1 : decode cX4_init 1 = .ok (.invokespecial 1, 3) := by decide +kernel
theorem dX4_init_4 : decode cX4_init 4 = .ok (.aload_n 0, 1) := by decide +kernel
theorem dX4_init_5 : decode cX4_init 5 = .ok (.bipush 6, 2) := by decide +kernel
theorem dX4_init_7 : decode cX4_init 7 = .ok (.newarray .int, 2) := by decide +kernel
theorem dX4_init_9 : decode cX4_init 9 = .ok (.putfield 9, 3) := by decide +kernel
theorem dX4_init_12 : decode cX4_init 12 = .ok (.aload_n 0, 1) := by decide +kernel
theorem dX4_init_13 : decode cX4_init 13 = .ok (.bipush 6, 2) := by decide +kernel
theorem dX4_init_15 : decode cX4_init 15 = .ok (.newarray .int, 2) := by decide +kernel
theorem dX4_init_17 : decode cX4_init 17 = .ok (.putfield 13, 3) := by decide +kernel
theorem dX4_init_20 : decode cX4_init 20 = .ok (.iconst 0, 1) := by decide +kernel
theorem dX4_init_21 : decode cX4_init 21 = .ok (.istore_n 1, 1) := by decide +kernel
theorem dX4_init_22 : decode cX4_init 22 = .ok (.iload_n 1, 1) := by decide +kernel
theorem dX4_init_23 : decode cX4_init 23 = .ok (.aload_n 0, 1) := by decide +kernel
theorem dX4_init_24 : decode cX4_init 24 = .ok (.getfield 9, 3) := by decide +kernel
theorem dX4_init_27 : decode cX4_init 27 = .ok (.arraylength, 1) := by decide +kernel
theorem dX4_init_28 : decode cX4_init 28 = .ok (.if_icmp .ge 17, 3) := by decide +kernel
theorem dX4_init_31 : decode cX4_init 31 = .ok (.aload_n 0, 1) := by decide +kernel
theorem dX4_init_32 : decode cX4_init 32 = .ok (.getfield 9, 3) := by decide +kernel
theorem dX4_init_35 : decode cX4_init 35 = .ok (.iload_n 1, 1) := by decide +kernel
theorem dX4_init_36 : decode cX4_init 36 = .ok (.bipush 20, 2) := by decide +kernel
theorem dX4_init_38 : decode cX4_init 38 = .ok (.iastore, 1) := by decide +kernel
theorem dX4_init_39 : decode cX4_init 39 = .ok (.iinc 1 1, 3) := by decide +kernel
theorem dX4_init_42 : decode cX4_init 42 = .ok (.goto (-20), 3) := by decide +kernel
theorem dX4_init_45 : decode cX4_init 45 = .ok (.return_, 1) := by decide +kernel
theorem dX4_sizeOf_0 : decode cX4_sizeOf 0 = .ok (.iload_n 1, 1) := by decide +kernel
theorem dX4_sizeOf_1 : decode cX4_sizeOf 1 = .ok (.ifCond .lt 21, 3) := by decide +kernel
theorem dX4_sizeOf_4 : decode cX4_sizeOf 4 = .ok (.iload_n 1, 1) := by decide +kernel
theorem dX4_sizeOf_5 : decode cX4_sizeOf 5 = .ok (.aload_n 0, 1) := by decide +kernel
theorem dX4_sizeOf_6 : decode cX4_sizeOf 6 = .ok (.getfield 9, 3) := by decide +kernel
theorem dX4_sizeOf_9 : decode cX4_sizeOf 9 = .ok (.arraylength, 1) := by decide +kernel
theorem dX4_sizeOf_10 : decode cX4_sizeOf 10 = .ok (.if_icmp .ge 12, 3) := by decide +kernel
theorem dX4_sizeOf_13 : decode cX4_sizeOf 13 = .ok (.aload_n 0, 1) := by decide +kernel
theorem dX4_sizeOf_14 : decode cX4_sizeOf 14 = .ok (.getfield 9, 3) := by decide +kernel
theorem dX4_sizeOf_17 : decode cX4_sizeOf 17 = .ok (.iload_n 1, 1) := by decide +kernel
theorem dX4_sizeOf_18 : decode cX4_sizeOf 18 = .ok (.iaload, 1) := by decide +kernel
theorem dX4_sizeOf_19 : decode cX4_sizeOf 19 = .ok (.goto 4, 3) := by decide +kernel
theorem dX4_sizeOf_22 : decode cX4_sizeOf 22 = .ok (.iconst 0, 1) := by decide +kernel
theorem dX4_sizeOf_23 : decode cX4_sizeOf 23 = .ok (.ireturn, 1) := by decide +kernel
theorem dX4_wearOf_0 : decode cX4_wearOf 0 = .ok (.iload_n 1, 1) := by decide +kernel
theorem dX4_wearOf_1 : decode cX4_wearOf 1 = .ok (.ifCond .lt 21, 3) := by decide +kernel
theorem dX4_wearOf_4 : decode cX4_wearOf 4 = .ok (.iload_n 1, 1) := by decide +kernel
theorem dX4_wearOf_5 : decode cX4_wearOf 5 = .ok (.aload_n 0, 1) := by decide +kernel
theorem dX4_wearOf_6 : decode cX4_wearOf 6 = .ok (.getfield 13, 3) := by decide +kernel
theorem dX4_wearOf_9 : decode cX4_wearOf 9 = .ok (.arraylength, 1) := by decide +kernel
theorem dX4_wearOf_10 : decode cX4_wearOf 10 = .ok (.if_icmp .ge 12, 3) := by decide +kernel
theorem dX4_wearOf_13 : decode cX4_wearOf 13 = .ok (.aload_n 0, 1) := by decide +kernel
theorem dX4_wearOf_14 : decode cX4_wearOf 14 = .ok (.getfield 13, 3) := by decide +kernel
theorem dX4_wearOf_17 : decode cX4_wearOf 17 = .ok (.iload_n 1, 1) := by decide +kernel
theorem dX4_wearOf_18 : decode cX4_wearOf 18 = .ok (.iaload, 1) := by decide +kernel
theorem dX4_wearOf_19 : decode cX4_wearOf 19 = .ok (.goto 4, 3) := by decide +kernel
theorem dX4_wearOf_22 : decode cX4_wearOf 22 = .ok (.iconst 0, 1) := by decide +kernel
theorem dX4_wearOf_23 : decode cX4_wearOf 23 = .ok (.ireturn, 1) := by decide +kernel
theorem dX4_everybody_0 : decode cX4_everybody 0 = .ok (.iconst 0, 1) := by decide +kernel
theorem dX4_everybody_1 : decode cX4_everybody 1 = .ok (.istore_n 1, 1) := by decide +kernel
theorem dX4_everybody_2 : decode cX4_everybody 2 = .ok (.iconst 0, 1) := by decide +kernel
theorem dX4_everybody_3 : decode cX4_everybody 3 = .ok (.istore_n 2, 1) := by decide +kernel
theorem dX4_everybody_4 : decode cX4_everybody 4 = .ok (.iload_n 2, 1) := by decide +kernel
theorem dX4_everybody_5 : decode cX4_everybody 5 = .ok (.aload_n 0, 1) := by decide +kernel
theorem dX4_everybody_6 : decode cX4_everybody 6 = .ok (.getfield 9, 3) := by decide +kernel
theorem dX4_everybody_9 : decode cX4_everybody 9 = .ok (.arraylength, 1) := by decide +kernel
theorem dX4_everybody_10 : decode cX4_everybody 10 = .ok (.if_icmp .ge 18, 3) := by decide +kernel
theorem dX4_everybody_13 : decode cX4_everybody 13 = .ok (.iload_n 1, 1) := by decide +kernel
theorem dX4_everybody_14 : decode cX4_everybody 14 = .ok (.aload_n 0, 1) := by decide +kernel
theorem dX4_everybody_15 : decode cX4_everybody 15 = .ok (.getfield 9, 3) := by decide +kernel
theorem dX4_everybody_18 : decode cX4_everybody 18 = .ok (.iload_n 2, 1) := by decide +kernel
theorem dX4_everybody_19 : decode cX4_everybody 19 = .ok (.iaload, 1) := by decide +kernel
theorem dX4_everybody_20 : decode cX4_everybody 20 = .ok (.iadd, 1) := by decide +kernel
theorem dX4_everybody_21 : decode cX4_everybody 21 = .ok (.istore_n 1, 1) := by decide +kernel
theorem dX4_everybody_22 : decode cX4_everybody 22 = .ok (.iinc 2 1, 3) := by decide +kernel
theorem dX4_everybody_25 : decode cX4_everybody 25 = .ok (.goto (-21), 3) := by decide +kernel
theorem dX4_everybody_28 : decode cX4_everybody 28 = .ok (.iload_n 1, 1) := by decide +kernel
theorem dX4_everybody_29 : decode cX4_everybody 29 = .ok (.ireturn, 1) := by decide +kernel
theorem dX4_isInBounds_0 : decode cX4_isInBounds 0 = .ok (.iconst 0, 1) := by decide +kernel
theorem dX4_isInBounds_1 : decode cX4_isInBounds 1 = .ok (.istore_n 1, 1) := by decide +kernel
theorem dX4_isInBounds_2 : decode cX4_isInBounds 2 = .ok (.iload_n 1, 1) := by decide +kernel
theorem dX4_isInBounds_3 : decode cX4_isInBounds 3 = .ok (.aload_n 0, 1) := by decide +kernel
theorem dX4_isInBounds_4 : decode cX4_isInBounds 4 = .ok (.getfield 9, 3) := by decide +kernel
theorem dX4_isInBounds_7 : decode cX4_isInBounds 7 = .ok (.arraylength, 1) := by decide +kernel
theorem dX4_isInBounds_8 : decode cX4_isInBounds 8 = .ok (.if_icmp .ge 31, 3) := by decide +kernel
theorem dX4_isInBounds_11 : decode cX4_isInBounds 11 = .ok (.aload_n 0, 1) := by decide +kernel
theorem dX4_isInBounds_12 : decode cX4_isInBounds 12 = .ok (.getfield 9, 3) := by decide +kernel
theorem dX4_isInBounds_15 : decode cX4_isInBounds 15 = .ok (.iload_n 1, 1) := by decide +kernel
theorem dX4_isInBounds_16 : decode cX4_isInBounds 16 = .ok (.iaload, 1) := by decide +kernel
theorem dX4_isInBounds_17 : decode cX4_isInBounds 17 = .ok (.ifCond .lt 14, 3) := by decide +kernel
theorem dX4_isInBounds_20 : decode cX4_isInBounds 20 = .ok (.aload_n 0, 1) := by decide +kernel
theorem dX4_isInBounds_21 : decode cX4_isInBounds 21 = .ok (.getfield 9, 3) := by decide +kernel
theorem dX4_isInBounds_24 : decode cX4_isInBounds 24 = .ok (.iload_n 1, 1) := by decide +kernel
theorem dX4_isInBounds_25 : decode cX4_isInBounds 25 = .ok (.iaload, 1) := by decide +kernel
theorem dX4_isInBounds_26 : decode cX4_isInBounds 26 = .ok (.bipush 40, 2) := by decide +kernel
theorem dX4_isInBounds_28 : decode cX4_isInBounds 28 = .ok (.if_icmp .le 5, 3) := by decide +kernel
theorem dX4_isInBounds_31 : decode cX4_isInBounds 31 = .ok (.iconst 0, 1) := by decide +kernel
theorem dX4_isInBounds_32 : decode cX4_isInBounds 32 = .ok (.ireturn, 1) := by decide +kernel
theorem dX4_isInBounds_33 : decode cX4_isInBounds 33 = .ok (.iinc 1 1, 3) := by decide +kernel
theorem dX4_isInBounds_36 : decode cX4_isInBounds 36 = .ok (.goto (-34), 3) := by decide +kernel
theorem dX4_isInBounds_39 : decode cX4_isInBounds 39 = .ok (.iconst 1, 1) := by decide +kernel
theorem dX4_isInBounds_40 : decode cX4_isInBounds 40 = .ok (.ireturn, 1) := by decide +kernel
theorem dX4_dance_0 : decode cX4_dance 0 = .ok (.iconst 0, 1) := by decide +kernel
theorem dX4_dance_1 : decode cX4_dance 1 = .ok (.istore_n 3, 1) := by decide +kernel
theorem dX4_dance_2 : decode cX4_dance 2 = .ok (.iconst 0, 1) := by decide +kernel
theorem dX4_dance_3 : decode cX4_dance 3 = .ok (.istore 4, 2) := by decide +kernel
theorem dX4_dance_5 : decode cX4_dance 5 = .ok (.iload 4, 2) := by decide +kernel
theorem dX4_dance_7 : decode cX4_dance 7 = .ok (.aload_n 1, 1) := by decide +kernel
theorem dX4_dance_8 : decode cX4_dance 8 = .ok (.arraylength, 1) := by decide +kernel
theorem dX4_dance_9 : decode cX4_dance 9 = .ok (.if_icmp .ge 44, 3) := by decide +kernel
theorem dX4_dance_12 : decode cX4_dance 12 = .ok (.aload_n 1, 1) := by decide +kernel
theorem dX4_dance_13 : decode cX4_dance 13 = .ok (.iload 4, 2) := by decide +kernel
theorem dX4_dance_15 : decode cX4_dance 15 = .ok (.aaload, 1) := by decide +kernel
theorem dX4_dance_16 : decode cX4_dance 16 = .ok (.getfield 16, 3) := by decide +kernel
theorem dX4_dance_19 : decode cX4_dance 19 = .ok (.astore 5, 2) := by decide +kernel
theorem dX4_dance_21 : decode cX4_dance 21 = .ok (.aload 5, 2) := by decide +kernel
theorem dX4_dance_23 : decode cX4_dance 23 = .ok (.ifnull 24, 3) := by decide +kernel
theorem dX4_dance_26 : decode cX4_dance 26 = .ok (.aload 5, 2) := by decide +kernel
theorem dX4_dance_28 : decode cX4_dance 28 = .ok (.getfield 22, 3) := by decide +kernel
theorem dX4_dance_31 : decode cX4_dance 31 = .ok (.ifCond .eq 16, 3) := by decide +kernel
theorem dX4_dance_34 : decode cX4_dance 34 = .ok (.aload_n 1, 1) := by decide +kernel
theorem dX4_dance_35 : decode cX4_dance 35 = .ok (.iload 4, 2) := by decide +kernel
theorem dX4_dance_37 : decode cX4_dance 37 = .ok (.aaload, 1) := by decide +kernel
theorem dX4_dance_38 : decode cX4_dance 38 = .ok (.iload_n 2, 1) := by decide +kernel
theorem dX4_dance_39 : decode cX4_dance 39 = .ok (.invokevirtual 28, 3) := by decide +kernel
theorem dX4_dance_42 : decode cX4_dance 42 = .ok (.ifCond .eq 5, 3) := by decide +kernel
theorem dX4_dance_45 : decode cX4_dance 45 = .ok (.iconst 1, 1) := by decide +kernel
theorem dX4_dance_46 : decode cX4_dance 46 = .ok (.istore_n 3, 1) := by decide +kernel
theorem dX4_dance_47 : decode cX4_dance 47 = .ok (.iinc 4 1, 3) := by decide +kernel
theorem dX4_dance_50 : decode cX4_dance 50 = .ok (.goto (-45), 3) := by decide +kernel
theorem dX4_dance_53 : decode cX4_dance 53 = .ok (.iconst 0, 1) := by decide +kernel
theorem dX4_dance_54 : decode cX4_dance 54 = .ok (.istore 4, 2) := by decide +kernel
theorem dX4_dance_56 : decode cX4_dance 56 = .ok (.iload 4, 2) := by decide +kernel
theorem dX4_dance_58 : decode cX4_dance 58 = .ok (.bipush 6, 2) := by decide +kernel
theorem dX4_dance_60 : decode cX4_dance 60 = .ok (.if_icmp .ge 23, 3) := by decide +kernel
theorem dX4_dance_63 : decode cX4_dance 63 = .ok (.aload_n 0, 1) := by decide +kernel
theorem dX4_dance_64 : decode cX4_dance 64 = .ok (.iload 4, 2) := by decide +kernel
theorem dX4_dance_66 : decode cX4_dance 66 = .ok (.iload 4, 2) := by decide +kernel
theorem dX4_dance_68 : decode cX4_dance 68 = .ok (.aload_n 1, 1) := by decide +kernel
theorem dX4_dance_69 : decode cX4_dance 69 = .ok (.iload_n 2, 1) := by decide +kernel
theorem dX4_dance_70 : decode cX4_dance 70 = .ok (.invokestatic 32, 3) := by decide +kernel
theorem dX4_dance_73 : decode cX4_dance 73 = .ok (.iload_n 3, 1) := by decide +kernel
theorem dX4_dance_74 : decode cX4_dance 74 = .ok (.invokevirtual 36, 3) := by decide +kernel
theorem dX4_dance_77 : decode cX4_dance 77 = .ok (.iinc 4 1, 3) := by decide +kernel
theorem dX4_dance_80 : decode cX4_dance 80 = .ok (.goto (-24), 3) := by decide +kernel
theorem dX4_dance_83 : decode cX4_dance 83 = .ok (.return_, 1) := by decide +kernel
theorem dX4_leastDislike_0 : decode cX4_leastDislike 0 = .ok (.sipush 1000, 3) := by decide +kernel
theorem dX4_leastDislike_3 : decode cX4_leastDislike 3 = .ok (.istore_n 3, 1) := by decide +kernel
theorem dX4_leastDislike_4 : decode cX4_leastDislike 4 = .ok (.iconst 0, 1) := by decide +kernel
theorem dX4_leastDislike_5 : decode cX4_leastDislike 5 = .ok (.istore 4, 2) := by decide +kernel
theorem dX4_leastDislike_7 : decode cX4_leastDislike 7 = .ok (.iload 4, 2) := by decide +kernel
theorem dX4_leastDislike_9 : decode cX4_leastDislike 9 = .ok (.aload_n 1, 1) := by decide +kernel
theorem dX4_leastDislike_10 : decode cX4_leastDislike 10 = .ok (.arraylength, 1) := by decide +kernel
theorem dX4_leastDislike_11 : decode cX4_leastDislike 11 = .ok (.if_icmp .ge 71, 3) := by decide +kernel
theorem dX4_leastDislike_14 : decode cX4_leastDislike 14 = .ok (.aload_n 1, 1) := by decide +kernel
theorem dX4_leastDislike_15 : decode cX4_leastDislike 15 = .ok (.iload 4, 2) := by decide +kernel
theorem dX4_leastDislike_17 : decode cX4_leastDislike 17 = .ok (.aaload, 1) := by decide +kernel
theorem dX4_leastDislike_18 : decode cX4_leastDislike 18 = .ok (.getfield 16, 3) := by decide +kernel
theorem dX4_leastDislike_21 : decode cX4_leastDislike 21 = .ok (.astore 5, 2) := by decide +kernel
theorem dX4_leastDislike_23 : decode cX4_leastDislike 23 = .ok (.aload 5, 2) := by decide +kernel
theorem dX4_leastDislike_25 : decode cX4_leastDislike 25 = .ok (.ifnull 51, 3) := by decide +kernel
theorem dX4_leastDislike_28 : decode cX4_leastDislike 28 = .ok (.aload_n 1, 1) := by decide +kernel
theorem dX4_leastDislike_29 : decode cX4_leastDislike 29 = .ok (.iload 4, 2) := by decide +kernel
theorem dX4_leastDislike_31 : decode cX4_leastDislike 31 = .ok (.aaload, 1) := by decide +kernel
theorem dX4_leastDislike_32 : decode cX4_leastDislike 32 = .ok (.iload_n 2, 1) := by decide +kernel
theorem dX4_leastDislike_33 : decode cX4_leastDislike 33 = .ok (.invokevirtual 28, 3) := by decide +kernel
theorem dX4_leastDislike_36 : decode cX4_leastDislike 36 = .ok (.ifCond .eq 40, 3) := by decide +kernel
theorem dX4_leastDislike_39 : decode cX4_leastDislike 39 = .ok (.aload 5, 2) := by decide +kernel
theorem dX4_leastDislike_41 : decode cX4_leastDislike 41 = .ok (.getfield 40, 3) := by decide +kernel
theorem dX4_leastDislike_44 : decode cX4_leastDislike 44 = .ok (.iconst 4, 1) := by decide +kernel
theorem dX4_leastDislike_45 : decode cX4_leastDislike 45 = .ok (.iload_n 0, 1) := by decide +kernel
theorem dX4_leastDislike_46 : decode cX4_leastDislike 46 = .ok (.imul, 1) := by decide +kernel
theorem dX4_leastDislike_47 : decode cX4_leastDislike 47 = .ok (.invokestatic 44, 3) := by decide +kernel
theorem dX4_leastDislike_50 : decode cX4_leastDislike 50 = .ok (.istore 6, 2) := by decide +kernel
theorem dX4_leastDislike_52 : decode cX4_leastDislike 52 = .ok (.aload 5, 2) := by decide +kernel
theorem dX4_leastDislike_54 : decode cX4_leastDislike 54 = .ok (.getfield 48, 3) := by decide +kernel
theorem dX4_leastDislike_57 : decode cX4_leastDislike 57 = .ok (.iload_n 0, 1) := by decide +kernel
theorem dX4_leastDislike_58 : decode cX4_leastDislike 58 = .ok (.iconst 3, 1) := by decide +kernel
theorem dX4_leastDislike_59 : decode cX4_leastDislike 59 = .ok (.iadd, 1) := by decide +kernel
theorem dX4_leastDislike_60 : decode cX4_leastDislike 60 = .ok (.isub, 1) := by decide +kernel
theorem dX4_leastDislike_61 : decode cX4_leastDislike 61 = .ok (.invokestatic 51, 3) := by decide +kernel
theorem dX4_leastDislike_64 : decode cX4_leastDislike 64 = .ok (.istore 7, 2) := by decide +kernel
theorem dX4_leastDislike_66 : decode cX4_leastDislike 66 = .ok (.iload_n 3, 1) := by decide +kernel
theorem dX4_leastDislike_67 : decode cX4_leastDislike 67 = .ok (.iload 6, 2) := by decide +kernel
theorem dX4_leastDislike_69 : decode cX4_leastDislike 69 = .ok (.iload 7, 2) := by decide +kernel
theorem dX4_leastDislike_71 : decode cX4_leastDislike 71 = .ok (.iadd, 1) := by decide +kernel
theorem dX4_leastDislike_72 : decode cX4_leastDislike 72 = .ok (.invokestatic 57, 3) := by decide +kernel
theorem dX4_leastDislike_75 : decode cX4_leastDislike 75 = .ok (.istore_n 3, 1) := by decide +kernel
theorem dX4_leastDislike_76 : decode cX4_leastDislike 76 = .ok (.iinc 4 1, 3) := by decide +kernel
theorem dX4_leastDislike_79 : decode cX4_leastDislike 79 = .ok (.goto (-72), 3) := by decide +kernel
theorem dX4_leastDislike_82 : decode cX4_leastDislike 82 = .ok (.iload_n 3, 1) := by decide +kernel
theorem dX4_leastDislike_83 : decode cX4_leastDislike 83 = .ok (.ireturn, 1) := by decide +kernel
theorem dX4_feel_0 : decode cX4_feel 0 = .ok (.iload_n 1, 1) := by decide +kernel
theorem dX4_feel_1 : decode cX4_feel 1 = .ok (.ifCond .lt 21, 3) := by decide +kernel
theorem dX4_feel_4 : decode cX4_feel 4 = .ok (.iload_n 1, 1) := by decide +kernel
theorem dX4_feel_5 : decode cX4_feel 5 = .ok (.aload_n 0, 1) := by decide +kernel
theorem dX4_feel_6 : decode cX4_feel 6 = .ok (.getfield 9, 3) := by decide +kernel
theorem dX4_feel_9 : decode cX4_feel 9 = .ok (.arraylength, 1) := by decide +kernel
theorem dX4_feel_10 : decode cX4_feel 10 = .ok (.if_icmp .ge 12, 3) := by decide +kernel
theorem dX4_feel_13 : decode cX4_feel 13 = .ok (.iload_n 1, 1) := by decide +kernel
theorem dX4_feel_14 : decode cX4_feel 14 = .ok (.aload_n 0, 1) := by decide +kernel
theorem dX4_feel_15 : decode cX4_feel 15 = .ok (.getfield 13, 3) := by decide +kernel
theorem dX4_feel_18 : decode cX4_feel 18 = .ok (.arraylength, 1) := by decide +kernel
theorem dX4_feel_19 : decode cX4_feel 19 = .ok (.if_icmp .lt 4, 3) := by decide +kernel
theorem dX4_feel_22 : decode cX4_feel 22 = .ok (.return_, 1) := by decide +kernel
theorem dX4_feel_23 : decode cX4_feel 23 = .ok (.aload_n 0, 1) := by decide +kernel
theorem dX4_feel_24 : decode cX4_feel 24 = .ok (.getfield 9, 3) := by decide +kernel
theorem dX4_feel_27 : decode cX4_feel 27 = .ok (.iload_n 1, 1) := by decide +kernel
theorem dX4_feel_28 : decode cX4_feel 28 = .ok (.iaload, 1) := by decide +kernel
theorem dX4_feel_29 : decode cX4_feel 29 = .ok (.istore 4, 2) := by decide +kernel
theorem dX4_feel_31 : decode cX4_feel 31 = .ok (.aload_n 0, 1) := by decide +kernel
theorem dX4_feel_32 : decode cX4_feel 32 = .ok (.getfield 13, 3) := by decide +kernel
theorem dX4_feel_35 : decode cX4_feel 35 = .ok (.iload_n 1, 1) := by decide +kernel
theorem dX4_feel_36 : decode cX4_feel 36 = .ok (.iaload, 1) := by decide +kernel
theorem dX4_feel_37 : decode cX4_feel 37 = .ok (.istore 5, 2) := by decide +kernel
theorem dX4_feel_39 : decode cX4_feel 39 = .ok (.iload_n 2, 1) := by decide +kernel
theorem dX4_feel_40 : decode cX4_feel 40 = .ok (.sipush 1000, 3) := by decide +kernel
theorem dX4_feel_43 : decode cX4_feel 43 = .ok (.if_icmp .ne 9, 3) := by decide +kernel
theorem dX4_feel_46 : decode cX4_feel 46 = .ok (.iinc 4 (-1), 3) := by decide +kernel
theorem dX4_feel_49 : decode cX4_feel 49 = .ok (.goto 53, 3) := by decide +kernel
theorem dX4_feel_52 : decode cX4_feel 52 = .ok (.iload_n 2, 1) := by decide +kernel
theorem dX4_feel_53 : decode cX4_feel 53 = .ok (.iconst 2, 1) := by decide +kernel
theorem dX4_feel_54 : decode cX4_feel 54 = .ok (.if_icmp .gt 23, 3) := by decide +kernel
theorem dX4_feel_57 : decode cX4_feel 57 = .ok (.iload_n 3, 1) := by decide +kernel
theorem dX4_feel_58 : decode cX4_feel 58 = .ok (.ifCond .ne 13, 3) := by decide +kernel
theorem dX4_feel_61 : decode cX4_feel 61 = .ok (.iload 4, 2) := by decide +kernel
theorem dX4_feel_63 : decode cX4_feel 63 = .ok (.bipush 40, 2) := by decide +kernel
theorem dX4_feel_65 : decode cX4_feel 65 = .ok (.if_icmp .ge 6, 3) := by decide +kernel
theorem dX4_feel_68 : decode cX4_feel 68 = .ok (.iinc 4 1, 3) := by decide +kernel
theorem dX4_feel_71 : decode cX4_feel 71 = .ok (.iinc 5 2, 3) := by decide +kernel
theorem dX4_feel_74 : decode cX4_feel 74 = .ok (.goto 28, 3) := by decide +kernel
theorem dX4_feel_77 : decode cX4_feel 77 = .ok (.iload_n 2, 1) := by decide +kernel
theorem dX4_feel_78 : decode cX4_feel 78 = .ok (.bipush 6, 2) := by decide +kernel
theorem dX4_feel_80 : decode cX4_feel 80 = .ok (.if_icmp .lt 19, 3) := by decide +kernel
theorem dX4_feel_83 : decode cX4_feel 83 = .ok (.iinc 4 (-1), 3) := by decide +kernel
theorem dX4_feel_86 : decode cX4_feel 86 = .ok (.iconst 0, 1) := by decide +kernel
theorem dX4_feel_87 : decode cX4_feel 87 = .ok (.iload 5, 2) := by decide +kernel
theorem dX4_feel_89 : decode cX4_feel 89 = .ok (.iconst 3, 1) := by decide +kernel
theorem dX4_feel_90 : decode cX4_feel 90 = .ok (.isub, 1) := by decide +kernel
theorem dX4_feel_91 : decode cX4_feel 91 = .ok (.invokestatic 60, 3) := by decide +kernel
theorem dX4_feel_94 : decode cX4_feel 94 = .ok (.istore 5, 2) := by decide +kernel
theorem dX4_feel_96 : decode cX4_feel 96 = .ok (.goto 6, 3) := by decide +kernel
theorem dX4_feel_99 : decode cX4_feel 99 = .ok (.iinc 5 1, 3) := by decide +kernel
theorem dX4_feel_102 : decode cX4_feel 102 = .ok (.iload 5, 2) := by decide +kernel
theorem dX4_feel_104 : decode cX4_feel 104 = .ok (.bipush 100, 2) := by decide +kernel
theorem dX4_feel_106 : decode cX4_feel 106 = .ok (.if_icmp .lt 9, 3) := by decide +kernel
theorem dX4_feel_109 : decode cX4_feel 109 = .ok (.iinc 4 (-2), 3) := by decide +kernel
theorem dX4_feel_112 : decode cX4_feel 112 = .ok (.iinc 5 (-40), 3) := by decide +kernel
theorem dX4_feel_115 : decode cX4_feel 115 = .ok (.aload_n 0, 1) := by decide +kernel
theorem dX4_feel_116 : decode cX4_feel 116 = .ok (.getfield 9, 3) := by decide +kernel
theorem dX4_feel_119 : decode cX4_feel 119 = .ok (.iload_n 1, 1) := by decide +kernel
theorem dX4_feel_120 : decode cX4_feel 120 = .ok (.iconst 0, 1) := by decide +kernel
theorem dX4_feel_121 : decode cX4_feel 121 = .ok (.iload 4, 2) := by decide +kernel
theorem dX4_feel_123 : decode cX4_feel 123 = .ok (.invokestatic 60, 3) := by decide +kernel
theorem dX4_feel_126 : decode cX4_feel 126 = .ok (.iastore, 1) := by decide +kernel
theorem dX4_feel_127 : decode cX4_feel 127 = .ok (.aload_n 0, 1) := by decide +kernel
theorem dX4_feel_128 : decode cX4_feel 128 = .ok (.getfield 13, 3) := by decide +kernel
theorem dX4_feel_131 : decode cX4_feel 131 = .ok (.iload_n 1, 1) := by decide +kernel
theorem dX4_feel_132 : decode cX4_feel 132 = .ok (.iload 5, 2) := by decide +kernel
theorem dX4_feel_134 : decode cX4_feel 134 = .ok (.iastore, 1) := by decide +kernel
theorem dX4_feel_135 : decode cX4_feel 135 = .ok (.return_, 1) := by decide +kernel
theorem dX5_init_0 : decode cX5_init 0 = .ok (.aload_n 0, 1) := by decide +kernel
theorem dX5_init_1 : decode cX5_init 1 = .ok (.invokespecial 3, 3) := by decide +kernel
theorem dX5_init_4 : decode cX5_init 4 = .ok (.aload_n 0, 1) := by decide +kernel
theorem dX5_init_5 : decode cX5_init 5 = .ok (.iconst 4, 1) := by decide +kernel
theorem dX5_init_6 : decode cX5_init 6 = .ok (.newarray .int, 2) := by decide +kernel
theorem dX5_init_8 : decode cX5_init 8 = .ok (.putfield 9, 3) := by decide +kernel
theorem dX5_init_11 : decode cX5_init 11 = .ok (.iconst 0, 1) := by decide +kernel
theorem dX5_init_12 : decode cX5_init 12 = .ok (.istore_n 1, 1) := by decide +kernel
theorem dX5_init_13 : decode cX5_init 13 = .ok (.iload_n 1, 1) := by decide +kernel
theorem dX5_init_14 : decode cX5_init 14 = .ok (.aload_n 0, 1) := by decide +kernel
theorem dX5_init_15 : decode cX5_init 15 = .ok (.getfield 9, 3) := by decide +kernel
theorem dX5_init_18 : decode cX5_init 18 = .ok (.arraylength, 1) := by decide +kernel
theorem dX5_init_19 : decode cX5_init 19 = .ok (.if_icmp .ge 18, 3) := by decide +kernel
theorem dX5_init_22 : decode cX5_init 22 = .ok (.aload_n 0, 1) := by decide +kernel
theorem dX5_init_23 : decode cX5_init 23 = .ok (.getfield 9, 3) := by decide +kernel
theorem dX5_init_26 : decode cX5_init 26 = .ok (.iload_n 1, 1) := by decide +kernel
theorem dX5_init_27 : decode cX5_init 27 = .ok (.sipush 1000, 3) := by decide +kernel
theorem dX5_init_30 : decode cX5_init 30 = .ok (.iastore, 1) := by decide +kernel
theorem dX5_init_31 : decode cX5_init 31 = .ok (.iinc 1 1, 3) := by decide +kernel
theorem dX5_init_34 : decode cX5_init 34 = .ok (.goto (-21), 3) := by decide +kernel
theorem dX5_init_37 : decode cX5_init 37 = .ok (.return_, 1) := by decide +kernel
theorem dX5_change_0 : decode cX5_change 0 = .ok (.iload_n 1, 1) := by decide +kernel
theorem dX5_change_1 : decode cX5_change 1 = .ok (.ifCond .lt 12, 3) := by decide +kernel
theorem dX5_change_4 : decode cX5_change 4 = .ok (.iload_n 1, 1) := by decide +kernel
theorem dX5_change_5 : decode cX5_change 5 = .ok (.aload_n 0, 1) := by decide +kernel
theorem dX5_change_6 : decode cX5_change 6 = .ok (.getfield 9, 3) := by decide +kernel
theorem dX5_change_9 : decode cX5_change 9 = .ok (.arraylength, 1) := by decide +kernel
theorem dX5_change_10 : decode cX5_change 10 = .ok (.if_icmp .lt 5, 3) := by decide +kernel
theorem dX5_change_13 : decode cX5_change 13 = .ok (.iconst 0, 1) := by decide +kernel
theorem dX5_change_14 : decode cX5_change 14 = .ok (.ireturn, 1) := by decide +kernel
theorem dX5_change_15 : decode cX5_change 15 = .ok (.aload_n 0, 1) := by decide +kernel
theorem dX5_change_16 : decode cX5_change 16 = .ok (.getfield 9, 3) := by decide +kernel
theorem dX5_change_19 : decode cX5_change 19 = .ok (.iload_n 1, 1) := by decide +kernel
theorem dX5_change_20 : decode cX5_change 20 = .ok (.iaload, 1) := by decide +kernel
theorem dX5_change_21 : decode cX5_change 21 = .ok (.istore_n 3, 1) := by decide +kernel
theorem dX5_change_22 : decode cX5_change 22 = .ok (.aload_n 0, 1) := by decide +kernel
theorem dX5_change_23 : decode cX5_change 23 = .ok (.getfield 9, 3) := by decide +kernel
theorem dX5_change_26 : decode cX5_change 26 = .ok (.iload_n 1, 1) := by decide +kernel
theorem dX5_change_27 : decode cX5_change 27 = .ok (.iload_n 2, 1) := by decide +kernel
theorem dX5_change_28 : decode cX5_change 28 = .ok (.iastore, 1) := by decide +kernel
theorem dX5_change_29 : decode cX5_change 29 = .ok (.iload_n 3, 1) := by decide +kernel
theorem dX5_change_30 : decode cX5_change 30 = .ok (.ireturn, 1) := by decide +kernel
theorem dX5_listen_0 : decode cX5_listen 0 = .ok (.aload_n 0, 1) := by decide +kernel
theorem dX5_listen_1 : decode cX5_listen 1 = .ok (.dup, 1) := by decide +kernel
theorem dX5_listen_2 : decode cX5_listen 2 = .ok (.getfield 15, 3) := by decide +kernel
theorem dX5_listen_5 : decode cX5_listen 5 = .ok (.iload_n 1, 1) := by decide +kernel
theorem dX5_listen_6 : decode cX5_listen 6 = .ok (.iadd, 1) := by decide +kernel
theorem dX5_listen_7 : decode cX5_listen 7 = .ok (.putfield 15, 3) := by decide +kernel
theorem dX5_listen_10 : decode cX5_listen 10 = .ok (.return_, 1) := by decide +kernel
theorem dX5_judge_0 : decode cX5_judge 0 = .ok (.iload_n 1, 1) := by decide +kernel
theorem dX5_judge_1 : decode cX5_judge 1 = .ok (.iconst 1, 1) := by decide +kernel
theorem dX5_judge_2 : decode cX5_judge 2 = .ok (.isub, 1) := by decide +kernel
theorem dX5_judge_3 : decode cX5_judge 3 = .ok (.ldc 19, 2) := by decide +kernel
theorem dX5_judge_5 : decode cX5_judge 5 = .ok (.idiv, 1) := by decide +kernel
theorem dX5_judge_6 : decode cX5_judge 6 = .ok (.iconst 4, 1) := by decide +kernel
theorem dX5_judge_7 : decode cX5_judge 7 = .ok (.invokestatic 20, 3) := by decide +kernel
theorem dX5_judge_10 : decode cX5_judge 10 = .ok (.istore_n 2, 1) := by decide +kernel
theorem dX5_judge_11 : decode cX5_judge 11 = .ok (.aload_n 0, 1) := by decide +kernel
theorem dX5_judge_12 : decode cX5_judge 12 = .ok (.getfield 15, 3) := by decide +kernel
theorem dX5_judge_15 : decode cX5_judge 15 = .ok (.bipush 100, 2) := by decide +kernel
theorem dX5_judge_17 : decode cX5_judge 17 = .ok (.idiv, 1) := by decide +kernel
theorem dX5_judge_18 : decode cX5_judge 18 = .ok (.istore_n 3, 1) := by decide +kernel
theorem dX5_judge_19 : decode cX5_judge 19 = .ok (.iload_n 2, 1) := by decide +kernel
theorem dX5_judge_20 : decode cX5_judge 20 = .ok (.aload_n 0, 1) := by decide +kernel
theorem dX5_judge_21 : decode cX5_judge 21 = .ok (.getfield 9, 3) := by decide +kernel
theorem dX5_judge_24 : decode cX5_judge 24 = .ok (.arraylength, 1) := by decide +kernel
theorem dX5_judge_25 : decode cX5_judge 25 = .ok (.if_icmp .ge 23, 3) := by decide +kernel
theorem dX5_judge_28 : decode cX5_judge 28 = .ok (.iload_n 3, 1) := by decide +kernel
theorem dX5_judge_29 : decode cX5_judge 29 = .ok (.aload_n 0, 1) := by decide +kernel
theorem dX5_judge_30 : decode cX5_judge 30 = .ok (.getfield 9, 3) := by decide +kernel
theorem dX5_judge_33 : decode cX5_judge 33 = .ok (.iload_n 2, 1) := by decide +kernel
theorem dX5_judge_34 : decode cX5_judge 34 = .ok (.iaload, 1) := by decide +kernel
theorem dX5_judge_35 : decode cX5_judge 35 = .ok (.if_icmp .le 13, 3) := by decide +kernel
theorem dX5_judge_38 : decode cX5_judge 38 = .ok (.aload_n 0, 1) := by decide +kernel
theorem dX5_judge_39 : decode cX5_judge 39 = .ok (.dup, 1) := by decide +kernel
theorem dX5_judge_40 : decode cX5_judge 40 = .ok (.getfield 26, 3) := by decide +kernel
theorem dX5_judge_43 : decode cX5_judge 43 = .ok (.iconst 1, 1) := by decide +kernel
theorem dX5_judge_44 : decode cX5_judge 44 = .ok (.iadd, 1) := by decide +kernel
theorem dX5_judge_45 : decode cX5_judge 45 = .ok (.putfield 26, 3) := by decide +kernel
theorem dX5_judge_48 : decode cX5_judge 48 = .ok (.aload_n 0, 1) := by decide +kernel
theorem dX5_judge_49 : decode cX5_judge 49 = .ok (.iconst 0, 1) := by decide +kernel
theorem dX5_judge_50 : decode cX5_judge 50 = .ok (.putfield 15, 3) := by decide +kernel
theorem dX5_judge_53 : decode cX5_judge 53 = .ok (.return_, 1) := by decide +kernel
theorem dX6_init_0 : decode cX6_init 0 = .ok (.aload_n 0, 1) := by decide +kernel
theorem dX6_init_1 : decode cX6_init 1 = .ok (.invokespecial 3, 3) := by decide +kernel
theorem dX6_init_4 : decode cX6_init 4 = .ok (.aload_n 0, 1) := by decide +kernel
theorem dX6_init_5 : decode cX6_init 5 = .ok (.sipush 4096, 3) := by decide +kernel
theorem dX6_init_8 : decode cX6_init 8 = .ok (.newarray .int, 2) := by decide +kernel
theorem dX6_init_10 : decode cX6_init 10 = .ok (.putfield 11, 3) := by decide +kernel
theorem dX6_init_13 : decode cX6_init 13 = .ok (.aload_n 0, 1) := by decide +kernel
theorem dX6_init_14 : decode cX6_init 14 = .ok (.sipush 512, 3) := by decide +kernel
theorem dX6_init_17 : decode cX6_init 17 = .ok (.newarray .char, 2) := by decide +kernel
theorem dX6_init_19 : decode cX6_init 19 = .ok (.putfield 15, 3) := by decide +kernel
theorem dX6_init_22 : decode cX6_init 22 = .ok (.return_, 1) := by decide +kernel
theorem dX6_open_0 : decode cX6_open 0 = .ok (.aload_n 0, 1) := by decide +kernel
theorem dX6_open_1 : decode cX6_open 1 = .ok (.aload_n 0, 1) := by decide +kernel
theorem dX6_open_2 : decode cX6_open 2 = .ok (.getfield 19, 3) := by decide +kernel
theorem dX6_open_5 : decode cX6_open 5 = .ok (.bipush 8, 2) := by decide +kernel
theorem dX6_open_7 : decode cX6_open 7 = .ok (.imul, 1) := by decide +kernel
theorem dX6_open_8 : decode cX6_open 8 = .ok (.putfield 23, 3) := by decide +kernel
theorem dX6_open_11 : decode cX6_open 11 = .ok (.aload_n 0, 1) := by decide +kernel
theorem dX6_open_12 : decode cX6_open 12 = .ok (.getfield 19, 3) := by decide +kernel
theorem dX6_open_15 : decode cX6_open 15 = .ok (.sipush 512, 3) := by decide +kernel
theorem dX6_open_18 : decode cX6_open 18 = .ok (.if_icmp .ge 13, 3) := by decide +kernel
theorem dX6_open_21 : decode cX6_open 21 = .ok (.aload_n 0, 1) := by decide +kernel
theorem dX6_open_22 : decode cX6_open 22 = .ok (.dup, 1) := by decide +kernel
theorem dX6_open_23 : decode cX6_open 23 = .ok (.getfield 19, 3) := by decide +kernel
theorem dX6_open_26 : decode cX6_open 26 = .ok (.iconst 1, 1) := by decide +kernel
theorem dX6_open_27 : decode cX6_open 27 = .ok (.iadd, 1) := by decide +kernel
theorem dX6_open_28 : decode cX6_open 28 = .ok (.putfield 19, 3) := by decide +kernel
theorem dX6_open_31 : decode cX6_open 31 = .ok (.aload_n 0, 1) := by decide +kernel
theorem dX6_open_32 : decode cX6_open 32 = .ok (.iload_n 1, 1) := by decide +kernel
theorem dX6_open_33 : decode cX6_open 33 = .ok (.invokevirtual 26, 3) := by decide +kernel
theorem dX6_open_36 : decode cX6_open 36 = .ok (.return_, 1) := by decide +kernel
theorem dX6_put_0 : decode cX6_put 0 = .ok (.aload_n 0, 1) := by decide +kernel
theorem dX6_put_1 : decode cX6_put 1 = .ok (.getfield 23, 3) := by decide +kernel
theorem dX6_put_4 : decode cX6_put 4 = .ok (.ifCond .lt 35, 3) := by decide +kernel
theorem dX6_put_7 : decode cX6_put 7 = .ok (.aload_n 0, 1) := by decide +kernel
theorem dX6_put_8 : decode cX6_put 8 = .ok (.getfield 23, 3) := by decide +kernel
theorem dX6_put_11 : decode cX6_put 11 = .ok (.aload_n 0, 1) := by decide +kernel
theorem dX6_put_12 : decode cX6_put 12 = .ok (.getfield 11, 3) := by decide +kernel
theorem dX6_put_15 : decode cX6_put 15 = .ok (.arraylength, 1) := by decide +kernel
theorem dX6_put_16 : decode cX6_put 16 = .ok (.if_icmp .ge 23, 3) := by decide +kernel
theorem dX6_put_19 : decode cX6_put 19 = .ok (.aload_n 0, 1) := by decide +kernel
theorem dX6_put_20 : decode cX6_put 20 = .ok (.getfield 11, 3) := by decide +kernel
theorem dX6_put_23 : decode cX6_put 23 = .ok (.aload_n 0, 1) := by decide +kernel
theorem dX6_put_24 : decode cX6_put 24 = .ok (.getfield 23, 3) := by decide +kernel
theorem dX6_put_27 : decode cX6_put 27 = .ok (.iload_n 1, 1) := by decide +kernel
theorem dX6_put_28 : decode cX6_put 28 = .ok (.iastore, 1) := by decide +kernel
theorem dX6_put_29 : decode cX6_put 29 = .ok (.aload_n 0, 1) := by decide +kernel
theorem dX6_put_30 : decode cX6_put 30 = .ok (.dup, 1) := by decide +kernel
theorem dX6_put_31 : decode cX6_put 31 = .ok (.getfield 23, 3) := by decide +kernel
theorem dX6_put_34 : decode cX6_put 34 = .ok (.iconst 1, 1) := by decide +kernel
theorem dX6_put_35 : decode cX6_put 35 = .ok (.iadd, 1) := by decide +kernel
theorem dX6_put_36 : decode cX6_put 36 = .ok (.putfield 23, 3) := by decide +kernel
theorem dX6_put_39 : decode cX6_put 39 = .ok (.return_, 1) := by decide +kernel
theorem dX6_note_0 : decode cX6_note 0 = .ok (.aload_n 0, 1) := by decide +kernel
theorem dX6_note_1 : decode cX6_note 1 = .ok (.iload_n 1, 1) := by decide +kernel
theorem dX6_note_2 : decode cX6_note 2 = .ok (.invokevirtual 30, 3) := by decide +kernel
theorem dX6_note_5 : decode cX6_note 5 = .ok (.aload_n 0, 1) := by decide +kernel
theorem dX6_note_6 : decode cX6_note 6 = .ok (.iload_n 2, 1) := by decide +kernel
theorem dX6_note_7 : decode cX6_note 7 = .ok (.invokevirtual 26, 3) := by decide +kernel
theorem dX6_note_10 : decode cX6_note 10 = .ok (.aload_n 0, 1) := by decide +kernel
theorem dX6_note_11 : decode cX6_note 11 = .ok (.iload_n 3, 1) := by decide +kernel
theorem dX6_note_12 : decode cX6_note 12 = .ok (.invokevirtual 26, 3) := by decide +kernel
theorem dX6_note_15 : decode cX6_note 15 = .ok (.aload_n 0, 1) := by decide +kernel
theorem dX6_note_16 : decode cX6_note 16 = .ok (.iload 4, 2) := by decide +kernel
theorem dX6_note_18 : decode cX6_note 18 = .ok (.invokevirtual 26, 3) := by decide +kernel
theorem dX6_note_21 : decode cX6_note 21 = .ok (.return_, 1) := by decide +kernel
theorem dX6_noteText_0 : decode cX6_noteText 0 = .ok (.aload_n 0, 1) := by decide +kernel
theorem dX6_noteText_1 : decode cX6_noteText 1 = .ok (.getfield 33, 3) := by decide +kernel
theorem dX6_noteText_4 : decode cX6_noteText 4 = .ok (.istore_n 3, 1) := by decide +kernel
theorem dX6_noteText_5 : decode cX6_noteText 5 = .ok (.iconst 0, 1) := by decide +kernel
theorem dX6_noteText_6 : decode cX6_noteText 6 = .ok (.istore 4, 2) := by decide +kernel
theorem dX6_noteText_8 : decode cX6_noteText 8 = .ok (.iload 4, 2) := by decide +kernel
theorem dX6_noteText_10 : decode cX6_noteText 10 = .ok (.iload_n 2, 1) := by decide +kernel
theorem dX6_noteText_11 : decode cX6_noteText 11 = .ok (.if_icmp .ge 58, 3) := by decide +kernel
theorem dX6_noteText_14 : decode cX6_noteText 14 = .ok (.iload 4, 2) := by decide +kernel
theorem dX6_noteText_16 : decode cX6_noteText 16 = .ok (.aload_n 1, 1) := by decide +kernel
theorem dX6_noteText_17 : decode cX6_noteText 17 = .ok (.arraylength, 1) := by decide +kernel
theorem dX6_noteText_18 : decode cX6_noteText 18 = .ok (.if_icmp .ge 51, 3) := by decide +kernel
theorem dX6_noteText_21 : decode cX6_noteText 21 = .ok (.aload_n 0, 1) := by decide +kernel
theorem dX6_noteText_22 : decode cX6_noteText 22 = .ok (.getfield 33, 3) := by decide +kernel
theorem dX6_noteText_25 : decode cX6_noteText 25 = .ok (.ifCond .lt 38, 3) := by decide +kernel
theorem dX6_noteText_28 : decode cX6_noteText 28 = .ok (.aload_n 0, 1) := by decide +kernel
theorem dX6_noteText_29 : decode cX6_noteText 29 = .ok (.getfield 33, 3) := by decide +kernel
theorem dX6_noteText_32 : decode cX6_noteText 32 = .ok (.aload_n 0, 1) := by decide +kernel
theorem dX6_noteText_33 : decode cX6_noteText 33 = .ok (.getfield 15, 3) := by decide +kernel
theorem dX6_noteText_36 : decode cX6_noteText 36 = .ok (.arraylength, 1) := by decide +kernel
theorem dX6_noteText_37 : decode cX6_noteText 37 = .ok (.if_icmp .ge 26, 3) := by decide +kernel
theorem dX6_noteText_40 : decode cX6_noteText 40 = .ok (.aload_n 0, 1) := by decide +kernel
theorem dX6_noteText_41 : decode cX6_noteText 41 = .ok (.getfield 15, 3) := by decide +kernel
theorem dX6_noteText_44 : decode cX6_noteText 44 = .ok (.aload_n 0, 1) := by decide +kernel
theorem dX6_noteText_45 : decode cX6_noteText 45 = .ok (.getfield 33, 3) := by decide +kernel
theorem dX6_noteText_48 : decode cX6_noteText 48 = .ok (.aload_n 1, 1) := by decide +kernel
theorem dX6_noteText_49 : decode cX6_noteText 49 = .ok (.iload 4, 2) := by decide +kernel
theorem dX6_noteText_51 : decode cX6_noteText 51 = .ok (.caload, 1) := by decide +kernel
theorem dX6_noteText_52 : decode cX6_noteText 52 = .ok (.castore, 1) := by decide +kernel
theorem dX6_noteText_53 : decode cX6_noteText 53 = .ok (.aload_n 0, 1) := by decide +kernel
theorem dX6_noteText_54 : decode cX6_noteText 54 = .ok (.dup, 1) := by decide +kernel
theorem dX6_noteText_55 : decode cX6_noteText 55 = .ok (.getfield 33, 3) := by decide +kernel
theorem dX6_noteText_58 : decode cX6_noteText 58 = .ok (.iconst 1, 1) := by decide +kernel
theorem dX6_noteText_59 : decode cX6_noteText 59 = .ok (.iadd, 1) := by decide +kernel
theorem dX6_noteText_60 : decode cX6_noteText 60 = .ok (.putfield 33, 3) := by decide +kernel
theorem dX6_noteText_63 : decode cX6_noteText 63 = .ok (.iinc 4 1, 3) := by decide +kernel
theorem dX6_noteText_66 : decode cX6_noteText 66 = .ok (.goto (-58), 3) := by decide +kernel
theorem dX6_noteText_69 : decode cX6_noteText 69 = .ok (.iload_n 3, 1) := by decide +kernel
theorem dX6_noteText_70 : decode cX6_noteText 70 = .ok (.ireturn, 1) := by decide +kernel
theorem dX6_numberAt_0 : decode cX6_numberAt 0 = .ok (.iload_n 1, 1) := by decide +kernel
theorem dX6_numberAt_1 : decode cX6_numberAt 1 = .ok (.bipush 8, 2) := by decide +kernel
theorem dX6_numberAt_3 : decode cX6_numberAt 3 = .ok (.imul, 1) := by decide +kernel
theorem dX6_numberAt_4 : decode cX6_numberAt 4 = .ok (.iload_n 2, 1) := by decide +kernel
theorem dX6_numberAt_5 : decode cX6_numberAt 5 = .ok (.iadd, 1) := by decide +kernel
theorem dX6_numberAt_6 : decode cX6_numberAt 6 = .ok (.istore_n 3, 1) := by decide +kernel
theorem dX6_numberAt_7 : decode cX6_numberAt 7 = .ok (.iload_n 3, 1) := by decide +kernel
theorem dX6_numberAt_8 : decode cX6_numberAt 8 = .ok (.ifCond .lt 21, 3) := by decide +kernel
theorem dX6_numberAt_11 : decode cX6_numberAt 11 = .ok (.iload_n 3, 1) := by decide +kernel
theorem dX6_numberAt_12 : decode cX6_numberAt 12 = .ok (.aload_n 0, 1) := by decide +kernel
theorem dX6_numberAt_13 : decode cX6_numberAt 13 = .ok (.getfield 11, 3) := by decide +kernel
theorem dX6_numberAt_16 : decode cX6_numberAt 16 = .ok (.arraylength, 1) := by decide +kernel
theorem dX6_numberAt_17 : decode cX6_numberAt 17 = .ok (.if_icmp .ge 12, 3) := by decide +kernel
theorem dX6_numberAt_20 : decode cX6_numberAt 20 = .ok (.aload_n 0, 1) := by decide +kernel
theorem dX6_numberAt_21 : decode cX6_numberAt 21 = .ok (.getfield 11, 3) := by decide +kernel
theorem dX6_numberAt_24 : decode cX6_numberAt 24 = .ok (.iload_n 3, 1) := by decide +kernel
theorem dX6_numberAt_25 : decode cX6_numberAt 25 = .ok (.iaload, 1) := by decide +kernel
theorem dX6_numberAt_26 : decode cX6_numberAt 26 = .ok (.goto 4, 3) := by decide +kernel
theorem dX6_numberAt_29 : decode cX6_numberAt 29 = .ok (.iconst 0, 1) := by decide +kernel
theorem dX6_numberAt_30 : decode cX6_numberAt 30 = .ok (.ireturn, 1) := by decide +kernel
theorem dX7_init_0 : decode cX7_init 0 = .ok (.aload_n 0, 1) := by decide +kernel
theorem dX7_init_1 : decode cX7_init 1 = .ok (.invokespecial 3, 3) := by decide +kernel
theorem dX7_init_4 : decode cX7_init 4 = .ok (.aload_n 0, 1) := by decide +kernel
theorem dX7_init_5 : decode cX7_init 5 = .ok (.bipush 30, 2) := by decide +kernel
theorem dX7_init_7 : decode cX7_init 7 = .ok (.newarray .char, 2) := by decide +kernel
theorem dX7_init_9 : decode cX7_init 9 = .ok (.putfield 9, 3) := by decide +kernel
theorem dX7_init_12 : decode cX7_init 12 = .ok (.aload_n 0, 1) := by decide +kernel
theorem dX7_init_13 : decode cX7_init 13 = .ok (.iconst 2, 1) := by decide +kernel
theorem dX7_init_14 : decode cX7_init 14 = .ok (.newarray .char, 2) := by decide +kernel
theorem dX7_init_16 : decode cX7_init 16 = .ok (.putfield 15, 3) := by decide +kernel
theorem dX7_init_19 : decode cX7_init 19 = .ok (.aload_n 0, 1) := by decide +kernel
theorem dX7_init_20 : decode cX7_init 20 = .ok (.iconst 2, 1) := by decide +kernel
theorem dX7_init_21 : decode cX7_init 21 = .ok (.newarray .int, 2) := by decide +kernel
theorem dX7_init_23 : decode cX7_init 23 = .ok (.putfield 18, 3) := by decide +kernel
theorem dX7_init_26 : decode cX7_init 26 = .ok (.aload_n 0, 1) := by decide +kernel
theorem dX7_init_27 : decode cX7_init 27 = .ok (.iconst 4, 1) := by decide +kernel
theorem dX7_init_28 : decode cX7_init 28 = .ok (.anewarray 24, 3) := by decide +kernel
theorem dX7_init_31 : decode cX7_init 31 = .ok (.putfield 26, 3) := by decide +kernel
theorem dX7_init_34 : decode cX7_init 34 = .ok (.iconst 0, 1) := by decide +kernel
theorem dX7_init_35 : decode cX7_init 35 = .ok (.istore_n 1, 1) := by decide +kernel
theorem dX7_init_36 : decode cX7_init 36 = .ok (.iload_n 1, 1) := by decide +kernel
theorem dX7_init_37 : decode cX7_init 37 = .ok (.aload_n 0, 1) := by decide +kernel
theorem dX7_init_38 : decode cX7_init 38 = .ok (.getfield 26, 3) := by decide +kernel
theorem dX7_init_41 : decode cX7_init 41 = .ok (.arraylength, 1) := by decide +kernel
theorem dX7_init_42 : decode cX7_init 42 = .ok (.if_icmp .ge 22, 3) := by decide +kernel
theorem dX7_init_45 : decode cX7_init 45 = .ok (.aload_n 0, 1) := by decide +kernel
theorem dX7_init_46 : decode cX7_init 46 = .ok (.getfield 26, 3) := by decide +kernel
theorem dX7_init_49 : decode cX7_init 49 = .ok (.iload_n 1, 1) := by decide +kernel
theorem dX7_init_50 : decode cX7_init 50 = .ok (.new 24, 3) := by decide +kernel
theorem dX7_init_53 : decode cX7_init 53 = .ok (.dup, 1) := by decide +kernel
theorem dX7_init_54 : decode cX7_init 54 = .ok (.invokespecial 30, 3) := by decide +kernel
theorem dX7_init_57 : decode cX7_init 57 = .ok (.aastore, 1) := by decide +kernel
theorem dX7_init_58 : decode cX7_init 58 = .ok (.iinc 1 1, 3) := by decide +kernel
theorem dX7_init_61 : decode cX7_init 61 = .ok (.goto (-25), 3) := by decide +kernel
theorem dX7_init_64 : decode cX7_init 64 = .ok (.return_, 1) := by decide +kernel
theorem dX7_append_0 : decode cX7_append 0 = .ok (.aload_n 0, 1) := by decide +kernel
theorem dX7_append_1 : decode cX7_append 1 = .ok (.getfield 31, 3) := by decide +kernel
theorem dX7_append_4 : decode cX7_append 4 = .ok (.ifCond .lt 35, 3) := by decide +kernel
theorem dX7_append_7 : decode cX7_append 7 = .ok (.aload_n 0, 1) := by decide +kernel
theorem dX7_append_8 : decode cX7_append 8 = .ok (.getfield 31, 3) := by decide +kernel
theorem dX7_append_11 : decode cX7_append 11 = .ok (.aload_n 0, 1) := by decide +kernel
theorem dX7_append_12 : decode cX7_append 12 = .ok (.getfield 9, 3) := by decide +kernel
theorem dX7_append_15 : decode cX7_append 15 = .ok (.arraylength, 1) := by decide +kernel
theorem dX7_append_16 : decode cX7_append 16 = .ok (.if_icmp .ge 23, 3) := by decide +kernel
theorem dX7_append_19 : decode cX7_append 19 = .ok (.aload_n 0, 1) := by decide +kernel
theorem dX7_append_20 : decode cX7_append 20 = .ok (.getfield 9, 3) := by decide +kernel
theorem dX7_append_23 : decode cX7_append 23 = .ok (.aload_n 0, 1) := by decide +kernel
theorem dX7_append_24 : decode cX7_append 24 = .ok (.getfield 31, 3) := by decide +kernel
theorem dX7_append_27 : decode cX7_append 27 = .ok (.iload_n 1, 1) := by decide +kernel
theorem dX7_append_28 : decode cX7_append 28 = .ok (.castore, 1) := by decide +kernel
theorem dX7_append_29 : decode cX7_append 29 = .ok (.aload_n 0, 1) := by decide +kernel
theorem dX7_append_30 : decode cX7_append 30 = .ok (.dup, 1) := by decide +kernel
theorem dX7_append_31 : decode cX7_append 31 = .ok (.getfield 31, 3) := by decide +kernel
theorem dX7_append_34 : decode cX7_append 34 = .ok (.iconst 1, 1) := by decide +kernel
theorem dX7_append_35 : decode cX7_append 35 = .ok (.iadd, 1) := by decide +kernel
theorem dX7_append_36 : decode cX7_append 36 = .ok (.putfield 31, 3) := by decide +kernel
theorem dX7_append_39 : decode cX7_append 39 = .ok (.aload_n 0, 1) := by decide +kernel
theorem dX7_append_40 : decode cX7_append 40 = .ok (.getfield 31, 3) := by decide +kernel
theorem dX7_append_43 : decode cX7_append 43 = .ok (.ireturn, 1) := by decide +kernel
theorem dX7_empty_0 : decode cX7_empty 0 = .ok (.aload_n 0, 1) := by decide +kernel
theorem dX7_empty_1 : decode cX7_empty 1 = .ok (.getfield 31, 3) := by decide +kernel
theorem dX7_empty_4 : decode cX7_empty 4 = .ok (.istore_n 1, 1) := by decide +kernel
theorem dX7_empty_5 : decode cX7_empty 5 = .ok (.aload_n 0, 1) := by decide +kernel
theorem dX7_empty_6 : decode cX7_empty 6 = .ok (.iconst 0, 1) := by decide +kernel
theorem dX7_empty_7 : decode cX7_empty 7 = .ok (.putfield 31, 3) := by decide +kernel
theorem dX7_empty_10 : decode cX7_empty 10 = .ok (.iload_n 1, 1) := by decide +kernel
theorem dX7_empty_11 : decode cX7_empty 11 = .ok (.ireturn, 1) := by decide +kernel
theorem dX7_causeSign_0 : decode cX7_causeSign 0 = .ok (.iload_n 1, 1) := by decide +kernel
theorem dX7_causeSign_1 : decode cX7_causeSign 1 = .ok (.ifCond .lt 21, 3) := by decide +kernel
theorem dX7_causeSign_4 : decode cX7_causeSign 4 = .ok (.iload_n 1, 1) := by decide +kernel
theorem dX7_causeSign_5 : decode cX7_causeSign 5 = .ok (.aload_n 0, 1) := by decide +kernel
theorem dX7_causeSign_6 : decode cX7_causeSign 6 = .ok (.getfield 15, 3) := by decide +kernel
theorem dX7_causeSign_9 : decode cX7_causeSign 9 = .ok (.arraylength, 1) := by decide +kernel
theorem dX7_causeSign_10 : decode cX7_causeSign 10 = .ok (.if_icmp .ge 12, 3) := by decide +kernel
theorem dX7_causeSign_13 : decode cX7_causeSign 13 = .ok (.aload_n 0, 1) := by decide +kernel
theorem dX7_causeSign_14 : decode cX7_causeSign 14 = .ok (.getfield 15, 3) := by decide +kernel
theorem dX7_causeSign_17 : decode cX7_causeSign 17 = .ok (.iload_n 1, 1) := by decide +kernel
theorem dX7_causeSign_18 : decode cX7_causeSign 18 = .ok (.caload, 1) := by decide +kernel
theorem dX7_causeSign_19 : decode cX7_causeSign 19 = .ok (.goto 5, 3) := by decide +kernel
theorem dX7_causeSign_22 : decode cX7_causeSign 22 = .ok (.bipush 32, 2) := by decide +kernel
theorem dX7_causeSign_24 : decode cX7_causeSign 24 = .ok (.ireturn, 1) := by decide +kernel
theorem dX7_causePlace_0 : decode cX7_causePlace 0 = .ok (.iload_n 1, 1) := by decide +kernel
theorem dX7_causePlace_1 : decode cX7_causePlace 1 = .ok (.ifCond .lt 21, 3) := by decide +kernel
theorem dX7_causePlace_4 : decode cX7_causePlace 4 = .ok (.iload_n 1, 1) := by decide +kernel
theorem dX7_causePlace_5 : decode cX7_causePlace 5 = .ok (.aload_n 0, 1) := by decide +kernel
theorem dX7_causePlace_6 : decode cX7_causePlace 6 = .ok (.getfield 18, 3) := by decide +kernel
theorem dX7_causePlace_9 : decode cX7_causePlace 9 = .ok (.arraylength, 1) := by decide +kernel
theorem dX7_causePlace_10 : decode cX7_causePlace 10 = .ok (.if_icmp .ge 12, 3) := by decide +kernel
theorem dX7_causePlace_13 : decode cX7_causePlace 13 = .ok (.aload_n 0, 1) := by decide +kernel
theorem dX7_causePlace_14 : decode cX7_causePlace 14 = .ok (.getfield 18, 3) := by decide +kernel
theorem dX7_causePlace_17 : decode cX7_causePlace 17 = .ok (.iload_n 1, 1) := by decide +kernel
theorem dX7_causePlace_18 : decode cX7_causePlace 18 = .ok (.iaload, 1) := by decide +kernel
theorem dX7_causePlace_19 : decode cX7_causePlace 19 = .ok (.goto 4, 3) := by decide +kernel
theorem dX7_causePlace_22 : decode cX7_causePlace 22 = .ok (.iconst (-1), 1) := by decide +kernel
theorem dX7_causePlace_23 : decode cX7_causePlace 23 = .ok (.ireturn, 1) := by decide +kernel
theorem dX7_addCause_0 : decode cX7_addCause 0 = .ok (.aload_n 0, 1) := by decide +kernel
theorem dX7_addCause_1 : decode cX7_addCause 1 = .ok (.getfield 35, 3) := by decide +kernel
theorem dX7_addCause_4 : decode cX7_addCause 4 = .ok (.ifCond .lt 57, 3) := by decide +kernel
theorem dX7_addCause_7 : decode cX7_addCause 7 = .ok (.aload_n 0, 1) := by decide +kernel
theorem dX7_addCause_8 : decode cX7_addCause 8 = .ok (.getfield 35, 3) := by decide +kernel
theorem dX7_addCause_11 : decode cX7_addCause 11 = .ok (.aload_n 0, 1) := by decide +kernel
theorem dX7_addCause_12 : decode cX7_addCause 12 = .ok (.getfield 15, 3) := by decide +kernel
theorem dX7_addCause_15 : decode cX7_addCause 15 = .ok (.arraylength, 1) := by decide +kernel
theorem dX7_addCause_16 : decode cX7_addCause 16 = .ok (.if_icmp .ge 45, 3) := by decide +kernel
theorem dX7_addCause_19 : decode cX7_addCause 19 = .ok (.aload_n 0, 1) := by decide +kernel
theorem dX7_addCause_20 : decode cX7_addCause 20 = .ok (.getfield 35, 3) := by decide +kernel
theorem dX7_addCause_23 : decode cX7_addCause 23 = .ok (.aload_n 0, 1) := by decide +kernel
theorem dX7_addCause_24 : decode cX7_addCause 24 = .ok (.getfield 18, 3) := by decide +kernel
theorem dX7_addCause_27 : decode cX7_addCause 27 = .ok (.arraylength, 1) := by decide +kernel
theorem dX7_addCause_28 : decode cX7_addCause 28 = .ok (.if_icmp .ge 33, 3) := by decide +kernel
theorem dX7_addCause_31 : decode cX7_addCause 31 = .ok (.aload_n 0, 1) := by decide +kernel
theorem dX7_addCause_32 : decode cX7_addCause 32 = .ok (.getfield 15, 3) := by decide +kernel
theorem dX7_addCause_35 : decode cX7_addCause 35 = .ok (.aload_n 0, 1) := by decide +kernel
theorem dX7_addCause_36 : decode cX7_addCause 36 = .ok (.getfield 35, 3) := by decide +kernel
theorem dX7_addCause_39 : decode cX7_addCause 39 = .ok (.iload_n 1, 1) := by decide +kernel
theorem dX7_addCause_40 : decode cX7_addCause 40 = .ok (.castore, 1) := by decide +kernel
theorem dX7_addCause_41 : decode cX7_addCause 41 = .ok (.aload_n 0, 1) := by decide +kernel
theorem dX7_addCause_42 : decode cX7_addCause 42 = .ok (.getfield 18, 3) := by decide +kernel
theorem dX7_addCause_45 : decode cX7_addCause 45 = .ok (.aload_n 0, 1) := by decide +kernel
theorem dX7_addCause_46 : decode cX7_addCause 46 = .ok (.getfield 35, 3) := by decide +kernel
theorem dX7_addCause_49 : decode cX7_addCause 49 = .ok (.iload_n 2, 1) := by decide +kernel
theorem dX7_addCause_50 : decode cX7_addCause 50 = .ok (.iastore, 1) := by decide +kernel
theorem dX7_addCause_51 : decode cX7_addCause 51 = .ok (.aload_n 0, 1) := by decide +kernel
theorem dX7_addCause_52 : decode cX7_addCause 52 = .ok (.dup, 1) := by decide +kernel
theorem dX7_addCause_53 : decode cX7_addCause 53 = .ok (.getfield 35, 3) := by decide +kernel
theorem dX7_addCause_56 : decode cX7_addCause 56 = .ok (.iconst 1, 1) := by decide +kernel
theorem dX7_addCause_57 : decode cX7_addCause 57 = .ok (.iadd, 1) := by decide +kernel
theorem dX7_addCause_58 : decode cX7_addCause 58 = .ok (.putfield 35, 3) := by decide +kernel
theorem dX7_addCause_61 : decode cX7_addCause 61 = .ok (.return_, 1) := by decide +kernel
theorem dX7_isReadable_0 : decode cX7_isReadable 0 = .ok (.aload_n 0, 1) := by decide +kernel
theorem dX7_isReadable_1 : decode cX7_isReadable 1 = .ok (.invokevirtual 38, 3) := by decide +kernel
theorem dX7_isReadable_4 : decode cX7_isReadable 4 = .ok (.istore_n 1, 1) := by decide +kernel
theorem dX7_isReadable_5 : decode cX7_isReadable 5 = .ok (.iload_n 1, 1) := by decide +kernel
theorem dX7_isReadable_6 : decode cX7_isReadable 6 = .ok (.iconst (-1), 1) := by decide +kernel
theorem dX7_isReadable_7 : decode cX7_isReadable 7 = .ok (.if_icmp .ne 5, 3) := by decide +kernel
theorem dX7_isReadable_10 : decode cX7_isReadable 10 = .ok (.iconst 1, 1) := by decide +kernel
theorem dX7_isReadable_11 : decode cX7_isReadable 11 = .ok (.ireturn, 1) := by decide +kernel
theorem dX7_isReadable_12 : decode cX7_isReadable 12 = .ok (.aload_n 0, 1) := by decide +kernel
theorem dX7_isReadable_13 : decode cX7_isReadable 13 = .ok (.iconst 0, 1) := by decide +kernel
theorem dX7_isReadable_14 : decode cX7_isReadable 14 = .ok (.putfield 35, 3) := by decide +kernel
theorem dX7_isReadable_17 : decode cX7_isReadable 17 = .ok (.aload_n 0, 1) := by decide +kernel
theorem dX7_isReadable_18 : decode cX7_isReadable 18 = .ok (.bipush 116, 2) := by decide +kernel
theorem dX7_isReadable_20 : decode cX7_isReadable 20 = .ok (.iload_n 1, 1) := by decide +kernel
theorem dX7_isReadable_21 : decode cX7_isReadable 21 = .ok (.invokevirtual 42, 3) := by decide +kernel
theorem dX7_isReadable_24 : decode cX7_isReadable 24 = .ok (.iconst 0, 1) := by decide +kernel
theorem dX7_isReadable_25 : decode cX7_isReadable 25 = .ok (.ireturn, 1) := by decide +kernel
theorem dX7_firstFault_0 : decode cX7_firstFault 0 = .ok (.iconst 0, 1) := by decide +kernel
theorem dX7_firstFault_1 : decode cX7_firstFault 1 = .ok (.istore_n 1, 1) := by decide +kernel
theorem dX7_firstFault_2 : decode cX7_firstFault 2 = .ok (.iconst 0, 1) := by decide +kernel
theorem dX7_firstFault_3 : decode cX7_firstFault 3 = .ok (.istore_n 2, 1) := by decide +kernel
theorem dX7_firstFault_4 : decode cX7_firstFault 4 = .ok (.iload_n 2, 1) := by decide +kernel
theorem dX7_firstFault_5 : decode cX7_firstFault 5 = .ok (.aload_n 0, 1) := by decide +kernel
theorem dX7_firstFault_6 : decode cX7_firstFault 6 = .ok (.getfield 31, 3) := by decide +kernel
theorem dX7_firstFault_9 : decode cX7_firstFault 9 = .ok (.if_icmp .ge 129, 3) := by decide +kernel
theorem dX7_firstFault_12 : decode cX7_firstFault 12 = .ok (.iload_n 2, 1) := by decide +kernel
theorem dX7_firstFault_13 : decode cX7_firstFault 13 = .ok (.aload_n 0, 1) := by decide +kernel
theorem dX7_firstFault_14 : decode cX7_firstFault 14 = .ok (.getfield 9, 3) := by decide +kernel
theorem dX7_firstFault_17 : decode cX7_firstFault 17 = .ok (.arraylength, 1) := by decide +kernel
theorem dX7_firstFault_18 : decode cX7_firstFault 18 = .ok (.if_icmp .ge 120, 3) := by decide +kernel
theorem dX7_firstFault_21 : decode cX7_firstFault 21 = .ok (.aload_n 0, 1) := by decide +kernel
theorem dX7_firstFault_22 : decode cX7_firstFault 22 = .ok (.getfield 9, 3) := by decide +kernel
theorem dX7_firstFault_25 : decode cX7_firstFault 25 = .ok (.iload_n 2, 1) := by decide +kernel
theorem dX7_firstFault_26 : decode cX7_firstFault 26 = .ok (.caload, 1) := by decide +kernel
theorem dX7_firstFault_27 : decode cX7_firstFault 27 = .ok (.istore_n 3, 1) := by decide +kernel
theorem dX7_firstFault_28 : decode cX7_firstFault 28 = .ok (.iload_n 3, 1) := by decide +kernel
theorem dX7_firstFault_29 : decode cX7_firstFault 29 = .ok (.invokestatic 46, 3) := by decide +kernel
theorem dX7_firstFault_32 : decode cX7_firstFault 32 = .ok (.istore 4, 2) := by decide +kernel
theorem dX7_firstFault_34 : decode cX7_firstFault 34 = .ok (.iload_n 1, 1) := by decide +kernel
theorem dX7_firstFault_35 : decode cX7_firstFault 35 = .ok (.ifCond .eq 15, 3) := by decide +kernel
theorem dX7_firstFault_38 : decode cX7_firstFault 38 = .ok (.iload_n 3, 1) := by decide +kernel
theorem dX7_firstFault_39 : decode cX7_firstFault 39 = .ok (.invokestatic 50, 3) := by decide +kernel
theorem dX7_firstFault_42 : decode cX7_firstFault 42 = .ok (.iconst (-1), 1) := by decide +kernel
theorem dX7_firstFault_43 : decode cX7_firstFault 43 = .ok (.if_icmp .eq 7, 3) := by decide +kernel
theorem dX7_firstFault_46 : decode cX7_firstFault 46 = .ok (.iconst 1, 1) := by decide +kernel
theorem dX7_firstFault_47 : decode cX7_firstFault 47 = .ok (.goto 4, 3) := by decide +kernel
theorem dX7_firstFault_50 : decode cX7_firstFault 50 = .ok (.iconst 0, 1) := by decide +kernel
theorem dX7_firstFault_51 : decode cX7_firstFault 51 = .ok (.istore 5, 2) := by decide +kernel
theorem dX7_firstFault_53 : decode cX7_firstFault 53 = .ok (.iload 4, 2) := by decide +kernel
theorem dX7_firstFault_55 : decode cX7_firstFault 55 = .ok (.ifCond .ne 21, 3) := by decide +kernel
theorem dX7_firstFault_58 : decode cX7_firstFault 58 = .ok (.iload 5, 2) := by decide +kernel
theorem dX7_firstFault_60 : decode cX7_firstFault 60 = .ok (.ifCond .ne 16, 3) := by decide +kernel
theorem dX7_firstFault_63 : decode cX7_firstFault 63 = .ok (.iload_n 1, 1) := by decide +kernel
theorem dX7_firstFault_64 : decode cX7_firstFault 64 = .ok (.ifCond .eq 10, 3) := by decide +kernel
theorem dX7_firstFault_67 : decode cX7_firstFault 67 = .ok (.iload_n 3, 1) := by decide +kernel
theorem dX7_firstFault_68 : decode cX7_firstFault 68 = .ok (.invokestatic 54, 3) := by decide +kernel
theorem dX7_firstFault_71 : decode cX7_firstFault 71 = .ok (.ifCond .ne 5, 3) := by decide +kernel
theorem dX7_firstFault_74 : decode cX7_firstFault 74 = .ok (.iload_n 2, 1) := by decide +kernel
theorem dX7_firstFault_75 : decode cX7_firstFault 75 = .ok (.ireturn, 1) := by decide +kernel
theorem dX7_firstFault_76 : decode cX7_firstFault 76 = .ok (.iconst 1, 1) := by decide +kernel
theorem dX7_firstFault_77 : decode cX7_firstFault 77 = .ok (.istore_n 1, 1) := by decide +kernel
theorem dX7_firstFault_78 : decode cX7_firstFault 78 = .ok (.iload 5, 2) := by decide +kernel
theorem dX7_firstFault_80 : decode cX7_firstFault 80 = .ok (.ifCond .eq 52, 3) := by decide +kernel
theorem dX7_firstFault_83 : decode cX7_firstFault 83 = .ok (.iinc 2 1, 3) := by decide +kernel
theorem dX7_firstFault_86 : decode cX7_firstFault 86 = .ok (.iload_n 2, 1) := by decide +kernel
theorem dX7_firstFault_87 : decode cX7_firstFault 87 = .ok (.aload_n 0, 1) := by decide +kernel
theorem dX7_firstFault_88 : decode cX7_firstFault 88 = .ok (.getfield 31, 3) := by decide +kernel
theorem dX7_firstFault_91 : decode cX7_firstFault 91 = .ok (.if_icmp .ge 39, 3) := by decide +kernel
theorem dX7_firstFault_94 : decode cX7_firstFault 94 = .ok (.iload_n 2, 1) := by decide +kernel
theorem dX7_firstFault_95 : decode cX7_firstFault 95 = .ok (.aload_n 0, 1) := by decide +kernel
theorem dX7_firstFault_96 : decode cX7_firstFault 96 = .ok (.getfield 9, 3) := by decide +kernel
theorem dX7_firstFault_99 : decode cX7_firstFault 99 = .ok (.arraylength, 1) := by decide +kernel
theorem dX7_firstFault_100 : decode cX7_firstFault 100 = .ok (.if_icmp .ge 30, 3) := by decide +kernel
theorem dX7_firstFault_103 : decode cX7_firstFault 103 = .ok (.aload_n 0, 1) := by decide +kernel
theorem dX7_firstFault_104 : decode cX7_firstFault 104 = .ok (.getfield 9, 3) := by decide +kernel
theorem dX7_firstFault_107 : decode cX7_firstFault 107 = .ok (.iload_n 2, 1) := by decide +kernel
theorem dX7_firstFault_108 : decode cX7_firstFault 108 = .ok (.caload, 1) := by decide +kernel
theorem dX7_firstFault_109 : decode cX7_firstFault 109 = .ok (.bipush 48, 2) := by decide +kernel
theorem dX7_firstFault_111 : decode cX7_firstFault 111 = .ok (.if_icmp .lt 19, 3) := by decide +kernel
theorem dX7_firstFault_114 : decode cX7_firstFault 114 = .ok (.aload_n 0, 1) := by decide +kernel
theorem dX7_firstFault_115 : decode cX7_firstFault 115 = .ok (.getfield 9, 3) := by decide +kernel
theorem dX7_firstFault_118 : decode cX7_firstFault 118 = .ok (.iload_n 2, 1) := by decide +kernel
theorem dX7_firstFault_119 : decode cX7_firstFault 119 = .ok (.caload, 1) := by decide +kernel
theorem dX7_firstFault_120 : decode cX7_firstFault 120 = .ok (.bipush 48, 2) := by decide +kernel
theorem dX7_firstFault_122 : decode cX7_firstFault 122 = .ok (.iload_n 3, 1) := by decide +kernel
theorem dX7_firstFault_123 : decode cX7_firstFault 123 = .ok (.invokestatic 50, 3) := by decide +kernel
theorem dX7_firstFault_126 : decode cX7_firstFault 126 = .ok (.iadd, 1) := by decide +kernel
theorem dX7_firstFault_127 : decode cX7_firstFault 127 = .ok (.if_icmp .le 5, 3) := by decide +kernel
theorem dX7_firstFault_130 : decode cX7_firstFault 130 = .ok (.iload_n 2, 1) := by decide +kernel
theorem dX7_firstFault_131 : decode cX7_firstFault 131 = .ok (.ireturn, 1) := by decide +kernel
theorem dX7_firstFault_132 : decode cX7_firstFault 132 = .ok (.iinc 2 1, 3) := by decide +kernel
theorem dX7_firstFault_135 : decode cX7_firstFault 135 = .ok (.goto (-131), 3) := by decide +kernel
theorem dX7_firstFault_138 : decode cX7_firstFault 138 = .ok (.aload_n 0, 1) := by decide +kernel
theorem dX7_firstFault_139 : decode cX7_firstFault 139 = .ok (.getfield 31, 3) := by decide +kernel
theorem dX7_firstFault_142 : decode cX7_firstFault 142 = .ok (.ifCond .ne 7, 3) := by decide +kernel
theorem dX7_firstFault_145 : decode cX7_firstFault 145 = .ok (.iconst 0, 1) := by decide +kernel
theorem dX7_firstFault_146 : decode cX7_firstFault 146 = .ok (.goto 4, 3) := by decide +kernel
theorem dX7_firstFault_149 : decode cX7_firstFault 149 = .ok (.iconst (-1), 1) := by decide +kernel
theorem dX7_firstFault_150 : decode cX7_firstFault 150 = .ok (.ireturn, 1) := by decide +kernel
theorem dX7_isDeckLetter_0 : decode cX7_isDeckLetter 0 = .ok (.iload_n 0, 1) := by decide +kernel
theorem dX7_isDeckLetter_1 : decode cX7_isDeckLetter 1 = .ok (.bipush 65, 2) := by decide +kernel
theorem dX7_isDeckLetter_3 : decode cX7_isDeckLetter 3 = .ok (.if_icmp .lt 13, 3) := by decide +kernel
theorem dX7_isDeckLetter_6 : decode cX7_isDeckLetter 6 = .ok (.iload_n 0, 1) := by decide +kernel
theorem dX7_isDeckLetter_7 : decode cX7_isDeckLetter 7 = .ok (.bipush 68, 2) := by decide +kernel
theorem dX7_isDeckLetter_9 : decode cX7_isDeckLetter 9 = .ok (.if_icmp .gt 7, 3) := by decide +kernel
theorem dX7_isDeckLetter_12 : decode cX7_isDeckLetter 12 = .ok (.iconst 1, 1) := by decide +kernel
theorem dX7_isDeckLetter_13 : decode cX7_isDeckLetter 13 = .ok (.goto 4, 3) := by decide +kernel
theorem dX7_isDeckLetter_16 : decode cX7_isDeckLetter 16 = .ok (.iconst 0, 1) := by decide +kernel
theorem dX7_isDeckLetter_17 : decode cX7_isDeckLetter 17 = .ok (.ireturn, 1) := by decide +kernel
theorem dX7_isLoneMove_0 : decode cX7_isLoneMove 0 = .ok (.iload_n 0, 1) := by decide +kernel
theorem dX7_isLoneMove_1 : decode cX7_isLoneMove 1 = .ok (.bipush 112, 2) := by decide +kernel
theorem dX7_isLoneMove_3 : decode cX7_isLoneMove 3 = .ok (.if_icmp .eq 27, 3) := by decide +kernel
theorem dX7_isLoneMove_6 : decode cX7_isLoneMove 6 = .ok (.iload_n 0, 1) := by decide +kernel
theorem dX7_isLoneMove_7 : decode cX7_isLoneMove 7 = .ok (.bipush 115, 2) := by decide +kernel
theorem dX7_isLoneMove_9 : decode cX7_isLoneMove 9 = .ok (.if_icmp .eq 21, 3) := by decide +kernel
theorem dX7_isLoneMove_12 : decode cX7_isLoneMove 12 = .ok (.iload_n 0, 1) := by decide +kernel
theorem dX7_isLoneMove_13 : decode cX7_isLoneMove 13 = .ok (.bipush 98, 2) := by decide +kernel
theorem dX7_isLoneMove_15 : decode cX7_isLoneMove 15 = .ok (.if_icmp .eq 15, 3) := by decide +kernel
theorem dX7_isLoneMove_18 : decode cX7_isLoneMove 18 = .ok (.iload_n 0, 1) := by decide +kernel
theorem dX7_isLoneMove_19 : decode cX7_isLoneMove 19 = .ok (.bipush 120, 2) := by decide +kernel
theorem dX7_isLoneMove_21 : decode cX7_isLoneMove 21 = .ok (.if_icmp .eq 9, 3) := by decide +kernel
theorem dX7_isLoneMove_24 : decode cX7_isLoneMove 24 = .ok (.iload_n 0, 1) := by decide +kernel
theorem dX7_isLoneMove_25 : decode cX7_isLoneMove 25 = .ok (.bipush 107, 2) := by decide +kernel
theorem dX7_isLoneMove_27 : decode cX7_isLoneMove 27 = .ok (.if_icmp .ne 7, 3) := by decide +kernel
theorem dX7_isLoneMove_30 : decode cX7_isLoneMove 30 = .ok (.iconst 1, 1) := by decide +kernel
theorem dX7_isLoneMove_31 : decode cX7_isLoneMove 31 = .ok (.goto 4, 3) := by decide +kernel
theorem dX7_isLoneMove_34 : decode cX7_isLoneMove 34 = .ok (.iconst 0, 1) := by decide +kernel
theorem dX7_isLoneMove_35 : decode cX7_isLoneMove 35 = .ok (.ireturn, 1) := by decide +kernel
theorem dX7_mostAfter_0 : decode cX7_mostAfter 0 = .ok (.iload_n 0, 1) := by decide +kernel
theorem dX7_mostAfter_1 : decode cX7_mostAfter 1 = .ok (.lookupswitch 67 #[(43, 64), (45, 64), (99, 59), (102, 64), (108, 61), (109, 59)], 59) := by decide +kernel
theorem dX7_mostAfter_60 : decode cX7_mostAfter 60 = .ok (.iconst 3, 1) := by decide +kernel
theorem dX7_mostAfter_61 : decode cX7_mostAfter 61 = .ok (.ireturn, 1) := by decide +kernel
theorem dX7_mostAfter_62 : decode cX7_mostAfter 62 = .ok (.bipush 6, 2) := by decide +kernel
theorem dX7_mostAfter_64 : decode cX7_mostAfter 64 = .ok (.ireturn, 1) := by decide +kernel
theorem dX7_mostAfter_65 : decode cX7_mostAfter 65 = .ok (.bipush 9, 2) := by decide +kernel
theorem dX7_mostAfter_67 : decode cX7_mostAfter 67 = .ok (.ireturn, 1) := by decide +kernel
theorem dX7_mostAfter_68 : decode cX7_mostAfter 68 = .ok (.iconst (-1), 1) := by decide +kernel
theorem dX7_mostAfter_69 : decode cX7_mostAfter 69 = .ok (.ireturn, 1) := by decide +kernel
theorem dX7_canBeDone_0 : decode cX7_canBeDone 0 = .ok (.iconst 0, 1) := by decide +kernel
theorem dX7_canBeDone_1 : decode cX7_canBeDone 1 = .ok (.istore_n 2, 1) := by decide +kernel
theorem dX7_canBeDone_2 : decode cX7_canBeDone 2 = .ok (.iload_n 2, 1) := by decide +kernel
theorem dX7_canBeDone_3 : decode cX7_canBeDone 3 = .ok (.aload_n 0, 1) := by decide +kernel
theorem dX7_canBeDone_4 : decode cX7_canBeDone 4 = .ok (.getfield 26, 3) := by decide +kernel
theorem dX7_canBeDone_7 : decode cX7_canBeDone 7 = .ok (.arraylength, 1) := by decide +kernel
theorem dX7_canBeDone_8 : decode cX7_canBeDone 8 = .ok (.if_icmp .ge 27, 3) := by decide +kernel
theorem dX7_canBeDone_11 : decode cX7_canBeDone 11 = .ok (.iload_n 2, 1) := by decide +kernel
theorem dX7_canBeDone_12 : decode cX7_canBeDone 12 = .ok (.aload_n 1, 1) := by decide +kernel
theorem dX7_canBeDone_13 : decode cX7_canBeDone 13 = .ok (.arraylength, 1) := by decide +kernel
theorem dX7_canBeDone_14 : decode cX7_canBeDone 14 = .ok (.if_icmp .ge 21, 3) := by decide +kernel
theorem dX7_canBeDone_17 : decode cX7_canBeDone 17 = .ok (.aload_n 0, 1) := by decide +kernel
theorem dX7_canBeDone_18 : decode cX7_canBeDone 18 = .ok (.getfield 26, 3) := by decide +kernel
theorem dX7_canBeDone_21 : decode cX7_canBeDone 21 = .ok (.iload_n 2, 1) := by decide +kernel
theorem dX7_canBeDone_22 : decode cX7_canBeDone 22 = .ok (.aaload, 1) := by decide +kernel
theorem dX7_canBeDone_23 : decode cX7_canBeDone 23 = .ok (.aload_n 1, 1) := by decide +kernel
theorem dX7_canBeDone_24 : decode cX7_canBeDone 24 = .ok (.iload_n 2, 1) := by decide +kernel
theorem dX7_canBeDone_25 : decode cX7_canBeDone 25 = .ok (.aaload, 1) := by decide +kernel
theorem dX7_canBeDone_26 : decode cX7_canBeDone 26 = .ok (.invokevirtual 57, 3) := by decide +kernel
theorem dX7_canBeDone_29 : decode cX7_canBeDone 29 = .ok (.iinc 2 1, 3) := by decide +kernel
theorem dX7_canBeDone_32 : decode cX7_canBeDone 32 = .ok (.goto (-30), 3) := by decide +kernel
theorem dX7_canBeDone_35 : decode cX7_canBeDone 35 = .ok (.aload_n 0, 1) := by decide +kernel
theorem dX7_canBeDone_36 : decode cX7_canBeDone 36 = .ok (.aload_n 0, 1) := by decide +kernel
theorem dX7_canBeDone_37 : decode cX7_canBeDone 37 = .ok (.getfield 26, 3) := by decide +kernel
theorem dX7_canBeDone_40 : decode cX7_canBeDone 40 = .ok (.aload_n 0, 1) := by decide +kernel
theorem dX7_canBeDone_41 : decode cX7_canBeDone 41 = .ok (.getfield 9, 3) := by decide +kernel
theorem dX7_canBeDone_44 : decode cX7_canBeDone 44 = .ok (.iconst 0, 1) := by decide +kernel
theorem dX7_canBeDone_45 : decode cX7_canBeDone 45 = .ok (.aload_n 0, 1) := by decide +kernel
theorem dX7_canBeDone_46 : decode cX7_canBeDone 46 = .ok (.getfield 31, 3) := by decide +kernel
theorem dX7_canBeDone_49 : decode cX7_canBeDone 49 = .ok (.invokevirtual 61, 3) := by decide +kernel
theorem dX7_canBeDone_52 : decode cX7_canBeDone 52 = .ok (.iconst (-1), 1) := by decide +kernel
theorem dX7_canBeDone_53 : decode cX7_canBeDone 53 = .ok (.if_icmp .eq 7, 3) := by decide +kernel
theorem dX7_canBeDone_56 : decode cX7_canBeDone 56 = .ok (.iconst 1, 1) := by decide +kernel
theorem dX7_canBeDone_57 : decode cX7_canBeDone 57 = .ok (.goto 4, 3) := by decide +kernel
theorem dX7_canBeDone_60 : decode cX7_canBeDone 60 = .ok (.iconst 0, 1) := by decide +kernel
theorem dX7_canBeDone_61 : decode cX7_canBeDone 61 = .ok (.ireturn, 1) := by decide +kernel
theorem dX7_doAll_0 : decode cX7_doAll 0 = .ok (.iconst 0, 1) := by decide +kernel
theorem dX7_doAll_1 : decode cX7_doAll 1 = .ok (.istore 5, 2) := by decide +kernel
theorem dX7_doAll_3 : decode cX7_doAll 3 = .ok (.iconst (-1), 1) := by decide +kernel
theorem dX7_doAll_4 : decode cX7_doAll 4 = .ok (.istore 6, 2) := by decide +kernel
theorem dX7_doAll_6 : decode cX7_doAll 6 = .ok (.iload_n 3, 1) := by decide +kernel
theorem dX7_doAll_7 : decode cX7_doAll 7 = .ok (.istore 7, 2) := by decide +kernel
theorem dX7_doAll_9 : decode cX7_doAll 9 = .ok (.iload 7, 2) := by decide +kernel
theorem dX7_doAll_11 : decode cX7_doAll 11 = .ok (.ifCond .lt 142, 3) := by decide +kernel
theorem dX7_doAll_14 : decode cX7_doAll 14 = .ok (.iload 7, 2) := by decide +kernel
theorem dX7_doAll_16 : decode cX7_doAll 16 = .ok (.iload 4, 2) := by decide +kernel
theorem dX7_doAll_18 : decode cX7_doAll 18 = .ok (.if_icmp .ge 135, 3) := by decide +kernel
theorem dX7_doAll_21 : decode cX7_doAll 21 = .ok (.iload 7, 2) := by decide +kernel
theorem dX7_doAll_23 : decode cX7_doAll 23 = .ok (.aload_n 2, 1) := by decide +kernel
theorem dX7_doAll_24 : decode cX7_doAll 24 = .ok (.arraylength, 1) := by decide +kernel
theorem dX7_doAll_25 : decode cX7_doAll 25 = .ok (.if_icmp .ge 128, 3) := by decide +kernel
theorem dX7_doAll_28 : decode cX7_doAll 28 = .ok (.aload_n 2, 1) := by decide +kernel
theorem dX7_doAll_29 : decode cX7_doAll 29 = .ok (.iload 7, 2) := by decide +kernel
theorem dX7_doAll_31 : decode cX7_doAll 31 = .ok (.caload, 1) := by decide +kernel
theorem dX7_doAll_32 : decode cX7_doAll 32 = .ok (.istore 8, 2) := by decide +kernel
theorem dX7_doAll_34 : decode cX7_doAll 34 = .ok (.iload 8, 2) := by decide +kernel
theorem dX7_doAll_36 : decode cX7_doAll 36 = .ok (.invokestatic 46, 3) := by decide +kernel
theorem dX7_doAll_39 : decode cX7_doAll 39 = .ok (.ifCond .eq 13, 3) := by decide +kernel
theorem dX7_doAll_42 : decode cX7_doAll 42 = .ok (.iload 8, 2) := by decide +kernel
theorem dX7_doAll_44 : decode cX7_doAll 44 = .ok (.bipush 65, 2) := by decide +kernel
theorem dX7_doAll_46 : decode cX7_doAll 46 = .ok (.isub, 1) := by decide +kernel
theorem dX7_doAll_47 : decode cX7_doAll 47 = .ok (.istore 6, 2) := by decide +kernel
theorem dX7_doAll_49 : decode cX7_doAll 49 = .ok (.goto 98, 3) := by decide +kernel
theorem dX7_doAll_52 : decode cX7_doAll 52 = .ok (.iload 6, 2) := by decide +kernel
theorem dX7_doAll_54 : decode cX7_doAll 54 = .ok (.ifCond .lt 93, 3) := by decide +kernel
theorem dX7_doAll_57 : decode cX7_doAll 57 = .ok (.iload 6, 2) := by decide +kernel
theorem dX7_doAll_59 : decode cX7_doAll 59 = .ok (.aload_n 1, 1) := by decide +kernel
theorem dX7_doAll_60 : decode cX7_doAll 60 = .ok (.arraylength, 1) := by decide +kernel
theorem dX7_doAll_61 : decode cX7_doAll 61 = .ok (.if_icmp .ge 86, 3) := by decide +kernel
theorem dX7_doAll_64 : decode cX7_doAll 64 = .ok (.iload 7, 2) := by decide +kernel
theorem dX7_doAll_66 : decode cX7_doAll 66 = .ok (.istore 9, 2) := by decide +kernel
theorem dX7_doAll_68 : decode cX7_doAll 68 = .ok (.iconst 0, 1) := by decide +kernel
theorem dX7_doAll_69 : decode cX7_doAll 69 = .ok (.istore 10, 2) := by decide +kernel
theorem dX7_doAll_71 : decode cX7_doAll 71 = .ok (.iload 8, 2) := by decide +kernel
theorem dX7_doAll_73 : decode cX7_doAll 73 = .ok (.invokestatic 50, 3) := by decide +kernel
theorem dX7_doAll_76 : decode cX7_doAll 76 = .ok (.iconst (-1), 1) := by decide +kernel
theorem dX7_doAll_77 : decode cX7_doAll 77 = .ok (.if_icmp .eq 24, 3) := by decide +kernel
theorem dX7_doAll_80 : decode cX7_doAll 80 = .ok (.iload 7, 2) := by decide +kernel
theorem dX7_doAll_82 : decode cX7_doAll 82 = .ok (.iconst 1, 1) := by decide +kernel
theorem dX7_doAll_83 : decode cX7_doAll 83 = .ok (.iadd, 1) := by decide +kernel
theorem dX7_doAll_84 : decode cX7_doAll 84 = .ok (.aload_n 2, 1) := by decide +kernel
theorem dX7_doAll_85 : decode cX7_doAll 85 = .ok (.arraylength, 1) := by decide +kernel
theorem dX7_doAll_86 : decode cX7_doAll 86 = .ok (.if_icmp .ge 15, 3) := by decide +kernel
theorem dX7_doAll_89 : decode cX7_doAll 89 = .ok (.iinc 7 1, 3) := by decide +kernel
theorem dX7_doAll_92 : decode cX7_doAll 92 = .ok (.aload_n 2, 1) := by decide +kernel
theorem dX7_doAll_93 : decode cX7_doAll 93 = .ok (.iload 7, 2) := by decide +kernel
theorem dX7_doAll_95 : decode cX7_doAll 95 = .ok (.caload, 1) := by decide +kernel
theorem dX7_doAll_96 : decode cX7_doAll 96 = .ok (.bipush 48, 2) := by decide +kernel
theorem dX7_doAll_98 : decode cX7_doAll 98 = .ok (.isub, 1) := by decide +kernel
theorem dX7_doAll_99 : decode cX7_doAll 99 = .ok (.istore 10, 2) := by decide +kernel
theorem dX7_doAll_101 : decode cX7_doAll 101 = .ok (.aload_n 1, 1) := by decide +kernel
theorem dX7_doAll_102 : decode cX7_doAll 102 = .ok (.iload 6, 2) := by decide +kernel
theorem dX7_doAll_104 : decode cX7_doAll 104 = .ok (.aaload, 1) := by decide +kernel
theorem dX7_doAll_105 : decode cX7_doAll 105 = .ok (.iload 8, 2) := by decide +kernel
theorem dX7_doAll_107 : decode cX7_doAll 107 = .ok (.iload 10, 2) := by decide +kernel
theorem dX7_doAll_109 : decode cX7_doAll 109 = .ok (.invokestatic 65, 3) := by decide +kernel
theorem dX7_doAll_112 : decode cX7_doAll 112 = .ok (.istore 11, 2) := by decide +kernel
theorem dX7_doAll_114 : decode cX7_doAll 114 = .ok (.iload 11, 2) := by decide +kernel
theorem dX7_doAll_116 : decode cX7_doAll 116 = .ok (.bipush 32, 2) := by decide +kernel
theorem dX7_doAll_118 : decode cX7_doAll 118 = .ok (.if_icmp .eq 26, 3) := by decide +kernel
theorem dX7_doAll_121 : decode cX7_doAll 121 = .ok (.aload_n 0, 1) := by decide +kernel
theorem dX7_doAll_122 : decode cX7_doAll 122 = .ok (.iconst 0, 1) := by decide +kernel
theorem dX7_doAll_123 : decode cX7_doAll 123 = .ok (.putfield 35, 3) := by decide +kernel
theorem dX7_doAll_126 : decode cX7_doAll 126 = .ok (.aload_n 0, 1) := by decide +kernel
theorem dX7_doAll_127 : decode cX7_doAll 127 = .ok (.bipush 109, 2) := by decide +kernel
theorem dX7_doAll_129 : decode cX7_doAll 129 = .ok (.iload 9, 2) := by decide +kernel
theorem dX7_doAll_131 : decode cX7_doAll 131 = .ok (.invokevirtual 42, 3) := by decide +kernel
theorem dX7_doAll_134 : decode cX7_doAll 134 = .ok (.aload_n 0, 1) := by decide +kernel
theorem dX7_doAll_135 : decode cX7_doAll 135 = .ok (.iload 11, 2) := by decide +kernel
theorem dX7_doAll_137 : decode cX7_doAll 137 = .ok (.iload 6, 2) := by decide +kernel
theorem dX7_doAll_139 : decode cX7_doAll 139 = .ok (.invokevirtual 42, 3) := by decide +kernel
theorem dX7_doAll_142 : decode cX7_doAll 142 = .ok (.iconst (-1), 1) := by decide +kernel
theorem dX7_doAll_143 : decode cX7_doAll 143 = .ok (.ireturn, 1) := by decide +kernel
theorem dX7_doAll_144 : decode cX7_doAll 144 = .ok (.iinc 5 1, 3) := by decide +kernel
theorem dX7_doAll_147 : decode cX7_doAll 147 = .ok (.iinc 7 1, 3) := by decide +kernel
theorem dX7_doAll_150 : decode cX7_doAll 150 = .ok (.goto (-141), 3) := by decide +kernel
theorem dX7_doAll_153 : decode cX7_doAll 153 = .ok (.iload 5, 2) := by decide +kernel
theorem dX7_doAll_155 : decode cX7_doAll 155 = .ok (.ireturn, 1) := by decide +kernel
theorem dX7_doOne_0 : decode cX7_doOne 0 = .ok (.iload_n 1, 1) := by decide +kernel
theorem dX7_doOne_1 : decode cX7_doOne 1 = .ok (.bipush 115, 2) := by decide +kernel
theorem dX7_doOne_3 : decode cX7_doOne 3 = .ok (.if_icmp .ne 11, 3) := by decide +kernel
theorem dX7_doOne_6 : decode cX7_doOne 6 = .ok (.aload_n 0, 1) := by decide +kernel
theorem dX7_doOne_7 : decode cX7_doOne 7 = .ok (.invokevirtual 69, 3) := by decide +kernel
theorem dX7_doOne_10 : decode cX7_doOne 10 = .ok (.pop, 1) := by decide +kernel
theorem dX7_doOne_11 : decode cX7_doOne 11 = .ok (.bipush 32, 2) := by decide +kernel
theorem dX7_doOne_13 : decode cX7_doOne 13 = .ok (.ireturn, 1) := by decide +kernel
theorem dX7_doOne_14 : decode cX7_doOne 14 = .ok (.iload_n 1, 1) := by decide +kernel
theorem dX7_doOne_15 : decode cX7_doOne 15 = .ok (.bipush 102, 2) := by decide +kernel
theorem dX7_doOne_17 : decode cX7_doOne 17 = .ok (.if_icmp .ne 23, 3) := by decide +kernel
theorem dX7_doOne_20 : decode cX7_doOne 20 = .ok (.aload_n 0, 1) := by decide +kernel
theorem dX7_doOne_21 : decode cX7_doOne 21 = .ok (.getfield 73, 3) := by decide +kernel
theorem dX7_doOne_24 : decode cX7_doOne 24 = .ok (.bipush 100, 2) := by decide +kernel
theorem dX7_doOne_26 : decode cX7_doOne 26 = .ok (.bipush 11, 2) := by decide +kernel
theorem dX7_doOne_28 : decode cX7_doOne 28 = .ok (.iload_n 2, 1) := by decide +kernel
theorem dX7_doOne_29 : decode cX7_doOne 29 = .ok (.imul, 1) := by decide +kernel
theorem dX7_doOne_30 : decode cX7_doOne 30 = .ok (.invokestatic 77, 3) := by decide +kernel
theorem dX7_doOne_33 : decode cX7_doOne 33 = .ok (.invokevirtual 83, 3) := by decide +kernel
theorem dX7_doOne_36 : decode cX7_doOne 36 = .ok (.pop, 1) := by decide +kernel
theorem dX7_doOne_37 : decode cX7_doOne 37 = .ok (.bipush 32, 2) := by decide +kernel
theorem dX7_doOne_39 : decode cX7_doOne 39 = .ok (.ireturn, 1) := by decide +kernel
theorem dX7_doOne_40 : decode cX7_doOne 40 = .ok (.iload_n 1, 1) := by decide +kernel
theorem dX7_doOne_41 : decode cX7_doOne 41 = .ok (.bipush 120, 2) := by decide +kernel
theorem dX7_doOne_43 : decode cX7_doOne 43 = .ok (.if_icmp .ne 18, 3) := by decide +kernel
theorem dX7_doOne_46 : decode cX7_doOne 46 = .ok (.aload_n 0, 1) := by decide +kernel
theorem dX7_doOne_47 : decode cX7_doOne 47 = .ok (.invokevirtual 89, 3) := by decide +kernel
theorem dX7_doOne_50 : decode cX7_doOne 50 = .ok (.ifCond .eq 8, 3) := by decide +kernel
theorem dX7_doOne_53 : decode cX7_doOne 53 = .ok (.bipush 32, 2) := by decide +kernel
theorem dX7_doOne_55 : decode cX7_doOne 55 = .ok (.goto 5, 3) := by decide +kernel
theorem dX7_doOne_58 : decode cX7_doOne 58 = .ok (.bipush 105, 2) := by decide +kernel
theorem dX7_doOne_60 : decode cX7_doOne 60 = .ok (.ireturn, 1) := by decide +kernel
theorem dX7_doOne_61 : decode cX7_doOne 61 = .ok (.aload_n 0, 1) := by decide +kernel
theorem dX7_doOne_62 : decode cX7_doOne 62 = .ok (.getfield 92, 3) := by decide +kernel
theorem dX7_doOne_65 : decode cX7_doOne 65 = .ok (.ifnonnull 8, 3) := by decide +kernel
theorem dX7_doOne_68 : decode cX7_doOne 68 = .ok (.bipush 101, 2) := by decide +kernel
theorem dX7_doOne_70 : decode cX7_doOne 70 = .ok (.goto 9, 3) := by decide +kernel
theorem dX7_doOne_73 : decode cX7_doOne 73 = .ok (.aload_n 0, 1) := by decide +kernel
theorem dX7_doOne_74 : decode cX7_doOne 74 = .ok (.iload_n 1, 1) := by decide +kernel
theorem dX7_doOne_75 : decode cX7_doOne 75 = .ok (.iload_n 2, 1) := by decide +kernel
theorem dX7_doOne_76 : decode cX7_doOne 76 = .ok (.invokestatic 96, 3) := by decide +kernel
theorem dX7_doOne_79 : decode cX7_doOne 79 = .ok (.ireturn, 1) := by decide +kernel
theorem dX7_doOnDisc_0 : decode cX7_doOnDisc 0 = .ok (.iload_n 1, 1) := by decide +kernel
theorem dX7_doOnDisc_1 : decode cX7_doOnDisc 1 = .ok (.lookupswitch 152 #[(43, 92), (45, 104), (98, 75), (99, 136), (107, 116), (109, 83), (112, 67)], 67) := by decide +kernel
theorem dX7_doOnDisc_68 : decode cX7_doOnDisc 68 = .ok (.aload_n 0, 1) := by decide +kernel
theorem dX7_doOnDisc_69 : decode cX7_doOnDisc 69 = .ok (.invokevirtual 99, 3) := by decide +kernel
theorem dX7_doOnDisc_72 : decode cX7_doOnDisc 72 = .ok (.pop, 1) := by decide +kernel
theorem dX7_doOnDisc_73 : decode cX7_doOnDisc 73 = .ok (.bipush 32, 2) := by decide +kernel
theorem dX7_doOnDisc_75 : decode cX7_doOnDisc 75 = .ok (.ireturn, 1) := by decide +kernel
theorem dX7_doOnDisc_76 : decode cX7_doOnDisc 76 = .ok (.aload_n 0, 1) := by decide +kernel
theorem dX7_doOnDisc_77 : decode cX7_doOnDisc 77 = .ok (.invokevirtual 102, 3) := by decide +kernel
theorem dX7_doOnDisc_80 : decode cX7_doOnDisc 80 = .ok (.pop, 1) := by decide +kernel
theorem dX7_doOnDisc_81 : decode cX7_doOnDisc 81 = .ok (.bipush 32, 2) := by decide +kernel
theorem dX7_doOnDisc_83 : decode cX7_doOnDisc 83 = .ok (.ireturn, 1) := by decide +kernel
theorem dX7_doOnDisc_84 : decode cX7_doOnDisc 84 = .ok (.aload_n 0, 1) := by decide +kernel
theorem dX7_doOnDisc_85 : decode cX7_doOnDisc 85 = .ok (.iload_n 2, 1) := by decide +kernel
theorem dX7_doOnDisc_86 : decode cX7_doOnDisc 86 = .ok (.invokevirtual 105, 3) := by decide +kernel
theorem dX7_doOnDisc_89 : decode cX7_doOnDisc 89 = .ok (.pop, 1) := by decide +kernel
theorem dX7_doOnDisc_90 : decode cX7_doOnDisc 90 = .ok (.bipush 32, 2) := by decide +kernel
theorem dX7_doOnDisc_92 : decode cX7_doOnDisc 92 = .ok (.ireturn, 1) := by decide +kernel
theorem dX7_doOnDisc_93 : decode cX7_doOnDisc 93 = .ok (.aload_n 0, 1) := by decide +kernel
theorem dX7_doOnDisc_94 : decode cX7_doOnDisc 94 = .ok (.bipush 10, 2) := by decide +kernel
theorem dX7_doOnDisc_96 : decode cX7_doOnDisc 96 = .ok (.iload_n 2, 1) := by decide +kernel
theorem dX7_doOnDisc_97 : decode cX7_doOnDisc 97 = .ok (.imul, 1) := by decide +kernel
theorem dX7_doOnDisc_98 : decode cX7_doOnDisc 98 = .ok (.invokevirtual 108, 3) := by decide +kernel
theorem dX7_doOnDisc_101 : decode cX7_doOnDisc 101 = .ok (.pop, 1) := by decide +kernel
theorem dX7_doOnDisc_102 : decode cX7_doOnDisc 102 = .ok (.bipush 32, 2) := by decide +kernel
theorem dX7_doOnDisc_104 : decode cX7_doOnDisc 104 = .ok (.ireturn, 1) := by decide +kernel
theorem dX7_doOnDisc_105 : decode cX7_doOnDisc 105 = .ok (.aload_n 0, 1) := by decide +kernel
theorem dX7_doOnDisc_106 : decode cX7_doOnDisc 106 = .ok (.bipush (-10), 2) := by decide +kernel
theorem dX7_doOnDisc_108 : decode cX7_doOnDisc 108 = .ok (.iload_n 2, 1) := by decide +kernel
theorem dX7_doOnDisc_109 : decode cX7_doOnDisc 109 = .ok (.imul, 1) := by decide +kernel
theorem dX7_doOnDisc_110 : decode cX7_doOnDisc 110 = .ok (.invokevirtual 108, 3) := by decide +kernel
theorem dX7_doOnDisc_113 : decode cX7_doOnDisc 113 = .ok (.pop, 1) := by decide +kernel
theorem dX7_doOnDisc_114 : decode cX7_doOnDisc 114 = .ok (.bipush 32, 2) := by decide +kernel
theorem dX7_doOnDisc_116 : decode cX7_doOnDisc 116 = .ok (.ireturn, 1) := by decide +kernel
theorem dX7_doOnDisc_117 : decode cX7_doOnDisc 117 = .ok (.aload_n 0, 1) := by decide +kernel
theorem dX7_doOnDisc_118 : decode cX7_doOnDisc 118 = .ok (.aload_n 0, 1) := by decide +kernel
theorem dX7_doOnDisc_119 : decode cX7_doOnDisc 119 = .ok (.getfield 111, 3) := by decide +kernel
theorem dX7_doOnDisc_122 : decode cX7_doOnDisc 122 = .ok (.ifCond .ne 7, 3) := by decide +kernel
theorem dX7_doOnDisc_125 : decode cX7_doOnDisc 125 = .ok (.iconst 1, 1) := by decide +kernel
theorem dX7_doOnDisc_126 : decode cX7_doOnDisc 126 = .ok (.goto 4, 3) := by decide +kernel
theorem dX7_doOnDisc_129 : decode cX7_doOnDisc 129 = .ok (.iconst 0, 1) := by decide +kernel
theorem dX7_doOnDisc_130 : decode cX7_doOnDisc 130 = .ok (.invokevirtual 115, 3) := by decide +kernel
theorem dX7_doOnDisc_133 : decode cX7_doOnDisc 133 = .ok (.pop, 1) := by decide +kernel
theorem dX7_doOnDisc_134 : decode cX7_doOnDisc 134 = .ok (.bipush 32, 2) := by decide +kernel
theorem dX7_doOnDisc_136 : decode cX7_doOnDisc 136 = .ok (.ireturn, 1) := by decide +kernel
theorem dX7_doOnDisc_137 : decode cX7_doOnDisc 137 = .ok (.aload_n 0, 1) := by decide +kernel
theorem dX7_doOnDisc_138 : decode cX7_doOnDisc 138 = .ok (.iload_n 2, 1) := by decide +kernel
theorem dX7_doOnDisc_139 : decode cX7_doOnDisc 139 = .ok (.invokevirtual 119, 3) := by decide +kernel
theorem dX7_doOnDisc_142 : decode cX7_doOnDisc 142 = .ok (.ifCond .eq 8, 3) := by decide +kernel
theorem dX7_doOnDisc_145 : decode cX7_doOnDisc 145 = .ok (.bipush 32, 2) := by decide +kernel
theorem dX7_doOnDisc_147 : decode cX7_doOnDisc 147 = .ok (.goto 5, 3) := by decide +kernel
theorem dX7_doOnDisc_150 : decode cX7_doOnDisc 150 = .ok (.bipush 99, 2) := by decide +kernel
theorem dX7_doOnDisc_152 : decode cX7_doOnDisc 152 = .ok (.ireturn, 1) := by decide +kernel
theorem dX7_doOnDisc_153 : decode cX7_doOnDisc 153 = .ok (.aload_n 0, 1) := by decide +kernel
theorem dX7_doOnDisc_154 : decode cX7_doOnDisc 154 = .ok (.iload_n 2, 1) := by decide +kernel
theorem dX7_doOnDisc_155 : decode cX7_doOnDisc 155 = .ok (.invokevirtual 123, 3) := by decide +kernel
theorem dX7_doOnDisc_158 : decode cX7_doOnDisc 158 = .ok (.ifCond .ne 6, 3) := by decide +kernel
theorem dX7_doOnDisc_161 : decode cX7_doOnDisc 161 = .ok (.bipush 108, 2) := by decide +kernel
theorem dX7_doOnDisc_163 : decode cX7_doOnDisc 163 = .ok (.ireturn, 1) := by decide +kernel
theorem dX7_doOnDisc_164 : decode cX7_doOnDisc 164 = .ok (.aload_n 0, 1) := by decide +kernel
theorem dX7_doOnDisc_165 : decode cX7_doOnDisc 165 = .ok (.iload_n 2, 1) := by decide +kernel
theorem dX7_doOnDisc_166 : decode cX7_doOnDisc 166 = .ok (.invokevirtual 126, 3) := by decide +kernel
theorem dX7_doOnDisc_169 : decode cX7_doOnDisc 169 = .ok (.pop, 1) := by decide +kernel
theorem dX7_doOnDisc_170 : decode cX7_doOnDisc 170 = .ok (.bipush 32, 2) := by decide +kernel
theorem dX7_doOnDisc_172 : decode cX7_doOnDisc 172 = .ok (.ireturn, 1) := by decide +kernel
theorem dX8_init_0 : decode cX8_init 0 = .ok (.aload_n 0, 1) := by decide +kernel
theorem dX8_init_1 : decode cX8_init 1 = .ok (.invokespecial 3, 3) := by decide +kernel
theorem dX8_init_4 : decode cX8_init 4 = .ok (.aload_n 0, 1) := by decide +kernel
theorem dX8_init_5 : decode cX8_init 5 = .ok (.bipush 12, 2) := by decide +kernel
theorem dX8_init_7 : decode cX8_init 7 = .ok (.anewarray 11, 3) := by decide +kernel
theorem dX8_init_10 : decode cX8_init 10 = .ok (.putfield 13, 3) := by decide +kernel
theorem dX8_init_13 : decode cX8_init 13 = .ok (.iconst 0, 1) := by decide +kernel
theorem dX8_init_14 : decode cX8_init 14 = .ok (.istore_n 1, 1) := by decide +kernel
theorem dX8_init_15 : decode cX8_init 15 = .ok (.iload_n 1, 1) := by decide +kernel
theorem dX8_init_16 : decode cX8_init 16 = .ok (.aload_n 0, 1) := by decide +kernel
theorem dX8_init_17 : decode cX8_init 17 = .ok (.getfield 13, 3) := by decide +kernel
theorem dX8_init_20 : decode cX8_init 20 = .ok (.arraylength, 1) := by decide +kernel
theorem dX8_init_21 : decode cX8_init 21 = .ok (.if_icmp .ge 23, 3) := by decide +kernel
theorem dX8_init_24 : decode cX8_init 24 = .ok (.aload_n 0, 1) := by decide +kernel
theorem dX8_init_25 : decode cX8_init 25 = .ok (.getfield 13, 3) := by decide +kernel
theorem dX8_init_28 : decode cX8_init 28 = .ok (.iload_n 1, 1) := by decide +kernel
theorem dX8_init_29 : decode cX8_init 29 = .ok (.new 11, 3) := by decide +kernel
theorem dX8_init_32 : decode cX8_init 32 = .ok (.dup, 1) := by decide +kernel
theorem dX8_init_33 : decode cX8_init 33 = .ok (.iload_n 1, 1) := by decide +kernel
theorem dX8_init_34 : decode cX8_init 34 = .ok (.invokespecial 17, 3) := by decide +kernel
theorem dX8_init_37 : decode cX8_init 37 = .ok (.aastore, 1) := by decide +kernel
theorem dX8_init_38 : decode cX8_init 38 = .ok (.iinc 1 1, 3) := by decide +kernel
theorem dX8_init_41 : decode cX8_init 41 = .ok (.goto (-26), 3) := by decide +kernel
theorem dX8_init_44 : decode cX8_init 44 = .ok (.aload_n 0, 1) := by decide +kernel
theorem dX8_init_45 : decode cX8_init 45 = .ok (.iconst 4, 1) := by decide +kernel
theorem dX8_init_46 : decode cX8_init 46 = .ok (.anewarray 20, 3) := by decide +kernel
theorem dX8_init_49 : decode cX8_init 49 = .ok (.putfield 22, 3) := by decide +kernel
theorem dX8_init_52 : decode cX8_init 52 = .ok (.iconst 0, 1) := by decide +kernel
theorem dX8_init_53 : decode cX8_init 53 = .ok (.istore_n 1, 1) := by decide +kernel
theorem dX8_init_54 : decode cX8_init 54 = .ok (.iload_n 1, 1) := by decide +kernel
theorem dX8_init_55 : decode cX8_init 55 = .ok (.aload_n 0, 1) := by decide +kernel
theorem dX8_init_56 : decode cX8_init 56 = .ok (.getfield 22, 3) := by decide +kernel
theorem dX8_init_59 : decode cX8_init 59 = .ok (.arraylength, 1) := by decide +kernel
theorem dX8_init_60 : decode cX8_init 60 = .ok (.if_icmp .ge 22, 3) := by decide +kernel
theorem dX8_init_63 : decode cX8_init 63 = .ok (.aload_n 0, 1) := by decide +kernel
theorem dX8_init_64 : decode cX8_init 64 = .ok (.getfield 22, 3) := by decide +kernel
theorem dX8_init_67 : decode cX8_init 67 = .ok (.iload_n 1, 1) := by decide +kernel
theorem dX8_init_68 : decode cX8_init 68 = .ok (.new 20, 3) := by decide +kernel
theorem dX8_init_71 : decode cX8_init 71 = .ok (.dup, 1) := by decide +kernel
theorem dX8_init_72 : decode cX8_init 72 = .ok (.invokespecial 26, 3) := by decide +kernel
theorem dX8_init_75 : decode cX8_init 75 = .ok (.aastore, 1) := by decide +kernel
theorem dX8_init_76 : decode cX8_init 76 = .ok (.iinc 1 1, 3) := by decide +kernel
theorem dX8_init_79 : decode cX8_init 79 = .ok (.goto (-25), 3) := by decide +kernel
theorem dX8_init_82 : decode cX8_init 82 = .ok (.aload_n 0, 1) := by decide +kernel
theorem dX8_init_83 : decode cX8_init 83 = .ok (.new 27, 3) := by decide +kernel
theorem dX8_init_86 : decode cX8_init 86 = .ok (.dup, 1) := by decide +kernel
theorem dX8_init_87 : decode cX8_init 87 = .ok (.invokespecial 29, 3) := by decide +kernel
theorem dX8_init_90 : decode cX8_init 90 = .ok (.putfield 30, 3) := by decide +kernel
theorem dX8_init_93 : decode cX8_init 93 = .ok (.aload_n 0, 1) := by decide +kernel
theorem dX8_init_94 : decode cX8_init 94 = .ok (.new 34, 3) := by decide +kernel
theorem dX8_init_97 : decode cX8_init 97 = .ok (.dup, 1) := by decide +kernel
theorem dX8_init_98 : decode cX8_init 98 = .ok (.invokespecial 36, 3) := by decide +kernel
theorem dX8_init_101 : decode cX8_init 101 = .ok (.putfield 37, 3) := by decide +kernel
theorem dX8_init_104 : decode cX8_init 104 = .ok (.return_, 1) := by decide +kernel
theorem dX8_addDisc_0 : decode cX8_addDisc 0 = .ok (.aload_n 0, 1) := by decide +kernel
theorem dX8_addDisc_1 : decode cX8_addDisc 1 = .ok (.getfield 41, 3) := by decide +kernel
theorem dX8_addDisc_4 : decode cX8_addDisc 4 = .ok (.ifCond .lt 15, 3) := by decide +kernel
theorem dX8_addDisc_7 : decode cX8_addDisc 7 = .ok (.aload_n 0, 1) := by decide +kernel
theorem dX8_addDisc_8 : decode cX8_addDisc 8 = .ok (.getfield 41, 3) := by decide +kernel
theorem dX8_addDisc_11 : decode cX8_addDisc 11 = .ok (.aload_n 0, 1) := by decide +kernel
theorem dX8_addDisc_12 : decode cX8_addDisc 12 = .ok (.getfield 13, 3) := by decide +kernel
theorem dX8_addDisc_15 : decode cX8_addDisc 15 = .ok (.arraylength, 1) := by decide +kernel
theorem dX8_addDisc_16 : decode cX8_addDisc 16 = .ok (.if_icmp .lt 5, 3) := by decide +kernel
theorem dX8_addDisc_19 : decode cX8_addDisc 19 = .ok (.iconst (-1), 1) := by decide +kernel
theorem dX8_addDisc_20 : decode cX8_addDisc 20 = .ok (.ireturn, 1) := by decide +kernel
theorem dX8_addDisc_21 : decode cX8_addDisc 21 = .ok (.aload_n 0, 1) := by decide +kernel
theorem dX8_addDisc_22 : decode cX8_addDisc 22 = .ok (.getfield 13, 3) := by decide +kernel
theorem dX8_addDisc_25 : decode cX8_addDisc 25 = .ok (.aload_n 0, 1) := by decide +kernel
theorem dX8_addDisc_26 : decode cX8_addDisc 26 = .ok (.getfield 41, 3) := by decide +kernel
theorem dX8_addDisc_29 : decode cX8_addDisc 29 = .ok (.aaload, 1) := by decide +kernel
theorem dX8_addDisc_30 : decode cX8_addDisc 30 = .ok (.iload_n 1, 1) := by decide +kernel
theorem dX8_addDisc_31 : decode cX8_addDisc 31 = .ok (.iload_n 2, 1) := by decide +kernel
theorem dX8_addDisc_32 : decode cX8_addDisc 32 = .ok (.iload_n 3, 1) := by decide +kernel
theorem dX8_addDisc_33 : decode cX8_addDisc 33 = .ok (.iload 4, 2) := by decide +kernel
theorem dX8_addDisc_35 : decode cX8_addDisc 35 = .ok (.iload 5, 2) := by decide +kernel
theorem dX8_addDisc_37 : decode cX8_addDisc 37 = .ok (.iload 6, 2) := by decide +kernel
theorem dX8_addDisc_39 : decode cX8_addDisc 39 = .ok (.iload 7, 2) := by decide +kernel
theorem dX8_addDisc_41 : decode cX8_addDisc 41 = .ok (.invokevirtual 45, 3) := by decide +kernel
theorem dX8_addDisc_44 : decode cX8_addDisc 44 = .ok (.aload_n 0, 1) := by decide +kernel
theorem dX8_addDisc_45 : decode cX8_addDisc 45 = .ok (.dup, 1) := by decide +kernel
theorem dX8_addDisc_46 : decode cX8_addDisc 46 = .ok (.getfield 41, 3) := by decide +kernel
theorem dX8_addDisc_49 : decode cX8_addDisc 49 = .ok (.iconst 1, 1) := by decide +kernel
theorem dX8_addDisc_50 : decode cX8_addDisc 50 = .ok (.iadd, 1) := by decide +kernel
theorem dX8_addDisc_51 : decode cX8_addDisc 51 = .ok (.putfield 41, 3) := by decide +kernel
theorem dX8_addDisc_54 : decode cX8_addDisc 54 = .ok (.aload_n 0, 1) := by decide +kernel
theorem dX8_addDisc_55 : decode cX8_addDisc 55 = .ok (.getfield 41, 3) := by decide +kernel
theorem dX8_addDisc_58 : decode cX8_addDisc 58 = .ok (.iconst 1, 1) := by decide +kernel
theorem dX8_addDisc_59 : decode cX8_addDisc 59 = .ok (.isub, 1) := by decide +kernel
theorem dX8_addDisc_60 : decode cX8_addDisc 60 = .ok (.ireturn, 1) := by decide +kernel
theorem dX8_discAt_0 : decode cX8_discAt 0 = .ok (.iload_n 1, 1) := by decide +kernel
theorem dX8_discAt_1 : decode cX8_discAt 1 = .ok (.ifCond .lt 29, 3) := by decide +kernel
theorem dX8_discAt_4 : decode cX8_discAt 4 = .ok (.iload_n 1, 1) := by decide +kernel
theorem dX8_discAt_5 : decode cX8_discAt 5 = .ok (.aload_n 0, 1) := by decide +kernel
theorem dX8_discAt_6 : decode cX8_discAt 6 = .ok (.getfield 41, 3) := by decide +kernel
theorem dX8_discAt_9 : decode cX8_discAt 9 = .ok (.if_icmp .ge 21, 3) := by decide +kernel
theorem dX8_discAt_12 : decode cX8_discAt 12 = .ok (.iload_n 1, 1) := by decide +kernel
theorem dX8_discAt_13 : decode cX8_discAt 13 = .ok (.aload_n 0, 1) := by decide +kernel
theorem dX8_discAt_14 : decode cX8_discAt 14 = .ok (.getfield 13, 3) := by decide +kernel
theorem dX8_discAt_17 : decode cX8_discAt 17 = .ok (.arraylength, 1) := by decide +kernel
theorem dX8_discAt_18 : decode cX8_discAt 18 = .ok (.if_icmp .ge 12, 3) := by decide +kernel
theorem dX8_discAt_21 : decode cX8_discAt 21 = .ok (.aload_n 0, 1) := by decide +kernel
theorem dX8_discAt_22 : decode cX8_discAt 22 = .ok (.getfield 13, 3) := by decide +kernel
theorem dX8_discAt_25 : decode cX8_discAt 25 = .ok (.iload_n 1, 1) := by decide +kernel
theorem dX8_discAt_26 : decode cX8_discAt 26 = .ok (.aaload, 1) := by decide +kernel
theorem dX8_discAt_27 : decode cX8_discAt 27 = .ok (.goto 4, 3) := by decide +kernel
theorem dX8_discAt_30 : decode cX8_discAt 30 = .ok (.aconst_null, 1) := by decide +kernel
theorem dX8_discAt_31 : decode cX8_discAt 31 = .ok (.areturn, 1) := by decide +kernel
theorem dX8_deckAt_0 : decode cX8_deckAt 0 = .ok (.iload_n 1, 1) := by decide +kernel
theorem dX8_deckAt_1 : decode cX8_deckAt 1 = .ok (.ifCond .lt 21, 3) := by decide +kernel
theorem dX8_deckAt_4 : decode cX8_deckAt 4 = .ok (.iload_n 1, 1) := by decide +kernel
theorem dX8_deckAt_5 : decode cX8_deckAt 5 = .ok (.aload_n 0, 1) := by decide +kernel
theorem dX8_deckAt_6 : decode cX8_deckAt 6 = .ok (.getfield 22, 3) := by decide +kernel
theorem dX8_deckAt_9 : decode cX8_deckAt 9 = .ok (.arraylength, 1) := by decide +kernel
theorem dX8_deckAt_10 : decode cX8_deckAt 10 = .ok (.if_icmp .ge 12, 3) := by decide +kernel
theorem dX8_deckAt_13 : decode cX8_deckAt 13 = .ok (.aload_n 0, 1) := by decide +kernel
theorem dX8_deckAt_14 : decode cX8_deckAt 14 = .ok (.getfield 22, 3) := by decide +kernel
theorem dX8_deckAt_17 : decode cX8_deckAt 17 = .ok (.iload_n 1, 1) := by decide +kernel
theorem dX8_deckAt_18 : decode cX8_deckAt 18 = .ok (.aaload, 1) := by decide +kernel
theorem dX8_deckAt_19 : decode cX8_deckAt 19 = .ok (.goto 4, 3) := by decide +kernel
theorem dX8_deckAt_22 : decode cX8_deckAt 22 = .ok (.aconst_null, 1) := by decide +kernel
theorem dX8_deckAt_23 : decode cX8_deckAt 23 = .ok (.areturn, 1) := by decide +kernel
theorem dX8_isOnDeck_0 : decode cX8_isOnDeck 0 = .ok (.iconst 0, 1) := by decide +kernel
theorem dX8_isOnDeck_1 : decode cX8_isOnDeck 1 = .ok (.istore_n 2, 1) := by decide +kernel
theorem dX8_isOnDeck_2 : decode cX8_isOnDeck 2 = .ok (.iload_n 2, 1) := by decide +kernel
theorem dX8_isOnDeck_3 : decode cX8_isOnDeck 3 = .ok (.aload_n 0, 1) := by decide +kernel
theorem dX8_isOnDeck_4 : decode cX8_isOnDeck 4 = .ok (.getfield 22, 3) := by decide +kernel
theorem dX8_isOnDeck_7 : decode cX8_isOnDeck 7 = .ok (.arraylength, 1) := by decide +kernel
theorem dX8_isOnDeck_8 : decode cX8_isOnDeck 8 = .ok (.if_icmp .ge 24, 3) := by decide +kernel
theorem dX8_isOnDeck_11 : decode cX8_isOnDeck 11 = .ok (.aload_n 0, 1) := by decide +kernel
theorem dX8_isOnDeck_12 : decode cX8_isOnDeck 12 = .ok (.getfield 22, 3) := by decide +kernel
theorem dX8_isOnDeck_15 : decode cX8_isOnDeck 15 = .ok (.iload_n 2, 1) := by decide +kernel
theorem dX8_isOnDeck_16 : decode cX8_isOnDeck 16 = .ok (.aaload, 1) := by decide +kernel
theorem dX8_isOnDeck_17 : decode cX8_isOnDeck 17 = .ok (.getfield 49, 3) := by decide +kernel
theorem dX8_isOnDeck_20 : decode cX8_isOnDeck 20 = .ok (.aload_n 1, 1) := by decide +kernel
theorem dX8_isOnDeck_21 : decode cX8_isOnDeck 21 = .ok (.if_acmp .ne 5, 3) := by decide +kernel
theorem dX8_isOnDeck_24 : decode cX8_isOnDeck 24 = .ok (.iconst 1, 1) := by decide +kernel
theorem dX8_isOnDeck_25 : decode cX8_isOnDeck 25 = .ok (.ireturn, 1) := by decide +kernel
theorem dX8_isOnDeck_26 : decode cX8_isOnDeck 26 = .ok (.iinc 2 1, 3) := by decide +kernel
theorem dX8_isOnDeck_29 : decode cX8_isOnDeck 29 = .ok (.goto (-27), 3) := by decide +kernel
theorem dX8_isOnDeck_32 : decode cX8_isOnDeck 32 = .ok (.iconst 0, 1) := by decide +kernel
theorem dX8_isOnDeck_33 : decode cX8_isOnDeck 33 = .ok (.ireturn, 1) := by decide +kernel
theorem dX8_slideCross_0 : decode cX8_slideCross 0 = .ok (.aload_n 0, 1) := by decide +kernel
theorem dX8_slideCross_1 : decode cX8_slideCross 1 = .ok (.getfield 53, 3) := by decide +kernel
theorem dX8_slideCross_4 : decode cX8_slideCross 4 = .ok (.istore_n 2, 1) := by decide +kernel
theorem dX8_slideCross_5 : decode cX8_slideCross 5 = .ok (.aload_n 0, 1) := by decide +kernel
theorem dX8_slideCross_6 : decode cX8_slideCross 6 = .ok (.iload_n 1, 1) := by decide +kernel
theorem dX8_slideCross_7 : decode cX8_slideCross 7 = .ok (.putfield 53, 3) := by decide +kernel
theorem dX8_slideCross_10 : decode cX8_slideCross 10 = .ok (.iload_n 2, 1) := by decide +kernel
theorem dX8_slideCross_11 : decode cX8_slideCross 11 = .ok (.ireturn, 1) := by decide +kernel
theorem dX8_setLights_0 : decode cX8_setLights 0 = .ok (.aload_n 0, 1) := by decide +kernel
theorem dX8_setLights_1 : decode cX8_setLights 1 = .ok (.iload_n 2, 1) := by decide +kernel
theorem dX8_setLights_2 : decode cX8_setLights 2 = .ok (.putfield 56, 3) := by decide +kernel
theorem dX8_setLights_5 : decode cX8_setLights 5 = .ok (.iload_n 1, 1) := by decide +kernel
theorem dX8_setLights_6 : decode cX8_setLights 6 = .ok (.bipush 10, 2) := by decide +kernel
theorem dX8_setLights_8 : decode cX8_setLights 8 = .ok (.invokestatic 59, 3) := by decide +kernel
theorem dX8_setLights_11 : decode cX8_setLights 11 = .ok (.ireturn, 1) := by decide +kernel
theorem dX8_run_0 : decode cX8_run 0 = .ok (.aload_n 0, 1) := by decide +kernel
theorem dX8_run_1 : decode cX8_run 1 = .ok (.getfield 65, 3) := by decide +kernel
theorem dX8_run_4 : decode cX8_run 4 = .ok (.istore_n 2, 1) := by decide +kernel
theorem dX8_run_5 : decode cX8_run 5 = .ok (.iconst 0, 1) := by decide +kernel
theorem dX8_run_6 : decode cX8_run 6 = .ok (.istore_n 3, 1) := by decide +kernel
theorem dX8_run_7 : decode cX8_run 7 = .ok (.iload_n 3, 1) := by decide +kernel
theorem dX8_run_8 : decode cX8_run 8 = .ok (.iload_n 1, 1) := by decide +kernel
theorem dX8_run_9 : decode cX8_run 9 = .ok (.if_icmp .ge 67, 3) := by decide +kernel
theorem dX8_run_12 : decode cX8_run 12 = .ok (.aload_n 0, 1) := by decide +kernel
theorem dX8_run_13 : decode cX8_run 13 = .ok (.invokevirtual 68, 3) := by decide +kernel
theorem dX8_run_16 : decode cX8_run 16 = .ok (.aload_n 0, 1) := by decide +kernel
theorem dX8_run_17 : decode cX8_run 17 = .ok (.dup, 1) := by decide +kernel
theorem dX8_run_18 : decode cX8_run 18 = .ok (.getfield 71, 3) := by decide +kernel
theorem dX8_run_21 : decode cX8_run 21 = .ok (.iconst 1, 1) := by decide +kernel
theorem dX8_run_22 : decode cX8_run 22 = .ok (.iadd, 1) := by decide +kernel
theorem dX8_run_23 : decode cX8_run 23 = .ok (.putfield 71, 3) := by decide +kernel
theorem dX8_run_26 : decode cX8_run 26 = .ok (.aload_n 0, 1) := by decide +kernel
theorem dX8_run_27 : decode cX8_run 27 = .ok (.invokevirtual 74, 3) := by decide +kernel
theorem dX8_run_30 : decode cX8_run 30 = .ok (.aload_n 0, 1) := by decide +kernel
theorem dX8_run_31 : decode cX8_run 31 = .ok (.invokevirtual 77, 3) := by decide +kernel
theorem dX8_run_34 : decode cX8_run 34 = .ok (.aload_n 0, 1) := by decide +kernel
theorem dX8_run_35 : decode cX8_run 35 = .ok (.getfield 71, 3) := by decide +kernel
theorem dX8_run_38 : decode cX8_run 38 = .ok (.bipush 100, 2) := by decide +kernel
theorem dX8_run_40 : decode cX8_run 40 = .ok (.irem, 1) := by decide +kernel
theorem dX8_run_41 : decode cX8_run 41 = .ok (.ifCond .ne 29, 3) := by decide +kernel
theorem dX8_run_44 : decode cX8_run 44 = .ok (.aload_n 0, 1) := by decide +kernel
theorem dX8_run_45 : decode cX8_run 45 = .ok (.getfield 30, 3) := by decide +kernel
theorem dX8_run_48 : decode cX8_run 48 = .ok (.aload_n 0, 1) := by decide +kernel
theorem dX8_run_49 : decode cX8_run 49 = .ok (.getfield 22, 3) := by decide +kernel
theorem dX8_run_52 : decode cX8_run 52 = .ok (.aload_n 0, 1) := by decide +kernel
theorem dX8_run_53 : decode cX8_run 53 = .ok (.getfield 53, 3) := by decide +kernel
theorem dX8_run_56 : decode cX8_run 56 = .ok (.invokevirtual 80, 3) := by decide +kernel
theorem dX8_run_59 : decode cX8_run 59 = .ok (.aload_n 0, 1) := by decide +kernel
theorem dX8_run_60 : decode cX8_run 60 = .ok (.getfield 37, 3) := by decide +kernel
theorem dX8_run_63 : decode cX8_run 63 = .ok (.aload_n 0, 1) := by decide +kernel
theorem dX8_run_64 : decode cX8_run 64 = .ok (.getfield 71, 3) := by decide +kernel
theorem dX8_run_67 : decode cX8_run 67 = .ok (.invokevirtual 84, 3) := by decide +kernel
theorem dX8_run_70 : decode cX8_run 70 = .ok (.iinc 3 1, 3) := by decide +kernel
theorem dX8_run_73 : decode cX8_run 73 = .ok (.goto (-66), 3) := by decide +kernel
theorem dX8_run_76 : decode cX8_run 76 = .ok (.aload_n 0, 1) := by decide +kernel
theorem dX8_run_77 : decode cX8_run 77 = .ok (.getfield 65, 3) := by decide +kernel
theorem dX8_run_80 : decode cX8_run 80 = .ok (.iload_n 2, 1) := by decide +kernel
theorem dX8_run_81 : decode cX8_run 81 = .ok (.isub, 1) := by decide +kernel
theorem dX8_run_82 : decode cX8_run 82 = .ok (.ireturn, 1) := by decide +kernel
theorem dX8_advanceDecks_0 : decode cX8_advanceDecks 0 = .ok (.iconst 0, 1) := by decide +kernel
theorem dX8_advanceDecks_1 : decode cX8_advanceDecks 1 = .ok (.istore_n 1, 1) := by decide +kernel
theorem dX8_advanceDecks_2 : decode cX8_advanceDecks 2 = .ok (.iload_n 1, 1) := by decide +kernel
theorem dX8_advanceDecks_3 : decode cX8_advanceDecks 3 = .ok (.aload_n 0, 1) := by decide +kernel
theorem dX8_advanceDecks_4 : decode cX8_advanceDecks 4 = .ok (.getfield 22, 3) := by decide +kernel
theorem dX8_advanceDecks_7 : decode cX8_advanceDecks 7 = .ok (.arraylength, 1) := by decide +kernel
theorem dX8_advanceDecks_8 : decode cX8_advanceDecks 8 = .ok (.if_icmp .ge 18, 3) := by decide +kernel
theorem dX8_advanceDecks_11 : decode cX8_advanceDecks 11 = .ok (.aload_n 0, 1) := by decide +kernel
theorem dX8_advanceDecks_12 : decode cX8_advanceDecks 12 = .ok (.getfield 22, 3) := by decide +kernel
theorem dX8_advanceDecks_15 : decode cX8_advanceDecks 15 = .ok (.iload_n 1, 1) := by decide +kernel
theorem dX8_advanceDecks_16 : decode cX8_advanceDecks 16 = .ok (.aaload, 1) := by decide +kernel
theorem dX8_advanceDecks_17 : decode cX8_advanceDecks 17 = .ok (.invokevirtual 87, 3) := by decide +kernel
theorem dX8_advanceDecks_20 : decode cX8_advanceDecks 20 = .ok (.iinc 1 1, 3) := by decide +kernel
theorem dX8_advanceDecks_23 : decode cX8_advanceDecks 23 = .ok (.goto (-21), 3) := by decide +kernel
theorem dX8_advanceDecks_26 : decode cX8_advanceDecks 26 = .ok (.return_, 1) := by decide +kernel
theorem dX8_mixDecks_0 : decode cX8_mixDecks 0 = .ok (.iconst 0, 1) := by decide +kernel
theorem dX8_mixDecks_1 : decode cX8_mixDecks 1 = .ok (.istore_n 1, 1) := by decide +kernel
theorem dX8_mixDecks_2 : decode cX8_mixDecks 2 = .ok (.iconst 0, 1) := by decide +kernel
theorem dX8_mixDecks_3 : decode cX8_mixDecks 3 = .ok (.istore_n 2, 1) := by decide +kernel
theorem dX8_mixDecks_4 : decode cX8_mixDecks 4 = .ok (.iload_n 2, 1) := by decide +kernel
theorem dX8_mixDecks_5 : decode cX8_mixDecks 5 = .ok (.aload_n 0, 1) := by decide +kernel
theorem dX8_mixDecks_6 : decode cX8_mixDecks 6 = .ok (.getfield 22, 3) := by decide +kernel
theorem dX8_mixDecks_9 : decode cX8_mixDecks 9 = .ok (.arraylength, 1) := by decide +kernel
theorem dX8_mixDecks_10 : decode cX8_mixDecks 10 = .ok (.if_icmp .ge 46, 3) := by decide +kernel
theorem dX8_mixDecks_13 : decode cX8_mixDecks 13 = .ok (.aload_n 0, 1) := by decide +kernel
theorem dX8_mixDecks_14 : decode cX8_mixDecks 14 = .ok (.getfield 22, 3) := by decide +kernel
theorem dX8_mixDecks_17 : decode cX8_mixDecks 17 = .ok (.iload_n 2, 1) := by decide +kernel
theorem dX8_mixDecks_18 : decode cX8_mixDecks 18 = .ok (.aaload, 1) := by decide +kernel
theorem dX8_mixDecks_19 : decode cX8_mixDecks 19 = .ok (.astore_n 3, 1) := by decide +kernel
theorem dX8_mixDecks_20 : decode cX8_mixDecks 20 = .ok (.aload_n 3, 1) := by decide +kernel
theorem dX8_mixDecks_21 : decode cX8_mixDecks 21 = .ok (.aload_n 3, 1) := by decide +kernel
theorem dX8_mixDecks_22 : decode cX8_mixDecks 22 = .ok (.aload_n 0, 1) := by decide +kernel
theorem dX8_mixDecks_23 : decode cX8_mixDecks 23 = .ok (.getfield 53, 3) := by decide +kernel
theorem dX8_mixDecks_26 : decode cX8_mixDecks 26 = .ok (.invokevirtual 90, 3) := by decide +kernel
theorem dX8_mixDecks_29 : decode cX8_mixDecks 29 = .ok (.invokevirtual 94, 3) := by decide +kernel
theorem dX8_mixDecks_32 : decode cX8_mixDecks 32 = .ok (.istore 4, 2) := by decide +kernel
theorem dX8_mixDecks_34 : decode cX8_mixDecks 34 = .ok (.iload_n 1, 1) := by decide +kernel
theorem dX8_mixDecks_35 : decode cX8_mixDecks 35 = .ok (.aload_n 3, 1) := by decide +kernel
theorem dX8_mixDecks_36 : decode cX8_mixDecks 36 = .ok (.getfield 97, 3) := by decide +kernel
theorem dX8_mixDecks_39 : decode cX8_mixDecks 39 = .ok (.iload 4, 2) := by decide +kernel
theorem dX8_mixDecks_41 : decode cX8_mixDecks 41 = .ok (.aload_n 3, 1) := by decide +kernel
theorem dX8_mixDecks_42 : decode cX8_mixDecks 42 = .ok (.getfield 101, 3) := by decide +kernel
theorem dX8_mixDecks_45 : decode cX8_mixDecks 45 = .ok (.invokevirtual 105, 3) := by decide +kernel
theorem dX8_mixDecks_48 : decode cX8_mixDecks 48 = .ok (.iadd, 1) := by decide +kernel
theorem dX8_mixDecks_49 : decode cX8_mixDecks 49 = .ok (.istore_n 1, 1) := by decide +kernel
theorem dX8_mixDecks_50 : decode cX8_mixDecks 50 = .ok (.iinc 2 1, 3) := by decide +kernel
theorem dX8_mixDecks_53 : decode cX8_mixDecks 53 = .ok (.goto (-49), 3) := by decide +kernel
theorem dX8_mixDecks_56 : decode cX8_mixDecks 56 = .ok (.aload_n 0, 1) := by decide +kernel
theorem dX8_mixDecks_57 : decode cX8_mixDecks 57 = .ok (.iload_n 1, 1) := by decide +kernel
theorem dX8_mixDecks_58 : decode cX8_mixDecks 58 = .ok (.sipush 2000, 3) := by decide +kernel
theorem dX8_mixDecks_61 : decode cX8_mixDecks 61 = .ok (.invokestatic 59, 3) := by decide +kernel
theorem dX8_mixDecks_64 : decode cX8_mixDecks 64 = .ok (.putfield 111, 3) := by decide +kernel
theorem dX8_mixDecks_67 : decode cX8_mixDecks 67 = .ok (.aload_n 0, 1) := by decide +kernel
theorem dX8_mixDecks_68 : decode cX8_mixDecks 68 = .ok (.dup, 1) := by decide +kernel
theorem dX8_mixDecks_69 : decode cX8_mixDecks 69 = .ok (.getfield 114, 3) := by decide +kernel
theorem dX8_mixDecks_72 : decode cX8_mixDecks 72 = .ok (.aload_n 0, 1) := by decide +kernel
theorem dX8_mixDecks_73 : decode cX8_mixDecks 73 = .ok (.getfield 111, 3) := by decide +kernel
theorem dX8_mixDecks_76 : decode cX8_mixDecks 76 = .ok (.i2l, 1) := by decide +kernel
theorem dX8_mixDecks_77 : decode cX8_mixDecks 77 = .ok (.ladd, 1) := by decide +kernel
theorem dX8_mixDecks_78 : decode cX8_mixDecks 78 = .ok (.putfield 114, 3) := by decide +kernel
theorem dX8_mixDecks_81 : decode cX8_mixDecks 81 = .ok (.aload_n 0, 1) := by decide +kernel
theorem dX8_mixDecks_82 : decode cX8_mixDecks 82 = .ok (.getfield 37, 3) := by decide +kernel
theorem dX8_mixDecks_85 : decode cX8_mixDecks 85 = .ok (.aload_n 0, 1) := by decide +kernel
theorem dX8_mixDecks_86 : decode cX8_mixDecks 86 = .ok (.getfield 111, 3) := by decide +kernel
theorem dX8_mixDecks_89 : decode cX8_mixDecks 89 = .ok (.invokevirtual 117, 3) := by decide +kernel
theorem dX8_mixDecks_92 : decode cX8_mixDecks 92 = .ok (.aload_n 0, 1) := by decide +kernel
theorem dX8_mixDecks_93 : decode cX8_mixDecks 93 = .ok (.getfield 111, 3) := by decide +kernel
theorem dX8_mixDecks_96 : decode cX8_mixDecks 96 = .ok (.ifCond .ne 13, 3) := by decide +kernel
theorem dX8_mixDecks_99 : decode cX8_mixDecks 99 = .ok (.aload_n 0, 1) := by decide +kernel
theorem dX8_mixDecks_100 : decode cX8_mixDecks 100 = .ok (.dup, 1) := by decide +kernel
theorem dX8_mixDecks_101 : decode cX8_mixDecks 101 = .ok (.getfield 65, 3) := by decide +kernel
theorem dX8_mixDecks_104 : decode cX8_mixDecks 104 = .ok (.iconst 1, 1) := by decide +kernel
theorem dX8_mixDecks_105 : decode cX8_mixDecks 105 = .ok (.iadd, 1) := by decide +kernel
theorem dX8_mixDecks_106 : decode cX8_mixDecks 106 = .ok (.putfield 65, 3) := by decide +kernel
theorem dX8_mixDecks_109 : decode cX8_mixDecks 109 = .ok (.return_, 1) := by decide +kernel
theorem dX8_countClashes_0 : decode cX8_countClashes 0 = .ok (.iconst 0, 1) := by decide +kernel
theorem dX8_countClashes_1 : decode cX8_countClashes 1 = .ok (.istore_n 1, 1) := by decide +kernel
theorem dX8_countClashes_2 : decode cX8_countClashes 2 = .ok (.iconst 0, 1) := by decide +kernel
theorem dX8_countClashes_3 : decode cX8_countClashes 3 = .ok (.istore_n 2, 1) := by decide +kernel
theorem dX8_countClashes_4 : decode cX8_countClashes 4 = .ok (.iconst 0, 1) := by decide +kernel
theorem dX8_countClashes_5 : decode cX8_countClashes 5 = .ok (.istore_n 3, 1) := by decide +kernel
theorem dX8_countClashes_6 : decode cX8_countClashes 6 = .ok (.iload_n 3, 1) := by decide +kernel
theorem dX8_countClashes_7 : decode cX8_countClashes 7 = .ok (.aload_n 0, 1) := by decide +kernel
theorem dX8_countClashes_8 : decode cX8_countClashes 8 = .ok (.getfield 22, 3) := by decide +kernel
theorem dX8_countClashes_11 : decode cX8_countClashes 11 = .ok (.arraylength, 1) := by decide +kernel
theorem dX8_countClashes_12 : decode cX8_countClashes 12 = .ok (.if_icmp .ge 105, 3) := by decide +kernel
theorem dX8_countClashes_15 : decode cX8_countClashes 15 = .ok (.aload_n 0, 1) := by decide +kernel
theorem dX8_countClashes_16 : decode cX8_countClashes 16 = .ok (.getfield 22, 3) := by decide +kernel
theorem dX8_countClashes_19 : decode cX8_countClashes 19 = .ok (.iload_n 3, 1) := by decide +kernel
theorem dX8_countClashes_20 : decode cX8_countClashes 20 = .ok (.aaload, 1) := by decide +kernel
theorem dX8_countClashes_21 : decode cX8_countClashes 21 = .ok (.astore 4, 2) := by decide +kernel
theorem dX8_countClashes_23 : decode cX8_countClashes 23 = .ok (.aload 4, 2) := by decide +kernel
theorem dX8_countClashes_25 : decode cX8_countClashes 25 = .ok (.getfield 49, 3) := by decide +kernel
theorem dX8_countClashes_28 : decode cX8_countClashes 28 = .ok (.astore 5, 2) := by decide +kernel
theorem dX8_countClashes_30 : decode cX8_countClashes 30 = .ok (.aload 5, 2) := by decide +kernel
theorem dX8_countClashes_32 : decode cX8_countClashes 32 = .ok (.ifnull 79, 3) := by decide +kernel
theorem dX8_countClashes_35 : decode cX8_countClashes 35 = .ok (.aload 4, 2) := by decide +kernel
theorem dX8_countClashes_37 : decode cX8_countClashes 37 = .ok (.aload_n 0, 1) := by decide +kernel
theorem dX8_countClashes_38 : decode cX8_countClashes 38 = .ok (.getfield 53, 3) := by decide +kernel
theorem dX8_countClashes_41 : decode cX8_countClashes 41 = .ok (.invokevirtual 120, 3) := by decide +kernel
theorem dX8_countClashes_44 : decode cX8_countClashes 44 = .ok (.ifCond .eq 67, 3) := by decide +kernel
theorem dX8_countClashes_47 : decode cX8_countClashes 47 = .ok (.aload 5, 2) := by decide +kernel
theorem dX8_countClashes_49 : decode cX8_countClashes 49 = .ok (.dup, 1) := by decide +kernel
theorem dX8_countClashes_50 : decode cX8_countClashes 50 = .ok (.getfield 124, 3) := by decide +kernel
theorem dX8_countClashes_53 : decode cX8_countClashes 53 = .ok (.iconst 1, 1) := by decide +kernel
theorem dX8_countClashes_54 : decode cX8_countClashes 54 = .ok (.iadd, 1) := by decide +kernel
theorem dX8_countClashes_55 : decode cX8_countClashes 55 = .ok (.putfield 124, 3) := by decide +kernel
theorem dX8_countClashes_58 : decode cX8_countClashes 58 = .ok (.iload_n 1, 1) := by decide +kernel
theorem dX8_countClashes_59 : decode cX8_countClashes 59 = .ok (.aload 5, 2) := by decide +kernel
theorem dX8_countClashes_61 : decode cX8_countClashes 61 = .ok (.aload 4, 2) := by decide +kernel
theorem dX8_countClashes_63 : decode cX8_countClashes 63 = .ok (.getfield 101, 3) := by decide +kernel
theorem dX8_countClashes_66 : decode cX8_countClashes 66 = .ok (.invokevirtual 127, 3) := by decide +kernel
theorem dX8_countClashes_69 : decode cX8_countClashes 69 = .ok (.ifCond .eq 7, 3) := by decide +kernel
theorem dX8_countClashes_72 : decode cX8_countClashes 72 = .ok (.iconst 1, 1) := by decide +kernel
theorem dX8_countClashes_73 : decode cX8_countClashes 73 = .ok (.goto 4, 3) := by decide +kernel
theorem dX8_countClashes_76 : decode cX8_countClashes 76 = .ok (.iconst 0, 1) := by decide +kernel
theorem dX8_countClashes_77 : decode cX8_countClashes 77 = .ok (.iadd, 1) := by decide +kernel
theorem dX8_countClashes_78 : decode cX8_countClashes 78 = .ok (.istore_n 1, 1) := by decide +kernel
theorem dX8_countClashes_79 : decode cX8_countClashes 79 = .ok (.iload_n 2, 1) := by decide +kernel
theorem dX8_countClashes_80 : decode cX8_countClashes 80 = .ok (.aload 5, 2) := by decide +kernel
theorem dX8_countClashes_82 : decode cX8_countClashes 82 = .ok (.aload 4, 2) := by decide +kernel
theorem dX8_countClashes_84 : decode cX8_countClashes 84 = .ok (.getfield 101, 3) := by decide +kernel
theorem dX8_countClashes_87 : decode cX8_countClashes 87 = .ok (.invokevirtual 131, 3) := by decide +kernel
theorem dX8_countClashes_90 : decode cX8_countClashes 90 = .ok (.ifCond .eq 18, 3) := by decide +kernel
theorem dX8_countClashes_93 : decode cX8_countClashes 93 = .ok (.aload 4, 2) := by decide +kernel
theorem dX8_countClashes_95 : decode cX8_countClashes 95 = .ok (.getfield 97, 3) := by decide +kernel
theorem dX8_countClashes_98 : decode cX8_countClashes 98 = .ok (.invokevirtual 134, 3) := by decide +kernel
theorem dX8_countClashes_101 : decode cX8_countClashes 101 = .ok (.ifCond .eq 7, 3) := by decide +kernel
theorem dX8_countClashes_104 : decode cX8_countClashes 104 = .ok (.iconst 1, 1) := by decide +kernel
theorem dX8_countClashes_105 : decode cX8_countClashes 105 = .ok (.goto 4, 3) := by decide +kernel
theorem dX8_countClashes_108 : decode cX8_countClashes 108 = .ok (.iconst 0, 1) := by decide +kernel
theorem dX8_countClashes_109 : decode cX8_countClashes 109 = .ok (.iadd, 1) := by decide +kernel
theorem dX8_countClashes_110 : decode cX8_countClashes 110 = .ok (.istore_n 2, 1) := by decide +kernel
theorem dX8_countClashes_111 : decode cX8_countClashes 111 = .ok (.iinc 3 1, 3) := by decide +kernel
theorem dX8_countClashes_114 : decode cX8_countClashes 114 = .ok (.goto (-108), 3) := by decide +kernel
theorem dX8_countClashes_117 : decode cX8_countClashes 117 = .ok (.aload_n 0, 1) := by decide +kernel
theorem dX8_countClashes_118 : decode cX8_countClashes 118 = .ok (.dup, 1) := by decide +kernel
theorem dX8_countClashes_119 : decode cX8_countClashes 119 = .ok (.getfield 138, 3) := by decide +kernel
theorem dX8_countClashes_122 : decode cX8_countClashes 122 = .ok (.iload_n 1, 1) := by decide +kernel
theorem dX8_countClashes_123 : decode cX8_countClashes 123 = .ok (.iconst 2, 1) := by decide +kernel
theorem dX8_countClashes_124 : decode cX8_countClashes 124 = .ok (.if_icmp .lt 7, 3) := by decide +kernel
theorem dX8_countClashes_127 : decode cX8_countClashes 127 = .ok (.iconst 1, 1) := by decide +kernel
theorem dX8_countClashes_128 : decode cX8_countClashes 128 = .ok (.goto 4, 3) := by decide +kernel
theorem dX8_countClashes_131 : decode cX8_countClashes 131 = .ok (.iconst 0, 1) := by decide +kernel
theorem dX8_countClashes_132 : decode cX8_countClashes 132 = .ok (.iadd, 1) := by decide +kernel
theorem dX8_countClashes_133 : decode cX8_countClashes 133 = .ok (.putfield 138, 3) := by decide +kernel
theorem dX8_countClashes_136 : decode cX8_countClashes 136 = .ok (.aload_n 0, 1) := by decide +kernel
theorem dX8_countClashes_137 : decode cX8_countClashes 137 = .ok (.dup, 1) := by decide +kernel
theorem dX8_countClashes_138 : decode cX8_countClashes 138 = .ok (.getfield 141, 3) := by decide +kernel
theorem dX8_countClashes_141 : decode cX8_countClashes 141 = .ok (.iload_n 2, 1) := by decide +kernel
theorem dX8_countClashes_142 : decode cX8_countClashes 142 = .ok (.iconst 2, 1) := by decide +kernel
theorem dX8_countClashes_143 : decode cX8_countClashes 143 = .ok (.if_icmp .lt 7, 3) := by decide +kernel
theorem dX8_countClashes_146 : decode cX8_countClashes 146 = .ok (.iconst 1, 1) := by decide +kernel
theorem dX8_countClashes_147 : decode cX8_countClashes 147 = .ok (.goto 4, 3) := by decide +kernel
theorem dX8_countClashes_150 : decode cX8_countClashes 150 = .ok (.iconst 0, 1) := by decide +kernel
theorem dX8_countClashes_151 : decode cX8_countClashes 151 = .ok (.iadd, 1) := by decide +kernel
theorem dX8_countClashes_152 : decode cX8_countClashes 152 = .ok (.putfield 141, 3) := by decide +kernel
theorem dX8_countClashes_155 : decode cX8_countClashes 155 = .ok (.return_, 1) := by decide +kernel
theorem dX8_loudestDeck_0 : decode cX8_loudestDeck 0 = .ok (.aconst_null, 1) := by decide +kernel
theorem dX8_loudestDeck_1 : decode cX8_loudestDeck 1 = .ok (.astore_n 1, 1) := by decide +kernel
theorem dX8_loudestDeck_2 : decode cX8_loudestDeck 2 = .ok (.iconst (-1), 1) := by decide +kernel
theorem dX8_loudestDeck_3 : decode cX8_loudestDeck 3 = .ok (.istore_n 2, 1) := by decide +kernel
theorem dX8_loudestDeck_4 : decode cX8_loudestDeck 4 = .ok (.iconst 0, 1) := by decide +kernel
theorem dX8_loudestDeck_5 : decode cX8_loudestDeck 5 = .ok (.istore_n 3, 1) := by decide +kernel
theorem dX8_loudestDeck_6 : decode cX8_loudestDeck 6 = .ok (.iload_n 3, 1) := by decide +kernel
theorem dX8_loudestDeck_7 : decode cX8_loudestDeck 7 = .ok (.aload_n 0, 1) := by decide +kernel
theorem dX8_loudestDeck_8 : decode cX8_loudestDeck 8 = .ok (.getfield 22, 3) := by decide +kernel
theorem dX8_loudestDeck_11 : decode cX8_loudestDeck 11 = .ok (.arraylength, 1) := by decide +kernel
theorem dX8_loudestDeck_12 : decode cX8_loudestDeck 12 = .ok (.if_icmp .ge 65, 3) := by decide +kernel
theorem dX8_loudestDeck_15 : decode cX8_loudestDeck 15 = .ok (.aload_n 0, 1) := by decide +kernel
theorem dX8_loudestDeck_16 : decode cX8_loudestDeck 16 = .ok (.getfield 22, 3) := by decide +kernel
theorem dX8_loudestDeck_19 : decode cX8_loudestDeck 19 = .ok (.iload_n 3, 1) := by decide +kernel
theorem dX8_loudestDeck_20 : decode cX8_loudestDeck 20 = .ok (.aaload, 1) := by decide +kernel
theorem dX8_loudestDeck_21 : decode cX8_loudestDeck 21 = .ok (.aload_n 0, 1) := by decide +kernel
theorem dX8_loudestDeck_22 : decode cX8_loudestDeck 22 = .ok (.getfield 22, 3) := by decide +kernel
theorem dX8_loudestDeck_25 : decode cX8_loudestDeck 25 = .ok (.iload_n 3, 1) := by decide +kernel
theorem dX8_loudestDeck_26 : decode cX8_loudestDeck 26 = .ok (.aaload, 1) := by decide +kernel
theorem dX8_loudestDeck_27 : decode cX8_loudestDeck 27 = .ok (.aload_n 0, 1) := by decide +kernel
theorem dX8_loudestDeck_28 : decode cX8_loudestDeck 28 = .ok (.getfield 53, 3) := by decide +kernel
theorem dX8_loudestDeck_31 : decode cX8_loudestDeck 31 = .ok (.invokevirtual 90, 3) := by decide +kernel
theorem dX8_loudestDeck_34 : decode cX8_loudestDeck 34 = .ok (.invokevirtual 94, 3) := by decide +kernel
theorem dX8_loudestDeck_37 : decode cX8_loudestDeck 37 = .ok (.istore 4, 2) := by decide +kernel
theorem dX8_loudestDeck_39 : decode cX8_loudestDeck 39 = .ok (.aload_n 0, 1) := by decide +kernel
theorem dX8_loudestDeck_40 : decode cX8_loudestDeck 40 = .ok (.getfield 22, 3) := by decide +kernel
theorem dX8_loudestDeck_43 : decode cX8_loudestDeck 43 = .ok (.iload_n 3, 1) := by decide +kernel
theorem dX8_loudestDeck_44 : decode cX8_loudestDeck 44 = .ok (.aaload, 1) := by decide +kernel
theorem dX8_loudestDeck_45 : decode cX8_loudestDeck 45 = .ok (.aload_n 0, 1) := by decide +kernel
theorem dX8_loudestDeck_46 : decode cX8_loudestDeck 46 = .ok (.getfield 53, 3) := by decide +kernel
theorem dX8_loudestDeck_49 : decode cX8_loudestDeck 49 = .ok (.invokevirtual 120, 3) := by decide +kernel
theorem dX8_loudestDeck_52 : decode cX8_loudestDeck 52 = .ok (.ifCond .eq 19, 3) := by decide +kernel
theorem dX8_loudestDeck_55 : decode cX8_loudestDeck 55 = .ok (.iload 4, 2) := by decide +kernel
theorem dX8_loudestDeck_57 : decode cX8_loudestDeck 57 = .ok (.iload_n 2, 1) := by decide +kernel
theorem dX8_loudestDeck_58 : decode cX8_loudestDeck 58 = .ok (.if_icmp .le 13, 3) := by decide +kernel
theorem dX8_loudestDeck_61 : decode cX8_loudestDeck 61 = .ok (.aload_n 0, 1) := by decide +kernel
theorem dX8_loudestDeck_62 : decode cX8_loudestDeck 62 = .ok (.getfield 22, 3) := by decide +kernel
theorem dX8_loudestDeck_65 : decode cX8_loudestDeck 65 = .ok (.iload_n 3, 1) := by decide +kernel
theorem dX8_loudestDeck_66 : decode cX8_loudestDeck 66 = .ok (.aaload, 1) := by decide +kernel
theorem dX8_loudestDeck_67 : decode cX8_loudestDeck 67 = .ok (.astore_n 1, 1) := by decide +kernel
theorem dX8_loudestDeck_68 : decode cX8_loudestDeck 68 = .ok (.iload 4, 2) := by decide +kernel
theorem dX8_loudestDeck_70 : decode cX8_loudestDeck 70 = .ok (.istore_n 2, 1) := by decide +kernel
theorem dX8_loudestDeck_71 : decode cX8_loudestDeck 71 = .ok (.iinc 3 1, 3) := by decide +kernel
theorem dX8_loudestDeck_74 : decode cX8_loudestDeck 74 = .ok (.goto (-68), 3) := by decide +kernel
theorem dX8_loudestDeck_77 : decode cX8_loudestDeck 77 = .ok (.aload_n 1, 1) := by decide +kernel
theorem dX8_loudestDeck_78 : decode cX8_loudestDeck 78 = .ok (.areturn, 1) := by decide +kernel
theorem dX8_loseDisc_0 : decode cX8_loseDisc 0 = .ok (.aload_n 1, 1) := by decide +kernel
theorem dX8_loseDisc_1 : decode cX8_loseDisc 1 = .ok (.invokevirtual 144, 3) := by decide +kernel
theorem dX8_loseDisc_4 : decode cX8_loseDisc 4 = .ok (.aload_n 0, 1) := by decide +kernel
theorem dX8_loseDisc_5 : decode cX8_loseDisc 5 = .ok (.invokevirtual 147, 3) := by decide +kernel
theorem dX8_loseDisc_8 : decode cX8_loseDisc 8 = .ok (.ifnull 5, 3) := by decide +kernel
theorem dX8_loseDisc_11 : decode cX8_loseDisc 11 = .ok (.iconst (-1), 1) := by decide +kernel
theorem dX8_loseDisc_12 : decode cX8_loseDisc 12 = .ok (.ireturn, 1) := by decide +kernel
theorem dX8_loseDisc_13 : decode cX8_loseDisc 13 = .ok (.iconst 0, 1) := by decide +kernel
theorem dX8_loseDisc_14 : decode cX8_loseDisc 14 = .ok (.istore_n 2, 1) := by decide +kernel
theorem dX8_loseDisc_15 : decode cX8_loseDisc 15 = .ok (.iload_n 2, 1) := by decide +kernel
theorem dX8_loseDisc_16 : decode cX8_loseDisc 16 = .ok (.aload_n 0, 1) := by decide +kernel
theorem dX8_loseDisc_17 : decode cX8_loseDisc 17 = .ok (.getfield 22, 3) := by decide +kernel
theorem dX8_loseDisc_20 : decode cX8_loseDisc 20 = .ok (.arraylength, 1) := by decide +kernel
theorem dX8_loseDisc_21 : decode cX8_loseDisc 21 = .ok (.if_icmp .ge 44, 3) := by decide +kernel
theorem dX8_loseDisc_24 : decode cX8_loseDisc 24 = .ok (.aload_n 0, 1) := by decide +kernel
theorem dX8_loseDisc_25 : decode cX8_loseDisc 25 = .ok (.getfield 22, 3) := by decide +kernel
theorem dX8_loseDisc_28 : decode cX8_loseDisc 28 = .ok (.iload_n 2, 1) := by decide +kernel
theorem dX8_loseDisc_29 : decode cX8_loseDisc 29 = .ok (.aaload, 1) := by decide +kernel
theorem dX8_loseDisc_30 : decode cX8_loseDisc 30 = .ok (.astore_n 3, 1) := by decide +kernel
theorem dX8_loseDisc_31 : decode cX8_loseDisc 31 = .ok (.aload_n 3, 1) := by decide +kernel
theorem dX8_loseDisc_32 : decode cX8_loseDisc 32 = .ok (.getfield 151, 3) := by decide +kernel
theorem dX8_loseDisc_35 : decode cX8_loseDisc 35 = .ok (.ifCond .ne 24, 3) := by decide +kernel
theorem dX8_loseDisc_38 : decode cX8_loseDisc 38 = .ok (.aload_n 3, 1) := by decide +kernel
theorem dX8_loseDisc_39 : decode cX8_loseDisc 39 = .ok (.getfield 97, 3) := by decide +kernel
theorem dX8_loseDisc_42 : decode cX8_loseDisc 42 = .ok (.getfield 155, 3) := by decide +kernel
theorem dX8_loseDisc_45 : decode cX8_loseDisc 45 = .ok (.bipush 30, 2) := by decide +kernel
theorem dX8_loseDisc_47 : decode cX8_loseDisc 47 = .ok (.if_icmp .lt 12, 3) := by decide +kernel
theorem dX8_loseDisc_50 : decode cX8_loseDisc 50 = .ok (.aload_n 3, 1) := by decide +kernel
theorem dX8_loseDisc_51 : decode cX8_loseDisc 51 = .ok (.invokevirtual 158, 3) := by decide +kernel
theorem dX8_loseDisc_54 : decode cX8_loseDisc 54 = .ok (.ifCond .eq 5, 3) := by decide +kernel
theorem dX8_loseDisc_57 : decode cX8_loseDisc 57 = .ok (.iload_n 2, 1) := by decide +kernel
theorem dX8_loseDisc_58 : decode cX8_loseDisc 58 = .ok (.ireturn, 1) := by decide +kernel
theorem dX8_loseDisc_59 : decode cX8_loseDisc 59 = .ok (.iinc 2 1, 3) := by decide +kernel
theorem dX8_loseDisc_62 : decode cX8_loseDisc 62 = .ok (.goto (-47), 3) := by decide +kernel
theorem dX8_loseDisc_65 : decode cX8_loseDisc 65 = .ok (.iconst (-1), 1) := by decide +kernel
theorem dX8_loseDisc_66 : decode cX8_loseDisc 66 = .ok (.ireturn, 1) := by decide +kernel
theorem dX8_fingerprint_0 : decode cX8_fingerprint 0 = .ok (.ldc2_w 161, 3) := by decide +kernel
theorem dX8_fingerprint_3 : decode cX8_fingerprint 3 = .ok (.lstore_n 1, 1) := by decide +kernel
theorem dX8_fingerprint_4 : decode cX8_fingerprint 4 = .ok (.iconst 0, 1) := by decide +kernel
theorem dX8_fingerprint_5 : decode cX8_fingerprint 5 = .ok (.istore_n 3, 1) := by decide +kernel
theorem dX8_fingerprint_6 : decode cX8_fingerprint 6 = .ok (.iload_n 3, 1) := by decide +kernel
theorem dX8_fingerprint_7 : decode cX8_fingerprint 7 = .ok (.aload_n 0, 1) := by decide +kernel
theorem dX8_fingerprint_8 : decode cX8_fingerprint 8 = .ok (.getfield 22, 3) := by decide +kernel
theorem dX8_fingerprint_11 : decode cX8_fingerprint 11 = .ok (.arraylength, 1) := by decide +kernel
theorem dX8_fingerprint_12 : decode cX8_fingerprint 12 = .ok (.if_icmp .ge 25, 3) := by decide +kernel
theorem dX8_fingerprint_15 : decode cX8_fingerprint 15 = .ok (.ldc2_w 163, 3) := by decide +kernel
theorem dX8_fingerprint_18 : decode cX8_fingerprint 18 = .ok (.lload_n 1, 1) := by decide +kernel
theorem dX8_fingerprint_19 : decode cX8_fingerprint 19 = .ok (.lmul, 1) := by decide +kernel
theorem dX8_fingerprint_20 : decode cX8_fingerprint 20 = .ok (.aload_n 0, 1) := by decide +kernel
theorem dX8_fingerprint_21 : decode cX8_fingerprint 21 = .ok (.getfield 22, 3) := by decide +kernel
theorem dX8_fingerprint_24 : decode cX8_fingerprint 24 = .ok (.iload_n 3, 1) := by decide +kernel
theorem dX8_fingerprint_25 : decode cX8_fingerprint 25 = .ok (.aaload, 1) := by decide +kernel
theorem dX8_fingerprint_26 : decode cX8_fingerprint 26 = .ok (.getfield 101, 3) := by decide +kernel
theorem dX8_fingerprint_29 : decode cX8_fingerprint 29 = .ok (.ladd, 1) := by decide +kernel
theorem dX8_fingerprint_30 : decode cX8_fingerprint 30 = .ok (.lstore_n 1, 1) := by decide +kernel
theorem dX8_fingerprint_31 : decode cX8_fingerprint 31 = .ok (.iinc 3 1, 3) := by decide +kernel
theorem dX8_fingerprint_34 : decode cX8_fingerprint 34 = .ok (.goto (-28), 3) := by decide +kernel
theorem dX8_fingerprint_37 : decode cX8_fingerprint 37 = .ok (.ldc2_w 163, 3) := by decide +kernel
theorem dX8_fingerprint_40 : decode cX8_fingerprint 40 = .ok (.lload_n 1, 1) := by decide +kernel
theorem dX8_fingerprint_41 : decode cX8_fingerprint 41 = .ok (.lmul, 1) := by decide +kernel
theorem dX8_fingerprint_42 : decode cX8_fingerprint 42 = .ok (.aload_n 0, 1) := by decide +kernel
theorem dX8_fingerprint_43 : decode cX8_fingerprint 43 = .ok (.getfield 71, 3) := by decide +kernel
theorem dX8_fingerprint_46 : decode cX8_fingerprint 46 = .ok (.i2l, 1) := by decide +kernel
theorem dX8_fingerprint_47 : decode cX8_fingerprint 47 = .ok (.ladd, 1) := by decide +kernel
theorem dX8_fingerprint_48 : decode cX8_fingerprint 48 = .ok (.lstore_n 1, 1) := by decide +kernel
theorem dX8_fingerprint_49 : decode cX8_fingerprint 49 = .ok (.ldc2_w 163, 3) := by decide +kernel
theorem dX8_fingerprint_52 : decode cX8_fingerprint 52 = .ok (.lload_n 1, 1) := by decide +kernel
theorem dX8_fingerprint_53 : decode cX8_fingerprint 53 = .ok (.lmul, 1) := by decide +kernel
theorem dX8_fingerprint_54 : decode cX8_fingerprint 54 = .ok (.aload_n 0, 1) := by decide +kernel
theorem dX8_fingerprint_55 : decode cX8_fingerprint 55 = .ok (.getfield 65, 3) := by decide +kernel
theorem dX8_fingerprint_58 : decode cX8_fingerprint 58 = .ok (.i2l, 1) := by decide +kernel
theorem dX8_fingerprint_59 : decode cX8_fingerprint 59 = .ok (.ladd, 1) := by decide +kernel
theorem dX8_fingerprint_60 : decode cX8_fingerprint 60 = .ok (.lstore_n 1, 1) := by decide +kernel
theorem dX8_fingerprint_61 : decode cX8_fingerprint 61 = .ok (.ldc2_w 163, 3) := by decide +kernel
theorem dX8_fingerprint_64 : decode cX8_fingerprint 64 = .ok (.lload_n 1, 1) := by decide +kernel
theorem dX8_fingerprint_65 : decode cX8_fingerprint 65 = .ok (.lmul, 1) := by decide +kernel
theorem dX8_fingerprint_66 : decode cX8_fingerprint 66 = .ok (.aload_n 0, 1) := by decide +kernel
theorem dX8_fingerprint_67 : decode cX8_fingerprint 67 = .ok (.getfield 138, 3) := by decide +kernel
theorem dX8_fingerprint_70 : decode cX8_fingerprint 70 = .ok (.i2l, 1) := by decide +kernel
theorem dX8_fingerprint_71 : decode cX8_fingerprint 71 = .ok (.ladd, 1) := by decide +kernel
theorem dX8_fingerprint_72 : decode cX8_fingerprint 72 = .ok (.lstore_n 1, 1) := by decide +kernel
theorem dX8_fingerprint_73 : decode cX8_fingerprint 73 = .ok (.ldc2_w 163, 3) := by decide +kernel
theorem dX8_fingerprint_76 : decode cX8_fingerprint 76 = .ok (.lload_n 1, 1) := by decide +kernel
theorem dX8_fingerprint_77 : decode cX8_fingerprint 77 = .ok (.lmul, 1) := by decide +kernel
theorem dX8_fingerprint_78 : decode cX8_fingerprint 78 = .ok (.aload_n 0, 1) := by decide +kernel
theorem dX8_fingerprint_79 : decode cX8_fingerprint 79 = .ok (.getfield 141, 3) := by decide +kernel
theorem dX8_fingerprint_82 : decode cX8_fingerprint 82 = .ok (.i2l, 1) := by decide +kernel
theorem dX8_fingerprint_83 : decode cX8_fingerprint 83 = .ok (.ladd, 1) := by decide +kernel
theorem dX8_fingerprint_84 : decode cX8_fingerprint 84 = .ok (.lstore_n 1, 1) := by decide +kernel
theorem dX8_fingerprint_85 : decode cX8_fingerprint 85 = .ok (.ldc2_w 163, 3) := by decide +kernel
theorem dX8_fingerprint_88 : decode cX8_fingerprint 88 = .ok (.lload_n 1, 1) := by decide +kernel
theorem dX8_fingerprint_89 : decode cX8_fingerprint 89 = .ok (.lmul, 1) := by decide +kernel
theorem dX8_fingerprint_90 : decode cX8_fingerprint 90 = .ok (.aload_n 0, 1) := by decide +kernel
theorem dX8_fingerprint_91 : decode cX8_fingerprint 91 = .ok (.getfield 30, 3) := by decide +kernel
theorem dX8_fingerprint_94 : decode cX8_fingerprint 94 = .ok (.invokevirtual 165, 3) := by decide +kernel
theorem dX8_fingerprint_97 : decode cX8_fingerprint 97 = .ok (.i2l, 1) := by decide +kernel
theorem dX8_fingerprint_98 : decode cX8_fingerprint 98 = .ok (.ladd, 1) := by decide +kernel
theorem dX8_fingerprint_99 : decode cX8_fingerprint 99 = .ok (.lstore_n 1, 1) := by decide +kernel
theorem dX8_fingerprint_100 : decode cX8_fingerprint 100 = .ok (.ldc2_w 163, 3) := by decide +kernel
theorem dX8_fingerprint_103 : decode cX8_fingerprint 103 = .ok (.lload_n 1, 1) := by decide +kernel
theorem dX8_fingerprint_104 : decode cX8_fingerprint 104 = .ok (.lmul, 1) := by decide +kernel
theorem dX8_fingerprint_105 : decode cX8_fingerprint 105 = .ok (.aload_n 0, 1) := by decide +kernel
theorem dX8_fingerprint_106 : decode cX8_fingerprint 106 = .ok (.getfield 37, 3) := by decide +kernel
theorem dX8_fingerprint_109 : decode cX8_fingerprint 109 = .ok (.getfield 169, 3) := by decide +kernel
theorem dX8_fingerprint_112 : decode cX8_fingerprint 112 = .ok (.i2l, 1) := by decide +kernel
theorem dX8_fingerprint_113 : decode cX8_fingerprint 113 = .ok (.ladd, 1) := by decide +kernel
theorem dX8_fingerprint_114 : decode cX8_fingerprint 114 = .ok (.lreturn, 1) := by decide +kernel
theorem dX8_placesAreSound_0 : decode cX8_placesAreSound 0 = .ok (.iconst 0, 1) := by decide +kernel
theorem dX8_placesAreSound_1 : decode cX8_placesAreSound 1 = .ok (.istore_n 1, 1) := by decide +kernel
theorem dX8_placesAreSound_2 : decode cX8_placesAreSound 2 = .ok (.iload_n 1, 1) := by decide +kernel
theorem dX8_placesAreSound_3 : decode cX8_placesAreSound 3 = .ok (.aload_n 0, 1) := by decide +kernel
theorem dX8_placesAreSound_4 : decode cX8_placesAreSound 4 = .ok (.getfield 22, 3) := by decide +kernel
theorem dX8_placesAreSound_7 : decode cX8_placesAreSound 7 = .ok (.arraylength, 1) := by decide +kernel
theorem dX8_placesAreSound_8 : decode cX8_placesAreSound 8 = .ok (.if_icmp .ge 49, 3) := by decide +kernel
theorem dX8_placesAreSound_11 : decode cX8_placesAreSound 11 = .ok (.aload_n 0, 1) := by decide +kernel
theorem dX8_placesAreSound_12 : decode cX8_placesAreSound 12 = .ok (.getfield 22, 3) := by decide +kernel
theorem dX8_placesAreSound_15 : decode cX8_placesAreSound 15 = .ok (.iload_n 1, 1) := by decide +kernel
theorem dX8_placesAreSound_16 : decode cX8_placesAreSound 16 = .ok (.aaload, 1) := by decide +kernel
theorem dX8_placesAreSound_17 : decode cX8_placesAreSound 17 = .ok (.astore_n 2, 1) := by decide +kernel
theorem dX8_placesAreSound_18 : decode cX8_placesAreSound 18 = .ok (.aload_n 2, 1) := by decide +kernel
theorem dX8_placesAreSound_19 : decode cX8_placesAreSound 19 = .ok (.getfield 49, 3) := by decide +kernel
theorem dX8_placesAreSound_22 : decode cX8_placesAreSound 22 = .ok (.ifnull 29, 3) := by decide +kernel
theorem dX8_placesAreSound_25 : decode cX8_placesAreSound 25 = .ok (.aload_n 2, 1) := by decide +kernel
theorem dX8_placesAreSound_26 : decode cX8_placesAreSound 26 = .ok (.getfield 101, 3) := by decide +kernel
theorem dX8_placesAreSound_29 : decode cX8_placesAreSound 29 = .ok (.lconst 0, 1) := by decide +kernel
theorem dX8_placesAreSound_30 : decode cX8_placesAreSound 30 = .ok (.lcmp, 1) := by decide +kernel
theorem dX8_placesAreSound_31 : decode cX8_placesAreSound 31 = .ok (.ifCond .lt 18, 3) := by decide +kernel
theorem dX8_placesAreSound_34 : decode cX8_placesAreSound 34 = .ok (.aload_n 2, 1) := by decide +kernel
theorem dX8_placesAreSound_35 : decode cX8_placesAreSound 35 = .ok (.getfield 101, 3) := by decide +kernel
theorem dX8_placesAreSound_38 : decode cX8_placesAreSound 38 = .ok (.aload_n 2, 1) := by decide +kernel
theorem dX8_placesAreSound_39 : decode cX8_placesAreSound 39 = .ok (.getfield 49, 3) := by decide +kernel
theorem dX8_placesAreSound_42 : decode cX8_placesAreSound 42 = .ok (.invokevirtual 172, 3) := by decide +kernel
theorem dX8_placesAreSound_45 : decode cX8_placesAreSound 45 = .ok (.lcmp, 1) := by decide +kernel
theorem dX8_placesAreSound_46 : decode cX8_placesAreSound 46 = .ok (.ifCond .le 5, 3) := by decide +kernel
theorem dX8_placesAreSound_49 : decode cX8_placesAreSound 49 = .ok (.iconst 0, 1) := by decide +kernel
theorem dX8_placesAreSound_50 : decode cX8_placesAreSound 50 = .ok (.ireturn, 1) := by decide +kernel
theorem dX8_placesAreSound_51 : decode cX8_placesAreSound 51 = .ok (.iinc 1 1, 3) := by decide +kernel
theorem dX8_placesAreSound_54 : decode cX8_placesAreSound 54 = .ok (.goto (-52), 3) := by decide +kernel
theorem dX8_placesAreSound_57 : decode cX8_placesAreSound 57 = .ok (.iconst 1, 1) := by decide +kernel
theorem dX8_placesAreSound_58 : decode cX8_placesAreSound 58 = .ok (.ireturn, 1) := by decide +kernel
theorem dX9_init_0 : decode cX9_init 0 = .ok (.aload_n 0, 1) := by decide +kernel
theorem dX9_init_1 : decode cX9_init 1 = .ok (.invokespecial 3, 3) := by decide +kernel
theorem dX9_init_4 : decode cX9_init 4 = .ok (.aload_n 0, 1) := by decide +kernel
theorem dX9_init_5 : decode cX9_init 5 = .ok (.aload_n 1, 1) := by decide +kernel
theorem dX9_init_6 : decode cX9_init 6 = .ok (.putfield 9, 3) := by decide +kernel
theorem dX9_init_9 : decode cX9_init 9 = .ok (.aload_n 0, 1) := by decide +kernel
theorem dX9_init_10 : decode cX9_init 10 = .ok (.iconst 4, 1) := by decide +kernel
theorem dX9_init_11 : decode cX9_init 11 = .ok (.newarray .int, 2) := by decide +kernel
theorem dX9_init_13 : decode cX9_init 13 = .ok (.putfield 15, 3) := by decide +kernel
theorem dX9_init_16 : decode cX9_init 16 = .ok (.aload_n 0, 1) := by decide +kernel
theorem dX9_init_17 : decode cX9_init 17 = .ok (.iconst 4, 1) := by decide +kernel
theorem dX9_init_18 : decode cX9_init 18 = .ok (.newarray .int, 2) := by decide +kernel
theorem dX9_init_20 : decode cX9_init 20 = .ok (.putfield 19, 3) := by decide +kernel
theorem dX9_init_23 : decode cX9_init 23 = .ok (.return_, 1) := by decide +kernel
theorem dX9_look_0 : decode cX9_look 0 = .ok (.aload_n 0, 1) := by decide +kernel
theorem dX9_look_1 : decode cX9_look 1 = .ok (.iload_n 2, 1) := by decide +kernel
theorem dX9_look_2 : decode cX9_look 2 = .ok (.putfield 22, 3) := by decide +kernel
theorem dX9_look_5 : decode cX9_look 5 = .ok (.aload_n 0, 1) := by decide +kernel
theorem dX9_look_6 : decode cX9_look 6 = .ok (.iconst 0, 1) := by decide +kernel
theorem dX9_look_7 : decode cX9_look 7 = .ok (.putfield 26, 3) := by decide +kernel
theorem dX9_look_10 : decode cX9_look 10 = .ok (.aload_n 0, 1) := by decide +kernel
theorem dX9_look_11 : decode cX9_look 11 = .ok (.aload_n 1, 1) := by decide +kernel
theorem dX9_look_12 : decode cX9_look 12 = .ok (.iconst 0, 1) := by decide +kernel
theorem dX9_look_13 : decode cX9_look 13 = .ok (.aload_n 0, 1) := by decide +kernel
theorem dX9_look_14 : decode cX9_look 14 = .ok (.invokevirtual 30, 3) := by decide +kernel
theorem dX9_look_17 : decode cX9_look 17 = .ok (.iconst 0, 1) := by decide +kernel
theorem dX9_look_18 : decode cX9_look 18 = .ok (.invokestatic 34, 3) := by decide +kernel
theorem dX9_look_21 : decode cX9_look 21 = .ok (.aload_n 0, 1) := by decide +kernel
theorem dX9_look_22 : decode cX9_look 22 = .ok (.getfield 26, 3) := by decide +kernel
theorem dX9_look_25 : decode cX9_look 25 = .ok (.ireturn, 1) := by decide +kernel
theorem dX9_lengthen_0 : decode cX9_lengthen 0 = .ok (.iload_n 2, 1) := by decide +kernel
theorem dX9_lengthen_1 : decode cX9_lengthen 1 = .ok (.aload_n 0, 1) := by decide +kernel
theorem dX9_lengthen_2 : decode cX9_lengthen 2 = .ok (.getfield 22, 3) := by decide +kernel
theorem dX9_lengthen_5 : decode cX9_lengthen 5 = .ok (.if_icmp .ge 16, 3) := by decide +kernel
theorem dX9_lengthen_8 : decode cX9_lengthen 8 = .ok (.iload_n 2, 1) := by decide +kernel
theorem dX9_lengthen_9 : decode cX9_lengthen 9 = .ok (.ifCond .lt 12, 3) := by decide +kernel
theorem dX9_lengthen_12 : decode cX9_lengthen 12 = .ok (.iload_n 2, 1) := by decide +kernel
theorem dX9_lengthen_13 : decode cX9_lengthen 13 = .ok (.aload_n 0, 1) := by decide +kernel
theorem dX9_lengthen_14 : decode cX9_lengthen 14 = .ok (.getfield 15, 3) := by decide +kernel
theorem dX9_lengthen_17 : decode cX9_lengthen 17 = .ok (.arraylength, 1) := by decide +kernel
theorem dX9_lengthen_18 : decode cX9_lengthen 18 = .ok (.if_icmp .lt 10, 3) := by decide +kernel
theorem dX9_lengthen_21 : decode cX9_lengthen 21 = .ok (.aload_n 0, 1) := by decide +kernel
theorem dX9_lengthen_22 : decode cX9_lengthen 22 = .ok (.iload 4, 2) := by decide +kernel
theorem dX9_lengthen_24 : decode cX9_lengthen 24 = .ok (.invokevirtual 38, 3) := by decide +kernel
theorem dX9_lengthen_27 : decode cX9_lengthen 27 = .ok (.return_, 1) := by decide +kernel
theorem dX9_lengthen_28 : decode cX9_lengthen 28 = .ok (.iconst 0, 1) := by decide +kernel
theorem dX9_lengthen_29 : decode cX9_lengthen 29 = .ok (.istore 5, 2) := by decide +kernel
theorem dX9_lengthen_31 : decode cX9_lengthen 31 = .ok (.iload 5, 2) := by decide +kernel
theorem dX9_lengthen_33 : decode cX9_lengthen 33 = .ok (.aload_n 0, 1) := by decide +kernel
theorem dX9_lengthen_34 : decode cX9_lengthen 34 = .ok (.getfield 9, 3) := by decide +kernel
theorem dX9_lengthen_37 : decode cX9_lengthen 37 = .ok (.getfield 42, 3) := by decide +kernel
theorem dX9_lengthen_40 : decode cX9_lengthen 40 = .ok (.if_icmp .ge 69, 3) := by decide +kernel
theorem dX9_lengthen_43 : decode cX9_lengthen 43 = .ok (.aload_n 0, 1) := by decide +kernel
theorem dX9_lengthen_44 : decode cX9_lengthen 44 = .ok (.getfield 9, 3) := by decide +kernel
theorem dX9_lengthen_47 : decode cX9_lengthen 47 = .ok (.iload 5, 2) := by decide +kernel
theorem dX9_lengthen_49 : decode cX9_lengthen 49 = .ok (.invokevirtual 47, 3) := by decide +kernel
theorem dX9_lengthen_52 : decode cX9_lengthen 52 = .ok (.astore 6, 2) := by decide +kernel
theorem dX9_lengthen_54 : decode cX9_lengthen 54 = .ok (.aload 6, 2) := by decide +kernel
theorem dX9_lengthen_56 : decode cX9_lengthen 56 = .ok (.ifnull 47, 3) := by decide +kernel
theorem dX9_lengthen_59 : decode cX9_lengthen 59 = .ok (.iload_n 3, 1) := by decide +kernel
theorem dX9_lengthen_60 : decode cX9_lengthen 60 = .ok (.iload 5, 2) := by decide +kernel
theorem dX9_lengthen_62 : decode cX9_lengthen 62 = .ok (.ishr, 1) := by decide +kernel
theorem dX9_lengthen_63 : decode cX9_lengthen 63 = .ok (.iconst 1, 1) := by decide +kernel
theorem dX9_lengthen_64 : decode cX9_lengthen 64 = .ok (.iand, 1) := by decide +kernel
theorem dX9_lengthen_65 : decode cX9_lengthen 65 = .ok (.iconst 1, 1) := by decide +kernel
theorem dX9_lengthen_66 : decode cX9_lengthen 66 = .ok (.if_icmp .ne 37, 3) := by decide +kernel
theorem dX9_lengthen_69 : decode cX9_lengthen 69 = .ok (.aload_n 0, 1) := by decide +kernel
theorem dX9_lengthen_70 : decode cX9_lengthen 70 = .ok (.getfield 15, 3) := by decide +kernel
theorem dX9_lengthen_73 : decode cX9_lengthen 73 = .ok (.iload_n 2, 1) := by decide +kernel
theorem dX9_lengthen_74 : decode cX9_lengthen 74 = .ok (.iload 5, 2) := by decide +kernel
theorem dX9_lengthen_76 : decode cX9_lengthen 76 = .ok (.iastore, 1) := by decide +kernel
theorem dX9_lengthen_77 : decode cX9_lengthen 77 = .ok (.aload_n 0, 1) := by decide +kernel
theorem dX9_lengthen_78 : decode cX9_lengthen 78 = .ok (.aload 6, 2) := by decide +kernel
theorem dX9_lengthen_80 : decode cX9_lengthen 80 = .ok (.iload_n 2, 1) := by decide +kernel
theorem dX9_lengthen_81 : decode cX9_lengthen 81 = .ok (.iconst 1, 1) := by decide +kernel
theorem dX9_lengthen_82 : decode cX9_lengthen 82 = .ok (.iadd, 1) := by decide +kernel
theorem dX9_lengthen_83 : decode cX9_lengthen 83 = .ok (.iload_n 3, 1) := by decide +kernel
theorem dX9_lengthen_84 : decode cX9_lengthen 84 = .ok (.iconst 1, 1) := by decide +kernel
theorem dX9_lengthen_85 : decode cX9_lengthen 85 = .ok (.iload 5, 2) := by decide +kernel
theorem dX9_lengthen_87 : decode cX9_lengthen 87 = .ok (.ishl, 1) := by decide +kernel
theorem dX9_lengthen_88 : decode cX9_lengthen 88 = .ok (.iconst (-1), 1) := by decide +kernel
theorem dX9_lengthen_89 : decode cX9_lengthen 89 = .ok (.ixor, 1) := by decide +kernel
theorem dX9_lengthen_90 : decode cX9_lengthen 90 = .ok (.iand, 1) := by decide +kernel
theorem dX9_lengthen_91 : decode cX9_lengthen 91 = .ok (.iload 4, 2) := by decide +kernel
theorem dX9_lengthen_93 : decode cX9_lengthen 93 = .ok (.aload_n 1, 1) := by decide +kernel
theorem dX9_lengthen_94 : decode cX9_lengthen 94 = .ok (.aload 6, 2) := by decide +kernel
theorem dX9_lengthen_96 : decode cX9_lengthen 96 = .ok (.invokevirtual 51, 3) := by decide +kernel
theorem dX9_lengthen_99 : decode cX9_lengthen 99 = .ok (.iadd, 1) := by decide +kernel
theorem dX9_lengthen_100 : decode cX9_lengthen 100 = .ok (.invokestatic 34, 3) := by decide +kernel
theorem dX9_lengthen_103 : decode cX9_lengthen 103 = .ok (.iinc 5 1, 3) := by decide +kernel
theorem dX9_lengthen_106 : decode cX9_lengthen 106 = .ok (.goto (-75), 3) := by decide +kernel
theorem dX9_lengthen_109 : decode cX9_lengthen 109 = .ok (.return_, 1) := by decide +kernel
theorem dX9_wantedDiscs_0 : decode cX9_wantedDiscs 0 = .ok (.iconst 0, 1) := by decide +kernel
theorem dX9_wantedDiscs_1 : decode cX9_wantedDiscs 1 = .ok (.istore_n 1, 1) := by decide +kernel
theorem dX9_wantedDiscs_2 : decode cX9_wantedDiscs 2 = .ok (.iconst 0, 1) := by decide +kernel
theorem dX9_wantedDiscs_3 : decode cX9_wantedDiscs 3 = .ok (.istore_n 2, 1) := by decide +kernel
theorem dX9_wantedDiscs_4 : decode cX9_wantedDiscs 4 = .ok (.iload_n 2, 1) := by decide +kernel
theorem dX9_wantedDiscs_5 : decode cX9_wantedDiscs 5 = .ok (.aload_n 0, 1) := by decide +kernel
theorem dX9_wantedDiscs_6 : decode cX9_wantedDiscs 6 = .ok (.getfield 9, 3) := by decide +kernel
theorem dX9_wantedDiscs_9 : decode cX9_wantedDiscs 9 = .ok (.getfield 42, 3) := by decide +kernel
theorem dX9_wantedDiscs_12 : decode cX9_wantedDiscs 12 = .ok (.if_icmp .ge 55, 3) := by decide +kernel
theorem dX9_wantedDiscs_15 : decode cX9_wantedDiscs 15 = .ok (.aload_n 0, 1) := by decide +kernel
theorem dX9_wantedDiscs_16 : decode cX9_wantedDiscs 16 = .ok (.getfield 9, 3) := by decide +kernel
theorem dX9_wantedDiscs_19 : decode cX9_wantedDiscs 19 = .ok (.iload_n 2, 1) := by decide +kernel
theorem dX9_wantedDiscs_20 : decode cX9_wantedDiscs 20 = .ok (.invokevirtual 47, 3) := by decide +kernel
theorem dX9_wantedDiscs_23 : decode cX9_wantedDiscs 23 = .ok (.astore_n 3, 1) := by decide +kernel
theorem dX9_wantedDiscs_24 : decode cX9_wantedDiscs 24 = .ok (.aload_n 3, 1) := by decide +kernel
theorem dX9_wantedDiscs_25 : decode cX9_wantedDiscs 25 = .ok (.ifnull 36, 3) := by decide +kernel
theorem dX9_wantedDiscs_28 : decode cX9_wantedDiscs 28 = .ok (.aload_n 3, 1) := by decide +kernel
theorem dX9_wantedDiscs_29 : decode cX9_wantedDiscs 29 = .ok (.getfield 57, 3) := by decide +kernel
theorem dX9_wantedDiscs_32 : decode cX9_wantedDiscs 32 = .ok (.ifCond .ne 29, 3) := by decide +kernel
theorem dX9_wantedDiscs_35 : decode cX9_wantedDiscs 35 = .ok (.aload_n 3, 1) := by decide +kernel
theorem dX9_wantedDiscs_36 : decode cX9_wantedDiscs 36 = .ok (.invokevirtual 60, 3) := by decide +kernel
theorem dX9_wantedDiscs_39 : decode cX9_wantedDiscs 39 = .ok (.bipush 10, 2) := by decide +kernel
theorem dX9_wantedDiscs_41 : decode cX9_wantedDiscs 41 = .ok (.if_icmp .ge 20, 3) := by decide +kernel
theorem dX9_wantedDiscs_44 : decode cX9_wantedDiscs 44 = .ok (.aload_n 0, 1) := by decide +kernel
theorem dX9_wantedDiscs_45 : decode cX9_wantedDiscs 45 = .ok (.getfield 9, 3) := by decide +kernel
theorem dX9_wantedDiscs_48 : decode cX9_wantedDiscs 48 = .ok (.aload_n 3, 1) := by decide +kernel
theorem dX9_wantedDiscs_49 : decode cX9_wantedDiscs 49 = .ok (.invokevirtual 63, 3) := by decide +kernel
theorem dX9_wantedDiscs_52 : decode cX9_wantedDiscs 52 = .ok (.ifCond .ne 9, 3) := by decide +kernel
theorem dX9_wantedDiscs_55 : decode cX9_wantedDiscs 55 = .ok (.iload_n 1, 1) := by decide +kernel
theorem dX9_wantedDiscs_56 : decode cX9_wantedDiscs 56 = .ok (.iconst 1, 1) := by decide +kernel
theorem dX9_wantedDiscs_57 : decode cX9_wantedDiscs 57 = .ok (.iload_n 2, 1) := by decide +kernel
theorem dX9_wantedDiscs_58 : decode cX9_wantedDiscs 58 = .ok (.ishl, 1) := by decide +kernel
theorem dX9_wantedDiscs_59 : decode cX9_wantedDiscs 59 = .ok (.ior, 1) := by decide +kernel
theorem dX9_wantedDiscs_60 : decode cX9_wantedDiscs 60 = .ok (.istore_n 1, 1) := by decide +kernel
theorem dX9_wantedDiscs_61 : decode cX9_wantedDiscs 61 = .ok (.iinc 2 1, 3) := by decide +kernel
theorem dX9_wantedDiscs_64 : decode cX9_wantedDiscs 64 = .ok (.goto (-60), 3) := by decide +kernel
theorem dX9_wantedDiscs_67 : decode cX9_wantedDiscs 67 = .ok (.iload_n 1, 1) := by decide +kernel
theorem dX9_wantedDiscs_68 : decode cX9_wantedDiscs 68 = .ok (.ireturn, 1) := by decide +kernel
theorem dX9_keepIfCheaper_0 : decode cX9_keepIfCheaper 0 = .ok (.aload_n 0, 1) := by decide +kernel
theorem dX9_keepIfCheaper_1 : decode cX9_keepIfCheaper 1 = .ok (.getfield 26, 3) := by decide +kernel
theorem dX9_keepIfCheaper_4 : decode cX9_keepIfCheaper 4 = .ok (.ifCond .eq 12, 3) := by decide +kernel
theorem dX9_keepIfCheaper_7 : decode cX9_keepIfCheaper 7 = .ok (.iload_n 1, 1) := by decide +kernel
theorem dX9_keepIfCheaper_8 : decode cX9_keepIfCheaper 8 = .ok (.aload_n 0, 1) := by decide +kernel
theorem dX9_keepIfCheaper_9 : decode cX9_keepIfCheaper 9 = .ok (.getfield 67, 3) := by decide +kernel
theorem dX9_keepIfCheaper_12 : decode cX9_keepIfCheaper 12 = .ok (.if_icmp .lt 4, 3) := by decide +kernel
theorem dX9_keepIfCheaper_15 : decode cX9_keepIfCheaper 15 = .ok (.return_, 1) := by decide +kernel
theorem dX9_keepIfCheaper_16 : decode cX9_keepIfCheaper 16 = .ok (.aload_n 0, 1) := by decide +kernel
theorem dX9_keepIfCheaper_17 : decode cX9_keepIfCheaper 17 = .ok (.iconst 1, 1) := by decide +kernel
theorem dX9_keepIfCheaper_18 : decode cX9_keepIfCheaper 18 = .ok (.putfield 26, 3) := by decide +kernel
theorem dX9_keepIfCheaper_21 : decode cX9_keepIfCheaper 21 = .ok (.aload_n 0, 1) := by decide +kernel
theorem dX9_keepIfCheaper_22 : decode cX9_keepIfCheaper 22 = .ok (.iload_n 1, 1) := by decide +kernel
theorem dX9_keepIfCheaper_23 : decode cX9_keepIfCheaper 23 = .ok (.putfield 67, 3) := by decide +kernel
theorem dX9_keepIfCheaper_26 : decode cX9_keepIfCheaper 26 = .ok (.iconst 0, 1) := by decide +kernel
theorem dX9_keepIfCheaper_27 : decode cX9_keepIfCheaper 27 = .ok (.istore_n 2, 1) := by decide +kernel
theorem dX9_keepIfCheaper_28 : decode cX9_keepIfCheaper 28 = .ok (.iload_n 2, 1) := by decide +kernel
theorem dX9_keepIfCheaper_29 : decode cX9_keepIfCheaper 29 = .ok (.aload_n 0, 1) := by decide +kernel
theorem dX9_keepIfCheaper_30 : decode cX9_keepIfCheaper 30 = .ok (.getfield 15, 3) := by decide +kernel
theorem dX9_keepIfCheaper_33 : decode cX9_keepIfCheaper 33 = .ok (.arraylength, 1) := by decide +kernel
theorem dX9_keepIfCheaper_34 : decode cX9_keepIfCheaper 34 = .ok (.if_icmp .ge 30, 3) := by decide +kernel
theorem dX9_keepIfCheaper_37 : decode cX9_keepIfCheaper 37 = .ok (.iload_n 2, 1) := by decide +kernel
theorem dX9_keepIfCheaper_38 : decode cX9_keepIfCheaper 38 = .ok (.aload_n 0, 1) := by decide +kernel
theorem dX9_keepIfCheaper_39 : decode cX9_keepIfCheaper 39 = .ok (.getfield 19, 3) := by decide +kernel
theorem dX9_keepIfCheaper_42 : decode cX9_keepIfCheaper 42 = .ok (.arraylength, 1) := by decide +kernel
theorem dX9_keepIfCheaper_43 : decode cX9_keepIfCheaper 43 = .ok (.if_icmp .ge 21, 3) := by decide +kernel
theorem dX9_keepIfCheaper_46 : decode cX9_keepIfCheaper 46 = .ok (.aload_n 0, 1) := by decide +kernel
theorem dX9_keepIfCheaper_47 : decode cX9_keepIfCheaper 47 = .ok (.getfield 19, 3) := by decide +kernel
theorem dX9_keepIfCheaper_50 : decode cX9_keepIfCheaper 50 = .ok (.iload_n 2, 1) := by decide +kernel
theorem dX9_keepIfCheaper_51 : decode cX9_keepIfCheaper 51 = .ok (.aload_n 0, 1) := by decide +kernel
theorem dX9_keepIfCheaper_52 : decode cX9_keepIfCheaper 52 = .ok (.getfield 15, 3) := by decide +kernel
theorem dX9_keepIfCheaper_55 : decode cX9_keepIfCheaper 55 = .ok (.iload_n 2, 1) := by decide +kernel
theorem dX9_keepIfCheaper_56 : decode cX9_keepIfCheaper 56 = .ok (.iaload, 1) := by decide +kernel
theorem dX9_keepIfCheaper_57 : decode cX9_keepIfCheaper 57 = .ok (.iastore, 1) := by decide +kernel
theorem dX9_keepIfCheaper_58 : decode cX9_keepIfCheaper 58 = .ok (.iinc 2 1, 3) := by decide +kernel
theorem dX9_keepIfCheaper_61 : decode cX9_keepIfCheaper 61 = .ok (.goto (-33), 3) := by decide +kernel
theorem dX9_keepIfCheaper_64 : decode cX9_keepIfCheaper 64 = .ok (.return_, 1) := by decide +kernel
theorem dX9_firstOfRow_0 : decode cX9_firstOfRow 0 = .ok (.aload_n 0, 1) := by decide +kernel
theorem dX9_firstOfRow_1 : decode cX9_firstOfRow 1 = .ok (.getfield 19, 3) := by decide +kernel
theorem dX9_firstOfRow_4 : decode cX9_firstOfRow 4 = .ok (.arraylength, 1) := by decide +kernel
theorem dX9_firstOfRow_5 : decode cX9_firstOfRow 5 = .ok (.ifCond .le 12, 3) := by decide +kernel
theorem dX9_firstOfRow_8 : decode cX9_firstOfRow 8 = .ok (.aload_n 0, 1) := by decide +kernel
theorem dX9_firstOfRow_9 : decode cX9_firstOfRow 9 = .ok (.getfield 19, 3) := by decide +kernel
theorem dX9_firstOfRow_12 : decode cX9_firstOfRow 12 = .ok (.iconst 0, 1) := by decide +kernel
theorem dX9_firstOfRow_13 : decode cX9_firstOfRow 13 = .ok (.iaload, 1) := by decide +kernel
theorem dX9_firstOfRow_14 : decode cX9_firstOfRow 14 = .ok (.goto 4, 3) := by decide +kernel
theorem dX9_firstOfRow_17 : decode cX9_firstOfRow 17 = .ok (.iconst (-1), 1) := by decide +kernel
theorem dX9_firstOfRow_18 : decode cX9_firstOfRow 18 = .ok (.ireturn, 1) := by decide +kernel
theorem dX9_costOfRow_0 : decode cX9_costOfRow 0 = .ok (.iconst 0, 1) := by decide +kernel
theorem dX9_costOfRow_1 : decode cX9_costOfRow 1 = .ok (.istore_n 2, 1) := by decide +kernel
theorem dX9_costOfRow_2 : decode cX9_costOfRow 2 = .ok (.aload_n 1, 1) := by decide +kernel
theorem dX9_costOfRow_3 : decode cX9_costOfRow 3 = .ok (.astore_n 3, 1) := by decide +kernel
theorem dX9_costOfRow_4 : decode cX9_costOfRow 4 = .ok (.iconst 0, 1) := by decide +kernel
theorem dX9_costOfRow_5 : decode cX9_costOfRow 5 = .ok (.istore 4, 2) := by decide +kernel
theorem dX9_costOfRow_7 : decode cX9_costOfRow 7 = .ok (.iload 4, 2) := by decide +kernel
theorem dX9_costOfRow_9 : decode cX9_costOfRow 9 = .ok (.aload_n 0, 1) := by decide +kernel
theorem dX9_costOfRow_10 : decode cX9_costOfRow 10 = .ok (.getfield 22, 3) := by decide +kernel
theorem dX9_costOfRow_13 : decode cX9_costOfRow 13 = .ok (.if_icmp .ge 52, 3) := by decide +kernel
theorem dX9_costOfRow_16 : decode cX9_costOfRow 16 = .ok (.iload 4, 2) := by decide +kernel
theorem dX9_costOfRow_18 : decode cX9_costOfRow 18 = .ok (.aload_n 0, 1) := by decide +kernel
theorem dX9_costOfRow_19 : decode cX9_costOfRow 19 = .ok (.getfield 19, 3) := by decide +kernel
theorem dX9_costOfRow_22 : decode cX9_costOfRow 22 = .ok (.arraylength, 1) := by decide +kernel
theorem dX9_costOfRow_23 : decode cX9_costOfRow 23 = .ok (.if_icmp .ge 42, 3) := by decide +kernel
theorem dX9_costOfRow_26 : decode cX9_costOfRow 26 = .ok (.aload_n 0, 1) := by decide +kernel
theorem dX9_costOfRow_27 : decode cX9_costOfRow 27 = .ok (.getfield 9, 3) := by decide +kernel
theorem dX9_costOfRow_30 : decode cX9_costOfRow 30 = .ok (.aload_n 0, 1) := by decide +kernel
theorem dX9_costOfRow_31 : decode cX9_costOfRow 31 = .ok (.getfield 19, 3) := by decide +kernel
theorem dX9_costOfRow_34 : decode cX9_costOfRow 34 = .ok (.iload 4, 2) := by decide +kernel
theorem dX9_costOfRow_36 : decode cX9_costOfRow 36 = .ok (.iaload, 1) := by decide +kernel
theorem dX9_costOfRow_37 : decode cX9_costOfRow 37 = .ok (.invokevirtual 47, 3) := by decide +kernel
theorem dX9_costOfRow_40 : decode cX9_costOfRow 40 = .ok (.astore 5, 2) := by decide +kernel
theorem dX9_costOfRow_42 : decode cX9_costOfRow 42 = .ok (.aload 5, 2) := by decide +kernel
theorem dX9_costOfRow_44 : decode cX9_costOfRow 44 = .ok (.ifnull 15, 3) := by decide +kernel
theorem dX9_costOfRow_47 : decode cX9_costOfRow 47 = .ok (.iload_n 2, 1) := by decide +kernel
theorem dX9_costOfRow_48 : decode cX9_costOfRow 48 = .ok (.aload_n 3, 1) := by decide +kernel
theorem dX9_costOfRow_49 : decode cX9_costOfRow 49 = .ok (.aload 5, 2) := by decide +kernel
theorem dX9_costOfRow_51 : decode cX9_costOfRow 51 = .ok (.invokevirtual 51, 3) := by decide +kernel
theorem dX9_costOfRow_54 : decode cX9_costOfRow 54 = .ok (.iadd, 1) := by decide +kernel
theorem dX9_costOfRow_55 : decode cX9_costOfRow 55 = .ok (.istore_n 2, 1) := by decide +kernel
theorem dX9_costOfRow_56 : decode cX9_costOfRow 56 = .ok (.aload 5, 2) := by decide +kernel
theorem dX9_costOfRow_58 : decode cX9_costOfRow 58 = .ok (.astore_n 3, 1) := by decide +kernel
theorem dX9_costOfRow_59 : decode cX9_costOfRow 59 = .ok (.iinc 4 1, 3) := by decide +kernel
theorem dX9_costOfRow_62 : decode cX9_costOfRow 62 = .ok (.goto (-55), 3) := by decide +kernel
theorem dX9_costOfRow_65 : decode cX9_costOfRow 65 = .ok (.iload_n 2, 1) := by decide +kernel
theorem dX9_costOfRow_66 : decode cX9_costOfRow 66 = .ok (.ireturn, 1) := by decide +kernel
theorem dX10_init_0 : decode cX10_init 0 = .ok (.aload_n 0, 1) := by decide +kernel
theorem dX10_init_1 : decode cX10_init 1 = .ok (.invokespecial 1, 3) := by decide +kernel
theorem dX10_init_4 : decode cX10_init 4 = .ok (.aload_n 0, 1) := by decide +kernel
theorem dX10_init_5 : decode cX10_init 5 = .ok (.new 7, 3) := by decide +kernel
theorem dX10_init_8 : decode cX10_init 8 = .ok (.dup, 1) := by decide +kernel
theorem dX10_init_9 : decode cX10_init 9 = .ok (.invokespecial 9, 3) := by decide +kernel
theorem dX10_init_12 : decode cX10_init 12 = .ok (.putfield 10, 3) := by decide +kernel
theorem dX10_init_15 : decode cX10_init 15 = .ok (.aload_n 0, 1) := by decide +kernel
theorem dX10_init_16 : decode cX10_init 16 = .ok (.new 7, 3) := by decide +kernel
theorem dX10_init_19 : decode cX10_init 19 = .ok (.dup, 1) := by decide +kernel
theorem dX10_init_20 : decode cX10_init 20 = .ok (.invokespecial 9, 3) := by decide +kernel
theorem dX10_init_23 : decode cX10_init 23 = .ok (.putfield 16, 3) := by decide +kernel
theorem dX10_init_26 : decode cX10_init 26 = .ok (.aload_n 0, 1) := by decide +kernel
theorem dX10_init_27 : decode cX10_init 27 = .ok (.new 19, 3) := by decide +kernel
theorem dX10_init_30 : decode cX10_init 30 = .ok (.dup, 1) := by decide +kernel
theorem dX10_init_31 : decode cX10_init 31 = .ok (.invokespecial 21, 3) := by decide +kernel
theorem dX10_init_34 : decode cX10_init 34 = .ok (.putfield 22, 3) := by decide +kernel
theorem dX10_init_37 : decode cX10_init 37 = .ok (.aload_n 0, 1) := by decide +kernel
theorem dX10_init_38 : decode cX10_init 38 = .ok (.new 26, 3) := by decide +kernel
theorem dX10_init_41 : decode cX10_init 41 = .ok (.dup, 1) := by decide +kernel
theorem dX10_init_42 : decode cX10_init 42 = .ok (.invokespecial 28, 3) := by decide +kernel
theorem dX10_init_45 : decode cX10_init 45 = .ok (.putfield 29, 3) := by decide +kernel
theorem dX10_init_48 : decode cX10_init 48 = .ok (.aload_n 0, 1) := by decide +kernel
theorem dX10_init_49 : decode cX10_init 49 = .ok (.new 33, 3) := by decide +kernel
theorem dX10_init_52 : decode cX10_init 52 = .ok (.dup, 1) := by decide +kernel
theorem dX10_init_53 : decode cX10_init 53 = .ok (.aload_n 0, 1) := by decide +kernel
theorem dX10_init_54 : decode cX10_init 54 = .ok (.getfield 10, 3) := by decide +kernel
theorem dX10_init_57 : decode cX10_init 57 = .ok (.invokespecial 35, 3) := by decide +kernel
theorem dX10_init_60 : decode cX10_init 60 = .ok (.putfield 38, 3) := by decide +kernel
theorem dX10_init_63 : decode cX10_init 63 = .ok (.return_, 1) := by decide +kernel
theorem dX10_addRecord_0 : decode cX10_addRecord 0 = .ok (.iload_n 1, 1) := by decide +kernel
theorem dX10_addRecord_1 : decode cX10_addRecord 1 = .ok (.invokestatic 42, 3) := by decide +kernel
theorem dX10_addRecord_4 : decode cX10_addRecord 4 = .ok (.ifCond .eq 40, 3) := by decide +kernel
theorem dX10_addRecord_7 : decode cX10_addRecord 7 = .ok (.iload_n 2, 1) := by decide +kernel
theorem dX10_addRecord_8 : decode cX10_addRecord 8 = .ok (.bipush 16, 2) := by decide +kernel
theorem dX10_addRecord_10 : decode cX10_addRecord 10 = .ok (.sipush 999, 3) := by decide +kernel
theorem dX10_addRecord_13 : decode cX10_addRecord 13 = .ok (.invokestatic 46, 3) := by decide +kernel
theorem dX10_addRecord_16 : decode cX10_addRecord 16 = .ok (.ifCond .eq 28, 3) := by decide +kernel
theorem dX10_addRecord_19 : decode cX10_addRecord 19 = .ok (.iload_n 3, 1) := by decide +kernel
theorem dX10_addRecord_20 : decode cX10_addRecord 20 = .ok (.iconst 0, 1) := by decide +kernel
theorem dX10_addRecord_21 : decode cX10_addRecord 21 = .ok (.bipush 23, 2) := by decide +kernel
theorem dX10_addRecord_23 : decode cX10_addRecord 23 = .ok (.invokestatic 46, 3) := by decide +kernel
theorem dX10_addRecord_26 : decode cX10_addRecord 26 = .ok (.ifCond .eq 18, 3) := by decide +kernel
theorem dX10_addRecord_29 : decode cX10_addRecord 29 = .ok (.iload 4, 2) := by decide +kernel
theorem dX10_addRecord_31 : decode cX10_addRecord 31 = .ok (.iconst 0, 1) := by decide +kernel
theorem dX10_addRecord_32 : decode cX10_addRecord 32 = .ok (.bipush 9, 2) := by decide +kernel
theorem dX10_addRecord_34 : decode cX10_addRecord 34 = .ok (.invokestatic 46, 3) := by decide +kernel
theorem dX10_addRecord_37 : decode cX10_addRecord 37 = .ok (.ifCond .eq 7, 3) := by decide +kernel
theorem dX10_addRecord_40 : decode cX10_addRecord 40 = .ok (.iconst 1, 1) := by decide +kernel
theorem dX10_addRecord_41 : decode cX10_addRecord 41 = .ok (.goto 4, 3) := by decide +kernel
theorem dX10_addRecord_44 : decode cX10_addRecord 44 = .ok (.iconst 0, 1) := by decide +kernel
theorem dX10_addRecord_45 : decode cX10_addRecord 45 = .ok (.invokestatic 50, 3) := by decide +kernel
theorem dX10_addRecord_48 : decode cX10_addRecord 48 = .ok (.iload 5, 2) := by decide +kernel
theorem dX10_addRecord_50 : decode cX10_addRecord 50 = .ok (.bipush 8, 2) := by decide +kernel
theorem dX10_addRecord_52 : decode cX10_addRecord 52 = .ok (.if_icmp .eq 17, 3) := by decide +kernel
theorem dX10_addRecord_55 : decode cX10_addRecord 55 = .ok (.iload 5, 2) := by decide +kernel
theorem dX10_addRecord_57 : decode cX10_addRecord 57 = .ok (.bipush 16, 2) := by decide +kernel
theorem dX10_addRecord_59 : decode cX10_addRecord 59 = .ok (.if_icmp .eq 10, 3) := by decide +kernel
theorem dX10_addRecord_62 : decode cX10_addRecord 62 = .ok (.iload 5, 2) := by decide +kernel
theorem dX10_addRecord_64 : decode cX10_addRecord 64 = .ok (.bipush 32, 2) := by decide +kernel
theorem dX10_addRecord_66 : decode cX10_addRecord 66 = .ok (.if_icmp .ne 7, 3) := by decide +kernel
theorem dX10_addRecord_69 : decode cX10_addRecord 69 = .ok (.iconst 1, 1) := by decide +kernel
theorem dX10_addRecord_70 : decode cX10_addRecord 70 = .ok (.goto 4, 3) := by decide +kernel
theorem dX10_addRecord_73 : decode cX10_addRecord 73 = .ok (.iconst 0, 1) := by decide +kernel
theorem dX10_addRecord_74 : decode cX10_addRecord 74 = .ok (.invokestatic 50, 3) := by decide +kernel
theorem dX10_addRecord_77 : decode cX10_addRecord 77 = .ok (.iload 6, 2) := by decide +kernel
theorem dX10_addRecord_79 : decode cX10_addRecord 79 = .ok (.iconst 0, 1) := by decide +kernel
theorem dX10_addRecord_80 : decode cX10_addRecord 80 = .ok (.ldc 54, 2) := by decide +kernel
theorem dX10_addRecord_82 : decode cX10_addRecord 82 = .ok (.invokestatic 46, 3) := by decide +kernel
theorem dX10_addRecord_85 : decode cX10_addRecord 85 = .ok (.ifCond .eq 18, 3) := by decide +kernel
theorem dX10_addRecord_88 : decode cX10_addRecord 88 = .ok (.iload 7, 2) := by decide +kernel
theorem dX10_addRecord_90 : decode cX10_addRecord 90 = .ok (.iconst 0, 1) := by decide +kernel
theorem dX10_addRecord_91 : decode cX10_addRecord 91 = .ok (.ldc 54, 2) := by decide +kernel
theorem dX10_addRecord_93 : decode cX10_addRecord 93 = .ok (.invokestatic 46, 3) := by decide +kernel
theorem dX10_addRecord_96 : decode cX10_addRecord 96 = .ok (.ifCond .eq 7, 3) := by decide +kernel
theorem dX10_addRecord_99 : decode cX10_addRecord 99 = .ok (.iconst 1, 1) := by decide +kernel
theorem dX10_addRecord_100 : decode cX10_addRecord 100 = .ok (.goto 4, 3) := by decide +kernel
theorem dX10_addRecord_103 : decode cX10_addRecord 103 = .ok (.iconst 0, 1) := by decide +kernel
theorem dX10_addRecord_104 : decode cX10_addRecord 104 = .ok (.invokestatic 50, 3) := by decide +kernel
theorem dX10_addRecord_107 : decode cX10_addRecord 107 = .ok (.aload_n 0, 1) := by decide +kernel
theorem dX10_addRecord_108 : decode cX10_addRecord 108 = .ok (.getfield 10, 3) := by decide +kernel
theorem dX10_addRecord_111 : decode cX10_addRecord 111 = .ok (.getfield 55, 3) := by decide +kernel
theorem dX10_addRecord_114 : decode cX10_addRecord 114 = .ok (.aload_n 0, 1) := by decide +kernel
theorem dX10_addRecord_115 : decode cX10_addRecord 115 = .ok (.getfield 10, 3) := by decide +kernel
theorem dX10_addRecord_118 : decode cX10_addRecord 118 = .ok (.getfield 59, 3) := by decide +kernel
theorem dX10_addRecord_121 : decode cX10_addRecord 121 = .ok (.arraylength, 1) := by decide +kernel
theorem dX10_addRecord_122 : decode cX10_addRecord 122 = .ok (.if_icmp .lt 13, 3) := by decide +kernel
theorem dX10_addRecord_125 : decode cX10_addRecord 125 = .ok (.new 63, 3) := by decide +kernel
theorem dX10_addRecord_128 : decode cX10_addRecord 128 = .ok (.dup, 1) := by decide +kernel
theorem dX10_addRecord_129 : decode cX10_addRecord 129 = .ok (.ldc 65, 2) := by decide +kernel
theorem dX10_addRecord_131 : decode cX10_addRecord 131 = .ok (.invokespecial 67, 3) := by decide +kernel
theorem dX10_addRecord_134 : decode cX10_addRecord 134 = .ok (.athrow, 1) := by decide +kernel
theorem dX10_addRecord_135 : decode cX10_addRecord 135 = .ok (.aload_n 0, 1) := by decide +kernel
theorem dX10_addRecord_136 : decode cX10_addRecord 136 = .ok (.getfield 22, 3) := by decide +kernel
theorem dX10_addRecord_139 : decode cX10_addRecord 139 = .ok (.iconst 1, 1) := by decide +kernel
theorem dX10_addRecord_140 : decode cX10_addRecord 140 = .ok (.invokevirtual 70, 3) := by decide +kernel
theorem dX10_addRecord_143 : decode cX10_addRecord 143 = .ok (.aload_n 0, 1) := by decide +kernel
theorem dX10_addRecord_144 : decode cX10_addRecord 144 = .ok (.getfield 22, 3) := by decide +kernel
theorem dX10_addRecord_147 : decode cX10_addRecord 147 = .ok (.iload_n 1, 1) := by decide +kernel
theorem dX10_addRecord_148 : decode cX10_addRecord 148 = .ok (.invokevirtual 74, 3) := by decide +kernel
theorem dX10_addRecord_151 : decode cX10_addRecord 151 = .ok (.aload_n 0, 1) := by decide +kernel
theorem dX10_addRecord_152 : decode cX10_addRecord 152 = .ok (.getfield 22, 3) := by decide +kernel
theorem dX10_addRecord_155 : decode cX10_addRecord 155 = .ok (.iload_n 2, 1) := by decide +kernel
theorem dX10_addRecord_156 : decode cX10_addRecord 156 = .ok (.invokevirtual 74, 3) := by decide +kernel
theorem dX10_addRecord_159 : decode cX10_addRecord 159 = .ok (.aload_n 0, 1) := by decide +kernel
theorem dX10_addRecord_160 : decode cX10_addRecord 160 = .ok (.getfield 22, 3) := by decide +kernel
theorem dX10_addRecord_163 : decode cX10_addRecord 163 = .ok (.iload_n 3, 1) := by decide +kernel
theorem dX10_addRecord_164 : decode cX10_addRecord 164 = .ok (.invokevirtual 74, 3) := by decide +kernel
theorem dX10_addRecord_167 : decode cX10_addRecord 167 = .ok (.aload_n 0, 1) := by decide +kernel
theorem dX10_addRecord_168 : decode cX10_addRecord 168 = .ok (.getfield 22, 3) := by decide +kernel
theorem dX10_addRecord_171 : decode cX10_addRecord 171 = .ok (.iload 4, 2) := by decide +kernel
theorem dX10_addRecord_173 : decode cX10_addRecord 173 = .ok (.invokevirtual 74, 3) := by decide +kernel
theorem dX10_addRecord_176 : decode cX10_addRecord 176 = .ok (.aload_n 0, 1) := by decide +kernel
theorem dX10_addRecord_177 : decode cX10_addRecord 177 = .ok (.getfield 22, 3) := by decide +kernel
theorem dX10_addRecord_180 : decode cX10_addRecord 180 = .ok (.iload 5, 2) := by decide +kernel
theorem dX10_addRecord_182 : decode cX10_addRecord 182 = .ok (.invokevirtual 74, 3) := by decide +kernel
theorem dX10_addRecord_185 : decode cX10_addRecord 185 = .ok (.aload_n 0, 1) := by decide +kernel
theorem dX10_addRecord_186 : decode cX10_addRecord 186 = .ok (.getfield 22, 3) := by decide +kernel
theorem dX10_addRecord_189 : decode cX10_addRecord 189 = .ok (.iload 6, 2) := by decide +kernel
theorem dX10_addRecord_191 : decode cX10_addRecord 191 = .ok (.invokevirtual 74, 3) := by decide +kernel
theorem dX10_addRecord_194 : decode cX10_addRecord 194 = .ok (.aload_n 0, 1) := by decide +kernel
theorem dX10_addRecord_195 : decode cX10_addRecord 195 = .ok (.getfield 22, 3) := by decide +kernel
theorem dX10_addRecord_198 : decode cX10_addRecord 198 = .ok (.iload 7, 2) := by decide +kernel
theorem dX10_addRecord_200 : decode cX10_addRecord 200 = .ok (.invokevirtual 74, 3) := by decide +kernel
theorem dX10_addRecord_203 : decode cX10_addRecord 203 = .ok (.aload_n 0, 1) := by decide +kernel
theorem dX10_addRecord_204 : decode cX10_addRecord 204 = .ok (.getfield 10, 3) := by decide +kernel
theorem dX10_addRecord_207 : decode cX10_addRecord 207 = .ok (.iload_n 1, 1) := by decide +kernel
theorem dX10_addRecord_208 : decode cX10_addRecord 208 = .ok (.iload_n 2, 1) := by decide +kernel
theorem dX10_addRecord_209 : decode cX10_addRecord 209 = .ok (.iload_n 3, 1) := by decide +kernel
theorem dX10_addRecord_210 : decode cX10_addRecord 210 = .ok (.iload 4, 2) := by decide +kernel
theorem dX10_addRecord_212 : decode cX10_addRecord 212 = .ok (.iload 5, 2) := by decide +kernel
theorem dX10_addRecord_214 : decode cX10_addRecord 214 = .ok (.iload 6, 2) := by decide +kernel
theorem dX10_addRecord_216 : decode cX10_addRecord 216 = .ok (.iload 7, 2) := by decide +kernel
theorem dX10_addRecord_218 : decode cX10_addRecord 218 = .ok (.invokevirtual 77, 3) := by decide +kernel
theorem dX10_addRecord_221 : decode cX10_addRecord 221 = .ok (.ireturn, 1) := by decide +kernel
theorem dX10_correct_0 : decode cX10_correct 0 = .ok (.aload_n 0, 1) := by decide +kernel
theorem dX10_correct_1 : decode cX10_correct 1 = .ok (.iload_n 1, 1) := by decide +kernel
theorem dX10_correct_2 : decode cX10_correct 2 = .ok (.invokevirtual 81, 3) := by decide +kernel
theorem dX10_correct_5 : decode cX10_correct 5 = .ok (.astore_n 3, 1) := by decide +kernel
theorem dX10_correct_6 : decode cX10_correct 6 = .ok (.iload_n 2, 1) := by decide +kernel
theorem dX10_correct_7 : decode cX10_correct 7 = .ok (.invokestatic 42, 3) := by decide +kernel
theorem dX10_correct_10 : decode cX10_correct 10 = .ok (.invokestatic 50, 3) := by decide +kernel
theorem dX10_correct_13 : decode cX10_correct 13 = .ok (.aload_n 0, 1) := by decide +kernel
theorem dX10_correct_14 : decode cX10_correct 14 = .ok (.getfield 10, 3) := by decide +kernel
theorem dX10_correct_17 : decode cX10_correct 17 = .ok (.aload_n 3, 1) := by decide +kernel
theorem dX10_correct_18 : decode cX10_correct 18 = .ok (.invokevirtual 85, 3) := by decide +kernel
theorem dX10_correct_21 : decode cX10_correct 21 = .ok (.ifCond .eq 13, 3) := by decide +kernel
theorem dX10_correct_24 : decode cX10_correct 24 = .ok (.new 89, 3) := by decide +kernel
theorem dX10_correct_27 : decode cX10_correct 27 = .ok (.dup, 1) := by decide +kernel
theorem dX10_correct_28 : decode cX10_correct 28 = .ok (.ldc 91, 2) := by decide +kernel
theorem dX10_correct_30 : decode cX10_correct 30 = .ok (.invokespecial 93, 3) := by decide +kernel
theorem dX10_correct_33 : decode cX10_correct 33 = .ok (.athrow, 1) := by decide +kernel
theorem dX10_correct_34 : decode cX10_correct 34 = .ok (.aload_n 0, 1) := by decide +kernel
theorem dX10_correct_35 : decode cX10_correct 35 = .ok (.getfield 22, 3) := by decide +kernel
theorem dX10_correct_38 : decode cX10_correct 38 = .ok (.iconst 2, 1) := by decide +kernel
theorem dX10_correct_39 : decode cX10_correct 39 = .ok (.iload_n 1, 1) := by decide +kernel
theorem dX10_correct_40 : decode cX10_correct 40 = .ok (.iload_n 2, 1) := by decide +kernel
theorem dX10_correct_41 : decode cX10_correct 41 = .ok (.iconst 0, 1) := by decide +kernel
theorem dX10_correct_42 : decode cX10_correct 42 = .ok (.invokevirtual 94, 3) := by decide +kernel
theorem dX10_correct_45 : decode cX10_correct 45 = .ok (.aload_n 3, 1) := by decide +kernel
theorem dX10_correct_46 : decode cX10_correct 46 = .ok (.iload_n 2, 1) := by decide +kernel
theorem dX10_correct_47 : decode cX10_correct 47 = .ok (.invokevirtual 98, 3) := by decide +kernel
theorem dX10_correct_50 : decode cX10_correct 50 = .ok (.ireturn, 1) := by decide +kernel
theorem dX10_apart_0 : decode cX10_apart 0 = .ok (.aload_n 0, 1) := by decide +kernel
theorem dX10_apart_1 : decode cX10_apart 1 = .ok (.iload_n 1, 1) := by decide +kernel
theorem dX10_apart_2 : decode cX10_apart 2 = .ok (.invokevirtual 81, 3) := by decide +kernel
theorem dX10_apart_5 : decode cX10_apart 5 = .ok (.astore_n 3, 1) := by decide +kernel
theorem dX10_apart_6 : decode cX10_apart 6 = .ok (.aload_n 3, 1) := by decide +kernel
theorem dX10_apart_7 : decode cX10_apart 7 = .ok (.getfield 104, 3) := by decide +kernel
theorem dX10_apart_10 : decode cX10_apart 10 = .ok (.aload_n 0, 1) := by decide +kernel
theorem dX10_apart_11 : decode cX10_apart 11 = .ok (.iload_n 2, 1) := by decide +kernel
theorem dX10_apart_12 : decode cX10_apart 12 = .ok (.invokevirtual 81, 3) := by decide +kernel
theorem dX10_apart_15 : decode cX10_apart 15 = .ok (.getfield 104, 3) := by decide +kernel
theorem dX10_apart_18 : decode cX10_apart 18 = .ok (.invokestatic 107, 3) := by decide +kernel
theorem dX10_apart_21 : decode cX10_apart 21 = .ok (.ireturn, 1) := by decide +kernel
theorem dX10_ban_0 : decode cX10_ban 0 = .ok (.aload_n 0, 1) := by decide +kernel
theorem dX10_ban_1 : decode cX10_ban 1 = .ok (.iload_n 1, 1) := by decide +kernel
theorem dX10_ban_2 : decode cX10_ban 2 = .ok (.invokevirtual 81, 3) := by decide +kernel
theorem dX10_ban_5 : decode cX10_ban 5 = .ok (.astore_n 3, 1) := by decide +kernel
theorem dX10_ban_6 : decode cX10_ban 6 = .ok (.aload_n 0, 1) := by decide +kernel
theorem dX10_ban_7 : decode cX10_ban 7 = .ok (.getfield 22, 3) := by decide +kernel
theorem dX10_ban_10 : decode cX10_ban 10 = .ok (.iconst 3, 1) := by decide +kernel
theorem dX10_ban_11 : decode cX10_ban 11 = .ok (.iload_n 1, 1) := by decide +kernel
theorem dX10_ban_12 : decode cX10_ban 12 = .ok (.iload_n 2, 1) := by decide +kernel
theorem dX10_ban_13 : decode cX10_ban 13 = .ok (.ifCond .eq 7, 3) := by decide +kernel
theorem dX10_ban_16 : decode cX10_ban 16 = .ok (.iconst 1, 1) := by decide +kernel
theorem dX10_ban_17 : decode cX10_ban 17 = .ok (.goto 4, 3) := by decide +kernel
theorem dX10_ban_20 : decode cX10_ban 20 = .ok (.iconst 0, 1) := by decide +kernel
theorem dX10_ban_21 : decode cX10_ban 21 = .ok (.iconst 0, 1) := by decide +kernel
theorem dX10_ban_22 : decode cX10_ban 22 = .ok (.invokevirtual 94, 3) := by decide +kernel
theorem dX10_ban_25 : decode cX10_ban 25 = .ok (.aload_n 3, 1) := by decide +kernel
theorem dX10_ban_26 : decode cX10_ban 26 = .ok (.iload_n 2, 1) := by decide +kernel
theorem dX10_ban_27 : decode cX10_ban 27 = .ok (.invokevirtual 111, 3) := by decide +kernel
theorem dX10_ban_30 : decode cX10_ban 30 = .ok (.ireturn, 1) := by decide +kernel
theorem dX10_request_0 : decode cX10_request 0 = .ok (.aload_n 0, 1) := by decide +kernel
theorem dX10_request_1 : decode cX10_request 1 = .ok (.iload_n 1, 1) := by decide +kernel
theorem dX10_request_2 : decode cX10_request 2 = .ok (.invokevirtual 81, 3) := by decide +kernel
theorem dX10_request_5 : decode cX10_request 5 = .ok (.astore_n 2, 1) := by decide +kernel
theorem dX10_request_6 : decode cX10_request 6 = .ok (.aload_n 0, 1) := by decide +kernel
theorem dX10_request_7 : decode cX10_request 7 = .ok (.getfield 22, 3) := by decide +kernel
theorem dX10_request_10 : decode cX10_request 10 = .ok (.iconst 4, 1) := by decide +kernel
theorem dX10_request_11 : decode cX10_request 11 = .ok (.iload_n 1, 1) := by decide +kernel
theorem dX10_request_12 : decode cX10_request 12 = .ok (.iconst 0, 1) := by decide +kernel
theorem dX10_request_13 : decode cX10_request 13 = .ok (.iconst 0, 1) := by decide +kernel
theorem dX10_request_14 : decode cX10_request 14 = .ok (.invokevirtual 94, 3) := by decide +kernel
theorem dX10_request_17 : decode cX10_request 17 = .ok (.aload_n 2, 1) := by decide +kernel
theorem dX10_request_18 : decode cX10_request 18 = .ok (.invokevirtual 115, 3) := by decide +kernel
theorem dX10_request_21 : decode cX10_request 21 = .ok (.ireturn, 1) := by decide +kernel
theorem dX10_load_0 : decode cX10_load 0 = .ok (.aload_n 0, 1) := by decide +kernel
theorem dX10_load_1 : decode cX10_load 1 = .ok (.iload_n 1, 1) := by decide +kernel
theorem dX10_load_2 : decode cX10_load 2 = .ok (.invokevirtual 119, 3) := by decide +kernel
theorem dX10_load_5 : decode cX10_load 5 = .ok (.astore_n 3, 1) := by decide +kernel
theorem dX10_load_6 : decode cX10_load 6 = .ok (.aload_n 0, 1) := by decide +kernel
theorem dX10_load_7 : decode cX10_load 7 = .ok (.iload_n 2, 1) := by decide +kernel
theorem dX10_load_8 : decode cX10_load 8 = .ok (.invokevirtual 81, 3) := by decide +kernel
theorem dX10_load_11 : decode cX10_load 11 = .ok (.astore 4, 2) := by decide +kernel
theorem dX10_load_13 : decode cX10_load 13 = .ok (.aload_n 3, 1) := by decide +kernel
theorem dX10_load_14 : decode cX10_load 14 = .ok (.getfield 123, 3) := by decide +kernel
theorem dX10_load_17 : decode cX10_load 17 = .ok (.ifCond .eq 13, 3) := by decide +kernel
theorem dX10_load_20 : decode cX10_load 20 = .ok (.new 89, 3) := by decide +kernel
theorem dX10_load_23 : decode cX10_load 23 = .ok (.dup, 1) := by decide +kernel
theorem dX10_load_24 : decode cX10_load 24 = .ok (.ldc 129, 2) := by decide +kernel
theorem dX10_load_26 : decode cX10_load 26 = .ok (.invokespecial 93, 3) := by decide +kernel
theorem dX10_load_29 : decode cX10_load 29 = .ok (.athrow, 1) := by decide +kernel
theorem dX10_load_30 : decode cX10_load 30 = .ok (.aload_n 0, 1) := by decide +kernel
theorem dX10_load_31 : decode cX10_load 31 = .ok (.getfield 22, 3) := by decide +kernel
theorem dX10_load_34 : decode cX10_load 34 = .ok (.iconst 5, 1) := by decide +kernel
theorem dX10_load_35 : decode cX10_load 35 = .ok (.iload_n 1, 1) := by decide +kernel
theorem dX10_load_36 : decode cX10_load 36 = .ok (.iload_n 2, 1) := by decide +kernel
theorem dX10_load_37 : decode cX10_load 37 = .ok (.iconst 0, 1) := by decide +kernel
theorem dX10_load_38 : decode cX10_load 38 = .ok (.invokevirtual 94, 3) := by decide +kernel
theorem dX10_load_41 : decode cX10_load 41 = .ok (.aload_n 3, 1) := by decide +kernel
theorem dX10_load_42 : decode cX10_load 42 = .ok (.aload 4, 2) := by decide +kernel
theorem dX10_load_44 : decode cX10_load 44 = .ok (.invokevirtual 131, 3) := by decide +kernel
theorem dX10_load_47 : decode cX10_load 47 = .ok (.ireturn, 1) := by decide +kernel
theorem dX10_play_0 : decode cX10_play 0 = .ok (.aload_n 0, 1) := by decide +kernel
theorem dX10_play_1 : decode cX10_play 1 = .ok (.iload_n 1, 1) := by decide +kernel
theorem dX10_play_2 : decode cX10_play 2 = .ok (.invokevirtual 119, 3) := by decide +kernel
theorem dX10_play_5 : decode cX10_play 5 = .ok (.astore_n 2, 1) := by decide +kernel
theorem dX10_play_6 : decode cX10_play 6 = .ok (.aload_n 2, 1) := by decide +kernel
theorem dX10_play_7 : decode cX10_play 7 = .ok (.invokestatic 135, 3) := by decide +kernel
theorem dX10_play_10 : decode cX10_play 10 = .ok (.aload_n 0, 1) := by decide +kernel
theorem dX10_play_11 : decode cX10_play 11 = .ok (.getfield 22, 3) := by decide +kernel
theorem dX10_play_14 : decode cX10_play 14 = .ok (.bipush 6, 2) := by decide +kernel
theorem dX10_play_16 : decode cX10_play 16 = .ok (.iload_n 1, 1) := by decide +kernel
theorem dX10_play_17 : decode cX10_play 17 = .ok (.iconst 0, 1) := by decide +kernel
theorem dX10_play_18 : decode cX10_play 18 = .ok (.iconst 0, 1) := by decide +kernel
theorem dX10_play_19 : decode cX10_play 19 = .ok (.invokevirtual 94, 3) := by decide +kernel
theorem dX10_play_22 : decode cX10_play 22 = .ok (.aload_n 2, 1) := by decide +kernel
theorem dX10_play_23 : decode cX10_play 23 = .ok (.invokevirtual 139, 3) := by decide +kernel
theorem dX10_play_26 : decode cX10_play 26 = .ok (.ireturn, 1) := by decide +kernel
theorem dX10_stop_0 : decode cX10_stop 0 = .ok (.aload_n 0, 1) := by decide +kernel
theorem dX10_stop_1 : decode cX10_stop 1 = .ok (.iload_n 1, 1) := by decide +kernel
theorem dX10_stop_2 : decode cX10_stop 2 = .ok (.invokevirtual 119, 3) := by decide +kernel
theorem dX10_stop_5 : decode cX10_stop 5 = .ok (.astore_n 2, 1) := by decide +kernel
theorem dX10_stop_6 : decode cX10_stop 6 = .ok (.aload_n 0, 1) := by decide +kernel
theorem dX10_stop_7 : decode cX10_stop 7 = .ok (.getfield 22, 3) := by decide +kernel
theorem dX10_stop_10 : decode cX10_stop 10 = .ok (.bipush 7, 2) := by decide +kernel
theorem dX10_stop_12 : decode cX10_stop 12 = .ok (.iload_n 1, 1) := by decide +kernel
theorem dX10_stop_13 : decode cX10_stop 13 = .ok (.iconst 0, 1) := by decide +kernel
theorem dX10_stop_14 : decode cX10_stop 14 = .ok (.iconst 0, 1) := by decide +kernel
theorem dX10_stop_15 : decode cX10_stop 15 = .ok (.invokevirtual 94, 3) := by decide +kernel
theorem dX10_stop_18 : decode cX10_stop 18 = .ok (.aload_n 2, 1) := by decide +kernel
theorem dX10_stop_19 : decode cX10_stop 19 = .ok (.invokevirtual 142, 3) := by decide +kernel
theorem dX10_stop_22 : decode cX10_stop 22 = .ok (.ireturn, 1) := by decide +kernel
theorem dX10_setPitch_0 : decode cX10_setPitch 0 = .ok (.aload_n 0, 1) := by decide +kernel
theorem dX10_setPitch_1 : decode cX10_setPitch 1 = .ok (.iload_n 1, 1) := by decide +kernel
theorem dX10_setPitch_2 : decode cX10_setPitch 2 = .ok (.invokevirtual 119, 3) := by decide +kernel
theorem dX10_setPitch_5 : decode cX10_setPitch 5 = .ok (.astore_n 3, 1) := by decide +kernel
theorem dX10_setPitch_6 : decode cX10_setPitch 6 = .ok (.iload_n 2, 1) := by decide +kernel
theorem dX10_setPitch_7 : decode cX10_setPitch 7 = .ok (.sipush (-160), 3) := by decide +kernel
theorem dX10_setPitch_10 : decode cX10_setPitch 10 = .ok (.sipush 160, 3) := by decide +kernel
theorem dX10_setPitch_13 : decode cX10_setPitch 13 = .ok (.invokestatic 46, 3) := by decide +kernel
theorem dX10_setPitch_16 : decode cX10_setPitch 16 = .ok (.invokestatic 50, 3) := by decide +kernel
theorem dX10_setPitch_19 : decode cX10_setPitch 19 = .ok (.aload_n 0, 1) := by decide +kernel
theorem dX10_setPitch_20 : decode cX10_setPitch 20 = .ok (.getfield 22, 3) := by decide +kernel
theorem dX10_setPitch_23 : decode cX10_setPitch 23 = .ok (.bipush 8, 2) := by decide +kernel
theorem dX10_setPitch_25 : decode cX10_setPitch 25 = .ok (.iload_n 1, 1) := by decide +kernel
theorem dX10_setPitch_26 : decode cX10_setPitch 26 = .ok (.iload_n 2, 1) := by decide +kernel
theorem dX10_setPitch_27 : decode cX10_setPitch 27 = .ok (.iconst 0, 1) := by decide +kernel
theorem dX10_setPitch_28 : decode cX10_setPitch 28 = .ok (.invokevirtual 94, 3) := by decide +kernel
theorem dX10_setPitch_31 : decode cX10_setPitch 31 = .ok (.aload_n 3, 1) := by decide +kernel
theorem dX10_setPitch_32 : decode cX10_setPitch 32 = .ok (.iload_n 2, 1) := by decide +kernel
theorem dX10_setPitch_33 : decode cX10_setPitch 33 = .ok (.invokevirtual 145, 3) := by decide +kernel
theorem dX10_setPitch_36 : decode cX10_setPitch 36 = .ok (.ireturn, 1) := by decide +kernel
theorem dX10_nudge_0 : decode cX10_nudge 0 = .ok (.aload_n 0, 1) := by decide +kernel
theorem dX10_nudge_1 : decode cX10_nudge 1 = .ok (.iload_n 1, 1) := by decide +kernel
theorem dX10_nudge_2 : decode cX10_nudge 2 = .ok (.invokevirtual 119, 3) := by decide +kernel
theorem dX10_nudge_5 : decode cX10_nudge 5 = .ok (.astore_n 3, 1) := by decide +kernel
theorem dX10_nudge_6 : decode cX10_nudge 6 = .ok (.iload_n 2, 1) := by decide +kernel
theorem dX10_nudge_7 : decode cX10_nudge 7 = .ok (.sipush (-200), 3) := by decide +kernel
theorem dX10_nudge_10 : decode cX10_nudge 10 = .ok (.sipush 200, 3) := by decide +kernel
theorem dX10_nudge_13 : decode cX10_nudge 13 = .ok (.invokestatic 46, 3) := by decide +kernel
theorem dX10_nudge_16 : decode cX10_nudge 16 = .ok (.invokestatic 50, 3) := by decide +kernel
theorem dX10_nudge_19 : decode cX10_nudge 19 = .ok (.aload_n 3, 1) := by decide +kernel
theorem dX10_nudge_20 : decode cX10_nudge 20 = .ok (.invokestatic 135, 3) := by decide +kernel
theorem dX10_nudge_23 : decode cX10_nudge 23 = .ok (.aload_n 0, 1) := by decide +kernel
theorem dX10_nudge_24 : decode cX10_nudge 24 = .ok (.getfield 22, 3) := by decide +kernel
theorem dX10_nudge_27 : decode cX10_nudge 27 = .ok (.bipush 9, 2) := by decide +kernel
theorem dX10_nudge_29 : decode cX10_nudge 29 = .ok (.iload_n 1, 1) := by decide +kernel
theorem dX10_nudge_30 : decode cX10_nudge 30 = .ok (.iload_n 2, 1) := by decide +kernel
theorem dX10_nudge_31 : decode cX10_nudge 31 = .ok (.iconst 0, 1) := by decide +kernel
theorem dX10_nudge_32 : decode cX10_nudge 32 = .ok (.invokevirtual 94, 3) := by decide +kernel
theorem dX10_nudge_35 : decode cX10_nudge 35 = .ok (.aload_n 3, 1) := by decide +kernel
theorem dX10_nudge_36 : decode cX10_nudge 36 = .ok (.iload_n 2, 1) := by decide +kernel
theorem dX10_nudge_37 : decode cX10_nudge 37 = .ok (.invokevirtual 148, 3) := by decide +kernel
theorem dX10_nudge_40 : decode cX10_nudge 40 = .ok (.ireturn, 1) := by decide +kernel
theorem dX10_brake_0 : decode cX10_brake 0 = .ok (.aload_n 0, 1) := by decide +kernel
theorem dX10_brake_1 : decode cX10_brake 1 = .ok (.iload_n 1, 1) := by decide +kernel
theorem dX10_brake_2 : decode cX10_brake 2 = .ok (.invokevirtual 119, 3) := by decide +kernel
theorem dX10_brake_5 : decode cX10_brake 5 = .ok (.astore_n 2, 1) := by decide +kernel
theorem dX10_brake_6 : decode cX10_brake 6 = .ok (.aload_n 2, 1) := by decide +kernel
theorem dX10_brake_7 : decode cX10_brake 7 = .ok (.invokestatic 135, 3) := by decide +kernel
theorem dX10_brake_10 : decode cX10_brake 10 = .ok (.aload_n 0, 1) := by decide +kernel
theorem dX10_brake_11 : decode cX10_brake 11 = .ok (.getfield 22, 3) := by decide +kernel
theorem dX10_brake_14 : decode cX10_brake 14 = .ok (.bipush 10, 2) := by decide +kernel
theorem dX10_brake_16 : decode cX10_brake 16 = .ok (.iload_n 1, 1) := by decide +kernel
theorem dX10_brake_17 : decode cX10_brake 17 = .ok (.iconst 0, 1) := by decide +kernel
theorem dX10_brake_18 : decode cX10_brake 18 = .ok (.iconst 0, 1) := by decide +kernel
theorem dX10_brake_19 : decode cX10_brake 19 = .ok (.invokevirtual 94, 3) := by decide +kernel
theorem dX10_brake_22 : decode cX10_brake 22 = .ok (.aload_n 2, 1) := by decide +kernel
theorem dX10_brake_23 : decode cX10_brake 23 = .ok (.invokevirtual 151, 3) := by decide +kernel
theorem dX10_brake_26 : decode cX10_brake 26 = .ok (.ireturn, 1) := by decide +kernel
theorem dX10_jump_0 : decode cX10_jump 0 = .ok (.aload_n 0, 1) := by decide +kernel
theorem dX10_jump_1 : decode cX10_jump 1 = .ok (.iload_n 1, 1) := by decide +kernel
theorem dX10_jump_2 : decode cX10_jump 2 = .ok (.invokevirtual 119, 3) := by decide +kernel
theorem dX10_jump_5 : decode cX10_jump 5 = .ok (.astore_n 3, 1) := by decide +kernel
theorem dX10_jump_6 : decode cX10_jump 6 = .ok (.aload_n 3, 1) := by decide +kernel
theorem dX10_jump_7 : decode cX10_jump 7 = .ok (.invokestatic 135, 3) := by decide +kernel
theorem dX10_jump_10 : decode cX10_jump 10 = .ok (.aload_n 3, 1) := by decide +kernel
theorem dX10_jump_11 : decode cX10_jump 11 = .ok (.iload_n 2, 1) := by decide +kernel
theorem dX10_jump_12 : decode cX10_jump 12 = .ok (.invokevirtual 154, 3) := by decide +kernel
theorem dX10_jump_15 : decode cX10_jump 15 = .ok (.invokestatic 50, 3) := by decide +kernel
theorem dX10_jump_18 : decode cX10_jump 18 = .ok (.aload_n 0, 1) := by decide +kernel
theorem dX10_jump_19 : decode cX10_jump 19 = .ok (.getfield 22, 3) := by decide +kernel
theorem dX10_jump_22 : decode cX10_jump 22 = .ok (.bipush 11, 2) := by decide +kernel
theorem dX10_jump_24 : decode cX10_jump 24 = .ok (.iload_n 1, 1) := by decide +kernel
theorem dX10_jump_25 : decode cX10_jump 25 = .ok (.iload_n 2, 1) := by decide +kernel
theorem dX10_jump_26 : decode cX10_jump 26 = .ok (.iconst 0, 1) := by decide +kernel
theorem dX10_jump_27 : decode cX10_jump 27 = .ok (.invokevirtual 94, 3) := by decide +kernel
theorem dX10_jump_30 : decode cX10_jump 30 = .ok (.aload_n 3, 1) := by decide +kernel
theorem dX10_jump_31 : decode cX10_jump 31 = .ok (.iload_n 2, 1) := by decide +kernel
theorem dX10_jump_32 : decode cX10_jump 32 = .ok (.invokevirtual 157, 3) := by decide +kernel
theorem dX10_jump_35 : decode cX10_jump 35 = .ok (.ireturn, 1) := by decide +kernel
theorem dX10_setCue_0 : decode cX10_setCue 0 = .ok (.aload_n 0, 1) := by decide +kernel
theorem dX10_setCue_1 : decode cX10_setCue 1 = .ok (.iload_n 1, 1) := by decide +kernel
theorem dX10_setCue_2 : decode cX10_setCue 2 = .ok (.invokevirtual 119, 3) := by decide +kernel
theorem dX10_setCue_5 : decode cX10_setCue 5 = .ok (.astore_n 3, 1) := by decide +kernel
theorem dX10_setCue_6 : decode cX10_setCue 6 = .ok (.iload_n 2, 1) := by decide +kernel
theorem dX10_setCue_7 : decode cX10_setCue 7 = .ok (.iconst 0, 1) := by decide +kernel
theorem dX10_setCue_8 : decode cX10_setCue 8 = .ok (.iconst 3, 1) := by decide +kernel
theorem dX10_setCue_9 : decode cX10_setCue 9 = .ok (.invokestatic 46, 3) := by decide +kernel
theorem dX10_setCue_12 : decode cX10_setCue 12 = .ok (.invokestatic 50, 3) := by decide +kernel
theorem dX10_setCue_15 : decode cX10_setCue 15 = .ok (.aload_n 3, 1) := by decide +kernel
theorem dX10_setCue_16 : decode cX10_setCue 16 = .ok (.invokestatic 135, 3) := by decide +kernel
theorem dX10_setCue_19 : decode cX10_setCue 19 = .ok (.aload_n 0, 1) := by decide +kernel
theorem dX10_setCue_20 : decode cX10_setCue 20 = .ok (.getfield 22, 3) := by decide +kernel
theorem dX10_setCue_23 : decode cX10_setCue 23 = .ok (.bipush 12, 2) := by decide +kernel
theorem dX10_setCue_25 : decode cX10_setCue 25 = .ok (.iload_n 1, 1) := by decide +kernel
theorem dX10_setCue_26 : decode cX10_setCue 26 = .ok (.iload_n 2, 1) := by decide +kernel
theorem dX10_setCue_27 : decode cX10_setCue 27 = .ok (.iconst 0, 1) := by decide +kernel
theorem dX10_setCue_28 : decode cX10_setCue 28 = .ok (.invokevirtual 94, 3) := by decide +kernel
theorem dX10_setCue_31 : decode cX10_setCue 31 = .ok (.aload_n 3, 1) := by decide +kernel
theorem dX10_setCue_32 : decode cX10_setCue 32 = .ok (.iload_n 2, 1) := by decide +kernel
theorem dX10_setCue_33 : decode cX10_setCue 33 = .ok (.invokevirtual 160, 3) := by decide +kernel
theorem dX10_setCue_36 : decode cX10_setCue 36 = .ok (.ireturn, 1) := by decide +kernel
theorem dX10_loop_0 : decode cX10_loop 0 = .ok (.aload_n 0, 1) := by decide +kernel
theorem dX10_loop_1 : decode cX10_loop 1 = .ok (.iload_n 1, 1) := by decide +kernel
theorem dX10_loop_2 : decode cX10_loop 2 = .ok (.invokevirtual 119, 3) := by decide +kernel
theorem dX10_loop_5 : decode cX10_loop 5 = .ok (.astore_n 3, 1) := by decide +kernel
theorem dX10_loop_6 : decode cX10_loop 6 = .ok (.iload_n 2, 1) := by decide +kernel
theorem dX10_loop_7 : decode cX10_loop 7 = .ok (.iconst 0, 1) := by decide +kernel
theorem dX10_loop_8 : decode cX10_loop 8 = .ok (.bipush 6, 2) := by decide +kernel
theorem dX10_loop_10 : decode cX10_loop 10 = .ok (.invokestatic 46, 3) := by decide +kernel
theorem dX10_loop_13 : decode cX10_loop 13 = .ok (.invokestatic 50, 3) := by decide +kernel
theorem dX10_loop_16 : decode cX10_loop 16 = .ok (.aload_n 3, 1) := by decide +kernel
theorem dX10_loop_17 : decode cX10_loop 17 = .ok (.invokestatic 135, 3) := by decide +kernel
theorem dX10_loop_20 : decode cX10_loop 20 = .ok (.aload_n 3, 1) := by decide +kernel
theorem dX10_loop_21 : decode cX10_loop 21 = .ok (.iload_n 2, 1) := by decide +kernel
theorem dX10_loop_22 : decode cX10_loop 22 = .ok (.invokevirtual 163, 3) := by decide +kernel
theorem dX10_loop_25 : decode cX10_loop 25 = .ok (.ifCond .ne 13, 3) := by decide +kernel
theorem dX10_loop_28 : decode cX10_loop 28 = .ok (.new 63, 3) := by decide +kernel
theorem dX10_loop_31 : decode cX10_loop 31 = .ok (.dup, 1) := by decide +kernel
theorem dX10_loop_32 : decode cX10_loop 32 = .ok (.ldc 166, 2) := by decide +kernel
theorem dX10_loop_34 : decode cX10_loop 34 = .ok (.invokespecial 67, 3) := by decide +kernel
theorem dX10_loop_37 : decode cX10_loop 37 = .ok (.athrow, 1) := by decide +kernel
theorem dX10_loop_38 : decode cX10_loop 38 = .ok (.aload_n 0, 1) := by decide +kernel
theorem dX10_loop_39 : decode cX10_loop 39 = .ok (.getfield 22, 3) := by decide +kernel
theorem dX10_loop_42 : decode cX10_loop 42 = .ok (.bipush 13, 2) := by decide +kernel
theorem dX10_loop_44 : decode cX10_loop 44 = .ok (.iload_n 1, 1) := by decide +kernel
theorem dX10_loop_45 : decode cX10_loop 45 = .ok (.iload_n 2, 1) := by decide +kernel
theorem dX10_loop_46 : decode cX10_loop 46 = .ok (.iconst 0, 1) := by decide +kernel
theorem dX10_loop_47 : decode cX10_loop 47 = .ok (.invokevirtual 94, 3) := by decide +kernel
theorem dX10_loop_50 : decode cX10_loop 50 = .ok (.aload_n 3, 1) := by decide +kernel
theorem dX10_loop_51 : decode cX10_loop 51 = .ok (.iload_n 2, 1) := by decide +kernel
theorem dX10_loop_52 : decode cX10_loop 52 = .ok (.invokevirtual 168, 3) := by decide +kernel
theorem dX10_loop_55 : decode cX10_loop 55 = .ok (.ireturn, 1) := by decide +kernel
theorem dX10_out_0 : decode cX10_out 0 = .ok (.aload_n 0, 1) := by decide +kernel
theorem dX10_out_1 : decode cX10_out 1 = .ok (.iload_n 1, 1) := by decide +kernel
theorem dX10_out_2 : decode cX10_out 2 = .ok (.invokevirtual 119, 3) := by decide +kernel
theorem dX10_out_5 : decode cX10_out 5 = .ok (.astore_n 2, 1) := by decide +kernel
theorem dX10_out_6 : decode cX10_out 6 = .ok (.aload_n 0, 1) := by decide +kernel
theorem dX10_out_7 : decode cX10_out 7 = .ok (.getfield 22, 3) := by decide +kernel
theorem dX10_out_10 : decode cX10_out 10 = .ok (.bipush 14, 2) := by decide +kernel
theorem dX10_out_12 : decode cX10_out 12 = .ok (.iload_n 1, 1) := by decide +kernel
theorem dX10_out_13 : decode cX10_out 13 = .ok (.iconst 0, 1) := by decide +kernel
theorem dX10_out_14 : decode cX10_out 14 = .ok (.iconst 0, 1) := by decide +kernel
theorem dX10_out_15 : decode cX10_out 15 = .ok (.invokevirtual 94, 3) := by decide +kernel
theorem dX10_out_18 : decode cX10_out 18 = .ok (.aload_n 2, 1) := by decide +kernel
theorem dX10_out_19 : decode cX10_out 19 = .ok (.invokevirtual 171, 3) := by decide +kernel
theorem dX10_out_22 : decode cX10_out 22 = .ok (.ireturn, 1) := by decide +kernel
theorem dX10_slip_0 : decode cX10_slip 0 = .ok (.aload_n 0, 1) := by decide +kernel
theorem dX10_slip_1 : decode cX10_slip 1 = .ok (.iload_n 1, 1) := by decide +kernel
theorem dX10_slip_2 : decode cX10_slip 2 = .ok (.invokevirtual 119, 3) := by decide +kernel
theorem dX10_slip_5 : decode cX10_slip 5 = .ok (.astore_n 3, 1) := by decide +kernel
theorem dX10_slip_6 : decode cX10_slip 6 = .ok (.aload_n 3, 1) := by decide +kernel
theorem dX10_slip_7 : decode cX10_slip 7 = .ok (.invokestatic 135, 3) := by decide +kernel
theorem dX10_slip_10 : decode cX10_slip 10 = .ok (.aload_n 0, 1) := by decide +kernel
theorem dX10_slip_11 : decode cX10_slip 11 = .ok (.getfield 22, 3) := by decide +kernel
theorem dX10_slip_14 : decode cX10_slip 14 = .ok (.bipush 15, 2) := by decide +kernel
theorem dX10_slip_16 : decode cX10_slip 16 = .ok (.iload_n 1, 1) := by decide +kernel
theorem dX10_slip_17 : decode cX10_slip 17 = .ok (.iload_n 2, 1) := by decide +kernel
theorem dX10_slip_18 : decode cX10_slip 18 = .ok (.ifCond .eq 7, 3) := by decide +kernel
theorem dX10_slip_21 : decode cX10_slip 21 = .ok (.iconst 1, 1) := by decide +kernel
theorem dX10_slip_22 : decode cX10_slip 22 = .ok (.goto 4, 3) := by decide +kernel
theorem dX10_slip_25 : decode cX10_slip 25 = .ok (.iconst 0, 1) := by decide +kernel
theorem dX10_slip_26 : decode cX10_slip 26 = .ok (.iconst 0, 1) := by decide +kernel
theorem dX10_slip_27 : decode cX10_slip 27 = .ok (.invokevirtual 94, 3) := by decide +kernel
theorem dX10_slip_30 : decode cX10_slip 30 = .ok (.aload_n 3, 1) := by decide +kernel
theorem dX10_slip_31 : decode cX10_slip 31 = .ok (.iload_n 2, 1) := by decide +kernel
theorem dX10_slip_32 : decode cX10_slip 32 = .ok (.invokevirtual 174, 3) := by decide +kernel
theorem dX10_slip_35 : decode cX10_slip 35 = .ok (.ireturn, 1) := by decide +kernel
theorem dX10_place_0 : decode cX10_place 0 = .ok (.aload_n 0, 1) := by decide +kernel
theorem dX10_place_1 : decode cX10_place 1 = .ok (.iload_n 1, 1) := by decide +kernel
theorem dX10_place_2 : decode cX10_place 2 = .ok (.invokevirtual 119, 3) := by decide +kernel
theorem dX10_place_5 : decode cX10_place 5 = .ok (.astore_n 2, 1) := by decide +kernel
theorem dX10_place_6 : decode cX10_place 6 = .ok (.aload_n 2, 1) := by decide +kernel
theorem dX10_place_7 : decode cX10_place 7 = .ok (.invokestatic 135, 3) := by decide +kernel
theorem dX10_place_10 : decode cX10_place 10 = .ok (.aload_n 2, 1) := by decide +kernel
theorem dX10_place_11 : decode cX10_place 11 = .ok (.getfield 177, 3) := by decide +kernel
theorem dX10_place_14 : decode cX10_place 14 = .ok (.lreturn, 1) := by decide +kernel
theorem dX10_tempo_0 : decode cX10_tempo 0 = .ok (.aload_n 0, 1) := by decide +kernel
theorem dX10_tempo_1 : decode cX10_tempo 1 = .ok (.iload_n 1, 1) := by decide +kernel
theorem dX10_tempo_2 : decode cX10_tempo 2 = .ok (.invokevirtual 119, 3) := by decide +kernel
theorem dX10_tempo_5 : decode cX10_tempo 5 = .ok (.astore_n 2, 1) := by decide +kernel
theorem dX10_tempo_6 : decode cX10_tempo 6 = .ok (.aload_n 2, 1) := by decide +kernel
theorem dX10_tempo_7 : decode cX10_tempo 7 = .ok (.invokestatic 135, 3) := by decide +kernel
theorem dX10_tempo_10 : decode cX10_tempo 10 = .ok (.aload_n 2, 1) := by decide +kernel
theorem dX10_tempo_11 : decode cX10_tempo 11 = .ok (.invokevirtual 181, 3) := by decide +kernel
theorem dX10_tempo_14 : decode cX10_tempo 14 = .ok (.ireturn, 1) := by decide +kernel
theorem dX10_plays_0 : decode cX10_plays 0 = .ok (.aload_n 0, 1) := by decide +kernel
theorem dX10_plays_1 : decode cX10_plays 1 = .ok (.iload_n 1, 1) := by decide +kernel
theorem dX10_plays_2 : decode cX10_plays 2 = .ok (.invokevirtual 119, 3) := by decide +kernel
theorem dX10_plays_5 : decode cX10_plays 5 = .ok (.getfield 123, 3) := by decide +kernel
theorem dX10_plays_8 : decode cX10_plays 8 = .ok (.ireturn, 1) := by decide +kernel
theorem dX10_on_0 : decode cX10_on 0 = .ok (.aload_n 0, 1) := by decide +kernel
theorem dX10_on_1 : decode cX10_on 1 = .ok (.iload_n 1, 1) := by decide +kernel
theorem dX10_on_2 : decode cX10_on 2 = .ok (.invokevirtual 119, 3) := by decide +kernel
theorem dX10_on_5 : decode cX10_on 5 = .ok (.getfield 185, 3) := by decide +kernel
theorem dX10_on_8 : decode cX10_on 8 = .ok (.astore_n 2, 1) := by decide +kernel
theorem dX10_on_9 : decode cX10_on 9 = .ok (.aload_n 2, 1) := by decide +kernel
theorem dX10_on_10 : decode cX10_on 10 = .ok (.ifnonnull 13, 3) := by decide +kernel
theorem dX10_on_13 : decode cX10_on 13 = .ok (.new 189, 3) := by decide +kernel
theorem dX10_on_16 : decode cX10_on 16 = .ok (.dup, 1) := by decide +kernel
theorem dX10_on_17 : decode cX10_on 17 = .ok (.ldc 191, 2) := by decide +kernel
theorem dX10_on_19 : decode cX10_on 19 = .ok (.invokespecial 193, 3) := by decide +kernel
theorem dX10_on_22 : decode cX10_on 22 = .ok (.athrow, 1) := by decide +kernel
theorem dX10_on_23 : decode cX10_on 23 = .ok (.aload_n 2, 1) := by decide +kernel
theorem dX10_on_24 : decode cX10_on 24 = .ok (.getfield 194, 3) := by decide +kernel
theorem dX10_on_27 : decode cX10_on 27 = .ok (.ireturn, 1) := by decide +kernel
theorem dX10_setFader_0 : decode cX10_setFader 0 = .ok (.aload_n 0, 1) := by decide +kernel
theorem dX10_setFader_1 : decode cX10_setFader 1 = .ok (.iload_n 1, 1) := by decide +kernel
theorem dX10_setFader_2 : decode cX10_setFader 2 = .ok (.invokevirtual 119, 3) := by decide +kernel
theorem dX10_setFader_5 : decode cX10_setFader 5 = .ok (.astore_n 3, 1) := by decide +kernel
theorem dX10_setFader_6 : decode cX10_setFader 6 = .ok (.iload_n 2, 1) := by decide +kernel
theorem dX10_setFader_7 : decode cX10_setFader 7 = .ok (.iconst 0, 1) := by decide +kernel
theorem dX10_setFader_8 : decode cX10_setFader 8 = .ok (.bipush 100, 2) := by decide +kernel
theorem dX10_setFader_10 : decode cX10_setFader 10 = .ok (.invokestatic 46, 3) := by decide +kernel
theorem dX10_setFader_13 : decode cX10_setFader 13 = .ok (.invokestatic 50, 3) := by decide +kernel
theorem dX10_setFader_16 : decode cX10_setFader 16 = .ok (.aload_n 0, 1) := by decide +kernel
theorem dX10_setFader_17 : decode cX10_setFader 17 = .ok (.getfield 22, 3) := by decide +kernel
theorem dX10_setFader_20 : decode cX10_setFader 20 = .ok (.bipush 16, 2) := by decide +kernel
theorem dX10_setFader_22 : decode cX10_setFader 22 = .ok (.iload_n 1, 1) := by decide +kernel
theorem dX10_setFader_23 : decode cX10_setFader 23 = .ok (.iload_n 2, 1) := by decide +kernel
theorem dX10_setFader_24 : decode cX10_setFader 24 = .ok (.iconst 0, 1) := by decide +kernel
theorem dX10_setFader_25 : decode cX10_setFader 25 = .ok (.invokevirtual 94, 3) := by decide +kernel
theorem dX10_setFader_28 : decode cX10_setFader 28 = .ok (.aload_n 3, 1) := by decide +kernel
theorem dX10_setFader_29 : decode cX10_setFader 29 = .ok (.getfield 197, 3) := by decide +kernel
theorem dX10_setFader_32 : decode cX10_setFader 32 = .ok (.iload_n 2, 1) := by decide +kernel
theorem dX10_setFader_33 : decode cX10_setFader 33 = .ok (.invokevirtual 201, 3) := by decide +kernel
theorem dX10_setFader_36 : decode cX10_setFader 36 = .ok (.ireturn, 1) := by decide +kernel
theorem dX10_setBand_0 : decode cX10_setBand 0 = .ok (.aload_n 0, 1) := by decide +kernel
theorem dX10_setBand_1 : decode cX10_setBand 1 = .ok (.iload_n 1, 1) := by decide +kernel
theorem dX10_setBand_2 : decode cX10_setBand 2 = .ok (.invokevirtual 119, 3) := by decide +kernel
theorem dX10_setBand_5 : decode cX10_setBand 5 = .ok (.astore 4, 2) := by decide +kernel
theorem dX10_setBand_7 : decode cX10_setBand 7 = .ok (.iload_n 2, 1) := by decide +kernel
theorem dX10_setBand_8 : decode cX10_setBand 8 = .ok (.iconst 0, 1) := by decide +kernel
theorem dX10_setBand_9 : decode cX10_setBand 9 = .ok (.iconst 2, 1) := by decide +kernel
theorem dX10_setBand_10 : decode cX10_setBand 10 = .ok (.invokestatic 46, 3) := by decide +kernel
theorem dX10_setBand_13 : decode cX10_setBand 13 = .ok (.ifCond .eq 17, 3) := by decide +kernel
theorem dX10_setBand_16 : decode cX10_setBand 16 = .ok (.iload_n 3, 1) := by decide +kernel
theorem dX10_setBand_17 : decode cX10_setBand 17 = .ok (.iconst 0, 1) := by decide +kernel
theorem dX10_setBand_18 : decode cX10_setBand 18 = .ok (.bipush 100, 2) := by decide +kernel
theorem dX10_setBand_20 : decode cX10_setBand 20 = .ok (.invokestatic 46, 3) := by decide +kernel
theorem dX10_setBand_23 : decode cX10_setBand 23 = .ok (.ifCond .eq 7, 3) := by decide +kernel
theorem dX10_setBand_26 : decode cX10_setBand 26 = .ok (.iconst 1, 1) := by decide +kernel
theorem dX10_setBand_27 : decode cX10_setBand 27 = .ok (.goto 4, 3) := by decide +kernel
theorem dX10_setBand_30 : decode cX10_setBand 30 = .ok (.iconst 0, 1) := by decide +kernel
theorem dX10_setBand_31 : decode cX10_setBand 31 = .ok (.invokestatic 50, 3) := by decide +kernel
theorem dX10_setBand_34 : decode cX10_setBand 34 = .ok (.aload_n 0, 1) := by decide +kernel
theorem dX10_setBand_35 : decode cX10_setBand 35 = .ok (.getfield 22, 3) := by decide +kernel
theorem dX10_setBand_38 : decode cX10_setBand 38 = .ok (.bipush 17, 2) := by decide +kernel
theorem dX10_setBand_40 : decode cX10_setBand 40 = .ok (.iload_n 1, 1) := by decide +kernel
theorem dX10_setBand_41 : decode cX10_setBand 41 = .ok (.iload_n 2, 1) := by decide +kernel
theorem dX10_setBand_42 : decode cX10_setBand 42 = .ok (.iload_n 3, 1) := by decide +kernel
theorem dX10_setBand_43 : decode cX10_setBand 43 = .ok (.invokevirtual 94, 3) := by decide +kernel
theorem dX10_setBand_46 : decode cX10_setBand 46 = .ok (.aload 4, 2) := by decide +kernel
theorem dX10_setBand_48 : decode cX10_setBand 48 = .ok (.getfield 197, 3) := by decide +kernel
theorem dX10_setBand_51 : decode cX10_setBand 51 = .ok (.iload_n 2, 1) := by decide +kernel
theorem dX10_setBand_52 : decode cX10_setBand 52 = .ok (.iload_n 3, 1) := by decide +kernel
theorem dX10_setBand_53 : decode cX10_setBand 53 = .ok (.invokevirtual 206, 3) := by decide +kernel
theorem dX10_setBand_56 : decode cX10_setBand 56 = .ok (.ireturn, 1) := by decide +kernel
theorem dX10_setSide_0 : decode cX10_setSide 0 = .ok (.aload_n 0, 1) := by decide +kernel
theorem dX10_setSide_1 : decode cX10_setSide 1 = .ok (.iload_n 1, 1) := by decide +kernel
theorem dX10_setSide_2 : decode cX10_setSide 2 = .ok (.invokevirtual 119, 3) := by decide +kernel
theorem dX10_setSide_5 : decode cX10_setSide 5 = .ok (.astore_n 3, 1) := by decide +kernel
theorem dX10_setSide_6 : decode cX10_setSide 6 = .ok (.iload_n 2, 1) := by decide +kernel
theorem dX10_setSide_7 : decode cX10_setSide 7 = .ok (.bipush 108, 2) := by decide +kernel
theorem dX10_setSide_9 : decode cX10_setSide 9 = .ok (.if_icmp .eq 15, 3) := by decide +kernel
theorem dX10_setSide_12 : decode cX10_setSide 12 = .ok (.iload_n 2, 1) := by decide +kernel
theorem dX10_setSide_13 : decode cX10_setSide 13 = .ok (.bipush 109, 2) := by decide +kernel
theorem dX10_setSide_15 : decode cX10_setSide 15 = .ok (.if_icmp .eq 9, 3) := by decide +kernel
theorem dX10_setSide_18 : decode cX10_setSide 18 = .ok (.iload_n 2, 1) := by decide +kernel
theorem dX10_setSide_19 : decode cX10_setSide 19 = .ok (.bipush 114, 2) := by decide +kernel
theorem dX10_setSide_21 : decode cX10_setSide 21 = .ok (.if_icmp .ne 7, 3) := by decide +kernel
theorem dX10_setSide_24 : decode cX10_setSide 24 = .ok (.iconst 1, 1) := by decide +kernel
theorem dX10_setSide_25 : decode cX10_setSide 25 = .ok (.goto 4, 3) := by decide +kernel
theorem dX10_setSide_28 : decode cX10_setSide 28 = .ok (.iconst 0, 1) := by decide +kernel
theorem dX10_setSide_29 : decode cX10_setSide 29 = .ok (.invokestatic 50, 3) := by decide +kernel
theorem dX10_setSide_32 : decode cX10_setSide 32 = .ok (.aload_n 0, 1) := by decide +kernel
theorem dX10_setSide_33 : decode cX10_setSide 33 = .ok (.getfield 22, 3) := by decide +kernel
theorem dX10_setSide_36 : decode cX10_setSide 36 = .ok (.bipush 18, 2) := by decide +kernel
theorem dX10_setSide_38 : decode cX10_setSide 38 = .ok (.iload_n 1, 1) := by decide +kernel
theorem dX10_setSide_39 : decode cX10_setSide 39 = .ok (.iload_n 2, 1) := by decide +kernel
theorem dX10_setSide_40 : decode cX10_setSide 40 = .ok (.iconst 0, 1) := by decide +kernel
theorem dX10_setSide_41 : decode cX10_setSide 41 = .ok (.invokevirtual 94, 3) := by decide +kernel
theorem dX10_setSide_44 : decode cX10_setSide 44 = .ok (.aload_n 3, 1) := by decide +kernel
theorem dX10_setSide_45 : decode cX10_setSide 45 = .ok (.getfield 197, 3) := by decide +kernel
theorem dX10_setSide_48 : decode cX10_setSide 48 = .ok (.iload_n 2, 1) := by decide +kernel
theorem dX10_setSide_49 : decode cX10_setSide 49 = .ok (.invokevirtual 209, 3) := by decide +kernel
theorem dX10_setSide_52 : decode cX10_setSide 52 = .ok (.ireturn, 1) := by decide +kernel
theorem dX10_setCross_0 : decode cX10_setCross 0 = .ok (.iload_n 1, 1) := by decide +kernel
theorem dX10_setCross_1 : decode cX10_setCross 1 = .ok (.bipush (-100), 2) := by decide +kernel
theorem dX10_setCross_3 : decode cX10_setCross 3 = .ok (.bipush 100, 2) := by decide +kernel
theorem dX10_setCross_5 : decode cX10_setCross 5 = .ok (.invokestatic 46, 3) := by decide +kernel
theorem dX10_setCross_8 : decode cX10_setCross 8 = .ok (.invokestatic 50, 3) := by decide +kernel
theorem dX10_setCross_11 : decode cX10_setCross 11 = .ok (.aload_n 0, 1) := by decide +kernel
theorem dX10_setCross_12 : decode cX10_setCross 12 = .ok (.getfield 22, 3) := by decide +kernel
theorem dX10_setCross_15 : decode cX10_setCross 15 = .ok (.bipush 19, 2) := by decide +kernel
theorem dX10_setCross_17 : decode cX10_setCross 17 = .ok (.iload_n 1, 1) := by decide +kernel
theorem dX10_setCross_18 : decode cX10_setCross 18 = .ok (.iconst 0, 1) := by decide +kernel
theorem dX10_setCross_19 : decode cX10_setCross 19 = .ok (.iconst 0, 1) := by decide +kernel
theorem dX10_setCross_20 : decode cX10_setCross 20 = .ok (.invokevirtual 94, 3) := by decide +kernel
theorem dX10_setCross_23 : decode cX10_setCross 23 = .ok (.aload_n 0, 1) := by decide +kernel
theorem dX10_setCross_24 : decode cX10_setCross 24 = .ok (.getfield 10, 3) := by decide +kernel
theorem dX10_setCross_27 : decode cX10_setCross 27 = .ok (.iload_n 1, 1) := by decide +kernel
theorem dX10_setCross_28 : decode cX10_setCross 28 = .ok (.invokevirtual 213, 3) := by decide +kernel
theorem dX10_setCross_31 : decode cX10_setCross 31 = .ok (.ireturn, 1) := by decide +kernel
theorem dX10_level_0 : decode cX10_level 0 = .ok (.aload_n 0, 1) := by decide +kernel
theorem dX10_level_1 : decode cX10_level 1 = .ok (.iload_n 1, 1) := by decide +kernel
theorem dX10_level_2 : decode cX10_level 2 = .ok (.invokevirtual 119, 3) := by decide +kernel
theorem dX10_level_5 : decode cX10_level 5 = .ok (.aload_n 0, 1) := by decide +kernel
theorem dX10_level_6 : decode cX10_level 6 = .ok (.getfield 10, 3) := by decide +kernel
theorem dX10_level_9 : decode cX10_level 9 = .ok (.getfield 216, 3) := by decide +kernel
theorem dX10_level_12 : decode cX10_level 12 = .ok (.invokevirtual 219, 3) := by decide +kernel
theorem dX10_level_15 : decode cX10_level 15 = .ok (.ireturn, 1) := by decide +kernel
theorem dX10_addEffect_0 : decode cX10_addEffect 0 = .ok (.aload_n 0, 1) := by decide +kernel
theorem dX10_addEffect_1 : decode cX10_addEffect 1 = .ok (.iload_n 1, 1) := by decide +kernel
theorem dX10_addEffect_2 : decode cX10_addEffect 2 = .ok (.invokevirtual 119, 3) := by decide +kernel
theorem dX10_addEffect_5 : decode cX10_addEffect 5 = .ok (.astore 4, 2) := by decide +kernel
theorem dX10_addEffect_7 : decode cX10_addEffect 7 = .ok (.iload_n 2, 1) := by decide +kernel
theorem dX10_addEffect_8 : decode cX10_addEffect 8 = .ok (.bipush 101, 2) := by decide +kernel
theorem dX10_addEffect_10 : decode cX10_addEffect 10 = .ok (.if_icmp .eq 15, 3) := by decide +kernel
theorem dX10_addEffect_13 : decode cX10_addEffect 13 = .ok (.iload_n 2, 1) := by decide +kernel
theorem dX10_addEffect_14 : decode cX10_addEffect 14 = .ok (.bipush 114, 2) := by decide +kernel
theorem dX10_addEffect_16 : decode cX10_addEffect 16 = .ok (.if_icmp .eq 9, 3) := by decide +kernel
theorem dX10_addEffect_19 : decode cX10_addEffect 19 = .ok (.iload_n 2, 1) := by decide +kernel
theorem dX10_addEffect_20 : decode cX10_addEffect 20 = .ok (.bipush 99, 2) := by decide +kernel
theorem dX10_addEffect_22 : decode cX10_addEffect 22 = .ok (.if_icmp .ne 7, 3) := by decide +kernel
theorem dX10_addEffect_25 : decode cX10_addEffect 25 = .ok (.iconst 1, 1) := by decide +kernel
theorem dX10_addEffect_26 : decode cX10_addEffect 26 = .ok (.goto 4, 3) := by decide +kernel
theorem dX10_addEffect_29 : decode cX10_addEffect 29 = .ok (.iconst 0, 1) := by decide +kernel
theorem dX10_addEffect_30 : decode cX10_addEffect 30 = .ok (.invokestatic 50, 3) := by decide +kernel
theorem dX10_addEffect_33 : decode cX10_addEffect 33 = .ok (.iload_n 3, 1) := by decide +kernel
theorem dX10_addEffect_34 : decode cX10_addEffect 34 = .ok (.iconst 0, 1) := by decide +kernel
theorem dX10_addEffect_35 : decode cX10_addEffect 35 = .ok (.bipush 100, 2) := by decide +kernel
theorem dX10_addEffect_37 : decode cX10_addEffect 37 = .ok (.invokestatic 46, 3) := by decide +kernel
theorem dX10_addEffect_40 : decode cX10_addEffect 40 = .ok (.invokestatic 50, 3) := by decide +kernel
theorem dX10_addEffect_43 : decode cX10_addEffect 43 = .ok (.aload 4, 2) := by decide +kernel
theorem dX10_addEffect_45 : decode cX10_addEffect 45 = .ok (.getfield 197, 3) := by decide +kernel
theorem dX10_addEffect_48 : decode cX10_addEffect 48 = .ok (.getfield 222, 3) := by decide +kernel
theorem dX10_addEffect_51 : decode cX10_addEffect 51 = .ok (.aload 4, 2) := by decide +kernel
theorem dX10_addEffect_53 : decode cX10_addEffect 53 = .ok (.getfield 197, 3) := by decide +kernel
theorem dX10_addEffect_56 : decode cX10_addEffect 56 = .ok (.getfield 225, 3) := by decide +kernel
theorem dX10_addEffect_59 : decode cX10_addEffect 59 = .ok (.arraylength, 1) := by decide +kernel
theorem dX10_addEffect_60 : decode cX10_addEffect 60 = .ok (.if_icmp .lt 13, 3) := by decide +kernel
theorem dX10_addEffect_63 : decode cX10_addEffect 63 = .ok (.new 63, 3) := by decide +kernel
theorem dX10_addEffect_66 : decode cX10_addEffect 66 = .ok (.dup, 1) := by decide +kernel
theorem dX10_addEffect_67 : decode cX10_addEffect 67 = .ok (.ldc 229, 2) := by decide +kernel
theorem dX10_addEffect_69 : decode cX10_addEffect 69 = .ok (.invokespecial 67, 3) := by decide +kernel
theorem dX10_addEffect_72 : decode cX10_addEffect 72 = .ok (.athrow, 1) := by decide +kernel
theorem dX10_addEffect_73 : decode cX10_addEffect 73 = .ok (.aload_n 0, 1) := by decide +kernel
theorem dX10_addEffect_74 : decode cX10_addEffect 74 = .ok (.getfield 22, 3) := by decide +kernel
theorem dX10_addEffect_77 : decode cX10_addEffect 77 = .ok (.bipush 20, 2) := by decide +kernel
theorem dX10_addEffect_79 : decode cX10_addEffect 79 = .ok (.iload_n 1, 1) := by decide +kernel
theorem dX10_addEffect_80 : decode cX10_addEffect 80 = .ok (.iload_n 2, 1) := by decide +kernel
theorem dX10_addEffect_81 : decode cX10_addEffect 81 = .ok (.iload_n 3, 1) := by decide +kernel
theorem dX10_addEffect_82 : decode cX10_addEffect 82 = .ok (.invokevirtual 94, 3) := by decide +kernel
theorem dX10_addEffect_85 : decode cX10_addEffect 85 = .ok (.aload 4, 2) := by decide +kernel
theorem dX10_addEffect_87 : decode cX10_addEffect 87 = .ok (.getfield 197, 3) := by decide +kernel
theorem dX10_addEffect_90 : decode cX10_addEffect 90 = .ok (.iload_n 2, 1) := by decide +kernel
theorem dX10_addEffect_91 : decode cX10_addEffect 91 = .ok (.iload_n 3, 1) := by decide +kernel
theorem dX10_addEffect_92 : decode cX10_addEffect 92 = .ok (.invokevirtual 231, 3) := by decide +kernel
theorem dX10_addEffect_95 : decode cX10_addEffect 95 = .ok (.ireturn, 1) := by decide +kernel
theorem dX10_dropEffects_0 : decode cX10_dropEffects 0 = .ok (.aload_n 0, 1) := by decide +kernel
theorem dX10_dropEffects_1 : decode cX10_dropEffects 1 = .ok (.iload_n 1, 1) := by decide +kernel
theorem dX10_dropEffects_2 : decode cX10_dropEffects 2 = .ok (.invokevirtual 119, 3) := by decide +kernel
theorem dX10_dropEffects_5 : decode cX10_dropEffects 5 = .ok (.astore_n 2, 1) := by decide +kernel
theorem dX10_dropEffects_6 : decode cX10_dropEffects 6 = .ok (.aload_n 0, 1) := by decide +kernel
theorem dX10_dropEffects_7 : decode cX10_dropEffects 7 = .ok (.getfield 22, 3) := by decide +kernel
theorem dX10_dropEffects_10 : decode cX10_dropEffects 10 = .ok (.bipush 21, 2) := by decide +kernel
theorem dX10_dropEffects_12 : decode cX10_dropEffects 12 = .ok (.iload_n 1, 1) := by decide +kernel
theorem dX10_dropEffects_13 : decode cX10_dropEffects 13 = .ok (.iconst 0, 1) := by decide +kernel
theorem dX10_dropEffects_14 : decode cX10_dropEffects 14 = .ok (.iconst 0, 1) := by decide +kernel
theorem dX10_dropEffects_15 : decode cX10_dropEffects 15 = .ok (.invokevirtual 94, 3) := by decide +kernel
theorem dX10_dropEffects_18 : decode cX10_dropEffects 18 = .ok (.aload_n 2, 1) := by decide +kernel
theorem dX10_dropEffects_19 : decode cX10_dropEffects 19 = .ok (.getfield 197, 3) := by decide +kernel
theorem dX10_dropEffects_22 : decode cX10_dropEffects 22 = .ok (.invokevirtual 235, 3) := by decide +kernel
theorem dX10_dropEffects_25 : decode cX10_dropEffects 25 = .ok (.ireturn, 1) := by decide +kernel
theorem dX10_tail_0 : decode cX10_tail 0 = .ok (.aload_n 0, 1) := by decide +kernel
theorem dX10_tail_1 : decode cX10_tail 1 = .ok (.iload_n 1, 1) := by decide +kernel
theorem dX10_tail_2 : decode cX10_tail 2 = .ok (.invokevirtual 119, 3) := by decide +kernel
theorem dX10_tail_5 : decode cX10_tail 5 = .ok (.getfield 197, 3) := by decide +kernel
theorem dX10_tail_8 : decode cX10_tail 8 = .ok (.iload_n 2, 1) := by decide +kernel
theorem dX10_tail_9 : decode cX10_tail 9 = .ok (.invokevirtual 238, 3) := by decide +kernel
theorem dX10_tail_12 : decode cX10_tail 12 = .ok (.astore_n 3, 1) := by decide +kernel
theorem dX10_tail_13 : decode cX10_tail 13 = .ok (.aload_n 3, 1) := by decide +kernel
theorem dX10_tail_14 : decode cX10_tail 14 = .ok (.ifnonnull 13, 3) := by decide +kernel
theorem dX10_tail_17 : decode cX10_tail 17 = .ok (.new 189, 3) := by decide +kernel
theorem dX10_tail_20 : decode cX10_tail 20 = .ok (.dup, 1) := by decide +kernel
theorem dX10_tail_21 : decode cX10_tail 21 = .ok (.ldc 242, 2) := by decide +kernel
theorem dX10_tail_23 : decode cX10_tail 23 = .ok (.invokespecial 193, 3) := by decide +kernel
theorem dX10_tail_26 : decode cX10_tail 26 = .ok (.athrow, 1) := by decide +kernel
theorem dX10_tail_27 : decode cX10_tail 27 = .ok (.aload_n 3, 1) := by decide +kernel
theorem dX10_tail_28 : decode cX10_tail 28 = .ok (.getfield 244, 3) := by decide +kernel
theorem dX10_tail_31 : decode cX10_tail 31 = .ok (.ireturn, 1) := by decide +kernel
theorem dX10_go_0 : decode cX10_go 0 = .ok (.iload_n 1, 1) := by decide +kernel
theorem dX10_go_1 : decode cX10_go 1 = .ok (.iconst 1, 1) := by decide +kernel
theorem dX10_go_2 : decode cX10_go 2 = .ok (.sipush 2000, 3) := by decide +kernel
theorem dX10_go_5 : decode cX10_go 5 = .ok (.invokestatic 46, 3) := by decide +kernel
theorem dX10_go_8 : decode cX10_go 8 = .ok (.invokestatic 50, 3) := by decide +kernel
theorem dX10_go_11 : decode cX10_go 11 = .ok (.aload_n 0, 1) := by decide +kernel
theorem dX10_go_12 : decode cX10_go 12 = .ok (.getfield 22, 3) := by decide +kernel
theorem dX10_go_15 : decode cX10_go 15 = .ok (.bipush 22, 2) := by decide +kernel
theorem dX10_go_17 : decode cX10_go 17 = .ok (.iload_n 1, 1) := by decide +kernel
theorem dX10_go_18 : decode cX10_go 18 = .ok (.iconst 0, 1) := by decide +kernel
theorem dX10_go_19 : decode cX10_go 19 = .ok (.iconst 0, 1) := by decide +kernel
theorem dX10_go_20 : decode cX10_go 20 = .ok (.invokevirtual 94, 3) := by decide +kernel
theorem dX10_go_23 : decode cX10_go 23 = .ok (.aload_n 0, 1) := by decide +kernel
theorem dX10_go_24 : decode cX10_go 24 = .ok (.getfield 10, 3) := by decide +kernel
theorem dX10_go_27 : decode cX10_go 27 = .ok (.iload_n 1, 1) := by decide +kernel
theorem dX10_go_28 : decode cX10_go 28 = .ok (.invokevirtual 249, 3) := by decide +kernel
theorem dX10_go_31 : decode cX10_go 31 = .ok (.ireturn, 1) := by decide +kernel
theorem dX10_ticks_0 : decode cX10_ticks 0 = .ok (.aload_n 0, 1) := by decide +kernel
theorem dX10_ticks_1 : decode cX10_ticks 1 = .ok (.getfield 10, 3) := by decide +kernel
theorem dX10_ticks_4 : decode cX10_ticks 4 = .ok (.getfield 252, 3) := by decide +kernel
theorem dX10_ticks_7 : decode cX10_ticks 7 = .ok (.ireturn, 1) := by decide +kernel
theorem dX10_heard_0 : decode cX10_heard 0 = .ok (.aload_n 0, 1) := by decide +kernel
theorem dX10_heard_1 : decode cX10_heard 1 = .ok (.getfield 10, 3) := by decide +kernel
theorem dX10_heard_4 : decode cX10_heard 4 = .ok (.getfield 255, 3) := by decide +kernel
theorem dX10_heard_7 : decode cX10_heard 7 = .ok (.ireturn, 1) := by decide +kernel
theorem dX10_silence_0 : decode cX10_silence 0 = .ok (.aload_n 0, 1) := by decide +kernel
theorem dX10_silence_1 : decode cX10_silence 1 = .ok (.getfield 10, 3) := by decide +kernel
theorem dX10_silence_4 : decode cX10_silence 4 = .ok (.getfield 258, 3) := by decide +kernel
theorem dX10_silence_7 : decode cX10_silence 7 = .ok (.ireturn, 1) := by decide +kernel
theorem dX10_clashes_0 : decode cX10_clashes 0 = .ok (.iload_n 1, 1) := by decide +kernel
theorem dX10_clashes_1 : decode cX10_clashes 1 = .ok (.bipush 118, 2) := by decide +kernel
theorem dX10_clashes_3 : decode cX10_clashes 3 = .ok (.if_icmp .eq 9, 3) := by decide +kernel
theorem dX10_clashes_6 : decode cX10_clashes 6 = .ok (.iload_n 1, 1) := by decide +kernel
theorem dX10_clashes_7 : decode cX10_clashes 7 = .ok (.bipush 98, 2) := by decide +kernel
theorem dX10_clashes_9 : decode cX10_clashes 9 = .ok (.if_icmp .ne 7, 3) := by decide +kernel
theorem dX10_clashes_12 : decode cX10_clashes 12 = .ok (.iconst 1, 1) := by decide +kernel
theorem dX10_clashes_13 : decode cX10_clashes 13 = .ok (.goto 4, 3) := by decide +kernel
theorem dX10_clashes_16 : decode cX10_clashes 16 = .ok (.iconst 0, 1) := by decide +kernel
theorem dX10_clashes_17 : decode cX10_clashes 17 = .ok (.invokestatic 50, 3) := by decide +kernel
theorem dX10_clashes_20 : decode cX10_clashes 20 = .ok (.iload_n 1, 1) := by decide +kernel
theorem dX10_clashes_21 : decode cX10_clashes 21 = .ok (.bipush 118, 2) := by decide +kernel
theorem dX10_clashes_23 : decode cX10_clashes 23 = .ok (.if_icmp .ne 13, 3) := by decide +kernel
theorem dX10_clashes_26 : decode cX10_clashes 26 = .ok (.aload_n 0, 1) := by decide +kernel
theorem dX10_clashes_27 : decode cX10_clashes 27 = .ok (.getfield 10, 3) := by decide +kernel
theorem dX10_clashes_30 : decode cX10_clashes 30 = .ok (.getfield 261, 3) := by decide +kernel
theorem dX10_clashes_33 : decode cX10_clashes 33 = .ok (.goto 10, 3) := by decide +kernel
theorem dX10_clashes_36 : decode cX10_clashes 36 = .ok (.aload_n 0, 1) := by decide +kernel
theorem dX10_clashes_37 : decode cX10_clashes 37 = .ok (.getfield 10, 3) := by decide +kernel
theorem dX10_clashes_40 : decode cX10_clashes 40 = .ok (.getfield 264, 3) := by decide +kernel
theorem dX10_clashes_43 : decode cX10_clashes 43 = .ok (.ireturn, 1) := by decide +kernel
theorem dX10_between_0 : decode cX10_between 0 = .ok (.aload_n 0, 1) := by decide +kernel
theorem dX10_between_1 : decode cX10_between 1 = .ok (.iload_n 1, 1) := by decide +kernel
theorem dX10_between_2 : decode cX10_between 2 = .ok (.invokevirtual 119, 3) := by decide +kernel
theorem dX10_between_5 : decode cX10_between 5 = .ok (.astore_n 3, 1) := by decide +kernel
theorem dX10_between_6 : decode cX10_between 6 = .ok (.aload_n 0, 1) := by decide +kernel
theorem dX10_between_7 : decode cX10_between 7 = .ok (.iload_n 2, 1) := by decide +kernel
theorem dX10_between_8 : decode cX10_between 8 = .ok (.invokevirtual 119, 3) := by decide +kernel
theorem dX10_between_11 : decode cX10_between 11 = .ok (.astore 4, 2) := by decide +kernel
theorem dX10_between_13 : decode cX10_between 13 = .ok (.aload_n 3, 1) := by decide +kernel
theorem dX10_between_14 : decode cX10_between 14 = .ok (.invokestatic 135, 3) := by decide +kernel
theorem dX10_between_17 : decode cX10_between 17 = .ok (.aload 4, 2) := by decide +kernel
theorem dX10_between_19 : decode cX10_between 19 = .ok (.invokestatic 135, 3) := by decide +kernel
theorem dX10_between_22 : decode cX10_between 22 = .ok (.aload_n 3, 1) := by decide +kernel
theorem dX10_between_23 : decode cX10_between 23 = .ok (.aload 4, 2) := by decide +kernel
theorem dX10_between_25 : decode cX10_between 25 = .ok (.invokevirtual 267, 3) := by decide +kernel
theorem dX10_between_28 : decode cX10_between 28 = .ok (.ireturn, 1) := by decide +kernel
theorem dX10_sync_0 : decode cX10_sync 0 = .ok (.aload_n 0, 1) := by decide +kernel
theorem dX10_sync_1 : decode cX10_sync 1 = .ok (.iload_n 1, 1) := by decide +kernel
theorem dX10_sync_2 : decode cX10_sync 2 = .ok (.invokevirtual 119, 3) := by decide +kernel
theorem dX10_sync_5 : decode cX10_sync 5 = .ok (.astore_n 3, 1) := by decide +kernel
theorem dX10_sync_6 : decode cX10_sync 6 = .ok (.aload_n 0, 1) := by decide +kernel
theorem dX10_sync_7 : decode cX10_sync 7 = .ok (.iload_n 2, 1) := by decide +kernel
theorem dX10_sync_8 : decode cX10_sync 8 = .ok (.invokevirtual 119, 3) := by decide +kernel
theorem dX10_sync_11 : decode cX10_sync 11 = .ok (.astore 4, 2) := by decide +kernel
theorem dX10_sync_13 : decode cX10_sync 13 = .ok (.aload_n 3, 1) := by decide +kernel
theorem dX10_sync_14 : decode cX10_sync 14 = .ok (.aload 4, 2) := by decide +kernel
theorem dX10_sync_16 : decode cX10_sync 16 = .ok (.invokestatic 271, 3) := by decide +kernel
theorem dX10_sync_19 : decode cX10_sync 19 = .ok (.aload_n 0, 1) := by decide +kernel
theorem dX10_sync_20 : decode cX10_sync 20 = .ok (.getfield 22, 3) := by decide +kernel
theorem dX10_sync_23 : decode cX10_sync 23 = .ok (.bipush 23, 2) := by decide +kernel
theorem dX10_sync_25 : decode cX10_sync 25 = .ok (.iload_n 1, 1) := by decide +kernel
theorem dX10_sync_26 : decode cX10_sync 26 = .ok (.iload_n 2, 1) := by decide +kernel
theorem dX10_sync_27 : decode cX10_sync 27 = .ok (.iconst 0, 1) := by decide +kernel
theorem dX10_sync_28 : decode cX10_sync 28 = .ok (.invokevirtual 94, 3) := by decide +kernel
theorem dX10_sync_31 : decode cX10_sync 31 = .ok (.aload_n 3, 1) := by decide +kernel
theorem dX10_sync_32 : decode cX10_sync 32 = .ok (.aload 4, 2) := by decide +kernel
theorem dX10_sync_34 : decode cX10_sync 34 = .ok (.invokevirtual 275, 3) := by decide +kernel
theorem dX10_sync_37 : decode cX10_sync 37 = .ok (.ireturn, 1) := by decide +kernel
theorem dX10_ear_0 : decode cX10_ear 0 = .ok (.aload_n 0, 1) := by decide +kernel
theorem dX10_ear_1 : decode cX10_ear 1 = .ok (.iload_n 1, 1) := by decide +kernel
theorem dX10_ear_2 : decode cX10_ear 2 = .ok (.invokevirtual 119, 3) := by decide +kernel
theorem dX10_ear_5 : decode cX10_ear 5 = .ok (.astore 4, 2) := by decide +kernel
theorem dX10_ear_7 : decode cX10_ear 7 = .ok (.aload_n 0, 1) := by decide +kernel
theorem dX10_ear_8 : decode cX10_ear 8 = .ok (.iload_n 2, 1) := by decide +kernel
theorem dX10_ear_9 : decode cX10_ear 9 = .ok (.invokevirtual 119, 3) := by decide +kernel
theorem dX10_ear_12 : decode cX10_ear 12 = .ok (.astore 5, 2) := by decide +kernel
theorem dX10_ear_14 : decode cX10_ear 14 = .ok (.iload_n 3, 1) := by decide +kernel
theorem dX10_ear_15 : decode cX10_ear 15 = .ok (.iconst 1, 1) := by decide +kernel
theorem dX10_ear_16 : decode cX10_ear 16 = .ok (.bipush 10, 2) := by decide +kernel
theorem dX10_ear_18 : decode cX10_ear 18 = .ok (.invokestatic 46, 3) := by decide +kernel
theorem dX10_ear_21 : decode cX10_ear 21 = .ok (.invokestatic 50, 3) := by decide +kernel
theorem dX10_ear_24 : decode cX10_ear 24 = .ok (.aload 4, 2) := by decide +kernel
theorem dX10_ear_26 : decode cX10_ear 26 = .ok (.aload 5, 2) := by decide +kernel
theorem dX10_ear_28 : decode cX10_ear 28 = .ok (.invokestatic 271, 3) := by decide +kernel
theorem dX10_ear_31 : decode cX10_ear 31 = .ok (.aload_n 0, 1) := by decide +kernel
theorem dX10_ear_32 : decode cX10_ear 32 = .ok (.getfield 22, 3) := by decide +kernel
theorem dX10_ear_35 : decode cX10_ear 35 = .ok (.bipush 24, 2) := by decide +kernel
theorem dX10_ear_37 : decode cX10_ear 37 = .ok (.iload_n 1, 1) := by decide +kernel
theorem dX10_ear_38 : decode cX10_ear 38 = .ok (.iload_n 2, 1) := by decide +kernel
theorem dX10_ear_39 : decode cX10_ear 39 = .ok (.iload_n 3, 1) := by decide +kernel
theorem dX10_ear_40 : decode cX10_ear 40 = .ok (.invokevirtual 94, 3) := by decide +kernel
theorem dX10_ear_43 : decode cX10_ear 43 = .ok (.aload 4, 2) := by decide +kernel
theorem dX10_ear_45 : decode cX10_ear 45 = .ok (.aload 5, 2) := by decide +kernel
theorem dX10_ear_47 : decode cX10_ear 47 = .ok (.iload_n 3, 1) := by decide +kernel
theorem dX10_ear_48 : decode cX10_ear 48 = .ok (.invokevirtual 278, 3) := by decide +kernel
theorem dX10_ear_51 : decode cX10_ear 51 = .ok (.ireturn, 1) := by decide +kernel
theorem dX10_people_0 : decode cX10_people 0 = .ok (.iload_n 1, 1) := by decide +kernel
theorem dX10_people_1 : decode cX10_people 1 = .ok (.iconst (-1), 1) := by decide +kernel
theorem dX10_people_2 : decode cX10_people 2 = .ok (.iconst 5, 1) := by decide +kernel
theorem dX10_people_3 : decode cX10_people 3 = .ok (.invokestatic 46, 3) := by decide +kernel
theorem dX10_people_6 : decode cX10_people 6 = .ok (.invokestatic 50, 3) := by decide +kernel
theorem dX10_people_9 : decode cX10_people 9 = .ok (.iload_n 1, 1) := by decide +kernel
theorem dX10_people_10 : decode cX10_people 10 = .ok (.iconst (-1), 1) := by decide +kernel
theorem dX10_people_11 : decode cX10_people 11 = .ok (.if_icmp .ne 16, 3) := by decide +kernel
theorem dX10_people_14 : decode cX10_people 14 = .ok (.aload_n 0, 1) := by decide +kernel
theorem dX10_people_15 : decode cX10_people 15 = .ok (.getfield 10, 3) := by decide +kernel
theorem dX10_people_18 : decode cX10_people 18 = .ok (.getfield 284, 3) := by decide +kernel
theorem dX10_people_21 : decode cX10_people 21 = .ok (.invokevirtual 288, 3) := by decide +kernel
theorem dX10_people_24 : decode cX10_people 24 = .ok (.goto 14, 3) := by decide +kernel
theorem dX10_people_27 : decode cX10_people 27 = .ok (.aload_n 0, 1) := by decide +kernel
theorem dX10_people_28 : decode cX10_people 28 = .ok (.getfield 10, 3) := by decide +kernel
theorem dX10_people_31 : decode cX10_people 31 = .ok (.getfield 284, 3) := by decide +kernel
theorem dX10_people_34 : decode cX10_people 34 = .ok (.iload_n 1, 1) := by decide +kernel
theorem dX10_people_35 : decode cX10_people 35 = .ok (.invokevirtual 291, 3) := by decide +kernel
theorem dX10_people_38 : decode cX10_people 38 = .ok (.ireturn, 1) := by decide +kernel
theorem dX10_tired_0 : decode cX10_tired 0 = .ok (.iload_n 1, 1) := by decide +kernel
theorem dX10_tired_1 : decode cX10_tired 1 = .ok (.iconst 0, 1) := by decide +kernel
theorem dX10_tired_2 : decode cX10_tired 2 = .ok (.iconst 5, 1) := by decide +kernel
theorem dX10_tired_3 : decode cX10_tired 3 = .ok (.invokestatic 46, 3) := by decide +kernel
theorem dX10_tired_6 : decode cX10_tired 6 = .ok (.invokestatic 50, 3) := by decide +kernel
theorem dX10_tired_9 : decode cX10_tired 9 = .ok (.aload_n 0, 1) := by decide +kernel
theorem dX10_tired_10 : decode cX10_tired 10 = .ok (.getfield 10, 3) := by decide +kernel
theorem dX10_tired_13 : decode cX10_tired 13 = .ok (.getfield 284, 3) := by decide +kernel
theorem dX10_tired_16 : decode cX10_tired 16 = .ok (.iload_n 1, 1) := by decide +kernel
theorem dX10_tired_17 : decode cX10_tired 17 = .ok (.invokevirtual 294, 3) := by decide +kernel
theorem dX10_tired_20 : decode cX10_tired 20 = .ok (.ireturn, 1) := by decide +kernel
theorem dX10_seconds_0 : decode cX10_seconds 0 = .ok (.aload_n 0, 1) := by decide +kernel
theorem dX10_seconds_1 : decode cX10_seconds 1 = .ok (.iload_n 1, 1) := by decide +kernel
theorem dX10_seconds_2 : decode cX10_seconds 2 = .ok (.invokevirtual 81, 3) := by decide +kernel
theorem dX10_seconds_5 : decode cX10_seconds 5 = .ok (.invokevirtual 297, 3) := by decide +kernel
theorem dX10_seconds_8 : decode cX10_seconds 8 = .ok (.ireturn, 1) := by decide +kernel
theorem dX10_setLimit_0 : decode cX10_setLimit 0 = .ok (.iload_n 1, 1) := by decide +kernel
theorem dX10_setLimit_1 : decode cX10_setLimit 1 = .ok (.iconst 0, 1) := by decide +kernel
theorem dX10_setLimit_2 : decode cX10_setLimit 2 = .ok (.iconst 3, 1) := by decide +kernel
theorem dX10_setLimit_3 : decode cX10_setLimit 3 = .ok (.invokestatic 46, 3) := by decide +kernel
theorem dX10_setLimit_6 : decode cX10_setLimit 6 = .ok (.ifCond .eq 18, 3) := by decide +kernel
theorem dX10_setLimit_9 : decode cX10_setLimit 9 = .ok (.iload_n 2, 1) := by decide +kernel
theorem dX10_setLimit_10 : decode cX10_setLimit 10 = .ok (.iconst 0, 1) := by decide +kernel
theorem dX10_setLimit_11 : decode cX10_setLimit 11 = .ok (.sipush 2000, 3) := by decide +kernel
theorem dX10_setLimit_14 : decode cX10_setLimit 14 = .ok (.invokestatic 46, 3) := by decide +kernel
theorem dX10_setLimit_17 : decode cX10_setLimit 17 = .ok (.ifCond .eq 7, 3) := by decide +kernel
theorem dX10_setLimit_20 : decode cX10_setLimit 20 = .ok (.iconst 1, 1) := by decide +kernel
theorem dX10_setLimit_21 : decode cX10_setLimit 21 = .ok (.goto 4, 3) := by decide +kernel
theorem dX10_setLimit_24 : decode cX10_setLimit 24 = .ok (.iconst 0, 1) := by decide +kernel
theorem dX10_setLimit_25 : decode cX10_setLimit 25 = .ok (.invokestatic 50, 3) := by decide +kernel
theorem dX10_setLimit_28 : decode cX10_setLimit 28 = .ok (.aload_n 0, 1) := by decide +kernel
theorem dX10_setLimit_29 : decode cX10_setLimit 29 = .ok (.getfield 22, 3) := by decide +kernel
theorem dX10_setLimit_32 : decode cX10_setLimit 32 = .ok (.bipush 25, 2) := by decide +kernel
theorem dX10_setLimit_34 : decode cX10_setLimit 34 = .ok (.iload_n 1, 1) := by decide +kernel
theorem dX10_setLimit_35 : decode cX10_setLimit 35 = .ok (.iload_n 2, 1) := by decide +kernel
theorem dX10_setLimit_36 : decode cX10_setLimit 36 = .ok (.iconst 0, 1) := by decide +kernel
theorem dX10_setLimit_37 : decode cX10_setLimit 37 = .ok (.invokevirtual 94, 3) := by decide +kernel
theorem dX10_setLimit_40 : decode cX10_setLimit 40 = .ok (.aload_n 0, 1) := by decide +kernel
theorem dX10_setLimit_41 : decode cX10_setLimit 41 = .ok (.getfield 10, 3) := by decide +kernel
theorem dX10_setLimit_44 : decode cX10_setLimit 44 = .ok (.getfield 300, 3) := by decide +kernel
theorem dX10_setLimit_47 : decode cX10_setLimit 47 = .ok (.iload_n 1, 1) := by decide +kernel
theorem dX10_setLimit_48 : decode cX10_setLimit 48 = .ok (.iload_n 2, 1) := by decide +kernel
theorem dX10_setLimit_49 : decode cX10_setLimit 49 = .ok (.invokevirtual 304, 3) := by decide +kernel
theorem dX10_setLimit_52 : decode cX10_setLimit 52 = .ok (.ireturn, 1) := by decide +kernel
theorem dX10_breaches_0 : decode cX10_breaches 0 = .ok (.aload_n 0, 1) := by decide +kernel
theorem dX10_breaches_1 : decode cX10_breaches 1 = .ok (.getfield 10, 3) := by decide +kernel
theorem dX10_breaches_4 : decode cX10_breaches 4 = .ok (.getfield 300, 3) := by decide +kernel
theorem dX10_breaches_7 : decode cX10_breaches 7 = .ok (.getfield 309, 3) := by decide +kernel
theorem dX10_breaches_10 : decode cX10_breaches 10 = .ok (.ireturn, 1) := by decide +kernel
theorem dX10_strobe_0 : decode cX10_strobe 0 = .ok (.iload_n 1, 1) := by decide +kernel
theorem dX10_strobe_1 : decode cX10_strobe 1 = .ok (.iconst 1, 1) := by decide +kernel
theorem dX10_strobe_2 : decode cX10_strobe 2 = .ok (.bipush 30, 2) := by decide +kernel
theorem dX10_strobe_4 : decode cX10_strobe 4 = .ok (.invokestatic 46, 3) := by decide +kernel
theorem dX10_strobe_7 : decode cX10_strobe 7 = .ok (.ifCond .eq 17, 3) := by decide +kernel
theorem dX10_strobe_10 : decode cX10_strobe 10 = .ok (.iload_n 2, 1) := by decide +kernel
theorem dX10_strobe_11 : decode cX10_strobe 11 = .ok (.iconst 0, 1) := by decide +kernel
theorem dX10_strobe_12 : decode cX10_strobe 12 = .ok (.bipush 7, 2) := by decide +kernel
theorem dX10_strobe_14 : decode cX10_strobe 14 = .ok (.invokestatic 46, 3) := by decide +kernel
theorem dX10_strobe_17 : decode cX10_strobe 17 = .ok (.ifCond .eq 7, 3) := by decide +kernel
theorem dX10_strobe_20 : decode cX10_strobe 20 = .ok (.iconst 1, 1) := by decide +kernel
theorem dX10_strobe_21 : decode cX10_strobe 21 = .ok (.goto 4, 3) := by decide +kernel
theorem dX10_strobe_24 : decode cX10_strobe 24 = .ok (.iconst 0, 1) := by decide +kernel
theorem dX10_strobe_25 : decode cX10_strobe 25 = .ok (.invokestatic 50, 3) := by decide +kernel
theorem dX10_strobe_28 : decode cX10_strobe 28 = .ok (.aload_n 0, 1) := by decide +kernel
theorem dX10_strobe_29 : decode cX10_strobe 29 = .ok (.getfield 22, 3) := by decide +kernel
theorem dX10_strobe_32 : decode cX10_strobe 32 = .ok (.bipush 26, 2) := by decide +kernel
theorem dX10_strobe_34 : decode cX10_strobe 34 = .ok (.iload_n 1, 1) := by decide +kernel
theorem dX10_strobe_35 : decode cX10_strobe 35 = .ok (.iload_n 2, 1) := by decide +kernel
theorem dX10_strobe_36 : decode cX10_strobe 36 = .ok (.iconst 0, 1) := by decide +kernel
theorem dX10_strobe_37 : decode cX10_strobe 37 = .ok (.invokevirtual 94, 3) := by decide +kernel
theorem dX10_strobe_40 : decode cX10_strobe 40 = .ok (.aload_n 0, 1) := by decide +kernel
theorem dX10_strobe_41 : decode cX10_strobe 41 = .ok (.getfield 10, 3) := by decide +kernel
theorem dX10_strobe_44 : decode cX10_strobe 44 = .ok (.iload_n 1, 1) := by decide +kernel
theorem dX10_strobe_45 : decode cX10_strobe 45 = .ok (.iload_n 2, 1) := by decide +kernel
theorem dX10_strobe_46 : decode cX10_strobe 46 = .ok (.invokevirtual 312, 3) := by decide +kernel
theorem dX10_strobe_49 : decode cX10_strobe 49 = .ok (.ireturn, 1) := by decide +kernel
theorem dX10_light_0 : decode cX10_light 0 = .ok (.aload_n 0, 1) := by decide +kernel
theorem dX10_light_1 : decode cX10_light 1 = .ok (.getfield 10, 3) := by decide +kernel
theorem dX10_light_4 : decode cX10_light 4 = .ok (.invokevirtual 315, 3) := by decide +kernel
theorem dX10_light_7 : decode cX10_light 7 = .ok (.astore_n 1, 1) := by decide +kernel
theorem dX10_light_8 : decode cX10_light 8 = .ok (.aload_n 1, 1) := by decide +kernel
theorem dX10_light_9 : decode cX10_light 9 = .ok (.ifnonnull 14, 3) := by decide +kernel
theorem dX10_light_12 : decode cX10_light 12 = .ok (.new 189, 3) := by decide +kernel
theorem dX10_light_15 : decode cX10_light 15 = .ok (.dup, 1) := by decide +kernel
theorem dX10_light_16 : decode cX10_light 16 = .ok (.ldc_w 319, 3) := by decide +kernel
theorem dX10_light_19 : decode cX10_light 19 = .ok (.invokespecial 193, 3) := by decide +kernel
theorem dX10_light_22 : decode cX10_light 22 = .ok (.athrow, 1) := by decide +kernel
theorem dX10_light_23 : decode cX10_light 23 = .ok (.aload_n 0, 1) := by decide +kernel
theorem dX10_light_24 : decode cX10_light 24 = .ok (.getfield 10, 3) := by decide +kernel
theorem dX10_light_27 : decode cX10_light 27 = .ok (.getfield 321, 3) := by decide +kernel
theorem dX10_light_30 : decode cX10_light 30 = .ok (.aload_n 1, 1) := by decide +kernel
theorem dX10_light_31 : decode cX10_light 31 = .ok (.invokevirtual 324, 3) := by decide +kernel
theorem dX10_light_34 : decode cX10_light 34 = .ok (.iadd, 1) := by decide +kernel
theorem dX10_light_35 : decode cX10_light 35 = .ok (.bipush 8, 2) := by decide +kernel
theorem dX10_light_37 : decode cX10_light 37 = .ok (.irem, 1) := by decide +kernel
theorem dX10_light_38 : decode cX10_light 38 = .ok (.ireturn, 1) := by decide +kernel
theorem dX10_next_0 : decode cX10_next 0 = .ok (.aload_n 0, 1) := by decide +kernel
theorem dX10_next_1 : decode cX10_next 1 = .ok (.iload_n 1, 1) := by decide +kernel
theorem dX10_next_2 : decode cX10_next 2 = .ok (.iload_n 2, 1) := by decide +kernel
theorem dX10_next_3 : decode cX10_next 3 = .ok (.invokevirtual 327, 3) := by decide +kernel
theorem dX10_next_6 : decode cX10_next 6 = .ok (.aload_n 0, 1) := by decide +kernel
theorem dX10_next_7 : decode cX10_next 7 = .ok (.getfield 38, 3) := by decide +kernel
theorem dX10_next_10 : decode cX10_next 10 = .ok (.invokevirtual 331, 3) := by decide +kernel
theorem dX10_next_13 : decode cX10_next 13 = .ok (.ireturn, 1) := by decide +kernel
theorem dX10_cost_0 : decode cX10_cost 0 = .ok (.aload_n 0, 1) := by decide +kernel
theorem dX10_cost_1 : decode cX10_cost 1 = .ok (.iload_n 1, 1) := by decide +kernel
theorem dX10_cost_2 : decode cX10_cost 2 = .ok (.iload_n 2, 1) := by decide +kernel
theorem dX10_cost_3 : decode cX10_cost 3 = .ok (.invokevirtual 327, 3) := by decide +kernel
theorem dX10_cost_6 : decode cX10_cost 6 = .ok (.aload_n 0, 1) := by decide +kernel
theorem dX10_cost_7 : decode cX10_cost 7 = .ok (.getfield 38, 3) := by decide +kernel
theorem dX10_cost_10 : decode cX10_cost 10 = .ok (.getfield 334, 3) := by decide +kernel
theorem dX10_cost_13 : decode cX10_cost 13 = .ok (.ireturn, 1) := by decide +kernel
theorem dX10_type_0 : decode cX10_type 0 = .ok (.aload_n 0, 1) := by decide +kernel
theorem dX10_type_1 : decode cX10_type 1 = .ok (.getfield 29, 3) := by decide +kernel
theorem dX10_type_4 : decode cX10_type 4 = .ok (.getfield 337, 3) := by decide +kernel
theorem dX10_type_7 : decode cX10_type 7 = .ok (.aload_n 0, 1) := by decide +kernel
theorem dX10_type_8 : decode cX10_type 8 = .ok (.getfield 29, 3) := by decide +kernel
theorem dX10_type_11 : decode cX10_type 11 = .ok (.getfield 340, 3) := by decide +kernel
theorem dX10_type_14 : decode cX10_type 14 = .ok (.arraylength, 1) := by decide +kernel
theorem dX10_type_15 : decode cX10_type 15 = .ok (.if_icmp .lt 14, 3) := by decide +kernel
theorem dX10_type_18 : decode cX10_type 18 = .ok (.new 63, 3) := by decide +kernel
theorem dX10_type_21 : decode cX10_type 21 = .ok (.dup, 1) := by decide +kernel
theorem dX10_type_22 : decode cX10_type 22 = .ok (.ldc_w 344, 3) := by decide +kernel
theorem dX10_type_25 : decode cX10_type 25 = .ok (.invokespecial 67, 3) := by decide +kernel
theorem dX10_type_28 : decode cX10_type 28 = .ok (.athrow, 1) := by decide +kernel
theorem dX10_type_29 : decode cX10_type 29 = .ok (.aload_n 0, 1) := by decide +kernel
theorem dX10_type_30 : decode cX10_type 30 = .ok (.getfield 29, 3) := by decide +kernel
theorem dX10_type_33 : decode cX10_type 33 = .ok (.iload_n 1, 1) := by decide +kernel
theorem dX10_type_34 : decode cX10_type 34 = .ok (.invokevirtual 346, 3) := by decide +kernel
theorem dX10_type_37 : decode cX10_type 37 = .ok (.ireturn, 1) := by decide +kernel
theorem dX10_wipe_0 : decode cX10_wipe 0 = .ok (.aload_n 0, 1) := by decide +kernel
theorem dX10_wipe_1 : decode cX10_wipe 1 = .ok (.getfield 29, 3) := by decide +kernel
theorem dX10_wipe_4 : decode cX10_wipe 4 = .ok (.invokevirtual 350, 3) := by decide +kernel
theorem dX10_wipe_7 : decode cX10_wipe 7 = .ok (.ireturn, 1) := by decide +kernel
theorem dX10_perform_0 : decode cX10_perform 0 = .ok (.aload_n 0, 1) := by decide +kernel
theorem dX10_perform_1 : decode cX10_perform 1 = .ok (.getfield 29, 3) := by decide +kernel
theorem dX10_perform_4 : decode cX10_perform 4 = .ok (.invokevirtual 353, 3) := by decide +kernel
theorem dX10_perform_7 : decode cX10_perform 7 = .ok (.ifCond .ne 14, 3) := by decide +kernel
theorem dX10_perform_10 : decode cX10_perform 10 = .ok (.new 356, 3) := by decide +kernel
theorem dX10_perform_13 : decode cX10_perform 13 = .ok (.dup, 1) := by decide +kernel
theorem dX10_perform_14 : decode cX10_perform 14 = .ok (.ldc_w 358, 3) := by decide +kernel
theorem dX10_perform_17 : decode cX10_perform 17 = .ok (.invokespecial 360, 3) := by decide +kernel
theorem dX10_perform_20 : decode cX10_perform 20 = .ok (.athrow, 1) := by decide +kernel
theorem dX10_perform_21 : decode cX10_perform 21 = .ok (.aload_n 0, 1) := by decide +kernel
theorem dX10_perform_22 : decode cX10_perform 22 = .ok (.getfield 29, 3) := by decide +kernel
theorem dX10_perform_25 : decode cX10_perform 25 = .ok (.aload_n 0, 1) := by decide +kernel
theorem dX10_perform_26 : decode cX10_perform 26 = .ok (.getfield 10, 3) := by decide +kernel
theorem dX10_perform_29 : decode cX10_perform 29 = .ok (.getfield 361, 3) := by decide +kernel
theorem dX10_perform_32 : decode cX10_perform 32 = .ok (.invokevirtual 365, 3) := by decide +kernel
theorem dX10_perform_35 : decode cX10_perform 35 = .ok (.ifCond .ne 14, 3) := by decide +kernel
theorem dX10_perform_38 : decode cX10_perform 38 = .ok (.new 89, 3) := by decide +kernel
theorem dX10_perform_41 : decode cX10_perform 41 = .ok (.dup, 1) := by decide +kernel
theorem dX10_perform_42 : decode cX10_perform 42 = .ok (.ldc_w 369, 3) := by decide +kernel
theorem dX10_perform_45 : decode cX10_perform 45 = .ok (.invokespecial 93, 3) := by decide +kernel
theorem dX10_perform_48 : decode cX10_perform 48 = .ok (.athrow, 1) := by decide +kernel
theorem dX10_perform_49 : decode cX10_perform 49 = .ok (.aload_n 0, 1) := by decide +kernel
theorem dX10_perform_50 : decode cX10_perform 50 = .ok (.getfield 22, 3) := by decide +kernel
theorem dX10_perform_53 : decode cX10_perform 53 = .ok (.aload_n 0, 1) := by decide +kernel
theorem dX10_perform_54 : decode cX10_perform 54 = .ok (.getfield 29, 3) := by decide +kernel
theorem dX10_perform_57 : decode cX10_perform 57 = .ok (.getfield 340, 3) := by decide +kernel
theorem dX10_perform_60 : decode cX10_perform 60 = .ok (.aload_n 0, 1) := by decide +kernel
theorem dX10_perform_61 : decode cX10_perform 61 = .ok (.getfield 29, 3) := by decide +kernel
theorem dX10_perform_64 : decode cX10_perform 64 = .ok (.getfield 337, 3) := by decide +kernel
theorem dX10_perform_67 : decode cX10_perform 67 = .ok (.invokevirtual 371, 3) := by decide +kernel
theorem dX10_perform_70 : decode cX10_perform 70 = .ok (.istore_n 1, 1) := by decide +kernel
theorem dX10_perform_71 : decode cX10_perform 71 = .ok (.aload_n 0, 1) := by decide +kernel
theorem dX10_perform_72 : decode cX10_perform 72 = .ok (.getfield 22, 3) := by decide +kernel
theorem dX10_perform_75 : decode cX10_perform 75 = .ok (.bipush 27, 2) := by decide +kernel
theorem dX10_perform_77 : decode cX10_perform 77 = .ok (.iload_n 1, 1) := by decide +kernel
theorem dX10_perform_78 : decode cX10_perform 78 = .ok (.iload_n 1, 1) := by decide +kernel
theorem dX10_perform_79 : decode cX10_perform 79 = .ok (.aload_n 0, 1) := by decide +kernel
theorem dX10_perform_80 : decode cX10_perform 80 = .ok (.getfield 29, 3) := by decide +kernel
theorem dX10_perform_83 : decode cX10_perform 83 = .ok (.getfield 337, 3) := by decide +kernel
theorem dX10_perform_86 : decode cX10_perform 86 = .ok (.iadd, 1) := by decide +kernel
theorem dX10_perform_87 : decode cX10_perform 87 = .ok (.iconst 0, 1) := by decide +kernel
theorem dX10_perform_88 : decode cX10_perform 88 = .ok (.invokevirtual 94, 3) := by decide +kernel
theorem dX10_perform_91 : decode cX10_perform 91 = .ok (.aload_n 0, 1) := by decide +kernel
theorem dX10_perform_92 : decode cX10_perform 92 = .ok (.getfield 29, 3) := by decide +kernel
theorem dX10_perform_95 : decode cX10_perform 95 = .ok (.aload_n 0, 1) := by decide +kernel
theorem dX10_perform_96 : decode cX10_perform 96 = .ok (.getfield 10, 3) := by decide +kernel
theorem dX10_perform_99 : decode cX10_perform 99 = .ok (.getfield 361, 3) := by decide +kernel
theorem dX10_perform_102 : decode cX10_perform 102 = .ok (.aload_n 0, 1) := by decide +kernel
theorem dX10_perform_103 : decode cX10_perform 103 = .ok (.getfield 29, 3) := by decide +kernel
theorem dX10_perform_106 : decode cX10_perform 106 = .ok (.getfield 340, 3) := by decide +kernel
theorem dX10_perform_109 : decode cX10_perform 109 = .ok (.iconst 0, 1) := by decide +kernel
theorem dX10_perform_110 : decode cX10_perform 110 = .ok (.aload_n 0, 1) := by decide +kernel
theorem dX10_perform_111 : decode cX10_perform 111 = .ok (.getfield 29, 3) := by decide +kernel
theorem dX10_perform_114 : decode cX10_perform 114 = .ok (.getfield 337, 3) := by decide +kernel
theorem dX10_perform_117 : decode cX10_perform 117 = .ok (.invokevirtual 375, 3) := by decide +kernel
theorem dX10_perform_120 : decode cX10_perform 120 = .ok (.istore_n 2, 1) := by decide +kernel
theorem dX10_perform_121 : decode cX10_perform 121 = .ok (.aload_n 0, 1) := by decide +kernel
theorem dX10_perform_122 : decode cX10_perform 122 = .ok (.getfield 29, 3) := by decide +kernel
theorem dX10_perform_125 : decode cX10_perform 125 = .ok (.invokevirtual 350, 3) := by decide +kernel
theorem dX10_perform_128 : decode cX10_perform 128 = .ok (.pop, 1) := by decide +kernel
theorem dX10_perform_129 : decode cX10_perform 129 = .ok (.iload_n 2, 1) := by decide +kernel
theorem dX10_perform_130 : decode cX10_perform 130 = .ok (.ireturn, 1) := by decide +kernel
theorem dX10_cause_0 : decode cX10_cause 0 = .ok (.aload_n 0, 1) := by decide +kernel
theorem dX10_cause_1 : decode cX10_cause 1 = .ok (.iload_n 1, 1) := by decide +kernel
theorem dX10_cause_2 : decode cX10_cause 2 = .ok (.invokevirtual 379, 3) := by decide +kernel
theorem dX10_cause_5 : decode cX10_cause 5 = .ok (.aload_n 0, 1) := by decide +kernel
theorem dX10_cause_6 : decode cX10_cause 6 = .ok (.getfield 29, 3) := by decide +kernel
theorem dX10_cause_9 : decode cX10_cause 9 = .ok (.iload_n 1, 1) := by decide +kernel
theorem dX10_cause_10 : decode cX10_cause 10 = .ok (.invokevirtual 382, 3) := by decide +kernel
theorem dX10_cause_13 : decode cX10_cause 13 = .ok (.ireturn, 1) := by decide +kernel
theorem dX10_causeNumber_0 : decode cX10_causeNumber 0 = .ok (.aload_n 0, 1) := by decide +kernel
theorem dX10_causeNumber_1 : decode cX10_causeNumber 1 = .ok (.iload_n 1, 1) := by decide +kernel
theorem dX10_causeNumber_2 : decode cX10_causeNumber 2 = .ok (.invokevirtual 379, 3) := by decide +kernel
theorem dX10_causeNumber_5 : decode cX10_causeNumber 5 = .ok (.aload_n 0, 1) := by decide +kernel
theorem dX10_causeNumber_6 : decode cX10_causeNumber 6 = .ok (.getfield 29, 3) := by decide +kernel
theorem dX10_causeNumber_9 : decode cX10_causeNumber 9 = .ok (.iload_n 1, 1) := by decide +kernel
theorem dX10_causeNumber_10 : decode cX10_causeNumber 10 = .ok (.invokevirtual 386, 3) := by decide +kernel
theorem dX10_causeNumber_13 : decode cX10_causeNumber 13 = .ok (.ireturn, 1) := by decide +kernel
theorem dX10_skip_0 : decode cX10_skip 0 = .ok (.aload_n 0, 1) := by decide +kernel
theorem dX10_skip_1 : decode cX10_skip 1 = .ok (.iload_n 1, 1) := by decide +kernel
theorem dX10_skip_2 : decode cX10_skip 2 = .ok (.invokevirtual 119, 3) := by decide +kernel
theorem dX10_skip_5 : decode cX10_skip 5 = .ok (.astore_n 3, 1) := by decide +kernel
theorem dX10_skip_6 : decode cX10_skip 6 = .ok (.iload_n 2, 1) := by decide +kernel
theorem dX10_skip_7 : decode cX10_skip 7 = .ok (.iconst 1, 1) := by decide +kernel
theorem dX10_skip_8 : decode cX10_skip 8 = .ok (.bipush 32, 2) := by decide +kernel
theorem dX10_skip_10 : decode cX10_skip 10 = .ok (.invokestatic 46, 3) := by decide +kernel
theorem dX10_skip_13 : decode cX10_skip 13 = .ok (.invokestatic 50, 3) := by decide +kernel
theorem dX10_skip_16 : decode cX10_skip 16 = .ok (.aload_n 3, 1) := by decide +kernel
theorem dX10_skip_17 : decode cX10_skip 17 = .ok (.invokestatic 135, 3) := by decide +kernel
theorem dX10_skip_20 : decode cX10_skip 20 = .ok (.aload_n 0, 1) := by decide +kernel
theorem dX10_skip_21 : decode cX10_skip 21 = .ok (.getfield 22, 3) := by decide +kernel
theorem dX10_skip_24 : decode cX10_skip 24 = .ok (.bipush 28, 2) := by decide +kernel
theorem dX10_skip_26 : decode cX10_skip 26 = .ok (.iload_n 1, 1) := by decide +kernel
theorem dX10_skip_27 : decode cX10_skip 27 = .ok (.iload_n 2, 1) := by decide +kernel
theorem dX10_skip_28 : decode cX10_skip 28 = .ok (.iconst 0, 1) := by decide +kernel
theorem dX10_skip_29 : decode cX10_skip 29 = .ok (.invokevirtual 94, 3) := by decide +kernel
theorem dX10_skip_32 : decode cX10_skip 32 = .ok (.aload_n 3, 1) := by decide +kernel
theorem dX10_skip_33 : decode cX10_skip 33 = .ok (.iload_n 2, 1) := by decide +kernel
theorem dX10_skip_34 : decode cX10_skip 34 = .ok (.invokevirtual 389, 3) := by decide +kernel
theorem dX10_skip_37 : decode cX10_skip 37 = .ok (.lreturn, 1) := by decide +kernel
theorem dX10_loseStick_0 : decode cX10_loseStick 0 = .ok (.aload_n 0, 1) := by decide +kernel
theorem dX10_loseStick_1 : decode cX10_loseStick 1 = .ok (.iload_n 1, 1) := by decide +kernel
theorem dX10_loseStick_2 : decode cX10_loseStick 2 = .ok (.invokevirtual 119, 3) := by decide +kernel
theorem dX10_loseStick_5 : decode cX10_loseStick 5 = .ok (.astore_n 2, 1) := by decide +kernel
theorem dX10_loseStick_6 : decode cX10_loseStick 6 = .ok (.aload_n 2, 1) := by decide +kernel
theorem dX10_loseStick_7 : decode cX10_loseStick 7 = .ok (.invokestatic 135, 3) := by decide +kernel
theorem dX10_loseStick_10 : decode cX10_loseStick 10 = .ok (.aload_n 0, 1) := by decide +kernel
theorem dX10_loseStick_11 : decode cX10_loseStick 11 = .ok (.getfield 22, 3) := by decide +kernel
theorem dX10_loseStick_14 : decode cX10_loseStick 14 = .ok (.bipush 29, 2) := by decide +kernel
theorem dX10_loseStick_16 : decode cX10_loseStick 16 = .ok (.iload_n 1, 1) := by decide +kernel
theorem dX10_loseStick_17 : decode cX10_loseStick 17 = .ok (.iconst 0, 1) := by decide +kernel
theorem dX10_loseStick_18 : decode cX10_loseStick 18 = .ok (.iconst 0, 1) := by decide +kernel
theorem dX10_loseStick_19 : decode cX10_loseStick 19 = .ok (.invokevirtual 94, 3) := by decide +kernel
theorem dX10_loseStick_22 : decode cX10_loseStick 22 = .ok (.aload_n 0, 1) := by decide +kernel
theorem dX10_loseStick_23 : decode cX10_loseStick 23 = .ok (.getfield 10, 3) := by decide +kernel
theorem dX10_loseStick_26 : decode cX10_loseStick 26 = .ok (.aload_n 2, 1) := by decide +kernel
theorem dX10_loseStick_27 : decode cX10_loseStick 27 = .ok (.invokevirtual 393, 3) := by decide +kernel
theorem dX10_loseStick_30 : decode cX10_loseStick 30 = .ok (.ireturn, 1) := by decide +kernel
theorem dX10_logged_0 : decode cX10_logged 0 = .ok (.aload_n 0, 1) := by decide +kernel
theorem dX10_logged_1 : decode cX10_logged 1 = .ok (.getfield 22, 3) := by decide +kernel
theorem dX10_logged_4 : decode cX10_logged 4 = .ok (.getfield 396, 3) := by decide +kernel
theorem dX10_logged_7 : decode cX10_logged 7 = .ok (.ireturn, 1) := by decide +kernel
theorem dX10_print_0 : decode cX10_print 0 = .ok (.aload_n 0, 1) := by decide +kernel
theorem dX10_print_1 : decode cX10_print 1 = .ok (.getfield 10, 3) := by decide +kernel
theorem dX10_print_4 : decode cX10_print 4 = .ok (.invokevirtual 399, 3) := by decide +kernel
theorem dX10_print_7 : decode cX10_print 7 = .ok (.lreturn, 1) := by decide +kernel
theorem dX10_printAgain_0 : decode cX10_printAgain 0 = .ok (.aload_n 0, 1) := by decide +kernel
theorem dX10_printAgain_1 : decode cX10_printAgain 1 = .ok (.invokevirtual 403, 3) := by decide +kernel
theorem dX10_printAgain_4 : decode cX10_printAgain 4 = .ok (.aload_n 0, 1) := by decide +kernel
theorem dX10_printAgain_5 : decode cX10_printAgain 5 = .ok (.getfield 16, 3) := by decide +kernel
theorem dX10_printAgain_8 : decode cX10_printAgain 8 = .ok (.invokevirtual 399, 3) := by decide +kernel
theorem dX10_printAgain_11 : decode cX10_printAgain 11 = .ok (.lreturn, 1) := by decide +kernel
theorem dX10_silentShare_0 : decode cX10_silentShare 0 = .ok (.aload_n 0, 1) := by decide +kernel
theorem dX10_silentShare_1 : decode cX10_silentShare 1 = .ok (.invokevirtual 406, 3) := by decide +kernel
theorem dX10_silentShare_4 : decode cX10_silentShare 4 = .ok (.aload_n 0, 1) := by decide +kernel
theorem dX10_silentShare_5 : decode cX10_silentShare 5 = .ok (.getfield 10, 3) := by decide +kernel
theorem dX10_silentShare_8 : decode cX10_silentShare 8 = .ok (.getfield 258, 3) := by decide +kernel
theorem dX10_silentShare_11 : decode cX10_silentShare 11 = .ok (.i2f, 1) := by decide +kernel
theorem dX10_silentShare_12 : decode cX10_silentShare 12 = .ok (.aload_n 0, 1) := by decide +kernel
theorem dX10_silentShare_13 : decode cX10_silentShare 13 = .ok (.getfield 10, 3) := by decide +kernel
theorem dX10_silentShare_16 : decode cX10_silentShare 16 = .ok (.getfield 252, 3) := by decide +kernel
theorem dX10_silentShare_19 : decode cX10_silentShare 19 = .ok (.i2f, 1) := by decide +kernel
theorem dX10_silentShare_20 : decode cX10_silentShare 20 = .ok (.fdiv, 1) := by decide +kernel
theorem dX10_silentShare_21 : decode cX10_silentShare 21 = .ok (.freturn, 1) := by decide +kernel
theorem dX10_meanLoudness_0 : decode cX10_meanLoudness 0 = .ok (.aload_n 0, 1) := by decide +kernel
theorem dX10_meanLoudness_1 : decode cX10_meanLoudness 1 = .ok (.invokevirtual 406, 3) := by decide +kernel
theorem dX10_meanLoudness_4 : decode cX10_meanLoudness 4 = .ok (.aload_n 0, 1) := by decide +kernel
theorem dX10_meanLoudness_5 : decode cX10_meanLoudness 5 = .ok (.getfield 10, 3) := by decide +kernel
theorem dX10_meanLoudness_8 : decode cX10_meanLoudness 8 = .ok (.getfield 409, 3) := by decide +kernel
theorem dX10_meanLoudness_11 : decode cX10_meanLoudness 11 = .ok (.l2d, 1) := by decide +kernel
theorem dX10_meanLoudness_12 : decode cX10_meanLoudness 12 = .ok (.aload_n 0, 1) := by decide +kernel
theorem dX10_meanLoudness_13 : decode cX10_meanLoudness 13 = .ok (.getfield 10, 3) := by decide +kernel
theorem dX10_meanLoudness_16 : decode cX10_meanLoudness 16 = .ok (.getfield 252, 3) := by decide +kernel
theorem dX10_meanLoudness_19 : decode cX10_meanLoudness 19 = .ok (.i2d, 1) := by decide +kernel
theorem dX10_meanLoudness_20 : decode cX10_meanLoudness 20 = .ok (.ddiv, 1) := by decide +kernel
theorem dX10_meanLoudness_21 : decode cX10_meanLoudness 21 = .ok (.dreturn, 1) := by decide +kernel
theorem dX10_isSound_0 : decode cX10_isSound 0 = .ok (.aload_n 0, 1) := by decide +kernel
theorem dX10_isSound_1 : decode cX10_isSound 1 = .ok (.invokevirtual 403, 3) := by decide +kernel
theorem dX10_isSound_4 : decode cX10_isSound 4 = .ok (.aload_n 0, 1) := by decide +kernel
theorem dX10_isSound_5 : decode cX10_isSound 5 = .ok (.getfield 10, 3) := by decide +kernel
theorem dX10_isSound_8 : decode cX10_isSound 8 = .ok (.invokevirtual 399, 3) := by decide +kernel
theorem dX10_isSound_11 : decode cX10_isSound 11 = .ok (.aload_n 0, 1) := by decide +kernel
theorem dX10_isSound_12 : decode cX10_isSound 12 = .ok (.getfield 16, 3) := by decide +kernel
theorem dX10_isSound_15 : decode cX10_isSound 15 = .ok (.invokevirtual 399, 3) := by decide +kernel
theorem dX10_isSound_18 : decode cX10_isSound 18 = .ok (.lcmp, 1) := by decide +kernel
theorem dX10_isSound_19 : decode cX10_isSound 19 = .ok (.ifCond .ne 37, 3) := by decide +kernel
theorem dX10_isSound_22 : decode cX10_isSound 22 = .ok (.aload_n 0, 1) := by decide +kernel
theorem dX10_isSound_23 : decode cX10_isSound 23 = .ok (.getfield 10, 3) := by decide +kernel
theorem dX10_isSound_26 : decode cX10_isSound 26 = .ok (.invokevirtual 412, 3) := by decide +kernel
theorem dX10_isSound_29 : decode cX10_isSound 29 = .ok (.ifCond .eq 27, 3) := by decide +kernel
theorem dX10_isSound_32 : decode cX10_isSound 32 = .ok (.aload_n 0, 1) := by decide +kernel
theorem dX10_isSound_33 : decode cX10_isSound 33 = .ok (.getfield 10, 3) := by decide +kernel
theorem dX10_isSound_36 : decode cX10_isSound 36 = .ok (.getfield 284, 3) := by decide +kernel
theorem dX10_isSound_39 : decode cX10_isSound 39 = .ok (.invokevirtual 415, 3) := by decide +kernel
theorem dX10_isSound_42 : decode cX10_isSound 42 = .ok (.ifCond .eq 14, 3) := by decide +kernel
theorem dX10_isSound_45 : decode cX10_isSound 45 = .ok (.aload_n 0, 1) := by decide +kernel
theorem dX10_isSound_46 : decode cX10_isSound 46 = .ok (.invokevirtual 418, 3) := by decide +kernel
theorem dX10_isSound_49 : decode cX10_isSound 49 = .ok (.ifCond .eq 7, 3) := by decide +kernel
theorem dX10_isSound_52 : decode cX10_isSound 52 = .ok (.iconst 1, 1) := by decide +kernel
theorem dX10_isSound_53 : decode cX10_isSound 53 = .ok (.goto 4, 3) := by decide +kernel
theorem dX10_isSound_56 : decode cX10_isSound 56 = .ok (.iconst 0, 1) := by decide +kernel
theorem dX10_isSound_57 : decode cX10_isSound 57 = .ok (.ireturn, 1) := by decide +kernel
theorem dX10_isIn_0 : decode cX10_isIn 0 = .ok (.iload_n 0, 1) := by decide +kernel
theorem dX10_isIn_1 : decode cX10_isIn 1 = .ok (.iload_n 1, 1) := by decide +kernel
theorem dX10_isIn_2 : decode cX10_isIn 2 = .ok (.if_icmp .lt 12, 3) := by decide +kernel
theorem dX10_isIn_5 : decode cX10_isIn 5 = .ok (.iload_n 0, 1) := by decide +kernel
theorem dX10_isIn_6 : decode cX10_isIn 6 = .ok (.iload_n 2, 1) := by decide +kernel
theorem dX10_isIn_7 : decode cX10_isIn 7 = .ok (.if_icmp .gt 7, 3) := by decide +kernel
theorem dX10_isIn_10 : decode cX10_isIn 10 = .ok (.iconst 1, 1) := by decide +kernel
theorem dX10_isIn_11 : decode cX10_isIn 11 = .ok (.goto 4, 3) := by decide +kernel
theorem dX10_isIn_14 : decode cX10_isIn 14 = .ok (.iconst 0, 1) := by decide +kernel
theorem dX10_isIn_15 : decode cX10_isIn 15 = .ok (.ireturn, 1) := by decide +kernel
theorem dX10_isTempo_0 : decode cX10_isTempo 0 = .ok (.iload_n 0, 1) := by decide +kernel
theorem dX10_isTempo_1 : decode cX10_isTempo 1 = .ok (.sipush 600, 3) := by decide +kernel
theorem dX10_isTempo_4 : decode cX10_isTempo 4 = .ok (.sipush 2000, 3) := by decide +kernel
theorem dX10_isTempo_7 : decode cX10_isTempo 7 = .ok (.invokestatic 46, 3) := by decide +kernel
theorem dX10_isTempo_10 : decode cX10_isTempo 10 = .ok (.ireturn, 1) := by decide +kernel
theorem dX10_demand_0 : decode cX10_demand 0 = .ok (.iload_n 0, 1) := by decide +kernel
theorem dX10_demand_1 : decode cX10_demand 1 = .ok (.ifCond .ne 14, 3) := by decide +kernel
theorem dX10_demand_4 : decode cX10_demand 4 = .ok (.new 356, 3) := by decide +kernel
theorem dX10_demand_7 : decode cX10_demand 7 = .ok (.dup, 1) := by decide +kernel
theorem dX10_demand_8 : decode cX10_demand 8 = .ok (.ldc_w 421, 3) := by decide +kernel
theorem dX10_demand_11 : decode cX10_demand 11 = .ok (.invokespecial 360, 3) := by decide +kernel
theorem dX10_demand_14 : decode cX10_demand 14 = .ok (.athrow, 1) := by decide +kernel
theorem dX10_demand_15 : decode cX10_demand 15 = .ok (.return_, 1) := by decide +kernel
theorem dX10_demandRecord_0 : decode cX10_demandRecord 0 = .ok (.aload_n 0, 1) := by decide +kernel
theorem dX10_demandRecord_1 : decode cX10_demandRecord 1 = .ok (.getfield 185, 3) := by decide +kernel
theorem dX10_demandRecord_4 : decode cX10_demandRecord 4 = .ok (.ifnonnull 13, 3) := by decide +kernel
theorem dX10_demandRecord_7 : decode cX10_demandRecord 7 = .ok (.new 89, 3) := by decide +kernel
theorem dX10_demandRecord_10 : decode cX10_demandRecord 10 = .ok (.dup, 1) := by decide +kernel
theorem dX10_demandRecord_11 : decode cX10_demandRecord 11 = .ok (.ldc 191, 2) := by decide +kernel
theorem dX10_demandRecord_13 : decode cX10_demandRecord 13 = .ok (.invokespecial 93, 3) := by decide +kernel
theorem dX10_demandRecord_16 : decode cX10_demandRecord 16 = .ok (.athrow, 1) := by decide +kernel
theorem dX10_demandRecord_17 : decode cX10_demandRecord 17 = .ok (.return_, 1) := by decide +kernel
theorem dX10_demandPair_0 : decode cX10_demandPair 0 = .ok (.aload_n 0, 1) := by decide +kernel
theorem dX10_demandPair_1 : decode cX10_demandPair 1 = .ok (.invokestatic 135, 3) := by decide +kernel
theorem dX10_demandPair_4 : decode cX10_demandPair 4 = .ok (.aload_n 1, 1) := by decide +kernel
theorem dX10_demandPair_5 : decode cX10_demandPair 5 = .ok (.invokestatic 135, 3) := by decide +kernel
theorem dX10_demandPair_8 : decode cX10_demandPair 8 = .ok (.aload_n 0, 1) := by decide +kernel
theorem dX10_demandPair_9 : decode cX10_demandPair 9 = .ok (.aload_n 1, 1) := by decide +kernel
theorem dX10_demandPair_10 : decode cX10_demandPair 10 = .ok (.if_acmp .ne 14, 3) := by decide +kernel
theorem dX10_demandPair_13 : decode cX10_demandPair 13 = .ok (.new 89, 3) := by decide +kernel
theorem dX10_demandPair_16 : decode cX10_demandPair 16 = .ok (.dup, 1) := by decide +kernel
theorem dX10_demandPair_17 : decode cX10_demandPair 17 = .ok (.ldc_w 423, 3) := by decide +kernel
theorem dX10_demandPair_20 : decode cX10_demandPair 20 = .ok (.invokespecial 93, 3) := by decide +kernel
theorem dX10_demandPair_23 : decode cX10_demandPair 23 = .ok (.athrow, 1) := by decide +kernel
theorem dX10_demandPair_24 : decode cX10_demandPair 24 = .ok (.return_, 1) := by decide +kernel
theorem dX10_demandTicks_0 : decode cX10_demandTicks 0 = .ok (.aload_n 0, 1) := by decide +kernel
theorem dX10_demandTicks_1 : decode cX10_demandTicks 1 = .ok (.getfield 10, 3) := by decide +kernel
theorem dX10_demandTicks_4 : decode cX10_demandTicks 4 = .ok (.getfield 252, 3) := by decide +kernel
theorem dX10_demandTicks_7 : decode cX10_demandTicks 7 = .ok (.ifCond .ne 14, 3) := by decide +kernel
theorem dX10_demandTicks_10 : decode cX10_demandTicks 10 = .ok (.new 425, 3) := by decide +kernel
theorem dX10_demandTicks_13 : decode cX10_demandTicks 13 = .ok (.dup, 1) := by decide +kernel
theorem dX10_demandTicks_14 : decode cX10_demandTicks 14 = .ok (.ldc_w 427, 3) := by decide +kernel
theorem dX10_demandTicks_17 : decode cX10_demandTicks 17 = .ok (.invokespecial 429, 3) := by decide +kernel
theorem dX10_demandTicks_20 : decode cX10_demandTicks 20 = .ok (.athrow, 1) := by decide +kernel
theorem dX10_demandTicks_21 : decode cX10_demandTicks 21 = .ok (.return_, 1) := by decide +kernel
theorem dX10_demandCause_0 : decode cX10_demandCause 0 = .ok (.iload_n 1, 1) := by decide +kernel
theorem dX10_demandCause_1 : decode cX10_demandCause 1 = .ok (.ifCond .lt 14, 3) := by decide +kernel
theorem dX10_demandCause_4 : decode cX10_demandCause 4 = .ok (.iload_n 1, 1) := by decide +kernel
theorem dX10_demandCause_5 : decode cX10_demandCause 5 = .ok (.aload_n 0, 1) := by decide +kernel
theorem dX10_demandCause_6 : decode cX10_demandCause 6 = .ok (.getfield 29, 3) := by decide +kernel
theorem dX10_demandCause_9 : decode cX10_demandCause 9 = .ok (.getfield 430, 3) := by decide +kernel
theorem dX10_demandCause_12 : decode cX10_demandCause 12 = .ok (.if_icmp .lt 14, 3) := by decide +kernel
theorem dX10_demandCause_15 : decode cX10_demandCause 15 = .ok (.new 189, 3) := by decide +kernel
theorem dX10_demandCause_18 : decode cX10_demandCause 18 = .ok (.dup, 1) := by decide +kernel
theorem dX10_demandCause_19 : decode cX10_demandCause 19 = .ok (.ldc_w 433, 3) := by decide +kernel
theorem dX10_demandCause_22 : decode cX10_demandCause 22 = .ok (.invokespecial 193, 3) := by decide +kernel
theorem dX10_demandCause_25 : decode cX10_demandCause 25 = .ok (.athrow, 1) := by decide +kernel
theorem dX10_demandCause_26 : decode cX10_demandCause 26 = .ok (.return_, 1) := by decide +kernel
theorem dX10_deckOf_0 : decode cX10_deckOf 0 = .ok (.aload_n 0, 1) := by decide +kernel
theorem dX10_deckOf_1 : decode cX10_deckOf 1 = .ok (.getfield 10, 3) := by decide +kernel
theorem dX10_deckOf_4 : decode cX10_deckOf 4 = .ok (.iload_n 1, 1) := by decide +kernel
theorem dX10_deckOf_5 : decode cX10_deckOf 5 = .ok (.invokevirtual 435, 3) := by decide +kernel
theorem dX10_deckOf_8 : decode cX10_deckOf 8 = .ok (.astore_n 2, 1) := by decide +kernel
theorem dX10_deckOf_9 : decode cX10_deckOf 9 = .ok (.aload_n 2, 1) := by decide +kernel
theorem dX10_deckOf_10 : decode cX10_deckOf 10 = .ok (.ifnonnull 14, 3) := by decide +kernel
theorem dX10_deckOf_13 : decode cX10_deckOf 13 = .ok (.new 438, 3) := by decide +kernel
theorem dX10_deckOf_16 : decode cX10_deckOf 16 = .ok (.dup, 1) := by decide +kernel
theorem dX10_deckOf_17 : decode cX10_deckOf 17 = .ok (.ldc_w 440, 3) := by decide +kernel
theorem dX10_deckOf_20 : decode cX10_deckOf 20 = .ok (.invokespecial 442, 3) := by decide +kernel
theorem dX10_deckOf_23 : decode cX10_deckOf 23 = .ok (.athrow, 1) := by decide +kernel
theorem dX10_deckOf_24 : decode cX10_deckOf 24 = .ok (.aload_n 2, 1) := by decide +kernel
theorem dX10_deckOf_25 : decode cX10_deckOf 25 = .ok (.areturn, 1) := by decide +kernel
theorem dX10_discOf_0 : decode cX10_discOf 0 = .ok (.aload_n 0, 1) := by decide +kernel
theorem dX10_discOf_1 : decode cX10_discOf 1 = .ok (.getfield 10, 3) := by decide +kernel
theorem dX10_discOf_4 : decode cX10_discOf 4 = .ok (.iload_n 1, 1) := by decide +kernel
theorem dX10_discOf_5 : decode cX10_discOf 5 = .ok (.invokevirtual 443, 3) := by decide +kernel
theorem dX10_discOf_8 : decode cX10_discOf 8 = .ok (.astore_n 2, 1) := by decide +kernel
theorem dX10_discOf_9 : decode cX10_discOf 9 = .ok (.aload_n 2, 1) := by decide +kernel
theorem dX10_discOf_10 : decode cX10_discOf 10 = .ok (.ifnonnull 14, 3) := by decide +kernel
theorem dX10_discOf_13 : decode cX10_discOf 13 = .ok (.new 438, 3) := by decide +kernel
theorem dX10_discOf_16 : decode cX10_discOf 16 = .ok (.dup, 1) := by decide +kernel
theorem dX10_discOf_17 : decode cX10_discOf 17 = .ok (.ldc_w 446, 3) := by decide +kernel
theorem dX10_discOf_20 : decode cX10_discOf 20 = .ok (.invokespecial 442, 3) := by decide +kernel
theorem dX10_discOf_23 : decode cX10_discOf 23 = .ok (.athrow, 1) := by decide +kernel
theorem dX10_discOf_24 : decode cX10_discOf 24 = .ok (.aload_n 2, 1) := by decide +kernel
theorem dX10_discOf_25 : decode cX10_discOf 25 = .ok (.areturn, 1) := by decide +kernel
theorem dX10_searchFrom_0 : decode cX10_searchFrom 0 = .ok (.aload_n 0, 1) := by decide +kernel
theorem dX10_searchFrom_1 : decode cX10_searchFrom 1 = .ok (.iload_n 1, 1) := by decide +kernel
theorem dX10_searchFrom_2 : decode cX10_searchFrom 2 = .ok (.invokevirtual 119, 3) := by decide +kernel
theorem dX10_searchFrom_5 : decode cX10_searchFrom 5 = .ok (.astore_n 3, 1) := by decide +kernel
theorem dX10_searchFrom_6 : decode cX10_searchFrom 6 = .ok (.iload_n 2, 1) := by decide +kernel
theorem dX10_searchFrom_7 : decode cX10_searchFrom 7 = .ok (.iconst 1, 1) := by decide +kernel
theorem dX10_searchFrom_8 : decode cX10_searchFrom 8 = .ok (.iconst 4, 1) := by decide +kernel
theorem dX10_searchFrom_9 : decode cX10_searchFrom 9 = .ok (.invokestatic 46, 3) := by decide +kernel
theorem dX10_searchFrom_12 : decode cX10_searchFrom 12 = .ok (.invokestatic 50, 3) := by decide +kernel
theorem dX10_searchFrom_15 : decode cX10_searchFrom 15 = .ok (.aload_n 3, 1) := by decide +kernel
theorem dX10_searchFrom_16 : decode cX10_searchFrom 16 = .ok (.invokestatic 135, 3) := by decide +kernel
theorem dX10_searchFrom_19 : decode cX10_searchFrom 19 = .ok (.aload_n 0, 1) := by decide +kernel
theorem dX10_searchFrom_20 : decode cX10_searchFrom 20 = .ok (.getfield 38, 3) := by decide +kernel
theorem dX10_searchFrom_23 : decode cX10_searchFrom 23 = .ok (.aload_n 3, 1) := by decide +kernel
theorem dX10_searchFrom_24 : decode cX10_searchFrom 24 = .ok (.getfield 185, 3) := by decide +kernel
theorem dX10_searchFrom_27 : decode cX10_searchFrom 27 = .ok (.iload_n 2, 1) := by decide +kernel
theorem dX10_searchFrom_28 : decode cX10_searchFrom 28 = .ok (.invokevirtual 448, 3) := by decide +kernel
theorem dX10_searchFrom_31 : decode cX10_searchFrom 31 = .ok (.ifCond .ne 14, 3) := by decide +kernel
theorem dX10_searchFrom_34 : decode cX10_searchFrom 34 = .ok (.new 189, 3) := by decide +kernel
theorem dX10_searchFrom_37 : decode cX10_searchFrom 37 = .ok (.dup, 1) := by decide +kernel
theorem dX10_searchFrom_38 : decode cX10_searchFrom 38 = .ok (.ldc_w 452, 3) := by decide +kernel
theorem dX10_searchFrom_41 : decode cX10_searchFrom 41 = .ok (.invokespecial 193, 3) := by decide +kernel
theorem dX10_searchFrom_44 : decode cX10_searchFrom 44 = .ok (.athrow, 1) := by decide +kernel
theorem dX10_searchFrom_45 : decode cX10_searchFrom 45 = .ok (.return_, 1) := by decide +kernel
theorem dX10_rowsAreSound_0 : decode cX10_rowsAreSound 0 = .ok (.iconst 0, 1) := by decide +kernel
theorem dX10_rowsAreSound_1 : decode cX10_rowsAreSound 1 = .ok (.istore_n 1, 1) := by decide +kernel
theorem dX10_rowsAreSound_2 : decode cX10_rowsAreSound 2 = .ok (.iload_n 1, 1) := by decide +kernel
theorem dX10_rowsAreSound_3 : decode cX10_rowsAreSound 3 = .ok (.aload_n 0, 1) := by decide +kernel
theorem dX10_rowsAreSound_4 : decode cX10_rowsAreSound 4 = .ok (.getfield 10, 3) := by decide +kernel
theorem dX10_rowsAreSound_7 : decode cX10_rowsAreSound 7 = .ok (.getfield 361, 3) := by decide +kernel
theorem dX10_rowsAreSound_10 : decode cX10_rowsAreSound 10 = .ok (.arraylength, 1) := by decide +kernel
theorem dX10_rowsAreSound_11 : decode cX10_rowsAreSound 11 = .ok (.if_icmp .ge 71, 3) := by decide +kernel
theorem dX10_rowsAreSound_14 : decode cX10_rowsAreSound 14 = .ok (.aload_n 0, 1) := by decide +kernel
theorem dX10_rowsAreSound_15 : decode cX10_rowsAreSound 15 = .ok (.getfield 10, 3) := by decide +kernel
theorem dX10_rowsAreSound_18 : decode cX10_rowsAreSound 18 = .ok (.getfield 361, 3) := by decide +kernel
theorem dX10_rowsAreSound_21 : decode cX10_rowsAreSound 21 = .ok (.iload_n 1, 1) := by decide +kernel
theorem dX10_rowsAreSound_22 : decode cX10_rowsAreSound 22 = .ok (.aaload, 1) := by decide +kernel
theorem dX10_rowsAreSound_23 : decode cX10_rowsAreSound 23 = .ok (.getfield 185, 3) := by decide +kernel
theorem dX10_rowsAreSound_26 : decode cX10_rowsAreSound 26 = .ok (.astore_n 2, 1) := by decide +kernel
theorem dX10_rowsAreSound_27 : decode cX10_rowsAreSound 27 = .ok (.iconst 1, 1) := by decide +kernel
theorem dX10_rowsAreSound_28 : decode cX10_rowsAreSound 28 = .ok (.istore_n 3, 1) := by decide +kernel
theorem dX10_rowsAreSound_29 : decode cX10_rowsAreSound 29 = .ok (.aload_n 2, 1) := by decide +kernel
theorem dX10_rowsAreSound_30 : decode cX10_rowsAreSound 30 = .ok (.ifnull 46, 3) := by decide +kernel
theorem dX10_rowsAreSound_33 : decode cX10_rowsAreSound 33 = .ok (.iload_n 3, 1) := by decide +kernel
theorem dX10_rowsAreSound_34 : decode cX10_rowsAreSound 34 = .ok (.iconst 4, 1) := by decide +kernel
theorem dX10_rowsAreSound_35 : decode cX10_rowsAreSound 35 = .ok (.if_icmp .gt 41, 3) := by decide +kernel
theorem dX10_rowsAreSound_38 : decode cX10_rowsAreSound 38 = .ok (.aload_n 0, 1) := by decide +kernel
theorem dX10_rowsAreSound_39 : decode cX10_rowsAreSound 39 = .ok (.getfield 38, 3) := by decide +kernel
theorem dX10_rowsAreSound_42 : decode cX10_rowsAreSound 42 = .ok (.aload_n 2, 1) := by decide +kernel
theorem dX10_rowsAreSound_43 : decode cX10_rowsAreSound 43 = .ok (.iload_n 3, 1) := by decide +kernel
theorem dX10_rowsAreSound_44 : decode cX10_rowsAreSound 44 = .ok (.invokevirtual 448, 3) := by decide +kernel
theorem dX10_rowsAreSound_47 : decode cX10_rowsAreSound 47 = .ok (.ifCond .eq 23, 3) := by decide +kernel
theorem dX10_rowsAreSound_50 : decode cX10_rowsAreSound 50 = .ok (.aload_n 0, 1) := by decide +kernel
theorem dX10_rowsAreSound_51 : decode cX10_rowsAreSound 51 = .ok (.getfield 38, 3) := by decide +kernel
theorem dX10_rowsAreSound_54 : decode cX10_rowsAreSound 54 = .ok (.getfield 334, 3) := by decide +kernel
theorem dX10_rowsAreSound_57 : decode cX10_rowsAreSound 57 = .ok (.aload_n 0, 1) := by decide +kernel
theorem dX10_rowsAreSound_58 : decode cX10_rowsAreSound 58 = .ok (.getfield 38, 3) := by decide +kernel
theorem dX10_rowsAreSound_61 : decode cX10_rowsAreSound 61 = .ok (.aload_n 2, 1) := by decide +kernel
theorem dX10_rowsAreSound_62 : decode cX10_rowsAreSound 62 = .ok (.invokevirtual 454, 3) := by decide +kernel
theorem dX10_rowsAreSound_65 : decode cX10_rowsAreSound 65 = .ok (.if_icmp .eq 5, 3) := by decide +kernel
theorem dX10_rowsAreSound_68 : decode cX10_rowsAreSound 68 = .ok (.iconst 0, 1) := by decide +kernel
theorem dX10_rowsAreSound_69 : decode cX10_rowsAreSound 69 = .ok (.ireturn, 1) := by decide +kernel
theorem dX10_rowsAreSound_70 : decode cX10_rowsAreSound 70 = .ok (.iinc 3 1, 3) := by decide +kernel
theorem dX10_rowsAreSound_73 : decode cX10_rowsAreSound 73 = .ok (.goto (-44), 3) := by decide +kernel
theorem dX10_rowsAreSound_76 : decode cX10_rowsAreSound 76 = .ok (.iinc 1 1, 3) := by decide +kernel
theorem dX10_rowsAreSound_79 : decode cX10_rowsAreSound 79 = .ok (.goto (-77), 3) := by decide +kernel
theorem dX10_rowsAreSound_82 : decode cX10_rowsAreSound 82 = .ok (.iconst 1, 1) := by decide +kernel
theorem dX10_rowsAreSound_83 : decode cX10_rowsAreSound 83 = .ok (.ireturn, 1) := by decide +kernel
theorem dX10_redoLog_0 : decode cX10_redoLog 0 = .ok (.aload_n 0, 1) := by decide +kernel
theorem dX10_redoLog_1 : decode cX10_redoLog 1 = .ok (.getfield 457, 3) := by decide +kernel
theorem dX10_redoLog_4 : decode cX10_redoLog 4 = .ok (.aload_n 0, 1) := by decide +kernel
theorem dX10_redoLog_5 : decode cX10_redoLog 5 = .ok (.getfield 22, 3) := by decide +kernel
theorem dX10_redoLog_8 : decode cX10_redoLog 8 = .ok (.getfield 396, 3) := by decide +kernel
theorem dX10_redoLog_11 : decode cX10_redoLog 11 = .ok (.if_icmp .ge 310, 3) := by decide +kernel
theorem dX10_redoLog_14 : decode cX10_redoLog 14 = .ok (.aload_n 0, 1) := by decide +kernel
theorem dX10_redoLog_15 : decode cX10_redoLog 15 = .ok (.getfield 22, 3) := by decide +kernel
theorem dX10_redoLog_18 : decode cX10_redoLog 18 = .ok (.aload_n 0, 1) := by decide +kernel
theorem dX10_redoLog_19 : decode cX10_redoLog 19 = .ok (.getfield 457, 3) := by decide +kernel
theorem dX10_redoLog_22 : decode cX10_redoLog 22 = .ok (.iconst 1, 1) := by decide +kernel
theorem dX10_redoLog_23 : decode cX10_redoLog 23 = .ok (.invokevirtual 460, 3) := by decide +kernel
theorem dX10_redoLog_26 : decode cX10_redoLog 26 = .ok (.istore_n 1, 1) := by decide +kernel
theorem dX10_redoLog_27 : decode cX10_redoLog 27 = .ok (.aload_n 0, 1) := by decide +kernel
theorem dX10_redoLog_28 : decode cX10_redoLog 28 = .ok (.getfield 22, 3) := by decide +kernel
theorem dX10_redoLog_31 : decode cX10_redoLog 31 = .ok (.aload_n 0, 1) := by decide +kernel
theorem dX10_redoLog_32 : decode cX10_redoLog 32 = .ok (.getfield 457, 3) := by decide +kernel
theorem dX10_redoLog_35 : decode cX10_redoLog 35 = .ok (.iconst 2, 1) := by decide +kernel
theorem dX10_redoLog_36 : decode cX10_redoLog 36 = .ok (.invokevirtual 460, 3) := by decide +kernel
theorem dX10_redoLog_39 : decode cX10_redoLog 39 = .ok (.istore_n 2, 1) := by decide +kernel
theorem dX10_redoLog_40 : decode cX10_redoLog 40 = .ok (.aload_n 0, 1) := by decide +kernel
theorem dX10_redoLog_41 : decode cX10_redoLog 41 = .ok (.getfield 22, 3) := by decide +kernel
theorem dX10_redoLog_44 : decode cX10_redoLog 44 = .ok (.aload_n 0, 1) := by decide +kernel
theorem dX10_redoLog_45 : decode cX10_redoLog 45 = .ok (.getfield 457, 3) := by decide +kernel
theorem dX10_redoLog_48 : decode cX10_redoLog 48 = .ok (.iconst 0, 1) := by decide +kernel
theorem dX10_redoLog_49 : decode cX10_redoLog 49 = .ok (.invokevirtual 460, 3) := by decide +kernel
theorem dX10_redoLog_52 : decode cX10_redoLog 52 = .ok (.tableswitch 248 1 27 #[124, 135, 146, 157, 248, 248, 248, 248, 248, 248, 248, 248, 248, 248, 248, 248, 248, 248, 168, 248, 248, 180, 248, 248, 192, 208, 221], 124) := by decide +kernel
theorem dX10_redoLog_176 : decode cX10_redoLog 176 = .ok (.aload_n 0, 1) := by decide +kernel
theorem dX10_redoLog_177 : decode cX10_redoLog 177 = .ok (.aload_n 0, 1) := by decide +kernel
theorem dX10_redoLog_178 : decode cX10_redoLog 178 = .ok (.getfield 457, 3) := by decide +kernel
theorem dX10_redoLog_181 : decode cX10_redoLog 181 = .ok (.invokevirtual 463, 3) := by decide +kernel
theorem dX10_redoLog_184 : decode cX10_redoLog 184 = .ok (.goto 124, 3) := by decide +kernel
theorem dX10_redoLog_187 : decode cX10_redoLog 187 = .ok (.aload_n 0, 1) := by decide +kernel
theorem dX10_redoLog_188 : decode cX10_redoLog 188 = .ok (.aload_n 0, 1) := by decide +kernel
theorem dX10_redoLog_189 : decode cX10_redoLog 189 = .ok (.getfield 457, 3) := by decide +kernel
theorem dX10_redoLog_192 : decode cX10_redoLog 192 = .ok (.invokevirtual 466, 3) := by decide +kernel
theorem dX10_redoLog_195 : decode cX10_redoLog 195 = .ok (.goto 113, 3) := by decide +kernel
theorem dX10_redoLog_198 : decode cX10_redoLog 198 = .ok (.aload_n 0, 1) := by decide +kernel
theorem dX10_redoLog_199 : decode cX10_redoLog 199 = .ok (.aload_n 0, 1) := by decide +kernel
theorem dX10_redoLog_200 : decode cX10_redoLog 200 = .ok (.getfield 457, 3) := by decide +kernel
theorem dX10_redoLog_203 : decode cX10_redoLog 203 = .ok (.invokevirtual 466, 3) := by decide +kernel
theorem dX10_redoLog_206 : decode cX10_redoLog 206 = .ok (.goto 102, 3) := by decide +kernel
theorem dX10_redoLog_209 : decode cX10_redoLog 209 = .ok (.aload_n 0, 1) := by decide +kernel
theorem dX10_redoLog_210 : decode cX10_redoLog 210 = .ok (.aload_n 0, 1) := by decide +kernel
theorem dX10_redoLog_211 : decode cX10_redoLog 211 = .ok (.getfield 457, 3) := by decide +kernel
theorem dX10_redoLog_214 : decode cX10_redoLog 214 = .ok (.invokevirtual 466, 3) := by decide +kernel
theorem dX10_redoLog_217 : decode cX10_redoLog 217 = .ok (.goto 91, 3) := by decide +kernel
theorem dX10_redoLog_220 : decode cX10_redoLog 220 = .ok (.aload_n 0, 1) := by decide +kernel
theorem dX10_redoLog_221 : decode cX10_redoLog 221 = .ok (.getfield 16, 3) := by decide +kernel
theorem dX10_redoLog_224 : decode cX10_redoLog 224 = .ok (.iload_n 1, 1) := by decide +kernel
theorem dX10_redoLog_225 : decode cX10_redoLog 225 = .ok (.invokevirtual 213, 3) := by decide +kernel
theorem dX10_redoLog_228 : decode cX10_redoLog 228 = .ok (.pop, 1) := by decide +kernel
theorem dX10_redoLog_229 : decode cX10_redoLog 229 = .ok (.goto 79, 3) := by decide +kernel
theorem dX10_redoLog_232 : decode cX10_redoLog 232 = .ok (.aload_n 0, 1) := by decide +kernel
theorem dX10_redoLog_233 : decode cX10_redoLog 233 = .ok (.getfield 16, 3) := by decide +kernel
theorem dX10_redoLog_236 : decode cX10_redoLog 236 = .ok (.iload_n 1, 1) := by decide +kernel
theorem dX10_redoLog_237 : decode cX10_redoLog 237 = .ok (.invokevirtual 249, 3) := by decide +kernel
theorem dX10_redoLog_240 : decode cX10_redoLog 240 = .ok (.pop, 1) := by decide +kernel
theorem dX10_redoLog_241 : decode cX10_redoLog 241 = .ok (.goto 67, 3) := by decide +kernel
theorem dX10_redoLog_244 : decode cX10_redoLog 244 = .ok (.aload_n 0, 1) := by decide +kernel
theorem dX10_redoLog_245 : decode cX10_redoLog 245 = .ok (.getfield 16, 3) := by decide +kernel
theorem dX10_redoLog_248 : decode cX10_redoLog 248 = .ok (.getfield 300, 3) := by decide +kernel
theorem dX10_redoLog_251 : decode cX10_redoLog 251 = .ok (.iload_n 1, 1) := by decide +kernel
theorem dX10_redoLog_252 : decode cX10_redoLog 252 = .ok (.iload_n 2, 1) := by decide +kernel
theorem dX10_redoLog_253 : decode cX10_redoLog 253 = .ok (.invokevirtual 304, 3) := by decide +kernel
theorem dX10_redoLog_256 : decode cX10_redoLog 256 = .ok (.pop, 1) := by decide +kernel
theorem dX10_redoLog_257 : decode cX10_redoLog 257 = .ok (.goto 51, 3) := by decide +kernel
theorem dX10_redoLog_260 : decode cX10_redoLog 260 = .ok (.aload_n 0, 1) := by decide +kernel
theorem dX10_redoLog_261 : decode cX10_redoLog 261 = .ok (.getfield 16, 3) := by decide +kernel
theorem dX10_redoLog_264 : decode cX10_redoLog 264 = .ok (.iload_n 1, 1) := by decide +kernel
theorem dX10_redoLog_265 : decode cX10_redoLog 265 = .ok (.iload_n 2, 1) := by decide +kernel
theorem dX10_redoLog_266 : decode cX10_redoLog 266 = .ok (.invokevirtual 312, 3) := by decide +kernel
theorem dX10_redoLog_269 : decode cX10_redoLog 269 = .ok (.pop, 1) := by decide +kernel
theorem dX10_redoLog_270 : decode cX10_redoLog 270 = .ok (.goto 38, 3) := by decide +kernel
theorem dX10_redoLog_273 : decode cX10_redoLog 273 = .ok (.aload_n 0, 1) := by decide +kernel
theorem dX10_redoLog_274 : decode cX10_redoLog 274 = .ok (.getfield 29, 3) := by decide +kernel
theorem dX10_redoLog_277 : decode cX10_redoLog 277 = .ok (.aload_n 0, 1) := by decide +kernel
theorem dX10_redoLog_278 : decode cX10_redoLog 278 = .ok (.getfield 16, 3) := by decide +kernel
theorem dX10_redoLog_281 : decode cX10_redoLog 281 = .ok (.getfield 361, 3) := by decide +kernel
theorem dX10_redoLog_284 : decode cX10_redoLog 284 = .ok (.aload_n 0, 1) := by decide +kernel
theorem dX10_redoLog_285 : decode cX10_redoLog 285 = .ok (.getfield 22, 3) := by decide +kernel
theorem dX10_redoLog_288 : decode cX10_redoLog 288 = .ok (.getfield 469, 3) := by decide +kernel
theorem dX10_redoLog_291 : decode cX10_redoLog 291 = .ok (.iload_n 1, 1) := by decide +kernel
theorem dX10_redoLog_292 : decode cX10_redoLog 292 = .ok (.iload_n 2, 1) := by decide +kernel
theorem dX10_redoLog_293 : decode cX10_redoLog 293 = .ok (.invokevirtual 375, 3) := by decide +kernel
theorem dX10_redoLog_296 : decode cX10_redoLog 296 = .ok (.pop, 1) := by decide +kernel
theorem dX10_redoLog_297 : decode cX10_redoLog 297 = .ok (.goto 11, 3) := by decide +kernel
theorem dX10_redoLog_300 : decode cX10_redoLog 300 = .ok (.aload_n 0, 1) := by decide +kernel
theorem dX10_redoLog_301 : decode cX10_redoLog 301 = .ok (.aload_n 0, 1) := by decide +kernel
theorem dX10_redoLog_302 : decode cX10_redoLog 302 = .ok (.getfield 457, 3) := by decide +kernel
theorem dX10_redoLog_305 : decode cX10_redoLog 305 = .ok (.invokevirtual 472, 3) := by decide +kernel
theorem dX10_redoLog_308 : decode cX10_redoLog 308 = .ok (.aload_n 0, 1) := by decide +kernel
theorem dX10_redoLog_309 : decode cX10_redoLog 309 = .ok (.dup, 1) := by decide +kernel
theorem dX10_redoLog_310 : decode cX10_redoLog 310 = .ok (.getfield 457, 3) := by decide +kernel
theorem dX10_redoLog_313 : decode cX10_redoLog 313 = .ok (.iconst 1, 1) := by decide +kernel
theorem dX10_redoLog_314 : decode cX10_redoLog 314 = .ok (.iadd, 1) := by decide +kernel
theorem dX10_redoLog_315 : decode cX10_redoLog 315 = .ok (.putfield 457, 3) := by decide +kernel
theorem dX10_redoLog_318 : decode cX10_redoLog 318 = .ok (.goto (-318), 3) := by decide +kernel
theorem dX10_redoLog_321 : decode cX10_redoLog 321 = .ok (.return_, 1) := by decide +kernel
theorem dX10_redoAdd_0 : decode cX10_redoAdd 0 = .ok (.aload_n 0, 1) := by decide +kernel
theorem dX10_redoAdd_1 : decode cX10_redoAdd 1 = .ok (.getfield 16, 3) := by decide +kernel
theorem dX10_redoAdd_4 : decode cX10_redoAdd 4 = .ok (.aload_n 0, 1) := by decide +kernel
theorem dX10_redoAdd_5 : decode cX10_redoAdd 5 = .ok (.getfield 22, 3) := by decide +kernel
theorem dX10_redoAdd_8 : decode cX10_redoAdd 8 = .ok (.iload_n 1, 1) := by decide +kernel
theorem dX10_redoAdd_9 : decode cX10_redoAdd 9 = .ok (.iconst 1, 1) := by decide +kernel
theorem dX10_redoAdd_10 : decode cX10_redoAdd 10 = .ok (.invokevirtual 460, 3) := by decide +kernel
theorem dX10_redoAdd_13 : decode cX10_redoAdd 13 = .ok (.aload_n 0, 1) := by decide +kernel
theorem dX10_redoAdd_14 : decode cX10_redoAdd 14 = .ok (.getfield 22, 3) := by decide +kernel
theorem dX10_redoAdd_17 : decode cX10_redoAdd 17 = .ok (.iload_n 1, 1) := by decide +kernel
theorem dX10_redoAdd_18 : decode cX10_redoAdd 18 = .ok (.iconst 2, 1) := by decide +kernel
theorem dX10_redoAdd_19 : decode cX10_redoAdd 19 = .ok (.invokevirtual 460, 3) := by decide +kernel
theorem dX10_redoAdd_22 : decode cX10_redoAdd 22 = .ok (.aload_n 0, 1) := by decide +kernel
theorem dX10_redoAdd_23 : decode cX10_redoAdd 23 = .ok (.getfield 22, 3) := by decide +kernel
theorem dX10_redoAdd_26 : decode cX10_redoAdd 26 = .ok (.iload_n 1, 1) := by decide +kernel
theorem dX10_redoAdd_27 : decode cX10_redoAdd 27 = .ok (.iconst 3, 1) := by decide +kernel
theorem dX10_redoAdd_28 : decode cX10_redoAdd 28 = .ok (.invokevirtual 460, 3) := by decide +kernel
theorem dX10_redoAdd_31 : decode cX10_redoAdd 31 = .ok (.aload_n 0, 1) := by decide +kernel
theorem dX10_redoAdd_32 : decode cX10_redoAdd 32 = .ok (.getfield 22, 3) := by decide +kernel
theorem dX10_redoAdd_35 : decode cX10_redoAdd 35 = .ok (.iload_n 1, 1) := by decide +kernel
theorem dX10_redoAdd_36 : decode cX10_redoAdd 36 = .ok (.iconst 4, 1) := by decide +kernel
theorem dX10_redoAdd_37 : decode cX10_redoAdd 37 = .ok (.invokevirtual 460, 3) := by decide +kernel
theorem dX10_redoAdd_40 : decode cX10_redoAdd 40 = .ok (.aload_n 0, 1) := by decide +kernel
theorem dX10_redoAdd_41 : decode cX10_redoAdd 41 = .ok (.getfield 22, 3) := by decide +kernel
theorem dX10_redoAdd_44 : decode cX10_redoAdd 44 = .ok (.iload_n 1, 1) := by decide +kernel
theorem dX10_redoAdd_45 : decode cX10_redoAdd 45 = .ok (.iconst 5, 1) := by decide +kernel
theorem dX10_redoAdd_46 : decode cX10_redoAdd 46 = .ok (.invokevirtual 460, 3) := by decide +kernel
theorem dX10_redoAdd_49 : decode cX10_redoAdd 49 = .ok (.aload_n 0, 1) := by decide +kernel
theorem dX10_redoAdd_50 : decode cX10_redoAdd 50 = .ok (.getfield 22, 3) := by decide +kernel
theorem dX10_redoAdd_53 : decode cX10_redoAdd 53 = .ok (.iload_n 1, 1) := by decide +kernel
theorem dX10_redoAdd_54 : decode cX10_redoAdd 54 = .ok (.bipush 6, 2) := by decide +kernel
theorem dX10_redoAdd_56 : decode cX10_redoAdd 56 = .ok (.invokevirtual 460, 3) := by decide +kernel
theorem dX10_redoAdd_59 : decode cX10_redoAdd 59 = .ok (.aload_n 0, 1) := by decide +kernel
theorem dX10_redoAdd_60 : decode cX10_redoAdd 60 = .ok (.getfield 22, 3) := by decide +kernel
theorem dX10_redoAdd_63 : decode cX10_redoAdd 63 = .ok (.iload_n 1, 1) := by decide +kernel
theorem dX10_redoAdd_64 : decode cX10_redoAdd 64 = .ok (.bipush 7, 2) := by decide +kernel
theorem dX10_redoAdd_66 : decode cX10_redoAdd 66 = .ok (.invokevirtual 460, 3) := by decide +kernel
theorem dX10_redoAdd_69 : decode cX10_redoAdd 69 = .ok (.invokevirtual 77, 3) := by decide +kernel
theorem dX10_redoAdd_72 : decode cX10_redoAdd 72 = .ok (.pop, 1) := by decide +kernel
theorem dX10_redoAdd_73 : decode cX10_redoAdd 73 = .ok (.return_, 1) := by decide +kernel
theorem dX10_redoOnDisc_0 : decode cX10_redoOnDisc 0 = .ok (.aload_n 0, 1) := by decide +kernel
theorem dX10_redoOnDisc_1 : decode cX10_redoOnDisc 1 = .ok (.getfield 16, 3) := by decide +kernel
theorem dX10_redoOnDisc_4 : decode cX10_redoOnDisc 4 = .ok (.aload_n 0, 1) := by decide +kernel
theorem dX10_redoOnDisc_5 : decode cX10_redoOnDisc 5 = .ok (.getfield 22, 3) := by decide +kernel
theorem dX10_redoOnDisc_8 : decode cX10_redoOnDisc 8 = .ok (.iload_n 1, 1) := by decide +kernel
theorem dX10_redoOnDisc_9 : decode cX10_redoOnDisc 9 = .ok (.iconst 1, 1) := by decide +kernel
theorem dX10_redoOnDisc_10 : decode cX10_redoOnDisc 10 = .ok (.invokevirtual 460, 3) := by decide +kernel
theorem dX10_redoOnDisc_13 : decode cX10_redoOnDisc 13 = .ok (.invokevirtual 443, 3) := by decide +kernel
theorem dX10_redoOnDisc_16 : decode cX10_redoOnDisc 16 = .ok (.astore_n 2, 1) := by decide +kernel
theorem dX10_redoOnDisc_17 : decode cX10_redoOnDisc 17 = .ok (.aload_n 0, 1) := by decide +kernel
theorem dX10_redoOnDisc_18 : decode cX10_redoOnDisc 18 = .ok (.getfield 22, 3) := by decide +kernel
theorem dX10_redoOnDisc_21 : decode cX10_redoOnDisc 21 = .ok (.iload_n 1, 1) := by decide +kernel
theorem dX10_redoOnDisc_22 : decode cX10_redoOnDisc 22 = .ok (.iconst 2, 1) := by decide +kernel
theorem dX10_redoOnDisc_23 : decode cX10_redoOnDisc 23 = .ok (.invokevirtual 460, 3) := by decide +kernel
theorem dX10_redoOnDisc_26 : decode cX10_redoOnDisc 26 = .ok (.istore_n 3, 1) := by decide +kernel
theorem dX10_redoOnDisc_27 : decode cX10_redoOnDisc 27 = .ok (.aload_n 2, 1) := by decide +kernel
theorem dX10_redoOnDisc_28 : decode cX10_redoOnDisc 28 = .ok (.ifnonnull 4, 3) := by decide +kernel
theorem dX10_redoOnDisc_31 : decode cX10_redoOnDisc 31 = .ok (.return_, 1) := by decide +kernel
theorem dX10_redoOnDisc_32 : decode cX10_redoOnDisc 32 = .ok (.aload_n 0, 1) := by decide +kernel
theorem dX10_redoOnDisc_33 : decode cX10_redoOnDisc 33 = .ok (.getfield 22, 3) := by decide +kernel
theorem dX10_redoOnDisc_36 : decode cX10_redoOnDisc 36 = .ok (.iload_n 1, 1) := by decide +kernel
theorem dX10_redoOnDisc_37 : decode cX10_redoOnDisc 37 = .ok (.iconst 0, 1) := by decide +kernel
theorem dX10_redoOnDisc_38 : decode cX10_redoOnDisc 38 = .ok (.invokevirtual 460, 3) := by decide +kernel
theorem dX10_redoOnDisc_41 : decode cX10_redoOnDisc 41 = .ok (.tableswitch 62 2 4 #[27, 36, 54], 27) := by decide +kernel
theorem dX10_redoOnDisc_68 : decode cX10_redoOnDisc 68 = .ok (.aload_n 2, 1) := by decide +kernel
theorem dX10_redoOnDisc_69 : decode cX10_redoOnDisc 69 = .ok (.iload_n 3, 1) := by decide +kernel
theorem dX10_redoOnDisc_70 : decode cX10_redoOnDisc 70 = .ok (.invokevirtual 98, 3) := by decide +kernel
theorem dX10_redoOnDisc_73 : decode cX10_redoOnDisc 73 = .ok (.pop, 1) := by decide +kernel
theorem dX10_redoOnDisc_74 : decode cX10_redoOnDisc 74 = .ok (.goto 29, 3) := by decide +kernel
theorem dX10_redoOnDisc_77 : decode cX10_redoOnDisc 77 = .ok (.aload_n 2, 1) := by decide +kernel
theorem dX10_redoOnDisc_78 : decode cX10_redoOnDisc 78 = .ok (.iload_n 3, 1) := by decide +kernel
theorem dX10_redoOnDisc_79 : decode cX10_redoOnDisc 79 = .ok (.iconst 1, 1) := by decide +kernel
theorem dX10_redoOnDisc_80 : decode cX10_redoOnDisc 80 = .ok (.if_icmp .ne 7, 3) := by decide +kernel
theorem dX10_redoOnDisc_83 : decode cX10_redoOnDisc 83 = .ok (.iconst 1, 1) := by decide +kernel
theorem dX10_redoOnDisc_84 : decode cX10_redoOnDisc 84 = .ok (.goto 4, 3) := by decide +kernel
theorem dX10_redoOnDisc_87 : decode cX10_redoOnDisc 87 = .ok (.iconst 0, 1) := by decide +kernel
theorem dX10_redoOnDisc_88 : decode cX10_redoOnDisc 88 = .ok (.invokevirtual 111, 3) := by decide +kernel
theorem dX10_redoOnDisc_91 : decode cX10_redoOnDisc 91 = .ok (.pop, 1) := by decide +kernel
theorem dX10_redoOnDisc_92 : decode cX10_redoOnDisc 92 = .ok (.goto 11, 3) := by decide +kernel
theorem dX10_redoOnDisc_95 : decode cX10_redoOnDisc 95 = .ok (.aload_n 2, 1) := by decide +kernel
theorem dX10_redoOnDisc_96 : decode cX10_redoOnDisc 96 = .ok (.invokevirtual 115, 3) := by decide +kernel
theorem dX10_redoOnDisc_99 : decode cX10_redoOnDisc 99 = .ok (.pop, 1) := by decide +kernel
theorem dX10_redoOnDisc_100 : decode cX10_redoOnDisc 100 = .ok (.goto 3, 3) := by decide +kernel
theorem dX10_redoOnDisc_103 : decode cX10_redoOnDisc 103 = .ok (.return_, 1) := by decide +kernel
theorem dX10_redoOnDeck_0 : decode cX10_redoOnDeck 0 = .ok (.aload_n 0, 1) := by decide +kernel
theorem dX10_redoOnDeck_1 : decode cX10_redoOnDeck 1 = .ok (.getfield 16, 3) := by decide +kernel
theorem dX10_redoOnDeck_4 : decode cX10_redoOnDeck 4 = .ok (.aload_n 0, 1) := by decide +kernel
theorem dX10_redoOnDeck_5 : decode cX10_redoOnDeck 5 = .ok (.getfield 22, 3) := by decide +kernel
theorem dX10_redoOnDeck_8 : decode cX10_redoOnDeck 8 = .ok (.iload_n 1, 1) := by decide +kernel
theorem dX10_redoOnDeck_9 : decode cX10_redoOnDeck 9 = .ok (.iconst 1, 1) := by decide +kernel
theorem dX10_redoOnDeck_10 : decode cX10_redoOnDeck 10 = .ok (.invokevirtual 460, 3) := by decide +kernel
theorem dX10_redoOnDeck_13 : decode cX10_redoOnDeck 13 = .ok (.invokevirtual 435, 3) := by decide +kernel
theorem dX10_redoOnDeck_16 : decode cX10_redoOnDeck 16 = .ok (.astore_n 2, 1) := by decide +kernel
theorem dX10_redoOnDeck_17 : decode cX10_redoOnDeck 17 = .ok (.aload_n 0, 1) := by decide +kernel
theorem dX10_redoOnDeck_18 : decode cX10_redoOnDeck 18 = .ok (.getfield 22, 3) := by decide +kernel
theorem dX10_redoOnDeck_21 : decode cX10_redoOnDeck 21 = .ok (.iload_n 1, 1) := by decide +kernel
theorem dX10_redoOnDeck_22 : decode cX10_redoOnDeck 22 = .ok (.iconst 2, 1) := by decide +kernel
theorem dX10_redoOnDeck_23 : decode cX10_redoOnDeck 23 = .ok (.invokevirtual 460, 3) := by decide +kernel
theorem dX10_redoOnDeck_26 : decode cX10_redoOnDeck 26 = .ok (.istore_n 3, 1) := by decide +kernel
theorem dX10_redoOnDeck_27 : decode cX10_redoOnDeck 27 = .ok (.aload_n 0, 1) := by decide +kernel
theorem dX10_redoOnDeck_28 : decode cX10_redoOnDeck 28 = .ok (.getfield 22, 3) := by decide +kernel
theorem dX10_redoOnDeck_31 : decode cX10_redoOnDeck 31 = .ok (.iload_n 1, 1) := by decide +kernel
theorem dX10_redoOnDeck_32 : decode cX10_redoOnDeck 32 = .ok (.iconst 3, 1) := by decide +kernel
theorem dX10_redoOnDeck_33 : decode cX10_redoOnDeck 33 = .ok (.invokevirtual 460, 3) := by decide +kernel
theorem dX10_redoOnDeck_36 : decode cX10_redoOnDeck 36 = .ok (.istore 4, 2) := by decide +kernel
theorem dX10_redoOnDeck_38 : decode cX10_redoOnDeck 38 = .ok (.aload_n 2, 1) := by decide +kernel
theorem dX10_redoOnDeck_39 : decode cX10_redoOnDeck 39 = .ok (.ifnonnull 4, 3) := by decide +kernel
theorem dX10_redoOnDeck_42 : decode cX10_redoOnDeck 42 = .ok (.return_, 1) := by decide +kernel
theorem dX10_redoOnDeck_43 : decode cX10_redoOnDeck 43 = .ok (.aload_n 0, 1) := by decide +kernel
theorem dX10_redoOnDeck_44 : decode cX10_redoOnDeck 44 = .ok (.getfield 22, 3) := by decide +kernel
theorem dX10_redoOnDeck_47 : decode cX10_redoOnDeck 47 = .ok (.iload_n 1, 1) := by decide +kernel
theorem dX10_redoOnDeck_48 : decode cX10_redoOnDeck 48 = .ok (.iconst 0, 1) := by decide +kernel
theorem dX10_redoOnDeck_49 : decode cX10_redoOnDeck 49 = .ok (.invokevirtual 460, 3) := by decide +kernel
theorem dX10_redoOnDeck_52 : decode cX10_redoOnDeck 52 = .ok (.tableswitch 347 5 29 #[116, 132, 140, 148, 157, 166, 174, 183, 192, 201, 209, 227, 239, 253, 347, 266, 281, 347, 292, 308, 347, 347, 347, 326, 335], 116) := by decide +kernel
theorem dX10_redoOnDeck_168 : decode cX10_redoOnDeck 168 = .ok (.aload_n 2, 1) := by decide +kernel
theorem dX10_redoOnDeck_169 : decode cX10_redoOnDeck 169 = .ok (.aload_n 0, 1) := by decide +kernel
theorem dX10_redoOnDeck_170 : decode cX10_redoOnDeck 170 = .ok (.getfield 16, 3) := by decide +kernel
theorem dX10_redoOnDeck_173 : decode cX10_redoOnDeck 173 = .ok (.iload_n 3, 1) := by decide +kernel
theorem dX10_redoOnDeck_174 : decode cX10_redoOnDeck 174 = .ok (.invokevirtual 443, 3) := by decide +kernel
theorem dX10_redoOnDeck_177 : decode cX10_redoOnDeck 177 = .ok (.invokevirtual 131, 3) := by decide +kernel
theorem dX10_redoOnDeck_180 : decode cX10_redoOnDeck 180 = .ok (.pop, 1) := by decide +kernel
theorem dX10_redoOnDeck_181 : decode cX10_redoOnDeck 181 = .ok (.goto 218, 3) := by decide +kernel
theorem dX10_redoOnDeck_184 : decode cX10_redoOnDeck 184 = .ok (.aload_n 2, 1) := by decide +kernel
theorem dX10_redoOnDeck_185 : decode cX10_redoOnDeck 185 = .ok (.invokevirtual 139, 3) := by decide +kernel
theorem dX10_redoOnDeck_188 : decode cX10_redoOnDeck 188 = .ok (.pop, 1) := by decide +kernel
theorem dX10_redoOnDeck_189 : decode cX10_redoOnDeck 189 = .ok (.goto 210, 3) := by decide +kernel
theorem dX10_redoOnDeck_192 : decode cX10_redoOnDeck 192 = .ok (.aload_n 2, 1) := by decide +kernel
theorem dX10_redoOnDeck_193 : decode cX10_redoOnDeck 193 = .ok (.invokevirtual 142, 3) := by decide +kernel
theorem dX10_redoOnDeck_196 : decode cX10_redoOnDeck 196 = .ok (.pop, 1) := by decide +kernel
theorem dX10_redoOnDeck_197 : decode cX10_redoOnDeck 197 = .ok (.goto 202, 3) := by decide +kernel
theorem dX10_redoOnDeck_200 : decode cX10_redoOnDeck 200 = .ok (.aload_n 2, 1) := by decide +kernel
theorem dX10_redoOnDeck_201 : decode cX10_redoOnDeck 201 = .ok (.iload_n 3, 1) := by decide +kernel
theorem dX10_redoOnDeck_202 : decode cX10_redoOnDeck 202 = .ok (.invokevirtual 145, 3) := by decide +kernel
theorem dX10_redoOnDeck_205 : decode cX10_redoOnDeck 205 = .ok (.pop, 1) := by decide +kernel
theorem dX10_redoOnDeck_206 : decode cX10_redoOnDeck 206 = .ok (.goto 193, 3) := by decide +kernel
theorem dX10_redoOnDeck_209 : decode cX10_redoOnDeck 209 = .ok (.aload_n 2, 1) := by decide +kernel
theorem dX10_redoOnDeck_210 : decode cX10_redoOnDeck 210 = .ok (.iload_n 3, 1) := by decide +kernel
theorem dX10_redoOnDeck_211 : decode cX10_redoOnDeck 211 = .ok (.invokevirtual 148, 3) := by decide +kernel
theorem dX10_redoOnDeck_214 : decode cX10_redoOnDeck 214 = .ok (.pop, 1) := by decide +kernel
theorem dX10_redoOnDeck_215 : decode cX10_redoOnDeck 215 = .ok (.goto 184, 3) := by decide +kernel
theorem dX10_redoOnDeck_218 : decode cX10_redoOnDeck 218 = .ok (.aload_n 2, 1) := by decide +kernel
theorem dX10_redoOnDeck_219 : decode cX10_redoOnDeck 219 = .ok (.invokevirtual 151, 3) := by decide +kernel
theorem dX10_redoOnDeck_222 : decode cX10_redoOnDeck 222 = .ok (.pop, 1) := by decide +kernel
theorem dX10_redoOnDeck_223 : decode cX10_redoOnDeck 223 = .ok (.goto 176, 3) := by decide +kernel
theorem dX10_redoOnDeck_226 : decode cX10_redoOnDeck 226 = .ok (.aload_n 2, 1) := by decide +kernel
theorem dX10_redoOnDeck_227 : decode cX10_redoOnDeck 227 = .ok (.iload_n 3, 1) := by decide +kernel
theorem dX10_redoOnDeck_228 : decode cX10_redoOnDeck 228 = .ok (.invokevirtual 157, 3) := by decide +kernel
theorem dX10_redoOnDeck_231 : decode cX10_redoOnDeck 231 = .ok (.pop, 1) := by decide +kernel
theorem dX10_redoOnDeck_232 : decode cX10_redoOnDeck 232 = .ok (.goto 167, 3) := by decide +kernel
theorem dX10_redoOnDeck_235 : decode cX10_redoOnDeck 235 = .ok (.aload_n 2, 1) := by decide +kernel
theorem dX10_redoOnDeck_236 : decode cX10_redoOnDeck 236 = .ok (.iload_n 3, 1) := by decide +kernel
theorem dX10_redoOnDeck_237 : decode cX10_redoOnDeck 237 = .ok (.invokevirtual 160, 3) := by decide +kernel
theorem dX10_redoOnDeck_240 : decode cX10_redoOnDeck 240 = .ok (.pop, 1) := by decide +kernel
theorem dX10_redoOnDeck_241 : decode cX10_redoOnDeck 241 = .ok (.goto 158, 3) := by decide +kernel
theorem dX10_redoOnDeck_244 : decode cX10_redoOnDeck 244 = .ok (.aload_n 2, 1) := by decide +kernel
theorem dX10_redoOnDeck_245 : decode cX10_redoOnDeck 245 = .ok (.iload_n 3, 1) := by decide +kernel
theorem dX10_redoOnDeck_246 : decode cX10_redoOnDeck 246 = .ok (.invokevirtual 168, 3) := by decide +kernel
theorem dX10_redoOnDeck_249 : decode cX10_redoOnDeck 249 = .ok (.pop, 1) := by decide +kernel
theorem dX10_redoOnDeck_250 : decode cX10_redoOnDeck 250 = .ok (.goto 149, 3) := by decide +kernel
theorem dX10_redoOnDeck_253 : decode cX10_redoOnDeck 253 = .ok (.aload_n 2, 1) := by decide +kernel
theorem dX10_redoOnDeck_254 : decode cX10_redoOnDeck 254 = .ok (.invokevirtual 171, 3) := by decide +kernel
theorem dX10_redoOnDeck_257 : decode cX10_redoOnDeck 257 = .ok (.pop, 1) := by decide +kernel
theorem dX10_redoOnDeck_258 : decode cX10_redoOnDeck 258 = .ok (.goto 141, 3) := by decide +kernel
theorem dX10_redoOnDeck_261 : decode cX10_redoOnDeck 261 = .ok (.aload_n 2, 1) := by decide +kernel
theorem dX10_redoOnDeck_262 : decode cX10_redoOnDeck 262 = .ok (.iload_n 3, 1) := by decide +kernel
theorem dX10_redoOnDeck_263 : decode cX10_redoOnDeck 263 = .ok (.iconst 1, 1) := by decide +kernel
theorem dX10_redoOnDeck_264 : decode cX10_redoOnDeck 264 = .ok (.if_icmp .ne 7, 3) := by decide +kernel
theorem dX10_redoOnDeck_267 : decode cX10_redoOnDeck 267 = .ok (.iconst 1, 1) := by decide +kernel
theorem dX10_redoOnDeck_268 : decode cX10_redoOnDeck 268 = .ok (.goto 4, 3) := by decide +kernel
theorem dX10_redoOnDeck_271 : decode cX10_redoOnDeck 271 = .ok (.iconst 0, 1) := by decide +kernel
theorem dX10_redoOnDeck_272 : decode cX10_redoOnDeck 272 = .ok (.invokevirtual 174, 3) := by decide +kernel
theorem dX10_redoOnDeck_275 : decode cX10_redoOnDeck 275 = .ok (.pop, 1) := by decide +kernel
theorem dX10_redoOnDeck_276 : decode cX10_redoOnDeck 276 = .ok (.goto 123, 3) := by decide +kernel
theorem dX10_redoOnDeck_279 : decode cX10_redoOnDeck 279 = .ok (.aload_n 2, 1) := by decide +kernel
theorem dX10_redoOnDeck_280 : decode cX10_redoOnDeck 280 = .ok (.getfield 197, 3) := by decide +kernel
theorem dX10_redoOnDeck_283 : decode cX10_redoOnDeck 283 = .ok (.iload_n 3, 1) := by decide +kernel
theorem dX10_redoOnDeck_284 : decode cX10_redoOnDeck 284 = .ok (.invokevirtual 201, 3) := by decide +kernel
theorem dX10_redoOnDeck_287 : decode cX10_redoOnDeck 287 = .ok (.pop, 1) := by decide +kernel
theorem dX10_redoOnDeck_288 : decode cX10_redoOnDeck 288 = .ok (.goto 111, 3) := by decide +kernel
theorem dX10_redoOnDeck_291 : decode cX10_redoOnDeck 291 = .ok (.aload_n 2, 1) := by decide +kernel
theorem dX10_redoOnDeck_292 : decode cX10_redoOnDeck 292 = .ok (.getfield 197, 3) := by decide +kernel
theorem dX10_redoOnDeck_295 : decode cX10_redoOnDeck 295 = .ok (.iload_n 3, 1) := by decide +kernel
theorem dX10_redoOnDeck_296 : decode cX10_redoOnDeck 296 = .ok (.iload 4, 2) := by decide +kernel
theorem dX10_redoOnDeck_298 : decode cX10_redoOnDeck 298 = .ok (.invokevirtual 206, 3) := by decide +kernel
theorem dX10_redoOnDeck_301 : decode cX10_redoOnDeck 301 = .ok (.pop, 1) := by decide +kernel
theorem dX10_redoOnDeck_302 : decode cX10_redoOnDeck 302 = .ok (.goto 97, 3) := by decide +kernel
theorem dX10_redoOnDeck_305 : decode cX10_redoOnDeck 305 = .ok (.aload_n 2, 1) := by decide +kernel
theorem dX10_redoOnDeck_306 : decode cX10_redoOnDeck 306 = .ok (.getfield 197, 3) := by decide +kernel
theorem dX10_redoOnDeck_309 : decode cX10_redoOnDeck 309 = .ok (.iload_n 3, 1) := by decide +kernel
theorem dX10_redoOnDeck_310 : decode cX10_redoOnDeck 310 = .ok (.i2c, 1) := by decide +kernel
theorem dX10_redoOnDeck_311 : decode cX10_redoOnDeck 311 = .ok (.invokevirtual 209, 3) := by decide +kernel
theorem dX10_redoOnDeck_314 : decode cX10_redoOnDeck 314 = .ok (.pop, 1) := by decide +kernel
theorem dX10_redoOnDeck_315 : decode cX10_redoOnDeck 315 = .ok (.goto 84, 3) := by decide +kernel
theorem dX10_redoOnDeck_318 : decode cX10_redoOnDeck 318 = .ok (.aload_n 2, 1) := by decide +kernel
theorem dX10_redoOnDeck_319 : decode cX10_redoOnDeck 319 = .ok (.getfield 197, 3) := by decide +kernel
theorem dX10_redoOnDeck_322 : decode cX10_redoOnDeck 322 = .ok (.iload_n 3, 1) := by decide +kernel
theorem dX10_redoOnDeck_323 : decode cX10_redoOnDeck 323 = .ok (.i2c, 1) := by decide +kernel
theorem dX10_redoOnDeck_324 : decode cX10_redoOnDeck 324 = .ok (.iload 4, 2) := by decide +kernel
theorem dX10_redoOnDeck_326 : decode cX10_redoOnDeck 326 = .ok (.invokevirtual 231, 3) := by decide +kernel
theorem dX10_redoOnDeck_329 : decode cX10_redoOnDeck 329 = .ok (.pop, 1) := by decide +kernel
theorem dX10_redoOnDeck_330 : decode cX10_redoOnDeck 330 = .ok (.goto 69, 3) := by decide +kernel
theorem dX10_redoOnDeck_333 : decode cX10_redoOnDeck 333 = .ok (.aload_n 2, 1) := by decide +kernel
theorem dX10_redoOnDeck_334 : decode cX10_redoOnDeck 334 = .ok (.getfield 197, 3) := by decide +kernel
theorem dX10_redoOnDeck_337 : decode cX10_redoOnDeck 337 = .ok (.invokevirtual 235, 3) := by decide +kernel
theorem dX10_redoOnDeck_340 : decode cX10_redoOnDeck 340 = .ok (.pop, 1) := by decide +kernel
theorem dX10_redoOnDeck_341 : decode cX10_redoOnDeck 341 = .ok (.goto 58, 3) := by decide +kernel
theorem dX10_redoOnDeck_344 : decode cX10_redoOnDeck 344 = .ok (.aload_n 2, 1) := by decide +kernel
theorem dX10_redoOnDeck_345 : decode cX10_redoOnDeck 345 = .ok (.aload_n 0, 1) := by decide +kernel
theorem dX10_redoOnDeck_346 : decode cX10_redoOnDeck 346 = .ok (.getfield 16, 3) := by decide +kernel
theorem dX10_redoOnDeck_349 : decode cX10_redoOnDeck 349 = .ok (.iload_n 3, 1) := by decide +kernel
theorem dX10_redoOnDeck_350 : decode cX10_redoOnDeck 350 = .ok (.invokevirtual 435, 3) := by decide +kernel
theorem dX10_redoOnDeck_353 : decode cX10_redoOnDeck 353 = .ok (.invokevirtual 275, 3) := by decide +kernel
theorem dX10_redoOnDeck_356 : decode cX10_redoOnDeck 356 = .ok (.pop, 1) := by decide +kernel
theorem dX10_redoOnDeck_357 : decode cX10_redoOnDeck 357 = .ok (.goto 42, 3) := by decide +kernel
theorem dX10_redoOnDeck_360 : decode cX10_redoOnDeck 360 = .ok (.aload_n 2, 1) := by decide +kernel
theorem dX10_redoOnDeck_361 : decode cX10_redoOnDeck 361 = .ok (.aload_n 0, 1) := by decide +kernel
theorem dX10_redoOnDeck_362 : decode cX10_redoOnDeck 362 = .ok (.getfield 16, 3) := by decide +kernel
theorem dX10_redoOnDeck_365 : decode cX10_redoOnDeck 365 = .ok (.iload_n 3, 1) := by decide +kernel
theorem dX10_redoOnDeck_366 : decode cX10_redoOnDeck 366 = .ok (.invokevirtual 435, 3) := by decide +kernel
theorem dX10_redoOnDeck_369 : decode cX10_redoOnDeck 369 = .ok (.iload 4, 2) := by decide +kernel
theorem dX10_redoOnDeck_371 : decode cX10_redoOnDeck 371 = .ok (.invokevirtual 278, 3) := by decide +kernel
theorem dX10_redoOnDeck_374 : decode cX10_redoOnDeck 374 = .ok (.pop, 1) := by decide +kernel
theorem dX10_redoOnDeck_375 : decode cX10_redoOnDeck 375 = .ok (.goto 24, 3) := by decide +kernel
theorem dX10_redoOnDeck_378 : decode cX10_redoOnDeck 378 = .ok (.aload_n 2, 1) := by decide +kernel
theorem dX10_redoOnDeck_379 : decode cX10_redoOnDeck 379 = .ok (.iload_n 3, 1) := by decide +kernel
theorem dX10_redoOnDeck_380 : decode cX10_redoOnDeck 380 = .ok (.invokevirtual 389, 3) := by decide +kernel
theorem dX10_redoOnDeck_383 : decode cX10_redoOnDeck 383 = .ok (.pop2, 1) := by decide +kernel
theorem dX10_redoOnDeck_384 : decode cX10_redoOnDeck 384 = .ok (.goto 15, 3) := by decide +kernel
theorem dX10_redoOnDeck_387 : decode cX10_redoOnDeck 387 = .ok (.aload_n 0, 1) := by decide +kernel
theorem dX10_redoOnDeck_388 : decode cX10_redoOnDeck 388 = .ok (.getfield 16, 3) := by decide +kernel
theorem dX10_redoOnDeck_391 : decode cX10_redoOnDeck 391 = .ok (.aload_n 2, 1) := by decide +kernel
theorem dX10_redoOnDeck_392 : decode cX10_redoOnDeck 392 = .ok (.invokevirtual 393, 3) := by decide +kernel
theorem dX10_redoOnDeck_395 : decode cX10_redoOnDeck 395 = .ok (.pop, 1) := by decide +kernel
theorem dX10_redoOnDeck_396 : decode cX10_redoOnDeck 396 = .ok (.goto 3, 3) := by decide +kernel
theorem dX10_redoOnDeck_399 : decode cX10_redoOnDeck 399 = .ok (.return_, 1) := by decide +kernel
