theorem dX0_init_0 : decode cX0_init 0 = .ok (.aload_n 0, 1) := by decide +kernel
theorem dX0_init_1 : decode cX0_init 1 = .ok (.invokespecial 3, 3) := by decide +kernel
theorem dX0_init_4 : decode cX0_init 4 = .ok (.aload_n 0, 1) := by decide +kernel
theorem dX0_init_5 : decode cX0_init 5 = .ok (.bipush 14, 2) := by decide +kernel
theorem dX0_init_7 : decode cX0_init 7 = .ok (.anewarray 9, 3) := by decide +kernel
theorem dX0_init_10 : decode cX0_init 10 = .ok (.putfield 11, 3) := by decide +kernel
theorem dX0_init_13 : decode cX0_init 13 = .ok (.iconst 0, 1) := by decide +kernel
theorem dX0_init_14 : decode cX0_init 14 = .ok (.istore_n 1, 1) := by decide +kernel
theorem dX0_init_15 : decode cX0_init 15 = .ok (.iload_n 1, 1) := by decide +kernel
theorem dX0_init_16 : decode cX0_init 16 = .ok (.bipush 14, 2) := by decide +kernel
theorem dX0_init_18 : decode cX0_init 18 = .ok (.if_icmp .ge 22, 3) := by decide +kernel
theorem dX0_init_21 : decode cX0_init 21 = .ok (.aload_n 0, 1) := by decide +kernel
theorem dX0_init_22 : decode cX0_init 22 = .ok (.getfield 11, 3) := by decide +kernel
theorem dX0_init_25 : decode cX0_init 25 = .ok (.iload_n 1, 1) := by decide +kernel
theorem dX0_init_26 : decode cX0_init 26 = .ok (.new 9, 3) := by decide +kernel
theorem dX0_init_29 : decode cX0_init 29 = .ok (.dup, 1) := by decide +kernel
theorem dX0_init_30 : decode cX0_init 30 = .ok (.invokespecial 17, 3) := by decide +kernel
theorem dX0_init_33 : decode cX0_init 33 = .ok (.aastore, 1) := by decide +kernel
theorem dX0_init_34 : decode cX0_init 34 = .ok (.iinc 1 1, 3) := by decide +kernel
theorem dX0_init_37 : decode cX0_init 37 = .ok (.goto (-22), 3) := by decide +kernel
theorem dX0_init_40 : decode cX0_init 40 = .ok (.return_, 1) := by decide +kernel
theorem dX0_forgetAll_0 : decode cX0_forgetAll 0 = .ok (.aload_n 0, 1) := by decide +kernel
theorem dX0_forgetAll_1 : decode cX0_forgetAll 1 = .ok (.iconst 0, 1) := by decide +kernel
theorem dX0_forgetAll_2 : decode cX0_forgetAll 2 = .ok (.putfield 18, 3) := by decide +kernel
theorem dX0_forgetAll_5 : decode cX0_forgetAll 5 = .ok (.aload_n 0, 1) := by decide +kernel
theorem dX0_forgetAll_6 : decode cX0_forgetAll 6 = .ok (.iconst 0, 1) := by decide +kernel
theorem dX0_forgetAll_7 : decode cX0_forgetAll 7 = .ok (.putfield 22, 3) := by decide +kernel
theorem dX0_forgetAll_10 : decode cX0_forgetAll 10 = .ok (.return_, 1) := by decide +kernel
theorem dX0_remember_0 : decode cX0_remember 0 = .ok (.aload_n 0, 1) := by decide +kernel
theorem dX0_remember_1 : decode cX0_remember 1 = .ok (.getfield 22, 3) := by decide +kernel
theorem dX0_remember_4 : decode cX0_remember 4 = .ok (.bipush 14, 2) := by decide +kernel
theorem dX0_remember_6 : decode cX0_remember 6 = .ok (.if_icmp .lt 22, 3) := by decide +kernel
theorem dX0_remember_9 : decode cX0_remember 9 = .ok (.aload_n 0, 1) := by decide +kernel
theorem dX0_remember_10 : decode cX0_remember 10 = .ok (.aload_n 0, 1) := by decide +kernel
theorem dX0_remember_11 : decode cX0_remember 11 = .ok (.getfield 18, 3) := by decide +kernel
theorem dX0_remember_14 : decode cX0_remember 14 = .ok (.iconst 1, 1) := by decide +kernel
theorem dX0_remember_15 : decode cX0_remember 15 = .ok (.iadd, 1) := by decide +kernel
theorem dX0_remember_16 : decode cX0_remember 16 = .ok (.invokestatic 25, 3) := by decide +kernel
theorem dX0_remember_19 : decode cX0_remember 19 = .ok (.putfield 18, 3) := by decide +kernel
theorem dX0_remember_22 : decode cX0_remember 22 = .ok (.aload_n 0, 1) := by decide +kernel
theorem dX0_remember_23 : decode cX0_remember 23 = .ok (.bipush 13, 2) := by decide +kernel
theorem dX0_remember_25 : decode cX0_remember 25 = .ok (.putfield 22, 3) := by decide +kernel
theorem dX0_remember_28 : decode cX0_remember 28 = .ok (.aload_n 0, 1) := by decide +kernel
theorem dX0_remember_29 : decode cX0_remember 29 = .ok (.getfield 11, 3) := by decide +kernel
theorem dX0_remember_32 : decode cX0_remember 32 = .ok (.aload_n 0, 1) := by decide +kernel
theorem dX0_remember_33 : decode cX0_remember 33 = .ok (.getfield 18, 3) := by decide +kernel
theorem dX0_remember_36 : decode cX0_remember 36 = .ok (.aload_n 0, 1) := by decide +kernel
theorem dX0_remember_37 : decode cX0_remember 37 = .ok (.getfield 22, 3) := by decide +kernel
theorem dX0_remember_40 : decode cX0_remember 40 = .ok (.iadd, 1) := by decide +kernel
theorem dX0_remember_41 : decode cX0_remember 41 = .ok (.invokestatic 25, 3) := by decide +kernel
theorem dX0_remember_44 : decode cX0_remember 44 = .ok (.aaload, 1) := by decide +kernel
theorem dX0_remember_45 : decode cX0_remember 45 = .ok (.aload_n 1, 1) := by decide +kernel
theorem dX0_remember_46 : decode cX0_remember 46 = .ok (.invokevirtual 29, 3) := by decide +kernel
theorem dX0_remember_49 : decode cX0_remember 49 = .ok (.aload_n 0, 1) := by decide +kernel
theorem dX0_remember_50 : decode cX0_remember 50 = .ok (.dup, 1) := by decide +kernel
theorem dX0_remember_51 : decode cX0_remember 51 = .ok (.getfield 22, 3) := by decide +kernel
theorem dX0_remember_54 : decode cX0_remember 54 = .ok (.iconst 1, 1) := by decide +kernel
theorem dX0_remember_55 : decode cX0_remember 55 = .ok (.iadd, 1) := by decide +kernel
theorem dX0_remember_56 : decode cX0_remember 56 = .ok (.putfield 22, 3) := by decide +kernel
theorem dX0_remember_59 : decode cX0_remember 59 = .ok (.return_, 1) := by decide +kernel
theorem dX0_takeLast_0 : decode cX0_takeLast 0 = .ok (.aload_n 0, 1) := by decide +kernel
theorem dX0_takeLast_1 : decode cX0_takeLast 1 = .ok (.getfield 22, 3) := by decide +kernel
theorem dX0_takeLast_4 : decode cX0_takeLast 4 = .ok (.ifCond .le 34, 3) := by decide +kernel
theorem dX0_takeLast_7 : decode cX0_takeLast 7 = .ok (.aload_n 0, 1) := by decide +kernel
theorem dX0_takeLast_8 : decode cX0_takeLast 8 = .ok (.dup, 1) := by decide +kernel
theorem dX0_takeLast_9 : decode cX0_takeLast 9 = .ok (.getfield 22, 3) := by decide +kernel
theorem dX0_takeLast_12 : decode cX0_takeLast 12 = .ok (.iconst 1, 1) := by decide +kernel
theorem dX0_takeLast_13 : decode cX0_takeLast 13 = .ok (.isub, 1) := by decide +kernel
theorem dX0_takeLast_14 : decode cX0_takeLast 14 = .ok (.putfield 22, 3) := by decide +kernel
theorem dX0_takeLast_17 : decode cX0_takeLast 17 = .ok (.aload_n 1, 1) := by decide +kernel
theorem dX0_takeLast_18 : decode cX0_takeLast 18 = .ok (.aload_n 0, 1) := by decide +kernel
theorem dX0_takeLast_19 : decode cX0_takeLast 19 = .ok (.getfield 11, 3) := by decide +kernel
theorem dX0_takeLast_22 : decode cX0_takeLast 22 = .ok (.aload_n 0, 1) := by decide +kernel
theorem dX0_takeLast_23 : decode cX0_takeLast 23 = .ok (.getfield 18, 3) := by decide +kernel
theorem dX0_takeLast_26 : decode cX0_takeLast 26 = .ok (.aload_n 0, 1) := by decide +kernel
theorem dX0_takeLast_27 : decode cX0_takeLast 27 = .ok (.getfield 22, 3) := by decide +kernel
theorem dX0_takeLast_30 : decode cX0_takeLast 30 = .ok (.iadd, 1) := by decide +kernel
theorem dX0_takeLast_31 : decode cX0_takeLast 31 = .ok (.invokestatic 25, 3) := by decide +kernel
theorem dX0_takeLast_34 : decode cX0_takeLast 34 = .ok (.aaload, 1) := by decide +kernel
theorem dX0_takeLast_35 : decode cX0_takeLast 35 = .ok (.invokevirtual 29, 3) := by decide +kernel
theorem dX0_takeLast_38 : decode cX0_takeLast 38 = .ok (.return_, 1) := by decide +kernel
theorem dX0_inRing_0 : decode cX0_inRing 0 = .ok (.iload_n 0, 1) := by decide +kernel
theorem dX0_inRing_1 : decode cX0_inRing 1 = .ok (.bipush 14, 2) := by decide +kernel
theorem dX0_inRing_3 : decode cX0_inRing 3 = .ok (.invokestatic 33, 3) := by decide +kernel
theorem dX0_inRing_6 : decode cX0_inRing 6 = .ok (.ireturn, 1) := by decide +kernel
theorem dX1_init_0 : decode cX1_init 0 = .ok (.aload_n 0, 1) := by decide +kernel
theorem dX1_init_1 : decode cX1_init 1 = .ok (.invokespecial 3, 3) := by decide +kernel
theorem dX1_init_4 : decode cX1_init 4 = .ok (.aload_n 0, 1) := by decide +kernel
theorem dX1_init_5 : decode cX1_init 5 = .ok (.bipush 48, 2) := by decide +kernel
theorem dX1_init_7 : decode cX1_init 7 = .ok (.newarray .int, 2) := by decide +kernel
theorem dX1_init_9 : decode cX1_init 9 = .ok (.putfield 9, 3) := by decide +kernel
theorem dX1_init_12 : decode cX1_init 12 = .ok (.aload_n 0, 1) := by decide +kernel
theorem dX1_init_13 : decode cX1_init 13 = .ok (.new 15, 3) := by decide +kernel
theorem dX1_init_16 : decode cX1_init 16 = .ok (.dup, 1) := by decide +kernel
theorem dX1_init_17 : decode cX1_init 17 = .ok (.invokespecial 17, 3) := by decide +kernel
theorem dX1_init_20 : decode cX1_init 20 = .ok (.putfield 18, 3) := by decide +kernel
theorem dX1_init_23 : decode cX1_init 23 = .ok (.return_, 1) := by decide +kernel
theorem dX1_append_0 : decode cX1_append 0 = .ok (.aload_n 0, 1) := by decide +kernel
theorem dX1_append_1 : decode cX1_append 1 = .ok (.getfield 22, 3) := by decide +kernel
theorem dX1_append_4 : decode cX1_append 4 = .ok (.ifCond .lt 12, 3) := by decide +kernel
theorem dX1_append_7 : decode cX1_append 7 = .ok (.aload_n 0, 1) := by decide +kernel
theorem dX1_append_8 : decode cX1_append 8 = .ok (.getfield 22, 3) := by decide +kernel
theorem dX1_append_11 : decode cX1_append 11 = .ok (.bipush 48, 2) := by decide +kernel
theorem dX1_append_13 : decode cX1_append 13 = .ok (.if_icmp .lt 5, 3) := by decide +kernel
theorem dX1_append_16 : decode cX1_append 16 = .ok (.iconst 0, 1) := by decide +kernel
theorem dX1_append_17 : decode cX1_append 17 = .ok (.ireturn, 1) := by decide +kernel
theorem dX1_append_18 : decode cX1_append 18 = .ok (.aload_n 0, 1) := by decide +kernel
theorem dX1_append_19 : decode cX1_append 19 = .ok (.getfield 9, 3) := by decide +kernel
theorem dX1_append_22 : decode cX1_append 22 = .ok (.aload_n 0, 1) := by decide +kernel
theorem dX1_append_23 : decode cX1_append 23 = .ok (.getfield 22, 3) := by decide +kernel
theorem dX1_append_26 : decode cX1_append 26 = .ok (.iload_n 1, 1) := by decide +kernel
theorem dX1_append_27 : decode cX1_append 27 = .ok (.iastore, 1) := by decide +kernel
theorem dX1_append_28 : decode cX1_append 28 = .ok (.aload_n 0, 1) := by decide +kernel
theorem dX1_append_29 : decode cX1_append 29 = .ok (.dup, 1) := by decide +kernel
theorem dX1_append_30 : decode cX1_append 30 = .ok (.getfield 22, 3) := by decide +kernel
theorem dX1_append_33 : decode cX1_append 33 = .ok (.iconst 1, 1) := by decide +kernel
theorem dX1_append_34 : decode cX1_append 34 = .ok (.iadd, 1) := by decide +kernel
theorem dX1_append_35 : decode cX1_append 35 = .ok (.putfield 22, 3) := by decide +kernel
theorem dX1_append_38 : decode cX1_append 38 = .ok (.iconst 1, 1) := by decide +kernel
theorem dX1_append_39 : decode cX1_append 39 = .ok (.ireturn, 1) := by decide +kernel
theorem dX1_readLand_0 : decode cX1_readLand 0 = .ok (.aload_n 0, 1) := by decide +kernel
theorem dX1_readLand_1 : decode cX1_readLand 1 = .ok (.getfield 18, 3) := by decide +kernel
theorem dX1_readLand_4 : decode cX1_readLand 4 = .ok (.invokevirtual 26, 3) := by decide +kernel
theorem dX1_readLand_7 : decode cX1_readLand 7 = .ok (.aload_n 0, 1) := by decide +kernel
theorem dX1_readLand_8 : decode cX1_readLand 8 = .ok (.iconst 0, 1) := by decide +kernel
theorem dX1_readLand_9 : decode cX1_readLand 9 = .ok (.invokevirtual 29, 3) := by decide +kernel
theorem dX1_readLand_12 : decode cX1_readLand 12 = .ok (.bipush 84, 2) := by decide +kernel
theorem dX1_readLand_14 : decode cX1_readLand 14 = .ok (.if_icmp .eq 5, 3) := by decide +kernel
theorem dX1_readLand_17 : decode cX1_readLand 17 = .ok (.iconst 0, 1) := by decide +kernel
theorem dX1_readLand_18 : decode cX1_readLand 18 = .ok (.ireturn, 1) := by decide +kernel
theorem dX1_readLand_19 : decode cX1_readLand 19 = .ok (.iconst 1, 1) := by decide +kernel
theorem dX1_readLand_20 : decode cX1_readLand 20 = .ok (.istore_n 1, 1) := by decide +kernel
theorem dX1_readLand_21 : decode cX1_readLand 21 = .ok (.iload_n 1, 1) := by decide +kernel
theorem dX1_readLand_22 : decode cX1_readLand 22 = .ok (.aload_n 0, 1) := by decide +kernel
theorem dX1_readLand_23 : decode cX1_readLand 23 = .ok (.getfield 22, 3) := by decide +kernel
theorem dX1_readLand_26 : decode cX1_readLand 26 = .ok (.if_icmp .ge 60, 3) := by decide +kernel
theorem dX1_readLand_29 : decode cX1_readLand 29 = .ok (.aload_n 0, 1) := by decide +kernel
theorem dX1_readLand_30 : decode cX1_readLand 30 = .ok (.iload_n 1, 1) := by decide +kernel
theorem dX1_readLand_31 : decode cX1_readLand 31 = .ok (.invokevirtual 29, 3) := by decide +kernel
theorem dX1_readLand_34 : decode cX1_readLand 34 = .ok (.bipush 80, 2) := by decide +kernel
theorem dX1_readLand_36 : decode cX1_readLand 36 = .ok (.if_icmp .ne 7, 3) := by decide +kernel
theorem dX1_readLand_39 : decode cX1_readLand 39 = .ok (.iconst 1, 1) := by decide +kernel
theorem dX1_readLand_40 : decode cX1_readLand 40 = .ok (.goto 4, 3) := by decide +kernel
theorem dX1_readLand_43 : decode cX1_readLand 43 = .ok (.iconst 0, 1) := by decide +kernel
theorem dX1_readLand_44 : decode cX1_readLand 44 = .ok (.istore_n 2, 1) := by decide +kernel
theorem dX1_readLand_45 : decode cX1_readLand 45 = .ok (.iload_n 2, 1) := by decide +kernel
theorem dX1_readLand_46 : decode cX1_readLand 46 = .ok (.ifCond .eq 11, 3) := by decide +kernel
theorem dX1_readLand_49 : decode cX1_readLand 49 = .ok (.aload_n 0, 1) := by decide +kernel
theorem dX1_readLand_50 : decode cX1_readLand 50 = .ok (.iload_n 1, 1) := by decide +kernel
theorem dX1_readLand_51 : decode cX1_readLand 51 = .ok (.invokevirtual 33, 3) := by decide +kernel
theorem dX1_readLand_54 : decode cX1_readLand 54 = .ok (.goto 8, 3) := by decide +kernel
theorem dX1_readLand_57 : decode cX1_readLand 57 = .ok (.aload_n 0, 1) := by decide +kernel
theorem dX1_readLand_58 : decode cX1_readLand 58 = .ok (.iload_n 1, 1) := by decide +kernel
theorem dX1_readLand_59 : decode cX1_readLand 59 = .ok (.invokevirtual 36, 3) := by decide +kernel
theorem dX1_readLand_62 : decode cX1_readLand 62 = .ok (.istore_n 3, 1) := by decide +kernel
theorem dX1_readLand_63 : decode cX1_readLand 63 = .ok (.iload_n 3, 1) := by decide +kernel
theorem dX1_readLand_64 : decode cX1_readLand 64 = .ok (.bipush (-9), 2) := by decide +kernel
theorem dX1_readLand_66 : decode cX1_readLand 66 = .ok (.if_icmp .eq 5, 3) := by decide +kernel
theorem dX1_readLand_69 : decode cX1_readLand 69 = .ok (.iload_n 3, 1) := by decide +kernel
theorem dX1_readLand_70 : decode cX1_readLand 70 = .ok (.ireturn, 1) := by decide +kernel
theorem dX1_readLand_71 : decode cX1_readLand 71 = .ok (.iload_n 1, 1) := by decide +kernel
theorem dX1_readLand_72 : decode cX1_readLand 72 = .ok (.iload_n 2, 1) := by decide +kernel
theorem dX1_readLand_73 : decode cX1_readLand 73 = .ok (.ifCond .eq 7, 3) := by decide +kernel
theorem dX1_readLand_76 : decode cX1_readLand 76 = .ok (.iconst 4, 1) := by decide +kernel
theorem dX1_readLand_77 : decode cX1_readLand 77 = .ok (.goto 4, 3) := by decide +kernel
theorem dX1_readLand_80 : decode cX1_readLand 80 = .ok (.iconst 3, 1) := by decide +kernel
theorem dX1_readLand_81 : decode cX1_readLand 81 = .ok (.iadd, 1) := by decide +kernel
theorem dX1_readLand_82 : decode cX1_readLand 82 = .ok (.istore_n 1, 1) := by decide +kernel
theorem dX1_readLand_83 : decode cX1_readLand 83 = .ok (.goto (-62), 3) := by decide +kernel
theorem dX1_readLand_86 : decode cX1_readLand 86 = .ok (.bipush (-9), 2) := by decide +kernel
theorem dX1_readLand_88 : decode cX1_readLand 88 = .ok (.ireturn, 1) := by decide +kernel
theorem dX1_letterAt_0 : decode cX1_letterAt 0 = .ok (.iload_n 1, 1) := by decide +kernel
theorem dX1_letterAt_1 : decode cX1_letterAt 1 = .ok (.ifCond .lt 26, 3) := by decide +kernel
theorem dX1_letterAt_4 : decode cX1_letterAt 4 = .ok (.iload_n 1, 1) := by decide +kernel
theorem dX1_letterAt_5 : decode cX1_letterAt 5 = .ok (.aload_n 0, 1) := by decide +kernel
theorem dX1_letterAt_6 : decode cX1_letterAt 6 = .ok (.getfield 22, 3) := by decide +kernel
theorem dX1_letterAt_9 : decode cX1_letterAt 9 = .ok (.if_icmp .ge 18, 3) := by decide +kernel
theorem dX1_letterAt_12 : decode cX1_letterAt 12 = .ok (.iload_n 1, 1) := by decide +kernel
theorem dX1_letterAt_13 : decode cX1_letterAt 13 = .ok (.bipush 48, 2) := by decide +kernel
theorem dX1_letterAt_15 : decode cX1_letterAt 15 = .ok (.if_icmp .ge 12, 3) := by decide +kernel
theorem dX1_letterAt_18 : decode cX1_letterAt 18 = .ok (.aload_n 0, 1) := by decide +kernel
theorem dX1_letterAt_19 : decode cX1_letterAt 19 = .ok (.getfield 9, 3) := by decide +kernel
theorem dX1_letterAt_22 : decode cX1_letterAt 22 = .ok (.iload_n 1, 1) := by decide +kernel
theorem dX1_letterAt_23 : decode cX1_letterAt 23 = .ok (.iaload, 1) := by decide +kernel
theorem dX1_letterAt_24 : decode cX1_letterAt 24 = .ok (.goto 4, 3) := by decide +kernel
theorem dX1_letterAt_27 : decode cX1_letterAt 27 = .ok (.iconst (-1), 1) := by decide +kernel
theorem dX1_letterAt_28 : decode cX1_letterAt 28 = .ok (.ireturn, 1) := by decide +kernel
theorem dX1_digitAt_0 : decode cX1_digitAt 0 = .ok (.aload_n 0, 1) := by decide +kernel
theorem dX1_digitAt_1 : decode cX1_digitAt 1 = .ok (.iload_n 1, 1) := by decide +kernel
theorem dX1_digitAt_2 : decode cX1_digitAt 2 = .ok (.invokevirtual 29, 3) := by decide +kernel
theorem dX1_digitAt_5 : decode cX1_digitAt 5 = .ok (.istore_n 2, 1) := by decide +kernel
theorem dX1_digitAt_6 : decode cX1_digitAt 6 = .ok (.iload_n 2, 1) := by decide +kernel
theorem dX1_digitAt_7 : decode cX1_digitAt 7 = .ok (.bipush 48, 2) := by decide +kernel
theorem dX1_digitAt_9 : decode cX1_digitAt 9 = .ok (.if_icmp .lt 16, 3) := by decide +kernel
theorem dX1_digitAt_12 : decode cX1_digitAt 12 = .ok (.iload_n 2, 1) := by decide +kernel
theorem dX1_digitAt_13 : decode cX1_digitAt 13 = .ok (.bipush 57, 2) := by decide +kernel
theorem dX1_digitAt_15 : decode cX1_digitAt 15 = .ok (.if_icmp .gt 10, 3) := by decide +kernel
theorem dX1_digitAt_18 : decode cX1_digitAt 18 = .ok (.iload_n 2, 1) := by decide +kernel
theorem dX1_digitAt_19 : decode cX1_digitAt 19 = .ok (.bipush 48, 2) := by decide +kernel
theorem dX1_digitAt_21 : decode cX1_digitAt 21 = .ok (.isub, 1) := by decide +kernel
theorem dX1_digitAt_22 : decode cX1_digitAt 22 = .ok (.goto 4, 3) := by decide +kernel
theorem dX1_digitAt_25 : decode cX1_digitAt 25 = .ok (.iconst (-1), 1) := by decide +kernel
theorem dX1_digitAt_26 : decode cX1_digitAt 26 = .ok (.ireturn, 1) := by decide +kernel
theorem dX1_readPerson_0 : decode cX1_readPerson 0 = .ok (.aload_n 0, 1) := by decide +kernel
theorem dX1_readPerson_1 : decode cX1_readPerson 1 = .ok (.getfield 18, 3) := by decide +kernel
theorem dX1_readPerson_4 : decode cX1_readPerson 4 = .ok (.getfield 39, 3) := by decide +kernel
theorem dX1_readPerson_7 : decode cX1_readPerson 7 = .ok (.iconst 5, 1) := by decide +kernel
theorem dX1_readPerson_8 : decode cX1_readPerson 8 = .ok (.if_icmp .lt 5, 3) := by decide +kernel
theorem dX1_readPerson_11 : decode cX1_readPerson 11 = .ok (.iload_n 1, 1) := by decide +kernel
theorem dX1_readPerson_12 : decode cX1_readPerson 12 = .ok (.ireturn, 1) := by decide +kernel
theorem dX1_readPerson_13 : decode cX1_readPerson 13 = .ok (.aload_n 0, 1) := by decide +kernel
theorem dX1_readPerson_14 : decode cX1_readPerson 14 = .ok (.iload_n 1, 1) := by decide +kernel
theorem dX1_readPerson_15 : decode cX1_readPerson 15 = .ok (.iconst 1, 1) := by decide +kernel
theorem dX1_readPerson_16 : decode cX1_readPerson 16 = .ok (.iadd, 1) := by decide +kernel
theorem dX1_readPerson_17 : decode cX1_readPerson 17 = .ok (.invokevirtual 42, 3) := by decide +kernel
theorem dX1_readPerson_20 : decode cX1_readPerson 20 = .ok (.istore_n 2, 1) := by decide +kernel
theorem dX1_readPerson_21 : decode cX1_readPerson 21 = .ok (.iload_n 2, 1) := by decide +kernel
theorem dX1_readPerson_22 : decode cX1_readPerson 22 = .ok (.ifCond .ge 7, 3) := by decide +kernel
theorem dX1_readPerson_25 : decode cX1_readPerson 25 = .ok (.iload_n 1, 1) := by decide +kernel
theorem dX1_readPerson_26 : decode cX1_readPerson 26 = .ok (.iconst 1, 1) := by decide +kernel
theorem dX1_readPerson_27 : decode cX1_readPerson 27 = .ok (.iadd, 1) := by decide +kernel
theorem dX1_readPerson_28 : decode cX1_readPerson 28 = .ok (.ireturn, 1) := by decide +kernel
theorem dX1_readPerson_29 : decode cX1_readPerson 29 = .ok (.aload_n 0, 1) := by decide +kernel
theorem dX1_readPerson_30 : decode cX1_readPerson 30 = .ok (.iload_n 1, 1) := by decide +kernel
theorem dX1_readPerson_31 : decode cX1_readPerson 31 = .ok (.iconst 2, 1) := by decide +kernel
theorem dX1_readPerson_32 : decode cX1_readPerson 32 = .ok (.iadd, 1) := by decide +kernel
theorem dX1_readPerson_33 : decode cX1_readPerson 33 = .ok (.invokevirtual 42, 3) := by decide +kernel
theorem dX1_readPerson_36 : decode cX1_readPerson 36 = .ok (.istore_n 3, 1) := by decide +kernel
theorem dX1_readPerson_37 : decode cX1_readPerson 37 = .ok (.iload_n 3, 1) := by decide +kernel
theorem dX1_readPerson_38 : decode cX1_readPerson 38 = .ok (.ifCond .ge 7, 3) := by decide +kernel
theorem dX1_readPerson_41 : decode cX1_readPerson 41 = .ok (.iload_n 1, 1) := by decide +kernel
theorem dX1_readPerson_42 : decode cX1_readPerson 42 = .ok (.iconst 2, 1) := by decide +kernel
theorem dX1_readPerson_43 : decode cX1_readPerson 43 = .ok (.iadd, 1) := by decide +kernel
theorem dX1_readPerson_44 : decode cX1_readPerson 44 = .ok (.ireturn, 1) := by decide +kernel
theorem dX1_readPerson_45 : decode cX1_readPerson 45 = .ok (.aload_n 0, 1) := by decide +kernel
theorem dX1_readPerson_46 : decode cX1_readPerson 46 = .ok (.iload_n 1, 1) := by decide +kernel
theorem dX1_readPerson_47 : decode cX1_readPerson 47 = .ok (.iconst 3, 1) := by decide +kernel
theorem dX1_readPerson_48 : decode cX1_readPerson 48 = .ok (.iadd, 1) := by decide +kernel
theorem dX1_readPerson_49 : decode cX1_readPerson 49 = .ok (.invokevirtual 42, 3) := by decide +kernel
theorem dX1_readPerson_52 : decode cX1_readPerson 52 = .ok (.istore 4, 2) := by decide +kernel
theorem dX1_readPerson_54 : decode cX1_readPerson 54 = .ok (.iload 4, 2) := by decide +kernel
theorem dX1_readPerson_56 : decode cX1_readPerson 56 = .ok (.ifCond .lt 9, 3) := by decide +kernel
theorem dX1_readPerson_59 : decode cX1_readPerson 59 = .ok (.iload 4, 2) := by decide +kernel
theorem dX1_readPerson_61 : decode cX1_readPerson 61 = .ok (.iconst 3, 1) := by decide +kernel
theorem dX1_readPerson_62 : decode cX1_readPerson 62 = .ok (.if_icmp .le 7, 3) := by decide +kernel
theorem dX1_readPerson_65 : decode cX1_readPerson 65 = .ok (.iload_n 1, 1) := by decide +kernel
theorem dX1_readPerson_66 : decode cX1_readPerson 66 = .ok (.iconst 3, 1) := by decide +kernel
theorem dX1_readPerson_67 : decode cX1_readPerson 67 = .ok (.iadd, 1) := by decide +kernel
theorem dX1_readPerson_68 : decode cX1_readPerson 68 = .ok (.ireturn, 1) := by decide +kernel
theorem dX1_readPerson_69 : decode cX1_readPerson 69 = .ok (.aload_n 0, 1) := by decide +kernel
theorem dX1_readPerson_70 : decode cX1_readPerson 70 = .ok (.getfield 18, 3) := by decide +kernel
theorem dX1_readPerson_73 : decode cX1_readPerson 73 = .ok (.iload_n 2, 1) := by decide +kernel
theorem dX1_readPerson_74 : decode cX1_readPerson 74 = .ok (.iload_n 3, 1) := by decide +kernel
theorem dX1_readPerson_75 : decode cX1_readPerson 75 = .ok (.iload 4, 2) := by decide +kernel
theorem dX1_readPerson_77 : decode cX1_readPerson 77 = .ok (.invokevirtual 45, 3) := by decide +kernel
theorem dX1_readPerson_80 : decode cX1_readPerson 80 = .ok (.bipush (-9), 2) := by decide +kernel
theorem dX1_readPerson_82 : decode cX1_readPerson 82 = .ok (.ireturn, 1) := by decide +kernel
theorem dX1_readKin_0 : decode cX1_readKin 0 = .ok (.aload_n 0, 1) := by decide +kernel
theorem dX1_readKin_1 : decode cX1_readKin 1 = .ok (.iload_n 1, 1) := by decide +kernel
theorem dX1_readKin_2 : decode cX1_readKin 2 = .ok (.invokevirtual 29, 3) := by decide +kernel
theorem dX1_readKin_5 : decode cX1_readKin 5 = .ok (.bipush 75, 2) := by decide +kernel
theorem dX1_readKin_7 : decode cX1_readKin 7 = .ok (.if_icmp .ne 10, 3) := by decide +kernel
theorem dX1_readKin_10 : decode cX1_readKin 10 = .ok (.aload_n 0, 1) := by decide +kernel
theorem dX1_readKin_11 : decode cX1_readKin 11 = .ok (.invokevirtual 49, 3) := by decide +kernel
theorem dX1_readKin_14 : decode cX1_readKin 14 = .ok (.ifCond .ne 5, 3) := by decide +kernel
theorem dX1_readKin_17 : decode cX1_readKin 17 = .ok (.iload_n 1, 1) := by decide +kernel
theorem dX1_readKin_18 : decode cX1_readKin 18 = .ok (.ireturn, 1) := by decide +kernel
theorem dX1_readKin_19 : decode cX1_readKin 19 = .ok (.aload_n 0, 1) := by decide +kernel
theorem dX1_readKin_20 : decode cX1_readKin 20 = .ok (.iload_n 1, 1) := by decide +kernel
theorem dX1_readKin_21 : decode cX1_readKin 21 = .ok (.iconst 1, 1) := by decide +kernel
theorem dX1_readKin_22 : decode cX1_readKin 22 = .ok (.iadd, 1) := by decide +kernel
theorem dX1_readKin_23 : decode cX1_readKin 23 = .ok (.invokevirtual 42, 3) := by decide +kernel
theorem dX1_readKin_26 : decode cX1_readKin 26 = .ok (.istore_n 2, 1) := by decide +kernel
theorem dX1_readKin_27 : decode cX1_readKin 27 = .ok (.aload_n 0, 1) := by decide +kernel
theorem dX1_readKin_28 : decode cX1_readKin 28 = .ok (.getfield 18, 3) := by decide +kernel
theorem dX1_readKin_31 : decode cX1_readKin 31 = .ok (.iload_n 2, 1) := by decide +kernel
theorem dX1_readKin_32 : decode cX1_readKin 32 = .ok (.invokevirtual 53, 3) := by decide +kernel
theorem dX1_readKin_35 : decode cX1_readKin 35 = .ok (.istore_n 3, 1) := by decide +kernel
theorem dX1_readKin_36 : decode cX1_readKin 36 = .ok (.iload_n 3, 1) := by decide +kernel
theorem dX1_readKin_37 : decode cX1_readKin 37 = .ok (.ifCond .ne 7, 3) := by decide +kernel
theorem dX1_readKin_40 : decode cX1_readKin 40 = .ok (.iload_n 1, 1) := by decide +kernel
theorem dX1_readKin_41 : decode cX1_readKin 41 = .ok (.iconst 1, 1) := by decide +kernel
theorem dX1_readKin_42 : decode cX1_readKin 42 = .ok (.iadd, 1) := by decide +kernel
theorem dX1_readKin_43 : decode cX1_readKin 43 = .ok (.ireturn, 1) := by decide +kernel
theorem dX1_readKin_44 : decode cX1_readKin 44 = .ok (.aload_n 0, 1) := by decide +kernel
theorem dX1_readKin_45 : decode cX1_readKin 45 = .ok (.iload_n 1, 1) := by decide +kernel
theorem dX1_readKin_46 : decode cX1_readKin 46 = .ok (.iconst 2, 1) := by decide +kernel
theorem dX1_readKin_47 : decode cX1_readKin 47 = .ok (.iadd, 1) := by decide +kernel
theorem dX1_readKin_48 : decode cX1_readKin 48 = .ok (.invokevirtual 42, 3) := by decide +kernel
theorem dX1_readKin_51 : decode cX1_readKin 51 = .ok (.istore 4, 2) := by decide +kernel
theorem dX1_readKin_53 : decode cX1_readKin 53 = .ok (.iload_n 3, 1) := by decide +kernel
theorem dX1_readKin_54 : decode cX1_readKin 54 = .ok (.iload 4, 2) := by decide +kernel
theorem dX1_readKin_56 : decode cX1_readKin 56 = .ok (.invokestatic 56, 3) := by decide +kernel
theorem dX1_readKin_59 : decode cX1_readKin 59 = .ok (.ifCond .ne 7, 3) := by decide +kernel
theorem dX1_readKin_62 : decode cX1_readKin 62 = .ok (.iload_n 1, 1) := by decide +kernel
theorem dX1_readKin_63 : decode cX1_readKin 63 = .ok (.iconst 2, 1) := by decide +kernel
theorem dX1_readKin_64 : decode cX1_readKin 64 = .ok (.iadd, 1) := by decide +kernel
theorem dX1_readKin_65 : decode cX1_readKin 65 = .ok (.ireturn, 1) := by decide +kernel
theorem dX1_readKin_66 : decode cX1_readKin 66 = .ok (.aload_n 0, 1) := by decide +kernel
theorem dX1_readKin_67 : decode cX1_readKin 67 = .ok (.getfield 18, 3) := by decide +kernel
theorem dX1_readKin_70 : decode cX1_readKin 70 = .ok (.iload_n 2, 1) := by decide +kernel
theorem dX1_readKin_71 : decode cX1_readKin 71 = .ok (.iload 4, 2) := by decide +kernel
theorem dX1_readKin_73 : decode cX1_readKin 73 = .ok (.invokevirtual 60, 3) := by decide +kernel
theorem dX1_readKin_76 : decode cX1_readKin 76 = .ok (.bipush (-9), 2) := by decide +kernel
theorem dX1_readKin_78 : decode cX1_readKin 78 = .ok (.ireturn, 1) := by decide +kernel
theorem dX1_isPairLeft_0 : decode cX1_isPairLeft 0 = .ok (.iconst 0, 1) := by decide +kernel
theorem dX1_isPairLeft_1 : decode cX1_isPairLeft 1 = .ok (.istore_n 1, 1) := by decide +kernel
theorem dX1_isPairLeft_2 : decode cX1_isPairLeft 2 = .ok (.iload_n 1, 1) := by decide +kernel
theorem dX1_isPairLeft_3 : decode cX1_isPairLeft 3 = .ok (.iconst 5, 1) := by decide +kernel
theorem dX1_isPairLeft_4 : decode cX1_isPairLeft 4 = .ok (.if_icmp .ge 22, 3) := by decide +kernel
theorem dX1_isPairLeft_7 : decode cX1_isPairLeft 7 = .ok (.aload_n 0, 1) := by decide +kernel
theorem dX1_isPairLeft_8 : decode cX1_isPairLeft 8 = .ok (.getfield 18, 3) := by decide +kernel
theorem dX1_isPairLeft_11 : decode cX1_isPairLeft 11 = .ok (.iload_n 1, 1) := by decide +kernel
theorem dX1_isPairLeft_12 : decode cX1_isPairLeft 12 = .ok (.invokevirtual 53, 3) := by decide +kernel
theorem dX1_isPairLeft_15 : decode cX1_isPairLeft 15 = .ok (.ifCond .eq 5, 3) := by decide +kernel
theorem dX1_isPairLeft_18 : decode cX1_isPairLeft 18 = .ok (.iconst 1, 1) := by decide +kernel
theorem dX1_isPairLeft_19 : decode cX1_isPairLeft 19 = .ok (.ireturn, 1) := by decide +kernel
theorem dX1_isPairLeft_20 : decode cX1_isPairLeft 20 = .ok (.iinc 1 1, 3) := by decide +kernel
theorem dX1_isPairLeft_23 : decode cX1_isPairLeft 23 = .ok (.goto (-21), 3) := by decide +kernel
theorem dX1_isPairLeft_26 : decode cX1_isPairLeft 26 = .ok (.iconst 0, 1) := by decide +kernel
theorem dX1_isPairLeft_27 : decode cX1_isPairLeft 27 = .ok (.ireturn, 1) := by decide +kernel
theorem dX2_init_0 : decode cX2_init 0 = .ok (.aload_n 0, 1) := by decide +kernel
theorem dX2_init_1 : decode cX2_init 1 = .ok (.invokespecial 3, 3) := by decide +kernel
theorem dX2_init_4 : decode cX2_init 4 = .ok (.aload_n 0, 1) := by decide +kernel
theorem dX2_init_5 : decode cX2_init 5 = .ok (.iconst 5, 1) := by decide +kernel
theorem dX2_init_6 : decode cX2_init 6 = .ok (.newarray .int, 2) := by decide +kernel
theorem dX2_init_8 : decode cX2_init 8 = .ok (.putfield 9, 3) := by decide +kernel
theorem dX2_init_11 : decode cX2_init 11 = .ok (.aload_n 0, 1) := by decide +kernel
theorem dX2_init_12 : decode cX2_init 12 = .ok (.iconst 5, 1) := by decide +kernel
theorem dX2_init_13 : decode cX2_init 13 = .ok (.newarray .int, 2) := by decide +kernel
theorem dX2_init_15 : decode cX2_init 15 = .ok (.putfield 15, 3) := by decide +kernel
theorem dX2_init_18 : decode cX2_init 18 = .ok (.aload_n 0, 1) := by decide +kernel
theorem dX2_init_19 : decode cX2_init 19 = .ok (.iconst 5, 1) := by decide +kernel
theorem dX2_init_20 : decode cX2_init 20 = .ok (.newarray .int, 2) := by decide +kernel
theorem dX2_init_22 : decode cX2_init 22 = .ok (.putfield 18, 3) := by decide +kernel
theorem dX2_init_25 : decode cX2_init 25 = .ok (.aload_n 0, 1) := by decide +kernel
theorem dX2_init_26 : decode cX2_init 26 = .ok (.iconst 5, 1) := by decide +kernel
theorem dX2_init_27 : decode cX2_init 27 = .ok (.newarray .int, 2) := by decide +kernel
theorem dX2_init_29 : decode cX2_init 29 = .ok (.putfield 21, 3) := by decide +kernel
theorem dX2_init_32 : decode cX2_init 32 = .ok (.aload_n 0, 1) := by decide +kernel
theorem dX2_init_33 : decode cX2_init 33 = .ok (.bipush 25, 2) := by decide +kernel
theorem dX2_init_35 : decode cX2_init 35 = .ok (.newarray .int, 2) := by decide +kernel
theorem dX2_init_37 : decode cX2_init 37 = .ok (.putfield 24, 3) := by decide +kernel
theorem dX2_init_40 : decode cX2_init 40 = .ok (.return_, 1) := by decide +kernel
theorem dX2_copyFrom_0 : decode cX2_copyFrom 0 = .ok (.aload_n 1, 1) := by decide +kernel
theorem dX2_copyFrom_1 : decode cX2_copyFrom 1 = .ok (.getfield 9, 3) := by decide +kernel
theorem dX2_copyFrom_4 : decode cX2_copyFrom 4 = .ok (.iconst 0, 1) := by decide +kernel
theorem dX2_copyFrom_5 : decode cX2_copyFrom 5 = .ok (.aload_n 0, 1) := by decide +kernel
theorem dX2_copyFrom_6 : decode cX2_copyFrom 6 = .ok (.getfield 9, 3) := by decide +kernel
theorem dX2_copyFrom_9 : decode cX2_copyFrom 9 = .ok (.iconst 0, 1) := by decide +kernel
theorem dX2_copyFrom_10 : decode cX2_copyFrom 10 = .ok (.iconst 5, 1) := by decide +kernel
theorem dX2_copyFrom_11 : decode cX2_copyFrom 11 = .ok (.invokestatic 27, 3) := by decide +kernel
theorem dX2_copyFrom_14 : decode cX2_copyFrom 14 = .ok (.aload_n 1, 1) := by decide +kernel
theorem dX2_copyFrom_15 : decode cX2_copyFrom 15 = .ok (.getfield 15, 3) := by decide +kernel
theorem dX2_copyFrom_18 : decode cX2_copyFrom 18 = .ok (.iconst 0, 1) := by decide +kernel
theorem dX2_copyFrom_19 : decode cX2_copyFrom 19 = .ok (.aload_n 0, 1) := by decide +kernel
theorem dX2_copyFrom_20 : decode cX2_copyFrom 20 = .ok (.getfield 15, 3) := by decide +kernel
theorem dX2_copyFrom_23 : decode cX2_copyFrom 23 = .ok (.iconst 0, 1) := by decide +kernel
theorem dX2_copyFrom_24 : decode cX2_copyFrom 24 = .ok (.iconst 5, 1) := by decide +kernel
theorem dX2_copyFrom_25 : decode cX2_copyFrom 25 = .ok (.invokestatic 27, 3) := by decide +kernel
theorem dX2_copyFrom_28 : decode cX2_copyFrom 28 = .ok (.aload_n 1, 1) := by decide +kernel
theorem dX2_copyFrom_29 : decode cX2_copyFrom 29 = .ok (.getfield 18, 3) := by decide +kernel
theorem dX2_copyFrom_32 : decode cX2_copyFrom 32 = .ok (.iconst 0, 1) := by decide +kernel
theorem dX2_copyFrom_33 : decode cX2_copyFrom 33 = .ok (.aload_n 0, 1) := by decide +kernel
theorem dX2_copyFrom_34 : decode cX2_copyFrom 34 = .ok (.getfield 18, 3) := by decide +kernel
theorem dX2_copyFrom_37 : decode cX2_copyFrom 37 = .ok (.iconst 0, 1) := by decide +kernel
theorem dX2_copyFrom_38 : decode cX2_copyFrom 38 = .ok (.iconst 5, 1) := by decide +kernel
theorem dX2_copyFrom_39 : decode cX2_copyFrom 39 = .ok (.invokestatic 27, 3) := by decide +kernel
theorem dX2_copyFrom_42 : decode cX2_copyFrom 42 = .ok (.aload_n 1, 1) := by decide +kernel
theorem dX2_copyFrom_43 : decode cX2_copyFrom 43 = .ok (.getfield 21, 3) := by decide +kernel
theorem dX2_copyFrom_46 : decode cX2_copyFrom 46 = .ok (.iconst 0, 1) := by decide +kernel
theorem dX2_copyFrom_47 : decode cX2_copyFrom 47 = .ok (.aload_n 0, 1) := by decide +kernel
theorem dX2_copyFrom_48 : decode cX2_copyFrom 48 = .ok (.getfield 21, 3) := by decide +kernel
theorem dX2_copyFrom_51 : decode cX2_copyFrom 51 = .ok (.iconst 0, 1) := by decide +kernel
theorem dX2_copyFrom_52 : decode cX2_copyFrom 52 = .ok (.iconst 5, 1) := by decide +kernel
theorem dX2_copyFrom_53 : decode cX2_copyFrom 53 = .ok (.invokestatic 27, 3) := by decide +kernel
theorem dX2_copyFrom_56 : decode cX2_copyFrom 56 = .ok (.aload_n 1, 1) := by decide +kernel
theorem dX2_copyFrom_57 : decode cX2_copyFrom 57 = .ok (.getfield 24, 3) := by decide +kernel
theorem dX2_copyFrom_60 : decode cX2_copyFrom 60 = .ok (.iconst 0, 1) := by decide +kernel
theorem dX2_copyFrom_61 : decode cX2_copyFrom 61 = .ok (.aload_n 0, 1) := by decide +kernel
theorem dX2_copyFrom_62 : decode cX2_copyFrom 62 = .ok (.getfield 24, 3) := by decide +kernel
theorem dX2_copyFrom_65 : decode cX2_copyFrom 65 = .ok (.iconst 0, 1) := by decide +kernel
theorem dX2_copyFrom_66 : decode cX2_copyFrom 66 = .ok (.bipush 25, 2) := by decide +kernel
theorem dX2_copyFrom_68 : decode cX2_copyFrom 68 = .ok (.invokestatic 27, 3) := by decide +kernel
theorem dX2_copyFrom_71 : decode cX2_copyFrom 71 = .ok (.aload_n 0, 1) := by decide +kernel
theorem dX2_copyFrom_72 : decode cX2_copyFrom 72 = .ok (.aload_n 1, 1) := by decide +kernel
theorem dX2_copyFrom_73 : decode cX2_copyFrom 73 = .ok (.getfield 33, 3) := by decide +kernel
theorem dX2_copyFrom_76 : decode cX2_copyFrom 76 = .ok (.putfield 33, 3) := by decide +kernel
theorem dX2_copyFrom_79 : decode cX2_copyFrom 79 = .ok (.aload_n 0, 1) := by decide +kernel
theorem dX2_copyFrom_80 : decode cX2_copyFrom 80 = .ok (.aload_n 1, 1) := by decide +kernel
theorem dX2_copyFrom_81 : decode cX2_copyFrom 81 = .ok (.getfield 37, 3) := by decide +kernel
theorem dX2_copyFrom_84 : decode cX2_copyFrom 84 = .ok (.putfield 37, 3) := by decide +kernel
theorem dX2_copyFrom_87 : decode cX2_copyFrom 87 = .ok (.aload_n 0, 1) := by decide +kernel
theorem dX2_copyFrom_88 : decode cX2_copyFrom 88 = .ok (.aload_n 1, 1) := by decide +kernel
theorem dX2_copyFrom_89 : decode cX2_copyFrom 89 = .ok (.getfield 40, 3) := by decide +kernel
theorem dX2_copyFrom_92 : decode cX2_copyFrom 92 = .ok (.putfield 40, 3) := by decide +kernel
theorem dX2_copyFrom_95 : decode cX2_copyFrom 95 = .ok (.aload_n 0, 1) := by decide +kernel
theorem dX2_copyFrom_96 : decode cX2_copyFrom 96 = .ok (.aload_n 1, 1) := by decide +kernel
theorem dX2_copyFrom_97 : decode cX2_copyFrom 97 = .ok (.getfield 43, 3) := by decide +kernel
theorem dX2_copyFrom_100 : decode cX2_copyFrom 100 = .ok (.putfield 43, 3) := by decide +kernel
theorem dX2_copyFrom_103 : decode cX2_copyFrom 103 = .ok (.return_, 1) := by decide +kernel
theorem dX2_clear_0 : decode cX2_clear 0 = .ok (.iconst 0, 1) := by decide +kernel
theorem dX2_clear_1 : decode cX2_clear 1 = .ok (.istore_n 1, 1) := by decide +kernel
theorem dX2_clear_2 : decode cX2_clear 2 = .ok (.iload_n 1, 1) := by decide +kernel
theorem dX2_clear_3 : decode cX2_clear 3 = .ok (.iconst 5, 1) := by decide +kernel
theorem dX2_clear_4 : decode cX2_clear 4 = .ok (.if_icmp .ge 37, 3) := by decide +kernel
theorem dX2_clear_7 : decode cX2_clear 7 = .ok (.aload_n 0, 1) := by decide +kernel
theorem dX2_clear_8 : decode cX2_clear 8 = .ok (.getfield 9, 3) := by decide +kernel
theorem dX2_clear_11 : decode cX2_clear 11 = .ok (.iload_n 1, 1) := by decide +kernel
theorem dX2_clear_12 : decode cX2_clear 12 = .ok (.iconst 0, 1) := by decide +kernel
theorem dX2_clear_13 : decode cX2_clear 13 = .ok (.iastore, 1) := by decide +kernel
theorem dX2_clear_14 : decode cX2_clear 14 = .ok (.aload_n 0, 1) := by decide +kernel
theorem dX2_clear_15 : decode cX2_clear 15 = .ok (.getfield 15, 3) := by decide +kernel
theorem dX2_clear_18 : decode cX2_clear 18 = .ok (.iload_n 1, 1) := by decide +kernel
theorem dX2_clear_19 : decode cX2_clear 19 = .ok (.iconst 0, 1) := by decide +kernel
theorem dX2_clear_20 : decode cX2_clear 20 = .ok (.iastore, 1) := by decide +kernel
theorem dX2_clear_21 : decode cX2_clear 21 = .ok (.aload_n 0, 1) := by decide +kernel
theorem dX2_clear_22 : decode cX2_clear 22 = .ok (.getfield 18, 3) := by decide +kernel
theorem dX2_clear_25 : decode cX2_clear 25 = .ok (.iload_n 1, 1) := by decide +kernel
theorem dX2_clear_26 : decode cX2_clear 26 = .ok (.iconst 0, 1) := by decide +kernel
theorem dX2_clear_27 : decode cX2_clear 27 = .ok (.iastore, 1) := by decide +kernel
theorem dX2_clear_28 : decode cX2_clear 28 = .ok (.aload_n 0, 1) := by decide +kernel
theorem dX2_clear_29 : decode cX2_clear 29 = .ok (.getfield 21, 3) := by decide +kernel
theorem dX2_clear_32 : decode cX2_clear 32 = .ok (.iload_n 1, 1) := by decide +kernel
theorem dX2_clear_33 : decode cX2_clear 33 = .ok (.iconst 0, 1) := by decide +kernel
theorem dX2_clear_34 : decode cX2_clear 34 = .ok (.iastore, 1) := by decide +kernel
theorem dX2_clear_35 : decode cX2_clear 35 = .ok (.iinc 1 1, 3) := by decide +kernel
theorem dX2_clear_38 : decode cX2_clear 38 = .ok (.goto (-36), 3) := by decide +kernel
theorem dX2_clear_41 : decode cX2_clear 41 = .ok (.iconst 0, 1) := by decide +kernel
theorem dX2_clear_42 : decode cX2_clear 42 = .ok (.istore_n 1, 1) := by decide +kernel
theorem dX2_clear_43 : decode cX2_clear 43 = .ok (.iload_n 1, 1) := by decide +kernel
theorem dX2_clear_44 : decode cX2_clear 44 = .ok (.bipush 25, 2) := by decide +kernel
theorem dX2_clear_46 : decode cX2_clear 46 = .ok (.if_icmp .ge 16, 3) := by decide +kernel
theorem dX2_clear_49 : decode cX2_clear 49 = .ok (.aload_n 0, 1) := by decide +kernel
theorem dX2_clear_50 : decode cX2_clear 50 = .ok (.getfield 24, 3) := by decide +kernel
theorem dX2_clear_53 : decode cX2_clear 53 = .ok (.iload_n 1, 1) := by decide +kernel
theorem dX2_clear_54 : decode cX2_clear 54 = .ok (.iconst 0, 1) := by decide +kernel
theorem dX2_clear_55 : decode cX2_clear 55 = .ok (.iastore, 1) := by decide +kernel
theorem dX2_clear_56 : decode cX2_clear 56 = .ok (.iinc 1 1, 3) := by decide +kernel
theorem dX2_clear_59 : decode cX2_clear 59 = .ok (.goto (-16), 3) := by decide +kernel
theorem dX2_clear_62 : decode cX2_clear 62 = .ok (.aload_n 0, 1) := by decide +kernel
theorem dX2_clear_63 : decode cX2_clear 63 = .ok (.iconst 0, 1) := by decide +kernel
theorem dX2_clear_64 : decode cX2_clear 64 = .ok (.putfield 33, 3) := by decide +kernel
theorem dX2_clear_67 : decode cX2_clear 67 = .ok (.aload_n 0, 1) := by decide +kernel
theorem dX2_clear_68 : decode cX2_clear 68 = .ok (.iconst 0, 1) := by decide +kernel
theorem dX2_clear_69 : decode cX2_clear 69 = .ok (.putfield 37, 3) := by decide +kernel
theorem dX2_clear_72 : decode cX2_clear 72 = .ok (.aload_n 0, 1) := by decide +kernel
theorem dX2_clear_73 : decode cX2_clear 73 = .ok (.iconst 0, 1) := by decide +kernel
theorem dX2_clear_74 : decode cX2_clear 74 = .ok (.putfield 40, 3) := by decide +kernel
theorem dX2_clear_77 : decode cX2_clear 77 = .ok (.aload_n 0, 1) := by decide +kernel
theorem dX2_clear_78 : decode cX2_clear 78 = .ok (.iconst 0, 1) := by decide +kernel
theorem dX2_clear_79 : decode cX2_clear 79 = .ok (.putfield 43, 3) := by decide +kernel
theorem dX2_clear_82 : decode cX2_clear 82 = .ok (.return_, 1) := by decide +kernel
theorem dX2_add_0 : decode cX2_add 0 = .ok (.aload_n 0, 1) := by decide +kernel
theorem dX2_add_1 : decode cX2_add 1 = .ok (.getfield 33, 3) := by decide +kernel
theorem dX2_add_4 : decode cX2_add 4 = .ok (.ifCond .lt 51, 3) := by decide +kernel
theorem dX2_add_7 : decode cX2_add 7 = .ok (.aload_n 0, 1) := by decide +kernel
theorem dX2_add_8 : decode cX2_add 8 = .ok (.getfield 33, 3) := by decide +kernel
theorem dX2_add_11 : decode cX2_add 11 = .ok (.iconst 5, 1) := by decide +kernel
theorem dX2_add_12 : decode cX2_add 12 = .ok (.if_icmp .ge 43, 3) := by decide +kernel
theorem dX2_add_15 : decode cX2_add 15 = .ok (.aload_n 0, 1) := by decide +kernel
theorem dX2_add_16 : decode cX2_add 16 = .ok (.getfield 9, 3) := by decide +kernel
theorem dX2_add_19 : decode cX2_add 19 = .ok (.aload_n 0, 1) := by decide +kernel
theorem dX2_add_20 : decode cX2_add 20 = .ok (.getfield 33, 3) := by decide +kernel
theorem dX2_add_23 : decode cX2_add 23 = .ok (.iload_n 1, 1) := by decide +kernel
theorem dX2_add_24 : decode cX2_add 24 = .ok (.iastore, 1) := by decide +kernel
theorem dX2_add_25 : decode cX2_add 25 = .ok (.aload_n 0, 1) := by decide +kernel
theorem dX2_add_26 : decode cX2_add 26 = .ok (.getfield 15, 3) := by decide +kernel
theorem dX2_add_29 : decode cX2_add 29 = .ok (.aload_n 0, 1) := by decide +kernel
theorem dX2_add_30 : decode cX2_add 30 = .ok (.getfield 33, 3) := by decide +kernel
theorem dX2_add_33 : decode cX2_add 33 = .ok (.iload_n 2, 1) := by decide +kernel
theorem dX2_add_34 : decode cX2_add 34 = .ok (.iastore, 1) := by decide +kernel
theorem dX2_add_35 : decode cX2_add 35 = .ok (.aload_n 0, 1) := by decide +kernel
theorem dX2_add_36 : decode cX2_add 36 = .ok (.getfield 18, 3) := by decide +kernel
theorem dX2_add_39 : decode cX2_add 39 = .ok (.aload_n 0, 1) := by decide +kernel
theorem dX2_add_40 : decode cX2_add 40 = .ok (.getfield 33, 3) := by decide +kernel
theorem dX2_add_43 : decode cX2_add 43 = .ok (.iload_n 3, 1) := by decide +kernel
theorem dX2_add_44 : decode cX2_add 44 = .ok (.iastore, 1) := by decide +kernel
theorem dX2_add_45 : decode cX2_add 45 = .ok (.aload_n 0, 1) := by decide +kernel
theorem dX2_add_46 : decode cX2_add 46 = .ok (.dup, 1) := by decide +kernel
theorem dX2_add_47 : decode cX2_add 47 = .ok (.getfield 33, 3) := by decide +kernel
theorem dX2_add_50 : decode cX2_add 50 = .ok (.iconst 1, 1) := by decide +kernel
theorem dX2_add_51 : decode cX2_add 51 = .ok (.iadd, 1) := by decide +kernel
theorem dX2_add_52 : decode cX2_add 52 = .ok (.putfield 33, 3) := by decide +kernel
theorem dX2_add_55 : decode cX2_add 55 = .ok (.return_, 1) := by decide +kernel
theorem dX2_has_0 : decode cX2_has 0 = .ok (.iload_n 1, 1) := by decide +kernel
theorem dX2_has_1 : decode cX2_has 1 = .ok (.ifCond .lt 20, 3) := by decide +kernel
theorem dX2_has_4 : decode cX2_has 4 = .ok (.iload_n 1, 1) := by decide +kernel
theorem dX2_has_5 : decode cX2_has 5 = .ok (.aload_n 0, 1) := by decide +kernel
theorem dX2_has_6 : decode cX2_has 6 = .ok (.getfield 33, 3) := by decide +kernel
theorem dX2_has_9 : decode cX2_has 9 = .ok (.if_icmp .ge 12, 3) := by decide +kernel
theorem dX2_has_12 : decode cX2_has 12 = .ok (.iload_n 1, 1) := by decide +kernel
theorem dX2_has_13 : decode cX2_has 13 = .ok (.iconst 5, 1) := by decide +kernel
theorem dX2_has_14 : decode cX2_has 14 = .ok (.if_icmp .ge 7, 3) := by decide +kernel
theorem dX2_has_17 : decode cX2_has 17 = .ok (.iconst 1, 1) := by decide +kernel
theorem dX2_has_18 : decode cX2_has 18 = .ok (.goto 4, 3) := by decide +kernel
theorem dX2_has_21 : decode cX2_has 21 = .ok (.iconst 0, 1) := by decide +kernel
theorem dX2_has_22 : decode cX2_has 22 = .ok (.ireturn, 1) := by decide +kernel
theorem dX2_everyone_0 : decode cX2_everyone 0 = .ok (.iconst 1, 1) := by decide +kernel
theorem dX2_everyone_1 : decode cX2_everyone 1 = .ok (.aload_n 0, 1) := by decide +kernel
theorem dX2_everyone_2 : decode cX2_everyone 2 = .ok (.getfield 33, 3) := by decide +kernel
theorem dX2_everyone_5 : decode cX2_everyone 5 = .ok (.ishl, 1) := by decide +kernel
theorem dX2_everyone_6 : decode cX2_everyone 6 = .ok (.iconst 1, 1) := by decide +kernel
theorem dX2_everyone_7 : decode cX2_everyone 7 = .ok (.isub, 1) := by decide +kernel
theorem dX2_everyone_8 : decode cX2_everyone 8 = .ok (.ireturn, 1) := by decide +kernel
theorem dX2_unbereaved_0 : decode cX2_unbereaved 0 = .ok (.aload_n 0, 1) := by decide +kernel
theorem dX2_unbereaved_1 : decode cX2_unbereaved 1 = .ok (.invokevirtual 46, 3) := by decide +kernel
theorem dX2_unbereaved_4 : decode cX2_unbereaved 4 = .ok (.aload_n 0, 1) := by decide +kernel
theorem dX2_unbereaved_5 : decode cX2_unbereaved 5 = .ok (.getfield 37, 3) := by decide +kernel
theorem dX2_unbereaved_8 : decode cX2_unbereaved 8 = .ok (.iconst (-1), 1) := by decide +kernel
theorem dX2_unbereaved_9 : decode cX2_unbereaved 9 = .ok (.ixor, 1) := by decide +kernel
theorem dX2_unbereaved_10 : decode cX2_unbereaved 10 = .ok (.iand, 1) := by decide +kernel
theorem dX2_unbereaved_11 : decode cX2_unbereaved 11 = .ok (.ireturn, 1) := by decide +kernel
theorem dX2_isOpen_0 : decode cX2_isOpen 0 = .ok (.aload_n 0, 1) := by decide +kernel
theorem dX2_isOpen_1 : decode cX2_isOpen 1 = .ok (.getfield 37, 3) := by decide +kernel
theorem dX2_isOpen_4 : decode cX2_isOpen 4 = .ok (.iload_n 1, 1) := by decide +kernel
theorem dX2_isOpen_5 : decode cX2_isOpen 5 = .ok (.invokestatic 50, 3) := by decide +kernel
theorem dX2_isOpen_8 : decode cX2_isOpen 8 = .ok (.ireturn, 1) := by decide +kernel
theorem dX2_areKin_0 : decode cX2_areKin 0 = .ok (.aload_n 0, 1) := by decide +kernel
theorem dX2_areKin_1 : decode cX2_areKin 1 = .ok (.iload_n 1, 1) := by decide +kernel
theorem dX2_areKin_2 : decode cX2_areKin 2 = .ok (.invokevirtual 54, 3) := by decide +kernel
theorem dX2_areKin_5 : decode cX2_areKin 5 = .ok (.ifCond .eq 20, 3) := by decide +kernel
theorem dX2_areKin_8 : decode cX2_areKin 8 = .ok (.aload_n 0, 1) := by decide +kernel
theorem dX2_areKin_9 : decode cX2_areKin 9 = .ok (.getfield 21, 3) := by decide +kernel
theorem dX2_areKin_12 : decode cX2_areKin 12 = .ok (.iload_n 1, 1) := by decide +kernel
theorem dX2_areKin_13 : decode cX2_areKin 13 = .ok (.iaload, 1) := by decide +kernel
theorem dX2_areKin_14 : decode cX2_areKin 14 = .ok (.iload_n 2, 1) := by decide +kernel
theorem dX2_areKin_15 : decode cX2_areKin 15 = .ok (.invokestatic 50, 3) := by decide +kernel
theorem dX2_areKin_18 : decode cX2_areKin 18 = .ok (.ifCond .eq 7, 3) := by decide +kernel
theorem dX2_areKin_21 : decode cX2_areKin 21 = .ok (.iconst 1, 1) := by decide +kernel
theorem dX2_areKin_22 : decode cX2_areKin 22 = .ok (.goto 4, 3) := by decide +kernel
theorem dX2_areKin_25 : decode cX2_areKin 25 = .ok (.iconst 0, 1) := by decide +kernel
theorem dX2_areKin_26 : decode cX2_areKin 26 = .ok (.ireturn, 1) := by decide +kernel
theorem dX2_makeKin_0 : decode cX2_makeKin 0 = .ok (.aload_n 0, 1) := by decide +kernel
theorem dX2_makeKin_1 : decode cX2_makeKin 1 = .ok (.iload_n 1, 1) := by decide +kernel
theorem dX2_makeKin_2 : decode cX2_makeKin 2 = .ok (.invokevirtual 54, 3) := by decide +kernel
theorem dX2_makeKin_5 : decode cX2_makeKin 5 = .ok (.ifCond .eq 35, 3) := by decide +kernel
theorem dX2_makeKin_8 : decode cX2_makeKin 8 = .ok (.aload_n 0, 1) := by decide +kernel
theorem dX2_makeKin_9 : decode cX2_makeKin 9 = .ok (.iload_n 2, 1) := by decide +kernel
theorem dX2_makeKin_10 : decode cX2_makeKin 10 = .ok (.invokevirtual 54, 3) := by decide +kernel
theorem dX2_makeKin_13 : decode cX2_makeKin 13 = .ok (.ifCond .eq 27, 3) := by decide +kernel
theorem dX2_makeKin_16 : decode cX2_makeKin 16 = .ok (.aload_n 0, 1) := by decide +kernel
theorem dX2_makeKin_17 : decode cX2_makeKin 17 = .ok (.getfield 21, 3) := by decide +kernel
theorem dX2_makeKin_20 : decode cX2_makeKin 20 = .ok (.iload_n 1, 1) := by decide +kernel
theorem dX2_makeKin_21 : decode cX2_makeKin 21 = .ok (.dup2, 1) := by decide +kernel
theorem dX2_makeKin_22 : decode cX2_makeKin 22 = .ok (.iaload, 1) := by decide +kernel
theorem dX2_makeKin_23 : decode cX2_makeKin 23 = .ok (.iconst 1, 1) := by decide +kernel
theorem dX2_makeKin_24 : decode cX2_makeKin 24 = .ok (.iload_n 2, 1) := by decide +kernel
theorem dX2_makeKin_25 : decode cX2_makeKin 25 = .ok (.ishl, 1) := by decide +kernel
theorem dX2_makeKin_26 : decode cX2_makeKin 26 = .ok (.ior, 1) := by decide +kernel
theorem dX2_makeKin_27 : decode cX2_makeKin 27 = .ok (.iastore, 1) := by decide +kernel
theorem dX2_makeKin_28 : decode cX2_makeKin 28 = .ok (.aload_n 0, 1) := by decide +kernel
theorem dX2_makeKin_29 : decode cX2_makeKin 29 = .ok (.getfield 21, 3) := by decide +kernel
theorem dX2_makeKin_32 : decode cX2_makeKin 32 = .ok (.iload_n 2, 1) := by decide +kernel
theorem dX2_makeKin_33 : decode cX2_makeKin 33 = .ok (.dup2, 1) := by decide +kernel
theorem dX2_makeKin_34 : decode cX2_makeKin 34 = .ok (.iaload, 1) := by decide +kernel
theorem dX2_makeKin_35 : decode cX2_makeKin 35 = .ok (.iconst 1, 1) := by decide +kernel
theorem dX2_makeKin_36 : decode cX2_makeKin 36 = .ok (.iload_n 1, 1) := by decide +kernel
theorem dX2_makeKin_37 : decode cX2_makeKin 37 = .ok (.ishl, 1) := by decide +kernel
theorem dX2_makeKin_38 : decode cX2_makeKin 38 = .ok (.ior, 1) := by decide +kernel
theorem dX2_makeKin_39 : decode cX2_makeKin 39 = .ok (.iastore, 1) := by decide +kernel
theorem dX2_makeKin_40 : decode cX2_makeKin 40 = .ok (.return_, 1) := by decide +kernel
theorem dX2_laterStrangers_0 : decode cX2_laterStrangers 0 = .ok (.aload_n 0, 1) := by decide +kernel
theorem dX2_laterStrangers_1 : decode cX2_laterStrangers 1 = .ok (.iload_n 1, 1) := by decide +kernel
theorem dX2_laterStrangers_2 : decode cX2_laterStrangers 2 = .ok (.invokevirtual 54, 3) := by decide +kernel
theorem dX2_laterStrangers_5 : decode cX2_laterStrangers 5 = .ok (.ifCond .eq 24, 3) := by decide +kernel
theorem dX2_laterStrangers_8 : decode cX2_laterStrangers 8 = .ok (.aload_n 0, 1) := by decide +kernel
theorem dX2_laterStrangers_9 : decode cX2_laterStrangers 9 = .ok (.invokevirtual 46, 3) := by decide +kernel
theorem dX2_laterStrangers_12 : decode cX2_laterStrangers 12 = .ok (.aload_n 0, 1) := by decide +kernel
theorem dX2_laterStrangers_13 : decode cX2_laterStrangers 13 = .ok (.getfield 21, 3) := by decide +kernel
theorem dX2_laterStrangers_16 : decode cX2_laterStrangers 16 = .ok (.iload_n 1, 1) := by decide +kernel
theorem dX2_laterStrangers_17 : decode cX2_laterStrangers 17 = .ok (.iaload, 1) := by decide +kernel
theorem dX2_laterStrangers_18 : decode cX2_laterStrangers 18 = .ok (.iconst (-1), 1) := by decide +kernel
theorem dX2_laterStrangers_19 : decode cX2_laterStrangers 19 = .ok (.ixor, 1) := by decide +kernel
theorem dX2_laterStrangers_20 : decode cX2_laterStrangers 20 = .ok (.iand, 1) := by decide +kernel
theorem dX2_laterStrangers_21 : decode cX2_laterStrangers 21 = .ok (.iconst 2, 1) := by decide +kernel
theorem dX2_laterStrangers_22 : decode cX2_laterStrangers 22 = .ok (.iload_n 1, 1) := by decide +kernel
theorem dX2_laterStrangers_23 : decode cX2_laterStrangers 23 = .ok (.ishl, 1) := by decide +kernel
theorem dX2_laterStrangers_24 : decode cX2_laterStrangers 24 = .ok (.ineg, 1) := by decide +kernel
theorem dX2_laterStrangers_25 : decode cX2_laterStrangers 25 = .ok (.iand, 1) := by decide +kernel
theorem dX2_laterStrangers_26 : decode cX2_laterStrangers 26 = .ok (.goto 4, 3) := by decide +kernel
theorem dX2_laterStrangers_29 : decode cX2_laterStrangers 29 = .ok (.iconst 0, 1) := by decide +kernel
theorem dX2_laterStrangers_30 : decode cX2_laterStrangers 30 = .ok (.ireturn, 1) := by decide +kernel
theorem dX2_ounces_0 : decode cX2_ounces 0 = .ok (.aload_n 0, 1) := by decide +kernel
theorem dX2_ounces_1 : decode cX2_ounces 1 = .ok (.iload_n 1, 1) := by decide +kernel
theorem dX2_ounces_2 : decode cX2_ounces 2 = .ok (.invokevirtual 54, 3) := by decide +kernel
theorem dX2_ounces_5 : decode cX2_ounces 5 = .ok (.ifCond .eq 13, 3) := by decide +kernel
theorem dX2_ounces_8 : decode cX2_ounces 8 = .ok (.aload_n 0, 1) := by decide +kernel
theorem dX2_ounces_9 : decode cX2_ounces 9 = .ok (.getfield 18, 3) := by decide +kernel
theorem dX2_ounces_12 : decode cX2_ounces 12 = .ok (.iload_n 1, 1) := by decide +kernel
theorem dX2_ounces_13 : decode cX2_ounces 13 = .ok (.iaload, 1) := by decide +kernel
theorem dX2_ounces_14 : decode cX2_ounces 14 = .ok (.iconst 3, 1) := by decide +kernel
theorem dX2_ounces_15 : decode cX2_ounces 15 = .ok (.if_icmp .ne 5, 3) := by decide +kernel
theorem dX2_ounces_18 : decode cX2_ounces 18 = .ok (.iconst 0, 1) := by decide +kernel
theorem dX2_ounces_19 : decode cX2_ounces 19 = .ok (.ireturn, 1) := by decide +kernel
theorem dX2_ounces_20 : decode cX2_ounces 20 = .ok (.aload_n 0, 1) := by decide +kernel
theorem dX2_ounces_21 : decode cX2_ounces 21 = .ok (.getfield 18, 3) := by decide +kernel
theorem dX2_ounces_24 : decode cX2_ounces 24 = .ok (.iload_n 1, 1) := by decide +kernel
theorem dX2_ounces_25 : decode cX2_ounces 25 = .ok (.iaload, 1) := by decide +kernel
theorem dX2_ounces_26 : decode cX2_ounces 26 = .ok (.iconst 2, 1) := by decide +kernel
theorem dX2_ounces_27 : decode cX2_ounces 27 = .ok (.if_icmp .ne 12, 3) := by decide +kernel
theorem dX2_ounces_30 : decode cX2_ounces 30 = .ok (.aload_n 0, 1) := by decide +kernel
theorem dX2_ounces_31 : decode cX2_ounces 31 = .ok (.getfield 9, 3) := by decide +kernel
theorem dX2_ounces_34 : decode cX2_ounces 34 = .ok (.iload_n 1, 1) := by decide +kernel
theorem dX2_ounces_35 : decode cX2_ounces 35 = .ok (.iaload, 1) := by decide +kernel
theorem dX2_ounces_36 : decode cX2_ounces 36 = .ok (.iconst 2, 1) := by decide +kernel
theorem dX2_ounces_37 : decode cX2_ounces 37 = .ok (.idiv, 1) := by decide +kernel
theorem dX2_ounces_38 : decode cX2_ounces 38 = .ok (.ireturn, 1) := by decide +kernel
theorem dX2_ounces_39 : decode cX2_ounces 39 = .ok (.aload_n 0, 1) := by decide +kernel
theorem dX2_ounces_40 : decode cX2_ounces 40 = .ok (.getfield 15, 3) := by decide +kernel
theorem dX2_ounces_43 : decode cX2_ounces 43 = .ok (.iload_n 1, 1) := by decide +kernel
theorem dX2_ounces_44 : decode cX2_ounces 44 = .ok (.iaload, 1) := by decide +kernel
theorem dX2_ounces_45 : decode cX2_ounces 45 = .ok (.iconst 2, 1) := by decide +kernel
theorem dX2_ounces_46 : decode cX2_ounces 46 = .ok (.if_icmp .ge 5, 3) := by decide +kernel
theorem dX2_ounces_49 : decode cX2_ounces 49 = .ok (.iconst 0, 1) := by decide +kernel
theorem dX2_ounces_50 : decode cX2_ounces 50 = .ok (.ireturn, 1) := by decide +kernel
theorem dX2_ounces_51 : decode cX2_ounces 51 = .ok (.aload_n 0, 1) := by decide +kernel
theorem dX2_ounces_52 : decode cX2_ounces 52 = .ok (.getfield 9, 3) := by decide +kernel
theorem dX2_ounces_55 : decode cX2_ounces 55 = .ok (.iload_n 1, 1) := by decide +kernel
theorem dX2_ounces_56 : decode cX2_ounces 56 = .ok (.iaload, 1) := by decide +kernel
theorem dX2_ounces_57 : decode cX2_ounces 57 = .ok (.aload_n 0, 1) := by decide +kernel
theorem dX2_ounces_58 : decode cX2_ounces 58 = .ok (.getfield 18, 3) := by decide +kernel
theorem dX2_ounces_61 : decode cX2_ounces 61 = .ok (.iload_n 1, 1) := by decide +kernel
theorem dX2_ounces_62 : decode cX2_ounces 62 = .ok (.iaload, 1) := by decide +kernel
theorem dX2_ounces_63 : decode cX2_ounces 63 = .ok (.iconst 1, 1) := by decide +kernel
theorem dX2_ounces_64 : decode cX2_ounces 64 = .ok (.if_icmp .ne 7, 3) := by decide +kernel
theorem dX2_ounces_67 : decode cX2_ounces 67 = .ok (.iconst 4, 1) := by decide +kernel
theorem dX2_ounces_68 : decode cX2_ounces 68 = .ok (.goto 4, 3) := by decide +kernel
theorem dX2_ounces_71 : decode cX2_ounces 71 = .ok (.iconst 3, 1) := by decide +kernel
theorem dX2_ounces_72 : decode cX2_ounces 72 = .ok (.idiv, 1) := by decide +kernel
theorem dX2_ounces_73 : decode cX2_ounces 73 = .ok (.ireturn, 1) := by decide +kernel
theorem dX2_allSorrow_0 : decode cX2_allSorrow 0 = .ok (.iconst 0, 1) := by decide +kernel
theorem dX2_allSorrow_1 : decode cX2_allSorrow 1 = .ok (.istore_n 1, 1) := by decide +kernel
theorem dX2_allSorrow_2 : decode cX2_allSorrow 2 = .ok (.iconst 0, 1) := by decide +kernel
theorem dX2_allSorrow_3 : decode cX2_allSorrow 3 = .ok (.istore_n 2, 1) := by decide +kernel
theorem dX2_allSorrow_4 : decode cX2_allSorrow 4 = .ok (.iload_n 2, 1) := by decide +kernel
theorem dX2_allSorrow_5 : decode cX2_allSorrow 5 = .ok (.iconst 5, 1) := by decide +kernel
theorem dX2_allSorrow_6 : decode cX2_allSorrow 6 = .ok (.if_icmp .ge 18, 3) := by decide +kernel
theorem dX2_allSorrow_9 : decode cX2_allSorrow 9 = .ok (.iload_n 1, 1) := by decide +kernel
theorem dX2_allSorrow_10 : decode cX2_allSorrow 10 = .ok (.aload_n 0, 1) := by decide +kernel
theorem dX2_allSorrow_11 : decode cX2_allSorrow 11 = .ok (.getfield 9, 3) := by decide +kernel
theorem dX2_allSorrow_14 : decode cX2_allSorrow 14 = .ok (.iload_n 2, 1) := by decide +kernel
theorem dX2_allSorrow_15 : decode cX2_allSorrow 15 = .ok (.iaload, 1) := by decide +kernel
theorem dX2_allSorrow_16 : decode cX2_allSorrow 16 = .ok (.iadd, 1) := by decide +kernel
theorem dX2_allSorrow_17 : decode cX2_allSorrow 17 = .ok (.istore_n 1, 1) := by decide +kernel
theorem dX2_allSorrow_18 : decode cX2_allSorrow 18 = .ok (.iinc 2 1, 3) := by decide +kernel
theorem dX2_allSorrow_21 : decode cX2_allSorrow 21 = .ok (.goto (-17), 3) := by decide +kernel
theorem dX2_allSorrow_24 : decode cX2_allSorrow 24 = .ok (.iload_n 1, 1) := by decide +kernel
theorem dX2_allSorrow_25 : decode cX2_allSorrow 25 = .ok (.ireturn, 1) := by decide +kernel
theorem dX2_isFitFor_0 : decode cX2_isFitFor 0 = .ok (.aload_n 0, 1) := by decide +kernel
theorem dX2_isFitFor_1 : decode cX2_isFitFor 1 = .ok (.iload_n 1, 1) := by decide +kernel
theorem dX2_isFitFor_2 : decode cX2_isFitFor 2 = .ok (.invokevirtual 58, 3) := by decide +kernel
theorem dX2_isFitFor_5 : decode cX2_isFitFor 5 = .ok (.iconst 1, 1) := by decide +kernel
theorem dX2_isFitFor_6 : decode cX2_isFitFor 6 = .ok (.if_icmp .lt 16, 3) := by decide +kernel
theorem dX2_isFitFor_9 : decode cX2_isFitFor 9 = .ok (.aload_n 0, 1) := by decide +kernel
theorem dX2_isFitFor_10 : decode cX2_isFitFor 10 = .ok (.iload_n 1, 1) := by decide +kernel
theorem dX2_isFitFor_11 : decode cX2_isFitFor 11 = .ok (.iload_n 2, 1) := by decide +kernel
theorem dX2_isFitFor_12 : decode cX2_isFitFor 12 = .ok (.invokevirtual 62, 3) := by decide +kernel
theorem dX2_isFitFor_15 : decode cX2_isFitFor 15 = .ok (.ifCond .ne 7, 3) := by decide +kernel
theorem dX2_isFitFor_18 : decode cX2_isFitFor 18 = .ok (.iconst 1, 1) := by decide +kernel
theorem dX2_isFitFor_19 : decode cX2_isFitFor 19 = .ok (.goto 4, 3) := by decide +kernel
theorem dX2_isFitFor_22 : decode cX2_isFitFor 22 = .ok (.iconst 0, 1) := by decide +kernel
theorem dX2_isFitFor_23 : decode cX2_isFitFor 23 = .ok (.ireturn, 1) := by decide +kernel
theorem dX2_mayWeep_0 : decode cX2_mayWeep 0 = .ok (.aload_n 0, 1) := by decide +kernel
theorem dX2_mayWeep_1 : decode cX2_mayWeep 1 = .ok (.iload_n 2, 1) := by decide +kernel
theorem dX2_mayWeep_2 : decode cX2_mayWeep 2 = .ok (.invokevirtual 65, 3) := by decide +kernel
theorem dX2_mayWeep_5 : decode cX2_mayWeep 5 = .ok (.ifCond .eq 24, 3) := by decide +kernel
theorem dX2_mayWeep_8 : decode cX2_mayWeep 8 = .ok (.aload_n 0, 1) := by decide +kernel
theorem dX2_mayWeep_9 : decode cX2_mayWeep 9 = .ok (.iload_n 1, 1) := by decide +kernel
theorem dX2_mayWeep_10 : decode cX2_mayWeep 10 = .ok (.invokevirtual 65, 3) := by decide +kernel
theorem dX2_mayWeep_13 : decode cX2_mayWeep 13 = .ok (.ifCond .ne 16, 3) := by decide +kernel
theorem dX2_mayWeep_16 : decode cX2_mayWeep 16 = .ok (.aload_n 0, 1) := by decide +kernel
theorem dX2_mayWeep_17 : decode cX2_mayWeep 17 = .ok (.iload_n 1, 1) := by decide +kernel
theorem dX2_mayWeep_18 : decode cX2_mayWeep 18 = .ok (.iload_n 2, 1) := by decide +kernel
theorem dX2_mayWeep_19 : decode cX2_mayWeep 19 = .ok (.invokevirtual 68, 3) := by decide +kernel
theorem dX2_mayWeep_22 : decode cX2_mayWeep 22 = .ok (.ifCond .eq 7, 3) := by decide +kernel
theorem dX2_mayWeep_25 : decode cX2_mayWeep 25 = .ok (.iconst 1, 1) := by decide +kernel
theorem dX2_mayWeep_26 : decode cX2_mayWeep 26 = .ok (.goto 4, 3) := by decide +kernel
theorem dX2_mayWeep_29 : decode cX2_mayWeep 29 = .ok (.iconst 0, 1) := by decide +kernel
theorem dX2_mayWeep_30 : decode cX2_mayWeep 30 = .ok (.ireturn, 1) := by decide +kernel
theorem dX2_mayUseOnions_0 : decode cX2_mayUseOnions 0 = .ok (.aload_n 0, 1) := by decide +kernel
theorem dX2_mayUseOnions_1 : decode cX2_mayUseOnions 1 = .ok (.iload_n 1, 1) := by decide +kernel
theorem dX2_mayUseOnions_2 : decode cX2_mayUseOnions 2 = .ok (.invokevirtual 54, 3) := by decide +kernel
theorem dX2_mayUseOnions_5 : decode cX2_mayUseOnions 5 = .ok (.ifCond .eq 32, 3) := by decide +kernel
theorem dX2_mayUseOnions_8 : decode cX2_mayUseOnions 8 = .ok (.aload_n 0, 1) := by decide +kernel
theorem dX2_mayUseOnions_9 : decode cX2_mayUseOnions 9 = .ok (.iload_n 2, 1) := by decide +kernel
theorem dX2_mayUseOnions_10 : decode cX2_mayUseOnions 10 = .ok (.invokevirtual 65, 3) := by decide +kernel
theorem dX2_mayUseOnions_13 : decode cX2_mayUseOnions 13 = .ok (.ifCond .eq 24, 3) := by decide +kernel
theorem dX2_mayUseOnions_16 : decode cX2_mayUseOnions 16 = .ok (.aload_n 0, 1) := by decide +kernel
theorem dX2_mayUseOnions_17 : decode cX2_mayUseOnions 17 = .ok (.iload_n 1, 1) := by decide +kernel
theorem dX2_mayUseOnions_18 : decode cX2_mayUseOnions 18 = .ok (.invokevirtual 65, 3) := by decide +kernel
theorem dX2_mayUseOnions_21 : decode cX2_mayUseOnions 21 = .ok (.ifCond .ne 16, 3) := by decide +kernel
theorem dX2_mayUseOnions_24 : decode cX2_mayUseOnions 24 = .ok (.aload_n 0, 1) := by decide +kernel
theorem dX2_mayUseOnions_25 : decode cX2_mayUseOnions 25 = .ok (.iload_n 1, 1) := by decide +kernel
theorem dX2_mayUseOnions_26 : decode cX2_mayUseOnions 26 = .ok (.iload_n 2, 1) := by decide +kernel
theorem dX2_mayUseOnions_27 : decode cX2_mayUseOnions 27 = .ok (.invokevirtual 62, 3) := by decide +kernel
theorem dX2_mayUseOnions_30 : decode cX2_mayUseOnions 30 = .ok (.ifCond .ne 7, 3) := by decide +kernel
theorem dX2_mayUseOnions_33 : decode cX2_mayUseOnions 33 = .ok (.iconst 1, 1) := by decide +kernel
theorem dX2_mayUseOnions_34 : decode cX2_mayUseOnions 34 = .ok (.goto 4, 3) := by decide +kernel
theorem dX2_mayUseOnions_37 : decode cX2_mayUseOnions 37 = .ok (.iconst 0, 1) := by decide +kernel
theorem dX2_mayUseOnions_38 : decode cX2_mayUseOnions 38 = .ok (.ireturn, 1) := by decide +kernel
theorem dX2_thoseToWeepFor_0 : decode cX2_thoseToWeepFor 0 = .ok (.iconst 0, 1) := by decide +kernel
theorem dX2_thoseToWeepFor_1 : decode cX2_thoseToWeepFor 1 = .ok (.istore_n 2, 1) := by decide +kernel
theorem dX2_thoseToWeepFor_2 : decode cX2_thoseToWeepFor 2 = .ok (.iconst 0, 1) := by decide +kernel
theorem dX2_thoseToWeepFor_3 : decode cX2_thoseToWeepFor 3 = .ok (.istore_n 3, 1) := by decide +kernel
theorem dX2_thoseToWeepFor_4 : decode cX2_thoseToWeepFor 4 = .ok (.iload_n 3, 1) := by decide +kernel
theorem dX2_thoseToWeepFor_5 : decode cX2_thoseToWeepFor 5 = .ok (.iconst 5, 1) := by decide +kernel
theorem dX2_thoseToWeepFor_6 : decode cX2_thoseToWeepFor 6 = .ok (.if_icmp .ge 24, 3) := by decide +kernel
theorem dX2_thoseToWeepFor_9 : decode cX2_thoseToWeepFor 9 = .ok (.aload_n 0, 1) := by decide +kernel
theorem dX2_thoseToWeepFor_10 : decode cX2_thoseToWeepFor 10 = .ok (.iload_n 1, 1) := by decide +kernel
theorem dX2_thoseToWeepFor_11 : decode cX2_thoseToWeepFor 11 = .ok (.iload_n 3, 1) := by decide +kernel
theorem dX2_thoseToWeepFor_12 : decode cX2_thoseToWeepFor 12 = .ok (.invokevirtual 71, 3) := by decide +kernel
theorem dX2_thoseToWeepFor_15 : decode cX2_thoseToWeepFor 15 = .ok (.ifCond .eq 9, 3) := by decide +kernel
theorem dX2_thoseToWeepFor_18 : decode cX2_thoseToWeepFor 18 = .ok (.iload_n 2, 1) := by decide +kernel
theorem dX2_thoseToWeepFor_19 : decode cX2_thoseToWeepFor 19 = .ok (.iconst 1, 1) := by decide +kernel
theorem dX2_thoseToWeepFor_20 : decode cX2_thoseToWeepFor 20 = .ok (.iload_n 3, 1) := by decide +kernel
theorem dX2_thoseToWeepFor_21 : decode cX2_thoseToWeepFor 21 = .ok (.ishl, 1) := by decide +kernel
theorem dX2_thoseToWeepFor_22 : decode cX2_thoseToWeepFor 22 = .ok (.ior, 1) := by decide +kernel
theorem dX2_thoseToWeepFor_23 : decode cX2_thoseToWeepFor 23 = .ok (.istore_n 2, 1) := by decide +kernel
theorem dX2_thoseToWeepFor_24 : decode cX2_thoseToWeepFor 24 = .ok (.iinc 3 1, 3) := by decide +kernel
theorem dX2_thoseToWeepFor_27 : decode cX2_thoseToWeepFor 27 = .ok (.goto (-23), 3) := by decide +kernel
theorem dX2_thoseToWeepFor_30 : decode cX2_thoseToWeepFor 30 = .ok (.iload_n 2, 1) := by decide +kernel
theorem dX2_thoseToWeepFor_31 : decode cX2_thoseToWeepFor 31 = .ok (.ireturn, 1) := by decide +kernel
theorem dX2_unweptBits_0 : decode cX2_unweptBits 0 = .ok (.aload_n 0, 1) := by decide +kernel
theorem dX2_unweptBits_1 : decode cX2_unweptBits 1 = .ok (.getfield 37, 3) := by decide +kernel
theorem dX2_unweptBits_4 : decode cX2_unweptBits 4 = .ok (.istore_n 1, 1) := by decide +kernel
theorem dX2_unweptBits_5 : decode cX2_unweptBits 5 = .ok (.iconst 0, 1) := by decide +kernel
theorem dX2_unweptBits_6 : decode cX2_unweptBits 6 = .ok (.istore_n 2, 1) := by decide +kernel
theorem dX2_unweptBits_7 : decode cX2_unweptBits 7 = .ok (.iload_n 2, 1) := by decide +kernel
theorem dX2_unweptBits_8 : decode cX2_unweptBits 8 = .ok (.iconst 5, 1) := by decide +kernel
theorem dX2_unweptBits_9 : decode cX2_unweptBits 9 = .ok (.if_icmp .ge 19, 3) := by decide +kernel
theorem dX2_unweptBits_12 : decode cX2_unweptBits 12 = .ok (.iload_n 1, 1) := by decide +kernel
theorem dX2_unweptBits_13 : decode cX2_unweptBits 13 = .ok (.aload_n 0, 1) := by decide +kernel
theorem dX2_unweptBits_14 : decode cX2_unweptBits 14 = .ok (.iload_n 2, 1) := by decide +kernel
theorem dX2_unweptBits_15 : decode cX2_unweptBits 15 = .ok (.invokevirtual 74, 3) := by decide +kernel
theorem dX2_unweptBits_18 : decode cX2_unweptBits 18 = .ok (.iconst (-1), 1) := by decide +kernel
theorem dX2_unweptBits_19 : decode cX2_unweptBits 19 = .ok (.ixor, 1) := by decide +kernel
theorem dX2_unweptBits_20 : decode cX2_unweptBits 20 = .ok (.iand, 1) := by decide +kernel
theorem dX2_unweptBits_21 : decode cX2_unweptBits 21 = .ok (.istore_n 1, 1) := by decide +kernel
theorem dX2_unweptBits_22 : decode cX2_unweptBits 22 = .ok (.iinc 2 1, 3) := by decide +kernel
theorem dX2_unweptBits_25 : decode cX2_unweptBits 25 = .ok (.goto (-18), 3) := by decide +kernel
theorem dX2_unweptBits_28 : decode cX2_unweptBits 28 = .ok (.iload_n 1, 1) := by decide +kernel
theorem dX2_unweptBits_29 : decode cX2_unweptBits 29 = .ok (.ireturn, 1) := by decide +kernel
theorem dX2_kinToAllBits_0 : decode cX2_kinToAllBits 0 = .ok (.iconst 0, 1) := by decide +kernel
theorem dX2_kinToAllBits_1 : decode cX2_kinToAllBits 1 = .ok (.istore_n 1, 1) := by decide +kernel
theorem dX2_kinToAllBits_2 : decode cX2_kinToAllBits 2 = .ok (.iconst 0, 1) := by decide +kernel
theorem dX2_kinToAllBits_3 : decode cX2_kinToAllBits 3 = .ok (.istore_n 2, 1) := by decide +kernel
theorem dX2_kinToAllBits_4 : decode cX2_kinToAllBits 4 = .ok (.iload_n 2, 1) := by decide +kernel
theorem dX2_kinToAllBits_5 : decode cX2_kinToAllBits 5 = .ok (.iconst 5, 1) := by decide +kernel
theorem dX2_kinToAllBits_6 : decode cX2_kinToAllBits 6 = .ok (.if_icmp .ge 40, 3) := by decide +kernel
theorem dX2_kinToAllBits_9 : decode cX2_kinToAllBits 9 = .ok (.aload_n 0, 1) := by decide +kernel
theorem dX2_kinToAllBits_10 : decode cX2_kinToAllBits 10 = .ok (.iload_n 2, 1) := by decide +kernel
theorem dX2_kinToAllBits_11 : decode cX2_kinToAllBits 11 = .ok (.invokevirtual 54, 3) := by decide +kernel
theorem dX2_kinToAllBits_14 : decode cX2_kinToAllBits 14 = .ok (.ifCond .eq 26, 3) := by decide +kernel
theorem dX2_kinToAllBits_17 : decode cX2_kinToAllBits 17 = .ok (.aload_n 0, 1) := by decide +kernel
theorem dX2_kinToAllBits_18 : decode cX2_kinToAllBits 18 = .ok (.getfield 21, 3) := by decide +kernel
theorem dX2_kinToAllBits_21 : decode cX2_kinToAllBits 21 = .ok (.iload_n 2, 1) := by decide +kernel
theorem dX2_kinToAllBits_22 : decode cX2_kinToAllBits 22 = .ok (.iaload, 1) := by decide +kernel
theorem dX2_kinToAllBits_23 : decode cX2_kinToAllBits 23 = .ok (.iconst 1, 1) := by decide +kernel
theorem dX2_kinToAllBits_24 : decode cX2_kinToAllBits 24 = .ok (.iload_n 2, 1) := by decide +kernel
theorem dX2_kinToAllBits_25 : decode cX2_kinToAllBits 25 = .ok (.ishl, 1) := by decide +kernel
theorem dX2_kinToAllBits_26 : decode cX2_kinToAllBits 26 = .ok (.ior, 1) := by decide +kernel
theorem dX2_kinToAllBits_27 : decode cX2_kinToAllBits 27 = .ok (.aload_n 0, 1) := by decide +kernel
theorem dX2_kinToAllBits_28 : decode cX2_kinToAllBits 28 = .ok (.invokevirtual 46, 3) := by decide +kernel
theorem dX2_kinToAllBits_31 : decode cX2_kinToAllBits 31 = .ok (.if_icmp .ne 9, 3) := by decide +kernel
theorem dX2_kinToAllBits_34 : decode cX2_kinToAllBits 34 = .ok (.iload_n 1, 1) := by decide +kernel
theorem dX2_kinToAllBits_35 : decode cX2_kinToAllBits 35 = .ok (.iconst 1, 1) := by decide +kernel
theorem dX2_kinToAllBits_36 : decode cX2_kinToAllBits 36 = .ok (.iload_n 2, 1) := by decide +kernel
theorem dX2_kinToAllBits_37 : decode cX2_kinToAllBits 37 = .ok (.ishl, 1) := by decide +kernel
theorem dX2_kinToAllBits_38 : decode cX2_kinToAllBits 38 = .ok (.ior, 1) := by decide +kernel
theorem dX2_kinToAllBits_39 : decode cX2_kinToAllBits 39 = .ok (.istore_n 1, 1) := by decide +kernel
theorem dX2_kinToAllBits_40 : decode cX2_kinToAllBits 40 = .ok (.iinc 2 1, 3) := by decide +kernel
theorem dX2_kinToAllBits_43 : decode cX2_kinToAllBits 43 = .ok (.goto (-39), 3) := by decide +kernel
theorem dX2_kinToAllBits_46 : decode cX2_kinToAllBits 46 = .ok (.iload_n 1, 1) := by decide +kernel
theorem dX2_kinToAllBits_47 : decode cX2_kinToAllBits 47 = .ok (.ireturn, 1) := by decide +kernel
theorem dX2_debt_0 : decode cX2_debt 0 = .ok (.aload_n 0, 1) := by decide +kernel
theorem dX2_debt_1 : decode cX2_debt 1 = .ok (.iload_n 1, 1) := by decide +kernel
theorem dX2_debt_2 : decode cX2_debt 2 = .ok (.invokevirtual 54, 3) := by decide +kernel
theorem dX2_debt_5 : decode cX2_debt 5 = .ok (.ifCond .eq 24, 3) := by decide +kernel
theorem dX2_debt_8 : decode cX2_debt 8 = .ok (.aload_n 0, 1) := by decide +kernel
theorem dX2_debt_9 : decode cX2_debt 9 = .ok (.iload_n 2, 1) := by decide +kernel
theorem dX2_debt_10 : decode cX2_debt 10 = .ok (.invokevirtual 54, 3) := by decide +kernel
theorem dX2_debt_13 : decode cX2_debt 13 = .ok (.ifCond .eq 16, 3) := by decide +kernel
theorem dX2_debt_16 : decode cX2_debt 16 = .ok (.aload_n 0, 1) := by decide +kernel
theorem dX2_debt_17 : decode cX2_debt 17 = .ok (.getfield 24, 3) := by decide +kernel
theorem dX2_debt_20 : decode cX2_debt 20 = .ok (.iload_n 1, 1) := by decide +kernel
theorem dX2_debt_21 : decode cX2_debt 21 = .ok (.iconst 5, 1) := by decide +kernel
theorem dX2_debt_22 : decode cX2_debt 22 = .ok (.imul, 1) := by decide +kernel
theorem dX2_debt_23 : decode cX2_debt 23 = .ok (.iload_n 2, 1) := by decide +kernel
theorem dX2_debt_24 : decode cX2_debt 24 = .ok (.iadd, 1) := by decide +kernel
theorem dX2_debt_25 : decode cX2_debt 25 = .ok (.iaload, 1) := by decide +kernel
theorem dX2_debt_26 : decode cX2_debt 26 = .ok (.goto 4, 3) := by decide +kernel
theorem dX2_debt_29 : decode cX2_debt 29 = .ok (.iconst 0, 1) := by decide +kernel
theorem dX2_debt_30 : decode cX2_debt 30 = .ok (.ireturn, 1) := by decide +kernel
theorem dX2_reachedByDebts_0 : decode cX2_reachedByDebts 0 = .ok (.aload_n 0, 1) := by decide +kernel
theorem dX2_reachedByDebts_1 : decode cX2_reachedByDebts 1 = .ok (.iload_n 1, 1) := by decide +kernel
theorem dX2_reachedByDebts_2 : decode cX2_reachedByDebts 2 = .ok (.invokevirtual 77, 3) := by decide +kernel
theorem dX2_reachedByDebts_5 : decode cX2_reachedByDebts 5 = .ok (.istore_n 2, 1) := by decide +kernel
theorem dX2_reachedByDebts_6 : decode cX2_reachedByDebts 6 = .ok (.iconst 0, 1) := by decide +kernel
theorem dX2_reachedByDebts_7 : decode cX2_reachedByDebts 7 = .ok (.istore_n 3, 1) := by decide +kernel
theorem dX2_reachedByDebts_8 : decode cX2_reachedByDebts 8 = .ok (.iload_n 3, 1) := by decide +kernel
theorem dX2_reachedByDebts_9 : decode cX2_reachedByDebts 9 = .ok (.iconst 5, 1) := by decide +kernel
theorem dX2_reachedByDebts_10 : decode cX2_reachedByDebts 10 = .ok (.if_icmp .ge 42, 3) := by decide +kernel
theorem dX2_reachedByDebts_13 : decode cX2_reachedByDebts 13 = .ok (.iconst 0, 1) := by decide +kernel
theorem dX2_reachedByDebts_14 : decode cX2_reachedByDebts 14 = .ok (.istore 4, 2) := by decide +kernel
theorem dX2_reachedByDebts_16 : decode cX2_reachedByDebts 16 = .ok (.iload 4, 2) := by decide +kernel
theorem dX2_reachedByDebts_18 : decode cX2_reachedByDebts 18 = .ok (.iconst 5, 1) := by decide +kernel
theorem dX2_reachedByDebts_19 : decode cX2_reachedByDebts 19 = .ok (.if_icmp .ge 27, 3) := by decide +kernel
theorem dX2_reachedByDebts_22 : decode cX2_reachedByDebts 22 = .ok (.iload_n 2, 1) := by decide +kernel
theorem dX2_reachedByDebts_23 : decode cX2_reachedByDebts 23 = .ok (.iload 4, 2) := by decide +kernel
theorem dX2_reachedByDebts_25 : decode cX2_reachedByDebts 25 = .ok (.invokestatic 50, 3) := by decide +kernel
theorem dX2_reachedByDebts_28 : decode cX2_reachedByDebts 28 = .ok (.ifCond .eq 12, 3) := by decide +kernel
theorem dX2_reachedByDebts_31 : decode cX2_reachedByDebts 31 = .ok (.iload_n 2, 1) := by decide +kernel
theorem dX2_reachedByDebts_32 : decode cX2_reachedByDebts 32 = .ok (.aload_n 0, 1) := by decide +kernel
theorem dX2_reachedByDebts_33 : decode cX2_reachedByDebts 33 = .ok (.iload 4, 2) := by decide +kernel
theorem dX2_reachedByDebts_35 : decode cX2_reachedByDebts 35 = .ok (.invokevirtual 77, 3) := by decide +kernel
theorem dX2_reachedByDebts_38 : decode cX2_reachedByDebts 38 = .ok (.ior, 1) := by decide +kernel
theorem dX2_reachedByDebts_39 : decode cX2_reachedByDebts 39 = .ok (.istore_n 2, 1) := by decide +kernel
theorem dX2_reachedByDebts_40 : decode cX2_reachedByDebts 40 = .ok (.iinc 4 1, 3) := by decide +kernel
theorem dX2_reachedByDebts_43 : decode cX2_reachedByDebts 43 = .ok (.goto (-27), 3) := by decide +kernel
theorem dX2_reachedByDebts_46 : decode cX2_reachedByDebts 46 = .ok (.iinc 3 1, 3) := by decide +kernel
theorem dX2_reachedByDebts_49 : decode cX2_reachedByDebts 49 = .ok (.goto (-41), 3) := by decide +kernel
theorem dX2_reachedByDebts_52 : decode cX2_reachedByDebts 52 = .ok (.iload_n 2, 1) := by decide +kernel
theorem dX2_reachedByDebts_53 : decode cX2_reachedByDebts 53 = .ok (.ireturn, 1) := by decide +kernel
theorem dX2_creditors_0 : decode cX2_creditors 0 = .ok (.iconst 0, 1) := by decide +kernel
theorem dX2_creditors_1 : decode cX2_creditors 1 = .ok (.istore_n 2, 1) := by decide +kernel
theorem dX2_creditors_2 : decode cX2_creditors 2 = .ok (.iconst 0, 1) := by decide +kernel
theorem dX2_creditors_3 : decode cX2_creditors 3 = .ok (.istore_n 3, 1) := by decide +kernel
theorem dX2_creditors_4 : decode cX2_creditors 4 = .ok (.iload_n 3, 1) := by decide +kernel
theorem dX2_creditors_5 : decode cX2_creditors 5 = .ok (.iconst 5, 1) := by decide +kernel
theorem dX2_creditors_6 : decode cX2_creditors 6 = .ok (.if_icmp .ge 24, 3) := by decide +kernel
theorem dX2_creditors_9 : decode cX2_creditors 9 = .ok (.aload_n 0, 1) := by decide +kernel
theorem dX2_creditors_10 : decode cX2_creditors 10 = .ok (.iload_n 1, 1) := by decide +kernel
theorem dX2_creditors_11 : decode cX2_creditors 11 = .ok (.iload_n 3, 1) := by decide +kernel
theorem dX2_creditors_12 : decode cX2_creditors 12 = .ok (.invokevirtual 80, 3) := by decide +kernel
theorem dX2_creditors_15 : decode cX2_creditors 15 = .ok (.ifCond .le 9, 3) := by decide +kernel
theorem dX2_creditors_18 : decode cX2_creditors 18 = .ok (.iload_n 2, 1) := by decide +kernel
theorem dX2_creditors_19 : decode cX2_creditors 19 = .ok (.iconst 1, 1) := by decide +kernel
theorem dX2_creditors_20 : decode cX2_creditors 20 = .ok (.iload_n 3, 1) := by decide +kernel
theorem dX2_creditors_21 : decode cX2_creditors 21 = .ok (.ishl, 1) := by decide +kernel
theorem dX2_creditors_22 : decode cX2_creditors 22 = .ok (.ior, 1) := by decide +kernel
theorem dX2_creditors_23 : decode cX2_creditors 23 = .ok (.istore_n 2, 1) := by decide +kernel
theorem dX2_creditors_24 : decode cX2_creditors 24 = .ok (.iinc 3 1, 3) := by decide +kernel
theorem dX2_creditors_27 : decode cX2_creditors 27 = .ok (.goto (-23), 3) := by decide +kernel
theorem dX2_creditors_30 : decode cX2_creditors 30 = .ok (.iload_n 2, 1) := by decide +kernel
theorem dX2_creditors_31 : decode cX2_creditors 31 = .ok (.ireturn, 1) := by decide +kernel
theorem dX2_bereave_0 : decode cX2_bereave 0 = .ok (.aload_n 0, 1) := by decide +kernel
theorem dX2_bereave_1 : decode cX2_bereave 1 = .ok (.iload_n 1, 1) := by decide +kernel
theorem dX2_bereave_2 : decode cX2_bereave 2 = .ok (.invokevirtual 54, 3) := by decide +kernel
theorem dX2_bereave_5 : decode cX2_bereave 5 = .ok (.ifCond .eq 38, 3) := by decide +kernel
theorem dX2_bereave_8 : decode cX2_bereave 8 = .ok (.aload_n 0, 1) := by decide +kernel
theorem dX2_bereave_9 : decode cX2_bereave 9 = .ok (.iload_n 1, 1) := by decide +kernel
theorem dX2_bereave_10 : decode cX2_bereave 10 = .ok (.invokevirtual 65, 3) := by decide +kernel
theorem dX2_bereave_13 : decode cX2_bereave 13 = .ok (.ifCond .ne 30, 3) := by decide +kernel
theorem dX2_bereave_16 : decode cX2_bereave 16 = .ok (.aload_n 0, 1) := by decide +kernel
theorem dX2_bereave_17 : decode cX2_bereave 17 = .ok (.getfield 9, 3) := by decide +kernel
theorem dX2_bereave_20 : decode cX2_bereave 20 = .ok (.iload_n 1, 1) := by decide +kernel
theorem dX2_bereave_21 : decode cX2_bereave 21 = .ok (.bipush 9, 2) := by decide +kernel
theorem dX2_bereave_23 : decode cX2_bereave 23 = .ok (.iastore, 1) := by decide +kernel
theorem dX2_bereave_24 : decode cX2_bereave 24 = .ok (.aload_n 0, 1) := by decide +kernel
theorem dX2_bereave_25 : decode cX2_bereave 25 = .ok (.getfield 15, 3) := by decide +kernel
theorem dX2_bereave_28 : decode cX2_bereave 28 = .ok (.iload_n 1, 1) := by decide +kernel
theorem dX2_bereave_29 : decode cX2_bereave 29 = .ok (.iconst 0, 1) := by decide +kernel
theorem dX2_bereave_30 : decode cX2_bereave 30 = .ok (.iastore, 1) := by decide +kernel
theorem dX2_bereave_31 : decode cX2_bereave 31 = .ok (.aload_n 0, 1) := by decide +kernel
theorem dX2_bereave_32 : decode cX2_bereave 32 = .ok (.dup, 1) := by decide +kernel
theorem dX2_bereave_33 : decode cX2_bereave 33 = .ok (.getfield 37, 3) := by decide +kernel
theorem dX2_bereave_36 : decode cX2_bereave 36 = .ok (.iconst 1, 1) := by decide +kernel
theorem dX2_bereave_37 : decode cX2_bereave 37 = .ok (.iload_n 1, 1) := by decide +kernel
theorem dX2_bereave_38 : decode cX2_bereave 38 = .ok (.ishl, 1) := by decide +kernel
theorem dX2_bereave_39 : decode cX2_bereave 39 = .ok (.ior, 1) := by decide +kernel
theorem dX2_bereave_40 : decode cX2_bereave 40 = .ok (.putfield 37, 3) := by decide +kernel
theorem dX2_bereave_43 : decode cX2_bereave 43 = .ok (.return_, 1) := by decide +kernel
theorem dX2_weepFor_0 : decode cX2_weepFor 0 = .ok (.aload_n 0, 1) := by decide +kernel
theorem dX2_weepFor_1 : decode cX2_weepFor 1 = .ok (.iload_n 1, 1) := by decide +kernel
theorem dX2_weepFor_2 : decode cX2_weepFor 2 = .ok (.invokevirtual 54, 3) := by decide +kernel
theorem dX2_weepFor_5 : decode cX2_weepFor 5 = .ok (.ifCond .eq 12, 3) := by decide +kernel
theorem dX2_weepFor_8 : decode cX2_weepFor 8 = .ok (.aload_n 0, 1) := by decide +kernel
theorem dX2_weepFor_9 : decode cX2_weepFor 9 = .ok (.iload_n 1, 1) := by decide +kernel
theorem dX2_weepFor_10 : decode cX2_weepFor 10 = .ok (.iload_n 2, 1) := by decide +kernel
theorem dX2_weepFor_11 : decode cX2_weepFor 11 = .ok (.invokevirtual 71, 3) := by decide +kernel
theorem dX2_weepFor_14 : decode cX2_weepFor 14 = .ok (.ifCond .ne 5, 3) := by decide +kernel
theorem dX2_weepFor_17 : decode cX2_weepFor 17 = .ok (.iconst 0, 1) := by decide +kernel
theorem dX2_weepFor_18 : decode cX2_weepFor 18 = .ok (.ireturn, 1) := by decide +kernel
theorem dX2_weepFor_19 : decode cX2_weepFor 19 = .ok (.aload_n 0, 1) := by decide +kernel
theorem dX2_weepFor_20 : decode cX2_weepFor 20 = .ok (.iload_n 1, 1) := by decide +kernel
theorem dX2_weepFor_21 : decode cX2_weepFor 21 = .ok (.invokevirtual 58, 3) := by decide +kernel
theorem dX2_weepFor_24 : decode cX2_weepFor 24 = .ok (.istore_n 3, 1) := by decide +kernel
theorem dX2_weepFor_25 : decode cX2_weepFor 25 = .ok (.aload_n 0, 1) := by decide +kernel
theorem dX2_weepFor_26 : decode cX2_weepFor 26 = .ok (.getfield 9, 3) := by decide +kernel
theorem dX2_weepFor_29 : decode cX2_weepFor 29 = .ok (.iload_n 1, 1) := by decide +kernel
theorem dX2_weepFor_30 : decode cX2_weepFor 30 = .ok (.dup2, 1) := by decide +kernel
theorem dX2_weepFor_31 : decode cX2_weepFor 31 = .ok (.iaload, 1) := by decide +kernel
theorem dX2_weepFor_32 : decode cX2_weepFor 32 = .ok (.iload_n 3, 1) := by decide +kernel
theorem dX2_weepFor_33 : decode cX2_weepFor 33 = .ok (.isub, 1) := by decide +kernel
theorem dX2_weepFor_34 : decode cX2_weepFor 34 = .ok (.iastore, 1) := by decide +kernel
theorem dX2_weepFor_35 : decode cX2_weepFor 35 = .ok (.aload_n 0, 1) := by decide +kernel
theorem dX2_weepFor_36 : decode cX2_weepFor 36 = .ok (.iload_n 1, 1) := by decide +kernel
theorem dX2_weepFor_37 : decode cX2_weepFor 37 = .ok (.iload_n 2, 1) := by decide +kernel
theorem dX2_weepFor_38 : decode cX2_weepFor 38 = .ok (.invokevirtual 84, 3) := by decide +kernel
theorem dX2_weepFor_41 : decode cX2_weepFor 41 = .ok (.iload_n 3, 1) := by decide +kernel
theorem dX2_weepFor_42 : decode cX2_weepFor 42 = .ok (.ireturn, 1) := by decide +kernel
theorem dX2_useOnions_0 : decode cX2_useOnions 0 = .ok (.aload_n 0, 1) := by decide +kernel
theorem dX2_useOnions_1 : decode cX2_useOnions 1 = .ok (.iload_n 1, 1) := by decide +kernel
theorem dX2_useOnions_2 : decode cX2_useOnions 2 = .ok (.iload_n 2, 1) := by decide +kernel
theorem dX2_useOnions_3 : decode cX2_useOnions 3 = .ok (.invokevirtual 88, 3) := by decide +kernel
theorem dX2_useOnions_6 : decode cX2_useOnions 6 = .ok (.ifCond .eq 21, 3) := by decide +kernel
theorem dX2_useOnions_9 : decode cX2_useOnions 9 = .ok (.aload_n 0, 1) := by decide +kernel
theorem dX2_useOnions_10 : decode cX2_useOnions 10 = .ok (.dup, 1) := by decide +kernel
theorem dX2_useOnions_11 : decode cX2_useOnions 11 = .ok (.getfield 40, 3) := by decide +kernel
theorem dX2_useOnions_14 : decode cX2_useOnions 14 = .ok (.iconst 1, 1) := by decide +kernel
theorem dX2_useOnions_15 : decode cX2_useOnions 15 = .ok (.iload_n 1, 1) := by decide +kernel
theorem dX2_useOnions_16 : decode cX2_useOnions 16 = .ok (.ishl, 1) := by decide +kernel
theorem dX2_useOnions_17 : decode cX2_useOnions 17 = .ok (.ior, 1) := by decide +kernel
theorem dX2_useOnions_18 : decode cX2_useOnions 18 = .ok (.putfield 40, 3) := by decide +kernel
theorem dX2_useOnions_21 : decode cX2_useOnions 21 = .ok (.aload_n 0, 1) := by decide +kernel
theorem dX2_useOnions_22 : decode cX2_useOnions 22 = .ok (.iload_n 1, 1) := by decide +kernel
theorem dX2_useOnions_23 : decode cX2_useOnions 23 = .ok (.iload_n 2, 1) := by decide +kernel
theorem dX2_useOnions_24 : decode cX2_useOnions 24 = .ok (.invokevirtual 84, 3) := by decide +kernel
theorem dX2_useOnions_27 : decode cX2_useOnions 27 = .ok (.return_, 1) := by decide +kernel
theorem dX2_settle_0 : decode cX2_settle 0 = .ok (.aload_n 0, 1) := by decide +kernel
theorem dX2_settle_1 : decode cX2_settle 1 = .ok (.iload_n 1, 1) := by decide +kernel
theorem dX2_settle_2 : decode cX2_settle 2 = .ok (.invokevirtual 54, 3) := by decide +kernel
theorem dX2_settle_5 : decode cX2_settle 5 = .ok (.ifCond .eq 45, 3) := by decide +kernel
theorem dX2_settle_8 : decode cX2_settle 8 = .ok (.aload_n 0, 1) := by decide +kernel
theorem dX2_settle_9 : decode cX2_settle 9 = .ok (.iload_n 2, 1) := by decide +kernel
theorem dX2_settle_10 : decode cX2_settle 10 = .ok (.invokevirtual 54, 3) := by decide +kernel
theorem dX2_settle_13 : decode cX2_settle 13 = .ok (.ifCond .eq 37, 3) := by decide +kernel
theorem dX2_settle_16 : decode cX2_settle 16 = .ok (.aload_n 0, 1) := by decide +kernel
theorem dX2_settle_17 : decode cX2_settle 17 = .ok (.iload_n 1, 1) := by decide +kernel
theorem dX2_settle_18 : decode cX2_settle 18 = .ok (.iload_n 2, 1) := by decide +kernel
theorem dX2_settle_19 : decode cX2_settle 19 = .ok (.invokevirtual 91, 3) := by decide +kernel
theorem dX2_settle_22 : decode cX2_settle 22 = .ok (.aload_n 0, 1) := by decide +kernel
theorem dX2_settle_23 : decode cX2_settle 23 = .ok (.getfield 24, 3) := by decide +kernel
theorem dX2_settle_26 : decode cX2_settle 26 = .ok (.iload_n 2, 1) := by decide +kernel
theorem dX2_settle_27 : decode cX2_settle 27 = .ok (.iconst 5, 1) := by decide +kernel
theorem dX2_settle_28 : decode cX2_settle 28 = .ok (.imul, 1) := by decide +kernel
theorem dX2_settle_29 : decode cX2_settle 29 = .ok (.iload_n 1, 1) := by decide +kernel
theorem dX2_settle_30 : decode cX2_settle 30 = .ok (.iadd, 1) := by decide +kernel
theorem dX2_settle_31 : decode cX2_settle 31 = .ok (.dup2, 1) := by decide +kernel
theorem dX2_settle_32 : decode cX2_settle 32 = .ok (.iaload, 1) := by decide +kernel
theorem dX2_settle_33 : decode cX2_settle 33 = .ok (.iconst 1, 1) := by decide +kernel
theorem dX2_settle_34 : decode cX2_settle 34 = .ok (.iadd, 1) := by decide +kernel
theorem dX2_settle_35 : decode cX2_settle 35 = .ok (.iastore, 1) := by decide +kernel
theorem dX2_settle_36 : decode cX2_settle 36 = .ok (.aload_n 0, 1) := by decide +kernel
theorem dX2_settle_37 : decode cX2_settle 37 = .ok (.dup, 1) := by decide +kernel
theorem dX2_settle_38 : decode cX2_settle 38 = .ok (.getfield 37, 3) := by decide +kernel
theorem dX2_settle_41 : decode cX2_settle 41 = .ok (.iconst 1, 1) := by decide +kernel
theorem dX2_settle_42 : decode cX2_settle 42 = .ok (.iload_n 2, 1) := by decide +kernel
theorem dX2_settle_43 : decode cX2_settle 43 = .ok (.ishl, 1) := by decide +kernel
theorem dX2_settle_44 : decode cX2_settle 44 = .ok (.iconst (-1), 1) := by decide +kernel
theorem dX2_settle_45 : decode cX2_settle 45 = .ok (.ixor, 1) := by decide +kernel
theorem dX2_settle_46 : decode cX2_settle 46 = .ok (.iand, 1) := by decide +kernel
theorem dX2_settle_47 : decode cX2_settle 47 = .ok (.putfield 37, 3) := by decide +kernel
theorem dX2_settle_50 : decode cX2_settle 50 = .ok (.return_, 1) := by decide +kernel
theorem dX2_passWeek_0 : decode cX2_passWeek 0 = .ok (.iconst 0, 1) := by decide +kernel
theorem dX2_passWeek_1 : decode cX2_passWeek 1 = .ok (.istore_n 1, 1) := by decide +kernel
theorem dX2_passWeek_2 : decode cX2_passWeek 2 = .ok (.iload_n 1, 1) := by decide +kernel
theorem dX2_passWeek_3 : decode cX2_passWeek 3 = .ok (.aload_n 0, 1) := by decide +kernel
theorem dX2_passWeek_4 : decode cX2_passWeek 4 = .ok (.getfield 33, 3) := by decide +kernel
theorem dX2_passWeek_7 : decode cX2_passWeek 7 = .ok (.if_icmp .ge 61, 3) := by decide +kernel
theorem dX2_passWeek_10 : decode cX2_passWeek 10 = .ok (.iload_n 1, 1) := by decide +kernel
theorem dX2_passWeek_11 : decode cX2_passWeek 11 = .ok (.iconst 5, 1) := by decide +kernel
theorem dX2_passWeek_12 : decode cX2_passWeek 12 = .ok (.if_icmp .ge 56, 3) := by decide +kernel
theorem dX2_passWeek_15 : decode cX2_passWeek 15 = .ok (.aload_n 0, 1) := by decide +kernel
theorem dX2_passWeek_16 : decode cX2_passWeek 16 = .ok (.getfield 15, 3) := by decide +kernel
theorem dX2_passWeek_19 : decode cX2_passWeek 19 = .ok (.iload_n 1, 1) := by decide +kernel
theorem dX2_passWeek_20 : decode cX2_passWeek 20 = .ok (.bipush 99, 2) := by decide +kernel
theorem dX2_passWeek_22 : decode cX2_passWeek 22 = .ok (.aload_n 0, 1) := by decide +kernel
theorem dX2_passWeek_23 : decode cX2_passWeek 23 = .ok (.getfield 15, 3) := by decide +kernel
theorem dX2_passWeek_26 : decode cX2_passWeek 26 = .ok (.iload_n 1, 1) := by decide +kernel
theorem dX2_passWeek_27 : decode cX2_passWeek 27 = .ok (.iaload, 1) := by decide +kernel
theorem dX2_passWeek_28 : decode cX2_passWeek 28 = .ok (.iconst 1, 1) := by decide +kernel
theorem dX2_passWeek_29 : decode cX2_passWeek 29 = .ok (.iadd, 1) := by decide +kernel
theorem dX2_passWeek_30 : decode cX2_passWeek 30 = .ok (.invokestatic 94, 3) := by decide +kernel
theorem dX2_passWeek_33 : decode cX2_passWeek 33 = .ok (.iastore, 1) := by decide +kernel
theorem dX2_passWeek_34 : decode cX2_passWeek 34 = .ok (.aload_n 0, 1) := by decide +kernel
theorem dX2_passWeek_35 : decode cX2_passWeek 35 = .ok (.getfield 15, 3) := by decide +kernel
theorem dX2_passWeek_38 : decode cX2_passWeek 38 = .ok (.iload_n 1, 1) := by decide +kernel
theorem dX2_passWeek_39 : decode cX2_passWeek 39 = .ok (.iaload, 1) := by decide +kernel
theorem dX2_passWeek_40 : decode cX2_passWeek 40 = .ok (.iconst 3, 1) := by decide +kernel
theorem dX2_passWeek_41 : decode cX2_passWeek 41 = .ok (.if_icmp .lt 21, 3) := by decide +kernel
theorem dX2_passWeek_44 : decode cX2_passWeek 44 = .ok (.aload_n 0, 1) := by decide +kernel
theorem dX2_passWeek_45 : decode cX2_passWeek 45 = .ok (.getfield 9, 3) := by decide +kernel
theorem dX2_passWeek_48 : decode cX2_passWeek 48 = .ok (.iload_n 1, 1) := by decide +kernel
theorem dX2_passWeek_49 : decode cX2_passWeek 49 = .ok (.iconst 0, 1) := by decide +kernel
theorem dX2_passWeek_50 : decode cX2_passWeek 50 = .ok (.aload_n 0, 1) := by decide +kernel
theorem dX2_passWeek_51 : decode cX2_passWeek 51 = .ok (.getfield 9, 3) := by decide +kernel
theorem dX2_passWeek_54 : decode cX2_passWeek 54 = .ok (.iload_n 1, 1) := by decide +kernel
theorem dX2_passWeek_55 : decode cX2_passWeek 55 = .ok (.iaload, 1) := by decide +kernel
theorem dX2_passWeek_56 : decode cX2_passWeek 56 = .ok (.iconst 1, 1) := by decide +kernel
theorem dX2_passWeek_57 : decode cX2_passWeek 57 = .ok (.isub, 1) := by decide +kernel
theorem dX2_passWeek_58 : decode cX2_passWeek 58 = .ok (.invokestatic 99, 3) := by decide +kernel
theorem dX2_passWeek_61 : decode cX2_passWeek 61 = .ok (.iastore, 1) := by decide +kernel
theorem dX2_passWeek_62 : decode cX2_passWeek 62 = .ok (.iinc 1 1, 3) := by decide +kernel
theorem dX2_passWeek_65 : decode cX2_passWeek 65 = .ok (.goto (-63), 3) := by decide +kernel
theorem dX2_passWeek_68 : decode cX2_passWeek 68 = .ok (.aload_n 0, 1) := by decide +kernel
theorem dX2_passWeek_69 : decode cX2_passWeek 69 = .ok (.dup, 1) := by decide +kernel
theorem dX2_passWeek_70 : decode cX2_passWeek 70 = .ok (.getfield 43, 3) := by decide +kernel
theorem dX2_passWeek_73 : decode cX2_passWeek 73 = .ok (.iconst 1, 1) := by decide +kernel
theorem dX2_passWeek_74 : decode cX2_passWeek 74 = .ok (.iadd, 1) := by decide +kernel
theorem dX2_passWeek_75 : decode cX2_passWeek 75 = .ok (.putfield 43, 3) := by decide +kernel
theorem dX2_passWeek_78 : decode cX2_passWeek 78 = .ok (.return_, 1) := by decide +kernel
theorem dX3_init_0 : decode cX3_init 0 = .ok (.aload_n 0, 1) := by decide +kernel
theorem dX3_init_1 : decode cX3_init 1 = .ok (.invokespecial 3, 3) := by decide +kernel
theorem dX3_init_4 : decode cX3_init 4 = .ok (.return_, 1) := by decide +kernel
theorem dX3_search_0 : decode cX3_search 0 = .ok (.aload_n 0, 1) := by decide +kernel
theorem dX3_search_1 : decode cX3_search 1 = .ok (.iload_n 2, 1) := by decide +kernel
theorem dX3_search_2 : decode cX3_search 2 = .ok (.putfield 9, 3) := by decide +kernel
theorem dX3_search_5 : decode cX3_search 5 = .ok (.aload_n 0, 1) := by decide +kernel
theorem dX3_search_6 : decode cX3_search 6 = .ok (.iconst (-1), 1) := by decide +kernel
theorem dX3_search_7 : decode cX3_search 7 = .ok (.putfield 15, 3) := by decide +kernel
theorem dX3_search_10 : decode cX3_search 10 = .ok (.aload_n 0, 1) := by decide +kernel
theorem dX3_search_11 : decode cX3_search 11 = .ok (.iconst 0, 1) := by decide +kernel
theorem dX3_search_12 : decode cX3_search 12 = .ok (.putfield 18, 3) := by decide +kernel
theorem dX3_search_15 : decode cX3_search 15 = .ok (.aload_n 0, 1) := by decide +kernel
theorem dX3_search_16 : decode cX3_search 16 = .ok (.iconst 0, 1) := by decide +kernel
theorem dX3_search_17 : decode cX3_search 17 = .ok (.putfield 21, 3) := by decide +kernel
theorem dX3_search_20 : decode cX3_search 20 = .ok (.aload_n 0, 1) := by decide +kernel
theorem dX3_search_21 : decode cX3_search 21 = .ok (.aload_n 1, 1) := by decide +kernel
theorem dX3_search_22 : decode cX3_search 22 = .ok (.iload_n 3, 1) := by decide +kernel
theorem dX3_search_23 : decode cX3_search 23 = .ok (.iconst 0, 1) := by decide +kernel
theorem dX3_search_24 : decode cX3_search 24 = .ok (.iconst 0, 1) := by decide +kernel
theorem dX3_search_25 : decode cX3_search 25 = .ok (.iconst 0, 1) := by decide +kernel
theorem dX3_search_26 : decode cX3_search 26 = .ok (.iconst 0, 1) := by decide +kernel
theorem dX3_search_27 : decode cX3_search 27 = .ok (.invokestatic 24, 3) := by decide +kernel
theorem dX3_search_30 : decode cX3_search 30 = .ok (.aload_n 0, 1) := by decide +kernel
theorem dX3_search_31 : decode cX3_search 31 = .ok (.getfield 15, 3) := by decide +kernel
theorem dX3_search_34 : decode cX3_search 34 = .ok (.ireturn, 1) := by decide +kernel
theorem dX3_give_0 : decode cX3_give 0 = .ok (.iload_n 3, 1) := by decide +kernel
theorem dX3_give_1 : decode cX3_give 1 = .ok (.iconst 5, 1) := by decide +kernel
theorem dX3_give_2 : decode cX3_give 2 = .ok (.if_icmp .lt 14, 3) := by decide +kernel
theorem dX3_give_5 : decode cX3_give 5 = .ok (.aload_n 0, 1) := by decide +kernel
theorem dX3_give_6 : decode cX3_give 6 = .ok (.iload 4, 2) := by decide +kernel
theorem dX3_give_8 : decode cX3_give 8 = .ok (.iload 5, 2) := by decide +kernel
theorem dX3_give_10 : decode cX3_give 10 = .ok (.iload 6, 2) := by decide +kernel
theorem dX3_give_12 : decode cX3_give 12 = .ok (.invokevirtual 28, 3) := by decide +kernel
theorem dX3_give_15 : decode cX3_give 15 = .ok (.return_, 1) := by decide +kernel
theorem dX3_give_16 : decode cX3_give 16 = .ok (.aload_n 0, 1) := by decide +kernel
theorem dX3_give_17 : decode cX3_give 17 = .ok (.getfield 9, 3) := by decide +kernel
theorem dX3_give_20 : decode cX3_give 20 = .ok (.iload_n 3, 1) := by decide +kernel
theorem dX3_give_21 : decode cX3_give 21 = .ok (.invokestatic 32, 3) := by decide +kernel
theorem dX3_give_24 : decode cX3_give 24 = .ok (.ifCond .ne 19, 3) := by decide +kernel
theorem dX3_give_27 : decode cX3_give 27 = .ok (.aload_n 0, 1) := by decide +kernel
theorem dX3_give_28 : decode cX3_give 28 = .ok (.aload_n 1, 1) := by decide +kernel
theorem dX3_give_29 : decode cX3_give 29 = .ok (.iload_n 2, 1) := by decide +kernel
theorem dX3_give_30 : decode cX3_give 30 = .ok (.iload_n 3, 1) := by decide +kernel
theorem dX3_give_31 : decode cX3_give 31 = .ok (.iconst 1, 1) := by decide +kernel
theorem dX3_give_32 : decode cX3_give 32 = .ok (.iadd, 1) := by decide +kernel
theorem dX3_give_33 : decode cX3_give 33 = .ok (.iload 4, 2) := by decide +kernel
theorem dX3_give_35 : decode cX3_give 35 = .ok (.iload 5, 2) := by decide +kernel
theorem dX3_give_37 : decode cX3_give 37 = .ok (.iload 6, 2) := by decide +kernel
theorem dX3_give_39 : decode cX3_give 39 = .ok (.invokestatic 24, 3) := by decide +kernel
theorem dX3_give_42 : decode cX3_give 42 = .ok (.return_, 1) := by decide +kernel
theorem dX3_give_43 : decode cX3_give 43 = .ok (.aload_n 0, 1) := by decide +kernel
theorem dX3_give_44 : decode cX3_give 44 = .ok (.aload_n 1, 1) := by decide +kernel
theorem dX3_give_45 : decode cX3_give 45 = .ok (.iload_n 2, 1) := by decide +kernel
theorem dX3_give_46 : decode cX3_give 46 = .ok (.iload_n 3, 1) := by decide +kernel
theorem dX3_give_47 : decode cX3_give 47 = .ok (.iconst 1, 1) := by decide +kernel
theorem dX3_give_48 : decode cX3_give 48 = .ok (.iadd, 1) := by decide +kernel
theorem dX3_give_49 : decode cX3_give 49 = .ok (.iload 4, 2) := by decide +kernel
theorem dX3_give_51 : decode cX3_give 51 = .ok (.iload 5, 2) := by decide +kernel
theorem dX3_give_53 : decode cX3_give 53 = .ok (.iload 6, 2) := by decide +kernel
theorem dX3_give_55 : decode cX3_give 55 = .ok (.bipush 10, 2) := by decide +kernel
theorem dX3_give_57 : decode cX3_give 57 = .ok (.imul, 1) := by decide +kernel
theorem dX3_give_58 : decode cX3_give 58 = .ok (.invokestatic 24, 3) := by decide +kernel
theorem dX3_give_61 : decode cX3_give 61 = .ok (.iconst 0, 1) := by decide +kernel
theorem dX3_give_62 : decode cX3_give 62 = .ok (.istore 7, 2) := by decide +kernel
theorem dX3_give_64 : decode cX3_give 64 = .ok (.iload 7, 2) := by decide +kernel
theorem dX3_give_66 : decode cX3_give 66 = .ok (.iconst 5, 1) := by decide +kernel
theorem dX3_give_67 : decode cX3_give 67 = .ok (.if_icmp .ge 75, 3) := by decide +kernel
theorem dX3_give_70 : decode cX3_give 70 = .ok (.iload_n 2, 1) := by decide +kernel
theorem dX3_give_71 : decode cX3_give 71 = .ok (.iload 7, 2) := by decide +kernel
theorem dX3_give_73 : decode cX3_give 73 = .ok (.invokestatic 32, 3) := by decide +kernel
theorem dX3_give_76 : decode cX3_give 76 = .ok (.ifCond .eq 60, 3) := by decide +kernel
theorem dX3_give_79 : decode cX3_give 79 = .ok (.aload_n 1, 1) := by decide +kernel
theorem dX3_give_80 : decode cX3_give 80 = .ok (.iload 7, 2) := by decide +kernel
theorem dX3_give_82 : decode cX3_give 82 = .ok (.iload_n 3, 1) := by decide +kernel
theorem dX3_give_83 : decode cX3_give 83 = .ok (.invokevirtual 36, 3) := by decide +kernel
theorem dX3_give_86 : decode cX3_give 86 = .ok (.ifCond .eq 50, 3) := by decide +kernel
theorem dX3_give_89 : decode cX3_give 89 = .ok (.iload_n 2, 1) := by decide +kernel
theorem dX3_give_90 : decode cX3_give 90 = .ok (.iconst 1, 1) := by decide +kernel
theorem dX3_give_91 : decode cX3_give 91 = .ok (.iload 7, 2) := by decide +kernel
theorem dX3_give_93 : decode cX3_give 93 = .ok (.ishl, 1) := by decide +kernel
theorem dX3_give_94 : decode cX3_give 94 = .ok (.iconst (-1), 1) := by decide +kernel
theorem dX3_give_95 : decode cX3_give 95 = .ok (.ixor, 1) := by decide +kernel
theorem dX3_give_96 : decode cX3_give 96 = .ok (.iand, 1) := by decide +kernel
theorem dX3_give_97 : decode cX3_give 97 = .ok (.istore 8, 2) := by decide +kernel
theorem dX3_give_99 : decode cX3_give 99 = .ok (.iload 5, 2) := by decide +kernel
theorem dX3_give_101 : decode cX3_give 101 = .ok (.aload_n 1, 1) := by decide +kernel
theorem dX3_give_102 : decode cX3_give 102 = .ok (.iload 7, 2) := by decide +kernel
theorem dX3_give_104 : decode cX3_give 104 = .ok (.invokevirtual 41, 3) := by decide +kernel
theorem dX3_give_107 : decode cX3_give 107 = .ok (.iadd, 1) := by decide +kernel
theorem dX3_give_108 : decode cX3_give 108 = .ok (.istore 9, 2) := by decide +kernel
theorem dX3_give_110 : decode cX3_give 110 = .ok (.aload_n 0, 1) := by decide +kernel
theorem dX3_give_111 : decode cX3_give 111 = .ok (.aload_n 1, 1) := by decide +kernel
theorem dX3_give_112 : decode cX3_give 112 = .ok (.iload 8, 2) := by decide +kernel
theorem dX3_give_114 : decode cX3_give 114 = .ok (.iload_n 3, 1) := by decide +kernel
theorem dX3_give_115 : decode cX3_give 115 = .ok (.iconst 1, 1) := by decide +kernel
theorem dX3_give_116 : decode cX3_give 116 = .ok (.iadd, 1) := by decide +kernel
