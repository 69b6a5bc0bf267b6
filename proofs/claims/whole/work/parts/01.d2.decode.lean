theorem dX4_gotByOne_6 : decode cX4_gotByOne 6 = .ok (.invokestatic 218, 3) := by decide +kernel
theorem dX4_gotByOne_9 : decode cX4_gotByOne 9 = .ok (.invokestatic 221, 3) := by decide +kernel
theorem dX4_gotByOne_12 : decode cX4_gotByOne 12 = .ok (.ireturn, 1) := by decide +kernel
theorem dX4_gotByOther_0 : decode cX4_gotByOther 0 = .ok (.iload_n 3, 1) := by decide +kernel
theorem dX4_gotByOther_1 : decode cX4_gotByOther 1 = .ok (.ifCond .eq 17, 3) := by decide +kernel
theorem dX4_gotByOther_4 : decode cX4_gotByOther 4 = .ok (.iload_n 0, 1) := by decide +kernel
theorem dX4_gotByOther_5 : decode cX4_gotByOther 5 = .ok (.iload_n 1, 1) := by decide +kernel
theorem dX4_gotByOther_6 : decode cX4_gotByOther 6 = .ok (.iload_n 2, 1) := by decide +kernel
theorem dX4_gotByOther_7 : decode cX4_gotByOther 7 = .ok (.iload_n 3, 1) := by decide +kernel
theorem dX4_gotByOther_8 : decode cX4_gotByOther 8 = .ok (.invokestatic 218, 3) := by decide +kernel
theorem dX4_gotByOther_11 : decode cX4_gotByOther 11 = .ok (.ifCond .ne 7, 3) := by decide +kernel
theorem dX4_gotByOther_14 : decode cX4_gotByOther 14 = .ok (.iconst 1, 1) := by decide +kernel
theorem dX4_gotByOther_15 : decode cX4_gotByOther 15 = .ok (.goto 4, 3) := by decide +kernel
theorem dX4_gotByOther_18 : decode cX4_gotByOther 18 = .ok (.iconst 0, 1) := by decide +kernel
theorem dX4_gotByOther_19 : decode cX4_gotByOther 19 = .ok (.istore 4, 2) := by decide +kernel
theorem dX4_gotByOther_21 : decode cX4_gotByOther 21 = .ok (.iload_n 1, 1) := by decide +kernel
theorem dX4_gotByOther_22 : decode cX4_gotByOther 22 = .ok (.iload_n 3, 1) := by decide +kernel
theorem dX4_gotByOther_23 : decode cX4_gotByOther 23 = .ok (.iload 4, 2) := by decide +kernel
theorem dX4_gotByOther_25 : decode cX4_gotByOther 25 = .ok (.invokestatic 221, 3) := by decide +kernel
theorem dX4_gotByOther_28 : decode cX4_gotByOther 28 = .ok (.ireturn, 1) := by decide +kernel
theorem dX4_got_0 : decode cX4_got 0 = .ok (.iload_n 2, 1) := by decide +kernel
theorem dX4_got_1 : decode cX4_got 1 = .ok (.ifCond .eq 7, 3) := by decide +kernel
theorem dX4_got_4 : decode cX4_got 4 = .ok (.iconst 3, 1) := by decide +kernel
theorem dX4_got_5 : decode cX4_got 5 = .ok (.iload_n 0, 1) := by decide +kernel
theorem dX4_got_6 : decode cX4_got 6 = .ok (.isub, 1) := by decide +kernel
theorem dX4_got_7 : decode cX4_got 7 = .ok (.ireturn, 1) := by decide +kernel
theorem dX4_got_8 : decode cX4_got 8 = .ok (.iload_n 0, 1) := by decide +kernel
theorem dX4_got_9 : decode cX4_got 9 = .ok (.ifCond .le 11, 3) := by decide +kernel
theorem dX4_got_12 : decode cX4_got 12 = .ok (.iload_n 1, 1) := by decide +kernel
theorem dX4_got_13 : decode cX4_got 13 = .ok (.ifCond .ne 7, 3) := by decide +kernel
theorem dX4_got_16 : decode cX4_got 16 = .ok (.iconst (-1), 1) := by decide +kernel
theorem dX4_got_17 : decode cX4_got 17 = .ok (.goto 4, 3) := by decide +kernel
theorem dX4_got_20 : decode cX4_got 20 = .ok (.iconst 0, 1) := by decide +kernel
theorem dX4_got_21 : decode cX4_got 21 = .ok (.ireturn, 1) := by decide +kernel
theorem dX4_hasBit_0 : decode cX4_hasBit 0 = .ok (.iload_n 1, 1) := by decide +kernel
theorem dX4_hasBit_1 : decode cX4_hasBit 1 = .ok (.ifCond .lt 20, 3) := by decide +kernel
theorem dX4_hasBit_4 : decode cX4_hasBit 4 = .ok (.iload_n 1, 1) := by decide +kernel
theorem dX4_hasBit_5 : decode cX4_hasBit 5 = .ok (.iconst 5, 1) := by decide +kernel
theorem dX4_hasBit_6 : decode cX4_hasBit 6 = .ok (.if_icmp .ge 15, 3) := by decide +kernel
theorem dX4_hasBit_9 : decode cX4_hasBit 9 = .ok (.iload_n 0, 1) := by decide +kernel
theorem dX4_hasBit_10 : decode cX4_hasBit 10 = .ok (.iload_n 1, 1) := by decide +kernel
theorem dX4_hasBit_11 : decode cX4_hasBit 11 = .ok (.ishr, 1) := by decide +kernel
theorem dX4_hasBit_12 : decode cX4_hasBit 12 = .ok (.iconst 1, 1) := by decide +kernel
theorem dX4_hasBit_13 : decode cX4_hasBit 13 = .ok (.iand, 1) := by decide +kernel
theorem dX4_hasBit_14 : decode cX4_hasBit 14 = .ok (.ifCond .eq 7, 3) := by decide +kernel
theorem dX4_hasBit_17 : decode cX4_hasBit 17 = .ok (.iconst 1, 1) := by decide +kernel
theorem dX4_hasBit_18 : decode cX4_hasBit 18 = .ok (.goto 4, 3) := by decide +kernel
theorem dX4_hasBit_21 : decode cX4_hasBit 21 = .ok (.iconst 0, 1) := by decide +kernel
theorem dX4_hasBit_22 : decode cX4_hasBit 22 = .ok (.ireturn, 1) := by decide +kernel
theorem dX4_factorial_0 : decode cX4_factorial 0 = .ok (.iload_n 0, 1) := by decide +kernel
theorem dX4_factorial_1 : decode cX4_factorial 1 = .ok (.ifCond .lt 19, 3) := by decide +kernel
theorem dX4_factorial_4 : decode cX4_factorial 4 = .ok (.iload_n 0, 1) := by decide +kernel
theorem dX4_factorial_5 : decode cX4_factorial 5 = .ok (.getstatic 225, 3) := by decide +kernel
theorem dX4_factorial_8 : decode cX4_factorial 8 = .ok (.arraylength, 1) := by decide +kernel
theorem dX4_factorial_9 : decode cX4_factorial 9 = .ok (.if_icmp .ge 11, 3) := by decide +kernel
theorem dX4_factorial_12 : decode cX4_factorial 12 = .ok (.getstatic 225, 3) := by decide +kernel
theorem dX4_factorial_15 : decode cX4_factorial 15 = .ok (.iload_n 0, 1) := by decide +kernel
theorem dX4_factorial_16 : decode cX4_factorial 16 = .ok (.iaload, 1) := by decide +kernel
theorem dX4_factorial_17 : decode cX4_factorial 17 = .ok (.goto 4, 3) := by decide +kernel
theorem dX4_factorial_20 : decode cX4_factorial 20 = .ok (.iconst 0, 1) := by decide +kernel
theorem dX4_factorial_21 : decode cX4_factorial 21 = .ok (.ireturn, 1) := by decide +kernel
theorem dX4_power_0 : decode cX4_power 0 = .ok (.iconst 1, 1) := by decide +kernel
theorem dX4_power_1 : decode cX4_power 1 = .ok (.istore_n 2, 1) := by decide +kernel
theorem dX4_power_2 : decode cX4_power 2 = .ok (.iconst 0, 1) := by decide +kernel
theorem dX4_power_3 : decode cX4_power 3 = .ok (.istore_n 3, 1) := by decide +kernel
theorem dX4_power_4 : decode cX4_power 4 = .ok (.iload_n 3, 1) := by decide +kernel
theorem dX4_power_5 : decode cX4_power 5 = .ok (.iload_n 1, 1) := by decide +kernel
theorem dX4_power_6 : decode cX4_power 6 = .ok (.if_icmp .ge 13, 3) := by decide +kernel
theorem dX4_power_9 : decode cX4_power 9 = .ok (.iload_n 2, 1) := by decide +kernel
theorem dX4_power_10 : decode cX4_power 10 = .ok (.iload_n 0, 1) := by decide +kernel
theorem dX4_power_11 : decode cX4_power 11 = .ok (.imul, 1) := by decide +kernel
theorem dX4_power_12 : decode cX4_power 12 = .ok (.istore_n 2, 1) := by decide +kernel
theorem dX4_power_13 : decode cX4_power 13 = .ok (.iinc 3 1, 3) := by decide +kernel
theorem dX4_power_16 : decode cX4_power 16 = .ok (.goto (-12), 3) := by decide +kernel
theorem dX4_power_19 : decode cX4_power 19 = .ok (.iload_n 2, 1) := by decide +kernel
theorem dX4_power_20 : decode cX4_power 20 = .ok (.ireturn, 1) := by decide +kernel
theorem dX4_fraction_0 : decode cX4_fraction 0 = .ok (.iload_n 1, 1) := by decide +kernel
theorem dX4_fraction_1 : decode cX4_fraction 1 = .ok (.istore_n 3, 1) := by decide +kernel
theorem dX4_fraction_2 : decode cX4_fraction 2 = .ok (.iload_n 0, 1) := by decide +kernel
theorem dX4_fraction_3 : decode cX4_fraction 3 = .ok (.istore 4, 2) := by decide +kernel
theorem dX4_fraction_5 : decode cX4_fraction 5 = .ok (.iconst 0, 1) := by decide +kernel
theorem dX4_fraction_6 : decode cX4_fraction 6 = .ok (.istore 5, 2) := by decide +kernel
theorem dX4_fraction_8 : decode cX4_fraction 8 = .ok (.iload 4, 2) := by decide +kernel
theorem dX4_fraction_10 : decode cX4_fraction 10 = .ok (.ifCond .le 29, 3) := by decide +kernel
theorem dX4_fraction_13 : decode cX4_fraction 13 = .ok (.iload 5, 2) := by decide +kernel
theorem dX4_fraction_15 : decode cX4_fraction 15 = .ok (.bipush 64, 2) := by decide +kernel
theorem dX4_fraction_17 : decode cX4_fraction 17 = .ok (.if_icmp .ge 22, 3) := by decide +kernel
theorem dX4_fraction_20 : decode cX4_fraction 20 = .ok (.iload_n 3, 1) := by decide +kernel
theorem dX4_fraction_21 : decode cX4_fraction 21 = .ok (.iload 4, 2) := by decide +kernel
theorem dX4_fraction_23 : decode cX4_fraction 23 = .ok (.irem, 1) := by decide +kernel
theorem dX4_fraction_24 : decode cX4_fraction 24 = .ok (.istore 6, 2) := by decide +kernel
theorem dX4_fraction_26 : decode cX4_fraction 26 = .ok (.iload 4, 2) := by decide +kernel
theorem dX4_fraction_28 : decode cX4_fraction 28 = .ok (.istore_n 3, 1) := by decide +kernel
theorem dX4_fraction_29 : decode cX4_fraction 29 = .ok (.iload 6, 2) := by decide +kernel
theorem dX4_fraction_31 : decode cX4_fraction 31 = .ok (.istore 4, 2) := by decide +kernel
theorem dX4_fraction_33 : decode cX4_fraction 33 = .ok (.iinc 5 1, 3) := by decide +kernel
theorem dX4_fraction_36 : decode cX4_fraction 36 = .ok (.goto (-28), 3) := by decide +kernel
theorem dX4_fraction_39 : decode cX4_fraction 39 = .ok (.iload_n 3, 1) := by decide +kernel
theorem dX4_fraction_40 : decode cX4_fraction 40 = .ok (.ifCond .le 17, 3) := by decide +kernel
theorem dX4_fraction_43 : decode cX4_fraction 43 = .ok (.iload_n 2, 1) := by decide +kernel
theorem dX4_fraction_44 : decode cX4_fraction 44 = .ok (.ifCond .eq 7, 3) := by decide +kernel
theorem dX4_fraction_47 : decode cX4_fraction 47 = .ok (.iload_n 0, 1) := by decide +kernel
theorem dX4_fraction_48 : decode cX4_fraction 48 = .ok (.goto 4, 3) := by decide +kernel
theorem dX4_fraction_51 : decode cX4_fraction 51 = .ok (.iload_n 1, 1) := by decide +kernel
theorem dX4_fraction_52 : decode cX4_fraction 52 = .ok (.iload_n 3, 1) := by decide +kernel
theorem dX4_fraction_53 : decode cX4_fraction 53 = .ok (.idiv, 1) := by decide +kernel
theorem dX4_fraction_54 : decode cX4_fraction 54 = .ok (.goto 4, 3) := by decide +kernel
theorem dX4_fraction_57 : decode cX4_fraction 57 = .ok (.iconst 0, 1) := by decide +kernel
theorem dX4_fraction_58 : decode cX4_fraction 58 = .ok (.ireturn, 1) := by decide +kernel
theorem dX5_init_0 : decode cX5_init 0 = .ok (.aload_n 0, 1) := by decide +kernel
theorem dX5_init_1 : decode cX5_init 1 = .ok (.invokespecial 1, 3) := by decide +kernel
theorem dX5_init_4 : decode cX5_init 4 = .ok (.aload_n 0, 1) := by decide +kernel
theorem dX5_init_5 : decode cX5_init 5 = .ok (.bipush 48, 2) := by decide +kernel
theorem dX5_init_7 : decode cX5_init 7 = .ok (.newarray .int, 2) := by decide +kernel
theorem dX5_init_9 : decode cX5_init 9 = .ok (.putfield 7, 3) := by decide +kernel
theorem dX5_init_12 : decode cX5_init 12 = .ok (.aload_n 0, 1) := by decide +kernel
theorem dX5_init_13 : decode cX5_init 13 = .ok (.iconst 5, 1) := by decide +kernel
theorem dX5_init_14 : decode cX5_init 14 = .ok (.newarray .int, 2) := by decide +kernel
theorem dX5_init_16 : decode cX5_init 16 = .ok (.putfield 13, 3) := by decide +kernel
theorem dX5_init_19 : decode cX5_init 19 = .ok (.aload_n 0, 1) := by decide +kernel
theorem dX5_init_20 : decode cX5_init 20 = .ok (.bipush 15, 2) := by decide +kernel
theorem dX5_init_22 : decode cX5_init 22 = .ok (.newarray .int, 2) := by decide +kernel
theorem dX5_init_24 : decode cX5_init 24 = .ok (.putfield 16, 3) := by decide +kernel
theorem dX5_init_27 : decode cX5_init 27 = .ok (.aload_n 0, 1) := by decide +kernel
theorem dX5_init_28 : decode cX5_init 28 = .ok (.iconst 5, 1) := by decide +kernel
theorem dX5_init_29 : decode cX5_init 29 = .ok (.newarray .int, 2) := by decide +kernel
theorem dX5_init_31 : decode cX5_init 31 = .ok (.putfield 19, 3) := by decide +kernel
theorem dX5_init_34 : decode cX5_init 34 = .ok (.aload_n 0, 1) := by decide +kernel
theorem dX5_init_35 : decode cX5_init 35 = .ok (.bipush 43, 2) := by decide +kernel
theorem dX5_init_37 : decode cX5_init 37 = .ok (.newarray .int, 2) := by decide +kernel
theorem dX5_init_39 : decode cX5_init 39 = .ok (.putfield 22, 3) := by decide +kernel
theorem dX5_init_42 : decode cX5_init 42 = .ok (.aload_n 0, 1) := by decide +kernel
theorem dX5_init_43 : decode cX5_init 43 = .ok (.bipush 43, 2) := by decide +kernel
theorem dX5_init_45 : decode cX5_init 45 = .ok (.newarray .int, 2) := by decide +kernel
theorem dX5_init_47 : decode cX5_init 47 = .ok (.putfield 25, 3) := by decide +kernel
theorem dX5_init_50 : decode cX5_init 50 = .ok (.aload_n 0, 1) := by decide +kernel
theorem dX5_init_51 : decode cX5_init 51 = .ok (.sipush 602, 3) := by decide +kernel
theorem dX5_init_54 : decode cX5_init 54 = .ok (.newarray .int, 2) := by decide +kernel
theorem dX5_init_56 : decode cX5_init 56 = .ok (.putfield 28, 3) := by decide +kernel
theorem dX5_init_59 : decode cX5_init 59 = .ok (.aload_n 0, 1) := by decide +kernel
theorem dX5_init_60 : decode cX5_init 60 = .ok (.bipush 86, 2) := by decide +kernel
theorem dX5_init_62 : decode cX5_init 62 = .ok (.newarray .int, 2) := by decide +kernel
theorem dX5_init_64 : decode cX5_init 64 = .ok (.putfield 31, 3) := by decide +kernel
theorem dX5_init_67 : decode cX5_init 67 = .ok (.aload_n 0, 1) := by decide +kernel
theorem dX5_init_68 : decode cX5_init 68 = .ok (.iconst 2, 1) := by decide +kernel
theorem dX5_init_69 : decode cX5_init 69 = .ok (.newarray .boolean, 2) := by decide +kernel
theorem dX5_init_71 : decode cX5_init 71 = .ok (.putfield 34, 3) := by decide +kernel
theorem dX5_init_74 : decode cX5_init 74 = .ok (.aload_n 0, 1) := by decide +kernel
theorem dX5_init_75 : decode cX5_init 75 = .ok (.bipush 32, 2) := by decide +kernel
theorem dX5_init_77 : decode cX5_init 77 = .ok (.newarray .int, 2) := by decide +kernel
theorem dX5_init_79 : decode cX5_init 79 = .ok (.putfield 38, 3) := by decide +kernel
theorem dX5_init_82 : decode cX5_init 82 = .ok (.return_, 1) := by decide +kernel
theorem dX5_in_0 : decode cX5_in 0 = .ok (.lload_n 0, 1) := by decide +kernel
theorem dX5_in_1 : decode cX5_in 1 = .ok (.lload_n 2, 1) := by decide +kernel
theorem dX5_in_2 : decode cX5_in 2 = .ok (.lcmp, 1) := by decide +kernel
theorem dX5_in_3 : decode cX5_in 3 = .ok (.ifCond .lt 14, 3) := by decide +kernel
theorem dX5_in_6 : decode cX5_in 6 = .ok (.lload_n 0, 1) := by decide +kernel
theorem dX5_in_7 : decode cX5_in 7 = .ok (.lload 4, 2) := by decide +kernel
theorem dX5_in_9 : decode cX5_in 9 = .ok (.lcmp, 1) := by decide +kernel
theorem dX5_in_10 : decode cX5_in 10 = .ok (.ifCond .gt 7, 3) := by decide +kernel
theorem dX5_in_13 : decode cX5_in 13 = .ok (.iconst 1, 1) := by decide +kernel
theorem dX5_in_14 : decode cX5_in 14 = .ok (.goto 4, 3) := by decide +kernel
theorem dX5_in_17 : decode cX5_in 17 = .ok (.iconst 0, 1) := by decide +kernel
theorem dX5_in_18 : decode cX5_in 18 = .ok (.ireturn, 1) := by decide +kernel
theorem dX5_has_0 : decode cX5_has 0 = .ok (.iload_n 0, 1) := by decide +kernel
theorem dX5_has_1 : decode cX5_has 1 = .ok (.iload_n 1, 1) := by decide +kernel
theorem dX5_has_2 : decode cX5_has 2 = .ok (.ishr, 1) := by decide +kernel
theorem dX5_has_3 : decode cX5_has 3 = .ok (.iconst 1, 1) := by decide +kernel
theorem dX5_has_4 : decode cX5_has 4 = .ok (.iand, 1) := by decide +kernel
theorem dX5_has_5 : decode cX5_has 5 = .ok (.iconst 1, 1) := by decide +kernel
theorem dX5_has_6 : decode cX5_has 6 = .ok (.if_icmp .ne 7, 3) := by decide +kernel
theorem dX5_has_9 : decode cX5_has 9 = .ok (.iconst 1, 1) := by decide +kernel
theorem dX5_has_10 : decode cX5_has 10 = .ok (.goto 4, 3) := by decide +kernel
theorem dX5_has_13 : decode cX5_has 13 = .ok (.iconst 0, 1) := by decide +kernel
theorem dX5_has_14 : decode cX5_has 14 = .ok (.ireturn, 1) := by decide +kernel
theorem dX5_many_0 : decode cX5_many 0 = .ok (.iconst 0, 1) := by decide +kernel
theorem dX5_many_1 : decode cX5_many 1 = .ok (.istore_n 1, 1) := by decide +kernel
theorem dX5_many_2 : decode cX5_many 2 = .ok (.iconst 0, 1) := by decide +kernel
theorem dX5_many_3 : decode cX5_many 3 = .ok (.istore_n 2, 1) := by decide +kernel
theorem dX5_many_4 : decode cX5_many 4 = .ok (.iload_n 2, 1) := by decide +kernel
theorem dX5_many_5 : decode cX5_many 5 = .ok (.iconst 5, 1) := by decide +kernel
theorem dX5_many_6 : decode cX5_many 6 = .ok (.if_icmp .ge 17, 3) := by decide +kernel
theorem dX5_many_9 : decode cX5_many 9 = .ok (.iload_n 1, 1) := by decide +kernel
theorem dX5_many_10 : decode cX5_many 10 = .ok (.iload_n 0, 1) := by decide +kernel
theorem dX5_many_11 : decode cX5_many 11 = .ok (.iload_n 2, 1) := by decide +kernel
theorem dX5_many_12 : decode cX5_many 12 = .ok (.ishr, 1) := by decide +kernel
theorem dX5_many_13 : decode cX5_many 13 = .ok (.iconst 1, 1) := by decide +kernel
theorem dX5_many_14 : decode cX5_many 14 = .ok (.iand, 1) := by decide +kernel
theorem dX5_many_15 : decode cX5_many 15 = .ok (.iadd, 1) := by decide +kernel
theorem dX5_many_16 : decode cX5_many 16 = .ok (.istore_n 1, 1) := by decide +kernel
theorem dX5_many_17 : decode cX5_many 17 = .ok (.iinc 2 1, 3) := by decide +kernel
theorem dX5_many_20 : decode cX5_many 20 = .ok (.goto (-16), 3) := by decide +kernel
theorem dX5_many_23 : decode cX5_many 23 = .ok (.iload_n 1, 1) := by decide +kernel
theorem dX5_many_24 : decode cX5_many 24 = .ok (.ireturn, 1) := by decide +kernel
theorem dX5_noPerson_0 : decode cX5_noPerson 0 = .ok (.iload_n 1, 1) := by decide +kernel
theorem dX5_noPerson_1 : decode cX5_noPerson 1 = .ok (.i2l, 1) := by decide +kernel
theorem dX5_noPerson_2 : decode cX5_noPerson 2 = .ok (.lconst 0, 1) := by decide +kernel
theorem dX5_noPerson_3 : decode cX5_noPerson 3 = .ok (.aload_n 0, 1) := by decide +kernel
theorem dX5_noPerson_4 : decode cX5_noPerson 4 = .ok (.getfield 45, 3) := by decide +kernel
theorem dX5_noPerson_7 : decode cX5_noPerson 7 = .ok (.iconst 1, 1) := by decide +kernel
theorem dX5_noPerson_8 : decode cX5_noPerson 8 = .ok (.isub, 1) := by decide +kernel
theorem dX5_noPerson_9 : decode cX5_noPerson 9 = .ok (.i2l, 1) := by decide +kernel
theorem dX5_noPerson_10 : decode cX5_noPerson 10 = .ok (.invokestatic 48, 3) := by decide +kernel
theorem dX5_noPerson_13 : decode cX5_noPerson 13 = .ok (.ifCond .ne 7, 3) := by decide +kernel
theorem dX5_noPerson_16 : decode cX5_noPerson 16 = .ok (.iconst 1, 1) := by decide +kernel
theorem dX5_noPerson_17 : decode cX5_noPerson 17 = .ok (.goto 4, 3) := by decide +kernel
theorem dX5_noPerson_20 : decode cX5_noPerson 20 = .ok (.iconst 0, 1) := by decide +kernel
theorem dX5_noPerson_21 : decode cX5_noPerson 21 = .ok (.ireturn, 1) := by decide +kernel
theorem dX5_everyone_0 : decode cX5_everyone 0 = .ok (.iconst 1, 1) := by decide +kernel
theorem dX5_everyone_1 : decode cX5_everyone 1 = .ok (.aload_n 0, 1) := by decide +kernel
theorem dX5_everyone_2 : decode cX5_everyone 2 = .ok (.getfield 45, 3) := by decide +kernel
theorem dX5_everyone_5 : decode cX5_everyone 5 = .ok (.ishl, 1) := by decide +kernel
theorem dX5_everyone_6 : decode cX5_everyone 6 = .ok (.iconst 1, 1) := by decide +kernel
theorem dX5_everyone_7 : decode cX5_everyone 7 = .ok (.isub, 1) := by decide +kernel
theorem dX5_everyone_8 : decode cX5_everyone 8 = .ok (.ireturn, 1) := by decide +kernel
theorem dX5_write_0 : decode cX5_write 0 = .ok (.aload_n 0, 1) := by decide +kernel
theorem dX5_write_1 : decode cX5_write 1 = .ok (.iconst 0, 1) := by decide +kernel
theorem dX5_write_2 : decode cX5_write 2 = .ok (.putfield 41, 3) := by decide +kernel
theorem dX5_write_5 : decode cX5_write 5 = .ok (.iload_n 1, 1) := by decide +kernel
theorem dX5_write_6 : decode cX5_write 6 = .ok (.i2l, 1) := by decide +kernel
theorem dX5_write_7 : decode cX5_write 7 = .ok (.lconst 0, 1) := by decide +kernel
theorem dX5_write_8 : decode cX5_write 8 = .ok (.ldc2_w 52, 3) := by decide +kernel
theorem dX5_write_11 : decode cX5_write 11 = .ok (.invokestatic 48, 3) := by decide +kernel
theorem dX5_write_14 : decode cX5_write 14 = .ok (.ifCond .ne 6, 3) := by decide +kernel
theorem dX5_write_17 : decode cX5_write 17 = .ok (.bipush (-2), 2) := by decide +kernel
theorem dX5_write_19 : decode cX5_write 19 = .ok (.ireturn, 1) := by decide +kernel
theorem dX5_write_20 : decode cX5_write 20 = .ok (.aload_n 0, 1) := by decide +kernel
theorem dX5_write_21 : decode cX5_write 21 = .ok (.getfield 54, 3) := by decide +kernel
theorem dX5_write_24 : decode cX5_write 24 = .ok (.bipush 48, 2) := by decide +kernel
theorem dX5_write_26 : decode cX5_write 26 = .ok (.if_icmp .ne 6, 3) := by decide +kernel
theorem dX5_write_29 : decode cX5_write 29 = .ok (.bipush (-4), 2) := by decide +kernel
theorem dX5_write_31 : decode cX5_write 31 = .ok (.ireturn, 1) := by decide +kernel
theorem dX5_write_32 : decode cX5_write 32 = .ok (.aload_n 0, 1) := by decide +kernel
theorem dX5_write_33 : decode cX5_write 33 = .ok (.getfield 7, 3) := by decide +kernel
theorem dX5_write_36 : decode cX5_write 36 = .ok (.aload_n 0, 1) := by decide +kernel
theorem dX5_write_37 : decode cX5_write 37 = .ok (.getfield 54, 3) := by decide +kernel
theorem dX5_write_40 : decode cX5_write 40 = .ok (.iload_n 1, 1) := by decide +kernel
theorem dX5_write_41 : decode cX5_write 41 = .ok (.iastore, 1) := by decide +kernel
theorem dX5_write_42 : decode cX5_write 42 = .ok (.aload_n 0, 1) := by decide +kernel
theorem dX5_write_43 : decode cX5_write 43 = .ok (.dup, 1) := by decide +kernel
theorem dX5_write_44 : decode cX5_write 44 = .ok (.getfield 54, 3) := by decide +kernel
theorem dX5_write_47 : decode cX5_write 47 = .ok (.iconst 1, 1) := by decide +kernel
theorem dX5_write_48 : decode cX5_write 48 = .ok (.iadd, 1) := by decide +kernel
theorem dX5_write_49 : decode cX5_write 49 = .ok (.putfield 54, 3) := by decide +kernel
theorem dX5_write_52 : decode cX5_write 52 = .ok (.aload_n 0, 1) := by decide +kernel
theorem dX5_write_53 : decode cX5_write 53 = .ok (.getfield 54, 3) := by decide +kernel
theorem dX5_write_56 : decode cX5_write 56 = .ok (.ireturn, 1) := by decide +kernel
theorem dX5_wipe_0 : decode cX5_wipe 0 = .ok (.aload_n 0, 1) := by decide +kernel
theorem dX5_wipe_1 : decode cX5_wipe 1 = .ok (.iconst 0, 1) := by decide +kernel
theorem dX5_wipe_2 : decode cX5_wipe 2 = .ok (.putfield 41, 3) := by decide +kernel
theorem dX5_wipe_5 : decode cX5_wipe 5 = .ok (.aload_n 0, 1) := by decide +kernel
theorem dX5_wipe_6 : decode cX5_wipe 6 = .ok (.getfield 54, 3) := by decide +kernel
theorem dX5_wipe_9 : decode cX5_wipe 9 = .ok (.istore_n 1, 1) := by decide +kernel
theorem dX5_wipe_10 : decode cX5_wipe 10 = .ok (.aload_n 0, 1) := by decide +kernel
theorem dX5_wipe_11 : decode cX5_wipe 11 = .ok (.iconst 0, 1) := by decide +kernel
theorem dX5_wipe_12 : decode cX5_wipe 12 = .ok (.putfield 54, 3) := by decide +kernel
theorem dX5_wipe_15 : decode cX5_wipe 15 = .ok (.iload_n 1, 1) := by decide +kernel
theorem dX5_wipe_16 : decode cX5_wipe 16 = .ok (.ireturn, 1) := by decide +kernel
theorem dX5_figure_0 : decode cX5_figure 0 = .ok (.aload_n 0, 1) := by decide +kernel
theorem dX5_figure_1 : decode cX5_figure 1 = .ok (.getfield 57, 3) := by decide +kernel
theorem dX5_figure_4 : decode cX5_figure 4 = .ok (.aload_n 0, 1) := by decide +kernel
theorem dX5_figure_5 : decode cX5_figure 5 = .ok (.getfield 54, 3) := by decide +kernel
theorem dX5_figure_8 : decode cX5_figure 8 = .ok (.if_icmp .eq 26, 3) := by decide +kernel
theorem dX5_figure_11 : decode cX5_figure 11 = .ok (.aload_n 0, 1) := by decide +kernel
theorem dX5_figure_12 : decode cX5_figure 12 = .ok (.getfield 7, 3) := by decide +kernel
theorem dX5_figure_15 : decode cX5_figure 15 = .ok (.aload_n 0, 1) := by decide +kernel
theorem dX5_figure_16 : decode cX5_figure 16 = .ok (.getfield 57, 3) := by decide +kernel
theorem dX5_figure_19 : decode cX5_figure 19 = .ok (.iaload, 1) := by decide +kernel
theorem dX5_figure_20 : decode cX5_figure 20 = .ok (.bipush 48, 2) := by decide +kernel
theorem dX5_figure_22 : decode cX5_figure 22 = .ok (.isub, 1) := by decide +kernel
theorem dX5_figure_23 : decode cX5_figure 23 = .ok (.i2l, 1) := by decide +kernel
theorem dX5_figure_24 : decode cX5_figure 24 = .ok (.iload_n 1, 1) := by decide +kernel
theorem dX5_figure_25 : decode cX5_figure 25 = .ok (.i2l, 1) := by decide +kernel
theorem dX5_figure_26 : decode cX5_figure 26 = .ok (.iload_n 2, 1) := by decide +kernel
theorem dX5_figure_27 : decode cX5_figure 27 = .ok (.i2l, 1) := by decide +kernel
theorem dX5_figure_28 : decode cX5_figure 28 = .ok (.invokestatic 48, 3) := by decide +kernel
theorem dX5_figure_31 : decode cX5_figure 31 = .ok (.ifCond .ne 6, 3) := by decide +kernel
theorem dX5_figure_34 : decode cX5_figure 34 = .ok (.bipush (-9), 2) := by decide +kernel
theorem dX5_figure_36 : decode cX5_figure 36 = .ok (.ireturn, 1) := by decide +kernel
theorem dX5_figure_37 : decode cX5_figure 37 = .ok (.aload_n 0, 1) := by decide +kernel
theorem dX5_figure_38 : decode cX5_figure 38 = .ok (.dup, 1) := by decide +kernel
theorem dX5_figure_39 : decode cX5_figure 39 = .ok (.getfield 57, 3) := by decide +kernel
theorem dX5_figure_42 : decode cX5_figure 42 = .ok (.iconst 1, 1) := by decide +kernel
theorem dX5_figure_43 : decode cX5_figure 43 = .ok (.iadd, 1) := by decide +kernel
theorem dX5_figure_44 : decode cX5_figure 44 = .ok (.putfield 57, 3) := by decide +kernel
theorem dX5_figure_47 : decode cX5_figure 47 = .ok (.aload_n 0, 1) := by decide +kernel
theorem dX5_figure_48 : decode cX5_figure 48 = .ok (.getfield 7, 3) := by decide +kernel
theorem dX5_figure_51 : decode cX5_figure 51 = .ok (.aload_n 0, 1) := by decide +kernel
theorem dX5_figure_52 : decode cX5_figure 52 = .ok (.getfield 57, 3) := by decide +kernel
theorem dX5_figure_55 : decode cX5_figure 55 = .ok (.iconst 1, 1) := by decide +kernel
theorem dX5_figure_56 : decode cX5_figure 56 = .ok (.isub, 1) := by decide +kernel
theorem dX5_figure_57 : decode cX5_figure 57 = .ok (.iaload, 1) := by decide +kernel
theorem dX5_figure_58 : decode cX5_figure 58 = .ok (.bipush 48, 2) := by decide +kernel
theorem dX5_figure_60 : decode cX5_figure 60 = .ok (.isub, 1) := by decide +kernel
theorem dX5_figure_61 : decode cX5_figure 61 = .ok (.ireturn, 1) := by decide +kernel
theorem dX5_pairsOf_0 : decode cX5_pairsOf 0 = .ok (.iconst 0, 1) := by decide +kernel
theorem dX5_pairsOf_1 : decode cX5_pairsOf 1 = .ok (.istore_n 2, 1) := by decide +kernel
theorem dX5_pairsOf_2 : decode cX5_pairsOf 2 = .ok (.iload_n 1, 1) := by decide +kernel
theorem dX5_pairsOf_3 : decode cX5_pairsOf 3 = .ok (.iconst 1, 1) := by decide +kernel
theorem dX5_pairsOf_4 : decode cX5_pairsOf 4 = .ok (.iadd, 1) := by decide +kernel
theorem dX5_pairsOf_5 : decode cX5_pairsOf 5 = .ok (.istore_n 3, 1) := by decide +kernel
theorem dX5_pairsOf_6 : decode cX5_pairsOf 6 = .ok (.iload_n 3, 1) := by decide +kernel
theorem dX5_pairsOf_7 : decode cX5_pairsOf 7 = .ok (.aload_n 0, 1) := by decide +kernel
theorem dX5_pairsOf_8 : decode cX5_pairsOf 8 = .ok (.getfield 60, 3) := by decide +kernel
theorem dX5_pairsOf_11 : decode cX5_pairsOf 11 = .ok (.if_icmp .ge 32, 3) := by decide +kernel
theorem dX5_pairsOf_14 : decode cX5_pairsOf 14 = .ok (.iload_n 2, 1) := by decide +kernel
theorem dX5_pairsOf_15 : decode cX5_pairsOf 15 = .ok (.aload_n 0, 1) := by decide +kernel
theorem dX5_pairsOf_16 : decode cX5_pairsOf 16 = .ok (.getfield 19, 3) := by decide +kernel
theorem dX5_pairsOf_19 : decode cX5_pairsOf 19 = .ok (.iload_n 1, 1) := by decide +kernel
theorem dX5_pairsOf_20 : decode cX5_pairsOf 20 = .ok (.iaload, 1) := by decide +kernel
theorem dX5_pairsOf_21 : decode cX5_pairsOf 21 = .ok (.iload_n 3, 1) := by decide +kernel
theorem dX5_pairsOf_22 : decode cX5_pairsOf 22 = .ok (.invokestatic 63, 3) := by decide +kernel
theorem dX5_pairsOf_25 : decode cX5_pairsOf 25 = .ok (.ifCond .eq 7, 3) := by decide +kernel
theorem dX5_pairsOf_28 : decode cX5_pairsOf 28 = .ok (.iconst 0, 1) := by decide +kernel
theorem dX5_pairsOf_29 : decode cX5_pairsOf 29 = .ok (.goto 6, 3) := by decide +kernel
theorem dX5_pairsOf_32 : decode cX5_pairsOf 32 = .ok (.iconst 1, 1) := by decide +kernel
theorem dX5_pairsOf_33 : decode cX5_pairsOf 33 = .ok (.iload_n 3, 1) := by decide +kernel
theorem dX5_pairsOf_34 : decode cX5_pairsOf 34 = .ok (.ishl, 1) := by decide +kernel
theorem dX5_pairsOf_35 : decode cX5_pairsOf 35 = .ok (.ior, 1) := by decide +kernel
theorem dX5_pairsOf_36 : decode cX5_pairsOf 36 = .ok (.istore_n 2, 1) := by decide +kernel
theorem dX5_pairsOf_37 : decode cX5_pairsOf 37 = .ok (.iinc 3 1, 3) := by decide +kernel
theorem dX5_pairsOf_40 : decode cX5_pairsOf 40 = .ok (.goto (-34), 3) := by decide +kernel
theorem dX5_pairsOf_43 : decode cX5_pairsOf 43 = .ok (.iload_n 2, 1) := by decide +kernel
theorem dX5_pairsOf_44 : decode cX5_pairsOf 44 = .ok (.ireturn, 1) := by decide +kernel
theorem dX5_arePairs_0 : decode cX5_arePairs 0 = .ok (.iconst 0, 1) := by decide +kernel
theorem dX5_arePairs_1 : decode cX5_arePairs 1 = .ok (.istore_n 1, 1) := by decide +kernel
theorem dX5_arePairs_2 : decode cX5_arePairs 2 = .ok (.iconst 0, 1) := by decide +kernel
theorem dX5_arePairs_3 : decode cX5_arePairs 3 = .ok (.istore_n 2, 1) := by decide +kernel
theorem dX5_arePairs_4 : decode cX5_arePairs 4 = .ok (.iload_n 2, 1) := by decide +kernel
theorem dX5_arePairs_5 : decode cX5_arePairs 5 = .ok (.aload_n 0, 1) := by decide +kernel
theorem dX5_arePairs_6 : decode cX5_arePairs 6 = .ok (.getfield 60, 3) := by decide +kernel
theorem dX5_arePairs_9 : decode cX5_arePairs 9 = .ok (.if_icmp .ge 27, 3) := by decide +kernel
theorem dX5_arePairs_12 : decode cX5_arePairs 12 = .ok (.iload_n 1, 1) := by decide +kernel
theorem dX5_arePairs_13 : decode cX5_arePairs 13 = .ok (.ifCond .ne 11, 3) := by decide +kernel
theorem dX5_arePairs_16 : decode cX5_arePairs 16 = .ok (.aload_n 0, 1) := by decide +kernel
theorem dX5_arePairs_17 : decode cX5_arePairs 17 = .ok (.iload_n 2, 1) := by decide +kernel
theorem dX5_arePairs_18 : decode cX5_arePairs 18 = .ok (.invokevirtual 67, 3) := by decide +kernel
theorem dX5_arePairs_21 : decode cX5_arePairs 21 = .ok (.ifCond .eq 7, 3) := by decide +kernel
theorem dX5_arePairs_24 : decode cX5_arePairs 24 = .ok (.iconst 1, 1) := by decide +kernel
theorem dX5_arePairs_25 : decode cX5_arePairs 25 = .ok (.goto 4, 3) := by decide +kernel
theorem dX5_arePairs_28 : decode cX5_arePairs 28 = .ok (.iconst 0, 1) := by decide +kernel
theorem dX5_arePairs_29 : decode cX5_arePairs 29 = .ok (.istore_n 1, 1) := by decide +kernel
theorem dX5_arePairs_30 : decode cX5_arePairs 30 = .ok (.iinc 2 1, 3) := by decide +kernel
theorem dX5_arePairs_33 : decode cX5_arePairs 33 = .ok (.goto (-29), 3) := by decide +kernel
theorem dX5_arePairs_36 : decode cX5_arePairs 36 = .ok (.iload_n 1, 1) := by decide +kernel
theorem dX5_arePairs_37 : decode cX5_arePairs 37 = .ok (.ireturn, 1) := by decide +kernel
theorem dX5_readPerson_0 : decode cX5_readPerson 0 = .ok (.iconst 3, 1) := by decide +kernel
theorem dX5_readPerson_1 : decode cX5_readPerson 1 = .ok (.aload_n 0, 1) := by decide +kernel
theorem dX5_readPerson_2 : decode cX5_readPerson 2 = .ok (.getfield 60, 3) := by decide +kernel
theorem dX5_readPerson_5 : decode cX5_readPerson 5 = .ok (.imul, 1) := by decide +kernel
theorem dX5_readPerson_6 : decode cX5_readPerson 6 = .ok (.istore_n 1, 1) := by decide +kernel
theorem dX5_readPerson_7 : decode cX5_readPerson 7 = .ok (.iconst 0, 1) := by decide +kernel
theorem dX5_readPerson_8 : decode cX5_readPerson 8 = .ok (.istore_n 2, 1) := by decide +kernel
theorem dX5_readPerson_9 : decode cX5_readPerson 9 = .ok (.iload_n 2, 1) := by decide +kernel
theorem dX5_readPerson_10 : decode cX5_readPerson 10 = .ok (.iconst 3, 1) := by decide +kernel
theorem dX5_readPerson_11 : decode cX5_readPerson 11 = .ok (.if_icmp .ge 43, 3) := by decide +kernel
theorem dX5_readPerson_14 : decode cX5_readPerson 14 = .ok (.aload_n 0, 1) := by decide +kernel
theorem dX5_readPerson_15 : decode cX5_readPerson 15 = .ok (.iconst 0, 1) := by decide +kernel
theorem dX5_readPerson_16 : decode cX5_readPerson 16 = .ok (.iload_n 2, 1) := by decide +kernel
theorem dX5_readPerson_17 : decode cX5_readPerson 17 = .ok (.iconst 2, 1) := by decide +kernel
theorem dX5_readPerson_18 : decode cX5_readPerson 18 = .ok (.if_icmp .ne 7, 3) := by decide +kernel
theorem dX5_readPerson_21 : decode cX5_readPerson 21 = .ok (.iconst 3, 1) := by decide +kernel
theorem dX5_readPerson_22 : decode cX5_readPerson 22 = .ok (.goto 5, 3) := by decide +kernel
theorem dX5_readPerson_25 : decode cX5_readPerson 25 = .ok (.bipush 9, 2) := by decide +kernel
theorem dX5_readPerson_27 : decode cX5_readPerson 27 = .ok (.invokevirtual 71, 3) := by decide +kernel
theorem dX5_readPerson_30 : decode cX5_readPerson 30 = .ok (.istore_n 3, 1) := by decide +kernel
theorem dX5_readPerson_31 : decode cX5_readPerson 31 = .ok (.iload_n 3, 1) := by decide +kernel
theorem dX5_readPerson_32 : decode cX5_readPerson 32 = .ok (.bipush (-9), 2) := by decide +kernel
theorem dX5_readPerson_34 : decode cX5_readPerson 34 = .ok (.if_icmp .ne 5, 3) := by decide +kernel
theorem dX5_readPerson_37 : decode cX5_readPerson 37 = .ok (.iconst 0, 1) := by decide +kernel
theorem dX5_readPerson_38 : decode cX5_readPerson 38 = .ok (.ireturn, 1) := by decide +kernel
theorem dX5_readPerson_39 : decode cX5_readPerson 39 = .ok (.aload_n 0, 1) := by decide +kernel
theorem dX5_readPerson_40 : decode cX5_readPerson 40 = .ok (.getfield 16, 3) := by decide +kernel
theorem dX5_readPerson_43 : decode cX5_readPerson 43 = .ok (.iload_n 1, 1) := by decide +kernel
theorem dX5_readPerson_44 : decode cX5_readPerson 44 = .ok (.iload_n 2, 1) := by decide +kernel
theorem dX5_readPerson_45 : decode cX5_readPerson 45 = .ok (.iadd, 1) := by decide +kernel
theorem dX5_readPerson_46 : decode cX5_readPerson 46 = .ok (.iload_n 3, 1) := by decide +kernel
theorem dX5_readPerson_47 : decode cX5_readPerson 47 = .ok (.iastore, 1) := by decide +kernel
theorem dX5_readPerson_48 : decode cX5_readPerson 48 = .ok (.iinc 2 1, 3) := by decide +kernel
theorem dX5_readPerson_51 : decode cX5_readPerson 51 = .ok (.goto (-42), 3) := by decide +kernel
theorem dX5_readPerson_54 : decode cX5_readPerson 54 = .ok (.aload_n 0, 1) := by decide +kernel
theorem dX5_readPerson_55 : decode cX5_readPerson 55 = .ok (.getfield 19, 3) := by decide +kernel
theorem dX5_readPerson_58 : decode cX5_readPerson 58 = .ok (.aload_n 0, 1) := by decide +kernel
theorem dX5_readPerson_59 : decode cX5_readPerson 59 = .ok (.getfield 60, 3) := by decide +kernel
theorem dX5_readPerson_62 : decode cX5_readPerson 62 = .ok (.iconst 0, 1) := by decide +kernel
theorem dX5_readPerson_63 : decode cX5_readPerson 63 = .ok (.iastore, 1) := by decide +kernel
theorem dX5_readPerson_64 : decode cX5_readPerson 64 = .ok (.aload_n 0, 1) := by decide +kernel
theorem dX5_readPerson_65 : decode cX5_readPerson 65 = .ok (.dup, 1) := by decide +kernel
theorem dX5_readPerson_66 : decode cX5_readPerson 66 = .ok (.getfield 60, 3) := by decide +kernel
theorem dX5_readPerson_69 : decode cX5_readPerson 69 = .ok (.iconst 1, 1) := by decide +kernel
theorem dX5_readPerson_70 : decode cX5_readPerson 70 = .ok (.iadd, 1) := by decide +kernel
theorem dX5_readPerson_71 : decode cX5_readPerson 71 = .ok (.putfield 60, 3) := by decide +kernel
theorem dX5_readPerson_74 : decode cX5_readPerson 74 = .ok (.iconst 1, 1) := by decide +kernel
theorem dX5_readPerson_75 : decode cX5_readPerson 75 = .ok (.ireturn, 1) := by decide +kernel
theorem dX5_readKin_0 : decode cX5_readKin 0 = .ok (.aload_n 0, 1) := by decide +kernel
theorem dX5_readKin_1 : decode cX5_readKin 1 = .ok (.getfield 57, 3) := by decide +kernel
theorem dX5_readKin_4 : decode cX5_readKin 4 = .ok (.aload_n 0, 1) := by decide +kernel
theorem dX5_readKin_5 : decode cX5_readKin 5 = .ok (.getfield 54, 3) := by decide +kernel
theorem dX5_readKin_8 : decode cX5_readKin 8 = .ok (.if_icmp .ge 18, 3) := by decide +kernel
theorem dX5_readKin_11 : decode cX5_readKin 11 = .ok (.aload_n 0, 1) := by decide +kernel
theorem dX5_readKin_12 : decode cX5_readKin 12 = .ok (.getfield 7, 3) := by decide +kernel
theorem dX5_readKin_15 : decode cX5_readKin 15 = .ok (.aload_n 0, 1) := by decide +kernel
theorem dX5_readKin_16 : decode cX5_readKin 16 = .ok (.getfield 57, 3) := by decide +kernel
theorem dX5_readKin_19 : decode cX5_readKin 19 = .ok (.iaload, 1) := by decide +kernel
theorem dX5_readKin_20 : decode cX5_readKin 20 = .ok (.bipush 48, 2) := by decide +kernel
theorem dX5_readKin_22 : decode cX5_readKin 22 = .ok (.isub, 1) := by decide +kernel
theorem dX5_readKin_23 : decode cX5_readKin 23 = .ok (.goto 5, 3) := by decide +kernel
theorem dX5_readKin_26 : decode cX5_readKin 26 = .ok (.bipush (-9), 2) := by decide +kernel
theorem dX5_readKin_28 : decode cX5_readKin 28 = .ok (.istore_n 1, 1) := by decide +kernel
theorem dX5_readKin_29 : decode cX5_readKin 29 = .ok (.iload_n 1, 1) := by decide +kernel
theorem dX5_readKin_30 : decode cX5_readKin 30 = .ok (.i2l, 1) := by decide +kernel
theorem dX5_readKin_31 : decode cX5_readKin 31 = .ok (.lconst 0, 1) := by decide +kernel
theorem dX5_readKin_32 : decode cX5_readKin 32 = .ok (.aload_n 0, 1) := by decide +kernel
theorem dX5_readKin_33 : decode cX5_readKin 33 = .ok (.getfield 60, 3) := by decide +kernel
theorem dX5_readKin_36 : decode cX5_readKin 36 = .ok (.iconst 1, 1) := by decide +kernel
theorem dX5_readKin_37 : decode cX5_readKin 37 = .ok (.isub, 1) := by decide +kernel
theorem dX5_readKin_38 : decode cX5_readKin 38 = .ok (.i2l, 1) := by decide +kernel
theorem dX5_readKin_39 : decode cX5_readKin 39 = .ok (.invokestatic 48, 3) := by decide +kernel
theorem dX5_readKin_42 : decode cX5_readKin 42 = .ok (.ifCond .eq 11, 3) := by decide +kernel
theorem dX5_readKin_45 : decode cX5_readKin 45 = .ok (.aload_n 0, 1) := by decide +kernel
theorem dX5_readKin_46 : decode cX5_readKin 46 = .ok (.iload_n 1, 1) := by decide +kernel
theorem dX5_readKin_47 : decode cX5_readKin 47 = .ok (.invokevirtual 67, 3) := by decide +kernel
theorem dX5_readKin_50 : decode cX5_readKin 50 = .ok (.ifCond .ne 5, 3) := by decide +kernel
theorem dX5_readKin_53 : decode cX5_readKin 53 = .ok (.iconst 0, 1) := by decide +kernel
theorem dX5_readKin_54 : decode cX5_readKin 54 = .ok (.ireturn, 1) := by decide +kernel
theorem dX5_readKin_55 : decode cX5_readKin 55 = .ok (.aload_n 0, 1) := by decide +kernel
theorem dX5_readKin_56 : decode cX5_readKin 56 = .ok (.dup, 1) := by decide +kernel
theorem dX5_readKin_57 : decode cX5_readKin 57 = .ok (.getfield 57, 3) := by decide +kernel
theorem dX5_readKin_60 : decode cX5_readKin 60 = .ok (.iconst 1, 1) := by decide +kernel
theorem dX5_readKin_61 : decode cX5_readKin 61 = .ok (.iadd, 1) := by decide +kernel
theorem dX5_readKin_62 : decode cX5_readKin 62 = .ok (.putfield 57, 3) := by decide +kernel
theorem dX5_readKin_65 : decode cX5_readKin 65 = .ok (.aload_n 0, 1) := by decide +kernel
theorem dX5_readKin_66 : decode cX5_readKin 66 = .ok (.getfield 57, 3) := by decide +kernel
theorem dX5_readKin_69 : decode cX5_readKin 69 = .ok (.aload_n 0, 1) := by decide +kernel
theorem dX5_readKin_70 : decode cX5_readKin 70 = .ok (.getfield 54, 3) := by decide +kernel
theorem dX5_readKin_73 : decode cX5_readKin 73 = .ok (.if_icmp .ge 18, 3) := by decide +kernel
theorem dX5_readKin_76 : decode cX5_readKin 76 = .ok (.aload_n 0, 1) := by decide +kernel
theorem dX5_readKin_77 : decode cX5_readKin 77 = .ok (.getfield 7, 3) := by decide +kernel
theorem dX5_readKin_80 : decode cX5_readKin 80 = .ok (.aload_n 0, 1) := by decide +kernel
theorem dX5_readKin_81 : decode cX5_readKin 81 = .ok (.getfield 57, 3) := by decide +kernel
theorem dX5_readKin_84 : decode cX5_readKin 84 = .ok (.iaload, 1) := by decide +kernel
theorem dX5_readKin_85 : decode cX5_readKin 85 = .ok (.bipush 48, 2) := by decide +kernel
theorem dX5_readKin_87 : decode cX5_readKin 87 = .ok (.isub, 1) := by decide +kernel
theorem dX5_readKin_88 : decode cX5_readKin 88 = .ok (.goto 5, 3) := by decide +kernel
theorem dX5_readKin_91 : decode cX5_readKin 91 = .ok (.bipush (-9), 2) := by decide +kernel
theorem dX5_readKin_93 : decode cX5_readKin 93 = .ok (.istore_n 2, 1) := by decide +kernel
theorem dX5_readKin_94 : decode cX5_readKin 94 = .ok (.iload_n 2, 1) := by decide +kernel
theorem dX5_readKin_95 : decode cX5_readKin 95 = .ok (.i2l, 1) := by decide +kernel
theorem dX5_readKin_96 : decode cX5_readKin 96 = .ok (.lconst 0, 1) := by decide +kernel
theorem dX5_readKin_97 : decode cX5_readKin 97 = .ok (.aload_n 0, 1) := by decide +kernel
theorem dX5_readKin_98 : decode cX5_readKin 98 = .ok (.getfield 60, 3) := by decide +kernel
theorem dX5_readKin_101 : decode cX5_readKin 101 = .ok (.iconst 1, 1) := by decide +kernel
theorem dX5_readKin_102 : decode cX5_readKin 102 = .ok (.isub, 1) := by decide +kernel
theorem dX5_readKin_103 : decode cX5_readKin 103 = .ok (.i2l, 1) := by decide +kernel
theorem dX5_readKin_104 : decode cX5_readKin 104 = .ok (.invokestatic 48, 3) := by decide +kernel
theorem dX5_readKin_107 : decode cX5_readKin 107 = .ok (.ifCond .eq 15, 3) := by decide +kernel
theorem dX5_readKin_110 : decode cX5_readKin 110 = .ok (.aload_n 0, 1) := by decide +kernel
theorem dX5_readKin_111 : decode cX5_readKin 111 = .ok (.iload_n 1, 1) := by decide +kernel
theorem dX5_readKin_112 : decode cX5_readKin 112 = .ok (.invokevirtual 67, 3) := by decide +kernel
theorem dX5_readKin_115 : decode cX5_readKin 115 = .ok (.iload_n 2, 1) := by decide +kernel
theorem dX5_readKin_116 : decode cX5_readKin 116 = .ok (.invokestatic 63, 3) := by decide +kernel
theorem dX5_readKin_119 : decode cX5_readKin 119 = .ok (.ifCond .ne 5, 3) := by decide +kernel
theorem dX5_readKin_122 : decode cX5_readKin 122 = .ok (.iconst 0, 1) := by decide +kernel
theorem dX5_readKin_123 : decode cX5_readKin 123 = .ok (.ireturn, 1) := by decide +kernel
theorem dX5_readKin_124 : decode cX5_readKin 124 = .ok (.aload_n 0, 1) := by decide +kernel
theorem dX5_readKin_125 : decode cX5_readKin 125 = .ok (.dup, 1) := by decide +kernel
theorem dX5_readKin_126 : decode cX5_readKin 126 = .ok (.getfield 57, 3) := by decide +kernel
theorem dX5_readKin_129 : decode cX5_readKin 129 = .ok (.iconst 1, 1) := by decide +kernel
theorem dX5_readKin_130 : decode cX5_readKin 130 = .ok (.iadd, 1) := by decide +kernel
theorem dX5_readKin_131 : decode cX5_readKin 131 = .ok (.putfield 57, 3) := by decide +kernel
theorem dX5_readKin_134 : decode cX5_readKin 134 = .ok (.aload_n 0, 1) := by decide +kernel
theorem dX5_readKin_135 : decode cX5_readKin 135 = .ok (.getfield 19, 3) := by decide +kernel
theorem dX5_readKin_138 : decode cX5_readKin 138 = .ok (.iload_n 1, 1) := by decide +kernel
theorem dX5_readKin_139 : decode cX5_readKin 139 = .ok (.dup2, 1) := by decide +kernel
theorem dX5_readKin_140 : decode cX5_readKin 140 = .ok (.iaload, 1) := by decide +kernel
theorem dX5_readKin_141 : decode cX5_readKin 141 = .ok (.iconst 1, 1) := by decide +kernel
theorem dX5_readKin_142 : decode cX5_readKin 142 = .ok (.iload_n 2, 1) := by decide +kernel
theorem dX5_readKin_143 : decode cX5_readKin 143 = .ok (.ishl, 1) := by decide +kernel
theorem dX5_readKin_144 : decode cX5_readKin 144 = .ok (.ior, 1) := by decide +kernel
theorem dX5_readKin_145 : decode cX5_readKin 145 = .ok (.iastore, 1) := by decide +kernel
theorem dX5_readKin_146 : decode cX5_readKin 146 = .ok (.aload_n 0, 1) := by decide +kernel
theorem dX5_readKin_147 : decode cX5_readKin 147 = .ok (.getfield 19, 3) := by decide +kernel
theorem dX5_readKin_150 : decode cX5_readKin 150 = .ok (.iload_n 2, 1) := by decide +kernel
theorem dX5_readKin_151 : decode cX5_readKin 151 = .ok (.dup2, 1) := by decide +kernel
theorem dX5_readKin_152 : decode cX5_readKin 152 = .ok (.iaload, 1) := by decide +kernel
theorem dX5_readKin_153 : decode cX5_readKin 153 = .ok (.iconst 1, 1) := by decide +kernel
theorem dX5_readKin_154 : decode cX5_readKin 154 = .ok (.iload_n 1, 1) := by decide +kernel
theorem dX5_readKin_155 : decode cX5_readKin 155 = .ok (.ishl, 1) := by decide +kernel
theorem dX5_readKin_156 : decode cX5_readKin 156 = .ok (.ior, 1) := by decide +kernel
theorem dX5_readKin_157 : decode cX5_readKin 157 = .ok (.iastore, 1) := by decide +kernel
theorem dX5_readKin_158 : decode cX5_readKin 158 = .ok (.iconst 1, 1) := by decide +kernel
theorem dX5_readKin_159 : decode cX5_readKin 159 = .ok (.ireturn, 1) := by decide +kernel
theorem dX5_readPart_0 : decode cX5_readPart 0 = .ok (.aload_n 0, 1) := by decide +kernel
theorem dX5_readPart_1 : decode cX5_readPart 1 = .ok (.getfield 7, 3) := by decide +kernel
theorem dX5_readPart_4 : decode cX5_readPart 4 = .ok (.aload_n 0, 1) := by decide +kernel
theorem dX5_readPart_5 : decode cX5_readPart 5 = .ok (.getfield 57, 3) := by decide +kernel
theorem dX5_readPart_8 : decode cX5_readPart 8 = .ok (.iaload, 1) := by decide +kernel
theorem dX5_readPart_9 : decode cX5_readPart 9 = .ok (.istore_n 1, 1) := by decide +kernel
theorem dX5_readPart_10 : decode cX5_readPart 10 = .ok (.aload_n 0, 1) := by decide +kernel
theorem dX5_readPart_11 : decode cX5_readPart 11 = .ok (.dup, 1) := by decide +kernel
theorem dX5_readPart_12 : decode cX5_readPart 12 = .ok (.getfield 57, 3) := by decide +kernel
theorem dX5_readPart_15 : decode cX5_readPart 15 = .ok (.iconst 1, 1) := by decide +kernel
theorem dX5_readPart_16 : decode cX5_readPart 16 = .ok (.iadd, 1) := by decide +kernel
theorem dX5_readPart_17 : decode cX5_readPart 17 = .ok (.putfield 57, 3) := by decide +kernel
theorem dX5_readPart_20 : decode cX5_readPart 20 = .ok (.iload_n 1, 1) := by decide +kernel
theorem dX5_readPart_21 : decode cX5_readPart 21 = .ok (.bipush 80, 2) := by decide +kernel
theorem dX5_readPart_23 : decode cX5_readPart 23 = .ok (.if_icmp .ne 16, 3) := by decide +kernel
theorem dX5_readPart_26 : decode cX5_readPart 26 = .ok (.aload_n 0, 1) := by decide +kernel
theorem dX5_readPart_27 : decode cX5_readPart 27 = .ok (.getfield 60, 3) := by decide +kernel
theorem dX5_readPart_30 : decode cX5_readPart 30 = .ok (.iconst 5, 1) := by decide +kernel
theorem dX5_readPart_31 : decode cX5_readPart 31 = .ok (.if_icmp .ge 8, 3) := by decide +kernel
theorem dX5_readPart_34 : decode cX5_readPart 34 = .ok (.aload_n 0, 1) := by decide +kernel
theorem dX5_readPart_35 : decode cX5_readPart 35 = .ok (.invokevirtual 75, 3) := by decide +kernel
theorem dX5_readPart_38 : decode cX5_readPart 38 = .ok (.ireturn, 1) := by decide +kernel
theorem dX5_readPart_39 : decode cX5_readPart 39 = .ok (.iload_n 1, 1) := by decide +kernel
theorem dX5_readPart_40 : decode cX5_readPart 40 = .ok (.bipush 75, 2) := by decide +kernel
theorem dX5_readPart_42 : decode cX5_readPart 42 = .ok (.if_icmp .ne 15, 3) := by decide +kernel
theorem dX5_readPart_45 : decode cX5_readPart 45 = .ok (.aload_n 0, 1) := by decide +kernel
theorem dX5_readPart_46 : decode cX5_readPart 46 = .ok (.invokevirtual 78, 3) := by decide +kernel
theorem dX5_readPart_49 : decode cX5_readPart 49 = .ok (.ifCond .eq 8, 3) := by decide +kernel
theorem dX5_readPart_52 : decode cX5_readPart 52 = .ok (.aload_n 0, 1) := by decide +kernel
theorem dX5_readPart_53 : decode cX5_readPart 53 = .ok (.invokevirtual 81, 3) := by decide +kernel
theorem dX5_readPart_56 : decode cX5_readPart 56 = .ok (.ireturn, 1) := by decide +kernel
theorem dX5_readPart_57 : decode cX5_readPart 57 = .ok (.aload_n 0, 1) := by decide +kernel
theorem dX5_readPart_58 : decode cX5_readPart 58 = .ok (.dup, 1) := by decide +kernel
theorem dX5_readPart_59 : decode cX5_readPart 59 = .ok (.getfield 57, 3) := by decide +kernel
theorem dX5_readPart_62 : decode cX5_readPart 62 = .ok (.iconst 1, 1) := by decide +kernel
theorem dX5_readPart_63 : decode cX5_readPart 63 = .ok (.isub, 1) := by decide +kernel
theorem dX5_readPart_64 : decode cX5_readPart 64 = .ok (.putfield 57, 3) := by decide +kernel
theorem dX5_readPart_67 : decode cX5_readPart 67 = .ok (.iconst 0, 1) := by decide +kernel
theorem dX5_readPart_68 : decode cX5_readPart 68 = .ok (.ireturn, 1) := by decide +kernel
theorem dX5_readLand_0 : decode cX5_readLand 0 = .ok (.aload_n 0, 1) := by decide +kernel
theorem dX5_readLand_1 : decode cX5_readLand 1 = .ok (.iconst 0, 1) := by decide +kernel
theorem dX5_readLand_2 : decode cX5_readLand 2 = .ok (.putfield 57, 3) := by decide +kernel
theorem dX5_readLand_5 : decode cX5_readLand 5 = .ok (.aload_n 0, 1) := by decide +kernel
theorem dX5_readLand_6 : decode cX5_readLand 6 = .ok (.iconst 0, 1) := by decide +kernel
theorem dX5_readLand_7 : decode cX5_readLand 7 = .ok (.putfield 60, 3) := by decide +kernel
theorem dX5_readLand_10 : decode cX5_readLand 10 = .ok (.aload_n 0, 1) := by decide +kernel
theorem dX5_readLand_11 : decode cX5_readLand 11 = .ok (.getfield 54, 3) := by decide +kernel
theorem dX5_readLand_14 : decode cX5_readLand 14 = .ok (.ifCond .eq 14, 3) := by decide +kernel
theorem dX5_readLand_17 : decode cX5_readLand 17 = .ok (.aload_n 0, 1) := by decide +kernel
theorem dX5_readLand_18 : decode cX5_readLand 18 = .ok (.getfield 7, 3) := by decide +kernel
theorem dX5_readLand_21 : decode cX5_readLand 21 = .ok (.iconst 0, 1) := by decide +kernel
theorem dX5_readLand_22 : decode cX5_readLand 22 = .ok (.iaload, 1) := by decide +kernel
theorem dX5_readLand_23 : decode cX5_readLand 23 = .ok (.bipush 84, 2) := by decide +kernel
theorem dX5_readLand_25 : decode cX5_readLand 25 = .ok (.if_icmp .eq 5, 3) := by decide +kernel
theorem dX5_readLand_28 : decode cX5_readLand 28 = .ok (.iconst 0, 1) := by decide +kernel
theorem dX5_readLand_29 : decode cX5_readLand 29 = .ok (.ireturn, 1) := by decide +kernel
theorem dX5_readLand_30 : decode cX5_readLand 30 = .ok (.aload_n 0, 1) := by decide +kernel
theorem dX5_readLand_31 : decode cX5_readLand 31 = .ok (.iconst 1, 1) := by decide +kernel
theorem dX5_readLand_32 : decode cX5_readLand 32 = .ok (.putfield 57, 3) := by decide +kernel
theorem dX5_readLand_35 : decode cX5_readLand 35 = .ok (.aload_n 0, 1) := by decide +kernel
theorem dX5_readLand_36 : decode cX5_readLand 36 = .ok (.getfield 57, 3) := by decide +kernel
theorem dX5_readLand_39 : decode cX5_readLand 39 = .ok (.aload_n 0, 1) := by decide +kernel
theorem dX5_readLand_40 : decode cX5_readLand 40 = .ok (.getfield 54, 3) := by decide +kernel
theorem dX5_readLand_43 : decode cX5_readLand 43 = .ok (.if_icmp .ge 15, 3) := by decide +kernel
theorem dX5_readLand_46 : decode cX5_readLand 46 = .ok (.aload_n 0, 1) := by decide +kernel
theorem dX5_readLand_47 : decode cX5_readLand 47 = .ok (.invokevirtual 83, 3) := by decide +kernel
theorem dX5_readLand_50 : decode cX5_readLand 50 = .ok (.ifCond .ne (-15), 3) := by decide +kernel
theorem dX5_readLand_53 : decode cX5_readLand 53 = .ok (.aload_n 0, 1) := by decide +kernel
theorem dX5_readLand_54 : decode cX5_readLand 54 = .ok (.getfield 57, 3) := by decide +kernel
theorem dX5_readLand_57 : decode cX5_readLand 57 = .ok (.ireturn, 1) := by decide +kernel
theorem dX5_readLand_58 : decode cX5_readLand 58 = .ok (.bipush (-9), 2) := by decide +kernel
theorem dX5_readLand_60 : decode cX5_readLand 60 = .ok (.ireturn, 1) := by decide +kernel
theorem dX5_fault_0 : decode cX5_fault 0 = .ok (.aload_n 0, 1) := by decide +kernel
theorem dX5_fault_1 : decode cX5_fault 1 = .ok (.iconst 0, 1) := by decide +kernel
theorem dX5_fault_2 : decode cX5_fault 2 = .ok (.putfield 41, 3) := by decide +kernel
theorem dX5_fault_5 : decode cX5_fault 5 = .ok (.aload_n 0, 1) := by decide +kernel
theorem dX5_fault_6 : decode cX5_fault 6 = .ok (.invokevirtual 86, 3) := by decide +kernel
theorem dX5_fault_9 : decode cX5_fault 9 = .ok (.ireturn, 1) := by decide +kernel
theorem dX5_land_0 : decode cX5_land 0 = .ok (.aload_n 0, 1) := by decide +kernel
theorem dX5_land_1 : decode cX5_land 1 = .ok (.iconst 0, 1) := by decide +kernel
theorem dX5_land_2 : decode cX5_land 2 = .ok (.putfield 41, 3) := by decide +kernel
theorem dX5_land_5 : decode cX5_land 5 = .ok (.aload_n 0, 1) := by decide +kernel
theorem dX5_land_6 : decode cX5_land 6 = .ok (.invokevirtual 86, 3) := by decide +kernel
theorem dX5_land_9 : decode cX5_land 9 = .ok (.bipush (-9), 2) := by decide +kernel
theorem dX5_land_11 : decode cX5_land 11 = .ok (.if_icmp .eq 6, 3) := by decide +kernel
theorem dX5_land_14 : decode cX5_land 14 = .ok (.bipush (-3), 2) := by decide +kernel
theorem dX5_land_16 : decode cX5_land 16 = .ok (.ireturn, 1) := by decide +kernel
theorem dX5_land_17 : decode cX5_land 17 = .ok (.aload_n 0, 1) := by decide +kernel
theorem dX5_land_18 : decode cX5_land 18 = .ok (.aload_n 0, 1) := by decide +kernel
theorem dX5_land_19 : decode cX5_land 19 = .ok (.getfield 60, 3) := by decide +kernel
theorem dX5_land_22 : decode cX5_land 22 = .ok (.putfield 45, 3) := by decide +kernel
theorem dX5_land_25 : decode cX5_land 25 = .ok (.iconst 0, 1) := by decide +kernel
theorem dX5_land_26 : decode cX5_land 26 = .ok (.istore_n 1, 1) := by decide +kernel
theorem dX5_land_27 : decode cX5_land 27 = .ok (.iload_n 1, 1) := by decide +kernel
theorem dX5_land_28 : decode cX5_land 28 = .ok (.bipush 43, 2) := by decide +kernel
theorem dX5_land_30 : decode cX5_land 30 = .ok (.if_icmp .ge 16, 3) := by decide +kernel
theorem dX5_land_33 : decode cX5_land 33 = .ok (.aload_n 0, 1) := by decide +kernel
theorem dX5_land_34 : decode cX5_land 34 = .ok (.getfield 22, 3) := by decide +kernel
theorem dX5_land_37 : decode cX5_land 37 = .ok (.iload_n 1, 1) := by decide +kernel
theorem dX5_land_38 : decode cX5_land 38 = .ok (.iconst 0, 1) := by decide +kernel
theorem dX5_land_39 : decode cX5_land 39 = .ok (.iastore, 1) := by decide +kernel
theorem dX5_land_40 : decode cX5_land 40 = .ok (.iinc 1 1, 3) := by decide +kernel
theorem dX5_land_43 : decode cX5_land 43 = .ok (.goto (-16), 3) := by decide +kernel
theorem dX5_land_46 : decode cX5_land 46 = .ok (.iconst 0, 1) := by decide +kernel
theorem dX5_land_47 : decode cX5_land 47 = .ok (.istore_n 1, 1) := by decide +kernel
theorem dX5_land_48 : decode cX5_land 48 = .ok (.iload_n 1, 1) := by decide +kernel
theorem dX5_land_49 : decode cX5_land 49 = .ok (.aload_n 0, 1) := by decide +kernel
theorem dX5_land_50 : decode cX5_land 50 = .ok (.getfield 45, 3) := by decide +kernel
theorem dX5_land_53 : decode cX5_land 53 = .ok (.if_icmp .ge 74, 3) := by decide +kernel
theorem dX5_land_56 : decode cX5_land 56 = .ok (.aload_n 0, 1) := by decide +kernel
theorem dX5_land_57 : decode cX5_land 57 = .ok (.getfield 22, 3) := by decide +kernel
theorem dX5_land_60 : decode cX5_land 60 = .ok (.iconst 0, 1) := by decide +kernel
theorem dX5_land_61 : decode cX5_land 61 = .ok (.iload_n 1, 1) := by decide +kernel
theorem dX5_land_62 : decode cX5_land 62 = .ok (.iadd, 1) := by decide +kernel
theorem dX5_land_63 : decode cX5_land 63 = .ok (.aload_n 0, 1) := by decide +kernel
theorem dX5_land_64 : decode cX5_land 64 = .ok (.getfield 16, 3) := by decide +kernel
theorem dX5_land_67 : decode cX5_land 67 = .ok (.iconst 3, 1) := by decide +kernel
theorem dX5_land_68 : decode cX5_land 68 = .ok (.iload_n 1, 1) := by decide +kernel
theorem dX5_land_69 : decode cX5_land 69 = .ok (.imul, 1) := by decide +kernel
theorem dX5_land_70 : decode cX5_land 70 = .ok (.iaload, 1) := by decide +kernel
theorem dX5_land_71 : decode cX5_land 71 = .ok (.iastore, 1) := by decide +kernel
theorem dX5_land_72 : decode cX5_land 72 = .ok (.aload_n 0, 1) := by decide +kernel
theorem dX5_land_73 : decode cX5_land 73 = .ok (.getfield 22, 3) := by decide +kernel
theorem dX5_land_76 : decode cX5_land 76 = .ok (.iconst 5, 1) := by decide +kernel
theorem dX5_land_77 : decode cX5_land 77 = .ok (.iload_n 1, 1) := by decide +kernel
theorem dX5_land_78 : decode cX5_land 78 = .ok (.iadd, 1) := by decide +kernel
theorem dX5_land_79 : decode cX5_land 79 = .ok (.aload_n 0, 1) := by decide +kernel
theorem dX5_land_80 : decode cX5_land 80 = .ok (.getfield 16, 3) := by decide +kernel
theorem dX5_land_83 : decode cX5_land 83 = .ok (.iconst 3, 1) := by decide +kernel
theorem dX5_land_84 : decode cX5_land 84 = .ok (.iload_n 1, 1) := by decide +kernel
theorem dX5_land_85 : decode cX5_land 85 = .ok (.imul, 1) := by decide +kernel
theorem dX5_land_86 : decode cX5_land 86 = .ok (.iconst 1, 1) := by decide +kernel
theorem dX5_land_87 : decode cX5_land 87 = .ok (.iadd, 1) := by decide +kernel
theorem dX5_land_88 : decode cX5_land 88 = .ok (.iaload, 1) := by decide +kernel
theorem dX5_land_89 : decode cX5_land 89 = .ok (.iastore, 1) := by decide +kernel
theorem dX5_land_90 : decode cX5_land 90 = .ok (.aload_n 0, 1) := by decide +kernel
theorem dX5_land_91 : decode cX5_land 91 = .ok (.getfield 13, 3) := by decide +kernel
theorem dX5_land_94 : decode cX5_land 94 = .ok (.iload_n 1, 1) := by decide +kernel
theorem dX5_land_95 : decode cX5_land 95 = .ok (.aload_n 0, 1) := by decide +kernel
theorem dX5_land_96 : decode cX5_land 96 = .ok (.getfield 16, 3) := by decide +kernel
theorem dX5_land_99 : decode cX5_land 99 = .ok (.iconst 3, 1) := by decide +kernel
theorem dX5_land_100 : decode cX5_land 100 = .ok (.iload_n 1, 1) := by decide +kernel
theorem dX5_land_101 : decode cX5_land 101 = .ok (.imul, 1) := by decide +kernel
theorem dX5_land_102 : decode cX5_land 102 = .ok (.iconst 2, 1) := by decide +kernel
theorem dX5_land_103 : decode cX5_land 103 = .ok (.iadd, 1) := by decide +kernel
theorem dX5_land_104 : decode cX5_land 104 = .ok (.iaload, 1) := by decide +kernel
theorem dX5_land_105 : decode cX5_land 105 = .ok (.iastore, 1) := by decide +kernel
theorem dX5_land_106 : decode cX5_land 106 = .ok (.aload_n 0, 1) := by decide +kernel
theorem dX5_land_107 : decode cX5_land 107 = .ok (.getfield 22, 3) := by decide +kernel
theorem dX5_land_110 : decode cX5_land 110 = .ok (.bipush 10, 2) := by decide +kernel
theorem dX5_land_112 : decode cX5_land 112 = .ok (.iload_n 1, 1) := by decide +kernel
theorem dX5_land_113 : decode cX5_land 113 = .ok (.iadd, 1) := by decide +kernel
theorem dX5_land_114 : decode cX5_land 114 = .ok (.aload_n 0, 1) := by decide +kernel
theorem dX5_land_115 : decode cX5_land 115 = .ok (.getfield 19, 3) := by decide +kernel
theorem dX5_land_118 : decode cX5_land 118 = .ok (.iload_n 1, 1) := by decide +kernel
theorem dX5_land_119 : decode cX5_land 119 = .ok (.iaload, 1) := by decide +kernel
theorem dX5_land_120 : decode cX5_land 120 = .ok (.iastore, 1) := by decide +kernel
theorem dX5_land_121 : decode cX5_land 121 = .ok (.iinc 1 1, 3) := by decide +kernel
theorem dX5_land_124 : decode cX5_land 124 = .ok (.goto (-76), 3) := by decide +kernel
theorem dX5_land_127 : decode cX5_land 127 = .ok (.aload_n 0, 1) := by decide +kernel
theorem dX5_land_128 : decode cX5_land 128 = .ok (.iconst 0, 1) := by decide +kernel
theorem dX5_land_129 : decode cX5_land 129 = .ok (.putfield 90, 3) := by decide +kernel
theorem dX5_land_132 : decode cX5_land 132 = .ok (.aload_n 0, 1) := by decide +kernel
theorem dX5_land_133 : decode cX5_land 133 = .ok (.getfield 34, 3) := by decide +kernel
theorem dX5_land_136 : decode cX5_land 136 = .ok (.iconst 0, 1) := by decide +kernel
theorem dX5_land_137 : decode cX5_land 137 = .ok (.iconst 0, 1) := by decide +kernel
theorem dX5_land_138 : decode cX5_land 138 = .ok (.bastore, 1) := by decide +kernel
theorem dX5_land_139 : decode cX5_land 139 = .ok (.aload_n 0, 1) := by decide +kernel
theorem dX5_land_140 : decode cX5_land 140 = .ok (.getfield 34, 3) := by decide +kernel
theorem dX5_land_143 : decode cX5_land 143 = .ok (.iconst 1, 1) := by decide +kernel
theorem dX5_land_144 : decode cX5_land 144 = .ok (.iconst 0, 1) := by decide +kernel
theorem dX5_land_145 : decode cX5_land 145 = .ok (.bastore, 1) := by decide +kernel
theorem dX5_land_146 : decode cX5_land 146 = .ok (.aload_n 0, 1) := by decide +kernel
theorem dX5_land_147 : decode cX5_land 147 = .ok (.getfield 45, 3) := by decide +kernel
theorem dX5_land_150 : decode cX5_land 150 = .ok (.ireturn, 1) := by decide +kernel
theorem dX5_ouncesOf_0 : decode cX5_ouncesOf 0 = .ok (.aload_n 1, 1) := by decide +kernel
theorem dX5_ouncesOf_1 : decode cX5_ouncesOf 1 = .ok (.iconst 0, 1) := by decide +kernel
theorem dX5_ouncesOf_2 : decode cX5_ouncesOf 2 = .ok (.iload_n 2, 1) := by decide +kernel
theorem dX5_ouncesOf_3 : decode cX5_ouncesOf 3 = .ok (.iadd, 1) := by decide +kernel
theorem dX5_ouncesOf_4 : decode cX5_ouncesOf 4 = .ok (.iaload, 1) := by decide +kernel
theorem dX5_ouncesOf_5 : decode cX5_ouncesOf 5 = .ok (.istore_n 3, 1) := by decide +kernel
theorem dX5_ouncesOf_6 : decode cX5_ouncesOf 6 = .ok (.aload_n 1, 1) := by decide +kernel
theorem dX5_ouncesOf_7 : decode cX5_ouncesOf 7 = .ok (.iconst 5, 1) := by decide +kernel
theorem dX5_ouncesOf_8 : decode cX5_ouncesOf 8 = .ok (.iload_n 2, 1) := by decide +kernel
theorem dX5_ouncesOf_9 : decode cX5_ouncesOf 9 = .ok (.iadd, 1) := by decide +kernel
theorem dX5_ouncesOf_10 : decode cX5_ouncesOf 10 = .ok (.iaload, 1) := by decide +kernel
theorem dX5_ouncesOf_11 : decode cX5_ouncesOf 11 = .ok (.iconst 2, 1) := by decide +kernel
theorem dX5_ouncesOf_12 : decode cX5_ouncesOf 12 = .ok (.if_icmp .lt 7, 3) := by decide +kernel
theorem dX5_ouncesOf_15 : decode cX5_ouncesOf 15 = .ok (.iconst 1, 1) := by decide +kernel
theorem dX5_ouncesOf_16 : decode cX5_ouncesOf 16 = .ok (.goto 4, 3) := by decide +kernel
theorem dX5_ouncesOf_19 : decode cX5_ouncesOf 19 = .ok (.iconst 0, 1) := by decide +kernel
theorem dX5_ouncesOf_20 : decode cX5_ouncesOf 20 = .ok (.istore 4, 2) := by decide +kernel
theorem dX5_ouncesOf_22 : decode cX5_ouncesOf 22 = .ok (.aload_n 0, 1) := by decide +kernel
theorem dX5_ouncesOf_23 : decode cX5_ouncesOf 23 = .ok (.getfield 13, 3) := by decide +kernel
theorem dX5_ouncesOf_26 : decode cX5_ouncesOf 26 = .ok (.iload_n 2, 1) := by decide +kernel
theorem dX5_ouncesOf_27 : decode cX5_ouncesOf 27 = .ok (.iaload, 1) := by decide +kernel
theorem dX5_ouncesOf_28 : decode cX5_ouncesOf 28 = .ok (.tableswitch 58 0 2 #[28, 41, 54], 28) := by decide +kernel
theorem dX5_ouncesOf_56 : decode cX5_ouncesOf 56 = .ok (.iload 4, 2) := by decide +kernel
theorem dX5_ouncesOf_58 : decode cX5_ouncesOf 58 = .ok (.ifCond .eq 9, 3) := by decide +kernel
theorem dX5_ouncesOf_61 : decode cX5_ouncesOf 61 = .ok (.iload_n 3, 1) := by decide +kernel
theorem dX5_ouncesOf_62 : decode cX5_ouncesOf 62 = .ok (.iconst 3, 1) := by decide +kernel
theorem dX5_ouncesOf_63 : decode cX5_ouncesOf 63 = .ok (.idiv, 1) := by decide +kernel
theorem dX5_ouncesOf_64 : decode cX5_ouncesOf 64 = .ok (.goto 4, 3) := by decide +kernel
theorem dX5_ouncesOf_67 : decode cX5_ouncesOf 67 = .ok (.iconst 0, 1) := by decide +kernel
theorem dX5_ouncesOf_68 : decode cX5_ouncesOf 68 = .ok (.ireturn, 1) := by decide +kernel
theorem dX5_ouncesOf_69 : decode cX5_ouncesOf 69 = .ok (.iload 4, 2) := by decide +kernel
theorem dX5_ouncesOf_71 : decode cX5_ouncesOf 71 = .ok (.ifCond .eq 9, 3) := by decide +kernel
theorem dX5_ouncesOf_74 : decode cX5_ouncesOf 74 = .ok (.iload_n 3, 1) := by decide +kernel
theorem dX5_ouncesOf_75 : decode cX5_ouncesOf 75 = .ok (.iconst 4, 1) := by decide +kernel
theorem dX5_ouncesOf_76 : decode cX5_ouncesOf 76 = .ok (.idiv, 1) := by decide +kernel
theorem dX5_ouncesOf_77 : decode cX5_ouncesOf 77 = .ok (.goto 4, 3) := by decide +kernel
theorem dX5_ouncesOf_80 : decode cX5_ouncesOf 80 = .ok (.iconst 0, 1) := by decide +kernel
theorem dX5_ouncesOf_81 : decode cX5_ouncesOf 81 = .ok (.ireturn, 1) := by decide +kernel
theorem dX5_ouncesOf_82 : decode cX5_ouncesOf 82 = .ok (.iload_n 3, 1) := by decide +kernel
theorem dX5_ouncesOf_83 : decode cX5_ouncesOf 83 = .ok (.iconst 2, 1) := by decide +kernel
theorem dX5_ouncesOf_84 : decode cX5_ouncesOf 84 = .ok (.idiv, 1) := by decide +kernel
theorem dX5_ouncesOf_85 : decode cX5_ouncesOf 85 = .ok (.ireturn, 1) := by decide +kernel
theorem dX5_ouncesOf_86 : decode cX5_ouncesOf 86 = .ok (.iconst 0, 1) := by decide +kernel
theorem dX5_ouncesOf_87 : decode cX5_ouncesOf 87 = .ok (.ireturn, 1) := by decide +kernel
theorem dX5_isFree_0 : decode cX5_isFree 0 = .ok (.aload_n 1, 1) := by decide +kernel
theorem dX5_isFree_1 : decode cX5_isFree 1 = .ok (.bipush 15, 2) := by decide +kernel
theorem dX5_isFree_3 : decode cX5_isFree 3 = .ok (.iaload, 1) := by decide +kernel
theorem dX5_isFree_4 : decode cX5_isFree 4 = .ok (.iload_n 3, 1) := by decide +kernel
theorem dX5_isFree_5 : decode cX5_isFree 5 = .ok (.invokestatic 63, 3) := by decide +kernel
theorem dX5_isFree_8 : decode cX5_isFree 8 = .ok (.ifCond .eq 31, 3) := by decide +kernel
theorem dX5_isFree_11 : decode cX5_isFree 11 = .ok (.aload_n 1, 1) := by decide +kernel
theorem dX5_isFree_12 : decode cX5_isFree 12 = .ok (.bipush 10, 2) := by decide +kernel
theorem dX5_isFree_14 : decode cX5_isFree 14 = .ok (.iload_n 2, 1) := by decide +kernel
theorem dX5_isFree_15 : decode cX5_isFree 15 = .ok (.iadd, 1) := by decide +kernel
theorem dX5_isFree_16 : decode cX5_isFree 16 = .ok (.iaload, 1) := by decide +kernel
theorem dX5_isFree_17 : decode cX5_isFree 17 = .ok (.iload_n 3, 1) := by decide +kernel
theorem dX5_isFree_18 : decode cX5_isFree 18 = .ok (.invokestatic 63, 3) := by decide +kernel
theorem dX5_isFree_21 : decode cX5_isFree 21 = .ok (.ifCond .ne 18, 3) := by decide +kernel
theorem dX5_isFree_24 : decode cX5_isFree 24 = .ok (.aload_n 1, 1) := by decide +kernel
theorem dX5_isFree_25 : decode cX5_isFree 25 = .ok (.bipush 15, 2) := by decide +kernel
theorem dX5_isFree_27 : decode cX5_isFree 27 = .ok (.iaload, 1) := by decide +kernel
theorem dX5_isFree_28 : decode cX5_isFree 28 = .ok (.iload_n 2, 1) := by decide +kernel
theorem dX5_isFree_29 : decode cX5_isFree 29 = .ok (.invokestatic 63, 3) := by decide +kernel
theorem dX5_isFree_32 : decode cX5_isFree 32 = .ok (.ifCond .ne 7, 3) := by decide +kernel
theorem dX5_isFree_35 : decode cX5_isFree 35 = .ok (.iconst 1, 1) := by decide +kernel
theorem dX5_isFree_36 : decode cX5_isFree 36 = .ok (.goto 4, 3) := by decide +kernel
theorem dX5_isFree_39 : decode cX5_isFree 39 = .ok (.iconst 0, 1) := by decide +kernel
theorem dX5_isFree_40 : decode cX5_isFree 40 = .ok (.ireturn, 1) := by decide +kernel
theorem dX5_mayWeep_0 : decode cX5_mayWeep 0 = .ok (.aload_n 0, 1) := by decide +kernel
theorem dX5_mayWeep_1 : decode cX5_mayWeep 1 = .ok (.aload_n 1, 1) := by decide +kernel
theorem dX5_mayWeep_2 : decode cX5_mayWeep 2 = .ok (.iload_n 2, 1) := by decide +kernel
theorem dX5_mayWeep_3 : decode cX5_mayWeep 3 = .ok (.iload_n 3, 1) := by decide +kernel
theorem dX5_mayWeep_4 : decode cX5_mayWeep 4 = .ok (.invokevirtual 93, 3) := by decide +kernel
theorem dX5_mayWeep_7 : decode cX5_mayWeep 7 = .ok (.ifCond .eq 16, 3) := by decide +kernel
theorem dX5_mayWeep_10 : decode cX5_mayWeep 10 = .ok (.aload_n 0, 1) := by decide +kernel
theorem dX5_mayWeep_11 : decode cX5_mayWeep 11 = .ok (.aload_n 1, 1) := by decide +kernel
theorem dX5_mayWeep_12 : decode cX5_mayWeep 12 = .ok (.iload_n 2, 1) := by decide +kernel
theorem dX5_mayWeep_13 : decode cX5_mayWeep 13 = .ok (.invokevirtual 97, 3) := by decide +kernel
theorem dX5_mayWeep_16 : decode cX5_mayWeep 16 = .ok (.ifCond .le 7, 3) := by decide +kernel
theorem dX5_mayWeep_19 : decode cX5_mayWeep 19 = .ok (.iconst 1, 1) := by decide +kernel
theorem dX5_mayWeep_20 : decode cX5_mayWeep 20 = .ok (.goto 4, 3) := by decide +kernel
theorem dX5_mayWeep_23 : decode cX5_mayWeep 23 = .ok (.iconst 0, 1) := by decide +kernel
theorem dX5_mayWeep_24 : decode cX5_mayWeep 24 = .ok (.ireturn, 1) := by decide +kernel
theorem dX5_open_0 : decode cX5_open 0 = .ok (.aload_n 1, 1) := by decide +kernel
theorem dX5_open_1 : decode cX5_open 1 = .ok (.iconst 0, 1) := by decide +kernel
theorem dX5_open_2 : decode cX5_open 2 = .ok (.iload_n 2, 1) := by decide +kernel
theorem dX5_open_3 : decode cX5_open 3 = .ok (.iadd, 1) := by decide +kernel
theorem dX5_open_4 : decode cX5_open 4 = .ok (.bipush 9, 2) := by decide +kernel
theorem dX5_open_6 : decode cX5_open 6 = .ok (.iastore, 1) := by decide +kernel
theorem dX5_open_7 : decode cX5_open 7 = .ok (.aload_n 1, 1) := by decide +kernel
theorem dX5_open_8 : decode cX5_open 8 = .ok (.iconst 5, 1) := by decide +kernel
theorem dX5_open_9 : decode cX5_open 9 = .ok (.iload_n 2, 1) := by decide +kernel
theorem dX5_open_10 : decode cX5_open 10 = .ok (.iadd, 1) := by decide +kernel
theorem dX5_open_11 : decode cX5_open 11 = .ok (.iconst 0, 1) := by decide +kernel
theorem dX5_open_12 : decode cX5_open 12 = .ok (.iastore, 1) := by decide +kernel
theorem dX5_open_13 : decode cX5_open 13 = .ok (.aload_n 1, 1) := by decide +kernel
theorem dX5_open_14 : decode cX5_open 14 = .ok (.bipush 15, 2) := by decide +kernel
theorem dX5_open_16 : decode cX5_open 16 = .ok (.dup2, 1) := by decide +kernel
theorem dX5_open_17 : decode cX5_open 17 = .ok (.iaload, 1) := by decide +kernel
theorem dX5_open_18 : decode cX5_open 18 = .ok (.iconst 1, 1) := by decide +kernel
theorem dX5_open_19 : decode cX5_open 19 = .ok (.iload_n 2, 1) := by decide +kernel
theorem dX5_open_20 : decode cX5_open 20 = .ok (.ishl, 1) := by decide +kernel
theorem dX5_open_21 : decode cX5_open 21 = .ok (.ior, 1) := by decide +kernel
theorem dX5_open_22 : decode cX5_open 22 = .ok (.iastore, 1) := by decide +kernel
theorem dX5_open_23 : decode cX5_open 23 = .ok (.return_, 1) := by decide +kernel
theorem dX5_close_0 : decode cX5_close 0 = .ok (.aload_n 1, 1) := by decide +kernel
theorem dX5_close_1 : decode cX5_close 1 = .ok (.bipush 10, 2) := by decide +kernel
theorem dX5_close_3 : decode cX5_close 3 = .ok (.iload_n 2, 1) := by decide +kernel
theorem dX5_close_4 : decode cX5_close 4 = .ok (.iadd, 1) := by decide +kernel
theorem dX5_close_5 : decode cX5_close 5 = .ok (.dup2, 1) := by decide +kernel
theorem dX5_close_6 : decode cX5_close 6 = .ok (.iaload, 1) := by decide +kernel
theorem dX5_close_7 : decode cX5_close 7 = .ok (.iconst 1, 1) := by decide +kernel
theorem dX5_close_8 : decode cX5_close 8 = .ok (.iload_n 3, 1) := by decide +kernel
theorem dX5_close_9 : decode cX5_close 9 = .ok (.ishl, 1) := by decide +kernel
theorem dX5_close_10 : decode cX5_close 10 = .ok (.ior, 1) := by decide +kernel
theorem dX5_close_11 : decode cX5_close 11 = .ok (.iastore, 1) := by decide +kernel
theorem dX5_close_12 : decode cX5_close 12 = .ok (.aload_n 1, 1) := by decide +kernel
theorem dX5_close_13 : decode cX5_close 13 = .ok (.bipush 10, 2) := by decide +kernel
theorem dX5_close_15 : decode cX5_close 15 = .ok (.iload_n 3, 1) := by decide +kernel
theorem dX5_close_16 : decode cX5_close 16 = .ok (.iadd, 1) := by decide +kernel
theorem dX5_close_17 : decode cX5_close 17 = .ok (.dup2, 1) := by decide +kernel
theorem dX5_close_18 : decode cX5_close 18 = .ok (.iaload, 1) := by decide +kernel
theorem dX5_close_19 : decode cX5_close 19 = .ok (.iconst 1, 1) := by decide +kernel
theorem dX5_close_20 : decode cX5_close 20 = .ok (.iload_n 2, 1) := by decide +kernel
theorem dX5_close_21 : decode cX5_close 21 = .ok (.ishl, 1) := by decide +kernel
theorem dX5_close_22 : decode cX5_close 22 = .ok (.ior, 1) := by decide +kernel
theorem dX5_close_23 : decode cX5_close 23 = .ok (.iastore, 1) := by decide +kernel
theorem dX5_close_24 : decode cX5_close 24 = .ok (.aload_n 1, 1) := by decide +kernel
theorem dX5_close_25 : decode cX5_close 25 = .ok (.bipush 16, 2) := by decide +kernel
theorem dX5_close_27 : decode cX5_close 27 = .ok (.iconst 5, 1) := by decide +kernel
theorem dX5_close_28 : decode cX5_close 28 = .ok (.iload_n 3, 1) := by decide +kernel
theorem dX5_close_29 : decode cX5_close 29 = .ok (.imul, 1) := by decide +kernel
theorem dX5_close_30 : decode cX5_close 30 = .ok (.iadd, 1) := by decide +kernel
theorem dX5_close_31 : decode cX5_close 31 = .ok (.iload_n 2, 1) := by decide +kernel
theorem dX5_close_32 : decode cX5_close 32 = .ok (.iadd, 1) := by decide +kernel
theorem dX5_close_33 : decode cX5_close 33 = .ok (.dup2, 1) := by decide +kernel
theorem dX5_close_34 : decode cX5_close 34 = .ok (.iaload, 1) := by decide +kernel
theorem dX5_close_35 : decode cX5_close 35 = .ok (.iconst 1, 1) := by decide +kernel
theorem dX5_close_36 : decode cX5_close 36 = .ok (.iadd, 1) := by decide +kernel
theorem dX5_close_37 : decode cX5_close 37 = .ok (.iastore, 1) := by decide +kernel
theorem dX5_close_38 : decode cX5_close 38 = .ok (.aload_n 1, 1) := by decide +kernel
theorem dX5_close_39 : decode cX5_close 39 = .ok (.bipush 15, 2) := by decide +kernel
theorem dX5_close_41 : decode cX5_close 41 = .ok (.dup2, 1) := by decide +kernel
theorem dX5_close_42 : decode cX5_close 42 = .ok (.iaload, 1) := by decide +kernel
theorem dX5_close_43 : decode cX5_close 43 = .ok (.iconst 1, 1) := by decide +kernel
theorem dX5_close_44 : decode cX5_close 44 = .ok (.iload_n 3, 1) := by decide +kernel
theorem dX5_close_45 : decode cX5_close 45 = .ok (.ishl, 1) := by decide +kernel
theorem dX5_close_46 : decode cX5_close 46 = .ok (.iconst (-1), 1) := by decide +kernel
theorem dX5_close_47 : decode cX5_close 47 = .ok (.ixor, 1) := by decide +kernel
theorem dX5_close_48 : decode cX5_close 48 = .ok (.iand, 1) := by decide +kernel
theorem dX5_close_49 : decode cX5_close 49 = .ok (.iastore, 1) := by decide +kernel
theorem dX5_close_50 : decode cX5_close 50 = .ok (.return_, 1) := by decide +kernel
theorem dX5_goWeep_0 : decode cX5_goWeep 0 = .ok (.aload_n 0, 1) := by decide +kernel
theorem dX5_goWeep_1 : decode cX5_goWeep 1 = .ok (.aload_n 1, 1) := by decide +kernel
theorem dX5_goWeep_2 : decode cX5_goWeep 2 = .ok (.iload_n 2, 1) := by decide +kernel
theorem dX5_goWeep_3 : decode cX5_goWeep 3 = .ok (.invokevirtual 97, 3) := by decide +kernel
theorem dX5_goWeep_6 : decode cX5_goWeep 6 = .ok (.istore 4, 2) := by decide +kernel
theorem dX5_goWeep_8 : decode cX5_goWeep 8 = .ok (.aload_n 1, 1) := by decide +kernel
theorem dX5_goWeep_9 : decode cX5_goWeep 9 = .ok (.iconst 0, 1) := by decide +kernel
theorem dX5_goWeep_10 : decode cX5_goWeep 10 = .ok (.iload_n 2, 1) := by decide +kernel
theorem dX5_goWeep_11 : decode cX5_goWeep 11 = .ok (.iadd, 1) := by decide +kernel
theorem dX5_goWeep_12 : decode cX5_goWeep 12 = .ok (.dup2, 1) := by decide +kernel
theorem dX5_goWeep_13 : decode cX5_goWeep 13 = .ok (.iaload, 1) := by decide +kernel
theorem dX5_goWeep_14 : decode cX5_goWeep 14 = .ok (.iload 4, 2) := by decide +kernel
theorem dX5_goWeep_16 : decode cX5_goWeep 16 = .ok (.isub, 1) := by decide +kernel
theorem dX5_goWeep_17 : decode cX5_goWeep 17 = .ok (.iastore, 1) := by decide +kernel
theorem dX5_goWeep_18 : decode cX5_goWeep 18 = .ok (.aload_n 0, 1) := by decide +kernel
theorem dX5_goWeep_19 : decode cX5_goWeep 19 = .ok (.aload_n 1, 1) := by decide +kernel
theorem dX5_goWeep_20 : decode cX5_goWeep 20 = .ok (.iload_n 2, 1) := by decide +kernel
theorem dX5_goWeep_21 : decode cX5_goWeep 21 = .ok (.iload_n 3, 1) := by decide +kernel
theorem dX5_goWeep_22 : decode cX5_goWeep 22 = .ok (.invokevirtual 101, 3) := by decide +kernel
theorem dX5_goWeep_25 : decode cX5_goWeep 25 = .ok (.iload 4, 2) := by decide +kernel
theorem dX5_goWeep_27 : decode cX5_goWeep 27 = .ok (.ireturn, 1) := by decide +kernel
theorem dX5_goWeek_0 : decode cX5_goWeek 0 = .ok (.iconst 0, 1) := by decide +kernel
theorem dX5_goWeek_1 : decode cX5_goWeek 1 = .ok (.istore_n 2, 1) := by decide +kernel
theorem dX5_goWeek_2 : decode cX5_goWeek 2 = .ok (.iload_n 2, 1) := by decide +kernel
theorem dX5_goWeek_3 : decode cX5_goWeek 3 = .ok (.aload_n 0, 1) := by decide +kernel
theorem dX5_goWeek_4 : decode cX5_goWeek 4 = .ok (.getfield 45, 3) := by decide +kernel
theorem dX5_goWeek_7 : decode cX5_goWeek 7 = .ok (.if_icmp .ge 62, 3) := by decide +kernel
theorem dX5_goWeek_10 : decode cX5_goWeek 10 = .ok (.aload_n 1, 1) := by decide +kernel
theorem dX5_goWeek_11 : decode cX5_goWeek 11 = .ok (.iconst 5, 1) := by decide +kernel
theorem dX5_goWeek_12 : decode cX5_goWeek 12 = .ok (.iload_n 2, 1) := by decide +kernel
theorem dX5_goWeek_13 : decode cX5_goWeek 13 = .ok (.iadd, 1) := by decide +kernel
theorem dX5_goWeek_14 : decode cX5_goWeek 14 = .ok (.dup2, 1) := by decide +kernel
theorem dX5_goWeek_15 : decode cX5_goWeek 15 = .ok (.iaload, 1) := by decide +kernel
theorem dX5_goWeek_16 : decode cX5_goWeek 16 = .ok (.aload_n 1, 1) := by decide +kernel
theorem dX5_goWeek_17 : decode cX5_goWeek 17 = .ok (.iconst 5, 1) := by decide +kernel
theorem dX5_goWeek_18 : decode cX5_goWeek 18 = .ok (.iload_n 2, 1) := by decide +kernel
theorem dX5_goWeek_19 : decode cX5_goWeek 19 = .ok (.iadd, 1) := by decide +kernel
theorem dX5_goWeek_20 : decode cX5_goWeek 20 = .ok (.iaload, 1) := by decide +kernel
theorem dX5_goWeek_21 : decode cX5_goWeek 21 = .ok (.bipush 99, 2) := by decide +kernel
theorem dX5_goWeek_23 : decode cX5_goWeek 23 = .ok (.if_icmp .ge 7, 3) := by decide +kernel
theorem dX5_goWeek_26 : decode cX5_goWeek 26 = .ok (.iconst 1, 1) := by decide +kernel
theorem dX5_goWeek_27 : decode cX5_goWeek 27 = .ok (.goto 4, 3) := by decide +kernel
theorem dX5_goWeek_30 : decode cX5_goWeek 30 = .ok (.iconst 0, 1) := by decide +kernel
theorem dX5_goWeek_31 : decode cX5_goWeek 31 = .ok (.iadd, 1) := by decide +kernel
theorem dX5_goWeek_32 : decode cX5_goWeek 32 = .ok (.iastore, 1) := by decide +kernel
theorem dX5_goWeek_33 : decode cX5_goWeek 33 = .ok (.aload_n 1, 1) := by decide +kernel
theorem dX5_goWeek_34 : decode cX5_goWeek 34 = .ok (.iconst 0, 1) := by decide +kernel
theorem dX5_goWeek_35 : decode cX5_goWeek 35 = .ok (.iload_n 2, 1) := by decide +kernel
theorem dX5_goWeek_36 : decode cX5_goWeek 36 = .ok (.iadd, 1) := by decide +kernel
theorem dX5_goWeek_37 : decode cX5_goWeek 37 = .ok (.dup2, 1) := by decide +kernel
theorem dX5_goWeek_38 : decode cX5_goWeek 38 = .ok (.iaload, 1) := by decide +kernel
theorem dX5_goWeek_39 : decode cX5_goWeek 39 = .ok (.aload_n 1, 1) := by decide +kernel
theorem dX5_goWeek_40 : decode cX5_goWeek 40 = .ok (.iconst 5, 1) := by decide +kernel
theorem dX5_goWeek_41 : decode cX5_goWeek 41 = .ok (.iload_n 2, 1) := by decide +kernel
theorem dX5_goWeek_42 : decode cX5_goWeek 42 = .ok (.iadd, 1) := by decide +kernel
theorem dX5_goWeek_43 : decode cX5_goWeek 43 = .ok (.iaload, 1) := by decide +kernel
theorem dX5_goWeek_44 : decode cX5_goWeek 44 = .ok (.iconst 3, 1) := by decide +kernel
theorem dX5_goWeek_45 : decode cX5_goWeek 45 = .ok (.if_icmp .lt 15, 3) := by decide +kernel
theorem dX5_goWeek_48 : decode cX5_goWeek 48 = .ok (.aload_n 1, 1) := by decide +kernel
theorem dX5_goWeek_49 : decode cX5_goWeek 49 = .ok (.iconst 0, 1) := by decide +kernel
theorem dX5_goWeek_50 : decode cX5_goWeek 50 = .ok (.iload_n 2, 1) := by decide +kernel
theorem dX5_goWeek_51 : decode cX5_goWeek 51 = .ok (.iadd, 1) := by decide +kernel
theorem dX5_goWeek_52 : decode cX5_goWeek 52 = .ok (.iaload, 1) := by decide +kernel
theorem dX5_goWeek_53 : decode cX5_goWeek 53 = .ok (.ifCond .le 7, 3) := by decide +kernel
theorem dX5_goWeek_56 : decode cX5_goWeek 56 = .ok (.iconst 1, 1) := by decide +kernel
theorem dX5_goWeek_57 : decode cX5_goWeek 57 = .ok (.goto 4, 3) := by decide +kernel
theorem dX5_goWeek_60 : decode cX5_goWeek 60 = .ok (.iconst 0, 1) := by decide +kernel
theorem dX5_goWeek_61 : decode cX5_goWeek 61 = .ok (.isub, 1) := by decide +kernel
theorem dX5_goWeek_62 : decode cX5_goWeek 62 = .ok (.iastore, 1) := by decide +kernel
theorem dX5_goWeek_63 : decode cX5_goWeek 63 = .ok (.iinc 2 1, 3) := by decide +kernel
theorem dX5_goWeek_66 : decode cX5_goWeek 66 = .ok (.goto (-64), 3) := by decide +kernel
theorem dX5_goWeek_69 : decode cX5_goWeek 69 = .ok (.aload_n 1, 1) := by decide +kernel
theorem dX5_goWeek_70 : decode cX5_goWeek 70 = .ok (.bipush 42, 2) := by decide +kernel
theorem dX5_goWeek_72 : decode cX5_goWeek 72 = .ok (.dup2, 1) := by decide +kernel
theorem dX5_goWeek_73 : decode cX5_goWeek 73 = .ok (.iaload, 1) := by decide +kernel
theorem dX5_goWeek_74 : decode cX5_goWeek 74 = .ok (.iconst 1, 1) := by decide +kernel
theorem dX5_goWeek_75 : decode cX5_goWeek 75 = .ok (.iadd, 1) := by decide +kernel
theorem dX5_goWeek_76 : decode cX5_goWeek 76 = .ok (.iastore, 1) := by decide +kernel
theorem dX5_goWeek_77 : decode cX5_goWeek 77 = .ok (.return_, 1) := by decide +kernel
theorem dX5_about_0 : decode cX5_about 0 = .ok (.aload_n 0, 1) := by decide +kernel
theorem dX5_about_1 : decode cX5_about 1 = .ok (.iconst 0, 1) := by decide +kernel
theorem dX5_about_2 : decode cX5_about 2 = .ok (.putfield 41, 3) := by decide +kernel
theorem dX5_about_5 : decode cX5_about 5 = .ok (.iconst 0, 1) := by decide +kernel
theorem dX5_about_6 : decode cX5_about 6 = .ok (.istore_n 2, 1) := by decide +kernel
theorem dX5_about_7 : decode cX5_about 7 = .ok (.iconst 0, 1) := by decide +kernel
theorem dX5_about_8 : decode cX5_about 8 = .ok (.istore_n 3, 1) := by decide +kernel
theorem dX5_about_9 : decode cX5_about 9 = .ok (.iload_n 3, 1) := by decide +kernel
theorem dX5_about_10 : decode cX5_about 10 = .ok (.aload_n 0, 1) := by decide +kernel
theorem dX5_about_11 : decode cX5_about 11 = .ok (.getfield 45, 3) := by decide +kernel
theorem dX5_about_14 : decode cX5_about 14 = .ok (.if_icmp .ge 20, 3) := by decide +kernel
theorem dX5_about_17 : decode cX5_about 17 = .ok (.iload_n 2, 1) := by decide +kernel
theorem dX5_about_18 : decode cX5_about 18 = .ok (.aload_n 0, 1) := by decide +kernel
theorem dX5_about_19 : decode cX5_about 19 = .ok (.getfield 22, 3) := by decide +kernel
theorem dX5_about_22 : decode cX5_about 22 = .ok (.iconst 0, 1) := by decide +kernel
theorem dX5_about_23 : decode cX5_about 23 = .ok (.iload_n 3, 1) := by decide +kernel
theorem dX5_about_24 : decode cX5_about 24 = .ok (.iadd, 1) := by decide +kernel
theorem dX5_about_25 : decode cX5_about 25 = .ok (.iaload, 1) := by decide +kernel
theorem dX5_about_26 : decode cX5_about 26 = .ok (.iadd, 1) := by decide +kernel
theorem dX5_about_27 : decode cX5_about 27 = .ok (.istore_n 2, 1) := by decide +kernel
theorem dX5_about_28 : decode cX5_about 28 = .ok (.iinc 3 1, 3) := by decide +kernel
theorem dX5_about_31 : decode cX5_about 31 = .ok (.goto (-22), 3) := by decide +kernel
theorem dX5_about_34 : decode cX5_about 34 = .ok (.iload_n 1, 1) := by decide +kernel
theorem dX5_about_35 : decode cX5_about 35 = .ok (.tableswitch 82 0 6 #[41, 46, 54, 62, 70, 75, 80], 41) := by decide +kernel
theorem dX5_about_76 : decode cX5_about 76 = .ok (.aload_n 0, 1) := by decide +kernel
theorem dX5_about_77 : decode cX5_about 77 = .ok (.getfield 45, 3) := by decide +kernel
theorem dX5_about_80 : decode cX5_about 80 = .ok (.ireturn, 1) := by decide +kernel
theorem dX5_about_81 : decode cX5_about 81 = .ok (.aload_n 0, 1) := by decide +kernel
theorem dX5_about_82 : decode cX5_about 82 = .ok (.getfield 22, 3) := by decide +kernel
theorem dX5_about_85 : decode cX5_about 85 = .ok (.bipush 15, 2) := by decide +kernel
theorem dX5_about_87 : decode cX5_about 87 = .ok (.iaload, 1) := by decide +kernel
theorem dX5_about_88 : decode cX5_about 88 = .ok (.ireturn, 1) := by decide +kernel
theorem dX5_about_89 : decode cX5_about 89 = .ok (.aload_n 0, 1) := by decide +kernel
theorem dX5_about_90 : decode cX5_about 90 = .ok (.getfield 22, 3) := by decide +kernel
theorem dX5_about_93 : decode cX5_about 93 = .ok (.bipush 42, 2) := by decide +kernel
theorem dX5_about_95 : decode cX5_about 95 = .ok (.iaload, 1) := by decide +kernel
theorem dX5_about_96 : decode cX5_about 96 = .ok (.ireturn, 1) := by decide +kernel
theorem dX5_about_97 : decode cX5_about 97 = .ok (.aload_n 0, 1) := by decide +kernel
theorem dX5_about_98 : decode cX5_about 98 = .ok (.getfield 22, 3) := by decide +kernel
theorem dX5_about_101 : decode cX5_about 101 = .ok (.bipush 41, 2) := by decide +kernel
theorem dX5_about_103 : decode cX5_about 103 = .ok (.iaload, 1) := by decide +kernel
theorem dX5_about_104 : decode cX5_about 104 = .ok (.ireturn, 1) := by decide +kernel
theorem dX5_about_105 : decode cX5_about 105 = .ok (.aload_n 0, 1) := by decide +kernel
theorem dX5_about_106 : decode cX5_about 106 = .ok (.getfield 90, 3) := by decide +kernel
theorem dX5_about_109 : decode cX5_about 109 = .ok (.ireturn, 1) := by decide +kernel
theorem dX5_about_110 : decode cX5_about 110 = .ok (.aload_n 0, 1) := by decide +kernel
theorem dX5_about_111 : decode cX5_about 111 = .ok (.getfield 54, 3) := by decide +kernel
theorem dX5_about_114 : decode cX5_about 114 = .ok (.ireturn, 1) := by decide +kernel
theorem dX5_about_115 : decode cX5_about 115 = .ok (.iload_n 2, 1) := by decide +kernel
theorem dX5_about_116 : decode cX5_about 116 = .ok (.ireturn, 1) := by decide +kernel
theorem dX5_about_117 : decode cX5_about 117 = .ok (.bipush (-2), 2) := by decide +kernel
theorem dX5_about_119 : decode cX5_about 119 = .ok (.ireturn, 1) := by decide +kernel
theorem dX5_mayFor_0 : decode cX5_mayFor 0 = .ok (.iconst 0, 1) := by decide +kernel
theorem dX5_mayFor_1 : decode cX5_mayFor 1 = .ok (.istore_n 2, 1) := by decide +kernel
theorem dX5_mayFor_2 : decode cX5_mayFor 2 = .ok (.iconst 0, 1) := by decide +kernel
theorem dX5_mayFor_3 : decode cX5_mayFor 3 = .ok (.istore_n 3, 1) := by decide +kernel
theorem dX5_mayFor_4 : decode cX5_mayFor 4 = .ok (.iload_n 3, 1) := by decide +kernel
theorem dX5_mayFor_5 : decode cX5_mayFor 5 = .ok (.aload_n 0, 1) := by decide +kernel
theorem dX5_mayFor_6 : decode cX5_mayFor 6 = .ok (.getfield 45, 3) := by decide +kernel
theorem dX5_mayFor_9 : decode cX5_mayFor 9 = .ok (.if_icmp .ge 32, 3) := by decide +kernel
theorem dX5_mayFor_12 : decode cX5_mayFor 12 = .ok (.iload_n 2, 1) := by decide +kernel
theorem dX5_mayFor_13 : decode cX5_mayFor 13 = .ok (.aload_n 0, 1) := by decide +kernel
theorem dX5_mayFor_14 : decode cX5_mayFor 14 = .ok (.aload_n 0, 1) := by decide +kernel
theorem dX5_mayFor_15 : decode cX5_mayFor 15 = .ok (.getfield 22, 3) := by decide +kernel
theorem dX5_mayFor_18 : decode cX5_mayFor 18 = .ok (.iload_n 1, 1) := by decide +kernel
theorem dX5_mayFor_19 : decode cX5_mayFor 19 = .ok (.iload_n 3, 1) := by decide +kernel
theorem dX5_mayFor_20 : decode cX5_mayFor 20 = .ok (.invokevirtual 105, 3) := by decide +kernel
theorem dX5_mayFor_23 : decode cX5_mayFor 23 = .ok (.ifCond .eq 9, 3) := by decide +kernel
theorem dX5_mayFor_26 : decode cX5_mayFor 26 = .ok (.iconst 1, 1) := by decide +kernel
theorem dX5_mayFor_27 : decode cX5_mayFor 27 = .ok (.iload_n 3, 1) := by decide +kernel
theorem dX5_mayFor_28 : decode cX5_mayFor 28 = .ok (.ishl, 1) := by decide +kernel
theorem dX5_mayFor_29 : decode cX5_mayFor 29 = .ok (.goto 4, 3) := by decide +kernel
theorem dX5_mayFor_32 : decode cX5_mayFor 32 = .ok (.iconst 0, 1) := by decide +kernel
theorem dX5_mayFor_33 : decode cX5_mayFor 33 = .ok (.ior, 1) := by decide +kernel
theorem dX5_mayFor_34 : decode cX5_mayFor 34 = .ok (.istore_n 2, 1) := by decide +kernel
theorem dX5_mayFor_35 : decode cX5_mayFor 35 = .ok (.iinc 3 1, 3) := by decide +kernel
theorem dX5_mayFor_38 : decode cX5_mayFor 38 = .ok (.goto (-34), 3) := by decide +kernel
theorem dX5_mayFor_41 : decode cX5_mayFor 41 = .ok (.iload_n 2, 1) := by decide +kernel
theorem dX5_mayFor_42 : decode cX5_mayFor 42 = .ok (.ireturn, 1) := by decide +kernel
theorem dX5_person_0 : decode cX5_person 0 = .ok (.aload_n 0, 1) := by decide +kernel
theorem dX5_person_1 : decode cX5_person 1 = .ok (.iconst 0, 1) := by decide +kernel
theorem dX5_person_2 : decode cX5_person 2 = .ok (.putfield 41, 3) := by decide +kernel
theorem dX5_person_5 : decode cX5_person 5 = .ok (.aload_n 0, 1) := by decide +kernel
theorem dX5_person_6 : decode cX5_person 6 = .ok (.iload_n 1, 1) := by decide +kernel
theorem dX5_person_7 : decode cX5_person 7 = .ok (.invokevirtual 108, 3) := by decide +kernel
theorem dX5_person_10 : decode cX5_person 10 = .ok (.ifCond .eq 5, 3) := by decide +kernel
theorem dX5_person_13 : decode cX5_person 13 = .ok (.iconst (-1), 1) := by decide +kernel
theorem dX5_person_14 : decode cX5_person 14 = .ok (.ireturn, 1) := by decide +kernel
theorem dX5_person_15 : decode cX5_person 15 = .ok (.iload_n 2, 1) := by decide +kernel
theorem dX5_person_16 : decode cX5_person 16 = .ok (.tableswitch 91 0 5 #[40, 49, 58, 65, 75, 85], 40) := by decide +kernel
theorem dX5_person_56 : decode cX5_person 56 = .ok (.aload_n 0, 1) := by decide +kernel
theorem dX5_person_57 : decode cX5_person 57 = .ok (.getfield 22, 3) := by decide +kernel
theorem dX5_person_60 : decode cX5_person 60 = .ok (.iconst 0, 1) := by decide +kernel
theorem dX5_person_61 : decode cX5_person 61 = .ok (.iload_n 1, 1) := by decide +kernel
theorem dX5_person_62 : decode cX5_person 62 = .ok (.iadd, 1) := by decide +kernel
theorem dX5_person_63 : decode cX5_person 63 = .ok (.iaload, 1) := by decide +kernel
theorem dX5_person_64 : decode cX5_person 64 = .ok (.ireturn, 1) := by decide +kernel
theorem dX5_person_65 : decode cX5_person 65 = .ok (.aload_n 0, 1) := by decide +kernel
theorem dX5_person_66 : decode cX5_person 66 = .ok (.getfield 22, 3) := by decide +kernel
theorem dX5_person_69 : decode cX5_person 69 = .ok (.iconst 5, 1) := by decide +kernel
theorem dX5_person_70 : decode cX5_person 70 = .ok (.iload_n 1, 1) := by decide +kernel
theorem dX5_person_71 : decode cX5_person 71 = .ok (.iadd, 1) := by decide +kernel
theorem dX5_person_72 : decode cX5_person 72 = .ok (.iaload, 1) := by decide +kernel
theorem dX5_person_73 : decode cX5_person 73 = .ok (.ireturn, 1) := by decide +kernel
theorem dX5_person_74 : decode cX5_person 74 = .ok (.aload_n 0, 1) := by decide +kernel
theorem dX5_person_75 : decode cX5_person 75 = .ok (.getfield 13, 3) := by decide +kernel
theorem dX5_person_78 : decode cX5_person 78 = .ok (.iload_n 1, 1) := by decide +kernel
theorem dX5_person_79 : decode cX5_person 79 = .ok (.iaload, 1) := by decide +kernel
theorem dX5_person_80 : decode cX5_person 80 = .ok (.ireturn, 1) := by decide +kernel
theorem dX5_person_81 : decode cX5_person 81 = .ok (.aload_n 0, 1) := by decide +kernel
theorem dX5_person_82 : decode cX5_person 82 = .ok (.getfield 22, 3) := by decide +kernel
theorem dX5_person_85 : decode cX5_person 85 = .ok (.bipush 10, 2) := by decide +kernel
theorem dX5_person_87 : decode cX5_person 87 = .ok (.iload_n 1, 1) := by decide +kernel
theorem dX5_person_88 : decode cX5_person 88 = .ok (.iadd, 1) := by decide +kernel
theorem dX5_person_89 : decode cX5_person 89 = .ok (.iaload, 1) := by decide +kernel
theorem dX5_person_90 : decode cX5_person 90 = .ok (.ireturn, 1) := by decide +kernel
theorem dX5_person_91 : decode cX5_person 91 = .ok (.aload_n 0, 1) := by decide +kernel
theorem dX5_person_92 : decode cX5_person 92 = .ok (.aload_n 0, 1) := by decide +kernel
theorem dX5_person_93 : decode cX5_person 93 = .ok (.getfield 22, 3) := by decide +kernel
theorem dX5_person_96 : decode cX5_person 96 = .ok (.iload_n 1, 1) := by decide +kernel
theorem dX5_person_97 : decode cX5_person 97 = .ok (.invokevirtual 97, 3) := by decide +kernel
theorem dX5_person_100 : decode cX5_person 100 = .ok (.ireturn, 1) := by decide +kernel
theorem dX5_person_101 : decode cX5_person 101 = .ok (.aload_n 0, 1) := by decide +kernel
theorem dX5_person_102 : decode cX5_person 102 = .ok (.iload_n 1, 1) := by decide +kernel
theorem dX5_person_103 : decode cX5_person 103 = .ok (.invokevirtual 112, 3) := by decide +kernel
theorem dX5_person_106 : decode cX5_person 106 = .ok (.ireturn, 1) := by decide +kernel
theorem dX5_person_107 : decode cX5_person 107 = .ok (.bipush (-2), 2) := by decide +kernel
theorem dX5_person_109 : decode cX5_person 109 = .ok (.ireturn, 1) := by decide +kernel
theorem dX5_owes_0 : decode cX5_owes 0 = .ok (.aload_n 0, 1) := by decide +kernel
theorem dX5_owes_1 : decode cX5_owes 1 = .ok (.iconst 0, 1) := by decide +kernel
theorem dX5_owes_2 : decode cX5_owes 2 = .ok (.putfield 41, 3) := by decide +kernel
theorem dX5_owes_5 : decode cX5_owes 5 = .ok (.aload_n 0, 1) := by decide +kernel
theorem dX5_owes_6 : decode cX5_owes 6 = .ok (.iload_n 1, 1) := by decide +kernel
theorem dX5_owes_7 : decode cX5_owes 7 = .ok (.invokevirtual 108, 3) := by decide +kernel
theorem dX5_owes_10 : decode cX5_owes 10 = .ok (.ifCond .ne 11, 3) := by decide +kernel
theorem dX5_owes_13 : decode cX5_owes 13 = .ok (.aload_n 0, 1) := by decide +kernel
theorem dX5_owes_14 : decode cX5_owes 14 = .ok (.iload_n 2, 1) := by decide +kernel
theorem dX5_owes_15 : decode cX5_owes 15 = .ok (.invokevirtual 108, 3) := by decide +kernel
theorem dX5_owes_18 : decode cX5_owes 18 = .ok (.ifCond .eq 7, 3) := by decide +kernel
theorem dX5_owes_21 : decode cX5_owes 21 = .ok (.iconst (-1), 1) := by decide +kernel
theorem dX5_owes_22 : decode cX5_owes 22 = .ok (.goto 16, 3) := by decide +kernel
theorem dX5_owes_25 : decode cX5_owes 25 = .ok (.aload_n 0, 1) := by decide +kernel
theorem dX5_owes_26 : decode cX5_owes 26 = .ok (.getfield 22, 3) := by decide +kernel
theorem dX5_owes_29 : decode cX5_owes 29 = .ok (.bipush 16, 2) := by decide +kernel
theorem dX5_owes_31 : decode cX5_owes 31 = .ok (.iconst 5, 1) := by decide +kernel
theorem dX5_owes_32 : decode cX5_owes 32 = .ok (.iload_n 1, 1) := by decide +kernel
theorem dX5_owes_33 : decode cX5_owes 33 = .ok (.imul, 1) := by decide +kernel
theorem dX5_owes_34 : decode cX5_owes 34 = .ok (.iadd, 1) := by decide +kernel
theorem dX5_owes_35 : decode cX5_owes 35 = .ok (.iload_n 2, 1) := by decide +kernel
theorem dX5_owes_36 : decode cX5_owes 36 = .ok (.iadd, 1) := by decide +kernel
theorem dX5_owes_37 : decode cX5_owes 37 = .ok (.iaload, 1) := by decide +kernel
theorem dX5_owes_38 : decode cX5_owes 38 = .ok (.ireturn, 1) := by decide +kernel
theorem dX5_note_0 : decode cX5_note 0 = .ok (.aload_n 0, 1) := by decide +kernel
theorem dX5_note_1 : decode cX5_note 1 = .ok (.getfield 90, 3) := by decide +kernel
theorem dX5_note_4 : decode cX5_note 4 = .ok (.bipush 14, 2) := by decide +kernel
theorem dX5_note_6 : decode cX5_note 6 = .ok (.if_icmp .ne 43, 3) := by decide +kernel
theorem dX5_note_9 : decode cX5_note 9 = .ok (.iconst 0, 1) := by decide +kernel
theorem dX5_note_10 : decode cX5_note 10 = .ok (.istore_n 1, 1) := by decide +kernel
theorem dX5_note_11 : decode cX5_note 11 = .ok (.iload_n 1, 1) := by decide +kernel
theorem dX5_note_12 : decode cX5_note 12 = .ok (.sipush 559, 3) := by decide +kernel
theorem dX5_note_15 : decode cX5_note 15 = .ok (.if_icmp .ge 24, 3) := by decide +kernel
theorem dX5_note_18 : decode cX5_note 18 = .ok (.aload_n 0, 1) := by decide +kernel
theorem dX5_note_19 : decode cX5_note 19 = .ok (.getfield 28, 3) := by decide +kernel
theorem dX5_note_22 : decode cX5_note 22 = .ok (.iload_n 1, 1) := by decide +kernel
theorem dX5_note_23 : decode cX5_note 23 = .ok (.aload_n 0, 1) := by decide +kernel
theorem dX5_note_24 : decode cX5_note 24 = .ok (.getfield 28, 3) := by decide +kernel
theorem dX5_note_27 : decode cX5_note 27 = .ok (.iload_n 1, 1) := by decide +kernel
theorem dX5_note_28 : decode cX5_note 28 = .ok (.bipush 43, 2) := by decide +kernel
theorem dX5_note_30 : decode cX5_note 30 = .ok (.iadd, 1) := by decide +kernel
theorem dX5_note_31 : decode cX5_note 31 = .ok (.iaload, 1) := by decide +kernel
theorem dX5_note_32 : decode cX5_note 32 = .ok (.iastore, 1) := by decide +kernel
theorem dX5_note_33 : decode cX5_note 33 = .ok (.iinc 1 1, 3) := by decide +kernel
theorem dX5_note_36 : decode cX5_note 36 = .ok (.goto (-25), 3) := by decide +kernel
theorem dX5_note_39 : decode cX5_note 39 = .ok (.aload_n 0, 1) := by decide +kernel
theorem dX5_note_40 : decode cX5_note 40 = .ok (.dup, 1) := by decide +kernel
theorem dX5_note_41 : decode cX5_note 41 = .ok (.getfield 90, 3) := by decide +kernel
theorem dX5_note_44 : decode cX5_note 44 = .ok (.iconst 1, 1) := by decide +kernel
theorem dX5_note_45 : decode cX5_note 45 = .ok (.isub, 1) := by decide +kernel
theorem dX5_note_46 : decode cX5_note 46 = .ok (.putfield 90, 3) := by decide +kernel
theorem dX5_note_49 : decode cX5_note 49 = .ok (.iconst 0, 1) := by decide +kernel
theorem dX5_note_50 : decode cX5_note 50 = .ok (.istore_n 1, 1) := by decide +kernel
theorem dX5_note_51 : decode cX5_note 51 = .ok (.iload_n 1, 1) := by decide +kernel
theorem dX5_note_52 : decode cX5_note 52 = .ok (.bipush 43, 2) := by decide +kernel
theorem dX5_note_54 : decode cX5_note 54 = .ok (.if_icmp .ge 29, 3) := by decide +kernel
theorem dX5_note_57 : decode cX5_note 57 = .ok (.aload_n 0, 1) := by decide +kernel
theorem dX5_note_58 : decode cX5_note 58 = .ok (.getfield 28, 3) := by decide +kernel
theorem dX5_note_61 : decode cX5_note 61 = .ok (.bipush 43, 2) := by decide +kernel
theorem dX5_note_63 : decode cX5_note 63 = .ok (.aload_n 0, 1) := by decide +kernel
theorem dX5_note_64 : decode cX5_note 64 = .ok (.getfield 90, 3) := by decide +kernel
theorem dX5_note_67 : decode cX5_note 67 = .ok (.imul, 1) := by decide +kernel
theorem dX5_note_68 : decode cX5_note 68 = .ok (.iload_n 1, 1) := by decide +kernel
theorem dX5_note_69 : decode cX5_note 69 = .ok (.iadd, 1) := by decide +kernel
theorem dX5_note_70 : decode cX5_note 70 = .ok (.aload_n 0, 1) := by decide +kernel
theorem dX5_note_71 : decode cX5_note 71 = .ok (.getfield 22, 3) := by decide +kernel
theorem dX5_note_74 : decode cX5_note 74 = .ok (.iload_n 1, 1) := by decide +kernel
theorem dX5_note_75 : decode cX5_note 75 = .ok (.iaload, 1) := by decide +kernel
theorem dX5_note_76 : decode cX5_note 76 = .ok (.iastore, 1) := by decide +kernel
theorem dX5_note_77 : decode cX5_note 77 = .ok (.iinc 1 1, 3) := by decide +kernel
theorem dX5_note_80 : decode cX5_note 80 = .ok (.goto (-29), 3) := by decide +kernel
theorem dX5_note_83 : decode cX5_note 83 = .ok (.aload_n 0, 1) := by decide +kernel
theorem dX5_note_84 : decode cX5_note 84 = .ok (.dup, 1) := by decide +kernel
theorem dX5_note_85 : decode cX5_note 85 = .ok (.getfield 90, 3) := by decide +kernel
