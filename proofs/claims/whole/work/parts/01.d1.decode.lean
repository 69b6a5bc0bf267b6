theorem dX3_give_117 : decode cX3_give 117 = .ok (.iload 4, 2) := by decide +kernel
theorem dX3_give_119 : decode cX3_give 119 = .ok (.iconst 1, 1) := by decide +kernel
theorem dX3_give_120 : decode cX3_give 120 = .ok (.iadd, 1) := by decide +kernel
theorem dX3_give_121 : decode cX3_give 121 = .ok (.iload 9, 2) := by decide +kernel
theorem dX3_give_123 : decode cX3_give 123 = .ok (.iload 6, 2) := by decide +kernel
theorem dX3_give_125 : decode cX3_give 125 = .ok (.bipush 10, 2) := by decide +kernel
theorem dX3_give_127 : decode cX3_give 127 = .ok (.imul, 1) := by decide +kernel
theorem dX3_give_128 : decode cX3_give 128 = .ok (.iload 7, 2) := by decide +kernel
theorem dX3_give_130 : decode cX3_give 130 = .ok (.iadd, 1) := by decide +kernel
theorem dX3_give_131 : decode cX3_give 131 = .ok (.iconst 1, 1) := by decide +kernel
theorem dX3_give_132 : decode cX3_give 132 = .ok (.iadd, 1) := by decide +kernel
theorem dX3_give_133 : decode cX3_give 133 = .ok (.invokestatic 24, 3) := by decide +kernel
theorem dX3_give_136 : decode cX3_give 136 = .ok (.iinc 7 1, 3) := by decide +kernel
theorem dX3_give_139 : decode cX3_give 139 = .ok (.goto (-75), 3) := by decide +kernel
theorem dX3_give_142 : decode cX3_give 142 = .ok (.return_, 1) := by decide +kernel
theorem dX3_compare_0 : decode cX3_compare 0 = .ok (.iload_n 1, 1) := by decide +kernel
theorem dX3_compare_1 : decode cX3_compare 1 = .ok (.aload_n 0, 1) := by decide +kernel
theorem dX3_compare_2 : decode cX3_compare 2 = .ok (.getfield 15, 3) := by decide +kernel
theorem dX3_compare_5 : decode cX3_compare 5 = .ok (.if_icmp .gt 19, 3) := by decide +kernel
theorem dX3_compare_8 : decode cX3_compare 8 = .ok (.iload_n 1, 1) := by decide +kernel
theorem dX3_compare_9 : decode cX3_compare 9 = .ok (.aload_n 0, 1) := by decide +kernel
theorem dX3_compare_10 : decode cX3_compare 10 = .ok (.getfield 15, 3) := by decide +kernel
theorem dX3_compare_13 : decode cX3_compare 13 = .ok (.if_icmp .ne 26, 3) := by decide +kernel
theorem dX3_compare_16 : decode cX3_compare 16 = .ok (.iload_n 2, 1) := by decide +kernel
theorem dX3_compare_17 : decode cX3_compare 17 = .ok (.aload_n 0, 1) := by decide +kernel
theorem dX3_compare_18 : decode cX3_compare 18 = .ok (.getfield 18, 3) := by decide +kernel
theorem dX3_compare_21 : decode cX3_compare 21 = .ok (.if_icmp .ge 18, 3) := by decide +kernel
theorem dX3_compare_24 : decode cX3_compare 24 = .ok (.aload_n 0, 1) := by decide +kernel
theorem dX3_compare_25 : decode cX3_compare 25 = .ok (.iload_n 1, 1) := by decide +kernel
theorem dX3_compare_26 : decode cX3_compare 26 = .ok (.putfield 15, 3) := by decide +kernel
theorem dX3_compare_29 : decode cX3_compare 29 = .ok (.aload_n 0, 1) := by decide +kernel
theorem dX3_compare_30 : decode cX3_compare 30 = .ok (.iload_n 2, 1) := by decide +kernel
theorem dX3_compare_31 : decode cX3_compare 31 = .ok (.putfield 18, 3) := by decide +kernel
theorem dX3_compare_34 : decode cX3_compare 34 = .ok (.aload_n 0, 1) := by decide +kernel
theorem dX3_compare_35 : decode cX3_compare 35 = .ok (.iload_n 3, 1) := by decide +kernel
theorem dX3_compare_36 : decode cX3_compare 36 = .ok (.putfield 21, 3) := by decide +kernel
theorem dX3_compare_39 : decode cX3_compare 39 = .ok (.return_, 1) := by decide +kernel
theorem dX4_init_0 : decode cX4_init 0 = .ok (.aload_n 0, 1) := by decide +kernel
theorem dX4_init_1 : decode cX4_init 1 = .ok (.invokespecial 1, 3) := by decide +kernel
theorem dX4_init_4 : decode cX4_init 4 = .ok (.aload_n 0, 1) := by decide +kernel
theorem dX4_init_5 : decode cX4_init 5 = .ok (.new 7, 3) := by decide +kernel
theorem dX4_init_8 : decode cX4_init 8 = .ok (.dup, 1) := by decide +kernel
theorem dX4_init_9 : decode cX4_init 9 = .ok (.invokespecial 9, 3) := by decide +kernel
theorem dX4_init_12 : decode cX4_init 12 = .ok (.putfield 10, 3) := by decide +kernel
theorem dX4_init_15 : decode cX4_init 15 = .ok (.aload_n 0, 1) := by decide +kernel
theorem dX4_init_16 : decode cX4_init 16 = .ok (.new 16, 3) := by decide +kernel
theorem dX4_init_19 : decode cX4_init 19 = .ok (.dup, 1) := by decide +kernel
theorem dX4_init_20 : decode cX4_init 20 = .ok (.invokespecial 18, 3) := by decide +kernel
theorem dX4_init_23 : decode cX4_init 23 = .ok (.putfield 19, 3) := by decide +kernel
theorem dX4_init_26 : decode cX4_init 26 = .ok (.aload_n 0, 1) := by decide +kernel
theorem dX4_init_27 : decode cX4_init 27 = .ok (.new 16, 3) := by decide +kernel
theorem dX4_init_30 : decode cX4_init 30 = .ok (.dup, 1) := by decide +kernel
theorem dX4_init_31 : decode cX4_init 31 = .ok (.invokespecial 18, 3) := by decide +kernel
theorem dX4_init_34 : decode cX4_init 34 = .ok (.putfield 23, 3) := by decide +kernel
theorem dX4_init_37 : decode cX4_init 37 = .ok (.aload_n 0, 1) := by decide +kernel
theorem dX4_init_38 : decode cX4_init 38 = .ok (.new 26, 3) := by decide +kernel
theorem dX4_init_41 : decode cX4_init 41 = .ok (.dup, 1) := by decide +kernel
theorem dX4_init_42 : decode cX4_init 42 = .ok (.invokespecial 28, 3) := by decide +kernel
theorem dX4_init_45 : decode cX4_init 45 = .ok (.putfield 29, 3) := by decide +kernel
theorem dX4_init_48 : decode cX4_init 48 = .ok (.aload_n 0, 1) := by decide +kernel
theorem dX4_init_49 : decode cX4_init 49 = .ok (.iconst 2, 1) := by decide +kernel
theorem dX4_init_50 : decode cX4_init 50 = .ok (.anewarray 16, 3) := by decide +kernel
theorem dX4_init_53 : decode cX4_init 53 = .ok (.putfield 33, 3) := by decide +kernel
theorem dX4_init_56 : decode cX4_init 56 = .ok (.aload_n 0, 1) := by decide +kernel
theorem dX4_init_57 : decode cX4_init 57 = .ok (.iconst 2, 1) := by decide +kernel
theorem dX4_init_58 : decode cX4_init 58 = .ok (.newarray .boolean, 2) := by decide +kernel
theorem dX4_init_60 : decode cX4_init 60 = .ok (.putfield 37, 3) := by decide +kernel
theorem dX4_init_63 : decode cX4_init 63 = .ok (.iconst 0, 1) := by decide +kernel
theorem dX4_init_64 : decode cX4_init 64 = .ok (.istore_n 1, 1) := by decide +kernel
theorem dX4_init_65 : decode cX4_init 65 = .ok (.iload_n 1, 1) := by decide +kernel
theorem dX4_init_66 : decode cX4_init 66 = .ok (.iconst 2, 1) := by decide +kernel
theorem dX4_init_67 : decode cX4_init 67 = .ok (.if_icmp .ge 22, 3) := by decide +kernel
theorem dX4_init_70 : decode cX4_init 70 = .ok (.aload_n 0, 1) := by decide +kernel
theorem dX4_init_71 : decode cX4_init 71 = .ok (.getfield 33, 3) := by decide +kernel
theorem dX4_init_74 : decode cX4_init 74 = .ok (.iload_n 1, 1) := by decide +kernel
theorem dX4_init_75 : decode cX4_init 75 = .ok (.new 16, 3) := by decide +kernel
theorem dX4_init_78 : decode cX4_init 78 = .ok (.dup, 1) := by decide +kernel
theorem dX4_init_79 : decode cX4_init 79 = .ok (.invokespecial 18, 3) := by decide +kernel
theorem dX4_init_82 : decode cX4_init 82 = .ok (.aastore, 1) := by decide +kernel
theorem dX4_init_83 : decode cX4_init 83 = .ok (.iinc 1 1, 3) := by decide +kernel
theorem dX4_init_86 : decode cX4_init 86 = .ok (.goto (-21), 3) := by decide +kernel
theorem dX4_init_89 : decode cX4_init 89 = .ok (.aload_n 0, 1) := by decide +kernel
theorem dX4_init_90 : decode cX4_init 90 = .ok (.new 41, 3) := by decide +kernel
theorem dX4_init_93 : decode cX4_init 93 = .ok (.dup, 1) := by decide +kernel
theorem dX4_init_94 : decode cX4_init 94 = .ok (.invokespecial 43, 3) := by decide +kernel
theorem dX4_init_97 : decode cX4_init 97 = .ok (.putfield 44, 3) := by decide +kernel
theorem dX4_init_100 : decode cX4_init 100 = .ok (.aload_n 0, 1) := by decide +kernel
theorem dX4_init_101 : decode cX4_init 101 = .ok (.lconst 0, 1) := by decide +kernel
theorem dX4_init_102 : decode cX4_init 102 = .ok (.putfield 48, 3) := by decide +kernel
theorem dX4_init_105 : decode cX4_init 105 = .ok (.return_, 1) := by decide +kernel
theorem dX4_write_0 : decode cX4_write 0 = .ok (.iload_n 1, 1) := by decide +kernel
theorem dX4_write_1 : decode cX4_write 1 = .ok (.ifCond .lt 10, 3) := by decide +kernel
theorem dX4_write_4 : decode cX4_write 4 = .ok (.iload_n 1, 1) := by decide +kernel
theorem dX4_write_5 : decode cX4_write 5 = .ok (.sipush 255, 3) := by decide +kernel
theorem dX4_write_8 : decode cX4_write 8 = .ok (.if_icmp .le 6, 3) := by decide +kernel
theorem dX4_write_11 : decode cX4_write 11 = .ok (.bipush (-2), 2) := by decide +kernel
theorem dX4_write_13 : decode cX4_write 13 = .ok (.ireturn, 1) := by decide +kernel
theorem dX4_write_14 : decode cX4_write 14 = .ok (.aload_n 0, 1) := by decide +kernel
theorem dX4_write_15 : decode cX4_write 15 = .ok (.getfield 10, 3) := by decide +kernel
theorem dX4_write_18 : decode cX4_write 18 = .ok (.iload_n 1, 1) := by decide +kernel
theorem dX4_write_19 : decode cX4_write 19 = .ok (.invokevirtual 52, 3) := by decide +kernel
theorem dX4_write_22 : decode cX4_write 22 = .ok (.ifCond .eq 13, 3) := by decide +kernel
theorem dX4_write_25 : decode cX4_write 25 = .ok (.aload_n 0, 1) := by decide +kernel
theorem dX4_write_26 : decode cX4_write 26 = .ok (.getfield 10, 3) := by decide +kernel
theorem dX4_write_29 : decode cX4_write 29 = .ok (.getfield 56, 3) := by decide +kernel
theorem dX4_write_32 : decode cX4_write 32 = .ok (.goto 5, 3) := by decide +kernel
theorem dX4_write_35 : decode cX4_write 35 = .ok (.bipush (-4), 2) := by decide +kernel
theorem dX4_write_37 : decode cX4_write 37 = .ok (.ireturn, 1) := by decide +kernel
theorem dX4_wipe_0 : decode cX4_wipe 0 = .ok (.aload_n 0, 1) := by decide +kernel
theorem dX4_wipe_1 : decode cX4_wipe 1 = .ok (.getfield 10, 3) := by decide +kernel
theorem dX4_wipe_4 : decode cX4_wipe 4 = .ok (.getfield 56, 3) := by decide +kernel
theorem dX4_wipe_7 : decode cX4_wipe 7 = .ok (.istore_n 1, 1) := by decide +kernel
theorem dX4_wipe_8 : decode cX4_wipe 8 = .ok (.aload_n 0, 1) := by decide +kernel
theorem dX4_wipe_9 : decode cX4_wipe 9 = .ok (.getfield 10, 3) := by decide +kernel
theorem dX4_wipe_12 : decode cX4_wipe 12 = .ok (.iconst 0, 1) := by decide +kernel
theorem dX4_wipe_13 : decode cX4_wipe 13 = .ok (.putfield 56, 3) := by decide +kernel
theorem dX4_wipe_16 : decode cX4_wipe 16 = .ok (.iload_n 1, 1) := by decide +kernel
theorem dX4_wipe_17 : decode cX4_wipe 17 = .ok (.ireturn, 1) := by decide +kernel
theorem dX4_fault_0 : decode cX4_fault 0 = .ok (.aload_n 0, 1) := by decide +kernel
theorem dX4_fault_1 : decode cX4_fault 1 = .ok (.getfield 10, 3) := by decide +kernel
theorem dX4_fault_4 : decode cX4_fault 4 = .ok (.invokevirtual 60, 3) := by decide +kernel
theorem dX4_fault_7 : decode cX4_fault 7 = .ok (.ireturn, 1) := by decide +kernel
theorem dX4_land_0 : decode cX4_land 0 = .ok (.aload_n 0, 1) := by decide +kernel
theorem dX4_land_1 : decode cX4_land 1 = .ok (.getfield 10, 3) := by decide +kernel
theorem dX4_land_4 : decode cX4_land 4 = .ok (.invokevirtual 60, 3) := by decide +kernel
theorem dX4_land_7 : decode cX4_land 7 = .ok (.bipush (-9), 2) := by decide +kernel
theorem dX4_land_9 : decode cX4_land 9 = .ok (.if_icmp .eq 6, 3) := by decide +kernel
theorem dX4_land_12 : decode cX4_land 12 = .ok (.bipush (-3), 2) := by decide +kernel
theorem dX4_land_14 : decode cX4_land 14 = .ok (.ireturn, 1) := by decide +kernel
theorem dX4_land_15 : decode cX4_land 15 = .ok (.aload_n 0, 1) := by decide +kernel
theorem dX4_land_16 : decode cX4_land 16 = .ok (.getfield 19, 3) := by decide +kernel
theorem dX4_land_19 : decode cX4_land 19 = .ok (.aload_n 0, 1) := by decide +kernel
theorem dX4_land_20 : decode cX4_land 20 = .ok (.getfield 10, 3) := by decide +kernel
theorem dX4_land_23 : decode cX4_land 23 = .ok (.getfield 64, 3) := by decide +kernel
theorem dX4_land_26 : decode cX4_land 26 = .ok (.invokevirtual 67, 3) := by decide +kernel
theorem dX4_land_29 : decode cX4_land 29 = .ok (.aload_n 0, 1) := by decide +kernel
theorem dX4_land_30 : decode cX4_land 30 = .ok (.getfield 29, 3) := by decide +kernel
theorem dX4_land_33 : decode cX4_land 33 = .ok (.invokevirtual 71, 3) := by decide +kernel
theorem dX4_land_36 : decode cX4_land 36 = .ok (.iconst 0, 1) := by decide +kernel
theorem dX4_land_37 : decode cX4_land 37 = .ok (.istore_n 1, 1) := by decide +kernel
theorem dX4_land_38 : decode cX4_land 38 = .ok (.iload_n 1, 1) := by decide +kernel
theorem dX4_land_39 : decode cX4_land 39 = .ok (.iconst 2, 1) := by decide +kernel
theorem dX4_land_40 : decode cX4_land 40 = .ok (.if_icmp .ge 16, 3) := by decide +kernel
theorem dX4_land_43 : decode cX4_land 43 = .ok (.aload_n 0, 1) := by decide +kernel
theorem dX4_land_44 : decode cX4_land 44 = .ok (.getfield 37, 3) := by decide +kernel
theorem dX4_land_47 : decode cX4_land 47 = .ok (.iload_n 1, 1) := by decide +kernel
theorem dX4_land_48 : decode cX4_land 48 = .ok (.iconst 0, 1) := by decide +kernel
theorem dX4_land_49 : decode cX4_land 49 = .ok (.bastore, 1) := by decide +kernel
theorem dX4_land_50 : decode cX4_land 50 = .ok (.iinc 1 1, 3) := by decide +kernel
theorem dX4_land_53 : decode cX4_land 53 = .ok (.goto (-15), 3) := by decide +kernel
theorem dX4_land_56 : decode cX4_land 56 = .ok (.aload_n 0, 1) := by decide +kernel
theorem dX4_land_57 : decode cX4_land 57 = .ok (.getfield 19, 3) := by decide +kernel
theorem dX4_land_60 : decode cX4_land 60 = .ok (.getfield 74, 3) := by decide +kernel
theorem dX4_land_63 : decode cX4_land 63 = .ok (.ireturn, 1) := by decide +kernel
theorem dX4_about_0 : decode cX4_about 0 = .ok (.iload_n 1, 1) := by decide +kernel
theorem dX4_about_1 : decode cX4_about 1 = .ok (.tableswitch 99 0 6 #[43, 51, 59, 67, 75, 83, 91], 43) := by decide +kernel
theorem dX4_about_44 : decode cX4_about 44 = .ok (.aload_n 0, 1) := by decide +kernel
theorem dX4_about_45 : decode cX4_about 45 = .ok (.getfield 19, 3) := by decide +kernel
theorem dX4_about_48 : decode cX4_about 48 = .ok (.getfield 74, 3) := by decide +kernel
theorem dX4_about_51 : decode cX4_about 51 = .ok (.ireturn, 1) := by decide +kernel
theorem dX4_about_52 : decode cX4_about 52 = .ok (.aload_n 0, 1) := by decide +kernel
theorem dX4_about_53 : decode cX4_about 53 = .ok (.getfield 19, 3) := by decide +kernel
theorem dX4_about_56 : decode cX4_about 56 = .ok (.getfield 77, 3) := by decide +kernel
theorem dX4_about_59 : decode cX4_about 59 = .ok (.ireturn, 1) := by decide +kernel
theorem dX4_about_60 : decode cX4_about 60 = .ok (.aload_n 0, 1) := by decide +kernel
theorem dX4_about_61 : decode cX4_about 61 = .ok (.getfield 19, 3) := by decide +kernel
theorem dX4_about_64 : decode cX4_about 64 = .ok (.getfield 80, 3) := by decide +kernel
theorem dX4_about_67 : decode cX4_about 67 = .ok (.ireturn, 1) := by decide +kernel
theorem dX4_about_68 : decode cX4_about 68 = .ok (.aload_n 0, 1) := by decide +kernel
theorem dX4_about_69 : decode cX4_about 69 = .ok (.getfield 19, 3) := by decide +kernel
theorem dX4_about_72 : decode cX4_about 72 = .ok (.getfield 83, 3) := by decide +kernel
theorem dX4_about_75 : decode cX4_about 75 = .ok (.ireturn, 1) := by decide +kernel
theorem dX4_about_76 : decode cX4_about 76 = .ok (.aload_n 0, 1) := by decide +kernel
theorem dX4_about_77 : decode cX4_about 77 = .ok (.getfield 29, 3) := by decide +kernel
theorem dX4_about_80 : decode cX4_about 80 = .ok (.getfield 86, 3) := by decide +kernel
theorem dX4_about_83 : decode cX4_about 83 = .ok (.ireturn, 1) := by decide +kernel
theorem dX4_about_84 : decode cX4_about 84 = .ok (.aload_n 0, 1) := by decide +kernel
theorem dX4_about_85 : decode cX4_about 85 = .ok (.getfield 10, 3) := by decide +kernel
theorem dX4_about_88 : decode cX4_about 88 = .ok (.getfield 56, 3) := by decide +kernel
theorem dX4_about_91 : decode cX4_about 91 = .ok (.ireturn, 1) := by decide +kernel
theorem dX4_about_92 : decode cX4_about 92 = .ok (.aload_n 0, 1) := by decide +kernel
theorem dX4_about_93 : decode cX4_about 93 = .ok (.getfield 19, 3) := by decide +kernel
theorem dX4_about_96 : decode cX4_about 96 = .ok (.invokevirtual 87, 3) := by decide +kernel
theorem dX4_about_99 : decode cX4_about 99 = .ok (.ireturn, 1) := by decide +kernel
theorem dX4_about_100 : decode cX4_about 100 = .ok (.bipush (-2), 2) := by decide +kernel
theorem dX4_about_102 : decode cX4_about 102 = .ok (.ireturn, 1) := by decide +kernel
theorem dX4_person_0 : decode cX4_person 0 = .ok (.aload_n 0, 1) := by decide +kernel
theorem dX4_person_1 : decode cX4_person 1 = .ok (.getfield 19, 3) := by decide +kernel
theorem dX4_person_4 : decode cX4_person 4 = .ok (.iload_n 1, 1) := by decide +kernel
theorem dX4_person_5 : decode cX4_person 5 = .ok (.invokevirtual 90, 3) := by decide +kernel
theorem dX4_person_8 : decode cX4_person 8 = .ok (.ifCond .ne 5, 3) := by decide +kernel
theorem dX4_person_11 : decode cX4_person 11 = .ok (.iconst (-1), 1) := by decide +kernel
theorem dX4_person_12 : decode cX4_person 12 = .ok (.ireturn, 1) := by decide +kernel
theorem dX4_person_13 : decode cX4_person 13 = .ok (.iload_n 2, 1) := by decide +kernel
theorem dX4_person_14 : decode cX4_person 14 = .ok (.tableswitch 96 0 5 #[38, 48, 58, 68, 78, 87], 38) := by decide +kernel
theorem dX4_person_52 : decode cX4_person 52 = .ok (.aload_n 0, 1) := by decide +kernel
theorem dX4_person_53 : decode cX4_person 53 = .ok (.getfield 19, 3) := by decide +kernel
theorem dX4_person_56 : decode cX4_person 56 = .ok (.getfield 93, 3) := by decide +kernel
theorem dX4_person_59 : decode cX4_person 59 = .ok (.iload_n 1, 1) := by decide +kernel
theorem dX4_person_60 : decode cX4_person 60 = .ok (.iaload, 1) := by decide +kernel
theorem dX4_person_61 : decode cX4_person 61 = .ok (.ireturn, 1) := by decide +kernel
theorem dX4_person_62 : decode cX4_person 62 = .ok (.aload_n 0, 1) := by decide +kernel
theorem dX4_person_63 : decode cX4_person 63 = .ok (.getfield 19, 3) := by decide +kernel
theorem dX4_person_66 : decode cX4_person 66 = .ok (.getfield 97, 3) := by decide +kernel
theorem dX4_person_69 : decode cX4_person 69 = .ok (.iload_n 1, 1) := by decide +kernel
theorem dX4_person_70 : decode cX4_person 70 = .ok (.iaload, 1) := by decide +kernel
theorem dX4_person_71 : decode cX4_person 71 = .ok (.ireturn, 1) := by decide +kernel
theorem dX4_person_72 : decode cX4_person 72 = .ok (.aload_n 0, 1) := by decide +kernel
theorem dX4_person_73 : decode cX4_person 73 = .ok (.getfield 19, 3) := by decide +kernel
theorem dX4_person_76 : decode cX4_person 76 = .ok (.getfield 100, 3) := by decide +kernel
theorem dX4_person_79 : decode cX4_person 79 = .ok (.iload_n 1, 1) := by decide +kernel
theorem dX4_person_80 : decode cX4_person 80 = .ok (.iaload, 1) := by decide +kernel
theorem dX4_person_81 : decode cX4_person 81 = .ok (.ireturn, 1) := by decide +kernel
theorem dX4_person_82 : decode cX4_person 82 = .ok (.aload_n 0, 1) := by decide +kernel
theorem dX4_person_83 : decode cX4_person 83 = .ok (.getfield 19, 3) := by decide +kernel
theorem dX4_person_86 : decode cX4_person 86 = .ok (.getfield 103, 3) := by decide +kernel
theorem dX4_person_89 : decode cX4_person 89 = .ok (.iload_n 1, 1) := by decide +kernel
theorem dX4_person_90 : decode cX4_person 90 = .ok (.iaload, 1) := by decide +kernel
theorem dX4_person_91 : decode cX4_person 91 = .ok (.ireturn, 1) := by decide +kernel
theorem dX4_person_92 : decode cX4_person 92 = .ok (.aload_n 0, 1) := by decide +kernel
theorem dX4_person_93 : decode cX4_person 93 = .ok (.getfield 19, 3) := by decide +kernel
theorem dX4_person_96 : decode cX4_person 96 = .ok (.iload_n 1, 1) := by decide +kernel
theorem dX4_person_97 : decode cX4_person 97 = .ok (.invokevirtual 106, 3) := by decide +kernel
theorem dX4_person_100 : decode cX4_person 100 = .ok (.ireturn, 1) := by decide +kernel
theorem dX4_person_101 : decode cX4_person 101 = .ok (.aload_n 0, 1) := by decide +kernel
theorem dX4_person_102 : decode cX4_person 102 = .ok (.getfield 19, 3) := by decide +kernel
theorem dX4_person_105 : decode cX4_person 105 = .ok (.iload_n 1, 1) := by decide +kernel
theorem dX4_person_106 : decode cX4_person 106 = .ok (.invokevirtual 110, 3) := by decide +kernel
theorem dX4_person_109 : decode cX4_person 109 = .ok (.ireturn, 1) := by decide +kernel
theorem dX4_person_110 : decode cX4_person 110 = .ok (.bipush (-2), 2) := by decide +kernel
theorem dX4_person_112 : decode cX4_person 112 = .ok (.ireturn, 1) := by decide +kernel
theorem dX4_owes_0 : decode cX4_owes 0 = .ok (.aload_n 0, 1) := by decide +kernel
theorem dX4_owes_1 : decode cX4_owes 1 = .ok (.getfield 19, 3) := by decide +kernel
theorem dX4_owes_4 : decode cX4_owes 4 = .ok (.iload_n 1, 1) := by decide +kernel
theorem dX4_owes_5 : decode cX4_owes 5 = .ok (.invokevirtual 90, 3) := by decide +kernel
theorem dX4_owes_8 : decode cX4_owes 8 = .ok (.ifCond .eq 14, 3) := by decide +kernel
theorem dX4_owes_11 : decode cX4_owes 11 = .ok (.aload_n 0, 1) := by decide +kernel
theorem dX4_owes_12 : decode cX4_owes 12 = .ok (.getfield 19, 3) := by decide +kernel
theorem dX4_owes_15 : decode cX4_owes 15 = .ok (.iload_n 2, 1) := by decide +kernel
theorem dX4_owes_16 : decode cX4_owes 16 = .ok (.invokevirtual 90, 3) := by decide +kernel
theorem dX4_owes_19 : decode cX4_owes 19 = .ok (.ifCond .ne 5, 3) := by decide +kernel
theorem dX4_owes_22 : decode cX4_owes 22 = .ok (.iconst (-1), 1) := by decide +kernel
theorem dX4_owes_23 : decode cX4_owes 23 = .ok (.ireturn, 1) := by decide +kernel
theorem dX4_owes_24 : decode cX4_owes 24 = .ok (.aload_n 0, 1) := by decide +kernel
theorem dX4_owes_25 : decode cX4_owes 25 = .ok (.getfield 19, 3) := by decide +kernel
theorem dX4_owes_28 : decode cX4_owes 28 = .ok (.iload_n 1, 1) := by decide +kernel
theorem dX4_owes_29 : decode cX4_owes 29 = .ok (.iload_n 2, 1) := by decide +kernel
theorem dX4_owes_30 : decode cX4_owes 30 = .ok (.invokevirtual 113, 3) := by decide +kernel
theorem dX4_owes_33 : decode cX4_owes 33 = .ok (.ireturn, 1) := by decide +kernel
theorem dX4_funeral_0 : decode cX4_funeral 0 = .ok (.aload_n 0, 1) := by decide +kernel
theorem dX4_funeral_1 : decode cX4_funeral 1 = .ok (.getfield 19, 3) := by decide +kernel
theorem dX4_funeral_4 : decode cX4_funeral 4 = .ok (.iload_n 1, 1) := by decide +kernel
theorem dX4_funeral_5 : decode cX4_funeral 5 = .ok (.invokevirtual 90, 3) := by decide +kernel
theorem dX4_funeral_8 : decode cX4_funeral 8 = .ok (.ifCond .ne 5, 3) := by decide +kernel
theorem dX4_funeral_11 : decode cX4_funeral 11 = .ok (.iconst (-1), 1) := by decide +kernel
theorem dX4_funeral_12 : decode cX4_funeral 12 = .ok (.ireturn, 1) := by decide +kernel
theorem dX4_funeral_13 : decode cX4_funeral 13 = .ok (.aload_n 0, 1) := by decide +kernel
theorem dX4_funeral_14 : decode cX4_funeral 14 = .ok (.getfield 19, 3) := by decide +kernel
theorem dX4_funeral_17 : decode cX4_funeral 17 = .ok (.iload_n 1, 1) := by decide +kernel
theorem dX4_funeral_18 : decode cX4_funeral 18 = .ok (.invokevirtual 117, 3) := by decide +kernel
theorem dX4_funeral_21 : decode cX4_funeral 21 = .ok (.ifCond .eq 6, 3) := by decide +kernel
theorem dX4_funeral_24 : decode cX4_funeral 24 = .ok (.bipush (-3), 2) := by decide +kernel
theorem dX4_funeral_26 : decode cX4_funeral 26 = .ok (.ireturn, 1) := by decide +kernel
theorem dX4_funeral_27 : decode cX4_funeral 27 = .ok (.aload_n 0, 1) := by decide +kernel
theorem dX4_funeral_28 : decode cX4_funeral 28 = .ok (.getfield 29, 3) := by decide +kernel
theorem dX4_funeral_31 : decode cX4_funeral 31 = .ok (.aload_n 0, 1) := by decide +kernel
theorem dX4_funeral_32 : decode cX4_funeral 32 = .ok (.getfield 19, 3) := by decide +kernel
theorem dX4_funeral_35 : decode cX4_funeral 35 = .ok (.invokevirtual 120, 3) := by decide +kernel
theorem dX4_funeral_38 : decode cX4_funeral 38 = .ok (.aload_n 0, 1) := by decide +kernel
theorem dX4_funeral_39 : decode cX4_funeral 39 = .ok (.getfield 19, 3) := by decide +kernel
theorem dX4_funeral_42 : decode cX4_funeral 42 = .ok (.iload_n 1, 1) := by decide +kernel
theorem dX4_funeral_43 : decode cX4_funeral 43 = .ok (.invokevirtual 123, 3) := by decide +kernel
theorem dX4_funeral_46 : decode cX4_funeral 46 = .ok (.aload_n 0, 1) := by decide +kernel
theorem dX4_funeral_47 : decode cX4_funeral 47 = .ok (.getfield 19, 3) := by decide +kernel
theorem dX4_funeral_50 : decode cX4_funeral 50 = .ok (.getfield 77, 3) := by decide +kernel
theorem dX4_funeral_53 : decode cX4_funeral 53 = .ok (.invokestatic 127, 3) := by decide +kernel
theorem dX4_funeral_56 : decode cX4_funeral 56 = .ok (.ireturn, 1) := by decide +kernel
theorem dX4_weep_0 : decode cX4_weep 0 = .ok (.aload_n 0, 1) := by decide +kernel
theorem dX4_weep_1 : decode cX4_weep 1 = .ok (.getfield 19, 3) := by decide +kernel
theorem dX4_weep_4 : decode cX4_weep 4 = .ok (.iload_n 1, 1) := by decide +kernel
theorem dX4_weep_5 : decode cX4_weep 5 = .ok (.invokevirtual 90, 3) := by decide +kernel
theorem dX4_weep_8 : decode cX4_weep 8 = .ok (.ifCond .eq 14, 3) := by decide +kernel
theorem dX4_weep_11 : decode cX4_weep 11 = .ok (.aload_n 0, 1) := by decide +kernel
theorem dX4_weep_12 : decode cX4_weep 12 = .ok (.getfield 19, 3) := by decide +kernel
theorem dX4_weep_15 : decode cX4_weep 15 = .ok (.iload_n 2, 1) := by decide +kernel
theorem dX4_weep_16 : decode cX4_weep 16 = .ok (.invokevirtual 90, 3) := by decide +kernel
theorem dX4_weep_19 : decode cX4_weep 19 = .ok (.ifCond .ne 5, 3) := by decide +kernel
theorem dX4_weep_22 : decode cX4_weep 22 = .ok (.iconst (-1), 1) := by decide +kernel
theorem dX4_weep_23 : decode cX4_weep 23 = .ok (.ireturn, 1) := by decide +kernel
theorem dX4_weep_24 : decode cX4_weep 24 = .ok (.aload_n 0, 1) := by decide +kernel
theorem dX4_weep_25 : decode cX4_weep 25 = .ok (.getfield 19, 3) := by decide +kernel
theorem dX4_weep_28 : decode cX4_weep 28 = .ok (.iload_n 1, 1) := by decide +kernel
theorem dX4_weep_29 : decode cX4_weep 29 = .ok (.iload_n 2, 1) := by decide +kernel
theorem dX4_weep_30 : decode cX4_weep 30 = .ok (.invokevirtual 132, 3) := by decide +kernel
theorem dX4_weep_33 : decode cX4_weep 33 = .ok (.ifCond .ne 6, 3) := by decide +kernel
theorem dX4_weep_36 : decode cX4_weep 36 = .ok (.bipush (-3), 2) := by decide +kernel
theorem dX4_weep_38 : decode cX4_weep 38 = .ok (.ireturn, 1) := by decide +kernel
theorem dX4_weep_39 : decode cX4_weep 39 = .ok (.aload_n 0, 1) := by decide +kernel
theorem dX4_weep_40 : decode cX4_weep 40 = .ok (.getfield 29, 3) := by decide +kernel
theorem dX4_weep_43 : decode cX4_weep 43 = .ok (.aload_n 0, 1) := by decide +kernel
theorem dX4_weep_44 : decode cX4_weep 44 = .ok (.getfield 19, 3) := by decide +kernel
theorem dX4_weep_47 : decode cX4_weep 47 = .ok (.invokevirtual 120, 3) := by decide +kernel
theorem dX4_weep_50 : decode cX4_weep 50 = .ok (.aload_n 0, 1) := by decide +kernel
theorem dX4_weep_51 : decode cX4_weep 51 = .ok (.getfield 19, 3) := by decide +kernel
theorem dX4_weep_54 : decode cX4_weep 54 = .ok (.iload_n 1, 1) := by decide +kernel
theorem dX4_weep_55 : decode cX4_weep 55 = .ok (.iload_n 2, 1) := by decide +kernel
theorem dX4_weep_56 : decode cX4_weep 56 = .ok (.invokevirtual 136, 3) := by decide +kernel
theorem dX4_weep_59 : decode cX4_weep 59 = .ok (.ireturn, 1) := by decide +kernel
theorem dX4_onions_0 : decode cX4_onions 0 = .ok (.aload_n 0, 1) := by decide +kernel
theorem dX4_onions_1 : decode cX4_onions 1 = .ok (.getfield 19, 3) := by decide +kernel
theorem dX4_onions_4 : decode cX4_onions 4 = .ok (.iload_n 1, 1) := by decide +kernel
theorem dX4_onions_5 : decode cX4_onions 5 = .ok (.invokevirtual 90, 3) := by decide +kernel
theorem dX4_onions_8 : decode cX4_onions 8 = .ok (.ifCond .eq 14, 3) := by decide +kernel
theorem dX4_onions_11 : decode cX4_onions 11 = .ok (.aload_n 0, 1) := by decide +kernel
theorem dX4_onions_12 : decode cX4_onions 12 = .ok (.getfield 19, 3) := by decide +kernel
theorem dX4_onions_15 : decode cX4_onions 15 = .ok (.iload_n 2, 1) := by decide +kernel
theorem dX4_onions_16 : decode cX4_onions 16 = .ok (.invokevirtual 90, 3) := by decide +kernel
theorem dX4_onions_19 : decode cX4_onions 19 = .ok (.ifCond .ne 5, 3) := by decide +kernel
theorem dX4_onions_22 : decode cX4_onions 22 = .ok (.iconst (-1), 1) := by decide +kernel
theorem dX4_onions_23 : decode cX4_onions 23 = .ok (.ireturn, 1) := by decide +kernel
theorem dX4_onions_24 : decode cX4_onions 24 = .ok (.aload_n 0, 1) := by decide +kernel
theorem dX4_onions_25 : decode cX4_onions 25 = .ok (.getfield 19, 3) := by decide +kernel
theorem dX4_onions_28 : decode cX4_onions 28 = .ok (.iload_n 1, 1) := by decide +kernel
theorem dX4_onions_29 : decode cX4_onions 29 = .ok (.iload_n 2, 1) := by decide +kernel
theorem dX4_onions_30 : decode cX4_onions 30 = .ok (.invokevirtual 139, 3) := by decide +kernel
theorem dX4_onions_33 : decode cX4_onions 33 = .ok (.ifCond .ne 6, 3) := by decide +kernel
theorem dX4_onions_36 : decode cX4_onions 36 = .ok (.bipush (-3), 2) := by decide +kernel
theorem dX4_onions_38 : decode cX4_onions 38 = .ok (.ireturn, 1) := by decide +kernel
theorem dX4_onions_39 : decode cX4_onions 39 = .ok (.aload_n 0, 1) := by decide +kernel
theorem dX4_onions_40 : decode cX4_onions 40 = .ok (.getfield 29, 3) := by decide +kernel
theorem dX4_onions_43 : decode cX4_onions 43 = .ok (.aload_n 0, 1) := by decide +kernel
theorem dX4_onions_44 : decode cX4_onions 44 = .ok (.getfield 19, 3) := by decide +kernel
theorem dX4_onions_47 : decode cX4_onions 47 = .ok (.invokevirtual 120, 3) := by decide +kernel
theorem dX4_onions_50 : decode cX4_onions 50 = .ok (.aload_n 0, 1) := by decide +kernel
theorem dX4_onions_51 : decode cX4_onions 51 = .ok (.getfield 19, 3) := by decide +kernel
theorem dX4_onions_54 : decode cX4_onions 54 = .ok (.iload_n 1, 1) := by decide +kernel
theorem dX4_onions_55 : decode cX4_onions 55 = .ok (.iload_n 2, 1) := by decide +kernel
theorem dX4_onions_56 : decode cX4_onions 56 = .ok (.invokevirtual 142, 3) := by decide +kernel
theorem dX4_onions_59 : decode cX4_onions 59 = .ok (.aload_n 0, 1) := by decide +kernel
theorem dX4_onions_60 : decode cX4_onions 60 = .ok (.getfield 19, 3) := by decide +kernel
theorem dX4_onions_63 : decode cX4_onions 63 = .ok (.getfield 83, 3) := by decide +kernel
theorem dX4_onions_66 : decode cX4_onions 66 = .ok (.invokestatic 127, 3) := by decide +kernel
theorem dX4_onions_69 : decode cX4_onions 69 = .ok (.ireturn, 1) := by decide +kernel
theorem dX4_week_0 : decode cX4_week 0 = .ok (.aload_n 0, 1) := by decide +kernel
theorem dX4_week_1 : decode cX4_week 1 = .ok (.getfield 29, 3) := by decide +kernel
theorem dX4_week_4 : decode cX4_week 4 = .ok (.aload_n 0, 1) := by decide +kernel
theorem dX4_week_5 : decode cX4_week 5 = .ok (.getfield 19, 3) := by decide +kernel
theorem dX4_week_8 : decode cX4_week 8 = .ok (.invokevirtual 120, 3) := by decide +kernel
theorem dX4_week_11 : decode cX4_week 11 = .ok (.aload_n 0, 1) := by decide +kernel
theorem dX4_week_12 : decode cX4_week 12 = .ok (.getfield 19, 3) := by decide +kernel
theorem dX4_week_15 : decode cX4_week 15 = .ok (.invokevirtual 146, 3) := by decide +kernel
theorem dX4_week_18 : decode cX4_week 18 = .ok (.aload_n 0, 1) := by decide +kernel
theorem dX4_week_19 : decode cX4_week 19 = .ok (.getfield 19, 3) := by decide +kernel
theorem dX4_week_22 : decode cX4_week 22 = .ok (.getfield 80, 3) := by decide +kernel
theorem dX4_week_25 : decode cX4_week 25 = .ok (.ireturn, 1) := by decide +kernel
theorem dX4_undo_0 : decode cX4_undo 0 = .ok (.aload_n 0, 1) := by decide +kernel
theorem dX4_undo_1 : decode cX4_undo 1 = .ok (.getfield 29, 3) := by decide +kernel
theorem dX4_undo_4 : decode cX4_undo 4 = .ok (.getfield 86, 3) := by decide +kernel
theorem dX4_undo_7 : decode cX4_undo 7 = .ok (.ifCond .ne 6, 3) := by decide +kernel
theorem dX4_undo_10 : decode cX4_undo 10 = .ok (.bipush (-3), 2) := by decide +kernel
theorem dX4_undo_12 : decode cX4_undo 12 = .ok (.ireturn, 1) := by decide +kernel
theorem dX4_undo_13 : decode cX4_undo 13 = .ok (.aload_n 0, 1) := by decide +kernel
theorem dX4_undo_14 : decode cX4_undo 14 = .ok (.getfield 29, 3) := by decide +kernel
theorem dX4_undo_17 : decode cX4_undo 17 = .ok (.aload_n 0, 1) := by decide +kernel
theorem dX4_undo_18 : decode cX4_undo 18 = .ok (.getfield 19, 3) := by decide +kernel
theorem dX4_undo_21 : decode cX4_undo 21 = .ok (.invokevirtual 149, 3) := by decide +kernel
theorem dX4_undo_24 : decode cX4_undo 24 = .ok (.aload_n 0, 1) := by decide +kernel
theorem dX4_undo_25 : decode cX4_undo 25 = .ok (.getfield 29, 3) := by decide +kernel
theorem dX4_undo_28 : decode cX4_undo 28 = .ok (.getfield 86, 3) := by decide +kernel
theorem dX4_undo_31 : decode cX4_undo 31 = .ok (.ireturn, 1) := by decide +kernel
theorem dX4_served_0 : decode cX4_served 0 = .ok (.iload_n 1, 1) := by decide +kernel
theorem dX4_served_1 : decode cX4_served 1 = .ok (.ifCond .lt 8, 3) := by decide +kernel
theorem dX4_served_4 : decode cX4_served 4 = .ok (.iload_n 1, 1) := by decide +kernel
theorem dX4_served_5 : decode cX4_served 5 = .ok (.iconst 2, 1) := by decide +kernel
theorem dX4_served_6 : decode cX4_served 6 = .ok (.if_icmp .le 6, 3) := by decide +kernel
theorem dX4_served_9 : decode cX4_served 9 = .ok (.bipush (-2), 2) := by decide +kernel
theorem dX4_served_11 : decode cX4_served 11 = .ok (.ireturn, 1) := by decide +kernel
theorem dX4_served_12 : decode cX4_served 12 = .ok (.aload_n 0, 1) := by decide +kernel
theorem dX4_served_13 : decode cX4_served 13 = .ok (.getfield 44, 3) := by decide +kernel
theorem dX4_served_16 : decode cX4_served 16 = .ok (.aload_n 0, 1) := by decide +kernel
theorem dX4_served_17 : decode cX4_served 17 = .ok (.getfield 19, 3) := by decide +kernel
theorem dX4_served_20 : decode cX4_served 20 = .ok (.aload_n 0, 1) := by decide +kernel
theorem dX4_served_21 : decode cX4_served 21 = .ok (.getfield 19, 3) := by decide +kernel
theorem dX4_served_24 : decode cX4_served 24 = .ok (.getfield 77, 3) := by decide +kernel
theorem dX4_served_27 : decode cX4_served 27 = .ok (.aload_n 0, 1) := by decide +kernel
theorem dX4_served_28 : decode cX4_served 28 = .ok (.getfield 19, 3) := by decide +kernel
theorem dX4_served_31 : decode cX4_served 31 = .ok (.invokevirtual 152, 3) := by decide +kernel
theorem dX4_served_34 : decode cX4_served 34 = .ok (.invokevirtual 155, 3) := by decide +kernel
theorem dX4_served_37 : decode cX4_served 37 = .ok (.pop, 1) := by decide +kernel
theorem dX4_served_38 : decode cX4_served 38 = .ok (.iload_n 1, 1) := by decide +kernel
theorem dX4_served_39 : decode cX4_served 39 = .ok (.ifCond .ne 11, 3) := by decide +kernel
theorem dX4_served_42 : decode cX4_served 42 = .ok (.aload_n 0, 1) := by decide +kernel
theorem dX4_served_43 : decode cX4_served 43 = .ok (.getfield 44, 3) := by decide +kernel
theorem dX4_served_46 : decode cX4_served 46 = .ok (.getfield 159, 3) := by decide +kernel
theorem dX4_served_49 : decode cX4_served 49 = .ok (.ireturn, 1) := by decide +kernel
theorem dX4_served_50 : decode cX4_served 50 = .ok (.iload_n 1, 1) := by decide +kernel
theorem dX4_served_51 : decode cX4_served 51 = .ok (.iconst 1, 1) := by decide +kernel
theorem dX4_served_52 : decode cX4_served 52 = .ok (.if_icmp .ne 13, 3) := by decide +kernel
theorem dX4_served_55 : decode cX4_served 55 = .ok (.aload_n 0, 1) := by decide +kernel
theorem dX4_served_56 : decode cX4_served 56 = .ok (.getfield 44, 3) := by decide +kernel
theorem dX4_served_59 : decode cX4_served 59 = .ok (.getfield 162, 3) := by decide +kernel
theorem dX4_served_62 : decode cX4_served 62 = .ok (.goto 10, 3) := by decide +kernel
theorem dX4_served_65 : decode cX4_served 65 = .ok (.aload_n 0, 1) := by decide +kernel
theorem dX4_served_66 : decode cX4_served 66 = .ok (.getfield 44, 3) := by decide +kernel
theorem dX4_served_69 : decode cX4_served 69 = .ok (.getfield 164, 3) := by decide +kernel
theorem dX4_served_72 : decode cX4_served 72 = .ok (.ireturn, 1) := by decide +kernel
theorem dX4_nobody_0 : decode cX4_nobody 0 = .ok (.iload_n 1, 1) := by decide +kernel
theorem dX4_nobody_1 : decode cX4_nobody 1 = .ok (.ifCond .ne 11, 3) := by decide +kernel
theorem dX4_nobody_4 : decode cX4_nobody 4 = .ok (.aload_n 0, 1) := by decide +kernel
theorem dX4_nobody_5 : decode cX4_nobody 5 = .ok (.getfield 19, 3) := by decide +kernel
theorem dX4_nobody_8 : decode cX4_nobody 8 = .ok (.invokevirtual 167, 3) := by decide +kernel
theorem dX4_nobody_11 : decode cX4_nobody 11 = .ok (.ireturn, 1) := by decide +kernel
theorem dX4_nobody_12 : decode cX4_nobody 12 = .ok (.iload_n 1, 1) := by decide +kernel
theorem dX4_nobody_13 : decode cX4_nobody 13 = .ok (.iconst 1, 1) := by decide +kernel
theorem dX4_nobody_14 : decode cX4_nobody 14 = .ok (.if_icmp .ne 13, 3) := by decide +kernel
theorem dX4_nobody_17 : decode cX4_nobody 17 = .ok (.aload_n 0, 1) := by decide +kernel
theorem dX4_nobody_18 : decode cX4_nobody 18 = .ok (.getfield 19, 3) := by decide +kernel
theorem dX4_nobody_21 : decode cX4_nobody 21 = .ok (.invokevirtual 170, 3) := by decide +kernel
theorem dX4_nobody_24 : decode cX4_nobody 24 = .ok (.goto 5, 3) := by decide +kernel
theorem dX4_nobody_27 : decode cX4_nobody 27 = .ok (.bipush (-2), 2) := by decide +kernel
theorem dX4_nobody_29 : decode cX4_nobody 29 = .ok (.ireturn, 1) := by decide +kernel
theorem dX4_till_0 : decode cX4_till 0 = .ok (.aload_n 0, 1) := by decide +kernel
theorem dX4_till_1 : decode cX4_till 1 = .ok (.getfield 19, 3) := by decide +kernel
theorem dX4_till_4 : decode cX4_till 4 = .ok (.iload_n 1, 1) := by decide +kernel
theorem dX4_till_5 : decode cX4_till 5 = .ok (.invokevirtual 90, 3) := by decide +kernel
theorem dX4_till_8 : decode cX4_till 8 = .ok (.ifCond .eq 14, 3) := by decide +kernel
theorem dX4_till_11 : decode cX4_till 11 = .ok (.aload_n 0, 1) := by decide +kernel
theorem dX4_till_12 : decode cX4_till 12 = .ok (.getfield 19, 3) := by decide +kernel
theorem dX4_till_15 : decode cX4_till 15 = .ok (.iload_n 2, 1) := by decide +kernel
theorem dX4_till_16 : decode cX4_till 16 = .ok (.invokevirtual 90, 3) := by decide +kernel
theorem dX4_till_19 : decode cX4_till 19 = .ok (.ifCond .ne 5, 3) := by decide +kernel
theorem dX4_till_22 : decode cX4_till 22 = .ok (.iconst (-1), 1) := by decide +kernel
theorem dX4_till_23 : decode cX4_till 23 = .ok (.ireturn, 1) := by decide +kernel
theorem dX4_till_24 : decode cX4_till 24 = .ok (.aload_n 0, 1) := by decide +kernel
theorem dX4_till_25 : decode cX4_till 25 = .ok (.getfield 23, 3) := by decide +kernel
theorem dX4_till_28 : decode cX4_till 28 = .ok (.aload_n 0, 1) := by decide +kernel
theorem dX4_till_29 : decode cX4_till 29 = .ok (.getfield 19, 3) := by decide +kernel
theorem dX4_till_32 : decode cX4_till 32 = .ok (.invokevirtual 67, 3) := by decide +kernel
theorem dX4_till_35 : decode cX4_till 35 = .ok (.iconst 0, 1) := by decide +kernel
theorem dX4_till_36 : decode cX4_till 36 = .ok (.istore_n 3, 1) := by decide +kernel
theorem dX4_till_37 : decode cX4_till 37 = .ok (.iload_n 3, 1) := by decide +kernel
theorem dX4_till_38 : decode cX4_till 38 = .ok (.bipush 9, 2) := by decide +kernel
theorem dX4_till_40 : decode cX4_till 40 = .ok (.if_icmp .gt 30, 3) := by decide +kernel
theorem dX4_till_43 : decode cX4_till 43 = .ok (.aload_n 0, 1) := by decide +kernel
theorem dX4_till_44 : decode cX4_till 44 = .ok (.getfield 23, 3) := by decide +kernel
theorem dX4_till_47 : decode cX4_till 47 = .ok (.iload_n 1, 1) := by decide +kernel
theorem dX4_till_48 : decode cX4_till 48 = .ok (.iload_n 2, 1) := by decide +kernel
theorem dX4_till_49 : decode cX4_till 49 = .ok (.invokevirtual 132, 3) := by decide +kernel
theorem dX4_till_52 : decode cX4_till 52 = .ok (.ifCond .eq 5, 3) := by decide +kernel
theorem dX4_till_55 : decode cX4_till 55 = .ok (.iload_n 3, 1) := by decide +kernel
theorem dX4_till_56 : decode cX4_till 56 = .ok (.ireturn, 1) := by decide +kernel
theorem dX4_till_57 : decode cX4_till 57 = .ok (.aload_n 0, 1) := by decide +kernel
theorem dX4_till_58 : decode cX4_till 58 = .ok (.getfield 23, 3) := by decide +kernel
theorem dX4_till_61 : decode cX4_till 61 = .ok (.invokevirtual 146, 3) := by decide +kernel
theorem dX4_till_64 : decode cX4_till 64 = .ok (.iinc 3 1, 3) := by decide +kernel
theorem dX4_till_67 : decode cX4_till 67 = .ok (.goto (-30), 3) := by decide +kernel
theorem dX4_till_70 : decode cX4_till 70 = .ok (.bipush (-9), 2) := by decide +kernel
theorem dX4_till_72 : decode cX4_till 72 = .ok (.ireturn, 1) := by decide +kernel
theorem dX4_net_0 : decode cX4_net 0 = .ok (.aload_n 0, 1) := by decide +kernel
theorem dX4_net_1 : decode cX4_net 1 = .ok (.getfield 19, 3) := by decide +kernel
theorem dX4_net_4 : decode cX4_net 4 = .ok (.iload_n 1, 1) := by decide +kernel
theorem dX4_net_5 : decode cX4_net 5 = .ok (.invokevirtual 90, 3) := by decide +kernel
theorem dX4_net_8 : decode cX4_net 8 = .ok (.ifCond .ne 5, 3) := by decide +kernel
theorem dX4_net_11 : decode cX4_net 11 = .ok (.iconst (-1), 1) := by decide +kernel
theorem dX4_net_12 : decode cX4_net 12 = .ok (.ireturn, 1) := by decide +kernel
theorem dX4_net_13 : decode cX4_net 13 = .ok (.bipush 100, 2) := by decide +kernel
theorem dX4_net_15 : decode cX4_net 15 = .ok (.istore_n 2, 1) := by decide +kernel
theorem dX4_net_16 : decode cX4_net 16 = .ok (.iconst 0, 1) := by decide +kernel
theorem dX4_net_17 : decode cX4_net 17 = .ok (.istore_n 3, 1) := by decide +kernel
theorem dX4_net_18 : decode cX4_net 18 = .ok (.iload_n 3, 1) := by decide +kernel
theorem dX4_net_19 : decode cX4_net 19 = .ok (.aload_n 0, 1) := by decide +kernel
theorem dX4_net_20 : decode cX4_net 20 = .ok (.getfield 19, 3) := by decide +kernel
theorem dX4_net_23 : decode cX4_net 23 = .ok (.getfield 74, 3) := by decide +kernel
theorem dX4_net_26 : decode cX4_net 26 = .ok (.if_icmp .ge 31, 3) := by decide +kernel
theorem dX4_net_29 : decode cX4_net 29 = .ok (.iload_n 2, 1) := by decide +kernel
theorem dX4_net_30 : decode cX4_net 30 = .ok (.aload_n 0, 1) := by decide +kernel
theorem dX4_net_31 : decode cX4_net 31 = .ok (.getfield 19, 3) := by decide +kernel
theorem dX4_net_34 : decode cX4_net 34 = .ok (.iload_n 3, 1) := by decide +kernel
theorem dX4_net_35 : decode cX4_net 35 = .ok (.iload_n 1, 1) := by decide +kernel
theorem dX4_net_36 : decode cX4_net 36 = .ok (.invokevirtual 113, 3) := by decide +kernel
theorem dX4_net_39 : decode cX4_net 39 = .ok (.aload_n 0, 1) := by decide +kernel
theorem dX4_net_40 : decode cX4_net 40 = .ok (.getfield 19, 3) := by decide +kernel
theorem dX4_net_43 : decode cX4_net 43 = .ok (.iload_n 1, 1) := by decide +kernel
theorem dX4_net_44 : decode cX4_net 44 = .ok (.iload_n 3, 1) := by decide +kernel
theorem dX4_net_45 : decode cX4_net 45 = .ok (.invokevirtual 113, 3) := by decide +kernel
theorem dX4_net_48 : decode cX4_net 48 = .ok (.isub, 1) := by decide +kernel
theorem dX4_net_49 : decode cX4_net 49 = .ok (.iadd, 1) := by decide +kernel
theorem dX4_net_50 : decode cX4_net 50 = .ok (.istore_n 2, 1) := by decide +kernel
theorem dX4_net_51 : decode cX4_net 51 = .ok (.iinc 3 1, 3) := by decide +kernel
theorem dX4_net_54 : decode cX4_net 54 = .ok (.goto (-36), 3) := by decide +kernel
theorem dX4_net_57 : decode cX4_net 57 = .ok (.iload_n 2, 1) := by decide +kernel
theorem dX4_net_58 : decode cX4_net 58 = .ok (.ireturn, 1) := by decide +kernel
theorem dX4_ring_0 : decode cX4_ring 0 = .ok (.iconst 0, 1) := by decide +kernel
theorem dX4_ring_1 : decode cX4_ring 1 = .ok (.istore_n 1, 1) := by decide +kernel
theorem dX4_ring_2 : decode cX4_ring 2 = .ok (.iconst 0, 1) := by decide +kernel
theorem dX4_ring_3 : decode cX4_ring 3 = .ok (.istore_n 2, 1) := by decide +kernel
theorem dX4_ring_4 : decode cX4_ring 4 = .ok (.iload_n 2, 1) := by decide +kernel
theorem dX4_ring_5 : decode cX4_ring 5 = .ok (.aload_n 0, 1) := by decide +kernel
theorem dX4_ring_6 : decode cX4_ring 6 = .ok (.getfield 19, 3) := by decide +kernel
theorem dX4_ring_9 : decode cX4_ring 9 = .ok (.getfield 74, 3) := by decide +kernel
theorem dX4_ring_12 : decode cX4_ring 12 = .ok (.if_icmp .ge 24, 3) := by decide +kernel
theorem dX4_ring_15 : decode cX4_ring 15 = .ok (.iload_n 1, 1) := by decide +kernel
theorem dX4_ring_16 : decode cX4_ring 16 = .ok (.aload_n 0, 1) := by decide +kernel
theorem dX4_ring_17 : decode cX4_ring 17 = .ok (.getfield 19, 3) := by decide +kernel
theorem dX4_ring_20 : decode cX4_ring 20 = .ok (.iload_n 2, 1) := by decide +kernel
theorem dX4_ring_21 : decode cX4_ring 21 = .ok (.invokevirtual 173, 3) := by decide +kernel
theorem dX4_ring_24 : decode cX4_ring 24 = .ok (.iconst 1, 1) := by decide +kernel
theorem dX4_ring_25 : decode cX4_ring 25 = .ok (.iload_n 2, 1) := by decide +kernel
theorem dX4_ring_26 : decode cX4_ring 26 = .ok (.ishl, 1) := by decide +kernel
theorem dX4_ring_27 : decode cX4_ring 27 = .ok (.iand, 1) := by decide +kernel
theorem dX4_ring_28 : decode cX4_ring 28 = .ok (.ior, 1) := by decide +kernel
theorem dX4_ring_29 : decode cX4_ring 29 = .ok (.istore_n 1, 1) := by decide +kernel
theorem dX4_ring_30 : decode cX4_ring 30 = .ok (.iinc 2 1, 3) := by decide +kernel
theorem dX4_ring_33 : decode cX4_ring 33 = .ok (.goto (-29), 3) := by decide +kernel
theorem dX4_ring_36 : decode cX4_ring 36 = .ok (.iload_n 1, 1) := by decide +kernel
theorem dX4_ring_37 : decode cX4_ring 37 = .ok (.ireturn, 1) := by decide +kernel
theorem dX4_share_0 : decode cX4_share 0 = .ok (.aload_n 0, 1) := by decide +kernel
theorem dX4_share_1 : decode cX4_share 1 = .ok (.getfield 19, 3) := by decide +kernel
theorem dX4_share_4 : decode cX4_share 4 = .ok (.iload_n 1, 1) := by decide +kernel
theorem dX4_share_5 : decode cX4_share 5 = .ok (.invokevirtual 90, 3) := by decide +kernel
theorem dX4_share_8 : decode cX4_share 8 = .ok (.ifCond .ne 5, 3) := by decide +kernel
theorem dX4_share_11 : decode cX4_share 11 = .ok (.iconst (-1), 1) := by decide +kernel
theorem dX4_share_12 : decode cX4_share 12 = .ok (.ireturn, 1) := by decide +kernel
theorem dX4_share_13 : decode cX4_share 13 = .ok (.aload_n 0, 1) := by decide +kernel
theorem dX4_share_14 : decode cX4_share 14 = .ok (.getfield 19, 3) := by decide +kernel
theorem dX4_share_17 : decode cX4_share 17 = .ok (.iload_n 1, 1) := by decide +kernel
theorem dX4_share_18 : decode cX4_share 18 = .ok (.invokevirtual 117, 3) := by decide +kernel
theorem dX4_share_21 : decode cX4_share 21 = .ok (.ifCond .eq 10, 3) := by decide +kernel
theorem dX4_share_24 : decode cX4_share 24 = .ok (.iconst 0, 1) := by decide +kernel
theorem dX4_share_25 : decode cX4_share 25 = .ok (.iconst 1, 1) := by decide +kernel
theorem dX4_share_26 : decode cX4_share 26 = .ok (.iload_n 2, 1) := by decide +kernel
theorem dX4_share_27 : decode cX4_share 27 = .ok (.invokestatic 176, 3) := by decide +kernel
theorem dX4_share_30 : decode cX4_share 30 = .ok (.ireturn, 1) := by decide +kernel
theorem dX4_share_31 : decode cX4_share 31 = .ok (.aload_n 0, 1) := by decide +kernel
theorem dX4_share_32 : decode cX4_share 32 = .ok (.getfield 19, 3) := by decide +kernel
theorem dX4_share_35 : decode cX4_share 35 = .ok (.invokevirtual 152, 3) := by decide +kernel
theorem dX4_share_38 : decode cX4_share 38 = .ok (.iconst 1, 1) := by decide +kernel
theorem dX4_share_39 : decode cX4_share 39 = .ok (.iload_n 1, 1) := by decide +kernel
theorem dX4_share_40 : decode cX4_share 40 = .ok (.ishl, 1) := by decide +kernel
theorem dX4_share_41 : decode cX4_share 41 = .ok (.iconst (-1), 1) := by decide +kernel
theorem dX4_share_42 : decode cX4_share 42 = .ok (.ixor, 1) := by decide +kernel
theorem dX4_share_43 : decode cX4_share 43 = .ok (.iand, 1) := by decide +kernel
theorem dX4_share_44 : decode cX4_share 44 = .ok (.istore_n 3, 1) := by decide +kernel
theorem dX4_share_45 : decode cX4_share 45 = .ok (.iload_n 3, 1) := by decide +kernel
theorem dX4_share_46 : decode cX4_share 46 = .ok (.invokestatic 127, 3) := by decide +kernel
theorem dX4_share_49 : decode cX4_share 49 = .ok (.iconst 1, 1) := by decide +kernel
theorem dX4_share_50 : decode cX4_share 50 = .ok (.iadd, 1) := by decide +kernel
theorem dX4_share_51 : decode cX4_share 51 = .ok (.istore 4, 2) := by decide +kernel
theorem dX4_share_53 : decode cX4_share 53 = .ok (.iconst 0, 1) := by decide +kernel
theorem dX4_share_54 : decode cX4_share 54 = .ok (.istore 5, 2) := by decide +kernel
theorem dX4_share_56 : decode cX4_share 56 = .ok (.iconst 0, 1) := by decide +kernel
theorem dX4_share_57 : decode cX4_share 57 = .ok (.istore 6, 2) := by decide +kernel
theorem dX4_share_59 : decode cX4_share 59 = .ok (.iload 6, 2) := by decide +kernel
theorem dX4_share_61 : decode cX4_share 61 = .ok (.iload_n 3, 1) := by decide +kernel
theorem dX4_share_62 : decode cX4_share 62 = .ok (.if_icmp .gt 58, 3) := by decide +kernel
theorem dX4_share_65 : decode cX4_share 65 = .ok (.iload 6, 2) := by decide +kernel
theorem dX4_share_67 : decode cX4_share 67 = .ok (.iload_n 3, 1) := by decide +kernel
theorem dX4_share_68 : decode cX4_share 68 = .ok (.iconst (-1), 1) := by decide +kernel
theorem dX4_share_69 : decode cX4_share 69 = .ok (.ixor, 1) := by decide +kernel
theorem dX4_share_70 : decode cX4_share 70 = .ok (.iand, 1) := by decide +kernel
theorem dX4_share_71 : decode cX4_share 71 = .ok (.ifCond .ne 43, 3) := by decide +kernel
theorem dX4_share_74 : decode cX4_share 74 = .ok (.iload 6, 2) := by decide +kernel
theorem dX4_share_76 : decode cX4_share 76 = .ok (.invokestatic 127, 3) := by decide +kernel
theorem dX4_share_79 : decode cX4_share 79 = .ok (.istore 7, 2) := by decide +kernel
theorem dX4_share_81 : decode cX4_share 81 = .ok (.iload 7, 2) := by decide +kernel
theorem dX4_share_83 : decode cX4_share 83 = .ok (.invokestatic 180, 3) := by decide +kernel
theorem dX4_share_86 : decode cX4_share 86 = .ok (.iload 4, 2) := by decide +kernel
theorem dX4_share_88 : decode cX4_share 88 = .ok (.iconst 1, 1) := by decide +kernel
theorem dX4_share_89 : decode cX4_share 89 = .ok (.isub, 1) := by decide +kernel
theorem dX4_share_90 : decode cX4_share 90 = .ok (.iload 7, 2) := by decide +kernel
theorem dX4_share_92 : decode cX4_share 92 = .ok (.isub, 1) := by decide +kernel
theorem dX4_share_93 : decode cX4_share 93 = .ok (.invokestatic 180, 3) := by decide +kernel
theorem dX4_share_96 : decode cX4_share 96 = .ok (.imul, 1) := by decide +kernel
theorem dX4_share_97 : decode cX4_share 97 = .ok (.istore 8, 2) := by decide +kernel
theorem dX4_share_99 : decode cX4_share 99 = .ok (.iload 5, 2) := by decide +kernel
theorem dX4_share_101 : decode cX4_share 101 = .ok (.iload 8, 2) := by decide +kernel
theorem dX4_share_103 : decode cX4_share 103 = .ok (.aload_n 0, 1) := by decide +kernel
theorem dX4_share_104 : decode cX4_share 104 = .ok (.iload_n 1, 1) := by decide +kernel
theorem dX4_share_105 : decode cX4_share 105 = .ok (.iload 6, 2) := by decide +kernel
theorem dX4_share_107 : decode cX4_share 107 = .ok (.invokevirtual 183, 3) := by decide +kernel
theorem dX4_share_110 : decode cX4_share 110 = .ok (.imul, 1) := by decide +kernel
theorem dX4_share_111 : decode cX4_share 111 = .ok (.iadd, 1) := by decide +kernel
theorem dX4_share_112 : decode cX4_share 112 = .ok (.istore 5, 2) := by decide +kernel
theorem dX4_share_114 : decode cX4_share 114 = .ok (.iinc 6 1, 3) := by decide +kernel
theorem dX4_share_117 : decode cX4_share 117 = .ok (.goto (-58), 3) := by decide +kernel
theorem dX4_share_120 : decode cX4_share 120 = .ok (.iload 5, 2) := by decide +kernel
theorem dX4_share_122 : decode cX4_share 122 = .ok (.iload 4, 2) := by decide +kernel
theorem dX4_share_124 : decode cX4_share 124 = .ok (.invokestatic 180, 3) := by decide +kernel
theorem dX4_share_127 : decode cX4_share 127 = .ok (.iload_n 2, 1) := by decide +kernel
theorem dX4_share_128 : decode cX4_share 128 = .ok (.invokestatic 176, 3) := by decide +kernel
theorem dX4_share_131 : decode cX4_share 131 = .ok (.ireturn, 1) := by decide +kernel
theorem dX4_weighed_0 : decode cX4_weighed 0 = .ok (.iload_n 1, 1) := by decide +kernel
theorem dX4_weighed_1 : decode cX4_weighed 1 = .ok (.aload_n 0, 1) := by decide +kernel
theorem dX4_weighed_2 : decode cX4_weighed 2 = .ok (.getfield 19, 3) := by decide +kernel
theorem dX4_weighed_5 : decode cX4_weighed 5 = .ok (.invokevirtual 186, 3) := by decide +kernel
theorem dX4_weighed_8 : decode cX4_weighed 8 = .ok (.iconst (-1), 1) := by decide +kernel
theorem dX4_weighed_9 : decode cX4_weighed 9 = .ok (.ixor, 1) := by decide +kernel
theorem dX4_weighed_10 : decode cX4_weighed 10 = .ok (.iand, 1) := by decide +kernel
theorem dX4_weighed_11 : decode cX4_weighed 11 = .ok (.ifCond .ne 22, 3) := by decide +kernel
theorem dX4_weighed_14 : decode cX4_weighed 14 = .ok (.iload_n 2, 1) := by decide +kernel
theorem dX4_weighed_15 : decode cX4_weighed 15 = .ok (.ifCond .lt 18, 3) := by decide +kernel
theorem dX4_weighed_18 : decode cX4_weighed 18 = .ok (.iload_n 2, 1) := by decide +kernel
theorem dX4_weighed_19 : decode cX4_weighed 19 = .ok (.bipush 45, 2) := by decide +kernel
theorem dX4_weighed_21 : decode cX4_weighed 21 = .ok (.if_icmp .gt 12, 3) := by decide +kernel
theorem dX4_weighed_24 : decode cX4_weighed 24 = .ok (.iload_n 3, 1) := by decide +kernel
theorem dX4_weighed_25 : decode cX4_weighed 25 = .ok (.ifCond .lt 8, 3) := by decide +kernel
theorem dX4_weighed_28 : decode cX4_weighed 28 = .ok (.iload_n 3, 1) := by decide +kernel
theorem dX4_weighed_29 : decode cX4_weighed 29 = .ok (.iconst 2, 1) := by decide +kernel
theorem dX4_weighed_30 : decode cX4_weighed 30 = .ok (.if_icmp .le 6, 3) := by decide +kernel
theorem dX4_weighed_33 : decode cX4_weighed 33 = .ok (.bipush (-2), 2) := by decide +kernel
theorem dX4_weighed_35 : decode cX4_weighed 35 = .ok (.ireturn, 1) := by decide +kernel
theorem dX4_weighed_36 : decode cX4_weighed 36 = .ok (.iconst 0, 1) := by decide +kernel
theorem dX4_weighed_37 : decode cX4_weighed 37 = .ok (.istore 4, 2) := by decide +kernel
theorem dX4_weighed_39 : decode cX4_weighed 39 = .ok (.iload_n 1, 1) := by decide +kernel
theorem dX4_weighed_40 : decode cX4_weighed 40 = .ok (.istore 5, 2) := by decide +kernel
theorem dX4_weighed_42 : decode cX4_weighed 42 = .ok (.iconst 0, 1) := by decide +kernel
theorem dX4_weighed_43 : decode cX4_weighed 43 = .ok (.istore 6, 2) := by decide +kernel
theorem dX4_weighed_45 : decode cX4_weighed 45 = .ok (.iconst 0, 1) := by decide +kernel
theorem dX4_weighed_46 : decode cX4_weighed 46 = .ok (.istore 7, 2) := by decide +kernel
theorem dX4_weighed_48 : decode cX4_weighed 48 = .ok (.iload 7, 2) := by decide +kernel
theorem dX4_weighed_50 : decode cX4_weighed 50 = .ok (.iload_n 1, 1) := by decide +kernel
theorem dX4_weighed_51 : decode cX4_weighed 51 = .ok (.if_icmp .gt 46, 3) := by decide +kernel
theorem dX4_weighed_54 : decode cX4_weighed 54 = .ok (.iload 7, 2) := by decide +kernel
theorem dX4_weighed_56 : decode cX4_weighed 56 = .ok (.iload_n 1, 1) := by decide +kernel
theorem dX4_weighed_57 : decode cX4_weighed 57 = .ok (.iconst (-1), 1) := by decide +kernel
theorem dX4_weighed_58 : decode cX4_weighed 58 = .ok (.ixor, 1) := by decide +kernel
theorem dX4_weighed_59 : decode cX4_weighed 59 = .ok (.iand, 1) := by decide +kernel
theorem dX4_weighed_60 : decode cX4_weighed 60 = .ok (.ifCond .ne 31, 3) := by decide +kernel
theorem dX4_weighed_63 : decode cX4_weighed 63 = .ok (.aload_n 0, 1) := by decide +kernel
theorem dX4_weighed_64 : decode cX4_weighed 64 = .ok (.iload_n 1, 1) := by decide +kernel
theorem dX4_weighed_65 : decode cX4_weighed 65 = .ok (.iload 7, 2) := by decide +kernel
theorem dX4_weighed_67 : decode cX4_weighed 67 = .ok (.invokevirtual 189, 3) := by decide +kernel
theorem dX4_weighed_70 : decode cX4_weighed 70 = .ok (.iload_n 2, 1) := by decide +kernel
theorem dX4_weighed_71 : decode cX4_weighed 71 = .ok (.if_icmp .ne 20, 3) := by decide +kernel
theorem dX4_weighed_74 : decode cX4_weighed 74 = .ok (.iinc 4 1, 3) := by decide +kernel
theorem dX4_weighed_77 : decode cX4_weighed 77 = .ok (.iload 5, 2) := by decide +kernel
theorem dX4_weighed_79 : decode cX4_weighed 79 = .ok (.iload 7, 2) := by decide +kernel
theorem dX4_weighed_81 : decode cX4_weighed 81 = .ok (.iand, 1) := by decide +kernel
theorem dX4_weighed_82 : decode cX4_weighed 82 = .ok (.istore 5, 2) := by decide +kernel
theorem dX4_weighed_84 : decode cX4_weighed 84 = .ok (.iload 6, 2) := by decide +kernel
theorem dX4_weighed_86 : decode cX4_weighed 86 = .ok (.iload 7, 2) := by decide +kernel
theorem dX4_weighed_88 : decode cX4_weighed 88 = .ok (.ior, 1) := by decide +kernel
theorem dX4_weighed_89 : decode cX4_weighed 89 = .ok (.istore 6, 2) := by decide +kernel
theorem dX4_weighed_91 : decode cX4_weighed 91 = .ok (.iinc 7 1, 3) := by decide +kernel
theorem dX4_weighed_94 : decode cX4_weighed 94 = .ok (.goto (-46), 3) := by decide +kernel
theorem dX4_weighed_97 : decode cX4_weighed 97 = .ok (.iload_n 3, 1) := by decide +kernel
theorem dX4_weighed_98 : decode cX4_weighed 98 = .ok (.ifCond .ne 6, 3) := by decide +kernel
theorem dX4_weighed_101 : decode cX4_weighed 101 = .ok (.iload 4, 2) := by decide +kernel
theorem dX4_weighed_103 : decode cX4_weighed 103 = .ok (.ireturn, 1) := by decide +kernel
theorem dX4_weighed_104 : decode cX4_weighed 104 = .ok (.iload 4, 2) := by decide +kernel
theorem dX4_weighed_106 : decode cX4_weighed 106 = .ok (.ifCond .ne 6, 3) := by decide +kernel
theorem dX4_weighed_109 : decode cX4_weighed 109 = .ok (.bipush (-9), 2) := by decide +kernel
theorem dX4_weighed_111 : decode cX4_weighed 111 = .ok (.ireturn, 1) := by decide +kernel
theorem dX4_weighed_112 : decode cX4_weighed 112 = .ok (.iload_n 3, 1) := by decide +kernel
theorem dX4_weighed_113 : decode cX4_weighed 113 = .ok (.iconst 1, 1) := by decide +kernel
theorem dX4_weighed_114 : decode cX4_weighed 114 = .ok (.if_icmp .ne 8, 3) := by decide +kernel
theorem dX4_weighed_117 : decode cX4_weighed 117 = .ok (.iload 5, 2) := by decide +kernel
theorem dX4_weighed_119 : decode cX4_weighed 119 = .ok (.goto 9, 3) := by decide +kernel
theorem dX4_weighed_122 : decode cX4_weighed 122 = .ok (.iload_n 1, 1) := by decide +kernel
theorem dX4_weighed_123 : decode cX4_weighed 123 = .ok (.iload 6, 2) := by decide +kernel
theorem dX4_weighed_125 : decode cX4_weighed 125 = .ok (.iconst (-1), 1) := by decide +kernel
theorem dX4_weighed_126 : decode cX4_weighed 126 = .ok (.ixor, 1) := by decide +kernel
theorem dX4_weighed_127 : decode cX4_weighed 127 = .ok (.iand, 1) := by decide +kernel
theorem dX4_weighed_128 : decode cX4_weighed 128 = .ok (.ireturn, 1) := by decide +kernel
theorem dX4_whose_0 : decode cX4_whose 0 = .ok (.iload_n 1, 1) := by decide +kernel
theorem dX4_whose_1 : decode cX4_whose 1 = .ok (.iconst 1, 1) := by decide +kernel
theorem dX4_whose_2 : decode cX4_whose 2 = .ok (.if_icmp .lt 9, 3) := by decide +kernel
theorem dX4_whose_5 : decode cX4_whose 5 = .ok (.iload_n 1, 1) := by decide +kernel
theorem dX4_whose_6 : decode cX4_whose 6 = .ok (.bipush 9, 2) := by decide +kernel
theorem dX4_whose_8 : decode cX4_whose 8 = .ok (.if_icmp .le 6, 3) := by decide +kernel
theorem dX4_whose_11 : decode cX4_whose 11 = .ok (.bipush (-2), 2) := by decide +kernel
theorem dX4_whose_13 : decode cX4_whose 13 = .ok (.ireturn, 1) := by decide +kernel
theorem dX4_whose_14 : decode cX4_whose 14 = .ok (.iconst 0, 1) := by decide +kernel
theorem dX4_whose_15 : decode cX4_whose 15 = .ok (.istore_n 2, 1) := by decide +kernel
theorem dX4_whose_16 : decode cX4_whose 16 = .ok (.iconst 0, 1) := by decide +kernel
theorem dX4_whose_17 : decode cX4_whose 17 = .ok (.istore_n 3, 1) := by decide +kernel
theorem dX4_whose_18 : decode cX4_whose 18 = .ok (.iload_n 3, 1) := by decide +kernel
theorem dX4_whose_19 : decode cX4_whose 19 = .ok (.aload_n 0, 1) := by decide +kernel
theorem dX4_whose_20 : decode cX4_whose 20 = .ok (.getfield 19, 3) := by decide +kernel
theorem dX4_whose_23 : decode cX4_whose 23 = .ok (.getfield 74, 3) := by decide +kernel
theorem dX4_whose_26 : decode cX4_whose 26 = .ok (.if_icmp .ge 27, 3) := by decide +kernel
theorem dX4_whose_29 : decode cX4_whose 29 = .ok (.aload_n 0, 1) := by decide +kernel
theorem dX4_whose_30 : decode cX4_whose 30 = .ok (.getfield 19, 3) := by decide +kernel
theorem dX4_whose_33 : decode cX4_whose 33 = .ok (.iload_n 3, 1) := by decide +kernel
theorem dX4_whose_34 : decode cX4_whose 34 = .ok (.invokevirtual 106, 3) := by decide +kernel
theorem dX4_whose_37 : decode cX4_whose 37 = .ok (.iload_n 1, 1) := by decide +kernel
theorem dX4_whose_38 : decode cX4_whose 38 = .ok (.if_icmp .ne 9, 3) := by decide +kernel
theorem dX4_whose_41 : decode cX4_whose 41 = .ok (.iload_n 2, 1) := by decide +kernel
theorem dX4_whose_42 : decode cX4_whose 42 = .ok (.iconst 1, 1) := by decide +kernel
theorem dX4_whose_43 : decode cX4_whose 43 = .ok (.iload_n 3, 1) := by decide +kernel
theorem dX4_whose_44 : decode cX4_whose 44 = .ok (.ishl, 1) := by decide +kernel
theorem dX4_whose_45 : decode cX4_whose 45 = .ok (.ior, 1) := by decide +kernel
theorem dX4_whose_46 : decode cX4_whose 46 = .ok (.istore_n 2, 1) := by decide +kernel
theorem dX4_whose_47 : decode cX4_whose 47 = .ok (.iinc 3 1, 3) := by decide +kernel
theorem dX4_whose_50 : decode cX4_whose 50 = .ok (.goto (-32), 3) := by decide +kernel
theorem dX4_whose_53 : decode cX4_whose 53 = .ok (.iload_n 2, 1) := by decide +kernel
theorem dX4_whose_54 : decode cX4_whose 54 = .ok (.ireturn, 1) := by decide +kernel
theorem dX4_rests_0 : decode cX4_rests 0 = .ok (.aload_n 0, 1) := by decide +kernel
theorem dX4_rests_1 : decode cX4_rests 1 = .ok (.getfield 19, 3) := by decide +kernel
theorem dX4_rests_4 : decode cX4_rests 4 = .ok (.iload_n 1, 1) := by decide +kernel
theorem dX4_rests_5 : decode cX4_rests 5 = .ok (.invokevirtual 90, 3) := by decide +kernel
theorem dX4_rests_8 : decode cX4_rests 8 = .ok (.ifCond .eq 25, 3) := by decide +kernel
theorem dX4_rests_11 : decode cX4_rests 11 = .ok (.aload_n 0, 1) := by decide +kernel
theorem dX4_rests_12 : decode cX4_rests 12 = .ok (.getfield 19, 3) := by decide +kernel
theorem dX4_rests_15 : decode cX4_rests 15 = .ok (.iload_n 2, 1) := by decide +kernel
theorem dX4_rests_16 : decode cX4_rests 16 = .ok (.invokevirtual 90, 3) := by decide +kernel
theorem dX4_rests_19 : decode cX4_rests 19 = .ok (.ifCond .eq 14, 3) := by decide +kernel
theorem dX4_rests_22 : decode cX4_rests 22 = .ok (.aload_n 0, 1) := by decide +kernel
theorem dX4_rests_23 : decode cX4_rests 23 = .ok (.getfield 19, 3) := by decide +kernel
theorem dX4_rests_26 : decode cX4_rests 26 = .ok (.iload_n 3, 1) := by decide +kernel
theorem dX4_rests_27 : decode cX4_rests 27 = .ok (.invokevirtual 90, 3) := by decide +kernel
theorem dX4_rests_30 : decode cX4_rests 30 = .ok (.ifCond .ne 5, 3) := by decide +kernel
theorem dX4_rests_33 : decode cX4_rests 33 = .ok (.iconst (-1), 1) := by decide +kernel
theorem dX4_rests_34 : decode cX4_rests 34 = .ok (.ireturn, 1) := by decide +kernel
theorem dX4_rests_35 : decode cX4_rests 35 = .ok (.iload_n 1, 1) := by decide +kernel
theorem dX4_rests_36 : decode cX4_rests 36 = .ok (.iload_n 2, 1) := by decide +kernel
theorem dX4_rests_37 : decode cX4_rests 37 = .ok (.if_icmp .eq 24, 3) := by decide +kernel
theorem dX4_rests_40 : decode cX4_rests 40 = .ok (.iload_n 1, 1) := by decide +kernel
theorem dX4_rests_41 : decode cX4_rests 41 = .ok (.iload_n 3, 1) := by decide +kernel
theorem dX4_rests_42 : decode cX4_rests 42 = .ok (.if_icmp .eq 19, 3) := by decide +kernel
theorem dX4_rests_45 : decode cX4_rests 45 = .ok (.iload_n 2, 1) := by decide +kernel
theorem dX4_rests_46 : decode cX4_rests 46 = .ok (.iload_n 3, 1) := by decide +kernel
theorem dX4_rests_47 : decode cX4_rests 47 = .ok (.if_icmp .eq 14, 3) := by decide +kernel
theorem dX4_rests_50 : decode cX4_rests 50 = .ok (.iload 4, 2) := by decide +kernel
theorem dX4_rests_52 : decode cX4_rests 52 = .ok (.ifCond .lt 9, 3) := by decide +kernel
theorem dX4_rests_55 : decode cX4_rests 55 = .ok (.iload 4, 2) := by decide +kernel
theorem dX4_rests_57 : decode cX4_rests 57 = .ok (.iconst 1, 1) := by decide +kernel
theorem dX4_rests_58 : decode cX4_rests 58 = .ok (.if_icmp .le 6, 3) := by decide +kernel
theorem dX4_rests_61 : decode cX4_rests 61 = .ok (.bipush (-2), 2) := by decide +kernel
theorem dX4_rests_63 : decode cX4_rests 63 = .ok (.ireturn, 1) := by decide +kernel
theorem dX4_rests_64 : decode cX4_rests 64 = .ok (.aload_n 0, 1) := by decide +kernel
theorem dX4_rests_65 : decode cX4_rests 65 = .ok (.getfield 19, 3) := by decide +kernel
theorem dX4_rests_68 : decode cX4_rests 68 = .ok (.iload_n 3, 1) := by decide +kernel
theorem dX4_rests_69 : decode cX4_rests 69 = .ok (.invokevirtual 117, 3) := by decide +kernel
theorem dX4_rests_72 : decode cX4_rests 72 = .ok (.ifCond .ne 6, 3) := by decide +kernel
theorem dX4_rests_75 : decode cX4_rests 75 = .ok (.bipush (-3), 2) := by decide +kernel
theorem dX4_rests_77 : decode cX4_rests 77 = .ok (.ireturn, 1) := by decide +kernel
theorem dX4_rests_78 : decode cX4_rests 78 = .ok (.aload_n 0, 1) := by decide +kernel
theorem dX4_rests_79 : decode cX4_rests 79 = .ok (.getfield 19, 3) := by decide +kernel
theorem dX4_rests_82 : decode cX4_rests 82 = .ok (.iload_n 1, 1) := by decide +kernel
theorem dX4_rests_83 : decode cX4_rests 83 = .ok (.iload_n 3, 1) := by decide +kernel
theorem dX4_rests_84 : decode cX4_rests 84 = .ok (.invokevirtual 132, 3) := by decide +kernel
theorem dX4_rests_87 : decode cX4_rests 87 = .ok (.istore 5, 2) := by decide +kernel
theorem dX4_rests_89 : decode cX4_rests 89 = .ok (.aload_n 0, 1) := by decide +kernel
theorem dX4_rests_90 : decode cX4_rests 90 = .ok (.getfield 19, 3) := by decide +kernel
theorem dX4_rests_93 : decode cX4_rests 93 = .ok (.iload_n 2, 1) := by decide +kernel
theorem dX4_rests_94 : decode cX4_rests 94 = .ok (.iload_n 3, 1) := by decide +kernel
theorem dX4_rests_95 : decode cX4_rests 95 = .ok (.invokevirtual 132, 3) := by decide +kernel
theorem dX4_rests_98 : decode cX4_rests 98 = .ok (.istore 6, 2) := by decide +kernel
theorem dX4_rests_100 : decode cX4_rests 100 = .ok (.iconst 0, 1) := by decide +kernel
theorem dX4_rests_101 : decode cX4_rests 101 = .ok (.istore 7, 2) := by decide +kernel
theorem dX4_rests_103 : decode cX4_rests 103 = .ok (.bipush (-9), 2) := by decide +kernel
theorem dX4_rests_105 : decode cX4_rests 105 = .ok (.istore 8, 2) := by decide +kernel
theorem dX4_rests_107 : decode cX4_rests 107 = .ok (.iconst 0, 1) := by decide +kernel
theorem dX4_rests_108 : decode cX4_rests 108 = .ok (.istore 9, 2) := by decide +kernel
theorem dX4_rests_110 : decode cX4_rests 110 = .ok (.iload 9, 2) := by decide +kernel
theorem dX4_rests_112 : decode cX4_rests 112 = .ok (.iconst 3, 1) := by decide +kernel
theorem dX4_rests_113 : decode cX4_rests 113 = .ok (.if_icmp .gt 61, 3) := by decide +kernel
theorem dX4_rests_116 : decode cX4_rests 116 = .ok (.iconst 0, 1) := by decide +kernel
theorem dX4_rests_117 : decode cX4_rests 117 = .ok (.istore 10, 2) := by decide +kernel
theorem dX4_rests_119 : decode cX4_rests 119 = .ok (.iload 10, 2) := by decide +kernel
theorem dX4_rests_121 : decode cX4_rests 121 = .ok (.iconst 3, 1) := by decide +kernel
theorem dX4_rests_122 : decode cX4_rests 122 = .ok (.if_icmp .gt 46, 3) := by decide +kernel
theorem dX4_rests_125 : decode cX4_rests 125 = .ok (.iload 9, 2) := by decide +kernel
theorem dX4_rests_127 : decode cX4_rests 127 = .ok (.iload 10, 2) := by decide +kernel
theorem dX4_rests_129 : decode cX4_rests 129 = .ok (.iload 5, 2) := by decide +kernel
theorem dX4_rests_131 : decode cX4_rests 131 = .ok (.iload 6, 2) := by decide +kernel
theorem dX4_rests_133 : decode cX4_rests 133 = .ok (.invokestatic 192, 3) := by decide +kernel
theorem dX4_rests_136 : decode cX4_rests 136 = .ok (.ifCond .eq 26, 3) := by decide +kernel
theorem dX4_rests_139 : decode cX4_rests 139 = .ok (.iload 7, 2) := by decide +kernel
theorem dX4_rests_141 : decode cX4_rests 141 = .ok (.ifCond .ne 14, 3) := by decide +kernel
theorem dX4_rests_144 : decode cX4_rests 144 = .ok (.bipush 10, 2) := by decide +kernel
theorem dX4_rests_146 : decode cX4_rests 146 = .ok (.iload 9, 2) := by decide +kernel
theorem dX4_rests_148 : decode cX4_rests 148 = .ok (.imul, 1) := by decide +kernel
theorem dX4_rests_149 : decode cX4_rests 149 = .ok (.iload 10, 2) := by decide +kernel
theorem dX4_rests_151 : decode cX4_rests 151 = .ok (.iadd, 1) := by decide +kernel
theorem dX4_rests_152 : decode cX4_rests 152 = .ok (.goto 5, 3) := by decide +kernel
theorem dX4_rests_155 : decode cX4_rests 155 = .ok (.iload 8, 2) := by decide +kernel
theorem dX4_rests_157 : decode cX4_rests 157 = .ok (.istore 8, 2) := by decide +kernel
theorem dX4_rests_159 : decode cX4_rests 159 = .ok (.iinc 7 1, 3) := by decide +kernel
theorem dX4_rests_162 : decode cX4_rests 162 = .ok (.iinc 10 1, 3) := by decide +kernel
theorem dX4_rests_165 : decode cX4_rests 165 = .ok (.goto (-46), 3) := by decide +kernel
theorem dX4_rests_168 : decode cX4_rests 168 = .ok (.iinc 9 1, 3) := by decide +kernel
theorem dX4_rests_171 : decode cX4_rests 171 = .ok (.goto (-61), 3) := by decide +kernel
theorem dX4_rests_174 : decode cX4_rests 174 = .ok (.iload 4, 2) := by decide +kernel
theorem dX4_rests_176 : decode cX4_rests 176 = .ok (.ifCond .ne 8, 3) := by decide +kernel
theorem dX4_rests_179 : decode cX4_rests 179 = .ok (.iload 7, 2) := by decide +kernel
theorem dX4_rests_181 : decode cX4_rests 181 = .ok (.goto 5, 3) := by decide +kernel
theorem dX4_rests_184 : decode cX4_rests 184 = .ok (.iload 8, 2) := by decide +kernel
theorem dX4_rests_186 : decode cX4_rests 186 = .ok (.ireturn, 1) := by decide +kernel
theorem dX4_chance_0 : decode cX4_chance 0 = .ok (.iload_n 1, 1) := by decide +kernel
theorem dX4_chance_1 : decode cX4_chance 1 = .ok (.ifCond .lt 9, 3) := by decide +kernel
theorem dX4_chance_4 : decode cX4_chance 4 = .ok (.iload_n 1, 1) := by decide +kernel
theorem dX4_chance_5 : decode cX4_chance 5 = .ok (.bipush 10, 2) := by decide +kernel
theorem dX4_chance_7 : decode cX4_chance 7 = .ok (.if_icmp .le 6, 3) := by decide +kernel
theorem dX4_chance_10 : decode cX4_chance 10 = .ok (.bipush (-2), 2) := by decide +kernel
theorem dX4_chance_12 : decode cX4_chance 12 = .ok (.ireturn, 1) := by decide +kernel
theorem dX4_chance_13 : decode cX4_chance 13 = .ok (.aload_n 0, 1) := by decide +kernel
theorem dX4_chance_14 : decode cX4_chance 14 = .ok (.getfield 19, 3) := by decide +kernel
theorem dX4_chance_17 : decode cX4_chance 17 = .ok (.invokevirtual 152, 3) := by decide +kernel
theorem dX4_chance_20 : decode cX4_chance 20 = .ok (.istore_n 3, 1) := by decide +kernel
theorem dX4_chance_21 : decode cX4_chance 21 = .ok (.iload_n 3, 1) := by decide +kernel
theorem dX4_chance_22 : decode cX4_chance 22 = .ok (.invokestatic 127, 3) := by decide +kernel
theorem dX4_chance_25 : decode cX4_chance 25 = .ok (.istore 4, 2) := by decide +kernel
theorem dX4_chance_27 : decode cX4_chance 27 = .ok (.iconst 0, 1) := by decide +kernel
theorem dX4_chance_28 : decode cX4_chance 28 = .ok (.istore 5, 2) := by decide +kernel
theorem dX4_chance_30 : decode cX4_chance 30 = .ok (.iconst 0, 1) := by decide +kernel
theorem dX4_chance_31 : decode cX4_chance 31 = .ok (.istore 6, 2) := by decide +kernel
theorem dX4_chance_33 : decode cX4_chance 33 = .ok (.iload 6, 2) := by decide +kernel
theorem dX4_chance_35 : decode cX4_chance 35 = .ok (.iload_n 3, 1) := by decide +kernel
theorem dX4_chance_36 : decode cX4_chance 36 = .ok (.if_icmp .gt 66, 3) := by decide +kernel
theorem dX4_chance_39 : decode cX4_chance 39 = .ok (.iload 6, 2) := by decide +kernel
theorem dX4_chance_41 : decode cX4_chance 41 = .ok (.iload_n 3, 1) := by decide +kernel
theorem dX4_chance_42 : decode cX4_chance 42 = .ok (.iconst (-1), 1) := by decide +kernel
theorem dX4_chance_43 : decode cX4_chance 43 = .ok (.ixor, 1) := by decide +kernel
theorem dX4_chance_44 : decode cX4_chance 44 = .ok (.iand, 1) := by decide +kernel
theorem dX4_chance_45 : decode cX4_chance 45 = .ok (.ifCond .ne 51, 3) := by decide +kernel
theorem dX4_chance_48 : decode cX4_chance 48 = .ok (.aload_n 0, 1) := by decide +kernel
theorem dX4_chance_49 : decode cX4_chance 49 = .ok (.aload_n 0, 1) := by decide +kernel
theorem dX4_chance_50 : decode cX4_chance 50 = .ok (.getfield 19, 3) := by decide +kernel
theorem dX4_chance_53 : decode cX4_chance 53 = .ok (.getfield 77, 3) := by decide +kernel
theorem dX4_chance_56 : decode cX4_chance 56 = .ok (.iload 6, 2) := by decide +kernel
theorem dX4_chance_58 : decode cX4_chance 58 = .ok (.ior, 1) := by decide +kernel
theorem dX4_chance_59 : decode cX4_chance 59 = .ok (.invokevirtual 196, 3) := by decide +kernel
theorem dX4_chance_62 : decode cX4_chance 62 = .ok (.ifCond .eq 34, 3) := by decide +kernel
theorem dX4_chance_65 : decode cX4_chance 65 = .ok (.iload 6, 2) := by decide +kernel
theorem dX4_chance_67 : decode cX4_chance 67 = .ok (.invokestatic 127, 3) := by decide +kernel
theorem dX4_chance_70 : decode cX4_chance 70 = .ok (.istore 7, 2) := by decide +kernel
theorem dX4_chance_72 : decode cX4_chance 72 = .ok (.iload 5, 2) := by decide +kernel
theorem dX4_chance_74 : decode cX4_chance 74 = .ok (.iload_n 1, 1) := by decide +kernel
theorem dX4_chance_75 : decode cX4_chance 75 = .ok (.iload 7, 2) := by decide +kernel
theorem dX4_chance_77 : decode cX4_chance 77 = .ok (.invokestatic 199, 3) := by decide +kernel
theorem dX4_chance_80 : decode cX4_chance 80 = .ok (.bipush 10, 2) := by decide +kernel
theorem dX4_chance_82 : decode cX4_chance 82 = .ok (.iload_n 1, 1) := by decide +kernel
theorem dX4_chance_83 : decode cX4_chance 83 = .ok (.isub, 1) := by decide +kernel
theorem dX4_chance_84 : decode cX4_chance 84 = .ok (.iload 4, 2) := by decide +kernel
theorem dX4_chance_86 : decode cX4_chance 86 = .ok (.iload 7, 2) := by decide +kernel
theorem dX4_chance_88 : decode cX4_chance 88 = .ok (.isub, 1) := by decide +kernel
theorem dX4_chance_89 : decode cX4_chance 89 = .ok (.invokestatic 199, 3) := by decide +kernel
theorem dX4_chance_92 : decode cX4_chance 92 = .ok (.imul, 1) := by decide +kernel
theorem dX4_chance_93 : decode cX4_chance 93 = .ok (.iadd, 1) := by decide +kernel
theorem dX4_chance_94 : decode cX4_chance 94 = .ok (.istore 5, 2) := by decide +kernel
theorem dX4_chance_96 : decode cX4_chance 96 = .ok (.iinc 6 1, 3) := by decide +kernel
theorem dX4_chance_99 : decode cX4_chance 99 = .ok (.goto (-66), 3) := by decide +kernel
theorem dX4_chance_102 : decode cX4_chance 102 = .ok (.iload 5, 2) := by decide +kernel
theorem dX4_chance_104 : decode cX4_chance 104 = .ok (.bipush 10, 2) := by decide +kernel
theorem dX4_chance_106 : decode cX4_chance 106 = .ok (.iload 4, 2) := by decide +kernel
theorem dX4_chance_108 : decode cX4_chance 108 = .ok (.invokestatic 199, 3) := by decide +kernel
theorem dX4_chance_111 : decode cX4_chance 111 = .ok (.iload_n 2, 1) := by decide +kernel
theorem dX4_chance_112 : decode cX4_chance 112 = .ok (.invokestatic 176, 3) := by decide +kernel
theorem dX4_chance_115 : decode cX4_chance 115 = .ok (.ireturn, 1) := by decide +kernel
theorem dX4_seed_0 : decode cX4_seed 0 = .ok (.aload_n 0, 1) := by decide +kernel
theorem dX4_seed_1 : decode cX4_seed 1 = .ok (.getfield 48, 3) := by decide +kernel
theorem dX4_seed_4 : decode cX4_seed 4 = .ok (.lstore_n 3, 1) := by decide +kernel
theorem dX4_seed_5 : decode cX4_seed 5 = .ok (.aload_n 0, 1) := by decide +kernel
theorem dX4_seed_6 : decode cX4_seed 6 = .ok (.lload_n 1, 1) := by decide +kernel
theorem dX4_seed_7 : decode cX4_seed 7 = .ok (.putfield 48, 3) := by decide +kernel
theorem dX4_seed_10 : decode cX4_seed 10 = .ok (.lload_n 3, 1) := by decide +kernel
theorem dX4_seed_11 : decode cX4_seed 11 = .ok (.lreturn, 1) := by decide +kernel
theorem dX4_years_0 : decode cX4_years 0 = .ok (.iload_n 1, 1) := by decide +kernel
theorem dX4_years_1 : decode cX4_years 1 = .ok (.iconst 1, 1) := by decide +kernel
theorem dX4_years_2 : decode cX4_years 2 = .ok (.if_icmp .lt 9, 3) := by decide +kernel
theorem dX4_years_5 : decode cX4_years 5 = .ok (.iload_n 1, 1) := by decide +kernel
theorem dX4_years_6 : decode cX4_years 6 = .ok (.bipush 20, 2) := by decide +kernel
theorem dX4_years_8 : decode cX4_years 8 = .ok (.if_icmp .le 6, 3) := by decide +kernel
theorem dX4_years_11 : decode cX4_years 11 = .ok (.bipush (-2), 2) := by decide +kernel
theorem dX4_years_13 : decode cX4_years 13 = .ok (.ireturn, 1) := by decide +kernel
theorem dX4_years_14 : decode cX4_years 14 = .ok (.aload_n 0, 1) := by decide +kernel
theorem dX4_years_15 : decode cX4_years 15 = .ok (.getfield 23, 3) := by decide +kernel
theorem dX4_years_18 : decode cX4_years 18 = .ok (.aload_n 0, 1) := by decide +kernel
theorem dX4_years_19 : decode cX4_years 19 = .ok (.getfield 19, 3) := by decide +kernel
theorem dX4_years_22 : decode cX4_years 22 = .ok (.invokevirtual 67, 3) := by decide +kernel
theorem dX4_years_25 : decode cX4_years 25 = .ok (.iconst 0, 1) := by decide +kernel
theorem dX4_years_26 : decode cX4_years 26 = .ok (.istore_n 2, 1) := by decide +kernel
theorem dX4_years_27 : decode cX4_years 27 = .ok (.iconst 0, 1) := by decide +kernel
theorem dX4_years_28 : decode cX4_years 28 = .ok (.istore_n 3, 1) := by decide +kernel
theorem dX4_years_29 : decode cX4_years 29 = .ok (.iload_n 3, 1) := by decide +kernel
theorem dX4_years_30 : decode cX4_years 30 = .ok (.iload_n 1, 1) := by decide +kernel
theorem dX4_years_31 : decode cX4_years 31 = .ok (.if_icmp .ge 81, 3) := by decide +kernel
theorem dX4_years_34 : decode cX4_years 34 = .ok (.aload_n 0, 1) := by decide +kernel
theorem dX4_years_35 : decode cX4_years 35 = .ok (.aload_n 0, 1) := by decide +kernel
theorem dX4_years_36 : decode cX4_years 36 = .ok (.getfield 48, 3) := by decide +kernel
theorem dX4_years_39 : decode cX4_years 39 = .ok (.ldc2_w 202, 3) := by decide +kernel
theorem dX4_years_42 : decode cX4_years 42 = .ok (.lmul, 1) := by decide +kernel
theorem dX4_years_43 : decode cX4_years 43 = .ok (.ldc2_w 204, 3) := by decide +kernel
theorem dX4_years_46 : decode cX4_years 46 = .ok (.ladd, 1) := by decide +kernel
theorem dX4_years_47 : decode cX4_years 47 = .ok (.putfield 48, 3) := by decide +kernel
theorem dX4_years_50 : decode cX4_years 50 = .ok (.aload_n 0, 1) := by decide +kernel
theorem dX4_years_51 : decode cX4_years 51 = .ok (.getfield 48, 3) := by decide +kernel
theorem dX4_years_54 : decode cX4_years 54 = .ok (.bipush 33, 2) := by decide +kernel
theorem dX4_years_56 : decode cX4_years 56 = .ok (.lushr, 1) := by decide +kernel
theorem dX4_years_57 : decode cX4_years 57 = .ok (.ldc2_w 206, 3) := by decide +kernel
theorem dX4_years_60 : decode cX4_years 60 = .ok (.lrem, 1) := by decide +kernel
theorem dX4_years_61 : decode cX4_years 61 = .ok (.l2i, 1) := by decide +kernel
theorem dX4_years_62 : decode cX4_years 62 = .ok (.istore 4, 2) := by decide +kernel
theorem dX4_years_64 : decode cX4_years 64 = .ok (.aload_n 0, 1) := by decide +kernel
theorem dX4_years_65 : decode cX4_years 65 = .ok (.getfield 23, 3) := by decide +kernel
theorem dX4_years_68 : decode cX4_years 68 = .ok (.iload 4, 2) := by decide +kernel
theorem dX4_years_70 : decode cX4_years 70 = .ok (.bipush 10, 2) := by decide +kernel
theorem dX4_years_72 : decode cX4_years 72 = .ok (.idiv, 1) := by decide +kernel
theorem dX4_years_73 : decode cX4_years 73 = .ok (.invokevirtual 123, 3) := by decide +kernel
theorem dX4_years_76 : decode cX4_years 76 = .ok (.aload_n 0, 1) := by decide +kernel
theorem dX4_years_77 : decode cX4_years 77 = .ok (.getfield 23, 3) := by decide +kernel
theorem dX4_years_80 : decode cX4_years 80 = .ok (.iload 4, 2) := by decide +kernel
theorem dX4_years_82 : decode cX4_years 82 = .ok (.bipush 10, 2) := by decide +kernel
theorem dX4_years_84 : decode cX4_years 84 = .ok (.irem, 1) := by decide +kernel
theorem dX4_years_85 : decode cX4_years 85 = .ok (.iload 4, 2) := by decide +kernel
theorem dX4_years_87 : decode cX4_years 87 = .ok (.bipush 10, 2) := by decide +kernel
theorem dX4_years_89 : decode cX4_years 89 = .ok (.idiv, 1) := by decide +kernel
theorem dX4_years_90 : decode cX4_years 90 = .ok (.invokevirtual 136, 3) := by decide +kernel
theorem dX4_years_93 : decode cX4_years 93 = .ok (.ifCond .le 6, 3) := by decide +kernel
theorem dX4_years_96 : decode cX4_years 96 = .ok (.iinc 2 1, 3) := by decide +kernel
theorem dX4_years_99 : decode cX4_years 99 = .ok (.aload_n 0, 1) := by decide +kernel
theorem dX4_years_100 : decode cX4_years 100 = .ok (.getfield 23, 3) := by decide +kernel
theorem dX4_years_103 : decode cX4_years 103 = .ok (.invokevirtual 146, 3) := by decide +kernel
theorem dX4_years_106 : decode cX4_years 106 = .ok (.iinc 3 1, 3) := by decide +kernel
theorem dX4_years_109 : decode cX4_years 109 = .ok (.goto (-80), 3) := by decide +kernel
theorem dX4_years_112 : decode cX4_years 112 = .ok (.iload_n 2, 1) := by decide +kernel
theorem dX4_years_113 : decode cX4_years 113 = .ok (.ireturn, 1) := by decide +kernel
theorem dX4_keep_0 : decode cX4_keep 0 = .ok (.iload_n 1, 1) := by decide +kernel
theorem dX4_keep_1 : decode cX4_keep 1 = .ok (.ifCond .lt 8, 3) := by decide +kernel
theorem dX4_keep_4 : decode cX4_keep 4 = .ok (.iload_n 1, 1) := by decide +kernel
theorem dX4_keep_5 : decode cX4_keep 5 = .ok (.iconst 2, 1) := by decide +kernel
theorem dX4_keep_6 : decode cX4_keep 6 = .ok (.if_icmp .lt 5, 3) := by decide +kernel
theorem dX4_keep_9 : decode cX4_keep 9 = .ok (.iconst (-1), 1) := by decide +kernel
theorem dX4_keep_10 : decode cX4_keep 10 = .ok (.ireturn, 1) := by decide +kernel
theorem dX4_keep_11 : decode cX4_keep 11 = .ok (.aload_n 0, 1) := by decide +kernel
theorem dX4_keep_12 : decode cX4_keep 12 = .ok (.getfield 33, 3) := by decide +kernel
theorem dX4_keep_15 : decode cX4_keep 15 = .ok (.iload_n 1, 1) := by decide +kernel
theorem dX4_keep_16 : decode cX4_keep 16 = .ok (.aaload, 1) := by decide +kernel
theorem dX4_keep_17 : decode cX4_keep 17 = .ok (.aload_n 0, 1) := by decide +kernel
theorem dX4_keep_18 : decode cX4_keep 18 = .ok (.getfield 19, 3) := by decide +kernel
theorem dX4_keep_21 : decode cX4_keep 21 = .ok (.invokevirtual 67, 3) := by decide +kernel
theorem dX4_keep_24 : decode cX4_keep 24 = .ok (.aload_n 0, 1) := by decide +kernel
theorem dX4_keep_25 : decode cX4_keep 25 = .ok (.getfield 37, 3) := by decide +kernel
theorem dX4_keep_28 : decode cX4_keep 28 = .ok (.iload_n 1, 1) := by decide +kernel
theorem dX4_keep_29 : decode cX4_keep 29 = .ok (.iconst 1, 1) := by decide +kernel
theorem dX4_keep_30 : decode cX4_keep 30 = .ok (.bastore, 1) := by decide +kernel
theorem dX4_keep_31 : decode cX4_keep 31 = .ok (.aload_n 0, 1) := by decide +kernel
theorem dX4_keep_32 : decode cX4_keep 32 = .ok (.getfield 19, 3) := by decide +kernel
theorem dX4_keep_35 : decode cX4_keep 35 = .ok (.getfield 80, 3) := by decide +kernel
theorem dX4_keep_38 : decode cX4_keep 38 = .ok (.ireturn, 1) := by decide +kernel
theorem dX4_again_0 : decode cX4_again 0 = .ok (.iload_n 1, 1) := by decide +kernel
theorem dX4_again_1 : decode cX4_again 1 = .ok (.ifCond .lt 8, 3) := by decide +kernel
theorem dX4_again_4 : decode cX4_again 4 = .ok (.iload_n 1, 1) := by decide +kernel
theorem dX4_again_5 : decode cX4_again 5 = .ok (.iconst 2, 1) := by decide +kernel
theorem dX4_again_6 : decode cX4_again 6 = .ok (.if_icmp .lt 5, 3) := by decide +kernel
theorem dX4_again_9 : decode cX4_again 9 = .ok (.iconst (-1), 1) := by decide +kernel
theorem dX4_again_10 : decode cX4_again 10 = .ok (.ireturn, 1) := by decide +kernel
theorem dX4_again_11 : decode cX4_again 11 = .ok (.aload_n 0, 1) := by decide +kernel
theorem dX4_again_12 : decode cX4_again 12 = .ok (.getfield 37, 3) := by decide +kernel
theorem dX4_again_15 : decode cX4_again 15 = .ok (.iload_n 1, 1) := by decide +kernel
theorem dX4_again_16 : decode cX4_again 16 = .ok (.baload, 1) := by decide +kernel
theorem dX4_again_17 : decode cX4_again 17 = .ok (.ifCond .ne 6, 3) := by decide +kernel
theorem dX4_again_20 : decode cX4_again 20 = .ok (.bipush (-3), 2) := by decide +kernel
theorem dX4_again_22 : decode cX4_again 22 = .ok (.ireturn, 1) := by decide +kernel
theorem dX4_again_23 : decode cX4_again 23 = .ok (.aload_n 0, 1) := by decide +kernel
theorem dX4_again_24 : decode cX4_again 24 = .ok (.getfield 19, 3) := by decide +kernel
theorem dX4_again_27 : decode cX4_again 27 = .ok (.aload_n 0, 1) := by decide +kernel
theorem dX4_again_28 : decode cX4_again 28 = .ok (.getfield 33, 3) := by decide +kernel
theorem dX4_again_31 : decode cX4_again 31 = .ok (.iload_n 1, 1) := by decide +kernel
theorem dX4_again_32 : decode cX4_again 32 = .ok (.aaload, 1) := by decide +kernel
theorem dX4_again_33 : decode cX4_again 33 = .ok (.invokevirtual 67, 3) := by decide +kernel
theorem dX4_again_36 : decode cX4_again 36 = .ok (.aload_n 0, 1) := by decide +kernel
theorem dX4_again_37 : decode cX4_again 37 = .ok (.getfield 29, 3) := by decide +kernel
theorem dX4_again_40 : decode cX4_again 40 = .ok (.invokevirtual 71, 3) := by decide +kernel
theorem dX4_again_43 : decode cX4_again 43 = .ok (.aload_n 0, 1) := by decide +kernel
theorem dX4_again_44 : decode cX4_again 44 = .ok (.getfield 19, 3) := by decide +kernel
theorem dX4_again_47 : decode cX4_again 47 = .ok (.getfield 80, 3) := by decide +kernel
theorem dX4_again_50 : decode cX4_again 50 = .ok (.ireturn, 1) := by decide +kernel
theorem dX4_gain_0 : decode cX4_gain 0 = .ok (.aload_n 0, 1) := by decide +kernel
theorem dX4_gain_1 : decode cX4_gain 1 = .ok (.getfield 44, 3) := by decide +kernel
theorem dX4_gain_4 : decode cX4_gain 4 = .ok (.aload_n 0, 1) := by decide +kernel
theorem dX4_gain_5 : decode cX4_gain 5 = .ok (.getfield 19, 3) := by decide +kernel
theorem dX4_gain_8 : decode cX4_gain 8 = .ok (.aload_n 0, 1) := by decide +kernel
theorem dX4_gain_9 : decode cX4_gain 9 = .ok (.getfield 19, 3) := by decide +kernel
theorem dX4_gain_12 : decode cX4_gain 12 = .ok (.getfield 77, 3) := by decide +kernel
theorem dX4_gain_15 : decode cX4_gain 15 = .ok (.iload_n 2, 1) := by decide +kernel
theorem dX4_gain_16 : decode cX4_gain 16 = .ok (.invokevirtual 155, 3) := by decide +kernel
theorem dX4_gain_19 : decode cX4_gain 19 = .ok (.istore_n 3, 1) := by decide +kernel
theorem dX4_gain_20 : decode cX4_gain 20 = .ok (.aload_n 0, 1) := by decide +kernel
theorem dX4_gain_21 : decode cX4_gain 21 = .ok (.getfield 44, 3) := by decide +kernel
theorem dX4_gain_24 : decode cX4_gain 24 = .ok (.aload_n 0, 1) := by decide +kernel
theorem dX4_gain_25 : decode cX4_gain 25 = .ok (.getfield 19, 3) := by decide +kernel
theorem dX4_gain_28 : decode cX4_gain 28 = .ok (.aload_n 0, 1) := by decide +kernel
theorem dX4_gain_29 : decode cX4_gain 29 = .ok (.getfield 19, 3) := by decide +kernel
theorem dX4_gain_32 : decode cX4_gain 32 = .ok (.getfield 77, 3) := by decide +kernel
theorem dX4_gain_35 : decode cX4_gain 35 = .ok (.iload_n 2, 1) := by decide +kernel
theorem dX4_gain_36 : decode cX4_gain 36 = .ok (.iconst 1, 1) := by decide +kernel
theorem dX4_gain_37 : decode cX4_gain 37 = .ok (.iload_n 1, 1) := by decide +kernel
theorem dX4_gain_38 : decode cX4_gain 38 = .ok (.ishl, 1) := by decide +kernel
theorem dX4_gain_39 : decode cX4_gain 39 = .ok (.ior, 1) := by decide +kernel
theorem dX4_gain_40 : decode cX4_gain 40 = .ok (.invokevirtual 155, 3) := by decide +kernel
theorem dX4_gain_43 : decode cX4_gain 43 = .ok (.iload_n 3, 1) := by decide +kernel
theorem dX4_gain_44 : decode cX4_gain 44 = .ok (.isub, 1) := by decide +kernel
theorem dX4_gain_45 : decode cX4_gain 45 = .ok (.ireturn, 1) := by decide +kernel
theorem dX4_allServed_0 : decode cX4_allServed 0 = .ok (.aload_n 0, 1) := by decide +kernel
theorem dX4_allServed_1 : decode cX4_allServed 1 = .ok (.getfield 44, 3) := by decide +kernel
theorem dX4_allServed_4 : decode cX4_allServed 4 = .ok (.aload_n 0, 1) := by decide +kernel
theorem dX4_allServed_5 : decode cX4_allServed 5 = .ok (.getfield 19, 3) := by decide +kernel
theorem dX4_allServed_8 : decode cX4_allServed 8 = .ok (.iload_n 1, 1) := by decide +kernel
theorem dX4_allServed_9 : decode cX4_allServed 9 = .ok (.aload_n 0, 1) := by decide +kernel
theorem dX4_allServed_10 : decode cX4_allServed 10 = .ok (.getfield 19, 3) := by decide +kernel
theorem dX4_allServed_13 : decode cX4_allServed 13 = .ok (.invokevirtual 186, 3) := by decide +kernel
theorem dX4_allServed_16 : decode cX4_allServed 16 = .ok (.iload_n 1, 1) := by decide +kernel
theorem dX4_allServed_17 : decode cX4_allServed 17 = .ok (.iconst (-1), 1) := by decide +kernel
theorem dX4_allServed_18 : decode cX4_allServed 18 = .ok (.ixor, 1) := by decide +kernel
theorem dX4_allServed_19 : decode cX4_allServed 19 = .ok (.iand, 1) := by decide +kernel
theorem dX4_allServed_20 : decode cX4_allServed 20 = .ok (.invokevirtual 155, 3) := by decide +kernel
theorem dX4_allServed_23 : decode cX4_allServed 23 = .ok (.iload_n 1, 1) := by decide +kernel
theorem dX4_allServed_24 : decode cX4_allServed 24 = .ok (.invokestatic 127, 3) := by decide +kernel
theorem dX4_allServed_27 : decode cX4_allServed 27 = .ok (.if_icmp .ne 7, 3) := by decide +kernel
theorem dX4_allServed_30 : decode cX4_allServed 30 = .ok (.iconst 1, 1) := by decide +kernel
theorem dX4_allServed_31 : decode cX4_allServed 31 = .ok (.goto 4, 3) := by decide +kernel
theorem dX4_allServed_34 : decode cX4_allServed 34 = .ok (.iconst 0, 1) := by decide +kernel
theorem dX4_allServed_35 : decode cX4_allServed 35 = .ok (.ireturn, 1) := by decide +kernel
theorem dX4_weight_0 : decode cX4_weight 0 = .ok (.iconst 0, 1) := by decide +kernel
theorem dX4_weight_1 : decode cX4_weight 1 = .ok (.istore_n 3, 1) := by decide +kernel
theorem dX4_weight_2 : decode cX4_weight 2 = .ok (.iconst 0, 1) := by decide +kernel
theorem dX4_weight_3 : decode cX4_weight 3 = .ok (.istore 4, 2) := by decide +kernel
theorem dX4_weight_5 : decode cX4_weight 5 = .ok (.iload 4, 2) := by decide +kernel
theorem dX4_weight_7 : decode cX4_weight 7 = .ok (.aload_n 0, 1) := by decide +kernel
theorem dX4_weight_8 : decode cX4_weight 8 = .ok (.getfield 19, 3) := by decide +kernel
theorem dX4_weight_11 : decode cX4_weight 11 = .ok (.getfield 74, 3) := by decide +kernel
theorem dX4_weight_14 : decode cX4_weight 14 = .ok (.if_icmp .ge 45, 3) := by decide +kernel
theorem dX4_weight_17 : decode cX4_weight 17 = .ok (.iload_n 2, 1) := by decide +kernel
theorem dX4_weight_18 : decode cX4_weight 18 = .ok (.iload 4, 2) := by decide +kernel
theorem dX4_weight_20 : decode cX4_weight 20 = .ok (.invokestatic 208, 3) := by decide +kernel
theorem dX4_weight_23 : decode cX4_weight 23 = .ok (.ifCond .eq 9, 3) := by decide +kernel
theorem dX4_weight_26 : decode cX4_weight 26 = .ok (.iinc 3 2, 3) := by decide +kernel
theorem dX4_weight_29 : decode cX4_weight 29 = .ok (.goto 24, 3) := by decide +kernel
theorem dX4_weight_32 : decode cX4_weight 32 = .ok (.iload_n 1, 1) := by decide +kernel
theorem dX4_weight_33 : decode cX4_weight 33 = .ok (.iload 4, 2) := by decide +kernel
theorem dX4_weight_35 : decode cX4_weight 35 = .ok (.invokestatic 208, 3) := by decide +kernel
theorem dX4_weight_38 : decode cX4_weight 38 = .ok (.ifCond .eq 15, 3) := by decide +kernel
theorem dX4_weight_41 : decode cX4_weight 41 = .ok (.iload_n 3, 1) := by decide +kernel
theorem dX4_weight_42 : decode cX4_weight 42 = .ok (.aload_n 0, 1) := by decide +kernel
theorem dX4_weight_43 : decode cX4_weight 43 = .ok (.getfield 19, 3) := by decide +kernel
theorem dX4_weight_46 : decode cX4_weight 46 = .ok (.iload 4, 2) := by decide +kernel
theorem dX4_weight_48 : decode cX4_weight 48 = .ok (.invokevirtual 106, 3) := by decide +kernel
theorem dX4_weight_51 : decode cX4_weight 51 = .ok (.iadd, 1) := by decide +kernel
theorem dX4_weight_52 : decode cX4_weight 52 = .ok (.istore_n 3, 1) := by decide +kernel
theorem dX4_weight_53 : decode cX4_weight 53 = .ok (.iinc 4 1, 3) := by decide +kernel
theorem dX4_weight_56 : decode cX4_weight 56 = .ok (.goto (-51), 3) := by decide +kernel
theorem dX4_weight_59 : decode cX4_weight 59 = .ok (.iload_n 3, 1) := by decide +kernel
theorem dX4_weight_60 : decode cX4_weight 60 = .ok (.ireturn, 1) := by decide +kernel
theorem dX4_isAtRest_0 : decode cX4_isAtRest 0 = .ok (.iload_n 0, 1) := by decide +kernel
theorem dX4_isAtRest_1 : decode cX4_isAtRest 1 = .ok (.iload_n 1, 1) := by decide +kernel
theorem dX4_isAtRest_2 : decode cX4_isAtRest 2 = .ok (.iload_n 2, 1) := by decide +kernel
theorem dX4_isAtRest_3 : decode cX4_isAtRest 3 = .ok (.iload_n 3, 1) := by decide +kernel
theorem dX4_isAtRest_4 : decode cX4_isAtRest 4 = .ok (.invokestatic 211, 3) := by decide +kernel
theorem dX4_isAtRest_7 : decode cX4_isAtRest 7 = .ok (.istore 4, 2) := by decide +kernel
theorem dX4_isAtRest_9 : decode cX4_isAtRest 9 = .ok (.iload_n 0, 1) := by decide +kernel
theorem dX4_isAtRest_10 : decode cX4_isAtRest 10 = .ok (.iload_n 1, 1) := by decide +kernel
theorem dX4_isAtRest_11 : decode cX4_isAtRest 11 = .ok (.iload_n 2, 1) := by decide +kernel
theorem dX4_isAtRest_12 : decode cX4_isAtRest 12 = .ok (.iload_n 3, 1) := by decide +kernel
theorem dX4_isAtRest_13 : decode cX4_isAtRest 13 = .ok (.invokestatic 215, 3) := by decide +kernel
theorem dX4_isAtRest_16 : decode cX4_isAtRest 16 = .ok (.istore 5, 2) := by decide +kernel
theorem dX4_isAtRest_18 : decode cX4_isAtRest 18 = .ok (.iconst 0, 1) := by decide +kernel
theorem dX4_isAtRest_19 : decode cX4_isAtRest 19 = .ok (.istore 6, 2) := by decide +kernel
theorem dX4_isAtRest_21 : decode cX4_isAtRest 21 = .ok (.iload 6, 2) := by decide +kernel
theorem dX4_isAtRest_23 : decode cX4_isAtRest 23 = .ok (.iconst 3, 1) := by decide +kernel
theorem dX4_isAtRest_24 : decode cX4_isAtRest 24 = .ok (.if_icmp .gt 37, 3) := by decide +kernel
theorem dX4_isAtRest_27 : decode cX4_isAtRest 27 = .ok (.iload 6, 2) := by decide +kernel
theorem dX4_isAtRest_29 : decode cX4_isAtRest 29 = .ok (.iload_n 1, 1) := by decide +kernel
theorem dX4_isAtRest_30 : decode cX4_isAtRest 30 = .ok (.iload_n 2, 1) := by decide +kernel
theorem dX4_isAtRest_31 : decode cX4_isAtRest 31 = .ok (.iload_n 3, 1) := by decide +kernel
theorem dX4_isAtRest_32 : decode cX4_isAtRest 32 = .ok (.invokestatic 211, 3) := by decide +kernel
theorem dX4_isAtRest_35 : decode cX4_isAtRest 35 = .ok (.iload 4, 2) := by decide +kernel
theorem dX4_isAtRest_37 : decode cX4_isAtRest 37 = .ok (.if_icmp .gt 16, 3) := by decide +kernel
theorem dX4_isAtRest_40 : decode cX4_isAtRest 40 = .ok (.iload_n 0, 1) := by decide +kernel
theorem dX4_isAtRest_41 : decode cX4_isAtRest 41 = .ok (.iload 6, 2) := by decide +kernel
theorem dX4_isAtRest_43 : decode cX4_isAtRest 43 = .ok (.iload_n 2, 1) := by decide +kernel
theorem dX4_isAtRest_44 : decode cX4_isAtRest 44 = .ok (.iload_n 3, 1) := by decide +kernel
theorem dX4_isAtRest_45 : decode cX4_isAtRest 45 = .ok (.invokestatic 215, 3) := by decide +kernel
theorem dX4_isAtRest_48 : decode cX4_isAtRest 48 = .ok (.iload 5, 2) := by decide +kernel
theorem dX4_isAtRest_50 : decode cX4_isAtRest 50 = .ok (.if_icmp .le 5, 3) := by decide +kernel
theorem dX4_isAtRest_53 : decode cX4_isAtRest 53 = .ok (.iconst 0, 1) := by decide +kernel
theorem dX4_isAtRest_54 : decode cX4_isAtRest 54 = .ok (.ireturn, 1) := by decide +kernel
theorem dX4_isAtRest_55 : decode cX4_isAtRest 55 = .ok (.iinc 6 1, 3) := by decide +kernel
theorem dX4_isAtRest_58 : decode cX4_isAtRest 58 = .ok (.goto (-37), 3) := by decide +kernel
theorem dX4_isAtRest_61 : decode cX4_isAtRest 61 = .ok (.iconst 1, 1) := by decide +kernel
theorem dX4_isAtRest_62 : decode cX4_isAtRest 62 = .ok (.ireturn, 1) := by decide +kernel
theorem dX4_oneWeeps_0 : decode cX4_oneWeeps 0 = .ok (.iload_n 2, 1) := by decide +kernel
theorem dX4_oneWeeps_1 : decode cX4_oneWeeps 1 = .ok (.ifCond .eq 16, 3) := by decide +kernel
theorem dX4_oneWeeps_4 : decode cX4_oneWeeps 4 = .ok (.iload_n 0, 1) := by decide +kernel
theorem dX4_oneWeeps_5 : decode cX4_oneWeeps 5 = .ok (.iload_n 1, 1) := by decide +kernel
theorem dX4_oneWeeps_6 : decode cX4_oneWeeps 6 = .ok (.if_icmp .ge 7, 3) := by decide +kernel
theorem dX4_oneWeeps_9 : decode cX4_oneWeeps 9 = .ok (.iload_n 3, 1) := by decide +kernel
theorem dX4_oneWeeps_10 : decode cX4_oneWeeps 10 = .ok (.ifCond .ne 7, 3) := by decide +kernel
theorem dX4_oneWeeps_13 : decode cX4_oneWeeps 13 = .ok (.iconst 1, 1) := by decide +kernel
theorem dX4_oneWeeps_14 : decode cX4_oneWeeps 14 = .ok (.goto 4, 3) := by decide +kernel
theorem dX4_oneWeeps_17 : decode cX4_oneWeeps 17 = .ok (.iconst 0, 1) := by decide +kernel
theorem dX4_oneWeeps_18 : decode cX4_oneWeeps 18 = .ok (.ireturn, 1) := by decide +kernel
theorem dX4_gotByOne_0 : decode cX4_gotByOne 0 = .ok (.iload_n 0, 1) := by decide +kernel
theorem dX4_gotByOne_1 : decode cX4_gotByOne 1 = .ok (.iload_n 2, 1) := by decide +kernel
theorem dX4_gotByOne_2 : decode cX4_gotByOne 2 = .ok (.iload_n 0, 1) := by decide +kernel
theorem dX4_gotByOne_3 : decode cX4_gotByOne 3 = .ok (.iload_n 1, 1) := by decide +kernel
theorem dX4_gotByOne_4 : decode cX4_gotByOne 4 = .ok (.iload_n 2, 1) := by decide +kernel
theorem dX4_gotByOne_5 : decode cX4_gotByOne 5 = .ok (.iload_n 3, 1) := by decide +kernel
