theorem dX5_rests_36 : decode cX5_rests 36 = .ok (.iload_n 1, 1) := by decide +kernel
theorem dX5_rests_37 : decode cX5_rests 37 = .ok (.iload_n 3, 1) := by decide +kernel
theorem dX5_rests_38 : decode cX5_rests 38 = .ok (.if_icmp .eq 19, 3) := by decide +kernel
theorem dX5_rests_41 : decode cX5_rests 41 = .ok (.iload_n 2, 1) := by decide +kernel
theorem dX5_rests_42 : decode cX5_rests 42 = .ok (.iload_n 3, 1) := by decide +kernel
theorem dX5_rests_43 : decode cX5_rests 43 = .ok (.if_icmp .eq 14, 3) := by decide +kernel
theorem dX5_rests_46 : decode cX5_rests 46 = .ok (.iload 4, 2) := by decide +kernel
theorem dX5_rests_48 : decode cX5_rests 48 = .ok (.i2l, 1) := by decide +kernel
theorem dX5_rests_49 : decode cX5_rests 49 = .ok (.lconst 0, 1) := by decide +kernel
theorem dX5_rests_50 : decode cX5_rests 50 = .ok (.lconst 1, 1) := by decide +kernel
theorem dX5_rests_51 : decode cX5_rests 51 = .ok (.invokestatic 48, 3) := by decide +kernel
theorem dX5_rests_54 : decode cX5_rests 54 = .ok (.ifCond .ne 6, 3) := by decide +kernel
theorem dX5_rests_57 : decode cX5_rests 57 = .ok (.bipush (-2), 2) := by decide +kernel
theorem dX5_rests_59 : decode cX5_rests 59 = .ok (.ireturn, 1) := by decide +kernel
theorem dX5_rests_60 : decode cX5_rests 60 = .ok (.aload_n 0, 1) := by decide +kernel
theorem dX5_rests_61 : decode cX5_rests 61 = .ok (.getfield 22, 3) := by decide +kernel
theorem dX5_rests_64 : decode cX5_rests 64 = .ok (.bipush 15, 2) := by decide +kernel
theorem dX5_rests_66 : decode cX5_rests 66 = .ok (.iaload, 1) := by decide +kernel
theorem dX5_rests_67 : decode cX5_rests 67 = .ok (.iload_n 3, 1) := by decide +kernel
theorem dX5_rests_68 : decode cX5_rests 68 = .ok (.invokestatic 63, 3) := by decide +kernel
theorem dX5_rests_71 : decode cX5_rests 71 = .ok (.ifCond .ne 6, 3) := by decide +kernel
theorem dX5_rests_74 : decode cX5_rests 74 = .ok (.bipush (-3), 2) := by decide +kernel
theorem dX5_rests_76 : decode cX5_rests 76 = .ok (.ireturn, 1) := by decide +kernel
theorem dX5_rests_77 : decode cX5_rests 77 = .ok (.aload_n 0, 1) := by decide +kernel
theorem dX5_rests_78 : decode cX5_rests 78 = .ok (.iload_n 1, 1) := by decide +kernel
theorem dX5_rests_79 : decode cX5_rests 79 = .ok (.iload_n 2, 1) := by decide +kernel
theorem dX5_rests_80 : decode cX5_rests 80 = .ok (.iload_n 3, 1) := by decide +kernel
theorem dX5_rests_81 : decode cX5_rests 81 = .ok (.invokevirtual 180, 3) := by decide +kernel
theorem dX5_rests_84 : decode cX5_rests 84 = .ok (.iload 4, 2) := by decide +kernel
theorem dX5_rests_86 : decode cX5_rests 86 = .ok (.ifCond .ne 10, 3) := by decide +kernel
theorem dX5_rests_89 : decode cX5_rests 89 = .ok (.aload_n 0, 1) := by decide +kernel
theorem dX5_rests_90 : decode cX5_rests 90 = .ok (.getfield 170, 3) := by decide +kernel
theorem dX5_rests_93 : decode cX5_rests 93 = .ok (.goto 7, 3) := by decide +kernel
theorem dX5_rests_96 : decode cX5_rests 96 = .ok (.aload_n 0, 1) := by decide +kernel
theorem dX5_rests_97 : decode cX5_rests 97 = .ok (.getfield 173, 3) := by decide +kernel
theorem dX5_rests_100 : decode cX5_rests 100 = .ok (.ireturn, 1) := by decide +kernel
theorem dX5_chance_0 : decode cX5_chance 0 = .ok (.aload_n 0, 1) := by decide +kernel
theorem dX5_chance_1 : decode cX5_chance 1 = .ok (.iconst 0, 1) := by decide +kernel
theorem dX5_chance_2 : decode cX5_chance 2 = .ok (.putfield 41, 3) := by decide +kernel
theorem dX5_chance_5 : decode cX5_chance 5 = .ok (.iload_n 1, 1) := by decide +kernel
theorem dX5_chance_6 : decode cX5_chance 6 = .ok (.i2l, 1) := by decide +kernel
theorem dX5_chance_7 : decode cX5_chance 7 = .ok (.lconst 0, 1) := by decide +kernel
theorem dX5_chance_8 : decode cX5_chance 8 = .ok (.ldc2_w 184, 3) := by decide +kernel
theorem dX5_chance_11 : decode cX5_chance 11 = .ok (.invokestatic 48, 3) := by decide +kernel
theorem dX5_chance_14 : decode cX5_chance 14 = .ok (.ifCond .ne 6, 3) := by decide +kernel
theorem dX5_chance_17 : decode cX5_chance 17 = .ok (.bipush (-2), 2) := by decide +kernel
theorem dX5_chance_19 : decode cX5_chance 19 = .ok (.ireturn, 1) := by decide +kernel
theorem dX5_chance_20 : decode cX5_chance 20 = .ok (.aload_n 0, 1) := by decide +kernel
theorem dX5_chance_21 : decode cX5_chance 21 = .ok (.invokevirtual 147, 3) := by decide +kernel
theorem dX5_chance_24 : decode cX5_chance 24 = .ok (.aload_n 0, 1) := by decide +kernel
theorem dX5_chance_25 : decode cX5_chance 25 = .ok (.getfield 22, 3) := by decide +kernel
theorem dX5_chance_28 : decode cX5_chance 28 = .ok (.bipush 15, 2) := by decide +kernel
theorem dX5_chance_30 : decode cX5_chance 30 = .ok (.iaload, 1) := by decide +kernel
theorem dX5_chance_31 : decode cX5_chance 31 = .ok (.iconst (-1), 1) := by decide +kernel
theorem dX5_chance_32 : decode cX5_chance 32 = .ok (.ixor, 1) := by decide +kernel
theorem dX5_chance_33 : decode cX5_chance 33 = .ok (.iand, 1) := by decide +kernel
theorem dX5_chance_34 : decode cX5_chance 34 = .ok (.istore_n 3, 1) := by decide +kernel
theorem dX5_chance_35 : decode cX5_chance 35 = .ok (.iconst 0, 1) := by decide +kernel
theorem dX5_chance_36 : decode cX5_chance 36 = .ok (.istore 4, 2) := by decide +kernel
theorem dX5_chance_38 : decode cX5_chance 38 = .ok (.iconst 0, 1) := by decide +kernel
theorem dX5_chance_39 : decode cX5_chance 39 = .ok (.istore 5, 2) := by decide +kernel
theorem dX5_chance_41 : decode cX5_chance 41 = .ok (.iconst 0, 1) := by decide +kernel
theorem dX5_chance_42 : decode cX5_chance 42 = .ok (.istore 6, 2) := by decide +kernel
theorem dX5_chance_44 : decode cX5_chance 44 = .ok (.iload 6, 2) := by decide +kernel
theorem dX5_chance_46 : decode cX5_chance 46 = .ok (.iload_n 3, 1) := by decide +kernel
theorem dX5_chance_47 : decode cX5_chance 47 = .ok (.if_icmp .gt 142, 3) := by decide +kernel
theorem dX5_chance_50 : decode cX5_chance 50 = .ok (.iload 6, 2) := by decide +kernel
theorem dX5_chance_52 : decode cX5_chance 52 = .ok (.iload_n 3, 1) := by decide +kernel
theorem dX5_chance_53 : decode cX5_chance 53 = .ok (.iconst (-1), 1) := by decide +kernel
theorem dX5_chance_54 : decode cX5_chance 54 = .ok (.ixor, 1) := by decide +kernel
theorem dX5_chance_55 : decode cX5_chance 55 = .ok (.iand, 1) := by decide +kernel
theorem dX5_chance_56 : decode cX5_chance 56 = .ok (.ifCond .ne 127, 3) := by decide +kernel
theorem dX5_chance_59 : decode cX5_chance 59 = .ok (.iconst 1, 1) := by decide +kernel
theorem dX5_chance_60 : decode cX5_chance 60 = .ok (.istore 7, 2) := by decide +kernel
theorem dX5_chance_62 : decode cX5_chance 62 = .ok (.aload_n 0, 1) := by decide +kernel
theorem dX5_chance_63 : decode cX5_chance 63 = .ok (.invokevirtual 153, 3) := by decide +kernel
theorem dX5_chance_66 : decode cX5_chance 66 = .ok (.iconst 0, 1) := by decide +kernel
theorem dX5_chance_67 : decode cX5_chance 67 = .ok (.istore 8, 2) := by decide +kernel
theorem dX5_chance_69 : decode cX5_chance 69 = .ok (.iload 8, 2) := by decide +kernel
theorem dX5_chance_71 : decode cX5_chance 71 = .ok (.aload_n 0, 1) := by decide +kernel
theorem dX5_chance_72 : decode cX5_chance 72 = .ok (.getfield 45, 3) := by decide +kernel
theorem dX5_chance_75 : decode cX5_chance 75 = .ok (.if_icmp .ge 61, 3) := by decide +kernel
theorem dX5_chance_78 : decode cX5_chance 78 = .ok (.iload_n 3, 1) := by decide +kernel
theorem dX5_chance_79 : decode cX5_chance 79 = .ok (.iload 8, 2) := by decide +kernel
theorem dX5_chance_81 : decode cX5_chance 81 = .ok (.invokestatic 63, 3) := by decide +kernel
theorem dX5_chance_84 : decode cX5_chance 84 = .ok (.ifCond .eq 26, 3) := by decide +kernel
theorem dX5_chance_87 : decode cX5_chance 87 = .ok (.iload 7, 2) := by decide +kernel
theorem dX5_chance_89 : decode cX5_chance 89 = .ok (.iload 6, 2) := by decide +kernel
theorem dX5_chance_91 : decode cX5_chance 91 = .ok (.iload 8, 2) := by decide +kernel
theorem dX5_chance_93 : decode cX5_chance 93 = .ok (.invokestatic 63, 3) := by decide +kernel
theorem dX5_chance_96 : decode cX5_chance 96 = .ok (.ifCond .eq 7, 3) := by decide +kernel
theorem dX5_chance_99 : decode cX5_chance 99 = .ok (.iload_n 1, 1) := by decide +kernel
theorem dX5_chance_100 : decode cX5_chance 100 = .ok (.goto 7, 3) := by decide +kernel
theorem dX5_chance_103 : decode cX5_chance 103 = .ok (.bipush 10, 2) := by decide +kernel
theorem dX5_chance_105 : decode cX5_chance 105 = .ok (.iload_n 1, 1) := by decide +kernel
theorem dX5_chance_106 : decode cX5_chance 106 = .ok (.isub, 1) := by decide +kernel
theorem dX5_chance_107 : decode cX5_chance 107 = .ok (.imul, 1) := by decide +kernel
theorem dX5_chance_108 : decode cX5_chance 108 = .ok (.istore 7, 2) := by decide +kernel
theorem dX5_chance_110 : decode cX5_chance 110 = .ok (.iload 6, 2) := by decide +kernel
theorem dX5_chance_112 : decode cX5_chance 112 = .ok (.iload 8, 2) := by decide +kernel
theorem dX5_chance_114 : decode cX5_chance 114 = .ok (.invokestatic 63, 3) := by decide +kernel
theorem dX5_chance_117 : decode cX5_chance 117 = .ok (.ifCond .eq 13, 3) := by decide +kernel
theorem dX5_chance_120 : decode cX5_chance 120 = .ok (.aload_n 0, 1) := by decide +kernel
theorem dX5_chance_121 : decode cX5_chance 121 = .ok (.aload_n 0, 1) := by decide +kernel
theorem dX5_chance_122 : decode cX5_chance 122 = .ok (.getfield 25, 3) := by decide +kernel
theorem dX5_chance_125 : decode cX5_chance 125 = .ok (.iload 8, 2) := by decide +kernel
theorem dX5_chance_127 : decode cX5_chance 127 = .ok (.invokevirtual 118, 3) := by decide +kernel
theorem dX5_chance_130 : decode cX5_chance 130 = .ok (.iinc 8 1, 3) := by decide +kernel
theorem dX5_chance_133 : decode cX5_chance 133 = .ok (.goto (-64), 3) := by decide +kernel
theorem dX5_chance_136 : decode cX5_chance 136 = .ok (.aload_n 0, 1) := by decide +kernel
theorem dX5_chance_137 : decode cX5_chance 137 = .ok (.aload_n 0, 1) := by decide +kernel
theorem dX5_chance_138 : decode cX5_chance 138 = .ok (.getfield 25, 3) := by decide +kernel
theorem dX5_chance_141 : decode cX5_chance 141 = .ok (.aload_n 0, 1) := by decide +kernel
theorem dX5_chance_142 : decode cX5_chance 142 = .ok (.invokevirtual 147, 3) := by decide +kernel
theorem dX5_chance_145 : decode cX5_chance 145 = .ok (.invokevirtual 150, 3) := by decide +kernel
theorem dX5_chance_148 : decode cX5_chance 148 = .ok (.iload 5, 2) := by decide +kernel
theorem dX5_chance_150 : decode cX5_chance 150 = .ok (.iload 7, 2) := by decide +kernel
theorem dX5_chance_152 : decode cX5_chance 152 = .ok (.iadd, 1) := by decide +kernel
theorem dX5_chance_153 : decode cX5_chance 153 = .ok (.istore 5, 2) := by decide +kernel
theorem dX5_chance_155 : decode cX5_chance 155 = .ok (.iload 4, 2) := by decide +kernel
theorem dX5_chance_157 : decode cX5_chance 157 = .ok (.aload_n 0, 1) := by decide +kernel
theorem dX5_chance_158 : decode cX5_chance 158 = .ok (.getfield 133, 3) := by decide +kernel
theorem dX5_chance_161 : decode cX5_chance 161 = .ok (.aload_n 0, 1) := by decide +kernel
theorem dX5_chance_162 : decode cX5_chance 162 = .ok (.getfield 25, 3) := by decide +kernel
theorem dX5_chance_165 : decode cX5_chance 165 = .ok (.bipush 15, 2) := by decide +kernel
theorem dX5_chance_167 : decode cX5_chance 167 = .ok (.iaload, 1) := by decide +kernel
theorem dX5_chance_168 : decode cX5_chance 168 = .ok (.invokestatic 122, 3) := by decide +kernel
theorem dX5_chance_171 : decode cX5_chance 171 = .ok (.if_icmp .ne 8, 3) := by decide +kernel
theorem dX5_chance_174 : decode cX5_chance 174 = .ok (.iload 7, 2) := by decide +kernel
theorem dX5_chance_176 : decode cX5_chance 176 = .ok (.goto 4, 3) := by decide +kernel
theorem dX5_chance_179 : decode cX5_chance 179 = .ok (.iconst 0, 1) := by decide +kernel
theorem dX5_chance_180 : decode cX5_chance 180 = .ok (.iadd, 1) := by decide +kernel
theorem dX5_chance_181 : decode cX5_chance 181 = .ok (.istore 4, 2) := by decide +kernel
theorem dX5_chance_183 : decode cX5_chance 183 = .ok (.iinc 6 1, 3) := by decide +kernel
theorem dX5_chance_186 : decode cX5_chance 186 = .ok (.goto (-142), 3) := by decide +kernel
theorem dX5_chance_189 : decode cX5_chance 189 = .ok (.iload 4, 2) := by decide +kernel
theorem dX5_chance_191 : decode cX5_chance 191 = .ok (.iload 5, 2) := by decide +kernel
theorem dX5_chance_193 : decode cX5_chance 193 = .ok (.iload_n 2, 1) := by decide +kernel
theorem dX5_chance_194 : decode cX5_chance 194 = .ok (.invokestatic 162, 3) := by decide +kernel
theorem dX5_chance_197 : decode cX5_chance 197 = .ok (.ireturn, 1) := by decide +kernel
theorem dX5_seed_0 : decode cX5_seed 0 = .ok (.aload_n 0, 1) := by decide +kernel
theorem dX5_seed_1 : decode cX5_seed 1 = .ok (.iconst 0, 1) := by decide +kernel
theorem dX5_seed_2 : decode cX5_seed 2 = .ok (.putfield 41, 3) := by decide +kernel
theorem dX5_seed_5 : decode cX5_seed 5 = .ok (.aload_n 0, 1) := by decide +kernel
theorem dX5_seed_6 : decode cX5_seed 6 = .ok (.getfield 186, 3) := by decide +kernel
theorem dX5_seed_9 : decode cX5_seed 9 = .ok (.lstore_n 3, 1) := by decide +kernel
theorem dX5_seed_10 : decode cX5_seed 10 = .ok (.aload_n 0, 1) := by decide +kernel
theorem dX5_seed_11 : decode cX5_seed 11 = .ok (.lload_n 1, 1) := by decide +kernel
theorem dX5_seed_12 : decode cX5_seed 12 = .ok (.putfield 186, 3) := by decide +kernel
theorem dX5_seed_15 : decode cX5_seed 15 = .ok (.lload_n 3, 1) := by decide +kernel
theorem dX5_seed_16 : decode cX5_seed 16 = .ok (.lreturn, 1) := by decide +kernel
theorem dX5_years_0 : decode cX5_years 0 = .ok (.aload_n 0, 1) := by decide +kernel
theorem dX5_years_1 : decode cX5_years 1 = .ok (.iconst 0, 1) := by decide +kernel
theorem dX5_years_2 : decode cX5_years 2 = .ok (.putfield 41, 3) := by decide +kernel
theorem dX5_years_5 : decode cX5_years 5 = .ok (.iload_n 1, 1) := by decide +kernel
theorem dX5_years_6 : decode cX5_years 6 = .ok (.i2l, 1) := by decide +kernel
theorem dX5_years_7 : decode cX5_years 7 = .ok (.lconst 1, 1) := by decide +kernel
theorem dX5_years_8 : decode cX5_years 8 = .ok (.ldc2_w 190, 3) := by decide +kernel
theorem dX5_years_11 : decode cX5_years 11 = .ok (.invokestatic 48, 3) := by decide +kernel
theorem dX5_years_14 : decode cX5_years 14 = .ok (.ifCond .ne 6, 3) := by decide +kernel
theorem dX5_years_17 : decode cX5_years 17 = .ok (.bipush (-2), 2) := by decide +kernel
theorem dX5_years_19 : decode cX5_years 19 = .ok (.ireturn, 1) := by decide +kernel
theorem dX5_years_20 : decode cX5_years 20 = .ok (.aload_n 0, 1) := by decide +kernel
theorem dX5_years_21 : decode cX5_years 21 = .ok (.invokevirtual 153, 3) := by decide +kernel
theorem dX5_years_24 : decode cX5_years 24 = .ok (.iconst 0, 1) := by decide +kernel
theorem dX5_years_25 : decode cX5_years 25 = .ok (.istore_n 2, 1) := by decide +kernel
theorem dX5_years_26 : decode cX5_years 26 = .ok (.iconst 0, 1) := by decide +kernel
theorem dX5_years_27 : decode cX5_years 27 = .ok (.istore_n 3, 1) := by decide +kernel
theorem dX5_years_28 : decode cX5_years 28 = .ok (.iload_n 3, 1) := by decide +kernel
theorem dX5_years_29 : decode cX5_years 29 = .ok (.iload_n 1, 1) := by decide +kernel
theorem dX5_years_30 : decode cX5_years 30 = .ok (.if_icmp .ge 144, 3) := by decide +kernel
theorem dX5_years_33 : decode cX5_years 33 = .ok (.aload_n 0, 1) := by decide +kernel
theorem dX5_years_34 : decode cX5_years 34 = .ok (.aload_n 0, 1) := by decide +kernel
theorem dX5_years_35 : decode cX5_years 35 = .ok (.getfield 186, 3) := by decide +kernel
theorem dX5_years_38 : decode cX5_years 38 = .ok (.ldc2_w 192, 3) := by decide +kernel
theorem dX5_years_41 : decode cX5_years 41 = .ok (.lmul, 1) := by decide +kernel
theorem dX5_years_42 : decode cX5_years 42 = .ok (.ldc2_w 194, 3) := by decide +kernel
theorem dX5_years_45 : decode cX5_years 45 = .ok (.ladd, 1) := by decide +kernel
theorem dX5_years_46 : decode cX5_years 46 = .ok (.putfield 186, 3) := by decide +kernel
theorem dX5_years_49 : decode cX5_years 49 = .ok (.aload_n 0, 1) := by decide +kernel
theorem dX5_years_50 : decode cX5_years 50 = .ok (.getfield 186, 3) := by decide +kernel
theorem dX5_years_53 : decode cX5_years 53 = .ok (.bipush 33, 2) := by decide +kernel
theorem dX5_years_55 : decode cX5_years 55 = .ok (.lushr, 1) := by decide +kernel
theorem dX5_years_56 : decode cX5_years 56 = .ok (.ldc2_w 196, 3) := by decide +kernel
theorem dX5_years_59 : decode cX5_years 59 = .ok (.lrem, 1) := by decide +kernel
theorem dX5_years_60 : decode cX5_years 60 = .ok (.l2i, 1) := by decide +kernel
theorem dX5_years_61 : decode cX5_years 61 = .ok (.istore 4, 2) := by decide +kernel
theorem dX5_years_63 : decode cX5_years 63 = .ok (.iload 4, 2) := by decide +kernel
theorem dX5_years_65 : decode cX5_years 65 = .ok (.bipush 10, 2) := by decide +kernel
theorem dX5_years_67 : decode cX5_years 67 = .ok (.idiv, 1) := by decide +kernel
theorem dX5_years_68 : decode cX5_years 68 = .ok (.istore 5, 2) := by decide +kernel
theorem dX5_years_70 : decode cX5_years 70 = .ok (.iload 4, 2) := by decide +kernel
theorem dX5_years_72 : decode cX5_years 72 = .ok (.bipush 10, 2) := by decide +kernel
theorem dX5_years_74 : decode cX5_years 74 = .ok (.irem, 1) := by decide +kernel
theorem dX5_years_75 : decode cX5_years 75 = .ok (.istore 6, 2) := by decide +kernel
theorem dX5_years_77 : decode cX5_years 77 = .ok (.aload_n 0, 1) := by decide +kernel
theorem dX5_years_78 : decode cX5_years 78 = .ok (.iload 5, 2) := by decide +kernel
theorem dX5_years_80 : decode cX5_years 80 = .ok (.invokevirtual 108, 3) := by decide +kernel
theorem dX5_years_83 : decode cX5_years 83 = .ok (.ifCond .ne 28, 3) := by decide +kernel
theorem dX5_years_86 : decode cX5_years 86 = .ok (.aload_n 0, 1) := by decide +kernel
theorem dX5_years_87 : decode cX5_years 87 = .ok (.getfield 25, 3) := by decide +kernel
theorem dX5_years_90 : decode cX5_years 90 = .ok (.bipush 15, 2) := by decide +kernel
theorem dX5_years_92 : decode cX5_years 92 = .ok (.iaload, 1) := by decide +kernel
theorem dX5_years_93 : decode cX5_years 93 = .ok (.iload 5, 2) := by decide +kernel
theorem dX5_years_95 : decode cX5_years 95 = .ok (.invokestatic 63, 3) := by decide +kernel
theorem dX5_years_98 : decode cX5_years 98 = .ok (.ifCond .ne 13, 3) := by decide +kernel
theorem dX5_years_101 : decode cX5_years 101 = .ok (.aload_n 0, 1) := by decide +kernel
theorem dX5_years_102 : decode cX5_years 102 = .ok (.aload_n 0, 1) := by decide +kernel
theorem dX5_years_103 : decode cX5_years 103 = .ok (.getfield 25, 3) := by decide +kernel
theorem dX5_years_106 : decode cX5_years 106 = .ok (.iload 5, 2) := by decide +kernel
theorem dX5_years_108 : decode cX5_years 108 = .ok (.invokevirtual 118, 3) := by decide +kernel
theorem dX5_years_111 : decode cX5_years 111 = .ok (.aload_n 0, 1) := by decide +kernel
theorem dX5_years_112 : decode cX5_years 112 = .ok (.iload 5, 2) := by decide +kernel
theorem dX5_years_114 : decode cX5_years 114 = .ok (.invokevirtual 108, 3) := by decide +kernel
theorem dX5_years_117 : decode cX5_years 117 = .ok (.ifCond .ne 43, 3) := by decide +kernel
theorem dX5_years_120 : decode cX5_years 120 = .ok (.aload_n 0, 1) := by decide +kernel
theorem dX5_years_121 : decode cX5_years 121 = .ok (.iload 6, 2) := by decide +kernel
theorem dX5_years_123 : decode cX5_years 123 = .ok (.invokevirtual 108, 3) := by decide +kernel
theorem dX5_years_126 : decode cX5_years 126 = .ok (.ifCond .ne 34, 3) := by decide +kernel
theorem dX5_years_129 : decode cX5_years 129 = .ok (.aload_n 0, 1) := by decide +kernel
theorem dX5_years_130 : decode cX5_years 130 = .ok (.aload_n 0, 1) := by decide +kernel
theorem dX5_years_131 : decode cX5_years 131 = .ok (.getfield 25, 3) := by decide +kernel
theorem dX5_years_134 : decode cX5_years 134 = .ok (.iload 6, 2) := by decide +kernel
theorem dX5_years_136 : decode cX5_years 136 = .ok (.iload 5, 2) := by decide +kernel
theorem dX5_years_138 : decode cX5_years 138 = .ok (.invokevirtual 105, 3) := by decide +kernel
theorem dX5_years_141 : decode cX5_years 141 = .ok (.ifCond .eq 19, 3) := by decide +kernel
theorem dX5_years_144 : decode cX5_years 144 = .ok (.aload_n 0, 1) := by decide +kernel
theorem dX5_years_145 : decode cX5_years 145 = .ok (.aload_n 0, 1) := by decide +kernel
theorem dX5_years_146 : decode cX5_years 146 = .ok (.getfield 25, 3) := by decide +kernel
theorem dX5_years_149 : decode cX5_years 149 = .ok (.iload 6, 2) := by decide +kernel
theorem dX5_years_151 : decode cX5_years 151 = .ok (.iload 5, 2) := by decide +kernel
theorem dX5_years_153 : decode cX5_years 153 = .ok (.invokevirtual 125, 3) := by decide +kernel
theorem dX5_years_156 : decode cX5_years 156 = .ok (.pop, 1) := by decide +kernel
theorem dX5_years_157 : decode cX5_years 157 = .ok (.iinc 2 1, 3) := by decide +kernel
theorem dX5_years_160 : decode cX5_years 160 = .ok (.aload_n 0, 1) := by decide +kernel
theorem dX5_years_161 : decode cX5_years 161 = .ok (.aload_n 0, 1) := by decide +kernel
theorem dX5_years_162 : decode cX5_years 162 = .ok (.getfield 25, 3) := by decide +kernel
theorem dX5_years_165 : decode cX5_years 165 = .ok (.invokevirtual 129, 3) := by decide +kernel
theorem dX5_years_168 : decode cX5_years 168 = .ok (.iinc 3 1, 3) := by decide +kernel
theorem dX5_years_171 : decode cX5_years 171 = .ok (.goto (-143), 3) := by decide +kernel
theorem dX5_years_174 : decode cX5_years 174 = .ok (.iload_n 2, 1) := by decide +kernel
theorem dX5_years_175 : decode cX5_years 175 = .ok (.ireturn, 1) := by decide +kernel
theorem dX5_keep_0 : decode cX5_keep 0 = .ok (.aload_n 0, 1) := by decide +kernel
theorem dX5_keep_1 : decode cX5_keep 1 = .ok (.iconst 0, 1) := by decide +kernel
theorem dX5_keep_2 : decode cX5_keep 2 = .ok (.putfield 41, 3) := by decide +kernel
theorem dX5_keep_5 : decode cX5_keep 5 = .ok (.iload_n 1, 1) := by decide +kernel
theorem dX5_keep_6 : decode cX5_keep 6 = .ok (.i2l, 1) := by decide +kernel
theorem dX5_keep_7 : decode cX5_keep 7 = .ok (.lconst 0, 1) := by decide +kernel
theorem dX5_keep_8 : decode cX5_keep 8 = .ok (.lconst 1, 1) := by decide +kernel
theorem dX5_keep_9 : decode cX5_keep 9 = .ok (.invokestatic 48, 3) := by decide +kernel
theorem dX5_keep_12 : decode cX5_keep 12 = .ok (.ifCond .ne 5, 3) := by decide +kernel
theorem dX5_keep_15 : decode cX5_keep 15 = .ok (.iconst (-1), 1) := by decide +kernel
theorem dX5_keep_16 : decode cX5_keep 16 = .ok (.ireturn, 1) := by decide +kernel
theorem dX5_keep_17 : decode cX5_keep 17 = .ok (.aload_n 0, 1) := by decide +kernel
theorem dX5_keep_18 : decode cX5_keep 18 = .ok (.getfield 34, 3) := by decide +kernel
theorem dX5_keep_21 : decode cX5_keep 21 = .ok (.iload_n 1, 1) := by decide +kernel
theorem dX5_keep_22 : decode cX5_keep 22 = .ok (.iconst 1, 1) := by decide +kernel
theorem dX5_keep_23 : decode cX5_keep 23 = .ok (.bastore, 1) := by decide +kernel
theorem dX5_keep_24 : decode cX5_keep 24 = .ok (.iconst 0, 1) := by decide +kernel
theorem dX5_keep_25 : decode cX5_keep 25 = .ok (.istore_n 2, 1) := by decide +kernel
theorem dX5_keep_26 : decode cX5_keep 26 = .ok (.iload_n 2, 1) := by decide +kernel
theorem dX5_keep_27 : decode cX5_keep 27 = .ok (.bipush 43, 2) := by decide +kernel
theorem dX5_keep_29 : decode cX5_keep 29 = .ok (.if_icmp .ge 26, 3) := by decide +kernel
theorem dX5_keep_32 : decode cX5_keep 32 = .ok (.aload_n 0, 1) := by decide +kernel
theorem dX5_keep_33 : decode cX5_keep 33 = .ok (.getfield 31, 3) := by decide +kernel
theorem dX5_keep_36 : decode cX5_keep 36 = .ok (.bipush 43, 2) := by decide +kernel
theorem dX5_keep_38 : decode cX5_keep 38 = .ok (.iload_n 1, 1) := by decide +kernel
theorem dX5_keep_39 : decode cX5_keep 39 = .ok (.imul, 1) := by decide +kernel
theorem dX5_keep_40 : decode cX5_keep 40 = .ok (.iload_n 2, 1) := by decide +kernel
theorem dX5_keep_41 : decode cX5_keep 41 = .ok (.iadd, 1) := by decide +kernel
theorem dX5_keep_42 : decode cX5_keep 42 = .ok (.aload_n 0, 1) := by decide +kernel
theorem dX5_keep_43 : decode cX5_keep 43 = .ok (.getfield 22, 3) := by decide +kernel
theorem dX5_keep_46 : decode cX5_keep 46 = .ok (.iload_n 2, 1) := by decide +kernel
theorem dX5_keep_47 : decode cX5_keep 47 = .ok (.iaload, 1) := by decide +kernel
theorem dX5_keep_48 : decode cX5_keep 48 = .ok (.iastore, 1) := by decide +kernel
theorem dX5_keep_49 : decode cX5_keep 49 = .ok (.iinc 2 1, 3) := by decide +kernel
theorem dX5_keep_52 : decode cX5_keep 52 = .ok (.goto (-26), 3) := by decide +kernel
theorem dX5_keep_55 : decode cX5_keep 55 = .ok (.aload_n 0, 1) := by decide +kernel
theorem dX5_keep_56 : decode cX5_keep 56 = .ok (.getfield 22, 3) := by decide +kernel
theorem dX5_keep_59 : decode cX5_keep 59 = .ok (.bipush 42, 2) := by decide +kernel
theorem dX5_keep_61 : decode cX5_keep 61 = .ok (.iaload, 1) := by decide +kernel
theorem dX5_keep_62 : decode cX5_keep 62 = .ok (.ireturn, 1) := by decide +kernel
theorem dX5_again_0 : decode cX5_again 0 = .ok (.aload_n 0, 1) := by decide +kernel
theorem dX5_again_1 : decode cX5_again 1 = .ok (.iconst 0, 1) := by decide +kernel
theorem dX5_again_2 : decode cX5_again 2 = .ok (.putfield 41, 3) := by decide +kernel
theorem dX5_again_5 : decode cX5_again 5 = .ok (.iload_n 1, 1) := by decide +kernel
theorem dX5_again_6 : decode cX5_again 6 = .ok (.i2l, 1) := by decide +kernel
theorem dX5_again_7 : decode cX5_again 7 = .ok (.lconst 0, 1) := by decide +kernel
theorem dX5_again_8 : decode cX5_again 8 = .ok (.lconst 1, 1) := by decide +kernel
theorem dX5_again_9 : decode cX5_again 9 = .ok (.invokestatic 48, 3) := by decide +kernel
theorem dX5_again_12 : decode cX5_again 12 = .ok (.ifCond .ne 5, 3) := by decide +kernel
theorem dX5_again_15 : decode cX5_again 15 = .ok (.iconst (-1), 1) := by decide +kernel
theorem dX5_again_16 : decode cX5_again 16 = .ok (.ireturn, 1) := by decide +kernel
theorem dX5_again_17 : decode cX5_again 17 = .ok (.aload_n 0, 1) := by decide +kernel
theorem dX5_again_18 : decode cX5_again 18 = .ok (.getfield 34, 3) := by decide +kernel
theorem dX5_again_21 : decode cX5_again 21 = .ok (.iload_n 1, 1) := by decide +kernel
theorem dX5_again_22 : decode cX5_again 22 = .ok (.baload, 1) := by decide +kernel
theorem dX5_again_23 : decode cX5_again 23 = .ok (.ifCond .ne 6, 3) := by decide +kernel
theorem dX5_again_26 : decode cX5_again 26 = .ok (.bipush (-3), 2) := by decide +kernel
theorem dX5_again_28 : decode cX5_again 28 = .ok (.ireturn, 1) := by decide +kernel
theorem dX5_again_29 : decode cX5_again 29 = .ok (.iconst 0, 1) := by decide +kernel
theorem dX5_again_30 : decode cX5_again 30 = .ok (.istore_n 2, 1) := by decide +kernel
theorem dX5_again_31 : decode cX5_again 31 = .ok (.iload_n 2, 1) := by decide +kernel
theorem dX5_again_32 : decode cX5_again 32 = .ok (.bipush 43, 2) := by decide +kernel
theorem dX5_again_34 : decode cX5_again 34 = .ok (.if_icmp .ge 26, 3) := by decide +kernel
theorem dX5_again_37 : decode cX5_again 37 = .ok (.aload_n 0, 1) := by decide +kernel
theorem dX5_again_38 : decode cX5_again 38 = .ok (.getfield 22, 3) := by decide +kernel
theorem dX5_again_41 : decode cX5_again 41 = .ok (.iload_n 2, 1) := by decide +kernel
theorem dX5_again_42 : decode cX5_again 42 = .ok (.aload_n 0, 1) := by decide +kernel
theorem dX5_again_43 : decode cX5_again 43 = .ok (.getfield 31, 3) := by decide +kernel
theorem dX5_again_46 : decode cX5_again 46 = .ok (.bipush 43, 2) := by decide +kernel
theorem dX5_again_48 : decode cX5_again 48 = .ok (.iload_n 1, 1) := by decide +kernel
theorem dX5_again_49 : decode cX5_again 49 = .ok (.imul, 1) := by decide +kernel
theorem dX5_again_50 : decode cX5_again 50 = .ok (.iload_n 2, 1) := by decide +kernel
theorem dX5_again_51 : decode cX5_again 51 = .ok (.iadd, 1) := by decide +kernel
theorem dX5_again_52 : decode cX5_again 52 = .ok (.iaload, 1) := by decide +kernel
theorem dX5_again_53 : decode cX5_again 53 = .ok (.iastore, 1) := by decide +kernel
theorem dX5_again_54 : decode cX5_again 54 = .ok (.iinc 2 1, 3) := by decide +kernel
theorem dX5_again_57 : decode cX5_again 57 = .ok (.goto (-26), 3) := by decide +kernel
theorem dX5_again_60 : decode cX5_again 60 = .ok (.aload_n 0, 1) := by decide +kernel
theorem dX5_again_61 : decode cX5_again 61 = .ok (.iconst 0, 1) := by decide +kernel
theorem dX5_again_62 : decode cX5_again 62 = .ok (.putfield 90, 3) := by decide +kernel
theorem dX5_again_65 : decode cX5_again 65 = .ok (.aload_n 0, 1) := by decide +kernel
theorem dX5_again_66 : decode cX5_again 66 = .ok (.getfield 22, 3) := by decide +kernel
theorem dX5_again_69 : decode cX5_again 69 = .ok (.bipush 42, 2) := by decide +kernel
theorem dX5_again_71 : decode cX5_again 71 = .ok (.iaload, 1) := by decide +kernel
theorem dX5_again_72 : decode cX5_again 72 = .ok (.ireturn, 1) := by decide +kernel
theorem dL_law_0 : decode cL_law 0 = .ok (.new 7, 3) := by decide +kernel
theorem dL_law_3 : decode cL_law 3 = .ok (.dup, 1) := by decide +kernel
theorem dL_law_4 : decode cL_law 4 = .ok (.invokespecial 9, 3) := by decide +kernel
theorem dL_law_7 : decode cL_law 7 = .ok (.astore_n 1, 1) := by decide +kernel
theorem dL_law_8 : decode cL_law 8 = .ok (.new 10, 3) := by decide +kernel
theorem dL_law_11 : decode cL_law 11 = .ok (.dup, 1) := by decide +kernel
theorem dL_law_12 : decode cL_law 12 = .ok (.invokespecial 12, 3) := by decide +kernel
theorem dL_law_15 : decode cL_law 15 = .ok (.astore_n 2, 1) := by decide +kernel
theorem dL_law_16 : decode cL_law 16 = .ok (.iconst 0, 1) := by decide +kernel
theorem dL_law_17 : decode cL_law 17 = .ok (.istore_n 3, 1) := by decide +kernel
theorem dL_law_18 : decode cL_law 18 = .ok (.iload_n 3, 1) := by decide +kernel
theorem dL_law_19 : decode cL_law 19 = .ok (.aload_n 0, 1) := by decide +kernel
theorem dL_law_20 : decode cL_law 20 = .ok (.arraylength, 1) := by decide +kernel
theorem dL_law_21 : decode cL_law 21 = .ok (.iconst 5, 1) := by decide +kernel
theorem dL_law_22 : decode cL_law 22 = .ok (.isub, 1) := by decide +kernel
theorem dL_law_23 : decode cL_law 23 = .ok (.if_icmp .gt 856, 3) := by decide +kernel
theorem dL_law_26 : decode cL_law 26 = .ok (.aload_n 0, 1) := by decide +kernel
theorem dL_law_27 : decode cL_law 27 = .ok (.iload_n 3, 1) := by decide +kernel
theorem dL_law_28 : decode cL_law 28 = .ok (.iaload, 1) := by decide +kernel
theorem dL_law_29 : decode cL_law 29 = .ok (.bipush 31, 2) := by decide +kernel
theorem dL_law_31 : decode cL_law 31 = .ok (.iand, 1) := by decide +kernel
theorem dL_law_32 : decode cL_law 32 = .ok (.tableswitch 841 0 25 #[120, 143, 156, 169, 182, 205, 238, 271, 294, 327, 360, 373, 386, 409, 432, 465, 488, 501, 550, 593, 616, 669, 718, 772, 795, 818], 120) := by decide +kernel
theorem dL_law_152 : decode cL_law 152 = .ok (.aload_n 1, 1) := by decide +kernel
theorem dL_law_153 : decode cL_law 153 = .ok (.aload_n 0, 1) := by decide +kernel
theorem dL_law_154 : decode cL_law 154 = .ok (.iload_n 3, 1) := by decide +kernel
theorem dL_law_155 : decode cL_law 155 = .ok (.iconst 1, 1) := by decide +kernel
theorem dL_law_156 : decode cL_law 156 = .ok (.iadd, 1) := by decide +kernel
theorem dL_law_157 : decode cL_law 157 = .ok (.iaload, 1) := by decide +kernel
theorem dL_law_158 : decode cL_law 158 = .ok (.invokevirtual 13, 3) := by decide +kernel
theorem dL_law_161 : decode cL_law 161 = .ok (.aload_n 2, 1) := by decide +kernel
theorem dL_law_162 : decode cL_law 162 = .ok (.aload_n 0, 1) := by decide +kernel
theorem dL_law_163 : decode cL_law 163 = .ok (.iload_n 3, 1) := by decide +kernel
theorem dL_law_164 : decode cL_law 164 = .ok (.iconst 1, 1) := by decide +kernel
theorem dL_law_165 : decode cL_law 165 = .ok (.iadd, 1) := by decide +kernel
theorem dL_law_166 : decode cL_law 166 = .ok (.iaload, 1) := by decide +kernel
theorem dL_law_167 : decode cL_law 167 = .ok (.invokevirtual 17, 3) := by decide +kernel
theorem dL_law_170 : decode cL_law 170 = .ok (.if_icmp .eq 703, 3) := by decide +kernel
theorem dL_law_173 : decode cL_law 173 = .ok (.iconst 0, 1) := by decide +kernel
theorem dL_law_174 : decode cL_law 174 = .ok (.ireturn, 1) := by decide +kernel
theorem dL_law_175 : decode cL_law 175 = .ok (.aload_n 1, 1) := by decide +kernel
theorem dL_law_176 : decode cL_law 176 = .ok (.invokevirtual 18, 3) := by decide +kernel
theorem dL_law_179 : decode cL_law 179 = .ok (.aload_n 2, 1) := by decide +kernel
theorem dL_law_180 : decode cL_law 180 = .ok (.invokevirtual 22, 3) := by decide +kernel
theorem dL_law_183 : decode cL_law 183 = .ok (.if_icmp .eq 690, 3) := by decide +kernel
theorem dL_law_186 : decode cL_law 186 = .ok (.iconst 0, 1) := by decide +kernel
theorem dL_law_187 : decode cL_law 187 = .ok (.ireturn, 1) := by decide +kernel
theorem dL_law_188 : decode cL_law 188 = .ok (.aload_n 1, 1) := by decide +kernel
theorem dL_law_189 : decode cL_law 189 = .ok (.invokevirtual 23, 3) := by decide +kernel
theorem dL_law_192 : decode cL_law 192 = .ok (.aload_n 2, 1) := by decide +kernel
theorem dL_law_193 : decode cL_law 193 = .ok (.invokevirtual 26, 3) := by decide +kernel
theorem dL_law_196 : decode cL_law 196 = .ok (.if_icmp .eq 677, 3) := by decide +kernel
theorem dL_law_199 : decode cL_law 199 = .ok (.iconst 0, 1) := by decide +kernel
theorem dL_law_200 : decode cL_law 200 = .ok (.ireturn, 1) := by decide +kernel
theorem dL_law_201 : decode cL_law 201 = .ok (.aload_n 1, 1) := by decide +kernel
theorem dL_law_202 : decode cL_law 202 = .ok (.invokevirtual 27, 3) := by decide +kernel
theorem dL_law_205 : decode cL_law 205 = .ok (.aload_n 2, 1) := by decide +kernel
theorem dL_law_206 : decode cL_law 206 = .ok (.invokevirtual 30, 3) := by decide +kernel
theorem dL_law_209 : decode cL_law 209 = .ok (.if_icmp .eq 664, 3) := by decide +kernel
theorem dL_law_212 : decode cL_law 212 = .ok (.iconst 0, 1) := by decide +kernel
theorem dL_law_213 : decode cL_law 213 = .ok (.ireturn, 1) := by decide +kernel
theorem dL_law_214 : decode cL_law 214 = .ok (.aload_n 1, 1) := by decide +kernel
theorem dL_law_215 : decode cL_law 215 = .ok (.aload_n 0, 1) := by decide +kernel
theorem dL_law_216 : decode cL_law 216 = .ok (.iload_n 3, 1) := by decide +kernel
theorem dL_law_217 : decode cL_law 217 = .ok (.iconst 1, 1) := by decide +kernel
theorem dL_law_218 : decode cL_law 218 = .ok (.iadd, 1) := by decide +kernel
theorem dL_law_219 : decode cL_law 219 = .ok (.iaload, 1) := by decide +kernel
theorem dL_law_220 : decode cL_law 220 = .ok (.invokevirtual 31, 3) := by decide +kernel
theorem dL_law_223 : decode cL_law 223 = .ok (.aload_n 2, 1) := by decide +kernel
theorem dL_law_224 : decode cL_law 224 = .ok (.aload_n 0, 1) := by decide +kernel
theorem dL_law_225 : decode cL_law 225 = .ok (.iload_n 3, 1) := by decide +kernel
theorem dL_law_226 : decode cL_law 226 = .ok (.iconst 1, 1) := by decide +kernel
theorem dL_law_227 : decode cL_law 227 = .ok (.iadd, 1) := by decide +kernel
theorem dL_law_228 : decode cL_law 228 = .ok (.iaload, 1) := by decide +kernel
theorem dL_law_229 : decode cL_law 229 = .ok (.invokevirtual 34, 3) := by decide +kernel
theorem dL_law_232 : decode cL_law 232 = .ok (.if_icmp .eq 641, 3) := by decide +kernel
theorem dL_law_235 : decode cL_law 235 = .ok (.iconst 0, 1) := by decide +kernel
theorem dL_law_236 : decode cL_law 236 = .ok (.ireturn, 1) := by decide +kernel
theorem dL_law_237 : decode cL_law 237 = .ok (.aload_n 1, 1) := by decide +kernel
theorem dL_law_238 : decode cL_law 238 = .ok (.aload_n 0, 1) := by decide +kernel
theorem dL_law_239 : decode cL_law 239 = .ok (.iload_n 3, 1) := by decide +kernel
theorem dL_law_240 : decode cL_law 240 = .ok (.iconst 1, 1) := by decide +kernel
theorem dL_law_241 : decode cL_law 241 = .ok (.iadd, 1) := by decide +kernel
theorem dL_law_242 : decode cL_law 242 = .ok (.iaload, 1) := by decide +kernel
theorem dL_law_243 : decode cL_law 243 = .ok (.aload_n 0, 1) := by decide +kernel
theorem dL_law_244 : decode cL_law 244 = .ok (.iload_n 3, 1) := by decide +kernel
theorem dL_law_245 : decode cL_law 245 = .ok (.iconst 2, 1) := by decide +kernel
theorem dL_law_246 : decode cL_law 246 = .ok (.iadd, 1) := by decide +kernel
theorem dL_law_247 : decode cL_law 247 = .ok (.iaload, 1) := by decide +kernel
theorem dL_law_248 : decode cL_law 248 = .ok (.invokevirtual 35, 3) := by decide +kernel
theorem dL_law_251 : decode cL_law 251 = .ok (.aload_n 2, 1) := by decide +kernel
theorem dL_law_252 : decode cL_law 252 = .ok (.aload_n 0, 1) := by decide +kernel
theorem dL_law_253 : decode cL_law 253 = .ok (.iload_n 3, 1) := by decide +kernel
theorem dL_law_254 : decode cL_law 254 = .ok (.iconst 1, 1) := by decide +kernel
theorem dL_law_255 : decode cL_law 255 = .ok (.iadd, 1) := by decide +kernel
theorem dL_law_256 : decode cL_law 256 = .ok (.iaload, 1) := by decide +kernel
theorem dL_law_257 : decode cL_law 257 = .ok (.aload_n 0, 1) := by decide +kernel
theorem dL_law_258 : decode cL_law 258 = .ok (.iload_n 3, 1) := by decide +kernel
theorem dL_law_259 : decode cL_law 259 = .ok (.iconst 2, 1) := by decide +kernel
theorem dL_law_260 : decode cL_law 260 = .ok (.iadd, 1) := by decide +kernel
theorem dL_law_261 : decode cL_law 261 = .ok (.iaload, 1) := by decide +kernel
theorem dL_law_262 : decode cL_law 262 = .ok (.invokevirtual 39, 3) := by decide +kernel
theorem dL_law_265 : decode cL_law 265 = .ok (.if_icmp .eq 608, 3) := by decide +kernel
theorem dL_law_268 : decode cL_law 268 = .ok (.iconst 0, 1) := by decide +kernel
theorem dL_law_269 : decode cL_law 269 = .ok (.ireturn, 1) := by decide +kernel
theorem dL_law_270 : decode cL_law 270 = .ok (.aload_n 1, 1) := by decide +kernel
theorem dL_law_271 : decode cL_law 271 = .ok (.aload_n 0, 1) := by decide +kernel
theorem dL_law_272 : decode cL_law 272 = .ok (.iload_n 3, 1) := by decide +kernel
theorem dL_law_273 : decode cL_law 273 = .ok (.iconst 1, 1) := by decide +kernel
theorem dL_law_274 : decode cL_law 274 = .ok (.iadd, 1) := by decide +kernel
theorem dL_law_275 : decode cL_law 275 = .ok (.iaload, 1) := by decide +kernel
theorem dL_law_276 : decode cL_law 276 = .ok (.aload_n 0, 1) := by decide +kernel
theorem dL_law_277 : decode cL_law 277 = .ok (.iload_n 3, 1) := by decide +kernel
theorem dL_law_278 : decode cL_law 278 = .ok (.iconst 2, 1) := by decide +kernel
theorem dL_law_279 : decode cL_law 279 = .ok (.iadd, 1) := by decide +kernel
theorem dL_law_280 : decode cL_law 280 = .ok (.iaload, 1) := by decide +kernel
theorem dL_law_281 : decode cL_law 281 = .ok (.invokevirtual 40, 3) := by decide +kernel
theorem dL_law_284 : decode cL_law 284 = .ok (.aload_n 2, 1) := by decide +kernel
theorem dL_law_285 : decode cL_law 285 = .ok (.aload_n 0, 1) := by decide +kernel
theorem dL_law_286 : decode cL_law 286 = .ok (.iload_n 3, 1) := by decide +kernel
theorem dL_law_287 : decode cL_law 287 = .ok (.iconst 1, 1) := by decide +kernel
theorem dL_law_288 : decode cL_law 288 = .ok (.iadd, 1) := by decide +kernel
theorem dL_law_289 : decode cL_law 289 = .ok (.iaload, 1) := by decide +kernel
theorem dL_law_290 : decode cL_law 290 = .ok (.aload_n 0, 1) := by decide +kernel
theorem dL_law_291 : decode cL_law 291 = .ok (.iload_n 3, 1) := by decide +kernel
theorem dL_law_292 : decode cL_law 292 = .ok (.iconst 2, 1) := by decide +kernel
theorem dL_law_293 : decode cL_law 293 = .ok (.iadd, 1) := by decide +kernel
theorem dL_law_294 : decode cL_law 294 = .ok (.iaload, 1) := by decide +kernel
theorem dL_law_295 : decode cL_law 295 = .ok (.invokevirtual 43, 3) := by decide +kernel
theorem dL_law_298 : decode cL_law 298 = .ok (.if_icmp .eq 575, 3) := by decide +kernel
theorem dL_law_301 : decode cL_law 301 = .ok (.iconst 0, 1) := by decide +kernel
theorem dL_law_302 : decode cL_law 302 = .ok (.ireturn, 1) := by decide +kernel
theorem dL_law_303 : decode cL_law 303 = .ok (.aload_n 1, 1) := by decide +kernel
theorem dL_law_304 : decode cL_law 304 = .ok (.aload_n 0, 1) := by decide +kernel
theorem dL_law_305 : decode cL_law 305 = .ok (.iload_n 3, 1) := by decide +kernel
theorem dL_law_306 : decode cL_law 306 = .ok (.iconst 1, 1) := by decide +kernel
theorem dL_law_307 : decode cL_law 307 = .ok (.iadd, 1) := by decide +kernel
theorem dL_law_308 : decode cL_law 308 = .ok (.iaload, 1) := by decide +kernel
theorem dL_law_309 : decode cL_law 309 = .ok (.invokevirtual 44, 3) := by decide +kernel
theorem dL_law_312 : decode cL_law 312 = .ok (.aload_n 2, 1) := by decide +kernel
theorem dL_law_313 : decode cL_law 313 = .ok (.aload_n 0, 1) := by decide +kernel
theorem dL_law_314 : decode cL_law 314 = .ok (.iload_n 3, 1) := by decide +kernel
theorem dL_law_315 : decode cL_law 315 = .ok (.iconst 1, 1) := by decide +kernel
theorem dL_law_316 : decode cL_law 316 = .ok (.iadd, 1) := by decide +kernel
theorem dL_law_317 : decode cL_law 317 = .ok (.iaload, 1) := by decide +kernel
theorem dL_law_318 : decode cL_law 318 = .ok (.invokevirtual 47, 3) := by decide +kernel
theorem dL_law_321 : decode cL_law 321 = .ok (.if_icmp .eq 552, 3) := by decide +kernel
theorem dL_law_324 : decode cL_law 324 = .ok (.iconst 0, 1) := by decide +kernel
theorem dL_law_325 : decode cL_law 325 = .ok (.ireturn, 1) := by decide +kernel
theorem dL_law_326 : decode cL_law 326 = .ok (.aload_n 1, 1) := by decide +kernel
theorem dL_law_327 : decode cL_law 327 = .ok (.aload_n 0, 1) := by decide +kernel
theorem dL_law_328 : decode cL_law 328 = .ok (.iload_n 3, 1) := by decide +kernel
theorem dL_law_329 : decode cL_law 329 = .ok (.iconst 1, 1) := by decide +kernel
theorem dL_law_330 : decode cL_law 330 = .ok (.iadd, 1) := by decide +kernel
theorem dL_law_331 : decode cL_law 331 = .ok (.iaload, 1) := by decide +kernel
theorem dL_law_332 : decode cL_law 332 = .ok (.aload_n 0, 1) := by decide +kernel
theorem dL_law_333 : decode cL_law 333 = .ok (.iload_n 3, 1) := by decide +kernel
theorem dL_law_334 : decode cL_law 334 = .ok (.iconst 2, 1) := by decide +kernel
theorem dL_law_335 : decode cL_law 335 = .ok (.iadd, 1) := by decide +kernel
theorem dL_law_336 : decode cL_law 336 = .ok (.iaload, 1) := by decide +kernel
theorem dL_law_337 : decode cL_law 337 = .ok (.invokevirtual 48, 3) := by decide +kernel
theorem dL_law_340 : decode cL_law 340 = .ok (.aload_n 2, 1) := by decide +kernel
theorem dL_law_341 : decode cL_law 341 = .ok (.aload_n 0, 1) := by decide +kernel
theorem dL_law_342 : decode cL_law 342 = .ok (.iload_n 3, 1) := by decide +kernel
theorem dL_law_343 : decode cL_law 343 = .ok (.iconst 1, 1) := by decide +kernel
theorem dL_law_344 : decode cL_law 344 = .ok (.iadd, 1) := by decide +kernel
theorem dL_law_345 : decode cL_law 345 = .ok (.iaload, 1) := by decide +kernel
theorem dL_law_346 : decode cL_law 346 = .ok (.aload_n 0, 1) := by decide +kernel
theorem dL_law_347 : decode cL_law 347 = .ok (.iload_n 3, 1) := by decide +kernel
theorem dL_law_348 : decode cL_law 348 = .ok (.iconst 2, 1) := by decide +kernel
theorem dL_law_349 : decode cL_law 349 = .ok (.iadd, 1) := by decide +kernel
theorem dL_law_350 : decode cL_law 350 = .ok (.iaload, 1) := by decide +kernel
theorem dL_law_351 : decode cL_law 351 = .ok (.invokevirtual 51, 3) := by decide +kernel
theorem dL_law_354 : decode cL_law 354 = .ok (.if_icmp .eq 519, 3) := by decide +kernel
theorem dL_law_357 : decode cL_law 357 = .ok (.iconst 0, 1) := by decide +kernel
theorem dL_law_358 : decode cL_law 358 = .ok (.ireturn, 1) := by decide +kernel
theorem dL_law_359 : decode cL_law 359 = .ok (.aload_n 1, 1) := by decide +kernel
theorem dL_law_360 : decode cL_law 360 = .ok (.aload_n 0, 1) := by decide +kernel
theorem dL_law_361 : decode cL_law 361 = .ok (.iload_n 3, 1) := by decide +kernel
theorem dL_law_362 : decode cL_law 362 = .ok (.iconst 1, 1) := by decide +kernel
theorem dL_law_363 : decode cL_law 363 = .ok (.iadd, 1) := by decide +kernel
theorem dL_law_364 : decode cL_law 364 = .ok (.iaload, 1) := by decide +kernel
theorem dL_law_365 : decode cL_law 365 = .ok (.aload_n 0, 1) := by decide +kernel
theorem dL_law_366 : decode cL_law 366 = .ok (.iload_n 3, 1) := by decide +kernel
theorem dL_law_367 : decode cL_law 367 = .ok (.iconst 2, 1) := by decide +kernel
theorem dL_law_368 : decode cL_law 368 = .ok (.iadd, 1) := by decide +kernel
theorem dL_law_369 : decode cL_law 369 = .ok (.iaload, 1) := by decide +kernel
theorem dL_law_370 : decode cL_law 370 = .ok (.invokevirtual 52, 3) := by decide +kernel
theorem dL_law_373 : decode cL_law 373 = .ok (.aload_n 2, 1) := by decide +kernel
theorem dL_law_374 : decode cL_law 374 = .ok (.aload_n 0, 1) := by decide +kernel
theorem dL_law_375 : decode cL_law 375 = .ok (.iload_n 3, 1) := by decide +kernel
theorem dL_law_376 : decode cL_law 376 = .ok (.iconst 1, 1) := by decide +kernel
theorem dL_law_377 : decode cL_law 377 = .ok (.iadd, 1) := by decide +kernel
theorem dL_law_378 : decode cL_law 378 = .ok (.iaload, 1) := by decide +kernel
theorem dL_law_379 : decode cL_law 379 = .ok (.aload_n 0, 1) := by decide +kernel
theorem dL_law_380 : decode cL_law 380 = .ok (.iload_n 3, 1) := by decide +kernel
theorem dL_law_381 : decode cL_law 381 = .ok (.iconst 2, 1) := by decide +kernel
theorem dL_law_382 : decode cL_law 382 = .ok (.iadd, 1) := by decide +kernel
theorem dL_law_383 : decode cL_law 383 = .ok (.iaload, 1) := by decide +kernel
theorem dL_law_384 : decode cL_law 384 = .ok (.invokevirtual 55, 3) := by decide +kernel
theorem dL_law_387 : decode cL_law 387 = .ok (.if_icmp .eq 486, 3) := by decide +kernel
theorem dL_law_390 : decode cL_law 390 = .ok (.iconst 0, 1) := by decide +kernel
theorem dL_law_391 : decode cL_law 391 = .ok (.ireturn, 1) := by decide +kernel
theorem dL_law_392 : decode cL_law 392 = .ok (.aload_n 1, 1) := by decide +kernel
theorem dL_law_393 : decode cL_law 393 = .ok (.invokevirtual 56, 3) := by decide +kernel
theorem dL_law_396 : decode cL_law 396 = .ok (.aload_n 2, 1) := by decide +kernel
theorem dL_law_397 : decode cL_law 397 = .ok (.invokevirtual 59, 3) := by decide +kernel
theorem dL_law_400 : decode cL_law 400 = .ok (.if_icmp .eq 473, 3) := by decide +kernel
theorem dL_law_403 : decode cL_law 403 = .ok (.iconst 0, 1) := by decide +kernel
theorem dL_law_404 : decode cL_law 404 = .ok (.ireturn, 1) := by decide +kernel
theorem dL_law_405 : decode cL_law 405 = .ok (.aload_n 1, 1) := by decide +kernel
theorem dL_law_406 : decode cL_law 406 = .ok (.invokevirtual 60, 3) := by decide +kernel
theorem dL_law_409 : decode cL_law 409 = .ok (.aload_n 2, 1) := by decide +kernel
theorem dL_law_410 : decode cL_law 410 = .ok (.invokevirtual 63, 3) := by decide +kernel
theorem dL_law_413 : decode cL_law 413 = .ok (.if_icmp .eq 460, 3) := by decide +kernel
theorem dL_law_416 : decode cL_law 416 = .ok (.iconst 0, 1) := by decide +kernel
theorem dL_law_417 : decode cL_law 417 = .ok (.ireturn, 1) := by decide +kernel
theorem dL_law_418 : decode cL_law 418 = .ok (.aload_n 1, 1) := by decide +kernel
theorem dL_law_419 : decode cL_law 419 = .ok (.aload_n 0, 1) := by decide +kernel
theorem dL_law_420 : decode cL_law 420 = .ok (.iload_n 3, 1) := by decide +kernel
theorem dL_law_421 : decode cL_law 421 = .ok (.iconst 1, 1) := by decide +kernel
theorem dL_law_422 : decode cL_law 422 = .ok (.iadd, 1) := by decide +kernel
theorem dL_law_423 : decode cL_law 423 = .ok (.iaload, 1) := by decide +kernel
theorem dL_law_424 : decode cL_law 424 = .ok (.invokevirtual 64, 3) := by decide +kernel
theorem dL_law_427 : decode cL_law 427 = .ok (.aload_n 2, 1) := by decide +kernel
theorem dL_law_428 : decode cL_law 428 = .ok (.aload_n 0, 1) := by decide +kernel
theorem dL_law_429 : decode cL_law 429 = .ok (.iload_n 3, 1) := by decide +kernel
theorem dL_law_430 : decode cL_law 430 = .ok (.iconst 1, 1) := by decide +kernel
theorem dL_law_431 : decode cL_law 431 = .ok (.iadd, 1) := by decide +kernel
theorem dL_law_432 : decode cL_law 432 = .ok (.iaload, 1) := by decide +kernel
theorem dL_law_433 : decode cL_law 433 = .ok (.invokevirtual 67, 3) := by decide +kernel
theorem dL_law_436 : decode cL_law 436 = .ok (.if_icmp .eq 437, 3) := by decide +kernel
theorem dL_law_439 : decode cL_law 439 = .ok (.iconst 0, 1) := by decide +kernel
theorem dL_law_440 : decode cL_law 440 = .ok (.ireturn, 1) := by decide +kernel
theorem dL_law_441 : decode cL_law 441 = .ok (.aload_n 1, 1) := by decide +kernel
theorem dL_law_442 : decode cL_law 442 = .ok (.aload_n 0, 1) := by decide +kernel
theorem dL_law_443 : decode cL_law 443 = .ok (.iload_n 3, 1) := by decide +kernel
theorem dL_law_444 : decode cL_law 444 = .ok (.iconst 1, 1) := by decide +kernel
theorem dL_law_445 : decode cL_law 445 = .ok (.iadd, 1) := by decide +kernel
theorem dL_law_446 : decode cL_law 446 = .ok (.iaload, 1) := by decide +kernel
theorem dL_law_447 : decode cL_law 447 = .ok (.invokevirtual 68, 3) := by decide +kernel
theorem dL_law_450 : decode cL_law 450 = .ok (.aload_n 2, 1) := by decide +kernel
theorem dL_law_451 : decode cL_law 451 = .ok (.aload_n 0, 1) := by decide +kernel
theorem dL_law_452 : decode cL_law 452 = .ok (.iload_n 3, 1) := by decide +kernel
theorem dL_law_453 : decode cL_law 453 = .ok (.iconst 1, 1) := by decide +kernel
theorem dL_law_454 : decode cL_law 454 = .ok (.iadd, 1) := by decide +kernel
theorem dL_law_455 : decode cL_law 455 = .ok (.iaload, 1) := by decide +kernel
theorem dL_law_456 : decode cL_law 456 = .ok (.invokevirtual 71, 3) := by decide +kernel
theorem dL_law_459 : decode cL_law 459 = .ok (.if_icmp .eq 414, 3) := by decide +kernel
theorem dL_law_462 : decode cL_law 462 = .ok (.iconst 0, 1) := by decide +kernel
theorem dL_law_463 : decode cL_law 463 = .ok (.ireturn, 1) := by decide +kernel
theorem dL_law_464 : decode cL_law 464 = .ok (.aload_n 1, 1) := by decide +kernel
theorem dL_law_465 : decode cL_law 465 = .ok (.aload_n 0, 1) := by decide +kernel
theorem dL_law_466 : decode cL_law 466 = .ok (.iload_n 3, 1) := by decide +kernel
theorem dL_law_467 : decode cL_law 467 = .ok (.iconst 1, 1) := by decide +kernel
theorem dL_law_468 : decode cL_law 468 = .ok (.iadd, 1) := by decide +kernel
theorem dL_law_469 : decode cL_law 469 = .ok (.iaload, 1) := by decide +kernel
theorem dL_law_470 : decode cL_law 470 = .ok (.aload_n 0, 1) := by decide +kernel
theorem dL_law_471 : decode cL_law 471 = .ok (.iload_n 3, 1) := by decide +kernel
theorem dL_law_472 : decode cL_law 472 = .ok (.iconst 2, 1) := by decide +kernel
theorem dL_law_473 : decode cL_law 473 = .ok (.iadd, 1) := by decide +kernel
theorem dL_law_474 : decode cL_law 474 = .ok (.iaload, 1) := by decide +kernel
theorem dL_law_475 : decode cL_law 475 = .ok (.invokevirtual 72, 3) := by decide +kernel
theorem dL_law_478 : decode cL_law 478 = .ok (.aload_n 2, 1) := by decide +kernel
theorem dL_law_479 : decode cL_law 479 = .ok (.aload_n 0, 1) := by decide +kernel
theorem dL_law_480 : decode cL_law 480 = .ok (.iload_n 3, 1) := by decide +kernel
theorem dL_law_481 : decode cL_law 481 = .ok (.iconst 1, 1) := by decide +kernel
theorem dL_law_482 : decode cL_law 482 = .ok (.iadd, 1) := by decide +kernel
theorem dL_law_483 : decode cL_law 483 = .ok (.iaload, 1) := by decide +kernel
theorem dL_law_484 : decode cL_law 484 = .ok (.aload_n 0, 1) := by decide +kernel
theorem dL_law_485 : decode cL_law 485 = .ok (.iload_n 3, 1) := by decide +kernel
theorem dL_law_486 : decode cL_law 486 = .ok (.iconst 2, 1) := by decide +kernel
theorem dL_law_487 : decode cL_law 487 = .ok (.iadd, 1) := by decide +kernel
theorem dL_law_488 : decode cL_law 488 = .ok (.iaload, 1) := by decide +kernel
theorem dL_law_489 : decode cL_law 489 = .ok (.invokevirtual 75, 3) := by decide +kernel
theorem dL_law_492 : decode cL_law 492 = .ok (.if_icmp .eq 381, 3) := by decide +kernel
theorem dL_law_495 : decode cL_law 495 = .ok (.iconst 0, 1) := by decide +kernel
theorem dL_law_496 : decode cL_law 496 = .ok (.ireturn, 1) := by decide +kernel
theorem dL_law_497 : decode cL_law 497 = .ok (.aload_n 1, 1) := by decide +kernel
theorem dL_law_498 : decode cL_law 498 = .ok (.aload_n 0, 1) := by decide +kernel
theorem dL_law_499 : decode cL_law 499 = .ok (.iload_n 3, 1) := by decide +kernel
theorem dL_law_500 : decode cL_law 500 = .ok (.iconst 1, 1) := by decide +kernel
theorem dL_law_501 : decode cL_law 501 = .ok (.iadd, 1) := by decide +kernel
theorem dL_law_502 : decode cL_law 502 = .ok (.iaload, 1) := by decide +kernel
theorem dL_law_503 : decode cL_law 503 = .ok (.invokevirtual 76, 3) := by decide +kernel
theorem dL_law_506 : decode cL_law 506 = .ok (.aload_n 2, 1) := by decide +kernel
theorem dL_law_507 : decode cL_law 507 = .ok (.aload_n 0, 1) := by decide +kernel
theorem dL_law_508 : decode cL_law 508 = .ok (.iload_n 3, 1) := by decide +kernel
theorem dL_law_509 : decode cL_law 509 = .ok (.iconst 1, 1) := by decide +kernel
theorem dL_law_510 : decode cL_law 510 = .ok (.iadd, 1) := by decide +kernel
theorem dL_law_511 : decode cL_law 511 = .ok (.iaload, 1) := by decide +kernel
theorem dL_law_512 : decode cL_law 512 = .ok (.invokevirtual 79, 3) := by decide +kernel
theorem dL_law_515 : decode cL_law 515 = .ok (.if_icmp .eq 358, 3) := by decide +kernel
theorem dL_law_518 : decode cL_law 518 = .ok (.iconst 0, 1) := by decide +kernel
theorem dL_law_519 : decode cL_law 519 = .ok (.ireturn, 1) := by decide +kernel
theorem dL_law_520 : decode cL_law 520 = .ok (.aload_n 1, 1) := by decide +kernel
theorem dL_law_521 : decode cL_law 521 = .ok (.invokevirtual 80, 3) := by decide +kernel
theorem dL_law_524 : decode cL_law 524 = .ok (.aload_n 2, 1) := by decide +kernel
theorem dL_law_525 : decode cL_law 525 = .ok (.invokevirtual 83, 3) := by decide +kernel
theorem dL_law_528 : decode cL_law 528 = .ok (.if_icmp .eq 345, 3) := by decide +kernel
theorem dL_law_531 : decode cL_law 531 = .ok (.iconst 0, 1) := by decide +kernel
theorem dL_law_532 : decode cL_law 532 = .ok (.ireturn, 1) := by decide +kernel
theorem dL_law_533 : decode cL_law 533 = .ok (.aload_n 1, 1) := by decide +kernel
theorem dL_law_534 : decode cL_law 534 = .ok (.aload_n 0, 1) := by decide +kernel
theorem dL_law_535 : decode cL_law 535 = .ok (.iload_n 3, 1) := by decide +kernel
theorem dL_law_536 : decode cL_law 536 = .ok (.iconst 1, 1) := by decide +kernel
theorem dL_law_537 : decode cL_law 537 = .ok (.iadd, 1) := by decide +kernel
theorem dL_law_538 : decode cL_law 538 = .ok (.iaload, 1) := by decide +kernel
theorem dL_law_539 : decode cL_law 539 = .ok (.aload_n 0, 1) := by decide +kernel
theorem dL_law_540 : decode cL_law 540 = .ok (.iload_n 3, 1) := by decide +kernel
theorem dL_law_541 : decode cL_law 541 = .ok (.iconst 2, 1) := by decide +kernel
theorem dL_law_542 : decode cL_law 542 = .ok (.iadd, 1) := by decide +kernel
theorem dL_law_543 : decode cL_law 543 = .ok (.iaload, 1) := by decide +kernel
theorem dL_law_544 : decode cL_law 544 = .ok (.ifCond .eq 7, 3) := by decide +kernel
theorem dL_law_547 : decode cL_law 547 = .ok (.iconst 1, 1) := by decide +kernel
theorem dL_law_548 : decode cL_law 548 = .ok (.goto 4, 3) := by decide +kernel
theorem dL_law_551 : decode cL_law 551 = .ok (.iconst 0, 1) := by decide +kernel
theorem dL_law_552 : decode cL_law 552 = .ok (.invokevirtual 84, 3) := by decide +kernel
theorem dL_law_555 : decode cL_law 555 = .ok (.aload_n 2, 1) := by decide +kernel
theorem dL_law_556 : decode cL_law 556 = .ok (.aload_n 0, 1) := by decide +kernel
theorem dL_law_557 : decode cL_law 557 = .ok (.iload_n 3, 1) := by decide +kernel
theorem dL_law_558 : decode cL_law 558 = .ok (.iconst 1, 1) := by decide +kernel
theorem dL_law_559 : decode cL_law 559 = .ok (.iadd, 1) := by decide +kernel
theorem dL_law_560 : decode cL_law 560 = .ok (.iaload, 1) := by decide +kernel
theorem dL_law_561 : decode cL_law 561 = .ok (.aload_n 0, 1) := by decide +kernel
theorem dL_law_562 : decode cL_law 562 = .ok (.iload_n 3, 1) := by decide +kernel
theorem dL_law_563 : decode cL_law 563 = .ok (.iconst 2, 1) := by decide +kernel
theorem dL_law_564 : decode cL_law 564 = .ok (.iadd, 1) := by decide +kernel
theorem dL_law_565 : decode cL_law 565 = .ok (.iaload, 1) := by decide +kernel
theorem dL_law_566 : decode cL_law 566 = .ok (.ifCond .eq 7, 3) := by decide +kernel
theorem dL_law_569 : decode cL_law 569 = .ok (.iconst 1, 1) := by decide +kernel
theorem dL_law_570 : decode cL_law 570 = .ok (.goto 4, 3) := by decide +kernel
theorem dL_law_573 : decode cL_law 573 = .ok (.iconst 0, 1) := by decide +kernel
theorem dL_law_574 : decode cL_law 574 = .ok (.invokevirtual 88, 3) := by decide +kernel
theorem dL_law_577 : decode cL_law 577 = .ok (.if_icmp .eq 296, 3) := by decide +kernel
theorem dL_law_580 : decode cL_law 580 = .ok (.iconst 0, 1) := by decide +kernel
theorem dL_law_581 : decode cL_law 581 = .ok (.ireturn, 1) := by decide +kernel
theorem dL_law_582 : decode cL_law 582 = .ok (.aload_n 1, 1) := by decide +kernel
theorem dL_law_583 : decode cL_law 583 = .ok (.aload_n 0, 1) := by decide +kernel
theorem dL_law_584 : decode cL_law 584 = .ok (.iload_n 3, 1) := by decide +kernel
theorem dL_law_585 : decode cL_law 585 = .ok (.iconst 1, 1) := by decide +kernel
theorem dL_law_586 : decode cL_law 586 = .ok (.iadd, 1) := by decide +kernel
theorem dL_law_587 : decode cL_law 587 = .ok (.iaload, 1) := by decide +kernel
theorem dL_law_588 : decode cL_law 588 = .ok (.aload_n 0, 1) := by decide +kernel
theorem dL_law_589 : decode cL_law 589 = .ok (.iload_n 3, 1) := by decide +kernel
theorem dL_law_590 : decode cL_law 590 = .ok (.iconst 2, 1) := by decide +kernel
theorem dL_law_591 : decode cL_law 591 = .ok (.iadd, 1) := by decide +kernel
theorem dL_law_592 : decode cL_law 592 = .ok (.iaload, 1) := by decide +kernel
theorem dL_law_593 : decode cL_law 593 = .ok (.aload_n 0, 1) := by decide +kernel
theorem dL_law_594 : decode cL_law 594 = .ok (.iload_n 3, 1) := by decide +kernel
theorem dL_law_595 : decode cL_law 595 = .ok (.iconst 3, 1) := by decide +kernel
theorem dL_law_596 : decode cL_law 596 = .ok (.iadd, 1) := by decide +kernel
theorem dL_law_597 : decode cL_law 597 = .ok (.iaload, 1) := by decide +kernel
theorem dL_law_598 : decode cL_law 598 = .ok (.invokevirtual 89, 3) := by decide +kernel
theorem dL_law_601 : decode cL_law 601 = .ok (.aload_n 2, 1) := by decide +kernel
theorem dL_law_602 : decode cL_law 602 = .ok (.aload_n 0, 1) := by decide +kernel
theorem dL_law_603 : decode cL_law 603 = .ok (.iload_n 3, 1) := by decide +kernel
theorem dL_law_604 : decode cL_law 604 = .ok (.iconst 1, 1) := by decide +kernel
theorem dL_law_605 : decode cL_law 605 = .ok (.iadd, 1) := by decide +kernel
theorem dL_law_606 : decode cL_law 606 = .ok (.iaload, 1) := by decide +kernel
theorem dL_law_607 : decode cL_law 607 = .ok (.aload_n 0, 1) := by decide +kernel
theorem dL_law_608 : decode cL_law 608 = .ok (.iload_n 3, 1) := by decide +kernel
theorem dL_law_609 : decode cL_law 609 = .ok (.iconst 2, 1) := by decide +kernel
theorem dL_law_610 : decode cL_law 610 = .ok (.iadd, 1) := by decide +kernel
theorem dL_law_611 : decode cL_law 611 = .ok (.iaload, 1) := by decide +kernel
theorem dL_law_612 : decode cL_law 612 = .ok (.aload_n 0, 1) := by decide +kernel
theorem dL_law_613 : decode cL_law 613 = .ok (.iload_n 3, 1) := by decide +kernel
theorem dL_law_614 : decode cL_law 614 = .ok (.iconst 3, 1) := by decide +kernel
theorem dL_law_615 : decode cL_law 615 = .ok (.iadd, 1) := by decide +kernel
theorem dL_law_616 : decode cL_law 616 = .ok (.iaload, 1) := by decide +kernel
theorem dL_law_617 : decode cL_law 617 = .ok (.invokevirtual 93, 3) := by decide +kernel
theorem dL_law_620 : decode cL_law 620 = .ok (.if_icmp .eq 253, 3) := by decide +kernel
theorem dL_law_623 : decode cL_law 623 = .ok (.iconst 0, 1) := by decide +kernel
theorem dL_law_624 : decode cL_law 624 = .ok (.ireturn, 1) := by decide +kernel
theorem dL_law_625 : decode cL_law 625 = .ok (.aload_n 1, 1) := by decide +kernel
theorem dL_law_626 : decode cL_law 626 = .ok (.aload_n 0, 1) := by decide +kernel
theorem dL_law_627 : decode cL_law 627 = .ok (.iload_n 3, 1) := by decide +kernel
theorem dL_law_628 : decode cL_law 628 = .ok (.iconst 1, 1) := by decide +kernel
theorem dL_law_629 : decode cL_law 629 = .ok (.iadd, 1) := by decide +kernel
theorem dL_law_630 : decode cL_law 630 = .ok (.iaload, 1) := by decide +kernel
theorem dL_law_631 : decode cL_law 631 = .ok (.invokevirtual 94, 3) := by decide +kernel
theorem dL_law_634 : decode cL_law 634 = .ok (.aload_n 2, 1) := by decide +kernel
theorem dL_law_635 : decode cL_law 635 = .ok (.aload_n 0, 1) := by decide +kernel
theorem dL_law_636 : decode cL_law 636 = .ok (.iload_n 3, 1) := by decide +kernel
theorem dL_law_637 : decode cL_law 637 = .ok (.iconst 1, 1) := by decide +kernel
theorem dL_law_638 : decode cL_law 638 = .ok (.iadd, 1) := by decide +kernel
theorem dL_law_639 : decode cL_law 639 = .ok (.iaload, 1) := by decide +kernel
theorem dL_law_640 : decode cL_law 640 = .ok (.invokevirtual 97, 3) := by decide +kernel
theorem dL_law_643 : decode cL_law 643 = .ok (.if_icmp .eq 230, 3) := by decide +kernel
theorem dL_law_646 : decode cL_law 646 = .ok (.iconst 0, 1) := by decide +kernel
theorem dL_law_647 : decode cL_law 647 = .ok (.ireturn, 1) := by decide +kernel
theorem dL_law_648 : decode cL_law 648 = .ok (.aload_n 1, 1) := by decide +kernel
theorem dL_law_649 : decode cL_law 649 = .ok (.aload_n 0, 1) := by decide +kernel
theorem dL_law_650 : decode cL_law 650 = .ok (.iload_n 3, 1) := by decide +kernel
theorem dL_law_651 : decode cL_law 651 = .ok (.iconst 1, 1) := by decide +kernel
theorem dL_law_652 : decode cL_law 652 = .ok (.iadd, 1) := by decide +kernel
theorem dL_law_653 : decode cL_law 653 = .ok (.iaload, 1) := by decide +kernel
theorem dL_law_654 : decode cL_law 654 = .ok (.aload_n 0, 1) := by decide +kernel
theorem dL_law_655 : decode cL_law 655 = .ok (.iload_n 3, 1) := by decide +kernel
theorem dL_law_656 : decode cL_law 656 = .ok (.iconst 2, 1) := by decide +kernel
theorem dL_law_657 : decode cL_law 657 = .ok (.iadd, 1) := by decide +kernel
theorem dL_law_658 : decode cL_law 658 = .ok (.iaload, 1) := by decide +kernel
theorem dL_law_659 : decode cL_law 659 = .ok (.aload_n 0, 1) := by decide +kernel
theorem dL_law_660 : decode cL_law 660 = .ok (.iload_n 3, 1) := by decide +kernel
theorem dL_law_661 : decode cL_law 661 = .ok (.iconst 3, 1) := by decide +kernel
theorem dL_law_662 : decode cL_law 662 = .ok (.iadd, 1) := by decide +kernel
theorem dL_law_663 : decode cL_law 663 = .ok (.iaload, 1) := by decide +kernel
theorem dL_law_664 : decode cL_law 664 = .ok (.aload_n 0, 1) := by decide +kernel
theorem dL_law_665 : decode cL_law 665 = .ok (.iload_n 3, 1) := by decide +kernel
theorem dL_law_666 : decode cL_law 666 = .ok (.iconst 4, 1) := by decide +kernel
theorem dL_law_667 : decode cL_law 667 = .ok (.iadd, 1) := by decide +kernel
theorem dL_law_668 : decode cL_law 668 = .ok (.iaload, 1) := by decide +kernel
theorem dL_law_669 : decode cL_law 669 = .ok (.invokevirtual 98, 3) := by decide +kernel
theorem dL_law_672 : decode cL_law 672 = .ok (.aload_n 2, 1) := by decide +kernel
theorem dL_law_673 : decode cL_law 673 = .ok (.aload_n 0, 1) := by decide +kernel
theorem dL_law_674 : decode cL_law 674 = .ok (.iload_n 3, 1) := by decide +kernel
theorem dL_law_675 : decode cL_law 675 = .ok (.iconst 1, 1) := by decide +kernel
theorem dL_law_676 : decode cL_law 676 = .ok (.iadd, 1) := by decide +kernel
theorem dL_law_677 : decode cL_law 677 = .ok (.iaload, 1) := by decide +kernel
theorem dL_law_678 : decode cL_law 678 = .ok (.aload_n 0, 1) := by decide +kernel
theorem dL_law_679 : decode cL_law 679 = .ok (.iload_n 3, 1) := by decide +kernel
theorem dL_law_680 : decode cL_law 680 = .ok (.iconst 2, 1) := by decide +kernel
theorem dL_law_681 : decode cL_law 681 = .ok (.iadd, 1) := by decide +kernel
theorem dL_law_682 : decode cL_law 682 = .ok (.iaload, 1) := by decide +kernel
theorem dL_law_683 : decode cL_law 683 = .ok (.aload_n 0, 1) := by decide +kernel
theorem dL_law_684 : decode cL_law 684 = .ok (.iload_n 3, 1) := by decide +kernel
theorem dL_law_685 : decode cL_law 685 = .ok (.iconst 3, 1) := by decide +kernel
theorem dL_law_686 : decode cL_law 686 = .ok (.iadd, 1) := by decide +kernel
theorem dL_law_687 : decode cL_law 687 = .ok (.iaload, 1) := by decide +kernel
theorem dL_law_688 : decode cL_law 688 = .ok (.aload_n 0, 1) := by decide +kernel
theorem dL_law_689 : decode cL_law 689 = .ok (.iload_n 3, 1) := by decide +kernel
theorem dL_law_690 : decode cL_law 690 = .ok (.iconst 4, 1) := by decide +kernel
theorem dL_law_691 : decode cL_law 691 = .ok (.iadd, 1) := by decide +kernel
theorem dL_law_692 : decode cL_law 692 = .ok (.iaload, 1) := by decide +kernel
theorem dL_law_693 : decode cL_law 693 = .ok (.invokevirtual 102, 3) := by decide +kernel
theorem dL_law_696 : decode cL_law 696 = .ok (.if_icmp .eq 177, 3) := by decide +kernel
theorem dL_law_699 : decode cL_law 699 = .ok (.iconst 0, 1) := by decide +kernel
theorem dL_law_700 : decode cL_law 700 = .ok (.ireturn, 1) := by decide +kernel
theorem dL_law_701 : decode cL_law 701 = .ok (.aload_n 1, 1) := by decide +kernel
theorem dL_law_702 : decode cL_law 702 = .ok (.aload_n 0, 1) := by decide +kernel
theorem dL_law_703 : decode cL_law 703 = .ok (.iload_n 3, 1) := by decide +kernel
theorem dL_law_704 : decode cL_law 704 = .ok (.iconst 1, 1) := by decide +kernel
theorem dL_law_705 : decode cL_law 705 = .ok (.iadd, 1) := by decide +kernel
theorem dL_law_706 : decode cL_law 706 = .ok (.iaload, 1) := by decide +kernel
theorem dL_law_707 : decode cL_law 707 = .ok (.aload_n 0, 1) := by decide +kernel
theorem dL_law_708 : decode cL_law 708 = .ok (.iload_n 3, 1) := by decide +kernel
theorem dL_law_709 : decode cL_law 709 = .ok (.iconst 2, 1) := by decide +kernel
theorem dL_law_710 : decode cL_law 710 = .ok (.iadd, 1) := by decide +kernel
theorem dL_law_711 : decode cL_law 711 = .ok (.iaload, 1) := by decide +kernel
theorem dL_law_712 : decode cL_law 712 = .ok (.ifCond .eq 7, 3) := by decide +kernel
theorem dL_law_715 : decode cL_law 715 = .ok (.iconst 1, 1) := by decide +kernel
theorem dL_law_716 : decode cL_law 716 = .ok (.goto 4, 3) := by decide +kernel
theorem dL_law_719 : decode cL_law 719 = .ok (.iconst 0, 1) := by decide +kernel
theorem dL_law_720 : decode cL_law 720 = .ok (.invokevirtual 103, 3) := by decide +kernel
theorem dL_law_723 : decode cL_law 723 = .ok (.aload_n 2, 1) := by decide +kernel
theorem dL_law_724 : decode cL_law 724 = .ok (.aload_n 0, 1) := by decide +kernel
theorem dL_law_725 : decode cL_law 725 = .ok (.iload_n 3, 1) := by decide +kernel
theorem dL_law_726 : decode cL_law 726 = .ok (.iconst 1, 1) := by decide +kernel
theorem dL_law_727 : decode cL_law 727 = .ok (.iadd, 1) := by decide +kernel
theorem dL_law_728 : decode cL_law 728 = .ok (.iaload, 1) := by decide +kernel
theorem dL_law_729 : decode cL_law 729 = .ok (.aload_n 0, 1) := by decide +kernel
theorem dL_law_730 : decode cL_law 730 = .ok (.iload_n 3, 1) := by decide +kernel
theorem dL_law_731 : decode cL_law 731 = .ok (.iconst 2, 1) := by decide +kernel
theorem dL_law_732 : decode cL_law 732 = .ok (.iadd, 1) := by decide +kernel
theorem dL_law_733 : decode cL_law 733 = .ok (.iaload, 1) := by decide +kernel
theorem dL_law_734 : decode cL_law 734 = .ok (.ifCond .eq 7, 3) := by decide +kernel
theorem dL_law_737 : decode cL_law 737 = .ok (.iconst 1, 1) := by decide +kernel
theorem dL_law_738 : decode cL_law 738 = .ok (.goto 4, 3) := by decide +kernel
theorem dL_law_741 : decode cL_law 741 = .ok (.iconst 0, 1) := by decide +kernel
theorem dL_law_742 : decode cL_law 742 = .ok (.invokevirtual 106, 3) := by decide +kernel
theorem dL_law_745 : decode cL_law 745 = .ok (.if_icmp .eq 128, 3) := by decide +kernel
theorem dL_law_748 : decode cL_law 748 = .ok (.iconst 0, 1) := by decide +kernel
theorem dL_law_749 : decode cL_law 749 = .ok (.ireturn, 1) := by decide +kernel
theorem dL_law_750 : decode cL_law 750 = .ok (.aload_n 1, 1) := by decide +kernel
theorem dL_law_751 : decode cL_law 751 = .ok (.aload_n 0, 1) := by decide +kernel
theorem dL_law_752 : decode cL_law 752 = .ok (.iload_n 3, 1) := by decide +kernel
theorem dL_law_753 : decode cL_law 753 = .ok (.iconst 1, 1) := by decide +kernel
theorem dL_law_754 : decode cL_law 754 = .ok (.iadd, 1) := by decide +kernel
theorem dL_law_755 : decode cL_law 755 = .ok (.iaload, 1) := by decide +kernel
theorem dL_law_756 : decode cL_law 756 = .ok (.i2l, 1) := by decide +kernel
theorem dL_law_757 : decode cL_law 757 = .ok (.bipush 32, 2) := by decide +kernel
theorem dL_law_759 : decode cL_law 759 = .ok (.lshl, 1) := by decide +kernel
theorem dL_law_760 : decode cL_law 760 = .ok (.aload_n 0, 1) := by decide +kernel
theorem dL_law_761 : decode cL_law 761 = .ok (.iload_n 3, 1) := by decide +kernel
theorem dL_law_762 : decode cL_law 762 = .ok (.iconst 2, 1) := by decide +kernel
theorem dL_law_763 : decode cL_law 763 = .ok (.iadd, 1) := by decide +kernel
theorem dL_law_764 : decode cL_law 764 = .ok (.iaload, 1) := by decide +kernel
theorem dL_law_765 : decode cL_law 765 = .ok (.i2l, 1) := by decide +kernel
theorem dL_law_766 : decode cL_law 766 = .ok (.ldc2_w 107, 3) := by decide +kernel
theorem dL_law_769 : decode cL_law 769 = .ok (.land, 1) := by decide +kernel
theorem dL_law_770 : decode cL_law 770 = .ok (.lor, 1) := by decide +kernel
theorem dL_law_771 : decode cL_law 771 = .ok (.invokevirtual 109, 3) := by decide +kernel
theorem dL_law_774 : decode cL_law 774 = .ok (.aload_n 2, 1) := by decide +kernel
theorem dL_law_775 : decode cL_law 775 = .ok (.aload_n 0, 1) := by decide +kernel
theorem dL_law_776 : decode cL_law 776 = .ok (.iload_n 3, 1) := by decide +kernel
theorem dL_law_777 : decode cL_law 777 = .ok (.iconst 1, 1) := by decide +kernel
theorem dL_law_778 : decode cL_law 778 = .ok (.iadd, 1) := by decide +kernel
theorem dL_law_779 : decode cL_law 779 = .ok (.iaload, 1) := by decide +kernel
theorem dL_law_780 : decode cL_law 780 = .ok (.i2l, 1) := by decide +kernel
theorem dL_law_781 : decode cL_law 781 = .ok (.bipush 32, 2) := by decide +kernel
theorem dL_law_783 : decode cL_law 783 = .ok (.lshl, 1) := by decide +kernel
theorem dL_law_784 : decode cL_law 784 = .ok (.aload_n 0, 1) := by decide +kernel
theorem dL_law_785 : decode cL_law 785 = .ok (.iload_n 3, 1) := by decide +kernel
theorem dL_law_786 : decode cL_law 786 = .ok (.iconst 2, 1) := by decide +kernel
theorem dL_law_787 : decode cL_law 787 = .ok (.iadd, 1) := by decide +kernel
theorem dL_law_788 : decode cL_law 788 = .ok (.iaload, 1) := by decide +kernel
theorem dL_law_789 : decode cL_law 789 = .ok (.i2l, 1) := by decide +kernel
theorem dL_law_790 : decode cL_law 790 = .ok (.ldc2_w 107, 3) := by decide +kernel
theorem dL_law_793 : decode cL_law 793 = .ok (.land, 1) := by decide +kernel
theorem dL_law_794 : decode cL_law 794 = .ok (.lor, 1) := by decide +kernel
theorem dL_law_795 : decode cL_law 795 = .ok (.invokevirtual 113, 3) := by decide +kernel
theorem dL_law_798 : decode cL_law 798 = .ok (.lcmp, 1) := by decide +kernel
theorem dL_law_799 : decode cL_law 799 = .ok (.ifCond .eq 74, 3) := by decide +kernel
theorem dL_law_802 : decode cL_law 802 = .ok (.iconst 0, 1) := by decide +kernel
theorem dL_law_803 : decode cL_law 803 = .ok (.ireturn, 1) := by decide +kernel
theorem dL_law_804 : decode cL_law 804 = .ok (.aload_n 1, 1) := by decide +kernel
theorem dL_law_805 : decode cL_law 805 = .ok (.aload_n 0, 1) := by decide +kernel
theorem dL_law_806 : decode cL_law 806 = .ok (.iload_n 3, 1) := by decide +kernel
theorem dL_law_807 : decode cL_law 807 = .ok (.iconst 1, 1) := by decide +kernel
theorem dL_law_808 : decode cL_law 808 = .ok (.iadd, 1) := by decide +kernel
theorem dL_law_809 : decode cL_law 809 = .ok (.iaload, 1) := by decide +kernel
theorem dL_law_810 : decode cL_law 810 = .ok (.invokevirtual 114, 3) := by decide +kernel
theorem dL_law_813 : decode cL_law 813 = .ok (.aload_n 2, 1) := by decide +kernel
theorem dL_law_814 : decode cL_law 814 = .ok (.aload_n 0, 1) := by decide +kernel
theorem dL_law_815 : decode cL_law 815 = .ok (.iload_n 3, 1) := by decide +kernel
theorem dL_law_816 : decode cL_law 816 = .ok (.iconst 1, 1) := by decide +kernel
theorem dL_law_817 : decode cL_law 817 = .ok (.iadd, 1) := by decide +kernel
theorem dL_law_818 : decode cL_law 818 = .ok (.iaload, 1) := by decide +kernel
theorem dL_law_819 : decode cL_law 819 = .ok (.invokevirtual 117, 3) := by decide +kernel
theorem dL_law_822 : decode cL_law 822 = .ok (.if_icmp .eq 51, 3) := by decide +kernel
theorem dL_law_825 : decode cL_law 825 = .ok (.iconst 0, 1) := by decide +kernel
theorem dL_law_826 : decode cL_law 826 = .ok (.ireturn, 1) := by decide +kernel
theorem dL_law_827 : decode cL_law 827 = .ok (.aload_n 1, 1) := by decide +kernel
theorem dL_law_828 : decode cL_law 828 = .ok (.aload_n 0, 1) := by decide +kernel
theorem dL_law_829 : decode cL_law 829 = .ok (.iload_n 3, 1) := by decide +kernel
theorem dL_law_830 : decode cL_law 830 = .ok (.iconst 1, 1) := by decide +kernel
theorem dL_law_831 : decode cL_law 831 = .ok (.iadd, 1) := by decide +kernel
theorem dL_law_832 : decode cL_law 832 = .ok (.iaload, 1) := by decide +kernel
theorem dL_law_833 : decode cL_law 833 = .ok (.invokevirtual 118, 3) := by decide +kernel
theorem dL_law_836 : decode cL_law 836 = .ok (.aload_n 2, 1) := by decide +kernel
theorem dL_law_837 : decode cL_law 837 = .ok (.aload_n 0, 1) := by decide +kernel
theorem dL_law_838 : decode cL_law 838 = .ok (.iload_n 3, 1) := by decide +kernel
theorem dL_law_839 : decode cL_law 839 = .ok (.iconst 1, 1) := by decide +kernel
theorem dL_law_840 : decode cL_law 840 = .ok (.iadd, 1) := by decide +kernel
theorem dL_law_841 : decode cL_law 841 = .ok (.iaload, 1) := by decide +kernel
theorem dL_law_842 : decode cL_law 842 = .ok (.invokevirtual 121, 3) := by decide +kernel
theorem dL_law_845 : decode cL_law 845 = .ok (.if_icmp .eq 28, 3) := by decide +kernel
theorem dL_law_848 : decode cL_law 848 = .ok (.iconst 0, 1) := by decide +kernel
theorem dL_law_849 : decode cL_law 849 = .ok (.ireturn, 1) := by decide +kernel
theorem dL_law_850 : decode cL_law 850 = .ok (.aload_n 1, 1) := by decide +kernel
theorem dL_law_851 : decode cL_law 851 = .ok (.aload_n 0, 1) := by decide +kernel
theorem dL_law_852 : decode cL_law 852 = .ok (.iload_n 3, 1) := by decide +kernel
theorem dL_law_853 : decode cL_law 853 = .ok (.iconst 1, 1) := by decide +kernel
theorem dL_law_854 : decode cL_law 854 = .ok (.iadd, 1) := by decide +kernel
theorem dL_law_855 : decode cL_law 855 = .ok (.iaload, 1) := by decide +kernel
theorem dL_law_856 : decode cL_law 856 = .ok (.invokevirtual 122, 3) := by decide +kernel
theorem dL_law_859 : decode cL_law 859 = .ok (.aload_n 2, 1) := by decide +kernel
theorem dL_law_860 : decode cL_law 860 = .ok (.aload_n 0, 1) := by decide +kernel
theorem dL_law_861 : decode cL_law 861 = .ok (.iload_n 3, 1) := by decide +kernel
theorem dL_law_862 : decode cL_law 862 = .ok (.iconst 1, 1) := by decide +kernel
theorem dL_law_863 : decode cL_law 863 = .ok (.iadd, 1) := by decide +kernel
theorem dL_law_864 : decode cL_law 864 = .ok (.iaload, 1) := by decide +kernel
theorem dL_law_865 : decode cL_law 865 = .ok (.invokevirtual 125, 3) := by decide +kernel
theorem dL_law_868 : decode cL_law 868 = .ok (.if_icmp .eq 5, 3) := by decide +kernel
theorem dL_law_871 : decode cL_law 871 = .ok (.iconst 0, 1) := by decide +kernel
theorem dL_law_872 : decode cL_law 872 = .ok (.ireturn, 1) := by decide +kernel
theorem dL_law_873 : decode cL_law 873 = .ok (.iinc 3 5, 3) := by decide +kernel
theorem dL_law_876 : decode cL_law 876 = .ok (.goto (-858), 3) := by decide +kernel
theorem dL_law_879 : decode cL_law 879 = .ok (.iconst 1, 1) := by decide +kernel
theorem dL_law_880 : decode cL_law 880 = .ok (.ireturn, 1) := by decide +kernel
