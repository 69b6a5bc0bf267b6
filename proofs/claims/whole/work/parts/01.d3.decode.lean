theorem dX5_note_88 : decode cX5_note 88 = .ok (.iconst 1, 1) := by decide +kernel
theorem dX5_note_89 : decode cX5_note 89 = .ok (.iadd, 1) := by decide +kernel
theorem dX5_note_90 : decode cX5_note 90 = .ok (.putfield 90, 3) := by decide +kernel
theorem dX5_note_93 : decode cX5_note 93 = .ok (.return_, 1) := by decide +kernel
theorem dX5_funeral_0 : decode cX5_funeral 0 = .ok (.aload_n 0, 1) := by decide +kernel
theorem dX5_funeral_1 : decode cX5_funeral 1 = .ok (.iconst 0, 1) := by decide +kernel
theorem dX5_funeral_2 : decode cX5_funeral 2 = .ok (.putfield 41, 3) := by decide +kernel
theorem dX5_funeral_5 : decode cX5_funeral 5 = .ok (.aload_n 0, 1) := by decide +kernel
theorem dX5_funeral_6 : decode cX5_funeral 6 = .ok (.iload_n 1, 1) := by decide +kernel
theorem dX5_funeral_7 : decode cX5_funeral 7 = .ok (.invokevirtual 108, 3) := by decide +kernel
theorem dX5_funeral_10 : decode cX5_funeral 10 = .ok (.ifCond .eq 5, 3) := by decide +kernel
theorem dX5_funeral_13 : decode cX5_funeral 13 = .ok (.iconst (-1), 1) := by decide +kernel
theorem dX5_funeral_14 : decode cX5_funeral 14 = .ok (.ireturn, 1) := by decide +kernel
theorem dX5_funeral_15 : decode cX5_funeral 15 = .ok (.aload_n 0, 1) := by decide +kernel
theorem dX5_funeral_16 : decode cX5_funeral 16 = .ok (.getfield 22, 3) := by decide +kernel
theorem dX5_funeral_19 : decode cX5_funeral 19 = .ok (.bipush 15, 2) := by decide +kernel
theorem dX5_funeral_21 : decode cX5_funeral 21 = .ok (.iaload, 1) := by decide +kernel
theorem dX5_funeral_22 : decode cX5_funeral 22 = .ok (.iload_n 1, 1) := by decide +kernel
theorem dX5_funeral_23 : decode cX5_funeral 23 = .ok (.invokestatic 63, 3) := by decide +kernel
theorem dX5_funeral_26 : decode cX5_funeral 26 = .ok (.ifCond .eq 6, 3) := by decide +kernel
theorem dX5_funeral_29 : decode cX5_funeral 29 = .ok (.bipush (-3), 2) := by decide +kernel
theorem dX5_funeral_31 : decode cX5_funeral 31 = .ok (.ireturn, 1) := by decide +kernel
theorem dX5_funeral_32 : decode cX5_funeral 32 = .ok (.aload_n 0, 1) := by decide +kernel
theorem dX5_funeral_33 : decode cX5_funeral 33 = .ok (.invokevirtual 115, 3) := by decide +kernel
theorem dX5_funeral_36 : decode cX5_funeral 36 = .ok (.aload_n 0, 1) := by decide +kernel
theorem dX5_funeral_37 : decode cX5_funeral 37 = .ok (.aload_n 0, 1) := by decide +kernel
theorem dX5_funeral_38 : decode cX5_funeral 38 = .ok (.getfield 22, 3) := by decide +kernel
theorem dX5_funeral_41 : decode cX5_funeral 41 = .ok (.iload_n 1, 1) := by decide +kernel
theorem dX5_funeral_42 : decode cX5_funeral 42 = .ok (.invokevirtual 118, 3) := by decide +kernel
theorem dX5_funeral_45 : decode cX5_funeral 45 = .ok (.aload_n 0, 1) := by decide +kernel
theorem dX5_funeral_46 : decode cX5_funeral 46 = .ok (.getfield 22, 3) := by decide +kernel
theorem dX5_funeral_49 : decode cX5_funeral 49 = .ok (.bipush 15, 2) := by decide +kernel
theorem dX5_funeral_51 : decode cX5_funeral 51 = .ok (.iaload, 1) := by decide +kernel
theorem dX5_funeral_52 : decode cX5_funeral 52 = .ok (.invokestatic 122, 3) := by decide +kernel
theorem dX5_funeral_55 : decode cX5_funeral 55 = .ok (.ireturn, 1) := by decide +kernel
theorem dX5_weep_0 : decode cX5_weep 0 = .ok (.aload_n 0, 1) := by decide +kernel
theorem dX5_weep_1 : decode cX5_weep 1 = .ok (.iconst 0, 1) := by decide +kernel
theorem dX5_weep_2 : decode cX5_weep 2 = .ok (.putfield 41, 3) := by decide +kernel
theorem dX5_weep_5 : decode cX5_weep 5 = .ok (.aload_n 0, 1) := by decide +kernel
theorem dX5_weep_6 : decode cX5_weep 6 = .ok (.iload_n 1, 1) := by decide +kernel
theorem dX5_weep_7 : decode cX5_weep 7 = .ok (.invokevirtual 108, 3) := by decide +kernel
theorem dX5_weep_10 : decode cX5_weep 10 = .ok (.ifCond .ne 11, 3) := by decide +kernel
theorem dX5_weep_13 : decode cX5_weep 13 = .ok (.aload_n 0, 1) := by decide +kernel
theorem dX5_weep_14 : decode cX5_weep 14 = .ok (.iload_n 2, 1) := by decide +kernel
theorem dX5_weep_15 : decode cX5_weep 15 = .ok (.invokevirtual 108, 3) := by decide +kernel
theorem dX5_weep_18 : decode cX5_weep 18 = .ok (.ifCond .eq 5, 3) := by decide +kernel
theorem dX5_weep_21 : decode cX5_weep 21 = .ok (.iconst (-1), 1) := by decide +kernel
theorem dX5_weep_22 : decode cX5_weep 22 = .ok (.ireturn, 1) := by decide +kernel
theorem dX5_weep_23 : decode cX5_weep 23 = .ok (.aload_n 0, 1) := by decide +kernel
theorem dX5_weep_24 : decode cX5_weep 24 = .ok (.aload_n 0, 1) := by decide +kernel
theorem dX5_weep_25 : decode cX5_weep 25 = .ok (.getfield 22, 3) := by decide +kernel
theorem dX5_weep_28 : decode cX5_weep 28 = .ok (.iload_n 1, 1) := by decide +kernel
theorem dX5_weep_29 : decode cX5_weep 29 = .ok (.iload_n 2, 1) := by decide +kernel
theorem dX5_weep_30 : decode cX5_weep 30 = .ok (.invokevirtual 105, 3) := by decide +kernel
theorem dX5_weep_33 : decode cX5_weep 33 = .ok (.ifCond .ne 6, 3) := by decide +kernel
theorem dX5_weep_36 : decode cX5_weep 36 = .ok (.bipush (-3), 2) := by decide +kernel
theorem dX5_weep_38 : decode cX5_weep 38 = .ok (.ireturn, 1) := by decide +kernel
theorem dX5_weep_39 : decode cX5_weep 39 = .ok (.aload_n 0, 1) := by decide +kernel
theorem dX5_weep_40 : decode cX5_weep 40 = .ok (.invokevirtual 115, 3) := by decide +kernel
theorem dX5_weep_43 : decode cX5_weep 43 = .ok (.aload_n 0, 1) := by decide +kernel
theorem dX5_weep_44 : decode cX5_weep 44 = .ok (.aload_n 0, 1) := by decide +kernel
theorem dX5_weep_45 : decode cX5_weep 45 = .ok (.getfield 22, 3) := by decide +kernel
theorem dX5_weep_48 : decode cX5_weep 48 = .ok (.iload_n 1, 1) := by decide +kernel
theorem dX5_weep_49 : decode cX5_weep 49 = .ok (.iload_n 2, 1) := by decide +kernel
theorem dX5_weep_50 : decode cX5_weep 50 = .ok (.invokevirtual 125, 3) := by decide +kernel
theorem dX5_weep_53 : decode cX5_weep 53 = .ok (.ireturn, 1) := by decide +kernel
theorem dX5_onions_0 : decode cX5_onions 0 = .ok (.aload_n 0, 1) := by decide +kernel
theorem dX5_onions_1 : decode cX5_onions 1 = .ok (.iconst 0, 1) := by decide +kernel
theorem dX5_onions_2 : decode cX5_onions 2 = .ok (.putfield 41, 3) := by decide +kernel
theorem dX5_onions_5 : decode cX5_onions 5 = .ok (.aload_n 0, 1) := by decide +kernel
theorem dX5_onions_6 : decode cX5_onions 6 = .ok (.iload_n 1, 1) := by decide +kernel
theorem dX5_onions_7 : decode cX5_onions 7 = .ok (.invokevirtual 108, 3) := by decide +kernel
theorem dX5_onions_10 : decode cX5_onions 10 = .ok (.ifCond .ne 11, 3) := by decide +kernel
theorem dX5_onions_13 : decode cX5_onions 13 = .ok (.aload_n 0, 1) := by decide +kernel
theorem dX5_onions_14 : decode cX5_onions 14 = .ok (.iload_n 2, 1) := by decide +kernel
theorem dX5_onions_15 : decode cX5_onions 15 = .ok (.invokevirtual 108, 3) := by decide +kernel
theorem dX5_onions_18 : decode cX5_onions 18 = .ok (.ifCond .eq 5, 3) := by decide +kernel
theorem dX5_onions_21 : decode cX5_onions 21 = .ok (.iconst (-1), 1) := by decide +kernel
theorem dX5_onions_22 : decode cX5_onions 22 = .ok (.ireturn, 1) := by decide +kernel
theorem dX5_onions_23 : decode cX5_onions 23 = .ok (.aload_n 0, 1) := by decide +kernel
theorem dX5_onions_24 : decode cX5_onions 24 = .ok (.aload_n 0, 1) := by decide +kernel
theorem dX5_onions_25 : decode cX5_onions 25 = .ok (.getfield 22, 3) := by decide +kernel
theorem dX5_onions_28 : decode cX5_onions 28 = .ok (.iload_n 1, 1) := by decide +kernel
theorem dX5_onions_29 : decode cX5_onions 29 = .ok (.iload_n 2, 1) := by decide +kernel
theorem dX5_onions_30 : decode cX5_onions 30 = .ok (.invokevirtual 93, 3) := by decide +kernel
theorem dX5_onions_33 : decode cX5_onions 33 = .ok (.ifCond .ne 6, 3) := by decide +kernel
theorem dX5_onions_36 : decode cX5_onions 36 = .ok (.bipush (-3), 2) := by decide +kernel
theorem dX5_onions_38 : decode cX5_onions 38 = .ok (.ireturn, 1) := by decide +kernel
theorem dX5_onions_39 : decode cX5_onions 39 = .ok (.aload_n 0, 1) := by decide +kernel
theorem dX5_onions_40 : decode cX5_onions 40 = .ok (.invokevirtual 115, 3) := by decide +kernel
theorem dX5_onions_43 : decode cX5_onions 43 = .ok (.aload_n 0, 1) := by decide +kernel
theorem dX5_onions_44 : decode cX5_onions 44 = .ok (.aload_n 0, 1) := by decide +kernel
theorem dX5_onions_45 : decode cX5_onions 45 = .ok (.getfield 22, 3) := by decide +kernel
theorem dX5_onions_48 : decode cX5_onions 48 = .ok (.iload_n 1, 1) := by decide +kernel
theorem dX5_onions_49 : decode cX5_onions 49 = .ok (.iload_n 2, 1) := by decide +kernel
theorem dX5_onions_50 : decode cX5_onions 50 = .ok (.invokevirtual 101, 3) := by decide +kernel
theorem dX5_onions_53 : decode cX5_onions 53 = .ok (.aload_n 0, 1) := by decide +kernel
theorem dX5_onions_54 : decode cX5_onions 54 = .ok (.getfield 22, 3) := by decide +kernel
theorem dX5_onions_57 : decode cX5_onions 57 = .ok (.bipush 41, 2) := by decide +kernel
theorem dX5_onions_59 : decode cX5_onions 59 = .ok (.dup2, 1) := by decide +kernel
theorem dX5_onions_60 : decode cX5_onions 60 = .ok (.iaload, 1) := by decide +kernel
theorem dX5_onions_61 : decode cX5_onions 61 = .ok (.iconst 1, 1) := by decide +kernel
theorem dX5_onions_62 : decode cX5_onions 62 = .ok (.iload_n 1, 1) := by decide +kernel
theorem dX5_onions_63 : decode cX5_onions 63 = .ok (.ishl, 1) := by decide +kernel
theorem dX5_onions_64 : decode cX5_onions 64 = .ok (.ior, 1) := by decide +kernel
theorem dX5_onions_65 : decode cX5_onions 65 = .ok (.iastore, 1) := by decide +kernel
theorem dX5_onions_66 : decode cX5_onions 66 = .ok (.aload_n 0, 1) := by decide +kernel
theorem dX5_onions_67 : decode cX5_onions 67 = .ok (.getfield 22, 3) := by decide +kernel
theorem dX5_onions_70 : decode cX5_onions 70 = .ok (.bipush 41, 2) := by decide +kernel
theorem dX5_onions_72 : decode cX5_onions 72 = .ok (.iaload, 1) := by decide +kernel
theorem dX5_onions_73 : decode cX5_onions 73 = .ok (.invokestatic 122, 3) := by decide +kernel
theorem dX5_onions_76 : decode cX5_onions 76 = .ok (.ireturn, 1) := by decide +kernel
theorem dX5_week_0 : decode cX5_week 0 = .ok (.aload_n 0, 1) := by decide +kernel
theorem dX5_week_1 : decode cX5_week 1 = .ok (.iconst 0, 1) := by decide +kernel
theorem dX5_week_2 : decode cX5_week 2 = .ok (.putfield 41, 3) := by decide +kernel
theorem dX5_week_5 : decode cX5_week 5 = .ok (.aload_n 0, 1) := by decide +kernel
theorem dX5_week_6 : decode cX5_week 6 = .ok (.invokevirtual 115, 3) := by decide +kernel
theorem dX5_week_9 : decode cX5_week 9 = .ok (.aload_n 0, 1) := by decide +kernel
theorem dX5_week_10 : decode cX5_week 10 = .ok (.aload_n 0, 1) := by decide +kernel
theorem dX5_week_11 : decode cX5_week 11 = .ok (.getfield 22, 3) := by decide +kernel
theorem dX5_week_14 : decode cX5_week 14 = .ok (.invokevirtual 129, 3) := by decide +kernel
theorem dX5_week_17 : decode cX5_week 17 = .ok (.aload_n 0, 1) := by decide +kernel
theorem dX5_week_18 : decode cX5_week 18 = .ok (.getfield 22, 3) := by decide +kernel
theorem dX5_week_21 : decode cX5_week 21 = .ok (.bipush 42, 2) := by decide +kernel
theorem dX5_week_23 : decode cX5_week 23 = .ok (.iaload, 1) := by decide +kernel
theorem dX5_week_24 : decode cX5_week 24 = .ok (.ireturn, 1) := by decide +kernel
theorem dX5_undo_0 : decode cX5_undo 0 = .ok (.aload_n 0, 1) := by decide +kernel
theorem dX5_undo_1 : decode cX5_undo 1 = .ok (.iconst 0, 1) := by decide +kernel
theorem dX5_undo_2 : decode cX5_undo 2 = .ok (.putfield 41, 3) := by decide +kernel
theorem dX5_undo_5 : decode cX5_undo 5 = .ok (.aload_n 0, 1) := by decide +kernel
theorem dX5_undo_6 : decode cX5_undo 6 = .ok (.getfield 90, 3) := by decide +kernel
theorem dX5_undo_9 : decode cX5_undo 9 = .ok (.ifCond .ne 6, 3) := by decide +kernel
theorem dX5_undo_12 : decode cX5_undo 12 = .ok (.bipush (-3), 2) := by decide +kernel
theorem dX5_undo_14 : decode cX5_undo 14 = .ok (.ireturn, 1) := by decide +kernel
theorem dX5_undo_15 : decode cX5_undo 15 = .ok (.aload_n 0, 1) := by decide +kernel
theorem dX5_undo_16 : decode cX5_undo 16 = .ok (.dup, 1) := by decide +kernel
theorem dX5_undo_17 : decode cX5_undo 17 = .ok (.getfield 90, 3) := by decide +kernel
theorem dX5_undo_20 : decode cX5_undo 20 = .ok (.iconst 1, 1) := by decide +kernel
theorem dX5_undo_21 : decode cX5_undo 21 = .ok (.isub, 1) := by decide +kernel
theorem dX5_undo_22 : decode cX5_undo 22 = .ok (.putfield 90, 3) := by decide +kernel
theorem dX5_undo_25 : decode cX5_undo 25 = .ok (.iconst 0, 1) := by decide +kernel
theorem dX5_undo_26 : decode cX5_undo 26 = .ok (.istore_n 1, 1) := by decide +kernel
theorem dX5_undo_27 : decode cX5_undo 27 = .ok (.iload_n 1, 1) := by decide +kernel
theorem dX5_undo_28 : decode cX5_undo 28 = .ok (.bipush 43, 2) := by decide +kernel
theorem dX5_undo_30 : decode cX5_undo 30 = .ok (.if_icmp .ge 29, 3) := by decide +kernel
theorem dX5_undo_33 : decode cX5_undo 33 = .ok (.aload_n 0, 1) := by decide +kernel
theorem dX5_undo_34 : decode cX5_undo 34 = .ok (.getfield 22, 3) := by decide +kernel
theorem dX5_undo_37 : decode cX5_undo 37 = .ok (.iload_n 1, 1) := by decide +kernel
theorem dX5_undo_38 : decode cX5_undo 38 = .ok (.aload_n 0, 1) := by decide +kernel
theorem dX5_undo_39 : decode cX5_undo 39 = .ok (.getfield 28, 3) := by decide +kernel
theorem dX5_undo_42 : decode cX5_undo 42 = .ok (.bipush 43, 2) := by decide +kernel
theorem dX5_undo_44 : decode cX5_undo 44 = .ok (.aload_n 0, 1) := by decide +kernel
theorem dX5_undo_45 : decode cX5_undo 45 = .ok (.getfield 90, 3) := by decide +kernel
theorem dX5_undo_48 : decode cX5_undo 48 = .ok (.imul, 1) := by decide +kernel
theorem dX5_undo_49 : decode cX5_undo 49 = .ok (.iload_n 1, 1) := by decide +kernel
theorem dX5_undo_50 : decode cX5_undo 50 = .ok (.iadd, 1) := by decide +kernel
theorem dX5_undo_51 : decode cX5_undo 51 = .ok (.iaload, 1) := by decide +kernel
theorem dX5_undo_52 : decode cX5_undo 52 = .ok (.iastore, 1) := by decide +kernel
theorem dX5_undo_53 : decode cX5_undo 53 = .ok (.iinc 1 1, 3) := by decide +kernel
theorem dX5_undo_56 : decode cX5_undo 56 = .ok (.goto (-29), 3) := by decide +kernel
theorem dX5_undo_59 : decode cX5_undo 59 = .ok (.aload_n 0, 1) := by decide +kernel
theorem dX5_undo_60 : decode cX5_undo 60 = .ok (.getfield 90, 3) := by decide +kernel
theorem dX5_undo_63 : decode cX5_undo 63 = .ok (.ireturn, 1) := by decide +kernel
theorem dX5_begin_0 : decode cX5_begin 0 = .ok (.iconst 0, 1) := by decide +kernel
theorem dX5_begin_1 : decode cX5_begin 1 = .ok (.istore_n 1, 1) := by decide +kernel
theorem dX5_begin_2 : decode cX5_begin 2 = .ok (.iload_n 1, 1) := by decide +kernel
theorem dX5_begin_3 : decode cX5_begin 3 = .ok (.bipush 43, 2) := by decide +kernel
theorem dX5_begin_5 : decode cX5_begin 5 = .ok (.if_icmp .ge 21, 3) := by decide +kernel
theorem dX5_begin_8 : decode cX5_begin 8 = .ok (.aload_n 0, 1) := by decide +kernel
theorem dX5_begin_9 : decode cX5_begin 9 = .ok (.getfield 25, 3) := by decide +kernel
theorem dX5_begin_12 : decode cX5_begin 12 = .ok (.iload_n 1, 1) := by decide +kernel
theorem dX5_begin_13 : decode cX5_begin 13 = .ok (.aload_n 0, 1) := by decide +kernel
theorem dX5_begin_14 : decode cX5_begin 14 = .ok (.getfield 22, 3) := by decide +kernel
theorem dX5_begin_17 : decode cX5_begin 17 = .ok (.iload_n 1, 1) := by decide +kernel
theorem dX5_begin_18 : decode cX5_begin 18 = .ok (.iaload, 1) := by decide +kernel
theorem dX5_begin_19 : decode cX5_begin 19 = .ok (.iastore, 1) := by decide +kernel
theorem dX5_begin_20 : decode cX5_begin 20 = .ok (.iinc 1 1, 3) := by decide +kernel
theorem dX5_begin_23 : decode cX5_begin 23 = .ok (.goto (-21), 3) := by decide +kernel
theorem dX5_begin_26 : decode cX5_begin 26 = .ok (.return_, 1) := by decide +kernel
theorem dX5_power_0 : decode cX5_power 0 = .ok (.iconst 1, 1) := by decide +kernel
theorem dX5_power_1 : decode cX5_power 1 = .ok (.istore_n 2, 1) := by decide +kernel
theorem dX5_power_2 : decode cX5_power 2 = .ok (.iconst 0, 1) := by decide +kernel
theorem dX5_power_3 : decode cX5_power 3 = .ok (.istore_n 3, 1) := by decide +kernel
theorem dX5_power_4 : decode cX5_power 4 = .ok (.iload_n 3, 1) := by decide +kernel
theorem dX5_power_5 : decode cX5_power 5 = .ok (.iload_n 1, 1) := by decide +kernel
theorem dX5_power_6 : decode cX5_power 6 = .ok (.if_icmp .ge 13, 3) := by decide +kernel
theorem dX5_power_9 : decode cX5_power 9 = .ok (.iload_n 2, 1) := by decide +kernel
theorem dX5_power_10 : decode cX5_power 10 = .ok (.iload_n 0, 1) := by decide +kernel
theorem dX5_power_11 : decode cX5_power 11 = .ok (.imul, 1) := by decide +kernel
theorem dX5_power_12 : decode cX5_power 12 = .ok (.istore_n 2, 1) := by decide +kernel
theorem dX5_power_13 : decode cX5_power 13 = .ok (.iinc 3 1, 3) := by decide +kernel
theorem dX5_power_16 : decode cX5_power 16 = .ok (.goto (-12), 3) := by decide +kernel
theorem dX5_power_19 : decode cX5_power 19 = .ok (.iload_n 2, 1) := by decide +kernel
theorem dX5_power_20 : decode cX5_power 20 = .ok (.ireturn, 1) := by decide +kernel
theorem dX5_findServed_0 : decode cX5_findServed 0 = .ok (.aload_n 1, 1) := by decide +kernel
theorem dX5_findServed_1 : decode cX5_findServed 1 = .ok (.bipush 15, 2) := by decide +kernel
theorem dX5_findServed_3 : decode cX5_findServed 3 = .ok (.iaload, 1) := by decide +kernel
theorem dX5_findServed_4 : decode cX5_findServed 4 = .ok (.invokestatic 122, 3) := by decide +kernel
theorem dX5_findServed_7 : decode cX5_findServed 7 = .ok (.istore_n 3, 1) := by decide +kernel
theorem dX5_findServed_8 : decode cX5_findServed 8 = .ok (.aload_n 0, 1) := by decide +kernel
theorem dX5_findServed_9 : decode cX5_findServed 9 = .ok (.bipush (-9), 2) := by decide +kernel
theorem dX5_findServed_11 : decode cX5_findServed 11 = .ok (.putfield 133, 3) := by decide +kernel
theorem dX5_findServed_14 : decode cX5_findServed 14 = .ok (.aload_n 0, 1) := by decide +kernel
theorem dX5_findServed_15 : decode cX5_findServed 15 = .ok (.sipush 9999, 3) := by decide +kernel
theorem dX5_findServed_18 : decode cX5_findServed 18 = .ok (.putfield 136, 3) := by decide +kernel
theorem dX5_findServed_21 : decode cX5_findServed 21 = .ok (.aload_n 0, 1) := by decide +kernel
theorem dX5_findServed_22 : decode cX5_findServed 22 = .ok (.iconst 0, 1) := by decide +kernel
theorem dX5_findServed_23 : decode cX5_findServed 23 = .ok (.putfield 139, 3) := by decide +kernel
theorem dX5_findServed_26 : decode cX5_findServed 26 = .ok (.aload_n 0, 1) := by decide +kernel
theorem dX5_findServed_27 : decode cX5_findServed 27 = .ok (.getfield 45, 3) := by decide +kernel
theorem dX5_findServed_30 : decode cX5_findServed 30 = .ok (.iconst 1, 1) := by decide +kernel
theorem dX5_findServed_31 : decode cX5_findServed 31 = .ok (.iadd, 1) := by decide +kernel
theorem dX5_findServed_32 : decode cX5_findServed 32 = .ok (.iload_n 3, 1) := by decide +kernel
theorem dX5_findServed_33 : decode cX5_findServed 33 = .ok (.invokestatic 142, 3) := by decide +kernel
theorem dX5_findServed_36 : decode cX5_findServed 36 = .ok (.istore 4, 2) := by decide +kernel
theorem dX5_findServed_38 : decode cX5_findServed 38 = .ok (.iconst 0, 1) := by decide +kernel
theorem dX5_findServed_39 : decode cX5_findServed 39 = .ok (.istore 5, 2) := by decide +kernel
theorem dX5_findServed_41 : decode cX5_findServed 41 = .ok (.iload 5, 2) := by decide +kernel
theorem dX5_findServed_43 : decode cX5_findServed 43 = .ok (.iload 4, 2) := by decide +kernel
theorem dX5_findServed_45 : decode cX5_findServed 45 = .ok (.if_icmp .ge 253, 3) := by decide +kernel
theorem dX5_findServed_48 : decode cX5_findServed 48 = .ok (.iconst 0, 1) := by decide +kernel
theorem dX5_findServed_49 : decode cX5_findServed 49 = .ok (.istore 6, 2) := by decide +kernel
theorem dX5_findServed_51 : decode cX5_findServed 51 = .ok (.iconst 0, 1) := by decide +kernel
theorem dX5_findServed_52 : decode cX5_findServed 52 = .ok (.istore 7, 2) := by decide +kernel
theorem dX5_findServed_54 : decode cX5_findServed 54 = .ok (.iconst 0, 1) := by decide +kernel
theorem dX5_findServed_55 : decode cX5_findServed 55 = .ok (.istore 8, 2) := by decide +kernel
theorem dX5_findServed_57 : decode cX5_findServed 57 = .ok (.iconst 0, 1) := by decide +kernel
theorem dX5_findServed_58 : decode cX5_findServed 58 = .ok (.istore 9, 2) := by decide +kernel
theorem dX5_findServed_60 : decode cX5_findServed 60 = .ok (.iload 5, 2) := by decide +kernel
theorem dX5_findServed_62 : decode cX5_findServed 62 = .ok (.istore 10, 2) := by decide +kernel
theorem dX5_findServed_64 : decode cX5_findServed 64 = .ok (.iload 4, 2) := by decide +kernel
theorem dX5_findServed_66 : decode cX5_findServed 66 = .ok (.istore 11, 2) := by decide +kernel
theorem dX5_findServed_68 : decode cX5_findServed 68 = .ok (.iconst 1, 1) := by decide +kernel
theorem dX5_findServed_69 : decode cX5_findServed 69 = .ok (.istore 12, 2) := by decide +kernel
theorem dX5_findServed_71 : decode cX5_findServed 71 = .ok (.iconst 0, 1) := by decide +kernel
theorem dX5_findServed_72 : decode cX5_findServed 72 = .ok (.istore 13, 2) := by decide +kernel
theorem dX5_findServed_74 : decode cX5_findServed 74 = .ok (.iload 13, 2) := by decide +kernel
theorem dX5_findServed_76 : decode cX5_findServed 76 = .ok (.aload_n 0, 1) := by decide +kernel
theorem dX5_findServed_77 : decode cX5_findServed 77 = .ok (.getfield 45, 3) := by decide +kernel
theorem dX5_findServed_80 : decode cX5_findServed 80 = .ok (.if_icmp .ge 162, 3) := by decide +kernel
theorem dX5_findServed_83 : decode cX5_findServed 83 = .ok (.iload 12, 2) := by decide +kernel
theorem dX5_findServed_85 : decode cX5_findServed 85 = .ok (.ifCond .eq 157, 3) := by decide +kernel
theorem dX5_findServed_88 : decode cX5_findServed 88 = .ok (.aload_n 1, 1) := by decide +kernel
theorem dX5_findServed_89 : decode cX5_findServed 89 = .ok (.bipush 15, 2) := by decide +kernel
theorem dX5_findServed_91 : decode cX5_findServed 91 = .ok (.iaload, 1) := by decide +kernel
theorem dX5_findServed_92 : decode cX5_findServed 92 = .ok (.iload 13, 2) := by decide +kernel
theorem dX5_findServed_94 : decode cX5_findServed 94 = .ok (.invokestatic 63, 3) := by decide +kernel
theorem dX5_findServed_97 : decode cX5_findServed 97 = .ok (.ifCond .eq 139, 3) := by decide +kernel
theorem dX5_findServed_100 : decode cX5_findServed 100 = .ok (.iload 11, 2) := by decide +kernel
theorem dX5_findServed_102 : decode cX5_findServed 102 = .ok (.aload_n 0, 1) := by decide +kernel
theorem dX5_findServed_103 : decode cX5_findServed 103 = .ok (.getfield 45, 3) := by decide +kernel
theorem dX5_findServed_106 : decode cX5_findServed 106 = .ok (.iconst 1, 1) := by decide +kernel
theorem dX5_findServed_107 : decode cX5_findServed 107 = .ok (.iadd, 1) := by decide +kernel
theorem dX5_findServed_108 : decode cX5_findServed 108 = .ok (.idiv, 1) := by decide +kernel
theorem dX5_findServed_109 : decode cX5_findServed 109 = .ok (.istore 11, 2) := by decide +kernel
theorem dX5_findServed_111 : decode cX5_findServed 111 = .ok (.iload 10, 2) := by decide +kernel
theorem dX5_findServed_113 : decode cX5_findServed 113 = .ok (.iload 11, 2) := by decide +kernel
theorem dX5_findServed_115 : decode cX5_findServed 115 = .ok (.idiv, 1) := by decide +kernel
theorem dX5_findServed_116 : decode cX5_findServed 116 = .ok (.iconst 1, 1) := by decide +kernel
theorem dX5_findServed_117 : decode cX5_findServed 117 = .ok (.isub, 1) := by decide +kernel
theorem dX5_findServed_118 : decode cX5_findServed 118 = .ok (.istore 14, 2) := by decide +kernel
theorem dX5_findServed_120 : decode cX5_findServed 120 = .ok (.iload 10, 2) := by decide +kernel
theorem dX5_findServed_122 : decode cX5_findServed 122 = .ok (.iload 11, 2) := by decide +kernel
theorem dX5_findServed_124 : decode cX5_findServed 124 = .ok (.irem, 1) := by decide +kernel
theorem dX5_findServed_125 : decode cX5_findServed 125 = .ok (.istore 10, 2) := by decide +kernel
theorem dX5_findServed_127 : decode cX5_findServed 127 = .ok (.iload 14, 2) := by decide +kernel
theorem dX5_findServed_129 : decode cX5_findServed 129 = .ok (.ifCond .lt 34, 3) := by decide +kernel
theorem dX5_findServed_132 : decode cX5_findServed 132 = .ok (.iload_n 2, 1) := by decide +kernel
theorem dX5_findServed_133 : decode cX5_findServed 133 = .ok (.iload 14, 2) := by decide +kernel
theorem dX5_findServed_135 : decode cX5_findServed 135 = .ok (.invokestatic 63, 3) := by decide +kernel
theorem dX5_findServed_138 : decode cX5_findServed 138 = .ok (.ifCond .eq 29, 3) := by decide +kernel
theorem dX5_findServed_141 : decode cX5_findServed 141 = .ok (.iload 6, 2) := by decide +kernel
theorem dX5_findServed_143 : decode cX5_findServed 143 = .ok (.iload 14, 2) := by decide +kernel
theorem dX5_findServed_145 : decode cX5_findServed 145 = .ok (.invokestatic 63, 3) := by decide +kernel
theorem dX5_findServed_148 : decode cX5_findServed 148 = .ok (.ifCond .ne 19, 3) := by decide +kernel
theorem dX5_findServed_151 : decode cX5_findServed 151 = .ok (.aload_n 0, 1) := by decide +kernel
theorem dX5_findServed_152 : decode cX5_findServed 152 = .ok (.aload_n 1, 1) := by decide +kernel
theorem dX5_findServed_153 : decode cX5_findServed 153 = .ok (.iload 14, 2) := by decide +kernel
theorem dX5_findServed_155 : decode cX5_findServed 155 = .ok (.iload 13, 2) := by decide +kernel
theorem dX5_findServed_157 : decode cX5_findServed 157 = .ok (.invokevirtual 105, 3) := by decide +kernel
theorem dX5_findServed_160 : decode cX5_findServed 160 = .ok (.ifCond .eq 7, 3) := by decide +kernel
theorem dX5_findServed_163 : decode cX5_findServed 163 = .ok (.iconst 1, 1) := by decide +kernel
theorem dX5_findServed_164 : decode cX5_findServed 164 = .ok (.goto 4, 3) := by decide +kernel
theorem dX5_findServed_167 : decode cX5_findServed 167 = .ok (.iconst 0, 1) := by decide +kernel
theorem dX5_findServed_168 : decode cX5_findServed 168 = .ok (.istore 12, 2) := by decide +kernel
theorem dX5_findServed_170 : decode cX5_findServed 170 = .ok (.iload 6, 2) := by decide +kernel
theorem dX5_findServed_172 : decode cX5_findServed 172 = .ok (.iload 14, 2) := by decide +kernel
theorem dX5_findServed_174 : decode cX5_findServed 174 = .ok (.ifCond .ge 7, 3) := by decide +kernel
theorem dX5_findServed_177 : decode cX5_findServed 177 = .ok (.iconst 0, 1) := by decide +kernel
theorem dX5_findServed_178 : decode cX5_findServed 178 = .ok (.goto 7, 3) := by decide +kernel
theorem dX5_findServed_181 : decode cX5_findServed 181 = .ok (.iconst 1, 1) := by decide +kernel
theorem dX5_findServed_182 : decode cX5_findServed 182 = .ok (.iload 14, 2) := by decide +kernel
theorem dX5_findServed_184 : decode cX5_findServed 184 = .ok (.ishl, 1) := by decide +kernel
theorem dX5_findServed_185 : decode cX5_findServed 185 = .ok (.ior, 1) := by decide +kernel
theorem dX5_findServed_186 : decode cX5_findServed 186 = .ok (.istore 6, 2) := by decide +kernel
theorem dX5_findServed_188 : decode cX5_findServed 188 = .ok (.iload 7, 2) := by decide +kernel
theorem dX5_findServed_190 : decode cX5_findServed 190 = .ok (.iload 14, 2) := by decide +kernel
theorem dX5_findServed_192 : decode cX5_findServed 192 = .ok (.ifCond .ge 7, 3) := by decide +kernel
theorem dX5_findServed_195 : decode cX5_findServed 195 = .ok (.iconst 0, 1) := by decide +kernel
theorem dX5_findServed_196 : decode cX5_findServed 196 = .ok (.goto 10, 3) := by decide +kernel
theorem dX5_findServed_199 : decode cX5_findServed 199 = .ok (.aload_n 0, 1) := by decide +kernel
theorem dX5_findServed_200 : decode cX5_findServed 200 = .ok (.aload_n 1, 1) := by decide +kernel
theorem dX5_findServed_201 : decode cX5_findServed 201 = .ok (.iload 14, 2) := by decide +kernel
theorem dX5_findServed_203 : decode cX5_findServed 203 = .ok (.invokevirtual 97, 3) := by decide +kernel
theorem dX5_findServed_206 : decode cX5_findServed 206 = .ok (.iadd, 1) := by decide +kernel
theorem dX5_findServed_207 : decode cX5_findServed 207 = .ok (.istore 7, 2) := by decide +kernel
theorem dX5_findServed_209 : decode cX5_findServed 209 = .ok (.iload 8, 2) := by decide +kernel
theorem dX5_findServed_211 : decode cX5_findServed 211 = .ok (.iload 14, 2) := by decide +kernel
theorem dX5_findServed_213 : decode cX5_findServed 213 = .ok (.ifCond .ge 7, 3) := by decide +kernel
theorem dX5_findServed_216 : decode cX5_findServed 216 = .ok (.iconst 0, 1) := by decide +kernel
theorem dX5_findServed_217 : decode cX5_findServed 217 = .ok (.goto 4, 3) := by decide +kernel
theorem dX5_findServed_220 : decode cX5_findServed 220 = .ok (.iconst 1, 1) := by decide +kernel
theorem dX5_findServed_221 : decode cX5_findServed 221 = .ok (.iadd, 1) := by decide +kernel
theorem dX5_findServed_222 : decode cX5_findServed 222 = .ok (.istore 8, 2) := by decide +kernel
theorem dX5_findServed_224 : decode cX5_findServed 224 = .ok (.bipush 10, 2) := by decide +kernel
theorem dX5_findServed_226 : decode cX5_findServed 226 = .ok (.iload 9, 2) := by decide +kernel
theorem dX5_findServed_228 : decode cX5_findServed 228 = .ok (.imul, 1) := by decide +kernel
theorem dX5_findServed_229 : decode cX5_findServed 229 = .ok (.iload 14, 2) := by decide +kernel
theorem dX5_findServed_231 : decode cX5_findServed 231 = .ok (.iadd, 1) := by decide +kernel
theorem dX5_findServed_232 : decode cX5_findServed 232 = .ok (.iconst 1, 1) := by decide +kernel
theorem dX5_findServed_233 : decode cX5_findServed 233 = .ok (.iadd, 1) := by decide +kernel
theorem dX5_findServed_234 : decode cX5_findServed 234 = .ok (.istore 9, 2) := by decide +kernel
theorem dX5_findServed_236 : decode cX5_findServed 236 = .ok (.iinc 13 1, 3) := by decide +kernel
theorem dX5_findServed_239 : decode cX5_findServed 239 = .ok (.goto (-165), 3) := by decide +kernel
theorem dX5_findServed_242 : decode cX5_findServed 242 = .ok (.iload 12, 2) := by decide +kernel
theorem dX5_findServed_244 : decode cX5_findServed 244 = .ok (.ifCond .eq 48, 3) := by decide +kernel
theorem dX5_findServed_247 : decode cX5_findServed 247 = .ok (.iload 8, 2) := by decide +kernel
theorem dX5_findServed_249 : decode cX5_findServed 249 = .ok (.aload_n 0, 1) := by decide +kernel
theorem dX5_findServed_250 : decode cX5_findServed 250 = .ok (.getfield 133, 3) := by decide +kernel
theorem dX5_findServed_253 : decode cX5_findServed 253 = .ok (.if_icmp .gt 21, 3) := by decide +kernel
theorem dX5_findServed_256 : decode cX5_findServed 256 = .ok (.iload 8, 2) := by decide +kernel
theorem dX5_findServed_258 : decode cX5_findServed 258 = .ok (.aload_n 0, 1) := by decide +kernel
theorem dX5_findServed_259 : decode cX5_findServed 259 = .ok (.getfield 133, 3) := by decide +kernel
theorem dX5_findServed_262 : decode cX5_findServed 262 = .ok (.if_icmp .ne 30, 3) := by decide +kernel
theorem dX5_findServed_265 : decode cX5_findServed 265 = .ok (.iload 7, 2) := by decide +kernel
theorem dX5_findServed_267 : decode cX5_findServed 267 = .ok (.aload_n 0, 1) := by decide +kernel
theorem dX5_findServed_268 : decode cX5_findServed 268 = .ok (.getfield 136, 3) := by decide +kernel
theorem dX5_findServed_271 : decode cX5_findServed 271 = .ok (.if_icmp .ge 21, 3) := by decide +kernel
theorem dX5_findServed_274 : decode cX5_findServed 274 = .ok (.aload_n 0, 1) := by decide +kernel
theorem dX5_findServed_275 : decode cX5_findServed 275 = .ok (.iload 8, 2) := by decide +kernel
theorem dX5_findServed_277 : decode cX5_findServed 277 = .ok (.putfield 133, 3) := by decide +kernel
theorem dX5_findServed_280 : decode cX5_findServed 280 = .ok (.aload_n 0, 1) := by decide +kernel
theorem dX5_findServed_281 : decode cX5_findServed 281 = .ok (.iload 7, 2) := by decide +kernel
theorem dX5_findServed_283 : decode cX5_findServed 283 = .ok (.putfield 136, 3) := by decide +kernel
theorem dX5_findServed_286 : decode cX5_findServed 286 = .ok (.aload_n 0, 1) := by decide +kernel
theorem dX5_findServed_287 : decode cX5_findServed 287 = .ok (.iload 9, 2) := by decide +kernel
theorem dX5_findServed_289 : decode cX5_findServed 289 = .ok (.putfield 139, 3) := by decide +kernel
theorem dX5_findServed_292 : decode cX5_findServed 292 = .ok (.iinc 5 1, 3) := by decide +kernel
theorem dX5_findServed_295 : decode cX5_findServed 295 = .ok (.goto (-254), 3) := by decide +kernel
theorem dX5_findServed_298 : decode cX5_findServed 298 = .ok (.return_, 1) := by decide +kernel
theorem dX5_served_0 : decode cX5_served 0 = .ok (.aload_n 0, 1) := by decide +kernel
theorem dX5_served_1 : decode cX5_served 1 = .ok (.iconst 0, 1) := by decide +kernel
theorem dX5_served_2 : decode cX5_served 2 = .ok (.putfield 41, 3) := by decide +kernel
theorem dX5_served_5 : decode cX5_served 5 = .ok (.iload_n 1, 1) := by decide +kernel
theorem dX5_served_6 : decode cX5_served 6 = .ok (.i2l, 1) := by decide +kernel
theorem dX5_served_7 : decode cX5_served 7 = .ok (.lconst 0, 1) := by decide +kernel
theorem dX5_served_8 : decode cX5_served 8 = .ok (.ldc2_w 145, 3) := by decide +kernel
theorem dX5_served_11 : decode cX5_served 11 = .ok (.invokestatic 48, 3) := by decide +kernel
theorem dX5_served_14 : decode cX5_served 14 = .ok (.ifCond .ne 6, 3) := by decide +kernel
theorem dX5_served_17 : decode cX5_served 17 = .ok (.bipush (-2), 2) := by decide +kernel
theorem dX5_served_19 : decode cX5_served 19 = .ok (.ireturn, 1) := by decide +kernel
theorem dX5_served_20 : decode cX5_served 20 = .ok (.aload_n 0, 1) := by decide +kernel
theorem dX5_served_21 : decode cX5_served 21 = .ok (.aload_n 0, 1) := by decide +kernel
theorem dX5_served_22 : decode cX5_served 22 = .ok (.getfield 22, 3) := by decide +kernel
theorem dX5_served_25 : decode cX5_served 25 = .ok (.aload_n 0, 1) := by decide +kernel
theorem dX5_served_26 : decode cX5_served 26 = .ok (.invokevirtual 147, 3) := by decide +kernel
theorem dX5_served_29 : decode cX5_served 29 = .ok (.invokevirtual 150, 3) := by decide +kernel
theorem dX5_served_32 : decode cX5_served 32 = .ok (.iload_n 1, 1) := by decide +kernel
theorem dX5_served_33 : decode cX5_served 33 = .ok (.ifCond .ne 10, 3) := by decide +kernel
theorem dX5_served_36 : decode cX5_served 36 = .ok (.aload_n 0, 1) := by decide +kernel
theorem dX5_served_37 : decode cX5_served 37 = .ok (.getfield 133, 3) := by decide +kernel
theorem dX5_served_40 : decode cX5_served 40 = .ok (.goto 19, 3) := by decide +kernel
theorem dX5_served_43 : decode cX5_served 43 = .ok (.iload_n 1, 1) := by decide +kernel
theorem dX5_served_44 : decode cX5_served 44 = .ok (.iconst 1, 1) := by decide +kernel
theorem dX5_served_45 : decode cX5_served 45 = .ok (.if_icmp .ne 10, 3) := by decide +kernel
theorem dX5_served_48 : decode cX5_served 48 = .ok (.aload_n 0, 1) := by decide +kernel
theorem dX5_served_49 : decode cX5_served 49 = .ok (.getfield 136, 3) := by decide +kernel
theorem dX5_served_52 : decode cX5_served 52 = .ok (.goto 7, 3) := by decide +kernel
theorem dX5_served_55 : decode cX5_served 55 = .ok (.aload_n 0, 1) := by decide +kernel
theorem dX5_served_56 : decode cX5_served 56 = .ok (.getfield 139, 3) := by decide +kernel
theorem dX5_served_59 : decode cX5_served 59 = .ok (.ireturn, 1) := by decide +kernel
theorem dX5_nobody_0 : decode cX5_nobody 0 = .ok (.aload_n 0, 1) := by decide +kernel
theorem dX5_nobody_1 : decode cX5_nobody 1 = .ok (.iconst 0, 1) := by decide +kernel
theorem dX5_nobody_2 : decode cX5_nobody 2 = .ok (.putfield 41, 3) := by decide +kernel
theorem dX5_nobody_5 : decode cX5_nobody 5 = .ok (.iload_n 1, 1) := by decide +kernel
theorem dX5_nobody_6 : decode cX5_nobody 6 = .ok (.i2l, 1) := by decide +kernel
theorem dX5_nobody_7 : decode cX5_nobody 7 = .ok (.lconst 0, 1) := by decide +kernel
theorem dX5_nobody_8 : decode cX5_nobody 8 = .ok (.lconst 1, 1) := by decide +kernel
theorem dX5_nobody_9 : decode cX5_nobody 9 = .ok (.invokestatic 48, 3) := by decide +kernel
theorem dX5_nobody_12 : decode cX5_nobody 12 = .ok (.ifCond .ne 6, 3) := by decide +kernel
theorem dX5_nobody_15 : decode cX5_nobody 15 = .ok (.bipush (-2), 2) := by decide +kernel
theorem dX5_nobody_17 : decode cX5_nobody 17 = .ok (.ireturn, 1) := by decide +kernel
theorem dX5_nobody_18 : decode cX5_nobody 18 = .ok (.iconst 0, 1) := by decide +kernel
theorem dX5_nobody_19 : decode cX5_nobody 19 = .ok (.istore_n 2, 1) := by decide +kernel
theorem dX5_nobody_20 : decode cX5_nobody 20 = .ok (.iconst 0, 1) := by decide +kernel
theorem dX5_nobody_21 : decode cX5_nobody 21 = .ok (.istore_n 3, 1) := by decide +kernel
theorem dX5_nobody_22 : decode cX5_nobody 22 = .ok (.iload_n 3, 1) := by decide +kernel
theorem dX5_nobody_23 : decode cX5_nobody 23 = .ok (.aload_n 0, 1) := by decide +kernel
theorem dX5_nobody_24 : decode cX5_nobody 24 = .ok (.getfield 45, 3) := by decide +kernel
theorem dX5_nobody_27 : decode cX5_nobody 27 = .ok (.if_icmp .ge 118, 3) := by decide +kernel
theorem dX5_nobody_30 : decode cX5_nobody 30 = .ok (.iload_n 1, 1) := by decide +kernel
theorem dX5_nobody_31 : decode cX5_nobody 31 = .ok (.iconst 1, 1) := by decide +kernel
theorem dX5_nobody_32 : decode cX5_nobody 32 = .ok (.if_icmp .ne 31, 3) := by decide +kernel
theorem dX5_nobody_35 : decode cX5_nobody 35 = .ok (.aload_n 0, 1) := by decide +kernel
theorem dX5_nobody_36 : decode cX5_nobody 36 = .ok (.getfield 22, 3) := by decide +kernel
theorem dX5_nobody_39 : decode cX5_nobody 39 = .ok (.bipush 10, 2) := by decide +kernel
theorem dX5_nobody_41 : decode cX5_nobody 41 = .ok (.iload_n 3, 1) := by decide +kernel
theorem dX5_nobody_42 : decode cX5_nobody 42 = .ok (.iadd, 1) := by decide +kernel
theorem dX5_nobody_43 : decode cX5_nobody 43 = .ok (.iaload, 1) := by decide +kernel
theorem dX5_nobody_44 : decode cX5_nobody 44 = .ok (.iconst 1, 1) := by decide +kernel
theorem dX5_nobody_45 : decode cX5_nobody 45 = .ok (.iload_n 3, 1) := by decide +kernel
theorem dX5_nobody_46 : decode cX5_nobody 46 = .ok (.ishl, 1) := by decide +kernel
theorem dX5_nobody_47 : decode cX5_nobody 47 = .ok (.ior, 1) := by decide +kernel
theorem dX5_nobody_48 : decode cX5_nobody 48 = .ok (.aload_n 0, 1) := by decide +kernel
theorem dX5_nobody_49 : decode cX5_nobody 49 = .ok (.invokevirtual 147, 3) := by decide +kernel
theorem dX5_nobody_52 : decode cX5_nobody 52 = .ok (.if_icmp .ne 7, 3) := by decide +kernel
theorem dX5_nobody_55 : decode cX5_nobody 55 = .ok (.iconst 1, 1) := by decide +kernel
theorem dX5_nobody_56 : decode cX5_nobody 56 = .ok (.goto 18, 3) := by decide +kernel
theorem dX5_nobody_59 : decode cX5_nobody 59 = .ok (.iconst 0, 1) := by decide +kernel
theorem dX5_nobody_60 : decode cX5_nobody 60 = .ok (.goto 14, 3) := by decide +kernel
theorem dX5_nobody_63 : decode cX5_nobody 63 = .ok (.aload_n 0, 1) := by decide +kernel
theorem dX5_nobody_64 : decode cX5_nobody 64 = .ok (.getfield 22, 3) := by decide +kernel
theorem dX5_nobody_67 : decode cX5_nobody 67 = .ok (.bipush 15, 2) := by decide +kernel
theorem dX5_nobody_69 : decode cX5_nobody 69 = .ok (.iaload, 1) := by decide +kernel
theorem dX5_nobody_70 : decode cX5_nobody 70 = .ok (.iload_n 3, 1) := by decide +kernel
theorem dX5_nobody_71 : decode cX5_nobody 71 = .ok (.invokestatic 63, 3) := by decide +kernel
theorem dX5_nobody_74 : decode cX5_nobody 74 = .ok (.istore 4, 2) := by decide +kernel
theorem dX5_nobody_76 : decode cX5_nobody 76 = .ok (.iconst 0, 1) := by decide +kernel
theorem dX5_nobody_77 : decode cX5_nobody 77 = .ok (.istore 5, 2) := by decide +kernel
theorem dX5_nobody_79 : decode cX5_nobody 79 = .ok (.iload 5, 2) := by decide +kernel
theorem dX5_nobody_81 : decode cX5_nobody 81 = .ok (.aload_n 0, 1) := by decide +kernel
theorem dX5_nobody_82 : decode cX5_nobody 82 = .ok (.getfield 45, 3) := by decide +kernel
theorem dX5_nobody_85 : decode cX5_nobody 85 = .ok (.if_icmp .ge 39, 3) := by decide +kernel
theorem dX5_nobody_88 : decode cX5_nobody 88 = .ok (.iload_n 1, 1) := by decide +kernel
theorem dX5_nobody_89 : decode cX5_nobody 89 = .ok (.ifCond .ne 35, 3) := by decide +kernel
theorem dX5_nobody_92 : decode cX5_nobody 92 = .ok (.iload 4, 2) := by decide +kernel
theorem dX5_nobody_94 : decode cX5_nobody 94 = .ok (.ifCond .eq 21, 3) := by decide +kernel
theorem dX5_nobody_97 : decode cX5_nobody 97 = .ok (.aload_n 0, 1) := by decide +kernel
theorem dX5_nobody_98 : decode cX5_nobody 98 = .ok (.aload_n 0, 1) := by decide +kernel
theorem dX5_nobody_99 : decode cX5_nobody 99 = .ok (.getfield 22, 3) := by decide +kernel
theorem dX5_nobody_102 : decode cX5_nobody 102 = .ok (.iload 5, 2) := by decide +kernel
theorem dX5_nobody_104 : decode cX5_nobody 104 = .ok (.iload_n 3, 1) := by decide +kernel
theorem dX5_nobody_105 : decode cX5_nobody 105 = .ok (.invokevirtual 105, 3) := by decide +kernel
theorem dX5_nobody_108 : decode cX5_nobody 108 = .ok (.ifCond .ne 7, 3) := by decide +kernel
theorem dX5_nobody_111 : decode cX5_nobody 111 = .ok (.iconst 1, 1) := by decide +kernel
theorem dX5_nobody_112 : decode cX5_nobody 112 = .ok (.goto 4, 3) := by decide +kernel
theorem dX5_nobody_115 : decode cX5_nobody 115 = .ok (.iconst 0, 1) := by decide +kernel
theorem dX5_nobody_116 : decode cX5_nobody 116 = .ok (.istore 4, 2) := by decide +kernel
theorem dX5_nobody_118 : decode cX5_nobody 118 = .ok (.iinc 5 1, 3) := by decide +kernel
theorem dX5_nobody_121 : decode cX5_nobody 121 = .ok (.goto (-42), 3) := by decide +kernel
theorem dX5_nobody_124 : decode cX5_nobody 124 = .ok (.iload_n 2, 1) := by decide +kernel
theorem dX5_nobody_125 : decode cX5_nobody 125 = .ok (.iload 4, 2) := by decide +kernel
theorem dX5_nobody_127 : decode cX5_nobody 127 = .ok (.ifCond .eq 9, 3) := by decide +kernel
theorem dX5_nobody_130 : decode cX5_nobody 130 = .ok (.iconst 1, 1) := by decide +kernel
theorem dX5_nobody_131 : decode cX5_nobody 131 = .ok (.iload_n 3, 1) := by decide +kernel
theorem dX5_nobody_132 : decode cX5_nobody 132 = .ok (.ishl, 1) := by decide +kernel
theorem dX5_nobody_133 : decode cX5_nobody 133 = .ok (.goto 4, 3) := by decide +kernel
theorem dX5_nobody_136 : decode cX5_nobody 136 = .ok (.iconst 0, 1) := by decide +kernel
theorem dX5_nobody_137 : decode cX5_nobody 137 = .ok (.ior, 1) := by decide +kernel
theorem dX5_nobody_138 : decode cX5_nobody 138 = .ok (.istore_n 2, 1) := by decide +kernel
theorem dX5_nobody_139 : decode cX5_nobody 139 = .ok (.iinc 3 1, 3) := by decide +kernel
theorem dX5_nobody_142 : decode cX5_nobody 142 = .ok (.goto (-120), 3) := by decide +kernel
theorem dX5_nobody_145 : decode cX5_nobody 145 = .ok (.iload_n 2, 1) := by decide +kernel
theorem dX5_nobody_146 : decode cX5_nobody 146 = .ok (.ireturn, 1) := by decide +kernel
theorem dX5_till_0 : decode cX5_till 0 = .ok (.aload_n 0, 1) := by decide +kernel
theorem dX5_till_1 : decode cX5_till 1 = .ok (.iconst 0, 1) := by decide +kernel
theorem dX5_till_2 : decode cX5_till 2 = .ok (.putfield 41, 3) := by decide +kernel
theorem dX5_till_5 : decode cX5_till 5 = .ok (.aload_n 0, 1) := by decide +kernel
theorem dX5_till_6 : decode cX5_till 6 = .ok (.iload_n 1, 1) := by decide +kernel
theorem dX5_till_7 : decode cX5_till 7 = .ok (.invokevirtual 108, 3) := by decide +kernel
theorem dX5_till_10 : decode cX5_till 10 = .ok (.ifCond .ne 11, 3) := by decide +kernel
theorem dX5_till_13 : decode cX5_till 13 = .ok (.aload_n 0, 1) := by decide +kernel
theorem dX5_till_14 : decode cX5_till 14 = .ok (.iload_n 2, 1) := by decide +kernel
theorem dX5_till_15 : decode cX5_till 15 = .ok (.invokevirtual 108, 3) := by decide +kernel
theorem dX5_till_18 : decode cX5_till 18 = .ok (.ifCond .eq 5, 3) := by decide +kernel
theorem dX5_till_21 : decode cX5_till 21 = .ok (.iconst (-1), 1) := by decide +kernel
theorem dX5_till_22 : decode cX5_till 22 = .ok (.ireturn, 1) := by decide +kernel
theorem dX5_till_23 : decode cX5_till 23 = .ok (.aload_n 0, 1) := by decide +kernel
theorem dX5_till_24 : decode cX5_till 24 = .ok (.invokevirtual 153, 3) := by decide +kernel
theorem dX5_till_27 : decode cX5_till 27 = .ok (.iconst 0, 1) := by decide +kernel
theorem dX5_till_28 : decode cX5_till 28 = .ok (.istore_n 3, 1) := by decide +kernel
theorem dX5_till_29 : decode cX5_till 29 = .ok (.iload_n 3, 1) := by decide +kernel
theorem dX5_till_30 : decode cX5_till 30 = .ok (.bipush 9, 2) := by decide +kernel
theorem dX5_till_32 : decode cX5_till 32 = .ok (.if_icmp .gt 32, 3) := by decide +kernel
theorem dX5_till_35 : decode cX5_till 35 = .ok (.aload_n 0, 1) := by decide +kernel
theorem dX5_till_36 : decode cX5_till 36 = .ok (.aload_n 0, 1) := by decide +kernel
theorem dX5_till_37 : decode cX5_till 37 = .ok (.getfield 25, 3) := by decide +kernel
theorem dX5_till_40 : decode cX5_till 40 = .ok (.iload_n 1, 1) := by decide +kernel
theorem dX5_till_41 : decode cX5_till 41 = .ok (.iload_n 2, 1) := by decide +kernel
theorem dX5_till_42 : decode cX5_till 42 = .ok (.invokevirtual 105, 3) := by decide +kernel
theorem dX5_till_45 : decode cX5_till 45 = .ok (.ifCond .eq 5, 3) := by decide +kernel
theorem dX5_till_48 : decode cX5_till 48 = .ok (.iload_n 3, 1) := by decide +kernel
theorem dX5_till_49 : decode cX5_till 49 = .ok (.ireturn, 1) := by decide +kernel
theorem dX5_till_50 : decode cX5_till 50 = .ok (.aload_n 0, 1) := by decide +kernel
theorem dX5_till_51 : decode cX5_till 51 = .ok (.aload_n 0, 1) := by decide +kernel
theorem dX5_till_52 : decode cX5_till 52 = .ok (.getfield 25, 3) := by decide +kernel
theorem dX5_till_55 : decode cX5_till 55 = .ok (.invokevirtual 129, 3) := by decide +kernel
theorem dX5_till_58 : decode cX5_till 58 = .ok (.iinc 3 1, 3) := by decide +kernel
theorem dX5_till_61 : decode cX5_till 61 = .ok (.goto (-32), 3) := by decide +kernel
theorem dX5_till_64 : decode cX5_till 64 = .ok (.bipush (-9), 2) := by decide +kernel
theorem dX5_till_66 : decode cX5_till 66 = .ok (.ireturn, 1) := by decide +kernel
theorem dX5_net_0 : decode cX5_net 0 = .ok (.aload_n 0, 1) := by decide +kernel
theorem dX5_net_1 : decode cX5_net 1 = .ok (.iconst 0, 1) := by decide +kernel
theorem dX5_net_2 : decode cX5_net 2 = .ok (.putfield 41, 3) := by decide +kernel
theorem dX5_net_5 : decode cX5_net 5 = .ok (.aload_n 0, 1) := by decide +kernel
theorem dX5_net_6 : decode cX5_net 6 = .ok (.iload_n 1, 1) := by decide +kernel
theorem dX5_net_7 : decode cX5_net 7 = .ok (.invokevirtual 108, 3) := by decide +kernel
theorem dX5_net_10 : decode cX5_net 10 = .ok (.ifCond .eq 5, 3) := by decide +kernel
theorem dX5_net_13 : decode cX5_net 13 = .ok (.iconst (-1), 1) := by decide +kernel
theorem dX5_net_14 : decode cX5_net 14 = .ok (.ireturn, 1) := by decide +kernel
theorem dX5_net_15 : decode cX5_net 15 = .ok (.bipush 100, 2) := by decide +kernel
theorem dX5_net_17 : decode cX5_net 17 = .ok (.istore_n 2, 1) := by decide +kernel
theorem dX5_net_18 : decode cX5_net 18 = .ok (.iconst 0, 1) := by decide +kernel
theorem dX5_net_19 : decode cX5_net 19 = .ok (.istore_n 3, 1) := by decide +kernel
theorem dX5_net_20 : decode cX5_net 20 = .ok (.iload_n 3, 1) := by decide +kernel
theorem dX5_net_21 : decode cX5_net 21 = .ok (.aload_n 0, 1) := by decide +kernel
theorem dX5_net_22 : decode cX5_net 22 = .ok (.getfield 45, 3) := by decide +kernel
theorem dX5_net_25 : decode cX5_net 25 = .ok (.if_icmp .ge 39, 3) := by decide +kernel
theorem dX5_net_28 : decode cX5_net 28 = .ok (.iload_n 2, 1) := by decide +kernel
theorem dX5_net_29 : decode cX5_net 29 = .ok (.aload_n 0, 1) := by decide +kernel
theorem dX5_net_30 : decode cX5_net 30 = .ok (.getfield 22, 3) := by decide +kernel
theorem dX5_net_33 : decode cX5_net 33 = .ok (.bipush 16, 2) := by decide +kernel
theorem dX5_net_35 : decode cX5_net 35 = .ok (.iconst 5, 1) := by decide +kernel
theorem dX5_net_36 : decode cX5_net 36 = .ok (.iload_n 3, 1) := by decide +kernel
theorem dX5_net_37 : decode cX5_net 37 = .ok (.imul, 1) := by decide +kernel
theorem dX5_net_38 : decode cX5_net 38 = .ok (.iadd, 1) := by decide +kernel
theorem dX5_net_39 : decode cX5_net 39 = .ok (.iload_n 1, 1) := by decide +kernel
theorem dX5_net_40 : decode cX5_net 40 = .ok (.iadd, 1) := by decide +kernel
theorem dX5_net_41 : decode cX5_net 41 = .ok (.iaload, 1) := by decide +kernel
theorem dX5_net_42 : decode cX5_net 42 = .ok (.aload_n 0, 1) := by decide +kernel
theorem dX5_net_43 : decode cX5_net 43 = .ok (.getfield 22, 3) := by decide +kernel
theorem dX5_net_46 : decode cX5_net 46 = .ok (.bipush 16, 2) := by decide +kernel
theorem dX5_net_48 : decode cX5_net 48 = .ok (.iconst 5, 1) := by decide +kernel
theorem dX5_net_49 : decode cX5_net 49 = .ok (.iload_n 1, 1) := by decide +kernel
theorem dX5_net_50 : decode cX5_net 50 = .ok (.imul, 1) := by decide +kernel
theorem dX5_net_51 : decode cX5_net 51 = .ok (.iadd, 1) := by decide +kernel
theorem dX5_net_52 : decode cX5_net 52 = .ok (.iload_n 3, 1) := by decide +kernel
theorem dX5_net_53 : decode cX5_net 53 = .ok (.iadd, 1) := by decide +kernel
theorem dX5_net_54 : decode cX5_net 54 = .ok (.iaload, 1) := by decide +kernel
theorem dX5_net_55 : decode cX5_net 55 = .ok (.isub, 1) := by decide +kernel
theorem dX5_net_56 : decode cX5_net 56 = .ok (.iadd, 1) := by decide +kernel
theorem dX5_net_57 : decode cX5_net 57 = .ok (.istore_n 2, 1) := by decide +kernel
theorem dX5_net_58 : decode cX5_net 58 = .ok (.iinc 3 1, 3) := by decide +kernel
theorem dX5_net_61 : decode cX5_net 61 = .ok (.goto (-41), 3) := by decide +kernel
theorem dX5_net_64 : decode cX5_net 64 = .ok (.iload_n 2, 1) := by decide +kernel
theorem dX5_net_65 : decode cX5_net 65 = .ok (.ireturn, 1) := by decide +kernel
theorem dX5_ring_0 : decode cX5_ring 0 = .ok (.aload_n 0, 1) := by decide +kernel
theorem dX5_ring_1 : decode cX5_ring 1 = .ok (.iconst 0, 1) := by decide +kernel
theorem dX5_ring_2 : decode cX5_ring 2 = .ok (.putfield 41, 3) := by decide +kernel
theorem dX5_ring_5 : decode cX5_ring 5 = .ok (.iconst 0, 1) := by decide +kernel
theorem dX5_ring_6 : decode cX5_ring 6 = .ok (.istore_n 1, 1) := by decide +kernel
theorem dX5_ring_7 : decode cX5_ring 7 = .ok (.iconst 0, 1) := by decide +kernel
theorem dX5_ring_8 : decode cX5_ring 8 = .ok (.istore_n 2, 1) := by decide +kernel
theorem dX5_ring_9 : decode cX5_ring 9 = .ok (.iload_n 2, 1) := by decide +kernel
theorem dX5_ring_10 : decode cX5_ring 10 = .ok (.aload_n 0, 1) := by decide +kernel
theorem dX5_ring_11 : decode cX5_ring 11 = .ok (.getfield 45, 3) := by decide +kernel
theorem dX5_ring_14 : decode cX5_ring 14 = .ok (.if_icmp .ge 139, 3) := by decide +kernel
theorem dX5_ring_17 : decode cX5_ring 17 = .ok (.iconst 0, 1) := by decide +kernel
theorem dX5_ring_18 : decode cX5_ring 18 = .ok (.istore_n 3, 1) := by decide +kernel
theorem dX5_ring_19 : decode cX5_ring 19 = .ok (.iconst 0, 1) := by decide +kernel
theorem dX5_ring_20 : decode cX5_ring 20 = .ok (.istore 4, 2) := by decide +kernel
theorem dX5_ring_22 : decode cX5_ring 22 = .ok (.iload 4, 2) := by decide +kernel
theorem dX5_ring_24 : decode cX5_ring 24 = .ok (.aload_n 0, 1) := by decide +kernel
theorem dX5_ring_25 : decode cX5_ring 25 = .ok (.getfield 45, 3) := by decide +kernel
theorem dX5_ring_28 : decode cX5_ring 28 = .ok (.if_icmp .ge 101, 3) := by decide +kernel
theorem dX5_ring_31 : decode cX5_ring 31 = .ok (.iconst 0, 1) := by decide +kernel
theorem dX5_ring_32 : decode cX5_ring 32 = .ok (.istore 5, 2) := by decide +kernel
theorem dX5_ring_34 : decode cX5_ring 34 = .ok (.iload 5, 2) := by decide +kernel
theorem dX5_ring_36 : decode cX5_ring 36 = .ok (.aload_n 0, 1) := by decide +kernel
theorem dX5_ring_37 : decode cX5_ring 37 = .ok (.getfield 45, 3) := by decide +kernel
theorem dX5_ring_40 : decode cX5_ring 40 = .ok (.if_icmp .ge 83, 3) := by decide +kernel
theorem dX5_ring_43 : decode cX5_ring 43 = .ok (.iload 5, 2) := by decide +kernel
theorem dX5_ring_45 : decode cX5_ring 45 = .ok (.iload_n 2, 1) := by decide +kernel
theorem dX5_ring_46 : decode cX5_ring 46 = .ok (.if_icmp .eq 12, 3) := by decide +kernel
theorem dX5_ring_49 : decode cX5_ring 49 = .ok (.iload_n 3, 1) := by decide +kernel
theorem dX5_ring_50 : decode cX5_ring 50 = .ok (.iload 5, 2) := by decide +kernel
theorem dX5_ring_52 : decode cX5_ring 52 = .ok (.invokestatic 63, 3) := by decide +kernel
theorem dX5_ring_55 : decode cX5_ring 55 = .ok (.ifCond .eq 7, 3) := by decide +kernel
theorem dX5_ring_58 : decode cX5_ring 58 = .ok (.iconst 1, 1) := by decide +kernel
theorem dX5_ring_59 : decode cX5_ring 59 = .ok (.goto 4, 3) := by decide +kernel
theorem dX5_ring_62 : decode cX5_ring 62 = .ok (.iconst 0, 1) := by decide +kernel
theorem dX5_ring_63 : decode cX5_ring 63 = .ok (.istore 6, 2) := by decide +kernel
theorem dX5_ring_65 : decode cX5_ring 65 = .ok (.iconst 0, 1) := by decide +kernel
theorem dX5_ring_66 : decode cX5_ring 66 = .ok (.istore 7, 2) := by decide +kernel
theorem dX5_ring_68 : decode cX5_ring 68 = .ok (.iload 7, 2) := by decide +kernel
theorem dX5_ring_70 : decode cX5_ring 70 = .ok (.aload_n 0, 1) := by decide +kernel
theorem dX5_ring_71 : decode cX5_ring 71 = .ok (.getfield 45, 3) := by decide +kernel
theorem dX5_ring_74 : decode cX5_ring 74 = .ok (.if_icmp .ge 43, 3) := by decide +kernel
theorem dX5_ring_77 : decode cX5_ring 77 = .ok (.iload_n 3, 1) := by decide +kernel
theorem dX5_ring_78 : decode cX5_ring 78 = .ok (.iload 6, 2) := by decide +kernel
theorem dX5_ring_80 : decode cX5_ring 80 = .ok (.ifCond .eq 28, 3) := by decide +kernel
theorem dX5_ring_83 : decode cX5_ring 83 = .ok (.aload_n 0, 1) := by decide +kernel
theorem dX5_ring_84 : decode cX5_ring 84 = .ok (.getfield 22, 3) := by decide +kernel
theorem dX5_ring_87 : decode cX5_ring 87 = .ok (.bipush 16, 2) := by decide +kernel
theorem dX5_ring_89 : decode cX5_ring 89 = .ok (.iconst 5, 1) := by decide +kernel
theorem dX5_ring_90 : decode cX5_ring 90 = .ok (.iload 5, 2) := by decide +kernel
theorem dX5_ring_92 : decode cX5_ring 92 = .ok (.imul, 1) := by decide +kernel
theorem dX5_ring_93 : decode cX5_ring 93 = .ok (.iadd, 1) := by decide +kernel
theorem dX5_ring_94 : decode cX5_ring 94 = .ok (.iload 7, 2) := by decide +kernel
theorem dX5_ring_96 : decode cX5_ring 96 = .ok (.iadd, 1) := by decide +kernel
theorem dX5_ring_97 : decode cX5_ring 97 = .ok (.iaload, 1) := by decide +kernel
theorem dX5_ring_98 : decode cX5_ring 98 = .ok (.ifCond .le 10, 3) := by decide +kernel
theorem dX5_ring_101 : decode cX5_ring 101 = .ok (.iconst 1, 1) := by decide +kernel
theorem dX5_ring_102 : decode cX5_ring 102 = .ok (.iload 7, 2) := by decide +kernel
theorem dX5_ring_104 : decode cX5_ring 104 = .ok (.ishl, 1) := by decide +kernel
theorem dX5_ring_105 : decode cX5_ring 105 = .ok (.goto 4, 3) := by decide +kernel
theorem dX5_ring_108 : decode cX5_ring 108 = .ok (.iconst 0, 1) := by decide +kernel
theorem dX5_ring_109 : decode cX5_ring 109 = .ok (.ior, 1) := by decide +kernel
theorem dX5_ring_110 : decode cX5_ring 110 = .ok (.istore_n 3, 1) := by decide +kernel
theorem dX5_ring_111 : decode cX5_ring 111 = .ok (.iinc 7 1, 3) := by decide +kernel
theorem dX5_ring_114 : decode cX5_ring 114 = .ok (.goto (-46), 3) := by decide +kernel
theorem dX5_ring_117 : decode cX5_ring 117 = .ok (.iinc 5 1, 3) := by decide +kernel
theorem dX5_ring_120 : decode cX5_ring 120 = .ok (.goto (-86), 3) := by decide +kernel
theorem dX5_ring_123 : decode cX5_ring 123 = .ok (.iinc 4 1, 3) := by decide +kernel
theorem dX5_ring_126 : decode cX5_ring 126 = .ok (.goto (-104), 3) := by decide +kernel
theorem dX5_ring_129 : decode cX5_ring 129 = .ok (.iload_n 1, 1) := by decide +kernel
theorem dX5_ring_130 : decode cX5_ring 130 = .ok (.iload_n 3, 1) := by decide +kernel
theorem dX5_ring_131 : decode cX5_ring 131 = .ok (.iload_n 2, 1) := by decide +kernel
theorem dX5_ring_132 : decode cX5_ring 132 = .ok (.invokestatic 63, 3) := by decide +kernel
theorem dX5_ring_135 : decode cX5_ring 135 = .ok (.ifCond .eq 9, 3) := by decide +kernel
theorem dX5_ring_138 : decode cX5_ring 138 = .ok (.iconst 1, 1) := by decide +kernel
theorem dX5_ring_139 : decode cX5_ring 139 = .ok (.iload_n 2, 1) := by decide +kernel
theorem dX5_ring_140 : decode cX5_ring 140 = .ok (.ishl, 1) := by decide +kernel
theorem dX5_ring_141 : decode cX5_ring 141 = .ok (.goto 4, 3) := by decide +kernel
theorem dX5_ring_144 : decode cX5_ring 144 = .ok (.iconst 0, 1) := by decide +kernel
theorem dX5_ring_145 : decode cX5_ring 145 = .ok (.ior, 1) := by decide +kernel
theorem dX5_ring_146 : decode cX5_ring 146 = .ok (.istore_n 1, 1) := by decide +kernel
theorem dX5_ring_147 : decode cX5_ring 147 = .ok (.iinc 2 1, 3) := by decide +kernel
theorem dX5_ring_150 : decode cX5_ring 150 = .ok (.goto (-141), 3) := by decide +kernel
theorem dX5_ring_153 : decode cX5_ring 153 = .ok (.iload_n 1, 1) := by decide +kernel
theorem dX5_ring_154 : decode cX5_ring 154 = .ok (.ireturn, 1) := by decide +kernel
theorem dX5_orders_0 : decode cX5_orders 0 = .ok (.iconst 1, 1) := by decide +kernel
theorem dX5_orders_1 : decode cX5_orders 1 = .ok (.istore_n 1, 1) := by decide +kernel
theorem dX5_orders_2 : decode cX5_orders 2 = .ok (.iconst 2, 1) := by decide +kernel
theorem dX5_orders_3 : decode cX5_orders 3 = .ok (.istore_n 2, 1) := by decide +kernel
theorem dX5_orders_4 : decode cX5_orders 4 = .ok (.iload_n 2, 1) := by decide +kernel
theorem dX5_orders_5 : decode cX5_orders 5 = .ok (.iload_n 0, 1) := by decide +kernel
theorem dX5_orders_6 : decode cX5_orders 6 = .ok (.if_icmp .gt 13, 3) := by decide +kernel
theorem dX5_orders_9 : decode cX5_orders 9 = .ok (.iload_n 1, 1) := by decide +kernel
theorem dX5_orders_10 : decode cX5_orders 10 = .ok (.iload_n 2, 1) := by decide +kernel
theorem dX5_orders_11 : decode cX5_orders 11 = .ok (.imul, 1) := by decide +kernel
theorem dX5_orders_12 : decode cX5_orders 12 = .ok (.istore_n 1, 1) := by decide +kernel
theorem dX5_orders_13 : decode cX5_orders 13 = .ok (.iinc 2 1, 3) := by decide +kernel
theorem dX5_orders_16 : decode cX5_orders 16 = .ok (.goto (-12), 3) := by decide +kernel
theorem dX5_orders_19 : decode cX5_orders 19 = .ok (.iload_n 1, 1) := by decide +kernel
theorem dX5_orders_20 : decode cX5_orders 20 = .ok (.ireturn, 1) := by decide +kernel
theorem dX5_divisor_0 : decode cX5_divisor 0 = .ok (.iload_n 0, 1) := by decide +kernel
theorem dX5_divisor_1 : decode cX5_divisor 1 = .ok (.ifCond .ge 8, 3) := by decide +kernel
theorem dX5_divisor_4 : decode cX5_divisor 4 = .ok (.iload_n 0, 1) := by decide +kernel
theorem dX5_divisor_5 : decode cX5_divisor 5 = .ok (.ineg, 1) := by decide +kernel
theorem dX5_divisor_6 : decode cX5_divisor 6 = .ok (.goto 4, 3) := by decide +kernel
theorem dX5_divisor_9 : decode cX5_divisor 9 = .ok (.iload_n 0, 1) := by decide +kernel
theorem dX5_divisor_10 : decode cX5_divisor 10 = .ok (.istore_n 2, 1) := by decide +kernel
theorem dX5_divisor_11 : decode cX5_divisor 11 = .ok (.iload_n 1, 1) := by decide +kernel
theorem dX5_divisor_12 : decode cX5_divisor 12 = .ok (.istore_n 3, 1) := by decide +kernel
theorem dX5_divisor_13 : decode cX5_divisor 13 = .ok (.iload_n 3, 1) := by decide +kernel
theorem dX5_divisor_14 : decode cX5_divisor 14 = .ok (.ifCond .eq 16, 3) := by decide +kernel
theorem dX5_divisor_17 : decode cX5_divisor 17 = .ok (.iload_n 2, 1) := by decide +kernel
theorem dX5_divisor_18 : decode cX5_divisor 18 = .ok (.iload_n 3, 1) := by decide +kernel
theorem dX5_divisor_19 : decode cX5_divisor 19 = .ok (.irem, 1) := by decide +kernel
theorem dX5_divisor_20 : decode cX5_divisor 20 = .ok (.istore 4, 2) := by decide +kernel
theorem dX5_divisor_22 : decode cX5_divisor 22 = .ok (.iload_n 3, 1) := by decide +kernel
theorem dX5_divisor_23 : decode cX5_divisor 23 = .ok (.istore_n 2, 1) := by decide +kernel
theorem dX5_divisor_24 : decode cX5_divisor 24 = .ok (.iload 4, 2) := by decide +kernel
theorem dX5_divisor_26 : decode cX5_divisor 26 = .ok (.istore_n 3, 1) := by decide +kernel
theorem dX5_divisor_27 : decode cX5_divisor 27 = .ok (.goto (-14), 3) := by decide +kernel
theorem dX5_divisor_30 : decode cX5_divisor 30 = .ok (.iload_n 2, 1) := by decide +kernel
theorem dX5_divisor_31 : decode cX5_divisor 31 = .ok (.ireturn, 1) := by decide +kernel
theorem dX5_fraction_0 : decode cX5_fraction 0 = .ok (.iload_n 0, 1) := by decide +kernel
theorem dX5_fraction_1 : decode cX5_fraction 1 = .ok (.iload_n 1, 1) := by decide +kernel
theorem dX5_fraction_2 : decode cX5_fraction 2 = .ok (.invokestatic 156, 3) := by decide +kernel
theorem dX5_fraction_5 : decode cX5_fraction 5 = .ok (.istore_n 3, 1) := by decide +kernel
theorem dX5_fraction_6 : decode cX5_fraction 6 = .ok (.iload_n 2, 1) := by decide +kernel
theorem dX5_fraction_7 : decode cX5_fraction 7 = .ok (.ifCond .eq 9, 3) := by decide +kernel
theorem dX5_fraction_10 : decode cX5_fraction 10 = .ok (.iload_n 0, 1) := by decide +kernel
theorem dX5_fraction_11 : decode cX5_fraction 11 = .ok (.iload_n 3, 1) := by decide +kernel
theorem dX5_fraction_12 : decode cX5_fraction 12 = .ok (.idiv, 1) := by decide +kernel
theorem dX5_fraction_13 : decode cX5_fraction 13 = .ok (.goto 6, 3) := by decide +kernel
theorem dX5_fraction_16 : decode cX5_fraction 16 = .ok (.iload_n 1, 1) := by decide +kernel
theorem dX5_fraction_17 : decode cX5_fraction 17 = .ok (.iload_n 3, 1) := by decide +kernel
theorem dX5_fraction_18 : decode cX5_fraction 18 = .ok (.idiv, 1) := by decide +kernel
theorem dX5_fraction_19 : decode cX5_fraction 19 = .ok (.ireturn, 1) := by decide +kernel
theorem dX5_share_0 : decode cX5_share 0 = .ok (.aload_n 0, 1) := by decide +kernel
theorem dX5_share_1 : decode cX5_share 1 = .ok (.iconst 0, 1) := by decide +kernel
theorem dX5_share_2 : decode cX5_share 2 = .ok (.putfield 41, 3) := by decide +kernel
theorem dX5_share_5 : decode cX5_share 5 = .ok (.aload_n 0, 1) := by decide +kernel
theorem dX5_share_6 : decode cX5_share 6 = .ok (.iload_n 1, 1) := by decide +kernel
theorem dX5_share_7 : decode cX5_share 7 = .ok (.invokevirtual 108, 3) := by decide +kernel
theorem dX5_share_10 : decode cX5_share 10 = .ok (.ifCond .eq 5, 3) := by decide +kernel
theorem dX5_share_13 : decode cX5_share 13 = .ok (.iconst (-1), 1) := by decide +kernel
theorem dX5_share_14 : decode cX5_share 14 = .ok (.ireturn, 1) := by decide +kernel
theorem dX5_share_15 : decode cX5_share 15 = .ok (.aload_n 0, 1) := by decide +kernel
theorem dX5_share_16 : decode cX5_share 16 = .ok (.invokevirtual 147, 3) := by decide +kernel
theorem dX5_share_19 : decode cX5_share 19 = .ok (.aload_n 0, 1) := by decide +kernel
theorem dX5_share_20 : decode cX5_share 20 = .ok (.getfield 22, 3) := by decide +kernel
theorem dX5_share_23 : decode cX5_share 23 = .ok (.bipush 15, 2) := by decide +kernel
theorem dX5_share_25 : decode cX5_share 25 = .ok (.iaload, 1) := by decide +kernel
theorem dX5_share_26 : decode cX5_share 26 = .ok (.iconst (-1), 1) := by decide +kernel
theorem dX5_share_27 : decode cX5_share 27 = .ok (.ixor, 1) := by decide +kernel
theorem dX5_share_28 : decode cX5_share 28 = .ok (.iand, 1) := by decide +kernel
theorem dX5_share_29 : decode cX5_share 29 = .ok (.istore_n 3, 1) := by decide +kernel
theorem dX5_share_30 : decode cX5_share 30 = .ok (.iload_n 3, 1) := by decide +kernel
theorem dX5_share_31 : decode cX5_share 31 = .ok (.invokestatic 122, 3) := by decide +kernel
theorem dX5_share_34 : decode cX5_share 34 = .ok (.istore 4, 2) := by decide +kernel
theorem dX5_share_36 : decode cX5_share 36 = .ok (.iconst 0, 1) := by decide +kernel
theorem dX5_share_37 : decode cX5_share 37 = .ok (.istore 5, 2) := by decide +kernel
theorem dX5_share_39 : decode cX5_share 39 = .ok (.iconst 0, 1) := by decide +kernel
theorem dX5_share_40 : decode cX5_share 40 = .ok (.istore 6, 2) := by decide +kernel
theorem dX5_share_42 : decode cX5_share 42 = .ok (.iload 6, 2) := by decide +kernel
theorem dX5_share_44 : decode cX5_share 44 = .ok (.iload_n 3, 1) := by decide +kernel
theorem dX5_share_45 : decode cX5_share 45 = .ok (.if_icmp .gt 39, 3) := by decide +kernel
theorem dX5_share_48 : decode cX5_share 48 = .ok (.iload 6, 2) := by decide +kernel
theorem dX5_share_50 : decode cX5_share 50 = .ok (.iload_n 3, 1) := by decide +kernel
theorem dX5_share_51 : decode cX5_share 51 = .ok (.iconst (-1), 1) := by decide +kernel
theorem dX5_share_52 : decode cX5_share 52 = .ok (.ixor, 1) := by decide +kernel
theorem dX5_share_53 : decode cX5_share 53 = .ok (.iand, 1) := by decide +kernel
theorem dX5_share_54 : decode cX5_share 54 = .ok (.ifCond .ne 24, 3) := by decide +kernel
theorem dX5_share_57 : decode cX5_share 57 = .ok (.aload_n 0, 1) := by decide +kernel
theorem dX5_share_58 : decode cX5_share 58 = .ok (.aload_n 0, 1) := by decide +kernel
theorem dX5_share_59 : decode cX5_share 59 = .ok (.getfield 22, 3) := by decide +kernel
theorem dX5_share_62 : decode cX5_share 62 = .ok (.iload 6, 2) := by decide +kernel
theorem dX5_share_64 : decode cX5_share 64 = .ok (.invokevirtual 150, 3) := by decide +kernel
theorem dX5_share_67 : decode cX5_share 67 = .ok (.aload_n 0, 1) := by decide +kernel
theorem dX5_share_68 : decode cX5_share 68 = .ok (.getfield 38, 3) := by decide +kernel
theorem dX5_share_71 : decode cX5_share 71 = .ok (.iload 6, 2) := by decide +kernel
theorem dX5_share_73 : decode cX5_share 73 = .ok (.aload_n 0, 1) := by decide +kernel
theorem dX5_share_74 : decode cX5_share 74 = .ok (.getfield 133, 3) := by decide +kernel
theorem dX5_share_77 : decode cX5_share 77 = .ok (.iastore, 1) := by decide +kernel
theorem dX5_share_78 : decode cX5_share 78 = .ok (.iinc 6 1, 3) := by decide +kernel
theorem dX5_share_81 : decode cX5_share 81 = .ok (.goto (-39), 3) := by decide +kernel
theorem dX5_share_84 : decode cX5_share 84 = .ok (.iconst 0, 1) := by decide +kernel
theorem dX5_share_85 : decode cX5_share 85 = .ok (.istore 6, 2) := by decide +kernel
theorem dX5_share_87 : decode cX5_share 87 = .ok (.iload 6, 2) := by decide +kernel
theorem dX5_share_89 : decode cX5_share 89 = .ok (.iload_n 3, 1) := by decide +kernel
theorem dX5_share_90 : decode cX5_share 90 = .ok (.if_icmp .gt 83, 3) := by decide +kernel
theorem dX5_share_93 : decode cX5_share 93 = .ok (.iload_n 3, 1) := by decide +kernel
theorem dX5_share_94 : decode cX5_share 94 = .ok (.iload_n 1, 1) := by decide +kernel
theorem dX5_share_95 : decode cX5_share 95 = .ok (.invokestatic 63, 3) := by decide +kernel
theorem dX5_share_98 : decode cX5_share 98 = .ok (.ifCond .eq 75, 3) := by decide +kernel
theorem dX5_share_101 : decode cX5_share 101 = .ok (.iload 6, 2) := by decide +kernel
theorem dX5_share_103 : decode cX5_share 103 = .ok (.iload_n 3, 1) := by decide +kernel
theorem dX5_share_104 : decode cX5_share 104 = .ok (.iconst (-1), 1) := by decide +kernel
theorem dX5_share_105 : decode cX5_share 105 = .ok (.ixor, 1) := by decide +kernel
theorem dX5_share_106 : decode cX5_share 106 = .ok (.iand, 1) := by decide +kernel
theorem dX5_share_107 : decode cX5_share 107 = .ok (.ifCond .ne 60, 3) := by decide +kernel
theorem dX5_share_110 : decode cX5_share 110 = .ok (.iload 6, 2) := by decide +kernel
theorem dX5_share_112 : decode cX5_share 112 = .ok (.iload_n 1, 1) := by decide +kernel
theorem dX5_share_113 : decode cX5_share 113 = .ok (.invokestatic 63, 3) := by decide +kernel
theorem dX5_share_116 : decode cX5_share 116 = .ok (.ifCond .ne 51, 3) := by decide +kernel
theorem dX5_share_119 : decode cX5_share 119 = .ok (.iload 6, 2) := by decide +kernel
theorem dX5_share_121 : decode cX5_share 121 = .ok (.invokestatic 122, 3) := by decide +kernel
theorem dX5_share_124 : decode cX5_share 124 = .ok (.istore 7, 2) := by decide +kernel
theorem dX5_share_126 : decode cX5_share 126 = .ok (.iload 5, 2) := by decide +kernel
theorem dX5_share_128 : decode cX5_share 128 = .ok (.iload 7, 2) := by decide +kernel
theorem dX5_share_130 : decode cX5_share 130 = .ok (.invokestatic 159, 3) := by decide +kernel
theorem dX5_share_133 : decode cX5_share 133 = .ok (.iload 4, 2) := by decide +kernel
theorem dX5_share_135 : decode cX5_share 135 = .ok (.iconst 1, 1) := by decide +kernel
theorem dX5_share_136 : decode cX5_share 136 = .ok (.isub, 1) := by decide +kernel
theorem dX5_share_137 : decode cX5_share 137 = .ok (.iload 7, 2) := by decide +kernel
theorem dX5_share_139 : decode cX5_share 139 = .ok (.isub, 1) := by decide +kernel
theorem dX5_share_140 : decode cX5_share 140 = .ok (.invokestatic 159, 3) := by decide +kernel
theorem dX5_share_143 : decode cX5_share 143 = .ok (.imul, 1) := by decide +kernel
theorem dX5_share_144 : decode cX5_share 144 = .ok (.aload_n 0, 1) := by decide +kernel
theorem dX5_share_145 : decode cX5_share 145 = .ok (.getfield 38, 3) := by decide +kernel
theorem dX5_share_148 : decode cX5_share 148 = .ok (.iload 6, 2) := by decide +kernel
theorem dX5_share_150 : decode cX5_share 150 = .ok (.iconst 1, 1) := by decide +kernel
theorem dX5_share_151 : decode cX5_share 151 = .ok (.iload_n 1, 1) := by decide +kernel
theorem dX5_share_152 : decode cX5_share 152 = .ok (.ishl, 1) := by decide +kernel
theorem dX5_share_153 : decode cX5_share 153 = .ok (.ior, 1) := by decide +kernel
theorem dX5_share_154 : decode cX5_share 154 = .ok (.iaload, 1) := by decide +kernel
theorem dX5_share_155 : decode cX5_share 155 = .ok (.aload_n 0, 1) := by decide +kernel
theorem dX5_share_156 : decode cX5_share 156 = .ok (.getfield 38, 3) := by decide +kernel
theorem dX5_share_159 : decode cX5_share 159 = .ok (.iload 6, 2) := by decide +kernel
theorem dX5_share_161 : decode cX5_share 161 = .ok (.iaload, 1) := by decide +kernel
theorem dX5_share_162 : decode cX5_share 162 = .ok (.isub, 1) := by decide +kernel
theorem dX5_share_163 : decode cX5_share 163 = .ok (.imul, 1) := by decide +kernel
theorem dX5_share_164 : decode cX5_share 164 = .ok (.iadd, 1) := by decide +kernel
theorem dX5_share_165 : decode cX5_share 165 = .ok (.istore 5, 2) := by decide +kernel
theorem dX5_share_167 : decode cX5_share 167 = .ok (.iinc 6 1, 3) := by decide +kernel
theorem dX5_share_170 : decode cX5_share 170 = .ok (.goto (-83), 3) := by decide +kernel
theorem dX5_share_173 : decode cX5_share 173 = .ok (.iload 5, 2) := by decide +kernel
theorem dX5_share_175 : decode cX5_share 175 = .ok (.iload 4, 2) := by decide +kernel
theorem dX5_share_177 : decode cX5_share 177 = .ok (.invokestatic 159, 3) := by decide +kernel
theorem dX5_share_180 : decode cX5_share 180 = .ok (.iload_n 2, 1) := by decide +kernel
theorem dX5_share_181 : decode cX5_share 181 = .ok (.invokestatic 162, 3) := by decide +kernel
theorem dX5_share_184 : decode cX5_share 184 = .ok (.ireturn, 1) := by decide +kernel
theorem dX5_weighed_0 : decode cX5_weighed 0 = .ok (.aload_n 0, 1) := by decide +kernel
theorem dX5_weighed_1 : decode cX5_weighed 1 = .ok (.iconst 0, 1) := by decide +kernel
theorem dX5_weighed_2 : decode cX5_weighed 2 = .ok (.putfield 41, 3) := by decide +kernel
theorem dX5_weighed_5 : decode cX5_weighed 5 = .ok (.iload_n 1, 1) := by decide +kernel
theorem dX5_weighed_6 : decode cX5_weighed 6 = .ok (.i2l, 1) := by decide +kernel
theorem dX5_weighed_7 : decode cX5_weighed 7 = .ok (.lconst 0, 1) := by decide +kernel
theorem dX5_weighed_8 : decode cX5_weighed 8 = .ok (.aload_n 0, 1) := by decide +kernel
theorem dX5_weighed_9 : decode cX5_weighed 9 = .ok (.invokevirtual 147, 3) := by decide +kernel
theorem dX5_weighed_12 : decode cX5_weighed 12 = .ok (.i2l, 1) := by decide +kernel
theorem dX5_weighed_13 : decode cX5_weighed 13 = .ok (.invokestatic 48, 3) := by decide +kernel
theorem dX5_weighed_16 : decode cX5_weighed 16 = .ok (.ifCond .eq 27, 3) := by decide +kernel
theorem dX5_weighed_19 : decode cX5_weighed 19 = .ok (.iload_n 2, 1) := by decide +kernel
theorem dX5_weighed_20 : decode cX5_weighed 20 = .ok (.i2l, 1) := by decide +kernel
theorem dX5_weighed_21 : decode cX5_weighed 21 = .ok (.lconst 0, 1) := by decide +kernel
theorem dX5_weighed_22 : decode cX5_weighed 22 = .ok (.ldc2_w 166, 3) := by decide +kernel
theorem dX5_weighed_25 : decode cX5_weighed 25 = .ok (.invokestatic 48, 3) := by decide +kernel
theorem dX5_weighed_28 : decode cX5_weighed 28 = .ok (.ifCond .eq 15, 3) := by decide +kernel
theorem dX5_weighed_31 : decode cX5_weighed 31 = .ok (.iload_n 3, 1) := by decide +kernel
theorem dX5_weighed_32 : decode cX5_weighed 32 = .ok (.i2l, 1) := by decide +kernel
theorem dX5_weighed_33 : decode cX5_weighed 33 = .ok (.lconst 0, 1) := by decide +kernel
theorem dX5_weighed_34 : decode cX5_weighed 34 = .ok (.ldc2_w 145, 3) := by decide +kernel
theorem dX5_weighed_37 : decode cX5_weighed 37 = .ok (.invokestatic 48, 3) := by decide +kernel
theorem dX5_weighed_40 : decode cX5_weighed 40 = .ok (.ifCond .ne 6, 3) := by decide +kernel
theorem dX5_weighed_43 : decode cX5_weighed 43 = .ok (.bipush (-2), 2) := by decide +kernel
theorem dX5_weighed_45 : decode cX5_weighed 45 = .ok (.ireturn, 1) := by decide +kernel
theorem dX5_weighed_46 : decode cX5_weighed 46 = .ok (.iconst 0, 1) := by decide +kernel
theorem dX5_weighed_47 : decode cX5_weighed 47 = .ok (.istore 4, 2) := by decide +kernel
theorem dX5_weighed_49 : decode cX5_weighed 49 = .ok (.iload_n 1, 1) := by decide +kernel
theorem dX5_weighed_50 : decode cX5_weighed 50 = .ok (.istore 5, 2) := by decide +kernel
theorem dX5_weighed_52 : decode cX5_weighed 52 = .ok (.iconst 0, 1) := by decide +kernel
theorem dX5_weighed_53 : decode cX5_weighed 53 = .ok (.istore 6, 2) := by decide +kernel
theorem dX5_weighed_55 : decode cX5_weighed 55 = .ok (.iconst 0, 1) := by decide +kernel
theorem dX5_weighed_56 : decode cX5_weighed 56 = .ok (.istore 7, 2) := by decide +kernel
theorem dX5_weighed_58 : decode cX5_weighed 58 = .ok (.iload 7, 2) := by decide +kernel
theorem dX5_weighed_60 : decode cX5_weighed 60 = .ok (.iload_n 1, 1) := by decide +kernel
theorem dX5_weighed_61 : decode cX5_weighed 61 = .ok (.if_icmp .gt 104, 3) := by decide +kernel
theorem dX5_weighed_64 : decode cX5_weighed 64 = .ok (.iconst 0, 1) := by decide +kernel
theorem dX5_weighed_65 : decode cX5_weighed 65 = .ok (.istore 8, 2) := by decide +kernel
theorem dX5_weighed_67 : decode cX5_weighed 67 = .ok (.iconst 0, 1) := by decide +kernel
theorem dX5_weighed_68 : decode cX5_weighed 68 = .ok (.istore 9, 2) := by decide +kernel
theorem dX5_weighed_70 : decode cX5_weighed 70 = .ok (.iload 9, 2) := by decide +kernel
theorem dX5_weighed_72 : decode cX5_weighed 72 = .ok (.aload_n 0, 1) := by decide +kernel
theorem dX5_weighed_73 : decode cX5_weighed 73 = .ok (.getfield 45, 3) := by decide +kernel
theorem dX5_weighed_76 : decode cX5_weighed 76 = .ok (.if_icmp .ge 51, 3) := by decide +kernel
theorem dX5_weighed_79 : decode cX5_weighed 79 = .ok (.iload 8, 2) := by decide +kernel
theorem dX5_weighed_81 : decode cX5_weighed 81 = .ok (.iload_n 1, 1) := by decide +kernel
theorem dX5_weighed_82 : decode cX5_weighed 82 = .ok (.iload 9, 2) := by decide +kernel
theorem dX5_weighed_84 : decode cX5_weighed 84 = .ok (.invokestatic 63, 3) := by decide +kernel
theorem dX5_weighed_87 : decode cX5_weighed 87 = .ok (.ifCond .ne 7, 3) := by decide +kernel
theorem dX5_weighed_90 : decode cX5_weighed 90 = .ok (.iconst 0, 1) := by decide +kernel
theorem dX5_weighed_91 : decode cX5_weighed 91 = .ok (.goto 27, 3) := by decide +kernel
theorem dX5_weighed_94 : decode cX5_weighed 94 = .ok (.iload 7, 2) := by decide +kernel
theorem dX5_weighed_96 : decode cX5_weighed 96 = .ok (.iload 9, 2) := by decide +kernel
theorem dX5_weighed_98 : decode cX5_weighed 98 = .ok (.invokestatic 63, 3) := by decide +kernel
theorem dX5_weighed_101 : decode cX5_weighed 101 = .ok (.ifCond .eq 7, 3) := by decide +kernel
theorem dX5_weighed_104 : decode cX5_weighed 104 = .ok (.iconst 2, 1) := by decide +kernel
theorem dX5_weighed_105 : decode cX5_weighed 105 = .ok (.goto 13, 3) := by decide +kernel
theorem dX5_weighed_108 : decode cX5_weighed 108 = .ok (.aload_n 0, 1) := by decide +kernel
theorem dX5_weighed_109 : decode cX5_weighed 109 = .ok (.aload_n 0, 1) := by decide +kernel
theorem dX5_weighed_110 : decode cX5_weighed 110 = .ok (.getfield 22, 3) := by decide +kernel
theorem dX5_weighed_113 : decode cX5_weighed 113 = .ok (.iload 9, 2) := by decide +kernel
theorem dX5_weighed_115 : decode cX5_weighed 115 = .ok (.invokevirtual 97, 3) := by decide +kernel
theorem dX5_weighed_118 : decode cX5_weighed 118 = .ok (.iadd, 1) := by decide +kernel
theorem dX5_weighed_119 : decode cX5_weighed 119 = .ok (.istore 8, 2) := by decide +kernel
theorem dX5_weighed_121 : decode cX5_weighed 121 = .ok (.iinc 9 1, 3) := by decide +kernel
theorem dX5_weighed_124 : decode cX5_weighed 124 = .ok (.goto (-54), 3) := by decide +kernel
theorem dX5_weighed_127 : decode cX5_weighed 127 = .ok (.iload 7, 2) := by decide +kernel
theorem dX5_weighed_129 : decode cX5_weighed 129 = .ok (.iload_n 1, 1) := by decide +kernel
theorem dX5_weighed_130 : decode cX5_weighed 130 = .ok (.iconst (-1), 1) := by decide +kernel
theorem dX5_weighed_131 : decode cX5_weighed 131 = .ok (.ixor, 1) := by decide +kernel
theorem dX5_weighed_132 : decode cX5_weighed 132 = .ok (.iand, 1) := by decide +kernel
theorem dX5_weighed_133 : decode cX5_weighed 133 = .ok (.ifCond .ne 26, 3) := by decide +kernel
theorem dX5_weighed_136 : decode cX5_weighed 136 = .ok (.iload 8, 2) := by decide +kernel
theorem dX5_weighed_138 : decode cX5_weighed 138 = .ok (.iload_n 2, 1) := by decide +kernel
theorem dX5_weighed_139 : decode cX5_weighed 139 = .ok (.if_icmp .ne 20, 3) := by decide +kernel
theorem dX5_weighed_142 : decode cX5_weighed 142 = .ok (.iinc 4 1, 3) := by decide +kernel
theorem dX5_weighed_145 : decode cX5_weighed 145 = .ok (.iload 5, 2) := by decide +kernel
theorem dX5_weighed_147 : decode cX5_weighed 147 = .ok (.iload 7, 2) := by decide +kernel
theorem dX5_weighed_149 : decode cX5_weighed 149 = .ok (.iand, 1) := by decide +kernel
theorem dX5_weighed_150 : decode cX5_weighed 150 = .ok (.istore 5, 2) := by decide +kernel
theorem dX5_weighed_152 : decode cX5_weighed 152 = .ok (.iload 6, 2) := by decide +kernel
theorem dX5_weighed_154 : decode cX5_weighed 154 = .ok (.iload 7, 2) := by decide +kernel
theorem dX5_weighed_156 : decode cX5_weighed 156 = .ok (.ior, 1) := by decide +kernel
theorem dX5_weighed_157 : decode cX5_weighed 157 = .ok (.istore 6, 2) := by decide +kernel
theorem dX5_weighed_159 : decode cX5_weighed 159 = .ok (.iinc 7 1, 3) := by decide +kernel
theorem dX5_weighed_162 : decode cX5_weighed 162 = .ok (.goto (-104), 3) := by decide +kernel
theorem dX5_weighed_165 : decode cX5_weighed 165 = .ok (.iload_n 3, 1) := by decide +kernel
theorem dX5_weighed_166 : decode cX5_weighed 166 = .ok (.ifCond .ne 8, 3) := by decide +kernel
theorem dX5_weighed_169 : decode cX5_weighed 169 = .ok (.iload 4, 2) := by decide +kernel
theorem dX5_weighed_171 : decode cX5_weighed 171 = .ok (.goto 29, 3) := by decide +kernel
theorem dX5_weighed_174 : decode cX5_weighed 174 = .ok (.iload 4, 2) := by decide +kernel
theorem dX5_weighed_176 : decode cX5_weighed 176 = .ok (.ifCond .ne 8, 3) := by decide +kernel
theorem dX5_weighed_179 : decode cX5_weighed 179 = .ok (.bipush (-9), 2) := by decide +kernel
theorem dX5_weighed_181 : decode cX5_weighed 181 = .ok (.goto 19, 3) := by decide +kernel
theorem dX5_weighed_184 : decode cX5_weighed 184 = .ok (.iload_n 3, 1) := by decide +kernel
theorem dX5_weighed_185 : decode cX5_weighed 185 = .ok (.iconst 1, 1) := by decide +kernel
theorem dX5_weighed_186 : decode cX5_weighed 186 = .ok (.if_icmp .ne 8, 3) := by decide +kernel
theorem dX5_weighed_189 : decode cX5_weighed 189 = .ok (.iload 5, 2) := by decide +kernel
theorem dX5_weighed_191 : decode cX5_weighed 191 = .ok (.goto 9, 3) := by decide +kernel
theorem dX5_weighed_194 : decode cX5_weighed 194 = .ok (.iload_n 1, 1) := by decide +kernel
theorem dX5_weighed_195 : decode cX5_weighed 195 = .ok (.iload 6, 2) := by decide +kernel
theorem dX5_weighed_197 : decode cX5_weighed 197 = .ok (.iconst (-1), 1) := by decide +kernel
theorem dX5_weighed_198 : decode cX5_weighed 198 = .ok (.ixor, 1) := by decide +kernel
theorem dX5_weighed_199 : decode cX5_weighed 199 = .ok (.iand, 1) := by decide +kernel
theorem dX5_weighed_200 : decode cX5_weighed 200 = .ok (.ireturn, 1) := by decide +kernel
theorem dX5_whose_0 : decode cX5_whose 0 = .ok (.aload_n 0, 1) := by decide +kernel
theorem dX5_whose_1 : decode cX5_whose 1 = .ok (.iconst 0, 1) := by decide +kernel
theorem dX5_whose_2 : decode cX5_whose 2 = .ok (.putfield 41, 3) := by decide +kernel
theorem dX5_whose_5 : decode cX5_whose 5 = .ok (.iload_n 1, 1) := by decide +kernel
theorem dX5_whose_6 : decode cX5_whose 6 = .ok (.i2l, 1) := by decide +kernel
theorem dX5_whose_7 : decode cX5_whose 7 = .ok (.lconst 1, 1) := by decide +kernel
theorem dX5_whose_8 : decode cX5_whose 8 = .ok (.ldc2_w 168, 3) := by decide +kernel
theorem dX5_whose_11 : decode cX5_whose 11 = .ok (.invokestatic 48, 3) := by decide +kernel
theorem dX5_whose_14 : decode cX5_whose 14 = .ok (.ifCond .ne 6, 3) := by decide +kernel
theorem dX5_whose_17 : decode cX5_whose 17 = .ok (.bipush (-2), 2) := by decide +kernel
theorem dX5_whose_19 : decode cX5_whose 19 = .ok (.ireturn, 1) := by decide +kernel
theorem dX5_whose_20 : decode cX5_whose 20 = .ok (.iconst 0, 1) := by decide +kernel
theorem dX5_whose_21 : decode cX5_whose 21 = .ok (.istore_n 2, 1) := by decide +kernel
theorem dX5_whose_22 : decode cX5_whose 22 = .ok (.iconst 0, 1) := by decide +kernel
theorem dX5_whose_23 : decode cX5_whose 23 = .ok (.istore_n 3, 1) := by decide +kernel
theorem dX5_whose_24 : decode cX5_whose 24 = .ok (.iload_n 3, 1) := by decide +kernel
theorem dX5_whose_25 : decode cX5_whose 25 = .ok (.aload_n 0, 1) := by decide +kernel
theorem dX5_whose_26 : decode cX5_whose 26 = .ok (.getfield 45, 3) := by decide +kernel
theorem dX5_whose_29 : decode cX5_whose 29 = .ok (.if_icmp .ge 32, 3) := by decide +kernel
theorem dX5_whose_32 : decode cX5_whose 32 = .ok (.iload_n 2, 1) := by decide +kernel
theorem dX5_whose_33 : decode cX5_whose 33 = .ok (.aload_n 0, 1) := by decide +kernel
theorem dX5_whose_34 : decode cX5_whose 34 = .ok (.aload_n 0, 1) := by decide +kernel
theorem dX5_whose_35 : decode cX5_whose 35 = .ok (.getfield 22, 3) := by decide +kernel
theorem dX5_whose_38 : decode cX5_whose 38 = .ok (.iload_n 3, 1) := by decide +kernel
theorem dX5_whose_39 : decode cX5_whose 39 = .ok (.invokevirtual 97, 3) := by decide +kernel
theorem dX5_whose_42 : decode cX5_whose 42 = .ok (.iload_n 1, 1) := by decide +kernel
theorem dX5_whose_43 : decode cX5_whose 43 = .ok (.if_icmp .ne 9, 3) := by decide +kernel
theorem dX5_whose_46 : decode cX5_whose 46 = .ok (.iconst 1, 1) := by decide +kernel
theorem dX5_whose_47 : decode cX5_whose 47 = .ok (.iload_n 3, 1) := by decide +kernel
theorem dX5_whose_48 : decode cX5_whose 48 = .ok (.ishl, 1) := by decide +kernel
theorem dX5_whose_49 : decode cX5_whose 49 = .ok (.goto 4, 3) := by decide +kernel
theorem dX5_whose_52 : decode cX5_whose 52 = .ok (.iconst 0, 1) := by decide +kernel
theorem dX5_whose_53 : decode cX5_whose 53 = .ok (.ior, 1) := by decide +kernel
theorem dX5_whose_54 : decode cX5_whose 54 = .ok (.istore_n 2, 1) := by decide +kernel
theorem dX5_whose_55 : decode cX5_whose 55 = .ok (.iinc 3 1, 3) := by decide +kernel
theorem dX5_whose_58 : decode cX5_whose 58 = .ok (.goto (-34), 3) := by decide +kernel
theorem dX5_whose_61 : decode cX5_whose 61 = .ok (.iload_n 2, 1) := by decide +kernel
theorem dX5_whose_62 : decode cX5_whose 62 = .ok (.ireturn, 1) := by decide +kernel
theorem dX5_gainOf_0 : decode cX5_gainOf 0 = .ok (.aload_n 0, 1) := by decide +kernel
theorem dX5_gainOf_1 : decode cX5_gainOf 1 = .ok (.aload_n 0, 1) := by decide +kernel
theorem dX5_gainOf_2 : decode cX5_gainOf 2 = .ok (.getfield 22, 3) := by decide +kernel
theorem dX5_gainOf_5 : decode cX5_gainOf 5 = .ok (.iload_n 1, 1) := by decide +kernel
theorem dX5_gainOf_6 : decode cX5_gainOf 6 = .ok (.iload_n 3, 1) := by decide +kernel
theorem dX5_gainOf_7 : decode cX5_gainOf 7 = .ok (.invokevirtual 105, 3) := by decide +kernel
theorem dX5_gainOf_10 : decode cX5_gainOf 10 = .ok (.istore 7, 2) := by decide +kernel
theorem dX5_gainOf_12 : decode cX5_gainOf 12 = .ok (.aload_n 0, 1) := by decide +kernel
theorem dX5_gainOf_13 : decode cX5_gainOf 13 = .ok (.aload_n 0, 1) := by decide +kernel
theorem dX5_gainOf_14 : decode cX5_gainOf 14 = .ok (.getfield 22, 3) := by decide +kernel
theorem dX5_gainOf_17 : decode cX5_gainOf 17 = .ok (.iload_n 2, 1) := by decide +kernel
theorem dX5_gainOf_18 : decode cX5_gainOf 18 = .ok (.iload_n 3, 1) := by decide +kernel
theorem dX5_gainOf_19 : decode cX5_gainOf 19 = .ok (.invokevirtual 105, 3) := by decide +kernel
theorem dX5_gainOf_22 : decode cX5_gainOf 22 = .ok (.istore 8, 2) := by decide +kernel
theorem dX5_gainOf_24 : decode cX5_gainOf 24 = .ok (.iload 4, 2) := by decide +kernel
theorem dX5_gainOf_26 : decode cX5_gainOf 26 = .ok (.iload 5, 2) := by decide +kernel
theorem dX5_gainOf_28 : decode cX5_gainOf 28 = .ok (.if_icmp .gt 15, 3) := by decide +kernel
theorem dX5_gainOf_31 : decode cX5_gainOf 31 = .ok (.iload 4, 2) := by decide +kernel
theorem dX5_gainOf_33 : decode cX5_gainOf 33 = .ok (.iload 5, 2) := by decide +kernel
theorem dX5_gainOf_35 : decode cX5_gainOf 35 = .ok (.if_icmp .ne 12, 3) := by decide +kernel
theorem dX5_gainOf_38 : decode cX5_gainOf 38 = .ok (.iload 6, 2) := by decide +kernel
theorem dX5_gainOf_40 : decode cX5_gainOf 40 = .ok (.ifCond .eq 7, 3) := by decide +kernel
theorem dX5_gainOf_43 : decode cX5_gainOf 43 = .ok (.iconst 1, 1) := by decide +kernel
theorem dX5_gainOf_44 : decode cX5_gainOf 44 = .ok (.goto 4, 3) := by decide +kernel
theorem dX5_gainOf_47 : decode cX5_gainOf 47 = .ok (.iconst 0, 1) := by decide +kernel
theorem dX5_gainOf_48 : decode cX5_gainOf 48 = .ok (.istore 9, 2) := by decide +kernel
theorem dX5_gainOf_50 : decode cX5_gainOf 50 = .ok (.iload 7, 2) := by decide +kernel
theorem dX5_gainOf_52 : decode cX5_gainOf 52 = .ok (.ifCond .eq 17, 3) := by decide +kernel
theorem dX5_gainOf_55 : decode cX5_gainOf 55 = .ok (.iload 9, 2) := by decide +kernel
theorem dX5_gainOf_57 : decode cX5_gainOf 57 = .ok (.ifCond .ne 8, 3) := by decide +kernel
theorem dX5_gainOf_60 : decode cX5_gainOf 60 = .ok (.iload 8, 2) := by decide +kernel
theorem dX5_gainOf_62 : decode cX5_gainOf 62 = .ok (.ifCond .ne 7, 3) := by decide +kernel
theorem dX5_gainOf_65 : decode cX5_gainOf 65 = .ok (.iconst 1, 1) := by decide +kernel
theorem dX5_gainOf_66 : decode cX5_gainOf 66 = .ok (.goto 4, 3) := by decide +kernel
theorem dX5_gainOf_69 : decode cX5_gainOf 69 = .ok (.iconst 0, 1) := by decide +kernel
theorem dX5_gainOf_70 : decode cX5_gainOf 70 = .ok (.istore 10, 2) := by decide +kernel
theorem dX5_gainOf_72 : decode cX5_gainOf 72 = .ok (.iload 10, 2) := by decide +kernel
theorem dX5_gainOf_74 : decode cX5_gainOf 74 = .ok (.ifCond .eq 10, 3) := by decide +kernel
theorem dX5_gainOf_77 : decode cX5_gainOf 77 = .ok (.iconst 3, 1) := by decide +kernel
theorem dX5_gainOf_78 : decode cX5_gainOf 78 = .ok (.iload 4, 2) := by decide +kernel
theorem dX5_gainOf_80 : decode cX5_gainOf 80 = .ok (.isub, 1) := by decide +kernel
theorem dX5_gainOf_81 : decode cX5_gainOf 81 = .ok (.goto 4, 3) := by decide +kernel
theorem dX5_gainOf_84 : decode cX5_gainOf 84 = .ok (.iconst 0, 1) := by decide +kernel
theorem dX5_gainOf_85 : decode cX5_gainOf 85 = .ok (.iload 4, 2) := by decide +kernel
theorem dX5_gainOf_87 : decode cX5_gainOf 87 = .ok (.ifCond .le 12, 3) := by decide +kernel
theorem dX5_gainOf_90 : decode cX5_gainOf 90 = .ok (.iload 7, 2) := by decide +kernel
theorem dX5_gainOf_92 : decode cX5_gainOf 92 = .ok (.ifCond .ne 7, 3) := by decide +kernel
theorem dX5_gainOf_95 : decode cX5_gainOf 95 = .ok (.iconst 1, 1) := by decide +kernel
theorem dX5_gainOf_96 : decode cX5_gainOf 96 = .ok (.goto 4, 3) := by decide +kernel
theorem dX5_gainOf_99 : decode cX5_gainOf 99 = .ok (.iconst 0, 1) := by decide +kernel
theorem dX5_gainOf_100 : decode cX5_gainOf 100 = .ok (.isub, 1) := by decide +kernel
theorem dX5_gainOf_101 : decode cX5_gainOf 101 = .ok (.ireturn, 1) := by decide +kernel
theorem dX5_findRests_0 : decode cX5_findRests 0 = .ok (.aload_n 0, 1) := by decide +kernel
theorem dX5_findRests_1 : decode cX5_findRests 1 = .ok (.iconst 0, 1) := by decide +kernel
theorem dX5_findRests_2 : decode cX5_findRests 2 = .ok (.putfield 170, 3) := by decide +kernel
theorem dX5_findRests_5 : decode cX5_findRests 5 = .ok (.aload_n 0, 1) := by decide +kernel
theorem dX5_findRests_6 : decode cX5_findRests 6 = .ok (.bipush (-9), 2) := by decide +kernel
theorem dX5_findRests_8 : decode cX5_findRests 8 = .ok (.putfield 173, 3) := by decide +kernel
theorem dX5_findRests_11 : decode cX5_findRests 11 = .ok (.iconst 0, 1) := by decide +kernel
theorem dX5_findRests_12 : decode cX5_findRests 12 = .ok (.istore 4, 2) := by decide +kernel
theorem dX5_findRests_14 : decode cX5_findRests 14 = .ok (.iload 4, 2) := by decide +kernel
theorem dX5_findRests_16 : decode cX5_findRests 16 = .ok (.iconst 4, 1) := by decide +kernel
theorem dX5_findRests_17 : decode cX5_findRests 17 = .ok (.if_icmp .ge 166, 3) := by decide +kernel
theorem dX5_findRests_20 : decode cX5_findRests 20 = .ok (.iconst 0, 1) := by decide +kernel
theorem dX5_findRests_21 : decode cX5_findRests 21 = .ok (.istore 5, 2) := by decide +kernel
theorem dX5_findRests_23 : decode cX5_findRests 23 = .ok (.iload 5, 2) := by decide +kernel
theorem dX5_findRests_25 : decode cX5_findRests 25 = .ok (.iconst 4, 1) := by decide +kernel
theorem dX5_findRests_26 : decode cX5_findRests 26 = .ok (.if_icmp .ge 151, 3) := by decide +kernel
theorem dX5_findRests_29 : decode cX5_findRests 29 = .ok (.aload_n 0, 1) := by decide +kernel
theorem dX5_findRests_30 : decode cX5_findRests 30 = .ok (.iload_n 1, 1) := by decide +kernel
theorem dX5_findRests_31 : decode cX5_findRests 31 = .ok (.iload_n 2, 1) := by decide +kernel
theorem dX5_findRests_32 : decode cX5_findRests 32 = .ok (.iload_n 3, 1) := by decide +kernel
theorem dX5_findRests_33 : decode cX5_findRests 33 = .ok (.iload 4, 2) := by decide +kernel
theorem dX5_findRests_35 : decode cX5_findRests 35 = .ok (.iload 5, 2) := by decide +kernel
theorem dX5_findRests_37 : decode cX5_findRests 37 = .ok (.iconst 1, 1) := by decide +kernel
theorem dX5_findRests_38 : decode cX5_findRests 38 = .ok (.invokevirtual 176, 3) := by decide +kernel
theorem dX5_findRests_41 : decode cX5_findRests 41 = .ok (.istore 6, 2) := by decide +kernel
theorem dX5_findRests_43 : decode cX5_findRests 43 = .ok (.aload_n 0, 1) := by decide +kernel
theorem dX5_findRests_44 : decode cX5_findRests 44 = .ok (.iload_n 2, 1) := by decide +kernel
theorem dX5_findRests_45 : decode cX5_findRests 45 = .ok (.iload_n 1, 1) := by decide +kernel
theorem dX5_findRests_46 : decode cX5_findRests 46 = .ok (.iload_n 3, 1) := by decide +kernel
theorem dX5_findRests_47 : decode cX5_findRests 47 = .ok (.iload 5, 2) := by decide +kernel
theorem dX5_findRests_49 : decode cX5_findRests 49 = .ok (.iload 4, 2) := by decide +kernel
theorem dX5_findRests_51 : decode cX5_findRests 51 = .ok (.iconst 0, 1) := by decide +kernel
theorem dX5_findRests_52 : decode cX5_findRests 52 = .ok (.invokevirtual 176, 3) := by decide +kernel
theorem dX5_findRests_55 : decode cX5_findRests 55 = .ok (.istore 7, 2) := by decide +kernel
theorem dX5_findRests_57 : decode cX5_findRests 57 = .ok (.iconst 1, 1) := by decide +kernel
theorem dX5_findRests_58 : decode cX5_findRests 58 = .ok (.istore 8, 2) := by decide +kernel
theorem dX5_findRests_60 : decode cX5_findRests 60 = .ok (.iconst 0, 1) := by decide +kernel
theorem dX5_findRests_61 : decode cX5_findRests 61 = .ok (.istore 9, 2) := by decide +kernel
theorem dX5_findRests_63 : decode cX5_findRests 63 = .ok (.iload 9, 2) := by decide +kernel
theorem dX5_findRests_65 : decode cX5_findRests 65 = .ok (.iconst 4, 1) := by decide +kernel
theorem dX5_findRests_66 : decode cX5_findRests 66 = .ok (.if_icmp .ge 55, 3) := by decide +kernel
theorem dX5_findRests_69 : decode cX5_findRests 69 = .ok (.iload 8, 2) := by decide +kernel
theorem dX5_findRests_71 : decode cX5_findRests 71 = .ok (.ifCond .eq 41, 3) := by decide +kernel
theorem dX5_findRests_74 : decode cX5_findRests 74 = .ok (.aload_n 0, 1) := by decide +kernel
theorem dX5_findRests_75 : decode cX5_findRests 75 = .ok (.iload_n 1, 1) := by decide +kernel
theorem dX5_findRests_76 : decode cX5_findRests 76 = .ok (.iload_n 2, 1) := by decide +kernel
theorem dX5_findRests_77 : decode cX5_findRests 77 = .ok (.iload_n 3, 1) := by decide +kernel
theorem dX5_findRests_78 : decode cX5_findRests 78 = .ok (.iload 9, 2) := by decide +kernel
theorem dX5_findRests_80 : decode cX5_findRests 80 = .ok (.iload 5, 2) := by decide +kernel
theorem dX5_findRests_82 : decode cX5_findRests 82 = .ok (.iconst 1, 1) := by decide +kernel
theorem dX5_findRests_83 : decode cX5_findRests 83 = .ok (.invokevirtual 176, 3) := by decide +kernel
theorem dX5_findRests_86 : decode cX5_findRests 86 = .ok (.iload 6, 2) := by decide +kernel
theorem dX5_findRests_88 : decode cX5_findRests 88 = .ok (.if_icmp .gt 24, 3) := by decide +kernel
theorem dX5_findRests_91 : decode cX5_findRests 91 = .ok (.aload_n 0, 1) := by decide +kernel
theorem dX5_findRests_92 : decode cX5_findRests 92 = .ok (.iload_n 2, 1) := by decide +kernel
theorem dX5_findRests_93 : decode cX5_findRests 93 = .ok (.iload_n 1, 1) := by decide +kernel
theorem dX5_findRests_94 : decode cX5_findRests 94 = .ok (.iload_n 3, 1) := by decide +kernel
theorem dX5_findRests_95 : decode cX5_findRests 95 = .ok (.iload 9, 2) := by decide +kernel
theorem dX5_findRests_97 : decode cX5_findRests 97 = .ok (.iload 4, 2) := by decide +kernel
theorem dX5_findRests_99 : decode cX5_findRests 99 = .ok (.iconst 0, 1) := by decide +kernel
theorem dX5_findRests_100 : decode cX5_findRests 100 = .ok (.invokevirtual 176, 3) := by decide +kernel
theorem dX5_findRests_103 : decode cX5_findRests 103 = .ok (.iload 7, 2) := by decide +kernel
theorem dX5_findRests_105 : decode cX5_findRests 105 = .ok (.if_icmp .gt 7, 3) := by decide +kernel
theorem dX5_findRests_108 : decode cX5_findRests 108 = .ok (.iconst 1, 1) := by decide +kernel
theorem dX5_findRests_109 : decode cX5_findRests 109 = .ok (.goto 4, 3) := by decide +kernel
theorem dX5_findRests_112 : decode cX5_findRests 112 = .ok (.iconst 0, 1) := by decide +kernel
theorem dX5_findRests_113 : decode cX5_findRests 113 = .ok (.istore 8, 2) := by decide +kernel
theorem dX5_findRests_115 : decode cX5_findRests 115 = .ok (.iinc 9 1, 3) := by decide +kernel
theorem dX5_findRests_118 : decode cX5_findRests 118 = .ok (.goto (-55), 3) := by decide +kernel
theorem dX5_findRests_121 : decode cX5_findRests 121 = .ok (.aload_n 0, 1) := by decide +kernel
theorem dX5_findRests_122 : decode cX5_findRests 122 = .ok (.iload 8, 2) := by decide +kernel
theorem dX5_findRests_124 : decode cX5_findRests 124 = .ok (.ifCond .eq 21, 3) := by decide +kernel
theorem dX5_findRests_127 : decode cX5_findRests 127 = .ok (.aload_n 0, 1) := by decide +kernel
theorem dX5_findRests_128 : decode cX5_findRests 128 = .ok (.getfield 170, 3) := by decide +kernel
theorem dX5_findRests_131 : decode cX5_findRests 131 = .ok (.ifCond .ne 14, 3) := by decide +kernel
theorem dX5_findRests_134 : decode cX5_findRests 134 = .ok (.bipush 10, 2) := by decide +kernel
theorem dX5_findRests_136 : decode cX5_findRests 136 = .ok (.iload 4, 2) := by decide +kernel
theorem dX5_findRests_138 : decode cX5_findRests 138 = .ok (.imul, 1) := by decide +kernel
theorem dX5_findRests_139 : decode cX5_findRests 139 = .ok (.iload 5, 2) := by decide +kernel
theorem dX5_findRests_141 : decode cX5_findRests 141 = .ok (.iadd, 1) := by decide +kernel
theorem dX5_findRests_142 : decode cX5_findRests 142 = .ok (.goto 7, 3) := by decide +kernel
theorem dX5_findRests_145 : decode cX5_findRests 145 = .ok (.aload_n 0, 1) := by decide +kernel
theorem dX5_findRests_146 : decode cX5_findRests 146 = .ok (.getfield 173, 3) := by decide +kernel
theorem dX5_findRests_149 : decode cX5_findRests 149 = .ok (.putfield 173, 3) := by decide +kernel
theorem dX5_findRests_152 : decode cX5_findRests 152 = .ok (.aload_n 0, 1) := by decide +kernel
theorem dX5_findRests_153 : decode cX5_findRests 153 = .ok (.dup, 1) := by decide +kernel
theorem dX5_findRests_154 : decode cX5_findRests 154 = .ok (.getfield 170, 3) := by decide +kernel
theorem dX5_findRests_157 : decode cX5_findRests 157 = .ok (.iload 8, 2) := by decide +kernel
theorem dX5_findRests_159 : decode cX5_findRests 159 = .ok (.ifCond .eq 7, 3) := by decide +kernel
theorem dX5_findRests_162 : decode cX5_findRests 162 = .ok (.iconst 1, 1) := by decide +kernel
theorem dX5_findRests_163 : decode cX5_findRests 163 = .ok (.goto 4, 3) := by decide +kernel
theorem dX5_findRests_166 : decode cX5_findRests 166 = .ok (.iconst 0, 1) := by decide +kernel
theorem dX5_findRests_167 : decode cX5_findRests 167 = .ok (.iadd, 1) := by decide +kernel
theorem dX5_findRests_168 : decode cX5_findRests 168 = .ok (.putfield 170, 3) := by decide +kernel
theorem dX5_findRests_171 : decode cX5_findRests 171 = .ok (.iinc 5 1, 3) := by decide +kernel
theorem dX5_findRests_174 : decode cX5_findRests 174 = .ok (.goto (-151), 3) := by decide +kernel
theorem dX5_findRests_177 : decode cX5_findRests 177 = .ok (.iinc 4 1, 3) := by decide +kernel
theorem dX5_findRests_180 : decode cX5_findRests 180 = .ok (.goto (-166), 3) := by decide +kernel
theorem dX5_findRests_183 : decode cX5_findRests 183 = .ok (.return_, 1) := by decide +kernel
theorem dX5_rests_0 : decode cX5_rests 0 = .ok (.aload_n 0, 1) := by decide +kernel
theorem dX5_rests_1 : decode cX5_rests 1 = .ok (.iconst 0, 1) := by decide +kernel
theorem dX5_rests_2 : decode cX5_rests 2 = .ok (.putfield 41, 3) := by decide +kernel
theorem dX5_rests_5 : decode cX5_rests 5 = .ok (.aload_n 0, 1) := by decide +kernel
theorem dX5_rests_6 : decode cX5_rests 6 = .ok (.iload_n 1, 1) := by decide +kernel
theorem dX5_rests_7 : decode cX5_rests 7 = .ok (.invokevirtual 108, 3) := by decide +kernel
theorem dX5_rests_10 : decode cX5_rests 10 = .ok (.ifCond .ne 19, 3) := by decide +kernel
theorem dX5_rests_13 : decode cX5_rests 13 = .ok (.aload_n 0, 1) := by decide +kernel
theorem dX5_rests_14 : decode cX5_rests 14 = .ok (.iload_n 2, 1) := by decide +kernel
theorem dX5_rests_15 : decode cX5_rests 15 = .ok (.invokevirtual 108, 3) := by decide +kernel
theorem dX5_rests_18 : decode cX5_rests 18 = .ok (.ifCond .ne 11, 3) := by decide +kernel
theorem dX5_rests_21 : decode cX5_rests 21 = .ok (.aload_n 0, 1) := by decide +kernel
theorem dX5_rests_22 : decode cX5_rests 22 = .ok (.iload_n 3, 1) := by decide +kernel
theorem dX5_rests_23 : decode cX5_rests 23 = .ok (.invokevirtual 108, 3) := by decide +kernel
theorem dX5_rests_26 : decode cX5_rests 26 = .ok (.ifCond .eq 5, 3) := by decide +kernel
theorem dX5_rests_29 : decode cX5_rests 29 = .ok (.iconst (-1), 1) := by decide +kernel
theorem dX5_rests_30 : decode cX5_rests 30 = .ok (.ireturn, 1) := by decide +kernel
theorem dX5_rests_31 : decode cX5_rests 31 = .ok (.iload_n 1, 1) := by decide +kernel
theorem dX5_rests_32 : decode cX5_rests 32 = .ok (.iload_n 2, 1) := by decide +kernel
theorem dX5_rests_33 : decode cX5_rests 33 = .ok (.if_icmp .eq 24, 3) := by decide +kernel
