theorem dX7_init_0 : decode cX7_init 0 = .ok (.aload_n 0, 1) := by decide +kernel
theorem dX7_init_1 : decode cX7_init 1 = .ok (.invokespecial 1, 3) := by decide +kernel
theorem dX7_init_4 : decode cX7_init 4 = .ok (.aload_n 0, 1) := by decide +kernel
theorem dX7_init_5 : decode cX7_init 5 = .ok (.sipush 196, 3) := by decide +kernel
theorem dX7_init_8 : decode cX7_init 8 = .ok (.newarray .int, 2) := by decide +kernel
theorem dX7_init_10 : decode cX7_init 10 = .ok (.putfield 7, 3) := by decide +kernel
theorem dX7_init_13 : decode cX7_init 13 = .ok (.aload_n 0, 1) := by decide +kernel
theorem dX7_init_14 : decode cX7_init 14 = .ok (.sipush 784, 3) := by decide +kernel
theorem dX7_init_17 : decode cX7_init 17 = .ok (.newarray .int, 2) := by decide +kernel
theorem dX7_init_19 : decode cX7_init 19 = .ok (.putfield 13, 3) := by decide +kernel
theorem dX7_init_22 : decode cX7_init 22 = .ok (.aload_n 0, 1) := by decide +kernel
theorem dX7_init_23 : decode cX7_init 23 = .ok (.sipush 196, 3) := by decide +kernel
theorem dX7_init_26 : decode cX7_init 26 = .ok (.newarray .int, 2) := by decide +kernel
theorem dX7_init_28 : decode cX7_init 28 = .ok (.putfield 16, 3) := by decide +kernel
theorem dX7_init_31 : decode cX7_init 31 = .ok (.aload_n 0, 1) := by decide +kernel
theorem dX7_init_32 : decode cX7_init 32 = .ok (.bipush 60, 2) := by decide +kernel
theorem dX7_init_34 : decode cX7_init 34 = .ok (.newarray .char, 2) := by decide +kernel
theorem dX7_init_36 : decode cX7_init 36 = .ok (.putfield 19, 3) := by decide +kernel
theorem dX7_init_39 : decode cX7_init 39 = .ok (.aload_n 0, 1) := by decide +kernel
theorem dX7_init_40 : decode cX7_init 40 = .ok (.bipush 40, 2) := by decide +kernel
theorem dX7_init_42 : decode cX7_init 42 = .ok (.newarray .int, 2) := by decide +kernel
theorem dX7_init_44 : decode cX7_init 44 = .ok (.putfield 23, 3) := by decide +kernel
theorem dX7_init_47 : decode cX7_init 47 = .ok (.aload_n 0, 1) := by decide +kernel
theorem dX7_init_48 : decode cX7_init 48 = .ok (.bipush 36, 2) := by decide +kernel
theorem dX7_init_50 : decode cX7_init 50 = .ok (.newarray .int, 2) := by decide +kernel
theorem dX7_init_52 : decode cX7_init 52 = .ok (.putfield 26, 3) := by decide +kernel
theorem dX7_init_55 : decode cX7_init 55 = .ok (.aload_n 0, 1) := by decide +kernel
theorem dX7_init_56 : decode cX7_init 56 = .ok (.bipush 36, 2) := by decide +kernel
theorem dX7_init_58 : decode cX7_init 58 = .ok (.newarray .boolean, 2) := by decide +kernel
theorem dX7_init_60 : decode cX7_init 60 = .ok (.putfield 29, 3) := by decide +kernel
theorem dX7_init_63 : decode cX7_init 63 = .ok (.aload_n 0, 1) := by decide +kernel
theorem dX7_init_64 : decode cX7_init 64 = .ok (.getfield 7, 3) := by decide +kernel
theorem dX7_init_67 : decode cX7_init 67 = .ok (.bipush 72, 2) := by decide +kernel
theorem dX7_init_69 : decode cX7_init 69 = .ok (.iconst 4, 1) := by decide +kernel
theorem dX7_init_70 : decode cX7_init 70 = .ok (.iastore, 1) := by decide +kernel
theorem dX7_init_71 : decode cX7_init 71 = .ok (.aload_n 0, 1) := by decide +kernel
theorem dX7_init_72 : decode cX7_init 72 = .ok (.invokevirtual 33, 3) := by decide +kernel
theorem dX7_init_75 : decode cX7_init 75 = .ok (.return_, 1) := by decide +kernel
theorem dX7_in_0 : decode cX7_in 0 = .ok (.iload_n 0, 1) := by decide +kernel
theorem dX7_in_1 : decode cX7_in 1 = .ok (.iload_n 1, 1) := by decide +kernel
theorem dX7_in_2 : decode cX7_in 2 = .ok (.if_icmp .lt 12, 3) := by decide +kernel
theorem dX7_in_5 : decode cX7_in 5 = .ok (.iload_n 0, 1) := by decide +kernel
theorem dX7_in_6 : decode cX7_in 6 = .ok (.iload_n 2, 1) := by decide +kernel
theorem dX7_in_7 : decode cX7_in 7 = .ok (.if_icmp .gt 7, 3) := by decide +kernel
theorem dX7_in_10 : decode cX7_in 10 = .ok (.iconst 1, 1) := by decide +kernel
theorem dX7_in_11 : decode cX7_in 11 = .ok (.goto 4, 3) := by decide +kernel
theorem dX7_in_14 : decode cX7_in 14 = .ok (.iconst 0, 1) := by decide +kernel
theorem dX7_in_15 : decode cX7_in 15 = .ok (.ireturn, 1) := by decide +kernel
theorem dX7_noCell_0 : decode cX7_noCell 0 = .ok (.iload_n 0, 1) := by decide +kernel
theorem dX7_noCell_1 : decode cX7_noCell 1 = .ok (.iconst 0, 1) := by decide +kernel
theorem dX7_noCell_2 : decode cX7_noCell 2 = .ok (.bipush 35, 2) := by decide +kernel
theorem dX7_noCell_4 : decode cX7_noCell 4 = .ok (.invokestatic 36, 3) := by decide +kernel
theorem dX7_noCell_7 : decode cX7_noCell 7 = .ok (.ifCond .ne 7, 3) := by decide +kernel
theorem dX7_noCell_10 : decode cX7_noCell 10 = .ok (.iconst 1, 1) := by decide +kernel
theorem dX7_noCell_11 : decode cX7_noCell 11 = .ok (.goto 4, 3) := by decide +kernel
theorem dX7_noCell_14 : decode cX7_noCell 14 = .ok (.iconst 0, 1) := by decide +kernel
theorem dX7_noCell_15 : decode cX7_noCell 15 = .ok (.ireturn, 1) := by decide +kernel
theorem dX7_clear_0 : decode cX7_clear 0 = .ok (.aload_n 0, 1) := by decide +kernel
theorem dX7_clear_1 : decode cX7_clear 1 = .ok (.getfield 7, 3) := by decide +kernel
theorem dX7_clear_4 : decode cX7_clear 4 = .ok (.bipush 75, 2) := by decide +kernel
theorem dX7_clear_6 : decode cX7_clear 6 = .ok (.iconst 0, 1) := by decide +kernel
theorem dX7_clear_7 : decode cX7_clear 7 = .ok (.iastore, 1) := by decide +kernel
theorem dX7_clear_8 : decode cX7_clear 8 = .ok (.aload_n 0, 1) := by decide +kernel
theorem dX7_clear_9 : decode cX7_clear 9 = .ok (.getfield 7, 3) := by decide +kernel
theorem dX7_clear_12 : decode cX7_clear 12 = .ok (.bipush 76, 2) := by decide +kernel
theorem dX7_clear_14 : decode cX7_clear 14 = .ok (.iconst 0, 1) := by decide +kernel
theorem dX7_clear_15 : decode cX7_clear 15 = .ok (.iastore, 1) := by decide +kernel
theorem dX7_clear_16 : decode cX7_clear 16 = .ok (.aload_n 0, 1) := by decide +kernel
theorem dX7_clear_17 : decode cX7_clear 17 = .ok (.getfield 7, 3) := by decide +kernel
theorem dX7_clear_20 : decode cX7_clear 20 = .ok (.bipush 77, 2) := by decide +kernel
theorem dX7_clear_22 : decode cX7_clear 22 = .ok (.iconst 0, 1) := by decide +kernel
theorem dX7_clear_23 : decode cX7_clear 23 = .ok (.iastore, 1) := by decide +kernel
theorem dX7_clear_24 : decode cX7_clear 24 = .ok (.aload_n 0, 1) := by decide +kernel
theorem dX7_clear_25 : decode cX7_clear 25 = .ok (.getfield 7, 3) := by decide +kernel
theorem dX7_clear_28 : decode cX7_clear 28 = .ok (.bipush 78, 2) := by decide +kernel
theorem dX7_clear_30 : decode cX7_clear 30 = .ok (.iconst 0, 1) := by decide +kernel
theorem dX7_clear_31 : decode cX7_clear 31 = .ok (.iastore, 1) := by decide +kernel
theorem dX7_clear_32 : decode cX7_clear 32 = .ok (.iconst 0, 1) := by decide +kernel
theorem dX7_clear_33 : decode cX7_clear 33 = .ok (.istore_n 1, 1) := by decide +kernel
theorem dX7_clear_34 : decode cX7_clear 34 = .ok (.iload_n 1, 1) := by decide +kernel
theorem dX7_clear_35 : decode cX7_clear 35 = .ok (.bipush 36, 2) := by decide +kernel
theorem dX7_clear_37 : decode cX7_clear 37 = .ok (.if_icmp .ge 40, 3) := by decide +kernel
theorem dX7_clear_40 : decode cX7_clear 40 = .ok (.aload_n 0, 1) := by decide +kernel
theorem dX7_clear_41 : decode cX7_clear 41 = .ok (.getfield 7, 3) := by decide +kernel
theorem dX7_clear_44 : decode cX7_clear 44 = .ok (.bipush 79, 2) := by decide +kernel
theorem dX7_clear_46 : decode cX7_clear 46 = .ok (.iload_n 1, 1) := by decide +kernel
theorem dX7_clear_47 : decode cX7_clear 47 = .ok (.iadd, 1) := by decide +kernel
theorem dX7_clear_48 : decode cX7_clear 48 = .ok (.iconst (-1), 1) := by decide +kernel
theorem dX7_clear_49 : decode cX7_clear 49 = .ok (.iastore, 1) := by decide +kernel
theorem dX7_clear_50 : decode cX7_clear 50 = .ok (.aload_n 0, 1) := by decide +kernel
theorem dX7_clear_51 : decode cX7_clear 51 = .ok (.getfield 7, 3) := by decide +kernel
theorem dX7_clear_54 : decode cX7_clear 54 = .ok (.bipush 115, 2) := by decide +kernel
theorem dX7_clear_56 : decode cX7_clear 56 = .ok (.iload_n 1, 1) := by decide +kernel
theorem dX7_clear_57 : decode cX7_clear 57 = .ok (.iadd, 1) := by decide +kernel
theorem dX7_clear_58 : decode cX7_clear 58 = .ok (.iconst (-1), 1) := by decide +kernel
theorem dX7_clear_59 : decode cX7_clear 59 = .ok (.iastore, 1) := by decide +kernel
theorem dX7_clear_60 : decode cX7_clear 60 = .ok (.aload_n 0, 1) := by decide +kernel
theorem dX7_clear_61 : decode cX7_clear 61 = .ok (.getfield 7, 3) := by decide +kernel
theorem dX7_clear_64 : decode cX7_clear 64 = .ok (.sipush 151, 3) := by decide +kernel
theorem dX7_clear_67 : decode cX7_clear 67 = .ok (.iload_n 1, 1) := by decide +kernel
theorem dX7_clear_68 : decode cX7_clear 68 = .ok (.iadd, 1) := by decide +kernel
theorem dX7_clear_69 : decode cX7_clear 69 = .ok (.iconst (-1), 1) := by decide +kernel
theorem dX7_clear_70 : decode cX7_clear 70 = .ok (.iastore, 1) := by decide +kernel
theorem dX7_clear_71 : decode cX7_clear 71 = .ok (.iinc 1 1, 3) := by decide +kernel
theorem dX7_clear_74 : decode cX7_clear 74 = .ok (.goto (-40), 3) := by decide +kernel
theorem dX7_clear_77 : decode cX7_clear 77 = .ok (.iconst 0, 1) := by decide +kernel
theorem dX7_clear_78 : decode cX7_clear 78 = .ok (.istore_n 1, 1) := by decide +kernel
theorem dX7_clear_79 : decode cX7_clear 79 = .ok (.iload_n 1, 1) := by decide +kernel
theorem dX7_clear_80 : decode cX7_clear 80 = .ok (.bipush 9, 2) := by decide +kernel
theorem dX7_clear_82 : decode cX7_clear 82 = .ok (.if_icmp .ge 20, 3) := by decide +kernel
theorem dX7_clear_85 : decode cX7_clear 85 = .ok (.aload_n 0, 1) := by decide +kernel
theorem dX7_clear_86 : decode cX7_clear 86 = .ok (.getfield 7, 3) := by decide +kernel
theorem dX7_clear_89 : decode cX7_clear 89 = .ok (.sipush 187, 3) := by decide +kernel
theorem dX7_clear_92 : decode cX7_clear 92 = .ok (.iload_n 1, 1) := by decide +kernel
theorem dX7_clear_93 : decode cX7_clear 93 = .ok (.iadd, 1) := by decide +kernel
theorem dX7_clear_94 : decode cX7_clear 94 = .ok (.iconst 0, 1) := by decide +kernel
theorem dX7_clear_95 : decode cX7_clear 95 = .ok (.iastore, 1) := by decide +kernel
theorem dX7_clear_96 : decode cX7_clear 96 = .ok (.iinc 1 1, 3) := by decide +kernel
theorem dX7_clear_99 : decode cX7_clear 99 = .ok (.goto (-20), 3) := by decide +kernel
theorem dX7_clear_102 : decode cX7_clear 102 = .ok (.return_, 1) := by decide +kernel
theorem dX7_record_0 : decode cX7_record 0 = .ok (.aload_n 0, 1) := by decide +kernel
theorem dX7_record_1 : decode cX7_record 1 = .ok (.getfield 40, 3) := by decide +kernel
theorem dX7_record_4 : decode cX7_record 4 = .ok (.iconst 4, 1) := by decide +kernel
theorem dX7_record_5 : decode cX7_record 5 = .ok (.if_icmp .ne 44, 3) := by decide +kernel
theorem dX7_record_8 : decode cX7_record 8 = .ok (.iconst 0, 1) := by decide +kernel
theorem dX7_record_9 : decode cX7_record 9 = .ok (.istore_n 1, 1) := by decide +kernel
theorem dX7_record_10 : decode cX7_record 10 = .ok (.iload_n 1, 1) := by decide +kernel
theorem dX7_record_11 : decode cX7_record 11 = .ok (.sipush 588, 3) := by decide +kernel
theorem dX7_record_14 : decode cX7_record 14 = .ok (.if_icmp .ge 25, 3) := by decide +kernel
theorem dX7_record_17 : decode cX7_record 17 = .ok (.aload_n 0, 1) := by decide +kernel
theorem dX7_record_18 : decode cX7_record 18 = .ok (.getfield 13, 3) := by decide +kernel
theorem dX7_record_21 : decode cX7_record 21 = .ok (.iload_n 1, 1) := by decide +kernel
theorem dX7_record_22 : decode cX7_record 22 = .ok (.aload_n 0, 1) := by decide +kernel
theorem dX7_record_23 : decode cX7_record 23 = .ok (.getfield 13, 3) := by decide +kernel
theorem dX7_record_26 : decode cX7_record 26 = .ok (.sipush 196, 3) := by decide +kernel
theorem dX7_record_29 : decode cX7_record 29 = .ok (.iload_n 1, 1) := by decide +kernel
theorem dX7_record_30 : decode cX7_record 30 = .ok (.iadd, 1) := by decide +kernel
theorem dX7_record_31 : decode cX7_record 31 = .ok (.iaload, 1) := by decide +kernel
theorem dX7_record_32 : decode cX7_record 32 = .ok (.iastore, 1) := by decide +kernel
theorem dX7_record_33 : decode cX7_record 33 = .ok (.iinc 1 1, 3) := by decide +kernel
theorem dX7_record_36 : decode cX7_record 36 = .ok (.goto (-26), 3) := by decide +kernel
theorem dX7_record_39 : decode cX7_record 39 = .ok (.aload_n 0, 1) := by decide +kernel
theorem dX7_record_40 : decode cX7_record 40 = .ok (.dup, 1) := by decide +kernel
theorem dX7_record_41 : decode cX7_record 41 = .ok (.getfield 40, 3) := by decide +kernel
theorem dX7_record_44 : decode cX7_record 44 = .ok (.iconst 1, 1) := by decide +kernel
theorem dX7_record_45 : decode cX7_record 45 = .ok (.isub, 1) := by decide +kernel
theorem dX7_record_46 : decode cX7_record 46 = .ok (.putfield 40, 3) := by decide +kernel
theorem dX7_record_49 : decode cX7_record 49 = .ok (.iconst 0, 1) := by decide +kernel
theorem dX7_record_50 : decode cX7_record 50 = .ok (.istore_n 1, 1) := by decide +kernel
theorem dX7_record_51 : decode cX7_record 51 = .ok (.iload_n 1, 1) := by decide +kernel
theorem dX7_record_52 : decode cX7_record 52 = .ok (.sipush 196, 3) := by decide +kernel
theorem dX7_record_55 : decode cX7_record 55 = .ok (.if_icmp .ge 30, 3) := by decide +kernel
theorem dX7_record_58 : decode cX7_record 58 = .ok (.aload_n 0, 1) := by decide +kernel
theorem dX7_record_59 : decode cX7_record 59 = .ok (.getfield 13, 3) := by decide +kernel
theorem dX7_record_62 : decode cX7_record 62 = .ok (.sipush 196, 3) := by decide +kernel
theorem dX7_record_65 : decode cX7_record 65 = .ok (.aload_n 0, 1) := by decide +kernel
theorem dX7_record_66 : decode cX7_record 66 = .ok (.getfield 40, 3) := by decide +kernel
theorem dX7_record_69 : decode cX7_record 69 = .ok (.imul, 1) := by decide +kernel
theorem dX7_record_70 : decode cX7_record 70 = .ok (.iload_n 1, 1) := by decide +kernel
theorem dX7_record_71 : decode cX7_record 71 = .ok (.iadd, 1) := by decide +kernel
theorem dX7_record_72 : decode cX7_record 72 = .ok (.aload_n 0, 1) := by decide +kernel
theorem dX7_record_73 : decode cX7_record 73 = .ok (.getfield 7, 3) := by decide +kernel
theorem dX7_record_76 : decode cX7_record 76 = .ok (.iload_n 1, 1) := by decide +kernel
theorem dX7_record_77 : decode cX7_record 77 = .ok (.iaload, 1) := by decide +kernel
theorem dX7_record_78 : decode cX7_record 78 = .ok (.iastore, 1) := by decide +kernel
theorem dX7_record_79 : decode cX7_record 79 = .ok (.iinc 1 1, 3) := by decide +kernel
theorem dX7_record_82 : decode cX7_record 82 = .ok (.goto (-31), 3) := by decide +kernel
theorem dX7_record_85 : decode cX7_record 85 = .ok (.aload_n 0, 1) := by decide +kernel
theorem dX7_record_86 : decode cX7_record 86 = .ok (.dup, 1) := by decide +kernel
theorem dX7_record_87 : decode cX7_record 87 = .ok (.getfield 40, 3) := by decide +kernel
theorem dX7_record_90 : decode cX7_record 90 = .ok (.iconst 1, 1) := by decide +kernel
theorem dX7_record_91 : decode cX7_record 91 = .ok (.iadd, 1) := by decide +kernel
theorem dX7_record_92 : decode cX7_record 92 = .ok (.putfield 40, 3) := by decide +kernel
theorem dX7_record_95 : decode cX7_record 95 = .ok (.return_, 1) := by decide +kernel
theorem dX7_undo_0 : decode cX7_undo 0 = .ok (.aload_n 0, 1) := by decide +kernel
theorem dX7_undo_1 : decode cX7_undo 1 = .ok (.getfield 40, 3) := by decide +kernel
theorem dX7_undo_4 : decode cX7_undo 4 = .ok (.ifCond .ne 6, 3) := by decide +kernel
theorem dX7_undo_7 : decode cX7_undo 7 = .ok (.bipush (-5), 2) := by decide +kernel
theorem dX7_undo_9 : decode cX7_undo 9 = .ok (.ireturn, 1) := by decide +kernel
theorem dX7_undo_10 : decode cX7_undo 10 = .ok (.aload_n 0, 1) := by decide +kernel
theorem dX7_undo_11 : decode cX7_undo 11 = .ok (.dup, 1) := by decide +kernel
theorem dX7_undo_12 : decode cX7_undo 12 = .ok (.getfield 40, 3) := by decide +kernel
theorem dX7_undo_15 : decode cX7_undo 15 = .ok (.iconst 1, 1) := by decide +kernel
theorem dX7_undo_16 : decode cX7_undo 16 = .ok (.isub, 1) := by decide +kernel
theorem dX7_undo_17 : decode cX7_undo 17 = .ok (.putfield 40, 3) := by decide +kernel
theorem dX7_undo_20 : decode cX7_undo 20 = .ok (.iconst 0, 1) := by decide +kernel
theorem dX7_undo_21 : decode cX7_undo 21 = .ok (.istore_n 1, 1) := by decide +kernel
theorem dX7_undo_22 : decode cX7_undo 22 = .ok (.iload_n 1, 1) := by decide +kernel
theorem dX7_undo_23 : decode cX7_undo 23 = .ok (.sipush 196, 3) := by decide +kernel
theorem dX7_undo_26 : decode cX7_undo 26 = .ok (.if_icmp .ge 30, 3) := by decide +kernel
theorem dX7_undo_29 : decode cX7_undo 29 = .ok (.aload_n 0, 1) := by decide +kernel
theorem dX7_undo_30 : decode cX7_undo 30 = .ok (.getfield 7, 3) := by decide +kernel
theorem dX7_undo_33 : decode cX7_undo 33 = .ok (.iload_n 1, 1) := by decide +kernel
theorem dX7_undo_34 : decode cX7_undo 34 = .ok (.aload_n 0, 1) := by decide +kernel
theorem dX7_undo_35 : decode cX7_undo 35 = .ok (.getfield 13, 3) := by decide +kernel
theorem dX7_undo_38 : decode cX7_undo 38 = .ok (.sipush 196, 3) := by decide +kernel
theorem dX7_undo_41 : decode cX7_undo 41 = .ok (.aload_n 0, 1) := by decide +kernel
theorem dX7_undo_42 : decode cX7_undo 42 = .ok (.getfield 40, 3) := by decide +kernel
theorem dX7_undo_45 : decode cX7_undo 45 = .ok (.imul, 1) := by decide +kernel
theorem dX7_undo_46 : decode cX7_undo 46 = .ok (.iload_n 1, 1) := by decide +kernel
theorem dX7_undo_47 : decode cX7_undo 47 = .ok (.iadd, 1) := by decide +kernel
theorem dX7_undo_48 : decode cX7_undo 48 = .ok (.iaload, 1) := by decide +kernel
theorem dX7_undo_49 : decode cX7_undo 49 = .ok (.iastore, 1) := by decide +kernel
theorem dX7_undo_50 : decode cX7_undo 50 = .ok (.iinc 1 1, 3) := by decide +kernel
theorem dX7_undo_53 : decode cX7_undo 53 = .ok (.goto (-31), 3) := by decide +kernel
theorem dX7_undo_56 : decode cX7_undo 56 = .ok (.aload_n 0, 1) := by decide +kernel
theorem dX7_undo_57 : decode cX7_undo 57 = .ok (.getfield 40, 3) := by decide +kernel
theorem dX7_undo_60 : decode cX7_undo 60 = .ok (.ireturn, 1) := by decide +kernel
theorem dX7_keep_0 : decode cX7_keep 0 = .ok (.iconst 0, 1) := by decide +kernel
theorem dX7_keep_1 : decode cX7_keep 1 = .ok (.istore_n 1, 1) := by decide +kernel
theorem dX7_keep_2 : decode cX7_keep 2 = .ok (.iload_n 1, 1) := by decide +kernel
theorem dX7_keep_3 : decode cX7_keep 3 = .ok (.sipush 196, 3) := by decide +kernel
theorem dX7_keep_6 : decode cX7_keep 6 = .ok (.if_icmp .ge 21, 3) := by decide +kernel
theorem dX7_keep_9 : decode cX7_keep 9 = .ok (.aload_n 0, 1) := by decide +kernel
theorem dX7_keep_10 : decode cX7_keep 10 = .ok (.getfield 16, 3) := by decide +kernel
theorem dX7_keep_13 : decode cX7_keep 13 = .ok (.iload_n 1, 1) := by decide +kernel
theorem dX7_keep_14 : decode cX7_keep 14 = .ok (.aload_n 0, 1) := by decide +kernel
theorem dX7_keep_15 : decode cX7_keep 15 = .ok (.getfield 7, 3) := by decide +kernel
theorem dX7_keep_18 : decode cX7_keep 18 = .ok (.iload_n 1, 1) := by decide +kernel
theorem dX7_keep_19 : decode cX7_keep 19 = .ok (.iaload, 1) := by decide +kernel
theorem dX7_keep_20 : decode cX7_keep 20 = .ok (.iastore, 1) := by decide +kernel
theorem dX7_keep_21 : decode cX7_keep 21 = .ok (.iinc 1 1, 3) := by decide +kernel
theorem dX7_keep_24 : decode cX7_keep 24 = .ok (.goto (-22), 3) := by decide +kernel
theorem dX7_keep_27 : decode cX7_keep 27 = .ok (.aload_n 0, 1) := by decide +kernel
theorem dX7_keep_28 : decode cX7_keep 28 = .ok (.iconst 1, 1) := by decide +kernel
theorem dX7_keep_29 : decode cX7_keep 29 = .ok (.putfield 44, 3) := by decide +kernel
theorem dX7_keep_32 : decode cX7_keep 32 = .ok (.aload_n 0, 1) := by decide +kernel
theorem dX7_keep_33 : decode cX7_keep 33 = .ok (.getfield 7, 3) := by decide +kernel
theorem dX7_keep_36 : decode cX7_keep 36 = .ok (.bipush 77, 2) := by decide +kernel
theorem dX7_keep_38 : decode cX7_keep 38 = .ok (.iaload, 1) := by decide +kernel
theorem dX7_keep_39 : decode cX7_keep 39 = .ok (.ireturn, 1) := by decide +kernel
theorem dX7_restore_0 : decode cX7_restore 0 = .ok (.aload_n 0, 1) := by decide +kernel
theorem dX7_restore_1 : decode cX7_restore 1 = .ok (.getfield 44, 3) := by decide +kernel
theorem dX7_restore_4 : decode cX7_restore 4 = .ok (.ifCond .ne 6, 3) := by decide +kernel
theorem dX7_restore_7 : decode cX7_restore 7 = .ok (.bipush (-5), 2) := by decide +kernel
theorem dX7_restore_9 : decode cX7_restore 9 = .ok (.ireturn, 1) := by decide +kernel
theorem dX7_restore_10 : decode cX7_restore 10 = .ok (.aload_n 0, 1) := by decide +kernel
theorem dX7_restore_11 : decode cX7_restore 11 = .ok (.invokevirtual 48, 3) := by decide +kernel
theorem dX7_restore_14 : decode cX7_restore 14 = .ok (.iconst 0, 1) := by decide +kernel
theorem dX7_restore_15 : decode cX7_restore 15 = .ok (.istore_n 1, 1) := by decide +kernel
theorem dX7_restore_16 : decode cX7_restore 16 = .ok (.iload_n 1, 1) := by decide +kernel
theorem dX7_restore_17 : decode cX7_restore 17 = .ok (.sipush 196, 3) := by decide +kernel
theorem dX7_restore_20 : decode cX7_restore 20 = .ok (.if_icmp .ge 21, 3) := by decide +kernel
theorem dX7_restore_23 : decode cX7_restore 23 = .ok (.aload_n 0, 1) := by decide +kernel
theorem dX7_restore_24 : decode cX7_restore 24 = .ok (.getfield 7, 3) := by decide +kernel
theorem dX7_restore_27 : decode cX7_restore 27 = .ok (.iload_n 1, 1) := by decide +kernel
theorem dX7_restore_28 : decode cX7_restore 28 = .ok (.aload_n 0, 1) := by decide +kernel
theorem dX7_restore_29 : decode cX7_restore 29 = .ok (.getfield 16, 3) := by decide +kernel
theorem dX7_restore_32 : decode cX7_restore 32 = .ok (.iload_n 1, 1) := by decide +kernel
theorem dX7_restore_33 : decode cX7_restore 33 = .ok (.iaload, 1) := by decide +kernel
theorem dX7_restore_34 : decode cX7_restore 34 = .ok (.iastore, 1) := by decide +kernel
theorem dX7_restore_35 : decode cX7_restore 35 = .ok (.iinc 1 1, 3) := by decide +kernel
theorem dX7_restore_38 : decode cX7_restore 38 = .ok (.goto (-22), 3) := by decide +kernel
theorem dX7_restore_41 : decode cX7_restore 41 = .ok (.aload_n 0, 1) := by decide +kernel
theorem dX7_restore_42 : decode cX7_restore 42 = .ok (.getfield 7, 3) := by decide +kernel
theorem dX7_restore_45 : decode cX7_restore 45 = .ok (.bipush 77, 2) := by decide +kernel
theorem dX7_restore_47 : decode cX7_restore 47 = .ok (.iaload, 1) := by decide +kernel
theorem dX7_restore_48 : decode cX7_restore 48 = .ok (.ireturn, 1) := by decide +kernel
theorem dX7_setVotes_0 : decode cX7_setVotes 0 = .ok (.iload_n 1, 1) := by decide +kernel
theorem dX7_setVotes_1 : decode cX7_setVotes 1 = .ok (.invokestatic 51, 3) := by decide +kernel
theorem dX7_setVotes_4 : decode cX7_setVotes 4 = .ok (.ifCond .eq 5, 3) := by decide +kernel
theorem dX7_setVotes_7 : decode cX7_setVotes 7 = .ok (.iconst (-1), 1) := by decide +kernel
theorem dX7_setVotes_8 : decode cX7_setVotes 8 = .ok (.ireturn, 1) := by decide +kernel
theorem dX7_setVotes_9 : decode cX7_setVotes 9 = .ok (.iload_n 2, 1) := by decide +kernel
theorem dX7_setVotes_10 : decode cX7_setVotes 10 = .ok (.iconst 0, 1) := by decide +kernel
theorem dX7_setVotes_11 : decode cX7_setVotes 11 = .ok (.bipush 9, 2) := by decide +kernel
theorem dX7_setVotes_13 : decode cX7_setVotes 13 = .ok (.invokestatic 36, 3) := by decide +kernel
theorem dX7_setVotes_16 : decode cX7_setVotes 16 = .ok (.ifCond .eq 13, 3) := by decide +kernel
theorem dX7_setVotes_19 : decode cX7_setVotes 19 = .ok (.iload_n 3, 1) := by decide +kernel
theorem dX7_setVotes_20 : decode cX7_setVotes 20 = .ok (.iconst 0, 1) := by decide +kernel
theorem dX7_setVotes_21 : decode cX7_setVotes 21 = .ok (.bipush 9, 2) := by decide +kernel
theorem dX7_setVotes_23 : decode cX7_setVotes 23 = .ok (.invokestatic 36, 3) := by decide +kernel
theorem dX7_setVotes_26 : decode cX7_setVotes 26 = .ok (.ifCond .ne 6, 3) := by decide +kernel
theorem dX7_setVotes_29 : decode cX7_setVotes 29 = .ok (.bipush (-2), 2) := by decide +kernel
theorem dX7_setVotes_31 : decode cX7_setVotes 31 = .ok (.ireturn, 1) := by decide +kernel
theorem dX7_setVotes_32 : decode cX7_setVotes 32 = .ok (.bipush 10, 2) := by decide +kernel
theorem dX7_setVotes_34 : decode cX7_setVotes 34 = .ok (.aload_n 0, 1) := by decide +kernel
theorem dX7_setVotes_35 : decode cX7_setVotes 35 = .ok (.getfield 7, 3) := by decide +kernel
theorem dX7_setVotes_38 : decode cX7_setVotes 38 = .ok (.iconst 2, 1) := by decide +kernel
theorem dX7_setVotes_39 : decode cX7_setVotes 39 = .ok (.iload_n 1, 1) := by decide +kernel
theorem dX7_setVotes_40 : decode cX7_setVotes 40 = .ok (.imul, 1) := by decide +kernel
theorem dX7_setVotes_41 : decode cX7_setVotes 41 = .ok (.iaload, 1) := by decide +kernel
theorem dX7_setVotes_42 : decode cX7_setVotes 42 = .ok (.imul, 1) := by decide +kernel
theorem dX7_setVotes_43 : decode cX7_setVotes 43 = .ok (.aload_n 0, 1) := by decide +kernel
theorem dX7_setVotes_44 : decode cX7_setVotes 44 = .ok (.getfield 7, 3) := by decide +kernel
theorem dX7_setVotes_47 : decode cX7_setVotes 47 = .ok (.iconst 2, 1) := by decide +kernel
theorem dX7_setVotes_48 : decode cX7_setVotes 48 = .ok (.iload_n 1, 1) := by decide +kernel
theorem dX7_setVotes_49 : decode cX7_setVotes 49 = .ok (.imul, 1) := by decide +kernel
theorem dX7_setVotes_50 : decode cX7_setVotes 50 = .ok (.iconst 1, 1) := by decide +kernel
theorem dX7_setVotes_51 : decode cX7_setVotes 51 = .ok (.iadd, 1) := by decide +kernel
theorem dX7_setVotes_52 : decode cX7_setVotes 52 = .ok (.iaload, 1) := by decide +kernel
theorem dX7_setVotes_53 : decode cX7_setVotes 53 = .ok (.iadd, 1) := by decide +kernel
theorem dX7_setVotes_54 : decode cX7_setVotes 54 = .ok (.istore 4, 2) := by decide +kernel
theorem dX7_setVotes_56 : decode cX7_setVotes 56 = .ok (.iload 4, 2) := by decide +kernel
theorem dX7_setVotes_58 : decode cX7_setVotes 58 = .ok (.bipush 10, 2) := by decide +kernel
theorem dX7_setVotes_60 : decode cX7_setVotes 60 = .ok (.iload_n 2, 1) := by decide +kernel
theorem dX7_setVotes_61 : decode cX7_setVotes 61 = .ok (.imul, 1) := by decide +kernel
theorem dX7_setVotes_62 : decode cX7_setVotes 62 = .ok (.iload_n 3, 1) := by decide +kernel
theorem dX7_setVotes_63 : decode cX7_setVotes 63 = .ok (.iadd, 1) := by decide +kernel
theorem dX7_setVotes_64 : decode cX7_setVotes 64 = .ok (.if_icmp .ne 6, 3) := by decide +kernel
theorem dX7_setVotes_67 : decode cX7_setVotes 67 = .ok (.bipush (-5), 2) := by decide +kernel
theorem dX7_setVotes_69 : decode cX7_setVotes 69 = .ok (.ireturn, 1) := by decide +kernel
theorem dX7_setVotes_70 : decode cX7_setVotes 70 = .ok (.aload_n 0, 1) := by decide +kernel
theorem dX7_setVotes_71 : decode cX7_setVotes 71 = .ok (.invokevirtual 48, 3) := by decide +kernel
theorem dX7_setVotes_74 : decode cX7_setVotes 74 = .ok (.aload_n 0, 1) := by decide +kernel
theorem dX7_setVotes_75 : decode cX7_setVotes 75 = .ok (.getfield 7, 3) := by decide +kernel
theorem dX7_setVotes_78 : decode cX7_setVotes 78 = .ok (.iconst 2, 1) := by decide +kernel
theorem dX7_setVotes_79 : decode cX7_setVotes 79 = .ok (.iload_n 1, 1) := by decide +kernel
theorem dX7_setVotes_80 : decode cX7_setVotes 80 = .ok (.imul, 1) := by decide +kernel
theorem dX7_setVotes_81 : decode cX7_setVotes 81 = .ok (.iload_n 2, 1) := by decide +kernel
theorem dX7_setVotes_82 : decode cX7_setVotes 82 = .ok (.iastore, 1) := by decide +kernel
theorem dX7_setVotes_83 : decode cX7_setVotes 83 = .ok (.aload_n 0, 1) := by decide +kernel
theorem dX7_setVotes_84 : decode cX7_setVotes 84 = .ok (.getfield 7, 3) := by decide +kernel
theorem dX7_setVotes_87 : decode cX7_setVotes 87 = .ok (.iconst 2, 1) := by decide +kernel
theorem dX7_setVotes_88 : decode cX7_setVotes 88 = .ok (.iload_n 1, 1) := by decide +kernel
theorem dX7_setVotes_89 : decode cX7_setVotes 89 = .ok (.imul, 1) := by decide +kernel
theorem dX7_setVotes_90 : decode cX7_setVotes 90 = .ok (.iconst 1, 1) := by decide +kernel
theorem dX7_setVotes_91 : decode cX7_setVotes 91 = .ok (.iadd, 1) := by decide +kernel
theorem dX7_setVotes_92 : decode cX7_setVotes 92 = .ok (.iload_n 3, 1) := by decide +kernel
theorem dX7_setVotes_93 : decode cX7_setVotes 93 = .ok (.iastore, 1) := by decide +kernel
theorem dX7_setVotes_94 : decode cX7_setVotes 94 = .ok (.iload 4, 2) := by decide +kernel
theorem dX7_setVotes_96 : decode cX7_setVotes 96 = .ok (.ireturn, 1) := by decide +kernel
theorem dX7_begin_0 : decode cX7_begin 0 = .ok (.iload_n 1, 1) := by decide +kernel
theorem dX7_begin_1 : decode cX7_begin 1 = .ok (.iconst 2, 1) := by decide +kernel
theorem dX7_begin_2 : decode cX7_begin 2 = .ok (.if_icmp .lt 16, 3) := by decide +kernel
theorem dX7_begin_5 : decode cX7_begin 5 = .ok (.iload_n 1, 1) := by decide +kernel
theorem dX7_begin_6 : decode cX7_begin 6 = .ok (.bipush 9, 2) := by decide +kernel
theorem dX7_begin_8 : decode cX7_begin 8 = .ok (.if_icmp .gt 10, 3) := by decide +kernel
theorem dX7_begin_11 : decode cX7_begin 11 = .ok (.bipush 36, 2) := by decide +kernel
theorem dX7_begin_13 : decode cX7_begin 13 = .ok (.iload_n 1, 1) := by decide +kernel
theorem dX7_begin_14 : decode cX7_begin 14 = .ok (.irem, 1) := by decide +kernel
theorem dX7_begin_15 : decode cX7_begin 15 = .ok (.ifCond .eq 6, 3) := by decide +kernel
theorem dX7_begin_18 : decode cX7_begin 18 = .ok (.bipush (-2), 2) := by decide +kernel
theorem dX7_begin_20 : decode cX7_begin 20 = .ok (.ireturn, 1) := by decide +kernel
theorem dX7_begin_21 : decode cX7_begin 21 = .ok (.aload_n 0, 1) := by decide +kernel
theorem dX7_begin_22 : decode cX7_begin 22 = .ok (.invokevirtual 48, 3) := by decide +kernel
theorem dX7_begin_25 : decode cX7_begin 25 = .ok (.aload_n 0, 1) := by decide +kernel
theorem dX7_begin_26 : decode cX7_begin 26 = .ok (.getfield 7, 3) := by decide +kernel
theorem dX7_begin_29 : decode cX7_begin 29 = .ok (.bipush 72, 2) := by decide +kernel
theorem dX7_begin_31 : decode cX7_begin 31 = .ok (.iload_n 1, 1) := by decide +kernel
theorem dX7_begin_32 : decode cX7_begin 32 = .ok (.iastore, 1) := by decide +kernel
theorem dX7_begin_33 : decode cX7_begin 33 = .ok (.aload_n 0, 1) := by decide +kernel
theorem dX7_begin_34 : decode cX7_begin 34 = .ok (.invokevirtual 33, 3) := by decide +kernel
theorem dX7_begin_37 : decode cX7_begin 37 = .ok (.aload_n 0, 1) := by decide +kernel
theorem dX7_begin_38 : decode cX7_begin 38 = .ok (.invokevirtual 55, 3) := by decide +kernel
theorem dX7_begin_41 : decode cX7_begin 41 = .ok (.ireturn, 1) := by decide +kernel
theorem dX7_setTarget_0 : decode cX7_setTarget 0 = .ok (.iload_n 1, 1) := by decide +kernel
theorem dX7_setTarget_1 : decode cX7_setTarget 1 = .ok (.iconst 0, 1) := by decide +kernel
theorem dX7_setTarget_2 : decode cX7_setTarget 2 = .ok (.iconst 1, 1) := by decide +kernel
theorem dX7_setTarget_3 : decode cX7_setTarget 3 = .ok (.invokestatic 36, 3) := by decide +kernel
theorem dX7_setTarget_6 : decode cX7_setTarget 6 = .ok (.ifCond .ne 5, 3) := by decide +kernel
theorem dX7_setTarget_9 : decode cX7_setTarget 9 = .ok (.iconst (-1), 1) := by decide +kernel
theorem dX7_setTarget_10 : decode cX7_setTarget 10 = .ok (.ireturn, 1) := by decide +kernel
theorem dX7_setTarget_11 : decode cX7_setTarget 11 = .ok (.iload_n 2, 1) := by decide +kernel
theorem dX7_setTarget_12 : decode cX7_setTarget 12 = .ok (.iconst 0, 1) := by decide +kernel
theorem dX7_setTarget_13 : decode cX7_setTarget 13 = .ok (.bipush 9, 2) := by decide +kernel
theorem dX7_setTarget_15 : decode cX7_setTarget 15 = .ok (.invokestatic 36, 3) := by decide +kernel
theorem dX7_setTarget_18 : decode cX7_setTarget 18 = .ok (.ifCond .ne 6, 3) := by decide +kernel
theorem dX7_setTarget_21 : decode cX7_setTarget 21 = .ok (.bipush (-2), 2) := by decide +kernel
theorem dX7_setTarget_23 : decode cX7_setTarget 23 = .ok (.ireturn, 1) := by decide +kernel
theorem dX7_setTarget_24 : decode cX7_setTarget 24 = .ok (.aload_n 0, 1) := by decide +kernel
theorem dX7_setTarget_25 : decode cX7_setTarget 25 = .ok (.getfield 7, 3) := by decide +kernel
theorem dX7_setTarget_28 : decode cX7_setTarget 28 = .ok (.bipush 73, 2) := by decide +kernel
theorem dX7_setTarget_30 : decode cX7_setTarget 30 = .ok (.iload_n 1, 1) := by decide +kernel
theorem dX7_setTarget_31 : decode cX7_setTarget 31 = .ok (.iadd, 1) := by decide +kernel
theorem dX7_setTarget_32 : decode cX7_setTarget 32 = .ok (.iaload, 1) := by decide +kernel
theorem dX7_setTarget_33 : decode cX7_setTarget 33 = .ok (.istore_n 3, 1) := by decide +kernel
theorem dX7_setTarget_34 : decode cX7_setTarget 34 = .ok (.iload_n 3, 1) := by decide +kernel
theorem dX7_setTarget_35 : decode cX7_setTarget 35 = .ok (.iload_n 2, 1) := by decide +kernel
theorem dX7_setTarget_36 : decode cX7_setTarget 36 = .ok (.if_icmp .ne 6, 3) := by decide +kernel
theorem dX7_setTarget_39 : decode cX7_setTarget 39 = .ok (.bipush (-5), 2) := by decide +kernel
theorem dX7_setTarget_41 : decode cX7_setTarget 41 = .ok (.ireturn, 1) := by decide +kernel
theorem dX7_setTarget_42 : decode cX7_setTarget 42 = .ok (.aload_n 0, 1) := by decide +kernel
theorem dX7_setTarget_43 : decode cX7_setTarget 43 = .ok (.invokevirtual 48, 3) := by decide +kernel
theorem dX7_setTarget_46 : decode cX7_setTarget 46 = .ok (.aload_n 0, 1) := by decide +kernel
theorem dX7_setTarget_47 : decode cX7_setTarget 47 = .ok (.getfield 7, 3) := by decide +kernel
theorem dX7_setTarget_50 : decode cX7_setTarget 50 = .ok (.bipush 73, 2) := by decide +kernel
theorem dX7_setTarget_52 : decode cX7_setTarget 52 = .ok (.iload_n 1, 1) := by decide +kernel
theorem dX7_setTarget_53 : decode cX7_setTarget 53 = .ok (.iadd, 1) := by decide +kernel
theorem dX7_setTarget_54 : decode cX7_setTarget 54 = .ok (.iload_n 2, 1) := by decide +kernel
theorem dX7_setTarget_55 : decode cX7_setTarget 55 = .ok (.iastore, 1) := by decide +kernel
theorem dX7_setTarget_56 : decode cX7_setTarget 56 = .ok (.iload_n 3, 1) := by decide +kernel
theorem dX7_setTarget_57 : decode cX7_setTarget 57 = .ok (.ireturn, 1) := by decide +kernel
theorem dX7_size_0 : decode cX7_size 0 = .ok (.bipush 36, 2) := by decide +kernel
theorem dX7_size_2 : decode cX7_size 2 = .ok (.aload_n 0, 1) := by decide +kernel
theorem dX7_size_3 : decode cX7_size 3 = .ok (.getfield 7, 3) := by decide +kernel
theorem dX7_size_6 : decode cX7_size 6 = .ok (.bipush 72, 2) := by decide +kernel
theorem dX7_size_8 : decode cX7_size 8 = .ok (.iaload, 1) := by decide +kernel
theorem dX7_size_9 : decode cX7_size 9 = .ok (.idiv, 1) := by decide +kernel
theorem dX7_size_10 : decode cX7_size 10 = .ok (.ireturn, 1) := by decide +kernel
theorem dX7_left_0 : decode cX7_left 0 = .ok (.aload_n 0, 1) := by decide +kernel
theorem dX7_left_1 : decode cX7_left 1 = .ok (.getfield 7, 3) := by decide +kernel
theorem dX7_left_4 : decode cX7_left 4 = .ok (.bipush 72, 2) := by decide +kernel
theorem dX7_left_6 : decode cX7_left 6 = .ok (.iaload, 1) := by decide +kernel
theorem dX7_left_7 : decode cX7_left 7 = .ok (.aload_n 0, 1) := by decide +kernel
theorem dX7_left_8 : decode cX7_left 8 = .ok (.getfield 7, 3) := by decide +kernel
theorem dX7_left_11 : decode cX7_left 11 = .ok (.bipush 77, 2) := by decide +kernel
theorem dX7_left_13 : decode cX7_left 13 = .ok (.iaload, 1) := by decide +kernel
theorem dX7_left_14 : decode cX7_left 14 = .ok (.isub, 1) := by decide +kernel
theorem dX7_left_15 : decode cX7_left 15 = .ok (.ireturn, 1) := by decide +kernel
theorem dX7_isOpen_0 : decode cX7_isOpen 0 = .ok (.aload_n 0, 1) := by decide +kernel
theorem dX7_isOpen_1 : decode cX7_isOpen 1 = .ok (.getfield 7, 3) := by decide +kernel
theorem dX7_isOpen_4 : decode cX7_isOpen 4 = .ok (.bipush 115, 2) := by decide +kernel
theorem dX7_isOpen_6 : decode cX7_isOpen 6 = .ok (.iload_n 1, 1) := by decide +kernel
theorem dX7_isOpen_7 : decode cX7_isOpen 7 = .ok (.iadd, 1) := by decide +kernel
theorem dX7_isOpen_8 : decode cX7_isOpen 8 = .ok (.iaload, 1) := by decide +kernel
theorem dX7_isOpen_9 : decode cX7_isOpen 9 = .ok (.ifCond .ge 7, 3) := by decide +kernel
theorem dX7_isOpen_12 : decode cX7_isOpen 12 = .ok (.iconst 1, 1) := by decide +kernel
theorem dX7_isOpen_13 : decode cX7_isOpen 13 = .ok (.goto 4, 3) := by decide +kernel
theorem dX7_isOpen_16 : decode cX7_isOpen 16 = .ok (.iconst 0, 1) := by decide +kernel
theorem dX7_isOpen_17 : decode cX7_isOpen 17 = .ok (.ireturn, 1) := by decide +kernel
theorem dX7_beside_0 : decode cX7_beside 0 = .ok (.iload_n 0, 1) := by decide +kernel
theorem dX7_beside_1 : decode cX7_beside 1 = .ok (.bipush 6, 2) := by decide +kernel
theorem dX7_beside_3 : decode cX7_beside 3 = .ok (.idiv, 1) := by decide +kernel
theorem dX7_beside_4 : decode cX7_beside 4 = .ok (.iload_n 1, 1) := by decide +kernel
theorem dX7_beside_5 : decode cX7_beside 5 = .ok (.ifCond .ne 7, 3) := by decide +kernel
theorem dX7_beside_8 : decode cX7_beside 8 = .ok (.iconst (-1), 1) := by decide +kernel
theorem dX7_beside_9 : decode cX7_beside 9 = .ok (.goto 13, 3) := by decide +kernel
theorem dX7_beside_12 : decode cX7_beside 12 = .ok (.iload_n 1, 1) := by decide +kernel
theorem dX7_beside_13 : decode cX7_beside 13 = .ok (.iconst 1, 1) := by decide +kernel
theorem dX7_beside_14 : decode cX7_beside 14 = .ok (.if_icmp .ne 7, 3) := by decide +kernel
theorem dX7_beside_17 : decode cX7_beside 17 = .ok (.iconst 1, 1) := by decide +kernel
theorem dX7_beside_18 : decode cX7_beside 18 = .ok (.goto 4, 3) := by decide +kernel
theorem dX7_beside_21 : decode cX7_beside 21 = .ok (.iconst 0, 1) := by decide +kernel
theorem dX7_beside_22 : decode cX7_beside 22 = .ok (.iadd, 1) := by decide +kernel
theorem dX7_beside_23 : decode cX7_beside 23 = .ok (.istore_n 2, 1) := by decide +kernel
theorem dX7_beside_24 : decode cX7_beside 24 = .ok (.iload_n 0, 1) := by decide +kernel
theorem dX7_beside_25 : decode cX7_beside 25 = .ok (.bipush 6, 2) := by decide +kernel
theorem dX7_beside_27 : decode cX7_beside 27 = .ok (.irem, 1) := by decide +kernel
theorem dX7_beside_28 : decode cX7_beside 28 = .ok (.iload_n 1, 1) := by decide +kernel
theorem dX7_beside_29 : decode cX7_beside 29 = .ok (.iconst 2, 1) := by decide +kernel
theorem dX7_beside_30 : decode cX7_beside 30 = .ok (.if_icmp .ne 7, 3) := by decide +kernel
theorem dX7_beside_33 : decode cX7_beside 33 = .ok (.iconst (-1), 1) := by decide +kernel
theorem dX7_beside_34 : decode cX7_beside 34 = .ok (.goto 13, 3) := by decide +kernel
theorem dX7_beside_37 : decode cX7_beside 37 = .ok (.iload_n 1, 1) := by decide +kernel
theorem dX7_beside_38 : decode cX7_beside 38 = .ok (.iconst 3, 1) := by decide +kernel
theorem dX7_beside_39 : decode cX7_beside 39 = .ok (.if_icmp .ne 7, 3) := by decide +kernel
theorem dX7_beside_42 : decode cX7_beside 42 = .ok (.iconst 1, 1) := by decide +kernel
theorem dX7_beside_43 : decode cX7_beside 43 = .ok (.goto 4, 3) := by decide +kernel
theorem dX7_beside_46 : decode cX7_beside 46 = .ok (.iconst 0, 1) := by decide +kernel
theorem dX7_beside_47 : decode cX7_beside 47 = .ok (.iadd, 1) := by decide +kernel
theorem dX7_beside_48 : decode cX7_beside 48 = .ok (.istore_n 3, 1) := by decide +kernel
theorem dX7_beside_49 : decode cX7_beside 49 = .ok (.iload_n 2, 1) := by decide +kernel
theorem dX7_beside_50 : decode cX7_beside 50 = .ok (.iconst 0, 1) := by decide +kernel
theorem dX7_beside_51 : decode cX7_beside 51 = .ok (.iconst 5, 1) := by decide +kernel
theorem dX7_beside_52 : decode cX7_beside 52 = .ok (.invokestatic 36, 3) := by decide +kernel
theorem dX7_beside_55 : decode cX7_beside 55 = .ok (.ifCond .eq 21, 3) := by decide +kernel
theorem dX7_beside_58 : decode cX7_beside 58 = .ok (.iload_n 3, 1) := by decide +kernel
theorem dX7_beside_59 : decode cX7_beside 59 = .ok (.iconst 0, 1) := by decide +kernel
theorem dX7_beside_60 : decode cX7_beside 60 = .ok (.iconst 5, 1) := by decide +kernel
theorem dX7_beside_61 : decode cX7_beside 61 = .ok (.invokestatic 36, 3) := by decide +kernel
theorem dX7_beside_64 : decode cX7_beside 64 = .ok (.ifCond .eq 12, 3) := by decide +kernel
theorem dX7_beside_67 : decode cX7_beside 67 = .ok (.bipush 6, 2) := by decide +kernel
theorem dX7_beside_69 : decode cX7_beside 69 = .ok (.iload_n 2, 1) := by decide +kernel
theorem dX7_beside_70 : decode cX7_beside 70 = .ok (.imul, 1) := by decide +kernel
theorem dX7_beside_71 : decode cX7_beside 71 = .ok (.iload_n 3, 1) := by decide +kernel
theorem dX7_beside_72 : decode cX7_beside 72 = .ok (.iadd, 1) := by decide +kernel
theorem dX7_beside_73 : decode cX7_beside 73 = .ok (.goto 4, 3) := by decide +kernel
theorem dX7_beside_76 : decode cX7_beside 76 = .ok (.iconst (-1), 1) := by decide +kernel
theorem dX7_beside_77 : decode cX7_beside 77 = .ok (.ireturn, 1) := by decide +kernel
theorem dX7_cells_0 : decode cX7_cells 0 = .ok (.iconst 0, 1) := by decide +kernel
theorem dX7_cells_1 : decode cX7_cells 1 = .ok (.istore_n 3, 1) := by decide +kernel
theorem dX7_cells_2 : decode cX7_cells 2 = .ok (.iconst 0, 1) := by decide +kernel
theorem dX7_cells_3 : decode cX7_cells 3 = .ok (.istore 4, 2) := by decide +kernel
theorem dX7_cells_5 : decode cX7_cells 5 = .ok (.iload 4, 2) := by decide +kernel
theorem dX7_cells_7 : decode cX7_cells 7 = .ok (.bipush 36, 2) := by decide +kernel
theorem dX7_cells_9 : decode cX7_cells 9 = .ok (.if_icmp .ge 30, 3) := by decide +kernel
theorem dX7_cells_12 : decode cX7_cells 12 = .ok (.iload_n 3, 1) := by decide +kernel
theorem dX7_cells_13 : decode cX7_cells 13 = .ok (.aload_n 0, 1) := by decide +kernel
theorem dX7_cells_14 : decode cX7_cells 14 = .ok (.getfield 7, 3) := by decide +kernel
theorem dX7_cells_17 : decode cX7_cells 17 = .ok (.iload_n 1, 1) := by decide +kernel
theorem dX7_cells_18 : decode cX7_cells 18 = .ok (.iload 4, 2) := by decide +kernel
theorem dX7_cells_20 : decode cX7_cells 20 = .ok (.iadd, 1) := by decide +kernel
theorem dX7_cells_21 : decode cX7_cells 21 = .ok (.iaload, 1) := by decide +kernel
theorem dX7_cells_22 : decode cX7_cells 22 = .ok (.iload_n 2, 1) := by decide +kernel
theorem dX7_cells_23 : decode cX7_cells 23 = .ok (.if_icmp .ne 7, 3) := by decide +kernel
theorem dX7_cells_26 : decode cX7_cells 26 = .ok (.iconst 1, 1) := by decide +kernel
theorem dX7_cells_27 : decode cX7_cells 27 = .ok (.goto 4, 3) := by decide +kernel
theorem dX7_cells_30 : decode cX7_cells 30 = .ok (.iconst 0, 1) := by decide +kernel
theorem dX7_cells_31 : decode cX7_cells 31 = .ok (.iadd, 1) := by decide +kernel
theorem dX7_cells_32 : decode cX7_cells 32 = .ok (.istore_n 3, 1) := by decide +kernel
theorem dX7_cells_33 : decode cX7_cells 33 = .ok (.iinc 4 1, 3) := by decide +kernel
theorem dX7_cells_36 : decode cX7_cells 36 = .ok (.goto (-31), 3) := by decide +kernel
theorem dX7_cells_39 : decode cX7_cells 39 = .ok (.iload_n 3, 1) := by decide +kernel
theorem dX7_cells_40 : decode cX7_cells 40 = .ok (.ireturn, 1) := by decide +kernel
theorem dX7_lowest_0 : decode cX7_lowest 0 = .ok (.iconst 0, 1) := by decide +kernel
theorem dX7_lowest_1 : decode cX7_lowest 1 = .ok (.istore_n 3, 1) := by decide +kernel
theorem dX7_lowest_2 : decode cX7_lowest 2 = .ok (.iload_n 3, 1) := by decide +kernel
theorem dX7_lowest_3 : decode cX7_lowest 3 = .ok (.bipush 36, 2) := by decide +kernel
theorem dX7_lowest_5 : decode cX7_lowest 5 = .ok (.if_icmp .ge 23, 3) := by decide +kernel
theorem dX7_lowest_8 : decode cX7_lowest 8 = .ok (.aload_n 0, 1) := by decide +kernel
theorem dX7_lowest_9 : decode cX7_lowest 9 = .ok (.getfield 7, 3) := by decide +kernel
theorem dX7_lowest_12 : decode cX7_lowest 12 = .ok (.iload_n 1, 1) := by decide +kernel
theorem dX7_lowest_13 : decode cX7_lowest 13 = .ok (.iload_n 3, 1) := by decide +kernel
theorem dX7_lowest_14 : decode cX7_lowest 14 = .ok (.iadd, 1) := by decide +kernel
theorem dX7_lowest_15 : decode cX7_lowest 15 = .ok (.iaload, 1) := by decide +kernel
theorem dX7_lowest_16 : decode cX7_lowest 16 = .ok (.iload_n 2, 1) := by decide +kernel
theorem dX7_lowest_17 : decode cX7_lowest 17 = .ok (.if_icmp .ne 5, 3) := by decide +kernel
theorem dX7_lowest_20 : decode cX7_lowest 20 = .ok (.iload_n 3, 1) := by decide +kernel
theorem dX7_lowest_21 : decode cX7_lowest 21 = .ok (.ireturn, 1) := by decide +kernel
theorem dX7_lowest_22 : decode cX7_lowest 22 = .ok (.iinc 3 1, 3) := by decide +kernel
theorem dX7_lowest_25 : decode cX7_lowest 25 = .ok (.goto (-23), 3) := by decide +kernel
theorem dX7_lowest_28 : decode cX7_lowest 28 = .ok (.bipush (-5), 2) := by decide +kernel
theorem dX7_lowest_30 : decode cX7_lowest 30 = .ok (.ireturn, 1) := by decide +kernel
theorem dX7_votes_0 : decode cX7_votes 0 = .ok (.iconst 0, 1) := by decide +kernel
theorem dX7_votes_1 : decode cX7_votes 1 = .ok (.istore 4, 2) := by decide +kernel
theorem dX7_votes_3 : decode cX7_votes 3 = .ok (.iconst 0, 1) := by decide +kernel
theorem dX7_votes_4 : decode cX7_votes 4 = .ok (.istore 5, 2) := by decide +kernel
theorem dX7_votes_6 : decode cX7_votes 6 = .ok (.iload 5, 2) := by decide +kernel
theorem dX7_votes_8 : decode cX7_votes 8 = .ok (.bipush 36, 2) := by decide +kernel
theorem dX7_votes_10 : decode cX7_votes 10 = .ok (.if_icmp .ge 42, 3) := by decide +kernel
theorem dX7_votes_13 : decode cX7_votes 13 = .ok (.iload 4, 2) := by decide +kernel
theorem dX7_votes_15 : decode cX7_votes 15 = .ok (.aload_n 0, 1) := by decide +kernel
theorem dX7_votes_16 : decode cX7_votes 16 = .ok (.getfield 7, 3) := by decide +kernel
theorem dX7_votes_19 : decode cX7_votes 19 = .ok (.iload_n 1, 1) := by decide +kernel
theorem dX7_votes_20 : decode cX7_votes 20 = .ok (.iload 5, 2) := by decide +kernel
theorem dX7_votes_22 : decode cX7_votes 22 = .ok (.iadd, 1) := by decide +kernel
theorem dX7_votes_23 : decode cX7_votes 23 = .ok (.iaload, 1) := by decide +kernel
theorem dX7_votes_24 : decode cX7_votes 24 = .ok (.iload_n 2, 1) := by decide +kernel
theorem dX7_votes_25 : decode cX7_votes 25 = .ok (.if_icmp .ne 17, 3) := by decide +kernel
theorem dX7_votes_28 : decode cX7_votes 28 = .ok (.aload_n 0, 1) := by decide +kernel
theorem dX7_votes_29 : decode cX7_votes 29 = .ok (.getfield 7, 3) := by decide +kernel
theorem dX7_votes_32 : decode cX7_votes 32 = .ok (.iconst 2, 1) := by decide +kernel
theorem dX7_votes_33 : decode cX7_votes 33 = .ok (.iload 5, 2) := by decide +kernel
theorem dX7_votes_35 : decode cX7_votes 35 = .ok (.imul, 1) := by decide +kernel
theorem dX7_votes_36 : decode cX7_votes 36 = .ok (.iload_n 3, 1) := by decide +kernel
theorem dX7_votes_37 : decode cX7_votes 37 = .ok (.iadd, 1) := by decide +kernel
theorem dX7_votes_38 : decode cX7_votes 38 = .ok (.iaload, 1) := by decide +kernel
theorem dX7_votes_39 : decode cX7_votes 39 = .ok (.goto 4, 3) := by decide +kernel
theorem dX7_votes_42 : decode cX7_votes 42 = .ok (.iconst 0, 1) := by decide +kernel
theorem dX7_votes_43 : decode cX7_votes 43 = .ok (.iadd, 1) := by decide +kernel
theorem dX7_votes_44 : decode cX7_votes 44 = .ok (.istore 4, 2) := by decide +kernel
theorem dX7_votes_46 : decode cX7_votes 46 = .ok (.iinc 5 1, 3) := by decide +kernel
theorem dX7_votes_49 : decode cX7_votes 49 = .ok (.goto (-43), 3) := by decide +kernel
theorem dX7_votes_52 : decode cX7_votes 52 = .ok (.iload 4, 2) := by decide +kernel
theorem dX7_votes_54 : decode cX7_votes 54 = .ok (.ireturn, 1) := by decide +kernel
theorem dX7_margin_0 : decode cX7_margin 0 = .ok (.aload_n 0, 1) := by decide +kernel
theorem dX7_margin_1 : decode cX7_margin 1 = .ok (.iload_n 1, 1) := by decide +kernel
theorem dX7_margin_2 : decode cX7_margin 2 = .ok (.iload_n 2, 1) := by decide +kernel
theorem dX7_margin_3 : decode cX7_margin 3 = .ok (.iconst 0, 1) := by decide +kernel
theorem dX7_margin_4 : decode cX7_margin 4 = .ok (.invokevirtual 59, 3) := by decide +kernel
theorem dX7_margin_7 : decode cX7_margin 7 = .ok (.aload_n 0, 1) := by decide +kernel
theorem dX7_margin_8 : decode cX7_margin 8 = .ok (.iload_n 1, 1) := by decide +kernel
theorem dX7_margin_9 : decode cX7_margin 9 = .ok (.iload_n 2, 1) := by decide +kernel
theorem dX7_margin_10 : decode cX7_margin 10 = .ok (.iconst 1, 1) := by decide +kernel
theorem dX7_margin_11 : decode cX7_margin 11 = .ok (.invokevirtual 59, 3) := by decide +kernel
theorem dX7_margin_14 : decode cX7_margin 14 = .ok (.isub, 1) := by decide +kernel
theorem dX7_margin_15 : decode cX7_margin 15 = .ok (.ireturn, 1) := by decide +kernel
theorem dX7_winner_0 : decode cX7_winner 0 = .ok (.aload_n 0, 1) := by decide +kernel
theorem dX7_winner_1 : decode cX7_winner 1 = .ok (.iload_n 1, 1) := by decide +kernel
theorem dX7_winner_2 : decode cX7_winner 2 = .ok (.iload_n 2, 1) := by decide +kernel
theorem dX7_winner_3 : decode cX7_winner 3 = .ok (.invokevirtual 63, 3) := by decide +kernel
theorem dX7_winner_6 : decode cX7_winner 6 = .ok (.istore_n 3, 1) := by decide +kernel
theorem dX7_winner_7 : decode cX7_winner 7 = .ok (.iload_n 3, 1) := by decide +kernel
theorem dX7_winner_8 : decode cX7_winner 8 = .ok (.ifCond .le 7, 3) := by decide +kernel
theorem dX7_winner_11 : decode cX7_winner 11 = .ok (.iconst 0, 1) := by decide +kernel
theorem dX7_winner_12 : decode cX7_winner 12 = .ok (.goto 12, 3) := by decide +kernel
theorem dX7_winner_15 : decode cX7_winner 15 = .ok (.iload_n 3, 1) := by decide +kernel
theorem dX7_winner_16 : decode cX7_winner 16 = .ok (.ifCond .ge 7, 3) := by decide +kernel
theorem dX7_winner_19 : decode cX7_winner 19 = .ok (.iconst 1, 1) := by decide +kernel
theorem dX7_winner_20 : decode cX7_winner 20 = .ok (.goto 4, 3) := by decide +kernel
theorem dX7_winner_23 : decode cX7_winner 23 = .ok (.iconst 2, 1) := by decide +kernel
theorem dX7_winner_24 : decode cX7_winner 24 = .ok (.ireturn, 1) := by decide +kernel
theorem dX7_borders_0 : decode cX7_borders 0 = .ok (.iconst 0, 1) := by decide +kernel
theorem dX7_borders_1 : decode cX7_borders 1 = .ok (.istore_n 3, 1) := by decide +kernel
theorem dX7_borders_2 : decode cX7_borders 2 = .ok (.iconst 0, 1) := by decide +kernel
theorem dX7_borders_3 : decode cX7_borders 3 = .ok (.istore 4, 2) := by decide +kernel
theorem dX7_borders_5 : decode cX7_borders 5 = .ok (.iload 4, 2) := by decide +kernel
theorem dX7_borders_7 : decode cX7_borders 7 = .ok (.bipush 36, 2) := by decide +kernel
theorem dX7_borders_9 : decode cX7_borders 9 = .ok (.if_icmp .ge 72, 3) := by decide +kernel
theorem dX7_borders_12 : decode cX7_borders 12 = .ok (.aload_n 0, 1) := by decide +kernel
theorem dX7_borders_13 : decode cX7_borders 13 = .ok (.getfield 7, 3) := by decide +kernel
theorem dX7_borders_16 : decode cX7_borders 16 = .ok (.iload_n 1, 1) := by decide +kernel
theorem dX7_borders_17 : decode cX7_borders 17 = .ok (.iload 4, 2) := by decide +kernel
theorem dX7_borders_19 : decode cX7_borders 19 = .ok (.iadd, 1) := by decide +kernel
theorem dX7_borders_20 : decode cX7_borders 20 = .ok (.iaload, 1) := by decide +kernel
theorem dX7_borders_21 : decode cX7_borders 21 = .ok (.iload_n 2, 1) := by decide +kernel
theorem dX7_borders_22 : decode cX7_borders 22 = .ok (.if_icmp .ne 53, 3) := by decide +kernel
theorem dX7_borders_25 : decode cX7_borders 25 = .ok (.iconst 0, 1) := by decide +kernel
theorem dX7_borders_26 : decode cX7_borders 26 = .ok (.istore 5, 2) := by decide +kernel
theorem dX7_borders_28 : decode cX7_borders 28 = .ok (.iload 5, 2) := by decide +kernel
theorem dX7_borders_30 : decode cX7_borders 30 = .ok (.iconst 4, 1) := by decide +kernel
theorem dX7_borders_31 : decode cX7_borders 31 = .ok (.if_icmp .ge 44, 3) := by decide +kernel
theorem dX7_borders_34 : decode cX7_borders 34 = .ok (.iload 4, 2) := by decide +kernel
theorem dX7_borders_36 : decode cX7_borders 36 = .ok (.iload 5, 2) := by decide +kernel
theorem dX7_borders_38 : decode cX7_borders 38 = .ok (.invokestatic 67, 3) := by decide +kernel
theorem dX7_borders_41 : decode cX7_borders 41 = .ok (.istore 6, 2) := by decide +kernel
theorem dX7_borders_43 : decode cX7_borders 43 = .ok (.iload_n 3, 1) := by decide +kernel
theorem dX7_borders_44 : decode cX7_borders 44 = .ok (.iload 6, 2) := by decide +kernel
theorem dX7_borders_46 : decode cX7_borders 46 = .ok (.ifCond .lt 16, 3) := by decide +kernel
theorem dX7_borders_49 : decode cX7_borders 49 = .ok (.aload_n 0, 1) := by decide +kernel
theorem dX7_borders_50 : decode cX7_borders 50 = .ok (.getfield 7, 3) := by decide +kernel
theorem dX7_borders_53 : decode cX7_borders 53 = .ok (.iload_n 1, 1) := by decide +kernel
theorem dX7_borders_54 : decode cX7_borders 54 = .ok (.iload 6, 2) := by decide +kernel
theorem dX7_borders_56 : decode cX7_borders 56 = .ok (.iadd, 1) := by decide +kernel
theorem dX7_borders_57 : decode cX7_borders 57 = .ok (.iaload, 1) := by decide +kernel
theorem dX7_borders_58 : decode cX7_borders 58 = .ok (.iload_n 2, 1) := by decide +kernel
theorem dX7_borders_59 : decode cX7_borders 59 = .ok (.if_icmp .eq 7, 3) := by decide +kernel
theorem dX7_borders_62 : decode cX7_borders 62 = .ok (.iconst 1, 1) := by decide +kernel
theorem dX7_borders_63 : decode cX7_borders 63 = .ok (.goto 4, 3) := by decide +kernel
theorem dX7_borders_66 : decode cX7_borders 66 = .ok (.iconst 0, 1) := by decide +kernel
theorem dX7_borders_67 : decode cX7_borders 67 = .ok (.iadd, 1) := by decide +kernel
theorem dX7_borders_68 : decode cX7_borders 68 = .ok (.istore_n 3, 1) := by decide +kernel
theorem dX7_borders_69 : decode cX7_borders 69 = .ok (.iinc 5 1, 3) := by decide +kernel
theorem dX7_borders_72 : decode cX7_borders 72 = .ok (.goto (-44), 3) := by decide +kernel
theorem dX7_borders_75 : decode cX7_borders 75 = .ok (.iinc 4 1, 3) := by decide +kernel
theorem dX7_borders_78 : decode cX7_borders 78 = .ok (.goto (-73), 3) := by decide +kernel
theorem dX7_borders_81 : decode cX7_borders 81 = .ok (.iload_n 3, 1) := by decide +kernel
theorem dX7_borders_82 : decode cX7_borders 82 = .ok (.ireturn, 1) := by decide +kernel
theorem dX7_pieces_0 : decode cX7_pieces 0 = .ok (.iconst 0, 1) := by decide +kernel
theorem dX7_pieces_1 : decode cX7_pieces 1 = .ok (.istore_n 2, 1) := by decide +kernel
theorem dX7_pieces_2 : decode cX7_pieces 2 = .ok (.iload_n 2, 1) := by decide +kernel
theorem dX7_pieces_3 : decode cX7_pieces 3 = .ok (.bipush 36, 2) := by decide +kernel
theorem dX7_pieces_5 : decode cX7_pieces 5 = .ok (.if_icmp .ge 16, 3) := by decide +kernel
theorem dX7_pieces_8 : decode cX7_pieces 8 = .ok (.aload_n 0, 1) := by decide +kernel
theorem dX7_pieces_9 : decode cX7_pieces 9 = .ok (.getfield 29, 3) := by decide +kernel
theorem dX7_pieces_12 : decode cX7_pieces 12 = .ok (.iload_n 2, 1) := by decide +kernel
theorem dX7_pieces_13 : decode cX7_pieces 13 = .ok (.iconst 0, 1) := by decide +kernel
theorem dX7_pieces_14 : decode cX7_pieces 14 = .ok (.bastore, 1) := by decide +kernel
theorem dX7_pieces_15 : decode cX7_pieces 15 = .ok (.iinc 2 1, 3) := by decide +kernel
theorem dX7_pieces_18 : decode cX7_pieces 18 = .ok (.goto (-16), 3) := by decide +kernel
theorem dX7_pieces_21 : decode cX7_pieces 21 = .ok (.iconst 0, 1) := by decide +kernel
theorem dX7_pieces_22 : decode cX7_pieces 22 = .ok (.istore_n 2, 1) := by decide +kernel
theorem dX7_pieces_23 : decode cX7_pieces 23 = .ok (.iconst 0, 1) := by decide +kernel
theorem dX7_pieces_24 : decode cX7_pieces 24 = .ok (.istore_n 3, 1) := by decide +kernel
theorem dX7_pieces_25 : decode cX7_pieces 25 = .ok (.iload_n 3, 1) := by decide +kernel
theorem dX7_pieces_26 : decode cX7_pieces 26 = .ok (.bipush 36, 2) := by decide +kernel
theorem dX7_pieces_28 : decode cX7_pieces 28 = .ok (.if_icmp .ge 46, 3) := by decide +kernel
theorem dX7_pieces_31 : decode cX7_pieces 31 = .ok (.aload_n 0, 1) := by decide +kernel
theorem dX7_pieces_32 : decode cX7_pieces 32 = .ok (.getfield 7, 3) := by decide +kernel
theorem dX7_pieces_35 : decode cX7_pieces 35 = .ok (.bipush 79, 2) := by decide +kernel
theorem dX7_pieces_37 : decode cX7_pieces 37 = .ok (.iload_n 3, 1) := by decide +kernel
theorem dX7_pieces_38 : decode cX7_pieces 38 = .ok (.iadd, 1) := by decide +kernel
theorem dX7_pieces_39 : decode cX7_pieces 39 = .ok (.iaload, 1) := by decide +kernel
theorem dX7_pieces_40 : decode cX7_pieces 40 = .ok (.iload_n 1, 1) := by decide +kernel
theorem dX7_pieces_41 : decode cX7_pieces 41 = .ok (.if_icmp .ne 27, 3) := by decide +kernel
theorem dX7_pieces_44 : decode cX7_pieces 44 = .ok (.aload_n 0, 1) := by decide +kernel
theorem dX7_pieces_45 : decode cX7_pieces 45 = .ok (.getfield 29, 3) := by decide +kernel
theorem dX7_pieces_48 : decode cX7_pieces 48 = .ok (.iload_n 3, 1) := by decide +kernel
theorem dX7_pieces_49 : decode cX7_pieces 49 = .ok (.baload, 1) := by decide +kernel
theorem dX7_pieces_50 : decode cX7_pieces 50 = .ok (.ifCond .ne 18, 3) := by decide +kernel
theorem dX7_pieces_53 : decode cX7_pieces 53 = .ok (.iinc 2 1, 3) := by decide +kernel
theorem dX7_pieces_56 : decode cX7_pieces 56 = .ok (.aload_n 0, 1) := by decide +kernel
theorem dX7_pieces_57 : decode cX7_pieces 57 = .ok (.getfield 29, 3) := by decide +kernel
theorem dX7_pieces_60 : decode cX7_pieces 60 = .ok (.iload_n 3, 1) := by decide +kernel
theorem dX7_pieces_61 : decode cX7_pieces 61 = .ok (.iconst 1, 1) := by decide +kernel
theorem dX7_pieces_62 : decode cX7_pieces 62 = .ok (.bastore, 1) := by decide +kernel
theorem dX7_pieces_63 : decode cX7_pieces 63 = .ok (.aload_n 0, 1) := by decide +kernel
theorem dX7_pieces_64 : decode cX7_pieces 64 = .ok (.iload_n 1, 1) := by decide +kernel
theorem dX7_pieces_65 : decode cX7_pieces 65 = .ok (.invokevirtual 70, 3) := by decide +kernel
theorem dX7_pieces_68 : decode cX7_pieces 68 = .ok (.iinc 3 1, 3) := by decide +kernel
theorem dX7_pieces_71 : decode cX7_pieces 71 = .ok (.goto (-46), 3) := by decide +kernel
theorem dX7_pieces_74 : decode cX7_pieces 74 = .ok (.iload_n 2, 1) := by decide +kernel
theorem dX7_pieces_75 : decode cX7_pieces 75 = .ok (.ireturn, 1) := by decide +kernel
theorem dX7_spread_0 : decode cX7_spread 0 = .ok (.iconst 1, 1) := by decide +kernel
theorem dX7_spread_1 : decode cX7_spread 1 = .ok (.istore_n 2, 1) := by decide +kernel
theorem dX7_spread_2 : decode cX7_spread 2 = .ok (.iload_n 2, 1) := by decide +kernel
theorem dX7_spread_3 : decode cX7_spread 3 = .ok (.ifCond .eq 106, 3) := by decide +kernel
theorem dX7_spread_6 : decode cX7_spread 6 = .ok (.iconst 0, 1) := by decide +kernel
theorem dX7_spread_7 : decode cX7_spread 7 = .ok (.istore_n 2, 1) := by decide +kernel
theorem dX7_spread_8 : decode cX7_spread 8 = .ok (.iconst 0, 1) := by decide +kernel
theorem dX7_spread_9 : decode cX7_spread 9 = .ok (.istore_n 3, 1) := by decide +kernel
theorem dX7_spread_10 : decode cX7_spread 10 = .ok (.iload_n 3, 1) := by decide +kernel
theorem dX7_spread_11 : decode cX7_spread 11 = .ok (.bipush 36, 2) := by decide +kernel
theorem dX7_spread_13 : decode cX7_spread 13 = .ok (.if_icmp .ge 93, 3) := by decide +kernel
theorem dX7_spread_16 : decode cX7_spread 16 = .ok (.iconst 0, 1) := by decide +kernel
theorem dX7_spread_17 : decode cX7_spread 17 = .ok (.istore 4, 2) := by decide +kernel
theorem dX7_spread_19 : decode cX7_spread 19 = .ok (.iload 4, 2) := by decide +kernel
theorem dX7_spread_21 : decode cX7_spread 21 = .ok (.iconst 4, 1) := by decide +kernel
theorem dX7_spread_22 : decode cX7_spread 22 = .ok (.if_icmp .ge 78, 3) := by decide +kernel
theorem dX7_spread_25 : decode cX7_spread 25 = .ok (.aload_n 0, 1) := by decide +kernel
theorem dX7_spread_26 : decode cX7_spread 26 = .ok (.getfield 29, 3) := by decide +kernel
theorem dX7_spread_29 : decode cX7_spread 29 = .ok (.iload_n 3, 1) := by decide +kernel
theorem dX7_spread_30 : decode cX7_spread 30 = .ok (.baload, 1) := by decide +kernel
theorem dX7_spread_31 : decode cX7_spread 31 = .ok (.ifCond .eq 69, 3) := by decide +kernel
theorem dX7_spread_34 : decode cX7_spread 34 = .ok (.iload_n 3, 1) := by decide +kernel
theorem dX7_spread_35 : decode cX7_spread 35 = .ok (.iload 4, 2) := by decide +kernel
theorem dX7_spread_37 : decode cX7_spread 37 = .ok (.invokestatic 67, 3) := by decide +kernel
theorem dX7_spread_40 : decode cX7_spread 40 = .ok (.istore 5, 2) := by decide +kernel
theorem dX7_spread_42 : decode cX7_spread 42 = .ok (.iload 5, 2) := by decide +kernel
theorem dX7_spread_44 : decode cX7_spread 44 = .ok (.ifCond .lt 50, 3) := by decide +kernel
theorem dX7_spread_47 : decode cX7_spread 47 = .ok (.aload_n 0, 1) := by decide +kernel
theorem dX7_spread_48 : decode cX7_spread 48 = .ok (.getfield 7, 3) := by decide +kernel
theorem dX7_spread_51 : decode cX7_spread 51 = .ok (.bipush 79, 2) := by decide +kernel
theorem dX7_spread_53 : decode cX7_spread 53 = .ok (.iload 5, 2) := by decide +kernel
theorem dX7_spread_55 : decode cX7_spread 55 = .ok (.iadd, 1) := by decide +kernel
theorem dX7_spread_56 : decode cX7_spread 56 = .ok (.iaload, 1) := by decide +kernel
theorem dX7_spread_57 : decode cX7_spread 57 = .ok (.iload_n 1, 1) := by decide +kernel
theorem dX7_spread_58 : decode cX7_spread 58 = .ok (.if_icmp .ne 36, 3) := by decide +kernel
theorem dX7_spread_61 : decode cX7_spread 61 = .ok (.aload_n 0, 1) := by decide +kernel
theorem dX7_spread_62 : decode cX7_spread 62 = .ok (.getfield 7, 3) := by decide +kernel
theorem dX7_spread_65 : decode cX7_spread 65 = .ok (.bipush 79, 2) := by decide +kernel
theorem dX7_spread_67 : decode cX7_spread 67 = .ok (.iload_n 3, 1) := by decide +kernel
theorem dX7_spread_68 : decode cX7_spread 68 = .ok (.iadd, 1) := by decide +kernel
theorem dX7_spread_69 : decode cX7_spread 69 = .ok (.iaload, 1) := by decide +kernel
theorem dX7_spread_70 : decode cX7_spread 70 = .ok (.iload_n 1, 1) := by decide +kernel
theorem dX7_spread_71 : decode cX7_spread 71 = .ok (.if_icmp .ne 23, 3) := by decide +kernel
theorem dX7_spread_74 : decode cX7_spread 74 = .ok (.aload_n 0, 1) := by decide +kernel
theorem dX7_spread_75 : decode cX7_spread 75 = .ok (.getfield 29, 3) := by decide +kernel
theorem dX7_spread_78 : decode cX7_spread 78 = .ok (.iload 5, 2) := by decide +kernel
theorem dX7_spread_80 : decode cX7_spread 80 = .ok (.baload, 1) := by decide +kernel
theorem dX7_spread_81 : decode cX7_spread 81 = .ok (.ifCond .ne 13, 3) := by decide +kernel
theorem dX7_spread_84 : decode cX7_spread 84 = .ok (.aload_n 0, 1) := by decide +kernel
theorem dX7_spread_85 : decode cX7_spread 85 = .ok (.getfield 29, 3) := by decide +kernel
theorem dX7_spread_88 : decode cX7_spread 88 = .ok (.iload 5, 2) := by decide +kernel
theorem dX7_spread_90 : decode cX7_spread 90 = .ok (.iconst 1, 1) := by decide +kernel
theorem dX7_spread_91 : decode cX7_spread 91 = .ok (.bastore, 1) := by decide +kernel
theorem dX7_spread_92 : decode cX7_spread 92 = .ok (.iconst 1, 1) := by decide +kernel
theorem dX7_spread_93 : decode cX7_spread 93 = .ok (.istore_n 2, 1) := by decide +kernel
theorem dX7_spread_94 : decode cX7_spread 94 = .ok (.iinc 4 1, 3) := by decide +kernel
theorem dX7_spread_97 : decode cX7_spread 97 = .ok (.goto (-78), 3) := by decide +kernel
theorem dX7_spread_100 : decode cX7_spread 100 = .ok (.iinc 3 1, 3) := by decide +kernel
theorem dX7_spread_103 : decode cX7_spread 103 = .ok (.goto (-93), 3) := by decide +kernel
theorem dX7_spread_106 : decode cX7_spread 106 = .ok (.goto (-104), 3) := by decide +kernel
theorem dX7_spread_109 : decode cX7_spread 109 = .ok (.return_, 1) := by decide +kernel
theorem dX7_reason_0 : decode cX7_reason 0 = .ok (.iconst 0, 1) := by decide +kernel
theorem dX7_reason_1 : decode cX7_reason 1 = .ok (.istore_n 1, 1) := by decide +kernel
theorem dX7_reason_2 : decode cX7_reason 2 = .ok (.iload_n 1, 1) := by decide +kernel
theorem dX7_reason_3 : decode cX7_reason 3 = .ok (.bipush 36, 2) := by decide +kernel
theorem dX7_reason_5 : decode cX7_reason 5 = .ok (.if_icmp .ge 36, 3) := by decide +kernel
theorem dX7_reason_8 : decode cX7_reason 8 = .ok (.aload_n 0, 1) := by decide +kernel
theorem dX7_reason_9 : decode cX7_reason 9 = .ok (.iload_n 1, 1) := by decide +kernel
theorem dX7_reason_10 : decode cX7_reason 10 = .ok (.invokevirtual 74, 3) := by decide +kernel
theorem dX7_reason_13 : decode cX7_reason 13 = .ok (.ifCond .eq 22, 3) := by decide +kernel
theorem dX7_reason_16 : decode cX7_reason 16 = .ok (.aload_n 0, 1) := by decide +kernel
theorem dX7_reason_17 : decode cX7_reason 17 = .ok (.getfield 7, 3) := by decide +kernel
theorem dX7_reason_20 : decode cX7_reason 20 = .ok (.bipush 79, 2) := by decide +kernel
theorem dX7_reason_22 : decode cX7_reason 22 = .ok (.iload_n 1, 1) := by decide +kernel
theorem dX7_reason_23 : decode cX7_reason 23 = .ok (.iadd, 1) := by decide +kernel
theorem dX7_reason_24 : decode cX7_reason 24 = .ok (.iaload, 1) := by decide +kernel
theorem dX7_reason_25 : decode cX7_reason 25 = .ok (.ifCond .ge 10, 3) := by decide +kernel
theorem dX7_reason_28 : decode cX7_reason 28 = .ok (.bipush 10, 2) := by decide +kernel
theorem dX7_reason_30 : decode cX7_reason 30 = .ok (.iload_n 1, 1) := by decide +kernel
theorem dX7_reason_31 : decode cX7_reason 31 = .ok (.imul, 1) := by decide +kernel
theorem dX7_reason_32 : decode cX7_reason 32 = .ok (.iconst 1, 1) := by decide +kernel
theorem dX7_reason_33 : decode cX7_reason 33 = .ok (.iadd, 1) := by decide +kernel
theorem dX7_reason_34 : decode cX7_reason 34 = .ok (.ireturn, 1) := by decide +kernel
theorem dX7_reason_35 : decode cX7_reason 35 = .ok (.iinc 1 1, 3) := by decide +kernel
theorem dX7_reason_38 : decode cX7_reason 38 = .ok (.goto (-36), 3) := by decide +kernel
theorem dX7_reason_41 : decode cX7_reason 41 = .ok (.iconst 0, 1) := by decide +kernel
theorem dX7_reason_42 : decode cX7_reason 42 = .ok (.istore_n 1, 1) := by decide +kernel
theorem dX7_reason_43 : decode cX7_reason 43 = .ok (.iload_n 1, 1) := by decide +kernel
theorem dX7_reason_44 : decode cX7_reason 44 = .ok (.aload_n 0, 1) := by decide +kernel
theorem dX7_reason_45 : decode cX7_reason 45 = .ok (.invokevirtual 77, 3) := by decide +kernel
theorem dX7_reason_48 : decode cX7_reason 48 = .ok (.if_icmp .ge 30, 3) := by decide +kernel
theorem dX7_reason_51 : decode cX7_reason 51 = .ok (.aload_n 0, 1) := by decide +kernel
theorem dX7_reason_52 : decode cX7_reason 52 = .ok (.bipush 79, 2) := by decide +kernel
theorem dX7_reason_54 : decode cX7_reason 54 = .ok (.iload_n 1, 1) := by decide +kernel
theorem dX7_reason_55 : decode cX7_reason 55 = .ok (.invokevirtual 80, 3) := by decide +kernel
theorem dX7_reason_58 : decode cX7_reason 58 = .ok (.aload_n 0, 1) := by decide +kernel
theorem dX7_reason_59 : decode cX7_reason 59 = .ok (.invokevirtual 55, 3) := by decide +kernel
theorem dX7_reason_62 : decode cX7_reason 62 = .ok (.if_icmp .eq 10, 3) := by decide +kernel
theorem dX7_reason_65 : decode cX7_reason 65 = .ok (.bipush 10, 2) := by decide +kernel
theorem dX7_reason_67 : decode cX7_reason 67 = .ok (.iload_n 1, 1) := by decide +kernel
theorem dX7_reason_68 : decode cX7_reason 68 = .ok (.imul, 1) := by decide +kernel
theorem dX7_reason_69 : decode cX7_reason 69 = .ok (.iconst 2, 1) := by decide +kernel
theorem dX7_reason_70 : decode cX7_reason 70 = .ok (.iadd, 1) := by decide +kernel
theorem dX7_reason_71 : decode cX7_reason 71 = .ok (.ireturn, 1) := by decide +kernel
theorem dX7_reason_72 : decode cX7_reason 72 = .ok (.iinc 1 1, 3) := by decide +kernel
theorem dX7_reason_75 : decode cX7_reason 75 = .ok (.goto (-32), 3) := by decide +kernel
theorem dX7_reason_78 : decode cX7_reason 78 = .ok (.iconst 0, 1) := by decide +kernel
theorem dX7_reason_79 : decode cX7_reason 79 = .ok (.istore_n 1, 1) := by decide +kernel
theorem dX7_reason_80 : decode cX7_reason 80 = .ok (.iload_n 1, 1) := by decide +kernel
theorem dX7_reason_81 : decode cX7_reason 81 = .ok (.aload_n 0, 1) := by decide +kernel
theorem dX7_reason_82 : decode cX7_reason 82 = .ok (.invokevirtual 77, 3) := by decide +kernel
theorem dX7_reason_85 : decode cX7_reason 85 = .ok (.if_icmp .ge 25, 3) := by decide +kernel
theorem dX7_reason_88 : decode cX7_reason 88 = .ok (.aload_n 0, 1) := by decide +kernel
theorem dX7_reason_89 : decode cX7_reason 89 = .ok (.iload_n 1, 1) := by decide +kernel
theorem dX7_reason_90 : decode cX7_reason 90 = .ok (.invokevirtual 83, 3) := by decide +kernel
theorem dX7_reason_93 : decode cX7_reason 93 = .ok (.iconst 1, 1) := by decide +kernel
theorem dX7_reason_94 : decode cX7_reason 94 = .ok (.if_icmp .eq 10, 3) := by decide +kernel
theorem dX7_reason_97 : decode cX7_reason 97 = .ok (.bipush 10, 2) := by decide +kernel
theorem dX7_reason_99 : decode cX7_reason 99 = .ok (.iload_n 1, 1) := by decide +kernel
theorem dX7_reason_100 : decode cX7_reason 100 = .ok (.imul, 1) := by decide +kernel
theorem dX7_reason_101 : decode cX7_reason 101 = .ok (.iconst 3, 1) := by decide +kernel
theorem dX7_reason_102 : decode cX7_reason 102 = .ok (.iadd, 1) := by decide +kernel
theorem dX7_reason_103 : decode cX7_reason 103 = .ok (.ireturn, 1) := by decide +kernel
theorem dX7_reason_104 : decode cX7_reason 104 = .ok (.iinc 1 1, 3) := by decide +kernel
theorem dX7_reason_107 : decode cX7_reason 107 = .ok (.goto (-27), 3) := by decide +kernel
theorem dX7_reason_110 : decode cX7_reason 110 = .ok (.iconst 0, 1) := by decide +kernel
theorem dX7_reason_111 : decode cX7_reason 111 = .ok (.ireturn, 1) := by decide +kernel
theorem dX7_noDraft_0 : decode cX7_noDraft 0 = .ok (.aload_n 0, 1) := by decide +kernel
theorem dX7_noDraft_1 : decode cX7_noDraft 1 = .ok (.getfield 7, 3) := by decide +kernel
theorem dX7_noDraft_4 : decode cX7_noDraft 4 = .ok (.bipush 75, 2) := by decide +kernel
theorem dX7_noDraft_6 : decode cX7_noDraft 6 = .ok (.iaload, 1) := by decide +kernel
theorem dX7_noDraft_7 : decode cX7_noDraft 7 = .ok (.ifCond .eq 7, 3) := by decide +kernel
theorem dX7_noDraft_10 : decode cX7_noDraft 10 = .ok (.iconst 1, 1) := by decide +kernel
theorem dX7_noDraft_11 : decode cX7_noDraft 11 = .ok (.goto 4, 3) := by decide +kernel
theorem dX7_noDraft_14 : decode cX7_noDraft 14 = .ok (.iconst 0, 1) := by decide +kernel
theorem dX7_noDraft_15 : decode cX7_noDraft 15 = .ok (.ireturn, 1) := by decide +kernel
theorem dX7_draft_0 : decode cX7_draft 0 = .ok (.iload_n 1, 1) := by decide +kernel
theorem dX7_draft_1 : decode cX7_draft 1 = .ok (.invokestatic 51, 3) := by decide +kernel
theorem dX7_draft_4 : decode cX7_draft 4 = .ok (.ifCond .eq 5, 3) := by decide +kernel
theorem dX7_draft_7 : decode cX7_draft 7 = .ok (.iconst (-1), 1) := by decide +kernel
theorem dX7_draft_8 : decode cX7_draft 8 = .ok (.ireturn, 1) := by decide +kernel
theorem dX7_draft_9 : decode cX7_draft 9 = .ok (.aload_n 0, 1) := by decide +kernel
theorem dX7_draft_10 : decode cX7_draft 10 = .ok (.iload_n 1, 1) := by decide +kernel
theorem dX7_draft_11 : decode cX7_draft 11 = .ok (.invokevirtual 74, 3) := by decide +kernel
theorem dX7_draft_14 : decode cX7_draft 14 = .ok (.ifCond .eq 10, 3) := by decide +kernel
theorem dX7_draft_17 : decode cX7_draft 17 = .ok (.aload_n 0, 1) := by decide +kernel
theorem dX7_draft_18 : decode cX7_draft 18 = .ok (.invokevirtual 87, 3) := by decide +kernel
theorem dX7_draft_21 : decode cX7_draft 21 = .ok (.ifCond .eq 6, 3) := by decide +kernel
theorem dX7_draft_24 : decode cX7_draft 24 = .ok (.bipush (-4), 2) := by decide +kernel
theorem dX7_draft_26 : decode cX7_draft 26 = .ok (.ireturn, 1) := by decide +kernel
theorem dX7_draft_27 : decode cX7_draft 27 = .ok (.iload_n 2, 1) := by decide +kernel
theorem dX7_draft_28 : decode cX7_draft 28 = .ok (.iconst (-1), 1) := by decide +kernel
theorem dX7_draft_29 : decode cX7_draft 29 = .ok (.aload_n 0, 1) := by decide +kernel
theorem dX7_draft_30 : decode cX7_draft 30 = .ok (.invokevirtual 77, 3) := by decide +kernel
theorem dX7_draft_33 : decode cX7_draft 33 = .ok (.iconst 1, 1) := by decide +kernel
theorem dX7_draft_34 : decode cX7_draft 34 = .ok (.isub, 1) := by decide +kernel
theorem dX7_draft_35 : decode cX7_draft 35 = .ok (.invokestatic 36, 3) := by decide +kernel
theorem dX7_draft_38 : decode cX7_draft 38 = .ok (.ifCond .ne 6, 3) := by decide +kernel
theorem dX7_draft_41 : decode cX7_draft 41 = .ok (.bipush (-2), 2) := by decide +kernel
theorem dX7_draft_43 : decode cX7_draft 43 = .ok (.ireturn, 1) := by decide +kernel
theorem dX7_draft_44 : decode cX7_draft 44 = .ok (.aload_n 0, 1) := by decide +kernel
theorem dX7_draft_45 : decode cX7_draft 45 = .ok (.getfield 7, 3) := by decide +kernel
theorem dX7_draft_48 : decode cX7_draft 48 = .ok (.bipush 79, 2) := by decide +kernel
theorem dX7_draft_50 : decode cX7_draft 50 = .ok (.iload_n 1, 1) := by decide +kernel
theorem dX7_draft_51 : decode cX7_draft 51 = .ok (.iadd, 1) := by decide +kernel
theorem dX7_draft_52 : decode cX7_draft 52 = .ok (.iaload, 1) := by decide +kernel
theorem dX7_draft_53 : decode cX7_draft 53 = .ok (.istore_n 3, 1) := by decide +kernel
theorem dX7_draft_54 : decode cX7_draft 54 = .ok (.iload_n 3, 1) := by decide +kernel
theorem dX7_draft_55 : decode cX7_draft 55 = .ok (.iload_n 2, 1) := by decide +kernel
theorem dX7_draft_56 : decode cX7_draft 56 = .ok (.if_icmp .ne 6, 3) := by decide +kernel
theorem dX7_draft_59 : decode cX7_draft 59 = .ok (.bipush (-5), 2) := by decide +kernel
theorem dX7_draft_61 : decode cX7_draft 61 = .ok (.ireturn, 1) := by decide +kernel
theorem dX7_draft_62 : decode cX7_draft 62 = .ok (.aload_n 0, 1) := by decide +kernel
theorem dX7_draft_63 : decode cX7_draft 63 = .ok (.invokevirtual 48, 3) := by decide +kernel
theorem dX7_draft_66 : decode cX7_draft 66 = .ok (.aload_n 0, 1) := by decide +kernel
theorem dX7_draft_67 : decode cX7_draft 67 = .ok (.getfield 7, 3) := by decide +kernel
theorem dX7_draft_70 : decode cX7_draft 70 = .ok (.bipush 79, 2) := by decide +kernel
theorem dX7_draft_72 : decode cX7_draft 72 = .ok (.iload_n 1, 1) := by decide +kernel
theorem dX7_draft_73 : decode cX7_draft 73 = .ok (.iadd, 1) := by decide +kernel
theorem dX7_draft_74 : decode cX7_draft 74 = .ok (.iload_n 2, 1) := by decide +kernel
theorem dX7_draft_75 : decode cX7_draft 75 = .ok (.iastore, 1) := by decide +kernel
theorem dX7_draft_76 : decode cX7_draft 76 = .ok (.iload_n 3, 1) := by decide +kernel
theorem dX7_draft_77 : decode cX7_draft 77 = .ok (.ireturn, 1) := by decide +kernel
theorem dX7_trade_0 : decode cX7_trade 0 = .ok (.iload_n 1, 1) := by decide +kernel
theorem dX7_trade_1 : decode cX7_trade 1 = .ok (.invokestatic 51, 3) := by decide +kernel
theorem dX7_trade_4 : decode cX7_trade 4 = .ok (.ifCond .ne 10, 3) := by decide +kernel
theorem dX7_trade_7 : decode cX7_trade 7 = .ok (.iload_n 2, 1) := by decide +kernel
theorem dX7_trade_8 : decode cX7_trade 8 = .ok (.invokestatic 51, 3) := by decide +kernel
theorem dX7_trade_11 : decode cX7_trade 11 = .ok (.ifCond .eq 5, 3) := by decide +kernel
theorem dX7_trade_14 : decode cX7_trade 14 = .ok (.iconst (-1), 1) := by decide +kernel
theorem dX7_trade_15 : decode cX7_trade 15 = .ok (.ireturn, 1) := by decide +kernel
theorem dX7_trade_16 : decode cX7_trade 16 = .ok (.aload_n 0, 1) := by decide +kernel
theorem dX7_trade_17 : decode cX7_trade 17 = .ok (.getfield 7, 3) := by decide +kernel
theorem dX7_trade_20 : decode cX7_trade 20 = .ok (.bipush 79, 2) := by decide +kernel
theorem dX7_trade_22 : decode cX7_trade 22 = .ok (.iload_n 1, 1) := by decide +kernel
theorem dX7_trade_23 : decode cX7_trade 23 = .ok (.iadd, 1) := by decide +kernel
theorem dX7_trade_24 : decode cX7_trade 24 = .ok (.iaload, 1) := by decide +kernel
theorem dX7_trade_25 : decode cX7_trade 25 = .ok (.istore_n 3, 1) := by decide +kernel
theorem dX7_trade_26 : decode cX7_trade 26 = .ok (.aload_n 0, 1) := by decide +kernel
theorem dX7_trade_27 : decode cX7_trade 27 = .ok (.getfield 7, 3) := by decide +kernel
theorem dX7_trade_30 : decode cX7_trade 30 = .ok (.bipush 79, 2) := by decide +kernel
theorem dX7_trade_32 : decode cX7_trade 32 = .ok (.iload_n 2, 1) := by decide +kernel
theorem dX7_trade_33 : decode cX7_trade 33 = .ok (.iadd, 1) := by decide +kernel
theorem dX7_trade_34 : decode cX7_trade 34 = .ok (.iaload, 1) := by decide +kernel
theorem dX7_trade_35 : decode cX7_trade 35 = .ok (.istore 4, 2) := by decide +kernel
theorem dX7_trade_37 : decode cX7_trade 37 = .ok (.aload_n 0, 1) := by decide +kernel
theorem dX7_trade_38 : decode cX7_trade 38 = .ok (.invokevirtual 87, 3) := by decide +kernel
theorem dX7_trade_41 : decode cX7_trade 41 = .ok (.ifCond .ne 28, 3) := by decide +kernel
theorem dX7_trade_44 : decode cX7_trade 44 = .ok (.aload_n 0, 1) := by decide +kernel
theorem dX7_trade_45 : decode cX7_trade 45 = .ok (.iload_n 1, 1) := by decide +kernel
theorem dX7_trade_46 : decode cX7_trade 46 = .ok (.invokevirtual 74, 3) := by decide +kernel
theorem dX7_trade_49 : decode cX7_trade 49 = .ok (.ifCond .eq 20, 3) := by decide +kernel
theorem dX7_trade_52 : decode cX7_trade 52 = .ok (.aload_n 0, 1) := by decide +kernel
theorem dX7_trade_53 : decode cX7_trade 53 = .ok (.iload_n 2, 1) := by decide +kernel
theorem dX7_trade_54 : decode cX7_trade 54 = .ok (.invokevirtual 74, 3) := by decide +kernel
theorem dX7_trade_57 : decode cX7_trade 57 = .ok (.ifCond .eq 12, 3) := by decide +kernel
theorem dX7_trade_60 : decode cX7_trade 60 = .ok (.iload_n 3, 1) := by decide +kernel
theorem dX7_trade_61 : decode cX7_trade 61 = .ok (.ifCond .lt 8, 3) := by decide +kernel
theorem dX7_trade_64 : decode cX7_trade 64 = .ok (.iload 4, 2) := by decide +kernel
theorem dX7_trade_66 : decode cX7_trade 66 = .ok (.ifCond .ge 6, 3) := by decide +kernel
theorem dX7_trade_69 : decode cX7_trade 69 = .ok (.bipush (-4), 2) := by decide +kernel
theorem dX7_trade_71 : decode cX7_trade 71 = .ok (.ireturn, 1) := by decide +kernel
theorem dX7_trade_72 : decode cX7_trade 72 = .ok (.iload_n 3, 1) := by decide +kernel
theorem dX7_trade_73 : decode cX7_trade 73 = .ok (.iload 4, 2) := by decide +kernel
theorem dX7_trade_75 : decode cX7_trade 75 = .ok (.if_icmp .ne 6, 3) := by decide +kernel
theorem dX7_trade_78 : decode cX7_trade 78 = .ok (.bipush (-5), 2) := by decide +kernel
theorem dX7_trade_80 : decode cX7_trade 80 = .ok (.ireturn, 1) := by decide +kernel
theorem dX7_trade_81 : decode cX7_trade 81 = .ok (.aload_n 0, 1) := by decide +kernel
theorem dX7_trade_82 : decode cX7_trade 82 = .ok (.invokevirtual 48, 3) := by decide +kernel
theorem dX7_trade_85 : decode cX7_trade 85 = .ok (.aload_n 0, 1) := by decide +kernel
theorem dX7_trade_86 : decode cX7_trade 86 = .ok (.getfield 7, 3) := by decide +kernel
theorem dX7_trade_89 : decode cX7_trade 89 = .ok (.bipush 79, 2) := by decide +kernel
theorem dX7_trade_91 : decode cX7_trade 91 = .ok (.iload_n 1, 1) := by decide +kernel
theorem dX7_trade_92 : decode cX7_trade 92 = .ok (.iadd, 1) := by decide +kernel
theorem dX7_trade_93 : decode cX7_trade 93 = .ok (.iload 4, 2) := by decide +kernel
theorem dX7_trade_95 : decode cX7_trade 95 = .ok (.iastore, 1) := by decide +kernel
theorem dX7_trade_96 : decode cX7_trade 96 = .ok (.aload_n 0, 1) := by decide +kernel
theorem dX7_trade_97 : decode cX7_trade 97 = .ok (.getfield 7, 3) := by decide +kernel
theorem dX7_trade_100 : decode cX7_trade 100 = .ok (.bipush 79, 2) := by decide +kernel
theorem dX7_trade_102 : decode cX7_trade 102 = .ok (.iload_n 2, 1) := by decide +kernel
theorem dX7_trade_103 : decode cX7_trade 103 = .ok (.iadd, 1) := by decide +kernel
theorem dX7_trade_104 : decode cX7_trade 104 = .ok (.iload_n 3, 1) := by decide +kernel
theorem dX7_trade_105 : decode cX7_trade 105 = .ok (.iastore, 1) := by decide +kernel
theorem dX7_trade_106 : decode cX7_trade 106 = .ok (.aload_n 0, 1) := by decide +kernel
theorem dX7_trade_107 : decode cX7_trade 107 = .ok (.invokevirtual 91, 3) := by decide +kernel
theorem dX7_trade_110 : decode cX7_trade 110 = .ok (.ifCond .ne 7, 3) := by decide +kernel
theorem dX7_trade_113 : decode cX7_trade 113 = .ok (.iconst 1, 1) := by decide +kernel
theorem dX7_trade_114 : decode cX7_trade 114 = .ok (.goto 4, 3) := by decide +kernel
theorem dX7_trade_117 : decode cX7_trade 117 = .ok (.iconst 0, 1) := by decide +kernel
theorem dX7_trade_118 : decode cX7_trade 118 = .ok (.ireturn, 1) := by decide +kernel
theorem dX7_take_0 : decode cX7_take 0 = .ok (.iconst 1, 1) := by decide +kernel
theorem dX7_take_1 : decode cX7_take 1 = .ok (.istore_n 1, 1) := by decide +kernel
theorem dX7_take_2 : decode cX7_take 2 = .ok (.iconst 0, 1) := by decide +kernel
theorem dX7_take_3 : decode cX7_take 3 = .ok (.istore_n 2, 1) := by decide +kernel
theorem dX7_take_4 : decode cX7_take 4 = .ok (.iload_n 2, 1) := by decide +kernel
theorem dX7_take_5 : decode cX7_take 5 = .ok (.bipush 36, 2) := by decide +kernel
theorem dX7_take_7 : decode cX7_take 7 = .ok (.if_icmp .ge 37, 3) := by decide +kernel
theorem dX7_take_10 : decode cX7_take 10 = .ok (.iload_n 1, 1) := by decide +kernel
theorem dX7_take_11 : decode cX7_take 11 = .ok (.ifCond .eq 25, 3) := by decide +kernel
theorem dX7_take_14 : decode cX7_take 14 = .ok (.aload_n 0, 1) := by decide +kernel
theorem dX7_take_15 : decode cX7_take 15 = .ok (.getfield 7, 3) := by decide +kernel
theorem dX7_take_18 : decode cX7_take 18 = .ok (.bipush 79, 2) := by decide +kernel
theorem dX7_take_20 : decode cX7_take 20 = .ok (.iload_n 2, 1) := by decide +kernel
theorem dX7_take_21 : decode cX7_take 21 = .ok (.iadd, 1) := by decide +kernel
theorem dX7_take_22 : decode cX7_take 22 = .ok (.iaload, 1) := by decide +kernel
theorem dX7_take_23 : decode cX7_take 23 = .ok (.aload_n 0, 1) := by decide +kernel
theorem dX7_take_24 : decode cX7_take 24 = .ok (.getfield 26, 3) := by decide +kernel
theorem dX7_take_27 : decode cX7_take 27 = .ok (.iload_n 2, 1) := by decide +kernel
theorem dX7_take_28 : decode cX7_take 28 = .ok (.iaload, 1) := by decide +kernel
theorem dX7_take_29 : decode cX7_take 29 = .ok (.if_icmp .ne 7, 3) := by decide +kernel
theorem dX7_take_32 : decode cX7_take 32 = .ok (.iconst 1, 1) := by decide +kernel
theorem dX7_take_33 : decode cX7_take 33 = .ok (.goto 4, 3) := by decide +kernel
theorem dX7_take_36 : decode cX7_take 36 = .ok (.iconst 0, 1) := by decide +kernel
theorem dX7_take_37 : decode cX7_take 37 = .ok (.istore_n 1, 1) := by decide +kernel
theorem dX7_take_38 : decode cX7_take 38 = .ok (.iinc 2 1, 3) := by decide +kernel
theorem dX7_take_41 : decode cX7_take 41 = .ok (.goto (-37), 3) := by decide +kernel
theorem dX7_take_44 : decode cX7_take 44 = .ok (.iload_n 1, 1) := by decide +kernel
theorem dX7_take_45 : decode cX7_take 45 = .ok (.ifCond .eq 5, 3) := by decide +kernel
theorem dX7_take_48 : decode cX7_take 48 = .ok (.iconst 0, 1) := by decide +kernel
theorem dX7_take_49 : decode cX7_take 49 = .ok (.ireturn, 1) := by decide +kernel
theorem dX7_take_50 : decode cX7_take 50 = .ok (.aload_n 0, 1) := by decide +kernel
theorem dX7_take_51 : decode cX7_take 51 = .ok (.invokevirtual 48, 3) := by decide +kernel
theorem dX7_take_54 : decode cX7_take 54 = .ok (.iconst 0, 1) := by decide +kernel
theorem dX7_take_55 : decode cX7_take 55 = .ok (.istore_n 2, 1) := by decide +kernel
theorem dX7_take_56 : decode cX7_take 56 = .ok (.iload_n 2, 1) := by decide +kernel
theorem dX7_take_57 : decode cX7_take 57 = .ok (.bipush 36, 2) := by decide +kernel
theorem dX7_take_59 : decode cX7_take 59 = .ok (.if_icmp .ge 24, 3) := by decide +kernel
theorem dX7_take_62 : decode cX7_take 62 = .ok (.aload_n 0, 1) := by decide +kernel
theorem dX7_take_63 : decode cX7_take 63 = .ok (.getfield 7, 3) := by decide +kernel
theorem dX7_take_66 : decode cX7_take 66 = .ok (.bipush 79, 2) := by decide +kernel
theorem dX7_take_68 : decode cX7_take 68 = .ok (.iload_n 2, 1) := by decide +kernel
theorem dX7_take_69 : decode cX7_take 69 = .ok (.iadd, 1) := by decide +kernel
theorem dX7_take_70 : decode cX7_take 70 = .ok (.aload_n 0, 1) := by decide +kernel
theorem dX7_take_71 : decode cX7_take 71 = .ok (.getfield 26, 3) := by decide +kernel
theorem dX7_take_74 : decode cX7_take 74 = .ok (.iload_n 2, 1) := by decide +kernel
theorem dX7_take_75 : decode cX7_take 75 = .ok (.iaload, 1) := by decide +kernel
theorem dX7_take_76 : decode cX7_take 76 = .ok (.iastore, 1) := by decide +kernel
theorem dX7_take_77 : decode cX7_take 77 = .ok (.iinc 2 1, 3) := by decide +kernel
theorem dX7_take_80 : decode cX7_take 80 = .ok (.goto (-24), 3) := by decide +kernel
theorem dX7_take_83 : decode cX7_take 83 = .ok (.iconst 1, 1) := by decide +kernel
theorem dX7_take_84 : decode cX7_take 84 = .ok (.ireturn, 1) := by decide +kernel
theorem dX7_snake_0 : decode cX7_snake 0 = .ok (.aload_n 0, 1) := by decide +kernel
theorem dX7_snake_1 : decode cX7_snake 1 = .ok (.invokevirtual 87, 3) := by decide +kernel
theorem dX7_snake_4 : decode cX7_snake 4 = .ok (.ifCond .eq 6, 3) := by decide +kernel
theorem dX7_snake_7 : decode cX7_snake 7 = .ok (.bipush (-4), 2) := by decide +kernel
theorem dX7_snake_9 : decode cX7_snake 9 = .ok (.ireturn, 1) := by decide +kernel
theorem dX7_snake_10 : decode cX7_snake 10 = .ok (.iconst 0, 1) := by decide +kernel
theorem dX7_snake_11 : decode cX7_snake 11 = .ok (.istore_n 2, 1) := by decide +kernel
theorem dX7_snake_12 : decode cX7_snake 12 = .ok (.iconst 0, 1) := by decide +kernel
theorem dX7_snake_13 : decode cX7_snake 13 = .ok (.istore_n 3, 1) := by decide +kernel
theorem dX7_snake_14 : decode cX7_snake 14 = .ok (.iload_n 3, 1) := by decide +kernel
theorem dX7_snake_15 : decode cX7_snake 15 = .ok (.bipush 36, 2) := by decide +kernel
theorem dX7_snake_17 : decode cX7_snake 17 = .ok (.if_icmp .ge 105, 3) := by decide +kernel
theorem dX7_snake_20 : decode cX7_snake 20 = .ok (.iload_n 3, 1) := by decide +kernel
theorem dX7_snake_21 : decode cX7_snake 21 = .ok (.bipush 6, 2) := by decide +kernel
theorem dX7_snake_23 : decode cX7_snake 23 = .ok (.idiv, 1) := by decide +kernel
theorem dX7_snake_24 : decode cX7_snake 24 = .ok (.istore 4, 2) := by decide +kernel
theorem dX7_snake_26 : decode cX7_snake 26 = .ok (.iload 4, 2) := by decide +kernel
theorem dX7_snake_28 : decode cX7_snake 28 = .ok (.iconst 2, 1) := by decide +kernel
theorem dX7_snake_29 : decode cX7_snake 29 = .ok (.irem, 1) := by decide +kernel
theorem dX7_snake_30 : decode cX7_snake 30 = .ok (.ifCond .ne 10, 3) := by decide +kernel
theorem dX7_snake_33 : decode cX7_snake 33 = .ok (.iload_n 3, 1) := by decide +kernel
theorem dX7_snake_34 : decode cX7_snake 34 = .ok (.bipush 6, 2) := by decide +kernel
theorem dX7_snake_36 : decode cX7_snake 36 = .ok (.irem, 1) := by decide +kernel
theorem dX7_snake_37 : decode cX7_snake 37 = .ok (.goto 9, 3) := by decide +kernel
theorem dX7_snake_40 : decode cX7_snake 40 = .ok (.iconst 5, 1) := by decide +kernel
theorem dX7_snake_41 : decode cX7_snake 41 = .ok (.iload_n 3, 1) := by decide +kernel
theorem dX7_snake_42 : decode cX7_snake 42 = .ok (.bipush 6, 2) := by decide +kernel
theorem dX7_snake_44 : decode cX7_snake 44 = .ok (.irem, 1) := by decide +kernel
theorem dX7_snake_45 : decode cX7_snake 45 = .ok (.isub, 1) := by decide +kernel
theorem dX7_snake_46 : decode cX7_snake 46 = .ok (.istore 5, 2) := by decide +kernel
theorem dX7_snake_48 : decode cX7_snake 48 = .ok (.iload_n 1, 1) := by decide +kernel
theorem dX7_snake_49 : decode cX7_snake 49 = .ok (.ifCond .eq 14, 3) := by decide +kernel
theorem dX7_snake_52 : decode cX7_snake 52 = .ok (.bipush 6, 2) := by decide +kernel
theorem dX7_snake_54 : decode cX7_snake 54 = .ok (.iload 5, 2) := by decide +kernel
theorem dX7_snake_56 : decode cX7_snake 56 = .ok (.imul, 1) := by decide +kernel
theorem dX7_snake_57 : decode cX7_snake 57 = .ok (.iload 4, 2) := by decide +kernel
theorem dX7_snake_59 : decode cX7_snake 59 = .ok (.iadd, 1) := by decide +kernel
theorem dX7_snake_60 : decode cX7_snake 60 = .ok (.goto 11, 3) := by decide +kernel
theorem dX7_snake_63 : decode cX7_snake 63 = .ok (.bipush 6, 2) := by decide +kernel
theorem dX7_snake_65 : decode cX7_snake 65 = .ok (.iload 4, 2) := by decide +kernel
theorem dX7_snake_67 : decode cX7_snake 67 = .ok (.imul, 1) := by decide +kernel
theorem dX7_snake_68 : decode cX7_snake 68 = .ok (.iload 5, 2) := by decide +kernel
theorem dX7_snake_70 : decode cX7_snake 70 = .ok (.iadd, 1) := by decide +kernel
theorem dX7_snake_71 : decode cX7_snake 71 = .ok (.istore 6, 2) := by decide +kernel
theorem dX7_snake_73 : decode cX7_snake 73 = .ok (.aload_n 0, 1) := by decide +kernel
theorem dX7_snake_74 : decode cX7_snake 74 = .ok (.getfield 26, 3) := by decide +kernel
theorem dX7_snake_77 : decode cX7_snake 77 = .ok (.iload 6, 2) := by decide +kernel
theorem dX7_snake_79 : decode cX7_snake 79 = .ok (.aload_n 0, 1) := by decide +kernel
theorem dX7_snake_80 : decode cX7_snake 80 = .ok (.iload 6, 2) := by decide +kernel
theorem dX7_snake_82 : decode cX7_snake 82 = .ok (.invokevirtual 74, 3) := by decide +kernel
theorem dX7_snake_85 : decode cX7_snake 85 = .ok (.ifCond .eq 12, 3) := by decide +kernel
theorem dX7_snake_88 : decode cX7_snake 88 = .ok (.iload_n 2, 1) := by decide +kernel
theorem dX7_snake_89 : decode cX7_snake 89 = .ok (.aload_n 0, 1) := by decide +kernel
theorem dX7_snake_90 : decode cX7_snake 90 = .ok (.invokevirtual 55, 3) := by decide +kernel
theorem dX7_snake_93 : decode cX7_snake 93 = .ok (.idiv, 1) := by decide +kernel
theorem dX7_snake_94 : decode cX7_snake 94 = .ok (.goto 4, 3) := by decide +kernel
theorem dX7_snake_97 : decode cX7_snake 97 = .ok (.iconst (-1), 1) := by decide +kernel
theorem dX7_snake_98 : decode cX7_snake 98 = .ok (.iastore, 1) := by decide +kernel
theorem dX7_snake_99 : decode cX7_snake 99 = .ok (.iload_n 2, 1) := by decide +kernel
theorem dX7_snake_100 : decode cX7_snake 100 = .ok (.aload_n 0, 1) := by decide +kernel
theorem dX7_snake_101 : decode cX7_snake 101 = .ok (.iload 6, 2) := by decide +kernel
theorem dX7_snake_103 : decode cX7_snake 103 = .ok (.invokevirtual 74, 3) := by decide +kernel
theorem dX7_snake_106 : decode cX7_snake 106 = .ok (.ifCond .eq 7, 3) := by decide +kernel
theorem dX7_snake_109 : decode cX7_snake 109 = .ok (.iconst 1, 1) := by decide +kernel
theorem dX7_snake_110 : decode cX7_snake 110 = .ok (.goto 4, 3) := by decide +kernel
theorem dX7_snake_113 : decode cX7_snake 113 = .ok (.iconst 0, 1) := by decide +kernel
theorem dX7_snake_114 : decode cX7_snake 114 = .ok (.iadd, 1) := by decide +kernel
theorem dX7_snake_115 : decode cX7_snake 115 = .ok (.istore_n 2, 1) := by decide +kernel
theorem dX7_snake_116 : decode cX7_snake 116 = .ok (.iinc 3 1, 3) := by decide +kernel
theorem dX7_snake_119 : decode cX7_snake 119 = .ok (.goto (-105), 3) := by decide +kernel
theorem dX7_snake_122 : decode cX7_snake 122 = .ok (.aload_n 0, 1) := by decide +kernel
theorem dX7_snake_123 : decode cX7_snake 123 = .ok (.invokevirtual 94, 3) := by decide +kernel
theorem dX7_snake_126 : decode cX7_snake 126 = .ok (.ifCond .ne 6, 3) := by decide +kernel
theorem dX7_snake_129 : decode cX7_snake 129 = .ok (.bipush (-5), 2) := by decide +kernel
theorem dX7_snake_131 : decode cX7_snake 131 = .ok (.ireturn, 1) := by decide +kernel
theorem dX7_snake_132 : decode cX7_snake 132 = .ok (.aload_n 0, 1) := by decide +kernel
theorem dX7_snake_133 : decode cX7_snake 133 = .ok (.invokevirtual 91, 3) := by decide +kernel
theorem dX7_snake_136 : decode cX7_snake 136 = .ok (.ifCond .ne 7, 3) := by decide +kernel
theorem dX7_snake_139 : decode cX7_snake 139 = .ok (.iconst 1, 1) := by decide +kernel
theorem dX7_snake_140 : decode cX7_snake 140 = .ok (.goto 4, 3) := by decide +kernel
theorem dX7_snake_143 : decode cX7_snake 143 = .ok (.iconst 0, 1) := by decide +kernel
theorem dX7_snake_144 : decode cX7_snake 144 = .ok (.ireturn, 1) := by decide +kernel
theorem dX7_adopt_0 : decode cX7_adopt 0 = .ok (.aload_n 0, 1) := by decide +kernel
theorem dX7_adopt_1 : decode cX7_adopt 1 = .ok (.invokevirtual 87, 3) := by decide +kernel
theorem dX7_adopt_4 : decode cX7_adopt 4 = .ok (.ifCond .ne 13, 3) := by decide +kernel
theorem dX7_adopt_7 : decode cX7_adopt 7 = .ok (.aload_n 0, 1) := by decide +kernel
theorem dX7_adopt_8 : decode cX7_adopt 8 = .ok (.getfield 7, 3) := by decide +kernel
theorem dX7_adopt_11 : decode cX7_adopt 11 = .ok (.bipush 78, 2) := by decide +kernel
theorem dX7_adopt_13 : decode cX7_adopt 13 = .ok (.iaload, 1) := by decide +kernel
theorem dX7_adopt_14 : decode cX7_adopt 14 = .ok (.ifCond .ne 6, 3) := by decide +kernel
theorem dX7_adopt_17 : decode cX7_adopt 17 = .ok (.bipush (-4), 2) := by decide +kernel
theorem dX7_adopt_19 : decode cX7_adopt 19 = .ok (.ireturn, 1) := by decide +kernel
theorem dX7_adopt_20 : decode cX7_adopt 20 = .ok (.iconst 0, 1) := by decide +kernel
theorem dX7_adopt_21 : decode cX7_adopt 21 = .ok (.istore_n 1, 1) := by decide +kernel
theorem dX7_adopt_22 : decode cX7_adopt 22 = .ok (.iload_n 1, 1) := by decide +kernel
theorem dX7_adopt_23 : decode cX7_adopt 23 = .ok (.bipush 36, 2) := by decide +kernel
theorem dX7_adopt_25 : decode cX7_adopt 25 = .ok (.if_icmp .ge 25, 3) := by decide +kernel
theorem dX7_adopt_28 : decode cX7_adopt 28 = .ok (.aload_n 0, 1) := by decide +kernel
theorem dX7_adopt_29 : decode cX7_adopt 29 = .ok (.getfield 26, 3) := by decide +kernel
theorem dX7_adopt_32 : decode cX7_adopt 32 = .ok (.iload_n 1, 1) := by decide +kernel
theorem dX7_adopt_33 : decode cX7_adopt 33 = .ok (.aload_n 0, 1) := by decide +kernel
theorem dX7_adopt_34 : decode cX7_adopt 34 = .ok (.getfield 7, 3) := by decide +kernel
theorem dX7_adopt_37 : decode cX7_adopt 37 = .ok (.sipush 151, 3) := by decide +kernel
theorem dX7_adopt_40 : decode cX7_adopt 40 = .ok (.iload_n 1, 1) := by decide +kernel
theorem dX7_adopt_41 : decode cX7_adopt 41 = .ok (.iadd, 1) := by decide +kernel
theorem dX7_adopt_42 : decode cX7_adopt 42 = .ok (.iaload, 1) := by decide +kernel
theorem dX7_adopt_43 : decode cX7_adopt 43 = .ok (.iastore, 1) := by decide +kernel
theorem dX7_adopt_44 : decode cX7_adopt 44 = .ok (.iinc 1 1, 3) := by decide +kernel
theorem dX7_adopt_47 : decode cX7_adopt 47 = .ok (.goto (-25), 3) := by decide +kernel
theorem dX7_adopt_50 : decode cX7_adopt 50 = .ok (.aload_n 0, 1) := by decide +kernel
theorem dX7_adopt_51 : decode cX7_adopt 51 = .ok (.invokevirtual 94, 3) := by decide +kernel
theorem dX7_adopt_54 : decode cX7_adopt 54 = .ok (.ifCond .eq 10, 3) := by decide +kernel
theorem dX7_adopt_57 : decode cX7_adopt 57 = .ok (.aload_n 0, 1) := by decide +kernel
theorem dX7_adopt_58 : decode cX7_adopt 58 = .ok (.invokevirtual 77, 3) := by decide +kernel
theorem dX7_adopt_61 : decode cX7_adopt 61 = .ok (.goto 5, 3) := by decide +kernel
theorem dX7_adopt_64 : decode cX7_adopt 64 = .ok (.bipush (-5), 2) := by decide +kernel
theorem dX7_adopt_66 : decode cX7_adopt 66 = .ok (.ireturn, 1) := by decide +kernel
theorem dX7_propose_0 : decode cX7_propose 0 = .ok (.aload_n 0, 1) := by decide +kernel
theorem dX7_propose_1 : decode cX7_propose 1 = .ok (.invokevirtual 87, 3) := by decide +kernel
theorem dX7_propose_4 : decode cX7_propose 4 = .ok (.ifCond .eq 6, 3) := by decide +kernel
theorem dX7_propose_7 : decode cX7_propose 7 = .ok (.bipush (-4), 2) := by decide +kernel
theorem dX7_propose_9 : decode cX7_propose 9 = .ok (.ireturn, 1) := by decide +kernel
theorem dX7_propose_10 : decode cX7_propose 10 = .ok (.aload_n 0, 1) := by decide +kernel
theorem dX7_propose_11 : decode cX7_propose 11 = .ok (.invokevirtual 91, 3) := by decide +kernel
theorem dX7_propose_14 : decode cX7_propose 14 = .ok (.bipush 10, 2) := by decide +kernel
theorem dX7_propose_16 : decode cX7_propose 16 = .ok (.irem, 1) := by decide +kernel
theorem dX7_propose_17 : decode cX7_propose 17 = .ok (.istore_n 1, 1) := by decide +kernel
theorem dX7_propose_18 : decode cX7_propose 18 = .ok (.iload_n 1, 1) := by decide +kernel
theorem dX7_propose_19 : decode cX7_propose 19 = .ok (.ifCond .le 8, 3) := by decide +kernel
theorem dX7_propose_22 : decode cX7_propose 22 = .ok (.bipush (-10), 2) := by decide +kernel
theorem dX7_propose_24 : decode cX7_propose 24 = .ok (.iload_n 1, 1) := by decide +kernel
theorem dX7_propose_25 : decode cX7_propose 25 = .ok (.isub, 1) := by decide +kernel
theorem dX7_propose_26 : decode cX7_propose 26 = .ok (.ireturn, 1) := by decide +kernel
theorem dX7_propose_27 : decode cX7_propose 27 = .ok (.aload_n 0, 1) := by decide +kernel
theorem dX7_propose_28 : decode cX7_propose 28 = .ok (.invokevirtual 48, 3) := by decide +kernel
theorem dX7_propose_31 : decode cX7_propose 31 = .ok (.aload_n 0, 1) := by decide +kernel
theorem dX7_propose_32 : decode cX7_propose 32 = .ok (.getfield 7, 3) := by decide +kernel
theorem dX7_propose_35 : decode cX7_propose 35 = .ok (.bipush 75, 2) := by decide +kernel
theorem dX7_propose_37 : decode cX7_propose 37 = .ok (.iconst 1, 1) := by decide +kernel
theorem dX7_propose_38 : decode cX7_propose 38 = .ok (.iastore, 1) := by decide +kernel
theorem dX7_propose_39 : decode cX7_propose 39 = .ok (.aload_n 0, 1) := by decide +kernel
theorem dX7_propose_40 : decode cX7_propose 40 = .ok (.invokevirtual 77, 3) := by decide +kernel
theorem dX7_propose_43 : decode cX7_propose 43 = .ok (.ireturn, 1) := by decide +kernel
theorem dX7_freezePart_0 : decode cX7_freezePart 0 = .ok (.aload_n 0, 1) := by decide +kernel
theorem dX7_freezePart_1 : decode cX7_freezePart 1 = .ok (.getfield 7, 3) := by decide +kernel
theorem dX7_freezePart_4 : decode cX7_freezePart 4 = .ok (.bipush 77, 2) := by decide +kernel
theorem dX7_freezePart_6 : decode cX7_freezePart 6 = .ok (.iaload, 1) := by decide +kernel
theorem dX7_freezePart_7 : decode cX7_freezePart 7 = .ok (.istore_n 3, 1) := by decide +kernel
theorem dX7_freezePart_8 : decode cX7_freezePart 8 = .ok (.iconst 0, 1) := by decide +kernel
theorem dX7_freezePart_9 : decode cX7_freezePart 9 = .ok (.istore 4, 2) := by decide +kernel
theorem dX7_freezePart_11 : decode cX7_freezePart 11 = .ok (.iload 4, 2) := by decide +kernel
theorem dX7_freezePart_13 : decode cX7_freezePart 13 = .ok (.bipush 36, 2) := by decide +kernel
theorem dX7_freezePart_15 : decode cX7_freezePart 15 = .ok (.if_icmp .ge 76, 3) := by decide +kernel
theorem dX7_freezePart_18 : decode cX7_freezePart 18 = .ok (.aload_n 0, 1) := by decide +kernel
theorem dX7_freezePart_19 : decode cX7_freezePart 19 = .ok (.getfield 7, 3) := by decide +kernel
theorem dX7_freezePart_22 : decode cX7_freezePart 22 = .ok (.bipush 79, 2) := by decide +kernel
theorem dX7_freezePart_24 : decode cX7_freezePart 24 = .ok (.iload 4, 2) := by decide +kernel
theorem dX7_freezePart_26 : decode cX7_freezePart 26 = .ok (.iadd, 1) := by decide +kernel
theorem dX7_freezePart_27 : decode cX7_freezePart 27 = .ok (.iaload, 1) := by decide +kernel
theorem dX7_freezePart_28 : decode cX7_freezePart 28 = .ok (.iload_n 1, 1) := by decide +kernel
theorem dX7_freezePart_29 : decode cX7_freezePart 29 = .ok (.if_icmp .ne 28, 3) := by decide +kernel
theorem dX7_freezePart_32 : decode cX7_freezePart 32 = .ok (.aload_n 0, 1) := by decide +kernel
theorem dX7_freezePart_33 : decode cX7_freezePart 33 = .ok (.getfield 7, 3) := by decide +kernel
theorem dX7_freezePart_36 : decode cX7_freezePart 36 = .ok (.bipush 115, 2) := by decide +kernel
theorem dX7_freezePart_38 : decode cX7_freezePart 38 = .ok (.iload 4, 2) := by decide +kernel
theorem dX7_freezePart_40 : decode cX7_freezePart 40 = .ok (.iadd, 1) := by decide +kernel
theorem dX7_freezePart_41 : decode cX7_freezePart 41 = .ok (.iload_n 3, 1) := by decide +kernel
theorem dX7_freezePart_42 : decode cX7_freezePart 42 = .ok (.iastore, 1) := by decide +kernel
theorem dX7_freezePart_43 : decode cX7_freezePart 43 = .ok (.aload_n 0, 1) := by decide +kernel
theorem dX7_freezePart_44 : decode cX7_freezePart 44 = .ok (.getfield 7, 3) := by decide +kernel
theorem dX7_freezePart_47 : decode cX7_freezePart 47 = .ok (.bipush 79, 2) := by decide +kernel
theorem dX7_freezePart_49 : decode cX7_freezePart 49 = .ok (.iload 4, 2) := by decide +kernel
theorem dX7_freezePart_51 : decode cX7_freezePart 51 = .ok (.iadd, 1) := by decide +kernel
theorem dX7_freezePart_52 : decode cX7_freezePart 52 = .ok (.iconst (-1), 1) := by decide +kernel
theorem dX7_freezePart_53 : decode cX7_freezePart 53 = .ok (.iastore, 1) := by decide +kernel
theorem dX7_freezePart_54 : decode cX7_freezePart 54 = .ok (.goto 31, 3) := by decide +kernel
theorem dX7_freezePart_57 : decode cX7_freezePart 57 = .ok (.aload_n 0, 1) := by decide +kernel
theorem dX7_freezePart_58 : decode cX7_freezePart 58 = .ok (.getfield 7, 3) := by decide +kernel
theorem dX7_freezePart_61 : decode cX7_freezePart 61 = .ok (.bipush 79, 2) := by decide +kernel
theorem dX7_freezePart_63 : decode cX7_freezePart 63 = .ok (.iload 4, 2) := by decide +kernel
theorem dX7_freezePart_65 : decode cX7_freezePart 65 = .ok (.iadd, 1) := by decide +kernel
theorem dX7_freezePart_66 : decode cX7_freezePart 66 = .ok (.iaload, 1) := by decide +kernel
theorem dX7_freezePart_67 : decode cX7_freezePart 67 = .ok (.iload_n 1, 1) := by decide +kernel
theorem dX7_freezePart_68 : decode cX7_freezePart 68 = .ok (.if_icmp .le 17, 3) := by decide +kernel
theorem dX7_freezePart_71 : decode cX7_freezePart 71 = .ok (.aload_n 0, 1) := by decide +kernel
theorem dX7_freezePart_72 : decode cX7_freezePart 72 = .ok (.getfield 7, 3) := by decide +kernel
theorem dX7_freezePart_75 : decode cX7_freezePart 75 = .ok (.bipush 79, 2) := by decide +kernel
theorem dX7_freezePart_77 : decode cX7_freezePart 77 = .ok (.iload 4, 2) := by decide +kernel
theorem dX7_freezePart_79 : decode cX7_freezePart 79 = .ok (.iadd, 1) := by decide +kernel
theorem dX7_freezePart_80 : decode cX7_freezePart 80 = .ok (.dup2, 1) := by decide +kernel
theorem dX7_freezePart_81 : decode cX7_freezePart 81 = .ok (.iaload, 1) := by decide +kernel
theorem dX7_freezePart_82 : decode cX7_freezePart 82 = .ok (.iconst 1, 1) := by decide +kernel
theorem dX7_freezePart_83 : decode cX7_freezePart 83 = .ok (.isub, 1) := by decide +kernel
theorem dX7_freezePart_84 : decode cX7_freezePart 84 = .ok (.iastore, 1) := by decide +kernel
theorem dX7_freezePart_85 : decode cX7_freezePart 85 = .ok (.iinc 4 1, 3) := by decide +kernel
theorem dX7_freezePart_88 : decode cX7_freezePart 88 = .ok (.goto (-77), 3) := by decide +kernel
theorem dX7_freezePart_91 : decode cX7_freezePart 91 = .ok (.aload_n 0, 1) := by decide +kernel
theorem dX7_freezePart_92 : decode cX7_freezePart 92 = .ok (.getfield 7, 3) := by decide +kernel
theorem dX7_freezePart_95 : decode cX7_freezePart 95 = .ok (.sipush 187, 3) := by decide +kernel
theorem dX7_freezePart_98 : decode cX7_freezePart 98 = .ok (.iload_n 3, 1) := by decide +kernel
theorem dX7_freezePart_99 : decode cX7_freezePart 99 = .ok (.iadd, 1) := by decide +kernel
theorem dX7_freezePart_100 : decode cX7_freezePart 100 = .ok (.iload_n 2, 1) := by decide +kernel
theorem dX7_freezePart_101 : decode cX7_freezePart 101 = .ok (.iastore, 1) := by decide +kernel
theorem dX7_freezePart_102 : decode cX7_freezePart 102 = .ok (.aload_n 0, 1) := by decide +kernel
theorem dX7_freezePart_103 : decode cX7_freezePart 103 = .ok (.getfield 7, 3) := by decide +kernel
theorem dX7_freezePart_106 : decode cX7_freezePart 106 = .ok (.bipush 77, 2) := by decide +kernel
theorem dX7_freezePart_108 : decode cX7_freezePart 108 = .ok (.dup2, 1) := by decide +kernel
theorem dX7_freezePart_109 : decode cX7_freezePart 109 = .ok (.iaload, 1) := by decide +kernel
theorem dX7_freezePart_110 : decode cX7_freezePart 110 = .ok (.iconst 1, 1) := by decide +kernel
theorem dX7_freezePart_111 : decode cX7_freezePart 111 = .ok (.iadd, 1) := by decide +kernel
theorem dX7_freezePart_112 : decode cX7_freezePart 112 = .ok (.iastore, 1) := by decide +kernel
theorem dX7_freezePart_113 : decode cX7_freezePart 113 = .ok (.return_, 1) := by decide +kernel
theorem dX7_freeze_0 : decode cX7_freeze 0 = .ok (.aload_n 0, 1) := by decide +kernel
theorem dX7_freeze_1 : decode cX7_freeze 1 = .ok (.getfield 7, 3) := by decide +kernel
theorem dX7_freeze_4 : decode cX7_freeze 4 = .ok (.bipush 75, 2) := by decide +kernel
theorem dX7_freeze_6 : decode cX7_freeze 6 = .ok (.iaload, 1) := by decide +kernel
theorem dX7_freeze_7 : decode cX7_freeze 7 = .ok (.iconst 1, 1) := by decide +kernel
theorem dX7_freeze_8 : decode cX7_freeze 8 = .ok (.if_icmp .eq 6, 3) := by decide +kernel
theorem dX7_freeze_11 : decode cX7_freeze 11 = .ok (.bipush (-4), 2) := by decide +kernel
theorem dX7_freeze_13 : decode cX7_freeze 13 = .ok (.ireturn, 1) := by decide +kernel
theorem dX7_freeze_14 : decode cX7_freeze 14 = .ok (.iload_n 1, 1) := by decide +kernel
theorem dX7_freeze_15 : decode cX7_freeze 15 = .ok (.iconst 0, 1) := by decide +kernel
theorem dX7_freeze_16 : decode cX7_freeze 16 = .ok (.aload_n 0, 1) := by decide +kernel
theorem dX7_freeze_17 : decode cX7_freeze 17 = .ok (.invokevirtual 77, 3) := by decide +kernel
theorem dX7_freeze_20 : decode cX7_freeze 20 = .ok (.iconst 1, 1) := by decide +kernel
theorem dX7_freeze_21 : decode cX7_freeze 21 = .ok (.isub, 1) := by decide +kernel
theorem dX7_freeze_22 : decode cX7_freeze 22 = .ok (.invokestatic 36, 3) := by decide +kernel
theorem dX7_freeze_25 : decode cX7_freeze 25 = .ok (.ifCond .ne 5, 3) := by decide +kernel
theorem dX7_freeze_28 : decode cX7_freeze 28 = .ok (.iconst (-1), 1) := by decide +kernel
theorem dX7_freeze_29 : decode cX7_freeze 29 = .ok (.ireturn, 1) := by decide +kernel
theorem dX7_freeze_30 : decode cX7_freeze 30 = .ok (.aload_n 0, 1) := by decide +kernel
theorem dX7_freeze_31 : decode cX7_freeze 31 = .ok (.invokevirtual 48, 3) := by decide +kernel
theorem dX7_freeze_34 : decode cX7_freeze 34 = .ok (.aload_n 0, 1) := by decide +kernel
theorem dX7_freeze_35 : decode cX7_freeze 35 = .ok (.getfield 7, 3) := by decide +kernel
theorem dX7_freeze_38 : decode cX7_freeze 38 = .ok (.bipush 76, 2) := by decide +kernel
theorem dX7_freeze_40 : decode cX7_freeze 40 = .ok (.iaload, 1) := by decide +kernel
theorem dX7_freeze_41 : decode cX7_freeze 41 = .ok (.istore_n 2, 1) := by decide +kernel
theorem dX7_freeze_42 : decode cX7_freeze 42 = .ok (.aload_n 0, 1) := by decide +kernel
theorem dX7_freeze_43 : decode cX7_freeze 43 = .ok (.iload_n 1, 1) := by decide +kernel
theorem dX7_freeze_44 : decode cX7_freeze 44 = .ok (.iconst 1, 1) := by decide +kernel
theorem dX7_freeze_45 : decode cX7_freeze 45 = .ok (.iload_n 2, 1) := by decide +kernel
theorem dX7_freeze_46 : decode cX7_freeze 46 = .ok (.isub, 1) := by decide +kernel
theorem dX7_freeze_47 : decode cX7_freeze 47 = .ok (.invokevirtual 97, 3) := by decide +kernel
theorem dX7_freeze_50 : decode cX7_freeze 50 = .ok (.aload_n 0, 1) := by decide +kernel
theorem dX7_freeze_51 : decode cX7_freeze 51 = .ok (.invokevirtual 77, 3) := by decide +kernel
theorem dX7_freeze_54 : decode cX7_freeze 54 = .ok (.iconst 1, 1) := by decide +kernel
theorem dX7_freeze_55 : decode cX7_freeze 55 = .ok (.if_icmp .ne 25, 3) := by decide +kernel
theorem dX7_freeze_58 : decode cX7_freeze 58 = .ok (.aload_n 0, 1) := by decide +kernel
theorem dX7_freeze_59 : decode cX7_freeze 59 = .ok (.iconst 0, 1) := by decide +kernel
theorem dX7_freeze_60 : decode cX7_freeze 60 = .ok (.iload_n 2, 1) := by decide +kernel
theorem dX7_freeze_61 : decode cX7_freeze 61 = .ok (.invokevirtual 97, 3) := by decide +kernel
theorem dX7_freeze_64 : decode cX7_freeze 64 = .ok (.aload_n 0, 1) := by decide +kernel
theorem dX7_freeze_65 : decode cX7_freeze 65 = .ok (.getfield 7, 3) := by decide +kernel
theorem dX7_freeze_68 : decode cX7_freeze 68 = .ok (.bipush 75, 2) := by decide +kernel
theorem dX7_freeze_70 : decode cX7_freeze 70 = .ok (.iconst 2, 1) := by decide +kernel
theorem dX7_freeze_71 : decode cX7_freeze 71 = .ok (.iastore, 1) := by decide +kernel
theorem dX7_freeze_72 : decode cX7_freeze 72 = .ok (.aload_n 0, 1) := by decide +kernel
theorem dX7_freeze_73 : decode cX7_freeze 73 = .ok (.getfield 7, 3) := by decide +kernel
theorem dX7_freeze_76 : decode cX7_freeze 76 = .ok (.bipush 77, 2) := by decide +kernel
theorem dX7_freeze_78 : decode cX7_freeze 78 = .ok (.iaload, 1) := by decide +kernel
theorem dX7_freeze_79 : decode cX7_freeze 79 = .ok (.ireturn, 1) := by decide +kernel
theorem dX7_freeze_80 : decode cX7_freeze 80 = .ok (.iconst 0, 1) := by decide +kernel
theorem dX7_freeze_81 : decode cX7_freeze 81 = .ok (.istore_n 3, 1) := by decide +kernel
theorem dX7_freeze_82 : decode cX7_freeze 82 = .ok (.iload_n 3, 1) := by decide +kernel
theorem dX7_freeze_83 : decode cX7_freeze 83 = .ok (.bipush 36, 2) := by decide +kernel
theorem dX7_freeze_85 : decode cX7_freeze 85 = .ok (.if_icmp .ge 38, 3) := by decide +kernel
theorem dX7_freeze_88 : decode cX7_freeze 88 = .ok (.aload_n 0, 1) := by decide +kernel
theorem dX7_freeze_89 : decode cX7_freeze 89 = .ok (.getfield 7, 3) := by decide +kernel
theorem dX7_freeze_92 : decode cX7_freeze 92 = .ok (.sipush 151, 3) := by decide +kernel
theorem dX7_freeze_95 : decode cX7_freeze 95 = .ok (.iload_n 3, 1) := by decide +kernel
theorem dX7_freeze_96 : decode cX7_freeze 96 = .ok (.iadd, 1) := by decide +kernel
theorem dX7_freeze_97 : decode cX7_freeze 97 = .ok (.aload_n 0, 1) := by decide +kernel
theorem dX7_freeze_98 : decode cX7_freeze 98 = .ok (.getfield 7, 3) := by decide +kernel
theorem dX7_freeze_101 : decode cX7_freeze 101 = .ok (.bipush 79, 2) := by decide +kernel
theorem dX7_freeze_103 : decode cX7_freeze 103 = .ok (.iload_n 3, 1) := by decide +kernel
theorem dX7_freeze_104 : decode cX7_freeze 104 = .ok (.iadd, 1) := by decide +kernel
theorem dX7_freeze_105 : decode cX7_freeze 105 = .ok (.iaload, 1) := by decide +kernel
theorem dX7_freeze_106 : decode cX7_freeze 106 = .ok (.iastore, 1) := by decide +kernel
theorem dX7_freeze_107 : decode cX7_freeze 107 = .ok (.aload_n 0, 1) := by decide +kernel
theorem dX7_freeze_108 : decode cX7_freeze 108 = .ok (.getfield 7, 3) := by decide +kernel
theorem dX7_freeze_111 : decode cX7_freeze 111 = .ok (.bipush 79, 2) := by decide +kernel
theorem dX7_freeze_113 : decode cX7_freeze 113 = .ok (.iload_n 3, 1) := by decide +kernel
theorem dX7_freeze_114 : decode cX7_freeze 114 = .ok (.iadd, 1) := by decide +kernel
theorem dX7_freeze_115 : decode cX7_freeze 115 = .ok (.iconst (-1), 1) := by decide +kernel
theorem dX7_freeze_116 : decode cX7_freeze 116 = .ok (.iastore, 1) := by decide +kernel
theorem dX7_freeze_117 : decode cX7_freeze 117 = .ok (.iinc 3 1, 3) := by decide +kernel
theorem dX7_freeze_120 : decode cX7_freeze 120 = .ok (.goto (-38), 3) := by decide +kernel
theorem dX7_freeze_123 : decode cX7_freeze 123 = .ok (.aload_n 0, 1) := by decide +kernel
theorem dX7_freeze_124 : decode cX7_freeze 124 = .ok (.getfield 7, 3) := by decide +kernel
theorem dX7_freeze_127 : decode cX7_freeze 127 = .ok (.bipush 78, 2) := by decide +kernel
theorem dX7_freeze_129 : decode cX7_freeze 129 = .ok (.iconst 1, 1) := by decide +kernel
theorem dX7_freeze_130 : decode cX7_freeze 130 = .ok (.iastore, 1) := by decide +kernel
theorem dX7_freeze_131 : decode cX7_freeze 131 = .ok (.aload_n 0, 1) := by decide +kernel
theorem dX7_freeze_132 : decode cX7_freeze 132 = .ok (.getfield 7, 3) := by decide +kernel
theorem dX7_freeze_135 : decode cX7_freeze 135 = .ok (.bipush 76, 2) := by decide +kernel
theorem dX7_freeze_137 : decode cX7_freeze 137 = .ok (.iconst 1, 1) := by decide +kernel
theorem dX7_freeze_138 : decode cX7_freeze 138 = .ok (.iload_n 2, 1) := by decide +kernel
theorem dX7_freeze_139 : decode cX7_freeze 139 = .ok (.isub, 1) := by decide +kernel
theorem dX7_freeze_140 : decode cX7_freeze 140 = .ok (.iastore, 1) := by decide +kernel
theorem dX7_freeze_141 : decode cX7_freeze 141 = .ok (.aload_n 0, 1) := by decide +kernel
theorem dX7_freeze_142 : decode cX7_freeze 142 = .ok (.getfield 7, 3) := by decide +kernel
theorem dX7_freeze_145 : decode cX7_freeze 145 = .ok (.bipush 75, 2) := by decide +kernel
theorem dX7_freeze_147 : decode cX7_freeze 147 = .ok (.iconst 0, 1) := by decide +kernel
theorem dX7_freeze_148 : decode cX7_freeze 148 = .ok (.iastore, 1) := by decide +kernel
theorem dX7_freeze_149 : decode cX7_freeze 149 = .ok (.aload_n 0, 1) := by decide +kernel
theorem dX7_freeze_150 : decode cX7_freeze 150 = .ok (.getfield 7, 3) := by decide +kernel
theorem dX7_freeze_153 : decode cX7_freeze 153 = .ok (.bipush 77, 2) := by decide +kernel
theorem dX7_freeze_155 : decode cX7_freeze 155 = .ok (.iaload, 1) := by decide +kernel
theorem dX7_freeze_156 : decode cX7_freeze 156 = .ok (.ireturn, 1) := by decide +kernel
theorem dX7_type_0 : decode cX7_type 0 = .ok (.aload_n 0, 1) := by decide +kernel
theorem dX7_type_1 : decode cX7_type 1 = .ok (.getfield 101, 3) := by decide +kernel
theorem dX7_type_4 : decode cX7_type 4 = .ok (.bipush 60, 2) := by decide +kernel
theorem dX7_type_6 : decode cX7_type 6 = .ok (.if_icmp .ne 6, 3) := by decide +kernel
theorem dX7_type_9 : decode cX7_type 9 = .ok (.bipush (-3), 2) := by decide +kernel
theorem dX7_type_11 : decode cX7_type 11 = .ok (.ireturn, 1) := by decide +kernel
theorem dX7_type_12 : decode cX7_type 12 = .ok (.aload_n 0, 1) := by decide +kernel
theorem dX7_type_13 : decode cX7_type 13 = .ok (.getfield 19, 3) := by decide +kernel
theorem dX7_type_16 : decode cX7_type 16 = .ok (.aload_n 0, 1) := by decide +kernel
theorem dX7_type_17 : decode cX7_type 17 = .ok (.getfield 101, 3) := by decide +kernel
theorem dX7_type_20 : decode cX7_type 20 = .ok (.iload_n 1, 1) := by decide +kernel
theorem dX7_type_21 : decode cX7_type 21 = .ok (.castore, 1) := by decide +kernel
theorem dX7_type_22 : decode cX7_type 22 = .ok (.aload_n 0, 1) := by decide +kernel
theorem dX7_type_23 : decode cX7_type 23 = .ok (.dup, 1) := by decide +kernel
theorem dX7_type_24 : decode cX7_type 24 = .ok (.getfield 101, 3) := by decide +kernel
theorem dX7_type_27 : decode cX7_type 27 = .ok (.iconst 1, 1) := by decide +kernel
theorem dX7_type_28 : decode cX7_type 28 = .ok (.iadd, 1) := by decide +kernel
theorem dX7_type_29 : decode cX7_type 29 = .ok (.putfield 101, 3) := by decide +kernel
theorem dX7_type_32 : decode cX7_type 32 = .ok (.aload_n 0, 1) := by decide +kernel
theorem dX7_type_33 : decode cX7_type 33 = .ok (.getfield 101, 3) := by decide +kernel
theorem dX7_type_36 : decode cX7_type 36 = .ok (.ireturn, 1) := by decide +kernel
theorem dX7_clearText_0 : decode cX7_clearText 0 = .ok (.aload_n 0, 1) := by decide +kernel
theorem dX7_clearText_1 : decode cX7_clearText 1 = .ok (.getfield 101, 3) := by decide +kernel
theorem dX7_clearText_4 : decode cX7_clearText 4 = .ok (.istore_n 1, 1) := by decide +kernel
theorem dX7_clearText_5 : decode cX7_clearText 5 = .ok (.aload_n 0, 1) := by decide +kernel
theorem dX7_clearText_6 : decode cX7_clearText 6 = .ok (.iconst 0, 1) := by decide +kernel
theorem dX7_clearText_7 : decode cX7_clearText 7 = .ok (.putfield 101, 3) := by decide +kernel
theorem dX7_clearText_10 : decode cX7_clearText 10 = .ok (.iload_n 1, 1) := by decide +kernel
theorem dX7_clearText_11 : decode cX7_clearText 11 = .ok (.ireturn, 1) := by decide +kernel
theorem dX7_sees_0 : decode cX7_sees 0 = .ok (.aload_n 0, 1) := by decide +kernel
theorem dX7_sees_1 : decode cX7_sees 1 = .ok (.getfield 104, 3) := by decide +kernel
theorem dX7_sees_4 : decode cX7_sees 4 = .ok (.aload_n 0, 1) := by decide +kernel
theorem dX7_sees_5 : decode cX7_sees 5 = .ok (.getfield 101, 3) := by decide +kernel
theorem dX7_sees_8 : decode cX7_sees 8 = .ok (.if_icmp .ge 24, 3) := by decide +kernel
theorem dX7_sees_11 : decode cX7_sees 11 = .ok (.aload_n 0, 1) := by decide +kernel
theorem dX7_sees_12 : decode cX7_sees 12 = .ok (.getfield 19, 3) := by decide +kernel
theorem dX7_sees_15 : decode cX7_sees 15 = .ok (.aload_n 0, 1) := by decide +kernel
theorem dX7_sees_16 : decode cX7_sees 16 = .ok (.getfield 104, 3) := by decide +kernel
theorem dX7_sees_19 : decode cX7_sees 19 = .ok (.caload, 1) := by decide +kernel
theorem dX7_sees_20 : decode cX7_sees 20 = .ok (.iload_n 1, 1) := by decide +kernel
theorem dX7_sees_21 : decode cX7_sees 21 = .ok (.iload_n 2, 1) := by decide +kernel
theorem dX7_sees_22 : decode cX7_sees 22 = .ok (.invokestatic 36, 3) := by decide +kernel
theorem dX7_sees_25 : decode cX7_sees 25 = .ok (.ifCond .eq 7, 3) := by decide +kernel
theorem dX7_sees_28 : decode cX7_sees 28 = .ok (.iconst 1, 1) := by decide +kernel
theorem dX7_sees_29 : decode cX7_sees 29 = .ok (.goto 4, 3) := by decide +kernel
theorem dX7_sees_32 : decode cX7_sees 32 = .ok (.iconst 0, 1) := by decide +kernel
theorem dX7_sees_33 : decode cX7_sees 33 = .ok (.ireturn, 1) := by decide +kernel
theorem dX7_readPairs_0 : decode cX7_readPairs 0 = .ok (.aload_n 0, 1) := by decide +kernel
theorem dX7_readPairs_1 : decode cX7_readPairs 1 = .ok (.iconst 0, 1) := by decide +kernel
theorem dX7_readPairs_2 : decode cX7_readPairs 2 = .ok (.putfield 104, 3) := by decide +kernel
theorem dX7_readPairs_5 : decode cX7_readPairs 5 = .ok (.iconst 0, 1) := by decide +kernel
theorem dX7_readPairs_6 : decode cX7_readPairs 6 = .ok (.istore_n 1, 1) := by decide +kernel
theorem dX7_readPairs_7 : decode cX7_readPairs 7 = .ok (.iconst 1, 1) := by decide +kernel
theorem dX7_readPairs_8 : decode cX7_readPairs 8 = .ok (.istore_n 2, 1) := by decide +kernel
theorem dX7_readPairs_9 : decode cX7_readPairs 9 = .ok (.iload_n 2, 1) := by decide +kernel
theorem dX7_readPairs_10 : decode cX7_readPairs 10 = .ok (.ifCond .eq 95, 3) := by decide +kernel
theorem dX7_readPairs_13 : decode cX7_readPairs 13 = .ok (.iconst 0, 1) := by decide +kernel
theorem dX7_readPairs_14 : decode cX7_readPairs 14 = .ok (.istore_n 3, 1) := by decide +kernel
theorem dX7_readPairs_15 : decode cX7_readPairs 15 = .ok (.iload_n 3, 1) := by decide +kernel
theorem dX7_readPairs_16 : decode cX7_readPairs 16 = .ok (.iconst 2, 1) := by decide +kernel
theorem dX7_readPairs_17 : decode cX7_readPairs 17 = .ok (.if_icmp .ge 55, 3) := by decide +kernel
theorem dX7_readPairs_20 : decode cX7_readPairs 20 = .ok (.aload_n 0, 1) := by decide +kernel
theorem dX7_readPairs_21 : decode cX7_readPairs 21 = .ok (.bipush 48, 2) := by decide +kernel
theorem dX7_readPairs_23 : decode cX7_readPairs 23 = .ok (.bipush 57, 2) := by decide +kernel
theorem dX7_readPairs_25 : decode cX7_readPairs 25 = .ok (.invokevirtual 107, 3) := by decide +kernel
theorem dX7_readPairs_28 : decode cX7_readPairs 28 = .ok (.ifCond .ne 6, 3) := by decide +kernel
theorem dX7_readPairs_31 : decode cX7_readPairs 31 = .ok (.bipush (-5), 2) := by decide +kernel
theorem dX7_readPairs_33 : decode cX7_readPairs 33 = .ok (.ireturn, 1) := by decide +kernel
theorem dX7_readPairs_34 : decode cX7_readPairs 34 = .ok (.aload_n 0, 1) := by decide +kernel
theorem dX7_readPairs_35 : decode cX7_readPairs 35 = .ok (.getfield 23, 3) := by decide +kernel
theorem dX7_readPairs_38 : decode cX7_readPairs 38 = .ok (.iconst 2, 1) := by decide +kernel
theorem dX7_readPairs_39 : decode cX7_readPairs 39 = .ok (.iload_n 1, 1) := by decide +kernel
theorem dX7_readPairs_40 : decode cX7_readPairs 40 = .ok (.imul, 1) := by decide +kernel
theorem dX7_readPairs_41 : decode cX7_readPairs 41 = .ok (.iload_n 3, 1) := by decide +kernel
theorem dX7_readPairs_42 : decode cX7_readPairs 42 = .ok (.iadd, 1) := by decide +kernel
theorem dX7_readPairs_43 : decode cX7_readPairs 43 = .ok (.aload_n 0, 1) := by decide +kernel
theorem dX7_readPairs_44 : decode cX7_readPairs 44 = .ok (.getfield 19, 3) := by decide +kernel
theorem dX7_readPairs_47 : decode cX7_readPairs 47 = .ok (.aload_n 0, 1) := by decide +kernel
theorem dX7_readPairs_48 : decode cX7_readPairs 48 = .ok (.getfield 104, 3) := by decide +kernel
theorem dX7_readPairs_51 : decode cX7_readPairs 51 = .ok (.caload, 1) := by decide +kernel
theorem dX7_readPairs_52 : decode cX7_readPairs 52 = .ok (.bipush 48, 2) := by decide +kernel
theorem dX7_readPairs_54 : decode cX7_readPairs 54 = .ok (.isub, 1) := by decide +kernel
theorem dX7_readPairs_55 : decode cX7_readPairs 55 = .ok (.iastore, 1) := by decide +kernel
theorem dX7_readPairs_56 : decode cX7_readPairs 56 = .ok (.aload_n 0, 1) := by decide +kernel
theorem dX7_readPairs_57 : decode cX7_readPairs 57 = .ok (.dup, 1) := by decide +kernel
theorem dX7_readPairs_58 : decode cX7_readPairs 58 = .ok (.getfield 104, 3) := by decide +kernel
theorem dX7_readPairs_61 : decode cX7_readPairs 61 = .ok (.iconst 1, 1) := by decide +kernel
theorem dX7_readPairs_62 : decode cX7_readPairs 62 = .ok (.iadd, 1) := by decide +kernel
theorem dX7_readPairs_63 : decode cX7_readPairs 63 = .ok (.putfield 104, 3) := by decide +kernel
theorem dX7_readPairs_66 : decode cX7_readPairs 66 = .ok (.iinc 3 1, 3) := by decide +kernel
theorem dX7_readPairs_69 : decode cX7_readPairs 69 = .ok (.goto (-54), 3) := by decide +kernel
theorem dX7_readPairs_72 : decode cX7_readPairs 72 = .ok (.iinc 1 1, 3) := by decide +kernel
theorem dX7_readPairs_75 : decode cX7_readPairs 75 = .ok (.aload_n 0, 1) := by decide +kernel
theorem dX7_readPairs_76 : decode cX7_readPairs 76 = .ok (.bipush 44, 2) := by decide +kernel
theorem dX7_readPairs_78 : decode cX7_readPairs 78 = .ok (.bipush 44, 2) := by decide +kernel
theorem dX7_readPairs_80 : decode cX7_readPairs 80 = .ok (.invokevirtual 107, 3) := by decide +kernel
theorem dX7_readPairs_83 : decode cX7_readPairs 83 = .ok (.istore_n 2, 1) := by decide +kernel
theorem dX7_readPairs_84 : decode cX7_readPairs 84 = .ok (.aload_n 0, 1) := by decide +kernel
theorem dX7_readPairs_85 : decode cX7_readPairs 85 = .ok (.dup, 1) := by decide +kernel
theorem dX7_readPairs_86 : decode cX7_readPairs 86 = .ok (.getfield 104, 3) := by decide +kernel
theorem dX7_readPairs_89 : decode cX7_readPairs 89 = .ok (.iload_n 2, 1) := by decide +kernel
theorem dX7_readPairs_90 : decode cX7_readPairs 90 = .ok (.ifCond .eq 7, 3) := by decide +kernel
theorem dX7_readPairs_93 : decode cX7_readPairs 93 = .ok (.iconst 1, 1) := by decide +kernel
theorem dX7_readPairs_94 : decode cX7_readPairs 94 = .ok (.goto 4, 3) := by decide +kernel
theorem dX7_readPairs_97 : decode cX7_readPairs 97 = .ok (.iconst 0, 1) := by decide +kernel
theorem dX7_readPairs_98 : decode cX7_readPairs 98 = .ok (.iadd, 1) := by decide +kernel
theorem dX7_readPairs_99 : decode cX7_readPairs 99 = .ok (.putfield 104, 3) := by decide +kernel
theorem dX7_readPairs_102 : decode cX7_readPairs 102 = .ok (.goto (-93), 3) := by decide +kernel
theorem dX7_readPairs_105 : decode cX7_readPairs 105 = .ok (.aload_n 0, 1) := by decide +kernel
theorem dX7_readPairs_106 : decode cX7_readPairs 106 = .ok (.getfield 104, 3) := by decide +kernel
theorem dX7_readPairs_109 : decode cX7_readPairs 109 = .ok (.aload_n 0, 1) := by decide +kernel
theorem dX7_readPairs_110 : decode cX7_readPairs 110 = .ok (.getfield 101, 3) := by decide +kernel
theorem dX7_readPairs_113 : decode cX7_readPairs 113 = .ok (.if_icmp .ge 8, 3) := by decide +kernel
theorem dX7_readPairs_116 : decode cX7_readPairs 116 = .ok (.bipush (-5), 2) := by decide +kernel
theorem dX7_readPairs_118 : decode cX7_readPairs 118 = .ok (.goto 4, 3) := by decide +kernel
theorem dX7_readPairs_121 : decode cX7_readPairs 121 = .ok (.iload_n 1, 1) := by decide +kernel
theorem dX7_readPairs_122 : decode cX7_readPairs 122 = .ok (.ireturn, 1) := by decide +kernel
theorem dX7_readVotes_0 : decode cX7_readVotes 0 = .ok (.iload_n 1, 1) := by decide +kernel
theorem dX7_readVotes_1 : decode cX7_readVotes 1 = .ok (.invokestatic 51, 3) := by decide +kernel
theorem dX7_readVotes_4 : decode cX7_readVotes 4 = .ok (.ifCond .eq 5, 3) := by decide +kernel
theorem dX7_readVotes_7 : decode cX7_readVotes 7 = .ok (.iconst (-1), 1) := by decide +kernel
theorem dX7_readVotes_8 : decode cX7_readVotes 8 = .ok (.ireturn, 1) := by decide +kernel
theorem dX7_readVotes_9 : decode cX7_readVotes 9 = .ok (.aload_n 0, 1) := by decide +kernel
theorem dX7_readVotes_10 : decode cX7_readVotes 10 = .ok (.invokevirtual 111, 3) := by decide +kernel
theorem dX7_readVotes_13 : decode cX7_readVotes 13 = .ok (.istore_n 2, 1) := by decide +kernel
theorem dX7_readVotes_14 : decode cX7_readVotes 14 = .ok (.iload_n 2, 1) := by decide +kernel
theorem dX7_readVotes_15 : decode cX7_readVotes 15 = .ok (.ifCond .ge 11, 3) := by decide +kernel
theorem dX7_readVotes_18 : decode cX7_readVotes 18 = .ok (.bipush (-100), 2) := by decide +kernel
theorem dX7_readVotes_20 : decode cX7_readVotes 20 = .ok (.aload_n 0, 1) := by decide +kernel
theorem dX7_readVotes_21 : decode cX7_readVotes 21 = .ok (.getfield 104, 3) := by decide +kernel
theorem dX7_readVotes_24 : decode cX7_readVotes 24 = .ok (.isub, 1) := by decide +kernel
theorem dX7_readVotes_25 : decode cX7_readVotes 25 = .ok (.ireturn, 1) := by decide +kernel
theorem dX7_readVotes_26 : decode cX7_readVotes 26 = .ok (.iload_n 1, 1) := by decide +kernel
theorem dX7_readVotes_27 : decode cX7_readVotes 27 = .ok (.iload_n 2, 1) := by decide +kernel
theorem dX7_readVotes_28 : decode cX7_readVotes 28 = .ok (.iadd, 1) := by decide +kernel
theorem dX7_readVotes_29 : decode cX7_readVotes 29 = .ok (.bipush 36, 2) := by decide +kernel
theorem dX7_readVotes_31 : decode cX7_readVotes 31 = .ok (.if_icmp .le 6, 3) := by decide +kernel
theorem dX7_readVotes_34 : decode cX7_readVotes 34 = .ok (.bipush (-2), 2) := by decide +kernel
theorem dX7_readVotes_36 : decode cX7_readVotes 36 = .ok (.ireturn, 1) := by decide +kernel
theorem dX7_readVotes_37 : decode cX7_readVotes 37 = .ok (.aload_n 0, 1) := by decide +kernel
theorem dX7_readVotes_38 : decode cX7_readVotes 38 = .ok (.invokevirtual 48, 3) := by decide +kernel
theorem dX7_readVotes_41 : decode cX7_readVotes 41 = .ok (.iconst 0, 1) := by decide +kernel
theorem dX7_readVotes_42 : decode cX7_readVotes 42 = .ok (.istore_n 3, 1) := by decide +kernel
theorem dX7_readVotes_43 : decode cX7_readVotes 43 = .ok (.iload_n 3, 1) := by decide +kernel
theorem dX7_readVotes_44 : decode cX7_readVotes 44 = .ok (.iconst 2, 1) := by decide +kernel
theorem dX7_readVotes_45 : decode cX7_readVotes 45 = .ok (.iload_n 2, 1) := by decide +kernel
theorem dX7_readVotes_46 : decode cX7_readVotes 46 = .ok (.imul, 1) := by decide +kernel
theorem dX7_readVotes_47 : decode cX7_readVotes 47 = .ok (.if_icmp .ge 27, 3) := by decide +kernel
theorem dX7_readVotes_50 : decode cX7_readVotes 50 = .ok (.aload_n 0, 1) := by decide +kernel
theorem dX7_readVotes_51 : decode cX7_readVotes 51 = .ok (.getfield 7, 3) := by decide +kernel
theorem dX7_readVotes_54 : decode cX7_readVotes 54 = .ok (.iconst 0, 1) := by decide +kernel
theorem dX7_readVotes_55 : decode cX7_readVotes 55 = .ok (.iconst 2, 1) := by decide +kernel
theorem dX7_readVotes_56 : decode cX7_readVotes 56 = .ok (.iload_n 1, 1) := by decide +kernel
theorem dX7_readVotes_57 : decode cX7_readVotes 57 = .ok (.imul, 1) := by decide +kernel
theorem dX7_readVotes_58 : decode cX7_readVotes 58 = .ok (.iadd, 1) := by decide +kernel
theorem dX7_readVotes_59 : decode cX7_readVotes 59 = .ok (.iload_n 3, 1) := by decide +kernel
theorem dX7_readVotes_60 : decode cX7_readVotes 60 = .ok (.iadd, 1) := by decide +kernel
theorem dX7_readVotes_61 : decode cX7_readVotes 61 = .ok (.aload_n 0, 1) := by decide +kernel
theorem dX7_readVotes_62 : decode cX7_readVotes 62 = .ok (.getfield 23, 3) := by decide +kernel
theorem dX7_readVotes_65 : decode cX7_readVotes 65 = .ok (.iload_n 3, 1) := by decide +kernel
theorem dX7_readVotes_66 : decode cX7_readVotes 66 = .ok (.iaload, 1) := by decide +kernel
theorem dX7_readVotes_67 : decode cX7_readVotes 67 = .ok (.iastore, 1) := by decide +kernel
theorem dX7_readVotes_68 : decode cX7_readVotes 68 = .ok (.iinc 3 1, 3) := by decide +kernel
theorem dX7_readVotes_71 : decode cX7_readVotes 71 = .ok (.goto (-28), 3) := by decide +kernel
theorem dX7_readVotes_74 : decode cX7_readVotes 74 = .ok (.iload_n 2, 1) := by decide +kernel
theorem dX7_readVotes_75 : decode cX7_readVotes 75 = .ok (.ireturn, 1) := by decide +kernel
theorem dX7_alikeBeside_0 : decode cX7_alikeBeside 0 = .ok (.aload_n 0, 1) := by decide +kernel
theorem dX7_alikeBeside_1 : decode cX7_alikeBeside 1 = .ok (.iload_n 1, 1) := by decide +kernel
theorem dX7_alikeBeside_2 : decode cX7_alikeBeside 2 = .ok (.invokevirtual 74, 3) := by decide +kernel
theorem dX7_alikeBeside_5 : decode cX7_alikeBeside 5 = .ok (.ifCond .eq 8, 3) := by decide +kernel
theorem dX7_alikeBeside_8 : decode cX7_alikeBeside 8 = .ok (.bipush 79, 2) := by decide +kernel
theorem dX7_alikeBeside_10 : decode cX7_alikeBeside 10 = .ok (.goto 5, 3) := by decide +kernel
theorem dX7_alikeBeside_13 : decode cX7_alikeBeside 13 = .ok (.bipush 115, 2) := by decide +kernel
theorem dX7_alikeBeside_15 : decode cX7_alikeBeside 15 = .ok (.istore_n 2, 1) := by decide +kernel
theorem dX7_alikeBeside_16 : decode cX7_alikeBeside 16 = .ok (.aload_n 0, 1) := by decide +kernel
theorem dX7_alikeBeside_17 : decode cX7_alikeBeside 17 = .ok (.getfield 7, 3) := by decide +kernel
theorem dX7_alikeBeside_20 : decode cX7_alikeBeside 20 = .ok (.iload_n 2, 1) := by decide +kernel
theorem dX7_alikeBeside_21 : decode cX7_alikeBeside 21 = .ok (.iload_n 1, 1) := by decide +kernel
theorem dX7_alikeBeside_22 : decode cX7_alikeBeside 22 = .ok (.iadd, 1) := by decide +kernel
theorem dX7_alikeBeside_23 : decode cX7_alikeBeside 23 = .ok (.iaload, 1) := by decide +kernel
theorem dX7_alikeBeside_24 : decode cX7_alikeBeside 24 = .ok (.istore_n 3, 1) := by decide +kernel
theorem dX7_alikeBeside_25 : decode cX7_alikeBeside 25 = .ok (.iconst 0, 1) := by decide +kernel
theorem dX7_alikeBeside_26 : decode cX7_alikeBeside 26 = .ok (.istore 4, 2) := by decide +kernel
theorem dX7_alikeBeside_28 : decode cX7_alikeBeside 28 = .ok (.iconst 0, 1) := by decide +kernel
theorem dX7_alikeBeside_29 : decode cX7_alikeBeside 29 = .ok (.istore 5, 2) := by decide +kernel
theorem dX7_alikeBeside_31 : decode cX7_alikeBeside 31 = .ok (.iload 5, 2) := by decide +kernel
theorem dX7_alikeBeside_33 : decode cX7_alikeBeside 33 = .ok (.iconst 4, 1) := by decide +kernel
theorem dX7_alikeBeside_34 : decode cX7_alikeBeside 34 = .ok (.if_icmp .ge 49, 3) := by decide +kernel
theorem dX7_alikeBeside_37 : decode cX7_alikeBeside 37 = .ok (.iload_n 3, 1) := by decide +kernel
theorem dX7_alikeBeside_38 : decode cX7_alikeBeside 38 = .ok (.ifCond .lt 45, 3) := by decide +kernel
theorem dX7_alikeBeside_41 : decode cX7_alikeBeside 41 = .ok (.iload_n 1, 1) := by decide +kernel
theorem dX7_alikeBeside_42 : decode cX7_alikeBeside 42 = .ok (.iload 5, 2) := by decide +kernel
theorem dX7_alikeBeside_44 : decode cX7_alikeBeside 44 = .ok (.invokestatic 67, 3) := by decide +kernel
theorem dX7_alikeBeside_47 : decode cX7_alikeBeside 47 = .ok (.istore 6, 2) := by decide +kernel
theorem dX7_alikeBeside_49 : decode cX7_alikeBeside 49 = .ok (.iload 4, 2) := by decide +kernel
theorem dX7_alikeBeside_51 : decode cX7_alikeBeside 51 = .ok (.iload 6, 2) := by decide +kernel
theorem dX7_alikeBeside_53 : decode cX7_alikeBeside 53 = .ok (.ifCond .lt 20, 3) := by decide +kernel
theorem dX7_alikeBeside_56 : decode cX7_alikeBeside 56 = .ok (.aload_n 0, 1) := by decide +kernel
theorem dX7_alikeBeside_57 : decode cX7_alikeBeside 57 = .ok (.getfield 7, 3) := by decide +kernel
theorem dX7_alikeBeside_60 : decode cX7_alikeBeside 60 = .ok (.iload_n 2, 1) := by decide +kernel
theorem dX7_alikeBeside_61 : decode cX7_alikeBeside 61 = .ok (.iload 6, 2) := by decide +kernel
theorem dX7_alikeBeside_63 : decode cX7_alikeBeside 63 = .ok (.iadd, 1) := by decide +kernel
theorem dX7_alikeBeside_64 : decode cX7_alikeBeside 64 = .ok (.iaload, 1) := by decide +kernel
theorem dX7_alikeBeside_65 : decode cX7_alikeBeside 65 = .ok (.iload_n 3, 1) := by decide +kernel
theorem dX7_alikeBeside_66 : decode cX7_alikeBeside 66 = .ok (.if_icmp .ne 7, 3) := by decide +kernel
theorem dX7_alikeBeside_69 : decode cX7_alikeBeside 69 = .ok (.iconst 1, 1) := by decide +kernel
theorem dX7_alikeBeside_70 : decode cX7_alikeBeside 70 = .ok (.goto 4, 3) := by decide +kernel
theorem dX7_alikeBeside_73 : decode cX7_alikeBeside 73 = .ok (.iconst 0, 1) := by decide +kernel
theorem dX7_alikeBeside_74 : decode cX7_alikeBeside 74 = .ok (.iadd, 1) := by decide +kernel
theorem dX7_alikeBeside_75 : decode cX7_alikeBeside 75 = .ok (.istore 4, 2) := by decide +kernel
theorem dX7_alikeBeside_77 : decode cX7_alikeBeside 77 = .ok (.iinc 5 1, 3) := by decide +kernel
theorem dX7_alikeBeside_80 : decode cX7_alikeBeside 80 = .ok (.goto (-49), 3) := by decide +kernel
theorem dX7_alikeBeside_83 : decode cX7_alikeBeside 83 = .ok (.iload 4, 2) := by decide +kernel
theorem dX7_alikeBeside_85 : decode cX7_alikeBeside 85 = .ok (.ireturn, 1) := by decide +kernel
theorem dX7_orNone_0 : decode cX7_orNone 0 = .ok (.iload_n 0, 1) := by decide +kernel
theorem dX7_orNone_1 : decode cX7_orNone 1 = .ok (.ifCond .ge 8, 3) := by decide +kernel
theorem dX7_orNone_4 : decode cX7_orNone 4 = .ok (.bipush (-5), 2) := by decide +kernel
theorem dX7_orNone_6 : decode cX7_orNone 6 = .ok (.goto 4, 3) := by decide +kernel
theorem dX7_orNone_9 : decode cX7_orNone 9 = .ok (.iload_n 0, 1) := by decide +kernel
theorem dX7_orNone_10 : decode cX7_orNone 10 = .ok (.ireturn, 1) := by decide +kernel
theorem dX7_cell_0 : decode cX7_cell 0 = .ok (.iload_n 1, 1) := by decide +kernel
theorem dX7_cell_1 : decode cX7_cell 1 = .ok (.invokestatic 51, 3) := by decide +kernel
theorem dX7_cell_4 : decode cX7_cell 4 = .ok (.ifCond .eq 5, 3) := by decide +kernel
theorem dX7_cell_7 : decode cX7_cell 7 = .ok (.iconst (-1), 1) := by decide +kernel
theorem dX7_cell_8 : decode cX7_cell 8 = .ok (.ireturn, 1) := by decide +kernel
theorem dX7_cell_9 : decode cX7_cell 9 = .ok (.iload_n 2, 1) := by decide +kernel
theorem dX7_cell_10 : decode cX7_cell 10 = .ok (.tableswitch 77 0 4 #[34, 34, 45, 58, 71], 34) := by decide +kernel
theorem dX7_cell_44 : decode cX7_cell 44 = .ok (.aload_n 0, 1) := by decide +kernel
theorem dX7_cell_45 : decode cX7_cell 45 = .ok (.getfield 7, 3) := by decide +kernel
theorem dX7_cell_48 : decode cX7_cell 48 = .ok (.iconst 2, 1) := by decide +kernel
theorem dX7_cell_49 : decode cX7_cell 49 = .ok (.iload_n 1, 1) := by decide +kernel
theorem dX7_cell_50 : decode cX7_cell 50 = .ok (.imul, 1) := by decide +kernel
theorem dX7_cell_51 : decode cX7_cell 51 = .ok (.iload_n 2, 1) := by decide +kernel
theorem dX7_cell_52 : decode cX7_cell 52 = .ok (.iadd, 1) := by decide +kernel
theorem dX7_cell_53 : decode cX7_cell 53 = .ok (.iaload, 1) := by decide +kernel
theorem dX7_cell_54 : decode cX7_cell 54 = .ok (.ireturn, 1) := by decide +kernel
theorem dX7_cell_55 : decode cX7_cell 55 = .ok (.aload_n 0, 1) := by decide +kernel
theorem dX7_cell_56 : decode cX7_cell 56 = .ok (.getfield 7, 3) := by decide +kernel
theorem dX7_cell_59 : decode cX7_cell 59 = .ok (.bipush 79, 2) := by decide +kernel
theorem dX7_cell_61 : decode cX7_cell 61 = .ok (.iload_n 1, 1) := by decide +kernel
theorem dX7_cell_62 : decode cX7_cell 62 = .ok (.iadd, 1) := by decide +kernel
theorem dX7_cell_63 : decode cX7_cell 63 = .ok (.iaload, 1) := by decide +kernel
theorem dX7_cell_64 : decode cX7_cell 64 = .ok (.invokestatic 114, 3) := by decide +kernel
theorem dX7_cell_67 : decode cX7_cell 67 = .ok (.ireturn, 1) := by decide +kernel
theorem dX7_cell_68 : decode cX7_cell 68 = .ok (.aload_n 0, 1) := by decide +kernel
theorem dX7_cell_69 : decode cX7_cell 69 = .ok (.getfield 7, 3) := by decide +kernel
theorem dX7_cell_72 : decode cX7_cell 72 = .ok (.bipush 115, 2) := by decide +kernel
theorem dX7_cell_74 : decode cX7_cell 74 = .ok (.iload_n 1, 1) := by decide +kernel
theorem dX7_cell_75 : decode cX7_cell 75 = .ok (.iadd, 1) := by decide +kernel
theorem dX7_cell_76 : decode cX7_cell 76 = .ok (.iaload, 1) := by decide +kernel
theorem dX7_cell_77 : decode cX7_cell 77 = .ok (.invokestatic 114, 3) := by decide +kernel
theorem dX7_cell_80 : decode cX7_cell 80 = .ok (.ireturn, 1) := by decide +kernel
theorem dX7_cell_81 : decode cX7_cell 81 = .ok (.aload_n 0, 1) := by decide +kernel
theorem dX7_cell_82 : decode cX7_cell 82 = .ok (.iload_n 1, 1) := by decide +kernel
theorem dX7_cell_83 : decode cX7_cell 83 = .ok (.invokevirtual 117, 3) := by decide +kernel
theorem dX7_cell_86 : decode cX7_cell 86 = .ok (.ireturn, 1) := by decide +kernel
theorem dX7_cell_87 : decode cX7_cell 87 = .ok (.bipush (-2), 2) := by decide +kernel
theorem dX7_cell_89 : decode cX7_cell 89 = .ok (.ireturn, 1) := by decide +kernel
theorem dX7_part_0 : decode cX7_part 0 = .ok (.iload_n 1, 1) := by decide +kernel
theorem dX7_part_1 : decode cX7_part 1 = .ok (.iconst 0, 1) := by decide +kernel
theorem dX7_part_2 : decode cX7_part 2 = .ok (.aload_n 0, 1) := by decide +kernel
theorem dX7_part_3 : decode cX7_part 3 = .ok (.invokevirtual 77, 3) := by decide +kernel
theorem dX7_part_6 : decode cX7_part 6 = .ok (.iconst 1, 1) := by decide +kernel
theorem dX7_part_7 : decode cX7_part 7 = .ok (.isub, 1) := by decide +kernel
theorem dX7_part_8 : decode cX7_part 8 = .ok (.invokestatic 36, 3) := by decide +kernel
theorem dX7_part_11 : decode cX7_part 11 = .ok (.ifCond .ne 5, 3) := by decide +kernel
theorem dX7_part_14 : decode cX7_part 14 = .ok (.iconst (-1), 1) := by decide +kernel
theorem dX7_part_15 : decode cX7_part 15 = .ok (.ireturn, 1) := by decide +kernel
theorem dX7_part_16 : decode cX7_part 16 = .ok (.iload_n 2, 1) := by decide +kernel
theorem dX7_part_17 : decode cX7_part 17 = .ok (.tableswitch 89 0 5 #[39, 47, 53, 61, 73, 81], 39) := by decide +kernel
theorem dX7_part_56 : decode cX7_part 56 = .ok (.aload_n 0, 1) := by decide +kernel
theorem dX7_part_57 : decode cX7_part 57 = .ok (.bipush 79, 2) := by decide +kernel
theorem dX7_part_59 : decode cX7_part 59 = .ok (.iload_n 1, 1) := by decide +kernel
theorem dX7_part_60 : decode cX7_part 60 = .ok (.invokevirtual 80, 3) := by decide +kernel
theorem dX7_part_63 : decode cX7_part 63 = .ok (.ireturn, 1) := by decide +kernel
theorem dX7_part_64 : decode cX7_part 64 = .ok (.aload_n 0, 1) := by decide +kernel
theorem dX7_part_65 : decode cX7_part 65 = .ok (.iload_n 1, 1) := by decide +kernel
theorem dX7_part_66 : decode cX7_part 66 = .ok (.invokevirtual 83, 3) := by decide +kernel
theorem dX7_part_69 : decode cX7_part 69 = .ok (.ireturn, 1) := by decide +kernel
theorem dX7_part_70 : decode cX7_part 70 = .ok (.aload_n 0, 1) := by decide +kernel
theorem dX7_part_71 : decode cX7_part 71 = .ok (.bipush 79, 2) := by decide +kernel
theorem dX7_part_73 : decode cX7_part 73 = .ok (.iload_n 1, 1) := by decide +kernel
theorem dX7_part_74 : decode cX7_part 74 = .ok (.invokevirtual 120, 3) := by decide +kernel
theorem dX7_part_77 : decode cX7_part 77 = .ok (.ireturn, 1) := by decide +kernel
theorem dX7_part_78 : decode cX7_part 78 = .ok (.sipush 1000, 3) := by decide +kernel
theorem dX7_part_81 : decode cX7_part 81 = .ok (.aload_n 0, 1) := by decide +kernel
theorem dX7_part_82 : decode cX7_part 82 = .ok (.bipush 79, 2) := by decide +kernel
theorem dX7_part_84 : decode cX7_part 84 = .ok (.iload_n 1, 1) := by decide +kernel
theorem dX7_part_85 : decode cX7_part 85 = .ok (.invokevirtual 63, 3) := by decide +kernel
theorem dX7_part_88 : decode cX7_part 88 = .ok (.iadd, 1) := by decide +kernel
theorem dX7_part_89 : decode cX7_part 89 = .ok (.ireturn, 1) := by decide +kernel
theorem dX7_part_90 : decode cX7_part 90 = .ok (.aload_n 0, 1) := by decide +kernel
theorem dX7_part_91 : decode cX7_part 91 = .ok (.bipush 79, 2) := by decide +kernel
theorem dX7_part_93 : decode cX7_part 93 = .ok (.iload_n 1, 1) := by decide +kernel
theorem dX7_part_94 : decode cX7_part 94 = .ok (.invokevirtual 123, 3) := by decide +kernel
theorem dX7_part_97 : decode cX7_part 97 = .ok (.ireturn, 1) := by decide +kernel
theorem dX7_part_98 : decode cX7_part 98 = .ok (.aload_n 0, 1) := by decide +kernel
theorem dX7_part_99 : decode cX7_part 99 = .ok (.bipush 79, 2) := by decide +kernel
theorem dX7_part_101 : decode cX7_part 101 = .ok (.iload_n 1, 1) := by decide +kernel
theorem dX7_part_102 : decode cX7_part 102 = .ok (.invokevirtual 126, 3) := by decide +kernel
theorem dX7_part_105 : decode cX7_part 105 = .ok (.ireturn, 1) := by decide +kernel
theorem dX7_part_106 : decode cX7_part 106 = .ok (.bipush (-2), 2) := by decide +kernel
theorem dX7_part_108 : decode cX7_part 108 = .ok (.ireturn, 1) := by decide +kernel
theorem dX7_wasted_0 : decode cX7_wasted 0 = .ok (.aload_n 0, 1) := by decide +kernel
theorem dX7_wasted_1 : decode cX7_wasted 1 = .ok (.bipush 115, 2) := by decide +kernel
theorem dX7_wasted_3 : decode cX7_wasted 3 = .ok (.iload_n 1, 1) := by decide +kernel
theorem dX7_wasted_4 : decode cX7_wasted 4 = .ok (.iload_n 2, 1) := by decide +kernel
theorem dX7_wasted_5 : decode cX7_wasted 5 = .ok (.invokevirtual 59, 3) := by decide +kernel
theorem dX7_wasted_8 : decode cX7_wasted 8 = .ok (.istore_n 3, 1) := by decide +kernel
theorem dX7_wasted_9 : decode cX7_wasted 9 = .ok (.aload_n 0, 1) := by decide +kernel
theorem dX7_wasted_10 : decode cX7_wasted 10 = .ok (.bipush 115, 2) := by decide +kernel
theorem dX7_wasted_12 : decode cX7_wasted 12 = .ok (.iload_n 1, 1) := by decide +kernel
theorem dX7_wasted_13 : decode cX7_wasted 13 = .ok (.iconst 1, 1) := by decide +kernel
theorem dX7_wasted_14 : decode cX7_wasted 14 = .ok (.iload_n 2, 1) := by decide +kernel
theorem dX7_wasted_15 : decode cX7_wasted 15 = .ok (.isub, 1) := by decide +kernel
theorem dX7_wasted_16 : decode cX7_wasted 16 = .ok (.invokevirtual 59, 3) := by decide +kernel
theorem dX7_wasted_19 : decode cX7_wasted 19 = .ok (.istore 4, 2) := by decide +kernel
theorem dX7_wasted_21 : decode cX7_wasted 21 = .ok (.iload_n 3, 1) := by decide +kernel
theorem dX7_wasted_22 : decode cX7_wasted 22 = .ok (.iload 4, 2) := by decide +kernel
theorem dX7_wasted_24 : decode cX7_wasted 24 = .ok (.if_icmp .le 12, 3) := by decide +kernel
theorem dX7_wasted_27 : decode cX7_wasted 27 = .ok (.iload_n 3, 1) := by decide +kernel
theorem dX7_wasted_28 : decode cX7_wasted 28 = .ok (.iload 4, 2) := by decide +kernel
theorem dX7_wasted_30 : decode cX7_wasted 30 = .ok (.isub, 1) := by decide +kernel
theorem dX7_wasted_31 : decode cX7_wasted 31 = .ok (.iconst 1, 1) := by decide +kernel
theorem dX7_wasted_32 : decode cX7_wasted 32 = .ok (.isub, 1) := by decide +kernel
theorem dX7_wasted_33 : decode cX7_wasted 33 = .ok (.goto 4, 3) := by decide +kernel
theorem dX7_wasted_36 : decode cX7_wasted 36 = .ok (.iload_n 3, 1) := by decide +kernel
theorem dX7_wasted_37 : decode cX7_wasted 37 = .ok (.ireturn, 1) := by decide +kernel
theorem dX7_district_0 : decode cX7_district 0 = .ok (.iload_n 1, 1) := by decide +kernel
theorem dX7_district_1 : decode cX7_district 1 = .ok (.iconst 0, 1) := by decide +kernel
theorem dX7_district_2 : decode cX7_district 2 = .ok (.aload_n 0, 1) := by decide +kernel
theorem dX7_district_3 : decode cX7_district 3 = .ok (.getfield 7, 3) := by decide +kernel
theorem dX7_district_6 : decode cX7_district 6 = .ok (.bipush 77, 2) := by decide +kernel
theorem dX7_district_8 : decode cX7_district 8 = .ok (.iaload, 1) := by decide +kernel
theorem dX7_district_9 : decode cX7_district 9 = .ok (.iconst 1, 1) := by decide +kernel
theorem dX7_district_10 : decode cX7_district 10 = .ok (.isub, 1) := by decide +kernel
theorem dX7_district_11 : decode cX7_district 11 = .ok (.invokestatic 36, 3) := by decide +kernel
theorem dX7_district_14 : decode cX7_district 14 = .ok (.ifCond .ne 5, 3) := by decide +kernel
theorem dX7_district_17 : decode cX7_district 17 = .ok (.iconst (-1), 1) := by decide +kernel
theorem dX7_district_18 : decode cX7_district 18 = .ok (.ireturn, 1) := by decide +kernel
theorem dX7_district_19 : decode cX7_district 19 = .ok (.iload_n 2, 1) := by decide +kernel
theorem dX7_district_20 : decode cX7_district 20 = .ok (.tableswitch 113 0 7 #[48, 56, 67, 75, 87, 95, 103, 103], 48) := by decide +kernel
theorem dX7_district_68 : decode cX7_district 68 = .ok (.aload_n 0, 1) := by decide +kernel
theorem dX7_district_69 : decode cX7_district 69 = .ok (.bipush 115, 2) := by decide +kernel
theorem dX7_district_71 : decode cX7_district 71 = .ok (.iload_n 1, 1) := by decide +kernel
theorem dX7_district_72 : decode cX7_district 72 = .ok (.invokevirtual 80, 3) := by decide +kernel
theorem dX7_district_75 : decode cX7_district 75 = .ok (.ireturn, 1) := by decide +kernel
theorem dX7_district_76 : decode cX7_district 76 = .ok (.aload_n 0, 1) := by decide +kernel
theorem dX7_district_77 : decode cX7_district 77 = .ok (.getfield 7, 3) := by decide +kernel
theorem dX7_district_80 : decode cX7_district 80 = .ok (.sipush 187, 3) := by decide +kernel
theorem dX7_district_83 : decode cX7_district 83 = .ok (.iload_n 1, 1) := by decide +kernel
theorem dX7_district_84 : decode cX7_district 84 = .ok (.iadd, 1) := by decide +kernel
theorem dX7_district_85 : decode cX7_district 85 = .ok (.iaload, 1) := by decide +kernel
theorem dX7_district_86 : decode cX7_district 86 = .ok (.ireturn, 1) := by decide +kernel
theorem dX7_district_87 : decode cX7_district 87 = .ok (.aload_n 0, 1) := by decide +kernel
theorem dX7_district_88 : decode cX7_district 88 = .ok (.bipush 115, 2) := by decide +kernel
theorem dX7_district_90 : decode cX7_district 90 = .ok (.iload_n 1, 1) := by decide +kernel
theorem dX7_district_91 : decode cX7_district 91 = .ok (.invokevirtual 120, 3) := by decide +kernel
theorem dX7_district_94 : decode cX7_district 94 = .ok (.ireturn, 1) := by decide +kernel
theorem dX7_district_95 : decode cX7_district 95 = .ok (.sipush 1000, 3) := by decide +kernel
theorem dX7_district_98 : decode cX7_district 98 = .ok (.aload_n 0, 1) := by decide +kernel
theorem dX7_district_99 : decode cX7_district 99 = .ok (.bipush 115, 2) := by decide +kernel
theorem dX7_district_101 : decode cX7_district 101 = .ok (.iload_n 1, 1) := by decide +kernel
theorem dX7_district_102 : decode cX7_district 102 = .ok (.invokevirtual 63, 3) := by decide +kernel
theorem dX7_district_105 : decode cX7_district 105 = .ok (.iadd, 1) := by decide +kernel
theorem dX7_district_106 : decode cX7_district 106 = .ok (.ireturn, 1) := by decide +kernel
theorem dX7_district_107 : decode cX7_district 107 = .ok (.aload_n 0, 1) := by decide +kernel
theorem dX7_district_108 : decode cX7_district 108 = .ok (.bipush 115, 2) := by decide +kernel
theorem dX7_district_110 : decode cX7_district 110 = .ok (.iload_n 1, 1) := by decide +kernel
theorem dX7_district_111 : decode cX7_district 111 = .ok (.invokevirtual 123, 3) := by decide +kernel
theorem dX7_district_114 : decode cX7_district 114 = .ok (.ireturn, 1) := by decide +kernel
theorem dX7_district_115 : decode cX7_district 115 = .ok (.aload_n 0, 1) := by decide +kernel
theorem dX7_district_116 : decode cX7_district 116 = .ok (.bipush 115, 2) := by decide +kernel
theorem dX7_district_118 : decode cX7_district 118 = .ok (.iload_n 1, 1) := by decide +kernel
theorem dX7_district_119 : decode cX7_district 119 = .ok (.invokevirtual 126, 3) := by decide +kernel
theorem dX7_district_122 : decode cX7_district 122 = .ok (.ireturn, 1) := by decide +kernel
theorem dX7_district_123 : decode cX7_district 123 = .ok (.aload_n 0, 1) := by decide +kernel
theorem dX7_district_124 : decode cX7_district 124 = .ok (.iload_n 1, 1) := by decide +kernel
theorem dX7_district_125 : decode cX7_district 125 = .ok (.iload_n 2, 1) := by decide +kernel
theorem dX7_district_126 : decode cX7_district 126 = .ok (.bipush 6, 2) := by decide +kernel
theorem dX7_district_128 : decode cX7_district 128 = .ok (.isub, 1) := by decide +kernel
theorem dX7_district_129 : decode cX7_district 129 = .ok (.invokevirtual 129, 3) := by decide +kernel
theorem dX7_district_132 : decode cX7_district 132 = .ok (.ireturn, 1) := by decide +kernel
theorem dX7_district_133 : decode cX7_district 133 = .ok (.bipush (-2), 2) := by decide +kernel
theorem dX7_district_135 : decode cX7_district 135 = .ok (.ireturn, 1) := by decide +kernel
theorem dX7_why_0 : decode cX7_why 0 = .ok (.iload_n 1, 1) := by decide +kernel
theorem dX7_why_1 : decode cX7_why 1 = .ok (.iconst 0, 1) := by decide +kernel
theorem dX7_why_2 : decode cX7_why 2 = .ok (.iconst 1, 1) := by decide +kernel
theorem dX7_why_3 : decode cX7_why 3 = .ok (.invokestatic 36, 3) := by decide +kernel
theorem dX7_why_6 : decode cX7_why 6 = .ok (.ifCond .ne 6, 3) := by decide +kernel
theorem dX7_why_9 : decode cX7_why 9 = .ok (.bipush (-2), 2) := by decide +kernel
theorem dX7_why_11 : decode cX7_why 11 = .ok (.ireturn, 1) := by decide +kernel
theorem dX7_why_12 : decode cX7_why 12 = .ok (.aload_n 0, 1) := by decide +kernel
theorem dX7_why_13 : decode cX7_why 13 = .ok (.invokevirtual 87, 3) := by decide +kernel
theorem dX7_why_16 : decode cX7_why 16 = .ok (.ifCond .eq 6, 3) := by decide +kernel
theorem dX7_why_19 : decode cX7_why 19 = .ok (.bipush (-4), 2) := by decide +kernel
theorem dX7_why_21 : decode cX7_why 21 = .ok (.ireturn, 1) := by decide +kernel
theorem dX7_why_22 : decode cX7_why 22 = .ok (.aload_n 0, 1) := by decide +kernel
theorem dX7_why_23 : decode cX7_why 23 = .ok (.invokevirtual 91, 3) := by decide +kernel
theorem dX7_why_26 : decode cX7_why 26 = .ok (.istore_n 2, 1) := by decide +kernel
theorem dX7_why_27 : decode cX7_why 27 = .ok (.iload_n 1, 1) := by decide +kernel
theorem dX7_why_28 : decode cX7_why 28 = .ok (.ifCond .ne 10, 3) := by decide +kernel
theorem dX7_why_31 : decode cX7_why 31 = .ok (.iload_n 2, 1) := by decide +kernel
theorem dX7_why_32 : decode cX7_why 32 = .ok (.bipush 10, 2) := by decide +kernel
theorem dX7_why_34 : decode cX7_why 34 = .ok (.irem, 1) := by decide +kernel
theorem dX7_why_35 : decode cX7_why 35 = .ok (.goto 16, 3) := by decide +kernel
theorem dX7_why_38 : decode cX7_why 38 = .ok (.iload_n 2, 1) := by decide +kernel
theorem dX7_why_39 : decode cX7_why 39 = .ok (.ifCond .ne 8, 3) := by decide +kernel
theorem dX7_why_42 : decode cX7_why 42 = .ok (.bipush (-5), 2) := by decide +kernel
theorem dX7_why_44 : decode cX7_why 44 = .ok (.goto 7, 3) := by decide +kernel
theorem dX7_why_47 : decode cX7_why 47 = .ok (.iload_n 2, 1) := by decide +kernel
theorem dX7_why_48 : decode cX7_why 48 = .ok (.bipush 10, 2) := by decide +kernel
theorem dX7_why_50 : decode cX7_why 50 = .ok (.idiv, 1) := by decide +kernel
theorem dX7_why_51 : decode cX7_why 51 = .ok (.ireturn, 1) := by decide +kernel
theorem dX7_advice_0 : decode cX7_advice 0 = .ok (.aload_n 0, 1) := by decide +kernel
theorem dX7_advice_1 : decode cX7_advice 1 = .ok (.getfield 7, 3) := by decide +kernel
theorem dX7_advice_4 : decode cX7_advice 4 = .ok (.bipush 75, 2) := by decide +kernel
theorem dX7_advice_6 : decode cX7_advice 6 = .ok (.iaload, 1) := by decide +kernel
theorem dX7_advice_7 : decode cX7_advice 7 = .ok (.iconst 1, 1) := by decide +kernel
theorem dX7_advice_8 : decode cX7_advice 8 = .ok (.if_icmp .eq 6, 3) := by decide +kernel
theorem dX7_advice_11 : decode cX7_advice 11 = .ok (.bipush (-4), 2) := by decide +kernel
theorem dX7_advice_13 : decode cX7_advice 13 = .ok (.ireturn, 1) := by decide +kernel
theorem dX7_advice_14 : decode cX7_advice 14 = .ok (.iconst 1, 1) := by decide +kernel
theorem dX7_advice_15 : decode cX7_advice 15 = .ok (.aload_n 0, 1) := by decide +kernel
theorem dX7_advice_16 : decode cX7_advice 16 = .ok (.getfield 7, 3) := by decide +kernel
theorem dX7_advice_19 : decode cX7_advice 19 = .ok (.bipush 76, 2) := by decide +kernel
theorem dX7_advice_21 : decode cX7_advice 21 = .ok (.iaload, 1) := by decide +kernel
theorem dX7_advice_22 : decode cX7_advice 22 = .ok (.isub, 1) := by decide +kernel
theorem dX7_advice_23 : decode cX7_advice 23 = .ok (.istore_n 1, 1) := by decide +kernel
theorem dX7_advice_24 : decode cX7_advice 24 = .ok (.bipush (-5), 2) := by decide +kernel
theorem dX7_advice_26 : decode cX7_advice 26 = .ok (.istore_n 2, 1) := by decide +kernel
theorem dX7_advice_27 : decode cX7_advice 27 = .ok (.iconst 0, 1) := by decide +kernel
theorem dX7_advice_28 : decode cX7_advice 28 = .ok (.istore_n 3, 1) := by decide +kernel
theorem dX7_advice_29 : decode cX7_advice 29 = .ok (.iconst 0, 1) := by decide +kernel
theorem dX7_advice_30 : decode cX7_advice 30 = .ok (.istore 4, 2) := by decide +kernel
theorem dX7_advice_32 : decode cX7_advice 32 = .ok (.iconst 0, 1) := by decide +kernel
theorem dX7_advice_33 : decode cX7_advice 33 = .ok (.istore 5, 2) := by decide +kernel
theorem dX7_advice_35 : decode cX7_advice 35 = .ok (.iconst 0, 1) := by decide +kernel
theorem dX7_advice_36 : decode cX7_advice 36 = .ok (.istore 6, 2) := by decide +kernel
theorem dX7_advice_38 : decode cX7_advice 38 = .ok (.iload 6, 2) := by decide +kernel
theorem dX7_advice_40 : decode cX7_advice 40 = .ok (.aload_n 0, 1) := by decide +kernel
theorem dX7_advice_41 : decode cX7_advice 41 = .ok (.invokevirtual 77, 3) := by decide +kernel
theorem dX7_advice_44 : decode cX7_advice 44 = .ok (.if_icmp .ge 79, 3) := by decide +kernel
theorem dX7_advice_47 : decode cX7_advice 47 = .ok (.iload_n 1, 1) := by decide +kernel
theorem dX7_advice_48 : decode cX7_advice 48 = .ok (.ifCond .ne 14, 3) := by decide +kernel
theorem dX7_advice_51 : decode cX7_advice 51 = .ok (.aload_n 0, 1) := by decide +kernel
theorem dX7_advice_52 : decode cX7_advice 52 = .ok (.bipush 79, 2) := by decide +kernel
theorem dX7_advice_54 : decode cX7_advice 54 = .ok (.iload 6, 2) := by decide +kernel
theorem dX7_advice_56 : decode cX7_advice 56 = .ok (.invokevirtual 63, 3) := by decide +kernel
theorem dX7_advice_59 : decode cX7_advice 59 = .ok (.goto 12, 3) := by decide +kernel
theorem dX7_advice_62 : decode cX7_advice 62 = .ok (.aload_n 0, 1) := by decide +kernel
theorem dX7_advice_63 : decode cX7_advice 63 = .ok (.bipush 79, 2) := by decide +kernel
theorem dX7_advice_65 : decode cX7_advice 65 = .ok (.iload 6, 2) := by decide +kernel
theorem dX7_advice_67 : decode cX7_advice 67 = .ok (.invokevirtual 63, 3) := by decide +kernel
theorem dX7_advice_70 : decode cX7_advice 70 = .ok (.ineg, 1) := by decide +kernel
theorem dX7_advice_71 : decode cX7_advice 71 = .ok (.istore 7, 2) := by decide +kernel
theorem dX7_advice_73 : decode cX7_advice 73 = .ok (.iload 7, 2) := by decide +kernel
theorem dX7_advice_75 : decode cX7_advice 75 = .ok (.ifCond .le 21, 3) := by decide +kernel
theorem dX7_advice_78 : decode cX7_advice 78 = .ok (.iload_n 2, 1) := by decide +kernel
theorem dX7_advice_79 : decode cX7_advice 79 = .ok (.ifCond .lt 10, 3) := by decide +kernel
theorem dX7_advice_82 : decode cX7_advice 82 = .ok (.iload 7, 2) := by decide +kernel
theorem dX7_advice_84 : decode cX7_advice 84 = .ok (.iload 4, 2) := by decide +kernel
theorem dX7_advice_86 : decode cX7_advice 86 = .ok (.if_icmp .ge 10, 3) := by decide +kernel
theorem dX7_advice_89 : decode cX7_advice 89 = .ok (.iload 6, 2) := by decide +kernel
theorem dX7_advice_91 : decode cX7_advice 91 = .ok (.istore_n 2, 1) := by decide +kernel
theorem dX7_advice_92 : decode cX7_advice 92 = .ok (.iload 7, 2) := by decide +kernel
theorem dX7_advice_94 : decode cX7_advice 94 = .ok (.istore 4, 2) := by decide +kernel
theorem dX7_advice_96 : decode cX7_advice 96 = .ok (.iload 6, 2) := by decide +kernel
theorem dX7_advice_98 : decode cX7_advice 98 = .ok (.ifCond .eq 11, 3) := by decide +kernel
theorem dX7_advice_101 : decode cX7_advice 101 = .ok (.iload 7, 2) := by decide +kernel
theorem dX7_advice_103 : decode cX7_advice 103 = .ok (.ineg, 1) := by decide +kernel
theorem dX7_advice_104 : decode cX7_advice 104 = .ok (.iload 5, 2) := by decide +kernel
theorem dX7_advice_106 : decode cX7_advice 106 = .ok (.if_icmp .le 11, 3) := by decide +kernel
theorem dX7_advice_109 : decode cX7_advice 109 = .ok (.iload 6, 2) := by decide +kernel
theorem dX7_advice_111 : decode cX7_advice 111 = .ok (.istore_n 3, 1) := by decide +kernel
theorem dX7_advice_112 : decode cX7_advice 112 = .ok (.iload 7, 2) := by decide +kernel
theorem dX7_advice_114 : decode cX7_advice 114 = .ok (.ineg, 1) := by decide +kernel
theorem dX7_advice_115 : decode cX7_advice 115 = .ok (.istore 5, 2) := by decide +kernel
theorem dX7_advice_117 : decode cX7_advice 117 = .ok (.iinc 6 1, 3) := by decide +kernel
theorem dX7_advice_120 : decode cX7_advice 120 = .ok (.goto (-82), 3) := by decide +kernel
theorem dX7_advice_123 : decode cX7_advice 123 = .ok (.iload_n 2, 1) := by decide +kernel
theorem dX7_advice_124 : decode cX7_advice 124 = .ok (.ifCond .ge 7, 3) := by decide +kernel
theorem dX7_advice_127 : decode cX7_advice 127 = .ok (.iload_n 3, 1) := by decide +kernel
theorem dX7_advice_128 : decode cX7_advice 128 = .ok (.goto 4, 3) := by decide +kernel
theorem dX7_advice_131 : decode cX7_advice 131 = .ok (.iload_n 2, 1) := by decide +kernel
theorem dX7_advice_132 : decode cX7_advice 132 = .ok (.ireturn, 1) := by decide +kernel
theorem dX7_seats_0 : decode cX7_seats 0 = .ok (.iconst 0, 1) := by decide +kernel
theorem dX7_seats_1 : decode cX7_seats 1 = .ok (.istore_n 2, 1) := by decide +kernel
theorem dX7_seats_2 : decode cX7_seats 2 = .ok (.iconst 0, 1) := by decide +kernel
theorem dX7_seats_3 : decode cX7_seats 3 = .ok (.istore_n 3, 1) := by decide +kernel
theorem dX7_seats_4 : decode cX7_seats 4 = .ok (.iload_n 3, 1) := by decide +kernel
theorem dX7_seats_5 : decode cX7_seats 5 = .ok (.aload_n 0, 1) := by decide +kernel
theorem dX7_seats_6 : decode cX7_seats 6 = .ok (.getfield 7, 3) := by decide +kernel
theorem dX7_seats_9 : decode cX7_seats 9 = .ok (.bipush 77, 2) := by decide +kernel
theorem dX7_seats_11 : decode cX7_seats 11 = .ok (.iaload, 1) := by decide +kernel
theorem dX7_seats_12 : decode cX7_seats 12 = .ok (.if_icmp .ge 28, 3) := by decide +kernel
theorem dX7_seats_15 : decode cX7_seats 15 = .ok (.iload_n 2, 1) := by decide +kernel
theorem dX7_seats_16 : decode cX7_seats 16 = .ok (.aload_n 0, 1) := by decide +kernel
theorem dX7_seats_17 : decode cX7_seats 17 = .ok (.bipush 115, 2) := by decide +kernel
theorem dX7_seats_19 : decode cX7_seats 19 = .ok (.iload_n 3, 1) := by decide +kernel
theorem dX7_seats_20 : decode cX7_seats 20 = .ok (.invokevirtual 123, 3) := by decide +kernel
theorem dX7_seats_23 : decode cX7_seats 23 = .ok (.iload_n 1, 1) := by decide +kernel
theorem dX7_seats_24 : decode cX7_seats 24 = .ok (.if_icmp .ne 7, 3) := by decide +kernel
theorem dX7_seats_27 : decode cX7_seats 27 = .ok (.iconst 1, 1) := by decide +kernel
theorem dX7_seats_28 : decode cX7_seats 28 = .ok (.goto 4, 3) := by decide +kernel
theorem dX7_seats_31 : decode cX7_seats 31 = .ok (.iconst 0, 1) := by decide +kernel
theorem dX7_seats_32 : decode cX7_seats 32 = .ok (.iadd, 1) := by decide +kernel
theorem dX7_seats_33 : decode cX7_seats 33 = .ok (.istore_n 2, 1) := by decide +kernel
theorem dX7_seats_34 : decode cX7_seats 34 = .ok (.iinc 3 1, 3) := by decide +kernel
theorem dX7_seats_37 : decode cX7_seats 37 = .ok (.goto (-33), 3) := by decide +kernel
theorem dX7_seats_40 : decode cX7_seats 40 = .ok (.iload_n 2, 1) := by decide +kernel
theorem dX7_seats_41 : decode cX7_seats 41 = .ok (.ireturn, 1) := by decide +kernel
theorem dX7_votesOnMap_0 : decode cX7_votesOnMap 0 = .ok (.iconst 0, 1) := by decide +kernel
theorem dX7_votesOnMap_1 : decode cX7_votesOnMap 1 = .ok (.istore_n 2, 1) := by decide +kernel
theorem dX7_votesOnMap_2 : decode cX7_votesOnMap 2 = .ok (.iconst 0, 1) := by decide +kernel
theorem dX7_votesOnMap_3 : decode cX7_votesOnMap 3 = .ok (.istore_n 3, 1) := by decide +kernel
theorem dX7_votesOnMap_4 : decode cX7_votesOnMap 4 = .ok (.iload_n 3, 1) := by decide +kernel
theorem dX7_votesOnMap_5 : decode cX7_votesOnMap 5 = .ok (.bipush 36, 2) := by decide +kernel
theorem dX7_votesOnMap_7 : decode cX7_votesOnMap 7 = .ok (.if_icmp .ge 22, 3) := by decide +kernel
theorem dX7_votesOnMap_10 : decode cX7_votesOnMap 10 = .ok (.iload_n 2, 1) := by decide +kernel
theorem dX7_votesOnMap_11 : decode cX7_votesOnMap 11 = .ok (.aload_n 0, 1) := by decide +kernel
theorem dX7_votesOnMap_12 : decode cX7_votesOnMap 12 = .ok (.getfield 7, 3) := by decide +kernel
theorem dX7_votesOnMap_15 : decode cX7_votesOnMap 15 = .ok (.iconst 2, 1) := by decide +kernel
theorem dX7_votesOnMap_16 : decode cX7_votesOnMap 16 = .ok (.iload_n 3, 1) := by decide +kernel
theorem dX7_votesOnMap_17 : decode cX7_votesOnMap 17 = .ok (.imul, 1) := by decide +kernel
theorem dX7_votesOnMap_18 : decode cX7_votesOnMap 18 = .ok (.iload_n 1, 1) := by decide +kernel
theorem dX7_votesOnMap_19 : decode cX7_votesOnMap 19 = .ok (.iadd, 1) := by decide +kernel
theorem dX7_votesOnMap_20 : decode cX7_votesOnMap 20 = .ok (.iaload, 1) := by decide +kernel
theorem dX7_votesOnMap_21 : decode cX7_votesOnMap 21 = .ok (.iadd, 1) := by decide +kernel
theorem dX7_votesOnMap_22 : decode cX7_votesOnMap 22 = .ok (.istore_n 2, 1) := by decide +kernel
theorem dX7_votesOnMap_23 : decode cX7_votesOnMap 23 = .ok (.iinc 3 1, 3) := by decide +kernel
theorem dX7_votesOnMap_26 : decode cX7_votesOnMap 26 = .ok (.goto (-22), 3) := by decide +kernel
theorem dX7_votesOnMap_29 : decode cX7_votesOnMap 29 = .ok (.iload_n 2, 1) := by decide +kernel
theorem dX7_votesOnMap_30 : decode cX7_votesOnMap 30 = .ok (.ireturn, 1) := by decide +kernel
theorem dX7_party_0 : decode cX7_party 0 = .ok (.iload_n 1, 1) := by decide +kernel
theorem dX7_party_1 : decode cX7_party 1 = .ok (.iconst 0, 1) := by decide +kernel
theorem dX7_party_2 : decode cX7_party 2 = .ok (.iconst 1, 1) := by decide +kernel
theorem dX7_party_3 : decode cX7_party 3 = .ok (.invokestatic 36, 3) := by decide +kernel
theorem dX7_party_6 : decode cX7_party 6 = .ok (.ifCond .ne 5, 3) := by decide +kernel
theorem dX7_party_9 : decode cX7_party 9 = .ok (.iconst (-1), 1) := by decide +kernel
theorem dX7_party_10 : decode cX7_party 10 = .ok (.ireturn, 1) := by decide +kernel
theorem dX7_party_11 : decode cX7_party 11 = .ok (.iconst 0, 1) := by decide +kernel
theorem dX7_party_12 : decode cX7_party 12 = .ok (.istore_n 3, 1) := by decide +kernel
theorem dX7_party_13 : decode cX7_party 13 = .ok (.iload_n 2, 1) := by decide +kernel
theorem dX7_party_14 : decode cX7_party 14 = .ok (.tableswitch 139 0 4 #[34, 40, 46, 79, 99], 34) := by decide +kernel
theorem dX7_party_48 : decode cX7_party 48 = .ok (.aload_n 0, 1) := by decide +kernel
theorem dX7_party_49 : decode cX7_party 49 = .ok (.iload_n 1, 1) := by decide +kernel
theorem dX7_party_50 : decode cX7_party 50 = .ok (.invokevirtual 132, 3) := by decide +kernel
theorem dX7_party_53 : decode cX7_party 53 = .ok (.ireturn, 1) := by decide +kernel
theorem dX7_party_54 : decode cX7_party 54 = .ok (.aload_n 0, 1) := by decide +kernel
theorem dX7_party_55 : decode cX7_party 55 = .ok (.iload_n 1, 1) := by decide +kernel
theorem dX7_party_56 : decode cX7_party 56 = .ok (.invokevirtual 135, 3) := by decide +kernel
theorem dX7_party_59 : decode cX7_party 59 = .ok (.ireturn, 1) := by decide +kernel
theorem dX7_party_60 : decode cX7_party 60 = .ok (.iconst 0, 1) := by decide +kernel
theorem dX7_party_61 : decode cX7_party 61 = .ok (.istore 4, 2) := by decide +kernel
theorem dX7_party_63 : decode cX7_party 63 = .ok (.iload 4, 2) := by decide +kernel
theorem dX7_party_65 : decode cX7_party 65 = .ok (.aload_n 0, 1) := by decide +kernel
theorem dX7_party_66 : decode cX7_party 66 = .ok (.getfield 7, 3) := by decide +kernel
theorem dX7_party_69 : decode cX7_party 69 = .ok (.bipush 77, 2) := by decide +kernel
theorem dX7_party_71 : decode cX7_party 71 = .ok (.iaload, 1) := by decide +kernel
theorem dX7_party_72 : decode cX7_party 72 = .ok (.if_icmp .ge 19, 3) := by decide +kernel
theorem dX7_party_75 : decode cX7_party 75 = .ok (.iload_n 3, 1) := by decide +kernel
theorem dX7_party_76 : decode cX7_party 76 = .ok (.aload_n 0, 1) := by decide +kernel
theorem dX7_party_77 : decode cX7_party 77 = .ok (.iload 4, 2) := by decide +kernel
theorem dX7_party_79 : decode cX7_party 79 = .ok (.iload_n 1, 1) := by decide +kernel
theorem dX7_party_80 : decode cX7_party 80 = .ok (.invokevirtual 129, 3) := by decide +kernel
theorem dX7_party_83 : decode cX7_party 83 = .ok (.iadd, 1) := by decide +kernel
theorem dX7_party_84 : decode cX7_party 84 = .ok (.istore_n 3, 1) := by decide +kernel
theorem dX7_party_85 : decode cX7_party 85 = .ok (.iinc 4 1, 3) := by decide +kernel
theorem dX7_party_88 : decode cX7_party 88 = .ok (.goto (-25), 3) := by decide +kernel
theorem dX7_party_91 : decode cX7_party 91 = .ok (.iload_n 3, 1) := by decide +kernel
theorem dX7_party_92 : decode cX7_party 92 = .ok (.ireturn, 1) := by decide +kernel
theorem dX7_party_93 : decode cX7_party 93 = .ok (.sipush 1000, 3) := by decide +kernel
theorem dX7_party_96 : decode cX7_party 96 = .ok (.aload_n 0, 1) := by decide +kernel
theorem dX7_party_97 : decode cX7_party 97 = .ok (.iload_n 1, 1) := by decide +kernel
theorem dX7_party_98 : decode cX7_party 98 = .ok (.invokevirtual 132, 3) := by decide +kernel
theorem dX7_party_101 : decode cX7_party 101 = .ok (.iadd, 1) := by decide +kernel
theorem dX7_party_102 : decode cX7_party 102 = .ok (.aload_n 0, 1) := by decide +kernel
theorem dX7_party_103 : decode cX7_party 103 = .ok (.getfield 7, 3) := by decide +kernel
theorem dX7_party_106 : decode cX7_party 106 = .ok (.bipush 73, 2) := by decide +kernel
theorem dX7_party_108 : decode cX7_party 108 = .ok (.iload_n 1, 1) := by decide +kernel
theorem dX7_party_109 : decode cX7_party 109 = .ok (.iadd, 1) := by decide +kernel
theorem dX7_party_110 : decode cX7_party 110 = .ok (.iaload, 1) := by decide +kernel
theorem dX7_party_111 : decode cX7_party 111 = .ok (.isub, 1) := by decide +kernel
theorem dX7_party_112 : decode cX7_party 112 = .ok (.ireturn, 1) := by decide +kernel
theorem dX7_party_113 : decode cX7_party 113 = .ok (.iconst 0, 1) := by decide +kernel
theorem dX7_party_114 : decode cX7_party 114 = .ok (.istore 4, 2) := by decide +kernel
theorem dX7_party_116 : decode cX7_party 116 = .ok (.iload 4, 2) := by decide +kernel
theorem dX7_party_118 : decode cX7_party 118 = .ok (.aload_n 0, 1) := by decide +kernel
theorem dX7_party_119 : decode cX7_party 119 = .ok (.invokevirtual 77, 3) := by decide +kernel
theorem dX7_party_122 : decode cX7_party 122 = .ok (.if_icmp .ge 29, 3) := by decide +kernel
theorem dX7_party_125 : decode cX7_party 125 = .ok (.iload_n 3, 1) := by decide +kernel
theorem dX7_party_126 : decode cX7_party 126 = .ok (.aload_n 0, 1) := by decide +kernel
theorem dX7_party_127 : decode cX7_party 127 = .ok (.bipush 79, 2) := by decide +kernel
theorem dX7_party_129 : decode cX7_party 129 = .ok (.iload 4, 2) := by decide +kernel
theorem dX7_party_131 : decode cX7_party 131 = .ok (.invokevirtual 123, 3) := by decide +kernel
theorem dX7_party_134 : decode cX7_party 134 = .ok (.iload_n 1, 1) := by decide +kernel
theorem dX7_party_135 : decode cX7_party 135 = .ok (.if_icmp .ne 7, 3) := by decide +kernel
theorem dX7_party_138 : decode cX7_party 138 = .ok (.iconst 1, 1) := by decide +kernel
theorem dX7_party_139 : decode cX7_party 139 = .ok (.goto 4, 3) := by decide +kernel
theorem dX7_party_142 : decode cX7_party 142 = .ok (.iconst 0, 1) := by decide +kernel
theorem dX7_party_143 : decode cX7_party 143 = .ok (.iadd, 1) := by decide +kernel
theorem dX7_party_144 : decode cX7_party 144 = .ok (.istore_n 3, 1) := by decide +kernel
theorem dX7_party_145 : decode cX7_party 145 = .ok (.iinc 4 1, 3) := by decide +kernel
theorem dX7_party_148 : decode cX7_party 148 = .ok (.goto (-32), 3) := by decide +kernel
theorem dX7_party_151 : decode cX7_party 151 = .ok (.iload_n 3, 1) := by decide +kernel
theorem dX7_party_152 : decode cX7_party 152 = .ok (.ireturn, 1) := by decide +kernel
theorem dX7_party_153 : decode cX7_party 153 = .ok (.bipush (-2), 2) := by decide +kernel
theorem dX7_party_155 : decode cX7_party 155 = .ok (.ireturn, 1) := by decide +kernel
theorem dX7_fairness_0 : decode cX7_fairness 0 = .ok (.aload_n 0, 1) := by decide +kernel
theorem dX7_fairness_1 : decode cX7_fairness 1 = .ok (.iconst 0, 1) := by decide +kernel
theorem dX7_fairness_2 : decode cX7_fairness 2 = .ok (.invokevirtual 135, 3) := by decide +kernel
theorem dX7_fairness_5 : decode cX7_fairness 5 = .ok (.aload_n 0, 1) := by decide +kernel
theorem dX7_fairness_6 : decode cX7_fairness 6 = .ok (.iconst 1, 1) := by decide +kernel
theorem dX7_fairness_7 : decode cX7_fairness 7 = .ok (.invokevirtual 135, 3) := by decide +kernel
theorem dX7_fairness_10 : decode cX7_fairness 10 = .ok (.iadd, 1) := by decide +kernel
theorem dX7_fairness_11 : decode cX7_fairness 11 = .ok (.istore_n 1, 1) := by decide +kernel
theorem dX7_fairness_12 : decode cX7_fairness 12 = .ok (.ldc 138, 2) := by decide +kernel
theorem dX7_fairness_14 : decode cX7_fairness 14 = .ok (.aload_n 0, 1) := by decide +kernel
theorem dX7_fairness_15 : decode cX7_fairness 15 = .ok (.iconst 0, 1) := by decide +kernel
theorem dX7_fairness_16 : decode cX7_fairness 16 = .ok (.invokevirtual 132, 3) := by decide +kernel
theorem dX7_fairness_19 : decode cX7_fairness 19 = .ok (.iload_n 1, 1) := by decide +kernel
theorem dX7_fairness_20 : decode cX7_fairness 20 = .ok (.imul, 1) := by decide +kernel
theorem dX7_fairness_21 : decode cX7_fairness 21 = .ok (.iadd, 1) := by decide +kernel
theorem dX7_fairness_22 : decode cX7_fairness 22 = .ok (.aload_n 0, 1) := by decide +kernel
theorem dX7_fairness_23 : decode cX7_fairness 23 = .ok (.getfield 7, 3) := by decide +kernel
theorem dX7_fairness_26 : decode cX7_fairness 26 = .ok (.bipush 77, 2) := by decide +kernel
theorem dX7_fairness_28 : decode cX7_fairness 28 = .ok (.iaload, 1) := by decide +kernel
theorem dX7_fairness_29 : decode cX7_fairness 29 = .ok (.aload_n 0, 1) := by decide +kernel
theorem dX7_fairness_30 : decode cX7_fairness 30 = .ok (.iconst 0, 1) := by decide +kernel
theorem dX7_fairness_31 : decode cX7_fairness 31 = .ok (.invokevirtual 135, 3) := by decide +kernel
theorem dX7_fairness_34 : decode cX7_fairness 34 = .ok (.imul, 1) := by decide +kernel
theorem dX7_fairness_35 : decode cX7_fairness 35 = .ok (.isub, 1) := by decide +kernel
theorem dX7_fairness_36 : decode cX7_fairness 36 = .ok (.ireturn, 1) := by decide +kernel
theorem dX7_allBorders_0 : decode cX7_allBorders 0 = .ok (.iconst 0, 1) := by decide +kernel
theorem dX7_allBorders_1 : decode cX7_allBorders 1 = .ok (.istore_n 1, 1) := by decide +kernel
theorem dX7_allBorders_2 : decode cX7_allBorders 2 = .ok (.iconst 0, 1) := by decide +kernel
theorem dX7_allBorders_3 : decode cX7_allBorders 3 = .ok (.istore_n 2, 1) := by decide +kernel
theorem dX7_allBorders_4 : decode cX7_allBorders 4 = .ok (.iload_n 2, 1) := by decide +kernel
theorem dX7_allBorders_5 : decode cX7_allBorders 5 = .ok (.aload_n 0, 1) := by decide +kernel
theorem dX7_allBorders_6 : decode cX7_allBorders 6 = .ok (.getfield 7, 3) := by decide +kernel
theorem dX7_allBorders_9 : decode cX7_allBorders 9 = .ok (.bipush 77, 2) := by decide +kernel
theorem dX7_allBorders_11 : decode cX7_allBorders 11 = .ok (.iaload, 1) := by decide +kernel
theorem dX7_allBorders_12 : decode cX7_allBorders 12 = .ok (.if_icmp .ge 19, 3) := by decide +kernel
theorem dX7_allBorders_15 : decode cX7_allBorders 15 = .ok (.iload_n 1, 1) := by decide +kernel
theorem dX7_allBorders_16 : decode cX7_allBorders 16 = .ok (.aload_n 0, 1) := by decide +kernel
theorem dX7_allBorders_17 : decode cX7_allBorders 17 = .ok (.bipush 115, 2) := by decide +kernel
theorem dX7_allBorders_19 : decode cX7_allBorders 19 = .ok (.iload_n 2, 1) := by decide +kernel
theorem dX7_allBorders_20 : decode cX7_allBorders 20 = .ok (.invokevirtual 120, 3) := by decide +kernel
theorem dX7_allBorders_23 : decode cX7_allBorders 23 = .ok (.iadd, 1) := by decide +kernel
theorem dX7_allBorders_24 : decode cX7_allBorders 24 = .ok (.istore_n 1, 1) := by decide +kernel
theorem dX7_allBorders_25 : decode cX7_allBorders 25 = .ok (.iinc 2 1, 3) := by decide +kernel
theorem dX7_allBorders_28 : decode cX7_allBorders 28 = .ok (.goto (-24), 3) := by decide +kernel
theorem dX7_allBorders_31 : decode cX7_allBorders 31 = .ok (.iload_n 1, 1) := by decide +kernel
theorem dX7_allBorders_32 : decode cX7_allBorders 32 = .ok (.ireturn, 1) := by decide +kernel
theorem dX7_withoutPart_0 : decode cX7_withoutPart 0 = .ok (.iconst 0, 1) := by decide +kernel
theorem dX7_withoutPart_1 : decode cX7_withoutPart 1 = .ok (.istore_n 1, 1) := by decide +kernel
theorem dX7_withoutPart_2 : decode cX7_withoutPart 2 = .ok (.iconst 0, 1) := by decide +kernel
theorem dX7_withoutPart_3 : decode cX7_withoutPart 3 = .ok (.istore_n 2, 1) := by decide +kernel
theorem dX7_withoutPart_4 : decode cX7_withoutPart 4 = .ok (.iload_n 2, 1) := by decide +kernel
theorem dX7_withoutPart_5 : decode cX7_withoutPart 5 = .ok (.bipush 36, 2) := by decide +kernel
theorem dX7_withoutPart_7 : decode cX7_withoutPart 7 = .ok (.if_icmp .ge 37, 3) := by decide +kernel
theorem dX7_withoutPart_10 : decode cX7_withoutPart 10 = .ok (.iload_n 1, 1) := by decide +kernel
theorem dX7_withoutPart_11 : decode cX7_withoutPart 11 = .ok (.aload_n 0, 1) := by decide +kernel
theorem dX7_withoutPart_12 : decode cX7_withoutPart 12 = .ok (.iload_n 2, 1) := by decide +kernel
theorem dX7_withoutPart_13 : decode cX7_withoutPart 13 = .ok (.invokevirtual 74, 3) := by decide +kernel
theorem dX7_withoutPart_16 : decode cX7_withoutPart 16 = .ok (.ifCond .eq 19, 3) := by decide +kernel
theorem dX7_withoutPart_19 : decode cX7_withoutPart 19 = .ok (.aload_n 0, 1) := by decide +kernel
theorem dX7_withoutPart_20 : decode cX7_withoutPart 20 = .ok (.getfield 7, 3) := by decide +kernel
theorem dX7_withoutPart_23 : decode cX7_withoutPart 23 = .ok (.bipush 79, 2) := by decide +kernel
theorem dX7_withoutPart_25 : decode cX7_withoutPart 25 = .ok (.iload_n 2, 1) := by decide +kernel
theorem dX7_withoutPart_26 : decode cX7_withoutPart 26 = .ok (.iadd, 1) := by decide +kernel
theorem dX7_withoutPart_27 : decode cX7_withoutPart 27 = .ok (.iaload, 1) := by decide +kernel
theorem dX7_withoutPart_28 : decode cX7_withoutPart 28 = .ok (.ifCond .ge 7, 3) := by decide +kernel
theorem dX7_withoutPart_31 : decode cX7_withoutPart 31 = .ok (.iconst 1, 1) := by decide +kernel
theorem dX7_withoutPart_32 : decode cX7_withoutPart 32 = .ok (.goto 4, 3) := by decide +kernel
theorem dX7_withoutPart_35 : decode cX7_withoutPart 35 = .ok (.iconst 0, 1) := by decide +kernel
theorem dX7_withoutPart_36 : decode cX7_withoutPart 36 = .ok (.iadd, 1) := by decide +kernel
theorem dX7_withoutPart_37 : decode cX7_withoutPart 37 = .ok (.istore_n 1, 1) := by decide +kernel
theorem dX7_withoutPart_38 : decode cX7_withoutPart 38 = .ok (.iinc 2 1, 3) := by decide +kernel
theorem dX7_withoutPart_41 : decode cX7_withoutPart 41 = .ok (.goto (-37), 3) := by decide +kernel
theorem dX7_withoutPart_44 : decode cX7_withoutPart 44 = .ok (.iload_n 1, 1) := by decide +kernel
theorem dX7_withoutPart_45 : decode cX7_withoutPart 45 = .ok (.ireturn, 1) := by decide +kernel
theorem dX7_count_0 : decode cX7_count 0 = .ok (.iload_n 1, 1) := by decide +kernel
theorem dX7_count_1 : decode cX7_count 1 = .ok (.tableswitch 177 0 11 #[63, 71, 76, 84, 89, 97, 143, 151, 156, 161, 167, 172], 63) := by decide +kernel
theorem dX7_count_64 : decode cX7_count 64 = .ok (.aload_n 0, 1) := by decide +kernel
theorem dX7_count_65 : decode cX7_count 65 = .ok (.getfield 7, 3) := by decide +kernel
theorem dX7_count_68 : decode cX7_count 68 = .ok (.bipush 72, 2) := by decide +kernel
theorem dX7_count_70 : decode cX7_count 70 = .ok (.iaload, 1) := by decide +kernel
theorem dX7_count_71 : decode cX7_count 71 = .ok (.ireturn, 1) := by decide +kernel
theorem dX7_count_72 : decode cX7_count 72 = .ok (.aload_n 0, 1) := by decide +kernel
theorem dX7_count_73 : decode cX7_count 73 = .ok (.invokevirtual 55, 3) := by decide +kernel
theorem dX7_count_76 : decode cX7_count 76 = .ok (.ireturn, 1) := by decide +kernel
theorem dX7_count_77 : decode cX7_count 77 = .ok (.aload_n 0, 1) := by decide +kernel
theorem dX7_count_78 : decode cX7_count 78 = .ok (.getfield 7, 3) := by decide +kernel
theorem dX7_count_81 : decode cX7_count 81 = .ok (.bipush 77, 2) := by decide +kernel
theorem dX7_count_83 : decode cX7_count 83 = .ok (.iaload, 1) := by decide +kernel
theorem dX7_count_84 : decode cX7_count 84 = .ok (.ireturn, 1) := by decide +kernel
theorem dX7_count_85 : decode cX7_count 85 = .ok (.aload_n 0, 1) := by decide +kernel
theorem dX7_count_86 : decode cX7_count 86 = .ok (.invokevirtual 77, 3) := by decide +kernel
theorem dX7_count_89 : decode cX7_count 89 = .ok (.ireturn, 1) := by decide +kernel
theorem dX7_count_90 : decode cX7_count 90 = .ok (.aload_n 0, 1) := by decide +kernel
theorem dX7_count_91 : decode cX7_count 91 = .ok (.getfield 7, 3) := by decide +kernel
theorem dX7_count_94 : decode cX7_count 94 = .ok (.bipush 75, 2) := by decide +kernel
theorem dX7_count_96 : decode cX7_count 96 = .ok (.iaload, 1) := by decide +kernel
theorem dX7_count_97 : decode cX7_count 97 = .ok (.ireturn, 1) := by decide +kernel
theorem dX7_count_98 : decode cX7_count 98 = .ok (.aload_n 0, 1) := by decide +kernel
theorem dX7_count_99 : decode cX7_count 99 = .ok (.getfield 7, 3) := by decide +kernel
theorem dX7_count_102 : decode cX7_count 102 = .ok (.bipush 75, 2) := by decide +kernel
theorem dX7_count_104 : decode cX7_count 104 = .ok (.iaload, 1) := by decide +kernel
theorem dX7_count_105 : decode cX7_count 105 = .ok (.iconst 2, 1) := by decide +kernel
theorem dX7_count_106 : decode cX7_count 106 = .ok (.if_icmp .ne 8, 3) := by decide +kernel
theorem dX7_count_109 : decode cX7_count 109 = .ok (.bipush (-5), 2) := by decide +kernel
theorem dX7_count_111 : decode cX7_count 111 = .ok (.goto 32, 3) := by decide +kernel
theorem dX7_count_114 : decode cX7_count 114 = .ok (.aload_n 0, 1) := by decide +kernel
theorem dX7_count_115 : decode cX7_count 115 = .ok (.getfield 7, 3) := by decide +kernel
theorem dX7_count_118 : decode cX7_count 118 = .ok (.bipush 75, 2) := by decide +kernel
theorem dX7_count_120 : decode cX7_count 120 = .ok (.iaload, 1) := by decide +kernel
theorem dX7_count_121 : decode cX7_count 121 = .ok (.ifCond .ne 13, 3) := by decide +kernel
theorem dX7_count_124 : decode cX7_count 124 = .ok (.aload_n 0, 1) := by decide +kernel
theorem dX7_count_125 : decode cX7_count 125 = .ok (.getfield 7, 3) := by decide +kernel
theorem dX7_count_128 : decode cX7_count 128 = .ok (.bipush 76, 2) := by decide +kernel
theorem dX7_count_130 : decode cX7_count 130 = .ok (.iaload, 1) := by decide +kernel
theorem dX7_count_131 : decode cX7_count 131 = .ok (.goto 12, 3) := by decide +kernel
theorem dX7_count_134 : decode cX7_count 134 = .ok (.iconst 1, 1) := by decide +kernel
theorem dX7_count_135 : decode cX7_count 135 = .ok (.aload_n 0, 1) := by decide +kernel
theorem dX7_count_136 : decode cX7_count 136 = .ok (.getfield 7, 3) := by decide +kernel
theorem dX7_count_139 : decode cX7_count 139 = .ok (.bipush 76, 2) := by decide +kernel
theorem dX7_count_141 : decode cX7_count 141 = .ok (.iaload, 1) := by decide +kernel
theorem dX7_count_142 : decode cX7_count 142 = .ok (.isub, 1) := by decide +kernel
theorem dX7_count_143 : decode cX7_count 143 = .ok (.ireturn, 1) := by decide +kernel
theorem dX7_count_144 : decode cX7_count 144 = .ok (.aload_n 0, 1) := by decide +kernel
theorem dX7_count_145 : decode cX7_count 145 = .ok (.bipush 115, 2) := by decide +kernel
theorem dX7_count_147 : decode cX7_count 147 = .ok (.iconst (-1), 1) := by decide +kernel
theorem dX7_count_148 : decode cX7_count 148 = .ok (.invokevirtual 80, 3) := by decide +kernel
theorem dX7_count_151 : decode cX7_count 151 = .ok (.ireturn, 1) := by decide +kernel
theorem dX7_count_152 : decode cX7_count 152 = .ok (.aload_n 0, 1) := by decide +kernel
theorem dX7_count_153 : decode cX7_count 153 = .ok (.invokevirtual 139, 3) := by decide +kernel
theorem dX7_count_156 : decode cX7_count 156 = .ok (.ireturn, 1) := by decide +kernel
theorem dX7_count_157 : decode cX7_count 157 = .ok (.aload_n 0, 1) := by decide +kernel
theorem dX7_count_158 : decode cX7_count 158 = .ok (.invokevirtual 142, 3) := by decide +kernel
theorem dX7_count_161 : decode cX7_count 161 = .ok (.ireturn, 1) := by decide +kernel
theorem dX7_count_162 : decode cX7_count 162 = .ok (.aload_n 0, 1) := by decide +kernel
theorem dX7_count_163 : decode cX7_count 163 = .ok (.iconst 2, 1) := by decide +kernel
theorem dX7_count_164 : decode cX7_count 164 = .ok (.invokevirtual 132, 3) := by decide +kernel
theorem dX7_count_167 : decode cX7_count 167 = .ok (.ireturn, 1) := by decide +kernel
theorem dX7_count_168 : decode cX7_count 168 = .ok (.aload_n 0, 1) := by decide +kernel
theorem dX7_count_169 : decode cX7_count 169 = .ok (.getfield 40, 3) := by decide +kernel
theorem dX7_count_172 : decode cX7_count 172 = .ok (.ireturn, 1) := by decide +kernel
theorem dX7_count_173 : decode cX7_count 173 = .ok (.aload_n 0, 1) := by decide +kernel
theorem dX7_count_174 : decode cX7_count 174 = .ok (.getfield 101, 3) := by decide +kernel
theorem dX7_count_177 : decode cX7_count 177 = .ok (.ireturn, 1) := by decide +kernel
theorem dX7_count_178 : decode cX7_count 178 = .ok (.bipush (-2), 2) := by decide +kernel
theorem dX7_count_180 : decode cX7_count 180 = .ok (.ireturn, 1) := by decide +kernel
