theorem dX6_init_0 : decode cX6_init 0 = .ok (.aload_n 0, 1) := by decide +kernel
theorem dX6_init_1 : decode cX6_init 1 = .ok (.invokespecial 1, 3) := by decide +kernel
theorem dX6_init_4 : decode cX6_init 4 = .ok (.aload_n 0, 1) := by decide +kernel
theorem dX6_init_5 : decode cX6_init 5 = .ok (.new 7, 3) := by decide +kernel
theorem dX6_init_8 : decode cX6_init 8 = .ok (.dup, 1) := by decide +kernel
theorem dX6_init_9 : decode cX6_init 9 = .ok (.invokespecial 9, 3) := by decide +kernel
theorem dX6_init_12 : decode cX6_init 12 = .ok (.putfield 10, 3) := by decide +kernel
theorem dX6_init_15 : decode cX6_init 15 = .ok (.aload_n 0, 1) := by decide +kernel
theorem dX6_init_16 : decode cX6_init 16 = .ok (.new 16, 3) := by decide +kernel
theorem dX6_init_19 : decode cX6_init 19 = .ok (.dup, 1) := by decide +kernel
theorem dX6_init_20 : decode cX6_init 20 = .ok (.invokespecial 18, 3) := by decide +kernel
theorem dX6_init_23 : decode cX6_init 23 = .ok (.putfield 19, 3) := by decide +kernel
theorem dX6_init_26 : decode cX6_init 26 = .ok (.aload_n 0, 1) := by decide +kernel
theorem dX6_init_27 : decode cX6_init 27 = .ok (.new 7, 3) := by decide +kernel
theorem dX6_init_30 : decode cX6_init 30 = .ok (.dup, 1) := by decide +kernel
theorem dX6_init_31 : decode cX6_init 31 = .ok (.invokespecial 9, 3) := by decide +kernel
theorem dX6_init_34 : decode cX6_init 34 = .ok (.putfield 23, 3) := by decide +kernel
theorem dX6_init_37 : decode cX6_init 37 = .ok (.aload_n 0, 1) := by decide +kernel
theorem dX6_init_38 : decode cX6_init 38 = .ok (.iconst 0, 1) := by decide +kernel
theorem dX6_init_39 : decode cX6_init 39 = .ok (.putfield 26, 3) := by decide +kernel
theorem dX6_init_42 : decode cX6_init 42 = .ok (.aload_n 0, 1) := by decide +kernel
theorem dX6_init_43 : decode cX6_init 43 = .ok (.new 30, 3) := by decide +kernel
theorem dX6_init_46 : decode cX6_init 46 = .ok (.dup, 1) := by decide +kernel
theorem dX6_init_47 : decode cX6_init 47 = .ok (.invokespecial 32, 3) := by decide +kernel
theorem dX6_init_50 : decode cX6_init 50 = .ok (.putfield 33, 3) := by decide +kernel
theorem dX6_init_53 : decode cX6_init 53 = .ok (.aload_n 0, 1) := by decide +kernel
theorem dX6_init_54 : decode cX6_init 54 = .ok (.new 37, 3) := by decide +kernel
theorem dX6_init_57 : decode cX6_init 57 = .ok (.dup, 1) := by decide +kernel
theorem dX6_init_58 : decode cX6_init 58 = .ok (.invokespecial 39, 3) := by decide +kernel
theorem dX6_init_61 : decode cX6_init 61 = .ok (.putfield 40, 3) := by decide +kernel
theorem dX6_init_64 : decode cX6_init 64 = .ok (.aload_n 0, 1) := by decide +kernel
theorem dX6_init_65 : decode cX6_init 65 = .ok (.new 44, 3) := by decide +kernel
theorem dX6_init_68 : decode cX6_init 68 = .ok (.dup, 1) := by decide +kernel
theorem dX6_init_69 : decode cX6_init 69 = .ok (.bipush 36, 2) := by decide +kernel
theorem dX6_init_71 : decode cX6_init 71 = .ok (.iconst (-1), 1) := by decide +kernel
theorem dX6_init_72 : decode cX6_init 72 = .ok (.invokespecial 46, 3) := by decide +kernel
theorem dX6_init_75 : decode cX6_init 75 = .ok (.putfield 49, 3) := by decide +kernel
theorem dX6_init_78 : decode cX6_init 78 = .ok (.return_, 1) := by decide +kernel
theorem dX6_setVotes_0 : decode cX6_setVotes 0 = .ok (.iload_n 1, 1) := by decide +kernel
theorem dX6_setVotes_1 : decode cX6_setVotes 1 = .ok (.invokestatic 53, 3) := by decide +kernel
theorem dX6_setVotes_4 : decode cX6_setVotes 4 = .ok (.ifCond .ne 5, 3) := by decide +kernel
theorem dX6_setVotes_7 : decode cX6_setVotes 7 = .ok (.iconst (-1), 1) := by decide +kernel
theorem dX6_setVotes_8 : decode cX6_setVotes 8 = .ok (.ireturn, 1) := by decide +kernel
theorem dX6_setVotes_9 : decode cX6_setVotes 9 = .ok (.iload_n 2, 1) := by decide +kernel
theorem dX6_setVotes_10 : decode cX6_setVotes 10 = .ok (.iconst 0, 1) := by decide +kernel
theorem dX6_setVotes_11 : decode cX6_setVotes 11 = .ok (.bipush 9, 2) := by decide +kernel
theorem dX6_setVotes_13 : decode cX6_setVotes 13 = .ok (.invokestatic 57, 3) := by decide +kernel
theorem dX6_setVotes_16 : decode cX6_setVotes 16 = .ok (.ifCond .eq 13, 3) := by decide +kernel
theorem dX6_setVotes_19 : decode cX6_setVotes 19 = .ok (.iload_n 3, 1) := by decide +kernel
theorem dX6_setVotes_20 : decode cX6_setVotes 20 = .ok (.iconst 0, 1) := by decide +kernel
theorem dX6_setVotes_21 : decode cX6_setVotes 21 = .ok (.bipush 9, 2) := by decide +kernel
theorem dX6_setVotes_23 : decode cX6_setVotes 23 = .ok (.invokestatic 57, 3) := by decide +kernel
theorem dX6_setVotes_26 : decode cX6_setVotes 26 = .ok (.ifCond .ne 6, 3) := by decide +kernel
theorem dX6_setVotes_29 : decode cX6_setVotes 29 = .ok (.bipush (-2), 2) := by decide +kernel
theorem dX6_setVotes_31 : decode cX6_setVotes 31 = .ok (.ireturn, 1) := by decide +kernel
theorem dX6_setVotes_32 : decode cX6_setVotes 32 = .ok (.aload_n 0, 1) := by decide +kernel
theorem dX6_setVotes_33 : decode cX6_setVotes 33 = .ok (.getfield 10, 3) := by decide +kernel
theorem dX6_setVotes_36 : decode cX6_setVotes 36 = .ok (.getfield 61, 3) := by decide +kernel
theorem dX6_setVotes_39 : decode cX6_setVotes 39 = .ok (.iload_n 1, 1) := by decide +kernel
theorem dX6_setVotes_40 : decode cX6_setVotes 40 = .ok (.invokevirtual 64, 3) := by decide +kernel
theorem dX6_setVotes_43 : decode cX6_setVotes 43 = .ok (.istore 4, 2) := by decide +kernel
theorem dX6_setVotes_45 : decode cX6_setVotes 45 = .ok (.aload_n 0, 1) := by decide +kernel
theorem dX6_setVotes_46 : decode cX6_setVotes 46 = .ok (.getfield 10, 3) := by decide +kernel
theorem dX6_setVotes_49 : decode cX6_setVotes 49 = .ok (.getfield 68, 3) := by decide +kernel
theorem dX6_setVotes_52 : decode cX6_setVotes 52 = .ok (.iload_n 1, 1) := by decide +kernel
theorem dX6_setVotes_53 : decode cX6_setVotes 53 = .ok (.invokevirtual 64, 3) := by decide +kernel
theorem dX6_setVotes_56 : decode cX6_setVotes 56 = .ok (.istore 5, 2) := by decide +kernel
theorem dX6_setVotes_58 : decode cX6_setVotes 58 = .ok (.iload_n 2, 1) := by decide +kernel
theorem dX6_setVotes_59 : decode cX6_setVotes 59 = .ok (.iload 4, 2) := by decide +kernel
theorem dX6_setVotes_61 : decode cX6_setVotes 61 = .ok (.if_icmp .ne 12, 3) := by decide +kernel
theorem dX6_setVotes_64 : decode cX6_setVotes 64 = .ok (.iload_n 3, 1) := by decide +kernel
theorem dX6_setVotes_65 : decode cX6_setVotes 65 = .ok (.iload 5, 2) := by decide +kernel
theorem dX6_setVotes_67 : decode cX6_setVotes 67 = .ok (.if_icmp .ne 6, 3) := by decide +kernel
theorem dX6_setVotes_70 : decode cX6_setVotes 70 = .ok (.bipush (-5), 2) := by decide +kernel
theorem dX6_setVotes_72 : decode cX6_setVotes 72 = .ok (.ireturn, 1) := by decide +kernel
theorem dX6_setVotes_73 : decode cX6_setVotes 73 = .ok (.aload_n 0, 1) := by decide +kernel
theorem dX6_setVotes_74 : decode cX6_setVotes 74 = .ok (.getfield 19, 3) := by decide +kernel
theorem dX6_setVotes_77 : decode cX6_setVotes 77 = .ok (.aload_n 0, 1) := by decide +kernel
theorem dX6_setVotes_78 : decode cX6_setVotes 78 = .ok (.getfield 10, 3) := by decide +kernel
theorem dX6_setVotes_81 : decode cX6_setVotes 81 = .ok (.invokevirtual 71, 3) := by decide +kernel
theorem dX6_setVotes_84 : decode cX6_setVotes 84 = .ok (.aload_n 0, 1) := by decide +kernel
theorem dX6_setVotes_85 : decode cX6_setVotes 85 = .ok (.getfield 10, 3) := by decide +kernel
theorem dX6_setVotes_88 : decode cX6_setVotes 88 = .ok (.getfield 61, 3) := by decide +kernel
theorem dX6_setVotes_91 : decode cX6_setVotes 91 = .ok (.iload_n 1, 1) := by decide +kernel
theorem dX6_setVotes_92 : decode cX6_setVotes 92 = .ok (.iload_n 2, 1) := by decide +kernel
theorem dX6_setVotes_93 : decode cX6_setVotes 93 = .ok (.invokevirtual 75, 3) := by decide +kernel
theorem dX6_setVotes_96 : decode cX6_setVotes 96 = .ok (.aload_n 0, 1) := by decide +kernel
theorem dX6_setVotes_97 : decode cX6_setVotes 97 = .ok (.getfield 10, 3) := by decide +kernel
theorem dX6_setVotes_100 : decode cX6_setVotes 100 = .ok (.getfield 68, 3) := by decide +kernel
theorem dX6_setVotes_103 : decode cX6_setVotes 103 = .ok (.iload_n 1, 1) := by decide +kernel
theorem dX6_setVotes_104 : decode cX6_setVotes 104 = .ok (.iload_n 3, 1) := by decide +kernel
theorem dX6_setVotes_105 : decode cX6_setVotes 105 = .ok (.invokevirtual 75, 3) := by decide +kernel
theorem dX6_setVotes_108 : decode cX6_setVotes 108 = .ok (.bipush 10, 2) := by decide +kernel
theorem dX6_setVotes_110 : decode cX6_setVotes 110 = .ok (.iload 4, 2) := by decide +kernel
theorem dX6_setVotes_112 : decode cX6_setVotes 112 = .ok (.imul, 1) := by decide +kernel
theorem dX6_setVotes_113 : decode cX6_setVotes 113 = .ok (.iload 5, 2) := by decide +kernel
theorem dX6_setVotes_115 : decode cX6_setVotes 115 = .ok (.iadd, 1) := by decide +kernel
theorem dX6_setVotes_116 : decode cX6_setVotes 116 = .ok (.ireturn, 1) := by decide +kernel
theorem dX6_begin_0 : decode cX6_begin 0 = .ok (.iload_n 1, 1) := by decide +kernel
theorem dX6_begin_1 : decode cX6_begin 1 = .ok (.invokestatic 78, 3) := by decide +kernel
theorem dX6_begin_4 : decode cX6_begin 4 = .ok (.ifCond .ne 6, 3) := by decide +kernel
theorem dX6_begin_7 : decode cX6_begin 7 = .ok (.bipush (-2), 2) := by decide +kernel
theorem dX6_begin_9 : decode cX6_begin 9 = .ok (.ireturn, 1) := by decide +kernel
theorem dX6_begin_10 : decode cX6_begin 10 = .ok (.aload_n 0, 1) := by decide +kernel
theorem dX6_begin_11 : decode cX6_begin 11 = .ok (.getfield 19, 3) := by decide +kernel
theorem dX6_begin_14 : decode cX6_begin 14 = .ok (.aload_n 0, 1) := by decide +kernel
theorem dX6_begin_15 : decode cX6_begin 15 = .ok (.getfield 10, 3) := by decide +kernel
theorem dX6_begin_18 : decode cX6_begin 18 = .ok (.invokevirtual 71, 3) := by decide +kernel
theorem dX6_begin_21 : decode cX6_begin 21 = .ok (.aload_n 0, 1) := by decide +kernel
theorem dX6_begin_22 : decode cX6_begin 22 = .ok (.getfield 10, 3) := by decide +kernel
theorem dX6_begin_25 : decode cX6_begin 25 = .ok (.iload_n 1, 1) := by decide +kernel
theorem dX6_begin_26 : decode cX6_begin 26 = .ok (.invokevirtual 81, 3) := by decide +kernel
theorem dX6_begin_29 : decode cX6_begin 29 = .ok (.aload_n 0, 1) := by decide +kernel
theorem dX6_begin_30 : decode cX6_begin 30 = .ok (.getfield 10, 3) := by decide +kernel
theorem dX6_begin_33 : decode cX6_begin 33 = .ok (.invokevirtual 85, 3) := by decide +kernel
theorem dX6_begin_36 : decode cX6_begin 36 = .ok (.ireturn, 1) := by decide +kernel
theorem dX6_setTarget_0 : decode cX6_setTarget 0 = .ok (.iload_n 1, 1) := by decide +kernel
theorem dX6_setTarget_1 : decode cX6_setTarget 1 = .ok (.invokestatic 89, 3) := by decide +kernel
theorem dX6_setTarget_4 : decode cX6_setTarget 4 = .ok (.ifCond .ne 5, 3) := by decide +kernel
theorem dX6_setTarget_7 : decode cX6_setTarget 7 = .ok (.iconst (-1), 1) := by decide +kernel
theorem dX6_setTarget_8 : decode cX6_setTarget 8 = .ok (.ireturn, 1) := by decide +kernel
theorem dX6_setTarget_9 : decode cX6_setTarget 9 = .ok (.iload_n 2, 1) := by decide +kernel
theorem dX6_setTarget_10 : decode cX6_setTarget 10 = .ok (.iconst 0, 1) := by decide +kernel
theorem dX6_setTarget_11 : decode cX6_setTarget 11 = .ok (.bipush 9, 2) := by decide +kernel
theorem dX6_setTarget_13 : decode cX6_setTarget 13 = .ok (.invokestatic 57, 3) := by decide +kernel
theorem dX6_setTarget_16 : decode cX6_setTarget 16 = .ok (.ifCond .ne 6, 3) := by decide +kernel
theorem dX6_setTarget_19 : decode cX6_setTarget 19 = .ok (.bipush (-2), 2) := by decide +kernel
theorem dX6_setTarget_21 : decode cX6_setTarget 21 = .ok (.ireturn, 1) := by decide +kernel
theorem dX6_setTarget_22 : decode cX6_setTarget 22 = .ok (.aload_n 0, 1) := by decide +kernel
theorem dX6_setTarget_23 : decode cX6_setTarget 23 = .ok (.getfield 10, 3) := by decide +kernel
theorem dX6_setTarget_26 : decode cX6_setTarget 26 = .ok (.getfield 92, 3) := by decide +kernel
theorem dX6_setTarget_29 : decode cX6_setTarget 29 = .ok (.iload_n 1, 1) := by decide +kernel
theorem dX6_setTarget_30 : decode cX6_setTarget 30 = .ok (.invokevirtual 64, 3) := by decide +kernel
theorem dX6_setTarget_33 : decode cX6_setTarget 33 = .ok (.istore_n 3, 1) := by decide +kernel
theorem dX6_setTarget_34 : decode cX6_setTarget 34 = .ok (.iload_n 2, 1) := by decide +kernel
theorem dX6_setTarget_35 : decode cX6_setTarget 35 = .ok (.iload_n 3, 1) := by decide +kernel
theorem dX6_setTarget_36 : decode cX6_setTarget 36 = .ok (.if_icmp .ne 6, 3) := by decide +kernel
theorem dX6_setTarget_39 : decode cX6_setTarget 39 = .ok (.bipush (-5), 2) := by decide +kernel
theorem dX6_setTarget_41 : decode cX6_setTarget 41 = .ok (.ireturn, 1) := by decide +kernel
theorem dX6_setTarget_42 : decode cX6_setTarget 42 = .ok (.aload_n 0, 1) := by decide +kernel
theorem dX6_setTarget_43 : decode cX6_setTarget 43 = .ok (.getfield 19, 3) := by decide +kernel
theorem dX6_setTarget_46 : decode cX6_setTarget 46 = .ok (.aload_n 0, 1) := by decide +kernel
theorem dX6_setTarget_47 : decode cX6_setTarget 47 = .ok (.getfield 10, 3) := by decide +kernel
theorem dX6_setTarget_50 : decode cX6_setTarget 50 = .ok (.invokevirtual 71, 3) := by decide +kernel
theorem dX6_setTarget_53 : decode cX6_setTarget 53 = .ok (.aload_n 0, 1) := by decide +kernel
theorem dX6_setTarget_54 : decode cX6_setTarget 54 = .ok (.getfield 10, 3) := by decide +kernel
theorem dX6_setTarget_57 : decode cX6_setTarget 57 = .ok (.getfield 92, 3) := by decide +kernel
theorem dX6_setTarget_60 : decode cX6_setTarget 60 = .ok (.iload_n 1, 1) := by decide +kernel
theorem dX6_setTarget_61 : decode cX6_setTarget 61 = .ok (.iload_n 2, 1) := by decide +kernel
theorem dX6_setTarget_62 : decode cX6_setTarget 62 = .ok (.invokevirtual 75, 3) := by decide +kernel
theorem dX6_setTarget_65 : decode cX6_setTarget 65 = .ok (.iload_n 3, 1) := by decide +kernel
theorem dX6_setTarget_66 : decode cX6_setTarget 66 = .ok (.ireturn, 1) := by decide +kernel
theorem dX6_draft_0 : decode cX6_draft 0 = .ok (.iload_n 1, 1) := by decide +kernel
theorem dX6_draft_1 : decode cX6_draft 1 = .ok (.invokestatic 53, 3) := by decide +kernel
theorem dX6_draft_4 : decode cX6_draft 4 = .ok (.ifCond .ne 5, 3) := by decide +kernel
theorem dX6_draft_7 : decode cX6_draft 7 = .ok (.iconst (-1), 1) := by decide +kernel
theorem dX6_draft_8 : decode cX6_draft 8 = .ok (.ireturn, 1) := by decide +kernel
theorem dX6_draft_9 : decode cX6_draft 9 = .ok (.aload_n 0, 1) := by decide +kernel
theorem dX6_draft_10 : decode cX6_draft 10 = .ok (.getfield 10, 3) := by decide +kernel
theorem dX6_draft_13 : decode cX6_draft 13 = .ok (.getfield 95, 3) := by decide +kernel
theorem dX6_draft_16 : decode cX6_draft 16 = .ok (.ifCond .ne 14, 3) := by decide +kernel
theorem dX6_draft_19 : decode cX6_draft 19 = .ok (.aload_n 0, 1) := by decide +kernel
theorem dX6_draft_20 : decode cX6_draft 20 = .ok (.getfield 10, 3) := by decide +kernel
theorem dX6_draft_23 : decode cX6_draft 23 = .ok (.iload_n 1, 1) := by decide +kernel
theorem dX6_draft_24 : decode cX6_draft 24 = .ok (.invokevirtual 99, 3) := by decide +kernel
theorem dX6_draft_27 : decode cX6_draft 27 = .ok (.ifCond .ne 6, 3) := by decide +kernel
theorem dX6_draft_30 : decode cX6_draft 30 = .ok (.bipush (-4), 2) := by decide +kernel
theorem dX6_draft_32 : decode cX6_draft 32 = .ok (.ireturn, 1) := by decide +kernel
theorem dX6_draft_33 : decode cX6_draft 33 = .ok (.iload_n 2, 1) := by decide +kernel
theorem dX6_draft_34 : decode cX6_draft 34 = .ok (.iconst (-1), 1) := by decide +kernel
theorem dX6_draft_35 : decode cX6_draft 35 = .ok (.if_icmp .eq 17, 3) := by decide +kernel
theorem dX6_draft_38 : decode cX6_draft 38 = .ok (.aload_n 0, 1) := by decide +kernel
theorem dX6_draft_39 : decode cX6_draft 39 = .ok (.getfield 10, 3) := by decide +kernel
theorem dX6_draft_42 : decode cX6_draft 42 = .ok (.iload_n 2, 1) := by decide +kernel
theorem dX6_draft_43 : decode cX6_draft 43 = .ok (.invokevirtual 102, 3) := by decide +kernel
theorem dX6_draft_46 : decode cX6_draft 46 = .ok (.ifCond .ne 6, 3) := by decide +kernel
theorem dX6_draft_49 : decode cX6_draft 49 = .ok (.bipush (-2), 2) := by decide +kernel
theorem dX6_draft_51 : decode cX6_draft 51 = .ok (.ireturn, 1) := by decide +kernel
theorem dX6_draft_52 : decode cX6_draft 52 = .ok (.aload_n 0, 1) := by decide +kernel
theorem dX6_draft_53 : decode cX6_draft 53 = .ok (.getfield 10, 3) := by decide +kernel
theorem dX6_draft_56 : decode cX6_draft 56 = .ok (.getfield 105, 3) := by decide +kernel
theorem dX6_draft_59 : decode cX6_draft 59 = .ok (.iload_n 1, 1) := by decide +kernel
theorem dX6_draft_60 : decode cX6_draft 60 = .ok (.invokevirtual 64, 3) := by decide +kernel
theorem dX6_draft_63 : decode cX6_draft 63 = .ok (.istore_n 3, 1) := by decide +kernel
theorem dX6_draft_64 : decode cX6_draft 64 = .ok (.iload_n 2, 1) := by decide +kernel
theorem dX6_draft_65 : decode cX6_draft 65 = .ok (.iload_n 3, 1) := by decide +kernel
theorem dX6_draft_66 : decode cX6_draft 66 = .ok (.if_icmp .ne 6, 3) := by decide +kernel
theorem dX6_draft_69 : decode cX6_draft 69 = .ok (.bipush (-5), 2) := by decide +kernel
theorem dX6_draft_71 : decode cX6_draft 71 = .ok (.ireturn, 1) := by decide +kernel
theorem dX6_draft_72 : decode cX6_draft 72 = .ok (.aload_n 0, 1) := by decide +kernel
theorem dX6_draft_73 : decode cX6_draft 73 = .ok (.getfield 19, 3) := by decide +kernel
theorem dX6_draft_76 : decode cX6_draft 76 = .ok (.aload_n 0, 1) := by decide +kernel
theorem dX6_draft_77 : decode cX6_draft 77 = .ok (.getfield 10, 3) := by decide +kernel
theorem dX6_draft_80 : decode cX6_draft 80 = .ok (.invokevirtual 71, 3) := by decide +kernel
theorem dX6_draft_83 : decode cX6_draft 83 = .ok (.aload_n 0, 1) := by decide +kernel
theorem dX6_draft_84 : decode cX6_draft 84 = .ok (.getfield 10, 3) := by decide +kernel
theorem dX6_draft_87 : decode cX6_draft 87 = .ok (.getfield 105, 3) := by decide +kernel
theorem dX6_draft_90 : decode cX6_draft 90 = .ok (.iload_n 1, 1) := by decide +kernel
theorem dX6_draft_91 : decode cX6_draft 91 = .ok (.iload_n 2, 1) := by decide +kernel
theorem dX6_draft_92 : decode cX6_draft 92 = .ok (.invokevirtual 75, 3) := by decide +kernel
theorem dX6_draft_95 : decode cX6_draft 95 = .ok (.iload_n 3, 1) := by decide +kernel
theorem dX6_draft_96 : decode cX6_draft 96 = .ok (.ireturn, 1) := by decide +kernel
theorem dX6_trade_0 : decode cX6_trade 0 = .ok (.iload_n 1, 1) := by decide +kernel
theorem dX6_trade_1 : decode cX6_trade 1 = .ok (.invokestatic 53, 3) := by decide +kernel
theorem dX6_trade_4 : decode cX6_trade 4 = .ok (.ifCond .eq 10, 3) := by decide +kernel
theorem dX6_trade_7 : decode cX6_trade 7 = .ok (.iload_n 2, 1) := by decide +kernel
theorem dX6_trade_8 : decode cX6_trade 8 = .ok (.invokestatic 53, 3) := by decide +kernel
theorem dX6_trade_11 : decode cX6_trade 11 = .ok (.ifCond .ne 5, 3) := by decide +kernel
theorem dX6_trade_14 : decode cX6_trade 14 = .ok (.iconst (-1), 1) := by decide +kernel
theorem dX6_trade_15 : decode cX6_trade 15 = .ok (.ireturn, 1) := by decide +kernel
theorem dX6_trade_16 : decode cX6_trade 16 = .ok (.aload_n 0, 1) := by decide +kernel
theorem dX6_trade_17 : decode cX6_trade 17 = .ok (.getfield 10, 3) := by decide +kernel
theorem dX6_trade_20 : decode cX6_trade 20 = .ok (.getfield 105, 3) := by decide +kernel
theorem dX6_trade_23 : decode cX6_trade 23 = .ok (.iload_n 1, 1) := by decide +kernel
theorem dX6_trade_24 : decode cX6_trade 24 = .ok (.invokevirtual 64, 3) := by decide +kernel
theorem dX6_trade_27 : decode cX6_trade 27 = .ok (.istore_n 3, 1) := by decide +kernel
theorem dX6_trade_28 : decode cX6_trade 28 = .ok (.aload_n 0, 1) := by decide +kernel
theorem dX6_trade_29 : decode cX6_trade 29 = .ok (.getfield 10, 3) := by decide +kernel
theorem dX6_trade_32 : decode cX6_trade 32 = .ok (.getfield 105, 3) := by decide +kernel
theorem dX6_trade_35 : decode cX6_trade 35 = .ok (.iload_n 2, 1) := by decide +kernel
theorem dX6_trade_36 : decode cX6_trade 36 = .ok (.invokevirtual 64, 3) := by decide +kernel
theorem dX6_trade_39 : decode cX6_trade 39 = .ok (.istore 4, 2) := by decide +kernel
theorem dX6_trade_41 : decode cX6_trade 41 = .ok (.aload_n 0, 1) := by decide +kernel
theorem dX6_trade_42 : decode cX6_trade 42 = .ok (.getfield 10, 3) := by decide +kernel
theorem dX6_trade_45 : decode cX6_trade 45 = .ok (.getfield 95, 3) := by decide +kernel
theorem dX6_trade_48 : decode cX6_trade 48 = .ok (.ifCond .ne 14, 3) := by decide +kernel
theorem dX6_trade_51 : decode cX6_trade 51 = .ok (.iload_n 3, 1) := by decide +kernel
theorem dX6_trade_52 : decode cX6_trade 52 = .ok (.iconst (-1), 1) := by decide +kernel
theorem dX6_trade_53 : decode cX6_trade 53 = .ok (.if_icmp .eq 9, 3) := by decide +kernel
theorem dX6_trade_56 : decode cX6_trade 56 = .ok (.iload 4, 2) := by decide +kernel
theorem dX6_trade_58 : decode cX6_trade 58 = .ok (.iconst (-1), 1) := by decide +kernel
theorem dX6_trade_59 : decode cX6_trade 59 = .ok (.if_icmp .ne 6, 3) := by decide +kernel
theorem dX6_trade_62 : decode cX6_trade 62 = .ok (.bipush (-4), 2) := by decide +kernel
theorem dX6_trade_64 : decode cX6_trade 64 = .ok (.ireturn, 1) := by decide +kernel
theorem dX6_trade_65 : decode cX6_trade 65 = .ok (.iload_n 3, 1) := by decide +kernel
theorem dX6_trade_66 : decode cX6_trade 66 = .ok (.iload 4, 2) := by decide +kernel
theorem dX6_trade_68 : decode cX6_trade 68 = .ok (.if_icmp .ne 6, 3) := by decide +kernel
theorem dX6_trade_71 : decode cX6_trade 71 = .ok (.bipush (-5), 2) := by decide +kernel
theorem dX6_trade_73 : decode cX6_trade 73 = .ok (.ireturn, 1) := by decide +kernel
theorem dX6_trade_74 : decode cX6_trade 74 = .ok (.aload_n 0, 1) := by decide +kernel
theorem dX6_trade_75 : decode cX6_trade 75 = .ok (.getfield 19, 3) := by decide +kernel
theorem dX6_trade_78 : decode cX6_trade 78 = .ok (.aload_n 0, 1) := by decide +kernel
theorem dX6_trade_79 : decode cX6_trade 79 = .ok (.getfield 10, 3) := by decide +kernel
theorem dX6_trade_82 : decode cX6_trade 82 = .ok (.invokevirtual 71, 3) := by decide +kernel
theorem dX6_trade_85 : decode cX6_trade 85 = .ok (.aload_n 0, 1) := by decide +kernel
theorem dX6_trade_86 : decode cX6_trade 86 = .ok (.getfield 10, 3) := by decide +kernel
theorem dX6_trade_89 : decode cX6_trade 89 = .ok (.getfield 105, 3) := by decide +kernel
theorem dX6_trade_92 : decode cX6_trade 92 = .ok (.iload_n 1, 1) := by decide +kernel
theorem dX6_trade_93 : decode cX6_trade 93 = .ok (.iload 4, 2) := by decide +kernel
theorem dX6_trade_95 : decode cX6_trade 95 = .ok (.invokevirtual 75, 3) := by decide +kernel
theorem dX6_trade_98 : decode cX6_trade 98 = .ok (.aload_n 0, 1) := by decide +kernel
theorem dX6_trade_99 : decode cX6_trade 99 = .ok (.getfield 10, 3) := by decide +kernel
theorem dX6_trade_102 : decode cX6_trade 102 = .ok (.getfield 105, 3) := by decide +kernel
theorem dX6_trade_105 : decode cX6_trade 105 = .ok (.iload_n 2, 1) := by decide +kernel
theorem dX6_trade_106 : decode cX6_trade 106 = .ok (.iload_n 3, 1) := by decide +kernel
theorem dX6_trade_107 : decode cX6_trade 107 = .ok (.invokevirtual 75, 3) := by decide +kernel
theorem dX6_trade_110 : decode cX6_trade 110 = .ok (.aload_n 0, 1) := by decide +kernel
theorem dX6_trade_111 : decode cX6_trade 111 = .ok (.invokevirtual 108, 3) := by decide +kernel
theorem dX6_trade_114 : decode cX6_trade 114 = .ok (.ireturn, 1) := by decide +kernel
theorem dX6_snake_0 : decode cX6_snake 0 = .ok (.aload_n 0, 1) := by decide +kernel
theorem dX6_snake_1 : decode cX6_snake 1 = .ok (.getfield 10, 3) := by decide +kernel
theorem dX6_snake_4 : decode cX6_snake 4 = .ok (.getfield 95, 3) := by decide +kernel
theorem dX6_snake_7 : decode cX6_snake 7 = .ok (.ifCond .eq 6, 3) := by decide +kernel
theorem dX6_snake_10 : decode cX6_snake 10 = .ok (.bipush (-4), 2) := by decide +kernel
theorem dX6_snake_12 : decode cX6_snake 12 = .ok (.ireturn, 1) := by decide +kernel
theorem dX6_snake_13 : decode cX6_snake 13 = .ok (.aload_n 0, 1) := by decide +kernel
theorem dX6_snake_14 : decode cX6_snake 14 = .ok (.iload_n 1, 1) := by decide +kernel
theorem dX6_snake_15 : decode cX6_snake 15 = .ok (.invokevirtual 111, 3) := by decide +kernel
theorem dX6_snake_18 : decode cX6_snake 18 = .ok (.aload_n 0, 1) := by decide +kernel
theorem dX6_snake_19 : decode cX6_snake 19 = .ok (.getfield 49, 3) := by decide +kernel
theorem dX6_snake_22 : decode cX6_snake 22 = .ok (.aload_n 0, 1) := by decide +kernel
theorem dX6_snake_23 : decode cX6_snake 23 = .ok (.getfield 10, 3) := by decide +kernel
theorem dX6_snake_26 : decode cX6_snake 26 = .ok (.getfield 105, 3) := by decide +kernel
theorem dX6_snake_29 : decode cX6_snake 29 = .ok (.invokevirtual 115, 3) := by decide +kernel
theorem dX6_snake_32 : decode cX6_snake 32 = .ok (.ifCond .eq 6, 3) := by decide +kernel
theorem dX6_snake_35 : decode cX6_snake 35 = .ok (.bipush (-5), 2) := by decide +kernel
theorem dX6_snake_37 : decode cX6_snake 37 = .ok (.ireturn, 1) := by decide +kernel
theorem dX6_snake_38 : decode cX6_snake 38 = .ok (.aload_n 0, 1) := by decide +kernel
theorem dX6_snake_39 : decode cX6_snake 39 = .ok (.getfield 19, 3) := by decide +kernel
theorem dX6_snake_42 : decode cX6_snake 42 = .ok (.aload_n 0, 1) := by decide +kernel
theorem dX6_snake_43 : decode cX6_snake 43 = .ok (.getfield 10, 3) := by decide +kernel
theorem dX6_snake_46 : decode cX6_snake 46 = .ok (.invokevirtual 71, 3) := by decide +kernel
theorem dX6_snake_49 : decode cX6_snake 49 = .ok (.aload_n 0, 1) := by decide +kernel
theorem dX6_snake_50 : decode cX6_snake 50 = .ok (.getfield 10, 3) := by decide +kernel
theorem dX6_snake_53 : decode cX6_snake 53 = .ok (.getfield 105, 3) := by decide +kernel
theorem dX6_snake_56 : decode cX6_snake 56 = .ok (.aload_n 0, 1) := by decide +kernel
theorem dX6_snake_57 : decode cX6_snake 57 = .ok (.getfield 49, 3) := by decide +kernel
theorem dX6_snake_60 : decode cX6_snake 60 = .ok (.invokevirtual 119, 3) := by decide +kernel
theorem dX6_snake_63 : decode cX6_snake 63 = .ok (.aload_n 0, 1) := by decide +kernel
theorem dX6_snake_64 : decode cX6_snake 64 = .ok (.invokevirtual 108, 3) := by decide +kernel
theorem dX6_snake_67 : decode cX6_snake 67 = .ok (.ireturn, 1) := by decide +kernel
theorem dX6_adopt_0 : decode cX6_adopt 0 = .ok (.aload_n 0, 1) := by decide +kernel
theorem dX6_adopt_1 : decode cX6_adopt 1 = .ok (.getfield 10, 3) := by decide +kernel
theorem dX6_adopt_4 : decode cX6_adopt 4 = .ok (.getfield 95, 3) := by decide +kernel
theorem dX6_adopt_7 : decode cX6_adopt 7 = .ok (.ifCond .ne 13, 3) := by decide +kernel
theorem dX6_adopt_10 : decode cX6_adopt 10 = .ok (.aload_n 0, 1) := by decide +kernel
theorem dX6_adopt_11 : decode cX6_adopt 11 = .ok (.getfield 10, 3) := by decide +kernel
theorem dX6_adopt_14 : decode cX6_adopt 14 = .ok (.getfield 123, 3) := by decide +kernel
theorem dX6_adopt_17 : decode cX6_adopt 17 = .ok (.ifCond .ne 6, 3) := by decide +kernel
theorem dX6_adopt_20 : decode cX6_adopt 20 = .ok (.bipush (-4), 2) := by decide +kernel
theorem dX6_adopt_22 : decode cX6_adopt 22 = .ok (.ireturn, 1) := by decide +kernel
theorem dX6_adopt_23 : decode cX6_adopt 23 = .ok (.aload_n 0, 1) := by decide +kernel
theorem dX6_adopt_24 : decode cX6_adopt 24 = .ok (.getfield 10, 3) := by decide +kernel
theorem dX6_adopt_27 : decode cX6_adopt 27 = .ok (.getfield 126, 3) := by decide +kernel
theorem dX6_adopt_30 : decode cX6_adopt 30 = .ok (.aload_n 0, 1) := by decide +kernel
theorem dX6_adopt_31 : decode cX6_adopt 31 = .ok (.getfield 10, 3) := by decide +kernel
theorem dX6_adopt_34 : decode cX6_adopt 34 = .ok (.getfield 105, 3) := by decide +kernel
theorem dX6_adopt_37 : decode cX6_adopt 37 = .ok (.invokevirtual 115, 3) := by decide +kernel
theorem dX6_adopt_40 : decode cX6_adopt 40 = .ok (.ifCond .eq 6, 3) := by decide +kernel
theorem dX6_adopt_43 : decode cX6_adopt 43 = .ok (.bipush (-5), 2) := by decide +kernel
theorem dX6_adopt_45 : decode cX6_adopt 45 = .ok (.ireturn, 1) := by decide +kernel
theorem dX6_adopt_46 : decode cX6_adopt 46 = .ok (.aload_n 0, 1) := by decide +kernel
theorem dX6_adopt_47 : decode cX6_adopt 47 = .ok (.getfield 19, 3) := by decide +kernel
theorem dX6_adopt_50 : decode cX6_adopt 50 = .ok (.aload_n 0, 1) := by decide +kernel
theorem dX6_adopt_51 : decode cX6_adopt 51 = .ok (.getfield 10, 3) := by decide +kernel
theorem dX6_adopt_54 : decode cX6_adopt 54 = .ok (.invokevirtual 71, 3) := by decide +kernel
theorem dX6_adopt_57 : decode cX6_adopt 57 = .ok (.aload_n 0, 1) := by decide +kernel
theorem dX6_adopt_58 : decode cX6_adopt 58 = .ok (.getfield 10, 3) := by decide +kernel
theorem dX6_adopt_61 : decode cX6_adopt 61 = .ok (.getfield 105, 3) := by decide +kernel
theorem dX6_adopt_64 : decode cX6_adopt 64 = .ok (.aload_n 0, 1) := by decide +kernel
theorem dX6_adopt_65 : decode cX6_adopt 65 = .ok (.getfield 10, 3) := by decide +kernel
theorem dX6_adopt_68 : decode cX6_adopt 68 = .ok (.getfield 126, 3) := by decide +kernel
theorem dX6_adopt_71 : decode cX6_adopt 71 = .ok (.invokevirtual 119, 3) := by decide +kernel
theorem dX6_adopt_74 : decode cX6_adopt 74 = .ok (.aload_n 0, 1) := by decide +kernel
theorem dX6_adopt_75 : decode cX6_adopt 75 = .ok (.getfield 10, 3) := by decide +kernel
theorem dX6_adopt_78 : decode cX6_adopt 78 = .ok (.invokevirtual 129, 3) := by decide +kernel
theorem dX6_adopt_81 : decode cX6_adopt 81 = .ok (.ireturn, 1) := by decide +kernel
theorem dX6_propose_0 : decode cX6_propose 0 = .ok (.aload_n 0, 1) := by decide +kernel
theorem dX6_propose_1 : decode cX6_propose 1 = .ok (.getfield 10, 3) := by decide +kernel
theorem dX6_propose_4 : decode cX6_propose 4 = .ok (.getfield 95, 3) := by decide +kernel
theorem dX6_propose_7 : decode cX6_propose 7 = .ok (.ifCond .eq 6, 3) := by decide +kernel
theorem dX6_propose_10 : decode cX6_propose 10 = .ok (.bipush (-4), 2) := by decide +kernel
theorem dX6_propose_12 : decode cX6_propose 12 = .ok (.ireturn, 1) := by decide +kernel
theorem dX6_propose_13 : decode cX6_propose 13 = .ok (.aload_n 0, 1) := by decide +kernel
theorem dX6_propose_14 : decode cX6_propose 14 = .ok (.getfield 40, 3) := by decide +kernel
theorem dX6_propose_17 : decode cX6_propose 17 = .ok (.aload_n 0, 1) := by decide +kernel
theorem dX6_propose_18 : decode cX6_propose 18 = .ok (.getfield 10, 3) := by decide +kernel
theorem dX6_propose_21 : decode cX6_propose 21 = .ok (.invokevirtual 132, 3) := by decide +kernel
theorem dX6_propose_24 : decode cX6_propose 24 = .ok (.istore_n 1, 1) := by decide +kernel
theorem dX6_propose_25 : decode cX6_propose 25 = .ok (.iload_n 1, 1) := by decide +kernel
theorem dX6_propose_26 : decode cX6_propose 26 = .ok (.ifCond .eq 8, 3) := by decide +kernel
theorem dX6_propose_29 : decode cX6_propose 29 = .ok (.bipush (-10), 2) := by decide +kernel
theorem dX6_propose_31 : decode cX6_propose 31 = .ok (.iload_n 1, 1) := by decide +kernel
theorem dX6_propose_32 : decode cX6_propose 32 = .ok (.isub, 1) := by decide +kernel
theorem dX6_propose_33 : decode cX6_propose 33 = .ok (.ireturn, 1) := by decide +kernel
theorem dX6_propose_34 : decode cX6_propose 34 = .ok (.aload_n 0, 1) := by decide +kernel
theorem dX6_propose_35 : decode cX6_propose 35 = .ok (.getfield 19, 3) := by decide +kernel
theorem dX6_propose_38 : decode cX6_propose 38 = .ok (.aload_n 0, 1) := by decide +kernel
theorem dX6_propose_39 : decode cX6_propose 39 = .ok (.getfield 10, 3) := by decide +kernel
theorem dX6_propose_42 : decode cX6_propose 42 = .ok (.invokevirtual 71, 3) := by decide +kernel
theorem dX6_propose_45 : decode cX6_propose 45 = .ok (.aload_n 0, 1) := by decide +kernel
theorem dX6_propose_46 : decode cX6_propose 46 = .ok (.getfield 10, 3) := by decide +kernel
theorem dX6_propose_49 : decode cX6_propose 49 = .ok (.iconst 1, 1) := by decide +kernel
theorem dX6_propose_50 : decode cX6_propose 50 = .ok (.putfield 95, 3) := by decide +kernel
theorem dX6_propose_53 : decode cX6_propose 53 = .ok (.aload_n 0, 1) := by decide +kernel
theorem dX6_propose_54 : decode cX6_propose 54 = .ok (.getfield 10, 3) := by decide +kernel
theorem dX6_propose_57 : decode cX6_propose 57 = .ok (.invokevirtual 129, 3) := by decide +kernel
theorem dX6_propose_60 : decode cX6_propose 60 = .ok (.ireturn, 1) := by decide +kernel
theorem dX6_freeze_0 : decode cX6_freeze 0 = .ok (.aload_n 0, 1) := by decide +kernel
theorem dX6_freeze_1 : decode cX6_freeze 1 = .ok (.getfield 10, 3) := by decide +kernel
theorem dX6_freeze_4 : decode cX6_freeze 4 = .ok (.getfield 95, 3) := by decide +kernel
theorem dX6_freeze_7 : decode cX6_freeze 7 = .ok (.iconst 1, 1) := by decide +kernel
theorem dX6_freeze_8 : decode cX6_freeze 8 = .ok (.if_icmp .eq 6, 3) := by decide +kernel
theorem dX6_freeze_11 : decode cX6_freeze 11 = .ok (.bipush (-4), 2) := by decide +kernel
theorem dX6_freeze_13 : decode cX6_freeze 13 = .ok (.ireturn, 1) := by decide +kernel
theorem dX6_freeze_14 : decode cX6_freeze 14 = .ok (.aload_n 0, 1) := by decide +kernel
theorem dX6_freeze_15 : decode cX6_freeze 15 = .ok (.getfield 10, 3) := by decide +kernel
theorem dX6_freeze_18 : decode cX6_freeze 18 = .ok (.iload_n 1, 1) := by decide +kernel
theorem dX6_freeze_19 : decode cX6_freeze 19 = .ok (.invokevirtual 102, 3) := by decide +kernel
theorem dX6_freeze_22 : decode cX6_freeze 22 = .ok (.ifCond .ne 5, 3) := by decide +kernel
theorem dX6_freeze_25 : decode cX6_freeze 25 = .ok (.iconst (-1), 1) := by decide +kernel
theorem dX6_freeze_26 : decode cX6_freeze 26 = .ok (.ireturn, 1) := by decide +kernel
theorem dX6_freeze_27 : decode cX6_freeze 27 = .ok (.aload_n 0, 1) := by decide +kernel
theorem dX6_freeze_28 : decode cX6_freeze 28 = .ok (.getfield 19, 3) := by decide +kernel
theorem dX6_freeze_31 : decode cX6_freeze 31 = .ok (.aload_n 0, 1) := by decide +kernel
theorem dX6_freeze_32 : decode cX6_freeze 32 = .ok (.getfield 10, 3) := by decide +kernel
theorem dX6_freeze_35 : decode cX6_freeze 35 = .ok (.invokevirtual 71, 3) := by decide +kernel
theorem dX6_freeze_38 : decode cX6_freeze 38 = .ok (.aload_n 0, 1) := by decide +kernel
theorem dX6_freeze_39 : decode cX6_freeze 39 = .ok (.getfield 10, 3) := by decide +kernel
theorem dX6_freeze_42 : decode cX6_freeze 42 = .ok (.iload_n 1, 1) := by decide +kernel
theorem dX6_freeze_43 : decode cX6_freeze 43 = .ok (.invokevirtual 136, 3) := by decide +kernel
theorem dX6_freeze_46 : decode cX6_freeze 46 = .ok (.aload_n 0, 1) := by decide +kernel
theorem dX6_freeze_47 : decode cX6_freeze 47 = .ok (.getfield 10, 3) := by decide +kernel
theorem dX6_freeze_50 : decode cX6_freeze 50 = .ok (.getfield 123, 3) := by decide +kernel
theorem dX6_freeze_53 : decode cX6_freeze 53 = .ok (.ireturn, 1) := by decide +kernel
theorem dX6_type_0 : decode cX6_type 0 = .ok (.aload_n 0, 1) := by decide +kernel
theorem dX6_type_1 : decode cX6_type 1 = .ok (.getfield 33, 3) := by decide +kernel
theorem dX6_type_4 : decode cX6_type 4 = .ok (.iload_n 1, 1) := by decide +kernel
theorem dX6_type_5 : decode cX6_type 5 = .ok (.invokevirtual 139, 3) := by decide +kernel
theorem dX6_type_8 : decode cX6_type 8 = .ok (.ifCond .ne 6, 3) := by decide +kernel
theorem dX6_type_11 : decode cX6_type 11 = .ok (.bipush (-3), 2) := by decide +kernel
theorem dX6_type_13 : decode cX6_type 13 = .ok (.ireturn, 1) := by decide +kernel
theorem dX6_type_14 : decode cX6_type 14 = .ok (.aload_n 0, 1) := by decide +kernel
theorem dX6_type_15 : decode cX6_type 15 = .ok (.getfield 33, 3) := by decide +kernel
theorem dX6_type_18 : decode cX6_type 18 = .ok (.invokevirtual 143, 3) := by decide +kernel
theorem dX6_type_21 : decode cX6_type 21 = .ok (.ireturn, 1) := by decide +kernel
theorem dX6_clearText_0 : decode cX6_clearText 0 = .ok (.aload_n 0, 1) := by decide +kernel
theorem dX6_clearText_1 : decode cX6_clearText 1 = .ok (.getfield 33, 3) := by decide +kernel
theorem dX6_clearText_4 : decode cX6_clearText 4 = .ok (.invokevirtual 143, 3) := by decide +kernel
theorem dX6_clearText_7 : decode cX6_clearText 7 = .ok (.istore_n 1, 1) := by decide +kernel
theorem dX6_clearText_8 : decode cX6_clearText 8 = .ok (.aload_n 0, 1) := by decide +kernel
theorem dX6_clearText_9 : decode cX6_clearText 9 = .ok (.getfield 33, 3) := by decide +kernel
theorem dX6_clearText_12 : decode cX6_clearText 12 = .ok (.invokevirtual 146, 3) := by decide +kernel
theorem dX6_clearText_15 : decode cX6_clearText 15 = .ok (.iload_n 1, 1) := by decide +kernel
theorem dX6_clearText_16 : decode cX6_clearText 16 = .ok (.ireturn, 1) := by decide +kernel
theorem dX6_readVotes_0 : decode cX6_readVotes 0 = .ok (.iload_n 1, 1) := by decide +kernel
theorem dX6_readVotes_1 : decode cX6_readVotes 1 = .ok (.invokestatic 53, 3) := by decide +kernel
theorem dX6_readVotes_4 : decode cX6_readVotes 4 = .ok (.ifCond .ne 5, 3) := by decide +kernel
theorem dX6_readVotes_7 : decode cX6_readVotes 7 = .ok (.iconst (-1), 1) := by decide +kernel
theorem dX6_readVotes_8 : decode cX6_readVotes 8 = .ok (.ireturn, 1) := by decide +kernel
theorem dX6_readVotes_9 : decode cX6_readVotes 9 = .ok (.aload_n 0, 1) := by decide +kernel
theorem dX6_readVotes_10 : decode cX6_readVotes 10 = .ok (.getfield 33, 3) := by decide +kernel
theorem dX6_readVotes_13 : decode cX6_readVotes 13 = .ok (.invokevirtual 149, 3) := by decide +kernel
theorem dX6_readVotes_16 : decode cX6_readVotes 16 = .ok (.istore_n 2, 1) := by decide +kernel
theorem dX6_readVotes_17 : decode cX6_readVotes 17 = .ok (.iload_n 2, 1) := by decide +kernel
theorem dX6_readVotes_18 : decode cX6_readVotes 18 = .ok (.iconst (-1), 1) := by decide +kernel
theorem dX6_readVotes_19 : decode cX6_readVotes 19 = .ok (.if_icmp .eq 8, 3) := by decide +kernel
theorem dX6_readVotes_22 : decode cX6_readVotes 22 = .ok (.bipush (-100), 2) := by decide +kernel
theorem dX6_readVotes_24 : decode cX6_readVotes 24 = .ok (.iload_n 2, 1) := by decide +kernel
theorem dX6_readVotes_25 : decode cX6_readVotes 25 = .ok (.isub, 1) := by decide +kernel
theorem dX6_readVotes_26 : decode cX6_readVotes 26 = .ok (.ireturn, 1) := by decide +kernel
theorem dX6_readVotes_27 : decode cX6_readVotes 27 = .ok (.aload_n 0, 1) := by decide +kernel
theorem dX6_readVotes_28 : decode cX6_readVotes 28 = .ok (.getfield 33, 3) := by decide +kernel
theorem dX6_readVotes_31 : decode cX6_readVotes 31 = .ok (.invokevirtual 152, 3) := by decide +kernel
theorem dX6_readVotes_34 : decode cX6_readVotes 34 = .ok (.istore_n 3, 1) := by decide +kernel
theorem dX6_readVotes_35 : decode cX6_readVotes 35 = .ok (.iload_n 3, 1) := by decide +kernel
theorem dX6_readVotes_36 : decode cX6_readVotes 36 = .ok (.bipush 36, 2) := by decide +kernel
theorem dX6_readVotes_38 : decode cX6_readVotes 38 = .ok (.iload_n 1, 1) := by decide +kernel
theorem dX6_readVotes_39 : decode cX6_readVotes 39 = .ok (.isub, 1) := by decide +kernel
theorem dX6_readVotes_40 : decode cX6_readVotes 40 = .ok (.if_icmp .le 6, 3) := by decide +kernel
theorem dX6_readVotes_43 : decode cX6_readVotes 43 = .ok (.bipush (-2), 2) := by decide +kernel
theorem dX6_readVotes_45 : decode cX6_readVotes 45 = .ok (.ireturn, 1) := by decide +kernel
theorem dX6_readVotes_46 : decode cX6_readVotes 46 = .ok (.aload_n 0, 1) := by decide +kernel
theorem dX6_readVotes_47 : decode cX6_readVotes 47 = .ok (.getfield 19, 3) := by decide +kernel
theorem dX6_readVotes_50 : decode cX6_readVotes 50 = .ok (.aload_n 0, 1) := by decide +kernel
theorem dX6_readVotes_51 : decode cX6_readVotes 51 = .ok (.getfield 10, 3) := by decide +kernel
theorem dX6_readVotes_54 : decode cX6_readVotes 54 = .ok (.invokevirtual 71, 3) := by decide +kernel
theorem dX6_readVotes_57 : decode cX6_readVotes 57 = .ok (.iconst 0, 1) := by decide +kernel
theorem dX6_readVotes_58 : decode cX6_readVotes 58 = .ok (.istore 4, 2) := by decide +kernel
theorem dX6_readVotes_60 : decode cX6_readVotes 60 = .ok (.iload 4, 2) := by decide +kernel
theorem dX6_readVotes_62 : decode cX6_readVotes 62 = .ok (.iload_n 3, 1) := by decide +kernel
theorem dX6_readVotes_63 : decode cX6_readVotes 63 = .ok (.if_icmp .ge 57, 3) := by decide +kernel
theorem dX6_readVotes_66 : decode cX6_readVotes 66 = .ok (.aload_n 0, 1) := by decide +kernel
theorem dX6_readVotes_67 : decode cX6_readVotes 67 = .ok (.getfield 10, 3) := by decide +kernel
theorem dX6_readVotes_70 : decode cX6_readVotes 70 = .ok (.getfield 61, 3) := by decide +kernel
theorem dX6_readVotes_73 : decode cX6_readVotes 73 = .ok (.iload_n 1, 1) := by decide +kernel
theorem dX6_readVotes_74 : decode cX6_readVotes 74 = .ok (.iload 4, 2) := by decide +kernel
theorem dX6_readVotes_76 : decode cX6_readVotes 76 = .ok (.iadd, 1) := by decide +kernel
theorem dX6_readVotes_77 : decode cX6_readVotes 77 = .ok (.aload_n 0, 1) := by decide +kernel
theorem dX6_readVotes_78 : decode cX6_readVotes 78 = .ok (.getfield 33, 3) := by decide +kernel
theorem dX6_readVotes_81 : decode cX6_readVotes 81 = .ok (.iload 4, 2) := by decide +kernel
theorem dX6_readVotes_83 : decode cX6_readVotes 83 = .ok (.iconst 0, 1) := by decide +kernel
theorem dX6_readVotes_84 : decode cX6_readVotes 84 = .ok (.invokevirtual 155, 3) := by decide +kernel
theorem dX6_readVotes_87 : decode cX6_readVotes 87 = .ok (.invokevirtual 75, 3) := by decide +kernel
theorem dX6_readVotes_90 : decode cX6_readVotes 90 = .ok (.aload_n 0, 1) := by decide +kernel
theorem dX6_readVotes_91 : decode cX6_readVotes 91 = .ok (.getfield 10, 3) := by decide +kernel
theorem dX6_readVotes_94 : decode cX6_readVotes 94 = .ok (.getfield 68, 3) := by decide +kernel
theorem dX6_readVotes_97 : decode cX6_readVotes 97 = .ok (.iload_n 1, 1) := by decide +kernel
theorem dX6_readVotes_98 : decode cX6_readVotes 98 = .ok (.iload 4, 2) := by decide +kernel
theorem dX6_readVotes_100 : decode cX6_readVotes 100 = .ok (.iadd, 1) := by decide +kernel
theorem dX6_readVotes_101 : decode cX6_readVotes 101 = .ok (.aload_n 0, 1) := by decide +kernel
theorem dX6_readVotes_102 : decode cX6_readVotes 102 = .ok (.getfield 33, 3) := by decide +kernel
theorem dX6_readVotes_105 : decode cX6_readVotes 105 = .ok (.iload 4, 2) := by decide +kernel
theorem dX6_readVotes_107 : decode cX6_readVotes 107 = .ok (.iconst 1, 1) := by decide +kernel
theorem dX6_readVotes_108 : decode cX6_readVotes 108 = .ok (.invokevirtual 155, 3) := by decide +kernel
theorem dX6_readVotes_111 : decode cX6_readVotes 111 = .ok (.invokevirtual 75, 3) := by decide +kernel
theorem dX6_readVotes_114 : decode cX6_readVotes 114 = .ok (.iinc 4 1, 3) := by decide +kernel
theorem dX6_readVotes_117 : decode cX6_readVotes 117 = .ok (.goto (-57), 3) := by decide +kernel
theorem dX6_readVotes_120 : decode cX6_readVotes 120 = .ok (.iload_n 3, 1) := by decide +kernel
theorem dX6_readVotes_121 : decode cX6_readVotes 121 = .ok (.ireturn, 1) := by decide +kernel
theorem dX6_undo_0 : decode cX6_undo 0 = .ok (.aload_n 0, 1) := by decide +kernel
theorem dX6_undo_1 : decode cX6_undo 1 = .ok (.getfield 19, 3) := by decide +kernel
theorem dX6_undo_4 : decode cX6_undo 4 = .ok (.invokevirtual 159, 3) := by decide +kernel
theorem dX6_undo_7 : decode cX6_undo 7 = .ok (.ifCond .ne 6, 3) := by decide +kernel
theorem dX6_undo_10 : decode cX6_undo 10 = .ok (.bipush (-5), 2) := by decide +kernel
theorem dX6_undo_12 : decode cX6_undo 12 = .ok (.ireturn, 1) := by decide +kernel
theorem dX6_undo_13 : decode cX6_undo 13 = .ok (.aload_n 0, 1) := by decide +kernel
theorem dX6_undo_14 : decode cX6_undo 14 = .ok (.getfield 19, 3) := by decide +kernel
theorem dX6_undo_17 : decode cX6_undo 17 = .ok (.aload_n 0, 1) := by decide +kernel
theorem dX6_undo_18 : decode cX6_undo 18 = .ok (.getfield 10, 3) := by decide +kernel
theorem dX6_undo_21 : decode cX6_undo 21 = .ok (.invokevirtual 160, 3) := by decide +kernel
theorem dX6_undo_24 : decode cX6_undo 24 = .ok (.aload_n 0, 1) := by decide +kernel
theorem dX6_undo_25 : decode cX6_undo 25 = .ok (.getfield 19, 3) := by decide +kernel
theorem dX6_undo_28 : decode cX6_undo 28 = .ok (.invokevirtual 159, 3) := by decide +kernel
theorem dX6_undo_31 : decode cX6_undo 31 = .ok (.ireturn, 1) := by decide +kernel
theorem dX6_keep_0 : decode cX6_keep 0 = .ok (.aload_n 0, 1) := by decide +kernel
theorem dX6_keep_1 : decode cX6_keep 1 = .ok (.getfield 23, 3) := by decide +kernel
theorem dX6_keep_4 : decode cX6_keep 4 = .ok (.aload_n 0, 1) := by decide +kernel
theorem dX6_keep_5 : decode cX6_keep 5 = .ok (.getfield 10, 3) := by decide +kernel
theorem dX6_keep_8 : decode cX6_keep 8 = .ok (.invokevirtual 163, 3) := by decide +kernel
theorem dX6_keep_11 : decode cX6_keep 11 = .ok (.aload_n 0, 1) := by decide +kernel
theorem dX6_keep_12 : decode cX6_keep 12 = .ok (.iconst 1, 1) := by decide +kernel
theorem dX6_keep_13 : decode cX6_keep 13 = .ok (.putfield 26, 3) := by decide +kernel
theorem dX6_keep_16 : decode cX6_keep 16 = .ok (.aload_n 0, 1) := by decide +kernel
theorem dX6_keep_17 : decode cX6_keep 17 = .ok (.getfield 10, 3) := by decide +kernel
theorem dX6_keep_20 : decode cX6_keep 20 = .ok (.getfield 123, 3) := by decide +kernel
theorem dX6_keep_23 : decode cX6_keep 23 = .ok (.ireturn, 1) := by decide +kernel
theorem dX6_restore_0 : decode cX6_restore 0 = .ok (.aload_n 0, 1) := by decide +kernel
theorem dX6_restore_1 : decode cX6_restore 1 = .ok (.getfield 26, 3) := by decide +kernel
theorem dX6_restore_4 : decode cX6_restore 4 = .ok (.ifCond .ne 6, 3) := by decide +kernel
theorem dX6_restore_7 : decode cX6_restore 7 = .ok (.bipush (-5), 2) := by decide +kernel
theorem dX6_restore_9 : decode cX6_restore 9 = .ok (.ireturn, 1) := by decide +kernel
theorem dX6_restore_10 : decode cX6_restore 10 = .ok (.aload_n 0, 1) := by decide +kernel
theorem dX6_restore_11 : decode cX6_restore 11 = .ok (.getfield 19, 3) := by decide +kernel
theorem dX6_restore_14 : decode cX6_restore 14 = .ok (.aload_n 0, 1) := by decide +kernel
theorem dX6_restore_15 : decode cX6_restore 15 = .ok (.getfield 10, 3) := by decide +kernel
theorem dX6_restore_18 : decode cX6_restore 18 = .ok (.invokevirtual 71, 3) := by decide +kernel
theorem dX6_restore_21 : decode cX6_restore 21 = .ok (.aload_n 0, 1) := by decide +kernel
theorem dX6_restore_22 : decode cX6_restore 22 = .ok (.getfield 10, 3) := by decide +kernel
theorem dX6_restore_25 : decode cX6_restore 25 = .ok (.aload_n 0, 1) := by decide +kernel
theorem dX6_restore_26 : decode cX6_restore 26 = .ok (.getfield 23, 3) := by decide +kernel
theorem dX6_restore_29 : decode cX6_restore 29 = .ok (.invokevirtual 163, 3) := by decide +kernel
theorem dX6_restore_32 : decode cX6_restore 32 = .ok (.aload_n 0, 1) := by decide +kernel
theorem dX6_restore_33 : decode cX6_restore 33 = .ok (.getfield 10, 3) := by decide +kernel
theorem dX6_restore_36 : decode cX6_restore 36 = .ok (.getfield 123, 3) := by decide +kernel
theorem dX6_restore_39 : decode cX6_restore 39 = .ok (.ireturn, 1) := by decide +kernel
theorem dX6_cell_0 : decode cX6_cell 0 = .ok (.iload_n 1, 1) := by decide +kernel
theorem dX6_cell_1 : decode cX6_cell 1 = .ok (.invokestatic 53, 3) := by decide +kernel
theorem dX6_cell_4 : decode cX6_cell 4 = .ok (.ifCond .ne 5, 3) := by decide +kernel
theorem dX6_cell_7 : decode cX6_cell 7 = .ok (.iconst (-1), 1) := by decide +kernel
theorem dX6_cell_8 : decode cX6_cell 8 = .ok (.ireturn, 1) := by decide +kernel
theorem dX6_cell_9 : decode cX6_cell 9 = .ok (.iload_n 2, 1) := by decide +kernel
theorem dX6_cell_10 : decode cX6_cell 10 = .ok (.tableswitch 125 0 4 #[34, 46, 58, 73, 88], 34) := by decide +kernel
theorem dX6_cell_44 : decode cX6_cell 44 = .ok (.aload_n 0, 1) := by decide +kernel
theorem dX6_cell_45 : decode cX6_cell 45 = .ok (.getfield 10, 3) := by decide +kernel
theorem dX6_cell_48 : decode cX6_cell 48 = .ok (.getfield 61, 3) := by decide +kernel
theorem dX6_cell_51 : decode cX6_cell 51 = .ok (.iload_n 1, 1) := by decide +kernel
theorem dX6_cell_52 : decode cX6_cell 52 = .ok (.invokevirtual 64, 3) := by decide +kernel
theorem dX6_cell_55 : decode cX6_cell 55 = .ok (.ireturn, 1) := by decide +kernel
theorem dX6_cell_56 : decode cX6_cell 56 = .ok (.aload_n 0, 1) := by decide +kernel
theorem dX6_cell_57 : decode cX6_cell 57 = .ok (.getfield 10, 3) := by decide +kernel
theorem dX6_cell_60 : decode cX6_cell 60 = .ok (.getfield 68, 3) := by decide +kernel
theorem dX6_cell_63 : decode cX6_cell 63 = .ok (.iload_n 1, 1) := by decide +kernel
theorem dX6_cell_64 : decode cX6_cell 64 = .ok (.invokevirtual 64, 3) := by decide +kernel
theorem dX6_cell_67 : decode cX6_cell 67 = .ok (.ireturn, 1) := by decide +kernel
theorem dX6_cell_68 : decode cX6_cell 68 = .ok (.aload_n 0, 1) := by decide +kernel
theorem dX6_cell_69 : decode cX6_cell 69 = .ok (.getfield 10, 3) := by decide +kernel
theorem dX6_cell_72 : decode cX6_cell 72 = .ok (.getfield 105, 3) := by decide +kernel
theorem dX6_cell_75 : decode cX6_cell 75 = .ok (.iload_n 1, 1) := by decide +kernel
theorem dX6_cell_76 : decode cX6_cell 76 = .ok (.invokevirtual 64, 3) := by decide +kernel
theorem dX6_cell_79 : decode cX6_cell 79 = .ok (.invokestatic 165, 3) := by decide +kernel
theorem dX6_cell_82 : decode cX6_cell 82 = .ok (.ireturn, 1) := by decide +kernel
theorem dX6_cell_83 : decode cX6_cell 83 = .ok (.aload_n 0, 1) := by decide +kernel
theorem dX6_cell_84 : decode cX6_cell 84 = .ok (.getfield 10, 3) := by decide +kernel
theorem dX6_cell_87 : decode cX6_cell 87 = .ok (.getfield 168, 3) := by decide +kernel
theorem dX6_cell_90 : decode cX6_cell 90 = .ok (.iload_n 1, 1) := by decide +kernel
theorem dX6_cell_91 : decode cX6_cell 91 = .ok (.invokevirtual 64, 3) := by decide +kernel
theorem dX6_cell_94 : decode cX6_cell 94 = .ok (.invokestatic 165, 3) := by decide +kernel
theorem dX6_cell_97 : decode cX6_cell 97 = .ok (.ireturn, 1) := by decide +kernel
theorem dX6_cell_98 : decode cX6_cell 98 = .ok (.aload_n 0, 1) := by decide +kernel
theorem dX6_cell_99 : decode cX6_cell 99 = .ok (.getfield 10, 3) := by decide +kernel
theorem dX6_cell_102 : decode cX6_cell 102 = .ok (.iload_n 1, 1) := by decide +kernel
theorem dX6_cell_103 : decode cX6_cell 103 = .ok (.invokevirtual 99, 3) := by decide +kernel
theorem dX6_cell_106 : decode cX6_cell 106 = .ok (.ifCond .eq 17, 3) := by decide +kernel
theorem dX6_cell_109 : decode cX6_cell 109 = .ok (.aload_n 0, 1) := by decide +kernel
theorem dX6_cell_110 : decode cX6_cell 110 = .ok (.getfield 10, 3) := by decide +kernel
theorem dX6_cell_113 : decode cX6_cell 113 = .ok (.getfield 105, 3) := by decide +kernel
theorem dX6_cell_116 : decode cX6_cell 116 = .ok (.iload_n 1, 1) := by decide +kernel
theorem dX6_cell_117 : decode cX6_cell 117 = .ok (.invokestatic 171, 3) := by decide +kernel
theorem dX6_cell_120 : decode cX6_cell 120 = .ok (.goto 14, 3) := by decide +kernel
theorem dX6_cell_123 : decode cX6_cell 123 = .ok (.aload_n 0, 1) := by decide +kernel
theorem dX6_cell_124 : decode cX6_cell 124 = .ok (.getfield 10, 3) := by decide +kernel
theorem dX6_cell_127 : decode cX6_cell 127 = .ok (.getfield 168, 3) := by decide +kernel
theorem dX6_cell_130 : decode cX6_cell 130 = .ok (.iload_n 1, 1) := by decide +kernel
theorem dX6_cell_131 : decode cX6_cell 131 = .ok (.invokestatic 171, 3) := by decide +kernel
theorem dX6_cell_134 : decode cX6_cell 134 = .ok (.ireturn, 1) := by decide +kernel
theorem dX6_cell_135 : decode cX6_cell 135 = .ok (.bipush (-2), 2) := by decide +kernel
theorem dX6_cell_137 : decode cX6_cell 137 = .ok (.ireturn, 1) := by decide +kernel
theorem dX6_part_0 : decode cX6_part 0 = .ok (.aload_n 0, 1) := by decide +kernel
theorem dX6_part_1 : decode cX6_part 1 = .ok (.getfield 10, 3) := by decide +kernel
theorem dX6_part_4 : decode cX6_part 4 = .ok (.iload_n 1, 1) := by decide +kernel
theorem dX6_part_5 : decode cX6_part 5 = .ok (.invokevirtual 102, 3) := by decide +kernel
theorem dX6_part_8 : decode cX6_part 8 = .ok (.ifCond .ne 5, 3) := by decide +kernel
theorem dX6_part_11 : decode cX6_part 11 = .ok (.iconst (-1), 1) := by decide +kernel
theorem dX6_part_12 : decode cX6_part 12 = .ok (.ireturn, 1) := by decide +kernel
theorem dX6_part_13 : decode cX6_part 13 = .ok (.iload_n 2, 1) := by decide +kernel
theorem dX6_part_14 : decode cX6_part 14 = .ok (.iconst 1, 1) := by decide +kernel
theorem dX6_part_15 : decode cX6_part 15 = .ok (.if_icmp .ne 19, 3) := by decide +kernel
theorem dX6_part_18 : decode cX6_part 18 = .ok (.aload_n 0, 1) := by decide +kernel
theorem dX6_part_19 : decode cX6_part 19 = .ok (.getfield 40, 3) := by decide +kernel
theorem dX6_part_22 : decode cX6_part 22 = .ok (.aload_n 0, 1) := by decide +kernel
theorem dX6_part_23 : decode cX6_part 23 = .ok (.getfield 10, 3) := by decide +kernel
theorem dX6_part_26 : decode cX6_part 26 = .ok (.getfield 105, 3) := by decide +kernel
theorem dX6_part_29 : decode cX6_part 29 = .ok (.iload_n 1, 1) := by decide +kernel
theorem dX6_part_30 : decode cX6_part 30 = .ok (.invokevirtual 177, 3) := by decide +kernel
theorem dX6_part_33 : decode cX6_part 33 = .ok (.ireturn, 1) := by decide +kernel
theorem dX6_part_34 : decode cX6_part 34 = .ok (.aload_n 0, 1) := by decide +kernel
theorem dX6_part_35 : decode cX6_part 35 = .ok (.aload_n 0, 1) := by decide +kernel
theorem dX6_part_36 : decode cX6_part 36 = .ok (.getfield 10, 3) := by decide +kernel
theorem dX6_part_39 : decode cX6_part 39 = .ok (.getfield 105, 3) := by decide +kernel
theorem dX6_part_42 : decode cX6_part 42 = .ok (.iload_n 1, 1) := by decide +kernel
theorem dX6_part_43 : decode cX6_part 43 = .ok (.iload_n 2, 1) := by decide +kernel
theorem dX6_part_44 : decode cX6_part 44 = .ok (.invokevirtual 180, 3) := by decide +kernel
theorem dX6_part_47 : decode cX6_part 47 = .ok (.ireturn, 1) := by decide +kernel
theorem dX6_district_0 : decode cX6_district 0 = .ok (.iload_n 1, 1) := by decide +kernel
theorem dX6_district_1 : decode cX6_district 1 = .ok (.iconst 0, 1) := by decide +kernel
theorem dX6_district_2 : decode cX6_district 2 = .ok (.aload_n 0, 1) := by decide +kernel
theorem dX6_district_3 : decode cX6_district 3 = .ok (.getfield 10, 3) := by decide +kernel
theorem dX6_district_6 : decode cX6_district 6 = .ok (.getfield 123, 3) := by decide +kernel
theorem dX6_district_9 : decode cX6_district 9 = .ok (.iconst 1, 1) := by decide +kernel
theorem dX6_district_10 : decode cX6_district 10 = .ok (.isub, 1) := by decide +kernel
theorem dX6_district_11 : decode cX6_district 11 = .ok (.invokestatic 57, 3) := by decide +kernel
theorem dX6_district_14 : decode cX6_district 14 = .ok (.ifCond .ne 5, 3) := by decide +kernel
theorem dX6_district_17 : decode cX6_district 17 = .ok (.iconst (-1), 1) := by decide +kernel
theorem dX6_district_18 : decode cX6_district 18 = .ok (.ireturn, 1) := by decide +kernel
theorem dX6_district_19 : decode cX6_district 19 = .ok (.iload_n 2, 1) := by decide +kernel
theorem dX6_district_20 : decode cX6_district 20 = .ok (.lookupswitch 68 #[(1, 36), (6, 48), (7, 58)], 36) := by decide +kernel
theorem dX6_district_56 : decode cX6_district 56 = .ok (.aload_n 0, 1) := by decide +kernel
theorem dX6_district_57 : decode cX6_district 57 = .ok (.getfield 10, 3) := by decide +kernel
theorem dX6_district_60 : decode cX6_district 60 = .ok (.getfield 184, 3) := by decide +kernel
theorem dX6_district_63 : decode cX6_district 63 = .ok (.iload_n 1, 1) := by decide +kernel
theorem dX6_district_64 : decode cX6_district 64 = .ok (.invokevirtual 64, 3) := by decide +kernel
theorem dX6_district_67 : decode cX6_district 67 = .ok (.ireturn, 1) := by decide +kernel
theorem dX6_district_68 : decode cX6_district 68 = .ok (.aload_n 0, 1) := by decide +kernel
theorem dX6_district_69 : decode cX6_district 69 = .ok (.getfield 10, 3) := by decide +kernel
theorem dX6_district_72 : decode cX6_district 72 = .ok (.iload_n 1, 1) := by decide +kernel
theorem dX6_district_73 : decode cX6_district 73 = .ok (.iconst 0, 1) := by decide +kernel
theorem dX6_district_74 : decode cX6_district 74 = .ok (.invokevirtual 187, 3) := by decide +kernel
theorem dX6_district_77 : decode cX6_district 77 = .ok (.ireturn, 1) := by decide +kernel
theorem dX6_district_78 : decode cX6_district 78 = .ok (.aload_n 0, 1) := by decide +kernel
theorem dX6_district_79 : decode cX6_district 79 = .ok (.getfield 10, 3) := by decide +kernel
theorem dX6_district_82 : decode cX6_district 82 = .ok (.iload_n 1, 1) := by decide +kernel
theorem dX6_district_83 : decode cX6_district 83 = .ok (.iconst 1, 1) := by decide +kernel
theorem dX6_district_84 : decode cX6_district 84 = .ok (.invokevirtual 187, 3) := by decide +kernel
theorem dX6_district_87 : decode cX6_district 87 = .ok (.ireturn, 1) := by decide +kernel
theorem dX6_district_88 : decode cX6_district 88 = .ok (.aload_n 0, 1) := by decide +kernel
theorem dX6_district_89 : decode cX6_district 89 = .ok (.aload_n 0, 1) := by decide +kernel
theorem dX6_district_90 : decode cX6_district 90 = .ok (.getfield 10, 3) := by decide +kernel
theorem dX6_district_93 : decode cX6_district 93 = .ok (.getfield 168, 3) := by decide +kernel
theorem dX6_district_96 : decode cX6_district 96 = .ok (.iload_n 1, 1) := by decide +kernel
theorem dX6_district_97 : decode cX6_district 97 = .ok (.iload_n 2, 1) := by decide +kernel
theorem dX6_district_98 : decode cX6_district 98 = .ok (.invokevirtual 180, 3) := by decide +kernel
theorem dX6_district_101 : decode cX6_district 101 = .ok (.ireturn, 1) := by decide +kernel
theorem dX6_why_0 : decode cX6_why 0 = .ok (.iload_n 1, 1) := by decide +kernel
theorem dX6_why_1 : decode cX6_why 1 = .ok (.iconst 0, 1) := by decide +kernel
theorem dX6_why_2 : decode cX6_why 2 = .ok (.iconst 1, 1) := by decide +kernel
theorem dX6_why_3 : decode cX6_why 3 = .ok (.invokestatic 57, 3) := by decide +kernel
theorem dX6_why_6 : decode cX6_why 6 = .ok (.ifCond .ne 6, 3) := by decide +kernel
theorem dX6_why_9 : decode cX6_why 9 = .ok (.bipush (-2), 2) := by decide +kernel
theorem dX6_why_11 : decode cX6_why 11 = .ok (.ireturn, 1) := by decide +kernel
theorem dX6_why_12 : decode cX6_why 12 = .ok (.aload_n 0, 1) := by decide +kernel
theorem dX6_why_13 : decode cX6_why 13 = .ok (.getfield 10, 3) := by decide +kernel
theorem dX6_why_16 : decode cX6_why 16 = .ok (.getfield 95, 3) := by decide +kernel
theorem dX6_why_19 : decode cX6_why 19 = .ok (.ifCond .eq 6, 3) := by decide +kernel
theorem dX6_why_22 : decode cX6_why 22 = .ok (.bipush (-4), 2) := by decide +kernel
theorem dX6_why_24 : decode cX6_why 24 = .ok (.ireturn, 1) := by decide +kernel
theorem dX6_why_25 : decode cX6_why 25 = .ok (.iload_n 1, 1) := by decide +kernel
theorem dX6_why_26 : decode cX6_why 26 = .ok (.ifCond .ne 17, 3) := by decide +kernel
theorem dX6_why_29 : decode cX6_why 29 = .ok (.aload_n 0, 1) := by decide +kernel
theorem dX6_why_30 : decode cX6_why 30 = .ok (.getfield 40, 3) := by decide +kernel
theorem dX6_why_33 : decode cX6_why 33 = .ok (.aload_n 0, 1) := by decide +kernel
theorem dX6_why_34 : decode cX6_why 34 = .ok (.getfield 10, 3) := by decide +kernel
theorem dX6_why_37 : decode cX6_why 37 = .ok (.invokevirtual 132, 3) := by decide +kernel
theorem dX6_why_40 : decode cX6_why 40 = .ok (.goto 17, 3) := by decide +kernel
theorem dX6_why_43 : decode cX6_why 43 = .ok (.aload_n 0, 1) := by decide +kernel
theorem dX6_why_44 : decode cX6_why 44 = .ok (.getfield 40, 3) := by decide +kernel
theorem dX6_why_47 : decode cX6_why 47 = .ok (.aload_n 0, 1) := by decide +kernel
theorem dX6_why_48 : decode cX6_why 48 = .ok (.getfield 10, 3) := by decide +kernel
theorem dX6_why_51 : decode cX6_why 51 = .ok (.invokevirtual 190, 3) := by decide +kernel
theorem dX6_why_54 : decode cX6_why 54 = .ok (.invokestatic 165, 3) := by decide +kernel
theorem dX6_why_57 : decode cX6_why 57 = .ok (.ireturn, 1) := by decide +kernel
theorem dX6_advice_0 : decode cX6_advice 0 = .ok (.aload_n 0, 1) := by decide +kernel
theorem dX6_advice_1 : decode cX6_advice 1 = .ok (.getfield 10, 3) := by decide +kernel
theorem dX6_advice_4 : decode cX6_advice 4 = .ok (.getfield 95, 3) := by decide +kernel
theorem dX6_advice_7 : decode cX6_advice 7 = .ok (.iconst 1, 1) := by decide +kernel
theorem dX6_advice_8 : decode cX6_advice 8 = .ok (.if_icmp .eq 6, 3) := by decide +kernel
theorem dX6_advice_11 : decode cX6_advice 11 = .ok (.bipush (-4), 2) := by decide +kernel
theorem dX6_advice_13 : decode cX6_advice 13 = .ok (.ireturn, 1) := by decide +kernel
theorem dX6_advice_14 : decode cX6_advice 14 = .ok (.aload_n 0, 1) := by decide +kernel
theorem dX6_advice_15 : decode cX6_advice 15 = .ok (.getfield 10, 3) := by decide +kernel
theorem dX6_advice_18 : decode cX6_advice 18 = .ok (.invokevirtual 193, 3) := by decide +kernel
theorem dX6_advice_21 : decode cX6_advice 21 = .ok (.istore_n 1, 1) := by decide +kernel
theorem dX6_advice_22 : decode cX6_advice 22 = .ok (.aload_n 0, 1) := by decide +kernel
theorem dX6_advice_23 : decode cX6_advice 23 = .ok (.getfield 10, 3) := by decide +kernel
theorem dX6_advice_26 : decode cX6_advice 26 = .ok (.iload_n 1, 1) := by decide +kernel
theorem dX6_advice_27 : decode cX6_advice 27 = .ok (.invokevirtual 196, 3) := by decide +kernel
theorem dX6_advice_30 : decode cX6_advice 30 = .ok (.istore_n 2, 1) := by decide +kernel
theorem dX6_advice_31 : decode cX6_advice 31 = .ok (.iload_n 2, 1) := by decide +kernel
theorem dX6_advice_32 : decode cX6_advice 32 = .ok (.iconst (-1), 1) := by decide +kernel
theorem dX6_advice_33 : decode cX6_advice 33 = .ok (.if_icmp .eq 7, 3) := by decide +kernel
theorem dX6_advice_36 : decode cX6_advice 36 = .ok (.iload_n 2, 1) := by decide +kernel
theorem dX6_advice_37 : decode cX6_advice 37 = .ok (.goto 11, 3) := by decide +kernel
theorem dX6_advice_40 : decode cX6_advice 40 = .ok (.aload_n 0, 1) := by decide +kernel
theorem dX6_advice_41 : decode cX6_advice 41 = .ok (.getfield 10, 3) := by decide +kernel
theorem dX6_advice_44 : decode cX6_advice 44 = .ok (.iload_n 1, 1) := by decide +kernel
theorem dX6_advice_45 : decode cX6_advice 45 = .ok (.invokevirtual 199, 3) := by decide +kernel
theorem dX6_advice_48 : decode cX6_advice 48 = .ok (.ireturn, 1) := by decide +kernel
theorem dX6_party_0 : decode cX6_party 0 = .ok (.iload_n 1, 1) := by decide +kernel
theorem dX6_party_1 : decode cX6_party 1 = .ok (.invokestatic 89, 3) := by decide +kernel
theorem dX6_party_4 : decode cX6_party 4 = .ok (.ifCond .ne 5, 3) := by decide +kernel
theorem dX6_party_7 : decode cX6_party 7 = .ok (.iconst (-1), 1) := by decide +kernel
theorem dX6_party_8 : decode cX6_party 8 = .ok (.ireturn, 1) := by decide +kernel
theorem dX6_party_9 : decode cX6_party 9 = .ok (.iload_n 2, 1) := by decide +kernel
theorem dX6_party_10 : decode cX6_party 10 = .ok (.tableswitch 112 0 4 #[34, 43, 55, 64, 89], 34) := by decide +kernel
theorem dX6_party_44 : decode cX6_party 44 = .ok (.aload_n 0, 1) := by decide +kernel
theorem dX6_party_45 : decode cX6_party 45 = .ok (.getfield 10, 3) := by decide +kernel
theorem dX6_party_48 : decode cX6_party 48 = .ok (.iload_n 1, 1) := by decide +kernel
theorem dX6_party_49 : decode cX6_party 49 = .ok (.invokevirtual 202, 3) := by decide +kernel
theorem dX6_party_52 : decode cX6_party 52 = .ok (.ireturn, 1) := by decide +kernel
theorem dX6_party_53 : decode cX6_party 53 = .ok (.aload_n 0, 1) := by decide +kernel
theorem dX6_party_54 : decode cX6_party 54 = .ok (.getfield 10, 3) := by decide +kernel
theorem dX6_party_57 : decode cX6_party 57 = .ok (.iload_n 1, 1) := by decide +kernel
theorem dX6_party_58 : decode cX6_party 58 = .ok (.invokevirtual 205, 3) := by decide +kernel
theorem dX6_party_61 : decode cX6_party 61 = .ok (.invokevirtual 209, 3) := by decide +kernel
theorem dX6_party_64 : decode cX6_party 64 = .ok (.ireturn, 1) := by decide +kernel
theorem dX6_party_65 : decode cX6_party 65 = .ok (.aload_n 0, 1) := by decide +kernel
theorem dX6_party_66 : decode cX6_party 66 = .ok (.getfield 10, 3) := by decide +kernel
theorem dX6_party_69 : decode cX6_party 69 = .ok (.iload_n 1, 1) := by decide +kernel
theorem dX6_party_70 : decode cX6_party 70 = .ok (.invokevirtual 212, 3) := by decide +kernel
theorem dX6_party_73 : decode cX6_party 73 = .ok (.ireturn, 1) := by decide +kernel
theorem dX6_party_74 : decode cX6_party 74 = .ok (.sipush 1000, 3) := by decide +kernel
theorem dX6_party_77 : decode cX6_party 77 = .ok (.aload_n 0, 1) := by decide +kernel
theorem dX6_party_78 : decode cX6_party 78 = .ok (.getfield 10, 3) := by decide +kernel
theorem dX6_party_81 : decode cX6_party 81 = .ok (.iload_n 1, 1) := by decide +kernel
theorem dX6_party_82 : decode cX6_party 82 = .ok (.invokevirtual 202, 3) := by decide +kernel
theorem dX6_party_85 : decode cX6_party 85 = .ok (.iadd, 1) := by decide +kernel
theorem dX6_party_86 : decode cX6_party 86 = .ok (.aload_n 0, 1) := by decide +kernel
theorem dX6_party_87 : decode cX6_party 87 = .ok (.getfield 10, 3) := by decide +kernel
theorem dX6_party_90 : decode cX6_party 90 = .ok (.getfield 92, 3) := by decide +kernel
theorem dX6_party_93 : decode cX6_party 93 = .ok (.iload_n 1, 1) := by decide +kernel
theorem dX6_party_94 : decode cX6_party 94 = .ok (.invokevirtual 64, 3) := by decide +kernel
theorem dX6_party_97 : decode cX6_party 97 = .ok (.isub, 1) := by decide +kernel
theorem dX6_party_98 : decode cX6_party 98 = .ok (.ireturn, 1) := by decide +kernel
theorem dX6_party_99 : decode cX6_party 99 = .ok (.aload_n 0, 1) := by decide +kernel
theorem dX6_party_100 : decode cX6_party 100 = .ok (.getfield 10, 3) := by decide +kernel
theorem dX6_party_103 : decode cX6_party 103 = .ok (.aload_n 0, 1) := by decide +kernel
theorem dX6_party_104 : decode cX6_party 104 = .ok (.getfield 10, 3) := by decide +kernel
theorem dX6_party_107 : decode cX6_party 107 = .ok (.getfield 105, 3) := by decide +kernel
theorem dX6_party_110 : decode cX6_party 110 = .ok (.aload_n 0, 1) := by decide +kernel
theorem dX6_party_111 : decode cX6_party 111 = .ok (.getfield 10, 3) := by decide +kernel
theorem dX6_party_114 : decode cX6_party 114 = .ok (.invokevirtual 129, 3) := by decide +kernel
theorem dX6_party_117 : decode cX6_party 117 = .ok (.iload_n 1, 1) := by decide +kernel
theorem dX6_party_118 : decode cX6_party 118 = .ok (.invokevirtual 215, 3) := by decide +kernel
theorem dX6_party_121 : decode cX6_party 121 = .ok (.ireturn, 1) := by decide +kernel
theorem dX6_party_122 : decode cX6_party 122 = .ok (.bipush (-2), 2) := by decide +kernel
theorem dX6_party_124 : decode cX6_party 124 = .ok (.ireturn, 1) := by decide +kernel
theorem dX6_fairness_0 : decode cX6_fairness 0 = .ok (.aload_n 0, 1) := by decide +kernel
theorem dX6_fairness_1 : decode cX6_fairness 1 = .ok (.getfield 10, 3) := by decide +kernel
theorem dX6_fairness_4 : decode cX6_fairness 4 = .ok (.getfield 61, 3) := by decide +kernel
theorem dX6_fairness_7 : decode cX6_fairness 7 = .ok (.invokevirtual 209, 3) := by decide +kernel
theorem dX6_fairness_10 : decode cX6_fairness 10 = .ok (.istore_n 1, 1) := by decide +kernel
theorem dX6_fairness_11 : decode cX6_fairness 11 = .ok (.iload_n 1, 1) := by decide +kernel
theorem dX6_fairness_12 : decode cX6_fairness 12 = .ok (.aload_n 0, 1) := by decide +kernel
theorem dX6_fairness_13 : decode cX6_fairness 13 = .ok (.getfield 10, 3) := by decide +kernel
theorem dX6_fairness_16 : decode cX6_fairness 16 = .ok (.getfield 68, 3) := by decide +kernel
theorem dX6_fairness_19 : decode cX6_fairness 19 = .ok (.invokevirtual 209, 3) := by decide +kernel
theorem dX6_fairness_22 : decode cX6_fairness 22 = .ok (.iadd, 1) := by decide +kernel
theorem dX6_fairness_23 : decode cX6_fairness 23 = .ok (.istore_n 2, 1) := by decide +kernel
theorem dX6_fairness_24 : decode cX6_fairness 24 = .ok (.ldc 218, 2) := by decide +kernel
theorem dX6_fairness_26 : decode cX6_fairness 26 = .ok (.aload_n 0, 1) := by decide +kernel
theorem dX6_fairness_27 : decode cX6_fairness 27 = .ok (.getfield 10, 3) := by decide +kernel
theorem dX6_fairness_30 : decode cX6_fairness 30 = .ok (.iconst 0, 1) := by decide +kernel
theorem dX6_fairness_31 : decode cX6_fairness 31 = .ok (.invokevirtual 202, 3) := by decide +kernel
theorem dX6_fairness_34 : decode cX6_fairness 34 = .ok (.iload_n 2, 1) := by decide +kernel
theorem dX6_fairness_35 : decode cX6_fairness 35 = .ok (.imul, 1) := by decide +kernel
theorem dX6_fairness_36 : decode cX6_fairness 36 = .ok (.iadd, 1) := by decide +kernel
theorem dX6_fairness_37 : decode cX6_fairness 37 = .ok (.aload_n 0, 1) := by decide +kernel
theorem dX6_fairness_38 : decode cX6_fairness 38 = .ok (.getfield 10, 3) := by decide +kernel
theorem dX6_fairness_41 : decode cX6_fairness 41 = .ok (.getfield 123, 3) := by decide +kernel
theorem dX6_fairness_44 : decode cX6_fairness 44 = .ok (.iload_n 1, 1) := by decide +kernel
theorem dX6_fairness_45 : decode cX6_fairness 45 = .ok (.imul, 1) := by decide +kernel
theorem dX6_fairness_46 : decode cX6_fairness 46 = .ok (.isub, 1) := by decide +kernel
theorem dX6_fairness_47 : decode cX6_fairness 47 = .ok (.ireturn, 1) := by decide +kernel
theorem dX6_count_0 : decode cX6_count 0 = .ok (.iload_n 1, 1) := by decide +kernel
theorem dX6_count_1 : decode cX6_count 1 = .ok (.tableswitch 181 0 11 #[63, 71, 79, 87, 95, 103, 114, 126, 134, 142, 165, 173], 63) := by decide +kernel
theorem dX6_count_64 : decode cX6_count 64 = .ok (.aload_n 0, 1) := by decide +kernel
theorem dX6_count_65 : decode cX6_count 65 = .ok (.getfield 10, 3) := by decide +kernel
theorem dX6_count_68 : decode cX6_count 68 = .ok (.getfield 219, 3) := by decide +kernel
theorem dX6_count_71 : decode cX6_count 71 = .ok (.ireturn, 1) := by decide +kernel
theorem dX6_count_72 : decode cX6_count 72 = .ok (.aload_n 0, 1) := by decide +kernel
theorem dX6_count_73 : decode cX6_count 73 = .ok (.getfield 10, 3) := by decide +kernel
theorem dX6_count_76 : decode cX6_count 76 = .ok (.invokevirtual 85, 3) := by decide +kernel
theorem dX6_count_79 : decode cX6_count 79 = .ok (.ireturn, 1) := by decide +kernel
theorem dX6_count_80 : decode cX6_count 80 = .ok (.aload_n 0, 1) := by decide +kernel
theorem dX6_count_81 : decode cX6_count 81 = .ok (.getfield 10, 3) := by decide +kernel
theorem dX6_count_84 : decode cX6_count 84 = .ok (.getfield 123, 3) := by decide +kernel
theorem dX6_count_87 : decode cX6_count 87 = .ok (.ireturn, 1) := by decide +kernel
theorem dX6_count_88 : decode cX6_count 88 = .ok (.aload_n 0, 1) := by decide +kernel
theorem dX6_count_89 : decode cX6_count 89 = .ok (.getfield 10, 3) := by decide +kernel
theorem dX6_count_92 : decode cX6_count 92 = .ok (.invokevirtual 129, 3) := by decide +kernel
theorem dX6_count_95 : decode cX6_count 95 = .ok (.ireturn, 1) := by decide +kernel
theorem dX6_count_96 : decode cX6_count 96 = .ok (.aload_n 0, 1) := by decide +kernel
theorem dX6_count_97 : decode cX6_count 97 = .ok (.getfield 10, 3) := by decide +kernel
theorem dX6_count_100 : decode cX6_count 100 = .ok (.getfield 95, 3) := by decide +kernel
theorem dX6_count_103 : decode cX6_count 103 = .ok (.ireturn, 1) := by decide +kernel
theorem dX6_count_104 : decode cX6_count 104 = .ok (.aload_n 0, 1) := by decide +kernel
theorem dX6_count_105 : decode cX6_count 105 = .ok (.getfield 10, 3) := by decide +kernel
theorem dX6_count_108 : decode cX6_count 108 = .ok (.invokevirtual 193, 3) := by decide +kernel
theorem dX6_count_111 : decode cX6_count 111 = .ok (.invokestatic 165, 3) := by decide +kernel
theorem dX6_count_114 : decode cX6_count 114 = .ok (.ireturn, 1) := by decide +kernel
theorem dX6_count_115 : decode cX6_count 115 = .ok (.aload_n 0, 1) := by decide +kernel
theorem dX6_count_116 : decode cX6_count 116 = .ok (.getfield 10, 3) := by decide +kernel
theorem dX6_count_119 : decode cX6_count 119 = .ok (.getfield 168, 3) := by decide +kernel
theorem dX6_count_122 : decode cX6_count 122 = .ok (.iconst (-1), 1) := by decide +kernel
theorem dX6_count_123 : decode cX6_count 123 = .ok (.invokestatic 222, 3) := by decide +kernel
theorem dX6_count_126 : decode cX6_count 126 = .ok (.ireturn, 1) := by decide +kernel
theorem dX6_count_127 : decode cX6_count 127 = .ok (.aload_n 0, 1) := by decide +kernel
theorem dX6_count_128 : decode cX6_count 128 = .ok (.getfield 10, 3) := by decide +kernel
theorem dX6_count_131 : decode cX6_count 131 = .ok (.invokevirtual 224, 3) := by decide +kernel
theorem dX6_count_134 : decode cX6_count 134 = .ok (.ireturn, 1) := by decide +kernel
theorem dX6_count_135 : decode cX6_count 135 = .ok (.aload_n 0, 1) := by decide +kernel
theorem dX6_count_136 : decode cX6_count 136 = .ok (.getfield 10, 3) := by decide +kernel
theorem dX6_count_139 : decode cX6_count 139 = .ok (.invokevirtual 227, 3) := by decide +kernel
theorem dX6_count_142 : decode cX6_count 142 = .ok (.ireturn, 1) := by decide +kernel
theorem dX6_count_143 : decode cX6_count 143 = .ok (.aload_n 0, 1) := by decide +kernel
theorem dX6_count_144 : decode cX6_count 144 = .ok (.getfield 10, 3) := by decide +kernel
theorem dX6_count_147 : decode cX6_count 147 = .ok (.aload_n 0, 1) := by decide +kernel
theorem dX6_count_148 : decode cX6_count 148 = .ok (.getfield 10, 3) := by decide +kernel
theorem dX6_count_151 : decode cX6_count 151 = .ok (.getfield 168, 3) := by decide +kernel
theorem dX6_count_154 : decode cX6_count 154 = .ok (.aload_n 0, 1) := by decide +kernel
theorem dX6_count_155 : decode cX6_count 155 = .ok (.getfield 10, 3) := by decide +kernel
theorem dX6_count_158 : decode cX6_count 158 = .ok (.getfield 123, 3) := by decide +kernel
theorem dX6_count_161 : decode cX6_count 161 = .ok (.iconst 2, 1) := by decide +kernel
theorem dX6_count_162 : decode cX6_count 162 = .ok (.invokevirtual 215, 3) := by decide +kernel
theorem dX6_count_165 : decode cX6_count 165 = .ok (.ireturn, 1) := by decide +kernel
theorem dX6_count_166 : decode cX6_count 166 = .ok (.aload_n 0, 1) := by decide +kernel
theorem dX6_count_167 : decode cX6_count 167 = .ok (.getfield 19, 3) := by decide +kernel
theorem dX6_count_170 : decode cX6_count 170 = .ok (.invokevirtual 159, 3) := by decide +kernel
theorem dX6_count_173 : decode cX6_count 173 = .ok (.ireturn, 1) := by decide +kernel
theorem dX6_count_174 : decode cX6_count 174 = .ok (.aload_n 0, 1) := by decide +kernel
theorem dX6_count_175 : decode cX6_count 175 = .ok (.getfield 33, 3) := by decide +kernel
theorem dX6_count_178 : decode cX6_count 178 = .ok (.invokevirtual 143, 3) := by decide +kernel
theorem dX6_count_181 : decode cX6_count 181 = .ok (.ireturn, 1) := by decide +kernel
theorem dX6_count_182 : decode cX6_count 182 = .ok (.bipush (-2), 2) := by decide +kernel
theorem dX6_count_184 : decode cX6_count 184 = .ok (.ireturn, 1) := by decide +kernel
theorem dX6_isFromTo_0 : decode cX6_isFromTo 0 = .ok (.iload_n 0, 1) := by decide +kernel
theorem dX6_isFromTo_1 : decode cX6_isFromTo 1 = .ok (.iload_n 1, 1) := by decide +kernel
theorem dX6_isFromTo_2 : decode cX6_isFromTo 2 = .ok (.if_icmp .lt 12, 3) := by decide +kernel
theorem dX6_isFromTo_5 : decode cX6_isFromTo 5 = .ok (.iload_n 0, 1) := by decide +kernel
theorem dX6_isFromTo_6 : decode cX6_isFromTo 6 = .ok (.iload_n 2, 1) := by decide +kernel
theorem dX6_isFromTo_7 : decode cX6_isFromTo 7 = .ok (.if_icmp .gt 7, 3) := by decide +kernel
theorem dX6_isFromTo_10 : decode cX6_isFromTo 10 = .ok (.iconst 1, 1) := by decide +kernel
theorem dX6_isFromTo_11 : decode cX6_isFromTo 11 = .ok (.goto 4, 3) := by decide +kernel
theorem dX6_isFromTo_14 : decode cX6_isFromTo 14 = .ok (.iconst 0, 1) := by decide +kernel
theorem dX6_isFromTo_15 : decode cX6_isFromTo 15 = .ok (.ireturn, 1) := by decide +kernel
theorem dX6_isCell_0 : decode cX6_isCell 0 = .ok (.iload_n 0, 1) := by decide +kernel
theorem dX6_isCell_1 : decode cX6_isCell 1 = .ok (.iconst 0, 1) := by decide +kernel
theorem dX6_isCell_2 : decode cX6_isCell 2 = .ok (.bipush 35, 2) := by decide +kernel
theorem dX6_isCell_4 : decode cX6_isCell 4 = .ok (.invokestatic 57, 3) := by decide +kernel
theorem dX6_isCell_7 : decode cX6_isCell 7 = .ok (.ireturn, 1) := by decide +kernel
theorem dX6_isParty_0 : decode cX6_isParty 0 = .ok (.iload_n 0, 1) := by decide +kernel
theorem dX6_isParty_1 : decode cX6_isParty 1 = .ok (.iconst 0, 1) := by decide +kernel
theorem dX6_isParty_2 : decode cX6_isParty 2 = .ok (.iconst 1, 1) := by decide +kernel
theorem dX6_isParty_3 : decode cX6_isParty 3 = .ok (.invokestatic 57, 3) := by decide +kernel
theorem dX6_isParty_6 : decode cX6_isParty 6 = .ok (.ireturn, 1) := by decide +kernel
theorem dX6_dividesTheMap_0 : decode cX6_dividesTheMap 0 = .ok (.iload_n 0, 1) := by decide +kernel
theorem dX6_dividesTheMap_1 : decode cX6_dividesTheMap 1 = .ok (.iconst 2, 1) := by decide +kernel
theorem dX6_dividesTheMap_2 : decode cX6_dividesTheMap 2 = .ok (.if_icmp .eq 25, 3) := by decide +kernel
theorem dX6_dividesTheMap_5 : decode cX6_dividesTheMap 5 = .ok (.iload_n 0, 1) := by decide +kernel
theorem dX6_dividesTheMap_6 : decode cX6_dividesTheMap 6 = .ok (.iconst 3, 1) := by decide +kernel
theorem dX6_dividesTheMap_7 : decode cX6_dividesTheMap 7 = .ok (.if_icmp .eq 20, 3) := by decide +kernel
theorem dX6_dividesTheMap_10 : decode cX6_dividesTheMap 10 = .ok (.iload_n 0, 1) := by decide +kernel
theorem dX6_dividesTheMap_11 : decode cX6_dividesTheMap 11 = .ok (.iconst 4, 1) := by decide +kernel
theorem dX6_dividesTheMap_12 : decode cX6_dividesTheMap 12 = .ok (.if_icmp .eq 15, 3) := by decide +kernel
theorem dX6_dividesTheMap_15 : decode cX6_dividesTheMap 15 = .ok (.iload_n 0, 1) := by decide +kernel
theorem dX6_dividesTheMap_16 : decode cX6_dividesTheMap 16 = .ok (.bipush 6, 2) := by decide +kernel
theorem dX6_dividesTheMap_18 : decode cX6_dividesTheMap 18 = .ok (.if_icmp .eq 9, 3) := by decide +kernel
theorem dX6_dividesTheMap_21 : decode cX6_dividesTheMap 21 = .ok (.iload_n 0, 1) := by decide +kernel
theorem dX6_dividesTheMap_22 : decode cX6_dividesTheMap 22 = .ok (.bipush 9, 2) := by decide +kernel
theorem dX6_dividesTheMap_24 : decode cX6_dividesTheMap 24 = .ok (.if_icmp .ne 7, 3) := by decide +kernel
theorem dX6_dividesTheMap_27 : decode cX6_dividesTheMap 27 = .ok (.iconst 1, 1) := by decide +kernel
theorem dX6_dividesTheMap_28 : decode cX6_dividesTheMap 28 = .ok (.goto 4, 3) := by decide +kernel
theorem dX6_dividesTheMap_31 : decode cX6_dividesTheMap 31 = .ok (.iconst 0, 1) := by decide +kernel
theorem dX6_dividesTheMap_32 : decode cX6_dividesTheMap 32 = .ok (.ireturn, 1) := by decide +kernel
theorem dX6_noneIfNothing_0 : decode cX6_noneIfNothing 0 = .ok (.iload_n 0, 1) := by decide +kernel
theorem dX6_noneIfNothing_1 : decode cX6_noneIfNothing 1 = .ok (.iconst (-1), 1) := by decide +kernel
theorem dX6_noneIfNothing_2 : decode cX6_noneIfNothing 2 = .ok (.if_icmp .ne 8, 3) := by decide +kernel
theorem dX6_noneIfNothing_5 : decode cX6_noneIfNothing 5 = .ok (.bipush (-5), 2) := by decide +kernel
theorem dX6_noneIfNothing_7 : decode cX6_noneIfNothing 7 = .ok (.goto 4, 3) := by decide +kernel
theorem dX6_noneIfNothing_10 : decode cX6_noneIfNothing 10 = .ok (.iload_n 0, 1) := by decide +kernel
theorem dX6_noneIfNothing_11 : decode cX6_noneIfNothing 11 = .ok (.ireturn, 1) := by decide +kernel
theorem dX6_oneIfCut_0 : decode cX6_oneIfCut 0 = .ok (.aload_n 0, 1) := by decide +kernel
theorem dX6_oneIfCut_1 : decode cX6_oneIfCut 1 = .ok (.getfield 40, 3) := by decide +kernel
theorem dX6_oneIfCut_4 : decode cX6_oneIfCut 4 = .ok (.aload_n 0, 1) := by decide +kernel
theorem dX6_oneIfCut_5 : decode cX6_oneIfCut 5 = .ok (.getfield 10, 3) := by decide +kernel
theorem dX6_oneIfCut_8 : decode cX6_oneIfCut 8 = .ok (.invokevirtual 132, 3) := by decide +kernel
theorem dX6_oneIfCut_11 : decode cX6_oneIfCut 11 = .ok (.ifCond .ne 7, 3) := by decide +kernel
theorem dX6_oneIfCut_14 : decode cX6_oneIfCut 14 = .ok (.iconst 1, 1) := by decide +kernel
theorem dX6_oneIfCut_15 : decode cX6_oneIfCut 15 = .ok (.goto 4, 3) := by decide +kernel
theorem dX6_oneIfCut_18 : decode cX6_oneIfCut 18 = .ok (.iconst 0, 1) := by decide +kernel
theorem dX6_oneIfCut_19 : decode cX6_oneIfCut 19 = .ok (.ireturn, 1) := by decide +kernel
theorem dX6_planSnake_0 : decode cX6_planSnake 0 = .ok (.aload_n 0, 1) := by decide +kernel
theorem dX6_planSnake_1 : decode cX6_planSnake 1 = .ok (.getfield 49, 3) := by decide +kernel
theorem dX6_planSnake_4 : decode cX6_planSnake 4 = .ok (.iconst (-1), 1) := by decide +kernel
theorem dX6_planSnake_5 : decode cX6_planSnake 5 = .ok (.invokevirtual 230, 3) := by decide +kernel
theorem dX6_planSnake_8 : decode cX6_planSnake 8 = .ok (.iconst 0, 1) := by decide +kernel
theorem dX6_planSnake_9 : decode cX6_planSnake 9 = .ok (.istore_n 2, 1) := by decide +kernel
theorem dX6_planSnake_10 : decode cX6_planSnake 10 = .ok (.iconst 0, 1) := by decide +kernel
theorem dX6_planSnake_11 : decode cX6_planSnake 11 = .ok (.istore_n 3, 1) := by decide +kernel
theorem dX6_planSnake_12 : decode cX6_planSnake 12 = .ok (.iconst 0, 1) := by decide +kernel
theorem dX6_planSnake_13 : decode cX6_planSnake 13 = .ok (.istore 4, 2) := by decide +kernel
theorem dX6_planSnake_15 : decode cX6_planSnake 15 = .ok (.iload 4, 2) := by decide +kernel
theorem dX6_planSnake_17 : decode cX6_planSnake 17 = .ok (.bipush 36, 2) := by decide +kernel
theorem dX6_planSnake_19 : decode cX6_planSnake 19 = .ok (.if_icmp .ge 58, 3) := by decide +kernel
theorem dX6_planSnake_22 : decode cX6_planSnake 22 = .ok (.iload 4, 2) := by decide +kernel
theorem dX6_planSnake_24 : decode cX6_planSnake 24 = .ok (.iload_n 1, 1) := by decide +kernel
theorem dX6_planSnake_25 : decode cX6_planSnake 25 = .ok (.invokestatic 233, 3) := by decide +kernel
theorem dX6_planSnake_28 : decode cX6_planSnake 28 = .ok (.istore 5, 2) := by decide +kernel
theorem dX6_planSnake_30 : decode cX6_planSnake 30 = .ok (.aload_n 0, 1) := by decide +kernel
theorem dX6_planSnake_31 : decode cX6_planSnake 31 = .ok (.getfield 10, 3) := by decide +kernel
theorem dX6_planSnake_34 : decode cX6_planSnake 34 = .ok (.iload 5, 2) := by decide +kernel
theorem dX6_planSnake_36 : decode cX6_planSnake 36 = .ok (.invokevirtual 99, 3) := by decide +kernel
theorem dX6_planSnake_39 : decode cX6_planSnake 39 = .ok (.ifCond .eq 32, 3) := by decide +kernel
theorem dX6_planSnake_42 : decode cX6_planSnake 42 = .ok (.aload_n 0, 1) := by decide +kernel
theorem dX6_planSnake_43 : decode cX6_planSnake 43 = .ok (.getfield 49, 3) := by decide +kernel
theorem dX6_planSnake_46 : decode cX6_planSnake 46 = .ok (.iload 5, 2) := by decide +kernel
theorem dX6_planSnake_48 : decode cX6_planSnake 48 = .ok (.iload_n 2, 1) := by decide +kernel
theorem dX6_planSnake_49 : decode cX6_planSnake 49 = .ok (.invokevirtual 75, 3) := by decide +kernel
theorem dX6_planSnake_52 : decode cX6_planSnake 52 = .ok (.iinc 3 1, 3) := by decide +kernel
theorem dX6_planSnake_55 : decode cX6_planSnake 55 = .ok (.iload_n 3, 1) := by decide +kernel
theorem dX6_planSnake_56 : decode cX6_planSnake 56 = .ok (.aload_n 0, 1) := by decide +kernel
theorem dX6_planSnake_57 : decode cX6_planSnake 57 = .ok (.getfield 10, 3) := by decide +kernel
theorem dX6_planSnake_60 : decode cX6_planSnake 60 = .ok (.invokevirtual 85, 3) := by decide +kernel
theorem dX6_planSnake_63 : decode cX6_planSnake 63 = .ok (.if_icmp .ne 8, 3) := by decide +kernel
theorem dX6_planSnake_66 : decode cX6_planSnake 66 = .ok (.iinc 2 1, 3) := by decide +kernel
theorem dX6_planSnake_69 : decode cX6_planSnake 69 = .ok (.iconst 0, 1) := by decide +kernel
theorem dX6_planSnake_70 : decode cX6_planSnake 70 = .ok (.istore_n 3, 1) := by decide +kernel
theorem dX6_planSnake_71 : decode cX6_planSnake 71 = .ok (.iinc 4 1, 3) := by decide +kernel
theorem dX6_planSnake_74 : decode cX6_planSnake 74 = .ok (.goto (-59), 3) := by decide +kernel
theorem dX6_planSnake_77 : decode cX6_planSnake 77 = .ok (.return_, 1) := by decide +kernel
theorem dX6_cellOfSnake_0 : decode cX6_cellOfSnake 0 = .ok (.iload_n 0, 1) := by decide +kernel
theorem dX6_cellOfSnake_1 : decode cX6_cellOfSnake 1 = .ok (.bipush 6, 2) := by decide +kernel
theorem dX6_cellOfSnake_3 : decode cX6_cellOfSnake 3 = .ok (.idiv, 1) := by decide +kernel
theorem dX6_cellOfSnake_4 : decode cX6_cellOfSnake 4 = .ok (.istore_n 2, 1) := by decide +kernel
theorem dX6_cellOfSnake_5 : decode cX6_cellOfSnake 5 = .ok (.iload_n 0, 1) := by decide +kernel
theorem dX6_cellOfSnake_6 : decode cX6_cellOfSnake 6 = .ok (.bipush 6, 2) := by decide +kernel
theorem dX6_cellOfSnake_8 : decode cX6_cellOfSnake 8 = .ok (.irem, 1) := by decide +kernel
theorem dX6_cellOfSnake_9 : decode cX6_cellOfSnake 9 = .ok (.istore_n 3, 1) := by decide +kernel
theorem dX6_cellOfSnake_10 : decode cX6_cellOfSnake 10 = .ok (.iload_n 2, 1) := by decide +kernel
theorem dX6_cellOfSnake_11 : decode cX6_cellOfSnake 11 = .ok (.iconst 2, 1) := by decide +kernel
theorem dX6_cellOfSnake_12 : decode cX6_cellOfSnake 12 = .ok (.irem, 1) := by decide +kernel
theorem dX6_cellOfSnake_13 : decode cX6_cellOfSnake 13 = .ok (.iconst 1, 1) := by decide +kernel
theorem dX6_cellOfSnake_14 : decode cX6_cellOfSnake 14 = .ok (.if_icmp .ne 7, 3) := by decide +kernel
theorem dX6_cellOfSnake_17 : decode cX6_cellOfSnake 17 = .ok (.iconst 5, 1) := by decide +kernel
theorem dX6_cellOfSnake_18 : decode cX6_cellOfSnake 18 = .ok (.iload_n 3, 1) := by decide +kernel
theorem dX6_cellOfSnake_19 : decode cX6_cellOfSnake 19 = .ok (.isub, 1) := by decide +kernel
theorem dX6_cellOfSnake_20 : decode cX6_cellOfSnake 20 = .ok (.istore_n 3, 1) := by decide +kernel
theorem dX6_cellOfSnake_21 : decode cX6_cellOfSnake 21 = .ok (.iload_n 1, 1) := by decide +kernel
theorem dX6_cellOfSnake_22 : decode cX6_cellOfSnake 22 = .ok (.ifCond .eq 12, 3) := by decide +kernel
theorem dX6_cellOfSnake_25 : decode cX6_cellOfSnake 25 = .ok (.iload_n 3, 1) := by decide +kernel
theorem dX6_cellOfSnake_26 : decode cX6_cellOfSnake 26 = .ok (.bipush 6, 2) := by decide +kernel
theorem dX6_cellOfSnake_28 : decode cX6_cellOfSnake 28 = .ok (.imul, 1) := by decide +kernel
theorem dX6_cellOfSnake_29 : decode cX6_cellOfSnake 29 = .ok (.iload_n 2, 1) := by decide +kernel
theorem dX6_cellOfSnake_30 : decode cX6_cellOfSnake 30 = .ok (.iadd, 1) := by decide +kernel
theorem dX6_cellOfSnake_31 : decode cX6_cellOfSnake 31 = .ok (.goto 9, 3) := by decide +kernel
theorem dX6_cellOfSnake_34 : decode cX6_cellOfSnake 34 = .ok (.iload_n 2, 1) := by decide +kernel
theorem dX6_cellOfSnake_35 : decode cX6_cellOfSnake 35 = .ok (.bipush 6, 2) := by decide +kernel
theorem dX6_cellOfSnake_37 : decode cX6_cellOfSnake 37 = .ok (.imul, 1) := by decide +kernel
theorem dX6_cellOfSnake_38 : decode cX6_cellOfSnake 38 = .ok (.iload_n 3, 1) := by decide +kernel
theorem dX6_cellOfSnake_39 : decode cX6_cellOfSnake 39 = .ok (.iadd, 1) := by decide +kernel
theorem dX6_cellOfSnake_40 : decode cX6_cellOfSnake 40 = .ok (.ireturn, 1) := by decide +kernel
theorem dX6_tellArea_0 : decode cX6_tellArea 0 = .ok (.iload_n 3, 1) := by decide +kernel
theorem dX6_tellArea_1 : decode cX6_tellArea 1 = .ok (.tableswitch 85 0 5 #[39, 85, 45, 51, 66, 76], 39) := by decide +kernel
theorem dX6_tellArea_40 : decode cX6_tellArea 40 = .ok (.aload_n 1, 1) := by decide +kernel
theorem dX6_tellArea_41 : decode cX6_tellArea 41 = .ok (.iload_n 2, 1) := by decide +kernel
theorem dX6_tellArea_42 : decode cX6_tellArea 42 = .ok (.invokestatic 222, 3) := by decide +kernel
theorem dX6_tellArea_45 : decode cX6_tellArea 45 = .ok (.ireturn, 1) := by decide +kernel
theorem dX6_tellArea_46 : decode cX6_tellArea 46 = .ok (.aload_n 1, 1) := by decide +kernel
theorem dX6_tellArea_47 : decode cX6_tellArea 47 = .ok (.iload_n 2, 1) := by decide +kernel
theorem dX6_tellArea_48 : decode cX6_tellArea 48 = .ok (.invokestatic 237, 3) := by decide +kernel
theorem dX6_tellArea_51 : decode cX6_tellArea 51 = .ok (.ireturn, 1) := by decide +kernel
theorem dX6_tellArea_52 : decode cX6_tellArea 52 = .ok (.sipush 1000, 3) := by decide +kernel
theorem dX6_tellArea_55 : decode cX6_tellArea 55 = .ok (.aload_n 0, 1) := by decide +kernel
theorem dX6_tellArea_56 : decode cX6_tellArea 56 = .ok (.getfield 10, 3) := by decide +kernel
theorem dX6_tellArea_59 : decode cX6_tellArea 59 = .ok (.aload_n 1, 1) := by decide +kernel
theorem dX6_tellArea_60 : decode cX6_tellArea 60 = .ok (.iload_n 2, 1) := by decide +kernel
theorem dX6_tellArea_61 : decode cX6_tellArea 61 = .ok (.iconst 0, 1) := by decide +kernel
theorem dX6_tellArea_62 : decode cX6_tellArea 62 = .ok (.invokevirtual 240, 3) := by decide +kernel
theorem dX6_tellArea_65 : decode cX6_tellArea 65 = .ok (.iadd, 1) := by decide +kernel
theorem dX6_tellArea_66 : decode cX6_tellArea 66 = .ok (.ireturn, 1) := by decide +kernel
theorem dX6_tellArea_67 : decode cX6_tellArea 67 = .ok (.aload_n 0, 1) := by decide +kernel
theorem dX6_tellArea_68 : decode cX6_tellArea 68 = .ok (.getfield 10, 3) := by decide +kernel
theorem dX6_tellArea_71 : decode cX6_tellArea 71 = .ok (.aload_n 1, 1) := by decide +kernel
theorem dX6_tellArea_72 : decode cX6_tellArea 72 = .ok (.iload_n 2, 1) := by decide +kernel
theorem dX6_tellArea_73 : decode cX6_tellArea 73 = .ok (.invokevirtual 243, 3) := by decide +kernel
theorem dX6_tellArea_76 : decode cX6_tellArea 76 = .ok (.ireturn, 1) := by decide +kernel
theorem dX6_tellArea_77 : decode cX6_tellArea 77 = .ok (.aload_n 1, 1) := by decide +kernel
theorem dX6_tellArea_78 : decode cX6_tellArea 78 = .ok (.iload_n 2, 1) := by decide +kernel
theorem dX6_tellArea_79 : decode cX6_tellArea 79 = .ok (.invokestatic 246, 3) := by decide +kernel
theorem dX6_tellArea_82 : decode cX6_tellArea 82 = .ok (.invokestatic 165, 3) := by decide +kernel
theorem dX6_tellArea_85 : decode cX6_tellArea 85 = .ok (.ireturn, 1) := by decide +kernel
theorem dX6_tellArea_86 : decode cX6_tellArea 86 = .ok (.bipush (-2), 2) := by decide +kernel
theorem dX6_tellArea_88 : decode cX6_tellArea 88 = .ok (.ireturn, 1) := by decide +kernel
