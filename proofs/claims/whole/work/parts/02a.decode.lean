theorem dX0_behind_0 : decode cX0_behind 0 = .ok (.iload_n 0, 1) := by decide +kernel
theorem dX0_behind_1 : decode cX0_behind 1 = .ok (.bipush 6, 2) := by decide +kernel
theorem dX0_behind_3 : decode cX0_behind 3 = .ok (.irem, 1) := by decide +kernel
theorem dX0_behind_4 : decode cX0_behind 4 = .ok (.istore_n 2, 1) := by decide +kernel
theorem dX0_behind_5 : decode cX0_behind 5 = .ok (.iload_n 1, 1) := by decide +kernel
theorem dX0_behind_6 : decode cX0_behind 6 = .ok (.tableswitch 85 0 3 #[30, 45, 58, 73], 30) := by decide +kernel
theorem dX0_behind_36 : decode cX0_behind 36 = .ok (.iload_n 0, 1) := by decide +kernel
theorem dX0_behind_37 : decode cX0_behind 37 = .ok (.bipush 6, 2) := by decide +kernel
theorem dX0_behind_39 : decode cX0_behind 39 = .ok (.if_icmp .lt 10, 3) := by decide +kernel
theorem dX0_behind_42 : decode cX0_behind 42 = .ok (.iload_n 0, 1) := by decide +kernel
theorem dX0_behind_43 : decode cX0_behind 43 = .ok (.bipush 6, 2) := by decide +kernel
theorem dX0_behind_45 : decode cX0_behind 45 = .ok (.isub, 1) := by decide +kernel
theorem dX0_behind_46 : decode cX0_behind 46 = .ok (.goto 4, 3) := by decide +kernel
theorem dX0_behind_49 : decode cX0_behind 49 = .ok (.iconst (-1), 1) := by decide +kernel
theorem dX0_behind_50 : decode cX0_behind 50 = .ok (.ireturn, 1) := by decide +kernel
theorem dX0_behind_51 : decode cX0_behind 51 = .ok (.iload_n 2, 1) := by decide +kernel
theorem dX0_behind_52 : decode cX0_behind 52 = .ok (.iconst 5, 1) := by decide +kernel
theorem dX0_behind_53 : decode cX0_behind 53 = .ok (.if_icmp .ge 9, 3) := by decide +kernel
theorem dX0_behind_56 : decode cX0_behind 56 = .ok (.iload_n 0, 1) := by decide +kernel
theorem dX0_behind_57 : decode cX0_behind 57 = .ok (.iconst 1, 1) := by decide +kernel
theorem dX0_behind_58 : decode cX0_behind 58 = .ok (.iadd, 1) := by decide +kernel
theorem dX0_behind_59 : decode cX0_behind 59 = .ok (.goto 4, 3) := by decide +kernel
theorem dX0_behind_62 : decode cX0_behind 62 = .ok (.iconst (-1), 1) := by decide +kernel
theorem dX0_behind_63 : decode cX0_behind 63 = .ok (.ireturn, 1) := by decide +kernel
theorem dX0_behind_64 : decode cX0_behind 64 = .ok (.iload_n 0, 1) := by decide +kernel
theorem dX0_behind_65 : decode cX0_behind 65 = .ok (.bipush 30, 2) := by decide +kernel
theorem dX0_behind_67 : decode cX0_behind 67 = .ok (.if_icmp .ge 10, 3) := by decide +kernel
theorem dX0_behind_70 : decode cX0_behind 70 = .ok (.iload_n 0, 1) := by decide +kernel
theorem dX0_behind_71 : decode cX0_behind 71 = .ok (.bipush 6, 2) := by decide +kernel
theorem dX0_behind_73 : decode cX0_behind 73 = .ok (.iadd, 1) := by decide +kernel
theorem dX0_behind_74 : decode cX0_behind 74 = .ok (.goto 4, 3) := by decide +kernel
theorem dX0_behind_77 : decode cX0_behind 77 = .ok (.iconst (-1), 1) := by decide +kernel
theorem dX0_behind_78 : decode cX0_behind 78 = .ok (.ireturn, 1) := by decide +kernel
theorem dX0_behind_79 : decode cX0_behind 79 = .ok (.iload_n 2, 1) := by decide +kernel
theorem dX0_behind_80 : decode cX0_behind 80 = .ok (.ifCond .le 9, 3) := by decide +kernel
theorem dX0_behind_83 : decode cX0_behind 83 = .ok (.iload_n 0, 1) := by decide +kernel
theorem dX0_behind_84 : decode cX0_behind 84 = .ok (.iconst 1, 1) := by decide +kernel
theorem dX0_behind_85 : decode cX0_behind 85 = .ok (.isub, 1) := by decide +kernel
theorem dX0_behind_86 : decode cX0_behind 86 = .ok (.goto 4, 3) := by decide +kernel
theorem dX0_behind_89 : decode cX0_behind 89 = .ok (.iconst (-1), 1) := by decide +kernel
theorem dX0_behind_90 : decode cX0_behind 90 = .ok (.ireturn, 1) := by decide +kernel
theorem dX0_behind_91 : decode cX0_behind 91 = .ok (.iconst (-1), 1) := by decide +kernel
theorem dX0_behind_92 : decode cX0_behind 92 = .ok (.ireturn, 1) := by decide +kernel
theorem dX0_size_0 : decode cX0_size 0 = .ok (.iconst 0, 1) := by decide +kernel
theorem dX0_size_1 : decode cX0_size 1 = .ok (.istore_n 2, 1) := by decide +kernel
theorem dX0_size_2 : decode cX0_size 2 = .ok (.iconst 0, 1) := by decide +kernel
theorem dX0_size_3 : decode cX0_size 3 = .ok (.istore_n 3, 1) := by decide +kernel
theorem dX0_size_4 : decode cX0_size 4 = .ok (.iload_n 3, 1) := by decide +kernel
theorem dX0_size_5 : decode cX0_size 5 = .ok (.bipush 36, 2) := by decide +kernel
theorem dX0_size_7 : decode cX0_size 7 = .ok (.if_icmp .ge 21, 3) := by decide +kernel
theorem dX0_size_10 : decode cX0_size 10 = .ok (.aload_n 0, 1) := by decide +kernel
theorem dX0_size_11 : decode cX0_size 11 = .ok (.iload_n 3, 1) := by decide +kernel
theorem dX0_size_12 : decode cX0_size 12 = .ok (.invokevirtual 9, 3) := by decide +kernel
theorem dX0_size_15 : decode cX0_size 15 = .ok (.iload_n 1, 1) := by decide +kernel
theorem dX0_size_16 : decode cX0_size 16 = .ok (.if_icmp .ne 6, 3) := by decide +kernel
theorem dX0_size_19 : decode cX0_size 19 = .ok (.iinc 2 1, 3) := by decide +kernel
theorem dX0_size_22 : decode cX0_size 22 = .ok (.iinc 3 1, 3) := by decide +kernel
theorem dX0_size_25 : decode cX0_size 25 = .ok (.goto (-21), 3) := by decide +kernel
theorem dX0_size_28 : decode cX0_size 28 = .ok (.iload_n 2, 1) := by decide +kernel
theorem dX0_size_29 : decode cX0_size 29 = .ok (.ireturn, 1) := by decide +kernel
theorem dX0_lowest_0 : decode cX0_lowest 0 = .ok (.iconst 0, 1) := by decide +kernel
theorem dX0_lowest_1 : decode cX0_lowest 1 = .ok (.istore_n 2, 1) := by decide +kernel
theorem dX0_lowest_2 : decode cX0_lowest 2 = .ok (.iload_n 2, 1) := by decide +kernel
theorem dX0_lowest_3 : decode cX0_lowest 3 = .ok (.bipush 36, 2) := by decide +kernel
theorem dX0_lowest_5 : decode cX0_lowest 5 = .ok (.if_icmp .ge 20, 3) := by decide +kernel
theorem dX0_lowest_8 : decode cX0_lowest 8 = .ok (.aload_n 0, 1) := by decide +kernel
theorem dX0_lowest_9 : decode cX0_lowest 9 = .ok (.iload_n 2, 1) := by decide +kernel
theorem dX0_lowest_10 : decode cX0_lowest 10 = .ok (.invokevirtual 9, 3) := by decide +kernel
theorem dX0_lowest_13 : decode cX0_lowest 13 = .ok (.iload_n 1, 1) := by decide +kernel
theorem dX0_lowest_14 : decode cX0_lowest 14 = .ok (.if_icmp .ne 5, 3) := by decide +kernel
theorem dX0_lowest_17 : decode cX0_lowest 17 = .ok (.iload_n 2, 1) := by decide +kernel
theorem dX0_lowest_18 : decode cX0_lowest 18 = .ok (.ireturn, 1) := by decide +kernel
theorem dX0_lowest_19 : decode cX0_lowest 19 = .ok (.iinc 2 1, 3) := by decide +kernel
theorem dX0_lowest_22 : decode cX0_lowest 22 = .ok (.goto (-20), 3) := by decide +kernel
theorem dX0_lowest_25 : decode cX0_lowest 25 = .ok (.iconst (-1), 1) := by decide +kernel
theorem dX0_lowest_26 : decode cX0_lowest 26 = .ok (.ireturn, 1) := by decide +kernel
theorem dX0_alike_0 : decode cX0_alike 0 = .ok (.aload_n 0, 1) := by decide +kernel
theorem dX0_alike_1 : decode cX0_alike 1 = .ok (.iload_n 1, 1) := by decide +kernel
theorem dX0_alike_2 : decode cX0_alike 2 = .ok (.invokevirtual 9, 3) := by decide +kernel
theorem dX0_alike_5 : decode cX0_alike 5 = .ok (.istore_n 2, 1) := by decide +kernel
theorem dX0_alike_6 : decode cX0_alike 6 = .ok (.iload_n 2, 1) := by decide +kernel
theorem dX0_alike_7 : decode cX0_alike 7 = .ok (.iconst (-1), 1) := by decide +kernel
theorem dX0_alike_8 : decode cX0_alike 8 = .ok (.if_icmp .ne 5, 3) := by decide +kernel
theorem dX0_alike_11 : decode cX0_alike 11 = .ok (.iconst 0, 1) := by decide +kernel
theorem dX0_alike_12 : decode cX0_alike 12 = .ok (.ireturn, 1) := by decide +kernel
theorem dX0_alike_13 : decode cX0_alike 13 = .ok (.iconst 0, 1) := by decide +kernel
theorem dX0_alike_14 : decode cX0_alike 14 = .ok (.istore_n 3, 1) := by decide +kernel
theorem dX0_alike_15 : decode cX0_alike 15 = .ok (.iconst 0, 1) := by decide +kernel
theorem dX0_alike_16 : decode cX0_alike 16 = .ok (.istore 4, 2) := by decide +kernel
theorem dX0_alike_18 : decode cX0_alike 18 = .ok (.iload 4, 2) := by decide +kernel
theorem dX0_alike_20 : decode cX0_alike 20 = .ok (.iconst 4, 1) := by decide +kernel
theorem dX0_alike_21 : decode cX0_alike 21 = .ok (.if_icmp .ge 26, 3) := by decide +kernel
theorem dX0_alike_24 : decode cX0_alike 24 = .ok (.aload_n 0, 1) := by decide +kernel
theorem dX0_alike_25 : decode cX0_alike 25 = .ok (.iload_n 1, 1) := by decide +kernel
theorem dX0_alike_26 : decode cX0_alike 26 = .ok (.iload 4, 2) := by decide +kernel
theorem dX0_alike_28 : decode cX0_alike 28 = .ok (.invokestatic 15, 3) := by decide +kernel
theorem dX0_alike_31 : decode cX0_alike 31 = .ok (.invokevirtual 9, 3) := by decide +kernel
theorem dX0_alike_34 : decode cX0_alike 34 = .ok (.iload_n 2, 1) := by decide +kernel
theorem dX0_alike_35 : decode cX0_alike 35 = .ok (.if_icmp .ne 6, 3) := by decide +kernel
theorem dX0_alike_38 : decode cX0_alike 38 = .ok (.iinc 3 1, 3) := by decide +kernel
theorem dX0_alike_41 : decode cX0_alike 41 = .ok (.iinc 4 1, 3) := by decide +kernel
theorem dX0_alike_44 : decode cX0_alike 44 = .ok (.goto (-26), 3) := by decide +kernel
theorem dX0_alike_47 : decode cX0_alike 47 = .ok (.iload_n 3, 1) := by decide +kernel
theorem dX0_alike_48 : decode cX0_alike 48 = .ok (.ireturn, 1) := by decide +kernel
theorem dX0_borders_0 : decode cX0_borders 0 = .ok (.iconst 0, 1) := by decide +kernel
theorem dX0_borders_1 : decode cX0_borders 1 = .ok (.istore_n 2, 1) := by decide +kernel
theorem dX0_borders_2 : decode cX0_borders 2 = .ok (.iconst 0, 1) := by decide +kernel
theorem dX0_borders_3 : decode cX0_borders 3 = .ok (.istore_n 3, 1) := by decide +kernel
theorem dX0_borders_4 : decode cX0_borders 4 = .ok (.iload_n 3, 1) := by decide +kernel
theorem dX0_borders_5 : decode cX0_borders 5 = .ok (.bipush 36, 2) := by decide +kernel
theorem dX0_borders_7 : decode cX0_borders 7 = .ok (.if_icmp .ge 28, 3) := by decide +kernel
theorem dX0_borders_10 : decode cX0_borders 10 = .ok (.aload_n 0, 1) := by decide +kernel
theorem dX0_borders_11 : decode cX0_borders 11 = .ok (.iload_n 3, 1) := by decide +kernel
theorem dX0_borders_12 : decode cX0_borders 12 = .ok (.invokevirtual 9, 3) := by decide +kernel
theorem dX0_borders_15 : decode cX0_borders 15 = .ok (.iload_n 1, 1) := by decide +kernel
theorem dX0_borders_16 : decode cX0_borders 16 = .ok (.if_icmp .ne 13, 3) := by decide +kernel
theorem dX0_borders_19 : decode cX0_borders 19 = .ok (.iload_n 2, 1) := by decide +kernel
theorem dX0_borders_20 : decode cX0_borders 20 = .ok (.iconst 4, 1) := by decide +kernel
theorem dX0_borders_21 : decode cX0_borders 21 = .ok (.aload_n 0, 1) := by decide +kernel
theorem dX0_borders_22 : decode cX0_borders 22 = .ok (.iload_n 3, 1) := by decide +kernel
theorem dX0_borders_23 : decode cX0_borders 23 = .ok (.invokestatic 21, 3) := by decide +kernel
theorem dX0_borders_26 : decode cX0_borders 26 = .ok (.isub, 1) := by decide +kernel
theorem dX0_borders_27 : decode cX0_borders 27 = .ok (.iadd, 1) := by decide +kernel
theorem dX0_borders_28 : decode cX0_borders 28 = .ok (.istore_n 2, 1) := by decide +kernel
theorem dX0_borders_29 : decode cX0_borders 29 = .ok (.iinc 3 1, 3) := by decide +kernel
theorem dX0_borders_32 : decode cX0_borders 32 = .ok (.goto (-28), 3) := by decide +kernel
theorem dX0_borders_35 : decode cX0_borders 35 = .ok (.iload_n 2, 1) := by decide +kernel
theorem dX0_borders_36 : decode cX0_borders 36 = .ok (.ireturn, 1) := by decide +kernel
theorem dX0_votes_0 : decode cX0_votes 0 = .ok (.iconst 0, 1) := by decide +kernel
theorem dX0_votes_1 : decode cX0_votes 1 = .ok (.istore_n 3, 1) := by decide +kernel
theorem dX0_votes_2 : decode cX0_votes 2 = .ok (.iconst 0, 1) := by decide +kernel
theorem dX0_votes_3 : decode cX0_votes 3 = .ok (.istore 4, 2) := by decide +kernel
theorem dX0_votes_5 : decode cX0_votes 5 = .ok (.iload 4, 2) := by decide +kernel
theorem dX0_votes_7 : decode cX0_votes 7 = .ok (.bipush 36, 2) := by decide +kernel
theorem dX0_votes_9 : decode cX0_votes 9 = .ok (.if_icmp .ge 28, 3) := by decide +kernel
theorem dX0_votes_12 : decode cX0_votes 12 = .ok (.aload_n 0, 1) := by decide +kernel
theorem dX0_votes_13 : decode cX0_votes 13 = .ok (.iload 4, 2) := by decide +kernel
theorem dX0_votes_15 : decode cX0_votes 15 = .ok (.invokevirtual 9, 3) := by decide +kernel
theorem dX0_votes_18 : decode cX0_votes 18 = .ok (.iload_n 1, 1) := by decide +kernel
theorem dX0_votes_19 : decode cX0_votes 19 = .ok (.if_icmp .ne 12, 3) := by decide +kernel
theorem dX0_votes_22 : decode cX0_votes 22 = .ok (.iload_n 3, 1) := by decide +kernel
theorem dX0_votes_23 : decode cX0_votes 23 = .ok (.aload_n 2, 1) := by decide +kernel
theorem dX0_votes_24 : decode cX0_votes 24 = .ok (.iload 4, 2) := by decide +kernel
theorem dX0_votes_26 : decode cX0_votes 26 = .ok (.invokevirtual 9, 3) := by decide +kernel
theorem dX0_votes_29 : decode cX0_votes 29 = .ok (.iadd, 1) := by decide +kernel
theorem dX0_votes_30 : decode cX0_votes 30 = .ok (.istore_n 3, 1) := by decide +kernel
theorem dX0_votes_31 : decode cX0_votes 31 = .ok (.iinc 4 1, 3) := by decide +kernel
theorem dX0_votes_34 : decode cX0_votes 34 = .ok (.goto (-29), 3) := by decide +kernel
theorem dX0_votes_37 : decode cX0_votes 37 = .ok (.iload_n 3, 1) := by decide +kernel
theorem dX0_votes_38 : decode cX0_votes 38 = .ok (.ireturn, 1) := by decide +kernel
theorem dX1_init_0 : decode cX1_init 0 = .ok (.aload_n 0, 1) := by decide +kernel
theorem dX1_init_1 : decode cX1_init 1 = .ok (.invokespecial 3, 3) := by decide +kernel
theorem dX1_init_4 : decode cX1_init 4 = .ok (.aload_n 0, 1) := by decide +kernel
theorem dX1_init_5 : decode cX1_init 5 = .ok (.iconst 4, 1) := by decide +kernel
theorem dX1_init_6 : decode cX1_init 6 = .ok (.anewarray 9, 3) := by decide +kernel
theorem dX1_init_9 : decode cX1_init 9 = .ok (.putfield 11, 3) := by decide +kernel
theorem dX1_init_12 : decode cX1_init 12 = .ok (.aload_n 0, 1) := by decide +kernel
theorem dX1_init_13 : decode cX1_init 13 = .ok (.iconst 0, 1) := by decide +kernel
theorem dX1_init_14 : decode cX1_init 14 = .ok (.putfield 17, 3) := by decide +kernel
theorem dX1_init_17 : decode cX1_init 17 = .ok (.aload_n 0, 1) := by decide +kernel
theorem dX1_init_18 : decode cX1_init 18 = .ok (.iconst 0, 1) := by decide +kernel
theorem dX1_init_19 : decode cX1_init 19 = .ok (.putfield 21, 3) := by decide +kernel
theorem dX1_init_22 : decode cX1_init 22 = .ok (.iconst 0, 1) := by decide +kernel
theorem dX1_init_23 : decode cX1_init 23 = .ok (.istore_n 1, 1) := by decide +kernel
theorem dX1_init_24 : decode cX1_init 24 = .ok (.iload_n 1, 1) := by decide +kernel
theorem dX1_init_25 : decode cX1_init 25 = .ok (.aload_n 0, 1) := by decide +kernel
theorem dX1_init_26 : decode cX1_init 26 = .ok (.getfield 11, 3) := by decide +kernel
theorem dX1_init_29 : decode cX1_init 29 = .ok (.arraylength, 1) := by decide +kernel
theorem dX1_init_30 : decode cX1_init 30 = .ok (.if_icmp .ge 22, 3) := by decide +kernel
theorem dX1_init_33 : decode cX1_init 33 = .ok (.aload_n 0, 1) := by decide +kernel
theorem dX1_init_34 : decode cX1_init 34 = .ok (.getfield 11, 3) := by decide +kernel
theorem dX1_init_37 : decode cX1_init 37 = .ok (.iload_n 1, 1) := by decide +kernel
theorem dX1_init_38 : decode cX1_init 38 = .ok (.new 9, 3) := by decide +kernel
theorem dX1_init_41 : decode cX1_init 41 = .ok (.dup, 1) := by decide +kernel
theorem dX1_init_42 : decode cX1_init 42 = .ok (.invokespecial 24, 3) := by decide +kernel
theorem dX1_init_45 : decode cX1_init 45 = .ok (.aastore, 1) := by decide +kernel
theorem dX1_init_46 : decode cX1_init 46 = .ok (.iinc 1 1, 3) := by decide +kernel
theorem dX1_init_49 : decode cX1_init 49 = .ok (.goto (-25), 3) := by decide +kernel
theorem dX1_init_52 : decode cX1_init 52 = .ok (.return_, 1) := by decide +kernel
theorem dX1_size_0 : decode cX1_size 0 = .ok (.aload_n 0, 1) := by decide +kernel
theorem dX1_size_1 : decode cX1_size 1 = .ok (.getfield 21, 3) := by decide +kernel
theorem dX1_size_4 : decode cX1_size 4 = .ok (.ireturn, 1) := by decide +kernel
theorem dX1_record_0 : decode cX1_record 0 = .ok (.aload_n 0, 1) := by decide +kernel
theorem dX1_record_1 : decode cX1_record 1 = .ok (.aload_n 0, 1) := by decide +kernel
theorem dX1_record_2 : decode cX1_record 2 = .ok (.getfield 21, 3) := by decide +kernel
theorem dX1_record_5 : decode cX1_record 5 = .ok (.invokevirtual 25, 3) := by decide +kernel
theorem dX1_record_8 : decode cX1_record 8 = .ok (.astore_n 2, 1) := by decide +kernel
theorem dX1_record_9 : decode cX1_record 9 = .ok (.aload_n 2, 1) := by decide +kernel
theorem dX1_record_10 : decode cX1_record 10 = .ok (.ifnonnull 4, 3) := by decide +kernel
theorem dX1_record_13 : decode cX1_record 13 = .ok (.return_, 1) := by decide +kernel
theorem dX1_record_14 : decode cX1_record 14 = .ok (.aload_n 2, 1) := by decide +kernel
theorem dX1_record_15 : decode cX1_record 15 = .ok (.aload_n 1, 1) := by decide +kernel
theorem dX1_record_16 : decode cX1_record 16 = .ok (.invokevirtual 29, 3) := by decide +kernel
theorem dX1_record_19 : decode cX1_record 19 = .ok (.aload_n 0, 1) := by decide +kernel
theorem dX1_record_20 : decode cX1_record 20 = .ok (.getfield 21, 3) := by decide +kernel
theorem dX1_record_23 : decode cX1_record 23 = .ok (.iconst 4, 1) := by decide +kernel
theorem dX1_record_24 : decode cX1_record 24 = .ok (.if_icmp .ge 16, 3) := by decide +kernel
theorem dX1_record_27 : decode cX1_record 27 = .ok (.aload_n 0, 1) := by decide +kernel
theorem dX1_record_28 : decode cX1_record 28 = .ok (.dup, 1) := by decide +kernel
theorem dX1_record_29 : decode cX1_record 29 = .ok (.getfield 21, 3) := by decide +kernel
theorem dX1_record_32 : decode cX1_record 32 = .ok (.iconst 1, 1) := by decide +kernel
theorem dX1_record_33 : decode cX1_record 33 = .ok (.iadd, 1) := by decide +kernel
theorem dX1_record_34 : decode cX1_record 34 = .ok (.putfield 21, 3) := by decide +kernel
theorem dX1_record_37 : decode cX1_record 37 = .ok (.goto 15, 3) := by decide +kernel
theorem dX1_record_40 : decode cX1_record 40 = .ok (.aload_n 0, 1) := by decide +kernel
theorem dX1_record_41 : decode cX1_record 41 = .ok (.aload_n 0, 1) := by decide +kernel
theorem dX1_record_42 : decode cX1_record 42 = .ok (.getfield 17, 3) := by decide +kernel
theorem dX1_record_45 : decode cX1_record 45 = .ok (.iconst 1, 1) := by decide +kernel
theorem dX1_record_46 : decode cX1_record 46 = .ok (.iadd, 1) := by decide +kernel
theorem dX1_record_47 : decode cX1_record 47 = .ok (.iconst 4, 1) := by decide +kernel
theorem dX1_record_48 : decode cX1_record 48 = .ok (.irem, 1) := by decide +kernel
theorem dX1_record_49 : decode cX1_record 49 = .ok (.putfield 17, 3) := by decide +kernel
theorem dX1_record_52 : decode cX1_record 52 = .ok (.return_, 1) := by decide +kernel
theorem dX1_takeLatest_0 : decode cX1_takeLatest 0 = .ok (.aload_n 0, 1) := by decide +kernel
theorem dX1_takeLatest_1 : decode cX1_takeLatest 1 = .ok (.aload_n 0, 1) := by decide +kernel
theorem dX1_takeLatest_2 : decode cX1_takeLatest 2 = .ok (.getfield 21, 3) := by decide +kernel
theorem dX1_takeLatest_5 : decode cX1_takeLatest 5 = .ok (.iconst 1, 1) := by decide +kernel
theorem dX1_takeLatest_6 : decode cX1_takeLatest 6 = .ok (.isub, 1) := by decide +kernel
theorem dX1_takeLatest_7 : decode cX1_takeLatest 7 = .ok (.invokevirtual 25, 3) := by decide +kernel
theorem dX1_takeLatest_10 : decode cX1_takeLatest 10 = .ok (.astore_n 2, 1) := by decide +kernel
theorem dX1_takeLatest_11 : decode cX1_takeLatest 11 = .ok (.aload_n 0, 1) := by decide +kernel
theorem dX1_takeLatest_12 : decode cX1_takeLatest 12 = .ok (.getfield 21, 3) := by decide +kernel
theorem dX1_takeLatest_15 : decode cX1_takeLatest 15 = .ok (.ifCond .eq 7, 3) := by decide +kernel
theorem dX1_takeLatest_18 : decode cX1_takeLatest 18 = .ok (.aload_n 2, 1) := by decide +kernel
theorem dX1_takeLatest_19 : decode cX1_takeLatest 19 = .ok (.ifnonnull 4, 3) := by decide +kernel
theorem dX1_takeLatest_22 : decode cX1_takeLatest 22 = .ok (.return_, 1) := by decide +kernel
theorem dX1_takeLatest_23 : decode cX1_takeLatest 23 = .ok (.aload_n 1, 1) := by decide +kernel
theorem dX1_takeLatest_24 : decode cX1_takeLatest 24 = .ok (.aload_n 2, 1) := by decide +kernel
theorem dX1_takeLatest_25 : decode cX1_takeLatest 25 = .ok (.invokevirtual 29, 3) := by decide +kernel
theorem dX1_takeLatest_28 : decode cX1_takeLatest 28 = .ok (.aload_n 0, 1) := by decide +kernel
theorem dX1_takeLatest_29 : decode cX1_takeLatest 29 = .ok (.dup, 1) := by decide +kernel
theorem dX1_takeLatest_30 : decode cX1_takeLatest 30 = .ok (.getfield 21, 3) := by decide +kernel
theorem dX1_takeLatest_33 : decode cX1_takeLatest 33 = .ok (.iconst 1, 1) := by decide +kernel
theorem dX1_takeLatest_34 : decode cX1_takeLatest 34 = .ok (.isub, 1) := by decide +kernel
theorem dX1_takeLatest_35 : decode cX1_takeLatest 35 = .ok (.putfield 21, 3) := by decide +kernel
theorem dX1_takeLatest_38 : decode cX1_takeLatest 38 = .ok (.return_, 1) := by decide +kernel
theorem dX1_slotAt_0 : decode cX1_slotAt 0 = .ok (.aload_n 0, 1) := by decide +kernel
theorem dX1_slotAt_1 : decode cX1_slotAt 1 = .ok (.getfield 17, 3) := by decide +kernel
theorem dX1_slotAt_4 : decode cX1_slotAt 4 = .ok (.iload_n 1, 1) := by decide +kernel
theorem dX1_slotAt_5 : decode cX1_slotAt 5 = .ok (.iadd, 1) := by decide +kernel
theorem dX1_slotAt_6 : decode cX1_slotAt 6 = .ok (.iconst 4, 1) := by decide +kernel
theorem dX1_slotAt_7 : decode cX1_slotAt 7 = .ok (.invokestatic 33, 3) := by decide +kernel
theorem dX1_slotAt_10 : decode cX1_slotAt 10 = .ok (.istore_n 2, 1) := by decide +kernel
theorem dX1_slotAt_11 : decode cX1_slotAt 11 = .ok (.iload_n 2, 1) := by decide +kernel
theorem dX1_slotAt_12 : decode cX1_slotAt 12 = .ok (.ifCond .lt 21, 3) := by decide +kernel
theorem dX1_slotAt_15 : decode cX1_slotAt 15 = .ok (.iload_n 2, 1) := by decide +kernel
theorem dX1_slotAt_16 : decode cX1_slotAt 16 = .ok (.aload_n 0, 1) := by decide +kernel
theorem dX1_slotAt_17 : decode cX1_slotAt 17 = .ok (.getfield 11, 3) := by decide +kernel
theorem dX1_slotAt_20 : decode cX1_slotAt 20 = .ok (.arraylength, 1) := by decide +kernel
theorem dX1_slotAt_21 : decode cX1_slotAt 21 = .ok (.if_icmp .ge 12, 3) := by decide +kernel
theorem dX1_slotAt_24 : decode cX1_slotAt 24 = .ok (.aload_n 0, 1) := by decide +kernel
theorem dX1_slotAt_25 : decode cX1_slotAt 25 = .ok (.getfield 11, 3) := by decide +kernel
theorem dX1_slotAt_28 : decode cX1_slotAt 28 = .ok (.iload_n 2, 1) := by decide +kernel
theorem dX1_slotAt_29 : decode cX1_slotAt 29 = .ok (.aaload, 1) := by decide +kernel
theorem dX1_slotAt_30 : decode cX1_slotAt 30 = .ok (.goto 4, 3) := by decide +kernel
theorem dX1_slotAt_33 : decode cX1_slotAt 33 = .ok (.aconst_null, 1) := by decide +kernel
theorem dX1_slotAt_34 : decode cX1_slotAt 34 = .ok (.areturn, 1) := by decide +kernel
theorem dX2_init_0 : decode cX2_init 0 = .ok (.aload_n 0, 1) := by decide +kernel
theorem dX2_init_1 : decode cX2_init 1 = .ok (.invokespecial 3, 3) := by decide +kernel
theorem dX2_init_4 : decode cX2_init 4 = .ok (.aload_n 0, 1) := by decide +kernel
theorem dX2_init_5 : decode cX2_init 5 = .ok (.new 9, 3) := by decide +kernel
theorem dX2_init_8 : decode cX2_init 8 = .ok (.dup, 1) := by decide +kernel
theorem dX2_init_9 : decode cX2_init 9 = .ok (.bipush 36, 2) := by decide +kernel
theorem dX2_init_11 : decode cX2_init 11 = .ok (.iconst 0, 1) := by decide +kernel
theorem dX2_init_12 : decode cX2_init 12 = .ok (.invokespecial 11, 3) := by decide +kernel
theorem dX2_init_15 : decode cX2_init 15 = .ok (.putfield 14, 3) := by decide +kernel
theorem dX2_init_18 : decode cX2_init 18 = .ok (.aload_n 0, 1) := by decide +kernel
theorem dX2_init_19 : decode cX2_init 19 = .ok (.new 9, 3) := by decide +kernel
theorem dX2_init_22 : decode cX2_init 22 = .ok (.dup, 1) := by decide +kernel
theorem dX2_init_23 : decode cX2_init 23 = .ok (.bipush 36, 2) := by decide +kernel
theorem dX2_init_25 : decode cX2_init 25 = .ok (.iconst (-1), 1) := by decide +kernel
theorem dX2_init_26 : decode cX2_init 26 = .ok (.invokespecial 11, 3) := by decide +kernel
theorem dX2_init_29 : decode cX2_init 29 = .ok (.putfield 20, 3) := by decide +kernel
theorem dX2_init_32 : decode cX2_init 32 = .ok (.return_, 1) := by decide +kernel
theorem dX2_reason_0 : decode cX2_reason 0 = .ok (.aload_n 1, 1) := by decide +kernel
theorem dX2_reason_1 : decode cX2_reason 1 = .ok (.invokestatic 23, 3) := by decide +kernel
theorem dX2_reason_4 : decode cX2_reason 4 = .ok (.iconst (-1), 1) := by decide +kernel
theorem dX2_reason_5 : decode cX2_reason 5 = .ok (.if_icmp .eq 5, 3) := by decide +kernel
theorem dX2_reason_8 : decode cX2_reason 8 = .ok (.iconst 1, 1) := by decide +kernel
theorem dX2_reason_9 : decode cX2_reason 9 = .ok (.ireturn, 1) := by decide +kernel
theorem dX2_reason_10 : decode cX2_reason 10 = .ok (.aload_n 1, 1) := by decide +kernel
theorem dX2_reason_11 : decode cX2_reason 11 = .ok (.invokestatic 27, 3) := by decide +kernel
theorem dX2_reason_14 : decode cX2_reason 14 = .ok (.iconst (-1), 1) := by decide +kernel
theorem dX2_reason_15 : decode cX2_reason 15 = .ok (.if_icmp .eq 5, 3) := by decide +kernel
theorem dX2_reason_18 : decode cX2_reason 18 = .ok (.iconst 2, 1) := by decide +kernel
theorem dX2_reason_19 : decode cX2_reason 19 = .ok (.ireturn, 1) := by decide +kernel
theorem dX2_reason_20 : decode cX2_reason 20 = .ok (.aload_n 0, 1) := by decide +kernel
theorem dX2_reason_21 : decode cX2_reason 21 = .ok (.aload_n 1, 1) := by decide +kernel
theorem dX2_reason_22 : decode cX2_reason 22 = .ok (.invokevirtual 30, 3) := by decide +kernel
theorem dX2_reason_25 : decode cX2_reason 25 = .ok (.iconst (-1), 1) := by decide +kernel
theorem dX2_reason_26 : decode cX2_reason 26 = .ok (.if_icmp .eq 7, 3) := by decide +kernel
theorem dX2_reason_29 : decode cX2_reason 29 = .ok (.iconst 3, 1) := by decide +kernel
theorem dX2_reason_30 : decode cX2_reason 30 = .ok (.goto 4, 3) := by decide +kernel
theorem dX2_reason_33 : decode cX2_reason 33 = .ok (.iconst 0, 1) := by decide +kernel
theorem dX2_reason_34 : decode cX2_reason 34 = .ok (.ireturn, 1) := by decide +kernel
theorem dX2_blamed_0 : decode cX2_blamed 0 = .ok (.aload_n 0, 1) := by decide +kernel
theorem dX2_blamed_1 : decode cX2_blamed 1 = .ok (.aload_n 1, 1) := by decide +kernel
theorem dX2_blamed_2 : decode cX2_blamed 2 = .ok (.invokevirtual 33, 3) := by decide +kernel
theorem dX2_blamed_5 : decode cX2_blamed 5 = .ok (.tableswitch 43 1 3 #[27, 32, 37], 27) := by decide +kernel
theorem dX2_blamed_32 : decode cX2_blamed 32 = .ok (.aload_n 1, 1) := by decide +kernel
theorem dX2_blamed_33 : decode cX2_blamed 33 = .ok (.invokestatic 23, 3) := by decide +kernel
theorem dX2_blamed_36 : decode cX2_blamed 36 = .ok (.ireturn, 1) := by decide +kernel
theorem dX2_blamed_37 : decode cX2_blamed 37 = .ok (.aload_n 1, 1) := by decide +kernel
theorem dX2_blamed_38 : decode cX2_blamed 38 = .ok (.invokestatic 27, 3) := by decide +kernel
theorem dX2_blamed_41 : decode cX2_blamed 41 = .ok (.ireturn, 1) := by decide +kernel
theorem dX2_blamed_42 : decode cX2_blamed 42 = .ok (.aload_n 0, 1) := by decide +kernel
theorem dX2_blamed_43 : decode cX2_blamed 43 = .ok (.aload_n 1, 1) := by decide +kernel
theorem dX2_blamed_44 : decode cX2_blamed 44 = .ok (.invokevirtual 30, 3) := by decide +kernel
theorem dX2_blamed_47 : decode cX2_blamed 47 = .ok (.ireturn, 1) := by decide +kernel
theorem dX2_blamed_48 : decode cX2_blamed 48 = .ok (.iconst (-1), 1) := by decide +kernel
theorem dX2_blamed_49 : decode cX2_blamed 49 = .ok (.ireturn, 1) := by decide +kernel
theorem dX2_pieces_0 : decode cX2_pieces 0 = .ok (.aload_n 0, 1) := by decide +kernel
theorem dX2_pieces_1 : decode cX2_pieces 1 = .ok (.getfield 14, 3) := by decide +kernel
theorem dX2_pieces_4 : decode cX2_pieces 4 = .ok (.iconst 0, 1) := by decide +kernel
theorem dX2_pieces_5 : decode cX2_pieces 5 = .ok (.invokevirtual 36, 3) := by decide +kernel
theorem dX2_pieces_8 : decode cX2_pieces 8 = .ok (.iconst 0, 1) := by decide +kernel
theorem dX2_pieces_9 : decode cX2_pieces 9 = .ok (.istore_n 3, 1) := by decide +kernel
theorem dX2_pieces_10 : decode cX2_pieces 10 = .ok (.iconst 0, 1) := by decide +kernel
theorem dX2_pieces_11 : decode cX2_pieces 11 = .ok (.istore 4, 2) := by decide +kernel
theorem dX2_pieces_13 : decode cX2_pieces 13 = .ok (.iload 4, 2) := by decide +kernel
theorem dX2_pieces_15 : decode cX2_pieces 15 = .ok (.bipush 36, 2) := by decide +kernel
theorem dX2_pieces_17 : decode cX2_pieces 17 = .ok (.if_icmp .ge 42, 3) := by decide +kernel
theorem dX2_pieces_20 : decode cX2_pieces 20 = .ok (.aload_n 1, 1) := by decide +kernel
theorem dX2_pieces_21 : decode cX2_pieces 21 = .ok (.iload 4, 2) := by decide +kernel
theorem dX2_pieces_23 : decode cX2_pieces 23 = .ok (.invokevirtual 40, 3) := by decide +kernel
theorem dX2_pieces_26 : decode cX2_pieces 26 = .ok (.iload_n 2, 1) := by decide +kernel
theorem dX2_pieces_27 : decode cX2_pieces 27 = .ok (.if_icmp .ne 26, 3) := by decide +kernel
theorem dX2_pieces_30 : decode cX2_pieces 30 = .ok (.aload_n 0, 1) := by decide +kernel
theorem dX2_pieces_31 : decode cX2_pieces 31 = .ok (.getfield 14, 3) := by decide +kernel
theorem dX2_pieces_34 : decode cX2_pieces 34 = .ok (.iload 4, 2) := by decide +kernel
theorem dX2_pieces_36 : decode cX2_pieces 36 = .ok (.invokevirtual 40, 3) := by decide +kernel
theorem dX2_pieces_39 : decode cX2_pieces 39 = .ok (.ifCond .ne 14, 3) := by decide +kernel
theorem dX2_pieces_42 : decode cX2_pieces 42 = .ok (.iinc 3 1, 3) := by decide +kernel
theorem dX2_pieces_45 : decode cX2_pieces 45 = .ok (.aload_n 0, 1) := by decide +kernel
theorem dX2_pieces_46 : decode cX2_pieces 46 = .ok (.iload 4, 2) := by decide +kernel
theorem dX2_pieces_48 : decode cX2_pieces 48 = .ok (.aload_n 1, 1) := by decide +kernel
theorem dX2_pieces_49 : decode cX2_pieces 49 = .ok (.iload_n 2, 1) := by decide +kernel
theorem dX2_pieces_50 : decode cX2_pieces 50 = .ok (.invokevirtual 44, 3) := by decide +kernel
theorem dX2_pieces_53 : decode cX2_pieces 53 = .ok (.iinc 4 1, 3) := by decide +kernel
theorem dX2_pieces_56 : decode cX2_pieces 56 = .ok (.goto (-43), 3) := by decide +kernel
theorem dX2_pieces_59 : decode cX2_pieces 59 = .ok (.iload_n 3, 1) := by decide +kernel
theorem dX2_pieces_60 : decode cX2_pieces 60 = .ok (.ireturn, 1) := by decide +kernel
theorem dX2_reachFrom_0 : decode cX2_reachFrom 0 = .ok (.aload_n 0, 1) := by decide +kernel
theorem dX2_reachFrom_1 : decode cX2_reachFrom 1 = .ok (.getfield 14, 3) := by decide +kernel
theorem dX2_reachFrom_4 : decode cX2_reachFrom 4 = .ok (.iload_n 1, 1) := by decide +kernel
theorem dX2_reachFrom_5 : decode cX2_reachFrom 5 = .ok (.iconst 1, 1) := by decide +kernel
theorem dX2_reachFrom_6 : decode cX2_reachFrom 6 = .ok (.invokevirtual 48, 3) := by decide +kernel
theorem dX2_reachFrom_9 : decode cX2_reachFrom 9 = .ok (.aload_n 0, 1) := by decide +kernel
theorem dX2_reachFrom_10 : decode cX2_reachFrom 10 = .ok (.getfield 20, 3) := by decide +kernel
theorem dX2_reachFrom_13 : decode cX2_reachFrom 13 = .ok (.iconst 0, 1) := by decide +kernel
theorem dX2_reachFrom_14 : decode cX2_reachFrom 14 = .ok (.iload_n 1, 1) := by decide +kernel
theorem dX2_reachFrom_15 : decode cX2_reachFrom 15 = .ok (.invokevirtual 48, 3) := by decide +kernel
theorem dX2_reachFrom_18 : decode cX2_reachFrom 18 = .ok (.iconst 1, 1) := by decide +kernel
theorem dX2_reachFrom_19 : decode cX2_reachFrom 19 = .ok (.istore 4, 2) := by decide +kernel
theorem dX2_reachFrom_21 : decode cX2_reachFrom 21 = .ok (.iconst 0, 1) := by decide +kernel
theorem dX2_reachFrom_22 : decode cX2_reachFrom 22 = .ok (.istore 5, 2) := by decide +kernel
theorem dX2_reachFrom_24 : decode cX2_reachFrom 24 = .ok (.iload 5, 2) := by decide +kernel
theorem dX2_reachFrom_26 : decode cX2_reachFrom 26 = .ok (.bipush 36, 2) := by decide +kernel
theorem dX2_reachFrom_28 : decode cX2_reachFrom 28 = .ok (.if_icmp .ge 97, 3) := by decide +kernel
theorem dX2_reachFrom_31 : decode cX2_reachFrom 31 = .ok (.iload 5, 2) := by decide +kernel
theorem dX2_reachFrom_33 : decode cX2_reachFrom 33 = .ok (.iload 4, 2) := by decide +kernel
theorem dX2_reachFrom_35 : decode cX2_reachFrom 35 = .ok (.if_icmp .ge 90, 3) := by decide +kernel
theorem dX2_reachFrom_38 : decode cX2_reachFrom 38 = .ok (.aload_n 0, 1) := by decide +kernel
theorem dX2_reachFrom_39 : decode cX2_reachFrom 39 = .ok (.getfield 20, 3) := by decide +kernel
theorem dX2_reachFrom_42 : decode cX2_reachFrom 42 = .ok (.iload 5, 2) := by decide +kernel
theorem dX2_reachFrom_44 : decode cX2_reachFrom 44 = .ok (.invokevirtual 40, 3) := by decide +kernel
theorem dX2_reachFrom_47 : decode cX2_reachFrom 47 = .ok (.istore 6, 2) := by decide +kernel
theorem dX2_reachFrom_49 : decode cX2_reachFrom 49 = .ok (.iconst 0, 1) := by decide +kernel
theorem dX2_reachFrom_50 : decode cX2_reachFrom 50 = .ok (.istore 7, 2) := by decide +kernel
theorem dX2_reachFrom_52 : decode cX2_reachFrom 52 = .ok (.iload 7, 2) := by decide +kernel
theorem dX2_reachFrom_54 : decode cX2_reachFrom 54 = .ok (.iconst 4, 1) := by decide +kernel
theorem dX2_reachFrom_55 : decode cX2_reachFrom 55 = .ok (.if_icmp .ge 64, 3) := by decide +kernel
theorem dX2_reachFrom_58 : decode cX2_reachFrom 58 = .ok (.iload 6, 2) := by decide +kernel
theorem dX2_reachFrom_60 : decode cX2_reachFrom 60 = .ok (.iload 7, 2) := by decide +kernel
theorem dX2_reachFrom_62 : decode cX2_reachFrom 62 = .ok (.invokestatic 51, 3) := by decide +kernel
theorem dX2_reachFrom_65 : decode cX2_reachFrom 65 = .ok (.istore 8, 2) := by decide +kernel
theorem dX2_reachFrom_67 : decode cX2_reachFrom 67 = .ok (.aload_n 2, 1) := by decide +kernel
theorem dX2_reachFrom_68 : decode cX2_reachFrom 68 = .ok (.iload 8, 2) := by decide +kernel
theorem dX2_reachFrom_70 : decode cX2_reachFrom 70 = .ok (.invokevirtual 40, 3) := by decide +kernel
theorem dX2_reachFrom_73 : decode cX2_reachFrom 73 = .ok (.iload_n 3, 1) := by decide +kernel
theorem dX2_reachFrom_74 : decode cX2_reachFrom 74 = .ok (.if_icmp .ne 39, 3) := by decide +kernel
theorem dX2_reachFrom_77 : decode cX2_reachFrom 77 = .ok (.aload_n 0, 1) := by decide +kernel
theorem dX2_reachFrom_78 : decode cX2_reachFrom 78 = .ok (.getfield 14, 3) := by decide +kernel
theorem dX2_reachFrom_81 : decode cX2_reachFrom 81 = .ok (.iload 8, 2) := by decide +kernel
theorem dX2_reachFrom_83 : decode cX2_reachFrom 83 = .ok (.invokevirtual 40, 3) := by decide +kernel
theorem dX2_reachFrom_86 : decode cX2_reachFrom 86 = .ok (.ifCond .ne 27, 3) := by decide +kernel
theorem dX2_reachFrom_89 : decode cX2_reachFrom 89 = .ok (.aload_n 0, 1) := by decide +kernel
theorem dX2_reachFrom_90 : decode cX2_reachFrom 90 = .ok (.getfield 14, 3) := by decide +kernel
theorem dX2_reachFrom_93 : decode cX2_reachFrom 93 = .ok (.iload 8, 2) := by decide +kernel
theorem dX2_reachFrom_95 : decode cX2_reachFrom 95 = .ok (.iconst 1, 1) := by decide +kernel
theorem dX2_reachFrom_96 : decode cX2_reachFrom 96 = .ok (.invokevirtual 48, 3) := by decide +kernel
theorem dX2_reachFrom_99 : decode cX2_reachFrom 99 = .ok (.aload_n 0, 1) := by decide +kernel
theorem dX2_reachFrom_100 : decode cX2_reachFrom 100 = .ok (.getfield 20, 3) := by decide +kernel
theorem dX2_reachFrom_103 : decode cX2_reachFrom 103 = .ok (.iload 4, 2) := by decide +kernel
theorem dX2_reachFrom_105 : decode cX2_reachFrom 105 = .ok (.iload 8, 2) := by decide +kernel
theorem dX2_reachFrom_107 : decode cX2_reachFrom 107 = .ok (.invokevirtual 48, 3) := by decide +kernel
theorem dX2_reachFrom_110 : decode cX2_reachFrom 110 = .ok (.iinc 4 1, 3) := by decide +kernel
theorem dX2_reachFrom_113 : decode cX2_reachFrom 113 = .ok (.iinc 7 1, 3) := by decide +kernel
theorem dX2_reachFrom_116 : decode cX2_reachFrom 116 = .ok (.goto (-64), 3) := by decide +kernel
theorem dX2_reachFrom_119 : decode cX2_reachFrom 119 = .ok (.iinc 5 1, 3) := by decide +kernel
theorem dX2_reachFrom_122 : decode cX2_reachFrom 122 = .ok (.goto (-98), 3) := by decide +kernel
theorem dX2_reachFrom_125 : decode cX2_reachFrom 125 = .ok (.return_, 1) := by decide +kernel
theorem dX2_withoutPart_0 : decode cX2_withoutPart 0 = .ok (.iconst 0, 1) := by decide +kernel
theorem dX2_withoutPart_1 : decode cX2_withoutPart 1 = .ok (.istore_n 1, 1) := by decide +kernel
theorem dX2_withoutPart_2 : decode cX2_withoutPart 2 = .ok (.iload_n 1, 1) := by decide +kernel
theorem dX2_withoutPart_3 : decode cX2_withoutPart 3 = .ok (.bipush 36, 2) := by decide +kernel
theorem dX2_withoutPart_5 : decode cX2_withoutPart 5 = .ok (.if_icmp .ge 31, 3) := by decide +kernel
theorem dX2_withoutPart_8 : decode cX2_withoutPart 8 = .ok (.aload_n 0, 1) := by decide +kernel
theorem dX2_withoutPart_9 : decode cX2_withoutPart 9 = .ok (.iload_n 1, 1) := by decide +kernel
theorem dX2_withoutPart_10 : decode cX2_withoutPart 10 = .ok (.invokevirtual 57, 3) := by decide +kernel
theorem dX2_withoutPart_13 : decode cX2_withoutPart 13 = .ok (.ifCond .eq 17, 3) := by decide +kernel
theorem dX2_withoutPart_16 : decode cX2_withoutPart 16 = .ok (.aload_n 0, 1) := by decide +kernel
theorem dX2_withoutPart_17 : decode cX2_withoutPart 17 = .ok (.getfield 63, 3) := by decide +kernel
theorem dX2_withoutPart_20 : decode cX2_withoutPart 20 = .ok (.iload_n 1, 1) := by decide +kernel
theorem dX2_withoutPart_21 : decode cX2_withoutPart 21 = .ok (.invokevirtual 40, 3) := by decide +kernel
theorem dX2_withoutPart_24 : decode cX2_withoutPart 24 = .ok (.iconst (-1), 1) := by decide +kernel
theorem dX2_withoutPart_25 : decode cX2_withoutPart 25 = .ok (.if_icmp .ne 5, 3) := by decide +kernel
theorem dX2_withoutPart_28 : decode cX2_withoutPart 28 = .ok (.iload_n 1, 1) := by decide +kernel
theorem dX2_withoutPart_29 : decode cX2_withoutPart 29 = .ok (.ireturn, 1) := by decide +kernel
theorem dX2_withoutPart_30 : decode cX2_withoutPart 30 = .ok (.iinc 1 1, 3) := by decide +kernel
theorem dX2_withoutPart_33 : decode cX2_withoutPart 33 = .ok (.goto (-31), 3) := by decide +kernel
theorem dX2_withoutPart_36 : decode cX2_withoutPart 36 = .ok (.iconst (-1), 1) := by decide +kernel
theorem dX2_withoutPart_37 : decode cX2_withoutPart 37 = .ok (.ireturn, 1) := by decide +kernel
theorem dX2_ofOtherSize_0 : decode cX2_ofOtherSize 0 = .ok (.iconst 0, 1) := by decide +kernel
theorem dX2_ofOtherSize_1 : decode cX2_ofOtherSize 1 = .ok (.istore_n 1, 1) := by decide +kernel
theorem dX2_ofOtherSize_2 : decode cX2_ofOtherSize 2 = .ok (.iload_n 1, 1) := by decide +kernel
theorem dX2_ofOtherSize_3 : decode cX2_ofOtherSize 3 = .ok (.aload_n 0, 1) := by decide +kernel
theorem dX2_ofOtherSize_4 : decode cX2_ofOtherSize 4 = .ok (.invokevirtual 66, 3) := by decide +kernel
theorem dX2_ofOtherSize_7 : decode cX2_ofOtherSize 7 = .ok (.if_icmp .ge 26, 3) := by decide +kernel
theorem dX2_ofOtherSize_10 : decode cX2_ofOtherSize 10 = .ok (.aload_n 0, 1) := by decide +kernel
theorem dX2_ofOtherSize_11 : decode cX2_ofOtherSize 11 = .ok (.getfield 63, 3) := by decide +kernel
theorem dX2_ofOtherSize_14 : decode cX2_ofOtherSize 14 = .ok (.iload_n 1, 1) := by decide +kernel
theorem dX2_ofOtherSize_15 : decode cX2_ofOtherSize 15 = .ok (.invokestatic 70, 3) := by decide +kernel
theorem dX2_ofOtherSize_18 : decode cX2_ofOtherSize 18 = .ok (.aload_n 0, 1) := by decide +kernel
theorem dX2_ofOtherSize_19 : decode cX2_ofOtherSize 19 = .ok (.invokevirtual 74, 3) := by decide +kernel
theorem dX2_ofOtherSize_22 : decode cX2_ofOtherSize 22 = .ok (.if_icmp .eq 5, 3) := by decide +kernel
theorem dX2_ofOtherSize_25 : decode cX2_ofOtherSize 25 = .ok (.iload_n 1, 1) := by decide +kernel
theorem dX2_ofOtherSize_26 : decode cX2_ofOtherSize 26 = .ok (.ireturn, 1) := by decide +kernel
theorem dX2_ofOtherSize_27 : decode cX2_ofOtherSize 27 = .ok (.iinc 1 1, 3) := by decide +kernel
theorem dX2_ofOtherSize_30 : decode cX2_ofOtherSize 30 = .ok (.goto (-28), 3) := by decide +kernel
theorem dX2_ofOtherSize_33 : decode cX2_ofOtherSize 33 = .ok (.iconst (-1), 1) := by decide +kernel
theorem dX2_ofOtherSize_34 : decode cX2_ofOtherSize 34 = .ok (.ireturn, 1) := by decide +kernel
theorem dX2_notConnected_0 : decode cX2_notConnected 0 = .ok (.iconst 0, 1) := by decide +kernel
theorem dX2_notConnected_1 : decode cX2_notConnected 1 = .ok (.istore_n 2, 1) := by decide +kernel
theorem dX2_notConnected_2 : decode cX2_notConnected 2 = .ok (.iload_n 2, 1) := by decide +kernel
theorem dX2_notConnected_3 : decode cX2_notConnected 3 = .ok (.aload_n 1, 1) := by decide +kernel
theorem dX2_notConnected_4 : decode cX2_notConnected 4 = .ok (.invokevirtual 66, 3) := by decide +kernel
theorem dX2_notConnected_7 : decode cX2_notConnected 7 = .ok (.if_icmp .ge 24, 3) := by decide +kernel
theorem dX2_notConnected_10 : decode cX2_notConnected 10 = .ok (.aload_n 0, 1) := by decide +kernel
theorem dX2_notConnected_11 : decode cX2_notConnected 11 = .ok (.aload_n 1, 1) := by decide +kernel
theorem dX2_notConnected_12 : decode cX2_notConnected 12 = .ok (.getfield 63, 3) := by decide +kernel
theorem dX2_notConnected_15 : decode cX2_notConnected 15 = .ok (.iload_n 2, 1) := by decide +kernel
theorem dX2_notConnected_16 : decode cX2_notConnected 16 = .ok (.invokevirtual 76, 3) := by decide +kernel
theorem dX2_notConnected_19 : decode cX2_notConnected 19 = .ok (.iconst 1, 1) := by decide +kernel
theorem dX2_notConnected_20 : decode cX2_notConnected 20 = .ok (.if_icmp .eq 5, 3) := by decide +kernel
theorem dX2_notConnected_23 : decode cX2_notConnected 23 = .ok (.iload_n 2, 1) := by decide +kernel
theorem dX2_notConnected_24 : decode cX2_notConnected 24 = .ok (.ireturn, 1) := by decide +kernel
theorem dX2_notConnected_25 : decode cX2_notConnected 25 = .ok (.iinc 2 1, 3) := by decide +kernel
theorem dX2_notConnected_28 : decode cX2_notConnected 28 = .ok (.goto (-26), 3) := by decide +kernel
theorem dX2_notConnected_31 : decode cX2_notConnected 31 = .ok (.iconst (-1), 1) := by decide +kernel
theorem dX2_notConnected_32 : decode cX2_notConnected 32 = .ok (.ireturn, 1) := by decide +kernel
theorem dX3_init_0 : decode cX3_init 0 = .ok (.aload_n 0, 1) := by decide +kernel
theorem dX3_init_1 : decode cX3_init 1 = .ok (.invokespecial 3, 3) := by decide +kernel
theorem dX3_init_4 : decode cX3_init 4 = .ok (.aload_n 0, 1) := by decide +kernel
theorem dX3_init_5 : decode cX3_init 5 = .ok (.iload_n 1, 1) := by decide +kernel
theorem dX3_init_6 : decode cX3_init 6 = .ok (.ifCond .le 7, 3) := by decide +kernel
theorem dX3_init_9 : decode cX3_init 9 = .ok (.iload_n 1, 1) := by decide +kernel
theorem dX3_init_10 : decode cX3_init 10 = .ok (.goto 4, 3) := by decide +kernel
theorem dX3_init_13 : decode cX3_init 13 = .ok (.iconst 0, 1) := by decide +kernel
theorem dX3_init_14 : decode cX3_init 14 = .ok (.newarray .int, 2) := by decide +kernel
theorem dX3_init_16 : decode cX3_init 16 = .ok (.putfield 9, 3) := by decide +kernel
theorem dX3_init_19 : decode cX3_init 19 = .ok (.iconst 0, 1) := by decide +kernel
theorem dX3_init_20 : decode cX3_init 20 = .ok (.istore_n 3, 1) := by decide +kernel
theorem dX3_init_21 : decode cX3_init 21 = .ok (.iload_n 3, 1) := by decide +kernel
theorem dX3_init_22 : decode cX3_init 22 = .ok (.aload_n 0, 1) := by decide +kernel
theorem dX3_init_23 : decode cX3_init 23 = .ok (.getfield 9, 3) := by decide +kernel
theorem dX3_init_26 : decode cX3_init 26 = .ok (.arraylength, 1) := by decide +kernel
theorem dX3_init_27 : decode cX3_init 27 = .ok (.if_icmp .ge 16, 3) := by decide +kernel
theorem dX3_init_30 : decode cX3_init 30 = .ok (.aload_n 0, 1) := by decide +kernel
theorem dX3_init_31 : decode cX3_init 31 = .ok (.getfield 9, 3) := by decide +kernel
theorem dX3_init_34 : decode cX3_init 34 = .ok (.iload_n 3, 1) := by decide +kernel
theorem dX3_init_35 : decode cX3_init 35 = .ok (.iload_n 2, 1) := by decide +kernel
theorem dX3_init_36 : decode cX3_init 36 = .ok (.iastore, 1) := by decide +kernel
theorem dX3_init_37 : decode cX3_init 37 = .ok (.iinc 3 1, 3) := by decide +kernel
theorem dX3_init_40 : decode cX3_init 40 = .ok (.goto (-19), 3) := by decide +kernel
theorem dX3_init_43 : decode cX3_init 43 = .ok (.return_, 1) := by decide +kernel
theorem dX3_at_0 : decode cX3_at 0 = .ok (.iload_n 1, 1) := by decide +kernel
theorem dX3_at_1 : decode cX3_at 1 = .ok (.ifCond .lt 21, 3) := by decide +kernel
theorem dX3_at_4 : decode cX3_at 4 = .ok (.iload_n 1, 1) := by decide +kernel
theorem dX3_at_5 : decode cX3_at 5 = .ok (.aload_n 0, 1) := by decide +kernel
theorem dX3_at_6 : decode cX3_at 6 = .ok (.getfield 9, 3) := by decide +kernel
theorem dX3_at_9 : decode cX3_at 9 = .ok (.arraylength, 1) := by decide +kernel
theorem dX3_at_10 : decode cX3_at 10 = .ok (.if_icmp .ge 12, 3) := by decide +kernel
theorem dX3_at_13 : decode cX3_at 13 = .ok (.aload_n 0, 1) := by decide +kernel
theorem dX3_at_14 : decode cX3_at 14 = .ok (.getfield 9, 3) := by decide +kernel
theorem dX3_at_17 : decode cX3_at 17 = .ok (.iload_n 1, 1) := by decide +kernel
theorem dX3_at_18 : decode cX3_at 18 = .ok (.iaload, 1) := by decide +kernel
theorem dX3_at_19 : decode cX3_at 19 = .ok (.goto 4, 3) := by decide +kernel
theorem dX3_at_22 : decode cX3_at 22 = .ok (.iconst (-1), 1) := by decide +kernel
theorem dX3_at_23 : decode cX3_at 23 = .ok (.ireturn, 1) := by decide +kernel
theorem dX3_put_0 : decode cX3_put 0 = .ok (.iload_n 1, 1) := by decide +kernel
theorem dX3_put_1 : decode cX3_put 1 = .ok (.ifCond .lt 19, 3) := by decide +kernel
theorem dX3_put_4 : decode cX3_put 4 = .ok (.iload_n 1, 1) := by decide +kernel
theorem dX3_put_5 : decode cX3_put 5 = .ok (.aload_n 0, 1) := by decide +kernel
theorem dX3_put_6 : decode cX3_put 6 = .ok (.getfield 9, 3) := by decide +kernel
theorem dX3_put_9 : decode cX3_put 9 = .ok (.arraylength, 1) := by decide +kernel
theorem dX3_put_10 : decode cX3_put 10 = .ok (.if_icmp .ge 10, 3) := by decide +kernel
theorem dX3_put_13 : decode cX3_put 13 = .ok (.aload_n 0, 1) := by decide +kernel
theorem dX3_put_14 : decode cX3_put 14 = .ok (.getfield 9, 3) := by decide +kernel
theorem dX3_put_17 : decode cX3_put 17 = .ok (.iload_n 1, 1) := by decide +kernel
theorem dX3_put_18 : decode cX3_put 18 = .ok (.iload_n 2, 1) := by decide +kernel
theorem dX3_put_19 : decode cX3_put 19 = .ok (.iastore, 1) := by decide +kernel
theorem dX3_put_20 : decode cX3_put 20 = .ok (.return_, 1) := by decide +kernel
theorem dX3_fill_0 : decode cX3_fill 0 = .ok (.iconst 0, 1) := by decide +kernel
theorem dX3_fill_1 : decode cX3_fill 1 = .ok (.istore_n 2, 1) := by decide +kernel
theorem dX3_fill_2 : decode cX3_fill 2 = .ok (.iload_n 2, 1) := by decide +kernel
theorem dX3_fill_3 : decode cX3_fill 3 = .ok (.aload_n 0, 1) := by decide +kernel
theorem dX3_fill_4 : decode cX3_fill 4 = .ok (.getfield 9, 3) := by decide +kernel
theorem dX3_fill_7 : decode cX3_fill 7 = .ok (.arraylength, 1) := by decide +kernel
theorem dX3_fill_8 : decode cX3_fill 8 = .ok (.if_icmp .ge 16, 3) := by decide +kernel
theorem dX3_fill_11 : decode cX3_fill 11 = .ok (.aload_n 0, 1) := by decide +kernel
theorem dX3_fill_12 : decode cX3_fill 12 = .ok (.getfield 9, 3) := by decide +kernel
theorem dX3_fill_15 : decode cX3_fill 15 = .ok (.iload_n 2, 1) := by decide +kernel
theorem dX3_fill_16 : decode cX3_fill 16 = .ok (.iload_n 1, 1) := by decide +kernel
theorem dX3_fill_17 : decode cX3_fill 17 = .ok (.iastore, 1) := by decide +kernel
theorem dX3_fill_18 : decode cX3_fill 18 = .ok (.iinc 2 1, 3) := by decide +kernel
theorem dX3_fill_21 : decode cX3_fill 21 = .ok (.goto (-19), 3) := by decide +kernel
theorem dX3_fill_24 : decode cX3_fill 24 = .ok (.return_, 1) := by decide +kernel
theorem dX3_copy_0 : decode cX3_copy 0 = .ok (.iconst 0, 1) := by decide +kernel
theorem dX3_copy_1 : decode cX3_copy 1 = .ok (.istore_n 2, 1) := by decide +kernel
theorem dX3_copy_2 : decode cX3_copy 2 = .ok (.iload_n 2, 1) := by decide +kernel
theorem dX3_copy_3 : decode cX3_copy 3 = .ok (.aload_n 0, 1) := by decide +kernel
theorem dX3_copy_4 : decode cX3_copy 4 = .ok (.getfield 9, 3) := by decide +kernel
theorem dX3_copy_7 : decode cX3_copy 7 = .ok (.arraylength, 1) := by decide +kernel
theorem dX3_copy_8 : decode cX3_copy 8 = .ok (.if_icmp .ge 20, 3) := by decide +kernel
theorem dX3_copy_11 : decode cX3_copy 11 = .ok (.aload_n 0, 1) := by decide +kernel
theorem dX3_copy_12 : decode cX3_copy 12 = .ok (.getfield 9, 3) := by decide +kernel
theorem dX3_copy_15 : decode cX3_copy 15 = .ok (.iload_n 2, 1) := by decide +kernel
theorem dX3_copy_16 : decode cX3_copy 16 = .ok (.aload_n 1, 1) := by decide +kernel
theorem dX3_copy_17 : decode cX3_copy 17 = .ok (.iload_n 2, 1) := by decide +kernel
theorem dX3_copy_18 : decode cX3_copy 18 = .ok (.invokevirtual 15, 3) := by decide +kernel
theorem dX3_copy_21 : decode cX3_copy 21 = .ok (.iastore, 1) := by decide +kernel
theorem dX3_copy_22 : decode cX3_copy 22 = .ok (.iinc 2 1, 3) := by decide +kernel
theorem dX3_copy_25 : decode cX3_copy 25 = .ok (.goto (-23), 3) := by decide +kernel
theorem dX3_copy_28 : decode cX3_copy 28 = .ok (.return_, 1) := by decide +kernel
theorem dX3_isLike_0 : decode cX3_isLike 0 = .ok (.iconst 0, 1) := by decide +kernel
theorem dX3_isLike_1 : decode cX3_isLike 1 = .ok (.istore_n 2, 1) := by decide +kernel
theorem dX3_isLike_2 : decode cX3_isLike 2 = .ok (.iload_n 2, 1) := by decide +kernel
theorem dX3_isLike_3 : decode cX3_isLike 3 = .ok (.aload_n 0, 1) := by decide +kernel
theorem dX3_isLike_4 : decode cX3_isLike 4 = .ok (.getfield 9, 3) := by decide +kernel
theorem dX3_isLike_7 : decode cX3_isLike 7 = .ok (.arraylength, 1) := by decide +kernel
theorem dX3_isLike_8 : decode cX3_isLike 8 = .ok (.if_icmp .ge 25, 3) := by decide +kernel
theorem dX3_isLike_11 : decode cX3_isLike 11 = .ok (.aload_n 0, 1) := by decide +kernel
theorem dX3_isLike_12 : decode cX3_isLike 12 = .ok (.getfield 9, 3) := by decide +kernel
theorem dX3_isLike_15 : decode cX3_isLike 15 = .ok (.iload_n 2, 1) := by decide +kernel
theorem dX3_isLike_16 : decode cX3_isLike 16 = .ok (.iaload, 1) := by decide +kernel
theorem dX3_isLike_17 : decode cX3_isLike 17 = .ok (.aload_n 1, 1) := by decide +kernel
theorem dX3_isLike_18 : decode cX3_isLike 18 = .ok (.iload_n 2, 1) := by decide +kernel
theorem dX3_isLike_19 : decode cX3_isLike 19 = .ok (.invokevirtual 15, 3) := by decide +kernel
theorem dX3_isLike_22 : decode cX3_isLike 22 = .ok (.if_icmp .eq 5, 3) := by decide +kernel
theorem dX3_isLike_25 : decode cX3_isLike 25 = .ok (.iconst 0, 1) := by decide +kernel
theorem dX3_isLike_26 : decode cX3_isLike 26 = .ok (.ireturn, 1) := by decide +kernel
theorem dX3_isLike_27 : decode cX3_isLike 27 = .ok (.iinc 2 1, 3) := by decide +kernel
theorem dX3_isLike_30 : decode cX3_isLike 30 = .ok (.goto (-28), 3) := by decide +kernel
theorem dX3_isLike_33 : decode cX3_isLike 33 = .ok (.iconst 1, 1) := by decide +kernel
theorem dX3_isLike_34 : decode cX3_isLike 34 = .ok (.ireturn, 1) := by decide +kernel
theorem dX3_sum_0 : decode cX3_sum 0 = .ok (.iconst 0, 1) := by decide +kernel
theorem dX3_sum_1 : decode cX3_sum 1 = .ok (.istore_n 1, 1) := by decide +kernel
theorem dX3_sum_2 : decode cX3_sum 2 = .ok (.iconst 0, 1) := by decide +kernel
theorem dX3_sum_3 : decode cX3_sum 3 = .ok (.istore_n 2, 1) := by decide +kernel
theorem dX3_sum_4 : decode cX3_sum 4 = .ok (.iload_n 2, 1) := by decide +kernel
theorem dX3_sum_5 : decode cX3_sum 5 = .ok (.aload_n 0, 1) := by decide +kernel
theorem dX3_sum_6 : decode cX3_sum 6 = .ok (.getfield 9, 3) := by decide +kernel
theorem dX3_sum_9 : decode cX3_sum 9 = .ok (.arraylength, 1) := by decide +kernel
theorem dX3_sum_10 : decode cX3_sum 10 = .ok (.if_icmp .ge 18, 3) := by decide +kernel
theorem dX3_sum_13 : decode cX3_sum 13 = .ok (.iload_n 1, 1) := by decide +kernel
theorem dX3_sum_14 : decode cX3_sum 14 = .ok (.aload_n 0, 1) := by decide +kernel
theorem dX3_sum_15 : decode cX3_sum 15 = .ok (.getfield 9, 3) := by decide +kernel
theorem dX3_sum_18 : decode cX3_sum 18 = .ok (.iload_n 2, 1) := by decide +kernel
theorem dX3_sum_19 : decode cX3_sum 19 = .ok (.iaload, 1) := by decide +kernel
theorem dX3_sum_20 : decode cX3_sum 20 = .ok (.iadd, 1) := by decide +kernel
theorem dX3_sum_21 : decode cX3_sum 21 = .ok (.istore_n 1, 1) := by decide +kernel
theorem dX3_sum_22 : decode cX3_sum 22 = .ok (.iinc 2 1, 3) := by decide +kernel
theorem dX3_sum_25 : decode cX3_sum 25 = .ok (.goto (-21), 3) := by decide +kernel
theorem dX3_sum_28 : decode cX3_sum 28 = .ok (.iload_n 1, 1) := by decide +kernel
theorem dX3_sum_29 : decode cX3_sum 29 = .ok (.ireturn, 1) := by decide +kernel
theorem dX4_init_0 : decode cX4_init 0 = .ok (.aload_n 0, 1) := by decide +kernel
theorem dX4_init_1 : decode cX4_init 1 = .ok (.invokespecial 3, 3) := by decide +kernel
theorem dX4_init_4 : decode cX4_init 4 = .ok (.aload_n 0, 1) := by decide +kernel
theorem dX4_init_5 : decode cX4_init 5 = .ok (.new 9, 3) := by decide +kernel
theorem dX4_init_8 : decode cX4_init 8 = .ok (.dup, 1) := by decide +kernel
theorem dX4_init_9 : decode cX4_init 9 = .ok (.bipush 36, 2) := by decide +kernel
theorem dX4_init_11 : decode cX4_init 11 = .ok (.iconst 0, 1) := by decide +kernel
theorem dX4_init_12 : decode cX4_init 12 = .ok (.invokespecial 11, 3) := by decide +kernel
theorem dX4_init_15 : decode cX4_init 15 = .ok (.putfield 14, 3) := by decide +kernel
theorem dX4_init_18 : decode cX4_init 18 = .ok (.aload_n 0, 1) := by decide +kernel
theorem dX4_init_19 : decode cX4_init 19 = .ok (.new 9, 3) := by decide +kernel
theorem dX4_init_22 : decode cX4_init 22 = .ok (.dup, 1) := by decide +kernel
theorem dX4_init_23 : decode cX4_init 23 = .ok (.bipush 36, 2) := by decide +kernel
theorem dX4_init_25 : decode cX4_init 25 = .ok (.iconst 0, 1) := by decide +kernel
theorem dX4_init_26 : decode cX4_init 26 = .ok (.invokespecial 11, 3) := by decide +kernel
theorem dX4_init_29 : decode cX4_init 29 = .ok (.putfield 20, 3) := by decide +kernel
theorem dX4_init_32 : decode cX4_init 32 = .ok (.aload_n 0, 1) := by decide +kernel
theorem dX4_init_33 : decode cX4_init 33 = .ok (.new 9, 3) := by decide +kernel
theorem dX4_init_36 : decode cX4_init 36 = .ok (.dup, 1) := by decide +kernel
theorem dX4_init_37 : decode cX4_init 37 = .ok (.bipush 36, 2) := by decide +kernel
theorem dX4_init_39 : decode cX4_init 39 = .ok (.iconst (-1), 1) := by decide +kernel
theorem dX4_init_40 : decode cX4_init 40 = .ok (.invokespecial 11, 3) := by decide +kernel
theorem dX4_init_43 : decode cX4_init 43 = .ok (.putfield 23, 3) := by decide +kernel
theorem dX4_init_46 : decode cX4_init 46 = .ok (.aload_n 0, 1) := by decide +kernel
theorem dX4_init_47 : decode cX4_init 47 = .ok (.new 9, 3) := by decide +kernel
theorem dX4_init_50 : decode cX4_init 50 = .ok (.dup, 1) := by decide +kernel
theorem dX4_init_51 : decode cX4_init 51 = .ok (.bipush 36, 2) := by decide +kernel
theorem dX4_init_53 : decode cX4_init 53 = .ok (.iconst (-1), 1) := by decide +kernel
theorem dX4_init_54 : decode cX4_init 54 = .ok (.invokespecial 11, 3) := by decide +kernel
theorem dX4_init_57 : decode cX4_init 57 = .ok (.putfield 26, 3) := by decide +kernel
theorem dX4_init_60 : decode cX4_init 60 = .ok (.aload_n 0, 1) := by decide +kernel
theorem dX4_init_61 : decode cX4_init 61 = .ok (.new 9, 3) := by decide +kernel
theorem dX4_init_64 : decode cX4_init 64 = .ok (.dup, 1) := by decide +kernel
theorem dX4_init_65 : decode cX4_init 65 = .ok (.bipush 36, 2) := by decide +kernel
theorem dX4_init_67 : decode cX4_init 67 = .ok (.iconst (-1), 1) := by decide +kernel
theorem dX4_init_68 : decode cX4_init 68 = .ok (.invokespecial 11, 3) := by decide +kernel
theorem dX4_init_71 : decode cX4_init 71 = .ok (.putfield 29, 3) := by decide +kernel
theorem dX4_init_74 : decode cX4_init 74 = .ok (.aload_n 0, 1) := by decide +kernel
theorem dX4_init_75 : decode cX4_init 75 = .ok (.new 9, 3) := by decide +kernel
theorem dX4_init_78 : decode cX4_init 78 = .ok (.dup, 1) := by decide +kernel
theorem dX4_init_79 : decode cX4_init 79 = .ok (.bipush 9, 2) := by decide +kernel
theorem dX4_init_81 : decode cX4_init 81 = .ok (.iconst (-1), 1) := by decide +kernel
theorem dX4_init_82 : decode cX4_init 82 = .ok (.invokespecial 11, 3) := by decide +kernel
theorem dX4_init_85 : decode cX4_init 85 = .ok (.putfield 32, 3) := by decide +kernel
theorem dX4_init_88 : decode cX4_init 88 = .ok (.aload_n 0, 1) := by decide +kernel
theorem dX4_init_89 : decode cX4_init 89 = .ok (.new 9, 3) := by decide +kernel
theorem dX4_init_92 : decode cX4_init 92 = .ok (.dup, 1) := by decide +kernel
theorem dX4_init_93 : decode cX4_init 93 = .ok (.iconst 2, 1) := by decide +kernel
theorem dX4_init_94 : decode cX4_init 94 = .ok (.iconst 0, 1) := by decide +kernel
theorem dX4_init_95 : decode cX4_init 95 = .ok (.invokespecial 11, 3) := by decide +kernel
theorem dX4_init_98 : decode cX4_init 98 = .ok (.putfield 35, 3) := by decide +kernel
theorem dX4_init_101 : decode cX4_init 101 = .ok (.aload_n 0, 1) := by decide +kernel
theorem dX4_init_102 : decode cX4_init 102 = .ok (.iconst 4, 1) := by decide +kernel
theorem dX4_init_103 : decode cX4_init 103 = .ok (.putfield 38, 3) := by decide +kernel
theorem dX4_init_106 : decode cX4_init 106 = .ok (.aload_n 0, 1) := by decide +kernel
theorem dX4_init_107 : decode cX4_init 107 = .ok (.iconst 0, 1) := by decide +kernel
theorem dX4_init_108 : decode cX4_init 108 = .ok (.putfield 42, 3) := by decide +kernel
theorem dX4_init_111 : decode cX4_init 111 = .ok (.aload_n 0, 1) := by decide +kernel
theorem dX4_init_112 : decode cX4_init 112 = .ok (.iconst 0, 1) := by decide +kernel
theorem dX4_init_113 : decode cX4_init 113 = .ok (.putfield 45, 3) := by decide +kernel
theorem dX4_init_116 : decode cX4_init 116 = .ok (.aload_n 0, 1) := by decide +kernel
theorem dX4_init_117 : decode cX4_init 117 = .ok (.iconst 0, 1) := by decide +kernel
theorem dX4_init_118 : decode cX4_init 118 = .ok (.putfield 48, 3) := by decide +kernel
theorem dX4_init_121 : decode cX4_init 121 = .ok (.return_, 1) := by decide +kernel
theorem dX4_copy_0 : decode cX4_copy 0 = .ok (.aload_n 0, 1) := by decide +kernel
theorem dX4_copy_1 : decode cX4_copy 1 = .ok (.getfield 14, 3) := by decide +kernel
theorem dX4_copy_4 : decode cX4_copy 4 = .ok (.aload_n 1, 1) := by decide +kernel
theorem dX4_copy_5 : decode cX4_copy 5 = .ok (.getfield 14, 3) := by decide +kernel
theorem dX4_copy_8 : decode cX4_copy 8 = .ok (.invokevirtual 51, 3) := by decide +kernel
theorem dX4_copy_11 : decode cX4_copy 11 = .ok (.aload_n 0, 1) := by decide +kernel
theorem dX4_copy_12 : decode cX4_copy 12 = .ok (.getfield 20, 3) := by decide +kernel
theorem dX4_copy_15 : decode cX4_copy 15 = .ok (.aload_n 1, 1) := by decide +kernel
theorem dX4_copy_16 : decode cX4_copy 16 = .ok (.getfield 20, 3) := by decide +kernel
theorem dX4_copy_19 : decode cX4_copy 19 = .ok (.invokevirtual 51, 3) := by decide +kernel
theorem dX4_copy_22 : decode cX4_copy 22 = .ok (.aload_n 0, 1) := by decide +kernel
theorem dX4_copy_23 : decode cX4_copy 23 = .ok (.getfield 23, 3) := by decide +kernel
theorem dX4_copy_26 : decode cX4_copy 26 = .ok (.aload_n 1, 1) := by decide +kernel
theorem dX4_copy_27 : decode cX4_copy 27 = .ok (.getfield 23, 3) := by decide +kernel
theorem dX4_copy_30 : decode cX4_copy 30 = .ok (.invokevirtual 51, 3) := by decide +kernel
theorem dX4_copy_33 : decode cX4_copy 33 = .ok (.aload_n 0, 1) := by decide +kernel
theorem dX4_copy_34 : decode cX4_copy 34 = .ok (.getfield 26, 3) := by decide +kernel
theorem dX4_copy_37 : decode cX4_copy 37 = .ok (.aload_n 1, 1) := by decide +kernel
theorem dX4_copy_38 : decode cX4_copy 38 = .ok (.getfield 26, 3) := by decide +kernel
theorem dX4_copy_41 : decode cX4_copy 41 = .ok (.invokevirtual 51, 3) := by decide +kernel
theorem dX4_copy_44 : decode cX4_copy 44 = .ok (.aload_n 0, 1) := by decide +kernel
theorem dX4_copy_45 : decode cX4_copy 45 = .ok (.getfield 29, 3) := by decide +kernel
theorem dX4_copy_48 : decode cX4_copy 48 = .ok (.aload_n 1, 1) := by decide +kernel
theorem dX4_copy_49 : decode cX4_copy 49 = .ok (.getfield 29, 3) := by decide +kernel
theorem dX4_copy_52 : decode cX4_copy 52 = .ok (.invokevirtual 51, 3) := by decide +kernel
theorem dX4_copy_55 : decode cX4_copy 55 = .ok (.aload_n 0, 1) := by decide +kernel
theorem dX4_copy_56 : decode cX4_copy 56 = .ok (.getfield 32, 3) := by decide +kernel
theorem dX4_copy_59 : decode cX4_copy 59 = .ok (.aload_n 1, 1) := by decide +kernel
theorem dX4_copy_60 : decode cX4_copy 60 = .ok (.getfield 32, 3) := by decide +kernel
theorem dX4_copy_63 : decode cX4_copy 63 = .ok (.invokevirtual 51, 3) := by decide +kernel
theorem dX4_copy_66 : decode cX4_copy 66 = .ok (.aload_n 0, 1) := by decide +kernel
theorem dX4_copy_67 : decode cX4_copy 67 = .ok (.getfield 35, 3) := by decide +kernel
theorem dX4_copy_70 : decode cX4_copy 70 = .ok (.aload_n 1, 1) := by decide +kernel
theorem dX4_copy_71 : decode cX4_copy 71 = .ok (.getfield 35, 3) := by decide +kernel
theorem dX4_copy_74 : decode cX4_copy 74 = .ok (.invokevirtual 51, 3) := by decide +kernel
theorem dX4_copy_77 : decode cX4_copy 77 = .ok (.aload_n 0, 1) := by decide +kernel
theorem dX4_copy_78 : decode cX4_copy 78 = .ok (.aload_n 1, 1) := by decide +kernel
theorem dX4_copy_79 : decode cX4_copy 79 = .ok (.getfield 38, 3) := by decide +kernel
theorem dX4_copy_82 : decode cX4_copy 82 = .ok (.putfield 38, 3) := by decide +kernel
theorem dX4_copy_85 : decode cX4_copy 85 = .ok (.aload_n 0, 1) := by decide +kernel
theorem dX4_copy_86 : decode cX4_copy 86 = .ok (.aload_n 1, 1) := by decide +kernel
theorem dX4_copy_87 : decode cX4_copy 87 = .ok (.getfield 42, 3) := by decide +kernel
theorem dX4_copy_90 : decode cX4_copy 90 = .ok (.putfield 42, 3) := by decide +kernel
theorem dX4_copy_93 : decode cX4_copy 93 = .ok (.aload_n 0, 1) := by decide +kernel
theorem dX4_copy_94 : decode cX4_copy 94 = .ok (.aload_n 1, 1) := by decide +kernel
theorem dX4_copy_95 : decode cX4_copy 95 = .ok (.getfield 45, 3) := by decide +kernel
theorem dX4_copy_98 : decode cX4_copy 98 = .ok (.putfield 45, 3) := by decide +kernel
theorem dX4_copy_101 : decode cX4_copy 101 = .ok (.aload_n 0, 1) := by decide +kernel
theorem dX4_copy_102 : decode cX4_copy 102 = .ok (.aload_n 1, 1) := by decide +kernel
theorem dX4_copy_103 : decode cX4_copy 103 = .ok (.getfield 48, 3) := by decide +kernel
theorem dX4_copy_106 : decode cX4_copy 106 = .ok (.putfield 48, 3) := by decide +kernel
theorem dX4_copy_109 : decode cX4_copy 109 = .ok (.return_, 1) := by decide +kernel
theorem dX4_startAnew_0 : decode cX4_startAnew 0 = .ok (.aload_n 0, 1) := by decide +kernel
theorem dX4_startAnew_1 : decode cX4_startAnew 1 = .ok (.getfield 23, 3) := by decide +kernel
theorem dX4_startAnew_4 : decode cX4_startAnew 4 = .ok (.iconst (-1), 1) := by decide +kernel
theorem dX4_startAnew_5 : decode cX4_startAnew 5 = .ok (.invokevirtual 55, 3) := by decide +kernel
theorem dX4_startAnew_8 : decode cX4_startAnew 8 = .ok (.aload_n 0, 1) := by decide +kernel
theorem dX4_startAnew_9 : decode cX4_startAnew 9 = .ok (.getfield 26, 3) := by decide +kernel
theorem dX4_startAnew_12 : decode cX4_startAnew 12 = .ok (.iconst (-1), 1) := by decide +kernel
theorem dX4_startAnew_13 : decode cX4_startAnew 13 = .ok (.invokevirtual 55, 3) := by decide +kernel
theorem dX4_startAnew_16 : decode cX4_startAnew 16 = .ok (.aload_n 0, 1) := by decide +kernel
theorem dX4_startAnew_17 : decode cX4_startAnew 17 = .ok (.getfield 29, 3) := by decide +kernel
theorem dX4_startAnew_20 : decode cX4_startAnew 20 = .ok (.iconst (-1), 1) := by decide +kernel
theorem dX4_startAnew_21 : decode cX4_startAnew 21 = .ok (.invokevirtual 55, 3) := by decide +kernel
theorem dX4_startAnew_24 : decode cX4_startAnew 24 = .ok (.aload_n 0, 1) := by decide +kernel
theorem dX4_startAnew_25 : decode cX4_startAnew 25 = .ok (.getfield 32, 3) := by decide +kernel
theorem dX4_startAnew_28 : decode cX4_startAnew 28 = .ok (.iconst (-1), 1) := by decide +kernel
theorem dX4_startAnew_29 : decode cX4_startAnew 29 = .ok (.invokevirtual 55, 3) := by decide +kernel
theorem dX4_startAnew_32 : decode cX4_startAnew 32 = .ok (.aload_n 0, 1) := by decide +kernel
theorem dX4_startAnew_33 : decode cX4_startAnew 33 = .ok (.iload_n 1, 1) := by decide +kernel
theorem dX4_startAnew_34 : decode cX4_startAnew 34 = .ok (.putfield 38, 3) := by decide +kernel
theorem dX4_startAnew_37 : decode cX4_startAnew 37 = .ok (.aload_n 0, 1) := by decide +kernel
theorem dX4_startAnew_38 : decode cX4_startAnew 38 = .ok (.iconst 0, 1) := by decide +kernel
theorem dX4_startAnew_39 : decode cX4_startAnew 39 = .ok (.putfield 42, 3) := by decide +kernel
theorem dX4_startAnew_42 : decode cX4_startAnew 42 = .ok (.aload_n 0, 1) := by decide +kernel
theorem dX4_startAnew_43 : decode cX4_startAnew 43 = .ok (.iconst 0, 1) := by decide +kernel
theorem dX4_startAnew_44 : decode cX4_startAnew 44 = .ok (.putfield 45, 3) := by decide +kernel
theorem dX4_startAnew_47 : decode cX4_startAnew 47 = .ok (.aload_n 0, 1) := by decide +kernel
theorem dX4_startAnew_48 : decode cX4_startAnew 48 = .ok (.iconst 0, 1) := by decide +kernel
theorem dX4_startAnew_49 : decode cX4_startAnew 49 = .ok (.putfield 48, 3) := by decide +kernel
theorem dX4_startAnew_52 : decode cX4_startAnew 52 = .ok (.return_, 1) := by decide +kernel
theorem dX4_size_0 : decode cX4_size 0 = .ok (.aload_n 0, 1) := by decide +kernel
theorem dX4_size_1 : decode cX4_size 1 = .ok (.getfield 38, 3) := by decide +kernel
theorem dX4_size_4 : decode cX4_size 4 = .ok (.ifCond .le 13, 3) := by decide +kernel
theorem dX4_size_7 : decode cX4_size 7 = .ok (.bipush 36, 2) := by decide +kernel
theorem dX4_size_9 : decode cX4_size 9 = .ok (.aload_n 0, 1) := by decide +kernel
theorem dX4_size_10 : decode cX4_size 10 = .ok (.getfield 38, 3) := by decide +kernel
theorem dX4_size_13 : decode cX4_size 13 = .ok (.idiv, 1) := by decide +kernel
theorem dX4_size_14 : decode cX4_size 14 = .ok (.goto 4, 3) := by decide +kernel
theorem dX4_size_17 : decode cX4_size 17 = .ok (.iconst 0, 1) := by decide +kernel
theorem dX4_size_18 : decode cX4_size 18 = .ok (.ireturn, 1) := by decide +kernel
theorem dX4_left_0 : decode cX4_left 0 = .ok (.aload_n 0, 1) := by decide +kernel
theorem dX4_left_1 : decode cX4_left 1 = .ok (.getfield 38, 3) := by decide +kernel
theorem dX4_left_4 : decode cX4_left 4 = .ok (.aload_n 0, 1) := by decide +kernel
theorem dX4_left_5 : decode cX4_left 5 = .ok (.getfield 42, 3) := by decide +kernel
theorem dX4_left_8 : decode cX4_left 8 = .ok (.isub, 1) := by decide +kernel
theorem dX4_left_9 : decode cX4_left 9 = .ok (.ireturn, 1) := by decide +kernel
theorem dX4_isOpen_0 : decode cX4_isOpen 0 = .ok (.aload_n 0, 1) := by decide +kernel
theorem dX4_isOpen_1 : decode cX4_isOpen 1 = .ok (.getfield 26, 3) := by decide +kernel
theorem dX4_isOpen_4 : decode cX4_isOpen 4 = .ok (.iload_n 1, 1) := by decide +kernel
theorem dX4_isOpen_5 : decode cX4_isOpen 5 = .ok (.invokevirtual 59, 3) := by decide +kernel
theorem dX4_isOpen_8 : decode cX4_isOpen 8 = .ok (.iconst (-1), 1) := by decide +kernel
theorem dX4_isOpen_9 : decode cX4_isOpen 9 = .ok (.if_icmp .ne 7, 3) := by decide +kernel
theorem dX4_isOpen_12 : decode cX4_isOpen 12 = .ok (.iconst 1, 1) := by decide +kernel
theorem dX4_isOpen_13 : decode cX4_isOpen 13 = .ok (.goto 4, 3) := by decide +kernel
theorem dX4_isOpen_16 : decode cX4_isOpen 16 = .ok (.iconst 0, 1) := by decide +kernel
theorem dX4_isOpen_17 : decode cX4_isOpen 17 = .ok (.ireturn, 1) := by decide +kernel
theorem dX4_isPart_0 : decode cX4_isPart 0 = .ok (.iload_n 1, 1) := by decide +kernel
theorem dX4_isPart_1 : decode cX4_isPart 1 = .ok (.ifCond .lt 15, 3) := by decide +kernel
theorem dX4_isPart_4 : decode cX4_isPart 4 = .ok (.iload_n 1, 1) := by decide +kernel
theorem dX4_isPart_5 : decode cX4_isPart 5 = .ok (.aload_n 0, 1) := by decide +kernel
theorem dX4_isPart_6 : decode cX4_isPart 6 = .ok (.invokevirtual 63, 3) := by decide +kernel
theorem dX4_isPart_9 : decode cX4_isPart 9 = .ok (.if_icmp .ge 7, 3) := by decide +kernel
theorem dX4_isPart_12 : decode cX4_isPart 12 = .ok (.iconst 1, 1) := by decide +kernel
theorem dX4_isPart_13 : decode cX4_isPart 13 = .ok (.goto 4, 3) := by decide +kernel
theorem dX4_isPart_16 : decode cX4_isPart 16 = .ok (.iconst 0, 1) := by decide +kernel
theorem dX4_isPart_17 : decode cX4_isPart 17 = .ok (.ireturn, 1) := by decide +kernel
theorem dX4_player_0 : decode cX4_player 0 = .ok (.aload_n 0, 1) := by decide +kernel
theorem dX4_player_1 : decode cX4_player 1 = .ok (.getfield 48, 3) := by decide +kernel
theorem dX4_player_4 : decode cX4_player 4 = .ok (.lookupswitch 40 #[(0, 28), (1, 33)], 28) := by decide +kernel
theorem dX4_player_32 : decode cX4_player 32 = .ok (.aload_n 0, 1) := by decide +kernel
theorem dX4_player_33 : decode cX4_player 33 = .ok (.getfield 45, 3) := by decide +kernel
theorem dX4_player_36 : decode cX4_player 36 = .ok (.ireturn, 1) := by decide +kernel
theorem dX4_player_37 : decode cX4_player 37 = .ok (.iconst 1, 1) := by decide +kernel
theorem dX4_player_38 : decode cX4_player 38 = .ok (.aload_n 0, 1) := by decide +kernel
theorem dX4_player_39 : decode cX4_player 39 = .ok (.getfield 45, 3) := by decide +kernel
theorem dX4_player_42 : decode cX4_player 42 = .ok (.isub, 1) := by decide +kernel
theorem dX4_player_43 : decode cX4_player 43 = .ok (.ireturn, 1) := by decide +kernel
theorem dX4_player_44 : decode cX4_player 44 = .ok (.iconst (-1), 1) := by decide +kernel
theorem dX4_player_45 : decode cX4_player 45 = .ok (.ireturn, 1) := by decide +kernel
theorem dX4_openWithoutPart_0 : decode cX4_openWithoutPart 0 = .ok (.iconst 0, 1) := by decide +kernel
theorem dX4_openWithoutPart_1 : decode cX4_openWithoutPart 1 = .ok (.istore_n 1, 1) := by decide +kernel
theorem dX4_openWithoutPart_2 : decode cX4_openWithoutPart 2 = .ok (.iconst 0, 1) := by decide +kernel
theorem dX4_openWithoutPart_3 : decode cX4_openWithoutPart 3 = .ok (.istore_n 2, 1) := by decide +kernel
theorem dX4_openWithoutPart_4 : decode cX4_openWithoutPart 4 = .ok (.iload_n 2, 1) := by decide +kernel
theorem dX4_openWithoutPart_5 : decode cX4_openWithoutPart 5 = .ok (.bipush 36, 2) := by decide +kernel
theorem dX4_openWithoutPart_7 : decode cX4_openWithoutPart 7 = .ok (.if_icmp .ge 32, 3) := by decide +kernel
theorem dX4_openWithoutPart_10 : decode cX4_openWithoutPart 10 = .ok (.aload_n 0, 1) := by decide +kernel
theorem dX4_openWithoutPart_11 : decode cX4_openWithoutPart 11 = .ok (.iload_n 2, 1) := by decide +kernel
theorem dX4_openWithoutPart_12 : decode cX4_openWithoutPart 12 = .ok (.invokevirtual 67, 3) := by decide +kernel
theorem dX4_openWithoutPart_15 : decode cX4_openWithoutPart 15 = .ok (.ifCond .eq 18, 3) := by decide +kernel
theorem dX4_openWithoutPart_18 : decode cX4_openWithoutPart 18 = .ok (.aload_n 0, 1) := by decide +kernel
theorem dX4_openWithoutPart_19 : decode cX4_openWithoutPart 19 = .ok (.getfield 23, 3) := by decide +kernel
theorem dX4_openWithoutPart_22 : decode cX4_openWithoutPart 22 = .ok (.iload_n 2, 1) := by decide +kernel
theorem dX4_openWithoutPart_23 : decode cX4_openWithoutPart 23 = .ok (.invokevirtual 59, 3) := by decide +kernel
theorem dX4_openWithoutPart_26 : decode cX4_openWithoutPart 26 = .ok (.iconst (-1), 1) := by decide +kernel
theorem dX4_openWithoutPart_27 : decode cX4_openWithoutPart 27 = .ok (.if_icmp .ne 6, 3) := by decide +kernel
theorem dX4_openWithoutPart_30 : decode cX4_openWithoutPart 30 = .ok (.iinc 1 1, 3) := by decide +kernel
theorem dX4_openWithoutPart_33 : decode cX4_openWithoutPart 33 = .ok (.iinc 2 1, 3) := by decide +kernel
theorem dX4_openWithoutPart_36 : decode cX4_openWithoutPart 36 = .ok (.goto (-32), 3) := by decide +kernel
theorem dX4_openWithoutPart_39 : decode cX4_openWithoutPart 39 = .ok (.iload_n 1, 1) := by decide +kernel
theorem dX4_openWithoutPart_40 : decode cX4_openWithoutPart 40 = .ok (.ireturn, 1) := by decide +kernel
theorem dX4_takePart_0 : decode cX4_takePart 0 = .ok (.aload_n 0, 1) := by decide +kernel
theorem dX4_takePart_1 : decode cX4_takePart 1 = .ok (.aload_n 0, 1) := by decide +kernel
theorem dX4_takePart_2 : decode cX4_takePart 2 = .ok (.getfield 23, 3) := by decide +kernel
theorem dX4_takePart_5 : decode cX4_takePart 5 = .ok (.iload_n 1, 1) := by decide +kernel
theorem dX4_takePart_6 : decode cX4_takePart 6 = .ok (.iconst 1, 1) := by decide +kernel
theorem dX4_takePart_7 : decode cX4_takePart 7 = .ok (.aload_n 0, 1) := by decide +kernel
theorem dX4_takePart_8 : decode cX4_takePart 8 = .ok (.getfield 45, 3) := by decide +kernel
theorem dX4_takePart_11 : decode cX4_takePart 11 = .ok (.isub, 1) := by decide +kernel
theorem dX4_takePart_12 : decode cX4_takePart 12 = .ok (.invokevirtual 71, 3) := by decide +kernel
theorem dX4_takePart_15 : decode cX4_takePart 15 = .ok (.aload_n 0, 1) := by decide +kernel
theorem dX4_takePart_16 : decode cX4_takePart 16 = .ok (.iload_n 1, 1) := by decide +kernel
theorem dX4_takePart_17 : decode cX4_takePart 17 = .ok (.invokevirtual 75, 3) := by decide +kernel
theorem dX4_takePart_20 : decode cX4_takePart 20 = .ok (.aload_n 0, 1) := by decide +kernel
theorem dX4_takePart_21 : decode cX4_takePart 21 = .ok (.getfield 23, 3) := by decide +kernel
theorem dX4_takePart_24 : decode cX4_takePart 24 = .ok (.iconst (-1), 1) := by decide +kernel
theorem dX4_takePart_25 : decode cX4_takePart 25 = .ok (.invokevirtual 55, 3) := by decide +kernel
theorem dX4_takePart_28 : decode cX4_takePart 28 = .ok (.aload_n 0, 1) := by decide +kernel
theorem dX4_takePart_29 : decode cX4_takePart 29 = .ok (.invokevirtual 63, 3) := by decide +kernel
theorem dX4_takePart_32 : decode cX4_takePart 32 = .ok (.iconst 1, 1) := by decide +kernel
theorem dX4_takePart_33 : decode cX4_takePart 33 = .ok (.if_icmp .ne 24, 3) := by decide +kernel
theorem dX4_takePart_36 : decode cX4_takePart 36 = .ok (.aload_n 0, 1) := by decide +kernel
theorem dX4_takePart_37 : decode cX4_takePart 37 = .ok (.aload_n 0, 1) := by decide +kernel
theorem dX4_takePart_38 : decode cX4_takePart 38 = .ok (.getfield 29, 3) := by decide +kernel
theorem dX4_takePart_41 : decode cX4_takePart 41 = .ok (.iconst 0, 1) := by decide +kernel
theorem dX4_takePart_42 : decode cX4_takePart 42 = .ok (.aload_n 0, 1) := by decide +kernel
theorem dX4_takePart_43 : decode cX4_takePart 43 = .ok (.getfield 45, 3) := by decide +kernel
theorem dX4_takePart_46 : decode cX4_takePart 46 = .ok (.invokevirtual 71, 3) := by decide +kernel
theorem dX4_takePart_49 : decode cX4_takePart 49 = .ok (.aload_n 0, 1) := by decide +kernel
theorem dX4_takePart_50 : decode cX4_takePart 50 = .ok (.iconst 2, 1) := by decide +kernel
theorem dX4_takePart_51 : decode cX4_takePart 51 = .ok (.putfield 48, 3) := by decide +kernel
theorem dX4_takePart_54 : decode cX4_takePart 54 = .ok (.goto 18, 3) := by decide +kernel
theorem dX4_takePart_57 : decode cX4_takePart 57 = .ok (.aload_n 0, 1) := by decide +kernel
theorem dX4_takePart_58 : decode cX4_takePart 58 = .ok (.iconst 1, 1) := by decide +kernel
theorem dX4_takePart_59 : decode cX4_takePart 59 = .ok (.aload_n 0, 1) := by decide +kernel
theorem dX4_takePart_60 : decode cX4_takePart 60 = .ok (.getfield 45, 3) := by decide +kernel
theorem dX4_takePart_63 : decode cX4_takePart 63 = .ok (.isub, 1) := by decide +kernel
theorem dX4_takePart_64 : decode cX4_takePart 64 = .ok (.putfield 45, 3) := by decide +kernel
theorem dX4_takePart_67 : decode cX4_takePart 67 = .ok (.aload_n 0, 1) := by decide +kernel
theorem dX4_takePart_68 : decode cX4_takePart 68 = .ok (.iconst 0, 1) := by decide +kernel
theorem dX4_takePart_69 : decode cX4_takePart 69 = .ok (.putfield 48, 3) := by decide +kernel
theorem dX4_takePart_72 : decode cX4_takePart 72 = .ok (.return_, 1) := by decide +kernel
theorem dX4_makeDistrict_0 : decode cX4_makeDistrict 0 = .ok (.iconst 0, 1) := by decide +kernel
theorem dX4_makeDistrict_1 : decode cX4_makeDistrict 1 = .ok (.istore 4, 2) := by decide +kernel
theorem dX4_makeDistrict_3 : decode cX4_makeDistrict 3 = .ok (.iload 4, 2) := by decide +kernel
theorem dX4_makeDistrict_5 : decode cX4_makeDistrict 5 = .ok (.bipush 36, 2) := by decide +kernel
theorem dX4_makeDistrict_7 : decode cX4_makeDistrict 7 = .ok (.if_icmp .ge 32, 3) := by decide +kernel
theorem dX4_makeDistrict_10 : decode cX4_makeDistrict 10 = .ok (.aload_n 1, 1) := by decide +kernel
theorem dX4_makeDistrict_11 : decode cX4_makeDistrict 11 = .ok (.iload 4, 2) := by decide +kernel
theorem dX4_makeDistrict_13 : decode cX4_makeDistrict 13 = .ok (.invokevirtual 59, 3) := by decide +kernel
theorem dX4_makeDistrict_16 : decode cX4_makeDistrict 16 = .ok (.iload_n 2, 1) := by decide +kernel
theorem dX4_makeDistrict_17 : decode cX4_makeDistrict 17 = .ok (.if_icmp .ne 16, 3) := by decide +kernel
theorem dX4_makeDistrict_20 : decode cX4_makeDistrict 20 = .ok (.aload_n 0, 1) := by decide +kernel
theorem dX4_makeDistrict_21 : decode cX4_makeDistrict 21 = .ok (.getfield 26, 3) := by decide +kernel
theorem dX4_makeDistrict_24 : decode cX4_makeDistrict 24 = .ok (.iload 4, 2) := by decide +kernel
theorem dX4_makeDistrict_26 : decode cX4_makeDistrict 26 = .ok (.aload_n 0, 1) := by decide +kernel
theorem dX4_makeDistrict_27 : decode cX4_makeDistrict 27 = .ok (.getfield 42, 3) := by decide +kernel
theorem dX4_makeDistrict_30 : decode cX4_makeDistrict 30 = .ok (.invokevirtual 78, 3) := by decide +kernel
theorem dX4_makeDistrict_33 : decode cX4_makeDistrict 33 = .ok (.iinc 4 1, 3) := by decide +kernel
theorem dX4_makeDistrict_36 : decode cX4_makeDistrict 36 = .ok (.goto (-33), 3) := by decide +kernel
theorem dX4_makeDistrict_39 : decode cX4_makeDistrict 39 = .ok (.aload_n 0, 1) := by decide +kernel
theorem dX4_makeDistrict_40 : decode cX4_makeDistrict 40 = .ok (.getfield 32, 3) := by decide +kernel
theorem dX4_makeDistrict_43 : decode cX4_makeDistrict 43 = .ok (.aload_n 0, 1) := by decide +kernel
theorem dX4_makeDistrict_44 : decode cX4_makeDistrict 44 = .ok (.getfield 42, 3) := by decide +kernel
theorem dX4_makeDistrict_47 : decode cX4_makeDistrict 47 = .ok (.iload_n 3, 1) := by decide +kernel
theorem dX4_makeDistrict_48 : decode cX4_makeDistrict 48 = .ok (.invokevirtual 78, 3) := by decide +kernel
theorem dX4_makeDistrict_51 : decode cX4_makeDistrict 51 = .ok (.aload_n 0, 1) := by decide +kernel
theorem dX4_makeDistrict_52 : decode cX4_makeDistrict 52 = .ok (.dup, 1) := by decide +kernel
theorem dX4_makeDistrict_53 : decode cX4_makeDistrict 53 = .ok (.getfield 42, 3) := by decide +kernel
theorem dX4_makeDistrict_56 : decode cX4_makeDistrict 56 = .ok (.iconst 1, 1) := by decide +kernel
theorem dX4_makeDistrict_57 : decode cX4_makeDistrict 57 = .ok (.iadd, 1) := by decide +kernel
theorem dX4_makeDistrict_58 : decode cX4_makeDistrict 58 = .ok (.putfield 42, 3) := by decide +kernel
theorem dX4_makeDistrict_61 : decode cX4_makeDistrict 61 = .ok (.return_, 1) := by decide +kernel
theorem dX4_leaveRest_0 : decode cX4_leaveRest 0 = .ok (.iconst 0, 1) := by decide +kernel
theorem dX4_leaveRest_1 : decode cX4_leaveRest 1 = .ok (.istore_n 2, 1) := by decide +kernel
theorem dX4_leaveRest_2 : decode cX4_leaveRest 2 = .ok (.iload_n 2, 1) := by decide +kernel
theorem dX4_leaveRest_3 : decode cX4_leaveRest 3 = .ok (.bipush 36, 2) := by decide +kernel
theorem dX4_leaveRest_5 : decode cX4_leaveRest 5 = .ok (.if_icmp .ge 45, 3) := by decide +kernel
theorem dX4_leaveRest_8 : decode cX4_leaveRest 8 = .ok (.aload_n 0, 1) := by decide +kernel
theorem dX4_leaveRest_9 : decode cX4_leaveRest 9 = .ok (.getfield 23, 3) := by decide +kernel
theorem dX4_leaveRest_12 : decode cX4_leaveRest 12 = .ok (.iload_n 2, 1) := by decide +kernel
theorem dX4_leaveRest_13 : decode cX4_leaveRest 13 = .ok (.invokevirtual 59, 3) := by decide +kernel
theorem dX4_leaveRest_16 : decode cX4_leaveRest 16 = .ok (.istore_n 3, 1) := by decide +kernel
theorem dX4_leaveRest_17 : decode cX4_leaveRest 17 = .ok (.iload_n 3, 1) := by decide +kernel
theorem dX4_leaveRest_18 : decode cX4_leaveRest 18 = .ok (.iload_n 1, 1) := by decide +kernel
theorem dX4_leaveRest_19 : decode cX4_leaveRest 19 = .ok (.if_icmp .ne 8, 3) := by decide +kernel
theorem dX4_leaveRest_22 : decode cX4_leaveRest 22 = .ok (.iconst (-1), 1) := by decide +kernel
theorem dX4_leaveRest_23 : decode cX4_leaveRest 23 = .ok (.istore_n 3, 1) := by decide +kernel
theorem dX4_leaveRest_24 : decode cX4_leaveRest 24 = .ok (.goto 11, 3) := by decide +kernel
theorem dX4_leaveRest_27 : decode cX4_leaveRest 27 = .ok (.iload_n 3, 1) := by decide +kernel
theorem dX4_leaveRest_28 : decode cX4_leaveRest 28 = .ok (.iload_n 1, 1) := by decide +kernel
theorem dX4_leaveRest_29 : decode cX4_leaveRest 29 = .ok (.if_icmp .le 6, 3) := by decide +kernel
theorem dX4_leaveRest_32 : decode cX4_leaveRest 32 = .ok (.iinc 3 (-1), 3) := by decide +kernel
theorem dX4_leaveRest_35 : decode cX4_leaveRest 35 = .ok (.aload_n 0, 1) := by decide +kernel
theorem dX4_leaveRest_36 : decode cX4_leaveRest 36 = .ok (.getfield 29, 3) := by decide +kernel
theorem dX4_leaveRest_39 : decode cX4_leaveRest 39 = .ok (.iload_n 2, 1) := by decide +kernel
theorem dX4_leaveRest_40 : decode cX4_leaveRest 40 = .ok (.iload_n 3, 1) := by decide +kernel
theorem dX4_leaveRest_41 : decode cX4_leaveRest 41 = .ok (.invokevirtual 78, 3) := by decide +kernel
theorem dX4_leaveRest_44 : decode cX4_leaveRest 44 = .ok (.iinc 2 1, 3) := by decide +kernel
theorem dX4_leaveRest_47 : decode cX4_leaveRest 47 = .ok (.goto (-45), 3) := by decide +kernel
theorem dX4_leaveRest_50 : decode cX4_leaveRest 50 = .ok (.return_, 1) := by decide +kernel
theorem dX4_votesOf_0 : decode cX4_votesOf 0 = .ok (.iload_n 1, 1) := by decide +kernel
theorem dX4_votesOf_1 : decode cX4_votesOf 1 = .ok (.ifCond .ne 10, 3) := by decide +kernel
theorem dX4_votesOf_4 : decode cX4_votesOf 4 = .ok (.aload_n 0, 1) := by decide +kernel
theorem dX4_votesOf_5 : decode cX4_votesOf 5 = .ok (.getfield 14, 3) := by decide +kernel
theorem dX4_votesOf_8 : decode cX4_votesOf 8 = .ok (.goto 7, 3) := by decide +kernel
theorem dX4_votesOf_11 : decode cX4_votesOf 11 = .ok (.aload_n 0, 1) := by decide +kernel
theorem dX4_votesOf_12 : decode cX4_votesOf 12 = .ok (.getfield 20, 3) := by decide +kernel
theorem dX4_votesOf_15 : decode cX4_votesOf 15 = .ok (.areturn, 1) := by decide +kernel
theorem dX4_margin_0 : decode cX4_margin 0 = .ok (.aload_n 1, 1) := by decide +kernel
theorem dX4_margin_1 : decode cX4_margin 1 = .ok (.iload_n 2, 1) := by decide +kernel
theorem dX4_margin_2 : decode cX4_margin 2 = .ok (.aload_n 0, 1) := by decide +kernel
theorem dX4_margin_3 : decode cX4_margin 3 = .ok (.iload_n 3, 1) := by decide +kernel
theorem dX4_margin_4 : decode cX4_margin 4 = .ok (.invokevirtual 81, 3) := by decide +kernel
theorem dX4_margin_7 : decode cX4_margin 7 = .ok (.invokestatic 85, 3) := by decide +kernel
theorem dX4_margin_10 : decode cX4_margin 10 = .ok (.aload_n 1, 1) := by decide +kernel
theorem dX4_margin_11 : decode cX4_margin 11 = .ok (.iload_n 2, 1) := by decide +kernel
theorem dX4_margin_12 : decode cX4_margin 12 = .ok (.aload_n 0, 1) := by decide +kernel
theorem dX4_margin_13 : decode cX4_margin 13 = .ok (.iconst 1, 1) := by decide +kernel
theorem dX4_margin_14 : decode cX4_margin 14 = .ok (.iload_n 3, 1) := by decide +kernel
theorem dX4_margin_15 : decode cX4_margin 15 = .ok (.isub, 1) := by decide +kernel
theorem dX4_margin_16 : decode cX4_margin 16 = .ok (.invokevirtual 81, 3) := by decide +kernel
theorem dX4_margin_19 : decode cX4_margin 19 = .ok (.invokestatic 85, 3) := by decide +kernel
theorem dX4_margin_22 : decode cX4_margin 22 = .ok (.isub, 1) := by decide +kernel
theorem dX4_margin_23 : decode cX4_margin 23 = .ok (.ireturn, 1) := by decide +kernel
theorem dX4_winner_0 : decode cX4_winner 0 = .ok (.aload_n 0, 1) := by decide +kernel
theorem dX4_winner_1 : decode cX4_winner 1 = .ok (.aload_n 1, 1) := by decide +kernel
theorem dX4_winner_2 : decode cX4_winner 2 = .ok (.iload_n 2, 1) := by decide +kernel
theorem dX4_winner_3 : decode cX4_winner 3 = .ok (.iconst 0, 1) := by decide +kernel
theorem dX4_winner_4 : decode cX4_winner 4 = .ok (.invokevirtual 91, 3) := by decide +kernel
theorem dX4_winner_7 : decode cX4_winner 7 = .ok (.istore_n 3, 1) := by decide +kernel
theorem dX4_winner_8 : decode cX4_winner 8 = .ok (.iload_n 3, 1) := by decide +kernel
theorem dX4_winner_9 : decode cX4_winner 9 = .ok (.ifCond .ne 5, 3) := by decide +kernel
theorem dX4_winner_12 : decode cX4_winner 12 = .ok (.iconst 2, 1) := by decide +kernel
theorem dX4_winner_13 : decode cX4_winner 13 = .ok (.ireturn, 1) := by decide +kernel
theorem dX4_winner_14 : decode cX4_winner 14 = .ok (.iload_n 3, 1) := by decide +kernel
theorem dX4_winner_15 : decode cX4_winner 15 = .ok (.ifCond .le 7, 3) := by decide +kernel
theorem dX4_winner_18 : decode cX4_winner 18 = .ok (.iconst 0, 1) := by decide +kernel
theorem dX4_winner_19 : decode cX4_winner 19 = .ok (.goto 4, 3) := by decide +kernel
theorem dX4_winner_22 : decode cX4_winner 22 = .ok (.iconst 1, 1) := by decide +kernel
theorem dX4_winner_23 : decode cX4_winner 23 = .ok (.ireturn, 1) := by decide +kernel
theorem dX4_won_0 : decode cX4_won 0 = .ok (.iconst 0, 1) := by decide +kernel
theorem dX4_won_1 : decode cX4_won 1 = .ok (.istore 4, 2) := by decide +kernel
theorem dX4_won_3 : decode cX4_won 3 = .ok (.iconst 0, 1) := by decide +kernel
theorem dX4_won_4 : decode cX4_won 4 = .ok (.istore 5, 2) := by decide +kernel
theorem dX4_won_6 : decode cX4_won 6 = .ok (.iload 5, 2) := by decide +kernel
theorem dX4_won_8 : decode cX4_won 8 = .ok (.iload_n 2, 1) := by decide +kernel
theorem dX4_won_9 : decode cX4_won 9 = .ok (.if_icmp .ge 23, 3) := by decide +kernel
theorem dX4_won_12 : decode cX4_won 12 = .ok (.aload_n 0, 1) := by decide +kernel
theorem dX4_won_13 : decode cX4_won 13 = .ok (.aload_n 1, 1) := by decide +kernel
theorem dX4_won_14 : decode cX4_won 14 = .ok (.iload 5, 2) := by decide +kernel
theorem dX4_won_16 : decode cX4_won 16 = .ok (.invokevirtual 95, 3) := by decide +kernel
theorem dX4_won_19 : decode cX4_won 19 = .ok (.iload_n 3, 1) := by decide +kernel
theorem dX4_won_20 : decode cX4_won 20 = .ok (.if_icmp .ne 6, 3) := by decide +kernel
theorem dX4_won_23 : decode cX4_won 23 = .ok (.iinc 4 1, 3) := by decide +kernel
theorem dX4_won_26 : decode cX4_won 26 = .ok (.iinc 5 1, 3) := by decide +kernel
theorem dX4_won_29 : decode cX4_won 29 = .ok (.goto (-23), 3) := by decide +kernel
theorem dX4_won_32 : decode cX4_won 32 = .ok (.iload 4, 2) := by decide +kernel
theorem dX4_won_34 : decode cX4_won 34 = .ok (.ireturn, 1) := by decide +kernel
theorem dX4_seats_0 : decode cX4_seats 0 = .ok (.aload_n 0, 1) := by decide +kernel
theorem dX4_seats_1 : decode cX4_seats 1 = .ok (.aload_n 0, 1) := by decide +kernel
theorem dX4_seats_2 : decode cX4_seats 2 = .ok (.getfield 26, 3) := by decide +kernel
theorem dX4_seats_5 : decode cX4_seats 5 = .ok (.aload_n 0, 1) := by decide +kernel
theorem dX4_seats_6 : decode cX4_seats 6 = .ok (.getfield 42, 3) := by decide +kernel
theorem dX4_seats_9 : decode cX4_seats 9 = .ok (.iload_n 1, 1) := by decide +kernel
theorem dX4_seats_10 : decode cX4_seats 10 = .ok (.invokevirtual 99, 3) := by decide +kernel
theorem dX4_seats_13 : decode cX4_seats 13 = .ok (.ireturn, 1) := by decide +kernel
theorem dX4_wasted_0 : decode cX4_wasted 0 = .ok (.aload_n 0, 1) := by decide +kernel
theorem dX4_wasted_1 : decode cX4_wasted 1 = .ok (.getfield 26, 3) := by decide +kernel
theorem dX4_wasted_4 : decode cX4_wasted 4 = .ok (.iload_n 1, 1) := by decide +kernel
theorem dX4_wasted_5 : decode cX4_wasted 5 = .ok (.aload_n 0, 1) := by decide +kernel
theorem dX4_wasted_6 : decode cX4_wasted 6 = .ok (.iload_n 2, 1) := by decide +kernel
theorem dX4_wasted_7 : decode cX4_wasted 7 = .ok (.invokevirtual 81, 3) := by decide +kernel
theorem dX4_wasted_10 : decode cX4_wasted 10 = .ok (.invokestatic 85, 3) := by decide +kernel
theorem dX4_wasted_13 : decode cX4_wasted 13 = .ok (.istore_n 3, 1) := by decide +kernel
theorem dX4_wasted_14 : decode cX4_wasted 14 = .ok (.aload_n 0, 1) := by decide +kernel
theorem dX4_wasted_15 : decode cX4_wasted 15 = .ok (.getfield 26, 3) := by decide +kernel
theorem dX4_wasted_18 : decode cX4_wasted 18 = .ok (.iload_n 1, 1) := by decide +kernel
theorem dX4_wasted_19 : decode cX4_wasted 19 = .ok (.aload_n 0, 1) := by decide +kernel
theorem dX4_wasted_20 : decode cX4_wasted 20 = .ok (.iconst 1, 1) := by decide +kernel
theorem dX4_wasted_21 : decode cX4_wasted 21 = .ok (.iload_n 2, 1) := by decide +kernel
theorem dX4_wasted_22 : decode cX4_wasted 22 = .ok (.isub, 1) := by decide +kernel
theorem dX4_wasted_23 : decode cX4_wasted 23 = .ok (.invokevirtual 81, 3) := by decide +kernel
theorem dX4_wasted_26 : decode cX4_wasted 26 = .ok (.invokestatic 85, 3) := by decide +kernel
theorem dX4_wasted_29 : decode cX4_wasted 29 = .ok (.istore 4, 2) := by decide +kernel
theorem dX4_wasted_31 : decode cX4_wasted 31 = .ok (.iload_n 3, 1) := by decide +kernel
theorem dX4_wasted_32 : decode cX4_wasted 32 = .ok (.iload 4, 2) := by decide +kernel
theorem dX4_wasted_34 : decode cX4_wasted 34 = .ok (.if_icmp .le 12, 3) := by decide +kernel
theorem dX4_wasted_37 : decode cX4_wasted 37 = .ok (.iload_n 3, 1) := by decide +kernel
theorem dX4_wasted_38 : decode cX4_wasted 38 = .ok (.iload 4, 2) := by decide +kernel
theorem dX4_wasted_40 : decode cX4_wasted 40 = .ok (.iconst 1, 1) := by decide +kernel
theorem dX4_wasted_41 : decode cX4_wasted 41 = .ok (.iadd, 1) := by decide +kernel
theorem dX4_wasted_42 : decode cX4_wasted 42 = .ok (.isub, 1) := by decide +kernel
theorem dX4_wasted_43 : decode cX4_wasted 43 = .ok (.goto 4, 3) := by decide +kernel
theorem dX4_wasted_46 : decode cX4_wasted 46 = .ok (.iload_n 3, 1) := by decide +kernel
theorem dX4_wasted_47 : decode cX4_wasted 47 = .ok (.ireturn, 1) := by decide +kernel
theorem dX4_wastedInAll_0 : decode cX4_wastedInAll 0 = .ok (.iconst 0, 1) := by decide +kernel
theorem dX4_wastedInAll_1 : decode cX4_wastedInAll 1 = .ok (.istore_n 2, 1) := by decide +kernel
theorem dX4_wastedInAll_2 : decode cX4_wastedInAll 2 = .ok (.iconst 0, 1) := by decide +kernel
theorem dX4_wastedInAll_3 : decode cX4_wastedInAll 3 = .ok (.istore_n 3, 1) := by decide +kernel
theorem dX4_wastedInAll_4 : decode cX4_wastedInAll 4 = .ok (.iload_n 3, 1) := by decide +kernel
theorem dX4_wastedInAll_5 : decode cX4_wastedInAll 5 = .ok (.aload_n 0, 1) := by decide +kernel
theorem dX4_wastedInAll_6 : decode cX4_wastedInAll 6 = .ok (.getfield 42, 3) := by decide +kernel
theorem dX4_wastedInAll_9 : decode cX4_wastedInAll 9 = .ok (.if_icmp .ge 18, 3) := by decide +kernel
theorem dX4_wastedInAll_12 : decode cX4_wastedInAll 12 = .ok (.iload_n 2, 1) := by decide +kernel
theorem dX4_wastedInAll_13 : decode cX4_wastedInAll 13 = .ok (.aload_n 0, 1) := by decide +kernel
theorem dX4_wastedInAll_14 : decode cX4_wastedInAll 14 = .ok (.iload_n 3, 1) := by decide +kernel
theorem dX4_wastedInAll_15 : decode cX4_wastedInAll 15 = .ok (.iload_n 1, 1) := by decide +kernel
theorem dX4_wastedInAll_16 : decode cX4_wastedInAll 16 = .ok (.invokevirtual 102, 3) := by decide +kernel
theorem dX4_wastedInAll_19 : decode cX4_wastedInAll 19 = .ok (.iadd, 1) := by decide +kernel
theorem dX4_wastedInAll_20 : decode cX4_wastedInAll 20 = .ok (.istore_n 2, 1) := by decide +kernel
theorem dX4_wastedInAll_21 : decode cX4_wastedInAll 21 = .ok (.iinc 3 1, 3) := by decide +kernel
theorem dX4_wastedInAll_24 : decode cX4_wastedInAll 24 = .ok (.goto (-20), 3) := by decide +kernel
theorem dX4_wastedInAll_27 : decode cX4_wastedInAll 27 = .ok (.iload_n 2, 1) := by decide +kernel
theorem dX4_wastedInAll_28 : decode cX4_wastedInAll 28 = .ok (.ireturn, 1) := by decide +kernel
theorem dX4_bordersOfAll_0 : decode cX4_bordersOfAll 0 = .ok (.iconst 0, 1) := by decide +kernel
theorem dX4_bordersOfAll_1 : decode cX4_bordersOfAll 1 = .ok (.istore_n 1, 1) := by decide +kernel
theorem dX4_bordersOfAll_2 : decode cX4_bordersOfAll 2 = .ok (.iconst 0, 1) := by decide +kernel
theorem dX4_bordersOfAll_3 : decode cX4_bordersOfAll 3 = .ok (.istore_n 2, 1) := by decide +kernel
theorem dX4_bordersOfAll_4 : decode cX4_bordersOfAll 4 = .ok (.iload_n 2, 1) := by decide +kernel
theorem dX4_bordersOfAll_5 : decode cX4_bordersOfAll 5 = .ok (.aload_n 0, 1) := by decide +kernel
theorem dX4_bordersOfAll_6 : decode cX4_bordersOfAll 6 = .ok (.getfield 42, 3) := by decide +kernel
theorem dX4_bordersOfAll_9 : decode cX4_bordersOfAll 9 = .ok (.if_icmp .ge 20, 3) := by decide +kernel
theorem dX4_bordersOfAll_12 : decode cX4_bordersOfAll 12 = .ok (.iload_n 1, 1) := by decide +kernel
theorem dX4_bordersOfAll_13 : decode cX4_bordersOfAll 13 = .ok (.aload_n 0, 1) := by decide +kernel
theorem dX4_bordersOfAll_14 : decode cX4_bordersOfAll 14 = .ok (.getfield 26, 3) := by decide +kernel
theorem dX4_bordersOfAll_17 : decode cX4_bordersOfAll 17 = .ok (.iload_n 2, 1) := by decide +kernel
theorem dX4_bordersOfAll_18 : decode cX4_bordersOfAll 18 = .ok (.invokestatic 106, 3) := by decide +kernel
theorem dX4_bordersOfAll_21 : decode cX4_bordersOfAll 21 = .ok (.iadd, 1) := by decide +kernel
theorem dX4_bordersOfAll_22 : decode cX4_bordersOfAll 22 = .ok (.istore_n 1, 1) := by decide +kernel
theorem dX4_bordersOfAll_23 : decode cX4_bordersOfAll 23 = .ok (.iinc 2 1, 3) := by decide +kernel
theorem dX4_bordersOfAll_26 : decode cX4_bordersOfAll 26 = .ok (.goto (-22), 3) := by decide +kernel
theorem dX4_bordersOfAll_29 : decode cX4_bordersOfAll 29 = .ok (.iload_n 1, 1) := by decide +kernel
theorem dX4_bordersOfAll_30 : decode cX4_bordersOfAll 30 = .ok (.ireturn, 1) := by decide +kernel
theorem dX4_closestWon_0 : decode cX4_closestWon 0 = .ok (.iconst (-1), 1) := by decide +kernel
theorem dX4_closestWon_1 : decode cX4_closestWon 1 = .ok (.istore_n 2, 1) := by decide +kernel
theorem dX4_closestWon_2 : decode cX4_closestWon 2 = .ok (.iconst 0, 1) := by decide +kernel
theorem dX4_closestWon_3 : decode cX4_closestWon 3 = .ok (.istore_n 3, 1) := by decide +kernel
theorem dX4_closestWon_4 : decode cX4_closestWon 4 = .ok (.iconst 0, 1) := by decide +kernel
theorem dX4_closestWon_5 : decode cX4_closestWon 5 = .ok (.istore 4, 2) := by decide +kernel
theorem dX4_closestWon_7 : decode cX4_closestWon 7 = .ok (.iload 4, 2) := by decide +kernel
theorem dX4_closestWon_9 : decode cX4_closestWon 9 = .ok (.aload_n 0, 1) := by decide +kernel
theorem dX4_closestWon_10 : decode cX4_closestWon 10 = .ok (.invokevirtual 63, 3) := by decide +kernel
theorem dX4_closestWon_13 : decode cX4_closestWon 13 = .ok (.if_icmp .ge 44, 3) := by decide +kernel
theorem dX4_closestWon_16 : decode cX4_closestWon 16 = .ok (.aload_n 0, 1) := by decide +kernel
theorem dX4_closestWon_17 : decode cX4_closestWon 17 = .ok (.aload_n 0, 1) := by decide +kernel
theorem dX4_closestWon_18 : decode cX4_closestWon 18 = .ok (.getfield 23, 3) := by decide +kernel
theorem dX4_closestWon_21 : decode cX4_closestWon 21 = .ok (.iload 4, 2) := by decide +kernel
theorem dX4_closestWon_23 : decode cX4_closestWon 23 = .ok (.iload_n 1, 1) := by decide +kernel
theorem dX4_closestWon_24 : decode cX4_closestWon 24 = .ok (.invokevirtual 91, 3) := by decide +kernel
theorem dX4_closestWon_27 : decode cX4_closestWon 27 = .ok (.istore 5, 2) := by decide +kernel
theorem dX4_closestWon_29 : decode cX4_closestWon 29 = .ok (.iload 5, 2) := by decide +kernel
theorem dX4_closestWon_31 : decode cX4_closestWon 31 = .ok (.ifCond .le 20, 3) := by decide +kernel
theorem dX4_closestWon_34 : decode cX4_closestWon 34 = .ok (.iload_n 2, 1) := by decide +kernel
theorem dX4_closestWon_35 : decode cX4_closestWon 35 = .ok (.iconst (-1), 1) := by decide +kernel
theorem dX4_closestWon_36 : decode cX4_closestWon 36 = .ok (.if_icmp .eq 9, 3) := by decide +kernel
theorem dX4_closestWon_39 : decode cX4_closestWon 39 = .ok (.iload 5, 2) := by decide +kernel
theorem dX4_closestWon_41 : decode cX4_closestWon 41 = .ok (.iload_n 3, 1) := by decide +kernel
theorem dX4_closestWon_42 : decode cX4_closestWon 42 = .ok (.if_icmp .ge 9, 3) := by decide +kernel
theorem dX4_closestWon_45 : decode cX4_closestWon 45 = .ok (.iload 4, 2) := by decide +kernel
theorem dX4_closestWon_47 : decode cX4_closestWon 47 = .ok (.istore_n 2, 1) := by decide +kernel
theorem dX4_closestWon_48 : decode cX4_closestWon 48 = .ok (.iload 5, 2) := by decide +kernel
theorem dX4_closestWon_50 : decode cX4_closestWon 50 = .ok (.istore_n 3, 1) := by decide +kernel
theorem dX4_closestWon_51 : decode cX4_closestWon 51 = .ok (.iinc 4 1, 3) := by decide +kernel
theorem dX4_closestWon_54 : decode cX4_closestWon 54 = .ok (.goto (-47), 3) := by decide +kernel
theorem dX4_closestWon_57 : decode cX4_closestWon 57 = .ok (.iload_n 2, 1) := by decide +kernel
theorem dX4_closestWon_58 : decode cX4_closestWon 58 = .ok (.ireturn, 1) := by decide +kernel
theorem dX4_mostLost_0 : decode cX4_mostLost 0 = .ok (.iconst 0, 1) := by decide +kernel
theorem dX4_mostLost_1 : decode cX4_mostLost 1 = .ok (.istore_n 2, 1) := by decide +kernel
theorem dX4_mostLost_2 : decode cX4_mostLost 2 = .ok (.iconst 1, 1) := by decide +kernel
theorem dX4_mostLost_3 : decode cX4_mostLost 3 = .ok (.istore_n 3, 1) := by decide +kernel
theorem dX4_mostLost_4 : decode cX4_mostLost 4 = .ok (.iload_n 3, 1) := by decide +kernel
theorem dX4_mostLost_5 : decode cX4_mostLost 5 = .ok (.aload_n 0, 1) := by decide +kernel
theorem dX4_mostLost_6 : decode cX4_mostLost 6 = .ok (.invokevirtual 63, 3) := by decide +kernel
theorem dX4_mostLost_9 : decode cX4_mostLost 9 = .ok (.if_icmp .ge 38, 3) := by decide +kernel
theorem dX4_mostLost_12 : decode cX4_mostLost 12 = .ok (.aload_n 0, 1) := by decide +kernel
theorem dX4_mostLost_13 : decode cX4_mostLost 13 = .ok (.aload_n 0, 1) := by decide +kernel
theorem dX4_mostLost_14 : decode cX4_mostLost 14 = .ok (.getfield 23, 3) := by decide +kernel
theorem dX4_mostLost_17 : decode cX4_mostLost 17 = .ok (.iload_n 3, 1) := by decide +kernel
theorem dX4_mostLost_18 : decode cX4_mostLost 18 = .ok (.iconst 1, 1) := by decide +kernel
theorem dX4_mostLost_19 : decode cX4_mostLost 19 = .ok (.iload_n 1, 1) := by decide +kernel
theorem dX4_mostLost_20 : decode cX4_mostLost 20 = .ok (.isub, 1) := by decide +kernel
theorem dX4_mostLost_21 : decode cX4_mostLost 21 = .ok (.invokevirtual 91, 3) := by decide +kernel
theorem dX4_mostLost_24 : decode cX4_mostLost 24 = .ok (.aload_n 0, 1) := by decide +kernel
theorem dX4_mostLost_25 : decode cX4_mostLost 25 = .ok (.aload_n 0, 1) := by decide +kernel
theorem dX4_mostLost_26 : decode cX4_mostLost 26 = .ok (.getfield 23, 3) := by decide +kernel
theorem dX4_mostLost_29 : decode cX4_mostLost 29 = .ok (.iload_n 2, 1) := by decide +kernel
theorem dX4_mostLost_30 : decode cX4_mostLost 30 = .ok (.iconst 1, 1) := by decide +kernel
theorem dX4_mostLost_31 : decode cX4_mostLost 31 = .ok (.iload_n 1, 1) := by decide +kernel
theorem dX4_mostLost_32 : decode cX4_mostLost 32 = .ok (.isub, 1) := by decide +kernel
theorem dX4_mostLost_33 : decode cX4_mostLost 33 = .ok (.invokevirtual 91, 3) := by decide +kernel
theorem dX4_mostLost_36 : decode cX4_mostLost 36 = .ok (.if_icmp .le 5, 3) := by decide +kernel
theorem dX4_mostLost_39 : decode cX4_mostLost 39 = .ok (.iload_n 3, 1) := by decide +kernel
theorem dX4_mostLost_40 : decode cX4_mostLost 40 = .ok (.istore_n 2, 1) := by decide +kernel
theorem dX4_mostLost_41 : decode cX4_mostLost 41 = .ok (.iinc 3 1, 3) := by decide +kernel
theorem dX4_mostLost_44 : decode cX4_mostLost 44 = .ok (.goto (-40), 3) := by decide +kernel
theorem dX4_mostLost_47 : decode cX4_mostLost 47 = .ok (.iload_n 2, 1) := by decide +kernel
theorem dX4_mostLost_48 : decode cX4_mostLost 48 = .ok (.ireturn, 1) := by decide +kernel
theorem dX5_init_0 : decode cX5_init 0 = .ok (.aload_n 0, 1) := by decide +kernel
theorem dX5_init_1 : decode cX5_init 1 = .ok (.invokespecial 3, 3) := by decide +kernel
theorem dX5_init_4 : decode cX5_init 4 = .ok (.aload_n 0, 1) := by decide +kernel
theorem dX5_init_5 : decode cX5_init 5 = .ok (.bipush 60, 2) := by decide +kernel
theorem dX5_init_7 : decode cX5_init 7 = .ok (.newarray .char, 2) := by decide +kernel
theorem dX5_init_9 : decode cX5_init 9 = .ok (.putfield 9, 3) := by decide +kernel
theorem dX5_init_12 : decode cX5_init 12 = .ok (.aload_n 0, 1) := by decide +kernel
theorem dX5_init_13 : decode cX5_init 13 = .ok (.iconst 0, 1) := by decide +kernel
theorem dX5_init_14 : decode cX5_init 14 = .ok (.putfield 15, 3) := by decide +kernel
theorem dX5_init_17 : decode cX5_init 17 = .ok (.return_, 1) := by decide +kernel
theorem dX5_length_0 : decode cX5_length 0 = .ok (.aload_n 0, 1) := by decide +kernel
theorem dX5_length_1 : decode cX5_length 1 = .ok (.getfield 15, 3) := by decide +kernel
theorem dX5_length_4 : decode cX5_length 4 = .ok (.ireturn, 1) := by decide +kernel
theorem dX5_append_0 : decode cX5_append 0 = .ok (.aload_n 0, 1) := by decide +kernel
theorem dX5_append_1 : decode cX5_append 1 = .ok (.getfield 15, 3) := by decide +kernel
theorem dX5_append_4 : decode cX5_append 4 = .ok (.ifCond .lt 15, 3) := by decide +kernel
theorem dX5_append_7 : decode cX5_append 7 = .ok (.aload_n 0, 1) := by decide +kernel
theorem dX5_append_8 : decode cX5_append 8 = .ok (.getfield 15, 3) := by decide +kernel
theorem dX5_append_11 : decode cX5_append 11 = .ok (.aload_n 0, 1) := by decide +kernel
theorem dX5_append_12 : decode cX5_append 12 = .ok (.getfield 9, 3) := by decide +kernel
theorem dX5_append_15 : decode cX5_append 15 = .ok (.arraylength, 1) := by decide +kernel
theorem dX5_append_16 : decode cX5_append 16 = .ok (.if_icmp .lt 5, 3) := by decide +kernel
theorem dX5_append_19 : decode cX5_append 19 = .ok (.iconst 0, 1) := by decide +kernel
theorem dX5_append_20 : decode cX5_append 20 = .ok (.ireturn, 1) := by decide +kernel
theorem dX5_append_21 : decode cX5_append 21 = .ok (.aload_n 0, 1) := by decide +kernel
theorem dX5_append_22 : decode cX5_append 22 = .ok (.getfield 9, 3) := by decide +kernel
theorem dX5_append_25 : decode cX5_append 25 = .ok (.aload_n 0, 1) := by decide +kernel
theorem dX5_append_26 : decode cX5_append 26 = .ok (.getfield 15, 3) := by decide +kernel
theorem dX5_append_29 : decode cX5_append 29 = .ok (.iload_n 1, 1) := by decide +kernel
theorem dX5_append_30 : decode cX5_append 30 = .ok (.castore, 1) := by decide +kernel
theorem dX5_append_31 : decode cX5_append 31 = .ok (.aload_n 0, 1) := by decide +kernel
theorem dX5_append_32 : decode cX5_append 32 = .ok (.dup, 1) := by decide +kernel
theorem dX5_append_33 : decode cX5_append 33 = .ok (.getfield 15, 3) := by decide +kernel
theorem dX5_append_36 : decode cX5_append 36 = .ok (.iconst 1, 1) := by decide +kernel
theorem dX5_append_37 : decode cX5_append 37 = .ok (.iadd, 1) := by decide +kernel
theorem dX5_append_38 : decode cX5_append 38 = .ok (.putfield 15, 3) := by decide +kernel
theorem dX5_append_41 : decode cX5_append 41 = .ok (.iconst 1, 1) := by decide +kernel
theorem dX5_append_42 : decode cX5_append 42 = .ok (.ireturn, 1) := by decide +kernel
theorem dX5_empty_0 : decode cX5_empty 0 = .ok (.aload_n 0, 1) := by decide +kernel
theorem dX5_empty_1 : decode cX5_empty 1 = .ok (.iconst 0, 1) := by decide +kernel
theorem dX5_empty_2 : decode cX5_empty 2 = .ok (.putfield 15, 3) := by decide +kernel
theorem dX5_empty_5 : decode cX5_empty 5 = .ok (.return_, 1) := by decide +kernel
theorem dX5_fault_0 : decode cX5_fault 0 = .ok (.iconst 0, 1) := by decide +kernel
theorem dX5_fault_1 : decode cX5_fault 1 = .ok (.istore_n 1, 1) := by decide +kernel
theorem dX5_fault_2 : decode cX5_fault 2 = .ok (.iload_n 1, 1) := by decide +kernel
theorem dX5_fault_3 : decode cX5_fault 3 = .ok (.aload_n 0, 1) := by decide +kernel
theorem dX5_fault_4 : decode cX5_fault 4 = .ok (.getfield 15, 3) := by decide +kernel
theorem dX5_fault_7 : decode cX5_fault 7 = .ok (.if_icmp .ge 19, 3) := by decide +kernel
theorem dX5_fault_10 : decode cX5_fault 10 = .ok (.aload_n 0, 1) := by decide +kernel
theorem dX5_fault_11 : decode cX5_fault 11 = .ok (.iload_n 1, 1) := by decide +kernel
theorem dX5_fault_12 : decode cX5_fault 12 = .ok (.invokevirtual 19, 3) := by decide +kernel
theorem dX5_fault_15 : decode cX5_fault 15 = .ok (.ifCond .ne 5, 3) := by decide +kernel
theorem dX5_fault_18 : decode cX5_fault 18 = .ok (.iload_n 1, 1) := by decide +kernel
theorem dX5_fault_19 : decode cX5_fault 19 = .ok (.ireturn, 1) := by decide +kernel
theorem dX5_fault_20 : decode cX5_fault 20 = .ok (.iinc 1 1, 3) := by decide +kernel
theorem dX5_fault_23 : decode cX5_fault 23 = .ok (.goto (-21), 3) := by decide +kernel
theorem dX5_fault_26 : decode cX5_fault 26 = .ok (.aload_n 0, 1) := by decide +kernel
theorem dX5_fault_27 : decode cX5_fault 27 = .ok (.getfield 15, 3) := by decide +kernel
theorem dX5_fault_30 : decode cX5_fault 30 = .ok (.iconst 3, 1) := by decide +kernel
theorem dX5_fault_31 : decode cX5_fault 31 = .ok (.irem, 1) := by decide +kernel
theorem dX5_fault_32 : decode cX5_fault 32 = .ok (.iconst 2, 1) := by decide +kernel
theorem dX5_fault_33 : decode cX5_fault 33 = .ok (.if_icmp .ne 7, 3) := by decide +kernel
theorem dX5_fault_36 : decode cX5_fault 36 = .ok (.iconst (-1), 1) := by decide +kernel
theorem dX5_fault_37 : decode cX5_fault 37 = .ok (.goto 7, 3) := by decide +kernel
theorem dX5_fault_40 : decode cX5_fault 40 = .ok (.aload_n 0, 1) := by decide +kernel
theorem dX5_fault_41 : decode cX5_fault 41 = .ok (.getfield 15, 3) := by decide +kernel
theorem dX5_fault_44 : decode cX5_fault 44 = .ok (.ireturn, 1) := by decide +kernel
theorem dX5_pairs_0 : decode cX5_pairs 0 = .ok (.aload_n 0, 1) := by decide +kernel
theorem dX5_pairs_1 : decode cX5_pairs 1 = .ok (.getfield 15, 3) := by decide +kernel
theorem dX5_pairs_4 : decode cX5_pairs 4 = .ok (.iconst 1, 1) := by decide +kernel
theorem dX5_pairs_5 : decode cX5_pairs 5 = .ok (.iadd, 1) := by decide +kernel
theorem dX5_pairs_6 : decode cX5_pairs 6 = .ok (.iconst 3, 1) := by decide +kernel
theorem dX5_pairs_7 : decode cX5_pairs 7 = .ok (.idiv, 1) := by decide +kernel
theorem dX5_pairs_8 : decode cX5_pairs 8 = .ok (.ireturn, 1) := by decide +kernel
theorem dX5_votes_0 : decode cX5_votes 0 = .ok (.aload_n 0, 1) := by decide +kernel
theorem dX5_votes_1 : decode cX5_votes 1 = .ok (.iload_n 1, 1) := by decide +kernel
theorem dX5_votes_2 : decode cX5_votes 2 = .ok (.iconst 3, 1) := by decide +kernel
theorem dX5_votes_3 : decode cX5_votes 3 = .ok (.imul, 1) := by decide +kernel
theorem dX5_votes_4 : decode cX5_votes 4 = .ok (.iload_n 2, 1) := by decide +kernel
theorem dX5_votes_5 : decode cX5_votes 5 = .ok (.iadd, 1) := by decide +kernel
theorem dX5_votes_6 : decode cX5_votes 6 = .ok (.invokevirtual 23, 3) := by decide +kernel
theorem dX5_votes_9 : decode cX5_votes 9 = .ok (.bipush 48, 2) := by decide +kernel
theorem dX5_votes_11 : decode cX5_votes 11 = .ok (.isub, 1) := by decide +kernel
theorem dX5_votes_12 : decode cX5_votes 12 = .ok (.ireturn, 1) := by decide +kernel
theorem dX5_isAllowed_0 : decode cX5_isAllowed 0 = .ok (.aload_n 0, 1) := by decide +kernel
theorem dX5_isAllowed_1 : decode cX5_isAllowed 1 = .ok (.iload_n 1, 1) := by decide +kernel
theorem dX5_isAllowed_2 : decode cX5_isAllowed 2 = .ok (.invokevirtual 23, 3) := by decide +kernel
theorem dX5_isAllowed_5 : decode cX5_isAllowed 5 = .ok (.istore_n 2, 1) := by decide +kernel
theorem dX5_isAllowed_6 : decode cX5_isAllowed 6 = .ok (.iload_n 1, 1) := by decide +kernel
theorem dX5_isAllowed_7 : decode cX5_isAllowed 7 = .ok (.iconst 3, 1) := by decide +kernel
theorem dX5_isAllowed_8 : decode cX5_isAllowed 8 = .ok (.irem, 1) := by decide +kernel
theorem dX5_isAllowed_9 : decode cX5_isAllowed 9 = .ok (.iconst 2, 1) := by decide +kernel
theorem dX5_isAllowed_10 : decode cX5_isAllowed 10 = .ok (.if_icmp .ne 15, 3) := by decide +kernel
theorem dX5_isAllowed_13 : decode cX5_isAllowed 13 = .ok (.iload_n 2, 1) := by decide +kernel
theorem dX5_isAllowed_14 : decode cX5_isAllowed 14 = .ok (.bipush 44, 2) := by decide +kernel
theorem dX5_isAllowed_16 : decode cX5_isAllowed 16 = .ok (.if_icmp .ne 7, 3) := by decide +kernel
theorem dX5_isAllowed_19 : decode cX5_isAllowed 19 = .ok (.iconst 1, 1) := by decide +kernel
theorem dX5_isAllowed_20 : decode cX5_isAllowed 20 = .ok (.goto 4, 3) := by decide +kernel
theorem dX5_isAllowed_23 : decode cX5_isAllowed 23 = .ok (.iconst 0, 1) := by decide +kernel
theorem dX5_isAllowed_24 : decode cX5_isAllowed 24 = .ok (.ireturn, 1) := by decide +kernel
theorem dX5_isAllowed_25 : decode cX5_isAllowed 25 = .ok (.iload_n 2, 1) := by decide +kernel
theorem dX5_isAllowed_26 : decode cX5_isAllowed 26 = .ok (.bipush 48, 2) := by decide +kernel
theorem dX5_isAllowed_28 : decode cX5_isAllowed 28 = .ok (.if_icmp .lt 13, 3) := by decide +kernel
theorem dX5_isAllowed_31 : decode cX5_isAllowed 31 = .ok (.iload_n 2, 1) := by decide +kernel
theorem dX5_isAllowed_32 : decode cX5_isAllowed 32 = .ok (.bipush 57, 2) := by decide +kernel
theorem dX5_isAllowed_34 : decode cX5_isAllowed 34 = .ok (.if_icmp .gt 7, 3) := by decide +kernel
theorem dX5_isAllowed_37 : decode cX5_isAllowed 37 = .ok (.iconst 1, 1) := by decide +kernel
theorem dX5_isAllowed_38 : decode cX5_isAllowed 38 = .ok (.goto 4, 3) := by decide +kernel
theorem dX5_isAllowed_41 : decode cX5_isAllowed 41 = .ok (.iconst 0, 1) := by decide +kernel
theorem dX5_isAllowed_42 : decode cX5_isAllowed 42 = .ok (.ireturn, 1) := by decide +kernel
theorem dX5_at_0 : decode cX5_at 0 = .ok (.iload_n 1, 1) := by decide +kernel
theorem dX5_at_1 : decode cX5_at 1 = .ok (.ifCond .lt 21, 3) := by decide +kernel
theorem dX5_at_4 : decode cX5_at 4 = .ok (.iload_n 1, 1) := by decide +kernel
theorem dX5_at_5 : decode cX5_at 5 = .ok (.aload_n 0, 1) := by decide +kernel
theorem dX5_at_6 : decode cX5_at 6 = .ok (.getfield 9, 3) := by decide +kernel
theorem dX5_at_9 : decode cX5_at 9 = .ok (.arraylength, 1) := by decide +kernel
theorem dX5_at_10 : decode cX5_at 10 = .ok (.if_icmp .ge 12, 3) := by decide +kernel
theorem dX5_at_13 : decode cX5_at 13 = .ok (.aload_n 0, 1) := by decide +kernel
theorem dX5_at_14 : decode cX5_at 14 = .ok (.getfield 9, 3) := by decide +kernel
theorem dX5_at_17 : decode cX5_at 17 = .ok (.iload_n 1, 1) := by decide +kernel
theorem dX5_at_18 : decode cX5_at 18 = .ok (.caload, 1) := by decide +kernel
theorem dX5_at_19 : decode cX5_at 19 = .ok (.goto 5, 3) := by decide +kernel
theorem dX5_at_22 : decode cX5_at 22 = .ok (.bipush 32, 2) := by decide +kernel
theorem dX5_at_24 : decode cX5_at 24 = .ok (.ireturn, 1) := by decide +kernel
theorem dJ9_floorMod_7cf53_0 : decode cJ9_floorMod_7cf53 0 = .ok (.iload_n 0, 1) := by decide +kernel
theorem dJ9_floorMod_7cf53_1 : decode cJ9_floorMod_7cf53 1 = .ok (.iload_n 1, 1) := by decide +kernel
theorem dJ9_floorMod_7cf53_2 : decode cJ9_floorMod_7cf53 2 = .ok (.irem, 1) := by decide +kernel
theorem dJ9_floorMod_7cf53_3 : decode cJ9_floorMod_7cf53 3 = .ok (.istore_n 2, 1) := by decide +kernel
theorem dJ9_floorMod_7cf53_4 : decode cJ9_floorMod_7cf53 4 = .ok (.iload_n 0, 1) := by decide +kernel
theorem dJ9_floorMod_7cf53_5 : decode cJ9_floorMod_7cf53 5 = .ok (.iload_n 1, 1) := by decide +kernel
theorem dJ9_floorMod_7cf53_6 : decode cJ9_floorMod_7cf53 6 = .ok (.ixor, 1) := by decide +kernel
theorem dJ9_floorMod_7cf53_7 : decode cJ9_floorMod_7cf53 7 = .ok (.ifCond .ge 11, 3) := by decide +kernel
theorem dJ9_floorMod_7cf53_10 : decode cJ9_floorMod_7cf53 10 = .ok (.iload_n 2, 1) := by decide +kernel
theorem dJ9_floorMod_7cf53_11 : decode cJ9_floorMod_7cf53 11 = .ok (.ifCond .eq 7, 3) := by decide +kernel
theorem dJ9_floorMod_7cf53_14 : decode cJ9_floorMod_7cf53 14 = .ok (.iload_n 2, 1) := by decide +kernel
theorem dJ9_floorMod_7cf53_15 : decode cJ9_floorMod_7cf53 15 = .ok (.iload_n 1, 1) := by decide +kernel
theorem dJ9_floorMod_7cf53_16 : decode cJ9_floorMod_7cf53 16 = .ok (.iadd, 1) := by decide +kernel
theorem dJ9_floorMod_7cf53_17 : decode cJ9_floorMod_7cf53 17 = .ok (.ireturn, 1) := by decide +kernel
theorem dJ9_floorMod_7cf53_18 : decode cJ9_floorMod_7cf53 18 = .ok (.iload_n 2, 1) := by decide +kernel
theorem dJ9_floorMod_7cf53_19 : decode cJ9_floorMod_7cf53 19 = .ok (.ireturn, 1) := by decide +kernel
