theorem dX0_init_0 : decode cX0_init 0 = .ok (.aload_n 0, 1) := by decide +kernel
theorem dX0_init_1 : decode cX0_init 1 = .ok (.invokespecial 3, 3) := by decide +kernel
theorem dX0_init_4 : decode cX0_init 4 = .ok (.aload_n 0, 1) := by decide +kernel
theorem dX0_init_5 : decode cX0_init 5 = .ok (.bipush 100, 2) := by decide +kernel
theorem dX0_init_7 : decode cX0_init 7 = .ok (.newarray .int, 2) := by decide +kernel
theorem dX0_init_9 : decode cX0_init 9 = .ok (.putfield 9, 3) := by decide +kernel
theorem dX0_init_12 : decode cX0_init 12 = .ok (.aload_n 0, 1) := by decide +kernel
theorem dX0_init_13 : decode cX0_init 13 = .ok (.bipush 100, 2) := by decide +kernel
theorem dX0_init_15 : decode cX0_init 15 = .ok (.newarray .int, 2) := by decide +kernel
theorem dX0_init_17 : decode cX0_init 17 = .ok (.putfield 15, 3) := by decide +kernel
theorem dX0_init_20 : decode cX0_init 20 = .ok (.aload_n 0, 1) := by decide +kernel
theorem dX0_init_21 : decode cX0_init 21 = .ok (.bipush 100, 2) := by decide +kernel
theorem dX0_init_23 : decode cX0_init 23 = .ok (.newarray .int, 2) := by decide +kernel
theorem dX0_init_25 : decode cX0_init 25 = .ok (.putfield 18, 3) := by decide +kernel
theorem dX0_init_28 : decode cX0_init 28 = .ok (.aload_n 0, 1) := by decide +kernel
theorem dX0_init_29 : decode cX0_init 29 = .ok (.bipush 100, 2) := by decide +kernel
theorem dX0_init_31 : decode cX0_init 31 = .ok (.newarray .int, 2) := by decide +kernel
theorem dX0_init_33 : decode cX0_init 33 = .ok (.putfield 21, 3) := by decide +kernel
theorem dX0_init_36 : decode cX0_init 36 = .ok (.aload_n 0, 1) := by decide +kernel
theorem dX0_init_37 : decode cX0_init 37 = .ok (.sipush 600, 3) := by decide +kernel
theorem dX0_init_40 : decode cX0_init 40 = .ok (.newarray .int, 2) := by decide +kernel
theorem dX0_init_42 : decode cX0_init 42 = .ok (.putfield 24, 3) := by decide +kernel
theorem dX0_init_45 : decode cX0_init 45 = .ok (.aload_n 0, 1) := by decide +kernel
theorem dX0_init_46 : decode cX0_init 46 = .ok (.bipush 100, 2) := by decide +kernel
theorem dX0_init_48 : decode cX0_init 48 = .ok (.newarray .long, 2) := by decide +kernel
theorem dX0_init_50 : decode cX0_init 50 = .ok (.putfield 27, 3) := by decide +kernel
theorem dX0_init_53 : decode cX0_init 53 = .ok (.aload_n 0, 1) := by decide +kernel
theorem dX0_init_54 : decode cX0_init 54 = .ok (.bipush 100, 2) := by decide +kernel
theorem dX0_init_56 : decode cX0_init 56 = .ok (.newarray .long, 2) := by decide +kernel
theorem dX0_init_58 : decode cX0_init 58 = .ok (.putfield 31, 3) := by decide +kernel
theorem dX0_init_61 : decode cX0_init 61 = .ok (.return_, 1) := by decide +kernel
theorem dX0_spread_0 : decode cX0_spread 0 = .ok (.aload_n 1, 1) := by decide +kernel
theorem dX0_spread_1 : decode cX0_spread 1 = .ok (.aload_n 2, 1) := by decide +kernel
theorem dX0_spread_2 : decode cX0_spread 2 = .ok (.iload_n 3, 1) := by decide +kernel
theorem dX0_spread_3 : decode cX0_spread 3 = .ok (.invokevirtual 34, 3) := by decide +kernel
theorem dX0_spread_6 : decode cX0_spread 6 = .ok (.aload_n 0, 1) := by decide +kernel
theorem dX0_spread_7 : decode cX0_spread 7 = .ok (.getfield 15, 3) := by decide +kernel
theorem dX0_spread_10 : decode cX0_spread 10 = .ok (.iconst (-1), 1) := by decide +kernel
theorem dX0_spread_11 : decode cX0_spread 11 = .ok (.invokestatic 40, 3) := by decide +kernel
theorem dX0_spread_14 : decode cX0_spread 14 = .ok (.aload_n 0, 1) := by decide +kernel
theorem dX0_spread_15 : decode cX0_spread 15 = .ok (.iconst 0, 1) := by decide +kernel
theorem dX0_spread_16 : decode cX0_spread 16 = .ok (.putfield 46, 3) := by decide +kernel
theorem dX0_spread_19 : decode cX0_spread 19 = .ok (.aload_n 0, 1) := by decide +kernel
theorem dX0_spread_20 : decode cX0_spread 20 = .ok (.aload_n 2, 1) := by decide +kernel
theorem dX0_spread_21 : decode cX0_spread 21 = .ok (.iload_n 3, 1) := by decide +kernel
theorem dX0_spread_22 : decode cX0_spread 22 = .ok (.invokevirtual 50, 3) := by decide +kernel
theorem dX0_spread_25 : decode cX0_spread 25 = .ok (.iconst (-1), 1) := by decide +kernel
theorem dX0_spread_26 : decode cX0_spread 26 = .ok (.iconst (-1), 1) := by decide +kernel
theorem dX0_spread_27 : decode cX0_spread 27 = .ok (.invokevirtual 56, 3) := by decide +kernel
theorem dX0_spread_30 : decode cX0_spread 30 = .ok (.iconst 0, 1) := by decide +kernel
theorem dX0_spread_31 : decode cX0_spread 31 = .ok (.istore 4, 2) := by decide +kernel
theorem dX0_spread_33 : decode cX0_spread 33 = .ok (.iload 4, 2) := by decide +kernel
theorem dX0_spread_35 : decode cX0_spread 35 = .ok (.aload_n 0, 1) := by decide +kernel
theorem dX0_spread_36 : decode cX0_spread 36 = .ok (.getfield 46, 3) := by decide +kernel
theorem dX0_spread_39 : decode cX0_spread 39 = .ok (.if_icmp .ge 76, 3) := by decide +kernel
theorem dX0_spread_42 : decode cX0_spread 42 = .ok (.iload 4, 2) := by decide +kernel
theorem dX0_spread_44 : decode cX0_spread 44 = .ok (.bipush 100, 2) := by decide +kernel
theorem dX0_spread_46 : decode cX0_spread 46 = .ok (.if_icmp .ge 69, 3) := by decide +kernel
theorem dX0_spread_49 : decode cX0_spread 49 = .ok (.aload_n 0, 1) := by decide +kernel
theorem dX0_spread_50 : decode cX0_spread 50 = .ok (.getfield 9, 3) := by decide +kernel
theorem dX0_spread_53 : decode cX0_spread 53 = .ok (.iload 4, 2) := by decide +kernel
theorem dX0_spread_55 : decode cX0_spread 55 = .ok (.iaload, 1) := by decide +kernel
theorem dX0_spread_56 : decode cX0_spread 56 = .ok (.istore 5, 2) := by decide +kernel
theorem dX0_spread_58 : decode cX0_spread 58 = .ok (.iconst 0, 1) := by decide +kernel
theorem dX0_spread_59 : decode cX0_spread 59 = .ok (.istore 6, 2) := by decide +kernel
theorem dX0_spread_61 : decode cX0_spread 61 = .ok (.iload 6, 2) := by decide +kernel
theorem dX0_spread_63 : decode cX0_spread 63 = .ok (.bipush 6, 2) := by decide +kernel
theorem dX0_spread_65 : decode cX0_spread 65 = .ok (.if_icmp .ge 44, 3) := by decide +kernel
theorem dX0_spread_68 : decode cX0_spread 68 = .ok (.aload_n 1, 1) := by decide +kernel
theorem dX0_spread_69 : decode cX0_spread 69 = .ok (.iload 5, 2) := by decide +kernel
theorem dX0_spread_71 : decode cX0_spread 71 = .ok (.iload 6, 2) := by decide +kernel
theorem dX0_spread_73 : decode cX0_spread 73 = .ok (.invokevirtual 60, 3) := by decide +kernel
theorem dX0_spread_76 : decode cX0_spread 76 = .ok (.istore 7, 2) := by decide +kernel
theorem dX0_spread_78 : decode cX0_spread 78 = .ok (.aload_n 0, 1) := by decide +kernel
theorem dX0_spread_79 : decode cX0_spread 79 = .ok (.getfield 24, 3) := by decide +kernel
theorem dX0_spread_82 : decode cX0_spread 82 = .ok (.iload 5, 2) := by decide +kernel
theorem dX0_spread_84 : decode cX0_spread 84 = .ok (.bipush 6, 2) := by decide +kernel
theorem dX0_spread_86 : decode cX0_spread 86 = .ok (.imul, 1) := by decide +kernel
theorem dX0_spread_87 : decode cX0_spread 87 = .ok (.iload 6, 2) := by decide +kernel
theorem dX0_spread_89 : decode cX0_spread 89 = .ok (.iadd, 1) := by decide +kernel
theorem dX0_spread_90 : decode cX0_spread 90 = .ok (.iload 7, 2) := by decide +kernel
theorem dX0_spread_92 : decode cX0_spread 92 = .ok (.iastore, 1) := by decide +kernel
theorem dX0_spread_93 : decode cX0_spread 93 = .ok (.aload_n 0, 1) := by decide +kernel
theorem dX0_spread_94 : decode cX0_spread 94 = .ok (.iload 7, 2) := by decide +kernel
theorem dX0_spread_96 : decode cX0_spread 96 = .ok (.iload 5, 2) := by decide +kernel
theorem dX0_spread_98 : decode cX0_spread 98 = .ok (.iload 6, 2) := by decide +kernel
theorem dX0_spread_100 : decode cX0_spread 100 = .ok (.invokevirtual 56, 3) := by decide +kernel
theorem dX0_spread_103 : decode cX0_spread 103 = .ok (.iinc 6 1, 3) := by decide +kernel
theorem dX0_spread_106 : decode cX0_spread 106 = .ok (.goto (-45), 3) := by decide +kernel
theorem dX0_spread_109 : decode cX0_spread 109 = .ok (.iinc 4 1, 3) := by decide +kernel
theorem dX0_spread_112 : decode cX0_spread 112 = .ok (.goto (-79), 3) := by decide +kernel
theorem dX0_spread_115 : decode cX0_spread 115 = .ok (.return_, 1) := by decide +kernel
theorem dX0_meet_0 : decode cX0_meet 0 = .ok (.iload_n 1, 1) := by decide +kernel
theorem dX0_meet_1 : decode cX0_meet 1 = .ok (.bipush 100, 2) := by decide +kernel
theorem dX0_meet_3 : decode cX0_meet 3 = .ok (.invokestatic 64, 3) := by decide +kernel
theorem dX0_meet_6 : decode cX0_meet 6 = .ok (.ifCond .eq 25, 3) := by decide +kernel
theorem dX0_meet_9 : decode cX0_meet 9 = .ok (.aload_n 0, 1) := by decide +kernel
theorem dX0_meet_10 : decode cX0_meet 10 = .ok (.getfield 15, 3) := by decide +kernel
theorem dX0_meet_13 : decode cX0_meet 13 = .ok (.iload_n 1, 1) := by decide +kernel
theorem dX0_meet_14 : decode cX0_meet 14 = .ok (.iaload, 1) := by decide +kernel
theorem dX0_meet_15 : decode cX0_meet 15 = .ok (.iconst (-1), 1) := by decide +kernel
theorem dX0_meet_16 : decode cX0_meet 16 = .ok (.if_icmp .ne 15, 3) := by decide +kernel
theorem dX0_meet_19 : decode cX0_meet 19 = .ok (.aload_n 0, 1) := by decide +kernel
theorem dX0_meet_20 : decode cX0_meet 20 = .ok (.getfield 46, 3) := by decide +kernel
theorem dX0_meet_23 : decode cX0_meet 23 = .ok (.bipush 100, 2) := by decide +kernel
theorem dX0_meet_25 : decode cX0_meet 25 = .ok (.invokestatic 64, 3) := by decide +kernel
theorem dX0_meet_28 : decode cX0_meet 28 = .ok (.ifCond .ne 4, 3) := by decide +kernel
theorem dX0_meet_31 : decode cX0_meet 31 = .ok (.return_, 1) := by decide +kernel
theorem dX0_meet_32 : decode cX0_meet 32 = .ok (.aload_n 0, 1) := by decide +kernel
theorem dX0_meet_33 : decode cX0_meet 33 = .ok (.getfield 15, 3) := by decide +kernel
theorem dX0_meet_36 : decode cX0_meet 36 = .ok (.iload_n 1, 1) := by decide +kernel
theorem dX0_meet_37 : decode cX0_meet 37 = .ok (.iload_n 2, 1) := by decide +kernel
theorem dX0_meet_38 : decode cX0_meet 38 = .ok (.bipush 100, 2) := by decide +kernel
theorem dX0_meet_40 : decode cX0_meet 40 = .ok (.invokestatic 64, 3) := by decide +kernel
theorem dX0_meet_43 : decode cX0_meet 43 = .ok (.ifCond .eq 14, 3) := by decide +kernel
theorem dX0_meet_46 : decode cX0_meet 46 = .ok (.aload_n 0, 1) := by decide +kernel
theorem dX0_meet_47 : decode cX0_meet 47 = .ok (.getfield 15, 3) := by decide +kernel
theorem dX0_meet_50 : decode cX0_meet 50 = .ok (.iload_n 2, 1) := by decide +kernel
theorem dX0_meet_51 : decode cX0_meet 51 = .ok (.iaload, 1) := by decide +kernel
theorem dX0_meet_52 : decode cX0_meet 52 = .ok (.iconst 1, 1) := by decide +kernel
theorem dX0_meet_53 : decode cX0_meet 53 = .ok (.iadd, 1) := by decide +kernel
theorem dX0_meet_54 : decode cX0_meet 54 = .ok (.goto 4, 3) := by decide +kernel
theorem dX0_meet_57 : decode cX0_meet 57 = .ok (.iconst 0, 1) := by decide +kernel
theorem dX0_meet_58 : decode cX0_meet 58 = .ok (.iastore, 1) := by decide +kernel
theorem dX0_meet_59 : decode cX0_meet 59 = .ok (.aload_n 0, 1) := by decide +kernel
theorem dX0_meet_60 : decode cX0_meet 60 = .ok (.getfield 18, 3) := by decide +kernel
theorem dX0_meet_63 : decode cX0_meet 63 = .ok (.iload_n 1, 1) := by decide +kernel
theorem dX0_meet_64 : decode cX0_meet 64 = .ok (.iload_n 2, 1) := by decide +kernel
theorem dX0_meet_65 : decode cX0_meet 65 = .ok (.iastore, 1) := by decide +kernel
theorem dX0_meet_66 : decode cX0_meet 66 = .ok (.aload_n 0, 1) := by decide +kernel
theorem dX0_meet_67 : decode cX0_meet 67 = .ok (.getfield 21, 3) := by decide +kernel
theorem dX0_meet_70 : decode cX0_meet 70 = .ok (.iload_n 1, 1) := by decide +kernel
theorem dX0_meet_71 : decode cX0_meet 71 = .ok (.iload_n 3, 1) := by decide +kernel
theorem dX0_meet_72 : decode cX0_meet 72 = .ok (.iastore, 1) := by decide +kernel
theorem dX0_meet_73 : decode cX0_meet 73 = .ok (.aload_n 0, 1) := by decide +kernel
theorem dX0_meet_74 : decode cX0_meet 74 = .ok (.getfield 9, 3) := by decide +kernel
theorem dX0_meet_77 : decode cX0_meet 77 = .ok (.aload_n 0, 1) := by decide +kernel
theorem dX0_meet_78 : decode cX0_meet 78 = .ok (.getfield 46, 3) := by decide +kernel
theorem dX0_meet_81 : decode cX0_meet 81 = .ok (.iload_n 1, 1) := by decide +kernel
theorem dX0_meet_82 : decode cX0_meet 82 = .ok (.iastore, 1) := by decide +kernel
theorem dX0_meet_83 : decode cX0_meet 83 = .ok (.aload_n 0, 1) := by decide +kernel
theorem dX0_meet_84 : decode cX0_meet 84 = .ok (.dup, 1) := by decide +kernel
theorem dX0_meet_85 : decode cX0_meet 85 = .ok (.getfield 46, 3) := by decide +kernel
theorem dX0_meet_88 : decode cX0_meet 88 = .ok (.iconst 1, 1) := by decide +kernel
theorem dX0_meet_89 : decode cX0_meet 89 = .ok (.iadd, 1) := by decide +kernel
theorem dX0_meet_90 : decode cX0_meet 90 = .ok (.putfield 46, 3) := by decide +kernel
theorem dX0_meet_93 : decode cX0_meet 93 = .ok (.return_, 1) := by decide +kernel
theorem dX0_first_0 : decode cX0_first 0 = .ok (.iconst 0, 1) := by decide +kernel
theorem dX0_first_1 : decode cX0_first 1 = .ok (.istore_n 3, 1) := by decide +kernel
theorem dX0_first_2 : decode cX0_first 2 = .ok (.iload_n 3, 1) := by decide +kernel
theorem dX0_first_3 : decode cX0_first 3 = .ok (.aload_n 0, 1) := by decide +kernel
theorem dX0_first_4 : decode cX0_first 4 = .ok (.getfield 46, 3) := by decide +kernel
theorem dX0_first_7 : decode cX0_first 7 = .ok (.if_icmp .ge 36, 3) := by decide +kernel
theorem dX0_first_10 : decode cX0_first 10 = .ok (.iload_n 3, 1) := by decide +kernel
theorem dX0_first_11 : decode cX0_first 11 = .ok (.bipush 100, 2) := by decide +kernel
theorem dX0_first_13 : decode cX0_first 13 = .ok (.if_icmp .ge 30, 3) := by decide +kernel
theorem dX0_first_16 : decode cX0_first 16 = .ok (.aload_n 1, 1) := by decide +kernel
theorem dX0_first_17 : decode cX0_first 17 = .ok (.aload_n 0, 1) := by decide +kernel
theorem dX0_first_18 : decode cX0_first 18 = .ok (.getfield 9, 3) := by decide +kernel
theorem dX0_first_21 : decode cX0_first 21 = .ok (.iload_n 3, 1) := by decide +kernel
theorem dX0_first_22 : decode cX0_first 22 = .ok (.iaload, 1) := by decide +kernel
theorem dX0_first_23 : decode cX0_first 23 = .ok (.invokevirtual 68, 3) := by decide +kernel
theorem dX0_first_26 : decode cX0_first 26 = .ok (.iload_n 2, 1) := by decide +kernel
theorem dX0_first_27 : decode cX0_first 27 = .ok (.if_icmp .lt 10, 3) := by decide +kernel
theorem dX0_first_30 : decode cX0_first 30 = .ok (.aload_n 0, 1) := by decide +kernel
theorem dX0_first_31 : decode cX0_first 31 = .ok (.getfield 9, 3) := by decide +kernel
theorem dX0_first_34 : decode cX0_first 34 = .ok (.iload_n 3, 1) := by decide +kernel
theorem dX0_first_35 : decode cX0_first 35 = .ok (.iaload, 1) := by decide +kernel
theorem dX0_first_36 : decode cX0_first 36 = .ok (.ireturn, 1) := by decide +kernel
theorem dX0_first_37 : decode cX0_first 37 = .ok (.iinc 3 1, 3) := by decide +kernel
theorem dX0_first_40 : decode cX0_first 40 = .ok (.goto (-38), 3) := by decide +kernel
theorem dX0_first_43 : decode cX0_first 43 = .ok (.iconst (-1), 1) := by decide +kernel
theorem dX0_first_44 : decode cX0_first 44 = .ok (.ireturn, 1) := by decide +kernel
theorem dX0_wordsTo_0 : decode cX0_wordsTo 0 = .ok (.iload_n 1, 1) := by decide +kernel
theorem dX0_wordsTo_1 : decode cX0_wordsTo 1 = .ok (.bipush 100, 2) := by decide +kernel
theorem dX0_wordsTo_3 : decode cX0_wordsTo 3 = .ok (.invokestatic 64, 3) := by decide +kernel
theorem dX0_wordsTo_6 : decode cX0_wordsTo 6 = .ok (.ifCond .eq 12, 3) := by decide +kernel
theorem dX0_wordsTo_9 : decode cX0_wordsTo 9 = .ok (.aload_n 0, 1) := by decide +kernel
theorem dX0_wordsTo_10 : decode cX0_wordsTo 10 = .ok (.getfield 15, 3) := by decide +kernel
theorem dX0_wordsTo_13 : decode cX0_wordsTo 13 = .ok (.iload_n 1, 1) := by decide +kernel
theorem dX0_wordsTo_14 : decode cX0_wordsTo 14 = .ok (.iaload, 1) := by decide +kernel
theorem dX0_wordsTo_15 : decode cX0_wordsTo 15 = .ok (.goto 4, 3) := by decide +kernel
theorem dX0_wordsTo_18 : decode cX0_wordsTo 18 = .ok (.iconst (-1), 1) := by decide +kernel
theorem dX0_wordsTo_19 : decode cX0_wordsTo 19 = .ok (.ireturn, 1) := by decide +kernel
theorem dX0_rowTo_0 : decode cX0_rowTo 0 = .ok (.aload_n 0, 1) := by decide +kernel
theorem dX0_rowTo_1 : decode cX0_rowTo 1 = .ok (.iload_n 1, 1) := by decide +kernel
theorem dX0_rowTo_2 : decode cX0_rowTo 2 = .ok (.invokevirtual 71, 3) := by decide +kernel
theorem dX0_rowTo_5 : decode cX0_rowTo 5 = .ok (.istore_n 2, 1) := by decide +kernel
theorem dX0_rowTo_6 : decode cX0_rowTo 6 = .ok (.iload_n 2, 1) := by decide +kernel
theorem dX0_rowTo_7 : decode cX0_rowTo 7 = .ok (.iconst (-1), 1) := by decide +kernel
theorem dX0_rowTo_8 : decode cX0_rowTo 8 = .ok (.if_icmp .eq 9, 3) := by decide +kernel
theorem dX0_rowTo_11 : decode cX0_rowTo 11 = .ok (.iload_n 2, 1) := by decide +kernel
theorem dX0_rowTo_12 : decode cX0_rowTo 12 = .ok (.bipush 9, 2) := by decide +kernel
theorem dX0_rowTo_14 : decode cX0_rowTo 14 = .ok (.if_icmp .le 5, 3) := by decide +kernel
theorem dX0_rowTo_17 : decode cX0_rowTo 17 = .ok (.iconst (-1), 1) := by decide +kernel
theorem dX0_rowTo_18 : decode cX0_rowTo 18 = .ok (.ireturn, 1) := by decide +kernel
theorem dX0_rowTo_19 : decode cX0_rowTo 19 = .ok (.iconst 0, 1) := by decide +kernel
theorem dX0_rowTo_20 : decode cX0_rowTo 20 = .ok (.istore_n 3, 1) := by decide +kernel
theorem dX0_rowTo_21 : decode cX0_rowTo 21 = .ok (.iconst 1, 1) := by decide +kernel
theorem dX0_rowTo_22 : decode cX0_rowTo 22 = .ok (.istore 4, 2) := by decide +kernel
theorem dX0_rowTo_24 : decode cX0_rowTo 24 = .ok (.iload_n 1, 1) := by decide +kernel
theorem dX0_rowTo_25 : decode cX0_rowTo 25 = .ok (.istore 5, 2) := by decide +kernel
theorem dX0_rowTo_27 : decode cX0_rowTo 27 = .ok (.iconst 0, 1) := by decide +kernel
theorem dX0_rowTo_28 : decode cX0_rowTo 28 = .ok (.istore 6, 2) := by decide +kernel
theorem dX0_rowTo_30 : decode cX0_rowTo 30 = .ok (.iload 6, 2) := by decide +kernel
theorem dX0_rowTo_32 : decode cX0_rowTo 32 = .ok (.iload_n 2, 1) := by decide +kernel
theorem dX0_rowTo_33 : decode cX0_rowTo 33 = .ok (.if_icmp .ge 50, 3) := by decide +kernel
theorem dX0_rowTo_36 : decode cX0_rowTo 36 = .ok (.iload 5, 2) := by decide +kernel
theorem dX0_rowTo_38 : decode cX0_rowTo 38 = .ok (.bipush 100, 2) := by decide +kernel
theorem dX0_rowTo_40 : decode cX0_rowTo 40 = .ok (.invokestatic 64, 3) := by decide +kernel
theorem dX0_rowTo_43 : decode cX0_rowTo 43 = .ok (.ifCond .eq 40, 3) := by decide +kernel
theorem dX0_rowTo_46 : decode cX0_rowTo 46 = .ok (.iload_n 3, 1) := by decide +kernel
theorem dX0_rowTo_47 : decode cX0_rowTo 47 = .ok (.aload_n 0, 1) := by decide +kernel
theorem dX0_rowTo_48 : decode cX0_rowTo 48 = .ok (.getfield 21, 3) := by decide +kernel
theorem dX0_rowTo_51 : decode cX0_rowTo 51 = .ok (.iload 5, 2) := by decide +kernel
theorem dX0_rowTo_53 : decode cX0_rowTo 53 = .ok (.iaload, 1) := by decide +kernel
theorem dX0_rowTo_54 : decode cX0_rowTo 54 = .ok (.iconst 1, 1) := by decide +kernel
theorem dX0_rowTo_55 : decode cX0_rowTo 55 = .ok (.iadd, 1) := by decide +kernel
theorem dX0_rowTo_56 : decode cX0_rowTo 56 = .ok (.iload 4, 2) := by decide +kernel
theorem dX0_rowTo_58 : decode cX0_rowTo 58 = .ok (.imul, 1) := by decide +kernel
theorem dX0_rowTo_59 : decode cX0_rowTo 59 = .ok (.iadd, 1) := by decide +kernel
theorem dX0_rowTo_60 : decode cX0_rowTo 60 = .ok (.istore_n 3, 1) := by decide +kernel
theorem dX0_rowTo_61 : decode cX0_rowTo 61 = .ok (.iload 4, 2) := by decide +kernel
theorem dX0_rowTo_63 : decode cX0_rowTo 63 = .ok (.bipush 10, 2) := by decide +kernel
theorem dX0_rowTo_65 : decode cX0_rowTo 65 = .ok (.imul, 1) := by decide +kernel
theorem dX0_rowTo_66 : decode cX0_rowTo 66 = .ok (.istore 4, 2) := by decide +kernel
theorem dX0_rowTo_68 : decode cX0_rowTo 68 = .ok (.aload_n 0, 1) := by decide +kernel
theorem dX0_rowTo_69 : decode cX0_rowTo 69 = .ok (.getfield 18, 3) := by decide +kernel
theorem dX0_rowTo_72 : decode cX0_rowTo 72 = .ok (.iload 5, 2) := by decide +kernel
theorem dX0_rowTo_74 : decode cX0_rowTo 74 = .ok (.iaload, 1) := by decide +kernel
theorem dX0_rowTo_75 : decode cX0_rowTo 75 = .ok (.istore 5, 2) := by decide +kernel
theorem dX0_rowTo_77 : decode cX0_rowTo 77 = .ok (.iinc 6 1, 3) := by decide +kernel
theorem dX0_rowTo_80 : decode cX0_rowTo 80 = .ok (.goto (-50), 3) := by decide +kernel
theorem dX0_rowTo_83 : decode cX0_rowTo 83 = .ok (.iload_n 3, 1) := by decide +kernel
theorem dX0_rowTo_84 : decode cX0_rowTo 84 = .ok (.ireturn, 1) := by decide +kernel
theorem dX0_least_0 : decode cX0_least 0 = .ok (.bipush 100, 2) := by decide +kernel
theorem dX0_least_2 : decode cX0_least 2 = .ok (.istore_n 1, 1) := by decide +kernel
theorem dX0_least_3 : decode cX0_least 3 = .ok (.iconst 0, 1) := by decide +kernel
theorem dX0_least_4 : decode cX0_least 4 = .ok (.istore_n 2, 1) := by decide +kernel
theorem dX0_least_5 : decode cX0_least 5 = .ok (.iload_n 2, 1) := by decide +kernel
theorem dX0_least_6 : decode cX0_least 6 = .ok (.aload_n 0, 1) := by decide +kernel
theorem dX0_least_7 : decode cX0_least 7 = .ok (.getfield 46, 3) := by decide +kernel
theorem dX0_least_10 : decode cX0_least 10 = .ok (.if_icmp .ge 26, 3) := by decide +kernel
theorem dX0_least_13 : decode cX0_least 13 = .ok (.iload_n 2, 1) := by decide +kernel
theorem dX0_least_14 : decode cX0_least 14 = .ok (.bipush 100, 2) := by decide +kernel
theorem dX0_least_16 : decode cX0_least 16 = .ok (.if_icmp .ge 20, 3) := by decide +kernel
theorem dX0_least_19 : decode cX0_least 19 = .ok (.iload_n 1, 1) := by decide +kernel
theorem dX0_least_20 : decode cX0_least 20 = .ok (.aload_n 0, 1) := by decide +kernel
theorem dX0_least_21 : decode cX0_least 21 = .ok (.getfield 9, 3) := by decide +kernel
theorem dX0_least_24 : decode cX0_least 24 = .ok (.iload_n 2, 1) := by decide +kernel
theorem dX0_least_25 : decode cX0_least 25 = .ok (.iaload, 1) := by decide +kernel
theorem dX0_least_26 : decode cX0_least 26 = .ok (.invokestatic 74, 3) := by decide +kernel
theorem dX0_least_29 : decode cX0_least 29 = .ok (.istore_n 1, 1) := by decide +kernel
theorem dX0_least_30 : decode cX0_least 30 = .ok (.iinc 2 1, 3) := by decide +kernel
theorem dX0_least_33 : decode cX0_least 33 = .ok (.goto (-28), 3) := by decide +kernel
theorem dX0_least_36 : decode cX0_least 36 = .ok (.iload_n 1, 1) := by decide +kernel
theorem dX0_least_37 : decode cX0_least 37 = .ok (.ireturn, 1) := by decide +kernel
theorem dX0_most_0 : decode cX0_most 0 = .ok (.iconst 0, 1) := by decide +kernel
theorem dX0_most_1 : decode cX0_most 1 = .ok (.istore_n 1, 1) := by decide +kernel
theorem dX0_most_2 : decode cX0_most 2 = .ok (.iconst 0, 1) := by decide +kernel
theorem dX0_most_3 : decode cX0_most 3 = .ok (.istore_n 2, 1) := by decide +kernel
theorem dX0_most_4 : decode cX0_most 4 = .ok (.iload_n 2, 1) := by decide +kernel
theorem dX0_most_5 : decode cX0_most 5 = .ok (.aload_n 0, 1) := by decide +kernel
theorem dX0_most_6 : decode cX0_most 6 = .ok (.getfield 46, 3) := by decide +kernel
theorem dX0_most_9 : decode cX0_most 9 = .ok (.if_icmp .ge 26, 3) := by decide +kernel
theorem dX0_most_12 : decode cX0_most 12 = .ok (.iload_n 2, 1) := by decide +kernel
theorem dX0_most_13 : decode cX0_most 13 = .ok (.bipush 100, 2) := by decide +kernel
theorem dX0_most_15 : decode cX0_most 15 = .ok (.if_icmp .ge 20, 3) := by decide +kernel
theorem dX0_most_18 : decode cX0_most 18 = .ok (.iload_n 1, 1) := by decide +kernel
theorem dX0_most_19 : decode cX0_most 19 = .ok (.aload_n 0, 1) := by decide +kernel
theorem dX0_most_20 : decode cX0_most 20 = .ok (.getfield 9, 3) := by decide +kernel
theorem dX0_most_23 : decode cX0_most 23 = .ok (.iload_n 2, 1) := by decide +kernel
theorem dX0_most_24 : decode cX0_most 24 = .ok (.iaload, 1) := by decide +kernel
theorem dX0_most_25 : decode cX0_most 25 = .ok (.invokestatic 79, 3) := by decide +kernel
theorem dX0_most_28 : decode cX0_most 28 = .ok (.istore_n 1, 1) := by decide +kernel
theorem dX0_most_29 : decode cX0_most 29 = .ok (.iinc 2 1, 3) := by decide +kernel
theorem dX0_most_32 : decode cX0_most 32 = .ok (.goto (-28), 3) := by decide +kernel
theorem dX0_most_35 : decode cX0_most 35 = .ok (.iload_n 1, 1) := by decide +kernel
theorem dX0_most_36 : decode cX0_most 36 = .ok (.ireturn, 1) := by decide +kernel
theorem dX0_furthest_0 : decode cX0_furthest 0 = .ok (.iconst 0, 1) := by decide +kernel
theorem dX0_furthest_1 : decode cX0_furthest 1 = .ok (.istore_n 2, 1) := by decide +kernel
theorem dX0_furthest_2 : decode cX0_furthest 2 = .ok (.iconst 0, 1) := by decide +kernel
theorem dX0_furthest_3 : decode cX0_furthest 3 = .ok (.istore_n 3, 1) := by decide +kernel
theorem dX0_furthest_4 : decode cX0_furthest 4 = .ok (.iload_n 3, 1) := by decide +kernel
theorem dX0_furthest_5 : decode cX0_furthest 5 = .ok (.aload_n 0, 1) := by decide +kernel
theorem dX0_furthest_6 : decode cX0_furthest 6 = .ok (.getfield 46, 3) := by decide +kernel
theorem dX0_furthest_9 : decode cX0_furthest 9 = .ok (.if_icmp .ge 30, 3) := by decide +kernel
theorem dX0_furthest_12 : decode cX0_furthest 12 = .ok (.iload_n 3, 1) := by decide +kernel
theorem dX0_furthest_13 : decode cX0_furthest 13 = .ok (.bipush 100, 2) := by decide +kernel
theorem dX0_furthest_15 : decode cX0_furthest 15 = .ok (.if_icmp .ge 24, 3) := by decide +kernel
theorem dX0_furthest_18 : decode cX0_furthest 18 = .ok (.iload_n 2, 1) := by decide +kernel
theorem dX0_furthest_19 : decode cX0_furthest 19 = .ok (.aload_n 1, 1) := by decide +kernel
theorem dX0_furthest_20 : decode cX0_furthest 20 = .ok (.aload_n 0, 1) := by decide +kernel
theorem dX0_furthest_21 : decode cX0_furthest 21 = .ok (.getfield 9, 3) := by decide +kernel
theorem dX0_furthest_24 : decode cX0_furthest 24 = .ok (.iload_n 3, 1) := by decide +kernel
theorem dX0_furthest_25 : decode cX0_furthest 25 = .ok (.iaload, 1) := by decide +kernel
theorem dX0_furthest_26 : decode cX0_furthest 26 = .ok (.invokevirtual 68, 3) := by decide +kernel
theorem dX0_furthest_29 : decode cX0_furthest 29 = .ok (.invokestatic 79, 3) := by decide +kernel
theorem dX0_furthest_32 : decode cX0_furthest 32 = .ok (.istore_n 2, 1) := by decide +kernel
theorem dX0_furthest_33 : decode cX0_furthest 33 = .ok (.iinc 3 1, 3) := by decide +kernel
theorem dX0_furthest_36 : decode cX0_furthest 36 = .ok (.goto (-32), 3) := by decide +kernel
theorem dX0_furthest_39 : decode cX0_furthest 39 = .ok (.iload_n 2, 1) := by decide +kernel
theorem dX0_furthest_40 : decode cX0_furthest 40 = .ok (.ireturn, 1) := by decide +kernel
theorem dX0_rowsTo_0 : decode cX0_rowsTo 0 = .ok (.aload_n 0, 1) := by decide +kernel
theorem dX0_rowsTo_1 : decode cX0_rowsTo 1 = .ok (.getfield 27, 3) := by decide +kernel
theorem dX0_rowsTo_4 : decode cX0_rowsTo 4 = .ok (.lconst 0, 1) := by decide +kernel
theorem dX0_rowsTo_5 : decode cX0_rowsTo 5 = .ok (.invokestatic 82, 3) := by decide +kernel
theorem dX0_rowsTo_8 : decode cX0_rowsTo 8 = .ok (.aload_n 0, 1) := by decide +kernel
theorem dX0_rowsTo_9 : decode cX0_rowsTo 9 = .ok (.getfield 27, 3) := by decide +kernel
theorem dX0_rowsTo_12 : decode cX0_rowsTo 12 = .ok (.aload_n 0, 1) := by decide +kernel
theorem dX0_rowsTo_13 : decode cX0_rowsTo 13 = .ok (.getfield 9, 3) := by decide +kernel
theorem dX0_rowsTo_16 : decode cX0_rowsTo 16 = .ok (.iconst 0, 1) := by decide +kernel
theorem dX0_rowsTo_17 : decode cX0_rowsTo 17 = .ok (.iaload, 1) := by decide +kernel
theorem dX0_rowsTo_18 : decode cX0_rowsTo 18 = .ok (.lconst 1, 1) := by decide +kernel
theorem dX0_rowsTo_19 : decode cX0_rowsTo 19 = .ok (.lastore, 1) := by decide +kernel
theorem dX0_rowsTo_20 : decode cX0_rowsTo 20 = .ok (.iconst 0, 1) := by decide +kernel
theorem dX0_rowsTo_21 : decode cX0_rowsTo 21 = .ok (.istore 4, 2) := by decide +kernel
theorem dX0_rowsTo_23 : decode cX0_rowsTo 23 = .ok (.iload 4, 2) := by decide +kernel
theorem dX0_rowsTo_25 : decode cX0_rowsTo 25 = .ok (.iload_n 3, 1) := by decide +kernel
theorem dX0_rowsTo_26 : decode cX0_rowsTo 26 = .ok (.if_icmp .ge 13, 3) := by decide +kernel
theorem dX0_rowsTo_29 : decode cX0_rowsTo 29 = .ok (.aload_n 0, 1) := by decide +kernel
theorem dX0_rowsTo_30 : decode cX0_rowsTo 30 = .ok (.invokevirtual 85, 3) := by decide +kernel
theorem dX0_rowsTo_33 : decode cX0_rowsTo 33 = .ok (.iinc 4 1, 3) := by decide +kernel
theorem dX0_rowsTo_36 : decode cX0_rowsTo 36 = .ok (.goto (-13), 3) := by decide +kernel
theorem dX0_rowsTo_39 : decode cX0_rowsTo 39 = .ok (.lconst 0, 1) := by decide +kernel
theorem dX0_rowsTo_40 : decode cX0_rowsTo 40 = .ok (.lstore 4, 2) := by decide +kernel
theorem dX0_rowsTo_42 : decode cX0_rowsTo 42 = .ok (.iconst 0, 1) := by decide +kernel
theorem dX0_rowsTo_43 : decode cX0_rowsTo 43 = .ok (.istore 6, 2) := by decide +kernel
theorem dX0_rowsTo_45 : decode cX0_rowsTo 45 = .ok (.iload 6, 2) := by decide +kernel
theorem dX0_rowsTo_47 : decode cX0_rowsTo 47 = .ok (.aload_n 0, 1) := by decide +kernel
theorem dX0_rowsTo_48 : decode cX0_rowsTo 48 = .ok (.getfield 46, 3) := by decide +kernel
theorem dX0_rowsTo_51 : decode cX0_rowsTo 51 = .ok (.if_icmp .ge 52, 3) := by decide +kernel
theorem dX0_rowsTo_54 : decode cX0_rowsTo 54 = .ok (.iload 6, 2) := by decide +kernel
theorem dX0_rowsTo_56 : decode cX0_rowsTo 56 = .ok (.bipush 100, 2) := by decide +kernel
theorem dX0_rowsTo_58 : decode cX0_rowsTo 58 = .ok (.if_icmp .ge 45, 3) := by decide +kernel
theorem dX0_rowsTo_61 : decode cX0_rowsTo 61 = .ok (.lload 4, 2) := by decide +kernel
theorem dX0_rowsTo_63 : decode cX0_rowsTo 63 = .ok (.aload_n 1, 1) := by decide +kernel
theorem dX0_rowsTo_64 : decode cX0_rowsTo 64 = .ok (.aload_n 0, 1) := by decide +kernel
theorem dX0_rowsTo_65 : decode cX0_rowsTo 65 = .ok (.getfield 9, 3) := by decide +kernel
theorem dX0_rowsTo_68 : decode cX0_rowsTo 68 = .ok (.iload 6, 2) := by decide +kernel
theorem dX0_rowsTo_70 : decode cX0_rowsTo 70 = .ok (.iaload, 1) := by decide +kernel
theorem dX0_rowsTo_71 : decode cX0_rowsTo 71 = .ok (.invokevirtual 68, 3) := by decide +kernel
theorem dX0_rowsTo_74 : decode cX0_rowsTo 74 = .ok (.iload_n 2, 1) := by decide +kernel
theorem dX0_rowsTo_75 : decode cX0_rowsTo 75 = .ok (.if_icmp .lt 18, 3) := by decide +kernel
theorem dX0_rowsTo_78 : decode cX0_rowsTo 78 = .ok (.aload_n 0, 1) := by decide +kernel
theorem dX0_rowsTo_79 : decode cX0_rowsTo 79 = .ok (.getfield 27, 3) := by decide +kernel
theorem dX0_rowsTo_82 : decode cX0_rowsTo 82 = .ok (.aload_n 0, 1) := by decide +kernel
theorem dX0_rowsTo_83 : decode cX0_rowsTo 83 = .ok (.getfield 9, 3) := by decide +kernel
theorem dX0_rowsTo_86 : decode cX0_rowsTo 86 = .ok (.iload 6, 2) := by decide +kernel
theorem dX0_rowsTo_88 : decode cX0_rowsTo 88 = .ok (.iaload, 1) := by decide +kernel
theorem dX0_rowsTo_89 : decode cX0_rowsTo 89 = .ok (.laload, 1) := by decide +kernel
theorem dX0_rowsTo_90 : decode cX0_rowsTo 90 = .ok (.goto 4, 3) := by decide +kernel
theorem dX0_rowsTo_93 : decode cX0_rowsTo 93 = .ok (.lconst 0, 1) := by decide +kernel
theorem dX0_rowsTo_94 : decode cX0_rowsTo 94 = .ok (.ladd, 1) := by decide +kernel
theorem dX0_rowsTo_95 : decode cX0_rowsTo 95 = .ok (.lstore 4, 2) := by decide +kernel
theorem dX0_rowsTo_97 : decode cX0_rowsTo 97 = .ok (.iinc 6 1, 3) := by decide +kernel
theorem dX0_rowsTo_100 : decode cX0_rowsTo 100 = .ok (.goto (-55), 3) := by decide +kernel
theorem dX0_rowsTo_103 : decode cX0_rowsTo 103 = .ok (.lload 4, 2) := by decide +kernel
theorem dX0_rowsTo_105 : decode cX0_rowsTo 105 = .ok (.lreturn, 1) := by decide +kernel
theorem dX0_sayOneMore_0 : decode cX0_sayOneMore 0 = .ok (.aload_n 0, 1) := by decide +kernel
theorem dX0_sayOneMore_1 : decode cX0_sayOneMore 1 = .ok (.getfield 31, 3) := by decide +kernel
theorem dX0_sayOneMore_4 : decode cX0_sayOneMore 4 = .ok (.lconst 0, 1) := by decide +kernel
theorem dX0_sayOneMore_5 : decode cX0_sayOneMore 5 = .ok (.invokestatic 82, 3) := by decide +kernel
theorem dX0_sayOneMore_8 : decode cX0_sayOneMore 8 = .ok (.iconst 0, 1) := by decide +kernel
theorem dX0_sayOneMore_9 : decode cX0_sayOneMore 9 = .ok (.istore_n 1, 1) := by decide +kernel
theorem dX0_sayOneMore_10 : decode cX0_sayOneMore 10 = .ok (.iload_n 1, 1) := by decide +kernel
theorem dX0_sayOneMore_11 : decode cX0_sayOneMore 11 = .ok (.aload_n 0, 1) := by decide +kernel
theorem dX0_sayOneMore_12 : decode cX0_sayOneMore 12 = .ok (.getfield 46, 3) := by decide +kernel
theorem dX0_sayOneMore_15 : decode cX0_sayOneMore 15 = .ok (.if_icmp .ge 75, 3) := by decide +kernel
theorem dX0_sayOneMore_18 : decode cX0_sayOneMore 18 = .ok (.iload_n 1, 1) := by decide +kernel
theorem dX0_sayOneMore_19 : decode cX0_sayOneMore 19 = .ok (.bipush 100, 2) := by decide +kernel
theorem dX0_sayOneMore_21 : decode cX0_sayOneMore 21 = .ok (.if_icmp .ge 69, 3) := by decide +kernel
theorem dX0_sayOneMore_24 : decode cX0_sayOneMore 24 = .ok (.aload_n 0, 1) := by decide +kernel
theorem dX0_sayOneMore_25 : decode cX0_sayOneMore 25 = .ok (.getfield 9, 3) := by decide +kernel
theorem dX0_sayOneMore_28 : decode cX0_sayOneMore 28 = .ok (.iload_n 1, 1) := by decide +kernel
theorem dX0_sayOneMore_29 : decode cX0_sayOneMore 29 = .ok (.iaload, 1) := by decide +kernel
theorem dX0_sayOneMore_30 : decode cX0_sayOneMore 30 = .ok (.istore_n 2, 1) := by decide +kernel
theorem dX0_sayOneMore_31 : decode cX0_sayOneMore 31 = .ok (.iconst 0, 1) := by decide +kernel
theorem dX0_sayOneMore_32 : decode cX0_sayOneMore 32 = .ok (.istore_n 3, 1) := by decide +kernel
theorem dX0_sayOneMore_33 : decode cX0_sayOneMore 33 = .ok (.iload_n 3, 1) := by decide +kernel
theorem dX0_sayOneMore_34 : decode cX0_sayOneMore 34 = .ok (.bipush 6, 2) := by decide +kernel
theorem dX0_sayOneMore_36 : decode cX0_sayOneMore 36 = .ok (.if_icmp .ge 48, 3) := by decide +kernel
theorem dX0_sayOneMore_39 : decode cX0_sayOneMore 39 = .ok (.aload_n 0, 1) := by decide +kernel
theorem dX0_sayOneMore_40 : decode cX0_sayOneMore 40 = .ok (.getfield 24, 3) := by decide +kernel
theorem dX0_sayOneMore_43 : decode cX0_sayOneMore 43 = .ok (.iload_n 2, 1) := by decide +kernel
theorem dX0_sayOneMore_44 : decode cX0_sayOneMore 44 = .ok (.bipush 6, 2) := by decide +kernel
theorem dX0_sayOneMore_46 : decode cX0_sayOneMore 46 = .ok (.imul, 1) := by decide +kernel
theorem dX0_sayOneMore_47 : decode cX0_sayOneMore 47 = .ok (.iload_n 3, 1) := by decide +kernel
theorem dX0_sayOneMore_48 : decode cX0_sayOneMore 48 = .ok (.iadd, 1) := by decide +kernel
theorem dX0_sayOneMore_49 : decode cX0_sayOneMore 49 = .ok (.iaload, 1) := by decide +kernel
theorem dX0_sayOneMore_50 : decode cX0_sayOneMore 50 = .ok (.istore 4, 2) := by decide +kernel
theorem dX0_sayOneMore_52 : decode cX0_sayOneMore 52 = .ok (.iload 4, 2) := by decide +kernel
theorem dX0_sayOneMore_54 : decode cX0_sayOneMore 54 = .ok (.bipush 100, 2) := by decide +kernel
theorem dX0_sayOneMore_56 : decode cX0_sayOneMore 56 = .ok (.invokestatic 64, 3) := by decide +kernel
theorem dX0_sayOneMore_59 : decode cX0_sayOneMore 59 = .ok (.ifCond .eq 19, 3) := by decide +kernel
theorem dX0_sayOneMore_62 : decode cX0_sayOneMore 62 = .ok (.aload_n 0, 1) := by decide +kernel
theorem dX0_sayOneMore_63 : decode cX0_sayOneMore 63 = .ok (.getfield 31, 3) := by decide +kernel
theorem dX0_sayOneMore_66 : decode cX0_sayOneMore 66 = .ok (.iload 4, 2) := by decide +kernel
theorem dX0_sayOneMore_68 : decode cX0_sayOneMore 68 = .ok (.dup2, 1) := by decide +kernel
theorem dX0_sayOneMore_69 : decode cX0_sayOneMore 69 = .ok (.laload, 1) := by decide +kernel
theorem dX0_sayOneMore_70 : decode cX0_sayOneMore 70 = .ok (.aload_n 0, 1) := by decide +kernel
theorem dX0_sayOneMore_71 : decode cX0_sayOneMore 71 = .ok (.getfield 27, 3) := by decide +kernel
theorem dX0_sayOneMore_74 : decode cX0_sayOneMore 74 = .ok (.iload_n 2, 1) := by decide +kernel
theorem dX0_sayOneMore_75 : decode cX0_sayOneMore 75 = .ok (.laload, 1) := by decide +kernel
theorem dX0_sayOneMore_76 : decode cX0_sayOneMore 76 = .ok (.ladd, 1) := by decide +kernel
theorem dX0_sayOneMore_77 : decode cX0_sayOneMore 77 = .ok (.lastore, 1) := by decide +kernel
theorem dX0_sayOneMore_78 : decode cX0_sayOneMore 78 = .ok (.iinc 3 1, 3) := by decide +kernel
theorem dX0_sayOneMore_81 : decode cX0_sayOneMore 81 = .ok (.goto (-48), 3) := by decide +kernel
theorem dX0_sayOneMore_84 : decode cX0_sayOneMore 84 = .ok (.iinc 1 1, 3) := by decide +kernel
theorem dX0_sayOneMore_87 : decode cX0_sayOneMore 87 = .ok (.goto (-77), 3) := by decide +kernel
theorem dX0_sayOneMore_90 : decode cX0_sayOneMore 90 = .ok (.aload_n 0, 1) := by decide +kernel
theorem dX0_sayOneMore_91 : decode cX0_sayOneMore 91 = .ok (.getfield 31, 3) := by decide +kernel
theorem dX0_sayOneMore_94 : decode cX0_sayOneMore 94 = .ok (.iconst 0, 1) := by decide +kernel
theorem dX0_sayOneMore_95 : decode cX0_sayOneMore 95 = .ok (.aload_n 0, 1) := by decide +kernel
theorem dX0_sayOneMore_96 : decode cX0_sayOneMore 96 = .ok (.getfield 27, 3) := by decide +kernel
theorem dX0_sayOneMore_99 : decode cX0_sayOneMore 99 = .ok (.iconst 0, 1) := by decide +kernel
theorem dX0_sayOneMore_100 : decode cX0_sayOneMore 100 = .ok (.bipush 100, 2) := by decide +kernel
theorem dX0_sayOneMore_102 : decode cX0_sayOneMore 102 = .ok (.invokestatic 88, 3) := by decide +kernel
theorem dX0_sayOneMore_105 : decode cX0_sayOneMore 105 = .ok (.return_, 1) := by decide +kernel
theorem dX1_init_0 : decode cX1_init 0 = .ok (.aload_n 0, 1) := by decide +kernel
theorem dX1_init_1 : decode cX1_init 1 = .ok (.invokespecial 3, 3) := by decide +kernel
theorem dX1_init_4 : decode cX1_init 4 = .ok (.aload_n 0, 1) := by decide +kernel
theorem dX1_init_5 : decode cX1_init 5 = .ok (.sipush 160, 3) := by decide +kernel
theorem dX1_init_8 : decode cX1_init 8 = .ok (.newarray .int, 2) := by decide +kernel
theorem dX1_init_10 : decode cX1_init 10 = .ok (.putfield 9, 3) := by decide +kernel
theorem dX1_init_13 : decode cX1_init 13 = .ok (.aload_n 0, 1) := by decide +kernel
theorem dX1_init_14 : decode cX1_init 14 = .ok (.aload_n 1, 1) := by decide +kernel
theorem dX1_init_15 : decode cX1_init 15 = .ok (.putfield 15, 3) := by decide +kernel
theorem dX1_init_18 : decode cX1_init 18 = .ok (.return_, 1) := by decide +kernel
theorem dX1_put_0 : decode cX1_put 0 = .ok (.aload_n 0, 1) := by decide +kernel
theorem dX1_put_1 : decode cX1_put 1 = .ok (.getfield 19, 3) := by decide +kernel
theorem dX1_put_4 : decode cX1_put 4 = .ok (.sipush 160, 3) := by decide +kernel
theorem dX1_put_7 : decode cX1_put 7 = .ok (.invokestatic 23, 3) := by decide +kernel
theorem dX1_put_10 : decode cX1_put 10 = .ok (.ifCond .ne 5, 3) := by decide +kernel
theorem dX1_put_13 : decode cX1_put 13 = .ok (.iconst 0, 1) := by decide +kernel
theorem dX1_put_14 : decode cX1_put 14 = .ok (.ireturn, 1) := by decide +kernel
theorem dX1_put_15 : decode cX1_put 15 = .ok (.aload_n 0, 1) := by decide +kernel
theorem dX1_put_16 : decode cX1_put 16 = .ok (.getfield 9, 3) := by decide +kernel
theorem dX1_put_19 : decode cX1_put 19 = .ok (.aload_n 0, 1) := by decide +kernel
theorem dX1_put_20 : decode cX1_put 20 = .ok (.getfield 19, 3) := by decide +kernel
theorem dX1_put_23 : decode cX1_put 23 = .ok (.iload_n 1, 1) := by decide +kernel
theorem dX1_put_24 : decode cX1_put 24 = .ok (.iastore, 1) := by decide +kernel
theorem dX1_put_25 : decode cX1_put 25 = .ok (.aload_n 0, 1) := by decide +kernel
theorem dX1_put_26 : decode cX1_put 26 = .ok (.dup, 1) := by decide +kernel
theorem dX1_put_27 : decode cX1_put 27 = .ok (.getfield 19, 3) := by decide +kernel
theorem dX1_put_30 : decode cX1_put 30 = .ok (.iconst 1, 1) := by decide +kernel
theorem dX1_put_31 : decode cX1_put 31 = .ok (.iadd, 1) := by decide +kernel
theorem dX1_put_32 : decode cX1_put 32 = .ok (.putfield 19, 3) := by decide +kernel
theorem dX1_put_35 : decode cX1_put 35 = .ok (.iconst 1, 1) := by decide +kernel
theorem dX1_put_36 : decode cX1_put 36 = .ok (.ireturn, 1) := by decide +kernel
theorem dX1_read_0 : decode cX1_read 0 = .ok (.aload_n 0, 1) := by decide +kernel
theorem dX1_read_1 : decode cX1_read 1 = .ok (.iconst 0, 1) := by decide +kernel
theorem dX1_read_2 : decode cX1_read 2 = .ok (.putfield 27, 3) := by decide +kernel
theorem dX1_read_5 : decode cX1_read 5 = .ok (.aload_n 0, 1) := by decide +kernel
theorem dX1_read_6 : decode cX1_read 6 = .ok (.iconst (-1), 1) := by decide +kernel
theorem dX1_read_7 : decode cX1_read 7 = .ok (.putfield 30, 3) := by decide +kernel
theorem dX1_read_10 : decode cX1_read 10 = .ok (.aload_n 0, 1) := by decide +kernel
theorem dX1_read_11 : decode cX1_read 11 = .ok (.getfield 15, 3) := by decide +kernel
theorem dX1_read_14 : decode cX1_read 14 = .ok (.invokevirtual 33, 3) := by decide +kernel
theorem dX1_read_17 : decode cX1_read 17 = .ok (.aload_n 0, 1) := by decide +kernel
theorem dX1_read_18 : decode cX1_read 18 = .ok (.invokevirtual 38, 3) := by decide +kernel
theorem dX1_read_21 : decode cX1_read 21 = .ok (.iconst 0, 1) := by decide +kernel
theorem dX1_read_22 : decode cX1_read 22 = .ok (.istore_n 1, 1) := by decide +kernel
theorem dX1_read_23 : decode cX1_read 23 = .ok (.iload_n 1, 1) := by decide +kernel
theorem dX1_read_24 : decode cX1_read 24 = .ok (.iconst 3, 1) := by decide +kernel
theorem dX1_read_25 : decode cX1_read 25 = .ok (.if_icmp .ge 37, 3) := by decide +kernel
theorem dX1_read_28 : decode cX1_read 28 = .ok (.aload_n 0, 1) := by decide +kernel
theorem dX1_read_29 : decode cX1_read 29 = .ok (.bipush 6, 2) := by decide +kernel
theorem dX1_read_31 : decode cX1_read 31 = .ok (.iload_n 1, 1) := by decide +kernel
theorem dX1_read_32 : decode cX1_read 32 = .ok (.iadd, 1) := by decide +kernel
theorem dX1_read_33 : decode cX1_read 33 = .ok (.invokevirtual 41, 3) := by decide +kernel
theorem dX1_read_36 : decode cX1_read 36 = .ok (.aload_n 0, 1) := by decide +kernel
theorem dX1_read_37 : decode cX1_read 37 = .ok (.iconst 0, 1) := by decide +kernel
theorem dX1_read_38 : decode cX1_read 38 = .ok (.iconst 0, 1) := by decide +kernel
theorem dX1_read_39 : decode cX1_read 39 = .ok (.invokevirtual 45, 3) := by decide +kernel
theorem dX1_read_42 : decode cX1_read 42 = .ok (.aload_n 0, 1) := by decide +kernel
theorem dX1_read_43 : decode cX1_read 43 = .ok (.bipush 59, 2) := by decide +kernel
theorem dX1_read_45 : decode cX1_read 45 = .ok (.invokevirtual 41, 3) := by decide +kernel
theorem dX1_read_48 : decode cX1_read 48 = .ok (.aload_n 0, 1) := by decide +kernel
theorem dX1_read_49 : decode cX1_read 49 = .ok (.getfield 15, 3) := by decide +kernel
theorem dX1_read_52 : decode cX1_read 52 = .ok (.iload_n 1, 1) := by decide +kernel
theorem dX1_read_53 : decode cX1_read 53 = .ok (.invokevirtual 49, 3) := by decide +kernel
theorem dX1_read_56 : decode cX1_read 56 = .ok (.iinc 1 1, 3) := by decide +kernel
theorem dX1_read_59 : decode cX1_read 59 = .ok (.goto (-36), 3) := by decide +kernel
theorem dX1_read_62 : decode cX1_read 62 = .ok (.aload_n 0, 1) := by decide +kernel
theorem dX1_read_63 : decode cX1_read 63 = .ok (.sipush 301, 3) := by decide +kernel
theorem dX1_read_66 : decode cX1_read 66 = .ok (.invokevirtual 41, 3) := by decide +kernel
theorem dX1_read_69 : decode cX1_read 69 = .ok (.aload_n 0, 1) := by decide +kernel
theorem dX1_read_70 : decode cX1_read 70 = .ok (.iconst 0, 1) := by decide +kernel
theorem dX1_read_71 : decode cX1_read 71 = .ok (.putfield 19, 3) := by decide +kernel
theorem dX1_read_74 : decode cX1_read 74 = .ok (.aload_n 0, 1) := by decide +kernel
theorem dX1_read_75 : decode cX1_read 75 = .ok (.getfield 30, 3) := by decide +kernel
theorem dX1_read_78 : decode cX1_read 78 = .ok (.ireturn, 1) := by decide +kernel
theorem dX1_need_0 : decode cX1_need 0 = .ok (.aload_n 0, 1) := by decide +kernel
theorem dX1_need_1 : decode cX1_need 1 = .ok (.getfield 52, 3) := by decide +kernel
theorem dX1_need_4 : decode cX1_need 4 = .ok (.iload_n 1, 1) := by decide +kernel
theorem dX1_need_5 : decode cX1_need 5 = .ok (.if_icmp .ne 10, 3) := by decide +kernel
theorem dX1_need_8 : decode cX1_need 8 = .ok (.aload_n 0, 1) := by decide +kernel
theorem dX1_need_9 : decode cX1_need 9 = .ok (.invokevirtual 38, 3) := by decide +kernel
theorem dX1_need_12 : decode cX1_need 12 = .ok (.goto 7, 3) := by decide +kernel
theorem dX1_need_15 : decode cX1_need 15 = .ok (.aload_n 0, 1) := by decide +kernel
theorem dX1_need_16 : decode cX1_need 16 = .ok (.invokevirtual 55, 3) := by decide +kernel
theorem dX1_need_19 : decode cX1_need 19 = .ok (.return_, 1) := by decide +kernel
theorem dX1_refuse_0 : decode cX1_refuse 0 = .ok (.aload_n 0, 1) := by decide +kernel
theorem dX1_refuse_1 : decode cX1_refuse 1 = .ok (.getfield 30, 3) := by decide +kernel
theorem dX1_refuse_4 : decode cX1_refuse 4 = .ok (.iconst (-1), 1) := by decide +kernel
theorem dX1_refuse_5 : decode cX1_refuse 5 = .ok (.if_icmp .ne 11, 3) := by decide +kernel
theorem dX1_refuse_8 : decode cX1_refuse 8 = .ok (.aload_n 0, 1) := by decide +kernel
theorem dX1_refuse_9 : decode cX1_refuse 9 = .ok (.aload_n 0, 1) := by decide +kernel
theorem dX1_refuse_10 : decode cX1_refuse 10 = .ok (.getfield 58, 3) := by decide +kernel
theorem dX1_refuse_13 : decode cX1_refuse 13 = .ok (.putfield 30, 3) := by decide +kernel
theorem dX1_refuse_16 : decode cX1_refuse 16 = .ok (.aload_n 0, 1) := by decide +kernel
theorem dX1_refuse_17 : decode cX1_refuse 17 = .ok (.sipush 302, 3) := by decide +kernel
theorem dX1_refuse_20 : decode cX1_refuse 20 = .ok (.putfield 52, 3) := by decide +kernel
theorem dX1_refuse_23 : decode cX1_refuse 23 = .ok (.return_, 1) := by decide +kernel
theorem dX1_chain_0 : decode cX1_chain 0 = .ok (.aload_n 0, 1) := by decide +kernel
theorem dX1_chain_1 : decode cX1_chain 1 = .ok (.iload_n 1, 1) := by decide +kernel
theorem dX1_chain_2 : decode cX1_chain 2 = .ok (.iload_n 2, 1) := by decide +kernel
theorem dX1_chain_3 : decode cX1_chain 3 = .ok (.invokevirtual 61, 3) := by decide +kernel
theorem dX1_chain_6 : decode cX1_chain 6 = .ok (.iconst 0, 1) := by decide +kernel
theorem dX1_chain_7 : decode cX1_chain 7 = .ok (.istore_n 3, 1) := by decide +kernel
theorem dX1_chain_8 : decode cX1_chain 8 = .ok (.iload_n 3, 1) := by decide +kernel
theorem dX1_chain_9 : decode cX1_chain 9 = .ok (.sipush 160, 3) := by decide +kernel
theorem dX1_chain_12 : decode cX1_chain 12 = .ok (.if_icmp .ge 45, 3) := by decide +kernel
theorem dX1_chain_15 : decode cX1_chain 15 = .ok (.aload_n 0, 1) := by decide +kernel
theorem dX1_chain_16 : decode cX1_chain 16 = .ok (.iload_n 1, 1) := by decide +kernel
theorem dX1_chain_17 : decode cX1_chain 17 = .ok (.invokevirtual 64, 3) := by decide +kernel
theorem dX1_chain_20 : decode cX1_chain 20 = .ok (.ifCond .eq 37, 3) := by decide +kernel
theorem dX1_chain_23 : decode cX1_chain 23 = .ok (.aload_n 0, 1) := by decide +kernel
theorem dX1_chain_24 : decode cX1_chain 24 = .ok (.getfield 52, 3) := by decide +kernel
theorem dX1_chain_27 : decode cX1_chain 27 = .ok (.istore 4, 2) := by decide +kernel
theorem dX1_chain_29 : decode cX1_chain 29 = .ok (.aload_n 0, 1) := by decide +kernel
theorem dX1_chain_30 : decode cX1_chain 30 = .ok (.invokevirtual 38, 3) := by decide +kernel
theorem dX1_chain_33 : decode cX1_chain 33 = .ok (.aload_n 0, 1) := by decide +kernel
theorem dX1_chain_34 : decode cX1_chain 34 = .ok (.iload_n 1, 1) := by decide +kernel
theorem dX1_chain_35 : decode cX1_chain 35 = .ok (.iload_n 2, 1) := by decide +kernel
theorem dX1_chain_36 : decode cX1_chain 36 = .ok (.invokevirtual 61, 3) := by decide +kernel
theorem dX1_chain_39 : decode cX1_chain 39 = .ok (.aload_n 0, 1) := by decide +kernel
theorem dX1_chain_40 : decode cX1_chain 40 = .ok (.getfield 15, 3) := by decide +kernel
theorem dX1_chain_43 : decode cX1_chain 43 = .ok (.iload 4, 2) := by decide +kernel
theorem dX1_chain_45 : decode cX1_chain 45 = .ok (.invokestatic 68, 3) := by decide +kernel
theorem dX1_chain_48 : decode cX1_chain 48 = .ok (.invokevirtual 72, 3) := by decide +kernel
theorem dX1_chain_51 : decode cX1_chain 51 = .ok (.iinc 3 1, 3) := by decide +kernel
theorem dX1_chain_54 : decode cX1_chain 54 = .ok (.goto (-46), 3) := by decide +kernel
theorem dX1_chain_57 : decode cX1_chain 57 = .ok (.return_, 1) := by decide +kernel
theorem dX1_link_0 : decode cX1_link 0 = .ok (.iload_n 1, 1) := by decide +kernel
theorem dX1_link_1 : decode cX1_link 1 = .ok (.iconst 3, 1) := by decide +kernel
theorem dX1_link_2 : decode cX1_link 2 = .ok (.if_icmp .ne 11, 3) := by decide +kernel
theorem dX1_link_5 : decode cX1_link 5 = .ok (.aload_n 0, 1) := by decide +kernel
theorem dX1_link_6 : decode cX1_link 6 = .ok (.iload_n 2, 1) := by decide +kernel
theorem dX1_link_7 : decode cX1_link 7 = .ok (.invokevirtual 75, 3) := by decide +kernel
theorem dX1_link_10 : decode cX1_link 10 = .ok (.goto 24, 3) := by decide +kernel
theorem dX1_link_13 : decode cX1_link 13 = .ok (.iload_n 1, 1) := by decide +kernel
theorem dX1_link_14 : decode cX1_link 14 = .ok (.iconst 1, 1) := by decide +kernel
theorem dX1_link_15 : decode cX1_link 15 = .ok (.if_icmp .ne 11, 3) := by decide +kernel
theorem dX1_link_18 : decode cX1_link 18 = .ok (.aload_n 0, 1) := by decide +kernel
theorem dX1_link_19 : decode cX1_link 19 = .ok (.iload_n 2, 1) := by decide +kernel
theorem dX1_link_20 : decode cX1_link 20 = .ok (.invokevirtual 78, 3) := by decide +kernel
theorem dX1_link_23 : decode cX1_link 23 = .ok (.goto 11, 3) := by decide +kernel
theorem dX1_link_26 : decode cX1_link 26 = .ok (.aload_n 0, 1) := by decide +kernel
theorem dX1_link_27 : decode cX1_link 27 = .ok (.iload_n 1, 1) := by decide +kernel
theorem dX1_link_28 : decode cX1_link 28 = .ok (.iconst 1, 1) := by decide +kernel
theorem dX1_link_29 : decode cX1_link 29 = .ok (.iadd, 1) := by decide +kernel
theorem dX1_link_30 : decode cX1_link 30 = .ok (.iload_n 2, 1) := by decide +kernel
theorem dX1_link_31 : decode cX1_link 31 = .ok (.invokevirtual 45, 3) := by decide +kernel
theorem dX1_link_34 : decode cX1_link 34 = .ok (.return_, 1) := by decide +kernel
theorem dX1_denial_0 : decode cX1_denial 0 = .ok (.aload_n 0, 1) := by decide +kernel
theorem dX1_denial_1 : decode cX1_denial 1 = .ok (.getfield 52, 3) := by decide +kernel
theorem dX1_denial_4 : decode cX1_denial 4 = .ok (.bipush 11, 2) := by decide +kernel
theorem dX1_denial_6 : decode cX1_denial 6 = .ok (.if_icmp .ne 29, 3) := by decide +kernel
theorem dX1_denial_9 : decode cX1_denial 9 = .ok (.iload_n 1, 1) := by decide +kernel
theorem dX1_denial_10 : decode cX1_denial 10 = .ok (.iconst 5, 1) := by decide +kernel
theorem dX1_denial_11 : decode cX1_denial 11 = .ok (.if_icmp .ge 24, 3) := by decide +kernel
theorem dX1_denial_14 : decode cX1_denial 14 = .ok (.aload_n 0, 1) := by decide +kernel
theorem dX1_denial_15 : decode cX1_denial 15 = .ok (.invokevirtual 38, 3) := by decide +kernel
theorem dX1_denial_18 : decode cX1_denial 18 = .ok (.aload_n 0, 1) := by decide +kernel
theorem dX1_denial_19 : decode cX1_denial 19 = .ok (.iload_n 1, 1) := by decide +kernel
theorem dX1_denial_20 : decode cX1_denial 20 = .ok (.iconst 1, 1) := by decide +kernel
theorem dX1_denial_21 : decode cX1_denial 21 = .ok (.iadd, 1) := by decide +kernel
theorem dX1_denial_22 : decode cX1_denial 22 = .ok (.invokevirtual 78, 3) := by decide +kernel
theorem dX1_denial_25 : decode cX1_denial 25 = .ok (.aload_n 0, 1) := by decide +kernel
theorem dX1_denial_26 : decode cX1_denial 26 = .ok (.getfield 15, 3) := by decide +kernel
theorem dX1_denial_29 : decode cX1_denial 29 = .ok (.bipush (-7), 2) := by decide +kernel
theorem dX1_denial_31 : decode cX1_denial 31 = .ok (.invokevirtual 72, 3) := by decide +kernel
theorem dX1_denial_34 : decode cX1_denial 34 = .ok (.return_, 1) := by decide +kernel
theorem dX1_denial_35 : decode cX1_denial 35 = .ok (.aload_n 0, 1) := by decide +kernel
theorem dX1_denial_36 : decode cX1_denial 36 = .ok (.iconst 2, 1) := by decide +kernel
theorem dX1_denial_37 : decode cX1_denial 37 = .ok (.iload_n 1, 1) := by decide +kernel
theorem dX1_denial_38 : decode cX1_denial 38 = .ok (.invokevirtual 45, 3) := by decide +kernel
theorem dX1_denial_41 : decode cX1_denial 41 = .ok (.aload_n 0, 1) := by decide +kernel
theorem dX1_denial_42 : decode cX1_denial 42 = .ok (.getfield 52, 3) := by decide +kernel
theorem dX1_denial_45 : decode cX1_denial 45 = .ok (.bipush 60, 2) := by decide +kernel
theorem dX1_denial_47 : decode cX1_denial 47 = .ok (.if_icmp .eq 12, 3) := by decide +kernel
theorem dX1_denial_50 : decode cX1_denial 50 = .ok (.aload_n 0, 1) := by decide +kernel
theorem dX1_denial_51 : decode cX1_denial 51 = .ok (.getfield 52, 3) := by decide +kernel
theorem dX1_denial_54 : decode cX1_denial 54 = .ok (.bipush 61, 2) := by decide +kernel
theorem dX1_denial_56 : decode cX1_denial 56 = .ok (.if_icmp .ne 29, 3) := by decide +kernel
theorem dX1_denial_59 : decode cX1_denial 59 = .ok (.aload_n 0, 1) := by decide +kernel
theorem dX1_denial_60 : decode cX1_denial 60 = .ok (.getfield 52, 3) := by decide +kernel
theorem dX1_denial_63 : decode cX1_denial 63 = .ok (.istore_n 2, 1) := by decide +kernel
theorem dX1_denial_64 : decode cX1_denial 64 = .ok (.aload_n 0, 1) := by decide +kernel
theorem dX1_denial_65 : decode cX1_denial 65 = .ok (.invokevirtual 38, 3) := by decide +kernel
theorem dX1_denial_68 : decode cX1_denial 68 = .ok (.aload_n 0, 1) := by decide +kernel
theorem dX1_denial_69 : decode cX1_denial 69 = .ok (.iconst 2, 1) := by decide +kernel
theorem dX1_denial_70 : decode cX1_denial 70 = .ok (.iload_n 1, 1) := by decide +kernel
theorem dX1_denial_71 : decode cX1_denial 71 = .ok (.invokevirtual 45, 3) := by decide +kernel
theorem dX1_denial_74 : decode cX1_denial 74 = .ok (.aload_n 0, 1) := by decide +kernel
theorem dX1_denial_75 : decode cX1_denial 75 = .ok (.getfield 15, 3) := by decide +kernel
theorem dX1_denial_78 : decode cX1_denial 78 = .ok (.iload_n 2, 1) := by decide +kernel
theorem dX1_denial_79 : decode cX1_denial 79 = .ok (.invokestatic 68, 3) := by decide +kernel
theorem dX1_denial_82 : decode cX1_denial 82 = .ok (.invokevirtual 72, 3) := by decide +kernel
theorem dX1_denial_85 : decode cX1_denial 85 = .ok (.return_, 1) := by decide +kernel
theorem dX1_one_0 : decode cX1_one 0 = .ok (.aload_n 0, 1) := by decide +kernel
theorem dX1_one_1 : decode cX1_one 1 = .ok (.getfield 52, 3) := by decide +kernel
theorem dX1_one_4 : decode cX1_one 4 = .ok (.sipush 300, 3) := by decide +kernel
theorem dX1_one_7 : decode cX1_one 7 = .ok (.if_icmp .ne 21, 3) := by decide +kernel
theorem dX1_one_10 : decode cX1_one 10 = .ok (.aload_n 0, 1) := by decide +kernel
theorem dX1_one_11 : decode cX1_one 11 = .ok (.getfield 15, 3) := by decide +kernel
theorem dX1_one_14 : decode cX1_one 14 = .ok (.aload_n 0, 1) := by decide +kernel
theorem dX1_one_15 : decode cX1_one 15 = .ok (.getfield 81, 3) := by decide +kernel
theorem dX1_one_18 : decode cX1_one 18 = .ok (.invokevirtual 72, 3) := by decide +kernel
theorem dX1_one_21 : decode cX1_one 21 = .ok (.aload_n 0, 1) := by decide +kernel
theorem dX1_one_22 : decode cX1_one 22 = .ok (.invokevirtual 38, 3) := by decide +kernel
theorem dX1_one_25 : decode cX1_one 25 = .ok (.goto 111, 3) := by decide +kernel
theorem dX1_one_28 : decode cX1_one 28 = .ok (.aload_n 0, 1) := by decide +kernel
theorem dX1_one_29 : decode cX1_one 29 = .ok (.getfield 52, 3) := by decide +kernel
theorem dX1_one_32 : decode cX1_one 32 = .ok (.bipush 6, 2) := by decide +kernel
theorem dX1_one_34 : decode cX1_one 34 = .ok (.invokestatic 23, 3) := by decide +kernel
theorem dX1_one_37 : decode cX1_one 37 = .ok (.ifCond .eq 23, 3) := by decide +kernel
theorem dX1_one_40 : decode cX1_one 40 = .ok (.aload_n 0, 1) := by decide +kernel
theorem dX1_one_41 : decode cX1_one 41 = .ok (.getfield 15, 3) := by decide +kernel
theorem dX1_one_44 : decode cX1_one 44 = .ok (.iconst (-1), 1) := by decide +kernel
theorem dX1_one_45 : decode cX1_one 45 = .ok (.aload_n 0, 1) := by decide +kernel
theorem dX1_one_46 : decode cX1_one 46 = .ok (.getfield 52, 3) := by decide +kernel
theorem dX1_one_49 : decode cX1_one 49 = .ok (.isub, 1) := by decide +kernel
theorem dX1_one_50 : decode cX1_one 50 = .ok (.invokevirtual 72, 3) := by decide +kernel
theorem dX1_one_53 : decode cX1_one 53 = .ok (.aload_n 0, 1) := by decide +kernel
theorem dX1_one_54 : decode cX1_one 54 = .ok (.invokevirtual 38, 3) := by decide +kernel
theorem dX1_one_57 : decode cX1_one 57 = .ok (.goto 79, 3) := by decide +kernel
theorem dX1_one_60 : decode cX1_one 60 = .ok (.aload_n 0, 1) := by decide +kernel
theorem dX1_one_61 : decode cX1_one 61 = .ok (.getfield 52, 3) := by decide +kernel
theorem dX1_one_64 : decode cX1_one 64 = .ok (.bipush 45, 2) := by decide +kernel
theorem dX1_one_66 : decode cX1_one 66 = .ok (.if_icmp .ne 31, 3) := by decide +kernel
theorem dX1_one_69 : decode cX1_one 69 = .ok (.iload_n 1, 1) := by decide +kernel
theorem dX1_one_70 : decode cX1_one 70 = .ok (.iconst 5, 1) := by decide +kernel
theorem dX1_one_71 : decode cX1_one 71 = .ok (.if_icmp .ge 26, 3) := by decide +kernel
theorem dX1_one_74 : decode cX1_one 74 = .ok (.aload_n 0, 1) := by decide +kernel
theorem dX1_one_75 : decode cX1_one 75 = .ok (.invokevirtual 38, 3) := by decide +kernel
theorem dX1_one_78 : decode cX1_one 78 = .ok (.aload_n 0, 1) := by decide +kernel
theorem dX1_one_79 : decode cX1_one 79 = .ok (.iload_n 1, 1) := by decide +kernel
theorem dX1_one_80 : decode cX1_one 80 = .ok (.iconst 1, 1) := by decide +kernel
theorem dX1_one_81 : decode cX1_one 81 = .ok (.iadd, 1) := by decide +kernel
theorem dX1_one_82 : decode cX1_one 82 = .ok (.invokevirtual 75, 3) := by decide +kernel
theorem dX1_one_85 : decode cX1_one 85 = .ok (.aload_n 0, 1) := by decide +kernel
theorem dX1_one_86 : decode cX1_one 86 = .ok (.getfield 15, 3) := by decide +kernel
theorem dX1_one_89 : decode cX1_one 89 = .ok (.bipush (-8), 2) := by decide +kernel
theorem dX1_one_91 : decode cX1_one 91 = .ok (.invokevirtual 72, 3) := by decide +kernel
theorem dX1_one_94 : decode cX1_one 94 = .ok (.goto 42, 3) := by decide +kernel
theorem dX1_one_97 : decode cX1_one 97 = .ok (.aload_n 0, 1) := by decide +kernel
theorem dX1_one_98 : decode cX1_one 98 = .ok (.getfield 52, 3) := by decide +kernel
theorem dX1_one_101 : decode cX1_one 101 = .ok (.bipush 40, 2) := by decide +kernel
theorem dX1_one_103 : decode cX1_one 103 = .ok (.if_icmp .ne 29, 3) := by decide +kernel
theorem dX1_one_106 : decode cX1_one 106 = .ok (.iload_n 1, 1) := by decide +kernel
theorem dX1_one_107 : decode cX1_one 107 = .ok (.iconst 5, 1) := by decide +kernel
theorem dX1_one_108 : decode cX1_one 108 = .ok (.if_icmp .ge 24, 3) := by decide +kernel
theorem dX1_one_111 : decode cX1_one 111 = .ok (.aload_n 0, 1) := by decide +kernel
theorem dX1_one_112 : decode cX1_one 112 = .ok (.invokevirtual 38, 3) := by decide +kernel
theorem dX1_one_115 : decode cX1_one 115 = .ok (.aload_n 0, 1) := by decide +kernel
theorem dX1_one_116 : decode cX1_one 116 = .ok (.iconst 0, 1) := by decide +kernel
theorem dX1_one_117 : decode cX1_one 117 = .ok (.iload_n 1, 1) := by decide +kernel
theorem dX1_one_118 : decode cX1_one 118 = .ok (.iconst 1, 1) := by decide +kernel
theorem dX1_one_119 : decode cX1_one 119 = .ok (.iadd, 1) := by decide +kernel
theorem dX1_one_120 : decode cX1_one 120 = .ok (.invokevirtual 45, 3) := by decide +kernel
theorem dX1_one_123 : decode cX1_one 123 = .ok (.aload_n 0, 1) := by decide +kernel
theorem dX1_one_124 : decode cX1_one 124 = .ok (.bipush 41, 2) := by decide +kernel
theorem dX1_one_126 : decode cX1_one 126 = .ok (.invokevirtual 41, 3) := by decide +kernel
theorem dX1_one_129 : decode cX1_one 129 = .ok (.goto 7, 3) := by decide +kernel
theorem dX1_one_132 : decode cX1_one 132 = .ok (.aload_n 0, 1) := by decide +kernel
theorem dX1_one_133 : decode cX1_one 133 = .ok (.invokevirtual 55, 3) := by decide +kernel
theorem dX1_one_136 : decode cX1_one 136 = .ok (.return_, 1) := by decide +kernel
theorem dX1_joins_0 : decode cX1_joins 0 = .ok (.iload_n 1, 1) := by decide +kernel
theorem dX1_joins_1 : decode cX1_joins 1 = .ok (.tableswitch 81 0 2 #[27, 42, 57], 27) := by decide +kernel
theorem dX1_joins_28 : decode cX1_joins 28 = .ok (.aload_n 0, 1) := by decide +kernel
theorem dX1_joins_29 : decode cX1_joins 29 = .ok (.getfield 52, 3) := by decide +kernel
theorem dX1_joins_32 : decode cX1_joins 32 = .ok (.bipush 9, 2) := by decide +kernel
theorem dX1_joins_34 : decode cX1_joins 34 = .ok (.if_icmp .ne 7, 3) := by decide +kernel
theorem dX1_joins_37 : decode cX1_joins 37 = .ok (.iconst 1, 1) := by decide +kernel
theorem dX1_joins_38 : decode cX1_joins 38 = .ok (.goto 4, 3) := by decide +kernel
theorem dX1_joins_41 : decode cX1_joins 41 = .ok (.iconst 0, 1) := by decide +kernel
theorem dX1_joins_42 : decode cX1_joins 42 = .ok (.ireturn, 1) := by decide +kernel
theorem dX1_joins_43 : decode cX1_joins 43 = .ok (.aload_n 0, 1) := by decide +kernel
theorem dX1_joins_44 : decode cX1_joins 44 = .ok (.getfield 52, 3) := by decide +kernel
theorem dX1_joins_47 : decode cX1_joins 47 = .ok (.bipush 10, 2) := by decide +kernel
theorem dX1_joins_49 : decode cX1_joins 49 = .ok (.if_icmp .ne 7, 3) := by decide +kernel
theorem dX1_joins_52 : decode cX1_joins 52 = .ok (.iconst 1, 1) := by decide +kernel
theorem dX1_joins_53 : decode cX1_joins 53 = .ok (.goto 4, 3) := by decide +kernel
theorem dX1_joins_56 : decode cX1_joins 56 = .ok (.iconst 0, 1) := by decide +kernel
theorem dX1_joins_57 : decode cX1_joins 57 = .ok (.ireturn, 1) := by decide +kernel
theorem dX1_joins_58 : decode cX1_joins 58 = .ok (.aload_n 0, 1) := by decide +kernel
theorem dX1_joins_59 : decode cX1_joins 59 = .ok (.getfield 52, 3) := by decide +kernel
theorem dX1_joins_62 : decode cX1_joins 62 = .ok (.bipush 43, 2) := by decide +kernel
theorem dX1_joins_64 : decode cX1_joins 64 = .ok (.if_icmp .eq 12, 3) := by decide +kernel
theorem dX1_joins_67 : decode cX1_joins 67 = .ok (.aload_n 0, 1) := by decide +kernel
theorem dX1_joins_68 : decode cX1_joins 68 = .ok (.getfield 52, 3) := by decide +kernel
theorem dX1_joins_71 : decode cX1_joins 71 = .ok (.bipush 45, 2) := by decide +kernel
theorem dX1_joins_73 : decode cX1_joins 73 = .ok (.if_icmp .ne 7, 3) := by decide +kernel
theorem dX1_joins_76 : decode cX1_joins 76 = .ok (.iconst 1, 1) := by decide +kernel
theorem dX1_joins_77 : decode cX1_joins 77 = .ok (.goto 4, 3) := by decide +kernel
theorem dX1_joins_80 : decode cX1_joins 80 = .ok (.iconst 0, 1) := by decide +kernel
theorem dX1_joins_81 : decode cX1_joins 81 = .ok (.ireturn, 1) := by decide +kernel
theorem dX1_joins_82 : decode cX1_joins 82 = .ok (.aload_n 0, 1) := by decide +kernel
theorem dX1_joins_83 : decode cX1_joins 83 = .ok (.getfield 52, 3) := by decide +kernel
theorem dX1_joins_86 : decode cX1_joins 86 = .ok (.bipush 42, 2) := by decide +kernel
theorem dX1_joins_88 : decode cX1_joins 88 = .ok (.if_icmp .ne 7, 3) := by decide +kernel
theorem dX1_joins_91 : decode cX1_joins 91 = .ok (.iconst 1, 1) := by decide +kernel
theorem dX1_joins_92 : decode cX1_joins 92 = .ok (.goto 4, 3) := by decide +kernel
theorem dX1_joins_95 : decode cX1_joins 95 = .ok (.iconst 0, 1) := by decide +kernel
theorem dX1_joins_96 : decode cX1_joins 96 = .ok (.ireturn, 1) := by decide +kernel
theorem dX1_stepOf_0 : decode cX1_stepOf 0 = .ok (.iload_n 0, 1) := by decide +kernel
theorem dX1_stepOf_1 : decode cX1_stepOf 1 = .ok (.lookupswitch 77 #[(9, 59), (10, 62), (43, 71), (45, 74), (60, 65), (61, 68)], 59) := by decide +kernel
theorem dX1_stepOf_60 : decode cX1_stepOf 60 = .ok (.bipush (-9), 2) := by decide +kernel
theorem dX1_stepOf_62 : decode cX1_stepOf 62 = .ok (.ireturn, 1) := by decide +kernel
theorem dX1_stepOf_63 : decode cX1_stepOf 63 = .ok (.bipush (-10), 2) := by decide +kernel
theorem dX1_stepOf_65 : decode cX1_stepOf 65 = .ok (.ireturn, 1) := by decide +kernel
theorem dX1_stepOf_66 : decode cX1_stepOf 66 = .ok (.bipush (-11), 2) := by decide +kernel
theorem dX1_stepOf_68 : decode cX1_stepOf 68 = .ok (.ireturn, 1) := by decide +kernel
theorem dX1_stepOf_69 : decode cX1_stepOf 69 = .ok (.bipush (-12), 2) := by decide +kernel
theorem dX1_stepOf_71 : decode cX1_stepOf 71 = .ok (.ireturn, 1) := by decide +kernel
theorem dX1_stepOf_72 : decode cX1_stepOf 72 = .ok (.bipush (-13), 2) := by decide +kernel
theorem dX1_stepOf_74 : decode cX1_stepOf 74 = .ok (.ireturn, 1) := by decide +kernel
theorem dX1_stepOf_75 : decode cX1_stepOf 75 = .ok (.bipush (-14), 2) := by decide +kernel
theorem dX1_stepOf_77 : decode cX1_stepOf 77 = .ok (.ireturn, 1) := by decide +kernel
theorem dX1_stepOf_78 : decode cX1_stepOf 78 = .ok (.bipush (-15), 2) := by decide +kernel
theorem dX1_stepOf_80 : decode cX1_stepOf 80 = .ok (.ireturn, 1) := by decide +kernel
theorem dX1_advance_0 : decode cX1_advance 0 = .ok (.aload_n 0, 1) := by decide +kernel
theorem dX1_advance_1 : decode cX1_advance 1 = .ok (.getfield 27, 3) := by decide +kernel
theorem dX1_advance_4 : decode cX1_advance 4 = .ok (.aload_n 0, 1) := by decide +kernel
theorem dX1_advance_5 : decode cX1_advance 5 = .ok (.getfield 19, 3) := by decide +kernel
theorem dX1_advance_8 : decode cX1_advance 8 = .ok (.if_icmp .ge 41, 3) := by decide +kernel
theorem dX1_advance_11 : decode cX1_advance 11 = .ok (.aload_n 0, 1) := by decide +kernel
theorem dX1_advance_12 : decode cX1_advance 12 = .ok (.getfield 27, 3) := by decide +kernel
theorem dX1_advance_15 : decode cX1_advance 15 = .ok (.sipush 160, 3) := by decide +kernel
theorem dX1_advance_18 : decode cX1_advance 18 = .ok (.if_icmp .ge 31, 3) := by decide +kernel
theorem dX1_advance_21 : decode cX1_advance 21 = .ok (.aload_n 0, 1) := by decide +kernel
theorem dX1_advance_22 : decode cX1_advance 22 = .ok (.getfield 9, 3) := by decide +kernel
theorem dX1_advance_25 : decode cX1_advance 25 = .ok (.aload_n 0, 1) := by decide +kernel
theorem dX1_advance_26 : decode cX1_advance 26 = .ok (.getfield 27, 3) := by decide +kernel
theorem dX1_advance_29 : decode cX1_advance 29 = .ok (.iaload, 1) := by decide +kernel
theorem dX1_advance_30 : decode cX1_advance 30 = .ok (.invokestatic 84, 3) := by decide +kernel
theorem dX1_advance_33 : decode cX1_advance 33 = .ok (.ifCond .eq 16, 3) := by decide +kernel
theorem dX1_advance_36 : decode cX1_advance 36 = .ok (.aload_n 0, 1) := by decide +kernel
theorem dX1_advance_37 : decode cX1_advance 37 = .ok (.dup, 1) := by decide +kernel
theorem dX1_advance_38 : decode cX1_advance 38 = .ok (.getfield 27, 3) := by decide +kernel
theorem dX1_advance_41 : decode cX1_advance 41 = .ok (.iconst 1, 1) := by decide +kernel
theorem dX1_advance_42 : decode cX1_advance 42 = .ok (.iadd, 1) := by decide +kernel
theorem dX1_advance_43 : decode cX1_advance 43 = .ok (.putfield 27, 3) := by decide +kernel
theorem dX1_advance_46 : decode cX1_advance 46 = .ok (.goto (-46), 3) := by decide +kernel
theorem dX1_advance_49 : decode cX1_advance 49 = .ok (.aload_n 0, 1) := by decide +kernel
theorem dX1_advance_50 : decode cX1_advance 50 = .ok (.aload_n 0, 1) := by decide +kernel
theorem dX1_advance_51 : decode cX1_advance 51 = .ok (.getfield 27, 3) := by decide +kernel
theorem dX1_advance_54 : decode cX1_advance 54 = .ok (.putfield 58, 3) := by decide +kernel
theorem dX1_advance_57 : decode cX1_advance 57 = .ok (.aload_n 0, 1) := by decide +kernel
theorem dX1_advance_58 : decode cX1_advance 58 = .ok (.getfield 27, 3) := by decide +kernel
theorem dX1_advance_61 : decode cX1_advance 61 = .ok (.aload_n 0, 1) := by decide +kernel
theorem dX1_advance_62 : decode cX1_advance 62 = .ok (.getfield 19, 3) := by decide +kernel
theorem dX1_advance_65 : decode cX1_advance 65 = .ok (.if_icmp .ge 13, 3) := by decide +kernel
theorem dX1_advance_68 : decode cX1_advance 68 = .ok (.aload_n 0, 1) := by decide +kernel
theorem dX1_advance_69 : decode cX1_advance 69 = .ok (.getfield 27, 3) := by decide +kernel
theorem dX1_advance_72 : decode cX1_advance 72 = .ok (.sipush 160, 3) := by decide +kernel
theorem dX1_advance_75 : decode cX1_advance 75 = .ok (.if_icmp .lt 13, 3) := by decide +kernel
theorem dX1_advance_78 : decode cX1_advance 78 = .ok (.aload_n 0, 1) := by decide +kernel
theorem dX1_advance_79 : decode cX1_advance 79 = .ok (.sipush 301, 3) := by decide +kernel
theorem dX1_advance_82 : decode cX1_advance 82 = .ok (.putfield 52, 3) := by decide +kernel
theorem dX1_advance_85 : decode cX1_advance 85 = .ok (.goto 94, 3) := by decide +kernel
theorem dX1_advance_88 : decode cX1_advance 88 = .ok (.aload_n 0, 1) := by decide +kernel
theorem dX1_advance_89 : decode cX1_advance 89 = .ok (.getfield 9, 3) := by decide +kernel
theorem dX1_advance_92 : decode cX1_advance 92 = .ok (.aload_n 0, 1) := by decide +kernel
theorem dX1_advance_93 : decode cX1_advance 93 = .ok (.getfield 27, 3) := by decide +kernel
theorem dX1_advance_96 : decode cX1_advance 96 = .ok (.iaload, 1) := by decide +kernel
theorem dX1_advance_97 : decode cX1_advance 97 = .ok (.invokestatic 87, 3) := by decide +kernel
theorem dX1_advance_100 : decode cX1_advance 100 = .ok (.ifCond .eq 10, 3) := by decide +kernel
theorem dX1_advance_103 : decode cX1_advance 103 = .ok (.aload_n 0, 1) := by decide +kernel
theorem dX1_advance_104 : decode cX1_advance 104 = .ok (.invokevirtual 90, 3) := by decide +kernel
theorem dX1_advance_107 : decode cX1_advance 107 = .ok (.goto 72, 3) := by decide +kernel
theorem dX1_advance_110 : decode cX1_advance 110 = .ok (.aload_n 0, 1) := by decide +kernel
theorem dX1_advance_111 : decode cX1_advance 111 = .ok (.getfield 9, 3) := by decide +kernel
theorem dX1_advance_114 : decode cX1_advance 114 = .ok (.aload_n 0, 1) := by decide +kernel
theorem dX1_advance_115 : decode cX1_advance 115 = .ok (.getfield 27, 3) := by decide +kernel
theorem dX1_advance_118 : decode cX1_advance 118 = .ok (.iaload, 1) := by decide +kernel
theorem dX1_advance_119 : decode cX1_advance 119 = .ok (.invokestatic 93, 3) := by decide +kernel
theorem dX1_advance_122 : decode cX1_advance 122 = .ok (.ifCond .eq 10, 3) := by decide +kernel
theorem dX1_advance_125 : decode cX1_advance 125 = .ok (.aload_n 0, 1) := by decide +kernel
theorem dX1_advance_126 : decode cX1_advance 126 = .ok (.invokevirtual 96, 3) := by decide +kernel
theorem dX1_advance_129 : decode cX1_advance 129 = .ok (.goto 50, 3) := by decide +kernel
theorem dX1_advance_132 : decode cX1_advance 132 = .ok (.aload_n 0, 1) := by decide +kernel
theorem dX1_advance_133 : decode cX1_advance 133 = .ok (.ldc 99, 2) := by decide +kernel
theorem dX1_advance_135 : decode cX1_advance 135 = .ok (.aload_n 0, 1) := by decide +kernel
theorem dX1_advance_136 : decode cX1_advance 136 = .ok (.getfield 9, 3) := by decide +kernel
theorem dX1_advance_139 : decode cX1_advance 139 = .ok (.aload_n 0, 1) := by decide +kernel
theorem dX1_advance_140 : decode cX1_advance 140 = .ok (.getfield 27, 3) := by decide +kernel
theorem dX1_advance_143 : decode cX1_advance 143 = .ok (.iaload, 1) := by decide +kernel
theorem dX1_advance_144 : decode cX1_advance 144 = .ok (.i2c, 1) := by decide +kernel
theorem dX1_advance_145 : decode cX1_advance 145 = .ok (.invokevirtual 101, 3) := by decide +kernel
theorem dX1_advance_148 : decode cX1_advance 148 = .ok (.ifCond .lt 15, 3) := by decide +kernel
theorem dX1_advance_151 : decode cX1_advance 151 = .ok (.aload_n 0, 1) := by decide +kernel
theorem dX1_advance_152 : decode cX1_advance 152 = .ok (.getfield 9, 3) := by decide +kernel
theorem dX1_advance_155 : decode cX1_advance 155 = .ok (.aload_n 0, 1) := by decide +kernel
theorem dX1_advance_156 : decode cX1_advance 156 = .ok (.getfield 27, 3) := by decide +kernel
theorem dX1_advance_159 : decode cX1_advance 159 = .ok (.iaload, 1) := by decide +kernel
theorem dX1_advance_160 : decode cX1_advance 160 = .ok (.goto 6, 3) := by decide +kernel
theorem dX1_advance_163 : decode cX1_advance 163 = .ok (.sipush 302, 3) := by decide +kernel
theorem dX1_advance_166 : decode cX1_advance 166 = .ok (.putfield 52, 3) := by decide +kernel
theorem dX1_advance_169 : decode cX1_advance 169 = .ok (.aload_n 0, 1) := by decide +kernel
theorem dX1_advance_170 : decode cX1_advance 170 = .ok (.dup, 1) := by decide +kernel
theorem dX1_advance_171 : decode cX1_advance 171 = .ok (.getfield 27, 3) := by decide +kernel
theorem dX1_advance_174 : decode cX1_advance 174 = .ok (.iconst 1, 1) := by decide +kernel
theorem dX1_advance_175 : decode cX1_advance 175 = .ok (.iadd, 1) := by decide +kernel
theorem dX1_advance_176 : decode cX1_advance 176 = .ok (.putfield 27, 3) := by decide +kernel
theorem dX1_advance_179 : decode cX1_advance 179 = .ok (.return_, 1) := by decide +kernel
theorem dX1_readSpelled_0 : decode cX1_readSpelled 0 = .ok (.aload_n 0, 1) := by decide +kernel
theorem dX1_readSpelled_1 : decode cX1_readSpelled 1 = .ok (.getfield 27, 3) := by decide +kernel
theorem dX1_readSpelled_4 : decode cX1_readSpelled 4 = .ok (.aload_n 0, 1) := by decide +kernel
theorem dX1_readSpelled_5 : decode cX1_readSpelled 5 = .ok (.getfield 19, 3) := by decide +kernel
theorem dX1_readSpelled_8 : decode cX1_readSpelled 8 = .ok (.if_icmp .ge 41, 3) := by decide +kernel
theorem dX1_readSpelled_11 : decode cX1_readSpelled 11 = .ok (.aload_n 0, 1) := by decide +kernel
theorem dX1_readSpelled_12 : decode cX1_readSpelled 12 = .ok (.getfield 27, 3) := by decide +kernel
theorem dX1_readSpelled_15 : decode cX1_readSpelled 15 = .ok (.sipush 160, 3) := by decide +kernel
theorem dX1_readSpelled_18 : decode cX1_readSpelled 18 = .ok (.if_icmp .ge 31, 3) := by decide +kernel
theorem dX1_readSpelled_21 : decode cX1_readSpelled 21 = .ok (.aload_n 0, 1) := by decide +kernel
theorem dX1_readSpelled_22 : decode cX1_readSpelled 22 = .ok (.getfield 9, 3) := by decide +kernel
theorem dX1_readSpelled_25 : decode cX1_readSpelled 25 = .ok (.aload_n 0, 1) := by decide +kernel
theorem dX1_readSpelled_26 : decode cX1_readSpelled 26 = .ok (.getfield 27, 3) := by decide +kernel
theorem dX1_readSpelled_29 : decode cX1_readSpelled 29 = .ok (.iaload, 1) := by decide +kernel
theorem dX1_readSpelled_30 : decode cX1_readSpelled 30 = .ok (.invokestatic 87, 3) := by decide +kernel
theorem dX1_readSpelled_33 : decode cX1_readSpelled 33 = .ok (.ifCond .eq 16, 3) := by decide +kernel
theorem dX1_readSpelled_36 : decode cX1_readSpelled 36 = .ok (.aload_n 0, 1) := by decide +kernel
theorem dX1_readSpelled_37 : decode cX1_readSpelled 37 = .ok (.dup, 1) := by decide +kernel
theorem dX1_readSpelled_38 : decode cX1_readSpelled 38 = .ok (.getfield 27, 3) := by decide +kernel
theorem dX1_readSpelled_41 : decode cX1_readSpelled 41 = .ok (.iconst 1, 1) := by decide +kernel
theorem dX1_readSpelled_42 : decode cX1_readSpelled 42 = .ok (.iadd, 1) := by decide +kernel
theorem dX1_readSpelled_43 : decode cX1_readSpelled 43 = .ok (.putfield 27, 3) := by decide +kernel
theorem dX1_readSpelled_46 : decode cX1_readSpelled 46 = .ok (.goto (-46), 3) := by decide +kernel
theorem dX1_readSpelled_49 : decode cX1_readSpelled 49 = .ok (.aload_n 0, 1) := by decide +kernel
theorem dX1_readSpelled_50 : decode cX1_readSpelled 50 = .ok (.getfield 27, 3) := by decide +kernel
theorem dX1_readSpelled_53 : decode cX1_readSpelled 53 = .ok (.aload_n 0, 1) := by decide +kernel
theorem dX1_readSpelled_54 : decode cX1_readSpelled 54 = .ok (.getfield 58, 3) := by decide +kernel
theorem dX1_readSpelled_57 : decode cX1_readSpelled 57 = .ok (.isub, 1) := by decide +kernel
theorem dX1_readSpelled_58 : decode cX1_readSpelled 58 = .ok (.istore_n 1, 1) := by decide +kernel
theorem dX1_readSpelled_59 : decode cX1_readSpelled 59 = .ok (.aload_n 0, 1) := by decide +kernel
theorem dX1_readSpelled_60 : decode cX1_readSpelled 60 = .ok (.sipush 302, 3) := by decide +kernel
theorem dX1_readSpelled_63 : decode cX1_readSpelled 63 = .ok (.putfield 52, 3) := by decide +kernel
theorem dX1_readSpelled_66 : decode cX1_readSpelled 66 = .ok (.iconst 0, 1) := by decide +kernel
theorem dX1_readSpelled_67 : decode cX1_readSpelled 67 = .ok (.istore_n 2, 1) := by decide +kernel
theorem dX1_readSpelled_68 : decode cX1_readSpelled 68 = .ok (.iload_n 2, 1) := by decide +kernel
theorem dX1_readSpelled_69 : decode cX1_readSpelled 69 = .ok (.bipush 12, 2) := by decide +kernel
theorem dX1_readSpelled_71 : decode cX1_readSpelled 71 = .ok (.if_icmp .ge 79, 3) := by decide +kernel
theorem dX1_readSpelled_74 : decode cX1_readSpelled 74 = .ok (.iload_n 1, 1) := by decide +kernel
theorem dX1_readSpelled_75 : decode cX1_readSpelled 75 = .ok (.bipush 7, 2) := by decide +kernel
theorem dX1_readSpelled_77 : decode cX1_readSpelled 77 = .ok (.if_icmp .ge 73, 3) := by decide +kernel
theorem dX1_readSpelled_80 : decode cX1_readSpelled 80 = .ok (.iconst 0, 1) := by decide +kernel
theorem dX1_readSpelled_81 : decode cX1_readSpelled 81 = .ok (.istore_n 3, 1) := by decide +kernel
theorem dX1_readSpelled_82 : decode cX1_readSpelled 82 = .ok (.iload_n 3, 1) := by decide +kernel
theorem dX1_readSpelled_83 : decode cX1_readSpelled 83 = .ok (.iload_n 1, 1) := by decide +kernel
theorem dX1_readSpelled_84 : decode cX1_readSpelled 84 = .ok (.if_icmp .ge 34, 3) := by decide +kernel
theorem dX1_readSpelled_87 : decode cX1_readSpelled 87 = .ok (.ldc 106, 2) := by decide +kernel
theorem dX1_readSpelled_89 : decode cX1_readSpelled 89 = .ok (.iload_n 2, 1) := by decide +kernel
theorem dX1_readSpelled_90 : decode cX1_readSpelled 90 = .ok (.bipush 7, 2) := by decide +kernel
theorem dX1_readSpelled_92 : decode cX1_readSpelled 92 = .ok (.imul, 1) := by decide +kernel
theorem dX1_readSpelled_93 : decode cX1_readSpelled 93 = .ok (.iload_n 3, 1) := by decide +kernel
theorem dX1_readSpelled_94 : decode cX1_readSpelled 94 = .ok (.iadd, 1) := by decide +kernel
theorem dX1_readSpelled_95 : decode cX1_readSpelled 95 = .ok (.invokevirtual 108, 3) := by decide +kernel
theorem dX1_readSpelled_98 : decode cX1_readSpelled 98 = .ok (.aload_n 0, 1) := by decide +kernel
theorem dX1_readSpelled_99 : decode cX1_readSpelled 99 = .ok (.getfield 9, 3) := by decide +kernel
theorem dX1_readSpelled_102 : decode cX1_readSpelled 102 = .ok (.aload_n 0, 1) := by decide +kernel
theorem dX1_readSpelled_103 : decode cX1_readSpelled 103 = .ok (.getfield 58, 3) := by decide +kernel
theorem dX1_readSpelled_106 : decode cX1_readSpelled 106 = .ok (.iload_n 3, 1) := by decide +kernel
theorem dX1_readSpelled_107 : decode cX1_readSpelled 107 = .ok (.iadd, 1) := by decide +kernel
theorem dX1_readSpelled_108 : decode cX1_readSpelled 108 = .ok (.iaload, 1) := by decide +kernel
theorem dX1_readSpelled_109 : decode cX1_readSpelled 109 = .ok (.if_icmp .ne 9, 3) := by decide +kernel
theorem dX1_readSpelled_112 : decode cX1_readSpelled 112 = .ok (.iinc 3 1, 3) := by decide +kernel
theorem dX1_readSpelled_115 : decode cX1_readSpelled 115 = .ok (.goto (-33), 3) := by decide +kernel
theorem dX1_readSpelled_118 : decode cX1_readSpelled 118 = .ok (.iload_n 3, 1) := by decide +kernel
theorem dX1_readSpelled_119 : decode cX1_readSpelled 119 = .ok (.iload_n 1, 1) := by decide +kernel
theorem dX1_readSpelled_120 : decode cX1_readSpelled 120 = .ok (.if_icmp .ne 24, 3) := by decide +kernel
theorem dX1_readSpelled_123 : decode cX1_readSpelled 123 = .ok (.ldc 106, 2) := by decide +kernel
theorem dX1_readSpelled_125 : decode cX1_readSpelled 125 = .ok (.iload_n 2, 1) := by decide +kernel
theorem dX1_readSpelled_126 : decode cX1_readSpelled 126 = .ok (.bipush 7, 2) := by decide +kernel
theorem dX1_readSpelled_128 : decode cX1_readSpelled 128 = .ok (.imul, 1) := by decide +kernel
theorem dX1_readSpelled_129 : decode cX1_readSpelled 129 = .ok (.iload_n 3, 1) := by decide +kernel
theorem dX1_readSpelled_130 : decode cX1_readSpelled 130 = .ok (.iadd, 1) := by decide +kernel
theorem dX1_readSpelled_131 : decode cX1_readSpelled 131 = .ok (.invokevirtual 108, 3) := by decide +kernel
theorem dX1_readSpelled_134 : decode cX1_readSpelled 134 = .ok (.bipush 32, 2) := by decide +kernel
theorem dX1_readSpelled_136 : decode cX1_readSpelled 136 = .ok (.if_icmp .ne 8, 3) := by decide +kernel
theorem dX1_readSpelled_139 : decode cX1_readSpelled 139 = .ok (.aload_n 0, 1) := by decide +kernel
theorem dX1_readSpelled_140 : decode cX1_readSpelled 140 = .ok (.iload_n 2, 1) := by decide +kernel
theorem dX1_readSpelled_141 : decode cX1_readSpelled 141 = .ok (.putfield 52, 3) := by decide +kernel
theorem dX1_readSpelled_144 : decode cX1_readSpelled 144 = .ok (.iinc 2 1, 3) := by decide +kernel
theorem dX1_readSpelled_147 : decode cX1_readSpelled 147 = .ok (.goto (-79), 3) := by decide +kernel
theorem dX1_readSpelled_150 : decode cX1_readSpelled 150 = .ok (.return_, 1) := by decide +kernel
theorem dX1_readNumber_0 : decode cX1_readNumber 0 = .ok (.aload_n 0, 1) := by decide +kernel
theorem dX1_readNumber_1 : decode cX1_readNumber 1 = .ok (.iconst 0, 1) := by decide +kernel
theorem dX1_readNumber_2 : decode cX1_readNumber 2 = .ok (.putfield 81, 3) := by decide +kernel
theorem dX1_readNumber_5 : decode cX1_readNumber 5 = .ok (.aload_n 0, 1) := by decide +kernel
theorem dX1_readNumber_6 : decode cX1_readNumber 6 = .ok (.getfield 27, 3) := by decide +kernel
theorem dX1_readNumber_9 : decode cX1_readNumber 9 = .ok (.aload_n 0, 1) := by decide +kernel
theorem dX1_readNumber_10 : decode cX1_readNumber 10 = .ok (.getfield 19, 3) := by decide +kernel
theorem dX1_readNumber_13 : decode cX1_readNumber 13 = .ok (.if_icmp .ge 85, 3) := by decide +kernel
theorem dX1_readNumber_16 : decode cX1_readNumber 16 = .ok (.aload_n 0, 1) := by decide +kernel
theorem dX1_readNumber_17 : decode cX1_readNumber 17 = .ok (.getfield 27, 3) := by decide +kernel
theorem dX1_readNumber_20 : decode cX1_readNumber 20 = .ok (.sipush 160, 3) := by decide +kernel
theorem dX1_readNumber_23 : decode cX1_readNumber 23 = .ok (.if_icmp .ge 75, 3) := by decide +kernel
theorem dX1_readNumber_26 : decode cX1_readNumber 26 = .ok (.aload_n 0, 1) := by decide +kernel
theorem dX1_readNumber_27 : decode cX1_readNumber 27 = .ok (.getfield 9, 3) := by decide +kernel
theorem dX1_readNumber_30 : decode cX1_readNumber 30 = .ok (.aload_n 0, 1) := by decide +kernel
theorem dX1_readNumber_31 : decode cX1_readNumber 31 = .ok (.getfield 27, 3) := by decide +kernel
theorem dX1_readNumber_34 : decode cX1_readNumber 34 = .ok (.iaload, 1) := by decide +kernel
theorem dX1_readNumber_35 : decode cX1_readNumber 35 = .ok (.invokestatic 93, 3) := by decide +kernel
theorem dX1_readNumber_38 : decode cX1_readNumber 38 = .ok (.ifCond .eq 60, 3) := by decide +kernel
theorem dX1_readNumber_41 : decode cX1_readNumber 41 = .ok (.aload_n 0, 1) := by decide +kernel
theorem dX1_readNumber_42 : decode cX1_readNumber 42 = .ok (.aload_n 0, 1) := by decide +kernel
theorem dX1_readNumber_43 : decode cX1_readNumber 43 = .ok (.getfield 27, 3) := by decide +kernel
theorem dX1_readNumber_46 : decode cX1_readNumber 46 = .ok (.aload_n 0, 1) := by decide +kernel
theorem dX1_readNumber_47 : decode cX1_readNumber 47 = .ok (.getfield 58, 3) := by decide +kernel
theorem dX1_readNumber_50 : decode cX1_readNumber 50 = .ok (.isub, 1) := by decide +kernel
theorem dX1_readNumber_51 : decode cX1_readNumber 51 = .ok (.iconst 4, 1) := by decide +kernel
theorem dX1_readNumber_52 : decode cX1_readNumber 52 = .ok (.if_icmp .ge 26, 3) := by decide +kernel
theorem dX1_readNumber_55 : decode cX1_readNumber 55 = .ok (.aload_n 0, 1) := by decide +kernel
theorem dX1_readNumber_56 : decode cX1_readNumber 56 = .ok (.getfield 81, 3) := by decide +kernel
theorem dX1_readNumber_59 : decode cX1_readNumber 59 = .ok (.bipush 10, 2) := by decide +kernel
theorem dX1_readNumber_61 : decode cX1_readNumber 61 = .ok (.imul, 1) := by decide +kernel
theorem dX1_readNumber_62 : decode cX1_readNumber 62 = .ok (.aload_n 0, 1) := by decide +kernel
theorem dX1_readNumber_63 : decode cX1_readNumber 63 = .ok (.getfield 9, 3) := by decide +kernel
theorem dX1_readNumber_66 : decode cX1_readNumber 66 = .ok (.aload_n 0, 1) := by decide +kernel
theorem dX1_readNumber_67 : decode cX1_readNumber 67 = .ok (.getfield 27, 3) := by decide +kernel
theorem dX1_readNumber_70 : decode cX1_readNumber 70 = .ok (.iaload, 1) := by decide +kernel
theorem dX1_readNumber_71 : decode cX1_readNumber 71 = .ok (.iadd, 1) := by decide +kernel
theorem dX1_readNumber_72 : decode cX1_readNumber 72 = .ok (.bipush 48, 2) := by decide +kernel
theorem dX1_readNumber_74 : decode cX1_readNumber 74 = .ok (.isub, 1) := by decide +kernel
theorem dX1_readNumber_75 : decode cX1_readNumber 75 = .ok (.goto 7, 3) := by decide +kernel
theorem dX1_readNumber_78 : decode cX1_readNumber 78 = .ok (.aload_n 0, 1) := by decide +kernel
theorem dX1_readNumber_79 : decode cX1_readNumber 79 = .ok (.getfield 81, 3) := by decide +kernel
theorem dX1_readNumber_82 : decode cX1_readNumber 82 = .ok (.putfield 81, 3) := by decide +kernel
theorem dX1_readNumber_85 : decode cX1_readNumber 85 = .ok (.aload_n 0, 1) := by decide +kernel
theorem dX1_readNumber_86 : decode cX1_readNumber 86 = .ok (.dup, 1) := by decide +kernel
theorem dX1_readNumber_87 : decode cX1_readNumber 87 = .ok (.getfield 27, 3) := by decide +kernel
theorem dX1_readNumber_90 : decode cX1_readNumber 90 = .ok (.iconst 1, 1) := by decide +kernel
theorem dX1_readNumber_91 : decode cX1_readNumber 91 = .ok (.iadd, 1) := by decide +kernel
theorem dX1_readNumber_92 : decode cX1_readNumber 92 = .ok (.putfield 27, 3) := by decide +kernel
theorem dX1_readNumber_95 : decode cX1_readNumber 95 = .ok (.goto (-90), 3) := by decide +kernel
theorem dX1_readNumber_98 : decode cX1_readNumber 98 = .ok (.aload_n 0, 1) := by decide +kernel
theorem dX1_readNumber_99 : decode cX1_readNumber 99 = .ok (.aload_n 0, 1) := by decide +kernel
theorem dX1_readNumber_100 : decode cX1_readNumber 100 = .ok (.getfield 27, 3) := by decide +kernel
theorem dX1_readNumber_103 : decode cX1_readNumber 103 = .ok (.aload_n 0, 1) := by decide +kernel
theorem dX1_readNumber_104 : decode cX1_readNumber 104 = .ok (.getfield 58, 3) := by decide +kernel
theorem dX1_readNumber_107 : decode cX1_readNumber 107 = .ok (.isub, 1) := by decide +kernel
theorem dX1_readNumber_108 : decode cX1_readNumber 108 = .ok (.iconst 4, 1) := by decide +kernel
theorem dX1_readNumber_109 : decode cX1_readNumber 109 = .ok (.if_icmp .gt 9, 3) := by decide +kernel
theorem dX1_readNumber_112 : decode cX1_readNumber 112 = .ok (.sipush 300, 3) := by decide +kernel
theorem dX1_readNumber_115 : decode cX1_readNumber 115 = .ok (.goto 6, 3) := by decide +kernel
theorem dX1_readNumber_118 : decode cX1_readNumber 118 = .ok (.sipush 302, 3) := by decide +kernel
theorem dX1_readNumber_121 : decode cX1_readNumber 121 = .ok (.putfield 52, 3) := by decide +kernel
theorem dX1_readNumber_124 : decode cX1_readNumber 124 = .ok (.return_, 1) := by decide +kernel
theorem dX1_isBlank_0 : decode cX1_isBlank 0 = .ok (.iload_n 0, 1) := by decide +kernel
theorem dX1_isBlank_1 : decode cX1_isBlank 1 = .ok (.bipush 32, 2) := by decide +kernel
theorem dX1_isBlank_3 : decode cX1_isBlank 3 = .ok (.if_icmp .eq 9, 3) := by decide +kernel
theorem dX1_isBlank_6 : decode cX1_isBlank 6 = .ok (.iload_n 0, 1) := by decide +kernel
theorem dX1_isBlank_7 : decode cX1_isBlank 7 = .ok (.bipush 10, 2) := by decide +kernel
theorem dX1_isBlank_9 : decode cX1_isBlank 9 = .ok (.if_icmp .ne 7, 3) := by decide +kernel
theorem dX1_isBlank_12 : decode cX1_isBlank 12 = .ok (.iconst 1, 1) := by decide +kernel
theorem dX1_isBlank_13 : decode cX1_isBlank 13 = .ok (.goto 4, 3) := by decide +kernel
theorem dX1_isBlank_16 : decode cX1_isBlank 16 = .ok (.iconst 0, 1) := by decide +kernel
theorem dX1_isBlank_17 : decode cX1_isBlank 17 = .ok (.ireturn, 1) := by decide +kernel
theorem dX1_isLetter_0 : decode cX1_isLetter 0 = .ok (.iload_n 0, 1) := by decide +kernel
theorem dX1_isLetter_1 : decode cX1_isLetter 1 = .ok (.bipush 97, 2) := by decide +kernel
theorem dX1_isLetter_3 : decode cX1_isLetter 3 = .ok (.if_icmp .lt 13, 3) := by decide +kernel
theorem dX1_isLetter_6 : decode cX1_isLetter 6 = .ok (.iload_n 0, 1) := by decide +kernel
theorem dX1_isLetter_7 : decode cX1_isLetter 7 = .ok (.bipush 122, 2) := by decide +kernel
theorem dX1_isLetter_9 : decode cX1_isLetter 9 = .ok (.if_icmp .gt 7, 3) := by decide +kernel
theorem dX1_isLetter_12 : decode cX1_isLetter 12 = .ok (.iconst 1, 1) := by decide +kernel
theorem dX1_isLetter_13 : decode cX1_isLetter 13 = .ok (.goto 4, 3) := by decide +kernel
theorem dX1_isLetter_16 : decode cX1_isLetter 16 = .ok (.iconst 0, 1) := by decide +kernel
theorem dX1_isLetter_17 : decode cX1_isLetter 17 = .ok (.ireturn, 1) := by decide +kernel
theorem dX1_isDigit_0 : decode cX1_isDigit 0 = .ok (.iload_n 0, 1) := by decide +kernel
theorem dX1_isDigit_1 : decode cX1_isDigit 1 = .ok (.bipush 48, 2) := by decide +kernel
theorem dX1_isDigit_3 : decode cX1_isDigit 3 = .ok (.if_icmp .lt 13, 3) := by decide +kernel
theorem dX1_isDigit_6 : decode cX1_isDigit 6 = .ok (.iload_n 0, 1) := by decide +kernel
theorem dX1_isDigit_7 : decode cX1_isDigit 7 = .ok (.bipush 57, 2) := by decide +kernel
theorem dX1_isDigit_9 : decode cX1_isDigit 9 = .ok (.if_icmp .gt 7, 3) := by decide +kernel
theorem dX1_isDigit_12 : decode cX1_isDigit 12 = .ok (.iconst 1, 1) := by decide +kernel
theorem dX1_isDigit_13 : decode cX1_isDigit 13 = .ok (.goto 4, 3) := by decide +kernel
theorem dX1_isDigit_16 : decode cX1_isDigit 16 = .ok (.iconst 0, 1) := by decide +kernel
theorem dX1_isDigit_17 : decode cX1_isDigit 17 = .ok (.ireturn, 1) := by decide +kernel
theorem dX2_init_0 : decode cX2_init 0 = .ok (.aload_n 0, 1) := by decide +kernel
theorem dX2_init_1 : decode cX2_init 1 = .ok (.invokespecial 3, 3) := by decide +kernel
theorem dX2_init_4 : decode cX2_init 4 = .ok (.aload_n 0, 1) := by decide +kernel
theorem dX2_init_5 : decode cX2_init 5 = .ok (.bipush 40, 2) := by decide +kernel
theorem dX2_init_7 : decode cX2_init 7 = .ok (.newarray .int, 2) := by decide +kernel
theorem dX2_init_9 : decode cX2_init 9 = .ok (.putfield 9, 3) := by decide +kernel
theorem dX2_init_12 : decode cX2_init 12 = .ok (.aload_n 0, 1) := by decide +kernel
theorem dX2_init_13 : decode cX2_init 13 = .ok (.iconst 5, 1) := by decide +kernel
theorem dX2_init_14 : decode cX2_init 14 = .ok (.newarray .int, 2) := by decide +kernel
theorem dX2_init_16 : decode cX2_init 16 = .ok (.putfield 15, 3) := by decide +kernel
theorem dX2_init_19 : decode cX2_init 19 = .ok (.aload_n 0, 1) := by decide +kernel
theorem dX2_init_20 : decode cX2_init 20 = .ok (.iconst 5, 1) := by decide +kernel
theorem dX2_init_21 : decode cX2_init 21 = .ok (.newarray .int, 2) := by decide +kernel
theorem dX2_init_23 : decode cX2_init 23 = .ok (.putfield 18, 3) := by decide +kernel
theorem dX2_init_26 : decode cX2_init 26 = .ok (.aload_n 0, 1) := by decide +kernel
theorem dX2_init_27 : decode cX2_init 27 = .ok (.iconst 5, 1) := by decide +kernel
theorem dX2_init_28 : decode cX2_init 28 = .ok (.newarray .int, 2) := by decide +kernel
theorem dX2_init_30 : decode cX2_init 30 = .ok (.putfield 21, 3) := by decide +kernel
theorem dX2_init_33 : decode cX2_init 33 = .ok (.aload_n 0, 1) := by decide +kernel
theorem dX2_init_34 : decode cX2_init 34 = .ok (.iconst 5, 1) := by decide +kernel
theorem dX2_init_35 : decode cX2_init 35 = .ok (.newarray .int, 2) := by decide +kernel
theorem dX2_init_37 : decode cX2_init 37 = .ok (.putfield 24, 3) := by decide +kernel
theorem dX2_init_40 : decode cX2_init 40 = .ok (.return_, 1) := by decide +kernel
theorem dX2_become_0 : decode cX2_become 0 = .ok (.aload_n 1, 1) := by decide +kernel
theorem dX2_become_1 : decode cX2_become 1 = .ok (.getfield 9, 3) := by decide +kernel
theorem dX2_become_4 : decode cX2_become 4 = .ok (.iconst 0, 1) := by decide +kernel
theorem dX2_become_5 : decode cX2_become 5 = .ok (.aload_n 0, 1) := by decide +kernel
theorem dX2_become_6 : decode cX2_become 6 = .ok (.getfield 9, 3) := by decide +kernel
theorem dX2_become_9 : decode cX2_become 9 = .ok (.iconst 0, 1) := by decide +kernel
theorem dX2_become_10 : decode cX2_become 10 = .ok (.bipush 40, 2) := by decide +kernel
theorem dX2_become_12 : decode cX2_become 12 = .ok (.invokestatic 27, 3) := by decide +kernel
theorem dX2_become_15 : decode cX2_become 15 = .ok (.aload_n 1, 1) := by decide +kernel
theorem dX2_become_16 : decode cX2_become 16 = .ok (.getfield 15, 3) := by decide +kernel
theorem dX2_become_19 : decode cX2_become 19 = .ok (.iconst 0, 1) := by decide +kernel
theorem dX2_become_20 : decode cX2_become 20 = .ok (.aload_n 0, 1) := by decide +kernel
theorem dX2_become_21 : decode cX2_become 21 = .ok (.getfield 15, 3) := by decide +kernel
theorem dX2_become_24 : decode cX2_become 24 = .ok (.iconst 0, 1) := by decide +kernel
theorem dX2_become_25 : decode cX2_become 25 = .ok (.iconst 5, 1) := by decide +kernel
theorem dX2_become_26 : decode cX2_become 26 = .ok (.invokestatic 27, 3) := by decide +kernel
theorem dX2_become_29 : decode cX2_become 29 = .ok (.aload_n 1, 1) := by decide +kernel
theorem dX2_become_30 : decode cX2_become 30 = .ok (.getfield 18, 3) := by decide +kernel
theorem dX2_become_33 : decode cX2_become 33 = .ok (.iconst 0, 1) := by decide +kernel
theorem dX2_become_34 : decode cX2_become 34 = .ok (.aload_n 0, 1) := by decide +kernel
theorem dX2_become_35 : decode cX2_become 35 = .ok (.getfield 18, 3) := by decide +kernel
theorem dX2_become_38 : decode cX2_become 38 = .ok (.iconst 0, 1) := by decide +kernel
theorem dX2_become_39 : decode cX2_become 39 = .ok (.iconst 5, 1) := by decide +kernel
theorem dX2_become_40 : decode cX2_become 40 = .ok (.invokestatic 27, 3) := by decide +kernel
theorem dX2_become_43 : decode cX2_become 43 = .ok (.aload_n 1, 1) := by decide +kernel
theorem dX2_become_44 : decode cX2_become 44 = .ok (.getfield 21, 3) := by decide +kernel
theorem dX2_become_47 : decode cX2_become 47 = .ok (.iconst 0, 1) := by decide +kernel
theorem dX2_become_48 : decode cX2_become 48 = .ok (.aload_n 0, 1) := by decide +kernel
theorem dX2_become_49 : decode cX2_become 49 = .ok (.getfield 21, 3) := by decide +kernel
theorem dX2_become_52 : decode cX2_become 52 = .ok (.iconst 0, 1) := by decide +kernel
theorem dX2_become_53 : decode cX2_become 53 = .ok (.iconst 5, 1) := by decide +kernel
theorem dX2_become_54 : decode cX2_become 54 = .ok (.invokestatic 27, 3) := by decide +kernel
theorem dX2_become_57 : decode cX2_become 57 = .ok (.aload_n 1, 1) := by decide +kernel
theorem dX2_become_58 : decode cX2_become 58 = .ok (.getfield 24, 3) := by decide +kernel
theorem dX2_become_61 : decode cX2_become 61 = .ok (.iconst 0, 1) := by decide +kernel
theorem dX2_become_62 : decode cX2_become 62 = .ok (.aload_n 0, 1) := by decide +kernel
theorem dX2_become_63 : decode cX2_become 63 = .ok (.getfield 24, 3) := by decide +kernel
theorem dX2_become_66 : decode cX2_become 66 = .ok (.iconst 0, 1) := by decide +kernel
theorem dX2_become_67 : decode cX2_become 67 = .ok (.iconst 5, 1) := by decide +kernel
theorem dX2_become_68 : decode cX2_become 68 = .ok (.invokestatic 27, 3) := by decide +kernel
theorem dX2_become_71 : decode cX2_become 71 = .ok (.aload_n 0, 1) := by decide +kernel
theorem dX2_become_72 : decode cX2_become 72 = .ok (.aload_n 1, 1) := by decide +kernel
theorem dX2_become_73 : decode cX2_become 73 = .ok (.getfield 33, 3) := by decide +kernel
theorem dX2_become_76 : decode cX2_become 76 = .ok (.putfield 33, 3) := by decide +kernel
theorem dX2_become_79 : decode cX2_become 79 = .ok (.aload_n 0, 1) := by decide +kernel
theorem dX2_become_80 : decode cX2_become 80 = .ok (.aload_n 1, 1) := by decide +kernel
theorem dX2_become_81 : decode cX2_become 81 = .ok (.getfield 37, 3) := by decide +kernel
theorem dX2_become_84 : decode cX2_become 84 = .ok (.putfield 37, 3) := by decide +kernel
theorem dX2_become_87 : decode cX2_become 87 = .ok (.aload_n 0, 1) := by decide +kernel
theorem dX2_become_88 : decode cX2_become 88 = .ok (.aload_n 1, 1) := by decide +kernel
theorem dX2_become_89 : decode cX2_become 89 = .ok (.getfield 40, 3) := by decide +kernel
theorem dX2_become_92 : decode cX2_become 92 = .ok (.putfield 40, 3) := by decide +kernel
theorem dX2_become_95 : decode cX2_become 95 = .ok (.return_, 1) := by decide +kernel
theorem dX2_has_0 : decode cX2_has 0 = .ok (.iload_n 1, 1) := by decide +kernel
theorem dX2_has_1 : decode cX2_has 1 = .ok (.aload_n 0, 1) := by decide +kernel
theorem dX2_has_2 : decode cX2_has 2 = .ok (.getfield 33, 3) := by decide +kernel
theorem dX2_has_5 : decode cX2_has 5 = .ok (.invokestatic 43, 3) := by decide +kernel
theorem dX2_has_8 : decode cX2_has 8 = .ok (.ifCond .eq 12, 3) := by decide +kernel
theorem dX2_has_11 : decode cX2_has 11 = .ok (.iload_n 1, 1) := by decide +kernel
theorem dX2_has_12 : decode cX2_has 12 = .ok (.iconst 5, 1) := by decide +kernel
theorem dX2_has_13 : decode cX2_has 13 = .ok (.if_icmp .ge 7, 3) := by decide +kernel
theorem dX2_has_16 : decode cX2_has 16 = .ok (.iconst 1, 1) := by decide +kernel
theorem dX2_has_17 : decode cX2_has 17 = .ok (.goto 4, 3) := by decide +kernel
theorem dX2_has_20 : decode cX2_has 20 = .ok (.iconst 0, 1) := by decide +kernel
theorem dX2_has_21 : decode cX2_has 21 = .ok (.ireturn, 1) := by decide +kernel
theorem dX2_seat_0 : decode cX2_seat 0 = .ok (.aload_n 0, 1) := by decide +kernel
theorem dX2_seat_1 : decode cX2_seat 1 = .ok (.getfield 33, 3) := by decide +kernel
theorem dX2_seat_4 : decode cX2_seat 4 = .ok (.ifCond .lt 11, 3) := by decide +kernel
theorem dX2_seat_7 : decode cX2_seat 7 = .ok (.aload_n 0, 1) := by decide +kernel
theorem dX2_seat_8 : decode cX2_seat 8 = .ok (.getfield 33, 3) := by decide +kernel
theorem dX2_seat_11 : decode cX2_seat 11 = .ok (.iconst 5, 1) := by decide +kernel
theorem dX2_seat_12 : decode cX2_seat 12 = .ok (.if_icmp .lt 6, 3) := by decide +kernel
theorem dX2_seat_15 : decode cX2_seat 15 = .ok (.bipush (-4), 2) := by decide +kernel
theorem dX2_seat_17 : decode cX2_seat 17 = .ok (.ireturn, 1) := by decide +kernel
theorem dX2_seat_18 : decode cX2_seat 18 = .ok (.aload_n 0, 1) := by decide +kernel
theorem dX2_seat_19 : decode cX2_seat 19 = .ok (.getfield 15, 3) := by decide +kernel
theorem dX2_seat_22 : decode cX2_seat 22 = .ok (.aload_n 0, 1) := by decide +kernel
theorem dX2_seat_23 : decode cX2_seat 23 = .ok (.getfield 33, 3) := by decide +kernel
theorem dX2_seat_26 : decode cX2_seat 26 = .ok (.iload_n 1, 1) := by decide +kernel
theorem dX2_seat_27 : decode cX2_seat 27 = .ok (.iastore, 1) := by decide +kernel
theorem dX2_seat_28 : decode cX2_seat 28 = .ok (.aload_n 0, 1) := by decide +kernel
theorem dX2_seat_29 : decode cX2_seat 29 = .ok (.getfield 18, 3) := by decide +kernel
theorem dX2_seat_32 : decode cX2_seat 32 = .ok (.aload_n 0, 1) := by decide +kernel
theorem dX2_seat_33 : decode cX2_seat 33 = .ok (.getfield 33, 3) := by decide +kernel
theorem dX2_seat_36 : decode cX2_seat 36 = .ok (.iload_n 2, 1) := by decide +kernel
theorem dX2_seat_37 : decode cX2_seat 37 = .ok (.iastore, 1) := by decide +kernel
theorem dX2_seat_38 : decode cX2_seat 38 = .ok (.aload_n 0, 1) := by decide +kernel
theorem dX2_seat_39 : decode cX2_seat 39 = .ok (.getfield 21, 3) := by decide +kernel
theorem dX2_seat_42 : decode cX2_seat 42 = .ok (.aload_n 0, 1) := by decide +kernel
theorem dX2_seat_43 : decode cX2_seat 43 = .ok (.getfield 33, 3) := by decide +kernel
theorem dX2_seat_46 : decode cX2_seat 46 = .ok (.iload_n 3, 1) := by decide +kernel
theorem dX2_seat_47 : decode cX2_seat 47 = .ok (.iastore, 1) := by decide +kernel
theorem dX2_seat_48 : decode cX2_seat 48 = .ok (.aload_n 0, 1) := by decide +kernel
theorem dX2_seat_49 : decode cX2_seat 49 = .ok (.getfield 24, 3) := by decide +kernel
theorem dX2_seat_52 : decode cX2_seat 52 = .ok (.aload_n 0, 1) := by decide +kernel
theorem dX2_seat_53 : decode cX2_seat 53 = .ok (.getfield 33, 3) := by decide +kernel
theorem dX2_seat_56 : decode cX2_seat 56 = .ok (.iconst 0, 1) := by decide +kernel
theorem dX2_seat_57 : decode cX2_seat 57 = .ok (.iastore, 1) := by decide +kernel
theorem dX2_seat_58 : decode cX2_seat 58 = .ok (.aload_n 0, 1) := by decide +kernel
theorem dX2_seat_59 : decode cX2_seat 59 = .ok (.dup, 1) := by decide +kernel
theorem dX2_seat_60 : decode cX2_seat 60 = .ok (.getfield 33, 3) := by decide +kernel
theorem dX2_seat_63 : decode cX2_seat 63 = .ok (.iconst 1, 1) := by decide +kernel
theorem dX2_seat_64 : decode cX2_seat 64 = .ok (.iadd, 1) := by decide +kernel
theorem dX2_seat_65 : decode cX2_seat 65 = .ok (.putfield 33, 3) := by decide +kernel
theorem dX2_seat_68 : decode cX2_seat 68 = .ok (.aload_n 0, 1) := by decide +kernel
theorem dX2_seat_69 : decode cX2_seat 69 = .ok (.getfield 33, 3) := by decide +kernel
theorem dX2_seat_72 : decode cX2_seat 72 = .ok (.iconst 1, 1) := by decide +kernel
theorem dX2_seat_73 : decode cX2_seat 73 = .ok (.isub, 1) := by decide +kernel
theorem dX2_seat_74 : decode cX2_seat 74 = .ok (.ireturn, 1) := by decide +kernel
theorem dX2_angerOf_0 : decode cX2_angerOf 0 = .ok (.aload_n 0, 1) := by decide +kernel
theorem dX2_angerOf_1 : decode cX2_angerOf 1 = .ok (.iload_n 1, 1) := by decide +kernel
theorem dX2_angerOf_2 : decode cX2_angerOf 2 = .ok (.invokevirtual 47, 3) := by decide +kernel
theorem dX2_angerOf_5 : decode cX2_angerOf 5 = .ok (.ifCond .eq 12, 3) := by decide +kernel
theorem dX2_angerOf_8 : decode cX2_angerOf 8 = .ok (.aload_n 0, 1) := by decide +kernel
theorem dX2_angerOf_9 : decode cX2_angerOf 9 = .ok (.getfield 21, 3) := by decide +kernel
theorem dX2_angerOf_12 : decode cX2_angerOf 12 = .ok (.iload_n 1, 1) := by decide +kernel
theorem dX2_angerOf_13 : decode cX2_angerOf 13 = .ok (.iaload, 1) := by decide +kernel
theorem dX2_angerOf_14 : decode cX2_angerOf 14 = .ok (.goto 4, 3) := by decide +kernel
theorem dX2_angerOf_17 : decode cX2_angerOf 17 = .ok (.iconst 0, 1) := by decide +kernel
theorem dX2_angerOf_18 : decode cX2_angerOf 18 = .ok (.ireturn, 1) := by decide +kernel
theorem dX2_hear_0 : decode cX2_hear 0 = .ok (.aload_n 0, 1) := by decide +kernel
theorem dX2_hear_1 : decode cX2_hear 1 = .ok (.iload_n 1, 1) := by decide +kernel
theorem dX2_hear_2 : decode cX2_hear 2 = .ok (.invokevirtual 47, 3) := by decide +kernel
theorem dX2_hear_5 : decode cX2_hear 5 = .ok (.ifCond .eq 30, 3) := by decide +kernel
theorem dX2_hear_8 : decode cX2_hear 8 = .ok (.aload_n 0, 1) := by decide +kernel
theorem dX2_hear_9 : decode cX2_hear 9 = .ok (.getfield 21, 3) := by decide +kernel
theorem dX2_hear_12 : decode cX2_hear 12 = .ok (.iload_n 1, 1) := by decide +kernel
theorem dX2_hear_13 : decode cX2_hear 13 = .ok (.iload_n 2, 1) := by decide +kernel
theorem dX2_hear_14 : decode cX2_hear 14 = .ok (.iastore, 1) := by decide +kernel
theorem dX2_hear_15 : decode cX2_hear 15 = .ok (.aload_n 0, 1) := by decide +kernel
theorem dX2_hear_16 : decode cX2_hear 16 = .ok (.getfield 24, 3) := by decide +kernel
theorem dX2_hear_19 : decode cX2_hear 19 = .ok (.iload_n 1, 1) := by decide +kernel
theorem dX2_hear_20 : decode cX2_hear 20 = .ok (.sipush 9999, 3) := by decide +kernel
theorem dX2_hear_23 : decode cX2_hear 23 = .ok (.aload_n 0, 1) := by decide +kernel
theorem dX2_hear_24 : decode cX2_hear 24 = .ok (.getfield 24, 3) := by decide +kernel
theorem dX2_hear_27 : decode cX2_hear 27 = .ok (.iload_n 1, 1) := by decide +kernel
theorem dX2_hear_28 : decode cX2_hear 28 = .ok (.iaload, 1) := by decide +kernel
theorem dX2_hear_29 : decode cX2_hear 29 = .ok (.iconst 1, 1) := by decide +kernel
theorem dX2_hear_30 : decode cX2_hear 30 = .ok (.iadd, 1) := by decide +kernel
theorem dX2_hear_31 : decode cX2_hear 31 = .ok (.invokestatic 51, 3) := by decide +kernel
theorem dX2_hear_34 : decode cX2_hear 34 = .ok (.iastore, 1) := by decide +kernel
theorem dX2_hear_35 : decode cX2_hear 35 = .ok (.return_, 1) := by decide +kernel
theorem dX2_toldOfAll_0 : decode cX2_toldOfAll 0 = .ok (.iconst 0, 1) := by decide +kernel
theorem dX2_toldOfAll_1 : decode cX2_toldOfAll 1 = .ok (.istore_n 1, 1) := by decide +kernel
theorem dX2_toldOfAll_2 : decode cX2_toldOfAll 2 = .ok (.iconst 0, 1) := by decide +kernel
theorem dX2_toldOfAll_3 : decode cX2_toldOfAll 3 = .ok (.istore_n 2, 1) := by decide +kernel
theorem dX2_toldOfAll_4 : decode cX2_toldOfAll 4 = .ok (.iload_n 2, 1) := by decide +kernel
theorem dX2_toldOfAll_5 : decode cX2_toldOfAll 5 = .ok (.aload_n 0, 1) := by decide +kernel
theorem dX2_toldOfAll_6 : decode cX2_toldOfAll 6 = .ok (.getfield 33, 3) := by decide +kernel
theorem dX2_toldOfAll_9 : decode cX2_toldOfAll 9 = .ok (.if_icmp .ge 23, 3) := by decide +kernel
theorem dX2_toldOfAll_12 : decode cX2_toldOfAll 12 = .ok (.iload_n 2, 1) := by decide +kernel
theorem dX2_toldOfAll_13 : decode cX2_toldOfAll 13 = .ok (.iconst 5, 1) := by decide +kernel
theorem dX2_toldOfAll_14 : decode cX2_toldOfAll 14 = .ok (.if_icmp .ge 18, 3) := by decide +kernel
theorem dX2_toldOfAll_17 : decode cX2_toldOfAll 17 = .ok (.iload_n 1, 1) := by decide +kernel
theorem dX2_toldOfAll_18 : decode cX2_toldOfAll 18 = .ok (.aload_n 0, 1) := by decide +kernel
theorem dX2_toldOfAll_19 : decode cX2_toldOfAll 19 = .ok (.getfield 24, 3) := by decide +kernel
theorem dX2_toldOfAll_22 : decode cX2_toldOfAll 22 = .ok (.iload_n 2, 1) := by decide +kernel
theorem dX2_toldOfAll_23 : decode cX2_toldOfAll 23 = .ok (.iaload, 1) := by decide +kernel
theorem dX2_toldOfAll_24 : decode cX2_toldOfAll 24 = .ok (.iadd, 1) := by decide +kernel
theorem dX2_toldOfAll_25 : decode cX2_toldOfAll 25 = .ok (.istore_n 1, 1) := by decide +kernel
theorem dX2_toldOfAll_26 : decode cX2_toldOfAll 26 = .ok (.iinc 2 1, 3) := by decide +kernel
theorem dX2_toldOfAll_29 : decode cX2_toldOfAll 29 = .ok (.goto (-25), 3) := by decide +kernel
theorem dX2_toldOfAll_32 : decode cX2_toldOfAll 32 = .ok (.iload_n 1, 1) := by decide +kernel
theorem dX2_toldOfAll_33 : decode cX2_toldOfAll 33 = .ok (.ireturn, 1) := by decide +kernel
theorem dX2_milesWithThing_0 : decode cX2_milesWithThing 0 = .ok (.lconst 0, 1) := by decide +kernel
theorem dX2_milesWithThing_1 : decode cX2_milesWithThing 1 = .ok (.lstore_n 1, 1) := by decide +kernel
theorem dX2_milesWithThing_2 : decode cX2_milesWithThing 2 = .ok (.iconst 0, 1) := by decide +kernel
theorem dX2_milesWithThing_3 : decode cX2_milesWithThing 3 = .ok (.istore_n 3, 1) := by decide +kernel
theorem dX2_milesWithThing_4 : decode cX2_milesWithThing 4 = .ok (.iload_n 3, 1) := by decide +kernel
theorem dX2_milesWithThing_5 : decode cX2_milesWithThing 5 = .ok (.bipush 40, 2) := by decide +kernel
theorem dX2_milesWithThing_7 : decode cX2_milesWithThing 7 = .ok (.if_icmp .ge 28, 3) := by decide +kernel
theorem dX2_milesWithThing_10 : decode cX2_milesWithThing 10 = .ok (.lload_n 1, 1) := by decide +kernel
theorem dX2_milesWithThing_11 : decode cX2_milesWithThing 11 = .ok (.aload_n 0, 1) := by decide +kernel
theorem dX2_milesWithThing_12 : decode cX2_milesWithThing 12 = .ok (.getfield 9, 3) := by decide +kernel
theorem dX2_milesWithThing_15 : decode cX2_milesWithThing 15 = .ok (.iload_n 3, 1) := by decide +kernel
theorem dX2_milesWithThing_16 : decode cX2_milesWithThing 16 = .ok (.iaload, 1) := by decide +kernel
theorem dX2_milesWithThing_17 : decode cX2_milesWithThing 17 = .ok (.ifCond .eq 9, 3) := by decide +kernel
theorem dX2_milesWithThing_20 : decode cX2_milesWithThing 20 = .ok (.lconst 1, 1) := by decide +kernel
theorem dX2_milesWithThing_21 : decode cX2_milesWithThing 21 = .ok (.iload_n 3, 1) := by decide +kernel
theorem dX2_milesWithThing_22 : decode cX2_milesWithThing 22 = .ok (.lshl, 1) := by decide +kernel
theorem dX2_milesWithThing_23 : decode cX2_milesWithThing 23 = .ok (.goto 4, 3) := by decide +kernel
theorem dX2_milesWithThing_26 : decode cX2_milesWithThing 26 = .ok (.lconst 0, 1) := by decide +kernel
theorem dX2_milesWithThing_27 : decode cX2_milesWithThing 27 = .ok (.lor, 1) := by decide +kernel
theorem dX2_milesWithThing_28 : decode cX2_milesWithThing 28 = .ok (.lstore_n 1, 1) := by decide +kernel
theorem dX2_milesWithThing_29 : decode cX2_milesWithThing 29 = .ok (.iinc 3 1, 3) := by decide +kernel
theorem dX2_milesWithThing_32 : decode cX2_milesWithThing 32 = .ok (.goto (-28), 3) := by decide +kernel
theorem dX2_milesWithThing_35 : decode cX2_milesWithThing 35 = .ok (.lload_n 1, 1) := by decide +kernel
theorem dX2_milesWithThing_36 : decode cX2_milesWithThing 36 = .ok (.lreturn, 1) := by decide +kernel
theorem dX2_furthestMileWithThing_0 : decode cX2_furthestMileWithThing 0 = .ok (.iload_n 1, 1) := by decide +kernel
theorem dX2_furthestMileWithThing_1 : decode cX2_furthestMileWithThing 1 = .ok (.bipush 40, 2) := by decide +kernel
theorem dX2_furthestMileWithThing_3 : decode cX2_furthestMileWithThing 3 = .ok (.invokestatic 51, 3) := by decide +kernel
theorem dX2_furthestMileWithThing_6 : decode cX2_furthestMileWithThing 6 = .ok (.iconst 1, 1) := by decide +kernel
theorem dX2_furthestMileWithThing_7 : decode cX2_furthestMileWithThing 7 = .ok (.isub, 1) := by decide +kernel
theorem dX2_furthestMileWithThing_8 : decode cX2_furthestMileWithThing 8 = .ok (.istore_n 2, 1) := by decide +kernel
theorem dX2_furthestMileWithThing_9 : decode cX2_furthestMileWithThing 9 = .ok (.iload_n 2, 1) := by decide +kernel
theorem dX2_furthestMileWithThing_10 : decode cX2_furthestMileWithThing 10 = .ok (.ifCond .lt 20, 3) := by decide +kernel
theorem dX2_furthestMileWithThing_13 : decode cX2_furthestMileWithThing 13 = .ok (.aload_n 0, 1) := by decide +kernel
theorem dX2_furthestMileWithThing_14 : decode cX2_furthestMileWithThing 14 = .ok (.getfield 9, 3) := by decide +kernel
theorem dX2_furthestMileWithThing_17 : decode cX2_furthestMileWithThing 17 = .ok (.iload_n 2, 1) := by decide +kernel
theorem dX2_furthestMileWithThing_18 : decode cX2_furthestMileWithThing 18 = .ok (.iaload, 1) := by decide +kernel
theorem dX2_furthestMileWithThing_19 : decode cX2_furthestMileWithThing 19 = .ok (.ifCond .eq 5, 3) := by decide +kernel
theorem dX2_furthestMileWithThing_22 : decode cX2_furthestMileWithThing 22 = .ok (.iload_n 2, 1) := by decide +kernel
theorem dX2_furthestMileWithThing_23 : decode cX2_furthestMileWithThing 23 = .ok (.ireturn, 1) := by decide +kernel
theorem dX2_furthestMileWithThing_24 : decode cX2_furthestMileWithThing 24 = .ok (.iinc 2 (-1), 3) := by decide +kernel
theorem dX2_furthestMileWithThing_27 : decode cX2_furthestMileWithThing 27 = .ok (.goto (-18), 3) := by decide +kernel
theorem dX2_furthestMileWithThing_30 : decode cX2_furthestMileWithThing 30 = .ok (.iconst (-1), 1) := by decide +kernel
theorem dX2_furthestMileWithThing_31 : decode cX2_furthestMileWithThing 31 = .ok (.ireturn, 1) := by decide +kernel
theorem dX2_furthestThing_0 : decode cX2_furthestThing 0 = .ok (.aload_n 0, 1) := by decide +kernel
theorem dX2_furthestThing_1 : decode cX2_furthestThing 1 = .ok (.iload_n 1, 1) := by decide +kernel
theorem dX2_furthestThing_2 : decode cX2_furthestThing 2 = .ok (.invokevirtual 57, 3) := by decide +kernel
theorem dX2_furthestThing_5 : decode cX2_furthestThing 5 = .ok (.istore_n 2, 1) := by decide +kernel
theorem dX2_furthestThing_6 : decode cX2_furthestThing 6 = .ok (.iload_n 2, 1) := by decide +kernel
theorem dX2_furthestThing_7 : decode cX2_furthestThing 7 = .ok (.bipush 40, 2) := by decide +kernel
theorem dX2_furthestThing_9 : decode cX2_furthestThing 9 = .ok (.invokestatic 43, 3) := by decide +kernel
theorem dX2_furthestThing_12 : decode cX2_furthestThing 12 = .ok (.ifCond .eq 12, 3) := by decide +kernel
theorem dX2_furthestThing_15 : decode cX2_furthestThing 15 = .ok (.aload_n 0, 1) := by decide +kernel
theorem dX2_furthestThing_16 : decode cX2_furthestThing 16 = .ok (.getfield 9, 3) := by decide +kernel
theorem dX2_furthestThing_19 : decode cX2_furthestThing 19 = .ok (.iload_n 2, 1) := by decide +kernel
theorem dX2_furthestThing_20 : decode cX2_furthestThing 20 = .ok (.iaload, 1) := by decide +kernel
theorem dX2_furthestThing_21 : decode cX2_furthestThing 21 = .ok (.goto 4, 3) := by decide +kernel
theorem dX2_furthestThing_24 : decode cX2_furthestThing 24 = .ok (.iconst 0, 1) := by decide +kernel
theorem dX2_furthestThing_25 : decode cX2_furthestThing 25 = .ok (.ireturn, 1) := by decide +kernel
theorem dX3_init_0 : decode cX3_init 0 = .ok (.aload_n 0, 1) := by decide +kernel
theorem dX3_init_1 : decode cX3_init 1 = .ok (.invokespecial 3, 3) := by decide +kernel
theorem dX3_init_4 : decode cX3_init 4 = .ok (.aload_n 0, 1) := by decide +kernel
theorem dX3_init_5 : decode cX3_init 5 = .ok (.bipush 40, 2) := by decide +kernel
theorem dX3_init_7 : decode cX3_init 7 = .ok (.newarray .int, 2) := by decide +kernel
theorem dX3_init_9 : decode cX3_init 9 = .ok (.putfield 9, 3) := by decide +kernel
theorem dX3_init_12 : decode cX3_init 12 = .ok (.aload_n 0, 1) := by decide +kernel
theorem dX3_init_13 : decode cX3_init 13 = .ok (.iconst (-1), 1) := by decide +kernel
theorem dX3_init_14 : decode cX3_init 14 = .ok (.putfield 15, 3) := by decide +kernel
theorem dX3_init_17 : decode cX3_init 17 = .ok (.return_, 1) := by decide +kernel
theorem dX3_missing_0 : decode cX3_missing 0 = .ok (.aload_n 0, 1) := by decide +kernel
theorem dX3_missing_1 : decode cX3_missing 1 = .ok (.getfield 15, 3) := by decide +kernel
theorem dX3_missing_4 : decode cX3_missing 4 = .ok (.iconst (-1), 1) := by decide +kernel
theorem dX3_missing_5 : decode cX3_missing 5 = .ok (.if_icmp .ne 7, 3) := by decide +kernel
theorem dX3_missing_8 : decode cX3_missing 8 = .ok (.iconst 1, 1) := by decide +kernel
theorem dX3_missing_9 : decode cX3_missing 9 = .ok (.goto 4, 3) := by decide +kernel
theorem dX3_missing_12 : decode cX3_missing 12 = .ok (.iconst 0, 1) := by decide +kernel
theorem dX3_missing_13 : decode cX3_missing 13 = .ok (.ireturn, 1) := by decide +kernel
theorem dX3_become_0 : decode cX3_become 0 = .ok (.aload_n 0, 1) := by decide +kernel
theorem dX3_become_1 : decode cX3_become 1 = .ok (.iload_n 1, 1) := by decide +kernel
theorem dX3_become_2 : decode cX3_become 2 = .ok (.putfield 15, 3) := by decide +kernel
theorem dX3_become_5 : decode cX3_become 5 = .ok (.aload_n 0, 1) := by decide +kernel
theorem dX3_become_6 : decode cX3_become 6 = .ok (.iload_n 2, 1) := by decide +kernel
theorem dX3_become_7 : decode cX3_become 7 = .ok (.iconst 0, 1) := by decide +kernel
theorem dX3_become_8 : decode cX3_become 8 = .ok (.bipush 40, 2) := by decide +kernel
theorem dX3_become_10 : decode cX3_become 10 = .ok (.invokestatic 19, 3) := by decide +kernel
theorem dX3_become_13 : decode cX3_become 13 = .ok (.putfield 23, 3) := by decide +kernel
theorem dX3_become_16 : decode cX3_become 16 = .ok (.aload_n 0, 1) := by decide +kernel
theorem dX3_become_17 : decode cX3_become 17 = .ok (.getfield 9, 3) := by decide +kernel
theorem dX3_become_20 : decode cX3_become 20 = .ok (.iconst 0, 1) := by decide +kernel
theorem dX3_become_21 : decode cX3_become 21 = .ok (.invokestatic 26, 3) := by decide +kernel
theorem dX3_become_24 : decode cX3_become 24 = .ok (.return_, 1) := by decide +kernel
theorem dX3_holds_0 : decode cX3_holds 0 = .ok (.iload_n 2, 1) := by decide +kernel
theorem dX3_holds_1 : decode cX3_holds 1 = .ok (.ifCond .lt 29, 3) := by decide +kernel
theorem dX3_holds_4 : decode cX3_holds 4 = .ok (.iload_n 1, 1) := by decide +kernel
theorem dX3_holds_5 : decode cX3_holds 5 = .ok (.ifCond .lt 25, 3) := by decide +kernel
theorem dX3_holds_8 : decode cX3_holds 8 = .ok (.iload_n 2, 1) := by decide +kernel
theorem dX3_holds_9 : decode cX3_holds 9 = .ok (.aload_n 0, 1) := by decide +kernel
theorem dX3_holds_10 : decode cX3_holds 10 = .ok (.getfield 23, 3) := by decide +kernel
theorem dX3_holds_13 : decode cX3_holds 13 = .ok (.if_icmp .gt 17, 3) := by decide +kernel
theorem dX3_holds_16 : decode cX3_holds 16 = .ok (.iload_n 1, 1) := by decide +kernel
theorem dX3_holds_17 : decode cX3_holds 17 = .ok (.aload_n 0, 1) := by decide +kernel
theorem dX3_holds_18 : decode cX3_holds 18 = .ok (.getfield 23, 3) := by decide +kernel
theorem dX3_holds_21 : decode cX3_holds 21 = .ok (.iload_n 2, 1) := by decide +kernel
theorem dX3_holds_22 : decode cX3_holds 22 = .ok (.isub, 1) := by decide +kernel
theorem dX3_holds_23 : decode cX3_holds 23 = .ok (.if_icmp .gt 7, 3) := by decide +kernel
theorem dX3_holds_26 : decode cX3_holds 26 = .ok (.iconst 1, 1) := by decide +kernel
theorem dX3_holds_27 : decode cX3_holds 27 = .ok (.goto 4, 3) := by decide +kernel
theorem dX3_holds_30 : decode cX3_holds 30 = .ok (.iconst 0, 1) := by decide +kernel
theorem dX3_holds_31 : decode cX3_holds 31 = .ok (.ireturn, 1) := by decide +kernel
theorem dX3_at_0 : decode cX3_at 0 = .ok (.iload_n 1, 1) := by decide +kernel
theorem dX3_at_1 : decode cX3_at 1 = .ok (.aload_n 0, 1) := by decide +kernel
theorem dX3_at_2 : decode cX3_at 2 = .ok (.getfield 23, 3) := by decide +kernel
theorem dX3_at_5 : decode cX3_at 5 = .ok (.invokestatic 32, 3) := by decide +kernel
theorem dX3_at_8 : decode cX3_at 8 = .ok (.ifCond .eq 18, 3) := by decide +kernel
theorem dX3_at_11 : decode cX3_at 11 = .ok (.iload_n 1, 1) := by decide +kernel
theorem dX3_at_12 : decode cX3_at 12 = .ok (.bipush 40, 2) := by decide +kernel
theorem dX3_at_14 : decode cX3_at 14 = .ok (.if_icmp .ge 12, 3) := by decide +kernel
theorem dX3_at_17 : decode cX3_at 17 = .ok (.aload_n 0, 1) := by decide +kernel
theorem dX3_at_18 : decode cX3_at 18 = .ok (.getfield 9, 3) := by decide +kernel
theorem dX3_at_21 : decode cX3_at 21 = .ok (.iload_n 1, 1) := by decide +kernel
theorem dX3_at_22 : decode cX3_at 22 = .ok (.iaload, 1) := by decide +kernel
theorem dX3_at_23 : decode cX3_at 23 = .ok (.goto 4, 3) := by decide +kernel
theorem dX3_at_26 : decode cX3_at 26 = .ok (.iconst 0, 1) := by decide +kernel
theorem dX3_at_27 : decode cX3_at 27 = .ok (.ireturn, 1) := by decide +kernel
theorem dX3_put_0 : decode cX3_put 0 = .ok (.iload_n 1, 1) := by decide +kernel
theorem dX3_put_1 : decode cX3_put 1 = .ok (.aload_n 0, 1) := by decide +kernel
theorem dX3_put_2 : decode cX3_put 2 = .ok (.getfield 23, 3) := by decide +kernel
theorem dX3_put_5 : decode cX3_put 5 = .ok (.invokestatic 32, 3) := by decide +kernel
theorem dX3_put_8 : decode cX3_put 8 = .ok (.ifCond .eq 9, 3) := by decide +kernel
theorem dX3_put_11 : decode cX3_put 11 = .ok (.iload_n 1, 1) := by decide +kernel
theorem dX3_put_12 : decode cX3_put 12 = .ok (.bipush 40, 2) := by decide +kernel
theorem dX3_put_14 : decode cX3_put 14 = .ok (.if_icmp .lt 5, 3) := by decide +kernel
theorem dX3_put_17 : decode cX3_put 17 = .ok (.iconst 0, 1) := by decide +kernel
theorem dX3_put_18 : decode cX3_put 18 = .ok (.ireturn, 1) := by decide +kernel
theorem dX3_put_19 : decode cX3_put 19 = .ok (.aload_n 0, 1) := by decide +kernel
theorem dX3_put_20 : decode cX3_put 20 = .ok (.getfield 9, 3) := by decide +kernel
theorem dX3_put_23 : decode cX3_put 23 = .ok (.iload_n 1, 1) := by decide +kernel
theorem dX3_put_24 : decode cX3_put 24 = .ok (.aload_n 0, 1) := by decide +kernel
theorem dX3_put_25 : decode cX3_put 25 = .ok (.iload_n 2, 1) := by decide +kernel
theorem dX3_put_26 : decode cX3_put 26 = .ok (.invokevirtual 36, 3) := by decide +kernel
theorem dX3_put_29 : decode cX3_put 29 = .ok (.iastore, 1) := by decide +kernel
theorem dX3_put_30 : decode cX3_put 30 = .ok (.iconst 1, 1) := by decide +kernel
theorem dX3_put_31 : decode cX3_put 31 = .ok (.ireturn, 1) := by decide +kernel
theorem dX3_cut_0 : decode cX3_cut 0 = .ok (.aload_n 0, 1) := by decide +kernel
theorem dX3_cut_1 : decode cX3_cut 1 = .ok (.getfield 15, 3) := by decide +kernel
theorem dX3_cut_4 : decode cX3_cut 4 = .ok (.ifCond .ne 6, 3) := by decide +kernel
theorem dX3_cut_7 : decode cX3_cut 7 = .ok (.iload_n 1, 1) := by decide +kernel
theorem dX3_cut_8 : decode cX3_cut 8 = .ok (.i2b, 1) := by decide +kernel
theorem dX3_cut_9 : decode cX3_cut 9 = .ok (.ireturn, 1) := by decide +kernel
theorem dX3_cut_10 : decode cX3_cut 10 = .ok (.aload_n 0, 1) := by decide +kernel
theorem dX3_cut_11 : decode cX3_cut 11 = .ok (.getfield 15, 3) := by decide +kernel
theorem dX3_cut_14 : decode cX3_cut 14 = .ok (.iconst 1, 1) := by decide +kernel
theorem dX3_cut_15 : decode cX3_cut 15 = .ok (.if_icmp .ne 8, 3) := by decide +kernel
theorem dX3_cut_18 : decode cX3_cut 18 = .ok (.iload_n 1, 1) := by decide +kernel
theorem dX3_cut_19 : decode cX3_cut 19 = .ok (.i2s, 1) := by decide +kernel
theorem dX3_cut_20 : decode cX3_cut 20 = .ok (.goto 4, 3) := by decide +kernel
theorem dX3_cut_23 : decode cX3_cut 23 = .ok (.iload_n 1, 1) := by decide +kernel
theorem dX3_cut_24 : decode cX3_cut 24 = .ok (.ireturn, 1) := by decide +kernel
theorem dX4_init_0 : decode cX4_init 0 = .ok (.aload_n 0, 1) := by decide +kernel
theorem dX4_init_1 : decode cX4_init 1 = .ok (.invokespecial 3, 3) := by decide +kernel
theorem dX4_init_4 : decode cX4_init 4 = .ok (.aload_n 0, 1) := by decide +kernel
theorem dX4_init_5 : decode cX4_init 5 = .ok (.bipush 6, 2) := by decide +kernel
theorem dX4_init_7 : decode cX4_init 7 = .ok (.newarray .int, 2) := by decide +kernel
theorem dX4_init_9 : decode cX4_init 9 = .ok (.putfield 9, 3) := by decide +kernel
theorem dX4_init_12 : decode cX4_init 12 = .ok (.aload_n 0, 1) := by decide +kernel
theorem dX4_init_13 : decode cX4_init 13 = .ok (.aload_n 1, 1) := by decide +kernel
theorem dX4_init_14 : decode cX4_init 14 = .ok (.putfield 15, 3) := by decide +kernel
theorem dX4_init_17 : decode cX4_init 17 = .ok (.return_, 1) := by decide +kernel
theorem dX4_of_0 : decode cX4_of 0 = .ok (.aload_n 1, 1) := by decide +kernel
theorem dX4_of_1 : decode cX4_of 1 = .ok (.iload_n 2, 1) := by decide +kernel
theorem dX4_of_2 : decode cX4_of 2 = .ok (.invokevirtual 19, 3) := by decide +kernel
theorem dX4_of_5 : decode cX4_of 5 = .ok (.ifCond .ne 4, 3) := by decide +kernel
theorem dX4_of_8 : decode cX4_of 8 = .ok (.return_, 1) := by decide +kernel
theorem dX4_of_9 : decode cX4_of 9 = .ok (.aload_n 0, 1) := by decide +kernel
theorem dX4_of_10 : decode cX4_of 10 = .ok (.aload_n 1, 1) := by decide +kernel
theorem dX4_of_11 : decode cX4_of 11 = .ok (.getfield 25, 3) := by decide +kernel
theorem dX4_of_14 : decode cX4_of 14 = .ok (.putfield 29, 3) := by decide +kernel
theorem dX4_of_17 : decode cX4_of 17 = .ok (.aload_n 0, 1) := by decide +kernel
theorem dX4_of_18 : decode cX4_of 18 = .ok (.aload_n 1, 1) := by decide +kernel
theorem dX4_of_19 : decode cX4_of 19 = .ok (.getfield 30, 3) := by decide +kernel
theorem dX4_of_22 : decode cX4_of 22 = .ok (.iload_n 2, 1) := by decide +kernel
theorem dX4_of_23 : decode cX4_of 23 = .ok (.iaload, 1) := by decide +kernel
theorem dX4_of_24 : decode cX4_of 24 = .ok (.putfield 33, 3) := by decide +kernel
theorem dX4_of_27 : decode cX4_of 27 = .ok (.aload_n 0, 1) := by decide +kernel
theorem dX4_of_28 : decode cX4_of 28 = .ok (.getfield 9, 3) := by decide +kernel
theorem dX4_of_31 : decode cX4_of 31 = .ok (.iconst 2, 1) := by decide +kernel
theorem dX4_of_32 : decode cX4_of 32 = .ok (.aload_n 1, 1) := by decide +kernel
theorem dX4_of_33 : decode cX4_of 33 = .ok (.getfield 36, 3) := by decide +kernel
theorem dX4_of_36 : decode cX4_of 36 = .ok (.iload_n 2, 1) := by decide +kernel
theorem dX4_of_37 : decode cX4_of 37 = .ok (.iaload, 1) := by decide +kernel
theorem dX4_of_38 : decode cX4_of 38 = .ok (.iastore, 1) := by decide +kernel
theorem dX4_of_39 : decode cX4_of 39 = .ok (.aload_n 0, 1) := by decide +kernel
theorem dX4_of_40 : decode cX4_of 40 = .ok (.getfield 9, 3) := by decide +kernel
theorem dX4_of_43 : decode cX4_of 43 = .ok (.iconst 3, 1) := by decide +kernel
theorem dX4_of_44 : decode cX4_of 44 = .ok (.aload_n 1, 1) := by decide +kernel
theorem dX4_of_45 : decode cX4_of 45 = .ok (.getfield 39, 3) := by decide +kernel
theorem dX4_of_48 : decode cX4_of 48 = .ok (.iastore, 1) := by decide +kernel
theorem dX4_of_49 : decode cX4_of 49 = .ok (.aload_n 0, 1) := by decide +kernel
theorem dX4_of_50 : decode cX4_of 50 = .ok (.getfield 9, 3) := by decide +kernel
theorem dX4_of_53 : decode cX4_of 53 = .ok (.iconst 4, 1) := by decide +kernel
theorem dX4_of_54 : decode cX4_of 54 = .ok (.aload_n 1, 1) := by decide +kernel
theorem dX4_of_55 : decode cX4_of 55 = .ok (.invokevirtual 42, 3) := by decide +kernel
theorem dX4_of_58 : decode cX4_of 58 = .ok (.invokestatic 46, 3) := by decide +kernel
theorem dX4_of_61 : decode cX4_of 61 = .ok (.iastore, 1) := by decide +kernel
theorem dX4_of_62 : decode cX4_of 62 = .ok (.aload_n 0, 1) := by decide +kernel
theorem dX4_of_63 : decode cX4_of 63 = .ok (.getfield 9, 3) := by decide +kernel
theorem dX4_of_66 : decode cX4_of 66 = .ok (.iconst 5, 1) := by decide +kernel
theorem dX4_of_67 : decode cX4_of 67 = .ok (.aload_n 1, 1) := by decide +kernel
theorem dX4_of_68 : decode cX4_of 68 = .ok (.getfield 52, 3) := by decide +kernel
theorem dX4_of_71 : decode cX4_of 71 = .ok (.iastore, 1) := by decide +kernel
theorem dX4_of_72 : decode cX4_of 72 = .ok (.return_, 1) := by decide +kernel
theorem dX4_renumber_0 : decode cX4_renumber 0 = .ok (.aload_n 0, 1) := by decide +kernel
theorem dX4_renumber_1 : decode cX4_renumber 1 = .ok (.getfield 9, 3) := by decide +kernel
theorem dX4_renumber_4 : decode cX4_renumber 4 = .ok (.iconst 2, 1) := by decide +kernel
theorem dX4_renumber_5 : decode cX4_renumber 5 = .ok (.iload_n 1, 1) := by decide +kernel
theorem dX4_renumber_6 : decode cX4_renumber 6 = .ok (.iastore, 1) := by decide +kernel
theorem dX4_renumber_7 : decode cX4_renumber 7 = .ok (.return_, 1) := by decide +kernel
theorem dX4_heats_0 : decode cX4_heats 0 = .ok (.aload_n 0, 1) := by decide +kernel
theorem dX4_heats_1 : decode cX4_heats 1 = .ok (.getfield 9, 3) := by decide +kernel
theorem dX4_heats_4 : decode cX4_heats 4 = .ok (.iconst 1, 1) := by decide +kernel
theorem dX4_heats_5 : decode cX4_heats 5 = .ok (.iload_n 1, 1) := by decide +kernel
theorem dX4_heats_6 : decode cX4_heats 6 = .ok (.iastore, 1) := by decide +kernel
theorem dX4_heats_7 : decode cX4_heats 7 = .ok (.aload_n 0, 1) := by decide +kernel
theorem dX4_heats_8 : decode cX4_heats 8 = .ok (.getfield 9, 3) := by decide +kernel
theorem dX4_heats_11 : decode cX4_heats 11 = .ok (.iconst 0, 1) := by decide +kernel
theorem dX4_heats_12 : decode cX4_heats 12 = .ok (.iload_n 2, 1) := by decide +kernel
theorem dX4_heats_13 : decode cX4_heats 13 = .ok (.iastore, 1) := by decide +kernel
theorem dX4_heats_14 : decode cX4_heats 14 = .ok (.aload_n 0, 1) := by decide +kernel
theorem dX4_heats_15 : decode cX4_heats 15 = .ok (.getfield 15, 3) := by decide +kernel
theorem dX4_heats_18 : decode cX4_heats 18 = .ok (.aload_n 0, 1) := by decide +kernel
theorem dX4_heats_19 : decode cX4_heats 19 = .ok (.getfield 29, 3) := by decide +kernel
theorem dX4_heats_22 : decode cX4_heats 22 = .ok (.iconst 0, 1) := by decide +kernel
theorem dX4_heats_23 : decode cX4_heats 23 = .ok (.aload_n 0, 1) := by decide +kernel
theorem dX4_heats_24 : decode cX4_heats 24 = .ok (.getfield 9, 3) := by decide +kernel
theorem dX4_heats_27 : decode cX4_heats 27 = .ok (.invokevirtual 55, 3) := by decide +kernel
theorem dX4_heats_30 : decode cX4_heats 30 = .ok (.bipush (-99), 2) := by decide +kernel
theorem dX4_heats_32 : decode cX4_heats 32 = .ok (.bipush 99, 2) := by decide +kernel
theorem dX4_heats_34 : decode cX4_heats 34 = .ok (.invokestatic 61, 3) := by decide +kernel
theorem dX4_heats_37 : decode cX4_heats 37 = .ok (.istore_n 3, 1) := by decide +kernel
theorem dX4_heats_38 : decode cX4_heats 38 = .ok (.aload_n 0, 1) := by decide +kernel
theorem dX4_heats_39 : decode cX4_heats 39 = .ok (.iload_n 3, 1) := by decide +kernel
theorem dX4_heats_40 : decode cX4_heats 40 = .ok (.iload_n 1, 1) := by decide +kernel
theorem dX4_heats_41 : decode cX4_heats 41 = .ok (.iload_n 2, 1) := by decide +kernel
theorem dX4_heats_42 : decode cX4_heats 42 = .ok (.invokevirtual 65, 3) := by decide +kernel
theorem dX4_heats_45 : decode cX4_heats 45 = .ok (.bipush (-99), 2) := by decide +kernel
theorem dX4_heats_47 : decode cX4_heats 47 = .ok (.bipush 99, 2) := by decide +kernel
theorem dX4_heats_49 : decode cX4_heats 49 = .ok (.invokestatic 61, 3) := by decide +kernel
theorem dX4_heats_52 : decode cX4_heats 52 = .ok (.ireturn, 1) := by decide +kernel
theorem dX4_cools_0 : decode cX4_cools 0 = .ok (.aload_n 0, 1) := by decide +kernel
theorem dX4_cools_1 : decode cX4_cools 1 = .ok (.getfield 9, 3) := by decide +kernel
theorem dX4_cools_4 : decode cX4_cools 4 = .ok (.iconst 1, 1) := by decide +kernel
theorem dX4_cools_5 : decode cX4_cools 5 = .ok (.iload_n 1, 1) := by decide +kernel
theorem dX4_cools_6 : decode cX4_cools 6 = .ok (.iastore, 1) := by decide +kernel
theorem dX4_cools_7 : decode cX4_cools 7 = .ok (.aload_n 0, 1) := by decide +kernel
theorem dX4_cools_8 : decode cX4_cools 8 = .ok (.getfield 9, 3) := by decide +kernel
theorem dX4_cools_11 : decode cX4_cools 11 = .ok (.iconst 0, 1) := by decide +kernel
theorem dX4_cools_12 : decode cX4_cools 12 = .ok (.iconst 0, 1) := by decide +kernel
theorem dX4_cools_13 : decode cX4_cools 13 = .ok (.iastore, 1) := by decide +kernel
theorem dX4_cools_14 : decode cX4_cools 14 = .ok (.aload_n 0, 1) := by decide +kernel
theorem dX4_cools_15 : decode cX4_cools 15 = .ok (.getfield 15, 3) := by decide +kernel
theorem dX4_cools_18 : decode cX4_cools 18 = .ok (.aload_n 0, 1) := by decide +kernel
theorem dX4_cools_19 : decode cX4_cools 19 = .ok (.getfield 29, 3) := by decide +kernel
theorem dX4_cools_22 : decode cX4_cools 22 = .ok (.iconst 1, 1) := by decide +kernel
theorem dX4_cools_23 : decode cX4_cools 23 = .ok (.aload_n 0, 1) := by decide +kernel
theorem dX4_cools_24 : decode cX4_cools 24 = .ok (.getfield 9, 3) := by decide +kernel
theorem dX4_cools_27 : decode cX4_cools 27 = .ok (.invokevirtual 55, 3) := by decide +kernel
theorem dX4_cools_30 : decode cX4_cools 30 = .ok (.iconst 0, 1) := by decide +kernel
theorem dX4_cools_31 : decode cX4_cools 31 = .ok (.bipush 99, 2) := by decide +kernel
theorem dX4_cools_33 : decode cX4_cools 33 = .ok (.invokestatic 61, 3) := by decide +kernel
theorem dX4_cools_36 : decode cX4_cools 36 = .ok (.istore_n 2, 1) := by decide +kernel
theorem dX4_cools_37 : decode cX4_cools 37 = .ok (.aload_n 0, 1) := by decide +kernel
theorem dX4_cools_38 : decode cX4_cools 38 = .ok (.iload_n 2, 1) := by decide +kernel
theorem dX4_cools_39 : decode cX4_cools 39 = .ok (.iload_n 1, 1) := by decide +kernel
theorem dX4_cools_40 : decode cX4_cools 40 = .ok (.invokevirtual 68, 3) := by decide +kernel
theorem dX4_cools_43 : decode cX4_cools 43 = .ok (.iconst 0, 1) := by decide +kernel
theorem dX4_cools_44 : decode cX4_cools 44 = .ok (.bipush 99, 2) := by decide +kernel
theorem dX4_cools_46 : decode cX4_cools 46 = .ok (.invokestatic 61, 3) := by decide +kernel
theorem dX4_cools_49 : decode cX4_cools 49 = .ok (.ireturn, 1) := by decide +kernel
theorem dX4_far_0 : decode cX4_far 0 = .ok (.aload_n 0, 1) := by decide +kernel
theorem dX4_far_1 : decode cX4_far 1 = .ok (.getfield 9, 3) := by decide +kernel
theorem dX4_far_4 : decode cX4_far 4 = .ok (.iconst 1, 1) := by decide +kernel
theorem dX4_far_5 : decode cX4_far 5 = .ok (.iload_n 1, 1) := by decide +kernel
theorem dX4_far_6 : decode cX4_far 6 = .ok (.iastore, 1) := by decide +kernel
theorem dX4_far_7 : decode cX4_far 7 = .ok (.aload_n 0, 1) := by decide +kernel
theorem dX4_far_8 : decode cX4_far 8 = .ok (.getfield 9, 3) := by decide +kernel
theorem dX4_far_11 : decode cX4_far 11 = .ok (.iconst 0, 1) := by decide +kernel
theorem dX4_far_12 : decode cX4_far 12 = .ok (.iconst 0, 1) := by decide +kernel
theorem dX4_far_13 : decode cX4_far 13 = .ok (.iastore, 1) := by decide +kernel
theorem dX4_far_14 : decode cX4_far 14 = .ok (.aload_n 0, 1) := by decide +kernel
theorem dX4_far_15 : decode cX4_far 15 = .ok (.getfield 15, 3) := by decide +kernel
theorem dX4_far_18 : decode cX4_far 18 = .ok (.aload_n 0, 1) := by decide +kernel
theorem dX4_far_19 : decode cX4_far 19 = .ok (.getfield 29, 3) := by decide +kernel
theorem dX4_far_22 : decode cX4_far 22 = .ok (.iconst 2, 1) := by decide +kernel
theorem dX4_far_23 : decode cX4_far 23 = .ok (.aload_n 0, 1) := by decide +kernel
theorem dX4_far_24 : decode cX4_far 24 = .ok (.getfield 9, 3) := by decide +kernel
theorem dX4_far_27 : decode cX4_far 27 = .ok (.invokevirtual 55, 3) := by decide +kernel
theorem dX4_far_30 : decode cX4_far 30 = .ok (.iconst 0, 1) := by decide +kernel
theorem dX4_far_31 : decode cX4_far 31 = .ok (.bipush 40, 2) := by decide +kernel
theorem dX4_far_33 : decode cX4_far 33 = .ok (.invokestatic 61, 3) := by decide +kernel
theorem dX4_far_36 : decode cX4_far 36 = .ok (.istore_n 2, 1) := by decide +kernel
theorem dX4_far_37 : decode cX4_far 37 = .ok (.aload_n 0, 1) := by decide +kernel
theorem dX4_far_38 : decode cX4_far 38 = .ok (.iload_n 2, 1) := by decide +kernel
theorem dX4_far_39 : decode cX4_far 39 = .ok (.iload_n 1, 1) := by decide +kernel
theorem dX4_far_40 : decode cX4_far 40 = .ok (.invokevirtual 72, 3) := by decide +kernel
theorem dX4_far_43 : decode cX4_far 43 = .ok (.iconst 0, 1) := by decide +kernel
theorem dX4_far_44 : decode cX4_far 44 = .ok (.bipush 40, 2) := by decide +kernel
theorem dX4_far_46 : decode cX4_far 46 = .ok (.invokestatic 61, 3) := by decide +kernel
theorem dX4_far_49 : decode cX4_far 49 = .ok (.ireturn, 1) := by decide +kernel
theorem dX4_heated_0 : decode cX4_heated 0 = .ok (.iload_n 1, 1) := by decide +kernel
theorem dX4_heated_1 : decode cX4_heated 1 = .ok (.aload_n 0, 1) := by decide +kernel
theorem dX4_heated_2 : decode cX4_heated 2 = .ok (.iload_n 1, 1) := by decide +kernel
theorem dX4_heated_3 : decode cX4_heated 3 = .ok (.iload_n 2, 1) := by decide +kernel
theorem dX4_heated_4 : decode cX4_heated 4 = .ok (.invokevirtual 75, 3) := by decide +kernel
theorem dX4_heated_7 : decode cX4_heated 7 = .ok (.iadd, 1) := by decide +kernel
theorem dX4_heated_8 : decode cX4_heated 8 = .ok (.iconst 0, 1) := by decide +kernel
theorem dX4_heated_9 : decode cX4_heated 9 = .ok (.bipush 99, 2) := by decide +kernel
theorem dX4_heated_11 : decode cX4_heated 11 = .ok (.invokestatic 61, 3) := by decide +kernel
theorem dX4_heated_14 : decode cX4_heated 14 = .ok (.ireturn, 1) := by decide +kernel
theorem dX4_cooled_0 : decode cX4_cooled 0 = .ok (.iload_n 1, 1) := by decide +kernel
theorem dX4_cooled_1 : decode cX4_cooled 1 = .ok (.aload_n 0, 1) := by decide +kernel
theorem dX4_cooled_2 : decode cX4_cooled 2 = .ok (.iload_n 1, 1) := by decide +kernel
theorem dX4_cooled_3 : decode cX4_cooled 3 = .ok (.invokevirtual 78, 3) := by decide +kernel
theorem dX4_cooled_6 : decode cX4_cooled 6 = .ok (.isub, 1) := by decide +kernel
theorem dX4_cooled_7 : decode cX4_cooled 7 = .ok (.iconst 0, 1) := by decide +kernel
theorem dX4_cooled_8 : decode cX4_cooled 8 = .ok (.bipush 99, 2) := by decide +kernel
theorem dX4_cooled_10 : decode cX4_cooled 10 = .ok (.invokestatic 61, 3) := by decide +kernel
theorem dX4_cooled_13 : decode cX4_cooled 13 = .ok (.ireturn, 1) := by decide +kernel
theorem dX4_heatsOfKind_0 : decode cX4_heatsOfKind 0 = .ok (.aload_n 0, 1) := by decide +kernel
theorem dX4_heatsOfKind_1 : decode cX4_heatsOfKind 1 = .ok (.getfield 33, 3) := by decide +kernel
theorem dX4_heatsOfKind_4 : decode cX4_heatsOfKind 4 = .ok (.tableswitch 75 1 5 #[36, 43, 47, 58, 73], 36) := by decide +kernel
theorem dX4_heatsOfKind_40 : decode cX4_heatsOfKind 40 = .ok (.aload_n 0, 1) := by decide +kernel
theorem dX4_heatsOfKind_41 : decode cX4_heatsOfKind 41 = .ok (.iload_n 1, 1) := by decide +kernel
theorem dX4_heatsOfKind_42 : decode cX4_heatsOfKind 42 = .ok (.iload_n 3, 1) := by decide +kernel
theorem dX4_heatsOfKind_43 : decode cX4_heatsOfKind 43 = .ok (.invokevirtual 82, 3) := by decide +kernel
theorem dX4_heatsOfKind_46 : decode cX4_heatsOfKind 46 = .ok (.ireturn, 1) := by decide +kernel
theorem dX4_heatsOfKind_47 : decode cX4_heatsOfKind 47 = .ok (.iload_n 1, 1) := by decide +kernel
theorem dX4_heatsOfKind_48 : decode cX4_heatsOfKind 48 = .ok (.iconst 2, 1) := by decide +kernel
theorem dX4_heatsOfKind_49 : decode cX4_heatsOfKind 49 = .ok (.idiv, 1) := by decide +kernel
theorem dX4_heatsOfKind_50 : decode cX4_heatsOfKind 50 = .ok (.ireturn, 1) := by decide +kernel
theorem dX4_heatsOfKind_51 : decode cX4_heatsOfKind 51 = .ok (.iconst 0, 1) := by decide +kernel
theorem dX4_heatsOfKind_52 : decode cX4_heatsOfKind 52 = .ok (.aload_n 0, 1) := by decide +kernel
theorem dX4_heatsOfKind_53 : decode cX4_heatsOfKind 53 = .ok (.iload_n 1, 1) := by decide +kernel
theorem dX4_heatsOfKind_54 : decode cX4_heatsOfKind 54 = .ok (.iload_n 3, 1) := by decide +kernel
theorem dX4_heatsOfKind_55 : decode cX4_heatsOfKind 55 = .ok (.invokevirtual 82, 3) := by decide +kernel
theorem dX4_heatsOfKind_58 : decode cX4_heatsOfKind 58 = .ok (.invokestatic 85, 3) := by decide +kernel
theorem dX4_heatsOfKind_61 : decode cX4_heatsOfKind 61 = .ok (.ireturn, 1) := by decide +kernel
theorem dX4_heatsOfKind_62 : decode cX4_heatsOfKind 62 = .ok (.iload_n 2, 1) := by decide +kernel
theorem dX4_heatsOfKind_63 : decode cX4_heatsOfKind 63 = .ok (.bipush 20, 2) := by decide +kernel
theorem dX4_heatsOfKind_65 : decode cX4_heatsOfKind 65 = .ok (.if_icmp .ge 8, 3) := by decide +kernel
theorem dX4_heatsOfKind_68 : decode cX4_heatsOfKind 68 = .ok (.bipush (-10), 2) := by decide +kernel
theorem dX4_heatsOfKind_70 : decode cX4_heatsOfKind 70 = .ok (.goto 6, 3) := by decide +kernel
theorem dX4_heatsOfKind_73 : decode cX4_heatsOfKind 73 = .ok (.iload_n 1, 1) := by decide +kernel
theorem dX4_heatsOfKind_74 : decode cX4_heatsOfKind 74 = .ok (.iconst 2, 1) := by decide +kernel
theorem dX4_heatsOfKind_75 : decode cX4_heatsOfKind 75 = .ok (.idiv, 1) := by decide +kernel
theorem dX4_heatsOfKind_76 : decode cX4_heatsOfKind 76 = .ok (.ireturn, 1) := by decide +kernel
theorem dX4_heatsOfKind_77 : decode cX4_heatsOfKind 77 = .ok (.iconst 0, 1) := by decide +kernel
theorem dX4_heatsOfKind_78 : decode cX4_heatsOfKind 78 = .ok (.ireturn, 1) := by decide +kernel
theorem dX4_heatsOfKind_79 : decode cX4_heatsOfKind 79 = .ok (.iload_n 1, 1) := by decide +kernel
theorem dX4_heatsOfKind_80 : decode cX4_heatsOfKind 80 = .ok (.ireturn, 1) := by decide +kernel
theorem dX4_heatsOfWed_0 : decode cX4_heatsOfWed 0 = .ok (.iload_n 2, 1) := by decide +kernel
theorem dX4_heatsOfWed_1 : decode cX4_heatsOfWed 1 = .ok (.aload_n 0, 1) := by decide +kernel
theorem dX4_heatsOfWed_2 : decode cX4_heatsOfWed 2 = .ok (.getfield 9, 3) := by decide +kernel
theorem dX4_heatsOfWed_5 : decode cX4_heatsOfWed 5 = .ok (.iconst 2, 1) := by decide +kernel
theorem dX4_heatsOfWed_6 : decode cX4_heatsOfWed 6 = .ok (.iaload, 1) := by decide +kernel
theorem dX4_heatsOfWed_7 : decode cX4_heatsOfWed 7 = .ok (.bipush 6, 2) := by decide +kernel
theorem dX4_heatsOfWed_9 : decode cX4_heatsOfWed 9 = .ok (.irem, 1) := by decide +kernel
theorem dX4_heatsOfWed_10 : decode cX4_heatsOfWed 10 = .ok (.if_icmp .ne 9, 3) := by decide +kernel
theorem dX4_heatsOfWed_13 : decode cX4_heatsOfWed 13 = .ok (.iconst 2, 1) := by decide +kernel
theorem dX4_heatsOfWed_14 : decode cX4_heatsOfWed 14 = .ok (.iload_n 1, 1) := by decide +kernel
theorem dX4_heatsOfWed_15 : decode cX4_heatsOfWed 15 = .ok (.imul, 1) := by decide +kernel
theorem dX4_heatsOfWed_16 : decode cX4_heatsOfWed 16 = .ok (.goto 4, 3) := by decide +kernel
theorem dX4_heatsOfWed_19 : decode cX4_heatsOfWed 19 = .ok (.iload_n 1, 1) := by decide +kernel
theorem dX4_heatsOfWed_20 : decode cX4_heatsOfWed 20 = .ok (.ireturn, 1) := by decide +kernel
theorem dX4_coolsOfKind_0 : decode cX4_coolsOfKind 0 = .ok (.aload_n 0, 1) := by decide +kernel
theorem dX4_coolsOfKind_1 : decode cX4_coolsOfKind 1 = .ok (.getfield 33, 3) := by decide +kernel
theorem dX4_coolsOfKind_4 : decode cX4_coolsOfKind 4 = .ok (.tableswitch 60 1 4 #[32, 36, 40, 54], 32) := by decide +kernel
theorem dX4_coolsOfKind_36 : decode cX4_coolsOfKind 36 = .ok (.iload_n 1, 1) := by decide +kernel
theorem dX4_coolsOfKind_37 : decode cX4_coolsOfKind 37 = .ok (.iconst 1, 1) := by decide +kernel
theorem dX4_coolsOfKind_38 : decode cX4_coolsOfKind 38 = .ok (.isub, 1) := by decide +kernel
theorem dX4_coolsOfKind_39 : decode cX4_coolsOfKind 39 = .ok (.ireturn, 1) := by decide +kernel
theorem dX4_coolsOfKind_40 : decode cX4_coolsOfKind 40 = .ok (.iload_n 1, 1) := by decide +kernel
theorem dX4_coolsOfKind_41 : decode cX4_coolsOfKind 41 = .ok (.iconst 3, 1) := by decide +kernel
theorem dX4_coolsOfKind_42 : decode cX4_coolsOfKind 42 = .ok (.iadd, 1) := by decide +kernel
theorem dX4_coolsOfKind_43 : decode cX4_coolsOfKind 43 = .ok (.ireturn, 1) := by decide +kernel
theorem dX4_coolsOfKind_44 : decode cX4_coolsOfKind 44 = .ok (.iload_n 2, 1) := by decide +kernel
theorem dX4_coolsOfKind_45 : decode cX4_coolsOfKind 45 = .ok (.bipush 50, 2) := by decide +kernel
theorem dX4_coolsOfKind_47 : decode cX4_coolsOfKind 47 = .ok (.if_icmp .le 7, 3) := by decide +kernel
theorem dX4_coolsOfKind_50 : decode cX4_coolsOfKind 50 = .ok (.iconst 0, 1) := by decide +kernel
theorem dX4_coolsOfKind_51 : decode cX4_coolsOfKind 51 = .ok (.goto 6, 3) := by decide +kernel
theorem dX4_coolsOfKind_54 : decode cX4_coolsOfKind 54 = .ok (.iload_n 1, 1) := by decide +kernel
theorem dX4_coolsOfKind_55 : decode cX4_coolsOfKind 55 = .ok (.iconst 1, 1) := by decide +kernel
theorem dX4_coolsOfKind_56 : decode cX4_coolsOfKind 56 = .ok (.isub, 1) := by decide +kernel
theorem dX4_coolsOfKind_57 : decode cX4_coolsOfKind 57 = .ok (.ireturn, 1) := by decide +kernel
theorem dX4_coolsOfKind_58 : decode cX4_coolsOfKind 58 = .ok (.iconst 2, 1) := by decide +kernel
theorem dX4_coolsOfKind_59 : decode cX4_coolsOfKind 59 = .ok (.iload_n 1, 1) := by decide +kernel
theorem dX4_coolsOfKind_60 : decode cX4_coolsOfKind 60 = .ok (.iconst 3, 1) := by decide +kernel
theorem dX4_coolsOfKind_61 : decode cX4_coolsOfKind 61 = .ok (.iadd, 1) := by decide +kernel
theorem dX4_coolsOfKind_62 : decode cX4_coolsOfKind 62 = .ok (.imul, 1) := by decide +kernel
theorem dX4_coolsOfKind_63 : decode cX4_coolsOfKind 63 = .ok (.ireturn, 1) := by decide +kernel
theorem dX4_coolsOfKind_64 : decode cX4_coolsOfKind 64 = .ok (.iload_n 1, 1) := by decide +kernel
theorem dX4_coolsOfKind_65 : decode cX4_coolsOfKind 65 = .ok (.ireturn, 1) := by decide +kernel
theorem dX4_farOfKind_0 : decode cX4_farOfKind 0 = .ok (.aload_n 0, 1) := by decide +kernel
theorem dX4_farOfKind_1 : decode cX4_farOfKind 1 = .ok (.getfield 33, 3) := by decide +kernel
theorem dX4_farOfKind_4 : decode cX4_farOfKind 4 = .ok (.tableswitch 71 2 5 #[32, 41, 45, 62], 32) := by decide +kernel
theorem dX4_farOfKind_36 : decode cX4_farOfKind 36 = .ok (.iload_n 1, 1) := by decide +kernel
theorem dX4_farOfKind_37 : decode cX4_farOfKind 37 = .ok (.aload_n 0, 1) := by decide +kernel
theorem dX4_farOfKind_38 : decode cX4_farOfKind 38 = .ok (.getfield 9, 3) := by decide +kernel
theorem dX4_farOfKind_41 : decode cX4_farOfKind 41 = .ok (.iconst 2, 1) := by decide +kernel
theorem dX4_farOfKind_42 : decode cX4_farOfKind 42 = .ok (.iaload, 1) := by decide +kernel
theorem dX4_farOfKind_43 : decode cX4_farOfKind 43 = .ok (.isub, 1) := by decide +kernel
theorem dX4_farOfKind_44 : decode cX4_farOfKind 44 = .ok (.ireturn, 1) := by decide +kernel
theorem dX4_farOfKind_45 : decode cX4_farOfKind 45 = .ok (.iload_n 1, 1) := by decide +kernel
theorem dX4_farOfKind_46 : decode cX4_farOfKind 46 = .ok (.iconst 5, 1) := by decide +kernel
theorem dX4_farOfKind_47 : decode cX4_farOfKind 47 = .ok (.iadd, 1) := by decide +kernel
theorem dX4_farOfKind_48 : decode cX4_farOfKind 48 = .ok (.ireturn, 1) := by decide +kernel
theorem dX4_farOfKind_49 : decode cX4_farOfKind 49 = .ok (.iload_n 2, 1) := by decide +kernel
theorem dX4_farOfKind_50 : decode cX4_farOfKind 50 = .ok (.ifCond .ne 7, 3) := by decide +kernel
theorem dX4_farOfKind_53 : decode cX4_farOfKind 53 = .ok (.iconst 0, 1) := by decide +kernel
theorem dX4_farOfKind_54 : decode cX4_farOfKind 54 = .ok (.goto 11, 3) := by decide +kernel
theorem dX4_farOfKind_57 : decode cX4_farOfKind 57 = .ok (.iload_n 1, 1) := by decide +kernel
theorem dX4_farOfKind_58 : decode cX4_farOfKind 58 = .ok (.aload_n 0, 1) := by decide +kernel
theorem dX4_farOfKind_59 : decode cX4_farOfKind 59 = .ok (.getfield 9, 3) := by decide +kernel
theorem dX4_farOfKind_62 : decode cX4_farOfKind 62 = .ok (.iconst 2, 1) := by decide +kernel
theorem dX4_farOfKind_63 : decode cX4_farOfKind 63 = .ok (.iaload, 1) := by decide +kernel
theorem dX4_farOfKind_64 : decode cX4_farOfKind 64 = .ok (.isub, 1) := by decide +kernel
theorem dX4_farOfKind_65 : decode cX4_farOfKind 65 = .ok (.ireturn, 1) := by decide +kernel
theorem dX4_farOfKind_66 : decode cX4_farOfKind 66 = .ok (.iconst 4, 1) := by decide +kernel
theorem dX4_farOfKind_67 : decode cX4_farOfKind 67 = .ok (.aload_n 0, 1) := by decide +kernel
theorem dX4_farOfKind_68 : decode cX4_farOfKind 68 = .ok (.getfield 9, 3) := by decide +kernel
theorem dX4_farOfKind_71 : decode cX4_farOfKind 71 = .ok (.iconst 2, 1) := by decide +kernel
theorem dX4_farOfKind_72 : decode cX4_farOfKind 72 = .ok (.iaload, 1) := by decide +kernel
theorem dX4_farOfKind_73 : decode cX4_farOfKind 73 = .ok (.imul, 1) := by decide +kernel
theorem dX4_farOfKind_74 : decode cX4_farOfKind 74 = .ok (.ireturn, 1) := by decide +kernel
theorem dX4_farOfKind_75 : decode cX4_farOfKind 75 = .ok (.iload_n 1, 1) := by decide +kernel
theorem dX4_farOfKind_76 : decode cX4_farOfKind 76 = .ok (.ireturn, 1) := by decide +kernel
theorem dX5_init_0 : decode cX5_init 0 = .ok (.aload_n 0, 1) := by decide +kernel
theorem dX5_init_1 : decode cX5_init 1 = .ok (.invokespecial 3, 3) := by decide +kernel
theorem dX5_init_4 : decode cX5_init 4 = .ok (.aload_n 0, 1) := by decide +kernel
theorem dX5_init_5 : decode cX5_init 5 = .ok (.sipush 960, 3) := by decide +kernel
theorem dX5_init_8 : decode cX5_init 8 = .ok (.newarray .int, 2) := by decide +kernel
theorem dX5_init_10 : decode cX5_init 10 = .ok (.putfield 9, 3) := by decide +kernel
theorem dX5_init_13 : decode cX5_init 13 = .ok (.aload_n 0, 1) := by decide +kernel
theorem dX5_init_14 : decode cX5_init 14 = .ok (.bipush 18, 2) := by decide +kernel
theorem dX5_init_16 : decode cX5_init 16 = .ok (.newarray .int, 2) := by decide +kernel
theorem dX5_init_18 : decode cX5_init 18 = .ok (.putfield 15, 3) := by decide +kernel
theorem dX5_init_21 : decode cX5_init 21 = .ok (.aload_n 0, 1) := by decide +kernel
theorem dX5_init_22 : decode cX5_init 22 = .ok (.sipush 160, 3) := by decide +kernel
theorem dX5_init_25 : decode cX5_init 25 = .ok (.newarray .int, 2) := by decide +kernel
theorem dX5_init_27 : decode cX5_init 27 = .ok (.putfield 18, 3) := by decide +kernel
theorem dX5_init_30 : decode cX5_init 30 = .ok (.return_, 1) := by decide +kernel
theorem dX5_begin_0 : decode cX5_begin 0 = .ok (.aload_n 0, 1) := by decide +kernel
theorem dX5_begin_1 : decode cX5_begin 1 = .ok (.iconst 0, 1) := by decide +kernel
theorem dX5_begin_2 : decode cX5_begin 2 = .ok (.putfield 21, 3) := by decide +kernel
theorem dX5_begin_5 : decode cX5_begin 5 = .ok (.return_, 1) := by decide +kernel
theorem dX5_add_0 : decode cX5_add 0 = .ok (.aload_n 0, 1) := by decide +kernel
theorem dX5_add_1 : decode cX5_add 1 = .ok (.getfield 25, 3) := by decide +kernel
theorem dX5_add_4 : decode cX5_add 4 = .ok (.bipush 6, 2) := by decide +kernel
theorem dX5_add_6 : decode cX5_add 6 = .ok (.invokestatic 28, 3) := by decide +kernel
theorem dX5_add_9 : decode cX5_add 9 = .ok (.ifCond .eq 45, 3) := by decide +kernel
theorem dX5_add_12 : decode cX5_add 12 = .ok (.aload_n 0, 1) := by decide +kernel
theorem dX5_add_13 : decode cX5_add 13 = .ok (.getfield 21, 3) := by decide +kernel
theorem dX5_add_16 : decode cX5_add 16 = .ok (.sipush 160, 3) := by decide +kernel
theorem dX5_add_19 : decode cX5_add 19 = .ok (.invokestatic 28, 3) := by decide +kernel
theorem dX5_add_22 : decode cX5_add 22 = .ok (.ifCond .eq 32, 3) := by decide +kernel
theorem dX5_add_25 : decode cX5_add 25 = .ok (.aload_n 0, 1) := by decide +kernel
theorem dX5_add_26 : decode cX5_add 26 = .ok (.getfield 9, 3) := by decide +kernel
theorem dX5_add_29 : decode cX5_add 29 = .ok (.aload_n 0, 1) := by decide +kernel
theorem dX5_add_30 : decode cX5_add 30 = .ok (.getfield 25, 3) := by decide +kernel
theorem dX5_add_33 : decode cX5_add 33 = .ok (.sipush 160, 3) := by decide +kernel
theorem dX5_add_36 : decode cX5_add 36 = .ok (.imul, 1) := by decide +kernel
theorem dX5_add_37 : decode cX5_add 37 = .ok (.aload_n 0, 1) := by decide +kernel
theorem dX5_add_38 : decode cX5_add 38 = .ok (.getfield 21, 3) := by decide +kernel
theorem dX5_add_41 : decode cX5_add 41 = .ok (.iadd, 1) := by decide +kernel
theorem dX5_add_42 : decode cX5_add 42 = .ok (.iload_n 1, 1) := by decide +kernel
theorem dX5_add_43 : decode cX5_add 43 = .ok (.iastore, 1) := by decide +kernel
theorem dX5_add_44 : decode cX5_add 44 = .ok (.aload_n 0, 1) := by decide +kernel
theorem dX5_add_45 : decode cX5_add 45 = .ok (.dup, 1) := by decide +kernel
theorem dX5_add_46 : decode cX5_add 46 = .ok (.getfield 21, 3) := by decide +kernel
theorem dX5_add_49 : decode cX5_add 49 = .ok (.iconst 1, 1) := by decide +kernel
theorem dX5_add_50 : decode cX5_add 50 = .ok (.iadd, 1) := by decide +kernel
theorem dX5_add_51 : decode cX5_add 51 = .ok (.putfield 21, 3) := by decide +kernel
theorem dX5_add_54 : decode cX5_add 54 = .ok (.return_, 1) := by decide +kernel
theorem dX5_endPart_0 : decode cX5_endPart 0 = .ok (.aload_n 0, 1) := by decide +kernel
theorem dX5_endPart_1 : decode cX5_endPart 1 = .ok (.getfield 25, 3) := by decide +kernel
theorem dX5_endPart_4 : decode cX5_endPart 4 = .ok (.bipush 6, 2) := by decide +kernel
theorem dX5_endPart_6 : decode cX5_endPart 6 = .ok (.invokestatic 28, 3) := by decide +kernel
theorem dX5_endPart_9 : decode cX5_endPart 9 = .ok (.ifCond .eq 28, 3) := by decide +kernel
theorem dX5_endPart_12 : decode cX5_endPart 12 = .ok (.iload_n 1, 1) := by decide +kernel
theorem dX5_endPart_13 : decode cX5_endPart 13 = .ok (.iconst 3, 1) := by decide +kernel
theorem dX5_endPart_14 : decode cX5_endPart 14 = .ok (.invokestatic 28, 3) := by decide +kernel
theorem dX5_endPart_17 : decode cX5_endPart 17 = .ok (.ifCond .eq 20, 3) := by decide +kernel
theorem dX5_endPart_20 : decode cX5_endPart 20 = .ok (.aload_n 0, 1) := by decide +kernel
theorem dX5_endPart_21 : decode cX5_endPart 21 = .ok (.getfield 15, 3) := by decide +kernel
theorem dX5_endPart_24 : decode cX5_endPart 24 = .ok (.aload_n 0, 1) := by decide +kernel
theorem dX5_endPart_25 : decode cX5_endPart 25 = .ok (.getfield 25, 3) := by decide +kernel
theorem dX5_endPart_28 : decode cX5_endPart 28 = .ok (.iconst 3, 1) := by decide +kernel
theorem dX5_endPart_29 : decode cX5_endPart 29 = .ok (.imul, 1) := by decide +kernel
theorem dX5_endPart_30 : decode cX5_endPart 30 = .ok (.iload_n 1, 1) := by decide +kernel
theorem dX5_endPart_31 : decode cX5_endPart 31 = .ok (.iadd, 1) := by decide +kernel
theorem dX5_endPart_32 : decode cX5_endPart 32 = .ok (.aload_n 0, 1) := by decide +kernel
theorem dX5_endPart_33 : decode cX5_endPart 33 = .ok (.getfield 21, 3) := by decide +kernel
theorem dX5_endPart_36 : decode cX5_endPart 36 = .ok (.iastore, 1) := by decide +kernel
theorem dX5_endPart_37 : decode cX5_endPart 37 = .ok (.return_, 1) := by decide +kernel
theorem dX5_keep_0 : decode cX5_keep 0 = .ok (.aload_n 0, 1) := by decide +kernel
theorem dX5_keep_1 : decode cX5_keep 1 = .ok (.bipush 6, 2) := by decide +kernel
theorem dX5_keep_3 : decode cX5_keep 3 = .ok (.aload_n 0, 1) := by decide +kernel
theorem dX5_keep_4 : decode cX5_keep 4 = .ok (.getfield 25, 3) := by decide +kernel
theorem dX5_keep_7 : decode cX5_keep 7 = .ok (.iconst 1, 1) := by decide +kernel
theorem dX5_keep_8 : decode cX5_keep 8 = .ok (.iadd, 1) := by decide +kernel
theorem dX5_keep_9 : decode cX5_keep 9 = .ok (.invokestatic 32, 3) := by decide +kernel
theorem dX5_keep_12 : decode cX5_keep 12 = .ok (.putfield 25, 3) := by decide +kernel
theorem dX5_keep_15 : decode cX5_keep 15 = .ok (.aload_n 0, 1) := by decide +kernel
theorem dX5_keep_16 : decode cX5_keep 16 = .ok (.getfield 25, 3) := by decide +kernel
theorem dX5_keep_19 : decode cX5_keep 19 = .ok (.iconst 1, 1) := by decide +kernel
theorem dX5_keep_20 : decode cX5_keep 20 = .ok (.isub, 1) := by decide +kernel
theorem dX5_keep_21 : decode cX5_keep 21 = .ok (.ireturn, 1) := by decide +kernel
theorem dX5_worth_0 : decode cX5_worth 0 = .ok (.iload_n 1, 1) := by decide +kernel
theorem dX5_worth_1 : decode cX5_worth 1 = .ok (.bipush 6, 2) := by decide +kernel
theorem dX5_worth_3 : decode cX5_worth 3 = .ok (.invokestatic 28, 3) := by decide +kernel
theorem dX5_worth_6 : decode cX5_worth 6 = .ok (.ifCond .eq 18, 3) := by decide +kernel
theorem dX5_worth_9 : decode cX5_worth 9 = .ok (.iload_n 2, 1) := by decide +kernel
theorem dX5_worth_10 : decode cX5_worth 10 = .ok (.iconst 3, 1) := by decide +kernel
theorem dX5_worth_11 : decode cX5_worth 11 = .ok (.invokestatic 28, 3) := by decide +kernel
theorem dX5_worth_14 : decode cX5_worth 14 = .ok (.ifCond .eq 10, 3) := by decide +kernel
theorem dX5_worth_17 : decode cX5_worth 17 = .ok (.aload_n 3, 1) := by decide +kernel
theorem dX5_worth_18 : decode cX5_worth 18 = .ok (.arraylength, 1) := by decide +kernel
theorem dX5_worth_19 : decode cX5_worth 19 = .ok (.bipush 6, 2) := by decide +kernel
theorem dX5_worth_21 : decode cX5_worth 21 = .ok (.if_icmp .ge 5, 3) := by decide +kernel
theorem dX5_worth_24 : decode cX5_worth 24 = .ok (.iconst 0, 1) := by decide +kernel
theorem dX5_worth_25 : decode cX5_worth 25 = .ok (.ireturn, 1) := by decide +kernel
theorem dX5_worth_26 : decode cX5_worth 26 = .ok (.aload_n 0, 1) := by decide +kernel
theorem dX5_worth_27 : decode cX5_worth 27 = .ok (.getfield 15, 3) := by decide +kernel
theorem dX5_worth_30 : decode cX5_worth 30 = .ok (.iload_n 1, 1) := by decide +kernel
theorem dX5_worth_31 : decode cX5_worth 31 = .ok (.iconst 3, 1) := by decide +kernel
theorem dX5_worth_32 : decode cX5_worth 32 = .ok (.imul, 1) := by decide +kernel
theorem dX5_worth_33 : decode cX5_worth 33 = .ok (.iload_n 2, 1) := by decide +kernel
theorem dX5_worth_34 : decode cX5_worth 34 = .ok (.iadd, 1) := by decide +kernel
theorem dX5_worth_35 : decode cX5_worth 35 = .ok (.iaload, 1) := by decide +kernel
theorem dX5_worth_36 : decode cX5_worth 36 = .ok (.istore 4, 2) := by decide +kernel
theorem dX5_worth_38 : decode cX5_worth 38 = .ok (.iconst 0, 1) := by decide +kernel
theorem dX5_worth_39 : decode cX5_worth 39 = .ok (.istore 5, 2) := by decide +kernel
theorem dX5_worth_41 : decode cX5_worth 41 = .ok (.iload_n 2, 1) := by decide +kernel
theorem dX5_worth_42 : decode cX5_worth 42 = .ok (.ifCond .ne 7, 3) := by decide +kernel
theorem dX5_worth_45 : decode cX5_worth 45 = .ok (.iconst 0, 1) := by decide +kernel
theorem dX5_worth_46 : decode cX5_worth 46 = .ok (.goto 15, 3) := by decide +kernel
theorem dX5_worth_49 : decode cX5_worth 49 = .ok (.aload_n 0, 1) := by decide +kernel
theorem dX5_worth_50 : decode cX5_worth 50 = .ok (.getfield 15, 3) := by decide +kernel
theorem dX5_worth_53 : decode cX5_worth 53 = .ok (.iload_n 1, 1) := by decide +kernel
theorem dX5_worth_54 : decode cX5_worth 54 = .ok (.iconst 3, 1) := by decide +kernel
theorem dX5_worth_55 : decode cX5_worth 55 = .ok (.imul, 1) := by decide +kernel
theorem dX5_worth_56 : decode cX5_worth 56 = .ok (.iload_n 2, 1) := by decide +kernel
theorem dX5_worth_57 : decode cX5_worth 57 = .ok (.iadd, 1) := by decide +kernel
theorem dX5_worth_58 : decode cX5_worth 58 = .ok (.iconst 1, 1) := by decide +kernel
theorem dX5_worth_59 : decode cX5_worth 59 = .ok (.isub, 1) := by decide +kernel
theorem dX5_worth_60 : decode cX5_worth 60 = .ok (.iaload, 1) := by decide +kernel
theorem dX5_worth_61 : decode cX5_worth 61 = .ok (.istore 6, 2) := by decide +kernel
theorem dX5_worth_63 : decode cX5_worth 63 = .ok (.iload 6, 2) := by decide +kernel
theorem dX5_worth_65 : decode cX5_worth 65 = .ok (.iload 4, 2) := by decide +kernel
theorem dX5_worth_67 : decode cX5_worth 67 = .ok (.if_icmp .ge 182, 3) := by decide +kernel
theorem dX5_worth_70 : decode cX5_worth 70 = .ok (.iload 6, 2) := by decide +kernel
theorem dX5_worth_72 : decode cX5_worth 72 = .ok (.sipush 160, 3) := by decide +kernel
theorem dX5_worth_75 : decode cX5_worth 75 = .ok (.invokestatic 28, 3) := by decide +kernel
theorem dX5_worth_78 : decode cX5_worth 78 = .ok (.ifCond .eq 171, 3) := by decide +kernel
theorem dX5_worth_81 : decode cX5_worth 81 = .ok (.aload_n 0, 1) := by decide +kernel
theorem dX5_worth_82 : decode cX5_worth 82 = .ok (.getfield 9, 3) := by decide +kernel
theorem dX5_worth_85 : decode cX5_worth 85 = .ok (.iload_n 1, 1) := by decide +kernel
theorem dX5_worth_86 : decode cX5_worth 86 = .ok (.sipush 160, 3) := by decide +kernel
theorem dX5_worth_89 : decode cX5_worth 89 = .ok (.imul, 1) := by decide +kernel
theorem dX5_worth_90 : decode cX5_worth 90 = .ok (.iload 6, 2) := by decide +kernel
theorem dX5_worth_92 : decode cX5_worth 92 = .ok (.iadd, 1) := by decide +kernel
theorem dX5_worth_93 : decode cX5_worth 93 = .ok (.iaload, 1) := by decide +kernel
theorem dX5_worth_94 : decode cX5_worth 94 = .ok (.istore 7, 2) := by decide +kernel
theorem dX5_worth_96 : decode cX5_worth 96 = .ok (.iload 7, 2) := by decide +kernel
theorem dX5_worth_98 : decode cX5_worth 98 = .ok (.bipush (-6), 2) := by decide +kernel
theorem dX5_worth_100 : decode cX5_worth 100 = .ok (.if_icmp .lt 40, 3) := by decide +kernel
theorem dX5_worth_103 : decode cX5_worth 103 = .ok (.iload 5, 2) := by decide +kernel
theorem dX5_worth_105 : decode cX5_worth 105 = .ok (.sipush 160, 3) := by decide +kernel
theorem dX5_worth_108 : decode cX5_worth 108 = .ok (.if_icmp .ge 32, 3) := by decide +kernel
theorem dX5_worth_111 : decode cX5_worth 111 = .ok (.aload_n 0, 1) := by decide +kernel
theorem dX5_worth_112 : decode cX5_worth 112 = .ok (.getfield 18, 3) := by decide +kernel
theorem dX5_worth_115 : decode cX5_worth 115 = .ok (.iload 5, 2) := by decide +kernel
theorem dX5_worth_117 : decode cX5_worth 117 = .ok (.iload 7, 2) := by decide +kernel
theorem dX5_worth_119 : decode cX5_worth 119 = .ok (.ifCond .lt 8, 3) := by decide +kernel
theorem dX5_worth_122 : decode cX5_worth 122 = .ok (.iload 7, 2) := by decide +kernel
theorem dX5_worth_124 : decode cX5_worth 124 = .ok (.goto 9, 3) := by decide +kernel
theorem dX5_worth_127 : decode cX5_worth 127 = .ok (.aload_n 3, 1) := by decide +kernel
theorem dX5_worth_128 : decode cX5_worth 128 = .ok (.iconst (-1), 1) := by decide +kernel
theorem dX5_worth_129 : decode cX5_worth 129 = .ok (.iload 7, 2) := by decide +kernel
theorem dX5_worth_131 : decode cX5_worth 131 = .ok (.isub, 1) := by decide +kernel
theorem dX5_worth_132 : decode cX5_worth 132 = .ok (.iaload, 1) := by decide +kernel
theorem dX5_worth_133 : decode cX5_worth 133 = .ok (.iastore, 1) := by decide +kernel
theorem dX5_worth_134 : decode cX5_worth 134 = .ok (.iinc 5 1, 3) := by decide +kernel
theorem dX5_worth_137 : decode cX5_worth 137 = .ok (.goto 106, 3) := by decide +kernel
theorem dX5_worth_140 : decode cX5_worth 140 = .ok (.iload 7, 2) := by decide +kernel
theorem dX5_worth_142 : decode cX5_worth 142 = .ok (.bipush (-8), 2) := by decide +kernel
theorem dX5_worth_144 : decode cX5_worth 144 = .ok (.if_icmp .lt 58, 3) := by decide +kernel
theorem dX5_worth_147 : decode cX5_worth 147 = .ok (.iload 5, 2) := by decide +kernel
theorem dX5_worth_149 : decode cX5_worth 149 = .ok (.iconst 1, 1) := by decide +kernel
theorem dX5_worth_150 : decode cX5_worth 150 = .ok (.if_icmp .lt 52, 3) := by decide +kernel
theorem dX5_worth_153 : decode cX5_worth 153 = .ok (.aload_n 0, 1) := by decide +kernel
theorem dX5_worth_154 : decode cX5_worth 154 = .ok (.getfield 18, 3) := by decide +kernel
theorem dX5_worth_157 : decode cX5_worth 157 = .ok (.iload 5, 2) := by decide +kernel
theorem dX5_worth_159 : decode cX5_worth 159 = .ok (.iconst 1, 1) := by decide +kernel
theorem dX5_worth_160 : decode cX5_worth 160 = .ok (.isub, 1) := by decide +kernel
theorem dX5_worth_161 : decode cX5_worth 161 = .ok (.iload 7, 2) := by decide +kernel
theorem dX5_worth_163 : decode cX5_worth 163 = .ok (.bipush (-7), 2) := by decide +kernel
theorem dX5_worth_165 : decode cX5_worth 165 = .ok (.if_icmp .ne 23, 3) := by decide +kernel
theorem dX5_worth_168 : decode cX5_worth 168 = .ok (.aload_n 0, 1) := by decide +kernel
theorem dX5_worth_169 : decode cX5_worth 169 = .ok (.getfield 18, 3) := by decide +kernel
theorem dX5_worth_172 : decode cX5_worth 172 = .ok (.iload 5, 2) := by decide +kernel
theorem dX5_worth_174 : decode cX5_worth 174 = .ok (.iconst 1, 1) := by decide +kernel
theorem dX5_worth_175 : decode cX5_worth 175 = .ok (.isub, 1) := by decide +kernel
theorem dX5_worth_176 : decode cX5_worth 176 = .ok (.iaload, 1) := by decide +kernel
theorem dX5_worth_177 : decode cX5_worth 177 = .ok (.ifCond .ne 7, 3) := by decide +kernel
theorem dX5_worth_180 : decode cX5_worth 180 = .ok (.iconst 1, 1) := by decide +kernel
theorem dX5_worth_181 : decode cX5_worth 181 = .ok (.goto 17, 3) := by decide +kernel
theorem dX5_worth_184 : decode cX5_worth 184 = .ok (.iconst 0, 1) := by decide +kernel
theorem dX5_worth_185 : decode cX5_worth 185 = .ok (.goto 13, 3) := by decide +kernel
theorem dX5_worth_188 : decode cX5_worth 188 = .ok (.aload_n 0, 1) := by decide +kernel
theorem dX5_worth_189 : decode cX5_worth 189 = .ok (.getfield 18, 3) := by decide +kernel
theorem dX5_worth_192 : decode cX5_worth 192 = .ok (.iload 5, 2) := by decide +kernel
theorem dX5_worth_194 : decode cX5_worth 194 = .ok (.iconst 1, 1) := by decide +kernel
theorem dX5_worth_195 : decode cX5_worth 195 = .ok (.isub, 1) := by decide +kernel
theorem dX5_worth_196 : decode cX5_worth 196 = .ok (.iaload, 1) := by decide +kernel
theorem dX5_worth_197 : decode cX5_worth 197 = .ok (.ineg, 1) := by decide +kernel
theorem dX5_worth_198 : decode cX5_worth 198 = .ok (.iastore, 1) := by decide +kernel
theorem dX5_worth_199 : decode cX5_worth 199 = .ok (.goto 44, 3) := by decide +kernel
theorem dX5_worth_202 : decode cX5_worth 202 = .ok (.iload 5, 2) := by decide +kernel
theorem dX5_worth_204 : decode cX5_worth 204 = .ok (.iconst 2, 1) := by decide +kernel
theorem dX5_worth_205 : decode cX5_worth 205 = .ok (.if_icmp .lt 38, 3) := by decide +kernel
theorem dX5_worth_208 : decode cX5_worth 208 = .ok (.aload_n 0, 1) := by decide +kernel
theorem dX5_worth_209 : decode cX5_worth 209 = .ok (.getfield 18, 3) := by decide +kernel
theorem dX5_worth_212 : decode cX5_worth 212 = .ok (.iload 5, 2) := by decide +kernel
theorem dX5_worth_214 : decode cX5_worth 214 = .ok (.iconst 2, 1) := by decide +kernel
theorem dX5_worth_215 : decode cX5_worth 215 = .ok (.isub, 1) := by decide +kernel
theorem dX5_worth_216 : decode cX5_worth 216 = .ok (.iload 7, 2) := by decide +kernel
theorem dX5_worth_218 : decode cX5_worth 218 = .ok (.aload_n 0, 1) := by decide +kernel
theorem dX5_worth_219 : decode cX5_worth 219 = .ok (.getfield 18, 3) := by decide +kernel
theorem dX5_worth_222 : decode cX5_worth 222 = .ok (.iload 5, 2) := by decide +kernel
theorem dX5_worth_224 : decode cX5_worth 224 = .ok (.iconst 2, 1) := by decide +kernel
theorem dX5_worth_225 : decode cX5_worth 225 = .ok (.isub, 1) := by decide +kernel
theorem dX5_worth_226 : decode cX5_worth 226 = .ok (.iaload, 1) := by decide +kernel
theorem dX5_worth_227 : decode cX5_worth 227 = .ok (.aload_n 0, 1) := by decide +kernel
theorem dX5_worth_228 : decode cX5_worth 228 = .ok (.getfield 18, 3) := by decide +kernel
theorem dX5_worth_231 : decode cX5_worth 231 = .ok (.iload 5, 2) := by decide +kernel
theorem dX5_worth_233 : decode cX5_worth 233 = .ok (.iconst 1, 1) := by decide +kernel
theorem dX5_worth_234 : decode cX5_worth 234 = .ok (.isub, 1) := by decide +kernel
theorem dX5_worth_235 : decode cX5_worth 235 = .ok (.iaload, 1) := by decide +kernel
theorem dX5_worth_236 : decode cX5_worth 236 = .ok (.invokestatic 38, 3) := by decide +kernel
theorem dX5_worth_239 : decode cX5_worth 239 = .ok (.iastore, 1) := by decide +kernel
theorem dX5_worth_240 : decode cX5_worth 240 = .ok (.iinc 5 (-1), 3) := by decide +kernel
theorem dX5_worth_243 : decode cX5_worth 243 = .ok (.iinc 6 1, 3) := by decide +kernel
theorem dX5_worth_246 : decode cX5_worth 246 = .ok (.goto (-183), 3) := by decide +kernel
theorem dX5_worth_249 : decode cX5_worth 249 = .ok (.aload_n 0, 1) := by decide +kernel
theorem dX5_worth_250 : decode cX5_worth 250 = .ok (.getfield 18, 3) := by decide +kernel
theorem dX5_worth_253 : decode cX5_worth 253 = .ok (.iconst 0, 1) := by decide +kernel
theorem dX5_worth_254 : decode cX5_worth 254 = .ok (.iaload, 1) := by decide +kernel
theorem dX5_worth_255 : decode cX5_worth 255 = .ok (.ireturn, 1) := by decide +kernel
theorem dX5_joined_0 : decode cX5_joined 0 = .ok (.iload_n 0, 1) := by decide +kernel
theorem dX5_joined_1 : decode cX5_joined 1 = .ok (.tableswitch 97 (-14) (-9) #[93, 89, 78, 67, 53, 39], 39) := by decide +kernel
theorem dX5_joined_40 : decode cX5_joined 40 = .ok (.iload_n 1, 1) := by decide +kernel
theorem dX5_joined_41 : decode cX5_joined 41 = .ok (.ifCond .ne 7, 3) := by decide +kernel
theorem dX5_joined_44 : decode cX5_joined 44 = .ok (.iload_n 2, 1) := by decide +kernel
theorem dX5_joined_45 : decode cX5_joined 45 = .ok (.ifCond .eq 7, 3) := by decide +kernel
theorem dX5_joined_48 : decode cX5_joined 48 = .ok (.iconst 1, 1) := by decide +kernel
theorem dX5_joined_49 : decode cX5_joined 49 = .ok (.goto 4, 3) := by decide +kernel
theorem dX5_joined_52 : decode cX5_joined 52 = .ok (.iconst 0, 1) := by decide +kernel
theorem dX5_joined_53 : decode cX5_joined 53 = .ok (.ireturn, 1) := by decide +kernel
theorem dX5_joined_54 : decode cX5_joined 54 = .ok (.iload_n 1, 1) := by decide +kernel
theorem dX5_joined_55 : decode cX5_joined 55 = .ok (.ifCond .eq 11, 3) := by decide +kernel
theorem dX5_joined_58 : decode cX5_joined 58 = .ok (.iload_n 2, 1) := by decide +kernel
theorem dX5_joined_59 : decode cX5_joined 59 = .ok (.ifCond .eq 7, 3) := by decide +kernel
theorem dX5_joined_62 : decode cX5_joined 62 = .ok (.iconst 1, 1) := by decide +kernel
theorem dX5_joined_63 : decode cX5_joined 63 = .ok (.goto 4, 3) := by decide +kernel
theorem dX5_joined_66 : decode cX5_joined 66 = .ok (.iconst 0, 1) := by decide +kernel
theorem dX5_joined_67 : decode cX5_joined 67 = .ok (.ireturn, 1) := by decide +kernel
theorem dX5_joined_68 : decode cX5_joined 68 = .ok (.iload_n 1, 1) := by decide +kernel
theorem dX5_joined_69 : decode cX5_joined 69 = .ok (.iload_n 2, 1) := by decide +kernel
theorem dX5_joined_70 : decode cX5_joined 70 = .ok (.if_icmp .ge 7, 3) := by decide +kernel
theorem dX5_joined_73 : decode cX5_joined 73 = .ok (.iconst 1, 1) := by decide +kernel
theorem dX5_joined_74 : decode cX5_joined 74 = .ok (.goto 4, 3) := by decide +kernel
theorem dX5_joined_77 : decode cX5_joined 77 = .ok (.iconst 0, 1) := by decide +kernel
theorem dX5_joined_78 : decode cX5_joined 78 = .ok (.ireturn, 1) := by decide +kernel
theorem dX5_joined_79 : decode cX5_joined 79 = .ok (.iload_n 1, 1) := by decide +kernel
theorem dX5_joined_80 : decode cX5_joined 80 = .ok (.iload_n 2, 1) := by decide +kernel
theorem dX5_joined_81 : decode cX5_joined 81 = .ok (.if_icmp .ne 7, 3) := by decide +kernel
theorem dX5_joined_84 : decode cX5_joined 84 = .ok (.iconst 1, 1) := by decide +kernel
theorem dX5_joined_85 : decode cX5_joined 85 = .ok (.goto 4, 3) := by decide +kernel
theorem dX5_joined_88 : decode cX5_joined 88 = .ok (.iconst 0, 1) := by decide +kernel
theorem dX5_joined_89 : decode cX5_joined 89 = .ok (.ireturn, 1) := by decide +kernel
theorem dX5_joined_90 : decode cX5_joined 90 = .ok (.iload_n 1, 1) := by decide +kernel
theorem dX5_joined_91 : decode cX5_joined 91 = .ok (.iload_n 2, 1) := by decide +kernel
theorem dX5_joined_92 : decode cX5_joined 92 = .ok (.iadd, 1) := by decide +kernel
theorem dX5_joined_93 : decode cX5_joined 93 = .ok (.ireturn, 1) := by decide +kernel
theorem dX5_joined_94 : decode cX5_joined 94 = .ok (.iload_n 1, 1) := by decide +kernel
theorem dX5_joined_95 : decode cX5_joined 95 = .ok (.iload_n 2, 1) := by decide +kernel
theorem dX5_joined_96 : decode cX5_joined 96 = .ok (.isub, 1) := by decide +kernel
theorem dX5_joined_97 : decode cX5_joined 97 = .ok (.ireturn, 1) := by decide +kernel
theorem dX5_joined_98 : decode cX5_joined 98 = .ok (.iload_n 1, 1) := by decide +kernel
theorem dX5_joined_99 : decode cX5_joined 99 = .ok (.iload_n 2, 1) := by decide +kernel
theorem dX5_joined_100 : decode cX5_joined 100 = .ok (.imul, 1) := by decide +kernel
theorem dX5_joined_101 : decode cX5_joined 101 = .ok (.ireturn, 1) := by decide +kernel
theorem dJ11_isValidCodePoint_9a6ad_0 : decode cJ11_isValidCodePoint_9a6ad 0 = .ok (.iload_n 0, 1) := by decide +kernel
theorem dJ11_isValidCodePoint_9a6ad_1 : decode cJ11_isValidCodePoint_9a6ad 1 = .ok (.bipush 16, 2) := by decide +kernel
theorem dJ11_isValidCodePoint_9a6ad_3 : decode cJ11_isValidCodePoint_9a6ad 3 = .ok (.iushr, 1) := by decide +kernel
theorem dJ11_isValidCodePoint_9a6ad_4 : decode cJ11_isValidCodePoint_9a6ad 4 = .ok (.istore_n 1, 1) := by decide +kernel
theorem dJ11_isValidCodePoint_9a6ad_5 : decode cJ11_isValidCodePoint_9a6ad 5 = .ok (.iload_n 1, 1) := by decide +kernel
theorem dJ11_isValidCodePoint_9a6ad_6 : decode cJ11_isValidCodePoint_9a6ad 6 = .ok (.bipush 17, 2) := by decide +kernel
theorem dJ11_isValidCodePoint_9a6ad_8 : decode cJ11_isValidCodePoint_9a6ad 8 = .ok (.if_icmp .ge 7, 3) := by decide +kernel
theorem dJ11_isValidCodePoint_9a6ad_11 : decode cJ11_isValidCodePoint_9a6ad 11 = .ok (.iconst 1, 1) := by decide +kernel
theorem dJ11_isValidCodePoint_9a6ad_12 : decode cJ11_isValidCodePoint_9a6ad 12 = .ok (.goto 4, 3) := by decide +kernel
theorem dJ11_isValidCodePoint_9a6ad_15 : decode cJ11_isValidCodePoint_9a6ad 15 = .ok (.iconst 0, 1) := by decide +kernel
theorem dJ11_isValidCodePoint_9a6ad_16 : decode cJ11_isValidCodePoint_9a6ad 16 = .ok (.ireturn, 1) := by decide +kernel
theorem dJ11_highSurrogate_5068e_0 : decode cJ11_highSurrogate_5068e 0 = .ok (.iload_n 0, 1) := by decide +kernel
theorem dJ11_highSurrogate_5068e_1 : decode cJ11_highSurrogate_5068e 1 = .ok (.bipush 10, 2) := by decide +kernel
theorem dJ11_highSurrogate_5068e_3 : decode cJ11_highSurrogate_5068e 3 = .ok (.iushr, 1) := by decide +kernel
theorem dJ11_highSurrogate_5068e_4 : decode cJ11_highSurrogate_5068e 4 = .ok (.ldc 110, 2) := by decide +kernel
theorem dJ11_highSurrogate_5068e_6 : decode cJ11_highSurrogate_5068e 6 = .ok (.iadd, 1) := by decide +kernel
theorem dJ11_highSurrogate_5068e_7 : decode cJ11_highSurrogate_5068e 7 = .ok (.i2c, 1) := by decide +kernel
theorem dJ11_highSurrogate_5068e_8 : decode cJ11_highSurrogate_5068e 8 = .ok (.ireturn, 1) := by decide +kernel
theorem dJ11_lowSurrogate_5068e_0 : decode cJ11_lowSurrogate_5068e 0 = .ok (.iload_n 0, 1) := by decide +kernel
theorem dJ11_lowSurrogate_5068e_1 : decode cJ11_lowSurrogate_5068e 1 = .ok (.sipush 1023, 3) := by decide +kernel
theorem dJ11_lowSurrogate_5068e_4 : decode cJ11_lowSurrogate_5068e 4 = .ok (.iand, 1) := by decide +kernel
theorem dJ11_lowSurrogate_5068e_5 : decode cJ11_lowSurrogate_5068e 5 = .ok (.ldc 76, 2) := by decide +kernel
theorem dJ11_lowSurrogate_5068e_7 : decode cJ11_lowSurrogate_5068e 7 = .ok (.iadd, 1) := by decide +kernel
theorem dJ11_lowSurrogate_5068e_8 : decode cJ11_lowSurrogate_5068e 8 = .ok (.i2c, 1) := by decide +kernel
theorem dJ11_lowSurrogate_5068e_9 : decode cJ11_lowSurrogate_5068e 9 = .ok (.ireturn, 1) := by decide +kernel
theorem dJ13_bitCount_95d88_0 : decode cJ13_bitCount_95d88 0 = .ok (.lload_n 0, 1) := by decide +kernel
theorem dJ13_bitCount_95d88_1 : decode cJ13_bitCount_95d88 1 = .ok (.lload_n 0, 1) := by decide +kernel
theorem dJ13_bitCount_95d88_2 : decode cJ13_bitCount_95d88 2 = .ok (.iconst 1, 1) := by decide +kernel
theorem dJ13_bitCount_95d88_3 : decode cJ13_bitCount_95d88 3 = .ok (.lushr, 1) := by decide +kernel
theorem dJ13_bitCount_95d88_4 : decode cJ13_bitCount_95d88 4 = .ok (.ldc2_w 314, 3) := by decide +kernel
theorem dJ13_bitCount_95d88_7 : decode cJ13_bitCount_95d88 7 = .ok (.land, 1) := by decide +kernel
theorem dJ13_bitCount_95d88_8 : decode cJ13_bitCount_95d88 8 = .ok (.lsub, 1) := by decide +kernel
theorem dJ13_bitCount_95d88_9 : decode cJ13_bitCount_95d88 9 = .ok (.lstore_n 0, 1) := by decide +kernel
theorem dJ13_bitCount_95d88_10 : decode cJ13_bitCount_95d88 10 = .ok (.lload_n 0, 1) := by decide +kernel
theorem dJ13_bitCount_95d88_11 : decode cJ13_bitCount_95d88 11 = .ok (.ldc2_w 316, 3) := by decide +kernel
theorem dJ13_bitCount_95d88_14 : decode cJ13_bitCount_95d88 14 = .ok (.land, 1) := by decide +kernel
theorem dJ13_bitCount_95d88_15 : decode cJ13_bitCount_95d88 15 = .ok (.lload_n 0, 1) := by decide +kernel
theorem dJ13_bitCount_95d88_16 : decode cJ13_bitCount_95d88 16 = .ok (.iconst 2, 1) := by decide +kernel
theorem dJ13_bitCount_95d88_17 : decode cJ13_bitCount_95d88 17 = .ok (.lushr, 1) := by decide +kernel
theorem dJ13_bitCount_95d88_18 : decode cJ13_bitCount_95d88 18 = .ok (.ldc2_w 316, 3) := by decide +kernel
theorem dJ13_bitCount_95d88_21 : decode cJ13_bitCount_95d88 21 = .ok (.land, 1) := by decide +kernel
theorem dJ13_bitCount_95d88_22 : decode cJ13_bitCount_95d88 22 = .ok (.ladd, 1) := by decide +kernel
theorem dJ13_bitCount_95d88_23 : decode cJ13_bitCount_95d88 23 = .ok (.lstore_n 0, 1) := by decide +kernel
theorem dJ13_bitCount_95d88_24 : decode cJ13_bitCount_95d88 24 = .ok (.lload_n 0, 1) := by decide +kernel
theorem dJ13_bitCount_95d88_25 : decode cJ13_bitCount_95d88 25 = .ok (.lload_n 0, 1) := by decide +kernel
theorem dJ13_bitCount_95d88_26 : decode cJ13_bitCount_95d88 26 = .ok (.iconst 4, 1) := by decide +kernel
theorem dJ13_bitCount_95d88_27 : decode cJ13_bitCount_95d88 27 = .ok (.lushr, 1) := by decide +kernel
theorem dJ13_bitCount_95d88_28 : decode cJ13_bitCount_95d88 28 = .ok (.ladd, 1) := by decide +kernel
theorem dJ13_bitCount_95d88_29 : decode cJ13_bitCount_95d88 29 = .ok (.ldc2_w 318, 3) := by decide +kernel
theorem dJ13_bitCount_95d88_32 : decode cJ13_bitCount_95d88 32 = .ok (.land, 1) := by decide +kernel
theorem dJ13_bitCount_95d88_33 : decode cJ13_bitCount_95d88 33 = .ok (.lstore_n 0, 1) := by decide +kernel
theorem dJ13_bitCount_95d88_34 : decode cJ13_bitCount_95d88 34 = .ok (.lload_n 0, 1) := by decide +kernel
theorem dJ13_bitCount_95d88_35 : decode cJ13_bitCount_95d88 35 = .ok (.lload_n 0, 1) := by decide +kernel
theorem dJ13_bitCount_95d88_36 : decode cJ13_bitCount_95d88 36 = .ok (.bipush 8, 2) := by decide +kernel
theorem dJ13_bitCount_95d88_38 : decode cJ13_bitCount_95d88 38 = .ok (.lushr, 1) := by decide +kernel
theorem dJ13_bitCount_95d88_39 : decode cJ13_bitCount_95d88 39 = .ok (.ladd, 1) := by decide +kernel
theorem dJ13_bitCount_95d88_40 : decode cJ13_bitCount_95d88 40 = .ok (.lstore_n 0, 1) := by decide +kernel
theorem dJ13_bitCount_95d88_41 : decode cJ13_bitCount_95d88 41 = .ok (.lload_n 0, 1) := by decide +kernel
theorem dJ13_bitCount_95d88_42 : decode cJ13_bitCount_95d88 42 = .ok (.lload_n 0, 1) := by decide +kernel
theorem dJ13_bitCount_95d88_43 : decode cJ13_bitCount_95d88 43 = .ok (.bipush 16, 2) := by decide +kernel
theorem dJ13_bitCount_95d88_45 : decode cJ13_bitCount_95d88 45 = .ok (.lushr, 1) := by decide +kernel
theorem dJ13_bitCount_95d88_46 : decode cJ13_bitCount_95d88 46 = .ok (.ladd, 1) := by decide +kernel
theorem dJ13_bitCount_95d88_47 : decode cJ13_bitCount_95d88 47 = .ok (.lstore_n 0, 1) := by decide +kernel
theorem dJ13_bitCount_95d88_48 : decode cJ13_bitCount_95d88 48 = .ok (.lload_n 0, 1) := by decide +kernel
theorem dJ13_bitCount_95d88_49 : decode cJ13_bitCount_95d88 49 = .ok (.lload_n 0, 1) := by decide +kernel
theorem dJ13_bitCount_95d88_50 : decode cJ13_bitCount_95d88 50 = .ok (.bipush 32, 2) := by decide +kernel
theorem dJ13_bitCount_95d88_52 : decode cJ13_bitCount_95d88 52 = .ok (.lushr, 1) := by decide +kernel
theorem dJ13_bitCount_95d88_53 : decode cJ13_bitCount_95d88 53 = .ok (.ladd, 1) := by decide +kernel
theorem dJ13_bitCount_95d88_54 : decode cJ13_bitCount_95d88 54 = .ok (.lstore_n 0, 1) := by decide +kernel
theorem dJ13_bitCount_95d88_55 : decode cJ13_bitCount_95d88 55 = .ok (.lload_n 0, 1) := by decide +kernel
theorem dJ13_bitCount_95d88_56 : decode cJ13_bitCount_95d88 56 = .ok (.l2i, 1) := by decide +kernel
theorem dJ13_bitCount_95d88_57 : decode cJ13_bitCount_95d88 57 = .ok (.bipush 127, 2) := by decide +kernel
theorem dJ13_bitCount_95d88_59 : decode cJ13_bitCount_95d88 59 = .ok (.iand, 1) := by decide +kernel
theorem dJ13_bitCount_95d88_60 : decode cJ13_bitCount_95d88 60 = .ok (.ireturn, 1) := by decide +kernel
theorem dJ9_max_7cf53_0 : decode cJ9_max_7cf53 0 = .ok (.iload_n 0, 1) := by decide +kernel
theorem dJ9_max_7cf53_1 : decode cJ9_max_7cf53 1 = .ok (.iload_n 1, 1) := by decide +kernel
theorem dJ9_max_7cf53_2 : decode cJ9_max_7cf53 2 = .ok (.if_icmp .lt 7, 3) := by decide +kernel
theorem dJ9_max_7cf53_5 : decode cJ9_max_7cf53 5 = .ok (.iload_n 0, 1) := by decide +kernel
theorem dJ9_max_7cf53_6 : decode cJ9_max_7cf53 6 = .ok (.goto 4, 3) := by decide +kernel
theorem dJ9_max_7cf53_9 : decode cJ9_max_7cf53 9 = .ok (.iload_n 1, 1) := by decide +kernel
theorem dJ9_max_7cf53_10 : decode cJ9_max_7cf53 10 = .ok (.ireturn, 1) := by decide +kernel
theorem dJ9_min_7cf53_0 : decode cJ9_min_7cf53 0 = .ok (.iload_n 0, 1) := by decide +kernel
theorem dJ9_min_7cf53_1 : decode cJ9_min_7cf53 1 = .ok (.iload_n 1, 1) := by decide +kernel
theorem dJ9_min_7cf53_2 : decode cJ9_min_7cf53 2 = .ok (.if_icmp .gt 7, 3) := by decide +kernel
theorem dJ9_min_7cf53_5 : decode cJ9_min_7cf53 5 = .ok (.iload_n 0, 1) := by decide +kernel
theorem dJ9_min_7cf53_6 : decode cJ9_min_7cf53 6 = .ok (.goto 4, 3) := by decide +kernel
theorem dJ9_min_7cf53_9 : decode cJ9_min_7cf53 9 = .ok (.iload_n 1, 1) := by decide +kernel
theorem dJ9_min_7cf53_10 : decode cJ9_min_7cf53 10 = .ok (.ireturn, 1) := by decide +kernel
theorem dJ0_length_8abf5_0 : decode cJ0_length_8abf5 0 = .ok (.aload_n 0, 1) := by decide +kernel
theorem dJ0_length_8abf5_1 : decode cJ0_length_8abf5 1 = .ok (.getfield 9, 3) := by decide +kernel
theorem dJ0_length_8abf5_4 : decode cJ0_length_8abf5 4 = .ok (.arraylength, 1) := by decide +kernel
theorem dJ0_length_8abf5_5 : decode cJ0_length_8abf5 5 = .ok (.aload_n 0, 1) := by decide +kernel
theorem dJ0_length_8abf5_6 : decode cJ0_length_8abf5 6 = .ok (.invokevirtual 335, 3) := by decide +kernel
theorem dJ0_length_8abf5_9 : decode cJ0_length_8abf5 9 = .ok (.ishr, 1) := by decide +kernel
theorem dJ0_length_8abf5_10 : decode cJ0_length_8abf5 10 = .ok (.ireturn, 1) := by decide +kernel
theorem dJ0_charAt_5068e_0 : decode cJ0_charAt_5068e 0 = .ok (.aload_n 0, 1) := by decide +kernel
theorem dJ0_charAt_5068e_1 : decode cJ0_charAt_5068e 1 = .ok (.invokevirtual 492, 3) := by decide +kernel
theorem dJ0_charAt_5068e_4 : decode cJ0_charAt_5068e 4 = .ok (.ifCond .eq 12, 3) := by decide +kernel
theorem dJ0_charAt_5068e_7 : decode cJ0_charAt_5068e 7 = .ok (.aload_n 0, 1) := by decide +kernel
theorem dJ0_charAt_5068e_8 : decode cJ0_charAt_5068e 8 = .ok (.getfield 9, 3) := by decide +kernel
theorem dJ0_charAt_5068e_11 : decode cJ0_charAt_5068e 11 = .ok (.iload_n 1, 1) := by decide +kernel
theorem dJ0_charAt_5068e_12 : decode cJ0_charAt_5068e 12 = .ok (.invokestatic 495, 3) := by decide +kernel
theorem dJ0_charAt_5068e_15 : decode cJ0_charAt_5068e 15 = .ok (.ireturn, 1) := by decide +kernel
theorem dJ0_charAt_5068e_16 : decode cJ0_charAt_5068e 16 = .ok (.aload_n 0, 1) := by decide +kernel
theorem dJ0_charAt_5068e_17 : decode cJ0_charAt_5068e 17 = .ok (.getfield 9, 3) := by decide +kernel
theorem dJ0_charAt_5068e_20 : decode cJ0_charAt_5068e 20 = .ok (.iload_n 1, 1) := by decide +kernel
theorem dJ0_charAt_5068e_21 : decode cJ0_charAt_5068e 21 = .ok (.invokestatic 498, 3) := by decide +kernel
theorem dJ0_charAt_5068e_24 : decode cJ0_charAt_5068e 24 = .ok (.ireturn, 1) := by decide +kernel
theorem dJ0_indexOf_0f7a4_0 : decode cJ0_indexOf_0f7a4 0 = .ok (.aload_n 0, 1) := by decide +kernel
theorem dJ0_indexOf_0f7a4_1 : decode cJ0_indexOf_0f7a4 1 = .ok (.iload_n 1, 1) := by decide +kernel
theorem dJ0_indexOf_0f7a4_2 : decode cJ0_indexOf_0f7a4 2 = .ok (.iconst 0, 1) := by decide +kernel
theorem dJ0_indexOf_0f7a4_3 : decode cJ0_indexOf_0f7a4 3 = .ok (.invokevirtual 633, 3) := by decide +kernel
theorem dJ0_indexOf_0f7a4_6 : decode cJ0_indexOf_0f7a4 6 = .ok (.ireturn, 1) := by decide +kernel
theorem dJ0_indexOf_7cf53_0 : decode cJ0_indexOf_7cf53 0 = .ok (.aload_n 0, 1) := by decide +kernel
theorem dJ0_indexOf_7cf53_1 : decode cJ0_indexOf_7cf53 1 = .ok (.invokevirtual 492, 3) := by decide +kernel
theorem dJ0_indexOf_7cf53_4 : decode cJ0_indexOf_7cf53 4 = .ok (.ifCond .eq 19, 3) := by decide +kernel
theorem dJ0_indexOf_7cf53_7 : decode cJ0_indexOf_7cf53 7 = .ok (.aload_n 0, 1) := by decide +kernel
theorem dJ0_indexOf_7cf53_8 : decode cJ0_indexOf_7cf53 8 = .ok (.getfield 9, 3) := by decide +kernel
theorem dJ0_indexOf_7cf53_11 : decode cJ0_indexOf_7cf53 11 = .ok (.iload_n 1, 1) := by decide +kernel
theorem dJ0_indexOf_7cf53_12 : decode cJ0_indexOf_7cf53 12 = .ok (.iload_n 2, 1) := by decide +kernel
theorem dJ0_indexOf_7cf53_13 : decode cJ0_indexOf_7cf53 13 = .ok (.aload_n 0, 1) := by decide +kernel
theorem dJ0_indexOf_7cf53_14 : decode cJ0_indexOf_7cf53 14 = .ok (.invokevirtual 505, 3) := by decide +kernel
theorem dJ0_indexOf_7cf53_17 : decode cJ0_indexOf_7cf53 17 = .ok (.invokestatic 637, 3) := by decide +kernel
theorem dJ0_indexOf_7cf53_20 : decode cJ0_indexOf_7cf53 20 = .ok (.goto 16, 3) := by decide +kernel
theorem dJ0_indexOf_7cf53_23 : decode cJ0_indexOf_7cf53 23 = .ok (.aload_n 0, 1) := by decide +kernel
theorem dJ0_indexOf_7cf53_24 : decode cJ0_indexOf_7cf53 24 = .ok (.getfield 9, 3) := by decide +kernel
theorem dJ0_indexOf_7cf53_27 : decode cJ0_indexOf_7cf53 27 = .ok (.iload_n 1, 1) := by decide +kernel
theorem dJ0_indexOf_7cf53_28 : decode cJ0_indexOf_7cf53 28 = .ok (.iload_n 2, 1) := by decide +kernel
theorem dJ0_indexOf_7cf53_29 : decode cJ0_indexOf_7cf53 29 = .ok (.aload_n 0, 1) := by decide +kernel
theorem dJ0_indexOf_7cf53_30 : decode cJ0_indexOf_7cf53 30 = .ok (.invokevirtual 505, 3) := by decide +kernel
theorem dJ0_indexOf_7cf53_33 : decode cJ0_indexOf_7cf53 33 = .ok (.invokestatic 640, 3) := by decide +kernel
theorem dJ0_indexOf_7cf53_36 : decode cJ0_indexOf_7cf53 36 = .ok (.ireturn, 1) := by decide +kernel
theorem dJ0_coder_7d493_0 : decode cJ0_coder_7d493 0 = .ok (.getstatic 38, 3) := by decide +kernel
theorem dJ0_coder_7d493_3 : decode cJ0_coder_7d493 3 = .ok (.ifCond .eq 10, 3) := by decide +kernel
theorem dJ0_coder_7d493_6 : decode cJ0_coder_7d493 6 = .ok (.aload_n 0, 1) := by decide +kernel
theorem dJ0_coder_7d493_7 : decode cJ0_coder_7d493 7 = .ok (.getfield 15, 3) := by decide +kernel
theorem dJ0_coder_7d493_10 : decode cJ0_coder_7d493 10 = .ok (.goto 4, 3) := by decide +kernel
theorem dJ0_coder_7d493_13 : decode cJ0_coder_7d493 13 = .ok (.iconst 1, 1) := by decide +kernel
theorem dJ0_coder_7d493_14 : decode cJ0_coder_7d493 14 = .ok (.ireturn, 1) := by decide +kernel
theorem dJ0_isLatin1_aae02_0 : decode cJ0_isLatin1_aae02 0 = .ok (.getstatic 38, 3) := by decide +kernel
theorem dJ0_isLatin1_aae02_3 : decode cJ0_isLatin1_aae02 3 = .ok (.ifCond .eq 14, 3) := by decide +kernel
theorem dJ0_isLatin1_aae02_6 : decode cJ0_isLatin1_aae02 6 = .ok (.aload_n 0, 1) := by decide +kernel
theorem dJ0_isLatin1_aae02_7 : decode cJ0_isLatin1_aae02 7 = .ok (.getfield 15, 3) := by decide +kernel
theorem dJ0_isLatin1_aae02_10 : decode cJ0_isLatin1_aae02 10 = .ok (.ifCond .ne 7, 3) := by decide +kernel
theorem dJ0_isLatin1_aae02_13 : decode cJ0_isLatin1_aae02 13 = .ok (.iconst 1, 1) := by decide +kernel
theorem dJ0_isLatin1_aae02_14 : decode cJ0_isLatin1_aae02 14 = .ok (.goto 4, 3) := by decide +kernel
theorem dJ0_isLatin1_aae02_17 : decode cJ0_isLatin1_aae02 17 = .ok (.iconst 0, 1) := by decide +kernel
theorem dJ0_isLatin1_aae02_18 : decode cJ0_isLatin1_aae02 18 = .ok (.ireturn, 1) := by decide +kernel
theorem dJ0_checkIndex_df160_0 : decode cJ0_checkIndex_df160 0 = .ok (.iload_n 0, 1) := by decide +kernel
theorem dJ0_checkIndex_df160_1 : decode cJ0_checkIndex_df160 1 = .ok (.iload_n 1, 1) := by decide +kernel
theorem dJ0_checkIndex_df160_2 : decode cJ0_checkIndex_df160 2 = .ok (.getstatic 1053, 3) := by decide +kernel
theorem dJ0_checkIndex_df160_5 : decode cJ0_checkIndex_df160 5 = .ok (.invokestatic 1059, 3) := by decide +kernel
theorem dJ0_checkIndex_df160_8 : decode cJ0_checkIndex_df160 8 = .ok (.pop, 1) := by decide +kernel
theorem dJ0_checkIndex_df160_9 : decode cJ0_checkIndex_df160 9 = .ok (.return_, 1) := by decide +kernel
theorem dJ0_checkBoundsBeginEnd_23922_0 : decode cJ0_checkBoundsBeginEnd_23922 0 = .ok (.iload_n 0, 1) := by decide +kernel
theorem dJ0_checkBoundsBeginEnd_23922_1 : decode cJ0_checkBoundsBeginEnd_23922 1 = .ok (.iload_n 1, 1) := by decide +kernel
theorem dJ0_checkBoundsBeginEnd_23922_2 : decode cJ0_checkBoundsBeginEnd_23922 2 = .ok (.iload_n 2, 1) := by decide +kernel
theorem dJ0_checkBoundsBeginEnd_23922_3 : decode cJ0_checkBoundsBeginEnd_23922 3 = .ok (.getstatic 1053, 3) := by decide +kernel
theorem dJ0_checkBoundsBeginEnd_23922_6 : decode cJ0_checkBoundsBeginEnd_23922 6 = .ok (.invokestatic 1062, 3) := by decide +kernel
theorem dJ0_checkBoundsBeginEnd_23922_9 : decode cJ0_checkBoundsBeginEnd_23922 9 = .ok (.pop, 1) := by decide +kernel
theorem dJ0_checkBoundsBeginEnd_23922_10 : decode cJ0_checkBoundsBeginEnd_23922 10 = .ok (.return_, 1) := by decide +kernel
theorem dJ1_charAt_3b067_0 : decode cJ1_charAt_3b067 0 = .ok (.iload_n 1, 1) := by decide +kernel
theorem dJ1_charAt_3b067_1 : decode cJ1_charAt_3b067 1 = .ok (.aload_n 0, 1) := by decide +kernel
theorem dJ1_charAt_3b067_2 : decode cJ1_charAt_3b067 2 = .ok (.arraylength, 1) := by decide +kernel
theorem dJ1_charAt_3b067_3 : decode cJ1_charAt_3b067 3 = .ok (.invokestatic 9, 3) := by decide +kernel
theorem dJ1_charAt_3b067_6 : decode cJ1_charAt_3b067 6 = .ok (.aload_n 0, 1) := by decide +kernel
theorem dJ1_charAt_3b067_7 : decode cJ1_charAt_3b067 7 = .ok (.iload_n 1, 1) := by decide +kernel
theorem dJ1_charAt_3b067_8 : decode cJ1_charAt_3b067 8 = .ok (.baload, 1) := by decide +kernel
theorem dJ1_charAt_3b067_9 : decode cJ1_charAt_3b067 9 = .ok (.sipush 255, 3) := by decide +kernel
theorem dJ1_charAt_3b067_12 : decode cJ1_charAt_3b067 12 = .ok (.iand, 1) := by decide +kernel
theorem dJ1_charAt_3b067_13 : decode cJ1_charAt_3b067 13 = .ok (.i2c, 1) := by decide +kernel
theorem dJ1_charAt_3b067_14 : decode cJ1_charAt_3b067 14 = .ok (.ireturn, 1) := by decide +kernel
theorem dJ1_canEncode_9a6ad_0 : decode cJ1_canEncode_9a6ad 0 = .ok (.iload_n 0, 1) := by decide +kernel
theorem dJ1_canEncode_9a6ad_1 : decode cJ1_canEncode_9a6ad 1 = .ok (.ifCond .lt 14, 3) := by decide +kernel
theorem dJ1_canEncode_9a6ad_4 : decode cJ1_canEncode_9a6ad 4 = .ok (.iload_n 0, 1) := by decide +kernel
theorem dJ1_canEncode_9a6ad_5 : decode cJ1_canEncode_9a6ad 5 = .ok (.sipush 255, 3) := by decide +kernel
theorem dJ1_canEncode_9a6ad_8 : decode cJ1_canEncode_9a6ad 8 = .ok (.if_icmp .gt 7, 3) := by decide +kernel
theorem dJ1_canEncode_9a6ad_11 : decode cJ1_canEncode_9a6ad 11 = .ok (.iconst 1, 1) := by decide +kernel
theorem dJ1_canEncode_9a6ad_12 : decode cJ1_canEncode_9a6ad 12 = .ok (.goto 4, 3) := by decide +kernel
theorem dJ1_canEncode_9a6ad_15 : decode cJ1_canEncode_9a6ad 15 = .ok (.iconst 0, 1) := by decide +kernel
theorem dJ1_canEncode_9a6ad_16 : decode cJ1_canEncode_9a6ad 16 = .ok (.ireturn, 1) := by decide +kernel
theorem dJ1_indexOf_4cfef_0 : decode cJ1_indexOf_4cfef 0 = .ok (.iload_n 1, 1) := by decide +kernel
theorem dJ1_indexOf_4cfef_1 : decode cJ1_indexOf_4cfef 1 = .ok (.invokestatic 88, 3) := by decide +kernel
theorem dJ1_indexOf_4cfef_4 : decode cJ1_indexOf_4cfef 4 = .ok (.ifCond .ne 5, 3) := by decide +kernel
theorem dJ1_indexOf_4cfef_7 : decode cJ1_indexOf_4cfef 7 = .ok (.iconst (-1), 1) := by decide +kernel
theorem dJ1_indexOf_4cfef_8 : decode cJ1_indexOf_4cfef 8 = .ok (.ireturn, 1) := by decide +kernel
theorem dJ1_indexOf_4cfef_9 : decode cJ1_indexOf_4cfef 9 = .ok (.iload_n 2, 1) := by decide +kernel
theorem dJ1_indexOf_4cfef_10 : decode cJ1_indexOf_4cfef 10 = .ok (.iconst 0, 1) := by decide +kernel
theorem dJ1_indexOf_4cfef_11 : decode cJ1_indexOf_4cfef 11 = .ok (.invokestatic 92, 3) := by decide +kernel
theorem dJ1_indexOf_4cfef_14 : decode cJ1_indexOf_4cfef 14 = .ok (.istore_n 2, 1) := by decide +kernel
theorem dJ1_indexOf_4cfef_15 : decode cJ1_indexOf_4cfef 15 = .ok (.iload_n 3, 1) := by decide +kernel
theorem dJ1_indexOf_4cfef_16 : decode cJ1_indexOf_4cfef 16 = .ok (.aload_n 0, 1) := by decide +kernel
theorem dJ1_indexOf_4cfef_17 : decode cJ1_indexOf_4cfef 17 = .ok (.arraylength, 1) := by decide +kernel
theorem dJ1_indexOf_4cfef_18 : decode cJ1_indexOf_4cfef 18 = .ok (.invokestatic 38, 3) := by decide +kernel
theorem dJ1_indexOf_4cfef_21 : decode cJ1_indexOf_4cfef 21 = .ok (.istore_n 3, 1) := by decide +kernel
theorem dJ1_indexOf_4cfef_22 : decode cJ1_indexOf_4cfef 22 = .ok (.iload_n 2, 1) := by decide +kernel
theorem dJ1_indexOf_4cfef_23 : decode cJ1_indexOf_4cfef 23 = .ok (.iload_n 3, 1) := by decide +kernel
theorem dJ1_indexOf_4cfef_24 : decode cJ1_indexOf_4cfef 24 = .ok (.if_icmp .lt 5, 3) := by decide +kernel
theorem dJ1_indexOf_4cfef_27 : decode cJ1_indexOf_4cfef 27 = .ok (.iconst (-1), 1) := by decide +kernel
theorem dJ1_indexOf_4cfef_28 : decode cJ1_indexOf_4cfef 28 = .ok (.ireturn, 1) := by decide +kernel
theorem dJ1_indexOf_4cfef_29 : decode cJ1_indexOf_4cfef 29 = .ok (.aload_n 0, 1) := by decide +kernel
theorem dJ1_indexOf_4cfef_30 : decode cJ1_indexOf_4cfef 30 = .ok (.iload_n 1, 1) := by decide +kernel
theorem dJ1_indexOf_4cfef_31 : decode cJ1_indexOf_4cfef 31 = .ok (.iload_n 2, 1) := by decide +kernel
theorem dJ1_indexOf_4cfef_32 : decode cJ1_indexOf_4cfef 32 = .ok (.iload_n 3, 1) := by decide +kernel
theorem dJ1_indexOf_4cfef_33 : decode cJ1_indexOf_4cfef 33 = .ok (.invokestatic 95, 3) := by decide +kernel
theorem dJ1_indexOf_4cfef_36 : decode cJ1_indexOf_4cfef 36 = .ok (.ireturn, 1) := by decide +kernel
theorem dJ1_indexOfChar_4cfef_0 : decode cJ1_indexOfChar_4cfef 0 = .ok (.iload_n 1, 1) := by decide +kernel
theorem dJ1_indexOfChar_4cfef_1 : decode cJ1_indexOfChar_4cfef 1 = .ok (.i2b, 1) := by decide +kernel
theorem dJ1_indexOfChar_4cfef_2 : decode cJ1_indexOfChar_4cfef 2 = .ok (.istore 4, 2) := by decide +kernel
theorem dJ1_indexOfChar_4cfef_4 : decode cJ1_indexOfChar_4cfef 4 = .ok (.iload_n 2, 1) := by decide +kernel
theorem dJ1_indexOfChar_4cfef_5 : decode cJ1_indexOfChar_4cfef 5 = .ok (.istore 5, 2) := by decide +kernel
theorem dJ1_indexOfChar_4cfef_7 : decode cJ1_indexOfChar_4cfef 7 = .ok (.iload 5, 2) := by decide +kernel
theorem dJ1_indexOfChar_4cfef_9 : decode cJ1_indexOfChar_4cfef 9 = .ok (.iload_n 3, 1) := by decide +kernel
theorem dJ1_indexOfChar_4cfef_10 : decode cJ1_indexOfChar_4cfef 10 = .ok (.if_icmp .ge 21, 3) := by decide +kernel
theorem dJ1_indexOfChar_4cfef_13 : decode cJ1_indexOfChar_4cfef 13 = .ok (.aload_n 0, 1) := by decide +kernel
theorem dJ1_indexOfChar_4cfef_14 : decode cJ1_indexOfChar_4cfef 14 = .ok (.iload 5, 2) := by decide +kernel
theorem dJ1_indexOfChar_4cfef_16 : decode cJ1_indexOfChar_4cfef 16 = .ok (.baload, 1) := by decide +kernel
theorem dJ1_indexOfChar_4cfef_17 : decode cJ1_indexOfChar_4cfef 17 = .ok (.iload 4, 2) := by decide +kernel
theorem dJ1_indexOfChar_4cfef_19 : decode cJ1_indexOfChar_4cfef 19 = .ok (.if_icmp .ne 6, 3) := by decide +kernel
theorem dJ1_indexOfChar_4cfef_22 : decode cJ1_indexOfChar_4cfef 22 = .ok (.iload 5, 2) := by decide +kernel
theorem dJ1_indexOfChar_4cfef_24 : decode cJ1_indexOfChar_4cfef 24 = .ok (.ireturn, 1) := by decide +kernel
theorem dJ1_indexOfChar_4cfef_25 : decode cJ1_indexOfChar_4cfef 25 = .ok (.iinc 5 1, 3) := by decide +kernel
theorem dJ1_indexOfChar_4cfef_28 : decode cJ1_indexOfChar_4cfef 28 = .ok (.goto (-21), 3) := by decide +kernel
theorem dJ1_indexOfChar_4cfef_31 : decode cJ1_indexOfChar_4cfef 31 = .ok (.iconst (-1), 1) := by decide +kernel
theorem dJ1_indexOfChar_4cfef_32 : decode cJ1_indexOfChar_4cfef 32 = .ok (.ireturn, 1) := by decide +kernel
theorem dJ2_getChar_3b067_0 : decode cJ2_getChar_3b067 0 = .ok (.getstatic 44, 3) := by decide +kernel
theorem dJ2_getChar_3b067_3 : decode cJ2_getChar_3b067 3 = .ok (.ifCond .ne 25, 3) := by decide +kernel
theorem dJ2_getChar_3b067_6 : decode cJ2_getChar_3b067 6 = .ok (.iload_n 1, 1) := by decide +kernel
theorem dJ2_getChar_3b067_7 : decode cJ2_getChar_3b067 7 = .ok (.ifCond .lt 11, 3) := by decide +kernel
theorem dJ2_getChar_3b067_10 : decode cJ2_getChar_3b067 10 = .ok (.iload_n 1, 1) := by decide +kernel
theorem dJ2_getChar_3b067_11 : decode cJ2_getChar_3b067 11 = .ok (.aload_n 0, 1) := by decide +kernel
theorem dJ2_getChar_3b067_12 : decode cJ2_getChar_3b067 12 = .ok (.invokestatic 48, 3) := by decide +kernel
theorem dJ2_getChar_3b067_15 : decode cJ2_getChar_3b067 15 = .ok (.if_icmp .lt 13, 3) := by decide +kernel
theorem dJ2_getChar_3b067_18 : decode cJ2_getChar_3b067 18 = .ok (.new 52, 3) := by decide +kernel
theorem dJ2_getChar_3b067_21 : decode cJ2_getChar_3b067 21 = .ok (.dup, 1) := by decide +kernel
theorem dJ2_getChar_3b067_22 : decode cJ2_getChar_3b067 22 = .ok (.ldc 54, 2) := by decide +kernel
theorem dJ2_getChar_3b067_24 : decode cJ2_getChar_3b067 24 = .ok (.invokespecial 56, 3) := by decide +kernel
theorem dJ2_getChar_3b067_27 : decode cJ2_getChar_3b067 27 = .ok (.athrow, 1) := by decide +kernel
theorem dJ2_getChar_3b067_28 : decode cJ2_getChar_3b067 28 = .ok (.iload_n 1, 1) := by decide +kernel
theorem dJ2_getChar_3b067_29 : decode cJ2_getChar_3b067 29 = .ok (.iconst 1, 1) := by decide +kernel
theorem dJ2_getChar_3b067_30 : decode cJ2_getChar_3b067 30 = .ok (.ishl, 1) := by decide +kernel
theorem dJ2_getChar_3b067_31 : decode cJ2_getChar_3b067 31 = .ok (.istore_n 1, 1) := by decide +kernel
theorem dJ2_getChar_3b067_32 : decode cJ2_getChar_3b067 32 = .ok (.aload_n 0, 1) := by decide +kernel
theorem dJ2_getChar_3b067_33 : decode cJ2_getChar_3b067 33 = .ok (.iload_n 1, 1) := by decide +kernel
theorem dJ2_getChar_3b067_34 : decode cJ2_getChar_3b067 34 = .ok (.iinc 1 1, 3) := by decide +kernel
theorem dJ2_getChar_3b067_37 : decode cJ2_getChar_3b067 37 = .ok (.baload, 1) := by decide +kernel
theorem dJ2_getChar_3b067_38 : decode cJ2_getChar_3b067 38 = .ok (.sipush 255, 3) := by decide +kernel
theorem dJ2_getChar_3b067_41 : decode cJ2_getChar_3b067 41 = .ok (.iand, 1) := by decide +kernel
theorem dJ2_getChar_3b067_42 : decode cJ2_getChar_3b067 42 = .ok (.getstatic 59, 3) := by decide +kernel
theorem dJ2_getChar_3b067_45 : decode cJ2_getChar_3b067 45 = .ok (.ishl, 1) := by decide +kernel
theorem dJ2_getChar_3b067_46 : decode cJ2_getChar_3b067 46 = .ok (.aload_n 0, 1) := by decide +kernel
theorem dJ2_getChar_3b067_47 : decode cJ2_getChar_3b067 47 = .ok (.iload_n 1, 1) := by decide +kernel
theorem dJ2_getChar_3b067_48 : decode cJ2_getChar_3b067 48 = .ok (.baload, 1) := by decide +kernel
theorem dJ2_getChar_3b067_49 : decode cJ2_getChar_3b067 49 = .ok (.sipush 255, 3) := by decide +kernel
theorem dJ2_getChar_3b067_52 : decode cJ2_getChar_3b067 52 = .ok (.iand, 1) := by decide +kernel
theorem dJ2_getChar_3b067_53 : decode cJ2_getChar_3b067 53 = .ok (.getstatic 63, 3) := by decide +kernel
theorem dJ2_getChar_3b067_56 : decode cJ2_getChar_3b067 56 = .ok (.ishl, 1) := by decide +kernel
theorem dJ2_getChar_3b067_57 : decode cJ2_getChar_3b067 57 = .ok (.ior, 1) := by decide +kernel
theorem dJ2_getChar_3b067_58 : decode cJ2_getChar_3b067 58 = .ok (.i2c, 1) := by decide +kernel
theorem dJ2_getChar_3b067_59 : decode cJ2_getChar_3b067 59 = .ok (.ireturn, 1) := by decide +kernel
theorem dJ2_length_9d52b_0 : decode cJ2_length_9d52b 0 = .ok (.aload_n 0, 1) := by decide +kernel
theorem dJ2_length_9d52b_1 : decode cJ2_length_9d52b 1 = .ok (.arraylength, 1) := by decide +kernel
theorem dJ2_length_9d52b_2 : decode cJ2_length_9d52b 2 = .ok (.iconst 1, 1) := by decide +kernel
theorem dJ2_length_9d52b_3 : decode cJ2_length_9d52b 3 = .ok (.ishr, 1) := by decide +kernel
theorem dJ2_length_9d52b_4 : decode cJ2_length_9d52b 4 = .ok (.ireturn, 1) := by decide +kernel
theorem dJ2_indexOf_4cfef_0 : decode cJ2_indexOf_4cfef 0 = .ok (.iload_n 2, 1) := by decide +kernel
theorem dJ2_indexOf_4cfef_1 : decode cJ2_indexOf_4cfef 1 = .ok (.iconst 0, 1) := by decide +kernel
theorem dJ2_indexOf_4cfef_2 : decode cJ2_indexOf_4cfef 2 = .ok (.invokestatic 224, 3) := by decide +kernel
theorem dJ2_indexOf_4cfef_5 : decode cJ2_indexOf_4cfef 5 = .ok (.istore_n 2, 1) := by decide +kernel
theorem dJ2_indexOf_4cfef_6 : decode cJ2_indexOf_4cfef 6 = .ok (.iload_n 3, 1) := by decide +kernel
theorem dJ2_indexOf_4cfef_7 : decode cJ2_indexOf_4cfef 7 = .ok (.aload_n 0, 1) := by decide +kernel
theorem dJ2_indexOf_4cfef_8 : decode cJ2_indexOf_4cfef 8 = .ok (.arraylength, 1) := by decide +kernel
theorem dJ2_indexOf_4cfef_9 : decode cJ2_indexOf_4cfef 9 = .ok (.iconst 1, 1) := by decide +kernel
theorem dJ2_indexOf_4cfef_10 : decode cJ2_indexOf_4cfef 10 = .ok (.ishr, 1) := by decide +kernel
theorem dJ2_indexOf_4cfef_11 : decode cJ2_indexOf_4cfef 11 = .ok (.invokestatic 183, 3) := by decide +kernel
theorem dJ2_indexOf_4cfef_14 : decode cJ2_indexOf_4cfef 14 = .ok (.istore_n 3, 1) := by decide +kernel
theorem dJ2_indexOf_4cfef_15 : decode cJ2_indexOf_4cfef 15 = .ok (.iload_n 2, 1) := by decide +kernel
theorem dJ2_indexOf_4cfef_16 : decode cJ2_indexOf_4cfef 16 = .ok (.iload_n 3, 1) := by decide +kernel
theorem dJ2_indexOf_4cfef_17 : decode cJ2_indexOf_4cfef 17 = .ok (.if_icmp .lt 5, 3) := by decide +kernel
theorem dJ2_indexOf_4cfef_20 : decode cJ2_indexOf_4cfef 20 = .ok (.iconst (-1), 1) := by decide +kernel
theorem dJ2_indexOf_4cfef_21 : decode cJ2_indexOf_4cfef 21 = .ok (.ireturn, 1) := by decide +kernel
theorem dJ2_indexOf_4cfef_22 : decode cJ2_indexOf_4cfef 22 = .ok (.iload_n 1, 1) := by decide +kernel
theorem dJ2_indexOf_4cfef_23 : decode cJ2_indexOf_4cfef 23 = .ok (.ldc 227, 2) := by decide +kernel
theorem dJ2_indexOf_4cfef_25 : decode cJ2_indexOf_4cfef 25 = .ok (.if_icmp .ge 11, 3) := by decide +kernel
theorem dJ2_indexOf_4cfef_28 : decode cJ2_indexOf_4cfef 28 = .ok (.aload_n 0, 1) := by decide +kernel
theorem dJ2_indexOf_4cfef_29 : decode cJ2_indexOf_4cfef 29 = .ok (.iload_n 1, 1) := by decide +kernel
theorem dJ2_indexOf_4cfef_30 : decode cJ2_indexOf_4cfef 30 = .ok (.iload_n 2, 1) := by decide +kernel
theorem dJ2_indexOf_4cfef_31 : decode cJ2_indexOf_4cfef 31 = .ok (.iload_n 3, 1) := by decide +kernel
theorem dJ2_indexOf_4cfef_32 : decode cJ2_indexOf_4cfef 32 = .ok (.invokestatic 228, 3) := by decide +kernel
theorem dJ2_indexOf_4cfef_35 : decode cJ2_indexOf_4cfef 35 = .ok (.ireturn, 1) := by decide +kernel
theorem dJ2_indexOf_4cfef_36 : decode cJ2_indexOf_4cfef 36 = .ok (.aload_n 0, 1) := by decide +kernel
theorem dJ2_indexOf_4cfef_37 : decode cJ2_indexOf_4cfef 37 = .ok (.iload_n 1, 1) := by decide +kernel
theorem dJ2_indexOf_4cfef_38 : decode cJ2_indexOf_4cfef 38 = .ok (.iload_n 2, 1) := by decide +kernel
theorem dJ2_indexOf_4cfef_39 : decode cJ2_indexOf_4cfef 39 = .ok (.iload_n 3, 1) := by decide +kernel
theorem dJ2_indexOf_4cfef_40 : decode cJ2_indexOf_4cfef 40 = .ok (.invokestatic 232, 3) := by decide +kernel
theorem dJ2_indexOf_4cfef_43 : decode cJ2_indexOf_4cfef 43 = .ok (.ireturn, 1) := by decide +kernel
theorem dJ2_indexOfChar_4cfef_0 : decode cJ2_indexOfChar_4cfef 0 = .ok (.iload_n 2, 1) := by decide +kernel
theorem dJ2_indexOfChar_4cfef_1 : decode cJ2_indexOfChar_4cfef 1 = .ok (.iload_n 3, 1) := by decide +kernel
theorem dJ2_indexOfChar_4cfef_2 : decode cJ2_indexOfChar_4cfef 2 = .ok (.aload_n 0, 1) := by decide +kernel
theorem dJ2_indexOfChar_4cfef_3 : decode cJ2_indexOfChar_4cfef 3 = .ok (.invokestatic 96, 3) := by decide +kernel
theorem dJ2_indexOfChar_4cfef_6 : decode cJ2_indexOfChar_4cfef 6 = .ok (.aload_n 0, 1) := by decide +kernel
theorem dJ2_indexOfChar_4cfef_7 : decode cJ2_indexOfChar_4cfef 7 = .ok (.iload_n 1, 1) := by decide +kernel
theorem dJ2_indexOfChar_4cfef_8 : decode cJ2_indexOfChar_4cfef 8 = .ok (.iload_n 2, 1) := by decide +kernel
theorem dJ2_indexOfChar_4cfef_9 : decode cJ2_indexOfChar_4cfef 9 = .ok (.iload_n 3, 1) := by decide +kernel
theorem dJ2_indexOfChar_4cfef_10 : decode cJ2_indexOfChar_4cfef 10 = .ok (.invokestatic 244, 3) := by decide +kernel
theorem dJ2_indexOfChar_4cfef_13 : decode cJ2_indexOfChar_4cfef 13 = .ok (.ireturn, 1) := by decide +kernel
theorem dJ2_indexOfCharUnsafe_4cfef_0 : decode cJ2_indexOfCharUnsafe_4cfef 0 = .ok (.iload_n 2, 1) := by decide +kernel
theorem dJ2_indexOfCharUnsafe_4cfef_1 : decode cJ2_indexOfCharUnsafe_4cfef 1 = .ok (.istore 4, 2) := by decide +kernel
theorem dJ2_indexOfCharUnsafe_4cfef_3 : decode cJ2_indexOfCharUnsafe_4cfef 3 = .ok (.iload 4, 2) := by decide +kernel
theorem dJ2_indexOfCharUnsafe_4cfef_5 : decode cJ2_indexOfCharUnsafe_4cfef 5 = .ok (.iload_n 3, 1) := by decide +kernel
theorem dJ2_indexOfCharUnsafe_4cfef_6 : decode cJ2_indexOfCharUnsafe_4cfef 6 = .ok (.if_icmp .ge 22, 3) := by decide +kernel
theorem dJ2_indexOfCharUnsafe_4cfef_9 : decode cJ2_indexOfCharUnsafe_4cfef 9 = .ok (.aload_n 0, 1) := by decide +kernel
theorem dJ2_indexOfCharUnsafe_4cfef_10 : decode cJ2_indexOfCharUnsafe_4cfef 10 = .ok (.iload 4, 2) := by decide +kernel
theorem dJ2_indexOfCharUnsafe_4cfef_12 : decode cJ2_indexOfCharUnsafe_4cfef 12 = .ok (.invokestatic 71, 3) := by decide +kernel
theorem dJ2_indexOfCharUnsafe_4cfef_15 : decode cJ2_indexOfCharUnsafe_4cfef 15 = .ok (.iload_n 1, 1) := by decide +kernel
theorem dJ2_indexOfCharUnsafe_4cfef_16 : decode cJ2_indexOfCharUnsafe_4cfef 16 = .ok (.if_icmp .ne 6, 3) := by decide +kernel
theorem dJ2_indexOfCharUnsafe_4cfef_19 : decode cJ2_indexOfCharUnsafe_4cfef 19 = .ok (.iload 4, 2) := by decide +kernel
theorem dJ2_indexOfCharUnsafe_4cfef_21 : decode cJ2_indexOfCharUnsafe_4cfef 21 = .ok (.ireturn, 1) := by decide +kernel
theorem dJ2_indexOfCharUnsafe_4cfef_22 : decode cJ2_indexOfCharUnsafe_4cfef 22 = .ok (.iinc 4 1, 3) := by decide +kernel
theorem dJ2_indexOfCharUnsafe_4cfef_25 : decode cJ2_indexOfCharUnsafe_4cfef 25 = .ok (.goto (-22), 3) := by decide +kernel
theorem dJ2_indexOfCharUnsafe_4cfef_28 : decode cJ2_indexOfCharUnsafe_4cfef 28 = .ok (.iconst (-1), 1) := by decide +kernel
theorem dJ2_indexOfCharUnsafe_4cfef_29 : decode cJ2_indexOfCharUnsafe_4cfef 29 = .ok (.ireturn, 1) := by decide +kernel
theorem dJ2_indexOfSupplementary_4cfef_0 : decode cJ2_indexOfSupplementary_4cfef 0 = .ok (.iload_n 1, 1) := by decide +kernel
theorem dJ2_indexOfSupplementary_4cfef_1 : decode cJ2_indexOfSupplementary_4cfef 1 = .ok (.invokestatic 164, 3) := by decide +kernel
theorem dJ2_indexOfSupplementary_4cfef_4 : decode cJ2_indexOfSupplementary_4cfef 4 = .ok (.ifCond .eq 65, 3) := by decide +kernel
theorem dJ2_indexOfSupplementary_4cfef_7 : decode cJ2_indexOfSupplementary_4cfef 7 = .ok (.iload_n 1, 1) := by decide +kernel
theorem dJ2_indexOfSupplementary_4cfef_8 : decode cJ2_indexOfSupplementary_4cfef 8 = .ok (.invokestatic 157, 3) := by decide +kernel
theorem dJ2_indexOfSupplementary_4cfef_11 : decode cJ2_indexOfSupplementary_4cfef 11 = .ok (.istore 4, 2) := by decide +kernel
theorem dJ2_indexOfSupplementary_4cfef_13 : decode cJ2_indexOfSupplementary_4cfef 13 = .ok (.iload_n 1, 1) := by decide +kernel
theorem dJ2_indexOfSupplementary_4cfef_14 : decode cJ2_indexOfSupplementary_4cfef 14 = .ok (.invokestatic 161, 3) := by decide +kernel
theorem dJ2_indexOfSupplementary_4cfef_17 : decode cJ2_indexOfSupplementary_4cfef 17 = .ok (.istore 5, 2) := by decide +kernel
theorem dJ2_indexOfSupplementary_4cfef_19 : decode cJ2_indexOfSupplementary_4cfef 19 = .ok (.iload_n 2, 1) := by decide +kernel
theorem dJ2_indexOfSupplementary_4cfef_20 : decode cJ2_indexOfSupplementary_4cfef 20 = .ok (.iload_n 3, 1) := by decide +kernel
theorem dJ2_indexOfSupplementary_4cfef_21 : decode cJ2_indexOfSupplementary_4cfef 21 = .ok (.aload_n 0, 1) := by decide +kernel
theorem dJ2_indexOfSupplementary_4cfef_22 : decode cJ2_indexOfSupplementary_4cfef 22 = .ok (.invokestatic 96, 3) := by decide +kernel
theorem dJ2_indexOfSupplementary_4cfef_25 : decode cJ2_indexOfSupplementary_4cfef 25 = .ok (.iload_n 2, 1) := by decide +kernel
theorem dJ2_indexOfSupplementary_4cfef_26 : decode cJ2_indexOfSupplementary_4cfef 26 = .ok (.istore 6, 2) := by decide +kernel
theorem dJ2_indexOfSupplementary_4cfef_28 : decode cJ2_indexOfSupplementary_4cfef 28 = .ok (.iload 6, 2) := by decide +kernel
theorem dJ2_indexOfSupplementary_4cfef_30 : decode cJ2_indexOfSupplementary_4cfef 30 = .ok (.iload_n 3, 1) := by decide +kernel
theorem dJ2_indexOfSupplementary_4cfef_31 : decode cJ2_indexOfSupplementary_4cfef 31 = .ok (.iconst 1, 1) := by decide +kernel
theorem dJ2_indexOfSupplementary_4cfef_32 : decode cJ2_indexOfSupplementary_4cfef 32 = .ok (.isub, 1) := by decide +kernel
theorem dJ2_indexOfSupplementary_4cfef_33 : decode cJ2_indexOfSupplementary_4cfef 33 = .ok (.if_icmp .ge 36, 3) := by decide +kernel
theorem dJ2_indexOfSupplementary_4cfef_36 : decode cJ2_indexOfSupplementary_4cfef 36 = .ok (.aload_n 0, 1) := by decide +kernel
theorem dJ2_indexOfSupplementary_4cfef_37 : decode cJ2_indexOfSupplementary_4cfef 37 = .ok (.iload 6, 2) := by decide +kernel
theorem dJ2_indexOfSupplementary_4cfef_39 : decode cJ2_indexOfSupplementary_4cfef 39 = .ok (.invokestatic 71, 3) := by decide +kernel
theorem dJ2_indexOfSupplementary_4cfef_42 : decode cJ2_indexOfSupplementary_4cfef 42 = .ok (.iload 4, 2) := by decide +kernel
theorem dJ2_indexOfSupplementary_4cfef_44 : decode cJ2_indexOfSupplementary_4cfef 44 = .ok (.if_icmp .ne 19, 3) := by decide +kernel
theorem dJ2_indexOfSupplementary_4cfef_47 : decode cJ2_indexOfSupplementary_4cfef 47 = .ok (.aload_n 0, 1) := by decide +kernel
theorem dJ2_indexOfSupplementary_4cfef_48 : decode cJ2_indexOfSupplementary_4cfef 48 = .ok (.iload 6, 2) := by decide +kernel
theorem dJ2_indexOfSupplementary_4cfef_50 : decode cJ2_indexOfSupplementary_4cfef 50 = .ok (.iconst 1, 1) := by decide +kernel
theorem dJ2_indexOfSupplementary_4cfef_51 : decode cJ2_indexOfSupplementary_4cfef 51 = .ok (.iadd, 1) := by decide +kernel
theorem dJ2_indexOfSupplementary_4cfef_52 : decode cJ2_indexOfSupplementary_4cfef 52 = .ok (.invokestatic 71, 3) := by decide +kernel
theorem dJ2_indexOfSupplementary_4cfef_55 : decode cJ2_indexOfSupplementary_4cfef 55 = .ok (.iload 5, 2) := by decide +kernel
theorem dJ2_indexOfSupplementary_4cfef_57 : decode cJ2_indexOfSupplementary_4cfef 57 = .ok (.if_icmp .ne 6, 3) := by decide +kernel
theorem dJ2_indexOfSupplementary_4cfef_60 : decode cJ2_indexOfSupplementary_4cfef 60 = .ok (.iload 6, 2) := by decide +kernel
theorem dJ2_indexOfSupplementary_4cfef_62 : decode cJ2_indexOfSupplementary_4cfef 62 = .ok (.ireturn, 1) := by decide +kernel
theorem dJ2_indexOfSupplementary_4cfef_63 : decode cJ2_indexOfSupplementary_4cfef 63 = .ok (.iinc 6 1, 3) := by decide +kernel
theorem dJ2_indexOfSupplementary_4cfef_66 : decode cJ2_indexOfSupplementary_4cfef 66 = .ok (.goto (-38), 3) := by decide +kernel
theorem dJ2_indexOfSupplementary_4cfef_69 : decode cJ2_indexOfSupplementary_4cfef 69 = .ok (.iconst (-1), 1) := by decide +kernel
theorem dJ2_indexOfSupplementary_4cfef_70 : decode cJ2_indexOfSupplementary_4cfef 70 = .ok (.ireturn, 1) := by decide +kernel
theorem dJ2_charAt_3b067_0 : decode cJ2_charAt_3b067 0 = .ok (.iload_n 1, 1) := by decide +kernel
theorem dJ2_charAt_3b067_1 : decode cJ2_charAt_3b067 1 = .ok (.aload_n 0, 1) := by decide +kernel
theorem dJ2_charAt_3b067_2 : decode cJ2_charAt_3b067 2 = .ok (.invokestatic 67, 3) := by decide +kernel
theorem dJ2_charAt_3b067_5 : decode cJ2_charAt_3b067 5 = .ok (.aload_n 0, 1) := by decide +kernel
theorem dJ2_charAt_3b067_6 : decode cJ2_charAt_3b067 6 = .ok (.iload_n 1, 1) := by decide +kernel
theorem dJ2_charAt_3b067_7 : decode cJ2_charAt_3b067 7 = .ok (.invokestatic 71, 3) := by decide +kernel
theorem dJ2_charAt_3b067_10 : decode cJ2_charAt_3b067 10 = .ok (.ireturn, 1) := by decide +kernel
theorem dJ2_checkIndex_2214a_0 : decode cJ2_checkIndex_2214a 0 = .ok (.iload_n 0, 1) := by decide +kernel
theorem dJ2_checkIndex_2214a_1 : decode cJ2_checkIndex_2214a 1 = .ok (.aload_n 1, 1) := by decide +kernel
theorem dJ2_checkIndex_2214a_2 : decode cJ2_checkIndex_2214a 2 = .ok (.invokestatic 48, 3) := by decide +kernel
theorem dJ2_checkIndex_2214a_5 : decode cJ2_checkIndex_2214a 5 = .ok (.invokestatic 414, 3) := by decide +kernel
theorem dJ2_checkIndex_2214a_8 : decode cJ2_checkIndex_2214a 8 = .ok (.return_, 1) := by decide +kernel
theorem dJ2_checkBoundsBeginEnd_d044e_0 : decode cJ2_checkBoundsBeginEnd_d044e 0 = .ok (.iload_n 0, 1) := by decide +kernel
theorem dJ2_checkBoundsBeginEnd_d044e_1 : decode cJ2_checkBoundsBeginEnd_d044e 1 = .ok (.iload_n 1, 1) := by decide +kernel
theorem dJ2_checkBoundsBeginEnd_d044e_2 : decode cJ2_checkBoundsBeginEnd_d044e 2 = .ok (.aload_n 2, 1) := by decide +kernel
theorem dJ2_checkBoundsBeginEnd_d044e_3 : decode cJ2_checkBoundsBeginEnd_d044e 3 = .ok (.invokestatic 48, 3) := by decide +kernel
theorem dJ2_checkBoundsBeginEnd_d044e_6 : decode cJ2_checkBoundsBeginEnd_d044e 6 = .ok (.invokestatic 241, 3) := by decide +kernel
theorem dJ2_checkBoundsBeginEnd_d044e_9 : decode cJ2_checkBoundsBeginEnd_d044e 9 = .ok (.return_, 1) := by decide +kernel
theorem dJ7_fill_d0a16_0 : decode cJ7_fill_d0a16 0 = .ok (.iconst 0, 1) := by decide +kernel
theorem dJ7_fill_d0a16_1 : decode cJ7_fill_d0a16 1 = .ok (.istore_n 3, 1) := by decide +kernel
theorem dJ7_fill_d0a16_2 : decode cJ7_fill_d0a16 2 = .ok (.aload_n 0, 1) := by decide +kernel
theorem dJ7_fill_d0a16_3 : decode cJ7_fill_d0a16 3 = .ok (.arraylength, 1) := by decide +kernel
theorem dJ7_fill_d0a16_4 : decode cJ7_fill_d0a16 4 = .ok (.istore 4, 2) := by decide +kernel
theorem dJ7_fill_d0a16_6 : decode cJ7_fill_d0a16 6 = .ok (.iload_n 3, 1) := by decide +kernel
theorem dJ7_fill_d0a16_7 : decode cJ7_fill_d0a16 7 = .ok (.iload 4, 2) := by decide +kernel
theorem dJ7_fill_d0a16_9 : decode cJ7_fill_d0a16 9 = .ok (.if_icmp .ge 13, 3) := by decide +kernel
theorem dJ7_fill_d0a16_12 : decode cJ7_fill_d0a16 12 = .ok (.aload_n 0, 1) := by decide +kernel
theorem dJ7_fill_d0a16_13 : decode cJ7_fill_d0a16 13 = .ok (.iload_n 3, 1) := by decide +kernel
theorem dJ7_fill_d0a16_14 : decode cJ7_fill_d0a16 14 = .ok (.lload_n 1, 1) := by decide +kernel
theorem dJ7_fill_d0a16_15 : decode cJ7_fill_d0a16 15 = .ok (.lastore, 1) := by decide +kernel
theorem dJ7_fill_d0a16_16 : decode cJ7_fill_d0a16 16 = .ok (.iinc 3 1, 3) := by decide +kernel
theorem dJ7_fill_d0a16_19 : decode cJ7_fill_d0a16 19 = .ok (.goto (-13), 3) := by decide +kernel
theorem dJ7_fill_d0a16_22 : decode cJ7_fill_d0a16 22 = .ok (.return_, 1) := by decide +kernel
theorem dJ7_fill_53178_0 : decode cJ7_fill_53178 0 = .ok (.iconst 0, 1) := by decide +kernel
theorem dJ7_fill_53178_1 : decode cJ7_fill_53178 1 = .ok (.istore_n 2, 1) := by decide +kernel
theorem dJ7_fill_53178_2 : decode cJ7_fill_53178 2 = .ok (.aload_n 0, 1) := by decide +kernel
theorem dJ7_fill_53178_3 : decode cJ7_fill_53178 3 = .ok (.arraylength, 1) := by decide +kernel
theorem dJ7_fill_53178_4 : decode cJ7_fill_53178 4 = .ok (.istore_n 3, 1) := by decide +kernel
theorem dJ7_fill_53178_5 : decode cJ7_fill_53178 5 = .ok (.iload_n 2, 1) := by decide +kernel
theorem dJ7_fill_53178_6 : decode cJ7_fill_53178 6 = .ok (.iload_n 3, 1) := by decide +kernel
theorem dJ7_fill_53178_7 : decode cJ7_fill_53178 7 = .ok (.if_icmp .ge 13, 3) := by decide +kernel
theorem dJ7_fill_53178_10 : decode cJ7_fill_53178 10 = .ok (.aload_n 0, 1) := by decide +kernel
theorem dJ7_fill_53178_11 : decode cJ7_fill_53178 11 = .ok (.iload_n 2, 1) := by decide +kernel
theorem dJ7_fill_53178_12 : decode cJ7_fill_53178 12 = .ok (.iload_n 1, 1) := by decide +kernel
theorem dJ7_fill_53178_13 : decode cJ7_fill_53178 13 = .ok (.iastore, 1) := by decide +kernel
theorem dJ7_fill_53178_14 : decode cJ7_fill_53178 14 = .ok (.iinc 2 1, 3) := by decide +kernel
theorem dJ7_fill_53178_17 : decode cJ7_fill_53178 17 = .ok (.goto (-12), 3) := by decide +kernel
theorem dJ7_fill_53178_20 : decode cJ7_fill_53178 20 = .ok (.return_, 1) := by decide +kernel
theorem dJ3_checkIndex_8e157_0 : decode cJ3_checkIndex_8e157 0 = .ok (.iload_n 0, 1) := by decide +kernel
theorem dJ3_checkIndex_8e157_1 : decode cJ3_checkIndex_8e157 1 = .ok (.ifCond .lt 8, 3) := by decide +kernel
theorem dJ3_checkIndex_8e157_4 : decode cJ3_checkIndex_8e157 4 = .ok (.iload_n 0, 1) := by decide +kernel
theorem dJ3_checkIndex_8e157_5 : decode cJ3_checkIndex_8e157 5 = .ok (.iload_n 1, 1) := by decide +kernel
theorem dJ3_checkIndex_8e157_6 : decode cJ3_checkIndex_8e157 6 = .ok (.if_icmp .lt 10, 3) := by decide +kernel
theorem dJ3_checkIndex_8e157_9 : decode cJ3_checkIndex_8e157 9 = .ok (.aload_n 2, 1) := by decide +kernel
theorem dJ3_checkIndex_8e157_10 : decode cJ3_checkIndex_8e157 10 = .ok (.iload_n 0, 1) := by decide +kernel
theorem dJ3_checkIndex_8e157_11 : decode cJ3_checkIndex_8e157 11 = .ok (.iload_n 1, 1) := by decide +kernel
theorem dJ3_checkIndex_8e157_12 : decode cJ3_checkIndex_8e157 12 = .ok (.invokestatic 95, 3) := by decide +kernel
theorem dJ3_checkIndex_8e157_15 : decode cJ3_checkIndex_8e157 15 = .ok (.athrow, 1) := by decide +kernel
theorem dJ3_checkIndex_8e157_16 : decode cJ3_checkIndex_8e157 16 = .ok (.iload_n 0, 1) := by decide +kernel
theorem dJ3_checkIndex_8e157_17 : decode cJ3_checkIndex_8e157 17 = .ok (.ireturn, 1) := by decide +kernel
theorem dJ3_checkFromToIndex_8c36e_0 : decode cJ3_checkFromToIndex_8c36e 0 = .ok (.iload_n 0, 1) := by decide +kernel
theorem dJ3_checkFromToIndex_8c36e_1 : decode cJ3_checkFromToIndex_8c36e 1 = .ok (.ifCond .lt 13, 3) := by decide +kernel
theorem dJ3_checkFromToIndex_8c36e_4 : decode cJ3_checkFromToIndex_8c36e 4 = .ok (.iload_n 0, 1) := by decide +kernel
theorem dJ3_checkFromToIndex_8c36e_5 : decode cJ3_checkFromToIndex_8c36e 5 = .ok (.iload_n 1, 1) := by decide +kernel
theorem dJ3_checkFromToIndex_8c36e_6 : decode cJ3_checkFromToIndex_8c36e 6 = .ok (.if_icmp .gt 8, 3) := by decide +kernel
theorem dJ3_checkFromToIndex_8c36e_9 : decode cJ3_checkFromToIndex_8c36e 9 = .ok (.iload_n 1, 1) := by decide +kernel
theorem dJ3_checkFromToIndex_8c36e_10 : decode cJ3_checkFromToIndex_8c36e 10 = .ok (.iload_n 2, 1) := by decide +kernel
theorem dJ3_checkFromToIndex_8c36e_11 : decode cJ3_checkFromToIndex_8c36e 11 = .ok (.if_icmp .le 11, 3) := by decide +kernel
theorem dJ3_checkFromToIndex_8c36e_14 : decode cJ3_checkFromToIndex_8c36e 14 = .ok (.aload_n 3, 1) := by decide +kernel
theorem dJ3_checkFromToIndex_8c36e_15 : decode cJ3_checkFromToIndex_8c36e 15 = .ok (.iload_n 0, 1) := by decide +kernel
theorem dJ3_checkFromToIndex_8c36e_16 : decode cJ3_checkFromToIndex_8c36e 16 = .ok (.iload_n 1, 1) := by decide +kernel
theorem dJ3_checkFromToIndex_8c36e_17 : decode cJ3_checkFromToIndex_8c36e 17 = .ok (.iload_n 2, 1) := by decide +kernel
theorem dJ3_checkFromToIndex_8c36e_18 : decode cJ3_checkFromToIndex_8c36e 18 = .ok (.invokestatic 99, 3) := by decide +kernel
theorem dJ3_checkFromToIndex_8c36e_21 : decode cJ3_checkFromToIndex_8c36e 21 = .ok (.athrow, 1) := by decide +kernel
theorem dJ3_checkFromToIndex_8c36e_22 : decode cJ3_checkFromToIndex_8c36e 22 = .ok (.iload_n 0, 1) := by decide +kernel
theorem dJ3_checkFromToIndex_8c36e_23 : decode cJ3_checkFromToIndex_8c36e 23 = .ok (.ireturn, 1) := by decide +kernel
