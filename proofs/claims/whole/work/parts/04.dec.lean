theorem dX6_init_0 : decode cX6_init 0 = .ok (.aload_n 0, 1) := by decide +kernel
theorem dX6_init_1 : decode cX6_init 1 = .ok (.invokespecial 1, 3) := by decide +kernel
theorem dX6_init_4 : decode cX6_init 4 = .ok (.aload_n 0, 1) := by decide +kernel
theorem dX6_init_5 : decode cX6_init 5 = .ok (.new 7, 3) := by decide +kernel
theorem dX6_init_8 : decode cX6_init 8 = .ok (.dup, 1) := by decide +kernel
theorem dX6_init_9 : decode cX6_init 9 = .ok (.invokespecial 9, 3) := by decide +kernel
theorem dX6_init_12 : decode cX6_init 12 = .ok (.putfield 10, 3) := by decide +kernel
theorem dX6_init_15 : decode cX6_init 15 = .ok (.aload_n 0, 1) := by decide +kernel
theorem dX6_init_16 : decode cX6_init 16 = .ok (.new 7, 3) := by decide +kernel
theorem dX6_init_19 : decode cX6_init 19 = .ok (.dup, 1) := by decide +kernel
theorem dX6_init_20 : decode cX6_init 20 = .ok (.invokespecial 9, 3) := by decide +kernel
theorem dX6_init_23 : decode cX6_init 23 = .ok (.putfield 16, 3) := by decide +kernel
theorem dX6_init_26 : decode cX6_init 26 = .ok (.aload_n 0, 1) := by decide +kernel
theorem dX6_init_27 : decode cX6_init 27 = .ok (.new 19, 3) := by decide +kernel
theorem dX6_init_30 : decode cX6_init 30 = .ok (.dup, 1) := by decide +kernel
theorem dX6_init_31 : decode cX6_init 31 = .ok (.invokespecial 21, 3) := by decide +kernel
theorem dX6_init_34 : decode cX6_init 34 = .ok (.putfield 22, 3) := by decide +kernel
theorem dX6_init_37 : decode cX6_init 37 = .ok (.aload_n 0, 1) := by decide +kernel
theorem dX6_init_38 : decode cX6_init 38 = .ok (.new 26, 3) := by decide +kernel
theorem dX6_init_41 : decode cX6_init 41 = .ok (.dup, 1) := by decide +kernel
theorem dX6_init_42 : decode cX6_init 42 = .ok (.aload_n 0, 1) := by decide +kernel
theorem dX6_init_43 : decode cX6_init 43 = .ok (.getfield 22, 3) := by decide +kernel
theorem dX6_init_46 : decode cX6_init 46 = .ok (.invokespecial 28, 3) := by decide +kernel
theorem dX6_init_49 : decode cX6_init 49 = .ok (.putfield 31, 3) := by decide +kernel
theorem dX6_init_52 : decode cX6_init 52 = .ok (.aload_n 0, 1) := by decide +kernel
theorem dX6_init_53 : decode cX6_init 53 = .ok (.new 35, 3) := by decide +kernel
theorem dX6_init_56 : decode cX6_init 56 = .ok (.dup, 1) := by decide +kernel
theorem dX6_init_57 : decode cX6_init 57 = .ok (.aload_n 0, 1) := by decide +kernel
theorem dX6_init_58 : decode cX6_init 58 = .ok (.getfield 22, 3) := by decide +kernel
theorem dX6_init_61 : decode cX6_init 61 = .ok (.invokespecial 37, 3) := by decide +kernel
theorem dX6_init_64 : decode cX6_init 64 = .ok (.putfield 38, 3) := by decide +kernel
theorem dX6_init_67 : decode cX6_init 67 = .ok (.aload_n 0, 1) := by decide +kernel
theorem dX6_init_68 : decode cX6_init 68 = .ok (.new 42, 3) := by decide +kernel
theorem dX6_init_71 : decode cX6_init 71 = .ok (.dup, 1) := by decide +kernel
theorem dX6_init_72 : decode cX6_init 72 = .ok (.invokespecial 44, 3) := by decide +kernel
theorem dX6_init_75 : decode cX6_init 75 = .ok (.putfield 45, 3) := by decide +kernel
theorem dX6_init_78 : decode cX6_init 78 = .ok (.aload_n 0, 1) := by decide +kernel
theorem dX6_init_79 : decode cX6_init 79 = .ok (.iconst 4, 1) := by decide +kernel
theorem dX6_init_80 : decode cX6_init 80 = .ok (.anewarray 49, 3) := by decide +kernel
theorem dX6_init_83 : decode cX6_init 83 = .ok (.dup, 1) := by decide +kernel
theorem dX6_init_84 : decode cX6_init 84 = .ok (.iconst 0, 1) := by decide +kernel
theorem dX6_init_85 : decode cX6_init 85 = .ok (.new 49, 3) := by decide +kernel
theorem dX6_init_88 : decode cX6_init 88 = .ok (.dup, 1) := by decide +kernel
theorem dX6_init_89 : decode cX6_init 89 = .ok (.invokespecial 51, 3) := by decide +kernel
theorem dX6_init_92 : decode cX6_init 92 = .ok (.aastore, 1) := by decide +kernel
theorem dX6_init_93 : decode cX6_init 93 = .ok (.dup, 1) := by decide +kernel
theorem dX6_init_94 : decode cX6_init 94 = .ok (.iconst 1, 1) := by decide +kernel
theorem dX6_init_95 : decode cX6_init 95 = .ok (.new 49, 3) := by decide +kernel
theorem dX6_init_98 : decode cX6_init 98 = .ok (.dup, 1) := by decide +kernel
theorem dX6_init_99 : decode cX6_init 99 = .ok (.invokespecial 51, 3) := by decide +kernel
theorem dX6_init_102 : decode cX6_init 102 = .ok (.aastore, 1) := by decide +kernel
theorem dX6_init_103 : decode cX6_init 103 = .ok (.dup, 1) := by decide +kernel
theorem dX6_init_104 : decode cX6_init 104 = .ok (.iconst 2, 1) := by decide +kernel
theorem dX6_init_105 : decode cX6_init 105 = .ok (.new 49, 3) := by decide +kernel
theorem dX6_init_108 : decode cX6_init 108 = .ok (.dup, 1) := by decide +kernel
theorem dX6_init_109 : decode cX6_init 109 = .ok (.invokespecial 51, 3) := by decide +kernel
theorem dX6_init_112 : decode cX6_init 112 = .ok (.aastore, 1) := by decide +kernel
theorem dX6_init_113 : decode cX6_init 113 = .ok (.dup, 1) := by decide +kernel
theorem dX6_init_114 : decode cX6_init 114 = .ok (.iconst 3, 1) := by decide +kernel
theorem dX6_init_115 : decode cX6_init 115 = .ok (.new 49, 3) := by decide +kernel
theorem dX6_init_118 : decode cX6_init 118 = .ok (.dup, 1) := by decide +kernel
theorem dX6_init_119 : decode cX6_init 119 = .ok (.invokespecial 51, 3) := by decide +kernel
theorem dX6_init_122 : decode cX6_init 122 = .ok (.aastore, 1) := by decide +kernel
theorem dX6_init_123 : decode cX6_init 123 = .ok (.putfield 52, 3) := by decide +kernel
theorem dX6_init_126 : decode cX6_init 126 = .ok (.iconst 0, 1) := by decide +kernel
theorem dX6_init_127 : decode cX6_init 127 = .ok (.istore_n 1, 1) := by decide +kernel
theorem dX6_init_128 : decode cX6_init 128 = .ok (.iload_n 1, 1) := by decide +kernel
theorem dX6_init_129 : decode cX6_init 129 = .ok (.ldc 56, 2) := by decide +kernel
theorem dX6_init_131 : decode cX6_init 131 = .ok (.invokevirtual 58, 3) := by decide +kernel
theorem dX6_init_134 : decode cX6_init 134 = .ok (.if_icmp .ge 23, 3) := by decide +kernel
theorem dX6_init_137 : decode cX6_init 137 = .ok (.aload_n 0, 1) := by decide +kernel
theorem dX6_init_138 : decode cX6_init 138 = .ok (.getfield 31, 3) := by decide +kernel
theorem dX6_init_141 : decode cX6_init 141 = .ok (.ldc 56, 2) := by decide +kernel
theorem dX6_init_143 : decode cX6_init 143 = .ok (.iload_n 1, 1) := by decide +kernel
theorem dX6_init_144 : decode cX6_init 144 = .ok (.invokevirtual 64, 3) := by decide +kernel
theorem dX6_init_147 : decode cX6_init 147 = .ok (.invokevirtual 68, 3) := by decide +kernel
theorem dX6_init_150 : decode cX6_init 150 = .ok (.pop, 1) := by decide +kernel
theorem dX6_init_151 : decode cX6_init 151 = .ok (.iinc 1 1, 3) := by decide +kernel
theorem dX6_init_154 : decode cX6_init 154 = .ok (.goto (-26), 3) := by decide +kernel
theorem dX6_init_157 : decode cX6_init 157 = .ok (.aload_n 0, 1) := by decide +kernel
theorem dX6_init_158 : decode cX6_init 158 = .ok (.getfield 31, 3) := by decide +kernel
theorem dX6_init_161 : decode cX6_init 161 = .ok (.invokevirtual 72, 3) := by decide +kernel
theorem dX6_init_164 : decode cX6_init 164 = .ok (.pop, 1) := by decide +kernel
theorem dX6_init_165 : decode cX6_init 165 = .ok (.aload_n 0, 1) := by decide +kernel
theorem dX6_init_166 : decode cX6_init 166 = .ok (.getfield 22, 3) := by decide +kernel
theorem dX6_init_169 : decode cX6_init 169 = .ok (.invokevirtual 75, 3) := by decide +kernel
theorem dX6_init_172 : decode cX6_init 172 = .ok (.pop, 1) := by decide +kernel
theorem dX6_init_173 : decode cX6_init 173 = .ok (.return_, 1) := by decide +kernel
theorem dX6_set_0 : decode cX6_set 0 = .ok (.iload_n 1, 1) := by decide +kernel
theorem dX6_set_1 : decode cX6_set 1 = .ok (.tableswitch 98 0 3 #[31, 37, 54, 76], 31) := by decide +kernel
theorem dX6_set_32 : decode cX6_set 32 = .ok (.aload_n 0, 1) := by decide +kernel
theorem dX6_set_33 : decode cX6_set 33 = .ok (.iload_n 3, 1) := by decide +kernel
theorem dX6_set_34 : decode cX6_set 34 = .ok (.invokevirtual 78, 3) := by decide +kernel
theorem dX6_set_37 : decode cX6_set 37 = .ok (.ireturn, 1) := by decide +kernel
theorem dX6_set_38 : decode cX6_set 38 = .ok (.aload_n 0, 1) := by decide +kernel
theorem dX6_set_39 : decode cX6_set 39 = .ok (.getfield 10, 3) := by decide +kernel
theorem dX6_set_42 : decode cX6_set 42 = .ok (.getfield 82, 3) := by decide +kernel
theorem dX6_set_45 : decode cX6_set 45 = .ok (.bipush 40, 2) := by decide +kernel
theorem dX6_set_47 : decode cX6_set 47 = .ok (.iload_n 2, 1) := by decide +kernel
theorem dX6_set_48 : decode cX6_set 48 = .ok (.iload_n 3, 1) := by decide +kernel
theorem dX6_set_49 : decode cX6_set 49 = .ok (.bipush 8, 2) := by decide +kernel
theorem dX6_set_51 : decode cX6_set 51 = .ok (.invokestatic 86, 3) := by decide +kernel
theorem dX6_set_54 : decode cX6_set 54 = .ok (.ireturn, 1) := by decide +kernel
theorem dX6_set_55 : decode cX6_set 55 = .ok (.aload_n 0, 1) := by decide +kernel
theorem dX6_set_56 : decode cX6_set 56 = .ok (.getfield 10, 3) := by decide +kernel
theorem dX6_set_59 : decode cX6_set 59 = .ok (.getfield 90, 3) := by decide +kernel
theorem dX6_set_62 : decode cX6_set 62 = .ok (.aload_n 0, 1) := by decide +kernel
theorem dX6_set_63 : decode cX6_set 63 = .ok (.getfield 10, 3) := by decide +kernel
theorem dX6_set_66 : decode cX6_set 66 = .ok (.getfield 93, 3) := by decide +kernel
theorem dX6_set_69 : decode cX6_set 69 = .ok (.iload_n 2, 1) := by decide +kernel
theorem dX6_set_70 : decode cX6_set 70 = .ok (.iload_n 3, 1) := by decide +kernel
theorem dX6_set_71 : decode cX6_set 71 = .ok (.bipush 10, 2) := by decide +kernel
theorem dX6_set_73 : decode cX6_set 73 = .ok (.invokestatic 86, 3) := by decide +kernel
theorem dX6_set_76 : decode cX6_set 76 = .ok (.ireturn, 1) := by decide +kernel
theorem dX6_set_77 : decode cX6_set 77 = .ok (.aload_n 0, 1) := by decide +kernel
theorem dX6_set_78 : decode cX6_set 78 = .ok (.getfield 10, 3) := by decide +kernel
theorem dX6_set_81 : decode cX6_set 81 = .ok (.getfield 97, 3) := by decide +kernel
theorem dX6_set_84 : decode cX6_set 84 = .ok (.aload_n 0, 1) := by decide +kernel
theorem dX6_set_85 : decode cX6_set 85 = .ok (.getfield 10, 3) := by decide +kernel
theorem dX6_set_88 : decode cX6_set 88 = .ok (.getfield 93, 3) := by decide +kernel
theorem dX6_set_91 : decode cX6_set 91 = .ok (.iload_n 2, 1) := by decide +kernel
theorem dX6_set_92 : decode cX6_set 92 = .ok (.iload_n 3, 1) := by decide +kernel
theorem dX6_set_93 : decode cX6_set 93 = .ok (.bipush 100, 2) := by decide +kernel
theorem dX6_set_95 : decode cX6_set 95 = .ok (.invokestatic 86, 3) := by decide +kernel
theorem dX6_set_98 : decode cX6_set 98 = .ok (.ireturn, 1) := by decide +kernel
theorem dX6_set_99 : decode cX6_set 99 = .ok (.bipush (-2), 2) := by decide +kernel
theorem dX6_set_101 : decode cX6_set 101 = .ok (.ireturn, 1) := by decide +kernel
theorem dX6_turnHour_0 : decode cX6_turnHour 0 = .ok (.iload_n 1, 1) := by decide +kernel
theorem dX6_turnHour_1 : decode cX6_turnHour 1 = .ok (.bipush 100, 2) := by decide +kernel
theorem dX6_turnHour_3 : decode cX6_turnHour 3 = .ok (.invokestatic 100, 3) := by decide +kernel
theorem dX6_turnHour_6 : decode cX6_turnHour 6 = .ok (.ifCond .ne 6, 3) := by decide +kernel
theorem dX6_turnHour_9 : decode cX6_turnHour 9 = .ok (.bipush (-2), 2) := by decide +kernel
theorem dX6_turnHour_11 : decode cX6_turnHour 11 = .ok (.ireturn, 1) := by decide +kernel
theorem dX6_turnHour_12 : decode cX6_turnHour 12 = .ok (.aload_n 0, 1) := by decide +kernel
theorem dX6_turnHour_13 : decode cX6_turnHour 13 = .ok (.getfield 10, 3) := by decide +kernel
theorem dX6_turnHour_16 : decode cX6_turnHour 16 = .ok (.getfield 104, 3) := by decide +kernel
theorem dX6_turnHour_19 : decode cX6_turnHour 19 = .ok (.istore_n 2, 1) := by decide +kernel
theorem dX6_turnHour_20 : decode cX6_turnHour 20 = .ok (.aload_n 0, 1) := by decide +kernel
theorem dX6_turnHour_21 : decode cX6_turnHour 21 = .ok (.getfield 10, 3) := by decide +kernel
theorem dX6_turnHour_24 : decode cX6_turnHour 24 = .ok (.iload_n 1, 1) := by decide +kernel
theorem dX6_turnHour_25 : decode cX6_turnHour 25 = .ok (.putfield 104, 3) := by decide +kernel
theorem dX6_turnHour_28 : decode cX6_turnHour 28 = .ok (.iload_n 2, 1) := by decide +kernel
theorem dX6_turnHour_29 : decode cX6_turnHour 29 = .ok (.ireturn, 1) := by decide +kernel
theorem dX6_change_0 : decode cX6_change 0 = .ok (.iload_n 2, 1) := by decide +kernel
theorem dX6_change_1 : decode cX6_change 1 = .ok (.iload_n 1, 1) := by decide +kernel
theorem dX6_change_2 : decode cX6_change 2 = .ok (.invokestatic 100, 3) := by decide +kernel
theorem dX6_change_5 : decode cX6_change 5 = .ok (.ifCond .eq 18, 3) := by decide +kernel
theorem dX6_change_8 : decode cX6_change 8 = .ok (.iload_n 2, 1) := by decide +kernel
theorem dX6_change_9 : decode cX6_change 9 = .ok (.aload_n 0, 1) := by decide +kernel
theorem dX6_change_10 : decode cX6_change 10 = .ok (.arraylength, 1) := by decide +kernel
theorem dX6_change_11 : decode cX6_change 11 = .ok (.if_icmp .ge 12, 3) := by decide +kernel
theorem dX6_change_14 : decode cX6_change 14 = .ok (.iload_n 3, 1) := by decide +kernel
theorem dX6_change_15 : decode cX6_change 15 = .ok (.iload 4, 2) := by decide +kernel
theorem dX6_change_17 : decode cX6_change 17 = .ok (.invokestatic 100, 3) := by decide +kernel
theorem dX6_change_20 : decode cX6_change 20 = .ok (.ifCond .ne 6, 3) := by decide +kernel
theorem dX6_change_23 : decode cX6_change 23 = .ok (.bipush (-2), 2) := by decide +kernel
theorem dX6_change_25 : decode cX6_change 25 = .ok (.ireturn, 1) := by decide +kernel
theorem dX6_change_26 : decode cX6_change 26 = .ok (.aload_n 0, 1) := by decide +kernel
theorem dX6_change_27 : decode cX6_change 27 = .ok (.iload_n 2, 1) := by decide +kernel
theorem dX6_change_28 : decode cX6_change 28 = .ok (.iaload, 1) := by decide +kernel
theorem dX6_change_29 : decode cX6_change 29 = .ok (.istore 5, 2) := by decide +kernel
theorem dX6_change_31 : decode cX6_change 31 = .ok (.aload_n 0, 1) := by decide +kernel
theorem dX6_change_32 : decode cX6_change 32 = .ok (.iload_n 2, 1) := by decide +kernel
theorem dX6_change_33 : decode cX6_change 33 = .ok (.iload_n 3, 1) := by decide +kernel
theorem dX6_change_34 : decode cX6_change 34 = .ok (.iastore, 1) := by decide +kernel
theorem dX6_change_35 : decode cX6_change 35 = .ok (.iload 5, 2) := by decide +kernel
theorem dX6_change_37 : decode cX6_change 37 = .ok (.ireturn, 1) := by decide +kernel
theorem dX6_pair_0 : decode cX6_pair 0 = .ok (.iload_n 1, 1) := by decide +kernel
theorem dX6_pair_1 : decode cX6_pair 1 = .ok (.bipush 6, 2) := by decide +kernel
theorem dX6_pair_3 : decode cX6_pair 3 = .ok (.invokestatic 100, 3) := by decide +kernel
theorem dX6_pair_6 : decode cX6_pair 6 = .ok (.ifCond .eq 21, 3) := by decide +kernel
theorem dX6_pair_9 : decode cX6_pair 9 = .ok (.iload_n 2, 1) := by decide +kernel
theorem dX6_pair_10 : decode cX6_pair 10 = .ok (.bipush 10, 2) := by decide +kernel
theorem dX6_pair_12 : decode cX6_pair 12 = .ok (.invokestatic 100, 3) := by decide +kernel
theorem dX6_pair_15 : decode cX6_pair 15 = .ok (.ifCond .eq 12, 3) := by decide +kernel
theorem dX6_pair_18 : decode cX6_pair 18 = .ok (.iload_n 3, 1) := by decide +kernel
theorem dX6_pair_19 : decode cX6_pair 19 = .ok (.bipush 100, 2) := by decide +kernel
theorem dX6_pair_21 : decode cX6_pair 21 = .ok (.invokestatic 100, 3) := by decide +kernel
theorem dX6_pair_24 : decode cX6_pair 24 = .ok (.ifCond .ne 6, 3) := by decide +kernel
theorem dX6_pair_27 : decode cX6_pair 27 = .ok (.bipush (-2), 2) := by decide +kernel
theorem dX6_pair_29 : decode cX6_pair 29 = .ok (.ireturn, 1) := by decide +kernel
theorem dX6_pair_30 : decode cX6_pair 30 = .ok (.aload_n 0, 1) := by decide +kernel
theorem dX6_pair_31 : decode cX6_pair 31 = .ok (.getfield 10, 3) := by decide +kernel
theorem dX6_pair_34 : decode cX6_pair 34 = .ok (.iload_n 1, 1) := by decide +kernel
theorem dX6_pair_35 : decode cX6_pair 35 = .ok (.iload_n 2, 1) := by decide +kernel
theorem dX6_pair_36 : decode cX6_pair 36 = .ok (.iload_n 3, 1) := by decide +kernel
theorem dX6_pair_37 : decode cX6_pair 37 = .ok (.invokevirtual 107, 3) := by decide +kernel
theorem dX6_pair_40 : decode cX6_pair 40 = .ok (.ireturn, 1) := by decide +kernel
theorem dX6_told_0 : decode cX6_told 0 = .ok (.iload_n 2, 1) := by decide +kernel
theorem dX6_told_1 : decode cX6_told 1 = .ok (.tableswitch 137 0 5 #[39, 47, 61, 80, 99, 118], 39) := by decide +kernel
theorem dX6_told_40 : decode cX6_told 40 = .ok (.aload_n 0, 1) := by decide +kernel
theorem dX6_told_41 : decode cX6_told 41 = .ok (.getfield 10, 3) := by decide +kernel
theorem dX6_told_44 : decode cX6_told 44 = .ok (.getfield 104, 3) := by decide +kernel
theorem dX6_told_47 : decode cX6_told 47 = .ok (.ireturn, 1) := by decide +kernel
theorem dX6_told_48 : decode cX6_told 48 = .ok (.aload_n 0, 1) := by decide +kernel
theorem dX6_told_49 : decode cX6_told 49 = .ok (.getfield 10, 3) := by decide +kernel
theorem dX6_told_52 : decode cX6_told 52 = .ok (.getfield 82, 3) := by decide +kernel
theorem dX6_told_55 : decode cX6_told 55 = .ok (.bipush 40, 2) := by decide +kernel
theorem dX6_told_57 : decode cX6_told 57 = .ok (.iload_n 1, 1) := by decide +kernel
theorem dX6_told_58 : decode cX6_told 58 = .ok (.invokestatic 111, 3) := by decide +kernel
theorem dX6_told_61 : decode cX6_told 61 = .ok (.ireturn, 1) := by decide +kernel
theorem dX6_told_62 : decode cX6_told 62 = .ok (.aload_n 0, 1) := by decide +kernel
theorem dX6_told_63 : decode cX6_told 63 = .ok (.getfield 10, 3) := by decide +kernel
theorem dX6_told_66 : decode cX6_told 66 = .ok (.getfield 90, 3) := by decide +kernel
theorem dX6_told_69 : decode cX6_told 69 = .ok (.aload_n 0, 1) := by decide +kernel
theorem dX6_told_70 : decode cX6_told 70 = .ok (.getfield 10, 3) := by decide +kernel
theorem dX6_told_73 : decode cX6_told 73 = .ok (.getfield 93, 3) := by decide +kernel
theorem dX6_told_76 : decode cX6_told 76 = .ok (.iload_n 1, 1) := by decide +kernel
theorem dX6_told_77 : decode cX6_told 77 = .ok (.invokestatic 111, 3) := by decide +kernel
theorem dX6_told_80 : decode cX6_told 80 = .ok (.ireturn, 1) := by decide +kernel
theorem dX6_told_81 : decode cX6_told 81 = .ok (.aload_n 0, 1) := by decide +kernel
theorem dX6_told_82 : decode cX6_told 82 = .ok (.getfield 10, 3) := by decide +kernel
theorem dX6_told_85 : decode cX6_told 85 = .ok (.getfield 97, 3) := by decide +kernel
theorem dX6_told_88 : decode cX6_told 88 = .ok (.aload_n 0, 1) := by decide +kernel
theorem dX6_told_89 : decode cX6_told 89 = .ok (.getfield 10, 3) := by decide +kernel
theorem dX6_told_92 : decode cX6_told 92 = .ok (.getfield 93, 3) := by decide +kernel
theorem dX6_told_95 : decode cX6_told 95 = .ok (.iload_n 1, 1) := by decide +kernel
theorem dX6_told_96 : decode cX6_told 96 = .ok (.invokestatic 111, 3) := by decide +kernel
theorem dX6_told_99 : decode cX6_told 99 = .ok (.ireturn, 1) := by decide +kernel
theorem dX6_told_100 : decode cX6_told 100 = .ok (.aload_n 0, 1) := by decide +kernel
theorem dX6_told_101 : decode cX6_told 101 = .ok (.getfield 10, 3) := by decide +kernel
theorem dX6_told_104 : decode cX6_told 104 = .ok (.getfield 115, 3) := by decide +kernel
theorem dX6_told_107 : decode cX6_told 107 = .ok (.aload_n 0, 1) := by decide +kernel
theorem dX6_told_108 : decode cX6_told 108 = .ok (.getfield 10, 3) := by decide +kernel
theorem dX6_told_111 : decode cX6_told 111 = .ok (.getfield 93, 3) := by decide +kernel
theorem dX6_told_114 : decode cX6_told 114 = .ok (.iload_n 1, 1) := by decide +kernel
theorem dX6_told_115 : decode cX6_told 115 = .ok (.invokestatic 111, 3) := by decide +kernel
theorem dX6_told_118 : decode cX6_told 118 = .ok (.ireturn, 1) := by decide +kernel
theorem dX6_told_119 : decode cX6_told 119 = .ok (.aload_n 0, 1) := by decide +kernel
theorem dX6_told_120 : decode cX6_told 120 = .ok (.getfield 10, 3) := by decide +kernel
theorem dX6_told_123 : decode cX6_told 123 = .ok (.getfield 118, 3) := by decide +kernel
theorem dX6_told_126 : decode cX6_told 126 = .ok (.aload_n 0, 1) := by decide +kernel
theorem dX6_told_127 : decode cX6_told 127 = .ok (.getfield 10, 3) := by decide +kernel
theorem dX6_told_130 : decode cX6_told 130 = .ok (.getfield 93, 3) := by decide +kernel
theorem dX6_told_133 : decode cX6_told 133 = .ok (.iload_n 1, 1) := by decide +kernel
theorem dX6_told_134 : decode cX6_told 134 = .ok (.invokestatic 111, 3) := by decide +kernel
theorem dX6_told_137 : decode cX6_told 137 = .ok (.ireturn, 1) := by decide +kernel
theorem dX6_told_138 : decode cX6_told 138 = .ok (.aload_n 0, 1) := by decide +kernel
theorem dX6_told_139 : decode cX6_told 139 = .ok (.iload_n 1, 1) := by decide +kernel
theorem dX6_told_140 : decode cX6_told 140 = .ok (.iload_n 2, 1) := by decide +kernel
theorem dX6_told_141 : decode cX6_told 141 = .ok (.invokevirtual 121, 3) := by decide +kernel
theorem dX6_told_144 : decode cX6_told 144 = .ok (.ireturn, 1) := by decide +kernel
theorem dX6_item_0 : decode cX6_item 0 = .ok (.iload_n 2, 1) := by decide +kernel
theorem dX6_item_1 : decode cX6_item 1 = .ok (.iload_n 1, 1) := by decide +kernel
theorem dX6_item_2 : decode cX6_item 2 = .ok (.invokestatic 100, 3) := by decide +kernel
theorem dX6_item_5 : decode cX6_item 5 = .ok (.ifCond .eq 15, 3) := by decide +kernel
theorem dX6_item_8 : decode cX6_item 8 = .ok (.iload_n 2, 1) := by decide +kernel
theorem dX6_item_9 : decode cX6_item 9 = .ok (.aload_n 0, 1) := by decide +kernel
theorem dX6_item_10 : decode cX6_item 10 = .ok (.arraylength, 1) := by decide +kernel
theorem dX6_item_11 : decode cX6_item 11 = .ok (.if_icmp .ge 9, 3) := by decide +kernel
theorem dX6_item_14 : decode cX6_item 14 = .ok (.aload_n 0, 1) := by decide +kernel
theorem dX6_item_15 : decode cX6_item 15 = .ok (.iload_n 2, 1) := by decide +kernel
theorem dX6_item_16 : decode cX6_item 16 = .ok (.iaload, 1) := by decide +kernel
theorem dX6_item_17 : decode cX6_item 17 = .ok (.goto 6, 3) := by decide +kernel
theorem dX6_item_20 : decode cX6_item 20 = .ok (.sipush (-1000), 3) := by decide +kernel
theorem dX6_item_23 : decode cX6_item 23 = .ok (.ireturn, 1) := by decide +kernel
theorem dX6_felt_0 : decode cX6_felt 0 = .ok (.aload_n 0, 1) := by decide +kernel
theorem dX6_felt_1 : decode cX6_felt 1 = .ok (.getfield 10, 3) := by decide +kernel
theorem dX6_felt_4 : decode cX6_felt 4 = .ok (.iload_n 1, 1) := by decide +kernel
theorem dX6_felt_5 : decode cX6_felt 5 = .ok (.invokevirtual 125, 3) := by decide +kernel
theorem dX6_felt_8 : decode cX6_felt 8 = .ok (.ifCond .ne 7, 3) := by decide +kernel
theorem dX6_felt_11 : decode cX6_felt 11 = .ok (.sipush (-1000), 3) := by decide +kernel
theorem dX6_felt_14 : decode cX6_felt 14 = .ok (.ireturn, 1) := by decide +kernel
theorem dX6_felt_15 : decode cX6_felt 15 = .ok (.aload_n 0, 1) := by decide +kernel
theorem dX6_felt_16 : decode cX6_felt 16 = .ok (.getfield 38, 3) := by decide +kernel
theorem dX6_felt_19 : decode cX6_felt 19 = .ok (.aload_n 0, 1) := by decide +kernel
theorem dX6_felt_20 : decode cX6_felt 20 = .ok (.getfield 10, 3) := by decide +kernel
theorem dX6_felt_23 : decode cX6_felt 23 = .ok (.iload_n 1, 1) := by decide +kernel
theorem dX6_felt_24 : decode cX6_felt 24 = .ok (.invokevirtual 128, 3) := by decide +kernel
theorem dX6_felt_27 : decode cX6_felt 27 = .ok (.aload_n 0, 1) := by decide +kernel
theorem dX6_felt_28 : decode cX6_felt 28 = .ok (.getfield 10, 3) := by decide +kernel
theorem dX6_felt_31 : decode cX6_felt 31 = .ok (.iload_n 1, 1) := by decide +kernel
theorem dX6_felt_32 : decode cX6_felt 32 = .ok (.invokevirtual 132, 3) := by decide +kernel
theorem dX6_felt_35 : decode cX6_felt 35 = .ok (.istore_n 3, 1) := by decide +kernel
theorem dX6_felt_36 : decode cX6_felt 36 = .ok (.iload_n 2, 1) := by decide +kernel
theorem dX6_felt_37 : decode cX6_felt 37 = .ok (.bipush 6, 2) := by decide +kernel
theorem dX6_felt_39 : decode cX6_felt 39 = .ok (.if_icmp .ne 12, 3) := by decide +kernel
theorem dX6_felt_42 : decode cX6_felt 42 = .ok (.aload_n 0, 1) := by decide +kernel
theorem dX6_felt_43 : decode cX6_felt 43 = .ok (.getfield 38, 3) := by decide +kernel
theorem dX6_felt_46 : decode cX6_felt 46 = .ok (.iload_n 3, 1) := by decide +kernel
theorem dX6_felt_47 : decode cX6_felt 47 = .ok (.invokevirtual 135, 3) := by decide +kernel
theorem dX6_felt_50 : decode cX6_felt 50 = .ok (.ireturn, 1) := by decide +kernel
theorem dX6_felt_51 : decode cX6_felt 51 = .ok (.iload_n 2, 1) := by decide +kernel
theorem dX6_felt_52 : decode cX6_felt 52 = .ok (.bipush 7, 2) := by decide +kernel
theorem dX6_felt_54 : decode cX6_felt 54 = .ok (.if_icmp .ne 12, 3) := by decide +kernel
theorem dX6_felt_57 : decode cX6_felt 57 = .ok (.aload_n 0, 1) := by decide +kernel
theorem dX6_felt_58 : decode cX6_felt 58 = .ok (.getfield 38, 3) := by decide +kernel
theorem dX6_felt_61 : decode cX6_felt 61 = .ok (.iload_n 3, 1) := by decide +kernel
theorem dX6_felt_62 : decode cX6_felt 62 = .ok (.invokevirtual 138, 3) := by decide +kernel
theorem dX6_felt_65 : decode cX6_felt 65 = .ok (.ireturn, 1) := by decide +kernel
theorem dX6_felt_66 : decode cX6_felt 66 = .ok (.iload_n 2, 1) := by decide +kernel
theorem dX6_felt_67 : decode cX6_felt 67 = .ok (.bipush 10, 2) := by decide +kernel
theorem dX6_felt_69 : decode cX6_felt 69 = .ok (.if_icmp .lt 24, 3) := by decide +kernel
theorem dX6_felt_72 : decode cX6_felt 72 = .ok (.iload_n 2, 1) := by decide +kernel
theorem dX6_felt_73 : decode cX6_felt 73 = .ok (.bipush 16, 2) := by decide +kernel
theorem dX6_felt_75 : decode cX6_felt 75 = .ok (.if_icmp .ge 18, 3) := by decide +kernel
theorem dX6_felt_78 : decode cX6_felt 78 = .ok (.aload_n 0, 1) := by decide +kernel
theorem dX6_felt_79 : decode cX6_felt 79 = .ok (.getfield 38, 3) := by decide +kernel
theorem dX6_felt_82 : decode cX6_felt 82 = .ok (.iload_n 3, 1) := by decide +kernel
theorem dX6_felt_83 : decode cX6_felt 83 = .ok (.iload_n 2, 1) := by decide +kernel
theorem dX6_felt_84 : decode cX6_felt 84 = .ok (.bipush 10, 2) := by decide +kernel
theorem dX6_felt_86 : decode cX6_felt 86 = .ok (.isub, 1) := by decide +kernel
theorem dX6_felt_87 : decode cX6_felt 87 = .ok (.invokevirtual 141, 3) := by decide +kernel
theorem dX6_felt_90 : decode cX6_felt 90 = .ok (.goto 6, 3) := by decide +kernel
theorem dX6_felt_93 : decode cX6_felt 93 = .ok (.sipush (-1000), 3) := by decide +kernel
theorem dX6_felt_96 : decode cX6_felt 96 = .ok (.ireturn, 1) := by decide +kernel
theorem dX6_feed_0 : decode cX6_feed 0 = .ok (.iload_n 1, 1) := by decide +kernel
theorem dX6_feed_1 : decode cX6_feed 1 = .ok (.sipush 256, 3) := by decide +kernel
theorem dX6_feed_4 : decode cX6_feed 4 = .ok (.invokestatic 100, 3) := by decide +kernel
theorem dX6_feed_7 : decode cX6_feed 7 = .ok (.ifCond .ne 6, 3) := by decide +kernel
theorem dX6_feed_10 : decode cX6_feed 10 = .ok (.bipush (-2), 2) := by decide +kernel
theorem dX6_feed_12 : decode cX6_feed 12 = .ok (.ireturn, 1) := by decide +kernel
theorem dX6_feed_13 : decode cX6_feed 13 = .ok (.aload_n 0, 1) := by decide +kernel
theorem dX6_feed_14 : decode cX6_feed 14 = .ok (.getfield 31, 3) := by decide +kernel
theorem dX6_feed_17 : decode cX6_feed 17 = .ok (.iload_n 1, 1) := by decide +kernel
theorem dX6_feed_18 : decode cX6_feed 18 = .ok (.invokevirtual 68, 3) := by decide +kernel
theorem dX6_feed_21 : decode cX6_feed 21 = .ok (.ifCond .eq 13, 3) := by decide +kernel
theorem dX6_feed_24 : decode cX6_feed 24 = .ok (.aload_n 0, 1) := by decide +kernel
theorem dX6_feed_25 : decode cX6_feed 25 = .ok (.getfield 31, 3) := by decide +kernel
theorem dX6_feed_28 : decode cX6_feed 28 = .ok (.getfield 144, 3) := by decide +kernel
theorem dX6_feed_31 : decode cX6_feed 31 = .ok (.goto 5, 3) := by decide +kernel
theorem dX6_feed_34 : decode cX6_feed 34 = .ok (.bipush (-4), 2) := by decide +kernel
theorem dX6_feed_36 : decode cX6_feed 36 = .ok (.ireturn, 1) := by decide +kernel
theorem dX6_text_0 : decode cX6_text 0 = .ok (.aload_n 0, 1) := by decide +kernel
theorem dX6_text_1 : decode cX6_text 1 = .ok (.getfield 22, 3) := by decide +kernel
theorem dX6_text_4 : decode cX6_text 4 = .ok (.getfield 145, 3) := by decide +kernel
theorem dX6_text_7 : decode cX6_text 7 = .ok (.bipush 6, 2) := by decide +kernel
theorem dX6_text_9 : decode cX6_text 9 = .ok (.if_icmp .lt 6, 3) := by decide +kernel
theorem dX6_text_12 : decode cX6_text 12 = .ok (.bipush (-4), 2) := by decide +kernel
theorem dX6_text_14 : decode cX6_text 14 = .ok (.ireturn, 1) := by decide +kernel
theorem dX6_text_15 : decode cX6_text 15 = .ok (.aload_n 0, 1) := by decide +kernel
theorem dX6_text_16 : decode cX6_text 16 = .ok (.getfield 31, 3) := by decide +kernel
theorem dX6_text_19 : decode cX6_text 19 = .ok (.invokevirtual 72, 3) := by decide +kernel
theorem dX6_text_22 : decode cX6_text 22 = .ok (.istore_n 1, 1) := by decide +kernel
theorem dX6_text_23 : decode cX6_text 23 = .ok (.iload_n 1, 1) := by decide +kernel
theorem dX6_text_24 : decode cX6_text 24 = .ok (.iconst (-1), 1) := by decide +kernel
theorem dX6_text_25 : decode cX6_text 25 = .ok (.if_icmp .ne 13, 3) := by decide +kernel
theorem dX6_text_28 : decode cX6_text 28 = .ok (.aload_n 0, 1) := by decide +kernel
theorem dX6_text_29 : decode cX6_text 29 = .ok (.getfield 22, 3) := by decide +kernel
theorem dX6_text_32 : decode cX6_text 32 = .ok (.invokevirtual 75, 3) := by decide +kernel
theorem dX6_text_35 : decode cX6_text 35 = .ok (.goto 7, 3) := by decide +kernel
theorem dX6_text_38 : decode cX6_text 38 = .ok (.bipush (-100), 2) := by decide +kernel
theorem dX6_text_40 : decode cX6_text 40 = .ok (.iload_n 1, 1) := by decide +kernel
theorem dX6_text_41 : decode cX6_text 41 = .ok (.isub, 1) := by decide +kernel
theorem dX6_text_42 : decode cX6_text 42 = .ok (.ireturn, 1) := by decide +kernel
theorem dX6_force_0 : decode cX6_force 0 = .ok (.iload_n 1, 1) := by decide +kernel
theorem dX6_force_1 : decode cX6_force 1 = .ok (.aload_n 0, 1) := by decide +kernel
theorem dX6_force_2 : decode cX6_force 2 = .ok (.getfield 22, 3) := by decide +kernel
theorem dX6_force_5 : decode cX6_force 5 = .ok (.getfield 145, 3) := by decide +kernel
theorem dX6_force_8 : decode cX6_force 8 = .ok (.invokestatic 100, 3) := by decide +kernel
theorem dX6_force_11 : decode cX6_force 11 = .ok (.ifCond .ne 6, 3) := by decide +kernel
theorem dX6_force_14 : decode cX6_force 14 = .ok (.bipush (-2), 2) := by decide +kernel
theorem dX6_force_16 : decode cX6_force 16 = .ok (.ireturn, 1) := by decide +kernel
theorem dX6_force_17 : decode cX6_force 17 = .ok (.aload_n 0, 1) := by decide +kernel
theorem dX6_force_18 : decode cX6_force 18 = .ok (.getfield 10, 3) := by decide +kernel
theorem dX6_force_21 : decode cX6_force 21 = .ok (.getfield 146, 3) := by decide +kernel
theorem dX6_force_24 : decode cX6_force 24 = .ok (.istore_n 2, 1) := by decide +kernel
theorem dX6_force_25 : decode cX6_force 25 = .ok (.aload_n 0, 1) := by decide +kernel
theorem dX6_force_26 : decode cX6_force 26 = .ok (.getfield 10, 3) := by decide +kernel
theorem dX6_force_29 : decode cX6_force 29 = .ok (.iload_n 1, 1) := by decide +kernel
theorem dX6_force_30 : decode cX6_force 30 = .ok (.putfield 146, 3) := by decide +kernel
theorem dX6_force_33 : decode cX6_force 33 = .ok (.iload_n 2, 1) := by decide +kernel
theorem dX6_force_34 : decode cX6_force 34 = .ok (.ireturn, 1) := by decide +kernel
theorem dX6_say_0 : decode cX6_say 0 = .ok (.aload_n 0, 1) := by decide +kernel
theorem dX6_say_1 : decode cX6_say 1 = .ok (.getfield 10, 3) := by decide +kernel
theorem dX6_say_4 : decode cX6_say 4 = .ok (.iload_n 1, 1) := by decide +kernel
theorem dX6_say_5 : decode cX6_say 5 = .ok (.invokevirtual 125, 3) := by decide +kernel
theorem dX6_say_8 : decode cX6_say 8 = .ok (.ifCond .eq 12, 3) := by decide +kernel
theorem dX6_say_11 : decode cX6_say 11 = .ok (.iload_n 2, 1) := by decide +kernel
theorem dX6_say_12 : decode cX6_say 12 = .ok (.bipush 6, 2) := by decide +kernel
theorem dX6_say_14 : decode cX6_say 14 = .ok (.invokestatic 100, 3) := by decide +kernel
theorem dX6_say_17 : decode cX6_say 17 = .ok (.ifCond .ne 6, 3) := by decide +kernel
theorem dX6_say_20 : decode cX6_say 20 = .ok (.bipush (-2), 2) := by decide +kernel
theorem dX6_say_22 : decode cX6_say 22 = .ok (.ireturn, 1) := by decide +kernel
theorem dX6_say_23 : decode cX6_say 23 = .ok (.aload_n 0, 1) := by decide +kernel
theorem dX6_say_24 : decode cX6_say 24 = .ok (.getfield 38, 3) := by decide +kernel
theorem dX6_say_27 : decode cX6_say 27 = .ok (.aload_n 0, 1) := by decide +kernel
theorem dX6_say_28 : decode cX6_say 28 = .ok (.getfield 10, 3) := by decide +kernel
theorem dX6_say_31 : decode cX6_say 31 = .ok (.iload_n 1, 1) := by decide +kernel
theorem dX6_say_32 : decode cX6_say 32 = .ok (.invokevirtual 128, 3) := by decide +kernel
theorem dX6_say_35 : decode cX6_say 35 = .ok (.aload_n 0, 1) := by decide +kernel
theorem dX6_say_36 : decode cX6_say 36 = .ok (.getfield 38, 3) := by decide +kernel
theorem dX6_say_39 : decode cX6_say 39 = .ok (.aload_n 0, 1) := by decide +kernel
theorem dX6_say_40 : decode cX6_say 40 = .ok (.getfield 10, 3) := by decide +kernel
theorem dX6_say_43 : decode cX6_say 43 = .ok (.iload_n 1, 1) := by decide +kernel
theorem dX6_say_44 : decode cX6_say 44 = .ok (.invokevirtual 132, 3) := by decide +kernel
theorem dX6_say_47 : decode cX6_say 47 = .ok (.iload_n 2, 1) := by decide +kernel
theorem dX6_say_48 : decode cX6_say 48 = .ok (.invokevirtual 149, 3) := by decide +kernel
theorem dX6_say_51 : decode cX6_say 51 = .ok (.istore_n 3, 1) := by decide +kernel
theorem dX6_say_52 : decode cX6_say 52 = .ok (.aload_n 0, 1) := by decide +kernel
theorem dX6_say_53 : decode cX6_say 53 = .ok (.getfield 10, 3) := by decide +kernel
theorem dX6_say_56 : decode cX6_say 56 = .ok (.iload_n 1, 1) := by decide +kernel
theorem dX6_say_57 : decode cX6_say 57 = .ok (.iload_n 3, 1) := by decide +kernel
theorem dX6_say_58 : decode cX6_say 58 = .ok (.invokevirtual 152, 3) := by decide +kernel
theorem dX6_say_61 : decode cX6_say 61 = .ok (.iload_n 3, 1) := by decide +kernel
theorem dX6_say_62 : decode cX6_say 62 = .ok (.ireturn, 1) := by decide +kernel
theorem dX6_quiet_0 : decode cX6_quiet 0 = .ok (.iload_n 1, 1) := by decide +kernel
theorem dX6_quiet_1 : decode cX6_quiet 1 = .ok (.bipush 100, 2) := by decide +kernel
theorem dX6_quiet_3 : decode cX6_quiet 3 = .ok (.invokestatic 100, 3) := by decide +kernel
theorem dX6_quiet_6 : decode cX6_quiet 6 = .ok (.ifCond .ne 6, 3) := by decide +kernel
theorem dX6_quiet_9 : decode cX6_quiet 9 = .ok (.bipush (-2), 2) := by decide +kernel
theorem dX6_quiet_11 : decode cX6_quiet 11 = .ok (.ireturn, 1) := by decide +kernel
theorem dX6_quiet_12 : decode cX6_quiet 12 = .ok (.iconst 0, 1) := by decide +kernel
theorem dX6_quiet_13 : decode cX6_quiet 13 = .ok (.istore_n 2, 1) := by decide +kernel
theorem dX6_quiet_14 : decode cX6_quiet 14 = .ok (.iconst 0, 1) := by decide +kernel
theorem dX6_quiet_15 : decode cX6_quiet 15 = .ok (.istore_n 3, 1) := by decide +kernel
theorem dX6_quiet_16 : decode cX6_quiet 16 = .ok (.iload_n 3, 1) := by decide +kernel
theorem dX6_quiet_17 : decode cX6_quiet 17 = .ok (.aload_n 0, 1) := by decide +kernel
theorem dX6_quiet_18 : decode cX6_quiet 18 = .ok (.getfield 10, 3) := by decide +kernel
theorem dX6_quiet_21 : decode cX6_quiet 21 = .ok (.getfield 93, 3) := by decide +kernel
theorem dX6_quiet_24 : decode cX6_quiet 24 = .ok (.if_icmp .ge 64, 3) := by decide +kernel
theorem dX6_quiet_27 : decode cX6_quiet 27 = .ok (.iload_n 3, 1) := by decide +kernel
theorem dX6_quiet_28 : decode cX6_quiet 28 = .ok (.iconst 5, 1) := by decide +kernel
theorem dX6_quiet_29 : decode cX6_quiet 29 = .ok (.if_icmp .ge 59, 3) := by decide +kernel
theorem dX6_quiet_32 : decode cX6_quiet 32 = .ok (.aload_n 0, 1) := by decide +kernel
theorem dX6_quiet_33 : decode cX6_quiet 33 = .ok (.getfield 38, 3) := by decide +kernel
theorem dX6_quiet_36 : decode cX6_quiet 36 = .ok (.aload_n 0, 1) := by decide +kernel
theorem dX6_quiet_37 : decode cX6_quiet 37 = .ok (.getfield 10, 3) := by decide +kernel
theorem dX6_quiet_40 : decode cX6_quiet 40 = .ok (.iload_n 3, 1) := by decide +kernel
theorem dX6_quiet_41 : decode cX6_quiet 41 = .ok (.invokevirtual 128, 3) := by decide +kernel
theorem dX6_quiet_44 : decode cX6_quiet 44 = .ok (.aload_n 0, 1) := by decide +kernel
theorem dX6_quiet_45 : decode cX6_quiet 45 = .ok (.getfield 10, 3) := by decide +kernel
theorem dX6_quiet_48 : decode cX6_quiet 48 = .ok (.getfield 97, 3) := by decide +kernel
theorem dX6_quiet_51 : decode cX6_quiet 51 = .ok (.iload_n 3, 1) := by decide +kernel
theorem dX6_quiet_52 : decode cX6_quiet 52 = .ok (.aload_n 0, 1) := by decide +kernel
theorem dX6_quiet_53 : decode cX6_quiet 53 = .ok (.aload_n 0, 1) := by decide +kernel
theorem dX6_quiet_54 : decode cX6_quiet 54 = .ok (.getfield 10, 3) := by decide +kernel
theorem dX6_quiet_57 : decode cX6_quiet 57 = .ok (.getfield 97, 3) := by decide +kernel
theorem dX6_quiet_60 : decode cX6_quiet 60 = .ok (.iload_n 3, 1) := by decide +kernel
theorem dX6_quiet_61 : decode cX6_quiet 61 = .ok (.iaload, 1) := by decide +kernel
theorem dX6_quiet_62 : decode cX6_quiet 62 = .ok (.iload_n 1, 1) := by decide +kernel
theorem dX6_quiet_63 : decode cX6_quiet 63 = .ok (.invokevirtual 156, 3) := by decide +kernel
theorem dX6_quiet_66 : decode cX6_quiet 66 = .ok (.iastore, 1) := by decide +kernel
theorem dX6_quiet_67 : decode cX6_quiet 67 = .ok (.aload_n 0, 1) := by decide +kernel
theorem dX6_quiet_68 : decode cX6_quiet 68 = .ok (.getfield 10, 3) := by decide +kernel
theorem dX6_quiet_71 : decode cX6_quiet 71 = .ok (.getfield 97, 3) := by decide +kernel
theorem dX6_quiet_74 : decode cX6_quiet 74 = .ok (.iload_n 3, 1) := by decide +kernel
theorem dX6_quiet_75 : decode cX6_quiet 75 = .ok (.iaload, 1) := by decide +kernel
theorem dX6_quiet_76 : decode cX6_quiet 76 = .ok (.ifCond .ne 6, 3) := by decide +kernel
theorem dX6_quiet_79 : decode cX6_quiet 79 = .ok (.iinc 2 1, 3) := by decide +kernel
theorem dX6_quiet_82 : decode cX6_quiet 82 = .ok (.iinc 3 1, 3) := by decide +kernel
theorem dX6_quiet_85 : decode cX6_quiet 85 = .ok (.goto (-69), 3) := by decide +kernel
theorem dX6_quiet_88 : decode cX6_quiet 88 = .ok (.iload_n 2, 1) := by decide +kernel
theorem dX6_quiet_89 : decode cX6_quiet 89 = .ok (.ireturn, 1) := by decide +kernel
theorem dX6_cooledFor_0 : decode cX6_cooledFor 0 = .ok (.iload_n 1, 1) := by decide +kernel
theorem dX6_cooledFor_1 : decode cX6_cooledFor 1 = .ok (.istore_n 3, 1) := by decide +kernel
theorem dX6_cooledFor_2 : decode cX6_cooledFor 2 = .ok (.iconst 0, 1) := by decide +kernel
theorem dX6_cooledFor_3 : decode cX6_cooledFor 3 = .ok (.istore 4, 2) := by decide +kernel
theorem dX6_cooledFor_5 : decode cX6_cooledFor 5 = .ok (.iload 4, 2) := by decide +kernel
theorem dX6_cooledFor_7 : decode cX6_cooledFor 7 = .ok (.iload_n 2, 1) := by decide +kernel
theorem dX6_cooledFor_8 : decode cX6_cooledFor 8 = .ok (.if_icmp .ge 18, 3) := by decide +kernel
theorem dX6_cooledFor_11 : decode cX6_cooledFor 11 = .ok (.aload_n 0, 1) := by decide +kernel
theorem dX6_cooledFor_12 : decode cX6_cooledFor 12 = .ok (.getfield 38, 3) := by decide +kernel
theorem dX6_cooledFor_15 : decode cX6_cooledFor 15 = .ok (.iload_n 3, 1) := by decide +kernel
theorem dX6_cooledFor_16 : decode cX6_cooledFor 16 = .ok (.invokevirtual 159, 3) := by decide +kernel
theorem dX6_cooledFor_19 : decode cX6_cooledFor 19 = .ok (.istore_n 3, 1) := by decide +kernel
theorem dX6_cooledFor_20 : decode cX6_cooledFor 20 = .ok (.iinc 4 1, 3) := by decide +kernel
theorem dX6_cooledFor_23 : decode cX6_cooledFor 23 = .ok (.goto (-18), 3) := by decide +kernel
theorem dX6_cooledFor_26 : decode cX6_cooledFor 26 = .ok (.iload_n 3, 1) := by decide +kernel
theorem dX6_cooledFor_27 : decode cX6_cooledFor 27 = .ok (.ireturn, 1) := by decide +kernel
theorem dX6_view_0 : decode cX6_view 0 = .ok (.iload_n 1, 1) := by decide +kernel
theorem dX6_view_1 : decode cX6_view 1 = .ok (.tableswitch 102 0 4 #[35, 40, 59, 71, 76], 35) := by decide +kernel
theorem dX6_view_36 : decode cX6_view 36 = .ok (.aload_n 0, 1) := by decide +kernel
theorem dX6_view_37 : decode cX6_view 37 = .ok (.invokevirtual 162, 3) := by decide +kernel
theorem dX6_view_40 : decode cX6_view 40 = .ok (.ireturn, 1) := by decide +kernel
theorem dX6_view_41 : decode cX6_view 41 = .ok (.aload_n 0, 1) := by decide +kernel
theorem dX6_view_42 : decode cX6_view 42 = .ok (.invokevirtual 162, 3) := by decide +kernel
theorem dX6_view_45 : decode cX6_view 45 = .ok (.invokestatic 165, 3) := by decide +kernel
theorem dX6_view_48 : decode cX6_view 48 = .ok (.aload_n 0, 1) := by decide +kernel
theorem dX6_view_49 : decode cX6_view 49 = .ok (.getfield 10, 3) := by decide +kernel
theorem dX6_view_52 : decode cX6_view 52 = .ok (.invokevirtual 169, 3) := by decide +kernel
theorem dX6_view_55 : decode cX6_view 55 = .ok (.land, 1) := by decide +kernel
theorem dX6_view_56 : decode cX6_view 56 = .ok (.invokestatic 173, 3) := by decide +kernel
theorem dX6_view_59 : decode cX6_view 59 = .ok (.ireturn, 1) := by decide +kernel
theorem dX6_view_60 : decode cX6_view 60 = .ok (.aload_n 0, 1) := by decide +kernel
theorem dX6_view_61 : decode cX6_view 61 = .ok (.getfield 10, 3) := by decide +kernel
theorem dX6_view_64 : decode cX6_view 64 = .ok (.aload_n 0, 1) := by decide +kernel
theorem dX6_view_65 : decode cX6_view 65 = .ok (.invokevirtual 162, 3) := by decide +kernel
theorem dX6_view_68 : decode cX6_view 68 = .ok (.invokevirtual 179, 3) := by decide +kernel
theorem dX6_view_71 : decode cX6_view 71 = .ok (.ireturn, 1) := by decide +kernel
theorem dX6_view_72 : decode cX6_view 72 = .ok (.aload_n 0, 1) := by decide +kernel
theorem dX6_view_73 : decode cX6_view 73 = .ok (.invokevirtual 182, 3) := by decide +kernel
theorem dX6_view_76 : decode cX6_view 76 = .ok (.ireturn, 1) := by decide +kernel
theorem dX6_view_77 : decode cX6_view 77 = .ok (.aload_n 0, 1) := by decide +kernel
theorem dX6_view_78 : decode cX6_view 78 = .ok (.getfield 10, 3) := by decide +kernel
theorem dX6_view_81 : decode cX6_view 81 = .ok (.bipush 40, 2) := by decide +kernel
theorem dX6_view_83 : decode cX6_view 83 = .ok (.invokevirtual 185, 3) := by decide +kernel
theorem dX6_view_86 : decode cX6_view 86 = .ok (.istore_n 2, 1) := by decide +kernel
theorem dX6_view_87 : decode cX6_view 87 = .ok (.iload_n 2, 1) := by decide +kernel
theorem dX6_view_88 : decode cX6_view 88 = .ok (.iconst (-1), 1) := by decide +kernel
theorem dX6_view_89 : decode cX6_view 89 = .ok (.if_icmp .ne 7, 3) := by decide +kernel
theorem dX6_view_92 : decode cX6_view 92 = .ok (.iconst 0, 1) := by decide +kernel
theorem dX6_view_93 : decode cX6_view 93 = .ok (.goto 9, 3) := by decide +kernel
theorem dX6_view_96 : decode cX6_view 96 = .ok (.aload_n 0, 1) := by decide +kernel
theorem dX6_view_97 : decode cX6_view 97 = .ok (.iload_n 2, 1) := by decide +kernel
theorem dX6_view_98 : decode cX6_view 98 = .ok (.iconst 1, 1) := by decide +kernel
theorem dX6_view_99 : decode cX6_view 99 = .ok (.invokevirtual 188, 3) := by decide +kernel
theorem dX6_view_102 : decode cX6_view 102 = .ok (.ireturn, 1) := by decide +kernel
theorem dX6_view_103 : decode cX6_view 103 = .ok (.bipush (-2), 2) := by decide +kernel
theorem dX6_view_105 : decode cX6_view 105 = .ok (.ireturn, 1) := by decide +kernel
theorem dX6_clear_0 : decode cX6_clear 0 = .ok (.iload_n 1, 1) := by decide +kernel
theorem dX6_clear_1 : decode cX6_clear 1 = .ok (.tableswitch 69 0 2 #[27, 35, 53], 27) := by decide +kernel
theorem dX6_clear_28 : decode cX6_clear 28 = .ok (.aload_n 0, 1) := by decide +kernel
theorem dX6_clear_29 : decode cX6_clear 29 = .ok (.invokevirtual 162, 3) := by decide +kernel
theorem dX6_clear_32 : decode cX6_clear 32 = .ok (.invokestatic 165, 3) := by decide +kernel
theorem dX6_clear_35 : decode cX6_clear 35 = .ok (.lreturn, 1) := by decide +kernel
theorem dX6_clear_36 : decode cX6_clear 36 = .ok (.bipush 40, 2) := by decide +kernel
theorem dX6_clear_38 : decode cX6_clear 38 = .ok (.invokestatic 165, 3) := by decide +kernel
theorem dX6_clear_41 : decode cX6_clear 41 = .ok (.aload_n 0, 1) := by decide +kernel
theorem dX6_clear_42 : decode cX6_clear 42 = .ok (.invokevirtual 191, 3) := by decide +kernel
theorem dX6_clear_45 : decode cX6_clear 45 = .ok (.invokestatic 165, 3) := by decide +kernel
theorem dX6_clear_48 : decode cX6_clear 48 = .ok (.ldc2_w 194, 3) := by decide +kernel
theorem dX6_clear_51 : decode cX6_clear 51 = .ok (.lxor, 1) := by decide +kernel
theorem dX6_clear_52 : decode cX6_clear 52 = .ok (.land, 1) := by decide +kernel
theorem dX6_clear_53 : decode cX6_clear 53 = .ok (.lreturn, 1) := by decide +kernel
theorem dX6_clear_54 : decode cX6_clear 54 = .ok (.aload_n 0, 1) := by decide +kernel
theorem dX6_clear_55 : decode cX6_clear 55 = .ok (.invokevirtual 162, 3) := by decide +kernel
theorem dX6_clear_58 : decode cX6_clear 58 = .ok (.invokestatic 165, 3) := by decide +kernel
theorem dX6_clear_61 : decode cX6_clear 61 = .ok (.aload_n 0, 1) := by decide +kernel
theorem dX6_clear_62 : decode cX6_clear 62 = .ok (.getfield 10, 3) := by decide +kernel
theorem dX6_clear_65 : decode cX6_clear 65 = .ok (.invokevirtual 169, 3) := by decide +kernel
theorem dX6_clear_68 : decode cX6_clear 68 = .ok (.land, 1) := by decide +kernel
theorem dX6_clear_69 : decode cX6_clear 69 = .ok (.lreturn, 1) := by decide +kernel
theorem dX6_clear_70 : decode cX6_clear 70 = .ok (.ldc2_w 196, 3) := by decide +kernel
theorem dX6_clear_73 : decode cX6_clear 73 = .ok (.lreturn, 1) := by decide +kernel
theorem dX6_farNow_0 : decode cX6_farNow 0 = .ok (.aload_n 0, 1) := by decide +kernel
theorem dX6_farNow_1 : decode cX6_farNow 1 = .ok (.getfield 38, 3) := by decide +kernel
theorem dX6_farNow_4 : decode cX6_farNow 4 = .ok (.aload_n 0, 1) := by decide +kernel
theorem dX6_farNow_5 : decode cX6_farNow 5 = .ok (.getfield 10, 3) := by decide +kernel
theorem dX6_farNow_8 : decode cX6_farNow 8 = .ok (.iload_n 1, 1) := by decide +kernel
theorem dX6_farNow_9 : decode cX6_farNow 9 = .ok (.invokevirtual 128, 3) := by decide +kernel
theorem dX6_farNow_12 : decode cX6_farNow 12 = .ok (.aload_n 0, 1) := by decide +kernel
theorem dX6_farNow_13 : decode cX6_farNow 13 = .ok (.getfield 38, 3) := by decide +kernel
theorem dX6_farNow_16 : decode cX6_farNow 16 = .ok (.aload_n 0, 1) := by decide +kernel
theorem dX6_farNow_17 : decode cX6_farNow 17 = .ok (.getfield 10, 3) := by decide +kernel
theorem dX6_farNow_20 : decode cX6_farNow 20 = .ok (.iload_n 1, 1) := by decide +kernel
theorem dX6_farNow_21 : decode cX6_farNow 21 = .ok (.invokevirtual 132, 3) := by decide +kernel
theorem dX6_farNow_24 : decode cX6_farNow 24 = .ok (.invokevirtual 138, 3) := by decide +kernel
theorem dX6_farNow_27 : decode cX6_farNow 27 = .ok (.ireturn, 1) := by decide +kernel
theorem dX6_furthest_0 : decode cX6_furthest 0 = .ok (.aload_n 0, 1) := by decide +kernel
theorem dX6_furthest_1 : decode cX6_furthest 1 = .ok (.invokevirtual 182, 3) := by decide +kernel
theorem dX6_furthest_4 : decode cX6_furthest 4 = .ok (.istore_n 1, 1) := by decide +kernel
theorem dX6_furthest_5 : decode cX6_furthest 5 = .ok (.iload_n 1, 1) := by decide +kernel
theorem dX6_furthest_6 : decode cX6_furthest 6 = .ok (.iconst (-1), 1) := by decide +kernel
theorem dX6_furthest_7 : decode cX6_furthest 7 = .ok (.if_icmp .ne 7, 3) := by decide +kernel
theorem dX6_furthest_10 : decode cX6_furthest 10 = .ok (.iconst 0, 1) := by decide +kernel
theorem dX6_furthest_11 : decode cX6_furthest 11 = .ok (.goto 8, 3) := by decide +kernel
theorem dX6_furthest_14 : decode cX6_furthest 14 = .ok (.aload_n 0, 1) := by decide +kernel
theorem dX6_furthest_15 : decode cX6_furthest 15 = .ok (.iload_n 1, 1) := by decide +kernel
theorem dX6_furthest_16 : decode cX6_furthest 16 = .ok (.invokevirtual 198, 3) := by decide +kernel
theorem dX6_furthest_19 : decode cX6_furthest 19 = .ok (.ireturn, 1) := by decide +kernel
theorem dX6_furthestPair_0 : decode cX6_furthestPair 0 = .ok (.iconst (-1), 1) := by decide +kernel
theorem dX6_furthestPair_1 : decode cX6_furthestPair 1 = .ok (.istore_n 1, 1) := by decide +kernel
theorem dX6_furthestPair_2 : decode cX6_furthestPair 2 = .ok (.iconst (-1), 1) := by decide +kernel
theorem dX6_furthestPair_3 : decode cX6_furthestPair 3 = .ok (.istore_n 2, 1) := by decide +kernel
theorem dX6_furthestPair_4 : decode cX6_furthestPair 4 = .ok (.iconst 0, 1) := by decide +kernel
theorem dX6_furthestPair_5 : decode cX6_furthestPair 5 = .ok (.istore_n 3, 1) := by decide +kernel
theorem dX6_furthestPair_6 : decode cX6_furthestPair 6 = .ok (.iload_n 3, 1) := by decide +kernel
theorem dX6_furthestPair_7 : decode cX6_furthestPair 7 = .ok (.aload_n 0, 1) := by decide +kernel
theorem dX6_furthestPair_8 : decode cX6_furthestPair 8 = .ok (.getfield 10, 3) := by decide +kernel
theorem dX6_furthestPair_11 : decode cX6_furthestPair 11 = .ok (.getfield 93, 3) := by decide +kernel
theorem dX6_furthestPair_14 : decode cX6_furthestPair 14 = .ok (.if_icmp .ge 27, 3) := by decide +kernel
theorem dX6_furthestPair_17 : decode cX6_furthestPair 17 = .ok (.aload_n 0, 1) := by decide +kernel
theorem dX6_furthestPair_18 : decode cX6_furthestPair 18 = .ok (.iload_n 3, 1) := by decide +kernel
theorem dX6_furthestPair_19 : decode cX6_furthestPair 19 = .ok (.invokevirtual 198, 3) := by decide +kernel
theorem dX6_furthestPair_22 : decode cX6_furthestPair 22 = .ok (.istore 4, 2) := by decide +kernel
theorem dX6_furthestPair_24 : decode cX6_furthestPair 24 = .ok (.iload 4, 2) := by decide +kernel
theorem dX6_furthestPair_26 : decode cX6_furthestPair 26 = .ok (.iload_n 2, 1) := by decide +kernel
theorem dX6_furthestPair_27 : decode cX6_furthestPair 27 = .ok (.if_icmp .le 8, 3) := by decide +kernel
theorem dX6_furthestPair_30 : decode cX6_furthestPair 30 = .ok (.iload 4, 2) := by decide +kernel
theorem dX6_furthestPair_32 : decode cX6_furthestPair 32 = .ok (.istore_n 2, 1) := by decide +kernel
theorem dX6_furthestPair_33 : decode cX6_furthestPair 33 = .ok (.iload_n 3, 1) := by decide +kernel
theorem dX6_furthestPair_34 : decode cX6_furthestPair 34 = .ok (.istore_n 1, 1) := by decide +kernel
theorem dX6_furthestPair_35 : decode cX6_furthestPair 35 = .ok (.iinc 3 1, 3) := by decide +kernel
theorem dX6_furthestPair_38 : decode cX6_furthestPair 38 = .ok (.goto (-32), 3) := by decide +kernel
theorem dX6_furthestPair_41 : decode cX6_furthestPair 41 = .ok (.iload_n 1, 1) := by decide +kernel
theorem dX6_furthestPair_42 : decode cX6_furthestPair 42 = .ok (.ireturn, 1) := by decide +kernel
theorem dX6_furthestReached_0 : decode cX6_furthestReached 0 = .ok (.iconst 0, 1) := by decide +kernel
theorem dX6_furthestReached_1 : decode cX6_furthestReached 1 = .ok (.istore_n 1, 1) := by decide +kernel
theorem dX6_furthestReached_2 : decode cX6_furthestReached 2 = .ok (.iconst 0, 1) := by decide +kernel
theorem dX6_furthestReached_3 : decode cX6_furthestReached 3 = .ok (.istore_n 2, 1) := by decide +kernel
theorem dX6_furthestReached_4 : decode cX6_furthestReached 4 = .ok (.iload_n 2, 1) := by decide +kernel
theorem dX6_furthestReached_5 : decode cX6_furthestReached 5 = .ok (.aload_n 0, 1) := by decide +kernel
theorem dX6_furthestReached_6 : decode cX6_furthestReached 6 = .ok (.getfield 10, 3) := by decide +kernel
theorem dX6_furthestReached_9 : decode cX6_furthestReached 9 = .ok (.getfield 93, 3) := by decide +kernel
theorem dX6_furthestReached_12 : decode cX6_furthestReached 12 = .ok (.if_icmp .ge 41, 3) := by decide +kernel
theorem dX6_furthestReached_15 : decode cX6_furthestReached 15 = .ok (.aload_n 0, 1) := by decide +kernel
theorem dX6_furthestReached_16 : decode cX6_furthestReached 16 = .ok (.getfield 45, 3) := by decide +kernel
theorem dX6_furthestReached_19 : decode cX6_furthestReached 19 = .ok (.aload_n 0, 1) := by decide +kernel
theorem dX6_furthestReached_20 : decode cX6_furthestReached 20 = .ok (.getfield 38, 3) := by decide +kernel
theorem dX6_furthestReached_23 : decode cX6_furthestReached 23 = .ok (.aload_n 0, 1) := by decide +kernel
theorem dX6_furthestReached_24 : decode cX6_furthestReached 24 = .ok (.getfield 10, 3) := by decide +kernel
theorem dX6_furthestReached_27 : decode cX6_furthestReached 27 = .ok (.iload_n 2, 1) := by decide +kernel
theorem dX6_furthestReached_28 : decode cX6_furthestReached 28 = .ok (.invokevirtual 201, 3) := by decide +kernel
theorem dX6_furthestReached_31 : decode cX6_furthestReached 31 = .ok (.iload_n 1, 1) := by decide +kernel
theorem dX6_furthestReached_32 : decode cX6_furthestReached 32 = .ok (.aload_n 0, 1) := by decide +kernel
theorem dX6_furthestReached_33 : decode cX6_furthestReached 33 = .ok (.getfield 45, 3) := by decide +kernel
theorem dX6_furthestReached_36 : decode cX6_furthestReached 36 = .ok (.aload_n 0, 1) := by decide +kernel
theorem dX6_furthestReached_37 : decode cX6_furthestReached 37 = .ok (.getfield 38, 3) := by decide +kernel
theorem dX6_furthestReached_40 : decode cX6_furthestReached 40 = .ok (.invokevirtual 205, 3) := by decide +kernel
theorem dX6_furthestReached_43 : decode cX6_furthestReached 43 = .ok (.invokestatic 208, 3) := by decide +kernel
theorem dX6_furthestReached_46 : decode cX6_furthestReached 46 = .ok (.istore_n 1, 1) := by decide +kernel
theorem dX6_furthestReached_47 : decode cX6_furthestReached 47 = .ok (.iinc 2 1, 3) := by decide +kernel
theorem dX6_furthestReached_50 : decode cX6_furthestReached 50 = .ok (.goto (-46), 3) := by decide +kernel
theorem dX6_furthestReached_53 : decode cX6_furthestReached 53 = .ok (.iload_n 1, 1) := by decide +kernel
theorem dX6_furthestReached_54 : decode cX6_furthestReached 54 = .ok (.ireturn, 1) := by decide +kernel
theorem dX6_fewest_0 : decode cX6_fewest 0 = .ok (.aload_n 0, 1) := by decide +kernel
theorem dX6_fewest_1 : decode cX6_fewest 1 = .ok (.getfield 10, 3) := by decide +kernel
theorem dX6_fewest_4 : decode cX6_fewest 4 = .ok (.iload_n 1, 1) := by decide +kernel
theorem dX6_fewest_5 : decode cX6_fewest 5 = .ok (.invokevirtual 125, 3) := by decide +kernel
theorem dX6_fewest_8 : decode cX6_fewest 8 = .ok (.ifCond .eq 20, 3) := by decide +kernel
theorem dX6_fewest_11 : decode cX6_fewest 11 = .ok (.iload_n 2, 1) := by decide +kernel
theorem dX6_fewest_12 : decode cX6_fewest 12 = .ok (.bipush 41, 2) := by decide +kernel
theorem dX6_fewest_14 : decode cX6_fewest 14 = .ok (.invokestatic 100, 3) := by decide +kernel
theorem dX6_fewest_17 : decode cX6_fewest 17 = .ok (.ifCond .eq 11, 3) := by decide +kernel
theorem dX6_fewest_20 : decode cX6_fewest 20 = .ok (.iload_n 3, 1) := by decide +kernel
theorem dX6_fewest_21 : decode cX6_fewest 21 = .ok (.iconst 2, 1) := by decide +kernel
theorem dX6_fewest_22 : decode cX6_fewest 22 = .ok (.invokestatic 100, 3) := by decide +kernel
theorem dX6_fewest_25 : decode cX6_fewest 25 = .ok (.ifCond .ne 6, 3) := by decide +kernel
theorem dX6_fewest_28 : decode cX6_fewest 28 = .ok (.bipush (-2), 2) := by decide +kernel
theorem dX6_fewest_30 : decode cX6_fewest 30 = .ok (.ireturn, 1) := by decide +kernel
theorem dX6_fewest_31 : decode cX6_fewest 31 = .ok (.aload_n 0, 1) := by decide +kernel
theorem dX6_fewest_32 : decode cX6_fewest 32 = .ok (.getfield 45, 3) := by decide +kernel
theorem dX6_fewest_35 : decode cX6_fewest 35 = .ok (.aload_n 0, 1) := by decide +kernel
theorem dX6_fewest_36 : decode cX6_fewest 36 = .ok (.getfield 38, 3) := by decide +kernel
theorem dX6_fewest_39 : decode cX6_fewest 39 = .ok (.aload_n 0, 1) := by decide +kernel
theorem dX6_fewest_40 : decode cX6_fewest 40 = .ok (.getfield 10, 3) := by decide +kernel
theorem dX6_fewest_43 : decode cX6_fewest 43 = .ok (.iload_n 1, 1) := by decide +kernel
theorem dX6_fewest_44 : decode cX6_fewest 44 = .ok (.invokevirtual 201, 3) := by decide +kernel
theorem dX6_fewest_47 : decode cX6_fewest 47 = .ok (.aload_n 0, 1) := by decide +kernel
theorem dX6_fewest_48 : decode cX6_fewest 48 = .ok (.getfield 45, 3) := by decide +kernel
theorem dX6_fewest_51 : decode cX6_fewest 51 = .ok (.aload_n 0, 1) := by decide +kernel
theorem dX6_fewest_52 : decode cX6_fewest 52 = .ok (.getfield 38, 3) := by decide +kernel
theorem dX6_fewest_55 : decode cX6_fewest 55 = .ok (.iload_n 2, 1) := by decide +kernel
theorem dX6_fewest_56 : decode cX6_fewest 56 = .ok (.invokevirtual 213, 3) := by decide +kernel
theorem dX6_fewest_59 : decode cX6_fewest 59 = .ok (.istore 4, 2) := by decide +kernel
theorem dX6_fewest_61 : decode cX6_fewest 61 = .ok (.iload_n 3, 1) := by decide +kernel
theorem dX6_fewest_62 : decode cX6_fewest 62 = .ok (.ifCond .ne 15, 3) := by decide +kernel
theorem dX6_fewest_65 : decode cX6_fewest 65 = .ok (.aload_n 0, 1) := by decide +kernel
theorem dX6_fewest_66 : decode cX6_fewest 66 = .ok (.getfield 45, 3) := by decide +kernel
theorem dX6_fewest_69 : decode cX6_fewest 69 = .ok (.iload 4, 2) := by decide +kernel
theorem dX6_fewest_71 : decode cX6_fewest 71 = .ok (.invokevirtual 217, 3) := by decide +kernel
theorem dX6_fewest_74 : decode cX6_fewest 74 = .ok (.goto 12, 3) := by decide +kernel
theorem dX6_fewest_77 : decode cX6_fewest 77 = .ok (.aload_n 0, 1) := by decide +kernel
theorem dX6_fewest_78 : decode cX6_fewest 78 = .ok (.getfield 45, 3) := by decide +kernel
theorem dX6_fewest_81 : decode cX6_fewest 81 = .ok (.iload 4, 2) := by decide +kernel
theorem dX6_fewest_83 : decode cX6_fewest 83 = .ok (.invokevirtual 220, 3) := by decide +kernel
theorem dX6_fewest_86 : decode cX6_fewest 86 = .ok (.ireturn, 1) := by decide +kernel
theorem dX6_words_0 : decode cX6_words 0 = .ok (.aload_n 0, 1) := by decide +kernel
theorem dX6_words_1 : decode cX6_words 1 = .ok (.getfield 10, 3) := by decide +kernel
theorem dX6_words_4 : decode cX6_words 4 = .ok (.iload_n 1, 1) := by decide +kernel
theorem dX6_words_5 : decode cX6_words 5 = .ok (.invokevirtual 125, 3) := by decide +kernel
theorem dX6_words_8 : decode cX6_words 8 = .ok (.ifCond .eq 12, 3) := by decide +kernel
theorem dX6_words_11 : decode cX6_words 11 = .ok (.iload_n 2, 1) := by decide +kernel
theorem dX6_words_12 : decode cX6_words 12 = .ok (.bipush 6, 2) := by decide +kernel
theorem dX6_words_14 : decode cX6_words 14 = .ok (.invokestatic 100, 3) := by decide +kernel
theorem dX6_words_17 : decode cX6_words 17 = .ok (.ifCond .ne 6, 3) := by decide +kernel
theorem dX6_words_20 : decode cX6_words 20 = .ok (.bipush (-2), 2) := by decide +kernel
theorem dX6_words_22 : decode cX6_words 22 = .ok (.ireturn, 1) := by decide +kernel
theorem dX6_words_23 : decode cX6_words 23 = .ok (.aload_n 0, 1) := by decide +kernel
theorem dX6_words_24 : decode cX6_words 24 = .ok (.getfield 45, 3) := by decide +kernel
theorem dX6_words_27 : decode cX6_words 27 = .ok (.aload_n 0, 1) := by decide +kernel
theorem dX6_words_28 : decode cX6_words 28 = .ok (.getfield 38, 3) := by decide +kernel
theorem dX6_words_31 : decode cX6_words 31 = .ok (.aload_n 0, 1) := by decide +kernel
theorem dX6_words_32 : decode cX6_words 32 = .ok (.getfield 10, 3) := by decide +kernel
theorem dX6_words_35 : decode cX6_words 35 = .ok (.iload_n 1, 1) := by decide +kernel
theorem dX6_words_36 : decode cX6_words 36 = .ok (.invokevirtual 201, 3) := by decide +kernel
theorem dX6_words_39 : decode cX6_words 39 = .ok (.iload_n 2, 1) := by decide +kernel
theorem dX6_words_40 : decode cX6_words 40 = .ok (.tableswitch 82 0 4 #[36, 45, 53, 61, 69], 36) := by decide +kernel
theorem dX6_words_76 : decode cX6_words 76 = .ok (.aload_n 0, 1) := by decide +kernel
theorem dX6_words_77 : decode cX6_words 77 = .ok (.getfield 45, 3) := by decide +kernel
theorem dX6_words_80 : decode cX6_words 80 = .ok (.iconst 0, 1) := by decide +kernel
theorem dX6_words_81 : decode cX6_words 81 = .ok (.invokevirtual 217, 3) := by decide +kernel
theorem dX6_words_84 : decode cX6_words 84 = .ok (.ireturn, 1) := by decide +kernel
theorem dX6_words_85 : decode cX6_words 85 = .ok (.aload_n 0, 1) := by decide +kernel
theorem dX6_words_86 : decode cX6_words 86 = .ok (.getfield 45, 3) := by decide +kernel
theorem dX6_words_89 : decode cX6_words 89 = .ok (.getfield 223, 3) := by decide +kernel
theorem dX6_words_92 : decode cX6_words 92 = .ok (.ireturn, 1) := by decide +kernel
theorem dX6_words_93 : decode cX6_words 93 = .ok (.aload_n 0, 1) := by decide +kernel
theorem dX6_words_94 : decode cX6_words 94 = .ok (.getfield 45, 3) := by decide +kernel
theorem dX6_words_97 : decode cX6_words 97 = .ok (.invokevirtual 224, 3) := by decide +kernel
theorem dX6_words_100 : decode cX6_words 100 = .ok (.ireturn, 1) := by decide +kernel
theorem dX6_words_101 : decode cX6_words 101 = .ok (.aload_n 0, 1) := by decide +kernel
theorem dX6_words_102 : decode cX6_words 102 = .ok (.getfield 45, 3) := by decide +kernel
theorem dX6_words_105 : decode cX6_words 105 = .ok (.invokevirtual 227, 3) := by decide +kernel
theorem dX6_words_108 : decode cX6_words 108 = .ok (.ireturn, 1) := by decide +kernel
theorem dX6_words_109 : decode cX6_words 109 = .ok (.aload_n 0, 1) := by decide +kernel
theorem dX6_words_110 : decode cX6_words 110 = .ok (.aload_n 0, 1) := by decide +kernel
theorem dX6_words_111 : decode cX6_words 111 = .ok (.getfield 10, 3) := by decide +kernel
theorem dX6_words_114 : decode cX6_words 114 = .ok (.iload_n 1, 1) := by decide +kernel
theorem dX6_words_115 : decode cX6_words 115 = .ok (.invokevirtual 132, 3) := by decide +kernel
theorem dX6_words_118 : decode cX6_words 118 = .ok (.invokevirtual 230, 3) := by decide +kernel
theorem dX6_words_121 : decode cX6_words 121 = .ok (.ireturn, 1) := by decide +kernel
theorem dX6_words_122 : decode cX6_words 122 = .ok (.aload_n 0, 1) := by decide +kernel
theorem dX6_words_123 : decode cX6_words 123 = .ok (.aload_n 0, 1) := by decide +kernel
theorem dX6_words_124 : decode cX6_words 124 = .ok (.getfield 10, 3) := by decide +kernel
theorem dX6_words_127 : decode cX6_words 127 = .ok (.iload_n 1, 1) := by decide +kernel
theorem dX6_words_128 : decode cX6_words 128 = .ok (.invokevirtual 132, 3) := by decide +kernel
theorem dX6_words_131 : decode cX6_words 131 = .ok (.aload_n 0, 1) := by decide +kernel
theorem dX6_words_132 : decode cX6_words 132 = .ok (.aload_n 0, 1) := by decide +kernel
theorem dX6_words_133 : decode cX6_words 133 = .ok (.getfield 10, 3) := by decide +kernel
theorem dX6_words_136 : decode cX6_words 136 = .ok (.iload_n 1, 1) := by decide +kernel
theorem dX6_words_137 : decode cX6_words 137 = .ok (.invokevirtual 132, 3) := by decide +kernel
theorem dX6_words_140 : decode cX6_words 140 = .ok (.invokevirtual 230, 3) := by decide +kernel
theorem dX6_words_143 : decode cX6_words 143 = .ok (.invokevirtual 233, 3) := by decide +kernel
theorem dX6_words_146 : decode cX6_words 146 = .ok (.ireturn, 1) := by decide +kernel
theorem dX6_farBehind_0 : decode cX6_farBehind 0 = .ok (.aload_n 0, 1) := by decide +kernel
theorem dX6_farBehind_1 : decode cX6_farBehind 1 = .ok (.getfield 38, 3) := by decide +kernel
theorem dX6_farBehind_4 : decode cX6_farBehind 4 = .ok (.aload_n 0, 1) := by decide +kernel
theorem dX6_farBehind_5 : decode cX6_farBehind 5 = .ok (.getfield 38, 3) := by decide +kernel
theorem dX6_farBehind_8 : decode cX6_farBehind 8 = .ok (.iload_n 1, 1) := by decide +kernel
theorem dX6_farBehind_9 : decode cX6_farBehind 9 = .ok (.iload_n 2, 1) := by decide +kernel
theorem dX6_farBehind_10 : decode cX6_farBehind 10 = .ok (.invokevirtual 149, 3) := by decide +kernel
theorem dX6_farBehind_13 : decode cX6_farBehind 13 = .ok (.invokevirtual 138, 3) := by decide +kernel
theorem dX6_farBehind_16 : decode cX6_farBehind 16 = .ok (.ireturn, 1) := by decide +kernel
theorem dX6_bestWord_0 : decode cX6_bestWord 0 = .ok (.iconst 0, 1) := by decide +kernel
theorem dX6_bestWord_1 : decode cX6_bestWord 1 = .ok (.istore_n 2, 1) := by decide +kernel
theorem dX6_bestWord_2 : decode cX6_bestWord 2 = .ok (.iconst 1, 1) := by decide +kernel
theorem dX6_bestWord_3 : decode cX6_bestWord 3 = .ok (.istore_n 3, 1) := by decide +kernel
theorem dX6_bestWord_4 : decode cX6_bestWord 4 = .ok (.iload_n 3, 1) := by decide +kernel
theorem dX6_bestWord_5 : decode cX6_bestWord 5 = .ok (.bipush 6, 2) := by decide +kernel
theorem dX6_bestWord_7 : decode cX6_bestWord 7 = .ok (.if_icmp .ge 26, 3) := by decide +kernel
theorem dX6_bestWord_10 : decode cX6_bestWord 10 = .ok (.aload_n 0, 1) := by decide +kernel
theorem dX6_bestWord_11 : decode cX6_bestWord 11 = .ok (.iload_n 1, 1) := by decide +kernel
theorem dX6_bestWord_12 : decode cX6_bestWord 12 = .ok (.iload_n 3, 1) := by decide +kernel
theorem dX6_bestWord_13 : decode cX6_bestWord 13 = .ok (.invokevirtual 233, 3) := by decide +kernel
theorem dX6_bestWord_16 : decode cX6_bestWord 16 = .ok (.aload_n 0, 1) := by decide +kernel
theorem dX6_bestWord_17 : decode cX6_bestWord 17 = .ok (.iload_n 1, 1) := by decide +kernel
theorem dX6_bestWord_18 : decode cX6_bestWord 18 = .ok (.iload_n 2, 1) := by decide +kernel
theorem dX6_bestWord_19 : decode cX6_bestWord 19 = .ok (.invokevirtual 233, 3) := by decide +kernel
theorem dX6_bestWord_22 : decode cX6_bestWord 22 = .ok (.if_icmp .le 5, 3) := by decide +kernel
theorem dX6_bestWord_25 : decode cX6_bestWord 25 = .ok (.iload_n 3, 1) := by decide +kernel
theorem dX6_bestWord_26 : decode cX6_bestWord 26 = .ok (.istore_n 2, 1) := by decide +kernel
theorem dX6_bestWord_27 : decode cX6_bestWord 27 = .ok (.iinc 3 1, 3) := by decide +kernel
theorem dX6_bestWord_30 : decode cX6_bestWord 30 = .ok (.goto (-26), 3) := by decide +kernel
theorem dX6_bestWord_33 : decode cX6_bestWord 33 = .ok (.iload_n 2, 1) := by decide +kernel
theorem dX6_bestWord_34 : decode cX6_bestWord 34 = .ok (.ireturn, 1) := by decide +kernel
theorem dX6_stays_0 : decode cX6_stays 0 = .ok (.aload_n 0, 1) := by decide +kernel
theorem dX6_stays_1 : decode cX6_stays 1 = .ok (.getfield 10, 3) := by decide +kernel
theorem dX6_stays_4 : decode cX6_stays 4 = .ok (.iload_n 1, 1) := by decide +kernel
theorem dX6_stays_5 : decode cX6_stays 5 = .ok (.invokevirtual 125, 3) := by decide +kernel
theorem dX6_stays_8 : decode cX6_stays 8 = .ok (.ifCond .eq 12, 3) := by decide +kernel
theorem dX6_stays_11 : decode cX6_stays 11 = .ok (.iload_n 2, 1) := by decide +kernel
theorem dX6_stays_12 : decode cX6_stays 12 = .ok (.bipush 40, 2) := by decide +kernel
theorem dX6_stays_14 : decode cX6_stays 14 = .ok (.invokestatic 100, 3) := by decide +kernel
theorem dX6_stays_17 : decode cX6_stays 17 = .ok (.ifCond .ne 6, 3) := by decide +kernel
theorem dX6_stays_20 : decode cX6_stays 20 = .ok (.bipush (-2), 2) := by decide +kernel
theorem dX6_stays_22 : decode cX6_stays 22 = .ok (.ireturn, 1) := by decide +kernel
theorem dX6_stays_23 : decode cX6_stays 23 = .ok (.aload_n 0, 1) := by decide +kernel
theorem dX6_stays_24 : decode cX6_stays 24 = .ok (.getfield 38, 3) := by decide +kernel
theorem dX6_stays_27 : decode cX6_stays 27 = .ok (.aload_n 0, 1) := by decide +kernel
theorem dX6_stays_28 : decode cX6_stays 28 = .ok (.getfield 10, 3) := by decide +kernel
theorem dX6_stays_31 : decode cX6_stays 31 = .ok (.iload_n 1, 1) := by decide +kernel
theorem dX6_stays_32 : decode cX6_stays 32 = .ok (.invokevirtual 128, 3) := by decide +kernel
theorem dX6_stays_35 : decode cX6_stays 35 = .ok (.aload_n 0, 1) := by decide +kernel
theorem dX6_stays_36 : decode cX6_stays 36 = .ok (.getfield 10, 3) := by decide +kernel
theorem dX6_stays_39 : decode cX6_stays 39 = .ok (.iload_n 1, 1) := by decide +kernel
theorem dX6_stays_40 : decode cX6_stays 40 = .ok (.invokevirtual 132, 3) := by decide +kernel
theorem dX6_stays_43 : decode cX6_stays 43 = .ok (.istore_n 3, 1) := by decide +kernel
theorem dX6_stays_44 : decode cX6_stays 44 = .ok (.iconst 0, 1) := by decide +kernel
theorem dX6_stays_45 : decode cX6_stays 45 = .ok (.istore 4, 2) := by decide +kernel
theorem dX6_stays_47 : decode cX6_stays 47 = .ok (.iload 4, 2) := by decide +kernel
theorem dX6_stays_49 : decode cX6_stays 49 = .ok (.bipush 100, 2) := by decide +kernel
theorem dX6_stays_51 : decode cX6_stays 51 = .ok (.if_icmp .ge 30, 3) := by decide +kernel
theorem dX6_stays_54 : decode cX6_stays 54 = .ok (.aload_n 0, 1) := by decide +kernel
theorem dX6_stays_55 : decode cX6_stays 55 = .ok (.getfield 38, 3) := by decide +kernel
theorem dX6_stays_58 : decode cX6_stays 58 = .ok (.iload_n 3, 1) := by decide +kernel
theorem dX6_stays_59 : decode cX6_stays 59 = .ok (.invokevirtual 138, 3) := by decide +kernel
theorem dX6_stays_62 : decode cX6_stays 62 = .ok (.iload_n 2, 1) := by decide +kernel
theorem dX6_stays_63 : decode cX6_stays 63 = .ok (.if_icmp .le 18, 3) := by decide +kernel
theorem dX6_stays_66 : decode cX6_stays 66 = .ok (.aload_n 0, 1) := by decide +kernel
theorem dX6_stays_67 : decode cX6_stays 67 = .ok (.getfield 38, 3) := by decide +kernel
theorem dX6_stays_70 : decode cX6_stays 70 = .ok (.iload_n 3, 1) := by decide +kernel
theorem dX6_stays_71 : decode cX6_stays 71 = .ok (.invokevirtual 159, 3) := by decide +kernel
theorem dX6_stays_74 : decode cX6_stays 74 = .ok (.istore_n 3, 1) := by decide +kernel
theorem dX6_stays_75 : decode cX6_stays 75 = .ok (.iinc 4 1, 3) := by decide +kernel
theorem dX6_stays_78 : decode cX6_stays 78 = .ok (.goto (-31), 3) := by decide +kernel
theorem dX6_stays_81 : decode cX6_stays 81 = .ok (.iload 4, 2) := by decide +kernel
theorem dX6_stays_83 : decode cX6_stays 83 = .ok (.ireturn, 1) := by decide +kernel
theorem dX6_rows_0 : decode cX6_rows 0 = .ok (.aload_n 0, 1) := by decide +kernel
theorem dX6_rows_1 : decode cX6_rows 1 = .ok (.getfield 10, 3) := by decide +kernel
theorem dX6_rows_4 : decode cX6_rows 4 = .ok (.iload_n 1, 1) := by decide +kernel
theorem dX6_rows_5 : decode cX6_rows 5 = .ok (.invokevirtual 125, 3) := by decide +kernel
theorem dX6_rows_8 : decode cX6_rows 8 = .ok (.ifCond .eq 30, 3) := by decide +kernel
theorem dX6_rows_11 : decode cX6_rows 11 = .ok (.iload_n 2, 1) := by decide +kernel
theorem dX6_rows_12 : decode cX6_rows 12 = .ok (.bipush 41, 2) := by decide +kernel
theorem dX6_rows_14 : decode cX6_rows 14 = .ok (.invokestatic 100, 3) := by decide +kernel
theorem dX6_rows_17 : decode cX6_rows 17 = .ok (.ifCond .eq 21, 3) := by decide +kernel
theorem dX6_rows_20 : decode cX6_rows 20 = .ok (.iload_n 3, 1) := by decide +kernel
theorem dX6_rows_21 : decode cX6_rows 21 = .ok (.bipush 21, 2) := by decide +kernel
theorem dX6_rows_23 : decode cX6_rows 23 = .ok (.invokestatic 100, 3) := by decide +kernel
theorem dX6_rows_26 : decode cX6_rows 26 = .ok (.ifCond .eq 12, 3) := by decide +kernel
theorem dX6_rows_29 : decode cX6_rows 29 = .ok (.iload 4, 2) := by decide +kernel
theorem dX6_rows_31 : decode cX6_rows 31 = .ok (.iconst 2, 1) := by decide +kernel
theorem dX6_rows_32 : decode cX6_rows 32 = .ok (.invokestatic 100, 3) := by decide +kernel
theorem dX6_rows_35 : decode cX6_rows 35 = .ok (.ifCond .ne 7, 3) := by decide +kernel
theorem dX6_rows_38 : decode cX6_rows 38 = .ok (.ldc2_w 196, 3) := by decide +kernel
theorem dX6_rows_41 : decode cX6_rows 41 = .ok (.lreturn, 1) := by decide +kernel
theorem dX6_rows_42 : decode cX6_rows 42 = .ok (.aload_n 0, 1) := by decide +kernel
theorem dX6_rows_43 : decode cX6_rows 43 = .ok (.getfield 45, 3) := by decide +kernel
theorem dX6_rows_46 : decode cX6_rows 46 = .ok (.aload_n 0, 1) := by decide +kernel
theorem dX6_rows_47 : decode cX6_rows 47 = .ok (.getfield 38, 3) := by decide +kernel
theorem dX6_rows_50 : decode cX6_rows 50 = .ok (.aload_n 0, 1) := by decide +kernel
theorem dX6_rows_51 : decode cX6_rows 51 = .ok (.getfield 10, 3) := by decide +kernel
theorem dX6_rows_54 : decode cX6_rows 54 = .ok (.iload_n 1, 1) := by decide +kernel
theorem dX6_rows_55 : decode cX6_rows 55 = .ok (.invokevirtual 201, 3) := by decide +kernel
theorem dX6_rows_58 : decode cX6_rows 58 = .ok (.lconst 1, 1) := by decide +kernel
theorem dX6_rows_59 : decode cX6_rows 59 = .ok (.lstore 5, 2) := by decide +kernel
theorem dX6_rows_61 : decode cX6_rows 61 = .ok (.iconst 0, 1) := by decide +kernel
theorem dX6_rows_62 : decode cX6_rows 62 = .ok (.istore 7, 2) := by decide +kernel
theorem dX6_rows_64 : decode cX6_rows 64 = .ok (.iload 7, 2) := by decide +kernel
theorem dX6_rows_66 : decode cX6_rows 66 = .ok (.iload_n 3, 1) := by decide +kernel
theorem dX6_rows_67 : decode cX6_rows 67 = .ok (.if_icmp .ge 17, 3) := by decide +kernel
theorem dX6_rows_70 : decode cX6_rows 70 = .ok (.lload 5, 2) := by decide +kernel
theorem dX6_rows_72 : decode cX6_rows 72 = .ok (.ldc2_w 236, 3) := by decide +kernel
theorem dX6_rows_75 : decode cX6_rows 75 = .ok (.lmul, 1) := by decide +kernel
theorem dX6_rows_76 : decode cX6_rows 76 = .ok (.lstore 5, 2) := by decide +kernel
theorem dX6_rows_78 : decode cX6_rows 78 = .ok (.iinc 7 1, 3) := by decide +kernel
theorem dX6_rows_81 : decode cX6_rows 81 = .ok (.goto (-17), 3) := by decide +kernel
theorem dX6_rows_84 : decode cX6_rows 84 = .ok (.aload_n 0, 1) := by decide +kernel
theorem dX6_rows_85 : decode cX6_rows 85 = .ok (.getfield 45, 3) := by decide +kernel
theorem dX6_rows_88 : decode cX6_rows 88 = .ok (.aload_n 0, 1) := by decide +kernel
theorem dX6_rows_89 : decode cX6_rows 89 = .ok (.getfield 38, 3) := by decide +kernel
theorem dX6_rows_92 : decode cX6_rows 92 = .ok (.iload_n 2, 1) := by decide +kernel
theorem dX6_rows_93 : decode cX6_rows 93 = .ok (.iload_n 3, 1) := by decide +kernel
theorem dX6_rows_94 : decode cX6_rows 94 = .ok (.invokevirtual 238, 3) := by decide +kernel
theorem dX6_rows_97 : decode cX6_rows 97 = .ok (.lload 5, 2) := by decide +kernel
theorem dX6_rows_99 : decode cX6_rows 99 = .ok (.iload 4, 2) := by decide +kernel
theorem dX6_rows_101 : decode cX6_rows 101 = .ok (.invokestatic 242, 3) := by decide +kernel
theorem dX6_rows_104 : decode cX6_rows 104 = .ok (.lreturn, 1) := by decide +kernel
theorem dX6_whom_0 : decode cX6_whom 0 = .ok (.iload_n 1, 1) := by decide +kernel
theorem dX6_whom_1 : decode cX6_whom 1 = .ok (.bipush 40, 2) := by decide +kernel
theorem dX6_whom_3 : decode cX6_whom 3 = .ok (.invokestatic 100, 3) := by decide +kernel
theorem dX6_whom_6 : decode cX6_whom 6 = .ok (.ifCond .eq 11, 3) := by decide +kernel
theorem dX6_whom_9 : decode cX6_whom 9 = .ok (.iload_n 2, 1) := by decide +kernel
theorem dX6_whom_10 : decode cX6_whom 10 = .ok (.iconst 2, 1) := by decide +kernel
theorem dX6_whom_11 : decode cX6_whom 11 = .ok (.invokestatic 100, 3) := by decide +kernel
theorem dX6_whom_14 : decode cX6_whom 14 = .ok (.ifCond .ne 6, 3) := by decide +kernel
theorem dX6_whom_17 : decode cX6_whom 17 = .ok (.bipush (-2), 2) := by decide +kernel
theorem dX6_whom_19 : decode cX6_whom 19 = .ok (.ireturn, 1) := by decide +kernel
theorem dX6_whom_20 : decode cX6_whom 20 = .ok (.aload_n 0, 1) := by decide +kernel
theorem dX6_whom_21 : decode cX6_whom 21 = .ok (.iload_n 1, 1) := by decide +kernel
theorem dX6_whom_22 : decode cX6_whom 22 = .ok (.iload_n 2, 1) := by decide +kernel
theorem dX6_whom_23 : decode cX6_whom 23 = .ok (.invokevirtual 188, 3) := by decide +kernel
theorem dX6_whom_26 : decode cX6_whom 26 = .ok (.ireturn, 1) := by decide +kernel
theorem dX6_nearest_0 : decode cX6_nearest 0 = .ok (.iconst (-1), 1) := by decide +kernel
theorem dX6_nearest_1 : decode cX6_nearest 1 = .ok (.istore_n 3, 1) := by decide +kernel
theorem dX6_nearest_2 : decode cX6_nearest 2 = .ok (.iconst (-1), 1) := by decide +kernel
theorem dX6_nearest_3 : decode cX6_nearest 3 = .ok (.istore 4, 2) := by decide +kernel
theorem dX6_nearest_5 : decode cX6_nearest 5 = .ok (.iconst 0, 1) := by decide +kernel
theorem dX6_nearest_6 : decode cX6_nearest 6 = .ok (.istore 5, 2) := by decide +kernel
theorem dX6_nearest_8 : decode cX6_nearest 8 = .ok (.iload 5, 2) := by decide +kernel
theorem dX6_nearest_10 : decode cX6_nearest 10 = .ok (.aload_n 0, 1) := by decide +kernel
theorem dX6_nearest_11 : decode cX6_nearest 11 = .ok (.getfield 10, 3) := by decide +kernel
theorem dX6_nearest_14 : decode cX6_nearest 14 = .ok (.getfield 93, 3) := by decide +kernel
theorem dX6_nearest_17 : decode cX6_nearest 17 = .ok (.if_icmp .ge 74, 3) := by decide +kernel
theorem dX6_nearest_20 : decode cX6_nearest 20 = .ok (.aload_n 0, 1) := by decide +kernel
theorem dX6_nearest_21 : decode cX6_nearest 21 = .ok (.getfield 45, 3) := by decide +kernel
theorem dX6_nearest_24 : decode cX6_nearest 24 = .ok (.aload_n 0, 1) := by decide +kernel
theorem dX6_nearest_25 : decode cX6_nearest 25 = .ok (.getfield 38, 3) := by decide +kernel
theorem dX6_nearest_28 : decode cX6_nearest 28 = .ok (.aload_n 0, 1) := by decide +kernel
theorem dX6_nearest_29 : decode cX6_nearest 29 = .ok (.getfield 10, 3) := by decide +kernel
theorem dX6_nearest_32 : decode cX6_nearest 32 = .ok (.iload 5, 2) := by decide +kernel
theorem dX6_nearest_34 : decode cX6_nearest 34 = .ok (.invokevirtual 201, 3) := by decide +kernel
theorem dX6_nearest_37 : decode cX6_nearest 37 = .ok (.aload_n 0, 1) := by decide +kernel
theorem dX6_nearest_38 : decode cX6_nearest 38 = .ok (.getfield 45, 3) := by decide +kernel
theorem dX6_nearest_41 : decode cX6_nearest 41 = .ok (.aload_n 0, 1) := by decide +kernel
theorem dX6_nearest_42 : decode cX6_nearest 42 = .ok (.getfield 45, 3) := by decide +kernel
theorem dX6_nearest_45 : decode cX6_nearest 45 = .ok (.aload_n 0, 1) := by decide +kernel
theorem dX6_nearest_46 : decode cX6_nearest 46 = .ok (.getfield 38, 3) := by decide +kernel
theorem dX6_nearest_49 : decode cX6_nearest 49 = .ok (.iload_n 1, 1) := by decide +kernel
theorem dX6_nearest_50 : decode cX6_nearest 50 = .ok (.iconst 1, 1) := by decide +kernel
theorem dX6_nearest_51 : decode cX6_nearest 51 = .ok (.iadd, 1) := by decide +kernel
theorem dX6_nearest_52 : decode cX6_nearest 52 = .ok (.invokevirtual 213, 3) := by decide +kernel
theorem dX6_nearest_55 : decode cX6_nearest 55 = .ok (.invokevirtual 217, 3) := by decide +kernel
theorem dX6_nearest_58 : decode cX6_nearest 58 = .ok (.istore 6, 2) := by decide +kernel
theorem dX6_nearest_60 : decode cX6_nearest 60 = .ok (.iload 6, 2) := by decide +kernel
theorem dX6_nearest_62 : decode cX6_nearest 62 = .ok (.iconst (-1), 1) := by decide +kernel
theorem dX6_nearest_63 : decode cX6_nearest 63 = .ok (.if_icmp .eq 22, 3) := by decide +kernel
theorem dX6_nearest_66 : decode cX6_nearest 66 = .ok (.iload_n 3, 1) := by decide +kernel
theorem dX6_nearest_67 : decode cX6_nearest 67 = .ok (.iconst (-1), 1) := by decide +kernel
theorem dX6_nearest_68 : decode cX6_nearest 68 = .ok (.if_icmp .eq 10, 3) := by decide +kernel
theorem dX6_nearest_71 : decode cX6_nearest 71 = .ok (.iload 6, 2) := by decide +kernel
theorem dX6_nearest_73 : decode cX6_nearest 73 = .ok (.iload 4, 2) := by decide +kernel
theorem dX6_nearest_75 : decode cX6_nearest 75 = .ok (.if_icmp .ge 10, 3) := by decide +kernel
theorem dX6_nearest_78 : decode cX6_nearest 78 = .ok (.iload 5, 2) := by decide +kernel
theorem dX6_nearest_80 : decode cX6_nearest 80 = .ok (.istore_n 3, 1) := by decide +kernel
theorem dX6_nearest_81 : decode cX6_nearest 81 = .ok (.iload 6, 2) := by decide +kernel
theorem dX6_nearest_83 : decode cX6_nearest 83 = .ok (.istore 4, 2) := by decide +kernel
theorem dX6_nearest_85 : decode cX6_nearest 85 = .ok (.iinc 5 1, 3) := by decide +kernel
theorem dX6_nearest_88 : decode cX6_nearest 88 = .ok (.goto (-80), 3) := by decide +kernel
theorem dX6_nearest_91 : decode cX6_nearest 91 = .ok (.iload_n 2, 1) := by decide +kernel
theorem dX6_nearest_92 : decode cX6_nearest 92 = .ok (.ifCond .ne 7, 3) := by decide +kernel
theorem dX6_nearest_95 : decode cX6_nearest 95 = .ok (.iload_n 3, 1) := by decide +kernel
theorem dX6_nearest_96 : decode cX6_nearest 96 = .ok (.goto 5, 3) := by decide +kernel
theorem dX6_nearest_99 : decode cX6_nearest 99 = .ok (.iload 4, 2) := by decide +kernel
theorem dX6_nearest_101 : decode cX6_nearest 101 = .ok (.ireturn, 1) := by decide +kernel
theorem dX6_tells_0 : decode cX6_tells 0 = .ok (.iload_n 1, 1) := by decide +kernel
theorem dX6_tells_1 : decode cX6_tells 1 = .ok (.iconst 4, 1) := by decide +kernel
theorem dX6_tells_2 : decode cX6_tells 2 = .ok (.invokestatic 100, 3) := by decide +kernel
theorem dX6_tells_5 : decode cX6_tells 5 = .ok (.ifCond .eq 23, 3) := by decide +kernel
theorem dX6_tells_8 : decode cX6_tells 8 = .ok (.aload_n 0, 1) := by decide +kernel
theorem dX6_tells_9 : decode cX6_tells 9 = .ok (.getfield 10, 3) := by decide +kernel
theorem dX6_tells_12 : decode cX6_tells 12 = .ok (.iload_n 2, 1) := by decide +kernel
theorem dX6_tells_13 : decode cX6_tells 13 = .ok (.invokevirtual 125, 3) := by decide +kernel
theorem dX6_tells_16 : decode cX6_tells 16 = .ok (.ifCond .eq 12, 3) := by decide +kernel
theorem dX6_tells_19 : decode cX6_tells 19 = .ok (.iload_n 3, 1) := by decide +kernel
theorem dX6_tells_20 : decode cX6_tells 20 = .ok (.bipush 8, 2) := by decide +kernel
theorem dX6_tells_22 : decode cX6_tells 22 = .ok (.invokestatic 100, 3) := by decide +kernel
theorem dX6_tells_25 : decode cX6_tells 25 = .ok (.ifCond .ne 6, 3) := by decide +kernel
theorem dX6_tells_28 : decode cX6_tells 28 = .ok (.bipush (-2), 2) := by decide +kernel
theorem dX6_tells_30 : decode cX6_tells 30 = .ok (.ireturn, 1) := by decide +kernel
theorem dX6_tells_31 : decode cX6_tells 31 = .ok (.aload_n 0, 1) := by decide +kernel
theorem dX6_tells_32 : decode cX6_tells 32 = .ok (.getfield 52, 3) := by decide +kernel
theorem dX6_tells_35 : decode cX6_tells 35 = .ok (.iload_n 1, 1) := by decide +kernel
theorem dX6_tells_36 : decode cX6_tells 36 = .ok (.aaload, 1) := by decide +kernel
theorem dX6_tells_37 : decode cX6_tells 37 = .ok (.astore 4, 2) := by decide +kernel
theorem dX6_tells_39 : decode cX6_tells 39 = .ok (.aload 4, 2) := by decide +kernel
theorem dX6_tells_41 : decode cX6_tells 41 = .ok (.invokevirtual 246, 3) := by decide +kernel
theorem dX6_tells_44 : decode cX6_tells 44 = .ok (.ifCond .eq 6, 3) := by decide +kernel
theorem dX6_tells_47 : decode cX6_tells 47 = .ok (.bipush (-11), 2) := by decide +kernel
theorem dX6_tells_49 : decode cX6_tells 49 = .ok (.ireturn, 1) := by decide +kernel
theorem dX6_tells_50 : decode cX6_tells 50 = .ok (.aload_n 0, 1) := by decide +kernel
theorem dX6_tells_51 : decode cX6_tells 51 = .ok (.getfield 38, 3) := by decide +kernel
theorem dX6_tells_54 : decode cX6_tells 54 = .ok (.aload_n 0, 1) := by decide +kernel
theorem dX6_tells_55 : decode cX6_tells 55 = .ok (.getfield 10, 3) := by decide +kernel
theorem dX6_tells_58 : decode cX6_tells 58 = .ok (.iload_n 2, 1) := by decide +kernel
theorem dX6_tells_59 : decode cX6_tells 59 = .ok (.invokevirtual 128, 3) := by decide +kernel
theorem dX6_tells_62 : decode cX6_tells 62 = .ok (.aload_n 0, 1) := by decide +kernel
theorem dX6_tells_63 : decode cX6_tells 63 = .ok (.getfield 10, 3) := by decide +kernel
theorem dX6_tells_66 : decode cX6_tells 66 = .ok (.iload_n 2, 1) := by decide +kernel
theorem dX6_tells_67 : decode cX6_tells 67 = .ok (.invokevirtual 132, 3) := by decide +kernel
theorem dX6_tells_70 : decode cX6_tells 70 = .ok (.istore 5, 2) := by decide +kernel
theorem dX6_tells_72 : decode cX6_tells 72 = .ok (.iload_n 3, 1) := by decide +kernel
theorem dX6_tells_73 : decode cX6_tells 73 = .ok (.tableswitch 102 0 6 #[43, 52, 61, 70, 77, 84, 93], 43) := by decide +kernel
theorem dX6_tells_116 : decode cX6_tells 116 = .ok (.aload_n 0, 1) := by decide +kernel
theorem dX6_tells_117 : decode cX6_tells 117 = .ok (.aload 4, 2) := by decide +kernel
theorem dX6_tells_119 : decode cX6_tells 119 = .ok (.iload 5, 2) := by decide +kernel
theorem dX6_tells_121 : decode cX6_tells 121 = .ok (.invokevirtual 250, 3) := by decide +kernel
theorem dX6_tells_124 : decode cX6_tells 124 = .ok (.ireturn, 1) := by decide +kernel
theorem dX6_tells_125 : decode cX6_tells 125 = .ok (.aload_n 0, 1) := by decide +kernel
theorem dX6_tells_126 : decode cX6_tells 126 = .ok (.aload 4, 2) := by decide +kernel
theorem dX6_tells_128 : decode cX6_tells 128 = .ok (.iload 5, 2) := by decide +kernel
theorem dX6_tells_130 : decode cX6_tells 130 = .ok (.invokevirtual 254, 3) := by decide +kernel
theorem dX6_tells_133 : decode cX6_tells 133 = .ok (.ireturn, 1) := by decide +kernel
theorem dX6_tells_134 : decode cX6_tells 134 = .ok (.aload_n 0, 1) := by decide +kernel
theorem dX6_tells_135 : decode cX6_tells 135 = .ok (.aload 4, 2) := by decide +kernel
theorem dX6_tells_137 : decode cX6_tells 137 = .ok (.iload 5, 2) := by decide +kernel
theorem dX6_tells_139 : decode cX6_tells 139 = .ok (.invokevirtual 257, 3) := by decide +kernel
theorem dX6_tells_142 : decode cX6_tells 142 = .ok (.ireturn, 1) := by decide +kernel
theorem dX6_tells_143 : decode cX6_tells 143 = .ok (.aload_n 0, 1) := by decide +kernel
theorem dX6_tells_144 : decode cX6_tells 144 = .ok (.aload 4, 2) := by decide +kernel
theorem dX6_tells_146 : decode cX6_tells 146 = .ok (.invokevirtual 260, 3) := by decide +kernel
theorem dX6_tells_149 : decode cX6_tells 149 = .ok (.ireturn, 1) := by decide +kernel
theorem dX6_tells_150 : decode cX6_tells 150 = .ok (.aload_n 0, 1) := by decide +kernel
theorem dX6_tells_151 : decode cX6_tells 151 = .ok (.aload 4, 2) := by decide +kernel
theorem dX6_tells_153 : decode cX6_tells 153 = .ok (.invokevirtual 264, 3) := by decide +kernel
theorem dX6_tells_156 : decode cX6_tells 156 = .ok (.ireturn, 1) := by decide +kernel
theorem dX6_tells_157 : decode cX6_tells 157 = .ok (.aload_n 0, 1) := by decide +kernel
theorem dX6_tells_158 : decode cX6_tells 158 = .ok (.aload 4, 2) := by decide +kernel
theorem dX6_tells_160 : decode cX6_tells 160 = .ok (.iload 5, 2) := by decide +kernel
theorem dX6_tells_162 : decode cX6_tells 162 = .ok (.invokevirtual 267, 3) := by decide +kernel
theorem dX6_tells_165 : decode cX6_tells 165 = .ok (.ireturn, 1) := by decide +kernel
theorem dX6_tells_166 : decode cX6_tells 166 = .ok (.aload_n 0, 1) := by decide +kernel
theorem dX6_tells_167 : decode cX6_tells 167 = .ok (.aload 4, 2) := by decide +kernel
theorem dX6_tells_169 : decode cX6_tells 169 = .ok (.iload 5, 2) := by decide +kernel
theorem dX6_tells_171 : decode cX6_tells 171 = .ok (.invokevirtual 270, 3) := by decide +kernel
theorem dX6_tells_174 : decode cX6_tells 174 = .ok (.ireturn, 1) := by decide +kernel
theorem dX6_tells_175 : decode cX6_tells 175 = .ok (.aload_n 0, 1) := by decide +kernel
theorem dX6_tells_176 : decode cX6_tells 176 = .ok (.aload 4, 2) := by decide +kernel
theorem dX6_tells_178 : decode cX6_tells 178 = .ok (.invokevirtual 273, 3) := by decide +kernel
theorem dX6_tells_181 : decode cX6_tells 181 = .ok (.ireturn, 1) := by decide +kernel
theorem dX6_firstOtherwise_0 : decode cX6_firstOtherwise 0 = .ok (.iload_n 2, 1) := by decide +kernel
theorem dX6_firstOtherwise_1 : decode cX6_firstOtherwise 1 = .ok (.istore_n 3, 1) := by decide +kernel
theorem dX6_firstOtherwise_2 : decode cX6_firstOtherwise 2 = .ok (.iconst 0, 1) := by decide +kernel
theorem dX6_firstOtherwise_3 : decode cX6_firstOtherwise 3 = .ok (.istore 4, 2) := by decide +kernel
theorem dX6_firstOtherwise_5 : decode cX6_firstOtherwise 5 = .ok (.iload 4, 2) := by decide +kernel
theorem dX6_firstOtherwise_7 : decode cX6_firstOtherwise 7 = .ok (.aload_n 1, 1) := by decide +kernel
theorem dX6_firstOtherwise_8 : decode cX6_firstOtherwise 8 = .ok (.getfield 276, 3) := by decide +kernel
theorem dX6_firstOtherwise_11 : decode cX6_firstOtherwise 11 = .ok (.if_icmp .ge 38, 3) := by decide +kernel
theorem dX6_firstOtherwise_14 : decode cX6_firstOtherwise 14 = .ok (.aload_n 0, 1) := by decide +kernel
theorem dX6_firstOtherwise_15 : decode cX6_firstOtherwise 15 = .ok (.getfield 38, 3) := by decide +kernel
theorem dX6_firstOtherwise_18 : decode cX6_firstOtherwise 18 = .ok (.iload_n 3, 1) := by decide +kernel
theorem dX6_firstOtherwise_19 : decode cX6_firstOtherwise 19 = .ok (.invokevirtual 138, 3) := by decide +kernel
theorem dX6_firstOtherwise_22 : decode cX6_firstOtherwise 22 = .ok (.aload_n 1, 1) := by decide +kernel
theorem dX6_firstOtherwise_23 : decode cX6_firstOtherwise 23 = .ok (.iload 4, 2) := by decide +kernel
theorem dX6_firstOtherwise_25 : decode cX6_firstOtherwise 25 = .ok (.invokevirtual 277, 3) := by decide +kernel
theorem dX6_firstOtherwise_28 : decode cX6_firstOtherwise 28 = .ok (.if_icmp .eq 6, 3) := by decide +kernel
theorem dX6_firstOtherwise_31 : decode cX6_firstOtherwise 31 = .ok (.iload 4, 2) := by decide +kernel
theorem dX6_firstOtherwise_33 : decode cX6_firstOtherwise 33 = .ok (.ireturn, 1) := by decide +kernel
theorem dX6_firstOtherwise_34 : decode cX6_firstOtherwise 34 = .ok (.aload_n 0, 1) := by decide +kernel
theorem dX6_firstOtherwise_35 : decode cX6_firstOtherwise 35 = .ok (.getfield 38, 3) := by decide +kernel
theorem dX6_firstOtherwise_38 : decode cX6_firstOtherwise 38 = .ok (.iload_n 3, 1) := by decide +kernel
theorem dX6_firstOtherwise_39 : decode cX6_firstOtherwise 39 = .ok (.invokevirtual 159, 3) := by decide +kernel
theorem dX6_firstOtherwise_42 : decode cX6_firstOtherwise 42 = .ok (.istore_n 3, 1) := by decide +kernel
theorem dX6_firstOtherwise_43 : decode cX6_firstOtherwise 43 = .ok (.iinc 4 1, 3) := by decide +kernel
theorem dX6_firstOtherwise_46 : decode cX6_firstOtherwise 46 = .ok (.goto (-41), 3) := by decide +kernel
theorem dX6_firstOtherwise_49 : decode cX6_firstOtherwise 49 = .ok (.iconst (-1), 1) := by decide +kernel
theorem dX6_firstOtherwise_50 : decode cX6_firstOtherwise 50 = .ok (.ireturn, 1) := by decide +kernel
theorem dX6_fittingKinds_0 : decode cX6_fittingKinds 0 = .ok (.iconst 0, 1) := by decide +kernel
theorem dX6_fittingKinds_1 : decode cX6_fittingKinds 1 = .ok (.istore_n 3, 1) := by decide +kernel
theorem dX6_fittingKinds_2 : decode cX6_fittingKinds 2 = .ok (.iconst 0, 1) := by decide +kernel
theorem dX6_fittingKinds_3 : decode cX6_fittingKinds 3 = .ok (.istore 4, 2) := by decide +kernel
theorem dX6_fittingKinds_5 : decode cX6_fittingKinds 5 = .ok (.iload 4, 2) := by decide +kernel
theorem dX6_fittingKinds_7 : decode cX6_fittingKinds 7 = .ok (.bipush 6, 2) := by decide +kernel
theorem dX6_fittingKinds_9 : decode cX6_fittingKinds 9 = .ok (.if_icmp .ge 39, 3) := by decide +kernel
theorem dX6_fittingKinds_12 : decode cX6_fittingKinds 12 = .ok (.aload_n 0, 1) := by decide +kernel
theorem dX6_fittingKinds_13 : decode cX6_fittingKinds 13 = .ok (.getfield 38, 3) := by decide +kernel
theorem dX6_fittingKinds_16 : decode cX6_fittingKinds 16 = .ok (.iload 4, 2) := by decide +kernel
theorem dX6_fittingKinds_18 : decode cX6_fittingKinds 18 = .ok (.putfield 280, 3) := by decide +kernel
theorem dX6_fittingKinds_21 : decode cX6_fittingKinds 21 = .ok (.iload_n 3, 1) := by decide +kernel
theorem dX6_fittingKinds_22 : decode cX6_fittingKinds 22 = .ok (.aload_n 0, 1) := by decide +kernel
theorem dX6_fittingKinds_23 : decode cX6_fittingKinds 23 = .ok (.aload_n 1, 1) := by decide +kernel
theorem dX6_fittingKinds_24 : decode cX6_fittingKinds 24 = .ok (.iload_n 2, 1) := by decide +kernel
theorem dX6_fittingKinds_25 : decode cX6_fittingKinds 25 = .ok (.invokevirtual 250, 3) := by decide +kernel
theorem dX6_fittingKinds_28 : decode cX6_fittingKinds 28 = .ok (.iconst (-1), 1) := by decide +kernel
theorem dX6_fittingKinds_29 : decode cX6_fittingKinds 29 = .ok (.if_icmp .ne 10, 3) := by decide +kernel
theorem dX6_fittingKinds_32 : decode cX6_fittingKinds 32 = .ok (.iconst 1, 1) := by decide +kernel
theorem dX6_fittingKinds_33 : decode cX6_fittingKinds 33 = .ok (.iload 4, 2) := by decide +kernel
theorem dX6_fittingKinds_35 : decode cX6_fittingKinds 35 = .ok (.ishl, 1) := by decide +kernel
theorem dX6_fittingKinds_36 : decode cX6_fittingKinds 36 = .ok (.goto 4, 3) := by decide +kernel
theorem dX6_fittingKinds_39 : decode cX6_fittingKinds 39 = .ok (.iconst 0, 1) := by decide +kernel
theorem dX6_fittingKinds_40 : decode cX6_fittingKinds 40 = .ok (.ior, 1) := by decide +kernel
theorem dX6_fittingKinds_41 : decode cX6_fittingKinds 41 = .ok (.istore_n 3, 1) := by decide +kernel
theorem dX6_fittingKinds_42 : decode cX6_fittingKinds 42 = .ok (.iinc 4 1, 3) := by decide +kernel
theorem dX6_fittingKinds_45 : decode cX6_fittingKinds 45 = .ok (.goto (-40), 3) := by decide +kernel
theorem dX6_fittingKinds_48 : decode cX6_fittingKinds 48 = .ok (.iload_n 3, 1) := by decide +kernel
theorem dX6_fittingKinds_49 : decode cX6_fittingKinds 49 = .ok (.ireturn, 1) := by decide +kernel
theorem dX6_fittingNumbers_0 : decode cX6_fittingNumbers 0 = .ok (.iconst 0, 1) := by decide +kernel
theorem dX6_fittingNumbers_1 : decode cX6_fittingNumbers 1 = .ok (.istore_n 3, 1) := by decide +kernel
theorem dX6_fittingNumbers_2 : decode cX6_fittingNumbers 2 = .ok (.iconst 0, 1) := by decide +kernel
theorem dX6_fittingNumbers_3 : decode cX6_fittingNumbers 3 = .ok (.istore 4, 2) := by decide +kernel
theorem dX6_fittingNumbers_5 : decode cX6_fittingNumbers 5 = .ok (.iload 4, 2) := by decide +kernel
theorem dX6_fittingNumbers_7 : decode cX6_fittingNumbers 7 = .ok (.bipush 10, 2) := by decide +kernel
theorem dX6_fittingNumbers_9 : decode cX6_fittingNumbers 9 = .ok (.if_icmp .ge 39, 3) := by decide +kernel
theorem dX6_fittingNumbers_12 : decode cX6_fittingNumbers 12 = .ok (.aload_n 0, 1) := by decide +kernel
theorem dX6_fittingNumbers_13 : decode cX6_fittingNumbers 13 = .ok (.getfield 38, 3) := by decide +kernel
theorem dX6_fittingNumbers_16 : decode cX6_fittingNumbers 16 = .ok (.iload 4, 2) := by decide +kernel
theorem dX6_fittingNumbers_18 : decode cX6_fittingNumbers 18 = .ok (.invokevirtual 283, 3) := by decide +kernel
theorem dX6_fittingNumbers_21 : decode cX6_fittingNumbers 21 = .ok (.iload_n 3, 1) := by decide +kernel
theorem dX6_fittingNumbers_22 : decode cX6_fittingNumbers 22 = .ok (.aload_n 0, 1) := by decide +kernel
theorem dX6_fittingNumbers_23 : decode cX6_fittingNumbers 23 = .ok (.aload_n 1, 1) := by decide +kernel
theorem dX6_fittingNumbers_24 : decode cX6_fittingNumbers 24 = .ok (.iload_n 2, 1) := by decide +kernel
theorem dX6_fittingNumbers_25 : decode cX6_fittingNumbers 25 = .ok (.invokevirtual 250, 3) := by decide +kernel
theorem dX6_fittingNumbers_28 : decode cX6_fittingNumbers 28 = .ok (.iconst (-1), 1) := by decide +kernel
theorem dX6_fittingNumbers_29 : decode cX6_fittingNumbers 29 = .ok (.if_icmp .ne 10, 3) := by decide +kernel
theorem dX6_fittingNumbers_32 : decode cX6_fittingNumbers 32 = .ok (.iconst 1, 1) := by decide +kernel
theorem dX6_fittingNumbers_33 : decode cX6_fittingNumbers 33 = .ok (.iload 4, 2) := by decide +kernel
theorem dX6_fittingNumbers_35 : decode cX6_fittingNumbers 35 = .ok (.ishl, 1) := by decide +kernel
theorem dX6_fittingNumbers_36 : decode cX6_fittingNumbers 36 = .ok (.goto 4, 3) := by decide +kernel
theorem dX6_fittingNumbers_39 : decode cX6_fittingNumbers 39 = .ok (.iconst 0, 1) := by decide +kernel
theorem dX6_fittingNumbers_40 : decode cX6_fittingNumbers 40 = .ok (.ior, 1) := by decide +kernel
theorem dX6_fittingNumbers_41 : decode cX6_fittingNumbers 41 = .ok (.istore_n 3, 1) := by decide +kernel
theorem dX6_fittingNumbers_42 : decode cX6_fittingNumbers 42 = .ok (.iinc 4 1, 3) := by decide +kernel
theorem dX6_fittingNumbers_45 : decode cX6_fittingNumbers 45 = .ok (.goto (-40), 3) := by decide +kernel
theorem dX6_fittingNumbers_48 : decode cX6_fittingNumbers 48 = .ok (.iload_n 3, 1) := by decide +kernel
theorem dX6_fittingNumbers_49 : decode cX6_fittingNumbers 49 = .ok (.ireturn, 1) := by decide +kernel
theorem dX6_fittingAngers_0 : decode cX6_fittingAngers 0 = .ok (.iconst 0, 1) := by decide +kernel
theorem dX6_fittingAngers_1 : decode cX6_fittingAngers 1 = .ok (.istore_n 2, 1) := by decide +kernel
theorem dX6_fittingAngers_2 : decode cX6_fittingAngers 2 = .ok (.iconst 0, 1) := by decide +kernel
theorem dX6_fittingAngers_3 : decode cX6_fittingAngers 3 = .ok (.istore_n 3, 1) := by decide +kernel
theorem dX6_fittingAngers_4 : decode cX6_fittingAngers 4 = .ok (.iload_n 3, 1) := by decide +kernel
theorem dX6_fittingAngers_5 : decode cX6_fittingAngers 5 = .ok (.bipush 100, 2) := by decide +kernel
theorem dX6_fittingAngers_7 : decode cX6_fittingAngers 7 = .ok (.if_icmp .ge 27, 3) := by decide +kernel
theorem dX6_fittingAngers_10 : decode cX6_fittingAngers 10 = .ok (.iload_n 2, 1) := by decide +kernel
theorem dX6_fittingAngers_11 : decode cX6_fittingAngers 11 = .ok (.aload_n 0, 1) := by decide +kernel
theorem dX6_fittingAngers_12 : decode cX6_fittingAngers 12 = .ok (.aload_n 1, 1) := by decide +kernel
theorem dX6_fittingAngers_13 : decode cX6_fittingAngers 13 = .ok (.iload_n 3, 1) := by decide +kernel
theorem dX6_fittingAngers_14 : decode cX6_fittingAngers 14 = .ok (.invokevirtual 250, 3) := by decide +kernel
theorem dX6_fittingAngers_17 : decode cX6_fittingAngers 17 = .ok (.iconst (-1), 1) := by decide +kernel
theorem dX6_fittingAngers_18 : decode cX6_fittingAngers 18 = .ok (.if_icmp .ne 7, 3) := by decide +kernel
theorem dX6_fittingAngers_21 : decode cX6_fittingAngers 21 = .ok (.iconst 1, 1) := by decide +kernel
theorem dX6_fittingAngers_22 : decode cX6_fittingAngers 22 = .ok (.goto 4, 3) := by decide +kernel
theorem dX6_fittingAngers_25 : decode cX6_fittingAngers 25 = .ok (.iconst 0, 1) := by decide +kernel
theorem dX6_fittingAngers_26 : decode cX6_fittingAngers 26 = .ok (.iadd, 1) := by decide +kernel
theorem dX6_fittingAngers_27 : decode cX6_fittingAngers 27 = .ok (.istore_n 2, 1) := by decide +kernel
theorem dX6_fittingAngers_28 : decode cX6_fittingAngers 28 = .ok (.iinc 3 1, 3) := by decide +kernel
theorem dX6_fittingAngers_31 : decode cX6_fittingAngers 31 = .ok (.goto (-27), 3) := by decide +kernel
theorem dX6_fittingAngers_34 : decode cX6_fittingAngers 34 = .ok (.iload_n 2, 1) := by decide +kernel
theorem dX6_fittingAngers_35 : decode cX6_fittingAngers 35 = .ok (.ireturn, 1) := by decide +kernel
theorem dX6_leastFittingAnger_0 : decode cX6_leastFittingAnger 0 = .ok (.iconst 0, 1) := by decide +kernel
theorem dX6_leastFittingAnger_1 : decode cX6_leastFittingAnger 1 = .ok (.istore_n 2, 1) := by decide +kernel
theorem dX6_leastFittingAnger_2 : decode cX6_leastFittingAnger 2 = .ok (.iload_n 2, 1) := by decide +kernel
theorem dX6_leastFittingAnger_3 : decode cX6_leastFittingAnger 3 = .ok (.bipush 100, 2) := by decide +kernel
theorem dX6_leastFittingAnger_5 : decode cX6_leastFittingAnger 5 = .ok (.if_icmp .ge 21, 3) := by decide +kernel
theorem dX6_leastFittingAnger_8 : decode cX6_leastFittingAnger 8 = .ok (.aload_n 0, 1) := by decide +kernel
theorem dX6_leastFittingAnger_9 : decode cX6_leastFittingAnger 9 = .ok (.aload_n 1, 1) := by decide +kernel
theorem dX6_leastFittingAnger_10 : decode cX6_leastFittingAnger 10 = .ok (.iload_n 2, 1) := by decide +kernel
theorem dX6_leastFittingAnger_11 : decode cX6_leastFittingAnger 11 = .ok (.invokevirtual 250, 3) := by decide +kernel
theorem dX6_leastFittingAnger_14 : decode cX6_leastFittingAnger 14 = .ok (.iconst (-1), 1) := by decide +kernel
theorem dX6_leastFittingAnger_15 : decode cX6_leastFittingAnger 15 = .ok (.if_icmp .ne 5, 3) := by decide +kernel
theorem dX6_leastFittingAnger_18 : decode cX6_leastFittingAnger 18 = .ok (.iload_n 2, 1) := by decide +kernel
theorem dX6_leastFittingAnger_19 : decode cX6_leastFittingAnger 19 = .ok (.ireturn, 1) := by decide +kernel
theorem dX6_leastFittingAnger_20 : decode cX6_leastFittingAnger 20 = .ok (.iinc 2 1, 3) := by decide +kernel
theorem dX6_leastFittingAnger_23 : decode cX6_leastFittingAnger 23 = .ok (.goto (-21), 3) := by decide +kernel
theorem dX6_leastFittingAnger_26 : decode cX6_leastFittingAnger 26 = .ok (.iconst (-1), 1) := by decide +kernel
theorem dX6_leastFittingAnger_27 : decode cX6_leastFittingAnger 27 = .ok (.ireturn, 1) := by decide +kernel
theorem dX6_fittingTexts_0 : decode cX6_fittingTexts 0 = .ok (.iconst 0, 1) := by decide +kernel
theorem dX6_fittingTexts_1 : decode cX6_fittingTexts 1 = .ok (.istore_n 3, 1) := by decide +kernel
theorem dX6_fittingTexts_2 : decode cX6_fittingTexts 2 = .ok (.iconst 0, 1) := by decide +kernel
theorem dX6_fittingTexts_3 : decode cX6_fittingTexts 3 = .ok (.istore 4, 2) := by decide +kernel
theorem dX6_fittingTexts_5 : decode cX6_fittingTexts 5 = .ok (.iload 4, 2) := by decide +kernel
theorem dX6_fittingTexts_7 : decode cX6_fittingTexts 7 = .ok (.aload_n 0, 1) := by decide +kernel
theorem dX6_fittingTexts_8 : decode cX6_fittingTexts 8 = .ok (.getfield 22, 3) := by decide +kernel
theorem dX6_fittingTexts_11 : decode cX6_fittingTexts 11 = .ok (.getfield 145, 3) := by decide +kernel
theorem dX6_fittingTexts_14 : decode cX6_fittingTexts 14 = .ok (.if_icmp .ge 39, 3) := by decide +kernel
theorem dX6_fittingTexts_17 : decode cX6_fittingTexts 17 = .ok (.aload_n 0, 1) := by decide +kernel
theorem dX6_fittingTexts_18 : decode cX6_fittingTexts 18 = .ok (.getfield 38, 3) := by decide +kernel
theorem dX6_fittingTexts_21 : decode cX6_fittingTexts 21 = .ok (.iload 4, 2) := by decide +kernel
theorem dX6_fittingTexts_23 : decode cX6_fittingTexts 23 = .ok (.putfield 287, 3) := by decide +kernel
theorem dX6_fittingTexts_26 : decode cX6_fittingTexts 26 = .ok (.iload_n 3, 1) := by decide +kernel
theorem dX6_fittingTexts_27 : decode cX6_fittingTexts 27 = .ok (.aload_n 0, 1) := by decide +kernel
theorem dX6_fittingTexts_28 : decode cX6_fittingTexts 28 = .ok (.aload_n 1, 1) := by decide +kernel
theorem dX6_fittingTexts_29 : decode cX6_fittingTexts 29 = .ok (.iload_n 2, 1) := by decide +kernel
theorem dX6_fittingTexts_30 : decode cX6_fittingTexts 30 = .ok (.invokevirtual 250, 3) := by decide +kernel
theorem dX6_fittingTexts_33 : decode cX6_fittingTexts 33 = .ok (.iconst (-1), 1) := by decide +kernel
theorem dX6_fittingTexts_34 : decode cX6_fittingTexts 34 = .ok (.if_icmp .ne 10, 3) := by decide +kernel
theorem dX6_fittingTexts_37 : decode cX6_fittingTexts 37 = .ok (.iconst 1, 1) := by decide +kernel
theorem dX6_fittingTexts_38 : decode cX6_fittingTexts 38 = .ok (.iload 4, 2) := by decide +kernel
theorem dX6_fittingTexts_40 : decode cX6_fittingTexts 40 = .ok (.ishl, 1) := by decide +kernel
theorem dX6_fittingTexts_41 : decode cX6_fittingTexts 41 = .ok (.goto 4, 3) := by decide +kernel
theorem dX6_fittingTexts_44 : decode cX6_fittingTexts 44 = .ok (.iconst 0, 1) := by decide +kernel
theorem dX6_fittingTexts_45 : decode cX6_fittingTexts 45 = .ok (.ior, 1) := by decide +kernel
theorem dX6_fittingTexts_46 : decode cX6_fittingTexts 46 = .ok (.istore_n 3, 1) := by decide +kernel
theorem dX6_fittingTexts_47 : decode cX6_fittingTexts 47 = .ok (.iinc 4 1, 3) := by decide +kernel
theorem dX6_fittingTexts_50 : decode cX6_fittingTexts 50 = .ok (.goto (-45), 3) := by decide +kernel
theorem dX6_fittingTexts_53 : decode cX6_fittingTexts 53 = .ok (.iload_n 3, 1) := by decide +kernel
theorem dX6_fittingTexts_54 : decode cX6_fittingTexts 54 = .ok (.ireturn, 1) := by decide +kernel
theorem dX6_fittingWords_0 : decode cX6_fittingWords 0 = .ok (.iconst 0, 1) := by decide +kernel
theorem dX6_fittingWords_1 : decode cX6_fittingWords 1 = .ok (.istore_n 3, 1) := by decide +kernel
theorem dX6_fittingWords_2 : decode cX6_fittingWords 2 = .ok (.iconst 0, 1) := by decide +kernel
theorem dX6_fittingWords_3 : decode cX6_fittingWords 3 = .ok (.istore 4, 2) := by decide +kernel
theorem dX6_fittingWords_5 : decode cX6_fittingWords 5 = .ok (.iload 4, 2) := by decide +kernel
theorem dX6_fittingWords_7 : decode cX6_fittingWords 7 = .ok (.bipush 6, 2) := by decide +kernel
theorem dX6_fittingWords_9 : decode cX6_fittingWords 9 = .ok (.if_icmp .ge 39, 3) := by decide +kernel
theorem dX6_fittingWords_12 : decode cX6_fittingWords 12 = .ok (.iload_n 3, 1) := by decide +kernel
theorem dX6_fittingWords_13 : decode cX6_fittingWords 13 = .ok (.aload_n 0, 1) := by decide +kernel
theorem dX6_fittingWords_14 : decode cX6_fittingWords 14 = .ok (.aload_n 1, 1) := by decide +kernel
theorem dX6_fittingWords_15 : decode cX6_fittingWords 15 = .ok (.aload_n 0, 1) := by decide +kernel
theorem dX6_fittingWords_16 : decode cX6_fittingWords 16 = .ok (.getfield 38, 3) := by decide +kernel
theorem dX6_fittingWords_19 : decode cX6_fittingWords 19 = .ok (.iload_n 2, 1) := by decide +kernel
theorem dX6_fittingWords_20 : decode cX6_fittingWords 20 = .ok (.iload 4, 2) := by decide +kernel
theorem dX6_fittingWords_22 : decode cX6_fittingWords 22 = .ok (.invokevirtual 149, 3) := by decide +kernel
theorem dX6_fittingWords_25 : decode cX6_fittingWords 25 = .ok (.invokevirtual 250, 3) := by decide +kernel
theorem dX6_fittingWords_28 : decode cX6_fittingWords 28 = .ok (.iconst (-1), 1) := by decide +kernel
theorem dX6_fittingWords_29 : decode cX6_fittingWords 29 = .ok (.if_icmp .ne 10, 3) := by decide +kernel
theorem dX6_fittingWords_32 : decode cX6_fittingWords 32 = .ok (.iconst 1, 1) := by decide +kernel
theorem dX6_fittingWords_33 : decode cX6_fittingWords 33 = .ok (.iload 4, 2) := by decide +kernel
theorem dX6_fittingWords_35 : decode cX6_fittingWords 35 = .ok (.ishl, 1) := by decide +kernel
theorem dX6_fittingWords_36 : decode cX6_fittingWords 36 = .ok (.goto 4, 3) := by decide +kernel
theorem dX6_fittingWords_39 : decode cX6_fittingWords 39 = .ok (.iconst 0, 1) := by decide +kernel
theorem dX6_fittingWords_40 : decode cX6_fittingWords 40 = .ok (.ior, 1) := by decide +kernel
theorem dX6_fittingWords_41 : decode cX6_fittingWords 41 = .ok (.istore_n 3, 1) := by decide +kernel
theorem dX6_fittingWords_42 : decode cX6_fittingWords 42 = .ok (.iinc 4 1, 3) := by decide +kernel
theorem dX6_fittingWords_45 : decode cX6_fittingWords 45 = .ok (.goto (-40), 3) := by decide +kernel
theorem dX6_fittingWords_48 : decode cX6_fittingWords 48 = .ok (.iload_n 3, 1) := by decide +kernel
theorem dX6_fittingWords_49 : decode cX6_fittingWords 49 = .ok (.ireturn, 1) := by decide +kernel
theorem dX6_fittingPairs_0 : decode cX6_fittingPairs 0 = .ok (.iconst 0, 1) := by decide +kernel
theorem dX6_fittingPairs_1 : decode cX6_fittingPairs 1 = .ok (.istore_n 2, 1) := by decide +kernel
theorem dX6_fittingPairs_2 : decode cX6_fittingPairs 2 = .ok (.iconst 0, 1) := by decide +kernel
theorem dX6_fittingPairs_3 : decode cX6_fittingPairs 3 = .ok (.istore_n 3, 1) := by decide +kernel
theorem dX6_fittingPairs_4 : decode cX6_fittingPairs 4 = .ok (.iload_n 3, 1) := by decide +kernel
theorem dX6_fittingPairs_5 : decode cX6_fittingPairs 5 = .ok (.aload_n 0, 1) := by decide +kernel
theorem dX6_fittingPairs_6 : decode cX6_fittingPairs 6 = .ok (.getfield 10, 3) := by decide +kernel
theorem dX6_fittingPairs_9 : decode cX6_fittingPairs 9 = .ok (.getfield 93, 3) := by decide +kernel
theorem dX6_fittingPairs_12 : decode cX6_fittingPairs 12 = .ok (.if_icmp .ge 48, 3) := by decide +kernel
theorem dX6_fittingPairs_15 : decode cX6_fittingPairs 15 = .ok (.aload_n 0, 1) := by decide +kernel
theorem dX6_fittingPairs_16 : decode cX6_fittingPairs 16 = .ok (.getfield 38, 3) := by decide +kernel
theorem dX6_fittingPairs_19 : decode cX6_fittingPairs 19 = .ok (.aload_n 0, 1) := by decide +kernel
theorem dX6_fittingPairs_20 : decode cX6_fittingPairs 20 = .ok (.getfield 10, 3) := by decide +kernel
theorem dX6_fittingPairs_23 : decode cX6_fittingPairs 23 = .ok (.iload_n 3, 1) := by decide +kernel
theorem dX6_fittingPairs_24 : decode cX6_fittingPairs 24 = .ok (.invokevirtual 128, 3) := by decide +kernel
theorem dX6_fittingPairs_27 : decode cX6_fittingPairs 27 = .ok (.iload_n 2, 1) := by decide +kernel
theorem dX6_fittingPairs_28 : decode cX6_fittingPairs 28 = .ok (.aload_n 0, 1) := by decide +kernel
theorem dX6_fittingPairs_29 : decode cX6_fittingPairs 29 = .ok (.aload_n 1, 1) := by decide +kernel
theorem dX6_fittingPairs_30 : decode cX6_fittingPairs 30 = .ok (.aload_n 0, 1) := by decide +kernel
theorem dX6_fittingPairs_31 : decode cX6_fittingPairs 31 = .ok (.getfield 10, 3) := by decide +kernel
theorem dX6_fittingPairs_34 : decode cX6_fittingPairs 34 = .ok (.iload_n 3, 1) := by decide +kernel
theorem dX6_fittingPairs_35 : decode cX6_fittingPairs 35 = .ok (.invokevirtual 132, 3) := by decide +kernel
theorem dX6_fittingPairs_38 : decode cX6_fittingPairs 38 = .ok (.invokevirtual 250, 3) := by decide +kernel
theorem dX6_fittingPairs_41 : decode cX6_fittingPairs 41 = .ok (.iconst (-1), 1) := by decide +kernel
theorem dX6_fittingPairs_42 : decode cX6_fittingPairs 42 = .ok (.if_icmp .ne 9, 3) := by decide +kernel
theorem dX6_fittingPairs_45 : decode cX6_fittingPairs 45 = .ok (.iconst 1, 1) := by decide +kernel
theorem dX6_fittingPairs_46 : decode cX6_fittingPairs 46 = .ok (.iload_n 3, 1) := by decide +kernel
theorem dX6_fittingPairs_47 : decode cX6_fittingPairs 47 = .ok (.ishl, 1) := by decide +kernel
theorem dX6_fittingPairs_48 : decode cX6_fittingPairs 48 = .ok (.goto 4, 3) := by decide +kernel
theorem dX6_fittingPairs_51 : decode cX6_fittingPairs 51 = .ok (.iconst 0, 1) := by decide +kernel
theorem dX6_fittingPairs_52 : decode cX6_fittingPairs 52 = .ok (.ior, 1) := by decide +kernel
theorem dX6_fittingPairs_53 : decode cX6_fittingPairs 53 = .ok (.istore_n 2, 1) := by decide +kernel
theorem dX6_fittingPairs_54 : decode cX6_fittingPairs 54 = .ok (.iinc 3 1, 3) := by decide +kernel
theorem dX6_fittingPairs_57 : decode cX6_fittingPairs 57 = .ok (.goto (-53), 3) := by decide +kernel
theorem dX6_fittingPairs_60 : decode cX6_fittingPairs 60 = .ok (.iload_n 2, 1) := by decide +kernel
theorem dX6_fittingPairs_61 : decode cX6_fittingPairs 61 = .ok (.ireturn, 1) := by decide +kernel
theorem dX6_film_0 : decode cX6_film 0 = .ok (.iload_n 1, 1) := by decide +kernel
theorem dX6_film_1 : decode cX6_film 1 = .ok (.iconst 4, 1) := by decide +kernel
theorem dX6_film_2 : decode cX6_film 2 = .ok (.invokestatic 100, 3) := by decide +kernel
theorem dX6_film_5 : decode cX6_film 5 = .ok (.ifCond .eq 23, 3) := by decide +kernel
theorem dX6_film_8 : decode cX6_film 8 = .ok (.aload_n 0, 1) := by decide +kernel
theorem dX6_film_9 : decode cX6_film 9 = .ok (.getfield 10, 3) := by decide +kernel
theorem dX6_film_12 : decode cX6_film 12 = .ok (.iload_n 2, 1) := by decide +kernel
theorem dX6_film_13 : decode cX6_film 13 = .ok (.invokevirtual 125, 3) := by decide +kernel
theorem dX6_film_16 : decode cX6_film 16 = .ok (.ifCond .eq 12, 3) := by decide +kernel
theorem dX6_film_19 : decode cX6_film 19 = .ok (.iload_n 3, 1) := by decide +kernel
theorem dX6_film_20 : decode cX6_film 20 = .ok (.bipush 41, 2) := by decide +kernel
theorem dX6_film_22 : decode cX6_film 22 = .ok (.invokestatic 100, 3) := by decide +kernel
theorem dX6_film_25 : decode cX6_film 25 = .ok (.ifCond .ne 6, 3) := by decide +kernel
theorem dX6_film_28 : decode cX6_film 28 = .ok (.bipush (-2), 2) := by decide +kernel
theorem dX6_film_30 : decode cX6_film 30 = .ok (.ireturn, 1) := by decide +kernel
theorem dX6_film_31 : decode cX6_film 31 = .ok (.aload_n 0, 1) := by decide +kernel
theorem dX6_film_32 : decode cX6_film 32 = .ok (.getfield 38, 3) := by decide +kernel
theorem dX6_film_35 : decode cX6_film 35 = .ok (.aload_n 0, 1) := by decide +kernel
theorem dX6_film_36 : decode cX6_film 36 = .ok (.getfield 10, 3) := by decide +kernel
theorem dX6_film_39 : decode cX6_film 39 = .ok (.iload_n 2, 1) := by decide +kernel
theorem dX6_film_40 : decode cX6_film 40 = .ok (.invokevirtual 128, 3) := by decide +kernel
theorem dX6_film_43 : decode cX6_film 43 = .ok (.aload_n 0, 1) := by decide +kernel
theorem dX6_film_44 : decode cX6_film 44 = .ok (.getfield 10, 3) := by decide +kernel
theorem dX6_film_47 : decode cX6_film 47 = .ok (.iload_n 2, 1) := by decide +kernel
theorem dX6_film_48 : decode cX6_film 48 = .ok (.invokevirtual 132, 3) := by decide +kernel
theorem dX6_film_51 : decode cX6_film 51 = .ok (.istore 4, 2) := by decide +kernel
theorem dX6_film_53 : decode cX6_film 53 = .ok (.aload_n 0, 1) := by decide +kernel
theorem dX6_film_54 : decode cX6_film 54 = .ok (.getfield 52, 3) := by decide +kernel
theorem dX6_film_57 : decode cX6_film 57 = .ok (.iload_n 1, 1) := by decide +kernel
theorem dX6_film_58 : decode cX6_film 58 = .ok (.aaload, 1) := by decide +kernel
theorem dX6_film_59 : decode cX6_film 59 = .ok (.astore 5, 2) := by decide +kernel
theorem dX6_film_61 : decode cX6_film 61 = .ok (.aload 5, 2) := by decide +kernel
theorem dX6_film_63 : decode cX6_film 63 = .ok (.iconst 0, 1) := by decide +kernel
theorem dX6_film_64 : decode cX6_film 64 = .ok (.iload_n 3, 1) := by decide +kernel
theorem dX6_film_65 : decode cX6_film 65 = .ok (.invokevirtual 288, 3) := by decide +kernel
theorem dX6_film_68 : decode cX6_film 68 = .ok (.iconst 0, 1) := by decide +kernel
theorem dX6_film_69 : decode cX6_film 69 = .ok (.istore 6, 2) := by decide +kernel
theorem dX6_film_71 : decode cX6_film 71 = .ok (.iload 6, 2) := by decide +kernel
theorem dX6_film_73 : decode cX6_film 73 = .ok (.iload_n 3, 1) := by decide +kernel
theorem dX6_film_74 : decode cX6_film 74 = .ok (.if_icmp .ge 37, 3) := by decide +kernel
theorem dX6_film_77 : decode cX6_film 77 = .ok (.aload 5, 2) := by decide +kernel
theorem dX6_film_79 : decode cX6_film 79 = .ok (.iload 6, 2) := by decide +kernel
theorem dX6_film_81 : decode cX6_film 81 = .ok (.aload_n 0, 1) := by decide +kernel
theorem dX6_film_82 : decode cX6_film 82 = .ok (.getfield 38, 3) := by decide +kernel
theorem dX6_film_85 : decode cX6_film 85 = .ok (.iload 4, 2) := by decide +kernel
theorem dX6_film_87 : decode cX6_film 87 = .ok (.invokevirtual 138, 3) := by decide +kernel
theorem dX6_film_90 : decode cX6_film 90 = .ok (.invokevirtual 291, 3) := by decide +kernel
theorem dX6_film_93 : decode cX6_film 93 = .ok (.pop, 1) := by decide +kernel
theorem dX6_film_94 : decode cX6_film 94 = .ok (.aload_n 0, 1) := by decide +kernel
theorem dX6_film_95 : decode cX6_film 95 = .ok (.getfield 38, 3) := by decide +kernel
theorem dX6_film_98 : decode cX6_film 98 = .ok (.iload 4, 2) := by decide +kernel
theorem dX6_film_100 : decode cX6_film 100 = .ok (.invokevirtual 159, 3) := by decide +kernel
theorem dX6_film_103 : decode cX6_film 103 = .ok (.istore 4, 2) := by decide +kernel
theorem dX6_film_105 : decode cX6_film 105 = .ok (.iinc 6 1, 3) := by decide +kernel
theorem dX6_film_108 : decode cX6_film 108 = .ok (.goto (-37), 3) := by decide +kernel
theorem dX6_film_111 : decode cX6_film 111 = .ok (.iload_n 3, 1) := by decide +kernel
theorem dX6_film_112 : decode cX6_film 112 = .ok (.ireturn, 1) := by decide +kernel
theorem dX6_drawn_0 : decode cX6_drawn 0 = .ok (.aload_n 0, 1) := by decide +kernel
theorem dX6_drawn_1 : decode cX6_drawn 1 = .ok (.getfield 10, 3) := by decide +kernel
theorem dX6_drawn_4 : decode cX6_drawn 4 = .ok (.iload_n 2, 1) := by decide +kernel
theorem dX6_drawn_5 : decode cX6_drawn 5 = .ok (.invokevirtual 125, 3) := by decide +kernel
theorem dX6_drawn_8 : decode cX6_drawn 8 = .ok (.ifCond .eq 12, 3) := by decide +kernel
theorem dX6_drawn_11 : decode cX6_drawn 11 = .ok (.iload_n 3, 1) := by decide +kernel
theorem dX6_drawn_12 : decode cX6_drawn 12 = .ok (.bipush 100, 2) := by decide +kernel
theorem dX6_drawn_14 : decode cX6_drawn 14 = .ok (.invokestatic 100, 3) := by decide +kernel
theorem dX6_drawn_17 : decode cX6_drawn 17 = .ok (.ifCond .ne 6, 3) := by decide +kernel
theorem dX6_drawn_20 : decode cX6_drawn 20 = .ok (.bipush (-2), 2) := by decide +kernel
theorem dX6_drawn_22 : decode cX6_drawn 22 = .ok (.ireturn, 1) := by decide +kernel
theorem dX6_drawn_23 : decode cX6_drawn 23 = .ok (.aload_n 0, 1) := by decide +kernel
theorem dX6_drawn_24 : decode cX6_drawn 24 = .ok (.getfield 38, 3) := by decide +kernel
theorem dX6_drawn_27 : decode cX6_drawn 27 = .ok (.aload_n 0, 1) := by decide +kernel
theorem dX6_drawn_28 : decode cX6_drawn 28 = .ok (.getfield 10, 3) := by decide +kernel
theorem dX6_drawn_31 : decode cX6_drawn 31 = .ok (.iload_n 2, 1) := by decide +kernel
theorem dX6_drawn_32 : decode cX6_drawn 32 = .ok (.invokevirtual 128, 3) := by decide +kernel
theorem dX6_drawn_35 : decode cX6_drawn 35 = .ok (.aload_n 0, 1) := by decide +kernel
theorem dX6_drawn_36 : decode cX6_drawn 36 = .ok (.iload_n 1, 1) := by decide +kernel
theorem dX6_drawn_37 : decode cX6_drawn 37 = .ok (.aload_n 0, 1) := by decide +kernel
theorem dX6_drawn_38 : decode cX6_drawn 38 = .ok (.getfield 10, 3) := by decide +kernel
theorem dX6_drawn_41 : decode cX6_drawn 41 = .ok (.iload_n 2, 1) := by decide +kernel
theorem dX6_drawn_42 : decode cX6_drawn 42 = .ok (.invokevirtual 132, 3) := by decide +kernel
theorem dX6_drawn_45 : decode cX6_drawn 45 = .ok (.iload_n 3, 1) := by decide +kernel
theorem dX6_drawn_46 : decode cX6_drawn 46 = .ok (.invokevirtual 293, 3) := by decide +kernel
theorem dX6_drawn_49 : decode cX6_drawn 49 = .ok (.ireturn, 1) := by decide +kernel
theorem dX6_farDrawn_0 : decode cX6_farDrawn 0 = .ok (.iload_n 1, 1) := by decide +kernel
theorem dX6_farDrawn_1 : decode cX6_farDrawn 1 = .ok (.istore 4, 2) := by decide +kernel
theorem dX6_farDrawn_3 : decode cX6_farDrawn 3 = .ok (.iload_n 2, 1) := by decide +kernel
theorem dX6_farDrawn_4 : decode cX6_farDrawn 4 = .ok (.istore 5, 2) := by decide +kernel
theorem dX6_farDrawn_6 : decode cX6_farDrawn 6 = .ok (.iconst 0, 1) := by decide +kernel
theorem dX6_farDrawn_7 : decode cX6_farDrawn 7 = .ok (.istore 6, 2) := by decide +kernel
theorem dX6_farDrawn_9 : decode cX6_farDrawn 9 = .ok (.iload 6, 2) := by decide +kernel
theorem dX6_farDrawn_11 : decode cX6_farDrawn 11 = .ok (.iload_n 3, 1) := by decide +kernel
theorem dX6_farDrawn_12 : decode cX6_farDrawn 12 = .ok (.if_icmp .ge 40, 3) := by decide +kernel
theorem dX6_farDrawn_15 : decode cX6_farDrawn 15 = .ok (.iload 4, 2) := by decide +kernel
theorem dX6_farDrawn_17 : decode cX6_farDrawn 17 = .ok (.ldc_w 296, 3) := by decide +kernel
theorem dX6_farDrawn_20 : decode cX6_farDrawn 20 = .ok (.imul, 1) := by decide +kernel
theorem dX6_farDrawn_21 : decode cX6_farDrawn 21 = .ok (.sipush 12345, 3) := by decide +kernel
theorem dX6_farDrawn_24 : decode cX6_farDrawn 24 = .ok (.iadd, 1) := by decide +kernel
theorem dX6_farDrawn_25 : decode cX6_farDrawn 25 = .ok (.istore 4, 2) := by decide +kernel
theorem dX6_farDrawn_27 : decode cX6_farDrawn 27 = .ok (.aload_n 0, 1) := by decide +kernel
theorem dX6_farDrawn_28 : decode cX6_farDrawn 28 = .ok (.getfield 38, 3) := by decide +kernel
theorem dX6_farDrawn_31 : decode cX6_farDrawn 31 = .ok (.iload 5, 2) := by decide +kernel
theorem dX6_farDrawn_33 : decode cX6_farDrawn 33 = .ok (.iload 4, 2) := by decide +kernel
theorem dX6_farDrawn_35 : decode cX6_farDrawn 35 = .ok (.bipush 9, 2) := by decide +kernel
theorem dX6_farDrawn_37 : decode cX6_farDrawn 37 = .ok (.iushr, 1) := by decide +kernel
theorem dX6_farDrawn_38 : decode cX6_farDrawn 38 = .ok (.bipush 6, 2) := by decide +kernel
theorem dX6_farDrawn_40 : decode cX6_farDrawn 40 = .ok (.irem, 1) := by decide +kernel
theorem dX6_farDrawn_41 : decode cX6_farDrawn 41 = .ok (.invokevirtual 149, 3) := by decide +kernel
theorem dX6_farDrawn_44 : decode cX6_farDrawn 44 = .ok (.istore 5, 2) := by decide +kernel
theorem dX6_farDrawn_46 : decode cX6_farDrawn 46 = .ok (.iinc 6 1, 3) := by decide +kernel
theorem dX6_farDrawn_49 : decode cX6_farDrawn 49 = .ok (.goto (-40), 3) := by decide +kernel
theorem dX6_farDrawn_52 : decode cX6_farDrawn 52 = .ok (.aload_n 0, 1) := by decide +kernel
theorem dX6_farDrawn_53 : decode cX6_farDrawn 53 = .ok (.getfield 38, 3) := by decide +kernel
theorem dX6_farDrawn_56 : decode cX6_farDrawn 56 = .ok (.iload 5, 2) := by decide +kernel
theorem dX6_farDrawn_58 : decode cX6_farDrawn 58 = .ok (.invokevirtual 138, 3) := by decide +kernel
theorem dX6_farDrawn_61 : decode cX6_farDrawn 61 = .ok (.ireturn, 1) := by decide +kernel
theorem dX6_chance_0 : decode cX6_chance 0 = .ok (.aload_n 0, 1) := by decide +kernel
theorem dX6_chance_1 : decode cX6_chance 1 = .ok (.getfield 10, 3) := by decide +kernel
theorem dX6_chance_4 : decode cX6_chance 4 = .ok (.iload_n 3, 1) := by decide +kernel
theorem dX6_chance_5 : decode cX6_chance 5 = .ok (.invokevirtual 125, 3) := by decide +kernel
theorem dX6_chance_8 : decode cX6_chance 8 = .ok (.ifCond .eq 33, 3) := by decide +kernel
theorem dX6_chance_11 : decode cX6_chance 11 = .ok (.iload_n 2, 1) := by decide +kernel
theorem dX6_chance_12 : decode cX6_chance 12 = .ok (.iconst 1, 1) := by decide +kernel
theorem dX6_chance_13 : decode cX6_chance 13 = .ok (.if_icmp .lt 28, 3) := by decide +kernel
theorem dX6_chance_16 : decode cX6_chance 16 = .ok (.iload_n 2, 1) := by decide +kernel
theorem dX6_chance_17 : decode cX6_chance 17 = .ok (.bipush 20, 2) := by decide +kernel
theorem dX6_chance_19 : decode cX6_chance 19 = .ok (.if_icmp .gt 22, 3) := by decide +kernel
theorem dX6_chance_22 : decode cX6_chance 22 = .ok (.iload 4, 2) := by decide +kernel
theorem dX6_chance_24 : decode cX6_chance 24 = .ok (.bipush 41, 2) := by decide +kernel
theorem dX6_chance_26 : decode cX6_chance 26 = .ok (.invokestatic 100, 3) := by decide +kernel
theorem dX6_chance_29 : decode cX6_chance 29 = .ok (.ifCond .eq 12, 3) := by decide +kernel
theorem dX6_chance_32 : decode cX6_chance 32 = .ok (.iload 5, 2) := by decide +kernel
theorem dX6_chance_34 : decode cX6_chance 34 = .ok (.iconst 2, 1) := by decide +kernel
theorem dX6_chance_35 : decode cX6_chance 35 = .ok (.invokestatic 100, 3) := by decide +kernel
theorem dX6_chance_38 : decode cX6_chance 38 = .ok (.ifCond .ne 7, 3) := by decide +kernel
theorem dX6_chance_41 : decode cX6_chance 41 = .ok (.ldc2_w 196, 3) := by decide +kernel
theorem dX6_chance_44 : decode cX6_chance 44 = .ok (.lreturn, 1) := by decide +kernel
theorem dX6_chance_45 : decode cX6_chance 45 = .ok (.aload_n 0, 1) := by decide +kernel
theorem dX6_chance_46 : decode cX6_chance 46 = .ok (.getfield 38, 3) := by decide +kernel
theorem dX6_chance_49 : decode cX6_chance 49 = .ok (.aload_n 0, 1) := by decide +kernel
theorem dX6_chance_50 : decode cX6_chance 50 = .ok (.getfield 10, 3) := by decide +kernel
theorem dX6_chance_53 : decode cX6_chance 53 = .ok (.iload_n 3, 1) := by decide +kernel
theorem dX6_chance_54 : decode cX6_chance 54 = .ok (.invokevirtual 128, 3) := by decide +kernel
theorem dX6_chance_57 : decode cX6_chance 57 = .ok (.iconst 0, 1) := by decide +kernel
theorem dX6_chance_58 : decode cX6_chance 58 = .ok (.istore 6, 2) := by decide +kernel
theorem dX6_chance_60 : decode cX6_chance 60 = .ok (.iconst 0, 1) := by decide +kernel
theorem dX6_chance_61 : decode cX6_chance 61 = .ok (.istore 7, 2) := by decide +kernel
theorem dX6_chance_63 : decode cX6_chance 63 = .ok (.iload 7, 2) := by decide +kernel
theorem dX6_chance_65 : decode cX6_chance 65 = .ok (.iload_n 2, 1) := by decide +kernel
theorem dX6_chance_66 : decode cX6_chance 66 = .ok (.if_icmp .ge 42, 3) := by decide +kernel
theorem dX6_chance_69 : decode cX6_chance 69 = .ok (.iload 6, 2) := by decide +kernel
theorem dX6_chance_71 : decode cX6_chance 71 = .ok (.aload_n 0, 1) := by decide +kernel
theorem dX6_chance_72 : decode cX6_chance 72 = .ok (.iload_n 1, 1) := by decide +kernel
theorem dX6_chance_73 : decode cX6_chance 73 = .ok (.iload 7, 2) := by decide +kernel
theorem dX6_chance_75 : decode cX6_chance 75 = .ok (.iadd, 1) := by decide +kernel
theorem dX6_chance_76 : decode cX6_chance 76 = .ok (.aload_n 0, 1) := by decide +kernel
theorem dX6_chance_77 : decode cX6_chance 77 = .ok (.getfield 10, 3) := by decide +kernel
theorem dX6_chance_80 : decode cX6_chance 80 = .ok (.iload_n 3, 1) := by decide +kernel
theorem dX6_chance_81 : decode cX6_chance 81 = .ok (.invokevirtual 132, 3) := by decide +kernel
theorem dX6_chance_84 : decode cX6_chance 84 = .ok (.bipush 8, 2) := by decide +kernel
theorem dX6_chance_86 : decode cX6_chance 86 = .ok (.invokevirtual 293, 3) := by decide +kernel
theorem dX6_chance_89 : decode cX6_chance 89 = .ok (.iload 4, 2) := by decide +kernel
theorem dX6_chance_91 : decode cX6_chance 91 = .ok (.if_icmp .lt 7, 3) := by decide +kernel
theorem dX6_chance_94 : decode cX6_chance 94 = .ok (.iconst 1, 1) := by decide +kernel
theorem dX6_chance_95 : decode cX6_chance 95 = .ok (.goto 4, 3) := by decide +kernel
theorem dX6_chance_98 : decode cX6_chance 98 = .ok (.iconst 0, 1) := by decide +kernel
theorem dX6_chance_99 : decode cX6_chance 99 = .ok (.iadd, 1) := by decide +kernel
theorem dX6_chance_100 : decode cX6_chance 100 = .ok (.istore 6, 2) := by decide +kernel
theorem dX6_chance_102 : decode cX6_chance 102 = .ok (.iinc 7 1, 3) := by decide +kernel
theorem dX6_chance_105 : decode cX6_chance 105 = .ok (.goto (-42), 3) := by decide +kernel
theorem dX6_chance_108 : decode cX6_chance 108 = .ok (.iload 6, 2) := by decide +kernel
theorem dX6_chance_110 : decode cX6_chance 110 = .ok (.i2l, 1) := by decide +kernel
theorem dX6_chance_111 : decode cX6_chance 111 = .ok (.iload_n 2, 1) := by decide +kernel
theorem dX6_chance_112 : decode cX6_chance 112 = .ok (.i2l, 1) := by decide +kernel
theorem dX6_chance_113 : decode cX6_chance 113 = .ok (.iload 5, 2) := by decide +kernel
theorem dX6_chance_115 : decode cX6_chance 115 = .ok (.invokestatic 242, 3) := by decide +kernel
theorem dX6_chance_118 : decode cX6_chance 118 = .ok (.lreturn, 1) := by decide +kernel
theorem dX6_image_0 : decode cX6_image 0 = .ok (.aload_n 0, 1) := by decide +kernel
theorem dX6_image_1 : decode cX6_image 1 = .ok (.getfield 16, 3) := by decide +kernel
theorem dX6_image_4 : decode cX6_image 4 = .ok (.aload_n 0, 1) := by decide +kernel
theorem dX6_image_5 : decode cX6_image 5 = .ok (.getfield 10, 3) := by decide +kernel
theorem dX6_image_8 : decode cX6_image 8 = .ok (.invokevirtual 297, 3) := by decide +kernel
theorem dX6_image_11 : decode cX6_image 11 = .ok (.aload_n 0, 1) := by decide +kernel
theorem dX6_image_12 : decode cX6_image 12 = .ok (.iconst 1, 1) := by decide +kernel
theorem dX6_image_13 : decode cX6_image 13 = .ok (.putfield 300, 3) := by decide +kernel
theorem dX6_image_16 : decode cX6_image 16 = .ok (.aload_n 0, 1) := by decide +kernel
theorem dX6_image_17 : decode cX6_image 17 = .ok (.getfield 16, 3) := by decide +kernel
theorem dX6_image_20 : decode cX6_image 20 = .ok (.getfield 93, 3) := by decide +kernel
theorem dX6_image_23 : decode cX6_image 23 = .ok (.ireturn, 1) := by decide +kernel
theorem dX6_back_0 : decode cX6_back 0 = .ok (.aload_n 0, 1) := by decide +kernel
theorem dX6_back_1 : decode cX6_back 1 = .ok (.getfield 300, 3) := by decide +kernel
theorem dX6_back_4 : decode cX6_back 4 = .ok (.ifCond .ne 6, 3) := by decide +kernel
theorem dX6_back_7 : decode cX6_back 7 = .ok (.bipush (-3), 2) := by decide +kernel
theorem dX6_back_9 : decode cX6_back 9 = .ok (.ireturn, 1) := by decide +kernel
theorem dX6_back_10 : decode cX6_back 10 = .ok (.aload_n 0, 1) := by decide +kernel
theorem dX6_back_11 : decode cX6_back 11 = .ok (.getfield 10, 3) := by decide +kernel
theorem dX6_back_14 : decode cX6_back 14 = .ok (.aload_n 0, 1) := by decide +kernel
theorem dX6_back_15 : decode cX6_back 15 = .ok (.getfield 16, 3) := by decide +kernel
theorem dX6_back_18 : decode cX6_back 18 = .ok (.invokevirtual 297, 3) := by decide +kernel
theorem dX6_back_21 : decode cX6_back 21 = .ok (.aload_n 0, 1) := by decide +kernel
theorem dX6_back_22 : decode cX6_back 22 = .ok (.getfield 10, 3) := by decide +kernel
theorem dX6_back_25 : decode cX6_back 25 = .ok (.getfield 93, 3) := by decide +kernel
theorem dX6_back_28 : decode cX6_back 28 = .ok (.ireturn, 1) := by decide +kernel
theorem dX6_count_0 : decode cX6_count 0 = .ok (.iload_n 1, 1) := by decide +kernel
theorem dX6_count_1 : decode cX6_count 1 = .ok (.tableswitch 90 0 5 #[39, 47, 58, 66, 74, 82], 39) := by decide +kernel
theorem dX6_count_40 : decode cX6_count 40 = .ok (.aload_n 0, 1) := by decide +kernel
theorem dX6_count_41 : decode cX6_count 41 = .ok (.getfield 10, 3) := by decide +kernel
theorem dX6_count_44 : decode cX6_count 44 = .ok (.getfield 93, 3) := by decide +kernel
theorem dX6_count_47 : decode cX6_count 47 = .ok (.ireturn, 1) := by decide +kernel
theorem dX6_count_48 : decode cX6_count 48 = .ok (.aload_n 0, 1) := by decide +kernel
theorem dX6_count_49 : decode cX6_count 49 = .ok (.getfield 10, 3) := by decide +kernel
theorem dX6_count_52 : decode cX6_count 52 = .ok (.invokevirtual 169, 3) := by decide +kernel
theorem dX6_count_55 : decode cX6_count 55 = .ok (.invokestatic 173, 3) := by decide +kernel
theorem dX6_count_58 : decode cX6_count 58 = .ok (.ireturn, 1) := by decide +kernel
theorem dX6_count_59 : decode cX6_count 59 = .ok (.aload_n 0, 1) := by decide +kernel
theorem dX6_count_60 : decode cX6_count 60 = .ok (.getfield 10, 3) := by decide +kernel
theorem dX6_count_63 : decode cX6_count 63 = .ok (.invokevirtual 304, 3) := by decide +kernel
theorem dX6_count_66 : decode cX6_count 66 = .ok (.ireturn, 1) := by decide +kernel
theorem dX6_count_67 : decode cX6_count 67 = .ok (.aload_n 0, 1) := by decide +kernel
theorem dX6_count_68 : decode cX6_count 68 = .ok (.getfield 22, 3) := by decide +kernel
theorem dX6_count_71 : decode cX6_count 71 = .ok (.getfield 145, 3) := by decide +kernel
theorem dX6_count_74 : decode cX6_count 74 = .ok (.ireturn, 1) := by decide +kernel
theorem dX6_count_75 : decode cX6_count 75 = .ok (.aload_n 0, 1) := by decide +kernel
theorem dX6_count_76 : decode cX6_count 76 = .ok (.getfield 31, 3) := by decide +kernel
theorem dX6_count_79 : decode cX6_count 79 = .ok (.getfield 144, 3) := by decide +kernel
theorem dX6_count_82 : decode cX6_count 82 = .ok (.ireturn, 1) := by decide +kernel
theorem dX6_count_83 : decode cX6_count 83 = .ok (.aload_n 0, 1) := by decide +kernel
theorem dX6_count_84 : decode cX6_count 84 = .ok (.getfield 10, 3) := by decide +kernel
theorem dX6_count_87 : decode cX6_count 87 = .ok (.getfield 146, 3) := by decide +kernel
theorem dX6_count_90 : decode cX6_count 90 = .ok (.ireturn, 1) := by decide +kernel
theorem dX6_count_91 : decode cX6_count 91 = .ok (.bipush (-2), 2) := by decide +kernel
theorem dX6_count_93 : decode cX6_count 93 = .ok (.ireturn, 1) := by decide +kernel
theorem dX6_sheet_0 : decode cX6_sheet 0 = .ok (.iload_n 1, 1) := by decide +kernel
theorem dX6_sheet_1 : decode cX6_sheet 1 = .ok (.iconst 4, 1) := by decide +kernel
theorem dX6_sheet_2 : decode cX6_sheet 2 = .ok (.invokestatic 100, 3) := by decide +kernel
theorem dX6_sheet_5 : decode cX6_sheet 5 = .ok (.ifCond .eq 13, 3) := by decide +kernel
theorem dX6_sheet_8 : decode cX6_sheet 8 = .ok (.iload_n 2, 1) := by decide +kernel
theorem dX6_sheet_9 : decode cX6_sheet 9 = .ok (.iconst (-1), 1) := by decide +kernel
theorem dX6_sheet_10 : decode cX6_sheet 10 = .ok (.if_icmp .lt 8, 3) := by decide +kernel
theorem dX6_sheet_13 : decode cX6_sheet 13 = .ok (.iload_n 2, 1) := by decide +kernel
theorem dX6_sheet_14 : decode cX6_sheet 14 = .ok (.iconst 3, 1) := by decide +kernel
theorem dX6_sheet_15 : decode cX6_sheet 15 = .ok (.if_icmp .lt 6, 3) := by decide +kernel
theorem dX6_sheet_18 : decode cX6_sheet 18 = .ok (.bipush (-2), 2) := by decide +kernel
theorem dX6_sheet_20 : decode cX6_sheet 20 = .ok (.ireturn, 1) := by decide +kernel
theorem dX6_sheet_21 : decode cX6_sheet 21 = .ok (.iload_n 2, 1) := by decide +kernel
theorem dX6_sheet_22 : decode cX6_sheet 22 = .ok (.iconst (-1), 1) := by decide +kernel
theorem dX6_sheet_23 : decode cX6_sheet 23 = .ok (.if_icmp .eq 12, 3) := by decide +kernel
theorem dX6_sheet_26 : decode cX6_sheet 26 = .ok (.iload_n 3, 1) := by decide +kernel
theorem dX6_sheet_27 : decode cX6_sheet 27 = .ok (.bipush 40, 2) := by decide +kernel
theorem dX6_sheet_29 : decode cX6_sheet 29 = .ok (.if_icmp .le 6, 3) := by decide +kernel
theorem dX6_sheet_32 : decode cX6_sheet 32 = .ok (.bipush (-2), 2) := by decide +kernel
theorem dX6_sheet_34 : decode cX6_sheet 34 = .ok (.ireturn, 1) := by decide +kernel
theorem dX6_sheet_35 : decode cX6_sheet 35 = .ok (.iload_n 2, 1) := by decide +kernel
theorem dX6_sheet_36 : decode cX6_sheet 36 = .ok (.iconst (-1), 1) := by decide +kernel
theorem dX6_sheet_37 : decode cX6_sheet 37 = .ok (.if_icmp .eq 10, 3) := by decide +kernel
theorem dX6_sheet_40 : decode cX6_sheet 40 = .ok (.iload_n 3, 1) := by decide +kernel
theorem dX6_sheet_41 : decode cX6_sheet 41 = .ok (.ifCond .ge 6, 3) := by decide +kernel
theorem dX6_sheet_44 : decode cX6_sheet 44 = .ok (.bipush (-14), 2) := by decide +kernel
theorem dX6_sheet_46 : decode cX6_sheet 46 = .ok (.ireturn, 1) := by decide +kernel
theorem dX6_sheet_47 : decode cX6_sheet 47 = .ok (.aload_n 0, 1) := by decide +kernel
theorem dX6_sheet_48 : decode cX6_sheet 48 = .ok (.getfield 52, 3) := by decide +kernel
theorem dX6_sheet_51 : decode cX6_sheet 51 = .ok (.iload_n 1, 1) := by decide +kernel
theorem dX6_sheet_52 : decode cX6_sheet 52 = .ok (.aaload, 1) := by decide +kernel
theorem dX6_sheet_53 : decode cX6_sheet 53 = .ok (.iload_n 2, 1) := by decide +kernel
theorem dX6_sheet_54 : decode cX6_sheet 54 = .ok (.iload_n 2, 1) := by decide +kernel
theorem dX6_sheet_55 : decode cX6_sheet 55 = .ok (.iconst (-1), 1) := by decide +kernel
theorem dX6_sheet_56 : decode cX6_sheet 56 = .ok (.if_icmp .ne 7, 3) := by decide +kernel
theorem dX6_sheet_59 : decode cX6_sheet 59 = .ok (.iconst 0, 1) := by decide +kernel
theorem dX6_sheet_60 : decode cX6_sheet 60 = .ok (.goto 4, 3) := by decide +kernel
theorem dX6_sheet_63 : decode cX6_sheet 63 = .ok (.iload_n 3, 1) := by decide +kernel
theorem dX6_sheet_64 : decode cX6_sheet 64 = .ok (.invokevirtual 288, 3) := by decide +kernel
theorem dX6_sheet_67 : decode cX6_sheet 67 = .ok (.iconst 1, 1) := by decide +kernel
theorem dX6_sheet_68 : decode cX6_sheet 68 = .ok (.ireturn, 1) := by decide +kernel
theorem dX6_cell_0 : decode cX6_cell 0 = .ok (.iload_n 1, 1) := by decide +kernel
theorem dX6_cell_1 : decode cX6_cell 1 = .ok (.iconst 4, 1) := by decide +kernel
theorem dX6_cell_2 : decode cX6_cell 2 = .ok (.invokestatic 100, 3) := by decide +kernel
theorem dX6_cell_5 : decode cX6_cell 5 = .ok (.ifCond .ne 6, 3) := by decide +kernel
theorem dX6_cell_8 : decode cX6_cell 8 = .ok (.bipush (-2), 2) := by decide +kernel
theorem dX6_cell_10 : decode cX6_cell 10 = .ok (.ireturn, 1) := by decide +kernel
theorem dX6_cell_11 : decode cX6_cell 11 = .ok (.aload_n 0, 1) := by decide +kernel
theorem dX6_cell_12 : decode cX6_cell 12 = .ok (.getfield 52, 3) := by decide +kernel
theorem dX6_cell_15 : decode cX6_cell 15 = .ok (.iload_n 1, 1) := by decide +kernel
theorem dX6_cell_16 : decode cX6_cell 16 = .ok (.aaload, 1) := by decide +kernel
theorem dX6_cell_17 : decode cX6_cell 17 = .ok (.invokevirtual 246, 3) := by decide +kernel
theorem dX6_cell_20 : decode cX6_cell 20 = .ok (.ifCond .eq 6, 3) := by decide +kernel
theorem dX6_cell_23 : decode cX6_cell 23 = .ok (.bipush (-11), 2) := by decide +kernel
theorem dX6_cell_25 : decode cX6_cell 25 = .ok (.ireturn, 1) := by decide +kernel
theorem dX6_cell_26 : decode cX6_cell 26 = .ok (.aload_n 0, 1) := by decide +kernel
theorem dX6_cell_27 : decode cX6_cell 27 = .ok (.getfield 52, 3) := by decide +kernel
theorem dX6_cell_30 : decode cX6_cell 30 = .ok (.iload_n 1, 1) := by decide +kernel
theorem dX6_cell_31 : decode cX6_cell 31 = .ok (.aaload, 1) := by decide +kernel
theorem dX6_cell_32 : decode cX6_cell 32 = .ok (.iload_n 2, 1) := by decide +kernel
theorem dX6_cell_33 : decode cX6_cell 33 = .ok (.iload_n 3, 1) := by decide +kernel
theorem dX6_cell_34 : decode cX6_cell 34 = .ok (.invokevirtual 291, 3) := by decide +kernel
theorem dX6_cell_37 : decode cX6_cell 37 = .ok (.ifCond .eq 7, 3) := by decide +kernel
theorem dX6_cell_40 : decode cX6_cell 40 = .ok (.iconst 1, 1) := by decide +kernel
theorem dX6_cell_41 : decode cX6_cell 41 = .ok (.goto 5, 3) := by decide +kernel
theorem dX6_cell_44 : decode cX6_cell 44 = .ok (.bipush (-12), 2) := by decide +kernel
theorem dX6_cell_46 : decode cX6_cell 46 = .ok (.ireturn, 1) := by decide +kernel
theorem dX6_copy_0 : decode cX6_copy 0 = .ok (.iload_n 1, 1) := by decide +kernel
theorem dX6_copy_1 : decode cX6_copy 1 = .ok (.iconst 4, 1) := by decide +kernel
theorem dX6_copy_2 : decode cX6_copy 2 = .ok (.invokestatic 100, 3) := by decide +kernel
theorem dX6_copy_5 : decode cX6_copy 5 = .ok (.ifCond .eq 11, 3) := by decide +kernel
theorem dX6_copy_8 : decode cX6_copy 8 = .ok (.iload_n 3, 1) := by decide +kernel
theorem dX6_copy_9 : decode cX6_copy 9 = .ok (.iconst 4, 1) := by decide +kernel
theorem dX6_copy_10 : decode cX6_copy 10 = .ok (.invokestatic 100, 3) := by decide +kernel
theorem dX6_copy_13 : decode cX6_copy 13 = .ok (.ifCond .ne 6, 3) := by decide +kernel
theorem dX6_copy_16 : decode cX6_copy 16 = .ok (.bipush (-2), 2) := by decide +kernel
theorem dX6_copy_18 : decode cX6_copy 18 = .ok (.ireturn, 1) := by decide +kernel
theorem dX6_copy_19 : decode cX6_copy 19 = .ok (.aload_n 0, 1) := by decide +kernel
theorem dX6_copy_20 : decode cX6_copy 20 = .ok (.getfield 52, 3) := by decide +kernel
theorem dX6_copy_23 : decode cX6_copy 23 = .ok (.iload_n 1, 1) := by decide +kernel
theorem dX6_copy_24 : decode cX6_copy 24 = .ok (.aaload, 1) := by decide +kernel
theorem dX6_copy_25 : decode cX6_copy 25 = .ok (.astore 6, 2) := by decide +kernel
theorem dX6_copy_27 : decode cX6_copy 27 = .ok (.aload_n 0, 1) := by decide +kernel
theorem dX6_copy_28 : decode cX6_copy 28 = .ok (.getfield 52, 3) := by decide +kernel
theorem dX6_copy_31 : decode cX6_copy 31 = .ok (.iload_n 3, 1) := by decide +kernel
theorem dX6_copy_32 : decode cX6_copy 32 = .ok (.aaload, 1) := by decide +kernel
theorem dX6_copy_33 : decode cX6_copy 33 = .ok (.astore 7, 2) := by decide +kernel
theorem dX6_copy_35 : decode cX6_copy 35 = .ok (.aload 6, 2) := by decide +kernel
theorem dX6_copy_37 : decode cX6_copy 37 = .ok (.invokevirtual 246, 3) := by decide +kernel
theorem dX6_copy_40 : decode cX6_copy 40 = .ok (.ifCond .ne 11, 3) := by decide +kernel
theorem dX6_copy_43 : decode cX6_copy 43 = .ok (.aload 7, 2) := by decide +kernel
theorem dX6_copy_45 : decode cX6_copy 45 = .ok (.invokevirtual 246, 3) := by decide +kernel
theorem dX6_copy_48 : decode cX6_copy 48 = .ok (.ifCond .eq 6, 3) := by decide +kernel
theorem dX6_copy_51 : decode cX6_copy 51 = .ok (.bipush (-11), 2) := by decide +kernel
theorem dX6_copy_53 : decode cX6_copy 53 = .ok (.ireturn, 1) := by decide +kernel
theorem dX6_copy_54 : decode cX6_copy 54 = .ok (.aload 6, 2) := by decide +kernel
theorem dX6_copy_56 : decode cX6_copy 56 = .ok (.getfield 307, 3) := by decide +kernel
theorem dX6_copy_59 : decode cX6_copy 59 = .ok (.aload 7, 2) := by decide +kernel
theorem dX6_copy_61 : decode cX6_copy 61 = .ok (.getfield 307, 3) := by decide +kernel
theorem dX6_copy_64 : decode cX6_copy 64 = .ok (.if_icmp .eq 6, 3) := by decide +kernel
theorem dX6_copy_67 : decode cX6_copy 67 = .ok (.bipush (-13), 2) := by decide +kernel
theorem dX6_copy_69 : decode cX6_copy 69 = .ok (.ireturn, 1) := by decide +kernel
theorem dX6_copy_70 : decode cX6_copy 70 = .ok (.aload 6, 2) := by decide +kernel
theorem dX6_copy_72 : decode cX6_copy 72 = .ok (.iload_n 2, 1) := by decide +kernel
theorem dX6_copy_73 : decode cX6_copy 73 = .ok (.iload 5, 2) := by decide +kernel
theorem dX6_copy_75 : decode cX6_copy 75 = .ok (.invokevirtual 310, 3) := by decide +kernel
theorem dX6_copy_78 : decode cX6_copy 78 = .ok (.ifCond .eq 15, 3) := by decide +kernel
theorem dX6_copy_81 : decode cX6_copy 81 = .ok (.aload 7, 2) := by decide +kernel
theorem dX6_copy_83 : decode cX6_copy 83 = .ok (.iload 4, 2) := by decide +kernel
theorem dX6_copy_85 : decode cX6_copy 85 = .ok (.iload 5, 2) := by decide +kernel
theorem dX6_copy_87 : decode cX6_copy 87 = .ok (.invokevirtual 310, 3) := by decide +kernel
theorem dX6_copy_90 : decode cX6_copy 90 = .ok (.ifCond .ne 6, 3) := by decide +kernel
theorem dX6_copy_93 : decode cX6_copy 93 = .ok (.bipush (-12), 2) := by decide +kernel
theorem dX6_copy_95 : decode cX6_copy 95 = .ok (.ireturn, 1) := by decide +kernel
theorem dX6_copy_96 : decode cX6_copy 96 = .ok (.aload 6, 2) := by decide +kernel
theorem dX6_copy_98 : decode cX6_copy 98 = .ok (.getfield 313, 3) := by decide +kernel
theorem dX6_copy_101 : decode cX6_copy 101 = .ok (.iload_n 2, 1) := by decide +kernel
theorem dX6_copy_102 : decode cX6_copy 102 = .ok (.aload 7, 2) := by decide +kernel
theorem dX6_copy_104 : decode cX6_copy 104 = .ok (.getfield 313, 3) := by decide +kernel
theorem dX6_copy_107 : decode cX6_copy 107 = .ok (.iload 4, 2) := by decide +kernel
theorem dX6_copy_109 : decode cX6_copy 109 = .ok (.iload 5, 2) := by decide +kernel
theorem dX6_copy_111 : decode cX6_copy 111 = .ok (.invokestatic 316, 3) := by decide +kernel
theorem dX6_copy_114 : decode cX6_copy 114 = .ok (.iload 5, 2) := by decide +kernel
theorem dX6_copy_116 : decode cX6_copy 116 = .ok (.ireturn, 1) := by decide +kernel
theorem dX6_pairs_0 : decode cX6_pairs 0 = .ok (.iload_n 1, 1) := by decide +kernel
theorem dX6_pairs_1 : decode cX6_pairs 1 = .ok (.iconst 4, 1) := by decide +kernel
theorem dX6_pairs_2 : decode cX6_pairs 2 = .ok (.invokestatic 100, 3) := by decide +kernel
theorem dX6_pairs_5 : decode cX6_pairs 5 = .ok (.ifCond .eq 21, 3) := by decide +kernel
theorem dX6_pairs_8 : decode cX6_pairs 8 = .ok (.iload_n 2, 1) := by decide +kernel
theorem dX6_pairs_9 : decode cX6_pairs 9 = .ok (.iconst 3, 1) := by decide +kernel
theorem dX6_pairs_10 : decode cX6_pairs 10 = .ok (.invokestatic 100, 3) := by decide +kernel
theorem dX6_pairs_13 : decode cX6_pairs 13 = .ok (.ifCond .eq 13, 3) := by decide +kernel
theorem dX6_pairs_16 : decode cX6_pairs 16 = .ok (.iload 4, 2) := by decide +kernel
theorem dX6_pairs_18 : decode cX6_pairs 18 = .ok (.bipush 6, 2) := by decide +kernel
theorem dX6_pairs_20 : decode cX6_pairs 20 = .ok (.invokestatic 100, 3) := by decide +kernel
theorem dX6_pairs_23 : decode cX6_pairs 23 = .ok (.ifCond .ne 6, 3) := by decide +kernel
theorem dX6_pairs_26 : decode cX6_pairs 26 = .ok (.bipush (-2), 2) := by decide +kernel
theorem dX6_pairs_28 : decode cX6_pairs 28 = .ok (.ireturn, 1) := by decide +kernel
theorem dX6_pairs_29 : decode cX6_pairs 29 = .ok (.aload_n 0, 1) := by decide +kernel
theorem dX6_pairs_30 : decode cX6_pairs 30 = .ok (.getfield 52, 3) := by decide +kernel
theorem dX6_pairs_33 : decode cX6_pairs 33 = .ok (.iload_n 1, 1) := by decide +kernel
theorem dX6_pairs_34 : decode cX6_pairs 34 = .ok (.aaload, 1) := by decide +kernel
theorem dX6_pairs_35 : decode cX6_pairs 35 = .ok (.astore 5, 2) := by decide +kernel
theorem dX6_pairs_37 : decode cX6_pairs 37 = .ok (.aload 5, 2) := by decide +kernel
theorem dX6_pairs_39 : decode cX6_pairs 39 = .ok (.invokevirtual 246, 3) := by decide +kernel
theorem dX6_pairs_42 : decode cX6_pairs 42 = .ok (.ifCond .ne 15, 3) := by decide +kernel
theorem dX6_pairs_45 : decode cX6_pairs 45 = .ok (.aload 5, 2) := by decide +kernel
theorem dX6_pairs_47 : decode cX6_pairs 47 = .ok (.getfield 307, 3) := by decide +kernel
theorem dX6_pairs_50 : decode cX6_pairs 50 = .ok (.iload_n 2, 1) := by decide +kernel
theorem dX6_pairs_51 : decode cX6_pairs 51 = .ok (.if_icmp .eq 6, 3) := by decide +kernel
theorem dX6_pairs_54 : decode cX6_pairs 54 = .ok (.bipush (-13), 2) := by decide +kernel
theorem dX6_pairs_56 : decode cX6_pairs 56 = .ok (.ireturn, 1) := by decide +kernel
theorem dX6_pairs_57 : decode cX6_pairs 57 = .ok (.aload 5, 2) := by decide +kernel
theorem dX6_pairs_59 : decode cX6_pairs 59 = .ok (.invokevirtual 246, 3) := by decide +kernel
theorem dX6_pairs_62 : decode cX6_pairs 62 = .ok (.ifCond .eq 6, 3) := by decide +kernel
theorem dX6_pairs_65 : decode cX6_pairs 65 = .ok (.bipush (-11), 2) := by decide +kernel
theorem dX6_pairs_67 : decode cX6_pairs 67 = .ok (.ireturn, 1) := by decide +kernel
theorem dX6_pairs_68 : decode cX6_pairs 68 = .ok (.iconst 0, 1) := by decide +kernel
theorem dX6_pairs_69 : decode cX6_pairs 69 = .ok (.istore 6, 2) := by decide +kernel
theorem dX6_pairs_71 : decode cX6_pairs 71 = .ok (.iconst 0, 1) := by decide +kernel
theorem dX6_pairs_72 : decode cX6_pairs 72 = .ok (.istore 7, 2) := by decide +kernel
theorem dX6_pairs_74 : decode cX6_pairs 74 = .ok (.iload 7, 2) := by decide +kernel
theorem dX6_pairs_76 : decode cX6_pairs 76 = .ok (.iload 4, 2) := by decide +kernel
theorem dX6_pairs_78 : decode cX6_pairs 78 = .ok (.if_icmp .ge 86, 3) := by decide +kernel
theorem dX6_pairs_81 : decode cX6_pairs 81 = .ok (.iload_n 3, 1) := by decide +kernel
theorem dX6_pairs_82 : decode cX6_pairs 82 = .ok (.bipush 40, 2) := by decide +kernel
theorem dX6_pairs_84 : decode cX6_pairs 84 = .ok (.invokestatic 100, 3) := by decide +kernel
theorem dX6_pairs_87 : decode cX6_pairs 87 = .ok (.ifCond .eq 12, 3) := by decide +kernel
theorem dX6_pairs_90 : decode cX6_pairs 90 = .ok (.iload_n 3, 1) := by decide +kernel
theorem dX6_pairs_91 : decode cX6_pairs 91 = .ok (.iconst 3, 1) := by decide +kernel
theorem dX6_pairs_92 : decode cX6_pairs 92 = .ok (.iload 7, 2) := by decide +kernel
theorem dX6_pairs_94 : decode cX6_pairs 94 = .ok (.imul, 1) := by decide +kernel
theorem dX6_pairs_95 : decode cX6_pairs 95 = .ok (.iadd, 1) := by decide +kernel
theorem dX6_pairs_96 : decode cX6_pairs 96 = .ok (.goto 4, 3) := by decide +kernel
theorem dX6_pairs_99 : decode cX6_pairs 99 = .ok (.iconst (-1), 1) := by decide +kernel
theorem dX6_pairs_100 : decode cX6_pairs 100 = .ok (.istore 8, 2) := by decide +kernel
theorem dX6_pairs_102 : decode cX6_pairs 102 = .ok (.aload 5, 2) := by decide +kernel
theorem dX6_pairs_104 : decode cX6_pairs 104 = .ok (.iload 8, 2) := by decide +kernel
theorem dX6_pairs_106 : decode cX6_pairs 106 = .ok (.iconst 3, 1) := by decide +kernel
theorem dX6_pairs_107 : decode cX6_pairs 107 = .ok (.invokevirtual 310, 3) := by decide +kernel
theorem dX6_pairs_110 : decode cX6_pairs 110 = .ok (.ifCond .ne 6, 3) := by decide +kernel
theorem dX6_pairs_113 : decode cX6_pairs 113 = .ok (.bipush (-12), 2) := by decide +kernel
theorem dX6_pairs_115 : decode cX6_pairs 115 = .ok (.ireturn, 1) := by decide +kernel
theorem dX6_pairs_116 : decode cX6_pairs 116 = .ok (.iload 6, 2) := by decide +kernel
theorem dX6_pairs_118 : decode cX6_pairs 118 = .ok (.aload_n 0, 1) := by decide +kernel
theorem dX6_pairs_119 : decode cX6_pairs 119 = .ok (.aload 5, 2) := by decide +kernel
theorem dX6_pairs_121 : decode cX6_pairs 121 = .ok (.iload 8, 2) := by decide +kernel
theorem dX6_pairs_123 : decode cX6_pairs 123 = .ok (.invokevirtual 277, 3) := by decide +kernel
theorem dX6_pairs_126 : decode cX6_pairs 126 = .ok (.aload 5, 2) := by decide +kernel
theorem dX6_pairs_128 : decode cX6_pairs 128 = .ok (.iload 8, 2) := by decide +kernel
theorem dX6_pairs_130 : decode cX6_pairs 130 = .ok (.iconst 1, 1) := by decide +kernel
theorem dX6_pairs_131 : decode cX6_pairs 131 = .ok (.iadd, 1) := by decide +kernel
theorem dX6_pairs_132 : decode cX6_pairs 132 = .ok (.invokevirtual 277, 3) := by decide +kernel
theorem dX6_pairs_135 : decode cX6_pairs 135 = .ok (.aload 5, 2) := by decide +kernel
theorem dX6_pairs_137 : decode cX6_pairs 137 = .ok (.iload 8, 2) := by decide +kernel
theorem dX6_pairs_139 : decode cX6_pairs 139 = .ok (.iconst 2, 1) := by decide +kernel
theorem dX6_pairs_140 : decode cX6_pairs 140 = .ok (.iadd, 1) := by decide +kernel
theorem dX6_pairs_141 : decode cX6_pairs 141 = .ok (.invokevirtual 277, 3) := by decide +kernel
theorem dX6_pairs_144 : decode cX6_pairs 144 = .ok (.invokevirtual 322, 3) := by decide +kernel
theorem dX6_pairs_147 : decode cX6_pairs 147 = .ok (.ifCond .lt 7, 3) := by decide +kernel
theorem dX6_pairs_150 : decode cX6_pairs 150 = .ok (.iconst 1, 1) := by decide +kernel
theorem dX6_pairs_151 : decode cX6_pairs 151 = .ok (.goto 4, 3) := by decide +kernel
theorem dX6_pairs_154 : decode cX6_pairs 154 = .ok (.iconst 0, 1) := by decide +kernel
theorem dX6_pairs_155 : decode cX6_pairs 155 = .ok (.iadd, 1) := by decide +kernel
theorem dX6_pairs_156 : decode cX6_pairs 156 = .ok (.istore 6, 2) := by decide +kernel
theorem dX6_pairs_158 : decode cX6_pairs 158 = .ok (.iinc 7 1, 3) := by decide +kernel
theorem dX6_pairs_161 : decode cX6_pairs 161 = .ok (.goto (-87), 3) := by decide +kernel
theorem dX6_pairs_164 : decode cX6_pairs 164 = .ok (.iload 6, 2) := by decide +kernel
theorem dX6_pairs_166 : decode cX6_pairs 166 = .ok (.ireturn, 1) := by decide +kernel
theorem dX6_taken_0 : decode cX6_taken 0 = .ok (.iload_n 2, 1) := by decide +kernel
theorem dX6_taken_1 : decode cX6_taken 1 = .ok (.bipush 6, 2) := by decide +kernel
theorem dX6_taken_3 : decode cX6_taken 3 = .ok (.invokestatic 100, 3) := by decide +kernel
theorem dX6_taken_6 : decode cX6_taken 6 = .ok (.ifCond .ne 6, 3) := by decide +kernel
theorem dX6_taken_9 : decode cX6_taken 9 = .ok (.bipush (-2), 2) := by decide +kernel
theorem dX6_taken_11 : decode cX6_taken 11 = .ok (.ireturn, 1) := by decide +kernel
theorem dX6_taken_12 : decode cX6_taken 12 = .ok (.aload_n 0, 1) := by decide +kernel
theorem dX6_taken_13 : decode cX6_taken 13 = .ok (.getfield 10, 3) := by decide +kernel
theorem dX6_taken_16 : decode cX6_taken 16 = .ok (.iload_n 1, 1) := by decide +kernel
theorem dX6_taken_17 : decode cX6_taken 17 = .ok (.invokevirtual 125, 3) := by decide +kernel
theorem dX6_taken_20 : decode cX6_taken 20 = .ok (.ifCond .ne 6, 3) := by decide +kernel
theorem dX6_taken_23 : decode cX6_taken 23 = .ok (.bipush (-11), 2) := by decide +kernel
theorem dX6_taken_25 : decode cX6_taken 25 = .ok (.ireturn, 1) := by decide +kernel
theorem dX6_taken_26 : decode cX6_taken 26 = .ok (.aload_n 0, 1) := by decide +kernel
theorem dX6_taken_27 : decode cX6_taken 27 = .ok (.getfield 10, 3) := by decide +kernel
theorem dX6_taken_30 : decode cX6_taken 30 = .ok (.getfield 115, 3) := by decide +kernel
theorem dX6_taken_33 : decode cX6_taken 33 = .ok (.iload_n 1, 1) := by decide +kernel
theorem dX6_taken_34 : decode cX6_taken 34 = .ok (.iaload, 1) := by decide +kernel
theorem dX6_taken_35 : decode cX6_taken 35 = .ok (.iload_n 2, 1) := by decide +kernel
theorem dX6_taken_36 : decode cX6_taken 36 = .ok (.invokestatic 325, 3) := by decide +kernel
theorem dX6_taken_39 : decode cX6_taken 39 = .ok (.ifCond .eq 15, 3) := by decide +kernel
theorem dX6_taken_42 : decode cX6_taken 42 = .ok (.aload_n 0, 1) := by decide +kernel
theorem dX6_taken_43 : decode cX6_taken 43 = .ok (.getfield 10, 3) := by decide +kernel
theorem dX6_taken_46 : decode cX6_taken 46 = .ok (.getfield 90, 3) := by decide +kernel
theorem dX6_taken_49 : decode cX6_taken 49 = .ok (.iload_n 1, 1) := by decide +kernel
theorem dX6_taken_50 : decode cX6_taken 50 = .ok (.iaload, 1) := by decide +kernel
theorem dX6_taken_51 : decode cX6_taken 51 = .ok (.goto 5, 3) := by decide +kernel
theorem dX6_taken_54 : decode cX6_taken 54 = .ok (.bipush (-13), 2) := by decide +kernel
theorem dX6_taken_56 : decode cX6_taken 56 = .ok (.ireturn, 1) := by decide +kernel
theorem dX6_isUnder_0 : decode cX6_isUnder 0 = .ok (.iload_n 0, 1) := by decide +kernel
theorem dX6_isUnder_1 : decode cX6_isUnder 1 = .ok (.istore_n 2, 1) := by decide +kernel
theorem dX6_isUnder_2 : decode cX6_isUnder 2 = .ok (.iconst 0, 1) := by decide +kernel
theorem dX6_isUnder_3 : decode cX6_isUnder 3 = .ok (.istore_n 3, 1) := by decide +kernel
theorem dX6_isUnder_4 : decode cX6_isUnder 4 = .ok (.iload_n 3, 1) := by decide +kernel
theorem dX6_isUnder_5 : decode cX6_isUnder 5 = .ok (.bipush 6, 2) := by decide +kernel
theorem dX6_isUnder_7 : decode cX6_isUnder 7 = .ok (.if_icmp .ge 31, 3) := by decide +kernel
theorem dX6_isUnder_10 : decode cX6_isUnder 10 = .ok (.iload_n 2, 1) := by decide +kernel
theorem dX6_isUnder_11 : decode cX6_isUnder 11 = .ok (.bipush 6, 2) := by decide +kernel
theorem dX6_isUnder_13 : decode cX6_isUnder 13 = .ok (.invokestatic 100, 3) := by decide +kernel
theorem dX6_isUnder_16 : decode cX6_isUnder 16 = .ok (.ifCond .eq 22, 3) := by decide +kernel
theorem dX6_isUnder_19 : decode cX6_isUnder 19 = .ok (.iload_n 2, 1) := by decide +kernel
theorem dX6_isUnder_20 : decode cX6_isUnder 20 = .ok (.iload_n 1, 1) := by decide +kernel
theorem dX6_isUnder_21 : decode cX6_isUnder 21 = .ok (.if_icmp .ne 5, 3) := by decide +kernel
theorem dX6_isUnder_24 : decode cX6_isUnder 24 = .ok (.iconst 1, 1) := by decide +kernel
theorem dX6_isUnder_25 : decode cX6_isUnder 25 = .ok (.ireturn, 1) := by decide +kernel
theorem dX6_isUnder_26 : decode cX6_isUnder 26 = .ok (.getstatic 328, 3) := by decide +kernel
theorem dX6_isUnder_29 : decode cX6_isUnder 29 = .ok (.iload_n 2, 1) := by decide +kernel
theorem dX6_isUnder_30 : decode cX6_isUnder 30 = .ok (.iaload, 1) := by decide +kernel
theorem dX6_isUnder_31 : decode cX6_isUnder 31 = .ok (.istore_n 2, 1) := by decide +kernel
theorem dX6_isUnder_32 : decode cX6_isUnder 32 = .ok (.iinc 3 1, 3) := by decide +kernel
theorem dX6_isUnder_35 : decode cX6_isUnder 35 = .ok (.goto (-31), 3) := by decide +kernel
theorem dX6_isUnder_38 : decode cX6_isUnder 38 = .ok (.iconst 0, 1) := by decide +kernel
theorem dX6_isUnder_39 : decode cX6_isUnder 39 = .ok (.ireturn, 1) := by decide +kernel
theorem dX6_within_0 : decode cX6_within 0 = .ok (.iload_n 0, 1) := by decide +kernel
theorem dX6_within_1 : decode cX6_within 1 = .ok (.ifCond .lt 12, 3) := by decide +kernel
theorem dX6_within_4 : decode cX6_within 4 = .ok (.iload_n 0, 1) := by decide +kernel
theorem dX6_within_5 : decode cX6_within 5 = .ok (.iload_n 1, 1) := by decide +kernel
theorem dX6_within_6 : decode cX6_within 6 = .ok (.if_icmp .ge 7, 3) := by decide +kernel
theorem dX6_within_9 : decode cX6_within 9 = .ok (.iconst 1, 1) := by decide +kernel
theorem dX6_within_10 : decode cX6_within 10 = .ok (.goto 4, 3) := by decide +kernel
theorem dX6_within_13 : decode cX6_within 13 = .ok (.iconst 0, 1) := by decide +kernel
theorem dX6_within_14 : decode cX6_within 14 = .ok (.ireturn, 1) := by decide +kernel
theorem dX6_bounded_0 : decode cX6_bounded 0 = .ok (.iload_n 1, 1) := by decide +kernel
theorem dX6_bounded_1 : decode cX6_bounded 1 = .ok (.iload_n 2, 1) := by decide +kernel
theorem dX6_bounded_2 : decode cX6_bounded 2 = .ok (.iload_n 0, 1) := by decide +kernel
theorem dX6_bounded_3 : decode cX6_bounded 3 = .ok (.invokestatic 331, 3) := by decide +kernel
theorem dX6_bounded_6 : decode cX6_bounded 6 = .ok (.invokestatic 208, 3) := by decide +kernel
theorem dX6_bounded_9 : decode cX6_bounded 9 = .ok (.ireturn, 1) := by decide +kernel
theorem dX6_milesBelow_0 : decode cX6_milesBelow 0 = .ok (.lconst 1, 1) := by decide +kernel
theorem dX6_milesBelow_1 : decode cX6_milesBelow 1 = .ok (.iload_n 0, 1) := by decide +kernel
theorem dX6_milesBelow_2 : decode cX6_milesBelow 2 = .ok (.iconst 0, 1) := by decide +kernel
theorem dX6_milesBelow_3 : decode cX6_milesBelow 3 = .ok (.bipush 40, 2) := by decide +kernel
theorem dX6_milesBelow_5 : decode cX6_milesBelow 5 = .ok (.invokestatic 334, 3) := by decide +kernel
theorem dX6_milesBelow_8 : decode cX6_milesBelow 8 = .ok (.lshl, 1) := by decide +kernel
theorem dX6_milesBelow_9 : decode cX6_milesBelow 9 = .ok (.lconst 1, 1) := by decide +kernel
theorem dX6_milesBelow_10 : decode cX6_milesBelow 10 = .ok (.lsub, 1) := by decide +kernel
theorem dX6_milesBelow_11 : decode cX6_milesBelow 11 = .ok (.lreturn, 1) := by decide +kernel
theorem dX6_lowest_0 : decode cX6_lowest 0 = .ok (.lload_n 0, 1) := by decide +kernel
theorem dX6_lowest_1 : decode cX6_lowest 1 = .ok (.lload_n 2, 1) := by decide +kernel
theorem dX6_lowest_2 : decode cX6_lowest 2 = .ok (.invokestatic 337, 3) := by decide +kernel
theorem dX6_lowest_5 : decode cX6_lowest 5 = .ok (.lstore 5, 2) := by decide +kernel
theorem dX6_lowest_7 : decode cX6_lowest 7 = .ok (.lload 5, 2) := by decide +kernel
theorem dX6_lowest_9 : decode cX6_lowest 9 = .ok (.lconst 1, 1) := by decide +kernel
theorem dX6_lowest_10 : decode cX6_lowest 10 = .ok (.lcmp, 1) := by decide +kernel
theorem dX6_lowest_11 : decode cX6_lowest 11 = .ok (.ifCond .ge 7, 3) := by decide +kernel
theorem dX6_lowest_14 : decode cX6_lowest 14 = .ok (.ldc2_w 196, 3) := by decide +kernel
theorem dX6_lowest_17 : decode cX6_lowest 17 = .ok (.lreturn, 1) := by decide +kernel
theorem dX6_lowest_18 : decode cX6_lowest 18 = .ok (.iload 4, 2) := by decide +kernel
theorem dX6_lowest_20 : decode cX6_lowest 20 = .ok (.ifCond .ne 7, 3) := by decide +kernel
theorem dX6_lowest_23 : decode cX6_lowest 23 = .ok (.lload_n 0, 1) := by decide +kernel
theorem dX6_lowest_24 : decode cX6_lowest 24 = .ok (.goto 4, 3) := by decide +kernel
theorem dX6_lowest_27 : decode cX6_lowest 27 = .ok (.lload_n 2, 1) := by decide +kernel
theorem dX6_lowest_28 : decode cX6_lowest 28 = .ok (.lload 5, 2) := by decide +kernel
theorem dX6_lowest_30 : decode cX6_lowest 30 = .ok (.ldiv, 1) := by decide +kernel
theorem dX6_lowest_31 : decode cX6_lowest 31 = .ok (.lreturn, 1) := by decide +kernel
theorem dX6_commonDivisor_0 : decode cX6_commonDivisor 0 = .ok (.lload_n 0, 1) := by decide +kernel
theorem dX6_commonDivisor_1 : decode cX6_commonDivisor 1 = .ok (.lstore 4, 2) := by decide +kernel
theorem dX6_commonDivisor_3 : decode cX6_commonDivisor 3 = .ok (.lload_n 2, 1) := by decide +kernel
theorem dX6_commonDivisor_4 : decode cX6_commonDivisor 4 = .ok (.lstore 6, 2) := by decide +kernel
theorem dX6_commonDivisor_6 : decode cX6_commonDivisor 6 = .ok (.iconst 0, 1) := by decide +kernel
theorem dX6_commonDivisor_7 : decode cX6_commonDivisor 7 = .ok (.istore 8, 2) := by decide +kernel
theorem dX6_commonDivisor_9 : decode cX6_commonDivisor 9 = .ok (.iload 8, 2) := by decide +kernel
theorem dX6_commonDivisor_11 : decode cX6_commonDivisor 11 = .ok (.sipush 200, 3) := by decide +kernel
theorem dX6_commonDivisor_14 : decode cX6_commonDivisor 14 = .ok (.if_icmp .ge 31, 3) := by decide +kernel
theorem dX6_commonDivisor_17 : decode cX6_commonDivisor 17 = .ok (.lload 6, 2) := by decide +kernel
theorem dX6_commonDivisor_19 : decode cX6_commonDivisor 19 = .ok (.lconst 0, 1) := by decide +kernel
theorem dX6_commonDivisor_20 : decode cX6_commonDivisor 20 = .ok (.lcmp, 1) := by decide +kernel
theorem dX6_commonDivisor_21 : decode cX6_commonDivisor 21 = .ok (.ifCond .eq 24, 3) := by decide +kernel
theorem dX6_commonDivisor_24 : decode cX6_commonDivisor 24 = .ok (.lload 4, 2) := by decide +kernel
theorem dX6_commonDivisor_26 : decode cX6_commonDivisor 26 = .ok (.lload 6, 2) := by decide +kernel
theorem dX6_commonDivisor_28 : decode cX6_commonDivisor 28 = .ok (.lrem, 1) := by decide +kernel
theorem dX6_commonDivisor_29 : decode cX6_commonDivisor 29 = .ok (.lstore 9, 2) := by decide +kernel
theorem dX6_commonDivisor_31 : decode cX6_commonDivisor 31 = .ok (.lload 6, 2) := by decide +kernel
theorem dX6_commonDivisor_33 : decode cX6_commonDivisor 33 = .ok (.lstore 4, 2) := by decide +kernel
theorem dX6_commonDivisor_35 : decode cX6_commonDivisor 35 = .ok (.lload 9, 2) := by decide +kernel
theorem dX6_commonDivisor_37 : decode cX6_commonDivisor 37 = .ok (.lstore 6, 2) := by decide +kernel
theorem dX6_commonDivisor_39 : decode cX6_commonDivisor 39 = .ok (.iinc 8 1, 3) := by decide +kernel
theorem dX6_commonDivisor_42 : decode cX6_commonDivisor 42 = .ok (.goto (-33), 3) := by decide +kernel
theorem dX6_commonDivisor_45 : decode cX6_commonDivisor 45 = .ok (.lload 4, 2) := by decide +kernel
theorem dX6_commonDivisor_47 : decode cX6_commonDivisor 47 = .ok (.lreturn, 1) := by decide +kernel
theorem dL_law_0 : decode cL_law 0 = .ok (.new 7, 3) := by decide +kernel
theorem dL_law_3 : decode cL_law 3 = .ok (.dup, 1) := by decide +kernel
theorem dL_law_4 : decode cL_law 4 = .ok (.invokespecial 9, 3) := by decide +kernel
theorem dL_law_7 : decode cL_law 7 = .ok (.astore_n 1, 1) := by decide +kernel
theorem dL_law_8 : decode cL_law 8 = .ok (.new 10, 3) := by decide +kernel
theorem dL_law_11 : decode cL_law 11 = .ok (.dup, 1) := by decide +kernel
theorem dL_law_12 : decode cL_law 12 = .ok (.invokespecial 12, 3) := by decide +kernel
theorem dL_law_15 : decode cL_law 15 = .ok (.astore_n 2, 1) := by decide +kernel
theorem dL_law_16 : decode cL_law 16 = .ok (.iconst 0, 1) := by decide +kernel
theorem dL_law_17 : decode cL_law 17 = .ok (.istore_n 3, 1) := by decide +kernel
theorem dL_law_18 : decode cL_law 18 = .ok (.iload_n 3, 1) := by decide +kernel
theorem dL_law_19 : decode cL_law 19 = .ok (.aload_n 0, 1) := by decide +kernel
theorem dL_law_20 : decode cL_law 20 = .ok (.arraylength, 1) := by decide +kernel
theorem dL_law_21 : decode cL_law 21 = .ok (.bipush 6, 2) := by decide +kernel
theorem dL_law_23 : decode cL_law 23 = .ok (.isub, 1) := by decide +kernel
theorem dL_law_24 : decode cL_law 24 = .ok (.if_icmp .gt 1092, 3) := by decide +kernel
theorem dL_law_27 : decode cL_law 27 = .ok (.aload_n 0, 1) := by decide +kernel
theorem dL_law_28 : decode cL_law 28 = .ok (.iload_n 3, 1) := by decide +kernel
theorem dL_law_29 : decode cL_law 29 = .ok (.iaload, 1) := by decide +kernel
theorem dL_law_30 : decode cL_law 30 = .ok (.bipush 31, 2) := by decide +kernel
theorem dL_law_32 : decode cL_law 32 = .ok (.iand, 1) := by decide +kernel
theorem dL_law_33 : decode cL_law 33 = .ok (.tableswitch 1077 0 26 #[123, 166, 209, 242, 265, 278, 301, 334, 357, 380, 404, 447, 480, 513, 567, 600, 643, 686, 729, 793, 806, 819, 842, 885, 928, 991, 1044], 123) := by decide +kernel
theorem dL_law_156 : decode cL_law 156 = .ok (.aload_n 1, 1) := by decide +kernel
theorem dL_law_157 : decode cL_law 157 = .ok (.aload_n 0, 1) := by decide +kernel
theorem dL_law_158 : decode cL_law 158 = .ok (.iload_n 3, 1) := by decide +kernel
theorem dL_law_159 : decode cL_law 159 = .ok (.iconst 1, 1) := by decide +kernel
theorem dL_law_160 : decode cL_law 160 = .ok (.iadd, 1) := by decide +kernel
theorem dL_law_161 : decode cL_law 161 = .ok (.iaload, 1) := by decide +kernel
theorem dL_law_162 : decode cL_law 162 = .ok (.aload_n 0, 1) := by decide +kernel
theorem dL_law_163 : decode cL_law 163 = .ok (.iload_n 3, 1) := by decide +kernel
theorem dL_law_164 : decode cL_law 164 = .ok (.iconst 2, 1) := by decide +kernel
theorem dL_law_165 : decode cL_law 165 = .ok (.iadd, 1) := by decide +kernel
theorem dL_law_166 : decode cL_law 166 = .ok (.iaload, 1) := by decide +kernel
theorem dL_law_167 : decode cL_law 167 = .ok (.aload_n 0, 1) := by decide +kernel
theorem dL_law_168 : decode cL_law 168 = .ok (.iload_n 3, 1) := by decide +kernel
theorem dL_law_169 : decode cL_law 169 = .ok (.iconst 3, 1) := by decide +kernel
theorem dL_law_170 : decode cL_law 170 = .ok (.iadd, 1) := by decide +kernel
theorem dL_law_171 : decode cL_law 171 = .ok (.iaload, 1) := by decide +kernel
theorem dL_law_172 : decode cL_law 172 = .ok (.invokevirtual 13, 3) := by decide +kernel
theorem dL_law_175 : decode cL_law 175 = .ok (.aload_n 2, 1) := by decide +kernel
theorem dL_law_176 : decode cL_law 176 = .ok (.aload_n 0, 1) := by decide +kernel
theorem dL_law_177 : decode cL_law 177 = .ok (.iload_n 3, 1) := by decide +kernel
theorem dL_law_178 : decode cL_law 178 = .ok (.iconst 1, 1) := by decide +kernel
theorem dL_law_179 : decode cL_law 179 = .ok (.iadd, 1) := by decide +kernel
theorem dL_law_180 : decode cL_law 180 = .ok (.iaload, 1) := by decide +kernel
theorem dL_law_181 : decode cL_law 181 = .ok (.aload_n 0, 1) := by decide +kernel
theorem dL_law_182 : decode cL_law 182 = .ok (.iload_n 3, 1) := by decide +kernel
theorem dL_law_183 : decode cL_law 183 = .ok (.iconst 2, 1) := by decide +kernel
theorem dL_law_184 : decode cL_law 184 = .ok (.iadd, 1) := by decide +kernel
theorem dL_law_185 : decode cL_law 185 = .ok (.iaload, 1) := by decide +kernel
theorem dL_law_186 : decode cL_law 186 = .ok (.aload_n 0, 1) := by decide +kernel
theorem dL_law_187 : decode cL_law 187 = .ok (.iload_n 3, 1) := by decide +kernel
theorem dL_law_188 : decode cL_law 188 = .ok (.iconst 3, 1) := by decide +kernel
theorem dL_law_189 : decode cL_law 189 = .ok (.iadd, 1) := by decide +kernel
theorem dL_law_190 : decode cL_law 190 = .ok (.iaload, 1) := by decide +kernel
theorem dL_law_191 : decode cL_law 191 = .ok (.invokevirtual 17, 3) := by decide +kernel
theorem dL_law_194 : decode cL_law 194 = .ok (.if_icmp .eq 916, 3) := by decide +kernel
theorem dL_law_197 : decode cL_law 197 = .ok (.iconst 0, 1) := by decide +kernel
theorem dL_law_198 : decode cL_law 198 = .ok (.ireturn, 1) := by decide +kernel
theorem dL_law_199 : decode cL_law 199 = .ok (.aload_n 1, 1) := by decide +kernel
theorem dL_law_200 : decode cL_law 200 = .ok (.aload_n 0, 1) := by decide +kernel
theorem dL_law_201 : decode cL_law 201 = .ok (.iload_n 3, 1) := by decide +kernel
theorem dL_law_202 : decode cL_law 202 = .ok (.iconst 1, 1) := by decide +kernel
theorem dL_law_203 : decode cL_law 203 = .ok (.iadd, 1) := by decide +kernel
theorem dL_law_204 : decode cL_law 204 = .ok (.iaload, 1) := by decide +kernel
theorem dL_law_205 : decode cL_law 205 = .ok (.aload_n 0, 1) := by decide +kernel
theorem dL_law_206 : decode cL_law 206 = .ok (.iload_n 3, 1) := by decide +kernel
theorem dL_law_207 : decode cL_law 207 = .ok (.iconst 2, 1) := by decide +kernel
theorem dL_law_208 : decode cL_law 208 = .ok (.iadd, 1) := by decide +kernel
theorem dL_law_209 : decode cL_law 209 = .ok (.iaload, 1) := by decide +kernel
theorem dL_law_210 : decode cL_law 210 = .ok (.aload_n 0, 1) := by decide +kernel
theorem dL_law_211 : decode cL_law 211 = .ok (.iload_n 3, 1) := by decide +kernel
theorem dL_law_212 : decode cL_law 212 = .ok (.iconst 3, 1) := by decide +kernel
theorem dL_law_213 : decode cL_law 213 = .ok (.iadd, 1) := by decide +kernel
theorem dL_law_214 : decode cL_law 214 = .ok (.iaload, 1) := by decide +kernel
theorem dL_law_215 : decode cL_law 215 = .ok (.invokevirtual 18, 3) := by decide +kernel
theorem dL_law_218 : decode cL_law 218 = .ok (.aload_n 2, 1) := by decide +kernel
theorem dL_law_219 : decode cL_law 219 = .ok (.aload_n 0, 1) := by decide +kernel
theorem dL_law_220 : decode cL_law 220 = .ok (.iload_n 3, 1) := by decide +kernel
theorem dL_law_221 : decode cL_law 221 = .ok (.iconst 1, 1) := by decide +kernel
theorem dL_law_222 : decode cL_law 222 = .ok (.iadd, 1) := by decide +kernel
theorem dL_law_223 : decode cL_law 223 = .ok (.iaload, 1) := by decide +kernel
theorem dL_law_224 : decode cL_law 224 = .ok (.aload_n 0, 1) := by decide +kernel
theorem dL_law_225 : decode cL_law 225 = .ok (.iload_n 3, 1) := by decide +kernel
theorem dL_law_226 : decode cL_law 226 = .ok (.iconst 2, 1) := by decide +kernel
theorem dL_law_227 : decode cL_law 227 = .ok (.iadd, 1) := by decide +kernel
theorem dL_law_228 : decode cL_law 228 = .ok (.iaload, 1) := by decide +kernel
theorem dL_law_229 : decode cL_law 229 = .ok (.aload_n 0, 1) := by decide +kernel
theorem dL_law_230 : decode cL_law 230 = .ok (.iload_n 3, 1) := by decide +kernel
theorem dL_law_231 : decode cL_law 231 = .ok (.iconst 3, 1) := by decide +kernel
theorem dL_law_232 : decode cL_law 232 = .ok (.iadd, 1) := by decide +kernel
theorem dL_law_233 : decode cL_law 233 = .ok (.iaload, 1) := by decide +kernel
theorem dL_law_234 : decode cL_law 234 = .ok (.invokevirtual 21, 3) := by decide +kernel
theorem dL_law_237 : decode cL_law 237 = .ok (.if_icmp .eq 873, 3) := by decide +kernel
theorem dL_law_240 : decode cL_law 240 = .ok (.iconst 0, 1) := by decide +kernel
theorem dL_law_241 : decode cL_law 241 = .ok (.ireturn, 1) := by decide +kernel
theorem dL_law_242 : decode cL_law 242 = .ok (.aload_n 1, 1) := by decide +kernel
theorem dL_law_243 : decode cL_law 243 = .ok (.aload_n 0, 1) := by decide +kernel
theorem dL_law_244 : decode cL_law 244 = .ok (.iload_n 3, 1) := by decide +kernel
theorem dL_law_245 : decode cL_law 245 = .ok (.iconst 1, 1) := by decide +kernel
theorem dL_law_246 : decode cL_law 246 = .ok (.iadd, 1) := by decide +kernel
theorem dL_law_247 : decode cL_law 247 = .ok (.iaload, 1) := by decide +kernel
theorem dL_law_248 : decode cL_law 248 = .ok (.aload_n 0, 1) := by decide +kernel
theorem dL_law_249 : decode cL_law 249 = .ok (.iload_n 3, 1) := by decide +kernel
theorem dL_law_250 : decode cL_law 250 = .ok (.iconst 2, 1) := by decide +kernel
theorem dL_law_251 : decode cL_law 251 = .ok (.iadd, 1) := by decide +kernel
theorem dL_law_252 : decode cL_law 252 = .ok (.iaload, 1) := by decide +kernel
theorem dL_law_253 : decode cL_law 253 = .ok (.invokevirtual 22, 3) := by decide +kernel
theorem dL_law_256 : decode cL_law 256 = .ok (.aload_n 2, 1) := by decide +kernel
theorem dL_law_257 : decode cL_law 257 = .ok (.aload_n 0, 1) := by decide +kernel
theorem dL_law_258 : decode cL_law 258 = .ok (.iload_n 3, 1) := by decide +kernel
theorem dL_law_259 : decode cL_law 259 = .ok (.iconst 1, 1) := by decide +kernel
theorem dL_law_260 : decode cL_law 260 = .ok (.iadd, 1) := by decide +kernel
theorem dL_law_261 : decode cL_law 261 = .ok (.iaload, 1) := by decide +kernel
theorem dL_law_262 : decode cL_law 262 = .ok (.aload_n 0, 1) := by decide +kernel
theorem dL_law_263 : decode cL_law 263 = .ok (.iload_n 3, 1) := by decide +kernel
theorem dL_law_264 : decode cL_law 264 = .ok (.iconst 2, 1) := by decide +kernel
theorem dL_law_265 : decode cL_law 265 = .ok (.iadd, 1) := by decide +kernel
theorem dL_law_266 : decode cL_law 266 = .ok (.iaload, 1) := by decide +kernel
theorem dL_law_267 : decode cL_law 267 = .ok (.invokevirtual 26, 3) := by decide +kernel
theorem dL_law_270 : decode cL_law 270 = .ok (.if_icmp .eq 840, 3) := by decide +kernel
theorem dL_law_273 : decode cL_law 273 = .ok (.iconst 0, 1) := by decide +kernel
theorem dL_law_274 : decode cL_law 274 = .ok (.ireturn, 1) := by decide +kernel
theorem dL_law_275 : decode cL_law 275 = .ok (.aload_n 1, 1) := by decide +kernel
theorem dL_law_276 : decode cL_law 276 = .ok (.aload_n 0, 1) := by decide +kernel
theorem dL_law_277 : decode cL_law 277 = .ok (.iload_n 3, 1) := by decide +kernel
theorem dL_law_278 : decode cL_law 278 = .ok (.iconst 1, 1) := by decide +kernel
theorem dL_law_279 : decode cL_law 279 = .ok (.iadd, 1) := by decide +kernel
theorem dL_law_280 : decode cL_law 280 = .ok (.iaload, 1) := by decide +kernel
theorem dL_law_281 : decode cL_law 281 = .ok (.invokevirtual 27, 3) := by decide +kernel
theorem dL_law_284 : decode cL_law 284 = .ok (.aload_n 2, 1) := by decide +kernel
theorem dL_law_285 : decode cL_law 285 = .ok (.aload_n 0, 1) := by decide +kernel
theorem dL_law_286 : decode cL_law 286 = .ok (.iload_n 3, 1) := by decide +kernel
theorem dL_law_287 : decode cL_law 287 = .ok (.iconst 1, 1) := by decide +kernel
theorem dL_law_288 : decode cL_law 288 = .ok (.iadd, 1) := by decide +kernel
theorem dL_law_289 : decode cL_law 289 = .ok (.iaload, 1) := by decide +kernel
theorem dL_law_290 : decode cL_law 290 = .ok (.invokevirtual 31, 3) := by decide +kernel
theorem dL_law_293 : decode cL_law 293 = .ok (.if_icmp .eq 817, 3) := by decide +kernel
theorem dL_law_296 : decode cL_law 296 = .ok (.iconst 0, 1) := by decide +kernel
theorem dL_law_297 : decode cL_law 297 = .ok (.ireturn, 1) := by decide +kernel
theorem dL_law_298 : decode cL_law 298 = .ok (.aload_n 1, 1) := by decide +kernel
theorem dL_law_299 : decode cL_law 299 = .ok (.invokevirtual 32, 3) := by decide +kernel
theorem dL_law_302 : decode cL_law 302 = .ok (.aload_n 2, 1) := by decide +kernel
theorem dL_law_303 : decode cL_law 303 = .ok (.invokevirtual 36, 3) := by decide +kernel
theorem dL_law_306 : decode cL_law 306 = .ok (.if_icmp .eq 804, 3) := by decide +kernel
theorem dL_law_309 : decode cL_law 309 = .ok (.iconst 0, 1) := by decide +kernel
theorem dL_law_310 : decode cL_law 310 = .ok (.ireturn, 1) := by decide +kernel
theorem dL_law_311 : decode cL_law 311 = .ok (.aload_n 1, 1) := by decide +kernel
theorem dL_law_312 : decode cL_law 312 = .ok (.aload_n 0, 1) := by decide +kernel
theorem dL_law_313 : decode cL_law 313 = .ok (.iload_n 3, 1) := by decide +kernel
theorem dL_law_314 : decode cL_law 314 = .ok (.iconst 1, 1) := by decide +kernel
theorem dL_law_315 : decode cL_law 315 = .ok (.iadd, 1) := by decide +kernel
theorem dL_law_316 : decode cL_law 316 = .ok (.iaload, 1) := by decide +kernel
theorem dL_law_317 : decode cL_law 317 = .ok (.invokevirtual 37, 3) := by decide +kernel
theorem dL_law_320 : decode cL_law 320 = .ok (.aload_n 2, 1) := by decide +kernel
theorem dL_law_321 : decode cL_law 321 = .ok (.aload_n 0, 1) := by decide +kernel
theorem dL_law_322 : decode cL_law 322 = .ok (.iload_n 3, 1) := by decide +kernel
theorem dL_law_323 : decode cL_law 323 = .ok (.iconst 1, 1) := by decide +kernel
theorem dL_law_324 : decode cL_law 324 = .ok (.iadd, 1) := by decide +kernel
theorem dL_law_325 : decode cL_law 325 = .ok (.iaload, 1) := by decide +kernel
theorem dL_law_326 : decode cL_law 326 = .ok (.invokevirtual 40, 3) := by decide +kernel
theorem dL_law_329 : decode cL_law 329 = .ok (.if_icmp .eq 781, 3) := by decide +kernel
theorem dL_law_332 : decode cL_law 332 = .ok (.iconst 0, 1) := by decide +kernel
theorem dL_law_333 : decode cL_law 333 = .ok (.ireturn, 1) := by decide +kernel
theorem dL_law_334 : decode cL_law 334 = .ok (.aload_n 1, 1) := by decide +kernel
theorem dL_law_335 : decode cL_law 335 = .ok (.aload_n 0, 1) := by decide +kernel
theorem dL_law_336 : decode cL_law 336 = .ok (.iload_n 3, 1) := by decide +kernel
theorem dL_law_337 : decode cL_law 337 = .ok (.iconst 1, 1) := by decide +kernel
theorem dL_law_338 : decode cL_law 338 = .ok (.iadd, 1) := by decide +kernel
theorem dL_law_339 : decode cL_law 339 = .ok (.iaload, 1) := by decide +kernel
theorem dL_law_340 : decode cL_law 340 = .ok (.aload_n 0, 1) := by decide +kernel
theorem dL_law_341 : decode cL_law 341 = .ok (.iload_n 3, 1) := by decide +kernel
theorem dL_law_342 : decode cL_law 342 = .ok (.iconst 2, 1) := by decide +kernel
theorem dL_law_343 : decode cL_law 343 = .ok (.iadd, 1) := by decide +kernel
theorem dL_law_344 : decode cL_law 344 = .ok (.iaload, 1) := by decide +kernel
theorem dL_law_345 : decode cL_law 345 = .ok (.invokevirtual 41, 3) := by decide +kernel
theorem dL_law_348 : decode cL_law 348 = .ok (.aload_n 2, 1) := by decide +kernel
theorem dL_law_349 : decode cL_law 349 = .ok (.aload_n 0, 1) := by decide +kernel
theorem dL_law_350 : decode cL_law 350 = .ok (.iload_n 3, 1) := by decide +kernel
theorem dL_law_351 : decode cL_law 351 = .ok (.iconst 1, 1) := by decide +kernel
theorem dL_law_352 : decode cL_law 352 = .ok (.iadd, 1) := by decide +kernel
theorem dL_law_353 : decode cL_law 353 = .ok (.iaload, 1) := by decide +kernel
theorem dL_law_354 : decode cL_law 354 = .ok (.aload_n 0, 1) := by decide +kernel
theorem dL_law_355 : decode cL_law 355 = .ok (.iload_n 3, 1) := by decide +kernel
theorem dL_law_356 : decode cL_law 356 = .ok (.iconst 2, 1) := by decide +kernel
theorem dL_law_357 : decode cL_law 357 = .ok (.iadd, 1) := by decide +kernel
theorem dL_law_358 : decode cL_law 358 = .ok (.iaload, 1) := by decide +kernel
theorem dL_law_359 : decode cL_law 359 = .ok (.invokevirtual 44, 3) := by decide +kernel
theorem dL_law_362 : decode cL_law 362 = .ok (.if_icmp .eq 748, 3) := by decide +kernel
theorem dL_law_365 : decode cL_law 365 = .ok (.iconst 0, 1) := by decide +kernel
theorem dL_law_366 : decode cL_law 366 = .ok (.ireturn, 1) := by decide +kernel
theorem dL_law_367 : decode cL_law 367 = .ok (.aload_n 1, 1) := by decide +kernel
theorem dL_law_368 : decode cL_law 368 = .ok (.aload_n 0, 1) := by decide +kernel
theorem dL_law_369 : decode cL_law 369 = .ok (.iload_n 3, 1) := by decide +kernel
theorem dL_law_370 : decode cL_law 370 = .ok (.iconst 1, 1) := by decide +kernel
theorem dL_law_371 : decode cL_law 371 = .ok (.iadd, 1) := by decide +kernel
theorem dL_law_372 : decode cL_law 372 = .ok (.iaload, 1) := by decide +kernel
theorem dL_law_373 : decode cL_law 373 = .ok (.invokevirtual 45, 3) := by decide +kernel
theorem dL_law_376 : decode cL_law 376 = .ok (.aload_n 2, 1) := by decide +kernel
theorem dL_law_377 : decode cL_law 377 = .ok (.aload_n 0, 1) := by decide +kernel
theorem dL_law_378 : decode cL_law 378 = .ok (.iload_n 3, 1) := by decide +kernel
theorem dL_law_379 : decode cL_law 379 = .ok (.iconst 1, 1) := by decide +kernel
theorem dL_law_380 : decode cL_law 380 = .ok (.iadd, 1) := by decide +kernel
theorem dL_law_381 : decode cL_law 381 = .ok (.iaload, 1) := by decide +kernel
theorem dL_law_382 : decode cL_law 382 = .ok (.invokevirtual 48, 3) := by decide +kernel
theorem dL_law_385 : decode cL_law 385 = .ok (.if_icmp .eq 725, 3) := by decide +kernel
theorem dL_law_388 : decode cL_law 388 = .ok (.iconst 0, 1) := by decide +kernel
theorem dL_law_389 : decode cL_law 389 = .ok (.ireturn, 1) := by decide +kernel
theorem dL_law_390 : decode cL_law 390 = .ok (.aload_n 1, 1) := by decide +kernel
theorem dL_law_391 : decode cL_law 391 = .ok (.aload_n 0, 1) := by decide +kernel
theorem dL_law_392 : decode cL_law 392 = .ok (.iload_n 3, 1) := by decide +kernel
theorem dL_law_393 : decode cL_law 393 = .ok (.iconst 1, 1) := by decide +kernel
theorem dL_law_394 : decode cL_law 394 = .ok (.iadd, 1) := by decide +kernel
theorem dL_law_395 : decode cL_law 395 = .ok (.iaload, 1) := by decide +kernel
theorem dL_law_396 : decode cL_law 396 = .ok (.invokevirtual 49, 3) := by decide +kernel
theorem dL_law_399 : decode cL_law 399 = .ok (.aload_n 2, 1) := by decide +kernel
theorem dL_law_400 : decode cL_law 400 = .ok (.aload_n 0, 1) := by decide +kernel
theorem dL_law_401 : decode cL_law 401 = .ok (.iload_n 3, 1) := by decide +kernel
theorem dL_law_402 : decode cL_law 402 = .ok (.iconst 1, 1) := by decide +kernel
theorem dL_law_403 : decode cL_law 403 = .ok (.iadd, 1) := by decide +kernel
theorem dL_law_404 : decode cL_law 404 = .ok (.iaload, 1) := by decide +kernel
theorem dL_law_405 : decode cL_law 405 = .ok (.invokevirtual 52, 3) := by decide +kernel
theorem dL_law_408 : decode cL_law 408 = .ok (.if_icmp .eq 702, 3) := by decide +kernel
theorem dL_law_411 : decode cL_law 411 = .ok (.iconst 0, 1) := by decide +kernel
theorem dL_law_412 : decode cL_law 412 = .ok (.ireturn, 1) := by decide +kernel
theorem dL_law_413 : decode cL_law 413 = .ok (.aload_n 1, 1) := by decide +kernel
theorem dL_law_414 : decode cL_law 414 = .ok (.aload_n 0, 1) := by decide +kernel
theorem dL_law_415 : decode cL_law 415 = .ok (.iload_n 3, 1) := by decide +kernel
theorem dL_law_416 : decode cL_law 416 = .ok (.iconst 1, 1) := by decide +kernel
theorem dL_law_417 : decode cL_law 417 = .ok (.iadd, 1) := by decide +kernel
theorem dL_law_418 : decode cL_law 418 = .ok (.iaload, 1) := by decide +kernel
theorem dL_law_419 : decode cL_law 419 = .ok (.invokevirtual 53, 3) := by decide +kernel
theorem dL_law_422 : decode cL_law 422 = .ok (.aload_n 2, 1) := by decide +kernel
theorem dL_law_423 : decode cL_law 423 = .ok (.aload_n 0, 1) := by decide +kernel
theorem dL_law_424 : decode cL_law 424 = .ok (.iload_n 3, 1) := by decide +kernel
theorem dL_law_425 : decode cL_law 425 = .ok (.iconst 1, 1) := by decide +kernel
theorem dL_law_426 : decode cL_law 426 = .ok (.iadd, 1) := by decide +kernel
theorem dL_law_427 : decode cL_law 427 = .ok (.iaload, 1) := by decide +kernel
theorem dL_law_428 : decode cL_law 428 = .ok (.invokevirtual 57, 3) := by decide +kernel
theorem dL_law_431 : decode cL_law 431 = .ok (.lcmp, 1) := by decide +kernel
theorem dL_law_432 : decode cL_law 432 = .ok (.ifCond .eq 678, 3) := by decide +kernel
theorem dL_law_435 : decode cL_law 435 = .ok (.iconst 0, 1) := by decide +kernel
theorem dL_law_436 : decode cL_law 436 = .ok (.ireturn, 1) := by decide +kernel
theorem dL_law_437 : decode cL_law 437 = .ok (.aload_n 1, 1) := by decide +kernel
theorem dL_law_438 : decode cL_law 438 = .ok (.aload_n 0, 1) := by decide +kernel
theorem dL_law_439 : decode cL_law 439 = .ok (.iload_n 3, 1) := by decide +kernel
theorem dL_law_440 : decode cL_law 440 = .ok (.iconst 1, 1) := by decide +kernel
theorem dL_law_441 : decode cL_law 441 = .ok (.iadd, 1) := by decide +kernel
theorem dL_law_442 : decode cL_law 442 = .ok (.iaload, 1) := by decide +kernel
theorem dL_law_443 : decode cL_law 443 = .ok (.aload_n 0, 1) := by decide +kernel
theorem dL_law_444 : decode cL_law 444 = .ok (.iload_n 3, 1) := by decide +kernel
theorem dL_law_445 : decode cL_law 445 = .ok (.iconst 2, 1) := by decide +kernel
theorem dL_law_446 : decode cL_law 446 = .ok (.iadd, 1) := by decide +kernel
theorem dL_law_447 : decode cL_law 447 = .ok (.iaload, 1) := by decide +kernel
theorem dL_law_448 : decode cL_law 448 = .ok (.aload_n 0, 1) := by decide +kernel
theorem dL_law_449 : decode cL_law 449 = .ok (.iload_n 3, 1) := by decide +kernel
theorem dL_law_450 : decode cL_law 450 = .ok (.iconst 3, 1) := by decide +kernel
theorem dL_law_451 : decode cL_law 451 = .ok (.iadd, 1) := by decide +kernel
theorem dL_law_452 : decode cL_law 452 = .ok (.iaload, 1) := by decide +kernel
theorem dL_law_453 : decode cL_law 453 = .ok (.invokevirtual 58, 3) := by decide +kernel
theorem dL_law_456 : decode cL_law 456 = .ok (.aload_n 2, 1) := by decide +kernel
theorem dL_law_457 : decode cL_law 457 = .ok (.aload_n 0, 1) := by decide +kernel
theorem dL_law_458 : decode cL_law 458 = .ok (.iload_n 3, 1) := by decide +kernel
theorem dL_law_459 : decode cL_law 459 = .ok (.iconst 1, 1) := by decide +kernel
theorem dL_law_460 : decode cL_law 460 = .ok (.iadd, 1) := by decide +kernel
theorem dL_law_461 : decode cL_law 461 = .ok (.iaload, 1) := by decide +kernel
theorem dL_law_462 : decode cL_law 462 = .ok (.aload_n 0, 1) := by decide +kernel
theorem dL_law_463 : decode cL_law 463 = .ok (.iload_n 3, 1) := by decide +kernel
theorem dL_law_464 : decode cL_law 464 = .ok (.iconst 2, 1) := by decide +kernel
theorem dL_law_465 : decode cL_law 465 = .ok (.iadd, 1) := by decide +kernel
theorem dL_law_466 : decode cL_law 466 = .ok (.iaload, 1) := by decide +kernel
theorem dL_law_467 : decode cL_law 467 = .ok (.aload_n 0, 1) := by decide +kernel
theorem dL_law_468 : decode cL_law 468 = .ok (.iload_n 3, 1) := by decide +kernel
theorem dL_law_469 : decode cL_law 469 = .ok (.iconst 3, 1) := by decide +kernel
theorem dL_law_470 : decode cL_law 470 = .ok (.iadd, 1) := by decide +kernel
theorem dL_law_471 : decode cL_law 471 = .ok (.iaload, 1) := by decide +kernel
theorem dL_law_472 : decode cL_law 472 = .ok (.invokevirtual 61, 3) := by decide +kernel
theorem dL_law_475 : decode cL_law 475 = .ok (.if_icmp .eq 635, 3) := by decide +kernel
theorem dL_law_478 : decode cL_law 478 = .ok (.iconst 0, 1) := by decide +kernel
theorem dL_law_479 : decode cL_law 479 = .ok (.ireturn, 1) := by decide +kernel
theorem dL_law_480 : decode cL_law 480 = .ok (.aload_n 1, 1) := by decide +kernel
theorem dL_law_481 : decode cL_law 481 = .ok (.aload_n 0, 1) := by decide +kernel
theorem dL_law_482 : decode cL_law 482 = .ok (.iload_n 3, 1) := by decide +kernel
theorem dL_law_483 : decode cL_law 483 = .ok (.iconst 1, 1) := by decide +kernel
theorem dL_law_484 : decode cL_law 484 = .ok (.iadd, 1) := by decide +kernel
theorem dL_law_485 : decode cL_law 485 = .ok (.iaload, 1) := by decide +kernel
theorem dL_law_486 : decode cL_law 486 = .ok (.aload_n 0, 1) := by decide +kernel
theorem dL_law_487 : decode cL_law 487 = .ok (.iload_n 3, 1) := by decide +kernel
theorem dL_law_488 : decode cL_law 488 = .ok (.iconst 2, 1) := by decide +kernel
theorem dL_law_489 : decode cL_law 489 = .ok (.iadd, 1) := by decide +kernel
theorem dL_law_490 : decode cL_law 490 = .ok (.iaload, 1) := by decide +kernel
theorem dL_law_491 : decode cL_law 491 = .ok (.invokevirtual 62, 3) := by decide +kernel
theorem dL_law_494 : decode cL_law 494 = .ok (.aload_n 2, 1) := by decide +kernel
theorem dL_law_495 : decode cL_law 495 = .ok (.aload_n 0, 1) := by decide +kernel
theorem dL_law_496 : decode cL_law 496 = .ok (.iload_n 3, 1) := by decide +kernel
theorem dL_law_497 : decode cL_law 497 = .ok (.iconst 1, 1) := by decide +kernel
theorem dL_law_498 : decode cL_law 498 = .ok (.iadd, 1) := by decide +kernel
theorem dL_law_499 : decode cL_law 499 = .ok (.iaload, 1) := by decide +kernel
theorem dL_law_500 : decode cL_law 500 = .ok (.aload_n 0, 1) := by decide +kernel
theorem dL_law_501 : decode cL_law 501 = .ok (.iload_n 3, 1) := by decide +kernel
theorem dL_law_502 : decode cL_law 502 = .ok (.iconst 2, 1) := by decide +kernel
theorem dL_law_503 : decode cL_law 503 = .ok (.iadd, 1) := by decide +kernel
theorem dL_law_504 : decode cL_law 504 = .ok (.iaload, 1) := by decide +kernel
theorem dL_law_505 : decode cL_law 505 = .ok (.invokevirtual 65, 3) := by decide +kernel
theorem dL_law_508 : decode cL_law 508 = .ok (.if_icmp .eq 602, 3) := by decide +kernel
theorem dL_law_511 : decode cL_law 511 = .ok (.iconst 0, 1) := by decide +kernel
theorem dL_law_512 : decode cL_law 512 = .ok (.ireturn, 1) := by decide +kernel
theorem dL_law_513 : decode cL_law 513 = .ok (.aload_n 1, 1) := by decide +kernel
theorem dL_law_514 : decode cL_law 514 = .ok (.aload_n 0, 1) := by decide +kernel
theorem dL_law_515 : decode cL_law 515 = .ok (.iload_n 3, 1) := by decide +kernel
theorem dL_law_516 : decode cL_law 516 = .ok (.iconst 1, 1) := by decide +kernel
theorem dL_law_517 : decode cL_law 517 = .ok (.iadd, 1) := by decide +kernel
theorem dL_law_518 : decode cL_law 518 = .ok (.iaload, 1) := by decide +kernel
theorem dL_law_519 : decode cL_law 519 = .ok (.aload_n 0, 1) := by decide +kernel
theorem dL_law_520 : decode cL_law 520 = .ok (.iload_n 3, 1) := by decide +kernel
theorem dL_law_521 : decode cL_law 521 = .ok (.iconst 2, 1) := by decide +kernel
theorem dL_law_522 : decode cL_law 522 = .ok (.iadd, 1) := by decide +kernel
theorem dL_law_523 : decode cL_law 523 = .ok (.iaload, 1) := by decide +kernel
theorem dL_law_524 : decode cL_law 524 = .ok (.invokevirtual 66, 3) := by decide +kernel
theorem dL_law_527 : decode cL_law 527 = .ok (.aload_n 2, 1) := by decide +kernel
theorem dL_law_528 : decode cL_law 528 = .ok (.aload_n 0, 1) := by decide +kernel
theorem dL_law_529 : decode cL_law 529 = .ok (.iload_n 3, 1) := by decide +kernel
theorem dL_law_530 : decode cL_law 530 = .ok (.iconst 1, 1) := by decide +kernel
theorem dL_law_531 : decode cL_law 531 = .ok (.iadd, 1) := by decide +kernel
theorem dL_law_532 : decode cL_law 532 = .ok (.iaload, 1) := by decide +kernel
theorem dL_law_533 : decode cL_law 533 = .ok (.aload_n 0, 1) := by decide +kernel
theorem dL_law_534 : decode cL_law 534 = .ok (.iload_n 3, 1) := by decide +kernel
theorem dL_law_535 : decode cL_law 535 = .ok (.iconst 2, 1) := by decide +kernel
theorem dL_law_536 : decode cL_law 536 = .ok (.iadd, 1) := by decide +kernel
theorem dL_law_537 : decode cL_law 537 = .ok (.iaload, 1) := by decide +kernel
theorem dL_law_538 : decode cL_law 538 = .ok (.invokevirtual 69, 3) := by decide +kernel
theorem dL_law_541 : decode cL_law 541 = .ok (.if_icmp .eq 569, 3) := by decide +kernel
theorem dL_law_544 : decode cL_law 544 = .ok (.iconst 0, 1) := by decide +kernel
theorem dL_law_545 : decode cL_law 545 = .ok (.ireturn, 1) := by decide +kernel
theorem dL_law_546 : decode cL_law 546 = .ok (.aload_n 1, 1) := by decide +kernel
theorem dL_law_547 : decode cL_law 547 = .ok (.aload_n 0, 1) := by decide +kernel
theorem dL_law_548 : decode cL_law 548 = .ok (.iload_n 3, 1) := by decide +kernel
theorem dL_law_549 : decode cL_law 549 = .ok (.iconst 1, 1) := by decide +kernel
theorem dL_law_550 : decode cL_law 550 = .ok (.iadd, 1) := by decide +kernel
theorem dL_law_551 : decode cL_law 551 = .ok (.iaload, 1) := by decide +kernel
theorem dL_law_552 : decode cL_law 552 = .ok (.aload_n 0, 1) := by decide +kernel
theorem dL_law_553 : decode cL_law 553 = .ok (.iload_n 3, 1) := by decide +kernel
theorem dL_law_554 : decode cL_law 554 = .ok (.iconst 2, 1) := by decide +kernel
theorem dL_law_555 : decode cL_law 555 = .ok (.iadd, 1) := by decide +kernel
theorem dL_law_556 : decode cL_law 556 = .ok (.iaload, 1) := by decide +kernel
theorem dL_law_557 : decode cL_law 557 = .ok (.aload_n 0, 1) := by decide +kernel
theorem dL_law_558 : decode cL_law 558 = .ok (.iload_n 3, 1) := by decide +kernel
theorem dL_law_559 : decode cL_law 559 = .ok (.iconst 3, 1) := by decide +kernel
theorem dL_law_560 : decode cL_law 560 = .ok (.iadd, 1) := by decide +kernel
theorem dL_law_561 : decode cL_law 561 = .ok (.iaload, 1) := by decide +kernel
theorem dL_law_562 : decode cL_law 562 = .ok (.aload_n 0, 1) := by decide +kernel
theorem dL_law_563 : decode cL_law 563 = .ok (.iload_n 3, 1) := by decide +kernel
theorem dL_law_564 : decode cL_law 564 = .ok (.iconst 4, 1) := by decide +kernel
theorem dL_law_565 : decode cL_law 565 = .ok (.iadd, 1) := by decide +kernel
theorem dL_law_566 : decode cL_law 566 = .ok (.iaload, 1) := by decide +kernel
theorem dL_law_567 : decode cL_law 567 = .ok (.invokevirtual 70, 3) := by decide +kernel
theorem dL_law_570 : decode cL_law 570 = .ok (.aload_n 2, 1) := by decide +kernel
theorem dL_law_571 : decode cL_law 571 = .ok (.aload_n 0, 1) := by decide +kernel
theorem dL_law_572 : decode cL_law 572 = .ok (.iload_n 3, 1) := by decide +kernel
theorem dL_law_573 : decode cL_law 573 = .ok (.iconst 1, 1) := by decide +kernel
theorem dL_law_574 : decode cL_law 574 = .ok (.iadd, 1) := by decide +kernel
theorem dL_law_575 : decode cL_law 575 = .ok (.iaload, 1) := by decide +kernel
theorem dL_law_576 : decode cL_law 576 = .ok (.aload_n 0, 1) := by decide +kernel
theorem dL_law_577 : decode cL_law 577 = .ok (.iload_n 3, 1) := by decide +kernel
theorem dL_law_578 : decode cL_law 578 = .ok (.iconst 2, 1) := by decide +kernel
theorem dL_law_579 : decode cL_law 579 = .ok (.iadd, 1) := by decide +kernel
theorem dL_law_580 : decode cL_law 580 = .ok (.iaload, 1) := by decide +kernel
theorem dL_law_581 : decode cL_law 581 = .ok (.aload_n 0, 1) := by decide +kernel
theorem dL_law_582 : decode cL_law 582 = .ok (.iload_n 3, 1) := by decide +kernel
theorem dL_law_583 : decode cL_law 583 = .ok (.iconst 3, 1) := by decide +kernel
theorem dL_law_584 : decode cL_law 584 = .ok (.iadd, 1) := by decide +kernel
theorem dL_law_585 : decode cL_law 585 = .ok (.iaload, 1) := by decide +kernel
theorem dL_law_586 : decode cL_law 586 = .ok (.aload_n 0, 1) := by decide +kernel
theorem dL_law_587 : decode cL_law 587 = .ok (.iload_n 3, 1) := by decide +kernel
theorem dL_law_588 : decode cL_law 588 = .ok (.iconst 4, 1) := by decide +kernel
theorem dL_law_589 : decode cL_law 589 = .ok (.iadd, 1) := by decide +kernel
theorem dL_law_590 : decode cL_law 590 = .ok (.iaload, 1) := by decide +kernel
theorem dL_law_591 : decode cL_law 591 = .ok (.invokevirtual 74, 3) := by decide +kernel
theorem dL_law_594 : decode cL_law 594 = .ok (.lcmp, 1) := by decide +kernel
theorem dL_law_595 : decode cL_law 595 = .ok (.ifCond .eq 515, 3) := by decide +kernel
theorem dL_law_598 : decode cL_law 598 = .ok (.iconst 0, 1) := by decide +kernel
theorem dL_law_599 : decode cL_law 599 = .ok (.ireturn, 1) := by decide +kernel
theorem dL_law_600 : decode cL_law 600 = .ok (.aload_n 1, 1) := by decide +kernel
theorem dL_law_601 : decode cL_law 601 = .ok (.aload_n 0, 1) := by decide +kernel
theorem dL_law_602 : decode cL_law 602 = .ok (.iload_n 3, 1) := by decide +kernel
theorem dL_law_603 : decode cL_law 603 = .ok (.iconst 1, 1) := by decide +kernel
theorem dL_law_604 : decode cL_law 604 = .ok (.iadd, 1) := by decide +kernel
theorem dL_law_605 : decode cL_law 605 = .ok (.iaload, 1) := by decide +kernel
theorem dL_law_606 : decode cL_law 606 = .ok (.aload_n 0, 1) := by decide +kernel
theorem dL_law_607 : decode cL_law 607 = .ok (.iload_n 3, 1) := by decide +kernel
theorem dL_law_608 : decode cL_law 608 = .ok (.iconst 2, 1) := by decide +kernel
theorem dL_law_609 : decode cL_law 609 = .ok (.iadd, 1) := by decide +kernel
theorem dL_law_610 : decode cL_law 610 = .ok (.iaload, 1) := by decide +kernel
theorem dL_law_611 : decode cL_law 611 = .ok (.invokevirtual 75, 3) := by decide +kernel
theorem dL_law_614 : decode cL_law 614 = .ok (.aload_n 2, 1) := by decide +kernel
theorem dL_law_615 : decode cL_law 615 = .ok (.aload_n 0, 1) := by decide +kernel
theorem dL_law_616 : decode cL_law 616 = .ok (.iload_n 3, 1) := by decide +kernel
theorem dL_law_617 : decode cL_law 617 = .ok (.iconst 1, 1) := by decide +kernel
theorem dL_law_618 : decode cL_law 618 = .ok (.iadd, 1) := by decide +kernel
theorem dL_law_619 : decode cL_law 619 = .ok (.iaload, 1) := by decide +kernel
theorem dL_law_620 : decode cL_law 620 = .ok (.aload_n 0, 1) := by decide +kernel
theorem dL_law_621 : decode cL_law 621 = .ok (.iload_n 3, 1) := by decide +kernel
theorem dL_law_622 : decode cL_law 622 = .ok (.iconst 2, 1) := by decide +kernel
theorem dL_law_623 : decode cL_law 623 = .ok (.iadd, 1) := by decide +kernel
theorem dL_law_624 : decode cL_law 624 = .ok (.iaload, 1) := by decide +kernel
theorem dL_law_625 : decode cL_law 625 = .ok (.invokevirtual 78, 3) := by decide +kernel
theorem dL_law_628 : decode cL_law 628 = .ok (.if_icmp .eq 482, 3) := by decide +kernel
theorem dL_law_631 : decode cL_law 631 = .ok (.iconst 0, 1) := by decide +kernel
theorem dL_law_632 : decode cL_law 632 = .ok (.ireturn, 1) := by decide +kernel
theorem dL_law_633 : decode cL_law 633 = .ok (.aload_n 1, 1) := by decide +kernel
theorem dL_law_634 : decode cL_law 634 = .ok (.aload_n 0, 1) := by decide +kernel
theorem dL_law_635 : decode cL_law 635 = .ok (.iload_n 3, 1) := by decide +kernel
theorem dL_law_636 : decode cL_law 636 = .ok (.iconst 1, 1) := by decide +kernel
theorem dL_law_637 : decode cL_law 637 = .ok (.iadd, 1) := by decide +kernel
theorem dL_law_638 : decode cL_law 638 = .ok (.iaload, 1) := by decide +kernel
theorem dL_law_639 : decode cL_law 639 = .ok (.aload_n 0, 1) := by decide +kernel
theorem dL_law_640 : decode cL_law 640 = .ok (.iload_n 3, 1) := by decide +kernel
theorem dL_law_641 : decode cL_law 641 = .ok (.iconst 2, 1) := by decide +kernel
theorem dL_law_642 : decode cL_law 642 = .ok (.iadd, 1) := by decide +kernel
theorem dL_law_643 : decode cL_law 643 = .ok (.iaload, 1) := by decide +kernel
theorem dL_law_644 : decode cL_law 644 = .ok (.aload_n 0, 1) := by decide +kernel
theorem dL_law_645 : decode cL_law 645 = .ok (.iload_n 3, 1) := by decide +kernel
theorem dL_law_646 : decode cL_law 646 = .ok (.iconst 3, 1) := by decide +kernel
theorem dL_law_647 : decode cL_law 647 = .ok (.iadd, 1) := by decide +kernel
theorem dL_law_648 : decode cL_law 648 = .ok (.iaload, 1) := by decide +kernel
theorem dL_law_649 : decode cL_law 649 = .ok (.invokevirtual 79, 3) := by decide +kernel
theorem dL_law_652 : decode cL_law 652 = .ok (.aload_n 2, 1) := by decide +kernel
theorem dL_law_653 : decode cL_law 653 = .ok (.aload_n 0, 1) := by decide +kernel
theorem dL_law_654 : decode cL_law 654 = .ok (.iload_n 3, 1) := by decide +kernel
theorem dL_law_655 : decode cL_law 655 = .ok (.iconst 1, 1) := by decide +kernel
theorem dL_law_656 : decode cL_law 656 = .ok (.iadd, 1) := by decide +kernel
theorem dL_law_657 : decode cL_law 657 = .ok (.iaload, 1) := by decide +kernel
theorem dL_law_658 : decode cL_law 658 = .ok (.aload_n 0, 1) := by decide +kernel
theorem dL_law_659 : decode cL_law 659 = .ok (.iload_n 3, 1) := by decide +kernel
theorem dL_law_660 : decode cL_law 660 = .ok (.iconst 2, 1) := by decide +kernel
theorem dL_law_661 : decode cL_law 661 = .ok (.iadd, 1) := by decide +kernel
theorem dL_law_662 : decode cL_law 662 = .ok (.iaload, 1) := by decide +kernel
theorem dL_law_663 : decode cL_law 663 = .ok (.aload_n 0, 1) := by decide +kernel
theorem dL_law_664 : decode cL_law 664 = .ok (.iload_n 3, 1) := by decide +kernel
theorem dL_law_665 : decode cL_law 665 = .ok (.iconst 3, 1) := by decide +kernel
theorem dL_law_666 : decode cL_law 666 = .ok (.iadd, 1) := by decide +kernel
theorem dL_law_667 : decode cL_law 667 = .ok (.iaload, 1) := by decide +kernel
theorem dL_law_668 : decode cL_law 668 = .ok (.invokevirtual 82, 3) := by decide +kernel
theorem dL_law_671 : decode cL_law 671 = .ok (.if_icmp .eq 439, 3) := by decide +kernel
theorem dL_law_674 : decode cL_law 674 = .ok (.iconst 0, 1) := by decide +kernel
theorem dL_law_675 : decode cL_law 675 = .ok (.ireturn, 1) := by decide +kernel
theorem dL_law_676 : decode cL_law 676 = .ok (.aload_n 1, 1) := by decide +kernel
theorem dL_law_677 : decode cL_law 677 = .ok (.aload_n 0, 1) := by decide +kernel
theorem dL_law_678 : decode cL_law 678 = .ok (.iload_n 3, 1) := by decide +kernel
theorem dL_law_679 : decode cL_law 679 = .ok (.iconst 1, 1) := by decide +kernel
theorem dL_law_680 : decode cL_law 680 = .ok (.iadd, 1) := by decide +kernel
theorem dL_law_681 : decode cL_law 681 = .ok (.iaload, 1) := by decide +kernel
theorem dL_law_682 : decode cL_law 682 = .ok (.aload_n 0, 1) := by decide +kernel
theorem dL_law_683 : decode cL_law 683 = .ok (.iload_n 3, 1) := by decide +kernel
theorem dL_law_684 : decode cL_law 684 = .ok (.iconst 2, 1) := by decide +kernel
theorem dL_law_685 : decode cL_law 685 = .ok (.iadd, 1) := by decide +kernel
theorem dL_law_686 : decode cL_law 686 = .ok (.iaload, 1) := by decide +kernel
theorem dL_law_687 : decode cL_law 687 = .ok (.aload_n 0, 1) := by decide +kernel
theorem dL_law_688 : decode cL_law 688 = .ok (.iload_n 3, 1) := by decide +kernel
theorem dL_law_689 : decode cL_law 689 = .ok (.iconst 3, 1) := by decide +kernel
theorem dL_law_690 : decode cL_law 690 = .ok (.iadd, 1) := by decide +kernel
theorem dL_law_691 : decode cL_law 691 = .ok (.iaload, 1) := by decide +kernel
theorem dL_law_692 : decode cL_law 692 = .ok (.invokevirtual 83, 3) := by decide +kernel
theorem dL_law_695 : decode cL_law 695 = .ok (.aload_n 2, 1) := by decide +kernel
theorem dL_law_696 : decode cL_law 696 = .ok (.aload_n 0, 1) := by decide +kernel
theorem dL_law_697 : decode cL_law 697 = .ok (.iload_n 3, 1) := by decide +kernel
theorem dL_law_698 : decode cL_law 698 = .ok (.iconst 1, 1) := by decide +kernel
theorem dL_law_699 : decode cL_law 699 = .ok (.iadd, 1) := by decide +kernel
theorem dL_law_700 : decode cL_law 700 = .ok (.iaload, 1) := by decide +kernel
theorem dL_law_701 : decode cL_law 701 = .ok (.aload_n 0, 1) := by decide +kernel
theorem dL_law_702 : decode cL_law 702 = .ok (.iload_n 3, 1) := by decide +kernel
theorem dL_law_703 : decode cL_law 703 = .ok (.iconst 2, 1) := by decide +kernel
theorem dL_law_704 : decode cL_law 704 = .ok (.iadd, 1) := by decide +kernel
theorem dL_law_705 : decode cL_law 705 = .ok (.iaload, 1) := by decide +kernel
theorem dL_law_706 : decode cL_law 706 = .ok (.aload_n 0, 1) := by decide +kernel
theorem dL_law_707 : decode cL_law 707 = .ok (.iload_n 3, 1) := by decide +kernel
theorem dL_law_708 : decode cL_law 708 = .ok (.iconst 3, 1) := by decide +kernel
theorem dL_law_709 : decode cL_law 709 = .ok (.iadd, 1) := by decide +kernel
theorem dL_law_710 : decode cL_law 710 = .ok (.iaload, 1) := by decide +kernel
theorem dL_law_711 : decode cL_law 711 = .ok (.invokevirtual 86, 3) := by decide +kernel
theorem dL_law_714 : decode cL_law 714 = .ok (.if_icmp .eq 396, 3) := by decide +kernel
theorem dL_law_717 : decode cL_law 717 = .ok (.iconst 0, 1) := by decide +kernel
theorem dL_law_718 : decode cL_law 718 = .ok (.ireturn, 1) := by decide +kernel
theorem dL_law_719 : decode cL_law 719 = .ok (.aload_n 1, 1) := by decide +kernel
theorem dL_law_720 : decode cL_law 720 = .ok (.aload_n 0, 1) := by decide +kernel
theorem dL_law_721 : decode cL_law 721 = .ok (.iload_n 3, 1) := by decide +kernel
theorem dL_law_722 : decode cL_law 722 = .ok (.iconst 1, 1) := by decide +kernel
theorem dL_law_723 : decode cL_law 723 = .ok (.iadd, 1) := by decide +kernel
theorem dL_law_724 : decode cL_law 724 = .ok (.iaload, 1) := by decide +kernel
theorem dL_law_725 : decode cL_law 725 = .ok (.aload_n 0, 1) := by decide +kernel
theorem dL_law_726 : decode cL_law 726 = .ok (.iload_n 3, 1) := by decide +kernel
theorem dL_law_727 : decode cL_law 727 = .ok (.iconst 2, 1) := by decide +kernel
theorem dL_law_728 : decode cL_law 728 = .ok (.iadd, 1) := by decide +kernel
theorem dL_law_729 : decode cL_law 729 = .ok (.iaload, 1) := by decide +kernel
theorem dL_law_730 : decode cL_law 730 = .ok (.aload_n 0, 1) := by decide +kernel
theorem dL_law_731 : decode cL_law 731 = .ok (.iload_n 3, 1) := by decide +kernel
theorem dL_law_732 : decode cL_law 732 = .ok (.iconst 3, 1) := by decide +kernel
theorem dL_law_733 : decode cL_law 733 = .ok (.iadd, 1) := by decide +kernel
theorem dL_law_734 : decode cL_law 734 = .ok (.iaload, 1) := by decide +kernel
theorem dL_law_735 : decode cL_law 735 = .ok (.invokevirtual 87, 3) := by decide +kernel
theorem dL_law_738 : decode cL_law 738 = .ok (.aload_n 2, 1) := by decide +kernel
theorem dL_law_739 : decode cL_law 739 = .ok (.aload_n 0, 1) := by decide +kernel
theorem dL_law_740 : decode cL_law 740 = .ok (.iload_n 3, 1) := by decide +kernel
theorem dL_law_741 : decode cL_law 741 = .ok (.iconst 1, 1) := by decide +kernel
theorem dL_law_742 : decode cL_law 742 = .ok (.iadd, 1) := by decide +kernel
theorem dL_law_743 : decode cL_law 743 = .ok (.iaload, 1) := by decide +kernel
theorem dL_law_744 : decode cL_law 744 = .ok (.aload_n 0, 1) := by decide +kernel
theorem dL_law_745 : decode cL_law 745 = .ok (.iload_n 3, 1) := by decide +kernel
theorem dL_law_746 : decode cL_law 746 = .ok (.iconst 2, 1) := by decide +kernel
theorem dL_law_747 : decode cL_law 747 = .ok (.iadd, 1) := by decide +kernel
theorem dL_law_748 : decode cL_law 748 = .ok (.iaload, 1) := by decide +kernel
theorem dL_law_749 : decode cL_law 749 = .ok (.aload_n 0, 1) := by decide +kernel
theorem dL_law_750 : decode cL_law 750 = .ok (.iload_n 3, 1) := by decide +kernel
theorem dL_law_751 : decode cL_law 751 = .ok (.iconst 3, 1) := by decide +kernel
theorem dL_law_752 : decode cL_law 752 = .ok (.iadd, 1) := by decide +kernel
theorem dL_law_753 : decode cL_law 753 = .ok (.iaload, 1) := by decide +kernel
theorem dL_law_754 : decode cL_law 754 = .ok (.invokevirtual 90, 3) := by decide +kernel
theorem dL_law_757 : decode cL_law 757 = .ok (.if_icmp .eq 353, 3) := by decide +kernel
theorem dL_law_760 : decode cL_law 760 = .ok (.iconst 0, 1) := by decide +kernel
theorem dL_law_761 : decode cL_law 761 = .ok (.ireturn, 1) := by decide +kernel
theorem dL_law_762 : decode cL_law 762 = .ok (.aload_n 1, 1) := by decide +kernel
theorem dL_law_763 : decode cL_law 763 = .ok (.aload_n 0, 1) := by decide +kernel
theorem dL_law_764 : decode cL_law 764 = .ok (.iload_n 3, 1) := by decide +kernel
theorem dL_law_765 : decode cL_law 765 = .ok (.iconst 1, 1) := by decide +kernel
theorem dL_law_766 : decode cL_law 766 = .ok (.iadd, 1) := by decide +kernel
theorem dL_law_767 : decode cL_law 767 = .ok (.iaload, 1) := by decide +kernel
theorem dL_law_768 : decode cL_law 768 = .ok (.aload_n 0, 1) := by decide +kernel
theorem dL_law_769 : decode cL_law 769 = .ok (.iload_n 3, 1) := by decide +kernel
theorem dL_law_770 : decode cL_law 770 = .ok (.iconst 2, 1) := by decide +kernel
theorem dL_law_771 : decode cL_law 771 = .ok (.iadd, 1) := by decide +kernel
theorem dL_law_772 : decode cL_law 772 = .ok (.iaload, 1) := by decide +kernel
theorem dL_law_773 : decode cL_law 773 = .ok (.aload_n 0, 1) := by decide +kernel
theorem dL_law_774 : decode cL_law 774 = .ok (.iload_n 3, 1) := by decide +kernel
theorem dL_law_775 : decode cL_law 775 = .ok (.iconst 3, 1) := by decide +kernel
theorem dL_law_776 : decode cL_law 776 = .ok (.iadd, 1) := by decide +kernel
theorem dL_law_777 : decode cL_law 777 = .ok (.iaload, 1) := by decide +kernel
theorem dL_law_778 : decode cL_law 778 = .ok (.aload_n 0, 1) := by decide +kernel
theorem dL_law_779 : decode cL_law 779 = .ok (.iload_n 3, 1) := by decide +kernel
theorem dL_law_780 : decode cL_law 780 = .ok (.iconst 4, 1) := by decide +kernel
theorem dL_law_781 : decode cL_law 781 = .ok (.iadd, 1) := by decide +kernel
theorem dL_law_782 : decode cL_law 782 = .ok (.iaload, 1) := by decide +kernel
theorem dL_law_783 : decode cL_law 783 = .ok (.aload_n 0, 1) := by decide +kernel
theorem dL_law_784 : decode cL_law 784 = .ok (.iload_n 3, 1) := by decide +kernel
theorem dL_law_785 : decode cL_law 785 = .ok (.iconst 5, 1) := by decide +kernel
theorem dL_law_786 : decode cL_law 786 = .ok (.iadd, 1) := by decide +kernel
theorem dL_law_787 : decode cL_law 787 = .ok (.iaload, 1) := by decide +kernel
theorem dL_law_788 : decode cL_law 788 = .ok (.invokevirtual 91, 3) := by decide +kernel
theorem dL_law_791 : decode cL_law 791 = .ok (.aload_n 2, 1) := by decide +kernel
theorem dL_law_792 : decode cL_law 792 = .ok (.aload_n 0, 1) := by decide +kernel
theorem dL_law_793 : decode cL_law 793 = .ok (.iload_n 3, 1) := by decide +kernel
theorem dL_law_794 : decode cL_law 794 = .ok (.iconst 1, 1) := by decide +kernel
theorem dL_law_795 : decode cL_law 795 = .ok (.iadd, 1) := by decide +kernel
theorem dL_law_796 : decode cL_law 796 = .ok (.iaload, 1) := by decide +kernel
theorem dL_law_797 : decode cL_law 797 = .ok (.aload_n 0, 1) := by decide +kernel
theorem dL_law_798 : decode cL_law 798 = .ok (.iload_n 3, 1) := by decide +kernel
theorem dL_law_799 : decode cL_law 799 = .ok (.iconst 2, 1) := by decide +kernel
theorem dL_law_800 : decode cL_law 800 = .ok (.iadd, 1) := by decide +kernel
theorem dL_law_801 : decode cL_law 801 = .ok (.iaload, 1) := by decide +kernel
theorem dL_law_802 : decode cL_law 802 = .ok (.aload_n 0, 1) := by decide +kernel
theorem dL_law_803 : decode cL_law 803 = .ok (.iload_n 3, 1) := by decide +kernel
theorem dL_law_804 : decode cL_law 804 = .ok (.iconst 3, 1) := by decide +kernel
theorem dL_law_805 : decode cL_law 805 = .ok (.iadd, 1) := by decide +kernel
theorem dL_law_806 : decode cL_law 806 = .ok (.iaload, 1) := by decide +kernel
theorem dL_law_807 : decode cL_law 807 = .ok (.aload_n 0, 1) := by decide +kernel
theorem dL_law_808 : decode cL_law 808 = .ok (.iload_n 3, 1) := by decide +kernel
theorem dL_law_809 : decode cL_law 809 = .ok (.iconst 4, 1) := by decide +kernel
theorem dL_law_810 : decode cL_law 810 = .ok (.iadd, 1) := by decide +kernel
theorem dL_law_811 : decode cL_law 811 = .ok (.iaload, 1) := by decide +kernel
theorem dL_law_812 : decode cL_law 812 = .ok (.aload_n 0, 1) := by decide +kernel
theorem dL_law_813 : decode cL_law 813 = .ok (.iload_n 3, 1) := by decide +kernel
theorem dL_law_814 : decode cL_law 814 = .ok (.iconst 5, 1) := by decide +kernel
theorem dL_law_815 : decode cL_law 815 = .ok (.iadd, 1) := by decide +kernel
theorem dL_law_816 : decode cL_law 816 = .ok (.iaload, 1) := by decide +kernel
theorem dL_law_817 : decode cL_law 817 = .ok (.invokevirtual 95, 3) := by decide +kernel
theorem dL_law_820 : decode cL_law 820 = .ok (.lcmp, 1) := by decide +kernel
theorem dL_law_821 : decode cL_law 821 = .ok (.ifCond .eq 289, 3) := by decide +kernel
theorem dL_law_824 : decode cL_law 824 = .ok (.iconst 0, 1) := by decide +kernel
theorem dL_law_825 : decode cL_law 825 = .ok (.ireturn, 1) := by decide +kernel
theorem dL_law_826 : decode cL_law 826 = .ok (.aload_n 1, 1) := by decide +kernel
theorem dL_law_827 : decode cL_law 827 = .ok (.invokevirtual 96, 3) := by decide +kernel
theorem dL_law_830 : decode cL_law 830 = .ok (.aload_n 2, 1) := by decide +kernel
theorem dL_law_831 : decode cL_law 831 = .ok (.invokevirtual 99, 3) := by decide +kernel
theorem dL_law_834 : decode cL_law 834 = .ok (.if_icmp .eq 276, 3) := by decide +kernel
theorem dL_law_837 : decode cL_law 837 = .ok (.iconst 0, 1) := by decide +kernel
theorem dL_law_838 : decode cL_law 838 = .ok (.ireturn, 1) := by decide +kernel
theorem dL_law_839 : decode cL_law 839 = .ok (.aload_n 1, 1) := by decide +kernel
theorem dL_law_840 : decode cL_law 840 = .ok (.invokevirtual 100, 3) := by decide +kernel
theorem dL_law_843 : decode cL_law 843 = .ok (.aload_n 2, 1) := by decide +kernel
theorem dL_law_844 : decode cL_law 844 = .ok (.invokevirtual 103, 3) := by decide +kernel
theorem dL_law_847 : decode cL_law 847 = .ok (.if_icmp .eq 263, 3) := by decide +kernel
theorem dL_law_850 : decode cL_law 850 = .ok (.iconst 0, 1) := by decide +kernel
theorem dL_law_851 : decode cL_law 851 = .ok (.ireturn, 1) := by decide +kernel
theorem dL_law_852 : decode cL_law 852 = .ok (.aload_n 1, 1) := by decide +kernel
theorem dL_law_853 : decode cL_law 853 = .ok (.aload_n 0, 1) := by decide +kernel
theorem dL_law_854 : decode cL_law 854 = .ok (.iload_n 3, 1) := by decide +kernel
theorem dL_law_855 : decode cL_law 855 = .ok (.iconst 1, 1) := by decide +kernel
theorem dL_law_856 : decode cL_law 856 = .ok (.iadd, 1) := by decide +kernel
theorem dL_law_857 : decode cL_law 857 = .ok (.iaload, 1) := by decide +kernel
theorem dL_law_858 : decode cL_law 858 = .ok (.invokevirtual 104, 3) := by decide +kernel
theorem dL_law_861 : decode cL_law 861 = .ok (.aload_n 2, 1) := by decide +kernel
theorem dL_law_862 : decode cL_law 862 = .ok (.aload_n 0, 1) := by decide +kernel
theorem dL_law_863 : decode cL_law 863 = .ok (.iload_n 3, 1) := by decide +kernel
theorem dL_law_864 : decode cL_law 864 = .ok (.iconst 1, 1) := by decide +kernel
theorem dL_law_865 : decode cL_law 865 = .ok (.iadd, 1) := by decide +kernel
theorem dL_law_866 : decode cL_law 866 = .ok (.iaload, 1) := by decide +kernel
theorem dL_law_867 : decode cL_law 867 = .ok (.invokevirtual 107, 3) := by decide +kernel
theorem dL_law_870 : decode cL_law 870 = .ok (.if_icmp .eq 240, 3) := by decide +kernel
theorem dL_law_873 : decode cL_law 873 = .ok (.iconst 0, 1) := by decide +kernel
theorem dL_law_874 : decode cL_law 874 = .ok (.ireturn, 1) := by decide +kernel
theorem dL_law_875 : decode cL_law 875 = .ok (.aload_n 1, 1) := by decide +kernel
theorem dL_law_876 : decode cL_law 876 = .ok (.aload_n 0, 1) := by decide +kernel
theorem dL_law_877 : decode cL_law 877 = .ok (.iload_n 3, 1) := by decide +kernel
theorem dL_law_878 : decode cL_law 878 = .ok (.iconst 1, 1) := by decide +kernel
theorem dL_law_879 : decode cL_law 879 = .ok (.iadd, 1) := by decide +kernel
theorem dL_law_880 : decode cL_law 880 = .ok (.iaload, 1) := by decide +kernel
theorem dL_law_881 : decode cL_law 881 = .ok (.aload_n 0, 1) := by decide +kernel
theorem dL_law_882 : decode cL_law 882 = .ok (.iload_n 3, 1) := by decide +kernel
theorem dL_law_883 : decode cL_law 883 = .ok (.iconst 2, 1) := by decide +kernel
theorem dL_law_884 : decode cL_law 884 = .ok (.iadd, 1) := by decide +kernel
theorem dL_law_885 : decode cL_law 885 = .ok (.iaload, 1) := by decide +kernel
theorem dL_law_886 : decode cL_law 886 = .ok (.aload_n 0, 1) := by decide +kernel
theorem dL_law_887 : decode cL_law 887 = .ok (.iload_n 3, 1) := by decide +kernel
theorem dL_law_888 : decode cL_law 888 = .ok (.iconst 3, 1) := by decide +kernel
theorem dL_law_889 : decode cL_law 889 = .ok (.iadd, 1) := by decide +kernel
theorem dL_law_890 : decode cL_law 890 = .ok (.iaload, 1) := by decide +kernel
theorem dL_law_891 : decode cL_law 891 = .ok (.invokevirtual 108, 3) := by decide +kernel
theorem dL_law_894 : decode cL_law 894 = .ok (.aload_n 2, 1) := by decide +kernel
theorem dL_law_895 : decode cL_law 895 = .ok (.aload_n 0, 1) := by decide +kernel
theorem dL_law_896 : decode cL_law 896 = .ok (.iload_n 3, 1) := by decide +kernel
theorem dL_law_897 : decode cL_law 897 = .ok (.iconst 1, 1) := by decide +kernel
theorem dL_law_898 : decode cL_law 898 = .ok (.iadd, 1) := by decide +kernel
theorem dL_law_899 : decode cL_law 899 = .ok (.iaload, 1) := by decide +kernel
theorem dL_law_900 : decode cL_law 900 = .ok (.aload_n 0, 1) := by decide +kernel
theorem dL_law_901 : decode cL_law 901 = .ok (.iload_n 3, 1) := by decide +kernel
theorem dL_law_902 : decode cL_law 902 = .ok (.iconst 2, 1) := by decide +kernel
theorem dL_law_903 : decode cL_law 903 = .ok (.iadd, 1) := by decide +kernel
theorem dL_law_904 : decode cL_law 904 = .ok (.iaload, 1) := by decide +kernel
theorem dL_law_905 : decode cL_law 905 = .ok (.aload_n 0, 1) := by decide +kernel
theorem dL_law_906 : decode cL_law 906 = .ok (.iload_n 3, 1) := by decide +kernel
theorem dL_law_907 : decode cL_law 907 = .ok (.iconst 3, 1) := by decide +kernel
theorem dL_law_908 : decode cL_law 908 = .ok (.iadd, 1) := by decide +kernel
theorem dL_law_909 : decode cL_law 909 = .ok (.iaload, 1) := by decide +kernel
theorem dL_law_910 : decode cL_law 910 = .ok (.invokevirtual 111, 3) := by decide +kernel
theorem dL_law_913 : decode cL_law 913 = .ok (.if_icmp .eq 197, 3) := by decide +kernel
theorem dL_law_916 : decode cL_law 916 = .ok (.iconst 0, 1) := by decide +kernel
theorem dL_law_917 : decode cL_law 917 = .ok (.ireturn, 1) := by decide +kernel
theorem dL_law_918 : decode cL_law 918 = .ok (.aload_n 1, 1) := by decide +kernel
theorem dL_law_919 : decode cL_law 919 = .ok (.aload_n 0, 1) := by decide +kernel
theorem dL_law_920 : decode cL_law 920 = .ok (.iload_n 3, 1) := by decide +kernel
theorem dL_law_921 : decode cL_law 921 = .ok (.iconst 1, 1) := by decide +kernel
theorem dL_law_922 : decode cL_law 922 = .ok (.iadd, 1) := by decide +kernel
theorem dL_law_923 : decode cL_law 923 = .ok (.iaload, 1) := by decide +kernel
theorem dL_law_924 : decode cL_law 924 = .ok (.aload_n 0, 1) := by decide +kernel
theorem dL_law_925 : decode cL_law 925 = .ok (.iload_n 3, 1) := by decide +kernel
theorem dL_law_926 : decode cL_law 926 = .ok (.iconst 2, 1) := by decide +kernel
theorem dL_law_927 : decode cL_law 927 = .ok (.iadd, 1) := by decide +kernel
theorem dL_law_928 : decode cL_law 928 = .ok (.iaload, 1) := by decide +kernel
theorem dL_law_929 : decode cL_law 929 = .ok (.aload_n 0, 1) := by decide +kernel
theorem dL_law_930 : decode cL_law 930 = .ok (.iload_n 3, 1) := by decide +kernel
theorem dL_law_931 : decode cL_law 931 = .ok (.iconst 3, 1) := by decide +kernel
theorem dL_law_932 : decode cL_law 932 = .ok (.iadd, 1) := by decide +kernel
theorem dL_law_933 : decode cL_law 933 = .ok (.iaload, 1) := by decide +kernel
theorem dL_law_934 : decode cL_law 934 = .ok (.invokevirtual 112, 3) := by decide +kernel
theorem dL_law_937 : decode cL_law 937 = .ok (.aload_n 2, 1) := by decide +kernel
theorem dL_law_938 : decode cL_law 938 = .ok (.aload_n 0, 1) := by decide +kernel
theorem dL_law_939 : decode cL_law 939 = .ok (.iload_n 3, 1) := by decide +kernel
theorem dL_law_940 : decode cL_law 940 = .ok (.iconst 1, 1) := by decide +kernel
theorem dL_law_941 : decode cL_law 941 = .ok (.iadd, 1) := by decide +kernel
theorem dL_law_942 : decode cL_law 942 = .ok (.iaload, 1) := by decide +kernel
theorem dL_law_943 : decode cL_law 943 = .ok (.aload_n 0, 1) := by decide +kernel
theorem dL_law_944 : decode cL_law 944 = .ok (.iload_n 3, 1) := by decide +kernel
theorem dL_law_945 : decode cL_law 945 = .ok (.iconst 2, 1) := by decide +kernel
theorem dL_law_946 : decode cL_law 946 = .ok (.iadd, 1) := by decide +kernel
theorem dL_law_947 : decode cL_law 947 = .ok (.iaload, 1) := by decide +kernel
theorem dL_law_948 : decode cL_law 948 = .ok (.aload_n 0, 1) := by decide +kernel
theorem dL_law_949 : decode cL_law 949 = .ok (.iload_n 3, 1) := by decide +kernel
theorem dL_law_950 : decode cL_law 950 = .ok (.iconst 3, 1) := by decide +kernel
theorem dL_law_951 : decode cL_law 951 = .ok (.iadd, 1) := by decide +kernel
theorem dL_law_952 : decode cL_law 952 = .ok (.iaload, 1) := by decide +kernel
theorem dL_law_953 : decode cL_law 953 = .ok (.invokevirtual 115, 3) := by decide +kernel
theorem dL_law_956 : decode cL_law 956 = .ok (.if_icmp .eq 154, 3) := by decide +kernel
theorem dL_law_959 : decode cL_law 959 = .ok (.iconst 0, 1) := by decide +kernel
theorem dL_law_960 : decode cL_law 960 = .ok (.ireturn, 1) := by decide +kernel
theorem dL_law_961 : decode cL_law 961 = .ok (.aload_n 1, 1) := by decide +kernel
theorem dL_law_962 : decode cL_law 962 = .ok (.aload_n 0, 1) := by decide +kernel
theorem dL_law_963 : decode cL_law 963 = .ok (.iload_n 3, 1) := by decide +kernel
theorem dL_law_964 : decode cL_law 964 = .ok (.iconst 1, 1) := by decide +kernel
theorem dL_law_965 : decode cL_law 965 = .ok (.iadd, 1) := by decide +kernel
theorem dL_law_966 : decode cL_law 966 = .ok (.iaload, 1) := by decide +kernel
theorem dL_law_967 : decode cL_law 967 = .ok (.aload_n 0, 1) := by decide +kernel
theorem dL_law_968 : decode cL_law 968 = .ok (.iload_n 3, 1) := by decide +kernel
theorem dL_law_969 : decode cL_law 969 = .ok (.iconst 2, 1) := by decide +kernel
theorem dL_law_970 : decode cL_law 970 = .ok (.iadd, 1) := by decide +kernel
theorem dL_law_971 : decode cL_law 971 = .ok (.iaload, 1) := by decide +kernel
theorem dL_law_972 : decode cL_law 972 = .ok (.aload_n 0, 1) := by decide +kernel
theorem dL_law_973 : decode cL_law 973 = .ok (.iload_n 3, 1) := by decide +kernel
theorem dL_law_974 : decode cL_law 974 = .ok (.iconst 3, 1) := by decide +kernel
theorem dL_law_975 : decode cL_law 975 = .ok (.iadd, 1) := by decide +kernel
theorem dL_law_976 : decode cL_law 976 = .ok (.iaload, 1) := by decide +kernel
theorem dL_law_977 : decode cL_law 977 = .ok (.aload_n 0, 1) := by decide +kernel
theorem dL_law_978 : decode cL_law 978 = .ok (.iload_n 3, 1) := by decide +kernel
theorem dL_law_979 : decode cL_law 979 = .ok (.iconst 4, 1) := by decide +kernel
theorem dL_law_980 : decode cL_law 980 = .ok (.iadd, 1) := by decide +kernel
theorem dL_law_981 : decode cL_law 981 = .ok (.iaload, 1) := by decide +kernel
theorem dL_law_982 : decode cL_law 982 = .ok (.aload_n 0, 1) := by decide +kernel
theorem dL_law_983 : decode cL_law 983 = .ok (.iload_n 3, 1) := by decide +kernel
theorem dL_law_984 : decode cL_law 984 = .ok (.iconst 5, 1) := by decide +kernel
theorem dL_law_985 : decode cL_law 985 = .ok (.iadd, 1) := by decide +kernel
theorem dL_law_986 : decode cL_law 986 = .ok (.iaload, 1) := by decide +kernel
theorem dL_law_987 : decode cL_law 987 = .ok (.invokevirtual 116, 3) := by decide +kernel
theorem dL_law_990 : decode cL_law 990 = .ok (.aload_n 2, 1) := by decide +kernel
theorem dL_law_991 : decode cL_law 991 = .ok (.aload_n 0, 1) := by decide +kernel
theorem dL_law_992 : decode cL_law 992 = .ok (.iload_n 3, 1) := by decide +kernel
theorem dL_law_993 : decode cL_law 993 = .ok (.iconst 1, 1) := by decide +kernel
theorem dL_law_994 : decode cL_law 994 = .ok (.iadd, 1) := by decide +kernel
theorem dL_law_995 : decode cL_law 995 = .ok (.iaload, 1) := by decide +kernel
theorem dL_law_996 : decode cL_law 996 = .ok (.aload_n 0, 1) := by decide +kernel
theorem dL_law_997 : decode cL_law 997 = .ok (.iload_n 3, 1) := by decide +kernel
theorem dL_law_998 : decode cL_law 998 = .ok (.iconst 2, 1) := by decide +kernel
theorem dL_law_999 : decode cL_law 999 = .ok (.iadd, 1) := by decide +kernel
theorem dL_law_1000 : decode cL_law 1000 = .ok (.iaload, 1) := by decide +kernel
theorem dL_law_1001 : decode cL_law 1001 = .ok (.aload_n 0, 1) := by decide +kernel
theorem dL_law_1002 : decode cL_law 1002 = .ok (.iload_n 3, 1) := by decide +kernel
theorem dL_law_1003 : decode cL_law 1003 = .ok (.iconst 3, 1) := by decide +kernel
theorem dL_law_1004 : decode cL_law 1004 = .ok (.iadd, 1) := by decide +kernel
theorem dL_law_1005 : decode cL_law 1005 = .ok (.iaload, 1) := by decide +kernel
theorem dL_law_1006 : decode cL_law 1006 = .ok (.aload_n 0, 1) := by decide +kernel
theorem dL_law_1007 : decode cL_law 1007 = .ok (.iload_n 3, 1) := by decide +kernel
theorem dL_law_1008 : decode cL_law 1008 = .ok (.iconst 4, 1) := by decide +kernel
theorem dL_law_1009 : decode cL_law 1009 = .ok (.iadd, 1) := by decide +kernel
theorem dL_law_1010 : decode cL_law 1010 = .ok (.iaload, 1) := by decide +kernel
theorem dL_law_1011 : decode cL_law 1011 = .ok (.aload_n 0, 1) := by decide +kernel
theorem dL_law_1012 : decode cL_law 1012 = .ok (.iload_n 3, 1) := by decide +kernel
theorem dL_law_1013 : decode cL_law 1013 = .ok (.iconst 5, 1) := by decide +kernel
theorem dL_law_1014 : decode cL_law 1014 = .ok (.iadd, 1) := by decide +kernel
theorem dL_law_1015 : decode cL_law 1015 = .ok (.iaload, 1) := by decide +kernel
theorem dL_law_1016 : decode cL_law 1016 = .ok (.invokevirtual 120, 3) := by decide +kernel
theorem dL_law_1019 : decode cL_law 1019 = .ok (.if_icmp .eq 91, 3) := by decide +kernel
theorem dL_law_1022 : decode cL_law 1022 = .ok (.iconst 0, 1) := by decide +kernel
theorem dL_law_1023 : decode cL_law 1023 = .ok (.ireturn, 1) := by decide +kernel
theorem dL_law_1024 : decode cL_law 1024 = .ok (.aload_n 1, 1) := by decide +kernel
theorem dL_law_1025 : decode cL_law 1025 = .ok (.aload_n 0, 1) := by decide +kernel
theorem dL_law_1026 : decode cL_law 1026 = .ok (.iload_n 3, 1) := by decide +kernel
theorem dL_law_1027 : decode cL_law 1027 = .ok (.iconst 1, 1) := by decide +kernel
theorem dL_law_1028 : decode cL_law 1028 = .ok (.iadd, 1) := by decide +kernel
theorem dL_law_1029 : decode cL_law 1029 = .ok (.iaload, 1) := by decide +kernel
theorem dL_law_1030 : decode cL_law 1030 = .ok (.aload_n 0, 1) := by decide +kernel
theorem dL_law_1031 : decode cL_law 1031 = .ok (.iload_n 3, 1) := by decide +kernel
theorem dL_law_1032 : decode cL_law 1032 = .ok (.iconst 2, 1) := by decide +kernel
theorem dL_law_1033 : decode cL_law 1033 = .ok (.iadd, 1) := by decide +kernel
theorem dL_law_1034 : decode cL_law 1034 = .ok (.iaload, 1) := by decide +kernel
theorem dL_law_1035 : decode cL_law 1035 = .ok (.aload_n 0, 1) := by decide +kernel
theorem dL_law_1036 : decode cL_law 1036 = .ok (.iload_n 3, 1) := by decide +kernel
theorem dL_law_1037 : decode cL_law 1037 = .ok (.iconst 3, 1) := by decide +kernel
theorem dL_law_1038 : decode cL_law 1038 = .ok (.iadd, 1) := by decide +kernel
theorem dL_law_1039 : decode cL_law 1039 = .ok (.iaload, 1) := by decide +kernel
theorem dL_law_1040 : decode cL_law 1040 = .ok (.aload_n 0, 1) := by decide +kernel
theorem dL_law_1041 : decode cL_law 1041 = .ok (.iload_n 3, 1) := by decide +kernel
theorem dL_law_1042 : decode cL_law 1042 = .ok (.iconst 4, 1) := by decide +kernel
theorem dL_law_1043 : decode cL_law 1043 = .ok (.iadd, 1) := by decide +kernel
theorem dL_law_1044 : decode cL_law 1044 = .ok (.iaload, 1) := by decide +kernel
theorem dL_law_1045 : decode cL_law 1045 = .ok (.invokevirtual 121, 3) := by decide +kernel
theorem dL_law_1048 : decode cL_law 1048 = .ok (.aload_n 2, 1) := by decide +kernel
theorem dL_law_1049 : decode cL_law 1049 = .ok (.aload_n 0, 1) := by decide +kernel
theorem dL_law_1050 : decode cL_law 1050 = .ok (.iload_n 3, 1) := by decide +kernel
theorem dL_law_1051 : decode cL_law 1051 = .ok (.iconst 1, 1) := by decide +kernel
theorem dL_law_1052 : decode cL_law 1052 = .ok (.iadd, 1) := by decide +kernel
theorem dL_law_1053 : decode cL_law 1053 = .ok (.iaload, 1) := by decide +kernel
theorem dL_law_1054 : decode cL_law 1054 = .ok (.aload_n 0, 1) := by decide +kernel
theorem dL_law_1055 : decode cL_law 1055 = .ok (.iload_n 3, 1) := by decide +kernel
theorem dL_law_1056 : decode cL_law 1056 = .ok (.iconst 2, 1) := by decide +kernel
theorem dL_law_1057 : decode cL_law 1057 = .ok (.iadd, 1) := by decide +kernel
theorem dL_law_1058 : decode cL_law 1058 = .ok (.iaload, 1) := by decide +kernel
theorem dL_law_1059 : decode cL_law 1059 = .ok (.aload_n 0, 1) := by decide +kernel
theorem dL_law_1060 : decode cL_law 1060 = .ok (.iload_n 3, 1) := by decide +kernel
theorem dL_law_1061 : decode cL_law 1061 = .ok (.iconst 3, 1) := by decide +kernel
theorem dL_law_1062 : decode cL_law 1062 = .ok (.iadd, 1) := by decide +kernel
theorem dL_law_1063 : decode cL_law 1063 = .ok (.iaload, 1) := by decide +kernel
theorem dL_law_1064 : decode cL_law 1064 = .ok (.aload_n 0, 1) := by decide +kernel
theorem dL_law_1065 : decode cL_law 1065 = .ok (.iload_n 3, 1) := by decide +kernel
theorem dL_law_1066 : decode cL_law 1066 = .ok (.iconst 4, 1) := by decide +kernel
theorem dL_law_1067 : decode cL_law 1067 = .ok (.iadd, 1) := by decide +kernel
theorem dL_law_1068 : decode cL_law 1068 = .ok (.iaload, 1) := by decide +kernel
theorem dL_law_1069 : decode cL_law 1069 = .ok (.invokevirtual 125, 3) := by decide +kernel
theorem dL_law_1072 : decode cL_law 1072 = .ok (.if_icmp .eq 38, 3) := by decide +kernel
theorem dL_law_1075 : decode cL_law 1075 = .ok (.iconst 0, 1) := by decide +kernel
theorem dL_law_1076 : decode cL_law 1076 = .ok (.ireturn, 1) := by decide +kernel
theorem dL_law_1077 : decode cL_law 1077 = .ok (.aload_n 1, 1) := by decide +kernel
theorem dL_law_1078 : decode cL_law 1078 = .ok (.aload_n 0, 1) := by decide +kernel
theorem dL_law_1079 : decode cL_law 1079 = .ok (.iload_n 3, 1) := by decide +kernel
theorem dL_law_1080 : decode cL_law 1080 = .ok (.iconst 1, 1) := by decide +kernel
theorem dL_law_1081 : decode cL_law 1081 = .ok (.iadd, 1) := by decide +kernel
theorem dL_law_1082 : decode cL_law 1082 = .ok (.iaload, 1) := by decide +kernel
theorem dL_law_1083 : decode cL_law 1083 = .ok (.aload_n 0, 1) := by decide +kernel
theorem dL_law_1084 : decode cL_law 1084 = .ok (.iload_n 3, 1) := by decide +kernel
theorem dL_law_1085 : decode cL_law 1085 = .ok (.iconst 2, 1) := by decide +kernel
theorem dL_law_1086 : decode cL_law 1086 = .ok (.iadd, 1) := by decide +kernel
theorem dL_law_1087 : decode cL_law 1087 = .ok (.iaload, 1) := by decide +kernel
theorem dL_law_1088 : decode cL_law 1088 = .ok (.invokevirtual 126, 3) := by decide +kernel
theorem dL_law_1091 : decode cL_law 1091 = .ok (.aload_n 2, 1) := by decide +kernel
theorem dL_law_1092 : decode cL_law 1092 = .ok (.aload_n 0, 1) := by decide +kernel
theorem dL_law_1093 : decode cL_law 1093 = .ok (.iload_n 3, 1) := by decide +kernel
theorem dL_law_1094 : decode cL_law 1094 = .ok (.iconst 1, 1) := by decide +kernel
theorem dL_law_1095 : decode cL_law 1095 = .ok (.iadd, 1) := by decide +kernel
theorem dL_law_1096 : decode cL_law 1096 = .ok (.iaload, 1) := by decide +kernel
theorem dL_law_1097 : decode cL_law 1097 = .ok (.aload_n 0, 1) := by decide +kernel
theorem dL_law_1098 : decode cL_law 1098 = .ok (.iload_n 3, 1) := by decide +kernel
theorem dL_law_1099 : decode cL_law 1099 = .ok (.iconst 2, 1) := by decide +kernel
theorem dL_law_1100 : decode cL_law 1100 = .ok (.iadd, 1) := by decide +kernel
theorem dL_law_1101 : decode cL_law 1101 = .ok (.iaload, 1) := by decide +kernel
theorem dL_law_1102 : decode cL_law 1102 = .ok (.invokevirtual 129, 3) := by decide +kernel
theorem dL_law_1105 : decode cL_law 1105 = .ok (.if_icmp .eq 5, 3) := by decide +kernel
theorem dL_law_1108 : decode cL_law 1108 = .ok (.iconst 0, 1) := by decide +kernel
theorem dL_law_1109 : decode cL_law 1109 = .ok (.ireturn, 1) := by decide +kernel
theorem dL_law_1110 : decode cL_law 1110 = .ok (.iinc 3 6, 3) := by decide +kernel
theorem dL_law_1113 : decode cL_law 1113 = .ok (.goto (-1095), 3) := by decide +kernel
theorem dL_law_1116 : decode cL_law 1116 = .ok (.iconst 1, 1) := by decide +kernel
theorem dL_law_1117 : decode cL_law 1117 = .ok (.ireturn, 1) := by decide +kernel
