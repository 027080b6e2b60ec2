/-! decode rows -/
theorem dX7_findBest_114 : decode cX7_findBest 114 = .ok (.aload_n 0, 1) := by decide +kernel
theorem dX7_findBest_115 : decode cX7_findBest 115 = .ok (.getfield 28, 3) := by decide +kernel
theorem dX7_findBest_118 : decode cX7_findBest 118 = .ok (.iconst 3, 1) := by decide +kernel
theorem dX7_findBest_119 : decode cX7_findBest 119 = .ok (.iaload, 1) := by decide +kernel
theorem dX7_findBest_120 : decode cX7_findBest 120 = .ok (.isub, 1) := by decide +kernel
theorem dX7_findBest_121 : decode cX7_findBest 121 = .ok (.istore 5, 2) := by decide +kernel
theorem dX7_findBest_123 : decode cX7_findBest 123 = .ok (.iload 4, 2) := by decide +kernel
theorem dX7_findBest_125 : decode cX7_findBest 125 = .ok (.ifCond .eq 23, 3) := by decide +kernel
theorem dX7_findBest_128 : decode cX7_findBest 128 = .ok (.iload 5, 2) := by decide +kernel
theorem dX7_findBest_130 : decode cX7_findBest 130 = .ok (.aload_n 0, 1) := by decide +kernel
theorem dX7_findBest_131 : decode cX7_findBest 131 = .ok (.getfield 132, 3) := by decide +kernel
theorem dX7_findBest_134 : decode cX7_findBest 134 = .ok (.if_icmp .le 14, 3) := by decide +kernel
theorem dX7_findBest_137 : decode cX7_findBest 137 = .ok (.aload_n 0, 1) := by decide +kernel
theorem dX7_findBest_138 : decode cX7_findBest 138 = .ok (.iload 5, 2) := by decide +kernel
theorem dX7_findBest_140 : decode cX7_findBest 140 = .ok (.putfield 132, 3) := by decide +kernel
theorem dX7_findBest_143 : decode cX7_findBest 143 = .ok (.aload_n 0, 1) := by decide +kernel
theorem dX7_findBest_144 : decode cX7_findBest 144 = .ok (.iload_n 3, 1) := by decide +kernel
theorem dX7_findBest_145 : decode cX7_findBest 145 = .ok (.putfield 135, 3) := by decide +kernel
theorem dX7_findBest_148 : decode cX7_findBest 148 = .ok (.iinc 2 1, 3) := by decide +kernel
theorem dX7_findBest_151 : decode cX7_findBest 151 = .ok (.goto (-137), 3) := by decide +kernel
theorem dX7_findBest_154 : decode cX7_findBest 154 = .ok (.return_, 1) := by decide +kernel
theorem dX7_best_0 : decode cX7_best 0 = .ok (.aload_n 0, 1) := by decide +kernel
theorem dX7_best_1 : decode cX7_best 1 = .ok (.iconst 0, 1) := by decide +kernel
theorem dX7_best_2 : decode cX7_best 2 = .ok (.putfield 59, 3) := by decide +kernel
theorem dX7_best_5 : decode cX7_best 5 = .ok (.iload_n 1, 1) := by decide +kernel
theorem dX7_best_6 : decode cX7_best 6 = .ok (.i2l, 1) := by decide +kernel
theorem dX7_best_7 : decode cX7_best 7 = .ok (.lconst 1, 1) := by decide +kernel
theorem dX7_best_8 : decode cX7_best 8 = .ok (.ldc2_w 146, 3) := by decide +kernel
theorem dX7_best_11 : decode cX7_best 11 = .ok (.invokestatic 66, 3) := by decide +kernel
theorem dX7_best_14 : decode cX7_best 14 = .ok (.ifCond .ne 6, 3) := by decide +kernel
theorem dX7_best_17 : decode cX7_best 17 = .ok (.bipush (-2), 2) := by decide +kernel
theorem dX7_best_19 : decode cX7_best 19 = .ok (.ireturn, 1) := by decide +kernel
theorem dX7_best_20 : decode cX7_best 20 = .ok (.aload_n 0, 1) := by decide +kernel
theorem dX7_best_21 : decode cX7_best 21 = .ok (.getfield 22, 3) := by decide +kernel
theorem dX7_best_24 : decode cX7_best 24 = .ok (.aload_n 0, 1) := by decide +kernel
theorem dX7_best_25 : decode cX7_best 25 = .ok (.getfield 28, 3) := by decide +kernel
theorem dX7_best_28 : decode cX7_best 28 = .ok (.invokestatic 142, 3) := by decide +kernel
theorem dX7_best_31 : decode cX7_best 31 = .ok (.aload_n 0, 1) := by decide +kernel
theorem dX7_best_32 : decode cX7_best 32 = .ok (.iload_n 1, 1) := by decide +kernel
theorem dX7_best_33 : decode cX7_best 33 = .ok (.invokevirtual 148, 3) := by decide +kernel
theorem dX7_best_36 : decode cX7_best 36 = .ok (.iload_n 2, 1) := by decide +kernel
theorem dX7_best_37 : decode cX7_best 37 = .ok (.ifCond .eq 10, 3) := by decide +kernel
theorem dX7_best_40 : decode cX7_best 40 = .ok (.aload_n 0, 1) := by decide +kernel
theorem dX7_best_41 : decode cX7_best 41 = .ok (.getfield 135, 3) := by decide +kernel
theorem dX7_best_44 : decode cX7_best 44 = .ok (.goto 7, 3) := by decide +kernel
theorem dX7_best_47 : decode cX7_best 47 = .ok (.aload_n 0, 1) := by decide +kernel
theorem dX7_best_48 : decode cX7_best 48 = .ok (.getfield 132, 3) := by decide +kernel
theorem dX7_best_51 : decode cX7_best 51 = .ok (.ireturn, 1) := by decide +kernel
theorem dX7_fewest_0 : decode cX7_fewest 0 = .ok (.aload_n 0, 1) := by decide +kernel
theorem dX7_fewest_1 : decode cX7_fewest 1 = .ok (.iconst 0, 1) := by decide +kernel
theorem dX7_fewest_2 : decode cX7_fewest 2 = .ok (.putfield 59, 3) := by decide +kernel
theorem dX7_fewest_5 : decode cX7_fewest 5 = .ok (.iload_n 1, 1) := by decide +kernel
theorem dX7_fewest_6 : decode cX7_fewest 6 = .ok (.i2l, 1) := by decide +kernel
theorem dX7_fewest_7 : decode cX7_fewest 7 = .ok (.lconst 1, 1) := by decide +kernel
theorem dX7_fewest_8 : decode cX7_fewest 8 = .ok (.ldc2_w 115, 3) := by decide +kernel
theorem dX7_fewest_11 : decode cX7_fewest 11 = .ok (.invokestatic 66, 3) := by decide +kernel
theorem dX7_fewest_14 : decode cX7_fewest 14 = .ok (.ifCond .ne 6, 3) := by decide +kernel
theorem dX7_fewest_17 : decode cX7_fewest 17 = .ok (.bipush (-2), 2) := by decide +kernel
theorem dX7_fewest_19 : decode cX7_fewest 19 = .ok (.ireturn, 1) := by decide +kernel
theorem dX7_fewest_20 : decode cX7_fewest 20 = .ok (.aload_n 0, 1) := by decide +kernel
theorem dX7_fewest_21 : decode cX7_fewest 21 = .ok (.getfield 22, 3) := by decide +kernel
theorem dX7_fewest_24 : decode cX7_fewest 24 = .ok (.aload_n 0, 1) := by decide +kernel
theorem dX7_fewest_25 : decode cX7_fewest 25 = .ok (.getfield 28, 3) := by decide +kernel
theorem dX7_fewest_28 : decode cX7_fewest 28 = .ok (.invokestatic 142, 3) := by decide +kernel
theorem dX7_fewest_31 : decode cX7_fewest 31 = .ok (.bipush (-9), 2) := by decide +kernel
theorem dX7_fewest_33 : decode cX7_fewest 33 = .ok (.istore_n 2, 1) := by decide +kernel
theorem dX7_fewest_34 : decode cX7_fewest 34 = .ok (.iconst 1, 1) := by decide +kernel
theorem dX7_fewest_35 : decode cX7_fewest 35 = .ok (.istore_n 3, 1) := by decide +kernel
theorem dX7_fewest_36 : decode cX7_fewest 36 = .ok (.iload_n 3, 1) := by decide +kernel
theorem dX7_fewest_37 : decode cX7_fewest 37 = .ok (.bipush 7, 2) := by decide +kernel
theorem dX7_fewest_39 : decode cX7_fewest 39 = .ok (.if_icmp .ge 34, 3) := by decide +kernel
theorem dX7_fewest_42 : decode cX7_fewest 42 = .ok (.iload_n 2, 1) := by decide +kernel
theorem dX7_fewest_43 : decode cX7_fewest 43 = .ok (.bipush (-9), 2) := by decide +kernel
theorem dX7_fewest_45 : decode cX7_fewest 45 = .ok (.if_icmp .ne 28, 3) := by decide +kernel
theorem dX7_fewest_48 : decode cX7_fewest 48 = .ok (.aload_n 0, 1) := by decide +kernel
theorem dX7_fewest_49 : decode cX7_fewest 49 = .ok (.iload_n 3, 1) := by decide +kernel
theorem dX7_fewest_50 : decode cX7_fewest 50 = .ok (.invokevirtual 148, 3) := by decide +kernel
theorem dX7_fewest_53 : decode cX7_fewest 53 = .ok (.aload_n 0, 1) := by decide +kernel
theorem dX7_fewest_54 : decode cX7_fewest 54 = .ok (.getfield 132, 3) := by decide +kernel
theorem dX7_fewest_57 : decode cX7_fewest 57 = .ok (.iload_n 1, 1) := by decide +kernel
theorem dX7_fewest_58 : decode cX7_fewest 58 = .ok (.if_icmp .lt 7, 3) := by decide +kernel
theorem dX7_fewest_61 : decode cX7_fewest 61 = .ok (.iload_n 3, 1) := by decide +kernel
theorem dX7_fewest_62 : decode cX7_fewest 62 = .ok (.goto 4, 3) := by decide +kernel
theorem dX7_fewest_65 : decode cX7_fewest 65 = .ok (.iload_n 2, 1) := by decide +kernel
theorem dX7_fewest_66 : decode cX7_fewest 66 = .ok (.istore_n 2, 1) := by decide +kernel
theorem dX7_fewest_67 : decode cX7_fewest 67 = .ok (.iinc 3 1, 3) := by decide +kernel
theorem dX7_fewest_70 : decode cX7_fewest 70 = .ok (.goto (-34), 3) := by decide +kernel
theorem dX7_fewest_73 : decode cX7_fewest 73 = .ok (.iload_n 2, 1) := by decide +kernel
theorem dX7_fewest_74 : decode cX7_fewest 74 = .ok (.ireturn, 1) := by decide +kernel
theorem dX7_keys_0 : decode cX7_keys 0 = .ok (.aload_n 0, 1) := by decide +kernel
theorem dX7_keys_1 : decode cX7_keys 1 = .ok (.iconst 0, 1) := by decide +kernel
theorem dX7_keys_2 : decode cX7_keys 2 = .ok (.putfield 59, 3) := by decide +kernel
theorem dX7_keys_5 : decode cX7_keys 5 = .ok (.iload_n 1, 1) := by decide +kernel
theorem dX7_keys_6 : decode cX7_keys 6 = .ok (.i2l, 1) := by decide +kernel
theorem dX7_keys_7 : decode cX7_keys 7 = .ok (.lconst 1, 1) := by decide +kernel
theorem dX7_keys_8 : decode cX7_keys 8 = .ok (.ldc2_w 113, 3) := by decide +kernel
theorem dX7_keys_11 : decode cX7_keys 11 = .ok (.invokestatic 66, 3) := by decide +kernel
theorem dX7_keys_14 : decode cX7_keys 14 = .ok (.ifCond .eq 15, 3) := by decide +kernel
theorem dX7_keys_17 : decode cX7_keys 17 = .ok (.iload_n 2, 1) := by decide +kernel
theorem dX7_keys_18 : decode cX7_keys 18 = .ok (.i2l, 1) := by decide +kernel
theorem dX7_keys_19 : decode cX7_keys 19 = .ok (.lconst 0, 1) := by decide +kernel
theorem dX7_keys_20 : decode cX7_keys 20 = .ok (.ldc2_w 115, 3) := by decide +kernel
theorem dX7_keys_23 : decode cX7_keys 23 = .ok (.invokestatic 66, 3) := by decide +kernel
theorem dX7_keys_26 : decode cX7_keys 26 = .ok (.ifCond .ne 6, 3) := by decide +kernel
theorem dX7_keys_29 : decode cX7_keys 29 = .ok (.bipush (-2), 2) := by decide +kernel
theorem dX7_keys_31 : decode cX7_keys 31 = .ok (.ireturn, 1) := by decide +kernel
theorem dX7_keys_32 : decode cX7_keys 32 = .ok (.bipush (-9), 2) := by decide +kernel
theorem dX7_keys_34 : decode cX7_keys 34 = .ok (.istore_n 3, 1) := by decide +kernel
theorem dX7_keys_35 : decode cX7_keys 35 = .ok (.iconst 0, 1) := by decide +kernel
theorem dX7_keys_36 : decode cX7_keys 36 = .ok (.istore 4, 2) := by decide +kernel
theorem dX7_keys_38 : decode cX7_keys 38 = .ok (.iload 4, 2) := by decide +kernel
theorem dX7_keys_40 : decode cX7_keys 40 = .ok (.iconst 1, 1) := by decide +kernel
theorem dX7_keys_41 : decode cX7_keys 41 = .ok (.aload_n 0, 1) := by decide +kernel
theorem dX7_keys_42 : decode cX7_keys 42 = .ok (.getfield 63, 3) := by decide +kernel
theorem dX7_keys_45 : decode cX7_keys 45 = .ok (.ishl, 1) := by decide +kernel
theorem dX7_keys_46 : decode cX7_keys 46 = .ok (.if_icmp .ge 81, 3) := by decide +kernel
theorem dX7_keys_49 : decode cX7_keys 49 = .ok (.iload 4, 2) := by decide +kernel
theorem dX7_keys_51 : decode cX7_keys 51 = .ok (.aload_n 0, 1) := by decide +kernel
theorem dX7_keys_52 : decode cX7_keys 52 = .ok (.getfield 22, 3) := by decide +kernel
theorem dX7_keys_55 : decode cX7_keys 55 = .ok (.iconst 5, 1) := by decide +kernel
theorem dX7_keys_56 : decode cX7_keys 56 = .ok (.iaload, 1) := by decide +kernel
theorem dX7_keys_57 : decode cX7_keys 57 = .ok (.iand, 1) := by decide +kernel
theorem dX7_keys_58 : decode cX7_keys 58 = .ok (.ifCond .ne 63, 3) := by decide +kernel
theorem dX7_keys_61 : decode cX7_keys 61 = .ok (.iload_n 3, 1) := by decide +kernel
theorem dX7_keys_62 : decode cX7_keys 62 = .ok (.bipush (-9), 2) := by decide +kernel
theorem dX7_keys_64 : decode cX7_keys 64 = .ok (.if_icmp .eq 15, 3) := by decide +kernel
theorem dX7_keys_67 : decode cX7_keys 67 = .ok (.iload 4, 2) := by decide +kernel
theorem dX7_keys_69 : decode cX7_keys 69 = .ok (.invokestatic 152, 3) := by decide +kernel
theorem dX7_keys_72 : decode cX7_keys 72 = .ok (.iload_n 3, 1) := by decide +kernel
theorem dX7_keys_73 : decode cX7_keys 73 = .ok (.invokestatic 152, 3) := by decide +kernel
theorem dX7_keys_76 : decode cX7_keys 76 = .ok (.if_icmp .ge 45, 3) := by decide +kernel
theorem dX7_keys_79 : decode cX7_keys 79 = .ok (.aload_n 0, 1) := by decide +kernel
theorem dX7_keys_80 : decode cX7_keys 80 = .ok (.getfield 22, 3) := by decide +kernel
theorem dX7_keys_83 : decode cX7_keys 83 = .ok (.aload_n 0, 1) := by decide +kernel
theorem dX7_keys_84 : decode cX7_keys 84 = .ok (.getfield 28, 3) := by decide +kernel
theorem dX7_keys_87 : decode cX7_keys 87 = .ok (.invokestatic 142, 3) := by decide +kernel
theorem dX7_keys_90 : decode cX7_keys 90 = .ok (.aload_n 0, 1) := by decide +kernel
theorem dX7_keys_91 : decode cX7_keys 91 = .ok (.getfield 28, 3) := by decide +kernel
theorem dX7_keys_94 : decode cX7_keys 94 = .ok (.iconst 5, 1) := by decide +kernel
theorem dX7_keys_95 : decode cX7_keys 95 = .ok (.dup2, 1) := by decide +kernel
theorem dX7_keys_96 : decode cX7_keys 96 = .ok (.iaload, 1) := by decide +kernel
theorem dX7_keys_97 : decode cX7_keys 97 = .ok (.iload 4, 2) := by decide +kernel
theorem dX7_keys_99 : decode cX7_keys 99 = .ok (.ior, 1) := by decide +kernel
theorem dX7_keys_100 : decode cX7_keys 100 = .ok (.iastore, 1) := by decide +kernel
theorem dX7_keys_101 : decode cX7_keys 101 = .ok (.aload_n 0, 1) := by decide +kernel
theorem dX7_keys_102 : decode cX7_keys 102 = .ok (.iload_n 1, 1) := by decide +kernel
theorem dX7_keys_103 : decode cX7_keys 103 = .ok (.invokevirtual 148, 3) := by decide +kernel
theorem dX7_keys_106 : decode cX7_keys 106 = .ok (.aload_n 0, 1) := by decide +kernel
theorem dX7_keys_107 : decode cX7_keys 107 = .ok (.getfield 132, 3) := by decide +kernel
theorem dX7_keys_110 : decode cX7_keys 110 = .ok (.iload_n 2, 1) := by decide +kernel
theorem dX7_keys_111 : decode cX7_keys 111 = .ok (.if_icmp .gt 8, 3) := by decide +kernel
theorem dX7_keys_114 : decode cX7_keys 114 = .ok (.iload 4, 2) := by decide +kernel
theorem dX7_keys_116 : decode cX7_keys 116 = .ok (.goto 4, 3) := by decide +kernel
theorem dX7_keys_119 : decode cX7_keys 119 = .ok (.iload_n 3, 1) := by decide +kernel
theorem dX7_keys_120 : decode cX7_keys 120 = .ok (.istore_n 3, 1) := by decide +kernel
theorem dX7_keys_121 : decode cX7_keys 121 = .ok (.iinc 4 1, 3) := by decide +kernel
theorem dX7_keys_124 : decode cX7_keys 124 = .ok (.goto (-86), 3) := by decide +kernel
theorem dX7_keys_127 : decode cX7_keys 127 = .ok (.iload_n 3, 1) := by decide +kernel
theorem dX7_keys_128 : decode cX7_keys 128 = .ok (.ireturn, 1) := by decide +kernel
theorem dX7_noRow_0 : decode cX7_noRow 0 = .ok (.iload_n 0, 1) := by decide +kernel
theorem dX7_noRow_1 : decode cX7_noRow 1 = .ok (.i2l, 1) := by decide +kernel
theorem dX7_noRow_2 : decode cX7_noRow 2 = .ok (.lconst 1, 1) := by decide +kernel
theorem dX7_noRow_3 : decode cX7_noRow 3 = .ok (.iload_n 1, 1) := by decide +kernel
theorem dX7_noRow_4 : decode cX7_noRow 4 = .ok (.i2l, 1) := by decide +kernel
theorem dX7_noRow_5 : decode cX7_noRow 5 = .ok (.invokestatic 66, 3) := by decide +kernel
theorem dX7_noRow_8 : decode cX7_noRow 8 = .ok (.ifCond .eq 21, 3) := by decide +kernel
theorem dX7_noRow_11 : decode cX7_noRow 11 = .ok (.iload_n 2, 1) := by decide +kernel
theorem dX7_noRow_12 : decode cX7_noRow 12 = .ok (.i2l, 1) := by decide +kernel
theorem dX7_noRow_13 : decode cX7_noRow 13 = .ok (.lconst 0, 1) := by decide +kernel
theorem dX7_noRow_14 : decode cX7_noRow 14 = .ok (.bipush 10, 2) := by decide +kernel
theorem dX7_noRow_16 : decode cX7_noRow 16 = .ok (.iload_n 0, 1) := by decide +kernel
theorem dX7_noRow_17 : decode cX7_noRow 17 = .ok (.invokestatic 138, 3) := by decide +kernel
theorem dX7_noRow_20 : decode cX7_noRow 20 = .ok (.iconst 1, 1) := by decide +kernel
theorem dX7_noRow_21 : decode cX7_noRow 21 = .ok (.isub, 1) := by decide +kernel
theorem dX7_noRow_22 : decode cX7_noRow 22 = .ok (.i2l, 1) := by decide +kernel
theorem dX7_noRow_23 : decode cX7_noRow 23 = .ok (.invokestatic 66, 3) := by decide +kernel
theorem dX7_noRow_26 : decode cX7_noRow 26 = .ok (.ifCond .ne 5, 3) := by decide +kernel
theorem dX7_noRow_29 : decode cX7_noRow 29 = .ok (.iconst 1, 1) := by decide +kernel
theorem dX7_noRow_30 : decode cX7_noRow 30 = .ok (.ireturn, 1) := by decide +kernel
theorem dX7_noRow_31 : decode cX7_noRow 31 = .ok (.iconst 1, 1) := by decide +kernel
theorem dX7_noRow_32 : decode cX7_noRow 32 = .ok (.istore_n 3, 1) := by decide +kernel
theorem dX7_noRow_33 : decode cX7_noRow 33 = .ok (.iconst 0, 1) := by decide +kernel
theorem dX7_noRow_34 : decode cX7_noRow 34 = .ok (.istore 4, 2) := by decide +kernel
theorem dX7_noRow_36 : decode cX7_noRow 36 = .ok (.iload 4, 2) := by decide +kernel
theorem dX7_noRow_38 : decode cX7_noRow 38 = .ok (.iload_n 0, 1) := by decide +kernel
theorem dX7_noRow_39 : decode cX7_noRow 39 = .ok (.if_icmp .ge 35, 3) := by decide +kernel
theorem dX7_noRow_42 : decode cX7_noRow 42 = .ok (.iload_n 3, 1) := by decide +kernel
theorem dX7_noRow_43 : decode cX7_noRow 43 = .ok (.ifCond .eq 23, 3) := by decide +kernel
theorem dX7_noRow_46 : decode cX7_noRow 46 = .ok (.iload_n 2, 1) := by decide +kernel
theorem dX7_noRow_47 : decode cX7_noRow 47 = .ok (.bipush 10, 2) := by decide +kernel
theorem dX7_noRow_49 : decode cX7_noRow 49 = .ok (.iload 4, 2) := by decide +kernel
theorem dX7_noRow_51 : decode cX7_noRow 51 = .ok (.invokestatic 138, 3) := by decide +kernel
theorem dX7_noRow_54 : decode cX7_noRow 54 = .ok (.idiv, 1) := by decide +kernel
theorem dX7_noRow_55 : decode cX7_noRow 55 = .ok (.bipush 10, 2) := by decide +kernel
theorem dX7_noRow_57 : decode cX7_noRow 57 = .ok (.irem, 1) := by decide +kernel
theorem dX7_noRow_58 : decode cX7_noRow 58 = .ok (.iconst 4, 1) := by decide +kernel
theorem dX7_noRow_59 : decode cX7_noRow 59 = .ok (.if_icmp .ge 7, 3) := by decide +kernel
theorem dX7_noRow_62 : decode cX7_noRow 62 = .ok (.iconst 1, 1) := by decide +kernel
theorem dX7_noRow_63 : decode cX7_noRow 63 = .ok (.goto 4, 3) := by decide +kernel
theorem dX7_noRow_66 : decode cX7_noRow 66 = .ok (.iconst 0, 1) := by decide +kernel
theorem dX7_noRow_67 : decode cX7_noRow 67 = .ok (.istore_n 3, 1) := by decide +kernel
theorem dX7_noRow_68 : decode cX7_noRow 68 = .ok (.iinc 4 1, 3) := by decide +kernel
theorem dX7_noRow_71 : decode cX7_noRow 71 = .ok (.goto (-35), 3) := by decide +kernel
theorem dX7_noRow_74 : decode cX7_noRow 74 = .ok (.iload_n 3, 1) := by decide +kernel
theorem dX7_noRow_75 : decode cX7_noRow 75 = .ok (.ifCond .ne 7, 3) := by decide +kernel
theorem dX7_noRow_78 : decode cX7_noRow 78 = .ok (.iconst 1, 1) := by decide +kernel
theorem dX7_noRow_79 : decode cX7_noRow 79 = .ok (.goto 4, 3) := by decide +kernel
theorem dX7_noRow_82 : decode cX7_noRow 82 = .ok (.iconst 0, 1) := by decide +kernel
theorem dX7_noRow_83 : decode cX7_noRow 83 = .ok (.ireturn, 1) := by decide +kernel
theorem dX7_judge_0 : decode cX7_judge 0 = .ok (.aload_n 0, 1) := by decide +kernel
theorem dX7_judge_1 : decode cX7_judge 1 = .ok (.iconst 0, 1) := by decide +kernel
theorem dX7_judge_2 : decode cX7_judge 2 = .ok (.putfield 59, 3) := by decide +kernel
theorem dX7_judge_5 : decode cX7_judge 5 = .ok (.iload_n 1, 1) := by decide +kernel
theorem dX7_judge_6 : decode cX7_judge 6 = .ok (.bipush 8, 2) := by decide +kernel
theorem dX7_judge_8 : decode cX7_judge 8 = .ok (.iload_n 2, 1) := by decide +kernel
theorem dX7_judge_9 : decode cX7_judge 9 = .ok (.invokestatic 155, 3) := by decide +kernel
theorem dX7_judge_12 : decode cX7_judge 12 = .ok (.ifCond .eq 6, 3) := by decide +kernel
theorem dX7_judge_15 : decode cX7_judge 15 = .ok (.bipush (-2), 2) := by decide +kernel
theorem dX7_judge_17 : decode cX7_judge 17 = .ok (.ireturn, 1) := by decide +kernel
theorem dX7_judge_18 : decode cX7_judge 18 = .ok (.aload_n 0, 1) := by decide +kernel
theorem dX7_judge_19 : decode cX7_judge 19 = .ok (.getfield 22, 3) := by decide +kernel
theorem dX7_judge_22 : decode cX7_judge 22 = .ok (.aload_n 0, 1) := by decide +kernel
theorem dX7_judge_23 : decode cX7_judge 23 = .ok (.getfield 25, 3) := by decide +kernel
theorem dX7_judge_26 : decode cX7_judge 26 = .ok (.invokestatic 142, 3) := by decide +kernel
theorem dX7_judge_29 : decode cX7_judge 29 = .ok (.iconst 0, 1) := by decide +kernel
theorem dX7_judge_30 : decode cX7_judge 30 = .ok (.istore_n 3, 1) := by decide +kernel
theorem dX7_judge_31 : decode cX7_judge 31 = .ok (.iload_n 3, 1) := by decide +kernel
theorem dX7_judge_32 : decode cX7_judge 32 = .ok (.iload_n 1, 1) := by decide +kernel
theorem dX7_judge_33 : decode cX7_judge 33 = .ok (.if_icmp .ge 66, 3) := by decide +kernel
theorem dX7_judge_36 : decode cX7_judge 36 = .ok (.iload_n 2, 1) := by decide +kernel
theorem dX7_judge_37 : decode cX7_judge 37 = .ok (.bipush 10, 2) := by decide +kernel
theorem dX7_judge_39 : decode cX7_judge 39 = .ok (.iload_n 1, 1) := by decide +kernel
theorem dX7_judge_40 : decode cX7_judge 40 = .ok (.iconst 1, 1) := by decide +kernel
theorem dX7_judge_41 : decode cX7_judge 41 = .ok (.isub, 1) := by decide +kernel
theorem dX7_judge_42 : decode cX7_judge 42 = .ok (.iload_n 3, 1) := by decide +kernel
theorem dX7_judge_43 : decode cX7_judge 43 = .ok (.isub, 1) := by decide +kernel
theorem dX7_judge_44 : decode cX7_judge 44 = .ok (.invokestatic 138, 3) := by decide +kernel
theorem dX7_judge_47 : decode cX7_judge 47 = .ok (.idiv, 1) := by decide +kernel
theorem dX7_judge_48 : decode cX7_judge 48 = .ok (.bipush 10, 2) := by decide +kernel
theorem dX7_judge_50 : decode cX7_judge 50 = .ok (.irem, 1) := by decide +kernel
theorem dX7_judge_51 : decode cX7_judge 51 = .ok (.istore 4, 2) := by decide +kernel
theorem dX7_judge_53 : decode cX7_judge 53 = .ok (.aload_n 0, 1) := by decide +kernel
theorem dX7_judge_54 : decode cX7_judge 54 = .ok (.aload_n 0, 1) := by decide +kernel
theorem dX7_judge_55 : decode cX7_judge 55 = .ok (.getfield 25, 3) := by decide +kernel
theorem dX7_judge_58 : decode cX7_judge 58 = .ok (.iload 4, 2) := by decide +kernel
theorem dX7_judge_60 : decode cX7_judge 60 = .ok (.invokevirtual 121, 3) := by decide +kernel
theorem dX7_judge_63 : decode cX7_judge 63 = .ok (.ifCond .ne 5, 3) := by decide +kernel
theorem dX7_judge_66 : decode cX7_judge 66 = .ok (.iload_n 3, 1) := by decide +kernel
theorem dX7_judge_67 : decode cX7_judge 67 = .ok (.ireturn, 1) := by decide +kernel
theorem dX7_judge_68 : decode cX7_judge 68 = .ok (.aload_n 0, 1) := by decide +kernel
theorem dX7_judge_69 : decode cX7_judge 69 = .ok (.aload_n 0, 1) := by decide +kernel
theorem dX7_judge_70 : decode cX7_judge 70 = .ok (.getfield 25, 3) := by decide +kernel
theorem dX7_judge_73 : decode cX7_judge 73 = .ok (.iload 4, 2) := by decide +kernel
theorem dX7_judge_75 : decode cX7_judge 75 = .ok (.invokevirtual 128, 3) := by decide +kernel
theorem dX7_judge_78 : decode cX7_judge 78 = .ok (.istore 5, 2) := by decide +kernel
theorem dX7_judge_80 : decode cX7_judge 80 = .ok (.iload 4, 2) := by decide +kernel
theorem dX7_judge_82 : decode cX7_judge 82 = .ok (.iconst 2, 1) := by decide +kernel
theorem dX7_judge_83 : decode cX7_judge 83 = .ok (.if_icmp .ne 10, 3) := by decide +kernel
theorem dX7_judge_86 : decode cX7_judge 86 = .ok (.iload 5, 2) := by decide +kernel
theorem dX7_judge_88 : decode cX7_judge 88 = .ok (.ifCond .ne 5, 3) := by decide +kernel
theorem dX7_judge_91 : decode cX7_judge 91 = .ok (.iload_n 3, 1) := by decide +kernel
theorem dX7_judge_92 : decode cX7_judge 92 = .ok (.ireturn, 1) := by decide +kernel
theorem dX7_judge_93 : decode cX7_judge 93 = .ok (.iinc 3 1, 3) := by decide +kernel
theorem dX7_judge_96 : decode cX7_judge 96 = .ok (.goto (-65), 3) := by decide +kernel
theorem dX7_judge_99 : decode cX7_judge 99 = .ok (.bipush (-9), 2) := by decide +kernel
theorem dX7_judge_101 : decode cX7_judge 101 = .ok (.ireturn, 1) := by decide +kernel
theorem dX7_ways_0 : decode cX7_ways 0 = .ok (.iconst 1, 1) := by decide +kernel
theorem dX7_ways_1 : decode cX7_ways 1 = .ok (.istore_n 1, 1) := by decide +kernel
theorem dX7_ways_2 : decode cX7_ways 2 = .ok (.iconst 2, 1) := by decide +kernel
theorem dX7_ways_3 : decode cX7_ways 3 = .ok (.istore_n 2, 1) := by decide +kernel
theorem dX7_ways_4 : decode cX7_ways 4 = .ok (.iload_n 2, 1) := by decide +kernel
theorem dX7_ways_5 : decode cX7_ways 5 = .ok (.iload_n 0, 1) := by decide +kernel
theorem dX7_ways_6 : decode cX7_ways 6 = .ok (.if_icmp .gt 13, 3) := by decide +kernel
theorem dX7_ways_9 : decode cX7_ways 9 = .ok (.iload_n 1, 1) := by decide +kernel
theorem dX7_ways_10 : decode cX7_ways 10 = .ok (.iload_n 2, 1) := by decide +kernel
theorem dX7_ways_11 : decode cX7_ways 11 = .ok (.imul, 1) := by decide +kernel
theorem dX7_ways_12 : decode cX7_ways 12 = .ok (.istore_n 1, 1) := by decide +kernel
theorem dX7_ways_13 : decode cX7_ways 13 = .ok (.iinc 2 1, 3) := by decide +kernel
theorem dX7_ways_16 : decode cX7_ways 16 = .ok (.goto (-12), 3) := by decide +kernel
theorem dX7_ways_19 : decode cX7_ways 19 = .ok (.iload_n 1, 1) := by decide +kernel
theorem dX7_ways_20 : decode cX7_ways 20 = .ok (.ireturn, 1) := by decide +kernel
theorem dX7_divisor_0 : decode cX7_divisor 0 = .ok (.iload_n 0, 1) := by decide +kernel
theorem dX7_divisor_1 : decode cX7_divisor 1 = .ok (.ifCond .ge 8, 3) := by decide +kernel
theorem dX7_divisor_4 : decode cX7_divisor 4 = .ok (.iload_n 0, 1) := by decide +kernel
theorem dX7_divisor_5 : decode cX7_divisor 5 = .ok (.ineg, 1) := by decide +kernel
theorem dX7_divisor_6 : decode cX7_divisor 6 = .ok (.goto 4, 3) := by decide +kernel
theorem dX7_divisor_9 : decode cX7_divisor 9 = .ok (.iload_n 0, 1) := by decide +kernel
theorem dX7_divisor_10 : decode cX7_divisor 10 = .ok (.istore_n 2, 1) := by decide +kernel
theorem dX7_divisor_11 : decode cX7_divisor 11 = .ok (.iload_n 1, 1) := by decide +kernel
theorem dX7_divisor_12 : decode cX7_divisor 12 = .ok (.istore_n 3, 1) := by decide +kernel
theorem dX7_divisor_13 : decode cX7_divisor 13 = .ok (.iload_n 3, 1) := by decide +kernel
theorem dX7_divisor_14 : decode cX7_divisor 14 = .ok (.ifCond .eq 16, 3) := by decide +kernel
theorem dX7_divisor_17 : decode cX7_divisor 17 = .ok (.iload_n 2, 1) := by decide +kernel
theorem dX7_divisor_18 : decode cX7_divisor 18 = .ok (.iload_n 3, 1) := by decide +kernel
theorem dX7_divisor_19 : decode cX7_divisor 19 = .ok (.irem, 1) := by decide +kernel
theorem dX7_divisor_20 : decode cX7_divisor 20 = .ok (.istore 4, 2) := by decide +kernel
theorem dX7_divisor_22 : decode cX7_divisor 22 = .ok (.iload_n 3, 1) := by decide +kernel
theorem dX7_divisor_23 : decode cX7_divisor 23 = .ok (.istore_n 2, 1) := by decide +kernel
theorem dX7_divisor_24 : decode cX7_divisor 24 = .ok (.iload 4, 2) := by decide +kernel
theorem dX7_divisor_26 : decode cX7_divisor 26 = .ok (.istore_n 3, 1) := by decide +kernel
theorem dX7_divisor_27 : decode cX7_divisor 27 = .ok (.goto (-14), 3) := by decide +kernel
theorem dX7_divisor_30 : decode cX7_divisor 30 = .ok (.iload_n 2, 1) := by decide +kernel
theorem dX7_divisor_31 : decode cX7_divisor 31 = .ok (.ireturn, 1) := by decide +kernel
theorem dX7_fraction_0 : decode cX7_fraction 0 = .ok (.iload_n 0, 1) := by decide +kernel
theorem dX7_fraction_1 : decode cX7_fraction 1 = .ok (.iload_n 1, 1) := by decide +kernel
theorem dX7_fraction_2 : decode cX7_fraction 2 = .ok (.invokestatic 159, 3) := by decide +kernel
theorem dX7_fraction_5 : decode cX7_fraction 5 = .ok (.istore_n 3, 1) := by decide +kernel
theorem dX7_fraction_6 : decode cX7_fraction 6 = .ok (.iload_n 2, 1) := by decide +kernel
theorem dX7_fraction_7 : decode cX7_fraction 7 = .ok (.ifCond .eq 9, 3) := by decide +kernel
theorem dX7_fraction_10 : decode cX7_fraction 10 = .ok (.iload_n 0, 1) := by decide +kernel
theorem dX7_fraction_11 : decode cX7_fraction 11 = .ok (.iload_n 3, 1) := by decide +kernel
theorem dX7_fraction_12 : decode cX7_fraction 12 = .ok (.idiv, 1) := by decide +kernel
theorem dX7_fraction_13 : decode cX7_fraction 13 = .ok (.goto 6, 3) := by decide +kernel
theorem dX7_fraction_16 : decode cX7_fraction 16 = .ok (.iload_n 1, 1) := by decide +kernel
theorem dX7_fraction_17 : decode cX7_fraction 17 = .ok (.iload_n 3, 1) := by decide +kernel
theorem dX7_fraction_18 : decode cX7_fraction 18 = .ok (.idiv, 1) := by decide +kernel
theorem dX7_fraction_19 : decode cX7_fraction 19 = .ok (.ireturn, 1) := by decide +kernel
theorem dX7_share_0 : decode cX7_share 0 = .ok (.aload_n 0, 1) := by decide +kernel
theorem dX7_share_1 : decode cX7_share 1 = .ok (.iconst 0, 1) := by decide +kernel
theorem dX7_share_2 : decode cX7_share 2 = .ok (.putfield 59, 3) := by decide +kernel
theorem dX7_share_5 : decode cX7_share 5 = .ok (.aload_n 0, 1) := by decide +kernel
theorem dX7_share_6 : decode cX7_share 6 = .ok (.iload_n 1, 1) := by decide +kernel
theorem dX7_share_7 : decode cX7_share 7 = .ok (.invokevirtual 109, 3) := by decide +kernel
theorem dX7_share_10 : decode cX7_share 10 = .ok (.ifCond .eq 5, 3) := by decide +kernel
theorem dX7_share_13 : decode cX7_share 13 = .ok (.iconst (-1), 1) := by decide +kernel
theorem dX7_share_14 : decode cX7_share 14 = .ok (.ireturn, 1) := by decide +kernel
theorem dX7_share_15 : decode cX7_share 15 = .ok (.iconst 0, 1) := by decide +kernel
theorem dX7_share_16 : decode cX7_share 16 = .ok (.istore_n 3, 1) := by decide +kernel
theorem dX7_share_17 : decode cX7_share 17 = .ok (.iload_n 3, 1) := by decide +kernel
theorem dX7_share_18 : decode cX7_share 18 = .ok (.iconst 1, 1) := by decide +kernel
theorem dX7_share_19 : decode cX7_share 19 = .ok (.aload_n 0, 1) := by decide +kernel
theorem dX7_share_20 : decode cX7_share 20 = .ok (.getfield 63, 3) := by decide +kernel
theorem dX7_share_23 : decode cX7_share 23 = .ok (.ishl, 1) := by decide +kernel
theorem dX7_share_24 : decode cX7_share 24 = .ok (.if_icmp .ge 45, 3) := by decide +kernel
theorem dX7_share_27 : decode cX7_share 27 = .ok (.aload_n 0, 1) := by decide +kernel
theorem dX7_share_28 : decode cX7_share 28 = .ok (.getfield 22, 3) := by decide +kernel
theorem dX7_share_31 : decode cX7_share 31 = .ok (.aload_n 0, 1) := by decide +kernel
theorem dX7_share_32 : decode cX7_share 32 = .ok (.getfield 28, 3) := by decide +kernel
theorem dX7_share_35 : decode cX7_share 35 = .ok (.invokestatic 142, 3) := by decide +kernel
theorem dX7_share_38 : decode cX7_share 38 = .ok (.aload_n 0, 1) := by decide +kernel
theorem dX7_share_39 : decode cX7_share 39 = .ok (.getfield 28, 3) := by decide +kernel
theorem dX7_share_42 : decode cX7_share 42 = .ok (.iconst 4, 1) := by decide +kernel
theorem dX7_share_43 : decode cX7_share 43 = .ok (.dup2, 1) := by decide +kernel
theorem dX7_share_44 : decode cX7_share 44 = .ok (.iaload, 1) := by decide +kernel
theorem dX7_share_45 : decode cX7_share 45 = .ok (.iload_n 3, 1) := by decide +kernel
theorem dX7_share_46 : decode cX7_share 46 = .ok (.iand, 1) := by decide +kernel
theorem dX7_share_47 : decode cX7_share 47 = .ok (.iastore, 1) := by decide +kernel
theorem dX7_share_48 : decode cX7_share 48 = .ok (.aload_n 0, 1) := by decide +kernel
theorem dX7_share_49 : decode cX7_share 49 = .ok (.iconst 3, 1) := by decide +kernel
theorem dX7_share_50 : decode cX7_share 50 = .ok (.invokevirtual 148, 3) := by decide +kernel
theorem dX7_share_53 : decode cX7_share 53 = .ok (.aload_n 0, 1) := by decide +kernel
theorem dX7_share_54 : decode cX7_share 54 = .ok (.getfield 53, 3) := by decide +kernel
theorem dX7_share_57 : decode cX7_share 57 = .ok (.iload_n 3, 1) := by decide +kernel
theorem dX7_share_58 : decode cX7_share 58 = .ok (.aload_n 0, 1) := by decide +kernel
theorem dX7_share_59 : decode cX7_share 59 = .ok (.getfield 132, 3) := by decide +kernel
theorem dX7_share_62 : decode cX7_share 62 = .ok (.iastore, 1) := by decide +kernel
theorem dX7_share_63 : decode cX7_share 63 = .ok (.iinc 3 1, 3) := by decide +kernel
theorem dX7_share_66 : decode cX7_share 66 = .ok (.goto (-49), 3) := by decide +kernel
theorem dX7_share_69 : decode cX7_share 69 = .ok (.iconst 0, 1) := by decide +kernel
theorem dX7_share_70 : decode cX7_share 70 = .ok (.istore_n 3, 1) := by decide +kernel
theorem dX7_share_71 : decode cX7_share 71 = .ok (.iconst 0, 1) := by decide +kernel
theorem dX7_share_72 : decode cX7_share 72 = .ok (.istore 4, 2) := by decide +kernel
theorem dX7_share_74 : decode cX7_share 74 = .ok (.iload 4, 2) := by decide +kernel
theorem dX7_share_76 : decode cX7_share 76 = .ok (.iconst 1, 1) := by decide +kernel
theorem dX7_share_77 : decode cX7_share 77 = .ok (.aload_n 0, 1) := by decide +kernel
theorem dX7_share_78 : decode cX7_share 78 = .ok (.getfield 63, 3) := by decide +kernel
theorem dX7_share_81 : decode cX7_share 81 = .ok (.ishl, 1) := by decide +kernel
theorem dX7_share_82 : decode cX7_share 82 = .ok (.if_icmp .ge 66, 3) := by decide +kernel
theorem dX7_share_85 : decode cX7_share 85 = .ok (.iload 4, 2) := by decide +kernel
theorem dX7_share_87 : decode cX7_share 87 = .ok (.iload_n 1, 1) := by decide +kernel
theorem dX7_share_88 : decode cX7_share 88 = .ok (.invokestatic 98, 3) := by decide +kernel
theorem dX7_share_91 : decode cX7_share 91 = .ok (.ifCond .ne 51, 3) := by decide +kernel
theorem dX7_share_94 : decode cX7_share 94 = .ok (.iload 4, 2) := by decide +kernel
theorem dX7_share_96 : decode cX7_share 96 = .ok (.invokestatic 152, 3) := by decide +kernel
theorem dX7_share_99 : decode cX7_share 99 = .ok (.istore 5, 2) := by decide +kernel
theorem dX7_share_101 : decode cX7_share 101 = .ok (.iload_n 3, 1) := by decide +kernel
theorem dX7_share_102 : decode cX7_share 102 = .ok (.iload 5, 2) := by decide +kernel
theorem dX7_share_104 : decode cX7_share 104 = .ok (.invokestatic 162, 3) := by decide +kernel
theorem dX7_share_107 : decode cX7_share 107 = .ok (.aload_n 0, 1) := by decide +kernel
theorem dX7_share_108 : decode cX7_share 108 = .ok (.getfield 63, 3) := by decide +kernel
theorem dX7_share_111 : decode cX7_share 111 = .ok (.iconst 1, 1) := by decide +kernel
theorem dX7_share_112 : decode cX7_share 112 = .ok (.isub, 1) := by decide +kernel
theorem dX7_share_113 : decode cX7_share 113 = .ok (.iload 5, 2) := by decide +kernel
theorem dX7_share_115 : decode cX7_share 115 = .ok (.isub, 1) := by decide +kernel
theorem dX7_share_116 : decode cX7_share 116 = .ok (.invokestatic 162, 3) := by decide +kernel
theorem dX7_share_119 : decode cX7_share 119 = .ok (.imul, 1) := by decide +kernel
theorem dX7_share_120 : decode cX7_share 120 = .ok (.aload_n 0, 1) := by decide +kernel
theorem dX7_share_121 : decode cX7_share 121 = .ok (.getfield 53, 3) := by decide +kernel
theorem dX7_share_124 : decode cX7_share 124 = .ok (.iload 4, 2) := by decide +kernel
theorem dX7_share_126 : decode cX7_share 126 = .ok (.iconst 1, 1) := by decide +kernel
theorem dX7_share_127 : decode cX7_share 127 = .ok (.iload_n 1, 1) := by decide +kernel
theorem dX7_share_128 : decode cX7_share 128 = .ok (.ishl, 1) := by decide +kernel
theorem dX7_share_129 : decode cX7_share 129 = .ok (.ior, 1) := by decide +kernel
theorem dX7_share_130 : decode cX7_share 130 = .ok (.iaload, 1) := by decide +kernel
theorem dX7_share_131 : decode cX7_share 131 = .ok (.aload_n 0, 1) := by decide +kernel
theorem dX7_share_132 : decode cX7_share 132 = .ok (.getfield 53, 3) := by decide +kernel
theorem dX7_share_135 : decode cX7_share 135 = .ok (.iload 4, 2) := by decide +kernel
theorem dX7_share_137 : decode cX7_share 137 = .ok (.iaload, 1) := by decide +kernel
theorem dX7_share_138 : decode cX7_share 138 = .ok (.isub, 1) := by decide +kernel
theorem dX7_share_139 : decode cX7_share 139 = .ok (.imul, 1) := by decide +kernel
theorem dX7_share_140 : decode cX7_share 140 = .ok (.iadd, 1) := by decide +kernel
theorem dX7_share_141 : decode cX7_share 141 = .ok (.istore_n 3, 1) := by decide +kernel
theorem dX7_share_142 : decode cX7_share 142 = .ok (.iinc 4 1, 3) := by decide +kernel
theorem dX7_share_145 : decode cX7_share 145 = .ok (.goto (-71), 3) := by decide +kernel
theorem dX7_share_148 : decode cX7_share 148 = .ok (.iload_n 3, 1) := by decide +kernel
theorem dX7_share_149 : decode cX7_share 149 = .ok (.aload_n 0, 1) := by decide +kernel
theorem dX7_share_150 : decode cX7_share 150 = .ok (.getfield 63, 3) := by decide +kernel
theorem dX7_share_153 : decode cX7_share 153 = .ok (.invokestatic 162, 3) := by decide +kernel
theorem dX7_share_156 : decode cX7_share 156 = .ok (.iload_n 2, 1) := by decide +kernel
theorem dX7_share_157 : decode cX7_share 157 = .ok (.invokestatic 165, 3) := by decide +kernel
theorem dX7_share_160 : decode cX7_share 160 = .ok (.ireturn, 1) := by decide +kernel
theorem dX7_see_0 : decode cX7_see 0 = .ok (.aload_n 0, 1) := by decide +kernel
theorem dX7_see_1 : decode cX7_see 1 = .ok (.iconst 0, 1) := by decide +kernel
theorem dX7_see_2 : decode cX7_see 2 = .ok (.putfield 59, 3) := by decide +kernel
theorem dX7_see_5 : decode cX7_see 5 = .ok (.aload_n 0, 1) := by decide +kernel
theorem dX7_see_6 : decode cX7_see 6 = .ok (.iload_n 1, 1) := by decide +kernel
theorem dX7_see_7 : decode cX7_see 7 = .ok (.invokevirtual 109, 3) := by decide +kernel
theorem dX7_see_10 : decode cX7_see 10 = .ok (.ifCond .eq 5, 3) := by decide +kernel
theorem dX7_see_13 : decode cX7_see 13 = .ok (.iconst (-1), 1) := by decide +kernel
theorem dX7_see_14 : decode cX7_see 14 = .ok (.ireturn, 1) := by decide +kernel
theorem dX7_see_15 : decode cX7_see 15 = .ok (.iload_n 2, 1) := by decide +kernel
theorem dX7_see_16 : decode cX7_see 16 = .ok (.i2l, 1) := by decide +kernel
theorem dX7_see_17 : decode cX7_see 17 = .ok (.lconst 0, 1) := by decide +kernel
theorem dX7_see_18 : decode cX7_see 18 = .ok (.ldc2_w 169, 3) := by decide +kernel
theorem dX7_see_21 : decode cX7_see 21 = .ok (.invokestatic 66, 3) := by decide +kernel
theorem dX7_see_24 : decode cX7_see 24 = .ok (.ifCond .eq 28, 3) := by decide +kernel
theorem dX7_see_27 : decode cX7_see 27 = .ok (.iload_n 3, 1) := by decide +kernel
theorem dX7_see_28 : decode cX7_see 28 = .ok (.i2l, 1) := by decide +kernel
theorem dX7_see_29 : decode cX7_see 29 = .ok (.lconst 0, 1) := by decide +kernel
theorem dX7_see_30 : decode cX7_see 30 = .ok (.ldc2_w 169, 3) := by decide +kernel
theorem dX7_see_33 : decode cX7_see 33 = .ok (.invokestatic 66, 3) := by decide +kernel
theorem dX7_see_36 : decode cX7_see 36 = .ok (.ifCond .eq 16, 3) := by decide +kernel
theorem dX7_see_39 : decode cX7_see 39 = .ok (.iload 4, 2) := by decide +kernel
theorem dX7_see_41 : decode cX7_see 41 = .ok (.i2l, 1) := by decide +kernel
theorem dX7_see_42 : decode cX7_see 42 = .ok (.lconst 0, 1) := by decide +kernel
theorem dX7_see_43 : decode cX7_see 43 = .ok (.ldc2_w 171, 3) := by decide +kernel
theorem dX7_see_46 : decode cX7_see 46 = .ok (.invokestatic 66, 3) := by decide +kernel
theorem dX7_see_49 : decode cX7_see 49 = .ok (.ifCond .ne 6, 3) := by decide +kernel
theorem dX7_see_52 : decode cX7_see 52 = .ok (.bipush (-2), 2) := by decide +kernel
theorem dX7_see_54 : decode cX7_see 54 = .ok (.ireturn, 1) := by decide +kernel
theorem dX7_see_55 : decode cX7_see 55 = .ok (.aload_n 0, 1) := by decide +kernel
theorem dX7_see_56 : decode cX7_see 56 = .ok (.getfield 106, 3) := by decide +kernel
theorem dX7_see_59 : decode cX7_see 59 = .ok (.bipush 6, 2) := by decide +kernel
theorem dX7_see_61 : decode cX7_see 61 = .ok (.if_icmp .ne 6, 3) := by decide +kernel
theorem dX7_see_64 : decode cX7_see 64 = .ok (.bipush (-4), 2) := by decide +kernel
theorem dX7_see_66 : decode cX7_see 66 = .ok (.ireturn, 1) := by decide +kernel
theorem dX7_see_67 : decode cX7_see 67 = .ok (.aload_n 0, 1) := by decide +kernel
theorem dX7_see_68 : decode cX7_see 68 = .ok (.getfield 41, 3) := by decide +kernel
theorem dX7_see_71 : decode cX7_see 71 = .ok (.aload_n 0, 1) := by decide +kernel
theorem dX7_see_72 : decode cX7_see 72 = .ok (.getfield 106, 3) := by decide +kernel
theorem dX7_see_75 : decode cX7_see 75 = .ok (.iload_n 1, 1) := by decide +kernel
theorem dX7_see_76 : decode cX7_see 76 = .ok (.iastore, 1) := by decide +kernel
theorem dX7_see_77 : decode cX7_see 77 = .ok (.aload_n 0, 1) := by decide +kernel
theorem dX7_see_78 : decode cX7_see 78 = .ok (.getfield 44, 3) := by decide +kernel
theorem dX7_see_81 : decode cX7_see 81 = .ok (.aload_n 0, 1) := by decide +kernel
theorem dX7_see_82 : decode cX7_see 82 = .ok (.getfield 106, 3) := by decide +kernel
theorem dX7_see_85 : decode cX7_see 85 = .ok (.iload_n 2, 1) := by decide +kernel
theorem dX7_see_86 : decode cX7_see 86 = .ok (.iastore, 1) := by decide +kernel
theorem dX7_see_87 : decode cX7_see 87 = .ok (.aload_n 0, 1) := by decide +kernel
theorem dX7_see_88 : decode cX7_see 88 = .ok (.getfield 47, 3) := by decide +kernel
theorem dX7_see_91 : decode cX7_see 91 = .ok (.aload_n 0, 1) := by decide +kernel
theorem dX7_see_92 : decode cX7_see 92 = .ok (.getfield 106, 3) := by decide +kernel
theorem dX7_see_95 : decode cX7_see 95 = .ok (.iload_n 3, 1) := by decide +kernel
theorem dX7_see_96 : decode cX7_see 96 = .ok (.iastore, 1) := by decide +kernel
theorem dX7_see_97 : decode cX7_see 97 = .ok (.aload_n 0, 1) := by decide +kernel
theorem dX7_see_98 : decode cX7_see 98 = .ok (.getfield 50, 3) := by decide +kernel
theorem dX7_see_101 : decode cX7_see 101 = .ok (.aload_n 0, 1) := by decide +kernel
theorem dX7_see_102 : decode cX7_see 102 = .ok (.getfield 106, 3) := by decide +kernel
theorem dX7_see_105 : decode cX7_see 105 = .ok (.iload 4, 2) := by decide +kernel
theorem dX7_see_107 : decode cX7_see 107 = .ok (.iastore, 1) := by decide +kernel
theorem dX7_see_108 : decode cX7_see 108 = .ok (.aload_n 0, 1) := by decide +kernel
theorem dX7_see_109 : decode cX7_see 109 = .ok (.dup, 1) := by decide +kernel
theorem dX7_see_110 : decode cX7_see 110 = .ok (.getfield 106, 3) := by decide +kernel
theorem dX7_see_113 : decode cX7_see 113 = .ok (.iconst 1, 1) := by decide +kernel
theorem dX7_see_114 : decode cX7_see 114 = .ok (.iadd, 1) := by decide +kernel
theorem dX7_see_115 : decode cX7_see 115 = .ok (.putfield 106, 3) := by decide +kernel
theorem dX7_see_118 : decode cX7_see 118 = .ok (.aload_n 0, 1) := by decide +kernel
theorem dX7_see_119 : decode cX7_see 119 = .ok (.getfield 106, 3) := by decide +kernel
theorem dX7_see_122 : decode cX7_see 122 = .ok (.ireturn, 1) := by decide +kernel
theorem dX7_unsee_0 : decode cX7_unsee 0 = .ok (.aload_n 0, 1) := by decide +kernel
theorem dX7_unsee_1 : decode cX7_unsee 1 = .ok (.iconst 0, 1) := by decide +kernel
theorem dX7_unsee_2 : decode cX7_unsee 2 = .ok (.putfield 59, 3) := by decide +kernel
theorem dX7_unsee_5 : decode cX7_unsee 5 = .ok (.aload_n 0, 1) := by decide +kernel
theorem dX7_unsee_6 : decode cX7_unsee 6 = .ok (.getfield 106, 3) := by decide +kernel
theorem dX7_unsee_9 : decode cX7_unsee 9 = .ok (.istore_n 1, 1) := by decide +kernel
theorem dX7_unsee_10 : decode cX7_unsee 10 = .ok (.aload_n 0, 1) := by decide +kernel
theorem dX7_unsee_11 : decode cX7_unsee 11 = .ok (.iconst 0, 1) := by decide +kernel
theorem dX7_unsee_12 : decode cX7_unsee 12 = .ok (.putfield 106, 3) := by decide +kernel
theorem dX7_unsee_15 : decode cX7_unsee 15 = .ok (.iload_n 1, 1) := by decide +kernel
theorem dX7_unsee_16 : decode cX7_unsee 16 = .ok (.ireturn, 1) := by decide +kernel
theorem dX7_shapes_0 : decode cX7_shapes 0 = .ok (.aload_n 0, 1) := by decide +kernel
theorem dX7_shapes_1 : decode cX7_shapes 1 = .ok (.iconst 0, 1) := by decide +kernel
theorem dX7_shapes_2 : decode cX7_shapes 2 = .ok (.putfield 59, 3) := by decide +kernel
theorem dX7_shapes_5 : decode cX7_shapes 5 = .ok (.aload_n 0, 1) := by decide +kernel
theorem dX7_shapes_6 : decode cX7_shapes 6 = .ok (.iload_n 1, 1) := by decide +kernel
theorem dX7_shapes_7 : decode cX7_shapes 7 = .ok (.invokevirtual 109, 3) := by decide +kernel
theorem dX7_shapes_10 : decode cX7_shapes 10 = .ok (.ifCond .eq 5, 3) := by decide +kernel
theorem dX7_shapes_13 : decode cX7_shapes 13 = .ok (.iconst (-1), 1) := by decide +kernel
theorem dX7_shapes_14 : decode cX7_shapes 14 = .ok (.ireturn, 1) := by decide +kernel
theorem dX7_shapes_15 : decode cX7_shapes 15 = .ok (.iconst 0, 1) := by decide +kernel
theorem dX7_shapes_16 : decode cX7_shapes 16 = .ok (.istore_n 2, 1) := by decide +kernel
theorem dX7_shapes_17 : decode cX7_shapes 17 = .ok (.iconst 0, 1) := by decide +kernel
theorem dX7_shapes_18 : decode cX7_shapes 18 = .ok (.istore_n 3, 1) := by decide +kernel
theorem dX7_shapes_19 : decode cX7_shapes 19 = .ok (.iload_n 3, 1) := by decide +kernel
theorem dX7_shapes_20 : decode cX7_shapes 20 = .ok (.iconst 4, 1) := by decide +kernel
theorem dX7_shapes_21 : decode cX7_shapes 21 = .ok (.if_icmp .ge 96, 3) := by decide +kernel
theorem dX7_shapes_24 : decode cX7_shapes 24 = .ok (.iconst 1, 1) := by decide +kernel
theorem dX7_shapes_25 : decode cX7_shapes 25 = .ok (.istore 4, 2) := by decide +kernel
theorem dX7_shapes_27 : decode cX7_shapes 27 = .ok (.iconst 0, 1) := by decide +kernel
theorem dX7_shapes_28 : decode cX7_shapes 28 = .ok (.istore 5, 2) := by decide +kernel
theorem dX7_shapes_30 : decode cX7_shapes 30 = .ok (.iload 5, 2) := by decide +kernel
theorem dX7_shapes_32 : decode cX7_shapes 32 = .ok (.aload_n 0, 1) := by decide +kernel
theorem dX7_shapes_33 : decode cX7_shapes 33 = .ok (.getfield 106, 3) := by decide +kernel
theorem dX7_shapes_36 : decode cX7_shapes 36 = .ok (.if_icmp .ge 60, 3) := by decide +kernel
theorem dX7_shapes_39 : decode cX7_shapes 39 = .ok (.iload 4, 2) := by decide +kernel
theorem dX7_shapes_41 : decode cX7_shapes 41 = .ok (.ifCond .eq 46, 3) := by decide +kernel
theorem dX7_shapes_44 : decode cX7_shapes 44 = .ok (.aload_n 0, 1) := by decide +kernel
theorem dX7_shapes_45 : decode cX7_shapes 45 = .ok (.getfield 41, 3) := by decide +kernel
theorem dX7_shapes_48 : decode cX7_shapes 48 = .ok (.iload 5, 2) := by decide +kernel
theorem dX7_shapes_50 : decode cX7_shapes 50 = .ok (.iaload, 1) := by decide +kernel
theorem dX7_shapes_51 : decode cX7_shapes 51 = .ok (.iload_n 1, 1) := by decide +kernel
theorem dX7_shapes_52 : decode cX7_shapes 52 = .ok (.if_icmp .ne 31, 3) := by decide +kernel
theorem dX7_shapes_55 : decode cX7_shapes 55 = .ok (.iload_n 3, 1) := by decide +kernel
theorem dX7_shapes_56 : decode cX7_shapes 56 = .ok (.aload_n 0, 1) := by decide +kernel
theorem dX7_shapes_57 : decode cX7_shapes 57 = .ok (.getfield 44, 3) := by decide +kernel
theorem dX7_shapes_60 : decode cX7_shapes 60 = .ok (.iload 5, 2) := by decide +kernel
theorem dX7_shapes_62 : decode cX7_shapes 62 = .ok (.iaload, 1) := by decide +kernel
theorem dX7_shapes_63 : decode cX7_shapes 63 = .ok (.aload_n 0, 1) := by decide +kernel
theorem dX7_shapes_64 : decode cX7_shapes 64 = .ok (.getfield 47, 3) := by decide +kernel
theorem dX7_shapes_67 : decode cX7_shapes 67 = .ok (.iload 5, 2) := by decide +kernel
theorem dX7_shapes_69 : decode cX7_shapes 69 = .ok (.iaload, 1) := by decide +kernel
theorem dX7_shapes_70 : decode cX7_shapes 70 = .ok (.invokestatic 102, 3) := by decide +kernel
theorem dX7_shapes_73 : decode cX7_shapes 73 = .ok (.aload_n 0, 1) := by decide +kernel
theorem dX7_shapes_74 : decode cX7_shapes 74 = .ok (.getfield 50, 3) := by decide +kernel
theorem dX7_shapes_77 : decode cX7_shapes 77 = .ok (.iload 5, 2) := by decide +kernel
theorem dX7_shapes_79 : decode cX7_shapes 79 = .ok (.iaload, 1) := by decide +kernel
theorem dX7_shapes_80 : decode cX7_shapes 80 = .ok (.if_icmp .ne 7, 3) := by decide +kernel
theorem dX7_shapes_83 : decode cX7_shapes 83 = .ok (.iconst 1, 1) := by decide +kernel
theorem dX7_shapes_84 : decode cX7_shapes 84 = .ok (.goto 4, 3) := by decide +kernel
theorem dX7_shapes_87 : decode cX7_shapes 87 = .ok (.iconst 0, 1) := by decide +kernel
theorem dX7_shapes_88 : decode cX7_shapes 88 = .ok (.istore 4, 2) := by decide +kernel
theorem dX7_shapes_90 : decode cX7_shapes 90 = .ok (.iinc 5 1, 3) := by decide +kernel
theorem dX7_shapes_93 : decode cX7_shapes 93 = .ok (.goto (-63), 3) := by decide +kernel
theorem dX7_shapes_96 : decode cX7_shapes 96 = .ok (.iload_n 2, 1) := by decide +kernel
theorem dX7_shapes_97 : decode cX7_shapes 97 = .ok (.iload 4, 2) := by decide +kernel
theorem dX7_shapes_99 : decode cX7_shapes 99 = .ok (.ifCond .eq 9, 3) := by decide +kernel
theorem dX7_shapes_102 : decode cX7_shapes 102 = .ok (.iconst 1, 1) := by decide +kernel
theorem dX7_shapes_103 : decode cX7_shapes 103 = .ok (.iload_n 3, 1) := by decide +kernel
theorem dX7_shapes_104 : decode cX7_shapes 104 = .ok (.ishl, 1) := by decide +kernel
theorem dX7_shapes_105 : decode cX7_shapes 105 = .ok (.goto 4, 3) := by decide +kernel
theorem dX7_shapes_108 : decode cX7_shapes 108 = .ok (.iconst 0, 1) := by decide +kernel
theorem dX7_shapes_109 : decode cX7_shapes 109 = .ok (.ior, 1) := by decide +kernel
theorem dX7_shapes_110 : decode cX7_shapes 110 = .ok (.istore_n 2, 1) := by decide +kernel
theorem dX7_shapes_111 : decode cX7_shapes 111 = .ok (.iinc 3 1, 3) := by decide +kernel
theorem dX7_shapes_114 : decode cX7_shapes 114 = .ok (.goto (-95), 3) := by decide +kernel
theorem dX7_shapes_117 : decode cX7_shapes 117 = .ok (.iload_n 2, 1) := by decide +kernel
theorem dX7_shapes_118 : decode cX7_shapes 118 = .ok (.ireturn, 1) := by decide +kernel
theorem dX7_holds_0 : decode cX7_holds 0 = .ok (.aload_n 0, 1) := by decide +kernel
theorem dX7_holds_1 : decode cX7_holds 1 = .ok (.aload_n 0, 1) := by decide +kernel
theorem dX7_holds_2 : decode cX7_holds 2 = .ok (.getfield 22, 3) := by decide +kernel
theorem dX7_holds_5 : decode cX7_holds 5 = .ok (.iload_n 1, 1) := by decide +kernel
theorem dX7_holds_6 : decode cX7_holds 6 = .ok (.aload_n 0, 1) := by decide +kernel
theorem dX7_holds_7 : decode cX7_holds 7 = .ok (.getfield 22, 3) := by decide +kernel
theorem dX7_holds_10 : decode cX7_holds 10 = .ok (.iconst 2, 1) := by decide +kernel
theorem dX7_holds_11 : decode cX7_holds 11 = .ok (.iaload, 1) := by decide +kernel
theorem dX7_holds_12 : decode cX7_holds 12 = .ok (.invokevirtual 117, 3) := by decide +kernel
theorem dX7_holds_15 : decode cX7_holds 15 = .ok (.istore_n 3, 1) := by decide +kernel
theorem dX7_holds_16 : decode cX7_holds 16 = .ok (.iload_n 1, 1) := by decide +kernel
theorem dX7_holds_17 : decode cX7_holds 17 = .ok (.iload_n 2, 1) := by decide +kernel
theorem dX7_holds_18 : decode cX7_holds 18 = .ok (.if_icmp .ne 9, 3) := by decide +kernel
theorem dX7_holds_21 : decode cX7_holds 21 = .ok (.iload_n 3, 1) := by decide +kernel
theorem dX7_holds_22 : decode cX7_holds 22 = .ok (.iconst 2, 1) := by decide +kernel
theorem dX7_holds_23 : decode cX7_holds 23 = .ok (.idiv, 1) := by decide +kernel
theorem dX7_holds_24 : decode cX7_holds 24 = .ok (.goto 4, 3) := by decide +kernel
theorem dX7_holds_27 : decode cX7_holds 27 = .ok (.iload_n 3, 1) := by decide +kernel
theorem dX7_holds_28 : decode cX7_holds 28 = .ok (.ireturn, 1) := by decide +kernel
theorem dX7_findRests_0 : decode cX7_findRests 0 = .ok (.aload_n 0, 1) := by decide +kernel
theorem dX7_findRests_1 : decode cX7_findRests 1 = .ok (.iconst 0, 1) := by decide +kernel
theorem dX7_findRests_2 : decode cX7_findRests 2 = .ok (.putfield 173, 3) := by decide +kernel
theorem dX7_findRests_5 : decode cX7_findRests 5 = .ok (.aload_n 0, 1) := by decide +kernel
theorem dX7_findRests_6 : decode cX7_findRests 6 = .ok (.bipush (-9), 2) := by decide +kernel
theorem dX7_findRests_8 : decode cX7_findRests 8 = .ok (.putfield 176, 3) := by decide +kernel
theorem dX7_findRests_11 : decode cX7_findRests 11 = .ok (.iconst 0, 1) := by decide +kernel
theorem dX7_findRests_12 : decode cX7_findRests 12 = .ok (.istore_n 1, 1) := by decide +kernel
theorem dX7_findRests_13 : decode cX7_findRests 13 = .ok (.iload_n 1, 1) := by decide +kernel
theorem dX7_findRests_14 : decode cX7_findRests 14 = .ok (.aload_n 0, 1) := by decide +kernel
theorem dX7_findRests_15 : decode cX7_findRests 15 = .ok (.getfield 63, 3) := by decide +kernel
theorem dX7_findRests_18 : decode cX7_findRests 18 = .ok (.if_icmp .ge 133, 3) := by decide +kernel
theorem dX7_findRests_21 : decode cX7_findRests 21 = .ok (.iconst 0, 1) := by decide +kernel
theorem dX7_findRests_22 : decode cX7_findRests 22 = .ok (.istore_n 2, 1) := by decide +kernel
theorem dX7_findRests_23 : decode cX7_findRests 23 = .ok (.iload_n 2, 1) := by decide +kernel
theorem dX7_findRests_24 : decode cX7_findRests 24 = .ok (.aload_n 0, 1) := by decide +kernel
theorem dX7_findRests_25 : decode cX7_findRests 25 = .ok (.getfield 63, 3) := by decide +kernel
theorem dX7_findRests_28 : decode cX7_findRests 28 = .ok (.if_icmp .ge 117, 3) := by decide +kernel
theorem dX7_findRests_31 : decode cX7_findRests 31 = .ok (.iconst 1, 1) := by decide +kernel
theorem dX7_findRests_32 : decode cX7_findRests 32 = .ok (.istore_n 3, 1) := by decide +kernel
theorem dX7_findRests_33 : decode cX7_findRests 33 = .ok (.iconst 0, 1) := by decide +kernel
theorem dX7_findRests_34 : decode cX7_findRests 34 = .ok (.istore 4, 2) := by decide +kernel
theorem dX7_findRests_36 : decode cX7_findRests 36 = .ok (.iload 4, 2) := by decide +kernel
theorem dX7_findRests_38 : decode cX7_findRests 38 = .ok (.aload_n 0, 1) := by decide +kernel
theorem dX7_findRests_39 : decode cX7_findRests 39 = .ok (.getfield 63, 3) := by decide +kernel
theorem dX7_findRests_42 : decode cX7_findRests 42 = .ok (.if_icmp .ge 51, 3) := by decide +kernel
theorem dX7_findRests_45 : decode cX7_findRests 45 = .ok (.iload_n 3, 1) := by decide +kernel
theorem dX7_findRests_46 : decode cX7_findRests 46 = .ok (.ifCond .eq 39, 3) := by decide +kernel
theorem dX7_findRests_49 : decode cX7_findRests 49 = .ok (.aload_n 0, 1) := by decide +kernel
theorem dX7_findRests_50 : decode cX7_findRests 50 = .ok (.iload 4, 2) := by decide +kernel
theorem dX7_findRests_52 : decode cX7_findRests 52 = .ok (.iload_n 2, 1) := by decide +kernel
theorem dX7_findRests_53 : decode cX7_findRests 53 = .ok (.invokevirtual 179, 3) := by decide +kernel
theorem dX7_findRests_56 : decode cX7_findRests 56 = .ok (.aload_n 0, 1) := by decide +kernel
theorem dX7_findRests_57 : decode cX7_findRests 57 = .ok (.iload_n 1, 1) := by decide +kernel
theorem dX7_findRests_58 : decode cX7_findRests 58 = .ok (.iload_n 2, 1) := by decide +kernel
theorem dX7_findRests_59 : decode cX7_findRests 59 = .ok (.invokevirtual 179, 3) := by decide +kernel
theorem dX7_findRests_62 : decode cX7_findRests 62 = .ok (.if_icmp .gt 23, 3) := by decide +kernel
theorem dX7_findRests_65 : decode cX7_findRests 65 = .ok (.aload_n 0, 1) := by decide +kernel
theorem dX7_findRests_66 : decode cX7_findRests 66 = .ok (.iload 4, 2) := by decide +kernel
theorem dX7_findRests_68 : decode cX7_findRests 68 = .ok (.iload_n 1, 1) := by decide +kernel
theorem dX7_findRests_69 : decode cX7_findRests 69 = .ok (.invokevirtual 179, 3) := by decide +kernel
theorem dX7_findRests_72 : decode cX7_findRests 72 = .ok (.aload_n 0, 1) := by decide +kernel
theorem dX7_findRests_73 : decode cX7_findRests 73 = .ok (.iload_n 2, 1) := by decide +kernel
theorem dX7_findRests_74 : decode cX7_findRests 74 = .ok (.iload_n 1, 1) := by decide +kernel
theorem dX7_findRests_75 : decode cX7_findRests 75 = .ok (.invokevirtual 179, 3) := by decide +kernel
theorem dX7_findRests_78 : decode cX7_findRests 78 = .ok (.if_icmp .gt 7, 3) := by decide +kernel
theorem dX7_findRests_81 : decode cX7_findRests 81 = .ok (.iconst 1, 1) := by decide +kernel
theorem dX7_findRests_82 : decode cX7_findRests 82 = .ok (.goto 4, 3) := by decide +kernel
theorem dX7_findRests_85 : decode cX7_findRests 85 = .ok (.iconst 0, 1) := by decide +kernel
theorem dX7_findRests_86 : decode cX7_findRests 86 = .ok (.istore_n 3, 1) := by decide +kernel
theorem dX7_findRests_87 : decode cX7_findRests 87 = .ok (.iinc 4 1, 3) := by decide +kernel
theorem dX7_findRests_90 : decode cX7_findRests 90 = .ok (.goto (-54), 3) := by decide +kernel
theorem dX7_findRests_93 : decode cX7_findRests 93 = .ok (.aload_n 0, 1) := by decide +kernel
theorem dX7_findRests_94 : decode cX7_findRests 94 = .ok (.iload_n 3, 1) := by decide +kernel
theorem dX7_findRests_95 : decode cX7_findRests 95 = .ok (.ifCond .eq 19, 3) := by decide +kernel
theorem dX7_findRests_98 : decode cX7_findRests 98 = .ok (.aload_n 0, 1) := by decide +kernel
theorem dX7_findRests_99 : decode cX7_findRests 99 = .ok (.getfield 173, 3) := by decide +kernel
theorem dX7_findRests_102 : decode cX7_findRests 102 = .ok (.ifCond .ne 12, 3) := by decide +kernel
theorem dX7_findRests_105 : decode cX7_findRests 105 = .ok (.bipush 10, 2) := by decide +kernel
theorem dX7_findRests_107 : decode cX7_findRests 107 = .ok (.iload_n 1, 1) := by decide +kernel
theorem dX7_findRests_108 : decode cX7_findRests 108 = .ok (.imul, 1) := by decide +kernel
theorem dX7_findRests_109 : decode cX7_findRests 109 = .ok (.iload_n 2, 1) := by decide +kernel
theorem dX7_findRests_110 : decode cX7_findRests 110 = .ok (.iadd, 1) := by decide +kernel
theorem dX7_findRests_111 : decode cX7_findRests 111 = .ok (.goto 7, 3) := by decide +kernel
theorem dX7_findRests_114 : decode cX7_findRests 114 = .ok (.aload_n 0, 1) := by decide +kernel
theorem dX7_findRests_115 : decode cX7_findRests 115 = .ok (.getfield 176, 3) := by decide +kernel
theorem dX7_findRests_118 : decode cX7_findRests 118 = .ok (.putfield 176, 3) := by decide +kernel
theorem dX7_findRests_121 : decode cX7_findRests 121 = .ok (.aload_n 0, 1) := by decide +kernel
theorem dX7_findRests_122 : decode cX7_findRests 122 = .ok (.dup, 1) := by decide +kernel
theorem dX7_findRests_123 : decode cX7_findRests 123 = .ok (.getfield 173, 3) := by decide +kernel
theorem dX7_findRests_126 : decode cX7_findRests 126 = .ok (.iload_n 3, 1) := by decide +kernel
theorem dX7_findRests_127 : decode cX7_findRests 127 = .ok (.ifCond .eq 7, 3) := by decide +kernel
theorem dX7_findRests_130 : decode cX7_findRests 130 = .ok (.iconst 1, 1) := by decide +kernel
theorem dX7_findRests_131 : decode cX7_findRests 131 = .ok (.goto 4, 3) := by decide +kernel
theorem dX7_findRests_134 : decode cX7_findRests 134 = .ok (.iconst 0, 1) := by decide +kernel
theorem dX7_findRests_135 : decode cX7_findRests 135 = .ok (.iadd, 1) := by decide +kernel
theorem dX7_findRests_136 : decode cX7_findRests 136 = .ok (.putfield 173, 3) := by decide +kernel
theorem dX7_findRests_139 : decode cX7_findRests 139 = .ok (.iinc 2 1, 3) := by decide +kernel
theorem dX7_findRests_142 : decode cX7_findRests 142 = .ok (.goto (-119), 3) := by decide +kernel
theorem dX7_findRests_145 : decode cX7_findRests 145 = .ok (.iinc 1 1, 3) := by decide +kernel
theorem dX7_findRests_148 : decode cX7_findRests 148 = .ok (.goto (-135), 3) := by decide +kernel
theorem dX7_findRests_151 : decode cX7_findRests 151 = .ok (.return_, 1) := by decide +kernel
theorem dX7_rests_0 : decode cX7_rests 0 = .ok (.aload_n 0, 1) := by decide +kernel
theorem dX7_rests_1 : decode cX7_rests 1 = .ok (.iconst 0, 1) := by decide +kernel
theorem dX7_rests_2 : decode cX7_rests 2 = .ok (.putfield 59, 3) := by decide +kernel
theorem dX7_rests_5 : decode cX7_rests 5 = .ok (.iload_n 1, 1) := by decide +kernel
theorem dX7_rests_6 : decode cX7_rests 6 = .ok (.i2l, 1) := by decide +kernel
theorem dX7_rests_7 : decode cX7_rests 7 = .ok (.lconst 0, 1) := by decide +kernel
theorem dX7_rests_8 : decode cX7_rests 8 = .ok (.lconst 1, 1) := by decide +kernel
theorem dX7_rests_9 : decode cX7_rests 9 = .ok (.invokestatic 66, 3) := by decide +kernel
theorem dX7_rests_12 : decode cX7_rests 12 = .ok (.ifCond .ne 6, 3) := by decide +kernel
theorem dX7_rests_15 : decode cX7_rests 15 = .ok (.bipush (-2), 2) := by decide +kernel
theorem dX7_rests_17 : decode cX7_rests 17 = .ok (.ireturn, 1) := by decide +kernel
theorem dX7_rests_18 : decode cX7_rests 18 = .ok (.aload_n 0, 1) := by decide +kernel
theorem dX7_rests_19 : decode cX7_rests 19 = .ok (.invokevirtual 182, 3) := by decide +kernel
theorem dX7_rests_22 : decode cX7_rests 22 = .ok (.iload_n 1, 1) := by decide +kernel
theorem dX7_rests_23 : decode cX7_rests 23 = .ok (.ifCond .ne 10, 3) := by decide +kernel
theorem dX7_rests_26 : decode cX7_rests 26 = .ok (.aload_n 0, 1) := by decide +kernel
theorem dX7_rests_27 : decode cX7_rests 27 = .ok (.getfield 173, 3) := by decide +kernel
theorem dX7_rests_30 : decode cX7_rests 30 = .ok (.goto 7, 3) := by decide +kernel
theorem dX7_rests_33 : decode cX7_rests 33 = .ok (.aload_n 0, 1) := by decide +kernel
theorem dX7_rests_34 : decode cX7_rests 34 = .ok (.getfield 176, 3) := by decide +kernel
theorem dX7_rests_37 : decode cX7_rests 37 = .ok (.ireturn, 1) := by decide +kernel
theorem dX7_layLooks_0 : decode cX7_layLooks 0 = .ok (.aload_n 0, 1) := by decide +kernel
theorem dX7_layLooks_1 : decode cX7_layLooks 1 = .ok (.getfield 22, 3) := by decide +kernel
theorem dX7_layLooks_4 : decode cX7_layLooks 4 = .ok (.aload_n 0, 1) := by decide +kernel
theorem dX7_layLooks_5 : decode cX7_layLooks 5 = .ok (.getfield 25, 3) := by decide +kernel
theorem dX7_layLooks_8 : decode cX7_layLooks 8 = .ok (.invokestatic 142, 3) := by decide +kernel
theorem dX7_layLooks_11 : decode cX7_layLooks 11 = .ok (.aload_n 0, 1) := by decide +kernel
theorem dX7_layLooks_12 : decode cX7_layLooks 12 = .ok (.iconst 0, 1) := by decide +kernel
theorem dX7_layLooks_13 : decode cX7_layLooks 13 = .ok (.putfield 185, 3) := by decide +kernel
theorem dX7_layLooks_16 : decode cX7_layLooks 16 = .ok (.iconst 1, 1) := by decide +kernel
theorem dX7_layLooks_17 : decode cX7_layLooks 17 = .ok (.istore_n 3, 1) := by decide +kernel
theorem dX7_layLooks_18 : decode cX7_layLooks 18 = .ok (.iload_n 1, 1) := by decide +kernel
theorem dX7_layLooks_19 : decode cX7_layLooks 19 = .ok (.iconst 1, 1) := by decide +kernel
theorem dX7_layLooks_20 : decode cX7_layLooks 20 = .ok (.isub, 1) := by decide +kernel
theorem dX7_layLooks_21 : decode cX7_layLooks 21 = .ok (.istore 4, 2) := by decide +kernel
theorem dX7_layLooks_23 : decode cX7_layLooks 23 = .ok (.iload 4, 2) := by decide +kernel
theorem dX7_layLooks_25 : decode cX7_layLooks 25 = .ok (.ifCond .lt 89, 3) := by decide +kernel
theorem dX7_layLooks_28 : decode cX7_layLooks 28 = .ok (.iload_n 3, 1) := by decide +kernel
theorem dX7_layLooks_29 : decode cX7_layLooks 29 = .ok (.ifCond .eq 85, 3) := by decide +kernel
theorem dX7_layLooks_32 : decode cX7_layLooks 32 = .ok (.iload_n 2, 1) := by decide +kernel
theorem dX7_layLooks_33 : decode cX7_layLooks 33 = .ok (.bipush 10, 2) := by decide +kernel
theorem dX7_layLooks_35 : decode cX7_layLooks 35 = .ok (.iload 4, 2) := by decide +kernel
theorem dX7_layLooks_37 : decode cX7_layLooks 37 = .ok (.invokestatic 138, 3) := by decide +kernel
theorem dX7_layLooks_40 : decode cX7_layLooks 40 = .ok (.idiv, 1) := by decide +kernel
theorem dX7_layLooks_41 : decode cX7_layLooks 41 = .ok (.bipush 10, 2) := by decide +kernel
theorem dX7_layLooks_43 : decode cX7_layLooks 43 = .ok (.irem, 1) := by decide +kernel
theorem dX7_layLooks_44 : decode cX7_layLooks 44 = .ok (.istore 5, 2) := by decide +kernel
theorem dX7_layLooks_46 : decode cX7_layLooks 46 = .ok (.aload_n 0, 1) := by decide +kernel
theorem dX7_layLooks_47 : decode cX7_layLooks 47 = .ok (.aload_n 0, 1) := by decide +kernel
theorem dX7_layLooks_48 : decode cX7_layLooks 48 = .ok (.getfield 25, 3) := by decide +kernel
theorem dX7_layLooks_51 : decode cX7_layLooks 51 = .ok (.iload 5, 2) := by decide +kernel
theorem dX7_layLooks_53 : decode cX7_layLooks 53 = .ok (.invokevirtual 121, 3) := by decide +kernel
theorem dX7_layLooks_56 : decode cX7_layLooks 56 = .ok (.istore_n 3, 1) := by decide +kernel
theorem dX7_layLooks_57 : decode cX7_layLooks 57 = .ok (.iload_n 3, 1) := by decide +kernel
theorem dX7_layLooks_58 : decode cX7_layLooks 58 = .ok (.ifCond .eq 16, 3) := by decide +kernel
theorem dX7_layLooks_61 : decode cX7_layLooks 61 = .ok (.aload_n 0, 1) := by decide +kernel
theorem dX7_layLooks_62 : decode cX7_layLooks 62 = .ok (.aload_n 0, 1) := by decide +kernel
theorem dX7_layLooks_63 : decode cX7_layLooks 63 = .ok (.getfield 25, 3) := by decide +kernel
theorem dX7_layLooks_66 : decode cX7_layLooks 66 = .ok (.iload 5, 2) := by decide +kernel
theorem dX7_layLooks_68 : decode cX7_layLooks 68 = .ok (.invokevirtual 128, 3) := by decide +kernel
theorem dX7_layLooks_71 : decode cX7_layLooks 71 = .ok (.goto 4, 3) := by decide +kernel
theorem dX7_layLooks_74 : decode cX7_layLooks 74 = .ok (.iconst 0, 1) := by decide +kernel
theorem dX7_layLooks_75 : decode cX7_layLooks 75 = .ok (.istore 6, 2) := by decide +kernel
theorem dX7_layLooks_77 : decode cX7_layLooks 77 = .ok (.iload_n 3, 1) := by decide +kernel
theorem dX7_layLooks_78 : decode cX7_layLooks 78 = .ok (.ifCond .eq 30, 3) := by decide +kernel
theorem dX7_layLooks_81 : decode cX7_layLooks 81 = .ok (.iload 5, 2) := by decide +kernel
theorem dX7_layLooks_83 : decode cX7_layLooks 83 = .ok (.iconst 2, 1) := by decide +kernel
theorem dX7_layLooks_84 : decode cX7_layLooks 84 = .ok (.if_icmp .ne 24, 3) := by decide +kernel
theorem dX7_layLooks_87 : decode cX7_layLooks 87 = .ok (.aload_n 0, 1) := by decide +kernel
theorem dX7_layLooks_88 : decode cX7_layLooks 88 = .ok (.getfield 56, 3) := by decide +kernel
theorem dX7_layLooks_91 : decode cX7_layLooks 91 = .ok (.aload_n 0, 1) := by decide +kernel
theorem dX7_layLooks_92 : decode cX7_layLooks 92 = .ok (.getfield 185, 3) := by decide +kernel
theorem dX7_layLooks_95 : decode cX7_layLooks 95 = .ok (.iload 6, 2) := by decide +kernel
theorem dX7_layLooks_97 : decode cX7_layLooks 97 = .ok (.iastore, 1) := by decide +kernel
theorem dX7_layLooks_98 : decode cX7_layLooks 98 = .ok (.aload_n 0, 1) := by decide +kernel
theorem dX7_layLooks_99 : decode cX7_layLooks 99 = .ok (.dup, 1) := by decide +kernel
theorem dX7_layLooks_100 : decode cX7_layLooks 100 = .ok (.getfield 185, 3) := by decide +kernel
theorem dX7_layLooks_103 : decode cX7_layLooks 103 = .ok (.iconst 1, 1) := by decide +kernel
theorem dX7_layLooks_104 : decode cX7_layLooks 104 = .ok (.iadd, 1) := by decide +kernel
theorem dX7_layLooks_105 : decode cX7_layLooks 105 = .ok (.putfield 185, 3) := by decide +kernel
theorem dX7_layLooks_108 : decode cX7_layLooks 108 = .ok (.iinc 4 (-1), 3) := by decide +kernel
theorem dX7_layLooks_111 : decode cX7_layLooks 111 = .ok (.goto (-88), 3) := by decide +kernel
theorem dX7_layLooks_114 : decode cX7_layLooks 114 = .ok (.iload_n 3, 1) := by decide +kernel
theorem dX7_layLooks_115 : decode cX7_layLooks 115 = .ok (.ireturn, 1) := by decide +kernel
theorem dX7_chance_0 : decode cX7_chance 0 = .ok (.aload_n 0, 1) := by decide +kernel
theorem dX7_chance_1 : decode cX7_chance 1 = .ok (.iconst 0, 1) := by decide +kernel
theorem dX7_chance_2 : decode cX7_chance 2 = .ok (.putfield 59, 3) := by decide +kernel
theorem dX7_chance_5 : decode cX7_chance 5 = .ok (.iload_n 1, 1) := by decide +kernel
theorem dX7_chance_6 : decode cX7_chance 6 = .ok (.bipush 6, 2) := by decide +kernel
theorem dX7_chance_8 : decode cX7_chance 8 = .ok (.iload_n 2, 1) := by decide +kernel
theorem dX7_chance_9 : decode cX7_chance 9 = .ok (.invokestatic 155, 3) := by decide +kernel
theorem dX7_chance_12 : decode cX7_chance 12 = .ok (.ifCond .ne 28, 3) := by decide +kernel
theorem dX7_chance_15 : decode cX7_chance 15 = .ok (.iload_n 3, 1) := by decide +kernel
theorem dX7_chance_16 : decode cX7_chance 16 = .ok (.i2l, 1) := by decide +kernel
theorem dX7_chance_17 : decode cX7_chance 17 = .ok (.lconst 0, 1) := by decide +kernel
theorem dX7_chance_18 : decode cX7_chance 18 = .ok (.ldc2_w 115, 3) := by decide +kernel
theorem dX7_chance_21 : decode cX7_chance 21 = .ok (.invokestatic 66, 3) := by decide +kernel
theorem dX7_chance_24 : decode cX7_chance 24 = .ok (.ifCond .eq 16, 3) := by decide +kernel
theorem dX7_chance_27 : decode cX7_chance 27 = .ok (.iload 4, 2) := by decide +kernel
theorem dX7_chance_29 : decode cX7_chance 29 = .ok (.i2l, 1) := by decide +kernel
theorem dX7_chance_30 : decode cX7_chance 30 = .ok (.lconst 0, 1) := by decide +kernel
theorem dX7_chance_31 : decode cX7_chance 31 = .ok (.ldc2_w 171, 3) := by decide +kernel
theorem dX7_chance_34 : decode cX7_chance 34 = .ok (.invokestatic 66, 3) := by decide +kernel
theorem dX7_chance_37 : decode cX7_chance 37 = .ok (.ifCond .ne 6, 3) := by decide +kernel
theorem dX7_chance_40 : decode cX7_chance 40 = .ok (.bipush (-2), 2) := by decide +kernel
theorem dX7_chance_42 : decode cX7_chance 42 = .ok (.ireturn, 1) := by decide +kernel
theorem dX7_chance_43 : decode cX7_chance 43 = .ok (.aload_n 0, 1) := by decide +kernel
theorem dX7_chance_44 : decode cX7_chance 44 = .ok (.iload_n 1, 1) := by decide +kernel
theorem dX7_chance_45 : decode cX7_chance 45 = .ok (.iload_n 2, 1) := by decide +kernel
theorem dX7_chance_46 : decode cX7_chance 46 = .ok (.invokevirtual 188, 3) := by decide +kernel
theorem dX7_chance_49 : decode cX7_chance 49 = .ok (.ifCond .ne 14, 3) := by decide +kernel
theorem dX7_chance_52 : decode cX7_chance 52 = .ok (.iload 5, 2) := by decide +kernel
theorem dX7_chance_54 : decode cX7_chance 54 = .ok (.ifCond .eq 7, 3) := by decide +kernel
theorem dX7_chance_57 : decode cX7_chance 57 = .ok (.iconst 0, 1) := by decide +kernel
theorem dX7_chance_58 : decode cX7_chance 58 = .ok (.goto 4, 3) := by decide +kernel
theorem dX7_chance_61 : decode cX7_chance 61 = .ok (.iconst 1, 1) := by decide +kernel
theorem dX7_chance_62 : decode cX7_chance 62 = .ok (.ireturn, 1) := by decide +kernel
theorem dX7_chance_63 : decode cX7_chance 63 = .ok (.iconst 0, 1) := by decide +kernel
theorem dX7_chance_64 : decode cX7_chance 64 = .ok (.istore 6, 2) := by decide +kernel
theorem dX7_chance_66 : decode cX7_chance 66 = .ok (.iconst 0, 1) := by decide +kernel
theorem dX7_chance_67 : decode cX7_chance 67 = .ok (.istore 7, 2) := by decide +kernel
theorem dX7_chance_69 : decode cX7_chance 69 = .ok (.iload 7, 2) := by decide +kernel
theorem dX7_chance_71 : decode cX7_chance 71 = .ok (.iconst 1, 1) := by decide +kernel
theorem dX7_chance_72 : decode cX7_chance 72 = .ok (.aload_n 0, 1) := by decide +kernel
theorem dX7_chance_73 : decode cX7_chance 73 = .ok (.getfield 185, 3) := by decide +kernel
theorem dX7_chance_76 : decode cX7_chance 76 = .ok (.ishl, 1) := by decide +kernel
theorem dX7_chance_77 : decode cX7_chance 77 = .ok (.if_icmp .ge 101, 3) := by decide +kernel
theorem dX7_chance_80 : decode cX7_chance 80 = .ok (.iconst 0, 1) := by decide +kernel
theorem dX7_chance_81 : decode cX7_chance 81 = .ok (.istore 8, 2) := by decide +kernel
theorem dX7_chance_83 : decode cX7_chance 83 = .ok (.iconst 1, 1) := by decide +kernel
theorem dX7_chance_84 : decode cX7_chance 84 = .ok (.istore 9, 2) := by decide +kernel
theorem dX7_chance_86 : decode cX7_chance 86 = .ok (.iconst 0, 1) := by decide +kernel
theorem dX7_chance_87 : decode cX7_chance 87 = .ok (.istore 10, 2) := by decide +kernel
theorem dX7_chance_89 : decode cX7_chance 89 = .ok (.iload 10, 2) := by decide +kernel
theorem dX7_chance_91 : decode cX7_chance 91 = .ok (.aload_n 0, 1) := by decide +kernel
theorem dX7_chance_92 : decode cX7_chance 92 = .ok (.getfield 185, 3) := by decide +kernel
theorem dX7_chance_95 : decode cX7_chance 95 = .ok (.if_icmp .ge 60, 3) := by decide +kernel
theorem dX7_chance_98 : decode cX7_chance 98 = .ok (.iload 8, 2) := by decide +kernel
theorem dX7_chance_100 : decode cX7_chance 100 = .ok (.iload 7, 2) := by decide +kernel
theorem dX7_chance_102 : decode cX7_chance 102 = .ok (.iload 10, 2) := by decide +kernel
theorem dX7_chance_104 : decode cX7_chance 104 = .ok (.invokestatic 98, 3) := by decide +kernel
theorem dX7_chance_107 : decode cX7_chance 107 = .ok (.ifCond .eq 7, 3) := by decide +kernel
theorem dX7_chance_110 : decode cX7_chance 110 = .ok (.iconst 0, 1) := by decide +kernel
theorem dX7_chance_111 : decode cX7_chance 111 = .ok (.goto 10, 3) := by decide +kernel
theorem dX7_chance_114 : decode cX7_chance 114 = .ok (.aload_n 0, 1) := by decide +kernel
theorem dX7_chance_115 : decode cX7_chance 115 = .ok (.getfield 56, 3) := by decide +kernel
theorem dX7_chance_118 : decode cX7_chance 118 = .ok (.iload 10, 2) := by decide +kernel
theorem dX7_chance_120 : decode cX7_chance 120 = .ok (.iaload, 1) := by decide +kernel
theorem dX7_chance_121 : decode cX7_chance 121 = .ok (.iadd, 1) := by decide +kernel
theorem dX7_chance_122 : decode cX7_chance 122 = .ok (.istore 8, 2) := by decide +kernel
theorem dX7_chance_124 : decode cX7_chance 124 = .ok (.iload 9, 2) := by decide +kernel
theorem dX7_chance_126 : decode cX7_chance 126 = .ok (.iload 7, 2) := by decide +kernel
theorem dX7_chance_128 : decode cX7_chance 128 = .ok (.iload 10, 2) := by decide +kernel
theorem dX7_chance_130 : decode cX7_chance 130 = .ok (.invokestatic 98, 3) := by decide +kernel
theorem dX7_chance_133 : decode cX7_chance 133 = .ok (.ifCond .eq 8, 3) := by decide +kernel
theorem dX7_chance_136 : decode cX7_chance 136 = .ok (.iload 4, 2) := by decide +kernel
theorem dX7_chance_138 : decode cX7_chance 138 = .ok (.goto 8, 3) := by decide +kernel
theorem dX7_chance_141 : decode cX7_chance 141 = .ok (.bipush 10, 2) := by decide +kernel
theorem dX7_chance_143 : decode cX7_chance 143 = .ok (.iload 4, 2) := by decide +kernel
theorem dX7_chance_145 : decode cX7_chance 145 = .ok (.isub, 1) := by decide +kernel
theorem dX7_chance_146 : decode cX7_chance 146 = .ok (.imul, 1) := by decide +kernel
theorem dX7_chance_147 : decode cX7_chance 147 = .ok (.istore 9, 2) := by decide +kernel
theorem dX7_chance_149 : decode cX7_chance 149 = .ok (.iinc 10 1, 3) := by decide +kernel
theorem dX7_chance_152 : decode cX7_chance 152 = .ok (.goto (-63), 3) := by decide +kernel
theorem dX7_chance_155 : decode cX7_chance 155 = .ok (.iload 6, 2) := by decide +kernel
theorem dX7_chance_157 : decode cX7_chance 157 = .ok (.iload 8, 2) := by decide +kernel
theorem dX7_chance_159 : decode cX7_chance 159 = .ok (.iload_n 3, 1) := by decide +kernel
theorem dX7_chance_160 : decode cX7_chance 160 = .ok (.if_icmp .lt 8, 3) := by decide +kernel
theorem dX7_chance_163 : decode cX7_chance 163 = .ok (.iload 9, 2) := by decide +kernel
theorem dX7_chance_165 : decode cX7_chance 165 = .ok (.goto 4, 3) := by decide +kernel
theorem dX7_chance_168 : decode cX7_chance 168 = .ok (.iconst 0, 1) := by decide +kernel
theorem dX7_chance_169 : decode cX7_chance 169 = .ok (.iadd, 1) := by decide +kernel
theorem dX7_chance_170 : decode cX7_chance 170 = .ok (.istore 6, 2) := by decide +kernel
theorem dX7_chance_172 : decode cX7_chance 172 = .ok (.iinc 7 1, 3) := by decide +kernel
theorem dX7_chance_175 : decode cX7_chance 175 = .ok (.goto (-106), 3) := by decide +kernel
theorem dX7_chance_178 : decode cX7_chance 178 = .ok (.iload 6, 2) := by decide +kernel
theorem dX7_chance_180 : decode cX7_chance 180 = .ok (.bipush 10, 2) := by decide +kernel
theorem dX7_chance_182 : decode cX7_chance 182 = .ok (.aload_n 0, 1) := by decide +kernel
theorem dX7_chance_183 : decode cX7_chance 183 = .ok (.getfield 185, 3) := by decide +kernel
theorem dX7_chance_186 : decode cX7_chance 186 = .ok (.invokestatic 138, 3) := by decide +kernel
theorem dX7_chance_189 : decode cX7_chance 189 = .ok (.iload 5, 2) := by decide +kernel
theorem dX7_chance_191 : decode cX7_chance 191 = .ok (.invokestatic 165, 3) := by decide +kernel
theorem dX7_chance_194 : decode cX7_chance 194 = .ok (.ireturn, 1) := by decide +kernel
theorem dX7_seed_0 : decode cX7_seed 0 = .ok (.aload_n 0, 1) := by decide +kernel
theorem dX7_seed_1 : decode cX7_seed 1 = .ok (.iconst 0, 1) := by decide +kernel
theorem dX7_seed_2 : decode cX7_seed 2 = .ok (.putfield 59, 3) := by decide +kernel
theorem dX7_seed_5 : decode cX7_seed 5 = .ok (.aload_n 0, 1) := by decide +kernel
theorem dX7_seed_6 : decode cX7_seed 6 = .ok (.getfield 191, 3) := by decide +kernel
theorem dX7_seed_9 : decode cX7_seed 9 = .ok (.lstore_n 3, 1) := by decide +kernel
theorem dX7_seed_10 : decode cX7_seed 10 = .ok (.aload_n 0, 1) := by decide +kernel
theorem dX7_seed_11 : decode cX7_seed 11 = .ok (.lload_n 1, 1) := by decide +kernel
theorem dX7_seed_12 : decode cX7_seed 12 = .ok (.putfield 191, 3) := by decide +kernel
theorem dX7_seed_15 : decode cX7_seed 15 = .ok (.lload_n 3, 1) := by decide +kernel
theorem dX7_seed_16 : decode cX7_seed 16 = .ok (.lreturn, 1) := by decide +kernel
theorem dX7_rounds_0 : decode cX7_rounds 0 = .ok (.aload_n 0, 1) := by decide +kernel
theorem dX7_rounds_1 : decode cX7_rounds 1 = .ok (.iconst 0, 1) := by decide +kernel
theorem dX7_rounds_2 : decode cX7_rounds 2 = .ok (.putfield 59, 3) := by decide +kernel
theorem dX7_rounds_5 : decode cX7_rounds 5 = .ok (.iload_n 1, 1) := by decide +kernel
theorem dX7_rounds_6 : decode cX7_rounds 6 = .ok (.i2l, 1) := by decide +kernel
theorem dX7_rounds_7 : decode cX7_rounds 7 = .ok (.lconst 1, 1) := by decide +kernel
theorem dX7_rounds_8 : decode cX7_rounds 8 = .ok (.ldc2_w 195, 3) := by decide +kernel
theorem dX7_rounds_11 : decode cX7_rounds 11 = .ok (.invokestatic 66, 3) := by decide +kernel
theorem dX7_rounds_14 : decode cX7_rounds 14 = .ok (.ifCond .ne 6, 3) := by decide +kernel
theorem dX7_rounds_17 : decode cX7_rounds 17 = .ok (.bipush (-2), 2) := by decide +kernel
theorem dX7_rounds_19 : decode cX7_rounds 19 = .ok (.ireturn, 1) := by decide +kernel
theorem dX7_rounds_20 : decode cX7_rounds 20 = .ok (.aload_n 0, 1) := by decide +kernel
theorem dX7_rounds_21 : decode cX7_rounds 21 = .ok (.getfield 22, 3) := by decide +kernel
theorem dX7_rounds_24 : decode cX7_rounds 24 = .ok (.aload_n 0, 1) := by decide +kernel
theorem dX7_rounds_25 : decode cX7_rounds 25 = .ok (.getfield 25, 3) := by decide +kernel
theorem dX7_rounds_28 : decode cX7_rounds 28 = .ok (.invokestatic 142, 3) := by decide +kernel
theorem dX7_rounds_31 : decode cX7_rounds 31 = .ok (.iconst 0, 1) := by decide +kernel
theorem dX7_rounds_32 : decode cX7_rounds 32 = .ok (.istore_n 2, 1) := by decide +kernel
theorem dX7_rounds_33 : decode cX7_rounds 33 = .ok (.iload_n 2, 1) := by decide +kernel
theorem dX7_rounds_34 : decode cX7_rounds 34 = .ok (.iload_n 1, 1) := by decide +kernel
theorem dX7_rounds_35 : decode cX7_rounds 35 = .ok (.if_icmp .ge 96, 3) := by decide +kernel
theorem dX7_rounds_38 : decode cX7_rounds 38 = .ok (.aload_n 0, 1) := by decide +kernel
theorem dX7_rounds_39 : decode cX7_rounds 39 = .ok (.aload_n 0, 1) := by decide +kernel
theorem dX7_rounds_40 : decode cX7_rounds 40 = .ok (.getfield 191, 3) := by decide +kernel
theorem dX7_rounds_43 : decode cX7_rounds 43 = .ok (.ldc2_w 197, 3) := by decide +kernel
theorem dX7_rounds_46 : decode cX7_rounds 46 = .ok (.lmul, 1) := by decide +kernel
theorem dX7_rounds_47 : decode cX7_rounds 47 = .ok (.ldc2_w 199, 3) := by decide +kernel
theorem dX7_rounds_50 : decode cX7_rounds 50 = .ok (.ladd, 1) := by decide +kernel
theorem dX7_rounds_51 : decode cX7_rounds 51 = .ok (.putfield 191, 3) := by decide +kernel
theorem dX7_rounds_54 : decode cX7_rounds 54 = .ok (.aload_n 0, 1) := by decide +kernel
theorem dX7_rounds_55 : decode cX7_rounds 55 = .ok (.getfield 191, 3) := by decide +kernel
theorem dX7_rounds_58 : decode cX7_rounds 58 = .ok (.bipush 33, 2) := by decide +kernel
theorem dX7_rounds_60 : decode cX7_rounds 60 = .ok (.lushr, 1) := by decide +kernel
theorem dX7_rounds_61 : decode cX7_rounds 61 = .ok (.ldc2_w 169, 3) := by decide +kernel
theorem dX7_rounds_64 : decode cX7_rounds 64 = .ok (.lrem, 1) := by decide +kernel
theorem dX7_rounds_65 : decode cX7_rounds 65 = .ok (.l2i, 1) := by decide +kernel
theorem dX7_rounds_66 : decode cX7_rounds 66 = .ok (.istore_n 3, 1) := by decide +kernel
theorem dX7_rounds_67 : decode cX7_rounds 67 = .ok (.iload_n 3, 1) := by decide +kernel
theorem dX7_rounds_68 : decode cX7_rounds 68 = .ok (.iconst 3, 1) := by decide +kernel
theorem dX7_rounds_69 : decode cX7_rounds 69 = .ok (.if_icmp .ge 32, 3) := by decide +kernel
theorem dX7_rounds_72 : decode cX7_rounds 72 = .ok (.aload_n 0, 1) := by decide +kernel
theorem dX7_rounds_73 : decode cX7_rounds 73 = .ok (.aload_n 0, 1) := by decide +kernel
theorem dX7_rounds_74 : decode cX7_rounds 74 = .ok (.getfield 25, 3) := by decide +kernel
theorem dX7_rounds_77 : decode cX7_rounds 77 = .ok (.aload_n 0, 1) := by decide +kernel
theorem dX7_rounds_78 : decode cX7_rounds 78 = .ok (.aload_n 0, 1) := by decide +kernel
theorem dX7_rounds_79 : decode cX7_rounds 79 = .ok (.getfield 25, 3) := by decide +kernel
theorem dX7_rounds_82 : decode cX7_rounds 82 = .ok (.iload_n 3, 1) := by decide +kernel
theorem dX7_rounds_83 : decode cX7_rounds 83 = .ok (.invokevirtual 121, 3) := by decide +kernel
theorem dX7_rounds_86 : decode cX7_rounds 86 = .ok (.ifCond .eq 7, 3) := by decide +kernel
theorem dX7_rounds_89 : decode cX7_rounds 89 = .ok (.iload_n 3, 1) := by decide +kernel
theorem dX7_rounds_90 : decode cX7_rounds 90 = .ok (.goto 4, 3) := by decide +kernel
theorem dX7_rounds_93 : decode cX7_rounds 93 = .ok (.iconst 3, 1) := by decide +kernel
theorem dX7_rounds_94 : decode cX7_rounds 94 = .ok (.invokevirtual 128, 3) := by decide +kernel
theorem dX7_rounds_97 : decode cX7_rounds 97 = .ok (.pop, 1) := by decide +kernel
theorem dX7_rounds_98 : decode cX7_rounds 98 = .ok (.goto 27, 3) := by decide +kernel
theorem dX7_rounds_101 : decode cX7_rounds 101 = .ok (.aload_n 0, 1) := by decide +kernel
theorem dX7_rounds_102 : decode cX7_rounds 102 = .ok (.iload_n 3, 1) := by decide +kernel
theorem dX7_rounds_103 : decode cX7_rounds 103 = .ok (.iconst 3, 1) := by decide +kernel
theorem dX7_rounds_104 : decode cX7_rounds 104 = .ok (.isub, 1) := by decide +kernel
theorem dX7_rounds_105 : decode cX7_rounds 105 = .ok (.invokevirtual 109, 3) := by decide +kernel
theorem dX7_rounds_108 : decode cX7_rounds 108 = .ok (.ifCond .ne 17, 3) := by decide +kernel
theorem dX7_rounds_111 : decode cX7_rounds 111 = .ok (.aload_n 0, 1) := by decide +kernel
theorem dX7_rounds_112 : decode cX7_rounds 112 = .ok (.getfield 25, 3) := by decide +kernel
theorem dX7_rounds_115 : decode cX7_rounds 115 = .ok (.iconst 4, 1) := by decide +kernel
theorem dX7_rounds_116 : decode cX7_rounds 116 = .ok (.dup2, 1) := by decide +kernel
theorem dX7_rounds_117 : decode cX7_rounds 117 = .ok (.iaload, 1) := by decide +kernel
theorem dX7_rounds_118 : decode cX7_rounds 118 = .ok (.iconst 1, 1) := by decide +kernel
theorem dX7_rounds_119 : decode cX7_rounds 119 = .ok (.iload_n 3, 1) := by decide +kernel
theorem dX7_rounds_120 : decode cX7_rounds 120 = .ok (.iconst 3, 1) := by decide +kernel
theorem dX7_rounds_121 : decode cX7_rounds 121 = .ok (.isub, 1) := by decide +kernel
theorem dX7_rounds_122 : decode cX7_rounds 122 = .ok (.ishl, 1) := by decide +kernel
theorem dX7_rounds_123 : decode cX7_rounds 123 = .ok (.ixor, 1) := by decide +kernel
theorem dX7_rounds_124 : decode cX7_rounds 124 = .ok (.iastore, 1) := by decide +kernel
theorem dX7_rounds_125 : decode cX7_rounds 125 = .ok (.iinc 2 1, 3) := by decide +kernel
theorem dX7_rounds_128 : decode cX7_rounds 128 = .ok (.goto (-95), 3) := by decide +kernel
theorem dX7_rounds_131 : decode cX7_rounds 131 = .ok (.aload_n 0, 1) := by decide +kernel
theorem dX7_rounds_132 : decode cX7_rounds 132 = .ok (.getfield 25, 3) := by decide +kernel
theorem dX7_rounds_135 : decode cX7_rounds 135 = .ok (.iconst 3, 1) := by decide +kernel
theorem dX7_rounds_136 : decode cX7_rounds 136 = .ok (.iaload, 1) := by decide +kernel
theorem dX7_rounds_137 : decode cX7_rounds 137 = .ok (.aload_n 0, 1) := by decide +kernel
theorem dX7_rounds_138 : decode cX7_rounds 138 = .ok (.getfield 22, 3) := by decide +kernel
theorem dX7_rounds_141 : decode cX7_rounds 141 = .ok (.iconst 3, 1) := by decide +kernel
theorem dX7_rounds_142 : decode cX7_rounds 142 = .ok (.iaload, 1) := by decide +kernel
theorem dX7_rounds_143 : decode cX7_rounds 143 = .ok (.isub, 1) := by decide +kernel
theorem dX7_rounds_144 : decode cX7_rounds 144 = .ok (.ireturn, 1) := by decide +kernel
theorem dX7_keep_0 : decode cX7_keep 0 = .ok (.aload_n 0, 1) := by decide +kernel
theorem dX7_keep_1 : decode cX7_keep 1 = .ok (.iconst 0, 1) := by decide +kernel
theorem dX7_keep_2 : decode cX7_keep 2 = .ok (.putfield 59, 3) := by decide +kernel
theorem dX7_keep_5 : decode cX7_keep 5 = .ok (.iload_n 1, 1) := by decide +kernel
theorem dX7_keep_6 : decode cX7_keep 6 = .ok (.i2l, 1) := by decide +kernel
theorem dX7_keep_7 : decode cX7_keep 7 = .ok (.lconst 0, 1) := by decide +kernel
theorem dX7_keep_8 : decode cX7_keep 8 = .ok (.lconst 1, 1) := by decide +kernel
theorem dX7_keep_9 : decode cX7_keep 9 = .ok (.invokestatic 66, 3) := by decide +kernel
theorem dX7_keep_12 : decode cX7_keep 12 = .ok (.ifCond .ne 5, 3) := by decide +kernel
theorem dX7_keep_15 : decode cX7_keep 15 = .ok (.iconst (-1), 1) := by decide +kernel
theorem dX7_keep_16 : decode cX7_keep 16 = .ok (.ireturn, 1) := by decide +kernel
theorem dX7_keep_17 : decode cX7_keep 17 = .ok (.aload_n 0, 1) := by decide +kernel
theorem dX7_keep_18 : decode cX7_keep 18 = .ok (.getfield 37, 3) := by decide +kernel
theorem dX7_keep_21 : decode cX7_keep 21 = .ok (.iload_n 1, 1) := by decide +kernel
theorem dX7_keep_22 : decode cX7_keep 22 = .ok (.iconst 1, 1) := by decide +kernel
theorem dX7_keep_23 : decode cX7_keep 23 = .ok (.bastore, 1) := by decide +kernel
theorem dX7_keep_24 : decode cX7_keep 24 = .ok (.iconst 0, 1) := by decide +kernel
theorem dX7_keep_25 : decode cX7_keep 25 = .ok (.istore_n 2, 1) := by decide +kernel
theorem dX7_keep_26 : decode cX7_keep 26 = .ok (.iload_n 2, 1) := by decide +kernel
theorem dX7_keep_27 : decode cX7_keep 27 = .ok (.bipush 12, 2) := by decide +kernel
theorem dX7_keep_29 : decode cX7_keep 29 = .ok (.if_icmp .ge 26, 3) := by decide +kernel
theorem dX7_keep_32 : decode cX7_keep 32 = .ok (.aload_n 0, 1) := by decide +kernel
theorem dX7_keep_33 : decode cX7_keep 33 = .ok (.getfield 34, 3) := by decide +kernel
theorem dX7_keep_36 : decode cX7_keep 36 = .ok (.bipush 12, 2) := by decide +kernel
theorem dX7_keep_38 : decode cX7_keep 38 = .ok (.iload_n 1, 1) := by decide +kernel
theorem dX7_keep_39 : decode cX7_keep 39 = .ok (.imul, 1) := by decide +kernel
theorem dX7_keep_40 : decode cX7_keep 40 = .ok (.iload_n 2, 1) := by decide +kernel
theorem dX7_keep_41 : decode cX7_keep 41 = .ok (.iadd, 1) := by decide +kernel
theorem dX7_keep_42 : decode cX7_keep 42 = .ok (.aload_n 0, 1) := by decide +kernel
theorem dX7_keep_43 : decode cX7_keep 43 = .ok (.getfield 22, 3) := by decide +kernel
theorem dX7_keep_46 : decode cX7_keep 46 = .ok (.iload_n 2, 1) := by decide +kernel
theorem dX7_keep_47 : decode cX7_keep 47 = .ok (.iaload, 1) := by decide +kernel
theorem dX7_keep_48 : decode cX7_keep 48 = .ok (.iastore, 1) := by decide +kernel
theorem dX7_keep_49 : decode cX7_keep 49 = .ok (.iinc 2 1, 3) := by decide +kernel
theorem dX7_keep_52 : decode cX7_keep 52 = .ok (.goto (-26), 3) := by decide +kernel
theorem dX7_keep_55 : decode cX7_keep 55 = .ok (.aload_n 0, 1) := by decide +kernel
theorem dX7_keep_56 : decode cX7_keep 56 = .ok (.getfield 22, 3) := by decide +kernel
theorem dX7_keep_59 : decode cX7_keep 59 = .ok (.iconst 2, 1) := by decide +kernel
theorem dX7_keep_60 : decode cX7_keep 60 = .ok (.iaload, 1) := by decide +kernel
theorem dX7_keep_61 : decode cX7_keep 61 = .ok (.ireturn, 1) := by decide +kernel
theorem dX7_again_0 : decode cX7_again 0 = .ok (.aload_n 0, 1) := by decide +kernel
theorem dX7_again_1 : decode cX7_again 1 = .ok (.iconst 0, 1) := by decide +kernel
theorem dX7_again_2 : decode cX7_again 2 = .ok (.putfield 59, 3) := by decide +kernel
theorem dX7_again_5 : decode cX7_again 5 = .ok (.iload_n 1, 1) := by decide +kernel
theorem dX7_again_6 : decode cX7_again 6 = .ok (.i2l, 1) := by decide +kernel
theorem dX7_again_7 : decode cX7_again 7 = .ok (.lconst 0, 1) := by decide +kernel
theorem dX7_again_8 : decode cX7_again 8 = .ok (.lconst 1, 1) := by decide +kernel
theorem dX7_again_9 : decode cX7_again 9 = .ok (.invokestatic 66, 3) := by decide +kernel
theorem dX7_again_12 : decode cX7_again 12 = .ok (.ifCond .ne 5, 3) := by decide +kernel
theorem dX7_again_15 : decode cX7_again 15 = .ok (.iconst (-1), 1) := by decide +kernel
theorem dX7_again_16 : decode cX7_again 16 = .ok (.ireturn, 1) := by decide +kernel
theorem dX7_again_17 : decode cX7_again 17 = .ok (.aload_n 0, 1) := by decide +kernel
theorem dX7_again_18 : decode cX7_again 18 = .ok (.getfield 37, 3) := by decide +kernel
theorem dX7_again_21 : decode cX7_again 21 = .ok (.iload_n 1, 1) := by decide +kernel
theorem dX7_again_22 : decode cX7_again 22 = .ok (.baload, 1) := by decide +kernel
theorem dX7_again_23 : decode cX7_again 23 = .ok (.ifCond .ne 6, 3) := by decide +kernel
theorem dX7_again_26 : decode cX7_again 26 = .ok (.bipush (-3), 2) := by decide +kernel
theorem dX7_again_28 : decode cX7_again 28 = .ok (.ireturn, 1) := by decide +kernel
theorem dX7_again_29 : decode cX7_again 29 = .ok (.iconst 0, 1) := by decide +kernel
theorem dX7_again_30 : decode cX7_again 30 = .ok (.istore_n 2, 1) := by decide +kernel
theorem dX7_again_31 : decode cX7_again 31 = .ok (.iload_n 2, 1) := by decide +kernel
theorem dX7_again_32 : decode cX7_again 32 = .ok (.bipush 12, 2) := by decide +kernel
theorem dX7_again_34 : decode cX7_again 34 = .ok (.if_icmp .ge 26, 3) := by decide +kernel
theorem dX7_again_37 : decode cX7_again 37 = .ok (.aload_n 0, 1) := by decide +kernel
theorem dX7_again_38 : decode cX7_again 38 = .ok (.getfield 22, 3) := by decide +kernel
theorem dX7_again_41 : decode cX7_again 41 = .ok (.iload_n 2, 1) := by decide +kernel
theorem dX7_again_42 : decode cX7_again 42 = .ok (.aload_n 0, 1) := by decide +kernel
theorem dX7_again_43 : decode cX7_again 43 = .ok (.getfield 34, 3) := by decide +kernel
theorem dX7_again_46 : decode cX7_again 46 = .ok (.bipush 12, 2) := by decide +kernel
theorem dX7_again_48 : decode cX7_again 48 = .ok (.iload_n 1, 1) := by decide +kernel
theorem dX7_again_49 : decode cX7_again 49 = .ok (.imul, 1) := by decide +kernel
theorem dX7_again_50 : decode cX7_again 50 = .ok (.iload_n 2, 1) := by decide +kernel
theorem dX7_again_51 : decode cX7_again 51 = .ok (.iadd, 1) := by decide +kernel
theorem dX7_again_52 : decode cX7_again 52 = .ok (.iaload, 1) := by decide +kernel
theorem dX7_again_53 : decode cX7_again 53 = .ok (.iastore, 1) := by decide +kernel
theorem dX7_again_54 : decode cX7_again 54 = .ok (.iinc 2 1, 3) := by decide +kernel
theorem dX7_again_57 : decode cX7_again 57 = .ok (.goto (-26), 3) := by decide +kernel
theorem dX7_again_60 : decode cX7_again 60 = .ok (.aload_n 0, 1) := by decide +kernel
theorem dX7_again_61 : decode cX7_again 61 = .ok (.iconst 0, 1) := by decide +kernel
theorem dX7_again_62 : decode cX7_again 62 = .ok (.putfield 95, 3) := by decide +kernel
theorem dX7_again_65 : decode cX7_again 65 = .ok (.aload_n 0, 1) := by decide +kernel
theorem dX7_again_66 : decode cX7_again 66 = .ok (.getfield 22, 3) := by decide +kernel
theorem dX7_again_69 : decode cX7_again 69 = .ok (.iconst 2, 1) := by decide +kernel
theorem dX7_again_70 : decode cX7_again 70 = .ok (.iaload, 1) := by decide +kernel
theorem dX7_again_71 : decode cX7_again 71 = .ok (.ireturn, 1) := by decide +kernel
