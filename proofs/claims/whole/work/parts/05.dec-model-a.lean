/-! decode rows -/
theorem dX7_init_0 : decode cX7_init 0 = .ok (.aload_n 0, 1) := by decide +kernel
theorem dX7_init_1 : decode cX7_init 1 = .ok (.invokespecial 1, 3) := by decide +kernel
theorem dX7_init_4 : decode cX7_init 4 = .ok (.aload_n 0, 1) := by decide +kernel
theorem dX7_init_5 : decode cX7_init 5 = .ok (.bipush 48, 2) := by decide +kernel
theorem dX7_init_7 : decode cX7_init 7 = .ok (.newarray .int, 2) := by decide +kernel
theorem dX7_init_9 : decode cX7_init 9 = .ok (.putfield 7, 3) := by decide +kernel
theorem dX7_init_12 : decode cX7_init 12 = .ok (.aload_n 0, 1) := by decide +kernel
theorem dX7_init_13 : decode cX7_init 13 = .ok (.bipush 6, 2) := by decide +kernel
theorem dX7_init_15 : decode cX7_init 15 = .ok (.newarray .int, 2) := by decide +kernel
theorem dX7_init_17 : decode cX7_init 17 = .ok (.putfield 13, 3) := by decide +kernel
theorem dX7_init_20 : decode cX7_init 20 = .ok (.aload_n 0, 1) := by decide +kernel
theorem dX7_init_21 : decode cX7_init 21 = .ok (.bipush 18, 2) := by decide +kernel
theorem dX7_init_23 : decode cX7_init 23 = .ok (.newarray .int, 2) := by decide +kernel
theorem dX7_init_25 : decode cX7_init 25 = .ok (.putfield 16, 3) := by decide +kernel
theorem dX7_init_28 : decode cX7_init 28 = .ok (.aload_n 0, 1) := by decide +kernel
theorem dX7_init_29 : decode cX7_init 29 = .ok (.bipush 24, 2) := by decide +kernel
theorem dX7_init_31 : decode cX7_init 31 = .ok (.newarray .int, 2) := by decide +kernel
theorem dX7_init_33 : decode cX7_init 33 = .ok (.putfield 19, 3) := by decide +kernel
theorem dX7_init_36 : decode cX7_init 36 = .ok (.aload_n 0, 1) := by decide +kernel
theorem dX7_init_37 : decode cX7_init 37 = .ok (.bipush 12, 2) := by decide +kernel
theorem dX7_init_39 : decode cX7_init 39 = .ok (.newarray .int, 2) := by decide +kernel
theorem dX7_init_41 : decode cX7_init 41 = .ok (.putfield 22, 3) := by decide +kernel
theorem dX7_init_44 : decode cX7_init 44 = .ok (.aload_n 0, 1) := by decide +kernel
theorem dX7_init_45 : decode cX7_init 45 = .ok (.bipush 12, 2) := by decide +kernel
theorem dX7_init_47 : decode cX7_init 47 = .ok (.newarray .int, 2) := by decide +kernel
theorem dX7_init_49 : decode cX7_init 49 = .ok (.putfield 25, 3) := by decide +kernel
theorem dX7_init_52 : decode cX7_init 52 = .ok (.aload_n 0, 1) := by decide +kernel
theorem dX7_init_53 : decode cX7_init 53 = .ok (.bipush 12, 2) := by decide +kernel
theorem dX7_init_55 : decode cX7_init 55 = .ok (.newarray .int, 2) := by decide +kernel
theorem dX7_init_57 : decode cX7_init 57 = .ok (.putfield 28, 3) := by decide +kernel
theorem dX7_init_60 : decode cX7_init 60 = .ok (.aload_n 0, 1) := by decide +kernel
theorem dX7_init_61 : decode cX7_init 61 = .ok (.sipush 168, 3) := by decide +kernel
theorem dX7_init_64 : decode cX7_init 64 = .ok (.newarray .int, 2) := by decide +kernel
theorem dX7_init_66 : decode cX7_init 66 = .ok (.putfield 31, 3) := by decide +kernel
theorem dX7_init_69 : decode cX7_init 69 = .ok (.aload_n 0, 1) := by decide +kernel
theorem dX7_init_70 : decode cX7_init 70 = .ok (.bipush 24, 2) := by decide +kernel
theorem dX7_init_72 : decode cX7_init 72 = .ok (.newarray .int, 2) := by decide +kernel
theorem dX7_init_74 : decode cX7_init 74 = .ok (.putfield 34, 3) := by decide +kernel
theorem dX7_init_77 : decode cX7_init 77 = .ok (.aload_n 0, 1) := by decide +kernel
theorem dX7_init_78 : decode cX7_init 78 = .ok (.iconst 2, 1) := by decide +kernel
theorem dX7_init_79 : decode cX7_init 79 = .ok (.newarray .boolean, 2) := by decide +kernel
theorem dX7_init_81 : decode cX7_init 81 = .ok (.putfield 37, 3) := by decide +kernel
theorem dX7_init_84 : decode cX7_init 84 = .ok (.aload_n 0, 1) := by decide +kernel
theorem dX7_init_85 : decode cX7_init 85 = .ok (.bipush 6, 2) := by decide +kernel
theorem dX7_init_87 : decode cX7_init 87 = .ok (.newarray .int, 2) := by decide +kernel
theorem dX7_init_89 : decode cX7_init 89 = .ok (.putfield 41, 3) := by decide +kernel
theorem dX7_init_92 : decode cX7_init 92 = .ok (.aload_n 0, 1) := by decide +kernel
theorem dX7_init_93 : decode cX7_init 93 = .ok (.bipush 6, 2) := by decide +kernel
theorem dX7_init_95 : decode cX7_init 95 = .ok (.newarray .int, 2) := by decide +kernel
theorem dX7_init_97 : decode cX7_init 97 = .ok (.putfield 44, 3) := by decide +kernel
theorem dX7_init_100 : decode cX7_init 100 = .ok (.aload_n 0, 1) := by decide +kernel
theorem dX7_init_101 : decode cX7_init 101 = .ok (.bipush 6, 2) := by decide +kernel
theorem dX7_init_103 : decode cX7_init 103 = .ok (.newarray .int, 2) := by decide +kernel
theorem dX7_init_105 : decode cX7_init 105 = .ok (.putfield 47, 3) := by decide +kernel
theorem dX7_init_108 : decode cX7_init 108 = .ok (.aload_n 0, 1) := by decide +kernel
theorem dX7_init_109 : decode cX7_init 109 = .ok (.bipush 6, 2) := by decide +kernel
theorem dX7_init_111 : decode cX7_init 111 = .ok (.newarray .int, 2) := by decide +kernel
theorem dX7_init_113 : decode cX7_init 113 = .ok (.putfield 50, 3) := by decide +kernel
theorem dX7_init_116 : decode cX7_init 116 = .ok (.aload_n 0, 1) := by decide +kernel
theorem dX7_init_117 : decode cX7_init 117 = .ok (.bipush 64, 2) := by decide +kernel
theorem dX7_init_119 : decode cX7_init 119 = .ok (.newarray .int, 2) := by decide +kernel
theorem dX7_init_121 : decode cX7_init 121 = .ok (.putfield 53, 3) := by decide +kernel
theorem dX7_init_124 : decode cX7_init 124 = .ok (.aload_n 0, 1) := by decide +kernel
theorem dX7_init_125 : decode cX7_init 125 = .ok (.bipush 6, 2) := by decide +kernel
theorem dX7_init_127 : decode cX7_init 127 = .ok (.newarray .int, 2) := by decide +kernel
theorem dX7_init_129 : decode cX7_init 129 = .ok (.putfield 56, 3) := by decide +kernel
theorem dX7_init_132 : decode cX7_init 132 = .ok (.return_, 1) := by decide +kernel
theorem dX7_in_0 : decode cX7_in 0 = .ok (.lload_n 0, 1) := by decide +kernel
theorem dX7_in_1 : decode cX7_in 1 = .ok (.lload_n 2, 1) := by decide +kernel
theorem dX7_in_2 : decode cX7_in 2 = .ok (.lcmp, 1) := by decide +kernel
theorem dX7_in_3 : decode cX7_in 3 = .ok (.ifCond .lt 14, 3) := by decide +kernel
theorem dX7_in_6 : decode cX7_in 6 = .ok (.lload_n 0, 1) := by decide +kernel
theorem dX7_in_7 : decode cX7_in 7 = .ok (.lload 4, 2) := by decide +kernel
theorem dX7_in_9 : decode cX7_in 9 = .ok (.lcmp, 1) := by decide +kernel
theorem dX7_in_10 : decode cX7_in 10 = .ok (.ifCond .gt 7, 3) := by decide +kernel
theorem dX7_in_13 : decode cX7_in 13 = .ok (.iconst 1, 1) := by decide +kernel
theorem dX7_in_14 : decode cX7_in 14 = .ok (.goto 4, 3) := by decide +kernel
theorem dX7_in_17 : decode cX7_in 17 = .ok (.iconst 0, 1) := by decide +kernel
theorem dX7_in_18 : decode cX7_in 18 = .ok (.ireturn, 1) := by decide +kernel
theorem dX7_has_0 : decode cX7_has 0 = .ok (.iload_n 0, 1) := by decide +kernel
theorem dX7_has_1 : decode cX7_has 1 = .ok (.iload_n 1, 1) := by decide +kernel
theorem dX7_has_2 : decode cX7_has 2 = .ok (.ishr, 1) := by decide +kernel
theorem dX7_has_3 : decode cX7_has 3 = .ok (.iconst 1, 1) := by decide +kernel
theorem dX7_has_4 : decode cX7_has 4 = .ok (.iand, 1) := by decide +kernel
theorem dX7_has_5 : decode cX7_has 5 = .ok (.iconst 1, 1) := by decide +kernel
theorem dX7_has_6 : decode cX7_has 6 = .ok (.if_icmp .ne 7, 3) := by decide +kernel
theorem dX7_has_9 : decode cX7_has 9 = .ok (.iconst 1, 1) := by decide +kernel
theorem dX7_has_10 : decode cX7_has 10 = .ok (.goto 4, 3) := by decide +kernel
theorem dX7_has_13 : decode cX7_has 13 = .ok (.iconst 0, 1) := by decide +kernel
theorem dX7_has_14 : decode cX7_has 14 = .ok (.ireturn, 1) := by decide +kernel
theorem dX7_many_0 : decode cX7_many 0 = .ok (.iconst 0, 1) := by decide +kernel
theorem dX7_many_1 : decode cX7_many 1 = .ok (.istore_n 1, 1) := by decide +kernel
theorem dX7_many_2 : decode cX7_many 2 = .ok (.iconst 0, 1) := by decide +kernel
theorem dX7_many_3 : decode cX7_many 3 = .ok (.istore_n 2, 1) := by decide +kernel
theorem dX7_many_4 : decode cX7_many 4 = .ok (.iload_n 2, 1) := by decide +kernel
theorem dX7_many_5 : decode cX7_many 5 = .ok (.bipush 6, 2) := by decide +kernel
theorem dX7_many_7 : decode cX7_many 7 = .ok (.if_icmp .ge 17, 3) := by decide +kernel
theorem dX7_many_10 : decode cX7_many 10 = .ok (.iload_n 1, 1) := by decide +kernel
theorem dX7_many_11 : decode cX7_many 11 = .ok (.iload_n 0, 1) := by decide +kernel
theorem dX7_many_12 : decode cX7_many 12 = .ok (.iload_n 2, 1) := by decide +kernel
theorem dX7_many_13 : decode cX7_many 13 = .ok (.ishr, 1) := by decide +kernel
theorem dX7_many_14 : decode cX7_many 14 = .ok (.iconst 1, 1) := by decide +kernel
theorem dX7_many_15 : decode cX7_many 15 = .ok (.iand, 1) := by decide +kernel
theorem dX7_many_16 : decode cX7_many 16 = .ok (.iadd, 1) := by decide +kernel
theorem dX7_many_17 : decode cX7_many 17 = .ok (.istore_n 1, 1) := by decide +kernel
theorem dX7_many_18 : decode cX7_many 18 = .ok (.iinc 2 1, 3) := by decide +kernel
theorem dX7_many_21 : decode cX7_many 21 = .ok (.goto (-17), 3) := by decide +kernel
theorem dX7_many_24 : decode cX7_many 24 = .ok (.iload_n 1, 1) := by decide +kernel
theorem dX7_many_25 : decode cX7_many 25 = .ok (.ireturn, 1) := by decide +kernel
theorem dX7_noHouse_0 : decode cX7_noHouse 0 = .ok (.iload_n 1, 1) := by decide +kernel
theorem dX7_noHouse_1 : decode cX7_noHouse 1 = .ok (.i2l, 1) := by decide +kernel
theorem dX7_noHouse_2 : decode cX7_noHouse 2 = .ok (.lconst 0, 1) := by decide +kernel
theorem dX7_noHouse_3 : decode cX7_noHouse 3 = .ok (.aload_n 0, 1) := by decide +kernel
theorem dX7_noHouse_4 : decode cX7_noHouse 4 = .ok (.getfield 63, 3) := by decide +kernel
theorem dX7_noHouse_7 : decode cX7_noHouse 7 = .ok (.iconst 1, 1) := by decide +kernel
theorem dX7_noHouse_8 : decode cX7_noHouse 8 = .ok (.isub, 1) := by decide +kernel
theorem dX7_noHouse_9 : decode cX7_noHouse 9 = .ok (.i2l, 1) := by decide +kernel
theorem dX7_noHouse_10 : decode cX7_noHouse 10 = .ok (.invokestatic 66, 3) := by decide +kernel
theorem dX7_noHouse_13 : decode cX7_noHouse 13 = .ok (.ifCond .ne 7, 3) := by decide +kernel
theorem dX7_noHouse_16 : decode cX7_noHouse 16 = .ok (.iconst 1, 1) := by decide +kernel
theorem dX7_noHouse_17 : decode cX7_noHouse 17 = .ok (.goto 4, 3) := by decide +kernel
theorem dX7_noHouse_20 : decode cX7_noHouse 20 = .ok (.iconst 0, 1) := by decide +kernel
theorem dX7_noHouse_21 : decode cX7_noHouse 21 = .ok (.ireturn, 1) := by decide +kernel
theorem dX7_write_0 : decode cX7_write 0 = .ok (.aload_n 0, 1) := by decide +kernel
theorem dX7_write_1 : decode cX7_write 1 = .ok (.iconst 0, 1) := by decide +kernel
theorem dX7_write_2 : decode cX7_write 2 = .ok (.putfield 59, 3) := by decide +kernel
theorem dX7_write_5 : decode cX7_write 5 = .ok (.iload_n 1, 1) := by decide +kernel
theorem dX7_write_6 : decode cX7_write 6 = .ok (.i2l, 1) := by decide +kernel
theorem dX7_write_7 : decode cX7_write 7 = .ok (.lconst 0, 1) := by decide +kernel
theorem dX7_write_8 : decode cX7_write 8 = .ok (.ldc2_w 70, 3) := by decide +kernel
theorem dX7_write_11 : decode cX7_write 11 = .ok (.invokestatic 66, 3) := by decide +kernel
theorem dX7_write_14 : decode cX7_write 14 = .ok (.ifCond .ne 6, 3) := by decide +kernel
theorem dX7_write_17 : decode cX7_write 17 = .ok (.bipush (-2), 2) := by decide +kernel
theorem dX7_write_19 : decode cX7_write 19 = .ok (.ireturn, 1) := by decide +kernel
theorem dX7_write_20 : decode cX7_write 20 = .ok (.aload_n 0, 1) := by decide +kernel
theorem dX7_write_21 : decode cX7_write 21 = .ok (.getfield 72, 3) := by decide +kernel
theorem dX7_write_24 : decode cX7_write 24 = .ok (.bipush 48, 2) := by decide +kernel
theorem dX7_write_26 : decode cX7_write 26 = .ok (.if_icmp .ne 6, 3) := by decide +kernel
theorem dX7_write_29 : decode cX7_write 29 = .ok (.bipush (-4), 2) := by decide +kernel
theorem dX7_write_31 : decode cX7_write 31 = .ok (.ireturn, 1) := by decide +kernel
theorem dX7_write_32 : decode cX7_write 32 = .ok (.aload_n 0, 1) := by decide +kernel
theorem dX7_write_33 : decode cX7_write 33 = .ok (.getfield 7, 3) := by decide +kernel
theorem dX7_write_36 : decode cX7_write 36 = .ok (.aload_n 0, 1) := by decide +kernel
theorem dX7_write_37 : decode cX7_write 37 = .ok (.getfield 72, 3) := by decide +kernel
theorem dX7_write_40 : decode cX7_write 40 = .ok (.iload_n 1, 1) := by decide +kernel
theorem dX7_write_41 : decode cX7_write 41 = .ok (.iastore, 1) := by decide +kernel
theorem dX7_write_42 : decode cX7_write 42 = .ok (.aload_n 0, 1) := by decide +kernel
theorem dX7_write_43 : decode cX7_write 43 = .ok (.dup, 1) := by decide +kernel
theorem dX7_write_44 : decode cX7_write 44 = .ok (.getfield 72, 3) := by decide +kernel
theorem dX7_write_47 : decode cX7_write 47 = .ok (.iconst 1, 1) := by decide +kernel
theorem dX7_write_48 : decode cX7_write 48 = .ok (.iadd, 1) := by decide +kernel
theorem dX7_write_49 : decode cX7_write 49 = .ok (.putfield 72, 3) := by decide +kernel
theorem dX7_write_52 : decode cX7_write 52 = .ok (.aload_n 0, 1) := by decide +kernel
theorem dX7_write_53 : decode cX7_write 53 = .ok (.getfield 72, 3) := by decide +kernel
theorem dX7_write_56 : decode cX7_write 56 = .ok (.ireturn, 1) := by decide +kernel
theorem dX7_wipe_0 : decode cX7_wipe 0 = .ok (.aload_n 0, 1) := by decide +kernel
theorem dX7_wipe_1 : decode cX7_wipe 1 = .ok (.iconst 0, 1) := by decide +kernel
theorem dX7_wipe_2 : decode cX7_wipe 2 = .ok (.putfield 59, 3) := by decide +kernel
theorem dX7_wipe_5 : decode cX7_wipe 5 = .ok (.aload_n 0, 1) := by decide +kernel
theorem dX7_wipe_6 : decode cX7_wipe 6 = .ok (.getfield 72, 3) := by decide +kernel
theorem dX7_wipe_9 : decode cX7_wipe 9 = .ok (.istore_n 1, 1) := by decide +kernel
theorem dX7_wipe_10 : decode cX7_wipe 10 = .ok (.aload_n 0, 1) := by decide +kernel
theorem dX7_wipe_11 : decode cX7_wipe 11 = .ok (.iconst 0, 1) := by decide +kernel
theorem dX7_wipe_12 : decode cX7_wipe 12 = .ok (.putfield 72, 3) := by decide +kernel
theorem dX7_wipe_15 : decode cX7_wipe 15 = .ok (.iload_n 1, 1) := by decide +kernel
theorem dX7_wipe_16 : decode cX7_wipe 16 = .ok (.ireturn, 1) := by decide +kernel
theorem dX7_figure_0 : decode cX7_figure 0 = .ok (.aload_n 0, 1) := by decide +kernel
theorem dX7_figure_1 : decode cX7_figure 1 = .ok (.getfield 75, 3) := by decide +kernel
theorem dX7_figure_4 : decode cX7_figure 4 = .ok (.aload_n 0, 1) := by decide +kernel
theorem dX7_figure_5 : decode cX7_figure 5 = .ok (.getfield 72, 3) := by decide +kernel
theorem dX7_figure_8 : decode cX7_figure 8 = .ok (.if_icmp .eq 25, 3) := by decide +kernel
theorem dX7_figure_11 : decode cX7_figure 11 = .ok (.aload_n 0, 1) := by decide +kernel
theorem dX7_figure_12 : decode cX7_figure 12 = .ok (.getfield 7, 3) := by decide +kernel
theorem dX7_figure_15 : decode cX7_figure 15 = .ok (.aload_n 0, 1) := by decide +kernel
theorem dX7_figure_16 : decode cX7_figure 16 = .ok (.getfield 75, 3) := by decide +kernel
theorem dX7_figure_19 : decode cX7_figure 19 = .ok (.iaload, 1) := by decide +kernel
theorem dX7_figure_20 : decode cX7_figure 20 = .ok (.bipush 48, 2) := by decide +kernel
theorem dX7_figure_22 : decode cX7_figure 22 = .ok (.isub, 1) := by decide +kernel
theorem dX7_figure_23 : decode cX7_figure 23 = .ok (.i2l, 1) := by decide +kernel
theorem dX7_figure_24 : decode cX7_figure 24 = .ok (.lconst 0, 1) := by decide +kernel
theorem dX7_figure_25 : decode cX7_figure 25 = .ok (.iload_n 1, 1) := by decide +kernel
theorem dX7_figure_26 : decode cX7_figure 26 = .ok (.i2l, 1) := by decide +kernel
theorem dX7_figure_27 : decode cX7_figure 27 = .ok (.invokestatic 66, 3) := by decide +kernel
theorem dX7_figure_30 : decode cX7_figure 30 = .ok (.ifCond .ne 6, 3) := by decide +kernel
theorem dX7_figure_33 : decode cX7_figure 33 = .ok (.bipush (-9), 2) := by decide +kernel
theorem dX7_figure_35 : decode cX7_figure 35 = .ok (.ireturn, 1) := by decide +kernel
theorem dX7_figure_36 : decode cX7_figure 36 = .ok (.aload_n 0, 1) := by decide +kernel
theorem dX7_figure_37 : decode cX7_figure 37 = .ok (.dup, 1) := by decide +kernel
theorem dX7_figure_38 : decode cX7_figure 38 = .ok (.getfield 75, 3) := by decide +kernel
theorem dX7_figure_41 : decode cX7_figure 41 = .ok (.iconst 1, 1) := by decide +kernel
theorem dX7_figure_42 : decode cX7_figure 42 = .ok (.iadd, 1) := by decide +kernel
theorem dX7_figure_43 : decode cX7_figure 43 = .ok (.putfield 75, 3) := by decide +kernel
theorem dX7_figure_46 : decode cX7_figure 46 = .ok (.aload_n 0, 1) := by decide +kernel
theorem dX7_figure_47 : decode cX7_figure 47 = .ok (.getfield 7, 3) := by decide +kernel
theorem dX7_figure_50 : decode cX7_figure 50 = .ok (.aload_n 0, 1) := by decide +kernel
theorem dX7_figure_51 : decode cX7_figure 51 = .ok (.getfield 75, 3) := by decide +kernel
theorem dX7_figure_54 : decode cX7_figure 54 = .ok (.iconst 1, 1) := by decide +kernel
theorem dX7_figure_55 : decode cX7_figure 55 = .ok (.isub, 1) := by decide +kernel
theorem dX7_figure_56 : decode cX7_figure 56 = .ok (.iaload, 1) := by decide +kernel
theorem dX7_figure_57 : decode cX7_figure 57 = .ok (.bipush 48, 2) := by decide +kernel
theorem dX7_figure_59 : decode cX7_figure 59 = .ok (.isub, 1) := by decide +kernel
theorem dX7_figure_60 : decode cX7_figure 60 = .ok (.ireturn, 1) := by decide +kernel
theorem dX7_readHouse_0 : decode cX7_readHouse 0 = .ok (.iconst 0, 1) := by decide +kernel
theorem dX7_readHouse_1 : decode cX7_readHouse 1 = .ok (.istore_n 1, 1) := by decide +kernel
theorem dX7_readHouse_2 : decode cX7_readHouse 2 = .ok (.iload_n 1, 1) := by decide +kernel
theorem dX7_readHouse_3 : decode cX7_readHouse 3 = .ok (.iconst 4, 1) := by decide +kernel
theorem dX7_readHouse_4 : decode cX7_readHouse 4 = .ok (.if_icmp .ge 46, 3) := by decide +kernel
theorem dX7_readHouse_7 : decode cX7_readHouse 7 = .ok (.aload_n 0, 1) := by decide +kernel
theorem dX7_readHouse_8 : decode cX7_readHouse 8 = .ok (.iload_n 1, 1) := by decide +kernel
theorem dX7_readHouse_9 : decode cX7_readHouse 9 = .ok (.ifCond .ne 7, 3) := by decide +kernel
theorem dX7_readHouse_12 : decode cX7_readHouse 12 = .ok (.iconst 3, 1) := by decide +kernel
theorem dX7_readHouse_13 : decode cX7_readHouse 13 = .ok (.goto 5, 3) := by decide +kernel
theorem dX7_readHouse_16 : decode cX7_readHouse 16 = .ok (.bipush 9, 2) := by decide +kernel
theorem dX7_readHouse_18 : decode cX7_readHouse 18 = .ok (.invokevirtual 78, 3) := by decide +kernel
theorem dX7_readHouse_21 : decode cX7_readHouse 21 = .ok (.istore_n 2, 1) := by decide +kernel
theorem dX7_readHouse_22 : decode cX7_readHouse 22 = .ok (.iload_n 2, 1) := by decide +kernel
theorem dX7_readHouse_23 : decode cX7_readHouse 23 = .ok (.bipush (-9), 2) := by decide +kernel
theorem dX7_readHouse_25 : decode cX7_readHouse 25 = .ok (.if_icmp .ne 5, 3) := by decide +kernel
theorem dX7_readHouse_28 : decode cX7_readHouse 28 = .ok (.iconst 0, 1) := by decide +kernel
theorem dX7_readHouse_29 : decode cX7_readHouse 29 = .ok (.ireturn, 1) := by decide +kernel
theorem dX7_readHouse_30 : decode cX7_readHouse 30 = .ok (.aload_n 0, 1) := by decide +kernel
theorem dX7_readHouse_31 : decode cX7_readHouse 31 = .ok (.getfield 19, 3) := by decide +kernel
theorem dX7_readHouse_34 : decode cX7_readHouse 34 = .ok (.iconst 4, 1) := by decide +kernel
theorem dX7_readHouse_35 : decode cX7_readHouse 35 = .ok (.aload_n 0, 1) := by decide +kernel
theorem dX7_readHouse_36 : decode cX7_readHouse 36 = .ok (.getfield 82, 3) := by decide +kernel
theorem dX7_readHouse_39 : decode cX7_readHouse 39 = .ok (.imul, 1) := by decide +kernel
theorem dX7_readHouse_40 : decode cX7_readHouse 40 = .ok (.iload_n 1, 1) := by decide +kernel
theorem dX7_readHouse_41 : decode cX7_readHouse 41 = .ok (.iadd, 1) := by decide +kernel
theorem dX7_readHouse_42 : decode cX7_readHouse 42 = .ok (.iload_n 2, 1) := by decide +kernel
theorem dX7_readHouse_43 : decode cX7_readHouse 43 = .ok (.iastore, 1) := by decide +kernel
theorem dX7_readHouse_44 : decode cX7_readHouse 44 = .ok (.iinc 1 1, 3) := by decide +kernel
theorem dX7_readHouse_47 : decode cX7_readHouse 47 = .ok (.goto (-45), 3) := by decide +kernel
theorem dX7_readHouse_50 : decode cX7_readHouse 50 = .ok (.aload_n 0, 1) := by decide +kernel
theorem dX7_readHouse_51 : decode cX7_readHouse 51 = .ok (.dup, 1) := by decide +kernel
theorem dX7_readHouse_52 : decode cX7_readHouse 52 = .ok (.getfield 82, 3) := by decide +kernel
theorem dX7_readHouse_55 : decode cX7_readHouse 55 = .ok (.iconst 1, 1) := by decide +kernel
theorem dX7_readHouse_56 : decode cX7_readHouse 56 = .ok (.iadd, 1) := by decide +kernel
theorem dX7_readHouse_57 : decode cX7_readHouse 57 = .ok (.putfield 82, 3) := by decide +kernel
theorem dX7_readHouse_60 : decode cX7_readHouse 60 = .ok (.iconst 1, 1) := by decide +kernel
theorem dX7_readHouse_61 : decode cX7_readHouse 61 = .ok (.ireturn, 1) := by decide +kernel
theorem dX7_readStreet_0 : decode cX7_readStreet 0 = .ok (.aload_n 0, 1) := by decide +kernel
theorem dX7_readStreet_1 : decode cX7_readStreet 1 = .ok (.iconst 0, 1) := by decide +kernel
theorem dX7_readStreet_2 : decode cX7_readStreet 2 = .ok (.putfield 75, 3) := by decide +kernel
theorem dX7_readStreet_5 : decode cX7_readStreet 5 = .ok (.aload_n 0, 1) := by decide +kernel
theorem dX7_readStreet_6 : decode cX7_readStreet 6 = .ok (.iconst 0, 1) := by decide +kernel
theorem dX7_readStreet_7 : decode cX7_readStreet 7 = .ok (.putfield 82, 3) := by decide +kernel
theorem dX7_readStreet_10 : decode cX7_readStreet 10 = .ok (.aload_n 0, 1) := by decide +kernel
theorem dX7_readStreet_11 : decode cX7_readStreet 11 = .ok (.getfield 72, 3) := by decide +kernel
theorem dX7_readStreet_14 : decode cX7_readStreet 14 = .ok (.ifCond .eq 14, 3) := by decide +kernel
theorem dX7_readStreet_17 : decode cX7_readStreet 17 = .ok (.aload_n 0, 1) := by decide +kernel
theorem dX7_readStreet_18 : decode cX7_readStreet 18 = .ok (.getfield 7, 3) := by decide +kernel
theorem dX7_readStreet_21 : decode cX7_readStreet 21 = .ok (.iconst 0, 1) := by decide +kernel
theorem dX7_readStreet_22 : decode cX7_readStreet 22 = .ok (.iaload, 1) := by decide +kernel
theorem dX7_readStreet_23 : decode cX7_readStreet 23 = .ok (.bipush 78, 2) := by decide +kernel
theorem dX7_readStreet_25 : decode cX7_readStreet 25 = .ok (.if_icmp .eq 5, 3) := by decide +kernel
theorem dX7_readStreet_28 : decode cX7_readStreet 28 = .ok (.iconst 0, 1) := by decide +kernel
theorem dX7_readStreet_29 : decode cX7_readStreet 29 = .ok (.ireturn, 1) := by decide +kernel
theorem dX7_readStreet_30 : decode cX7_readStreet 30 = .ok (.aload_n 0, 1) := by decide +kernel
theorem dX7_readStreet_31 : decode cX7_readStreet 31 = .ok (.iconst 1, 1) := by decide +kernel
theorem dX7_readStreet_32 : decode cX7_readStreet 32 = .ok (.putfield 75, 3) := by decide +kernel
theorem dX7_readStreet_35 : decode cX7_readStreet 35 = .ok (.aload_n 0, 1) := by decide +kernel
theorem dX7_readStreet_36 : decode cX7_readStreet 36 = .ok (.aload_n 0, 1) := by decide +kernel
theorem dX7_readStreet_37 : decode cX7_readStreet 37 = .ok (.bipush 9, 2) := by decide +kernel
theorem dX7_readStreet_39 : decode cX7_readStreet 39 = .ok (.invokevirtual 78, 3) := by decide +kernel
theorem dX7_readStreet_42 : decode cX7_readStreet 42 = .ok (.putfield 85, 3) := by decide +kernel
theorem dX7_readStreet_45 : decode cX7_readStreet 45 = .ok (.aload_n 0, 1) := by decide +kernel
theorem dX7_readStreet_46 : decode cX7_readStreet 46 = .ok (.getfield 85, 3) := by decide +kernel
theorem dX7_readStreet_49 : decode cX7_readStreet 49 = .ok (.bipush (-9), 2) := by decide +kernel
theorem dX7_readStreet_51 : decode cX7_readStreet 51 = .ok (.if_icmp .ne 8, 3) := by decide +kernel
theorem dX7_readStreet_54 : decode cX7_readStreet 54 = .ok (.aload_n 0, 1) := by decide +kernel
theorem dX7_readStreet_55 : decode cX7_readStreet 55 = .ok (.getfield 75, 3) := by decide +kernel
theorem dX7_readStreet_58 : decode cX7_readStreet 58 = .ok (.ireturn, 1) := by decide +kernel
theorem dX7_readStreet_59 : decode cX7_readStreet 59 = .ok (.aload_n 0, 1) := by decide +kernel
theorem dX7_readStreet_60 : decode cX7_readStreet 60 = .ok (.getfield 75, 3) := by decide +kernel
theorem dX7_readStreet_63 : decode cX7_readStreet 63 = .ok (.aload_n 0, 1) := by decide +kernel
theorem dX7_readStreet_64 : decode cX7_readStreet 64 = .ok (.getfield 72, 3) := by decide +kernel
theorem dX7_readStreet_67 : decode cX7_readStreet 67 = .ok (.if_icmp .ge 53, 3) := by decide +kernel
theorem dX7_readStreet_70 : decode cX7_readStreet 70 = .ok (.aload_n 0, 1) := by decide +kernel
theorem dX7_readStreet_71 : decode cX7_readStreet 71 = .ok (.getfield 7, 3) := by decide +kernel
theorem dX7_readStreet_74 : decode cX7_readStreet 74 = .ok (.aload_n 0, 1) := by decide +kernel
theorem dX7_readStreet_75 : decode cX7_readStreet 75 = .ok (.getfield 75, 3) := by decide +kernel
theorem dX7_readStreet_78 : decode cX7_readStreet 78 = .ok (.iaload, 1) := by decide +kernel
theorem dX7_readStreet_79 : decode cX7_readStreet 79 = .ok (.bipush 72, 2) := by decide +kernel
theorem dX7_readStreet_81 : decode cX7_readStreet 81 = .ok (.if_icmp .ne 12, 3) := by decide +kernel
theorem dX7_readStreet_84 : decode cX7_readStreet 84 = .ok (.aload_n 0, 1) := by decide +kernel
theorem dX7_readStreet_85 : decode cX7_readStreet 85 = .ok (.getfield 82, 3) := by decide +kernel
theorem dX7_readStreet_88 : decode cX7_readStreet 88 = .ok (.bipush 6, 2) := by decide +kernel
theorem dX7_readStreet_90 : decode cX7_readStreet 90 = .ok (.if_icmp .ne 8, 3) := by decide +kernel
theorem dX7_readStreet_93 : decode cX7_readStreet 93 = .ok (.aload_n 0, 1) := by decide +kernel
theorem dX7_readStreet_94 : decode cX7_readStreet 94 = .ok (.getfield 75, 3) := by decide +kernel
theorem dX7_readStreet_97 : decode cX7_readStreet 97 = .ok (.ireturn, 1) := by decide +kernel
theorem dX7_readStreet_98 : decode cX7_readStreet 98 = .ok (.aload_n 0, 1) := by decide +kernel
theorem dX7_readStreet_99 : decode cX7_readStreet 99 = .ok (.dup, 1) := by decide +kernel
theorem dX7_readStreet_100 : decode cX7_readStreet 100 = .ok (.getfield 75, 3) := by decide +kernel
theorem dX7_readStreet_103 : decode cX7_readStreet 103 = .ok (.iconst 1, 1) := by decide +kernel
theorem dX7_readStreet_104 : decode cX7_readStreet 104 = .ok (.iadd, 1) := by decide +kernel
theorem dX7_readStreet_105 : decode cX7_readStreet 105 = .ok (.putfield 75, 3) := by decide +kernel
theorem dX7_readStreet_108 : decode cX7_readStreet 108 = .ok (.aload_n 0, 1) := by decide +kernel
theorem dX7_readStreet_109 : decode cX7_readStreet 109 = .ok (.invokevirtual 88, 3) := by decide +kernel
theorem dX7_readStreet_112 : decode cX7_readStreet 112 = .ok (.ifCond .ne (-53), 3) := by decide +kernel
theorem dX7_readStreet_115 : decode cX7_readStreet 115 = .ok (.aload_n 0, 1) := by decide +kernel
theorem dX7_readStreet_116 : decode cX7_readStreet 116 = .ok (.getfield 75, 3) := by decide +kernel
theorem dX7_readStreet_119 : decode cX7_readStreet 119 = .ok (.ireturn, 1) := by decide +kernel
theorem dX7_readStreet_120 : decode cX7_readStreet 120 = .ok (.bipush (-9), 2) := by decide +kernel
theorem dX7_readStreet_122 : decode cX7_readStreet 122 = .ok (.ireturn, 1) := by decide +kernel
theorem dX7_fault_0 : decode cX7_fault 0 = .ok (.aload_n 0, 1) := by decide +kernel
theorem dX7_fault_1 : decode cX7_fault 1 = .ok (.iconst 0, 1) := by decide +kernel
theorem dX7_fault_2 : decode cX7_fault 2 = .ok (.putfield 59, 3) := by decide +kernel
theorem dX7_fault_5 : decode cX7_fault 5 = .ok (.aload_n 0, 1) := by decide +kernel
theorem dX7_fault_6 : decode cX7_fault 6 = .ok (.invokevirtual 91, 3) := by decide +kernel
theorem dX7_fault_9 : decode cX7_fault 9 = .ok (.ireturn, 1) := by decide +kernel
theorem dX7_street_0 : decode cX7_street 0 = .ok (.aload_n 0, 1) := by decide +kernel
theorem dX7_street_1 : decode cX7_street 1 = .ok (.iconst 0, 1) := by decide +kernel
theorem dX7_street_2 : decode cX7_street 2 = .ok (.putfield 59, 3) := by decide +kernel
theorem dX7_street_5 : decode cX7_street 5 = .ok (.aload_n 0, 1) := by decide +kernel
theorem dX7_street_6 : decode cX7_street 6 = .ok (.invokevirtual 91, 3) := by decide +kernel
theorem dX7_street_9 : decode cX7_street 9 = .ok (.bipush (-9), 2) := by decide +kernel
theorem dX7_street_11 : decode cX7_street 11 = .ok (.if_icmp .eq 6, 3) := by decide +kernel
theorem dX7_street_14 : decode cX7_street 14 = .ok (.bipush (-3), 2) := by decide +kernel
theorem dX7_street_16 : decode cX7_street 16 = .ok (.ireturn, 1) := by decide +kernel
theorem dX7_street_17 : decode cX7_street 17 = .ok (.aload_n 0, 1) := by decide +kernel
theorem dX7_street_18 : decode cX7_street 18 = .ok (.aload_n 0, 1) := by decide +kernel
theorem dX7_street_19 : decode cX7_street 19 = .ok (.getfield 82, 3) := by decide +kernel
theorem dX7_street_22 : decode cX7_street 22 = .ok (.putfield 63, 3) := by decide +kernel
theorem dX7_street_25 : decode cX7_street 25 = .ok (.iconst 0, 1) := by decide +kernel
theorem dX7_street_26 : decode cX7_street 26 = .ok (.istore_n 1, 1) := by decide +kernel
theorem dX7_street_27 : decode cX7_street 27 = .ok (.iload_n 1, 1) := by decide +kernel
theorem dX7_street_28 : decode cX7_street 28 = .ok (.aload_n 0, 1) := by decide +kernel
theorem dX7_street_29 : decode cX7_street 29 = .ok (.getfield 63, 3) := by decide +kernel
theorem dX7_street_32 : decode cX7_street 32 = .ok (.if_icmp .ge 58, 3) := by decide +kernel
theorem dX7_street_35 : decode cX7_street 35 = .ok (.aload_n 0, 1) := by decide +kernel
theorem dX7_street_36 : decode cX7_street 36 = .ok (.getfield 13, 3) := by decide +kernel
theorem dX7_street_39 : decode cX7_street 39 = .ok (.iload_n 1, 1) := by decide +kernel
theorem dX7_street_40 : decode cX7_street 40 = .ok (.aload_n 0, 1) := by decide +kernel
theorem dX7_street_41 : decode cX7_street 41 = .ok (.getfield 19, 3) := by decide +kernel
theorem dX7_street_44 : decode cX7_street 44 = .ok (.iconst 4, 1) := by decide +kernel
theorem dX7_street_45 : decode cX7_street 45 = .ok (.iload_n 1, 1) := by decide +kernel
theorem dX7_street_46 : decode cX7_street 46 = .ok (.imul, 1) := by decide +kernel
theorem dX7_street_47 : decode cX7_street 47 = .ok (.iaload, 1) := by decide +kernel
theorem dX7_street_48 : decode cX7_street 48 = .ok (.iastore, 1) := by decide +kernel
theorem dX7_street_49 : decode cX7_street 49 = .ok (.iconst 0, 1) := by decide +kernel
theorem dX7_street_50 : decode cX7_street 50 = .ok (.istore_n 2, 1) := by decide +kernel
theorem dX7_street_51 : decode cX7_street 51 = .ok (.iload_n 2, 1) := by decide +kernel
theorem dX7_street_52 : decode cX7_street 52 = .ok (.iconst 3, 1) := by decide +kernel
theorem dX7_street_53 : decode cX7_street 53 = .ok (.if_icmp .ge 31, 3) := by decide +kernel
theorem dX7_street_56 : decode cX7_street 56 = .ok (.aload_n 0, 1) := by decide +kernel
theorem dX7_street_57 : decode cX7_street 57 = .ok (.getfield 16, 3) := by decide +kernel
theorem dX7_street_60 : decode cX7_street 60 = .ok (.iconst 3, 1) := by decide +kernel
theorem dX7_street_61 : decode cX7_street 61 = .ok (.iload_n 1, 1) := by decide +kernel
theorem dX7_street_62 : decode cX7_street 62 = .ok (.imul, 1) := by decide +kernel
theorem dX7_street_63 : decode cX7_street 63 = .ok (.iload_n 2, 1) := by decide +kernel
theorem dX7_street_64 : decode cX7_street 64 = .ok (.iadd, 1) := by decide +kernel
theorem dX7_street_65 : decode cX7_street 65 = .ok (.aload_n 0, 1) := by decide +kernel
theorem dX7_street_66 : decode cX7_street 66 = .ok (.getfield 19, 3) := by decide +kernel
theorem dX7_street_69 : decode cX7_street 69 = .ok (.iconst 4, 1) := by decide +kernel
theorem dX7_street_70 : decode cX7_street 70 = .ok (.iload_n 1, 1) := by decide +kernel
theorem dX7_street_71 : decode cX7_street 71 = .ok (.imul, 1) := by decide +kernel
theorem dX7_street_72 : decode cX7_street 72 = .ok (.iconst 1, 1) := by decide +kernel
theorem dX7_street_73 : decode cX7_street 73 = .ok (.iadd, 1) := by decide +kernel
theorem dX7_street_74 : decode cX7_street 74 = .ok (.iload_n 2, 1) := by decide +kernel
theorem dX7_street_75 : decode cX7_street 75 = .ok (.iadd, 1) := by decide +kernel
theorem dX7_street_76 : decode cX7_street 76 = .ok (.iaload, 1) := by decide +kernel
theorem dX7_street_77 : decode cX7_street 77 = .ok (.iastore, 1) := by decide +kernel
theorem dX7_street_78 : decode cX7_street 78 = .ok (.iinc 2 1, 3) := by decide +kernel
theorem dX7_street_81 : decode cX7_street 81 = .ok (.goto (-30), 3) := by decide +kernel
theorem dX7_street_84 : decode cX7_street 84 = .ok (.iinc 1 1, 3) := by decide +kernel
theorem dX7_street_87 : decode cX7_street 87 = .ok (.goto (-60), 3) := by decide +kernel
theorem dX7_street_90 : decode cX7_street 90 = .ok (.iconst 0, 1) := by decide +kernel
theorem dX7_street_91 : decode cX7_street 91 = .ok (.istore_n 1, 1) := by decide +kernel
theorem dX7_street_92 : decode cX7_street 92 = .ok (.iload_n 1, 1) := by decide +kernel
theorem dX7_street_93 : decode cX7_street 93 = .ok (.bipush 12, 2) := by decide +kernel
theorem dX7_street_95 : decode cX7_street 95 = .ok (.if_icmp .ge 16, 3) := by decide +kernel
theorem dX7_street_98 : decode cX7_street 98 = .ok (.aload_n 0, 1) := by decide +kernel
theorem dX7_street_99 : decode cX7_street 99 = .ok (.getfield 22, 3) := by decide +kernel
theorem dX7_street_102 : decode cX7_street 102 = .ok (.iload_n 1, 1) := by decide +kernel
theorem dX7_street_103 : decode cX7_street 103 = .ok (.iconst 0, 1) := by decide +kernel
theorem dX7_street_104 : decode cX7_street 104 = .ok (.iastore, 1) := by decide +kernel
theorem dX7_street_105 : decode cX7_street 105 = .ok (.iinc 1 1, 3) := by decide +kernel
theorem dX7_street_108 : decode cX7_street 108 = .ok (.goto (-16), 3) := by decide +kernel
theorem dX7_street_111 : decode cX7_street 111 = .ok (.aload_n 0, 1) := by decide +kernel
theorem dX7_street_112 : decode cX7_street 112 = .ok (.getfield 22, 3) := by decide +kernel
theorem dX7_street_115 : decode cX7_street 115 = .ok (.iconst 1, 1) := by decide +kernel
theorem dX7_street_116 : decode cX7_street 116 = .ok (.aload_n 0, 1) := by decide +kernel
theorem dX7_street_117 : decode cX7_street 117 = .ok (.getfield 85, 3) := by decide +kernel
theorem dX7_street_120 : decode cX7_street 120 = .ok (.iastore, 1) := by decide +kernel
theorem dX7_street_121 : decode cX7_street 121 = .ok (.aload_n 0, 1) := by decide +kernel
theorem dX7_street_122 : decode cX7_street 122 = .ok (.getfield 22, 3) := by decide +kernel
theorem dX7_street_125 : decode cX7_street 125 = .ok (.iconst 4, 1) := by decide +kernel
theorem dX7_street_126 : decode cX7_street 126 = .ok (.iconst 1, 1) := by decide +kernel
theorem dX7_street_127 : decode cX7_street 127 = .ok (.aload_n 0, 1) := by decide +kernel
theorem dX7_street_128 : decode cX7_street 128 = .ok (.getfield 63, 3) := by decide +kernel
theorem dX7_street_131 : decode cX7_street 131 = .ok (.ishl, 1) := by decide +kernel
theorem dX7_street_132 : decode cX7_street 132 = .ok (.iconst 1, 1) := by decide +kernel
theorem dX7_street_133 : decode cX7_street 133 = .ok (.isub, 1) := by decide +kernel
theorem dX7_street_134 : decode cX7_street 134 = .ok (.iastore, 1) := by decide +kernel
theorem dX7_street_135 : decode cX7_street 135 = .ok (.aload_n 0, 1) := by decide +kernel
theorem dX7_street_136 : decode cX7_street 136 = .ok (.iconst 0, 1) := by decide +kernel
theorem dX7_street_137 : decode cX7_street 137 = .ok (.putfield 95, 3) := by decide +kernel
theorem dX7_street_140 : decode cX7_street 140 = .ok (.aload_n 0, 1) := by decide +kernel
theorem dX7_street_141 : decode cX7_street 141 = .ok (.getfield 37, 3) := by decide +kernel
theorem dX7_street_144 : decode cX7_street 144 = .ok (.iconst 0, 1) := by decide +kernel
theorem dX7_street_145 : decode cX7_street 145 = .ok (.iconst 0, 1) := by decide +kernel
theorem dX7_street_146 : decode cX7_street 146 = .ok (.bastore, 1) := by decide +kernel
theorem dX7_street_147 : decode cX7_street 147 = .ok (.aload_n 0, 1) := by decide +kernel
theorem dX7_street_148 : decode cX7_street 148 = .ok (.getfield 37, 3) := by decide +kernel
theorem dX7_street_151 : decode cX7_street 151 = .ok (.iconst 1, 1) := by decide +kernel
theorem dX7_street_152 : decode cX7_street 152 = .ok (.iconst 0, 1) := by decide +kernel
theorem dX7_street_153 : decode cX7_street 153 = .ok (.bastore, 1) := by decide +kernel
theorem dX7_street_154 : decode cX7_street 154 = .ok (.aload_n 0, 1) := by decide +kernel
theorem dX7_street_155 : decode cX7_street 155 = .ok (.getfield 63, 3) := by decide +kernel
theorem dX7_street_158 : decode cX7_street 158 = .ok (.ireturn, 1) := by decide +kernel
theorem dX7_showsBy_0 : decode cX7_showsBy 0 = .ok (.iload_n 0, 1) := by decide +kernel
theorem dX7_showsBy_1 : decode cX7_showsBy 1 = .ok (.tableswitch 55 1 3 #[27, 31, 43], 27) := by decide +kernel
theorem dX7_showsBy_28 : decode cX7_showsBy 28 = .ok (.iload_n 1, 1) := by decide +kernel
theorem dX7_showsBy_29 : decode cX7_showsBy 29 = .ok (.iconst 2, 1) := by decide +kernel
theorem dX7_showsBy_30 : decode cX7_showsBy 30 = .ok (.idiv, 1) := by decide +kernel
theorem dX7_showsBy_31 : decode cX7_showsBy 31 = .ok (.ireturn, 1) := by decide +kernel
theorem dX7_showsBy_32 : decode cX7_showsBy 32 = .ok (.iload_n 1, 1) := by decide +kernel
theorem dX7_showsBy_33 : decode cX7_showsBy 33 = .ok (.ifCond .ne 7, 3) := by decide +kernel
theorem dX7_showsBy_36 : decode cX7_showsBy 36 = .ok (.iconst 0, 1) := by decide +kernel
theorem dX7_showsBy_37 : decode cX7_showsBy 37 = .ok (.goto 6, 3) := by decide +kernel
theorem dX7_showsBy_40 : decode cX7_showsBy 40 = .ok (.iload_n 1, 1) := by decide +kernel
theorem dX7_showsBy_41 : decode cX7_showsBy 41 = .ok (.iconst 1, 1) := by decide +kernel
theorem dX7_showsBy_42 : decode cX7_showsBy 42 = .ok (.iadd, 1) := by decide +kernel
theorem dX7_showsBy_43 : decode cX7_showsBy 43 = .ok (.ireturn, 1) := by decide +kernel
theorem dX7_showsBy_44 : decode cX7_showsBy 44 = .ok (.iload_n 2, 1) := by decide +kernel
theorem dX7_showsBy_45 : decode cX7_showsBy 45 = .ok (.iconst 2, 1) := by decide +kernel
theorem dX7_showsBy_46 : decode cX7_showsBy 46 = .ok (.irem, 1) := by decide +kernel
theorem dX7_showsBy_47 : decode cX7_showsBy 47 = .ok (.ifCond .ne 7, 3) := by decide +kernel
theorem dX7_showsBy_50 : decode cX7_showsBy 50 = .ok (.iload_n 1, 1) := by decide +kernel
theorem dX7_showsBy_51 : decode cX7_showsBy 51 = .ok (.goto 4, 3) := by decide +kernel
theorem dX7_showsBy_54 : decode cX7_showsBy 54 = .ok (.iconst 0, 1) := by decide +kernel
theorem dX7_showsBy_55 : decode cX7_showsBy 55 = .ok (.ireturn, 1) := by decide +kernel
theorem dX7_showsBy_56 : decode cX7_showsBy 56 = .ok (.iload_n 1, 1) := by decide +kernel
theorem dX7_showsBy_57 : decode cX7_showsBy 57 = .ok (.ireturn, 1) := by decide +kernel
theorem dX7_sightOf_0 : decode cX7_sightOf 0 = .ok (.aload_n 1, 1) := by decide +kernel
theorem dX7_sightOf_1 : decode cX7_sightOf 1 = .ok (.iconst 4, 1) := by decide +kernel
theorem dX7_sightOf_2 : decode cX7_sightOf 2 = .ok (.iaload, 1) := by decide +kernel
theorem dX7_sightOf_3 : decode cX7_sightOf 3 = .ok (.iload_n 2, 1) := by decide +kernel
theorem dX7_sightOf_4 : decode cX7_sightOf 4 = .ok (.invokestatic 98, 3) := by decide +kernel
theorem dX7_sightOf_7 : decode cX7_sightOf 7 = .ok (.ifCond .eq 17, 3) := by decide +kernel
theorem dX7_sightOf_10 : decode cX7_sightOf 10 = .ok (.aload_n 1, 1) := by decide +kernel
theorem dX7_sightOf_11 : decode cX7_sightOf 11 = .ok (.iconst 5, 1) := by decide +kernel
theorem dX7_sightOf_12 : decode cX7_sightOf 12 = .ok (.iaload, 1) := by decide +kernel
theorem dX7_sightOf_13 : decode cX7_sightOf 13 = .ok (.iload_n 2, 1) := by decide +kernel
theorem dX7_sightOf_14 : decode cX7_sightOf 14 = .ok (.invokestatic 98, 3) := by decide +kernel
theorem dX7_sightOf_17 : decode cX7_sightOf 17 = .ok (.ifCond .ne 7, 3) := by decide +kernel
theorem dX7_sightOf_20 : decode cX7_sightOf 20 = .ok (.iconst 1, 1) := by decide +kernel
theorem dX7_sightOf_21 : decode cX7_sightOf 21 = .ok (.goto 4, 3) := by decide +kernel
theorem dX7_sightOf_24 : decode cX7_sightOf 24 = .ok (.iconst 0, 1) := by decide +kernel
theorem dX7_sightOf_25 : decode cX7_sightOf 25 = .ok (.istore 4, 2) := by decide +kernel
theorem dX7_sightOf_27 : decode cX7_sightOf 27 = .ok (.iload 4, 2) := by decide +kernel
theorem dX7_sightOf_29 : decode cX7_sightOf 29 = .ok (.ifCond .eq 28, 3) := by decide +kernel
theorem dX7_sightOf_32 : decode cX7_sightOf 32 = .ok (.aload_n 0, 1) := by decide +kernel
theorem dX7_sightOf_33 : decode cX7_sightOf 33 = .ok (.getfield 13, 3) := by decide +kernel
theorem dX7_sightOf_36 : decode cX7_sightOf 36 = .ok (.iload_n 2, 1) := by decide +kernel
theorem dX7_sightOf_37 : decode cX7_sightOf 37 = .ok (.iaload, 1) := by decide +kernel
theorem dX7_sightOf_38 : decode cX7_sightOf 38 = .ok (.aload_n 0, 1) := by decide +kernel
theorem dX7_sightOf_39 : decode cX7_sightOf 39 = .ok (.getfield 16, 3) := by decide +kernel
theorem dX7_sightOf_42 : decode cX7_sightOf 42 = .ok (.iconst 3, 1) := by decide +kernel
theorem dX7_sightOf_43 : decode cX7_sightOf 43 = .ok (.iload_n 2, 1) := by decide +kernel
theorem dX7_sightOf_44 : decode cX7_sightOf 44 = .ok (.imul, 1) := by decide +kernel
theorem dX7_sightOf_45 : decode cX7_sightOf 45 = .ok (.iload_n 3, 1) := by decide +kernel
theorem dX7_sightOf_46 : decode cX7_sightOf 46 = .ok (.iconst 3, 1) := by decide +kernel
theorem dX7_sightOf_47 : decode cX7_sightOf 47 = .ok (.irem, 1) := by decide +kernel
theorem dX7_sightOf_48 : decode cX7_sightOf 48 = .ok (.iadd, 1) := by decide +kernel
theorem dX7_sightOf_49 : decode cX7_sightOf 49 = .ok (.iaload, 1) := by decide +kernel
theorem dX7_sightOf_50 : decode cX7_sightOf 50 = .ok (.iload_n 3, 1) := by decide +kernel
theorem dX7_sightOf_51 : decode cX7_sightOf 51 = .ok (.invokestatic 102, 3) := by decide +kernel
theorem dX7_sightOf_54 : decode cX7_sightOf 54 = .ok (.goto 4, 3) := by decide +kernel
theorem dX7_sightOf_57 : decode cX7_sightOf 57 = .ok (.iconst 0, 1) := by decide +kernel
theorem dX7_sightOf_58 : decode cX7_sightOf 58 = .ok (.ireturn, 1) := by decide +kernel
theorem dX7_about_0 : decode cX7_about 0 = .ok (.aload_n 0, 1) := by decide +kernel
theorem dX7_about_1 : decode cX7_about 1 = .ok (.iconst 0, 1) := by decide +kernel
theorem dX7_about_2 : decode cX7_about 2 = .ok (.putfield 59, 3) := by decide +kernel
theorem dX7_about_5 : decode cX7_about 5 = .ok (.iload_n 1, 1) := by decide +kernel
theorem dX7_about_6 : decode cX7_about 6 = .ok (.tableswitch 116 0 9 #[54, 59, 66, 73, 80, 87, 94, 101, 106, 111], 54) := by decide +kernel
theorem dX7_about_60 : decode cX7_about 60 = .ok (.aload_n 0, 1) := by decide +kernel
theorem dX7_about_61 : decode cX7_about 61 = .ok (.getfield 63, 3) := by decide +kernel
theorem dX7_about_64 : decode cX7_about 64 = .ok (.ireturn, 1) := by decide +kernel
theorem dX7_about_65 : decode cX7_about 65 = .ok (.aload_n 0, 1) := by decide +kernel
theorem dX7_about_66 : decode cX7_about 66 = .ok (.getfield 22, 3) := by decide +kernel
theorem dX7_about_69 : decode cX7_about 69 = .ok (.iconst 0, 1) := by decide +kernel
theorem dX7_about_70 : decode cX7_about 70 = .ok (.iaload, 1) := by decide +kernel
theorem dX7_about_71 : decode cX7_about 71 = .ok (.ireturn, 1) := by decide +kernel
theorem dX7_about_72 : decode cX7_about 72 = .ok (.aload_n 0, 1) := by decide +kernel
theorem dX7_about_73 : decode cX7_about 73 = .ok (.getfield 22, 3) := by decide +kernel
theorem dX7_about_76 : decode cX7_about 76 = .ok (.iconst 1, 1) := by decide +kernel
theorem dX7_about_77 : decode cX7_about 77 = .ok (.iaload, 1) := by decide +kernel
theorem dX7_about_78 : decode cX7_about 78 = .ok (.ireturn, 1) := by decide +kernel
theorem dX7_about_79 : decode cX7_about 79 = .ok (.aload_n 0, 1) := by decide +kernel
theorem dX7_about_80 : decode cX7_about 80 = .ok (.getfield 22, 3) := by decide +kernel
theorem dX7_about_83 : decode cX7_about 83 = .ok (.iconst 2, 1) := by decide +kernel
theorem dX7_about_84 : decode cX7_about 84 = .ok (.iaload, 1) := by decide +kernel
theorem dX7_about_85 : decode cX7_about 85 = .ok (.ireturn, 1) := by decide +kernel
theorem dX7_about_86 : decode cX7_about 86 = .ok (.aload_n 0, 1) := by decide +kernel
theorem dX7_about_87 : decode cX7_about 87 = .ok (.getfield 22, 3) := by decide +kernel
theorem dX7_about_90 : decode cX7_about 90 = .ok (.iconst 3, 1) := by decide +kernel
theorem dX7_about_91 : decode cX7_about 91 = .ok (.iaload, 1) := by decide +kernel
theorem dX7_about_92 : decode cX7_about 92 = .ok (.ireturn, 1) := by decide +kernel
theorem dX7_about_93 : decode cX7_about 93 = .ok (.aload_n 0, 1) := by decide +kernel
theorem dX7_about_94 : decode cX7_about 94 = .ok (.getfield 22, 3) := by decide +kernel
theorem dX7_about_97 : decode cX7_about 97 = .ok (.iconst 4, 1) := by decide +kernel
theorem dX7_about_98 : decode cX7_about 98 = .ok (.iaload, 1) := by decide +kernel
theorem dX7_about_99 : decode cX7_about 99 = .ok (.ireturn, 1) := by decide +kernel
theorem dX7_about_100 : decode cX7_about 100 = .ok (.aload_n 0, 1) := by decide +kernel
theorem dX7_about_101 : decode cX7_about 101 = .ok (.getfield 22, 3) := by decide +kernel
theorem dX7_about_104 : decode cX7_about 104 = .ok (.iconst 5, 1) := by decide +kernel
theorem dX7_about_105 : decode cX7_about 105 = .ok (.iaload, 1) := by decide +kernel
theorem dX7_about_106 : decode cX7_about 106 = .ok (.ireturn, 1) := by decide +kernel
theorem dX7_about_107 : decode cX7_about 107 = .ok (.aload_n 0, 1) := by decide +kernel
theorem dX7_about_108 : decode cX7_about 108 = .ok (.getfield 95, 3) := by decide +kernel
theorem dX7_about_111 : decode cX7_about 111 = .ok (.ireturn, 1) := by decide +kernel
theorem dX7_about_112 : decode cX7_about 112 = .ok (.aload_n 0, 1) := by decide +kernel
theorem dX7_about_113 : decode cX7_about 113 = .ok (.getfield 106, 3) := by decide +kernel
theorem dX7_about_116 : decode cX7_about 116 = .ok (.ireturn, 1) := by decide +kernel
theorem dX7_about_117 : decode cX7_about 117 = .ok (.aload_n 0, 1) := by decide +kernel
theorem dX7_about_118 : decode cX7_about 118 = .ok (.getfield 72, 3) := by decide +kernel
theorem dX7_about_121 : decode cX7_about 121 = .ok (.ireturn, 1) := by decide +kernel
theorem dX7_about_122 : decode cX7_about 122 = .ok (.bipush (-2), 2) := by decide +kernel
theorem dX7_about_124 : decode cX7_about 124 = .ok (.ireturn, 1) := by decide +kernel
theorem dX7_house_0 : decode cX7_house 0 = .ok (.aload_n 0, 1) := by decide +kernel
theorem dX7_house_1 : decode cX7_house 1 = .ok (.iconst 0, 1) := by decide +kernel
theorem dX7_house_2 : decode cX7_house 2 = .ok (.putfield 59, 3) := by decide +kernel
theorem dX7_house_5 : decode cX7_house 5 = .ok (.aload_n 0, 1) := by decide +kernel
theorem dX7_house_6 : decode cX7_house 6 = .ok (.iload_n 1, 1) := by decide +kernel
theorem dX7_house_7 : decode cX7_house 7 = .ok (.invokevirtual 109, 3) := by decide +kernel
theorem dX7_house_10 : decode cX7_house 10 = .ok (.ifCond .eq 5, 3) := by decide +kernel
theorem dX7_house_13 : decode cX7_house 13 = .ok (.iconst (-1), 1) := by decide +kernel
theorem dX7_house_14 : decode cX7_house 14 = .ok (.ireturn, 1) := by decide +kernel
theorem dX7_house_15 : decode cX7_house 15 = .ok (.iload_n 2, 1) := by decide +kernel
theorem dX7_house_16 : decode cX7_house 16 = .ok (.ifCond .ne 10, 3) := by decide +kernel
theorem dX7_house_19 : decode cX7_house 19 = .ok (.aload_n 0, 1) := by decide +kernel
theorem dX7_house_20 : decode cX7_house 20 = .ok (.getfield 13, 3) := by decide +kernel
theorem dX7_house_23 : decode cX7_house 23 = .ok (.iload_n 1, 1) := by decide +kernel
theorem dX7_house_24 : decode cX7_house 24 = .ok (.iaload, 1) := by decide +kernel
theorem dX7_house_25 : decode cX7_house 25 = .ok (.ireturn, 1) := by decide +kernel
theorem dX7_house_26 : decode cX7_house 26 = .ok (.iload_n 2, 1) := by decide +kernel
theorem dX7_house_27 : decode cX7_house 27 = .ok (.i2l, 1) := by decide +kernel
theorem dX7_house_28 : decode cX7_house 28 = .ok (.lconst 1, 1) := by decide +kernel
theorem dX7_house_29 : decode cX7_house 29 = .ok (.ldc2_w 113, 3) := by decide +kernel
theorem dX7_house_32 : decode cX7_house 32 = .ok (.invokestatic 66, 3) := by decide +kernel
theorem dX7_house_35 : decode cX7_house 35 = .ok (.ifCond .eq 18, 3) := by decide +kernel
theorem dX7_house_38 : decode cX7_house 38 = .ok (.aload_n 0, 1) := by decide +kernel
theorem dX7_house_39 : decode cX7_house 39 = .ok (.getfield 16, 3) := by decide +kernel
theorem dX7_house_42 : decode cX7_house 42 = .ok (.iconst 3, 1) := by decide +kernel
theorem dX7_house_43 : decode cX7_house 43 = .ok (.iload_n 1, 1) := by decide +kernel
theorem dX7_house_44 : decode cX7_house 44 = .ok (.imul, 1) := by decide +kernel
theorem dX7_house_45 : decode cX7_house 45 = .ok (.iload_n 2, 1) := by decide +kernel
theorem dX7_house_46 : decode cX7_house 46 = .ok (.iadd, 1) := by decide +kernel
theorem dX7_house_47 : decode cX7_house 47 = .ok (.iconst 1, 1) := by decide +kernel
theorem dX7_house_48 : decode cX7_house 48 = .ok (.isub, 1) := by decide +kernel
theorem dX7_house_49 : decode cX7_house 49 = .ok (.iaload, 1) := by decide +kernel
theorem dX7_house_50 : decode cX7_house 50 = .ok (.goto 22, 3) := by decide +kernel
theorem dX7_house_53 : decode cX7_house 53 = .ok (.iload_n 2, 1) := by decide +kernel
theorem dX7_house_54 : decode cX7_house 54 = .ok (.iconst 4, 1) := by decide +kernel
theorem dX7_house_55 : decode cX7_house 55 = .ok (.if_icmp .ne 15, 3) := by decide +kernel
theorem dX7_house_58 : decode cX7_house 58 = .ok (.aload_n 0, 1) := by decide +kernel
theorem dX7_house_59 : decode cX7_house 59 = .ok (.getfield 22, 3) := by decide +kernel
theorem dX7_house_62 : decode cX7_house 62 = .ok (.bipush 6, 2) := by decide +kernel
theorem dX7_house_64 : decode cX7_house 64 = .ok (.iload_n 1, 1) := by decide +kernel
theorem dX7_house_65 : decode cX7_house 65 = .ok (.iadd, 1) := by decide +kernel
theorem dX7_house_66 : decode cX7_house 66 = .ok (.iaload, 1) := by decide +kernel
theorem dX7_house_67 : decode cX7_house 67 = .ok (.goto 5, 3) := by decide +kernel
theorem dX7_house_70 : decode cX7_house 70 = .ok (.bipush (-2), 2) := by decide +kernel
theorem dX7_house_72 : decode cX7_house 72 = .ok (.ireturn, 1) := by decide +kernel
theorem dX7_sight_0 : decode cX7_sight 0 = .ok (.aload_n 0, 1) := by decide +kernel
theorem dX7_sight_1 : decode cX7_sight 1 = .ok (.iconst 0, 1) := by decide +kernel
theorem dX7_sight_2 : decode cX7_sight 2 = .ok (.putfield 59, 3) := by decide +kernel
theorem dX7_sight_5 : decode cX7_sight 5 = .ok (.aload_n 0, 1) := by decide +kernel
theorem dX7_sight_6 : decode cX7_sight 6 = .ok (.iload_n 1, 1) := by decide +kernel
theorem dX7_sight_7 : decode cX7_sight 7 = .ok (.invokevirtual 109, 3) := by decide +kernel
theorem dX7_sight_10 : decode cX7_sight 10 = .ok (.ifCond .eq 5, 3) := by decide +kernel
theorem dX7_sight_13 : decode cX7_sight 13 = .ok (.iconst (-1), 1) := by decide +kernel
theorem dX7_sight_14 : decode cX7_sight 14 = .ok (.ireturn, 1) := by decide +kernel
theorem dX7_sight_15 : decode cX7_sight 15 = .ok (.iload_n 2, 1) := by decide +kernel
theorem dX7_sight_16 : decode cX7_sight 16 = .ok (.i2l, 1) := by decide +kernel
theorem dX7_sight_17 : decode cX7_sight 17 = .ok (.lconst 0, 1) := by decide +kernel
theorem dX7_sight_18 : decode cX7_sight 18 = .ok (.ldc2_w 115, 3) := by decide +kernel
theorem dX7_sight_21 : decode cX7_sight 21 = .ok (.invokestatic 66, 3) := by decide +kernel
theorem dX7_sight_24 : decode cX7_sight 24 = .ok (.ifCond .eq 16, 3) := by decide +kernel
theorem dX7_sight_27 : decode cX7_sight 27 = .ok (.aload_n 0, 1) := by decide +kernel
theorem dX7_sight_28 : decode cX7_sight 28 = .ok (.aload_n 0, 1) := by decide +kernel
theorem dX7_sight_29 : decode cX7_sight 29 = .ok (.getfield 22, 3) := by decide +kernel
theorem dX7_sight_32 : decode cX7_sight 32 = .ok (.iload_n 1, 1) := by decide +kernel
theorem dX7_sight_33 : decode cX7_sight 33 = .ok (.iload_n 2, 1) := by decide +kernel
theorem dX7_sight_34 : decode cX7_sight 34 = .ok (.invokevirtual 117, 3) := by decide +kernel
theorem dX7_sight_37 : decode cX7_sight 37 = .ok (.goto 5, 3) := by decide +kernel
theorem dX7_sight_40 : decode cX7_sight 40 = .ok (.bipush (-2), 2) := by decide +kernel
theorem dX7_sight_42 : decode cX7_sight 42 = .ok (.ireturn, 1) := by decide +kernel
theorem dX7_note_0 : decode cX7_note 0 = .ok (.aload_n 0, 1) := by decide +kernel
theorem dX7_note_1 : decode cX7_note 1 = .ok (.getfield 95, 3) := by decide +kernel
theorem dX7_note_4 : decode cX7_note 4 = .ok (.bipush 14, 2) := by decide +kernel
theorem dX7_note_6 : decode cX7_note 6 = .ok (.if_icmp .ne 43, 3) := by decide +kernel
theorem dX7_note_9 : decode cX7_note 9 = .ok (.iconst 0, 1) := by decide +kernel
theorem dX7_note_10 : decode cX7_note 10 = .ok (.istore_n 1, 1) := by decide +kernel
theorem dX7_note_11 : decode cX7_note 11 = .ok (.iload_n 1, 1) := by decide +kernel
theorem dX7_note_12 : decode cX7_note 12 = .ok (.sipush 156, 3) := by decide +kernel
theorem dX7_note_15 : decode cX7_note 15 = .ok (.if_icmp .ge 24, 3) := by decide +kernel
theorem dX7_note_18 : decode cX7_note 18 = .ok (.aload_n 0, 1) := by decide +kernel
theorem dX7_note_19 : decode cX7_note 19 = .ok (.getfield 31, 3) := by decide +kernel
theorem dX7_note_22 : decode cX7_note 22 = .ok (.iload_n 1, 1) := by decide +kernel
theorem dX7_note_23 : decode cX7_note 23 = .ok (.aload_n 0, 1) := by decide +kernel
theorem dX7_note_24 : decode cX7_note 24 = .ok (.getfield 31, 3) := by decide +kernel
theorem dX7_note_27 : decode cX7_note 27 = .ok (.iload_n 1, 1) := by decide +kernel
theorem dX7_note_28 : decode cX7_note 28 = .ok (.bipush 12, 2) := by decide +kernel
theorem dX7_note_30 : decode cX7_note 30 = .ok (.iadd, 1) := by decide +kernel
theorem dX7_note_31 : decode cX7_note 31 = .ok (.iaload, 1) := by decide +kernel
theorem dX7_note_32 : decode cX7_note 32 = .ok (.iastore, 1) := by decide +kernel
theorem dX7_note_33 : decode cX7_note 33 = .ok (.iinc 1 1, 3) := by decide +kernel
theorem dX7_note_36 : decode cX7_note 36 = .ok (.goto (-25), 3) := by decide +kernel
theorem dX7_note_39 : decode cX7_note 39 = .ok (.aload_n 0, 1) := by decide +kernel
theorem dX7_note_40 : decode cX7_note 40 = .ok (.dup, 1) := by decide +kernel
theorem dX7_note_41 : decode cX7_note 41 = .ok (.getfield 95, 3) := by decide +kernel
theorem dX7_note_44 : decode cX7_note 44 = .ok (.iconst 1, 1) := by decide +kernel
theorem dX7_note_45 : decode cX7_note 45 = .ok (.isub, 1) := by decide +kernel
theorem dX7_note_46 : decode cX7_note 46 = .ok (.putfield 95, 3) := by decide +kernel
theorem dX7_note_49 : decode cX7_note 49 = .ok (.iconst 0, 1) := by decide +kernel
theorem dX7_note_50 : decode cX7_note 50 = .ok (.istore_n 1, 1) := by decide +kernel
theorem dX7_note_51 : decode cX7_note 51 = .ok (.iload_n 1, 1) := by decide +kernel
theorem dX7_note_52 : decode cX7_note 52 = .ok (.bipush 12, 2) := by decide +kernel
theorem dX7_note_54 : decode cX7_note 54 = .ok (.if_icmp .ge 29, 3) := by decide +kernel
theorem dX7_note_57 : decode cX7_note 57 = .ok (.aload_n 0, 1) := by decide +kernel
theorem dX7_note_58 : decode cX7_note 58 = .ok (.getfield 31, 3) := by decide +kernel
theorem dX7_note_61 : decode cX7_note 61 = .ok (.bipush 12, 2) := by decide +kernel
theorem dX7_note_63 : decode cX7_note 63 = .ok (.aload_n 0, 1) := by decide +kernel
theorem dX7_note_64 : decode cX7_note 64 = .ok (.getfield 95, 3) := by decide +kernel
theorem dX7_note_67 : decode cX7_note 67 = .ok (.imul, 1) := by decide +kernel
theorem dX7_note_68 : decode cX7_note 68 = .ok (.iload_n 1, 1) := by decide +kernel
theorem dX7_note_69 : decode cX7_note 69 = .ok (.iadd, 1) := by decide +kernel
theorem dX7_note_70 : decode cX7_note 70 = .ok (.aload_n 0, 1) := by decide +kernel
theorem dX7_note_71 : decode cX7_note 71 = .ok (.getfield 22, 3) := by decide +kernel
theorem dX7_note_74 : decode cX7_note 74 = .ok (.iload_n 1, 1) := by decide +kernel
theorem dX7_note_75 : decode cX7_note 75 = .ok (.iaload, 1) := by decide +kernel
theorem dX7_note_76 : decode cX7_note 76 = .ok (.iastore, 1) := by decide +kernel
theorem dX7_note_77 : decode cX7_note 77 = .ok (.iinc 1 1, 3) := by decide +kernel
theorem dX7_note_80 : decode cX7_note 80 = .ok (.goto (-29), 3) := by decide +kernel
theorem dX7_note_83 : decode cX7_note 83 = .ok (.aload_n 0, 1) := by decide +kernel
theorem dX7_note_84 : decode cX7_note 84 = .ok (.dup, 1) := by decide +kernel
theorem dX7_note_85 : decode cX7_note 85 = .ok (.getfield 95, 3) := by decide +kernel
theorem dX7_note_88 : decode cX7_note 88 = .ok (.iconst 1, 1) := by decide +kernel
theorem dX7_note_89 : decode cX7_note 89 = .ok (.iadd, 1) := by decide +kernel
theorem dX7_note_90 : decode cX7_note 90 = .ok (.putfield 95, 3) := by decide +kernel
theorem dX7_note_93 : decode cX7_note 93 = .ok (.return_, 1) := by decide +kernel
theorem dX7_can_0 : decode cX7_can 0 = .ok (.iload_n 2, 1) := by decide +kernel
theorem dX7_can_1 : decode cX7_can 1 = .ok (.ifCond .ne 15, 3) := by decide +kernel
theorem dX7_can_4 : decode cX7_can 4 = .ok (.aload_n 1, 1) := by decide +kernel
theorem dX7_can_5 : decode cX7_can 5 = .ok (.iconst 0, 1) := by decide +kernel
theorem dX7_can_6 : decode cX7_can 6 = .ok (.iaload, 1) := by decide +kernel
theorem dX7_can_7 : decode cX7_can 7 = .ok (.ifCond .le 7, 3) := by decide +kernel
theorem dX7_can_10 : decode cX7_can 10 = .ok (.iconst 1, 1) := by decide +kernel
theorem dX7_can_11 : decode cX7_can 11 = .ok (.goto 4, 3) := by decide +kernel
theorem dX7_can_14 : decode cX7_can 14 = .ok (.iconst 0, 1) := by decide +kernel
theorem dX7_can_15 : decode cX7_can 15 = .ok (.ireturn, 1) := by decide +kernel
theorem dX7_can_16 : decode cX7_can 16 = .ok (.iload_n 2, 1) := by decide +kernel
theorem dX7_can_17 : decode cX7_can 17 = .ok (.iconst 1, 1) := by decide +kernel
theorem dX7_can_18 : decode cX7_can 18 = .ok (.if_icmp .ne 21, 3) := by decide +kernel
theorem dX7_can_21 : decode cX7_can 21 = .ok (.aload_n 1, 1) := by decide +kernel
theorem dX7_can_22 : decode cX7_can 22 = .ok (.iconst 0, 1) := by decide +kernel
theorem dX7_can_23 : decode cX7_can 23 = .ok (.iaload, 1) := by decide +kernel
theorem dX7_can_24 : decode cX7_can 24 = .ok (.iconst 1, 1) := by decide +kernel
theorem dX7_can_25 : decode cX7_can 25 = .ok (.iadd, 1) := by decide +kernel
theorem dX7_can_26 : decode cX7_can 26 = .ok (.aload_n 0, 1) := by decide +kernel
theorem dX7_can_27 : decode cX7_can 27 = .ok (.getfield 63, 3) := by decide +kernel
theorem dX7_can_30 : decode cX7_can 30 = .ok (.if_icmp .ge 7, 3) := by decide +kernel
theorem dX7_can_33 : decode cX7_can 33 = .ok (.iconst 1, 1) := by decide +kernel
theorem dX7_can_34 : decode cX7_can 34 = .ok (.goto 4, 3) := by decide +kernel
theorem dX7_can_37 : decode cX7_can 37 = .ok (.iconst 0, 1) := by decide +kernel
theorem dX7_can_38 : decode cX7_can 38 = .ok (.ireturn, 1) := by decide +kernel
theorem dX7_can_39 : decode cX7_can 39 = .ok (.iload_n 2, 1) := by decide +kernel
theorem dX7_can_40 : decode cX7_can 40 = .ok (.iconst 3, 1) := by decide +kernel
theorem dX7_can_41 : decode cX7_can 41 = .ok (.if_icmp .eq 16, 3) := by decide +kernel
theorem dX7_can_44 : decode cX7_can 44 = .ok (.aload_n 0, 1) := by decide +kernel
theorem dX7_can_45 : decode cX7_can 45 = .ok (.getfield 63, 3) := by decide +kernel
theorem dX7_can_48 : decode cX7_can 48 = .ok (.ifCond .le 13, 3) := by decide +kernel
theorem dX7_can_51 : decode cX7_can 51 = .ok (.aload_n 1, 1) := by decide +kernel
theorem dX7_can_52 : decode cX7_can 52 = .ok (.iconst 1, 1) := by decide +kernel
theorem dX7_can_53 : decode cX7_can 53 = .ok (.iaload, 1) := by decide +kernel
theorem dX7_can_54 : decode cX7_can 54 = .ok (.ifCond .le 7, 3) := by decide +kernel
theorem dX7_can_57 : decode cX7_can 57 = .ok (.iconst 1, 1) := by decide +kernel
theorem dX7_can_58 : decode cX7_can 58 = .ok (.goto 4, 3) := by decide +kernel
theorem dX7_can_61 : decode cX7_can 61 = .ok (.iconst 0, 1) := by decide +kernel
theorem dX7_can_62 : decode cX7_can 62 = .ok (.ireturn, 1) := by decide +kernel
theorem dX7_go_0 : decode cX7_go 0 = .ok (.iconst 0, 1) := by decide +kernel
theorem dX7_go_1 : decode cX7_go 1 = .ok (.istore_n 3, 1) := by decide +kernel
theorem dX7_go_2 : decode cX7_go 2 = .ok (.iload_n 2, 1) := by decide +kernel
theorem dX7_go_3 : decode cX7_go 3 = .ok (.iconst 2, 1) := by decide +kernel
theorem dX7_go_4 : decode cX7_go 4 = .ok (.if_icmp .ge 18, 3) := by decide +kernel
theorem dX7_go_7 : decode cX7_go 7 = .ok (.aload_n 1, 1) := by decide +kernel
theorem dX7_go_8 : decode cX7_go 8 = .ok (.iconst 0, 1) := by decide +kernel
theorem dX7_go_9 : decode cX7_go 9 = .ok (.dup2, 1) := by decide +kernel
theorem dX7_go_10 : decode cX7_go 10 = .ok (.iaload, 1) := by decide +kernel
theorem dX7_go_11 : decode cX7_go 11 = .ok (.iload_n 2, 1) := by decide +kernel
theorem dX7_go_12 : decode cX7_go 12 = .ok (.ifCond .ne 7, 3) := by decide +kernel
theorem dX7_go_15 : decode cX7_go 15 = .ok (.iconst (-1), 1) := by decide +kernel
theorem dX7_go_16 : decode cX7_go 16 = .ok (.goto 4, 3) := by decide +kernel
theorem dX7_go_19 : decode cX7_go 19 = .ok (.iconst 1, 1) := by decide +kernel
theorem dX7_go_20 : decode cX7_go 20 = .ok (.iadd, 1) := by decide +kernel
theorem dX7_go_21 : decode cX7_go 21 = .ok (.iastore, 1) := by decide +kernel
theorem dX7_go_22 : decode cX7_go 22 = .ok (.iload_n 2, 1) := by decide +kernel
theorem dX7_go_23 : decode cX7_go 23 = .ok (.iconst 2, 1) := by decide +kernel
theorem dX7_go_24 : decode cX7_go 24 = .ok (.if_icmp .ne 71, 3) := by decide +kernel
theorem dX7_go_27 : decode cX7_go 27 = .ok (.aload_n 1, 1) := by decide +kernel
theorem dX7_go_28 : decode cX7_go 28 = .ok (.iconst 0, 1) := by decide +kernel
theorem dX7_go_29 : decode cX7_go 29 = .ok (.iaload, 1) := by decide +kernel
theorem dX7_go_30 : decode cX7_go 30 = .ok (.istore 4, 2) := by decide +kernel
theorem dX7_go_32 : decode cX7_go 32 = .ok (.iconst 1, 1) := by decide +kernel
theorem dX7_go_33 : decode cX7_go 33 = .ok (.aload_n 1, 1) := by decide +kernel
theorem dX7_go_34 : decode cX7_go 34 = .ok (.iconst 2, 1) := by decide +kernel
theorem dX7_go_35 : decode cX7_go 35 = .ok (.iaload, 1) := by decide +kernel
theorem dX7_go_36 : decode cX7_go 36 = .ok (.iconst 3, 1) := by decide +kernel
theorem dX7_go_37 : decode cX7_go 37 = .ok (.irem, 1) := by decide +kernel
theorem dX7_go_38 : decode cX7_go 38 = .ok (.ishl, 1) := by decide +kernel
theorem dX7_go_39 : decode cX7_go 39 = .ok (.istore 5, 2) := by decide +kernel
theorem dX7_go_41 : decode cX7_go 41 = .ok (.aload_n 1, 1) := by decide +kernel
theorem dX7_go_42 : decode cX7_go 42 = .ok (.bipush 6, 2) := by decide +kernel
theorem dX7_go_44 : decode cX7_go 44 = .ok (.iload 4, 2) := by decide +kernel
theorem dX7_go_46 : decode cX7_go 46 = .ok (.iadd, 1) := by decide +kernel
theorem dX7_go_47 : decode cX7_go 47 = .ok (.iaload, 1) := by decide +kernel
theorem dX7_go_48 : decode cX7_go 48 = .ok (.iload 5, 2) := by decide +kernel
theorem dX7_go_50 : decode cX7_go 50 = .ok (.iand, 1) := by decide +kernel
theorem dX7_go_51 : decode cX7_go 51 = .ok (.ifCond .ne 16, 3) := by decide +kernel
theorem dX7_go_54 : decode cX7_go 54 = .ok (.aload_n 0, 1) := by decide +kernel
theorem dX7_go_55 : decode cX7_go 55 = .ok (.aload_n 1, 1) := by decide +kernel
theorem dX7_go_56 : decode cX7_go 56 = .ok (.iload 4, 2) := by decide +kernel
theorem dX7_go_58 : decode cX7_go 58 = .ok (.aload_n 1, 1) := by decide +kernel
theorem dX7_go_59 : decode cX7_go 59 = .ok (.iconst 2, 1) := by decide +kernel
theorem dX7_go_60 : decode cX7_go 60 = .ok (.iaload, 1) := by decide +kernel
theorem dX7_go_61 : decode cX7_go 61 = .ok (.invokevirtual 117, 3) := by decide +kernel
theorem dX7_go_64 : decode cX7_go 64 = .ok (.goto 4, 3) := by decide +kernel
theorem dX7_go_67 : decode cX7_go 67 = .ok (.iconst 0, 1) := by decide +kernel
theorem dX7_go_68 : decode cX7_go 68 = .ok (.istore_n 3, 1) := by decide +kernel
theorem dX7_go_69 : decode cX7_go 69 = .ok (.aload_n 1, 1) := by decide +kernel
theorem dX7_go_70 : decode cX7_go 70 = .ok (.bipush 6, 2) := by decide +kernel
theorem dX7_go_72 : decode cX7_go 72 = .ok (.iload 4, 2) := by decide +kernel
theorem dX7_go_74 : decode cX7_go 74 = .ok (.iadd, 1) := by decide +kernel
theorem dX7_go_75 : decode cX7_go 75 = .ok (.dup2, 1) := by decide +kernel
theorem dX7_go_76 : decode cX7_go 76 = .ok (.iaload, 1) := by decide +kernel
theorem dX7_go_77 : decode cX7_go 77 = .ok (.iload 5, 2) := by decide +kernel
theorem dX7_go_79 : decode cX7_go 79 = .ok (.ior, 1) := by decide +kernel
theorem dX7_go_80 : decode cX7_go 80 = .ok (.iastore, 1) := by decide +kernel
theorem dX7_go_81 : decode cX7_go 81 = .ok (.aload_n 1, 1) := by decide +kernel
theorem dX7_go_82 : decode cX7_go 82 = .ok (.iconst 1, 1) := by decide +kernel
theorem dX7_go_83 : decode cX7_go 83 = .ok (.dup2, 1) := by decide +kernel
theorem dX7_go_84 : decode cX7_go 84 = .ok (.iaload, 1) := by decide +kernel
theorem dX7_go_85 : decode cX7_go 85 = .ok (.iconst 1, 1) := by decide +kernel
theorem dX7_go_86 : decode cX7_go 86 = .ok (.isub, 1) := by decide +kernel
theorem dX7_go_87 : decode cX7_go 87 = .ok (.iastore, 1) := by decide +kernel
theorem dX7_go_88 : decode cX7_go 88 = .ok (.aload_n 1, 1) := by decide +kernel
theorem dX7_go_89 : decode cX7_go 89 = .ok (.iconst 3, 1) := by decide +kernel
theorem dX7_go_90 : decode cX7_go 90 = .ok (.dup2, 1) := by decide +kernel
theorem dX7_go_91 : decode cX7_go 91 = .ok (.iaload, 1) := by decide +kernel
theorem dX7_go_92 : decode cX7_go 92 = .ok (.iload_n 3, 1) := by decide +kernel
theorem dX7_go_93 : decode cX7_go 93 = .ok (.iadd, 1) := by decide +kernel
theorem dX7_go_94 : decode cX7_go 94 = .ok (.iastore, 1) := by decide +kernel
theorem dX7_go_95 : decode cX7_go 95 = .ok (.aload_n 1, 1) := by decide +kernel
theorem dX7_go_96 : decode cX7_go 96 = .ok (.iconst 2, 1) := by decide +kernel
theorem dX7_go_97 : decode cX7_go 97 = .ok (.dup2, 1) := by decide +kernel
theorem dX7_go_98 : decode cX7_go 98 = .ok (.iaload, 1) := by decide +kernel
theorem dX7_go_99 : decode cX7_go 99 = .ok (.iconst 1, 1) := by decide +kernel
theorem dX7_go_100 : decode cX7_go 100 = .ok (.iadd, 1) := by decide +kernel
theorem dX7_go_101 : decode cX7_go 101 = .ok (.iastore, 1) := by decide +kernel
theorem dX7_go_102 : decode cX7_go 102 = .ok (.iload_n 3, 1) := by decide +kernel
theorem dX7_go_103 : decode cX7_go 103 = .ok (.ireturn, 1) := by decide +kernel
theorem dX7_walk_0 : decode cX7_walk 0 = .ok (.aload_n 0, 1) := by decide +kernel
theorem dX7_walk_1 : decode cX7_walk 1 = .ok (.iconst 0, 1) := by decide +kernel
theorem dX7_walk_2 : decode cX7_walk 2 = .ok (.putfield 59, 3) := by decide +kernel
theorem dX7_walk_5 : decode cX7_walk 5 = .ok (.iload_n 1, 1) := by decide +kernel
theorem dX7_walk_6 : decode cX7_walk 6 = .ok (.i2l, 1) := by decide +kernel
theorem dX7_walk_7 : decode cX7_walk 7 = .ok (.lconst 0, 1) := by decide +kernel
theorem dX7_walk_8 : decode cX7_walk 8 = .ok (.lconst 1, 1) := by decide +kernel
theorem dX7_walk_9 : decode cX7_walk 9 = .ok (.invokestatic 66, 3) := by decide +kernel
theorem dX7_walk_12 : decode cX7_walk 12 = .ok (.ifCond .ne 6, 3) := by decide +kernel
theorem dX7_walk_15 : decode cX7_walk 15 = .ok (.bipush (-2), 2) := by decide +kernel
theorem dX7_walk_17 : decode cX7_walk 17 = .ok (.ireturn, 1) := by decide +kernel
theorem dX7_walk_18 : decode cX7_walk 18 = .ok (.aload_n 0, 1) := by decide +kernel
theorem dX7_walk_19 : decode cX7_walk 19 = .ok (.aload_n 0, 1) := by decide +kernel
theorem dX7_walk_20 : decode cX7_walk 20 = .ok (.getfield 22, 3) := by decide +kernel
theorem dX7_walk_23 : decode cX7_walk 23 = .ok (.iload_n 1, 1) := by decide +kernel
theorem dX7_walk_24 : decode cX7_walk 24 = .ok (.invokevirtual 121, 3) := by decide +kernel
theorem dX7_walk_27 : decode cX7_walk 27 = .ok (.ifCond .ne 6, 3) := by decide +kernel
theorem dX7_walk_30 : decode cX7_walk 30 = .ok (.bipush (-3), 2) := by decide +kernel
theorem dX7_walk_32 : decode cX7_walk 32 = .ok (.ireturn, 1) := by decide +kernel
theorem dX7_walk_33 : decode cX7_walk 33 = .ok (.aload_n 0, 1) := by decide +kernel
theorem dX7_walk_34 : decode cX7_walk 34 = .ok (.invokevirtual 125, 3) := by decide +kernel
theorem dX7_walk_37 : decode cX7_walk 37 = .ok (.aload_n 0, 1) := by decide +kernel
theorem dX7_walk_38 : decode cX7_walk 38 = .ok (.aload_n 0, 1) := by decide +kernel
theorem dX7_walk_39 : decode cX7_walk 39 = .ok (.getfield 22, 3) := by decide +kernel
theorem dX7_walk_42 : decode cX7_walk 42 = .ok (.iload_n 1, 1) := by decide +kernel
theorem dX7_walk_43 : decode cX7_walk 43 = .ok (.invokevirtual 128, 3) := by decide +kernel
theorem dX7_walk_46 : decode cX7_walk 46 = .ok (.pop, 1) := by decide +kernel
theorem dX7_walk_47 : decode cX7_walk 47 = .ok (.aload_n 0, 1) := by decide +kernel
theorem dX7_walk_48 : decode cX7_walk 48 = .ok (.getfield 22, 3) := by decide +kernel
theorem dX7_walk_51 : decode cX7_walk 51 = .ok (.iconst 0, 1) := by decide +kernel
theorem dX7_walk_52 : decode cX7_walk 52 = .ok (.iaload, 1) := by decide +kernel
theorem dX7_walk_53 : decode cX7_walk 53 = .ok (.ireturn, 1) := by decide +kernel
theorem dX7_look_0 : decode cX7_look 0 = .ok (.aload_n 0, 1) := by decide +kernel
theorem dX7_look_1 : decode cX7_look 1 = .ok (.iconst 0, 1) := by decide +kernel
theorem dX7_look_2 : decode cX7_look 2 = .ok (.putfield 59, 3) := by decide +kernel
theorem dX7_look_5 : decode cX7_look 5 = .ok (.aload_n 0, 1) := by decide +kernel
theorem dX7_look_6 : decode cX7_look 6 = .ok (.aload_n 0, 1) := by decide +kernel
theorem dX7_look_7 : decode cX7_look 7 = .ok (.getfield 22, 3) := by decide +kernel
theorem dX7_look_10 : decode cX7_look 10 = .ok (.iconst 2, 1) := by decide +kernel
theorem dX7_look_11 : decode cX7_look 11 = .ok (.invokevirtual 121, 3) := by decide +kernel
theorem dX7_look_14 : decode cX7_look 14 = .ok (.ifCond .ne 6, 3) := by decide +kernel
theorem dX7_look_17 : decode cX7_look 17 = .ok (.bipush (-3), 2) := by decide +kernel
theorem dX7_look_19 : decode cX7_look 19 = .ok (.ireturn, 1) := by decide +kernel
theorem dX7_look_20 : decode cX7_look 20 = .ok (.aload_n 0, 1) := by decide +kernel
theorem dX7_look_21 : decode cX7_look 21 = .ok (.invokevirtual 125, 3) := by decide +kernel
theorem dX7_look_24 : decode cX7_look 24 = .ok (.aload_n 0, 1) := by decide +kernel
theorem dX7_look_25 : decode cX7_look 25 = .ok (.aload_n 0, 1) := by decide +kernel
theorem dX7_look_26 : decode cX7_look 26 = .ok (.getfield 22, 3) := by decide +kernel
theorem dX7_look_29 : decode cX7_look 29 = .ok (.iconst 2, 1) := by decide +kernel
theorem dX7_look_30 : decode cX7_look 30 = .ok (.invokevirtual 128, 3) := by decide +kernel
theorem dX7_look_33 : decode cX7_look 33 = .ok (.ireturn, 1) := by decide +kernel
theorem dX7_pause_0 : decode cX7_pause 0 = .ok (.aload_n 0, 1) := by decide +kernel
theorem dX7_pause_1 : decode cX7_pause 1 = .ok (.iconst 0, 1) := by decide +kernel
theorem dX7_pause_2 : decode cX7_pause 2 = .ok (.putfield 59, 3) := by decide +kernel
theorem dX7_pause_5 : decode cX7_pause 5 = .ok (.aload_n 0, 1) := by decide +kernel
theorem dX7_pause_6 : decode cX7_pause 6 = .ok (.invokevirtual 125, 3) := by decide +kernel
theorem dX7_pause_9 : decode cX7_pause 9 = .ok (.aload_n 0, 1) := by decide +kernel
theorem dX7_pause_10 : decode cX7_pause 10 = .ok (.aload_n 0, 1) := by decide +kernel
theorem dX7_pause_11 : decode cX7_pause 11 = .ok (.getfield 22, 3) := by decide +kernel
theorem dX7_pause_14 : decode cX7_pause 14 = .ok (.iconst 3, 1) := by decide +kernel
theorem dX7_pause_15 : decode cX7_pause 15 = .ok (.invokevirtual 128, 3) := by decide +kernel
theorem dX7_pause_18 : decode cX7_pause 18 = .ok (.pop, 1) := by decide +kernel
theorem dX7_pause_19 : decode cX7_pause 19 = .ok (.aload_n 0, 1) := by decide +kernel
theorem dX7_pause_20 : decode cX7_pause 20 = .ok (.getfield 22, 3) := by decide +kernel
theorem dX7_pause_23 : decode cX7_pause 23 = .ok (.iconst 2, 1) := by decide +kernel
theorem dX7_pause_24 : decode cX7_pause 24 = .ok (.iaload, 1) := by decide +kernel
theorem dX7_pause_25 : decode cX7_pause 25 = .ok (.ireturn, 1) := by decide +kernel
theorem dX7_lamp_0 : decode cX7_lamp 0 = .ok (.aload_n 0, 1) := by decide +kernel
theorem dX7_lamp_1 : decode cX7_lamp 1 = .ok (.iconst 0, 1) := by decide +kernel
theorem dX7_lamp_2 : decode cX7_lamp 2 = .ok (.putfield 59, 3) := by decide +kernel
theorem dX7_lamp_5 : decode cX7_lamp 5 = .ok (.aload_n 0, 1) := by decide +kernel
theorem dX7_lamp_6 : decode cX7_lamp 6 = .ok (.iload_n 1, 1) := by decide +kernel
theorem dX7_lamp_7 : decode cX7_lamp 7 = .ok (.invokevirtual 109, 3) := by decide +kernel
theorem dX7_lamp_10 : decode cX7_lamp 10 = .ok (.ifCond .eq 5, 3) := by decide +kernel
theorem dX7_lamp_13 : decode cX7_lamp 13 = .ok (.iconst (-1), 1) := by decide +kernel
theorem dX7_lamp_14 : decode cX7_lamp 14 = .ok (.ireturn, 1) := by decide +kernel
theorem dX7_lamp_15 : decode cX7_lamp 15 = .ok (.aload_n 0, 1) := by decide +kernel
theorem dX7_lamp_16 : decode cX7_lamp 16 = .ok (.invokevirtual 125, 3) := by decide +kernel
theorem dX7_lamp_19 : decode cX7_lamp 19 = .ok (.aload_n 0, 1) := by decide +kernel
theorem dX7_lamp_20 : decode cX7_lamp 20 = .ok (.getfield 22, 3) := by decide +kernel
theorem dX7_lamp_23 : decode cX7_lamp 23 = .ok (.iconst 4, 1) := by decide +kernel
theorem dX7_lamp_24 : decode cX7_lamp 24 = .ok (.dup2, 1) := by decide +kernel
theorem dX7_lamp_25 : decode cX7_lamp 25 = .ok (.iaload, 1) := by decide +kernel
theorem dX7_lamp_26 : decode cX7_lamp 26 = .ok (.iconst 1, 1) := by decide +kernel
theorem dX7_lamp_27 : decode cX7_lamp 27 = .ok (.iload_n 1, 1) := by decide +kernel
theorem dX7_lamp_28 : decode cX7_lamp 28 = .ok (.ishl, 1) := by decide +kernel
theorem dX7_lamp_29 : decode cX7_lamp 29 = .ok (.ixor, 1) := by decide +kernel
theorem dX7_lamp_30 : decode cX7_lamp 30 = .ok (.iastore, 1) := by decide +kernel
theorem dX7_lamp_31 : decode cX7_lamp 31 = .ok (.aload_n 0, 1) := by decide +kernel
theorem dX7_lamp_32 : decode cX7_lamp 32 = .ok (.getfield 22, 3) := by decide +kernel
theorem dX7_lamp_35 : decode cX7_lamp 35 = .ok (.iconst 4, 1) := by decide +kernel
theorem dX7_lamp_36 : decode cX7_lamp 36 = .ok (.iaload, 1) := by decide +kernel
theorem dX7_lamp_37 : decode cX7_lamp 37 = .ok (.iload_n 1, 1) := by decide +kernel
theorem dX7_lamp_38 : decode cX7_lamp 38 = .ok (.ishr, 1) := by decide +kernel
theorem dX7_lamp_39 : decode cX7_lamp 39 = .ok (.iconst 1, 1) := by decide +kernel
theorem dX7_lamp_40 : decode cX7_lamp 40 = .ok (.iand, 1) := by decide +kernel
theorem dX7_lamp_41 : decode cX7_lamp 41 = .ok (.ireturn, 1) := by decide +kernel
theorem dX7_key_0 : decode cX7_key 0 = .ok (.aload_n 0, 1) := by decide +kernel
theorem dX7_key_1 : decode cX7_key 1 = .ok (.iconst 0, 1) := by decide +kernel
theorem dX7_key_2 : decode cX7_key 2 = .ok (.putfield 59, 3) := by decide +kernel
theorem dX7_key_5 : decode cX7_key 5 = .ok (.aload_n 0, 1) := by decide +kernel
theorem dX7_key_6 : decode cX7_key 6 = .ok (.iload_n 1, 1) := by decide +kernel
theorem dX7_key_7 : decode cX7_key 7 = .ok (.invokevirtual 109, 3) := by decide +kernel
theorem dX7_key_10 : decode cX7_key 10 = .ok (.ifCond .eq 5, 3) := by decide +kernel
theorem dX7_key_13 : decode cX7_key 13 = .ok (.iconst (-1), 1) := by decide +kernel
theorem dX7_key_14 : decode cX7_key 14 = .ok (.ireturn, 1) := by decide +kernel
theorem dX7_key_15 : decode cX7_key 15 = .ok (.aload_n 0, 1) := by decide +kernel
theorem dX7_key_16 : decode cX7_key 16 = .ok (.invokevirtual 125, 3) := by decide +kernel
theorem dX7_key_19 : decode cX7_key 19 = .ok (.aload_n 0, 1) := by decide +kernel
theorem dX7_key_20 : decode cX7_key 20 = .ok (.getfield 22, 3) := by decide +kernel
theorem dX7_key_23 : decode cX7_key 23 = .ok (.iconst 5, 1) := by decide +kernel
theorem dX7_key_24 : decode cX7_key 24 = .ok (.dup2, 1) := by decide +kernel
theorem dX7_key_25 : decode cX7_key 25 = .ok (.iaload, 1) := by decide +kernel
theorem dX7_key_26 : decode cX7_key 26 = .ok (.iconst 1, 1) := by decide +kernel
theorem dX7_key_27 : decode cX7_key 27 = .ok (.iload_n 1, 1) := by decide +kernel
theorem dX7_key_28 : decode cX7_key 28 = .ok (.ishl, 1) := by decide +kernel
theorem dX7_key_29 : decode cX7_key 29 = .ok (.ixor, 1) := by decide +kernel
theorem dX7_key_30 : decode cX7_key 30 = .ok (.iastore, 1) := by decide +kernel
theorem dX7_key_31 : decode cX7_key 31 = .ok (.aload_n 0, 1) := by decide +kernel
theorem dX7_key_32 : decode cX7_key 32 = .ok (.getfield 22, 3) := by decide +kernel
theorem dX7_key_35 : decode cX7_key 35 = .ok (.iconst 5, 1) := by decide +kernel
theorem dX7_key_36 : decode cX7_key 36 = .ok (.iaload, 1) := by decide +kernel
theorem dX7_key_37 : decode cX7_key 37 = .ok (.iload_n 1, 1) := by decide +kernel
theorem dX7_key_38 : decode cX7_key 38 = .ok (.ishr, 1) := by decide +kernel
theorem dX7_key_39 : decode cX7_key 39 = .ok (.iconst 1, 1) := by decide +kernel
theorem dX7_key_40 : decode cX7_key 40 = .ok (.iand, 1) := by decide +kernel
theorem dX7_key_41 : decode cX7_key 41 = .ok (.ireturn, 1) := by decide +kernel
theorem dX7_undo_0 : decode cX7_undo 0 = .ok (.aload_n 0, 1) := by decide +kernel
theorem dX7_undo_1 : decode cX7_undo 1 = .ok (.iconst 0, 1) := by decide +kernel
theorem dX7_undo_2 : decode cX7_undo 2 = .ok (.putfield 59, 3) := by decide +kernel
theorem dX7_undo_5 : decode cX7_undo 5 = .ok (.aload_n 0, 1) := by decide +kernel
theorem dX7_undo_6 : decode cX7_undo 6 = .ok (.getfield 95, 3) := by decide +kernel
theorem dX7_undo_9 : decode cX7_undo 9 = .ok (.ifCond .ne 6, 3) := by decide +kernel
theorem dX7_undo_12 : decode cX7_undo 12 = .ok (.bipush (-3), 2) := by decide +kernel
theorem dX7_undo_14 : decode cX7_undo 14 = .ok (.ireturn, 1) := by decide +kernel
theorem dX7_undo_15 : decode cX7_undo 15 = .ok (.aload_n 0, 1) := by decide +kernel
theorem dX7_undo_16 : decode cX7_undo 16 = .ok (.dup, 1) := by decide +kernel
theorem dX7_undo_17 : decode cX7_undo 17 = .ok (.getfield 95, 3) := by decide +kernel
theorem dX7_undo_20 : decode cX7_undo 20 = .ok (.iconst 1, 1) := by decide +kernel
theorem dX7_undo_21 : decode cX7_undo 21 = .ok (.isub, 1) := by decide +kernel
theorem dX7_undo_22 : decode cX7_undo 22 = .ok (.putfield 95, 3) := by decide +kernel
theorem dX7_undo_25 : decode cX7_undo 25 = .ok (.iconst 0, 1) := by decide +kernel
theorem dX7_undo_26 : decode cX7_undo 26 = .ok (.istore_n 1, 1) := by decide +kernel
theorem dX7_undo_27 : decode cX7_undo 27 = .ok (.iload_n 1, 1) := by decide +kernel
theorem dX7_undo_28 : decode cX7_undo 28 = .ok (.bipush 12, 2) := by decide +kernel
theorem dX7_undo_30 : decode cX7_undo 30 = .ok (.if_icmp .ge 29, 3) := by decide +kernel
theorem dX7_undo_33 : decode cX7_undo 33 = .ok (.aload_n 0, 1) := by decide +kernel
theorem dX7_undo_34 : decode cX7_undo 34 = .ok (.getfield 22, 3) := by decide +kernel
theorem dX7_undo_37 : decode cX7_undo 37 = .ok (.iload_n 1, 1) := by decide +kernel
theorem dX7_undo_38 : decode cX7_undo 38 = .ok (.aload_n 0, 1) := by decide +kernel
theorem dX7_undo_39 : decode cX7_undo 39 = .ok (.getfield 31, 3) := by decide +kernel
theorem dX7_undo_42 : decode cX7_undo 42 = .ok (.bipush 12, 2) := by decide +kernel
theorem dX7_undo_44 : decode cX7_undo 44 = .ok (.aload_n 0, 1) := by decide +kernel
theorem dX7_undo_45 : decode cX7_undo 45 = .ok (.getfield 95, 3) := by decide +kernel
theorem dX7_undo_48 : decode cX7_undo 48 = .ok (.imul, 1) := by decide +kernel
theorem dX7_undo_49 : decode cX7_undo 49 = .ok (.iload_n 1, 1) := by decide +kernel
theorem dX7_undo_50 : decode cX7_undo 50 = .ok (.iadd, 1) := by decide +kernel
theorem dX7_undo_51 : decode cX7_undo 51 = .ok (.iaload, 1) := by decide +kernel
theorem dX7_undo_52 : decode cX7_undo 52 = .ok (.iastore, 1) := by decide +kernel
theorem dX7_undo_53 : decode cX7_undo 53 = .ok (.iinc 1 1, 3) := by decide +kernel
theorem dX7_undo_56 : decode cX7_undo 56 = .ok (.goto (-29), 3) := by decide +kernel
theorem dX7_undo_59 : decode cX7_undo 59 = .ok (.aload_n 0, 1) := by decide +kernel
theorem dX7_undo_60 : decode cX7_undo 60 = .ok (.getfield 95, 3) := by decide +kernel
theorem dX7_undo_63 : decode cX7_undo 63 = .ok (.ireturn, 1) := by decide +kernel
theorem dX7_copy_0 : decode cX7_copy 0 = .ok (.iconst 0, 1) := by decide +kernel
theorem dX7_copy_1 : decode cX7_copy 1 = .ok (.istore_n 2, 1) := by decide +kernel
theorem dX7_copy_2 : decode cX7_copy 2 = .ok (.iload_n 2, 1) := by decide +kernel
theorem dX7_copy_3 : decode cX7_copy 3 = .ok (.bipush 12, 2) := by decide +kernel
theorem dX7_copy_5 : decode cX7_copy 5 = .ok (.if_icmp .ge 15, 3) := by decide +kernel
theorem dX7_copy_8 : decode cX7_copy 8 = .ok (.aload_n 1, 1) := by decide +kernel
theorem dX7_copy_9 : decode cX7_copy 9 = .ok (.iload_n 2, 1) := by decide +kernel
theorem dX7_copy_10 : decode cX7_copy 10 = .ok (.aload_n 0, 1) := by decide +kernel
theorem dX7_copy_11 : decode cX7_copy 11 = .ok (.iload_n 2, 1) := by decide +kernel
theorem dX7_copy_12 : decode cX7_copy 12 = .ok (.iaload, 1) := by decide +kernel
theorem dX7_copy_13 : decode cX7_copy 13 = .ok (.iastore, 1) := by decide +kernel
theorem dX7_copy_14 : decode cX7_copy 14 = .ok (.iinc 2 1, 3) := by decide +kernel
theorem dX7_copy_17 : decode cX7_copy 17 = .ok (.goto (-15), 3) := by decide +kernel
theorem dX7_copy_20 : decode cX7_copy 20 = .ok (.return_, 1) := by decide +kernel
theorem dX7_power_0 : decode cX7_power 0 = .ok (.iconst 1, 1) := by decide +kernel
theorem dX7_power_1 : decode cX7_power 1 = .ok (.istore_n 2, 1) := by decide +kernel
theorem dX7_power_2 : decode cX7_power 2 = .ok (.iconst 0, 1) := by decide +kernel
theorem dX7_power_3 : decode cX7_power 3 = .ok (.istore_n 3, 1) := by decide +kernel
theorem dX7_power_4 : decode cX7_power 4 = .ok (.iload_n 3, 1) := by decide +kernel
theorem dX7_power_5 : decode cX7_power 5 = .ok (.iload_n 1, 1) := by decide +kernel
theorem dX7_power_6 : decode cX7_power 6 = .ok (.if_icmp .ge 13, 3) := by decide +kernel
theorem dX7_power_9 : decode cX7_power 9 = .ok (.iload_n 2, 1) := by decide +kernel
theorem dX7_power_10 : decode cX7_power 10 = .ok (.iload_n 0, 1) := by decide +kernel
theorem dX7_power_11 : decode cX7_power 11 = .ok (.imul, 1) := by decide +kernel
theorem dX7_power_12 : decode cX7_power 12 = .ok (.istore_n 2, 1) := by decide +kernel
theorem dX7_power_13 : decode cX7_power 13 = .ok (.iinc 3 1, 3) := by decide +kernel
theorem dX7_power_16 : decode cX7_power 16 = .ok (.goto (-12), 3) := by decide +kernel
theorem dX7_power_19 : decode cX7_power 19 = .ok (.iload_n 2, 1) := by decide +kernel
theorem dX7_power_20 : decode cX7_power 20 = .ok (.ireturn, 1) := by decide +kernel
theorem dX7_findBest_0 : decode cX7_findBest 0 = .ok (.aload_n 0, 1) := by decide +kernel
theorem dX7_findBest_1 : decode cX7_findBest 1 = .ok (.bipush (-9), 2) := by decide +kernel
theorem dX7_findBest_3 : decode cX7_findBest 3 = .ok (.putfield 132, 3) := by decide +kernel
theorem dX7_findBest_6 : decode cX7_findBest 6 = .ok (.aload_n 0, 1) := by decide +kernel
theorem dX7_findBest_7 : decode cX7_findBest 7 = .ok (.bipush (-9), 2) := by decide +kernel
theorem dX7_findBest_9 : decode cX7_findBest 9 = .ok (.putfield 135, 3) := by decide +kernel
theorem dX7_findBest_12 : decode cX7_findBest 12 = .ok (.iconst 0, 1) := by decide +kernel
theorem dX7_findBest_13 : decode cX7_findBest 13 = .ok (.istore_n 2, 1) := by decide +kernel
theorem dX7_findBest_14 : decode cX7_findBest 14 = .ok (.iload_n 2, 1) := by decide +kernel
theorem dX7_findBest_15 : decode cX7_findBest 15 = .ok (.iconst 4, 1) := by decide +kernel
theorem dX7_findBest_16 : decode cX7_findBest 16 = .ok (.iload_n 1, 1) := by decide +kernel
theorem dX7_findBest_17 : decode cX7_findBest 17 = .ok (.invokestatic 138, 3) := by decide +kernel
theorem dX7_findBest_20 : decode cX7_findBest 20 = .ok (.if_icmp .ge 134, 3) := by decide +kernel
theorem dX7_findBest_23 : decode cX7_findBest 23 = .ok (.aload_n 0, 1) := by decide +kernel
theorem dX7_findBest_24 : decode cX7_findBest 24 = .ok (.getfield 28, 3) := by decide +kernel
theorem dX7_findBest_27 : decode cX7_findBest 27 = .ok (.aload_n 0, 1) := by decide +kernel
theorem dX7_findBest_28 : decode cX7_findBest 28 = .ok (.getfield 25, 3) := by decide +kernel
theorem dX7_findBest_31 : decode cX7_findBest 31 = .ok (.invokestatic 142, 3) := by decide +kernel
theorem dX7_findBest_34 : decode cX7_findBest 34 = .ok (.iconst 1, 1) := by decide +kernel
theorem dX7_findBest_35 : decode cX7_findBest 35 = .ok (.istore_n 3, 1) := by decide +kernel
theorem dX7_findBest_36 : decode cX7_findBest 36 = .ok (.iconst 1, 1) := by decide +kernel
theorem dX7_findBest_37 : decode cX7_findBest 37 = .ok (.istore 4, 2) := by decide +kernel
theorem dX7_findBest_39 : decode cX7_findBest 39 = .ok (.iload_n 1, 1) := by decide +kernel
theorem dX7_findBest_40 : decode cX7_findBest 40 = .ok (.iconst 1, 1) := by decide +kernel
theorem dX7_findBest_41 : decode cX7_findBest 41 = .ok (.isub, 1) := by decide +kernel
theorem dX7_findBest_42 : decode cX7_findBest 42 = .ok (.istore 5, 2) := by decide +kernel
theorem dX7_findBest_44 : decode cX7_findBest 44 = .ok (.iload 5, 2) := by decide +kernel
theorem dX7_findBest_46 : decode cX7_findBest 46 = .ok (.ifCond .lt 62, 3) := by decide +kernel
theorem dX7_findBest_49 : decode cX7_findBest 49 = .ok (.iload 4, 2) := by decide +kernel
theorem dX7_findBest_51 : decode cX7_findBest 51 = .ok (.ifCond .eq 57, 3) := by decide +kernel
theorem dX7_findBest_54 : decode cX7_findBest 54 = .ok (.iload_n 2, 1) := by decide +kernel
theorem dX7_findBest_55 : decode cX7_findBest 55 = .ok (.iconst 4, 1) := by decide +kernel
theorem dX7_findBest_56 : decode cX7_findBest 56 = .ok (.iload 5, 2) := by decide +kernel
theorem dX7_findBest_58 : decode cX7_findBest 58 = .ok (.invokestatic 138, 3) := by decide +kernel
theorem dX7_findBest_61 : decode cX7_findBest 61 = .ok (.idiv, 1) := by decide +kernel
theorem dX7_findBest_62 : decode cX7_findBest 62 = .ok (.iconst 4, 1) := by decide +kernel
theorem dX7_findBest_63 : decode cX7_findBest 63 = .ok (.irem, 1) := by decide +kernel
theorem dX7_findBest_64 : decode cX7_findBest 64 = .ok (.istore 6, 2) := by decide +kernel
theorem dX7_findBest_66 : decode cX7_findBest 66 = .ok (.bipush 10, 2) := by decide +kernel
theorem dX7_findBest_68 : decode cX7_findBest 68 = .ok (.iload_n 3, 1) := by decide +kernel
theorem dX7_findBest_69 : decode cX7_findBest 69 = .ok (.imul, 1) := by decide +kernel
theorem dX7_findBest_70 : decode cX7_findBest 70 = .ok (.iload 6, 2) := by decide +kernel
theorem dX7_findBest_72 : decode cX7_findBest 72 = .ok (.iadd, 1) := by decide +kernel
theorem dX7_findBest_73 : decode cX7_findBest 73 = .ok (.istore_n 3, 1) := by decide +kernel
theorem dX7_findBest_74 : decode cX7_findBest 74 = .ok (.aload_n 0, 1) := by decide +kernel
theorem dX7_findBest_75 : decode cX7_findBest 75 = .ok (.aload_n 0, 1) := by decide +kernel
theorem dX7_findBest_76 : decode cX7_findBest 76 = .ok (.getfield 25, 3) := by decide +kernel
theorem dX7_findBest_79 : decode cX7_findBest 79 = .ok (.iload 6, 2) := by decide +kernel
theorem dX7_findBest_81 : decode cX7_findBest 81 = .ok (.invokevirtual 121, 3) := by decide +kernel
theorem dX7_findBest_84 : decode cX7_findBest 84 = .ok (.istore 4, 2) := by decide +kernel
theorem dX7_findBest_86 : decode cX7_findBest 86 = .ok (.iload 4, 2) := by decide +kernel
theorem dX7_findBest_88 : decode cX7_findBest 88 = .ok (.ifCond .eq 14, 3) := by decide +kernel
theorem dX7_findBest_91 : decode cX7_findBest 91 = .ok (.aload_n 0, 1) := by decide +kernel
theorem dX7_findBest_92 : decode cX7_findBest 92 = .ok (.aload_n 0, 1) := by decide +kernel
theorem dX7_findBest_93 : decode cX7_findBest 93 = .ok (.getfield 25, 3) := by decide +kernel
theorem dX7_findBest_96 : decode cX7_findBest 96 = .ok (.iload 6, 2) := by decide +kernel
theorem dX7_findBest_98 : decode cX7_findBest 98 = .ok (.invokevirtual 128, 3) := by decide +kernel
theorem dX7_findBest_101 : decode cX7_findBest 101 = .ok (.pop, 1) := by decide +kernel
theorem dX7_findBest_102 : decode cX7_findBest 102 = .ok (.iinc 5 (-1), 3) := by decide +kernel
theorem dX7_findBest_105 : decode cX7_findBest 105 = .ok (.goto (-61), 3) := by decide +kernel
theorem dX7_findBest_108 : decode cX7_findBest 108 = .ok (.aload_n 0, 1) := by decide +kernel
theorem dX7_findBest_109 : decode cX7_findBest 109 = .ok (.getfield 25, 3) := by decide +kernel
theorem dX7_findBest_112 : decode cX7_findBest 112 = .ok (.iconst 3, 1) := by decide +kernel
theorem dX7_findBest_113 : decode cX7_findBest 113 = .ok (.iaload, 1) := by decide +kernel
