/-! decode rows -/
theorem dX6_init_0 : decode cX6_init 0 = .ok (.aload_n 0, 1) := by decide +kernel
theorem dX6_init_1 : decode cX6_init 1 = .ok (.invokespecial 1, 3) := by decide +kernel
theorem dX6_init_4 : decode cX6_init 4 = .ok (.aload_n 0, 1) := by decide +kernel
theorem dX6_init_5 : decode cX6_init 5 = .ok (.new 7, 3) := by decide +kernel
theorem dX6_init_8 : decode cX6_init 8 = .ok (.dup, 1) := by decide +kernel
theorem dX6_init_9 : decode cX6_init 9 = .ok (.invokespecial 9, 3) := by decide +kernel
theorem dX6_init_12 : decode cX6_init 12 = .ok (.putfield 10, 3) := by decide +kernel
theorem dX6_init_15 : decode cX6_init 15 = .ok (.aload_n 0, 1) := by decide +kernel
theorem dX6_init_16 : decode cX6_init 16 = .ok (.new 16, 3) := by decide +kernel
theorem dX6_init_19 : decode cX6_init 19 = .ok (.dup, 1) := by decide +kernel
theorem dX6_init_20 : decode cX6_init 20 = .ok (.invokespecial 18, 3) := by decide +kernel
theorem dX6_init_23 : decode cX6_init 23 = .ok (.putfield 19, 3) := by decide +kernel
theorem dX6_init_26 : decode cX6_init 26 = .ok (.aload_n 0, 1) := by decide +kernel
theorem dX6_init_27 : decode cX6_init 27 = .ok (.new 23, 3) := by decide +kernel
theorem dX6_init_30 : decode cX6_init 30 = .ok (.dup, 1) := by decide +kernel
theorem dX6_init_31 : decode cX6_init 31 = .ok (.invokespecial 25, 3) := by decide +kernel
theorem dX6_init_34 : decode cX6_init 34 = .ok (.putfield 26, 3) := by decide +kernel
theorem dX6_init_37 : decode cX6_init 37 = .ok (.aload_n 0, 1) := by decide +kernel
theorem dX6_init_38 : decode cX6_init 38 = .ok (.new 23, 3) := by decide +kernel
theorem dX6_init_41 : decode cX6_init 41 = .ok (.dup, 1) := by decide +kernel
theorem dX6_init_42 : decode cX6_init 42 = .ok (.invokespecial 25, 3) := by decide +kernel
theorem dX6_init_45 : decode cX6_init 45 = .ok (.putfield 30, 3) := by decide +kernel
theorem dX6_init_48 : decode cX6_init 48 = .ok (.aload_n 0, 1) := by decide +kernel
theorem dX6_init_49 : decode cX6_init 49 = .ok (.new 33, 3) := by decide +kernel
theorem dX6_init_52 : decode cX6_init 52 = .ok (.dup, 1) := by decide +kernel
theorem dX6_init_53 : decode cX6_init 53 = .ok (.invokespecial 35, 3) := by decide +kernel
theorem dX6_init_56 : decode cX6_init 56 = .ok (.putfield 36, 3) := by decide +kernel
theorem dX6_init_59 : decode cX6_init 59 = .ok (.aload_n 0, 1) := by decide +kernel
theorem dX6_init_60 : decode cX6_init 60 = .ok (.new 40, 3) := by decide +kernel
theorem dX6_init_63 : decode cX6_init 63 = .ok (.dup, 1) := by decide +kernel
theorem dX6_init_64 : decode cX6_init 64 = .ok (.invokespecial 42, 3) := by decide +kernel
theorem dX6_init_67 : decode cX6_init 67 = .ok (.putfield 43, 3) := by decide +kernel
theorem dX6_init_70 : decode cX6_init 70 = .ok (.aload_n 0, 1) := by decide +kernel
theorem dX6_init_71 : decode cX6_init 71 = .ok (.new 47, 3) := by decide +kernel
theorem dX6_init_74 : decode cX6_init 74 = .ok (.dup, 1) := by decide +kernel
theorem dX6_init_75 : decode cX6_init 75 = .ok (.invokespecial 49, 3) := by decide +kernel
theorem dX6_init_78 : decode cX6_init 78 = .ok (.putfield 50, 3) := by decide +kernel
theorem dX6_init_81 : decode cX6_init 81 = .ok (.aload_n 0, 1) := by decide +kernel
theorem dX6_init_82 : decode cX6_init 82 = .ok (.iconst 2, 1) := by decide +kernel
theorem dX6_init_83 : decode cX6_init 83 = .ok (.invokestatic 54, 3) := by decide +kernel
theorem dX6_init_86 : decode cX6_init 86 = .ok (.putfield 58, 3) := by decide +kernel
theorem dX6_init_89 : decode cX6_init 89 = .ok (.aload_n 0, 1) := by decide +kernel
theorem dX6_init_90 : decode cX6_init 90 = .ok (.bipush 6, 2) := by decide +kernel
theorem dX6_init_92 : decode cX6_init 92 = .ok (.newarray .int, 2) := by decide +kernel
theorem dX6_init_94 : decode cX6_init 94 = .ok (.putfield 62, 3) := by decide +kernel
theorem dX6_init_97 : decode cX6_init 97 = .ok (.aload_n 0, 1) := by decide +kernel
theorem dX6_init_98 : decode cX6_init 98 = .ok (.iconst 0, 1) := by decide +kernel
theorem dX6_init_99 : decode cX6_init 99 = .ok (.putfield 66, 3) := by decide +kernel
theorem dX6_init_102 : decode cX6_init 102 = .ok (.aload_n 0, 1) := by decide +kernel
theorem dX6_init_103 : decode cX6_init 103 = .ok (.lconst 0, 1) := by decide +kernel
theorem dX6_init_104 : decode cX6_init 104 = .ok (.putfield 70, 3) := by decide +kernel
theorem dX6_init_107 : decode cX6_init 107 = .ok (.return_, 1) := by decide +kernel
theorem dX6_write_0 : decode cX6_write 0 = .ok (.iload_n 1, 1) := by decide +kernel
theorem dX6_write_1 : decode cX6_write 1 = .ok (.ifCond .lt 10, 3) := by decide +kernel
theorem dX6_write_4 : decode cX6_write 4 = .ok (.iload_n 1, 1) := by decide +kernel
theorem dX6_write_5 : decode cX6_write 5 = .ok (.sipush 255, 3) := by decide +kernel
theorem dX6_write_8 : decode cX6_write 8 = .ok (.if_icmp .le 6, 3) := by decide +kernel
theorem dX6_write_11 : decode cX6_write 11 = .ok (.bipush (-2), 2) := by decide +kernel
theorem dX6_write_13 : decode cX6_write 13 = .ok (.ireturn, 1) := by decide +kernel
theorem dX6_write_14 : decode cX6_write 14 = .ok (.aload_n 0, 1) := by decide +kernel
theorem dX6_write_15 : decode cX6_write 15 = .ok (.getfield 10, 3) := by decide +kernel
theorem dX6_write_18 : decode cX6_write 18 = .ok (.getfield 74, 3) := by decide +kernel
theorem dX6_write_21 : decode cX6_write 21 = .ok (.bipush 48, 2) := by decide +kernel
theorem dX6_write_23 : decode cX6_write 23 = .ok (.if_icmp .lt 6, 3) := by decide +kernel
theorem dX6_write_26 : decode cX6_write 26 = .ok (.bipush (-4), 2) := by decide +kernel
theorem dX6_write_28 : decode cX6_write 28 = .ok (.ireturn, 1) := by decide +kernel
theorem dX6_write_29 : decode cX6_write 29 = .ok (.aload_n 0, 1) := by decide +kernel
theorem dX6_write_30 : decode cX6_write 30 = .ok (.getfield 10, 3) := by decide +kernel
theorem dX6_write_33 : decode cX6_write 33 = .ok (.iload_n 1, 1) := by decide +kernel
theorem dX6_write_34 : decode cX6_write 34 = .ok (.invokevirtual 77, 3) := by decide +kernel
theorem dX6_write_37 : decode cX6_write 37 = .ok (.aload_n 0, 1) := by decide +kernel
theorem dX6_write_38 : decode cX6_write 38 = .ok (.getfield 10, 3) := by decide +kernel
theorem dX6_write_41 : decode cX6_write 41 = .ok (.getfield 74, 3) := by decide +kernel
theorem dX6_write_44 : decode cX6_write 44 = .ok (.ireturn, 1) := by decide +kernel
theorem dX6_wipe_0 : decode cX6_wipe 0 = .ok (.aload_n 0, 1) := by decide +kernel
theorem dX6_wipe_1 : decode cX6_wipe 1 = .ok (.getfield 10, 3) := by decide +kernel
theorem dX6_wipe_4 : decode cX6_wipe 4 = .ok (.getfield 74, 3) := by decide +kernel
theorem dX6_wipe_7 : decode cX6_wipe 7 = .ok (.istore_n 1, 1) := by decide +kernel
theorem dX6_wipe_8 : decode cX6_wipe 8 = .ok (.aload_n 0, 1) := by decide +kernel
theorem dX6_wipe_9 : decode cX6_wipe 9 = .ok (.getfield 10, 3) := by decide +kernel
theorem dX6_wipe_12 : decode cX6_wipe 12 = .ok (.iconst 0, 1) := by decide +kernel
theorem dX6_wipe_13 : decode cX6_wipe 13 = .ok (.putfield 74, 3) := by decide +kernel
theorem dX6_wipe_16 : decode cX6_wipe 16 = .ok (.iload_n 1, 1) := by decide +kernel
theorem dX6_wipe_17 : decode cX6_wipe 17 = .ok (.ireturn, 1) := by decide +kernel
theorem dX6_fault_0 : decode cX6_fault 0 = .ok (.aload_n 0, 1) := by decide +kernel
theorem dX6_fault_1 : decode cX6_fault 1 = .ok (.getfield 10, 3) := by decide +kernel
theorem dX6_fault_4 : decode cX6_fault 4 = .ok (.invokevirtual 81, 3) := by decide +kernel
theorem dX6_fault_7 : decode cX6_fault 7 = .ok (.ireturn, 1) := by decide +kernel
theorem dX6_street_0 : decode cX6_street 0 = .ok (.aload_n 0, 1) := by decide +kernel
theorem dX6_street_1 : decode cX6_street 1 = .ok (.getfield 10, 3) := by decide +kernel
theorem dX6_street_4 : decode cX6_street 4 = .ok (.invokevirtual 81, 3) := by decide +kernel
theorem dX6_street_7 : decode cX6_street 7 = .ok (.bipush (-9), 2) := by decide +kernel
theorem dX6_street_9 : decode cX6_street 9 = .ok (.if_icmp .eq 6, 3) := by decide +kernel
theorem dX6_street_12 : decode cX6_street 12 = .ok (.bipush (-3), 2) := by decide +kernel
theorem dX6_street_14 : decode cX6_street 14 = .ok (.ireturn, 1) := by decide +kernel
theorem dX6_street_15 : decode cX6_street 15 = .ok (.aload_n 0, 1) := by decide +kernel
theorem dX6_street_16 : decode cX6_street 16 = .ok (.getfield 19, 3) := by decide +kernel
theorem dX6_street_19 : decode cX6_street 19 = .ok (.aload_n 0, 1) := by decide +kernel
theorem dX6_street_20 : decode cX6_street 20 = .ok (.getfield 10, 3) := by decide +kernel
theorem dX6_street_23 : decode cX6_street 23 = .ok (.invokevirtual 85, 3) := by decide +kernel
theorem dX6_street_26 : decode cX6_street 26 = .ok (.aload_n 0, 1) := by decide +kernel
theorem dX6_street_27 : decode cX6_street 27 = .ok (.getfield 26, 3) := by decide +kernel
theorem dX6_street_30 : decode cX6_street 30 = .ok (.aload_n 0, 1) := by decide +kernel
theorem dX6_street_31 : decode cX6_street 31 = .ok (.getfield 19, 3) := by decide +kernel
theorem dX6_street_34 : decode cX6_street 34 = .ok (.invokevirtual 89, 3) := by decide +kernel
theorem dX6_street_37 : decode cX6_street 37 = .ok (.aload_n 0, 1) := by decide +kernel
theorem dX6_street_38 : decode cX6_street 38 = .ok (.getfield 36, 3) := by decide +kernel
theorem dX6_street_41 : decode cX6_street 41 = .ok (.iconst 0, 1) := by decide +kernel
theorem dX6_street_42 : decode cX6_street 42 = .ok (.putfield 93, 3) := by decide +kernel
theorem dX6_street_45 : decode cX6_street 45 = .ok (.aload_n 0, 1) := by decide +kernel
theorem dX6_street_46 : decode cX6_street 46 = .ok (.iconst 0, 1) := by decide +kernel
theorem dX6_street_47 : decode cX6_street 47 = .ok (.putfield 66, 3) := by decide +kernel
theorem dX6_street_50 : decode cX6_street 50 = .ok (.aload_n 0, 1) := by decide +kernel
theorem dX6_street_51 : decode cX6_street 51 = .ok (.getfield 19, 3) := by decide +kernel
theorem dX6_street_54 : decode cX6_street 54 = .ok (.getfield 96, 3) := by decide +kernel
theorem dX6_street_57 : decode cX6_street 57 = .ok (.ireturn, 1) := by decide +kernel
theorem dX6_about_0 : decode cX6_about 0 = .ok (.iload_n 1, 1) := by decide +kernel
theorem dX6_about_1 : decode cX6_about 1 = .ok (.tableswitch 135 0 9 #[55, 63, 71, 79, 87, 95, 103, 111, 119, 127], 55) := by decide +kernel
theorem dX6_about_56 : decode cX6_about 56 = .ok (.aload_n 0, 1) := by decide +kernel
theorem dX6_about_57 : decode cX6_about 57 = .ok (.getfield 19, 3) := by decide +kernel
theorem dX6_about_60 : decode cX6_about 60 = .ok (.getfield 96, 3) := by decide +kernel
theorem dX6_about_63 : decode cX6_about 63 = .ok (.ireturn, 1) := by decide +kernel
theorem dX6_about_64 : decode cX6_about 64 = .ok (.aload_n 0, 1) := by decide +kernel
theorem dX6_about_65 : decode cX6_about 65 = .ok (.getfield 26, 3) := by decide +kernel
theorem dX6_about_68 : decode cX6_about 68 = .ok (.getfield 97, 3) := by decide +kernel
theorem dX6_about_71 : decode cX6_about 71 = .ok (.ireturn, 1) := by decide +kernel
theorem dX6_about_72 : decode cX6_about 72 = .ok (.aload_n 0, 1) := by decide +kernel
theorem dX6_about_73 : decode cX6_about 73 = .ok (.getfield 26, 3) := by decide +kernel
theorem dX6_about_76 : decode cX6_about 76 = .ok (.getfield 100, 3) := by decide +kernel
theorem dX6_about_79 : decode cX6_about 79 = .ok (.ireturn, 1) := by decide +kernel
theorem dX6_about_80 : decode cX6_about 80 = .ok (.aload_n 0, 1) := by decide +kernel
theorem dX6_about_81 : decode cX6_about 81 = .ok (.getfield 26, 3) := by decide +kernel
theorem dX6_about_84 : decode cX6_about 84 = .ok (.getfield 103, 3) := by decide +kernel
theorem dX6_about_87 : decode cX6_about 87 = .ok (.ireturn, 1) := by decide +kernel
theorem dX6_about_88 : decode cX6_about 88 = .ok (.aload_n 0, 1) := by decide +kernel
theorem dX6_about_89 : decode cX6_about 89 = .ok (.getfield 26, 3) := by decide +kernel
theorem dX6_about_92 : decode cX6_about 92 = .ok (.getfield 106, 3) := by decide +kernel
theorem dX6_about_95 : decode cX6_about 95 = .ok (.ireturn, 1) := by decide +kernel
theorem dX6_about_96 : decode cX6_about 96 = .ok (.aload_n 0, 1) := by decide +kernel
theorem dX6_about_97 : decode cX6_about 97 = .ok (.getfield 26, 3) := by decide +kernel
theorem dX6_about_100 : decode cX6_about 100 = .ok (.getfield 109, 3) := by decide +kernel
theorem dX6_about_103 : decode cX6_about 103 = .ok (.ireturn, 1) := by decide +kernel
theorem dX6_about_104 : decode cX6_about 104 = .ok (.aload_n 0, 1) := by decide +kernel
theorem dX6_about_105 : decode cX6_about 105 = .ok (.getfield 26, 3) := by decide +kernel
theorem dX6_about_108 : decode cX6_about 108 = .ok (.getfield 112, 3) := by decide +kernel
theorem dX6_about_111 : decode cX6_about 111 = .ok (.ireturn, 1) := by decide +kernel
theorem dX6_about_112 : decode cX6_about 112 = .ok (.aload_n 0, 1) := by decide +kernel
theorem dX6_about_113 : decode cX6_about 113 = .ok (.getfield 36, 3) := by decide +kernel
theorem dX6_about_116 : decode cX6_about 116 = .ok (.getfield 93, 3) := by decide +kernel
theorem dX6_about_119 : decode cX6_about 119 = .ok (.ireturn, 1) := by decide +kernel
theorem dX6_about_120 : decode cX6_about 120 = .ok (.aload_n 0, 1) := by decide +kernel
theorem dX6_about_121 : decode cX6_about 121 = .ok (.getfield 50, 3) := by decide +kernel
theorem dX6_about_124 : decode cX6_about 124 = .ok (.getfield 115, 3) := by decide +kernel
theorem dX6_about_127 : decode cX6_about 127 = .ok (.ireturn, 1) := by decide +kernel
theorem dX6_about_128 : decode cX6_about 128 = .ok (.aload_n 0, 1) := by decide +kernel
theorem dX6_about_129 : decode cX6_about 129 = .ok (.getfield 10, 3) := by decide +kernel
theorem dX6_about_132 : decode cX6_about 132 = .ok (.getfield 74, 3) := by decide +kernel
theorem dX6_about_135 : decode cX6_about 135 = .ok (.ireturn, 1) := by decide +kernel
theorem dX6_about_136 : decode cX6_about 136 = .ok (.bipush (-2), 2) := by decide +kernel
theorem dX6_about_138 : decode cX6_about 138 = .ok (.ireturn, 1) := by decide +kernel
theorem dX6_house_0 : decode cX6_house 0 = .ok (.aload_n 0, 1) := by decide +kernel
theorem dX6_house_1 : decode cX6_house 1 = .ok (.getfield 19, 3) := by decide +kernel
theorem dX6_house_4 : decode cX6_house 4 = .ok (.iload_n 1, 1) := by decide +kernel
theorem dX6_house_5 : decode cX6_house 5 = .ok (.invokevirtual 116, 3) := by decide +kernel
theorem dX6_house_8 : decode cX6_house 8 = .ok (.ifCond .ne 5, 3) := by decide +kernel
theorem dX6_house_11 : decode cX6_house 11 = .ok (.iconst (-1), 1) := by decide +kernel
theorem dX6_house_12 : decode cX6_house 12 = .ok (.ireturn, 1) := by decide +kernel
theorem dX6_house_13 : decode cX6_house 13 = .ok (.iload_n 2, 1) := by decide +kernel
theorem dX6_house_14 : decode cX6_house 14 = .ok (.tableswitch 64 0 4 #[34, 43, 43, 43, 55], 34) := by decide +kernel
theorem dX6_house_48 : decode cX6_house 48 = .ok (.aload_n 0, 1) := by decide +kernel
theorem dX6_house_49 : decode cX6_house 49 = .ok (.getfield 19, 3) := by decide +kernel
theorem dX6_house_52 : decode cX6_house 52 = .ok (.iload_n 1, 1) := by decide +kernel
theorem dX6_house_53 : decode cX6_house 53 = .ok (.invokevirtual 120, 3) := by decide +kernel
theorem dX6_house_56 : decode cX6_house 56 = .ok (.ireturn, 1) := by decide +kernel
theorem dX6_house_57 : decode cX6_house 57 = .ok (.aload_n 0, 1) := by decide +kernel
theorem dX6_house_58 : decode cX6_house 58 = .ok (.getfield 19, 3) := by decide +kernel
theorem dX6_house_61 : decode cX6_house 61 = .ok (.iload_n 1, 1) := by decide +kernel
theorem dX6_house_62 : decode cX6_house 62 = .ok (.iload_n 2, 1) := by decide +kernel
theorem dX6_house_63 : decode cX6_house 63 = .ok (.iconst 1, 1) := by decide +kernel
theorem dX6_house_64 : decode cX6_house 64 = .ok (.isub, 1) := by decide +kernel
theorem dX6_house_65 : decode cX6_house 65 = .ok (.invokevirtual 124, 3) := by decide +kernel
theorem dX6_house_68 : decode cX6_house 68 = .ok (.ireturn, 1) := by decide +kernel
theorem dX6_house_69 : decode cX6_house 69 = .ok (.aload_n 0, 1) := by decide +kernel
theorem dX6_house_70 : decode cX6_house 70 = .ok (.getfield 26, 3) := by decide +kernel
theorem dX6_house_73 : decode cX6_house 73 = .ok (.iload_n 1, 1) := by decide +kernel
theorem dX6_house_74 : decode cX6_house 74 = .ok (.invokevirtual 128, 3) := by decide +kernel
theorem dX6_house_77 : decode cX6_house 77 = .ok (.ireturn, 1) := by decide +kernel
theorem dX6_house_78 : decode cX6_house 78 = .ok (.bipush (-2), 2) := by decide +kernel
theorem dX6_house_80 : decode cX6_house 80 = .ok (.ireturn, 1) := by decide +kernel
theorem dX6_sight_0 : decode cX6_sight 0 = .ok (.aload_n 0, 1) := by decide +kernel
theorem dX6_sight_1 : decode cX6_sight 1 = .ok (.getfield 19, 3) := by decide +kernel
theorem dX6_sight_4 : decode cX6_sight 4 = .ok (.iload_n 1, 1) := by decide +kernel
theorem dX6_sight_5 : decode cX6_sight 5 = .ok (.invokevirtual 116, 3) := by decide +kernel
theorem dX6_sight_8 : decode cX6_sight 8 = .ok (.ifCond .ne 5, 3) := by decide +kernel
theorem dX6_sight_11 : decode cX6_sight 11 = .ok (.iconst (-1), 1) := by decide +kernel
theorem dX6_sight_12 : decode cX6_sight 12 = .ok (.ireturn, 1) := by decide +kernel
theorem dX6_sight_13 : decode cX6_sight 13 = .ok (.iload_n 2, 1) := by decide +kernel
theorem dX6_sight_14 : decode cX6_sight 14 = .ok (.ifCond .lt 9, 3) := by decide +kernel
theorem dX6_sight_17 : decode cX6_sight 17 = .ok (.iload_n 2, 1) := by decide +kernel
theorem dX6_sight_18 : decode cX6_sight 18 = .ok (.bipush 99, 2) := by decide +kernel
theorem dX6_sight_20 : decode cX6_sight 20 = .ok (.if_icmp .le 6, 3) := by decide +kernel
theorem dX6_sight_23 : decode cX6_sight 23 = .ok (.bipush (-2), 2) := by decide +kernel
theorem dX6_sight_25 : decode cX6_sight 25 = .ok (.ireturn, 1) := by decide +kernel
theorem dX6_sight_26 : decode cX6_sight 26 = .ok (.aload_n 0, 1) := by decide +kernel
theorem dX6_sight_27 : decode cX6_sight 27 = .ok (.getfield 26, 3) := by decide +kernel
theorem dX6_sight_30 : decode cX6_sight 30 = .ok (.aload_n 0, 1) := by decide +kernel
theorem dX6_sight_31 : decode cX6_sight 31 = .ok (.getfield 19, 3) := by decide +kernel
theorem dX6_sight_34 : decode cX6_sight 34 = .ok (.iload_n 1, 1) := by decide +kernel
theorem dX6_sight_35 : decode cX6_sight 35 = .ok (.iload_n 2, 1) := by decide +kernel
theorem dX6_sight_36 : decode cX6_sight 36 = .ok (.invokevirtual 131, 3) := by decide +kernel
theorem dX6_sight_39 : decode cX6_sight 39 = .ok (.ireturn, 1) := by decide +kernel
theorem dX6_walk_0 : decode cX6_walk 0 = .ok (.iload_n 1, 1) := by decide +kernel
theorem dX6_walk_1 : decode cX6_walk 1 = .ok (.ifCond .eq 11, 3) := by decide +kernel
theorem dX6_walk_4 : decode cX6_walk 4 = .ok (.iload_n 1, 1) := by decide +kernel
theorem dX6_walk_5 : decode cX6_walk 5 = .ok (.iconst 1, 1) := by decide +kernel
theorem dX6_walk_6 : decode cX6_walk 6 = .ok (.if_icmp .eq 6, 3) := by decide +kernel
theorem dX6_walk_9 : decode cX6_walk 9 = .ok (.bipush (-2), 2) := by decide +kernel
theorem dX6_walk_11 : decode cX6_walk 11 = .ok (.ireturn, 1) := by decide +kernel
theorem dX6_walk_12 : decode cX6_walk 12 = .ok (.aload_n 0, 1) := by decide +kernel
theorem dX6_walk_13 : decode cX6_walk 13 = .ok (.getfield 26, 3) := by decide +kernel
theorem dX6_walk_16 : decode cX6_walk 16 = .ok (.aload_n 0, 1) := by decide +kernel
theorem dX6_walk_17 : decode cX6_walk 17 = .ok (.getfield 19, 3) := by decide +kernel
theorem dX6_walk_20 : decode cX6_walk 20 = .ok (.iload_n 1, 1) := by decide +kernel
theorem dX6_walk_21 : decode cX6_walk 21 = .ok (.invokevirtual 135, 3) := by decide +kernel
theorem dX6_walk_24 : decode cX6_walk 24 = .ok (.ifCond .ne 6, 3) := by decide +kernel
theorem dX6_walk_27 : decode cX6_walk 27 = .ok (.bipush (-3), 2) := by decide +kernel
theorem dX6_walk_29 : decode cX6_walk 29 = .ok (.ireturn, 1) := by decide +kernel
theorem dX6_walk_30 : decode cX6_walk 30 = .ok (.aload_n 0, 1) := by decide +kernel
theorem dX6_walk_31 : decode cX6_walk 31 = .ok (.iload_n 1, 1) := by decide +kernel
theorem dX6_walk_32 : decode cX6_walk 32 = .ok (.invokevirtual 139, 3) := by decide +kernel
theorem dX6_walk_35 : decode cX6_walk 35 = .ok (.pop, 1) := by decide +kernel
theorem dX6_walk_36 : decode cX6_walk 36 = .ok (.aload_n 0, 1) := by decide +kernel
theorem dX6_walk_37 : decode cX6_walk 37 = .ok (.getfield 26, 3) := by decide +kernel
theorem dX6_walk_40 : decode cX6_walk 40 = .ok (.getfield 97, 3) := by decide +kernel
theorem dX6_walk_43 : decode cX6_walk 43 = .ok (.ireturn, 1) := by decide +kernel
theorem dX6_look_0 : decode cX6_look 0 = .ok (.aload_n 0, 1) := by decide +kernel
theorem dX6_look_1 : decode cX6_look 1 = .ok (.getfield 26, 3) := by decide +kernel
theorem dX6_look_4 : decode cX6_look 4 = .ok (.aload_n 0, 1) := by decide +kernel
theorem dX6_look_5 : decode cX6_look 5 = .ok (.getfield 19, 3) := by decide +kernel
theorem dX6_look_8 : decode cX6_look 8 = .ok (.iconst 2, 1) := by decide +kernel
theorem dX6_look_9 : decode cX6_look 9 = .ok (.invokevirtual 135, 3) := by decide +kernel
theorem dX6_look_12 : decode cX6_look 12 = .ok (.ifCond .ne 6, 3) := by decide +kernel
theorem dX6_look_15 : decode cX6_look 15 = .ok (.bipush (-3), 2) := by decide +kernel
theorem dX6_look_17 : decode cX6_look 17 = .ok (.ireturn, 1) := by decide +kernel
theorem dX6_look_18 : decode cX6_look 18 = .ok (.aload_n 0, 1) := by decide +kernel
theorem dX6_look_19 : decode cX6_look 19 = .ok (.iconst 2, 1) := by decide +kernel
theorem dX6_look_20 : decode cX6_look 20 = .ok (.invokevirtual 139, 3) := by decide +kernel
theorem dX6_look_23 : decode cX6_look 23 = .ok (.ireturn, 1) := by decide +kernel
theorem dX6_pause_0 : decode cX6_pause 0 = .ok (.aload_n 0, 1) := by decide +kernel
theorem dX6_pause_1 : decode cX6_pause 1 = .ok (.iconst 3, 1) := by decide +kernel
theorem dX6_pause_2 : decode cX6_pause 2 = .ok (.invokevirtual 139, 3) := by decide +kernel
theorem dX6_pause_5 : decode cX6_pause 5 = .ok (.pop, 1) := by decide +kernel
theorem dX6_pause_6 : decode cX6_pause 6 = .ok (.aload_n 0, 1) := by decide +kernel
theorem dX6_pause_7 : decode cX6_pause 7 = .ok (.getfield 26, 3) := by decide +kernel
theorem dX6_pause_10 : decode cX6_pause 10 = .ok (.getfield 103, 3) := by decide +kernel
theorem dX6_pause_13 : decode cX6_pause 13 = .ok (.ireturn, 1) := by decide +kernel
theorem dX6_lamp_0 : decode cX6_lamp 0 = .ok (.aload_n 0, 1) := by decide +kernel
theorem dX6_lamp_1 : decode cX6_lamp 1 = .ok (.getfield 19, 3) := by decide +kernel
theorem dX6_lamp_4 : decode cX6_lamp 4 = .ok (.iload_n 1, 1) := by decide +kernel
theorem dX6_lamp_5 : decode cX6_lamp 5 = .ok (.invokevirtual 116, 3) := by decide +kernel
theorem dX6_lamp_8 : decode cX6_lamp 8 = .ok (.ifCond .ne 5, 3) := by decide +kernel
theorem dX6_lamp_11 : decode cX6_lamp 11 = .ok (.iconst (-1), 1) := by decide +kernel
theorem dX6_lamp_12 : decode cX6_lamp 12 = .ok (.ireturn, 1) := by decide +kernel
theorem dX6_lamp_13 : decode cX6_lamp 13 = .ok (.aload_n 0, 1) := by decide +kernel
theorem dX6_lamp_14 : decode cX6_lamp 14 = .ok (.getfield 36, 3) := by decide +kernel
theorem dX6_lamp_17 : decode cX6_lamp 17 = .ok (.aload_n 0, 1) := by decide +kernel
theorem dX6_lamp_18 : decode cX6_lamp 18 = .ok (.getfield 26, 3) := by decide +kernel
theorem dX6_lamp_21 : decode cX6_lamp 21 = .ok (.invokevirtual 142, 3) := by decide +kernel
theorem dX6_lamp_24 : decode cX6_lamp 24 = .ok (.aload_n 0, 1) := by decide +kernel
theorem dX6_lamp_25 : decode cX6_lamp 25 = .ok (.getfield 26, 3) := by decide +kernel
theorem dX6_lamp_28 : decode cX6_lamp 28 = .ok (.dup, 1) := by decide +kernel
theorem dX6_lamp_29 : decode cX6_lamp 29 = .ok (.getfield 109, 3) := by decide +kernel
theorem dX6_lamp_32 : decode cX6_lamp 32 = .ok (.iconst 1, 1) := by decide +kernel
theorem dX6_lamp_33 : decode cX6_lamp 33 = .ok (.iload_n 1, 1) := by decide +kernel
theorem dX6_lamp_34 : decode cX6_lamp 34 = .ok (.ishl, 1) := by decide +kernel
theorem dX6_lamp_35 : decode cX6_lamp 35 = .ok (.ixor, 1) := by decide +kernel
theorem dX6_lamp_36 : decode cX6_lamp 36 = .ok (.putfield 109, 3) := by decide +kernel
theorem dX6_lamp_39 : decode cX6_lamp 39 = .ok (.aload_n 0, 1) := by decide +kernel
theorem dX6_lamp_40 : decode cX6_lamp 40 = .ok (.getfield 26, 3) := by decide +kernel
theorem dX6_lamp_43 : decode cX6_lamp 43 = .ok (.getfield 109, 3) := by decide +kernel
theorem dX6_lamp_46 : decode cX6_lamp 46 = .ok (.iload_n 1, 1) := by decide +kernel
theorem dX6_lamp_47 : decode cX6_lamp 47 = .ok (.ishr, 1) := by decide +kernel
theorem dX6_lamp_48 : decode cX6_lamp 48 = .ok (.iconst 1, 1) := by decide +kernel
theorem dX6_lamp_49 : decode cX6_lamp 49 = .ok (.iand, 1) := by decide +kernel
theorem dX6_lamp_50 : decode cX6_lamp 50 = .ok (.ireturn, 1) := by decide +kernel
theorem dX6_key_0 : decode cX6_key 0 = .ok (.aload_n 0, 1) := by decide +kernel
theorem dX6_key_1 : decode cX6_key 1 = .ok (.getfield 19, 3) := by decide +kernel
theorem dX6_key_4 : decode cX6_key 4 = .ok (.iload_n 1, 1) := by decide +kernel
theorem dX6_key_5 : decode cX6_key 5 = .ok (.invokevirtual 116, 3) := by decide +kernel
theorem dX6_key_8 : decode cX6_key 8 = .ok (.ifCond .ne 5, 3) := by decide +kernel
theorem dX6_key_11 : decode cX6_key 11 = .ok (.iconst (-1), 1) := by decide +kernel
theorem dX6_key_12 : decode cX6_key 12 = .ok (.ireturn, 1) := by decide +kernel
theorem dX6_key_13 : decode cX6_key 13 = .ok (.aload_n 0, 1) := by decide +kernel
theorem dX6_key_14 : decode cX6_key 14 = .ok (.getfield 36, 3) := by decide +kernel
theorem dX6_key_17 : decode cX6_key 17 = .ok (.aload_n 0, 1) := by decide +kernel
theorem dX6_key_18 : decode cX6_key 18 = .ok (.getfield 26, 3) := by decide +kernel
theorem dX6_key_21 : decode cX6_key 21 = .ok (.invokevirtual 142, 3) := by decide +kernel
theorem dX6_key_24 : decode cX6_key 24 = .ok (.aload_n 0, 1) := by decide +kernel
theorem dX6_key_25 : decode cX6_key 25 = .ok (.getfield 26, 3) := by decide +kernel
theorem dX6_key_28 : decode cX6_key 28 = .ok (.dup, 1) := by decide +kernel
theorem dX6_key_29 : decode cX6_key 29 = .ok (.getfield 112, 3) := by decide +kernel
theorem dX6_key_32 : decode cX6_key 32 = .ok (.iconst 1, 1) := by decide +kernel
theorem dX6_key_33 : decode cX6_key 33 = .ok (.iload_n 1, 1) := by decide +kernel
theorem dX6_key_34 : decode cX6_key 34 = .ok (.ishl, 1) := by decide +kernel
theorem dX6_key_35 : decode cX6_key 35 = .ok (.ixor, 1) := by decide +kernel
theorem dX6_key_36 : decode cX6_key 36 = .ok (.putfield 112, 3) := by decide +kernel
theorem dX6_key_39 : decode cX6_key 39 = .ok (.aload_n 0, 1) := by decide +kernel
theorem dX6_key_40 : decode cX6_key 40 = .ok (.getfield 26, 3) := by decide +kernel
theorem dX6_key_43 : decode cX6_key 43 = .ok (.getfield 112, 3) := by decide +kernel
theorem dX6_key_46 : decode cX6_key 46 = .ok (.iload_n 1, 1) := by decide +kernel
theorem dX6_key_47 : decode cX6_key 47 = .ok (.ishr, 1) := by decide +kernel
theorem dX6_key_48 : decode cX6_key 48 = .ok (.iconst 1, 1) := by decide +kernel
theorem dX6_key_49 : decode cX6_key 49 = .ok (.iand, 1) := by decide +kernel
theorem dX6_key_50 : decode cX6_key 50 = .ok (.ireturn, 1) := by decide +kernel
theorem dX6_undo_0 : decode cX6_undo 0 = .ok (.aload_n 0, 1) := by decide +kernel
theorem dX6_undo_1 : decode cX6_undo 1 = .ok (.getfield 36, 3) := by decide +kernel
theorem dX6_undo_4 : decode cX6_undo 4 = .ok (.getfield 93, 3) := by decide +kernel
theorem dX6_undo_7 : decode cX6_undo 7 = .ok (.ifCond .gt 6, 3) := by decide +kernel
theorem dX6_undo_10 : decode cX6_undo 10 = .ok (.bipush (-3), 2) := by decide +kernel
theorem dX6_undo_12 : decode cX6_undo 12 = .ok (.ireturn, 1) := by decide +kernel
theorem dX6_undo_13 : decode cX6_undo 13 = .ok (.aload_n 0, 1) := by decide +kernel
theorem dX6_undo_14 : decode cX6_undo 14 = .ok (.getfield 36, 3) := by decide +kernel
theorem dX6_undo_17 : decode cX6_undo 17 = .ok (.aload_n 0, 1) := by decide +kernel
theorem dX6_undo_18 : decode cX6_undo 18 = .ok (.getfield 26, 3) := by decide +kernel
theorem dX6_undo_21 : decode cX6_undo 21 = .ok (.invokevirtual 146, 3) := by decide +kernel
theorem dX6_undo_24 : decode cX6_undo 24 = .ok (.aload_n 0, 1) := by decide +kernel
theorem dX6_undo_25 : decode cX6_undo 25 = .ok (.getfield 36, 3) := by decide +kernel
theorem dX6_undo_28 : decode cX6_undo 28 = .ok (.getfield 93, 3) := by decide +kernel
theorem dX6_undo_31 : decode cX6_undo 31 = .ok (.ireturn, 1) := by decide +kernel
theorem dX6_act_0 : decode cX6_act 0 = .ok (.aload_n 0, 1) := by decide +kernel
theorem dX6_act_1 : decode cX6_act 1 = .ok (.getfield 36, 3) := by decide +kernel
theorem dX6_act_4 : decode cX6_act 4 = .ok (.aload_n 0, 1) := by decide +kernel
theorem dX6_act_5 : decode cX6_act 5 = .ok (.getfield 26, 3) := by decide +kernel
theorem dX6_act_8 : decode cX6_act 8 = .ok (.invokevirtual 142, 3) := by decide +kernel
theorem dX6_act_11 : decode cX6_act 11 = .ok (.aload_n 0, 1) := by decide +kernel
theorem dX6_act_12 : decode cX6_act 12 = .ok (.getfield 26, 3) := by decide +kernel
theorem dX6_act_15 : decode cX6_act 15 = .ok (.aload_n 0, 1) := by decide +kernel
theorem dX6_act_16 : decode cX6_act 16 = .ok (.getfield 19, 3) := by decide +kernel
theorem dX6_act_19 : decode cX6_act 19 = .ok (.iload_n 1, 1) := by decide +kernel
theorem dX6_act_20 : decode cX6_act 20 = .ok (.invokevirtual 149, 3) := by decide +kernel
theorem dX6_act_23 : decode cX6_act 23 = .ok (.ireturn, 1) := by decide +kernel
theorem dX6_best_0 : decode cX6_best 0 = .ok (.iload_n 1, 1) := by decide +kernel
theorem dX6_best_1 : decode cX6_best 1 = .ok (.iconst 1, 1) := by decide +kernel
theorem dX6_best_2 : decode cX6_best 2 = .ok (.if_icmp .lt 9, 3) := by decide +kernel
theorem dX6_best_5 : decode cX6_best 5 = .ok (.iload_n 1, 1) := by decide +kernel
theorem dX6_best_6 : decode cX6_best 6 = .ok (.bipush 6, 2) := by decide +kernel
theorem dX6_best_8 : decode cX6_best 8 = .ok (.if_icmp .le 6, 3) := by decide +kernel
theorem dX6_best_11 : decode cX6_best 11 = .ok (.bipush (-2), 2) := by decide +kernel
theorem dX6_best_13 : decode cX6_best 13 = .ok (.ireturn, 1) := by decide +kernel
theorem dX6_best_14 : decode cX6_best 14 = .ok (.iload_n 2, 1) := by decide +kernel
theorem dX6_best_15 : decode cX6_best 15 = .ok (.ifCond .eq 22, 3) := by decide +kernel
theorem dX6_best_18 : decode cX6_best 18 = .ok (.aload_n 0, 1) := by decide +kernel
theorem dX6_best_19 : decode cX6_best 19 = .ok (.getfield 43, 3) := by decide +kernel
theorem dX6_best_22 : decode cX6_best 22 = .ok (.aload_n 0, 1) := by decide +kernel
theorem dX6_best_23 : decode cX6_best 23 = .ok (.getfield 19, 3) := by decide +kernel
theorem dX6_best_26 : decode cX6_best 26 = .ok (.aload_n 0, 1) := by decide +kernel
theorem dX6_best_27 : decode cX6_best 27 = .ok (.getfield 26, 3) := by decide +kernel
theorem dX6_best_30 : decode cX6_best 30 = .ok (.iload_n 1, 1) := by decide +kernel
theorem dX6_best_31 : decode cX6_best 31 = .ok (.invokevirtual 153, 3) := by decide +kernel
theorem dX6_best_34 : decode cX6_best 34 = .ok (.goto 19, 3) := by decide +kernel
theorem dX6_best_37 : decode cX6_best 37 = .ok (.aload_n 0, 1) := by decide +kernel
theorem dX6_best_38 : decode cX6_best 38 = .ok (.getfield 43, 3) := by decide +kernel
theorem dX6_best_41 : decode cX6_best 41 = .ok (.aload_n 0, 1) := by decide +kernel
theorem dX6_best_42 : decode cX6_best 42 = .ok (.getfield 19, 3) := by decide +kernel
theorem dX6_best_45 : decode cX6_best 45 = .ok (.aload_n 0, 1) := by decide +kernel
theorem dX6_best_46 : decode cX6_best 46 = .ok (.getfield 26, 3) := by decide +kernel
theorem dX6_best_49 : decode cX6_best 49 = .ok (.iload_n 1, 1) := by decide +kernel
theorem dX6_best_50 : decode cX6_best 50 = .ok (.invokevirtual 157, 3) := by decide +kernel
theorem dX6_best_53 : decode cX6_best 53 = .ok (.ireturn, 1) := by decide +kernel
theorem dX6_fewest_0 : decode cX6_fewest 0 = .ok (.iload_n 1, 1) := by decide +kernel
theorem dX6_fewest_1 : decode cX6_fewest 1 = .ok (.iconst 1, 1) := by decide +kernel
theorem dX6_fewest_2 : decode cX6_fewest 2 = .ok (.if_icmp .lt 9, 3) := by decide +kernel
theorem dX6_fewest_5 : decode cX6_fewest 5 = .ok (.iload_n 1, 1) := by decide +kernel
theorem dX6_fewest_6 : decode cX6_fewest 6 = .ok (.bipush 99, 2) := by decide +kernel
theorem dX6_fewest_8 : decode cX6_fewest 8 = .ok (.if_icmp .le 6, 3) := by decide +kernel
theorem dX6_fewest_11 : decode cX6_fewest 11 = .ok (.bipush (-2), 2) := by decide +kernel
theorem dX6_fewest_13 : decode cX6_fewest 13 = .ok (.ireturn, 1) := by decide +kernel
theorem dX6_fewest_14 : decode cX6_fewest 14 = .ok (.iconst 1, 1) := by decide +kernel
theorem dX6_fewest_15 : decode cX6_fewest 15 = .ok (.istore_n 2, 1) := by decide +kernel
theorem dX6_fewest_16 : decode cX6_fewest 16 = .ok (.iload_n 2, 1) := by decide +kernel
theorem dX6_fewest_17 : decode cX6_fewest 17 = .ok (.bipush 6, 2) := by decide +kernel
theorem dX6_fewest_19 : decode cX6_fewest 19 = .ok (.if_icmp .gt 31, 3) := by decide +kernel
theorem dX6_fewest_22 : decode cX6_fewest 22 = .ok (.aload_n 0, 1) := by decide +kernel
theorem dX6_fewest_23 : decode cX6_fewest 23 = .ok (.getfield 43, 3) := by decide +kernel
theorem dX6_fewest_26 : decode cX6_fewest 26 = .ok (.aload_n 0, 1) := by decide +kernel
theorem dX6_fewest_27 : decode cX6_fewest 27 = .ok (.getfield 19, 3) := by decide +kernel
theorem dX6_fewest_30 : decode cX6_fewest 30 = .ok (.aload_n 0, 1) := by decide +kernel
theorem dX6_fewest_31 : decode cX6_fewest 31 = .ok (.getfield 26, 3) := by decide +kernel
theorem dX6_fewest_34 : decode cX6_fewest 34 = .ok (.iload_n 2, 1) := by decide +kernel
theorem dX6_fewest_35 : decode cX6_fewest 35 = .ok (.invokevirtual 157, 3) := by decide +kernel
theorem dX6_fewest_38 : decode cX6_fewest 38 = .ok (.iload_n 1, 1) := by decide +kernel
theorem dX6_fewest_39 : decode cX6_fewest 39 = .ok (.if_icmp .lt 5, 3) := by decide +kernel
theorem dX6_fewest_42 : decode cX6_fewest 42 = .ok (.iload_n 2, 1) := by decide +kernel
theorem dX6_fewest_43 : decode cX6_fewest 43 = .ok (.ireturn, 1) := by decide +kernel
theorem dX6_fewest_44 : decode cX6_fewest 44 = .ok (.iinc 2 1, 3) := by decide +kernel
theorem dX6_fewest_47 : decode cX6_fewest 47 = .ok (.goto (-31), 3) := by decide +kernel
theorem dX6_fewest_50 : decode cX6_fewest 50 = .ok (.bipush (-9), 2) := by decide +kernel
theorem dX6_fewest_52 : decode cX6_fewest 52 = .ok (.ireturn, 1) := by decide +kernel
theorem dX6_keys_0 : decode cX6_keys 0 = .ok (.iload_n 1, 1) := by decide +kernel
theorem dX6_keys_1 : decode cX6_keys 1 = .ok (.iconst 1, 1) := by decide +kernel
theorem dX6_keys_2 : decode cX6_keys 2 = .ok (.if_icmp .lt 18, 3) := by decide +kernel
theorem dX6_keys_5 : decode cX6_keys 5 = .ok (.iload_n 1, 1) := by decide +kernel
theorem dX6_keys_6 : decode cX6_keys 6 = .ok (.iconst 3, 1) := by decide +kernel
theorem dX6_keys_7 : decode cX6_keys 7 = .ok (.if_icmp .gt 13, 3) := by decide +kernel
theorem dX6_keys_10 : decode cX6_keys 10 = .ok (.iload_n 2, 1) := by decide +kernel
theorem dX6_keys_11 : decode cX6_keys 11 = .ok (.ifCond .lt 9, 3) := by decide +kernel
theorem dX6_keys_14 : decode cX6_keys 14 = .ok (.iload_n 2, 1) := by decide +kernel
theorem dX6_keys_15 : decode cX6_keys 15 = .ok (.bipush 99, 2) := by decide +kernel
theorem dX6_keys_17 : decode cX6_keys 17 = .ok (.if_icmp .le 6, 3) := by decide +kernel
theorem dX6_keys_20 : decode cX6_keys 20 = .ok (.bipush (-2), 2) := by decide +kernel
theorem dX6_keys_22 : decode cX6_keys 22 = .ok (.ireturn, 1) := by decide +kernel
theorem dX6_keys_23 : decode cX6_keys 23 = .ok (.bipush (-9), 2) := by decide +kernel
theorem dX6_keys_25 : decode cX6_keys 25 = .ok (.istore_n 3, 1) := by decide +kernel
theorem dX6_keys_26 : decode cX6_keys 26 = .ok (.bipush 7, 2) := by decide +kernel
theorem dX6_keys_28 : decode cX6_keys 28 = .ok (.istore 4, 2) := by decide +kernel
theorem dX6_keys_30 : decode cX6_keys 30 = .ok (.iconst 0, 1) := by decide +kernel
theorem dX6_keys_31 : decode cX6_keys 31 = .ok (.istore 5, 2) := by decide +kernel
theorem dX6_keys_33 : decode cX6_keys 33 = .ok (.iload 5, 2) := by decide +kernel
theorem dX6_keys_35 : decode cX6_keys 35 = .ok (.iconst 1, 1) := by decide +kernel
theorem dX6_keys_36 : decode cX6_keys 36 = .ok (.aload_n 0, 1) := by decide +kernel
theorem dX6_keys_37 : decode cX6_keys 37 = .ok (.getfield 19, 3) := by decide +kernel
theorem dX6_keys_40 : decode cX6_keys 40 = .ok (.getfield 96, 3) := by decide +kernel
theorem dX6_keys_43 : decode cX6_keys 43 = .ok (.ishl, 1) := by decide +kernel
theorem dX6_keys_44 : decode cX6_keys 44 = .ok (.if_icmp .ge 54, 3) := by decide +kernel
theorem dX6_keys_47 : decode cX6_keys 47 = .ok (.iload 5, 2) := by decide +kernel
theorem dX6_keys_49 : decode cX6_keys 49 = .ok (.invokestatic 160, 3) := by decide +kernel
theorem dX6_keys_52 : decode cX6_keys 52 = .ok (.istore 6, 2) := by decide +kernel
theorem dX6_keys_54 : decode cX6_keys 54 = .ok (.iload 5, 2) := by decide +kernel
theorem dX6_keys_56 : decode cX6_keys 56 = .ok (.aload_n 0, 1) := by decide +kernel
theorem dX6_keys_57 : decode cX6_keys 57 = .ok (.getfield 26, 3) := by decide +kernel
theorem dX6_keys_60 : decode cX6_keys 60 = .ok (.getfield 112, 3) := by decide +kernel
theorem dX6_keys_63 : decode cX6_keys 63 = .ok (.iand, 1) := by decide +kernel
theorem dX6_keys_64 : decode cX6_keys 64 = .ok (.ifCond .ne 28, 3) := by decide +kernel
theorem dX6_keys_67 : decode cX6_keys 67 = .ok (.iload 6, 2) := by decide +kernel
theorem dX6_keys_69 : decode cX6_keys 69 = .ok (.iload 4, 2) := by decide +kernel
theorem dX6_keys_71 : decode cX6_keys 71 = .ok (.if_icmp .ge 21, 3) := by decide +kernel
theorem dX6_keys_74 : decode cX6_keys 74 = .ok (.aload_n 0, 1) := by decide +kernel
theorem dX6_keys_75 : decode cX6_keys 75 = .ok (.iload_n 1, 1) := by decide +kernel
theorem dX6_keys_76 : decode cX6_keys 76 = .ok (.iload 5, 2) := by decide +kernel
theorem dX6_keys_78 : decode cX6_keys 78 = .ok (.invokevirtual 165, 3) := by decide +kernel
theorem dX6_keys_81 : decode cX6_keys 81 = .ok (.iload_n 2, 1) := by decide +kernel
theorem dX6_keys_82 : decode cX6_keys 82 = .ok (.if_icmp .gt 10, 3) := by decide +kernel
theorem dX6_keys_85 : decode cX6_keys 85 = .ok (.iload 5, 2) := by decide +kernel
theorem dX6_keys_87 : decode cX6_keys 87 = .ok (.istore_n 3, 1) := by decide +kernel
theorem dX6_keys_88 : decode cX6_keys 88 = .ok (.iload 6, 2) := by decide +kernel
theorem dX6_keys_90 : decode cX6_keys 90 = .ok (.istore 4, 2) := by decide +kernel
theorem dX6_keys_92 : decode cX6_keys 92 = .ok (.iinc 5 1, 3) := by decide +kernel
theorem dX6_keys_95 : decode cX6_keys 95 = .ok (.goto (-62), 3) := by decide +kernel
theorem dX6_keys_98 : decode cX6_keys 98 = .ok (.iload_n 3, 1) := by decide +kernel
theorem dX6_keys_99 : decode cX6_keys 99 = .ok (.ireturn, 1) := by decide +kernel
theorem dX6_judge_0 : decode cX6_judge 0 = .ok (.iload_n 1, 1) := by decide +kernel
theorem dX6_judge_1 : decode cX6_judge 1 = .ok (.iconst 1, 1) := by decide +kernel
theorem dX6_judge_2 : decode cX6_judge 2 = .ok (.if_icmp .lt 17, 3) := by decide +kernel
theorem dX6_judge_5 : decode cX6_judge 5 = .ok (.iload_n 1, 1) := by decide +kernel
theorem dX6_judge_6 : decode cX6_judge 6 = .ok (.bipush 8, 2) := by decide +kernel
theorem dX6_judge_8 : decode cX6_judge 8 = .ok (.if_icmp .gt 11, 3) := by decide +kernel
theorem dX6_judge_11 : decode cX6_judge 11 = .ok (.iload_n 1, 1) := by decide +kernel
theorem dX6_judge_12 : decode cX6_judge 12 = .ok (.iload_n 2, 1) := by decide +kernel
theorem dX6_judge_13 : decode cX6_judge 13 = .ok (.invokestatic 168, 3) := by decide +kernel
theorem dX6_judge_16 : decode cX6_judge 16 = .ok (.ifCond .ne 6, 3) := by decide +kernel
theorem dX6_judge_19 : decode cX6_judge 19 = .ok (.bipush (-2), 2) := by decide +kernel
theorem dX6_judge_21 : decode cX6_judge 21 = .ok (.ireturn, 1) := by decide +kernel
theorem dX6_judge_22 : decode cX6_judge 22 = .ok (.aload_n 0, 1) := by decide +kernel
theorem dX6_judge_23 : decode cX6_judge 23 = .ok (.getfield 30, 3) := by decide +kernel
theorem dX6_judge_26 : decode cX6_judge 26 = .ok (.aload_n 0, 1) := by decide +kernel
theorem dX6_judge_27 : decode cX6_judge 27 = .ok (.getfield 26, 3) := by decide +kernel
theorem dX6_judge_30 : decode cX6_judge 30 = .ok (.invokevirtual 172, 3) := by decide +kernel
theorem dX6_judge_33 : decode cX6_judge 33 = .ok (.iconst 0, 1) := by decide +kernel
theorem dX6_judge_34 : decode cX6_judge 34 = .ok (.istore_n 3, 1) := by decide +kernel
theorem dX6_judge_35 : decode cX6_judge 35 = .ok (.iload_n 3, 1) := by decide +kernel
theorem dX6_judge_36 : decode cX6_judge 36 = .ok (.iload_n 1, 1) := by decide +kernel
theorem dX6_judge_37 : decode cX6_judge 37 = .ok (.if_icmp .ge 63, 3) := by decide +kernel
theorem dX6_judge_40 : decode cX6_judge 40 = .ok (.iload_n 1, 1) := by decide +kernel
theorem dX6_judge_41 : decode cX6_judge 41 = .ok (.iload_n 2, 1) := by decide +kernel
theorem dX6_judge_42 : decode cX6_judge 42 = .ok (.iload_n 3, 1) := by decide +kernel
theorem dX6_judge_43 : decode cX6_judge 43 = .ok (.invokestatic 175, 3) := by decide +kernel
theorem dX6_judge_46 : decode cX6_judge 46 = .ok (.istore 4, 2) := by decide +kernel
theorem dX6_judge_48 : decode cX6_judge 48 = .ok (.aload_n 0, 1) := by decide +kernel
theorem dX6_judge_49 : decode cX6_judge 49 = .ok (.getfield 30, 3) := by decide +kernel
theorem dX6_judge_52 : decode cX6_judge 52 = .ok (.aload_n 0, 1) := by decide +kernel
theorem dX6_judge_53 : decode cX6_judge 53 = .ok (.getfield 19, 3) := by decide +kernel
theorem dX6_judge_56 : decode cX6_judge 56 = .ok (.iload 4, 2) := by decide +kernel
theorem dX6_judge_58 : decode cX6_judge 58 = .ok (.invokevirtual 135, 3) := by decide +kernel
theorem dX6_judge_61 : decode cX6_judge 61 = .ok (.ifCond .ne 5, 3) := by decide +kernel
theorem dX6_judge_64 : decode cX6_judge 64 = .ok (.iload_n 3, 1) := by decide +kernel
theorem dX6_judge_65 : decode cX6_judge 65 = .ok (.ireturn, 1) := by decide +kernel
theorem dX6_judge_66 : decode cX6_judge 66 = .ok (.aload_n 0, 1) := by decide +kernel
theorem dX6_judge_67 : decode cX6_judge 67 = .ok (.getfield 30, 3) := by decide +kernel
theorem dX6_judge_70 : decode cX6_judge 70 = .ok (.aload_n 0, 1) := by decide +kernel
theorem dX6_judge_71 : decode cX6_judge 71 = .ok (.getfield 19, 3) := by decide +kernel
theorem dX6_judge_74 : decode cX6_judge 74 = .ok (.iload 4, 2) := by decide +kernel
theorem dX6_judge_76 : decode cX6_judge 76 = .ok (.invokevirtual 149, 3) := by decide +kernel
theorem dX6_judge_79 : decode cX6_judge 79 = .ok (.istore 5, 2) := by decide +kernel
theorem dX6_judge_81 : decode cX6_judge 81 = .ok (.iload 4, 2) := by decide +kernel
theorem dX6_judge_83 : decode cX6_judge 83 = .ok (.iconst 2, 1) := by decide +kernel
theorem dX6_judge_84 : decode cX6_judge 84 = .ok (.if_icmp .ne 10, 3) := by decide +kernel
theorem dX6_judge_87 : decode cX6_judge 87 = .ok (.iload 5, 2) := by decide +kernel
theorem dX6_judge_89 : decode cX6_judge 89 = .ok (.ifCond .ne 5, 3) := by decide +kernel
theorem dX6_judge_92 : decode cX6_judge 92 = .ok (.iload_n 3, 1) := by decide +kernel
theorem dX6_judge_93 : decode cX6_judge 93 = .ok (.ireturn, 1) := by decide +kernel
theorem dX6_judge_94 : decode cX6_judge 94 = .ok (.iinc 3 1, 3) := by decide +kernel
theorem dX6_judge_97 : decode cX6_judge 97 = .ok (.goto (-62), 3) := by decide +kernel
theorem dX6_judge_100 : decode cX6_judge 100 = .ok (.bipush (-9), 2) := by decide +kernel
theorem dX6_judge_102 : decode cX6_judge 102 = .ok (.ireturn, 1) := by decide +kernel
theorem dX6_share_0 : decode cX6_share 0 = .ok (.aload_n 0, 1) := by decide +kernel
theorem dX6_share_1 : decode cX6_share 1 = .ok (.getfield 19, 3) := by decide +kernel
theorem dX6_share_4 : decode cX6_share 4 = .ok (.iload_n 1, 1) := by decide +kernel
theorem dX6_share_5 : decode cX6_share 5 = .ok (.invokevirtual 116, 3) := by decide +kernel
theorem dX6_share_8 : decode cX6_share 8 = .ok (.ifCond .ne 5, 3) := by decide +kernel
theorem dX6_share_11 : decode cX6_share 11 = .ok (.iconst (-1), 1) := by decide +kernel
theorem dX6_share_12 : decode cX6_share 12 = .ok (.ireturn, 1) := by decide +kernel
theorem dX6_share_13 : decode cX6_share 13 = .ok (.iconst 0, 1) := by decide +kernel
theorem dX6_share_14 : decode cX6_share 14 = .ok (.istore_n 3, 1) := by decide +kernel
theorem dX6_share_15 : decode cX6_share 15 = .ok (.iconst 0, 1) := by decide +kernel
theorem dX6_share_16 : decode cX6_share 16 = .ok (.istore 4, 2) := by decide +kernel
theorem dX6_share_18 : decode cX6_share 18 = .ok (.iload 4, 2) := by decide +kernel
theorem dX6_share_20 : decode cX6_share 20 = .ok (.iconst 1, 1) := by decide +kernel
theorem dX6_share_21 : decode cX6_share 21 = .ok (.aload_n 0, 1) := by decide +kernel
theorem dX6_share_22 : decode cX6_share 22 = .ok (.getfield 19, 3) := by decide +kernel
theorem dX6_share_25 : decode cX6_share 25 = .ok (.getfield 96, 3) := by decide +kernel
theorem dX6_share_28 : decode cX6_share 28 = .ok (.ishl, 1) := by decide +kernel
theorem dX6_share_29 : decode cX6_share 29 = .ok (.if_icmp .ge 71, 3) := by decide +kernel
theorem dX6_share_32 : decode cX6_share 32 = .ok (.iload 4, 2) := by decide +kernel
theorem dX6_share_34 : decode cX6_share 34 = .ok (.iload_n 1, 1) := by decide +kernel
theorem dX6_share_35 : decode cX6_share 35 = .ok (.ishr, 1) := by decide +kernel
theorem dX6_share_36 : decode cX6_share 36 = .ok (.iconst 1, 1) := by decide +kernel
theorem dX6_share_37 : decode cX6_share 37 = .ok (.iand, 1) := by decide +kernel
theorem dX6_share_38 : decode cX6_share 38 = .ok (.ifCond .ne 56, 3) := by decide +kernel
theorem dX6_share_41 : decode cX6_share 41 = .ok (.iload 4, 2) := by decide +kernel
theorem dX6_share_43 : decode cX6_share 43 = .ok (.invokestatic 160, 3) := by decide +kernel
theorem dX6_share_46 : decode cX6_share 46 = .ok (.istore 5, 2) := by decide +kernel
theorem dX6_share_48 : decode cX6_share 48 = .ok (.iload 5, 2) := by decide +kernel
theorem dX6_share_50 : decode cX6_share 50 = .ok (.invokestatic 179, 3) := by decide +kernel
theorem dX6_share_53 : decode cX6_share 53 = .ok (.aload_n 0, 1) := by decide +kernel
theorem dX6_share_54 : decode cX6_share 54 = .ok (.getfield 19, 3) := by decide +kernel
theorem dX6_share_57 : decode cX6_share 57 = .ok (.getfield 96, 3) := by decide +kernel
theorem dX6_share_60 : decode cX6_share 60 = .ok (.iload 5, 2) := by decide +kernel
theorem dX6_share_62 : decode cX6_share 62 = .ok (.isub, 1) := by decide +kernel
theorem dX6_share_63 : decode cX6_share 63 = .ok (.iconst 1, 1) := by decide +kernel
theorem dX6_share_64 : decode cX6_share 64 = .ok (.isub, 1) := by decide +kernel
theorem dX6_share_65 : decode cX6_share 65 = .ok (.invokestatic 179, 3) := by decide +kernel
theorem dX6_share_68 : decode cX6_share 68 = .ok (.imul, 1) := by decide +kernel
theorem dX6_share_69 : decode cX6_share 69 = .ok (.istore 6, 2) := by decide +kernel
theorem dX6_share_71 : decode cX6_share 71 = .ok (.iload_n 3, 1) := by decide +kernel
theorem dX6_share_72 : decode cX6_share 72 = .ok (.iload 6, 2) := by decide +kernel
theorem dX6_share_74 : decode cX6_share 74 = .ok (.aload_n 0, 1) := by decide +kernel
theorem dX6_share_75 : decode cX6_share 75 = .ok (.iload 4, 2) := by decide +kernel
theorem dX6_share_77 : decode cX6_share 77 = .ok (.iconst 1, 1) := by decide +kernel
theorem dX6_share_78 : decode cX6_share 78 = .ok (.iload_n 1, 1) := by decide +kernel
theorem dX6_share_79 : decode cX6_share 79 = .ok (.ishl, 1) := by decide +kernel
theorem dX6_share_80 : decode cX6_share 80 = .ok (.ior, 1) := by decide +kernel
theorem dX6_share_81 : decode cX6_share 81 = .ok (.invokevirtual 182, 3) := by decide +kernel
theorem dX6_share_84 : decode cX6_share 84 = .ok (.aload_n 0, 1) := by decide +kernel
theorem dX6_share_85 : decode cX6_share 85 = .ok (.iload 4, 2) := by decide +kernel
theorem dX6_share_87 : decode cX6_share 87 = .ok (.invokevirtual 182, 3) := by decide +kernel
theorem dX6_share_90 : decode cX6_share 90 = .ok (.isub, 1) := by decide +kernel
theorem dX6_share_91 : decode cX6_share 91 = .ok (.imul, 1) := by decide +kernel
theorem dX6_share_92 : decode cX6_share 92 = .ok (.iadd, 1) := by decide +kernel
theorem dX6_share_93 : decode cX6_share 93 = .ok (.istore_n 3, 1) := by decide +kernel
theorem dX6_share_94 : decode cX6_share 94 = .ok (.iinc 4 1, 3) := by decide +kernel
theorem dX6_share_97 : decode cX6_share 97 = .ok (.goto (-79), 3) := by decide +kernel
theorem dX6_share_100 : decode cX6_share 100 = .ok (.iload_n 3, 1) := by decide +kernel
theorem dX6_share_101 : decode cX6_share 101 = .ok (.aload_n 0, 1) := by decide +kernel
theorem dX6_share_102 : decode cX6_share 102 = .ok (.getfield 19, 3) := by decide +kernel
theorem dX6_share_105 : decode cX6_share 105 = .ok (.getfield 96, 3) := by decide +kernel
theorem dX6_share_108 : decode cX6_share 108 = .ok (.invokestatic 179, 3) := by decide +kernel
theorem dX6_share_111 : decode cX6_share 111 = .ok (.iload_n 2, 1) := by decide +kernel
theorem dX6_share_112 : decode cX6_share 112 = .ok (.invokestatic 185, 3) := by decide +kernel
theorem dX6_share_115 : decode cX6_share 115 = .ok (.ireturn, 1) := by decide +kernel
theorem dX6_bestWithKeys_0 : decode cX6_bestWithKeys 0 = .ok (.aload_n 0, 1) := by decide +kernel
theorem dX6_bestWithKeys_1 : decode cX6_bestWithKeys 1 = .ok (.getfield 30, 3) := by decide +kernel
theorem dX6_bestWithKeys_4 : decode cX6_bestWithKeys 4 = .ok (.aload_n 0, 1) := by decide +kernel
theorem dX6_bestWithKeys_5 : decode cX6_bestWithKeys 5 = .ok (.getfield 26, 3) := by decide +kernel
theorem dX6_bestWithKeys_8 : decode cX6_bestWithKeys 8 = .ok (.invokevirtual 172, 3) := by decide +kernel
theorem dX6_bestWithKeys_11 : decode cX6_bestWithKeys 11 = .ok (.aload_n 0, 1) := by decide +kernel
theorem dX6_bestWithKeys_12 : decode cX6_bestWithKeys 12 = .ok (.getfield 30, 3) := by decide +kernel
theorem dX6_bestWithKeys_15 : decode cX6_bestWithKeys 15 = .ok (.dup, 1) := by decide +kernel
theorem dX6_bestWithKeys_16 : decode cX6_bestWithKeys 16 = .ok (.getfield 112, 3) := by decide +kernel
theorem dX6_bestWithKeys_19 : decode cX6_bestWithKeys 19 = .ok (.iload_n 2, 1) := by decide +kernel
theorem dX6_bestWithKeys_20 : decode cX6_bestWithKeys 20 = .ok (.ior, 1) := by decide +kernel
theorem dX6_bestWithKeys_21 : decode cX6_bestWithKeys 21 = .ok (.putfield 112, 3) := by decide +kernel
theorem dX6_bestWithKeys_24 : decode cX6_bestWithKeys 24 = .ok (.aload_n 0, 1) := by decide +kernel
theorem dX6_bestWithKeys_25 : decode cX6_bestWithKeys 25 = .ok (.getfield 43, 3) := by decide +kernel
theorem dX6_bestWithKeys_28 : decode cX6_bestWithKeys 28 = .ok (.aload_n 0, 1) := by decide +kernel
theorem dX6_bestWithKeys_29 : decode cX6_bestWithKeys 29 = .ok (.getfield 19, 3) := by decide +kernel
theorem dX6_bestWithKeys_32 : decode cX6_bestWithKeys 32 = .ok (.aload_n 0, 1) := by decide +kernel
theorem dX6_bestWithKeys_33 : decode cX6_bestWithKeys 33 = .ok (.getfield 30, 3) := by decide +kernel
theorem dX6_bestWithKeys_36 : decode cX6_bestWithKeys 36 = .ok (.iload_n 1, 1) := by decide +kernel
theorem dX6_bestWithKeys_37 : decode cX6_bestWithKeys 37 = .ok (.invokevirtual 157, 3) := by decide +kernel
theorem dX6_bestWithKeys_40 : decode cX6_bestWithKeys 40 = .ok (.ireturn, 1) := by decide +kernel
theorem dX6_bestAmong_0 : decode cX6_bestAmong 0 = .ok (.aload_n 0, 1) := by decide +kernel
theorem dX6_bestAmong_1 : decode cX6_bestAmong 1 = .ok (.getfield 30, 3) := by decide +kernel
theorem dX6_bestAmong_4 : decode cX6_bestAmong 4 = .ok (.aload_n 0, 1) := by decide +kernel
theorem dX6_bestAmong_5 : decode cX6_bestAmong 5 = .ok (.getfield 26, 3) := by decide +kernel
theorem dX6_bestAmong_8 : decode cX6_bestAmong 8 = .ok (.invokevirtual 172, 3) := by decide +kernel
theorem dX6_bestAmong_11 : decode cX6_bestAmong 11 = .ok (.aload_n 0, 1) := by decide +kernel
theorem dX6_bestAmong_12 : decode cX6_bestAmong 12 = .ok (.getfield 30, 3) := by decide +kernel
theorem dX6_bestAmong_15 : decode cX6_bestAmong 15 = .ok (.dup, 1) := by decide +kernel
theorem dX6_bestAmong_16 : decode cX6_bestAmong 16 = .ok (.getfield 109, 3) := by decide +kernel
theorem dX6_bestAmong_19 : decode cX6_bestAmong 19 = .ok (.iload_n 1, 1) := by decide +kernel
theorem dX6_bestAmong_20 : decode cX6_bestAmong 20 = .ok (.iand, 1) := by decide +kernel
theorem dX6_bestAmong_21 : decode cX6_bestAmong 21 = .ok (.putfield 109, 3) := by decide +kernel
theorem dX6_bestAmong_24 : decode cX6_bestAmong 24 = .ok (.aload_n 0, 1) := by decide +kernel
theorem dX6_bestAmong_25 : decode cX6_bestAmong 25 = .ok (.getfield 43, 3) := by decide +kernel
theorem dX6_bestAmong_28 : decode cX6_bestAmong 28 = .ok (.aload_n 0, 1) := by decide +kernel
theorem dX6_bestAmong_29 : decode cX6_bestAmong 29 = .ok (.getfield 19, 3) := by decide +kernel
theorem dX6_bestAmong_32 : decode cX6_bestAmong 32 = .ok (.aload_n 0, 1) := by decide +kernel
theorem dX6_bestAmong_33 : decode cX6_bestAmong 33 = .ok (.getfield 30, 3) := by decide +kernel
theorem dX6_bestAmong_36 : decode cX6_bestAmong 36 = .ok (.iconst 3, 1) := by decide +kernel
theorem dX6_bestAmong_37 : decode cX6_bestAmong 37 = .ok (.invokevirtual 157, 3) := by decide +kernel
theorem dX6_bestAmong_40 : decode cX6_bestAmong 40 = .ok (.ireturn, 1) := by decide +kernel
theorem dX6_see_0 : decode cX6_see 0 = .ok (.aload_n 0, 1) := by decide +kernel
theorem dX6_see_1 : decode cX6_see 1 = .ok (.getfield 19, 3) := by decide +kernel
theorem dX6_see_4 : decode cX6_see 4 = .ok (.iload_n 1, 1) := by decide +kernel
theorem dX6_see_5 : decode cX6_see 5 = .ok (.invokevirtual 116, 3) := by decide +kernel
theorem dX6_see_8 : decode cX6_see 8 = .ok (.ifCond .ne 5, 3) := by decide +kernel
theorem dX6_see_11 : decode cX6_see 11 = .ok (.iconst (-1), 1) := by decide +kernel
theorem dX6_see_12 : decode cX6_see 12 = .ok (.ireturn, 1) := by decide +kernel
theorem dX6_see_13 : decode cX6_see 13 = .ok (.iload_n 2, 1) := by decide +kernel
theorem dX6_see_14 : decode cX6_see 14 = .ok (.ifCond .lt 31, 3) := by decide +kernel
theorem dX6_see_17 : decode cX6_see 17 = .ok (.iload_n 2, 1) := by decide +kernel
theorem dX6_see_18 : decode cX6_see 18 = .ok (.bipush 9, 2) := by decide +kernel
theorem dX6_see_20 : decode cX6_see 20 = .ok (.if_icmp .gt 25, 3) := by decide +kernel
theorem dX6_see_23 : decode cX6_see 23 = .ok (.iload_n 3, 1) := by decide +kernel
theorem dX6_see_24 : decode cX6_see 24 = .ok (.ifCond .lt 21, 3) := by decide +kernel
theorem dX6_see_27 : decode cX6_see 27 = .ok (.iload_n 3, 1) := by decide +kernel
theorem dX6_see_28 : decode cX6_see 28 = .ok (.bipush 9, 2) := by decide +kernel
theorem dX6_see_30 : decode cX6_see 30 = .ok (.if_icmp .gt 15, 3) := by decide +kernel
theorem dX6_see_33 : decode cX6_see 33 = .ok (.iload 4, 2) := by decide +kernel
theorem dX6_see_35 : decode cX6_see 35 = .ok (.ifCond .lt 10, 3) := by decide +kernel
theorem dX6_see_38 : decode cX6_see 38 = .ok (.iload 4, 2) := by decide +kernel
theorem dX6_see_40 : decode cX6_see 40 = .ok (.bipush 10, 2) := by decide +kernel
theorem dX6_see_42 : decode cX6_see 42 = .ok (.if_icmp .le 6, 3) := by decide +kernel
theorem dX6_see_45 : decode cX6_see 45 = .ok (.bipush (-2), 2) := by decide +kernel
theorem dX6_see_47 : decode cX6_see 47 = .ok (.ireturn, 1) := by decide +kernel
theorem dX6_see_48 : decode cX6_see 48 = .ok (.aload_n 0, 1) := by decide +kernel
theorem dX6_see_49 : decode cX6_see 49 = .ok (.getfield 50, 3) := by decide +kernel
theorem dX6_see_52 : decode cX6_see 52 = .ok (.getfield 115, 3) := by decide +kernel
theorem dX6_see_55 : decode cX6_see 55 = .ok (.bipush 6, 2) := by decide +kernel
theorem dX6_see_57 : decode cX6_see 57 = .ok (.if_icmp .lt 6, 3) := by decide +kernel
theorem dX6_see_60 : decode cX6_see 60 = .ok (.bipush (-4), 2) := by decide +kernel
theorem dX6_see_62 : decode cX6_see 62 = .ok (.ireturn, 1) := by decide +kernel
theorem dX6_see_63 : decode cX6_see 63 = .ok (.aload_n 0, 1) := by decide +kernel
theorem dX6_see_64 : decode cX6_see 64 = .ok (.getfield 50, 3) := by decide +kernel
theorem dX6_see_67 : decode cX6_see 67 = .ok (.iload_n 1, 1) := by decide +kernel
theorem dX6_see_68 : decode cX6_see 68 = .ok (.iload_n 2, 1) := by decide +kernel
theorem dX6_see_69 : decode cX6_see 69 = .ok (.iload_n 3, 1) := by decide +kernel
theorem dX6_see_70 : decode cX6_see 70 = .ok (.iload 4, 2) := by decide +kernel
theorem dX6_see_72 : decode cX6_see 72 = .ok (.invokevirtual 189, 3) := by decide +kernel
theorem dX6_see_75 : decode cX6_see 75 = .ok (.aload_n 0, 1) := by decide +kernel
theorem dX6_see_76 : decode cX6_see 76 = .ok (.getfield 50, 3) := by decide +kernel
theorem dX6_see_79 : decode cX6_see 79 = .ok (.getfield 115, 3) := by decide +kernel
theorem dX6_see_82 : decode cX6_see 82 = .ok (.ireturn, 1) := by decide +kernel
theorem dX6_unsee_0 : decode cX6_unsee 0 = .ok (.aload_n 0, 1) := by decide +kernel
theorem dX6_unsee_1 : decode cX6_unsee 1 = .ok (.getfield 50, 3) := by decide +kernel
theorem dX6_unsee_4 : decode cX6_unsee 4 = .ok (.getfield 115, 3) := by decide +kernel
theorem dX6_unsee_7 : decode cX6_unsee 7 = .ok (.istore_n 1, 1) := by decide +kernel
theorem dX6_unsee_8 : decode cX6_unsee 8 = .ok (.aload_n 0, 1) := by decide +kernel
theorem dX6_unsee_9 : decode cX6_unsee 9 = .ok (.getfield 50, 3) := by decide +kernel
theorem dX6_unsee_12 : decode cX6_unsee 12 = .ok (.iconst 0, 1) := by decide +kernel
theorem dX6_unsee_13 : decode cX6_unsee 13 = .ok (.putfield 115, 3) := by decide +kernel
theorem dX6_unsee_16 : decode cX6_unsee 16 = .ok (.iload_n 1, 1) := by decide +kernel
theorem dX6_unsee_17 : decode cX6_unsee 17 = .ok (.ireturn, 1) := by decide +kernel
theorem dX6_shapes_0 : decode cX6_shapes 0 = .ok (.aload_n 0, 1) := by decide +kernel
theorem dX6_shapes_1 : decode cX6_shapes 1 = .ok (.getfield 19, 3) := by decide +kernel
theorem dX6_shapes_4 : decode cX6_shapes 4 = .ok (.iload_n 1, 1) := by decide +kernel
theorem dX6_shapes_5 : decode cX6_shapes 5 = .ok (.invokevirtual 116, 3) := by decide +kernel
theorem dX6_shapes_8 : decode cX6_shapes 8 = .ok (.ifCond .ne 5, 3) := by decide +kernel
theorem dX6_shapes_11 : decode cX6_shapes 11 = .ok (.iconst (-1), 1) := by decide +kernel
theorem dX6_shapes_12 : decode cX6_shapes 12 = .ok (.ireturn, 1) := by decide +kernel
theorem dX6_shapes_13 : decode cX6_shapes 13 = .ok (.iconst 0, 1) := by decide +kernel
theorem dX6_shapes_14 : decode cX6_shapes 14 = .ok (.istore_n 2, 1) := by decide +kernel
theorem dX6_shapes_15 : decode cX6_shapes 15 = .ok (.iconst 0, 1) := by decide +kernel
theorem dX6_shapes_16 : decode cX6_shapes 16 = .ok (.istore_n 3, 1) := by decide +kernel
theorem dX6_shapes_17 : decode cX6_shapes 17 = .ok (.iload_n 3, 1) := by decide +kernel
theorem dX6_shapes_18 : decode cX6_shapes 18 = .ok (.iconst 3, 1) := by decide +kernel
theorem dX6_shapes_19 : decode cX6_shapes 19 = .ok (.if_icmp .gt 27, 3) := by decide +kernel
theorem dX6_shapes_22 : decode cX6_shapes 22 = .ok (.aload_n 0, 1) := by decide +kernel
theorem dX6_shapes_23 : decode cX6_shapes 23 = .ok (.getfield 50, 3) := by decide +kernel
theorem dX6_shapes_26 : decode cX6_shapes 26 = .ok (.iload_n 1, 1) := by decide +kernel
theorem dX6_shapes_27 : decode cX6_shapes 27 = .ok (.iload_n 3, 1) := by decide +kernel
theorem dX6_shapes_28 : decode cX6_shapes 28 = .ok (.invokevirtual 192, 3) := by decide +kernel
theorem dX6_shapes_31 : decode cX6_shapes 31 = .ok (.ifCond .eq 9, 3) := by decide +kernel
theorem dX6_shapes_34 : decode cX6_shapes 34 = .ok (.iload_n 2, 1) := by decide +kernel
theorem dX6_shapes_35 : decode cX6_shapes 35 = .ok (.iconst 1, 1) := by decide +kernel
theorem dX6_shapes_36 : decode cX6_shapes 36 = .ok (.iload_n 3, 1) := by decide +kernel
theorem dX6_shapes_37 : decode cX6_shapes 37 = .ok (.ishl, 1) := by decide +kernel
theorem dX6_shapes_38 : decode cX6_shapes 38 = .ok (.ior, 1) := by decide +kernel
theorem dX6_shapes_39 : decode cX6_shapes 39 = .ok (.istore_n 2, 1) := by decide +kernel
theorem dX6_shapes_40 : decode cX6_shapes 40 = .ok (.iinc 3 1, 3) := by decide +kernel
theorem dX6_shapes_43 : decode cX6_shapes 43 = .ok (.goto (-26), 3) := by decide +kernel
theorem dX6_shapes_46 : decode cX6_shapes 46 = .ok (.iload_n 2, 1) := by decide +kernel
theorem dX6_shapes_47 : decode cX6_shapes 47 = .ok (.ireturn, 1) := by decide +kernel
theorem dX6_rests_0 : decode cX6_rests 0 = .ok (.iload_n 1, 1) := by decide +kernel
theorem dX6_rests_1 : decode cX6_rests 1 = .ok (.ifCond .eq 11, 3) := by decide +kernel
theorem dX6_rests_4 : decode cX6_rests 4 = .ok (.iload_n 1, 1) := by decide +kernel
theorem dX6_rests_5 : decode cX6_rests 5 = .ok (.iconst 1, 1) := by decide +kernel
theorem dX6_rests_6 : decode cX6_rests 6 = .ok (.if_icmp .eq 6, 3) := by decide +kernel
theorem dX6_rests_9 : decode cX6_rests 9 = .ok (.bipush (-2), 2) := by decide +kernel
theorem dX6_rests_11 : decode cX6_rests 11 = .ok (.ireturn, 1) := by decide +kernel
theorem dX6_rests_12 : decode cX6_rests 12 = .ok (.iconst 0, 1) := by decide +kernel
theorem dX6_rests_13 : decode cX6_rests 13 = .ok (.istore_n 2, 1) := by decide +kernel
theorem dX6_rests_14 : decode cX6_rests 14 = .ok (.bipush (-9), 2) := by decide +kernel
theorem dX6_rests_16 : decode cX6_rests 16 = .ok (.istore_n 3, 1) := by decide +kernel
theorem dX6_rests_17 : decode cX6_rests 17 = .ok (.iconst 0, 1) := by decide +kernel
theorem dX6_rests_18 : decode cX6_rests 18 = .ok (.istore 4, 2) := by decide +kernel
theorem dX6_rests_20 : decode cX6_rests 20 = .ok (.iload 4, 2) := by decide +kernel
theorem dX6_rests_22 : decode cX6_rests 22 = .ok (.aload_n 0, 1) := by decide +kernel
theorem dX6_rests_23 : decode cX6_rests 23 = .ok (.getfield 19, 3) := by decide +kernel
theorem dX6_rests_26 : decode cX6_rests 26 = .ok (.getfield 96, 3) := by decide +kernel
theorem dX6_rests_29 : decode cX6_rests 29 = .ok (.if_icmp .ge 72, 3) := by decide +kernel
theorem dX6_rests_32 : decode cX6_rests 32 = .ok (.iconst 0, 1) := by decide +kernel
theorem dX6_rests_33 : decode cX6_rests 33 = .ok (.istore 5, 2) := by decide +kernel
theorem dX6_rests_35 : decode cX6_rests 35 = .ok (.iload 5, 2) := by decide +kernel
theorem dX6_rests_37 : decode cX6_rests 37 = .ok (.aload_n 0, 1) := by decide +kernel
theorem dX6_rests_38 : decode cX6_rests 38 = .ok (.getfield 19, 3) := by decide +kernel
theorem dX6_rests_41 : decode cX6_rests 41 = .ok (.getfield 96, 3) := by decide +kernel
theorem dX6_rests_44 : decode cX6_rests 44 = .ok (.if_icmp .ge 51, 3) := by decide +kernel
theorem dX6_rests_47 : decode cX6_rests 47 = .ok (.aload_n 0, 1) := by decide +kernel
theorem dX6_rests_48 : decode cX6_rests 48 = .ok (.iload 4, 2) := by decide +kernel
theorem dX6_rests_50 : decode cX6_rests 50 = .ok (.iload 5, 2) := by decide +kernel
theorem dX6_rests_52 : decode cX6_rests 52 = .ok (.invokevirtual 195, 3) := by decide +kernel
theorem dX6_rests_55 : decode cX6_rests 55 = .ok (.ifCond .eq 34, 3) := by decide +kernel
theorem dX6_rests_58 : decode cX6_rests 58 = .ok (.aload_n 0, 1) := by decide +kernel
theorem dX6_rests_59 : decode cX6_rests 59 = .ok (.iload 5, 2) := by decide +kernel
theorem dX6_rests_61 : decode cX6_rests 61 = .ok (.iload 4, 2) := by decide +kernel
theorem dX6_rests_63 : decode cX6_rests 63 = .ok (.invokevirtual 195, 3) := by decide +kernel
theorem dX6_rests_66 : decode cX6_rests 66 = .ok (.ifCond .eq 23, 3) := by decide +kernel
theorem dX6_rests_69 : decode cX6_rests 69 = .ok (.iload_n 2, 1) := by decide +kernel
theorem dX6_rests_70 : decode cX6_rests 70 = .ok (.ifCond .ne 14, 3) := by decide +kernel
theorem dX6_rests_73 : decode cX6_rests 73 = .ok (.bipush 10, 2) := by decide +kernel
theorem dX6_rests_75 : decode cX6_rests 75 = .ok (.iload 4, 2) := by decide +kernel
theorem dX6_rests_77 : decode cX6_rests 77 = .ok (.imul, 1) := by decide +kernel
theorem dX6_rests_78 : decode cX6_rests 78 = .ok (.iload 5, 2) := by decide +kernel
theorem dX6_rests_80 : decode cX6_rests 80 = .ok (.iadd, 1) := by decide +kernel
theorem dX6_rests_81 : decode cX6_rests 81 = .ok (.goto 4, 3) := by decide +kernel
theorem dX6_rests_84 : decode cX6_rests 84 = .ok (.iload_n 3, 1) := by decide +kernel
theorem dX6_rests_85 : decode cX6_rests 85 = .ok (.istore_n 3, 1) := by decide +kernel
theorem dX6_rests_86 : decode cX6_rests 86 = .ok (.iinc 2 1, 3) := by decide +kernel
theorem dX6_rests_89 : decode cX6_rests 89 = .ok (.iinc 5 1, 3) := by decide +kernel
theorem dX6_rests_92 : decode cX6_rests 92 = .ok (.goto (-57), 3) := by decide +kernel
theorem dX6_rests_95 : decode cX6_rests 95 = .ok (.iinc 4 1, 3) := by decide +kernel
theorem dX6_rests_98 : decode cX6_rests 98 = .ok (.goto (-78), 3) := by decide +kernel
theorem dX6_rests_101 : decode cX6_rests 101 = .ok (.iload_n 1, 1) := by decide +kernel
theorem dX6_rests_102 : decode cX6_rests 102 = .ok (.ifCond .ne 7, 3) := by decide +kernel
theorem dX6_rests_105 : decode cX6_rests 105 = .ok (.iload_n 2, 1) := by decide +kernel
theorem dX6_rests_106 : decode cX6_rests 106 = .ok (.goto 4, 3) := by decide +kernel
theorem dX6_rests_109 : decode cX6_rests 109 = .ok (.iload_n 3, 1) := by decide +kernel
theorem dX6_rests_110 : decode cX6_rests 110 = .ok (.ireturn, 1) := by decide +kernel
theorem dX6_chance_0 : decode cX6_chance 0 = .ok (.iload_n 1, 1) := by decide +kernel
theorem dX6_chance_1 : decode cX6_chance 1 = .ok (.iconst 1, 1) := by decide +kernel
theorem dX6_chance_2 : decode cX6_chance 2 = .ok (.if_icmp .lt 39, 3) := by decide +kernel
theorem dX6_chance_5 : decode cX6_chance 5 = .ok (.iload_n 1, 1) := by decide +kernel
theorem dX6_chance_6 : decode cX6_chance 6 = .ok (.bipush 6, 2) := by decide +kernel
theorem dX6_chance_8 : decode cX6_chance 8 = .ok (.if_icmp .gt 33, 3) := by decide +kernel
theorem dX6_chance_11 : decode cX6_chance 11 = .ok (.iload_n 1, 1) := by decide +kernel
theorem dX6_chance_12 : decode cX6_chance 12 = .ok (.iload_n 2, 1) := by decide +kernel
theorem dX6_chance_13 : decode cX6_chance 13 = .ok (.invokestatic 168, 3) := by decide +kernel
theorem dX6_chance_16 : decode cX6_chance 16 = .ok (.ifCond .eq 25, 3) := by decide +kernel
theorem dX6_chance_19 : decode cX6_chance 19 = .ok (.iload_n 3, 1) := by decide +kernel
theorem dX6_chance_20 : decode cX6_chance 20 = .ok (.ifCond .lt 21, 3) := by decide +kernel
theorem dX6_chance_23 : decode cX6_chance 23 = .ok (.iload_n 3, 1) := by decide +kernel
theorem dX6_chance_24 : decode cX6_chance 24 = .ok (.bipush 99, 2) := by decide +kernel
theorem dX6_chance_26 : decode cX6_chance 26 = .ok (.if_icmp .gt 15, 3) := by decide +kernel
theorem dX6_chance_29 : decode cX6_chance 29 = .ok (.iload 4, 2) := by decide +kernel
theorem dX6_chance_31 : decode cX6_chance 31 = .ok (.ifCond .lt 10, 3) := by decide +kernel
theorem dX6_chance_34 : decode cX6_chance 34 = .ok (.iload 4, 2) := by decide +kernel
theorem dX6_chance_36 : decode cX6_chance 36 = .ok (.bipush 10, 2) := by decide +kernel
theorem dX6_chance_38 : decode cX6_chance 38 = .ok (.if_icmp .le 6, 3) := by decide +kernel
theorem dX6_chance_41 : decode cX6_chance 41 = .ok (.bipush (-2), 2) := by decide +kernel
theorem dX6_chance_43 : decode cX6_chance 43 = .ok (.ireturn, 1) := by decide +kernel
theorem dX6_chance_44 : decode cX6_chance 44 = .ok (.aload_n 0, 1) := by decide +kernel
theorem dX6_chance_45 : decode cX6_chance 45 = .ok (.iload_n 1, 1) := by decide +kernel
theorem dX6_chance_46 : decode cX6_chance 46 = .ok (.iload_n 2, 1) := by decide +kernel
theorem dX6_chance_47 : decode cX6_chance 47 = .ok (.invokevirtual 198, 3) := by decide +kernel
theorem dX6_chance_50 : decode cX6_chance 50 = .ok (.istore 6, 2) := by decide +kernel
theorem dX6_chance_52 : decode cX6_chance 52 = .ok (.iload 6, 2) := by decide +kernel
theorem dX6_chance_54 : decode cX6_chance 54 = .ok (.ifCond .ge 11, 3) := by decide +kernel
theorem dX6_chance_57 : decode cX6_chance 57 = .ok (.iconst 0, 1) := by decide +kernel
theorem dX6_chance_58 : decode cX6_chance 58 = .ok (.iconst 1, 1) := by decide +kernel
theorem dX6_chance_59 : decode cX6_chance 59 = .ok (.iload 5, 2) := by decide +kernel
theorem dX6_chance_61 : decode cX6_chance 61 = .ok (.invokestatic 185, 3) := by decide +kernel
theorem dX6_chance_64 : decode cX6_chance 64 = .ok (.ireturn, 1) := by decide +kernel
theorem dX6_chance_65 : decode cX6_chance 65 = .ok (.iconst 0, 1) := by decide +kernel
theorem dX6_chance_66 : decode cX6_chance 66 = .ok (.istore 7, 2) := by decide +kernel
theorem dX6_chance_68 : decode cX6_chance 68 = .ok (.iconst 0, 1) := by decide +kernel
theorem dX6_chance_69 : decode cX6_chance 69 = .ok (.istore 8, 2) := by decide +kernel
theorem dX6_chance_71 : decode cX6_chance 71 = .ok (.iload 8, 2) := by decide +kernel
theorem dX6_chance_73 : decode cX6_chance 73 = .ok (.iconst 1, 1) := by decide +kernel
theorem dX6_chance_74 : decode cX6_chance 74 = .ok (.iload 6, 2) := by decide +kernel
theorem dX6_chance_76 : decode cX6_chance 76 = .ok (.ishl, 1) := by decide +kernel
theorem dX6_chance_77 : decode cX6_chance 77 = .ok (.if_icmp .ge 35, 3) := by decide +kernel
theorem dX6_chance_80 : decode cX6_chance 80 = .ok (.aload_n 0, 1) := by decide +kernel
theorem dX6_chance_81 : decode cX6_chance 81 = .ok (.iload 6, 2) := by decide +kernel
theorem dX6_chance_83 : decode cX6_chance 83 = .ok (.iload 8, 2) := by decide +kernel
theorem dX6_chance_85 : decode cX6_chance 85 = .ok (.invokevirtual 201, 3) := by decide +kernel
theorem dX6_chance_88 : decode cX6_chance 88 = .ok (.iload_n 3, 1) := by decide +kernel
theorem dX6_chance_89 : decode cX6_chance 89 = .ok (.if_icmp .lt 17, 3) := by decide +kernel
theorem dX6_chance_92 : decode cX6_chance 92 = .ok (.iload 7, 2) := by decide +kernel
theorem dX6_chance_94 : decode cX6_chance 94 = .ok (.iload 6, 2) := by decide +kernel
theorem dX6_chance_96 : decode cX6_chance 96 = .ok (.iload 8, 2) := by decide +kernel
theorem dX6_chance_98 : decode cX6_chance 98 = .ok (.iload 4, 2) := by decide +kernel
theorem dX6_chance_100 : decode cX6_chance 100 = .ok (.invokestatic 204, 3) := by decide +kernel
theorem dX6_chance_103 : decode cX6_chance 103 = .ok (.iadd, 1) := by decide +kernel
theorem dX6_chance_104 : decode cX6_chance 104 = .ok (.istore 7, 2) := by decide +kernel
theorem dX6_chance_106 : decode cX6_chance 106 = .ok (.iinc 8 1, 3) := by decide +kernel
theorem dX6_chance_109 : decode cX6_chance 109 = .ok (.goto (-38), 3) := by decide +kernel
theorem dX6_chance_112 : decode cX6_chance 112 = .ok (.iload 7, 2) := by decide +kernel
theorem dX6_chance_114 : decode cX6_chance 114 = .ok (.bipush 10, 2) := by decide +kernel
theorem dX6_chance_116 : decode cX6_chance 116 = .ok (.iload 6, 2) := by decide +kernel
theorem dX6_chance_118 : decode cX6_chance 118 = .ok (.invokestatic 207, 3) := by decide +kernel
theorem dX6_chance_121 : decode cX6_chance 121 = .ok (.iload 5, 2) := by decide +kernel
theorem dX6_chance_123 : decode cX6_chance 123 = .ok (.invokestatic 185, 3) := by decide +kernel
theorem dX6_chance_126 : decode cX6_chance 126 = .ok (.ireturn, 1) := by decide +kernel
theorem dX6_seed_0 : decode cX6_seed 0 = .ok (.aload_n 0, 1) := by decide +kernel
theorem dX6_seed_1 : decode cX6_seed 1 = .ok (.getfield 70, 3) := by decide +kernel
theorem dX6_seed_4 : decode cX6_seed 4 = .ok (.lstore_n 3, 1) := by decide +kernel
theorem dX6_seed_5 : decode cX6_seed 5 = .ok (.aload_n 0, 1) := by decide +kernel
theorem dX6_seed_6 : decode cX6_seed 6 = .ok (.lload_n 1, 1) := by decide +kernel
theorem dX6_seed_7 : decode cX6_seed 7 = .ok (.putfield 70, 3) := by decide +kernel
theorem dX6_seed_10 : decode cX6_seed 10 = .ok (.lload_n 3, 1) := by decide +kernel
theorem dX6_seed_11 : decode cX6_seed 11 = .ok (.lreturn, 1) := by decide +kernel
theorem dX6_rounds_0 : decode cX6_rounds 0 = .ok (.iload_n 1, 1) := by decide +kernel
theorem dX6_rounds_1 : decode cX6_rounds 1 = .ok (.iconst 1, 1) := by decide +kernel
theorem dX6_rounds_2 : decode cX6_rounds 2 = .ok (.if_icmp .lt 9, 3) := by decide +kernel
theorem dX6_rounds_5 : decode cX6_rounds 5 = .ok (.iload_n 1, 1) := by decide +kernel
theorem dX6_rounds_6 : decode cX6_rounds 6 = .ok (.bipush 30, 2) := by decide +kernel
theorem dX6_rounds_8 : decode cX6_rounds 8 = .ok (.if_icmp .le 6, 3) := by decide +kernel
theorem dX6_rounds_11 : decode cX6_rounds 11 = .ok (.bipush (-2), 2) := by decide +kernel
theorem dX6_rounds_13 : decode cX6_rounds 13 = .ok (.ireturn, 1) := by decide +kernel
theorem dX6_rounds_14 : decode cX6_rounds 14 = .ok (.aload_n 0, 1) := by decide +kernel
theorem dX6_rounds_15 : decode cX6_rounds 15 = .ok (.getfield 30, 3) := by decide +kernel
theorem dX6_rounds_18 : decode cX6_rounds 18 = .ok (.aload_n 0, 1) := by decide +kernel
theorem dX6_rounds_19 : decode cX6_rounds 19 = .ok (.getfield 26, 3) := by decide +kernel
theorem dX6_rounds_22 : decode cX6_rounds 22 = .ok (.invokevirtual 172, 3) := by decide +kernel
theorem dX6_rounds_25 : decode cX6_rounds 25 = .ok (.iconst 0, 1) := by decide +kernel
theorem dX6_rounds_26 : decode cX6_rounds 26 = .ok (.istore_n 2, 1) := by decide +kernel
theorem dX6_rounds_27 : decode cX6_rounds 27 = .ok (.iload_n 2, 1) := by decide +kernel
theorem dX6_rounds_28 : decode cX6_rounds 28 = .ok (.iload_n 1, 1) := by decide +kernel
theorem dX6_rounds_29 : decode cX6_rounds 29 = .ok (.if_icmp .ge 41, 3) := by decide +kernel
theorem dX6_rounds_32 : decode cX6_rounds 32 = .ok (.aload_n 0, 1) := by decide +kernel
theorem dX6_rounds_33 : decode cX6_rounds 33 = .ok (.aload_n 0, 1) := by decide +kernel
theorem dX6_rounds_34 : decode cX6_rounds 34 = .ok (.getfield 70, 3) := by decide +kernel
theorem dX6_rounds_37 : decode cX6_rounds 37 = .ok (.ldc2_w 210, 3) := by decide +kernel
theorem dX6_rounds_40 : decode cX6_rounds 40 = .ok (.lmul, 1) := by decide +kernel
theorem dX6_rounds_41 : decode cX6_rounds 41 = .ok (.ldc2_w 212, 3) := by decide +kernel
theorem dX6_rounds_44 : decode cX6_rounds 44 = .ok (.ladd, 1) := by decide +kernel
theorem dX6_rounds_45 : decode cX6_rounds 45 = .ok (.putfield 70, 3) := by decide +kernel
theorem dX6_rounds_48 : decode cX6_rounds 48 = .ok (.aload_n 0, 1) := by decide +kernel
theorem dX6_rounds_49 : decode cX6_rounds 49 = .ok (.aload_n 0, 1) := by decide +kernel
theorem dX6_rounds_50 : decode cX6_rounds 50 = .ok (.getfield 70, 3) := by decide +kernel
theorem dX6_rounds_53 : decode cX6_rounds 53 = .ok (.bipush 33, 2) := by decide +kernel
theorem dX6_rounds_55 : decode cX6_rounds 55 = .ok (.lushr, 1) := by decide +kernel
theorem dX6_rounds_56 : decode cX6_rounds 56 = .ok (.ldc2_w 214, 3) := by decide +kernel
theorem dX6_rounds_59 : decode cX6_rounds 59 = .ok (.lrem, 1) := by decide +kernel
theorem dX6_rounds_60 : decode cX6_rounds 60 = .ok (.l2i, 1) := by decide +kernel
theorem dX6_rounds_61 : decode cX6_rounds 61 = .ok (.invokevirtual 216, 3) := by decide +kernel
theorem dX6_rounds_64 : decode cX6_rounds 64 = .ok (.iinc 2 1, 3) := by decide +kernel
theorem dX6_rounds_67 : decode cX6_rounds 67 = .ok (.goto (-40), 3) := by decide +kernel
theorem dX6_rounds_70 : decode cX6_rounds 70 = .ok (.aload_n 0, 1) := by decide +kernel
theorem dX6_rounds_71 : decode cX6_rounds 71 = .ok (.getfield 30, 3) := by decide +kernel
theorem dX6_rounds_74 : decode cX6_rounds 74 = .ok (.getfield 106, 3) := by decide +kernel
theorem dX6_rounds_77 : decode cX6_rounds 77 = .ok (.aload_n 0, 1) := by decide +kernel
theorem dX6_rounds_78 : decode cX6_rounds 78 = .ok (.getfield 26, 3) := by decide +kernel
theorem dX6_rounds_81 : decode cX6_rounds 81 = .ok (.getfield 106, 3) := by decide +kernel
theorem dX6_rounds_84 : decode cX6_rounds 84 = .ok (.isub, 1) := by decide +kernel
theorem dX6_rounds_85 : decode cX6_rounds 85 = .ok (.ireturn, 1) := by decide +kernel
theorem dX6_isContent_0 : decode cX6_isContent 0 = .ok (.aload_n 0, 1) := by decide +kernel
theorem dX6_isContent_1 : decode cX6_isContent 1 = .ok (.iload_n 1, 1) := by decide +kernel
theorem dX6_isContent_2 : decode cX6_isContent 2 = .ok (.iload_n 2, 1) := by decide +kernel
theorem dX6_isContent_3 : decode cX6_isContent 3 = .ok (.invokevirtual 219, 3) := by decide +kernel
theorem dX6_isContent_6 : decode cX6_isContent 6 = .ok (.istore_n 3, 1) := by decide +kernel
theorem dX6_isContent_7 : decode cX6_isContent 7 = .ok (.iconst 0, 1) := by decide +kernel
theorem dX6_isContent_8 : decode cX6_isContent 8 = .ok (.istore 4, 2) := by decide +kernel
theorem dX6_isContent_10 : decode cX6_isContent 10 = .ok (.iload 4, 2) := by decide +kernel
theorem dX6_isContent_12 : decode cX6_isContent 12 = .ok (.aload_n 0, 1) := by decide +kernel
theorem dX6_isContent_13 : decode cX6_isContent 13 = .ok (.getfield 19, 3) := by decide +kernel
theorem dX6_isContent_16 : decode cX6_isContent 16 = .ok (.getfield 96, 3) := by decide +kernel
theorem dX6_isContent_19 : decode cX6_isContent 19 = .ok (.if_icmp .ge 22, 3) := by decide +kernel
theorem dX6_isContent_22 : decode cX6_isContent 22 = .ok (.aload_n 0, 1) := by decide +kernel
theorem dX6_isContent_23 : decode cX6_isContent 23 = .ok (.iload 4, 2) := by decide +kernel
theorem dX6_isContent_25 : decode cX6_isContent 25 = .ok (.iload_n 2, 1) := by decide +kernel
theorem dX6_isContent_26 : decode cX6_isContent 26 = .ok (.invokevirtual 219, 3) := by decide +kernel
theorem dX6_isContent_29 : decode cX6_isContent 29 = .ok (.iload_n 3, 1) := by decide +kernel
theorem dX6_isContent_30 : decode cX6_isContent 30 = .ok (.if_icmp .le 5, 3) := by decide +kernel
theorem dX6_isContent_33 : decode cX6_isContent 33 = .ok (.iconst 0, 1) := by decide +kernel
theorem dX6_isContent_34 : decode cX6_isContent 34 = .ok (.ireturn, 1) := by decide +kernel
theorem dX6_isContent_35 : decode cX6_isContent 35 = .ok (.iinc 4 1, 3) := by decide +kernel
theorem dX6_isContent_38 : decode cX6_isContent 38 = .ok (.goto (-28), 3) := by decide +kernel
theorem dX6_isContent_41 : decode cX6_isContent 41 = .ok (.iconst 1, 1) := by decide +kernel
theorem dX6_isContent_42 : decode cX6_isContent 42 = .ok (.ireturn, 1) := by decide +kernel
theorem dX6_restJoy_0 : decode cX6_restJoy 0 = .ok (.aload_n 0, 1) := by decide +kernel
theorem dX6_restJoy_1 : decode cX6_restJoy 1 = .ok (.getfield 26, 3) := by decide +kernel
theorem dX6_restJoy_4 : decode cX6_restJoy 4 = .ok (.aload_n 0, 1) := by decide +kernel
theorem dX6_restJoy_5 : decode cX6_restJoy 5 = .ok (.getfield 19, 3) := by decide +kernel
theorem dX6_restJoy_8 : decode cX6_restJoy 8 = .ok (.iload_n 1, 1) := by decide +kernel
theorem dX6_restJoy_9 : decode cX6_restJoy 9 = .ok (.aload_n 0, 1) := by decide +kernel
theorem dX6_restJoy_10 : decode cX6_restJoy 10 = .ok (.getfield 26, 3) := by decide +kernel
theorem dX6_restJoy_13 : decode cX6_restJoy 13 = .ok (.getfield 103, 3) := by decide +kernel
theorem dX6_restJoy_16 : decode cX6_restJoy 16 = .ok (.invokevirtual 131, 3) := by decide +kernel
theorem dX6_restJoy_19 : decode cX6_restJoy 19 = .ok (.istore_n 3, 1) := by decide +kernel
theorem dX6_restJoy_20 : decode cX6_restJoy 20 = .ok (.iload_n 1, 1) := by decide +kernel
theorem dX6_restJoy_21 : decode cX6_restJoy 21 = .ok (.iload_n 2, 1) := by decide +kernel
theorem dX6_restJoy_22 : decode cX6_restJoy 22 = .ok (.if_icmp .ne 9, 3) := by decide +kernel
theorem dX6_restJoy_25 : decode cX6_restJoy 25 = .ok (.iload_n 3, 1) := by decide +kernel
theorem dX6_restJoy_26 : decode cX6_restJoy 26 = .ok (.iconst 2, 1) := by decide +kernel
theorem dX6_restJoy_27 : decode cX6_restJoy 27 = .ok (.idiv, 1) := by decide +kernel
theorem dX6_restJoy_28 : decode cX6_restJoy 28 = .ok (.goto 4, 3) := by decide +kernel
theorem dX6_restJoy_31 : decode cX6_restJoy 31 = .ok (.iload_n 3, 1) := by decide +kernel
theorem dX6_restJoy_32 : decode cX6_restJoy 32 = .ok (.ireturn, 1) := by decide +kernel
theorem dX6_gatherGains_0 : decode cX6_gatherGains 0 = .ok (.iconst 0, 1) := by decide +kernel
theorem dX6_gatherGains_1 : decode cX6_gatherGains 1 = .ok (.istore_n 3, 1) := by decide +kernel
theorem dX6_gatherGains_2 : decode cX6_gatherGains 2 = .ok (.aload_n 0, 1) := by decide +kernel
theorem dX6_gatherGains_3 : decode cX6_gatherGains 3 = .ok (.getfield 30, 3) := by decide +kernel
theorem dX6_gatherGains_6 : decode cX6_gatherGains 6 = .ok (.aload_n 0, 1) := by decide +kernel
theorem dX6_gatherGains_7 : decode cX6_gatherGains 7 = .ok (.getfield 26, 3) := by decide +kernel
theorem dX6_gatherGains_10 : decode cX6_gatherGains 10 = .ok (.invokevirtual 172, 3) := by decide +kernel
theorem dX6_gatherGains_13 : decode cX6_gatherGains 13 = .ok (.iconst 0, 1) := by decide +kernel
theorem dX6_gatherGains_14 : decode cX6_gatherGains 14 = .ok (.istore 4, 2) := by decide +kernel
theorem dX6_gatherGains_16 : decode cX6_gatherGains 16 = .ok (.iload 4, 2) := by decide +kernel
theorem dX6_gatherGains_18 : decode cX6_gatherGains 18 = .ok (.iload_n 1, 1) := by decide +kernel
theorem dX6_gatherGains_19 : decode cX6_gatherGains 19 = .ok (.if_icmp .ge 77, 3) := by decide +kernel
theorem dX6_gatherGains_22 : decode cX6_gatherGains 22 = .ok (.iload_n 1, 1) := by decide +kernel
theorem dX6_gatherGains_23 : decode cX6_gatherGains 23 = .ok (.iload_n 2, 1) := by decide +kernel
theorem dX6_gatherGains_24 : decode cX6_gatherGains 24 = .ok (.iload 4, 2) := by decide +kernel
theorem dX6_gatherGains_26 : decode cX6_gatherGains 26 = .ok (.invokestatic 175, 3) := by decide +kernel
theorem dX6_gatherGains_29 : decode cX6_gatherGains 29 = .ok (.istore 5, 2) := by decide +kernel
theorem dX6_gatherGains_31 : decode cX6_gatherGains 31 = .ok (.aload_n 0, 1) := by decide +kernel
theorem dX6_gatherGains_32 : decode cX6_gatherGains 32 = .ok (.getfield 30, 3) := by decide +kernel
theorem dX6_gatherGains_35 : decode cX6_gatherGains 35 = .ok (.aload_n 0, 1) := by decide +kernel
theorem dX6_gatherGains_36 : decode cX6_gatherGains 36 = .ok (.getfield 19, 3) := by decide +kernel
theorem dX6_gatherGains_39 : decode cX6_gatherGains 39 = .ok (.iload 5, 2) := by decide +kernel
theorem dX6_gatherGains_41 : decode cX6_gatherGains 41 = .ok (.invokevirtual 135, 3) := by decide +kernel
theorem dX6_gatherGains_44 : decode cX6_gatherGains 44 = .ok (.ifCond .ne 5, 3) := by decide +kernel
theorem dX6_gatherGains_47 : decode cX6_gatherGains 47 = .ok (.iconst (-1), 1) := by decide +kernel
theorem dX6_gatherGains_48 : decode cX6_gatherGains 48 = .ok (.ireturn, 1) := by decide +kernel
theorem dX6_gatherGains_49 : decode cX6_gatherGains 49 = .ok (.aload_n 0, 1) := by decide +kernel
theorem dX6_gatherGains_50 : decode cX6_gatherGains 50 = .ok (.getfield 30, 3) := by decide +kernel
theorem dX6_gatherGains_53 : decode cX6_gatherGains 53 = .ok (.aload_n 0, 1) := by decide +kernel
theorem dX6_gatherGains_54 : decode cX6_gatherGains 54 = .ok (.getfield 19, 3) := by decide +kernel
theorem dX6_gatherGains_57 : decode cX6_gatherGains 57 = .ok (.iload 5, 2) := by decide +kernel
theorem dX6_gatherGains_59 : decode cX6_gatherGains 59 = .ok (.invokevirtual 149, 3) := by decide +kernel
theorem dX6_gatherGains_62 : decode cX6_gatherGains 62 = .ok (.istore 6, 2) := by decide +kernel
theorem dX6_gatherGains_64 : decode cX6_gatherGains 64 = .ok (.iload 5, 2) := by decide +kernel
theorem dX6_gatherGains_66 : decode cX6_gatherGains 66 = .ok (.iconst 2, 1) := by decide +kernel
theorem dX6_gatherGains_67 : decode cX6_gatherGains 67 = .ok (.if_icmp .ne 23, 3) := by decide +kernel
theorem dX6_gatherGains_70 : decode cX6_gatherGains 70 = .ok (.iload_n 3, 1) := by decide +kernel
theorem dX6_gatherGains_71 : decode cX6_gatherGains 71 = .ok (.aload_n 0, 1) := by decide +kernel
theorem dX6_gatherGains_72 : decode cX6_gatherGains 72 = .ok (.getfield 62, 3) := by decide +kernel
theorem dX6_gatherGains_75 : decode cX6_gatherGains 75 = .ok (.arraylength, 1) := by decide +kernel
theorem dX6_gatherGains_76 : decode cX6_gatherGains 76 = .ok (.if_icmp .ge 14, 3) := by decide +kernel
theorem dX6_gatherGains_79 : decode cX6_gatherGains 79 = .ok (.aload_n 0, 1) := by decide +kernel
theorem dX6_gatherGains_80 : decode cX6_gatherGains 80 = .ok (.getfield 62, 3) := by decide +kernel
theorem dX6_gatherGains_83 : decode cX6_gatherGains 83 = .ok (.iload_n 3, 1) := by decide +kernel
theorem dX6_gatherGains_84 : decode cX6_gatherGains 84 = .ok (.iload 6, 2) := by decide +kernel
theorem dX6_gatherGains_86 : decode cX6_gatherGains 86 = .ok (.iastore, 1) := by decide +kernel
theorem dX6_gatherGains_87 : decode cX6_gatherGains 87 = .ok (.iinc 3 1, 3) := by decide +kernel
theorem dX6_gatherGains_90 : decode cX6_gatherGains 90 = .ok (.iinc 4 1, 3) := by decide +kernel
theorem dX6_gatherGains_93 : decode cX6_gatherGains 93 = .ok (.goto (-77), 3) := by decide +kernel
theorem dX6_gatherGains_96 : decode cX6_gatherGains 96 = .ok (.iload_n 3, 1) := by decide +kernel
theorem dX6_gatherGains_97 : decode cX6_gatherGains 97 = .ok (.ireturn, 1) := by decide +kernel
theorem dX6_joyOf_0 : decode cX6_joyOf 0 = .ok (.iconst 0, 1) := by decide +kernel
theorem dX6_joyOf_1 : decode cX6_joyOf 1 = .ok (.istore_n 3, 1) := by decide +kernel
theorem dX6_joyOf_2 : decode cX6_joyOf 2 = .ok (.iconst 0, 1) := by decide +kernel
theorem dX6_joyOf_3 : decode cX6_joyOf 3 = .ok (.istore 4, 2) := by decide +kernel
theorem dX6_joyOf_5 : decode cX6_joyOf 5 = .ok (.iload 4, 2) := by decide +kernel
theorem dX6_joyOf_7 : decode cX6_joyOf 7 = .ok (.iload_n 1, 1) := by decide +kernel
theorem dX6_joyOf_8 : decode cX6_joyOf 8 = .ok (.if_icmp .ge 36, 3) := by decide +kernel
theorem dX6_joyOf_11 : decode cX6_joyOf 11 = .ok (.iload 4, 2) := by decide +kernel
theorem dX6_joyOf_13 : decode cX6_joyOf 13 = .ok (.aload_n 0, 1) := by decide +kernel
theorem dX6_joyOf_14 : decode cX6_joyOf 14 = .ok (.getfield 62, 3) := by decide +kernel
theorem dX6_joyOf_17 : decode cX6_joyOf 17 = .ok (.arraylength, 1) := by decide +kernel
theorem dX6_joyOf_18 : decode cX6_joyOf 18 = .ok (.if_icmp .ge 26, 3) := by decide +kernel
theorem dX6_joyOf_21 : decode cX6_joyOf 21 = .ok (.iload_n 3, 1) := by decide +kernel
theorem dX6_joyOf_22 : decode cX6_joyOf 22 = .ok (.iload_n 2, 1) := by decide +kernel
theorem dX6_joyOf_23 : decode cX6_joyOf 23 = .ok (.iload 4, 2) := by decide +kernel
theorem dX6_joyOf_25 : decode cX6_joyOf 25 = .ok (.ishr, 1) := by decide +kernel
theorem dX6_joyOf_26 : decode cX6_joyOf 26 = .ok (.iconst 1, 1) := by decide +kernel
theorem dX6_joyOf_27 : decode cX6_joyOf 27 = .ok (.iand, 1) := by decide +kernel
theorem dX6_joyOf_28 : decode cX6_joyOf 28 = .ok (.aload_n 0, 1) := by decide +kernel
theorem dX6_joyOf_29 : decode cX6_joyOf 29 = .ok (.getfield 62, 3) := by decide +kernel
theorem dX6_joyOf_32 : decode cX6_joyOf 32 = .ok (.iload 4, 2) := by decide +kernel
theorem dX6_joyOf_34 : decode cX6_joyOf 34 = .ok (.iaload, 1) := by decide +kernel
theorem dX6_joyOf_35 : decode cX6_joyOf 35 = .ok (.imul, 1) := by decide +kernel
theorem dX6_joyOf_36 : decode cX6_joyOf 36 = .ok (.iadd, 1) := by decide +kernel
theorem dX6_joyOf_37 : decode cX6_joyOf 37 = .ok (.istore_n 3, 1) := by decide +kernel
theorem dX6_joyOf_38 : decode cX6_joyOf 38 = .ok (.iinc 4 1, 3) := by decide +kernel
theorem dX6_joyOf_41 : decode cX6_joyOf 41 = .ok (.goto (-36), 3) := by decide +kernel
theorem dX6_joyOf_44 : decode cX6_joyOf 44 = .ok (.iload_n 3, 1) := by decide +kernel
theorem dX6_joyOf_45 : decode cX6_joyOf 45 = .ok (.ireturn, 1) := by decide +kernel
theorem dX6_weightOf_0 : decode cX6_weightOf 0 = .ok (.iload_n 1, 1) := by decide +kernel
theorem dX6_weightOf_1 : decode cX6_weightOf 1 = .ok (.invokestatic 160, 3) := by decide +kernel
theorem dX6_weightOf_4 : decode cX6_weightOf 4 = .ok (.istore_n 3, 1) := by decide +kernel
theorem dX6_weightOf_5 : decode cX6_weightOf 5 = .ok (.bipush 10, 2) := by decide +kernel
theorem dX6_weightOf_7 : decode cX6_weightOf 7 = .ok (.iload_n 2, 1) := by decide +kernel
theorem dX6_weightOf_8 : decode cX6_weightOf 8 = .ok (.isub, 1) := by decide +kernel
theorem dX6_weightOf_9 : decode cX6_weightOf 9 = .ok (.iload_n 3, 1) := by decide +kernel
theorem dX6_weightOf_10 : decode cX6_weightOf 10 = .ok (.invokestatic 207, 3) := by decide +kernel
theorem dX6_weightOf_13 : decode cX6_weightOf 13 = .ok (.iload_n 2, 1) := by decide +kernel
theorem dX6_weightOf_14 : decode cX6_weightOf 14 = .ok (.iload_n 0, 1) := by decide +kernel
theorem dX6_weightOf_15 : decode cX6_weightOf 15 = .ok (.iload_n 3, 1) := by decide +kernel
theorem dX6_weightOf_16 : decode cX6_weightOf 16 = .ok (.isub, 1) := by decide +kernel
theorem dX6_weightOf_17 : decode cX6_weightOf 17 = .ok (.invokestatic 207, 3) := by decide +kernel
theorem dX6_weightOf_20 : decode cX6_weightOf 20 = .ok (.imul, 1) := by decide +kernel
theorem dX6_weightOf_21 : decode cX6_weightOf 21 = .ok (.ireturn, 1) := by decide +kernel
theorem dX6_playRound_0 : decode cX6_playRound 0 = .ok (.iload_n 1, 1) := by decide +kernel
theorem dX6_playRound_1 : decode cX6_playRound 1 = .ok (.iconst 3, 1) := by decide +kernel
theorem dX6_playRound_2 : decode cX6_playRound 2 = .ok (.if_icmp .ge 38, 3) := by decide +kernel
theorem dX6_playRound_5 : decode cX6_playRound 5 = .ok (.aload_n 0, 1) := by decide +kernel
theorem dX6_playRound_6 : decode cX6_playRound 6 = .ok (.getfield 30, 3) := by decide +kernel
theorem dX6_playRound_9 : decode cX6_playRound 9 = .ok (.aload_n 0, 1) := by decide +kernel
theorem dX6_playRound_10 : decode cX6_playRound 10 = .ok (.getfield 19, 3) := by decide +kernel
theorem dX6_playRound_13 : decode cX6_playRound 13 = .ok (.aload_n 0, 1) := by decide +kernel
theorem dX6_playRound_14 : decode cX6_playRound 14 = .ok (.getfield 30, 3) := by decide +kernel
theorem dX6_playRound_17 : decode cX6_playRound 17 = .ok (.aload_n 0, 1) := by decide +kernel
theorem dX6_playRound_18 : decode cX6_playRound 18 = .ok (.getfield 19, 3) := by decide +kernel
theorem dX6_playRound_21 : decode cX6_playRound 21 = .ok (.iload_n 1, 1) := by decide +kernel
theorem dX6_playRound_22 : decode cX6_playRound 22 = .ok (.invokevirtual 135, 3) := by decide +kernel
theorem dX6_playRound_25 : decode cX6_playRound 25 = .ok (.ifCond .eq 7, 3) := by decide +kernel
theorem dX6_playRound_28 : decode cX6_playRound 28 = .ok (.iload_n 1, 1) := by decide +kernel
theorem dX6_playRound_29 : decode cX6_playRound 29 = .ok (.goto 4, 3) := by decide +kernel
theorem dX6_playRound_32 : decode cX6_playRound 32 = .ok (.iconst 3, 1) := by decide +kernel
theorem dX6_playRound_33 : decode cX6_playRound 33 = .ok (.invokevirtual 149, 3) := by decide +kernel
theorem dX6_playRound_36 : decode cX6_playRound 36 = .ok (.pop, 1) := by decide +kernel
theorem dX6_playRound_37 : decode cX6_playRound 37 = .ok (.goto 33, 3) := by decide +kernel
theorem dX6_playRound_40 : decode cX6_playRound 40 = .ok (.aload_n 0, 1) := by decide +kernel
theorem dX6_playRound_41 : decode cX6_playRound 41 = .ok (.getfield 19, 3) := by decide +kernel
theorem dX6_playRound_44 : decode cX6_playRound 44 = .ok (.iload_n 1, 1) := by decide +kernel
theorem dX6_playRound_45 : decode cX6_playRound 45 = .ok (.iconst 3, 1) := by decide +kernel
theorem dX6_playRound_46 : decode cX6_playRound 46 = .ok (.isub, 1) := by decide +kernel
theorem dX6_playRound_47 : decode cX6_playRound 47 = .ok (.invokevirtual 116, 3) := by decide +kernel
theorem dX6_playRound_50 : decode cX6_playRound 50 = .ok (.ifCond .eq 20, 3) := by decide +kernel
theorem dX6_playRound_53 : decode cX6_playRound 53 = .ok (.aload_n 0, 1) := by decide +kernel
theorem dX6_playRound_54 : decode cX6_playRound 54 = .ok (.getfield 30, 3) := by decide +kernel
theorem dX6_playRound_57 : decode cX6_playRound 57 = .ok (.dup, 1) := by decide +kernel
theorem dX6_playRound_58 : decode cX6_playRound 58 = .ok (.getfield 109, 3) := by decide +kernel
theorem dX6_playRound_61 : decode cX6_playRound 61 = .ok (.iconst 1, 1) := by decide +kernel
theorem dX6_playRound_62 : decode cX6_playRound 62 = .ok (.iload_n 1, 1) := by decide +kernel
theorem dX6_playRound_63 : decode cX6_playRound 63 = .ok (.iconst 3, 1) := by decide +kernel
theorem dX6_playRound_64 : decode cX6_playRound 64 = .ok (.isub, 1) := by decide +kernel
theorem dX6_playRound_65 : decode cX6_playRound 65 = .ok (.ishl, 1) := by decide +kernel
theorem dX6_playRound_66 : decode cX6_playRound 66 = .ok (.ixor, 1) := by decide +kernel
theorem dX6_playRound_67 : decode cX6_playRound 67 = .ok (.putfield 109, 3) := by decide +kernel
theorem dX6_playRound_70 : decode cX6_playRound 70 = .ok (.return_, 1) := by decide +kernel
theorem dX6_keep_0 : decode cX6_keep 0 = .ok (.iload_n 1, 1) := by decide +kernel
theorem dX6_keep_1 : decode cX6_keep 1 = .ok (.ifCond .lt 12, 3) := by decide +kernel
theorem dX6_keep_4 : decode cX6_keep 4 = .ok (.iload_n 1, 1) := by decide +kernel
theorem dX6_keep_5 : decode cX6_keep 5 = .ok (.aload_n 0, 1) := by decide +kernel
theorem dX6_keep_6 : decode cX6_keep 6 = .ok (.getfield 58, 3) := by decide +kernel
theorem dX6_keep_9 : decode cX6_keep 9 = .ok (.arraylength, 1) := by decide +kernel
theorem dX6_keep_10 : decode cX6_keep 10 = .ok (.if_icmp .lt 5, 3) := by decide +kernel
theorem dX6_keep_13 : decode cX6_keep 13 = .ok (.iconst (-1), 1) := by decide +kernel
theorem dX6_keep_14 : decode cX6_keep 14 = .ok (.ireturn, 1) := by decide +kernel
theorem dX6_keep_15 : decode cX6_keep 15 = .ok (.aload_n 0, 1) := by decide +kernel
theorem dX6_keep_16 : decode cX6_keep 16 = .ok (.getfield 58, 3) := by decide +kernel
theorem dX6_keep_19 : decode cX6_keep 19 = .ok (.iload_n 1, 1) := by decide +kernel
theorem dX6_keep_20 : decode cX6_keep 20 = .ok (.aaload, 1) := by decide +kernel
theorem dX6_keep_21 : decode cX6_keep 21 = .ok (.aload_n 0, 1) := by decide +kernel
theorem dX6_keep_22 : decode cX6_keep 22 = .ok (.getfield 26, 3) := by decide +kernel
theorem dX6_keep_25 : decode cX6_keep 25 = .ok (.invokevirtual 172, 3) := by decide +kernel
theorem dX6_keep_28 : decode cX6_keep 28 = .ok (.aload_n 0, 1) := by decide +kernel
theorem dX6_keep_29 : decode cX6_keep 29 = .ok (.dup, 1) := by decide +kernel
theorem dX6_keep_30 : decode cX6_keep 30 = .ok (.getfield 66, 3) := by decide +kernel
theorem dX6_keep_33 : decode cX6_keep 33 = .ok (.iconst 1, 1) := by decide +kernel
theorem dX6_keep_34 : decode cX6_keep 34 = .ok (.iload_n 1, 1) := by decide +kernel
theorem dX6_keep_35 : decode cX6_keep 35 = .ok (.ishl, 1) := by decide +kernel
theorem dX6_keep_36 : decode cX6_keep 36 = .ok (.ior, 1) := by decide +kernel
theorem dX6_keep_37 : decode cX6_keep 37 = .ok (.putfield 66, 3) := by decide +kernel
theorem dX6_keep_40 : decode cX6_keep 40 = .ok (.aload_n 0, 1) := by decide +kernel
theorem dX6_keep_41 : decode cX6_keep 41 = .ok (.getfield 26, 3) := by decide +kernel
theorem dX6_keep_44 : decode cX6_keep 44 = .ok (.getfield 103, 3) := by decide +kernel
theorem dX6_keep_47 : decode cX6_keep 47 = .ok (.ireturn, 1) := by decide +kernel
theorem dX6_again_0 : decode cX6_again 0 = .ok (.iload_n 1, 1) := by decide +kernel
theorem dX6_again_1 : decode cX6_again 1 = .ok (.ifCond .lt 12, 3) := by decide +kernel
theorem dX6_again_4 : decode cX6_again 4 = .ok (.iload_n 1, 1) := by decide +kernel
theorem dX6_again_5 : decode cX6_again 5 = .ok (.aload_n 0, 1) := by decide +kernel
theorem dX6_again_6 : decode cX6_again 6 = .ok (.getfield 58, 3) := by decide +kernel
theorem dX6_again_9 : decode cX6_again 9 = .ok (.arraylength, 1) := by decide +kernel
theorem dX6_again_10 : decode cX6_again 10 = .ok (.if_icmp .lt 5, 3) := by decide +kernel
theorem dX6_again_13 : decode cX6_again 13 = .ok (.iconst (-1), 1) := by decide +kernel
theorem dX6_again_14 : decode cX6_again 14 = .ok (.ireturn, 1) := by decide +kernel
theorem dX6_again_15 : decode cX6_again 15 = .ok (.aload_n 0, 1) := by decide +kernel
theorem dX6_again_16 : decode cX6_again 16 = .ok (.getfield 66, 3) := by decide +kernel
theorem dX6_again_19 : decode cX6_again 19 = .ok (.iload_n 1, 1) := by decide +kernel
theorem dX6_again_20 : decode cX6_again 20 = .ok (.ishr, 1) := by decide +kernel
theorem dX6_again_21 : decode cX6_again 21 = .ok (.iconst 1, 1) := by decide +kernel
theorem dX6_again_22 : decode cX6_again 22 = .ok (.iand, 1) := by decide +kernel
theorem dX6_again_23 : decode cX6_again 23 = .ok (.ifCond .ne 6, 3) := by decide +kernel
theorem dX6_again_26 : decode cX6_again 26 = .ok (.bipush (-3), 2) := by decide +kernel
theorem dX6_again_28 : decode cX6_again 28 = .ok (.ireturn, 1) := by decide +kernel
theorem dX6_again_29 : decode cX6_again 29 = .ok (.aload_n 0, 1) := by decide +kernel
theorem dX6_again_30 : decode cX6_again 30 = .ok (.getfield 26, 3) := by decide +kernel
theorem dX6_again_33 : decode cX6_again 33 = .ok (.aload_n 0, 1) := by decide +kernel
theorem dX6_again_34 : decode cX6_again 34 = .ok (.getfield 58, 3) := by decide +kernel
theorem dX6_again_37 : decode cX6_again 37 = .ok (.iload_n 1, 1) := by decide +kernel
theorem dX6_again_38 : decode cX6_again 38 = .ok (.aaload, 1) := by decide +kernel
theorem dX6_again_39 : decode cX6_again 39 = .ok (.invokevirtual 172, 3) := by decide +kernel
theorem dX6_again_42 : decode cX6_again 42 = .ok (.aload_n 0, 1) := by decide +kernel
theorem dX6_again_43 : decode cX6_again 43 = .ok (.getfield 36, 3) := by decide +kernel
theorem dX6_again_46 : decode cX6_again 46 = .ok (.iconst 0, 1) := by decide +kernel
theorem dX6_again_47 : decode cX6_again 47 = .ok (.putfield 93, 3) := by decide +kernel
theorem dX6_again_50 : decode cX6_again 50 = .ok (.aload_n 0, 1) := by decide +kernel
theorem dX6_again_51 : decode cX6_again 51 = .ok (.getfield 26, 3) := by decide +kernel
theorem dX6_again_54 : decode cX6_again 54 = .ok (.getfield 103, 3) := by decide +kernel
theorem dX6_again_57 : decode cX6_again 57 = .ok (.ireturn, 1) := by decide +kernel
theorem dX6_isRow_0 : decode cX6_isRow 0 = .ok (.iload_n 1, 1) := by decide +kernel
theorem dX6_isRow_1 : decode cX6_isRow 1 = .ok (.ifCond .lt 13, 3) := by decide +kernel
theorem dX6_isRow_4 : decode cX6_isRow 4 = .ok (.iload_n 1, 1) := by decide +kernel
theorem dX6_isRow_5 : decode cX6_isRow 5 = .ok (.bipush 10, 2) := by decide +kernel
theorem dX6_isRow_7 : decode cX6_isRow 7 = .ok (.iload_n 0, 1) := by decide +kernel
theorem dX6_isRow_8 : decode cX6_isRow 8 = .ok (.invokestatic 207, 3) := by decide +kernel
theorem dX6_isRow_11 : decode cX6_isRow 11 = .ok (.if_icmp .lt 5, 3) := by decide +kernel
theorem dX6_isRow_14 : decode cX6_isRow 14 = .ok (.iconst 0, 1) := by decide +kernel
theorem dX6_isRow_15 : decode cX6_isRow 15 = .ok (.ireturn, 1) := by decide +kernel
theorem dX6_isRow_16 : decode cX6_isRow 16 = .ok (.iconst 0, 1) := by decide +kernel
theorem dX6_isRow_17 : decode cX6_isRow 17 = .ok (.istore_n 2, 1) := by decide +kernel
theorem dX6_isRow_18 : decode cX6_isRow 18 = .ok (.iload_n 2, 1) := by decide +kernel
theorem dX6_isRow_19 : decode cX6_isRow 19 = .ok (.iload_n 0, 1) := by decide +kernel
theorem dX6_isRow_20 : decode cX6_isRow 20 = .ok (.if_icmp .ge 21, 3) := by decide +kernel
theorem dX6_isRow_23 : decode cX6_isRow 23 = .ok (.iload_n 0, 1) := by decide +kernel
theorem dX6_isRow_24 : decode cX6_isRow 24 = .ok (.iload_n 1, 1) := by decide +kernel
theorem dX6_isRow_25 : decode cX6_isRow 25 = .ok (.iload_n 2, 1) := by decide +kernel
theorem dX6_isRow_26 : decode cX6_isRow 26 = .ok (.invokestatic 175, 3) := by decide +kernel
theorem dX6_isRow_29 : decode cX6_isRow 29 = .ok (.iconst 3, 1) := by decide +kernel
theorem dX6_isRow_30 : decode cX6_isRow 30 = .ok (.if_icmp .le 5, 3) := by decide +kernel
theorem dX6_isRow_33 : decode cX6_isRow 33 = .ok (.iconst 0, 1) := by decide +kernel
theorem dX6_isRow_34 : decode cX6_isRow 34 = .ok (.ireturn, 1) := by decide +kernel
theorem dX6_isRow_35 : decode cX6_isRow 35 = .ok (.iinc 2 1, 3) := by decide +kernel
theorem dX6_isRow_38 : decode cX6_isRow 38 = .ok (.goto (-20), 3) := by decide +kernel
theorem dX6_isRow_41 : decode cX6_isRow 41 = .ok (.iconst 1, 1) := by decide +kernel
theorem dX6_isRow_42 : decode cX6_isRow 42 = .ok (.ireturn, 1) := by decide +kernel
theorem dX6_figure_0 : decode cX6_figure 0 = .ok (.iload_n 1, 1) := by decide +kernel
theorem dX6_figure_1 : decode cX6_figure 1 = .ok (.istore_n 3, 1) := by decide +kernel
theorem dX6_figure_2 : decode cX6_figure 2 = .ok (.iload_n 2, 1) := by decide +kernel
theorem dX6_figure_3 : decode cX6_figure 3 = .ok (.iconst 1, 1) := by decide +kernel
theorem dX6_figure_4 : decode cX6_figure 4 = .ok (.iadd, 1) := by decide +kernel
theorem dX6_figure_5 : decode cX6_figure 5 = .ok (.istore 4, 2) := by decide +kernel
theorem dX6_figure_7 : decode cX6_figure 7 = .ok (.iload 4, 2) := by decide +kernel
theorem dX6_figure_9 : decode cX6_figure 9 = .ok (.iload_n 0, 1) := by decide +kernel
theorem dX6_figure_10 : decode cX6_figure 10 = .ok (.if_icmp .ge 14, 3) := by decide +kernel
theorem dX6_figure_13 : decode cX6_figure 13 = .ok (.iload_n 3, 1) := by decide +kernel
theorem dX6_figure_14 : decode cX6_figure 14 = .ok (.bipush 10, 2) := by decide +kernel
theorem dX6_figure_16 : decode cX6_figure 16 = .ok (.idiv, 1) := by decide +kernel
theorem dX6_figure_17 : decode cX6_figure 17 = .ok (.istore_n 3, 1) := by decide +kernel
theorem dX6_figure_18 : decode cX6_figure 18 = .ok (.iinc 4 1, 3) := by decide +kernel
theorem dX6_figure_21 : decode cX6_figure 21 = .ok (.goto (-14), 3) := by decide +kernel
theorem dX6_figure_24 : decode cX6_figure 24 = .ok (.iload_n 3, 1) := by decide +kernel
theorem dX6_figure_25 : decode cX6_figure 25 = .ok (.bipush 10, 2) := by decide +kernel
theorem dX6_figure_27 : decode cX6_figure 27 = .ok (.irem, 1) := by decide +kernel
theorem dX6_figure_28 : decode cX6_figure 28 = .ok (.ireturn, 1) := by decide +kernel
theorem dX6_power_0 : decode cX6_power 0 = .ok (.iconst 1, 1) := by decide +kernel
theorem dX6_power_1 : decode cX6_power 1 = .ok (.istore_n 2, 1) := by decide +kernel
theorem dX6_power_2 : decode cX6_power 2 = .ok (.iconst 0, 1) := by decide +kernel
theorem dX6_power_3 : decode cX6_power 3 = .ok (.istore_n 3, 1) := by decide +kernel
theorem dX6_power_4 : decode cX6_power 4 = .ok (.iload_n 3, 1) := by decide +kernel
theorem dX6_power_5 : decode cX6_power 5 = .ok (.iload_n 1, 1) := by decide +kernel
theorem dX6_power_6 : decode cX6_power 6 = .ok (.if_icmp .ge 13, 3) := by decide +kernel
theorem dX6_power_9 : decode cX6_power 9 = .ok (.iload_n 2, 1) := by decide +kernel
theorem dX6_power_10 : decode cX6_power 10 = .ok (.iload_n 0, 1) := by decide +kernel
theorem dX6_power_11 : decode cX6_power 11 = .ok (.imul, 1) := by decide +kernel
theorem dX6_power_12 : decode cX6_power 12 = .ok (.istore_n 2, 1) := by decide +kernel
theorem dX6_power_13 : decode cX6_power 13 = .ok (.iinc 3 1, 3) := by decide +kernel
theorem dX6_power_16 : decode cX6_power 16 = .ok (.goto (-12), 3) := by decide +kernel
theorem dX6_power_19 : decode cX6_power 19 = .ok (.iload_n 2, 1) := by decide +kernel
theorem dX6_power_20 : decode cX6_power 20 = .ok (.ireturn, 1) := by decide +kernel
theorem dX6_factorial_0 : decode cX6_factorial 0 = .ok (.iconst 1, 1) := by decide +kernel
theorem dX6_factorial_1 : decode cX6_factorial 1 = .ok (.istore_n 1, 1) := by decide +kernel
theorem dX6_factorial_2 : decode cX6_factorial 2 = .ok (.iconst 2, 1) := by decide +kernel
theorem dX6_factorial_3 : decode cX6_factorial 3 = .ok (.istore_n 2, 1) := by decide +kernel
theorem dX6_factorial_4 : decode cX6_factorial 4 = .ok (.iload_n 2, 1) := by decide +kernel
theorem dX6_factorial_5 : decode cX6_factorial 5 = .ok (.iload_n 0, 1) := by decide +kernel
theorem dX6_factorial_6 : decode cX6_factorial 6 = .ok (.if_icmp .gt 13, 3) := by decide +kernel
theorem dX6_factorial_9 : decode cX6_factorial 9 = .ok (.iload_n 1, 1) := by decide +kernel
theorem dX6_factorial_10 : decode cX6_factorial 10 = .ok (.iload_n 2, 1) := by decide +kernel
theorem dX6_factorial_11 : decode cX6_factorial 11 = .ok (.imul, 1) := by decide +kernel
theorem dX6_factorial_12 : decode cX6_factorial 12 = .ok (.istore_n 1, 1) := by decide +kernel
theorem dX6_factorial_13 : decode cX6_factorial 13 = .ok (.iinc 2 1, 3) := by decide +kernel
theorem dX6_factorial_16 : decode cX6_factorial 16 = .ok (.goto (-12), 3) := by decide +kernel
theorem dX6_factorial_19 : decode cX6_factorial 19 = .ok (.iload_n 1, 1) := by decide +kernel
theorem dX6_factorial_20 : decode cX6_factorial 20 = .ok (.ireturn, 1) := by decide +kernel
theorem dX6_partOf_0 : decode cX6_partOf 0 = .ok (.iload_n 0, 1) := by decide +kernel
theorem dX6_partOf_1 : decode cX6_partOf 1 = .ok (.iload_n 1, 1) := by decide +kernel
theorem dX6_partOf_2 : decode cX6_partOf 2 = .ok (.invokestatic 222, 3) := by decide +kernel
theorem dX6_partOf_5 : decode cX6_partOf 5 = .ok (.istore_n 3, 1) := by decide +kernel
theorem dX6_partOf_6 : decode cX6_partOf 6 = .ok (.iload_n 3, 1) := by decide +kernel
theorem dX6_partOf_7 : decode cX6_partOf 7 = .ok (.ifCond .ne 5, 3) := by decide +kernel
theorem dX6_partOf_10 : decode cX6_partOf 10 = .ok (.iconst 0, 1) := by decide +kernel
theorem dX6_partOf_11 : decode cX6_partOf 11 = .ok (.ireturn, 1) := by decide +kernel
theorem dX6_partOf_12 : decode cX6_partOf 12 = .ok (.iload_n 2, 1) := by decide +kernel
theorem dX6_partOf_13 : decode cX6_partOf 13 = .ok (.ifCond .eq 9, 3) := by decide +kernel
theorem dX6_partOf_16 : decode cX6_partOf 16 = .ok (.iload_n 0, 1) := by decide +kernel
theorem dX6_partOf_17 : decode cX6_partOf 17 = .ok (.iload_n 3, 1) := by decide +kernel
theorem dX6_partOf_18 : decode cX6_partOf 18 = .ok (.idiv, 1) := by decide +kernel
theorem dX6_partOf_19 : decode cX6_partOf 19 = .ok (.goto 6, 3) := by decide +kernel
theorem dX6_partOf_22 : decode cX6_partOf 22 = .ok (.iload_n 1, 1) := by decide +kernel
theorem dX6_partOf_23 : decode cX6_partOf 23 = .ok (.iload_n 3, 1) := by decide +kernel
theorem dX6_partOf_24 : decode cX6_partOf 24 = .ok (.idiv, 1) := by decide +kernel
theorem dX6_partOf_25 : decode cX6_partOf 25 = .ok (.ireturn, 1) := by decide +kernel
theorem dX6_commonDivisor_0 : decode cX6_commonDivisor 0 = .ok (.iload_n 0, 1) := by decide +kernel
theorem dX6_commonDivisor_1 : decode cX6_commonDivisor 1 = .ok (.istore_n 2, 1) := by decide +kernel
theorem dX6_commonDivisor_2 : decode cX6_commonDivisor 2 = .ok (.iload_n 1, 1) := by decide +kernel
theorem dX6_commonDivisor_3 : decode cX6_commonDivisor 3 = .ok (.istore_n 3, 1) := by decide +kernel
theorem dX6_commonDivisor_4 : decode cX6_commonDivisor 4 = .ok (.iconst 0, 1) := by decide +kernel
theorem dX6_commonDivisor_5 : decode cX6_commonDivisor 5 = .ok (.istore 4, 2) := by decide +kernel
theorem dX6_commonDivisor_7 : decode cX6_commonDivisor 7 = .ok (.iload 4, 2) := by decide +kernel
theorem dX6_commonDivisor_9 : decode cX6_commonDivisor 9 = .ok (.bipush 64, 2) := by decide +kernel
theorem dX6_commonDivisor_11 : decode cX6_commonDivisor 11 = .ok (.if_icmp .ge 23, 3) := by decide +kernel
theorem dX6_commonDivisor_14 : decode cX6_commonDivisor 14 = .ok (.iload_n 3, 1) := by decide +kernel
theorem dX6_commonDivisor_15 : decode cX6_commonDivisor 15 = .ok (.ifCond .eq 19, 3) := by decide +kernel
theorem dX6_commonDivisor_18 : decode cX6_commonDivisor 18 = .ok (.iload_n 2, 1) := by decide +kernel
theorem dX6_commonDivisor_19 : decode cX6_commonDivisor 19 = .ok (.iload_n 3, 1) := by decide +kernel
theorem dX6_commonDivisor_20 : decode cX6_commonDivisor 20 = .ok (.irem, 1) := by decide +kernel
theorem dX6_commonDivisor_21 : decode cX6_commonDivisor 21 = .ok (.istore 5, 2) := by decide +kernel
theorem dX6_commonDivisor_23 : decode cX6_commonDivisor 23 = .ok (.iload_n 3, 1) := by decide +kernel
theorem dX6_commonDivisor_24 : decode cX6_commonDivisor 24 = .ok (.istore_n 2, 1) := by decide +kernel
theorem dX6_commonDivisor_25 : decode cX6_commonDivisor 25 = .ok (.iload 5, 2) := by decide +kernel
theorem dX6_commonDivisor_27 : decode cX6_commonDivisor 27 = .ok (.istore_n 3, 1) := by decide +kernel
theorem dX6_commonDivisor_28 : decode cX6_commonDivisor 28 = .ok (.iinc 4 1, 3) := by decide +kernel
theorem dX6_commonDivisor_31 : decode cX6_commonDivisor 31 = .ok (.goto (-24), 3) := by decide +kernel
theorem dX6_commonDivisor_34 : decode cX6_commonDivisor 34 = .ok (.iload_n 2, 1) := by decide +kernel
theorem dX6_commonDivisor_35 : decode cX6_commonDivisor 35 = .ok (.ireturn, 1) := by decide +kernel
theorem dX6_newStands_0 : decode cX6_newStands 0 = .ok (.iload_n 0, 1) := by decide +kernel
theorem dX6_newStands_1 : decode cX6_newStands 1 = .ok (.iconst 0, 1) := by decide +kernel
theorem dX6_newStands_2 : decode cX6_newStands 2 = .ok (.invokestatic 225, 3) := by decide +kernel
theorem dX6_newStands_5 : decode cX6_newStands 5 = .ok (.anewarray 23, 3) := by decide +kernel
theorem dX6_newStands_8 : decode cX6_newStands 8 = .ok (.astore_n 1, 1) := by decide +kernel
theorem dX6_newStands_9 : decode cX6_newStands 9 = .ok (.iconst 0, 1) := by decide +kernel
theorem dX6_newStands_10 : decode cX6_newStands 10 = .ok (.istore_n 2, 1) := by decide +kernel
theorem dX6_newStands_11 : decode cX6_newStands 11 = .ok (.iload_n 2, 1) := by decide +kernel
theorem dX6_newStands_12 : decode cX6_newStands 12 = .ok (.aload_n 1, 1) := by decide +kernel
theorem dX6_newStands_13 : decode cX6_newStands 13 = .ok (.arraylength, 1) := by decide +kernel
theorem dX6_newStands_14 : decode cX6_newStands 14 = .ok (.if_icmp .ge 19, 3) := by decide +kernel
theorem dX6_newStands_17 : decode cX6_newStands 17 = .ok (.aload_n 1, 1) := by decide +kernel
theorem dX6_newStands_18 : decode cX6_newStands 18 = .ok (.iload_n 2, 1) := by decide +kernel
theorem dX6_newStands_19 : decode cX6_newStands 19 = .ok (.new 23, 3) := by decide +kernel
theorem dX6_newStands_22 : decode cX6_newStands 22 = .ok (.dup, 1) := by decide +kernel
theorem dX6_newStands_23 : decode cX6_newStands 23 = .ok (.invokespecial 25, 3) := by decide +kernel
theorem dX6_newStands_26 : decode cX6_newStands 26 = .ok (.aastore, 1) := by decide +kernel
theorem dX6_newStands_27 : decode cX6_newStands 27 = .ok (.iinc 2 1, 3) := by decide +kernel
theorem dX6_newStands_30 : decode cX6_newStands 30 = .ok (.goto (-19), 3) := by decide +kernel
theorem dX6_newStands_33 : decode cX6_newStands 33 = .ok (.aload_n 1, 1) := by decide +kernel
theorem dX6_newStands_34 : decode cX6_newStands 34 = .ok (.areturn, 1) := by decide +kernel
