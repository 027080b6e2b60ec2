/-! decode rows -/
theorem dX0_init_0 : decode cX0_init 0 = .ok (.aload_n 0, 1) := by decide +kernel
theorem dX0_init_1 : decode cX0_init 1 = .ok (.invokespecial 3, 3) := by decide +kernel
theorem dX0_init_4 : decode cX0_init 4 = .ok (.aload_n 0, 1) := by decide +kernel
theorem dX0_init_5 : decode cX0_init 5 = .ok (.bipush 14, 2) := by decide +kernel
theorem dX0_init_7 : decode cX0_init 7 = .ok (.invokestatic 9, 3) := by decide +kernel
theorem dX0_init_10 : decode cX0_init 10 = .ok (.putfield 13, 3) := by decide +kernel
theorem dX0_init_13 : decode cX0_init 13 = .ok (.aload_n 0, 1) := by decide +kernel
theorem dX0_init_14 : decode cX0_init 14 = .ok (.iconst 0, 1) := by decide +kernel
theorem dX0_init_15 : decode cX0_init 15 = .ok (.putfield 19, 3) := by decide +kernel
theorem dX0_init_18 : decode cX0_init 18 = .ok (.aload_n 0, 1) := by decide +kernel
theorem dX0_init_19 : decode cX0_init 19 = .ok (.iconst 0, 1) := by decide +kernel
theorem dX0_init_20 : decode cX0_init 20 = .ok (.putfield 23, 3) := by decide +kernel
theorem dX0_init_23 : decode cX0_init 23 = .ok (.return_, 1) := by decide +kernel
theorem dX0_remember_0 : decode cX0_remember 0 = .ok (.aload_n 0, 1) := by decide +kernel
theorem dX0_remember_1 : decode cX0_remember 1 = .ok (.getfield 13, 3) := by decide +kernel
theorem dX0_remember_4 : decode cX0_remember 4 = .ok (.aload_n 0, 1) := by decide +kernel
theorem dX0_remember_5 : decode cX0_remember 5 = .ok (.getfield 19, 3) := by decide +kernel
theorem dX0_remember_8 : decode cX0_remember 8 = .ok (.aload_n 0, 1) := by decide +kernel
theorem dX0_remember_9 : decode cX0_remember 9 = .ok (.getfield 23, 3) := by decide +kernel
theorem dX0_remember_12 : decode cX0_remember 12 = .ok (.iadd, 1) := by decide +kernel
theorem dX0_remember_13 : decode cX0_remember 13 = .ok (.bipush 14, 2) := by decide +kernel
theorem dX0_remember_15 : decode cX0_remember 15 = .ok (.invokestatic 26, 3) := by decide +kernel
theorem dX0_remember_18 : decode cX0_remember 18 = .ok (.aaload, 1) := by decide +kernel
theorem dX0_remember_19 : decode cX0_remember 19 = .ok (.aload_n 1, 1) := by decide +kernel
theorem dX0_remember_20 : decode cX0_remember 20 = .ok (.invokevirtual 32, 3) := by decide +kernel
theorem dX0_remember_23 : decode cX0_remember 23 = .ok (.aload_n 0, 1) := by decide +kernel
theorem dX0_remember_24 : decode cX0_remember 24 = .ok (.getfield 23, 3) := by decide +kernel
theorem dX0_remember_27 : decode cX0_remember 27 = .ok (.bipush 14, 2) := by decide +kernel
theorem dX0_remember_29 : decode cX0_remember 29 = .ok (.if_icmp .ge 16, 3) := by decide +kernel
theorem dX0_remember_32 : decode cX0_remember 32 = .ok (.aload_n 0, 1) := by decide +kernel
theorem dX0_remember_33 : decode cX0_remember 33 = .ok (.dup, 1) := by decide +kernel
theorem dX0_remember_34 : decode cX0_remember 34 = .ok (.getfield 23, 3) := by decide +kernel
theorem dX0_remember_37 : decode cX0_remember 37 = .ok (.iconst 1, 1) := by decide +kernel
theorem dX0_remember_38 : decode cX0_remember 38 = .ok (.iadd, 1) := by decide +kernel
theorem dX0_remember_39 : decode cX0_remember 39 = .ok (.putfield 23, 3) := by decide +kernel
theorem dX0_remember_42 : decode cX0_remember 42 = .ok (.goto 18, 3) := by decide +kernel
theorem dX0_remember_45 : decode cX0_remember 45 = .ok (.aload_n 0, 1) := by decide +kernel
theorem dX0_remember_46 : decode cX0_remember 46 = .ok (.aload_n 0, 1) := by decide +kernel
theorem dX0_remember_47 : decode cX0_remember 47 = .ok (.getfield 19, 3) := by decide +kernel
theorem dX0_remember_50 : decode cX0_remember 50 = .ok (.iconst 1, 1) := by decide +kernel
theorem dX0_remember_51 : decode cX0_remember 51 = .ok (.iadd, 1) := by decide +kernel
theorem dX0_remember_52 : decode cX0_remember 52 = .ok (.bipush 14, 2) := by decide +kernel
theorem dX0_remember_54 : decode cX0_remember 54 = .ok (.invokestatic 26, 3) := by decide +kernel
theorem dX0_remember_57 : decode cX0_remember 57 = .ok (.putfield 19, 3) := by decide +kernel
theorem dX0_remember_60 : decode cX0_remember 60 = .ok (.return_, 1) := by decide +kernel
theorem dX0_takeBack_0 : decode cX0_takeBack 0 = .ok (.aload_n 0, 1) := by decide +kernel
theorem dX0_takeBack_1 : decode cX0_takeBack 1 = .ok (.dup, 1) := by decide +kernel
theorem dX0_takeBack_2 : decode cX0_takeBack 2 = .ok (.getfield 23, 3) := by decide +kernel
theorem dX0_takeBack_5 : decode cX0_takeBack 5 = .ok (.iconst 1, 1) := by decide +kernel
theorem dX0_takeBack_6 : decode cX0_takeBack 6 = .ok (.isub, 1) := by decide +kernel
theorem dX0_takeBack_7 : decode cX0_takeBack 7 = .ok (.putfield 23, 3) := by decide +kernel
theorem dX0_takeBack_10 : decode cX0_takeBack 10 = .ok (.aload_n 1, 1) := by decide +kernel
theorem dX0_takeBack_11 : decode cX0_takeBack 11 = .ok (.aload_n 0, 1) := by decide +kernel
theorem dX0_takeBack_12 : decode cX0_takeBack 12 = .ok (.getfield 13, 3) := by decide +kernel
theorem dX0_takeBack_15 : decode cX0_takeBack 15 = .ok (.aload_n 0, 1) := by decide +kernel
theorem dX0_takeBack_16 : decode cX0_takeBack 16 = .ok (.getfield 19, 3) := by decide +kernel
theorem dX0_takeBack_19 : decode cX0_takeBack 19 = .ok (.aload_n 0, 1) := by decide +kernel
theorem dX0_takeBack_20 : decode cX0_takeBack 20 = .ok (.getfield 23, 3) := by decide +kernel
theorem dX0_takeBack_23 : decode cX0_takeBack 23 = .ok (.iadd, 1) := by decide +kernel
theorem dX0_takeBack_24 : decode cX0_takeBack 24 = .ok (.bipush 14, 2) := by decide +kernel
theorem dX0_takeBack_26 : decode cX0_takeBack 26 = .ok (.invokestatic 26, 3) := by decide +kernel
theorem dX0_takeBack_29 : decode cX0_takeBack 29 = .ok (.aaload, 1) := by decide +kernel
theorem dX0_takeBack_30 : decode cX0_takeBack 30 = .ok (.invokevirtual 32, 3) := by decide +kernel
theorem dX0_takeBack_33 : decode cX0_takeBack 33 = .ok (.return_, 1) := by decide +kernel
theorem dX1_init_0 : decode cX1_init 0 = .ok (.aload_n 0, 1) := by decide +kernel
theorem dX1_init_1 : decode cX1_init 1 = .ok (.invokespecial 3, 3) := by decide +kernel
theorem dX1_init_4 : decode cX1_init 4 = .ok (.aload_n 0, 1) := by decide +kernel
theorem dX1_init_5 : decode cX1_init 5 = .ok (.bipush 7, 2) := by decide +kernel
theorem dX1_init_7 : decode cX1_init 7 = .ok (.invokestatic 9, 3) := by decide +kernel
theorem dX1_init_10 : decode cX1_init 10 = .ok (.putfield 13, 3) := by decide +kernel
theorem dX1_init_13 : decode cX1_init 13 = .ok (.aload_n 0, 1) := by decide +kernel
theorem dX1_init_14 : decode cX1_init 14 = .ok (.new 19, 3) := by decide +kernel
theorem dX1_init_17 : decode cX1_init 17 = .ok (.dup, 1) := by decide +kernel
theorem dX1_init_18 : decode cX1_init 18 = .ok (.invokespecial 21, 3) := by decide +kernel
theorem dX1_init_21 : decode cX1_init 21 = .ok (.putfield 22, 3) := by decide +kernel
theorem dX1_init_24 : decode cX1_init 24 = .ok (.return_, 1) := by decide +kernel
theorem dX1_most_0 : decode cX1_most 0 = .ok (.iload_n 3, 1) := by decide +kernel
theorem dX1_most_1 : decode cX1_most 1 = .ok (.ifCond .lt 12, 3) := by decide +kernel
theorem dX1_most_4 : decode cX1_most 4 = .ok (.iload_n 3, 1) := by decide +kernel
theorem dX1_most_5 : decode cX1_most 5 = .ok (.aload_n 0, 1) := by decide +kernel
theorem dX1_most_6 : decode cX1_most 6 = .ok (.getfield 13, 3) := by decide +kernel
theorem dX1_most_9 : decode cX1_most 9 = .ok (.arraylength, 1) := by decide +kernel
theorem dX1_most_10 : decode cX1_most 10 = .ok (.if_icmp .lt 5, 3) := by decide +kernel
theorem dX1_most_13 : decode cX1_most 13 = .ok (.iconst 0, 1) := by decide +kernel
theorem dX1_most_14 : decode cX1_most 14 = .ok (.ireturn, 1) := by decide +kernel
theorem dX1_most_15 : decode cX1_most 15 = .ok (.aload_n 0, 1) := by decide +kernel
theorem dX1_most_16 : decode cX1_most 16 = .ok (.getfield 13, 3) := by decide +kernel
theorem dX1_most_19 : decode cX1_most 19 = .ok (.iload_n 3, 1) := by decide +kernel
theorem dX1_most_20 : decode cX1_most 20 = .ok (.aaload, 1) := by decide +kernel
theorem dX1_most_21 : decode cX1_most 21 = .ok (.aload_n 2, 1) := by decide +kernel
theorem dX1_most_22 : decode cX1_most 22 = .ok (.invokevirtual 26, 3) := by decide +kernel
theorem dX1_most_25 : decode cX1_most 25 = .ok (.aload_n 1, 1) := by decide +kernel
theorem dX1_most_26 : decode cX1_most 26 = .ok (.aload_n 0, 1) := by decide +kernel
theorem dX1_most_27 : decode cX1_most 27 = .ok (.getfield 13, 3) := by decide +kernel
theorem dX1_most_30 : decode cX1_most 30 = .ok (.iload_n 3, 1) := by decide +kernel
theorem dX1_most_31 : decode cX1_most 31 = .ok (.invokestatic 30, 3) := by decide +kernel
theorem dX1_most_34 : decode cX1_most 34 = .ok (.aload_n 2, 1) := by decide +kernel
theorem dX1_most_35 : decode cX1_most 35 = .ok (.getfield 34, 3) := by decide +kernel
theorem dX1_most_38 : decode cX1_most 38 = .ok (.isub, 1) := by decide +kernel
theorem dX1_most_39 : decode cX1_most 39 = .ok (.ireturn, 1) := by decide +kernel
theorem dX1_bestRow_0 : decode cX1_bestRow 0 = .ok (.aload_n 2, 1) := by decide +kernel
theorem dX1_bestRow_1 : decode cX1_bestRow 1 = .ok (.getfield 34, 3) := by decide +kernel
theorem dX1_bestRow_4 : decode cX1_bestRow 4 = .ok (.aload_n 0, 1) := by decide +kernel
theorem dX1_bestRow_5 : decode cX1_bestRow 5 = .ok (.aload_n 1, 1) := by decide +kernel
theorem dX1_bestRow_6 : decode cX1_bestRow 6 = .ok (.aload_n 2, 1) := by decide +kernel
theorem dX1_bestRow_7 : decode cX1_bestRow 7 = .ok (.iload_n 3, 1) := by decide +kernel
theorem dX1_bestRow_8 : decode cX1_bestRow 8 = .ok (.invokevirtual 38, 3) := by decide +kernel
theorem dX1_bestRow_11 : decode cX1_bestRow 11 = .ok (.iadd, 1) := by decide +kernel
theorem dX1_bestRow_12 : decode cX1_bestRow 12 = .ok (.istore 4, 2) := by decide +kernel
theorem dX1_bestRow_14 : decode cX1_bestRow 14 = .ok (.iconst 1, 1) := by decide +kernel
theorem dX1_bestRow_15 : decode cX1_bestRow 15 = .ok (.istore 5, 2) := by decide +kernel
theorem dX1_bestRow_17 : decode cX1_bestRow 17 = .ok (.aload_n 0, 1) := by decide +kernel
theorem dX1_bestRow_18 : decode cX1_bestRow 18 = .ok (.getfield 22, 3) := by decide +kernel
theorem dX1_bestRow_21 : decode cX1_bestRow 21 = .ok (.aload_n 2, 1) := by decide +kernel
theorem dX1_bestRow_22 : decode cX1_bestRow 22 = .ok (.invokevirtual 26, 3) := by decide +kernel
theorem dX1_bestRow_25 : decode cX1_bestRow 25 = .ok (.iload_n 3, 1) := by decide +kernel
theorem dX1_bestRow_26 : decode cX1_bestRow 26 = .ok (.iconst 1, 1) := by decide +kernel
theorem dX1_bestRow_27 : decode cX1_bestRow 27 = .ok (.isub, 1) := by decide +kernel
theorem dX1_bestRow_28 : decode cX1_bestRow 28 = .ok (.istore 6, 2) := by decide +kernel
theorem dX1_bestRow_30 : decode cX1_bestRow 30 = .ok (.iload 6, 2) := by decide +kernel
theorem dX1_bestRow_32 : decode cX1_bestRow 32 = .ok (.ifCond .lt 41, 3) := by decide +kernel
theorem dX1_bestRow_35 : decode cX1_bestRow 35 = .ok (.aload_n 0, 1) := by decide +kernel
theorem dX1_bestRow_36 : decode cX1_bestRow 36 = .ok (.aload_n 1, 1) := by decide +kernel
theorem dX1_bestRow_37 : decode cX1_bestRow 37 = .ok (.iload 4, 2) := by decide +kernel
theorem dX1_bestRow_39 : decode cX1_bestRow 39 = .ok (.iload 6, 2) := by decide +kernel
theorem dX1_bestRow_41 : decode cX1_bestRow 41 = .ok (.invokevirtual 42, 3) := by decide +kernel
theorem dX1_bestRow_44 : decode cX1_bestRow 44 = .ok (.istore 7, 2) := by decide +kernel
theorem dX1_bestRow_46 : decode cX1_bestRow 46 = .ok (.aload_n 0, 1) := by decide +kernel
theorem dX1_bestRow_47 : decode cX1_bestRow 47 = .ok (.getfield 22, 3) := by decide +kernel
theorem dX1_bestRow_50 : decode cX1_bestRow 50 = .ok (.aload_n 1, 1) := by decide +kernel
theorem dX1_bestRow_51 : decode cX1_bestRow 51 = .ok (.iload 7, 2) := by decide +kernel
theorem dX1_bestRow_53 : decode cX1_bestRow 53 = .ok (.invokevirtual 46, 3) := by decide +kernel
theorem dX1_bestRow_56 : decode cX1_bestRow 56 = .ok (.pop, 1) := by decide +kernel
theorem dX1_bestRow_57 : decode cX1_bestRow 57 = .ok (.iload 5, 2) := by decide +kernel
theorem dX1_bestRow_59 : decode cX1_bestRow 59 = .ok (.bipush 10, 2) := by decide +kernel
theorem dX1_bestRow_61 : decode cX1_bestRow 61 = .ok (.imul, 1) := by decide +kernel
theorem dX1_bestRow_62 : decode cX1_bestRow 62 = .ok (.iload 7, 2) := by decide +kernel
theorem dX1_bestRow_64 : decode cX1_bestRow 64 = .ok (.iadd, 1) := by decide +kernel
theorem dX1_bestRow_65 : decode cX1_bestRow 65 = .ok (.istore 5, 2) := by decide +kernel
theorem dX1_bestRow_67 : decode cX1_bestRow 67 = .ok (.iinc 6 (-1), 3) := by decide +kernel
theorem dX1_bestRow_70 : decode cX1_bestRow 70 = .ok (.goto (-40), 3) := by decide +kernel
theorem dX1_bestRow_73 : decode cX1_bestRow 73 = .ok (.iload 5, 2) := by decide +kernel
theorem dX1_bestRow_75 : decode cX1_bestRow 75 = .ok (.ireturn, 1) := by decide +kernel
theorem dX1_firstTurnTo_0 : decode cX1_firstTurnTo 0 = .ok (.iconst 0, 1) := by decide +kernel
theorem dX1_firstTurnTo_1 : decode cX1_firstTurnTo 1 = .ok (.istore 4, 2) := by decide +kernel
theorem dX1_firstTurnTo_3 : decode cX1_firstTurnTo 3 = .ok (.iload 4, 2) := by decide +kernel
theorem dX1_firstTurnTo_5 : decode cX1_firstTurnTo 5 = .ok (.iconst 3, 1) := by decide +kernel
theorem dX1_firstTurnTo_6 : decode cX1_firstTurnTo 6 = .ok (.if_icmp .ge 73, 3) := by decide +kernel
theorem dX1_firstTurnTo_9 : decode cX1_firstTurnTo 9 = .ok (.iload_n 3, 1) := by decide +kernel
theorem dX1_firstTurnTo_10 : decode cX1_firstTurnTo 10 = .ok (.aload_n 0, 1) := by decide +kernel
theorem dX1_firstTurnTo_11 : decode cX1_firstTurnTo 11 = .ok (.getfield 13, 3) := by decide +kernel
theorem dX1_firstTurnTo_14 : decode cX1_firstTurnTo 14 = .ok (.arraylength, 1) := by decide +kernel
theorem dX1_firstTurnTo_15 : decode cX1_firstTurnTo 15 = .ok (.if_icmp .ge 64, 3) := by decide +kernel
theorem dX1_firstTurnTo_18 : decode cX1_firstTurnTo 18 = .ok (.aload_n 0, 1) := by decide +kernel
theorem dX1_firstTurnTo_19 : decode cX1_firstTurnTo 19 = .ok (.getfield 22, 3) := by decide +kernel
theorem dX1_firstTurnTo_22 : decode cX1_firstTurnTo 22 = .ok (.aload_n 1, 1) := by decide +kernel
theorem dX1_firstTurnTo_23 : decode cX1_firstTurnTo 23 = .ok (.iload 4, 2) := by decide +kernel
theorem dX1_firstTurnTo_25 : decode cX1_firstTurnTo 25 = .ok (.invokevirtual 50, 3) := by decide +kernel
theorem dX1_firstTurnTo_28 : decode cX1_firstTurnTo 28 = .ok (.ifCond .eq 45, 3) := by decide +kernel
theorem dX1_firstTurnTo_31 : decode cX1_firstTurnTo 31 = .ok (.aload_n 0, 1) := by decide +kernel
theorem dX1_firstTurnTo_32 : decode cX1_firstTurnTo 32 = .ok (.getfield 13, 3) := by decide +kernel
theorem dX1_firstTurnTo_35 : decode cX1_firstTurnTo 35 = .ok (.iload_n 3, 1) := by decide +kernel
theorem dX1_firstTurnTo_36 : decode cX1_firstTurnTo 36 = .ok (.aaload, 1) := by decide +kernel
theorem dX1_firstTurnTo_37 : decode cX1_firstTurnTo 37 = .ok (.aload_n 0, 1) := by decide +kernel
theorem dX1_firstTurnTo_38 : decode cX1_firstTurnTo 38 = .ok (.getfield 22, 3) := by decide +kernel
theorem dX1_firstTurnTo_41 : decode cX1_firstTurnTo 41 = .ok (.invokevirtual 26, 3) := by decide +kernel
theorem dX1_firstTurnTo_44 : decode cX1_firstTurnTo 44 = .ok (.aload_n 0, 1) := by decide +kernel
theorem dX1_firstTurnTo_45 : decode cX1_firstTurnTo 45 = .ok (.getfield 13, 3) := by decide +kernel
theorem dX1_firstTurnTo_48 : decode cX1_firstTurnTo 48 = .ok (.iload_n 3, 1) := by decide +kernel
theorem dX1_firstTurnTo_49 : decode cX1_firstTurnTo 49 = .ok (.aaload, 1) := by decide +kernel
theorem dX1_firstTurnTo_50 : decode cX1_firstTurnTo 50 = .ok (.aload_n 1, 1) := by decide +kernel
theorem dX1_firstTurnTo_51 : decode cX1_firstTurnTo 51 = .ok (.iload 4, 2) := by decide +kernel
theorem dX1_firstTurnTo_53 : decode cX1_firstTurnTo 53 = .ok (.invokevirtual 46, 3) := by decide +kernel
theorem dX1_firstTurnTo_56 : decode cX1_firstTurnTo 56 = .ok (.pop, 1) := by decide +kernel
theorem dX1_firstTurnTo_57 : decode cX1_firstTurnTo 57 = .ok (.aload_n 1, 1) := by decide +kernel
theorem dX1_firstTurnTo_58 : decode cX1_firstTurnTo 58 = .ok (.aload_n 0, 1) := by decide +kernel
theorem dX1_firstTurnTo_59 : decode cX1_firstTurnTo 59 = .ok (.getfield 13, 3) := by decide +kernel
theorem dX1_firstTurnTo_62 : decode cX1_firstTurnTo 62 = .ok (.iload_n 3, 1) := by decide +kernel
theorem dX1_firstTurnTo_63 : decode cX1_firstTurnTo 63 = .ok (.invokestatic 30, 3) := by decide +kernel
theorem dX1_firstTurnTo_66 : decode cX1_firstTurnTo 66 = .ok (.iload_n 2, 1) := by decide +kernel
theorem dX1_firstTurnTo_67 : decode cX1_firstTurnTo 67 = .ok (.if_icmp .ne 6, 3) := by decide +kernel
theorem dX1_firstTurnTo_70 : decode cX1_firstTurnTo 70 = .ok (.iload 4, 2) := by decide +kernel
theorem dX1_firstTurnTo_72 : decode cX1_firstTurnTo 72 = .ok (.ireturn, 1) := by decide +kernel
theorem dX1_firstTurnTo_73 : decode cX1_firstTurnTo 73 = .ok (.iinc 4 1, 3) := by decide +kernel
theorem dX1_firstTurnTo_76 : decode cX1_firstTurnTo 76 = .ok (.goto (-73), 3) := by decide +kernel
theorem dX1_firstTurnTo_79 : decode cX1_firstTurnTo 79 = .ok (.iconst 3, 1) := by decide +kernel
theorem dX1_firstTurnTo_80 : decode cX1_firstTurnTo 80 = .ok (.ireturn, 1) := by decide +kernel
theorem dX1_mostBelow_0 : decode cX1_mostBelow 0 = .ok (.iload_n 2, 1) := by decide +kernel
theorem dX1_mostBelow_1 : decode cX1_mostBelow 1 = .ok (.ifCond .lt 9, 3) := by decide +kernel
theorem dX1_mostBelow_4 : decode cX1_mostBelow 4 = .ok (.iload_n 2, 1) := by decide +kernel
theorem dX1_mostBelow_5 : decode cX1_mostBelow 5 = .ok (.aload_n 1, 1) := by decide +kernel
theorem dX1_mostBelow_6 : decode cX1_mostBelow 6 = .ok (.arraylength, 1) := by decide +kernel
theorem dX1_mostBelow_7 : decode cX1_mostBelow 7 = .ok (.if_icmp .lt 5, 3) := by decide +kernel
theorem dX1_mostBelow_10 : decode cX1_mostBelow 10 = .ok (.iconst 0, 1) := by decide +kernel
theorem dX1_mostBelow_11 : decode cX1_mostBelow 11 = .ok (.ireturn, 1) := by decide +kernel
theorem dX1_mostBelow_12 : decode cX1_mostBelow 12 = .ok (.aload_n 1, 1) := by decide +kernel
theorem dX1_mostBelow_13 : decode cX1_mostBelow 13 = .ok (.iload_n 2, 1) := by decide +kernel
theorem dX1_mostBelow_14 : decode cX1_mostBelow 14 = .ok (.aaload, 1) := by decide +kernel
theorem dX1_mostBelow_15 : decode cX1_mostBelow 15 = .ok (.astore_n 3, 1) := by decide +kernel
theorem dX1_mostBelow_16 : decode cX1_mostBelow 16 = .ok (.iload_n 2, 1) := by decide +kernel
theorem dX1_mostBelow_17 : decode cX1_mostBelow 17 = .ok (.ifCond .eq 12, 3) := by decide +kernel
theorem dX1_mostBelow_20 : decode cX1_mostBelow 20 = .ok (.aload_n 3, 1) := by decide +kernel
theorem dX1_mostBelow_21 : decode cX1_mostBelow 21 = .ok (.aload_n 0, 1) := by decide +kernel
theorem dX1_mostBelow_22 : decode cX1_mostBelow 22 = .ok (.iconst 2, 1) := by decide +kernel
theorem dX1_mostBelow_23 : decode cX1_mostBelow 23 = .ok (.invokevirtual 50, 3) := by decide +kernel
theorem dX1_mostBelow_26 : decode cX1_mostBelow 26 = .ok (.ifCond .ne 8, 3) := by decide +kernel
theorem dX1_mostBelow_29 : decode cX1_mostBelow 29 = .ok (.aload_n 3, 1) := by decide +kernel
theorem dX1_mostBelow_30 : decode cX1_mostBelow 30 = .ok (.getfield 34, 3) := by decide +kernel
theorem dX1_mostBelow_33 : decode cX1_mostBelow 33 = .ok (.ireturn, 1) := by decide +kernel
theorem dX1_mostBelow_34 : decode cX1_mostBelow 34 = .ok (.iload_n 2, 1) := by decide +kernel
theorem dX1_mostBelow_35 : decode cX1_mostBelow 35 = .ok (.iconst 1, 1) := by decide +kernel
theorem dX1_mostBelow_36 : decode cX1_mostBelow 36 = .ok (.if_icmp .ne 14, 3) := by decide +kernel
theorem dX1_mostBelow_39 : decode cX1_mostBelow 39 = .ok (.aload_n 3, 1) := by decide +kernel
theorem dX1_mostBelow_40 : decode cX1_mostBelow 40 = .ok (.getfield 34, 3) := by decide +kernel
theorem dX1_mostBelow_43 : decode cX1_mostBelow 43 = .ok (.aload_n 3, 1) := by decide +kernel
theorem dX1_mostBelow_44 : decode cX1_mostBelow 44 = .ok (.aload_n 0, 1) := by decide +kernel
theorem dX1_mostBelow_45 : decode cX1_mostBelow 45 = .ok (.invokevirtual 54, 3) := by decide +kernel
theorem dX1_mostBelow_48 : decode cX1_mostBelow 48 = .ok (.iadd, 1) := by decide +kernel
theorem dX1_mostBelow_49 : decode cX1_mostBelow 49 = .ok (.ireturn, 1) := by decide +kernel
theorem dX1_mostBelow_50 : decode cX1_mostBelow 50 = .ok (.aload_n 3, 1) := by decide +kernel
theorem dX1_mostBelow_51 : decode cX1_mostBelow 51 = .ok (.getfield 34, 3) := by decide +kernel
theorem dX1_mostBelow_54 : decode cX1_mostBelow 54 = .ok (.istore 4, 2) := by decide +kernel
theorem dX1_mostBelow_56 : decode cX1_mostBelow 56 = .ok (.iconst 0, 1) := by decide +kernel
theorem dX1_mostBelow_57 : decode cX1_mostBelow 57 = .ok (.istore 5, 2) := by decide +kernel
theorem dX1_mostBelow_59 : decode cX1_mostBelow 59 = .ok (.iload 5, 2) := by decide +kernel
theorem dX1_mostBelow_61 : decode cX1_mostBelow 61 = .ok (.iconst 3, 1) := by decide +kernel
theorem dX1_mostBelow_62 : decode cX1_mostBelow 62 = .ok (.if_icmp .gt 55, 3) := by decide +kernel
theorem dX1_mostBelow_65 : decode cX1_mostBelow 65 = .ok (.aload_n 3, 1) := by decide +kernel
theorem dX1_mostBelow_66 : decode cX1_mostBelow 66 = .ok (.aload_n 0, 1) := by decide +kernel
theorem dX1_mostBelow_67 : decode cX1_mostBelow 67 = .ok (.iload 5, 2) := by decide +kernel
theorem dX1_mostBelow_69 : decode cX1_mostBelow 69 = .ok (.invokevirtual 50, 3) := by decide +kernel
theorem dX1_mostBelow_72 : decode cX1_mostBelow 72 = .ok (.ifCond .eq 39, 3) := by decide +kernel
theorem dX1_mostBelow_75 : decode cX1_mostBelow 75 = .ok (.aload_n 1, 1) := by decide +kernel
theorem dX1_mostBelow_76 : decode cX1_mostBelow 76 = .ok (.iload_n 2, 1) := by decide +kernel
theorem dX1_mostBelow_77 : decode cX1_mostBelow 77 = .ok (.iconst 1, 1) := by decide +kernel
theorem dX1_mostBelow_78 : decode cX1_mostBelow 78 = .ok (.isub, 1) := by decide +kernel
theorem dX1_mostBelow_79 : decode cX1_mostBelow 79 = .ok (.aaload, 1) := by decide +kernel
theorem dX1_mostBelow_80 : decode cX1_mostBelow 80 = .ok (.aload_n 3, 1) := by decide +kernel
theorem dX1_mostBelow_81 : decode cX1_mostBelow 81 = .ok (.invokevirtual 26, 3) := by decide +kernel
theorem dX1_mostBelow_84 : decode cX1_mostBelow 84 = .ok (.aload_n 1, 1) := by decide +kernel
theorem dX1_mostBelow_85 : decode cX1_mostBelow 85 = .ok (.iload_n 2, 1) := by decide +kernel
theorem dX1_mostBelow_86 : decode cX1_mostBelow 86 = .ok (.iconst 1, 1) := by decide +kernel
theorem dX1_mostBelow_87 : decode cX1_mostBelow 87 = .ok (.isub, 1) := by decide +kernel
theorem dX1_mostBelow_88 : decode cX1_mostBelow 88 = .ok (.aaload, 1) := by decide +kernel
theorem dX1_mostBelow_89 : decode cX1_mostBelow 89 = .ok (.aload_n 0, 1) := by decide +kernel
theorem dX1_mostBelow_90 : decode cX1_mostBelow 90 = .ok (.iload 5, 2) := by decide +kernel
theorem dX1_mostBelow_92 : decode cX1_mostBelow 92 = .ok (.invokevirtual 46, 3) := by decide +kernel
theorem dX1_mostBelow_95 : decode cX1_mostBelow 95 = .ok (.pop, 1) := by decide +kernel
theorem dX1_mostBelow_96 : decode cX1_mostBelow 96 = .ok (.iload 4, 2) := by decide +kernel
theorem dX1_mostBelow_98 : decode cX1_mostBelow 98 = .ok (.aload_n 0, 1) := by decide +kernel
theorem dX1_mostBelow_99 : decode cX1_mostBelow 99 = .ok (.aload_n 1, 1) := by decide +kernel
theorem dX1_mostBelow_100 : decode cX1_mostBelow 100 = .ok (.iload_n 2, 1) := by decide +kernel
theorem dX1_mostBelow_101 : decode cX1_mostBelow 101 = .ok (.iconst 1, 1) := by decide +kernel
theorem dX1_mostBelow_102 : decode cX1_mostBelow 102 = .ok (.isub, 1) := by decide +kernel
theorem dX1_mostBelow_103 : decode cX1_mostBelow 103 = .ok (.invokestatic 30, 3) := by decide +kernel
theorem dX1_mostBelow_106 : decode cX1_mostBelow 106 = .ok (.invokestatic 58, 3) := by decide +kernel
theorem dX1_mostBelow_109 : decode cX1_mostBelow 109 = .ok (.istore 4, 2) := by decide +kernel
theorem dX1_mostBelow_111 : decode cX1_mostBelow 111 = .ok (.iinc 5 1, 3) := by decide +kernel
theorem dX1_mostBelow_114 : decode cX1_mostBelow 114 = .ok (.goto (-55), 3) := by decide +kernel
theorem dX1_mostBelow_117 : decode cX1_mostBelow 117 = .ok (.iload 4, 2) := by decide +kernel
theorem dX1_mostBelow_119 : decode cX1_mostBelow 119 = .ok (.ireturn, 1) := by decide +kernel
theorem dX2_init_0 : decode cX2_init 0 = .ok (.aload_n 0, 1) := by decide +kernel
theorem dX2_init_1 : decode cX2_init 1 = .ok (.invokespecial 3, 3) := by decide +kernel
theorem dX2_init_4 : decode cX2_init 4 = .ok (.aload_n 0, 1) := by decide +kernel
theorem dX2_init_5 : decode cX2_init 5 = .ok (.bipush 6, 2) := by decide +kernel
theorem dX2_init_7 : decode cX2_init 7 = .ok (.newarray .int, 2) := by decide +kernel
theorem dX2_init_9 : decode cX2_init 9 = .ok (.putfield 9, 3) := by decide +kernel
theorem dX2_init_12 : decode cX2_init 12 = .ok (.aload_n 0, 1) := by decide +kernel
theorem dX2_init_13 : decode cX2_init 13 = .ok (.bipush 6, 2) := by decide +kernel
theorem dX2_init_15 : decode cX2_init 15 = .ok (.newarray .int, 2) := by decide +kernel
theorem dX2_init_17 : decode cX2_init 17 = .ok (.putfield 15, 3) := by decide +kernel
theorem dX2_init_20 : decode cX2_init 20 = .ok (.aload_n 0, 1) := by decide +kernel
theorem dX2_init_21 : decode cX2_init 21 = .ok (.bipush 6, 2) := by decide +kernel
theorem dX2_init_23 : decode cX2_init 23 = .ok (.newarray .int, 2) := by decide +kernel
theorem dX2_init_25 : decode cX2_init 25 = .ok (.putfield 18, 3) := by decide +kernel
theorem dX2_init_28 : decode cX2_init 28 = .ok (.aload_n 0, 1) := by decide +kernel
theorem dX2_init_29 : decode cX2_init 29 = .ok (.bipush 6, 2) := by decide +kernel
theorem dX2_init_31 : decode cX2_init 31 = .ok (.newarray .int, 2) := by decide +kernel
theorem dX2_init_33 : decode cX2_init 33 = .ok (.putfield 21, 3) := by decide +kernel
theorem dX2_init_36 : decode cX2_init 36 = .ok (.aload_n 0, 1) := by decide +kernel
theorem dX2_init_37 : decode cX2_init 37 = .ok (.iconst 0, 1) := by decide +kernel
theorem dX2_init_38 : decode cX2_init 38 = .ok (.putfield 24, 3) := by decide +kernel
theorem dX2_init_41 : decode cX2_init 41 = .ok (.return_, 1) := by decide +kernel
theorem dX2_add_0 : decode cX2_add 0 = .ok (.aload_n 0, 1) := by decide +kernel
theorem dX2_add_1 : decode cX2_add 1 = .ok (.getfield 24, 3) := by decide +kernel
theorem dX2_add_4 : decode cX2_add 4 = .ok (.ifCond .lt 63, 3) := by decide +kernel
theorem dX2_add_7 : decode cX2_add 7 = .ok (.aload_n 0, 1) := by decide +kernel
theorem dX2_add_8 : decode cX2_add 8 = .ok (.getfield 24, 3) := by decide +kernel
theorem dX2_add_11 : decode cX2_add 11 = .ok (.bipush 6, 2) := by decide +kernel
theorem dX2_add_13 : decode cX2_add 13 = .ok (.if_icmp .ge 54, 3) := by decide +kernel
theorem dX2_add_16 : decode cX2_add 16 = .ok (.aload_n 0, 1) := by decide +kernel
theorem dX2_add_17 : decode cX2_add 17 = .ok (.getfield 9, 3) := by decide +kernel
theorem dX2_add_20 : decode cX2_add 20 = .ok (.aload_n 0, 1) := by decide +kernel
theorem dX2_add_21 : decode cX2_add 21 = .ok (.getfield 24, 3) := by decide +kernel
theorem dX2_add_24 : decode cX2_add 24 = .ok (.iload_n 1, 1) := by decide +kernel
theorem dX2_add_25 : decode cX2_add 25 = .ok (.iastore, 1) := by decide +kernel
theorem dX2_add_26 : decode cX2_add 26 = .ok (.aload_n 0, 1) := by decide +kernel
theorem dX2_add_27 : decode cX2_add 27 = .ok (.getfield 15, 3) := by decide +kernel
theorem dX2_add_30 : decode cX2_add 30 = .ok (.aload_n 0, 1) := by decide +kernel
theorem dX2_add_31 : decode cX2_add 31 = .ok (.getfield 24, 3) := by decide +kernel
theorem dX2_add_34 : decode cX2_add 34 = .ok (.iload_n 2, 1) := by decide +kernel
theorem dX2_add_35 : decode cX2_add 35 = .ok (.iastore, 1) := by decide +kernel
theorem dX2_add_36 : decode cX2_add 36 = .ok (.aload_n 0, 1) := by decide +kernel
theorem dX2_add_37 : decode cX2_add 37 = .ok (.getfield 18, 3) := by decide +kernel
theorem dX2_add_40 : decode cX2_add 40 = .ok (.aload_n 0, 1) := by decide +kernel
theorem dX2_add_41 : decode cX2_add 41 = .ok (.getfield 24, 3) := by decide +kernel
theorem dX2_add_44 : decode cX2_add 44 = .ok (.iload_n 3, 1) := by decide +kernel
theorem dX2_add_45 : decode cX2_add 45 = .ok (.iastore, 1) := by decide +kernel
theorem dX2_add_46 : decode cX2_add 46 = .ok (.aload_n 0, 1) := by decide +kernel
theorem dX2_add_47 : decode cX2_add 47 = .ok (.getfield 21, 3) := by decide +kernel
theorem dX2_add_50 : decode cX2_add 50 = .ok (.aload_n 0, 1) := by decide +kernel
theorem dX2_add_51 : decode cX2_add 51 = .ok (.getfield 24, 3) := by decide +kernel
theorem dX2_add_54 : decode cX2_add 54 = .ok (.iload 4, 2) := by decide +kernel
theorem dX2_add_56 : decode cX2_add 56 = .ok (.iastore, 1) := by decide +kernel
theorem dX2_add_57 : decode cX2_add 57 = .ok (.aload_n 0, 1) := by decide +kernel
theorem dX2_add_58 : decode cX2_add 58 = .ok (.dup, 1) := by decide +kernel
theorem dX2_add_59 : decode cX2_add 59 = .ok (.getfield 24, 3) := by decide +kernel
theorem dX2_add_62 : decode cX2_add 62 = .ok (.iconst 1, 1) := by decide +kernel
theorem dX2_add_63 : decode cX2_add 63 = .ok (.iadd, 1) := by decide +kernel
theorem dX2_add_64 : decode cX2_add 64 = .ok (.putfield 24, 3) := by decide +kernel
theorem dX2_add_67 : decode cX2_add 67 = .ok (.return_, 1) := by decide +kernel
theorem dX2_allows_0 : decode cX2_allows 0 = .ok (.iconst 0, 1) := by decide +kernel
theorem dX2_allows_1 : decode cX2_allows 1 = .ok (.istore_n 3, 1) := by decide +kernel
theorem dX2_allows_2 : decode cX2_allows 2 = .ok (.iload_n 3, 1) := by decide +kernel
theorem dX2_allows_3 : decode cX2_allows 3 = .ok (.aload_n 0, 1) := by decide +kernel
theorem dX2_allows_4 : decode cX2_allows 4 = .ok (.getfield 24, 3) := by decide +kernel
theorem dX2_allows_7 : decode cX2_allows 7 = .ok (.if_icmp .ge 52, 3) := by decide +kernel
theorem dX2_allows_10 : decode cX2_allows 10 = .ok (.iload_n 3, 1) := by decide +kernel
theorem dX2_allows_11 : decode cX2_allows 11 = .ok (.bipush 6, 2) := by decide +kernel
theorem dX2_allows_13 : decode cX2_allows 13 = .ok (.if_icmp .ge 46, 3) := by decide +kernel
theorem dX2_allows_16 : decode cX2_allows 16 = .ok (.aload_n 0, 1) := by decide +kernel
theorem dX2_allows_17 : decode cX2_allows 17 = .ok (.getfield 9, 3) := by decide +kernel
theorem dX2_allows_20 : decode cX2_allows 20 = .ok (.iload_n 3, 1) := by decide +kernel
theorem dX2_allows_21 : decode cX2_allows 21 = .ok (.iaload, 1) := by decide +kernel
theorem dX2_allows_22 : decode cX2_allows 22 = .ok (.iload_n 1, 1) := by decide +kernel
theorem dX2_allows_23 : decode cX2_allows 23 = .ok (.if_icmp .ne 30, 3) := by decide +kernel
theorem dX2_allows_26 : decode cX2_allows 26 = .ok (.iload_n 2, 1) := by decide +kernel
theorem dX2_allows_27 : decode cX2_allows 27 = .ok (.aload_n 0, 1) := by decide +kernel
theorem dX2_allows_28 : decode cX2_allows 28 = .ok (.getfield 15, 3) := by decide +kernel
theorem dX2_allows_31 : decode cX2_allows 31 = .ok (.iload_n 3, 1) := by decide +kernel
theorem dX2_allows_32 : decode cX2_allows 32 = .ok (.iaload, 1) := by decide +kernel
theorem dX2_allows_33 : decode cX2_allows 33 = .ok (.aload_n 0, 1) := by decide +kernel
theorem dX2_allows_34 : decode cX2_allows 34 = .ok (.getfield 18, 3) := by decide +kernel
theorem dX2_allows_37 : decode cX2_allows 37 = .ok (.iload_n 3, 1) := by decide +kernel
theorem dX2_allows_38 : decode cX2_allows 38 = .ok (.iaload, 1) := by decide +kernel
theorem dX2_allows_39 : decode cX2_allows 39 = .ok (.invokestatic 28, 3) := by decide +kernel
theorem dX2_allows_42 : decode cX2_allows 42 = .ok (.aload_n 0, 1) := by decide +kernel
theorem dX2_allows_43 : decode cX2_allows 43 = .ok (.getfield 21, 3) := by decide +kernel
theorem dX2_allows_46 : decode cX2_allows 46 = .ok (.iload_n 3, 1) := by decide +kernel
theorem dX2_allows_47 : decode cX2_allows 47 = .ok (.iaload, 1) := by decide +kernel
theorem dX2_allows_48 : decode cX2_allows 48 = .ok (.if_icmp .eq 5, 3) := by decide +kernel
theorem dX2_allows_51 : decode cX2_allows 51 = .ok (.iconst 0, 1) := by decide +kernel
theorem dX2_allows_52 : decode cX2_allows 52 = .ok (.ireturn, 1) := by decide +kernel
theorem dX2_allows_53 : decode cX2_allows 53 = .ok (.iinc 3 1, 3) := by decide +kernel
theorem dX2_allows_56 : decode cX2_allows 56 = .ok (.goto (-54), 3) := by decide +kernel
theorem dX2_allows_59 : decode cX2_allows 59 = .ok (.iconst 1, 1) := by decide +kernel
theorem dX2_allows_60 : decode cX2_allows 60 = .ok (.ireturn, 1) := by decide +kernel
theorem dX3_init_0 : decode cX3_init 0 = .ok (.aload_n 0, 1) := by decide +kernel
theorem dX3_init_1 : decode cX3_init 1 = .ok (.invokespecial 3, 3) := by decide +kernel
theorem dX3_init_4 : decode cX3_init 4 = .ok (.aload_n 0, 1) := by decide +kernel
theorem dX3_init_5 : decode cX3_init 5 = .ok (.iconst 0, 1) := by decide +kernel
theorem dX3_init_6 : decode cX3_init 6 = .ok (.putfield 9, 3) := by decide +kernel
theorem dX3_init_9 : decode cX3_init 9 = .ok (.aload_n 0, 1) := by decide +kernel
theorem dX3_init_10 : decode cX3_init 10 = .ok (.iconst 0, 1) := by decide +kernel
theorem dX3_init_11 : decode cX3_init 11 = .ok (.putfield 15, 3) := by decide +kernel
theorem dX3_init_14 : decode cX3_init 14 = .ok (.aload_n 0, 1) := by decide +kernel
theorem dX3_init_15 : decode cX3_init 15 = .ok (.iconst 0, 1) := by decide +kernel
theorem dX3_init_16 : decode cX3_init 16 = .ok (.putfield 18, 3) := by decide +kernel
theorem dX3_init_19 : decode cX3_init 19 = .ok (.aload_n 0, 1) := by decide +kernel
theorem dX3_init_20 : decode cX3_init 20 = .ok (.iconst 0, 1) := by decide +kernel
theorem dX3_init_21 : decode cX3_init 21 = .ok (.putfield 21, 3) := by decide +kernel
theorem dX3_init_24 : decode cX3_init 24 = .ok (.aload_n 0, 1) := by decide +kernel
theorem dX3_init_25 : decode cX3_init 25 = .ok (.iconst 0, 1) := by decide +kernel
theorem dX3_init_26 : decode cX3_init 26 = .ok (.putfield 24, 3) := by decide +kernel
theorem dX3_init_29 : decode cX3_init 29 = .ok (.aload_n 0, 1) := by decide +kernel
theorem dX3_init_30 : decode cX3_init 30 = .ok (.iconst 0, 1) := by decide +kernel
theorem dX3_init_31 : decode cX3_init 31 = .ok (.putfield 27, 3) := by decide +kernel
theorem dX3_init_34 : decode cX3_init 34 = .ok (.aload_n 0, 1) := by decide +kernel
theorem dX3_init_35 : decode cX3_init 35 = .ok (.iconst 0, 1) := by decide +kernel
theorem dX3_init_36 : decode cX3_init 36 = .ok (.putfield 30, 3) := by decide +kernel
theorem dX3_init_39 : decode cX3_init 39 = .ok (.return_, 1) := by decide +kernel
theorem dX3_begin_0 : decode cX3_begin 0 = .ok (.aload_n 0, 1) := by decide +kernel
theorem dX3_begin_1 : decode cX3_begin 1 = .ok (.iconst 0, 1) := by decide +kernel
theorem dX3_begin_2 : decode cX3_begin 2 = .ok (.putfield 9, 3) := by decide +kernel
theorem dX3_begin_5 : decode cX3_begin 5 = .ok (.aload_n 0, 1) := by decide +kernel
theorem dX3_begin_6 : decode cX3_begin 6 = .ok (.aload_n 1, 1) := by decide +kernel
theorem dX3_begin_7 : decode cX3_begin 7 = .ok (.getfield 33, 3) := by decide +kernel
theorem dX3_begin_10 : decode cX3_begin 10 = .ok (.putfield 15, 3) := by decide +kernel
theorem dX3_begin_13 : decode cX3_begin 13 = .ok (.aload_n 0, 1) := by decide +kernel
theorem dX3_begin_14 : decode cX3_begin 14 = .ok (.iconst 0, 1) := by decide +kernel
theorem dX3_begin_15 : decode cX3_begin 15 = .ok (.putfield 18, 3) := by decide +kernel
theorem dX3_begin_18 : decode cX3_begin 18 = .ok (.aload_n 0, 1) := by decide +kernel
theorem dX3_begin_19 : decode cX3_begin 19 = .ok (.iconst 0, 1) := by decide +kernel
theorem dX3_begin_20 : decode cX3_begin 20 = .ok (.putfield 21, 3) := by decide +kernel
theorem dX3_begin_23 : decode cX3_begin 23 = .ok (.aload_n 0, 1) := by decide +kernel
theorem dX3_begin_24 : decode cX3_begin 24 = .ok (.iconst 1, 1) := by decide +kernel
theorem dX3_begin_25 : decode cX3_begin 25 = .ok (.aload_n 1, 1) := by decide +kernel
theorem dX3_begin_26 : decode cX3_begin 26 = .ok (.getfield 36, 3) := by decide +kernel
theorem dX3_begin_29 : decode cX3_begin 29 = .ok (.ishl, 1) := by decide +kernel
theorem dX3_begin_30 : decode cX3_begin 30 = .ok (.iconst 1, 1) := by decide +kernel
theorem dX3_begin_31 : decode cX3_begin 31 = .ok (.isub, 1) := by decide +kernel
theorem dX3_begin_32 : decode cX3_begin 32 = .ok (.putfield 24, 3) := by decide +kernel
theorem dX3_begin_35 : decode cX3_begin 35 = .ok (.aload_n 0, 1) := by decide +kernel
theorem dX3_begin_36 : decode cX3_begin 36 = .ok (.iconst 0, 1) := by decide +kernel
theorem dX3_begin_37 : decode cX3_begin 37 = .ok (.putfield 27, 3) := by decide +kernel
theorem dX3_begin_40 : decode cX3_begin 40 = .ok (.aload_n 0, 1) := by decide +kernel
theorem dX3_begin_41 : decode cX3_begin 41 = .ok (.iconst 0, 1) := by decide +kernel
theorem dX3_begin_42 : decode cX3_begin 42 = .ok (.putfield 30, 3) := by decide +kernel
theorem dX3_begin_45 : decode cX3_begin 45 = .ok (.return_, 1) := by decide +kernel
theorem dX3_copy_0 : decode cX3_copy 0 = .ok (.aload_n 0, 1) := by decide +kernel
theorem dX3_copy_1 : decode cX3_copy 1 = .ok (.aload_n 1, 1) := by decide +kernel
theorem dX3_copy_2 : decode cX3_copy 2 = .ok (.getfield 9, 3) := by decide +kernel
theorem dX3_copy_5 : decode cX3_copy 5 = .ok (.putfield 9, 3) := by decide +kernel
theorem dX3_copy_8 : decode cX3_copy 8 = .ok (.aload_n 0, 1) := by decide +kernel
theorem dX3_copy_9 : decode cX3_copy 9 = .ok (.aload_n 1, 1) := by decide +kernel
theorem dX3_copy_10 : decode cX3_copy 10 = .ok (.getfield 15, 3) := by decide +kernel
theorem dX3_copy_13 : decode cX3_copy 13 = .ok (.putfield 15, 3) := by decide +kernel
theorem dX3_copy_16 : decode cX3_copy 16 = .ok (.aload_n 0, 1) := by decide +kernel
theorem dX3_copy_17 : decode cX3_copy 17 = .ok (.aload_n 1, 1) := by decide +kernel
theorem dX3_copy_18 : decode cX3_copy 18 = .ok (.getfield 18, 3) := by decide +kernel
theorem dX3_copy_21 : decode cX3_copy 21 = .ok (.putfield 18, 3) := by decide +kernel
theorem dX3_copy_24 : decode cX3_copy 24 = .ok (.aload_n 0, 1) := by decide +kernel
theorem dX3_copy_25 : decode cX3_copy 25 = .ok (.aload_n 1, 1) := by decide +kernel
theorem dX3_copy_26 : decode cX3_copy 26 = .ok (.getfield 21, 3) := by decide +kernel
theorem dX3_copy_29 : decode cX3_copy 29 = .ok (.putfield 21, 3) := by decide +kernel
theorem dX3_copy_32 : decode cX3_copy 32 = .ok (.aload_n 0, 1) := by decide +kernel
theorem dX3_copy_33 : decode cX3_copy 33 = .ok (.aload_n 1, 1) := by decide +kernel
theorem dX3_copy_34 : decode cX3_copy 34 = .ok (.getfield 24, 3) := by decide +kernel
theorem dX3_copy_37 : decode cX3_copy 37 = .ok (.putfield 24, 3) := by decide +kernel
theorem dX3_copy_40 : decode cX3_copy 40 = .ok (.aload_n 0, 1) := by decide +kernel
theorem dX3_copy_41 : decode cX3_copy 41 = .ok (.aload_n 1, 1) := by decide +kernel
theorem dX3_copy_42 : decode cX3_copy 42 = .ok (.getfield 27, 3) := by decide +kernel
theorem dX3_copy_45 : decode cX3_copy 45 = .ok (.putfield 27, 3) := by decide +kernel
theorem dX3_copy_48 : decode cX3_copy 48 = .ok (.aload_n 0, 1) := by decide +kernel
theorem dX3_copy_49 : decode cX3_copy 49 = .ok (.aload_n 1, 1) := by decide +kernel
theorem dX3_copy_50 : decode cX3_copy 50 = .ok (.getfield 30, 3) := by decide +kernel
theorem dX3_copy_53 : decode cX3_copy 53 = .ok (.putfield 30, 3) := by decide +kernel
theorem dX3_copy_56 : decode cX3_copy 56 = .ok (.return_, 1) := by decide +kernel
theorem dX3_readOf_0 : decode cX3_readOf 0 = .ok (.aload_n 0, 1) := by decide +kernel
theorem dX3_readOf_1 : decode cX3_readOf 1 = .ok (.getfield 30, 3) := by decide +kernel
theorem dX3_readOf_4 : decode cX3_readOf 4 = .ok (.iload_n 1, 1) := by decide +kernel
theorem dX3_readOf_5 : decode cX3_readOf 5 = .ok (.iconst 3, 1) := by decide +kernel
theorem dX3_readOf_6 : decode cX3_readOf 6 = .ok (.imul, 1) := by decide +kernel
theorem dX3_readOf_7 : decode cX3_readOf 7 = .ok (.ishr, 1) := by decide +kernel
theorem dX3_readOf_8 : decode cX3_readOf 8 = .ok (.bipush 7, 2) := by decide +kernel
theorem dX3_readOf_10 : decode cX3_readOf 10 = .ok (.iand, 1) := by decide +kernel
theorem dX3_readOf_11 : decode cX3_readOf 11 = .ok (.ireturn, 1) := by decide +kernel
theorem dX3_shown_0 : decode cX3_shown 0 = .ok (.aload_n 0, 1) := by decide +kernel
theorem dX3_shown_1 : decode cX3_shown 1 = .ok (.getfield 24, 3) := by decide +kernel
theorem dX3_shown_4 : decode cX3_shown 4 = .ok (.aload_n 0, 1) := by decide +kernel
theorem dX3_shown_5 : decode cX3_shown 5 = .ok (.getfield 27, 3) := by decide +kernel
theorem dX3_shown_8 : decode cX3_shown 8 = .ok (.iconst (-1), 1) := by decide +kernel
theorem dX3_shown_9 : decode cX3_shown 9 = .ok (.ixor, 1) := by decide +kernel
theorem dX3_shown_10 : decode cX3_shown 10 = .ok (.iand, 1) := by decide +kernel
theorem dX3_shown_11 : decode cX3_shown 11 = .ok (.iload_n 2, 1) := by decide +kernel
theorem dX3_shown_12 : decode cX3_shown 12 = .ok (.ishr, 1) := by decide +kernel
theorem dX3_shown_13 : decode cX3_shown 13 = .ok (.iconst 1, 1) := by decide +kernel
theorem dX3_shown_14 : decode cX3_shown 14 = .ok (.iand, 1) := by decide +kernel
theorem dX3_shown_15 : decode cX3_shown 15 = .ok (.ifCond .eq 7, 3) := by decide +kernel
theorem dX3_shown_18 : decode cX3_shown 18 = .ok (.iconst 1, 1) := by decide +kernel
theorem dX3_shown_19 : decode cX3_shown 19 = .ok (.goto 4, 3) := by decide +kernel
theorem dX3_shown_22 : decode cX3_shown 22 = .ok (.iconst 0, 1) := by decide +kernel
theorem dX3_shown_23 : decode cX3_shown 23 = .ok (.istore 4, 2) := by decide +kernel
theorem dX3_shown_25 : decode cX3_shown 25 = .ok (.iload_n 2, 1) := by decide +kernel
theorem dX3_shown_26 : decode cX3_shown 26 = .ok (.bipush 6, 2) := by decide +kernel
theorem dX3_shown_28 : decode cX3_shown 28 = .ok (.imul, 1) := by decide +kernel
theorem dX3_shown_29 : decode cX3_shown 29 = .ok (.iload_n 3, 1) := by decide +kernel
theorem dX3_shown_30 : decode cX3_shown 30 = .ok (.bipush 6, 2) := by decide +kernel
theorem dX3_shown_32 : decode cX3_shown 32 = .ok (.irem, 1) := by decide +kernel
theorem dX3_shown_33 : decode cX3_shown 33 = .ok (.iadd, 1) := by decide +kernel
theorem dX3_shown_34 : decode cX3_shown 34 = .ok (.istore 5, 2) := by decide +kernel
theorem dX3_shown_36 : decode cX3_shown 36 = .ok (.iload 4, 2) := by decide +kernel
theorem dX3_shown_38 : decode cX3_shown 38 = .ok (.ifCond .eq 28, 3) := by decide +kernel
theorem dX3_shown_41 : decode cX3_shown 41 = .ok (.iload 5, 2) := by decide +kernel
theorem dX3_shown_43 : decode cX3_shown 43 = .ok (.ifCond .lt 23, 3) := by decide +kernel
theorem dX3_shown_46 : decode cX3_shown 46 = .ok (.iload 5, 2) := by decide +kernel
theorem dX3_shown_48 : decode cX3_shown 48 = .ok (.aload_n 1, 1) := by decide +kernel
theorem dX3_shown_49 : decode cX3_shown 49 = .ok (.getfield 39, 3) := by decide +kernel
theorem dX3_shown_52 : decode cX3_shown 52 = .ok (.arraylength, 1) := by decide +kernel
theorem dX3_shown_53 : decode cX3_shown 53 = .ok (.if_icmp .ge 13, 3) := by decide +kernel
theorem dX3_shown_56 : decode cX3_shown 56 = .ok (.aload_n 1, 1) := by decide +kernel
theorem dX3_shown_57 : decode cX3_shown 57 = .ok (.getfield 39, 3) := by decide +kernel
theorem dX3_shown_60 : decode cX3_shown 60 = .ok (.iload 5, 2) := by decide +kernel
theorem dX3_shown_62 : decode cX3_shown 62 = .ok (.iaload, 1) := by decide +kernel
theorem dX3_shown_63 : decode cX3_shown 63 = .ok (.goto 4, 3) := by decide +kernel
theorem dX3_shown_66 : decode cX3_shown 66 = .ok (.iconst 0, 1) := by decide +kernel
theorem dX3_shown_67 : decode cX3_shown 67 = .ok (.ireturn, 1) := by decide +kernel
theorem dX3_can_0 : decode cX3_can 0 = .ok (.iload_n 2, 1) := by decide +kernel
theorem dX3_can_1 : decode cX3_can 1 = .ok (.tableswitch 83 0 2 #[27, 40, 59], 27) := by decide +kernel
theorem dX3_can_28 : decode cX3_can 28 = .ok (.aload_n 0, 1) := by decide +kernel
theorem dX3_can_29 : decode cX3_can 29 = .ok (.getfield 9, 3) := by decide +kernel
theorem dX3_can_32 : decode cX3_can 32 = .ok (.ifCond .le 7, 3) := by decide +kernel
theorem dX3_can_35 : decode cX3_can 35 = .ok (.iconst 1, 1) := by decide +kernel
theorem dX3_can_36 : decode cX3_can 36 = .ok (.goto 4, 3) := by decide +kernel
theorem dX3_can_39 : decode cX3_can 39 = .ok (.iconst 0, 1) := by decide +kernel
theorem dX3_can_40 : decode cX3_can 40 = .ok (.ireturn, 1) := by decide +kernel
theorem dX3_can_41 : decode cX3_can 41 = .ok (.aload_n 0, 1) := by decide +kernel
theorem dX3_can_42 : decode cX3_can 42 = .ok (.getfield 9, 3) := by decide +kernel
theorem dX3_can_45 : decode cX3_can 45 = .ok (.iconst 1, 1) := by decide +kernel
theorem dX3_can_46 : decode cX3_can 46 = .ok (.iadd, 1) := by decide +kernel
theorem dX3_can_47 : decode cX3_can 47 = .ok (.aload_n 1, 1) := by decide +kernel
theorem dX3_can_48 : decode cX3_can 48 = .ok (.getfield 36, 3) := by decide +kernel
theorem dX3_can_51 : decode cX3_can 51 = .ok (.if_icmp .ge 7, 3) := by decide +kernel
theorem dX3_can_54 : decode cX3_can 54 = .ok (.iconst 1, 1) := by decide +kernel
theorem dX3_can_55 : decode cX3_can 55 = .ok (.goto 4, 3) := by decide +kernel
theorem dX3_can_58 : decode cX3_can 58 = .ok (.iconst 0, 1) := by decide +kernel
theorem dX3_can_59 : decode cX3_can 59 = .ok (.ireturn, 1) := by decide +kernel
theorem dX3_can_60 : decode cX3_can 60 = .ok (.aload_n 0, 1) := by decide +kernel
theorem dX3_can_61 : decode cX3_can 61 = .ok (.getfield 9, 3) := by decide +kernel
theorem dX3_can_64 : decode cX3_can 64 = .ok (.aload_n 1, 1) := by decide +kernel
theorem dX3_can_65 : decode cX3_can 65 = .ok (.getfield 36, 3) := by decide +kernel
theorem dX3_can_68 : decode cX3_can 68 = .ok (.if_icmp .ge 14, 3) := by decide +kernel
theorem dX3_can_71 : decode cX3_can 71 = .ok (.aload_n 0, 1) := by decide +kernel
theorem dX3_can_72 : decode cX3_can 72 = .ok (.getfield 15, 3) := by decide +kernel
theorem dX3_can_75 : decode cX3_can 75 = .ok (.ifCond .le 7, 3) := by decide +kernel
theorem dX3_can_78 : decode cX3_can 78 = .ok (.iconst 1, 1) := by decide +kernel
theorem dX3_can_79 : decode cX3_can 79 = .ok (.goto 4, 3) := by decide +kernel
theorem dX3_can_82 : decode cX3_can 82 = .ok (.iconst 0, 1) := by decide +kernel
theorem dX3_can_83 : decode cX3_can 83 = .ok (.ireturn, 1) := by decide +kernel
theorem dX3_can_84 : decode cX3_can 84 = .ok (.iconst 1, 1) := by decide +kernel
theorem dX3_can_85 : decode cX3_can 85 = .ok (.ireturn, 1) := by decide +kernel
theorem dX3_take_0 : decode cX3_take 0 = .ok (.iconst 0, 1) := by decide +kernel
theorem dX3_take_1 : decode cX3_take 1 = .ok (.istore_n 3, 1) := by decide +kernel
theorem dX3_take_2 : decode cX3_take 2 = .ok (.iload_n 2, 1) := by decide +kernel
theorem dX3_take_3 : decode cX3_take 3 = .ok (.ifCond .ne 16, 3) := by decide +kernel
theorem dX3_take_6 : decode cX3_take 6 = .ok (.aload_n 0, 1) := by decide +kernel
theorem dX3_take_7 : decode cX3_take 7 = .ok (.dup, 1) := by decide +kernel
theorem dX3_take_8 : decode cX3_take 8 = .ok (.getfield 9, 3) := by decide +kernel
theorem dX3_take_11 : decode cX3_take 11 = .ok (.iconst 1, 1) := by decide +kernel
theorem dX3_take_12 : decode cX3_take 12 = .ok (.isub, 1) := by decide +kernel
theorem dX3_take_13 : decode cX3_take 13 = .ok (.putfield 9, 3) := by decide +kernel
theorem dX3_take_16 : decode cX3_take 16 = .ok (.goto 65, 3) := by decide +kernel
theorem dX3_take_19 : decode cX3_take 19 = .ok (.iload_n 2, 1) := by decide +kernel
theorem dX3_take_20 : decode cX3_take 20 = .ok (.iconst 1, 1) := by decide +kernel
theorem dX3_take_21 : decode cX3_take 21 = .ok (.if_icmp .ne 16, 3) := by decide +kernel
theorem dX3_take_24 : decode cX3_take 24 = .ok (.aload_n 0, 1) := by decide +kernel
theorem dX3_take_25 : decode cX3_take 25 = .ok (.dup, 1) := by decide +kernel
theorem dX3_take_26 : decode cX3_take 26 = .ok (.getfield 9, 3) := by decide +kernel
theorem dX3_take_29 : decode cX3_take 29 = .ok (.iconst 1, 1) := by decide +kernel
theorem dX3_take_30 : decode cX3_take 30 = .ok (.iadd, 1) := by decide +kernel
theorem dX3_take_31 : decode cX3_take 31 = .ok (.putfield 9, 3) := by decide +kernel
theorem dX3_take_34 : decode cX3_take 34 = .ok (.goto 47, 3) := by decide +kernel
theorem dX3_take_37 : decode cX3_take 37 = .ok (.iload_n 2, 1) := by decide +kernel
theorem dX3_take_38 : decode cX3_take 38 = .ok (.iconst 2, 1) := by decide +kernel
theorem dX3_take_39 : decode cX3_take 39 = .ok (.if_icmp .ne 42, 3) := by decide +kernel
theorem dX3_take_42 : decode cX3_take 42 = .ok (.aload_n 0, 1) := by decide +kernel
theorem dX3_take_43 : decode cX3_take 43 = .ok (.aload_n 1, 1) := by decide +kernel
theorem dX3_take_44 : decode cX3_take 44 = .ok (.invokevirtual 43, 3) := by decide +kernel
theorem dX3_take_47 : decode cX3_take 47 = .ok (.istore_n 3, 1) := by decide +kernel
theorem dX3_take_48 : decode cX3_take 48 = .ok (.aload_n 0, 1) := by decide +kernel
theorem dX3_take_49 : decode cX3_take 49 = .ok (.dup, 1) := by decide +kernel
theorem dX3_take_50 : decode cX3_take 50 = .ok (.getfield 15, 3) := by decide +kernel
theorem dX3_take_53 : decode cX3_take 53 = .ok (.iconst 1, 1) := by decide +kernel
theorem dX3_take_54 : decode cX3_take 54 = .ok (.isub, 1) := by decide +kernel
theorem dX3_take_55 : decode cX3_take 55 = .ok (.putfield 15, 3) := by decide +kernel
theorem dX3_take_58 : decode cX3_take 58 = .ok (.aload_n 0, 1) := by decide +kernel
theorem dX3_take_59 : decode cX3_take 59 = .ok (.dup, 1) := by decide +kernel
theorem dX3_take_60 : decode cX3_take 60 = .ok (.getfield 21, 3) := by decide +kernel
theorem dX3_take_63 : decode cX3_take 63 = .ok (.iload_n 3, 1) := by decide +kernel
theorem dX3_take_64 : decode cX3_take 64 = .ok (.iadd, 1) := by decide +kernel
theorem dX3_take_65 : decode cX3_take 65 = .ok (.putfield 21, 3) := by decide +kernel
theorem dX3_take_68 : decode cX3_take 68 = .ok (.aload_n 0, 1) := by decide +kernel
theorem dX3_take_69 : decode cX3_take 69 = .ok (.dup, 1) := by decide +kernel
theorem dX3_take_70 : decode cX3_take 70 = .ok (.getfield 30, 3) := by decide +kernel
theorem dX3_take_73 : decode cX3_take 73 = .ok (.aload_n 0, 1) := by decide +kernel
theorem dX3_take_74 : decode cX3_take 74 = .ok (.invokevirtual 47, 3) := by decide +kernel
theorem dX3_take_77 : decode cX3_take 77 = .ok (.ior, 1) := by decide +kernel
theorem dX3_take_78 : decode cX3_take 78 = .ok (.putfield 30, 3) := by decide +kernel
theorem dX3_take_81 : decode cX3_take 81 = .ok (.aload_n 0, 1) := by decide +kernel
theorem dX3_take_82 : decode cX3_take 82 = .ok (.dup, 1) := by decide +kernel
theorem dX3_take_83 : decode cX3_take 83 = .ok (.getfield 18, 3) := by decide +kernel
theorem dX3_take_86 : decode cX3_take 86 = .ok (.iconst 1, 1) := by decide +kernel
theorem dX3_take_87 : decode cX3_take 87 = .ok (.iadd, 1) := by decide +kernel
theorem dX3_take_88 : decode cX3_take 88 = .ok (.putfield 18, 3) := by decide +kernel
theorem dX3_take_91 : decode cX3_take 91 = .ok (.iload_n 3, 1) := by decide +kernel
theorem dX3_take_92 : decode cX3_take 92 = .ok (.ireturn, 1) := by decide +kernel
theorem dX3_gain_0 : decode cX3_gain 0 = .ok (.aload_n 0, 1) := by decide +kernel
theorem dX3_gain_1 : decode cX3_gain 1 = .ok (.getfield 30, 3) := by decide +kernel
theorem dX3_gain_4 : decode cX3_gain 4 = .ok (.aload_n 0, 1) := by decide +kernel
theorem dX3_gain_5 : decode cX3_gain 5 = .ok (.invokevirtual 47, 3) := by decide +kernel
theorem dX3_gain_8 : decode cX3_gain 8 = .ok (.iand, 1) := by decide +kernel
theorem dX3_gain_9 : decode cX3_gain 9 = .ok (.ifCond .eq 7, 3) := by decide +kernel
theorem dX3_gain_12 : decode cX3_gain 12 = .ok (.iconst 0, 1) := by decide +kernel
theorem dX3_gain_13 : decode cX3_gain 13 = .ok (.goto 16, 3) := by decide +kernel
theorem dX3_gain_16 : decode cX3_gain 16 = .ok (.aload_n 0, 1) := by decide +kernel
theorem dX3_gain_17 : decode cX3_gain 17 = .ok (.aload_n 1, 1) := by decide +kernel
theorem dX3_gain_18 : decode cX3_gain 18 = .ok (.aload_n 0, 1) := by decide +kernel
theorem dX3_gain_19 : decode cX3_gain 19 = .ok (.getfield 9, 3) := by decide +kernel
theorem dX3_gain_22 : decode cX3_gain 22 = .ok (.aload_n 0, 1) := by decide +kernel
theorem dX3_gain_23 : decode cX3_gain 23 = .ok (.getfield 18, 3) := by decide +kernel
theorem dX3_gain_26 : decode cX3_gain 26 = .ok (.invokevirtual 51, 3) := by decide +kernel
theorem dX3_gain_29 : decode cX3_gain 29 = .ok (.ireturn, 1) := by decide +kernel
theorem dX3_newsBit_0 : decode cX3_newsBit 0 = .ok (.iconst 1, 1) := by decide +kernel
theorem dX3_newsBit_1 : decode cX3_newsBit 1 = .ok (.aload_n 0, 1) := by decide +kernel
theorem dX3_newsBit_2 : decode cX3_newsBit 2 = .ok (.getfield 9, 3) := by decide +kernel
theorem dX3_newsBit_5 : decode cX3_newsBit 5 = .ok (.iconst 3, 1) := by decide +kernel
theorem dX3_newsBit_6 : decode cX3_newsBit 6 = .ok (.imul, 1) := by decide +kernel
theorem dX3_newsBit_7 : decode cX3_newsBit 7 = .ok (.aload_n 0, 1) := by decide +kernel
theorem dX3_newsBit_8 : decode cX3_newsBit 8 = .ok (.getfield 18, 3) := by decide +kernel
theorem dX3_newsBit_11 : decode cX3_newsBit 11 = .ok (.iconst 3, 1) := by decide +kernel
theorem dX3_newsBit_12 : decode cX3_newsBit 12 = .ok (.irem, 1) := by decide +kernel
theorem dX3_newsBit_13 : decode cX3_newsBit 13 = .ok (.iadd, 1) := by decide +kernel
theorem dX3_newsBit_14 : decode cX3_newsBit 14 = .ok (.ishl, 1) := by decide +kernel
theorem dX3_newsBit_15 : decode cX3_newsBit 15 = .ok (.ireturn, 1) := by decide +kernel
theorem dX4_init_0 : decode cX4_init 0 = .ok (.aload_n 0, 1) := by decide +kernel
theorem dX4_init_1 : decode cX4_init 1 = .ok (.invokespecial 3, 3) := by decide +kernel
theorem dX4_init_4 : decode cX4_init 4 = .ok (.aload_n 0, 1) := by decide +kernel
theorem dX4_init_5 : decode cX4_init 5 = .ok (.bipush 6, 2) := by decide +kernel
theorem dX4_init_7 : decode cX4_init 7 = .ok (.newarray .int, 2) := by decide +kernel
theorem dX4_init_9 : decode cX4_init 9 = .ok (.putfield 9, 3) := by decide +kernel
theorem dX4_init_12 : decode cX4_init 12 = .ok (.aload_n 0, 1) := by decide +kernel
theorem dX4_init_13 : decode cX4_init 13 = .ok (.bipush 18, 2) := by decide +kernel
theorem dX4_init_15 : decode cX4_init 15 = .ok (.newarray .int, 2) := by decide +kernel
theorem dX4_init_17 : decode cX4_init 17 = .ok (.putfield 15, 3) := by decide +kernel
theorem dX4_init_20 : decode cX4_init 20 = .ok (.aload_n 0, 1) := by decide +kernel
theorem dX4_init_21 : decode cX4_init 21 = .ok (.bipush 36, 2) := by decide +kernel
theorem dX4_init_23 : decode cX4_init 23 = .ok (.newarray .int, 2) := by decide +kernel
theorem dX4_init_25 : decode cX4_init 25 = .ok (.putfield 18, 3) := by decide +kernel
theorem dX4_init_28 : decode cX4_init 28 = .ok (.aload_n 0, 1) := by decide +kernel
theorem dX4_init_29 : decode cX4_init 29 = .ok (.iconst 0, 1) := by decide +kernel
theorem dX4_init_30 : decode cX4_init 30 = .ok (.putfield 21, 3) := by decide +kernel
theorem dX4_init_33 : decode cX4_init 33 = .ok (.aload_n 0, 1) := by decide +kernel
theorem dX4_init_34 : decode cX4_init 34 = .ok (.iconst 0, 1) := by decide +kernel
theorem dX4_init_35 : decode cX4_init 35 = .ok (.putfield 25, 3) := by decide +kernel
theorem dX4_init_38 : decode cX4_init 38 = .ok (.return_, 1) := by decide +kernel
theorem dX4_takeFrom_0 : decode cX4_takeFrom 0 = .ok (.aload_n 0, 1) := by decide +kernel
theorem dX4_takeFrom_1 : decode cX4_takeFrom 1 = .ok (.aload_n 1, 1) := by decide +kernel
theorem dX4_takeFrom_2 : decode cX4_takeFrom 2 = .ok (.iconst 1, 1) := by decide +kernel
theorem dX4_takeFrom_3 : decode cX4_takeFrom 3 = .ok (.invokevirtual 28, 3) := by decide +kernel
theorem dX4_takeFrom_6 : decode cX4_takeFrom 6 = .ok (.putfield 25, 3) := by decide +kernel
theorem dX4_takeFrom_9 : decode cX4_takeFrom 9 = .ok (.aload_n 0, 1) := by decide +kernel
theorem dX4_takeFrom_10 : decode cX4_takeFrom 10 = .ok (.aload_n 1, 1) := by decide +kernel
theorem dX4_takeFrom_11 : decode cX4_takeFrom 11 = .ok (.invokevirtual 34, 3) := by decide +kernel
theorem dX4_takeFrom_14 : decode cX4_takeFrom 14 = .ok (.bipush 6, 2) := by decide +kernel
theorem dX4_takeFrom_16 : decode cX4_takeFrom 16 = .ok (.invokestatic 38, 3) := by decide +kernel
theorem dX4_takeFrom_19 : decode cX4_takeFrom 19 = .ok (.putfield 21, 3) := by decide +kernel
theorem dX4_takeFrom_22 : decode cX4_takeFrom 22 = .ok (.iconst 0, 1) := by decide +kernel
theorem dX4_takeFrom_23 : decode cX4_takeFrom 23 = .ok (.istore_n 2, 1) := by decide +kernel
theorem dX4_takeFrom_24 : decode cX4_takeFrom 24 = .ok (.iload_n 2, 1) := by decide +kernel
theorem dX4_takeFrom_25 : decode cX4_takeFrom 25 = .ok (.aload_n 0, 1) := by decide +kernel
theorem dX4_takeFrom_26 : decode cX4_takeFrom 26 = .ok (.getfield 21, 3) := by decide +kernel
theorem dX4_takeFrom_29 : decode cX4_takeFrom 29 = .ok (.if_icmp .ge 110, 3) := by decide +kernel
theorem dX4_takeFrom_32 : decode cX4_takeFrom 32 = .ok (.iconst 2, 1) := by decide +kernel
theorem dX4_takeFrom_33 : decode cX4_takeFrom 33 = .ok (.iload_n 2, 1) := by decide +kernel
theorem dX4_takeFrom_34 : decode cX4_takeFrom 34 = .ok (.iconst 5, 1) := by decide +kernel
theorem dX4_takeFrom_35 : decode cX4_takeFrom 35 = .ok (.imul, 1) := by decide +kernel
theorem dX4_takeFrom_36 : decode cX4_takeFrom 36 = .ok (.iadd, 1) := by decide +kernel
theorem dX4_takeFrom_37 : decode cX4_takeFrom 37 = .ok (.istore_n 3, 1) := by decide +kernel
theorem dX4_takeFrom_38 : decode cX4_takeFrom 38 = .ok (.aload_n 0, 1) := by decide +kernel
theorem dX4_takeFrom_39 : decode cX4_takeFrom 39 = .ok (.getfield 9, 3) := by decide +kernel
theorem dX4_takeFrom_42 : decode cX4_takeFrom 42 = .ok (.iload_n 2, 1) := by decide +kernel
theorem dX4_takeFrom_43 : decode cX4_takeFrom 43 = .ok (.aload_n 1, 1) := by decide +kernel
theorem dX4_takeFrom_44 : decode cX4_takeFrom 44 = .ok (.iload_n 3, 1) := by decide +kernel
theorem dX4_takeFrom_45 : decode cX4_takeFrom 45 = .ok (.iconst 1, 1) := by decide +kernel
theorem dX4_takeFrom_46 : decode cX4_takeFrom 46 = .ok (.iadd, 1) := by decide +kernel
theorem dX4_takeFrom_47 : decode cX4_takeFrom 47 = .ok (.invokevirtual 28, 3) := by decide +kernel
theorem dX4_takeFrom_50 : decode cX4_takeFrom 50 = .ok (.iastore, 1) := by decide +kernel
theorem dX4_takeFrom_51 : decode cX4_takeFrom 51 = .ok (.iconst 0, 1) := by decide +kernel
theorem dX4_takeFrom_52 : decode cX4_takeFrom 52 = .ok (.istore 4, 2) := by decide +kernel
theorem dX4_takeFrom_54 : decode cX4_takeFrom 54 = .ok (.iload 4, 2) := by decide +kernel
theorem dX4_takeFrom_56 : decode cX4_takeFrom 56 = .ok (.iconst 3, 1) := by decide +kernel
theorem dX4_takeFrom_57 : decode cX4_takeFrom 57 = .ok (.if_icmp .ge 30, 3) := by decide +kernel
theorem dX4_takeFrom_60 : decode cX4_takeFrom 60 = .ok (.aload_n 0, 1) := by decide +kernel
theorem dX4_takeFrom_61 : decode cX4_takeFrom 61 = .ok (.getfield 15, 3) := by decide +kernel
theorem dX4_takeFrom_64 : decode cX4_takeFrom 64 = .ok (.iload_n 2, 1) := by decide +kernel
theorem dX4_takeFrom_65 : decode cX4_takeFrom 65 = .ok (.iconst 3, 1) := by decide +kernel
theorem dX4_takeFrom_66 : decode cX4_takeFrom 66 = .ok (.imul, 1) := by decide +kernel
theorem dX4_takeFrom_67 : decode cX4_takeFrom 67 = .ok (.iload 4, 2) := by decide +kernel
theorem dX4_takeFrom_69 : decode cX4_takeFrom 69 = .ok (.iadd, 1) := by decide +kernel
theorem dX4_takeFrom_70 : decode cX4_takeFrom 70 = .ok (.aload_n 1, 1) := by decide +kernel
theorem dX4_takeFrom_71 : decode cX4_takeFrom 71 = .ok (.iload_n 3, 1) := by decide +kernel
theorem dX4_takeFrom_72 : decode cX4_takeFrom 72 = .ok (.iconst 2, 1) := by decide +kernel
theorem dX4_takeFrom_73 : decode cX4_takeFrom 73 = .ok (.iadd, 1) := by decide +kernel
theorem dX4_takeFrom_74 : decode cX4_takeFrom 74 = .ok (.iload 4, 2) := by decide +kernel
theorem dX4_takeFrom_76 : decode cX4_takeFrom 76 = .ok (.iadd, 1) := by decide +kernel
theorem dX4_takeFrom_77 : decode cX4_takeFrom 77 = .ok (.invokevirtual 28, 3) := by decide +kernel
theorem dX4_takeFrom_80 : decode cX4_takeFrom 80 = .ok (.iastore, 1) := by decide +kernel
theorem dX4_takeFrom_81 : decode cX4_takeFrom 81 = .ok (.iinc 4 1, 3) := by decide +kernel
theorem dX4_takeFrom_84 : decode cX4_takeFrom 84 = .ok (.goto (-30), 3) := by decide +kernel
theorem dX4_takeFrom_87 : decode cX4_takeFrom 87 = .ok (.iconst 0, 1) := by decide +kernel
theorem dX4_takeFrom_88 : decode cX4_takeFrom 88 = .ok (.istore 4, 2) := by decide +kernel
theorem dX4_takeFrom_90 : decode cX4_takeFrom 90 = .ok (.iload 4, 2) := by decide +kernel
theorem dX4_takeFrom_92 : decode cX4_takeFrom 92 = .ok (.bipush 6, 2) := by decide +kernel
theorem dX4_takeFrom_94 : decode cX4_takeFrom 94 = .ok (.if_icmp .ge 39, 3) := by decide +kernel
theorem dX4_takeFrom_97 : decode cX4_takeFrom 97 = .ok (.aload_n 0, 1) := by decide +kernel
theorem dX4_takeFrom_98 : decode cX4_takeFrom 98 = .ok (.getfield 18, 3) := by decide +kernel
theorem dX4_takeFrom_101 : decode cX4_takeFrom 101 = .ok (.iload_n 2, 1) := by decide +kernel
theorem dX4_takeFrom_102 : decode cX4_takeFrom 102 = .ok (.bipush 6, 2) := by decide +kernel
theorem dX4_takeFrom_104 : decode cX4_takeFrom 104 = .ok (.imul, 1) := by decide +kernel
theorem dX4_takeFrom_105 : decode cX4_takeFrom 105 = .ok (.iload 4, 2) := by decide +kernel
theorem dX4_takeFrom_107 : decode cX4_takeFrom 107 = .ok (.iadd, 1) := by decide +kernel
theorem dX4_takeFrom_108 : decode cX4_takeFrom 108 = .ok (.aload_n 0, 1) := by decide +kernel
theorem dX4_takeFrom_109 : decode cX4_takeFrom 109 = .ok (.getfield 9, 3) := by decide +kernel
theorem dX4_takeFrom_112 : decode cX4_takeFrom 112 = .ok (.iload_n 2, 1) := by decide +kernel
theorem dX4_takeFrom_113 : decode cX4_takeFrom 113 = .ok (.iaload, 1) := by decide +kernel
theorem dX4_takeFrom_114 : decode cX4_takeFrom 114 = .ok (.aload_n 0, 1) := by decide +kernel
theorem dX4_takeFrom_115 : decode cX4_takeFrom 115 = .ok (.iload_n 2, 1) := by decide +kernel
theorem dX4_takeFrom_116 : decode cX4_takeFrom 116 = .ok (.iload 4, 2) := by decide +kernel
theorem dX4_takeFrom_118 : decode cX4_takeFrom 118 = .ok (.invokevirtual 44, 3) := by decide +kernel
theorem dX4_takeFrom_121 : decode cX4_takeFrom 121 = .ok (.iload 4, 2) := by decide +kernel
theorem dX4_takeFrom_123 : decode cX4_takeFrom 123 = .ok (.invokestatic 47, 3) := by decide +kernel
theorem dX4_takeFrom_126 : decode cX4_takeFrom 126 = .ok (.iastore, 1) := by decide +kernel
theorem dX4_takeFrom_127 : decode cX4_takeFrom 127 = .ok (.iinc 4 1, 3) := by decide +kernel
theorem dX4_takeFrom_130 : decode cX4_takeFrom 130 = .ok (.goto (-40), 3) := by decide +kernel
theorem dX4_takeFrom_133 : decode cX4_takeFrom 133 = .ok (.iinc 2 1, 3) := by decide +kernel
theorem dX4_takeFrom_136 : decode cX4_takeFrom 136 = .ok (.goto (-112), 3) := by decide +kernel
theorem dX4_takeFrom_139 : decode cX4_takeFrom 139 = .ok (.return_, 1) := by decide +kernel
theorem dX4_has_0 : decode cX4_has 0 = .ok (.iload_n 1, 1) := by decide +kernel
theorem dX4_has_1 : decode cX4_has 1 = .ok (.ifCond .lt 15, 3) := by decide +kernel
theorem dX4_has_4 : decode cX4_has 4 = .ok (.iload_n 1, 1) := by decide +kernel
theorem dX4_has_5 : decode cX4_has 5 = .ok (.aload_n 0, 1) := by decide +kernel
theorem dX4_has_6 : decode cX4_has 6 = .ok (.getfield 21, 3) := by decide +kernel
theorem dX4_has_9 : decode cX4_has 9 = .ok (.if_icmp .ge 7, 3) := by decide +kernel
theorem dX4_has_12 : decode cX4_has 12 = .ok (.iconst 1, 1) := by decide +kernel
theorem dX4_has_13 : decode cX4_has 13 = .ok (.goto 4, 3) := by decide +kernel
theorem dX4_has_16 : decode cX4_has 16 = .ok (.iconst 0, 1) := by decide +kernel
theorem dX4_has_17 : decode cX4_has 17 = .ok (.ireturn, 1) := by decide +kernel
theorem dX4_shapeOf_0 : decode cX4_shapeOf 0 = .ok (.aload_n 0, 1) := by decide +kernel
theorem dX4_shapeOf_1 : decode cX4_shapeOf 1 = .ok (.iload_n 1, 1) := by decide +kernel
theorem dX4_shapeOf_2 : decode cX4_shapeOf 2 = .ok (.invokevirtual 51, 3) := by decide +kernel
theorem dX4_shapeOf_5 : decode cX4_shapeOf 5 = .ok (.ifCond .eq 12, 3) := by decide +kernel
theorem dX4_shapeOf_8 : decode cX4_shapeOf 8 = .ok (.aload_n 0, 1) := by decide +kernel
theorem dX4_shapeOf_9 : decode cX4_shapeOf 9 = .ok (.getfield 9, 3) := by decide +kernel
theorem dX4_shapeOf_12 : decode cX4_shapeOf 12 = .ok (.iload_n 1, 1) := by decide +kernel
theorem dX4_shapeOf_13 : decode cX4_shapeOf 13 = .ok (.iaload, 1) := by decide +kernel
theorem dX4_shapeOf_14 : decode cX4_shapeOf 14 = .ok (.goto 4, 3) := by decide +kernel
theorem dX4_shapeOf_17 : decode cX4_shapeOf 17 = .ok (.iconst 0, 1) := by decide +kernel
theorem dX4_shapeOf_18 : decode cX4_shapeOf 18 = .ok (.ireturn, 1) := by decide +kernel
theorem dX4_newsOf_0 : decode cX4_newsOf 0 = .ok (.aload_n 0, 1) := by decide +kernel
theorem dX4_newsOf_1 : decode cX4_newsOf 1 = .ok (.iload_n 1, 1) := by decide +kernel
theorem dX4_newsOf_2 : decode cX4_newsOf 2 = .ok (.invokevirtual 51, 3) := by decide +kernel
theorem dX4_newsOf_5 : decode cX4_newsOf 5 = .ok (.ifCond .eq 20, 3) := by decide +kernel
theorem dX4_newsOf_8 : decode cX4_newsOf 8 = .ok (.aload_n 0, 1) := by decide +kernel
theorem dX4_newsOf_9 : decode cX4_newsOf 9 = .ok (.getfield 15, 3) := by decide +kernel
theorem dX4_newsOf_12 : decode cX4_newsOf 12 = .ok (.iload_n 1, 1) := by decide +kernel
theorem dX4_newsOf_13 : decode cX4_newsOf 13 = .ok (.iconst 3, 1) := by decide +kernel
theorem dX4_newsOf_14 : decode cX4_newsOf 14 = .ok (.imul, 1) := by decide +kernel
theorem dX4_newsOf_15 : decode cX4_newsOf 15 = .ok (.iload_n 2, 1) := by decide +kernel
theorem dX4_newsOf_16 : decode cX4_newsOf 16 = .ok (.iconst 3, 1) := by decide +kernel
theorem dX4_newsOf_17 : decode cX4_newsOf 17 = .ok (.invokestatic 55, 3) := by decide +kernel
theorem dX4_newsOf_20 : decode cX4_newsOf 20 = .ok (.iadd, 1) := by decide +kernel
theorem dX4_newsOf_21 : decode cX4_newsOf 21 = .ok (.iaload, 1) := by decide +kernel
theorem dX4_newsOf_22 : decode cX4_newsOf 22 = .ok (.goto 4, 3) := by decide +kernel
theorem dX4_newsOf_25 : decode cX4_newsOf 25 = .ok (.iconst 0, 1) := by decide +kernel
theorem dX4_newsOf_26 : decode cX4_newsOf 26 = .ok (.ireturn, 1) := by decide +kernel
theorem dX4_through_0 : decode cX4_through 0 = .ok (.iload_n 0, 1) := by decide +kernel
theorem dX4_through_1 : decode cX4_through 1 = .ok (.tableswitch 55 1 3 #[27, 31, 43], 27) := by decide +kernel
theorem dX4_through_28 : decode cX4_through 28 = .ok (.iload_n 1, 1) := by decide +kernel
theorem dX4_through_29 : decode cX4_through 29 = .ok (.iconst 2, 1) := by decide +kernel
theorem dX4_through_30 : decode cX4_through 30 = .ok (.idiv, 1) := by decide +kernel
theorem dX4_through_31 : decode cX4_through 31 = .ok (.ireturn, 1) := by decide +kernel
theorem dX4_through_32 : decode cX4_through 32 = .ok (.iload_n 1, 1) := by decide +kernel
theorem dX4_through_33 : decode cX4_through 33 = .ok (.ifCond .le 9, 3) := by decide +kernel
theorem dX4_through_36 : decode cX4_through 36 = .ok (.iload_n 1, 1) := by decide +kernel
theorem dX4_through_37 : decode cX4_through 37 = .ok (.iconst 1, 1) := by decide +kernel
theorem dX4_through_38 : decode cX4_through 38 = .ok (.iadd, 1) := by decide +kernel
theorem dX4_through_39 : decode cX4_through 39 = .ok (.goto 4, 3) := by decide +kernel
theorem dX4_through_42 : decode cX4_through 42 = .ok (.iconst 0, 1) := by decide +kernel
theorem dX4_through_43 : decode cX4_through 43 = .ok (.ireturn, 1) := by decide +kernel
theorem dX4_through_44 : decode cX4_through 44 = .ok (.iload_n 2, 1) := by decide +kernel
theorem dX4_through_45 : decode cX4_through 45 = .ok (.iconst 2, 1) := by decide +kernel
theorem dX4_through_46 : decode cX4_through 46 = .ok (.irem, 1) := by decide +kernel
theorem dX4_through_47 : decode cX4_through 47 = .ok (.ifCond .eq 7, 3) := by decide +kernel
theorem dX4_through_50 : decode cX4_through 50 = .ok (.iconst 0, 1) := by decide +kernel
theorem dX4_through_51 : decode cX4_through 51 = .ok (.goto 4, 3) := by decide +kernel
theorem dX4_through_54 : decode cX4_through 54 = .ok (.iload_n 1, 1) := by decide +kernel
theorem dX4_through_55 : decode cX4_through 55 = .ok (.ireturn, 1) := by decide +kernel
theorem dX4_through_56 : decode cX4_through 56 = .ok (.iload_n 1, 1) := by decide +kernel
theorem dX4_through_57 : decode cX4_through 57 = .ok (.ireturn, 1) := by decide +kernel
theorem dX5_init_0 : decode cX5_init 0 = .ok (.aload_n 0, 1) := by decide +kernel
theorem dX5_init_1 : decode cX5_init 1 = .ok (.invokespecial 3, 3) := by decide +kernel
theorem dX5_init_4 : decode cX5_init 4 = .ok (.aload_n 0, 1) := by decide +kernel
theorem dX5_init_5 : decode cX5_init 5 = .ok (.bipush 48, 2) := by decide +kernel
theorem dX5_init_7 : decode cX5_init 7 = .ok (.newarray .int, 2) := by decide +kernel
theorem dX5_init_9 : decode cX5_init 9 = .ok (.putfield 9, 3) := by decide +kernel
theorem dX5_init_12 : decode cX5_init 12 = .ok (.aload_n 0, 1) := by decide +kernel
theorem dX5_init_13 : decode cX5_init 13 = .ok (.iconst 0, 1) := by decide +kernel
theorem dX5_init_14 : decode cX5_init 14 = .ok (.putfield 15, 3) := by decide +kernel
theorem dX5_init_17 : decode cX5_init 17 = .ok (.return_, 1) := by decide +kernel
theorem dX5_add_0 : decode cX5_add 0 = .ok (.aload_n 0, 1) := by decide +kernel
theorem dX5_add_1 : decode cX5_add 1 = .ok (.getfield 15, 3) := by decide +kernel
theorem dX5_add_4 : decode cX5_add 4 = .ok (.ifCond .lt 35, 3) := by decide +kernel
theorem dX5_add_7 : decode cX5_add 7 = .ok (.aload_n 0, 1) := by decide +kernel
theorem dX5_add_8 : decode cX5_add 8 = .ok (.getfield 15, 3) := by decide +kernel
theorem dX5_add_11 : decode cX5_add 11 = .ok (.aload_n 0, 1) := by decide +kernel
theorem dX5_add_12 : decode cX5_add 12 = .ok (.getfield 9, 3) := by decide +kernel
theorem dX5_add_15 : decode cX5_add 15 = .ok (.arraylength, 1) := by decide +kernel
theorem dX5_add_16 : decode cX5_add 16 = .ok (.if_icmp .ge 23, 3) := by decide +kernel
theorem dX5_add_19 : decode cX5_add 19 = .ok (.aload_n 0, 1) := by decide +kernel
theorem dX5_add_20 : decode cX5_add 20 = .ok (.getfield 9, 3) := by decide +kernel
theorem dX5_add_23 : decode cX5_add 23 = .ok (.aload_n 0, 1) := by decide +kernel
theorem dX5_add_24 : decode cX5_add 24 = .ok (.getfield 15, 3) := by decide +kernel
theorem dX5_add_27 : decode cX5_add 27 = .ok (.iload_n 1, 1) := by decide +kernel
theorem dX5_add_28 : decode cX5_add 28 = .ok (.iastore, 1) := by decide +kernel
theorem dX5_add_29 : decode cX5_add 29 = .ok (.aload_n 0, 1) := by decide +kernel
theorem dX5_add_30 : decode cX5_add 30 = .ok (.dup, 1) := by decide +kernel
theorem dX5_add_31 : decode cX5_add 31 = .ok (.getfield 15, 3) := by decide +kernel
theorem dX5_add_34 : decode cX5_add 34 = .ok (.iconst 1, 1) := by decide +kernel
theorem dX5_add_35 : decode cX5_add 35 = .ok (.iadd, 1) := by decide +kernel
theorem dX5_add_36 : decode cX5_add 36 = .ok (.putfield 15, 3) := by decide +kernel
theorem dX5_add_39 : decode cX5_add 39 = .ok (.return_, 1) := by decide +kernel
theorem dX5_at_0 : decode cX5_at 0 = .ok (.iload_n 1, 1) := by decide +kernel
theorem dX5_at_1 : decode cX5_at 1 = .ok (.ifCond .lt 29, 3) := by decide +kernel
theorem dX5_at_4 : decode cX5_at 4 = .ok (.iload_n 1, 1) := by decide +kernel
theorem dX5_at_5 : decode cX5_at 5 = .ok (.aload_n 0, 1) := by decide +kernel
theorem dX5_at_6 : decode cX5_at 6 = .ok (.getfield 15, 3) := by decide +kernel
theorem dX5_at_9 : decode cX5_at 9 = .ok (.if_icmp .ge 21, 3) := by decide +kernel
theorem dX5_at_12 : decode cX5_at 12 = .ok (.iload_n 1, 1) := by decide +kernel
theorem dX5_at_13 : decode cX5_at 13 = .ok (.aload_n 0, 1) := by decide +kernel
theorem dX5_at_14 : decode cX5_at 14 = .ok (.getfield 9, 3) := by decide +kernel
theorem dX5_at_17 : decode cX5_at 17 = .ok (.arraylength, 1) := by decide +kernel
theorem dX5_at_18 : decode cX5_at 18 = .ok (.if_icmp .ge 12, 3) := by decide +kernel
theorem dX5_at_21 : decode cX5_at 21 = .ok (.aload_n 0, 1) := by decide +kernel
theorem dX5_at_22 : decode cX5_at 22 = .ok (.getfield 9, 3) := by decide +kernel
theorem dX5_at_25 : decode cX5_at 25 = .ok (.iload_n 1, 1) := by decide +kernel
theorem dX5_at_26 : decode cX5_at 26 = .ok (.iaload, 1) := by decide +kernel
theorem dX5_at_27 : decode cX5_at 27 = .ok (.goto 4, 3) := by decide +kernel
theorem dX5_at_30 : decode cX5_at 30 = .ok (.iconst (-1), 1) := by decide +kernel
theorem dX5_at_31 : decode cX5_at 31 = .ok (.ireturn, 1) := by decide +kernel
theorem dX5_digitAt_0 : decode cX5_digitAt 0 = .ok (.aload_n 0, 1) := by decide +kernel
theorem dX5_digitAt_1 : decode cX5_digitAt 1 = .ok (.iload_n 1, 1) := by decide +kernel
theorem dX5_digitAt_2 : decode cX5_digitAt 2 = .ok (.invokevirtual 19, 3) := by decide +kernel
theorem dX5_digitAt_5 : decode cX5_digitAt 5 = .ok (.bipush 48, 2) := by decide +kernel
theorem dX5_digitAt_7 : decode cX5_digitAt 7 = .ok (.isub, 1) := by decide +kernel
theorem dX5_digitAt_8 : decode cX5_digitAt 8 = .ok (.ireturn, 1) := by decide +kernel
theorem dX5_housesTold_0 : decode cX5_housesTold 0 = .ok (.aload_n 0, 1) := by decide +kernel
theorem dX5_housesTold_1 : decode cX5_housesTold 1 = .ok (.getfield 15, 3) := by decide +kernel
theorem dX5_housesTold_4 : decode cX5_housesTold 4 = .ok (.iconst 2, 1) := by decide +kernel
theorem dX5_housesTold_5 : decode cX5_housesTold 5 = .ok (.isub, 1) := by decide +kernel
theorem dX5_housesTold_6 : decode cX5_housesTold 6 = .ok (.iconst 5, 1) := by decide +kernel
theorem dX5_housesTold_7 : decode cX5_housesTold 7 = .ok (.idiv, 1) := by decide +kernel
theorem dX5_housesTold_8 : decode cX5_housesTold 8 = .ok (.ireturn, 1) := by decide +kernel
theorem dX5_firstFault_0 : decode cX5_firstFault 0 = .ok (.iconst 0, 1) := by decide +kernel
theorem dX5_firstFault_1 : decode cX5_firstFault 1 = .ok (.istore_n 1, 1) := by decide +kernel
theorem dX5_firstFault_2 : decode cX5_firstFault 2 = .ok (.iload_n 1, 1) := by decide +kernel
theorem dX5_firstFault_3 : decode cX5_firstFault 3 = .ok (.aload_n 0, 1) := by decide +kernel
theorem dX5_firstFault_4 : decode cX5_firstFault 4 = .ok (.getfield 15, 3) := by decide +kernel
theorem dX5_firstFault_7 : decode cX5_firstFault 7 = .ok (.if_icmp .ge 19, 3) := by decide +kernel
theorem dX5_firstFault_10 : decode cX5_firstFault 10 = .ok (.aload_n 0, 1) := by decide +kernel
theorem dX5_firstFault_11 : decode cX5_firstFault 11 = .ok (.iload_n 1, 1) := by decide +kernel
theorem dX5_firstFault_12 : decode cX5_firstFault 12 = .ok (.invokevirtual 23, 3) := by decide +kernel
theorem dX5_firstFault_15 : decode cX5_firstFault 15 = .ok (.ifCond .ne 5, 3) := by decide +kernel
theorem dX5_firstFault_18 : decode cX5_firstFault 18 = .ok (.iload_n 1, 1) := by decide +kernel
theorem dX5_firstFault_19 : decode cX5_firstFault 19 = .ok (.ireturn, 1) := by decide +kernel
theorem dX5_firstFault_20 : decode cX5_firstFault 20 = .ok (.iinc 1 1, 3) := by decide +kernel
theorem dX5_firstFault_23 : decode cX5_firstFault 23 = .ok (.goto (-21), 3) := by decide +kernel
theorem dX5_firstFault_26 : decode cX5_firstFault 26 = .ok (.aload_n 0, 1) := by decide +kernel
theorem dX5_firstFault_27 : decode cX5_firstFault 27 = .ok (.getfield 15, 3) := by decide +kernel
theorem dX5_firstFault_30 : decode cX5_firstFault 30 = .ok (.iconst 2, 1) := by decide +kernel
theorem dX5_firstFault_31 : decode cX5_firstFault 31 = .ok (.if_icmp .lt 18, 3) := by decide +kernel
theorem dX5_firstFault_34 : decode cX5_firstFault 34 = .ok (.aload_n 0, 1) := by decide +kernel
theorem dX5_firstFault_35 : decode cX5_firstFault 35 = .ok (.getfield 15, 3) := by decide +kernel
theorem dX5_firstFault_38 : decode cX5_firstFault 38 = .ok (.iconst 2, 1) := by decide +kernel
theorem dX5_firstFault_39 : decode cX5_firstFault 39 = .ok (.isub, 1) := by decide +kernel
theorem dX5_firstFault_40 : decode cX5_firstFault 40 = .ok (.iconst 5, 1) := by decide +kernel
theorem dX5_firstFault_41 : decode cX5_firstFault 41 = .ok (.irem, 1) := by decide +kernel
theorem dX5_firstFault_42 : decode cX5_firstFault 42 = .ok (.ifCond .ne 7, 3) := by decide +kernel
theorem dX5_firstFault_45 : decode cX5_firstFault 45 = .ok (.iconst 1, 1) := by decide +kernel
theorem dX5_firstFault_46 : decode cX5_firstFault 46 = .ok (.goto 4, 3) := by decide +kernel
theorem dX5_firstFault_49 : decode cX5_firstFault 49 = .ok (.iconst 0, 1) := by decide +kernel
theorem dX5_firstFault_50 : decode cX5_firstFault 50 = .ok (.istore_n 1, 1) := by decide +kernel
theorem dX5_firstFault_51 : decode cX5_firstFault 51 = .ok (.iload_n 1, 1) := by decide +kernel
theorem dX5_firstFault_52 : decode cX5_firstFault 52 = .ok (.ifCond .eq 8, 3) := by decide +kernel
theorem dX5_firstFault_55 : decode cX5_firstFault 55 = .ok (.bipush (-9), 2) := by decide +kernel
theorem dX5_firstFault_57 : decode cX5_firstFault 57 = .ok (.goto 7, 3) := by decide +kernel
theorem dX5_firstFault_60 : decode cX5_firstFault 60 = .ok (.aload_n 0, 1) := by decide +kernel
theorem dX5_firstFault_61 : decode cX5_firstFault 61 = .ok (.getfield 15, 3) := by decide +kernel
theorem dX5_firstFault_64 : decode cX5_firstFault 64 = .ok (.ireturn, 1) := by decide +kernel
theorem dX5_fits_0 : decode cX5_fits 0 = .ok (.iload_n 1, 1) := by decide +kernel
theorem dX5_fits_1 : decode cX5_fits 1 = .ok (.ifCond .ne 19, 3) := by decide +kernel
theorem dX5_fits_4 : decode cX5_fits 4 = .ok (.aload_n 0, 1) := by decide +kernel
theorem dX5_fits_5 : decode cX5_fits 5 = .ok (.iload_n 1, 1) := by decide +kernel
theorem dX5_fits_6 : decode cX5_fits 6 = .ok (.invokevirtual 19, 3) := by decide +kernel
theorem dX5_fits_9 : decode cX5_fits 9 = .ok (.bipush 78, 2) := by decide +kernel
theorem dX5_fits_11 : decode cX5_fits 11 = .ok (.if_icmp .ne 7, 3) := by decide +kernel
theorem dX5_fits_14 : decode cX5_fits 14 = .ok (.iconst 1, 1) := by decide +kernel
theorem dX5_fits_15 : decode cX5_fits 15 = .ok (.goto 4, 3) := by decide +kernel
theorem dX5_fits_18 : decode cX5_fits 18 = .ok (.iconst 0, 1) := by decide +kernel
theorem dX5_fits_19 : decode cX5_fits 19 = .ok (.ireturn, 1) := by decide +kernel
theorem dX5_fits_20 : decode cX5_fits 20 = .ok (.iload_n 1, 1) := by decide +kernel
theorem dX5_fits_21 : decode cX5_fits 21 = .ok (.iconst 2, 1) := by decide +kernel
theorem dX5_fits_22 : decode cX5_fits 22 = .ok (.if_icmp .ge 11, 3) := by decide +kernel
theorem dX5_fits_25 : decode cX5_fits 25 = .ok (.aload_n 0, 1) := by decide +kernel
theorem dX5_fits_26 : decode cX5_fits 26 = .ok (.iload_n 1, 1) := by decide +kernel
theorem dX5_fits_27 : decode cX5_fits 27 = .ok (.bipush 9, 2) := by decide +kernel
theorem dX5_fits_29 : decode cX5_fits 29 = .ok (.invokevirtual 27, 3) := by decide +kernel
theorem dX5_fits_32 : decode cX5_fits 32 = .ok (.ireturn, 1) := by decide +kernel
theorem dX5_fits_33 : decode cX5_fits 33 = .ok (.iload_n 1, 1) := by decide +kernel
theorem dX5_fits_34 : decode cX5_fits 34 = .ok (.iconst 2, 1) := by decide +kernel
theorem dX5_fits_35 : decode cX5_fits 35 = .ok (.isub, 1) := by decide +kernel
theorem dX5_fits_36 : decode cX5_fits 36 = .ok (.iconst 5, 1) := by decide +kernel
theorem dX5_fits_37 : decode cX5_fits 37 = .ok (.idiv, 1) := by decide +kernel
theorem dX5_fits_38 : decode cX5_fits 38 = .ok (.istore_n 2, 1) := by decide +kernel
theorem dX5_fits_39 : decode cX5_fits 39 = .ok (.iload_n 1, 1) := by decide +kernel
theorem dX5_fits_40 : decode cX5_fits 40 = .ok (.iconst 2, 1) := by decide +kernel
theorem dX5_fits_41 : decode cX5_fits 41 = .ok (.isub, 1) := by decide +kernel
theorem dX5_fits_42 : decode cX5_fits 42 = .ok (.iconst 5, 1) := by decide +kernel
theorem dX5_fits_43 : decode cX5_fits 43 = .ok (.irem, 1) := by decide +kernel
theorem dX5_fits_44 : decode cX5_fits 44 = .ok (.istore_n 3, 1) := by decide +kernel
theorem dX5_fits_45 : decode cX5_fits 45 = .ok (.iload_n 3, 1) := by decide +kernel
theorem dX5_fits_46 : decode cX5_fits 46 = .ok (.ifCond .ne 25, 3) := by decide +kernel
theorem dX5_fits_49 : decode cX5_fits 49 = .ok (.aload_n 0, 1) := by decide +kernel
theorem dX5_fits_50 : decode cX5_fits 50 = .ok (.iload_n 1, 1) := by decide +kernel
theorem dX5_fits_51 : decode cX5_fits 51 = .ok (.invokevirtual 19, 3) := by decide +kernel
theorem dX5_fits_54 : decode cX5_fits 54 = .ok (.bipush 72, 2) := by decide +kernel
theorem dX5_fits_56 : decode cX5_fits 56 = .ok (.if_icmp .ne 13, 3) := by decide +kernel
theorem dX5_fits_59 : decode cX5_fits 59 = .ok (.iload_n 2, 1) := by decide +kernel
theorem dX5_fits_60 : decode cX5_fits 60 = .ok (.bipush 6, 2) := by decide +kernel
theorem dX5_fits_62 : decode cX5_fits 62 = .ok (.if_icmp .ge 7, 3) := by decide +kernel
theorem dX5_fits_65 : decode cX5_fits 65 = .ok (.iconst 1, 1) := by decide +kernel
theorem dX5_fits_66 : decode cX5_fits 66 = .ok (.goto 4, 3) := by decide +kernel
theorem dX5_fits_69 : decode cX5_fits 69 = .ok (.iconst 0, 1) := by decide +kernel
theorem dX5_fits_70 : decode cX5_fits 70 = .ok (.ireturn, 1) := by decide +kernel
theorem dX5_fits_71 : decode cX5_fits 71 = .ok (.aload_n 0, 1) := by decide +kernel
theorem dX5_fits_72 : decode cX5_fits 72 = .ok (.iload_n 1, 1) := by decide +kernel
theorem dX5_fits_73 : decode cX5_fits 73 = .ok (.iload_n 3, 1) := by decide +kernel
theorem dX5_fits_74 : decode cX5_fits 74 = .ok (.iconst 1, 1) := by decide +kernel
theorem dX5_fits_75 : decode cX5_fits 75 = .ok (.if_icmp .ne 7, 3) := by decide +kernel
theorem dX5_fits_78 : decode cX5_fits 78 = .ok (.iconst 3, 1) := by decide +kernel
theorem dX5_fits_79 : decode cX5_fits 79 = .ok (.goto 5, 3) := by decide +kernel
theorem dX5_fits_82 : decode cX5_fits 82 = .ok (.bipush 9, 2) := by decide +kernel
theorem dX5_fits_84 : decode cX5_fits 84 = .ok (.invokevirtual 27, 3) := by decide +kernel
theorem dX5_fits_87 : decode cX5_fits 87 = .ok (.ireturn, 1) := by decide +kernel
theorem dX5_isDigit_0 : decode cX5_isDigit 0 = .ok (.aload_n 0, 1) := by decide +kernel
theorem dX5_isDigit_1 : decode cX5_isDigit 1 = .ok (.iload_n 1, 1) := by decide +kernel
theorem dX5_isDigit_2 : decode cX5_isDigit 2 = .ok (.invokevirtual 31, 3) := by decide +kernel
theorem dX5_isDigit_5 : decode cX5_isDigit 5 = .ok (.ifCond .lt 16, 3) := by decide +kernel
theorem dX5_isDigit_8 : decode cX5_isDigit 8 = .ok (.aload_n 0, 1) := by decide +kernel
theorem dX5_isDigit_9 : decode cX5_isDigit 9 = .ok (.iload_n 1, 1) := by decide +kernel
theorem dX5_isDigit_10 : decode cX5_isDigit 10 = .ok (.invokevirtual 31, 3) := by decide +kernel
theorem dX5_isDigit_13 : decode cX5_isDigit 13 = .ok (.iload_n 2, 1) := by decide +kernel
theorem dX5_isDigit_14 : decode cX5_isDigit 14 = .ok (.if_icmp .gt 7, 3) := by decide +kernel
theorem dX5_isDigit_17 : decode cX5_isDigit 17 = .ok (.iconst 1, 1) := by decide +kernel
theorem dX5_isDigit_18 : decode cX5_isDigit 18 = .ok (.goto 4, 3) := by decide +kernel
theorem dX5_isDigit_21 : decode cX5_isDigit 21 = .ok (.iconst 0, 1) := by decide +kernel
theorem dX5_isDigit_22 : decode cX5_isDigit 22 = .ok (.ireturn, 1) := by decide +kernel
theorem dJ6_bitCount_0f7a4_0 : decode cJ6_bitCount_0f7a4 0 = .ok (.iload_n 0, 1) := by decide +kernel
theorem dJ6_bitCount_0f7a4_1 : decode cJ6_bitCount_0f7a4 1 = .ok (.iload_n 0, 1) := by decide +kernel
theorem dJ6_bitCount_0f7a4_2 : decode cJ6_bitCount_0f7a4 2 = .ok (.iconst 1, 1) := by decide +kernel
theorem dJ6_bitCount_0f7a4_3 : decode cJ6_bitCount_0f7a4 3 = .ok (.iushr, 1) := by decide +kernel
theorem dJ6_bitCount_0f7a4_4 : decode cJ6_bitCount_0f7a4 4 = .ok (.ldc_w 265, 3) := by decide +kernel
theorem dJ6_bitCount_0f7a4_7 : decode cJ6_bitCount_0f7a4 7 = .ok (.iand, 1) := by decide +kernel
theorem dJ6_bitCount_0f7a4_8 : decode cJ6_bitCount_0f7a4 8 = .ok (.isub, 1) := by decide +kernel
theorem dJ6_bitCount_0f7a4_9 : decode cJ6_bitCount_0f7a4 9 = .ok (.istore_n 0, 1) := by decide +kernel
theorem dJ6_bitCount_0f7a4_10 : decode cJ6_bitCount_0f7a4 10 = .ok (.iload_n 0, 1) := by decide +kernel
theorem dJ6_bitCount_0f7a4_11 : decode cJ6_bitCount_0f7a4 11 = .ok (.ldc_w 266, 3) := by decide +kernel
theorem dJ6_bitCount_0f7a4_14 : decode cJ6_bitCount_0f7a4 14 = .ok (.iand, 1) := by decide +kernel
theorem dJ6_bitCount_0f7a4_15 : decode cJ6_bitCount_0f7a4 15 = .ok (.iload_n 0, 1) := by decide +kernel
theorem dJ6_bitCount_0f7a4_16 : decode cJ6_bitCount_0f7a4 16 = .ok (.iconst 2, 1) := by decide +kernel
theorem dJ6_bitCount_0f7a4_17 : decode cJ6_bitCount_0f7a4 17 = .ok (.iushr, 1) := by decide +kernel
theorem dJ6_bitCount_0f7a4_18 : decode cJ6_bitCount_0f7a4 18 = .ok (.ldc_w 266, 3) := by decide +kernel
theorem dJ6_bitCount_0f7a4_21 : decode cJ6_bitCount_0f7a4 21 = .ok (.iand, 1) := by decide +kernel
theorem dJ6_bitCount_0f7a4_22 : decode cJ6_bitCount_0f7a4 22 = .ok (.iadd, 1) := by decide +kernel
theorem dJ6_bitCount_0f7a4_23 : decode cJ6_bitCount_0f7a4 23 = .ok (.istore_n 0, 1) := by decide +kernel
theorem dJ6_bitCount_0f7a4_24 : decode cJ6_bitCount_0f7a4 24 = .ok (.iload_n 0, 1) := by decide +kernel
theorem dJ6_bitCount_0f7a4_25 : decode cJ6_bitCount_0f7a4 25 = .ok (.iload_n 0, 1) := by decide +kernel
theorem dJ6_bitCount_0f7a4_26 : decode cJ6_bitCount_0f7a4 26 = .ok (.iconst 4, 1) := by decide +kernel
theorem dJ6_bitCount_0f7a4_27 : decode cJ6_bitCount_0f7a4 27 = .ok (.iushr, 1) := by decide +kernel
theorem dJ6_bitCount_0f7a4_28 : decode cJ6_bitCount_0f7a4 28 = .ok (.iadd, 1) := by decide +kernel
theorem dJ6_bitCount_0f7a4_29 : decode cJ6_bitCount_0f7a4 29 = .ok (.ldc_w 267, 3) := by decide +kernel
theorem dJ6_bitCount_0f7a4_32 : decode cJ6_bitCount_0f7a4 32 = .ok (.iand, 1) := by decide +kernel
theorem dJ6_bitCount_0f7a4_33 : decode cJ6_bitCount_0f7a4 33 = .ok (.istore_n 0, 1) := by decide +kernel
theorem dJ6_bitCount_0f7a4_34 : decode cJ6_bitCount_0f7a4 34 = .ok (.iload_n 0, 1) := by decide +kernel
theorem dJ6_bitCount_0f7a4_35 : decode cJ6_bitCount_0f7a4 35 = .ok (.iload_n 0, 1) := by decide +kernel
theorem dJ6_bitCount_0f7a4_36 : decode cJ6_bitCount_0f7a4 36 = .ok (.bipush 8, 2) := by decide +kernel
theorem dJ6_bitCount_0f7a4_38 : decode cJ6_bitCount_0f7a4 38 = .ok (.iushr, 1) := by decide +kernel
theorem dJ6_bitCount_0f7a4_39 : decode cJ6_bitCount_0f7a4 39 = .ok (.iadd, 1) := by decide +kernel
theorem dJ6_bitCount_0f7a4_40 : decode cJ6_bitCount_0f7a4 40 = .ok (.istore_n 0, 1) := by decide +kernel
theorem dJ6_bitCount_0f7a4_41 : decode cJ6_bitCount_0f7a4 41 = .ok (.iload_n 0, 1) := by decide +kernel
theorem dJ6_bitCount_0f7a4_42 : decode cJ6_bitCount_0f7a4 42 = .ok (.iload_n 0, 1) := by decide +kernel
theorem dJ6_bitCount_0f7a4_43 : decode cJ6_bitCount_0f7a4 43 = .ok (.bipush 16, 2) := by decide +kernel
theorem dJ6_bitCount_0f7a4_45 : decode cJ6_bitCount_0f7a4 45 = .ok (.iushr, 1) := by decide +kernel
theorem dJ6_bitCount_0f7a4_46 : decode cJ6_bitCount_0f7a4 46 = .ok (.iadd, 1) := by decide +kernel
theorem dJ6_bitCount_0f7a4_47 : decode cJ6_bitCount_0f7a4 47 = .ok (.istore_n 0, 1) := by decide +kernel
theorem dJ6_bitCount_0f7a4_48 : decode cJ6_bitCount_0f7a4 48 = .ok (.iload_n 0, 1) := by decide +kernel
theorem dJ6_bitCount_0f7a4_49 : decode cJ6_bitCount_0f7a4 49 = .ok (.bipush 63, 2) := by decide +kernel
theorem dJ6_bitCount_0f7a4_51 : decode cJ6_bitCount_0f7a4 51 = .ok (.iand, 1) := by decide +kernel
theorem dJ6_bitCount_0f7a4_52 : decode cJ6_bitCount_0f7a4 52 = .ok (.ireturn, 1) := by decide +kernel
theorem dJ9_floorMod_7cf53_0 : decode cJ9_floorMod_7cf53 0 = .ok (.iload_n 0, 1) := by decide +kernel
theorem dJ9_floorMod_7cf53_1 : decode cJ9_floorMod_7cf53 1 = .ok (.iload_n 1, 1) := by decide +kernel
theorem dJ9_floorMod_7cf53_2 : decode cJ9_floorMod_7cf53 2 = .ok (.irem, 1) := by decide +kernel
theorem dJ9_floorMod_7cf53_3 : decode cJ9_floorMod_7cf53 3 = .ok (.istore_n 2, 1) := by decide +kernel
theorem dJ9_floorMod_7cf53_4 : decode cJ9_floorMod_7cf53 4 = .ok (.iload_n 0, 1) := by decide +kernel
theorem dJ9_floorMod_7cf53_5 : decode cJ9_floorMod_7cf53 5 = .ok (.iload_n 1, 1) := by decide +kernel
theorem dJ9_floorMod_7cf53_6 : decode cJ9_floorMod_7cf53 6 = .ok (.ixor, 1) := by decide +kernel
theorem dJ9_floorMod_7cf53_7 : decode cJ9_floorMod_7cf53 7 = .ok (.ifCond .ge 11, 3) := by decide +kernel
theorem dJ9_floorMod_7cf53_10 : decode cJ9_floorMod_7cf53 10 = .ok (.iload_n 2, 1) := by decide +kernel
theorem dJ9_floorMod_7cf53_11 : decode cJ9_floorMod_7cf53 11 = .ok (.ifCond .eq 7, 3) := by decide +kernel
theorem dJ9_floorMod_7cf53_14 : decode cJ9_floorMod_7cf53 14 = .ok (.iload_n 2, 1) := by decide +kernel
theorem dJ9_floorMod_7cf53_15 : decode cJ9_floorMod_7cf53 15 = .ok (.iload_n 1, 1) := by decide +kernel
theorem dJ9_floorMod_7cf53_16 : decode cJ9_floorMod_7cf53 16 = .ok (.iadd, 1) := by decide +kernel
theorem dJ9_floorMod_7cf53_17 : decode cJ9_floorMod_7cf53 17 = .ok (.ireturn, 1) := by decide +kernel
theorem dJ9_floorMod_7cf53_18 : decode cJ9_floorMod_7cf53 18 = .ok (.iload_n 2, 1) := by decide +kernel
theorem dJ9_floorMod_7cf53_19 : decode cJ9_floorMod_7cf53 19 = .ok (.ireturn, 1) := by decide +kernel
theorem dJ9_max_7cf53_0 : decode cJ9_max_7cf53 0 = .ok (.iload_n 0, 1) := by decide +kernel
theorem dJ9_max_7cf53_1 : decode cJ9_max_7cf53 1 = .ok (.iload_n 1, 1) := by decide +kernel
theorem dJ9_max_7cf53_2 : decode cJ9_max_7cf53 2 = .ok (.if_icmp .lt 7, 3) := by decide +kernel
theorem dJ9_max_7cf53_5 : decode cJ9_max_7cf53 5 = .ok (.iload_n 0, 1) := by decide +kernel
theorem dJ9_max_7cf53_6 : decode cJ9_max_7cf53 6 = .ok (.goto 4, 3) := by decide +kernel
theorem dJ9_max_7cf53_9 : decode cJ9_max_7cf53 9 = .ok (.iload_n 1, 1) := by decide +kernel
theorem dJ9_max_7cf53_10 : decode cJ9_max_7cf53 10 = .ok (.ireturn, 1) := by decide +kernel
theorem dJ9_min_7cf53_0 : decode cJ9_min_7cf53 0 = .ok (.iload_n 0, 1) := by decide +kernel
theorem dJ9_min_7cf53_1 : decode cJ9_min_7cf53 1 = .ok (.iload_n 1, 1) := by decide +kernel
theorem dJ9_min_7cf53_2 : decode cJ9_min_7cf53 2 = .ok (.if_icmp .gt 7, 3) := by decide +kernel
theorem dJ9_min_7cf53_5 : decode cJ9_min_7cf53 5 = .ok (.iload_n 0, 1) := by decide +kernel
theorem dJ9_min_7cf53_6 : decode cJ9_min_7cf53 6 = .ok (.goto 4, 3) := by decide +kernel
theorem dJ9_min_7cf53_9 : decode cJ9_min_7cf53 9 = .ok (.iload_n 1, 1) := by decide +kernel
theorem dJ9_min_7cf53_10 : decode cJ9_min_7cf53 10 = .ok (.ireturn, 1) := by decide +kernel
