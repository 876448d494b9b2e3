theorem dX0_init_0 : decode cX0_init 0 = .ok (.aload_n 0, 1) := by decide +kernel
theorem dX0_init_1 : decode cX0_init 1 = .ok (.invokespecial 3, 3) := by decide +kernel
theorem dX0_init_4 : decode cX0_init 4 = .ok (.aload_n 0, 1) := by decide +kernel
theorem dX0_init_5 : decode cX0_init 5 = .ok (.bipush 120, 2) := by decide +kernel
theorem dX0_init_7 : decode cX0_init 7 = .ok (.newarray .int, 2) := by decide +kernel
theorem dX0_init_9 : decode cX0_init 9 = .ok (.putfield 9, 3) := by decide +kernel
theorem dX0_init_12 : decode cX0_init 12 = .ok (.aload_n 0, 1) := by decide +kernel
theorem dX0_init_13 : decode cX0_init 13 = .ok (.iconst 1, 1) := by decide +kernel
theorem dX0_init_14 : decode cX0_init 14 = .ok (.putfield 15, 3) := by decide +kernel
theorem dX0_init_17 : decode cX0_init 17 = .ok (.aload_n 0, 1) := by decide +kernel
theorem dX0_init_18 : decode cX0_init 18 = .ok (.iconst 1, 1) := by decide +kernel
theorem dX0_init_19 : decode cX0_init 19 = .ok (.putfield 19, 3) := by decide +kernel
theorem dX0_init_22 : decode cX0_init 22 = .ok (.return_, 1) := by decide +kernel
theorem dX0_copyFrom_0 : decode cX0_copyFrom 0 = .ok (.aload_n 1, 1) := by decide +kernel
theorem dX0_copyFrom_1 : decode cX0_copyFrom 1 = .ok (.ifnonnull 4, 3) := by decide +kernel
theorem dX0_copyFrom_4 : decode cX0_copyFrom 4 = .ok (.return_, 1) := by decide +kernel
theorem dX0_copyFrom_5 : decode cX0_copyFrom 5 = .ok (.aload_n 0, 1) := by decide +kernel
theorem dX0_copyFrom_6 : decode cX0_copyFrom 6 = .ok (.aload_n 1, 1) := by decide +kernel
theorem dX0_copyFrom_7 : decode cX0_copyFrom 7 = .ok (.getfield 15, 3) := by decide +kernel
theorem dX0_copyFrom_10 : decode cX0_copyFrom 10 = .ok (.putfield 15, 3) := by decide +kernel
theorem dX0_copyFrom_13 : decode cX0_copyFrom 13 = .ok (.aload_n 0, 1) := by decide +kernel
theorem dX0_copyFrom_14 : decode cX0_copyFrom 14 = .ok (.aload_n 1, 1) := by decide +kernel
theorem dX0_copyFrom_15 : decode cX0_copyFrom 15 = .ok (.getfield 19, 3) := by decide +kernel
theorem dX0_copyFrom_18 : decode cX0_copyFrom 18 = .ok (.putfield 19, 3) := by decide +kernel
theorem dX0_copyFrom_21 : decode cX0_copyFrom 21 = .ok (.aload_n 1, 1) := by decide +kernel
theorem dX0_copyFrom_22 : decode cX0_copyFrom 22 = .ok (.getfield 9, 3) := by decide +kernel
theorem dX0_copyFrom_25 : decode cX0_copyFrom 25 = .ok (.aload_n 0, 1) := by decide +kernel
theorem dX0_copyFrom_26 : decode cX0_copyFrom 26 = .ok (.getfield 9, 3) := by decide +kernel
theorem dX0_copyFrom_29 : decode cX0_copyFrom 29 = .ok (.invokestatic 22, 3) := by decide +kernel
theorem dX0_copyFrom_32 : decode cX0_copyFrom 32 = .ok (.return_, 1) := by decide +kernel
theorem dX0_cellAt_0 : decode cX0_cellAt 0 = .ok (.aload_n 0, 1) := by decide +kernel
theorem dX0_cellAt_1 : decode cX0_cellAt 1 = .ok (.getfield 9, 3) := by decide +kernel
theorem dX0_cellAt_4 : decode cX0_cellAt 4 = .ok (.iload_n 1, 1) := by decide +kernel
theorem dX0_cellAt_5 : decode cX0_cellAt 5 = .ok (.bipush 12, 2) := by decide +kernel
theorem dX0_cellAt_7 : decode cX0_cellAt 7 = .ok (.imul, 1) := by decide +kernel
theorem dX0_cellAt_8 : decode cX0_cellAt 8 = .ok (.iload_n 2, 1) := by decide +kernel
theorem dX0_cellAt_9 : decode cX0_cellAt 9 = .ok (.iadd, 1) := by decide +kernel
theorem dX0_cellAt_10 : decode cX0_cellAt 10 = .ok (.invokestatic 26, 3) := by decide +kernel
theorem dX0_cellAt_13 : decode cX0_cellAt 13 = .ok (.ireturn, 1) := by decide +kernel
theorem dX0_putCell_0 : decode cX0_putCell 0 = .ok (.aload_n 0, 1) := by decide +kernel
theorem dX0_putCell_1 : decode cX0_putCell 1 = .ok (.getfield 9, 3) := by decide +kernel
theorem dX0_putCell_4 : decode cX0_putCell 4 = .ok (.iload_n 1, 1) := by decide +kernel
theorem dX0_putCell_5 : decode cX0_putCell 5 = .ok (.bipush 12, 2) := by decide +kernel
theorem dX0_putCell_7 : decode cX0_putCell 7 = .ok (.imul, 1) := by decide +kernel
theorem dX0_putCell_8 : decode cX0_putCell 8 = .ok (.iload_n 2, 1) := by decide +kernel
theorem dX0_putCell_9 : decode cX0_putCell 9 = .ok (.iadd, 1) := by decide +kernel
theorem dX0_putCell_10 : decode cX0_putCell 10 = .ok (.iload_n 3, 1) := by decide +kernel
theorem dX0_putCell_11 : decode cX0_putCell 11 = .ok (.invokestatic 30, 3) := by decide +kernel
theorem dX0_putCell_14 : decode cX0_putCell 14 = .ok (.return_, 1) := by decide +kernel
theorem dX0_placeFor_0 : decode cX0_placeFor 0 = .ok (.iload_n 2, 1) := by decide +kernel
theorem dX0_placeFor_1 : decode cX0_placeFor 1 = .ok (.iconst 1, 1) := by decide +kernel
theorem dX0_placeFor_2 : decode cX0_placeFor 2 = .ok (.if_icmp .lt 19, 3) := by decide +kernel
theorem dX0_placeFor_5 : decode cX0_placeFor 5 = .ok (.aload_n 0, 1) := by decide +kernel
theorem dX0_placeFor_6 : decode cX0_placeFor 6 = .ok (.getfield 15, 3) := by decide +kernel
theorem dX0_placeFor_9 : decode cX0_placeFor 9 = .ok (.iconst 1, 1) := by decide +kernel
theorem dX0_placeFor_10 : decode cX0_placeFor 10 = .ok (.if_icmp .lt 11, 3) := by decide +kernel
theorem dX0_placeFor_13 : decode cX0_placeFor 13 = .ok (.aload_n 0, 1) := by decide +kernel
theorem dX0_placeFor_14 : decode cX0_placeFor 14 = .ok (.getfield 19, 3) := by decide +kernel
theorem dX0_placeFor_17 : decode cX0_placeFor 17 = .ok (.iconst 1, 1) := by decide +kernel
theorem dX0_placeFor_18 : decode cX0_placeFor 18 = .ok (.if_icmp .ge 5, 3) := by decide +kernel
theorem dX0_placeFor_21 : decode cX0_placeFor 21 = .ok (.iconst 0, 1) := by decide +kernel
theorem dX0_placeFor_22 : decode cX0_placeFor 22 = .ok (.ireturn, 1) := by decide +kernel
theorem dX0_placeFor_23 : decode cX0_placeFor 23 = .ok (.iload_n 1, 1) := by decide +kernel
theorem dX0_placeFor_24 : decode cX0_placeFor 24 = .ok (.iload_n 2, 1) := by decide +kernel
theorem dX0_placeFor_25 : decode cX0_placeFor 25 = .ok (.idiv, 1) := by decide +kernel
theorem dX0_placeFor_26 : decode cX0_placeFor 26 = .ok (.istore 4, 2) := by decide +kernel
theorem dX0_placeFor_28 : decode cX0_placeFor 28 = .ok (.iload 4, 2) := by decide +kernel
theorem dX0_placeFor_30 : decode cX0_placeFor 30 = .ok (.aload_n 0, 1) := by decide +kernel
theorem dX0_placeFor_31 : decode cX0_placeFor 31 = .ok (.getfield 15, 3) := by decide +kernel
theorem dX0_placeFor_34 : decode cX0_placeFor 34 = .ok (.irem, 1) := by decide +kernel
theorem dX0_placeFor_35 : decode cX0_placeFor 35 = .ok (.bipush 12, 2) := by decide +kernel
theorem dX0_placeFor_37 : decode cX0_placeFor 37 = .ok (.imul, 1) := by decide +kernel
theorem dX0_placeFor_38 : decode cX0_placeFor 38 = .ok (.iload_n 1, 1) := by decide +kernel
theorem dX0_placeFor_39 : decode cX0_placeFor 39 = .ok (.iload_n 2, 1) := by decide +kernel
theorem dX0_placeFor_40 : decode cX0_placeFor 40 = .ok (.irem, 1) := by decide +kernel
theorem dX0_placeFor_41 : decode cX0_placeFor 41 = .ok (.iload_n 3, 1) := by decide +kernel
theorem dX0_placeFor_42 : decode cX0_placeFor 42 = .ok (.iload 4, 2) := by decide +kernel
theorem dX0_placeFor_44 : decode cX0_placeFor 44 = .ok (.imul, 1) := by decide +kernel
theorem dX0_placeFor_45 : decode cX0_placeFor 45 = .ok (.iadd, 1) := by decide +kernel
theorem dX0_placeFor_46 : decode cX0_placeFor 46 = .ok (.aload_n 0, 1) := by decide +kernel
theorem dX0_placeFor_47 : decode cX0_placeFor 47 = .ok (.getfield 19, 3) := by decide +kernel
theorem dX0_placeFor_50 : decode cX0_placeFor 50 = .ok (.irem, 1) := by decide +kernel
theorem dX0_placeFor_51 : decode cX0_placeFor 51 = .ok (.iadd, 1) := by decide +kernel
theorem dX0_placeFor_52 : decode cX0_placeFor 52 = .ok (.ireturn, 1) := by decide +kernel
theorem dX0_cellsOf_0 : decode cX0_cellsOf 0 = .ok (.iconst 0, 1) := by decide +kernel
theorem dX0_cellsOf_1 : decode cX0_cellsOf 1 = .ok (.istore_n 2, 1) := by decide +kernel
theorem dX0_cellsOf_2 : decode cX0_cellsOf 2 = .ok (.iconst 0, 1) := by decide +kernel
theorem dX0_cellsOf_3 : decode cX0_cellsOf 3 = .ok (.istore_n 3, 1) := by decide +kernel
theorem dX0_cellsOf_4 : decode cX0_cellsOf 4 = .ok (.iload_n 3, 1) := by decide +kernel
theorem dX0_cellsOf_5 : decode cX0_cellsOf 5 = .ok (.aload_n 0, 1) := by decide +kernel
theorem dX0_cellsOf_6 : decode cX0_cellsOf 6 = .ok (.getfield 15, 3) := by decide +kernel
theorem dX0_cellsOf_9 : decode cX0_cellsOf 9 = .ok (.if_icmp .ge 41, 3) := by decide +kernel
theorem dX0_cellsOf_12 : decode cX0_cellsOf 12 = .ok (.iconst 0, 1) := by decide +kernel
theorem dX0_cellsOf_13 : decode cX0_cellsOf 13 = .ok (.istore 4, 2) := by decide +kernel
theorem dX0_cellsOf_15 : decode cX0_cellsOf 15 = .ok (.iload 4, 2) := by decide +kernel
theorem dX0_cellsOf_17 : decode cX0_cellsOf 17 = .ok (.aload_n 0, 1) := by decide +kernel
theorem dX0_cellsOf_18 : decode cX0_cellsOf 18 = .ok (.getfield 19, 3) := by decide +kernel
theorem dX0_cellsOf_21 : decode cX0_cellsOf 21 = .ok (.if_icmp .ge 23, 3) := by decide +kernel
theorem dX0_cellsOf_24 : decode cX0_cellsOf 24 = .ok (.aload_n 0, 1) := by decide +kernel
theorem dX0_cellsOf_25 : decode cX0_cellsOf 25 = .ok (.iload_n 3, 1) := by decide +kernel
theorem dX0_cellsOf_26 : decode cX0_cellsOf 26 = .ok (.iload 4, 2) := by decide +kernel
theorem dX0_cellsOf_28 : decode cX0_cellsOf 28 = .ok (.invokevirtual 34, 3) := by decide +kernel
theorem dX0_cellsOf_31 : decode cX0_cellsOf 31 = .ok (.iload_n 1, 1) := by decide +kernel
theorem dX0_cellsOf_32 : decode cX0_cellsOf 32 = .ok (.if_icmp .ne 6, 3) := by decide +kernel
theorem dX0_cellsOf_35 : decode cX0_cellsOf 35 = .ok (.iinc 2 1, 3) := by decide +kernel
theorem dX0_cellsOf_38 : decode cX0_cellsOf 38 = .ok (.iinc 4 1, 3) := by decide +kernel
theorem dX0_cellsOf_41 : decode cX0_cellsOf 41 = .ok (.goto (-26), 3) := by decide +kernel
theorem dX0_cellsOf_44 : decode cX0_cellsOf 44 = .ok (.iinc 3 1, 3) := by decide +kernel
theorem dX0_cellsOf_47 : decode cX0_cellsOf 47 = .ok (.goto (-43), 3) := by decide +kernel
theorem dX0_cellsOf_50 : decode cX0_cellsOf 50 = .ok (.iload_n 2, 1) := by decide +kernel
theorem dX0_cellsOf_51 : decode cX0_cellsOf 51 = .ok (.ireturn, 1) := by decide +kernel
theorem dX0_differentColours_0 : decode cX0_differentColours 0 = .ok (.iconst 0, 1) := by decide +kernel
theorem dX0_differentColours_1 : decode cX0_differentColours 1 = .ok (.istore_n 1, 1) := by decide +kernel
theorem dX0_differentColours_2 : decode cX0_differentColours 2 = .ok (.iconst 0, 1) := by decide +kernel
theorem dX0_differentColours_3 : decode cX0_differentColours 3 = .ok (.istore_n 2, 1) := by decide +kernel
theorem dX0_differentColours_4 : decode cX0_differentColours 4 = .ok (.iload_n 2, 1) := by decide +kernel
theorem dX0_differentColours_5 : decode cX0_differentColours 5 = .ok (.bipush 6, 2) := by decide +kernel
theorem dX0_differentColours_7 : decode cX0_differentColours 7 = .ok (.if_icmp .ge 20, 3) := by decide +kernel
theorem dX0_differentColours_10 : decode cX0_differentColours 10 = .ok (.aload_n 0, 1) := by decide +kernel
theorem dX0_differentColours_11 : decode cX0_differentColours 11 = .ok (.iload_n 2, 1) := by decide +kernel
theorem dX0_differentColours_12 : decode cX0_differentColours 12 = .ok (.invokevirtual 38, 3) := by decide +kernel
theorem dX0_differentColours_15 : decode cX0_differentColours 15 = .ok (.ifCond .le 6, 3) := by decide +kernel
theorem dX0_differentColours_18 : decode cX0_differentColours 18 = .ok (.iinc 1 1, 3) := by decide +kernel
theorem dX0_differentColours_21 : decode cX0_differentColours 21 = .ok (.iinc 2 1, 3) := by decide +kernel
theorem dX0_differentColours_24 : decode cX0_differentColours 24 = .ok (.goto (-20), 3) := by decide +kernel
theorem dX0_differentColours_27 : decode cX0_differentColours 27 = .ok (.iload_n 1, 1) := by decide +kernel
theorem dX0_differentColours_28 : decode cX0_differentColours 28 = .ok (.ireturn, 1) := by decide +kernel
theorem dX0_swapColours_0 : decode cX0_swapColours 0 = .ok (.iload_n 1, 1) := by decide +kernel
theorem dX0_swapColours_1 : decode cX0_swapColours 1 = .ok (.iload_n 2, 1) := by decide +kernel
theorem dX0_swapColours_2 : decode cX0_swapColours 2 = .ok (.if_icmp .ne 5, 3) := by decide +kernel
theorem dX0_swapColours_5 : decode cX0_swapColours 5 = .ok (.iconst 0, 1) := by decide +kernel
theorem dX0_swapColours_6 : decode cX0_swapColours 6 = .ok (.ireturn, 1) := by decide +kernel
theorem dX0_swapColours_7 : decode cX0_swapColours 7 = .ok (.iconst 0, 1) := by decide +kernel
theorem dX0_swapColours_8 : decode cX0_swapColours 8 = .ok (.istore_n 3, 1) := by decide +kernel
theorem dX0_swapColours_9 : decode cX0_swapColours 9 = .ok (.iconst 0, 1) := by decide +kernel
theorem dX0_swapColours_10 : decode cX0_swapColours 10 = .ok (.istore 4, 2) := by decide +kernel
theorem dX0_swapColours_12 : decode cX0_swapColours 12 = .ok (.iload 4, 2) := by decide +kernel
theorem dX0_swapColours_14 : decode cX0_swapColours 14 = .ok (.aload_n 0, 1) := by decide +kernel
theorem dX0_swapColours_15 : decode cX0_swapColours 15 = .ok (.getfield 15, 3) := by decide +kernel
theorem dX0_swapColours_18 : decode cX0_swapColours 18 = .ok (.if_icmp .ge 71, 3) := by decide +kernel
theorem dX0_swapColours_21 : decode cX0_swapColours 21 = .ok (.iconst 0, 1) := by decide +kernel
theorem dX0_swapColours_22 : decode cX0_swapColours 22 = .ok (.istore 5, 2) := by decide +kernel
theorem dX0_swapColours_24 : decode cX0_swapColours 24 = .ok (.iload 5, 2) := by decide +kernel
theorem dX0_swapColours_26 : decode cX0_swapColours 26 = .ok (.aload_n 0, 1) := by decide +kernel
theorem dX0_swapColours_27 : decode cX0_swapColours 27 = .ok (.getfield 19, 3) := by decide +kernel
theorem dX0_swapColours_30 : decode cX0_swapColours 30 = .ok (.if_icmp .ge 53, 3) := by decide +kernel
theorem dX0_swapColours_33 : decode cX0_swapColours 33 = .ok (.aload_n 0, 1) := by decide +kernel
theorem dX0_swapColours_34 : decode cX0_swapColours 34 = .ok (.iload 4, 2) := by decide +kernel
theorem dX0_swapColours_36 : decode cX0_swapColours 36 = .ok (.iload 5, 2) := by decide +kernel
theorem dX0_swapColours_38 : decode cX0_swapColours 38 = .ok (.invokevirtual 34, 3) := by decide +kernel
theorem dX0_swapColours_41 : decode cX0_swapColours 41 = .ok (.istore 6, 2) := by decide +kernel
theorem dX0_swapColours_43 : decode cX0_swapColours 43 = .ok (.iload 6, 2) := by decide +kernel
theorem dX0_swapColours_45 : decode cX0_swapColours 45 = .ok (.iload_n 1, 1) := by decide +kernel
theorem dX0_swapColours_46 : decode cX0_swapColours 46 = .ok (.if_icmp .eq 9, 3) := by decide +kernel
theorem dX0_swapColours_49 : decode cX0_swapColours 49 = .ok (.iload 6, 2) := by decide +kernel
theorem dX0_swapColours_51 : decode cX0_swapColours 51 = .ok (.iload_n 2, 1) := by decide +kernel
theorem dX0_swapColours_52 : decode cX0_swapColours 52 = .ok (.if_icmp .ne 25, 3) := by decide +kernel
theorem dX0_swapColours_55 : decode cX0_swapColours 55 = .ok (.aload_n 0, 1) := by decide +kernel
theorem dX0_swapColours_56 : decode cX0_swapColours 56 = .ok (.iload 4, 2) := by decide +kernel
theorem dX0_swapColours_58 : decode cX0_swapColours 58 = .ok (.iload 5, 2) := by decide +kernel
theorem dX0_swapColours_60 : decode cX0_swapColours 60 = .ok (.iload 6, 2) := by decide +kernel
theorem dX0_swapColours_62 : decode cX0_swapColours 62 = .ok (.iload_n 1, 1) := by decide +kernel
theorem dX0_swapColours_63 : decode cX0_swapColours 63 = .ok (.if_icmp .ne 7, 3) := by decide +kernel
theorem dX0_swapColours_66 : decode cX0_swapColours 66 = .ok (.iload_n 2, 1) := by decide +kernel
theorem dX0_swapColours_67 : decode cX0_swapColours 67 = .ok (.goto 4, 3) := by decide +kernel
theorem dX0_swapColours_70 : decode cX0_swapColours 70 = .ok (.iload_n 1, 1) := by decide +kernel
theorem dX0_swapColours_71 : decode cX0_swapColours 71 = .ok (.invokevirtual 42, 3) := by decide +kernel
theorem dX0_swapColours_74 : decode cX0_swapColours 74 = .ok (.iinc 3 1, 3) := by decide +kernel
theorem dX0_swapColours_77 : decode cX0_swapColours 77 = .ok (.iinc 5 1, 3) := by decide +kernel
theorem dX0_swapColours_80 : decode cX0_swapColours 80 = .ok (.goto (-56), 3) := by decide +kernel
theorem dX0_swapColours_83 : decode cX0_swapColours 83 = .ok (.iinc 4 1, 3) := by decide +kernel
theorem dX0_swapColours_86 : decode cX0_swapColours 86 = .ok (.goto (-74), 3) := by decide +kernel
theorem dX0_swapColours_89 : decode cX0_swapColours 89 = .ok (.iload_n 3, 1) := by decide +kernel
theorem dX0_swapColours_90 : decode cX0_swapColours 90 = .ok (.ireturn, 1) := by decide +kernel
theorem dX1_init_0 : decode cX1_init 0 = .ok (.aload_n 0, 1) := by decide +kernel
theorem dX1_init_1 : decode cX1_init 1 = .ok (.invokespecial 3, 3) := by decide +kernel
theorem dX1_init_4 : decode cX1_init 4 = .ok (.aload_n 0, 1) := by decide +kernel
theorem dX1_init_5 : decode cX1_init 5 = .ok (.bipush 6, 2) := by decide +kernel
theorem dX1_init_7 : decode cX1_init 7 = .ok (.anewarray 9, 3) := by decide +kernel
theorem dX1_init_10 : decode cX1_init 10 = .ok (.putfield 11, 3) := by decide +kernel
theorem dX1_init_13 : decode cX1_init 13 = .ok (.iconst 0, 1) := by decide +kernel
theorem dX1_init_14 : decode cX1_init 14 = .ok (.istore_n 1, 1) := by decide +kernel
theorem dX1_init_15 : decode cX1_init 15 = .ok (.iload_n 1, 1) := by decide +kernel
theorem dX1_init_16 : decode cX1_init 16 = .ok (.aload_n 0, 1) := by decide +kernel
theorem dX1_init_17 : decode cX1_init 17 = .ok (.getfield 11, 3) := by decide +kernel
theorem dX1_init_20 : decode cX1_init 20 = .ok (.arraylength, 1) := by decide +kernel
theorem dX1_init_21 : decode cX1_init 21 = .ok (.if_icmp .ge 22, 3) := by decide +kernel
theorem dX1_init_24 : decode cX1_init 24 = .ok (.aload_n 0, 1) := by decide +kernel
theorem dX1_init_25 : decode cX1_init 25 = .ok (.getfield 11, 3) := by decide +kernel
theorem dX1_init_28 : decode cX1_init 28 = .ok (.iload_n 1, 1) := by decide +kernel
theorem dX1_init_29 : decode cX1_init 29 = .ok (.new 9, 3) := by decide +kernel
theorem dX1_init_32 : decode cX1_init 32 = .ok (.dup, 1) := by decide +kernel
theorem dX1_init_33 : decode cX1_init 33 = .ok (.invokespecial 17, 3) := by decide +kernel
theorem dX1_init_36 : decode cX1_init 36 = .ok (.aastore, 1) := by decide +kernel
theorem dX1_init_37 : decode cX1_init 37 = .ok (.iinc 1 1, 3) := by decide +kernel
theorem dX1_init_40 : decode cX1_init 40 = .ok (.goto (-25), 3) := by decide +kernel
theorem dX1_init_43 : decode cX1_init 43 = .ok (.aload_n 0, 1) := by decide +kernel
theorem dX1_init_44 : decode cX1_init 44 = .ok (.iconst 0, 1) := by decide +kernel
theorem dX1_init_45 : decode cX1_init 45 = .ok (.putfield 18, 3) := by decide +kernel
theorem dX1_init_48 : decode cX1_init 48 = .ok (.aload_n 0, 1) := by decide +kernel
theorem dX1_init_49 : decode cX1_init 49 = .ok (.iconst 0, 1) := by decide +kernel
theorem dX1_init_50 : decode cX1_init 50 = .ok (.putfield 22, 3) := by decide +kernel
theorem dX1_init_53 : decode cX1_init 53 = .ok (.return_, 1) := by decide +kernel
theorem dX1_slot_0 : decode cX1_slot 0 = .ok (.aload_n 0, 1) := by decide +kernel
theorem dX1_slot_1 : decode cX1_slot 1 = .ok (.getfield 18, 3) := by decide +kernel
theorem dX1_slot_4 : decode cX1_slot 4 = .ok (.iload_n 1, 1) := by decide +kernel
theorem dX1_slot_5 : decode cX1_slot 5 = .ok (.iadd, 1) := by decide +kernel
theorem dX1_slot_6 : decode cX1_slot 6 = .ok (.bipush 6, 2) := by decide +kernel
theorem dX1_slot_8 : decode cX1_slot 8 = .ok (.irem, 1) := by decide +kernel
theorem dX1_slot_9 : decode cX1_slot 9 = .ok (.istore_n 2, 1) := by decide +kernel
theorem dX1_slot_10 : decode cX1_slot 10 = .ok (.iload_n 2, 1) := by decide +kernel
theorem dX1_slot_11 : decode cX1_slot 11 = .ok (.ifCond .lt 12, 3) := by decide +kernel
theorem dX1_slot_14 : decode cX1_slot 14 = .ok (.iload_n 2, 1) := by decide +kernel
theorem dX1_slot_15 : decode cX1_slot 15 = .ok (.aload_n 0, 1) := by decide +kernel
theorem dX1_slot_16 : decode cX1_slot 16 = .ok (.getfield 11, 3) := by decide +kernel
theorem dX1_slot_19 : decode cX1_slot 19 = .ok (.arraylength, 1) := by decide +kernel
theorem dX1_slot_20 : decode cX1_slot 20 = .ok (.if_icmp .lt 5, 3) := by decide +kernel
theorem dX1_slot_23 : decode cX1_slot 23 = .ok (.aconst_null, 1) := by decide +kernel
theorem dX1_slot_24 : decode cX1_slot 24 = .ok (.areturn, 1) := by decide +kernel
theorem dX1_slot_25 : decode cX1_slot 25 = .ok (.aload_n 0, 1) := by decide +kernel
theorem dX1_slot_26 : decode cX1_slot 26 = .ok (.getfield 11, 3) := by decide +kernel
theorem dX1_slot_29 : decode cX1_slot 29 = .ok (.iload_n 2, 1) := by decide +kernel
theorem dX1_slot_30 : decode cX1_slot 30 = .ok (.aaload, 1) := by decide +kernel
theorem dX1_slot_31 : decode cX1_slot 31 = .ok (.areturn, 1) := by decide +kernel
theorem dX1_save_0 : decode cX1_save 0 = .ok (.aload_n 0, 1) := by decide +kernel
theorem dX1_save_1 : decode cX1_save 1 = .ok (.getfield 22, 3) := by decide +kernel
theorem dX1_save_4 : decode cX1_save 4 = .ok (.bipush 6, 2) := by decide +kernel
theorem dX1_save_6 : decode cX1_save 6 = .ok (.if_icmp .lt 26, 3) := by decide +kernel
theorem dX1_save_9 : decode cX1_save 9 = .ok (.aload_n 0, 1) := by decide +kernel
theorem dX1_save_10 : decode cX1_save 10 = .ok (.aload_n 0, 1) := by decide +kernel
theorem dX1_save_11 : decode cX1_save 11 = .ok (.getfield 18, 3) := by decide +kernel
theorem dX1_save_14 : decode cX1_save 14 = .ok (.iconst 1, 1) := by decide +kernel
theorem dX1_save_15 : decode cX1_save 15 = .ok (.iadd, 1) := by decide +kernel
theorem dX1_save_16 : decode cX1_save 16 = .ok (.bipush 6, 2) := by decide +kernel
theorem dX1_save_18 : decode cX1_save 18 = .ok (.irem, 1) := by decide +kernel
theorem dX1_save_19 : decode cX1_save 19 = .ok (.putfield 18, 3) := by decide +kernel
theorem dX1_save_22 : decode cX1_save 22 = .ok (.aload_n 0, 1) := by decide +kernel
theorem dX1_save_23 : decode cX1_save 23 = .ok (.dup, 1) := by decide +kernel
theorem dX1_save_24 : decode cX1_save 24 = .ok (.getfield 22, 3) := by decide +kernel
theorem dX1_save_27 : decode cX1_save 27 = .ok (.iconst 1, 1) := by decide +kernel
theorem dX1_save_28 : decode cX1_save 28 = .ok (.isub, 1) := by decide +kernel
theorem dX1_save_29 : decode cX1_save 29 = .ok (.putfield 22, 3) := by decide +kernel
theorem dX1_save_32 : decode cX1_save 32 = .ok (.aload_n 0, 1) := by decide +kernel
theorem dX1_save_33 : decode cX1_save 33 = .ok (.aload_n 0, 1) := by decide +kernel
theorem dX1_save_34 : decode cX1_save 34 = .ok (.getfield 22, 3) := by decide +kernel
theorem dX1_save_37 : decode cX1_save 37 = .ok (.invokevirtual 25, 3) := by decide +kernel
theorem dX1_save_40 : decode cX1_save 40 = .ok (.astore_n 2, 1) := by decide +kernel
theorem dX1_save_41 : decode cX1_save 41 = .ok (.aload_n 2, 1) := by decide +kernel
theorem dX1_save_42 : decode cX1_save 42 = .ok (.ifnull 18, 3) := by decide +kernel
theorem dX1_save_45 : decode cX1_save 45 = .ok (.aload_n 2, 1) := by decide +kernel
theorem dX1_save_46 : decode cX1_save 46 = .ok (.aload_n 1, 1) := by decide +kernel
theorem dX1_save_47 : decode cX1_save 47 = .ok (.invokevirtual 29, 3) := by decide +kernel
theorem dX1_save_50 : decode cX1_save 50 = .ok (.aload_n 0, 1) := by decide +kernel
theorem dX1_save_51 : decode cX1_save 51 = .ok (.dup, 1) := by decide +kernel
theorem dX1_save_52 : decode cX1_save 52 = .ok (.getfield 22, 3) := by decide +kernel
theorem dX1_save_55 : decode cX1_save 55 = .ok (.iconst 1, 1) := by decide +kernel
theorem dX1_save_56 : decode cX1_save 56 = .ok (.iadd, 1) := by decide +kernel
theorem dX1_save_57 : decode cX1_save 57 = .ok (.putfield 22, 3) := by decide +kernel
theorem dX1_save_60 : decode cX1_save 60 = .ok (.return_, 1) := by decide +kernel
theorem dX2_init_0 : decode cX2_init 0 = .ok (.aload_n 0, 1) := by decide +kernel
theorem dX2_init_1 : decode cX2_init 1 = .ok (.invokespecial 3, 3) := by decide +kernel
theorem dX2_init_4 : decode cX2_init 4 = .ok (.aload_n 0, 1) := by decide +kernel
theorem dX2_init_5 : decode cX2_init 5 = .ok (.bipush 60, 2) := by decide +kernel
theorem dX2_init_7 : decode cX2_init 7 = .ok (.newarray .int, 2) := by decide +kernel
theorem dX2_init_9 : decode cX2_init 9 = .ok (.putfield 9, 3) := by decide +kernel
theorem dX2_init_12 : decode cX2_init 12 = .ok (.aload_n 0, 1) := by decide +kernel
theorem dX2_init_13 : decode cX2_init 13 = .ok (.iconst 0, 1) := by decide +kernel
theorem dX2_init_14 : decode cX2_init 14 = .ok (.putfield 15, 3) := by decide +kernel
theorem dX2_init_17 : decode cX2_init 17 = .ok (.return_, 1) := by decide +kernel
theorem dX2_empty_0 : decode cX2_empty 0 = .ok (.aload_n 0, 1) := by decide +kernel
theorem dX2_empty_1 : decode cX2_empty 1 = .ok (.iconst 0, 1) := by decide +kernel
theorem dX2_empty_2 : decode cX2_empty 2 = .ok (.putfield 15, 3) := by decide +kernel
theorem dX2_empty_5 : decode cX2_empty 5 = .ok (.return_, 1) := by decide +kernel
theorem dX2_errorIndex_0 : decode cX2_errorIndex 0 = .ok (.iconst 0, 1) := by decide +kernel
theorem dX2_errorIndex_1 : decode cX2_errorIndex 1 = .ok (.istore_n 2, 1) := by decide +kernel
theorem dX2_errorIndex_2 : decode cX2_errorIndex 2 = .ok (.iconst 0, 1) := by decide +kernel
theorem dX2_errorIndex_3 : decode cX2_errorIndex 3 = .ok (.istore_n 3, 1) := by decide +kernel
theorem dX2_errorIndex_4 : decode cX2_errorIndex 4 = .ok (.iload_n 3, 1) := by decide +kernel
theorem dX2_errorIndex_5 : decode cX2_errorIndex 5 = .ok (.aload_n 0, 1) := by decide +kernel
theorem dX2_errorIndex_6 : decode cX2_errorIndex 6 = .ok (.getfield 15, 3) := by decide +kernel
theorem dX2_errorIndex_9 : decode cX2_errorIndex 9 = .ok (.if_icmp .ge 31, 3) := by decide +kernel
theorem dX2_errorIndex_12 : decode cX2_errorIndex 12 = .ok (.iload_n 2, 1) := by decide +kernel
theorem dX2_errorIndex_13 : decode cX2_errorIndex 13 = .ok (.aload_n 0, 1) := by decide +kernel
theorem dX2_errorIndex_14 : decode cX2_errorIndex 14 = .ok (.getfield 9, 3) := by decide +kernel
theorem dX2_errorIndex_17 : decode cX2_errorIndex 17 = .ok (.iload_n 3, 1) := by decide +kernel
theorem dX2_errorIndex_18 : decode cX2_errorIndex 18 = .ok (.invokestatic 19, 3) := by decide +kernel
theorem dX2_errorIndex_21 : decode cX2_errorIndex 21 = .ok (.iload_n 1, 1) := by decide +kernel
theorem dX2_errorIndex_22 : decode cX2_errorIndex 22 = .ok (.invokestatic 23, 3) := by decide +kernel
theorem dX2_errorIndex_25 : decode cX2_errorIndex 25 = .ok (.istore_n 2, 1) := by decide +kernel
theorem dX2_errorIndex_26 : decode cX2_errorIndex 26 = .ok (.iload_n 2, 1) := by decide +kernel
theorem dX2_errorIndex_27 : decode cX2_errorIndex 27 = .ok (.bipush 6, 2) := by decide +kernel
theorem dX2_errorIndex_29 : decode cX2_errorIndex 29 = .ok (.if_icmp .ne 5, 3) := by decide +kernel
theorem dX2_errorIndex_32 : decode cX2_errorIndex 32 = .ok (.iload_n 3, 1) := by decide +kernel
theorem dX2_errorIndex_33 : decode cX2_errorIndex 33 = .ok (.ireturn, 1) := by decide +kernel
theorem dX2_errorIndex_34 : decode cX2_errorIndex 34 = .ok (.iinc 3 1, 3) := by decide +kernel
theorem dX2_errorIndex_37 : decode cX2_errorIndex 37 = .ok (.goto (-33), 3) := by decide +kernel
theorem dX2_errorIndex_40 : decode cX2_errorIndex 40 = .ok (.aload_n 0, 1) := by decide +kernel
theorem dX2_errorIndex_41 : decode cX2_errorIndex 41 = .ok (.getfield 15, 3) := by decide +kernel
theorem dX2_errorIndex_44 : decode cX2_errorIndex 44 = .ok (.ireturn, 1) := by decide +kernel
theorem dX2_isComplete_0 : decode cX2_isComplete 0 = .ok (.aload_n 0, 1) := by decide +kernel
theorem dX2_isComplete_1 : decode cX2_isComplete 1 = .ok (.getfield 15, 3) := by decide +kernel
theorem dX2_isComplete_4 : decode cX2_isComplete 4 = .ok (.ifCond .le 38, 3) := by decide +kernel
theorem dX2_isComplete_7 : decode cX2_isComplete 7 = .ok (.aload_n 0, 1) := by decide +kernel
theorem dX2_isComplete_8 : decode cX2_isComplete 8 = .ok (.iload_n 1, 1) := by decide +kernel
theorem dX2_isComplete_9 : decode cX2_isComplete 9 = .ok (.invokevirtual 27, 3) := by decide +kernel
theorem dX2_isComplete_12 : decode cX2_isComplete 12 = .ok (.aload_n 0, 1) := by decide +kernel
theorem dX2_isComplete_13 : decode cX2_isComplete 13 = .ok (.getfield 15, 3) := by decide +kernel
theorem dX2_isComplete_16 : decode cX2_isComplete 16 = .ok (.if_icmp .ne 26, 3) := by decide +kernel
theorem dX2_isComplete_19 : decode cX2_isComplete 19 = .ok (.aload_n 0, 1) := by decide +kernel
theorem dX2_isComplete_20 : decode cX2_isComplete 20 = .ok (.getfield 9, 3) := by decide +kernel
theorem dX2_isComplete_23 : decode cX2_isComplete 23 = .ok (.aload_n 0, 1) := by decide +kernel
theorem dX2_isComplete_24 : decode cX2_isComplete 24 = .ok (.getfield 15, 3) := by decide +kernel
theorem dX2_isComplete_27 : decode cX2_isComplete 27 = .ok (.iconst 1, 1) := by decide +kernel
theorem dX2_isComplete_28 : decode cX2_isComplete 28 = .ok (.isub, 1) := by decide +kernel
theorem dX2_isComplete_29 : decode cX2_isComplete 29 = .ok (.invokestatic 19, 3) := by decide +kernel
theorem dX2_isComplete_32 : decode cX2_isComplete 32 = .ok (.invokestatic 31, 3) := by decide +kernel
theorem dX2_isComplete_35 : decode cX2_isComplete 35 = .ok (.ifCond .eq 7, 3) := by decide +kernel
theorem dX2_isComplete_38 : decode cX2_isComplete 38 = .ok (.iconst 1, 1) := by decide +kernel
theorem dX2_isComplete_39 : decode cX2_isComplete 39 = .ok (.goto 4, 3) := by decide +kernel
theorem dX2_isComplete_42 : decode cX2_isComplete 42 = .ok (.iconst 0, 1) := by decide +kernel
theorem dX2_isComplete_43 : decode cX2_isComplete 43 = .ok (.ireturn, 1) := by decide +kernel
theorem dX2_stateBehind_0 : decode cX2_stateBehind 0 = .ok (.iload_n 0, 1) := by decide +kernel
theorem dX2_stateBehind_1 : decode cX2_stateBehind 1 = .ok (.tableswitch 113 0 5 #[39, 44, 63, 77, 93, 108], 39) := by decide +kernel
theorem dX2_stateBehind_40 : decode cX2_stateBehind 40 = .ok (.iload_n 1, 1) := by decide +kernel
theorem dX2_stateBehind_41 : decode cX2_stateBehind 41 = .ok (.invokestatic 35, 3) := by decide +kernel
theorem dX2_stateBehind_44 : decode cX2_stateBehind 44 = .ok (.ireturn, 1) := by decide +kernel
theorem dX2_stateBehind_45 : decode cX2_stateBehind 45 = .ok (.iload_n 2, 1) := by decide +kernel
theorem dX2_stateBehind_46 : decode cX2_stateBehind 46 = .ok (.ifCond .eq 13, 3) := by decide +kernel
theorem dX2_stateBehind_49 : decode cX2_stateBehind 49 = .ok (.iload_n 1, 1) := by decide +kernel
theorem dX2_stateBehind_50 : decode cX2_stateBehind 50 = .ok (.bipush 47, 2) := by decide +kernel
theorem dX2_stateBehind_52 : decode cX2_stateBehind 52 = .ok (.if_icmp .ne 7, 3) := by decide +kernel
theorem dX2_stateBehind_55 : decode cX2_stateBehind 55 = .ok (.iconst 0, 1) := by decide +kernel
theorem dX2_stateBehind_56 : decode cX2_stateBehind 56 = .ok (.goto 7, 3) := by decide +kernel
theorem dX2_stateBehind_59 : decode cX2_stateBehind 59 = .ok (.iload_n 1, 1) := by decide +kernel
theorem dX2_stateBehind_60 : decode cX2_stateBehind 60 = .ok (.invokestatic 35, 3) := by decide +kernel
theorem dX2_stateBehind_63 : decode cX2_stateBehind 63 = .ok (.ireturn, 1) := by decide +kernel
theorem dX2_stateBehind_64 : decode cX2_stateBehind 64 = .ok (.iload_n 1, 1) := by decide +kernel
theorem dX2_stateBehind_65 : decode cX2_stateBehind 65 = .ok (.invokestatic 39, 3) := by decide +kernel
theorem dX2_stateBehind_68 : decode cX2_stateBehind 68 = .ok (.ifCond .eq 7, 3) := by decide +kernel
theorem dX2_stateBehind_71 : decode cX2_stateBehind 71 = .ok (.iconst 5, 1) := by decide +kernel
theorem dX2_stateBehind_72 : decode cX2_stateBehind 72 = .ok (.goto 5, 3) := by decide +kernel
theorem dX2_stateBehind_75 : decode cX2_stateBehind 75 = .ok (.bipush 6, 2) := by decide +kernel
theorem dX2_stateBehind_77 : decode cX2_stateBehind 77 = .ok (.ireturn, 1) := by decide +kernel
theorem dX2_stateBehind_78 : decode cX2_stateBehind 78 = .ok (.iload_n 1, 1) := by decide +kernel
theorem dX2_stateBehind_79 : decode cX2_stateBehind 79 = .ok (.invokestatic 39, 3) := by decide +kernel
theorem dX2_stateBehind_82 : decode cX2_stateBehind 82 = .ok (.ifCond .eq 7, 3) := by decide +kernel
theorem dX2_stateBehind_85 : decode cX2_stateBehind 85 = .ok (.iconst 5, 1) := by decide +kernel
theorem dX2_stateBehind_86 : decode cX2_stateBehind 86 = .ok (.goto 7, 3) := by decide +kernel
theorem dX2_stateBehind_89 : decode cX2_stateBehind 89 = .ok (.iload_n 1, 1) := by decide +kernel
theorem dX2_stateBehind_90 : decode cX2_stateBehind 90 = .ok (.invokestatic 42, 3) := by decide +kernel
theorem dX2_stateBehind_93 : decode cX2_stateBehind 93 = .ok (.ireturn, 1) := by decide +kernel
theorem dX2_stateBehind_94 : decode cX2_stateBehind 94 = .ok (.iload_n 1, 1) := by decide +kernel
theorem dX2_stateBehind_95 : decode cX2_stateBehind 95 = .ok (.bipush 48, 2) := by decide +kernel
theorem dX2_stateBehind_97 : decode cX2_stateBehind 97 = .ok (.if_icmp .ne 7, 3) := by decide +kernel
theorem dX2_stateBehind_100 : decode cX2_stateBehind 100 = .ok (.iconst 5, 1) := by decide +kernel
theorem dX2_stateBehind_101 : decode cX2_stateBehind 101 = .ok (.goto 7, 3) := by decide +kernel
theorem dX2_stateBehind_104 : decode cX2_stateBehind 104 = .ok (.iload_n 1, 1) := by decide +kernel
theorem dX2_stateBehind_105 : decode cX2_stateBehind 105 = .ok (.invokestatic 42, 3) := by decide +kernel
theorem dX2_stateBehind_108 : decode cX2_stateBehind 108 = .ok (.ireturn, 1) := by decide +kernel
theorem dX2_stateBehind_109 : decode cX2_stateBehind 109 = .ok (.iload_n 1, 1) := by decide +kernel
theorem dX2_stateBehind_110 : decode cX2_stateBehind 110 = .ok (.invokestatic 42, 3) := by decide +kernel
theorem dX2_stateBehind_113 : decode cX2_stateBehind 113 = .ok (.ireturn, 1) := by decide +kernel
theorem dX2_stateBehind_114 : decode cX2_stateBehind 114 = .ok (.bipush 6, 2) := by decide +kernel
theorem dX2_stateBehind_116 : decode cX2_stateBehind 116 = .ok (.ireturn, 1) := by decide +kernel
theorem dX2_stateInPart_0 : decode cX2_stateInPart 0 = .ok (.iload_n 0, 1) := by decide +kernel
theorem dX2_stateInPart_1 : decode cX2_stateInPart 1 = .ok (.invokestatic 39, 3) := by decide +kernel
theorem dX2_stateInPart_4 : decode cX2_stateInPart 4 = .ok (.ifCond .ne 8, 3) := by decide +kernel
theorem dX2_stateInPart_7 : decode cX2_stateInPart 7 = .ok (.iload_n 0, 1) := by decide +kernel
theorem dX2_stateInPart_8 : decode cX2_stateInPart 8 = .ok (.invokestatic 42, 3) := by decide +kernel
theorem dX2_stateInPart_11 : decode cX2_stateInPart 11 = .ok (.ireturn, 1) := by decide +kernel
theorem dX2_stateInPart_12 : decode cX2_stateInPart 12 = .ok (.iload_n 0, 1) := by decide +kernel
theorem dX2_stateInPart_13 : decode cX2_stateInPart 13 = .ok (.lookupswitch 42 #[(48, 35), (49, 38), (54, 40)], 35) := by decide +kernel
theorem dX2_stateInPart_48 : decode cX2_stateInPart 48 = .ok (.bipush 6, 2) := by decide +kernel
theorem dX2_stateInPart_50 : decode cX2_stateInPart 50 = .ok (.ireturn, 1) := by decide +kernel
theorem dX2_stateInPart_51 : decode cX2_stateInPart 51 = .ok (.iconst 2, 1) := by decide +kernel
theorem dX2_stateInPart_52 : decode cX2_stateInPart 52 = .ok (.ireturn, 1) := by decide +kernel
theorem dX2_stateInPart_53 : decode cX2_stateInPart 53 = .ok (.iconst 4, 1) := by decide +kernel
theorem dX2_stateInPart_54 : decode cX2_stateInPart 54 = .ok (.ireturn, 1) := by decide +kernel
theorem dX2_stateInPart_55 : decode cX2_stateInPart 55 = .ok (.iload_n 0, 1) := by decide +kernel
theorem dX2_stateInPart_56 : decode cX2_stateInPart 56 = .ok (.bipush 54, 2) := by decide +kernel
theorem dX2_stateInPart_58 : decode cX2_stateInPart 58 = .ok (.if_icmp .ge 7, 3) := by decide +kernel
theorem dX2_stateInPart_61 : decode cX2_stateInPart 61 = .ok (.iconst 3, 1) := by decide +kernel
theorem dX2_stateInPart_62 : decode cX2_stateInPart 62 = .ok (.goto 4, 3) := by decide +kernel
theorem dX2_stateInPart_65 : decode cX2_stateInPart 65 = .ok (.iconst 5, 1) := by decide +kernel
theorem dX2_stateInPart_66 : decode cX2_stateInPart 66 = .ok (.ireturn, 1) := by decide +kernel
theorem dX2_stateBehindNumber_0 : decode cX2_stateBehindNumber 0 = .ok (.iload_n 0, 1) := by decide +kernel
theorem dX2_stateBehindNumber_1 : decode cX2_stateBehindNumber 1 = .ok (.invokestatic 31, 3) := by decide +kernel
theorem dX2_stateBehindNumber_4 : decode cX2_stateBehindNumber 4 = .ok (.ifCond .eq 7, 3) := by decide +kernel
theorem dX2_stateBehindNumber_7 : decode cX2_stateBehindNumber 7 = .ok (.iconst 1, 1) := by decide +kernel
theorem dX2_stateBehindNumber_8 : decode cX2_stateBehindNumber 8 = .ok (.goto 5, 3) := by decide +kernel
theorem dX2_stateBehindNumber_11 : decode cX2_stateBehindNumber 11 = .ok (.bipush 6, 2) := by decide +kernel
theorem dX2_stateBehindNumber_13 : decode cX2_stateBehindNumber 13 = .ok (.ireturn, 1) := by decide +kernel
theorem dX2_isLetter_0 : decode cX2_isLetter 0 = .ok (.iload_n 0, 1) := by decide +kernel
theorem dX2_isLetter_1 : decode cX2_isLetter 1 = .ok (.bipush 97, 2) := by decide +kernel
theorem dX2_isLetter_3 : decode cX2_isLetter 3 = .ok (.if_icmp .lt 13, 3) := by decide +kernel
theorem dX2_isLetter_6 : decode cX2_isLetter 6 = .ok (.iload_n 0, 1) := by decide +kernel
theorem dX2_isLetter_7 : decode cX2_isLetter 7 = .ok (.bipush 102, 2) := by decide +kernel
theorem dX2_isLetter_9 : decode cX2_isLetter 9 = .ok (.if_icmp .gt 7, 3) := by decide +kernel
theorem dX2_isLetter_12 : decode cX2_isLetter 12 = .ok (.iconst 1, 1) := by decide +kernel
theorem dX2_isLetter_13 : decode cX2_isLetter 13 = .ok (.goto 4, 3) := by decide +kernel
theorem dX2_isLetter_16 : decode cX2_isLetter 16 = .ok (.iconst 0, 1) := by decide +kernel
theorem dX2_isLetter_17 : decode cX2_isLetter 17 = .ok (.ireturn, 1) := by decide +kernel
theorem dX2_isDigit_0 : decode cX2_isDigit 0 = .ok (.iload_n 0, 1) := by decide +kernel
theorem dX2_isDigit_1 : decode cX2_isDigit 1 = .ok (.bipush 48, 2) := by decide +kernel
theorem dX2_isDigit_3 : decode cX2_isDigit 3 = .ok (.if_icmp .lt 13, 3) := by decide +kernel
theorem dX2_isDigit_6 : decode cX2_isDigit 6 = .ok (.iload_n 0, 1) := by decide +kernel
theorem dX2_isDigit_7 : decode cX2_isDigit 7 = .ok (.bipush 57, 2) := by decide +kernel
theorem dX2_isDigit_9 : decode cX2_isDigit 9 = .ok (.if_icmp .gt 7, 3) := by decide +kernel
theorem dX2_isDigit_12 : decode cX2_isDigit 12 = .ok (.iconst 1, 1) := by decide +kernel
theorem dX2_isDigit_13 : decode cX2_isDigit 13 = .ok (.goto 4, 3) := by decide +kernel
theorem dX2_isDigit_16 : decode cX2_isDigit 16 = .ok (.iconst 0, 1) := by decide +kernel
theorem dX2_isDigit_17 : decode cX2_isDigit 17 = .ok (.ireturn, 1) := by decide +kernel
theorem dX2_readBeads_0 : decode cX2_readBeads 0 = .ok (.iconst 0, 1) := by decide +kernel
theorem dX2_readBeads_1 : decode cX2_readBeads 1 = .ok (.istore 4, 2) := by decide +kernel
theorem dX2_readBeads_3 : decode cX2_readBeads 3 = .ok (.iconst 0, 1) := by decide +kernel
theorem dX2_readBeads_4 : decode cX2_readBeads 4 = .ok (.istore 5, 2) := by decide +kernel
theorem dX2_readBeads_6 : decode cX2_readBeads 6 = .ok (.iload_n 2, 1) := by decide +kernel
theorem dX2_readBeads_7 : decode cX2_readBeads 7 = .ok (.istore 6, 2) := by decide +kernel
theorem dX2_readBeads_9 : decode cX2_readBeads 9 = .ok (.iload 6, 2) := by decide +kernel
theorem dX2_readBeads_11 : decode cX2_readBeads 11 = .ok (.iload_n 3, 1) := by decide +kernel
theorem dX2_readBeads_12 : decode cX2_readBeads 12 = .ok (.if_icmp .ge 90, 3) := by decide +kernel
theorem dX2_readBeads_15 : decode cX2_readBeads 15 = .ok (.aload_n 0, 1) := by decide +kernel
theorem dX2_readBeads_16 : decode cX2_readBeads 16 = .ok (.getfield 9, 3) := by decide +kernel
theorem dX2_readBeads_19 : decode cX2_readBeads 19 = .ok (.iload 6, 2) := by decide +kernel
theorem dX2_readBeads_21 : decode cX2_readBeads 21 = .ok (.invokestatic 19, 3) := by decide +kernel
theorem dX2_readBeads_24 : decode cX2_readBeads 24 = .ok (.istore 7, 2) := by decide +kernel
theorem dX2_readBeads_26 : decode cX2_readBeads 26 = .ok (.iload 7, 2) := by decide +kernel
theorem dX2_readBeads_28 : decode cX2_readBeads 28 = .ok (.invokestatic 39, 3) := by decide +kernel
theorem dX2_readBeads_31 : decode cX2_readBeads 31 = .ok (.ifCond .eq 19, 3) := by decide +kernel
theorem dX2_readBeads_34 : decode cX2_readBeads 34 = .ok (.bipush 10, 2) := by decide +kernel
theorem dX2_readBeads_36 : decode cX2_readBeads 36 = .ok (.iload 5, 2) := by decide +kernel
theorem dX2_readBeads_38 : decode cX2_readBeads 38 = .ok (.imul, 1) := by decide +kernel
theorem dX2_readBeads_39 : decode cX2_readBeads 39 = .ok (.iload 7, 2) := by decide +kernel
theorem dX2_readBeads_41 : decode cX2_readBeads 41 = .ok (.iadd, 1) := by decide +kernel
theorem dX2_readBeads_42 : decode cX2_readBeads 42 = .ok (.bipush 48, 2) := by decide +kernel
theorem dX2_readBeads_44 : decode cX2_readBeads 44 = .ok (.isub, 1) := by decide +kernel
theorem dX2_readBeads_45 : decode cX2_readBeads 45 = .ok (.istore 5, 2) := by decide +kernel
theorem dX2_readBeads_47 : decode cX2_readBeads 47 = .ok (.goto 49, 3) := by decide +kernel
theorem dX2_readBeads_50 : decode cX2_readBeads 50 = .ok (.iload 4, 2) := by decide +kernel
theorem dX2_readBeads_52 : decode cX2_readBeads 52 = .ok (.iconst 1, 1) := by decide +kernel
theorem dX2_readBeads_53 : decode cX2_readBeads 53 = .ok (.iload 5, 2) := by decide +kernel
theorem dX2_readBeads_55 : decode cX2_readBeads 55 = .ok (.invokestatic 49, 3) := by decide +kernel
theorem dX2_readBeads_58 : decode cX2_readBeads 58 = .ok (.iadd, 1) := by decide +kernel
theorem dX2_readBeads_59 : decode cX2_readBeads 59 = .ok (.istore 8, 2) := by decide +kernel
theorem dX2_readBeads_61 : decode cX2_readBeads 61 = .ok (.iload 4, 2) := by decide +kernel
theorem dX2_readBeads_63 : decode cX2_readBeads 63 = .ok (.istore 9, 2) := by decide +kernel
theorem dX2_readBeads_65 : decode cX2_readBeads 65 = .ok (.iload 9, 2) := by decide +kernel
theorem dX2_readBeads_67 : decode cX2_readBeads 67 = .ok (.iload 8, 2) := by decide +kernel
theorem dX2_readBeads_69 : decode cX2_readBeads 69 = .ok (.if_icmp .ge 20, 3) := by decide +kernel
theorem dX2_readBeads_72 : decode cX2_readBeads 72 = .ok (.aload_n 1, 1) := by decide +kernel
theorem dX2_readBeads_73 : decode cX2_readBeads 73 = .ok (.iload 9, 2) := by decide +kernel
theorem dX2_readBeads_75 : decode cX2_readBeads 75 = .ok (.iload 7, 2) := by decide +kernel
theorem dX2_readBeads_77 : decode cX2_readBeads 77 = .ok (.bipush 97, 2) := by decide +kernel
theorem dX2_readBeads_79 : decode cX2_readBeads 79 = .ok (.isub, 1) := by decide +kernel
theorem dX2_readBeads_80 : decode cX2_readBeads 80 = .ok (.invokestatic 55, 3) := by decide +kernel
theorem dX2_readBeads_83 : decode cX2_readBeads 83 = .ok (.iinc 9 1, 3) := by decide +kernel
theorem dX2_readBeads_86 : decode cX2_readBeads 86 = .ok (.goto (-21), 3) := by decide +kernel
theorem dX2_readBeads_89 : decode cX2_readBeads 89 = .ok (.iload 8, 2) := by decide +kernel
theorem dX2_readBeads_91 : decode cX2_readBeads 91 = .ok (.istore 4, 2) := by decide +kernel
theorem dX2_readBeads_93 : decode cX2_readBeads 93 = .ok (.iconst 0, 1) := by decide +kernel
theorem dX2_readBeads_94 : decode cX2_readBeads 94 = .ok (.istore 5, 2) := by decide +kernel
theorem dX2_readBeads_96 : decode cX2_readBeads 96 = .ok (.iinc 6 1, 3) := by decide +kernel
theorem dX2_readBeads_99 : decode cX2_readBeads 99 = .ok (.goto (-90), 3) := by decide +kernel
theorem dX2_readBeads_102 : decode cX2_readBeads 102 = .ok (.iload 4, 2) := by decide +kernel
theorem dX2_readBeads_104 : decode cX2_readBeads 104 = .ok (.ireturn, 1) := by decide +kernel
theorem dX2_readChart_0 : decode cX2_readChart 0 = .ok (.aload_n 1, 1) := by decide +kernel
theorem dX2_readChart_1 : decode cX2_readChart 1 = .ok (.ifnonnull 5, 3) := by decide +kernel
theorem dX2_readChart_4 : decode cX2_readChart 4 = .ok (.iconst 0, 1) := by decide +kernel
theorem dX2_readChart_5 : decode cX2_readChart 5 = .ok (.ireturn, 1) := by decide +kernel
theorem dX2_readChart_6 : decode cX2_readChart 6 = .ok (.iconst 0, 1) := by decide +kernel
theorem dX2_readChart_7 : decode cX2_readChart 7 = .ok (.istore_n 3, 1) := by decide +kernel
theorem dX2_readChart_8 : decode cX2_readChart 8 = .ok (.iconst 0, 1) := by decide +kernel
theorem dX2_readChart_9 : decode cX2_readChart 9 = .ok (.istore 4, 2) := by decide +kernel
theorem dX2_readChart_11 : decode cX2_readChart 11 = .ok (.iconst 0, 1) := by decide +kernel
theorem dX2_readChart_12 : decode cX2_readChart 12 = .ok (.istore 5, 2) := by decide +kernel
theorem dX2_readChart_14 : decode cX2_readChart 14 = .ok (.iconst 0, 1) := by decide +kernel
theorem dX2_readChart_15 : decode cX2_readChart 15 = .ok (.istore 6, 2) := by decide +kernel
theorem dX2_readChart_17 : decode cX2_readChart 17 = .ok (.iload 6, 2) := by decide +kernel
theorem dX2_readChart_19 : decode cX2_readChart 19 = .ok (.aload_n 0, 1) := by decide +kernel
theorem dX2_readChart_20 : decode cX2_readChart 20 = .ok (.getfield 15, 3) := by decide +kernel
theorem dX2_readChart_23 : decode cX2_readChart 23 = .ok (.if_icmp .gt 111, 3) := by decide +kernel
theorem dX2_readChart_26 : decode cX2_readChart 26 = .ok (.iload 6, 2) := by decide +kernel
theorem dX2_readChart_28 : decode cX2_readChart 28 = .ok (.aload_n 0, 1) := by decide +kernel
theorem dX2_readChart_29 : decode cX2_readChart 29 = .ok (.getfield 15, 3) := by decide +kernel
theorem dX2_readChart_32 : decode cX2_readChart 32 = .ok (.if_icmp .eq 17, 3) := by decide +kernel
theorem dX2_readChart_35 : decode cX2_readChart 35 = .ok (.aload_n 0, 1) := by decide +kernel
theorem dX2_readChart_36 : decode cX2_readChart 36 = .ok (.getfield 9, 3) := by decide +kernel
theorem dX2_readChart_39 : decode cX2_readChart 39 = .ok (.iload 6, 2) := by decide +kernel
theorem dX2_readChart_41 : decode cX2_readChart 41 = .ok (.invokestatic 19, 3) := by decide +kernel
theorem dX2_readChart_44 : decode cX2_readChart 44 = .ok (.bipush 47, 2) := by decide +kernel
theorem dX2_readChart_46 : decode cX2_readChart 46 = .ok (.if_icmp .ne 82, 3) := by decide +kernel
theorem dX2_readChart_49 : decode cX2_readChart 49 = .ok (.aload_n 0, 1) := by decide +kernel
theorem dX2_readChart_50 : decode cX2_readChart 50 = .ok (.aload_n 2, 1) := by decide +kernel
theorem dX2_readChart_51 : decode cX2_readChart 51 = .ok (.iload 5, 2) := by decide +kernel
theorem dX2_readChart_53 : decode cX2_readChart 53 = .ok (.iload 6, 2) := by decide +kernel
theorem dX2_readChart_55 : decode cX2_readChart 55 = .ok (.invokevirtual 45, 3) := by decide +kernel
theorem dX2_readChart_58 : decode cX2_readChart 58 = .ok (.istore 7, 2) := by decide +kernel
theorem dX2_readChart_60 : decode cX2_readChart 60 = .ok (.iload_n 3, 1) := by decide +kernel
theorem dX2_readChart_61 : decode cX2_readChart 61 = .ok (.bipush 10, 2) := by decide +kernel
theorem dX2_readChart_63 : decode cX2_readChart 63 = .ok (.if_icmp .ge 21, 3) := by decide +kernel
theorem dX2_readChart_66 : decode cX2_readChart 66 = .ok (.iload 7, 2) := by decide +kernel
theorem dX2_readChart_68 : decode cX2_readChart 68 = .ok (.bipush 12, 2) := by decide +kernel
theorem dX2_readChart_70 : decode cX2_readChart 70 = .ok (.if_icmp .gt 14, 3) := by decide +kernel
theorem dX2_readChart_73 : decode cX2_readChart 73 = .ok (.iload_n 3, 1) := by decide +kernel
theorem dX2_readChart_74 : decode cX2_readChart 74 = .ok (.ifCond .le 12, 3) := by decide +kernel
theorem dX2_readChart_77 : decode cX2_readChart 77 = .ok (.iload 7, 2) := by decide +kernel
theorem dX2_readChart_79 : decode cX2_readChart 79 = .ok (.iload 4, 2) := by decide +kernel
theorem dX2_readChart_81 : decode cX2_readChart 81 = .ok (.if_icmp .eq 5, 3) := by decide +kernel
theorem dX2_readChart_84 : decode cX2_readChart 84 = .ok (.iconst 0, 1) := by decide +kernel
theorem dX2_readChart_85 : decode cX2_readChart 85 = .ok (.ireturn, 1) := by decide +kernel
theorem dX2_readChart_86 : decode cX2_readChart 86 = .ok (.iconst 0, 1) := by decide +kernel
theorem dX2_readChart_87 : decode cX2_readChart 87 = .ok (.istore 8, 2) := by decide +kernel
theorem dX2_readChart_89 : decode cX2_readChart 89 = .ok (.iload 8, 2) := by decide +kernel
theorem dX2_readChart_91 : decode cX2_readChart 91 = .ok (.iload 7, 2) := by decide +kernel
theorem dX2_readChart_93 : decode cX2_readChart 93 = .ok (.if_icmp .ge 22, 3) := by decide +kernel
theorem dX2_readChart_96 : decode cX2_readChart 96 = .ok (.aload_n 1, 1) := by decide +kernel
theorem dX2_readChart_97 : decode cX2_readChart 97 = .ok (.iload_n 3, 1) := by decide +kernel
theorem dX2_readChart_98 : decode cX2_readChart 98 = .ok (.iload 8, 2) := by decide +kernel
theorem dX2_readChart_100 : decode cX2_readChart 100 = .ok (.aload_n 2, 1) := by decide +kernel
theorem dX2_readChart_101 : decode cX2_readChart 101 = .ok (.iload 8, 2) := by decide +kernel
theorem dX2_readChart_103 : decode cX2_readChart 103 = .ok (.invokestatic 19, 3) := by decide +kernel
theorem dX2_readChart_106 : decode cX2_readChart 106 = .ok (.invokevirtual 59, 3) := by decide +kernel
theorem dX2_readChart_109 : decode cX2_readChart 109 = .ok (.iinc 8 1, 3) := by decide +kernel
theorem dX2_readChart_112 : decode cX2_readChart 112 = .ok (.goto (-23), 3) := by decide +kernel
theorem dX2_readChart_115 : decode cX2_readChart 115 = .ok (.iload 7, 2) := by decide +kernel
theorem dX2_readChart_117 : decode cX2_readChart 117 = .ok (.istore 4, 2) := by decide +kernel
theorem dX2_readChart_119 : decode cX2_readChart 119 = .ok (.iinc 3 1, 3) := by decide +kernel
theorem dX2_readChart_122 : decode cX2_readChart 122 = .ok (.iload 6, 2) := by decide +kernel
theorem dX2_readChart_124 : decode cX2_readChart 124 = .ok (.iconst 1, 1) := by decide +kernel
theorem dX2_readChart_125 : decode cX2_readChart 125 = .ok (.iadd, 1) := by decide +kernel
theorem dX2_readChart_126 : decode cX2_readChart 126 = .ok (.istore 5, 2) := by decide +kernel
theorem dX2_readChart_128 : decode cX2_readChart 128 = .ok (.iinc 6 1, 3) := by decide +kernel
theorem dX2_readChart_131 : decode cX2_readChart 131 = .ok (.goto (-114), 3) := by decide +kernel
theorem dX2_readChart_134 : decode cX2_readChart 134 = .ok (.aload_n 1, 1) := by decide +kernel
theorem dX2_readChart_135 : decode cX2_readChart 135 = .ok (.iload_n 3, 1) := by decide +kernel
theorem dX2_readChart_136 : decode cX2_readChart 136 = .ok (.putfield 65, 3) := by decide +kernel
theorem dX2_readChart_139 : decode cX2_readChart 139 = .ok (.aload_n 1, 1) := by decide +kernel
theorem dX2_readChart_140 : decode cX2_readChart 140 = .ok (.iload 4, 2) := by decide +kernel
theorem dX2_readChart_142 : decode cX2_readChart 142 = .ok (.putfield 68, 3) := by decide +kernel
theorem dX2_readChart_145 : decode cX2_readChart 145 = .ok (.iconst 1, 1) := by decide +kernel
theorem dX2_readChart_146 : decode cX2_readChart 146 = .ok (.ireturn, 1) := by decide +kernel
theorem dX3_init_0 : decode cX3_init 0 = .ok (.aload_n 0, 1) := by decide +kernel
theorem dX3_init_1 : decode cX3_init 1 = .ok (.invokespecial 3, 3) := by decide +kernel
theorem dX3_init_4 : decode cX3_init 4 = .ok (.aload_n 0, 1) := by decide +kernel
theorem dX3_init_5 : decode cX3_init 5 = .ok (.new 9, 3) := by decide +kernel
theorem dX3_init_8 : decode cX3_init 8 = .ok (.dup, 1) := by decide +kernel
theorem dX3_init_9 : decode cX3_init 9 = .ok (.invokespecial 11, 3) := by decide +kernel
theorem dX3_init_12 : decode cX3_init 12 = .ok (.putfield 12, 3) := by decide +kernel
theorem dX3_init_15 : decode cX3_init 15 = .ok (.aload_n 0, 1) := by decide +kernel
theorem dX3_init_16 : decode cX3_init 16 = .ok (.iconst 4, 1) := by decide +kernel
theorem dX3_init_17 : decode cX3_init 17 = .ok (.newarray .int, 2) := by decide +kernel
theorem dX3_init_19 : decode cX3_init 19 = .ok (.putfield 18, 3) := by decide +kernel
theorem dX3_init_22 : decode cX3_init 22 = .ok (.getstatic 22, 3) := by decide +kernel
theorem dX3_init_25 : decode cX3_init 25 = .ok (.aload_n 0, 1) := by decide +kernel
theorem dX3_init_26 : decode cX3_init 26 = .ok (.getfield 18, 3) := by decide +kernel
theorem dX3_init_29 : decode cX3_init 29 = .ok (.invokestatic 25, 3) := by decide +kernel
theorem dX3_init_32 : decode cX3_init 32 = .ok (.aload_n 0, 1) := by decide +kernel
theorem dX3_init_33 : decode cX3_init 33 = .ok (.bipush 6, 2) := by decide +kernel
theorem dX3_init_35 : decode cX3_init 35 = .ok (.newarray .int, 2) := by decide +kernel
theorem dX3_init_37 : decode cX3_init 37 = .ok (.putfield 29, 3) := by decide +kernel
theorem dX3_init_40 : decode cX3_init 40 = .ok (.aload_n 0, 1) := by decide +kernel
theorem dX3_init_41 : decode cX3_init 41 = .ok (.bipush 6, 2) := by decide +kernel
theorem dX3_init_43 : decode cX3_init 43 = .ok (.newarray .int, 2) := by decide +kernel
theorem dX3_init_45 : decode cX3_init 45 = .ok (.putfield 32, 3) := by decide +kernel
theorem dX3_init_48 : decode cX3_init 48 = .ok (.aload_n 0, 1) := by decide +kernel
theorem dX3_init_49 : decode cX3_init 49 = .ok (.bipush 6, 2) := by decide +kernel
theorem dX3_init_51 : decode cX3_init 51 = .ok (.newarray .int, 2) := by decide +kernel
theorem dX3_init_53 : decode cX3_init 53 = .ok (.putfield 35, 3) := by decide +kernel
theorem dX3_init_56 : decode cX3_init 56 = .ok (.aload_n 0, 1) := by decide +kernel
theorem dX3_init_57 : decode cX3_init 57 = .ok (.sipush 240, 3) := by decide +kernel
theorem dX3_init_60 : decode cX3_init 60 = .ok (.newarray .int, 2) := by decide +kernel
theorem dX3_init_62 : decode cX3_init 62 = .ok (.putfield 38, 3) := by decide +kernel
theorem dX3_init_65 : decode cX3_init 65 = .ok (.aload_n 0, 1) := by decide +kernel
theorem dX3_init_66 : decode cX3_init 66 = .ok (.bipush 48, 2) := by decide +kernel
theorem dX3_init_68 : decode cX3_init 68 = .ok (.newarray .int, 2) := by decide +kernel
theorem dX3_init_70 : decode cX3_init 70 = .ok (.putfield 41, 3) := by decide +kernel
theorem dX3_init_73 : decode cX3_init 73 = .ok (.aload_n 0, 1) := by decide +kernel
theorem dX3_init_74 : decode cX3_init 74 = .ok (.iconst 0, 1) := by decide +kernel
theorem dX3_init_75 : decode cX3_init 75 = .ok (.putfield 44, 3) := by decide +kernel
theorem dX3_init_78 : decode cX3_init 78 = .ok (.aload_n 0, 1) := by decide +kernel
theorem dX3_init_79 : decode cX3_init 79 = .ok (.iconst 1, 1) := by decide +kernel
theorem dX3_init_80 : decode cX3_init 80 = .ok (.putfield 48, 3) := by decide +kernel
theorem dX3_init_83 : decode cX3_init 83 = .ok (.aload_n 0, 1) := by decide +kernel
theorem dX3_init_84 : decode cX3_init 84 = .ok (.iconst 0, 1) := by decide +kernel
theorem dX3_init_85 : decode cX3_init 85 = .ok (.putfield 51, 3) := by decide +kernel
theorem dX3_init_88 : decode cX3_init 88 = .ok (.return_, 1) := by decide +kernel
theorem dX3_copyFrom_0 : decode cX3_copyFrom 0 = .ok (.aload_n 1, 1) := by decide +kernel
theorem dX3_copyFrom_1 : decode cX3_copyFrom 1 = .ok (.ifnonnull 4, 3) := by decide +kernel
theorem dX3_copyFrom_4 : decode cX3_copyFrom 4 = .ok (.return_, 1) := by decide +kernel
theorem dX3_copyFrom_5 : decode cX3_copyFrom 5 = .ok (.aload_n 0, 1) := by decide +kernel
theorem dX3_copyFrom_6 : decode cX3_copyFrom 6 = .ok (.getfield 12, 3) := by decide +kernel
theorem dX3_copyFrom_9 : decode cX3_copyFrom 9 = .ok (.aload_n 1, 1) := by decide +kernel
theorem dX3_copyFrom_10 : decode cX3_copyFrom 10 = .ok (.getfield 12, 3) := by decide +kernel
theorem dX3_copyFrom_13 : decode cX3_copyFrom 13 = .ok (.invokevirtual 54, 3) := by decide +kernel
theorem dX3_copyFrom_16 : decode cX3_copyFrom 16 = .ok (.aload_n 1, 1) := by decide +kernel
theorem dX3_copyFrom_17 : decode cX3_copyFrom 17 = .ok (.getfield 18, 3) := by decide +kernel
theorem dX3_copyFrom_20 : decode cX3_copyFrom 20 = .ok (.aload_n 0, 1) := by decide +kernel
theorem dX3_copyFrom_21 : decode cX3_copyFrom 21 = .ok (.getfield 18, 3) := by decide +kernel
theorem dX3_copyFrom_24 : decode cX3_copyFrom 24 = .ok (.invokestatic 25, 3) := by decide +kernel
theorem dX3_copyFrom_27 : decode cX3_copyFrom 27 = .ok (.aload_n 1, 1) := by decide +kernel
theorem dX3_copyFrom_28 : decode cX3_copyFrom 28 = .ok (.getfield 29, 3) := by decide +kernel
theorem dX3_copyFrom_31 : decode cX3_copyFrom 31 = .ok (.aload_n 0, 1) := by decide +kernel
theorem dX3_copyFrom_32 : decode cX3_copyFrom 32 = .ok (.getfield 29, 3) := by decide +kernel
theorem dX3_copyFrom_35 : decode cX3_copyFrom 35 = .ok (.invokestatic 25, 3) := by decide +kernel
theorem dX3_copyFrom_38 : decode cX3_copyFrom 38 = .ok (.aload_n 1, 1) := by decide +kernel
theorem dX3_copyFrom_39 : decode cX3_copyFrom 39 = .ok (.getfield 32, 3) := by decide +kernel
theorem dX3_copyFrom_42 : decode cX3_copyFrom 42 = .ok (.aload_n 0, 1) := by decide +kernel
theorem dX3_copyFrom_43 : decode cX3_copyFrom 43 = .ok (.getfield 32, 3) := by decide +kernel
theorem dX3_copyFrom_46 : decode cX3_copyFrom 46 = .ok (.invokestatic 25, 3) := by decide +kernel
theorem dX3_copyFrom_49 : decode cX3_copyFrom 49 = .ok (.aload_n 1, 1) := by decide +kernel
theorem dX3_copyFrom_50 : decode cX3_copyFrom 50 = .ok (.getfield 35, 3) := by decide +kernel
theorem dX3_copyFrom_53 : decode cX3_copyFrom 53 = .ok (.aload_n 0, 1) := by decide +kernel
theorem dX3_copyFrom_54 : decode cX3_copyFrom 54 = .ok (.getfield 35, 3) := by decide +kernel
theorem dX3_copyFrom_57 : decode cX3_copyFrom 57 = .ok (.invokestatic 25, 3) := by decide +kernel
theorem dX3_copyFrom_60 : decode cX3_copyFrom 60 = .ok (.aload_n 1, 1) := by decide +kernel
theorem dX3_copyFrom_61 : decode cX3_copyFrom 61 = .ok (.getfield 38, 3) := by decide +kernel
theorem dX3_copyFrom_64 : decode cX3_copyFrom 64 = .ok (.aload_n 0, 1) := by decide +kernel
theorem dX3_copyFrom_65 : decode cX3_copyFrom 65 = .ok (.getfield 38, 3) := by decide +kernel
theorem dX3_copyFrom_68 : decode cX3_copyFrom 68 = .ok (.invokestatic 25, 3) := by decide +kernel
theorem dX3_copyFrom_71 : decode cX3_copyFrom 71 = .ok (.aload_n 1, 1) := by decide +kernel
theorem dX3_copyFrom_72 : decode cX3_copyFrom 72 = .ok (.getfield 41, 3) := by decide +kernel
theorem dX3_copyFrom_75 : decode cX3_copyFrom 75 = .ok (.aload_n 0, 1) := by decide +kernel
theorem dX3_copyFrom_76 : decode cX3_copyFrom 76 = .ok (.getfield 41, 3) := by decide +kernel
theorem dX3_copyFrom_79 : decode cX3_copyFrom 79 = .ok (.invokestatic 25, 3) := by decide +kernel
theorem dX3_copyFrom_82 : decode cX3_copyFrom 82 = .ok (.aload_n 0, 1) := by decide +kernel
theorem dX3_copyFrom_83 : decode cX3_copyFrom 83 = .ok (.aload_n 1, 1) := by decide +kernel
theorem dX3_copyFrom_84 : decode cX3_copyFrom 84 = .ok (.getfield 44, 3) := by decide +kernel
theorem dX3_copyFrom_87 : decode cX3_copyFrom 87 = .ok (.putfield 44, 3) := by decide +kernel
theorem dX3_copyFrom_90 : decode cX3_copyFrom 90 = .ok (.aload_n 0, 1) := by decide +kernel
theorem dX3_copyFrom_91 : decode cX3_copyFrom 91 = .ok (.aload_n 1, 1) := by decide +kernel
theorem dX3_copyFrom_92 : decode cX3_copyFrom 92 = .ok (.getfield 48, 3) := by decide +kernel
theorem dX3_copyFrom_95 : decode cX3_copyFrom 95 = .ok (.putfield 48, 3) := by decide +kernel
theorem dX3_copyFrom_98 : decode cX3_copyFrom 98 = .ok (.aload_n 0, 1) := by decide +kernel
theorem dX3_copyFrom_99 : decode cX3_copyFrom 99 = .ok (.aload_n 1, 1) := by decide +kernel
theorem dX3_copyFrom_100 : decode cX3_copyFrom 100 = .ok (.getfield 51, 3) := by decide +kernel
theorem dX3_copyFrom_103 : decode cX3_copyFrom 103 = .ok (.putfield 51, 3) := by decide +kernel
theorem dX3_copyFrom_106 : decode cX3_copyFrom 106 = .ok (.return_, 1) := by decide +kernel
theorem dX3_patternColour_0 : decode cX3_patternColour 0 = .ok (.aload_n 0, 1) := by decide +kernel
theorem dX3_patternColour_1 : decode cX3_patternColour 1 = .ok (.getfield 12, 3) := by decide +kernel
theorem dX3_patternColour_4 : decode cX3_patternColour 4 = .ok (.iload_n 1, 1) := by decide +kernel
theorem dX3_patternColour_5 : decode cX3_patternColour 5 = .ok (.aload_n 0, 1) := by decide +kernel
theorem dX3_patternColour_6 : decode cX3_patternColour 6 = .ok (.getfield 18, 3) := by decide +kernel
theorem dX3_patternColour_9 : decode cX3_patternColour 9 = .ok (.iconst 0, 1) := by decide +kernel
theorem dX3_patternColour_10 : decode cX3_patternColour 10 = .ok (.invokestatic 58, 3) := by decide +kernel
theorem dX3_patternColour_13 : decode cX3_patternColour 13 = .ok (.aload_n 0, 1) := by decide +kernel
theorem dX3_patternColour_14 : decode cX3_patternColour 14 = .ok (.getfield 18, 3) := by decide +kernel
theorem dX3_patternColour_17 : decode cX3_patternColour 17 = .ok (.iconst 1, 1) := by decide +kernel
theorem dX3_patternColour_18 : decode cX3_patternColour 18 = .ok (.invokestatic 58, 3) := by decide +kernel
theorem dX3_patternColour_21 : decode cX3_patternColour 21 = .ok (.invokevirtual 62, 3) := by decide +kernel
theorem dX3_patternColour_24 : decode cX3_patternColour 24 = .ok (.istore_n 2, 1) := by decide +kernel
theorem dX3_patternColour_25 : decode cX3_patternColour 25 = .ok (.aload_n 0, 1) := by decide +kernel
theorem dX3_patternColour_26 : decode cX3_patternColour 26 = .ok (.getfield 12, 3) := by decide +kernel
theorem dX3_patternColour_29 : decode cX3_patternColour 29 = .ok (.getfield 66, 3) := by decide +kernel
theorem dX3_patternColour_32 : decode cX3_patternColour 32 = .ok (.iload_n 2, 1) := by decide +kernel
theorem dX3_patternColour_33 : decode cX3_patternColour 33 = .ok (.invokestatic 58, 3) := by decide +kernel
theorem dX3_patternColour_36 : decode cX3_patternColour 36 = .ok (.ireturn, 1) := by decide +kernel
theorem dX3_patternNumber_0 : decode cX3_patternNumber 0 = .ok (.aload_n 0, 1) := by decide +kernel
theorem dX3_patternNumber_1 : decode cX3_patternNumber 1 = .ok (.getfield 18, 3) := by decide +kernel
theorem dX3_patternNumber_4 : decode cX3_patternNumber 4 = .ok (.iconst 0, 1) := by decide +kernel
theorem dX3_patternNumber_5 : decode cX3_patternNumber 5 = .ok (.invokestatic 58, 3) := by decide +kernel
theorem dX3_patternNumber_8 : decode cX3_patternNumber 8 = .ok (.istore_n 3, 1) := by decide +kernel
theorem dX3_patternNumber_9 : decode cX3_patternNumber 9 = .ok (.aload_n 0, 1) := by decide +kernel
theorem dX3_patternNumber_10 : decode cX3_patternNumber 10 = .ok (.getfield 12, 3) := by decide +kernel
theorem dX3_patternNumber_13 : decode cX3_patternNumber 13 = .ok (.iload_n 1, 1) := by decide +kernel
theorem dX3_patternNumber_14 : decode cX3_patternNumber 14 = .ok (.iload_n 3, 1) := by decide +kernel
theorem dX3_patternNumber_15 : decode cX3_patternNumber 15 = .ok (.aload_n 0, 1) := by decide +kernel
theorem dX3_patternNumber_16 : decode cX3_patternNumber 16 = .ok (.getfield 18, 3) := by decide +kernel
theorem dX3_patternNumber_19 : decode cX3_patternNumber 19 = .ok (.iconst 1, 1) := by decide +kernel
theorem dX3_patternNumber_20 : decode cX3_patternNumber 20 = .ok (.invokestatic 58, 3) := by decide +kernel
theorem dX3_patternNumber_23 : decode cX3_patternNumber 23 = .ok (.invokevirtual 62, 3) := by decide +kernel
theorem dX3_patternNumber_26 : decode cX3_patternNumber 26 = .ok (.istore 4, 2) := by decide +kernel
theorem dX3_patternNumber_28 : decode cX3_patternNumber 28 = .ok (.iload_n 2, 1) := by decide +kernel
theorem dX3_patternNumber_29 : decode cX3_patternNumber 29 = .ok (.tableswitch 52 0 2 #[27, 40, 46], 27) := by decide +kernel
theorem dX3_patternNumber_56 : decode cX3_patternNumber 56 = .ok (.aload_n 0, 1) := by decide +kernel
theorem dX3_patternNumber_57 : decode cX3_patternNumber 57 = .ok (.getfield 12, 3) := by decide +kernel
theorem dX3_patternNumber_60 : decode cX3_patternNumber 60 = .ok (.getfield 66, 3) := by decide +kernel
theorem dX3_patternNumber_63 : decode cX3_patternNumber 63 = .ok (.iload 4, 2) := by decide +kernel
theorem dX3_patternNumber_65 : decode cX3_patternNumber 65 = .ok (.invokestatic 58, 3) := by decide +kernel
theorem dX3_patternNumber_68 : decode cX3_patternNumber 68 = .ok (.ireturn, 1) := by decide +kernel
theorem dX3_patternNumber_69 : decode cX3_patternNumber 69 = .ok (.iload_n 1, 1) := by decide +kernel
theorem dX3_patternNumber_70 : decode cX3_patternNumber 70 = .ok (.iload_n 3, 1) := by decide +kernel
theorem dX3_patternNumber_71 : decode cX3_patternNumber 71 = .ok (.invokestatic 69, 3) := by decide +kernel
theorem dX3_patternNumber_74 : decode cX3_patternNumber 74 = .ok (.ireturn, 1) := by decide +kernel
theorem dX3_patternNumber_75 : decode cX3_patternNumber 75 = .ok (.iload 4, 2) := by decide +kernel
theorem dX3_patternNumber_77 : decode cX3_patternNumber 77 = .ok (.bipush 12, 2) := by decide +kernel
theorem dX3_patternNumber_79 : decode cX3_patternNumber 79 = .ok (.idiv, 1) := by decide +kernel
theorem dX3_patternNumber_80 : decode cX3_patternNumber 80 = .ok (.ireturn, 1) := by decide +kernel
theorem dX3_patternNumber_81 : decode cX3_patternNumber 81 = .ok (.iload 4, 2) := by decide +kernel
theorem dX3_patternNumber_83 : decode cX3_patternNumber 83 = .ok (.bipush 12, 2) := by decide +kernel
theorem dX3_patternNumber_85 : decode cX3_patternNumber 85 = .ok (.irem, 1) := by decide +kernel
theorem dX3_patternNumber_86 : decode cX3_patternNumber 86 = .ok (.ireturn, 1) := by decide +kernel
theorem dX3_isWrong_0 : decode cX3_isWrong 0 = .ok (.aload_n 0, 1) := by decide +kernel
theorem dX3_isWrong_1 : decode cX3_isWrong 1 = .ok (.getfield 38, 3) := by decide +kernel
theorem dX3_isWrong_4 : decode cX3_isWrong 4 = .ok (.iload_n 1, 1) := by decide +kernel
theorem dX3_isWrong_5 : decode cX3_isWrong 5 = .ok (.invokestatic 58, 3) := by decide +kernel
theorem dX3_isWrong_8 : decode cX3_isWrong 8 = .ok (.aload_n 0, 1) := by decide +kernel
theorem dX3_isWrong_9 : decode cX3_isWrong 9 = .ok (.iload_n 1, 1) := by decide +kernel
theorem dX3_isWrong_10 : decode cX3_isWrong 10 = .ok (.invokevirtual 73, 3) := by decide +kernel
theorem dX3_isWrong_13 : decode cX3_isWrong 13 = .ok (.if_icmp .eq 7, 3) := by decide +kernel
theorem dX3_isWrong_16 : decode cX3_isWrong 16 = .ok (.iconst 1, 1) := by decide +kernel
theorem dX3_isWrong_17 : decode cX3_isWrong 17 = .ok (.goto 4, 3) := by decide +kernel
theorem dX3_isWrong_20 : decode cX3_isWrong 20 = .ok (.iconst 0, 1) := by decide +kernel
theorem dX3_isWrong_21 : decode cX3_isWrong 21 = .ok (.ireturn, 1) := by decide +kernel
theorem dX3_wrongBetween_0 : decode cX3_wrongBetween 0 = .ok (.iconst 0, 1) := by decide +kernel
theorem dX3_wrongBetween_1 : decode cX3_wrongBetween 1 = .ok (.istore_n 3, 1) := by decide +kernel
theorem dX3_wrongBetween_2 : decode cX3_wrongBetween 2 = .ok (.iload_n 1, 1) := by decide +kernel
theorem dX3_wrongBetween_3 : decode cX3_wrongBetween 3 = .ok (.istore 4, 2) := by decide +kernel
theorem dX3_wrongBetween_5 : decode cX3_wrongBetween 5 = .ok (.iload 4, 2) := by decide +kernel
theorem dX3_wrongBetween_7 : decode cX3_wrongBetween 7 = .ok (.iload_n 2, 1) := by decide +kernel
theorem dX3_wrongBetween_8 : decode cX3_wrongBetween 8 = .ok (.if_icmp .ge 21, 3) := by decide +kernel
theorem dX3_wrongBetween_11 : decode cX3_wrongBetween 11 = .ok (.aload_n 0, 1) := by decide +kernel
theorem dX3_wrongBetween_12 : decode cX3_wrongBetween 12 = .ok (.iload 4, 2) := by decide +kernel
theorem dX3_wrongBetween_14 : decode cX3_wrongBetween 14 = .ok (.invokevirtual 77, 3) := by decide +kernel
theorem dX3_wrongBetween_17 : decode cX3_wrongBetween 17 = .ok (.ifCond .eq 6, 3) := by decide +kernel
theorem dX3_wrongBetween_20 : decode cX3_wrongBetween 20 = .ok (.iinc 3 1, 3) := by decide +kernel
theorem dX3_wrongBetween_23 : decode cX3_wrongBetween 23 = .ok (.iinc 4 1, 3) := by decide +kernel
theorem dX3_wrongBetween_26 : decode cX3_wrongBetween 26 = .ok (.goto (-21), 3) := by decide +kernel
theorem dX3_wrongBetween_29 : decode cX3_wrongBetween 29 = .ok (.iload_n 3, 1) := by decide +kernel
theorem dX3_wrongBetween_30 : decode cX3_wrongBetween 30 = .ok (.ireturn, 1) := by decide +kernel
theorem dX3_wrongOf_0 : decode cX3_wrongOf 0 = .ok (.iconst 0, 1) := by decide +kernel
theorem dX3_wrongOf_1 : decode cX3_wrongOf 1 = .ok (.istore_n 2, 1) := by decide +kernel
theorem dX3_wrongOf_2 : decode cX3_wrongOf 2 = .ok (.iconst 0, 1) := by decide +kernel
theorem dX3_wrongOf_3 : decode cX3_wrongOf 3 = .ok (.istore_n 3, 1) := by decide +kernel
theorem dX3_wrongOf_4 : decode cX3_wrongOf 4 = .ok (.iload_n 3, 1) := by decide +kernel
theorem dX3_wrongOf_5 : decode cX3_wrongOf 5 = .ok (.aload_n 0, 1) := by decide +kernel
theorem dX3_wrongOf_6 : decode cX3_wrongOf 6 = .ok (.getfield 44, 3) := by decide +kernel
theorem dX3_wrongOf_9 : decode cX3_wrongOf 9 = .ok (.if_icmp .ge 32, 3) := by decide +kernel
theorem dX3_wrongOf_12 : decode cX3_wrongOf 12 = .ok (.aload_n 0, 1) := by decide +kernel
theorem dX3_wrongOf_13 : decode cX3_wrongOf 13 = .ok (.getfield 38, 3) := by decide +kernel
theorem dX3_wrongOf_16 : decode cX3_wrongOf 16 = .ok (.iload_n 3, 1) := by decide +kernel
theorem dX3_wrongOf_17 : decode cX3_wrongOf 17 = .ok (.invokestatic 58, 3) := by decide +kernel
theorem dX3_wrongOf_20 : decode cX3_wrongOf 20 = .ok (.iload_n 1, 1) := by decide +kernel
theorem dX3_wrongOf_21 : decode cX3_wrongOf 21 = .ok (.if_icmp .ne 14, 3) := by decide +kernel
theorem dX3_wrongOf_24 : decode cX3_wrongOf 24 = .ok (.aload_n 0, 1) := by decide +kernel
theorem dX3_wrongOf_25 : decode cX3_wrongOf 25 = .ok (.iload_n 3, 1) := by decide +kernel
theorem dX3_wrongOf_26 : decode cX3_wrongOf 26 = .ok (.invokevirtual 77, 3) := by decide +kernel
theorem dX3_wrongOf_29 : decode cX3_wrongOf 29 = .ok (.ifCond .eq 6, 3) := by decide +kernel
theorem dX3_wrongOf_32 : decode cX3_wrongOf 32 = .ok (.iinc 2 1, 3) := by decide +kernel
theorem dX3_wrongOf_35 : decode cX3_wrongOf 35 = .ok (.iinc 3 1, 3) := by decide +kernel
theorem dX3_wrongOf_38 : decode cX3_wrongOf 38 = .ok (.goto (-34), 3) := by decide +kernel
theorem dX3_wrongOf_41 : decode cX3_wrongOf 41 = .ok (.iload_n 2, 1) := by decide +kernel
theorem dX3_wrongOf_42 : decode cX3_wrongOf 42 = .ok (.ireturn, 1) := by decide +kernel
theorem dX3_endOf_0 : decode cX3_endOf 0 = .ok (.iload_n 1, 1) := by decide +kernel
theorem dX3_endOf_1 : decode cX3_endOf 1 = .ok (.iconst 1, 1) := by decide +kernel
theorem dX3_endOf_2 : decode cX3_endOf 2 = .ok (.iadd, 1) := by decide +kernel
theorem dX3_endOf_3 : decode cX3_endOf 3 = .ok (.aload_n 0, 1) := by decide +kernel
theorem dX3_endOf_4 : decode cX3_endOf 4 = .ok (.getfield 48, 3) := by decide +kernel
theorem dX3_endOf_7 : decode cX3_endOf 7 = .ok (.if_icmp .ge 16, 3) := by decide +kernel
theorem dX3_endOf_10 : decode cX3_endOf 10 = .ok (.aload_n 0, 1) := by decide +kernel
theorem dX3_endOf_11 : decode cX3_endOf 11 = .ok (.getfield 41, 3) := by decide +kernel
theorem dX3_endOf_14 : decode cX3_endOf 14 = .ok (.iload_n 1, 1) := by decide +kernel
theorem dX3_endOf_15 : decode cX3_endOf 15 = .ok (.iconst 1, 1) := by decide +kernel
theorem dX3_endOf_16 : decode cX3_endOf 16 = .ok (.iadd, 1) := by decide +kernel
theorem dX3_endOf_17 : decode cX3_endOf 17 = .ok (.invokestatic 58, 3) := by decide +kernel
theorem dX3_endOf_20 : decode cX3_endOf 20 = .ok (.goto 7, 3) := by decide +kernel
theorem dX3_endOf_23 : decode cX3_endOf 23 = .ok (.aload_n 0, 1) := by decide +kernel
theorem dX3_endOf_24 : decode cX3_endOf 24 = .ok (.getfield 44, 3) := by decide +kernel
theorem dX3_endOf_27 : decode cX3_endOf 27 = .ok (.ireturn, 1) := by decide +kernel
theorem dX3_lengthOf_0 : decode cX3_lengthOf 0 = .ok (.aload_n 0, 1) := by decide +kernel
theorem dX3_lengthOf_1 : decode cX3_lengthOf 1 = .ok (.iload_n 1, 1) := by decide +kernel
theorem dX3_lengthOf_2 : decode cX3_lengthOf 2 = .ok (.invokevirtual 81, 3) := by decide +kernel
theorem dX3_lengthOf_5 : decode cX3_lengthOf 5 = .ok (.aload_n 0, 1) := by decide +kernel
theorem dX3_lengthOf_6 : decode cX3_lengthOf 6 = .ok (.getfield 41, 3) := by decide +kernel
theorem dX3_lengthOf_9 : decode cX3_lengthOf 9 = .ok (.iload_n 1, 1) := by decide +kernel
theorem dX3_lengthOf_10 : decode cX3_lengthOf 10 = .ok (.invokestatic 58, 3) := by decide +kernel
theorem dX3_lengthOf_13 : decode cX3_lengthOf 13 = .ok (.isub, 1) := by decide +kernel
theorem dX3_lengthOf_14 : decode cX3_lengthOf 14 = .ok (.ireturn, 1) := by decide +kernel
theorem dX3_stringOf_0 : decode cX3_stringOf 0 = .ok (.aload_n 0, 1) := by decide +kernel
theorem dX3_stringOf_1 : decode cX3_stringOf 1 = .ok (.getfield 48, 3) := by decide +kernel
theorem dX3_stringOf_4 : decode cX3_stringOf 4 = .ok (.iconst 1, 1) := by decide +kernel
theorem dX3_stringOf_5 : decode cX3_stringOf 5 = .ok (.isub, 1) := by decide +kernel
theorem dX3_stringOf_6 : decode cX3_stringOf 6 = .ok (.istore_n 2, 1) := by decide +kernel
theorem dX3_stringOf_7 : decode cX3_stringOf 7 = .ok (.iload_n 2, 1) := by decide +kernel
theorem dX3_stringOf_8 : decode cX3_stringOf 8 = .ok (.ifCond .le 23, 3) := by decide +kernel
theorem dX3_stringOf_11 : decode cX3_stringOf 11 = .ok (.aload_n 0, 1) := by decide +kernel
theorem dX3_stringOf_12 : decode cX3_stringOf 12 = .ok (.getfield 41, 3) := by decide +kernel
theorem dX3_stringOf_15 : decode cX3_stringOf 15 = .ok (.iload_n 2, 1) := by decide +kernel
theorem dX3_stringOf_16 : decode cX3_stringOf 16 = .ok (.invokestatic 58, 3) := by decide +kernel
theorem dX3_stringOf_19 : decode cX3_stringOf 19 = .ok (.iload_n 1, 1) := by decide +kernel
theorem dX3_stringOf_20 : decode cX3_stringOf 20 = .ok (.if_icmp .gt 5, 3) := by decide +kernel
theorem dX3_stringOf_23 : decode cX3_stringOf 23 = .ok (.iload_n 2, 1) := by decide +kernel
theorem dX3_stringOf_24 : decode cX3_stringOf 24 = .ok (.ireturn, 1) := by decide +kernel
theorem dX3_stringOf_25 : decode cX3_stringOf 25 = .ok (.iinc 2 (-1), 3) := by decide +kernel
theorem dX3_stringOf_28 : decode cX3_stringOf 28 = .ok (.goto (-21), 3) := by decide +kernel
theorem dX3_stringOf_31 : decode cX3_stringOf 31 = .ok (.iconst 0, 1) := by decide +kernel
theorem dX3_stringOf_32 : decode cX3_stringOf 32 = .ok (.ireturn, 1) := by decide +kernel
theorem dX3_isHidden_0 : decode cX3_isHidden 0 = .ok (.aload_n 0, 1) := by decide +kernel
theorem dX3_isHidden_1 : decode cX3_isHidden 1 = .ok (.aload_n 0, 1) := by decide +kernel
theorem dX3_isHidden_2 : decode cX3_isHidden 2 = .ok (.getfield 41, 3) := by decide +kernel
theorem dX3_isHidden_5 : decode cX3_isHidden 5 = .ok (.iload_n 1, 1) := by decide +kernel
theorem dX3_isHidden_6 : decode cX3_isHidden 6 = .ok (.invokestatic 58, 3) := by decide +kernel
theorem dX3_isHidden_9 : decode cX3_isHidden 9 = .ok (.invokevirtual 73, 3) := by decide +kernel
theorem dX3_isHidden_12 : decode cX3_isHidden 12 = .ok (.aload_n 0, 1) := by decide +kernel
theorem dX3_isHidden_13 : decode cX3_isHidden 13 = .ok (.getfield 18, 3) := by decide +kernel
theorem dX3_isHidden_16 : decode cX3_isHidden 16 = .ok (.iconst 3, 1) := by decide +kernel
theorem dX3_isHidden_17 : decode cX3_isHidden 17 = .ok (.invokestatic 58, 3) := by decide +kernel
theorem dX3_isHidden_20 : decode cX3_isHidden 20 = .ok (.if_icmp .ne 7, 3) := by decide +kernel
theorem dX3_isHidden_23 : decode cX3_isHidden 23 = .ok (.iconst 1, 1) := by decide +kernel
theorem dX3_isHidden_24 : decode cX3_isHidden 24 = .ok (.goto 4, 3) := by decide +kernel
theorem dX3_isHidden_27 : decode cX3_isHidden 27 = .ok (.iconst 0, 1) := by decide +kernel
theorem dX3_isHidden_28 : decode cX3_isHidden 28 = .ok (.ireturn, 1) := by decide +kernel
theorem dX3_openKnots_0 : decode cX3_openKnots 0 = .ok (.iconst 0, 1) := by decide +kernel
theorem dX3_openKnots_1 : decode cX3_openKnots 1 = .ok (.istore_n 1, 1) := by decide +kernel
theorem dX3_openKnots_2 : decode cX3_openKnots 2 = .ok (.iconst 1, 1) := by decide +kernel
theorem dX3_openKnots_3 : decode cX3_openKnots 3 = .ok (.istore_n 2, 1) := by decide +kernel
theorem dX3_openKnots_4 : decode cX3_openKnots 4 = .ok (.iload_n 2, 1) := by decide +kernel
theorem dX3_openKnots_5 : decode cX3_openKnots 5 = .ok (.aload_n 0, 1) := by decide +kernel
theorem dX3_openKnots_6 : decode cX3_openKnots 6 = .ok (.getfield 48, 3) := by decide +kernel
theorem dX3_openKnots_9 : decode cX3_openKnots 9 = .ok (.if_icmp .ge 20, 3) := by decide +kernel
theorem dX3_openKnots_12 : decode cX3_openKnots 12 = .ok (.aload_n 0, 1) := by decide +kernel
theorem dX3_openKnots_13 : decode cX3_openKnots 13 = .ok (.iload_n 2, 1) := by decide +kernel
theorem dX3_openKnots_14 : decode cX3_openKnots 14 = .ok (.invokevirtual 84, 3) := by decide +kernel
theorem dX3_openKnots_17 : decode cX3_openKnots 17 = .ok (.ifCond .ne 6, 3) := by decide +kernel
theorem dX3_openKnots_20 : decode cX3_openKnots 20 = .ok (.iinc 1 1, 3) := by decide +kernel
theorem dX3_openKnots_23 : decode cX3_openKnots 23 = .ok (.iinc 2 1, 3) := by decide +kernel
theorem dX3_openKnots_26 : decode cX3_openKnots 26 = .ok (.goto (-22), 3) := by decide +kernel
theorem dX3_openKnots_29 : decode cX3_openKnots 29 = .ok (.iload_n 1, 1) := by decide +kernel
theorem dX3_openKnots_30 : decode cX3_openKnots 30 = .ok (.ireturn, 1) := by decide +kernel
theorem dX3_room_0 : decode cX3_room 0 = .ok (.aload_n 0, 1) := by decide +kernel
theorem dX3_room_1 : decode cX3_room 1 = .ok (.getfield 18, 3) := by decide +kernel
theorem dX3_room_4 : decode cX3_room 4 = .ok (.iconst 2, 1) := by decide +kernel
theorem dX3_room_5 : decode cX3_room 5 = .ok (.invokestatic 58, 3) := by decide +kernel
theorem dX3_room_8 : decode cX3_room 8 = .ok (.aload_n 0, 1) := by decide +kernel
theorem dX3_room_9 : decode cX3_room 9 = .ok (.aload_n 0, 1) := by decide +kernel
theorem dX3_room_10 : decode cX3_room 10 = .ok (.getfield 48, 3) := by decide +kernel
theorem dX3_room_13 : decode cX3_room 13 = .ok (.iconst 1, 1) := by decide +kernel
theorem dX3_room_14 : decode cX3_room 14 = .ok (.isub, 1) := by decide +kernel
theorem dX3_room_15 : decode cX3_room 15 = .ok (.invokevirtual 87, 3) := by decide +kernel
theorem dX3_room_18 : decode cX3_room 18 = .ok (.isub, 1) := by decide +kernel
theorem dX3_room_19 : decode cX3_room 19 = .ok (.ireturn, 1) := by decide +kernel
theorem dX3_beadNumber_0 : decode cX3_beadNumber 0 = .ok (.iload_n 2, 1) := by decide +kernel
theorem dX3_beadNumber_1 : decode cX3_beadNumber 1 = .ok (.tableswitch 56 0 2 #[27, 36, 50], 27) := by decide +kernel
theorem dX3_beadNumber_28 : decode cX3_beadNumber 28 = .ok (.aload_n 0, 1) := by decide +kernel
theorem dX3_beadNumber_29 : decode cX3_beadNumber 29 = .ok (.getfield 38, 3) := by decide +kernel
theorem dX3_beadNumber_32 : decode cX3_beadNumber 32 = .ok (.iload_n 1, 1) := by decide +kernel
theorem dX3_beadNumber_33 : decode cX3_beadNumber 33 = .ok (.invokestatic 58, 3) := by decide +kernel
theorem dX3_beadNumber_36 : decode cX3_beadNumber 36 = .ok (.ireturn, 1) := by decide +kernel
theorem dX3_beadNumber_37 : decode cX3_beadNumber 37 = .ok (.aload_n 0, 1) := by decide +kernel
theorem dX3_beadNumber_38 : decode cX3_beadNumber 38 = .ok (.iload_n 1, 1) := by decide +kernel
theorem dX3_beadNumber_39 : decode cX3_beadNumber 39 = .ok (.invokevirtual 77, 3) := by decide +kernel
theorem dX3_beadNumber_42 : decode cX3_beadNumber 42 = .ok (.ifCond .eq 7, 3) := by decide +kernel
theorem dX3_beadNumber_45 : decode cX3_beadNumber 45 = .ok (.iconst 1, 1) := by decide +kernel
theorem dX3_beadNumber_46 : decode cX3_beadNumber 46 = .ok (.goto 4, 3) := by decide +kernel
theorem dX3_beadNumber_49 : decode cX3_beadNumber 49 = .ok (.iconst 0, 1) := by decide +kernel
theorem dX3_beadNumber_50 : decode cX3_beadNumber 50 = .ok (.ireturn, 1) := by decide +kernel
theorem dX3_beadNumber_51 : decode cX3_beadNumber 51 = .ok (.aload_n 0, 1) := by decide +kernel
theorem dX3_beadNumber_52 : decode cX3_beadNumber 52 = .ok (.iload_n 1, 1) := by decide +kernel
theorem dX3_beadNumber_53 : decode cX3_beadNumber 53 = .ok (.invokevirtual 90, 3) := by decide +kernel
theorem dX3_beadNumber_56 : decode cX3_beadNumber 56 = .ok (.ireturn, 1) := by decide +kernel
theorem dX3_beadNumber_57 : decode cX3_beadNumber 57 = .ok (.iload_n 1, 1) := by decide +kernel
theorem dX3_beadNumber_58 : decode cX3_beadNumber 58 = .ok (.aload_n 0, 1) := by decide +kernel
theorem dX3_beadNumber_59 : decode cX3_beadNumber 59 = .ok (.getfield 41, 3) := by decide +kernel
theorem dX3_beadNumber_62 : decode cX3_beadNumber 62 = .ok (.aload_n 0, 1) := by decide +kernel
theorem dX3_beadNumber_63 : decode cX3_beadNumber 63 = .ok (.iload_n 1, 1) := by decide +kernel
theorem dX3_beadNumber_64 : decode cX3_beadNumber 64 = .ok (.invokevirtual 90, 3) := by decide +kernel
theorem dX3_beadNumber_67 : decode cX3_beadNumber 67 = .ok (.invokestatic 58, 3) := by decide +kernel
theorem dX3_beadNumber_70 : decode cX3_beadNumber 70 = .ok (.isub, 1) := by decide +kernel
theorem dX3_beadNumber_71 : decode cX3_beadNumber 71 = .ok (.ireturn, 1) := by decide +kernel
theorem dX3_stringNumber_0 : decode cX3_stringNumber 0 = .ok (.iload_n 2, 1) := by decide +kernel
theorem dX3_stringNumber_1 : decode cX3_stringNumber 1 = .ok (.tableswitch 64 0 2 #[27, 36, 42], 27) := by decide +kernel
theorem dX3_stringNumber_28 : decode cX3_stringNumber 28 = .ok (.aload_n 0, 1) := by decide +kernel
theorem dX3_stringNumber_29 : decode cX3_stringNumber 29 = .ok (.getfield 41, 3) := by decide +kernel
theorem dX3_stringNumber_32 : decode cX3_stringNumber 32 = .ok (.iload_n 1, 1) := by decide +kernel
theorem dX3_stringNumber_33 : decode cX3_stringNumber 33 = .ok (.invokestatic 58, 3) := by decide +kernel
theorem dX3_stringNumber_36 : decode cX3_stringNumber 36 = .ok (.ireturn, 1) := by decide +kernel
theorem dX3_stringNumber_37 : decode cX3_stringNumber 37 = .ok (.aload_n 0, 1) := by decide +kernel
theorem dX3_stringNumber_38 : decode cX3_stringNumber 38 = .ok (.iload_n 1, 1) := by decide +kernel
theorem dX3_stringNumber_39 : decode cX3_stringNumber 39 = .ok (.invokevirtual 87, 3) := by decide +kernel
theorem dX3_stringNumber_42 : decode cX3_stringNumber 42 = .ok (.ireturn, 1) := by decide +kernel
theorem dX3_stringNumber_43 : decode cX3_stringNumber 43 = .ok (.iload_n 1, 1) := by decide +kernel
theorem dX3_stringNumber_44 : decode cX3_stringNumber 44 = .ok (.ifCond .ne 7, 3) := by decide +kernel
theorem dX3_stringNumber_47 : decode cX3_stringNumber 47 = .ok (.iconst (-1), 1) := by decide +kernel
theorem dX3_stringNumber_48 : decode cX3_stringNumber 48 = .ok (.goto 16, 3) := by decide +kernel
theorem dX3_stringNumber_51 : decode cX3_stringNumber 51 = .ok (.aload_n 0, 1) := by decide +kernel
theorem dX3_stringNumber_52 : decode cX3_stringNumber 52 = .ok (.iload_n 1, 1) := by decide +kernel
theorem dX3_stringNumber_53 : decode cX3_stringNumber 53 = .ok (.invokevirtual 84, 3) := by decide +kernel
theorem dX3_stringNumber_56 : decode cX3_stringNumber 56 = .ok (.ifCond .eq 7, 3) := by decide +kernel
theorem dX3_stringNumber_59 : decode cX3_stringNumber 59 = .ok (.iconst 1, 1) := by decide +kernel
theorem dX3_stringNumber_60 : decode cX3_stringNumber 60 = .ok (.goto 4, 3) := by decide +kernel
theorem dX3_stringNumber_63 : decode cX3_stringNumber 63 = .ok (.iconst 0, 1) := by decide +kernel
theorem dX3_stringNumber_64 : decode cX3_stringNumber 64 = .ok (.ireturn, 1) := by decide +kernel
theorem dX3_stringNumber_65 : decode cX3_stringNumber 65 = .ok (.aload_n 0, 1) := by decide +kernel
theorem dX3_stringNumber_66 : decode cX3_stringNumber 66 = .ok (.aload_n 0, 1) := by decide +kernel
theorem dX3_stringNumber_67 : decode cX3_stringNumber 67 = .ok (.getfield 41, 3) := by decide +kernel
theorem dX3_stringNumber_70 : decode cX3_stringNumber 70 = .ok (.iload_n 1, 1) := by decide +kernel
theorem dX3_stringNumber_71 : decode cX3_stringNumber 71 = .ok (.invokestatic 58, 3) := by decide +kernel
theorem dX3_stringNumber_74 : decode cX3_stringNumber 74 = .ok (.aload_n 0, 1) := by decide +kernel
theorem dX3_stringNumber_75 : decode cX3_stringNumber 75 = .ok (.iload_n 1, 1) := by decide +kernel
theorem dX3_stringNumber_76 : decode cX3_stringNumber 76 = .ok (.invokevirtual 81, 3) := by decide +kernel
theorem dX3_stringNumber_79 : decode cX3_stringNumber 79 = .ok (.invokevirtual 93, 3) := by decide +kernel
theorem dX3_stringNumber_82 : decode cX3_stringNumber 82 = .ok (.ireturn, 1) := by decide +kernel
theorem dX3_colourNumber_0 : decode cX3_colourNumber 0 = .ok (.iload_n 2, 1) := by decide +kernel
theorem dX3_colourNumber_1 : decode cX3_colourNumber 1 = .ok (.tableswitch 84 0 4 #[35, 44, 53, 66, 75], 35) := by decide +kernel
theorem dX3_colourNumber_36 : decode cX3_colourNumber 36 = .ok (.aload_n 0, 1) := by decide +kernel
theorem dX3_colourNumber_37 : decode cX3_colourNumber 37 = .ok (.getfield 29, 3) := by decide +kernel
theorem dX3_colourNumber_40 : decode cX3_colourNumber 40 = .ok (.iload_n 1, 1) := by decide +kernel
theorem dX3_colourNumber_41 : decode cX3_colourNumber 41 = .ok (.invokestatic 58, 3) := by decide +kernel
theorem dX3_colourNumber_44 : decode cX3_colourNumber 44 = .ok (.ireturn, 1) := by decide +kernel
theorem dX3_colourNumber_45 : decode cX3_colourNumber 45 = .ok (.aload_n 0, 1) := by decide +kernel
theorem dX3_colourNumber_46 : decode cX3_colourNumber 46 = .ok (.getfield 32, 3) := by decide +kernel
theorem dX3_colourNumber_49 : decode cX3_colourNumber 49 = .ok (.iload_n 1, 1) := by decide +kernel
theorem dX3_colourNumber_50 : decode cX3_colourNumber 50 = .ok (.invokestatic 58, 3) := by decide +kernel
theorem dX3_colourNumber_53 : decode cX3_colourNumber 53 = .ok (.ireturn, 1) := by decide +kernel
theorem dX3_colourNumber_54 : decode cX3_colourNumber 54 = .ok (.aload_n 0, 1) := by decide +kernel
theorem dX3_colourNumber_55 : decode cX3_colourNumber 55 = .ok (.getfield 38, 3) := by decide +kernel
theorem dX3_colourNumber_58 : decode cX3_colourNumber 58 = .ok (.aload_n 0, 1) := by decide +kernel
theorem dX3_colourNumber_59 : decode cX3_colourNumber 59 = .ok (.getfield 44, 3) := by decide +kernel
theorem dX3_colourNumber_62 : decode cX3_colourNumber 62 = .ok (.iload_n 1, 1) := by decide +kernel
theorem dX3_colourNumber_63 : decode cX3_colourNumber 63 = .ok (.invokestatic 96, 3) := by decide +kernel
theorem dX3_colourNumber_66 : decode cX3_colourNumber 66 = .ok (.ireturn, 1) := by decide +kernel
theorem dX3_colourNumber_67 : decode cX3_colourNumber 67 = .ok (.aload_n 0, 1) := by decide +kernel
theorem dX3_colourNumber_68 : decode cX3_colourNumber 68 = .ok (.getfield 35, 3) := by decide +kernel
theorem dX3_colourNumber_71 : decode cX3_colourNumber 71 = .ok (.iload_n 1, 1) := by decide +kernel
theorem dX3_colourNumber_72 : decode cX3_colourNumber 72 = .ok (.invokestatic 58, 3) := by decide +kernel
theorem dX3_colourNumber_75 : decode cX3_colourNumber 75 = .ok (.ireturn, 1) := by decide +kernel
theorem dX3_colourNumber_76 : decode cX3_colourNumber 76 = .ok (.aload_n 0, 1) := by decide +kernel
theorem dX3_colourNumber_77 : decode cX3_colourNumber 77 = .ok (.getfield 12, 3) := by decide +kernel
theorem dX3_colourNumber_80 : decode cX3_colourNumber 80 = .ok (.iload_n 1, 1) := by decide +kernel
theorem dX3_colourNumber_81 : decode cX3_colourNumber 81 = .ok (.invokevirtual 100, 3) := by decide +kernel
theorem dX3_colourNumber_84 : decode cX3_colourNumber 84 = .ok (.ireturn, 1) := by decide +kernel
theorem dX3_colourNumber_85 : decode cX3_colourNumber 85 = .ok (.aload_n 0, 1) := by decide +kernel
theorem dX3_colourNumber_86 : decode cX3_colourNumber 86 = .ok (.iload_n 1, 1) := by decide +kernel
theorem dX3_colourNumber_87 : decode cX3_colourNumber 87 = .ok (.invokevirtual 103, 3) := by decide +kernel
theorem dX3_colourNumber_90 : decode cX3_colourNumber 90 = .ok (.ireturn, 1) := by decide +kernel
theorem dX3_canTake_0 : decode cX3_canTake 0 = .ok (.aload_n 0, 1) := by decide +kernel
theorem dX3_canTake_1 : decode cX3_canTake 1 = .ok (.getfield 44, 3) := by decide +kernel
theorem dX3_canTake_4 : decode cX3_canTake 4 = .ok (.iload_n 2, 1) := by decide +kernel
theorem dX3_canTake_5 : decode cX3_canTake 5 = .ok (.iadd, 1) := by decide +kernel
theorem dX3_canTake_6 : decode cX3_canTake 6 = .ok (.sipush 240, 3) := by decide +kernel
theorem dX3_canTake_9 : decode cX3_canTake 9 = .ok (.if_icmp .gt 11, 3) := by decide +kernel
theorem dX3_canTake_12 : decode cX3_canTake 12 = .ok (.iload_n 2, 1) := by decide +kernel
theorem dX3_canTake_13 : decode cX3_canTake 13 = .ok (.aload_n 0, 1) := by decide +kernel
theorem dX3_canTake_14 : decode cX3_canTake 14 = .ok (.invokevirtual 106, 3) := by decide +kernel
theorem dX3_canTake_17 : decode cX3_canTake 17 = .ok (.if_icmp .le 5, 3) := by decide +kernel
theorem dX3_canTake_20 : decode cX3_canTake 20 = .ok (.iconst 0, 1) := by decide +kernel
theorem dX3_canTake_21 : decode cX3_canTake 21 = .ok (.ireturn, 1) := by decide +kernel
theorem dX3_canTake_22 : decode cX3_canTake 22 = .ok (.iconst 0, 1) := by decide +kernel
theorem dX3_canTake_23 : decode cX3_canTake 23 = .ok (.istore_n 3, 1) := by decide +kernel
theorem dX3_canTake_24 : decode cX3_canTake 24 = .ok (.iload_n 3, 1) := by decide +kernel
theorem dX3_canTake_25 : decode cX3_canTake 25 = .ok (.bipush 6, 2) := by decide +kernel
theorem dX3_canTake_27 : decode cX3_canTake 27 = .ok (.if_icmp .ge 28, 3) := by decide +kernel
theorem dX3_canTake_30 : decode cX3_canTake 30 = .ok (.aload_n 1, 1) := by decide +kernel
theorem dX3_canTake_31 : decode cX3_canTake 31 = .ok (.iload_n 2, 1) := by decide +kernel
theorem dX3_canTake_32 : decode cX3_canTake 32 = .ok (.iload_n 3, 1) := by decide +kernel
theorem dX3_canTake_33 : decode cX3_canTake 33 = .ok (.invokestatic 96, 3) := by decide +kernel
theorem dX3_canTake_36 : decode cX3_canTake 36 = .ok (.aload_n 0, 1) := by decide +kernel
theorem dX3_canTake_37 : decode cX3_canTake 37 = .ok (.getfield 29, 3) := by decide +kernel
theorem dX3_canTake_40 : decode cX3_canTake 40 = .ok (.iload_n 3, 1) := by decide +kernel
theorem dX3_canTake_41 : decode cX3_canTake 41 = .ok (.invokestatic 58, 3) := by decide +kernel
theorem dX3_canTake_44 : decode cX3_canTake 44 = .ok (.if_icmp .le 5, 3) := by decide +kernel
theorem dX3_canTake_47 : decode cX3_canTake 47 = .ok (.iconst 0, 1) := by decide +kernel
theorem dX3_canTake_48 : decode cX3_canTake 48 = .ok (.ireturn, 1) := by decide +kernel
theorem dX3_canTake_49 : decode cX3_canTake 49 = .ok (.iinc 3 1, 3) := by decide +kernel
theorem dX3_canTake_52 : decode cX3_canTake 52 = .ok (.goto (-28), 3) := by decide +kernel
theorem dX3_canTake_55 : decode cX3_canTake 55 = .ok (.iconst 1, 1) := by decide +kernel
theorem dX3_canTake_56 : decode cX3_canTake 56 = .ok (.ireturn, 1) := by decide +kernel
theorem dX3_takeOn_0 : decode cX3_takeOn 0 = .ok (.iconst 0, 1) := by decide +kernel
theorem dX3_takeOn_1 : decode cX3_takeOn 1 = .ok (.istore_n 3, 1) := by decide +kernel
theorem dX3_takeOn_2 : decode cX3_takeOn 2 = .ok (.iload_n 3, 1) := by decide +kernel
theorem dX3_takeOn_3 : decode cX3_takeOn 3 = .ok (.iload_n 2, 1) := by decide +kernel
theorem dX3_takeOn_4 : decode cX3_takeOn 4 = .ok (.if_icmp .ge 41, 3) := by decide +kernel
theorem dX3_takeOn_7 : decode cX3_takeOn 7 = .ok (.aload_n 1, 1) := by decide +kernel
theorem dX3_takeOn_8 : decode cX3_takeOn 8 = .ok (.iload_n 3, 1) := by decide +kernel
theorem dX3_takeOn_9 : decode cX3_takeOn 9 = .ok (.invokestatic 58, 3) := by decide +kernel
theorem dX3_takeOn_12 : decode cX3_takeOn 12 = .ok (.istore 4, 2) := by decide +kernel
theorem dX3_takeOn_14 : decode cX3_takeOn 14 = .ok (.aload_n 0, 1) := by decide +kernel
theorem dX3_takeOn_15 : decode cX3_takeOn 15 = .ok (.getfield 38, 3) := by decide +kernel
theorem dX3_takeOn_18 : decode cX3_takeOn 18 = .ok (.aload_n 0, 1) := by decide +kernel
theorem dX3_takeOn_19 : decode cX3_takeOn 19 = .ok (.getfield 44, 3) := by decide +kernel
theorem dX3_takeOn_22 : decode cX3_takeOn 22 = .ok (.iload_n 3, 1) := by decide +kernel
theorem dX3_takeOn_23 : decode cX3_takeOn 23 = .ok (.iadd, 1) := by decide +kernel
theorem dX3_takeOn_24 : decode cX3_takeOn 24 = .ok (.iload 4, 2) := by decide +kernel
theorem dX3_takeOn_26 : decode cX3_takeOn 26 = .ok (.invokestatic 110, 3) := by decide +kernel
theorem dX3_takeOn_29 : decode cX3_takeOn 29 = .ok (.aload_n 0, 1) := by decide +kernel
theorem dX3_takeOn_30 : decode cX3_takeOn 30 = .ok (.getfield 29, 3) := by decide +kernel
theorem dX3_takeOn_33 : decode cX3_takeOn 33 = .ok (.iload 4, 2) := by decide +kernel
theorem dX3_takeOn_35 : decode cX3_takeOn 35 = .ok (.iconst (-1), 1) := by decide +kernel
theorem dX3_takeOn_36 : decode cX3_takeOn 36 = .ok (.invokestatic 114, 3) := by decide +kernel
theorem dX3_takeOn_39 : decode cX3_takeOn 39 = .ok (.iinc 3 1, 3) := by decide +kernel
theorem dX3_takeOn_42 : decode cX3_takeOn 42 = .ok (.goto (-40), 3) := by decide +kernel
theorem dX3_takeOn_45 : decode cX3_takeOn 45 = .ok (.aload_n 0, 1) := by decide +kernel
theorem dX3_takeOn_46 : decode cX3_takeOn 46 = .ok (.dup, 1) := by decide +kernel
theorem dX3_takeOn_47 : decode cX3_takeOn 47 = .ok (.getfield 44, 3) := by decide +kernel
theorem dX3_takeOn_50 : decode cX3_takeOn 50 = .ok (.iload_n 2, 1) := by decide +kernel
theorem dX3_takeOn_51 : decode cX3_takeOn 51 = .ok (.iadd, 1) := by decide +kernel
theorem dX3_takeOn_52 : decode cX3_takeOn 52 = .ok (.putfield 44, 3) := by decide +kernel
theorem dX3_takeOn_55 : decode cX3_takeOn 55 = .ok (.return_, 1) := by decide +kernel
theorem dX3_takeOff_0 : decode cX3_takeOff 0 = .ok (.aload_n 0, 1) := by decide +kernel
theorem dX3_takeOff_1 : decode cX3_takeOff 1 = .ok (.getfield 44, 3) := by decide +kernel
theorem dX3_takeOff_4 : decode cX3_takeOff 4 = .ok (.iload_n 1, 1) := by decide +kernel
theorem dX3_takeOff_5 : decode cX3_takeOff 5 = .ok (.isub, 1) := by decide +kernel
theorem dX3_takeOff_6 : decode cX3_takeOff 6 = .ok (.istore_n 2, 1) := by decide +kernel
theorem dX3_takeOff_7 : decode cX3_takeOff 7 = .ok (.iload_n 2, 1) := by decide +kernel
theorem dX3_takeOff_8 : decode cX3_takeOff 8 = .ok (.istore_n 3, 1) := by decide +kernel
theorem dX3_takeOff_9 : decode cX3_takeOff 9 = .ok (.iload_n 3, 1) := by decide +kernel
theorem dX3_takeOff_10 : decode cX3_takeOff 10 = .ok (.aload_n 0, 1) := by decide +kernel
theorem dX3_takeOff_11 : decode cX3_takeOff 11 = .ok (.getfield 44, 3) := by decide +kernel
theorem dX3_takeOff_14 : decode cX3_takeOff 14 = .ok (.if_icmp .ge 25, 3) := by decide +kernel
theorem dX3_takeOff_17 : decode cX3_takeOff 17 = .ok (.aload_n 0, 1) := by decide +kernel
theorem dX3_takeOff_18 : decode cX3_takeOff 18 = .ok (.getfield 29, 3) := by decide +kernel
theorem dX3_takeOff_21 : decode cX3_takeOff 21 = .ok (.aload_n 0, 1) := by decide +kernel
theorem dX3_takeOff_22 : decode cX3_takeOff 22 = .ok (.getfield 38, 3) := by decide +kernel
theorem dX3_takeOff_25 : decode cX3_takeOff 25 = .ok (.iload_n 3, 1) := by decide +kernel
theorem dX3_takeOff_26 : decode cX3_takeOff 26 = .ok (.invokestatic 58, 3) := by decide +kernel
theorem dX3_takeOff_29 : decode cX3_takeOff 29 = .ok (.iconst 1, 1) := by decide +kernel
theorem dX3_takeOff_30 : decode cX3_takeOff 30 = .ok (.invokestatic 114, 3) := by decide +kernel
theorem dX3_takeOff_33 : decode cX3_takeOff 33 = .ok (.iinc 3 1, 3) := by decide +kernel
theorem dX3_takeOff_36 : decode cX3_takeOff 36 = .ok (.goto (-27), 3) := by decide +kernel
theorem dX3_takeOff_39 : decode cX3_takeOff 39 = .ok (.aload_n 0, 1) := by decide +kernel
theorem dX3_takeOff_40 : decode cX3_takeOff 40 = .ok (.iload_n 2, 1) := by decide +kernel
theorem dX3_takeOff_41 : decode cX3_takeOff 41 = .ok (.putfield 44, 3) := by decide +kernel
theorem dX3_takeOff_44 : decode cX3_takeOff 44 = .ok (.aload_n 0, 1) := by decide +kernel
theorem dX3_takeOff_45 : decode cX3_takeOff 45 = .ok (.dup, 1) := by decide +kernel
theorem dX3_takeOff_46 : decode cX3_takeOff 46 = .ok (.getfield 51, 3) := by decide +kernel
theorem dX3_takeOff_49 : decode cX3_takeOff 49 = .ok (.iload_n 1, 1) := by decide +kernel
theorem dX3_takeOff_50 : decode cX3_takeOff 50 = .ok (.iadd, 1) := by decide +kernel
theorem dX3_takeOff_51 : decode cX3_takeOff 51 = .ok (.putfield 51, 3) := by decide +kernel
theorem dX3_takeOff_54 : decode cX3_takeOff 54 = .ok (.iconst 1, 1) := by decide +kernel
theorem dX3_takeOff_55 : decode cX3_takeOff 55 = .ok (.istore_n 3, 1) := by decide +kernel
theorem dX3_takeOff_56 : decode cX3_takeOff 56 = .ok (.iconst 1, 1) := by decide +kernel
theorem dX3_takeOff_57 : decode cX3_takeOff 57 = .ok (.istore 4, 2) := by decide +kernel
theorem dX3_takeOff_59 : decode cX3_takeOff 59 = .ok (.iload 4, 2) := by decide +kernel
theorem dX3_takeOff_61 : decode cX3_takeOff 61 = .ok (.aload_n 0, 1) := by decide +kernel
theorem dX3_takeOff_62 : decode cX3_takeOff 62 = .ok (.getfield 48, 3) := by decide +kernel
theorem dX3_takeOff_65 : decode cX3_takeOff 65 = .ok (.if_icmp .ge 25, 3) := by decide +kernel
theorem dX3_takeOff_68 : decode cX3_takeOff 68 = .ok (.aload_n 0, 1) := by decide +kernel
theorem dX3_takeOff_69 : decode cX3_takeOff 69 = .ok (.getfield 41, 3) := by decide +kernel
theorem dX3_takeOff_72 : decode cX3_takeOff 72 = .ok (.iload 4, 2) := by decide +kernel
theorem dX3_takeOff_74 : decode cX3_takeOff 74 = .ok (.invokestatic 58, 3) := by decide +kernel
theorem dX3_takeOff_77 : decode cX3_takeOff 77 = .ok (.iload_n 2, 1) := by decide +kernel
theorem dX3_takeOff_78 : decode cX3_takeOff 78 = .ok (.if_icmp .gt 6, 3) := by decide +kernel
theorem dX3_takeOff_81 : decode cX3_takeOff 81 = .ok (.iinc 3 1, 3) := by decide +kernel
theorem dX3_takeOff_84 : decode cX3_takeOff 84 = .ok (.iinc 4 1, 3) := by decide +kernel
theorem dX3_takeOff_87 : decode cX3_takeOff 87 = .ok (.goto (-28), 3) := by decide +kernel
theorem dX3_takeOff_90 : decode cX3_takeOff 90 = .ok (.aload_n 0, 1) := by decide +kernel
theorem dX3_takeOff_91 : decode cX3_takeOff 91 = .ok (.iload_n 3, 1) := by decide +kernel
theorem dX3_takeOff_92 : decode cX3_takeOff 92 = .ok (.putfield 48, 3) := by decide +kernel
theorem dX3_takeOff_95 : decode cX3_takeOff 95 = .ok (.return_, 1) := by decide +kernel
theorem dX3_crushBead_0 : decode cX3_crushBead 0 = .ok (.aload_n 0, 1) := by decide +kernel
theorem dX3_crushBead_1 : decode cX3_crushBead 1 = .ok (.iload_n 1, 1) := by decide +kernel
theorem dX3_crushBead_2 : decode cX3_crushBead 2 = .ok (.invokevirtual 90, 3) := by decide +kernel
theorem dX3_crushBead_5 : decode cX3_crushBead 5 = .ok (.istore_n 2, 1) := by decide +kernel
theorem dX3_crushBead_6 : decode cX3_crushBead 6 = .ok (.aload_n 0, 1) := by decide +kernel
theorem dX3_crushBead_7 : decode cX3_crushBead 7 = .ok (.iload_n 2, 1) := by decide +kernel
theorem dX3_crushBead_8 : decode cX3_crushBead 8 = .ok (.invokevirtual 87, 3) := by decide +kernel
theorem dX3_crushBead_11 : decode cX3_crushBead 11 = .ok (.iconst 1, 1) := by decide +kernel
theorem dX3_crushBead_12 : decode cX3_crushBead 12 = .ok (.if_icmp .ne 17, 3) := by decide +kernel
theorem dX3_crushBead_15 : decode cX3_crushBead 15 = .ok (.iload_n 2, 1) := by decide +kernel
theorem dX3_crushBead_16 : decode cX3_crushBead 16 = .ok (.aload_n 0, 1) := by decide +kernel
theorem dX3_crushBead_17 : decode cX3_crushBead 17 = .ok (.getfield 48, 3) := by decide +kernel
theorem dX3_crushBead_20 : decode cX3_crushBead 20 = .ok (.iconst 1, 1) := by decide +kernel
theorem dX3_crushBead_21 : decode cX3_crushBead 21 = .ok (.isub, 1) := by decide +kernel
theorem dX3_crushBead_22 : decode cX3_crushBead 22 = .ok (.if_icmp .ge 7, 3) := by decide +kernel
theorem dX3_crushBead_25 : decode cX3_crushBead 25 = .ok (.iconst 1, 1) := by decide +kernel
theorem dX3_crushBead_26 : decode cX3_crushBead 26 = .ok (.goto 4, 3) := by decide +kernel
theorem dX3_crushBead_29 : decode cX3_crushBead 29 = .ok (.iconst 0, 1) := by decide +kernel
theorem dX3_crushBead_30 : decode cX3_crushBead 30 = .ok (.istore_n 3, 1) := by decide +kernel
theorem dX3_crushBead_31 : decode cX3_crushBead 31 = .ok (.aload_n 0, 1) := by decide +kernel
theorem dX3_crushBead_32 : decode cX3_crushBead 32 = .ok (.getfield 35, 3) := by decide +kernel
theorem dX3_crushBead_35 : decode cX3_crushBead 35 = .ok (.aload_n 0, 1) := by decide +kernel
theorem dX3_crushBead_36 : decode cX3_crushBead 36 = .ok (.getfield 38, 3) := by decide +kernel
theorem dX3_crushBead_39 : decode cX3_crushBead 39 = .ok (.iload_n 1, 1) := by decide +kernel
theorem dX3_crushBead_40 : decode cX3_crushBead 40 = .ok (.invokestatic 58, 3) := by decide +kernel
theorem dX3_crushBead_43 : decode cX3_crushBead 43 = .ok (.iconst 1, 1) := by decide +kernel
theorem dX3_crushBead_44 : decode cX3_crushBead 44 = .ok (.invokestatic 114, 3) := by decide +kernel
theorem dX3_crushBead_47 : decode cX3_crushBead 47 = .ok (.iload_n 1, 1) := by decide +kernel
theorem dX3_crushBead_48 : decode cX3_crushBead 48 = .ok (.iconst 1, 1) := by decide +kernel
theorem dX3_crushBead_49 : decode cX3_crushBead 49 = .ok (.iadd, 1) := by decide +kernel
theorem dX3_crushBead_50 : decode cX3_crushBead 50 = .ok (.istore 4, 2) := by decide +kernel
theorem dX3_crushBead_52 : decode cX3_crushBead 52 = .ok (.iload 4, 2) := by decide +kernel
theorem dX3_crushBead_54 : decode cX3_crushBead 54 = .ok (.aload_n 0, 1) := by decide +kernel
theorem dX3_crushBead_55 : decode cX3_crushBead 55 = .ok (.getfield 44, 3) := by decide +kernel
theorem dX3_crushBead_58 : decode cX3_crushBead 58 = .ok (.if_icmp .ge 29, 3) := by decide +kernel
theorem dX3_crushBead_61 : decode cX3_crushBead 61 = .ok (.aload_n 0, 1) := by decide +kernel
theorem dX3_crushBead_62 : decode cX3_crushBead 62 = .ok (.getfield 38, 3) := by decide +kernel
theorem dX3_crushBead_65 : decode cX3_crushBead 65 = .ok (.iload 4, 2) := by decide +kernel
theorem dX3_crushBead_67 : decode cX3_crushBead 67 = .ok (.iconst 1, 1) := by decide +kernel
theorem dX3_crushBead_68 : decode cX3_crushBead 68 = .ok (.isub, 1) := by decide +kernel
theorem dX3_crushBead_69 : decode cX3_crushBead 69 = .ok (.aload_n 0, 1) := by decide +kernel
theorem dX3_crushBead_70 : decode cX3_crushBead 70 = .ok (.getfield 38, 3) := by decide +kernel
theorem dX3_crushBead_73 : decode cX3_crushBead 73 = .ok (.iload 4, 2) := by decide +kernel
theorem dX3_crushBead_75 : decode cX3_crushBead 75 = .ok (.invokestatic 58, 3) := by decide +kernel
theorem dX3_crushBead_78 : decode cX3_crushBead 78 = .ok (.invokestatic 110, 3) := by decide +kernel
theorem dX3_crushBead_81 : decode cX3_crushBead 81 = .ok (.iinc 4 1, 3) := by decide +kernel
theorem dX3_crushBead_84 : decode cX3_crushBead 84 = .ok (.goto (-32), 3) := by decide +kernel
theorem dX3_crushBead_87 : decode cX3_crushBead 87 = .ok (.iload_n 2, 1) := by decide +kernel
theorem dX3_crushBead_88 : decode cX3_crushBead 88 = .ok (.iconst 1, 1) := by decide +kernel
theorem dX3_crushBead_89 : decode cX3_crushBead 89 = .ok (.iadd, 1) := by decide +kernel
theorem dX3_crushBead_90 : decode cX3_crushBead 90 = .ok (.istore 4, 2) := by decide +kernel
theorem dX3_crushBead_92 : decode cX3_crushBead 92 = .ok (.iload 4, 2) := by decide +kernel
theorem dX3_crushBead_94 : decode cX3_crushBead 94 = .ok (.aload_n 0, 1) := by decide +kernel
theorem dX3_crushBead_95 : decode cX3_crushBead 95 = .ok (.getfield 48, 3) := by decide +kernel
theorem dX3_crushBead_98 : decode cX3_crushBead 98 = .ok (.if_icmp .ge 40, 3) := by decide +kernel
theorem dX3_crushBead_101 : decode cX3_crushBead 101 = .ok (.aload_n 0, 1) := by decide +kernel
theorem dX3_crushBead_102 : decode cX3_crushBead 102 = .ok (.getfield 41, 3) := by decide +kernel
theorem dX3_crushBead_105 : decode cX3_crushBead 105 = .ok (.iload_n 3, 1) := by decide +kernel
theorem dX3_crushBead_106 : decode cX3_crushBead 106 = .ok (.ifCond .eq 10, 3) := by decide +kernel
theorem dX3_crushBead_109 : decode cX3_crushBead 109 = .ok (.iload 4, 2) := by decide +kernel
theorem dX3_crushBead_111 : decode cX3_crushBead 111 = .ok (.iconst 1, 1) := by decide +kernel
theorem dX3_crushBead_112 : decode cX3_crushBead 112 = .ok (.isub, 1) := by decide +kernel
