theorem dX0_init_0 : decode cX0_init 0 = .ok (.aload_n 0, 1) := by decide +kernel
theorem dX0_init_1 : decode cX0_init 1 = .ok (.invokespecial 3, 3) := by decide +kernel
theorem dX0_init_4 : decode cX0_init 4 = .ok (.aload_n 0, 1) := by decide +kernel
theorem dX0_init_5 : decode cX0_init 5 = .ok (.bipush 120, 2) := by decide +kernel
theorem dX0_init_7 : decode cX0_init 7 = .ok (.newarray .int, 2) := by decide +kernel
theorem dX0_init_9 : decode cX0_init 9 = .ok (.putfield 9, 3) := by decide +kernel
theorem dX0_init_12 : decode cX0_init 12 = .ok (.aload_n 0, 1) := by decide +kernel
theorem dX0_init_13 : decode cX0_init 13 = .ok (.iconst 1, 1) := by decide +kernel
theorem dX0_init_14 : decode cX0_init 14 = .ok (.putfield 15, 3) := by decide +kernel
theorem dX0_init_17 : decode cX0_init 17 = .ok (.aload_n 0, 1) := by decide +kernel
theorem dX0_init_18 : decode cX0_init 18 = .ok (.iconst 1, 1) := by decide +kernel
theorem dX0_init_19 : decode cX0_init 19 = .ok (.putfield 19, 3) := by decide +kernel
theorem dX0_init_22 : decode cX0_init 22 = .ok (.return_, 1) := by decide +kernel
theorem dX0_copyFrom_0 : decode cX0_copyFrom 0 = .ok (.aload_n 1, 1) := by decide +kernel
theorem dX0_copyFrom_1 : decode cX0_copyFrom 1 = .ok (.ifnonnull 4, 3) := by decide +kernel
theorem dX0_copyFrom_4 : decode cX0_copyFrom 4 = .ok (.return_, 1) := by decide +kernel
theorem dX0_copyFrom_5 : decode cX0_copyFrom 5 = .ok (.aload_n 0, 1) := by decide +kernel
theorem dX0_copyFrom_6 : decode cX0_copyFrom 6 = .ok (.aload_n 1, 1) := by decide +kernel
theorem dX0_copyFrom_7 : decode cX0_copyFrom 7 = .ok (.getfield 15, 3) := by decide +kernel
theorem dX0_copyFrom_10 : decode cX0_copyFrom 10 = .ok (.putfield 15, 3) := by decide +kernel
theorem dX0_copyFrom_13 : decode cX0_copyFrom 13 = .ok (.aload_n 0, 1) := by decide +kernel
theorem dX0_copyFrom_14 : decode cX0_copyFrom 14 = .ok (.aload_n 1, 1) := by decide +kernel
theorem dX0_copyFrom_15 : decode cX0_copyFrom 15 = .ok (.getfield 19, 3) := by decide +kernel
theorem dX0_copyFrom_18 : decode cX0_copyFrom 18 = .ok (.putfield 19, 3) := by decide +kernel
theorem dX0_copyFrom_21 : decode cX0_copyFrom 21 = .ok (.aload_n 1, 1) := by decide +kernel
theorem dX0_copyFrom_22 : decode cX0_copyFrom 22 = .ok (.getfield 9, 3) := by decide +kernel
theorem dX0_copyFrom_25 : decode cX0_copyFrom 25 = .ok (.aload_n 0, 1) := by decide +kernel
theorem dX0_copyFrom_26 : decode cX0_copyFrom 26 = .ok (.getfield 9, 3) := by decide +kernel
theorem dX0_copyFrom_29 : decode cX0_copyFrom 29 = .ok (.invokestatic 22, 3) := by decide +kernel
theorem dX0_copyFrom_32 : decode cX0_copyFrom 32 = .ok (.return_, 1) := by decide +kernel
theorem dX0_cellAt_0 : decode cX0_cellAt 0 = .ok (.aload_n 0, 1) := by decide +kernel
theorem dX0_cellAt_1 : decode cX0_cellAt 1 = .ok (.getfield 9, 3) := by decide +kernel
theorem dX0_cellAt_4 : decode cX0_cellAt 4 = .ok (.iload_n 1, 1) := by decide +kernel
theorem dX0_cellAt_5 : decode cX0_cellAt 5 = .ok (.bipush 12, 2) := by decide +kernel
theorem dX0_cellAt_7 : decode cX0_cellAt 7 = .ok (.imul, 1) := by decide +kernel
theorem dX0_cellAt_8 : decode cX0_cellAt 8 = .ok (.iload_n 2, 1) := by decide +kernel
theorem dX0_cellAt_9 : decode cX0_cellAt 9 = .ok (.iadd, 1) := by decide +kernel
theorem dX0_cellAt_10 : decode cX0_cellAt 10 = .ok (.invokestatic 26, 3) := by decide +kernel
theorem dX0_cellAt_13 : decode cX0_cellAt 13 = .ok (.ireturn, 1) := by decide +kernel
theorem dX0_putCell_0 : decode cX0_putCell 0 = .ok (.aload_n 0, 1) := by decide +kernel
theorem dX0_putCell_1 : decode cX0_putCell 1 = .ok (.getfield 9, 3) := by decide +kernel
theorem dX0_putCell_4 : decode cX0_putCell 4 = .ok (.iload_n 1, 1) := by decide +kernel
theorem dX0_putCell_5 : decode cX0_putCell 5 = .ok (.bipush 12, 2) := by decide +kernel
theorem dX0_putCell_7 : decode cX0_putCell 7 = .ok (.imul, 1) := by decide +kernel
theorem dX0_putCell_8 : decode cX0_putCell 8 = .ok (.iload_n 2, 1) := by decide +kernel
theorem dX0_putCell_9 : decode cX0_putCell 9 = .ok (.iadd, 1) := by decide +kernel
theorem dX0_putCell_10 : decode cX0_putCell 10 = .ok (.iload_n 3, 1) := by decide +kernel
theorem dX0_putCell_11 : decode cX0_putCell 11 = .ok (.invokestatic 30, 3) := by decide +kernel
theorem dX0_putCell_14 : decode cX0_putCell 14 = .ok (.return_, 1) := by decide +kernel
theorem dX0_placeFor_0 : decode cX0_placeFor 0 = .ok (.iload_n 2, 1) := by decide +kernel
theorem dX0_placeFor_1 : decode cX0_placeFor 1 = .ok (.iconst 1, 1) := by decide +kernel
theorem dX0_placeFor_2 : decode cX0_placeFor 2 = .ok (.if_icmp .lt 19, 3) := by decide +kernel
theorem dX0_placeFor_5 : decode cX0_placeFor 5 = .ok (.aload_n 0, 1) := by decide +kernel
theorem dX0_placeFor_6 : decode cX0_placeFor 6 = .ok (.getfield 15, 3) := by decide +kernel
theorem dX0_placeFor_9 : decode cX0_placeFor 9 = .ok (.iconst 1, 1) := by decide +kernel
theorem dX0_placeFor_10 : decode cX0_placeFor 10 = .ok (.if_icmp .lt 11, 3) := by decide +kernel
theorem dX0_placeFor_13 : decode cX0_placeFor 13 = .ok (.aload_n 0, 1) := by decide +kernel
theorem dX0_placeFor_14 : decode cX0_placeFor 14 = .ok (.getfield 19, 3) := by decide +kernel
theorem dX0_placeFor_17 : decode cX0_placeFor 17 = .ok (.iconst 1, 1) := by decide +kernel
theorem dX0_placeFor_18 : decode cX0_placeFor 18 = .ok (.if_icmp .ge 5, 3) := by decide +kernel
theorem dX0_placeFor_21 : decode cX0_placeFor 21 = .ok (.iconst 0, 1) := by decide +kernel
theorem dX0_placeFor_22 : decode cX0_placeFor 22 = .ok (.ireturn, 1) := by decide +kernel
theorem dX0_placeFor_23 : decode cX0_placeFor 23 = .ok (.iload_n 1, 1) := by decide +kernel
theorem dX0_placeFor_24 : decode cX0_placeFor 24 = .ok (.iload_n 2, 1) := by decide +kernel
theorem dX0_placeFor_25 : decode cX0_placeFor 25 = .ok (.idiv, 1) := by decide +kernel
theorem dX0_placeFor_26 : decode cX0_placeFor 26 = .ok (.istore 4, 2) := by decide +kernel
theorem dX0_placeFor_28 : decode cX0_placeFor 28 = .ok (.iload 4, 2) := by decide +kernel
theorem dX0_placeFor_30 : decode cX0_placeFor 30 = .ok (.aload_n 0, 1) := by decide +kernel
theorem dX0_placeFor_31 : decode cX0_placeFor 31 = .ok (.getfield 15, 3) := by decide +kernel
theorem dX0_placeFor_34 : decode cX0_placeFor 34 = .ok (.irem, 1) := by decide +kernel
theorem dX0_placeFor_35 : decode cX0_placeFor 35 = .ok (.bipush 12, 2) := by decide +kernel
theorem dX0_placeFor_37 : decode cX0_placeFor 37 = .ok (.imul, 1) := by decide +kernel
theorem dX0_placeFor_38 : decode cX0_placeFor 38 = .ok (.iload_n 1, 1) := by decide +kernel
theorem dX0_placeFor_39 : decode cX0_placeFor 39 = .ok (.iload_n 2, 1) := by decide +kernel
theorem dX0_placeFor_40 : decode cX0_placeFor 40 = .ok (.irem, 1) := by decide +kernel
theorem dX0_placeFor_41 : decode cX0_placeFor 41 = .ok (.iload_n 3, 1) := by decide +kernel
theorem dX0_placeFor_42 : decode cX0_placeFor 42 = .ok (.iload 4, 2) := by decide +kernel
theorem dX0_placeFor_44 : decode cX0_placeFor 44 = .ok (.imul, 1) := by decide +kernel
theorem dX0_placeFor_45 : decode cX0_placeFor 45 = .ok (.iadd, 1) := by decide +kernel
theorem dX0_placeFor_46 : decode cX0_placeFor 46 = .ok (.aload_n 0, 1) := by decide +kernel
theorem dX0_placeFor_47 : decode cX0_placeFor 47 = .ok (.getfield 19, 3) := by decide +kernel
theorem dX0_placeFor_50 : decode cX0_placeFor 50 = .ok (.irem, 1) := by decide +kernel
theorem dX0_placeFor_51 : decode cX0_placeFor 51 = .ok (.iadd, 1) := by decide +kernel
theorem dX0_placeFor_52 : decode cX0_placeFor 52 = .ok (.ireturn, 1) := by decide +kernel
theorem dX0_cellsOf_0 : decode cX0_cellsOf 0 = .ok (.iconst 0, 1) := by decide +kernel
theorem dX0_cellsOf_1 : decode cX0_cellsOf 1 = .ok (.istore_n 2, 1) := by decide +kernel
theorem dX0_cellsOf_2 : decode cX0_cellsOf 2 = .ok (.iconst 0, 1) := by decide +kernel
theorem dX0_cellsOf_3 : decode cX0_cellsOf 3 = .ok (.istore_n 3, 1) := by decide +kernel
theorem dX0_cellsOf_4 : decode cX0_cellsOf 4 = .ok (.iload_n 3, 1) := by decide +kernel
theorem dX0_cellsOf_5 : decode cX0_cellsOf 5 = .ok (.aload_n 0, 1) := by decide +kernel
theorem dX0_cellsOf_6 : decode cX0_cellsOf 6 = .ok (.getfield 15, 3) := by decide +kernel
theorem dX0_cellsOf_9 : decode cX0_cellsOf 9 = .ok (.if_icmp .ge 41, 3) := by decide +kernel
theorem dX0_cellsOf_12 : decode cX0_cellsOf 12 = .ok (.iconst 0, 1) := by decide +kernel
theorem dX0_cellsOf_13 : decode cX0_cellsOf 13 = .ok (.istore 4, 2) := by decide +kernel
theorem dX0_cellsOf_15 : decode cX0_cellsOf 15 = .ok (.iload 4, 2) := by decide +kernel
theorem dX0_cellsOf_17 : decode cX0_cellsOf 17 = .ok (.aload_n 0, 1) := by decide +kernel
theorem dX0_cellsOf_18 : decode cX0_cellsOf 18 = .ok (.getfield 19, 3) := by decide +kernel
theorem dX0_cellsOf_21 : decode cX0_cellsOf 21 = .ok (.if_icmp .ge 23, 3) := by decide +kernel
theorem dX0_cellsOf_24 : decode cX0_cellsOf 24 = .ok (.aload_n 0, 1) := by decide +kernel
theorem dX0_cellsOf_25 : decode cX0_cellsOf 25 = .ok (.iload_n 3, 1) := by decide +kernel
theorem dX0_cellsOf_26 : decode cX0_cellsOf 26 = .ok (.iload 4, 2) := by decide +kernel
theorem dX0_cellsOf_28 : decode cX0_cellsOf 28 = .ok (.invokevirtual 34, 3) := by decide +kernel
theorem dX0_cellsOf_31 : decode cX0_cellsOf 31 = .ok (.iload_n 1, 1) := by decide +kernel
theorem dX0_cellsOf_32 : decode cX0_cellsOf 32 = .ok (.if_icmp .ne 6, 3) := by decide +kernel
theorem dX0_cellsOf_35 : decode cX0_cellsOf 35 = .ok (.iinc 2 1, 3) := by decide +kernel
theorem dX0_cellsOf_38 : decode cX0_cellsOf 38 = .ok (.iinc 4 1, 3) := by decide +kernel
theorem dX0_cellsOf_41 : decode cX0_cellsOf 41 = .ok (.goto (-26), 3) := by decide +kernel
theorem dX0_cellsOf_44 : decode cX0_cellsOf 44 = .ok (.iinc 3 1, 3) := by decide +kernel
theorem dX0_cellsOf_47 : decode cX0_cellsOf 47 = .ok (.goto (-43), 3) := by decide +kernel
theorem dX0_cellsOf_50 : decode cX0_cellsOf 50 = .ok (.iload_n 2, 1) := by decide +kernel
theorem dX0_cellsOf_51 : decode cX0_cellsOf 51 = .ok (.ireturn, 1) := by decide +kernel
theorem dX0_differentColours_0 : decode cX0_differentColours 0 = .ok (.iconst 0, 1) := by decide +kernel
theorem dX0_differentColours_1 : decode cX0_differentColours 1 = .ok (.istore_n 1, 1) := by decide +kernel
theorem dX0_differentColours_2 : decode cX0_differentColours 2 = .ok (.iconst 0, 1) := by decide +kernel
theorem dX0_differentColours_3 : decode cX0_differentColours 3 = .ok (.istore_n 2, 1) := by decide +kernel
theorem dX0_differentColours_4 : decode cX0_differentColours 4 = .ok (.iload_n 2, 1) := by decide +kernel
theorem dX0_differentColours_5 : decode cX0_differentColours 5 = .ok (.bipush 6, 2) := by decide +kernel
theorem dX0_differentColours_7 : decode cX0_differentColours 7 = .ok (.if_icmp .ge 20, 3) := by decide +kernel
theorem dX0_differentColours_10 : decode cX0_differentColours 10 = .ok (.aload_n 0, 1) := by decide +kernel
theorem dX0_differentColours_11 : decode cX0_differentColours 11 = .ok (.iload_n 2, 1) := by decide +kernel
theorem dX0_differentColours_12 : decode cX0_differentColours 12 = .ok (.invokevirtual 38, 3) := by decide +kernel
theorem dX0_differentColours_15 : decode cX0_differentColours 15 = .ok (.ifCond .le 6, 3) := by decide +kernel
theorem dX0_differentColours_18 : decode cX0_differentColours 18 = .ok (.iinc 1 1, 3) := by decide +kernel
theorem dX0_differentColours_21 : decode cX0_differentColours 21 = .ok (.iinc 2 1, 3) := by decide +kernel
theorem dX0_differentColours_24 : decode cX0_differentColours 24 = .ok (.goto (-20), 3) := by decide +kernel
theorem dX0_differentColours_27 : decode cX0_differentColours 27 = .ok (.iload_n 1, 1) := by decide +kernel
theorem dX0_differentColours_28 : decode cX0_differentColours 28 = .ok (.ireturn, 1) := by decide +kernel
theorem dX0_swapColours_0 : decode cX0_swapColours 0 = .ok (.iload_n 1, 1) := by decide +kernel
theorem dX0_swapColours_1 : decode cX0_swapColours 1 = .ok (.iload_n 2, 1) := by decide +kernel
theorem dX0_swapColours_2 : decode cX0_swapColours 2 = .ok (.if_icmp .ne 5, 3) := by decide +kernel
theorem dX0_swapColours_5 : decode cX0_swapColours 5 = .ok (.iconst 0, 1) := by decide +kernel
theorem dX0_swapColours_6 : decode cX0_swapColours 6 = .ok (.ireturn, 1) := by decide +kernel
theorem dX0_swapColours_7 : decode cX0_swapColours 7 = .ok (.iconst 0, 1) := by decide +kernel
theorem dX0_swapColours_8 : decode cX0_swapColours 8 = .ok (.istore_n 3, 1) := by decide +kernel
theorem dX0_swapColours_9 : decode cX0_swapColours 9 = .ok (.iconst 0, 1) := by decide +kernel
theorem dX0_swapColours_10 : decode cX0_swapColours 10 = .ok (.istore 4, 2) := by decide +kernel
theorem dX0_swapColours_12 : decode cX0_swapColours 12 = .ok (.iload 4, 2) := by decide +kernel
theorem dX0_swapColours_14 : decode cX0_swapColours 14 = .ok (.aload_n 0, 1) := by decide +kernel
theorem dX0_swapColours_15 : decode cX0_swapColours 15 = .ok (.getfield 15, 3) := by decide +kernel
theorem dX0_swapColours_18 : decode cX0_swapColours 18 = .ok (.if_icmp .ge 71, 3) := by decide +kernel
theorem dX0_swapColours_21 : decode cX0_swapColours 21 = .ok (.iconst 0, 1) := by decide +kernel
theorem dX0_swapColours_22 : decode cX0_swapColours 22 = .ok (.istore 5, 2) := by decide +kernel
theorem dX0_swapColours_24 : decode cX0_swapColours 24 = .ok (.iload 5, 2) := by decide +kernel
theorem dX0_swapColours_26 : decode cX0_swapColours 26 = .ok (.aload_n 0, 1) := by decide +kernel
theorem dX0_swapColours_27 : decode cX0_swapColours 27 = .ok (.getfield 19, 3) := by decide +kernel
theorem dX0_swapColours_30 : decode cX0_swapColours 30 = .ok (.if_icmp .ge 53, 3) := by decide +kernel
theorem dX0_swapColours_33 : decode cX0_swapColours 33 = .ok (.aload_n 0, 1) := by decide +kernel
theorem dX0_swapColours_34 : decode cX0_swapColours 34 = .ok (.iload 4, 2) := by decide +kernel
theorem dX0_swapColours_36 : decode cX0_swapColours 36 = .ok (.iload 5, 2) := by decide +kernel
theorem dX0_swapColours_38 : decode cX0_swapColours 38 = .ok (.invokevirtual 34, 3) := by decide +kernel
theorem dX0_swapColours_41 : decode cX0_swapColours 41 = .ok (.istore 6, 2) := by decide +kernel
theorem dX0_swapColours_43 : decode cX0_swapColours 43 = .ok (.iload 6, 2) := by decide +kernel
theorem dX0_swapColours_45 : decode cX0_swapColours 45 = .ok (.iload_n 1, 1) := by decide +kernel
theorem dX0_swapColours_46 : decode cX0_swapColours 46 = .ok (.if_icmp .eq 9, 3) := by decide +kernel
theorem dX0_swapColours_49 : decode cX0_swapColours 49 = .ok (.iload 6, 2) := by decide +kernel
theorem dX0_swapColours_51 : decode cX0_swapColours 51 = .ok (.iload_n 2, 1) := by decide +kernel
theorem dX0_swapColours_52 : decode cX0_swapColours 52 = .ok (.if_icmp .ne 25, 3) := by decide +kernel
theorem dX0_swapColours_55 : decode cX0_swapColours 55 = .ok (.aload_n 0, 1) := by decide +kernel
theorem dX0_swapColours_56 : decode cX0_swapColours 56 = .ok (.iload 4, 2) := by decide +kernel
theorem dX0_swapColours_58 : decode cX0_swapColours 58 = .ok (.iload 5, 2) := by decide +kernel
theorem dX0_swapColours_60 : decode cX0_swapColours 60 = .ok (.iload 6, 2) := by decide +kernel
theorem dX0_swapColours_62 : decode cX0_swapColours 62 = .ok (.iload_n 1, 1) := by decide +kernel
theorem dX0_swapColours_63 : decode cX0_swapColours 63 = .ok (.if_icmp .ne 7, 3) := by decide +kernel
theorem dX0_swapColours_66 : decode cX0_swapColours 66 = .ok (.iload_n 2, 1) := by decide +kernel
theorem dX0_swapColours_67 : decode cX0_swapColours 67 = .ok (.goto 4, 3) := by decide +kernel
theorem dX0_swapColours_70 : decode cX0_swapColours 70 = .ok (.iload_n 1, 1) := by decide +kernel
theorem dX0_swapColours_71 : decode cX0_swapColours 71 = .ok (.invokevirtual 42, 3) := by decide +kernel
theorem dX0_swapColours_74 : decode cX0_swapColours 74 = .ok (.iinc 3 1, 3) := by decide +kernel
theorem dX0_swapColours_77 : decode cX0_swapColours 77 = .ok (.iinc 5 1, 3) := by decide +kernel
theorem dX0_swapColours_80 : decode cX0_swapColours 80 = .ok (.goto (-56), 3) := by decide +kernel
theorem dX0_swapColours_83 : decode cX0_swapColours 83 = .ok (.iinc 4 1, 3) := by decide +kernel
theorem dX0_swapColours_86 : decode cX0_swapColours 86 = .ok (.goto (-74), 3) := by decide +kernel
theorem dX0_swapColours_89 : decode cX0_swapColours 89 = .ok (.iload_n 3, 1) := by decide +kernel
theorem dX0_swapColours_90 : decode cX0_swapColours 90 = .ok (.ireturn, 1) := by decide +kernel
theorem dX0_canTurn_0 : decode cX0_canTurn 0 = .ok (.iload_n 1, 1) := by decide +kernel
theorem dX0_canTurn_1 : decode cX0_canTurn 1 = .ok (.iconst 4, 1) := by decide +kernel
theorem dX0_canTurn_2 : decode cX0_canTurn 2 = .ok (.if_icmp .ne 12, 3) := by decide +kernel
theorem dX0_canTurn_5 : decode cX0_canTurn 5 = .ok (.aload_n 0, 1) := by decide +kernel
theorem dX0_canTurn_6 : decode cX0_canTurn 6 = .ok (.getfield 19, 3) := by decide +kernel
theorem dX0_canTurn_9 : decode cX0_canTurn 9 = .ok (.bipush 10, 2) := by decide +kernel
theorem dX0_canTurn_11 : decode cX0_canTurn 11 = .ok (.if_icmp .gt 7, 3) := by decide +kernel
theorem dX0_canTurn_14 : decode cX0_canTurn 14 = .ok (.iconst 1, 1) := by decide +kernel
theorem dX0_canTurn_15 : decode cX0_canTurn 15 = .ok (.goto 4, 3) := by decide +kernel
theorem dX0_canTurn_18 : decode cX0_canTurn 18 = .ok (.iconst 0, 1) := by decide +kernel
theorem dX0_canTurn_19 : decode cX0_canTurn 19 = .ok (.ireturn, 1) := by decide +kernel
theorem dX0_turnInto_0 : decode cX0_turnInto 0 = .ok (.aload_n 1, 1) := by decide +kernel
theorem dX0_turnInto_1 : decode cX0_turnInto 1 = .ok (.ifnonnull 4, 3) := by decide +kernel
theorem dX0_turnInto_4 : decode cX0_turnInto 4 = .ok (.return_, 1) := by decide +kernel
theorem dX0_turnInto_5 : decode cX0_turnInto 5 = .ok (.iload_n 2, 1) := by decide +kernel
theorem dX0_turnInto_6 : decode cX0_turnInto 6 = .ok (.iconst 4, 1) := by decide +kernel
theorem dX0_turnInto_7 : decode cX0_turnInto 7 = .ok (.if_icmp .ne 7, 3) := by decide +kernel
theorem dX0_turnInto_10 : decode cX0_turnInto 10 = .ok (.iconst 1, 1) := by decide +kernel
theorem dX0_turnInto_11 : decode cX0_turnInto 11 = .ok (.goto 4, 3) := by decide +kernel
theorem dX0_turnInto_14 : decode cX0_turnInto 14 = .ok (.iconst 0, 1) := by decide +kernel
theorem dX0_turnInto_15 : decode cX0_turnInto 15 = .ok (.istore_n 3, 1) := by decide +kernel
theorem dX0_turnInto_16 : decode cX0_turnInto 16 = .ok (.iload_n 3, 1) := by decide +kernel
theorem dX0_turnInto_17 : decode cX0_turnInto 17 = .ok (.ifCond .eq 10, 3) := by decide +kernel
theorem dX0_turnInto_20 : decode cX0_turnInto 20 = .ok (.aload_n 0, 1) := by decide +kernel
theorem dX0_turnInto_21 : decode cX0_turnInto 21 = .ok (.getfield 19, 3) := by decide +kernel
theorem dX0_turnInto_24 : decode cX0_turnInto 24 = .ok (.goto 7, 3) := by decide +kernel
theorem dX0_turnInto_27 : decode cX0_turnInto 27 = .ok (.aload_n 0, 1) := by decide +kernel
theorem dX0_turnInto_28 : decode cX0_turnInto 28 = .ok (.getfield 15, 3) := by decide +kernel
theorem dX0_turnInto_31 : decode cX0_turnInto 31 = .ok (.istore 4, 2) := by decide +kernel
theorem dX0_turnInto_33 : decode cX0_turnInto 33 = .ok (.iload_n 3, 1) := by decide +kernel
theorem dX0_turnInto_34 : decode cX0_turnInto 34 = .ok (.ifCond .eq 10, 3) := by decide +kernel
theorem dX0_turnInto_37 : decode cX0_turnInto 37 = .ok (.aload_n 0, 1) := by decide +kernel
theorem dX0_turnInto_38 : decode cX0_turnInto 38 = .ok (.getfield 15, 3) := by decide +kernel
theorem dX0_turnInto_41 : decode cX0_turnInto 41 = .ok (.goto 7, 3) := by decide +kernel
theorem dX0_turnInto_44 : decode cX0_turnInto 44 = .ok (.aload_n 0, 1) := by decide +kernel
theorem dX0_turnInto_45 : decode cX0_turnInto 45 = .ok (.getfield 19, 3) := by decide +kernel
theorem dX0_turnInto_48 : decode cX0_turnInto 48 = .ok (.istore 5, 2) := by decide +kernel
theorem dX0_turnInto_50 : decode cX0_turnInto 50 = .ok (.iconst 0, 1) := by decide +kernel
theorem dX0_turnInto_51 : decode cX0_turnInto 51 = .ok (.istore 6, 2) := by decide +kernel
theorem dX0_turnInto_53 : decode cX0_turnInto 53 = .ok (.iload 6, 2) := by decide +kernel
theorem dX0_turnInto_55 : decode cX0_turnInto 55 = .ok (.iload 4, 2) := by decide +kernel
theorem dX0_turnInto_57 : decode cX0_turnInto 57 = .ok (.if_icmp .ge 42, 3) := by decide +kernel
theorem dX0_turnInto_60 : decode cX0_turnInto 60 = .ok (.iconst 0, 1) := by decide +kernel
theorem dX0_turnInto_61 : decode cX0_turnInto 61 = .ok (.istore 7, 2) := by decide +kernel
theorem dX0_turnInto_63 : decode cX0_turnInto 63 = .ok (.iload 7, 2) := by decide +kernel
theorem dX0_turnInto_65 : decode cX0_turnInto 65 = .ok (.iload 5, 2) := by decide +kernel
theorem dX0_turnInto_67 : decode cX0_turnInto 67 = .ok (.if_icmp .ge 26, 3) := by decide +kernel
theorem dX0_turnInto_70 : decode cX0_turnInto 70 = .ok (.aload_n 1, 1) := by decide +kernel
theorem dX0_turnInto_71 : decode cX0_turnInto 71 = .ok (.iload 6, 2) := by decide +kernel
theorem dX0_turnInto_73 : decode cX0_turnInto 73 = .ok (.iload 7, 2) := by decide +kernel
theorem dX0_turnInto_75 : decode cX0_turnInto 75 = .ok (.aload_n 0, 1) := by decide +kernel
theorem dX0_turnInto_76 : decode cX0_turnInto 76 = .ok (.iload 6, 2) := by decide +kernel
theorem dX0_turnInto_78 : decode cX0_turnInto 78 = .ok (.iload 7, 2) := by decide +kernel
theorem dX0_turnInto_80 : decode cX0_turnInto 80 = .ok (.iload_n 2, 1) := by decide +kernel
theorem dX0_turnInto_81 : decode cX0_turnInto 81 = .ok (.invokevirtual 46, 3) := by decide +kernel
theorem dX0_turnInto_84 : decode cX0_turnInto 84 = .ok (.invokevirtual 42, 3) := by decide +kernel
theorem dX0_turnInto_87 : decode cX0_turnInto 87 = .ok (.iinc 7 1, 3) := by decide +kernel
theorem dX0_turnInto_90 : decode cX0_turnInto 90 = .ok (.goto (-27), 3) := by decide +kernel
theorem dX0_turnInto_93 : decode cX0_turnInto 93 = .ok (.iinc 6 1, 3) := by decide +kernel
theorem dX0_turnInto_96 : decode cX0_turnInto 96 = .ok (.goto (-43), 3) := by decide +kernel
theorem dX0_turnInto_99 : decode cX0_turnInto 99 = .ok (.aload_n 1, 1) := by decide +kernel
theorem dX0_turnInto_100 : decode cX0_turnInto 100 = .ok (.iload 4, 2) := by decide +kernel
theorem dX0_turnInto_102 : decode cX0_turnInto 102 = .ok (.putfield 15, 3) := by decide +kernel
theorem dX0_turnInto_105 : decode cX0_turnInto 105 = .ok (.aload_n 1, 1) := by decide +kernel
theorem dX0_turnInto_106 : decode cX0_turnInto 106 = .ok (.iload 5, 2) := by decide +kernel
theorem dX0_turnInto_108 : decode cX0_turnInto 108 = .ok (.putfield 19, 3) := by decide +kernel
theorem dX0_turnInto_111 : decode cX0_turnInto 111 = .ok (.return_, 1) := by decide +kernel
theorem dX0_turnedCell_0 : decode cX0_turnedCell 0 = .ok (.iload_n 3, 1) := by decide +kernel
theorem dX0_turnedCell_1 : decode cX0_turnedCell 1 = .ok (.tableswitch 91 0 3 #[31, 45, 59, 75], 31) := by decide +kernel
theorem dX0_turnedCell_32 : decode cX0_turnedCell 32 = .ok (.aload_n 0, 1) := by decide +kernel
theorem dX0_turnedCell_33 : decode cX0_turnedCell 33 = .ok (.iload_n 1, 1) := by decide +kernel
theorem dX0_turnedCell_34 : decode cX0_turnedCell 34 = .ok (.aload_n 0, 1) := by decide +kernel
theorem dX0_turnedCell_35 : decode cX0_turnedCell 35 = .ok (.getfield 19, 3) := by decide +kernel
theorem dX0_turnedCell_38 : decode cX0_turnedCell 38 = .ok (.iconst 1, 1) := by decide +kernel
theorem dX0_turnedCell_39 : decode cX0_turnedCell 39 = .ok (.isub, 1) := by decide +kernel
theorem dX0_turnedCell_40 : decode cX0_turnedCell 40 = .ok (.iload_n 2, 1) := by decide +kernel
theorem dX0_turnedCell_41 : decode cX0_turnedCell 41 = .ok (.isub, 1) := by decide +kernel
theorem dX0_turnedCell_42 : decode cX0_turnedCell 42 = .ok (.invokevirtual 34, 3) := by decide +kernel
theorem dX0_turnedCell_45 : decode cX0_turnedCell 45 = .ok (.ireturn, 1) := by decide +kernel
theorem dX0_turnedCell_46 : decode cX0_turnedCell 46 = .ok (.aload_n 0, 1) := by decide +kernel
theorem dX0_turnedCell_47 : decode cX0_turnedCell 47 = .ok (.aload_n 0, 1) := by decide +kernel
theorem dX0_turnedCell_48 : decode cX0_turnedCell 48 = .ok (.getfield 15, 3) := by decide +kernel
theorem dX0_turnedCell_51 : decode cX0_turnedCell 51 = .ok (.iconst 1, 1) := by decide +kernel
theorem dX0_turnedCell_52 : decode cX0_turnedCell 52 = .ok (.isub, 1) := by decide +kernel
theorem dX0_turnedCell_53 : decode cX0_turnedCell 53 = .ok (.iload_n 1, 1) := by decide +kernel
theorem dX0_turnedCell_54 : decode cX0_turnedCell 54 = .ok (.isub, 1) := by decide +kernel
theorem dX0_turnedCell_55 : decode cX0_turnedCell 55 = .ok (.iload_n 2, 1) := by decide +kernel
theorem dX0_turnedCell_56 : decode cX0_turnedCell 56 = .ok (.invokevirtual 34, 3) := by decide +kernel
theorem dX0_turnedCell_59 : decode cX0_turnedCell 59 = .ok (.ireturn, 1) := by decide +kernel
theorem dX0_turnedCell_60 : decode cX0_turnedCell 60 = .ok (.aload_n 0, 1) := by decide +kernel
theorem dX0_turnedCell_61 : decode cX0_turnedCell 61 = .ok (.iload_n 1, 1) := by decide +kernel
theorem dX0_turnedCell_62 : decode cX0_turnedCell 62 = .ok (.iload_n 2, 1) := by decide +kernel
theorem dX0_turnedCell_63 : decode cX0_turnedCell 63 = .ok (.iconst 1, 1) := by decide +kernel
theorem dX0_turnedCell_64 : decode cX0_turnedCell 64 = .ok (.iadd, 1) := by decide +kernel
theorem dX0_turnedCell_65 : decode cX0_turnedCell 65 = .ok (.aload_n 0, 1) := by decide +kernel
theorem dX0_turnedCell_66 : decode cX0_turnedCell 66 = .ok (.getfield 19, 3) := by decide +kernel
theorem dX0_turnedCell_69 : decode cX0_turnedCell 69 = .ok (.invokestatic 50, 3) := by decide +kernel
theorem dX0_turnedCell_72 : decode cX0_turnedCell 72 = .ok (.invokevirtual 34, 3) := by decide +kernel
theorem dX0_turnedCell_75 : decode cX0_turnedCell 75 = .ok (.ireturn, 1) := by decide +kernel
theorem dX0_turnedCell_76 : decode cX0_turnedCell 76 = .ok (.aload_n 0, 1) := by decide +kernel
theorem dX0_turnedCell_77 : decode cX0_turnedCell 77 = .ok (.iload_n 1, 1) := by decide +kernel
theorem dX0_turnedCell_78 : decode cX0_turnedCell 78 = .ok (.iconst 1, 1) := by decide +kernel
theorem dX0_turnedCell_79 : decode cX0_turnedCell 79 = .ok (.iadd, 1) := by decide +kernel
theorem dX0_turnedCell_80 : decode cX0_turnedCell 80 = .ok (.aload_n 0, 1) := by decide +kernel
theorem dX0_turnedCell_81 : decode cX0_turnedCell 81 = .ok (.getfield 15, 3) := by decide +kernel
theorem dX0_turnedCell_84 : decode cX0_turnedCell 84 = .ok (.invokestatic 50, 3) := by decide +kernel
theorem dX0_turnedCell_87 : decode cX0_turnedCell 87 = .ok (.iload_n 2, 1) := by decide +kernel
theorem dX0_turnedCell_88 : decode cX0_turnedCell 88 = .ok (.invokevirtual 34, 3) := by decide +kernel
theorem dX0_turnedCell_91 : decode cX0_turnedCell 91 = .ok (.ireturn, 1) := by decide +kernel
theorem dX0_turnedCell_92 : decode cX0_turnedCell 92 = .ok (.aload_n 0, 1) := by decide +kernel
theorem dX0_turnedCell_93 : decode cX0_turnedCell 93 = .ok (.iload_n 2, 1) := by decide +kernel
theorem dX0_turnedCell_94 : decode cX0_turnedCell 94 = .ok (.iload_n 1, 1) := by decide +kernel
theorem dX0_turnedCell_95 : decode cX0_turnedCell 95 = .ok (.invokevirtual 34, 3) := by decide +kernel
theorem dX0_turnedCell_98 : decode cX0_turnedCell 98 = .ok (.ireturn, 1) := by decide +kernel
theorem dX1_init_0 : decode cX1_init 0 = .ok (.aload_n 0, 1) := by decide +kernel
theorem dX1_init_1 : decode cX1_init 1 = .ok (.invokespecial 3, 3) := by decide +kernel
theorem dX1_init_4 : decode cX1_init 4 = .ok (.aload_n 0, 1) := by decide +kernel
theorem dX1_init_5 : decode cX1_init 5 = .ok (.bipush 6, 2) := by decide +kernel
theorem dX1_init_7 : decode cX1_init 7 = .ok (.anewarray 9, 3) := by decide +kernel
theorem dX1_init_10 : decode cX1_init 10 = .ok (.putfield 11, 3) := by decide +kernel
theorem dX1_init_13 : decode cX1_init 13 = .ok (.iconst 0, 1) := by decide +kernel
theorem dX1_init_14 : decode cX1_init 14 = .ok (.istore_n 1, 1) := by decide +kernel
theorem dX1_init_15 : decode cX1_init 15 = .ok (.iload_n 1, 1) := by decide +kernel
theorem dX1_init_16 : decode cX1_init 16 = .ok (.aload_n 0, 1) := by decide +kernel
theorem dX1_init_17 : decode cX1_init 17 = .ok (.getfield 11, 3) := by decide +kernel
theorem dX1_init_20 : decode cX1_init 20 = .ok (.arraylength, 1) := by decide +kernel
theorem dX1_init_21 : decode cX1_init 21 = .ok (.if_icmp .ge 22, 3) := by decide +kernel
theorem dX1_init_24 : decode cX1_init 24 = .ok (.aload_n 0, 1) := by decide +kernel
theorem dX1_init_25 : decode cX1_init 25 = .ok (.getfield 11, 3) := by decide +kernel
theorem dX1_init_28 : decode cX1_init 28 = .ok (.iload_n 1, 1) := by decide +kernel
theorem dX1_init_29 : decode cX1_init 29 = .ok (.new 9, 3) := by decide +kernel
theorem dX1_init_32 : decode cX1_init 32 = .ok (.dup, 1) := by decide +kernel
theorem dX1_init_33 : decode cX1_init 33 = .ok (.invokespecial 17, 3) := by decide +kernel
theorem dX1_init_36 : decode cX1_init 36 = .ok (.aastore, 1) := by decide +kernel
theorem dX1_init_37 : decode cX1_init 37 = .ok (.iinc 1 1, 3) := by decide +kernel
theorem dX1_init_40 : decode cX1_init 40 = .ok (.goto (-25), 3) := by decide +kernel
theorem dX1_init_43 : decode cX1_init 43 = .ok (.aload_n 0, 1) := by decide +kernel
theorem dX1_init_44 : decode cX1_init 44 = .ok (.iconst 0, 1) := by decide +kernel
theorem dX1_init_45 : decode cX1_init 45 = .ok (.putfield 18, 3) := by decide +kernel
theorem dX1_init_48 : decode cX1_init 48 = .ok (.aload_n 0, 1) := by decide +kernel
theorem dX1_init_49 : decode cX1_init 49 = .ok (.iconst 0, 1) := by decide +kernel
theorem dX1_init_50 : decode cX1_init 50 = .ok (.putfield 22, 3) := by decide +kernel
theorem dX1_init_53 : decode cX1_init 53 = .ok (.return_, 1) := by decide +kernel
theorem dX1_slot_0 : decode cX1_slot 0 = .ok (.aload_n 0, 1) := by decide +kernel
theorem dX1_slot_1 : decode cX1_slot 1 = .ok (.getfield 18, 3) := by decide +kernel
theorem dX1_slot_4 : decode cX1_slot 4 = .ok (.iload_n 1, 1) := by decide +kernel
theorem dX1_slot_5 : decode cX1_slot 5 = .ok (.iadd, 1) := by decide +kernel
theorem dX1_slot_6 : decode cX1_slot 6 = .ok (.bipush 6, 2) := by decide +kernel
theorem dX1_slot_8 : decode cX1_slot 8 = .ok (.irem, 1) := by decide +kernel
theorem dX1_slot_9 : decode cX1_slot 9 = .ok (.istore_n 2, 1) := by decide +kernel
theorem dX1_slot_10 : decode cX1_slot 10 = .ok (.iload_n 2, 1) := by decide +kernel
theorem dX1_slot_11 : decode cX1_slot 11 = .ok (.ifCond .lt 12, 3) := by decide +kernel
theorem dX1_slot_14 : decode cX1_slot 14 = .ok (.iload_n 2, 1) := by decide +kernel
theorem dX1_slot_15 : decode cX1_slot 15 = .ok (.aload_n 0, 1) := by decide +kernel
theorem dX1_slot_16 : decode cX1_slot 16 = .ok (.getfield 11, 3) := by decide +kernel
theorem dX1_slot_19 : decode cX1_slot 19 = .ok (.arraylength, 1) := by decide +kernel
theorem dX1_slot_20 : decode cX1_slot 20 = .ok (.if_icmp .lt 5, 3) := by decide +kernel
theorem dX1_slot_23 : decode cX1_slot 23 = .ok (.aconst_null, 1) := by decide +kernel
theorem dX1_slot_24 : decode cX1_slot 24 = .ok (.areturn, 1) := by decide +kernel
theorem dX1_slot_25 : decode cX1_slot 25 = .ok (.aload_n 0, 1) := by decide +kernel
theorem dX1_slot_26 : decode cX1_slot 26 = .ok (.getfield 11, 3) := by decide +kernel
theorem dX1_slot_29 : decode cX1_slot 29 = .ok (.iload_n 2, 1) := by decide +kernel
theorem dX1_slot_30 : decode cX1_slot 30 = .ok (.aaload, 1) := by decide +kernel
theorem dX1_slot_31 : decode cX1_slot 31 = .ok (.areturn, 1) := by decide +kernel
theorem dX1_save_0 : decode cX1_save 0 = .ok (.aload_n 0, 1) := by decide +kernel
theorem dX1_save_1 : decode cX1_save 1 = .ok (.getfield 22, 3) := by decide +kernel
theorem dX1_save_4 : decode cX1_save 4 = .ok (.bipush 6, 2) := by decide +kernel
theorem dX1_save_6 : decode cX1_save 6 = .ok (.if_icmp .lt 26, 3) := by decide +kernel
theorem dX1_save_9 : decode cX1_save 9 = .ok (.aload_n 0, 1) := by decide +kernel
theorem dX1_save_10 : decode cX1_save 10 = .ok (.aload_n 0, 1) := by decide +kernel
theorem dX1_save_11 : decode cX1_save 11 = .ok (.getfield 18, 3) := by decide +kernel
theorem dX1_save_14 : decode cX1_save 14 = .ok (.iconst 1, 1) := by decide +kernel
theorem dX1_save_15 : decode cX1_save 15 = .ok (.iadd, 1) := by decide +kernel
theorem dX1_save_16 : decode cX1_save 16 = .ok (.bipush 6, 2) := by decide +kernel
theorem dX1_save_18 : decode cX1_save 18 = .ok (.irem, 1) := by decide +kernel
theorem dX1_save_19 : decode cX1_save 19 = .ok (.putfield 18, 3) := by decide +kernel
theorem dX1_save_22 : decode cX1_save 22 = .ok (.aload_n 0, 1) := by decide +kernel
theorem dX1_save_23 : decode cX1_save 23 = .ok (.dup, 1) := by decide +kernel
theorem dX1_save_24 : decode cX1_save 24 = .ok (.getfield 22, 3) := by decide +kernel
theorem dX1_save_27 : decode cX1_save 27 = .ok (.iconst 1, 1) := by decide +kernel
theorem dX1_save_28 : decode cX1_save 28 = .ok (.isub, 1) := by decide +kernel
theorem dX1_save_29 : decode cX1_save 29 = .ok (.putfield 22, 3) := by decide +kernel
theorem dX1_save_32 : decode cX1_save 32 = .ok (.aload_n 0, 1) := by decide +kernel
theorem dX1_save_33 : decode cX1_save 33 = .ok (.aload_n 0, 1) := by decide +kernel
theorem dX1_save_34 : decode cX1_save 34 = .ok (.getfield 22, 3) := by decide +kernel
theorem dX1_save_37 : decode cX1_save 37 = .ok (.invokevirtual 25, 3) := by decide +kernel
theorem dX1_save_40 : decode cX1_save 40 = .ok (.astore_n 2, 1) := by decide +kernel
theorem dX1_save_41 : decode cX1_save 41 = .ok (.aload_n 2, 1) := by decide +kernel
theorem dX1_save_42 : decode cX1_save 42 = .ok (.ifnull 18, 3) := by decide +kernel
theorem dX1_save_45 : decode cX1_save 45 = .ok (.aload_n 2, 1) := by decide +kernel
theorem dX1_save_46 : decode cX1_save 46 = .ok (.aload_n 1, 1) := by decide +kernel
theorem dX1_save_47 : decode cX1_save 47 = .ok (.invokevirtual 29, 3) := by decide +kernel
theorem dX1_save_50 : decode cX1_save 50 = .ok (.aload_n 0, 1) := by decide +kernel
theorem dX1_save_51 : decode cX1_save 51 = .ok (.dup, 1) := by decide +kernel
theorem dX1_save_52 : decode cX1_save 52 = .ok (.getfield 22, 3) := by decide +kernel
theorem dX1_save_55 : decode cX1_save 55 = .ok (.iconst 1, 1) := by decide +kernel
theorem dX1_save_56 : decode cX1_save 56 = .ok (.iadd, 1) := by decide +kernel
theorem dX1_save_57 : decode cX1_save 57 = .ok (.putfield 22, 3) := by decide +kernel
theorem dX1_save_60 : decode cX1_save 60 = .ok (.return_, 1) := by decide +kernel
theorem dX1_restore_0 : decode cX1_restore 0 = .ok (.aload_n 0, 1) := by decide +kernel
theorem dX1_restore_1 : decode cX1_restore 1 = .ok (.getfield 22, 3) := by decide +kernel
theorem dX1_restore_4 : decode cX1_restore 4 = .ok (.iconst 1, 1) := by decide +kernel
theorem dX1_restore_5 : decode cX1_restore 5 = .ok (.if_icmp .lt 7, 3) := by decide +kernel
theorem dX1_restore_8 : decode cX1_restore 8 = .ok (.aload_n 1, 1) := by decide +kernel
theorem dX1_restore_9 : decode cX1_restore 9 = .ok (.ifnonnull 4, 3) := by decide +kernel
theorem dX1_restore_12 : decode cX1_restore 12 = .ok (.return_, 1) := by decide +kernel
theorem dX1_restore_13 : decode cX1_restore 13 = .ok (.aload_n 1, 1) := by decide +kernel
theorem dX1_restore_14 : decode cX1_restore 14 = .ok (.aload_n 0, 1) := by decide +kernel
theorem dX1_restore_15 : decode cX1_restore 15 = .ok (.aload_n 0, 1) := by decide +kernel
theorem dX1_restore_16 : decode cX1_restore 16 = .ok (.getfield 22, 3) := by decide +kernel
theorem dX1_restore_19 : decode cX1_restore 19 = .ok (.iconst 1, 1) := by decide +kernel
theorem dX1_restore_20 : decode cX1_restore 20 = .ok (.isub, 1) := by decide +kernel
theorem dX1_restore_21 : decode cX1_restore 21 = .ok (.invokevirtual 25, 3) := by decide +kernel
theorem dX1_restore_24 : decode cX1_restore 24 = .ok (.invokevirtual 29, 3) := by decide +kernel
theorem dX1_restore_27 : decode cX1_restore 27 = .ok (.aload_n 0, 1) := by decide +kernel
theorem dX1_restore_28 : decode cX1_restore 28 = .ok (.dup, 1) := by decide +kernel
theorem dX1_restore_29 : decode cX1_restore 29 = .ok (.getfield 22, 3) := by decide +kernel
theorem dX1_restore_32 : decode cX1_restore 32 = .ok (.iconst 1, 1) := by decide +kernel
theorem dX1_restore_33 : decode cX1_restore 33 = .ok (.isub, 1) := by decide +kernel
theorem dX1_restore_34 : decode cX1_restore 34 = .ok (.putfield 22, 3) := by decide +kernel
theorem dX1_restore_37 : decode cX1_restore 37 = .ok (.return_, 1) := by decide +kernel
theorem dX2_init_0 : decode cX2_init 0 = .ok (.aload_n 0, 1) := by decide +kernel
theorem dX2_init_1 : decode cX2_init 1 = .ok (.invokespecial 3, 3) := by decide +kernel
theorem dX2_init_4 : decode cX2_init 4 = .ok (.aload_n 0, 1) := by decide +kernel
theorem dX2_init_5 : decode cX2_init 5 = .ok (.bipush 60, 2) := by decide +kernel
theorem dX2_init_7 : decode cX2_init 7 = .ok (.newarray .int, 2) := by decide +kernel
theorem dX2_init_9 : decode cX2_init 9 = .ok (.putfield 9, 3) := by decide +kernel
theorem dX2_init_12 : decode cX2_init 12 = .ok (.aload_n 0, 1) := by decide +kernel
theorem dX2_init_13 : decode cX2_init 13 = .ok (.iconst 0, 1) := by decide +kernel
theorem dX2_init_14 : decode cX2_init 14 = .ok (.putfield 15, 3) := by decide +kernel
theorem dX2_init_17 : decode cX2_init 17 = .ok (.return_, 1) := by decide +kernel
theorem dX2_empty_0 : decode cX2_empty 0 = .ok (.aload_n 0, 1) := by decide +kernel
theorem dX2_empty_1 : decode cX2_empty 1 = .ok (.iconst 0, 1) := by decide +kernel
theorem dX2_empty_2 : decode cX2_empty 2 = .ok (.putfield 15, 3) := by decide +kernel
theorem dX2_empty_5 : decode cX2_empty 5 = .ok (.return_, 1) := by decide +kernel
theorem dX2_errorIndex_0 : decode cX2_errorIndex 0 = .ok (.iconst 0, 1) := by decide +kernel
theorem dX2_errorIndex_1 : decode cX2_errorIndex 1 = .ok (.istore_n 2, 1) := by decide +kernel
theorem dX2_errorIndex_2 : decode cX2_errorIndex 2 = .ok (.iconst 0, 1) := by decide +kernel
theorem dX2_errorIndex_3 : decode cX2_errorIndex 3 = .ok (.istore_n 3, 1) := by decide +kernel
theorem dX2_errorIndex_4 : decode cX2_errorIndex 4 = .ok (.iload_n 3, 1) := by decide +kernel
theorem dX2_errorIndex_5 : decode cX2_errorIndex 5 = .ok (.aload_n 0, 1) := by decide +kernel
theorem dX2_errorIndex_6 : decode cX2_errorIndex 6 = .ok (.getfield 15, 3) := by decide +kernel
theorem dX2_errorIndex_9 : decode cX2_errorIndex 9 = .ok (.if_icmp .ge 31, 3) := by decide +kernel
theorem dX2_errorIndex_12 : decode cX2_errorIndex 12 = .ok (.iload_n 2, 1) := by decide +kernel
theorem dX2_errorIndex_13 : decode cX2_errorIndex 13 = .ok (.aload_n 0, 1) := by decide +kernel
theorem dX2_errorIndex_14 : decode cX2_errorIndex 14 = .ok (.getfield 9, 3) := by decide +kernel
theorem dX2_errorIndex_17 : decode cX2_errorIndex 17 = .ok (.iload_n 3, 1) := by decide +kernel
theorem dX2_errorIndex_18 : decode cX2_errorIndex 18 = .ok (.invokestatic 19, 3) := by decide +kernel
theorem dX2_errorIndex_21 : decode cX2_errorIndex 21 = .ok (.iload_n 1, 1) := by decide +kernel
theorem dX2_errorIndex_22 : decode cX2_errorIndex 22 = .ok (.invokestatic 23, 3) := by decide +kernel
theorem dX2_errorIndex_25 : decode cX2_errorIndex 25 = .ok (.istore_n 2, 1) := by decide +kernel
theorem dX2_errorIndex_26 : decode cX2_errorIndex 26 = .ok (.iload_n 2, 1) := by decide +kernel
theorem dX2_errorIndex_27 : decode cX2_errorIndex 27 = .ok (.bipush 6, 2) := by decide +kernel
theorem dX2_errorIndex_29 : decode cX2_errorIndex 29 = .ok (.if_icmp .ne 5, 3) := by decide +kernel
theorem dX2_errorIndex_32 : decode cX2_errorIndex 32 = .ok (.iload_n 3, 1) := by decide +kernel
theorem dX2_errorIndex_33 : decode cX2_errorIndex 33 = .ok (.ireturn, 1) := by decide +kernel
theorem dX2_errorIndex_34 : decode cX2_errorIndex 34 = .ok (.iinc 3 1, 3) := by decide +kernel
theorem dX2_errorIndex_37 : decode cX2_errorIndex 37 = .ok (.goto (-33), 3) := by decide +kernel
theorem dX2_errorIndex_40 : decode cX2_errorIndex 40 = .ok (.aload_n 0, 1) := by decide +kernel
theorem dX2_errorIndex_41 : decode cX2_errorIndex 41 = .ok (.getfield 15, 3) := by decide +kernel
theorem dX2_errorIndex_44 : decode cX2_errorIndex 44 = .ok (.ireturn, 1) := by decide +kernel
theorem dX2_isComplete_0 : decode cX2_isComplete 0 = .ok (.aload_n 0, 1) := by decide +kernel
theorem dX2_isComplete_1 : decode cX2_isComplete 1 = .ok (.getfield 15, 3) := by decide +kernel
theorem dX2_isComplete_4 : decode cX2_isComplete 4 = .ok (.ifCond .le 38, 3) := by decide +kernel
theorem dX2_isComplete_7 : decode cX2_isComplete 7 = .ok (.aload_n 0, 1) := by decide +kernel
theorem dX2_isComplete_8 : decode cX2_isComplete 8 = .ok (.iload_n 1, 1) := by decide +kernel
theorem dX2_isComplete_9 : decode cX2_isComplete 9 = .ok (.invokevirtual 27, 3) := by decide +kernel
theorem dX2_isComplete_12 : decode cX2_isComplete 12 = .ok (.aload_n 0, 1) := by decide +kernel
theorem dX2_isComplete_13 : decode cX2_isComplete 13 = .ok (.getfield 15, 3) := by decide +kernel
theorem dX2_isComplete_16 : decode cX2_isComplete 16 = .ok (.if_icmp .ne 26, 3) := by decide +kernel
theorem dX2_isComplete_19 : decode cX2_isComplete 19 = .ok (.aload_n 0, 1) := by decide +kernel
theorem dX2_isComplete_20 : decode cX2_isComplete 20 = .ok (.getfield 9, 3) := by decide +kernel
theorem dX2_isComplete_23 : decode cX2_isComplete 23 = .ok (.aload_n 0, 1) := by decide +kernel
theorem dX2_isComplete_24 : decode cX2_isComplete 24 = .ok (.getfield 15, 3) := by decide +kernel
theorem dX2_isComplete_27 : decode cX2_isComplete 27 = .ok (.iconst 1, 1) := by decide +kernel
theorem dX2_isComplete_28 : decode cX2_isComplete 28 = .ok (.isub, 1) := by decide +kernel
theorem dX2_isComplete_29 : decode cX2_isComplete 29 = .ok (.invokestatic 19, 3) := by decide +kernel
theorem dX2_isComplete_32 : decode cX2_isComplete 32 = .ok (.invokestatic 31, 3) := by decide +kernel
theorem dX2_isComplete_35 : decode cX2_isComplete 35 = .ok (.ifCond .eq 7, 3) := by decide +kernel
theorem dX2_isComplete_38 : decode cX2_isComplete 38 = .ok (.iconst 1, 1) := by decide +kernel
theorem dX2_isComplete_39 : decode cX2_isComplete 39 = .ok (.goto 4, 3) := by decide +kernel
theorem dX2_isComplete_42 : decode cX2_isComplete 42 = .ok (.iconst 0, 1) := by decide +kernel
theorem dX2_isComplete_43 : decode cX2_isComplete 43 = .ok (.ireturn, 1) := by decide +kernel
theorem dX2_stateBehind_0 : decode cX2_stateBehind 0 = .ok (.iload_n 0, 1) := by decide +kernel
theorem dX2_stateBehind_1 : decode cX2_stateBehind 1 = .ok (.tableswitch 113 0 5 #[39, 44, 63, 77, 93, 108], 39) := by decide +kernel
theorem dX2_stateBehind_40 : decode cX2_stateBehind 40 = .ok (.iload_n 1, 1) := by decide +kernel
theorem dX2_stateBehind_41 : decode cX2_stateBehind 41 = .ok (.invokestatic 35, 3) := by decide +kernel
theorem dX2_stateBehind_44 : decode cX2_stateBehind 44 = .ok (.ireturn, 1) := by decide +kernel
theorem dX2_stateBehind_45 : decode cX2_stateBehind 45 = .ok (.iload_n 2, 1) := by decide +kernel
theorem dX2_stateBehind_46 : decode cX2_stateBehind 46 = .ok (.ifCond .eq 13, 3) := by decide +kernel
theorem dX2_stateBehind_49 : decode cX2_stateBehind 49 = .ok (.iload_n 1, 1) := by decide +kernel
theorem dX2_stateBehind_50 : decode cX2_stateBehind 50 = .ok (.bipush 47, 2) := by decide +kernel
theorem dX2_stateBehind_52 : decode cX2_stateBehind 52 = .ok (.if_icmp .ne 7, 3) := by decide +kernel
theorem dX2_stateBehind_55 : decode cX2_stateBehind 55 = .ok (.iconst 0, 1) := by decide +kernel
theorem dX2_stateBehind_56 : decode cX2_stateBehind 56 = .ok (.goto 7, 3) := by decide +kernel
theorem dX2_stateBehind_59 : decode cX2_stateBehind 59 = .ok (.iload_n 1, 1) := by decide +kernel
theorem dX2_stateBehind_60 : decode cX2_stateBehind 60 = .ok (.invokestatic 35, 3) := by decide +kernel
theorem dX2_stateBehind_63 : decode cX2_stateBehind 63 = .ok (.ireturn, 1) := by decide +kernel
theorem dX2_stateBehind_64 : decode cX2_stateBehind 64 = .ok (.iload_n 1, 1) := by decide +kernel
theorem dX2_stateBehind_65 : decode cX2_stateBehind 65 = .ok (.invokestatic 39, 3) := by decide +kernel
theorem dX2_stateBehind_68 : decode cX2_stateBehind 68 = .ok (.ifCond .eq 7, 3) := by decide +kernel
theorem dX2_stateBehind_71 : decode cX2_stateBehind 71 = .ok (.iconst 5, 1) := by decide +kernel
theorem dX2_stateBehind_72 : decode cX2_stateBehind 72 = .ok (.goto 5, 3) := by decide +kernel
theorem dX2_stateBehind_75 : decode cX2_stateBehind 75 = .ok (.bipush 6, 2) := by decide +kernel
theorem dX2_stateBehind_77 : decode cX2_stateBehind 77 = .ok (.ireturn, 1) := by decide +kernel
theorem dX2_stateBehind_78 : decode cX2_stateBehind 78 = .ok (.iload_n 1, 1) := by decide +kernel
theorem dX2_stateBehind_79 : decode cX2_stateBehind 79 = .ok (.invokestatic 39, 3) := by decide +kernel
theorem dX2_stateBehind_82 : decode cX2_stateBehind 82 = .ok (.ifCond .eq 7, 3) := by decide +kernel
theorem dX2_stateBehind_85 : decode cX2_stateBehind 85 = .ok (.iconst 5, 1) := by decide +kernel
theorem dX2_stateBehind_86 : decode cX2_stateBehind 86 = .ok (.goto 7, 3) := by decide +kernel
theorem dX2_stateBehind_89 : decode cX2_stateBehind 89 = .ok (.iload_n 1, 1) := by decide +kernel
theorem dX2_stateBehind_90 : decode cX2_stateBehind 90 = .ok (.invokestatic 42, 3) := by decide +kernel
theorem dX2_stateBehind_93 : decode cX2_stateBehind 93 = .ok (.ireturn, 1) := by decide +kernel
theorem dX2_stateBehind_94 : decode cX2_stateBehind 94 = .ok (.iload_n 1, 1) := by decide +kernel
theorem dX2_stateBehind_95 : decode cX2_stateBehind 95 = .ok (.bipush 48, 2) := by decide +kernel
theorem dX2_stateBehind_97 : decode cX2_stateBehind 97 = .ok (.if_icmp .ne 7, 3) := by decide +kernel
theorem dX2_stateBehind_100 : decode cX2_stateBehind 100 = .ok (.iconst 5, 1) := by decide +kernel
theorem dX2_stateBehind_101 : decode cX2_stateBehind 101 = .ok (.goto 7, 3) := by decide +kernel
theorem dX2_stateBehind_104 : decode cX2_stateBehind 104 = .ok (.iload_n 1, 1) := by decide +kernel
theorem dX2_stateBehind_105 : decode cX2_stateBehind 105 = .ok (.invokestatic 42, 3) := by decide +kernel
theorem dX2_stateBehind_108 : decode cX2_stateBehind 108 = .ok (.ireturn, 1) := by decide +kernel
theorem dX2_stateBehind_109 : decode cX2_stateBehind 109 = .ok (.iload_n 1, 1) := by decide +kernel
theorem dX2_stateBehind_110 : decode cX2_stateBehind 110 = .ok (.invokestatic 42, 3) := by decide +kernel
theorem dX2_stateBehind_113 : decode cX2_stateBehind 113 = .ok (.ireturn, 1) := by decide +kernel
theorem dX2_stateBehind_114 : decode cX2_stateBehind 114 = .ok (.bipush 6, 2) := by decide +kernel
theorem dX2_stateBehind_116 : decode cX2_stateBehind 116 = .ok (.ireturn, 1) := by decide +kernel
theorem dX2_stateInPart_0 : decode cX2_stateInPart 0 = .ok (.iload_n 0, 1) := by decide +kernel
theorem dX2_stateInPart_1 : decode cX2_stateInPart 1 = .ok (.invokestatic 39, 3) := by decide +kernel
theorem dX2_stateInPart_4 : decode cX2_stateInPart 4 = .ok (.ifCond .ne 8, 3) := by decide +kernel
theorem dX2_stateInPart_7 : decode cX2_stateInPart 7 = .ok (.iload_n 0, 1) := by decide +kernel
theorem dX2_stateInPart_8 : decode cX2_stateInPart 8 = .ok (.invokestatic 42, 3) := by decide +kernel
theorem dX2_stateInPart_11 : decode cX2_stateInPart 11 = .ok (.ireturn, 1) := by decide +kernel
theorem dX2_stateInPart_12 : decode cX2_stateInPart 12 = .ok (.iload_n 0, 1) := by decide +kernel
theorem dX2_stateInPart_13 : decode cX2_stateInPart 13 = .ok (.lookupswitch 42 #[(48, 35), (49, 38), (54, 40)], 35) := by decide +kernel
theorem dX2_stateInPart_48 : decode cX2_stateInPart 48 = .ok (.bipush 6, 2) := by decide +kernel
theorem dX2_stateInPart_50 : decode cX2_stateInPart 50 = .ok (.ireturn, 1) := by decide +kernel
theorem dX2_stateInPart_51 : decode cX2_stateInPart 51 = .ok (.iconst 2, 1) := by decide +kernel
theorem dX2_stateInPart_52 : decode cX2_stateInPart 52 = .ok (.ireturn, 1) := by decide +kernel
theorem dX2_stateInPart_53 : decode cX2_stateInPart 53 = .ok (.iconst 4, 1) := by decide +kernel
theorem dX2_stateInPart_54 : decode cX2_stateInPart 54 = .ok (.ireturn, 1) := by decide +kernel
theorem dX2_stateInPart_55 : decode cX2_stateInPart 55 = .ok (.iload_n 0, 1) := by decide +kernel
theorem dX2_stateInPart_56 : decode cX2_stateInPart 56 = .ok (.bipush 54, 2) := by decide +kernel
theorem dX2_stateInPart_58 : decode cX2_stateInPart 58 = .ok (.if_icmp .ge 7, 3) := by decide +kernel
theorem dX2_stateInPart_61 : decode cX2_stateInPart 61 = .ok (.iconst 3, 1) := by decide +kernel
theorem dX2_stateInPart_62 : decode cX2_stateInPart 62 = .ok (.goto 4, 3) := by decide +kernel
theorem dX2_stateInPart_65 : decode cX2_stateInPart 65 = .ok (.iconst 5, 1) := by decide +kernel
theorem dX2_stateInPart_66 : decode cX2_stateInPart 66 = .ok (.ireturn, 1) := by decide +kernel
theorem dX2_stateBehindNumber_0 : decode cX2_stateBehindNumber 0 = .ok (.iload_n 0, 1) := by decide +kernel
theorem dX2_stateBehindNumber_1 : decode cX2_stateBehindNumber 1 = .ok (.invokestatic 31, 3) := by decide +kernel
theorem dX2_stateBehindNumber_4 : decode cX2_stateBehindNumber 4 = .ok (.ifCond .eq 7, 3) := by decide +kernel
theorem dX2_stateBehindNumber_7 : decode cX2_stateBehindNumber 7 = .ok (.iconst 1, 1) := by decide +kernel
theorem dX2_stateBehindNumber_8 : decode cX2_stateBehindNumber 8 = .ok (.goto 5, 3) := by decide +kernel
theorem dX2_stateBehindNumber_11 : decode cX2_stateBehindNumber 11 = .ok (.bipush 6, 2) := by decide +kernel
theorem dX2_stateBehindNumber_13 : decode cX2_stateBehindNumber 13 = .ok (.ireturn, 1) := by decide +kernel
theorem dX2_isLetter_0 : decode cX2_isLetter 0 = .ok (.iload_n 0, 1) := by decide +kernel
theorem dX2_isLetter_1 : decode cX2_isLetter 1 = .ok (.bipush 97, 2) := by decide +kernel
theorem dX2_isLetter_3 : decode cX2_isLetter 3 = .ok (.if_icmp .lt 13, 3) := by decide +kernel
theorem dX2_isLetter_6 : decode cX2_isLetter 6 = .ok (.iload_n 0, 1) := by decide +kernel
theorem dX2_isLetter_7 : decode cX2_isLetter 7 = .ok (.bipush 102, 2) := by decide +kernel
theorem dX2_isLetter_9 : decode cX2_isLetter 9 = .ok (.if_icmp .gt 7, 3) := by decide +kernel
theorem dX2_isLetter_12 : decode cX2_isLetter 12 = .ok (.iconst 1, 1) := by decide +kernel
theorem dX2_isLetter_13 : decode cX2_isLetter 13 = .ok (.goto 4, 3) := by decide +kernel
theorem dX2_isLetter_16 : decode cX2_isLetter 16 = .ok (.iconst 0, 1) := by decide +kernel
theorem dX2_isLetter_17 : decode cX2_isLetter 17 = .ok (.ireturn, 1) := by decide +kernel
theorem dX2_isDigit_0 : decode cX2_isDigit 0 = .ok (.iload_n 0, 1) := by decide +kernel
theorem dX2_isDigit_1 : decode cX2_isDigit 1 = .ok (.bipush 48, 2) := by decide +kernel
theorem dX2_isDigit_3 : decode cX2_isDigit 3 = .ok (.if_icmp .lt 13, 3) := by decide +kernel
theorem dX2_isDigit_6 : decode cX2_isDigit 6 = .ok (.iload_n 0, 1) := by decide +kernel
theorem dX2_isDigit_7 : decode cX2_isDigit 7 = .ok (.bipush 57, 2) := by decide +kernel
theorem dX2_isDigit_9 : decode cX2_isDigit 9 = .ok (.if_icmp .gt 7, 3) := by decide +kernel
theorem dX2_isDigit_12 : decode cX2_isDigit 12 = .ok (.iconst 1, 1) := by decide +kernel
theorem dX2_isDigit_13 : decode cX2_isDigit 13 = .ok (.goto 4, 3) := by decide +kernel
theorem dX2_isDigit_16 : decode cX2_isDigit 16 = .ok (.iconst 0, 1) := by decide +kernel
theorem dX2_isDigit_17 : decode cX2_isDigit 17 = .ok (.ireturn, 1) := by decide +kernel
theorem dX2_readWhole_0 : decode cX2_readWhole 0 = .ok (.aload_n 0, 1) := by decide +kernel
theorem dX2_readWhole_1 : decode cX2_readWhole 1 = .ok (.aload_n 1, 1) := by decide +kernel
theorem dX2_readWhole_2 : decode cX2_readWhole 2 = .ok (.iconst 0, 1) := by decide +kernel
theorem dX2_readWhole_3 : decode cX2_readWhole 3 = .ok (.aload_n 0, 1) := by decide +kernel
theorem dX2_readWhole_4 : decode cX2_readWhole 4 = .ok (.getfield 15, 3) := by decide +kernel
theorem dX2_readWhole_7 : decode cX2_readWhole 7 = .ok (.invokevirtual 45, 3) := by decide +kernel
theorem dX2_readWhole_10 : decode cX2_readWhole 10 = .ok (.ireturn, 1) := by decide +kernel
theorem dX2_readBeads_0 : decode cX2_readBeads 0 = .ok (.iconst 0, 1) := by decide +kernel
theorem dX2_readBeads_1 : decode cX2_readBeads 1 = .ok (.istore 4, 2) := by decide +kernel
theorem dX2_readBeads_3 : decode cX2_readBeads 3 = .ok (.iconst 0, 1) := by decide +kernel
theorem dX2_readBeads_4 : decode cX2_readBeads 4 = .ok (.istore 5, 2) := by decide +kernel
theorem dX2_readBeads_6 : decode cX2_readBeads 6 = .ok (.iload_n 2, 1) := by decide +kernel
theorem dX2_readBeads_7 : decode cX2_readBeads 7 = .ok (.istore 6, 2) := by decide +kernel
theorem dX2_readBeads_9 : decode cX2_readBeads 9 = .ok (.iload 6, 2) := by decide +kernel
theorem dX2_readBeads_11 : decode cX2_readBeads 11 = .ok (.iload_n 3, 1) := by decide +kernel
theorem dX2_readBeads_12 : decode cX2_readBeads 12 = .ok (.if_icmp .ge 90, 3) := by decide +kernel
theorem dX2_readBeads_15 : decode cX2_readBeads 15 = .ok (.aload_n 0, 1) := by decide +kernel
theorem dX2_readBeads_16 : decode cX2_readBeads 16 = .ok (.getfield 9, 3) := by decide +kernel
theorem dX2_readBeads_19 : decode cX2_readBeads 19 = .ok (.iload 6, 2) := by decide +kernel
theorem dX2_readBeads_21 : decode cX2_readBeads 21 = .ok (.invokestatic 19, 3) := by decide +kernel
theorem dX2_readBeads_24 : decode cX2_readBeads 24 = .ok (.istore 7, 2) := by decide +kernel
theorem dX2_readBeads_26 : decode cX2_readBeads 26 = .ok (.iload 7, 2) := by decide +kernel
theorem dX2_readBeads_28 : decode cX2_readBeads 28 = .ok (.invokestatic 39, 3) := by decide +kernel
theorem dX2_readBeads_31 : decode cX2_readBeads 31 = .ok (.ifCond .eq 19, 3) := by decide +kernel
theorem dX2_readBeads_34 : decode cX2_readBeads 34 = .ok (.bipush 10, 2) := by decide +kernel
theorem dX2_readBeads_36 : decode cX2_readBeads 36 = .ok (.iload 5, 2) := by decide +kernel
theorem dX2_readBeads_38 : decode cX2_readBeads 38 = .ok (.imul, 1) := by decide +kernel
theorem dX2_readBeads_39 : decode cX2_readBeads 39 = .ok (.iload 7, 2) := by decide +kernel
theorem dX2_readBeads_41 : decode cX2_readBeads 41 = .ok (.iadd, 1) := by decide +kernel
theorem dX2_readBeads_42 : decode cX2_readBeads 42 = .ok (.bipush 48, 2) := by decide +kernel
theorem dX2_readBeads_44 : decode cX2_readBeads 44 = .ok (.isub, 1) := by decide +kernel
theorem dX2_readBeads_45 : decode cX2_readBeads 45 = .ok (.istore 5, 2) := by decide +kernel
theorem dX2_readBeads_47 : decode cX2_readBeads 47 = .ok (.goto 49, 3) := by decide +kernel
theorem dX2_readBeads_50 : decode cX2_readBeads 50 = .ok (.iload 4, 2) := by decide +kernel
theorem dX2_readBeads_52 : decode cX2_readBeads 52 = .ok (.iconst 1, 1) := by decide +kernel
theorem dX2_readBeads_53 : decode cX2_readBeads 53 = .ok (.iload 5, 2) := by decide +kernel
theorem dX2_readBeads_55 : decode cX2_readBeads 55 = .ok (.invokestatic 49, 3) := by decide +kernel
theorem dX2_readBeads_58 : decode cX2_readBeads 58 = .ok (.iadd, 1) := by decide +kernel
theorem dX2_readBeads_59 : decode cX2_readBeads 59 = .ok (.istore 8, 2) := by decide +kernel
theorem dX2_readBeads_61 : decode cX2_readBeads 61 = .ok (.iload 4, 2) := by decide +kernel
theorem dX2_readBeads_63 : decode cX2_readBeads 63 = .ok (.istore 9, 2) := by decide +kernel
theorem dX2_readBeads_65 : decode cX2_readBeads 65 = .ok (.iload 9, 2) := by decide +kernel
theorem dX2_readBeads_67 : decode cX2_readBeads 67 = .ok (.iload 8, 2) := by decide +kernel
theorem dX2_readBeads_69 : decode cX2_readBeads 69 = .ok (.if_icmp .ge 20, 3) := by decide +kernel
theorem dX2_readBeads_72 : decode cX2_readBeads 72 = .ok (.aload_n 1, 1) := by decide +kernel
theorem dX2_readBeads_73 : decode cX2_readBeads 73 = .ok (.iload 9, 2) := by decide +kernel
theorem dX2_readBeads_75 : decode cX2_readBeads 75 = .ok (.iload 7, 2) := by decide +kernel
theorem dX2_readBeads_77 : decode cX2_readBeads 77 = .ok (.bipush 97, 2) := by decide +kernel
theorem dX2_readBeads_79 : decode cX2_readBeads 79 = .ok (.isub, 1) := by decide +kernel
theorem dX2_readBeads_80 : decode cX2_readBeads 80 = .ok (.invokestatic 55, 3) := by decide +kernel
theorem dX2_readBeads_83 : decode cX2_readBeads 83 = .ok (.iinc 9 1, 3) := by decide +kernel
theorem dX2_readBeads_86 : decode cX2_readBeads 86 = .ok (.goto (-21), 3) := by decide +kernel
theorem dX2_readBeads_89 : decode cX2_readBeads 89 = .ok (.iload 8, 2) := by decide +kernel
theorem dX2_readBeads_91 : decode cX2_readBeads 91 = .ok (.istore 4, 2) := by decide +kernel
theorem dX2_readBeads_93 : decode cX2_readBeads 93 = .ok (.iconst 0, 1) := by decide +kernel
theorem dX2_readBeads_94 : decode cX2_readBeads 94 = .ok (.istore 5, 2) := by decide +kernel
theorem dX2_readBeads_96 : decode cX2_readBeads 96 = .ok (.iinc 6 1, 3) := by decide +kernel
theorem dX2_readBeads_99 : decode cX2_readBeads 99 = .ok (.goto (-90), 3) := by decide +kernel
theorem dX2_readBeads_102 : decode cX2_readBeads 102 = .ok (.iload 4, 2) := by decide +kernel
theorem dX2_readBeads_104 : decode cX2_readBeads 104 = .ok (.ireturn, 1) := by decide +kernel
theorem dX2_readChart_0 : decode cX2_readChart 0 = .ok (.aload_n 1, 1) := by decide +kernel
theorem dX2_readChart_1 : decode cX2_readChart 1 = .ok (.ifnonnull 5, 3) := by decide +kernel
theorem dX2_readChart_4 : decode cX2_readChart 4 = .ok (.iconst 0, 1) := by decide +kernel
theorem dX2_readChart_5 : decode cX2_readChart 5 = .ok (.ireturn, 1) := by decide +kernel
theorem dX2_readChart_6 : decode cX2_readChart 6 = .ok (.iconst 0, 1) := by decide +kernel
theorem dX2_readChart_7 : decode cX2_readChart 7 = .ok (.istore_n 3, 1) := by decide +kernel
theorem dX2_readChart_8 : decode cX2_readChart 8 = .ok (.iconst 0, 1) := by decide +kernel
theorem dX2_readChart_9 : decode cX2_readChart 9 = .ok (.istore 4, 2) := by decide +kernel
theorem dX2_readChart_11 : decode cX2_readChart 11 = .ok (.iconst 0, 1) := by decide +kernel
theorem dX2_readChart_12 : decode cX2_readChart 12 = .ok (.istore 5, 2) := by decide +kernel
theorem dX2_readChart_14 : decode cX2_readChart 14 = .ok (.iconst 0, 1) := by decide +kernel
theorem dX2_readChart_15 : decode cX2_readChart 15 = .ok (.istore 6, 2) := by decide +kernel
theorem dX2_readChart_17 : decode cX2_readChart 17 = .ok (.iload 6, 2) := by decide +kernel
theorem dX2_readChart_19 : decode cX2_readChart 19 = .ok (.aload_n 0, 1) := by decide +kernel
theorem dX2_readChart_20 : decode cX2_readChart 20 = .ok (.getfield 15, 3) := by decide +kernel
theorem dX2_readChart_23 : decode cX2_readChart 23 = .ok (.if_icmp .gt 111, 3) := by decide +kernel
theorem dX2_readChart_26 : decode cX2_readChart 26 = .ok (.iload 6, 2) := by decide +kernel
theorem dX2_readChart_28 : decode cX2_readChart 28 = .ok (.aload_n 0, 1) := by decide +kernel
theorem dX2_readChart_29 : decode cX2_readChart 29 = .ok (.getfield 15, 3) := by decide +kernel
theorem dX2_readChart_32 : decode cX2_readChart 32 = .ok (.if_icmp .eq 17, 3) := by decide +kernel
theorem dX2_readChart_35 : decode cX2_readChart 35 = .ok (.aload_n 0, 1) := by decide +kernel
theorem dX2_readChart_36 : decode cX2_readChart 36 = .ok (.getfield 9, 3) := by decide +kernel
theorem dX2_readChart_39 : decode cX2_readChart 39 = .ok (.iload 6, 2) := by decide +kernel
theorem dX2_readChart_41 : decode cX2_readChart 41 = .ok (.invokestatic 19, 3) := by decide +kernel
theorem dX2_readChart_44 : decode cX2_readChart 44 = .ok (.bipush 47, 2) := by decide +kernel
theorem dX2_readChart_46 : decode cX2_readChart 46 = .ok (.if_icmp .ne 82, 3) := by decide +kernel
theorem dX2_readChart_49 : decode cX2_readChart 49 = .ok (.aload_n 0, 1) := by decide +kernel
theorem dX2_readChart_50 : decode cX2_readChart 50 = .ok (.aload_n 2, 1) := by decide +kernel
theorem dX2_readChart_51 : decode cX2_readChart 51 = .ok (.iload 5, 2) := by decide +kernel
theorem dX2_readChart_53 : decode cX2_readChart 53 = .ok (.iload 6, 2) := by decide +kernel
theorem dX2_readChart_55 : decode cX2_readChart 55 = .ok (.invokevirtual 45, 3) := by decide +kernel
theorem dX2_readChart_58 : decode cX2_readChart 58 = .ok (.istore 7, 2) := by decide +kernel
theorem dX2_readChart_60 : decode cX2_readChart 60 = .ok (.iload_n 3, 1) := by decide +kernel
theorem dX2_readChart_61 : decode cX2_readChart 61 = .ok (.bipush 10, 2) := by decide +kernel
theorem dX2_readChart_63 : decode cX2_readChart 63 = .ok (.if_icmp .ge 21, 3) := by decide +kernel
theorem dX2_readChart_66 : decode cX2_readChart 66 = .ok (.iload 7, 2) := by decide +kernel
theorem dX2_readChart_68 : decode cX2_readChart 68 = .ok (.bipush 12, 2) := by decide +kernel
theorem dX2_readChart_70 : decode cX2_readChart 70 = .ok (.if_icmp .gt 14, 3) := by decide +kernel
theorem dX2_readChart_73 : decode cX2_readChart 73 = .ok (.iload_n 3, 1) := by decide +kernel
theorem dX2_readChart_74 : decode cX2_readChart 74 = .ok (.ifCond .le 12, 3) := by decide +kernel
theorem dX2_readChart_77 : decode cX2_readChart 77 = .ok (.iload 7, 2) := by decide +kernel
theorem dX2_readChart_79 : decode cX2_readChart 79 = .ok (.iload 4, 2) := by decide +kernel
theorem dX2_readChart_81 : decode cX2_readChart 81 = .ok (.if_icmp .eq 5, 3) := by decide +kernel
theorem dX2_readChart_84 : decode cX2_readChart 84 = .ok (.iconst 0, 1) := by decide +kernel
theorem dX2_readChart_85 : decode cX2_readChart 85 = .ok (.ireturn, 1) := by decide +kernel
theorem dX2_readChart_86 : decode cX2_readChart 86 = .ok (.iconst 0, 1) := by decide +kernel
theorem dX2_readChart_87 : decode cX2_readChart 87 = .ok (.istore 8, 2) := by decide +kernel
theorem dX2_readChart_89 : decode cX2_readChart 89 = .ok (.iload 8, 2) := by decide +kernel
theorem dX2_readChart_91 : decode cX2_readChart 91 = .ok (.iload 7, 2) := by decide +kernel
theorem dX2_readChart_93 : decode cX2_readChart 93 = .ok (.if_icmp .ge 22, 3) := by decide +kernel
theorem dX2_readChart_96 : decode cX2_readChart 96 = .ok (.aload_n 1, 1) := by decide +kernel
theorem dX2_readChart_97 : decode cX2_readChart 97 = .ok (.iload_n 3, 1) := by decide +kernel
theorem dX2_readChart_98 : decode cX2_readChart 98 = .ok (.iload 8, 2) := by decide +kernel
theorem dX2_readChart_100 : decode cX2_readChart 100 = .ok (.aload_n 2, 1) := by decide +kernel
theorem dX2_readChart_101 : decode cX2_readChart 101 = .ok (.iload 8, 2) := by decide +kernel
theorem dX2_readChart_103 : decode cX2_readChart 103 = .ok (.invokestatic 19, 3) := by decide +kernel
theorem dX2_readChart_106 : decode cX2_readChart 106 = .ok (.invokevirtual 59, 3) := by decide +kernel
theorem dX2_readChart_109 : decode cX2_readChart 109 = .ok (.iinc 8 1, 3) := by decide +kernel
theorem dX2_readChart_112 : decode cX2_readChart 112 = .ok (.goto (-23), 3) := by decide +kernel
theorem dX2_readChart_115 : decode cX2_readChart 115 = .ok (.iload 7, 2) := by decide +kernel
theorem dX2_readChart_117 : decode cX2_readChart 117 = .ok (.istore 4, 2) := by decide +kernel
theorem dX2_readChart_119 : decode cX2_readChart 119 = .ok (.iinc 3 1, 3) := by decide +kernel
theorem dX2_readChart_122 : decode cX2_readChart 122 = .ok (.iload 6, 2) := by decide +kernel
theorem dX2_readChart_124 : decode cX2_readChart 124 = .ok (.iconst 1, 1) := by decide +kernel
theorem dX2_readChart_125 : decode cX2_readChart 125 = .ok (.iadd, 1) := by decide +kernel
theorem dX2_readChart_126 : decode cX2_readChart 126 = .ok (.istore 5, 2) := by decide +kernel
theorem dX2_readChart_128 : decode cX2_readChart 128 = .ok (.iinc 6 1, 3) := by decide +kernel
theorem dX2_readChart_131 : decode cX2_readChart 131 = .ok (.goto (-114), 3) := by decide +kernel
theorem dX2_readChart_134 : decode cX2_readChart 134 = .ok (.aload_n 1, 1) := by decide +kernel
theorem dX2_readChart_135 : decode cX2_readChart 135 = .ok (.iload_n 3, 1) := by decide +kernel
theorem dX2_readChart_136 : decode cX2_readChart 136 = .ok (.putfield 65, 3) := by decide +kernel
theorem dX2_readChart_139 : decode cX2_readChart 139 = .ok (.aload_n 1, 1) := by decide +kernel
theorem dX2_readChart_140 : decode cX2_readChart 140 = .ok (.iload 4, 2) := by decide +kernel
theorem dX2_readChart_142 : decode cX2_readChart 142 = .ok (.putfield 68, 3) := by decide +kernel
theorem dX2_readChart_145 : decode cX2_readChart 145 = .ok (.iconst 1, 1) := by decide +kernel
theorem dX2_readChart_146 : decode cX2_readChart 146 = .ok (.ireturn, 1) := by decide +kernel
theorem dX3_init_0 : decode cX3_init 0 = .ok (.aload_n 0, 1) := by decide +kernel
theorem dX3_init_1 : decode cX3_init 1 = .ok (.invokespecial 3, 3) := by decide +kernel
theorem dX3_init_4 : decode cX3_init 4 = .ok (.aload_n 0, 1) := by decide +kernel
theorem dX3_init_5 : decode cX3_init 5 = .ok (.new 9, 3) := by decide +kernel
theorem dX3_init_8 : decode cX3_init 8 = .ok (.dup, 1) := by decide +kernel
theorem dX3_init_9 : decode cX3_init 9 = .ok (.invokespecial 11, 3) := by decide +kernel
theorem dX3_init_12 : decode cX3_init 12 = .ok (.putfield 12, 3) := by decide +kernel
theorem dX3_init_15 : decode cX3_init 15 = .ok (.aload_n 0, 1) := by decide +kernel
theorem dX3_init_16 : decode cX3_init 16 = .ok (.iconst 4, 1) := by decide +kernel
theorem dX3_init_17 : decode cX3_init 17 = .ok (.newarray .int, 2) := by decide +kernel
theorem dX3_init_19 : decode cX3_init 19 = .ok (.putfield 18, 3) := by decide +kernel
theorem dX3_init_22 : decode cX3_init 22 = .ok (.getstatic 22, 3) := by decide +kernel
theorem dX3_init_25 : decode cX3_init 25 = .ok (.aload_n 0, 1) := by decide +kernel
theorem dX3_init_26 : decode cX3_init 26 = .ok (.getfield 18, 3) := by decide +kernel
theorem dX3_init_29 : decode cX3_init 29 = .ok (.invokestatic 25, 3) := by decide +kernel
theorem dX3_init_32 : decode cX3_init 32 = .ok (.aload_n 0, 1) := by decide +kernel
theorem dX3_init_33 : decode cX3_init 33 = .ok (.bipush 6, 2) := by decide +kernel
theorem dX3_init_35 : decode cX3_init 35 = .ok (.newarray .int, 2) := by decide +kernel
theorem dX3_init_37 : decode cX3_init 37 = .ok (.putfield 29, 3) := by decide +kernel
theorem dX3_init_40 : decode cX3_init 40 = .ok (.aload_n 0, 1) := by decide +kernel
theorem dX3_init_41 : decode cX3_init 41 = .ok (.bipush 6, 2) := by decide +kernel
theorem dX3_init_43 : decode cX3_init 43 = .ok (.newarray .int, 2) := by decide +kernel
theorem dX3_init_45 : decode cX3_init 45 = .ok (.putfield 32, 3) := by decide +kernel
theorem dX3_init_48 : decode cX3_init 48 = .ok (.aload_n 0, 1) := by decide +kernel
theorem dX3_init_49 : decode cX3_init 49 = .ok (.bipush 6, 2) := by decide +kernel
theorem dX3_init_51 : decode cX3_init 51 = .ok (.newarray .int, 2) := by decide +kernel
theorem dX3_init_53 : decode cX3_init 53 = .ok (.putfield 35, 3) := by decide +kernel
theorem dX3_init_56 : decode cX3_init 56 = .ok (.aload_n 0, 1) := by decide +kernel
theorem dX3_init_57 : decode cX3_init 57 = .ok (.sipush 240, 3) := by decide +kernel
theorem dX3_init_60 : decode cX3_init 60 = .ok (.newarray .int, 2) := by decide +kernel
theorem dX3_init_62 : decode cX3_init 62 = .ok (.putfield 38, 3) := by decide +kernel
theorem dX3_init_65 : decode cX3_init 65 = .ok (.aload_n 0, 1) := by decide +kernel
theorem dX3_init_66 : decode cX3_init 66 = .ok (.bipush 48, 2) := by decide +kernel
theorem dX3_init_68 : decode cX3_init 68 = .ok (.newarray .int, 2) := by decide +kernel
theorem dX3_init_70 : decode cX3_init 70 = .ok (.putfield 41, 3) := by decide +kernel
theorem dX3_init_73 : decode cX3_init 73 = .ok (.aload_n 0, 1) := by decide +kernel
theorem dX3_init_74 : decode cX3_init 74 = .ok (.iconst 0, 1) := by decide +kernel
theorem dX3_init_75 : decode cX3_init 75 = .ok (.putfield 44, 3) := by decide +kernel
theorem dX3_init_78 : decode cX3_init 78 = .ok (.aload_n 0, 1) := by decide +kernel
theorem dX3_init_79 : decode cX3_init 79 = .ok (.iconst 1, 1) := by decide +kernel
theorem dX3_init_80 : decode cX3_init 80 = .ok (.putfield 48, 3) := by decide +kernel
theorem dX3_init_83 : decode cX3_init 83 = .ok (.aload_n 0, 1) := by decide +kernel
theorem dX3_init_84 : decode cX3_init 84 = .ok (.iconst 0, 1) := by decide +kernel
theorem dX3_init_85 : decode cX3_init 85 = .ok (.putfield 51, 3) := by decide +kernel
theorem dX3_init_88 : decode cX3_init 88 = .ok (.return_, 1) := by decide +kernel
theorem dX3_copyFrom_0 : decode cX3_copyFrom 0 = .ok (.aload_n 1, 1) := by decide +kernel
theorem dX3_copyFrom_1 : decode cX3_copyFrom 1 = .ok (.ifnonnull 4, 3) := by decide +kernel
theorem dX3_copyFrom_4 : decode cX3_copyFrom 4 = .ok (.return_, 1) := by decide +kernel
theorem dX3_copyFrom_5 : decode cX3_copyFrom 5 = .ok (.aload_n 0, 1) := by decide +kernel
theorem dX3_copyFrom_6 : decode cX3_copyFrom 6 = .ok (.getfield 12, 3) := by decide +kernel
theorem dX3_copyFrom_9 : decode cX3_copyFrom 9 = .ok (.aload_n 1, 1) := by decide +kernel
theorem dX3_copyFrom_10 : decode cX3_copyFrom 10 = .ok (.getfield 12, 3) := by decide +kernel
theorem dX3_copyFrom_13 : decode cX3_copyFrom 13 = .ok (.invokevirtual 54, 3) := by decide +kernel
theorem dX3_copyFrom_16 : decode cX3_copyFrom 16 = .ok (.aload_n 1, 1) := by decide +kernel
theorem dX3_copyFrom_17 : decode cX3_copyFrom 17 = .ok (.getfield 18, 3) := by decide +kernel
theorem dX3_copyFrom_20 : decode cX3_copyFrom 20 = .ok (.aload_n 0, 1) := by decide +kernel
theorem dX3_copyFrom_21 : decode cX3_copyFrom 21 = .ok (.getfield 18, 3) := by decide +kernel
theorem dX3_copyFrom_24 : decode cX3_copyFrom 24 = .ok (.invokestatic 25, 3) := by decide +kernel
theorem dX3_copyFrom_27 : decode cX3_copyFrom 27 = .ok (.aload_n 1, 1) := by decide +kernel
theorem dX3_copyFrom_28 : decode cX3_copyFrom 28 = .ok (.getfield 29, 3) := by decide +kernel
theorem dX3_copyFrom_31 : decode cX3_copyFrom 31 = .ok (.aload_n 0, 1) := by decide +kernel
theorem dX3_copyFrom_32 : decode cX3_copyFrom 32 = .ok (.getfield 29, 3) := by decide +kernel
theorem dX3_copyFrom_35 : decode cX3_copyFrom 35 = .ok (.invokestatic 25, 3) := by decide +kernel
theorem dX3_copyFrom_38 : decode cX3_copyFrom 38 = .ok (.aload_n 1, 1) := by decide +kernel
theorem dX3_copyFrom_39 : decode cX3_copyFrom 39 = .ok (.getfield 32, 3) := by decide +kernel
theorem dX3_copyFrom_42 : decode cX3_copyFrom 42 = .ok (.aload_n 0, 1) := by decide +kernel
theorem dX3_copyFrom_43 : decode cX3_copyFrom 43 = .ok (.getfield 32, 3) := by decide +kernel
theorem dX3_copyFrom_46 : decode cX3_copyFrom 46 = .ok (.invokestatic 25, 3) := by decide +kernel
theorem dX3_copyFrom_49 : decode cX3_copyFrom 49 = .ok (.aload_n 1, 1) := by decide +kernel
theorem dX3_copyFrom_50 : decode cX3_copyFrom 50 = .ok (.getfield 35, 3) := by decide +kernel
theorem dX3_copyFrom_53 : decode cX3_copyFrom 53 = .ok (.aload_n 0, 1) := by decide +kernel
theorem dX3_copyFrom_54 : decode cX3_copyFrom 54 = .ok (.getfield 35, 3) := by decide +kernel
theorem dX3_copyFrom_57 : decode cX3_copyFrom 57 = .ok (.invokestatic 25, 3) := by decide +kernel
theorem dX3_copyFrom_60 : decode cX3_copyFrom 60 = .ok (.aload_n 1, 1) := by decide +kernel
theorem dX3_copyFrom_61 : decode cX3_copyFrom 61 = .ok (.getfield 38, 3) := by decide +kernel
theorem dX3_copyFrom_64 : decode cX3_copyFrom 64 = .ok (.aload_n 0, 1) := by decide +kernel
theorem dX3_copyFrom_65 : decode cX3_copyFrom 65 = .ok (.getfield 38, 3) := by decide +kernel
theorem dX3_copyFrom_68 : decode cX3_copyFrom 68 = .ok (.invokestatic 25, 3) := by decide +kernel
theorem dX3_copyFrom_71 : decode cX3_copyFrom 71 = .ok (.aload_n 1, 1) := by decide +kernel
theorem dX3_copyFrom_72 : decode cX3_copyFrom 72 = .ok (.getfield 41, 3) := by decide +kernel
theorem dX3_copyFrom_75 : decode cX3_copyFrom 75 = .ok (.aload_n 0, 1) := by decide +kernel
theorem dX3_copyFrom_76 : decode cX3_copyFrom 76 = .ok (.getfield 41, 3) := by decide +kernel
theorem dX3_copyFrom_79 : decode cX3_copyFrom 79 = .ok (.invokestatic 25, 3) := by decide +kernel
theorem dX3_copyFrom_82 : decode cX3_copyFrom 82 = .ok (.aload_n 0, 1) := by decide +kernel
theorem dX3_copyFrom_83 : decode cX3_copyFrom 83 = .ok (.aload_n 1, 1) := by decide +kernel
theorem dX3_copyFrom_84 : decode cX3_copyFrom 84 = .ok (.getfield 44, 3) := by decide +kernel
theorem dX3_copyFrom_87 : decode cX3_copyFrom 87 = .ok (.putfield 44, 3) := by decide +kernel
theorem dX3_copyFrom_90 : decode cX3_copyFrom 90 = .ok (.aload_n 0, 1) := by decide +kernel
theorem dX3_copyFrom_91 : decode cX3_copyFrom 91 = .ok (.aload_n 1, 1) := by decide +kernel
theorem dX3_copyFrom_92 : decode cX3_copyFrom 92 = .ok (.getfield 48, 3) := by decide +kernel
theorem dX3_copyFrom_95 : decode cX3_copyFrom 95 = .ok (.putfield 48, 3) := by decide +kernel
theorem dX3_copyFrom_98 : decode cX3_copyFrom 98 = .ok (.aload_n 0, 1) := by decide +kernel
theorem dX3_copyFrom_99 : decode cX3_copyFrom 99 = .ok (.aload_n 1, 1) := by decide +kernel
theorem dX3_copyFrom_100 : decode cX3_copyFrom 100 = .ok (.getfield 51, 3) := by decide +kernel
theorem dX3_copyFrom_103 : decode cX3_copyFrom 103 = .ok (.putfield 51, 3) := by decide +kernel
theorem dX3_copyFrom_106 : decode cX3_copyFrom 106 = .ok (.return_, 1) := by decide +kernel
theorem dX3_patternColour_0 : decode cX3_patternColour 0 = .ok (.aload_n 0, 1) := by decide +kernel
theorem dX3_patternColour_1 : decode cX3_patternColour 1 = .ok (.getfield 12, 3) := by decide +kernel
theorem dX3_patternColour_4 : decode cX3_patternColour 4 = .ok (.iload_n 1, 1) := by decide +kernel
theorem dX3_patternColour_5 : decode cX3_patternColour 5 = .ok (.aload_n 0, 1) := by decide +kernel
theorem dX3_patternColour_6 : decode cX3_patternColour 6 = .ok (.getfield 18, 3) := by decide +kernel
theorem dX3_patternColour_9 : decode cX3_patternColour 9 = .ok (.iconst 0, 1) := by decide +kernel
theorem dX3_patternColour_10 : decode cX3_patternColour 10 = .ok (.invokestatic 58, 3) := by decide +kernel
theorem dX3_patternColour_13 : decode cX3_patternColour 13 = .ok (.aload_n 0, 1) := by decide +kernel
theorem dX3_patternColour_14 : decode cX3_patternColour 14 = .ok (.getfield 18, 3) := by decide +kernel
theorem dX3_patternColour_17 : decode cX3_patternColour 17 = .ok (.iconst 1, 1) := by decide +kernel
theorem dX3_patternColour_18 : decode cX3_patternColour 18 = .ok (.invokestatic 58, 3) := by decide +kernel
theorem dX3_patternColour_21 : decode cX3_patternColour 21 = .ok (.invokevirtual 62, 3) := by decide +kernel
theorem dX3_patternColour_24 : decode cX3_patternColour 24 = .ok (.istore_n 2, 1) := by decide +kernel
theorem dX3_patternColour_25 : decode cX3_patternColour 25 = .ok (.aload_n 0, 1) := by decide +kernel
theorem dX3_patternColour_26 : decode cX3_patternColour 26 = .ok (.getfield 12, 3) := by decide +kernel
theorem dX3_patternColour_29 : decode cX3_patternColour 29 = .ok (.getfield 66, 3) := by decide +kernel
theorem dX3_patternColour_32 : decode cX3_patternColour 32 = .ok (.iload_n 2, 1) := by decide +kernel
theorem dX3_patternColour_33 : decode cX3_patternColour 33 = .ok (.invokestatic 58, 3) := by decide +kernel
theorem dX3_patternColour_36 : decode cX3_patternColour 36 = .ok (.ireturn, 1) := by decide +kernel
theorem dX3_patternNumber_0 : decode cX3_patternNumber 0 = .ok (.aload_n 0, 1) := by decide +kernel
theorem dX3_patternNumber_1 : decode cX3_patternNumber 1 = .ok (.getfield 18, 3) := by decide +kernel
theorem dX3_patternNumber_4 : decode cX3_patternNumber 4 = .ok (.iconst 0, 1) := by decide +kernel
theorem dX3_patternNumber_5 : decode cX3_patternNumber 5 = .ok (.invokestatic 58, 3) := by decide +kernel
theorem dX3_patternNumber_8 : decode cX3_patternNumber 8 = .ok (.istore_n 3, 1) := by decide +kernel
theorem dX3_patternNumber_9 : decode cX3_patternNumber 9 = .ok (.aload_n 0, 1) := by decide +kernel
theorem dX3_patternNumber_10 : decode cX3_patternNumber 10 = .ok (.getfield 12, 3) := by decide +kernel
theorem dX3_patternNumber_13 : decode cX3_patternNumber 13 = .ok (.iload_n 1, 1) := by decide +kernel
theorem dX3_patternNumber_14 : decode cX3_patternNumber 14 = .ok (.iload_n 3, 1) := by decide +kernel
theorem dX3_patternNumber_15 : decode cX3_patternNumber 15 = .ok (.aload_n 0, 1) := by decide +kernel
theorem dX3_patternNumber_16 : decode cX3_patternNumber 16 = .ok (.getfield 18, 3) := by decide +kernel
theorem dX3_patternNumber_19 : decode cX3_patternNumber 19 = .ok (.iconst 1, 1) := by decide +kernel
theorem dX3_patternNumber_20 : decode cX3_patternNumber 20 = .ok (.invokestatic 58, 3) := by decide +kernel
theorem dX3_patternNumber_23 : decode cX3_patternNumber 23 = .ok (.invokevirtual 62, 3) := by decide +kernel
theorem dX3_patternNumber_26 : decode cX3_patternNumber 26 = .ok (.istore 4, 2) := by decide +kernel
theorem dX3_patternNumber_28 : decode cX3_patternNumber 28 = .ok (.iload_n 2, 1) := by decide +kernel
theorem dX3_patternNumber_29 : decode cX3_patternNumber 29 = .ok (.tableswitch 52 0 2 #[27, 40, 46], 27) := by decide +kernel
theorem dX3_patternNumber_56 : decode cX3_patternNumber 56 = .ok (.aload_n 0, 1) := by decide +kernel
theorem dX3_patternNumber_57 : decode cX3_patternNumber 57 = .ok (.getfield 12, 3) := by decide +kernel
theorem dX3_patternNumber_60 : decode cX3_patternNumber 60 = .ok (.getfield 66, 3) := by decide +kernel
theorem dX3_patternNumber_63 : decode cX3_patternNumber 63 = .ok (.iload 4, 2) := by decide +kernel
theorem dX3_patternNumber_65 : decode cX3_patternNumber 65 = .ok (.invokestatic 58, 3) := by decide +kernel
theorem dX3_patternNumber_68 : decode cX3_patternNumber 68 = .ok (.ireturn, 1) := by decide +kernel
theorem dX3_patternNumber_69 : decode cX3_patternNumber 69 = .ok (.iload_n 1, 1) := by decide +kernel
theorem dX3_patternNumber_70 : decode cX3_patternNumber 70 = .ok (.iload_n 3, 1) := by decide +kernel
theorem dX3_patternNumber_71 : decode cX3_patternNumber 71 = .ok (.invokestatic 69, 3) := by decide +kernel
theorem dX3_patternNumber_74 : decode cX3_patternNumber 74 = .ok (.ireturn, 1) := by decide +kernel
theorem dX3_patternNumber_75 : decode cX3_patternNumber 75 = .ok (.iload 4, 2) := by decide +kernel
theorem dX3_patternNumber_77 : decode cX3_patternNumber 77 = .ok (.bipush 12, 2) := by decide +kernel
theorem dX3_patternNumber_79 : decode cX3_patternNumber 79 = .ok (.idiv, 1) := by decide +kernel
theorem dX3_patternNumber_80 : decode cX3_patternNumber 80 = .ok (.ireturn, 1) := by decide +kernel
theorem dX3_patternNumber_81 : decode cX3_patternNumber 81 = .ok (.iload 4, 2) := by decide +kernel
theorem dX3_patternNumber_83 : decode cX3_patternNumber 83 = .ok (.bipush 12, 2) := by decide +kernel
theorem dX3_patternNumber_85 : decode cX3_patternNumber 85 = .ok (.irem, 1) := by decide +kernel
theorem dX3_patternNumber_86 : decode cX3_patternNumber 86 = .ok (.ireturn, 1) := by decide +kernel
theorem dX3_isWrong_0 : decode cX3_isWrong 0 = .ok (.aload_n 0, 1) := by decide +kernel
theorem dX3_isWrong_1 : decode cX3_isWrong 1 = .ok (.getfield 38, 3) := by decide +kernel
theorem dX3_isWrong_4 : decode cX3_isWrong 4 = .ok (.iload_n 1, 1) := by decide +kernel
theorem dX3_isWrong_5 : decode cX3_isWrong 5 = .ok (.invokestatic 58, 3) := by decide +kernel
theorem dX3_isWrong_8 : decode cX3_isWrong 8 = .ok (.aload_n 0, 1) := by decide +kernel
theorem dX3_isWrong_9 : decode cX3_isWrong 9 = .ok (.iload_n 1, 1) := by decide +kernel
theorem dX3_isWrong_10 : decode cX3_isWrong 10 = .ok (.invokevirtual 73, 3) := by decide +kernel
theorem dX3_isWrong_13 : decode cX3_isWrong 13 = .ok (.if_icmp .eq 7, 3) := by decide +kernel
theorem dX3_isWrong_16 : decode cX3_isWrong 16 = .ok (.iconst 1, 1) := by decide +kernel
theorem dX3_isWrong_17 : decode cX3_isWrong 17 = .ok (.goto 4, 3) := by decide +kernel
theorem dX3_isWrong_20 : decode cX3_isWrong 20 = .ok (.iconst 0, 1) := by decide +kernel
theorem dX3_isWrong_21 : decode cX3_isWrong 21 = .ok (.ireturn, 1) := by decide +kernel
theorem dX3_wrongBetween_0 : decode cX3_wrongBetween 0 = .ok (.iconst 0, 1) := by decide +kernel
theorem dX3_wrongBetween_1 : decode cX3_wrongBetween 1 = .ok (.istore_n 3, 1) := by decide +kernel
theorem dX3_wrongBetween_2 : decode cX3_wrongBetween 2 = .ok (.iload_n 1, 1) := by decide +kernel
theorem dX3_wrongBetween_3 : decode cX3_wrongBetween 3 = .ok (.istore 4, 2) := by decide +kernel
theorem dX3_wrongBetween_5 : decode cX3_wrongBetween 5 = .ok (.iload 4, 2) := by decide +kernel
theorem dX3_wrongBetween_7 : decode cX3_wrongBetween 7 = .ok (.iload_n 2, 1) := by decide +kernel
theorem dX3_wrongBetween_8 : decode cX3_wrongBetween 8 = .ok (.if_icmp .ge 21, 3) := by decide +kernel
theorem dX3_wrongBetween_11 : decode cX3_wrongBetween 11 = .ok (.aload_n 0, 1) := by decide +kernel
theorem dX3_wrongBetween_12 : decode cX3_wrongBetween 12 = .ok (.iload 4, 2) := by decide +kernel
theorem dX3_wrongBetween_14 : decode cX3_wrongBetween 14 = .ok (.invokevirtual 77, 3) := by decide +kernel
theorem dX3_wrongBetween_17 : decode cX3_wrongBetween 17 = .ok (.ifCond .eq 6, 3) := by decide +kernel
theorem dX3_wrongBetween_20 : decode cX3_wrongBetween 20 = .ok (.iinc 3 1, 3) := by decide +kernel
theorem dX3_wrongBetween_23 : decode cX3_wrongBetween 23 = .ok (.iinc 4 1, 3) := by decide +kernel
theorem dX3_wrongBetween_26 : decode cX3_wrongBetween 26 = .ok (.goto (-21), 3) := by decide +kernel
theorem dX3_wrongBetween_29 : decode cX3_wrongBetween 29 = .ok (.iload_n 3, 1) := by decide +kernel
theorem dX3_wrongBetween_30 : decode cX3_wrongBetween 30 = .ok (.ireturn, 1) := by decide +kernel
theorem dX3_wrongOf_0 : decode cX3_wrongOf 0 = .ok (.iconst 0, 1) := by decide +kernel
theorem dX3_wrongOf_1 : decode cX3_wrongOf 1 = .ok (.istore_n 2, 1) := by decide +kernel
theorem dX3_wrongOf_2 : decode cX3_wrongOf 2 = .ok (.iconst 0, 1) := by decide +kernel
theorem dX3_wrongOf_3 : decode cX3_wrongOf 3 = .ok (.istore_n 3, 1) := by decide +kernel
theorem dX3_wrongOf_4 : decode cX3_wrongOf 4 = .ok (.iload_n 3, 1) := by decide +kernel
theorem dX3_wrongOf_5 : decode cX3_wrongOf 5 = .ok (.aload_n 0, 1) := by decide +kernel
theorem dX3_wrongOf_6 : decode cX3_wrongOf 6 = .ok (.getfield 44, 3) := by decide +kernel
theorem dX3_wrongOf_9 : decode cX3_wrongOf 9 = .ok (.if_icmp .ge 32, 3) := by decide +kernel
theorem dX3_wrongOf_12 : decode cX3_wrongOf 12 = .ok (.aload_n 0, 1) := by decide +kernel
theorem dX3_wrongOf_13 : decode cX3_wrongOf 13 = .ok (.getfield 38, 3) := by decide +kernel
theorem dX3_wrongOf_16 : decode cX3_wrongOf 16 = .ok (.iload_n 3, 1) := by decide +kernel
theorem dX3_wrongOf_17 : decode cX3_wrongOf 17 = .ok (.invokestatic 58, 3) := by decide +kernel
theorem dX3_wrongOf_20 : decode cX3_wrongOf 20 = .ok (.iload_n 1, 1) := by decide +kernel
theorem dX3_wrongOf_21 : decode cX3_wrongOf 21 = .ok (.if_icmp .ne 14, 3) := by decide +kernel
theorem dX3_wrongOf_24 : decode cX3_wrongOf 24 = .ok (.aload_n 0, 1) := by decide +kernel
theorem dX3_wrongOf_25 : decode cX3_wrongOf 25 = .ok (.iload_n 3, 1) := by decide +kernel
theorem dX3_wrongOf_26 : decode cX3_wrongOf 26 = .ok (.invokevirtual 77, 3) := by decide +kernel
theorem dX3_wrongOf_29 : decode cX3_wrongOf 29 = .ok (.ifCond .eq 6, 3) := by decide +kernel
theorem dX3_wrongOf_32 : decode cX3_wrongOf 32 = .ok (.iinc 2 1, 3) := by decide +kernel
theorem dX3_wrongOf_35 : decode cX3_wrongOf 35 = .ok (.iinc 3 1, 3) := by decide +kernel
theorem dX3_wrongOf_38 : decode cX3_wrongOf 38 = .ok (.goto (-34), 3) := by decide +kernel
theorem dX3_wrongOf_41 : decode cX3_wrongOf 41 = .ok (.iload_n 2, 1) := by decide +kernel
theorem dX3_wrongOf_42 : decode cX3_wrongOf 42 = .ok (.ireturn, 1) := by decide +kernel
theorem dX3_endOf_0 : decode cX3_endOf 0 = .ok (.iload_n 1, 1) := by decide +kernel
theorem dX3_endOf_1 : decode cX3_endOf 1 = .ok (.iconst 1, 1) := by decide +kernel
theorem dX3_endOf_2 : decode cX3_endOf 2 = .ok (.iadd, 1) := by decide +kernel
theorem dX3_endOf_3 : decode cX3_endOf 3 = .ok (.aload_n 0, 1) := by decide +kernel
theorem dX3_endOf_4 : decode cX3_endOf 4 = .ok (.getfield 48, 3) := by decide +kernel
theorem dX3_endOf_7 : decode cX3_endOf 7 = .ok (.if_icmp .ge 16, 3) := by decide +kernel
theorem dX3_endOf_10 : decode cX3_endOf 10 = .ok (.aload_n 0, 1) := by decide +kernel
theorem dX3_endOf_11 : decode cX3_endOf 11 = .ok (.getfield 41, 3) := by decide +kernel
theorem dX3_endOf_14 : decode cX3_endOf 14 = .ok (.iload_n 1, 1) := by decide +kernel
theorem dX3_endOf_15 : decode cX3_endOf 15 = .ok (.iconst 1, 1) := by decide +kernel
theorem dX3_endOf_16 : decode cX3_endOf 16 = .ok (.iadd, 1) := by decide +kernel
theorem dX3_endOf_17 : decode cX3_endOf 17 = .ok (.invokestatic 58, 3) := by decide +kernel
theorem dX3_endOf_20 : decode cX3_endOf 20 = .ok (.goto 7, 3) := by decide +kernel
theorem dX3_endOf_23 : decode cX3_endOf 23 = .ok (.aload_n 0, 1) := by decide +kernel
theorem dX3_endOf_24 : decode cX3_endOf 24 = .ok (.getfield 44, 3) := by decide +kernel
theorem dX3_endOf_27 : decode cX3_endOf 27 = .ok (.ireturn, 1) := by decide +kernel
theorem dX3_lengthOf_0 : decode cX3_lengthOf 0 = .ok (.aload_n 0, 1) := by decide +kernel
theorem dX3_lengthOf_1 : decode cX3_lengthOf 1 = .ok (.iload_n 1, 1) := by decide +kernel
theorem dX3_lengthOf_2 : decode cX3_lengthOf 2 = .ok (.invokevirtual 81, 3) := by decide +kernel
theorem dX3_lengthOf_5 : decode cX3_lengthOf 5 = .ok (.aload_n 0, 1) := by decide +kernel
theorem dX3_lengthOf_6 : decode cX3_lengthOf 6 = .ok (.getfield 41, 3) := by decide +kernel
theorem dX3_lengthOf_9 : decode cX3_lengthOf 9 = .ok (.iload_n 1, 1) := by decide +kernel
theorem dX3_lengthOf_10 : decode cX3_lengthOf 10 = .ok (.invokestatic 58, 3) := by decide +kernel
theorem dX3_lengthOf_13 : decode cX3_lengthOf 13 = .ok (.isub, 1) := by decide +kernel
theorem dX3_lengthOf_14 : decode cX3_lengthOf 14 = .ok (.ireturn, 1) := by decide +kernel
theorem dX3_stringOf_0 : decode cX3_stringOf 0 = .ok (.aload_n 0, 1) := by decide +kernel
theorem dX3_stringOf_1 : decode cX3_stringOf 1 = .ok (.getfield 48, 3) := by decide +kernel
theorem dX3_stringOf_4 : decode cX3_stringOf 4 = .ok (.iconst 1, 1) := by decide +kernel
theorem dX3_stringOf_5 : decode cX3_stringOf 5 = .ok (.isub, 1) := by decide +kernel
theorem dX3_stringOf_6 : decode cX3_stringOf 6 = .ok (.istore_n 2, 1) := by decide +kernel
theorem dX3_stringOf_7 : decode cX3_stringOf 7 = .ok (.iload_n 2, 1) := by decide +kernel
theorem dX3_stringOf_8 : decode cX3_stringOf 8 = .ok (.ifCond .le 23, 3) := by decide +kernel
theorem dX3_stringOf_11 : decode cX3_stringOf 11 = .ok (.aload_n 0, 1) := by decide +kernel
theorem dX3_stringOf_12 : decode cX3_stringOf 12 = .ok (.getfield 41, 3) := by decide +kernel
theorem dX3_stringOf_15 : decode cX3_stringOf 15 = .ok (.iload_n 2, 1) := by decide +kernel
theorem dX3_stringOf_16 : decode cX3_stringOf 16 = .ok (.invokestatic 58, 3) := by decide +kernel
theorem dX3_stringOf_19 : decode cX3_stringOf 19 = .ok (.iload_n 1, 1) := by decide +kernel
theorem dX3_stringOf_20 : decode cX3_stringOf 20 = .ok (.if_icmp .gt 5, 3) := by decide +kernel
theorem dX3_stringOf_23 : decode cX3_stringOf 23 = .ok (.iload_n 2, 1) := by decide +kernel
theorem dX3_stringOf_24 : decode cX3_stringOf 24 = .ok (.ireturn, 1) := by decide +kernel
theorem dX3_stringOf_25 : decode cX3_stringOf 25 = .ok (.iinc 2 (-1), 3) := by decide +kernel
theorem dX3_stringOf_28 : decode cX3_stringOf 28 = .ok (.goto (-21), 3) := by decide +kernel
theorem dX3_stringOf_31 : decode cX3_stringOf 31 = .ok (.iconst 0, 1) := by decide +kernel
theorem dX3_stringOf_32 : decode cX3_stringOf 32 = .ok (.ireturn, 1) := by decide +kernel
theorem dX3_isHidden_0 : decode cX3_isHidden 0 = .ok (.aload_n 0, 1) := by decide +kernel
theorem dX3_isHidden_1 : decode cX3_isHidden 1 = .ok (.aload_n 0, 1) := by decide +kernel
theorem dX3_isHidden_2 : decode cX3_isHidden 2 = .ok (.getfield 41, 3) := by decide +kernel
theorem dX3_isHidden_5 : decode cX3_isHidden 5 = .ok (.iload_n 1, 1) := by decide +kernel
theorem dX3_isHidden_6 : decode cX3_isHidden 6 = .ok (.invokestatic 58, 3) := by decide +kernel
theorem dX3_isHidden_9 : decode cX3_isHidden 9 = .ok (.invokevirtual 73, 3) := by decide +kernel
theorem dX3_isHidden_12 : decode cX3_isHidden 12 = .ok (.aload_n 0, 1) := by decide +kernel
theorem dX3_isHidden_13 : decode cX3_isHidden 13 = .ok (.getfield 18, 3) := by decide +kernel
theorem dX3_isHidden_16 : decode cX3_isHidden 16 = .ok (.iconst 3, 1) := by decide +kernel
theorem dX3_isHidden_17 : decode cX3_isHidden 17 = .ok (.invokestatic 58, 3) := by decide +kernel
theorem dX3_isHidden_20 : decode cX3_isHidden 20 = .ok (.if_icmp .ne 7, 3) := by decide +kernel
theorem dX3_isHidden_23 : decode cX3_isHidden 23 = .ok (.iconst 1, 1) := by decide +kernel
theorem dX3_isHidden_24 : decode cX3_isHidden 24 = .ok (.goto 4, 3) := by decide +kernel
theorem dX3_isHidden_27 : decode cX3_isHidden 27 = .ok (.iconst 0, 1) := by decide +kernel
theorem dX3_isHidden_28 : decode cX3_isHidden 28 = .ok (.ireturn, 1) := by decide +kernel
theorem dX3_openKnots_0 : decode cX3_openKnots 0 = .ok (.iconst 0, 1) := by decide +kernel
theorem dX3_openKnots_1 : decode cX3_openKnots 1 = .ok (.istore_n 1, 1) := by decide +kernel
theorem dX3_openKnots_2 : decode cX3_openKnots 2 = .ok (.iconst 1, 1) := by decide +kernel
theorem dX3_openKnots_3 : decode cX3_openKnots 3 = .ok (.istore_n 2, 1) := by decide +kernel
theorem dX3_openKnots_4 : decode cX3_openKnots 4 = .ok (.iload_n 2, 1) := by decide +kernel
theorem dX3_openKnots_5 : decode cX3_openKnots 5 = .ok (.aload_n 0, 1) := by decide +kernel
theorem dX3_openKnots_6 : decode cX3_openKnots 6 = .ok (.getfield 48, 3) := by decide +kernel
theorem dX3_openKnots_9 : decode cX3_openKnots 9 = .ok (.if_icmp .ge 20, 3) := by decide +kernel
theorem dX3_openKnots_12 : decode cX3_openKnots 12 = .ok (.aload_n 0, 1) := by decide +kernel
theorem dX3_openKnots_13 : decode cX3_openKnots 13 = .ok (.iload_n 2, 1) := by decide +kernel
theorem dX3_openKnots_14 : decode cX3_openKnots 14 = .ok (.invokevirtual 84, 3) := by decide +kernel
theorem dX3_openKnots_17 : decode cX3_openKnots 17 = .ok (.ifCond .ne 6, 3) := by decide +kernel
theorem dX3_openKnots_20 : decode cX3_openKnots 20 = .ok (.iinc 1 1, 3) := by decide +kernel
theorem dX3_openKnots_23 : decode cX3_openKnots 23 = .ok (.iinc 2 1, 3) := by decide +kernel
theorem dX3_openKnots_26 : decode cX3_openKnots 26 = .ok (.goto (-22), 3) := by decide +kernel
theorem dX3_openKnots_29 : decode cX3_openKnots 29 = .ok (.iload_n 1, 1) := by decide +kernel
theorem dX3_openKnots_30 : decode cX3_openKnots 30 = .ok (.ireturn, 1) := by decide +kernel
theorem dX3_room_0 : decode cX3_room 0 = .ok (.aload_n 0, 1) := by decide +kernel
theorem dX3_room_1 : decode cX3_room 1 = .ok (.getfield 18, 3) := by decide +kernel
theorem dX3_room_4 : decode cX3_room 4 = .ok (.iconst 2, 1) := by decide +kernel
theorem dX3_room_5 : decode cX3_room 5 = .ok (.invokestatic 58, 3) := by decide +kernel
theorem dX3_room_8 : decode cX3_room 8 = .ok (.aload_n 0, 1) := by decide +kernel
theorem dX3_room_9 : decode cX3_room 9 = .ok (.aload_n 0, 1) := by decide +kernel
theorem dX3_room_10 : decode cX3_room 10 = .ok (.getfield 48, 3) := by decide +kernel
theorem dX3_room_13 : decode cX3_room 13 = .ok (.iconst 1, 1) := by decide +kernel
theorem dX3_room_14 : decode cX3_room 14 = .ok (.isub, 1) := by decide +kernel
theorem dX3_room_15 : decode cX3_room 15 = .ok (.invokevirtual 87, 3) := by decide +kernel
theorem dX3_room_18 : decode cX3_room 18 = .ok (.isub, 1) := by decide +kernel
theorem dX3_room_19 : decode cX3_room 19 = .ok (.ireturn, 1) := by decide +kernel
theorem dX3_beadNumber_0 : decode cX3_beadNumber 0 = .ok (.iload_n 2, 1) := by decide +kernel
theorem dX3_beadNumber_1 : decode cX3_beadNumber 1 = .ok (.tableswitch 56 0 2 #[27, 36, 50], 27) := by decide +kernel
theorem dX3_beadNumber_28 : decode cX3_beadNumber 28 = .ok (.aload_n 0, 1) := by decide +kernel
theorem dX3_beadNumber_29 : decode cX3_beadNumber 29 = .ok (.getfield 38, 3) := by decide +kernel
theorem dX3_beadNumber_32 : decode cX3_beadNumber 32 = .ok (.iload_n 1, 1) := by decide +kernel
theorem dX3_beadNumber_33 : decode cX3_beadNumber 33 = .ok (.invokestatic 58, 3) := by decide +kernel
theorem dX3_beadNumber_36 : decode cX3_beadNumber 36 = .ok (.ireturn, 1) := by decide +kernel
theorem dX3_beadNumber_37 : decode cX3_beadNumber 37 = .ok (.aload_n 0, 1) := by decide +kernel
theorem dX3_beadNumber_38 : decode cX3_beadNumber 38 = .ok (.iload_n 1, 1) := by decide +kernel
theorem dX3_beadNumber_39 : decode cX3_beadNumber 39 = .ok (.invokevirtual 77, 3) := by decide +kernel
theorem dX3_beadNumber_42 : decode cX3_beadNumber 42 = .ok (.ifCond .eq 7, 3) := by decide +kernel
theorem dX3_beadNumber_45 : decode cX3_beadNumber 45 = .ok (.iconst 1, 1) := by decide +kernel
theorem dX3_beadNumber_46 : decode cX3_beadNumber 46 = .ok (.goto 4, 3) := by decide +kernel
theorem dX3_beadNumber_49 : decode cX3_beadNumber 49 = .ok (.iconst 0, 1) := by decide +kernel
theorem dX3_beadNumber_50 : decode cX3_beadNumber 50 = .ok (.ireturn, 1) := by decide +kernel
theorem dX3_beadNumber_51 : decode cX3_beadNumber 51 = .ok (.aload_n 0, 1) := by decide +kernel
theorem dX3_beadNumber_52 : decode cX3_beadNumber 52 = .ok (.iload_n 1, 1) := by decide +kernel
theorem dX3_beadNumber_53 : decode cX3_beadNumber 53 = .ok (.invokevirtual 90, 3) := by decide +kernel
theorem dX3_beadNumber_56 : decode cX3_beadNumber 56 = .ok (.ireturn, 1) := by decide +kernel
theorem dX3_beadNumber_57 : decode cX3_beadNumber 57 = .ok (.iload_n 1, 1) := by decide +kernel
theorem dX3_beadNumber_58 : decode cX3_beadNumber 58 = .ok (.aload_n 0, 1) := by decide +kernel
theorem dX3_beadNumber_59 : decode cX3_beadNumber 59 = .ok (.getfield 41, 3) := by decide +kernel
theorem dX3_beadNumber_62 : decode cX3_beadNumber 62 = .ok (.aload_n 0, 1) := by decide +kernel
theorem dX3_beadNumber_63 : decode cX3_beadNumber 63 = .ok (.iload_n 1, 1) := by decide +kernel
theorem dX3_beadNumber_64 : decode cX3_beadNumber 64 = .ok (.invokevirtual 90, 3) := by decide +kernel
theorem dX3_beadNumber_67 : decode cX3_beadNumber 67 = .ok (.invokestatic 58, 3) := by decide +kernel
theorem dX3_beadNumber_70 : decode cX3_beadNumber 70 = .ok (.isub, 1) := by decide +kernel
theorem dX3_beadNumber_71 : decode cX3_beadNumber 71 = .ok (.ireturn, 1) := by decide +kernel
theorem dX3_stringNumber_0 : decode cX3_stringNumber 0 = .ok (.iload_n 2, 1) := by decide +kernel
theorem dX3_stringNumber_1 : decode cX3_stringNumber 1 = .ok (.tableswitch 64 0 2 #[27, 36, 42], 27) := by decide +kernel
theorem dX3_stringNumber_28 : decode cX3_stringNumber 28 = .ok (.aload_n 0, 1) := by decide +kernel
theorem dX3_stringNumber_29 : decode cX3_stringNumber 29 = .ok (.getfield 41, 3) := by decide +kernel
theorem dX3_stringNumber_32 : decode cX3_stringNumber 32 = .ok (.iload_n 1, 1) := by decide +kernel
theorem dX3_stringNumber_33 : decode cX3_stringNumber 33 = .ok (.invokestatic 58, 3) := by decide +kernel
theorem dX3_stringNumber_36 : decode cX3_stringNumber 36 = .ok (.ireturn, 1) := by decide +kernel
theorem dX3_stringNumber_37 : decode cX3_stringNumber 37 = .ok (.aload_n 0, 1) := by decide +kernel
theorem dX3_stringNumber_38 : decode cX3_stringNumber 38 = .ok (.iload_n 1, 1) := by decide +kernel
theorem dX3_stringNumber_39 : decode cX3_stringNumber 39 = .ok (.invokevirtual 87, 3) := by decide +kernel
theorem dX3_stringNumber_42 : decode cX3_stringNumber 42 = .ok (.ireturn, 1) := by decide +kernel
theorem dX3_stringNumber_43 : decode cX3_stringNumber 43 = .ok (.iload_n 1, 1) := by decide +kernel
theorem dX3_stringNumber_44 : decode cX3_stringNumber 44 = .ok (.ifCond .ne 7, 3) := by decide +kernel
theorem dX3_stringNumber_47 : decode cX3_stringNumber 47 = .ok (.iconst (-1), 1) := by decide +kernel
theorem dX3_stringNumber_48 : decode cX3_stringNumber 48 = .ok (.goto 16, 3) := by decide +kernel
theorem dX3_stringNumber_51 : decode cX3_stringNumber 51 = .ok (.aload_n 0, 1) := by decide +kernel
theorem dX3_stringNumber_52 : decode cX3_stringNumber 52 = .ok (.iload_n 1, 1) := by decide +kernel
theorem dX3_stringNumber_53 : decode cX3_stringNumber 53 = .ok (.invokevirtual 84, 3) := by decide +kernel
theorem dX3_stringNumber_56 : decode cX3_stringNumber 56 = .ok (.ifCond .eq 7, 3) := by decide +kernel
theorem dX3_stringNumber_59 : decode cX3_stringNumber 59 = .ok (.iconst 1, 1) := by decide +kernel
theorem dX3_stringNumber_60 : decode cX3_stringNumber 60 = .ok (.goto 4, 3) := by decide +kernel
theorem dX3_stringNumber_63 : decode cX3_stringNumber 63 = .ok (.iconst 0, 1) := by decide +kernel
theorem dX3_stringNumber_64 : decode cX3_stringNumber 64 = .ok (.ireturn, 1) := by decide +kernel
theorem dX3_stringNumber_65 : decode cX3_stringNumber 65 = .ok (.aload_n 0, 1) := by decide +kernel
theorem dX3_stringNumber_66 : decode cX3_stringNumber 66 = .ok (.aload_n 0, 1) := by decide +kernel
theorem dX3_stringNumber_67 : decode cX3_stringNumber 67 = .ok (.getfield 41, 3) := by decide +kernel
theorem dX3_stringNumber_70 : decode cX3_stringNumber 70 = .ok (.iload_n 1, 1) := by decide +kernel
theorem dX3_stringNumber_71 : decode cX3_stringNumber 71 = .ok (.invokestatic 58, 3) := by decide +kernel
theorem dX3_stringNumber_74 : decode cX3_stringNumber 74 = .ok (.aload_n 0, 1) := by decide +kernel
theorem dX3_stringNumber_75 : decode cX3_stringNumber 75 = .ok (.iload_n 1, 1) := by decide +kernel
theorem dX3_stringNumber_76 : decode cX3_stringNumber 76 = .ok (.invokevirtual 81, 3) := by decide +kernel
theorem dX3_stringNumber_79 : decode cX3_stringNumber 79 = .ok (.invokevirtual 93, 3) := by decide +kernel
theorem dX3_stringNumber_82 : decode cX3_stringNumber 82 = .ok (.ireturn, 1) := by decide +kernel
theorem dX3_colourNumber_0 : decode cX3_colourNumber 0 = .ok (.iload_n 2, 1) := by decide +kernel
theorem dX3_colourNumber_1 : decode cX3_colourNumber 1 = .ok (.tableswitch 84 0 4 #[35, 44, 53, 66, 75], 35) := by decide +kernel
theorem dX3_colourNumber_36 : decode cX3_colourNumber 36 = .ok (.aload_n 0, 1) := by decide +kernel
theorem dX3_colourNumber_37 : decode cX3_colourNumber 37 = .ok (.getfield 29, 3) := by decide +kernel
theorem dX3_colourNumber_40 : decode cX3_colourNumber 40 = .ok (.iload_n 1, 1) := by decide +kernel
theorem dX3_colourNumber_41 : decode cX3_colourNumber 41 = .ok (.invokestatic 58, 3) := by decide +kernel
theorem dX3_colourNumber_44 : decode cX3_colourNumber 44 = .ok (.ireturn, 1) := by decide +kernel
theorem dX3_colourNumber_45 : decode cX3_colourNumber 45 = .ok (.aload_n 0, 1) := by decide +kernel
theorem dX3_colourNumber_46 : decode cX3_colourNumber 46 = .ok (.getfield 32, 3) := by decide +kernel
theorem dX3_colourNumber_49 : decode cX3_colourNumber 49 = .ok (.iload_n 1, 1) := by decide +kernel
theorem dX3_colourNumber_50 : decode cX3_colourNumber 50 = .ok (.invokestatic 58, 3) := by decide +kernel
theorem dX3_colourNumber_53 : decode cX3_colourNumber 53 = .ok (.ireturn, 1) := by decide +kernel
theorem dX3_colourNumber_54 : decode cX3_colourNumber 54 = .ok (.aload_n 0, 1) := by decide +kernel
theorem dX3_colourNumber_55 : decode cX3_colourNumber 55 = .ok (.getfield 38, 3) := by decide +kernel
theorem dX3_colourNumber_58 : decode cX3_colourNumber 58 = .ok (.aload_n 0, 1) := by decide +kernel
theorem dX3_colourNumber_59 : decode cX3_colourNumber 59 = .ok (.getfield 44, 3) := by decide +kernel
theorem dX3_colourNumber_62 : decode cX3_colourNumber 62 = .ok (.iload_n 1, 1) := by decide +kernel
theorem dX3_colourNumber_63 : decode cX3_colourNumber 63 = .ok (.invokestatic 96, 3) := by decide +kernel
theorem dX3_colourNumber_66 : decode cX3_colourNumber 66 = .ok (.ireturn, 1) := by decide +kernel
theorem dX3_colourNumber_67 : decode cX3_colourNumber 67 = .ok (.aload_n 0, 1) := by decide +kernel
theorem dX3_colourNumber_68 : decode cX3_colourNumber 68 = .ok (.getfield 35, 3) := by decide +kernel
theorem dX3_colourNumber_71 : decode cX3_colourNumber 71 = .ok (.iload_n 1, 1) := by decide +kernel
theorem dX3_colourNumber_72 : decode cX3_colourNumber 72 = .ok (.invokestatic 58, 3) := by decide +kernel
theorem dX3_colourNumber_75 : decode cX3_colourNumber 75 = .ok (.ireturn, 1) := by decide +kernel
theorem dX3_colourNumber_76 : decode cX3_colourNumber 76 = .ok (.aload_n 0, 1) := by decide +kernel
theorem dX3_colourNumber_77 : decode cX3_colourNumber 77 = .ok (.getfield 12, 3) := by decide +kernel
theorem dX3_colourNumber_80 : decode cX3_colourNumber 80 = .ok (.iload_n 1, 1) := by decide +kernel
theorem dX3_colourNumber_81 : decode cX3_colourNumber 81 = .ok (.invokevirtual 100, 3) := by decide +kernel
theorem dX3_colourNumber_84 : decode cX3_colourNumber 84 = .ok (.ireturn, 1) := by decide +kernel
theorem dX3_colourNumber_85 : decode cX3_colourNumber 85 = .ok (.aload_n 0, 1) := by decide +kernel
theorem dX3_colourNumber_86 : decode cX3_colourNumber 86 = .ok (.iload_n 1, 1) := by decide +kernel
theorem dX3_colourNumber_87 : decode cX3_colourNumber 87 = .ok (.invokevirtual 103, 3) := by decide +kernel
theorem dX3_colourNumber_90 : decode cX3_colourNumber 90 = .ok (.ireturn, 1) := by decide +kernel
theorem dX3_canTake_0 : decode cX3_canTake 0 = .ok (.aload_n 0, 1) := by decide +kernel
theorem dX3_canTake_1 : decode cX3_canTake 1 = .ok (.getfield 44, 3) := by decide +kernel
theorem dX3_canTake_4 : decode cX3_canTake 4 = .ok (.iload_n 2, 1) := by decide +kernel
theorem dX3_canTake_5 : decode cX3_canTake 5 = .ok (.iadd, 1) := by decide +kernel
theorem dX3_canTake_6 : decode cX3_canTake 6 = .ok (.sipush 240, 3) := by decide +kernel
theorem dX3_canTake_9 : decode cX3_canTake 9 = .ok (.if_icmp .gt 11, 3) := by decide +kernel
theorem dX3_canTake_12 : decode cX3_canTake 12 = .ok (.iload_n 2, 1) := by decide +kernel
theorem dX3_canTake_13 : decode cX3_canTake 13 = .ok (.aload_n 0, 1) := by decide +kernel
theorem dX3_canTake_14 : decode cX3_canTake 14 = .ok (.invokevirtual 106, 3) := by decide +kernel
theorem dX3_canTake_17 : decode cX3_canTake 17 = .ok (.if_icmp .le 5, 3) := by decide +kernel
theorem dX3_canTake_20 : decode cX3_canTake 20 = .ok (.iconst 0, 1) := by decide +kernel
theorem dX3_canTake_21 : decode cX3_canTake 21 = .ok (.ireturn, 1) := by decide +kernel
theorem dX3_canTake_22 : decode cX3_canTake 22 = .ok (.iconst 0, 1) := by decide +kernel
theorem dX3_canTake_23 : decode cX3_canTake 23 = .ok (.istore_n 3, 1) := by decide +kernel
theorem dX3_canTake_24 : decode cX3_canTake 24 = .ok (.iload_n 3, 1) := by decide +kernel
theorem dX3_canTake_25 : decode cX3_canTake 25 = .ok (.bipush 6, 2) := by decide +kernel
theorem dX3_canTake_27 : decode cX3_canTake 27 = .ok (.if_icmp .ge 28, 3) := by decide +kernel
theorem dX3_canTake_30 : decode cX3_canTake 30 = .ok (.aload_n 1, 1) := by decide +kernel
theorem dX3_canTake_31 : decode cX3_canTake 31 = .ok (.iload_n 2, 1) := by decide +kernel
theorem dX3_canTake_32 : decode cX3_canTake 32 = .ok (.iload_n 3, 1) := by decide +kernel
theorem dX3_canTake_33 : decode cX3_canTake 33 = .ok (.invokestatic 96, 3) := by decide +kernel
theorem dX3_canTake_36 : decode cX3_canTake 36 = .ok (.aload_n 0, 1) := by decide +kernel
theorem dX3_canTake_37 : decode cX3_canTake 37 = .ok (.getfield 29, 3) := by decide +kernel
theorem dX3_canTake_40 : decode cX3_canTake 40 = .ok (.iload_n 3, 1) := by decide +kernel
theorem dX3_canTake_41 : decode cX3_canTake 41 = .ok (.invokestatic 58, 3) := by decide +kernel
theorem dX3_canTake_44 : decode cX3_canTake 44 = .ok (.if_icmp .le 5, 3) := by decide +kernel
theorem dX3_canTake_47 : decode cX3_canTake 47 = .ok (.iconst 0, 1) := by decide +kernel
theorem dX3_canTake_48 : decode cX3_canTake 48 = .ok (.ireturn, 1) := by decide +kernel
theorem dX3_canTake_49 : decode cX3_canTake 49 = .ok (.iinc 3 1, 3) := by decide +kernel
theorem dX3_canTake_52 : decode cX3_canTake 52 = .ok (.goto (-28), 3) := by decide +kernel
theorem dX3_canTake_55 : decode cX3_canTake 55 = .ok (.iconst 1, 1) := by decide +kernel
theorem dX3_canTake_56 : decode cX3_canTake 56 = .ok (.ireturn, 1) := by decide +kernel
theorem dX3_takeOn_0 : decode cX3_takeOn 0 = .ok (.iconst 0, 1) := by decide +kernel
theorem dX3_takeOn_1 : decode cX3_takeOn 1 = .ok (.istore_n 3, 1) := by decide +kernel
theorem dX3_takeOn_2 : decode cX3_takeOn 2 = .ok (.iload_n 3, 1) := by decide +kernel
theorem dX3_takeOn_3 : decode cX3_takeOn 3 = .ok (.iload_n 2, 1) := by decide +kernel
theorem dX3_takeOn_4 : decode cX3_takeOn 4 = .ok (.if_icmp .ge 41, 3) := by decide +kernel
theorem dX3_takeOn_7 : decode cX3_takeOn 7 = .ok (.aload_n 1, 1) := by decide +kernel
theorem dX3_takeOn_8 : decode cX3_takeOn 8 = .ok (.iload_n 3, 1) := by decide +kernel
theorem dX3_takeOn_9 : decode cX3_takeOn 9 = .ok (.invokestatic 58, 3) := by decide +kernel
theorem dX3_takeOn_12 : decode cX3_takeOn 12 = .ok (.istore 4, 2) := by decide +kernel
theorem dX3_takeOn_14 : decode cX3_takeOn 14 = .ok (.aload_n 0, 1) := by decide +kernel
theorem dX3_takeOn_15 : decode cX3_takeOn 15 = .ok (.getfield 38, 3) := by decide +kernel
theorem dX3_takeOn_18 : decode cX3_takeOn 18 = .ok (.aload_n 0, 1) := by decide +kernel
theorem dX3_takeOn_19 : decode cX3_takeOn 19 = .ok (.getfield 44, 3) := by decide +kernel
theorem dX3_takeOn_22 : decode cX3_takeOn 22 = .ok (.iload_n 3, 1) := by decide +kernel
theorem dX3_takeOn_23 : decode cX3_takeOn 23 = .ok (.iadd, 1) := by decide +kernel
theorem dX3_takeOn_24 : decode cX3_takeOn 24 = .ok (.iload 4, 2) := by decide +kernel
theorem dX3_takeOn_26 : decode cX3_takeOn 26 = .ok (.invokestatic 110, 3) := by decide +kernel
theorem dX3_takeOn_29 : decode cX3_takeOn 29 = .ok (.aload_n 0, 1) := by decide +kernel
theorem dX3_takeOn_30 : decode cX3_takeOn 30 = .ok (.getfield 29, 3) := by decide +kernel
theorem dX3_takeOn_33 : decode cX3_takeOn 33 = .ok (.iload 4, 2) := by decide +kernel
theorem dX3_takeOn_35 : decode cX3_takeOn 35 = .ok (.iconst (-1), 1) := by decide +kernel
theorem dX3_takeOn_36 : decode cX3_takeOn 36 = .ok (.invokestatic 114, 3) := by decide +kernel
theorem dX3_takeOn_39 : decode cX3_takeOn 39 = .ok (.iinc 3 1, 3) := by decide +kernel
theorem dX3_takeOn_42 : decode cX3_takeOn 42 = .ok (.goto (-40), 3) := by decide +kernel
theorem dX3_takeOn_45 : decode cX3_takeOn 45 = .ok (.aload_n 0, 1) := by decide +kernel
theorem dX3_takeOn_46 : decode cX3_takeOn 46 = .ok (.dup, 1) := by decide +kernel
theorem dX3_takeOn_47 : decode cX3_takeOn 47 = .ok (.getfield 44, 3) := by decide +kernel
theorem dX3_takeOn_50 : decode cX3_takeOn 50 = .ok (.iload_n 2, 1) := by decide +kernel
theorem dX3_takeOn_51 : decode cX3_takeOn 51 = .ok (.iadd, 1) := by decide +kernel
theorem dX3_takeOn_52 : decode cX3_takeOn 52 = .ok (.putfield 44, 3) := by decide +kernel
theorem dX3_takeOn_55 : decode cX3_takeOn 55 = .ok (.return_, 1) := by decide +kernel
theorem dX3_takeOff_0 : decode cX3_takeOff 0 = .ok (.aload_n 0, 1) := by decide +kernel
theorem dX3_takeOff_1 : decode cX3_takeOff 1 = .ok (.getfield 44, 3) := by decide +kernel
theorem dX3_takeOff_4 : decode cX3_takeOff 4 = .ok (.iload_n 1, 1) := by decide +kernel
theorem dX3_takeOff_5 : decode cX3_takeOff 5 = .ok (.isub, 1) := by decide +kernel
theorem dX3_takeOff_6 : decode cX3_takeOff 6 = .ok (.istore_n 2, 1) := by decide +kernel
theorem dX3_takeOff_7 : decode cX3_takeOff 7 = .ok (.iload_n 2, 1) := by decide +kernel
theorem dX3_takeOff_8 : decode cX3_takeOff 8 = .ok (.istore_n 3, 1) := by decide +kernel
theorem dX3_takeOff_9 : decode cX3_takeOff 9 = .ok (.iload_n 3, 1) := by decide +kernel
theorem dX3_takeOff_10 : decode cX3_takeOff 10 = .ok (.aload_n 0, 1) := by decide +kernel
theorem dX3_takeOff_11 : decode cX3_takeOff 11 = .ok (.getfield 44, 3) := by decide +kernel
theorem dX3_takeOff_14 : decode cX3_takeOff 14 = .ok (.if_icmp .ge 25, 3) := by decide +kernel
theorem dX3_takeOff_17 : decode cX3_takeOff 17 = .ok (.aload_n 0, 1) := by decide +kernel
theorem dX3_takeOff_18 : decode cX3_takeOff 18 = .ok (.getfield 29, 3) := by decide +kernel
theorem dX3_takeOff_21 : decode cX3_takeOff 21 = .ok (.aload_n 0, 1) := by decide +kernel
theorem dX3_takeOff_22 : decode cX3_takeOff 22 = .ok (.getfield 38, 3) := by decide +kernel
theorem dX3_takeOff_25 : decode cX3_takeOff 25 = .ok (.iload_n 3, 1) := by decide +kernel
theorem dX3_takeOff_26 : decode cX3_takeOff 26 = .ok (.invokestatic 58, 3) := by decide +kernel
theorem dX3_takeOff_29 : decode cX3_takeOff 29 = .ok (.iconst 1, 1) := by decide +kernel
theorem dX3_takeOff_30 : decode cX3_takeOff 30 = .ok (.invokestatic 114, 3) := by decide +kernel
theorem dX3_takeOff_33 : decode cX3_takeOff 33 = .ok (.iinc 3 1, 3) := by decide +kernel
theorem dX3_takeOff_36 : decode cX3_takeOff 36 = .ok (.goto (-27), 3) := by decide +kernel
theorem dX3_takeOff_39 : decode cX3_takeOff 39 = .ok (.aload_n 0, 1) := by decide +kernel
theorem dX3_takeOff_40 : decode cX3_takeOff 40 = .ok (.iload_n 2, 1) := by decide +kernel
theorem dX3_takeOff_41 : decode cX3_takeOff 41 = .ok (.putfield 44, 3) := by decide +kernel
theorem dX3_takeOff_44 : decode cX3_takeOff 44 = .ok (.aload_n 0, 1) := by decide +kernel
theorem dX3_takeOff_45 : decode cX3_takeOff 45 = .ok (.dup, 1) := by decide +kernel
theorem dX3_takeOff_46 : decode cX3_takeOff 46 = .ok (.getfield 51, 3) := by decide +kernel
theorem dX3_takeOff_49 : decode cX3_takeOff 49 = .ok (.iload_n 1, 1) := by decide +kernel
theorem dX3_takeOff_50 : decode cX3_takeOff 50 = .ok (.iadd, 1) := by decide +kernel
theorem dX3_takeOff_51 : decode cX3_takeOff 51 = .ok (.putfield 51, 3) := by decide +kernel
theorem dX3_takeOff_54 : decode cX3_takeOff 54 = .ok (.iconst 1, 1) := by decide +kernel
theorem dX3_takeOff_55 : decode cX3_takeOff 55 = .ok (.istore_n 3, 1) := by decide +kernel
theorem dX3_takeOff_56 : decode cX3_takeOff 56 = .ok (.iconst 1, 1) := by decide +kernel
theorem dX3_takeOff_57 : decode cX3_takeOff 57 = .ok (.istore 4, 2) := by decide +kernel
theorem dX3_takeOff_59 : decode cX3_takeOff 59 = .ok (.iload 4, 2) := by decide +kernel
theorem dX3_takeOff_61 : decode cX3_takeOff 61 = .ok (.aload_n 0, 1) := by decide +kernel
theorem dX3_takeOff_62 : decode cX3_takeOff 62 = .ok (.getfield 48, 3) := by decide +kernel
theorem dX3_takeOff_65 : decode cX3_takeOff 65 = .ok (.if_icmp .ge 25, 3) := by decide +kernel
theorem dX3_takeOff_68 : decode cX3_takeOff 68 = .ok (.aload_n 0, 1) := by decide +kernel
theorem dX3_takeOff_69 : decode cX3_takeOff 69 = .ok (.getfield 41, 3) := by decide +kernel
theorem dX3_takeOff_72 : decode cX3_takeOff 72 = .ok (.iload 4, 2) := by decide +kernel
theorem dX3_takeOff_74 : decode cX3_takeOff 74 = .ok (.invokestatic 58, 3) := by decide +kernel
theorem dX3_takeOff_77 : decode cX3_takeOff 77 = .ok (.iload_n 2, 1) := by decide +kernel
theorem dX3_takeOff_78 : decode cX3_takeOff 78 = .ok (.if_icmp .gt 6, 3) := by decide +kernel
theorem dX3_takeOff_81 : decode cX3_takeOff 81 = .ok (.iinc 3 1, 3) := by decide +kernel
theorem dX3_takeOff_84 : decode cX3_takeOff 84 = .ok (.iinc 4 1, 3) := by decide +kernel
theorem dX3_takeOff_87 : decode cX3_takeOff 87 = .ok (.goto (-28), 3) := by decide +kernel
theorem dX3_takeOff_90 : decode cX3_takeOff 90 = .ok (.aload_n 0, 1) := by decide +kernel
theorem dX3_takeOff_91 : decode cX3_takeOff 91 = .ok (.iload_n 3, 1) := by decide +kernel
theorem dX3_takeOff_92 : decode cX3_takeOff 92 = .ok (.putfield 48, 3) := by decide +kernel
theorem dX3_takeOff_95 : decode cX3_takeOff 95 = .ok (.return_, 1) := by decide +kernel
theorem dX3_crushBead_0 : decode cX3_crushBead 0 = .ok (.aload_n 0, 1) := by decide +kernel
theorem dX3_crushBead_1 : decode cX3_crushBead 1 = .ok (.iload_n 1, 1) := by decide +kernel
theorem dX3_crushBead_2 : decode cX3_crushBead 2 = .ok (.invokevirtual 90, 3) := by decide +kernel
theorem dX3_crushBead_5 : decode cX3_crushBead 5 = .ok (.istore_n 2, 1) := by decide +kernel
theorem dX3_crushBead_6 : decode cX3_crushBead 6 = .ok (.aload_n 0, 1) := by decide +kernel
theorem dX3_crushBead_7 : decode cX3_crushBead 7 = .ok (.iload_n 2, 1) := by decide +kernel
theorem dX3_crushBead_8 : decode cX3_crushBead 8 = .ok (.invokevirtual 87, 3) := by decide +kernel
theorem dX3_crushBead_11 : decode cX3_crushBead 11 = .ok (.iconst 1, 1) := by decide +kernel
theorem dX3_crushBead_12 : decode cX3_crushBead 12 = .ok (.if_icmp .ne 17, 3) := by decide +kernel
theorem dX3_crushBead_15 : decode cX3_crushBead 15 = .ok (.iload_n 2, 1) := by decide +kernel
theorem dX3_crushBead_16 : decode cX3_crushBead 16 = .ok (.aload_n 0, 1) := by decide +kernel
theorem dX3_crushBead_17 : decode cX3_crushBead 17 = .ok (.getfield 48, 3) := by decide +kernel
theorem dX3_crushBead_20 : decode cX3_crushBead 20 = .ok (.iconst 1, 1) := by decide +kernel
theorem dX3_crushBead_21 : decode cX3_crushBead 21 = .ok (.isub, 1) := by decide +kernel
theorem dX3_crushBead_22 : decode cX3_crushBead 22 = .ok (.if_icmp .ge 7, 3) := by decide +kernel
theorem dX3_crushBead_25 : decode cX3_crushBead 25 = .ok (.iconst 1, 1) := by decide +kernel
theorem dX3_crushBead_26 : decode cX3_crushBead 26 = .ok (.goto 4, 3) := by decide +kernel
theorem dX3_crushBead_29 : decode cX3_crushBead 29 = .ok (.iconst 0, 1) := by decide +kernel
theorem dX3_crushBead_30 : decode cX3_crushBead 30 = .ok (.istore_n 3, 1) := by decide +kernel
theorem dX3_crushBead_31 : decode cX3_crushBead 31 = .ok (.aload_n 0, 1) := by decide +kernel
theorem dX3_crushBead_32 : decode cX3_crushBead 32 = .ok (.getfield 35, 3) := by decide +kernel
theorem dX3_crushBead_35 : decode cX3_crushBead 35 = .ok (.aload_n 0, 1) := by decide +kernel
theorem dX3_crushBead_36 : decode cX3_crushBead 36 = .ok (.getfield 38, 3) := by decide +kernel
theorem dX3_crushBead_39 : decode cX3_crushBead 39 = .ok (.iload_n 1, 1) := by decide +kernel
theorem dX3_crushBead_40 : decode cX3_crushBead 40 = .ok (.invokestatic 58, 3) := by decide +kernel
theorem dX3_crushBead_43 : decode cX3_crushBead 43 = .ok (.iconst 1, 1) := by decide +kernel
theorem dX3_crushBead_44 : decode cX3_crushBead 44 = .ok (.invokestatic 114, 3) := by decide +kernel
theorem dX3_crushBead_47 : decode cX3_crushBead 47 = .ok (.iload_n 1, 1) := by decide +kernel
theorem dX3_crushBead_48 : decode cX3_crushBead 48 = .ok (.iconst 1, 1) := by decide +kernel
theorem dX3_crushBead_49 : decode cX3_crushBead 49 = .ok (.iadd, 1) := by decide +kernel
theorem dX3_crushBead_50 : decode cX3_crushBead 50 = .ok (.istore 4, 2) := by decide +kernel
theorem dX3_crushBead_52 : decode cX3_crushBead 52 = .ok (.iload 4, 2) := by decide +kernel
theorem dX3_crushBead_54 : decode cX3_crushBead 54 = .ok (.aload_n 0, 1) := by decide +kernel
theorem dX3_crushBead_55 : decode cX3_crushBead 55 = .ok (.getfield 44, 3) := by decide +kernel
theorem dX3_crushBead_58 : decode cX3_crushBead 58 = .ok (.if_icmp .ge 29, 3) := by decide +kernel
theorem dX3_crushBead_61 : decode cX3_crushBead 61 = .ok (.aload_n 0, 1) := by decide +kernel
theorem dX3_crushBead_62 : decode cX3_crushBead 62 = .ok (.getfield 38, 3) := by decide +kernel
theorem dX3_crushBead_65 : decode cX3_crushBead 65 = .ok (.iload 4, 2) := by decide +kernel
theorem dX3_crushBead_67 : decode cX3_crushBead 67 = .ok (.iconst 1, 1) := by decide +kernel
theorem dX3_crushBead_68 : decode cX3_crushBead 68 = .ok (.isub, 1) := by decide +kernel
theorem dX3_crushBead_69 : decode cX3_crushBead 69 = .ok (.aload_n 0, 1) := by decide +kernel
theorem dX3_crushBead_70 : decode cX3_crushBead 70 = .ok (.getfield 38, 3) := by decide +kernel
theorem dX3_crushBead_73 : decode cX3_crushBead 73 = .ok (.iload 4, 2) := by decide +kernel
theorem dX3_crushBead_75 : decode cX3_crushBead 75 = .ok (.invokestatic 58, 3) := by decide +kernel
theorem dX3_crushBead_78 : decode cX3_crushBead 78 = .ok (.invokestatic 110, 3) := by decide +kernel
theorem dX3_crushBead_81 : decode cX3_crushBead 81 = .ok (.iinc 4 1, 3) := by decide +kernel
theorem dX3_crushBead_84 : decode cX3_crushBead 84 = .ok (.goto (-32), 3) := by decide +kernel
theorem dX3_crushBead_87 : decode cX3_crushBead 87 = .ok (.iload_n 2, 1) := by decide +kernel
theorem dX3_crushBead_88 : decode cX3_crushBead 88 = .ok (.iconst 1, 1) := by decide +kernel
theorem dX3_crushBead_89 : decode cX3_crushBead 89 = .ok (.iadd, 1) := by decide +kernel
theorem dX3_crushBead_90 : decode cX3_crushBead 90 = .ok (.istore 4, 2) := by decide +kernel
theorem dX3_crushBead_92 : decode cX3_crushBead 92 = .ok (.iload 4, 2) := by decide +kernel
theorem dX3_crushBead_94 : decode cX3_crushBead 94 = .ok (.aload_n 0, 1) := by decide +kernel
theorem dX3_crushBead_95 : decode cX3_crushBead 95 = .ok (.getfield 48, 3) := by decide +kernel
theorem dX3_crushBead_98 : decode cX3_crushBead 98 = .ok (.if_icmp .ge 40, 3) := by decide +kernel
theorem dX3_crushBead_101 : decode cX3_crushBead 101 = .ok (.aload_n 0, 1) := by decide +kernel
theorem dX3_crushBead_102 : decode cX3_crushBead 102 = .ok (.getfield 41, 3) := by decide +kernel
theorem dX3_crushBead_105 : decode cX3_crushBead 105 = .ok (.iload_n 3, 1) := by decide +kernel
theorem dX3_crushBead_106 : decode cX3_crushBead 106 = .ok (.ifCond .eq 10, 3) := by decide +kernel
theorem dX3_crushBead_109 : decode cX3_crushBead 109 = .ok (.iload 4, 2) := by decide +kernel
theorem dX3_crushBead_111 : decode cX3_crushBead 111 = .ok (.iconst 1, 1) := by decide +kernel
theorem dX3_crushBead_112 : decode cX3_crushBead 112 = .ok (.isub, 1) := by decide +kernel
theorem dX3_crushBead_113 : decode cX3_crushBead 113 = .ok (.goto 5, 3) := by decide +kernel
theorem dX3_crushBead_116 : decode cX3_crushBead 116 = .ok (.iload 4, 2) := by decide +kernel
theorem dX3_crushBead_118 : decode cX3_crushBead 118 = .ok (.aload_n 0, 1) := by decide +kernel
theorem dX3_crushBead_119 : decode cX3_crushBead 119 = .ok (.getfield 41, 3) := by decide +kernel
theorem dX3_crushBead_122 : decode cX3_crushBead 122 = .ok (.iload 4, 2) := by decide +kernel
theorem dX3_crushBead_124 : decode cX3_crushBead 124 = .ok (.invokestatic 58, 3) := by decide +kernel
theorem dX3_crushBead_127 : decode cX3_crushBead 127 = .ok (.iconst 1, 1) := by decide +kernel
theorem dX3_crushBead_128 : decode cX3_crushBead 128 = .ok (.isub, 1) := by decide +kernel
theorem dX3_crushBead_129 : decode cX3_crushBead 129 = .ok (.invokestatic 110, 3) := by decide +kernel
theorem dX3_crushBead_132 : decode cX3_crushBead 132 = .ok (.iinc 4 1, 3) := by decide +kernel
theorem dX3_crushBead_135 : decode cX3_crushBead 135 = .ok (.goto (-43), 3) := by decide +kernel
theorem dX3_crushBead_138 : decode cX3_crushBead 138 = .ok (.aload_n 0, 1) := by decide +kernel
theorem dX3_crushBead_139 : decode cX3_crushBead 139 = .ok (.dup, 1) := by decide +kernel
theorem dX3_crushBead_140 : decode cX3_crushBead 140 = .ok (.getfield 44, 3) := by decide +kernel
theorem dX3_crushBead_143 : decode cX3_crushBead 143 = .ok (.iconst 1, 1) := by decide +kernel
theorem dX3_crushBead_144 : decode cX3_crushBead 144 = .ok (.isub, 1) := by decide +kernel
theorem dX3_crushBead_145 : decode cX3_crushBead 145 = .ok (.putfield 44, 3) := by decide +kernel
theorem dX3_crushBead_148 : decode cX3_crushBead 148 = .ok (.iload_n 3, 1) := by decide +kernel
theorem dX3_crushBead_149 : decode cX3_crushBead 149 = .ok (.ifCond .eq 13, 3) := by decide +kernel
theorem dX3_crushBead_152 : decode cX3_crushBead 152 = .ok (.aload_n 0, 1) := by decide +kernel
theorem dX3_crushBead_153 : decode cX3_crushBead 153 = .ok (.dup, 1) := by decide +kernel
theorem dX3_crushBead_154 : decode cX3_crushBead 154 = .ok (.getfield 48, 3) := by decide +kernel
theorem dX3_crushBead_157 : decode cX3_crushBead 157 = .ok (.iconst 1, 1) := by decide +kernel
theorem dX3_crushBead_158 : decode cX3_crushBead 158 = .ok (.isub, 1) := by decide +kernel
theorem dX3_crushBead_159 : decode cX3_crushBead 159 = .ok (.putfield 48, 3) := by decide +kernel
theorem dX3_crushBead_162 : decode cX3_crushBead 162 = .ok (.return_, 1) := by decide +kernel
theorem dX3_neededBeads_0 : decode cX3_neededBeads 0 = .ok (.iconst 0, 1) := by decide +kernel
theorem dX3_neededBeads_1 : decode cX3_neededBeads 1 = .ok (.istore_n 3, 1) := by decide +kernel
theorem dX3_neededBeads_2 : decode cX3_neededBeads 2 = .ok (.iconst 0, 1) := by decide +kernel
theorem dX3_neededBeads_3 : decode cX3_neededBeads 3 = .ok (.istore 4, 2) := by decide +kernel
theorem dX3_neededBeads_5 : decode cX3_neededBeads 5 = .ok (.iload 4, 2) := by decide +kernel
theorem dX3_neededBeads_7 : decode cX3_neededBeads 7 = .ok (.iload_n 2, 1) := by decide +kernel
theorem dX3_neededBeads_8 : decode cX3_neededBeads 8 = .ok (.if_icmp .ge 22, 3) := by decide +kernel
theorem dX3_neededBeads_11 : decode cX3_neededBeads 11 = .ok (.aload_n 0, 1) := by decide +kernel
theorem dX3_neededBeads_12 : decode cX3_neededBeads 12 = .ok (.iload 4, 2) := by decide +kernel
theorem dX3_neededBeads_14 : decode cX3_neededBeads 14 = .ok (.invokevirtual 73, 3) := by decide +kernel
theorem dX3_neededBeads_17 : decode cX3_neededBeads 17 = .ok (.iload_n 1, 1) := by decide +kernel
theorem dX3_neededBeads_18 : decode cX3_neededBeads 18 = .ok (.if_icmp .ne 6, 3) := by decide +kernel
theorem dX3_neededBeads_21 : decode cX3_neededBeads 21 = .ok (.iinc 3 1, 3) := by decide +kernel
theorem dX3_neededBeads_24 : decode cX3_neededBeads 24 = .ok (.iinc 4 1, 3) := by decide +kernel
theorem dX3_neededBeads_27 : decode cX3_neededBeads 27 = .ok (.goto (-22), 3) := by decide +kernel
theorem dX3_neededBeads_30 : decode cX3_neededBeads 30 = .ok (.iload_n 3, 1) := by decide +kernel
theorem dX3_neededBeads_31 : decode cX3_neededBeads 31 = .ok (.ireturn, 1) := by decide +kernel
theorem dX3_plannedNumber_0 : decode cX3_plannedNumber 0 = .ok (.aload_n 0, 1) := by decide +kernel
theorem dX3_plannedNumber_1 : decode cX3_plannedNumber 1 = .ok (.getfield 18, 3) := by decide +kernel
theorem dX3_plannedNumber_4 : decode cX3_plannedNumber 4 = .ok (.iconst 2, 1) := by decide +kernel
theorem dX3_plannedNumber_5 : decode cX3_plannedNumber 5 = .ok (.invokestatic 58, 3) := by decide +kernel
theorem dX3_plannedNumber_8 : decode cX3_plannedNumber 8 = .ok (.istore_n 3, 1) := by decide +kernel
theorem dX3_plannedNumber_9 : decode cX3_plannedNumber 9 = .ok (.iconst 0, 1) := by decide +kernel
theorem dX3_plannedNumber_10 : decode cX3_plannedNumber 10 = .ok (.istore 4, 2) := by decide +kernel
theorem dX3_plannedNumber_12 : decode cX3_plannedNumber 12 = .ok (.iconst 1, 1) := by decide +kernel
theorem dX3_plannedNumber_13 : decode cX3_plannedNumber 13 = .ok (.istore 5, 2) := by decide +kernel
theorem dX3_plannedNumber_15 : decode cX3_plannedNumber 15 = .ok (.iload_n 2, 1) := by decide +kernel
theorem dX3_plannedNumber_16 : decode cX3_plannedNumber 16 = .ok (.ifCond .ne 7, 3) := by decide +kernel
theorem dX3_plannedNumber_19 : decode cX3_plannedNumber 19 = .ok (.iconst 0, 1) := by decide +kernel
theorem dX3_plannedNumber_20 : decode cX3_plannedNumber 20 = .ok (.goto 4, 3) := by decide +kernel
theorem dX3_plannedNumber_23 : decode cX3_plannedNumber 23 = .ok (.iconst (-1), 1) := by decide +kernel
theorem dX3_plannedNumber_24 : decode cX3_plannedNumber 24 = .ok (.istore 6, 2) := by decide +kernel
theorem dX3_plannedNumber_26 : decode cX3_plannedNumber 26 = .ok (.iconst 0, 1) := by decide +kernel
theorem dX3_plannedNumber_27 : decode cX3_plannedNumber 27 = .ok (.istore 7, 2) := by decide +kernel
theorem dX3_plannedNumber_29 : decode cX3_plannedNumber 29 = .ok (.iload 7, 2) := by decide +kernel
theorem dX3_plannedNumber_31 : decode cX3_plannedNumber 31 = .ok (.sipush 240, 3) := by decide +kernel
theorem dX3_plannedNumber_34 : decode cX3_plannedNumber 34 = .ok (.if_icmp .ge 52, 3) := by decide +kernel
theorem dX3_plannedNumber_37 : decode cX3_plannedNumber 37 = .ok (.iload 4, 2) := by decide +kernel
theorem dX3_plannedNumber_39 : decode cX3_plannedNumber 39 = .ok (.iload_n 3, 1) := by decide +kernel
theorem dX3_plannedNumber_40 : decode cX3_plannedNumber 40 = .ok (.iadd, 1) := by decide +kernel
theorem dX3_plannedNumber_41 : decode cX3_plannedNumber 41 = .ok (.iload_n 1, 1) := by decide +kernel
theorem dX3_plannedNumber_42 : decode cX3_plannedNumber 42 = .ok (.if_icmp .ge 44, 3) := by decide +kernel
theorem dX3_plannedNumber_45 : decode cX3_plannedNumber 45 = .ok (.aload_n 0, 1) := by decide +kernel
theorem dX3_plannedNumber_46 : decode cX3_plannedNumber 46 = .ok (.iload 4, 2) := by decide +kernel
theorem dX3_plannedNumber_48 : decode cX3_plannedNumber 48 = .ok (.iconst 1, 1) := by decide +kernel
theorem dX3_plannedNumber_49 : decode cX3_plannedNumber 49 = .ok (.iadd, 1) := by decide +kernel
theorem dX3_plannedNumber_50 : decode cX3_plannedNumber 50 = .ok (.iload 4, 2) := by decide +kernel
theorem dX3_plannedNumber_52 : decode cX3_plannedNumber 52 = .ok (.iload_n 3, 1) := by decide +kernel
theorem dX3_plannedNumber_53 : decode cX3_plannedNumber 53 = .ok (.iadd, 1) := by decide +kernel
theorem dX3_plannedNumber_54 : decode cX3_plannedNumber 54 = .ok (.invokevirtual 117, 3) := by decide +kernel
theorem dX3_plannedNumber_57 : decode cX3_plannedNumber 57 = .ok (.istore 4, 2) := by decide +kernel
theorem dX3_plannedNumber_59 : decode cX3_plannedNumber 59 = .ok (.iload 4, 2) := by decide +kernel
theorem dX3_plannedNumber_61 : decode cX3_plannedNumber 61 = .ok (.iconst (-1), 1) := by decide +kernel
theorem dX3_plannedNumber_62 : decode cX3_plannedNumber 62 = .ok (.if_icmp .ne 5, 3) := by decide +kernel
theorem dX3_plannedNumber_65 : decode cX3_plannedNumber 65 = .ok (.iconst (-1), 1) := by decide +kernel
theorem dX3_plannedNumber_66 : decode cX3_plannedNumber 66 = .ok (.ireturn, 1) := by decide +kernel
theorem dX3_plannedNumber_67 : decode cX3_plannedNumber 67 = .ok (.iload 5, 2) := by decide +kernel
theorem dX3_plannedNumber_69 : decode cX3_plannedNumber 69 = .ok (.iload_n 2, 1) := by decide +kernel
theorem dX3_plannedNumber_70 : decode cX3_plannedNumber 70 = .ok (.if_icmp .ne 7, 3) := by decide +kernel
theorem dX3_plannedNumber_73 : decode cX3_plannedNumber 73 = .ok (.iload 4, 2) := by decide +kernel
theorem dX3_plannedNumber_75 : decode cX3_plannedNumber 75 = .ok (.istore 6, 2) := by decide +kernel
theorem dX3_plannedNumber_77 : decode cX3_plannedNumber 77 = .ok (.iinc 5 1, 3) := by decide +kernel
theorem dX3_plannedNumber_80 : decode cX3_plannedNumber 80 = .ok (.iinc 7 1, 3) := by decide +kernel
theorem dX3_plannedNumber_83 : decode cX3_plannedNumber 83 = .ok (.goto (-54), 3) := by decide +kernel
theorem dX3_plannedNumber_86 : decode cX3_plannedNumber 86 = .ok (.iload_n 2, 1) := by decide +kernel
theorem dX3_plannedNumber_87 : decode cX3_plannedNumber 87 = .ok (.iconst (-1), 1) := by decide +kernel
theorem dX3_plannedNumber_88 : decode cX3_plannedNumber 88 = .ok (.if_icmp .ne 8, 3) := by decide +kernel
theorem dX3_plannedNumber_91 : decode cX3_plannedNumber 91 = .ok (.iload 5, 2) := by decide +kernel
theorem dX3_plannedNumber_93 : decode cX3_plannedNumber 93 = .ok (.goto 5, 3) := by decide +kernel
theorem dX3_plannedNumber_96 : decode cX3_plannedNumber 96 = .ok (.iload 6, 2) := by decide +kernel
theorem dX3_plannedNumber_98 : decode cX3_plannedNumber 98 = .ok (.ireturn, 1) := by decide +kernel
theorem dX3_lastHiddenPlace_0 : decode cX3_lastHiddenPlace 0 = .ok (.iload_n 2, 1) := by decide +kernel
theorem dX3_lastHiddenPlace_1 : decode cX3_lastHiddenPlace 1 = .ok (.istore_n 3, 1) := by decide +kernel
theorem dX3_lastHiddenPlace_2 : decode cX3_lastHiddenPlace 2 = .ok (.iload_n 3, 1) := by decide +kernel
theorem dX3_lastHiddenPlace_3 : decode cX3_lastHiddenPlace 3 = .ok (.iload_n 1, 1) := by decide +kernel
theorem dX3_lastHiddenPlace_4 : decode cX3_lastHiddenPlace 4 = .ok (.if_icmp .lt 27, 3) := by decide +kernel
theorem dX3_lastHiddenPlace_7 : decode cX3_lastHiddenPlace 7 = .ok (.aload_n 0, 1) := by decide +kernel
theorem dX3_lastHiddenPlace_8 : decode cX3_lastHiddenPlace 8 = .ok (.iload_n 3, 1) := by decide +kernel
theorem dX3_lastHiddenPlace_9 : decode cX3_lastHiddenPlace 9 = .ok (.invokevirtual 73, 3) := by decide +kernel
theorem dX3_lastHiddenPlace_12 : decode cX3_lastHiddenPlace 12 = .ok (.aload_n 0, 1) := by decide +kernel
theorem dX3_lastHiddenPlace_13 : decode cX3_lastHiddenPlace 13 = .ok (.getfield 18, 3) := by decide +kernel
theorem dX3_lastHiddenPlace_16 : decode cX3_lastHiddenPlace 16 = .ok (.iconst 3, 1) := by decide +kernel
theorem dX3_lastHiddenPlace_17 : decode cX3_lastHiddenPlace 17 = .ok (.invokestatic 58, 3) := by decide +kernel
theorem dX3_lastHiddenPlace_20 : decode cX3_lastHiddenPlace 20 = .ok (.if_icmp .ne 5, 3) := by decide +kernel
theorem dX3_lastHiddenPlace_23 : decode cX3_lastHiddenPlace 23 = .ok (.iload_n 3, 1) := by decide +kernel
theorem dX3_lastHiddenPlace_24 : decode cX3_lastHiddenPlace 24 = .ok (.ireturn, 1) := by decide +kernel
theorem dX3_lastHiddenPlace_25 : decode cX3_lastHiddenPlace 25 = .ok (.iinc 3 (-1), 3) := by decide +kernel
theorem dX3_lastHiddenPlace_28 : decode cX3_lastHiddenPlace 28 = .ok (.goto (-26), 3) := by decide +kernel
theorem dX3_lastHiddenPlace_31 : decode cX3_lastHiddenPlace 31 = .ok (.iconst (-1), 1) := by decide +kernel
theorem dX3_lastHiddenPlace_32 : decode cX3_lastHiddenPlace 32 = .ok (.ireturn, 1) := by decide +kernel
theorem dX3_firstWrongBead_0 : decode cX3_firstWrongBead 0 = .ok (.iconst 0, 1) := by decide +kernel
theorem dX3_firstWrongBead_1 : decode cX3_firstWrongBead 1 = .ok (.istore_n 1, 1) := by decide +kernel
theorem dX3_firstWrongBead_2 : decode cX3_firstWrongBead 2 = .ok (.iload_n 1, 1) := by decide +kernel
theorem dX3_firstWrongBead_3 : decode cX3_firstWrongBead 3 = .ok (.aload_n 0, 1) := by decide +kernel
theorem dX3_firstWrongBead_4 : decode cX3_firstWrongBead 4 = .ok (.getfield 44, 3) := by decide +kernel
theorem dX3_firstWrongBead_7 : decode cX3_firstWrongBead 7 = .ok (.if_icmp .ge 19, 3) := by decide +kernel
theorem dX3_firstWrongBead_10 : decode cX3_firstWrongBead 10 = .ok (.aload_n 0, 1) := by decide +kernel
theorem dX3_firstWrongBead_11 : decode cX3_firstWrongBead 11 = .ok (.iload_n 1, 1) := by decide +kernel
theorem dX3_firstWrongBead_12 : decode cX3_firstWrongBead 12 = .ok (.invokevirtual 77, 3) := by decide +kernel
theorem dX3_firstWrongBead_15 : decode cX3_firstWrongBead 15 = .ok (.ifCond .eq 5, 3) := by decide +kernel
theorem dX3_firstWrongBead_18 : decode cX3_firstWrongBead 18 = .ok (.iload_n 1, 1) := by decide +kernel
theorem dX3_firstWrongBead_19 : decode cX3_firstWrongBead 19 = .ok (.ireturn, 1) := by decide +kernel
theorem dX3_firstWrongBead_20 : decode cX3_firstWrongBead 20 = .ok (.iinc 1 1, 3) := by decide +kernel
theorem dX3_firstWrongBead_23 : decode cX3_firstWrongBead 23 = .ok (.goto (-21), 3) := by decide +kernel
theorem dX3_firstWrongBead_26 : decode cX3_firstWrongBead 26 = .ok (.iconst (-1), 1) := by decide +kernel
theorem dX3_firstWrongBead_27 : decode cX3_firstWrongBead 27 = .ok (.ireturn, 1) := by decide +kernel
theorem dX3_rightByCrushing_0 : decode cX3_rightByCrushing 0 = .ok (.iconst 0, 1) := by decide +kernel
theorem dX3_rightByCrushing_1 : decode cX3_rightByCrushing 1 = .ok (.istore_n 1, 1) := by decide +kernel
theorem dX3_rightByCrushing_2 : decode cX3_rightByCrushing 2 = .ok (.iconst 0, 1) := by decide +kernel
theorem dX3_rightByCrushing_3 : decode cX3_rightByCrushing 3 = .ok (.istore_n 2, 1) := by decide +kernel
theorem dX3_rightByCrushing_4 : decode cX3_rightByCrushing 4 = .ok (.iload_n 2, 1) := by decide +kernel
theorem dX3_rightByCrushing_5 : decode cX3_rightByCrushing 5 = .ok (.aload_n 0, 1) := by decide +kernel
theorem dX3_rightByCrushing_6 : decode cX3_rightByCrushing 6 = .ok (.getfield 44, 3) := by decide +kernel
theorem dX3_rightByCrushing_9 : decode cX3_rightByCrushing 9 = .ok (.if_icmp .ge 28, 3) := by decide +kernel
theorem dX3_rightByCrushing_12 : decode cX3_rightByCrushing 12 = .ok (.aload_n 0, 1) := by decide +kernel
theorem dX3_rightByCrushing_13 : decode cX3_rightByCrushing 13 = .ok (.getfield 38, 3) := by decide +kernel
theorem dX3_rightByCrushing_16 : decode cX3_rightByCrushing 16 = .ok (.iload_n 2, 1) := by decide +kernel
theorem dX3_rightByCrushing_17 : decode cX3_rightByCrushing 17 = .ok (.invokestatic 58, 3) := by decide +kernel
theorem dX3_rightByCrushing_20 : decode cX3_rightByCrushing 20 = .ok (.aload_n 0, 1) := by decide +kernel
theorem dX3_rightByCrushing_21 : decode cX3_rightByCrushing 21 = .ok (.iload_n 1, 1) := by decide +kernel
theorem dX3_rightByCrushing_22 : decode cX3_rightByCrushing 22 = .ok (.invokevirtual 73, 3) := by decide +kernel
theorem dX3_rightByCrushing_25 : decode cX3_rightByCrushing 25 = .ok (.if_icmp .ne 6, 3) := by decide +kernel
theorem dX3_rightByCrushing_28 : decode cX3_rightByCrushing 28 = .ok (.iinc 1 1, 3) := by decide +kernel
theorem dX3_rightByCrushing_31 : decode cX3_rightByCrushing 31 = .ok (.iinc 2 1, 3) := by decide +kernel
theorem dX3_rightByCrushing_34 : decode cX3_rightByCrushing 34 = .ok (.goto (-30), 3) := by decide +kernel
theorem dX3_rightByCrushing_37 : decode cX3_rightByCrushing 37 = .ok (.iload_n 1, 1) := by decide +kernel
theorem dX3_rightByCrushing_38 : decode cX3_rightByCrushing 38 = .ok (.ireturn, 1) := by decide +kernel
theorem dX3_wrongBeadsBy_0 : decode cX3_wrongBeadsBy 0 = .ok (.aload_n 1, 1) := by decide +kernel
theorem dX3_wrongBeadsBy_1 : decode cX3_wrongBeadsBy 1 = .ok (.ifnonnull 5, 3) := by decide +kernel
theorem dX3_wrongBeadsBy_4 : decode cX3_wrongBeadsBy 4 = .ok (.iconst 0, 1) := by decide +kernel
theorem dX3_wrongBeadsBy_5 : decode cX3_wrongBeadsBy 5 = .ok (.ireturn, 1) := by decide +kernel
theorem dX3_wrongBeadsBy_6 : decode cX3_wrongBeadsBy 6 = .ok (.aload_n 0, 1) := by decide +kernel
theorem dX3_wrongBeadsBy_7 : decode cX3_wrongBeadsBy 7 = .ok (.getfield 18, 3) := by decide +kernel
theorem dX3_wrongBeadsBy_10 : decode cX3_wrongBeadsBy 10 = .ok (.iconst 0, 1) := by decide +kernel
theorem dX3_wrongBeadsBy_11 : decode cX3_wrongBeadsBy 11 = .ok (.invokestatic 58, 3) := by decide +kernel
theorem dX3_wrongBeadsBy_14 : decode cX3_wrongBeadsBy 14 = .ok (.istore_n 3, 1) := by decide +kernel
theorem dX3_wrongBeadsBy_15 : decode cX3_wrongBeadsBy 15 = .ok (.iconst 0, 1) := by decide +kernel
theorem dX3_wrongBeadsBy_16 : decode cX3_wrongBeadsBy 16 = .ok (.istore 4, 2) := by decide +kernel
theorem dX3_wrongBeadsBy_18 : decode cX3_wrongBeadsBy 18 = .ok (.iconst 0, 1) := by decide +kernel
theorem dX3_wrongBeadsBy_19 : decode cX3_wrongBeadsBy 19 = .ok (.istore 5, 2) := by decide +kernel
theorem dX3_wrongBeadsBy_21 : decode cX3_wrongBeadsBy 21 = .ok (.iload 5, 2) := by decide +kernel
theorem dX3_wrongBeadsBy_23 : decode cX3_wrongBeadsBy 23 = .ok (.aload_n 0, 1) := by decide +kernel
theorem dX3_wrongBeadsBy_24 : decode cX3_wrongBeadsBy 24 = .ok (.getfield 44, 3) := by decide +kernel
theorem dX3_wrongBeadsBy_27 : decode cX3_wrongBeadsBy 27 = .ok (.if_icmp .ge 39, 3) := by decide +kernel
theorem dX3_wrongBeadsBy_30 : decode cX3_wrongBeadsBy 30 = .ok (.aload_n 0, 1) := by decide +kernel
theorem dX3_wrongBeadsBy_31 : decode cX3_wrongBeadsBy 31 = .ok (.getfield 38, 3) := by decide +kernel
theorem dX3_wrongBeadsBy_34 : decode cX3_wrongBeadsBy 34 = .ok (.iload 5, 2) := by decide +kernel
theorem dX3_wrongBeadsBy_36 : decode cX3_wrongBeadsBy 36 = .ok (.invokestatic 58, 3) := by decide +kernel
theorem dX3_wrongBeadsBy_39 : decode cX3_wrongBeadsBy 39 = .ok (.aload_n 1, 1) := by decide +kernel
theorem dX3_wrongBeadsBy_40 : decode cX3_wrongBeadsBy 40 = .ok (.getfield 66, 3) := by decide +kernel
theorem dX3_wrongBeadsBy_43 : decode cX3_wrongBeadsBy 43 = .ok (.aload_n 1, 1) := by decide +kernel
theorem dX3_wrongBeadsBy_44 : decode cX3_wrongBeadsBy 44 = .ok (.iload 5, 2) := by decide +kernel
theorem dX3_wrongBeadsBy_46 : decode cX3_wrongBeadsBy 46 = .ok (.iload_n 3, 1) := by decide +kernel
theorem dX3_wrongBeadsBy_47 : decode cX3_wrongBeadsBy 47 = .ok (.iload_n 2, 1) := by decide +kernel
theorem dX3_wrongBeadsBy_48 : decode cX3_wrongBeadsBy 48 = .ok (.invokevirtual 62, 3) := by decide +kernel
theorem dX3_wrongBeadsBy_51 : decode cX3_wrongBeadsBy 51 = .ok (.invokestatic 58, 3) := by decide +kernel
theorem dX3_wrongBeadsBy_54 : decode cX3_wrongBeadsBy 54 = .ok (.if_icmp .eq 6, 3) := by decide +kernel
theorem dX3_wrongBeadsBy_57 : decode cX3_wrongBeadsBy 57 = .ok (.iinc 4 1, 3) := by decide +kernel
theorem dX3_wrongBeadsBy_60 : decode cX3_wrongBeadsBy 60 = .ok (.iinc 5 1, 3) := by decide +kernel
theorem dX3_wrongBeadsBy_63 : decode cX3_wrongBeadsBy 63 = .ok (.goto (-42), 3) := by decide +kernel
theorem dX3_wrongBeadsBy_66 : decode cX3_wrongBeadsBy 66 = .ok (.iload 4, 2) := by decide +kernel
theorem dX3_wrongBeadsBy_68 : decode cX3_wrongBeadsBy 68 = .ok (.ireturn, 1) := by decide +kernel
theorem dX4_init_0 : decode cX4_init 0 = .ok (.aload_n 0, 1) := by decide +kernel
theorem dX4_init_1 : decode cX4_init 1 = .ok (.invokespecial 1, 3) := by decide +kernel
theorem dX4_init_4 : decode cX4_init 4 = .ok (.aload_n 0, 1) := by decide +kernel
theorem dX4_init_5 : decode cX4_init 5 = .ok (.new 7, 3) := by decide +kernel
theorem dX4_init_8 : decode cX4_init 8 = .ok (.dup, 1) := by decide +kernel
theorem dX4_init_9 : decode cX4_init 9 = .ok (.invokespecial 9, 3) := by decide +kernel
theorem dX4_init_12 : decode cX4_init 12 = .ok (.putfield 10, 3) := by decide +kernel
theorem dX4_init_15 : decode cX4_init 15 = .ok (.aload_n 0, 1) := by decide +kernel
theorem dX4_init_16 : decode cX4_init 16 = .ok (.new 16, 3) := by decide +kernel
theorem dX4_init_19 : decode cX4_init 19 = .ok (.dup, 1) := by decide +kernel
theorem dX4_init_20 : decode cX4_init 20 = .ok (.invokespecial 18, 3) := by decide +kernel
theorem dX4_init_23 : decode cX4_init 23 = .ok (.putfield 19, 3) := by decide +kernel
theorem dX4_init_26 : decode cX4_init 26 = .ok (.aload_n 0, 1) := by decide +kernel
theorem dX4_init_27 : decode cX4_init 27 = .ok (.new 23, 3) := by decide +kernel
theorem dX4_init_30 : decode cX4_init 30 = .ok (.dup, 1) := by decide +kernel
theorem dX4_init_31 : decode cX4_init 31 = .ok (.invokespecial 25, 3) := by decide +kernel
theorem dX4_init_34 : decode cX4_init 34 = .ok (.putfield 26, 3) := by decide +kernel
theorem dX4_init_37 : decode cX4_init 37 = .ok (.aload_n 0, 1) := by decide +kernel
theorem dX4_init_38 : decode cX4_init 38 = .ok (.new 30, 3) := by decide +kernel
theorem dX4_init_41 : decode cX4_init 41 = .ok (.dup, 1) := by decide +kernel
theorem dX4_init_42 : decode cX4_init 42 = .ok (.invokespecial 32, 3) := by decide +kernel
theorem dX4_init_45 : decode cX4_init 45 = .ok (.putfield 33, 3) := by decide +kernel
theorem dX4_init_48 : decode cX4_init 48 = .ok (.aload_n 0, 1) := by decide +kernel
theorem dX4_init_49 : decode cX4_init 49 = .ok (.sipush 240, 3) := by decide +kernel
theorem dX4_init_52 : decode cX4_init 52 = .ok (.newarray .int, 2) := by decide +kernel
theorem dX4_init_54 : decode cX4_init 54 = .ok (.putfield 37, 3) := by decide +kernel
theorem dX4_init_57 : decode cX4_init 57 = .ok (.return_, 1) := by decide +kernel
theorem dX4_load_0 : decode cX4_load 0 = .ok (.aload_n 0, 1) := by decide +kernel
theorem dX4_load_1 : decode cX4_load 1 = .ok (.getfield 26, 3) := by decide +kernel
theorem dX4_load_4 : decode cX4_load 4 = .ok (.iconst 1, 1) := by decide +kernel
theorem dX4_load_5 : decode cX4_load 5 = .ok (.invokevirtual 41, 3) := by decide +kernel
theorem dX4_load_8 : decode cX4_load 8 = .ok (.ifCond .ne 13, 3) := by decide +kernel
theorem dX4_load_11 : decode cX4_load 11 = .ok (.new 45, 3) := by decide +kernel
theorem dX4_load_14 : decode cX4_load 14 = .ok (.dup, 1) := by decide +kernel
theorem dX4_load_15 : decode cX4_load 15 = .ok (.ldc 47, 2) := by decide +kernel
theorem dX4_load_17 : decode cX4_load 17 = .ok (.invokespecial 49, 3) := by decide +kernel
theorem dX4_load_20 : decode cX4_load 20 = .ok (.athrow, 1) := by decide +kernel
theorem dX4_load_21 : decode cX4_load 21 = .ok (.aload_n 0, 1) := by decide +kernel
theorem dX4_load_22 : decode cX4_load 22 = .ok (.getfield 26, 3) := by decide +kernel
theorem dX4_load_25 : decode cX4_load 25 = .ok (.aload_n 0, 1) := by decide +kernel
theorem dX4_load_26 : decode cX4_load 26 = .ok (.getfield 33, 3) := by decide +kernel
theorem dX4_load_29 : decode cX4_load 29 = .ok (.aload_n 0, 1) := by decide +kernel
theorem dX4_load_30 : decode cX4_load 30 = .ok (.getfield 37, 3) := by decide +kernel
theorem dX4_load_33 : decode cX4_load 33 = .ok (.invokevirtual 52, 3) := by decide +kernel
theorem dX4_load_36 : decode cX4_load 36 = .ok (.ifCond .ne 13, 3) := by decide +kernel
theorem dX4_load_39 : decode cX4_load 39 = .ok (.new 56, 3) := by decide +kernel
theorem dX4_load_42 : decode cX4_load 42 = .ok (.dup, 1) := by decide +kernel
theorem dX4_load_43 : decode cX4_load 43 = .ok (.ldc 58, 2) := by decide +kernel
theorem dX4_load_45 : decode cX4_load 45 = .ok (.invokespecial 60, 3) := by decide +kernel
theorem dX4_load_48 : decode cX4_load 48 = .ok (.athrow, 1) := by decide +kernel
theorem dX4_load_49 : decode cX4_load 49 = .ok (.aload_n 0, 1) := by decide +kernel
theorem dX4_load_50 : decode cX4_load 50 = .ok (.getfield 19, 3) := by decide +kernel
theorem dX4_load_53 : decode cX4_load 53 = .ok (.aload_n 0, 1) := by decide +kernel
theorem dX4_load_54 : decode cX4_load 54 = .ok (.getfield 10, 3) := by decide +kernel
theorem dX4_load_57 : decode cX4_load 57 = .ok (.invokevirtual 61, 3) := by decide +kernel
theorem dX4_load_60 : decode cX4_load 60 = .ok (.aload_n 0, 1) := by decide +kernel
theorem dX4_load_61 : decode cX4_load 61 = .ok (.getfield 10, 3) := by decide +kernel
theorem dX4_load_64 : decode cX4_load 64 = .ok (.getfield 65, 3) := by decide +kernel
theorem dX4_load_67 : decode cX4_load 67 = .ok (.aload_n 0, 1) := by decide +kernel
theorem dX4_load_68 : decode cX4_load 68 = .ok (.getfield 33, 3) := by decide +kernel
theorem dX4_load_71 : decode cX4_load 71 = .ok (.invokevirtual 68, 3) := by decide +kernel
theorem dX4_load_74 : decode cX4_load 74 = .ok (.aload_n 0, 1) := by decide +kernel
theorem dX4_load_75 : decode cX4_load 75 = .ok (.getfield 26, 3) := by decide +kernel
theorem dX4_load_78 : decode cX4_load 78 = .ok (.invokevirtual 72, 3) := by decide +kernel
theorem dX4_load_81 : decode cX4_load 81 = .ok (.aload_n 0, 1) := by decide +kernel
theorem dX4_load_82 : decode cX4_load 82 = .ok (.getfield 10, 3) := by decide +kernel
theorem dX4_load_85 : decode cX4_load 85 = .ok (.getfield 65, 3) := by decide +kernel
theorem dX4_load_88 : decode cX4_load 88 = .ok (.getfield 75, 3) := by decide +kernel
theorem dX4_load_91 : decode cX4_load 91 = .ok (.ireturn, 1) := by decide +kernel
theorem dX4_turn_0 : decode cX4_turn 0 = .ok (.iload_n 1, 1) := by decide +kernel
theorem dX4_turn_1 : decode cX4_turn 1 = .ok (.ifCond .lt 8, 3) := by decide +kernel
theorem dX4_turn_4 : decode cX4_turn 4 = .ok (.iload_n 1, 1) := by decide +kernel
theorem dX4_turn_5 : decode cX4_turn 5 = .ok (.iconst 5, 1) := by decide +kernel
theorem dX4_turn_6 : decode cX4_turn 6 = .ok (.if_icmp .lt 13, 3) := by decide +kernel
theorem dX4_turn_9 : decode cX4_turn 9 = .ok (.new 45, 3) := by decide +kernel
theorem dX4_turn_12 : decode cX4_turn 12 = .ok (.dup, 1) := by decide +kernel
theorem dX4_turn_13 : decode cX4_turn 13 = .ok (.ldc 79, 2) := by decide +kernel
theorem dX4_turn_15 : decode cX4_turn 15 = .ok (.invokespecial 49, 3) := by decide +kernel
theorem dX4_turn_18 : decode cX4_turn 18 = .ok (.athrow, 1) := by decide +kernel
theorem dX4_turn_19 : decode cX4_turn 19 = .ok (.aload_n 0, 1) := by decide +kernel
theorem dX4_turn_20 : decode cX4_turn 20 = .ok (.getfield 10, 3) := by decide +kernel
theorem dX4_turn_23 : decode cX4_turn 23 = .ok (.getfield 65, 3) := by decide +kernel
theorem dX4_turn_26 : decode cX4_turn 26 = .ok (.iload_n 1, 1) := by decide +kernel
theorem dX4_turn_27 : decode cX4_turn 27 = .ok (.invokevirtual 81, 3) := by decide +kernel
theorem dX4_turn_30 : decode cX4_turn 30 = .ok (.ifCond .ne 13, 3) := by decide +kernel
theorem dX4_turn_33 : decode cX4_turn 33 = .ok (.new 56, 3) := by decide +kernel
theorem dX4_turn_36 : decode cX4_turn 36 = .ok (.dup, 1) := by decide +kernel
theorem dX4_turn_37 : decode cX4_turn 37 = .ok (.ldc 85, 2) := by decide +kernel
theorem dX4_turn_39 : decode cX4_turn 39 = .ok (.invokespecial 60, 3) := by decide +kernel
theorem dX4_turn_42 : decode cX4_turn 42 = .ok (.athrow, 1) := by decide +kernel
theorem dX4_turn_43 : decode cX4_turn 43 = .ok (.aload_n 0, 1) := by decide +kernel
theorem dX4_turn_44 : decode cX4_turn 44 = .ok (.getfield 19, 3) := by decide +kernel
theorem dX4_turn_47 : decode cX4_turn 47 = .ok (.aload_n 0, 1) := by decide +kernel
theorem dX4_turn_48 : decode cX4_turn 48 = .ok (.getfield 10, 3) := by decide +kernel
theorem dX4_turn_51 : decode cX4_turn 51 = .ok (.invokevirtual 61, 3) := by decide +kernel
theorem dX4_turn_54 : decode cX4_turn 54 = .ok (.aload_n 0, 1) := by decide +kernel
theorem dX4_turn_55 : decode cX4_turn 55 = .ok (.getfield 10, 3) := by decide +kernel
theorem dX4_turn_58 : decode cX4_turn 58 = .ok (.getfield 65, 3) := by decide +kernel
theorem dX4_turn_61 : decode cX4_turn 61 = .ok (.aload_n 0, 1) := by decide +kernel
theorem dX4_turn_62 : decode cX4_turn 62 = .ok (.getfield 33, 3) := by decide +kernel
theorem dX4_turn_65 : decode cX4_turn 65 = .ok (.iload_n 1, 1) := by decide +kernel
theorem dX4_turn_66 : decode cX4_turn 66 = .ok (.invokevirtual 87, 3) := by decide +kernel
theorem dX4_turn_69 : decode cX4_turn 69 = .ok (.aload_n 0, 1) := by decide +kernel
theorem dX4_turn_70 : decode cX4_turn 70 = .ok (.getfield 10, 3) := by decide +kernel
theorem dX4_turn_73 : decode cX4_turn 73 = .ok (.getfield 65, 3) := by decide +kernel
theorem dX4_turn_76 : decode cX4_turn 76 = .ok (.aload_n 0, 1) := by decide +kernel
theorem dX4_turn_77 : decode cX4_turn 77 = .ok (.getfield 33, 3) := by decide +kernel
theorem dX4_turn_80 : decode cX4_turn 80 = .ok (.invokevirtual 68, 3) := by decide +kernel
theorem dX4_turn_83 : decode cX4_turn 83 = .ok (.aload_n 0, 1) := by decide +kernel
theorem dX4_turn_84 : decode cX4_turn 84 = .ok (.getfield 10, 3) := by decide +kernel
theorem dX4_turn_87 : decode cX4_turn 87 = .ok (.getfield 65, 3) := by decide +kernel
theorem dX4_turn_90 : decode cX4_turn 90 = .ok (.getfield 75, 3) := by decide +kernel
theorem dX4_turn_93 : decode cX4_turn 93 = .ok (.ireturn, 1) := by decide +kernel
theorem dX4_recolour_0 : decode cX4_recolour 0 = .ok (.iload_n 1, 1) := by decide +kernel
theorem dX4_recolour_1 : decode cX4_recolour 1 = .ok (.invokestatic 91, 3) := by decide +kernel
theorem dX4_recolour_4 : decode cX4_recolour 4 = .ok (.ifCond .eq 10, 3) := by decide +kernel
theorem dX4_recolour_7 : decode cX4_recolour 7 = .ok (.iload_n 2, 1) := by decide +kernel
theorem dX4_recolour_8 : decode cX4_recolour 8 = .ok (.invokestatic 91, 3) := by decide +kernel
theorem dX4_recolour_11 : decode cX4_recolour 11 = .ok (.ifCond .ne 13, 3) := by decide +kernel
theorem dX4_recolour_14 : decode cX4_recolour 14 = .ok (.new 45, 3) := by decide +kernel
theorem dX4_recolour_17 : decode cX4_recolour 17 = .ok (.dup, 1) := by decide +kernel
theorem dX4_recolour_18 : decode cX4_recolour 18 = .ok (.ldc 94, 2) := by decide +kernel
theorem dX4_recolour_20 : decode cX4_recolour 20 = .ok (.invokespecial 49, 3) := by decide +kernel
theorem dX4_recolour_23 : decode cX4_recolour 23 = .ok (.athrow, 1) := by decide +kernel
theorem dX4_recolour_24 : decode cX4_recolour 24 = .ok (.aload_n 0, 1) := by decide +kernel
theorem dX4_recolour_25 : decode cX4_recolour 25 = .ok (.getfield 19, 3) := by decide +kernel
theorem dX4_recolour_28 : decode cX4_recolour 28 = .ok (.aload_n 0, 1) := by decide +kernel
theorem dX4_recolour_29 : decode cX4_recolour 29 = .ok (.getfield 10, 3) := by decide +kernel
theorem dX4_recolour_32 : decode cX4_recolour 32 = .ok (.invokevirtual 61, 3) := by decide +kernel
theorem dX4_recolour_35 : decode cX4_recolour 35 = .ok (.aload_n 0, 1) := by decide +kernel
theorem dX4_recolour_36 : decode cX4_recolour 36 = .ok (.getfield 10, 3) := by decide +kernel
theorem dX4_recolour_39 : decode cX4_recolour 39 = .ok (.getfield 65, 3) := by decide +kernel
theorem dX4_recolour_42 : decode cX4_recolour 42 = .ok (.iload_n 1, 1) := by decide +kernel
theorem dX4_recolour_43 : decode cX4_recolour 43 = .ok (.iload_n 2, 1) := by decide +kernel
theorem dX4_recolour_44 : decode cX4_recolour 44 = .ok (.invokevirtual 96, 3) := by decide +kernel
theorem dX4_recolour_47 : decode cX4_recolour 47 = .ok (.ireturn, 1) := by decide +kernel
theorem dX4_set_0 : decode cX4_set 0 = .ok (.iload_n 1, 1) := by decide +kernel
theorem dX4_set_1 : decode cX4_set 1 = .ok (.invokestatic 100, 3) := by decide +kernel
theorem dX4_set_4 : decode cX4_set 4 = .ok (.ifCond .ne 13, 3) := by decide +kernel
theorem dX4_set_7 : decode cX4_set 7 = .ok (.new 103, 3) := by decide +kernel
theorem dX4_set_10 : decode cX4_set 10 = .ok (.dup, 1) := by decide +kernel
theorem dX4_set_11 : decode cX4_set 11 = .ok (.ldc 105, 2) := by decide +kernel
theorem dX4_set_13 : decode cX4_set 13 = .ok (.invokespecial 107, 3) := by decide +kernel
theorem dX4_set_16 : decode cX4_set 16 = .ok (.athrow, 1) := by decide +kernel
theorem dX4_set_17 : decode cX4_set 17 = .ok (.iload_n 2, 1) := by decide +kernel
theorem dX4_set_18 : decode cX4_set 18 = .ok (.getstatic 108, 3) := by decide +kernel
theorem dX4_set_21 : decode cX4_set 21 = .ok (.iload_n 1, 1) := by decide +kernel
theorem dX4_set_22 : decode cX4_set 22 = .ok (.invokestatic 111, 3) := by decide +kernel
theorem dX4_set_25 : decode cX4_set 25 = .ok (.if_icmp .lt 14, 3) := by decide +kernel
theorem dX4_set_28 : decode cX4_set 28 = .ok (.iload_n 2, 1) := by decide +kernel
theorem dX4_set_29 : decode cX4_set 29 = .ok (.getstatic 115, 3) := by decide +kernel
theorem dX4_set_32 : decode cX4_set 32 = .ok (.iload_n 1, 1) := by decide +kernel
theorem dX4_set_33 : decode cX4_set 33 = .ok (.invokestatic 111, 3) := by decide +kernel
theorem dX4_set_36 : decode cX4_set 36 = .ok (.if_icmp .le 13, 3) := by decide +kernel
theorem dX4_set_39 : decode cX4_set 39 = .ok (.new 45, 3) := by decide +kernel
theorem dX4_set_42 : decode cX4_set 42 = .ok (.dup, 1) := by decide +kernel
theorem dX4_set_43 : decode cX4_set 43 = .ok (.ldc 118, 2) := by decide +kernel
theorem dX4_set_45 : decode cX4_set 45 = .ok (.invokespecial 49, 3) := by decide +kernel
theorem dX4_set_48 : decode cX4_set 48 = .ok (.athrow, 1) := by decide +kernel
theorem dX4_set_49 : decode cX4_set 49 = .ok (.aload_n 0, 1) := by decide +kernel
theorem dX4_set_50 : decode cX4_set 50 = .ok (.getfield 19, 3) := by decide +kernel
theorem dX4_set_53 : decode cX4_set 53 = .ok (.aload_n 0, 1) := by decide +kernel
theorem dX4_set_54 : decode cX4_set 54 = .ok (.getfield 10, 3) := by decide +kernel
theorem dX4_set_57 : decode cX4_set 57 = .ok (.invokevirtual 61, 3) := by decide +kernel
theorem dX4_set_60 : decode cX4_set 60 = .ok (.aload_n 0, 1) := by decide +kernel
theorem dX4_set_61 : decode cX4_set 61 = .ok (.getfield 10, 3) := by decide +kernel
theorem dX4_set_64 : decode cX4_set 64 = .ok (.getfield 120, 3) := by decide +kernel
theorem dX4_set_67 : decode cX4_set 67 = .ok (.iload_n 1, 1) := by decide +kernel
theorem dX4_set_68 : decode cX4_set 68 = .ok (.invokestatic 111, 3) := by decide +kernel
theorem dX4_set_71 : decode cX4_set 71 = .ok (.istore_n 3, 1) := by decide +kernel
theorem dX4_set_72 : decode cX4_set 72 = .ok (.aload_n 0, 1) := by decide +kernel
theorem dX4_set_73 : decode cX4_set 73 = .ok (.getfield 10, 3) := by decide +kernel
theorem dX4_set_76 : decode cX4_set 76 = .ok (.getfield 120, 3) := by decide +kernel
theorem dX4_set_79 : decode cX4_set 79 = .ok (.iload_n 1, 1) := by decide +kernel
theorem dX4_set_80 : decode cX4_set 80 = .ok (.iload_n 2, 1) := by decide +kernel
theorem dX4_set_81 : decode cX4_set 81 = .ok (.invokestatic 123, 3) := by decide +kernel
theorem dX4_set_84 : decode cX4_set 84 = .ok (.iload_n 3, 1) := by decide +kernel
theorem dX4_set_85 : decode cX4_set 85 = .ok (.ireturn, 1) := by decide +kernel
theorem dX4_buy_0 : decode cX4_buy 0 = .ok (.iload_n 1, 1) := by decide +kernel
theorem dX4_buy_1 : decode cX4_buy 1 = .ok (.invokestatic 91, 3) := by decide +kernel
theorem dX4_buy_4 : decode cX4_buy 4 = .ok (.ifCond .eq 14, 3) := by decide +kernel
theorem dX4_buy_7 : decode cX4_buy 7 = .ok (.iload_n 2, 1) := by decide +kernel
theorem dX4_buy_8 : decode cX4_buy 8 = .ok (.iconst 1, 1) := by decide +kernel
theorem dX4_buy_9 : decode cX4_buy 9 = .ok (.if_icmp .lt 9, 3) := by decide +kernel
theorem dX4_buy_12 : decode cX4_buy 12 = .ok (.iload_n 2, 1) := by decide +kernel
theorem dX4_buy_13 : decode cX4_buy 13 = .ok (.bipush 100, 2) := by decide +kernel
theorem dX4_buy_15 : decode cX4_buy 15 = .ok (.if_icmp .le 13, 3) := by decide +kernel
theorem dX4_buy_18 : decode cX4_buy 18 = .ok (.new 45, 3) := by decide +kernel
theorem dX4_buy_21 : decode cX4_buy 21 = .ok (.dup, 1) := by decide +kernel
theorem dX4_buy_22 : decode cX4_buy 22 = .ok (.ldc 127, 2) := by decide +kernel
theorem dX4_buy_24 : decode cX4_buy 24 = .ok (.invokespecial 49, 3) := by decide +kernel
theorem dX4_buy_27 : decode cX4_buy 27 = .ok (.athrow, 1) := by decide +kernel
theorem dX4_buy_28 : decode cX4_buy 28 = .ok (.aload_n 0, 1) := by decide +kernel
theorem dX4_buy_29 : decode cX4_buy 29 = .ok (.getfield 10, 3) := by decide +kernel
theorem dX4_buy_32 : decode cX4_buy 32 = .ok (.getfield 129, 3) := by decide +kernel
theorem dX4_buy_35 : decode cX4_buy 35 = .ok (.iload_n 1, 1) := by decide +kernel
theorem dX4_buy_36 : decode cX4_buy 36 = .ok (.invokestatic 111, 3) := by decide +kernel
theorem dX4_buy_39 : decode cX4_buy 39 = .ok (.iload_n 2, 1) := by decide +kernel
theorem dX4_buy_40 : decode cX4_buy 40 = .ok (.iadd, 1) := by decide +kernel
theorem dX4_buy_41 : decode cX4_buy 41 = .ok (.sipush 600, 3) := by decide +kernel
theorem dX4_buy_44 : decode cX4_buy 44 = .ok (.if_icmp .le 13, 3) := by decide +kernel
theorem dX4_buy_47 : decode cX4_buy 47 = .ok (.new 56, 3) := by decide +kernel
theorem dX4_buy_50 : decode cX4_buy 50 = .ok (.dup, 1) := by decide +kernel
theorem dX4_buy_51 : decode cX4_buy 51 = .ok (.ldc 132, 2) := by decide +kernel
theorem dX4_buy_53 : decode cX4_buy 53 = .ok (.invokespecial 60, 3) := by decide +kernel
theorem dX4_buy_56 : decode cX4_buy 56 = .ok (.athrow, 1) := by decide +kernel
theorem dX4_buy_57 : decode cX4_buy 57 = .ok (.aload_n 0, 1) := by decide +kernel
theorem dX4_buy_58 : decode cX4_buy 58 = .ok (.getfield 19, 3) := by decide +kernel
theorem dX4_buy_61 : decode cX4_buy 61 = .ok (.aload_n 0, 1) := by decide +kernel
theorem dX4_buy_62 : decode cX4_buy 62 = .ok (.getfield 10, 3) := by decide +kernel
theorem dX4_buy_65 : decode cX4_buy 65 = .ok (.invokevirtual 61, 3) := by decide +kernel
theorem dX4_buy_68 : decode cX4_buy 68 = .ok (.aload_n 0, 1) := by decide +kernel
theorem dX4_buy_69 : decode cX4_buy 69 = .ok (.getfield 10, 3) := by decide +kernel
theorem dX4_buy_72 : decode cX4_buy 72 = .ok (.getfield 129, 3) := by decide +kernel
theorem dX4_buy_75 : decode cX4_buy 75 = .ok (.iload_n 1, 1) := by decide +kernel
theorem dX4_buy_76 : decode cX4_buy 76 = .ok (.iload_n 2, 1) := by decide +kernel
theorem dX4_buy_77 : decode cX4_buy 77 = .ok (.invokestatic 134, 3) := by decide +kernel
theorem dX4_buy_80 : decode cX4_buy 80 = .ok (.aload_n 0, 1) := by decide +kernel
theorem dX4_buy_81 : decode cX4_buy 81 = .ok (.getfield 10, 3) := by decide +kernel
theorem dX4_buy_84 : decode cX4_buy 84 = .ok (.getfield 137, 3) := by decide +kernel
theorem dX4_buy_87 : decode cX4_buy 87 = .ok (.iload_n 1, 1) := by decide +kernel
theorem dX4_buy_88 : decode cX4_buy 88 = .ok (.iload_n 2, 1) := by decide +kernel
theorem dX4_buy_89 : decode cX4_buy 89 = .ok (.invokestatic 134, 3) := by decide +kernel
theorem dX4_buy_92 : decode cX4_buy 92 = .ok (.aload_n 0, 1) := by decide +kernel
theorem dX4_buy_93 : decode cX4_buy 93 = .ok (.getfield 10, 3) := by decide +kernel
theorem dX4_buy_96 : decode cX4_buy 96 = .ok (.getfield 137, 3) := by decide +kernel
theorem dX4_buy_99 : decode cX4_buy 99 = .ok (.iload_n 1, 1) := by decide +kernel
theorem dX4_buy_100 : decode cX4_buy 100 = .ok (.invokestatic 111, 3) := by decide +kernel
theorem dX4_buy_103 : decode cX4_buy 103 = .ok (.ireturn, 1) := by decide +kernel
theorem dX4_string_0 : decode cX4_string 0 = .ok (.iload_n 1, 1) := by decide +kernel
theorem dX4_string_1 : decode cX4_string 1 = .ok (.invokestatic 91, 3) := by decide +kernel
theorem dX4_string_4 : decode cX4_string 4 = .ok (.ifCond .eq 10, 3) := by decide +kernel
theorem dX4_string_7 : decode cX4_string 7 = .ok (.iload_n 2, 1) := by decide +kernel
theorem dX4_string_8 : decode cX4_string 8 = .ok (.invokestatic 140, 3) := by decide +kernel
theorem dX4_string_11 : decode cX4_string 11 = .ok (.ifCond .ne 13, 3) := by decide +kernel
theorem dX4_string_14 : decode cX4_string 14 = .ok (.new 45, 3) := by decide +kernel
theorem dX4_string_17 : decode cX4_string 17 = .ok (.dup, 1) := by decide +kernel
theorem dX4_string_18 : decode cX4_string 18 = .ok (.ldc 127, 2) := by decide +kernel
theorem dX4_string_20 : decode cX4_string 20 = .ok (.invokespecial 49, 3) := by decide +kernel
theorem dX4_string_23 : decode cX4_string 23 = .ok (.athrow, 1) := by decide +kernel
theorem dX4_string_24 : decode cX4_string 24 = .ok (.iconst 0, 1) := by decide +kernel
theorem dX4_string_25 : decode cX4_string 25 = .ok (.istore_n 3, 1) := by decide +kernel
theorem dX4_string_26 : decode cX4_string 26 = .ok (.iload_n 3, 1) := by decide +kernel
theorem dX4_string_27 : decode cX4_string 27 = .ok (.iload_n 2, 1) := by decide +kernel
theorem dX4_string_28 : decode cX4_string 28 = .ok (.if_icmp .ge 18, 3) := by decide +kernel
theorem dX4_string_31 : decode cX4_string 31 = .ok (.aload_n 0, 1) := by decide +kernel
theorem dX4_string_32 : decode cX4_string 32 = .ok (.getfield 37, 3) := by decide +kernel
theorem dX4_string_35 : decode cX4_string 35 = .ok (.iload_n 3, 1) := by decide +kernel
theorem dX4_string_36 : decode cX4_string 36 = .ok (.iload_n 1, 1) := by decide +kernel
theorem dX4_string_37 : decode cX4_string 37 = .ok (.invokestatic 123, 3) := by decide +kernel
theorem dX4_string_40 : decode cX4_string 40 = .ok (.iinc 3 1, 3) := by decide +kernel
theorem dX4_string_43 : decode cX4_string 43 = .ok (.goto (-17), 3) := by decide +kernel
theorem dX4_string_46 : decode cX4_string 46 = .ok (.aload_n 0, 1) := by decide +kernel
theorem dX4_string_47 : decode cX4_string 47 = .ok (.iload_n 2, 1) := by decide +kernel
theorem dX4_string_48 : decode cX4_string 48 = .ok (.invokevirtual 143, 3) := by decide +kernel
theorem dX4_string_51 : decode cX4_string 51 = .ok (.ireturn, 1) := by decide +kernel
theorem dX4_stringNext_0 : decode cX4_stringNext 0 = .ok (.iload_n 1, 1) := by decide +kernel
theorem dX4_stringNext_1 : decode cX4_stringNext 1 = .ok (.invokestatic 140, 3) := by decide +kernel
theorem dX4_stringNext_4 : decode cX4_stringNext 4 = .ok (.ifCond .ne 13, 3) := by decide +kernel
theorem dX4_stringNext_7 : decode cX4_stringNext 7 = .ok (.new 45, 3) := by decide +kernel
theorem dX4_stringNext_10 : decode cX4_stringNext 10 = .ok (.dup, 1) := by decide +kernel
theorem dX4_stringNext_11 : decode cX4_stringNext 11 = .ok (.ldc 147, 2) := by decide +kernel
theorem dX4_stringNext_13 : decode cX4_stringNext 13 = .ok (.invokespecial 49, 3) := by decide +kernel
theorem dX4_stringNext_16 : decode cX4_stringNext 16 = .ok (.athrow, 1) := by decide +kernel
theorem dX4_stringNext_17 : decode cX4_stringNext 17 = .ok (.iconst 0, 1) := by decide +kernel
theorem dX4_stringNext_18 : decode cX4_stringNext 18 = .ok (.istore_n 2, 1) := by decide +kernel
theorem dX4_stringNext_19 : decode cX4_stringNext 19 = .ok (.iload_n 2, 1) := by decide +kernel
theorem dX4_stringNext_20 : decode cX4_stringNext 20 = .ok (.iload_n 1, 1) := by decide +kernel
theorem dX4_stringNext_21 : decode cX4_stringNext 21 = .ok (.if_icmp .ge 33, 3) := by decide +kernel
theorem dX4_stringNext_24 : decode cX4_stringNext 24 = .ok (.aload_n 0, 1) := by decide +kernel
theorem dX4_stringNext_25 : decode cX4_stringNext 25 = .ok (.getfield 37, 3) := by decide +kernel
theorem dX4_stringNext_28 : decode cX4_stringNext 28 = .ok (.iload_n 2, 1) := by decide +kernel
theorem dX4_stringNext_29 : decode cX4_stringNext 29 = .ok (.aload_n 0, 1) := by decide +kernel
theorem dX4_stringNext_30 : decode cX4_stringNext 30 = .ok (.getfield 10, 3) := by decide +kernel
theorem dX4_stringNext_33 : decode cX4_stringNext 33 = .ok (.aload_n 0, 1) := by decide +kernel
theorem dX4_stringNext_34 : decode cX4_stringNext 34 = .ok (.getfield 10, 3) := by decide +kernel
theorem dX4_stringNext_37 : decode cX4_stringNext 37 = .ok (.getfield 149, 3) := by decide +kernel
theorem dX4_stringNext_40 : decode cX4_stringNext 40 = .ok (.iload_n 2, 1) := by decide +kernel
theorem dX4_stringNext_41 : decode cX4_stringNext 41 = .ok (.iadd, 1) := by decide +kernel
theorem dX4_stringNext_42 : decode cX4_stringNext 42 = .ok (.invokevirtual 152, 3) := by decide +kernel
theorem dX4_stringNext_45 : decode cX4_stringNext 45 = .ok (.invokestatic 123, 3) := by decide +kernel
theorem dX4_stringNext_48 : decode cX4_stringNext 48 = .ok (.iinc 2 1, 3) := by decide +kernel
theorem dX4_stringNext_51 : decode cX4_stringNext 51 = .ok (.goto (-32), 3) := by decide +kernel
theorem dX4_stringNext_54 : decode cX4_stringNext 54 = .ok (.aload_n 0, 1) := by decide +kernel
theorem dX4_stringNext_55 : decode cX4_stringNext 55 = .ok (.iload_n 1, 1) := by decide +kernel
theorem dX4_stringNext_56 : decode cX4_stringNext 56 = .ok (.invokevirtual 143, 3) := by decide +kernel
theorem dX4_stringNext_59 : decode cX4_stringNext 59 = .ok (.ireturn, 1) := by decide +kernel
theorem dX4_stringRow_0 : decode cX4_stringRow 0 = .ok (.aload_n 0, 1) := by decide +kernel
theorem dX4_stringRow_1 : decode cX4_stringRow 1 = .ok (.getfield 26, 3) := by decide +kernel
theorem dX4_stringRow_4 : decode cX4_stringRow 4 = .ok (.iconst 0, 1) := by decide +kernel
theorem dX4_stringRow_5 : decode cX4_stringRow 5 = .ok (.invokevirtual 41, 3) := by decide +kernel
theorem dX4_stringRow_8 : decode cX4_stringRow 8 = .ok (.ifCond .ne 13, 3) := by decide +kernel
theorem dX4_stringRow_11 : decode cX4_stringRow 11 = .ok (.new 45, 3) := by decide +kernel
theorem dX4_stringRow_14 : decode cX4_stringRow 14 = .ok (.dup, 1) := by decide +kernel
theorem dX4_stringRow_15 : decode cX4_stringRow 15 = .ok (.ldc 155, 2) := by decide +kernel
theorem dX4_stringRow_17 : decode cX4_stringRow 17 = .ok (.invokespecial 49, 3) := by decide +kernel
theorem dX4_stringRow_20 : decode cX4_stringRow 20 = .ok (.athrow, 1) := by decide +kernel
theorem dX4_stringRow_21 : decode cX4_stringRow 21 = .ok (.aload_n 0, 1) := by decide +kernel
theorem dX4_stringRow_22 : decode cX4_stringRow 22 = .ok (.aload_n 0, 1) := by decide +kernel
theorem dX4_stringRow_23 : decode cX4_stringRow 23 = .ok (.getfield 26, 3) := by decide +kernel
theorem dX4_stringRow_26 : decode cX4_stringRow 26 = .ok (.aload_n 0, 1) := by decide +kernel
theorem dX4_stringRow_27 : decode cX4_stringRow 27 = .ok (.getfield 37, 3) := by decide +kernel
theorem dX4_stringRow_30 : decode cX4_stringRow 30 = .ok (.invokevirtual 157, 3) := by decide +kernel
theorem dX4_stringRow_33 : decode cX4_stringRow 33 = .ok (.invokevirtual 143, 3) := by decide +kernel
theorem dX4_stringRow_36 : decode cX4_stringRow 36 = .ok (.istore_n 1, 1) := by decide +kernel
theorem dX4_stringRow_37 : decode cX4_stringRow 37 = .ok (.aload_n 0, 1) := by decide +kernel
theorem dX4_stringRow_38 : decode cX4_stringRow 38 = .ok (.getfield 26, 3) := by decide +kernel
theorem dX4_stringRow_41 : decode cX4_stringRow 41 = .ok (.invokevirtual 72, 3) := by decide +kernel
theorem dX4_stringRow_44 : decode cX4_stringRow 44 = .ok (.iload_n 1, 1) := by decide +kernel
theorem dX4_stringRow_45 : decode cX4_stringRow 45 = .ok (.ireturn, 1) := by decide +kernel
theorem dX4_join_0 : decode cX4_join 0 = .ok (.aload_n 0, 1) := by decide +kernel
theorem dX4_join_1 : decode cX4_join 1 = .ok (.getfield 10, 3) := by decide +kernel
theorem dX4_join_4 : decode cX4_join 4 = .ok (.aload_n 0, 1) := by decide +kernel
theorem dX4_join_5 : decode cX4_join 5 = .ok (.getfield 10, 3) := by decide +kernel
theorem dX4_join_8 : decode cX4_join 8 = .ok (.getfield 161, 3) := by decide +kernel
theorem dX4_join_11 : decode cX4_join 11 = .ok (.iconst 1, 1) := by decide +kernel
theorem dX4_join_12 : decode cX4_join 12 = .ok (.isub, 1) := by decide +kernel
theorem dX4_join_13 : decode cX4_join 13 = .ok (.invokevirtual 164, 3) := by decide +kernel
theorem dX4_join_16 : decode cX4_join 16 = .ok (.ifCond .eq 15, 3) := by decide +kernel
theorem dX4_join_19 : decode cX4_join 19 = .ok (.aload_n 0, 1) := by decide +kernel
theorem dX4_join_20 : decode cX4_join 20 = .ok (.getfield 10, 3) := by decide +kernel
theorem dX4_join_23 : decode cX4_join 23 = .ok (.getfield 161, 3) := by decide +kernel
theorem dX4_join_26 : decode cX4_join 26 = .ok (.bipush 48, 2) := by decide +kernel
theorem dX4_join_28 : decode cX4_join 28 = .ok (.if_icmp .lt 13, 3) := by decide +kernel
theorem dX4_join_31 : decode cX4_join 31 = .ok (.new 56, 3) := by decide +kernel
theorem dX4_join_34 : decode cX4_join 34 = .ok (.dup, 1) := by decide +kernel
theorem dX4_join_35 : decode cX4_join 35 = .ok (.ldc 167, 2) := by decide +kernel
theorem dX4_join_37 : decode cX4_join 37 = .ok (.invokespecial 60, 3) := by decide +kernel
theorem dX4_join_40 : decode cX4_join 40 = .ok (.athrow, 1) := by decide +kernel
theorem dX4_join_41 : decode cX4_join 41 = .ok (.aload_n 0, 1) := by decide +kernel
theorem dX4_join_42 : decode cX4_join 42 = .ok (.getfield 19, 3) := by decide +kernel
theorem dX4_join_45 : decode cX4_join 45 = .ok (.aload_n 0, 1) := by decide +kernel
theorem dX4_join_46 : decode cX4_join 46 = .ok (.getfield 10, 3) := by decide +kernel
theorem dX4_join_49 : decode cX4_join 49 = .ok (.invokevirtual 61, 3) := by decide +kernel
theorem dX4_join_52 : decode cX4_join 52 = .ok (.aload_n 0, 1) := by decide +kernel
theorem dX4_join_53 : decode cX4_join 53 = .ok (.getfield 10, 3) := by decide +kernel
theorem dX4_join_56 : decode cX4_join 56 = .ok (.getfield 169, 3) := by decide +kernel
theorem dX4_join_59 : decode cX4_join 59 = .ok (.aload_n 0, 1) := by decide +kernel
theorem dX4_join_60 : decode cX4_join 60 = .ok (.getfield 10, 3) := by decide +kernel
theorem dX4_join_63 : decode cX4_join 63 = .ok (.getfield 161, 3) := by decide +kernel
theorem dX4_join_66 : decode cX4_join 66 = .ok (.aload_n 0, 1) := by decide +kernel
theorem dX4_join_67 : decode cX4_join 67 = .ok (.getfield 10, 3) := by decide +kernel
theorem dX4_join_70 : decode cX4_join 70 = .ok (.getfield 149, 3) := by decide +kernel
theorem dX4_join_73 : decode cX4_join 73 = .ok (.invokestatic 123, 3) := by decide +kernel
theorem dX4_join_76 : decode cX4_join 76 = .ok (.aload_n 0, 1) := by decide +kernel
theorem dX4_join_77 : decode cX4_join 77 = .ok (.getfield 10, 3) := by decide +kernel
theorem dX4_join_80 : decode cX4_join 80 = .ok (.dup, 1) := by decide +kernel
theorem dX4_join_81 : decode cX4_join 81 = .ok (.getfield 161, 3) := by decide +kernel
theorem dX4_join_84 : decode cX4_join 84 = .ok (.iconst 1, 1) := by decide +kernel
theorem dX4_join_85 : decode cX4_join 85 = .ok (.iadd, 1) := by decide +kernel
theorem dX4_join_86 : decode cX4_join 86 = .ok (.putfield 161, 3) := by decide +kernel
theorem dX4_join_89 : decode cX4_join 89 = .ok (.aload_n 0, 1) := by decide +kernel
theorem dX4_join_90 : decode cX4_join 90 = .ok (.getfield 10, 3) := by decide +kernel
theorem dX4_join_93 : decode cX4_join 93 = .ok (.aload_n 0, 1) := by decide +kernel
theorem dX4_join_94 : decode cX4_join 94 = .ok (.getfield 10, 3) := by decide +kernel
theorem dX4_join_97 : decode cX4_join 97 = .ok (.getfield 161, 3) := by decide +kernel
theorem dX4_join_100 : decode cX4_join 100 = .ok (.iconst 1, 1) := by decide +kernel
theorem dX4_join_101 : decode cX4_join 101 = .ok (.isub, 1) := by decide +kernel
theorem dX4_join_102 : decode cX4_join 102 = .ok (.invokevirtual 172, 3) := by decide +kernel
theorem dX4_join_105 : decode cX4_join 105 = .ok (.ifCond .eq 7, 3) := by decide +kernel
theorem dX4_join_108 : decode cX4_join 108 = .ok (.iconst 1, 1) := by decide +kernel
theorem dX4_join_109 : decode cX4_join 109 = .ok (.goto 4, 3) := by decide +kernel
theorem dX4_join_112 : decode cX4_join 112 = .ok (.iconst 0, 1) := by decide +kernel
theorem dX4_join_113 : decode cX4_join 113 = .ok (.ireturn, 1) := by decide +kernel
theorem dX4_crush_0 : decode cX4_crush 0 = .ok (.aload_n 0, 1) := by decide +kernel
theorem dX4_crush_1 : decode cX4_crush 1 = .ok (.iload_n 1, 1) := by decide +kernel
theorem dX4_crush_2 : decode cX4_crush 2 = .ok (.invokevirtual 175, 3) := by decide +kernel
theorem dX4_crush_5 : decode cX4_crush 5 = .ok (.ifCond .ne 13, 3) := by decide +kernel
theorem dX4_crush_8 : decode cX4_crush 8 = .ok (.new 103, 3) := by decide +kernel
theorem dX4_crush_11 : decode cX4_crush 11 = .ok (.dup, 1) := by decide +kernel
theorem dX4_crush_12 : decode cX4_crush 12 = .ok (.ldc 178, 2) := by decide +kernel
theorem dX4_crush_14 : decode cX4_crush 14 = .ok (.invokespecial 107, 3) := by decide +kernel
theorem dX4_crush_17 : decode cX4_crush 17 = .ok (.athrow, 1) := by decide +kernel
theorem dX4_crush_18 : decode cX4_crush 18 = .ok (.aload_n 0, 1) := by decide +kernel
theorem dX4_crush_19 : decode cX4_crush 19 = .ok (.getfield 19, 3) := by decide +kernel
theorem dX4_crush_22 : decode cX4_crush 22 = .ok (.aload_n 0, 1) := by decide +kernel
theorem dX4_crush_23 : decode cX4_crush 23 = .ok (.getfield 10, 3) := by decide +kernel
theorem dX4_crush_26 : decode cX4_crush 26 = .ok (.invokevirtual 61, 3) := by decide +kernel
theorem dX4_crush_29 : decode cX4_crush 29 = .ok (.aload_n 0, 1) := by decide +kernel
theorem dX4_crush_30 : decode cX4_crush 30 = .ok (.getfield 10, 3) := by decide +kernel
theorem dX4_crush_33 : decode cX4_crush 33 = .ok (.iload_n 1, 1) := by decide +kernel
theorem dX4_crush_34 : decode cX4_crush 34 = .ok (.invokevirtual 180, 3) := by decide +kernel
theorem dX4_crush_37 : decode cX4_crush 37 = .ok (.aload_n 0, 1) := by decide +kernel
theorem dX4_crush_38 : decode cX4_crush 38 = .ok (.getfield 10, 3) := by decide +kernel
theorem dX4_crush_41 : decode cX4_crush 41 = .ok (.getfield 149, 3) := by decide +kernel
theorem dX4_crush_44 : decode cX4_crush 44 = .ok (.ireturn, 1) := by decide +kernel
theorem dX4_unpick_0 : decode cX4_unpick 0 = .ok (.iload_n 1, 1) := by decide +kernel
theorem dX4_unpick_1 : decode cX4_unpick 1 = .ok (.iconst 1, 1) := by decide +kernel
theorem dX4_unpick_2 : decode cX4_unpick 2 = .ok (.if_icmp .lt 10, 3) := by decide +kernel
theorem dX4_unpick_5 : decode cX4_unpick 5 = .ok (.iload_n 1, 1) := by decide +kernel
theorem dX4_unpick_6 : decode cX4_unpick 6 = .ok (.sipush 240, 3) := by decide +kernel
theorem dX4_unpick_9 : decode cX4_unpick 9 = .ok (.if_icmp .le 13, 3) := by decide +kernel
theorem dX4_unpick_12 : decode cX4_unpick 12 = .ok (.new 45, 3) := by decide +kernel
theorem dX4_unpick_15 : decode cX4_unpick 15 = .ok (.dup, 1) := by decide +kernel
theorem dX4_unpick_16 : decode cX4_unpick 16 = .ok (.ldc 147, 2) := by decide +kernel
theorem dX4_unpick_18 : decode cX4_unpick 18 = .ok (.invokespecial 49, 3) := by decide +kernel
theorem dX4_unpick_21 : decode cX4_unpick 21 = .ok (.athrow, 1) := by decide +kernel
theorem dX4_unpick_22 : decode cX4_unpick 22 = .ok (.iload_n 1, 1) := by decide +kernel
theorem dX4_unpick_23 : decode cX4_unpick 23 = .ok (.aload_n 0, 1) := by decide +kernel
theorem dX4_unpick_24 : decode cX4_unpick 24 = .ok (.getfield 10, 3) := by decide +kernel
theorem dX4_unpick_27 : decode cX4_unpick 27 = .ok (.getfield 149, 3) := by decide +kernel
theorem dX4_unpick_30 : decode cX4_unpick 30 = .ok (.if_icmp .le 13, 3) := by decide +kernel
theorem dX4_unpick_33 : decode cX4_unpick 33 = .ok (.new 56, 3) := by decide +kernel
theorem dX4_unpick_36 : decode cX4_unpick 36 = .ok (.dup, 1) := by decide +kernel
theorem dX4_unpick_37 : decode cX4_unpick 37 = .ok (.ldc 184, 2) := by decide +kernel
theorem dX4_unpick_39 : decode cX4_unpick 39 = .ok (.invokespecial 60, 3) := by decide +kernel
theorem dX4_unpick_42 : decode cX4_unpick 42 = .ok (.athrow, 1) := by decide +kernel
theorem dX4_unpick_43 : decode cX4_unpick 43 = .ok (.aload_n 0, 1) := by decide +kernel
theorem dX4_unpick_44 : decode cX4_unpick 44 = .ok (.getfield 19, 3) := by decide +kernel
theorem dX4_unpick_47 : decode cX4_unpick 47 = .ok (.aload_n 0, 1) := by decide +kernel
theorem dX4_unpick_48 : decode cX4_unpick 48 = .ok (.getfield 10, 3) := by decide +kernel
theorem dX4_unpick_51 : decode cX4_unpick 51 = .ok (.invokevirtual 61, 3) := by decide +kernel
theorem dX4_unpick_54 : decode cX4_unpick 54 = .ok (.aload_n 0, 1) := by decide +kernel
theorem dX4_unpick_55 : decode cX4_unpick 55 = .ok (.getfield 10, 3) := by decide +kernel
theorem dX4_unpick_58 : decode cX4_unpick 58 = .ok (.iload_n 1, 1) := by decide +kernel
theorem dX4_unpick_59 : decode cX4_unpick 59 = .ok (.invokevirtual 186, 3) := by decide +kernel
theorem dX4_unpick_62 : decode cX4_unpick 62 = .ok (.aload_n 0, 1) := by decide +kernel
theorem dX4_unpick_63 : decode cX4_unpick 63 = .ok (.getfield 10, 3) := by decide +kernel
theorem dX4_unpick_66 : decode cX4_unpick 66 = .ok (.getfield 149, 3) := by decide +kernel
theorem dX4_unpick_69 : decode cX4_unpick 69 = .ok (.ireturn, 1) := by decide +kernel
theorem dX4_append_0 : decode cX4_append 0 = .ok (.iload_n 1, 1) := by decide +kernel
theorem dX4_append_1 : decode cX4_append 1 = .ok (.bipush 33, 2) := by decide +kernel
theorem dX4_append_3 : decode cX4_append 3 = .ok (.if_icmp .lt 9, 3) := by decide +kernel
theorem dX4_append_6 : decode cX4_append 6 = .ok (.iload_n 1, 1) := by decide +kernel
theorem dX4_append_7 : decode cX4_append 7 = .ok (.bipush 126, 2) := by decide +kernel
theorem dX4_append_9 : decode cX4_append 9 = .ok (.if_icmp .le 13, 3) := by decide +kernel
theorem dX4_append_12 : decode cX4_append 12 = .ok (.new 45, 3) := by decide +kernel
theorem dX4_append_15 : decode cX4_append 15 = .ok (.dup, 1) := by decide +kernel
theorem dX4_append_16 : decode cX4_append 16 = .ok (.ldc 189, 2) := by decide +kernel
theorem dX4_append_18 : decode cX4_append 18 = .ok (.invokespecial 49, 3) := by decide +kernel
theorem dX4_append_21 : decode cX4_append 21 = .ok (.athrow, 1) := by decide +kernel
theorem dX4_append_22 : decode cX4_append 22 = .ok (.aload_n 0, 1) := by decide +kernel
theorem dX4_append_23 : decode cX4_append 23 = .ok (.getfield 26, 3) := by decide +kernel
theorem dX4_append_26 : decode cX4_append 26 = .ok (.getfield 191, 3) := by decide +kernel
theorem dX4_append_29 : decode cX4_append 29 = .ok (.bipush 60, 2) := by decide +kernel
theorem dX4_append_31 : decode cX4_append 31 = .ok (.if_icmp .lt 13, 3) := by decide +kernel
theorem dX4_append_34 : decode cX4_append 34 = .ok (.new 56, 3) := by decide +kernel
theorem dX4_append_37 : decode cX4_append 37 = .ok (.dup, 1) := by decide +kernel
theorem dX4_append_38 : decode cX4_append 38 = .ok (.ldc 194, 2) := by decide +kernel
theorem dX4_append_40 : decode cX4_append 40 = .ok (.invokespecial 60, 3) := by decide +kernel
theorem dX4_append_43 : decode cX4_append 43 = .ok (.athrow, 1) := by decide +kernel
theorem dX4_append_44 : decode cX4_append 44 = .ok (.aload_n 0, 1) := by decide +kernel
theorem dX4_append_45 : decode cX4_append 45 = .ok (.getfield 26, 3) := by decide +kernel
theorem dX4_append_48 : decode cX4_append 48 = .ok (.getfield 196, 3) := by decide +kernel
theorem dX4_append_51 : decode cX4_append 51 = .ok (.aload_n 0, 1) := by decide +kernel
theorem dX4_append_52 : decode cX4_append 52 = .ok (.getfield 26, 3) := by decide +kernel
theorem dX4_append_55 : decode cX4_append 55 = .ok (.getfield 191, 3) := by decide +kernel
theorem dX4_append_58 : decode cX4_append 58 = .ok (.iload_n 1, 1) := by decide +kernel
theorem dX4_append_59 : decode cX4_append 59 = .ok (.invokestatic 123, 3) := by decide +kernel
theorem dX4_append_62 : decode cX4_append 62 = .ok (.aload_n 0, 1) := by decide +kernel
theorem dX4_append_63 : decode cX4_append 63 = .ok (.getfield 26, 3) := by decide +kernel
theorem dX4_append_66 : decode cX4_append 66 = .ok (.dup, 1) := by decide +kernel
theorem dX4_append_67 : decode cX4_append 67 = .ok (.getfield 191, 3) := by decide +kernel
theorem dX4_append_70 : decode cX4_append 70 = .ok (.iconst 1, 1) := by decide +kernel
theorem dX4_append_71 : decode cX4_append 71 = .ok (.iadd, 1) := by decide +kernel
theorem dX4_append_72 : decode cX4_append 72 = .ok (.putfield 191, 3) := by decide +kernel
theorem dX4_append_75 : decode cX4_append 75 = .ok (.aload_n 0, 1) := by decide +kernel
theorem dX4_append_76 : decode cX4_append 76 = .ok (.getfield 26, 3) := by decide +kernel
theorem dX4_append_79 : decode cX4_append 79 = .ok (.getfield 191, 3) := by decide +kernel
theorem dX4_append_82 : decode cX4_append 82 = .ok (.ireturn, 1) := by decide +kernel
theorem dX4_clearBuffer_0 : decode cX4_clearBuffer 0 = .ok (.aload_n 0, 1) := by decide +kernel
theorem dX4_clearBuffer_1 : decode cX4_clearBuffer 1 = .ok (.getfield 26, 3) := by decide +kernel
theorem dX4_clearBuffer_4 : decode cX4_clearBuffer 4 = .ok (.getfield 191, 3) := by decide +kernel
theorem dX4_clearBuffer_7 : decode cX4_clearBuffer 7 = .ok (.istore_n 1, 1) := by decide +kernel
theorem dX4_clearBuffer_8 : decode cX4_clearBuffer 8 = .ok (.aload_n 0, 1) := by decide +kernel
theorem dX4_clearBuffer_9 : decode cX4_clearBuffer 9 = .ok (.getfield 26, 3) := by decide +kernel
theorem dX4_clearBuffer_12 : decode cX4_clearBuffer 12 = .ok (.invokevirtual 72, 3) := by decide +kernel
theorem dX4_clearBuffer_15 : decode cX4_clearBuffer 15 = .ok (.iload_n 1, 1) := by decide +kernel
theorem dX4_clearBuffer_16 : decode cX4_clearBuffer 16 = .ok (.ireturn, 1) := by decide +kernel
theorem dX4_firstError_0 : decode cX4_firstError 0 = .ok (.aload_n 0, 1) := by decide +kernel
theorem dX4_firstError_1 : decode cX4_firstError 1 = .ok (.getfield 26, 3) := by decide +kernel
theorem dX4_firstError_4 : decode cX4_firstError 4 = .ok (.iload_n 1, 1) := by decide +kernel
theorem dX4_firstError_5 : decode cX4_firstError 5 = .ok (.invokevirtual 199, 3) := by decide +kernel
theorem dX4_firstError_8 : decode cX4_firstError 8 = .ok (.ireturn, 1) := by decide +kernel
theorem dX4_undo_0 : decode cX4_undo 0 = .ok (.aload_n 0, 1) := by decide +kernel
theorem dX4_undo_1 : decode cX4_undo 1 = .ok (.getfield 19, 3) := by decide +kernel
theorem dX4_undo_4 : decode cX4_undo 4 = .ok (.getfield 203, 3) := by decide +kernel
theorem dX4_undo_7 : decode cX4_undo 7 = .ok (.ifCond .ne 13, 3) := by decide +kernel
theorem dX4_undo_10 : decode cX4_undo 10 = .ok (.new 56, 3) := by decide +kernel
theorem dX4_undo_13 : decode cX4_undo 13 = .ok (.dup, 1) := by decide +kernel
theorem dX4_undo_14 : decode cX4_undo 14 = .ok (.ldc 206, 2) := by decide +kernel
theorem dX4_undo_16 : decode cX4_undo 16 = .ok (.invokespecial 60, 3) := by decide +kernel
theorem dX4_undo_19 : decode cX4_undo 19 = .ok (.athrow, 1) := by decide +kernel
theorem dX4_undo_20 : decode cX4_undo 20 = .ok (.aload_n 0, 1) := by decide +kernel
theorem dX4_undo_21 : decode cX4_undo 21 = .ok (.getfield 19, 3) := by decide +kernel
theorem dX4_undo_24 : decode cX4_undo 24 = .ok (.aload_n 0, 1) := by decide +kernel
theorem dX4_undo_25 : decode cX4_undo 25 = .ok (.getfield 10, 3) := by decide +kernel
theorem dX4_undo_28 : decode cX4_undo 28 = .ok (.invokevirtual 208, 3) := by decide +kernel
theorem dX4_undo_31 : decode cX4_undo 31 = .ok (.aload_n 0, 1) := by decide +kernel
theorem dX4_undo_32 : decode cX4_undo 32 = .ok (.getfield 19, 3) := by decide +kernel
theorem dX4_undo_35 : decode cX4_undo 35 = .ok (.getfield 203, 3) := by decide +kernel
theorem dX4_undo_38 : decode cX4_undo 38 = .ok (.ireturn, 1) := by decide +kernel
theorem dX4_cell_0 : decode cX4_cell 0 = .ok (.iload_n 1, 1) := by decide +kernel
theorem dX4_cell_1 : decode cX4_cell 1 = .ok (.ifCond .lt 35, 3) := by decide +kernel
theorem dX4_cell_4 : decode cX4_cell 4 = .ok (.iload_n 1, 1) := by decide +kernel
theorem dX4_cell_5 : decode cX4_cell 5 = .ok (.aload_n 0, 1) := by decide +kernel
theorem dX4_cell_6 : decode cX4_cell 6 = .ok (.getfield 10, 3) := by decide +kernel
theorem dX4_cell_9 : decode cX4_cell 9 = .ok (.getfield 65, 3) := by decide +kernel
theorem dX4_cell_12 : decode cX4_cell 12 = .ok (.getfield 75, 3) := by decide +kernel
theorem dX4_cell_15 : decode cX4_cell 15 = .ok (.if_icmp .ge 21, 3) := by decide +kernel
theorem dX4_cell_18 : decode cX4_cell 18 = .ok (.iload_n 2, 1) := by decide +kernel
theorem dX4_cell_19 : decode cX4_cell 19 = .ok (.ifCond .lt 17, 3) := by decide +kernel
theorem dX4_cell_22 : decode cX4_cell 22 = .ok (.iload_n 2, 1) := by decide +kernel
theorem dX4_cell_23 : decode cX4_cell 23 = .ok (.aload_n 0, 1) := by decide +kernel
theorem dX4_cell_24 : decode cX4_cell 24 = .ok (.getfield 10, 3) := by decide +kernel
theorem dX4_cell_27 : decode cX4_cell 27 = .ok (.getfield 65, 3) := by decide +kernel
theorem dX4_cell_30 : decode cX4_cell 30 = .ok (.getfield 211, 3) := by decide +kernel
theorem dX4_cell_33 : decode cX4_cell 33 = .ok (.if_icmp .lt 13, 3) := by decide +kernel
theorem dX4_cell_36 : decode cX4_cell 36 = .ok (.new 103, 3) := by decide +kernel
theorem dX4_cell_39 : decode cX4_cell 39 = .ok (.dup, 1) := by decide +kernel
theorem dX4_cell_40 : decode cX4_cell 40 = .ok (.ldc 214, 2) := by decide +kernel
theorem dX4_cell_42 : decode cX4_cell 42 = .ok (.invokespecial 107, 3) := by decide +kernel
theorem dX4_cell_45 : decode cX4_cell 45 = .ok (.athrow, 1) := by decide +kernel
theorem dX4_cell_46 : decode cX4_cell 46 = .ok (.aload_n 0, 1) := by decide +kernel
theorem dX4_cell_47 : decode cX4_cell 47 = .ok (.getfield 10, 3) := by decide +kernel
theorem dX4_cell_50 : decode cX4_cell 50 = .ok (.getfield 65, 3) := by decide +kernel
theorem dX4_cell_53 : decode cX4_cell 53 = .ok (.iload_n 1, 1) := by decide +kernel
theorem dX4_cell_54 : decode cX4_cell 54 = .ok (.iload_n 2, 1) := by decide +kernel
theorem dX4_cell_55 : decode cX4_cell 55 = .ok (.invokevirtual 216, 3) := by decide +kernel
theorem dX4_cell_58 : decode cX4_cell 58 = .ok (.ireturn, 1) := by decide +kernel
theorem dX4_pattern_0 : decode cX4_pattern 0 = .ok (.iload_n 1, 1) := by decide +kernel
theorem dX4_pattern_1 : decode cX4_pattern 1 = .ok (.ifCond .lt 19, 3) := by decide +kernel
theorem dX4_pattern_4 : decode cX4_pattern 4 = .ok (.iload_n 1, 1) := by decide +kernel
theorem dX4_pattern_5 : decode cX4_pattern 5 = .ok (.sipush 240, 3) := by decide +kernel
theorem dX4_pattern_8 : decode cX4_pattern 8 = .ok (.if_icmp .ge 12, 3) := by decide +kernel
theorem dX4_pattern_11 : decode cX4_pattern 11 = .ok (.iload_n 2, 1) := by decide +kernel
theorem dX4_pattern_12 : decode cX4_pattern 12 = .ok (.ifCond .lt 8, 3) := by decide +kernel
theorem dX4_pattern_15 : decode cX4_pattern 15 = .ok (.iload_n 2, 1) := by decide +kernel
theorem dX4_pattern_16 : decode cX4_pattern 16 = .ok (.iconst 4, 1) := by decide +kernel
theorem dX4_pattern_17 : decode cX4_pattern 17 = .ok (.if_icmp .lt 13, 3) := by decide +kernel
theorem dX4_pattern_20 : decode cX4_pattern 20 = .ok (.new 45, 3) := by decide +kernel
theorem dX4_pattern_23 : decode cX4_pattern 23 = .ok (.dup, 1) := by decide +kernel
theorem dX4_pattern_24 : decode cX4_pattern 24 = .ok (.ldc 219, 2) := by decide +kernel
theorem dX4_pattern_26 : decode cX4_pattern 26 = .ok (.invokespecial 49, 3) := by decide +kernel
theorem dX4_pattern_29 : decode cX4_pattern 29 = .ok (.athrow, 1) := by decide +kernel
theorem dX4_pattern_30 : decode cX4_pattern 30 = .ok (.aload_n 0, 1) := by decide +kernel
theorem dX4_pattern_31 : decode cX4_pattern 31 = .ok (.getfield 10, 3) := by decide +kernel
theorem dX4_pattern_34 : decode cX4_pattern 34 = .ok (.iload_n 1, 1) := by decide +kernel
theorem dX4_pattern_35 : decode cX4_pattern 35 = .ok (.iload_n 2, 1) := by decide +kernel
theorem dX4_pattern_36 : decode cX4_pattern 36 = .ok (.invokevirtual 221, 3) := by decide +kernel
theorem dX4_pattern_39 : decode cX4_pattern 39 = .ok (.ireturn, 1) := by decide +kernel
theorem dX4_bead_0 : decode cX4_bead 0 = .ok (.aload_n 0, 1) := by decide +kernel
theorem dX4_bead_1 : decode cX4_bead 1 = .ok (.iload_n 1, 1) := by decide +kernel
theorem dX4_bead_2 : decode cX4_bead 2 = .ok (.invokevirtual 175, 3) := by decide +kernel
theorem dX4_bead_5 : decode cX4_bead 5 = .ok (.ifCond .ne 13, 3) := by decide +kernel
theorem dX4_bead_8 : decode cX4_bead 8 = .ok (.new 103, 3) := by decide +kernel
theorem dX4_bead_11 : decode cX4_bead 11 = .ok (.dup, 1) := by decide +kernel
theorem dX4_bead_12 : decode cX4_bead 12 = .ok (.ldc 178, 2) := by decide +kernel
theorem dX4_bead_14 : decode cX4_bead 14 = .ok (.invokespecial 107, 3) := by decide +kernel
theorem dX4_bead_17 : decode cX4_bead 17 = .ok (.athrow, 1) := by decide +kernel
theorem dX4_bead_18 : decode cX4_bead 18 = .ok (.iload_n 2, 1) := by decide +kernel
theorem dX4_bead_19 : decode cX4_bead 19 = .ok (.ifCond .lt 8, 3) := by decide +kernel
theorem dX4_bead_22 : decode cX4_bead 22 = .ok (.iload_n 2, 1) := by decide +kernel
theorem dX4_bead_23 : decode cX4_bead 23 = .ok (.iconst 4, 1) := by decide +kernel
theorem dX4_bead_24 : decode cX4_bead 24 = .ok (.if_icmp .lt 13, 3) := by decide +kernel
theorem dX4_bead_27 : decode cX4_bead 27 = .ok (.new 45, 3) := by decide +kernel
theorem dX4_bead_30 : decode cX4_bead 30 = .ok (.dup, 1) := by decide +kernel
theorem dX4_bead_31 : decode cX4_bead 31 = .ok (.ldc 224, 2) := by decide +kernel
theorem dX4_bead_33 : decode cX4_bead 33 = .ok (.invokespecial 49, 3) := by decide +kernel
theorem dX4_bead_36 : decode cX4_bead 36 = .ok (.athrow, 1) := by decide +kernel
theorem dX4_bead_37 : decode cX4_bead 37 = .ok (.aload_n 0, 1) := by decide +kernel
theorem dX4_bead_38 : decode cX4_bead 38 = .ok (.getfield 10, 3) := by decide +kernel
theorem dX4_bead_41 : decode cX4_bead 41 = .ok (.iload_n 1, 1) := by decide +kernel
theorem dX4_bead_42 : decode cX4_bead 42 = .ok (.iload_n 2, 1) := by decide +kernel
theorem dX4_bead_43 : decode cX4_bead 43 = .ok (.invokevirtual 226, 3) := by decide +kernel
theorem dX4_bead_46 : decode cX4_bead 46 = .ok (.ireturn, 1) := by decide +kernel
theorem dX4_strand_0 : decode cX4_strand 0 = .ok (.iload_n 1, 1) := by decide +kernel
theorem dX4_strand_1 : decode cX4_strand 1 = .ok (.ifCond .lt 14, 3) := by decide +kernel
theorem dX4_strand_4 : decode cX4_strand 4 = .ok (.iload_n 1, 1) := by decide +kernel
theorem dX4_strand_5 : decode cX4_strand 5 = .ok (.aload_n 0, 1) := by decide +kernel
theorem dX4_strand_6 : decode cX4_strand 6 = .ok (.getfield 10, 3) := by decide +kernel
theorem dX4_strand_9 : decode cX4_strand 9 = .ok (.getfield 161, 3) := by decide +kernel
theorem dX4_strand_12 : decode cX4_strand 12 = .ok (.if_icmp .lt 13, 3) := by decide +kernel
theorem dX4_strand_15 : decode cX4_strand 15 = .ok (.new 103, 3) := by decide +kernel
theorem dX4_strand_18 : decode cX4_strand 18 = .ok (.dup, 1) := by decide +kernel
theorem dX4_strand_19 : decode cX4_strand 19 = .ok (.ldc 229, 2) := by decide +kernel
theorem dX4_strand_21 : decode cX4_strand 21 = .ok (.invokespecial 107, 3) := by decide +kernel
theorem dX4_strand_24 : decode cX4_strand 24 = .ok (.athrow, 1) := by decide +kernel
theorem dX4_strand_25 : decode cX4_strand 25 = .ok (.iload_n 2, 1) := by decide +kernel
theorem dX4_strand_26 : decode cX4_strand 26 = .ok (.ifCond .lt 8, 3) := by decide +kernel
theorem dX4_strand_29 : decode cX4_strand 29 = .ok (.iload_n 2, 1) := by decide +kernel
theorem dX4_strand_30 : decode cX4_strand 30 = .ok (.iconst 4, 1) := by decide +kernel
theorem dX4_strand_31 : decode cX4_strand 31 = .ok (.if_icmp .lt 13, 3) := by decide +kernel
theorem dX4_strand_34 : decode cX4_strand 34 = .ok (.new 45, 3) := by decide +kernel
theorem dX4_strand_37 : decode cX4_strand 37 = .ok (.dup, 1) := by decide +kernel
theorem dX4_strand_38 : decode cX4_strand 38 = .ok (.ldc 224, 2) := by decide +kernel
theorem dX4_strand_40 : decode cX4_strand 40 = .ok (.invokespecial 49, 3) := by decide +kernel
theorem dX4_strand_43 : decode cX4_strand 43 = .ok (.athrow, 1) := by decide +kernel
theorem dX4_strand_44 : decode cX4_strand 44 = .ok (.aload_n 0, 1) := by decide +kernel
theorem dX4_strand_45 : decode cX4_strand 45 = .ok (.getfield 10, 3) := by decide +kernel
theorem dX4_strand_48 : decode cX4_strand 48 = .ok (.iload_n 1, 1) := by decide +kernel
theorem dX4_strand_49 : decode cX4_strand 49 = .ok (.iload_n 2, 1) := by decide +kernel
theorem dX4_strand_50 : decode cX4_strand 50 = .ok (.invokevirtual 231, 3) := by decide +kernel
theorem dX4_strand_53 : decode cX4_strand 53 = .ok (.ireturn, 1) := by decide +kernel
theorem dX4_colour_0 : decode cX4_colour 0 = .ok (.iload_n 1, 1) := by decide +kernel
theorem dX4_colour_1 : decode cX4_colour 1 = .ok (.invokestatic 91, 3) := by decide +kernel
theorem dX4_colour_4 : decode cX4_colour 4 = .ok (.ifCond .eq 13, 3) := by decide +kernel
theorem dX4_colour_7 : decode cX4_colour 7 = .ok (.iload_n 2, 1) := by decide +kernel
theorem dX4_colour_8 : decode cX4_colour 8 = .ok (.ifCond .lt 9, 3) := by decide +kernel
theorem dX4_colour_11 : decode cX4_colour 11 = .ok (.iload_n 2, 1) := by decide +kernel
theorem dX4_colour_12 : decode cX4_colour 12 = .ok (.bipush 6, 2) := by decide +kernel
theorem dX4_colour_14 : decode cX4_colour 14 = .ok (.if_icmp .lt 13, 3) := by decide +kernel
theorem dX4_colour_17 : decode cX4_colour 17 = .ok (.new 45, 3) := by decide +kernel
theorem dX4_colour_20 : decode cX4_colour 20 = .ok (.dup, 1) := by decide +kernel
theorem dX4_colour_21 : decode cX4_colour 21 = .ok (.ldc 234, 2) := by decide +kernel
theorem dX4_colour_23 : decode cX4_colour 23 = .ok (.invokespecial 49, 3) := by decide +kernel
theorem dX4_colour_26 : decode cX4_colour 26 = .ok (.athrow, 1) := by decide +kernel
theorem dX4_colour_27 : decode cX4_colour 27 = .ok (.aload_n 0, 1) := by decide +kernel
theorem dX4_colour_28 : decode cX4_colour 28 = .ok (.getfield 10, 3) := by decide +kernel
theorem dX4_colour_31 : decode cX4_colour 31 = .ok (.iload_n 1, 1) := by decide +kernel
theorem dX4_colour_32 : decode cX4_colour 32 = .ok (.iload_n 2, 1) := by decide +kernel
theorem dX4_colour_33 : decode cX4_colour 33 = .ok (.invokevirtual 236, 3) := by decide +kernel
theorem dX4_colour_36 : decode cX4_colour 36 = .ok (.ireturn, 1) := by decide +kernel
theorem dX4_count_0 : decode cX4_count 0 = .ok (.iload_n 1, 1) := by decide +kernel
theorem dX4_count_1 : decode cX4_count 1 = .ok (.ifCond .lt 9, 3) := by decide +kernel
theorem dX4_count_4 : decode cX4_count 4 = .ok (.iload_n 1, 1) := by decide +kernel
theorem dX4_count_5 : decode cX4_count 5 = .ok (.bipush 13, 2) := by decide +kernel
theorem dX4_count_7 : decode cX4_count 7 = .ok (.if_icmp .lt 13, 3) := by decide +kernel
theorem dX4_count_10 : decode cX4_count 10 = .ok (.new 45, 3) := by decide +kernel
theorem dX4_count_13 : decode cX4_count 13 = .ok (.dup, 1) := by decide +kernel
theorem dX4_count_14 : decode cX4_count 14 = .ok (.ldc 239, 2) := by decide +kernel
theorem dX4_count_16 : decode cX4_count 16 = .ok (.invokespecial 49, 3) := by decide +kernel
theorem dX4_count_19 : decode cX4_count 19 = .ok (.athrow, 1) := by decide +kernel
theorem dX4_count_20 : decode cX4_count 20 = .ok (.aload_n 0, 1) := by decide +kernel
theorem dX4_count_21 : decode cX4_count 21 = .ok (.iload_n 1, 1) := by decide +kernel
theorem dX4_count_22 : decode cX4_count 22 = .ok (.invokevirtual 241, 3) := by decide +kernel
theorem dX4_count_25 : decode cX4_count 25 = .ok (.ireturn, 1) := by decide +kernel
theorem dX4_setting_0 : decode cX4_setting 0 = .ok (.iload_n 1, 1) := by decide +kernel
theorem dX4_setting_1 : decode cX4_setting 1 = .ok (.invokestatic 100, 3) := by decide +kernel
theorem dX4_setting_4 : decode cX4_setting 4 = .ok (.ifCond .ne 13, 3) := by decide +kernel
theorem dX4_setting_7 : decode cX4_setting 7 = .ok (.new 103, 3) := by decide +kernel
theorem dX4_setting_10 : decode cX4_setting 10 = .ok (.dup, 1) := by decide +kernel
theorem dX4_setting_11 : decode cX4_setting 11 = .ok (.ldc 105, 2) := by decide +kernel
theorem dX4_setting_13 : decode cX4_setting 13 = .ok (.invokespecial 107, 3) := by decide +kernel
theorem dX4_setting_16 : decode cX4_setting 16 = .ok (.athrow, 1) := by decide +kernel
theorem dX4_setting_17 : decode cX4_setting 17 = .ok (.aload_n 0, 1) := by decide +kernel
theorem dX4_setting_18 : decode cX4_setting 18 = .ok (.getfield 10, 3) := by decide +kernel
theorem dX4_setting_21 : decode cX4_setting 21 = .ok (.getfield 120, 3) := by decide +kernel
theorem dX4_setting_24 : decode cX4_setting 24 = .ok (.iload_n 1, 1) := by decide +kernel
theorem dX4_setting_25 : decode cX4_setting 25 = .ok (.invokestatic 111, 3) := by decide +kernel
theorem dX4_setting_28 : decode cX4_setting 28 = .ok (.ireturn, 1) := by decide +kernel
theorem dX4_needed_0 : decode cX4_needed 0 = .ok (.iload_n 1, 1) := by decide +kernel
theorem dX4_needed_1 : decode cX4_needed 1 = .ok (.invokestatic 91, 3) := by decide +kernel
theorem dX4_needed_4 : decode cX4_needed 4 = .ok (.ifCond .eq 10, 3) := by decide +kernel
theorem dX4_needed_7 : decode cX4_needed 7 = .ok (.iload_n 2, 1) := by decide +kernel
theorem dX4_needed_8 : decode cX4_needed 8 = .ok (.invokestatic 244, 3) := by decide +kernel
theorem dX4_needed_11 : decode cX4_needed 11 = .ok (.ifCond .ne 13, 3) := by decide +kernel
theorem dX4_needed_14 : decode cX4_needed 14 = .ok (.new 45, 3) := by decide +kernel
theorem dX4_needed_17 : decode cX4_needed 17 = .ok (.dup, 1) := by decide +kernel
theorem dX4_needed_18 : decode cX4_needed 18 = .ok (.ldc 247, 2) := by decide +kernel
theorem dX4_needed_20 : decode cX4_needed 20 = .ok (.invokespecial 49, 3) := by decide +kernel
theorem dX4_needed_23 : decode cX4_needed 23 = .ok (.athrow, 1) := by decide +kernel
theorem dX4_needed_24 : decode cX4_needed 24 = .ok (.aload_n 0, 1) := by decide +kernel
theorem dX4_needed_25 : decode cX4_needed 25 = .ok (.getfield 10, 3) := by decide +kernel
theorem dX4_needed_28 : decode cX4_needed 28 = .ok (.iload_n 1, 1) := by decide +kernel
theorem dX4_needed_29 : decode cX4_needed 29 = .ok (.iload_n 2, 1) := by decide +kernel
theorem dX4_needed_30 : decode cX4_needed 30 = .ok (.invokevirtual 249, 3) := by decide +kernel
theorem dX4_needed_33 : decode cX4_needed 33 = .ok (.ireturn, 1) := by decide +kernel
theorem dX4_plan_0 : decode cX4_plan 0 = .ok (.iload_n 1, 1) := by decide +kernel
theorem dX4_plan_1 : decode cX4_plan 1 = .ok (.invokestatic 244, 3) := by decide +kernel
theorem dX4_plan_4 : decode cX4_plan 4 = .ok (.ifCond .eq 14, 3) := by decide +kernel
theorem dX4_plan_7 : decode cX4_plan 7 = .ok (.iload_n 2, 1) := by decide +kernel
theorem dX4_plan_8 : decode cX4_plan 8 = .ok (.iconst (-1), 1) := by decide +kernel
theorem dX4_plan_9 : decode cX4_plan 9 = .ok (.if_icmp .lt 9, 3) := by decide +kernel
theorem dX4_plan_12 : decode cX4_plan 12 = .ok (.iload_n 2, 1) := by decide +kernel
theorem dX4_plan_13 : decode cX4_plan 13 = .ok (.bipush 48, 2) := by decide +kernel
theorem dX4_plan_15 : decode cX4_plan 15 = .ok (.if_icmp .lt 13, 3) := by decide +kernel
theorem dX4_plan_18 : decode cX4_plan 18 = .ok (.new 45, 3) := by decide +kernel
theorem dX4_plan_21 : decode cX4_plan 21 = .ok (.dup, 1) := by decide +kernel
theorem dX4_plan_22 : decode cX4_plan 22 = .ok (.ldc 252, 2) := by decide +kernel
theorem dX4_plan_24 : decode cX4_plan 24 = .ok (.invokespecial 49, 3) := by decide +kernel
theorem dX4_plan_27 : decode cX4_plan 27 = .ok (.athrow, 1) := by decide +kernel
theorem dX4_plan_28 : decode cX4_plan 28 = .ok (.aload_n 0, 1) := by decide +kernel
theorem dX4_plan_29 : decode cX4_plan 29 = .ok (.getfield 10, 3) := by decide +kernel
theorem dX4_plan_32 : decode cX4_plan 32 = .ok (.iload_n 1, 1) := by decide +kernel
theorem dX4_plan_33 : decode cX4_plan 33 = .ok (.iload_n 2, 1) := by decide +kernel
theorem dX4_plan_34 : decode cX4_plan 34 = .ok (.invokevirtual 254, 3) := by decide +kernel
theorem dX4_plan_37 : decode cX4_plan 37 = .ok (.ireturn, 1) := by decide +kernel
theorem dX4_firstWrong_0 : decode cX4_firstWrong 0 = .ok (.aload_n 0, 1) := by decide +kernel
theorem dX4_firstWrong_1 : decode cX4_firstWrong 1 = .ok (.getfield 10, 3) := by decide +kernel
theorem dX4_firstWrong_4 : decode cX4_firstWrong 4 = .ok (.invokevirtual 257, 3) := by decide +kernel
theorem dX4_firstWrong_7 : decode cX4_firstWrong 7 = .ok (.ireturn, 1) := by decide +kernel
theorem dX4_bestCrush_0 : decode cX4_bestCrush 0 = .ok (.aload_n 0, 1) := by decide +kernel
theorem dX4_bestCrush_1 : decode cX4_bestCrush 1 = .ok (.getfield 10, 3) := by decide +kernel
theorem dX4_bestCrush_4 : decode cX4_bestCrush 4 = .ok (.invokevirtual 261, 3) := by decide +kernel
theorem dX4_bestCrush_7 : decode cX4_bestCrush 7 = .ok (.ireturn, 1) := by decide +kernel
theorem dX4_bestSlant_0 : decode cX4_bestSlant 0 = .ok (.iconst 0, 1) := by decide +kernel
theorem dX4_bestSlant_1 : decode cX4_bestSlant 1 = .ok (.istore_n 1, 1) := by decide +kernel
theorem dX4_bestSlant_2 : decode cX4_bestSlant 2 = .ok (.sipush 241, 3) := by decide +kernel
theorem dX4_bestSlant_5 : decode cX4_bestSlant 5 = .ok (.istore_n 2, 1) := by decide +kernel
theorem dX4_bestSlant_6 : decode cX4_bestSlant 6 = .ok (.iconst 0, 1) := by decide +kernel
theorem dX4_bestSlant_7 : decode cX4_bestSlant 7 = .ok (.istore_n 3, 1) := by decide +kernel
theorem dX4_bestSlant_8 : decode cX4_bestSlant 8 = .ok (.iload_n 3, 1) := by decide +kernel
theorem dX4_bestSlant_9 : decode cX4_bestSlant 9 = .ok (.getstatic 115, 3) := by decide +kernel
theorem dX4_bestSlant_12 : decode cX4_bestSlant 12 = .ok (.iconst 1, 1) := by decide +kernel
theorem dX4_bestSlant_13 : decode cX4_bestSlant 13 = .ok (.invokestatic 111, 3) := by decide +kernel
theorem dX4_bestSlant_16 : decode cX4_bestSlant 16 = .ok (.if_icmp .gt 37, 3) := by decide +kernel
theorem dX4_bestSlant_19 : decode cX4_bestSlant 19 = .ok (.aload_n 0, 1) := by decide +kernel
theorem dX4_bestSlant_20 : decode cX4_bestSlant 20 = .ok (.getfield 10, 3) := by decide +kernel
theorem dX4_bestSlant_23 : decode cX4_bestSlant 23 = .ok (.aload_n 0, 1) := by decide +kernel
theorem dX4_bestSlant_24 : decode cX4_bestSlant 24 = .ok (.getfield 10, 3) := by decide +kernel
theorem dX4_bestSlant_27 : decode cX4_bestSlant 27 = .ok (.getfield 65, 3) := by decide +kernel
theorem dX4_bestSlant_30 : decode cX4_bestSlant 30 = .ok (.iload_n 3, 1) := by decide +kernel
theorem dX4_bestSlant_31 : decode cX4_bestSlant 31 = .ok (.invokevirtual 264, 3) := by decide +kernel
theorem dX4_bestSlant_34 : decode cX4_bestSlant 34 = .ok (.istore 4, 2) := by decide +kernel
theorem dX4_bestSlant_36 : decode cX4_bestSlant 36 = .ok (.iload 4, 2) := by decide +kernel
theorem dX4_bestSlant_38 : decode cX4_bestSlant 38 = .ok (.iload_n 2, 1) := by decide +kernel
theorem dX4_bestSlant_39 : decode cX4_bestSlant 39 = .ok (.if_icmp .ge 8, 3) := by decide +kernel
theorem dX4_bestSlant_42 : decode cX4_bestSlant 42 = .ok (.iload 4, 2) := by decide +kernel
theorem dX4_bestSlant_44 : decode cX4_bestSlant 44 = .ok (.istore_n 2, 1) := by decide +kernel
theorem dX4_bestSlant_45 : decode cX4_bestSlant 45 = .ok (.iload_n 3, 1) := by decide +kernel
theorem dX4_bestSlant_46 : decode cX4_bestSlant 46 = .ok (.istore_n 1, 1) := by decide +kernel
theorem dX4_bestSlant_47 : decode cX4_bestSlant 47 = .ok (.iinc 3 1, 3) := by decide +kernel
theorem dX4_bestSlant_50 : decode cX4_bestSlant 50 = .ok (.goto (-42), 3) := by decide +kernel
theorem dX4_bestSlant_53 : decode cX4_bestSlant 53 = .ok (.iload_n 1, 1) := by decide +kernel
theorem dX4_bestSlant_54 : decode cX4_bestSlant 54 = .ok (.ireturn, 1) := by decide +kernel
theorem dX4_bestTurn_0 : decode cX4_bestTurn 0 = .ok (.aload_n 0, 1) := by decide +kernel
theorem dX4_bestTurn_1 : decode cX4_bestTurn 1 = .ok (.getfield 10, 3) := by decide +kernel
theorem dX4_bestTurn_4 : decode cX4_bestTurn 4 = .ok (.getfield 120, 3) := by decide +kernel
theorem dX4_bestTurn_7 : decode cX4_bestTurn 7 = .ok (.iconst 1, 1) := by decide +kernel
theorem dX4_bestTurn_8 : decode cX4_bestTurn 8 = .ok (.invokestatic 111, 3) := by decide +kernel
theorem dX4_bestTurn_11 : decode cX4_bestTurn 11 = .ok (.istore_n 1, 1) := by decide +kernel
theorem dX4_bestTurn_12 : decode cX4_bestTurn 12 = .ok (.iconst (-1), 1) := by decide +kernel
theorem dX4_bestTurn_13 : decode cX4_bestTurn 13 = .ok (.istore_n 2, 1) := by decide +kernel
theorem dX4_bestTurn_14 : decode cX4_bestTurn 14 = .ok (.aload_n 0, 1) := by decide +kernel
theorem dX4_bestTurn_15 : decode cX4_bestTurn 15 = .ok (.getfield 10, 3) := by decide +kernel
theorem dX4_bestTurn_18 : decode cX4_bestTurn 18 = .ok (.aload_n 0, 1) := by decide +kernel
theorem dX4_bestTurn_19 : decode cX4_bestTurn 19 = .ok (.getfield 10, 3) := by decide +kernel
theorem dX4_bestTurn_22 : decode cX4_bestTurn 22 = .ok (.getfield 65, 3) := by decide +kernel
theorem dX4_bestTurn_25 : decode cX4_bestTurn 25 = .ok (.iload_n 1, 1) := by decide +kernel
theorem dX4_bestTurn_26 : decode cX4_bestTurn 26 = .ok (.invokevirtual 264, 3) := by decide +kernel
theorem dX4_bestTurn_29 : decode cX4_bestTurn 29 = .ok (.istore_n 3, 1) := by decide +kernel
theorem dX4_bestTurn_30 : decode cX4_bestTurn 30 = .ok (.iconst 0, 1) := by decide +kernel
theorem dX4_bestTurn_31 : decode cX4_bestTurn 31 = .ok (.istore 4, 2) := by decide +kernel
theorem dX4_bestTurn_33 : decode cX4_bestTurn 33 = .ok (.iload 4, 2) := by decide +kernel
theorem dX4_bestTurn_35 : decode cX4_bestTurn 35 = .ok (.iconst 5, 1) := by decide +kernel
theorem dX4_bestTurn_36 : decode cX4_bestTurn 36 = .ok (.if_icmp .ge 66, 3) := by decide +kernel
theorem dX4_bestTurn_39 : decode cX4_bestTurn 39 = .ok (.aload_n 0, 1) := by decide +kernel
theorem dX4_bestTurn_40 : decode cX4_bestTurn 40 = .ok (.getfield 10, 3) := by decide +kernel
theorem dX4_bestTurn_43 : decode cX4_bestTurn 43 = .ok (.getfield 65, 3) := by decide +kernel
theorem dX4_bestTurn_46 : decode cX4_bestTurn 46 = .ok (.iload 4, 2) := by decide +kernel
theorem dX4_bestTurn_48 : decode cX4_bestTurn 48 = .ok (.invokevirtual 81, 3) := by decide +kernel
theorem dX4_bestTurn_51 : decode cX4_bestTurn 51 = .ok (.ifCond .eq 45, 3) := by decide +kernel
theorem dX4_bestTurn_54 : decode cX4_bestTurn 54 = .ok (.aload_n 0, 1) := by decide +kernel
theorem dX4_bestTurn_55 : decode cX4_bestTurn 55 = .ok (.getfield 10, 3) := by decide +kernel
theorem dX4_bestTurn_58 : decode cX4_bestTurn 58 = .ok (.getfield 65, 3) := by decide +kernel
theorem dX4_bestTurn_61 : decode cX4_bestTurn 61 = .ok (.aload_n 0, 1) := by decide +kernel
theorem dX4_bestTurn_62 : decode cX4_bestTurn 62 = .ok (.getfield 33, 3) := by decide +kernel
theorem dX4_bestTurn_65 : decode cX4_bestTurn 65 = .ok (.iload 4, 2) := by decide +kernel
theorem dX4_bestTurn_67 : decode cX4_bestTurn 67 = .ok (.invokevirtual 87, 3) := by decide +kernel
theorem dX4_bestTurn_70 : decode cX4_bestTurn 70 = .ok (.aload_n 0, 1) := by decide +kernel
theorem dX4_bestTurn_71 : decode cX4_bestTurn 71 = .ok (.getfield 10, 3) := by decide +kernel
theorem dX4_bestTurn_74 : decode cX4_bestTurn 74 = .ok (.aload_n 0, 1) := by decide +kernel
theorem dX4_bestTurn_75 : decode cX4_bestTurn 75 = .ok (.getfield 33, 3) := by decide +kernel
theorem dX4_bestTurn_78 : decode cX4_bestTurn 78 = .ok (.iload_n 1, 1) := by decide +kernel
theorem dX4_bestTurn_79 : decode cX4_bestTurn 79 = .ok (.invokevirtual 264, 3) := by decide +kernel
theorem dX4_bestTurn_82 : decode cX4_bestTurn 82 = .ok (.istore 5, 2) := by decide +kernel
theorem dX4_bestTurn_84 : decode cX4_bestTurn 84 = .ok (.iload 5, 2) := by decide +kernel
theorem dX4_bestTurn_86 : decode cX4_bestTurn 86 = .ok (.iload_n 3, 1) := by decide +kernel
theorem dX4_bestTurn_87 : decode cX4_bestTurn 87 = .ok (.if_icmp .ge 9, 3) := by decide +kernel
theorem dX4_bestTurn_90 : decode cX4_bestTurn 90 = .ok (.iload 5, 2) := by decide +kernel
theorem dX4_bestTurn_92 : decode cX4_bestTurn 92 = .ok (.istore_n 3, 1) := by decide +kernel
theorem dX4_bestTurn_93 : decode cX4_bestTurn 93 = .ok (.iload 4, 2) := by decide +kernel
theorem dX4_bestTurn_95 : decode cX4_bestTurn 95 = .ok (.istore_n 2, 1) := by decide +kernel
theorem dX4_bestTurn_96 : decode cX4_bestTurn 96 = .ok (.iinc 4 1, 3) := by decide +kernel
theorem dX4_bestTurn_99 : decode cX4_bestTurn 99 = .ok (.goto (-66), 3) := by decide +kernel
theorem dX4_bestTurn_102 : decode cX4_bestTurn 102 = .ok (.iload_n 2, 1) := by decide +kernel
theorem dX4_bestTurn_103 : decode cX4_bestTurn 103 = .ok (.ireturn, 1) := by decide +kernel
theorem dX4_wrongShare_0 : decode cX4_wrongShare 0 = .ok (.aload_n 0, 1) := by decide +kernel
theorem dX4_wrongShare_1 : decode cX4_wrongShare 1 = .ok (.getfield 10, 3) := by decide +kernel
theorem dX4_wrongShare_4 : decode cX4_wrongShare 4 = .ok (.getfield 149, 3) := by decide +kernel
theorem dX4_wrongShare_7 : decode cX4_wrongShare 7 = .ok (.iconst 1, 1) := by decide +kernel
theorem dX4_wrongShare_8 : decode cX4_wrongShare 8 = .ok (.if_icmp .ge 5, 3) := by decide +kernel
theorem dX4_wrongShare_11 : decode cX4_wrongShare 11 = .ok (.dconst 0, 1) := by decide +kernel
theorem dX4_wrongShare_12 : decode cX4_wrongShare 12 = .ok (.dreturn, 1) := by decide +kernel
theorem dX4_wrongShare_13 : decode cX4_wrongShare 13 = .ok (.aload_n 0, 1) := by decide +kernel
theorem dX4_wrongShare_14 : decode cX4_wrongShare 14 = .ok (.getfield 10, 3) := by decide +kernel
theorem dX4_wrongShare_17 : decode cX4_wrongShare 17 = .ok (.iconst 0, 1) := by decide +kernel
theorem dX4_wrongShare_18 : decode cX4_wrongShare 18 = .ok (.aload_n 0, 1) := by decide +kernel
theorem dX4_wrongShare_19 : decode cX4_wrongShare 19 = .ok (.getfield 10, 3) := by decide +kernel
theorem dX4_wrongShare_22 : decode cX4_wrongShare 22 = .ok (.getfield 149, 3) := by decide +kernel
theorem dX4_wrongShare_25 : decode cX4_wrongShare 25 = .ok (.invokevirtual 268, 3) := by decide +kernel
theorem dX4_wrongShare_28 : decode cX4_wrongShare 28 = .ok (.i2d, 1) := by decide +kernel
theorem dX4_wrongShare_29 : decode cX4_wrongShare 29 = .ok (.aload_n 0, 1) := by decide +kernel
theorem dX4_wrongShare_30 : decode cX4_wrongShare 30 = .ok (.getfield 10, 3) := by decide +kernel
theorem dX4_wrongShare_33 : decode cX4_wrongShare 33 = .ok (.getfield 149, 3) := by decide +kernel
theorem dX4_wrongShare_36 : decode cX4_wrongShare 36 = .ok (.i2d, 1) := by decide +kernel
theorem dX4_wrongShare_37 : decode cX4_wrongShare 37 = .ok (.ddiv, 1) := by decide +kernel
theorem dX4_wrongShare_38 : decode cX4_wrongShare 38 = .ok (.dreturn, 1) := by decide +kernel
theorem dX4_digest_0 : decode cX4_digest 0 = .ok (.ldc2_w 271, 3) := by decide +kernel
theorem dX4_digest_3 : decode cX4_digest 3 = .ok (.lstore_n 1, 1) := by decide +kernel
theorem dX4_digest_4 : decode cX4_digest 4 = .ok (.iconst 0, 1) := by decide +kernel
theorem dX4_digest_5 : decode cX4_digest 5 = .ok (.istore_n 3, 1) := by decide +kernel
theorem dX4_digest_6 : decode cX4_digest 6 = .ok (.iload_n 3, 1) := by decide +kernel
theorem dX4_digest_7 : decode cX4_digest 7 = .ok (.bipush 13, 2) := by decide +kernel
theorem dX4_digest_9 : decode cX4_digest 9 = .ok (.if_icmp .ge 20, 3) := by decide +kernel
theorem dX4_digest_12 : decode cX4_digest 12 = .ok (.lload_n 1, 1) := by decide +kernel
theorem dX4_digest_13 : decode cX4_digest 13 = .ok (.aload_n 0, 1) := by decide +kernel
theorem dX4_digest_14 : decode cX4_digest 14 = .ok (.iload_n 3, 1) := by decide +kernel
theorem dX4_digest_15 : decode cX4_digest 15 = .ok (.invokevirtual 241, 3) := by decide +kernel
theorem dX4_digest_18 : decode cX4_digest 18 = .ok (.i2l, 1) := by decide +kernel
theorem dX4_digest_19 : decode cX4_digest 19 = .ok (.invokestatic 273, 3) := by decide +kernel
theorem dX4_digest_22 : decode cX4_digest 22 = .ok (.lstore_n 1, 1) := by decide +kernel
theorem dX4_digest_23 : decode cX4_digest 23 = .ok (.iinc 3 1, 3) := by decide +kernel
theorem dX4_digest_26 : decode cX4_digest 26 = .ok (.goto (-20), 3) := by decide +kernel
theorem dX4_digest_29 : decode cX4_digest 29 = .ok (.iconst 0, 1) := by decide +kernel
theorem dX4_digest_30 : decode cX4_digest 30 = .ok (.istore_n 3, 1) := by decide +kernel
theorem dX4_digest_31 : decode cX4_digest 31 = .ok (.iload_n 3, 1) := by decide +kernel
theorem dX4_digest_32 : decode cX4_digest 32 = .ok (.iconst 4, 1) := by decide +kernel
theorem dX4_digest_33 : decode cX4_digest 33 = .ok (.if_icmp .ge 26, 3) := by decide +kernel
theorem dX4_digest_36 : decode cX4_digest 36 = .ok (.lload_n 1, 1) := by decide +kernel
theorem dX4_digest_37 : decode cX4_digest 37 = .ok (.aload_n 0, 1) := by decide +kernel
theorem dX4_digest_38 : decode cX4_digest 38 = .ok (.getfield 10, 3) := by decide +kernel
theorem dX4_digest_41 : decode cX4_digest 41 = .ok (.getfield 120, 3) := by decide +kernel
theorem dX4_digest_44 : decode cX4_digest 44 = .ok (.iload_n 3, 1) := by decide +kernel
theorem dX4_digest_45 : decode cX4_digest 45 = .ok (.invokestatic 111, 3) := by decide +kernel
theorem dX4_digest_48 : decode cX4_digest 48 = .ok (.i2l, 1) := by decide +kernel
theorem dX4_digest_49 : decode cX4_digest 49 = .ok (.invokestatic 273, 3) := by decide +kernel
theorem dX4_digest_52 : decode cX4_digest 52 = .ok (.lstore_n 1, 1) := by decide +kernel
theorem dX4_digest_53 : decode cX4_digest 53 = .ok (.iinc 3 1, 3) := by decide +kernel
theorem dX4_digest_56 : decode cX4_digest 56 = .ok (.goto (-25), 3) := by decide +kernel
theorem dX4_digest_59 : decode cX4_digest 59 = .ok (.aload_n 0, 1) := by decide +kernel
theorem dX4_digest_60 : decode cX4_digest 60 = .ok (.lload_n 1, 1) := by decide +kernel
theorem dX4_digest_61 : decode cX4_digest 61 = .ok (.invokevirtual 277, 3) := by decide +kernel
theorem dX4_digest_64 : decode cX4_digest 64 = .ok (.lstore_n 1, 1) := by decide +kernel
theorem dX4_digest_65 : decode cX4_digest 65 = .ok (.aload_n 0, 1) := by decide +kernel
theorem dX4_digest_66 : decode cX4_digest 66 = .ok (.lload_n 1, 1) := by decide +kernel
theorem dX4_digest_67 : decode cX4_digest 67 = .ok (.invokevirtual 281, 3) := by decide +kernel
theorem dX4_digest_70 : decode cX4_digest 70 = .ok (.lstore_n 1, 1) := by decide +kernel
theorem dX4_digest_71 : decode cX4_digest 71 = .ok (.aload_n 0, 1) := by decide +kernel
theorem dX4_digest_72 : decode cX4_digest 72 = .ok (.lload_n 1, 1) := by decide +kernel
theorem dX4_digest_73 : decode cX4_digest 73 = .ok (.invokevirtual 284, 3) := by decide +kernel
theorem dX4_digest_76 : decode cX4_digest 76 = .ok (.lstore_n 1, 1) := by decide +kernel
theorem dX4_digest_77 : decode cX4_digest 77 = .ok (.aload_n 0, 1) := by decide +kernel
theorem dX4_digest_78 : decode cX4_digest 78 = .ok (.lload_n 1, 1) := by decide +kernel
theorem dX4_digest_79 : decode cX4_digest 79 = .ok (.invokevirtual 287, 3) := by decide +kernel
theorem dX4_digest_82 : decode cX4_digest 82 = .ok (.lstore_n 1, 1) := by decide +kernel
theorem dX4_digest_83 : decode cX4_digest 83 = .ok (.aload_n 0, 1) := by decide +kernel
theorem dX4_digest_84 : decode cX4_digest 84 = .ok (.lload_n 1, 1) := by decide +kernel
theorem dX4_digest_85 : decode cX4_digest 85 = .ok (.invokevirtual 290, 3) := by decide +kernel
theorem dX4_digest_88 : decode cX4_digest 88 = .ok (.lstore_n 1, 1) := by decide +kernel
theorem dX4_digest_89 : decode cX4_digest 89 = .ok (.lload_n 1, 1) := by decide +kernel
theorem dX4_digest_90 : decode cX4_digest 90 = .ok (.aload_n 0, 1) := by decide +kernel
theorem dX4_digest_91 : decode cX4_digest 91 = .ok (.invokevirtual 293, 3) := by decide +kernel
theorem dX4_digest_94 : decode cX4_digest 94 = .ok (.i2l, 1) := by decide +kernel
theorem dX4_digest_95 : decode cX4_digest 95 = .ok (.invokestatic 273, 3) := by decide +kernel
theorem dX4_digest_98 : decode cX4_digest 98 = .ok (.lstore_n 1, 1) := by decide +kernel
theorem dX4_digest_99 : decode cX4_digest 99 = .ok (.lload_n 1, 1) := by decide +kernel
theorem dX4_digest_100 : decode cX4_digest 100 = .ok (.aload_n 0, 1) := by decide +kernel
theorem dX4_digest_101 : decode cX4_digest 101 = .ok (.invokevirtual 296, 3) := by decide +kernel
theorem dX4_digest_104 : decode cX4_digest 104 = .ok (.i2l, 1) := by decide +kernel
theorem dX4_digest_105 : decode cX4_digest 105 = .ok (.invokestatic 273, 3) := by decide +kernel
theorem dX4_digest_108 : decode cX4_digest 108 = .ok (.lstore_n 1, 1) := by decide +kernel
theorem dX4_digest_109 : decode cX4_digest 109 = .ok (.lload_n 1, 1) := by decide +kernel
theorem dX4_digest_110 : decode cX4_digest 110 = .ok (.aload_n 0, 1) := by decide +kernel
theorem dX4_digest_111 : decode cX4_digest 111 = .ok (.invokevirtual 299, 3) := by decide +kernel
theorem dX4_digest_114 : decode cX4_digest 114 = .ok (.i2l, 1) := by decide +kernel
theorem dX4_digest_115 : decode cX4_digest 115 = .ok (.invokestatic 273, 3) := by decide +kernel
theorem dX4_digest_118 : decode cX4_digest 118 = .ok (.lstore_n 1, 1) := by decide +kernel
theorem dX4_digest_119 : decode cX4_digest 119 = .ok (.lload_n 1, 1) := by decide +kernel
theorem dX4_digest_120 : decode cX4_digest 120 = .ok (.aload_n 0, 1) := by decide +kernel
theorem dX4_digest_121 : decode cX4_digest 121 = .ok (.invokevirtual 302, 3) := by decide +kernel
theorem dX4_digest_124 : decode cX4_digest 124 = .ok (.i2l, 1) := by decide +kernel
theorem dX4_digest_125 : decode cX4_digest 125 = .ok (.invokestatic 273, 3) := by decide +kernel
theorem dX4_digest_128 : decode cX4_digest 128 = .ok (.lstore_n 1, 1) := by decide +kernel
theorem dX4_digest_129 : decode cX4_digest 129 = .ok (.lload_n 1, 1) := by decide +kernel
theorem dX4_digest_130 : decode cX4_digest 130 = .ok (.aload_n 0, 1) := by decide +kernel
theorem dX4_digest_131 : decode cX4_digest 131 = .ok (.invokevirtual 305, 3) := by decide +kernel
theorem dX4_digest_134 : decode cX4_digest 134 = .ok (.invokestatic 309, 3) := by decide +kernel
theorem dX4_digest_137 : decode cX4_digest 137 = .ok (.invokestatic 273, 3) := by decide +kernel
theorem dX4_digest_140 : decode cX4_digest 140 = .ok (.lstore_n 1, 1) := by decide +kernel
theorem dX4_digest_141 : decode cX4_digest 141 = .ok (.aload_n 0, 1) := by decide +kernel
theorem dX4_digest_142 : decode cX4_digest 142 = .ok (.lload_n 1, 1) := by decide +kernel
theorem dX4_digest_143 : decode cX4_digest 143 = .ok (.invokevirtual 313, 3) := by decide +kernel
theorem dX4_digest_146 : decode cX4_digest 146 = .ok (.lreturn, 1) := by decide +kernel
theorem dX4_stringFresh_0 : decode cX4_stringFresh 0 = .ok (.aload_n 0, 1) := by decide +kernel
theorem dX4_stringFresh_1 : decode cX4_stringFresh 1 = .ok (.getfield 10, 3) := by decide +kernel
theorem dX4_stringFresh_4 : decode cX4_stringFresh 4 = .ok (.aload_n 0, 1) := by decide +kernel
theorem dX4_stringFresh_5 : decode cX4_stringFresh 5 = .ok (.getfield 37, 3) := by decide +kernel
theorem dX4_stringFresh_8 : decode cX4_stringFresh 8 = .ok (.iload_n 1, 1) := by decide +kernel
theorem dX4_stringFresh_9 : decode cX4_stringFresh 9 = .ok (.invokevirtual 316, 3) := by decide +kernel
theorem dX4_stringFresh_12 : decode cX4_stringFresh 12 = .ok (.ifCond .ne 14, 3) := by decide +kernel
theorem dX4_stringFresh_15 : decode cX4_stringFresh 15 = .ok (.new 56, 3) := by decide +kernel
theorem dX4_stringFresh_18 : decode cX4_stringFresh 18 = .ok (.dup, 1) := by decide +kernel
theorem dX4_stringFresh_19 : decode cX4_stringFresh 19 = .ok (.ldc_w 320, 3) := by decide +kernel
theorem dX4_stringFresh_22 : decode cX4_stringFresh 22 = .ok (.invokespecial 60, 3) := by decide +kernel
theorem dX4_stringFresh_25 : decode cX4_stringFresh 25 = .ok (.athrow, 1) := by decide +kernel
theorem dX4_stringFresh_26 : decode cX4_stringFresh 26 = .ok (.aload_n 0, 1) := by decide +kernel
theorem dX4_stringFresh_27 : decode cX4_stringFresh 27 = .ok (.getfield 19, 3) := by decide +kernel
theorem dX4_stringFresh_30 : decode cX4_stringFresh 30 = .ok (.aload_n 0, 1) := by decide +kernel
theorem dX4_stringFresh_31 : decode cX4_stringFresh 31 = .ok (.getfield 10, 3) := by decide +kernel
theorem dX4_stringFresh_34 : decode cX4_stringFresh 34 = .ok (.invokevirtual 61, 3) := by decide +kernel
theorem dX4_stringFresh_37 : decode cX4_stringFresh 37 = .ok (.aload_n 0, 1) := by decide +kernel
theorem dX4_stringFresh_38 : decode cX4_stringFresh 38 = .ok (.getfield 10, 3) := by decide +kernel
theorem dX4_stringFresh_41 : decode cX4_stringFresh 41 = .ok (.aload_n 0, 1) := by decide +kernel
theorem dX4_stringFresh_42 : decode cX4_stringFresh 42 = .ok (.getfield 37, 3) := by decide +kernel
theorem dX4_stringFresh_45 : decode cX4_stringFresh 45 = .ok (.iload_n 1, 1) := by decide +kernel
theorem dX4_stringFresh_46 : decode cX4_stringFresh 46 = .ok (.invokevirtual 322, 3) := by decide +kernel
theorem dX4_stringFresh_49 : decode cX4_stringFresh 49 = .ok (.aload_n 0, 1) := by decide +kernel
theorem dX4_stringFresh_50 : decode cX4_stringFresh 50 = .ok (.getfield 10, 3) := by decide +kernel
theorem dX4_stringFresh_53 : decode cX4_stringFresh 53 = .ok (.getfield 149, 3) := by decide +kernel
theorem dX4_stringFresh_56 : decode cX4_stringFresh 56 = .ok (.ireturn, 1) := by decide +kernel
theorem dX4_numberOf_0 : decode cX4_numberOf 0 = .ok (.iload_n 1, 1) := by decide +kernel
theorem dX4_numberOf_1 : decode cX4_numberOf 1 = .ok (.tableswitch 189 0 11 #[63, 74, 85, 93, 101, 117, 125, 136, 147, 158, 166, 177], 63) := by decide +kernel
theorem dX4_numberOf_64 : decode cX4_numberOf 64 = .ok (.aload_n 0, 1) := by decide +kernel
theorem dX4_numberOf_65 : decode cX4_numberOf 65 = .ok (.getfield 10, 3) := by decide +kernel
theorem dX4_numberOf_68 : decode cX4_numberOf 68 = .ok (.getfield 65, 3) := by decide +kernel
theorem dX4_numberOf_71 : decode cX4_numberOf 71 = .ok (.getfield 75, 3) := by decide +kernel
theorem dX4_numberOf_74 : decode cX4_numberOf 74 = .ok (.ireturn, 1) := by decide +kernel
theorem dX4_numberOf_75 : decode cX4_numberOf 75 = .ok (.aload_n 0, 1) := by decide +kernel
theorem dX4_numberOf_76 : decode cX4_numberOf 76 = .ok (.getfield 10, 3) := by decide +kernel
theorem dX4_numberOf_79 : decode cX4_numberOf 79 = .ok (.getfield 65, 3) := by decide +kernel
theorem dX4_numberOf_82 : decode cX4_numberOf 82 = .ok (.getfield 211, 3) := by decide +kernel
theorem dX4_numberOf_85 : decode cX4_numberOf 85 = .ok (.ireturn, 1) := by decide +kernel
theorem dX4_numberOf_86 : decode cX4_numberOf 86 = .ok (.aload_n 0, 1) := by decide +kernel
theorem dX4_numberOf_87 : decode cX4_numberOf 87 = .ok (.getfield 10, 3) := by decide +kernel
theorem dX4_numberOf_90 : decode cX4_numberOf 90 = .ok (.getfield 149, 3) := by decide +kernel
theorem dX4_numberOf_93 : decode cX4_numberOf 93 = .ok (.ireturn, 1) := by decide +kernel
theorem dX4_numberOf_94 : decode cX4_numberOf 94 = .ok (.aload_n 0, 1) := by decide +kernel
theorem dX4_numberOf_95 : decode cX4_numberOf 95 = .ok (.getfield 10, 3) := by decide +kernel
theorem dX4_numberOf_98 : decode cX4_numberOf 98 = .ok (.getfield 161, 3) := by decide +kernel
theorem dX4_numberOf_101 : decode cX4_numberOf 101 = .ok (.ireturn, 1) := by decide +kernel
theorem dX4_numberOf_102 : decode cX4_numberOf 102 = .ok (.aload_n 0, 1) := by decide +kernel
theorem dX4_numberOf_103 : decode cX4_numberOf 103 = .ok (.getfield 10, 3) := by decide +kernel
theorem dX4_numberOf_106 : decode cX4_numberOf 106 = .ok (.iconst 0, 1) := by decide +kernel
theorem dX4_numberOf_107 : decode cX4_numberOf 107 = .ok (.aload_n 0, 1) := by decide +kernel
theorem dX4_numberOf_108 : decode cX4_numberOf 108 = .ok (.getfield 10, 3) := by decide +kernel
theorem dX4_numberOf_111 : decode cX4_numberOf 111 = .ok (.getfield 149, 3) := by decide +kernel
theorem dX4_numberOf_114 : decode cX4_numberOf 114 = .ok (.invokevirtual 268, 3) := by decide +kernel
theorem dX4_numberOf_117 : decode cX4_numberOf 117 = .ok (.ireturn, 1) := by decide +kernel
theorem dX4_numberOf_118 : decode cX4_numberOf 118 = .ok (.aload_n 0, 1) := by decide +kernel
theorem dX4_numberOf_119 : decode cX4_numberOf 119 = .ok (.getfield 10, 3) := by decide +kernel
theorem dX4_numberOf_122 : decode cX4_numberOf 122 = .ok (.invokevirtual 326, 3) := by decide +kernel
theorem dX4_numberOf_125 : decode cX4_numberOf 125 = .ok (.ireturn, 1) := by decide +kernel
theorem dX4_numberOf_126 : decode cX4_numberOf 126 = .ok (.aload_n 0, 1) := by decide +kernel
theorem dX4_numberOf_127 : decode cX4_numberOf 127 = .ok (.getfield 10, 3) := by decide +kernel
theorem dX4_numberOf_130 : decode cX4_numberOf 130 = .ok (.getfield 137, 3) := by decide +kernel
theorem dX4_numberOf_133 : decode cX4_numberOf 133 = .ok (.invokestatic 329, 3) := by decide +kernel
theorem dX4_numberOf_136 : decode cX4_numberOf 136 = .ok (.ireturn, 1) := by decide +kernel
theorem dX4_numberOf_137 : decode cX4_numberOf 137 = .ok (.aload_n 0, 1) := by decide +kernel
theorem dX4_numberOf_138 : decode cX4_numberOf 138 = .ok (.getfield 10, 3) := by decide +kernel
theorem dX4_numberOf_141 : decode cX4_numberOf 141 = .ok (.getfield 129, 3) := by decide +kernel
theorem dX4_numberOf_144 : decode cX4_numberOf 144 = .ok (.invokestatic 329, 3) := by decide +kernel
theorem dX4_numberOf_147 : decode cX4_numberOf 147 = .ok (.ireturn, 1) := by decide +kernel
theorem dX4_numberOf_148 : decode cX4_numberOf 148 = .ok (.aload_n 0, 1) := by decide +kernel
theorem dX4_numberOf_149 : decode cX4_numberOf 149 = .ok (.getfield 10, 3) := by decide +kernel
theorem dX4_numberOf_152 : decode cX4_numberOf 152 = .ok (.getfield 332, 3) := by decide +kernel
theorem dX4_numberOf_155 : decode cX4_numberOf 155 = .ok (.invokestatic 329, 3) := by decide +kernel
theorem dX4_numberOf_158 : decode cX4_numberOf 158 = .ok (.ireturn, 1) := by decide +kernel
theorem dX4_numberOf_159 : decode cX4_numberOf 159 = .ok (.aload_n 0, 1) := by decide +kernel
theorem dX4_numberOf_160 : decode cX4_numberOf 160 = .ok (.getfield 10, 3) := by decide +kernel
theorem dX4_numberOf_163 : decode cX4_numberOf 163 = .ok (.getfield 335, 3) := by decide +kernel
theorem dX4_numberOf_166 : decode cX4_numberOf 166 = .ok (.ireturn, 1) := by decide +kernel
theorem dX4_numberOf_167 : decode cX4_numberOf 167 = .ok (.aload_n 0, 1) := by decide +kernel
theorem dX4_numberOf_168 : decode cX4_numberOf 168 = .ok (.getfield 10, 3) := by decide +kernel
theorem dX4_numberOf_171 : decode cX4_numberOf 171 = .ok (.getfield 65, 3) := by decide +kernel
theorem dX4_numberOf_174 : decode cX4_numberOf 174 = .ok (.invokevirtual 338, 3) := by decide +kernel
theorem dX4_numberOf_177 : decode cX4_numberOf 177 = .ok (.ireturn, 1) := by decide +kernel
theorem dX4_numberOf_178 : decode cX4_numberOf 178 = .ok (.iconst 0, 1) := by decide +kernel
theorem dX4_numberOf_179 : decode cX4_numberOf 179 = .ok (.aload_n 0, 1) := by decide +kernel
theorem dX4_numberOf_180 : decode cX4_numberOf 180 = .ok (.getfield 10, 3) := by decide +kernel
theorem dX4_numberOf_183 : decode cX4_numberOf 183 = .ok (.invokevirtual 341, 3) := by decide +kernel
theorem dX4_numberOf_186 : decode cX4_numberOf 186 = .ok (.invokestatic 344, 3) := by decide +kernel
theorem dX4_numberOf_189 : decode cX4_numberOf 189 = .ok (.ireturn, 1) := by decide +kernel
theorem dX4_numberOf_190 : decode cX4_numberOf 190 = .ok (.aload_n 0, 1) := by decide +kernel
theorem dX4_numberOf_191 : decode cX4_numberOf 191 = .ok (.getfield 19, 3) := by decide +kernel
theorem dX4_numberOf_194 : decode cX4_numberOf 194 = .ok (.getfield 203, 3) := by decide +kernel
theorem dX4_numberOf_197 : decode cX4_numberOf 197 = .ok (.ireturn, 1) := by decide +kernel
