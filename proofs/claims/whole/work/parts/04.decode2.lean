theorem dX5_strung_0 : decode cX5_strung 0 = .ok (.iconst 0, 1) := by decide +kernel
theorem dX5_strung_1 : decode cX5_strung 1 = .ok (.istore_n 3, 1) := by decide +kernel
theorem dX5_strung_2 : decode cX5_strung 2 = .ok (.iconst 0, 1) := by decide +kernel
theorem dX5_strung_3 : decode cX5_strung 3 = .ok (.istore 4, 2) := by decide +kernel
theorem dX5_strung_5 : decode cX5_strung 5 = .ok (.iload 4, 2) := by decide +kernel
theorem dX5_strung_7 : decode cX5_strung 7 = .ok (.aload_n 0, 1) := by decide +kernel
theorem dX5_strung_8 : decode cX5_strung 8 = .ok (.getfield 7, 3) := by decide +kernel
theorem dX5_strung_11 : decode cX5_strung 11 = .ok (.bipush 6, 2) := by decide +kernel
theorem dX5_strung_13 : decode cX5_strung 13 = .ok (.iaload, 1) := by decide +kernel
theorem dX5_strung_14 : decode cX5_strung 14 = .ok (.if_icmp .ge 45, 3) := by decide +kernel
theorem dX5_strung_17 : decode cX5_strung 17 = .ok (.iload_n 3, 1) := by decide +kernel
theorem dX5_strung_18 : decode cX5_strung 18 = .ok (.aload_n 0, 1) := by decide +kernel
theorem dX5_strung_19 : decode cX5_strung 19 = .ok (.getfield 7, 3) := by decide +kernel
theorem dX5_strung_22 : decode cX5_strung 22 = .ok (.sipush 147, 3) := by decide +kernel
theorem dX5_strung_25 : decode cX5_strung 25 = .ok (.iload 4, 2) := by decide +kernel
theorem dX5_strung_27 : decode cX5_strung 27 = .ok (.iadd, 1) := by decide +kernel
theorem dX5_strung_28 : decode cX5_strung 28 = .ok (.iaload, 1) := by decide +kernel
theorem dX5_strung_29 : decode cX5_strung 29 = .ok (.iload_n 1, 1) := by decide +kernel
theorem dX5_strung_30 : decode cX5_strung 30 = .ok (.if_icmp .ne 20, 3) := by decide +kernel
theorem dX5_strung_33 : decode cX5_strung 33 = .ok (.iload_n 2, 1) := by decide +kernel
theorem dX5_strung_34 : decode cX5_strung 34 = .ok (.ifCond .eq 12, 3) := by decide +kernel
theorem dX5_strung_37 : decode cX5_strung 37 = .ok (.aload_n 0, 1) := by decide +kernel
theorem dX5_strung_38 : decode cX5_strung 38 = .ok (.iload 4, 2) := by decide +kernel
theorem dX5_strung_40 : decode cX5_strung 40 = .ok (.invokevirtual 68, 3) := by decide +kernel
theorem dX5_strung_43 : decode cX5_strung 43 = .ok (.ifCond .eq 7, 3) := by decide +kernel
theorem dX5_strung_46 : decode cX5_strung 46 = .ok (.iconst 1, 1) := by decide +kernel
theorem dX5_strung_47 : decode cX5_strung 47 = .ok (.goto 4, 3) := by decide +kernel
theorem dX5_strung_50 : decode cX5_strung 50 = .ok (.iconst 0, 1) := by decide +kernel
theorem dX5_strung_51 : decode cX5_strung 51 = .ok (.iadd, 1) := by decide +kernel
theorem dX5_strung_52 : decode cX5_strung 52 = .ok (.istore_n 3, 1) := by decide +kernel
theorem dX5_strung_53 : decode cX5_strung 53 = .ok (.iinc 4 1, 3) := by decide +kernel
theorem dX5_strung_56 : decode cX5_strung 56 = .ok (.goto (-51), 3) := by decide +kernel
theorem dX5_strung_59 : decode cX5_strung 59 = .ok (.iload_n 3, 1) := by decide +kernel
theorem dX5_strung_60 : decode cX5_strung 60 = .ok (.ireturn, 1) := by decide +kernel
theorem dX5_cellsOf_0 : decode cX5_cellsOf 0 = .ok (.iconst 0, 1) := by decide +kernel
theorem dX5_cellsOf_1 : decode cX5_cellsOf 1 = .ok (.istore_n 2, 1) := by decide +kernel
theorem dX5_cellsOf_2 : decode cX5_cellsOf 2 = .ok (.iconst 0, 1) := by decide +kernel
theorem dX5_cellsOf_3 : decode cX5_cellsOf 3 = .ok (.istore_n 3, 1) := by decide +kernel
theorem dX5_cellsOf_4 : decode cX5_cellsOf 4 = .ok (.iload_n 3, 1) := by decide +kernel
theorem dX5_cellsOf_5 : decode cX5_cellsOf 5 = .ok (.bipush 120, 2) := by decide +kernel
theorem dX5_cellsOf_7 : decode cX5_cellsOf 7 = .ok (.if_icmp .ge 45, 3) := by decide +kernel
theorem dX5_cellsOf_10 : decode cX5_cellsOf 10 = .ok (.iload_n 2, 1) := by decide +kernel
theorem dX5_cellsOf_11 : decode cX5_cellsOf 11 = .ok (.aload_n 0, 1) := by decide +kernel
theorem dX5_cellsOf_12 : decode cX5_cellsOf 12 = .ok (.iload_n 3, 1) := by decide +kernel
theorem dX5_cellsOf_13 : decode cX5_cellsOf 13 = .ok (.bipush 12, 2) := by decide +kernel
theorem dX5_cellsOf_15 : decode cX5_cellsOf 15 = .ok (.idiv, 1) := by decide +kernel
theorem dX5_cellsOf_16 : decode cX5_cellsOf 16 = .ok (.iload_n 3, 1) := by decide +kernel
theorem dX5_cellsOf_17 : decode cX5_cellsOf 17 = .ok (.bipush 12, 2) := by decide +kernel
theorem dX5_cellsOf_19 : decode cX5_cellsOf 19 = .ok (.irem, 1) := by decide +kernel
theorem dX5_cellsOf_20 : decode cX5_cellsOf 20 = .ok (.invokevirtual 111, 3) := by decide +kernel
theorem dX5_cellsOf_23 : decode cX5_cellsOf 23 = .ok (.ifCond .eq 20, 3) := by decide +kernel
theorem dX5_cellsOf_26 : decode cX5_cellsOf 26 = .ok (.aload_n 0, 1) := by decide +kernel
theorem dX5_cellsOf_27 : decode cX5_cellsOf 27 = .ok (.getfield 7, 3) := by decide +kernel
theorem dX5_cellsOf_30 : decode cX5_cellsOf 30 = .ok (.bipush 27, 2) := by decide +kernel
theorem dX5_cellsOf_32 : decode cX5_cellsOf 32 = .ok (.iload_n 3, 1) := by decide +kernel
theorem dX5_cellsOf_33 : decode cX5_cellsOf 33 = .ok (.iadd, 1) := by decide +kernel
theorem dX5_cellsOf_34 : decode cX5_cellsOf 34 = .ok (.iaload, 1) := by decide +kernel
theorem dX5_cellsOf_35 : decode cX5_cellsOf 35 = .ok (.iload_n 1, 1) := by decide +kernel
theorem dX5_cellsOf_36 : decode cX5_cellsOf 36 = .ok (.if_icmp .ne 7, 3) := by decide +kernel
theorem dX5_cellsOf_39 : decode cX5_cellsOf 39 = .ok (.iconst 1, 1) := by decide +kernel
theorem dX5_cellsOf_40 : decode cX5_cellsOf 40 = .ok (.goto 4, 3) := by decide +kernel
theorem dX5_cellsOf_43 : decode cX5_cellsOf 43 = .ok (.iconst 0, 1) := by decide +kernel
theorem dX5_cellsOf_44 : decode cX5_cellsOf 44 = .ok (.iadd, 1) := by decide +kernel
theorem dX5_cellsOf_45 : decode cX5_cellsOf 45 = .ok (.istore_n 2, 1) := by decide +kernel
theorem dX5_cellsOf_46 : decode cX5_cellsOf 46 = .ok (.iinc 3 1, 3) := by decide +kernel
theorem dX5_cellsOf_49 : decode cX5_cellsOf 49 = .ok (.goto (-45), 3) := by decide +kernel
theorem dX5_cellsOf_52 : decode cX5_cellsOf 52 = .ok (.iload_n 2, 1) := by decide +kernel
theorem dX5_cellsOf_53 : decode cX5_cellsOf 53 = .ok (.ireturn, 1) := by decide +kernel
theorem dX5_colourNow_0 : decode cX5_colourNow 0 = .ok (.iload_n 2, 1) := by decide +kernel
theorem dX5_colourNow_1 : decode cX5_colourNow 1 = .ok (.tableswitch 78 0 4 #[35, 45, 55, 62, 72], 35) := by decide +kernel
theorem dX5_colourNow_36 : decode cX5_colourNow 36 = .ok (.aload_n 0, 1) := by decide +kernel
theorem dX5_colourNow_37 : decode cX5_colourNow 37 = .ok (.getfield 7, 3) := by decide +kernel
theorem dX5_colourNow_40 : decode cX5_colourNow 40 = .ok (.bipush 9, 2) := by decide +kernel
theorem dX5_colourNow_42 : decode cX5_colourNow 42 = .ok (.iload_n 1, 1) := by decide +kernel
theorem dX5_colourNow_43 : decode cX5_colourNow 43 = .ok (.iadd, 1) := by decide +kernel
theorem dX5_colourNow_44 : decode cX5_colourNow 44 = .ok (.iaload, 1) := by decide +kernel
theorem dX5_colourNow_45 : decode cX5_colourNow 45 = .ok (.ireturn, 1) := by decide +kernel
theorem dX5_colourNow_46 : decode cX5_colourNow 46 = .ok (.aload_n 0, 1) := by decide +kernel
theorem dX5_colourNow_47 : decode cX5_colourNow 47 = .ok (.getfield 7, 3) := by decide +kernel
theorem dX5_colourNow_50 : decode cX5_colourNow 50 = .ok (.bipush 15, 2) := by decide +kernel
theorem dX5_colourNow_52 : decode cX5_colourNow 52 = .ok (.iload_n 1, 1) := by decide +kernel
theorem dX5_colourNow_53 : decode cX5_colourNow 53 = .ok (.iadd, 1) := by decide +kernel
theorem dX5_colourNow_54 : decode cX5_colourNow 54 = .ok (.iaload, 1) := by decide +kernel
theorem dX5_colourNow_55 : decode cX5_colourNow 55 = .ok (.ireturn, 1) := by decide +kernel
theorem dX5_colourNow_56 : decode cX5_colourNow 56 = .ok (.aload_n 0, 1) := by decide +kernel
theorem dX5_colourNow_57 : decode cX5_colourNow 57 = .ok (.iload_n 1, 1) := by decide +kernel
theorem dX5_colourNow_58 : decode cX5_colourNow 58 = .ok (.iconst 0, 1) := by decide +kernel
theorem dX5_colourNow_59 : decode cX5_colourNow 59 = .ok (.invokevirtual 178, 3) := by decide +kernel
theorem dX5_colourNow_62 : decode cX5_colourNow 62 = .ok (.ireturn, 1) := by decide +kernel
theorem dX5_colourNow_63 : decode cX5_colourNow 63 = .ok (.aload_n 0, 1) := by decide +kernel
theorem dX5_colourNow_64 : decode cX5_colourNow 64 = .ok (.getfield 7, 3) := by decide +kernel
theorem dX5_colourNow_67 : decode cX5_colourNow 67 = .ok (.bipush 21, 2) := by decide +kernel
theorem dX5_colourNow_69 : decode cX5_colourNow 69 = .ok (.iload_n 1, 1) := by decide +kernel
theorem dX5_colourNow_70 : decode cX5_colourNow 70 = .ok (.iadd, 1) := by decide +kernel
theorem dX5_colourNow_71 : decode cX5_colourNow 71 = .ok (.iaload, 1) := by decide +kernel
theorem dX5_colourNow_72 : decode cX5_colourNow 72 = .ok (.ireturn, 1) := by decide +kernel
theorem dX5_colourNow_73 : decode cX5_colourNow 73 = .ok (.aload_n 0, 1) := by decide +kernel
theorem dX5_colourNow_74 : decode cX5_colourNow 74 = .ok (.iload_n 1, 1) := by decide +kernel
theorem dX5_colourNow_75 : decode cX5_colourNow 75 = .ok (.invokevirtual 182, 3) := by decide +kernel
theorem dX5_colourNow_78 : decode cX5_colourNow 78 = .ok (.ireturn, 1) := by decide +kernel
theorem dX5_colourNow_79 : decode cX5_colourNow 79 = .ok (.aload_n 0, 1) := by decide +kernel
theorem dX5_colourNow_80 : decode cX5_colourNow 80 = .ok (.iload_n 1, 1) := by decide +kernel
theorem dX5_colourNow_81 : decode cX5_colourNow 81 = .ok (.iconst 1, 1) := by decide +kernel
theorem dX5_colourNow_82 : decode cX5_colourNow 82 = .ok (.invokevirtual 178, 3) := by decide +kernel
theorem dX5_colourNow_85 : decode cX5_colourNow 85 = .ok (.ireturn, 1) := by decide +kernel
theorem dX5_colour_0 : decode cX5_colour 0 = .ok (.aload_n 0, 1) := by decide +kernel
theorem dX5_colour_1 : decode cX5_colour 1 = .ok (.iload_n 1, 1) := by decide +kernel
theorem dX5_colour_2 : decode cX5_colour 2 = .ok (.invokestatic 108, 3) := by decide +kernel
theorem dX5_colour_5 : decode cX5_colour 5 = .ok (.ifCond .eq 16, 3) := by decide +kernel
theorem dX5_colour_8 : decode cX5_colour 8 = .ok (.iload_n 2, 1) := by decide +kernel
theorem dX5_colour_9 : decode cX5_colour 9 = .ok (.iconst 0, 1) := by decide +kernel
theorem dX5_colour_10 : decode cX5_colour 10 = .ok (.iconst 5, 1) := by decide +kernel
theorem dX5_colour_11 : decode cX5_colour 11 = .ok (.invokestatic 47, 3) := by decide +kernel
theorem dX5_colour_14 : decode cX5_colour 14 = .ok (.ifCond .eq 7, 3) := by decide +kernel
theorem dX5_colour_17 : decode cX5_colour 17 = .ok (.iconst 0, 1) := by decide +kernel
theorem dX5_colour_18 : decode cX5_colour 18 = .ok (.goto 4, 3) := by decide +kernel
theorem dX5_colour_21 : decode cX5_colour 21 = .ok (.iconst 1, 1) := by decide +kernel
theorem dX5_colour_22 : decode cX5_colour 22 = .ok (.putfield 40, 3) := by decide +kernel
theorem dX5_colour_25 : decode cX5_colour 25 = .ok (.aload_n 0, 1) := by decide +kernel
theorem dX5_colour_26 : decode cX5_colour 26 = .ok (.getfield 40, 3) := by decide +kernel
theorem dX5_colour_29 : decode cX5_colour 29 = .ok (.ifCond .le 7, 3) := by decide +kernel
theorem dX5_colour_32 : decode cX5_colour 32 = .ok (.iconst 0, 1) := by decide +kernel
theorem dX5_colour_33 : decode cX5_colour 33 = .ok (.goto 9, 3) := by decide +kernel
theorem dX5_colour_36 : decode cX5_colour 36 = .ok (.aload_n 0, 1) := by decide +kernel
theorem dX5_colour_37 : decode cX5_colour 37 = .ok (.iload_n 1, 1) := by decide +kernel
theorem dX5_colour_38 : decode cX5_colour 38 = .ok (.iload_n 2, 1) := by decide +kernel
theorem dX5_colour_39 : decode cX5_colour 39 = .ok (.invokevirtual 185, 3) := by decide +kernel
theorem dX5_colour_42 : decode cX5_colour 42 = .ok (.ireturn, 1) := by decide +kernel
theorem dX5_sumOf_0 : decode cX5_sumOf 0 = .ok (.iconst 0, 1) := by decide +kernel
theorem dX5_sumOf_1 : decode cX5_sumOf 1 = .ok (.istore_n 2, 1) := by decide +kernel
theorem dX5_sumOf_2 : decode cX5_sumOf 2 = .ok (.iconst 0, 1) := by decide +kernel
theorem dX5_sumOf_3 : decode cX5_sumOf 3 = .ok (.istore_n 3, 1) := by decide +kernel
theorem dX5_sumOf_4 : decode cX5_sumOf 4 = .ok (.iload_n 3, 1) := by decide +kernel
theorem dX5_sumOf_5 : decode cX5_sumOf 5 = .ok (.bipush 6, 2) := by decide +kernel
theorem dX5_sumOf_7 : decode cX5_sumOf 7 = .ok (.if_icmp .ge 20, 3) := by decide +kernel
theorem dX5_sumOf_10 : decode cX5_sumOf 10 = .ok (.iload_n 2, 1) := by decide +kernel
theorem dX5_sumOf_11 : decode cX5_sumOf 11 = .ok (.aload_n 0, 1) := by decide +kernel
theorem dX5_sumOf_12 : decode cX5_sumOf 12 = .ok (.getfield 7, 3) := by decide +kernel
theorem dX5_sumOf_15 : decode cX5_sumOf 15 = .ok (.iload_n 1, 1) := by decide +kernel
theorem dX5_sumOf_16 : decode cX5_sumOf 16 = .ok (.iload_n 3, 1) := by decide +kernel
theorem dX5_sumOf_17 : decode cX5_sumOf 17 = .ok (.iadd, 1) := by decide +kernel
theorem dX5_sumOf_18 : decode cX5_sumOf 18 = .ok (.iaload, 1) := by decide +kernel
theorem dX5_sumOf_19 : decode cX5_sumOf 19 = .ok (.iadd, 1) := by decide +kernel
theorem dX5_sumOf_20 : decode cX5_sumOf 20 = .ok (.istore_n 2, 1) := by decide +kernel
theorem dX5_sumOf_21 : decode cX5_sumOf 21 = .ok (.iinc 3 1, 3) := by decide +kernel
theorem dX5_sumOf_24 : decode cX5_sumOf 24 = .ok (.goto (-20), 3) := by decide +kernel
theorem dX5_sumOf_27 : decode cX5_sumOf 27 = .ok (.iload_n 2, 1) := by decide +kernel
theorem dX5_sumOf_28 : decode cX5_sumOf 28 = .ok (.ireturn, 1) := by decide +kernel
theorem dX5_bareKnots_0 : decode cX5_bareKnots 0 = .ok (.iconst 0, 1) := by decide +kernel
theorem dX5_bareKnots_1 : decode cX5_bareKnots 1 = .ok (.istore_n 1, 1) := by decide +kernel
theorem dX5_bareKnots_2 : decode cX5_bareKnots 2 = .ok (.iconst 1, 1) := by decide +kernel
theorem dX5_bareKnots_3 : decode cX5_bareKnots 3 = .ok (.istore_n 2, 1) := by decide +kernel
theorem dX5_bareKnots_4 : decode cX5_bareKnots 4 = .ok (.iload_n 2, 1) := by decide +kernel
theorem dX5_bareKnots_5 : decode cX5_bareKnots 5 = .ok (.aload_n 0, 1) := by decide +kernel
theorem dX5_bareKnots_6 : decode cX5_bareKnots 6 = .ok (.getfield 7, 3) := by decide +kernel
theorem dX5_bareKnots_9 : decode cX5_bareKnots 9 = .ok (.bipush 7, 2) := by decide +kernel
theorem dX5_bareKnots_11 : decode cX5_bareKnots 11 = .ok (.iaload, 1) := by decide +kernel
theorem dX5_bareKnots_12 : decode cX5_bareKnots 12 = .ok (.if_icmp .ge 34, 3) := by decide +kernel
theorem dX5_bareKnots_15 : decode cX5_bareKnots 15 = .ok (.iload_n 1, 1) := by decide +kernel
theorem dX5_bareKnots_16 : decode cX5_bareKnots 16 = .ok (.aload_n 0, 1) := by decide +kernel
theorem dX5_bareKnots_17 : decode cX5_bareKnots 17 = .ok (.aload_n 0, 1) := by decide +kernel
theorem dX5_bareKnots_18 : decode cX5_bareKnots 18 = .ok (.getfield 7, 3) := by decide +kernel
theorem dX5_bareKnots_21 : decode cX5_bareKnots 21 = .ok (.sipush 387, 3) := by decide +kernel
theorem dX5_bareKnots_24 : decode cX5_bareKnots 24 = .ok (.iload_n 2, 1) := by decide +kernel
theorem dX5_bareKnots_25 : decode cX5_bareKnots 25 = .ok (.iadd, 1) := by decide +kernel
theorem dX5_bareKnots_26 : decode cX5_bareKnots 26 = .ok (.iaload, 1) := by decide +kernel
theorem dX5_bareKnots_27 : decode cX5_bareKnots 27 = .ok (.invokevirtual 137, 3) := by decide +kernel
theorem dX5_bareKnots_30 : decode cX5_bareKnots 30 = .ok (.ifCond .eq 7, 3) := by decide +kernel
theorem dX5_bareKnots_33 : decode cX5_bareKnots 33 = .ok (.iconst 0, 1) := by decide +kernel
theorem dX5_bareKnots_34 : decode cX5_bareKnots 34 = .ok (.goto 4, 3) := by decide +kernel
theorem dX5_bareKnots_37 : decode cX5_bareKnots 37 = .ok (.iconst 1, 1) := by decide +kernel
theorem dX5_bareKnots_38 : decode cX5_bareKnots 38 = .ok (.iadd, 1) := by decide +kernel
theorem dX5_bareKnots_39 : decode cX5_bareKnots 39 = .ok (.istore_n 1, 1) := by decide +kernel
theorem dX5_bareKnots_40 : decode cX5_bareKnots 40 = .ok (.iinc 2 1, 3) := by decide +kernel
theorem dX5_bareKnots_43 : decode cX5_bareKnots 43 = .ok (.goto (-39), 3) := by decide +kernel
theorem dX5_bareKnots_46 : decode cX5_bareKnots 46 = .ok (.iload_n 1, 1) := by decide +kernel
theorem dX5_bareKnots_47 : decode cX5_bareKnots 47 = .ok (.ireturn, 1) := by decide +kernel
theorem dX5_coloursThere_0 : decode cX5_coloursThere 0 = .ok (.iconst 0, 1) := by decide +kernel
theorem dX5_coloursThere_1 : decode cX5_coloursThere 1 = .ok (.istore_n 1, 1) := by decide +kernel
theorem dX5_coloursThere_2 : decode cX5_coloursThere 2 = .ok (.iconst 0, 1) := by decide +kernel
theorem dX5_coloursThere_3 : decode cX5_coloursThere 3 = .ok (.istore_n 2, 1) := by decide +kernel
theorem dX5_coloursThere_4 : decode cX5_coloursThere 4 = .ok (.iload_n 2, 1) := by decide +kernel
theorem dX5_coloursThere_5 : decode cX5_coloursThere 5 = .ok (.bipush 6, 2) := by decide +kernel
theorem dX5_coloursThere_7 : decode cX5_coloursThere 7 = .ok (.if_icmp .ge 25, 3) := by decide +kernel
theorem dX5_coloursThere_10 : decode cX5_coloursThere 10 = .ok (.iload_n 1, 1) := by decide +kernel
theorem dX5_coloursThere_11 : decode cX5_coloursThere 11 = .ok (.aload_n 0, 1) := by decide +kernel
theorem dX5_coloursThere_12 : decode cX5_coloursThere 12 = .ok (.iload_n 2, 1) := by decide +kernel
theorem dX5_coloursThere_13 : decode cX5_coloursThere 13 = .ok (.invokevirtual 182, 3) := by decide +kernel
theorem dX5_coloursThere_16 : decode cX5_coloursThere 16 = .ok (.ifCond .le 7, 3) := by decide +kernel
theorem dX5_coloursThere_19 : decode cX5_coloursThere 19 = .ok (.iconst 1, 1) := by decide +kernel
theorem dX5_coloursThere_20 : decode cX5_coloursThere 20 = .ok (.goto 4, 3) := by decide +kernel
theorem dX5_coloursThere_23 : decode cX5_coloursThere 23 = .ok (.iconst 0, 1) := by decide +kernel
theorem dX5_coloursThere_24 : decode cX5_coloursThere 24 = .ok (.iadd, 1) := by decide +kernel
theorem dX5_coloursThere_25 : decode cX5_coloursThere 25 = .ok (.istore_n 1, 1) := by decide +kernel
theorem dX5_coloursThere_26 : decode cX5_coloursThere 26 = .ok (.iinc 2 1, 3) := by decide +kernel
theorem dX5_coloursThere_29 : decode cX5_coloursThere 29 = .ok (.goto (-25), 3) := by decide +kernel
theorem dX5_coloursThere_32 : decode cX5_coloursThere 32 = .ok (.iload_n 1, 1) := by decide +kernel
theorem dX5_coloursThere_33 : decode cX5_coloursThere 33 = .ok (.ireturn, 1) := by decide +kernel
theorem dX5_room_0 : decode cX5_room 0 = .ok (.aload_n 0, 1) := by decide +kernel
theorem dX5_room_1 : decode cX5_room 1 = .ok (.getfield 7, 3) := by decide +kernel
theorem dX5_room_4 : decode cX5_room 4 = .ok (.iconst 2, 1) := by decide +kernel
theorem dX5_room_5 : decode cX5_room 5 = .ok (.iaload, 1) := by decide +kernel
theorem dX5_room_6 : decode cX5_room 6 = .ok (.aload_n 0, 1) := by decide +kernel
theorem dX5_room_7 : decode cX5_room 7 = .ok (.invokevirtual 121, 3) := by decide +kernel
theorem dX5_room_10 : decode cX5_room 10 = .ok (.isub, 1) := by decide +kernel
theorem dX5_room_11 : decode cX5_room 11 = .ok (.istore_n 1, 1) := by decide +kernel
theorem dX5_room_12 : decode cX5_room 12 = .ok (.iload_n 1, 1) := by decide +kernel
theorem dX5_room_13 : decode cX5_room 13 = .ok (.ifCond .ge 7, 3) := by decide +kernel
theorem dX5_room_16 : decode cX5_room 16 = .ok (.iconst 0, 1) := by decide +kernel
theorem dX5_room_17 : decode cX5_room 17 = .ok (.goto 4, 3) := by decide +kernel
theorem dX5_room_20 : decode cX5_room 20 = .ok (.iload_n 1, 1) := by decide +kernel
theorem dX5_room_21 : decode cX5_room 21 = .ok (.ireturn, 1) := by decide +kernel
theorem dX5_counted_0 : decode cX5_counted 0 = .ok (.iload_n 1, 1) := by decide +kernel
theorem dX5_counted_1 : decode cX5_counted 1 = .ok (.tableswitch 142 0 11 #[63, 70, 77, 85, 93, 98, 103, 110, 117, 124, 132, 137], 63) := by decide +kernel
theorem dX5_counted_64 : decode cX5_counted 64 = .ok (.aload_n 0, 1) := by decide +kernel
theorem dX5_counted_65 : decode cX5_counted 65 = .ok (.getfield 7, 3) := by decide +kernel
theorem dX5_counted_68 : decode cX5_counted 68 = .ok (.iconst 4, 1) := by decide +kernel
theorem dX5_counted_69 : decode cX5_counted 69 = .ok (.iaload, 1) := by decide +kernel
theorem dX5_counted_70 : decode cX5_counted 70 = .ok (.ireturn, 1) := by decide +kernel
theorem dX5_counted_71 : decode cX5_counted 71 = .ok (.aload_n 0, 1) := by decide +kernel
theorem dX5_counted_72 : decode cX5_counted 72 = .ok (.getfield 7, 3) := by decide +kernel
theorem dX5_counted_75 : decode cX5_counted 75 = .ok (.iconst 5, 1) := by decide +kernel
theorem dX5_counted_76 : decode cX5_counted 76 = .ok (.iaload, 1) := by decide +kernel
theorem dX5_counted_77 : decode cX5_counted 77 = .ok (.ireturn, 1) := by decide +kernel
theorem dX5_counted_78 : decode cX5_counted 78 = .ok (.aload_n 0, 1) := by decide +kernel
theorem dX5_counted_79 : decode cX5_counted 79 = .ok (.getfield 7, 3) := by decide +kernel
theorem dX5_counted_82 : decode cX5_counted 82 = .ok (.bipush 6, 2) := by decide +kernel
theorem dX5_counted_84 : decode cX5_counted 84 = .ok (.iaload, 1) := by decide +kernel
theorem dX5_counted_85 : decode cX5_counted 85 = .ok (.ireturn, 1) := by decide +kernel
theorem dX5_counted_86 : decode cX5_counted 86 = .ok (.aload_n 0, 1) := by decide +kernel
theorem dX5_counted_87 : decode cX5_counted 87 = .ok (.getfield 7, 3) := by decide +kernel
theorem dX5_counted_90 : decode cX5_counted 90 = .ok (.bipush 7, 2) := by decide +kernel
theorem dX5_counted_92 : decode cX5_counted 92 = .ok (.iaload, 1) := by decide +kernel
theorem dX5_counted_93 : decode cX5_counted 93 = .ok (.ireturn, 1) := by decide +kernel
theorem dX5_counted_94 : decode cX5_counted 94 = .ok (.aload_n 0, 1) := by decide +kernel
theorem dX5_counted_95 : decode cX5_counted 95 = .ok (.invokevirtual 188, 3) := by decide +kernel
theorem dX5_counted_98 : decode cX5_counted 98 = .ok (.ireturn, 1) := by decide +kernel
theorem dX5_counted_99 : decode cX5_counted 99 = .ok (.aload_n 0, 1) := by decide +kernel
theorem dX5_counted_100 : decode cX5_counted 100 = .ok (.invokevirtual 191, 3) := by decide +kernel
theorem dX5_counted_103 : decode cX5_counted 103 = .ok (.ireturn, 1) := by decide +kernel
theorem dX5_counted_104 : decode cX5_counted 104 = .ok (.aload_n 0, 1) := by decide +kernel
theorem dX5_counted_105 : decode cX5_counted 105 = .ok (.bipush 9, 2) := by decide +kernel
theorem dX5_counted_107 : decode cX5_counted 107 = .ok (.invokevirtual 194, 3) := by decide +kernel
theorem dX5_counted_110 : decode cX5_counted 110 = .ok (.ireturn, 1) := by decide +kernel
theorem dX5_counted_111 : decode cX5_counted 111 = .ok (.aload_n 0, 1) := by decide +kernel
theorem dX5_counted_112 : decode cX5_counted 112 = .ok (.bipush 15, 2) := by decide +kernel
theorem dX5_counted_114 : decode cX5_counted 114 = .ok (.invokevirtual 194, 3) := by decide +kernel
theorem dX5_counted_117 : decode cX5_counted 117 = .ok (.ireturn, 1) := by decide +kernel
theorem dX5_counted_118 : decode cX5_counted 118 = .ok (.aload_n 0, 1) := by decide +kernel
theorem dX5_counted_119 : decode cX5_counted 119 = .ok (.bipush 21, 2) := by decide +kernel
theorem dX5_counted_121 : decode cX5_counted 121 = .ok (.invokevirtual 194, 3) := by decide +kernel
theorem dX5_counted_124 : decode cX5_counted 124 = .ok (.ireturn, 1) := by decide +kernel
theorem dX5_counted_125 : decode cX5_counted 125 = .ok (.aload_n 0, 1) := by decide +kernel
theorem dX5_counted_126 : decode cX5_counted 126 = .ok (.getfield 7, 3) := by decide +kernel
theorem dX5_counted_129 : decode cX5_counted 129 = .ok (.bipush 8, 2) := by decide +kernel
theorem dX5_counted_131 : decode cX5_counted 131 = .ok (.iaload, 1) := by decide +kernel
theorem dX5_counted_132 : decode cX5_counted 132 = .ok (.ireturn, 1) := by decide +kernel
theorem dX5_counted_133 : decode cX5_counted 133 = .ok (.aload_n 0, 1) := by decide +kernel
theorem dX5_counted_134 : decode cX5_counted 134 = .ok (.invokevirtual 197, 3) := by decide +kernel
theorem dX5_counted_137 : decode cX5_counted 137 = .ok (.ireturn, 1) := by decide +kernel
theorem dX5_counted_138 : decode cX5_counted 138 = .ok (.aload_n 0, 1) := by decide +kernel
theorem dX5_counted_139 : decode cX5_counted 139 = .ok (.invokevirtual 200, 3) := by decide +kernel
theorem dX5_counted_142 : decode cX5_counted 142 = .ok (.ireturn, 1) := by decide +kernel
theorem dX5_counted_143 : decode cX5_counted 143 = .ok (.aload_n 0, 1) := by decide +kernel
theorem dX5_counted_144 : decode cX5_counted 144 = .ok (.getfield 44, 3) := by decide +kernel
theorem dX5_counted_147 : decode cX5_counted 147 = .ok (.ireturn, 1) := by decide +kernel
theorem dX5_count_0 : decode cX5_count 0 = .ok (.aload_n 0, 1) := by decide +kernel
theorem dX5_count_1 : decode cX5_count 1 = .ok (.iload_n 1, 1) := by decide +kernel
theorem dX5_count_2 : decode cX5_count 2 = .ok (.iconst 0, 1) := by decide +kernel
theorem dX5_count_3 : decode cX5_count 3 = .ok (.bipush 12, 2) := by decide +kernel
theorem dX5_count_5 : decode cX5_count 5 = .ok (.invokestatic 47, 3) := by decide +kernel
theorem dX5_count_8 : decode cX5_count 8 = .ok (.ifCond .eq 7, 3) := by decide +kernel
theorem dX5_count_11 : decode cX5_count 11 = .ok (.iconst 0, 1) := by decide +kernel
theorem dX5_count_12 : decode cX5_count 12 = .ok (.goto 4, 3) := by decide +kernel
theorem dX5_count_15 : decode cX5_count 15 = .ok (.iconst 1, 1) := by decide +kernel
theorem dX5_count_16 : decode cX5_count 16 = .ok (.putfield 40, 3) := by decide +kernel
theorem dX5_count_19 : decode cX5_count 19 = .ok (.aload_n 0, 1) := by decide +kernel
theorem dX5_count_20 : decode cX5_count 20 = .ok (.getfield 40, 3) := by decide +kernel
theorem dX5_count_23 : decode cX5_count 23 = .ok (.ifCond .le 7, 3) := by decide +kernel
theorem dX5_count_26 : decode cX5_count 26 = .ok (.iconst 0, 1) := by decide +kernel
theorem dX5_count_27 : decode cX5_count 27 = .ok (.goto 8, 3) := by decide +kernel
theorem dX5_count_30 : decode cX5_count 30 = .ok (.aload_n 0, 1) := by decide +kernel
theorem dX5_count_31 : decode cX5_count 31 = .ok (.iload_n 1, 1) := by decide +kernel
theorem dX5_count_32 : decode cX5_count 32 = .ok (.invokevirtual 203, 3) := by decide +kernel
theorem dX5_count_35 : decode cX5_count 35 = .ok (.ireturn, 1) := by decide +kernel
theorem dX5_setting_0 : decode cX5_setting 0 = .ok (.aload_n 0, 1) := by decide +kernel
theorem dX5_setting_1 : decode cX5_setting 1 = .ok (.iload_n 1, 1) := by decide +kernel
theorem dX5_setting_2 : decode cX5_setting 2 = .ok (.invokestatic 115, 3) := by decide +kernel
theorem dX5_setting_5 : decode cX5_setting 5 = .ok (.ifCond .eq 7, 3) := by decide +kernel
theorem dX5_setting_8 : decode cX5_setting 8 = .ok (.iconst 0, 1) := by decide +kernel
theorem dX5_setting_9 : decode cX5_setting 9 = .ok (.goto 4, 3) := by decide +kernel
theorem dX5_setting_12 : decode cX5_setting 12 = .ok (.iconst 1, 1) := by decide +kernel
theorem dX5_setting_13 : decode cX5_setting 13 = .ok (.putfield 40, 3) := by decide +kernel
theorem dX5_setting_16 : decode cX5_setting 16 = .ok (.aload_n 0, 1) := by decide +kernel
theorem dX5_setting_17 : decode cX5_setting 17 = .ok (.getfield 40, 3) := by decide +kernel
theorem dX5_setting_20 : decode cX5_setting 20 = .ok (.ifCond .le 7, 3) := by decide +kernel
theorem dX5_setting_23 : decode cX5_setting 23 = .ok (.iconst 0, 1) := by decide +kernel
theorem dX5_setting_24 : decode cX5_setting 24 = .ok (.goto 11, 3) := by decide +kernel
theorem dX5_setting_27 : decode cX5_setting 27 = .ok (.aload_n 0, 1) := by decide +kernel
theorem dX5_setting_28 : decode cX5_setting 28 = .ok (.getfield 7, 3) := by decide +kernel
theorem dX5_setting_31 : decode cX5_setting 31 = .ok (.iconst 0, 1) := by decide +kernel
theorem dX5_setting_32 : decode cX5_setting 32 = .ok (.iload_n 1, 1) := by decide +kernel
theorem dX5_setting_33 : decode cX5_setting 33 = .ok (.iadd, 1) := by decide +kernel
theorem dX5_setting_34 : decode cX5_setting 34 = .ok (.iaload, 1) := by decide +kernel
theorem dX5_setting_35 : decode cX5_setting 35 = .ok (.ireturn, 1) := by decide +kernel
theorem dX5_neededNow_0 : decode cX5_neededNow 0 = .ok (.iconst 0, 1) := by decide +kernel
theorem dX5_neededNow_1 : decode cX5_neededNow 1 = .ok (.istore_n 3, 1) := by decide +kernel
theorem dX5_neededNow_2 : decode cX5_neededNow 2 = .ok (.iconst 0, 1) := by decide +kernel
theorem dX5_neededNow_3 : decode cX5_neededNow 3 = .ok (.istore 4, 2) := by decide +kernel
theorem dX5_neededNow_5 : decode cX5_neededNow 5 = .ok (.iload 4, 2) := by decide +kernel
theorem dX5_neededNow_7 : decode cX5_neededNow 7 = .ok (.iload_n 2, 1) := by decide +kernel
theorem dX5_neededNow_8 : decode cX5_neededNow 8 = .ok (.if_icmp .ge 27, 3) := by decide +kernel
theorem dX5_neededNow_11 : decode cX5_neededNow 11 = .ok (.iload_n 3, 1) := by decide +kernel
theorem dX5_neededNow_12 : decode cX5_neededNow 12 = .ok (.aload_n 0, 1) := by decide +kernel
theorem dX5_neededNow_13 : decode cX5_neededNow 13 = .ok (.iload 4, 2) := by decide +kernel
theorem dX5_neededNow_15 : decode cX5_neededNow 15 = .ok (.invokevirtual 65, 3) := by decide +kernel
theorem dX5_neededNow_18 : decode cX5_neededNow 18 = .ok (.iload_n 1, 1) := by decide +kernel
theorem dX5_neededNow_19 : decode cX5_neededNow 19 = .ok (.if_icmp .ne 7, 3) := by decide +kernel
theorem dX5_neededNow_22 : decode cX5_neededNow 22 = .ok (.iconst 1, 1) := by decide +kernel
theorem dX5_neededNow_23 : decode cX5_neededNow 23 = .ok (.goto 4, 3) := by decide +kernel
theorem dX5_neededNow_26 : decode cX5_neededNow 26 = .ok (.iconst 0, 1) := by decide +kernel
theorem dX5_neededNow_27 : decode cX5_neededNow 27 = .ok (.iadd, 1) := by decide +kernel
theorem dX5_neededNow_28 : decode cX5_neededNow 28 = .ok (.istore_n 3, 1) := by decide +kernel
theorem dX5_neededNow_29 : decode cX5_neededNow 29 = .ok (.iinc 4 1, 3) := by decide +kernel
theorem dX5_neededNow_32 : decode cX5_neededNow 32 = .ok (.goto (-27), 3) := by decide +kernel
theorem dX5_neededNow_35 : decode cX5_neededNow 35 = .ok (.iload_n 3, 1) := by decide +kernel
theorem dX5_neededNow_36 : decode cX5_neededNow 36 = .ok (.ireturn, 1) := by decide +kernel
theorem dX5_needed_0 : decode cX5_needed 0 = .ok (.aload_n 0, 1) := by decide +kernel
theorem dX5_needed_1 : decode cX5_needed 1 = .ok (.iload_n 1, 1) := by decide +kernel
theorem dX5_needed_2 : decode cX5_needed 2 = .ok (.invokestatic 108, 3) := by decide +kernel
theorem dX5_needed_5 : decode cX5_needed 5 = .ok (.ifCond .eq 18, 3) := by decide +kernel
theorem dX5_needed_8 : decode cX5_needed 8 = .ok (.iload_n 2, 1) := by decide +kernel
theorem dX5_needed_9 : decode cX5_needed 9 = .ok (.iconst 1, 1) := by decide +kernel
theorem dX5_needed_10 : decode cX5_needed 10 = .ok (.sipush 240, 3) := by decide +kernel
theorem dX5_needed_13 : decode cX5_needed 13 = .ok (.invokestatic 47, 3) := by decide +kernel
theorem dX5_needed_16 : decode cX5_needed 16 = .ok (.ifCond .eq 7, 3) := by decide +kernel
theorem dX5_needed_19 : decode cX5_needed 19 = .ok (.iconst 0, 1) := by decide +kernel
theorem dX5_needed_20 : decode cX5_needed 20 = .ok (.goto 4, 3) := by decide +kernel
theorem dX5_needed_23 : decode cX5_needed 23 = .ok (.iconst 1, 1) := by decide +kernel
theorem dX5_needed_24 : decode cX5_needed 24 = .ok (.putfield 40, 3) := by decide +kernel
theorem dX5_needed_27 : decode cX5_needed 27 = .ok (.aload_n 0, 1) := by decide +kernel
theorem dX5_needed_28 : decode cX5_needed 28 = .ok (.getfield 40, 3) := by decide +kernel
theorem dX5_needed_31 : decode cX5_needed 31 = .ok (.ifCond .le 7, 3) := by decide +kernel
theorem dX5_needed_34 : decode cX5_needed 34 = .ok (.iconst 0, 1) := by decide +kernel
theorem dX5_needed_35 : decode cX5_needed 35 = .ok (.goto 9, 3) := by decide +kernel
theorem dX5_needed_38 : decode cX5_needed 38 = .ok (.aload_n 0, 1) := by decide +kernel
theorem dX5_needed_39 : decode cX5_needed 39 = .ok (.iload_n 1, 1) := by decide +kernel
theorem dX5_needed_40 : decode cX5_needed 40 = .ok (.iload_n 2, 1) := by decide +kernel
theorem dX5_needed_41 : decode cX5_needed 41 = .ok (.invokevirtual 206, 3) := by decide +kernel
theorem dX5_needed_44 : decode cX5_needed 44 = .ok (.ireturn, 1) := by decide +kernel
theorem dX5_layFewest_0 : decode cX5_layFewest 0 = .ok (.aload_n 0, 1) := by decide +kernel
theorem dX5_layFewest_1 : decode cX5_layFewest 1 = .ok (.getfield 34, 3) := by decide +kernel
theorem dX5_layFewest_4 : decode cX5_layFewest 4 = .ok (.iload_n 1, 1) := by decide +kernel
theorem dX5_layFewest_5 : decode cX5_layFewest 5 = .ok (.iconst 0, 1) := by decide +kernel
theorem dX5_layFewest_6 : decode cX5_layFewest 6 = .ok (.iastore, 1) := by decide +kernel
theorem dX5_layFewest_7 : decode cX5_layFewest 7 = .ok (.iload_n 1, 1) := by decide +kernel
theorem dX5_layFewest_8 : decode cX5_layFewest 8 = .ok (.iconst 1, 1) := by decide +kernel
theorem dX5_layFewest_9 : decode cX5_layFewest 9 = .ok (.isub, 1) := by decide +kernel
theorem dX5_layFewest_10 : decode cX5_layFewest 10 = .ok (.istore_n 2, 1) := by decide +kernel
theorem dX5_layFewest_11 : decode cX5_layFewest 11 = .ok (.iload_n 2, 1) := by decide +kernel
theorem dX5_layFewest_12 : decode cX5_layFewest 12 = .ok (.ifCond .lt 109, 3) := by decide +kernel
theorem dX5_layFewest_15 : decode cX5_layFewest 15 = .ok (.aload_n 0, 1) := by decide +kernel
theorem dX5_layFewest_16 : decode cX5_layFewest 16 = .ok (.getfield 34, 3) := by decide +kernel
theorem dX5_layFewest_19 : decode cX5_layFewest 19 = .ok (.iload_n 2, 1) := by decide +kernel
theorem dX5_layFewest_20 : decode cX5_layFewest 20 = .ok (.ldc 209, 2) := by decide +kernel
theorem dX5_layFewest_22 : decode cX5_layFewest 22 = .ok (.iastore, 1) := by decide +kernel
theorem dX5_layFewest_23 : decode cX5_layFewest 23 = .ok (.iload_n 2, 1) := by decide +kernel
theorem dX5_layFewest_24 : decode cX5_layFewest 24 = .ok (.iconst 1, 1) := by decide +kernel
theorem dX5_layFewest_25 : decode cX5_layFewest 25 = .ok (.iadd, 1) := by decide +kernel
theorem dX5_layFewest_26 : decode cX5_layFewest 26 = .ok (.istore_n 3, 1) := by decide +kernel
theorem dX5_layFewest_27 : decode cX5_layFewest 27 = .ok (.iload_n 3, 1) := by decide +kernel
theorem dX5_layFewest_28 : decode cX5_layFewest 28 = .ok (.iload_n 1, 1) := by decide +kernel
theorem dX5_layFewest_29 : decode cX5_layFewest 29 = .ok (.if_icmp .gt 86, 3) := by decide +kernel
theorem dX5_layFewest_32 : decode cX5_layFewest 32 = .ok (.iload_n 3, 1) := by decide +kernel
theorem dX5_layFewest_33 : decode cX5_layFewest 33 = .ok (.iload_n 2, 1) := by decide +kernel
theorem dX5_layFewest_34 : decode cX5_layFewest 34 = .ok (.aload_n 0, 1) := by decide +kernel
theorem dX5_layFewest_35 : decode cX5_layFewest 35 = .ok (.getfield 7, 3) := by decide +kernel
theorem dX5_layFewest_38 : decode cX5_layFewest 38 = .ok (.iconst 2, 1) := by decide +kernel
theorem dX5_layFewest_39 : decode cX5_layFewest 39 = .ok (.iaload, 1) := by decide +kernel
theorem dX5_layFewest_40 : decode cX5_layFewest 40 = .ok (.iadd, 1) := by decide +kernel
theorem dX5_layFewest_41 : decode cX5_layFewest 41 = .ok (.if_icmp .gt 74, 3) := by decide +kernel
theorem dX5_layFewest_44 : decode cX5_layFewest 44 = .ok (.iload_n 3, 1) := by decide +kernel
theorem dX5_layFewest_45 : decode cX5_layFewest 45 = .ok (.iload_n 1, 1) := by decide +kernel
theorem dX5_layFewest_46 : decode cX5_layFewest 46 = .ok (.if_icmp .eq 11, 3) := by decide +kernel
theorem dX5_layFewest_49 : decode cX5_layFewest 49 = .ok (.aload_n 0, 1) := by decide +kernel
theorem dX5_layFewest_50 : decode cX5_layFewest 50 = .ok (.iload_n 3, 1) := by decide +kernel
theorem dX5_layFewest_51 : decode cX5_layFewest 51 = .ok (.invokevirtual 137, 3) := by decide +kernel
theorem dX5_layFewest_54 : decode cX5_layFewest 54 = .ok (.ifCond .eq 7, 3) := by decide +kernel
theorem dX5_layFewest_57 : decode cX5_layFewest 57 = .ok (.iconst 1, 1) := by decide +kernel
theorem dX5_layFewest_58 : decode cX5_layFewest 58 = .ok (.goto 4, 3) := by decide +kernel
theorem dX5_layFewest_61 : decode cX5_layFewest 61 = .ok (.iconst 0, 1) := by decide +kernel
theorem dX5_layFewest_62 : decode cX5_layFewest 62 = .ok (.istore 4, 2) := by decide +kernel
theorem dX5_layFewest_64 : decode cX5_layFewest 64 = .ok (.aload_n 0, 1) := by decide +kernel
theorem dX5_layFewest_65 : decode cX5_layFewest 65 = .ok (.getfield 34, 3) := by decide +kernel
theorem dX5_layFewest_68 : decode cX5_layFewest 68 = .ok (.iload_n 2, 1) := by decide +kernel
theorem dX5_layFewest_69 : decode cX5_layFewest 69 = .ok (.iload 4, 2) := by decide +kernel
theorem dX5_layFewest_71 : decode cX5_layFewest 71 = .ok (.ifCond .eq 31, 3) := by decide +kernel
theorem dX5_layFewest_74 : decode cX5_layFewest 74 = .ok (.iconst 1, 1) := by decide +kernel
theorem dX5_layFewest_75 : decode cX5_layFewest 75 = .ok (.aload_n 0, 1) := by decide +kernel
theorem dX5_layFewest_76 : decode cX5_layFewest 76 = .ok (.getfield 34, 3) := by decide +kernel
theorem dX5_layFewest_79 : decode cX5_layFewest 79 = .ok (.iload_n 3, 1) := by decide +kernel
theorem dX5_layFewest_80 : decode cX5_layFewest 80 = .ok (.iaload, 1) := by decide +kernel
theorem dX5_layFewest_81 : decode cX5_layFewest 81 = .ok (.iadd, 1) := by decide +kernel
theorem dX5_layFewest_82 : decode cX5_layFewest 82 = .ok (.aload_n 0, 1) := by decide +kernel
theorem dX5_layFewest_83 : decode cX5_layFewest 83 = .ok (.getfield 34, 3) := by decide +kernel
theorem dX5_layFewest_86 : decode cX5_layFewest 86 = .ok (.iload_n 2, 1) := by decide +kernel
theorem dX5_layFewest_87 : decode cX5_layFewest 87 = .ok (.iaload, 1) := by decide +kernel
theorem dX5_layFewest_88 : decode cX5_layFewest 88 = .ok (.if_icmp .ge 14, 3) := by decide +kernel
theorem dX5_layFewest_91 : decode cX5_layFewest 91 = .ok (.iconst 1, 1) := by decide +kernel
theorem dX5_layFewest_92 : decode cX5_layFewest 92 = .ok (.aload_n 0, 1) := by decide +kernel
theorem dX5_layFewest_93 : decode cX5_layFewest 93 = .ok (.getfield 34, 3) := by decide +kernel
theorem dX5_layFewest_96 : decode cX5_layFewest 96 = .ok (.iload_n 3, 1) := by decide +kernel
theorem dX5_layFewest_97 : decode cX5_layFewest 97 = .ok (.iaload, 1) := by decide +kernel
theorem dX5_layFewest_98 : decode cX5_layFewest 98 = .ok (.iadd, 1) := by decide +kernel
theorem dX5_layFewest_99 : decode cX5_layFewest 99 = .ok (.goto 9, 3) := by decide +kernel
theorem dX5_layFewest_102 : decode cX5_layFewest 102 = .ok (.aload_n 0, 1) := by decide +kernel
theorem dX5_layFewest_103 : decode cX5_layFewest 103 = .ok (.getfield 34, 3) := by decide +kernel
theorem dX5_layFewest_106 : decode cX5_layFewest 106 = .ok (.iload_n 2, 1) := by decide +kernel
theorem dX5_layFewest_107 : decode cX5_layFewest 107 = .ok (.iaload, 1) := by decide +kernel
theorem dX5_layFewest_108 : decode cX5_layFewest 108 = .ok (.iastore, 1) := by decide +kernel
theorem dX5_layFewest_109 : decode cX5_layFewest 109 = .ok (.iinc 3 1, 3) := by decide +kernel
theorem dX5_layFewest_112 : decode cX5_layFewest 112 = .ok (.goto (-85), 3) := by decide +kernel
theorem dX5_layFewest_115 : decode cX5_layFewest 115 = .ok (.iinc 2 (-1), 3) := by decide +kernel
theorem dX5_layFewest_118 : decode cX5_layFewest 118 = .ok (.goto (-107), 3) := by decide +kernel
theorem dX5_layFewest_121 : decode cX5_layFewest 121 = .ok (.return_, 1) := by decide +kernel
theorem dX5_latest_0 : decode cX5_latest 0 = .ok (.iload_n 1, 1) := by decide +kernel
theorem dX5_latest_1 : decode cX5_latest 1 = .ok (.aload_n 0, 1) := by decide +kernel
theorem dX5_latest_2 : decode cX5_latest 2 = .ok (.getfield 7, 3) := by decide +kernel
theorem dX5_latest_5 : decode cX5_latest 5 = .ok (.iconst 2, 1) := by decide +kernel
theorem dX5_latest_6 : decode cX5_latest 6 = .ok (.iaload, 1) := by decide +kernel
theorem dX5_latest_7 : decode cX5_latest 7 = .ok (.iadd, 1) := by decide +kernel
theorem dX5_latest_8 : decode cX5_latest 8 = .ok (.iload_n 2, 1) := by decide +kernel
theorem dX5_latest_9 : decode cX5_latest 9 = .ok (.if_icmp .ge 14, 3) := by decide +kernel
theorem dX5_latest_12 : decode cX5_latest 12 = .ok (.iload_n 1, 1) := by decide +kernel
theorem dX5_latest_13 : decode cX5_latest 13 = .ok (.aload_n 0, 1) := by decide +kernel
theorem dX5_latest_14 : decode cX5_latest 14 = .ok (.getfield 7, 3) := by decide +kernel
theorem dX5_latest_17 : decode cX5_latest 17 = .ok (.iconst 2, 1) := by decide +kernel
theorem dX5_latest_18 : decode cX5_latest 18 = .ok (.iaload, 1) := by decide +kernel
theorem dX5_latest_19 : decode cX5_latest 19 = .ok (.iadd, 1) := by decide +kernel
theorem dX5_latest_20 : decode cX5_latest 20 = .ok (.goto 4, 3) := by decide +kernel
theorem dX5_latest_23 : decode cX5_latest 23 = .ok (.iload_n 2, 1) := by decide +kernel
theorem dX5_latest_24 : decode cX5_latest 24 = .ok (.istore_n 3, 1) := by decide +kernel
theorem dX5_latest_25 : decode cX5_latest 25 = .ok (.iload_n 3, 1) := by decide +kernel
theorem dX5_latest_26 : decode cX5_latest 26 = .ok (.iload_n 2, 1) := by decide +kernel
theorem dX5_latest_27 : decode cX5_latest 27 = .ok (.if_icmp .eq 11, 3) := by decide +kernel
theorem dX5_latest_30 : decode cX5_latest 30 = .ok (.aload_n 0, 1) := by decide +kernel
theorem dX5_latest_31 : decode cX5_latest 31 = .ok (.iload_n 3, 1) := by decide +kernel
theorem dX5_latest_32 : decode cX5_latest 32 = .ok (.invokevirtual 137, 3) := by decide +kernel
theorem dX5_latest_35 : decode cX5_latest 35 = .ok (.ifCond .eq 20, 3) := by decide +kernel
theorem dX5_latest_38 : decode cX5_latest 38 = .ok (.aload_n 0, 1) := by decide +kernel
theorem dX5_latest_39 : decode cX5_latest 39 = .ok (.getfield 34, 3) := by decide +kernel
theorem dX5_latest_42 : decode cX5_latest 42 = .ok (.iload_n 3, 1) := by decide +kernel
theorem dX5_latest_43 : decode cX5_latest 43 = .ok (.iaload, 1) := by decide +kernel
theorem dX5_latest_44 : decode cX5_latest 44 = .ok (.aload_n 0, 1) := by decide +kernel
theorem dX5_latest_45 : decode cX5_latest 45 = .ok (.getfield 34, 3) := by decide +kernel
theorem dX5_latest_48 : decode cX5_latest 48 = .ok (.iload_n 1, 1) := by decide +kernel
theorem dX5_latest_49 : decode cX5_latest 49 = .ok (.iaload, 1) := by decide +kernel
theorem dX5_latest_50 : decode cX5_latest 50 = .ok (.iconst 1, 1) := by decide +kernel
theorem dX5_latest_51 : decode cX5_latest 51 = .ok (.isub, 1) := by decide +kernel
theorem dX5_latest_52 : decode cX5_latest 52 = .ok (.if_icmp .eq 9, 3) := by decide +kernel
theorem dX5_latest_55 : decode cX5_latest 55 = .ok (.iinc 3 (-1), 3) := by decide +kernel
theorem dX5_latest_58 : decode cX5_latest 58 = .ok (.goto (-33), 3) := by decide +kernel
theorem dX5_latest_61 : decode cX5_latest 61 = .ok (.iload_n 3, 1) := by decide +kernel
theorem dX5_latest_62 : decode cX5_latest 62 = .ok (.ireturn, 1) := by decide +kernel
theorem dX5_planNow_0 : decode cX5_planNow 0 = .ok (.aload_n 0, 1) := by decide +kernel
theorem dX5_planNow_1 : decode cX5_planNow 1 = .ok (.iload_n 1, 1) := by decide +kernel
theorem dX5_planNow_2 : decode cX5_planNow 2 = .ok (.invokevirtual 210, 3) := by decide +kernel
theorem dX5_planNow_5 : decode cX5_planNow 5 = .ok (.aload_n 0, 1) := by decide +kernel
theorem dX5_planNow_6 : decode cX5_planNow 6 = .ok (.getfield 34, 3) := by decide +kernel
theorem dX5_planNow_9 : decode cX5_planNow 9 = .ok (.iconst 0, 1) := by decide +kernel
theorem dX5_planNow_10 : decode cX5_planNow 10 = .ok (.iaload, 1) := by decide +kernel
theorem dX5_planNow_11 : decode cX5_planNow 11 = .ok (.ldc 209, 2) := by decide +kernel
theorem dX5_planNow_13 : decode cX5_planNow 13 = .ok (.if_icmp .ge 13, 3) := by decide +kernel
theorem dX5_planNow_16 : decode cX5_planNow 16 = .ok (.iload_n 2, 1) := by decide +kernel
theorem dX5_planNow_17 : decode cX5_planNow 17 = .ok (.aload_n 0, 1) := by decide +kernel
theorem dX5_planNow_18 : decode cX5_planNow 18 = .ok (.getfield 34, 3) := by decide +kernel
theorem dX5_planNow_21 : decode cX5_planNow 21 = .ok (.iconst 0, 1) := by decide +kernel
theorem dX5_planNow_22 : decode cX5_planNow 22 = .ok (.iaload, 1) := by decide +kernel
theorem dX5_planNow_23 : decode cX5_planNow 23 = .ok (.if_icmp .lt 5, 3) := by decide +kernel
theorem dX5_planNow_26 : decode cX5_planNow 26 = .ok (.iconst (-1), 1) := by decide +kernel
theorem dX5_planNow_27 : decode cX5_planNow 27 = .ok (.ireturn, 1) := by decide +kernel
theorem dX5_planNow_28 : decode cX5_planNow 28 = .ok (.iload_n 2, 1) := by decide +kernel
theorem dX5_planNow_29 : decode cX5_planNow 29 = .ok (.iconst (-1), 1) := by decide +kernel
theorem dX5_planNow_30 : decode cX5_planNow 30 = .ok (.if_icmp .ne 10, 3) := by decide +kernel
theorem dX5_planNow_33 : decode cX5_planNow 33 = .ok (.aload_n 0, 1) := by decide +kernel
theorem dX5_planNow_34 : decode cX5_planNow 34 = .ok (.getfield 34, 3) := by decide +kernel
theorem dX5_planNow_37 : decode cX5_planNow 37 = .ok (.iconst 0, 1) := by decide +kernel
theorem dX5_planNow_38 : decode cX5_planNow 38 = .ok (.iaload, 1) := by decide +kernel
theorem dX5_planNow_39 : decode cX5_planNow 39 = .ok (.ireturn, 1) := by decide +kernel
theorem dX5_planNow_40 : decode cX5_planNow 40 = .ok (.iconst 0, 1) := by decide +kernel
theorem dX5_planNow_41 : decode cX5_planNow 41 = .ok (.istore_n 3, 1) := by decide +kernel
theorem dX5_planNow_42 : decode cX5_planNow 42 = .ok (.iconst 0, 1) := by decide +kernel
theorem dX5_planNow_43 : decode cX5_planNow 43 = .ok (.istore 4, 2) := by decide +kernel
theorem dX5_planNow_45 : decode cX5_planNow 45 = .ok (.iload 4, 2) := by decide +kernel
theorem dX5_planNow_47 : decode cX5_planNow 47 = .ok (.iload_n 2, 1) := by decide +kernel
theorem dX5_planNow_48 : decode cX5_planNow 48 = .ok (.if_icmp .ge 16, 3) := by decide +kernel
theorem dX5_planNow_51 : decode cX5_planNow 51 = .ok (.aload_n 0, 1) := by decide +kernel
theorem dX5_planNow_52 : decode cX5_planNow 52 = .ok (.iload_n 3, 1) := by decide +kernel
theorem dX5_planNow_53 : decode cX5_planNow 53 = .ok (.iload_n 1, 1) := by decide +kernel
theorem dX5_planNow_54 : decode cX5_planNow 54 = .ok (.invokevirtual 213, 3) := by decide +kernel
theorem dX5_planNow_57 : decode cX5_planNow 57 = .ok (.istore_n 3, 1) := by decide +kernel
theorem dX5_planNow_58 : decode cX5_planNow 58 = .ok (.iinc 4 1, 3) := by decide +kernel
theorem dX5_planNow_61 : decode cX5_planNow 61 = .ok (.goto (-16), 3) := by decide +kernel
theorem dX5_planNow_64 : decode cX5_planNow 64 = .ok (.iload_n 3, 1) := by decide +kernel
theorem dX5_planNow_65 : decode cX5_planNow 65 = .ok (.ireturn, 1) := by decide +kernel
theorem dX5_plan_0 : decode cX5_plan 0 = .ok (.aload_n 0, 1) := by decide +kernel
theorem dX5_plan_1 : decode cX5_plan 1 = .ok (.iload_n 1, 1) := by decide +kernel
theorem dX5_plan_2 : decode cX5_plan 2 = .ok (.iconst 1, 1) := by decide +kernel
theorem dX5_plan_3 : decode cX5_plan 3 = .ok (.sipush 240, 3) := by decide +kernel
theorem dX5_plan_6 : decode cX5_plan 6 = .ok (.invokestatic 47, 3) := by decide +kernel
theorem dX5_plan_9 : decode cX5_plan 9 = .ok (.ifCond .eq 17, 3) := by decide +kernel
theorem dX5_plan_12 : decode cX5_plan 12 = .ok (.iload_n 2, 1) := by decide +kernel
theorem dX5_plan_13 : decode cX5_plan 13 = .ok (.iconst (-1), 1) := by decide +kernel
theorem dX5_plan_14 : decode cX5_plan 14 = .ok (.bipush 47, 2) := by decide +kernel
theorem dX5_plan_16 : decode cX5_plan 16 = .ok (.invokestatic 47, 3) := by decide +kernel
theorem dX5_plan_19 : decode cX5_plan 19 = .ok (.ifCond .eq 7, 3) := by decide +kernel
theorem dX5_plan_22 : decode cX5_plan 22 = .ok (.iconst 0, 1) := by decide +kernel
theorem dX5_plan_23 : decode cX5_plan 23 = .ok (.goto 4, 3) := by decide +kernel
theorem dX5_plan_26 : decode cX5_plan 26 = .ok (.iconst 1, 1) := by decide +kernel
theorem dX5_plan_27 : decode cX5_plan 27 = .ok (.putfield 40, 3) := by decide +kernel
theorem dX5_plan_30 : decode cX5_plan 30 = .ok (.aload_n 0, 1) := by decide +kernel
theorem dX5_plan_31 : decode cX5_plan 31 = .ok (.getfield 40, 3) := by decide +kernel
theorem dX5_plan_34 : decode cX5_plan 34 = .ok (.ifCond .le 7, 3) := by decide +kernel
theorem dX5_plan_37 : decode cX5_plan 37 = .ok (.iconst 0, 1) := by decide +kernel
theorem dX5_plan_38 : decode cX5_plan 38 = .ok (.goto 9, 3) := by decide +kernel
theorem dX5_plan_41 : decode cX5_plan 41 = .ok (.aload_n 0, 1) := by decide +kernel
theorem dX5_plan_42 : decode cX5_plan 42 = .ok (.iload_n 1, 1) := by decide +kernel
theorem dX5_plan_43 : decode cX5_plan 43 = .ok (.iload_n 2, 1) := by decide +kernel
theorem dX5_plan_44 : decode cX5_plan 44 = .ok (.invokevirtual 216, 3) := by decide +kernel
theorem dX5_plan_47 : decode cX5_plan 47 = .ok (.ireturn, 1) := by decide +kernel
theorem dX5_wrongOne_0 : decode cX5_wrongOne 0 = .ok (.iconst 0, 1) := by decide +kernel
theorem dX5_wrongOne_1 : decode cX5_wrongOne 1 = .ok (.istore_n 1, 1) := by decide +kernel
theorem dX5_wrongOne_2 : decode cX5_wrongOne 2 = .ok (.iload_n 1, 1) := by decide +kernel
theorem dX5_wrongOne_3 : decode cX5_wrongOne 3 = .ok (.aload_n 0, 1) := by decide +kernel
theorem dX5_wrongOne_4 : decode cX5_wrongOne 4 = .ok (.getfield 7, 3) := by decide +kernel
theorem dX5_wrongOne_7 : decode cX5_wrongOne 7 = .ok (.bipush 6, 2) := by decide +kernel
theorem dX5_wrongOne_9 : decode cX5_wrongOne 9 = .ok (.iaload, 1) := by decide +kernel
theorem dX5_wrongOne_10 : decode cX5_wrongOne 10 = .ok (.if_icmp .ge 17, 3) := by decide +kernel
theorem dX5_wrongOne_13 : decode cX5_wrongOne 13 = .ok (.aload_n 0, 1) := by decide +kernel
theorem dX5_wrongOne_14 : decode cX5_wrongOne 14 = .ok (.iload_n 1, 1) := by decide +kernel
theorem dX5_wrongOne_15 : decode cX5_wrongOne 15 = .ok (.invokevirtual 68, 3) := by decide +kernel
theorem dX5_wrongOne_18 : decode cX5_wrongOne 18 = .ok (.ifCond .ne 9, 3) := by decide +kernel
theorem dX5_wrongOne_21 : decode cX5_wrongOne 21 = .ok (.iinc 1 1, 3) := by decide +kernel
theorem dX5_wrongOne_24 : decode cX5_wrongOne 24 = .ok (.goto (-22), 3) := by decide +kernel
theorem dX5_wrongOne_27 : decode cX5_wrongOne 27 = .ok (.iload_n 1, 1) := by decide +kernel
theorem dX5_wrongOne_28 : decode cX5_wrongOne 28 = .ok (.aload_n 0, 1) := by decide +kernel
theorem dX5_wrongOne_29 : decode cX5_wrongOne 29 = .ok (.getfield 7, 3) := by decide +kernel
theorem dX5_wrongOne_32 : decode cX5_wrongOne 32 = .ok (.bipush 6, 2) := by decide +kernel
theorem dX5_wrongOne_34 : decode cX5_wrongOne 34 = .ok (.iaload, 1) := by decide +kernel
theorem dX5_wrongOne_35 : decode cX5_wrongOne 35 = .ok (.if_icmp .ne 7, 3) := by decide +kernel
theorem dX5_wrongOne_38 : decode cX5_wrongOne 38 = .ok (.iconst (-1), 1) := by decide +kernel
theorem dX5_wrongOne_39 : decode cX5_wrongOne 39 = .ok (.goto 4, 3) := by decide +kernel
theorem dX5_wrongOne_42 : decode cX5_wrongOne 42 = .ok (.iload_n 1, 1) := by decide +kernel
theorem dX5_wrongOne_43 : decode cX5_wrongOne 43 = .ok (.ireturn, 1) := by decide +kernel
theorem dX5_firstWrong_0 : decode cX5_firstWrong 0 = .ok (.aload_n 0, 1) := by decide +kernel
theorem dX5_firstWrong_1 : decode cX5_firstWrong 1 = .ok (.iconst 0, 1) := by decide +kernel
theorem dX5_firstWrong_2 : decode cX5_firstWrong 2 = .ok (.putfield 40, 3) := by decide +kernel
theorem dX5_firstWrong_5 : decode cX5_firstWrong 5 = .ok (.aload_n 0, 1) := by decide +kernel
theorem dX5_firstWrong_6 : decode cX5_firstWrong 6 = .ok (.invokevirtual 219, 3) := by decide +kernel
theorem dX5_firstWrong_9 : decode cX5_firstWrong 9 = .ok (.ireturn, 1) := by decide +kernel
theorem dX5_rightLeft_0 : decode cX5_rightLeft 0 = .ok (.iconst 0, 1) := by decide +kernel
theorem dX5_rightLeft_1 : decode cX5_rightLeft 1 = .ok (.istore_n 1, 1) := by decide +kernel
theorem dX5_rightLeft_2 : decode cX5_rightLeft 2 = .ok (.iconst 0, 1) := by decide +kernel
theorem dX5_rightLeft_3 : decode cX5_rightLeft 3 = .ok (.istore_n 2, 1) := by decide +kernel
theorem dX5_rightLeft_4 : decode cX5_rightLeft 4 = .ok (.iload_n 2, 1) := by decide +kernel
theorem dX5_rightLeft_5 : decode cX5_rightLeft 5 = .ok (.aload_n 0, 1) := by decide +kernel
theorem dX5_rightLeft_6 : decode cX5_rightLeft 6 = .ok (.getfield 7, 3) := by decide +kernel
theorem dX5_rightLeft_9 : decode cX5_rightLeft 9 = .ok (.bipush 6, 2) := by decide +kernel
theorem dX5_rightLeft_11 : decode cX5_rightLeft 11 = .ok (.iaload, 1) := by decide +kernel
theorem dX5_rightLeft_12 : decode cX5_rightLeft 12 = .ok (.if_icmp .ge 35, 3) := by decide +kernel
theorem dX5_rightLeft_15 : decode cX5_rightLeft 15 = .ok (.iload_n 1, 1) := by decide +kernel
theorem dX5_rightLeft_16 : decode cX5_rightLeft 16 = .ok (.aload_n 0, 1) := by decide +kernel
theorem dX5_rightLeft_17 : decode cX5_rightLeft 17 = .ok (.getfield 7, 3) := by decide +kernel
theorem dX5_rightLeft_20 : decode cX5_rightLeft 20 = .ok (.sipush 147, 3) := by decide +kernel
theorem dX5_rightLeft_23 : decode cX5_rightLeft 23 = .ok (.iload_n 2, 1) := by decide +kernel
theorem dX5_rightLeft_24 : decode cX5_rightLeft 24 = .ok (.iadd, 1) := by decide +kernel
theorem dX5_rightLeft_25 : decode cX5_rightLeft 25 = .ok (.iaload, 1) := by decide +kernel
theorem dX5_rightLeft_26 : decode cX5_rightLeft 26 = .ok (.aload_n 0, 1) := by decide +kernel
theorem dX5_rightLeft_27 : decode cX5_rightLeft 27 = .ok (.iload_n 1, 1) := by decide +kernel
theorem dX5_rightLeft_28 : decode cX5_rightLeft 28 = .ok (.invokevirtual 65, 3) := by decide +kernel
theorem dX5_rightLeft_31 : decode cX5_rightLeft 31 = .ok (.if_icmp .ne 7, 3) := by decide +kernel
theorem dX5_rightLeft_34 : decode cX5_rightLeft 34 = .ok (.iconst 1, 1) := by decide +kernel
theorem dX5_rightLeft_35 : decode cX5_rightLeft 35 = .ok (.goto 4, 3) := by decide +kernel
theorem dX5_rightLeft_38 : decode cX5_rightLeft 38 = .ok (.iconst 0, 1) := by decide +kernel
theorem dX5_rightLeft_39 : decode cX5_rightLeft 39 = .ok (.iadd, 1) := by decide +kernel
theorem dX5_rightLeft_40 : decode cX5_rightLeft 40 = .ok (.istore_n 1, 1) := by decide +kernel
theorem dX5_rightLeft_41 : decode cX5_rightLeft 41 = .ok (.iinc 2 1, 3) := by decide +kernel
theorem dX5_rightLeft_44 : decode cX5_rightLeft 44 = .ok (.goto (-40), 3) := by decide +kernel
theorem dX5_rightLeft_47 : decode cX5_rightLeft 47 = .ok (.iload_n 1, 1) := by decide +kernel
theorem dX5_rightLeft_48 : decode cX5_rightLeft 48 = .ok (.ireturn, 1) := by decide +kernel
theorem dX5_bestCrush_0 : decode cX5_bestCrush 0 = .ok (.aload_n 0, 1) := by decide +kernel
theorem dX5_bestCrush_1 : decode cX5_bestCrush 1 = .ok (.iconst 0, 1) := by decide +kernel
theorem dX5_bestCrush_2 : decode cX5_bestCrush 2 = .ok (.putfield 40, 3) := by decide +kernel
theorem dX5_bestCrush_5 : decode cX5_bestCrush 5 = .ok (.aload_n 0, 1) := by decide +kernel
theorem dX5_bestCrush_6 : decode cX5_bestCrush 6 = .ok (.invokevirtual 222, 3) := by decide +kernel
theorem dX5_bestCrush_9 : decode cX5_bestCrush 9 = .ok (.ireturn, 1) := by decide +kernel
theorem dX5_slantNow_0 : decode cX5_slantNow 0 = .ok (.aload_n 0, 1) := by decide +kernel
theorem dX5_slantNow_1 : decode cX5_slantNow 1 = .ok (.getfield 7, 3) := by decide +kernel
theorem dX5_slantNow_4 : decode cX5_slantNow 4 = .ok (.iconst 1, 1) := by decide +kernel
theorem dX5_slantNow_5 : decode cX5_slantNow 5 = .ok (.iaload, 1) := by decide +kernel
theorem dX5_slantNow_6 : decode cX5_slantNow 6 = .ok (.istore_n 1, 1) := by decide +kernel
theorem dX5_slantNow_7 : decode cX5_slantNow 7 = .ok (.iconst 0, 1) := by decide +kernel
theorem dX5_slantNow_8 : decode cX5_slantNow 8 = .ok (.istore_n 2, 1) := by decide +kernel
theorem dX5_slantNow_9 : decode cX5_slantNow 9 = .ok (.ldc 209, 2) := by decide +kernel
theorem dX5_slantNow_11 : decode cX5_slantNow 11 = .ok (.istore_n 3, 1) := by decide +kernel
theorem dX5_slantNow_12 : decode cX5_slantNow 12 = .ok (.iconst 0, 1) := by decide +kernel
theorem dX5_slantNow_13 : decode cX5_slantNow 13 = .ok (.istore 4, 2) := by decide +kernel
theorem dX5_slantNow_15 : decode cX5_slantNow 15 = .ok (.iload 4, 2) := by decide +kernel
theorem dX5_slantNow_17 : decode cX5_slantNow 17 = .ok (.bipush 12, 2) := by decide +kernel
theorem dX5_slantNow_19 : decode cX5_slantNow 19 = .ok (.if_icmp .ge 49, 3) := by decide +kernel
theorem dX5_slantNow_22 : decode cX5_slantNow 22 = .ok (.aload_n 0, 1) := by decide +kernel
theorem dX5_slantNow_23 : decode cX5_slantNow 23 = .ok (.getfield 7, 3) := by decide +kernel
theorem dX5_slantNow_26 : decode cX5_slantNow 26 = .ok (.iconst 1, 1) := by decide +kernel
theorem dX5_slantNow_27 : decode cX5_slantNow 27 = .ok (.iload 4, 2) := by decide +kernel
theorem dX5_slantNow_29 : decode cX5_slantNow 29 = .ok (.iastore, 1) := by decide +kernel
theorem dX5_slantNow_30 : decode cX5_slantNow 30 = .ok (.aload_n 0, 1) := by decide +kernel
theorem dX5_slantNow_31 : decode cX5_slantNow 31 = .ok (.invokevirtual 188, 3) := by decide +kernel
theorem dX5_slantNow_34 : decode cX5_slantNow 34 = .ok (.istore 5, 2) := by decide +kernel
theorem dX5_slantNow_36 : decode cX5_slantNow 36 = .ok (.iload 5, 2) := by decide +kernel
theorem dX5_slantNow_38 : decode cX5_slantNow 38 = .ok (.iload_n 3, 1) := by decide +kernel
theorem dX5_slantNow_39 : decode cX5_slantNow 39 = .ok (.if_icmp .ge 8, 3) := by decide +kernel
theorem dX5_slantNow_42 : decode cX5_slantNow 42 = .ok (.iload 4, 2) := by decide +kernel
theorem dX5_slantNow_44 : decode cX5_slantNow 44 = .ok (.goto 4, 3) := by decide +kernel
theorem dX5_slantNow_47 : decode cX5_slantNow 47 = .ok (.iload_n 2, 1) := by decide +kernel
theorem dX5_slantNow_48 : decode cX5_slantNow 48 = .ok (.istore_n 2, 1) := by decide +kernel
theorem dX5_slantNow_49 : decode cX5_slantNow 49 = .ok (.iload 5, 2) := by decide +kernel
theorem dX5_slantNow_51 : decode cX5_slantNow 51 = .ok (.iload_n 3, 1) := by decide +kernel
theorem dX5_slantNow_52 : decode cX5_slantNow 52 = .ok (.if_icmp .ge 8, 3) := by decide +kernel
theorem dX5_slantNow_55 : decode cX5_slantNow 55 = .ok (.iload 5, 2) := by decide +kernel
theorem dX5_slantNow_57 : decode cX5_slantNow 57 = .ok (.goto 4, 3) := by decide +kernel
theorem dX5_slantNow_60 : decode cX5_slantNow 60 = .ok (.iload_n 3, 1) := by decide +kernel
theorem dX5_slantNow_61 : decode cX5_slantNow 61 = .ok (.istore_n 3, 1) := by decide +kernel
theorem dX5_slantNow_62 : decode cX5_slantNow 62 = .ok (.iinc 4 1, 3) := by decide +kernel
theorem dX5_slantNow_65 : decode cX5_slantNow 65 = .ok (.goto (-50), 3) := by decide +kernel
theorem dX5_slantNow_68 : decode cX5_slantNow 68 = .ok (.aload_n 0, 1) := by decide +kernel
theorem dX5_slantNow_69 : decode cX5_slantNow 69 = .ok (.getfield 7, 3) := by decide +kernel
theorem dX5_slantNow_72 : decode cX5_slantNow 72 = .ok (.iconst 1, 1) := by decide +kernel
theorem dX5_slantNow_73 : decode cX5_slantNow 73 = .ok (.iload_n 1, 1) := by decide +kernel
theorem dX5_slantNow_74 : decode cX5_slantNow 74 = .ok (.iastore, 1) := by decide +kernel
theorem dX5_slantNow_75 : decode cX5_slantNow 75 = .ok (.iload_n 2, 1) := by decide +kernel
theorem dX5_slantNow_76 : decode cX5_slantNow 76 = .ok (.ireturn, 1) := by decide +kernel
theorem dX5_bestSlant_0 : decode cX5_bestSlant 0 = .ok (.aload_n 0, 1) := by decide +kernel
theorem dX5_bestSlant_1 : decode cX5_bestSlant 1 = .ok (.iconst 0, 1) := by decide +kernel
theorem dX5_bestSlant_2 : decode cX5_bestSlant 2 = .ok (.putfield 40, 3) := by decide +kernel
theorem dX5_bestSlant_5 : decode cX5_bestSlant 5 = .ok (.aload_n 0, 1) := by decide +kernel
theorem dX5_bestSlant_6 : decode cX5_bestSlant 6 = .ok (.invokevirtual 225, 3) := by decide +kernel
theorem dX5_bestSlant_9 : decode cX5_bestSlant 9 = .ok (.ireturn, 1) := by decide +kernel
theorem dX5_wrongsTurned_0 : decode cX5_wrongsTurned 0 = .ok (.aload_n 0, 1) := by decide +kernel
theorem dX5_wrongsTurned_1 : decode cX5_wrongsTurned 1 = .ok (.getfield 7, 3) := by decide +kernel
theorem dX5_wrongsTurned_4 : decode cX5_wrongsTurned 4 = .ok (.iconst 4, 1) := by decide +kernel
theorem dX5_wrongsTurned_5 : decode cX5_wrongsTurned 5 = .ok (.iaload, 1) := by decide +kernel
theorem dX5_wrongsTurned_6 : decode cX5_wrongsTurned 6 = .ok (.istore_n 2, 1) := by decide +kernel
theorem dX5_wrongsTurned_7 : decode cX5_wrongsTurned 7 = .ok (.aload_n 0, 1) := by decide +kernel
theorem dX5_wrongsTurned_8 : decode cX5_wrongsTurned 8 = .ok (.getfield 7, 3) := by decide +kernel
theorem dX5_wrongsTurned_11 : decode cX5_wrongsTurned 11 = .ok (.iconst 5, 1) := by decide +kernel
theorem dX5_wrongsTurned_12 : decode cX5_wrongsTurned 12 = .ok (.iaload, 1) := by decide +kernel
theorem dX5_wrongsTurned_13 : decode cX5_wrongsTurned 13 = .ok (.istore_n 3, 1) := by decide +kernel
theorem dX5_wrongsTurned_14 : decode cX5_wrongsTurned 14 = .ok (.iconst 0, 1) := by decide +kernel
theorem dX5_wrongsTurned_15 : decode cX5_wrongsTurned 15 = .ok (.istore 4, 2) := by decide +kernel
theorem dX5_wrongsTurned_17 : decode cX5_wrongsTurned 17 = .ok (.iload 4, 2) := by decide +kernel
theorem dX5_wrongsTurned_19 : decode cX5_wrongsTurned 19 = .ok (.bipush 120, 2) := by decide +kernel
theorem dX5_wrongsTurned_21 : decode cX5_wrongsTurned 21 = .ok (.if_icmp .ge 26, 3) := by decide +kernel
theorem dX5_wrongsTurned_24 : decode cX5_wrongsTurned 24 = .ok (.aload_n 0, 1) := by decide +kernel
theorem dX5_wrongsTurned_25 : decode cX5_wrongsTurned 25 = .ok (.getfield 37, 3) := by decide +kernel
theorem dX5_wrongsTurned_28 : decode cX5_wrongsTurned 28 = .ok (.iload 4, 2) := by decide +kernel
theorem dX5_wrongsTurned_30 : decode cX5_wrongsTurned 30 = .ok (.aload_n 0, 1) := by decide +kernel
theorem dX5_wrongsTurned_31 : decode cX5_wrongsTurned 31 = .ok (.getfield 7, 3) := by decide +kernel
theorem dX5_wrongsTurned_34 : decode cX5_wrongsTurned 34 = .ok (.bipush 27, 2) := by decide +kernel
theorem dX5_wrongsTurned_36 : decode cX5_wrongsTurned 36 = .ok (.iload 4, 2) := by decide +kernel
theorem dX5_wrongsTurned_38 : decode cX5_wrongsTurned 38 = .ok (.iadd, 1) := by decide +kernel
theorem dX5_wrongsTurned_39 : decode cX5_wrongsTurned 39 = .ok (.iaload, 1) := by decide +kernel
theorem dX5_wrongsTurned_40 : decode cX5_wrongsTurned 40 = .ok (.iastore, 1) := by decide +kernel
theorem dX5_wrongsTurned_41 : decode cX5_wrongsTurned 41 = .ok (.iinc 4 1, 3) := by decide +kernel
theorem dX5_wrongsTurned_44 : decode cX5_wrongsTurned 44 = .ok (.goto (-27), 3) := by decide +kernel
theorem dX5_wrongsTurned_47 : decode cX5_wrongsTurned 47 = .ok (.aload_n 0, 1) := by decide +kernel
theorem dX5_wrongsTurned_48 : decode cX5_wrongsTurned 48 = .ok (.iload_n 1, 1) := by decide +kernel
theorem dX5_wrongsTurned_49 : decode cX5_wrongsTurned 49 = .ok (.invokevirtual 104, 3) := by decide +kernel
theorem dX5_wrongsTurned_52 : decode cX5_wrongsTurned 52 = .ok (.aload_n 0, 1) := by decide +kernel
theorem dX5_wrongsTurned_53 : decode cX5_wrongsTurned 53 = .ok (.invokevirtual 98, 3) := by decide +kernel
theorem dX5_wrongsTurned_56 : decode cX5_wrongsTurned 56 = .ok (.aload_n 0, 1) := by decide +kernel
theorem dX5_wrongsTurned_57 : decode cX5_wrongsTurned 57 = .ok (.invokevirtual 188, 3) := by decide +kernel
theorem dX5_wrongsTurned_60 : decode cX5_wrongsTurned 60 = .ok (.istore 4, 2) := by decide +kernel
theorem dX5_wrongsTurned_62 : decode cX5_wrongsTurned 62 = .ok (.aload_n 0, 1) := by decide +kernel
theorem dX5_wrongsTurned_63 : decode cX5_wrongsTurned 63 = .ok (.getfield 7, 3) := by decide +kernel
theorem dX5_wrongsTurned_66 : decode cX5_wrongsTurned 66 = .ok (.iconst 4, 1) := by decide +kernel
theorem dX5_wrongsTurned_67 : decode cX5_wrongsTurned 67 = .ok (.iload_n 2, 1) := by decide +kernel
theorem dX5_wrongsTurned_68 : decode cX5_wrongsTurned 68 = .ok (.iastore, 1) := by decide +kernel
theorem dX5_wrongsTurned_69 : decode cX5_wrongsTurned 69 = .ok (.aload_n 0, 1) := by decide +kernel
theorem dX5_wrongsTurned_70 : decode cX5_wrongsTurned 70 = .ok (.getfield 7, 3) := by decide +kernel
theorem dX5_wrongsTurned_73 : decode cX5_wrongsTurned 73 = .ok (.iconst 5, 1) := by decide +kernel
theorem dX5_wrongsTurned_74 : decode cX5_wrongsTurned 74 = .ok (.iload_n 3, 1) := by decide +kernel
theorem dX5_wrongsTurned_75 : decode cX5_wrongsTurned 75 = .ok (.iastore, 1) := by decide +kernel
theorem dX5_wrongsTurned_76 : decode cX5_wrongsTurned 76 = .ok (.iconst 0, 1) := by decide +kernel
theorem dX5_wrongsTurned_77 : decode cX5_wrongsTurned 77 = .ok (.istore 5, 2) := by decide +kernel
theorem dX5_wrongsTurned_79 : decode cX5_wrongsTurned 79 = .ok (.iload 5, 2) := by decide +kernel
theorem dX5_wrongsTurned_81 : decode cX5_wrongsTurned 81 = .ok (.bipush 120, 2) := by decide +kernel
theorem dX5_wrongsTurned_83 : decode cX5_wrongsTurned 83 = .ok (.if_icmp .ge 26, 3) := by decide +kernel
theorem dX5_wrongsTurned_86 : decode cX5_wrongsTurned 86 = .ok (.aload_n 0, 1) := by decide +kernel
theorem dX5_wrongsTurned_87 : decode cX5_wrongsTurned 87 = .ok (.getfield 7, 3) := by decide +kernel
theorem dX5_wrongsTurned_90 : decode cX5_wrongsTurned 90 = .ok (.bipush 27, 2) := by decide +kernel
theorem dX5_wrongsTurned_92 : decode cX5_wrongsTurned 92 = .ok (.iload 5, 2) := by decide +kernel
theorem dX5_wrongsTurned_94 : decode cX5_wrongsTurned 94 = .ok (.iadd, 1) := by decide +kernel
theorem dX5_wrongsTurned_95 : decode cX5_wrongsTurned 95 = .ok (.aload_n 0, 1) := by decide +kernel
theorem dX5_wrongsTurned_96 : decode cX5_wrongsTurned 96 = .ok (.getfield 37, 3) := by decide +kernel
theorem dX5_wrongsTurned_99 : decode cX5_wrongsTurned 99 = .ok (.iload 5, 2) := by decide +kernel
theorem dX5_wrongsTurned_101 : decode cX5_wrongsTurned 101 = .ok (.iaload, 1) := by decide +kernel
theorem dX5_wrongsTurned_102 : decode cX5_wrongsTurned 102 = .ok (.iastore, 1) := by decide +kernel
theorem dX5_wrongsTurned_103 : decode cX5_wrongsTurned 103 = .ok (.iinc 5 1, 3) := by decide +kernel
theorem dX5_wrongsTurned_106 : decode cX5_wrongsTurned 106 = .ok (.goto (-27), 3) := by decide +kernel
theorem dX5_wrongsTurned_109 : decode cX5_wrongsTurned 109 = .ok (.iload 4, 2) := by decide +kernel
theorem dX5_wrongsTurned_111 : decode cX5_wrongsTurned 111 = .ok (.ireturn, 1) := by decide +kernel
theorem dX5_turnNow_0 : decode cX5_turnNow 0 = .ok (.iconst (-1), 1) := by decide +kernel
theorem dX5_turnNow_1 : decode cX5_turnNow 1 = .ok (.istore_n 1, 1) := by decide +kernel
theorem dX5_turnNow_2 : decode cX5_turnNow 2 = .ok (.aload_n 0, 1) := by decide +kernel
theorem dX5_turnNow_3 : decode cX5_turnNow 3 = .ok (.invokevirtual 188, 3) := by decide +kernel
theorem dX5_turnNow_6 : decode cX5_turnNow 6 = .ok (.istore_n 2, 1) := by decide +kernel
theorem dX5_turnNow_7 : decode cX5_turnNow 7 = .ok (.iconst 0, 1) := by decide +kernel
theorem dX5_turnNow_8 : decode cX5_turnNow 8 = .ok (.istore_n 3, 1) := by decide +kernel
theorem dX5_turnNow_9 : decode cX5_turnNow 9 = .ok (.iload_n 3, 1) := by decide +kernel
theorem dX5_turnNow_10 : decode cX5_turnNow 10 = .ok (.iconst 5, 1) := by decide +kernel
theorem dX5_turnNow_11 : decode cX5_turnNow 11 = .ok (.if_icmp .ge 54, 3) := by decide +kernel
theorem dX5_turnNow_14 : decode cX5_turnNow 14 = .ok (.aload_n 0, 1) := by decide +kernel
theorem dX5_turnNow_15 : decode cX5_turnNow 15 = .ok (.iload_n 3, 1) := by decide +kernel
theorem dX5_turnNow_16 : decode cX5_turnNow 16 = .ok (.invokevirtual 101, 3) := by decide +kernel
theorem dX5_turnNow_19 : decode cX5_turnNow 19 = .ok (.ifCond .eq 11, 3) := by decide +kernel
theorem dX5_turnNow_22 : decode cX5_turnNow 22 = .ok (.aload_n 0, 1) := by decide +kernel
theorem dX5_turnNow_23 : decode cX5_turnNow 23 = .ok (.iload_n 3, 1) := by decide +kernel
theorem dX5_turnNow_24 : decode cX5_turnNow 24 = .ok (.invokevirtual 228, 3) := by decide +kernel
theorem dX5_turnNow_27 : decode cX5_turnNow 27 = .ok (.goto 5, 3) := by decide +kernel
theorem dX5_turnNow_30 : decode cX5_turnNow 30 = .ok (.ldc 209, 2) := by decide +kernel
theorem dX5_turnNow_32 : decode cX5_turnNow 32 = .ok (.istore 4, 2) := by decide +kernel
theorem dX5_turnNow_34 : decode cX5_turnNow 34 = .ok (.iload 4, 2) := by decide +kernel
theorem dX5_turnNow_36 : decode cX5_turnNow 36 = .ok (.iload_n 2, 1) := by decide +kernel
theorem dX5_turnNow_37 : decode cX5_turnNow 37 = .ok (.if_icmp .ge 7, 3) := by decide +kernel
theorem dX5_turnNow_40 : decode cX5_turnNow 40 = .ok (.iload_n 3, 1) := by decide +kernel
theorem dX5_turnNow_41 : decode cX5_turnNow 41 = .ok (.goto 4, 3) := by decide +kernel
theorem dX5_turnNow_44 : decode cX5_turnNow 44 = .ok (.iload_n 1, 1) := by decide +kernel
theorem dX5_turnNow_45 : decode cX5_turnNow 45 = .ok (.istore_n 1, 1) := by decide +kernel
theorem dX5_turnNow_46 : decode cX5_turnNow 46 = .ok (.iload 4, 2) := by decide +kernel
theorem dX5_turnNow_48 : decode cX5_turnNow 48 = .ok (.iload_n 2, 1) := by decide +kernel
theorem dX5_turnNow_49 : decode cX5_turnNow 49 = .ok (.if_icmp .ge 8, 3) := by decide +kernel
theorem dX5_turnNow_52 : decode cX5_turnNow 52 = .ok (.iload 4, 2) := by decide +kernel
theorem dX5_turnNow_54 : decode cX5_turnNow 54 = .ok (.goto 4, 3) := by decide +kernel
theorem dX5_turnNow_57 : decode cX5_turnNow 57 = .ok (.iload_n 2, 1) := by decide +kernel
theorem dX5_turnNow_58 : decode cX5_turnNow 58 = .ok (.istore_n 2, 1) := by decide +kernel
theorem dX5_turnNow_59 : decode cX5_turnNow 59 = .ok (.iinc 3 1, 3) := by decide +kernel
theorem dX5_turnNow_62 : decode cX5_turnNow 62 = .ok (.goto (-53), 3) := by decide +kernel
theorem dX5_turnNow_65 : decode cX5_turnNow 65 = .ok (.iload_n 1, 1) := by decide +kernel
theorem dX5_turnNow_66 : decode cX5_turnNow 66 = .ok (.ireturn, 1) := by decide +kernel
theorem dX5_bestTurn_0 : decode cX5_bestTurn 0 = .ok (.aload_n 0, 1) := by decide +kernel
theorem dX5_bestTurn_1 : decode cX5_bestTurn 1 = .ok (.iconst 0, 1) := by decide +kernel
theorem dX5_bestTurn_2 : decode cX5_bestTurn 2 = .ok (.putfield 40, 3) := by decide +kernel
theorem dX5_bestTurn_5 : decode cX5_bestTurn 5 = .ok (.aload_n 0, 1) := by decide +kernel
theorem dX5_bestTurn_6 : decode cX5_bestTurn 6 = .ok (.invokevirtual 231, 3) := by decide +kernel
theorem dX5_bestTurn_9 : decode cX5_bestTurn 9 = .ok (.ireturn, 1) := by decide +kernel
theorem dX5_share_0 : decode cX5_share 0 = .ok (.aload_n 0, 1) := by decide +kernel
theorem dX5_share_1 : decode cX5_share 1 = .ok (.getfield 7, 3) := by decide +kernel
theorem dX5_share_4 : decode cX5_share 4 = .ok (.bipush 6, 2) := by decide +kernel
theorem dX5_share_6 : decode cX5_share 6 = .ok (.iaload, 1) := by decide +kernel
theorem dX5_share_7 : decode cX5_share 7 = .ok (.ifCond .ne 7, 3) := by decide +kernel
theorem dX5_share_10 : decode cX5_share 10 = .ok (.dconst 0, 1) := by decide +kernel
theorem dX5_share_11 : decode cX5_share 11 = .ok (.goto 17, 3) := by decide +kernel
theorem dX5_share_14 : decode cX5_share 14 = .ok (.aload_n 0, 1) := by decide +kernel
theorem dX5_share_15 : decode cX5_share 15 = .ok (.invokevirtual 188, 3) := by decide +kernel
theorem dX5_share_18 : decode cX5_share 18 = .ok (.i2d, 1) := by decide +kernel
theorem dX5_share_19 : decode cX5_share 19 = .ok (.aload_n 0, 1) := by decide +kernel
theorem dX5_share_20 : decode cX5_share 20 = .ok (.getfield 7, 3) := by decide +kernel
theorem dX5_share_23 : decode cX5_share 23 = .ok (.bipush 6, 2) := by decide +kernel
theorem dX5_share_25 : decode cX5_share 25 = .ok (.iaload, 1) := by decide +kernel
theorem dX5_share_26 : decode cX5_share 26 = .ok (.i2d, 1) := by decide +kernel
theorem dX5_share_27 : decode cX5_share 27 = .ok (.ddiv, 1) := by decide +kernel
theorem dX5_share_28 : decode cX5_share 28 = .ok (.dreturn, 1) := by decide +kernel
theorem dX5_wrongShare_0 : decode cX5_wrongShare 0 = .ok (.aload_n 0, 1) := by decide +kernel
theorem dX5_wrongShare_1 : decode cX5_wrongShare 1 = .ok (.iconst 0, 1) := by decide +kernel
theorem dX5_wrongShare_2 : decode cX5_wrongShare 2 = .ok (.putfield 40, 3) := by decide +kernel
theorem dX5_wrongShare_5 : decode cX5_wrongShare 5 = .ok (.aload_n 0, 1) := by decide +kernel
theorem dX5_wrongShare_6 : decode cX5_wrongShare 6 = .ok (.invokevirtual 234, 3) := by decide +kernel
theorem dX5_wrongShare_9 : decode cX5_wrongShare 9 = .ok (.dreturn, 1) := by decide +kernel
theorem dX5_mix_0 : decode cX5_mix 0 = .ok (.aload_n 0, 1) := by decide +kernel
theorem dX5_mix_1 : decode cX5_mix 1 = .ok (.ldc2_w 238, 3) := by decide +kernel
theorem dX5_mix_4 : decode cX5_mix 4 = .ok (.aload_n 0, 1) := by decide +kernel
theorem dX5_mix_5 : decode cX5_mix 5 = .ok (.getfield 240, 3) := by decide +kernel
theorem dX5_mix_8 : decode cX5_mix 8 = .ok (.lmul, 1) := by decide +kernel
theorem dX5_mix_9 : decode cX5_mix 9 = .ok (.lload_n 1, 1) := by decide +kernel
theorem dX5_mix_10 : decode cX5_mix 10 = .ok (.ladd, 1) := by decide +kernel
theorem dX5_mix_11 : decode cX5_mix 11 = .ok (.putfield 240, 3) := by decide +kernel
theorem dX5_mix_14 : decode cX5_mix 14 = .ok (.return_, 1) := by decide +kernel
theorem dX5_mixChart_0 : decode cX5_mixChart 0 = .ok (.iconst 0, 1) := by decide +kernel
theorem dX5_mixChart_1 : decode cX5_mixChart 1 = .ok (.istore_n 1, 1) := by decide +kernel
theorem dX5_mixChart_2 : decode cX5_mixChart 2 = .ok (.iload_n 1, 1) := by decide +kernel
theorem dX5_mixChart_3 : decode cX5_mixChart 3 = .ok (.aload_n 0, 1) := by decide +kernel
theorem dX5_mixChart_4 : decode cX5_mixChart 4 = .ok (.getfield 7, 3) := by decide +kernel
theorem dX5_mixChart_7 : decode cX5_mixChart 7 = .ok (.iconst 4, 1) := by decide +kernel
theorem dX5_mixChart_8 : decode cX5_mixChart 8 = .ok (.iaload, 1) := by decide +kernel
theorem dX5_mixChart_9 : decode cX5_mixChart 9 = .ok (.if_icmp .ge 38, 3) := by decide +kernel
theorem dX5_mixChart_12 : decode cX5_mixChart 12 = .ok (.iconst 0, 1) := by decide +kernel
theorem dX5_mixChart_13 : decode cX5_mixChart 13 = .ok (.istore_n 2, 1) := by decide +kernel
theorem dX5_mixChart_14 : decode cX5_mixChart 14 = .ok (.iload_n 2, 1) := by decide +kernel
theorem dX5_mixChart_15 : decode cX5_mixChart 15 = .ok (.aload_n 0, 1) := by decide +kernel
theorem dX5_mixChart_16 : decode cX5_mixChart 16 = .ok (.getfield 7, 3) := by decide +kernel
theorem dX5_mixChart_19 : decode cX5_mixChart 19 = .ok (.iconst 5, 1) := by decide +kernel
theorem dX5_mixChart_20 : decode cX5_mixChart 20 = .ok (.iaload, 1) := by decide +kernel
theorem dX5_mixChart_21 : decode cX5_mixChart 21 = .ok (.if_icmp .ge 20, 3) := by decide +kernel
theorem dX5_mixChart_24 : decode cX5_mixChart 24 = .ok (.aload_n 0, 1) := by decide +kernel
theorem dX5_mixChart_25 : decode cX5_mixChart 25 = .ok (.aload_n 0, 1) := by decide +kernel
theorem dX5_mixChart_26 : decode cX5_mixChart 26 = .ok (.iload_n 1, 1) := by decide +kernel
theorem dX5_mixChart_27 : decode cX5_mixChart 27 = .ok (.iload_n 2, 1) := by decide +kernel
theorem dX5_mixChart_28 : decode cX5_mixChart 28 = .ok (.invokevirtual 61, 3) := by decide +kernel
theorem dX5_mixChart_31 : decode cX5_mixChart 31 = .ok (.i2l, 1) := by decide +kernel
theorem dX5_mixChart_32 : decode cX5_mixChart 32 = .ok (.invokevirtual 244, 3) := by decide +kernel
theorem dX5_mixChart_35 : decode cX5_mixChart 35 = .ok (.iinc 2 1, 3) := by decide +kernel
theorem dX5_mixChart_38 : decode cX5_mixChart 38 = .ok (.goto (-24), 3) := by decide +kernel
theorem dX5_mixChart_41 : decode cX5_mixChart 41 = .ok (.iinc 1 1, 3) := by decide +kernel
theorem dX5_mixChart_44 : decode cX5_mixChart 44 = .ok (.goto (-42), 3) := by decide +kernel
theorem dX5_mixChart_47 : decode cX5_mixChart 47 = .ok (.iconst 0, 1) := by decide +kernel
theorem dX5_mixChart_48 : decode cX5_mixChart 48 = .ok (.istore_n 1, 1) := by decide +kernel
theorem dX5_mixChart_49 : decode cX5_mixChart 49 = .ok (.iload_n 1, 1) := by decide +kernel
theorem dX5_mixChart_50 : decode cX5_mixChart 50 = .ok (.bipush 6, 2) := by decide +kernel
theorem dX5_mixChart_52 : decode cX5_mixChart 52 = .ok (.if_icmp .ge 46, 3) := by decide +kernel
theorem dX5_mixChart_55 : decode cX5_mixChart 55 = .ok (.iconst 0, 1) := by decide +kernel
theorem dX5_mixChart_56 : decode cX5_mixChart 56 = .ok (.istore_n 2, 1) := by decide +kernel
theorem dX5_mixChart_57 : decode cX5_mixChart 57 = .ok (.iload_n 2, 1) := by decide +kernel
theorem dX5_mixChart_58 : decode cX5_mixChart 58 = .ok (.bipush 6, 2) := by decide +kernel
theorem dX5_mixChart_60 : decode cX5_mixChart 60 = .ok (.if_icmp .ge 20, 3) := by decide +kernel
theorem dX5_mixChart_63 : decode cX5_mixChart 63 = .ok (.aload_n 0, 1) := by decide +kernel
theorem dX5_mixChart_64 : decode cX5_mixChart 64 = .ok (.aload_n 0, 1) := by decide +kernel
theorem dX5_mixChart_65 : decode cX5_mixChart 65 = .ok (.iload_n 1, 1) := by decide +kernel
theorem dX5_mixChart_66 : decode cX5_mixChart 66 = .ok (.iload_n 2, 1) := by decide +kernel
theorem dX5_mixChart_67 : decode cX5_mixChart 67 = .ok (.invokevirtual 185, 3) := by decide +kernel
theorem dX5_mixChart_70 : decode cX5_mixChart 70 = .ok (.i2l, 1) := by decide +kernel
theorem dX5_mixChart_71 : decode cX5_mixChart 71 = .ok (.invokevirtual 244, 3) := by decide +kernel
theorem dX5_mixChart_74 : decode cX5_mixChart 74 = .ok (.iinc 2 1, 3) := by decide +kernel
theorem dX5_mixChart_77 : decode cX5_mixChart 77 = .ok (.goto (-20), 3) := by decide +kernel
theorem dX5_mixChart_80 : decode cX5_mixChart 80 = .ok (.aload_n 0, 1) := by decide +kernel
theorem dX5_mixChart_81 : decode cX5_mixChart 81 = .ok (.aload_n 0, 1) := by decide +kernel
theorem dX5_mixChart_82 : decode cX5_mixChart 82 = .ok (.iload_n 1, 1) := by decide +kernel
theorem dX5_mixChart_83 : decode cX5_mixChart 83 = .ok (.bipush 60, 2) := by decide +kernel
theorem dX5_mixChart_85 : decode cX5_mixChart 85 = .ok (.invokevirtual 206, 3) := by decide +kernel
theorem dX5_mixChart_88 : decode cX5_mixChart 88 = .ok (.i2l, 1) := by decide +kernel
theorem dX5_mixChart_89 : decode cX5_mixChart 89 = .ok (.invokevirtual 244, 3) := by decide +kernel
theorem dX5_mixChart_92 : decode cX5_mixChart 92 = .ok (.iinc 1 1, 3) := by decide +kernel
theorem dX5_mixChart_95 : decode cX5_mixChart 95 = .ok (.goto (-46), 3) := by decide +kernel
theorem dX5_mixChart_98 : decode cX5_mixChart 98 = .ok (.return_, 1) := by decide +kernel
theorem dX5_mixWouldBe_0 : decode cX5_mixWouldBe 0 = .ok (.aload_n 0, 1) := by decide +kernel
theorem dX5_mixWouldBe_1 : decode cX5_mixWouldBe 1 = .ok (.aload_n 0, 1) := by decide +kernel
theorem dX5_mixWouldBe_2 : decode cX5_mixWouldBe 2 = .ok (.bipush 120, 2) := by decide +kernel
theorem dX5_mixWouldBe_4 : decode cX5_mixWouldBe 4 = .ok (.iconst (-1), 1) := by decide +kernel
theorem dX5_mixWouldBe_5 : decode cX5_mixWouldBe 5 = .ok (.invokevirtual 216, 3) := by decide +kernel
theorem dX5_mixWouldBe_8 : decode cX5_mixWouldBe 8 = .ok (.i2l, 1) := by decide +kernel
theorem dX5_mixWouldBe_9 : decode cX5_mixWouldBe 9 = .ok (.invokevirtual 244, 3) := by decide +kernel
theorem dX5_mixWouldBe_12 : decode cX5_mixWouldBe 12 = .ok (.iconst 0, 1) := by decide +kernel
theorem dX5_mixWouldBe_13 : decode cX5_mixWouldBe 13 = .ok (.istore_n 1, 1) := by decide +kernel
theorem dX5_mixWouldBe_14 : decode cX5_mixWouldBe 14 = .ok (.iload_n 1, 1) := by decide +kernel
theorem dX5_mixWouldBe_15 : decode cX5_mixWouldBe 15 = .ok (.bipush 8, 2) := by decide +kernel
theorem dX5_mixWouldBe_17 : decode cX5_mixWouldBe 17 = .ok (.if_icmp .ge 21, 3) := by decide +kernel
theorem dX5_mixWouldBe_20 : decode cX5_mixWouldBe 20 = .ok (.aload_n 0, 1) := by decide +kernel
theorem dX5_mixWouldBe_21 : decode cX5_mixWouldBe 21 = .ok (.aload_n 0, 1) := by decide +kernel
theorem dX5_mixWouldBe_22 : decode cX5_mixWouldBe 22 = .ok (.bipush 120, 2) := by decide +kernel
theorem dX5_mixWouldBe_24 : decode cX5_mixWouldBe 24 = .ok (.iload_n 1, 1) := by decide +kernel
theorem dX5_mixWouldBe_25 : decode cX5_mixWouldBe 25 = .ok (.invokevirtual 216, 3) := by decide +kernel
theorem dX5_mixWouldBe_28 : decode cX5_mixWouldBe 28 = .ok (.i2l, 1) := by decide +kernel
theorem dX5_mixWouldBe_29 : decode cX5_mixWouldBe 29 = .ok (.invokevirtual 244, 3) := by decide +kernel
theorem dX5_mixWouldBe_32 : decode cX5_mixWouldBe 32 = .ok (.iinc 1 1, 3) := by decide +kernel
theorem dX5_mixWouldBe_35 : decode cX5_mixWouldBe 35 = .ok (.goto (-21), 3) := by decide +kernel
theorem dX5_mixWouldBe_38 : decode cX5_mixWouldBe 38 = .ok (.aload_n 0, 1) := by decide +kernel
theorem dX5_mixWouldBe_39 : decode cX5_mixWouldBe 39 = .ok (.aload_n 0, 1) := by decide +kernel
theorem dX5_mixWouldBe_40 : decode cX5_mixWouldBe 40 = .ok (.invokevirtual 219, 3) := by decide +kernel
theorem dX5_mixWouldBe_43 : decode cX5_mixWouldBe 43 = .ok (.i2l, 1) := by decide +kernel
theorem dX5_mixWouldBe_44 : decode cX5_mixWouldBe 44 = .ok (.invokevirtual 244, 3) := by decide +kernel
theorem dX5_mixWouldBe_47 : decode cX5_mixWouldBe 47 = .ok (.aload_n 0, 1) := by decide +kernel
theorem dX5_mixWouldBe_48 : decode cX5_mixWouldBe 48 = .ok (.aload_n 0, 1) := by decide +kernel
theorem dX5_mixWouldBe_49 : decode cX5_mixWouldBe 49 = .ok (.invokevirtual 222, 3) := by decide +kernel
theorem dX5_mixWouldBe_52 : decode cX5_mixWouldBe 52 = .ok (.i2l, 1) := by decide +kernel
theorem dX5_mixWouldBe_53 : decode cX5_mixWouldBe 53 = .ok (.invokevirtual 244, 3) := by decide +kernel
theorem dX5_mixWouldBe_56 : decode cX5_mixWouldBe 56 = .ok (.aload_n 0, 1) := by decide +kernel
theorem dX5_mixWouldBe_57 : decode cX5_mixWouldBe 57 = .ok (.aload_n 0, 1) := by decide +kernel
theorem dX5_mixWouldBe_58 : decode cX5_mixWouldBe 58 = .ok (.invokevirtual 225, 3) := by decide +kernel
theorem dX5_mixWouldBe_61 : decode cX5_mixWouldBe 61 = .ok (.i2l, 1) := by decide +kernel
theorem dX5_mixWouldBe_62 : decode cX5_mixWouldBe 62 = .ok (.invokevirtual 244, 3) := by decide +kernel
theorem dX5_mixWouldBe_65 : decode cX5_mixWouldBe 65 = .ok (.aload_n 0, 1) := by decide +kernel
theorem dX5_mixWouldBe_66 : decode cX5_mixWouldBe 66 = .ok (.aload_n 0, 1) := by decide +kernel
theorem dX5_mixWouldBe_67 : decode cX5_mixWouldBe 67 = .ok (.invokevirtual 231, 3) := by decide +kernel
theorem dX5_mixWouldBe_70 : decode cX5_mixWouldBe 70 = .ok (.i2l, 1) := by decide +kernel
theorem dX5_mixWouldBe_71 : decode cX5_mixWouldBe 71 = .ok (.invokevirtual 244, 3) := by decide +kernel
theorem dX5_mixWouldBe_74 : decode cX5_mixWouldBe 74 = .ok (.aload_n 0, 1) := by decide +kernel
theorem dX5_mixWouldBe_75 : decode cX5_mixWouldBe 75 = .ok (.aload_n 0, 1) := by decide +kernel
theorem dX5_mixWouldBe_76 : decode cX5_mixWouldBe 76 = .ok (.invokevirtual 234, 3) := by decide +kernel
theorem dX5_mixWouldBe_79 : decode cX5_mixWouldBe 79 = .ok (.invokestatic 248, 3) := by decide +kernel
theorem dX5_mixWouldBe_82 : decode cX5_mixWouldBe 82 = .ok (.invokevirtual 244, 3) := by decide +kernel
theorem dX5_mixWouldBe_85 : decode cX5_mixWouldBe 85 = .ok (.return_, 1) := by decide +kernel
theorem dX5_digest_0 : decode cX5_digest 0 = .ok (.aload_n 0, 1) := by decide +kernel
theorem dX5_digest_1 : decode cX5_digest 1 = .ok (.iconst 0, 1) := by decide +kernel
theorem dX5_digest_2 : decode cX5_digest 2 = .ok (.putfield 40, 3) := by decide +kernel
theorem dX5_digest_5 : decode cX5_digest 5 = .ok (.aload_n 0, 1) := by decide +kernel
theorem dX5_digest_6 : decode cX5_digest 6 = .ok (.ldc2_w 254, 3) := by decide +kernel
theorem dX5_digest_9 : decode cX5_digest 9 = .ok (.putfield 240, 3) := by decide +kernel
theorem dX5_digest_12 : decode cX5_digest 12 = .ok (.iconst 0, 1) := by decide +kernel
theorem dX5_digest_13 : decode cX5_digest 13 = .ok (.istore_n 1, 1) := by decide +kernel
theorem dX5_digest_14 : decode cX5_digest 14 = .ok (.iload_n 1, 1) := by decide +kernel
theorem dX5_digest_15 : decode cX5_digest 15 = .ok (.bipush 13, 2) := by decide +kernel
theorem dX5_digest_17 : decode cX5_digest 17 = .ok (.if_icmp .ge 19, 3) := by decide +kernel
theorem dX5_digest_20 : decode cX5_digest 20 = .ok (.aload_n 0, 1) := by decide +kernel
theorem dX5_digest_21 : decode cX5_digest 21 = .ok (.aload_n 0, 1) := by decide +kernel
theorem dX5_digest_22 : decode cX5_digest 22 = .ok (.iload_n 1, 1) := by decide +kernel
theorem dX5_digest_23 : decode cX5_digest 23 = .ok (.invokevirtual 203, 3) := by decide +kernel
theorem dX5_digest_26 : decode cX5_digest 26 = .ok (.i2l, 1) := by decide +kernel
theorem dX5_digest_27 : decode cX5_digest 27 = .ok (.invokevirtual 244, 3) := by decide +kernel
theorem dX5_digest_30 : decode cX5_digest 30 = .ok (.iinc 1 1, 3) := by decide +kernel
theorem dX5_digest_33 : decode cX5_digest 33 = .ok (.goto (-19), 3) := by decide +kernel
theorem dX5_digest_36 : decode cX5_digest 36 = .ok (.iconst 0, 1) := by decide +kernel
theorem dX5_digest_37 : decode cX5_digest 37 = .ok (.istore_n 1, 1) := by decide +kernel
theorem dX5_digest_38 : decode cX5_digest 38 = .ok (.iload_n 1, 1) := by decide +kernel
theorem dX5_digest_39 : decode cX5_digest 39 = .ok (.iconst 4, 1) := by decide +kernel
theorem dX5_digest_40 : decode cX5_digest 40 = .ok (.if_icmp .ge 22, 3) := by decide +kernel
theorem dX5_digest_43 : decode cX5_digest 43 = .ok (.aload_n 0, 1) := by decide +kernel
theorem dX5_digest_44 : decode cX5_digest 44 = .ok (.aload_n 0, 1) := by decide +kernel
theorem dX5_digest_45 : decode cX5_digest 45 = .ok (.getfield 7, 3) := by decide +kernel
theorem dX5_digest_48 : decode cX5_digest 48 = .ok (.iconst 0, 1) := by decide +kernel
theorem dX5_digest_49 : decode cX5_digest 49 = .ok (.iload_n 1, 1) := by decide +kernel
theorem dX5_digest_50 : decode cX5_digest 50 = .ok (.iadd, 1) := by decide +kernel
theorem dX5_digest_51 : decode cX5_digest 51 = .ok (.iaload, 1) := by decide +kernel
theorem dX5_digest_52 : decode cX5_digest 52 = .ok (.i2l, 1) := by decide +kernel
theorem dX5_digest_53 : decode cX5_digest 53 = .ok (.invokevirtual 244, 3) := by decide +kernel
theorem dX5_digest_56 : decode cX5_digest 56 = .ok (.iinc 1 1, 3) := by decide +kernel
theorem dX5_digest_59 : decode cX5_digest 59 = .ok (.goto (-21), 3) := by decide +kernel
theorem dX5_digest_62 : decode cX5_digest 62 = .ok (.aload_n 0, 1) := by decide +kernel
theorem dX5_digest_63 : decode cX5_digest 63 = .ok (.invokevirtual 256, 3) := by decide +kernel
theorem dX5_digest_66 : decode cX5_digest 66 = .ok (.iconst 0, 1) := by decide +kernel
theorem dX5_digest_67 : decode cX5_digest 67 = .ok (.istore_n 1, 1) := by decide +kernel
theorem dX5_digest_68 : decode cX5_digest 68 = .ok (.iload_n 1, 1) := by decide +kernel
theorem dX5_digest_69 : decode cX5_digest 69 = .ok (.iconst 4, 1) := by decide +kernel
theorem dX5_digest_70 : decode cX5_digest 70 = .ok (.aload_n 0, 1) := by decide +kernel
theorem dX5_digest_71 : decode cX5_digest 71 = .ok (.getfield 7, 3) := by decide +kernel
theorem dX5_digest_74 : decode cX5_digest 74 = .ok (.bipush 6, 2) := by decide +kernel
theorem dX5_digest_76 : decode cX5_digest 76 = .ok (.iaload, 1) := by decide +kernel
theorem dX5_digest_77 : decode cX5_digest 77 = .ok (.imul, 1) := by decide +kernel
theorem dX5_digest_78 : decode cX5_digest 78 = .ok (.if_icmp .ge 24, 3) := by decide +kernel
theorem dX5_digest_81 : decode cX5_digest 81 = .ok (.aload_n 0, 1) := by decide +kernel
theorem dX5_digest_82 : decode cX5_digest 82 = .ok (.aload_n 0, 1) := by decide +kernel
theorem dX5_digest_83 : decode cX5_digest 83 = .ok (.iload_n 1, 1) := by decide +kernel
theorem dX5_digest_84 : decode cX5_digest 84 = .ok (.iconst 4, 1) := by decide +kernel
theorem dX5_digest_85 : decode cX5_digest 85 = .ok (.idiv, 1) := by decide +kernel
theorem dX5_digest_86 : decode cX5_digest 86 = .ok (.iload_n 1, 1) := by decide +kernel
theorem dX5_digest_87 : decode cX5_digest 87 = .ok (.iconst 4, 1) := by decide +kernel
theorem dX5_digest_88 : decode cX5_digest 88 = .ok (.irem, 1) := by decide +kernel
theorem dX5_digest_89 : decode cX5_digest 89 = .ok (.invokevirtual 172, 3) := by decide +kernel
theorem dX5_digest_92 : decode cX5_digest 92 = .ok (.i2l, 1) := by decide +kernel
theorem dX5_digest_93 : decode cX5_digest 93 = .ok (.invokevirtual 244, 3) := by decide +kernel
theorem dX5_digest_96 : decode cX5_digest 96 = .ok (.iinc 1 1, 3) := by decide +kernel
theorem dX5_digest_99 : decode cX5_digest 99 = .ok (.goto (-31), 3) := by decide +kernel
theorem dX5_digest_102 : decode cX5_digest 102 = .ok (.iconst 0, 1) := by decide +kernel
theorem dX5_digest_103 : decode cX5_digest 103 = .ok (.istore_n 1, 1) := by decide +kernel
theorem dX5_digest_104 : decode cX5_digest 104 = .ok (.iload_n 1, 1) := by decide +kernel
theorem dX5_digest_105 : decode cX5_digest 105 = .ok (.iconst 4, 1) := by decide +kernel
theorem dX5_digest_106 : decode cX5_digest 106 = .ok (.aload_n 0, 1) := by decide +kernel
theorem dX5_digest_107 : decode cX5_digest 107 = .ok (.getfield 7, 3) := by decide +kernel
theorem dX5_digest_110 : decode cX5_digest 110 = .ok (.bipush 7, 2) := by decide +kernel
theorem dX5_digest_112 : decode cX5_digest 112 = .ok (.iaload, 1) := by decide +kernel
theorem dX5_digest_113 : decode cX5_digest 113 = .ok (.imul, 1) := by decide +kernel
theorem dX5_digest_114 : decode cX5_digest 114 = .ok (.if_icmp .ge 24, 3) := by decide +kernel
theorem dX5_digest_117 : decode cX5_digest 117 = .ok (.aload_n 0, 1) := by decide +kernel
theorem dX5_digest_118 : decode cX5_digest 118 = .ok (.aload_n 0, 1) := by decide +kernel
theorem dX5_digest_119 : decode cX5_digest 119 = .ok (.iload_n 1, 1) := by decide +kernel
theorem dX5_digest_120 : decode cX5_digest 120 = .ok (.iconst 4, 1) := by decide +kernel
theorem dX5_digest_121 : decode cX5_digest 121 = .ok (.idiv, 1) := by decide +kernel
theorem dX5_digest_122 : decode cX5_digest 122 = .ok (.iload_n 1, 1) := by decide +kernel
theorem dX5_digest_123 : decode cX5_digest 123 = .ok (.iconst 4, 1) := by decide +kernel
theorem dX5_digest_124 : decode cX5_digest 124 = .ok (.irem, 1) := by decide +kernel
theorem dX5_digest_125 : decode cX5_digest 125 = .ok (.invokevirtual 175, 3) := by decide +kernel
theorem dX5_digest_128 : decode cX5_digest 128 = .ok (.i2l, 1) := by decide +kernel
theorem dX5_digest_129 : decode cX5_digest 129 = .ok (.invokevirtual 244, 3) := by decide +kernel
theorem dX5_digest_132 : decode cX5_digest 132 = .ok (.iinc 1 1, 3) := by decide +kernel
theorem dX5_digest_135 : decode cX5_digest 135 = .ok (.goto (-31), 3) := by decide +kernel
theorem dX5_digest_138 : decode cX5_digest 138 = .ok (.aload_n 0, 1) := by decide +kernel
theorem dX5_digest_139 : decode cX5_digest 139 = .ok (.invokevirtual 259, 3) := by decide +kernel
theorem dX5_digest_142 : decode cX5_digest 142 = .ok (.aload_n 0, 1) := by decide +kernel
theorem dX5_digest_143 : decode cX5_digest 143 = .ok (.aload_n 0, 1) := by decide +kernel
theorem dX5_digest_144 : decode cX5_digest 144 = .ok (.getfield 85, 3) := by decide +kernel
theorem dX5_digest_147 : decode cX5_digest 147 = .ok (.i2l, 1) := by decide +kernel
theorem dX5_digest_148 : decode cX5_digest 148 = .ok (.invokevirtual 244, 3) := by decide +kernel
theorem dX5_digest_151 : decode cX5_digest 151 = .ok (.iconst 0, 1) := by decide +kernel
theorem dX5_digest_152 : decode cX5_digest 152 = .ok (.istore_n 1, 1) := by decide +kernel
theorem dX5_digest_153 : decode cX5_digest 153 = .ok (.iload_n 1, 1) := by decide +kernel
theorem dX5_digest_154 : decode cX5_digest 154 = .ok (.aload_n 0, 1) := by decide +kernel
theorem dX5_digest_155 : decode cX5_digest 155 = .ok (.getfield 85, 3) := by decide +kernel
theorem dX5_digest_158 : decode cX5_digest 158 = .ok (.if_icmp .ge 20, 3) := by decide +kernel
theorem dX5_digest_161 : decode cX5_digest 161 = .ok (.aload_n 0, 1) := by decide +kernel
theorem dX5_digest_162 : decode cX5_digest 162 = .ok (.aload_n 0, 1) := by decide +kernel
theorem dX5_digest_163 : decode cX5_digest 163 = .ok (.getfield 16, 3) := by decide +kernel
theorem dX5_digest_166 : decode cX5_digest 166 = .ok (.iload_n 1, 1) := by decide +kernel
theorem dX5_digest_167 : decode cX5_digest 167 = .ok (.iaload, 1) := by decide +kernel
theorem dX5_digest_168 : decode cX5_digest 168 = .ok (.i2l, 1) := by decide +kernel
theorem dX5_digest_169 : decode cX5_digest 169 = .ok (.invokevirtual 244, 3) := by decide +kernel
theorem dX5_digest_172 : decode cX5_digest 172 = .ok (.iinc 1 1, 3) := by decide +kernel
theorem dX5_digest_175 : decode cX5_digest 175 = .ok (.goto (-22), 3) := by decide +kernel
theorem dX5_digest_178 : decode cX5_digest 178 = .ok (.aload_n 0, 1) := by decide +kernel
theorem dX5_digest_179 : decode cX5_digest 179 = .ok (.getfield 240, 3) := by decide +kernel
theorem dX5_digest_182 : decode cX5_digest 182 = .ok (.lreturn, 1) := by decide +kernel
theorem dJxe99ae_isNaN_b9ae7_0 : decode cJxe99ae_isNaN_b9ae7 0 = .ok (.dload_n 0, 1) := by decide +kernel
theorem dJxe99ae_isNaN_b9ae7_1 : decode cJxe99ae_isNaN_b9ae7 1 = .ok (.dload_n 0, 1) := by decide +kernel
theorem dJxe99ae_isNaN_b9ae7_2 : decode cJxe99ae_isNaN_b9ae7 2 = .ok (.dcmp .l, 1) := by decide +kernel
theorem dJxe99ae_isNaN_b9ae7_3 : decode cJxe99ae_isNaN_b9ae7 3 = .ok (.ifCond .eq 7, 3) := by decide +kernel
theorem dJxe99ae_isNaN_b9ae7_6 : decode cJxe99ae_isNaN_b9ae7 6 = .ok (.iconst 1, 1) := by decide +kernel
theorem dJxe99ae_isNaN_b9ae7_7 : decode cJxe99ae_isNaN_b9ae7 7 = .ok (.goto 4, 3) := by decide +kernel
theorem dJxe99ae_isNaN_b9ae7_10 : decode cJxe99ae_isNaN_b9ae7 10 = .ok (.iconst 0, 1) := by decide +kernel
theorem dJxe99ae_isNaN_b9ae7_11 : decode cJxe99ae_isNaN_b9ae7 11 = .ok (.ireturn, 1) := by decide +kernel
theorem dJxe99ae_doubleToLongBits_ccdee_0 : decode cJxe99ae_doubleToLongBits_ccdee 0 = .ok (.dload_n 0, 1) := by decide +kernel
theorem dJxe99ae_doubleToLongBits_ccdee_1 : decode cJxe99ae_doubleToLongBits_ccdee 1 = .ok (.invokestatic 122, 3) := by decide +kernel
theorem dJxe99ae_doubleToLongBits_ccdee_4 : decode cJxe99ae_doubleToLongBits_ccdee 4 = .ok (.ifCond .ne 8, 3) := by decide +kernel
theorem dJxe99ae_doubleToLongBits_ccdee_7 : decode cJxe99ae_doubleToLongBits_ccdee 7 = .ok (.dload_n 0, 1) := by decide +kernel
theorem dJxe99ae_doubleToLongBits_ccdee_8 : decode cJxe99ae_doubleToLongBits_ccdee 8 = .ok (.invokestatic 134, 3) := by decide +kernel
theorem dJxe99ae_doubleToLongBits_ccdee_11 : decode cJxe99ae_doubleToLongBits_ccdee 11 = .ok (.lreturn, 1) := by decide +kernel
theorem dJxe99ae_doubleToLongBits_ccdee_12 : decode cJxe99ae_doubleToLongBits_ccdee 12 = .ok (.ldc2_w 137, 3) := by decide +kernel
theorem dJxe99ae_doubleToLongBits_ccdee_15 : decode cJxe99ae_doubleToLongBits_ccdee 15 = .ok (.lreturn, 1) := by decide +kernel
theorem dJ9_max_7cf53_0 : decode cJ9_max_7cf53 0 = .ok (.iload_n 0, 1) := by decide +kernel
theorem dJ9_max_7cf53_1 : decode cJ9_max_7cf53 1 = .ok (.iload_n 1, 1) := by decide +kernel
theorem dJ9_max_7cf53_2 : decode cJ9_max_7cf53 2 = .ok (.if_icmp .lt 7, 3) := by decide +kernel
theorem dJ9_max_7cf53_5 : decode cJ9_max_7cf53 5 = .ok (.iload_n 0, 1) := by decide +kernel
theorem dJ9_max_7cf53_6 : decode cJ9_max_7cf53 6 = .ok (.goto 4, 3) := by decide +kernel
theorem dJ9_max_7cf53_9 : decode cJ9_max_7cf53 9 = .ok (.iload_n 1, 1) := by decide +kernel
theorem dJ9_max_7cf53_10 : decode cJ9_max_7cf53 10 = .ok (.ireturn, 1) := by decide +kernel
theorem dL_load_0 : decode cL_load 0 = .ok (.aload_n 1, 1) := by decide +kernel
theorem dL_load_1 : decode cL_load 1 = .ok (.iconst 0, 1) := by decide +kernel
theorem dL_load_2 : decode cL_load 2 = .ok (.aload_n 0, 1) := by decide +kernel
theorem dL_load_3 : decode cL_load 3 = .ok (.invokevirtual 7, 3) := by decide +kernel
theorem dL_load_6 : decode cL_load 6 = .ok (.i2l, 1) := by decide +kernel
theorem dL_load_7 : decode cL_load 7 = .ok (.lastore, 1) := by decide +kernel
theorem dL_load_8 : decode cL_load 8 = .ok (.goto 9, 3) := by decide +kernel
theorem dL_load_11 : decode cL_load 11 = .ok (.astore_n 2, 1) := by decide +kernel
theorem dL_load_12 : decode cL_load 12 = .ok (.iconst 1, 1) := by decide +kernel
theorem dL_load_13 : decode cL_load 13 = .ok (.ireturn, 1) := by decide +kernel
theorem dL_load_14 : decode cL_load 14 = .ok (.astore_n 2, 1) := by decide +kernel
theorem dL_load_15 : decode cL_load 15 = .ok (.iconst 2, 1) := by decide +kernel
theorem dL_load_16 : decode cL_load 16 = .ok (.ireturn, 1) := by decide +kernel
theorem dL_load_17 : decode cL_load 17 = .ok (.iconst 0, 1) := by decide +kernel
theorem dL_load_18 : decode cL_load 18 = .ok (.ireturn, 1) := by decide +kernel
theorem dL_turn_0 : decode cL_turn 0 = .ok (.aload_n 2, 1) := by decide +kernel
theorem dL_turn_1 : decode cL_turn 1 = .ok (.iconst 0, 1) := by decide +kernel
theorem dL_turn_2 : decode cL_turn 2 = .ok (.aload_n 0, 1) := by decide +kernel
theorem dL_turn_3 : decode cL_turn 3 = .ok (.iload_n 1, 1) := by decide +kernel
theorem dL_turn_4 : decode cL_turn 4 = .ok (.invokevirtual 17, 3) := by decide +kernel
theorem dL_turn_7 : decode cL_turn 7 = .ok (.i2l, 1) := by decide +kernel
theorem dL_turn_8 : decode cL_turn 8 = .ok (.lastore, 1) := by decide +kernel
theorem dL_turn_9 : decode cL_turn 9 = .ok (.goto 9, 3) := by decide +kernel
theorem dL_turn_12 : decode cL_turn 12 = .ok (.astore_n 3, 1) := by decide +kernel
theorem dL_turn_13 : decode cL_turn 13 = .ok (.iconst 1, 1) := by decide +kernel
theorem dL_turn_14 : decode cL_turn 14 = .ok (.ireturn, 1) := by decide +kernel
theorem dL_turn_15 : decode cL_turn 15 = .ok (.astore_n 3, 1) := by decide +kernel
theorem dL_turn_16 : decode cL_turn 16 = .ok (.iconst 2, 1) := by decide +kernel
theorem dL_turn_17 : decode cL_turn 17 = .ok (.ireturn, 1) := by decide +kernel
theorem dL_turn_18 : decode cL_turn 18 = .ok (.iconst 0, 1) := by decide +kernel
theorem dL_turn_19 : decode cL_turn 19 = .ok (.ireturn, 1) := by decide +kernel
theorem dL_recolour_0 : decode cL_recolour 0 = .ok (.aload_n 3, 1) := by decide +kernel
theorem dL_recolour_1 : decode cL_recolour 1 = .ok (.iconst 0, 1) := by decide +kernel
theorem dL_recolour_2 : decode cL_recolour 2 = .ok (.aload_n 0, 1) := by decide +kernel
theorem dL_recolour_3 : decode cL_recolour 3 = .ok (.iload_n 1, 1) := by decide +kernel
theorem dL_recolour_4 : decode cL_recolour 4 = .ok (.iload_n 2, 1) := by decide +kernel
theorem dL_recolour_5 : decode cL_recolour 5 = .ok (.invokevirtual 21, 3) := by decide +kernel
theorem dL_recolour_8 : decode cL_recolour 8 = .ok (.i2l, 1) := by decide +kernel
theorem dL_recolour_9 : decode cL_recolour 9 = .ok (.lastore, 1) := by decide +kernel
theorem dL_recolour_10 : decode cL_recolour 10 = .ok (.goto 7, 3) := by decide +kernel
theorem dL_recolour_13 : decode cL_recolour 13 = .ok (.astore 4, 2) := by decide +kernel
theorem dL_recolour_15 : decode cL_recolour 15 = .ok (.iconst 1, 1) := by decide +kernel
theorem dL_recolour_16 : decode cL_recolour 16 = .ok (.ireturn, 1) := by decide +kernel
theorem dL_recolour_17 : decode cL_recolour 17 = .ok (.iconst 0, 1) := by decide +kernel
theorem dL_recolour_18 : decode cL_recolour 18 = .ok (.ireturn, 1) := by decide +kernel
theorem dL_set_0 : decode cL_set 0 = .ok (.aload_n 3, 1) := by decide +kernel
theorem dL_set_1 : decode cL_set 1 = .ok (.iconst 0, 1) := by decide +kernel
theorem dL_set_2 : decode cL_set 2 = .ok (.aload_n 0, 1) := by decide +kernel
theorem dL_set_3 : decode cL_set 3 = .ok (.iload_n 1, 1) := by decide +kernel
theorem dL_set_4 : decode cL_set 4 = .ok (.iload_n 2, 1) := by decide +kernel
theorem dL_set_5 : decode cL_set 5 = .ok (.invokevirtual 25, 3) := by decide +kernel
theorem dL_set_8 : decode cL_set 8 = .ok (.i2l, 1) := by decide +kernel
theorem dL_set_9 : decode cL_set 9 = .ok (.lastore, 1) := by decide +kernel
theorem dL_set_10 : decode cL_set 10 = .ok (.goto 11, 3) := by decide +kernel
theorem dL_set_13 : decode cL_set 13 = .ok (.astore 4, 2) := by decide +kernel
theorem dL_set_15 : decode cL_set 15 = .ok (.iconst 1, 1) := by decide +kernel
theorem dL_set_16 : decode cL_set 16 = .ok (.ireturn, 1) := by decide +kernel
theorem dL_set_17 : decode cL_set 17 = .ok (.astore 4, 2) := by decide +kernel
theorem dL_set_19 : decode cL_set 19 = .ok (.iconst 2, 1) := by decide +kernel
theorem dL_set_20 : decode cL_set 20 = .ok (.ireturn, 1) := by decide +kernel
theorem dL_set_21 : decode cL_set 21 = .ok (.iconst 0, 1) := by decide +kernel
theorem dL_set_22 : decode cL_set 22 = .ok (.ireturn, 1) := by decide +kernel
theorem dL_buy_0 : decode cL_buy 0 = .ok (.aload_n 3, 1) := by decide +kernel
theorem dL_buy_1 : decode cL_buy 1 = .ok (.iconst 0, 1) := by decide +kernel
theorem dL_buy_2 : decode cL_buy 2 = .ok (.aload_n 0, 1) := by decide +kernel
theorem dL_buy_3 : decode cL_buy 3 = .ok (.iload_n 1, 1) := by decide +kernel
theorem dL_buy_4 : decode cL_buy 4 = .ok (.iload_n 2, 1) := by decide +kernel
theorem dL_buy_5 : decode cL_buy 5 = .ok (.invokevirtual 30, 3) := by decide +kernel
theorem dL_buy_8 : decode cL_buy 8 = .ok (.i2l, 1) := by decide +kernel
theorem dL_buy_9 : decode cL_buy 9 = .ok (.lastore, 1) := by decide +kernel
theorem dL_buy_10 : decode cL_buy 10 = .ok (.goto 11, 3) := by decide +kernel
theorem dL_buy_13 : decode cL_buy 13 = .ok (.astore 4, 2) := by decide +kernel
theorem dL_buy_15 : decode cL_buy 15 = .ok (.iconst 1, 1) := by decide +kernel
theorem dL_buy_16 : decode cL_buy 16 = .ok (.ireturn, 1) := by decide +kernel
theorem dL_buy_17 : decode cL_buy 17 = .ok (.astore 4, 2) := by decide +kernel
theorem dL_buy_19 : decode cL_buy 19 = .ok (.iconst 2, 1) := by decide +kernel
theorem dL_buy_20 : decode cL_buy 20 = .ok (.ireturn, 1) := by decide +kernel
theorem dL_buy_21 : decode cL_buy 21 = .ok (.iconst 0, 1) := by decide +kernel
theorem dL_buy_22 : decode cL_buy 22 = .ok (.ireturn, 1) := by decide +kernel
theorem dL_string_0 : decode cL_string 0 = .ok (.aload_n 3, 1) := by decide +kernel
theorem dL_string_1 : decode cL_string 1 = .ok (.iconst 0, 1) := by decide +kernel
theorem dL_string_2 : decode cL_string 2 = .ok (.aload_n 0, 1) := by decide +kernel
theorem dL_string_3 : decode cL_string 3 = .ok (.iload_n 1, 1) := by decide +kernel
theorem dL_string_4 : decode cL_string 4 = .ok (.iload_n 2, 1) := by decide +kernel
theorem dL_string_5 : decode cL_string 5 = .ok (.invokevirtual 33, 3) := by decide +kernel
theorem dL_string_8 : decode cL_string 8 = .ok (.i2l, 1) := by decide +kernel
theorem dL_string_9 : decode cL_string 9 = .ok (.lastore, 1) := by decide +kernel
theorem dL_string_10 : decode cL_string 10 = .ok (.goto 11, 3) := by decide +kernel
theorem dL_string_13 : decode cL_string 13 = .ok (.astore 4, 2) := by decide +kernel
theorem dL_string_15 : decode cL_string 15 = .ok (.iconst 1, 1) := by decide +kernel
theorem dL_string_16 : decode cL_string 16 = .ok (.ireturn, 1) := by decide +kernel
theorem dL_string_17 : decode cL_string 17 = .ok (.astore 4, 2) := by decide +kernel
theorem dL_string_19 : decode cL_string 19 = .ok (.iconst 2, 1) := by decide +kernel
theorem dL_string_20 : decode cL_string 20 = .ok (.ireturn, 1) := by decide +kernel
theorem dL_string_21 : decode cL_string 21 = .ok (.iconst 0, 1) := by decide +kernel
theorem dL_string_22 : decode cL_string 22 = .ok (.ireturn, 1) := by decide +kernel
theorem dL_stringNext_0 : decode cL_stringNext 0 = .ok (.aload_n 2, 1) := by decide +kernel
theorem dL_stringNext_1 : decode cL_stringNext 1 = .ok (.iconst 0, 1) := by decide +kernel
theorem dL_stringNext_2 : decode cL_stringNext 2 = .ok (.aload_n 0, 1) := by decide +kernel
theorem dL_stringNext_3 : decode cL_stringNext 3 = .ok (.iload_n 1, 1) := by decide +kernel
theorem dL_stringNext_4 : decode cL_stringNext 4 = .ok (.invokevirtual 36, 3) := by decide +kernel
theorem dL_stringNext_7 : decode cL_stringNext 7 = .ok (.i2l, 1) := by decide +kernel
theorem dL_stringNext_8 : decode cL_stringNext 8 = .ok (.lastore, 1) := by decide +kernel
theorem dL_stringNext_9 : decode cL_stringNext 9 = .ok (.goto 9, 3) := by decide +kernel
theorem dL_stringNext_12 : decode cL_stringNext 12 = .ok (.astore_n 3, 1) := by decide +kernel
theorem dL_stringNext_13 : decode cL_stringNext 13 = .ok (.iconst 1, 1) := by decide +kernel
theorem dL_stringNext_14 : decode cL_stringNext 14 = .ok (.ireturn, 1) := by decide +kernel
theorem dL_stringNext_15 : decode cL_stringNext 15 = .ok (.astore_n 3, 1) := by decide +kernel
theorem dL_stringNext_16 : decode cL_stringNext 16 = .ok (.iconst 2, 1) := by decide +kernel
theorem dL_stringNext_17 : decode cL_stringNext 17 = .ok (.ireturn, 1) := by decide +kernel
theorem dL_stringNext_18 : decode cL_stringNext 18 = .ok (.iconst 0, 1) := by decide +kernel
theorem dL_stringNext_19 : decode cL_stringNext 19 = .ok (.ireturn, 1) := by decide +kernel
theorem dL_stringRow_0 : decode cL_stringRow 0 = .ok (.aload_n 1, 1) := by decide +kernel
theorem dL_stringRow_1 : decode cL_stringRow 1 = .ok (.iconst 0, 1) := by decide +kernel
theorem dL_stringRow_2 : decode cL_stringRow 2 = .ok (.aload_n 0, 1) := by decide +kernel
theorem dL_stringRow_3 : decode cL_stringRow 3 = .ok (.invokevirtual 39, 3) := by decide +kernel
theorem dL_stringRow_6 : decode cL_stringRow 6 = .ok (.i2l, 1) := by decide +kernel
theorem dL_stringRow_7 : decode cL_stringRow 7 = .ok (.lastore, 1) := by decide +kernel
theorem dL_stringRow_8 : decode cL_stringRow 8 = .ok (.goto 9, 3) := by decide +kernel
theorem dL_stringRow_11 : decode cL_stringRow 11 = .ok (.astore_n 2, 1) := by decide +kernel
theorem dL_stringRow_12 : decode cL_stringRow 12 = .ok (.iconst 1, 1) := by decide +kernel
theorem dL_stringRow_13 : decode cL_stringRow 13 = .ok (.ireturn, 1) := by decide +kernel
theorem dL_stringRow_14 : decode cL_stringRow 14 = .ok (.astore_n 2, 1) := by decide +kernel
theorem dL_stringRow_15 : decode cL_stringRow 15 = .ok (.iconst 2, 1) := by decide +kernel
theorem dL_stringRow_16 : decode cL_stringRow 16 = .ok (.ireturn, 1) := by decide +kernel
theorem dL_stringRow_17 : decode cL_stringRow 17 = .ok (.iconst 0, 1) := by decide +kernel
theorem dL_stringRow_18 : decode cL_stringRow 18 = .ok (.ireturn, 1) := by decide +kernel
theorem dL_join_0 : decode cL_join 0 = .ok (.aload_n 1, 1) := by decide +kernel
theorem dL_join_1 : decode cL_join 1 = .ok (.iconst 0, 1) := by decide +kernel
theorem dL_join_2 : decode cL_join 2 = .ok (.aload_n 0, 1) := by decide +kernel
theorem dL_join_3 : decode cL_join 3 = .ok (.invokevirtual 42, 3) := by decide +kernel
theorem dL_join_6 : decode cL_join 6 = .ok (.i2l, 1) := by decide +kernel
theorem dL_join_7 : decode cL_join 7 = .ok (.lastore, 1) := by decide +kernel
theorem dL_join_8 : decode cL_join 8 = .ok (.goto 6, 3) := by decide +kernel
theorem dL_join_11 : decode cL_join 11 = .ok (.astore_n 2, 1) := by decide +kernel
theorem dL_join_12 : decode cL_join 12 = .ok (.iconst 1, 1) := by decide +kernel
theorem dL_join_13 : decode cL_join 13 = .ok (.ireturn, 1) := by decide +kernel
theorem dL_join_14 : decode cL_join 14 = .ok (.iconst 0, 1) := by decide +kernel
theorem dL_join_15 : decode cL_join 15 = .ok (.ireturn, 1) := by decide +kernel
theorem dL_crush_0 : decode cL_crush 0 = .ok (.aload_n 2, 1) := by decide +kernel
theorem dL_crush_1 : decode cL_crush 1 = .ok (.iconst 0, 1) := by decide +kernel
theorem dL_crush_2 : decode cL_crush 2 = .ok (.aload_n 0, 1) := by decide +kernel
theorem dL_crush_3 : decode cL_crush 3 = .ok (.iload_n 1, 1) := by decide +kernel
theorem dL_crush_4 : decode cL_crush 4 = .ok (.invokevirtual 45, 3) := by decide +kernel
theorem dL_crush_7 : decode cL_crush 7 = .ok (.i2l, 1) := by decide +kernel
theorem dL_crush_8 : decode cL_crush 8 = .ok (.lastore, 1) := by decide +kernel
theorem dL_crush_9 : decode cL_crush 9 = .ok (.goto 6, 3) := by decide +kernel
theorem dL_crush_12 : decode cL_crush 12 = .ok (.astore_n 3, 1) := by decide +kernel
theorem dL_crush_13 : decode cL_crush 13 = .ok (.iconst 1, 1) := by decide +kernel
theorem dL_crush_14 : decode cL_crush 14 = .ok (.ireturn, 1) := by decide +kernel
theorem dL_crush_15 : decode cL_crush 15 = .ok (.iconst 0, 1) := by decide +kernel
theorem dL_crush_16 : decode cL_crush 16 = .ok (.ireturn, 1) := by decide +kernel
theorem dL_unpick_0 : decode cL_unpick 0 = .ok (.aload_n 2, 1) := by decide +kernel
theorem dL_unpick_1 : decode cL_unpick 1 = .ok (.iconst 0, 1) := by decide +kernel
theorem dL_unpick_2 : decode cL_unpick 2 = .ok (.aload_n 0, 1) := by decide +kernel
theorem dL_unpick_3 : decode cL_unpick 3 = .ok (.iload_n 1, 1) := by decide +kernel
theorem dL_unpick_4 : decode cL_unpick 4 = .ok (.invokevirtual 48, 3) := by decide +kernel
theorem dL_unpick_7 : decode cL_unpick 7 = .ok (.i2l, 1) := by decide +kernel
theorem dL_unpick_8 : decode cL_unpick 8 = .ok (.lastore, 1) := by decide +kernel
theorem dL_unpick_9 : decode cL_unpick 9 = .ok (.goto 9, 3) := by decide +kernel
theorem dL_unpick_12 : decode cL_unpick 12 = .ok (.astore_n 3, 1) := by decide +kernel
theorem dL_unpick_13 : decode cL_unpick 13 = .ok (.iconst 1, 1) := by decide +kernel
theorem dL_unpick_14 : decode cL_unpick 14 = .ok (.ireturn, 1) := by decide +kernel
theorem dL_unpick_15 : decode cL_unpick 15 = .ok (.astore_n 3, 1) := by decide +kernel
theorem dL_unpick_16 : decode cL_unpick 16 = .ok (.iconst 2, 1) := by decide +kernel
theorem dL_unpick_17 : decode cL_unpick 17 = .ok (.ireturn, 1) := by decide +kernel
theorem dL_unpick_18 : decode cL_unpick 18 = .ok (.iconst 0, 1) := by decide +kernel
theorem dL_unpick_19 : decode cL_unpick 19 = .ok (.ireturn, 1) := by decide +kernel
theorem dL_append_0 : decode cL_append 0 = .ok (.aload_n 2, 1) := by decide +kernel
theorem dL_append_1 : decode cL_append 1 = .ok (.iconst 0, 1) := by decide +kernel
theorem dL_append_2 : decode cL_append 2 = .ok (.aload_n 0, 1) := by decide +kernel
theorem dL_append_3 : decode cL_append 3 = .ok (.iload_n 1, 1) := by decide +kernel
theorem dL_append_4 : decode cL_append 4 = .ok (.invokevirtual 51, 3) := by decide +kernel
theorem dL_append_7 : decode cL_append 7 = .ok (.i2l, 1) := by decide +kernel
theorem dL_append_8 : decode cL_append 8 = .ok (.lastore, 1) := by decide +kernel
theorem dL_append_9 : decode cL_append 9 = .ok (.goto 9, 3) := by decide +kernel
theorem dL_append_12 : decode cL_append 12 = .ok (.astore_n 3, 1) := by decide +kernel
theorem dL_append_13 : decode cL_append 13 = .ok (.iconst 1, 1) := by decide +kernel
theorem dL_append_14 : decode cL_append 14 = .ok (.ireturn, 1) := by decide +kernel
theorem dL_append_15 : decode cL_append 15 = .ok (.astore_n 3, 1) := by decide +kernel
theorem dL_append_16 : decode cL_append 16 = .ok (.iconst 2, 1) := by decide +kernel
theorem dL_append_17 : decode cL_append 17 = .ok (.ireturn, 1) := by decide +kernel
theorem dL_append_18 : decode cL_append 18 = .ok (.iconst 0, 1) := by decide +kernel
theorem dL_append_19 : decode cL_append 19 = .ok (.ireturn, 1) := by decide +kernel
theorem dL_undo_0 : decode cL_undo 0 = .ok (.aload_n 1, 1) := by decide +kernel
theorem dL_undo_1 : decode cL_undo 1 = .ok (.iconst 0, 1) := by decide +kernel
theorem dL_undo_2 : decode cL_undo 2 = .ok (.aload_n 0, 1) := by decide +kernel
theorem dL_undo_3 : decode cL_undo 3 = .ok (.invokevirtual 54, 3) := by decide +kernel
theorem dL_undo_6 : decode cL_undo 6 = .ok (.i2l, 1) := by decide +kernel
theorem dL_undo_7 : decode cL_undo 7 = .ok (.lastore, 1) := by decide +kernel
theorem dL_undo_8 : decode cL_undo 8 = .ok (.goto 6, 3) := by decide +kernel
theorem dL_undo_11 : decode cL_undo 11 = .ok (.astore_n 2, 1) := by decide +kernel
theorem dL_undo_12 : decode cL_undo 12 = .ok (.iconst 1, 1) := by decide +kernel
theorem dL_undo_13 : decode cL_undo 13 = .ok (.ireturn, 1) := by decide +kernel
theorem dL_undo_14 : decode cL_undo 14 = .ok (.iconst 0, 1) := by decide +kernel
theorem dL_undo_15 : decode cL_undo 15 = .ok (.ireturn, 1) := by decide +kernel
theorem dL_cell_0 : decode cL_cell 0 = .ok (.aload_n 3, 1) := by decide +kernel
theorem dL_cell_1 : decode cL_cell 1 = .ok (.iconst 0, 1) := by decide +kernel
theorem dL_cell_2 : decode cL_cell 2 = .ok (.aload_n 0, 1) := by decide +kernel
theorem dL_cell_3 : decode cL_cell 3 = .ok (.iload_n 1, 1) := by decide +kernel
theorem dL_cell_4 : decode cL_cell 4 = .ok (.iload_n 2, 1) := by decide +kernel
theorem dL_cell_5 : decode cL_cell 5 = .ok (.invokevirtual 57, 3) := by decide +kernel
theorem dL_cell_8 : decode cL_cell 8 = .ok (.i2l, 1) := by decide +kernel
theorem dL_cell_9 : decode cL_cell 9 = .ok (.lastore, 1) := by decide +kernel
theorem dL_cell_10 : decode cL_cell 10 = .ok (.goto 7, 3) := by decide +kernel
theorem dL_cell_13 : decode cL_cell 13 = .ok (.astore 4, 2) := by decide +kernel
theorem dL_cell_15 : decode cL_cell 15 = .ok (.iconst 1, 1) := by decide +kernel
theorem dL_cell_16 : decode cL_cell 16 = .ok (.ireturn, 1) := by decide +kernel
theorem dL_cell_17 : decode cL_cell 17 = .ok (.iconst 0, 1) := by decide +kernel
theorem dL_cell_18 : decode cL_cell 18 = .ok (.ireturn, 1) := by decide +kernel
theorem dL_pattern_0 : decode cL_pattern 0 = .ok (.aload_n 3, 1) := by decide +kernel
theorem dL_pattern_1 : decode cL_pattern 1 = .ok (.iconst 0, 1) := by decide +kernel
theorem dL_pattern_2 : decode cL_pattern 2 = .ok (.aload_n 0, 1) := by decide +kernel
theorem dL_pattern_3 : decode cL_pattern 3 = .ok (.iload_n 1, 1) := by decide +kernel
theorem dL_pattern_4 : decode cL_pattern 4 = .ok (.iload_n 2, 1) := by decide +kernel
theorem dL_pattern_5 : decode cL_pattern 5 = .ok (.invokevirtual 60, 3) := by decide +kernel
theorem dL_pattern_8 : decode cL_pattern 8 = .ok (.i2l, 1) := by decide +kernel
theorem dL_pattern_9 : decode cL_pattern 9 = .ok (.lastore, 1) := by decide +kernel
theorem dL_pattern_10 : decode cL_pattern 10 = .ok (.goto 7, 3) := by decide +kernel
theorem dL_pattern_13 : decode cL_pattern 13 = .ok (.astore 4, 2) := by decide +kernel
theorem dL_pattern_15 : decode cL_pattern 15 = .ok (.iconst 1, 1) := by decide +kernel
theorem dL_pattern_16 : decode cL_pattern 16 = .ok (.ireturn, 1) := by decide +kernel
theorem dL_pattern_17 : decode cL_pattern 17 = .ok (.iconst 0, 1) := by decide +kernel
theorem dL_pattern_18 : decode cL_pattern 18 = .ok (.ireturn, 1) := by decide +kernel
theorem dL_bead_0 : decode cL_bead 0 = .ok (.aload_n 3, 1) := by decide +kernel
theorem dL_bead_1 : decode cL_bead 1 = .ok (.iconst 0, 1) := by decide +kernel
theorem dL_bead_2 : decode cL_bead 2 = .ok (.aload_n 0, 1) := by decide +kernel
theorem dL_bead_3 : decode cL_bead 3 = .ok (.iload_n 1, 1) := by decide +kernel
theorem dL_bead_4 : decode cL_bead 4 = .ok (.iload_n 2, 1) := by decide +kernel
theorem dL_bead_5 : decode cL_bead 5 = .ok (.invokevirtual 63, 3) := by decide +kernel
theorem dL_bead_8 : decode cL_bead 8 = .ok (.i2l, 1) := by decide +kernel
theorem dL_bead_9 : decode cL_bead 9 = .ok (.lastore, 1) := by decide +kernel
theorem dL_bead_10 : decode cL_bead 10 = .ok (.goto 11, 3) := by decide +kernel
theorem dL_bead_13 : decode cL_bead 13 = .ok (.astore 4, 2) := by decide +kernel
theorem dL_bead_15 : decode cL_bead 15 = .ok (.iconst 1, 1) := by decide +kernel
theorem dL_bead_16 : decode cL_bead 16 = .ok (.ireturn, 1) := by decide +kernel
theorem dL_bead_17 : decode cL_bead 17 = .ok (.astore 4, 2) := by decide +kernel
theorem dL_bead_19 : decode cL_bead 19 = .ok (.iconst 2, 1) := by decide +kernel
theorem dL_bead_20 : decode cL_bead 20 = .ok (.ireturn, 1) := by decide +kernel
theorem dL_bead_21 : decode cL_bead 21 = .ok (.iconst 0, 1) := by decide +kernel
theorem dL_bead_22 : decode cL_bead 22 = .ok (.ireturn, 1) := by decide +kernel
theorem dL_strand_0 : decode cL_strand 0 = .ok (.aload_n 3, 1) := by decide +kernel
theorem dL_strand_1 : decode cL_strand 1 = .ok (.iconst 0, 1) := by decide +kernel
theorem dL_strand_2 : decode cL_strand 2 = .ok (.aload_n 0, 1) := by decide +kernel
theorem dL_strand_3 : decode cL_strand 3 = .ok (.iload_n 1, 1) := by decide +kernel
theorem dL_strand_4 : decode cL_strand 4 = .ok (.iload_n 2, 1) := by decide +kernel
theorem dL_strand_5 : decode cL_strand 5 = .ok (.invokevirtual 66, 3) := by decide +kernel
theorem dL_strand_8 : decode cL_strand 8 = .ok (.i2l, 1) := by decide +kernel
theorem dL_strand_9 : decode cL_strand 9 = .ok (.lastore, 1) := by decide +kernel
theorem dL_strand_10 : decode cL_strand 10 = .ok (.goto 11, 3) := by decide +kernel
theorem dL_strand_13 : decode cL_strand 13 = .ok (.astore 4, 2) := by decide +kernel
theorem dL_strand_15 : decode cL_strand 15 = .ok (.iconst 1, 1) := by decide +kernel
theorem dL_strand_16 : decode cL_strand 16 = .ok (.ireturn, 1) := by decide +kernel
theorem dL_strand_17 : decode cL_strand 17 = .ok (.astore 4, 2) := by decide +kernel
theorem dL_strand_19 : decode cL_strand 19 = .ok (.iconst 2, 1) := by decide +kernel
theorem dL_strand_20 : decode cL_strand 20 = .ok (.ireturn, 1) := by decide +kernel
theorem dL_strand_21 : decode cL_strand 21 = .ok (.iconst 0, 1) := by decide +kernel
theorem dL_strand_22 : decode cL_strand 22 = .ok (.ireturn, 1) := by decide +kernel
theorem dL_colour_0 : decode cL_colour 0 = .ok (.aload_n 3, 1) := by decide +kernel
theorem dL_colour_1 : decode cL_colour 1 = .ok (.iconst 0, 1) := by decide +kernel
theorem dL_colour_2 : decode cL_colour 2 = .ok (.aload_n 0, 1) := by decide +kernel
theorem dL_colour_3 : decode cL_colour 3 = .ok (.iload_n 1, 1) := by decide +kernel
theorem dL_colour_4 : decode cL_colour 4 = .ok (.iload_n 2, 1) := by decide +kernel
theorem dL_colour_5 : decode cL_colour 5 = .ok (.invokevirtual 69, 3) := by decide +kernel
theorem dL_colour_8 : decode cL_colour 8 = .ok (.i2l, 1) := by decide +kernel
theorem dL_colour_9 : decode cL_colour 9 = .ok (.lastore, 1) := by decide +kernel
theorem dL_colour_10 : decode cL_colour 10 = .ok (.goto 7, 3) := by decide +kernel
theorem dL_colour_13 : decode cL_colour 13 = .ok (.astore 4, 2) := by decide +kernel
theorem dL_colour_15 : decode cL_colour 15 = .ok (.iconst 1, 1) := by decide +kernel
theorem dL_colour_16 : decode cL_colour 16 = .ok (.ireturn, 1) := by decide +kernel
theorem dL_colour_17 : decode cL_colour 17 = .ok (.iconst 0, 1) := by decide +kernel
theorem dL_colour_18 : decode cL_colour 18 = .ok (.ireturn, 1) := by decide +kernel
theorem dL_count_0 : decode cL_count 0 = .ok (.aload_n 2, 1) := by decide +kernel
theorem dL_count_1 : decode cL_count 1 = .ok (.iconst 0, 1) := by decide +kernel
theorem dL_count_2 : decode cL_count 2 = .ok (.aload_n 0, 1) := by decide +kernel
theorem dL_count_3 : decode cL_count 3 = .ok (.iload_n 1, 1) := by decide +kernel
theorem dL_count_4 : decode cL_count 4 = .ok (.invokevirtual 72, 3) := by decide +kernel
theorem dL_count_7 : decode cL_count 7 = .ok (.i2l, 1) := by decide +kernel
theorem dL_count_8 : decode cL_count 8 = .ok (.lastore, 1) := by decide +kernel
theorem dL_count_9 : decode cL_count 9 = .ok (.goto 6, 3) := by decide +kernel
theorem dL_count_12 : decode cL_count 12 = .ok (.astore_n 3, 1) := by decide +kernel
theorem dL_count_13 : decode cL_count 13 = .ok (.iconst 1, 1) := by decide +kernel
theorem dL_count_14 : decode cL_count 14 = .ok (.ireturn, 1) := by decide +kernel
theorem dL_count_15 : decode cL_count 15 = .ok (.iconst 0, 1) := by decide +kernel
theorem dL_count_16 : decode cL_count 16 = .ok (.ireturn, 1) := by decide +kernel
theorem dL_setting_0 : decode cL_setting 0 = .ok (.aload_n 2, 1) := by decide +kernel
theorem dL_setting_1 : decode cL_setting 1 = .ok (.iconst 0, 1) := by decide +kernel
theorem dL_setting_2 : decode cL_setting 2 = .ok (.aload_n 0, 1) := by decide +kernel
theorem dL_setting_3 : decode cL_setting 3 = .ok (.iload_n 1, 1) := by decide +kernel
theorem dL_setting_4 : decode cL_setting 4 = .ok (.invokevirtual 75, 3) := by decide +kernel
theorem dL_setting_7 : decode cL_setting 7 = .ok (.i2l, 1) := by decide +kernel
theorem dL_setting_8 : decode cL_setting 8 = .ok (.lastore, 1) := by decide +kernel
theorem dL_setting_9 : decode cL_setting 9 = .ok (.goto 6, 3) := by decide +kernel
theorem dL_setting_12 : decode cL_setting 12 = .ok (.astore_n 3, 1) := by decide +kernel
theorem dL_setting_13 : decode cL_setting 13 = .ok (.iconst 1, 1) := by decide +kernel
theorem dL_setting_14 : decode cL_setting 14 = .ok (.ireturn, 1) := by decide +kernel
theorem dL_setting_15 : decode cL_setting 15 = .ok (.iconst 0, 1) := by decide +kernel
theorem dL_setting_16 : decode cL_setting 16 = .ok (.ireturn, 1) := by decide +kernel
theorem dL_needed_0 : decode cL_needed 0 = .ok (.aload_n 3, 1) := by decide +kernel
theorem dL_needed_1 : decode cL_needed 1 = .ok (.iconst 0, 1) := by decide +kernel
theorem dL_needed_2 : decode cL_needed 2 = .ok (.aload_n 0, 1) := by decide +kernel
theorem dL_needed_3 : decode cL_needed 3 = .ok (.iload_n 1, 1) := by decide +kernel
theorem dL_needed_4 : decode cL_needed 4 = .ok (.iload_n 2, 1) := by decide +kernel
theorem dL_needed_5 : decode cL_needed 5 = .ok (.invokevirtual 78, 3) := by decide +kernel
theorem dL_needed_8 : decode cL_needed 8 = .ok (.i2l, 1) := by decide +kernel
theorem dL_needed_9 : decode cL_needed 9 = .ok (.lastore, 1) := by decide +kernel
theorem dL_needed_10 : decode cL_needed 10 = .ok (.goto 7, 3) := by decide +kernel
theorem dL_needed_13 : decode cL_needed 13 = .ok (.astore 4, 2) := by decide +kernel
theorem dL_needed_15 : decode cL_needed 15 = .ok (.iconst 1, 1) := by decide +kernel
theorem dL_needed_16 : decode cL_needed 16 = .ok (.ireturn, 1) := by decide +kernel
theorem dL_needed_17 : decode cL_needed 17 = .ok (.iconst 0, 1) := by decide +kernel
theorem dL_needed_18 : decode cL_needed 18 = .ok (.ireturn, 1) := by decide +kernel
theorem dL_plan_0 : decode cL_plan 0 = .ok (.aload_n 3, 1) := by decide +kernel
theorem dL_plan_1 : decode cL_plan 1 = .ok (.iconst 0, 1) := by decide +kernel
theorem dL_plan_2 : decode cL_plan 2 = .ok (.aload_n 0, 1) := by decide +kernel
theorem dL_plan_3 : decode cL_plan 3 = .ok (.iload_n 1, 1) := by decide +kernel
theorem dL_plan_4 : decode cL_plan 4 = .ok (.iload_n 2, 1) := by decide +kernel
theorem dL_plan_5 : decode cL_plan 5 = .ok (.invokevirtual 81, 3) := by decide +kernel
theorem dL_plan_8 : decode cL_plan 8 = .ok (.i2l, 1) := by decide +kernel
theorem dL_plan_9 : decode cL_plan 9 = .ok (.lastore, 1) := by decide +kernel
theorem dL_plan_10 : decode cL_plan 10 = .ok (.goto 7, 3) := by decide +kernel
theorem dL_plan_13 : decode cL_plan 13 = .ok (.astore 4, 2) := by decide +kernel
theorem dL_plan_15 : decode cL_plan 15 = .ok (.iconst 1, 1) := by decide +kernel
theorem dL_plan_16 : decode cL_plan 16 = .ok (.ireturn, 1) := by decide +kernel
theorem dL_plan_17 : decode cL_plan 17 = .ok (.iconst 0, 1) := by decide +kernel
theorem dL_plan_18 : decode cL_plan 18 = .ok (.ireturn, 1) := by decide +kernel
theorem dL_law_0 : decode cL_law 0 = .ok (.new 8, 3) := by decide +kernel
theorem dL_law_3 : decode cL_law 3 = .ok (.dup, 1) := by decide +kernel
theorem dL_law_4 : decode cL_law 4 = .ok (.invokespecial 84, 3) := by decide +kernel
theorem dL_law_7 : decode cL_law 7 = .ok (.astore_n 1, 1) := by decide +kernel
theorem dL_law_8 : decode cL_law 8 = .ok (.new 85, 3) := by decide +kernel
theorem dL_law_11 : decode cL_law 11 = .ok (.dup, 1) := by decide +kernel
theorem dL_law_12 : decode cL_law 12 = .ok (.invokespecial 87, 3) := by decide +kernel
theorem dL_law_15 : decode cL_law 15 = .ok (.astore_n 2, 1) := by decide +kernel
theorem dL_law_16 : decode cL_law 16 = .ok (.iconst 1, 1) := by decide +kernel
theorem dL_law_17 : decode cL_law 17 = .ok (.newarray .long, 2) := by decide +kernel
theorem dL_law_19 : decode cL_law 19 = .ok (.astore_n 3, 1) := by decide +kernel
theorem dL_law_20 : decode cL_law 20 = .ok (.iconst 0, 1) := by decide +kernel
theorem dL_law_21 : decode cL_law 21 = .ok (.istore 4, 2) := by decide +kernel
theorem dL_law_23 : decode cL_law 23 = .ok (.iload 4, 2) := by decide +kernel
theorem dL_law_25 : decode cL_law 25 = .ok (.aload_n 0, 1) := by decide +kernel
theorem dL_law_26 : decode cL_law 26 = .ok (.arraylength, 1) := by decide +kernel
theorem dL_law_27 : decode cL_law 27 = .ok (.iconst 3, 1) := by decide +kernel
theorem dL_law_28 : decode cL_law 28 = .ok (.isub, 1) := by decide +kernel
theorem dL_law_29 : decode cL_law 29 = .ok (.if_icmp .gt 1626, 3) := by decide +kernel
theorem dL_law_32 : decode cL_law 32 = .ok (.aload_n 0, 1) := by decide +kernel
theorem dL_law_33 : decode cL_law 33 = .ok (.iload 4, 2) := by decide +kernel
theorem dL_law_35 : decode cL_law 35 = .ok (.iaload, 1) := by decide +kernel
theorem dL_law_36 : decode cL_law 36 = .ok (.bipush 31, 2) := by decide +kernel
theorem dL_law_38 : decode cL_law 38 = .ok (.iand, 1) := by decide +kernel
theorem dL_law_39 : decode cL_law 39 = .ok (.tableswitch 1610 0 29 #[133, 177, 233, 301, 369, 437, 505, 561, 605, 649, 705, 761, 817, 830, 871, 915, 983, 1051, 1119, 1187, 1255, 1311, 1367, 1435, 1503, 1516, 1529, 1542, 1555, 1596], 133) := by decide +kernel
theorem dL_law_172 : decode cL_law 172 = .ok (.aload_n 1, 1) := by decide +kernel
theorem dL_law_173 : decode cL_law 173 = .ok (.aload_n 3, 1) := by decide +kernel
theorem dL_law_174 : decode cL_law 174 = .ok (.invokestatic 88, 3) := by decide +kernel
theorem dL_law_177 : decode cL_law 177 = .ok (.istore 5, 2) := by decide +kernel
theorem dL_law_179 : decode cL_law 179 = .ok (.aload_n 2, 1) := by decide +kernel
theorem dL_law_180 : decode cL_law 180 = .ok (.invokevirtual 93, 3) := by decide +kernel
theorem dL_law_183 : decode cL_law 183 = .ok (.istore 6, 2) := by decide +kernel
theorem dL_law_185 : decode cL_law 185 = .ok (.aload_n 2, 1) := by decide +kernel
theorem dL_law_186 : decode cL_law 186 = .ok (.invokevirtual 94, 3) := by decide +kernel
theorem dL_law_189 : decode cL_law 189 = .ok (.iload 5, 2) := by decide +kernel
theorem dL_law_191 : decode cL_law 191 = .ok (.if_icmp .eq 5, 3) := by decide +kernel
theorem dL_law_194 : decode cL_law 194 = .ok (.iconst 0, 1) := by decide +kernel
theorem dL_law_195 : decode cL_law 195 = .ok (.ireturn, 1) := by decide +kernel
theorem dL_law_196 : decode cL_law 196 = .ok (.iload 5, 2) := by decide +kernel
theorem dL_law_198 : decode cL_law 198 = .ok (.ifCond .ne 15, 3) := by decide +kernel
theorem dL_law_201 : decode cL_law 201 = .ok (.aload_n 3, 1) := by decide +kernel
theorem dL_law_202 : decode cL_law 202 = .ok (.iconst 0, 1) := by decide +kernel
theorem dL_law_203 : decode cL_law 203 = .ok (.laload, 1) := by decide +kernel
theorem dL_law_204 : decode cL_law 204 = .ok (.iload 6, 2) := by decide +kernel
theorem dL_law_206 : decode cL_law 206 = .ok (.i2l, 1) := by decide +kernel
theorem dL_law_207 : decode cL_law 207 = .ok (.lcmp, 1) := by decide +kernel
theorem dL_law_208 : decode cL_law 208 = .ok (.ifCond .eq 5, 3) := by decide +kernel
theorem dL_law_211 : decode cL_law 211 = .ok (.iconst 0, 1) := by decide +kernel
theorem dL_law_212 : decode cL_law 212 = .ok (.ireturn, 1) := by decide +kernel
theorem dL_law_213 : decode cL_law 213 = .ok (.goto 1436, 3) := by decide +kernel
theorem dL_law_216 : decode cL_law 216 = .ok (.aload_n 1, 1) := by decide +kernel
theorem dL_law_217 : decode cL_law 217 = .ok (.aload_n 0, 1) := by decide +kernel
theorem dL_law_218 : decode cL_law 218 = .ok (.iload 4, 2) := by decide +kernel
theorem dL_law_220 : decode cL_law 220 = .ok (.iconst 1, 1) := by decide +kernel
theorem dL_law_221 : decode cL_law 221 = .ok (.iadd, 1) := by decide +kernel
theorem dL_law_222 : decode cL_law 222 = .ok (.iaload, 1) := by decide +kernel
theorem dL_law_223 : decode cL_law 223 = .ok (.aload_n 3, 1) := by decide +kernel
theorem dL_law_224 : decode cL_law 224 = .ok (.invokestatic 97, 3) := by decide +kernel
theorem dL_law_227 : decode cL_law 227 = .ok (.istore 5, 2) := by decide +kernel
theorem dL_law_229 : decode cL_law 229 = .ok (.aload_n 2, 1) := by decide +kernel
theorem dL_law_230 : decode cL_law 230 = .ok (.aload_n 0, 1) := by decide +kernel
theorem dL_law_231 : decode cL_law 231 = .ok (.iload 4, 2) := by decide +kernel
theorem dL_law_233 : decode cL_law 233 = .ok (.iconst 1, 1) := by decide +kernel
theorem dL_law_234 : decode cL_law 234 = .ok (.iadd, 1) := by decide +kernel
theorem dL_law_235 : decode cL_law 235 = .ok (.iaload, 1) := by decide +kernel
theorem dL_law_236 : decode cL_law 236 = .ok (.invokevirtual 100, 3) := by decide +kernel
theorem dL_law_239 : decode cL_law 239 = .ok (.istore 6, 2) := by decide +kernel
theorem dL_law_241 : decode cL_law 241 = .ok (.aload_n 2, 1) := by decide +kernel
theorem dL_law_242 : decode cL_law 242 = .ok (.invokevirtual 94, 3) := by decide +kernel
theorem dL_law_245 : decode cL_law 245 = .ok (.iload 5, 2) := by decide +kernel
theorem dL_law_247 : decode cL_law 247 = .ok (.if_icmp .eq 5, 3) := by decide +kernel
theorem dL_law_250 : decode cL_law 250 = .ok (.iconst 0, 1) := by decide +kernel
theorem dL_law_251 : decode cL_law 251 = .ok (.ireturn, 1) := by decide +kernel
theorem dL_law_252 : decode cL_law 252 = .ok (.iload 5, 2) := by decide +kernel
theorem dL_law_254 : decode cL_law 254 = .ok (.ifCond .ne 15, 3) := by decide +kernel
theorem dL_law_257 : decode cL_law 257 = .ok (.aload_n 3, 1) := by decide +kernel
theorem dL_law_258 : decode cL_law 258 = .ok (.iconst 0, 1) := by decide +kernel
theorem dL_law_259 : decode cL_law 259 = .ok (.laload, 1) := by decide +kernel
theorem dL_law_260 : decode cL_law 260 = .ok (.iload 6, 2) := by decide +kernel
theorem dL_law_262 : decode cL_law 262 = .ok (.i2l, 1) := by decide +kernel
theorem dL_law_263 : decode cL_law 263 = .ok (.lcmp, 1) := by decide +kernel
theorem dL_law_264 : decode cL_law 264 = .ok (.ifCond .eq 5, 3) := by decide +kernel
theorem dL_law_267 : decode cL_law 267 = .ok (.iconst 0, 1) := by decide +kernel
theorem dL_law_268 : decode cL_law 268 = .ok (.ireturn, 1) := by decide +kernel
theorem dL_law_269 : decode cL_law 269 = .ok (.goto 1380, 3) := by decide +kernel
theorem dL_law_272 : decode cL_law 272 = .ok (.aload_n 1, 1) := by decide +kernel
theorem dL_law_273 : decode cL_law 273 = .ok (.aload_n 0, 1) := by decide +kernel
theorem dL_law_274 : decode cL_law 274 = .ok (.iload 4, 2) := by decide +kernel
theorem dL_law_276 : decode cL_law 276 = .ok (.iconst 1, 1) := by decide +kernel
theorem dL_law_277 : decode cL_law 277 = .ok (.iadd, 1) := by decide +kernel
theorem dL_law_278 : decode cL_law 278 = .ok (.iaload, 1) := by decide +kernel
theorem dL_law_279 : decode cL_law 279 = .ok (.aload_n 0, 1) := by decide +kernel
theorem dL_law_280 : decode cL_law 280 = .ok (.iload 4, 2) := by decide +kernel
theorem dL_law_282 : decode cL_law 282 = .ok (.iconst 2, 1) := by decide +kernel
theorem dL_law_283 : decode cL_law 283 = .ok (.iadd, 1) := by decide +kernel
theorem dL_law_284 : decode cL_law 284 = .ok (.iaload, 1) := by decide +kernel
theorem dL_law_285 : decode cL_law 285 = .ok (.aload_n 3, 1) := by decide +kernel
theorem dL_law_286 : decode cL_law 286 = .ok (.invokestatic 101, 3) := by decide +kernel
theorem dL_law_289 : decode cL_law 289 = .ok (.istore 5, 2) := by decide +kernel
theorem dL_law_291 : decode cL_law 291 = .ok (.aload_n 2, 1) := by decide +kernel
theorem dL_law_292 : decode cL_law 292 = .ok (.aload_n 0, 1) := by decide +kernel
theorem dL_law_293 : decode cL_law 293 = .ok (.iload 4, 2) := by decide +kernel
theorem dL_law_295 : decode cL_law 295 = .ok (.iconst 1, 1) := by decide +kernel
theorem dL_law_296 : decode cL_law 296 = .ok (.iadd, 1) := by decide +kernel
theorem dL_law_297 : decode cL_law 297 = .ok (.iaload, 1) := by decide +kernel
theorem dL_law_298 : decode cL_law 298 = .ok (.aload_n 0, 1) := by decide +kernel
theorem dL_law_299 : decode cL_law 299 = .ok (.iload 4, 2) := by decide +kernel
theorem dL_law_301 : decode cL_law 301 = .ok (.iconst 2, 1) := by decide +kernel
theorem dL_law_302 : decode cL_law 302 = .ok (.iadd, 1) := by decide +kernel
theorem dL_law_303 : decode cL_law 303 = .ok (.iaload, 1) := by decide +kernel
theorem dL_law_304 : decode cL_law 304 = .ok (.invokevirtual 104, 3) := by decide +kernel
theorem dL_law_307 : decode cL_law 307 = .ok (.istore 6, 2) := by decide +kernel
theorem dL_law_309 : decode cL_law 309 = .ok (.aload_n 2, 1) := by decide +kernel
theorem dL_law_310 : decode cL_law 310 = .ok (.invokevirtual 94, 3) := by decide +kernel
theorem dL_law_313 : decode cL_law 313 = .ok (.iload 5, 2) := by decide +kernel
theorem dL_law_315 : decode cL_law 315 = .ok (.if_icmp .eq 5, 3) := by decide +kernel
theorem dL_law_318 : decode cL_law 318 = .ok (.iconst 0, 1) := by decide +kernel
theorem dL_law_319 : decode cL_law 319 = .ok (.ireturn, 1) := by decide +kernel
theorem dL_law_320 : decode cL_law 320 = .ok (.iload 5, 2) := by decide +kernel
theorem dL_law_322 : decode cL_law 322 = .ok (.ifCond .ne 15, 3) := by decide +kernel
theorem dL_law_325 : decode cL_law 325 = .ok (.aload_n 3, 1) := by decide +kernel
theorem dL_law_326 : decode cL_law 326 = .ok (.iconst 0, 1) := by decide +kernel
theorem dL_law_327 : decode cL_law 327 = .ok (.laload, 1) := by decide +kernel
theorem dL_law_328 : decode cL_law 328 = .ok (.iload 6, 2) := by decide +kernel
theorem dL_law_330 : decode cL_law 330 = .ok (.i2l, 1) := by decide +kernel
theorem dL_law_331 : decode cL_law 331 = .ok (.lcmp, 1) := by decide +kernel
theorem dL_law_332 : decode cL_law 332 = .ok (.ifCond .eq 5, 3) := by decide +kernel
theorem dL_law_335 : decode cL_law 335 = .ok (.iconst 0, 1) := by decide +kernel
theorem dL_law_336 : decode cL_law 336 = .ok (.ireturn, 1) := by decide +kernel
theorem dL_law_337 : decode cL_law 337 = .ok (.goto 1312, 3) := by decide +kernel
theorem dL_law_340 : decode cL_law 340 = .ok (.aload_n 1, 1) := by decide +kernel
theorem dL_law_341 : decode cL_law 341 = .ok (.aload_n 0, 1) := by decide +kernel
theorem dL_law_342 : decode cL_law 342 = .ok (.iload 4, 2) := by decide +kernel
theorem dL_law_344 : decode cL_law 344 = .ok (.iconst 1, 1) := by decide +kernel
theorem dL_law_345 : decode cL_law 345 = .ok (.iadd, 1) := by decide +kernel
theorem dL_law_346 : decode cL_law 346 = .ok (.iaload, 1) := by decide +kernel
theorem dL_law_347 : decode cL_law 347 = .ok (.aload_n 0, 1) := by decide +kernel
theorem dL_law_348 : decode cL_law 348 = .ok (.iload 4, 2) := by decide +kernel
theorem dL_law_350 : decode cL_law 350 = .ok (.iconst 2, 1) := by decide +kernel
theorem dL_law_351 : decode cL_law 351 = .ok (.iadd, 1) := by decide +kernel
theorem dL_law_352 : decode cL_law 352 = .ok (.iaload, 1) := by decide +kernel
theorem dL_law_353 : decode cL_law 353 = .ok (.aload_n 3, 1) := by decide +kernel
theorem dL_law_354 : decode cL_law 354 = .ok (.invokestatic 105, 3) := by decide +kernel
theorem dL_law_357 : decode cL_law 357 = .ok (.istore 5, 2) := by decide +kernel
theorem dL_law_359 : decode cL_law 359 = .ok (.aload_n 2, 1) := by decide +kernel
theorem dL_law_360 : decode cL_law 360 = .ok (.aload_n 0, 1) := by decide +kernel
theorem dL_law_361 : decode cL_law 361 = .ok (.iload 4, 2) := by decide +kernel
theorem dL_law_363 : decode cL_law 363 = .ok (.iconst 1, 1) := by decide +kernel
theorem dL_law_364 : decode cL_law 364 = .ok (.iadd, 1) := by decide +kernel
theorem dL_law_365 : decode cL_law 365 = .ok (.iaload, 1) := by decide +kernel
theorem dL_law_366 : decode cL_law 366 = .ok (.aload_n 0, 1) := by decide +kernel
theorem dL_law_367 : decode cL_law 367 = .ok (.iload 4, 2) := by decide +kernel
theorem dL_law_369 : decode cL_law 369 = .ok (.iconst 2, 1) := by decide +kernel
theorem dL_law_370 : decode cL_law 370 = .ok (.iadd, 1) := by decide +kernel
theorem dL_law_371 : decode cL_law 371 = .ok (.iaload, 1) := by decide +kernel
theorem dL_law_372 : decode cL_law 372 = .ok (.invokevirtual 107, 3) := by decide +kernel
theorem dL_law_375 : decode cL_law 375 = .ok (.istore 6, 2) := by decide +kernel
theorem dL_law_377 : decode cL_law 377 = .ok (.aload_n 2, 1) := by decide +kernel
theorem dL_law_378 : decode cL_law 378 = .ok (.invokevirtual 94, 3) := by decide +kernel
theorem dL_law_381 : decode cL_law 381 = .ok (.iload 5, 2) := by decide +kernel
theorem dL_law_383 : decode cL_law 383 = .ok (.if_icmp .eq 5, 3) := by decide +kernel
theorem dL_law_386 : decode cL_law 386 = .ok (.iconst 0, 1) := by decide +kernel
theorem dL_law_387 : decode cL_law 387 = .ok (.ireturn, 1) := by decide +kernel
theorem dL_law_388 : decode cL_law 388 = .ok (.iload 5, 2) := by decide +kernel
theorem dL_law_390 : decode cL_law 390 = .ok (.ifCond .ne 15, 3) := by decide +kernel
theorem dL_law_393 : decode cL_law 393 = .ok (.aload_n 3, 1) := by decide +kernel
theorem dL_law_394 : decode cL_law 394 = .ok (.iconst 0, 1) := by decide +kernel
theorem dL_law_395 : decode cL_law 395 = .ok (.laload, 1) := by decide +kernel
theorem dL_law_396 : decode cL_law 396 = .ok (.iload 6, 2) := by decide +kernel
theorem dL_law_398 : decode cL_law 398 = .ok (.i2l, 1) := by decide +kernel
theorem dL_law_399 : decode cL_law 399 = .ok (.lcmp, 1) := by decide +kernel
theorem dL_law_400 : decode cL_law 400 = .ok (.ifCond .eq 5, 3) := by decide +kernel
theorem dL_law_403 : decode cL_law 403 = .ok (.iconst 0, 1) := by decide +kernel
theorem dL_law_404 : decode cL_law 404 = .ok (.ireturn, 1) := by decide +kernel
theorem dL_law_405 : decode cL_law 405 = .ok (.goto 1244, 3) := by decide +kernel
theorem dL_law_408 : decode cL_law 408 = .ok (.aload_n 1, 1) := by decide +kernel
theorem dL_law_409 : decode cL_law 409 = .ok (.aload_n 0, 1) := by decide +kernel
theorem dL_law_410 : decode cL_law 410 = .ok (.iload 4, 2) := by decide +kernel
theorem dL_law_412 : decode cL_law 412 = .ok (.iconst 1, 1) := by decide +kernel
theorem dL_law_413 : decode cL_law 413 = .ok (.iadd, 1) := by decide +kernel
theorem dL_law_414 : decode cL_law 414 = .ok (.iaload, 1) := by decide +kernel
theorem dL_law_415 : decode cL_law 415 = .ok (.aload_n 0, 1) := by decide +kernel
theorem dL_law_416 : decode cL_law 416 = .ok (.iload 4, 2) := by decide +kernel
theorem dL_law_418 : decode cL_law 418 = .ok (.iconst 2, 1) := by decide +kernel
theorem dL_law_419 : decode cL_law 419 = .ok (.iadd, 1) := by decide +kernel
theorem dL_law_420 : decode cL_law 420 = .ok (.iaload, 1) := by decide +kernel
theorem dL_law_421 : decode cL_law 421 = .ok (.aload_n 3, 1) := by decide +kernel
theorem dL_law_422 : decode cL_law 422 = .ok (.invokestatic 108, 3) := by decide +kernel
theorem dL_law_425 : decode cL_law 425 = .ok (.istore 5, 2) := by decide +kernel
theorem dL_law_427 : decode cL_law 427 = .ok (.aload_n 2, 1) := by decide +kernel
theorem dL_law_428 : decode cL_law 428 = .ok (.aload_n 0, 1) := by decide +kernel
theorem dL_law_429 : decode cL_law 429 = .ok (.iload 4, 2) := by decide +kernel
theorem dL_law_431 : decode cL_law 431 = .ok (.iconst 1, 1) := by decide +kernel
theorem dL_law_432 : decode cL_law 432 = .ok (.iadd, 1) := by decide +kernel
theorem dL_law_433 : decode cL_law 433 = .ok (.iaload, 1) := by decide +kernel
theorem dL_law_434 : decode cL_law 434 = .ok (.aload_n 0, 1) := by decide +kernel
theorem dL_law_435 : decode cL_law 435 = .ok (.iload 4, 2) := by decide +kernel
theorem dL_law_437 : decode cL_law 437 = .ok (.iconst 2, 1) := by decide +kernel
theorem dL_law_438 : decode cL_law 438 = .ok (.iadd, 1) := by decide +kernel
theorem dL_law_439 : decode cL_law 439 = .ok (.iaload, 1) := by decide +kernel
theorem dL_law_440 : decode cL_law 440 = .ok (.invokevirtual 110, 3) := by decide +kernel
theorem dL_law_443 : decode cL_law 443 = .ok (.istore 6, 2) := by decide +kernel
theorem dL_law_445 : decode cL_law 445 = .ok (.aload_n 2, 1) := by decide +kernel
theorem dL_law_446 : decode cL_law 446 = .ok (.invokevirtual 94, 3) := by decide +kernel
theorem dL_law_449 : decode cL_law 449 = .ok (.iload 5, 2) := by decide +kernel
theorem dL_law_451 : decode cL_law 451 = .ok (.if_icmp .eq 5, 3) := by decide +kernel
theorem dL_law_454 : decode cL_law 454 = .ok (.iconst 0, 1) := by decide +kernel
theorem dL_law_455 : decode cL_law 455 = .ok (.ireturn, 1) := by decide +kernel
theorem dL_law_456 : decode cL_law 456 = .ok (.iload 5, 2) := by decide +kernel
theorem dL_law_458 : decode cL_law 458 = .ok (.ifCond .ne 15, 3) := by decide +kernel
theorem dL_law_461 : decode cL_law 461 = .ok (.aload_n 3, 1) := by decide +kernel
theorem dL_law_462 : decode cL_law 462 = .ok (.iconst 0, 1) := by decide +kernel
theorem dL_law_463 : decode cL_law 463 = .ok (.laload, 1) := by decide +kernel
theorem dL_law_464 : decode cL_law 464 = .ok (.iload 6, 2) := by decide +kernel
theorem dL_law_466 : decode cL_law 466 = .ok (.i2l, 1) := by decide +kernel
theorem dL_law_467 : decode cL_law 467 = .ok (.lcmp, 1) := by decide +kernel
theorem dL_law_468 : decode cL_law 468 = .ok (.ifCond .eq 5, 3) := by decide +kernel
theorem dL_law_471 : decode cL_law 471 = .ok (.iconst 0, 1) := by decide +kernel
theorem dL_law_472 : decode cL_law 472 = .ok (.ireturn, 1) := by decide +kernel
theorem dL_law_473 : decode cL_law 473 = .ok (.goto 1176, 3) := by decide +kernel
theorem dL_law_476 : decode cL_law 476 = .ok (.aload_n 1, 1) := by decide +kernel
theorem dL_law_477 : decode cL_law 477 = .ok (.aload_n 0, 1) := by decide +kernel
theorem dL_law_478 : decode cL_law 478 = .ok (.iload 4, 2) := by decide +kernel
theorem dL_law_480 : decode cL_law 480 = .ok (.iconst 1, 1) := by decide +kernel
theorem dL_law_481 : decode cL_law 481 = .ok (.iadd, 1) := by decide +kernel
theorem dL_law_482 : decode cL_law 482 = .ok (.iaload, 1) := by decide +kernel
theorem dL_law_483 : decode cL_law 483 = .ok (.aload_n 0, 1) := by decide +kernel
theorem dL_law_484 : decode cL_law 484 = .ok (.iload 4, 2) := by decide +kernel
theorem dL_law_486 : decode cL_law 486 = .ok (.iconst 2, 1) := by decide +kernel
theorem dL_law_487 : decode cL_law 487 = .ok (.iadd, 1) := by decide +kernel
theorem dL_law_488 : decode cL_law 488 = .ok (.iaload, 1) := by decide +kernel
theorem dL_law_489 : decode cL_law 489 = .ok (.aload_n 3, 1) := by decide +kernel
theorem dL_law_490 : decode cL_law 490 = .ok (.invokestatic 111, 3) := by decide +kernel
theorem dL_law_493 : decode cL_law 493 = .ok (.istore 5, 2) := by decide +kernel
theorem dL_law_495 : decode cL_law 495 = .ok (.aload_n 2, 1) := by decide +kernel
theorem dL_law_496 : decode cL_law 496 = .ok (.aload_n 0, 1) := by decide +kernel
theorem dL_law_497 : decode cL_law 497 = .ok (.iload 4, 2) := by decide +kernel
theorem dL_law_499 : decode cL_law 499 = .ok (.iconst 1, 1) := by decide +kernel
theorem dL_law_500 : decode cL_law 500 = .ok (.iadd, 1) := by decide +kernel
theorem dL_law_501 : decode cL_law 501 = .ok (.iaload, 1) := by decide +kernel
theorem dL_law_502 : decode cL_law 502 = .ok (.aload_n 0, 1) := by decide +kernel
theorem dL_law_503 : decode cL_law 503 = .ok (.iload 4, 2) := by decide +kernel
theorem dL_law_505 : decode cL_law 505 = .ok (.iconst 2, 1) := by decide +kernel
theorem dL_law_506 : decode cL_law 506 = .ok (.iadd, 1) := by decide +kernel
theorem dL_law_507 : decode cL_law 507 = .ok (.iaload, 1) := by decide +kernel
theorem dL_law_508 : decode cL_law 508 = .ok (.invokevirtual 113, 3) := by decide +kernel
theorem dL_law_511 : decode cL_law 511 = .ok (.istore 6, 2) := by decide +kernel
theorem dL_law_513 : decode cL_law 513 = .ok (.aload_n 2, 1) := by decide +kernel
theorem dL_law_514 : decode cL_law 514 = .ok (.invokevirtual 94, 3) := by decide +kernel
theorem dL_law_517 : decode cL_law 517 = .ok (.iload 5, 2) := by decide +kernel
theorem dL_law_519 : decode cL_law 519 = .ok (.if_icmp .eq 5, 3) := by decide +kernel
theorem dL_law_522 : decode cL_law 522 = .ok (.iconst 0, 1) := by decide +kernel
theorem dL_law_523 : decode cL_law 523 = .ok (.ireturn, 1) := by decide +kernel
theorem dL_law_524 : decode cL_law 524 = .ok (.iload 5, 2) := by decide +kernel
theorem dL_law_526 : decode cL_law 526 = .ok (.ifCond .ne 15, 3) := by decide +kernel
theorem dL_law_529 : decode cL_law 529 = .ok (.aload_n 3, 1) := by decide +kernel
theorem dL_law_530 : decode cL_law 530 = .ok (.iconst 0, 1) := by decide +kernel
theorem dL_law_531 : decode cL_law 531 = .ok (.laload, 1) := by decide +kernel
theorem dL_law_532 : decode cL_law 532 = .ok (.iload 6, 2) := by decide +kernel
theorem dL_law_534 : decode cL_law 534 = .ok (.i2l, 1) := by decide +kernel
theorem dL_law_535 : decode cL_law 535 = .ok (.lcmp, 1) := by decide +kernel
theorem dL_law_536 : decode cL_law 536 = .ok (.ifCond .eq 5, 3) := by decide +kernel
theorem dL_law_539 : decode cL_law 539 = .ok (.iconst 0, 1) := by decide +kernel
theorem dL_law_540 : decode cL_law 540 = .ok (.ireturn, 1) := by decide +kernel
theorem dL_law_541 : decode cL_law 541 = .ok (.goto 1108, 3) := by decide +kernel
theorem dL_law_544 : decode cL_law 544 = .ok (.aload_n 1, 1) := by decide +kernel
theorem dL_law_545 : decode cL_law 545 = .ok (.aload_n 0, 1) := by decide +kernel
theorem dL_law_546 : decode cL_law 546 = .ok (.iload 4, 2) := by decide +kernel
theorem dL_law_548 : decode cL_law 548 = .ok (.iconst 1, 1) := by decide +kernel
theorem dL_law_549 : decode cL_law 549 = .ok (.iadd, 1) := by decide +kernel
theorem dL_law_550 : decode cL_law 550 = .ok (.iaload, 1) := by decide +kernel
theorem dL_law_551 : decode cL_law 551 = .ok (.aload_n 3, 1) := by decide +kernel
theorem dL_law_552 : decode cL_law 552 = .ok (.invokestatic 114, 3) := by decide +kernel
theorem dL_law_555 : decode cL_law 555 = .ok (.istore 5, 2) := by decide +kernel
theorem dL_law_557 : decode cL_law 557 = .ok (.aload_n 2, 1) := by decide +kernel
theorem dL_law_558 : decode cL_law 558 = .ok (.aload_n 0, 1) := by decide +kernel
theorem dL_law_559 : decode cL_law 559 = .ok (.iload 4, 2) := by decide +kernel
theorem dL_law_561 : decode cL_law 561 = .ok (.iconst 1, 1) := by decide +kernel
theorem dL_law_562 : decode cL_law 562 = .ok (.iadd, 1) := by decide +kernel
theorem dL_law_563 : decode cL_law 563 = .ok (.iaload, 1) := by decide +kernel
theorem dL_law_564 : decode cL_law 564 = .ok (.invokevirtual 116, 3) := by decide +kernel
theorem dL_law_567 : decode cL_law 567 = .ok (.istore 6, 2) := by decide +kernel
theorem dL_law_569 : decode cL_law 569 = .ok (.aload_n 2, 1) := by decide +kernel
theorem dL_law_570 : decode cL_law 570 = .ok (.invokevirtual 94, 3) := by decide +kernel
theorem dL_law_573 : decode cL_law 573 = .ok (.iload 5, 2) := by decide +kernel
theorem dL_law_575 : decode cL_law 575 = .ok (.if_icmp .eq 5, 3) := by decide +kernel
theorem dL_law_578 : decode cL_law 578 = .ok (.iconst 0, 1) := by decide +kernel
theorem dL_law_579 : decode cL_law 579 = .ok (.ireturn, 1) := by decide +kernel
theorem dL_law_580 : decode cL_law 580 = .ok (.iload 5, 2) := by decide +kernel
theorem dL_law_582 : decode cL_law 582 = .ok (.ifCond .ne 15, 3) := by decide +kernel
theorem dL_law_585 : decode cL_law 585 = .ok (.aload_n 3, 1) := by decide +kernel
theorem dL_law_586 : decode cL_law 586 = .ok (.iconst 0, 1) := by decide +kernel
theorem dL_law_587 : decode cL_law 587 = .ok (.laload, 1) := by decide +kernel
theorem dL_law_588 : decode cL_law 588 = .ok (.iload 6, 2) := by decide +kernel
theorem dL_law_590 : decode cL_law 590 = .ok (.i2l, 1) := by decide +kernel
theorem dL_law_591 : decode cL_law 591 = .ok (.lcmp, 1) := by decide +kernel
theorem dL_law_592 : decode cL_law 592 = .ok (.ifCond .eq 5, 3) := by decide +kernel
theorem dL_law_595 : decode cL_law 595 = .ok (.iconst 0, 1) := by decide +kernel
theorem dL_law_596 : decode cL_law 596 = .ok (.ireturn, 1) := by decide +kernel
theorem dL_law_597 : decode cL_law 597 = .ok (.goto 1052, 3) := by decide +kernel
theorem dL_law_600 : decode cL_law 600 = .ok (.aload_n 1, 1) := by decide +kernel
theorem dL_law_601 : decode cL_law 601 = .ok (.aload_n 3, 1) := by decide +kernel
theorem dL_law_602 : decode cL_law 602 = .ok (.invokestatic 117, 3) := by decide +kernel
theorem dL_law_605 : decode cL_law 605 = .ok (.istore 5, 2) := by decide +kernel
theorem dL_law_607 : decode cL_law 607 = .ok (.aload_n 2, 1) := by decide +kernel
theorem dL_law_608 : decode cL_law 608 = .ok (.invokevirtual 119, 3) := by decide +kernel
theorem dL_law_611 : decode cL_law 611 = .ok (.istore 6, 2) := by decide +kernel
theorem dL_law_613 : decode cL_law 613 = .ok (.aload_n 2, 1) := by decide +kernel
theorem dL_law_614 : decode cL_law 614 = .ok (.invokevirtual 94, 3) := by decide +kernel
theorem dL_law_617 : decode cL_law 617 = .ok (.iload 5, 2) := by decide +kernel
theorem dL_law_619 : decode cL_law 619 = .ok (.if_icmp .eq 5, 3) := by decide +kernel
theorem dL_law_622 : decode cL_law 622 = .ok (.iconst 0, 1) := by decide +kernel
theorem dL_law_623 : decode cL_law 623 = .ok (.ireturn, 1) := by decide +kernel
theorem dL_law_624 : decode cL_law 624 = .ok (.iload 5, 2) := by decide +kernel
theorem dL_law_626 : decode cL_law 626 = .ok (.ifCond .ne 15, 3) := by decide +kernel
theorem dL_law_629 : decode cL_law 629 = .ok (.aload_n 3, 1) := by decide +kernel
theorem dL_law_630 : decode cL_law 630 = .ok (.iconst 0, 1) := by decide +kernel
theorem dL_law_631 : decode cL_law 631 = .ok (.laload, 1) := by decide +kernel
theorem dL_law_632 : decode cL_law 632 = .ok (.iload 6, 2) := by decide +kernel
theorem dL_law_634 : decode cL_law 634 = .ok (.i2l, 1) := by decide +kernel
theorem dL_law_635 : decode cL_law 635 = .ok (.lcmp, 1) := by decide +kernel
theorem dL_law_636 : decode cL_law 636 = .ok (.ifCond .eq 5, 3) := by decide +kernel
theorem dL_law_639 : decode cL_law 639 = .ok (.iconst 0, 1) := by decide +kernel
theorem dL_law_640 : decode cL_law 640 = .ok (.ireturn, 1) := by decide +kernel
theorem dL_law_641 : decode cL_law 641 = .ok (.goto 1008, 3) := by decide +kernel
theorem dL_law_644 : decode cL_law 644 = .ok (.aload_n 1, 1) := by decide +kernel
theorem dL_law_645 : decode cL_law 645 = .ok (.aload_n 3, 1) := by decide +kernel
theorem dL_law_646 : decode cL_law 646 = .ok (.invokestatic 120, 3) := by decide +kernel
theorem dL_law_649 : decode cL_law 649 = .ok (.istore 5, 2) := by decide +kernel
theorem dL_law_651 : decode cL_law 651 = .ok (.aload_n 2, 1) := by decide +kernel
theorem dL_law_652 : decode cL_law 652 = .ok (.invokevirtual 122, 3) := by decide +kernel
theorem dL_law_655 : decode cL_law 655 = .ok (.istore 6, 2) := by decide +kernel
theorem dL_law_657 : decode cL_law 657 = .ok (.aload_n 2, 1) := by decide +kernel
theorem dL_law_658 : decode cL_law 658 = .ok (.invokevirtual 94, 3) := by decide +kernel
theorem dL_law_661 : decode cL_law 661 = .ok (.iload 5, 2) := by decide +kernel
theorem dL_law_663 : decode cL_law 663 = .ok (.if_icmp .eq 5, 3) := by decide +kernel
theorem dL_law_666 : decode cL_law 666 = .ok (.iconst 0, 1) := by decide +kernel
theorem dL_law_667 : decode cL_law 667 = .ok (.ireturn, 1) := by decide +kernel
theorem dL_law_668 : decode cL_law 668 = .ok (.iload 5, 2) := by decide +kernel
theorem dL_law_670 : decode cL_law 670 = .ok (.ifCond .ne 15, 3) := by decide +kernel
theorem dL_law_673 : decode cL_law 673 = .ok (.aload_n 3, 1) := by decide +kernel
theorem dL_law_674 : decode cL_law 674 = .ok (.iconst 0, 1) := by decide +kernel
theorem dL_law_675 : decode cL_law 675 = .ok (.laload, 1) := by decide +kernel
theorem dL_law_676 : decode cL_law 676 = .ok (.iload 6, 2) := by decide +kernel
theorem dL_law_678 : decode cL_law 678 = .ok (.i2l, 1) := by decide +kernel
theorem dL_law_679 : decode cL_law 679 = .ok (.lcmp, 1) := by decide +kernel
theorem dL_law_680 : decode cL_law 680 = .ok (.ifCond .eq 5, 3) := by decide +kernel
theorem dL_law_683 : decode cL_law 683 = .ok (.iconst 0, 1) := by decide +kernel
theorem dL_law_684 : decode cL_law 684 = .ok (.ireturn, 1) := by decide +kernel
theorem dL_law_685 : decode cL_law 685 = .ok (.goto 964, 3) := by decide +kernel
theorem dL_law_688 : decode cL_law 688 = .ok (.aload_n 1, 1) := by decide +kernel
theorem dL_law_689 : decode cL_law 689 = .ok (.aload_n 0, 1) := by decide +kernel
theorem dL_law_690 : decode cL_law 690 = .ok (.iload 4, 2) := by decide +kernel
theorem dL_law_692 : decode cL_law 692 = .ok (.iconst 1, 1) := by decide +kernel
theorem dL_law_693 : decode cL_law 693 = .ok (.iadd, 1) := by decide +kernel
theorem dL_law_694 : decode cL_law 694 = .ok (.iaload, 1) := by decide +kernel
theorem dL_law_695 : decode cL_law 695 = .ok (.aload_n 3, 1) := by decide +kernel
theorem dL_law_696 : decode cL_law 696 = .ok (.invokestatic 123, 3) := by decide +kernel
theorem dL_law_699 : decode cL_law 699 = .ok (.istore 5, 2) := by decide +kernel
theorem dL_law_701 : decode cL_law 701 = .ok (.aload_n 2, 1) := by decide +kernel
theorem dL_law_702 : decode cL_law 702 = .ok (.aload_n 0, 1) := by decide +kernel
theorem dL_law_703 : decode cL_law 703 = .ok (.iload 4, 2) := by decide +kernel
theorem dL_law_705 : decode cL_law 705 = .ok (.iconst 1, 1) := by decide +kernel
theorem dL_law_706 : decode cL_law 706 = .ok (.iadd, 1) := by decide +kernel
theorem dL_law_707 : decode cL_law 707 = .ok (.iaload, 1) := by decide +kernel
theorem dL_law_708 : decode cL_law 708 = .ok (.invokevirtual 125, 3) := by decide +kernel
theorem dL_law_711 : decode cL_law 711 = .ok (.istore 6, 2) := by decide +kernel
theorem dL_law_713 : decode cL_law 713 = .ok (.aload_n 2, 1) := by decide +kernel
theorem dL_law_714 : decode cL_law 714 = .ok (.invokevirtual 94, 3) := by decide +kernel
theorem dL_law_717 : decode cL_law 717 = .ok (.iload 5, 2) := by decide +kernel
theorem dL_law_719 : decode cL_law 719 = .ok (.if_icmp .eq 5, 3) := by decide +kernel
theorem dL_law_722 : decode cL_law 722 = .ok (.iconst 0, 1) := by decide +kernel
theorem dL_law_723 : decode cL_law 723 = .ok (.ireturn, 1) := by decide +kernel
theorem dL_law_724 : decode cL_law 724 = .ok (.iload 5, 2) := by decide +kernel
theorem dL_law_726 : decode cL_law 726 = .ok (.ifCond .ne 15, 3) := by decide +kernel
theorem dL_law_729 : decode cL_law 729 = .ok (.aload_n 3, 1) := by decide +kernel
theorem dL_law_730 : decode cL_law 730 = .ok (.iconst 0, 1) := by decide +kernel
theorem dL_law_731 : decode cL_law 731 = .ok (.laload, 1) := by decide +kernel
theorem dL_law_732 : decode cL_law 732 = .ok (.iload 6, 2) := by decide +kernel
theorem dL_law_734 : decode cL_law 734 = .ok (.i2l, 1) := by decide +kernel
theorem dL_law_735 : decode cL_law 735 = .ok (.lcmp, 1) := by decide +kernel
theorem dL_law_736 : decode cL_law 736 = .ok (.ifCond .eq 5, 3) := by decide +kernel
theorem dL_law_739 : decode cL_law 739 = .ok (.iconst 0, 1) := by decide +kernel
theorem dL_law_740 : decode cL_law 740 = .ok (.ireturn, 1) := by decide +kernel
theorem dL_law_741 : decode cL_law 741 = .ok (.goto 908, 3) := by decide +kernel
theorem dL_law_744 : decode cL_law 744 = .ok (.aload_n 1, 1) := by decide +kernel
theorem dL_law_745 : decode cL_law 745 = .ok (.aload_n 0, 1) := by decide +kernel
theorem dL_law_746 : decode cL_law 746 = .ok (.iload 4, 2) := by decide +kernel
theorem dL_law_748 : decode cL_law 748 = .ok (.iconst 1, 1) := by decide +kernel
theorem dL_law_749 : decode cL_law 749 = .ok (.iadd, 1) := by decide +kernel
theorem dL_law_750 : decode cL_law 750 = .ok (.iaload, 1) := by decide +kernel
theorem dL_law_751 : decode cL_law 751 = .ok (.aload_n 3, 1) := by decide +kernel
theorem dL_law_752 : decode cL_law 752 = .ok (.invokestatic 126, 3) := by decide +kernel
theorem dL_law_755 : decode cL_law 755 = .ok (.istore 5, 2) := by decide +kernel
theorem dL_law_757 : decode cL_law 757 = .ok (.aload_n 2, 1) := by decide +kernel
theorem dL_law_758 : decode cL_law 758 = .ok (.aload_n 0, 1) := by decide +kernel
theorem dL_law_759 : decode cL_law 759 = .ok (.iload 4, 2) := by decide +kernel
theorem dL_law_761 : decode cL_law 761 = .ok (.iconst 1, 1) := by decide +kernel
theorem dL_law_762 : decode cL_law 762 = .ok (.iadd, 1) := by decide +kernel
theorem dL_law_763 : decode cL_law 763 = .ok (.iaload, 1) := by decide +kernel
theorem dL_law_764 : decode cL_law 764 = .ok (.invokevirtual 128, 3) := by decide +kernel
theorem dL_law_767 : decode cL_law 767 = .ok (.istore 6, 2) := by decide +kernel
theorem dL_law_769 : decode cL_law 769 = .ok (.aload_n 2, 1) := by decide +kernel
theorem dL_law_770 : decode cL_law 770 = .ok (.invokevirtual 94, 3) := by decide +kernel
theorem dL_law_773 : decode cL_law 773 = .ok (.iload 5, 2) := by decide +kernel
theorem dL_law_775 : decode cL_law 775 = .ok (.if_icmp .eq 5, 3) := by decide +kernel
theorem dL_law_778 : decode cL_law 778 = .ok (.iconst 0, 1) := by decide +kernel
theorem dL_law_779 : decode cL_law 779 = .ok (.ireturn, 1) := by decide +kernel
theorem dL_law_780 : decode cL_law 780 = .ok (.iload 5, 2) := by decide +kernel
theorem dL_law_782 : decode cL_law 782 = .ok (.ifCond .ne 15, 3) := by decide +kernel
theorem dL_law_785 : decode cL_law 785 = .ok (.aload_n 3, 1) := by decide +kernel
theorem dL_law_786 : decode cL_law 786 = .ok (.iconst 0, 1) := by decide +kernel
theorem dL_law_787 : decode cL_law 787 = .ok (.laload, 1) := by decide +kernel
theorem dL_law_788 : decode cL_law 788 = .ok (.iload 6, 2) := by decide +kernel
theorem dL_law_790 : decode cL_law 790 = .ok (.i2l, 1) := by decide +kernel
theorem dL_law_791 : decode cL_law 791 = .ok (.lcmp, 1) := by decide +kernel
theorem dL_law_792 : decode cL_law 792 = .ok (.ifCond .eq 5, 3) := by decide +kernel
theorem dL_law_795 : decode cL_law 795 = .ok (.iconst 0, 1) := by decide +kernel
theorem dL_law_796 : decode cL_law 796 = .ok (.ireturn, 1) := by decide +kernel
theorem dL_law_797 : decode cL_law 797 = .ok (.goto 852, 3) := by decide +kernel
theorem dL_law_800 : decode cL_law 800 = .ok (.aload_n 1, 1) := by decide +kernel
theorem dL_law_801 : decode cL_law 801 = .ok (.aload_n 0, 1) := by decide +kernel
theorem dL_law_802 : decode cL_law 802 = .ok (.iload 4, 2) := by decide +kernel
theorem dL_law_804 : decode cL_law 804 = .ok (.iconst 1, 1) := by decide +kernel
theorem dL_law_805 : decode cL_law 805 = .ok (.iadd, 1) := by decide +kernel
theorem dL_law_806 : decode cL_law 806 = .ok (.iaload, 1) := by decide +kernel
theorem dL_law_807 : decode cL_law 807 = .ok (.aload_n 3, 1) := by decide +kernel
theorem dL_law_808 : decode cL_law 808 = .ok (.invokestatic 129, 3) := by decide +kernel
theorem dL_law_811 : decode cL_law 811 = .ok (.istore 5, 2) := by decide +kernel
theorem dL_law_813 : decode cL_law 813 = .ok (.aload_n 2, 1) := by decide +kernel
theorem dL_law_814 : decode cL_law 814 = .ok (.aload_n 0, 1) := by decide +kernel
theorem dL_law_815 : decode cL_law 815 = .ok (.iload 4, 2) := by decide +kernel
theorem dL_law_817 : decode cL_law 817 = .ok (.iconst 1, 1) := by decide +kernel
theorem dL_law_818 : decode cL_law 818 = .ok (.iadd, 1) := by decide +kernel
theorem dL_law_819 : decode cL_law 819 = .ok (.iaload, 1) := by decide +kernel
theorem dL_law_820 : decode cL_law 820 = .ok (.invokevirtual 131, 3) := by decide +kernel
theorem dL_law_823 : decode cL_law 823 = .ok (.istore 6, 2) := by decide +kernel
theorem dL_law_825 : decode cL_law 825 = .ok (.aload_n 2, 1) := by decide +kernel
theorem dL_law_826 : decode cL_law 826 = .ok (.invokevirtual 94, 3) := by decide +kernel
theorem dL_law_829 : decode cL_law 829 = .ok (.iload 5, 2) := by decide +kernel
theorem dL_law_831 : decode cL_law 831 = .ok (.if_icmp .eq 5, 3) := by decide +kernel
theorem dL_law_834 : decode cL_law 834 = .ok (.iconst 0, 1) := by decide +kernel
theorem dL_law_835 : decode cL_law 835 = .ok (.ireturn, 1) := by decide +kernel
theorem dL_law_836 : decode cL_law 836 = .ok (.iload 5, 2) := by decide +kernel
theorem dL_law_838 : decode cL_law 838 = .ok (.ifCond .ne 15, 3) := by decide +kernel
theorem dL_law_841 : decode cL_law 841 = .ok (.aload_n 3, 1) := by decide +kernel
theorem dL_law_842 : decode cL_law 842 = .ok (.iconst 0, 1) := by decide +kernel
theorem dL_law_843 : decode cL_law 843 = .ok (.laload, 1) := by decide +kernel
theorem dL_law_844 : decode cL_law 844 = .ok (.iload 6, 2) := by decide +kernel
theorem dL_law_846 : decode cL_law 846 = .ok (.i2l, 1) := by decide +kernel
theorem dL_law_847 : decode cL_law 847 = .ok (.lcmp, 1) := by decide +kernel
theorem dL_law_848 : decode cL_law 848 = .ok (.ifCond .eq 5, 3) := by decide +kernel
theorem dL_law_851 : decode cL_law 851 = .ok (.iconst 0, 1) := by decide +kernel
theorem dL_law_852 : decode cL_law 852 = .ok (.ireturn, 1) := by decide +kernel
theorem dL_law_853 : decode cL_law 853 = .ok (.goto 796, 3) := by decide +kernel
theorem dL_law_856 : decode cL_law 856 = .ok (.aload_n 1, 1) := by decide +kernel
theorem dL_law_857 : decode cL_law 857 = .ok (.invokevirtual 132, 3) := by decide +kernel
theorem dL_law_860 : decode cL_law 860 = .ok (.aload_n 2, 1) := by decide +kernel
theorem dL_law_861 : decode cL_law 861 = .ok (.invokevirtual 135, 3) := by decide +kernel
theorem dL_law_864 : decode cL_law 864 = .ok (.if_icmp .eq 785, 3) := by decide +kernel
theorem dL_law_867 : decode cL_law 867 = .ok (.iconst 0, 1) := by decide +kernel
theorem dL_law_868 : decode cL_law 868 = .ok (.ireturn, 1) := by decide +kernel
theorem dL_law_869 : decode cL_law 869 = .ok (.aload_n 1, 1) := by decide +kernel
theorem dL_law_870 : decode cL_law 870 = .ok (.aload_n 0, 1) := by decide +kernel
theorem dL_law_871 : decode cL_law 871 = .ok (.iload 4, 2) := by decide +kernel
theorem dL_law_873 : decode cL_law 873 = .ok (.iconst 1, 1) := by decide +kernel
theorem dL_law_874 : decode cL_law 874 = .ok (.iadd, 1) := by decide +kernel
theorem dL_law_875 : decode cL_law 875 = .ok (.iaload, 1) := by decide +kernel
theorem dL_law_876 : decode cL_law 876 = .ok (.ifCond .eq 7, 3) := by decide +kernel
theorem dL_law_879 : decode cL_law 879 = .ok (.iconst 1, 1) := by decide +kernel
theorem dL_law_880 : decode cL_law 880 = .ok (.goto 4, 3) := by decide +kernel
theorem dL_law_883 : decode cL_law 883 = .ok (.iconst 0, 1) := by decide +kernel
theorem dL_law_884 : decode cL_law 884 = .ok (.invokevirtual 136, 3) := by decide +kernel
theorem dL_law_887 : decode cL_law 887 = .ok (.aload_n 2, 1) := by decide +kernel
theorem dL_law_888 : decode cL_law 888 = .ok (.aload_n 0, 1) := by decide +kernel
theorem dL_law_889 : decode cL_law 889 = .ok (.iload 4, 2) := by decide +kernel
theorem dL_law_891 : decode cL_law 891 = .ok (.iconst 1, 1) := by decide +kernel
theorem dL_law_892 : decode cL_law 892 = .ok (.iadd, 1) := by decide +kernel
theorem dL_law_893 : decode cL_law 893 = .ok (.iaload, 1) := by decide +kernel
theorem dL_law_894 : decode cL_law 894 = .ok (.ifCond .eq 7, 3) := by decide +kernel
theorem dL_law_897 : decode cL_law 897 = .ok (.iconst 1, 1) := by decide +kernel
theorem dL_law_898 : decode cL_law 898 = .ok (.goto 4, 3) := by decide +kernel
theorem dL_law_901 : decode cL_law 901 = .ok (.iconst 0, 1) := by decide +kernel
theorem dL_law_902 : decode cL_law 902 = .ok (.invokevirtual 140, 3) := by decide +kernel
theorem dL_law_905 : decode cL_law 905 = .ok (.if_icmp .eq 744, 3) := by decide +kernel
theorem dL_law_908 : decode cL_law 908 = .ok (.iconst 0, 1) := by decide +kernel
theorem dL_law_909 : decode cL_law 909 = .ok (.ireturn, 1) := by decide +kernel
theorem dL_law_910 : decode cL_law 910 = .ok (.aload_n 1, 1) := by decide +kernel
theorem dL_law_911 : decode cL_law 911 = .ok (.aload_n 3, 1) := by decide +kernel
theorem dL_law_912 : decode cL_law 912 = .ok (.invokestatic 141, 3) := by decide +kernel
theorem dL_law_915 : decode cL_law 915 = .ok (.istore 5, 2) := by decide +kernel
theorem dL_law_917 : decode cL_law 917 = .ok (.aload_n 2, 1) := by decide +kernel
theorem dL_law_918 : decode cL_law 918 = .ok (.invokevirtual 143, 3) := by decide +kernel
theorem dL_law_921 : decode cL_law 921 = .ok (.istore 6, 2) := by decide +kernel
theorem dL_law_923 : decode cL_law 923 = .ok (.aload_n 2, 1) := by decide +kernel
theorem dL_law_924 : decode cL_law 924 = .ok (.invokevirtual 94, 3) := by decide +kernel
theorem dL_law_927 : decode cL_law 927 = .ok (.iload 5, 2) := by decide +kernel
theorem dL_law_929 : decode cL_law 929 = .ok (.if_icmp .eq 5, 3) := by decide +kernel
theorem dL_law_932 : decode cL_law 932 = .ok (.iconst 0, 1) := by decide +kernel
theorem dL_law_933 : decode cL_law 933 = .ok (.ireturn, 1) := by decide +kernel
theorem dL_law_934 : decode cL_law 934 = .ok (.iload 5, 2) := by decide +kernel
theorem dL_law_936 : decode cL_law 936 = .ok (.ifCond .ne 15, 3) := by decide +kernel
theorem dL_law_939 : decode cL_law 939 = .ok (.aload_n 3, 1) := by decide +kernel
theorem dL_law_940 : decode cL_law 940 = .ok (.iconst 0, 1) := by decide +kernel
theorem dL_law_941 : decode cL_law 941 = .ok (.laload, 1) := by decide +kernel
theorem dL_law_942 : decode cL_law 942 = .ok (.iload 6, 2) := by decide +kernel
theorem dL_law_944 : decode cL_law 944 = .ok (.i2l, 1) := by decide +kernel
theorem dL_law_945 : decode cL_law 945 = .ok (.lcmp, 1) := by decide +kernel
theorem dL_law_946 : decode cL_law 946 = .ok (.ifCond .eq 5, 3) := by decide +kernel
theorem dL_law_949 : decode cL_law 949 = .ok (.iconst 0, 1) := by decide +kernel
theorem dL_law_950 : decode cL_law 950 = .ok (.ireturn, 1) := by decide +kernel
theorem dL_law_951 : decode cL_law 951 = .ok (.goto 698, 3) := by decide +kernel
theorem dL_law_954 : decode cL_law 954 = .ok (.aload_n 1, 1) := by decide +kernel
theorem dL_law_955 : decode cL_law 955 = .ok (.aload_n 0, 1) := by decide +kernel
theorem dL_law_956 : decode cL_law 956 = .ok (.iload 4, 2) := by decide +kernel
theorem dL_law_958 : decode cL_law 958 = .ok (.iconst 1, 1) := by decide +kernel
theorem dL_law_959 : decode cL_law 959 = .ok (.iadd, 1) := by decide +kernel
theorem dL_law_960 : decode cL_law 960 = .ok (.iaload, 1) := by decide +kernel
theorem dL_law_961 : decode cL_law 961 = .ok (.aload_n 0, 1) := by decide +kernel
theorem dL_law_962 : decode cL_law 962 = .ok (.iload 4, 2) := by decide +kernel
theorem dL_law_964 : decode cL_law 964 = .ok (.iconst 2, 1) := by decide +kernel
theorem dL_law_965 : decode cL_law 965 = .ok (.iadd, 1) := by decide +kernel
theorem dL_law_966 : decode cL_law 966 = .ok (.iaload, 1) := by decide +kernel
theorem dL_law_967 : decode cL_law 967 = .ok (.aload_n 3, 1) := by decide +kernel
theorem dL_law_968 : decode cL_law 968 = .ok (.invokestatic 144, 3) := by decide +kernel
theorem dL_law_971 : decode cL_law 971 = .ok (.istore 5, 2) := by decide +kernel
theorem dL_law_973 : decode cL_law 973 = .ok (.aload_n 2, 1) := by decide +kernel
theorem dL_law_974 : decode cL_law 974 = .ok (.aload_n 0, 1) := by decide +kernel
theorem dL_law_975 : decode cL_law 975 = .ok (.iload 4, 2) := by decide +kernel
theorem dL_law_977 : decode cL_law 977 = .ok (.iconst 1, 1) := by decide +kernel
theorem dL_law_978 : decode cL_law 978 = .ok (.iadd, 1) := by decide +kernel
theorem dL_law_979 : decode cL_law 979 = .ok (.iaload, 1) := by decide +kernel
theorem dL_law_980 : decode cL_law 980 = .ok (.aload_n 0, 1) := by decide +kernel
theorem dL_law_981 : decode cL_law 981 = .ok (.iload 4, 2) := by decide +kernel
theorem dL_law_983 : decode cL_law 983 = .ok (.iconst 2, 1) := by decide +kernel
theorem dL_law_984 : decode cL_law 984 = .ok (.iadd, 1) := by decide +kernel
theorem dL_law_985 : decode cL_law 985 = .ok (.iaload, 1) := by decide +kernel
theorem dL_law_986 : decode cL_law 986 = .ok (.invokevirtual 146, 3) := by decide +kernel
theorem dL_law_989 : decode cL_law 989 = .ok (.istore 6, 2) := by decide +kernel
theorem dL_law_991 : decode cL_law 991 = .ok (.aload_n 2, 1) := by decide +kernel
theorem dL_law_992 : decode cL_law 992 = .ok (.invokevirtual 94, 3) := by decide +kernel
theorem dL_law_995 : decode cL_law 995 = .ok (.iload 5, 2) := by decide +kernel
theorem dL_law_997 : decode cL_law 997 = .ok (.if_icmp .eq 5, 3) := by decide +kernel
theorem dL_law_1000 : decode cL_law 1000 = .ok (.iconst 0, 1) := by decide +kernel
theorem dL_law_1001 : decode cL_law 1001 = .ok (.ireturn, 1) := by decide +kernel
theorem dL_law_1002 : decode cL_law 1002 = .ok (.iload 5, 2) := by decide +kernel
theorem dL_law_1004 : decode cL_law 1004 = .ok (.ifCond .ne 15, 3) := by decide +kernel
theorem dL_law_1007 : decode cL_law 1007 = .ok (.aload_n 3, 1) := by decide +kernel
theorem dL_law_1008 : decode cL_law 1008 = .ok (.iconst 0, 1) := by decide +kernel
theorem dL_law_1009 : decode cL_law 1009 = .ok (.laload, 1) := by decide +kernel
theorem dL_law_1010 : decode cL_law 1010 = .ok (.iload 6, 2) := by decide +kernel
theorem dL_law_1012 : decode cL_law 1012 = .ok (.i2l, 1) := by decide +kernel
theorem dL_law_1013 : decode cL_law 1013 = .ok (.lcmp, 1) := by decide +kernel
theorem dL_law_1014 : decode cL_law 1014 = .ok (.ifCond .eq 5, 3) := by decide +kernel
theorem dL_law_1017 : decode cL_law 1017 = .ok (.iconst 0, 1) := by decide +kernel
theorem dL_law_1018 : decode cL_law 1018 = .ok (.ireturn, 1) := by decide +kernel
theorem dL_law_1019 : decode cL_law 1019 = .ok (.goto 630, 3) := by decide +kernel
theorem dL_law_1022 : decode cL_law 1022 = .ok (.aload_n 1, 1) := by decide +kernel
theorem dL_law_1023 : decode cL_law 1023 = .ok (.aload_n 0, 1) := by decide +kernel
theorem dL_law_1024 : decode cL_law 1024 = .ok (.iload 4, 2) := by decide +kernel
theorem dL_law_1026 : decode cL_law 1026 = .ok (.iconst 1, 1) := by decide +kernel
theorem dL_law_1027 : decode cL_law 1027 = .ok (.iadd, 1) := by decide +kernel
theorem dL_law_1028 : decode cL_law 1028 = .ok (.iaload, 1) := by decide +kernel
theorem dL_law_1029 : decode cL_law 1029 = .ok (.aload_n 0, 1) := by decide +kernel
theorem dL_law_1030 : decode cL_law 1030 = .ok (.iload 4, 2) := by decide +kernel
theorem dL_law_1032 : decode cL_law 1032 = .ok (.iconst 2, 1) := by decide +kernel
theorem dL_law_1033 : decode cL_law 1033 = .ok (.iadd, 1) := by decide +kernel
theorem dL_law_1034 : decode cL_law 1034 = .ok (.iaload, 1) := by decide +kernel
theorem dL_law_1035 : decode cL_law 1035 = .ok (.aload_n 3, 1) := by decide +kernel
theorem dL_law_1036 : decode cL_law 1036 = .ok (.invokestatic 147, 3) := by decide +kernel
theorem dL_law_1039 : decode cL_law 1039 = .ok (.istore 5, 2) := by decide +kernel
theorem dL_law_1041 : decode cL_law 1041 = .ok (.aload_n 2, 1) := by decide +kernel
theorem dL_law_1042 : decode cL_law 1042 = .ok (.aload_n 0, 1) := by decide +kernel
theorem dL_law_1043 : decode cL_law 1043 = .ok (.iload 4, 2) := by decide +kernel
theorem dL_law_1045 : decode cL_law 1045 = .ok (.iconst 1, 1) := by decide +kernel
theorem dL_law_1046 : decode cL_law 1046 = .ok (.iadd, 1) := by decide +kernel
theorem dL_law_1047 : decode cL_law 1047 = .ok (.iaload, 1) := by decide +kernel
theorem dL_law_1048 : decode cL_law 1048 = .ok (.aload_n 0, 1) := by decide +kernel
theorem dL_law_1049 : decode cL_law 1049 = .ok (.iload 4, 2) := by decide +kernel
theorem dL_law_1051 : decode cL_law 1051 = .ok (.iconst 2, 1) := by decide +kernel
theorem dL_law_1052 : decode cL_law 1052 = .ok (.iadd, 1) := by decide +kernel
theorem dL_law_1053 : decode cL_law 1053 = .ok (.iaload, 1) := by decide +kernel
theorem dL_law_1054 : decode cL_law 1054 = .ok (.invokevirtual 149, 3) := by decide +kernel
theorem dL_law_1057 : decode cL_law 1057 = .ok (.istore 6, 2) := by decide +kernel
theorem dL_law_1059 : decode cL_law 1059 = .ok (.aload_n 2, 1) := by decide +kernel
theorem dL_law_1060 : decode cL_law 1060 = .ok (.invokevirtual 94, 3) := by decide +kernel
theorem dL_law_1063 : decode cL_law 1063 = .ok (.iload 5, 2) := by decide +kernel
theorem dL_law_1065 : decode cL_law 1065 = .ok (.if_icmp .eq 5, 3) := by decide +kernel
theorem dL_law_1068 : decode cL_law 1068 = .ok (.iconst 0, 1) := by decide +kernel
theorem dL_law_1069 : decode cL_law 1069 = .ok (.ireturn, 1) := by decide +kernel
theorem dL_law_1070 : decode cL_law 1070 = .ok (.iload 5, 2) := by decide +kernel
theorem dL_law_1072 : decode cL_law 1072 = .ok (.ifCond .ne 15, 3) := by decide +kernel
theorem dL_law_1075 : decode cL_law 1075 = .ok (.aload_n 3, 1) := by decide +kernel
theorem dL_law_1076 : decode cL_law 1076 = .ok (.iconst 0, 1) := by decide +kernel
theorem dL_law_1077 : decode cL_law 1077 = .ok (.laload, 1) := by decide +kernel
theorem dL_law_1078 : decode cL_law 1078 = .ok (.iload 6, 2) := by decide +kernel
theorem dL_law_1080 : decode cL_law 1080 = .ok (.i2l, 1) := by decide +kernel
theorem dL_law_1081 : decode cL_law 1081 = .ok (.lcmp, 1) := by decide +kernel
theorem dL_law_1082 : decode cL_law 1082 = .ok (.ifCond .eq 5, 3) := by decide +kernel
theorem dL_law_1085 : decode cL_law 1085 = .ok (.iconst 0, 1) := by decide +kernel
theorem dL_law_1086 : decode cL_law 1086 = .ok (.ireturn, 1) := by decide +kernel
theorem dL_law_1087 : decode cL_law 1087 = .ok (.goto 562, 3) := by decide +kernel
theorem dL_law_1090 : decode cL_law 1090 = .ok (.aload_n 1, 1) := by decide +kernel
theorem dL_law_1091 : decode cL_law 1091 = .ok (.aload_n 0, 1) := by decide +kernel
theorem dL_law_1092 : decode cL_law 1092 = .ok (.iload 4, 2) := by decide +kernel
theorem dL_law_1094 : decode cL_law 1094 = .ok (.iconst 1, 1) := by decide +kernel
theorem dL_law_1095 : decode cL_law 1095 = .ok (.iadd, 1) := by decide +kernel
theorem dL_law_1096 : decode cL_law 1096 = .ok (.iaload, 1) := by decide +kernel
theorem dL_law_1097 : decode cL_law 1097 = .ok (.aload_n 0, 1) := by decide +kernel
theorem dL_law_1098 : decode cL_law 1098 = .ok (.iload 4, 2) := by decide +kernel
theorem dL_law_1100 : decode cL_law 1100 = .ok (.iconst 2, 1) := by decide +kernel
theorem dL_law_1101 : decode cL_law 1101 = .ok (.iadd, 1) := by decide +kernel
theorem dL_law_1102 : decode cL_law 1102 = .ok (.iaload, 1) := by decide +kernel
theorem dL_law_1103 : decode cL_law 1103 = .ok (.aload_n 3, 1) := by decide +kernel
theorem dL_law_1104 : decode cL_law 1104 = .ok (.invokestatic 150, 3) := by decide +kernel
theorem dL_law_1107 : decode cL_law 1107 = .ok (.istore 5, 2) := by decide +kernel
theorem dL_law_1109 : decode cL_law 1109 = .ok (.aload_n 2, 1) := by decide +kernel
theorem dL_law_1110 : decode cL_law 1110 = .ok (.aload_n 0, 1) := by decide +kernel
theorem dL_law_1111 : decode cL_law 1111 = .ok (.iload 4, 2) := by decide +kernel
theorem dL_law_1113 : decode cL_law 1113 = .ok (.iconst 1, 1) := by decide +kernel
theorem dL_law_1114 : decode cL_law 1114 = .ok (.iadd, 1) := by decide +kernel
theorem dL_law_1115 : decode cL_law 1115 = .ok (.iaload, 1) := by decide +kernel
theorem dL_law_1116 : decode cL_law 1116 = .ok (.aload_n 0, 1) := by decide +kernel
theorem dL_law_1117 : decode cL_law 1117 = .ok (.iload 4, 2) := by decide +kernel
theorem dL_law_1119 : decode cL_law 1119 = .ok (.iconst 2, 1) := by decide +kernel
theorem dL_law_1120 : decode cL_law 1120 = .ok (.iadd, 1) := by decide +kernel
theorem dL_law_1121 : decode cL_law 1121 = .ok (.iaload, 1) := by decide +kernel
theorem dL_law_1122 : decode cL_law 1122 = .ok (.invokevirtual 152, 3) := by decide +kernel
theorem dL_law_1125 : decode cL_law 1125 = .ok (.istore 6, 2) := by decide +kernel
theorem dL_law_1127 : decode cL_law 1127 = .ok (.aload_n 2, 1) := by decide +kernel
theorem dL_law_1128 : decode cL_law 1128 = .ok (.invokevirtual 94, 3) := by decide +kernel
theorem dL_law_1131 : decode cL_law 1131 = .ok (.iload 5, 2) := by decide +kernel
theorem dL_law_1133 : decode cL_law 1133 = .ok (.if_icmp .eq 5, 3) := by decide +kernel
theorem dL_law_1136 : decode cL_law 1136 = .ok (.iconst 0, 1) := by decide +kernel
theorem dL_law_1137 : decode cL_law 1137 = .ok (.ireturn, 1) := by decide +kernel
theorem dL_law_1138 : decode cL_law 1138 = .ok (.iload 5, 2) := by decide +kernel
theorem dL_law_1140 : decode cL_law 1140 = .ok (.ifCond .ne 15, 3) := by decide +kernel
theorem dL_law_1143 : decode cL_law 1143 = .ok (.aload_n 3, 1) := by decide +kernel
theorem dL_law_1144 : decode cL_law 1144 = .ok (.iconst 0, 1) := by decide +kernel
theorem dL_law_1145 : decode cL_law 1145 = .ok (.laload, 1) := by decide +kernel
theorem dL_law_1146 : decode cL_law 1146 = .ok (.iload 6, 2) := by decide +kernel
theorem dL_law_1148 : decode cL_law 1148 = .ok (.i2l, 1) := by decide +kernel
theorem dL_law_1149 : decode cL_law 1149 = .ok (.lcmp, 1) := by decide +kernel
theorem dL_law_1150 : decode cL_law 1150 = .ok (.ifCond .eq 5, 3) := by decide +kernel
theorem dL_law_1153 : decode cL_law 1153 = .ok (.iconst 0, 1) := by decide +kernel
theorem dL_law_1154 : decode cL_law 1154 = .ok (.ireturn, 1) := by decide +kernel
theorem dL_law_1155 : decode cL_law 1155 = .ok (.goto 494, 3) := by decide +kernel
theorem dL_law_1158 : decode cL_law 1158 = .ok (.aload_n 1, 1) := by decide +kernel
theorem dL_law_1159 : decode cL_law 1159 = .ok (.aload_n 0, 1) := by decide +kernel
theorem dL_law_1160 : decode cL_law 1160 = .ok (.iload 4, 2) := by decide +kernel
theorem dL_law_1162 : decode cL_law 1162 = .ok (.iconst 1, 1) := by decide +kernel
theorem dL_law_1163 : decode cL_law 1163 = .ok (.iadd, 1) := by decide +kernel
theorem dL_law_1164 : decode cL_law 1164 = .ok (.iaload, 1) := by decide +kernel
theorem dL_law_1165 : decode cL_law 1165 = .ok (.aload_n 0, 1) := by decide +kernel
theorem dL_law_1166 : decode cL_law 1166 = .ok (.iload 4, 2) := by decide +kernel
theorem dL_law_1168 : decode cL_law 1168 = .ok (.iconst 2, 1) := by decide +kernel
theorem dL_law_1169 : decode cL_law 1169 = .ok (.iadd, 1) := by decide +kernel
theorem dL_law_1170 : decode cL_law 1170 = .ok (.iaload, 1) := by decide +kernel
theorem dL_law_1171 : decode cL_law 1171 = .ok (.aload_n 3, 1) := by decide +kernel
theorem dL_law_1172 : decode cL_law 1172 = .ok (.invokestatic 153, 3) := by decide +kernel
theorem dL_law_1175 : decode cL_law 1175 = .ok (.istore 5, 2) := by decide +kernel
theorem dL_law_1177 : decode cL_law 1177 = .ok (.aload_n 2, 1) := by decide +kernel
theorem dL_law_1178 : decode cL_law 1178 = .ok (.aload_n 0, 1) := by decide +kernel
theorem dL_law_1179 : decode cL_law 1179 = .ok (.iload 4, 2) := by decide +kernel
theorem dL_law_1181 : decode cL_law 1181 = .ok (.iconst 1, 1) := by decide +kernel
theorem dL_law_1182 : decode cL_law 1182 = .ok (.iadd, 1) := by decide +kernel
theorem dL_law_1183 : decode cL_law 1183 = .ok (.iaload, 1) := by decide +kernel
theorem dL_law_1184 : decode cL_law 1184 = .ok (.aload_n 0, 1) := by decide +kernel
theorem dL_law_1185 : decode cL_law 1185 = .ok (.iload 4, 2) := by decide +kernel
theorem dL_law_1187 : decode cL_law 1187 = .ok (.iconst 2, 1) := by decide +kernel
theorem dL_law_1188 : decode cL_law 1188 = .ok (.iadd, 1) := by decide +kernel
theorem dL_law_1189 : decode cL_law 1189 = .ok (.iaload, 1) := by decide +kernel
theorem dL_law_1190 : decode cL_law 1190 = .ok (.invokevirtual 155, 3) := by decide +kernel
theorem dL_law_1193 : decode cL_law 1193 = .ok (.istore 6, 2) := by decide +kernel
theorem dL_law_1195 : decode cL_law 1195 = .ok (.aload_n 2, 1) := by decide +kernel
theorem dL_law_1196 : decode cL_law 1196 = .ok (.invokevirtual 94, 3) := by decide +kernel
theorem dL_law_1199 : decode cL_law 1199 = .ok (.iload 5, 2) := by decide +kernel
theorem dL_law_1201 : decode cL_law 1201 = .ok (.if_icmp .eq 5, 3) := by decide +kernel
theorem dL_law_1204 : decode cL_law 1204 = .ok (.iconst 0, 1) := by decide +kernel
theorem dL_law_1205 : decode cL_law 1205 = .ok (.ireturn, 1) := by decide +kernel
theorem dL_law_1206 : decode cL_law 1206 = .ok (.iload 5, 2) := by decide +kernel
theorem dL_law_1208 : decode cL_law 1208 = .ok (.ifCond .ne 15, 3) := by decide +kernel
theorem dL_law_1211 : decode cL_law 1211 = .ok (.aload_n 3, 1) := by decide +kernel
theorem dL_law_1212 : decode cL_law 1212 = .ok (.iconst 0, 1) := by decide +kernel
theorem dL_law_1213 : decode cL_law 1213 = .ok (.laload, 1) := by decide +kernel
theorem dL_law_1214 : decode cL_law 1214 = .ok (.iload 6, 2) := by decide +kernel
theorem dL_law_1216 : decode cL_law 1216 = .ok (.i2l, 1) := by decide +kernel
theorem dL_law_1217 : decode cL_law 1217 = .ok (.lcmp, 1) := by decide +kernel
theorem dL_law_1218 : decode cL_law 1218 = .ok (.ifCond .eq 5, 3) := by decide +kernel
theorem dL_law_1221 : decode cL_law 1221 = .ok (.iconst 0, 1) := by decide +kernel
theorem dL_law_1222 : decode cL_law 1222 = .ok (.ireturn, 1) := by decide +kernel
theorem dL_law_1223 : decode cL_law 1223 = .ok (.goto 426, 3) := by decide +kernel
theorem dL_law_1226 : decode cL_law 1226 = .ok (.aload_n 1, 1) := by decide +kernel
theorem dL_law_1227 : decode cL_law 1227 = .ok (.aload_n 0, 1) := by decide +kernel
theorem dL_law_1228 : decode cL_law 1228 = .ok (.iload 4, 2) := by decide +kernel
theorem dL_law_1230 : decode cL_law 1230 = .ok (.iconst 1, 1) := by decide +kernel
theorem dL_law_1231 : decode cL_law 1231 = .ok (.iadd, 1) := by decide +kernel
theorem dL_law_1232 : decode cL_law 1232 = .ok (.iaload, 1) := by decide +kernel
theorem dL_law_1233 : decode cL_law 1233 = .ok (.aload_n 0, 1) := by decide +kernel
theorem dL_law_1234 : decode cL_law 1234 = .ok (.iload 4, 2) := by decide +kernel
theorem dL_law_1236 : decode cL_law 1236 = .ok (.iconst 2, 1) := by decide +kernel
theorem dL_law_1237 : decode cL_law 1237 = .ok (.iadd, 1) := by decide +kernel
theorem dL_law_1238 : decode cL_law 1238 = .ok (.iaload, 1) := by decide +kernel
theorem dL_law_1239 : decode cL_law 1239 = .ok (.aload_n 3, 1) := by decide +kernel
theorem dL_law_1240 : decode cL_law 1240 = .ok (.invokestatic 156, 3) := by decide +kernel
theorem dL_law_1243 : decode cL_law 1243 = .ok (.istore 5, 2) := by decide +kernel
theorem dL_law_1245 : decode cL_law 1245 = .ok (.aload_n 2, 1) := by decide +kernel
theorem dL_law_1246 : decode cL_law 1246 = .ok (.aload_n 0, 1) := by decide +kernel
theorem dL_law_1247 : decode cL_law 1247 = .ok (.iload 4, 2) := by decide +kernel
theorem dL_law_1249 : decode cL_law 1249 = .ok (.iconst 1, 1) := by decide +kernel
theorem dL_law_1250 : decode cL_law 1250 = .ok (.iadd, 1) := by decide +kernel
theorem dL_law_1251 : decode cL_law 1251 = .ok (.iaload, 1) := by decide +kernel
theorem dL_law_1252 : decode cL_law 1252 = .ok (.aload_n 0, 1) := by decide +kernel
theorem dL_law_1253 : decode cL_law 1253 = .ok (.iload 4, 2) := by decide +kernel
theorem dL_law_1255 : decode cL_law 1255 = .ok (.iconst 2, 1) := by decide +kernel
theorem dL_law_1256 : decode cL_law 1256 = .ok (.iadd, 1) := by decide +kernel
theorem dL_law_1257 : decode cL_law 1257 = .ok (.iaload, 1) := by decide +kernel
theorem dL_law_1258 : decode cL_law 1258 = .ok (.invokevirtual 158, 3) := by decide +kernel
theorem dL_law_1261 : decode cL_law 1261 = .ok (.istore 6, 2) := by decide +kernel
theorem dL_law_1263 : decode cL_law 1263 = .ok (.aload_n 2, 1) := by decide +kernel
theorem dL_law_1264 : decode cL_law 1264 = .ok (.invokevirtual 94, 3) := by decide +kernel
theorem dL_law_1267 : decode cL_law 1267 = .ok (.iload 5, 2) := by decide +kernel
theorem dL_law_1269 : decode cL_law 1269 = .ok (.if_icmp .eq 5, 3) := by decide +kernel
theorem dL_law_1272 : decode cL_law 1272 = .ok (.iconst 0, 1) := by decide +kernel
theorem dL_law_1273 : decode cL_law 1273 = .ok (.ireturn, 1) := by decide +kernel
theorem dL_law_1274 : decode cL_law 1274 = .ok (.iload 5, 2) := by decide +kernel
theorem dL_law_1276 : decode cL_law 1276 = .ok (.ifCond .ne 15, 3) := by decide +kernel
theorem dL_law_1279 : decode cL_law 1279 = .ok (.aload_n 3, 1) := by decide +kernel
theorem dL_law_1280 : decode cL_law 1280 = .ok (.iconst 0, 1) := by decide +kernel
theorem dL_law_1281 : decode cL_law 1281 = .ok (.laload, 1) := by decide +kernel
theorem dL_law_1282 : decode cL_law 1282 = .ok (.iload 6, 2) := by decide +kernel
theorem dL_law_1284 : decode cL_law 1284 = .ok (.i2l, 1) := by decide +kernel
theorem dL_law_1285 : decode cL_law 1285 = .ok (.lcmp, 1) := by decide +kernel
theorem dL_law_1286 : decode cL_law 1286 = .ok (.ifCond .eq 5, 3) := by decide +kernel
theorem dL_law_1289 : decode cL_law 1289 = .ok (.iconst 0, 1) := by decide +kernel
theorem dL_law_1290 : decode cL_law 1290 = .ok (.ireturn, 1) := by decide +kernel
theorem dL_law_1291 : decode cL_law 1291 = .ok (.goto 358, 3) := by decide +kernel
theorem dL_law_1294 : decode cL_law 1294 = .ok (.aload_n 1, 1) := by decide +kernel
theorem dL_law_1295 : decode cL_law 1295 = .ok (.aload_n 0, 1) := by decide +kernel
theorem dL_law_1296 : decode cL_law 1296 = .ok (.iload 4, 2) := by decide +kernel
theorem dL_law_1298 : decode cL_law 1298 = .ok (.iconst 1, 1) := by decide +kernel
theorem dL_law_1299 : decode cL_law 1299 = .ok (.iadd, 1) := by decide +kernel
theorem dL_law_1300 : decode cL_law 1300 = .ok (.iaload, 1) := by decide +kernel
theorem dL_law_1301 : decode cL_law 1301 = .ok (.aload_n 3, 1) := by decide +kernel
theorem dL_law_1302 : decode cL_law 1302 = .ok (.invokestatic 159, 3) := by decide +kernel
theorem dL_law_1305 : decode cL_law 1305 = .ok (.istore 5, 2) := by decide +kernel
theorem dL_law_1307 : decode cL_law 1307 = .ok (.aload_n 2, 1) := by decide +kernel
theorem dL_law_1308 : decode cL_law 1308 = .ok (.aload_n 0, 1) := by decide +kernel
theorem dL_law_1309 : decode cL_law 1309 = .ok (.iload 4, 2) := by decide +kernel
theorem dL_law_1311 : decode cL_law 1311 = .ok (.iconst 1, 1) := by decide +kernel
theorem dL_law_1312 : decode cL_law 1312 = .ok (.iadd, 1) := by decide +kernel
theorem dL_law_1313 : decode cL_law 1313 = .ok (.iaload, 1) := by decide +kernel
theorem dL_law_1314 : decode cL_law 1314 = .ok (.invokevirtual 161, 3) := by decide +kernel
theorem dL_law_1317 : decode cL_law 1317 = .ok (.istore 6, 2) := by decide +kernel
theorem dL_law_1319 : decode cL_law 1319 = .ok (.aload_n 2, 1) := by decide +kernel
theorem dL_law_1320 : decode cL_law 1320 = .ok (.invokevirtual 94, 3) := by decide +kernel
theorem dL_law_1323 : decode cL_law 1323 = .ok (.iload 5, 2) := by decide +kernel
theorem dL_law_1325 : decode cL_law 1325 = .ok (.if_icmp .eq 5, 3) := by decide +kernel
theorem dL_law_1328 : decode cL_law 1328 = .ok (.iconst 0, 1) := by decide +kernel
theorem dL_law_1329 : decode cL_law 1329 = .ok (.ireturn, 1) := by decide +kernel
theorem dL_law_1330 : decode cL_law 1330 = .ok (.iload 5, 2) := by decide +kernel
theorem dL_law_1332 : decode cL_law 1332 = .ok (.ifCond .ne 15, 3) := by decide +kernel
theorem dL_law_1335 : decode cL_law 1335 = .ok (.aload_n 3, 1) := by decide +kernel
theorem dL_law_1336 : decode cL_law 1336 = .ok (.iconst 0, 1) := by decide +kernel
theorem dL_law_1337 : decode cL_law 1337 = .ok (.laload, 1) := by decide +kernel
theorem dL_law_1338 : decode cL_law 1338 = .ok (.iload 6, 2) := by decide +kernel
theorem dL_law_1340 : decode cL_law 1340 = .ok (.i2l, 1) := by decide +kernel
theorem dL_law_1341 : decode cL_law 1341 = .ok (.lcmp, 1) := by decide +kernel
theorem dL_law_1342 : decode cL_law 1342 = .ok (.ifCond .eq 5, 3) := by decide +kernel
theorem dL_law_1345 : decode cL_law 1345 = .ok (.iconst 0, 1) := by decide +kernel
theorem dL_law_1346 : decode cL_law 1346 = .ok (.ireturn, 1) := by decide +kernel
theorem dL_law_1347 : decode cL_law 1347 = .ok (.goto 302, 3) := by decide +kernel
theorem dL_law_1350 : decode cL_law 1350 = .ok (.aload_n 1, 1) := by decide +kernel
theorem dL_law_1351 : decode cL_law 1351 = .ok (.aload_n 0, 1) := by decide +kernel
theorem dL_law_1352 : decode cL_law 1352 = .ok (.iload 4, 2) := by decide +kernel
theorem dL_law_1354 : decode cL_law 1354 = .ok (.iconst 1, 1) := by decide +kernel
theorem dL_law_1355 : decode cL_law 1355 = .ok (.iadd, 1) := by decide +kernel
theorem dL_law_1356 : decode cL_law 1356 = .ok (.iaload, 1) := by decide +kernel
theorem dL_law_1357 : decode cL_law 1357 = .ok (.aload_n 3, 1) := by decide +kernel
theorem dL_law_1358 : decode cL_law 1358 = .ok (.invokestatic 162, 3) := by decide +kernel
theorem dL_law_1361 : decode cL_law 1361 = .ok (.istore 5, 2) := by decide +kernel
theorem dL_law_1363 : decode cL_law 1363 = .ok (.aload_n 2, 1) := by decide +kernel
theorem dL_law_1364 : decode cL_law 1364 = .ok (.aload_n 0, 1) := by decide +kernel
theorem dL_law_1365 : decode cL_law 1365 = .ok (.iload 4, 2) := by decide +kernel
theorem dL_law_1367 : decode cL_law 1367 = .ok (.iconst 1, 1) := by decide +kernel
theorem dL_law_1368 : decode cL_law 1368 = .ok (.iadd, 1) := by decide +kernel
theorem dL_law_1369 : decode cL_law 1369 = .ok (.iaload, 1) := by decide +kernel
theorem dL_law_1370 : decode cL_law 1370 = .ok (.invokevirtual 164, 3) := by decide +kernel
theorem dL_law_1373 : decode cL_law 1373 = .ok (.istore 6, 2) := by decide +kernel
theorem dL_law_1375 : decode cL_law 1375 = .ok (.aload_n 2, 1) := by decide +kernel
theorem dL_law_1376 : decode cL_law 1376 = .ok (.invokevirtual 94, 3) := by decide +kernel
theorem dL_law_1379 : decode cL_law 1379 = .ok (.iload 5, 2) := by decide +kernel
theorem dL_law_1381 : decode cL_law 1381 = .ok (.if_icmp .eq 5, 3) := by decide +kernel
theorem dL_law_1384 : decode cL_law 1384 = .ok (.iconst 0, 1) := by decide +kernel
theorem dL_law_1385 : decode cL_law 1385 = .ok (.ireturn, 1) := by decide +kernel
theorem dL_law_1386 : decode cL_law 1386 = .ok (.iload 5, 2) := by decide +kernel
theorem dL_law_1388 : decode cL_law 1388 = .ok (.ifCond .ne 15, 3) := by decide +kernel
theorem dL_law_1391 : decode cL_law 1391 = .ok (.aload_n 3, 1) := by decide +kernel
theorem dL_law_1392 : decode cL_law 1392 = .ok (.iconst 0, 1) := by decide +kernel
theorem dL_law_1393 : decode cL_law 1393 = .ok (.laload, 1) := by decide +kernel
theorem dL_law_1394 : decode cL_law 1394 = .ok (.iload 6, 2) := by decide +kernel
theorem dL_law_1396 : decode cL_law 1396 = .ok (.i2l, 1) := by decide +kernel
theorem dL_law_1397 : decode cL_law 1397 = .ok (.lcmp, 1) := by decide +kernel
theorem dL_law_1398 : decode cL_law 1398 = .ok (.ifCond .eq 5, 3) := by decide +kernel
theorem dL_law_1401 : decode cL_law 1401 = .ok (.iconst 0, 1) := by decide +kernel
theorem dL_law_1402 : decode cL_law 1402 = .ok (.ireturn, 1) := by decide +kernel
theorem dL_law_1403 : decode cL_law 1403 = .ok (.goto 246, 3) := by decide +kernel
theorem dL_law_1406 : decode cL_law 1406 = .ok (.aload_n 1, 1) := by decide +kernel
theorem dL_law_1407 : decode cL_law 1407 = .ok (.aload_n 0, 1) := by decide +kernel
theorem dL_law_1408 : decode cL_law 1408 = .ok (.iload 4, 2) := by decide +kernel
theorem dL_law_1410 : decode cL_law 1410 = .ok (.iconst 1, 1) := by decide +kernel
theorem dL_law_1411 : decode cL_law 1411 = .ok (.iadd, 1) := by decide +kernel
theorem dL_law_1412 : decode cL_law 1412 = .ok (.iaload, 1) := by decide +kernel
theorem dL_law_1413 : decode cL_law 1413 = .ok (.aload_n 0, 1) := by decide +kernel
theorem dL_law_1414 : decode cL_law 1414 = .ok (.iload 4, 2) := by decide +kernel
theorem dL_law_1416 : decode cL_law 1416 = .ok (.iconst 2, 1) := by decide +kernel
theorem dL_law_1417 : decode cL_law 1417 = .ok (.iadd, 1) := by decide +kernel
theorem dL_law_1418 : decode cL_law 1418 = .ok (.iaload, 1) := by decide +kernel
theorem dL_law_1419 : decode cL_law 1419 = .ok (.aload_n 3, 1) := by decide +kernel
theorem dL_law_1420 : decode cL_law 1420 = .ok (.invokestatic 165, 3) := by decide +kernel
theorem dL_law_1423 : decode cL_law 1423 = .ok (.istore 5, 2) := by decide +kernel
theorem dL_law_1425 : decode cL_law 1425 = .ok (.aload_n 2, 1) := by decide +kernel
theorem dL_law_1426 : decode cL_law 1426 = .ok (.aload_n 0, 1) := by decide +kernel
theorem dL_law_1427 : decode cL_law 1427 = .ok (.iload 4, 2) := by decide +kernel
theorem dL_law_1429 : decode cL_law 1429 = .ok (.iconst 1, 1) := by decide +kernel
theorem dL_law_1430 : decode cL_law 1430 = .ok (.iadd, 1) := by decide +kernel
theorem dL_law_1431 : decode cL_law 1431 = .ok (.iaload, 1) := by decide +kernel
theorem dL_law_1432 : decode cL_law 1432 = .ok (.aload_n 0, 1) := by decide +kernel
theorem dL_law_1433 : decode cL_law 1433 = .ok (.iload 4, 2) := by decide +kernel
theorem dL_law_1435 : decode cL_law 1435 = .ok (.iconst 2, 1) := by decide +kernel
theorem dL_law_1436 : decode cL_law 1436 = .ok (.iadd, 1) := by decide +kernel
theorem dL_law_1437 : decode cL_law 1437 = .ok (.iaload, 1) := by decide +kernel
theorem dL_law_1438 : decode cL_law 1438 = .ok (.invokevirtual 167, 3) := by decide +kernel
theorem dL_law_1441 : decode cL_law 1441 = .ok (.istore 6, 2) := by decide +kernel
theorem dL_law_1443 : decode cL_law 1443 = .ok (.aload_n 2, 1) := by decide +kernel
theorem dL_law_1444 : decode cL_law 1444 = .ok (.invokevirtual 94, 3) := by decide +kernel
theorem dL_law_1447 : decode cL_law 1447 = .ok (.iload 5, 2) := by decide +kernel
theorem dL_law_1449 : decode cL_law 1449 = .ok (.if_icmp .eq 5, 3) := by decide +kernel
theorem dL_law_1452 : decode cL_law 1452 = .ok (.iconst 0, 1) := by decide +kernel
theorem dL_law_1453 : decode cL_law 1453 = .ok (.ireturn, 1) := by decide +kernel
theorem dL_law_1454 : decode cL_law 1454 = .ok (.iload 5, 2) := by decide +kernel
theorem dL_law_1456 : decode cL_law 1456 = .ok (.ifCond .ne 15, 3) := by decide +kernel
theorem dL_law_1459 : decode cL_law 1459 = .ok (.aload_n 3, 1) := by decide +kernel
theorem dL_law_1460 : decode cL_law 1460 = .ok (.iconst 0, 1) := by decide +kernel
theorem dL_law_1461 : decode cL_law 1461 = .ok (.laload, 1) := by decide +kernel
theorem dL_law_1462 : decode cL_law 1462 = .ok (.iload 6, 2) := by decide +kernel
theorem dL_law_1464 : decode cL_law 1464 = .ok (.i2l, 1) := by decide +kernel
theorem dL_law_1465 : decode cL_law 1465 = .ok (.lcmp, 1) := by decide +kernel
theorem dL_law_1466 : decode cL_law 1466 = .ok (.ifCond .eq 5, 3) := by decide +kernel
theorem dL_law_1469 : decode cL_law 1469 = .ok (.iconst 0, 1) := by decide +kernel
theorem dL_law_1470 : decode cL_law 1470 = .ok (.ireturn, 1) := by decide +kernel
theorem dL_law_1471 : decode cL_law 1471 = .ok (.goto 178, 3) := by decide +kernel
theorem dL_law_1474 : decode cL_law 1474 = .ok (.aload_n 1, 1) := by decide +kernel
theorem dL_law_1475 : decode cL_law 1475 = .ok (.aload_n 0, 1) := by decide +kernel
theorem dL_law_1476 : decode cL_law 1476 = .ok (.iload 4, 2) := by decide +kernel
theorem dL_law_1478 : decode cL_law 1478 = .ok (.iconst 1, 1) := by decide +kernel
theorem dL_law_1479 : decode cL_law 1479 = .ok (.iadd, 1) := by decide +kernel
theorem dL_law_1480 : decode cL_law 1480 = .ok (.iaload, 1) := by decide +kernel
theorem dL_law_1481 : decode cL_law 1481 = .ok (.aload_n 0, 1) := by decide +kernel
theorem dL_law_1482 : decode cL_law 1482 = .ok (.iload 4, 2) := by decide +kernel
theorem dL_law_1484 : decode cL_law 1484 = .ok (.iconst 2, 1) := by decide +kernel
theorem dL_law_1485 : decode cL_law 1485 = .ok (.iadd, 1) := by decide +kernel
theorem dL_law_1486 : decode cL_law 1486 = .ok (.iaload, 1) := by decide +kernel
theorem dL_law_1487 : decode cL_law 1487 = .ok (.aload_n 3, 1) := by decide +kernel
theorem dL_law_1488 : decode cL_law 1488 = .ok (.invokestatic 168, 3) := by decide +kernel
theorem dL_law_1491 : decode cL_law 1491 = .ok (.istore 5, 2) := by decide +kernel
theorem dL_law_1493 : decode cL_law 1493 = .ok (.aload_n 2, 1) := by decide +kernel
theorem dL_law_1494 : decode cL_law 1494 = .ok (.aload_n 0, 1) := by decide +kernel
theorem dL_law_1495 : decode cL_law 1495 = .ok (.iload 4, 2) := by decide +kernel
theorem dL_law_1497 : decode cL_law 1497 = .ok (.iconst 1, 1) := by decide +kernel
theorem dL_law_1498 : decode cL_law 1498 = .ok (.iadd, 1) := by decide +kernel
theorem dL_law_1499 : decode cL_law 1499 = .ok (.iaload, 1) := by decide +kernel
theorem dL_law_1500 : decode cL_law 1500 = .ok (.aload_n 0, 1) := by decide +kernel
theorem dL_law_1501 : decode cL_law 1501 = .ok (.iload 4, 2) := by decide +kernel
theorem dL_law_1503 : decode cL_law 1503 = .ok (.iconst 2, 1) := by decide +kernel
theorem dL_law_1504 : decode cL_law 1504 = .ok (.iadd, 1) := by decide +kernel
theorem dL_law_1505 : decode cL_law 1505 = .ok (.iaload, 1) := by decide +kernel
theorem dL_law_1506 : decode cL_law 1506 = .ok (.invokevirtual 170, 3) := by decide +kernel
theorem dL_law_1509 : decode cL_law 1509 = .ok (.istore 6, 2) := by decide +kernel
theorem dL_law_1511 : decode cL_law 1511 = .ok (.aload_n 2, 1) := by decide +kernel
theorem dL_law_1512 : decode cL_law 1512 = .ok (.invokevirtual 94, 3) := by decide +kernel
theorem dL_law_1515 : decode cL_law 1515 = .ok (.iload 5, 2) := by decide +kernel
theorem dL_law_1517 : decode cL_law 1517 = .ok (.if_icmp .eq 5, 3) := by decide +kernel
theorem dL_law_1520 : decode cL_law 1520 = .ok (.iconst 0, 1) := by decide +kernel
theorem dL_law_1521 : decode cL_law 1521 = .ok (.ireturn, 1) := by decide +kernel
theorem dL_law_1522 : decode cL_law 1522 = .ok (.iload 5, 2) := by decide +kernel
theorem dL_law_1524 : decode cL_law 1524 = .ok (.ifCond .ne 15, 3) := by decide +kernel
theorem dL_law_1527 : decode cL_law 1527 = .ok (.aload_n 3, 1) := by decide +kernel
theorem dL_law_1528 : decode cL_law 1528 = .ok (.iconst 0, 1) := by decide +kernel
theorem dL_law_1529 : decode cL_law 1529 = .ok (.laload, 1) := by decide +kernel
theorem dL_law_1530 : decode cL_law 1530 = .ok (.iload 6, 2) := by decide +kernel
theorem dL_law_1532 : decode cL_law 1532 = .ok (.i2l, 1) := by decide +kernel
theorem dL_law_1533 : decode cL_law 1533 = .ok (.lcmp, 1) := by decide +kernel
theorem dL_law_1534 : decode cL_law 1534 = .ok (.ifCond .eq 5, 3) := by decide +kernel
theorem dL_law_1537 : decode cL_law 1537 = .ok (.iconst 0, 1) := by decide +kernel
theorem dL_law_1538 : decode cL_law 1538 = .ok (.ireturn, 1) := by decide +kernel
theorem dL_law_1539 : decode cL_law 1539 = .ok (.goto 110, 3) := by decide +kernel
theorem dL_law_1542 : decode cL_law 1542 = .ok (.aload_n 1, 1) := by decide +kernel
theorem dL_law_1543 : decode cL_law 1543 = .ok (.invokevirtual 171, 3) := by decide +kernel
theorem dL_law_1546 : decode cL_law 1546 = .ok (.aload_n 2, 1) := by decide +kernel
theorem dL_law_1547 : decode cL_law 1547 = .ok (.invokevirtual 174, 3) := by decide +kernel
theorem dL_law_1550 : decode cL_law 1550 = .ok (.if_icmp .eq 99, 3) := by decide +kernel
theorem dL_law_1553 : decode cL_law 1553 = .ok (.iconst 0, 1) := by decide +kernel
theorem dL_law_1554 : decode cL_law 1554 = .ok (.ireturn, 1) := by decide +kernel
theorem dL_law_1555 : decode cL_law 1555 = .ok (.aload_n 1, 1) := by decide +kernel
theorem dL_law_1556 : decode cL_law 1556 = .ok (.invokevirtual 175, 3) := by decide +kernel
theorem dL_law_1559 : decode cL_law 1559 = .ok (.aload_n 2, 1) := by decide +kernel
theorem dL_law_1560 : decode cL_law 1560 = .ok (.invokevirtual 178, 3) := by decide +kernel
theorem dL_law_1563 : decode cL_law 1563 = .ok (.if_icmp .eq 86, 3) := by decide +kernel
theorem dL_law_1566 : decode cL_law 1566 = .ok (.iconst 0, 1) := by decide +kernel
theorem dL_law_1567 : decode cL_law 1567 = .ok (.ireturn, 1) := by decide +kernel
theorem dL_law_1568 : decode cL_law 1568 = .ok (.aload_n 1, 1) := by decide +kernel
theorem dL_law_1569 : decode cL_law 1569 = .ok (.invokevirtual 179, 3) := by decide +kernel
theorem dL_law_1572 : decode cL_law 1572 = .ok (.aload_n 2, 1) := by decide +kernel
theorem dL_law_1573 : decode cL_law 1573 = .ok (.invokevirtual 182, 3) := by decide +kernel
theorem dL_law_1576 : decode cL_law 1576 = .ok (.if_icmp .eq 73, 3) := by decide +kernel
theorem dL_law_1579 : decode cL_law 1579 = .ok (.iconst 0, 1) := by decide +kernel
theorem dL_law_1580 : decode cL_law 1580 = .ok (.ireturn, 1) := by decide +kernel
theorem dL_law_1581 : decode cL_law 1581 = .ok (.aload_n 1, 1) := by decide +kernel
theorem dL_law_1582 : decode cL_law 1582 = .ok (.invokevirtual 183, 3) := by decide +kernel
theorem dL_law_1585 : decode cL_law 1585 = .ok (.aload_n 2, 1) := by decide +kernel
theorem dL_law_1586 : decode cL_law 1586 = .ok (.invokevirtual 186, 3) := by decide +kernel
theorem dL_law_1589 : decode cL_law 1589 = .ok (.if_icmp .eq 60, 3) := by decide +kernel
theorem dL_law_1592 : decode cL_law 1592 = .ok (.iconst 0, 1) := by decide +kernel
theorem dL_law_1593 : decode cL_law 1593 = .ok (.ireturn, 1) := by decide +kernel
theorem dL_law_1594 : decode cL_law 1594 = .ok (.aload_n 1, 1) := by decide +kernel
theorem dL_law_1595 : decode cL_law 1595 = .ok (.invokevirtual 187, 3) := by decide +kernel
theorem dL_law_1598 : decode cL_law 1598 = .ok (.dstore 5, 2) := by decide +kernel
theorem dL_law_1600 : decode cL_law 1600 = .ok (.aload_n 2, 1) := by decide +kernel
theorem dL_law_1601 : decode cL_law 1601 = .ok (.invokevirtual 191, 3) := by decide +kernel
theorem dL_law_1604 : decode cL_law 1604 = .ok (.dstore 7, 2) := by decide +kernel
theorem dL_law_1606 : decode cL_law 1606 = .ok (.dload 5, 2) := by decide +kernel
theorem dL_law_1608 : decode cL_law 1608 = .ok (.dload 7, 2) := by decide +kernel
theorem dL_law_1610 : decode cL_law 1610 = .ok (.dcmp .l, 1) := by decide +kernel
theorem dL_law_1611 : decode cL_law 1611 = .ok (.ifCond .eq 21, 3) := by decide +kernel
theorem dL_law_1614 : decode cL_law 1614 = .ok (.dload 5, 2) := by decide +kernel
theorem dL_law_1616 : decode cL_law 1616 = .ok (.dload 5, 2) := by decide +kernel
theorem dL_law_1618 : decode cL_law 1618 = .ok (.dcmp .l, 1) := by decide +kernel
theorem dL_law_1619 : decode cL_law 1619 = .ok (.ifCond .eq 11, 3) := by decide +kernel
theorem dL_law_1622 : decode cL_law 1622 = .ok (.dload 7, 2) := by decide +kernel
theorem dL_law_1624 : decode cL_law 1624 = .ok (.dload 7, 2) := by decide +kernel
theorem dL_law_1626 : decode cL_law 1626 = .ok (.dcmp .l, 1) := by decide +kernel
theorem dL_law_1627 : decode cL_law 1627 = .ok (.ifCond .ne 5, 3) := by decide +kernel
theorem dL_law_1630 : decode cL_law 1630 = .ok (.iconst 0, 1) := by decide +kernel
theorem dL_law_1631 : decode cL_law 1631 = .ok (.ireturn, 1) := by decide +kernel
theorem dL_law_1632 : decode cL_law 1632 = .ok (.goto 17, 3) := by decide +kernel
theorem dL_law_1635 : decode cL_law 1635 = .ok (.aload_n 1, 1) := by decide +kernel
theorem dL_law_1636 : decode cL_law 1636 = .ok (.invokevirtual 192, 3) := by decide +kernel
theorem dL_law_1639 : decode cL_law 1639 = .ok (.aload_n 2, 1) := by decide +kernel
theorem dL_law_1640 : decode cL_law 1640 = .ok (.invokevirtual 196, 3) := by decide +kernel
theorem dL_law_1643 : decode cL_law 1643 = .ok (.lcmp, 1) := by decide +kernel
theorem dL_law_1644 : decode cL_law 1644 = .ok (.ifCond .eq 5, 3) := by decide +kernel
theorem dL_law_1647 : decode cL_law 1647 = .ok (.iconst 0, 1) := by decide +kernel
theorem dL_law_1648 : decode cL_law 1648 = .ok (.ireturn, 1) := by decide +kernel
theorem dL_law_1649 : decode cL_law 1649 = .ok (.iinc 4 3, 3) := by decide +kernel
theorem dL_law_1652 : decode cL_law 1652 = .ok (.goto (-1629), 3) := by decide +kernel
theorem dL_law_1655 : decode cL_law 1655 = .ok (.iconst 1, 1) := by decide +kernel
theorem dL_law_1656 : decode cL_law 1656 = .ok (.ireturn, 1) := by decide +kernel
