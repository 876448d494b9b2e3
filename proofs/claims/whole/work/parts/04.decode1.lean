theorem dX4_isStrung_0 : decode cX4_isStrung 0 = .ok (.iload_n 1, 1) := by decide +kernel
theorem dX4_isStrung_1 : decode cX4_isStrung 1 = .ok (.ifCond .lt 18, 3) := by decide +kernel
theorem dX4_isStrung_4 : decode cX4_isStrung 4 = .ok (.iload_n 1, 1) := by decide +kernel
theorem dX4_isStrung_5 : decode cX4_isStrung 5 = .ok (.aload_n 0, 1) := by decide +kernel
theorem dX4_isStrung_6 : decode cX4_isStrung 6 = .ok (.getfield 10, 3) := by decide +kernel
theorem dX4_isStrung_9 : decode cX4_isStrung 9 = .ok (.getfield 149, 3) := by decide +kernel
theorem dX4_isStrung_12 : decode cX4_isStrung 12 = .ok (.if_icmp .ge 7, 3) := by decide +kernel
theorem dX4_isStrung_15 : decode cX4_isStrung 15 = .ok (.iconst 1, 1) := by decide +kernel
theorem dX4_isStrung_16 : decode cX4_isStrung 16 = .ok (.goto 4, 3) := by decide +kernel
theorem dX4_isStrung_19 : decode cX4_isStrung 19 = .ok (.iconst 0, 1) := by decide +kernel
theorem dX4_isStrung_20 : decode cX4_isStrung 20 = .ok (.ireturn, 1) := by decide +kernel
theorem dX4_isColour_0 : decode cX4_isColour 0 = .ok (.iload_n 0, 1) := by decide +kernel
theorem dX4_isColour_1 : decode cX4_isColour 1 = .ok (.ifCond .lt 13, 3) := by decide +kernel
theorem dX4_isColour_4 : decode cX4_isColour 4 = .ok (.iload_n 0, 1) := by decide +kernel
theorem dX4_isColour_5 : decode cX4_isColour 5 = .ok (.bipush 6, 2) := by decide +kernel
theorem dX4_isColour_7 : decode cX4_isColour 7 = .ok (.if_icmp .ge 7, 3) := by decide +kernel
theorem dX4_isColour_10 : decode cX4_isColour 10 = .ok (.iconst 1, 1) := by decide +kernel
theorem dX4_isColour_11 : decode cX4_isColour 11 = .ok (.goto 4, 3) := by decide +kernel
theorem dX4_isColour_14 : decode cX4_isColour 14 = .ok (.iconst 0, 1) := by decide +kernel
theorem dX4_isColour_15 : decode cX4_isColour 15 = .ok (.ireturn, 1) := by decide +kernel
theorem dX4_isSetting_0 : decode cX4_isSetting 0 = .ok (.iload_n 0, 1) := by decide +kernel
theorem dX4_isSetting_1 : decode cX4_isSetting 1 = .ok (.ifCond .lt 12, 3) := by decide +kernel
theorem dX4_isSetting_4 : decode cX4_isSetting 4 = .ok (.iload_n 0, 1) := by decide +kernel
theorem dX4_isSetting_5 : decode cX4_isSetting 5 = .ok (.iconst 4, 1) := by decide +kernel
theorem dX4_isSetting_6 : decode cX4_isSetting 6 = .ok (.if_icmp .ge 7, 3) := by decide +kernel
theorem dX4_isSetting_9 : decode cX4_isSetting 9 = .ok (.iconst 1, 1) := by decide +kernel
theorem dX4_isSetting_10 : decode cX4_isSetting 10 = .ok (.goto 4, 3) := by decide +kernel
theorem dX4_isSetting_13 : decode cX4_isSetting 13 = .ok (.iconst 0, 1) := by decide +kernel
theorem dX4_isSetting_14 : decode cX4_isSetting 14 = .ok (.ireturn, 1) := by decide +kernel
theorem dX4_isTotal_0 : decode cX4_isTotal 0 = .ok (.iload_n 0, 1) := by decide +kernel
theorem dX4_isTotal_1 : decode cX4_isTotal 1 = .ok (.iconst 1, 1) := by decide +kernel
theorem dX4_isTotal_2 : decode cX4_isTotal 2 = .ok (.if_icmp .lt 14, 3) := by decide +kernel
theorem dX4_isTotal_5 : decode cX4_isTotal 5 = .ok (.iload_n 0, 1) := by decide +kernel
theorem dX4_isTotal_6 : decode cX4_isTotal 6 = .ok (.sipush 240, 3) := by decide +kernel
theorem dX4_isTotal_9 : decode cX4_isTotal 9 = .ok (.if_icmp .gt 7, 3) := by decide +kernel
theorem dX4_isTotal_12 : decode cX4_isTotal 12 = .ok (.iconst 1, 1) := by decide +kernel
theorem dX4_isTotal_13 : decode cX4_isTotal 13 = .ok (.goto 4, 3) := by decide +kernel
theorem dX4_isTotal_16 : decode cX4_isTotal 16 = .ok (.iconst 0, 1) := by decide +kernel
theorem dX4_isTotal_17 : decode cX4_isTotal 17 = .ok (.ireturn, 1) := by decide +kernel
theorem dX4_canBeStrungAtOnce_0 : decode cX4_canBeStrungAtOnce 0 = .ok (.iload_n 0, 1) := by decide +kernel
theorem dX4_canBeStrungAtOnce_1 : decode cX4_canBeStrungAtOnce 1 = .ok (.iconst 1, 1) := by decide +kernel
theorem dX4_canBeStrungAtOnce_2 : decode cX4_canBeStrungAtOnce 2 = .ok (.if_icmp .lt 13, 3) := by decide +kernel
theorem dX4_canBeStrungAtOnce_5 : decode cX4_canBeStrungAtOnce 5 = .ok (.iload_n 0, 1) := by decide +kernel
theorem dX4_canBeStrungAtOnce_6 : decode cX4_canBeStrungAtOnce 6 = .ok (.bipush 60, 2) := by decide +kernel
theorem dX4_canBeStrungAtOnce_8 : decode cX4_canBeStrungAtOnce 8 = .ok (.if_icmp .gt 7, 3) := by decide +kernel
theorem dX4_canBeStrungAtOnce_11 : decode cX4_canBeStrungAtOnce 11 = .ok (.iconst 1, 1) := by decide +kernel
theorem dX4_canBeStrungAtOnce_12 : decode cX4_canBeStrungAtOnce 12 = .ok (.goto 4, 3) := by decide +kernel
theorem dX4_canBeStrungAtOnce_15 : decode cX4_canBeStrungAtOnce 15 = .ok (.iconst 0, 1) := by decide +kernel
theorem dX4_canBeStrungAtOnce_16 : decode cX4_canBeStrungAtOnce 16 = .ok (.ireturn, 1) := by decide +kernel
theorem dX4_mixed_0 : decode cX4_mixed 0 = .ok (.ldc2_w 349, 3) := by decide +kernel
theorem dX4_mixed_3 : decode cX4_mixed 3 = .ok (.lload_n 0, 1) := by decide +kernel
theorem dX4_mixed_4 : decode cX4_mixed 4 = .ok (.lmul, 1) := by decide +kernel
theorem dX4_mixed_5 : decode cX4_mixed 5 = .ok (.lload_n 2, 1) := by decide +kernel
theorem dX4_mixed_6 : decode cX4_mixed 6 = .ok (.ladd, 1) := by decide +kernel
theorem dX4_mixed_7 : decode cX4_mixed 7 = .ok (.lreturn, 1) := by decide +kernel
theorem dX4_hashOfCells_0 : decode cX4_hashOfCells 0 = .ok (.lload_n 1, 1) := by decide +kernel
theorem dX4_hashOfCells_1 : decode cX4_hashOfCells 1 = .ok (.lstore_n 3, 1) := by decide +kernel
theorem dX4_hashOfCells_2 : decode cX4_hashOfCells 2 = .ok (.iconst 0, 1) := by decide +kernel
theorem dX4_hashOfCells_3 : decode cX4_hashOfCells 3 = .ok (.istore 5, 2) := by decide +kernel
theorem dX4_hashOfCells_5 : decode cX4_hashOfCells 5 = .ok (.iload 5, 2) := by decide +kernel
theorem dX4_hashOfCells_7 : decode cX4_hashOfCells 7 = .ok (.aload_n 0, 1) := by decide +kernel
theorem dX4_hashOfCells_8 : decode cX4_hashOfCells 8 = .ok (.getfield 10, 3) := by decide +kernel
theorem dX4_hashOfCells_11 : decode cX4_hashOfCells 11 = .ok (.getfield 65, 3) := by decide +kernel
theorem dX4_hashOfCells_14 : decode cX4_hashOfCells 14 = .ok (.getfield 75, 3) := by decide +kernel
theorem dX4_hashOfCells_17 : decode cX4_hashOfCells 17 = .ok (.if_icmp .ge 53, 3) := by decide +kernel
theorem dX4_hashOfCells_20 : decode cX4_hashOfCells 20 = .ok (.iconst 0, 1) := by decide +kernel
theorem dX4_hashOfCells_21 : decode cX4_hashOfCells 21 = .ok (.istore 6, 2) := by decide +kernel
theorem dX4_hashOfCells_23 : decode cX4_hashOfCells 23 = .ok (.iload 6, 2) := by decide +kernel
theorem dX4_hashOfCells_25 : decode cX4_hashOfCells 25 = .ok (.aload_n 0, 1) := by decide +kernel
theorem dX4_hashOfCells_26 : decode cX4_hashOfCells 26 = .ok (.getfield 10, 3) := by decide +kernel
theorem dX4_hashOfCells_29 : decode cX4_hashOfCells 29 = .ok (.getfield 65, 3) := by decide +kernel
theorem dX4_hashOfCells_32 : decode cX4_hashOfCells 32 = .ok (.getfield 211, 3) := by decide +kernel
theorem dX4_hashOfCells_35 : decode cX4_hashOfCells 35 = .ok (.if_icmp .ge 29, 3) := by decide +kernel
theorem dX4_hashOfCells_38 : decode cX4_hashOfCells 38 = .ok (.lload_n 3, 1) := by decide +kernel
theorem dX4_hashOfCells_39 : decode cX4_hashOfCells 39 = .ok (.aload_n 0, 1) := by decide +kernel
theorem dX4_hashOfCells_40 : decode cX4_hashOfCells 40 = .ok (.getfield 10, 3) := by decide +kernel
theorem dX4_hashOfCells_43 : decode cX4_hashOfCells 43 = .ok (.getfield 65, 3) := by decide +kernel
theorem dX4_hashOfCells_46 : decode cX4_hashOfCells 46 = .ok (.iload 5, 2) := by decide +kernel
theorem dX4_hashOfCells_48 : decode cX4_hashOfCells 48 = .ok (.iload 6, 2) := by decide +kernel
theorem dX4_hashOfCells_50 : decode cX4_hashOfCells 50 = .ok (.invokevirtual 216, 3) := by decide +kernel
theorem dX4_hashOfCells_53 : decode cX4_hashOfCells 53 = .ok (.i2l, 1) := by decide +kernel
theorem dX4_hashOfCells_54 : decode cX4_hashOfCells 54 = .ok (.invokestatic 273, 3) := by decide +kernel
theorem dX4_hashOfCells_57 : decode cX4_hashOfCells 57 = .ok (.lstore_n 3, 1) := by decide +kernel
theorem dX4_hashOfCells_58 : decode cX4_hashOfCells 58 = .ok (.iinc 6 1, 3) := by decide +kernel
theorem dX4_hashOfCells_61 : decode cX4_hashOfCells 61 = .ok (.goto (-38), 3) := by decide +kernel
theorem dX4_hashOfCells_64 : decode cX4_hashOfCells 64 = .ok (.iinc 5 1, 3) := by decide +kernel
theorem dX4_hashOfCells_67 : decode cX4_hashOfCells 67 = .ok (.goto (-62), 3) := by decide +kernel
theorem dX4_hashOfCells_70 : decode cX4_hashOfCells 70 = .ok (.lload_n 3, 1) := by decide +kernel
theorem dX4_hashOfCells_71 : decode cX4_hashOfCells 71 = .ok (.lreturn, 1) := by decide +kernel
theorem dX4_hashOfColours_0 : decode cX4_hashOfColours 0 = .ok (.lload_n 1, 1) := by decide +kernel
theorem dX4_hashOfColours_1 : decode cX4_hashOfColours 1 = .ok (.lstore_n 3, 1) := by decide +kernel
theorem dX4_hashOfColours_2 : decode cX4_hashOfColours 2 = .ok (.iconst 0, 1) := by decide +kernel
theorem dX4_hashOfColours_3 : decode cX4_hashOfColours 3 = .ok (.istore 5, 2) := by decide +kernel
theorem dX4_hashOfColours_5 : decode cX4_hashOfColours 5 = .ok (.iload 5, 2) := by decide +kernel
theorem dX4_hashOfColours_7 : decode cX4_hashOfColours 7 = .ok (.bipush 6, 2) := by decide +kernel
theorem dX4_hashOfColours_9 : decode cX4_hashOfColours 9 = .ok (.if_icmp .ge 59, 3) := by decide +kernel
theorem dX4_hashOfColours_12 : decode cX4_hashOfColours 12 = .ok (.iconst 0, 1) := by decide +kernel
theorem dX4_hashOfColours_13 : decode cX4_hashOfColours 13 = .ok (.istore 6, 2) := by decide +kernel
theorem dX4_hashOfColours_15 : decode cX4_hashOfColours 15 = .ok (.iload 6, 2) := by decide +kernel
theorem dX4_hashOfColours_17 : decode cX4_hashOfColours 17 = .ok (.bipush 6, 2) := by decide +kernel
theorem dX4_hashOfColours_19 : decode cX4_hashOfColours 19 = .ok (.if_icmp .ge 26, 3) := by decide +kernel
theorem dX4_hashOfColours_22 : decode cX4_hashOfColours 22 = .ok (.lload_n 3, 1) := by decide +kernel
theorem dX4_hashOfColours_23 : decode cX4_hashOfColours 23 = .ok (.aload_n 0, 1) := by decide +kernel
theorem dX4_hashOfColours_24 : decode cX4_hashOfColours 24 = .ok (.getfield 10, 3) := by decide +kernel
theorem dX4_hashOfColours_27 : decode cX4_hashOfColours 27 = .ok (.iload 5, 2) := by decide +kernel
theorem dX4_hashOfColours_29 : decode cX4_hashOfColours 29 = .ok (.iload 6, 2) := by decide +kernel
theorem dX4_hashOfColours_31 : decode cX4_hashOfColours 31 = .ok (.invokevirtual 236, 3) := by decide +kernel
theorem dX4_hashOfColours_34 : decode cX4_hashOfColours 34 = .ok (.i2l, 1) := by decide +kernel
theorem dX4_hashOfColours_35 : decode cX4_hashOfColours 35 = .ok (.invokestatic 273, 3) := by decide +kernel
theorem dX4_hashOfColours_38 : decode cX4_hashOfColours 38 = .ok (.lstore_n 3, 1) := by decide +kernel
theorem dX4_hashOfColours_39 : decode cX4_hashOfColours 39 = .ok (.iinc 6 1, 3) := by decide +kernel
theorem dX4_hashOfColours_42 : decode cX4_hashOfColours 42 = .ok (.goto (-27), 3) := by decide +kernel
theorem dX4_hashOfColours_45 : decode cX4_hashOfColours 45 = .ok (.lload_n 3, 1) := by decide +kernel
theorem dX4_hashOfColours_46 : decode cX4_hashOfColours 46 = .ok (.aload_n 0, 1) := by decide +kernel
theorem dX4_hashOfColours_47 : decode cX4_hashOfColours 47 = .ok (.getfield 10, 3) := by decide +kernel
theorem dX4_hashOfColours_50 : decode cX4_hashOfColours 50 = .ok (.iload 5, 2) := by decide +kernel
theorem dX4_hashOfColours_52 : decode cX4_hashOfColours 52 = .ok (.bipush 60, 2) := by decide +kernel
theorem dX4_hashOfColours_54 : decode cX4_hashOfColours 54 = .ok (.invokevirtual 249, 3) := by decide +kernel
theorem dX4_hashOfColours_57 : decode cX4_hashOfColours 57 = .ok (.i2l, 1) := by decide +kernel
theorem dX4_hashOfColours_58 : decode cX4_hashOfColours 58 = .ok (.invokestatic 273, 3) := by decide +kernel
theorem dX4_hashOfColours_61 : decode cX4_hashOfColours 61 = .ok (.lstore_n 3, 1) := by decide +kernel
theorem dX4_hashOfColours_62 : decode cX4_hashOfColours 62 = .ok (.iinc 5 1, 3) := by decide +kernel
theorem dX4_hashOfColours_65 : decode cX4_hashOfColours 65 = .ok (.goto (-60), 3) := by decide +kernel
theorem dX4_hashOfColours_68 : decode cX4_hashOfColours 68 = .ok (.lload_n 3, 1) := by decide +kernel
theorem dX4_hashOfColours_69 : decode cX4_hashOfColours 69 = .ok (.lreturn, 1) := by decide +kernel
theorem dX4_hashOfBeads_0 : decode cX4_hashOfBeads 0 = .ok (.lload_n 1, 1) := by decide +kernel
theorem dX4_hashOfBeads_1 : decode cX4_hashOfBeads 1 = .ok (.lstore_n 3, 1) := by decide +kernel
theorem dX4_hashOfBeads_2 : decode cX4_hashOfBeads 2 = .ok (.iconst 0, 1) := by decide +kernel
theorem dX4_hashOfBeads_3 : decode cX4_hashOfBeads 3 = .ok (.istore 5, 2) := by decide +kernel
theorem dX4_hashOfBeads_5 : decode cX4_hashOfBeads 5 = .ok (.iload 5, 2) := by decide +kernel
theorem dX4_hashOfBeads_7 : decode cX4_hashOfBeads 7 = .ok (.aload_n 0, 1) := by decide +kernel
theorem dX4_hashOfBeads_8 : decode cX4_hashOfBeads 8 = .ok (.getfield 10, 3) := by decide +kernel
theorem dX4_hashOfBeads_11 : decode cX4_hashOfBeads 11 = .ok (.getfield 149, 3) := by decide +kernel
theorem dX4_hashOfBeads_14 : decode cX4_hashOfBeads 14 = .ok (.if_icmp .ge 41, 3) := by decide +kernel
theorem dX4_hashOfBeads_17 : decode cX4_hashOfBeads 17 = .ok (.iconst 0, 1) := by decide +kernel
theorem dX4_hashOfBeads_18 : decode cX4_hashOfBeads 18 = .ok (.istore 6, 2) := by decide +kernel
theorem dX4_hashOfBeads_20 : decode cX4_hashOfBeads 20 = .ok (.iload 6, 2) := by decide +kernel
theorem dX4_hashOfBeads_22 : decode cX4_hashOfBeads 22 = .ok (.iconst 4, 1) := by decide +kernel
theorem dX4_hashOfBeads_23 : decode cX4_hashOfBeads 23 = .ok (.if_icmp .ge 26, 3) := by decide +kernel
theorem dX4_hashOfBeads_26 : decode cX4_hashOfBeads 26 = .ok (.lload_n 3, 1) := by decide +kernel
theorem dX4_hashOfBeads_27 : decode cX4_hashOfBeads 27 = .ok (.aload_n 0, 1) := by decide +kernel
theorem dX4_hashOfBeads_28 : decode cX4_hashOfBeads 28 = .ok (.getfield 10, 3) := by decide +kernel
theorem dX4_hashOfBeads_31 : decode cX4_hashOfBeads 31 = .ok (.iload 5, 2) := by decide +kernel
theorem dX4_hashOfBeads_33 : decode cX4_hashOfBeads 33 = .ok (.iload 6, 2) := by decide +kernel
theorem dX4_hashOfBeads_35 : decode cX4_hashOfBeads 35 = .ok (.invokevirtual 226, 3) := by decide +kernel
theorem dX4_hashOfBeads_38 : decode cX4_hashOfBeads 38 = .ok (.i2l, 1) := by decide +kernel
theorem dX4_hashOfBeads_39 : decode cX4_hashOfBeads 39 = .ok (.invokestatic 273, 3) := by decide +kernel
theorem dX4_hashOfBeads_42 : decode cX4_hashOfBeads 42 = .ok (.lstore_n 3, 1) := by decide +kernel
theorem dX4_hashOfBeads_43 : decode cX4_hashOfBeads 43 = .ok (.iinc 6 1, 3) := by decide +kernel
theorem dX4_hashOfBeads_46 : decode cX4_hashOfBeads 46 = .ok (.goto (-26), 3) := by decide +kernel
theorem dX4_hashOfBeads_49 : decode cX4_hashOfBeads 49 = .ok (.iinc 5 1, 3) := by decide +kernel
theorem dX4_hashOfBeads_52 : decode cX4_hashOfBeads 52 = .ok (.goto (-47), 3) := by decide +kernel
theorem dX4_hashOfBeads_55 : decode cX4_hashOfBeads 55 = .ok (.lload_n 3, 1) := by decide +kernel
theorem dX4_hashOfBeads_56 : decode cX4_hashOfBeads 56 = .ok (.lreturn, 1) := by decide +kernel
theorem dX4_hashOfStrings_0 : decode cX4_hashOfStrings 0 = .ok (.lload_n 1, 1) := by decide +kernel
theorem dX4_hashOfStrings_1 : decode cX4_hashOfStrings 1 = .ok (.lstore_n 3, 1) := by decide +kernel
theorem dX4_hashOfStrings_2 : decode cX4_hashOfStrings 2 = .ok (.iconst 0, 1) := by decide +kernel
theorem dX4_hashOfStrings_3 : decode cX4_hashOfStrings 3 = .ok (.istore 5, 2) := by decide +kernel
theorem dX4_hashOfStrings_5 : decode cX4_hashOfStrings 5 = .ok (.iload 5, 2) := by decide +kernel
theorem dX4_hashOfStrings_7 : decode cX4_hashOfStrings 7 = .ok (.aload_n 0, 1) := by decide +kernel
theorem dX4_hashOfStrings_8 : decode cX4_hashOfStrings 8 = .ok (.getfield 10, 3) := by decide +kernel
theorem dX4_hashOfStrings_11 : decode cX4_hashOfStrings 11 = .ok (.getfield 161, 3) := by decide +kernel
theorem dX4_hashOfStrings_14 : decode cX4_hashOfStrings 14 = .ok (.if_icmp .ge 41, 3) := by decide +kernel
theorem dX4_hashOfStrings_17 : decode cX4_hashOfStrings 17 = .ok (.iconst 0, 1) := by decide +kernel
theorem dX4_hashOfStrings_18 : decode cX4_hashOfStrings 18 = .ok (.istore 6, 2) := by decide +kernel
theorem dX4_hashOfStrings_20 : decode cX4_hashOfStrings 20 = .ok (.iload 6, 2) := by decide +kernel
theorem dX4_hashOfStrings_22 : decode cX4_hashOfStrings 22 = .ok (.iconst 4, 1) := by decide +kernel
theorem dX4_hashOfStrings_23 : decode cX4_hashOfStrings 23 = .ok (.if_icmp .ge 26, 3) := by decide +kernel
theorem dX4_hashOfStrings_26 : decode cX4_hashOfStrings 26 = .ok (.lload_n 3, 1) := by decide +kernel
theorem dX4_hashOfStrings_27 : decode cX4_hashOfStrings 27 = .ok (.aload_n 0, 1) := by decide +kernel
theorem dX4_hashOfStrings_28 : decode cX4_hashOfStrings 28 = .ok (.getfield 10, 3) := by decide +kernel
theorem dX4_hashOfStrings_31 : decode cX4_hashOfStrings 31 = .ok (.iload 5, 2) := by decide +kernel
theorem dX4_hashOfStrings_33 : decode cX4_hashOfStrings 33 = .ok (.iload 6, 2) := by decide +kernel
theorem dX4_hashOfStrings_35 : decode cX4_hashOfStrings 35 = .ok (.invokevirtual 231, 3) := by decide +kernel
theorem dX4_hashOfStrings_38 : decode cX4_hashOfStrings 38 = .ok (.i2l, 1) := by decide +kernel
theorem dX4_hashOfStrings_39 : decode cX4_hashOfStrings 39 = .ok (.invokestatic 273, 3) := by decide +kernel
theorem dX4_hashOfStrings_42 : decode cX4_hashOfStrings 42 = .ok (.lstore_n 3, 1) := by decide +kernel
theorem dX4_hashOfStrings_43 : decode cX4_hashOfStrings 43 = .ok (.iinc 6 1, 3) := by decide +kernel
theorem dX4_hashOfStrings_46 : decode cX4_hashOfStrings 46 = .ok (.goto (-26), 3) := by decide +kernel
theorem dX4_hashOfStrings_49 : decode cX4_hashOfStrings 49 = .ok (.iinc 5 1, 3) := by decide +kernel
theorem dX4_hashOfStrings_52 : decode cX4_hashOfStrings 52 = .ok (.goto (-47), 3) := by decide +kernel
theorem dX4_hashOfStrings_55 : decode cX4_hashOfStrings 55 = .ok (.lload_n 3, 1) := by decide +kernel
theorem dX4_hashOfStrings_56 : decode cX4_hashOfStrings 56 = .ok (.lreturn, 1) := by decide +kernel
theorem dX4_hashOfPlans_0 : decode cX4_hashOfPlans 0 = .ok (.lload_n 1, 1) := by decide +kernel
theorem dX4_hashOfPlans_1 : decode cX4_hashOfPlans 1 = .ok (.aload_n 0, 1) := by decide +kernel
theorem dX4_hashOfPlans_2 : decode cX4_hashOfPlans 2 = .ok (.getfield 10, 3) := by decide +kernel
theorem dX4_hashOfPlans_5 : decode cX4_hashOfPlans 5 = .ok (.bipush 120, 2) := by decide +kernel
theorem dX4_hashOfPlans_7 : decode cX4_hashOfPlans 7 = .ok (.iconst (-1), 1) := by decide +kernel
theorem dX4_hashOfPlans_8 : decode cX4_hashOfPlans 8 = .ok (.invokevirtual 254, 3) := by decide +kernel
theorem dX4_hashOfPlans_11 : decode cX4_hashOfPlans 11 = .ok (.i2l, 1) := by decide +kernel
theorem dX4_hashOfPlans_12 : decode cX4_hashOfPlans 12 = .ok (.invokestatic 273, 3) := by decide +kernel
theorem dX4_hashOfPlans_15 : decode cX4_hashOfPlans 15 = .ok (.lstore_n 3, 1) := by decide +kernel
theorem dX4_hashOfPlans_16 : decode cX4_hashOfPlans 16 = .ok (.iconst 0, 1) := by decide +kernel
theorem dX4_hashOfPlans_17 : decode cX4_hashOfPlans 17 = .ok (.istore 5, 2) := by decide +kernel
theorem dX4_hashOfPlans_19 : decode cX4_hashOfPlans 19 = .ok (.iload 5, 2) := by decide +kernel
theorem dX4_hashOfPlans_21 : decode cX4_hashOfPlans 21 = .ok (.bipush 8, 2) := by decide +kernel
theorem dX4_hashOfPlans_23 : decode cX4_hashOfPlans 23 = .ok (.if_icmp .ge 26, 3) := by decide +kernel
theorem dX4_hashOfPlans_26 : decode cX4_hashOfPlans 26 = .ok (.lload_n 3, 1) := by decide +kernel
theorem dX4_hashOfPlans_27 : decode cX4_hashOfPlans 27 = .ok (.aload_n 0, 1) := by decide +kernel
theorem dX4_hashOfPlans_28 : decode cX4_hashOfPlans 28 = .ok (.getfield 10, 3) := by decide +kernel
theorem dX4_hashOfPlans_31 : decode cX4_hashOfPlans 31 = .ok (.bipush 120, 2) := by decide +kernel
theorem dX4_hashOfPlans_33 : decode cX4_hashOfPlans 33 = .ok (.iload 5, 2) := by decide +kernel
theorem dX4_hashOfPlans_35 : decode cX4_hashOfPlans 35 = .ok (.invokevirtual 254, 3) := by decide +kernel
theorem dX4_hashOfPlans_38 : decode cX4_hashOfPlans 38 = .ok (.i2l, 1) := by decide +kernel
theorem dX4_hashOfPlans_39 : decode cX4_hashOfPlans 39 = .ok (.invokestatic 273, 3) := by decide +kernel
theorem dX4_hashOfPlans_42 : decode cX4_hashOfPlans 42 = .ok (.lstore_n 3, 1) := by decide +kernel
theorem dX4_hashOfPlans_43 : decode cX4_hashOfPlans 43 = .ok (.iinc 5 1, 3) := by decide +kernel
theorem dX4_hashOfPlans_46 : decode cX4_hashOfPlans 46 = .ok (.goto (-27), 3) := by decide +kernel
theorem dX4_hashOfPlans_49 : decode cX4_hashOfPlans 49 = .ok (.lload_n 3, 1) := by decide +kernel
theorem dX4_hashOfPlans_50 : decode cX4_hashOfPlans 50 = .ok (.lreturn, 1) := by decide +kernel
theorem dX4_hashOfBuffer_0 : decode cX4_hashOfBuffer 0 = .ok (.lload_n 1, 1) := by decide +kernel
theorem dX4_hashOfBuffer_1 : decode cX4_hashOfBuffer 1 = .ok (.aload_n 0, 1) := by decide +kernel
theorem dX4_hashOfBuffer_2 : decode cX4_hashOfBuffer 2 = .ok (.getfield 26, 3) := by decide +kernel
theorem dX4_hashOfBuffer_5 : decode cX4_hashOfBuffer 5 = .ok (.getfield 191, 3) := by decide +kernel
theorem dX4_hashOfBuffer_8 : decode cX4_hashOfBuffer 8 = .ok (.i2l, 1) := by decide +kernel
theorem dX4_hashOfBuffer_9 : decode cX4_hashOfBuffer 9 = .ok (.invokestatic 273, 3) := by decide +kernel
theorem dX4_hashOfBuffer_12 : decode cX4_hashOfBuffer 12 = .ok (.lstore_n 3, 1) := by decide +kernel
theorem dX4_hashOfBuffer_13 : decode cX4_hashOfBuffer 13 = .ok (.iconst 0, 1) := by decide +kernel
theorem dX4_hashOfBuffer_14 : decode cX4_hashOfBuffer 14 = .ok (.istore 5, 2) := by decide +kernel
theorem dX4_hashOfBuffer_16 : decode cX4_hashOfBuffer 16 = .ok (.iload 5, 2) := by decide +kernel
theorem dX4_hashOfBuffer_18 : decode cX4_hashOfBuffer 18 = .ok (.aload_n 0, 1) := by decide +kernel
theorem dX4_hashOfBuffer_19 : decode cX4_hashOfBuffer 19 = .ok (.getfield 26, 3) := by decide +kernel
theorem dX4_hashOfBuffer_22 : decode cX4_hashOfBuffer 22 = .ok (.getfield 191, 3) := by decide +kernel
theorem dX4_hashOfBuffer_25 : decode cX4_hashOfBuffer 25 = .ok (.if_icmp .ge 27, 3) := by decide +kernel
theorem dX4_hashOfBuffer_28 : decode cX4_hashOfBuffer 28 = .ok (.lload_n 3, 1) := by decide +kernel
theorem dX4_hashOfBuffer_29 : decode cX4_hashOfBuffer 29 = .ok (.aload_n 0, 1) := by decide +kernel
theorem dX4_hashOfBuffer_30 : decode cX4_hashOfBuffer 30 = .ok (.getfield 26, 3) := by decide +kernel
theorem dX4_hashOfBuffer_33 : decode cX4_hashOfBuffer 33 = .ok (.getfield 196, 3) := by decide +kernel
theorem dX4_hashOfBuffer_36 : decode cX4_hashOfBuffer 36 = .ok (.iload 5, 2) := by decide +kernel
theorem dX4_hashOfBuffer_38 : decode cX4_hashOfBuffer 38 = .ok (.invokestatic 111, 3) := by decide +kernel
theorem dX4_hashOfBuffer_41 : decode cX4_hashOfBuffer 41 = .ok (.i2l, 1) := by decide +kernel
theorem dX4_hashOfBuffer_42 : decode cX4_hashOfBuffer 42 = .ok (.invokestatic 273, 3) := by decide +kernel
theorem dX4_hashOfBuffer_45 : decode cX4_hashOfBuffer 45 = .ok (.lstore_n 3, 1) := by decide +kernel
theorem dX4_hashOfBuffer_46 : decode cX4_hashOfBuffer 46 = .ok (.iinc 5 1, 3) := by decide +kernel
theorem dX4_hashOfBuffer_49 : decode cX4_hashOfBuffer 49 = .ok (.goto (-33), 3) := by decide +kernel
theorem dX4_hashOfBuffer_52 : decode cX4_hashOfBuffer 52 = .ok (.lload_n 3, 1) := by decide +kernel
theorem dX4_hashOfBuffer_53 : decode cX4_hashOfBuffer 53 = .ok (.lreturn, 1) := by decide +kernel
theorem dX4_bitsOf_0 : decode cX4_bitsOf 0 = .ok (.dload_n 0, 1) := by decide +kernel
theorem dX4_bitsOf_1 : decode cX4_bitsOf 1 = .ok (.dconst 0, 1) := by decide +kernel
theorem dX4_bitsOf_2 : decode cX4_bitsOf 2 = .ok (.dcmp .g, 1) := by decide +kernel
theorem dX4_bitsOf_3 : decode cX4_bitsOf 3 = .ok (.ifCond .gt 5, 3) := by decide +kernel
theorem dX4_bitsOf_6 : decode cX4_bitsOf 6 = .ok (.lconst 0, 1) := by decide +kernel
theorem dX4_bitsOf_7 : decode cX4_bitsOf 7 = .ok (.lreturn, 1) := by decide +kernel
theorem dX4_bitsOf_8 : decode cX4_bitsOf 8 = .ok (.dload_n 0, 1) := by decide +kernel
theorem dX4_bitsOf_9 : decode cX4_bitsOf 9 = .ok (.dstore_n 2, 1) := by decide +kernel
theorem dX4_bitsOf_10 : decode cX4_bitsOf 10 = .ok (.ldc2_w 351, 3) := by decide +kernel
theorem dX4_bitsOf_13 : decode cX4_bitsOf 13 = .ok (.lstore 4, 2) := by decide +kernel
theorem dX4_bitsOf_15 : decode cX4_bitsOf 15 = .ok (.iconst 0, 1) := by decide +kernel
theorem dX4_bitsOf_16 : decode cX4_bitsOf 16 = .ok (.istore 6, 2) := by decide +kernel
theorem dX4_bitsOf_18 : decode cX4_bitsOf 18 = .ok (.iload 6, 2) := by decide +kernel
theorem dX4_bitsOf_20 : decode cX4_bitsOf 20 = .ok (.bipush 64, 2) := by decide +kernel
theorem dX4_bitsOf_22 : decode cX4_bitsOf 22 = .ok (.if_icmp .ge 27, 3) := by decide +kernel
theorem dX4_bitsOf_25 : decode cX4_bitsOf 25 = .ok (.dload_n 2, 1) := by decide +kernel
theorem dX4_bitsOf_26 : decode cX4_bitsOf 26 = .ok (.dconst 1, 1) := by decide +kernel
theorem dX4_bitsOf_27 : decode cX4_bitsOf 27 = .ok (.dcmp .g, 1) := by decide +kernel
theorem dX4_bitsOf_28 : decode cX4_bitsOf 28 = .ok (.ifCond .ge 21, 3) := by decide +kernel
theorem dX4_bitsOf_31 : decode cX4_bitsOf 31 = .ok (.dload_n 2, 1) := by decide +kernel
theorem dX4_bitsOf_32 : decode cX4_bitsOf 32 = .ok (.ldc2_w 353, 3) := by decide +kernel
theorem dX4_bitsOf_35 : decode cX4_bitsOf 35 = .ok (.dmul, 1) := by decide +kernel
theorem dX4_bitsOf_36 : decode cX4_bitsOf 36 = .ok (.dstore_n 2, 1) := by decide +kernel
theorem dX4_bitsOf_37 : decode cX4_bitsOf 37 = .ok (.lload 4, 2) := by decide +kernel
theorem dX4_bitsOf_39 : decode cX4_bitsOf 39 = .ok (.lconst 1, 1) := by decide +kernel
theorem dX4_bitsOf_40 : decode cX4_bitsOf 40 = .ok (.lsub, 1) := by decide +kernel
theorem dX4_bitsOf_41 : decode cX4_bitsOf 41 = .ok (.lstore 4, 2) := by decide +kernel
theorem dX4_bitsOf_43 : decode cX4_bitsOf 43 = .ok (.iinc 6 1, 3) := by decide +kernel
theorem dX4_bitsOf_46 : decode cX4_bitsOf 46 = .ok (.goto (-28), 3) := by decide +kernel
theorem dX4_bitsOf_49 : decode cX4_bitsOf 49 = .ok (.lload 4, 2) := by decide +kernel
theorem dX4_bitsOf_51 : decode cX4_bitsOf 51 = .ok (.bipush 52, 2) := by decide +kernel
theorem dX4_bitsOf_53 : decode cX4_bitsOf 53 = .ok (.lshl, 1) := by decide +kernel
theorem dX4_bitsOf_54 : decode cX4_bitsOf 54 = .ok (.dload_n 2, 1) := by decide +kernel
theorem dX4_bitsOf_55 : decode cX4_bitsOf 55 = .ok (.dconst 1, 1) := by decide +kernel
theorem dX4_bitsOf_56 : decode cX4_bitsOf 56 = .ok (.dsub, 1) := by decide +kernel
theorem dX4_bitsOf_57 : decode cX4_bitsOf 57 = .ok (.ldc2_w 355, 3) := by decide +kernel
theorem dX4_bitsOf_60 : decode cX4_bitsOf 60 = .ok (.dmul, 1) := by decide +kernel
theorem dX4_bitsOf_61 : decode cX4_bitsOf 61 = .ok (.d2l, 1) := by decide +kernel
theorem dX4_bitsOf_62 : decode cX4_bitsOf 62 = .ok (.ladd, 1) := by decide +kernel
theorem dX4_bitsOf_63 : decode cX4_bitsOf 63 = .ok (.lreturn, 1) := by decide +kernel
theorem dX4_at_0 : decode cX4_at 0 = .ok (.aload_n 0, 1) := by decide +kernel
theorem dX4_at_1 : decode cX4_at 1 = .ok (.ifnull 13, 3) := by decide +kernel
theorem dX4_at_4 : decode cX4_at 4 = .ok (.iload_n 1, 1) := by decide +kernel
theorem dX4_at_5 : decode cX4_at 5 = .ok (.ifCond .lt 9, 3) := by decide +kernel
theorem dX4_at_8 : decode cX4_at 8 = .ok (.iload_n 1, 1) := by decide +kernel
theorem dX4_at_9 : decode cX4_at 9 = .ok (.aload_n 0, 1) := by decide +kernel
theorem dX4_at_10 : decode cX4_at 10 = .ok (.arraylength, 1) := by decide +kernel
theorem dX4_at_11 : decode cX4_at 11 = .ok (.if_icmp .lt 5, 3) := by decide +kernel
theorem dX4_at_14 : decode cX4_at 14 = .ok (.iconst 0, 1) := by decide +kernel
theorem dX4_at_15 : decode cX4_at 15 = .ok (.ireturn, 1) := by decide +kernel
theorem dX4_at_16 : decode cX4_at 16 = .ok (.aload_n 0, 1) := by decide +kernel
theorem dX4_at_17 : decode cX4_at 17 = .ok (.iload_n 1, 1) := by decide +kernel
theorem dX4_at_18 : decode cX4_at 18 = .ok (.iaload, 1) := by decide +kernel
theorem dX4_at_19 : decode cX4_at 19 = .ok (.ireturn, 1) := by decide +kernel
theorem dX4_put_0 : decode cX4_put 0 = .ok (.aload_n 0, 1) := by decide +kernel
theorem dX4_put_1 : decode cX4_put 1 = .ok (.ifnull 13, 3) := by decide +kernel
theorem dX4_put_4 : decode cX4_put 4 = .ok (.iload_n 1, 1) := by decide +kernel
theorem dX4_put_5 : decode cX4_put 5 = .ok (.ifCond .lt 9, 3) := by decide +kernel
theorem dX4_put_8 : decode cX4_put 8 = .ok (.iload_n 1, 1) := by decide +kernel
theorem dX4_put_9 : decode cX4_put 9 = .ok (.aload_n 0, 1) := by decide +kernel
theorem dX4_put_10 : decode cX4_put 10 = .ok (.arraylength, 1) := by decide +kernel
theorem dX4_put_11 : decode cX4_put 11 = .ok (.if_icmp .lt 4, 3) := by decide +kernel
theorem dX4_put_14 : decode cX4_put 14 = .ok (.return_, 1) := by decide +kernel
theorem dX4_put_15 : decode cX4_put 15 = .ok (.aload_n 0, 1) := by decide +kernel
theorem dX4_put_16 : decode cX4_put 16 = .ok (.iload_n 1, 1) := by decide +kernel
theorem dX4_put_17 : decode cX4_put 17 = .ok (.iload_n 2, 1) := by decide +kernel
theorem dX4_put_18 : decode cX4_put 18 = .ok (.iastore, 1) := by decide +kernel
theorem dX4_put_19 : decode cX4_put 19 = .ok (.return_, 1) := by decide +kernel
theorem dX4_add_0 : decode cX4_add 0 = .ok (.aload_n 0, 1) := by decide +kernel
theorem dX4_add_1 : decode cX4_add 1 = .ok (.iload_n 1, 1) := by decide +kernel
theorem dX4_add_2 : decode cX4_add 2 = .ok (.aload_n 0, 1) := by decide +kernel
theorem dX4_add_3 : decode cX4_add 3 = .ok (.iload_n 1, 1) := by decide +kernel
theorem dX4_add_4 : decode cX4_add 4 = .ok (.invokestatic 111, 3) := by decide +kernel
theorem dX4_add_7 : decode cX4_add 7 = .ok (.iload_n 2, 1) := by decide +kernel
theorem dX4_add_8 : decode cX4_add 8 = .ok (.iadd, 1) := by decide +kernel
theorem dX4_add_9 : decode cX4_add 9 = .ok (.invokestatic 123, 3) := by decide +kernel
theorem dX4_add_12 : decode cX4_add 12 = .ok (.return_, 1) := by decide +kernel
theorem dX4_copy_0 : decode cX4_copy 0 = .ok (.aload_n 0, 1) := by decide +kernel
theorem dX4_copy_1 : decode cX4_copy 1 = .ok (.ifnull 7, 3) := by decide +kernel
theorem dX4_copy_4 : decode cX4_copy 4 = .ok (.aload_n 1, 1) := by decide +kernel
theorem dX4_copy_5 : decode cX4_copy 5 = .ok (.ifnonnull 4, 3) := by decide +kernel
theorem dX4_copy_8 : decode cX4_copy 8 = .ok (.return_, 1) := by decide +kernel
theorem dX4_copy_9 : decode cX4_copy 9 = .ok (.iconst 0, 1) := by decide +kernel
theorem dX4_copy_10 : decode cX4_copy 10 = .ok (.istore_n 2, 1) := by decide +kernel
theorem dX4_copy_11 : decode cX4_copy 11 = .ok (.iload_n 2, 1) := by decide +kernel
theorem dX4_copy_12 : decode cX4_copy 12 = .ok (.aload_n 0, 1) := by decide +kernel
theorem dX4_copy_13 : decode cX4_copy 13 = .ok (.arraylength, 1) := by decide +kernel
theorem dX4_copy_14 : decode cX4_copy 14 = .ok (.if_icmp .ge 21, 3) := by decide +kernel
theorem dX4_copy_17 : decode cX4_copy 17 = .ok (.iload_n 2, 1) := by decide +kernel
theorem dX4_copy_18 : decode cX4_copy 18 = .ok (.aload_n 1, 1) := by decide +kernel
theorem dX4_copy_19 : decode cX4_copy 19 = .ok (.arraylength, 1) := by decide +kernel
theorem dX4_copy_20 : decode cX4_copy 20 = .ok (.if_icmp .ge 15, 3) := by decide +kernel
theorem dX4_copy_23 : decode cX4_copy 23 = .ok (.aload_n 1, 1) := by decide +kernel
theorem dX4_copy_24 : decode cX4_copy 24 = .ok (.iload_n 2, 1) := by decide +kernel
theorem dX4_copy_25 : decode cX4_copy 25 = .ok (.aload_n 0, 1) := by decide +kernel
theorem dX4_copy_26 : decode cX4_copy 26 = .ok (.iload_n 2, 1) := by decide +kernel
theorem dX4_copy_27 : decode cX4_copy 27 = .ok (.iaload, 1) := by decide +kernel
theorem dX4_copy_28 : decode cX4_copy 28 = .ok (.iastore, 1) := by decide +kernel
theorem dX4_copy_29 : decode cX4_copy 29 = .ok (.iinc 2 1, 3) := by decide +kernel
theorem dX4_copy_32 : decode cX4_copy 32 = .ok (.goto (-21), 3) := by decide +kernel
theorem dX4_copy_35 : decode cX4_copy 35 = .ok (.return_, 1) := by decide +kernel
theorem dX4_sum_0 : decode cX4_sum 0 = .ok (.aload_n 0, 1) := by decide +kernel
theorem dX4_sum_1 : decode cX4_sum 1 = .ok (.ifnonnull 5, 3) := by decide +kernel
theorem dX4_sum_4 : decode cX4_sum 4 = .ok (.iconst 0, 1) := by decide +kernel
theorem dX4_sum_5 : decode cX4_sum 5 = .ok (.ireturn, 1) := by decide +kernel
theorem dX4_sum_6 : decode cX4_sum 6 = .ok (.iconst 0, 1) := by decide +kernel
theorem dX4_sum_7 : decode cX4_sum 7 = .ok (.istore_n 1, 1) := by decide +kernel
theorem dX4_sum_8 : decode cX4_sum 8 = .ok (.iconst 0, 1) := by decide +kernel
theorem dX4_sum_9 : decode cX4_sum 9 = .ok (.istore_n 2, 1) := by decide +kernel
theorem dX4_sum_10 : decode cX4_sum 10 = .ok (.iload_n 2, 1) := by decide +kernel
theorem dX4_sum_11 : decode cX4_sum 11 = .ok (.aload_n 0, 1) := by decide +kernel
theorem dX4_sum_12 : decode cX4_sum 12 = .ok (.arraylength, 1) := by decide +kernel
theorem dX4_sum_13 : decode cX4_sum 13 = .ok (.if_icmp .ge 15, 3) := by decide +kernel
theorem dX4_sum_16 : decode cX4_sum 16 = .ok (.iload_n 1, 1) := by decide +kernel
theorem dX4_sum_17 : decode cX4_sum 17 = .ok (.aload_n 0, 1) := by decide +kernel
theorem dX4_sum_18 : decode cX4_sum 18 = .ok (.iload_n 2, 1) := by decide +kernel
theorem dX4_sum_19 : decode cX4_sum 19 = .ok (.iaload, 1) := by decide +kernel
theorem dX4_sum_20 : decode cX4_sum 20 = .ok (.iadd, 1) := by decide +kernel
theorem dX4_sum_21 : decode cX4_sum 21 = .ok (.istore_n 1, 1) := by decide +kernel
theorem dX4_sum_22 : decode cX4_sum 22 = .ok (.iinc 2 1, 3) := by decide +kernel
theorem dX4_sum_25 : decode cX4_sum 25 = .ok (.goto (-15), 3) := by decide +kernel
theorem dX4_sum_28 : decode cX4_sum 28 = .ok (.iload_n 1, 1) := by decide +kernel
theorem dX4_sum_29 : decode cX4_sum 29 = .ok (.ireturn, 1) := by decide +kernel
theorem dX4_occurrences_0 : decode cX4_occurrences 0 = .ok (.iconst 0, 1) := by decide +kernel
theorem dX4_occurrences_1 : decode cX4_occurrences 1 = .ok (.istore_n 3, 1) := by decide +kernel
theorem dX4_occurrences_2 : decode cX4_occurrences 2 = .ok (.iconst 0, 1) := by decide +kernel
theorem dX4_occurrences_3 : decode cX4_occurrences 3 = .ok (.istore 4, 2) := by decide +kernel
theorem dX4_occurrences_5 : decode cX4_occurrences 5 = .ok (.iload 4, 2) := by decide +kernel
theorem dX4_occurrences_7 : decode cX4_occurrences 7 = .ok (.iload_n 1, 1) := by decide +kernel
theorem dX4_occurrences_8 : decode cX4_occurrences 8 = .ok (.if_icmp .ge 22, 3) := by decide +kernel
theorem dX4_occurrences_11 : decode cX4_occurrences 11 = .ok (.aload_n 0, 1) := by decide +kernel
theorem dX4_occurrences_12 : decode cX4_occurrences 12 = .ok (.iload 4, 2) := by decide +kernel
theorem dX4_occurrences_14 : decode cX4_occurrences 14 = .ok (.invokestatic 111, 3) := by decide +kernel
theorem dX4_occurrences_17 : decode cX4_occurrences 17 = .ok (.iload_n 2, 1) := by decide +kernel
theorem dX4_occurrences_18 : decode cX4_occurrences 18 = .ok (.if_icmp .ne 6, 3) := by decide +kernel
theorem dX4_occurrences_21 : decode cX4_occurrences 21 = .ok (.iinc 3 1, 3) := by decide +kernel
theorem dX4_occurrences_24 : decode cX4_occurrences 24 = .ok (.iinc 4 1, 3) := by decide +kernel
theorem dX4_occurrences_27 : decode cX4_occurrences 27 = .ok (.goto (-22), 3) := by decide +kernel
theorem dX4_occurrences_30 : decode cX4_occurrences 30 = .ok (.iload_n 3, 1) := by decide +kernel
theorem dX4_occurrences_31 : decode cX4_occurrences 31 = .ok (.ireturn, 1) := by decide +kernel
theorem dX4_quotient_0 : decode cX4_quotient 0 = .ok (.iload_n 1, 1) := by decide +kernel
theorem dX4_quotient_1 : decode cX4_quotient 1 = .ok (.iconst 1, 1) := by decide +kernel
theorem dX4_quotient_2 : decode cX4_quotient 2 = .ok (.if_icmp .ge 7, 3) := by decide +kernel
theorem dX4_quotient_5 : decode cX4_quotient 5 = .ok (.iconst 0, 1) := by decide +kernel
theorem dX4_quotient_6 : decode cX4_quotient 6 = .ok (.goto 6, 3) := by decide +kernel
theorem dX4_quotient_9 : decode cX4_quotient 9 = .ok (.iload_n 0, 1) := by decide +kernel
theorem dX4_quotient_10 : decode cX4_quotient 10 = .ok (.iload_n 1, 1) := by decide +kernel
theorem dX4_quotient_11 : decode cX4_quotient 11 = .ok (.idiv, 1) := by decide +kernel
theorem dX4_quotient_12 : decode cX4_quotient 12 = .ok (.ireturn, 1) := by decide +kernel
theorem dX4_remainder_0 : decode cX4_remainder 0 = .ok (.iload_n 1, 1) := by decide +kernel
theorem dX4_remainder_1 : decode cX4_remainder 1 = .ok (.iconst 1, 1) := by decide +kernel
theorem dX4_remainder_2 : decode cX4_remainder 2 = .ok (.if_icmp .ge 7, 3) := by decide +kernel
theorem dX4_remainder_5 : decode cX4_remainder 5 = .ok (.iconst 0, 1) := by decide +kernel
theorem dX4_remainder_6 : decode cX4_remainder 6 = .ok (.goto 6, 3) := by decide +kernel
theorem dX4_remainder_9 : decode cX4_remainder 9 = .ok (.iload_n 0, 1) := by decide +kernel
theorem dX4_remainder_10 : decode cX4_remainder 10 = .ok (.iload_n 1, 1) := by decide +kernel
theorem dX4_remainder_11 : decode cX4_remainder 11 = .ok (.irem, 1) := by decide +kernel
theorem dX4_remainder_12 : decode cX4_remainder 12 = .ok (.ireturn, 1) := by decide +kernel
theorem dX5_init_0 : decode cX5_init 0 = .ok (.aload_n 0, 1) := by decide +kernel
theorem dX5_init_1 : decode cX5_init 1 = .ok (.invokespecial 1, 3) := by decide +kernel
theorem dX5_init_4 : decode cX5_init 4 = .ok (.aload_n 0, 1) := by decide +kernel
theorem dX5_init_5 : decode cX5_init 5 = .ok (.sipush 435, 3) := by decide +kernel
theorem dX5_init_8 : decode cX5_init 8 = .ok (.newarray .int, 2) := by decide +kernel
theorem dX5_init_10 : decode cX5_init 10 = .ok (.putfield 7, 3) := by decide +kernel
theorem dX5_init_13 : decode cX5_init 13 = .ok (.aload_n 0, 1) := by decide +kernel
theorem dX5_init_14 : decode cX5_init 14 = .ok (.sipush 2610, 3) := by decide +kernel
theorem dX5_init_17 : decode cX5_init 17 = .ok (.newarray .int, 2) := by decide +kernel
theorem dX5_init_19 : decode cX5_init 19 = .ok (.putfield 13, 3) := by decide +kernel
theorem dX5_init_22 : decode cX5_init 22 = .ok (.aload_n 0, 1) := by decide +kernel
theorem dX5_init_23 : decode cX5_init 23 = .ok (.bipush 60, 2) := by decide +kernel
theorem dX5_init_25 : decode cX5_init 25 = .ok (.newarray .int, 2) := by decide +kernel
theorem dX5_init_27 : decode cX5_init 27 = .ok (.putfield 16, 3) := by decide +kernel
theorem dX5_init_30 : decode cX5_init 30 = .ok (.aload_n 0, 1) := by decide +kernel
theorem dX5_init_31 : decode cX5_init 31 = .ok (.bipush 120, 2) := by decide +kernel
theorem dX5_init_33 : decode cX5_init 33 = .ok (.newarray .int, 2) := by decide +kernel
theorem dX5_init_35 : decode cX5_init 35 = .ok (.putfield 19, 3) := by decide +kernel
theorem dX5_init_38 : decode cX5_init 38 = .ok (.aload_n 0, 1) := by decide +kernel
theorem dX5_init_39 : decode cX5_init 39 = .ok (.bipush 6, 2) := by decide +kernel
theorem dX5_init_41 : decode cX5_init 41 = .ok (.newarray .int, 2) := by decide +kernel
theorem dX5_init_43 : decode cX5_init 43 = .ok (.putfield 22, 3) := by decide +kernel
theorem dX5_init_46 : decode cX5_init 46 = .ok (.aload_n 0, 1) := by decide +kernel
theorem dX5_init_47 : decode cX5_init 47 = .ok (.bipush 60, 2) := by decide +kernel
theorem dX5_init_49 : decode cX5_init 49 = .ok (.newarray .int, 2) := by decide +kernel
theorem dX5_init_51 : decode cX5_init 51 = .ok (.putfield 25, 3) := by decide +kernel
theorem dX5_init_54 : decode cX5_init 54 = .ok (.aload_n 0, 1) := by decide +kernel
theorem dX5_init_55 : decode cX5_init 55 = .ok (.bipush 60, 2) := by decide +kernel
theorem dX5_init_57 : decode cX5_init 57 = .ok (.newarray .int, 2) := by decide +kernel
theorem dX5_init_59 : decode cX5_init 59 = .ok (.putfield 28, 3) := by decide +kernel
theorem dX5_init_62 : decode cX5_init 62 = .ok (.aload_n 0, 1) := by decide +kernel
theorem dX5_init_63 : decode cX5_init 63 = .ok (.bipush 60, 2) := by decide +kernel
theorem dX5_init_65 : decode cX5_init 65 = .ok (.newarray .int, 2) := by decide +kernel
theorem dX5_init_67 : decode cX5_init 67 = .ok (.putfield 31, 3) := by decide +kernel
theorem dX5_init_70 : decode cX5_init 70 = .ok (.aload_n 0, 1) := by decide +kernel
theorem dX5_init_71 : decode cX5_init 71 = .ok (.sipush 241, 3) := by decide +kernel
theorem dX5_init_74 : decode cX5_init 74 = .ok (.newarray .int, 2) := by decide +kernel
theorem dX5_init_76 : decode cX5_init 76 = .ok (.putfield 34, 3) := by decide +kernel
theorem dX5_init_79 : decode cX5_init 79 = .ok (.aload_n 0, 1) := by decide +kernel
theorem dX5_init_80 : decode cX5_init 80 = .ok (.bipush 120, 2) := by decide +kernel
theorem dX5_init_82 : decode cX5_init 82 = .ok (.newarray .int, 2) := by decide +kernel
theorem dX5_init_84 : decode cX5_init 84 = .ok (.putfield 37, 3) := by decide +kernel
theorem dX5_init_87 : decode cX5_init 87 = .ok (.aload_n 0, 1) := by decide +kernel
theorem dX5_init_88 : decode cX5_init 88 = .ok (.getfield 7, 3) := by decide +kernel
theorem dX5_init_91 : decode cX5_init 91 = .ok (.iconst 0, 1) := by decide +kernel
theorem dX5_init_92 : decode cX5_init 92 = .ok (.bipush 6, 2) := by decide +kernel
theorem dX5_init_94 : decode cX5_init 94 = .ok (.iastore, 1) := by decide +kernel
theorem dX5_init_95 : decode cX5_init 95 = .ok (.aload_n 0, 1) := by decide +kernel
theorem dX5_init_96 : decode cX5_init 96 = .ok (.getfield 7, 3) := by decide +kernel
theorem dX5_init_99 : decode cX5_init 99 = .ok (.iconst 1, 1) := by decide +kernel
theorem dX5_init_100 : decode cX5_init 100 = .ok (.iconst 1, 1) := by decide +kernel
theorem dX5_init_101 : decode cX5_init 101 = .ok (.iastore, 1) := by decide +kernel
theorem dX5_init_102 : decode cX5_init 102 = .ok (.aload_n 0, 1) := by decide +kernel
theorem dX5_init_103 : decode cX5_init 103 = .ok (.getfield 7, 3) := by decide +kernel
theorem dX5_init_106 : decode cX5_init 106 = .ok (.iconst 2, 1) := by decide +kernel
theorem dX5_init_107 : decode cX5_init 107 = .ok (.bipush 40, 2) := by decide +kernel
theorem dX5_init_109 : decode cX5_init 109 = .ok (.iastore, 1) := by decide +kernel
theorem dX5_init_110 : decode cX5_init 110 = .ok (.aload_n 0, 1) := by decide +kernel
theorem dX5_init_111 : decode cX5_init 111 = .ok (.getfield 7, 3) := by decide +kernel
theorem dX5_init_114 : decode cX5_init 114 = .ok (.iconst 4, 1) := by decide +kernel
theorem dX5_init_115 : decode cX5_init 115 = .ok (.iconst 1, 1) := by decide +kernel
theorem dX5_init_116 : decode cX5_init 116 = .ok (.iastore, 1) := by decide +kernel
theorem dX5_init_117 : decode cX5_init 117 = .ok (.aload_n 0, 1) := by decide +kernel
theorem dX5_init_118 : decode cX5_init 118 = .ok (.getfield 7, 3) := by decide +kernel
theorem dX5_init_121 : decode cX5_init 121 = .ok (.iconst 5, 1) := by decide +kernel
theorem dX5_init_122 : decode cX5_init 122 = .ok (.iconst 1, 1) := by decide +kernel
theorem dX5_init_123 : decode cX5_init 123 = .ok (.iastore, 1) := by decide +kernel
theorem dX5_init_124 : decode cX5_init 124 = .ok (.aload_n 0, 1) := by decide +kernel
theorem dX5_init_125 : decode cX5_init 125 = .ok (.getfield 7, 3) := by decide +kernel
theorem dX5_init_128 : decode cX5_init 128 = .ok (.bipush 7, 2) := by decide +kernel
theorem dX5_init_130 : decode cX5_init 130 = .ok (.iconst 1, 1) := by decide +kernel
theorem dX5_init_131 : decode cX5_init 131 = .ok (.iastore, 1) := by decide +kernel
theorem dX5_init_132 : decode cX5_init 132 = .ok (.return_, 1) := by decide +kernel
theorem dX5_thrown_0 : decode cX5_thrown 0 = .ok (.aload_n 0, 1) := by decide +kernel
theorem dX5_thrown_1 : decode cX5_thrown 1 = .ok (.getfield 40, 3) := by decide +kernel
theorem dX5_thrown_4 : decode cX5_thrown 4 = .ok (.ireturn, 1) := by decide +kernel
theorem dX5_within_0 : decode cX5_within 0 = .ok (.iload_n 0, 1) := by decide +kernel
theorem dX5_within_1 : decode cX5_within 1 = .ok (.iload_n 1, 1) := by decide +kernel
theorem dX5_within_2 : decode cX5_within 2 = .ok (.if_icmp .lt 12, 3) := by decide +kernel
theorem dX5_within_5 : decode cX5_within 5 = .ok (.iload_n 0, 1) := by decide +kernel
theorem dX5_within_6 : decode cX5_within 6 = .ok (.iload_n 2, 1) := by decide +kernel
theorem dX5_within_7 : decode cX5_within 7 = .ok (.if_icmp .gt 7, 3) := by decide +kernel
theorem dX5_within_10 : decode cX5_within 10 = .ok (.iconst 1, 1) := by decide +kernel
theorem dX5_within_11 : decode cX5_within 11 = .ok (.goto 4, 3) := by decide +kernel
theorem dX5_within_14 : decode cX5_within 14 = .ok (.iconst 0, 1) := by decide +kernel
theorem dX5_within_15 : decode cX5_within 15 = .ok (.ireturn, 1) := by decide +kernel
theorem dX5_save_0 : decode cX5_save 0 = .ok (.aload_n 0, 1) := by decide +kernel
theorem dX5_save_1 : decode cX5_save 1 = .ok (.getfield 44, 3) := by decide +kernel
theorem dX5_save_4 : decode cX5_save 4 = .ok (.bipush 6, 2) := by decide +kernel
theorem dX5_save_6 : decode cX5_save 6 = .ok (.if_icmp .ne 46, 3) := by decide +kernel
theorem dX5_save_9 : decode cX5_save 9 = .ok (.sipush 435, 3) := by decide +kernel
theorem dX5_save_12 : decode cX5_save 12 = .ok (.istore_n 1, 1) := by decide +kernel
theorem dX5_save_13 : decode cX5_save 13 = .ok (.iload_n 1, 1) := by decide +kernel
theorem dX5_save_14 : decode cX5_save 14 = .ok (.sipush 2610, 3) := by decide +kernel
theorem dX5_save_17 : decode cX5_save 17 = .ok (.if_icmp .ge 25, 3) := by decide +kernel
theorem dX5_save_20 : decode cX5_save 20 = .ok (.aload_n 0, 1) := by decide +kernel
theorem dX5_save_21 : decode cX5_save 21 = .ok (.getfield 13, 3) := by decide +kernel
theorem dX5_save_24 : decode cX5_save 24 = .ok (.iload_n 1, 1) := by decide +kernel
theorem dX5_save_25 : decode cX5_save 25 = .ok (.sipush 435, 3) := by decide +kernel
theorem dX5_save_28 : decode cX5_save 28 = .ok (.isub, 1) := by decide +kernel
theorem dX5_save_29 : decode cX5_save 29 = .ok (.aload_n 0, 1) := by decide +kernel
theorem dX5_save_30 : decode cX5_save 30 = .ok (.getfield 13, 3) := by decide +kernel
theorem dX5_save_33 : decode cX5_save 33 = .ok (.iload_n 1, 1) := by decide +kernel
theorem dX5_save_34 : decode cX5_save 34 = .ok (.iaload, 1) := by decide +kernel
theorem dX5_save_35 : decode cX5_save 35 = .ok (.iastore, 1) := by decide +kernel
theorem dX5_save_36 : decode cX5_save 36 = .ok (.iinc 1 1, 3) := by decide +kernel
theorem dX5_save_39 : decode cX5_save 39 = .ok (.goto (-26), 3) := by decide +kernel
theorem dX5_save_42 : decode cX5_save 42 = .ok (.aload_n 0, 1) := by decide +kernel
theorem dX5_save_43 : decode cX5_save 43 = .ok (.dup, 1) := by decide +kernel
theorem dX5_save_44 : decode cX5_save 44 = .ok (.getfield 44, 3) := by decide +kernel
theorem dX5_save_47 : decode cX5_save 47 = .ok (.iconst 1, 1) := by decide +kernel
theorem dX5_save_48 : decode cX5_save 48 = .ok (.isub, 1) := by decide +kernel
theorem dX5_save_49 : decode cX5_save 49 = .ok (.putfield 44, 3) := by decide +kernel
theorem dX5_save_52 : decode cX5_save 52 = .ok (.iconst 0, 1) := by decide +kernel
theorem dX5_save_53 : decode cX5_save 53 = .ok (.istore_n 1, 1) := by decide +kernel
theorem dX5_save_54 : decode cX5_save 54 = .ok (.iload_n 1, 1) := by decide +kernel
theorem dX5_save_55 : decode cX5_save 55 = .ok (.sipush 435, 3) := by decide +kernel
theorem dX5_save_58 : decode cX5_save 58 = .ok (.if_icmp .ge 30, 3) := by decide +kernel
theorem dX5_save_61 : decode cX5_save 61 = .ok (.aload_n 0, 1) := by decide +kernel
theorem dX5_save_62 : decode cX5_save 62 = .ok (.getfield 13, 3) := by decide +kernel
theorem dX5_save_65 : decode cX5_save 65 = .ok (.sipush 435, 3) := by decide +kernel
theorem dX5_save_68 : decode cX5_save 68 = .ok (.aload_n 0, 1) := by decide +kernel
theorem dX5_save_69 : decode cX5_save 69 = .ok (.getfield 44, 3) := by decide +kernel
theorem dX5_save_72 : decode cX5_save 72 = .ok (.imul, 1) := by decide +kernel
theorem dX5_save_73 : decode cX5_save 73 = .ok (.iload_n 1, 1) := by decide +kernel
theorem dX5_save_74 : decode cX5_save 74 = .ok (.iadd, 1) := by decide +kernel
theorem dX5_save_75 : decode cX5_save 75 = .ok (.aload_n 0, 1) := by decide +kernel
theorem dX5_save_76 : decode cX5_save 76 = .ok (.getfield 7, 3) := by decide +kernel
theorem dX5_save_79 : decode cX5_save 79 = .ok (.iload_n 1, 1) := by decide +kernel
theorem dX5_save_80 : decode cX5_save 80 = .ok (.iaload, 1) := by decide +kernel
theorem dX5_save_81 : decode cX5_save 81 = .ok (.iastore, 1) := by decide +kernel
theorem dX5_save_82 : decode cX5_save 82 = .ok (.iinc 1 1, 3) := by decide +kernel
theorem dX5_save_85 : decode cX5_save 85 = .ok (.goto (-31), 3) := by decide +kernel
theorem dX5_save_88 : decode cX5_save 88 = .ok (.aload_n 0, 1) := by decide +kernel
theorem dX5_save_89 : decode cX5_save 89 = .ok (.dup, 1) := by decide +kernel
theorem dX5_save_90 : decode cX5_save 90 = .ok (.getfield 44, 3) := by decide +kernel
theorem dX5_save_93 : decode cX5_save 93 = .ok (.iconst 1, 1) := by decide +kernel
theorem dX5_save_94 : decode cX5_save 94 = .ok (.iadd, 1) := by decide +kernel
theorem dX5_save_95 : decode cX5_save 95 = .ok (.putfield 44, 3) := by decide +kernel
theorem dX5_save_98 : decode cX5_save 98 = .ok (.return_, 1) := by decide +kernel
theorem dX5_isColour_0 : decode cX5_isColour 0 = .ok (.iload_n 0, 1) := by decide +kernel
theorem dX5_isColour_1 : decode cX5_isColour 1 = .ok (.iconst 0, 1) := by decide +kernel
theorem dX5_isColour_2 : decode cX5_isColour 2 = .ok (.iconst 5, 1) := by decide +kernel
theorem dX5_isColour_3 : decode cX5_isColour 3 = .ok (.invokestatic 47, 3) := by decide +kernel
theorem dX5_isColour_6 : decode cX5_isColour 6 = .ok (.ireturn, 1) := by decide +kernel
theorem dX5_chartAt_0 : decode cX5_chartAt 0 = .ok (.aload_n 0, 1) := by decide +kernel
theorem dX5_chartAt_1 : decode cX5_chartAt 1 = .ok (.getfield 7, 3) := by decide +kernel
theorem dX5_chartAt_4 : decode cX5_chartAt 4 = .ok (.bipush 27, 2) := by decide +kernel
theorem dX5_chartAt_6 : decode cX5_chartAt 6 = .ok (.bipush 12, 2) := by decide +kernel
theorem dX5_chartAt_8 : decode cX5_chartAt 8 = .ok (.iload_n 1, 1) := by decide +kernel
theorem dX5_chartAt_9 : decode cX5_chartAt 9 = .ok (.imul, 1) := by decide +kernel
theorem dX5_chartAt_10 : decode cX5_chartAt 10 = .ok (.iadd, 1) := by decide +kernel
theorem dX5_chartAt_11 : decode cX5_chartAt 11 = .ok (.iload_n 2, 1) := by decide +kernel
theorem dX5_chartAt_12 : decode cX5_chartAt 12 = .ok (.iadd, 1) := by decide +kernel
theorem dX5_chartAt_13 : decode cX5_chartAt 13 = .ok (.iaload, 1) := by decide +kernel
theorem dX5_chartAt_14 : decode cX5_chartAt 14 = .ok (.ireturn, 1) := by decide +kernel
theorem dX5_roundOf_0 : decode cX5_roundOf 0 = .ok (.iload_n 1, 1) := by decide +kernel
theorem dX5_roundOf_1 : decode cX5_roundOf 1 = .ok (.aload_n 0, 1) := by decide +kernel
theorem dX5_roundOf_2 : decode cX5_roundOf 2 = .ok (.getfield 7, 3) := by decide +kernel
theorem dX5_roundOf_5 : decode cX5_roundOf 5 = .ok (.iconst 0, 1) := by decide +kernel
theorem dX5_roundOf_6 : decode cX5_roundOf 6 = .ok (.iaload, 1) := by decide +kernel
theorem dX5_roundOf_7 : decode cX5_roundOf 7 = .ok (.idiv, 1) := by decide +kernel
theorem dX5_roundOf_8 : decode cX5_roundOf 8 = .ok (.ireturn, 1) := by decide +kernel
theorem dX5_rowOf_0 : decode cX5_rowOf 0 = .ok (.aload_n 0, 1) := by decide +kernel
theorem dX5_rowOf_1 : decode cX5_rowOf 1 = .ok (.iload_n 1, 1) := by decide +kernel
theorem dX5_rowOf_2 : decode cX5_rowOf 2 = .ok (.invokevirtual 51, 3) := by decide +kernel
theorem dX5_rowOf_5 : decode cX5_rowOf 5 = .ok (.aload_n 0, 1) := by decide +kernel
theorem dX5_rowOf_6 : decode cX5_rowOf 6 = .ok (.getfield 7, 3) := by decide +kernel
theorem dX5_rowOf_9 : decode cX5_rowOf 9 = .ok (.iconst 4, 1) := by decide +kernel
theorem dX5_rowOf_10 : decode cX5_rowOf 10 = .ok (.iaload, 1) := by decide +kernel
theorem dX5_rowOf_11 : decode cX5_rowOf 11 = .ok (.irem, 1) := by decide +kernel
theorem dX5_rowOf_12 : decode cX5_rowOf 12 = .ok (.ireturn, 1) := by decide +kernel
theorem dX5_columnOf_0 : decode cX5_columnOf 0 = .ok (.iload_n 1, 1) := by decide +kernel
theorem dX5_columnOf_1 : decode cX5_columnOf 1 = .ok (.aload_n 0, 1) := by decide +kernel
theorem dX5_columnOf_2 : decode cX5_columnOf 2 = .ok (.getfield 7, 3) := by decide +kernel
theorem dX5_columnOf_5 : decode cX5_columnOf 5 = .ok (.iconst 0, 1) := by decide +kernel
theorem dX5_columnOf_6 : decode cX5_columnOf 6 = .ok (.iaload, 1) := by decide +kernel
theorem dX5_columnOf_7 : decode cX5_columnOf 7 = .ok (.irem, 1) := by decide +kernel
theorem dX5_columnOf_8 : decode cX5_columnOf 8 = .ok (.aload_n 0, 1) := by decide +kernel
theorem dX5_columnOf_9 : decode cX5_columnOf 9 = .ok (.getfield 7, 3) := by decide +kernel
theorem dX5_columnOf_12 : decode cX5_columnOf 12 = .ok (.iconst 1, 1) := by decide +kernel
theorem dX5_columnOf_13 : decode cX5_columnOf 13 = .ok (.iaload, 1) := by decide +kernel
theorem dX5_columnOf_14 : decode cX5_columnOf 14 = .ok (.aload_n 0, 1) := by decide +kernel
theorem dX5_columnOf_15 : decode cX5_columnOf 15 = .ok (.iload_n 1, 1) := by decide +kernel
theorem dX5_columnOf_16 : decode cX5_columnOf 16 = .ok (.invokevirtual 51, 3) := by decide +kernel
theorem dX5_columnOf_19 : decode cX5_columnOf 19 = .ok (.imul, 1) := by decide +kernel
theorem dX5_columnOf_20 : decode cX5_columnOf 20 = .ok (.iadd, 1) := by decide +kernel
theorem dX5_columnOf_21 : decode cX5_columnOf 21 = .ok (.aload_n 0, 1) := by decide +kernel
theorem dX5_columnOf_22 : decode cX5_columnOf 22 = .ok (.getfield 7, 3) := by decide +kernel
theorem dX5_columnOf_25 : decode cX5_columnOf 25 = .ok (.iconst 5, 1) := by decide +kernel
theorem dX5_columnOf_26 : decode cX5_columnOf 26 = .ok (.iaload, 1) := by decide +kernel
theorem dX5_columnOf_27 : decode cX5_columnOf 27 = .ok (.irem, 1) := by decide +kernel
theorem dX5_columnOf_28 : decode cX5_columnOf 28 = .ok (.ireturn, 1) := by decide +kernel
theorem dX5_colourOf_0 : decode cX5_colourOf 0 = .ok (.aload_n 0, 1) := by decide +kernel
theorem dX5_colourOf_1 : decode cX5_colourOf 1 = .ok (.aload_n 0, 1) := by decide +kernel
theorem dX5_colourOf_2 : decode cX5_colourOf 2 = .ok (.iload_n 1, 1) := by decide +kernel
theorem dX5_colourOf_3 : decode cX5_colourOf 3 = .ok (.invokevirtual 55, 3) := by decide +kernel
theorem dX5_colourOf_6 : decode cX5_colourOf 6 = .ok (.aload_n 0, 1) := by decide +kernel
theorem dX5_colourOf_7 : decode cX5_colourOf 7 = .ok (.iload_n 1, 1) := by decide +kernel
theorem dX5_colourOf_8 : decode cX5_colourOf 8 = .ok (.invokevirtual 58, 3) := by decide +kernel
theorem dX5_colourOf_11 : decode cX5_colourOf 11 = .ok (.invokevirtual 61, 3) := by decide +kernel
theorem dX5_colourOf_14 : decode cX5_colourOf 14 = .ok (.ireturn, 1) := by decide +kernel
theorem dX5_hides_0 : decode cX5_hides 0 = .ok (.aload_n 0, 1) := by decide +kernel
theorem dX5_hides_1 : decode cX5_hides 1 = .ok (.iload_n 1, 1) := by decide +kernel
theorem dX5_hides_2 : decode cX5_hides 2 = .ok (.invokevirtual 65, 3) := by decide +kernel
theorem dX5_hides_5 : decode cX5_hides 5 = .ok (.aload_n 0, 1) := by decide +kernel
theorem dX5_hides_6 : decode cX5_hides 6 = .ok (.getfield 7, 3) := by decide +kernel
theorem dX5_hides_9 : decode cX5_hides 9 = .ok (.iconst 3, 1) := by decide +kernel
theorem dX5_hides_10 : decode cX5_hides 10 = .ok (.iaload, 1) := by decide +kernel
theorem dX5_hides_11 : decode cX5_hides 11 = .ok (.if_icmp .ne 7, 3) := by decide +kernel
theorem dX5_hides_14 : decode cX5_hides 14 = .ok (.iconst 1, 1) := by decide +kernel
theorem dX5_hides_15 : decode cX5_hides 15 = .ok (.goto 4, 3) := by decide +kernel
theorem dX5_hides_18 : decode cX5_hides 18 = .ok (.iconst 0, 1) := by decide +kernel
theorem dX5_hides_19 : decode cX5_hides 19 = .ok (.ireturn, 1) := by decide +kernel
theorem dX5_isWrong_0 : decode cX5_isWrong 0 = .ok (.aload_n 0, 1) := by decide +kernel
theorem dX5_isWrong_1 : decode cX5_isWrong 1 = .ok (.getfield 7, 3) := by decide +kernel
theorem dX5_isWrong_4 : decode cX5_isWrong 4 = .ok (.sipush 147, 3) := by decide +kernel
theorem dX5_isWrong_7 : decode cX5_isWrong 7 = .ok (.iload_n 1, 1) := by decide +kernel
theorem dX5_isWrong_8 : decode cX5_isWrong 8 = .ok (.iadd, 1) := by decide +kernel
theorem dX5_isWrong_9 : decode cX5_isWrong 9 = .ok (.iaload, 1) := by decide +kernel
theorem dX5_isWrong_10 : decode cX5_isWrong 10 = .ok (.aload_n 0, 1) := by decide +kernel
theorem dX5_isWrong_11 : decode cX5_isWrong 11 = .ok (.iload_n 1, 1) := by decide +kernel
theorem dX5_isWrong_12 : decode cX5_isWrong 12 = .ok (.invokevirtual 65, 3) := by decide +kernel
theorem dX5_isWrong_15 : decode cX5_isWrong 15 = .ok (.if_icmp .eq 7, 3) := by decide +kernel
theorem dX5_isWrong_18 : decode cX5_isWrong 18 = .ok (.iconst 1, 1) := by decide +kernel
theorem dX5_isWrong_19 : decode cX5_isWrong 19 = .ok (.goto 4, 3) := by decide +kernel
theorem dX5_isWrong_22 : decode cX5_isWrong 22 = .ok (.iconst 0, 1) := by decide +kernel
theorem dX5_isWrong_23 : decode cX5_isWrong 23 = .ok (.ireturn, 1) := by decide +kernel
theorem dX5_wrongFrom_0 : decode cX5_wrongFrom 0 = .ok (.iconst 0, 1) := by decide +kernel
theorem dX5_wrongFrom_1 : decode cX5_wrongFrom 1 = .ok (.istore_n 3, 1) := by decide +kernel
theorem dX5_wrongFrom_2 : decode cX5_wrongFrom 2 = .ok (.iload_n 1, 1) := by decide +kernel
theorem dX5_wrongFrom_3 : decode cX5_wrongFrom 3 = .ok (.istore 4, 2) := by decide +kernel
theorem dX5_wrongFrom_5 : decode cX5_wrongFrom 5 = .ok (.iload 4, 2) := by decide +kernel
theorem dX5_wrongFrom_7 : decode cX5_wrongFrom 7 = .ok (.iload_n 2, 1) := by decide +kernel
theorem dX5_wrongFrom_8 : decode cX5_wrongFrom 8 = .ok (.if_icmp .ge 26, 3) := by decide +kernel
theorem dX5_wrongFrom_11 : decode cX5_wrongFrom 11 = .ok (.iload_n 3, 1) := by decide +kernel
theorem dX5_wrongFrom_12 : decode cX5_wrongFrom 12 = .ok (.aload_n 0, 1) := by decide +kernel
theorem dX5_wrongFrom_13 : decode cX5_wrongFrom 13 = .ok (.iload 4, 2) := by decide +kernel
theorem dX5_wrongFrom_15 : decode cX5_wrongFrom 15 = .ok (.invokevirtual 68, 3) := by decide +kernel
theorem dX5_wrongFrom_18 : decode cX5_wrongFrom 18 = .ok (.ifCond .eq 7, 3) := by decide +kernel
theorem dX5_wrongFrom_21 : decode cX5_wrongFrom 21 = .ok (.iconst 1, 1) := by decide +kernel
theorem dX5_wrongFrom_22 : decode cX5_wrongFrom 22 = .ok (.goto 4, 3) := by decide +kernel
theorem dX5_wrongFrom_25 : decode cX5_wrongFrom 25 = .ok (.iconst 0, 1) := by decide +kernel
theorem dX5_wrongFrom_26 : decode cX5_wrongFrom 26 = .ok (.iadd, 1) := by decide +kernel
theorem dX5_wrongFrom_27 : decode cX5_wrongFrom 27 = .ok (.istore_n 3, 1) := by decide +kernel
theorem dX5_wrongFrom_28 : decode cX5_wrongFrom 28 = .ok (.iinc 4 1, 3) := by decide +kernel
theorem dX5_wrongFrom_31 : decode cX5_wrongFrom 31 = .ok (.goto (-26), 3) := by decide +kernel
theorem dX5_wrongFrom_34 : decode cX5_wrongFrom 34 = .ok (.iload_n 3, 1) := by decide +kernel
theorem dX5_wrongFrom_35 : decode cX5_wrongFrom 35 = .ok (.ireturn, 1) := by decide +kernel
theorem dX5_wrongs_0 : decode cX5_wrongs 0 = .ok (.aload_n 0, 1) := by decide +kernel
theorem dX5_wrongs_1 : decode cX5_wrongs 1 = .ok (.iconst 0, 1) := by decide +kernel
theorem dX5_wrongs_2 : decode cX5_wrongs 2 = .ok (.aload_n 0, 1) := by decide +kernel
theorem dX5_wrongs_3 : decode cX5_wrongs 3 = .ok (.getfield 7, 3) := by decide +kernel
theorem dX5_wrongs_6 : decode cX5_wrongs 6 = .ok (.bipush 6, 2) := by decide +kernel
theorem dX5_wrongs_8 : decode cX5_wrongs 8 = .ok (.iaload, 1) := by decide +kernel
theorem dX5_wrongs_9 : decode cX5_wrongs 9 = .ok (.invokevirtual 72, 3) := by decide +kernel
theorem dX5_wrongs_12 : decode cX5_wrongs 12 = .ok (.ireturn, 1) := by decide +kernel
theorem dX5_takeOther_0 : decode cX5_takeOther 0 = .ok (.aload_n 0, 1) := by decide +kernel
theorem dX5_takeOther_1 : decode cX5_takeOther 1 = .ok (.getfield 7, 3) := by decide +kernel
theorem dX5_takeOther_4 : decode cX5_takeOther 4 = .ok (.iconst 4, 1) := by decide +kernel
theorem dX5_takeOther_5 : decode cX5_takeOther 5 = .ok (.aload_n 0, 1) := by decide +kernel
theorem dX5_takeOther_6 : decode cX5_takeOther 6 = .ok (.getfield 75, 3) := by decide +kernel
theorem dX5_takeOther_9 : decode cX5_takeOther 9 = .ok (.iastore, 1) := by decide +kernel
theorem dX5_takeOther_10 : decode cX5_takeOther 10 = .ok (.aload_n 0, 1) := by decide +kernel
theorem dX5_takeOther_11 : decode cX5_takeOther 11 = .ok (.getfield 7, 3) := by decide +kernel
theorem dX5_takeOther_14 : decode cX5_takeOther 14 = .ok (.iconst 5, 1) := by decide +kernel
theorem dX5_takeOther_15 : decode cX5_takeOther 15 = .ok (.aload_n 0, 1) := by decide +kernel
theorem dX5_takeOther_16 : decode cX5_takeOther 16 = .ok (.getfield 78, 3) := by decide +kernel
theorem dX5_takeOther_19 : decode cX5_takeOther 19 = .ok (.iastore, 1) := by decide +kernel
theorem dX5_takeOther_20 : decode cX5_takeOther 20 = .ok (.iconst 0, 1) := by decide +kernel
theorem dX5_takeOther_21 : decode cX5_takeOther 21 = .ok (.istore_n 1, 1) := by decide +kernel
theorem dX5_takeOther_22 : decode cX5_takeOther 22 = .ok (.iload_n 1, 1) := by decide +kernel
theorem dX5_takeOther_23 : decode cX5_takeOther 23 = .ok (.bipush 120, 2) := by decide +kernel
theorem dX5_takeOther_25 : decode cX5_takeOther 25 = .ok (.if_icmp .ge 60, 3) := by decide +kernel
theorem dX5_takeOther_28 : decode cX5_takeOther 28 = .ok (.iload_n 1, 1) := by decide +kernel
theorem dX5_takeOther_29 : decode cX5_takeOther 29 = .ok (.bipush 12, 2) := by decide +kernel
theorem dX5_takeOther_31 : decode cX5_takeOther 31 = .ok (.idiv, 1) := by decide +kernel
theorem dX5_takeOther_32 : decode cX5_takeOther 32 = .ok (.aload_n 0, 1) := by decide +kernel
theorem dX5_takeOther_33 : decode cX5_takeOther 33 = .ok (.getfield 75, 3) := by decide +kernel
theorem dX5_takeOther_36 : decode cX5_takeOther 36 = .ok (.if_icmp .ge 18, 3) := by decide +kernel
theorem dX5_takeOther_39 : decode cX5_takeOther 39 = .ok (.iload_n 1, 1) := by decide +kernel
theorem dX5_takeOther_40 : decode cX5_takeOther 40 = .ok (.bipush 12, 2) := by decide +kernel
theorem dX5_takeOther_42 : decode cX5_takeOther 42 = .ok (.irem, 1) := by decide +kernel
theorem dX5_takeOther_43 : decode cX5_takeOther 43 = .ok (.aload_n 0, 1) := by decide +kernel
theorem dX5_takeOther_44 : decode cX5_takeOther 44 = .ok (.getfield 78, 3) := by decide +kernel
theorem dX5_takeOther_47 : decode cX5_takeOther 47 = .ok (.if_icmp .ge 7, 3) := by decide +kernel
theorem dX5_takeOther_50 : decode cX5_takeOther 50 = .ok (.iconst 1, 1) := by decide +kernel
theorem dX5_takeOther_51 : decode cX5_takeOther 51 = .ok (.goto 4, 3) := by decide +kernel
theorem dX5_takeOther_54 : decode cX5_takeOther 54 = .ok (.iconst 0, 1) := by decide +kernel
theorem dX5_takeOther_55 : decode cX5_takeOther 55 = .ok (.istore_n 2, 1) := by decide +kernel
theorem dX5_takeOther_56 : decode cX5_takeOther 56 = .ok (.aload_n 0, 1) := by decide +kernel
theorem dX5_takeOther_57 : decode cX5_takeOther 57 = .ok (.getfield 7, 3) := by decide +kernel
theorem dX5_takeOther_60 : decode cX5_takeOther 60 = .ok (.bipush 27, 2) := by decide +kernel
theorem dX5_takeOther_62 : decode cX5_takeOther 62 = .ok (.iload_n 1, 1) := by decide +kernel
theorem dX5_takeOther_63 : decode cX5_takeOther 63 = .ok (.iadd, 1) := by decide +kernel
theorem dX5_takeOther_64 : decode cX5_takeOther 64 = .ok (.iload_n 2, 1) := by decide +kernel
theorem dX5_takeOther_65 : decode cX5_takeOther 65 = .ok (.ifCond .eq 12, 3) := by decide +kernel
theorem dX5_takeOther_68 : decode cX5_takeOther 68 = .ok (.aload_n 0, 1) := by decide +kernel
theorem dX5_takeOther_69 : decode cX5_takeOther 69 = .ok (.getfield 19, 3) := by decide +kernel
theorem dX5_takeOther_72 : decode cX5_takeOther 72 = .ok (.iload_n 1, 1) := by decide +kernel
theorem dX5_takeOther_73 : decode cX5_takeOther 73 = .ok (.iaload, 1) := by decide +kernel
theorem dX5_takeOther_74 : decode cX5_takeOther 74 = .ok (.goto 4, 3) := by decide +kernel
theorem dX5_takeOther_77 : decode cX5_takeOther 77 = .ok (.iconst 0, 1) := by decide +kernel
theorem dX5_takeOther_78 : decode cX5_takeOther 78 = .ok (.iastore, 1) := by decide +kernel
theorem dX5_takeOther_79 : decode cX5_takeOther 79 = .ok (.iinc 1 1, 3) := by decide +kernel
theorem dX5_takeOther_82 : decode cX5_takeOther 82 = .ok (.goto (-60), 3) := by decide +kernel
theorem dX5_takeOther_85 : decode cX5_takeOther 85 = .ok (.return_, 1) := by decide +kernel
theorem dX5_load_0 : decode cX5_load 0 = .ok (.aload_n 0, 1) := by decide +kernel
theorem dX5_load_1 : decode cX5_load 1 = .ok (.iconst 1, 1) := by decide +kernel
theorem dX5_load_2 : decode cX5_load 2 = .ok (.invokevirtual 81, 3) := by decide +kernel
theorem dX5_load_5 : decode cX5_load 5 = .ok (.aload_n 0, 1) := by decide +kernel
theorem dX5_load_6 : decode cX5_load 6 = .ok (.getfield 85, 3) := by decide +kernel
theorem dX5_load_9 : decode cX5_load 9 = .ok (.if_icmp .ne 14, 3) := by decide +kernel
theorem dX5_load_12 : decode cX5_load 12 = .ok (.aload_n 0, 1) := by decide +kernel
theorem dX5_load_13 : decode cX5_load 13 = .ok (.invokevirtual 88, 3) := by decide +kernel
theorem dX5_load_16 : decode cX5_load 16 = .ok (.ifCond .eq 7, 3) := by decide +kernel
theorem dX5_load_19 : decode cX5_load 19 = .ok (.iconst 1, 1) := by decide +kernel
theorem dX5_load_20 : decode cX5_load 20 = .ok (.goto 4, 3) := by decide +kernel
theorem dX5_load_23 : decode cX5_load 23 = .ok (.iconst 0, 1) := by decide +kernel
theorem dX5_load_24 : decode cX5_load 24 = .ok (.istore_n 1, 1) := by decide +kernel
theorem dX5_load_25 : decode cX5_load 25 = .ok (.aload_n 0, 1) := by decide +kernel
theorem dX5_load_26 : decode cX5_load 26 = .ok (.iload_n 1, 1) := by decide +kernel
theorem dX5_load_27 : decode cX5_load 27 = .ok (.ifCond .ne 7, 3) := by decide +kernel
theorem dX5_load_30 : decode cX5_load 30 = .ok (.iconst 1, 1) := by decide +kernel
theorem dX5_load_31 : decode cX5_load 31 = .ok (.goto 15, 3) := by decide +kernel
theorem dX5_load_34 : decode cX5_load 34 = .ok (.aload_n 0, 1) := by decide +kernel
theorem dX5_load_35 : decode cX5_load 35 = .ok (.invokevirtual 92, 3) := by decide +kernel
theorem dX5_load_38 : decode cX5_load 38 = .ok (.ifCond .eq 7, 3) := by decide +kernel
theorem dX5_load_41 : decode cX5_load 41 = .ok (.iconst 0, 1) := by decide +kernel
theorem dX5_load_42 : decode cX5_load 42 = .ok (.goto 4, 3) := by decide +kernel
theorem dX5_load_45 : decode cX5_load 45 = .ok (.iconst 2, 1) := by decide +kernel
theorem dX5_load_46 : decode cX5_load 46 = .ok (.putfield 40, 3) := by decide +kernel
theorem dX5_load_49 : decode cX5_load 49 = .ok (.aload_n 0, 1) := by decide +kernel
theorem dX5_load_50 : decode cX5_load 50 = .ok (.getfield 40, 3) := by decide +kernel
theorem dX5_load_53 : decode cX5_load 53 = .ok (.ifCond .le 5, 3) := by decide +kernel
theorem dX5_load_56 : decode cX5_load 56 = .ok (.iconst 0, 1) := by decide +kernel
theorem dX5_load_57 : decode cX5_load 57 = .ok (.ireturn, 1) := by decide +kernel
theorem dX5_load_58 : decode cX5_load 58 = .ok (.aload_n 0, 1) := by decide +kernel
theorem dX5_load_59 : decode cX5_load 59 = .ok (.invokevirtual 95, 3) := by decide +kernel
theorem dX5_load_62 : decode cX5_load 62 = .ok (.aload_n 0, 1) := by decide +kernel
theorem dX5_load_63 : decode cX5_load 63 = .ok (.iconst 0, 1) := by decide +kernel
theorem dX5_load_64 : decode cX5_load 64 = .ok (.putfield 85, 3) := by decide +kernel
theorem dX5_load_67 : decode cX5_load 67 = .ok (.aload_n 0, 1) := by decide +kernel
theorem dX5_load_68 : decode cX5_load 68 = .ok (.invokevirtual 98, 3) := by decide +kernel
theorem dX5_load_71 : decode cX5_load 71 = .ok (.aload_n 0, 1) := by decide +kernel
theorem dX5_load_72 : decode cX5_load 72 = .ok (.getfield 7, 3) := by decide +kernel
theorem dX5_load_75 : decode cX5_load 75 = .ok (.iconst 4, 1) := by decide +kernel
theorem dX5_load_76 : decode cX5_load 76 = .ok (.iaload, 1) := by decide +kernel
theorem dX5_load_77 : decode cX5_load 77 = .ok (.ireturn, 1) := by decide +kernel
theorem dX5_layTurned_0 : decode cX5_layTurned 0 = .ok (.aload_n 0, 1) := by decide +kernel
theorem dX5_layTurned_1 : decode cX5_layTurned 1 = .ok (.iload_n 1, 1) := by decide +kernel
theorem dX5_layTurned_2 : decode cX5_layTurned 2 = .ok (.iconst 4, 1) := by decide +kernel
theorem dX5_layTurned_3 : decode cX5_layTurned 3 = .ok (.if_icmp .ne 12, 3) := by decide +kernel
theorem dX5_layTurned_6 : decode cX5_layTurned 6 = .ok (.aload_n 0, 1) := by decide +kernel
theorem dX5_layTurned_7 : decode cX5_layTurned 7 = .ok (.getfield 7, 3) := by decide +kernel
theorem dX5_layTurned_10 : decode cX5_layTurned 10 = .ok (.iconst 5, 1) := by decide +kernel
theorem dX5_layTurned_11 : decode cX5_layTurned 11 = .ok (.iaload, 1) := by decide +kernel
theorem dX5_layTurned_12 : decode cX5_layTurned 12 = .ok (.goto 9, 3) := by decide +kernel
theorem dX5_layTurned_15 : decode cX5_layTurned 15 = .ok (.aload_n 0, 1) := by decide +kernel
theorem dX5_layTurned_16 : decode cX5_layTurned 16 = .ok (.getfield 7, 3) := by decide +kernel
theorem dX5_layTurned_19 : decode cX5_layTurned 19 = .ok (.iconst 4, 1) := by decide +kernel
theorem dX5_layTurned_20 : decode cX5_layTurned 20 = .ok (.iaload, 1) := by decide +kernel
theorem dX5_layTurned_21 : decode cX5_layTurned 21 = .ok (.putfield 75, 3) := by decide +kernel
theorem dX5_layTurned_24 : decode cX5_layTurned 24 = .ok (.aload_n 0, 1) := by decide +kernel
theorem dX5_layTurned_25 : decode cX5_layTurned 25 = .ok (.iload_n 1, 1) := by decide +kernel
theorem dX5_layTurned_26 : decode cX5_layTurned 26 = .ok (.iconst 4, 1) := by decide +kernel
theorem dX5_layTurned_27 : decode cX5_layTurned 27 = .ok (.if_icmp .ne 12, 3) := by decide +kernel
theorem dX5_layTurned_30 : decode cX5_layTurned 30 = .ok (.aload_n 0, 1) := by decide +kernel
theorem dX5_layTurned_31 : decode cX5_layTurned 31 = .ok (.getfield 7, 3) := by decide +kernel
theorem dX5_layTurned_34 : decode cX5_layTurned 34 = .ok (.iconst 4, 1) := by decide +kernel
theorem dX5_layTurned_35 : decode cX5_layTurned 35 = .ok (.iaload, 1) := by decide +kernel
theorem dX5_layTurned_36 : decode cX5_layTurned 36 = .ok (.goto 9, 3) := by decide +kernel
theorem dX5_layTurned_39 : decode cX5_layTurned 39 = .ok (.aload_n 0, 1) := by decide +kernel
theorem dX5_layTurned_40 : decode cX5_layTurned 40 = .ok (.getfield 7, 3) := by decide +kernel
theorem dX5_layTurned_43 : decode cX5_layTurned 43 = .ok (.iconst 5, 1) := by decide +kernel
theorem dX5_layTurned_44 : decode cX5_layTurned 44 = .ok (.iaload, 1) := by decide +kernel
theorem dX5_layTurned_45 : decode cX5_layTurned 45 = .ok (.putfield 78, 3) := by decide +kernel
theorem dX5_layTurned_48 : decode cX5_layTurned 48 = .ok (.iconst 0, 1) := by decide +kernel
theorem dX5_layTurned_49 : decode cX5_layTurned 49 = .ok (.istore_n 2, 1) := by decide +kernel
theorem dX5_layTurned_50 : decode cX5_layTurned 50 = .ok (.iload_n 2, 1) := by decide +kernel
theorem dX5_layTurned_51 : decode cX5_layTurned 51 = .ok (.aload_n 0, 1) := by decide +kernel
theorem dX5_layTurned_52 : decode cX5_layTurned 52 = .ok (.getfield 75, 3) := by decide +kernel
theorem dX5_layTurned_55 : decode cX5_layTurned 55 = .ok (.if_icmp .ge 131, 3) := by decide +kernel
theorem dX5_layTurned_58 : decode cX5_layTurned 58 = .ok (.iconst 0, 1) := by decide +kernel
theorem dX5_layTurned_59 : decode cX5_layTurned 59 = .ok (.istore_n 3, 1) := by decide +kernel
theorem dX5_layTurned_60 : decode cX5_layTurned 60 = .ok (.iload_n 3, 1) := by decide +kernel
theorem dX5_layTurned_61 : decode cX5_layTurned 61 = .ok (.aload_n 0, 1) := by decide +kernel
theorem dX5_layTurned_62 : decode cX5_layTurned 62 = .ok (.getfield 78, 3) := by decide +kernel
theorem dX5_layTurned_65 : decode cX5_layTurned 65 = .ok (.if_icmp .ge 115, 3) := by decide +kernel
theorem dX5_layTurned_68 : decode cX5_layTurned 68 = .ok (.iload_n 1, 1) := by decide +kernel
theorem dX5_layTurned_69 : decode cX5_layTurned 69 = .ok (.iconst 1, 1) := by decide +kernel
theorem dX5_layTurned_70 : decode cX5_layTurned 70 = .ok (.if_icmp .ne 14, 3) := by decide +kernel
theorem dX5_layTurned_73 : decode cX5_layTurned 73 = .ok (.aload_n 0, 1) := by decide +kernel
theorem dX5_layTurned_74 : decode cX5_layTurned 74 = .ok (.getfield 75, 3) := by decide +kernel
theorem dX5_layTurned_77 : decode cX5_layTurned 77 = .ok (.iconst 1, 1) := by decide +kernel
theorem dX5_layTurned_78 : decode cX5_layTurned 78 = .ok (.isub, 1) := by decide +kernel
theorem dX5_layTurned_79 : decode cX5_layTurned 79 = .ok (.iload_n 2, 1) := by decide +kernel
theorem dX5_layTurned_80 : decode cX5_layTurned 80 = .ok (.isub, 1) := by decide +kernel
theorem dX5_layTurned_81 : decode cX5_layTurned 81 = .ok (.goto 29, 3) := by decide +kernel
theorem dX5_layTurned_84 : decode cX5_layTurned 84 = .ok (.iload_n 1, 1) := by decide +kernel
theorem dX5_layTurned_85 : decode cX5_layTurned 85 = .ok (.iconst 3, 1) := by decide +kernel
theorem dX5_layTurned_86 : decode cX5_layTurned 86 = .ok (.if_icmp .ne 14, 3) := by decide +kernel
theorem dX5_layTurned_89 : decode cX5_layTurned 89 = .ok (.iload_n 2, 1) := by decide +kernel
theorem dX5_layTurned_90 : decode cX5_layTurned 90 = .ok (.iconst 1, 1) := by decide +kernel
theorem dX5_layTurned_91 : decode cX5_layTurned 91 = .ok (.iadd, 1) := by decide +kernel
theorem dX5_layTurned_92 : decode cX5_layTurned 92 = .ok (.aload_n 0, 1) := by decide +kernel
theorem dX5_layTurned_93 : decode cX5_layTurned 93 = .ok (.getfield 75, 3) := by decide +kernel
theorem dX5_layTurned_96 : decode cX5_layTurned 96 = .ok (.irem, 1) := by decide +kernel
theorem dX5_layTurned_97 : decode cX5_layTurned 97 = .ok (.goto 13, 3) := by decide +kernel
theorem dX5_layTurned_100 : decode cX5_layTurned 100 = .ok (.iload_n 1, 1) := by decide +kernel
theorem dX5_layTurned_101 : decode cX5_layTurned 101 = .ok (.iconst 4, 1) := by decide +kernel
theorem dX5_layTurned_102 : decode cX5_layTurned 102 = .ok (.if_icmp .ne 7, 3) := by decide +kernel
theorem dX5_layTurned_105 : decode cX5_layTurned 105 = .ok (.iload_n 3, 1) := by decide +kernel
theorem dX5_layTurned_106 : decode cX5_layTurned 106 = .ok (.goto 4, 3) := by decide +kernel
theorem dX5_layTurned_109 : decode cX5_layTurned 109 = .ok (.iload_n 2, 1) := by decide +kernel
theorem dX5_layTurned_110 : decode cX5_layTurned 110 = .ok (.istore 4, 2) := by decide +kernel
theorem dX5_layTurned_112 : decode cX5_layTurned 112 = .ok (.iload_n 1, 1) := by decide +kernel
theorem dX5_layTurned_113 : decode cX5_layTurned 113 = .ok (.ifCond .ne 14, 3) := by decide +kernel
theorem dX5_layTurned_116 : decode cX5_layTurned 116 = .ok (.aload_n 0, 1) := by decide +kernel
theorem dX5_layTurned_117 : decode cX5_layTurned 117 = .ok (.getfield 78, 3) := by decide +kernel
theorem dX5_layTurned_120 : decode cX5_layTurned 120 = .ok (.iconst 1, 1) := by decide +kernel
theorem dX5_layTurned_121 : decode cX5_layTurned 121 = .ok (.isub, 1) := by decide +kernel
theorem dX5_layTurned_122 : decode cX5_layTurned 122 = .ok (.iload_n 3, 1) := by decide +kernel
theorem dX5_layTurned_123 : decode cX5_layTurned 123 = .ok (.isub, 1) := by decide +kernel
theorem dX5_layTurned_124 : decode cX5_layTurned 124 = .ok (.goto 29, 3) := by decide +kernel
theorem dX5_layTurned_127 : decode cX5_layTurned 127 = .ok (.iload_n 1, 1) := by decide +kernel
theorem dX5_layTurned_128 : decode cX5_layTurned 128 = .ok (.iconst 2, 1) := by decide +kernel
theorem dX5_layTurned_129 : decode cX5_layTurned 129 = .ok (.if_icmp .ne 14, 3) := by decide +kernel
theorem dX5_layTurned_132 : decode cX5_layTurned 132 = .ok (.iload_n 3, 1) := by decide +kernel
theorem dX5_layTurned_133 : decode cX5_layTurned 133 = .ok (.iconst 1, 1) := by decide +kernel
theorem dX5_layTurned_134 : decode cX5_layTurned 134 = .ok (.iadd, 1) := by decide +kernel
theorem dX5_layTurned_135 : decode cX5_layTurned 135 = .ok (.aload_n 0, 1) := by decide +kernel
theorem dX5_layTurned_136 : decode cX5_layTurned 136 = .ok (.getfield 78, 3) := by decide +kernel
theorem dX5_layTurned_139 : decode cX5_layTurned 139 = .ok (.irem, 1) := by decide +kernel
theorem dX5_layTurned_140 : decode cX5_layTurned 140 = .ok (.goto 13, 3) := by decide +kernel
theorem dX5_layTurned_143 : decode cX5_layTurned 143 = .ok (.iload_n 1, 1) := by decide +kernel
theorem dX5_layTurned_144 : decode cX5_layTurned 144 = .ok (.iconst 4, 1) := by decide +kernel
theorem dX5_layTurned_145 : decode cX5_layTurned 145 = .ok (.if_icmp .ne 7, 3) := by decide +kernel
theorem dX5_layTurned_148 : decode cX5_layTurned 148 = .ok (.iload_n 2, 1) := by decide +kernel
theorem dX5_layTurned_149 : decode cX5_layTurned 149 = .ok (.goto 4, 3) := by decide +kernel
theorem dX5_layTurned_152 : decode cX5_layTurned 152 = .ok (.iload_n 3, 1) := by decide +kernel
theorem dX5_layTurned_153 : decode cX5_layTurned 153 = .ok (.istore 5, 2) := by decide +kernel
theorem dX5_layTurned_155 : decode cX5_layTurned 155 = .ok (.aload_n 0, 1) := by decide +kernel
theorem dX5_layTurned_156 : decode cX5_layTurned 156 = .ok (.getfield 19, 3) := by decide +kernel
theorem dX5_layTurned_159 : decode cX5_layTurned 159 = .ok (.bipush 12, 2) := by decide +kernel
theorem dX5_layTurned_161 : decode cX5_layTurned 161 = .ok (.iload_n 2, 1) := by decide +kernel
theorem dX5_layTurned_162 : decode cX5_layTurned 162 = .ok (.imul, 1) := by decide +kernel
theorem dX5_layTurned_163 : decode cX5_layTurned 163 = .ok (.iload_n 3, 1) := by decide +kernel
theorem dX5_layTurned_164 : decode cX5_layTurned 164 = .ok (.iadd, 1) := by decide +kernel
theorem dX5_layTurned_165 : decode cX5_layTurned 165 = .ok (.aload_n 0, 1) := by decide +kernel
theorem dX5_layTurned_166 : decode cX5_layTurned 166 = .ok (.iload 4, 2) := by decide +kernel
theorem dX5_layTurned_168 : decode cX5_layTurned 168 = .ok (.iload 5, 2) := by decide +kernel
theorem dX5_layTurned_170 : decode cX5_layTurned 170 = .ok (.invokevirtual 61, 3) := by decide +kernel
theorem dX5_layTurned_173 : decode cX5_layTurned 173 = .ok (.iastore, 1) := by decide +kernel
theorem dX5_layTurned_174 : decode cX5_layTurned 174 = .ok (.iinc 3 1, 3) := by decide +kernel
theorem dX5_layTurned_177 : decode cX5_layTurned 177 = .ok (.goto (-117), 3) := by decide +kernel
theorem dX5_layTurned_180 : decode cX5_layTurned 180 = .ok (.iinc 2 1, 3) := by decide +kernel
theorem dX5_layTurned_183 : decode cX5_layTurned 183 = .ok (.goto (-133), 3) := by decide +kernel
theorem dX5_layTurned_186 : decode cX5_layTurned 186 = .ok (.return_, 1) := by decide +kernel
theorem dX5_canTurn_0 : decode cX5_canTurn 0 = .ok (.iload_n 1, 1) := by decide +kernel
theorem dX5_canTurn_1 : decode cX5_canTurn 1 = .ok (.iconst 4, 1) := by decide +kernel
theorem dX5_canTurn_2 : decode cX5_canTurn 2 = .ok (.if_icmp .ne 14, 3) := by decide +kernel
theorem dX5_canTurn_5 : decode cX5_canTurn 5 = .ok (.aload_n 0, 1) := by decide +kernel
theorem dX5_canTurn_6 : decode cX5_canTurn 6 = .ok (.getfield 7, 3) := by decide +kernel
theorem dX5_canTurn_9 : decode cX5_canTurn 9 = .ok (.iconst 5, 1) := by decide +kernel
theorem dX5_canTurn_10 : decode cX5_canTurn 10 = .ok (.iaload, 1) := by decide +kernel
theorem dX5_canTurn_11 : decode cX5_canTurn 11 = .ok (.bipush 10, 2) := by decide +kernel
theorem dX5_canTurn_13 : decode cX5_canTurn 13 = .ok (.if_icmp .gt 7, 3) := by decide +kernel
theorem dX5_canTurn_16 : decode cX5_canTurn 16 = .ok (.iconst 1, 1) := by decide +kernel
theorem dX5_canTurn_17 : decode cX5_canTurn 17 = .ok (.goto 4, 3) := by decide +kernel
theorem dX5_canTurn_20 : decode cX5_canTurn 20 = .ok (.iconst 0, 1) := by decide +kernel
theorem dX5_canTurn_21 : decode cX5_canTurn 21 = .ok (.ireturn, 1) := by decide +kernel
theorem dX5_turn_0 : decode cX5_turn 0 = .ok (.aload_n 0, 1) := by decide +kernel
theorem dX5_turn_1 : decode cX5_turn 1 = .ok (.iload_n 1, 1) := by decide +kernel
theorem dX5_turn_2 : decode cX5_turn 2 = .ok (.iconst 0, 1) := by decide +kernel
theorem dX5_turn_3 : decode cX5_turn 3 = .ok (.iconst 4, 1) := by decide +kernel
theorem dX5_turn_4 : decode cX5_turn 4 = .ok (.invokestatic 47, 3) := by decide +kernel
theorem dX5_turn_7 : decode cX5_turn 7 = .ok (.ifCond .ne 7, 3) := by decide +kernel
theorem dX5_turn_10 : decode cX5_turn 10 = .ok (.iconst 1, 1) := by decide +kernel
theorem dX5_turn_11 : decode cX5_turn 11 = .ok (.goto 16, 3) := by decide +kernel
theorem dX5_turn_14 : decode cX5_turn 14 = .ok (.aload_n 0, 1) := by decide +kernel
theorem dX5_turn_15 : decode cX5_turn 15 = .ok (.iload_n 1, 1) := by decide +kernel
theorem dX5_turn_16 : decode cX5_turn 16 = .ok (.invokevirtual 101, 3) := by decide +kernel
theorem dX5_turn_19 : decode cX5_turn 19 = .ok (.ifCond .eq 7, 3) := by decide +kernel
theorem dX5_turn_22 : decode cX5_turn 22 = .ok (.iconst 0, 1) := by decide +kernel
theorem dX5_turn_23 : decode cX5_turn 23 = .ok (.goto 4, 3) := by decide +kernel
theorem dX5_turn_26 : decode cX5_turn 26 = .ok (.iconst 2, 1) := by decide +kernel
theorem dX5_turn_27 : decode cX5_turn 27 = .ok (.putfield 40, 3) := by decide +kernel
theorem dX5_turn_30 : decode cX5_turn 30 = .ok (.aload_n 0, 1) := by decide +kernel
theorem dX5_turn_31 : decode cX5_turn 31 = .ok (.getfield 40, 3) := by decide +kernel
theorem dX5_turn_34 : decode cX5_turn 34 = .ok (.ifCond .le 5, 3) := by decide +kernel
theorem dX5_turn_37 : decode cX5_turn 37 = .ok (.iconst 0, 1) := by decide +kernel
theorem dX5_turn_38 : decode cX5_turn 38 = .ok (.ireturn, 1) := by decide +kernel
theorem dX5_turn_39 : decode cX5_turn 39 = .ok (.aload_n 0, 1) := by decide +kernel
theorem dX5_turn_40 : decode cX5_turn 40 = .ok (.invokevirtual 95, 3) := by decide +kernel
theorem dX5_turn_43 : decode cX5_turn 43 = .ok (.aload_n 0, 1) := by decide +kernel
theorem dX5_turn_44 : decode cX5_turn 44 = .ok (.iload_n 1, 1) := by decide +kernel
theorem dX5_turn_45 : decode cX5_turn 45 = .ok (.invokevirtual 104, 3) := by decide +kernel
theorem dX5_turn_48 : decode cX5_turn 48 = .ok (.aload_n 0, 1) := by decide +kernel
theorem dX5_turn_49 : decode cX5_turn 49 = .ok (.invokevirtual 98, 3) := by decide +kernel
theorem dX5_turn_52 : decode cX5_turn 52 = .ok (.aload_n 0, 1) := by decide +kernel
theorem dX5_turn_53 : decode cX5_turn 53 = .ok (.getfield 7, 3) := by decide +kernel
theorem dX5_turn_56 : decode cX5_turn 56 = .ok (.iconst 4, 1) := by decide +kernel
theorem dX5_turn_57 : decode cX5_turn 57 = .ok (.iaload, 1) := by decide +kernel
theorem dX5_turn_58 : decode cX5_turn 58 = .ok (.ireturn, 1) := by decide +kernel
theorem dX5_isCell_0 : decode cX5_isCell 0 = .ok (.iload_n 1, 1) := by decide +kernel
theorem dX5_isCell_1 : decode cX5_isCell 1 = .ok (.iconst 0, 1) := by decide +kernel
theorem dX5_isCell_2 : decode cX5_isCell 2 = .ok (.aload_n 0, 1) := by decide +kernel
theorem dX5_isCell_3 : decode cX5_isCell 3 = .ok (.getfield 7, 3) := by decide +kernel
theorem dX5_isCell_6 : decode cX5_isCell 6 = .ok (.iconst 4, 1) := by decide +kernel
theorem dX5_isCell_7 : decode cX5_isCell 7 = .ok (.iaload, 1) := by decide +kernel
theorem dX5_isCell_8 : decode cX5_isCell 8 = .ok (.iconst 1, 1) := by decide +kernel
theorem dX5_isCell_9 : decode cX5_isCell 9 = .ok (.isub, 1) := by decide +kernel
theorem dX5_isCell_10 : decode cX5_isCell 10 = .ok (.invokestatic 47, 3) := by decide +kernel
theorem dX5_isCell_13 : decode cX5_isCell 13 = .ok (.ifCond .eq 23, 3) := by decide +kernel
theorem dX5_isCell_16 : decode cX5_isCell 16 = .ok (.iload_n 2, 1) := by decide +kernel
theorem dX5_isCell_17 : decode cX5_isCell 17 = .ok (.iconst 0, 1) := by decide +kernel
theorem dX5_isCell_18 : decode cX5_isCell 18 = .ok (.aload_n 0, 1) := by decide +kernel
theorem dX5_isCell_19 : decode cX5_isCell 19 = .ok (.getfield 7, 3) := by decide +kernel
theorem dX5_isCell_22 : decode cX5_isCell 22 = .ok (.iconst 5, 1) := by decide +kernel
theorem dX5_isCell_23 : decode cX5_isCell 23 = .ok (.iaload, 1) := by decide +kernel
theorem dX5_isCell_24 : decode cX5_isCell 24 = .ok (.iconst 1, 1) := by decide +kernel
theorem dX5_isCell_25 : decode cX5_isCell 25 = .ok (.isub, 1) := by decide +kernel
theorem dX5_isCell_26 : decode cX5_isCell 26 = .ok (.invokestatic 47, 3) := by decide +kernel
theorem dX5_isCell_29 : decode cX5_isCell 29 = .ok (.ifCond .eq 7, 3) := by decide +kernel
theorem dX5_isCell_32 : decode cX5_isCell 32 = .ok (.iconst 1, 1) := by decide +kernel
theorem dX5_isCell_33 : decode cX5_isCell 33 = .ok (.goto 4, 3) := by decide +kernel
theorem dX5_isCell_36 : decode cX5_isCell 36 = .ok (.iconst 0, 1) := by decide +kernel
theorem dX5_isCell_37 : decode cX5_isCell 37 = .ok (.ireturn, 1) := by decide +kernel
theorem dX5_recolour_0 : decode cX5_recolour 0 = .ok (.aload_n 0, 1) := by decide +kernel
theorem dX5_recolour_1 : decode cX5_recolour 1 = .ok (.iload_n 1, 1) := by decide +kernel
theorem dX5_recolour_2 : decode cX5_recolour 2 = .ok (.invokestatic 108, 3) := by decide +kernel
theorem dX5_recolour_5 : decode cX5_recolour 5 = .ok (.ifCond .eq 14, 3) := by decide +kernel
theorem dX5_recolour_8 : decode cX5_recolour 8 = .ok (.iload_n 2, 1) := by decide +kernel
theorem dX5_recolour_9 : decode cX5_recolour 9 = .ok (.invokestatic 108, 3) := by decide +kernel
theorem dX5_recolour_12 : decode cX5_recolour 12 = .ok (.ifCond .eq 7, 3) := by decide +kernel
theorem dX5_recolour_15 : decode cX5_recolour 15 = .ok (.iconst 0, 1) := by decide +kernel
theorem dX5_recolour_16 : decode cX5_recolour 16 = .ok (.goto 4, 3) := by decide +kernel
theorem dX5_recolour_19 : decode cX5_recolour 19 = .ok (.iconst 1, 1) := by decide +kernel
theorem dX5_recolour_20 : decode cX5_recolour 20 = .ok (.putfield 40, 3) := by decide +kernel
theorem dX5_recolour_23 : decode cX5_recolour 23 = .ok (.aload_n 0, 1) := by decide +kernel
theorem dX5_recolour_24 : decode cX5_recolour 24 = .ok (.getfield 40, 3) := by decide +kernel
theorem dX5_recolour_27 : decode cX5_recolour 27 = .ok (.ifCond .le 5, 3) := by decide +kernel
theorem dX5_recolour_30 : decode cX5_recolour 30 = .ok (.iconst 0, 1) := by decide +kernel
theorem dX5_recolour_31 : decode cX5_recolour 31 = .ok (.ireturn, 1) := by decide +kernel
theorem dX5_recolour_32 : decode cX5_recolour 32 = .ok (.aload_n 0, 1) := by decide +kernel
theorem dX5_recolour_33 : decode cX5_recolour 33 = .ok (.invokevirtual 95, 3) := by decide +kernel
theorem dX5_recolour_36 : decode cX5_recolour 36 = .ok (.iconst 0, 1) := by decide +kernel
theorem dX5_recolour_37 : decode cX5_recolour 37 = .ok (.istore_n 3, 1) := by decide +kernel
theorem dX5_recolour_38 : decode cX5_recolour 38 = .ok (.iconst 0, 1) := by decide +kernel
theorem dX5_recolour_39 : decode cX5_recolour 39 = .ok (.istore 4, 2) := by decide +kernel
theorem dX5_recolour_41 : decode cX5_recolour 41 = .ok (.iload 4, 2) := by decide +kernel
theorem dX5_recolour_43 : decode cX5_recolour 43 = .ok (.bipush 120, 2) := by decide +kernel
theorem dX5_recolour_45 : decode cX5_recolour 45 = .ok (.if_icmp .ge 79, 3) := by decide +kernel
theorem dX5_recolour_48 : decode cX5_recolour 48 = .ok (.aload_n 0, 1) := by decide +kernel
theorem dX5_recolour_49 : decode cX5_recolour 49 = .ok (.getfield 7, 3) := by decide +kernel
theorem dX5_recolour_52 : decode cX5_recolour 52 = .ok (.bipush 27, 2) := by decide +kernel
theorem dX5_recolour_54 : decode cX5_recolour 54 = .ok (.iload 4, 2) := by decide +kernel
theorem dX5_recolour_56 : decode cX5_recolour 56 = .ok (.iadd, 1) := by decide +kernel
theorem dX5_recolour_57 : decode cX5_recolour 57 = .ok (.iaload, 1) := by decide +kernel
theorem dX5_recolour_58 : decode cX5_recolour 58 = .ok (.istore 5, 2) := by decide +kernel
theorem dX5_recolour_60 : decode cX5_recolour 60 = .ok (.aload_n 0, 1) := by decide +kernel
theorem dX5_recolour_61 : decode cX5_recolour 61 = .ok (.iload 4, 2) := by decide +kernel
theorem dX5_recolour_63 : decode cX5_recolour 63 = .ok (.bipush 12, 2) := by decide +kernel
theorem dX5_recolour_65 : decode cX5_recolour 65 = .ok (.idiv, 1) := by decide +kernel
theorem dX5_recolour_66 : decode cX5_recolour 66 = .ok (.iload 4, 2) := by decide +kernel
theorem dX5_recolour_68 : decode cX5_recolour 68 = .ok (.bipush 12, 2) := by decide +kernel
theorem dX5_recolour_70 : decode cX5_recolour 70 = .ok (.irem, 1) := by decide +kernel
theorem dX5_recolour_71 : decode cX5_recolour 71 = .ok (.invokevirtual 111, 3) := by decide +kernel
theorem dX5_recolour_74 : decode cX5_recolour 74 = .ok (.ifCond .eq 44, 3) := by decide +kernel
theorem dX5_recolour_77 : decode cX5_recolour 77 = .ok (.iload_n 1, 1) := by decide +kernel
theorem dX5_recolour_78 : decode cX5_recolour 78 = .ok (.iload_n 2, 1) := by decide +kernel
theorem dX5_recolour_79 : decode cX5_recolour 79 = .ok (.if_icmp .eq 39, 3) := by decide +kernel
theorem dX5_recolour_82 : decode cX5_recolour 82 = .ok (.iload 5, 2) := by decide +kernel
theorem dX5_recolour_84 : decode cX5_recolour 84 = .ok (.iload_n 1, 1) := by decide +kernel
theorem dX5_recolour_85 : decode cX5_recolour 85 = .ok (.if_icmp .eq 9, 3) := by decide +kernel
theorem dX5_recolour_88 : decode cX5_recolour 88 = .ok (.iload 5, 2) := by decide +kernel
theorem dX5_recolour_90 : decode cX5_recolour 90 = .ok (.iload_n 2, 1) := by decide +kernel
theorem dX5_recolour_91 : decode cX5_recolour 91 = .ok (.if_icmp .ne 27, 3) := by decide +kernel
theorem dX5_recolour_94 : decode cX5_recolour 94 = .ok (.aload_n 0, 1) := by decide +kernel
theorem dX5_recolour_95 : decode cX5_recolour 95 = .ok (.getfield 7, 3) := by decide +kernel
theorem dX5_recolour_98 : decode cX5_recolour 98 = .ok (.bipush 27, 2) := by decide +kernel
theorem dX5_recolour_100 : decode cX5_recolour 100 = .ok (.iload 4, 2) := by decide +kernel
theorem dX5_recolour_102 : decode cX5_recolour 102 = .ok (.iadd, 1) := by decide +kernel
theorem dX5_recolour_103 : decode cX5_recolour 103 = .ok (.iload 5, 2) := by decide +kernel
theorem dX5_recolour_105 : decode cX5_recolour 105 = .ok (.iload_n 1, 1) := by decide +kernel
theorem dX5_recolour_106 : decode cX5_recolour 106 = .ok (.if_icmp .ne 7, 3) := by decide +kernel
theorem dX5_recolour_109 : decode cX5_recolour 109 = .ok (.iload_n 2, 1) := by decide +kernel
theorem dX5_recolour_110 : decode cX5_recolour 110 = .ok (.goto 4, 3) := by decide +kernel
theorem dX5_recolour_113 : decode cX5_recolour 113 = .ok (.iload_n 1, 1) := by decide +kernel
theorem dX5_recolour_114 : decode cX5_recolour 114 = .ok (.iastore, 1) := by decide +kernel
theorem dX5_recolour_115 : decode cX5_recolour 115 = .ok (.iinc 3 1, 3) := by decide +kernel
theorem dX5_recolour_118 : decode cX5_recolour 118 = .ok (.iinc 4 1, 3) := by decide +kernel
theorem dX5_recolour_121 : decode cX5_recolour 121 = .ok (.goto (-80), 3) := by decide +kernel
theorem dX5_recolour_124 : decode cX5_recolour 124 = .ok (.iload_n 3, 1) := by decide +kernel
theorem dX5_recolour_125 : decode cX5_recolour 125 = .ok (.ireturn, 1) := by decide +kernel
theorem dX5_isSetting_0 : decode cX5_isSetting 0 = .ok (.iload_n 0, 1) := by decide +kernel
theorem dX5_isSetting_1 : decode cX5_isSetting 1 = .ok (.iconst 0, 1) := by decide +kernel
theorem dX5_isSetting_2 : decode cX5_isSetting 2 = .ok (.iconst 3, 1) := by decide +kernel
theorem dX5_isSetting_3 : decode cX5_isSetting 3 = .ok (.invokestatic 47, 3) := by decide +kernel
theorem dX5_isSetting_6 : decode cX5_isSetting 6 = .ok (.ireturn, 1) := by decide +kernel
theorem dX5_isValue_0 : decode cX5_isValue 0 = .ok (.iload_n 0, 1) := by decide +kernel
theorem dX5_isValue_1 : decode cX5_isValue 1 = .ok (.tableswitch 52 0 2 #[27, 35, 43], 27) := by decide +kernel
theorem dX5_isValue_28 : decode cX5_isValue 28 = .ok (.iload_n 1, 1) := by decide +kernel
theorem dX5_isValue_29 : decode cX5_isValue 29 = .ok (.iconst 3, 1) := by decide +kernel
theorem dX5_isValue_30 : decode cX5_isValue 30 = .ok (.bipush 15, 2) := by decide +kernel
theorem dX5_isValue_32 : decode cX5_isValue 32 = .ok (.invokestatic 47, 3) := by decide +kernel
theorem dX5_isValue_35 : decode cX5_isValue 35 = .ok (.ireturn, 1) := by decide +kernel
theorem dX5_isValue_36 : decode cX5_isValue 36 = .ok (.iload_n 1, 1) := by decide +kernel
theorem dX5_isValue_37 : decode cX5_isValue 37 = .ok (.iconst 0, 1) := by decide +kernel
theorem dX5_isValue_38 : decode cX5_isValue 38 = .ok (.bipush 11, 2) := by decide +kernel
theorem dX5_isValue_40 : decode cX5_isValue 40 = .ok (.invokestatic 47, 3) := by decide +kernel
theorem dX5_isValue_43 : decode cX5_isValue 43 = .ok (.ireturn, 1) := by decide +kernel
theorem dX5_isValue_44 : decode cX5_isValue 44 = .ok (.iload_n 1, 1) := by decide +kernel
theorem dX5_isValue_45 : decode cX5_isValue 45 = .ok (.iconst 5, 1) := by decide +kernel
theorem dX5_isValue_46 : decode cX5_isValue 46 = .ok (.sipush 240, 3) := by decide +kernel
theorem dX5_isValue_49 : decode cX5_isValue 49 = .ok (.invokestatic 47, 3) := by decide +kernel
theorem dX5_isValue_52 : decode cX5_isValue 52 = .ok (.ireturn, 1) := by decide +kernel
theorem dX5_isValue_53 : decode cX5_isValue 53 = .ok (.iload_n 1, 1) := by decide +kernel
theorem dX5_isValue_54 : decode cX5_isValue 54 = .ok (.invokestatic 108, 3) := by decide +kernel
theorem dX5_isValue_57 : decode cX5_isValue 57 = .ok (.ireturn, 1) := by decide +kernel
theorem dX5_set_0 : decode cX5_set 0 = .ok (.aload_n 0, 1) := by decide +kernel
theorem dX5_set_1 : decode cX5_set 1 = .ok (.iload_n 1, 1) := by decide +kernel
theorem dX5_set_2 : decode cX5_set 2 = .ok (.invokestatic 115, 3) := by decide +kernel
theorem dX5_set_5 : decode cX5_set 5 = .ok (.ifCond .ne 7, 3) := by decide +kernel
theorem dX5_set_8 : decode cX5_set 8 = .ok (.iconst 1, 1) := by decide +kernel
theorem dX5_set_9 : decode cX5_set 9 = .ok (.goto 16, 3) := by decide +kernel
theorem dX5_set_12 : decode cX5_set 12 = .ok (.iload_n 1, 1) := by decide +kernel
theorem dX5_set_13 : decode cX5_set 13 = .ok (.iload_n 2, 1) := by decide +kernel
theorem dX5_set_14 : decode cX5_set 14 = .ok (.invokestatic 118, 3) := by decide +kernel
theorem dX5_set_17 : decode cX5_set 17 = .ok (.ifCond .eq 7, 3) := by decide +kernel
theorem dX5_set_20 : decode cX5_set 20 = .ok (.iconst 0, 1) := by decide +kernel
theorem dX5_set_21 : decode cX5_set 21 = .ok (.goto 4, 3) := by decide +kernel
theorem dX5_set_24 : decode cX5_set 24 = .ok (.iconst 2, 1) := by decide +kernel
theorem dX5_set_25 : decode cX5_set 25 = .ok (.putfield 40, 3) := by decide +kernel
theorem dX5_set_28 : decode cX5_set 28 = .ok (.aload_n 0, 1) := by decide +kernel
theorem dX5_set_29 : decode cX5_set 29 = .ok (.getfield 40, 3) := by decide +kernel
theorem dX5_set_32 : decode cX5_set 32 = .ok (.ifCond .le 5, 3) := by decide +kernel
theorem dX5_set_35 : decode cX5_set 35 = .ok (.iconst 0, 1) := by decide +kernel
theorem dX5_set_36 : decode cX5_set 36 = .ok (.ireturn, 1) := by decide +kernel
theorem dX5_set_37 : decode cX5_set 37 = .ok (.aload_n 0, 1) := by decide +kernel
theorem dX5_set_38 : decode cX5_set 38 = .ok (.invokevirtual 95, 3) := by decide +kernel
theorem dX5_set_41 : decode cX5_set 41 = .ok (.aload_n 0, 1) := by decide +kernel
theorem dX5_set_42 : decode cX5_set 42 = .ok (.getfield 7, 3) := by decide +kernel
theorem dX5_set_45 : decode cX5_set 45 = .ok (.iconst 0, 1) := by decide +kernel
theorem dX5_set_46 : decode cX5_set 46 = .ok (.iload_n 1, 1) := by decide +kernel
theorem dX5_set_47 : decode cX5_set 47 = .ok (.iadd, 1) := by decide +kernel
theorem dX5_set_48 : decode cX5_set 48 = .ok (.iaload, 1) := by decide +kernel
theorem dX5_set_49 : decode cX5_set 49 = .ok (.istore_n 3, 1) := by decide +kernel
theorem dX5_set_50 : decode cX5_set 50 = .ok (.aload_n 0, 1) := by decide +kernel
theorem dX5_set_51 : decode cX5_set 51 = .ok (.getfield 7, 3) := by decide +kernel
theorem dX5_set_54 : decode cX5_set 54 = .ok (.iconst 0, 1) := by decide +kernel
theorem dX5_set_55 : decode cX5_set 55 = .ok (.iload_n 1, 1) := by decide +kernel
theorem dX5_set_56 : decode cX5_set 56 = .ok (.iadd, 1) := by decide +kernel
theorem dX5_set_57 : decode cX5_set 57 = .ok (.iload_n 2, 1) := by decide +kernel
theorem dX5_set_58 : decode cX5_set 58 = .ok (.iastore, 1) := by decide +kernel
theorem dX5_set_59 : decode cX5_set 59 = .ok (.iload_n 3, 1) := by decide +kernel
theorem dX5_set_60 : decode cX5_set 60 = .ok (.ireturn, 1) := by decide +kernel
theorem dX5_buy_0 : decode cX5_buy 0 = .ok (.aload_n 0, 1) := by decide +kernel
theorem dX5_buy_1 : decode cX5_buy 1 = .ok (.iload_n 1, 1) := by decide +kernel
theorem dX5_buy_2 : decode cX5_buy 2 = .ok (.invokestatic 108, 3) := by decide +kernel
theorem dX5_buy_5 : decode cX5_buy 5 = .ok (.ifCond .eq 13, 3) := by decide +kernel
theorem dX5_buy_8 : decode cX5_buy 8 = .ok (.iload_n 2, 1) := by decide +kernel
theorem dX5_buy_9 : decode cX5_buy 9 = .ok (.iconst 1, 1) := by decide +kernel
theorem dX5_buy_10 : decode cX5_buy 10 = .ok (.bipush 100, 2) := by decide +kernel
theorem dX5_buy_12 : decode cX5_buy 12 = .ok (.invokestatic 47, 3) := by decide +kernel
theorem dX5_buy_15 : decode cX5_buy 15 = .ok (.ifCond .ne 7, 3) := by decide +kernel
theorem dX5_buy_18 : decode cX5_buy 18 = .ok (.iconst 1, 1) := by decide +kernel
theorem dX5_buy_19 : decode cX5_buy 19 = .ok (.goto 25, 3) := by decide +kernel
theorem dX5_buy_22 : decode cX5_buy 22 = .ok (.aload_n 0, 1) := by decide +kernel
theorem dX5_buy_23 : decode cX5_buy 23 = .ok (.getfield 7, 3) := by decide +kernel
theorem dX5_buy_26 : decode cX5_buy 26 = .ok (.bipush 15, 2) := by decide +kernel
theorem dX5_buy_28 : decode cX5_buy 28 = .ok (.iload_n 1, 1) := by decide +kernel
theorem dX5_buy_29 : decode cX5_buy 29 = .ok (.iadd, 1) := by decide +kernel
theorem dX5_buy_30 : decode cX5_buy 30 = .ok (.iaload, 1) := by decide +kernel
theorem dX5_buy_31 : decode cX5_buy 31 = .ok (.iload_n 2, 1) := by decide +kernel
theorem dX5_buy_32 : decode cX5_buy 32 = .ok (.iadd, 1) := by decide +kernel
theorem dX5_buy_33 : decode cX5_buy 33 = .ok (.sipush 600, 3) := by decide +kernel
theorem dX5_buy_36 : decode cX5_buy 36 = .ok (.if_icmp .le 7, 3) := by decide +kernel
theorem dX5_buy_39 : decode cX5_buy 39 = .ok (.iconst 2, 1) := by decide +kernel
theorem dX5_buy_40 : decode cX5_buy 40 = .ok (.goto 4, 3) := by decide +kernel
theorem dX5_buy_43 : decode cX5_buy 43 = .ok (.iconst 0, 1) := by decide +kernel
theorem dX5_buy_44 : decode cX5_buy 44 = .ok (.putfield 40, 3) := by decide +kernel
theorem dX5_buy_47 : decode cX5_buy 47 = .ok (.aload_n 0, 1) := by decide +kernel
theorem dX5_buy_48 : decode cX5_buy 48 = .ok (.getfield 40, 3) := by decide +kernel
theorem dX5_buy_51 : decode cX5_buy 51 = .ok (.ifCond .le 5, 3) := by decide +kernel
theorem dX5_buy_54 : decode cX5_buy 54 = .ok (.iconst 0, 1) := by decide +kernel
theorem dX5_buy_55 : decode cX5_buy 55 = .ok (.ireturn, 1) := by decide +kernel
theorem dX5_buy_56 : decode cX5_buy 56 = .ok (.aload_n 0, 1) := by decide +kernel
theorem dX5_buy_57 : decode cX5_buy 57 = .ok (.invokevirtual 95, 3) := by decide +kernel
theorem dX5_buy_60 : decode cX5_buy 60 = .ok (.aload_n 0, 1) := by decide +kernel
theorem dX5_buy_61 : decode cX5_buy 61 = .ok (.getfield 7, 3) := by decide +kernel
theorem dX5_buy_64 : decode cX5_buy 64 = .ok (.bipush 9, 2) := by decide +kernel
theorem dX5_buy_66 : decode cX5_buy 66 = .ok (.iload_n 1, 1) := by decide +kernel
theorem dX5_buy_67 : decode cX5_buy 67 = .ok (.iadd, 1) := by decide +kernel
theorem dX5_buy_68 : decode cX5_buy 68 = .ok (.dup2, 1) := by decide +kernel
theorem dX5_buy_69 : decode cX5_buy 69 = .ok (.iaload, 1) := by decide +kernel
theorem dX5_buy_70 : decode cX5_buy 70 = .ok (.iload_n 2, 1) := by decide +kernel
theorem dX5_buy_71 : decode cX5_buy 71 = .ok (.iadd, 1) := by decide +kernel
theorem dX5_buy_72 : decode cX5_buy 72 = .ok (.iastore, 1) := by decide +kernel
theorem dX5_buy_73 : decode cX5_buy 73 = .ok (.aload_n 0, 1) := by decide +kernel
theorem dX5_buy_74 : decode cX5_buy 74 = .ok (.getfield 7, 3) := by decide +kernel
theorem dX5_buy_77 : decode cX5_buy 77 = .ok (.bipush 15, 2) := by decide +kernel
theorem dX5_buy_79 : decode cX5_buy 79 = .ok (.iload_n 1, 1) := by decide +kernel
theorem dX5_buy_80 : decode cX5_buy 80 = .ok (.iadd, 1) := by decide +kernel
theorem dX5_buy_81 : decode cX5_buy 81 = .ok (.dup2, 1) := by decide +kernel
theorem dX5_buy_82 : decode cX5_buy 82 = .ok (.iaload, 1) := by decide +kernel
theorem dX5_buy_83 : decode cX5_buy 83 = .ok (.iload_n 2, 1) := by decide +kernel
theorem dX5_buy_84 : decode cX5_buy 84 = .ok (.iadd, 1) := by decide +kernel
theorem dX5_buy_85 : decode cX5_buy 85 = .ok (.iastore, 1) := by decide +kernel
theorem dX5_buy_86 : decode cX5_buy 86 = .ok (.aload_n 0, 1) := by decide +kernel
theorem dX5_buy_87 : decode cX5_buy 87 = .ok (.getfield 7, 3) := by decide +kernel
theorem dX5_buy_90 : decode cX5_buy 90 = .ok (.bipush 9, 2) := by decide +kernel
theorem dX5_buy_92 : decode cX5_buy 92 = .ok (.iload_n 1, 1) := by decide +kernel
theorem dX5_buy_93 : decode cX5_buy 93 = .ok (.iadd, 1) := by decide +kernel
theorem dX5_buy_94 : decode cX5_buy 94 = .ok (.iaload, 1) := by decide +kernel
theorem dX5_buy_95 : decode cX5_buy 95 = .ok (.ireturn, 1) := by decide +kernel
theorem dX5_onLast_0 : decode cX5_onLast 0 = .ok (.aload_n 0, 1) := by decide +kernel
theorem dX5_onLast_1 : decode cX5_onLast 1 = .ok (.getfield 7, 3) := by decide +kernel
theorem dX5_onLast_4 : decode cX5_onLast 4 = .ok (.bipush 6, 2) := by decide +kernel
theorem dX5_onLast_6 : decode cX5_onLast 6 = .ok (.iaload, 1) := by decide +kernel
theorem dX5_onLast_7 : decode cX5_onLast 7 = .ok (.aload_n 0, 1) := by decide +kernel
theorem dX5_onLast_8 : decode cX5_onLast 8 = .ok (.getfield 7, 3) := by decide +kernel
theorem dX5_onLast_11 : decode cX5_onLast 11 = .ok (.sipush 387, 3) := by decide +kernel
theorem dX5_onLast_14 : decode cX5_onLast 14 = .ok (.aload_n 0, 1) := by decide +kernel
theorem dX5_onLast_15 : decode cX5_onLast 15 = .ok (.getfield 7, 3) := by decide +kernel
theorem dX5_onLast_18 : decode cX5_onLast 18 = .ok (.bipush 7, 2) := by decide +kernel
theorem dX5_onLast_20 : decode cX5_onLast 20 = .ok (.iaload, 1) := by decide +kernel
theorem dX5_onLast_21 : decode cX5_onLast 21 = .ok (.iadd, 1) := by decide +kernel
theorem dX5_onLast_22 : decode cX5_onLast 22 = .ok (.iconst 1, 1) := by decide +kernel
theorem dX5_onLast_23 : decode cX5_onLast 23 = .ok (.isub, 1) := by decide +kernel
theorem dX5_onLast_24 : decode cX5_onLast 24 = .ok (.iaload, 1) := by decide +kernel
theorem dX5_onLast_25 : decode cX5_onLast 25 = .ok (.isub, 1) := by decide +kernel
theorem dX5_onLast_26 : decode cX5_onLast 26 = .ok (.ireturn, 1) := by decide +kernel
theorem dX5_wantNothing_0 : decode cX5_wantNothing 0 = .ok (.iconst 0, 1) := by decide +kernel
theorem dX5_wantNothing_1 : decode cX5_wantNothing 1 = .ok (.istore_n 1, 1) := by decide +kernel
theorem dX5_wantNothing_2 : decode cX5_wantNothing 2 = .ok (.iload_n 1, 1) := by decide +kernel
theorem dX5_wantNothing_3 : decode cX5_wantNothing 3 = .ok (.bipush 6, 2) := by decide +kernel
theorem dX5_wantNothing_5 : decode cX5_wantNothing 5 = .ok (.if_icmp .ge 16, 3) := by decide +kernel
theorem dX5_wantNothing_8 : decode cX5_wantNothing 8 = .ok (.aload_n 0, 1) := by decide +kernel
theorem dX5_wantNothing_9 : decode cX5_wantNothing 9 = .ok (.getfield 22, 3) := by decide +kernel
theorem dX5_wantNothing_12 : decode cX5_wantNothing 12 = .ok (.iload_n 1, 1) := by decide +kernel
theorem dX5_wantNothing_13 : decode cX5_wantNothing 13 = .ok (.iconst 0, 1) := by decide +kernel
theorem dX5_wantNothing_14 : decode cX5_wantNothing 14 = .ok (.iastore, 1) := by decide +kernel
theorem dX5_wantNothing_15 : decode cX5_wantNothing 15 = .ok (.iinc 1 1, 3) := by decide +kernel
theorem dX5_wantNothing_18 : decode cX5_wantNothing 18 = .ok (.goto (-16), 3) := by decide +kernel
theorem dX5_wantNothing_21 : decode cX5_wantNothing 21 = .ok (.return_, 1) := by decide +kernel
theorem dX5_canString_0 : decode cX5_canString 0 = .ok (.aload_n 0, 1) := by decide +kernel
theorem dX5_canString_1 : decode cX5_canString 1 = .ok (.getfield 7, 3) := by decide +kernel
theorem dX5_canString_4 : decode cX5_canString 4 = .ok (.bipush 6, 2) := by decide +kernel
theorem dX5_canString_6 : decode cX5_canString 6 = .ok (.iaload, 1) := by decide +kernel
theorem dX5_canString_7 : decode cX5_canString 7 = .ok (.iload_n 1, 1) := by decide +kernel
theorem dX5_canString_8 : decode cX5_canString 8 = .ok (.iadd, 1) := by decide +kernel
theorem dX5_canString_9 : decode cX5_canString 9 = .ok (.sipush 240, 3) := by decide +kernel
theorem dX5_canString_12 : decode cX5_canString 12 = .ok (.if_icmp .gt 22, 3) := by decide +kernel
theorem dX5_canString_15 : decode cX5_canString 15 = .ok (.aload_n 0, 1) := by decide +kernel
theorem dX5_canString_16 : decode cX5_canString 16 = .ok (.invokevirtual 121, 3) := by decide +kernel
theorem dX5_canString_19 : decode cX5_canString 19 = .ok (.iload_n 1, 1) := by decide +kernel
theorem dX5_canString_20 : decode cX5_canString 20 = .ok (.iadd, 1) := by decide +kernel
theorem dX5_canString_21 : decode cX5_canString 21 = .ok (.aload_n 0, 1) := by decide +kernel
theorem dX5_canString_22 : decode cX5_canString 22 = .ok (.getfield 7, 3) := by decide +kernel
theorem dX5_canString_25 : decode cX5_canString 25 = .ok (.iconst 2, 1) := by decide +kernel
theorem dX5_canString_26 : decode cX5_canString 26 = .ok (.iaload, 1) := by decide +kernel
theorem dX5_canString_27 : decode cX5_canString 27 = .ok (.if_icmp .gt 7, 3) := by decide +kernel
theorem dX5_canString_30 : decode cX5_canString 30 = .ok (.iconst 1, 1) := by decide +kernel
theorem dX5_canString_31 : decode cX5_canString 31 = .ok (.goto 4, 3) := by decide +kernel
theorem dX5_canString_34 : decode cX5_canString 34 = .ok (.iconst 0, 1) := by decide +kernel
theorem dX5_canString_35 : decode cX5_canString 35 = .ok (.istore_n 2, 1) := by decide +kernel
theorem dX5_canString_36 : decode cX5_canString 36 = .ok (.iconst 0, 1) := by decide +kernel
theorem dX5_canString_37 : decode cX5_canString 37 = .ok (.istore_n 3, 1) := by decide +kernel
theorem dX5_canString_38 : decode cX5_canString 38 = .ok (.iload_n 3, 1) := by decide +kernel
theorem dX5_canString_39 : decode cX5_canString 39 = .ok (.bipush 6, 2) := by decide +kernel
theorem dX5_canString_41 : decode cX5_canString 41 = .ok (.if_icmp .ge 37, 3) := by decide +kernel
theorem dX5_canString_44 : decode cX5_canString 44 = .ok (.iload_n 2, 1) := by decide +kernel
theorem dX5_canString_45 : decode cX5_canString 45 = .ok (.ifCond .eq 25, 3) := by decide +kernel
theorem dX5_canString_48 : decode cX5_canString 48 = .ok (.aload_n 0, 1) := by decide +kernel
theorem dX5_canString_49 : decode cX5_canString 49 = .ok (.getfield 22, 3) := by decide +kernel
theorem dX5_canString_52 : decode cX5_canString 52 = .ok (.iload_n 3, 1) := by decide +kernel
theorem dX5_canString_53 : decode cX5_canString 53 = .ok (.iaload, 1) := by decide +kernel
theorem dX5_canString_54 : decode cX5_canString 54 = .ok (.aload_n 0, 1) := by decide +kernel
theorem dX5_canString_55 : decode cX5_canString 55 = .ok (.getfield 7, 3) := by decide +kernel
theorem dX5_canString_58 : decode cX5_canString 58 = .ok (.bipush 9, 2) := by decide +kernel
theorem dX5_canString_60 : decode cX5_canString 60 = .ok (.iload_n 3, 1) := by decide +kernel
theorem dX5_canString_61 : decode cX5_canString 61 = .ok (.iadd, 1) := by decide +kernel
theorem dX5_canString_62 : decode cX5_canString 62 = .ok (.iaload, 1) := by decide +kernel
theorem dX5_canString_63 : decode cX5_canString 63 = .ok (.if_icmp .gt 7, 3) := by decide +kernel
theorem dX5_canString_66 : decode cX5_canString 66 = .ok (.iconst 1, 1) := by decide +kernel
theorem dX5_canString_67 : decode cX5_canString 67 = .ok (.goto 4, 3) := by decide +kernel
theorem dX5_canString_70 : decode cX5_canString 70 = .ok (.iconst 0, 1) := by decide +kernel
theorem dX5_canString_71 : decode cX5_canString 71 = .ok (.istore_n 2, 1) := by decide +kernel
theorem dX5_canString_72 : decode cX5_canString 72 = .ok (.iinc 3 1, 3) := by decide +kernel
theorem dX5_canString_75 : decode cX5_canString 75 = .ok (.goto (-37), 3) := by decide +kernel
theorem dX5_canString_78 : decode cX5_canString 78 = .ok (.iload_n 2, 1) := by decide +kernel
theorem dX5_canString_79 : decode cX5_canString 79 = .ok (.ireturn, 1) := by decide +kernel
theorem dX5_strings_0 : decode cX5_strings 0 = .ok (.aload_n 0, 1) := by decide +kernel
theorem dX5_strings_1 : decode cX5_strings 1 = .ok (.getfield 7, 3) := by decide +kernel
theorem dX5_strings_4 : decode cX5_strings 4 = .ok (.bipush 9, 2) := by decide +kernel
theorem dX5_strings_6 : decode cX5_strings 6 = .ok (.iload_n 1, 1) := by decide +kernel
theorem dX5_strings_7 : decode cX5_strings 7 = .ok (.iadd, 1) := by decide +kernel
theorem dX5_strings_8 : decode cX5_strings 8 = .ok (.dup2, 1) := by decide +kernel
theorem dX5_strings_9 : decode cX5_strings 9 = .ok (.iaload, 1) := by decide +kernel
theorem dX5_strings_10 : decode cX5_strings 10 = .ok (.iconst 1, 1) := by decide +kernel
theorem dX5_strings_11 : decode cX5_strings 11 = .ok (.isub, 1) := by decide +kernel
theorem dX5_strings_12 : decode cX5_strings 12 = .ok (.iastore, 1) := by decide +kernel
theorem dX5_strings_13 : decode cX5_strings 13 = .ok (.aload_n 0, 1) := by decide +kernel
theorem dX5_strings_14 : decode cX5_strings 14 = .ok (.getfield 7, 3) := by decide +kernel
theorem dX5_strings_17 : decode cX5_strings 17 = .ok (.sipush 147, 3) := by decide +kernel
theorem dX5_strings_20 : decode cX5_strings 20 = .ok (.aload_n 0, 1) := by decide +kernel
theorem dX5_strings_21 : decode cX5_strings 21 = .ok (.getfield 7, 3) := by decide +kernel
theorem dX5_strings_24 : decode cX5_strings 24 = .ok (.bipush 6, 2) := by decide +kernel
theorem dX5_strings_26 : decode cX5_strings 26 = .ok (.iaload, 1) := by decide +kernel
theorem dX5_strings_27 : decode cX5_strings 27 = .ok (.iadd, 1) := by decide +kernel
theorem dX5_strings_28 : decode cX5_strings 28 = .ok (.iload_n 1, 1) := by decide +kernel
theorem dX5_strings_29 : decode cX5_strings 29 = .ok (.iastore, 1) := by decide +kernel
theorem dX5_strings_30 : decode cX5_strings 30 = .ok (.aload_n 0, 1) := by decide +kernel
theorem dX5_strings_31 : decode cX5_strings 31 = .ok (.getfield 7, 3) := by decide +kernel
theorem dX5_strings_34 : decode cX5_strings 34 = .ok (.bipush 6, 2) := by decide +kernel
theorem dX5_strings_36 : decode cX5_strings 36 = .ok (.dup2, 1) := by decide +kernel
theorem dX5_strings_37 : decode cX5_strings 37 = .ok (.iaload, 1) := by decide +kernel
theorem dX5_strings_38 : decode cX5_strings 38 = .ok (.iconst 1, 1) := by decide +kernel
theorem dX5_strings_39 : decode cX5_strings 39 = .ok (.iadd, 1) := by decide +kernel
theorem dX5_strings_40 : decode cX5_strings 40 = .ok (.iastore, 1) := by decide +kernel
theorem dX5_strings_41 : decode cX5_strings 41 = .ok (.return_, 1) := by decide +kernel
theorem dX5_string_0 : decode cX5_string 0 = .ok (.aload_n 0, 1) := by decide +kernel
theorem dX5_string_1 : decode cX5_string 1 = .ok (.iload_n 1, 1) := by decide +kernel
theorem dX5_string_2 : decode cX5_string 2 = .ok (.invokestatic 108, 3) := by decide +kernel
theorem dX5_string_5 : decode cX5_string 5 = .ok (.ifCond .eq 13, 3) := by decide +kernel
theorem dX5_string_8 : decode cX5_string 8 = .ok (.iload_n 2, 1) := by decide +kernel
theorem dX5_string_9 : decode cX5_string 9 = .ok (.iconst 1, 1) := by decide +kernel
theorem dX5_string_10 : decode cX5_string 10 = .ok (.bipush 60, 2) := by decide +kernel
theorem dX5_string_12 : decode cX5_string 12 = .ok (.invokestatic 47, 3) := by decide +kernel
theorem dX5_string_15 : decode cX5_string 15 = .ok (.ifCond .ne 7, 3) := by decide +kernel
theorem dX5_string_18 : decode cX5_string 18 = .ok (.iconst 1, 1) := by decide +kernel
theorem dX5_string_19 : decode cX5_string 19 = .ok (.goto 4, 3) := by decide +kernel
theorem dX5_string_22 : decode cX5_string 22 = .ok (.iconst 0, 1) := by decide +kernel
theorem dX5_string_23 : decode cX5_string 23 = .ok (.putfield 40, 3) := by decide +kernel
theorem dX5_string_26 : decode cX5_string 26 = .ok (.aload_n 0, 1) := by decide +kernel
theorem dX5_string_27 : decode cX5_string 27 = .ok (.getfield 40, 3) := by decide +kernel
theorem dX5_string_30 : decode cX5_string 30 = .ok (.ifCond .ne 31, 3) := by decide +kernel
theorem dX5_string_33 : decode cX5_string 33 = .ok (.aload_n 0, 1) := by decide +kernel
theorem dX5_string_34 : decode cX5_string 34 = .ok (.invokevirtual 125, 3) := by decide +kernel
theorem dX5_string_37 : decode cX5_string 37 = .ok (.aload_n 0, 1) := by decide +kernel
theorem dX5_string_38 : decode cX5_string 38 = .ok (.getfield 22, 3) := by decide +kernel
theorem dX5_string_41 : decode cX5_string 41 = .ok (.iload_n 1, 1) := by decide +kernel
theorem dX5_string_42 : decode cX5_string 42 = .ok (.iload_n 2, 1) := by decide +kernel
theorem dX5_string_43 : decode cX5_string 43 = .ok (.iastore, 1) := by decide +kernel
theorem dX5_string_44 : decode cX5_string 44 = .ok (.aload_n 0, 1) := by decide +kernel
theorem dX5_string_45 : decode cX5_string 45 = .ok (.aload_n 0, 1) := by decide +kernel
theorem dX5_string_46 : decode cX5_string 46 = .ok (.iload_n 2, 1) := by decide +kernel
theorem dX5_string_47 : decode cX5_string 47 = .ok (.invokevirtual 128, 3) := by decide +kernel
theorem dX5_string_50 : decode cX5_string 50 = .ok (.ifCond .eq 7, 3) := by decide +kernel
theorem dX5_string_53 : decode cX5_string 53 = .ok (.iconst 0, 1) := by decide +kernel
theorem dX5_string_54 : decode cX5_string 54 = .ok (.goto 4, 3) := by decide +kernel
theorem dX5_string_57 : decode cX5_string 57 = .ok (.iconst 2, 1) := by decide +kernel
theorem dX5_string_58 : decode cX5_string 58 = .ok (.putfield 40, 3) := by decide +kernel
theorem dX5_string_61 : decode cX5_string 61 = .ok (.aload_n 0, 1) := by decide +kernel
theorem dX5_string_62 : decode cX5_string 62 = .ok (.getfield 40, 3) := by decide +kernel
theorem dX5_string_65 : decode cX5_string 65 = .ok (.ifCond .le 5, 3) := by decide +kernel
theorem dX5_string_68 : decode cX5_string 68 = .ok (.iconst 0, 1) := by decide +kernel
theorem dX5_string_69 : decode cX5_string 69 = .ok (.ireturn, 1) := by decide +kernel
theorem dX5_string_70 : decode cX5_string 70 = .ok (.aload_n 0, 1) := by decide +kernel
theorem dX5_string_71 : decode cX5_string 71 = .ok (.invokevirtual 95, 3) := by decide +kernel
theorem dX5_string_74 : decode cX5_string 74 = .ok (.iconst 0, 1) := by decide +kernel
theorem dX5_string_75 : decode cX5_string 75 = .ok (.istore_n 3, 1) := by decide +kernel
theorem dX5_string_76 : decode cX5_string 76 = .ok (.iload_n 3, 1) := by decide +kernel
theorem dX5_string_77 : decode cX5_string 77 = .ok (.iload_n 2, 1) := by decide +kernel
theorem dX5_string_78 : decode cX5_string 78 = .ok (.if_icmp .ge 14, 3) := by decide +kernel
theorem dX5_string_81 : decode cX5_string 81 = .ok (.aload_n 0, 1) := by decide +kernel
theorem dX5_string_82 : decode cX5_string 82 = .ok (.iload_n 1, 1) := by decide +kernel
theorem dX5_string_83 : decode cX5_string 83 = .ok (.invokevirtual 131, 3) := by decide +kernel
theorem dX5_string_86 : decode cX5_string 86 = .ok (.iinc 3 1, 3) := by decide +kernel
theorem dX5_string_89 : decode cX5_string 89 = .ok (.goto (-13), 3) := by decide +kernel
theorem dX5_string_92 : decode cX5_string 92 = .ok (.aload_n 0, 1) := by decide +kernel
theorem dX5_string_93 : decode cX5_string 93 = .ok (.getfield 7, 3) := by decide +kernel
theorem dX5_string_96 : decode cX5_string 96 = .ok (.bipush 6, 2) := by decide +kernel
theorem dX5_string_98 : decode cX5_string 98 = .ok (.iaload, 1) := by decide +kernel
theorem dX5_string_99 : decode cX5_string 99 = .ok (.ireturn, 1) := by decide +kernel
theorem dX5_stringNext_0 : decode cX5_stringNext 0 = .ok (.aload_n 0, 1) := by decide +kernel
theorem dX5_stringNext_1 : decode cX5_stringNext 1 = .ok (.iload_n 1, 1) := by decide +kernel
theorem dX5_stringNext_2 : decode cX5_stringNext 2 = .ok (.iconst 1, 1) := by decide +kernel
theorem dX5_stringNext_3 : decode cX5_stringNext 3 = .ok (.bipush 60, 2) := by decide +kernel
theorem dX5_stringNext_5 : decode cX5_stringNext 5 = .ok (.invokestatic 47, 3) := by decide +kernel
theorem dX5_stringNext_8 : decode cX5_stringNext 8 = .ok (.ifCond .eq 7, 3) := by decide +kernel
theorem dX5_stringNext_11 : decode cX5_stringNext 11 = .ok (.iconst 0, 1) := by decide +kernel
theorem dX5_stringNext_12 : decode cX5_stringNext 12 = .ok (.goto 4, 3) := by decide +kernel
theorem dX5_stringNext_15 : decode cX5_stringNext 15 = .ok (.iconst 1, 1) := by decide +kernel
theorem dX5_stringNext_16 : decode cX5_stringNext 16 = .ok (.putfield 40, 3) := by decide +kernel
theorem dX5_stringNext_19 : decode cX5_stringNext 19 = .ok (.aload_n 0, 1) := by decide +kernel
theorem dX5_stringNext_20 : decode cX5_stringNext 20 = .ok (.getfield 40, 3) := by decide +kernel
theorem dX5_stringNext_23 : decode cX5_stringNext 23 = .ok (.ifCond .ne 59, 3) := by decide +kernel
theorem dX5_stringNext_26 : decode cX5_stringNext 26 = .ok (.aload_n 0, 1) := by decide +kernel
theorem dX5_stringNext_27 : decode cX5_stringNext 27 = .ok (.invokevirtual 125, 3) := by decide +kernel
theorem dX5_stringNext_30 : decode cX5_stringNext 30 = .ok (.iconst 0, 1) := by decide +kernel
theorem dX5_stringNext_31 : decode cX5_stringNext 31 = .ok (.istore_n 2, 1) := by decide +kernel
theorem dX5_stringNext_32 : decode cX5_stringNext 32 = .ok (.iload_n 2, 1) := by decide +kernel
theorem dX5_stringNext_33 : decode cX5_stringNext 33 = .ok (.iload_n 1, 1) := by decide +kernel
theorem dX5_stringNext_34 : decode cX5_stringNext 34 = .ok (.if_icmp .ge 31, 3) := by decide +kernel
theorem dX5_stringNext_37 : decode cX5_stringNext 37 = .ok (.aload_n 0, 1) := by decide +kernel
theorem dX5_stringNext_38 : decode cX5_stringNext 38 = .ok (.getfield 22, 3) := by decide +kernel
theorem dX5_stringNext_41 : decode cX5_stringNext 41 = .ok (.aload_n 0, 1) := by decide +kernel
theorem dX5_stringNext_42 : decode cX5_stringNext 42 = .ok (.aload_n 0, 1) := by decide +kernel
theorem dX5_stringNext_43 : decode cX5_stringNext 43 = .ok (.getfield 7, 3) := by decide +kernel
theorem dX5_stringNext_46 : decode cX5_stringNext 46 = .ok (.bipush 6, 2) := by decide +kernel
theorem dX5_stringNext_48 : decode cX5_stringNext 48 = .ok (.iaload, 1) := by decide +kernel
theorem dX5_stringNext_49 : decode cX5_stringNext 49 = .ok (.iload_n 2, 1) := by decide +kernel
theorem dX5_stringNext_50 : decode cX5_stringNext 50 = .ok (.iadd, 1) := by decide +kernel
theorem dX5_stringNext_51 : decode cX5_stringNext 51 = .ok (.invokevirtual 65, 3) := by decide +kernel
theorem dX5_stringNext_54 : decode cX5_stringNext 54 = .ok (.dup2, 1) := by decide +kernel
theorem dX5_stringNext_55 : decode cX5_stringNext 55 = .ok (.iaload, 1) := by decide +kernel
theorem dX5_stringNext_56 : decode cX5_stringNext 56 = .ok (.iconst 1, 1) := by decide +kernel
theorem dX5_stringNext_57 : decode cX5_stringNext 57 = .ok (.iadd, 1) := by decide +kernel
theorem dX5_stringNext_58 : decode cX5_stringNext 58 = .ok (.iastore, 1) := by decide +kernel
theorem dX5_stringNext_59 : decode cX5_stringNext 59 = .ok (.iinc 2 1, 3) := by decide +kernel
theorem dX5_stringNext_62 : decode cX5_stringNext 62 = .ok (.goto (-30), 3) := by decide +kernel
theorem dX5_stringNext_65 : decode cX5_stringNext 65 = .ok (.aload_n 0, 1) := by decide +kernel
theorem dX5_stringNext_66 : decode cX5_stringNext 66 = .ok (.aload_n 0, 1) := by decide +kernel
theorem dX5_stringNext_67 : decode cX5_stringNext 67 = .ok (.iload_n 1, 1) := by decide +kernel
theorem dX5_stringNext_68 : decode cX5_stringNext 68 = .ok (.invokevirtual 128, 3) := by decide +kernel
theorem dX5_stringNext_71 : decode cX5_stringNext 71 = .ok (.ifCond .eq 7, 3) := by decide +kernel
theorem dX5_stringNext_74 : decode cX5_stringNext 74 = .ok (.iconst 0, 1) := by decide +kernel
theorem dX5_stringNext_75 : decode cX5_stringNext 75 = .ok (.goto 4, 3) := by decide +kernel
theorem dX5_stringNext_78 : decode cX5_stringNext 78 = .ok (.iconst 2, 1) := by decide +kernel
theorem dX5_stringNext_79 : decode cX5_stringNext 79 = .ok (.putfield 40, 3) := by decide +kernel
theorem dX5_stringNext_82 : decode cX5_stringNext 82 = .ok (.aload_n 0, 1) := by decide +kernel
theorem dX5_stringNext_83 : decode cX5_stringNext 83 = .ok (.getfield 40, 3) := by decide +kernel
theorem dX5_stringNext_86 : decode cX5_stringNext 86 = .ok (.ifCond .le 5, 3) := by decide +kernel
theorem dX5_stringNext_89 : decode cX5_stringNext 89 = .ok (.iconst 0, 1) := by decide +kernel
theorem dX5_stringNext_90 : decode cX5_stringNext 90 = .ok (.ireturn, 1) := by decide +kernel
theorem dX5_stringNext_91 : decode cX5_stringNext 91 = .ok (.aload_n 0, 1) := by decide +kernel
theorem dX5_stringNext_92 : decode cX5_stringNext 92 = .ok (.invokevirtual 95, 3) := by decide +kernel
theorem dX5_stringNext_95 : decode cX5_stringNext 95 = .ok (.iconst 0, 1) := by decide +kernel
theorem dX5_stringNext_96 : decode cX5_stringNext 96 = .ok (.istore_n 2, 1) := by decide +kernel
theorem dX5_stringNext_97 : decode cX5_stringNext 97 = .ok (.iload_n 2, 1) := by decide +kernel
theorem dX5_stringNext_98 : decode cX5_stringNext 98 = .ok (.iload_n 1, 1) := by decide +kernel
theorem dX5_stringNext_99 : decode cX5_stringNext 99 = .ok (.if_icmp .ge 24, 3) := by decide +kernel
theorem dX5_stringNext_102 : decode cX5_stringNext 102 = .ok (.aload_n 0, 1) := by decide +kernel
theorem dX5_stringNext_103 : decode cX5_stringNext 103 = .ok (.aload_n 0, 1) := by decide +kernel
theorem dX5_stringNext_104 : decode cX5_stringNext 104 = .ok (.aload_n 0, 1) := by decide +kernel
theorem dX5_stringNext_105 : decode cX5_stringNext 105 = .ok (.getfield 7, 3) := by decide +kernel
theorem dX5_stringNext_108 : decode cX5_stringNext 108 = .ok (.bipush 6, 2) := by decide +kernel
theorem dX5_stringNext_110 : decode cX5_stringNext 110 = .ok (.iaload, 1) := by decide +kernel
theorem dX5_stringNext_111 : decode cX5_stringNext 111 = .ok (.invokevirtual 65, 3) := by decide +kernel
theorem dX5_stringNext_114 : decode cX5_stringNext 114 = .ok (.invokevirtual 131, 3) := by decide +kernel
theorem dX5_stringNext_117 : decode cX5_stringNext 117 = .ok (.iinc 2 1, 3) := by decide +kernel
theorem dX5_stringNext_120 : decode cX5_stringNext 120 = .ok (.goto (-23), 3) := by decide +kernel
theorem dX5_stringNext_123 : decode cX5_stringNext 123 = .ok (.aload_n 0, 1) := by decide +kernel
theorem dX5_stringNext_124 : decode cX5_stringNext 124 = .ok (.getfield 7, 3) := by decide +kernel
theorem dX5_stringNext_127 : decode cX5_stringNext 127 = .ok (.bipush 6, 2) := by decide +kernel
theorem dX5_stringNext_129 : decode cX5_stringNext 129 = .ok (.iaload, 1) := by decide +kernel
theorem dX5_stringNext_130 : decode cX5_stringNext 130 = .ok (.ireturn, 1) := by decide +kernel
theorem dX5_stringRow_0 : decode cX5_stringRow 0 = .ok (.aload_n 0, 1) := by decide +kernel
theorem dX5_stringRow_1 : decode cX5_stringRow 1 = .ok (.iconst 0, 1) := by decide +kernel
theorem dX5_stringRow_2 : decode cX5_stringRow 2 = .ok (.invokevirtual 81, 3) := by decide +kernel
theorem dX5_stringRow_5 : decode cX5_stringRow 5 = .ok (.aload_n 0, 1) := by decide +kernel
theorem dX5_stringRow_6 : decode cX5_stringRow 6 = .ok (.getfield 85, 3) := by decide +kernel
theorem dX5_stringRow_9 : decode cX5_stringRow 9 = .ok (.if_icmp .ne 14, 3) := by decide +kernel
theorem dX5_stringRow_12 : decode cX5_stringRow 12 = .ok (.aload_n 0, 1) := by decide +kernel
theorem dX5_stringRow_13 : decode cX5_stringRow 13 = .ok (.invokevirtual 88, 3) := by decide +kernel
theorem dX5_stringRow_16 : decode cX5_stringRow 16 = .ok (.ifCond .eq 7, 3) := by decide +kernel
theorem dX5_stringRow_19 : decode cX5_stringRow 19 = .ok (.iconst 1, 1) := by decide +kernel
theorem dX5_stringRow_20 : decode cX5_stringRow 20 = .ok (.goto 4, 3) := by decide +kernel
theorem dX5_stringRow_23 : decode cX5_stringRow 23 = .ok (.iconst 0, 1) := by decide +kernel
theorem dX5_stringRow_24 : decode cX5_stringRow 24 = .ok (.istore_n 1, 1) := by decide +kernel
theorem dX5_stringRow_25 : decode cX5_stringRow 25 = .ok (.aload_n 0, 1) := by decide +kernel
theorem dX5_stringRow_26 : decode cX5_stringRow 26 = .ok (.iload_n 1, 1) := by decide +kernel
theorem dX5_stringRow_27 : decode cX5_stringRow 27 = .ok (.ifCond .eq 7, 3) := by decide +kernel
theorem dX5_stringRow_30 : decode cX5_stringRow 30 = .ok (.iconst 0, 1) := by decide +kernel
theorem dX5_stringRow_31 : decode cX5_stringRow 31 = .ok (.goto 4, 3) := by decide +kernel
theorem dX5_stringRow_34 : decode cX5_stringRow 34 = .ok (.iconst 1, 1) := by decide +kernel
theorem dX5_stringRow_35 : decode cX5_stringRow 35 = .ok (.putfield 40, 3) := by decide +kernel
theorem dX5_stringRow_38 : decode cX5_stringRow 38 = .ok (.aload_n 0, 1) := by decide +kernel
theorem dX5_stringRow_39 : decode cX5_stringRow 39 = .ok (.getfield 40, 3) := by decide +kernel
theorem dX5_stringRow_42 : decode cX5_stringRow 42 = .ok (.ifCond .ne 71, 3) := by decide +kernel
theorem dX5_stringRow_45 : decode cX5_stringRow 45 = .ok (.aload_n 0, 1) := by decide +kernel
theorem dX5_stringRow_46 : decode cX5_stringRow 46 = .ok (.invokevirtual 125, 3) := by decide +kernel
theorem dX5_stringRow_49 : decode cX5_stringRow 49 = .ok (.iconst 0, 1) := by decide +kernel
theorem dX5_stringRow_50 : decode cX5_stringRow 50 = .ok (.istore_n 2, 1) := by decide +kernel
theorem dX5_stringRow_51 : decode cX5_stringRow 51 = .ok (.iconst 0, 1) := by decide +kernel
theorem dX5_stringRow_52 : decode cX5_stringRow 52 = .ok (.istore_n 3, 1) := by decide +kernel
theorem dX5_stringRow_53 : decode cX5_stringRow 53 = .ok (.iload_n 3, 1) := by decide +kernel
theorem dX5_stringRow_54 : decode cX5_stringRow 54 = .ok (.aload_n 0, 1) := by decide +kernel
theorem dX5_stringRow_55 : decode cX5_stringRow 55 = .ok (.getfield 134, 3) := by decide +kernel
theorem dX5_stringRow_58 : decode cX5_stringRow 58 = .ok (.if_icmp .ge 38, 3) := by decide +kernel
theorem dX5_stringRow_61 : decode cX5_stringRow 61 = .ok (.aload_n 0, 1) := by decide +kernel
theorem dX5_stringRow_62 : decode cX5_stringRow 62 = .ok (.getfield 22, 3) := by decide +kernel
theorem dX5_stringRow_65 : decode cX5_stringRow 65 = .ok (.aload_n 0, 1) := by decide +kernel
theorem dX5_stringRow_66 : decode cX5_stringRow 66 = .ok (.getfield 28, 3) := by decide +kernel
theorem dX5_stringRow_69 : decode cX5_stringRow 69 = .ok (.iload_n 3, 1) := by decide +kernel
theorem dX5_stringRow_70 : decode cX5_stringRow 70 = .ok (.iaload, 1) := by decide +kernel
theorem dX5_stringRow_71 : decode cX5_stringRow 71 = .ok (.dup2, 1) := by decide +kernel
theorem dX5_stringRow_72 : decode cX5_stringRow 72 = .ok (.iaload, 1) := by decide +kernel
theorem dX5_stringRow_73 : decode cX5_stringRow 73 = .ok (.aload_n 0, 1) := by decide +kernel
theorem dX5_stringRow_74 : decode cX5_stringRow 74 = .ok (.getfield 31, 3) := by decide +kernel
theorem dX5_stringRow_77 : decode cX5_stringRow 77 = .ok (.iload_n 3, 1) := by decide +kernel
theorem dX5_stringRow_78 : decode cX5_stringRow 78 = .ok (.iaload, 1) := by decide +kernel
theorem dX5_stringRow_79 : decode cX5_stringRow 79 = .ok (.iadd, 1) := by decide +kernel
theorem dX5_stringRow_80 : decode cX5_stringRow 80 = .ok (.iastore, 1) := by decide +kernel
theorem dX5_stringRow_81 : decode cX5_stringRow 81 = .ok (.iload_n 2, 1) := by decide +kernel
theorem dX5_stringRow_82 : decode cX5_stringRow 82 = .ok (.aload_n 0, 1) := by decide +kernel
theorem dX5_stringRow_83 : decode cX5_stringRow 83 = .ok (.getfield 31, 3) := by decide +kernel
theorem dX5_stringRow_86 : decode cX5_stringRow 86 = .ok (.iload_n 3, 1) := by decide +kernel
theorem dX5_stringRow_87 : decode cX5_stringRow 87 = .ok (.iaload, 1) := by decide +kernel
theorem dX5_stringRow_88 : decode cX5_stringRow 88 = .ok (.iadd, 1) := by decide +kernel
theorem dX5_stringRow_89 : decode cX5_stringRow 89 = .ok (.istore_n 2, 1) := by decide +kernel
theorem dX5_stringRow_90 : decode cX5_stringRow 90 = .ok (.iinc 3 1, 3) := by decide +kernel
theorem dX5_stringRow_93 : decode cX5_stringRow 93 = .ok (.goto (-40), 3) := by decide +kernel
theorem dX5_stringRow_96 : decode cX5_stringRow 96 = .ok (.aload_n 0, 1) := by decide +kernel
theorem dX5_stringRow_97 : decode cX5_stringRow 97 = .ok (.aload_n 0, 1) := by decide +kernel
theorem dX5_stringRow_98 : decode cX5_stringRow 98 = .ok (.iload_n 2, 1) := by decide +kernel
theorem dX5_stringRow_99 : decode cX5_stringRow 99 = .ok (.invokevirtual 128, 3) := by decide +kernel
theorem dX5_stringRow_102 : decode cX5_stringRow 102 = .ok (.ifCond .eq 7, 3) := by decide +kernel
theorem dX5_stringRow_105 : decode cX5_stringRow 105 = .ok (.iconst 0, 1) := by decide +kernel
theorem dX5_stringRow_106 : decode cX5_stringRow 106 = .ok (.goto 4, 3) := by decide +kernel
theorem dX5_stringRow_109 : decode cX5_stringRow 109 = .ok (.iconst 2, 1) := by decide +kernel
theorem dX5_stringRow_110 : decode cX5_stringRow 110 = .ok (.putfield 40, 3) := by decide +kernel
theorem dX5_stringRow_113 : decode cX5_stringRow 113 = .ok (.aload_n 0, 1) := by decide +kernel
theorem dX5_stringRow_114 : decode cX5_stringRow 114 = .ok (.getfield 40, 3) := by decide +kernel
theorem dX5_stringRow_117 : decode cX5_stringRow 117 = .ok (.ifCond .le 5, 3) := by decide +kernel
theorem dX5_stringRow_120 : decode cX5_stringRow 120 = .ok (.iconst 0, 1) := by decide +kernel
theorem dX5_stringRow_121 : decode cX5_stringRow 121 = .ok (.ireturn, 1) := by decide +kernel
theorem dX5_stringRow_122 : decode cX5_stringRow 122 = .ok (.aload_n 0, 1) := by decide +kernel
theorem dX5_stringRow_123 : decode cX5_stringRow 123 = .ok (.invokevirtual 95, 3) := by decide +kernel
theorem dX5_stringRow_126 : decode cX5_stringRow 126 = .ok (.aload_n 0, 1) := by decide +kernel
theorem dX5_stringRow_127 : decode cX5_stringRow 127 = .ok (.iconst 0, 1) := by decide +kernel
theorem dX5_stringRow_128 : decode cX5_stringRow 128 = .ok (.putfield 85, 3) := by decide +kernel
theorem dX5_stringRow_131 : decode cX5_stringRow 131 = .ok (.iconst 0, 1) := by decide +kernel
theorem dX5_stringRow_132 : decode cX5_stringRow 132 = .ok (.istore_n 2, 1) := by decide +kernel
theorem dX5_stringRow_133 : decode cX5_stringRow 133 = .ok (.iload_n 2, 1) := by decide +kernel
theorem dX5_stringRow_134 : decode cX5_stringRow 134 = .ok (.aload_n 0, 1) := by decide +kernel
theorem dX5_stringRow_135 : decode cX5_stringRow 135 = .ok (.getfield 134, 3) := by decide +kernel
theorem dX5_stringRow_138 : decode cX5_stringRow 138 = .ok (.if_icmp .ge 37, 3) := by decide +kernel
theorem dX5_stringRow_141 : decode cX5_stringRow 141 = .ok (.iconst 0, 1) := by decide +kernel
theorem dX5_stringRow_142 : decode cX5_stringRow 142 = .ok (.istore_n 3, 1) := by decide +kernel
theorem dX5_stringRow_143 : decode cX5_stringRow 143 = .ok (.iload_n 3, 1) := by decide +kernel
theorem dX5_stringRow_144 : decode cX5_stringRow 144 = .ok (.aload_n 0, 1) := by decide +kernel
theorem dX5_stringRow_145 : decode cX5_stringRow 145 = .ok (.getfield 31, 3) := by decide +kernel
theorem dX5_stringRow_148 : decode cX5_stringRow 148 = .ok (.iload_n 2, 1) := by decide +kernel
theorem dX5_stringRow_149 : decode cX5_stringRow 149 = .ok (.iaload, 1) := by decide +kernel
theorem dX5_stringRow_150 : decode cX5_stringRow 150 = .ok (.if_icmp .ge 19, 3) := by decide +kernel
theorem dX5_stringRow_153 : decode cX5_stringRow 153 = .ok (.aload_n 0, 1) := by decide +kernel
theorem dX5_stringRow_154 : decode cX5_stringRow 154 = .ok (.aload_n 0, 1) := by decide +kernel
theorem dX5_stringRow_155 : decode cX5_stringRow 155 = .ok (.getfield 28, 3) := by decide +kernel
theorem dX5_stringRow_158 : decode cX5_stringRow 158 = .ok (.iload_n 2, 1) := by decide +kernel
theorem dX5_stringRow_159 : decode cX5_stringRow 159 = .ok (.iaload, 1) := by decide +kernel
theorem dX5_stringRow_160 : decode cX5_stringRow 160 = .ok (.invokevirtual 131, 3) := by decide +kernel
theorem dX5_stringRow_163 : decode cX5_stringRow 163 = .ok (.iinc 3 1, 3) := by decide +kernel
theorem dX5_stringRow_166 : decode cX5_stringRow 166 = .ok (.goto (-23), 3) := by decide +kernel
theorem dX5_stringRow_169 : decode cX5_stringRow 169 = .ok (.iinc 2 1, 3) := by decide +kernel
theorem dX5_stringRow_172 : decode cX5_stringRow 172 = .ok (.goto (-39), 3) := by decide +kernel
theorem dX5_stringRow_175 : decode cX5_stringRow 175 = .ok (.aload_n 0, 1) := by decide +kernel
theorem dX5_stringRow_176 : decode cX5_stringRow 176 = .ok (.getfield 7, 3) := by decide +kernel
theorem dX5_stringRow_179 : decode cX5_stringRow 179 = .ok (.bipush 6, 2) := by decide +kernel
theorem dX5_stringRow_181 : decode cX5_stringRow 181 = .ok (.iaload, 1) := by decide +kernel
theorem dX5_stringRow_182 : decode cX5_stringRow 182 = .ok (.ireturn, 1) := by decide +kernel
theorem dX5_join_0 : decode cX5_join 0 = .ok (.aload_n 0, 1) := by decide +kernel
theorem dX5_join_1 : decode cX5_join 1 = .ok (.aload_n 0, 1) := by decide +kernel
theorem dX5_join_2 : decode cX5_join 2 = .ok (.invokevirtual 121, 3) := by decide +kernel
theorem dX5_join_5 : decode cX5_join 5 = .ok (.ifCond .eq 15, 3) := by decide +kernel
theorem dX5_join_8 : decode cX5_join 8 = .ok (.aload_n 0, 1) := by decide +kernel
theorem dX5_join_9 : decode cX5_join 9 = .ok (.getfield 7, 3) := by decide +kernel
theorem dX5_join_12 : decode cX5_join 12 = .ok (.bipush 7, 2) := by decide +kernel
theorem dX5_join_14 : decode cX5_join 14 = .ok (.iaload, 1) := by decide +kernel
theorem dX5_join_15 : decode cX5_join 15 = .ok (.bipush 48, 2) := by decide +kernel
theorem dX5_join_17 : decode cX5_join 17 = .ok (.if_icmp .ne 7, 3) := by decide +kernel
theorem dX5_join_20 : decode cX5_join 20 = .ok (.iconst 1, 1) := by decide +kernel
theorem dX5_join_21 : decode cX5_join 21 = .ok (.goto 4, 3) := by decide +kernel
theorem dX5_join_24 : decode cX5_join 24 = .ok (.iconst 0, 1) := by decide +kernel
theorem dX5_join_25 : decode cX5_join 25 = .ok (.putfield 40, 3) := by decide +kernel
theorem dX5_join_28 : decode cX5_join 28 = .ok (.aload_n 0, 1) := by decide +kernel
theorem dX5_join_29 : decode cX5_join 29 = .ok (.getfield 40, 3) := by decide +kernel
theorem dX5_join_32 : decode cX5_join 32 = .ok (.ifCond .le 5, 3) := by decide +kernel
theorem dX5_join_35 : decode cX5_join 35 = .ok (.iconst 0, 1) := by decide +kernel
theorem dX5_join_36 : decode cX5_join 36 = .ok (.ireturn, 1) := by decide +kernel
theorem dX5_join_37 : decode cX5_join 37 = .ok (.aload_n 0, 1) := by decide +kernel
theorem dX5_join_38 : decode cX5_join 38 = .ok (.invokevirtual 95, 3) := by decide +kernel
theorem dX5_join_41 : decode cX5_join 41 = .ok (.aload_n 0, 1) := by decide +kernel
theorem dX5_join_42 : decode cX5_join 42 = .ok (.getfield 7, 3) := by decide +kernel
theorem dX5_join_45 : decode cX5_join 45 = .ok (.sipush 387, 3) := by decide +kernel
theorem dX5_join_48 : decode cX5_join 48 = .ok (.aload_n 0, 1) := by decide +kernel
theorem dX5_join_49 : decode cX5_join 49 = .ok (.getfield 7, 3) := by decide +kernel
theorem dX5_join_52 : decode cX5_join 52 = .ok (.bipush 7, 2) := by decide +kernel
theorem dX5_join_54 : decode cX5_join 54 = .ok (.iaload, 1) := by decide +kernel
theorem dX5_join_55 : decode cX5_join 55 = .ok (.iadd, 1) := by decide +kernel
theorem dX5_join_56 : decode cX5_join 56 = .ok (.aload_n 0, 1) := by decide +kernel
theorem dX5_join_57 : decode cX5_join 57 = .ok (.getfield 7, 3) := by decide +kernel
theorem dX5_join_60 : decode cX5_join 60 = .ok (.bipush 6, 2) := by decide +kernel
theorem dX5_join_62 : decode cX5_join 62 = .ok (.iaload, 1) := by decide +kernel
theorem dX5_join_63 : decode cX5_join 63 = .ok (.iastore, 1) := by decide +kernel
theorem dX5_join_64 : decode cX5_join 64 = .ok (.aload_n 0, 1) := by decide +kernel
theorem dX5_join_65 : decode cX5_join 65 = .ok (.getfield 7, 3) := by decide +kernel
theorem dX5_join_68 : decode cX5_join 68 = .ok (.bipush 7, 2) := by decide +kernel
theorem dX5_join_70 : decode cX5_join 70 = .ok (.dup2, 1) := by decide +kernel
theorem dX5_join_71 : decode cX5_join 71 = .ok (.iaload, 1) := by decide +kernel
theorem dX5_join_72 : decode cX5_join 72 = .ok (.iconst 1, 1) := by decide +kernel
theorem dX5_join_73 : decode cX5_join 73 = .ok (.iadd, 1) := by decide +kernel
theorem dX5_join_74 : decode cX5_join 74 = .ok (.iastore, 1) := by decide +kernel
theorem dX5_join_75 : decode cX5_join 75 = .ok (.aload_n 0, 1) := by decide +kernel
theorem dX5_join_76 : decode cX5_join 76 = .ok (.aload_n 0, 1) := by decide +kernel
theorem dX5_join_77 : decode cX5_join 77 = .ok (.getfield 7, 3) := by decide +kernel
theorem dX5_join_80 : decode cX5_join 80 = .ok (.bipush 6, 2) := by decide +kernel
theorem dX5_join_82 : decode cX5_join 82 = .ok (.iaload, 1) := by decide +kernel
theorem dX5_join_83 : decode cX5_join 83 = .ok (.invokevirtual 137, 3) := by decide +kernel
theorem dX5_join_86 : decode cX5_join 86 = .ok (.ifCond .eq 7, 3) := by decide +kernel
theorem dX5_join_89 : decode cX5_join 89 = .ok (.iconst 1, 1) := by decide +kernel
theorem dX5_join_90 : decode cX5_join 90 = .ok (.goto 4, 3) := by decide +kernel
theorem dX5_join_93 : decode cX5_join 93 = .ok (.iconst 0, 1) := by decide +kernel
theorem dX5_join_94 : decode cX5_join 94 = .ok (.ireturn, 1) := by decide +kernel
theorem dX5_isBead_0 : decode cX5_isBead 0 = .ok (.iload_n 1, 1) := by decide +kernel
theorem dX5_isBead_1 : decode cX5_isBead 1 = .ok (.iconst 0, 1) := by decide +kernel
theorem dX5_isBead_2 : decode cX5_isBead 2 = .ok (.aload_n 0, 1) := by decide +kernel
theorem dX5_isBead_3 : decode cX5_isBead 3 = .ok (.getfield 7, 3) := by decide +kernel
theorem dX5_isBead_6 : decode cX5_isBead 6 = .ok (.bipush 6, 2) := by decide +kernel
theorem dX5_isBead_8 : decode cX5_isBead 8 = .ok (.iaload, 1) := by decide +kernel
theorem dX5_isBead_9 : decode cX5_isBead 9 = .ok (.iconst 1, 1) := by decide +kernel
theorem dX5_isBead_10 : decode cX5_isBead 10 = .ok (.isub, 1) := by decide +kernel
theorem dX5_isBead_11 : decode cX5_isBead 11 = .ok (.invokestatic 47, 3) := by decide +kernel
theorem dX5_isBead_14 : decode cX5_isBead 14 = .ok (.ireturn, 1) := by decide +kernel
theorem dX5_stringOf_0 : decode cX5_stringOf 0 = .ok (.aload_n 0, 1) := by decide +kernel
theorem dX5_stringOf_1 : decode cX5_stringOf 1 = .ok (.getfield 7, 3) := by decide +kernel
theorem dX5_stringOf_4 : decode cX5_stringOf 4 = .ok (.bipush 7, 2) := by decide +kernel
theorem dX5_stringOf_6 : decode cX5_stringOf 6 = .ok (.iaload, 1) := by decide +kernel
theorem dX5_stringOf_7 : decode cX5_stringOf 7 = .ok (.iconst 1, 1) := by decide +kernel
theorem dX5_stringOf_8 : decode cX5_stringOf 8 = .ok (.isub, 1) := by decide +kernel
theorem dX5_stringOf_9 : decode cX5_stringOf 9 = .ok (.istore_n 2, 1) := by decide +kernel
theorem dX5_stringOf_10 : decode cX5_stringOf 10 = .ok (.aload_n 0, 1) := by decide +kernel
theorem dX5_stringOf_11 : decode cX5_stringOf 11 = .ok (.getfield 7, 3) := by decide +kernel
theorem dX5_stringOf_14 : decode cX5_stringOf 14 = .ok (.sipush 387, 3) := by decide +kernel
theorem dX5_stringOf_17 : decode cX5_stringOf 17 = .ok (.iload_n 2, 1) := by decide +kernel
theorem dX5_stringOf_18 : decode cX5_stringOf 18 = .ok (.iadd, 1) := by decide +kernel
theorem dX5_stringOf_19 : decode cX5_stringOf 19 = .ok (.iaload, 1) := by decide +kernel
theorem dX5_stringOf_20 : decode cX5_stringOf 20 = .ok (.iload_n 1, 1) := by decide +kernel
theorem dX5_stringOf_21 : decode cX5_stringOf 21 = .ok (.if_icmp .le 9, 3) := by decide +kernel
theorem dX5_stringOf_24 : decode cX5_stringOf 24 = .ok (.iinc 2 (-1), 3) := by decide +kernel
theorem dX5_stringOf_27 : decode cX5_stringOf 27 = .ok (.goto (-17), 3) := by decide +kernel
theorem dX5_stringOf_30 : decode cX5_stringOf 30 = .ok (.iload_n 2, 1) := by decide +kernel
theorem dX5_stringOf_31 : decode cX5_stringOf 31 = .ok (.ireturn, 1) := by decide +kernel
theorem dX5_endOf_0 : decode cX5_endOf 0 = .ok (.iload_n 1, 1) := by decide +kernel
theorem dX5_endOf_1 : decode cX5_endOf 1 = .ok (.aload_n 0, 1) := by decide +kernel
theorem dX5_endOf_2 : decode cX5_endOf 2 = .ok (.getfield 7, 3) := by decide +kernel
theorem dX5_endOf_5 : decode cX5_endOf 5 = .ok (.bipush 7, 2) := by decide +kernel
theorem dX5_endOf_7 : decode cX5_endOf 7 = .ok (.iaload, 1) := by decide +kernel
theorem dX5_endOf_8 : decode cX5_endOf 8 = .ok (.iconst 1, 1) := by decide +kernel
theorem dX5_endOf_9 : decode cX5_endOf 9 = .ok (.isub, 1) := by decide +kernel
theorem dX5_endOf_10 : decode cX5_endOf 10 = .ok (.if_icmp .ne 13, 3) := by decide +kernel
theorem dX5_endOf_13 : decode cX5_endOf 13 = .ok (.aload_n 0, 1) := by decide +kernel
theorem dX5_endOf_14 : decode cX5_endOf 14 = .ok (.getfield 7, 3) := by decide +kernel
theorem dX5_endOf_17 : decode cX5_endOf 17 = .ok (.bipush 6, 2) := by decide +kernel
theorem dX5_endOf_19 : decode cX5_endOf 19 = .ok (.iaload, 1) := by decide +kernel
theorem dX5_endOf_20 : decode cX5_endOf 20 = .ok (.goto 15, 3) := by decide +kernel
theorem dX5_endOf_23 : decode cX5_endOf 23 = .ok (.aload_n 0, 1) := by decide +kernel
theorem dX5_endOf_24 : decode cX5_endOf 24 = .ok (.getfield 7, 3) := by decide +kernel
theorem dX5_endOf_27 : decode cX5_endOf 27 = .ok (.sipush 387, 3) := by decide +kernel
theorem dX5_endOf_30 : decode cX5_endOf 30 = .ok (.iload_n 1, 1) := by decide +kernel
theorem dX5_endOf_31 : decode cX5_endOf 31 = .ok (.iadd, 1) := by decide +kernel
theorem dX5_endOf_32 : decode cX5_endOf 32 = .ok (.iconst 1, 1) := by decide +kernel
theorem dX5_endOf_33 : decode cX5_endOf 33 = .ok (.iadd, 1) := by decide +kernel
theorem dX5_endOf_34 : decode cX5_endOf 34 = .ok (.iaload, 1) := by decide +kernel
theorem dX5_endOf_35 : decode cX5_endOf 35 = .ok (.ireturn, 1) := by decide +kernel
theorem dX5_crush_0 : decode cX5_crush 0 = .ok (.aload_n 0, 1) := by decide +kernel
theorem dX5_crush_1 : decode cX5_crush 1 = .ok (.aload_n 0, 1) := by decide +kernel
theorem dX5_crush_2 : decode cX5_crush 2 = .ok (.iload_n 1, 1) := by decide +kernel
theorem dX5_crush_3 : decode cX5_crush 3 = .ok (.invokevirtual 140, 3) := by decide +kernel
theorem dX5_crush_6 : decode cX5_crush 6 = .ok (.ifCond .eq 7, 3) := by decide +kernel
theorem dX5_crush_9 : decode cX5_crush 9 = .ok (.iconst 0, 1) := by decide +kernel
theorem dX5_crush_10 : decode cX5_crush 10 = .ok (.goto 4, 3) := by decide +kernel
theorem dX5_crush_13 : decode cX5_crush 13 = .ok (.iconst 1, 1) := by decide +kernel
theorem dX5_crush_14 : decode cX5_crush 14 = .ok (.putfield 40, 3) := by decide +kernel
theorem dX5_crush_17 : decode cX5_crush 17 = .ok (.aload_n 0, 1) := by decide +kernel
theorem dX5_crush_18 : decode cX5_crush 18 = .ok (.getfield 40, 3) := by decide +kernel
theorem dX5_crush_21 : decode cX5_crush 21 = .ok (.ifCond .le 5, 3) := by decide +kernel
theorem dX5_crush_24 : decode cX5_crush 24 = .ok (.iconst 0, 1) := by decide +kernel
theorem dX5_crush_25 : decode cX5_crush 25 = .ok (.ireturn, 1) := by decide +kernel
theorem dX5_crush_26 : decode cX5_crush 26 = .ok (.aload_n 0, 1) := by decide +kernel
theorem dX5_crush_27 : decode cX5_crush 27 = .ok (.invokevirtual 95, 3) := by decide +kernel
theorem dX5_crush_30 : decode cX5_crush 30 = .ok (.aload_n 0, 1) := by decide +kernel
theorem dX5_crush_31 : decode cX5_crush 31 = .ok (.iload_n 1, 1) := by decide +kernel
theorem dX5_crush_32 : decode cX5_crush 32 = .ok (.invokevirtual 143, 3) := by decide +kernel
theorem dX5_crush_35 : decode cX5_crush 35 = .ok (.istore_n 2, 1) := by decide +kernel
theorem dX5_crush_36 : decode cX5_crush 36 = .ok (.aload_n 0, 1) := by decide +kernel
theorem dX5_crush_37 : decode cX5_crush 37 = .ok (.getfield 7, 3) := by decide +kernel
theorem dX5_crush_40 : decode cX5_crush 40 = .ok (.bipush 21, 2) := by decide +kernel
theorem dX5_crush_42 : decode cX5_crush 42 = .ok (.aload_n 0, 1) := by decide +kernel
theorem dX5_crush_43 : decode cX5_crush 43 = .ok (.getfield 7, 3) := by decide +kernel
theorem dX5_crush_46 : decode cX5_crush 46 = .ok (.sipush 147, 3) := by decide +kernel
theorem dX5_crush_49 : decode cX5_crush 49 = .ok (.iload_n 1, 1) := by decide +kernel
theorem dX5_crush_50 : decode cX5_crush 50 = .ok (.iadd, 1) := by decide +kernel
theorem dX5_crush_51 : decode cX5_crush 51 = .ok (.iaload, 1) := by decide +kernel
theorem dX5_crush_52 : decode cX5_crush 52 = .ok (.iadd, 1) := by decide +kernel
theorem dX5_crush_53 : decode cX5_crush 53 = .ok (.dup2, 1) := by decide +kernel
theorem dX5_crush_54 : decode cX5_crush 54 = .ok (.iaload, 1) := by decide +kernel
theorem dX5_crush_55 : decode cX5_crush 55 = .ok (.iconst 1, 1) := by decide +kernel
theorem dX5_crush_56 : decode cX5_crush 56 = .ok (.iadd, 1) := by decide +kernel
theorem dX5_crush_57 : decode cX5_crush 57 = .ok (.iastore, 1) := by decide +kernel
theorem dX5_crush_58 : decode cX5_crush 58 = .ok (.aload_n 0, 1) := by decide +kernel
theorem dX5_crush_59 : decode cX5_crush 59 = .ok (.getfield 7, 3) := by decide +kernel
theorem dX5_crush_62 : decode cX5_crush 62 = .ok (.bipush 6, 2) := by decide +kernel
theorem dX5_crush_64 : decode cX5_crush 64 = .ok (.dup2, 1) := by decide +kernel
theorem dX5_crush_65 : decode cX5_crush 65 = .ok (.iaload, 1) := by decide +kernel
theorem dX5_crush_66 : decode cX5_crush 66 = .ok (.iconst 1, 1) := by decide +kernel
theorem dX5_crush_67 : decode cX5_crush 67 = .ok (.isub, 1) := by decide +kernel
theorem dX5_crush_68 : decode cX5_crush 68 = .ok (.iastore, 1) := by decide +kernel
theorem dX5_crush_69 : decode cX5_crush 69 = .ok (.iload_n 1, 1) := by decide +kernel
theorem dX5_crush_70 : decode cX5_crush 70 = .ok (.istore_n 3, 1) := by decide +kernel
theorem dX5_crush_71 : decode cX5_crush 71 = .ok (.iload_n 3, 1) := by decide +kernel
theorem dX5_crush_72 : decode cX5_crush 72 = .ok (.aload_n 0, 1) := by decide +kernel
theorem dX5_crush_73 : decode cX5_crush 73 = .ok (.getfield 7, 3) := by decide +kernel
theorem dX5_crush_76 : decode cX5_crush 76 = .ok (.bipush 6, 2) := by decide +kernel
theorem dX5_crush_78 : decode cX5_crush 78 = .ok (.iaload, 1) := by decide +kernel
theorem dX5_crush_79 : decode cX5_crush 79 = .ok (.if_icmp .ge 31, 3) := by decide +kernel
theorem dX5_crush_82 : decode cX5_crush 82 = .ok (.aload_n 0, 1) := by decide +kernel
theorem dX5_crush_83 : decode cX5_crush 83 = .ok (.getfield 7, 3) := by decide +kernel
theorem dX5_crush_86 : decode cX5_crush 86 = .ok (.sipush 147, 3) := by decide +kernel
theorem dX5_crush_89 : decode cX5_crush 89 = .ok (.iload_n 3, 1) := by decide +kernel
theorem dX5_crush_90 : decode cX5_crush 90 = .ok (.iadd, 1) := by decide +kernel
theorem dX5_crush_91 : decode cX5_crush 91 = .ok (.aload_n 0, 1) := by decide +kernel
theorem dX5_crush_92 : decode cX5_crush 92 = .ok (.getfield 7, 3) := by decide +kernel
theorem dX5_crush_95 : decode cX5_crush 95 = .ok (.sipush 147, 3) := by decide +kernel
theorem dX5_crush_98 : decode cX5_crush 98 = .ok (.iload_n 3, 1) := by decide +kernel
theorem dX5_crush_99 : decode cX5_crush 99 = .ok (.iadd, 1) := by decide +kernel
theorem dX5_crush_100 : decode cX5_crush 100 = .ok (.iconst 1, 1) := by decide +kernel
theorem dX5_crush_101 : decode cX5_crush 101 = .ok (.iadd, 1) := by decide +kernel
theorem dX5_crush_102 : decode cX5_crush 102 = .ok (.iaload, 1) := by decide +kernel
theorem dX5_crush_103 : decode cX5_crush 103 = .ok (.iastore, 1) := by decide +kernel
theorem dX5_crush_104 : decode cX5_crush 104 = .ok (.iinc 3 1, 3) := by decide +kernel
theorem dX5_crush_107 : decode cX5_crush 107 = .ok (.goto (-36), 3) := by decide +kernel
theorem dX5_crush_110 : decode cX5_crush 110 = .ok (.iload_n 2, 1) := by decide +kernel
theorem dX5_crush_111 : decode cX5_crush 111 = .ok (.iconst 1, 1) := by decide +kernel
theorem dX5_crush_112 : decode cX5_crush 112 = .ok (.iadd, 1) := by decide +kernel
theorem dX5_crush_113 : decode cX5_crush 113 = .ok (.istore_n 3, 1) := by decide +kernel
theorem dX5_crush_114 : decode cX5_crush 114 = .ok (.iload_n 3, 1) := by decide +kernel
theorem dX5_crush_115 : decode cX5_crush 115 = .ok (.aload_n 0, 1) := by decide +kernel
theorem dX5_crush_116 : decode cX5_crush 116 = .ok (.getfield 7, 3) := by decide +kernel
theorem dX5_crush_119 : decode cX5_crush 119 = .ok (.bipush 7, 2) := by decide +kernel
theorem dX5_crush_121 : decode cX5_crush 121 = .ok (.iaload, 1) := by decide +kernel
theorem dX5_crush_122 : decode cX5_crush 122 = .ok (.if_icmp .ge 23, 3) := by decide +kernel
theorem dX5_crush_125 : decode cX5_crush 125 = .ok (.aload_n 0, 1) := by decide +kernel
theorem dX5_crush_126 : decode cX5_crush 126 = .ok (.getfield 7, 3) := by decide +kernel
theorem dX5_crush_129 : decode cX5_crush 129 = .ok (.sipush 387, 3) := by decide +kernel
theorem dX5_crush_132 : decode cX5_crush 132 = .ok (.iload_n 3, 1) := by decide +kernel
theorem dX5_crush_133 : decode cX5_crush 133 = .ok (.iadd, 1) := by decide +kernel
theorem dX5_crush_134 : decode cX5_crush 134 = .ok (.dup2, 1) := by decide +kernel
theorem dX5_crush_135 : decode cX5_crush 135 = .ok (.iaload, 1) := by decide +kernel
theorem dX5_crush_136 : decode cX5_crush 136 = .ok (.iconst 1, 1) := by decide +kernel
theorem dX5_crush_137 : decode cX5_crush 137 = .ok (.isub, 1) := by decide +kernel
theorem dX5_crush_138 : decode cX5_crush 138 = .ok (.iastore, 1) := by decide +kernel
theorem dX5_crush_139 : decode cX5_crush 139 = .ok (.iinc 3 1, 3) := by decide +kernel
theorem dX5_crush_142 : decode cX5_crush 142 = .ok (.goto (-28), 3) := by decide +kernel
theorem dX5_crush_145 : decode cX5_crush 145 = .ok (.iload_n 2, 1) := by decide +kernel
theorem dX5_crush_146 : decode cX5_crush 146 = .ok (.aload_n 0, 1) := by decide +kernel
theorem dX5_crush_147 : decode cX5_crush 147 = .ok (.getfield 7, 3) := by decide +kernel
theorem dX5_crush_150 : decode cX5_crush 150 = .ok (.bipush 7, 2) := by decide +kernel
theorem dX5_crush_152 : decode cX5_crush 152 = .ok (.iaload, 1) := by decide +kernel
theorem dX5_crush_153 : decode cX5_crush 153 = .ok (.iconst 1, 1) := by decide +kernel
theorem dX5_crush_154 : decode cX5_crush 154 = .ok (.isub, 1) := by decide +kernel
theorem dX5_crush_155 : decode cX5_crush 155 = .ok (.if_icmp .ge 73, 3) := by decide +kernel
theorem dX5_crush_158 : decode cX5_crush 158 = .ok (.aload_n 0, 1) := by decide +kernel
theorem dX5_crush_159 : decode cX5_crush 159 = .ok (.iload_n 2, 1) := by decide +kernel
theorem dX5_crush_160 : decode cX5_crush 160 = .ok (.invokevirtual 146, 3) := by decide +kernel
theorem dX5_crush_163 : decode cX5_crush 163 = .ok (.aload_n 0, 1) := by decide +kernel
theorem dX5_crush_164 : decode cX5_crush 164 = .ok (.getfield 7, 3) := by decide +kernel
theorem dX5_crush_167 : decode cX5_crush 167 = .ok (.sipush 387, 3) := by decide +kernel
theorem dX5_crush_170 : decode cX5_crush 170 = .ok (.iload_n 2, 1) := by decide +kernel
theorem dX5_crush_171 : decode cX5_crush 171 = .ok (.iadd, 1) := by decide +kernel
theorem dX5_crush_172 : decode cX5_crush 172 = .ok (.iaload, 1) := by decide +kernel
theorem dX5_crush_173 : decode cX5_crush 173 = .ok (.if_icmp .ne 55, 3) := by decide +kernel
theorem dX5_crush_176 : decode cX5_crush 176 = .ok (.aload_n 0, 1) := by decide +kernel
theorem dX5_crush_177 : decode cX5_crush 177 = .ok (.getfield 7, 3) := by decide +kernel
theorem dX5_crush_180 : decode cX5_crush 180 = .ok (.bipush 7, 2) := by decide +kernel
theorem dX5_crush_182 : decode cX5_crush 182 = .ok (.dup2, 1) := by decide +kernel
theorem dX5_crush_183 : decode cX5_crush 183 = .ok (.iaload, 1) := by decide +kernel
theorem dX5_crush_184 : decode cX5_crush 184 = .ok (.iconst 1, 1) := by decide +kernel
theorem dX5_crush_185 : decode cX5_crush 185 = .ok (.isub, 1) := by decide +kernel
theorem dX5_crush_186 : decode cX5_crush 186 = .ok (.iastore, 1) := by decide +kernel
theorem dX5_crush_187 : decode cX5_crush 187 = .ok (.iload_n 2, 1) := by decide +kernel
theorem dX5_crush_188 : decode cX5_crush 188 = .ok (.istore_n 3, 1) := by decide +kernel
theorem dX5_crush_189 : decode cX5_crush 189 = .ok (.iload_n 3, 1) := by decide +kernel
theorem dX5_crush_190 : decode cX5_crush 190 = .ok (.aload_n 0, 1) := by decide +kernel
theorem dX5_crush_191 : decode cX5_crush 191 = .ok (.getfield 7, 3) := by decide +kernel
theorem dX5_crush_194 : decode cX5_crush 194 = .ok (.bipush 7, 2) := by decide +kernel
theorem dX5_crush_196 : decode cX5_crush 196 = .ok (.iaload, 1) := by decide +kernel
theorem dX5_crush_197 : decode cX5_crush 197 = .ok (.if_icmp .ge 31, 3) := by decide +kernel
theorem dX5_crush_200 : decode cX5_crush 200 = .ok (.aload_n 0, 1) := by decide +kernel
theorem dX5_crush_201 : decode cX5_crush 201 = .ok (.getfield 7, 3) := by decide +kernel
theorem dX5_crush_204 : decode cX5_crush 204 = .ok (.sipush 387, 3) := by decide +kernel
theorem dX5_crush_207 : decode cX5_crush 207 = .ok (.iload_n 3, 1) := by decide +kernel
theorem dX5_crush_208 : decode cX5_crush 208 = .ok (.iadd, 1) := by decide +kernel
theorem dX5_crush_209 : decode cX5_crush 209 = .ok (.aload_n 0, 1) := by decide +kernel
theorem dX5_crush_210 : decode cX5_crush 210 = .ok (.getfield 7, 3) := by decide +kernel
theorem dX5_crush_213 : decode cX5_crush 213 = .ok (.sipush 387, 3) := by decide +kernel
theorem dX5_crush_216 : decode cX5_crush 216 = .ok (.iload_n 3, 1) := by decide +kernel
theorem dX5_crush_217 : decode cX5_crush 217 = .ok (.iadd, 1) := by decide +kernel
theorem dX5_crush_218 : decode cX5_crush 218 = .ok (.iconst 1, 1) := by decide +kernel
theorem dX5_crush_219 : decode cX5_crush 219 = .ok (.iadd, 1) := by decide +kernel
theorem dX5_crush_220 : decode cX5_crush 220 = .ok (.iaload, 1) := by decide +kernel
theorem dX5_crush_221 : decode cX5_crush 221 = .ok (.iastore, 1) := by decide +kernel
theorem dX5_crush_222 : decode cX5_crush 222 = .ok (.iinc 3 1, 3) := by decide +kernel
theorem dX5_crush_225 : decode cX5_crush 225 = .ok (.goto (-36), 3) := by decide +kernel
theorem dX5_crush_228 : decode cX5_crush 228 = .ok (.aload_n 0, 1) := by decide +kernel
theorem dX5_crush_229 : decode cX5_crush 229 = .ok (.getfield 7, 3) := by decide +kernel
theorem dX5_crush_232 : decode cX5_crush 232 = .ok (.bipush 6, 2) := by decide +kernel
theorem dX5_crush_234 : decode cX5_crush 234 = .ok (.iaload, 1) := by decide +kernel
theorem dX5_crush_235 : decode cX5_crush 235 = .ok (.ireturn, 1) := by decide +kernel
theorem dX5_unpick_0 : decode cX5_unpick 0 = .ok (.aload_n 0, 1) := by decide +kernel
theorem dX5_unpick_1 : decode cX5_unpick 1 = .ok (.iload_n 1, 1) := by decide +kernel
theorem dX5_unpick_2 : decode cX5_unpick 2 = .ok (.iconst 1, 1) := by decide +kernel
theorem dX5_unpick_3 : decode cX5_unpick 3 = .ok (.sipush 240, 3) := by decide +kernel
theorem dX5_unpick_6 : decode cX5_unpick 6 = .ok (.invokestatic 47, 3) := by decide +kernel
theorem dX5_unpick_9 : decode cX5_unpick 9 = .ok (.ifCond .ne 7, 3) := by decide +kernel
theorem dX5_unpick_12 : decode cX5_unpick 12 = .ok (.iconst 1, 1) := by decide +kernel
theorem dX5_unpick_13 : decode cX5_unpick 13 = .ok (.goto 19, 3) := by decide +kernel
theorem dX5_unpick_16 : decode cX5_unpick 16 = .ok (.aload_n 0, 1) := by decide +kernel
theorem dX5_unpick_17 : decode cX5_unpick 17 = .ok (.getfield 7, 3) := by decide +kernel
theorem dX5_unpick_20 : decode cX5_unpick 20 = .ok (.bipush 6, 2) := by decide +kernel
theorem dX5_unpick_22 : decode cX5_unpick 22 = .ok (.iaload, 1) := by decide +kernel
theorem dX5_unpick_23 : decode cX5_unpick 23 = .ok (.iload_n 1, 1) := by decide +kernel
theorem dX5_unpick_24 : decode cX5_unpick 24 = .ok (.if_icmp .ge 7, 3) := by decide +kernel
theorem dX5_unpick_27 : decode cX5_unpick 27 = .ok (.iconst 2, 1) := by decide +kernel
theorem dX5_unpick_28 : decode cX5_unpick 28 = .ok (.goto 4, 3) := by decide +kernel
theorem dX5_unpick_31 : decode cX5_unpick 31 = .ok (.iconst 0, 1) := by decide +kernel
theorem dX5_unpick_32 : decode cX5_unpick 32 = .ok (.putfield 40, 3) := by decide +kernel
theorem dX5_unpick_35 : decode cX5_unpick 35 = .ok (.aload_n 0, 1) := by decide +kernel
theorem dX5_unpick_36 : decode cX5_unpick 36 = .ok (.getfield 40, 3) := by decide +kernel
theorem dX5_unpick_39 : decode cX5_unpick 39 = .ok (.ifCond .le 5, 3) := by decide +kernel
theorem dX5_unpick_42 : decode cX5_unpick 42 = .ok (.iconst 0, 1) := by decide +kernel
theorem dX5_unpick_43 : decode cX5_unpick 43 = .ok (.ireturn, 1) := by decide +kernel
theorem dX5_unpick_44 : decode cX5_unpick 44 = .ok (.aload_n 0, 1) := by decide +kernel
theorem dX5_unpick_45 : decode cX5_unpick 45 = .ok (.invokevirtual 95, 3) := by decide +kernel
theorem dX5_unpick_48 : decode cX5_unpick 48 = .ok (.iconst 0, 1) := by decide +kernel
theorem dX5_unpick_49 : decode cX5_unpick 49 = .ok (.istore_n 2, 1) := by decide +kernel
theorem dX5_unpick_50 : decode cX5_unpick 50 = .ok (.iload_n 2, 1) := by decide +kernel
theorem dX5_unpick_51 : decode cX5_unpick 51 = .ok (.iload_n 1, 1) := by decide +kernel
theorem dX5_unpick_52 : decode cX5_unpick 52 = .ok (.if_icmp .ge 48, 3) := by decide +kernel
theorem dX5_unpick_55 : decode cX5_unpick 55 = .ok (.aload_n 0, 1) := by decide +kernel
theorem dX5_unpick_56 : decode cX5_unpick 56 = .ok (.getfield 7, 3) := by decide +kernel
theorem dX5_unpick_59 : decode cX5_unpick 59 = .ok (.bipush 6, 2) := by decide +kernel
theorem dX5_unpick_61 : decode cX5_unpick 61 = .ok (.dup2, 1) := by decide +kernel
theorem dX5_unpick_62 : decode cX5_unpick 62 = .ok (.iaload, 1) := by decide +kernel
theorem dX5_unpick_63 : decode cX5_unpick 63 = .ok (.iconst 1, 1) := by decide +kernel
theorem dX5_unpick_64 : decode cX5_unpick 64 = .ok (.isub, 1) := by decide +kernel
theorem dX5_unpick_65 : decode cX5_unpick 65 = .ok (.iastore, 1) := by decide +kernel
theorem dX5_unpick_66 : decode cX5_unpick 66 = .ok (.aload_n 0, 1) := by decide +kernel
theorem dX5_unpick_67 : decode cX5_unpick 67 = .ok (.getfield 7, 3) := by decide +kernel
theorem dX5_unpick_70 : decode cX5_unpick 70 = .ok (.bipush 9, 2) := by decide +kernel
theorem dX5_unpick_72 : decode cX5_unpick 72 = .ok (.aload_n 0, 1) := by decide +kernel
theorem dX5_unpick_73 : decode cX5_unpick 73 = .ok (.getfield 7, 3) := by decide +kernel
theorem dX5_unpick_76 : decode cX5_unpick 76 = .ok (.sipush 147, 3) := by decide +kernel
theorem dX5_unpick_79 : decode cX5_unpick 79 = .ok (.aload_n 0, 1) := by decide +kernel
theorem dX5_unpick_80 : decode cX5_unpick 80 = .ok (.getfield 7, 3) := by decide +kernel
theorem dX5_unpick_83 : decode cX5_unpick 83 = .ok (.bipush 6, 2) := by decide +kernel
theorem dX5_unpick_85 : decode cX5_unpick 85 = .ok (.iaload, 1) := by decide +kernel
theorem dX5_unpick_86 : decode cX5_unpick 86 = .ok (.iadd, 1) := by decide +kernel
theorem dX5_unpick_87 : decode cX5_unpick 87 = .ok (.iaload, 1) := by decide +kernel
theorem dX5_unpick_88 : decode cX5_unpick 88 = .ok (.iadd, 1) := by decide +kernel
theorem dX5_unpick_89 : decode cX5_unpick 89 = .ok (.dup2, 1) := by decide +kernel
theorem dX5_unpick_90 : decode cX5_unpick 90 = .ok (.iaload, 1) := by decide +kernel
theorem dX5_unpick_91 : decode cX5_unpick 91 = .ok (.iconst 1, 1) := by decide +kernel
theorem dX5_unpick_92 : decode cX5_unpick 92 = .ok (.iadd, 1) := by decide +kernel
theorem dX5_unpick_93 : decode cX5_unpick 93 = .ok (.iastore, 1) := by decide +kernel
theorem dX5_unpick_94 : decode cX5_unpick 94 = .ok (.iinc 2 1, 3) := by decide +kernel
theorem dX5_unpick_97 : decode cX5_unpick 97 = .ok (.goto (-47), 3) := by decide +kernel
theorem dX5_unpick_100 : decode cX5_unpick 100 = .ok (.aload_n 0, 1) := by decide +kernel
theorem dX5_unpick_101 : decode cX5_unpick 101 = .ok (.getfield 7, 3) := by decide +kernel
theorem dX5_unpick_104 : decode cX5_unpick 104 = .ok (.sipush 387, 3) := by decide +kernel
theorem dX5_unpick_107 : decode cX5_unpick 107 = .ok (.aload_n 0, 1) := by decide +kernel
theorem dX5_unpick_108 : decode cX5_unpick 108 = .ok (.getfield 7, 3) := by decide +kernel
theorem dX5_unpick_111 : decode cX5_unpick 111 = .ok (.bipush 7, 2) := by decide +kernel
theorem dX5_unpick_113 : decode cX5_unpick 113 = .ok (.iaload, 1) := by decide +kernel
theorem dX5_unpick_114 : decode cX5_unpick 114 = .ok (.iadd, 1) := by decide +kernel
theorem dX5_unpick_115 : decode cX5_unpick 115 = .ok (.iconst 1, 1) := by decide +kernel
theorem dX5_unpick_116 : decode cX5_unpick 116 = .ok (.isub, 1) := by decide +kernel
theorem dX5_unpick_117 : decode cX5_unpick 117 = .ok (.iaload, 1) := by decide +kernel
theorem dX5_unpick_118 : decode cX5_unpick 118 = .ok (.aload_n 0, 1) := by decide +kernel
theorem dX5_unpick_119 : decode cX5_unpick 119 = .ok (.getfield 7, 3) := by decide +kernel
theorem dX5_unpick_122 : decode cX5_unpick 122 = .ok (.bipush 6, 2) := by decide +kernel
theorem dX5_unpick_124 : decode cX5_unpick 124 = .ok (.iaload, 1) := by decide +kernel
theorem dX5_unpick_125 : decode cX5_unpick 125 = .ok (.if_icmp .le 17, 3) := by decide +kernel
theorem dX5_unpick_128 : decode cX5_unpick 128 = .ok (.aload_n 0, 1) := by decide +kernel
theorem dX5_unpick_129 : decode cX5_unpick 129 = .ok (.getfield 7, 3) := by decide +kernel
theorem dX5_unpick_132 : decode cX5_unpick 132 = .ok (.bipush 7, 2) := by decide +kernel
theorem dX5_unpick_134 : decode cX5_unpick 134 = .ok (.dup2, 1) := by decide +kernel
theorem dX5_unpick_135 : decode cX5_unpick 135 = .ok (.iaload, 1) := by decide +kernel
theorem dX5_unpick_136 : decode cX5_unpick 136 = .ok (.iconst 1, 1) := by decide +kernel
theorem dX5_unpick_137 : decode cX5_unpick 137 = .ok (.isub, 1) := by decide +kernel
theorem dX5_unpick_138 : decode cX5_unpick 138 = .ok (.iastore, 1) := by decide +kernel
theorem dX5_unpick_139 : decode cX5_unpick 139 = .ok (.goto (-39), 3) := by decide +kernel
theorem dX5_unpick_142 : decode cX5_unpick 142 = .ok (.aload_n 0, 1) := by decide +kernel
theorem dX5_unpick_143 : decode cX5_unpick 143 = .ok (.getfield 7, 3) := by decide +kernel
theorem dX5_unpick_146 : decode cX5_unpick 146 = .ok (.bipush 8, 2) := by decide +kernel
theorem dX5_unpick_148 : decode cX5_unpick 148 = .ok (.dup2, 1) := by decide +kernel
theorem dX5_unpick_149 : decode cX5_unpick 149 = .ok (.iaload, 1) := by decide +kernel
theorem dX5_unpick_150 : decode cX5_unpick 150 = .ok (.iload_n 1, 1) := by decide +kernel
theorem dX5_unpick_151 : decode cX5_unpick 151 = .ok (.iadd, 1) := by decide +kernel
theorem dX5_unpick_152 : decode cX5_unpick 152 = .ok (.iastore, 1) := by decide +kernel
theorem dX5_unpick_153 : decode cX5_unpick 153 = .ok (.aload_n 0, 1) := by decide +kernel
theorem dX5_unpick_154 : decode cX5_unpick 154 = .ok (.getfield 7, 3) := by decide +kernel
theorem dX5_unpick_157 : decode cX5_unpick 157 = .ok (.bipush 6, 2) := by decide +kernel
theorem dX5_unpick_159 : decode cX5_unpick 159 = .ok (.iaload, 1) := by decide +kernel
theorem dX5_unpick_160 : decode cX5_unpick 160 = .ok (.ireturn, 1) := by decide +kernel
theorem dX5_append_0 : decode cX5_append 0 = .ok (.aload_n 0, 1) := by decide +kernel
theorem dX5_append_1 : decode cX5_append 1 = .ok (.iload_n 1, 1) := by decide +kernel
theorem dX5_append_2 : decode cX5_append 2 = .ok (.bipush 33, 2) := by decide +kernel
theorem dX5_append_4 : decode cX5_append 4 = .ok (.bipush 126, 2) := by decide +kernel
theorem dX5_append_6 : decode cX5_append 6 = .ok (.invokestatic 47, 3) := by decide +kernel
theorem dX5_append_9 : decode cX5_append 9 = .ok (.ifCond .ne 7, 3) := by decide +kernel
theorem dX5_append_12 : decode cX5_append 12 = .ok (.iconst 1, 1) := by decide +kernel
theorem dX5_append_13 : decode cX5_append 13 = .ok (.goto 17, 3) := by decide +kernel
theorem dX5_append_16 : decode cX5_append 16 = .ok (.aload_n 0, 1) := by decide +kernel
theorem dX5_append_17 : decode cX5_append 17 = .ok (.getfield 85, 3) := by decide +kernel
theorem dX5_append_20 : decode cX5_append 20 = .ok (.bipush 60, 2) := by decide +kernel
theorem dX5_append_22 : decode cX5_append 22 = .ok (.if_icmp .ne 7, 3) := by decide +kernel
theorem dX5_append_25 : decode cX5_append 25 = .ok (.iconst 2, 1) := by decide +kernel
theorem dX5_append_26 : decode cX5_append 26 = .ok (.goto 4, 3) := by decide +kernel
theorem dX5_append_29 : decode cX5_append 29 = .ok (.iconst 0, 1) := by decide +kernel
theorem dX5_append_30 : decode cX5_append 30 = .ok (.putfield 40, 3) := by decide +kernel
theorem dX5_append_33 : decode cX5_append 33 = .ok (.aload_n 0, 1) := by decide +kernel
theorem dX5_append_34 : decode cX5_append 34 = .ok (.getfield 40, 3) := by decide +kernel
theorem dX5_append_37 : decode cX5_append 37 = .ok (.ifCond .le 5, 3) := by decide +kernel
theorem dX5_append_40 : decode cX5_append 40 = .ok (.iconst 0, 1) := by decide +kernel
theorem dX5_append_41 : decode cX5_append 41 = .ok (.ireturn, 1) := by decide +kernel
theorem dX5_append_42 : decode cX5_append 42 = .ok (.aload_n 0, 1) := by decide +kernel
theorem dX5_append_43 : decode cX5_append 43 = .ok (.getfield 16, 3) := by decide +kernel
theorem dX5_append_46 : decode cX5_append 46 = .ok (.aload_n 0, 1) := by decide +kernel
theorem dX5_append_47 : decode cX5_append 47 = .ok (.getfield 85, 3) := by decide +kernel
theorem dX5_append_50 : decode cX5_append 50 = .ok (.iload_n 1, 1) := by decide +kernel
theorem dX5_append_51 : decode cX5_append 51 = .ok (.iastore, 1) := by decide +kernel
theorem dX5_append_52 : decode cX5_append 52 = .ok (.aload_n 0, 1) := by decide +kernel
theorem dX5_append_53 : decode cX5_append 53 = .ok (.dup, 1) := by decide +kernel
theorem dX5_append_54 : decode cX5_append 54 = .ok (.getfield 85, 3) := by decide +kernel
theorem dX5_append_57 : decode cX5_append 57 = .ok (.iconst 1, 1) := by decide +kernel
theorem dX5_append_58 : decode cX5_append 58 = .ok (.iadd, 1) := by decide +kernel
theorem dX5_append_59 : decode cX5_append 59 = .ok (.putfield 85, 3) := by decide +kernel
theorem dX5_append_62 : decode cX5_append 62 = .ok (.aload_n 0, 1) := by decide +kernel
theorem dX5_append_63 : decode cX5_append 63 = .ok (.getfield 85, 3) := by decide +kernel
theorem dX5_append_66 : decode cX5_append 66 = .ok (.ireturn, 1) := by decide +kernel
theorem dX5_clearBuffer_0 : decode cX5_clearBuffer 0 = .ok (.aload_n 0, 1) := by decide +kernel
theorem dX5_clearBuffer_1 : decode cX5_clearBuffer 1 = .ok (.iconst 0, 1) := by decide +kernel
theorem dX5_clearBuffer_2 : decode cX5_clearBuffer 2 = .ok (.putfield 40, 3) := by decide +kernel
theorem dX5_clearBuffer_5 : decode cX5_clearBuffer 5 = .ok (.aload_n 0, 1) := by decide +kernel
theorem dX5_clearBuffer_6 : decode cX5_clearBuffer 6 = .ok (.getfield 85, 3) := by decide +kernel
theorem dX5_clearBuffer_9 : decode cX5_clearBuffer 9 = .ok (.istore_n 1, 1) := by decide +kernel
theorem dX5_clearBuffer_10 : decode cX5_clearBuffer 10 = .ok (.aload_n 0, 1) := by decide +kernel
theorem dX5_clearBuffer_11 : decode cX5_clearBuffer 11 = .ok (.iconst 0, 1) := by decide +kernel
theorem dX5_clearBuffer_12 : decode cX5_clearBuffer 12 = .ok (.putfield 85, 3) := by decide +kernel
theorem dX5_clearBuffer_15 : decode cX5_clearBuffer 15 = .ok (.iload_n 1, 1) := by decide +kernel
theorem dX5_clearBuffer_16 : decode cX5_clearBuffer 16 = .ok (.ireturn, 1) := by decide +kernel
theorem dX5_takesDigit_0 : decode cX5_takesDigit 0 = .ok (.bipush 10, 2) := by decide +kernel
theorem dX5_takesDigit_2 : decode cX5_takesDigit 2 = .ok (.aload_n 0, 1) := by decide +kernel
theorem dX5_takesDigit_3 : decode cX5_takesDigit 3 = .ok (.getfield 149, 3) := by decide +kernel
theorem dX5_takesDigit_6 : decode cX5_takesDigit 6 = .ok (.imul, 1) := by decide +kernel
theorem dX5_takesDigit_7 : decode cX5_takesDigit 7 = .ok (.iload_n 1, 1) := by decide +kernel
theorem dX5_takesDigit_8 : decode cX5_takesDigit 8 = .ok (.iadd, 1) := by decide +kernel
theorem dX5_takesDigit_9 : decode cX5_takesDigit 9 = .ok (.istore_n 2, 1) := by decide +kernel
theorem dX5_takesDigit_10 : decode cX5_takesDigit 10 = .ok (.iload_n 2, 1) := by decide +kernel
theorem dX5_takesDigit_11 : decode cX5_takesDigit 11 = .ok (.iconst 1, 1) := by decide +kernel
theorem dX5_takesDigit_12 : decode cX5_takesDigit 12 = .ok (.bipush 60, 2) := by decide +kernel
theorem dX5_takesDigit_14 : decode cX5_takesDigit 14 = .ok (.invokestatic 47, 3) := by decide +kernel
theorem dX5_takesDigit_17 : decode cX5_takesDigit 17 = .ok (.istore_n 3, 1) := by decide +kernel
theorem dX5_takesDigit_18 : decode cX5_takesDigit 18 = .ok (.aload_n 0, 1) := by decide +kernel
theorem dX5_takesDigit_19 : decode cX5_takesDigit 19 = .ok (.iload_n 3, 1) := by decide +kernel
theorem dX5_takesDigit_20 : decode cX5_takesDigit 20 = .ok (.ifCond .eq 7, 3) := by decide +kernel
theorem dX5_takesDigit_23 : decode cX5_takesDigit 23 = .ok (.iload_n 2, 1) := by decide +kernel
theorem dX5_takesDigit_24 : decode cX5_takesDigit 24 = .ok (.goto 7, 3) := by decide +kernel
theorem dX5_takesDigit_27 : decode cX5_takesDigit 27 = .ok (.aload_n 0, 1) := by decide +kernel
theorem dX5_takesDigit_28 : decode cX5_takesDigit 28 = .ok (.getfield 149, 3) := by decide +kernel
theorem dX5_takesDigit_31 : decode cX5_takesDigit 31 = .ok (.putfield 149, 3) := by decide +kernel
theorem dX5_takesDigit_34 : decode cX5_takesDigit 34 = .ok (.iload_n 3, 1) := by decide +kernel
theorem dX5_takesDigit_35 : decode cX5_takesDigit 35 = .ok (.ireturn, 1) := by decide +kernel
theorem dX5_takesColour_0 : decode cX5_takesColour 0 = .ok (.iload_n 1, 1) := by decide +kernel
theorem dX5_takesColour_1 : decode cX5_takesColour 1 = .ok (.invokestatic 108, 3) := by decide +kernel
theorem dX5_takesColour_4 : decode cX5_takesColour 4 = .ok (.ifCond .eq 15, 3) := by decide +kernel
theorem dX5_takesColour_7 : decode cX5_takesColour 7 = .ok (.aload_n 0, 1) := by decide +kernel
theorem dX5_takesColour_8 : decode cX5_takesColour 8 = .ok (.getfield 149, 3) := by decide +kernel
theorem dX5_takesColour_11 : decode cX5_takesColour 11 = .ok (.iconst 1, 1) := by decide +kernel
theorem dX5_takesColour_12 : decode cX5_takesColour 12 = .ok (.if_icmp .eq 7, 3) := by decide +kernel
theorem dX5_takesColour_15 : decode cX5_takesColour 15 = .ok (.iconst 1, 1) := by decide +kernel
theorem dX5_takesColour_16 : decode cX5_takesColour 16 = .ok (.goto 4, 3) := by decide +kernel
theorem dX5_takesColour_19 : decode cX5_takesColour 19 = .ok (.iconst 0, 1) := by decide +kernel
theorem dX5_takesColour_20 : decode cX5_takesColour 20 = .ok (.istore_n 2, 1) := by decide +kernel
theorem dX5_takesColour_21 : decode cX5_takesColour 21 = .ok (.iload_n 2, 1) := by decide +kernel
theorem dX5_takesColour_22 : decode cX5_takesColour 22 = .ok (.ifCond .eq 70, 3) := by decide +kernel
theorem dX5_takesColour_25 : decode cX5_takesColour 25 = .ok (.aload_n 0, 1) := by decide +kernel
theorem dX5_takesColour_26 : decode cX5_takesColour 26 = .ok (.getfield 25, 3) := by decide +kernel
theorem dX5_takesColour_29 : decode cX5_takesColour 29 = .ok (.aload_n 0, 1) := by decide +kernel
theorem dX5_takesColour_30 : decode cX5_takesColour 30 = .ok (.getfield 134, 3) := by decide +kernel
theorem dX5_takesColour_33 : decode cX5_takesColour 33 = .ok (.aload_n 0, 1) := by decide +kernel
theorem dX5_takesColour_34 : decode cX5_takesColour 34 = .ok (.getfield 152, 3) := by decide +kernel
theorem dX5_takesColour_37 : decode cX5_takesColour 37 = .ok (.iastore, 1) := by decide +kernel
theorem dX5_takesColour_38 : decode cX5_takesColour 38 = .ok (.aload_n 0, 1) := by decide +kernel
theorem dX5_takesColour_39 : decode cX5_takesColour 39 = .ok (.getfield 28, 3) := by decide +kernel
theorem dX5_takesColour_42 : decode cX5_takesColour 42 = .ok (.aload_n 0, 1) := by decide +kernel
theorem dX5_takesColour_43 : decode cX5_takesColour 43 = .ok (.getfield 134, 3) := by decide +kernel
theorem dX5_takesColour_46 : decode cX5_takesColour 46 = .ok (.iload_n 1, 1) := by decide +kernel
theorem dX5_takesColour_47 : decode cX5_takesColour 47 = .ok (.iastore, 1) := by decide +kernel
theorem dX5_takesColour_48 : decode cX5_takesColour 48 = .ok (.aload_n 0, 1) := by decide +kernel
theorem dX5_takesColour_49 : decode cX5_takesColour 49 = .ok (.getfield 31, 3) := by decide +kernel
theorem dX5_takesColour_52 : decode cX5_takesColour 52 = .ok (.aload_n 0, 1) := by decide +kernel
theorem dX5_takesColour_53 : decode cX5_takesColour 53 = .ok (.getfield 134, 3) := by decide +kernel
theorem dX5_takesColour_56 : decode cX5_takesColour 56 = .ok (.aload_n 0, 1) := by decide +kernel
theorem dX5_takesColour_57 : decode cX5_takesColour 57 = .ok (.getfield 149, 3) := by decide +kernel
theorem dX5_takesColour_60 : decode cX5_takesColour 60 = .ok (.ifCond .ne 7, 3) := by decide +kernel
theorem dX5_takesColour_63 : decode cX5_takesColour 63 = .ok (.iconst 1, 1) := by decide +kernel
theorem dX5_takesColour_64 : decode cX5_takesColour 64 = .ok (.goto 7, 3) := by decide +kernel
theorem dX5_takesColour_67 : decode cX5_takesColour 67 = .ok (.aload_n 0, 1) := by decide +kernel
theorem dX5_takesColour_68 : decode cX5_takesColour 68 = .ok (.getfield 149, 3) := by decide +kernel
theorem dX5_takesColour_71 : decode cX5_takesColour 71 = .ok (.iastore, 1) := by decide +kernel
theorem dX5_takesColour_72 : decode cX5_takesColour 72 = .ok (.aload_n 0, 1) := by decide +kernel
theorem dX5_takesColour_73 : decode cX5_takesColour 73 = .ok (.dup, 1) := by decide +kernel
theorem dX5_takesColour_74 : decode cX5_takesColour 74 = .ok (.getfield 134, 3) := by decide +kernel
theorem dX5_takesColour_77 : decode cX5_takesColour 77 = .ok (.iconst 1, 1) := by decide +kernel
theorem dX5_takesColour_78 : decode cX5_takesColour 78 = .ok (.iadd, 1) := by decide +kernel
theorem dX5_takesColour_79 : decode cX5_takesColour 79 = .ok (.putfield 134, 3) := by decide +kernel
theorem dX5_takesColour_82 : decode cX5_takesColour 82 = .ok (.aload_n 0, 1) := by decide +kernel
theorem dX5_takesColour_83 : decode cX5_takesColour 83 = .ok (.iconst 0, 1) := by decide +kernel
theorem dX5_takesColour_84 : decode cX5_takesColour 84 = .ok (.putfield 149, 3) := by decide +kernel
theorem dX5_takesColour_87 : decode cX5_takesColour 87 = .ok (.aload_n 0, 1) := by decide +kernel
theorem dX5_takesColour_88 : decode cX5_takesColour 88 = .ok (.iconst 1, 1) := by decide +kernel
theorem dX5_takesColour_89 : decode cX5_takesColour 89 = .ok (.putfield 155, 3) := by decide +kernel
theorem dX5_takesColour_92 : decode cX5_takesColour 92 = .ok (.iload_n 2, 1) := by decide +kernel
theorem dX5_takesColour_93 : decode cX5_takesColour 93 = .ok (.ireturn, 1) := by decide +kernel
theorem dX5_takes_0 : decode cX5_takes 0 = .ok (.iload_n 1, 1) := by decide +kernel
theorem dX5_takes_1 : decode cX5_takes 1 = .ok (.bipush 47, 2) := by decide +kernel
theorem dX5_takes_3 : decode cX5_takes 3 = .ok (.if_icmp .ne 60, 3) := by decide +kernel
theorem dX5_takes_6 : decode cX5_takes 6 = .ok (.iload_n 2, 1) := by decide +kernel
theorem dX5_takes_7 : decode cX5_takes 7 = .ok (.ifCond .eq 14, 3) := by decide +kernel
theorem dX5_takes_10 : decode cX5_takes 10 = .ok (.aload_n 0, 1) := by decide +kernel
theorem dX5_takes_11 : decode cX5_takes 11 = .ok (.invokevirtual 88, 3) := by decide +kernel
theorem dX5_takes_14 : decode cX5_takes 14 = .ok (.ifCond .eq 7, 3) := by decide +kernel
theorem dX5_takes_17 : decode cX5_takes 17 = .ok (.iconst 1, 1) := by decide +kernel
theorem dX5_takes_18 : decode cX5_takes 18 = .ok (.goto 4, 3) := by decide +kernel
theorem dX5_takes_21 : decode cX5_takes 21 = .ok (.iconst 0, 1) := by decide +kernel
theorem dX5_takes_22 : decode cX5_takes 22 = .ok (.istore_n 3, 1) := by decide +kernel
theorem dX5_takes_23 : decode cX5_takes 23 = .ok (.aload_n 0, 1) := by decide +kernel
theorem dX5_takes_24 : decode cX5_takes 24 = .ok (.dup, 1) := by decide +kernel
theorem dX5_takes_25 : decode cX5_takes 25 = .ok (.getfield 152, 3) := by decide +kernel
theorem dX5_takes_28 : decode cX5_takes 28 = .ok (.iload_n 3, 1) := by decide +kernel
theorem dX5_takes_29 : decode cX5_takes 29 = .ok (.ifCond .eq 7, 3) := by decide +kernel
theorem dX5_takes_32 : decode cX5_takes 32 = .ok (.iconst 1, 1) := by decide +kernel
theorem dX5_takes_33 : decode cX5_takes 33 = .ok (.goto 4, 3) := by decide +kernel
theorem dX5_takes_36 : decode cX5_takes 36 = .ok (.iconst 0, 1) := by decide +kernel
theorem dX5_takes_37 : decode cX5_takes 37 = .ok (.iadd, 1) := by decide +kernel
theorem dX5_takes_38 : decode cX5_takes 38 = .ok (.putfield 152, 3) := by decide +kernel
theorem dX5_takes_41 : decode cX5_takes 41 = .ok (.aload_n 0, 1) := by decide +kernel
theorem dX5_takes_42 : decode cX5_takes 42 = .ok (.aload_n 0, 1) := by decide +kernel
theorem dX5_takes_43 : decode cX5_takes 43 = .ok (.getfield 155, 3) := by decide +kernel
theorem dX5_takes_46 : decode cX5_takes 46 = .ok (.ifCond .eq 11, 3) := by decide +kernel
theorem dX5_takes_49 : decode cX5_takes 49 = .ok (.iload_n 3, 1) := by decide +kernel
theorem dX5_takes_50 : decode cX5_takes 50 = .ok (.ifCond .ne 7, 3) := by decide +kernel
theorem dX5_takes_53 : decode cX5_takes 53 = .ok (.iconst 1, 1) := by decide +kernel
theorem dX5_takes_54 : decode cX5_takes 54 = .ok (.goto 4, 3) := by decide +kernel
theorem dX5_takes_57 : decode cX5_takes 57 = .ok (.iconst 0, 1) := by decide +kernel
theorem dX5_takes_58 : decode cX5_takes 58 = .ok (.putfield 155, 3) := by decide +kernel
theorem dX5_takes_61 : decode cX5_takes 61 = .ok (.iload_n 3, 1) := by decide +kernel
theorem dX5_takes_62 : decode cX5_takes 62 = .ok (.ireturn, 1) := by decide +kernel
theorem dX5_takes_63 : decode cX5_takes 63 = .ok (.iload_n 1, 1) := by decide +kernel
theorem dX5_takes_64 : decode cX5_takes 64 = .ok (.bipush 48, 2) := by decide +kernel
theorem dX5_takes_66 : decode cX5_takes 66 = .ok (.bipush 57, 2) := by decide +kernel
theorem dX5_takes_68 : decode cX5_takes 68 = .ok (.invokestatic 47, 3) := by decide +kernel
theorem dX5_takes_71 : decode cX5_takes 71 = .ok (.ifCond .eq 14, 3) := by decide +kernel
theorem dX5_takes_74 : decode cX5_takes 74 = .ok (.aload_n 0, 1) := by decide +kernel
theorem dX5_takes_75 : decode cX5_takes 75 = .ok (.iload_n 1, 1) := by decide +kernel
theorem dX5_takes_76 : decode cX5_takes 76 = .ok (.bipush 48, 2) := by decide +kernel
theorem dX5_takes_78 : decode cX5_takes 78 = .ok (.isub, 1) := by decide +kernel
theorem dX5_takes_79 : decode cX5_takes 79 = .ok (.invokevirtual 159, 3) := by decide +kernel
theorem dX5_takes_82 : decode cX5_takes 82 = .ok (.goto 11, 3) := by decide +kernel
theorem dX5_takes_85 : decode cX5_takes 85 = .ok (.aload_n 0, 1) := by decide +kernel
theorem dX5_takes_86 : decode cX5_takes 86 = .ok (.iload_n 1, 1) := by decide +kernel
theorem dX5_takes_87 : decode cX5_takes 87 = .ok (.bipush 97, 2) := by decide +kernel
theorem dX5_takes_89 : decode cX5_takes 89 = .ok (.isub, 1) := by decide +kernel
theorem dX5_takes_90 : decode cX5_takes 90 = .ok (.invokevirtual 162, 3) := by decide +kernel
theorem dX5_takes_93 : decode cX5_takes 93 = .ok (.ireturn, 1) := by decide +kernel
theorem dX5_isWhole_0 : decode cX5_isWhole 0 = .ok (.aload_n 0, 1) := by decide +kernel
theorem dX5_isWhole_1 : decode cX5_isWhole 1 = .ok (.getfield 155, 3) := by decide +kernel
theorem dX5_isWhole_4 : decode cX5_isWhole 4 = .ok (.ifCond .eq 14, 3) := by decide +kernel
theorem dX5_isWhole_7 : decode cX5_isWhole 7 = .ok (.aload_n 0, 1) := by decide +kernel
theorem dX5_isWhole_8 : decode cX5_isWhole 8 = .ok (.getfield 149, 3) := by decide +kernel
theorem dX5_isWhole_11 : decode cX5_isWhole 11 = .ok (.ifCond .ne 7, 3) := by decide +kernel
theorem dX5_isWhole_14 : decode cX5_isWhole 14 = .ok (.iconst 1, 1) := by decide +kernel
theorem dX5_isWhole_15 : decode cX5_isWhole 15 = .ok (.goto 4, 3) := by decide +kernel
theorem dX5_isWhole_18 : decode cX5_isWhole 18 = .ok (.iconst 0, 1) := by decide +kernel
theorem dX5_isWhole_19 : decode cX5_isWhole 19 = .ok (.ireturn, 1) := by decide +kernel
theorem dX5_rightUpTo_0 : decode cX5_rightUpTo 0 = .ok (.aload_n 0, 1) := by decide +kernel
theorem dX5_rightUpTo_1 : decode cX5_rightUpTo 1 = .ok (.iconst 0, 1) := by decide +kernel
theorem dX5_rightUpTo_2 : decode cX5_rightUpTo 2 = .ok (.putfield 134, 3) := by decide +kernel
theorem dX5_rightUpTo_5 : decode cX5_rightUpTo 5 = .ok (.aload_n 0, 1) := by decide +kernel
theorem dX5_rightUpTo_6 : decode cX5_rightUpTo 6 = .ok (.iconst 0, 1) := by decide +kernel
theorem dX5_rightUpTo_7 : decode cX5_rightUpTo 7 = .ok (.putfield 152, 3) := by decide +kernel
theorem dX5_rightUpTo_10 : decode cX5_rightUpTo 10 = .ok (.aload_n 0, 1) := by decide +kernel
theorem dX5_rightUpTo_11 : decode cX5_rightUpTo 11 = .ok (.iconst 0, 1) := by decide +kernel
theorem dX5_rightUpTo_12 : decode cX5_rightUpTo 12 = .ok (.putfield 155, 3) := by decide +kernel
theorem dX5_rightUpTo_15 : decode cX5_rightUpTo 15 = .ok (.aload_n 0, 1) := by decide +kernel
theorem dX5_rightUpTo_16 : decode cX5_rightUpTo 16 = .ok (.iconst 0, 1) := by decide +kernel
theorem dX5_rightUpTo_17 : decode cX5_rightUpTo 17 = .ok (.putfield 149, 3) := by decide +kernel
theorem dX5_rightUpTo_20 : decode cX5_rightUpTo 20 = .ok (.iconst 0, 1) := by decide +kernel
theorem dX5_rightUpTo_21 : decode cX5_rightUpTo 21 = .ok (.istore_n 2, 1) := by decide +kernel
theorem dX5_rightUpTo_22 : decode cX5_rightUpTo 22 = .ok (.iload_n 2, 1) := by decide +kernel
theorem dX5_rightUpTo_23 : decode cX5_rightUpTo 23 = .ok (.aload_n 0, 1) := by decide +kernel
theorem dX5_rightUpTo_24 : decode cX5_rightUpTo 24 = .ok (.getfield 85, 3) := by decide +kernel
theorem dX5_rightUpTo_27 : decode cX5_rightUpTo 27 = .ok (.if_icmp .ge 23, 3) := by decide +kernel
theorem dX5_rightUpTo_30 : decode cX5_rightUpTo 30 = .ok (.aload_n 0, 1) := by decide +kernel
theorem dX5_rightUpTo_31 : decode cX5_rightUpTo 31 = .ok (.aload_n 0, 1) := by decide +kernel
theorem dX5_rightUpTo_32 : decode cX5_rightUpTo 32 = .ok (.getfield 16, 3) := by decide +kernel
theorem dX5_rightUpTo_35 : decode cX5_rightUpTo 35 = .ok (.iload_n 2, 1) := by decide +kernel
theorem dX5_rightUpTo_36 : decode cX5_rightUpTo 36 = .ok (.iaload, 1) := by decide +kernel
theorem dX5_rightUpTo_37 : decode cX5_rightUpTo 37 = .ok (.iload_n 1, 1) := by decide +kernel
theorem dX5_rightUpTo_38 : decode cX5_rightUpTo 38 = .ok (.invokevirtual 165, 3) := by decide +kernel
theorem dX5_rightUpTo_41 : decode cX5_rightUpTo 41 = .ok (.ifCond .eq 9, 3) := by decide +kernel
theorem dX5_rightUpTo_44 : decode cX5_rightUpTo 44 = .ok (.iinc 2 1, 3) := by decide +kernel
theorem dX5_rightUpTo_47 : decode cX5_rightUpTo 47 = .ok (.goto (-25), 3) := by decide +kernel
theorem dX5_rightUpTo_50 : decode cX5_rightUpTo 50 = .ok (.iload_n 2, 1) := by decide +kernel
theorem dX5_rightUpTo_51 : decode cX5_rightUpTo 51 = .ok (.ireturn, 1) := by decide +kernel
theorem dX5_cellsIn_0 : decode cX5_cellsIn 0 = .ok (.iconst 0, 1) := by decide +kernel
theorem dX5_cellsIn_1 : decode cX5_cellsIn 1 = .ok (.istore_n 2, 1) := by decide +kernel
theorem dX5_cellsIn_2 : decode cX5_cellsIn 2 = .ok (.iconst 0, 1) := by decide +kernel
theorem dX5_cellsIn_3 : decode cX5_cellsIn 3 = .ok (.istore_n 3, 1) := by decide +kernel
theorem dX5_cellsIn_4 : decode cX5_cellsIn 4 = .ok (.iload_n 3, 1) := by decide +kernel
theorem dX5_cellsIn_5 : decode cX5_cellsIn 5 = .ok (.aload_n 0, 1) := by decide +kernel
theorem dX5_cellsIn_6 : decode cX5_cellsIn 6 = .ok (.getfield 134, 3) := by decide +kernel
theorem dX5_cellsIn_9 : decode cX5_cellsIn 9 = .ok (.if_icmp .ge 32, 3) := by decide +kernel
theorem dX5_cellsIn_12 : decode cX5_cellsIn 12 = .ok (.iload_n 2, 1) := by decide +kernel
theorem dX5_cellsIn_13 : decode cX5_cellsIn 13 = .ok (.aload_n 0, 1) := by decide +kernel
theorem dX5_cellsIn_14 : decode cX5_cellsIn 14 = .ok (.getfield 25, 3) := by decide +kernel
theorem dX5_cellsIn_17 : decode cX5_cellsIn 17 = .ok (.iload_n 3, 1) := by decide +kernel
theorem dX5_cellsIn_18 : decode cX5_cellsIn 18 = .ok (.iaload, 1) := by decide +kernel
theorem dX5_cellsIn_19 : decode cX5_cellsIn 19 = .ok (.iload_n 1, 1) := by decide +kernel
theorem dX5_cellsIn_20 : decode cX5_cellsIn 20 = .ok (.if_icmp .ne 12, 3) := by decide +kernel
theorem dX5_cellsIn_23 : decode cX5_cellsIn 23 = .ok (.aload_n 0, 1) := by decide +kernel
theorem dX5_cellsIn_24 : decode cX5_cellsIn 24 = .ok (.getfield 31, 3) := by decide +kernel
theorem dX5_cellsIn_27 : decode cX5_cellsIn 27 = .ok (.iload_n 3, 1) := by decide +kernel
theorem dX5_cellsIn_28 : decode cX5_cellsIn 28 = .ok (.iaload, 1) := by decide +kernel
theorem dX5_cellsIn_29 : decode cX5_cellsIn 29 = .ok (.goto 4, 3) := by decide +kernel
theorem dX5_cellsIn_32 : decode cX5_cellsIn 32 = .ok (.iconst 0, 1) := by decide +kernel
theorem dX5_cellsIn_33 : decode cX5_cellsIn 33 = .ok (.iadd, 1) := by decide +kernel
theorem dX5_cellsIn_34 : decode cX5_cellsIn 34 = .ok (.istore_n 2, 1) := by decide +kernel
theorem dX5_cellsIn_35 : decode cX5_cellsIn 35 = .ok (.iinc 3 1, 3) := by decide +kernel
theorem dX5_cellsIn_38 : decode cX5_cellsIn 38 = .ok (.goto (-34), 3) := by decide +kernel
theorem dX5_cellsIn_41 : decode cX5_cellsIn 41 = .ok (.iload_n 2, 1) := by decide +kernel
theorem dX5_cellsIn_42 : decode cX5_cellsIn 42 = .ok (.ireturn, 1) := by decide +kernel
theorem dX5_layChart_0 : decode cX5_layChart 0 = .ok (.aload_n 0, 1) := by decide +kernel
theorem dX5_layChart_1 : decode cX5_layChart 1 = .ok (.aload_n 0, 1) := by decide +kernel
theorem dX5_layChart_2 : decode cX5_layChart 2 = .ok (.getfield 152, 3) := by decide +kernel
theorem dX5_layChart_5 : decode cX5_layChart 5 = .ok (.iconst 1, 1) := by decide +kernel
theorem dX5_layChart_6 : decode cX5_layChart 6 = .ok (.iadd, 1) := by decide +kernel
theorem dX5_layChart_7 : decode cX5_layChart 7 = .ok (.putfield 75, 3) := by decide +kernel
theorem dX5_layChart_10 : decode cX5_layChart 10 = .ok (.aload_n 0, 1) := by decide +kernel
theorem dX5_layChart_11 : decode cX5_layChart 11 = .ok (.aload_n 0, 1) := by decide +kernel
theorem dX5_layChart_12 : decode cX5_layChart 12 = .ok (.iconst 0, 1) := by decide +kernel
theorem dX5_layChart_13 : decode cX5_layChart 13 = .ok (.invokevirtual 169, 3) := by decide +kernel
theorem dX5_layChart_16 : decode cX5_layChart 16 = .ok (.putfield 78, 3) := by decide +kernel
theorem dX5_layChart_19 : decode cX5_layChart 19 = .ok (.aload_n 0, 1) := by decide +kernel
theorem dX5_layChart_20 : decode cX5_layChart 20 = .ok (.getfield 75, 3) := by decide +kernel
theorem dX5_layChart_23 : decode cX5_layChart 23 = .ok (.bipush 10, 2) := by decide +kernel
theorem dX5_layChart_25 : decode cX5_layChart 25 = .ok (.if_icmp .gt 16, 3) := by decide +kernel
theorem dX5_layChart_28 : decode cX5_layChart 28 = .ok (.aload_n 0, 1) := by decide +kernel
theorem dX5_layChart_29 : decode cX5_layChart 29 = .ok (.getfield 78, 3) := by decide +kernel
theorem dX5_layChart_32 : decode cX5_layChart 32 = .ok (.bipush 12, 2) := by decide +kernel
theorem dX5_layChart_34 : decode cX5_layChart 34 = .ok (.if_icmp .gt 7, 3) := by decide +kernel
theorem dX5_layChart_37 : decode cX5_layChart 37 = .ok (.iconst 1, 1) := by decide +kernel
theorem dX5_layChart_38 : decode cX5_layChart 38 = .ok (.goto 4, 3) := by decide +kernel
theorem dX5_layChart_41 : decode cX5_layChart 41 = .ok (.iconst 0, 1) := by decide +kernel
theorem dX5_layChart_42 : decode cX5_layChart 42 = .ok (.istore_n 1, 1) := by decide +kernel
theorem dX5_layChart_43 : decode cX5_layChart 43 = .ok (.iconst 1, 1) := by decide +kernel
theorem dX5_layChart_44 : decode cX5_layChart 44 = .ok (.istore_n 2, 1) := by decide +kernel
theorem dX5_layChart_45 : decode cX5_layChart 45 = .ok (.iload_n 2, 1) := by decide +kernel
theorem dX5_layChart_46 : decode cX5_layChart 46 = .ok (.aload_n 0, 1) := by decide +kernel
theorem dX5_layChart_47 : decode cX5_layChart 47 = .ok (.getfield 75, 3) := by decide +kernel
theorem dX5_layChart_50 : decode cX5_layChart 50 = .ok (.if_icmp .ge 31, 3) := by decide +kernel
theorem dX5_layChart_53 : decode cX5_layChart 53 = .ok (.iload_n 1, 1) := by decide +kernel
theorem dX5_layChart_54 : decode cX5_layChart 54 = .ok (.ifCond .eq 27, 3) := by decide +kernel
theorem dX5_layChart_57 : decode cX5_layChart 57 = .ok (.aload_n 0, 1) := by decide +kernel
theorem dX5_layChart_58 : decode cX5_layChart 58 = .ok (.iload_n 2, 1) := by decide +kernel
theorem dX5_layChart_59 : decode cX5_layChart 59 = .ok (.invokevirtual 169, 3) := by decide +kernel
theorem dX5_layChart_62 : decode cX5_layChart 62 = .ok (.aload_n 0, 1) := by decide +kernel
theorem dX5_layChart_63 : decode cX5_layChart 63 = .ok (.getfield 78, 3) := by decide +kernel
theorem dX5_layChart_66 : decode cX5_layChart 66 = .ok (.if_icmp .ne 7, 3) := by decide +kernel
theorem dX5_layChart_69 : decode cX5_layChart 69 = .ok (.iconst 1, 1) := by decide +kernel
theorem dX5_layChart_70 : decode cX5_layChart 70 = .ok (.goto 4, 3) := by decide +kernel
theorem dX5_layChart_73 : decode cX5_layChart 73 = .ok (.iconst 0, 1) := by decide +kernel
theorem dX5_layChart_74 : decode cX5_layChart 74 = .ok (.istore_n 1, 1) := by decide +kernel
theorem dX5_layChart_75 : decode cX5_layChart 75 = .ok (.iinc 2 1, 3) := by decide +kernel
theorem dX5_layChart_78 : decode cX5_layChart 78 = .ok (.goto (-33), 3) := by decide +kernel
theorem dX5_layChart_81 : decode cX5_layChart 81 = .ok (.iconst 0, 1) := by decide +kernel
theorem dX5_layChart_82 : decode cX5_layChart 82 = .ok (.istore_n 2, 1) := by decide +kernel
theorem dX5_layChart_83 : decode cX5_layChart 83 = .ok (.iconst 0, 1) := by decide +kernel
theorem dX5_layChart_84 : decode cX5_layChart 84 = .ok (.istore_n 3, 1) := by decide +kernel
theorem dX5_layChart_85 : decode cX5_layChart 85 = .ok (.iload_n 3, 1) := by decide +kernel
theorem dX5_layChart_86 : decode cX5_layChart 86 = .ok (.aload_n 0, 1) := by decide +kernel
theorem dX5_layChart_87 : decode cX5_layChart 87 = .ok (.getfield 134, 3) := by decide +kernel
theorem dX5_layChart_90 : decode cX5_layChart 90 = .ok (.if_icmp .ge 85, 3) := by decide +kernel
theorem dX5_layChart_93 : decode cX5_layChart 93 = .ok (.iload_n 1, 1) := by decide +kernel
theorem dX5_layChart_94 : decode cX5_layChart 94 = .ok (.ifCond .eq 81, 3) := by decide +kernel
theorem dX5_layChart_97 : decode cX5_layChart 97 = .ok (.iload_n 3, 1) := by decide +kernel
theorem dX5_layChart_98 : decode cX5_layChart 98 = .ok (.ifCond .le 24, 3) := by decide +kernel
theorem dX5_layChart_101 : decode cX5_layChart 101 = .ok (.aload_n 0, 1) := by decide +kernel
theorem dX5_layChart_102 : decode cX5_layChart 102 = .ok (.getfield 25, 3) := by decide +kernel
theorem dX5_layChart_105 : decode cX5_layChart 105 = .ok (.iload_n 3, 1) := by decide +kernel
theorem dX5_layChart_106 : decode cX5_layChart 106 = .ok (.iaload, 1) := by decide +kernel
theorem dX5_layChart_107 : decode cX5_layChart 107 = .ok (.aload_n 0, 1) := by decide +kernel
theorem dX5_layChart_108 : decode cX5_layChart 108 = .ok (.getfield 25, 3) := by decide +kernel
theorem dX5_layChart_111 : decode cX5_layChart 111 = .ok (.iload_n 3, 1) := by decide +kernel
theorem dX5_layChart_112 : decode cX5_layChart 112 = .ok (.iconst 1, 1) := by decide +kernel
theorem dX5_layChart_113 : decode cX5_layChart 113 = .ok (.isub, 1) := by decide +kernel
theorem dX5_layChart_114 : decode cX5_layChart 114 = .ok (.iaload, 1) := by decide +kernel
theorem dX5_layChart_115 : decode cX5_layChart 115 = .ok (.if_icmp .eq 7, 3) := by decide +kernel
theorem dX5_layChart_118 : decode cX5_layChart 118 = .ok (.iconst 0, 1) := by decide +kernel
theorem dX5_layChart_119 : decode cX5_layChart 119 = .ok (.goto 4, 3) := by decide +kernel
theorem dX5_layChart_122 : decode cX5_layChart 122 = .ok (.iload_n 2, 1) := by decide +kernel
theorem dX5_layChart_123 : decode cX5_layChart 123 = .ok (.istore_n 2, 1) := by decide +kernel
theorem dX5_layChart_124 : decode cX5_layChart 124 = .ok (.iconst 0, 1) := by decide +kernel
theorem dX5_layChart_125 : decode cX5_layChart 125 = .ok (.istore 4, 2) := by decide +kernel
theorem dX5_layChart_127 : decode cX5_layChart 127 = .ok (.iload 4, 2) := by decide +kernel
theorem dX5_layChart_129 : decode cX5_layChart 129 = .ok (.aload_n 0, 1) := by decide +kernel
theorem dX5_layChart_130 : decode cX5_layChart 130 = .ok (.getfield 31, 3) := by decide +kernel
theorem dX5_layChart_133 : decode cX5_layChart 133 = .ok (.iload_n 3, 1) := by decide +kernel
theorem dX5_layChart_134 : decode cX5_layChart 134 = .ok (.iaload, 1) := by decide +kernel
theorem dX5_layChart_135 : decode cX5_layChart 135 = .ok (.if_icmp .ge 34, 3) := by decide +kernel
theorem dX5_layChart_138 : decode cX5_layChart 138 = .ok (.aload_n 0, 1) := by decide +kernel
theorem dX5_layChart_139 : decode cX5_layChart 139 = .ok (.getfield 19, 3) := by decide +kernel
theorem dX5_layChart_142 : decode cX5_layChart 142 = .ok (.bipush 12, 2) := by decide +kernel
theorem dX5_layChart_144 : decode cX5_layChart 144 = .ok (.aload_n 0, 1) := by decide +kernel
theorem dX5_layChart_145 : decode cX5_layChart 145 = .ok (.getfield 25, 3) := by decide +kernel
theorem dX5_layChart_148 : decode cX5_layChart 148 = .ok (.iload_n 3, 1) := by decide +kernel
theorem dX5_layChart_149 : decode cX5_layChart 149 = .ok (.iaload, 1) := by decide +kernel
theorem dX5_layChart_150 : decode cX5_layChart 150 = .ok (.imul, 1) := by decide +kernel
theorem dX5_layChart_151 : decode cX5_layChart 151 = .ok (.iload_n 2, 1) := by decide +kernel
theorem dX5_layChart_152 : decode cX5_layChart 152 = .ok (.iadd, 1) := by decide +kernel
theorem dX5_layChart_153 : decode cX5_layChart 153 = .ok (.aload_n 0, 1) := by decide +kernel
theorem dX5_layChart_154 : decode cX5_layChart 154 = .ok (.getfield 28, 3) := by decide +kernel
theorem dX5_layChart_157 : decode cX5_layChart 157 = .ok (.iload_n 3, 1) := by decide +kernel
theorem dX5_layChart_158 : decode cX5_layChart 158 = .ok (.iaload, 1) := by decide +kernel
theorem dX5_layChart_159 : decode cX5_layChart 159 = .ok (.iastore, 1) := by decide +kernel
theorem dX5_layChart_160 : decode cX5_layChart 160 = .ok (.iinc 2 1, 3) := by decide +kernel
theorem dX5_layChart_163 : decode cX5_layChart 163 = .ok (.iinc 4 1, 3) := by decide +kernel
theorem dX5_layChart_166 : decode cX5_layChart 166 = .ok (.goto (-39), 3) := by decide +kernel
theorem dX5_layChart_169 : decode cX5_layChart 169 = .ok (.iinc 3 1, 3) := by decide +kernel
theorem dX5_layChart_172 : decode cX5_layChart 172 = .ok (.goto (-87), 3) := by decide +kernel
theorem dX5_layChart_175 : decode cX5_layChart 175 = .ok (.iload_n 1, 1) := by decide +kernel
theorem dX5_layChart_176 : decode cX5_layChart 176 = .ok (.ireturn, 1) := by decide +kernel
theorem dX5_firstError_0 : decode cX5_firstError 0 = .ok (.aload_n 0, 1) := by decide +kernel
theorem dX5_firstError_1 : decode cX5_firstError 1 = .ok (.iconst 0, 1) := by decide +kernel
theorem dX5_firstError_2 : decode cX5_firstError 2 = .ok (.putfield 40, 3) := by decide +kernel
theorem dX5_firstError_5 : decode cX5_firstError 5 = .ok (.aload_n 0, 1) := by decide +kernel
theorem dX5_firstError_6 : decode cX5_firstError 6 = .ok (.iload_n 1, 1) := by decide +kernel
theorem dX5_firstError_7 : decode cX5_firstError 7 = .ok (.invokevirtual 81, 3) := by decide +kernel
theorem dX5_firstError_10 : decode cX5_firstError 10 = .ok (.ireturn, 1) := by decide +kernel
theorem dX5_undo_0 : decode cX5_undo 0 = .ok (.aload_n 0, 1) := by decide +kernel
theorem dX5_undo_1 : decode cX5_undo 1 = .ok (.aload_n 0, 1) := by decide +kernel
theorem dX5_undo_2 : decode cX5_undo 2 = .ok (.getfield 44, 3) := by decide +kernel
theorem dX5_undo_5 : decode cX5_undo 5 = .ok (.ifCond .le 7, 3) := by decide +kernel
theorem dX5_undo_8 : decode cX5_undo 8 = .ok (.iconst 0, 1) := by decide +kernel
theorem dX5_undo_9 : decode cX5_undo 9 = .ok (.goto 4, 3) := by decide +kernel
theorem dX5_undo_12 : decode cX5_undo 12 = .ok (.iconst 1, 1) := by decide +kernel
theorem dX5_undo_13 : decode cX5_undo 13 = .ok (.putfield 40, 3) := by decide +kernel
theorem dX5_undo_16 : decode cX5_undo 16 = .ok (.aload_n 0, 1) := by decide +kernel
theorem dX5_undo_17 : decode cX5_undo 17 = .ok (.getfield 40, 3) := by decide +kernel
theorem dX5_undo_20 : decode cX5_undo 20 = .ok (.ifCond .le 5, 3) := by decide +kernel
theorem dX5_undo_23 : decode cX5_undo 23 = .ok (.iconst 0, 1) := by decide +kernel
theorem dX5_undo_24 : decode cX5_undo 24 = .ok (.ireturn, 1) := by decide +kernel
theorem dX5_undo_25 : decode cX5_undo 25 = .ok (.aload_n 0, 1) := by decide +kernel
theorem dX5_undo_26 : decode cX5_undo 26 = .ok (.dup, 1) := by decide +kernel
theorem dX5_undo_27 : decode cX5_undo 27 = .ok (.getfield 44, 3) := by decide +kernel
theorem dX5_undo_30 : decode cX5_undo 30 = .ok (.iconst 1, 1) := by decide +kernel
theorem dX5_undo_31 : decode cX5_undo 31 = .ok (.isub, 1) := by decide +kernel
theorem dX5_undo_32 : decode cX5_undo 32 = .ok (.putfield 44, 3) := by decide +kernel
theorem dX5_undo_35 : decode cX5_undo 35 = .ok (.iconst 0, 1) := by decide +kernel
theorem dX5_undo_36 : decode cX5_undo 36 = .ok (.istore_n 1, 1) := by decide +kernel
theorem dX5_undo_37 : decode cX5_undo 37 = .ok (.iload_n 1, 1) := by decide +kernel
theorem dX5_undo_38 : decode cX5_undo 38 = .ok (.sipush 435, 3) := by decide +kernel
theorem dX5_undo_41 : decode cX5_undo 41 = .ok (.if_icmp .ge 30, 3) := by decide +kernel
theorem dX5_undo_44 : decode cX5_undo 44 = .ok (.aload_n 0, 1) := by decide +kernel
theorem dX5_undo_45 : decode cX5_undo 45 = .ok (.getfield 7, 3) := by decide +kernel
theorem dX5_undo_48 : decode cX5_undo 48 = .ok (.iload_n 1, 1) := by decide +kernel
theorem dX5_undo_49 : decode cX5_undo 49 = .ok (.aload_n 0, 1) := by decide +kernel
theorem dX5_undo_50 : decode cX5_undo 50 = .ok (.getfield 13, 3) := by decide +kernel
theorem dX5_undo_53 : decode cX5_undo 53 = .ok (.sipush 435, 3) := by decide +kernel
theorem dX5_undo_56 : decode cX5_undo 56 = .ok (.aload_n 0, 1) := by decide +kernel
theorem dX5_undo_57 : decode cX5_undo 57 = .ok (.getfield 44, 3) := by decide +kernel
theorem dX5_undo_60 : decode cX5_undo 60 = .ok (.imul, 1) := by decide +kernel
theorem dX5_undo_61 : decode cX5_undo 61 = .ok (.iload_n 1, 1) := by decide +kernel
theorem dX5_undo_62 : decode cX5_undo 62 = .ok (.iadd, 1) := by decide +kernel
theorem dX5_undo_63 : decode cX5_undo 63 = .ok (.iaload, 1) := by decide +kernel
theorem dX5_undo_64 : decode cX5_undo 64 = .ok (.iastore, 1) := by decide +kernel
theorem dX5_undo_65 : decode cX5_undo 65 = .ok (.iinc 1 1, 3) := by decide +kernel
theorem dX5_undo_68 : decode cX5_undo 68 = .ok (.goto (-31), 3) := by decide +kernel
theorem dX5_undo_71 : decode cX5_undo 71 = .ok (.aload_n 0, 1) := by decide +kernel
theorem dX5_undo_72 : decode cX5_undo 72 = .ok (.getfield 44, 3) := by decide +kernel
theorem dX5_undo_75 : decode cX5_undo 75 = .ok (.ireturn, 1) := by decide +kernel
theorem dX5_cell_0 : decode cX5_cell 0 = .ok (.aload_n 0, 1) := by decide +kernel
theorem dX5_cell_1 : decode cX5_cell 1 = .ok (.aload_n 0, 1) := by decide +kernel
theorem dX5_cell_2 : decode cX5_cell 2 = .ok (.iload_n 1, 1) := by decide +kernel
theorem dX5_cell_3 : decode cX5_cell 3 = .ok (.iload_n 2, 1) := by decide +kernel
theorem dX5_cell_4 : decode cX5_cell 4 = .ok (.invokevirtual 111, 3) := by decide +kernel
theorem dX5_cell_7 : decode cX5_cell 7 = .ok (.ifCond .eq 7, 3) := by decide +kernel
theorem dX5_cell_10 : decode cX5_cell 10 = .ok (.iconst 0, 1) := by decide +kernel
theorem dX5_cell_11 : decode cX5_cell 11 = .ok (.goto 4, 3) := by decide +kernel
theorem dX5_cell_14 : decode cX5_cell 14 = .ok (.iconst 1, 1) := by decide +kernel
theorem dX5_cell_15 : decode cX5_cell 15 = .ok (.putfield 40, 3) := by decide +kernel
theorem dX5_cell_18 : decode cX5_cell 18 = .ok (.aload_n 0, 1) := by decide +kernel
theorem dX5_cell_19 : decode cX5_cell 19 = .ok (.getfield 40, 3) := by decide +kernel
theorem dX5_cell_22 : decode cX5_cell 22 = .ok (.ifCond .le 7, 3) := by decide +kernel
theorem dX5_cell_25 : decode cX5_cell 25 = .ok (.iconst 0, 1) := by decide +kernel
theorem dX5_cell_26 : decode cX5_cell 26 = .ok (.goto 9, 3) := by decide +kernel
theorem dX5_cell_29 : decode cX5_cell 29 = .ok (.aload_n 0, 1) := by decide +kernel
theorem dX5_cell_30 : decode cX5_cell 30 = .ok (.iload_n 1, 1) := by decide +kernel
theorem dX5_cell_31 : decode cX5_cell 31 = .ok (.iload_n 2, 1) := by decide +kernel
theorem dX5_cell_32 : decode cX5_cell 32 = .ok (.invokevirtual 61, 3) := by decide +kernel
theorem dX5_cell_35 : decode cX5_cell 35 = .ok (.ireturn, 1) := by decide +kernel
theorem dX5_pattern_0 : decode cX5_pattern 0 = .ok (.aload_n 0, 1) := by decide +kernel
theorem dX5_pattern_1 : decode cX5_pattern 1 = .ok (.iload_n 1, 1) := by decide +kernel
theorem dX5_pattern_2 : decode cX5_pattern 2 = .ok (.iconst 0, 1) := by decide +kernel
theorem dX5_pattern_3 : decode cX5_pattern 3 = .ok (.sipush 239, 3) := by decide +kernel
theorem dX5_pattern_6 : decode cX5_pattern 6 = .ok (.invokestatic 47, 3) := by decide +kernel
theorem dX5_pattern_9 : decode cX5_pattern 9 = .ok (.ifCond .eq 16, 3) := by decide +kernel
theorem dX5_pattern_12 : decode cX5_pattern 12 = .ok (.iload_n 2, 1) := by decide +kernel
theorem dX5_pattern_13 : decode cX5_pattern 13 = .ok (.iconst 0, 1) := by decide +kernel
theorem dX5_pattern_14 : decode cX5_pattern 14 = .ok (.iconst 3, 1) := by decide +kernel
theorem dX5_pattern_15 : decode cX5_pattern 15 = .ok (.invokestatic 47, 3) := by decide +kernel
theorem dX5_pattern_18 : decode cX5_pattern 18 = .ok (.ifCond .eq 7, 3) := by decide +kernel
theorem dX5_pattern_21 : decode cX5_pattern 21 = .ok (.iconst 0, 1) := by decide +kernel
theorem dX5_pattern_22 : decode cX5_pattern 22 = .ok (.goto 4, 3) := by decide +kernel
theorem dX5_pattern_25 : decode cX5_pattern 25 = .ok (.iconst 1, 1) := by decide +kernel
theorem dX5_pattern_26 : decode cX5_pattern 26 = .ok (.putfield 40, 3) := by decide +kernel
theorem dX5_pattern_29 : decode cX5_pattern 29 = .ok (.aload_n 0, 1) := by decide +kernel
theorem dX5_pattern_30 : decode cX5_pattern 30 = .ok (.getfield 40, 3) := by decide +kernel
theorem dX5_pattern_33 : decode cX5_pattern 33 = .ok (.ifCond .le 5, 3) := by decide +kernel
theorem dX5_pattern_36 : decode cX5_pattern 36 = .ok (.iconst 0, 1) := by decide +kernel
theorem dX5_pattern_37 : decode cX5_pattern 37 = .ok (.ireturn, 1) := by decide +kernel
theorem dX5_pattern_38 : decode cX5_pattern 38 = .ok (.iload_n 2, 1) := by decide +kernel
theorem dX5_pattern_39 : decode cX5_pattern 39 = .ok (.ifCond .ne 11, 3) := by decide +kernel
theorem dX5_pattern_42 : decode cX5_pattern 42 = .ok (.aload_n 0, 1) := by decide +kernel
theorem dX5_pattern_43 : decode cX5_pattern 43 = .ok (.iload_n 1, 1) := by decide +kernel
theorem dX5_pattern_44 : decode cX5_pattern 44 = .ok (.invokevirtual 65, 3) := by decide +kernel
theorem dX5_pattern_47 : decode cX5_pattern 47 = .ok (.goto 34, 3) := by decide +kernel
theorem dX5_pattern_50 : decode cX5_pattern 50 = .ok (.iload_n 2, 1) := by decide +kernel
theorem dX5_pattern_51 : decode cX5_pattern 51 = .ok (.iconst 1, 1) := by decide +kernel
theorem dX5_pattern_52 : decode cX5_pattern 52 = .ok (.if_icmp .ne 11, 3) := by decide +kernel
theorem dX5_pattern_55 : decode cX5_pattern 55 = .ok (.aload_n 0, 1) := by decide +kernel
theorem dX5_pattern_56 : decode cX5_pattern 56 = .ok (.iload_n 1, 1) := by decide +kernel
theorem dX5_pattern_57 : decode cX5_pattern 57 = .ok (.invokevirtual 51, 3) := by decide +kernel
theorem dX5_pattern_60 : decode cX5_pattern 60 = .ok (.goto 21, 3) := by decide +kernel
theorem dX5_pattern_63 : decode cX5_pattern 63 = .ok (.iload_n 2, 1) := by decide +kernel
theorem dX5_pattern_64 : decode cX5_pattern 64 = .ok (.iconst 2, 1) := by decide +kernel
theorem dX5_pattern_65 : decode cX5_pattern 65 = .ok (.if_icmp .ne 11, 3) := by decide +kernel
theorem dX5_pattern_68 : decode cX5_pattern 68 = .ok (.aload_n 0, 1) := by decide +kernel
theorem dX5_pattern_69 : decode cX5_pattern 69 = .ok (.iload_n 1, 1) := by decide +kernel
theorem dX5_pattern_70 : decode cX5_pattern 70 = .ok (.invokevirtual 55, 3) := by decide +kernel
theorem dX5_pattern_73 : decode cX5_pattern 73 = .ok (.goto 8, 3) := by decide +kernel
theorem dX5_pattern_76 : decode cX5_pattern 76 = .ok (.aload_n 0, 1) := by decide +kernel
theorem dX5_pattern_77 : decode cX5_pattern 77 = .ok (.iload_n 1, 1) := by decide +kernel
theorem dX5_pattern_78 : decode cX5_pattern 78 = .ok (.invokevirtual 58, 3) := by decide +kernel
theorem dX5_pattern_81 : decode cX5_pattern 81 = .ok (.ireturn, 1) := by decide +kernel
theorem dX5_beadNow_0 : decode cX5_beadNow 0 = .ok (.iload_n 2, 1) := by decide +kernel
theorem dX5_beadNow_1 : decode cX5_beadNow 1 = .ok (.tableswitch 58 0 2 #[27, 38, 52], 27) := by decide +kernel
theorem dX5_beadNow_28 : decode cX5_beadNow 28 = .ok (.aload_n 0, 1) := by decide +kernel
theorem dX5_beadNow_29 : decode cX5_beadNow 29 = .ok (.getfield 7, 3) := by decide +kernel
theorem dX5_beadNow_32 : decode cX5_beadNow 32 = .ok (.sipush 147, 3) := by decide +kernel
theorem dX5_beadNow_35 : decode cX5_beadNow 35 = .ok (.iload_n 1, 1) := by decide +kernel
theorem dX5_beadNow_36 : decode cX5_beadNow 36 = .ok (.iadd, 1) := by decide +kernel
theorem dX5_beadNow_37 : decode cX5_beadNow 37 = .ok (.iaload, 1) := by decide +kernel
theorem dX5_beadNow_38 : decode cX5_beadNow 38 = .ok (.ireturn, 1) := by decide +kernel
theorem dX5_beadNow_39 : decode cX5_beadNow 39 = .ok (.aload_n 0, 1) := by decide +kernel
theorem dX5_beadNow_40 : decode cX5_beadNow 40 = .ok (.iload_n 1, 1) := by decide +kernel
theorem dX5_beadNow_41 : decode cX5_beadNow 41 = .ok (.invokevirtual 68, 3) := by decide +kernel
theorem dX5_beadNow_44 : decode cX5_beadNow 44 = .ok (.ifCond .eq 7, 3) := by decide +kernel
theorem dX5_beadNow_47 : decode cX5_beadNow 47 = .ok (.iconst 1, 1) := by decide +kernel
theorem dX5_beadNow_48 : decode cX5_beadNow 48 = .ok (.goto 4, 3) := by decide +kernel
theorem dX5_beadNow_51 : decode cX5_beadNow 51 = .ok (.iconst 0, 1) := by decide +kernel
theorem dX5_beadNow_52 : decode cX5_beadNow 52 = .ok (.ireturn, 1) := by decide +kernel
theorem dX5_beadNow_53 : decode cX5_beadNow 53 = .ok (.aload_n 0, 1) := by decide +kernel
theorem dX5_beadNow_54 : decode cX5_beadNow 54 = .ok (.iload_n 1, 1) := by decide +kernel
theorem dX5_beadNow_55 : decode cX5_beadNow 55 = .ok (.invokevirtual 143, 3) := by decide +kernel
theorem dX5_beadNow_58 : decode cX5_beadNow 58 = .ok (.ireturn, 1) := by decide +kernel
theorem dX5_beadNow_59 : decode cX5_beadNow 59 = .ok (.iload_n 1, 1) := by decide +kernel
theorem dX5_beadNow_60 : decode cX5_beadNow 60 = .ok (.aload_n 0, 1) := by decide +kernel
theorem dX5_beadNow_61 : decode cX5_beadNow 61 = .ok (.getfield 7, 3) := by decide +kernel
theorem dX5_beadNow_64 : decode cX5_beadNow 64 = .ok (.sipush 387, 3) := by decide +kernel
theorem dX5_beadNow_67 : decode cX5_beadNow 67 = .ok (.aload_n 0, 1) := by decide +kernel
theorem dX5_beadNow_68 : decode cX5_beadNow 68 = .ok (.iload_n 1, 1) := by decide +kernel
theorem dX5_beadNow_69 : decode cX5_beadNow 69 = .ok (.invokevirtual 143, 3) := by decide +kernel
theorem dX5_beadNow_72 : decode cX5_beadNow 72 = .ok (.iadd, 1) := by decide +kernel
theorem dX5_beadNow_73 : decode cX5_beadNow 73 = .ok (.iaload, 1) := by decide +kernel
theorem dX5_beadNow_74 : decode cX5_beadNow 74 = .ok (.isub, 1) := by decide +kernel
theorem dX5_beadNow_75 : decode cX5_beadNow 75 = .ok (.ireturn, 1) := by decide +kernel
theorem dX5_bead_0 : decode cX5_bead 0 = .ok (.aload_n 0, 1) := by decide +kernel
theorem dX5_bead_1 : decode cX5_bead 1 = .ok (.aload_n 0, 1) := by decide +kernel
theorem dX5_bead_2 : decode cX5_bead 2 = .ok (.iload_n 1, 1) := by decide +kernel
theorem dX5_bead_3 : decode cX5_bead 3 = .ok (.invokevirtual 140, 3) := by decide +kernel
theorem dX5_bead_6 : decode cX5_bead 6 = .ok (.ifCond .ne 7, 3) := by decide +kernel
theorem dX5_bead_9 : decode cX5_bead 9 = .ok (.iconst 1, 1) := by decide +kernel
theorem dX5_bead_10 : decode cX5_bead 10 = .ok (.goto 17, 3) := by decide +kernel
theorem dX5_bead_13 : decode cX5_bead 13 = .ok (.iload_n 2, 1) := by decide +kernel
theorem dX5_bead_14 : decode cX5_bead 14 = .ok (.iconst 0, 1) := by decide +kernel
theorem dX5_bead_15 : decode cX5_bead 15 = .ok (.iconst 3, 1) := by decide +kernel
theorem dX5_bead_16 : decode cX5_bead 16 = .ok (.invokestatic 47, 3) := by decide +kernel
theorem dX5_bead_19 : decode cX5_bead 19 = .ok (.ifCond .eq 7, 3) := by decide +kernel
theorem dX5_bead_22 : decode cX5_bead 22 = .ok (.iconst 0, 1) := by decide +kernel
theorem dX5_bead_23 : decode cX5_bead 23 = .ok (.goto 4, 3) := by decide +kernel
theorem dX5_bead_26 : decode cX5_bead 26 = .ok (.iconst 2, 1) := by decide +kernel
theorem dX5_bead_27 : decode cX5_bead 27 = .ok (.putfield 40, 3) := by decide +kernel
theorem dX5_bead_30 : decode cX5_bead 30 = .ok (.aload_n 0, 1) := by decide +kernel
theorem dX5_bead_31 : decode cX5_bead 31 = .ok (.getfield 40, 3) := by decide +kernel
theorem dX5_bead_34 : decode cX5_bead 34 = .ok (.ifCond .le 7, 3) := by decide +kernel
theorem dX5_bead_37 : decode cX5_bead 37 = .ok (.iconst 0, 1) := by decide +kernel
theorem dX5_bead_38 : decode cX5_bead 38 = .ok (.goto 9, 3) := by decide +kernel
theorem dX5_bead_41 : decode cX5_bead 41 = .ok (.aload_n 0, 1) := by decide +kernel
theorem dX5_bead_42 : decode cX5_bead 42 = .ok (.iload_n 1, 1) := by decide +kernel
theorem dX5_bead_43 : decode cX5_bead 43 = .ok (.iload_n 2, 1) := by decide +kernel
theorem dX5_bead_44 : decode cX5_bead 44 = .ok (.invokevirtual 172, 3) := by decide +kernel
theorem dX5_bead_47 : decode cX5_bead 47 = .ok (.ireturn, 1) := by decide +kernel
theorem dX5_strandNow_0 : decode cX5_strandNow 0 = .ok (.aload_n 0, 1) := by decide +kernel
theorem dX5_strandNow_1 : decode cX5_strandNow 1 = .ok (.getfield 7, 3) := by decide +kernel
theorem dX5_strandNow_4 : decode cX5_strandNow 4 = .ok (.sipush 387, 3) := by decide +kernel
theorem dX5_strandNow_7 : decode cX5_strandNow 7 = .ok (.iload_n 1, 1) := by decide +kernel
theorem dX5_strandNow_8 : decode cX5_strandNow 8 = .ok (.iadd, 1) := by decide +kernel
theorem dX5_strandNow_9 : decode cX5_strandNow 9 = .ok (.iaload, 1) := by decide +kernel
theorem dX5_strandNow_10 : decode cX5_strandNow 10 = .ok (.istore_n 3, 1) := by decide +kernel
theorem dX5_strandNow_11 : decode cX5_strandNow 11 = .ok (.iload_n 2, 1) := by decide +kernel
theorem dX5_strandNow_12 : decode cX5_strandNow 12 = .ok (.tableswitch 60 0 2 #[28, 30, 38], 28) := by decide +kernel
theorem dX5_strandNow_40 : decode cX5_strandNow 40 = .ok (.iload_n 3, 1) := by decide +kernel
theorem dX5_strandNow_41 : decode cX5_strandNow 41 = .ok (.ireturn, 1) := by decide +kernel
theorem dX5_strandNow_42 : decode cX5_strandNow 42 = .ok (.aload_n 0, 1) := by decide +kernel
theorem dX5_strandNow_43 : decode cX5_strandNow 43 = .ok (.iload_n 1, 1) := by decide +kernel
theorem dX5_strandNow_44 : decode cX5_strandNow 44 = .ok (.invokevirtual 146, 3) := by decide +kernel
theorem dX5_strandNow_47 : decode cX5_strandNow 47 = .ok (.iload_n 3, 1) := by decide +kernel
theorem dX5_strandNow_48 : decode cX5_strandNow 48 = .ok (.isub, 1) := by decide +kernel
theorem dX5_strandNow_49 : decode cX5_strandNow 49 = .ok (.ireturn, 1) := by decide +kernel
theorem dX5_strandNow_50 : decode cX5_strandNow 50 = .ok (.iload_n 1, 1) := by decide +kernel
theorem dX5_strandNow_51 : decode cX5_strandNow 51 = .ok (.ifCond .ne 7, 3) := by decide +kernel
theorem dX5_strandNow_54 : decode cX5_strandNow 54 = .ok (.iconst (-1), 1) := by decide +kernel
theorem dX5_strandNow_55 : decode cX5_strandNow 55 = .ok (.goto 16, 3) := by decide +kernel
theorem dX5_strandNow_58 : decode cX5_strandNow 58 = .ok (.aload_n 0, 1) := by decide +kernel
theorem dX5_strandNow_59 : decode cX5_strandNow 59 = .ok (.iload_n 3, 1) := by decide +kernel
theorem dX5_strandNow_60 : decode cX5_strandNow 60 = .ok (.invokevirtual 137, 3) := by decide +kernel
theorem dX5_strandNow_63 : decode cX5_strandNow 63 = .ok (.ifCond .eq 7, 3) := by decide +kernel
theorem dX5_strandNow_66 : decode cX5_strandNow 66 = .ok (.iconst 1, 1) := by decide +kernel
theorem dX5_strandNow_67 : decode cX5_strandNow 67 = .ok (.goto 4, 3) := by decide +kernel
theorem dX5_strandNow_70 : decode cX5_strandNow 70 = .ok (.iconst 0, 1) := by decide +kernel
theorem dX5_strandNow_71 : decode cX5_strandNow 71 = .ok (.ireturn, 1) := by decide +kernel
theorem dX5_strandNow_72 : decode cX5_strandNow 72 = .ok (.aload_n 0, 1) := by decide +kernel
theorem dX5_strandNow_73 : decode cX5_strandNow 73 = .ok (.iload_n 3, 1) := by decide +kernel
theorem dX5_strandNow_74 : decode cX5_strandNow 74 = .ok (.aload_n 0, 1) := by decide +kernel
theorem dX5_strandNow_75 : decode cX5_strandNow 75 = .ok (.iload_n 1, 1) := by decide +kernel
theorem dX5_strandNow_76 : decode cX5_strandNow 76 = .ok (.invokevirtual 146, 3) := by decide +kernel
theorem dX5_strandNow_79 : decode cX5_strandNow 79 = .ok (.invokevirtual 72, 3) := by decide +kernel
theorem dX5_strandNow_82 : decode cX5_strandNow 82 = .ok (.ireturn, 1) := by decide +kernel
theorem dX5_strand_0 : decode cX5_strand 0 = .ok (.aload_n 0, 1) := by decide +kernel
theorem dX5_strand_1 : decode cX5_strand 1 = .ok (.iload_n 1, 1) := by decide +kernel
theorem dX5_strand_2 : decode cX5_strand 2 = .ok (.iconst 0, 1) := by decide +kernel
theorem dX5_strand_3 : decode cX5_strand 3 = .ok (.aload_n 0, 1) := by decide +kernel
theorem dX5_strand_4 : decode cX5_strand 4 = .ok (.getfield 7, 3) := by decide +kernel
theorem dX5_strand_7 : decode cX5_strand 7 = .ok (.bipush 7, 2) := by decide +kernel
theorem dX5_strand_9 : decode cX5_strand 9 = .ok (.iaload, 1) := by decide +kernel
theorem dX5_strand_10 : decode cX5_strand 10 = .ok (.iconst 1, 1) := by decide +kernel
theorem dX5_strand_11 : decode cX5_strand 11 = .ok (.isub, 1) := by decide +kernel
theorem dX5_strand_12 : decode cX5_strand 12 = .ok (.invokestatic 47, 3) := by decide +kernel
theorem dX5_strand_15 : decode cX5_strand 15 = .ok (.ifCond .ne 7, 3) := by decide +kernel
theorem dX5_strand_18 : decode cX5_strand 18 = .ok (.iconst 1, 1) := by decide +kernel
theorem dX5_strand_19 : decode cX5_strand 19 = .ok (.goto 17, 3) := by decide +kernel
theorem dX5_strand_22 : decode cX5_strand 22 = .ok (.iload_n 2, 1) := by decide +kernel
theorem dX5_strand_23 : decode cX5_strand 23 = .ok (.iconst 0, 1) := by decide +kernel
theorem dX5_strand_24 : decode cX5_strand 24 = .ok (.iconst 3, 1) := by decide +kernel
theorem dX5_strand_25 : decode cX5_strand 25 = .ok (.invokestatic 47, 3) := by decide +kernel
theorem dX5_strand_28 : decode cX5_strand 28 = .ok (.ifCond .eq 7, 3) := by decide +kernel
theorem dX5_strand_31 : decode cX5_strand 31 = .ok (.iconst 0, 1) := by decide +kernel
theorem dX5_strand_32 : decode cX5_strand 32 = .ok (.goto 4, 3) := by decide +kernel
theorem dX5_strand_35 : decode cX5_strand 35 = .ok (.iconst 2, 1) := by decide +kernel
theorem dX5_strand_36 : decode cX5_strand 36 = .ok (.putfield 40, 3) := by decide +kernel
theorem dX5_strand_39 : decode cX5_strand 39 = .ok (.aload_n 0, 1) := by decide +kernel
theorem dX5_strand_40 : decode cX5_strand 40 = .ok (.getfield 40, 3) := by decide +kernel
theorem dX5_strand_43 : decode cX5_strand 43 = .ok (.ifCond .le 7, 3) := by decide +kernel
theorem dX5_strand_46 : decode cX5_strand 46 = .ok (.iconst 0, 1) := by decide +kernel
theorem dX5_strand_47 : decode cX5_strand 47 = .ok (.goto 9, 3) := by decide +kernel
theorem dX5_strand_50 : decode cX5_strand 50 = .ok (.aload_n 0, 1) := by decide +kernel
theorem dX5_strand_51 : decode cX5_strand 51 = .ok (.iload_n 1, 1) := by decide +kernel
theorem dX5_strand_52 : decode cX5_strand 52 = .ok (.iload_n 2, 1) := by decide +kernel
theorem dX5_strand_53 : decode cX5_strand 53 = .ok (.invokevirtual 175, 3) := by decide +kernel
theorem dX5_strand_56 : decode cX5_strand 56 = .ok (.ireturn, 1) := by decide +kernel
