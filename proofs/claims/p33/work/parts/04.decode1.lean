theorem dX3_crushBead_113 : decode cX3_crushBead 113 = .ok (.goto 5, 3) := by decide +kernel
theorem dX3_crushBead_116 : decode cX3_crushBead 116 = .ok (.iload 4, 2) := by decide +kernel
theorem dX3_crushBead_118 : decode cX3_crushBead 118 = .ok (.aload_n 0, 1) := by decide +kernel
theorem dX3_crushBead_119 : decode cX3_crushBead 119 = .ok (.getfield 41, 3) := by decide +kernel
theorem dX3_crushBead_122 : decode cX3_crushBead 122 = .ok (.iload 4, 2) := by decide +kernel
theorem dX3_crushBead_124 : decode cX3_crushBead 124 = .ok (.invokestatic 58, 3) := by decide +kernel
theorem dX3_crushBead_127 : decode cX3_crushBead 127 = .ok (.iconst 1, 1) := by decide +kernel
theorem dX3_crushBead_128 : decode cX3_crushBead 128 = .ok (.isub, 1) := by decide +kernel
theorem dX3_crushBead_129 : decode cX3_crushBead 129 = .ok (.invokestatic 110, 3) := by decide +kernel
theorem dX3_crushBead_132 : decode cX3_crushBead 132 = .ok (.iinc 4 1, 3) := by decide +kernel
theorem dX3_crushBead_135 : decode cX3_crushBead 135 = .ok (.goto (-43), 3) := by decide +kernel
theorem dX3_crushBead_138 : decode cX3_crushBead 138 = .ok (.aload_n 0, 1) := by decide +kernel
theorem dX3_crushBead_139 : decode cX3_crushBead 139 = .ok (.dup, 1) := by decide +kernel
theorem dX3_crushBead_140 : decode cX3_crushBead 140 = .ok (.getfield 44, 3) := by decide +kernel
theorem dX3_crushBead_143 : decode cX3_crushBead 143 = .ok (.iconst 1, 1) := by decide +kernel
theorem dX3_crushBead_144 : decode cX3_crushBead 144 = .ok (.isub, 1) := by decide +kernel
theorem dX3_crushBead_145 : decode cX3_crushBead 145 = .ok (.putfield 44, 3) := by decide +kernel
theorem dX3_crushBead_148 : decode cX3_crushBead 148 = .ok (.iload_n 3, 1) := by decide +kernel
theorem dX3_crushBead_149 : decode cX3_crushBead 149 = .ok (.ifCond .eq 13, 3) := by decide +kernel
theorem dX3_crushBead_152 : decode cX3_crushBead 152 = .ok (.aload_n 0, 1) := by decide +kernel
theorem dX3_crushBead_153 : decode cX3_crushBead 153 = .ok (.dup, 1) := by decide +kernel
theorem dX3_crushBead_154 : decode cX3_crushBead 154 = .ok (.getfield 48, 3) := by decide +kernel
theorem dX3_crushBead_157 : decode cX3_crushBead 157 = .ok (.iconst 1, 1) := by decide +kernel
theorem dX3_crushBead_158 : decode cX3_crushBead 158 = .ok (.isub, 1) := by decide +kernel
theorem dX3_crushBead_159 : decode cX3_crushBead 159 = .ok (.putfield 48, 3) := by decide +kernel
theorem dX3_crushBead_162 : decode cX3_crushBead 162 = .ok (.return_, 1) := by decide +kernel
theorem dX4_init_0 : decode cX4_init 0 = .ok (.aload_n 0, 1) := by decide +kernel
theorem dX4_init_1 : decode cX4_init 1 = .ok (.invokespecial 1, 3) := by decide +kernel
theorem dX4_init_4 : decode cX4_init 4 = .ok (.aload_n 0, 1) := by decide +kernel
theorem dX4_init_5 : decode cX4_init 5 = .ok (.new 7, 3) := by decide +kernel
theorem dX4_init_8 : decode cX4_init 8 = .ok (.dup, 1) := by decide +kernel
theorem dX4_init_9 : decode cX4_init 9 = .ok (.invokespecial 9, 3) := by decide +kernel
theorem dX4_init_12 : decode cX4_init 12 = .ok (.putfield 10, 3) := by decide +kernel
theorem dX4_init_15 : decode cX4_init 15 = .ok (.aload_n 0, 1) := by decide +kernel
theorem dX4_init_16 : decode cX4_init 16 = .ok (.new 16, 3) := by decide +kernel
theorem dX4_init_19 : decode cX4_init 19 = .ok (.dup, 1) := by decide +kernel
theorem dX4_init_20 : decode cX4_init 20 = .ok (.invokespecial 18, 3) := by decide +kernel
theorem dX4_init_23 : decode cX4_init 23 = .ok (.putfield 19, 3) := by decide +kernel
theorem dX4_init_26 : decode cX4_init 26 = .ok (.aload_n 0, 1) := by decide +kernel
theorem dX4_init_27 : decode cX4_init 27 = .ok (.new 23, 3) := by decide +kernel
theorem dX4_init_30 : decode cX4_init 30 = .ok (.dup, 1) := by decide +kernel
theorem dX4_init_31 : decode cX4_init 31 = .ok (.invokespecial 25, 3) := by decide +kernel
theorem dX4_init_34 : decode cX4_init 34 = .ok (.putfield 26, 3) := by decide +kernel
theorem dX4_init_37 : decode cX4_init 37 = .ok (.aload_n 0, 1) := by decide +kernel
theorem dX4_init_38 : decode cX4_init 38 = .ok (.new 30, 3) := by decide +kernel
theorem dX4_init_41 : decode cX4_init 41 = .ok (.dup, 1) := by decide +kernel
theorem dX4_init_42 : decode cX4_init 42 = .ok (.invokespecial 32, 3) := by decide +kernel
theorem dX4_init_45 : decode cX4_init 45 = .ok (.putfield 33, 3) := by decide +kernel
theorem dX4_init_48 : decode cX4_init 48 = .ok (.aload_n 0, 1) := by decide +kernel
theorem dX4_init_49 : decode cX4_init 49 = .ok (.sipush 240, 3) := by decide +kernel
theorem dX4_init_52 : decode cX4_init 52 = .ok (.newarray .int, 2) := by decide +kernel
theorem dX4_init_54 : decode cX4_init 54 = .ok (.putfield 37, 3) := by decide +kernel
theorem dX4_init_57 : decode cX4_init 57 = .ok (.return_, 1) := by decide +kernel
theorem dX4_load_0 : decode cX4_load 0 = .ok (.aload_n 0, 1) := by decide +kernel
theorem dX4_load_1 : decode cX4_load 1 = .ok (.getfield 26, 3) := by decide +kernel
theorem dX4_load_4 : decode cX4_load 4 = .ok (.iconst 1, 1) := by decide +kernel
theorem dX4_load_5 : decode cX4_load 5 = .ok (.invokevirtual 41, 3) := by decide +kernel
theorem dX4_load_8 : decode cX4_load 8 = .ok (.ifCond .ne 13, 3) := by decide +kernel
theorem dX4_load_11 : decode cX4_load 11 = .ok (.new 45, 3) := by decide +kernel
theorem dX4_load_14 : decode cX4_load 14 = .ok (.dup, 1) := by decide +kernel
theorem dX4_load_15 : decode cX4_load 15 = .ok (.ldc 47, 2) := by decide +kernel
theorem dX4_load_17 : decode cX4_load 17 = .ok (.invokespecial 49, 3) := by decide +kernel
theorem dX4_load_20 : decode cX4_load 20 = .ok (.athrow, 1) := by decide +kernel
theorem dX4_load_21 : decode cX4_load 21 = .ok (.aload_n 0, 1) := by decide +kernel
theorem dX4_load_22 : decode cX4_load 22 = .ok (.getfield 26, 3) := by decide +kernel
theorem dX4_load_25 : decode cX4_load 25 = .ok (.aload_n 0, 1) := by decide +kernel
theorem dX4_load_26 : decode cX4_load 26 = .ok (.getfield 33, 3) := by decide +kernel
theorem dX4_load_29 : decode cX4_load 29 = .ok (.aload_n 0, 1) := by decide +kernel
theorem dX4_load_30 : decode cX4_load 30 = .ok (.getfield 37, 3) := by decide +kernel
theorem dX4_load_33 : decode cX4_load 33 = .ok (.invokevirtual 52, 3) := by decide +kernel
theorem dX4_load_36 : decode cX4_load 36 = .ok (.ifCond .ne 13, 3) := by decide +kernel
theorem dX4_load_39 : decode cX4_load 39 = .ok (.new 56, 3) := by decide +kernel
theorem dX4_load_42 : decode cX4_load 42 = .ok (.dup, 1) := by decide +kernel
theorem dX4_load_43 : decode cX4_load 43 = .ok (.ldc 58, 2) := by decide +kernel
theorem dX4_load_45 : decode cX4_load 45 = .ok (.invokespecial 60, 3) := by decide +kernel
theorem dX4_load_48 : decode cX4_load 48 = .ok (.athrow, 1) := by decide +kernel
theorem dX4_load_49 : decode cX4_load 49 = .ok (.aload_n 0, 1) := by decide +kernel
theorem dX4_load_50 : decode cX4_load 50 = .ok (.getfield 19, 3) := by decide +kernel
theorem dX4_load_53 : decode cX4_load 53 = .ok (.aload_n 0, 1) := by decide +kernel
theorem dX4_load_54 : decode cX4_load 54 = .ok (.getfield 10, 3) := by decide +kernel
theorem dX4_load_57 : decode cX4_load 57 = .ok (.invokevirtual 61, 3) := by decide +kernel
theorem dX4_load_60 : decode cX4_load 60 = .ok (.aload_n 0, 1) := by decide +kernel
theorem dX4_load_61 : decode cX4_load 61 = .ok (.getfield 10, 3) := by decide +kernel
theorem dX4_load_64 : decode cX4_load 64 = .ok (.getfield 65, 3) := by decide +kernel
theorem dX4_load_67 : decode cX4_load 67 = .ok (.aload_n 0, 1) := by decide +kernel
theorem dX4_load_68 : decode cX4_load 68 = .ok (.getfield 33, 3) := by decide +kernel
theorem dX4_load_71 : decode cX4_load 71 = .ok (.invokevirtual 68, 3) := by decide +kernel
theorem dX4_load_74 : decode cX4_load 74 = .ok (.aload_n 0, 1) := by decide +kernel
theorem dX4_load_75 : decode cX4_load 75 = .ok (.getfield 26, 3) := by decide +kernel
theorem dX4_load_78 : decode cX4_load 78 = .ok (.invokevirtual 72, 3) := by decide +kernel
theorem dX4_load_81 : decode cX4_load 81 = .ok (.aload_n 0, 1) := by decide +kernel
theorem dX4_load_82 : decode cX4_load 82 = .ok (.getfield 10, 3) := by decide +kernel
theorem dX4_load_85 : decode cX4_load 85 = .ok (.getfield 65, 3) := by decide +kernel
theorem dX4_load_88 : decode cX4_load 88 = .ok (.getfield 75, 3) := by decide +kernel
theorem dX4_load_91 : decode cX4_load 91 = .ok (.ireturn, 1) := by decide +kernel
theorem dX4_recolour_0 : decode cX4_recolour 0 = .ok (.iload_n 1, 1) := by decide +kernel
theorem dX4_recolour_1 : decode cX4_recolour 1 = .ok (.invokestatic 91, 3) := by decide +kernel
theorem dX4_recolour_4 : decode cX4_recolour 4 = .ok (.ifCond .eq 10, 3) := by decide +kernel
theorem dX4_recolour_7 : decode cX4_recolour 7 = .ok (.iload_n 2, 1) := by decide +kernel
theorem dX4_recolour_8 : decode cX4_recolour 8 = .ok (.invokestatic 91, 3) := by decide +kernel
theorem dX4_recolour_11 : decode cX4_recolour 11 = .ok (.ifCond .ne 13, 3) := by decide +kernel
theorem dX4_recolour_14 : decode cX4_recolour 14 = .ok (.new 45, 3) := by decide +kernel
theorem dX4_recolour_17 : decode cX4_recolour 17 = .ok (.dup, 1) := by decide +kernel
theorem dX4_recolour_18 : decode cX4_recolour 18 = .ok (.ldc 94, 2) := by decide +kernel
theorem dX4_recolour_20 : decode cX4_recolour 20 = .ok (.invokespecial 49, 3) := by decide +kernel
theorem dX4_recolour_23 : decode cX4_recolour 23 = .ok (.athrow, 1) := by decide +kernel
theorem dX4_recolour_24 : decode cX4_recolour 24 = .ok (.aload_n 0, 1) := by decide +kernel
theorem dX4_recolour_25 : decode cX4_recolour 25 = .ok (.getfield 19, 3) := by decide +kernel
theorem dX4_recolour_28 : decode cX4_recolour 28 = .ok (.aload_n 0, 1) := by decide +kernel
theorem dX4_recolour_29 : decode cX4_recolour 29 = .ok (.getfield 10, 3) := by decide +kernel
theorem dX4_recolour_32 : decode cX4_recolour 32 = .ok (.invokevirtual 61, 3) := by decide +kernel
theorem dX4_recolour_35 : decode cX4_recolour 35 = .ok (.aload_n 0, 1) := by decide +kernel
theorem dX4_recolour_36 : decode cX4_recolour 36 = .ok (.getfield 10, 3) := by decide +kernel
theorem dX4_recolour_39 : decode cX4_recolour 39 = .ok (.getfield 65, 3) := by decide +kernel
theorem dX4_recolour_42 : decode cX4_recolour 42 = .ok (.iload_n 1, 1) := by decide +kernel
theorem dX4_recolour_43 : decode cX4_recolour 43 = .ok (.iload_n 2, 1) := by decide +kernel
theorem dX4_recolour_44 : decode cX4_recolour 44 = .ok (.invokevirtual 96, 3) := by decide +kernel
theorem dX4_recolour_47 : decode cX4_recolour 47 = .ok (.ireturn, 1) := by decide +kernel
theorem dX4_set_0 : decode cX4_set 0 = .ok (.iload_n 1, 1) := by decide +kernel
theorem dX4_set_1 : decode cX4_set 1 = .ok (.invokestatic 100, 3) := by decide +kernel
theorem dX4_set_4 : decode cX4_set 4 = .ok (.ifCond .ne 13, 3) := by decide +kernel
theorem dX4_set_7 : decode cX4_set 7 = .ok (.new 103, 3) := by decide +kernel
theorem dX4_set_10 : decode cX4_set 10 = .ok (.dup, 1) := by decide +kernel
theorem dX4_set_11 : decode cX4_set 11 = .ok (.ldc 105, 2) := by decide +kernel
theorem dX4_set_13 : decode cX4_set 13 = .ok (.invokespecial 107, 3) := by decide +kernel
theorem dX4_set_16 : decode cX4_set 16 = .ok (.athrow, 1) := by decide +kernel
theorem dX4_set_17 : decode cX4_set 17 = .ok (.iload_n 2, 1) := by decide +kernel
theorem dX4_set_18 : decode cX4_set 18 = .ok (.getstatic 108, 3) := by decide +kernel
theorem dX4_set_21 : decode cX4_set 21 = .ok (.iload_n 1, 1) := by decide +kernel
theorem dX4_set_22 : decode cX4_set 22 = .ok (.invokestatic 111, 3) := by decide +kernel
theorem dX4_set_25 : decode cX4_set 25 = .ok (.if_icmp .lt 14, 3) := by decide +kernel
theorem dX4_set_28 : decode cX4_set 28 = .ok (.iload_n 2, 1) := by decide +kernel
theorem dX4_set_29 : decode cX4_set 29 = .ok (.getstatic 115, 3) := by decide +kernel
theorem dX4_set_32 : decode cX4_set 32 = .ok (.iload_n 1, 1) := by decide +kernel
theorem dX4_set_33 : decode cX4_set 33 = .ok (.invokestatic 111, 3) := by decide +kernel
theorem dX4_set_36 : decode cX4_set 36 = .ok (.if_icmp .le 13, 3) := by decide +kernel
theorem dX4_set_39 : decode cX4_set 39 = .ok (.new 45, 3) := by decide +kernel
theorem dX4_set_42 : decode cX4_set 42 = .ok (.dup, 1) := by decide +kernel
theorem dX4_set_43 : decode cX4_set 43 = .ok (.ldc 118, 2) := by decide +kernel
theorem dX4_set_45 : decode cX4_set 45 = .ok (.invokespecial 49, 3) := by decide +kernel
theorem dX4_set_48 : decode cX4_set 48 = .ok (.athrow, 1) := by decide +kernel
theorem dX4_set_49 : decode cX4_set 49 = .ok (.aload_n 0, 1) := by decide +kernel
theorem dX4_set_50 : decode cX4_set 50 = .ok (.getfield 19, 3) := by decide +kernel
theorem dX4_set_53 : decode cX4_set 53 = .ok (.aload_n 0, 1) := by decide +kernel
theorem dX4_set_54 : decode cX4_set 54 = .ok (.getfield 10, 3) := by decide +kernel
theorem dX4_set_57 : decode cX4_set 57 = .ok (.invokevirtual 61, 3) := by decide +kernel
theorem dX4_set_60 : decode cX4_set 60 = .ok (.aload_n 0, 1) := by decide +kernel
theorem dX4_set_61 : decode cX4_set 61 = .ok (.getfield 10, 3) := by decide +kernel
theorem dX4_set_64 : decode cX4_set 64 = .ok (.getfield 120, 3) := by decide +kernel
theorem dX4_set_67 : decode cX4_set 67 = .ok (.iload_n 1, 1) := by decide +kernel
theorem dX4_set_68 : decode cX4_set 68 = .ok (.invokestatic 111, 3) := by decide +kernel
theorem dX4_set_71 : decode cX4_set 71 = .ok (.istore_n 3, 1) := by decide +kernel
theorem dX4_set_72 : decode cX4_set 72 = .ok (.aload_n 0, 1) := by decide +kernel
theorem dX4_set_73 : decode cX4_set 73 = .ok (.getfield 10, 3) := by decide +kernel
theorem dX4_set_76 : decode cX4_set 76 = .ok (.getfield 120, 3) := by decide +kernel
theorem dX4_set_79 : decode cX4_set 79 = .ok (.iload_n 1, 1) := by decide +kernel
theorem dX4_set_80 : decode cX4_set 80 = .ok (.iload_n 2, 1) := by decide +kernel
theorem dX4_set_81 : decode cX4_set 81 = .ok (.invokestatic 123, 3) := by decide +kernel
theorem dX4_set_84 : decode cX4_set 84 = .ok (.iload_n 3, 1) := by decide +kernel
theorem dX4_set_85 : decode cX4_set 85 = .ok (.ireturn, 1) := by decide +kernel
theorem dX4_buy_0 : decode cX4_buy 0 = .ok (.iload_n 1, 1) := by decide +kernel
theorem dX4_buy_1 : decode cX4_buy 1 = .ok (.invokestatic 91, 3) := by decide +kernel
theorem dX4_buy_4 : decode cX4_buy 4 = .ok (.ifCond .eq 14, 3) := by decide +kernel
theorem dX4_buy_7 : decode cX4_buy 7 = .ok (.iload_n 2, 1) := by decide +kernel
theorem dX4_buy_8 : decode cX4_buy 8 = .ok (.iconst 1, 1) := by decide +kernel
theorem dX4_buy_9 : decode cX4_buy 9 = .ok (.if_icmp .lt 9, 3) := by decide +kernel
theorem dX4_buy_12 : decode cX4_buy 12 = .ok (.iload_n 2, 1) := by decide +kernel
theorem dX4_buy_13 : decode cX4_buy 13 = .ok (.bipush 100, 2) := by decide +kernel
theorem dX4_buy_15 : decode cX4_buy 15 = .ok (.if_icmp .le 13, 3) := by decide +kernel
theorem dX4_buy_18 : decode cX4_buy 18 = .ok (.new 45, 3) := by decide +kernel
theorem dX4_buy_21 : decode cX4_buy 21 = .ok (.dup, 1) := by decide +kernel
theorem dX4_buy_22 : decode cX4_buy 22 = .ok (.ldc 127, 2) := by decide +kernel
theorem dX4_buy_24 : decode cX4_buy 24 = .ok (.invokespecial 49, 3) := by decide +kernel
theorem dX4_buy_27 : decode cX4_buy 27 = .ok (.athrow, 1) := by decide +kernel
theorem dX4_buy_28 : decode cX4_buy 28 = .ok (.aload_n 0, 1) := by decide +kernel
theorem dX4_buy_29 : decode cX4_buy 29 = .ok (.getfield 10, 3) := by decide +kernel
theorem dX4_buy_32 : decode cX4_buy 32 = .ok (.getfield 129, 3) := by decide +kernel
theorem dX4_buy_35 : decode cX4_buy 35 = .ok (.iload_n 1, 1) := by decide +kernel
theorem dX4_buy_36 : decode cX4_buy 36 = .ok (.invokestatic 111, 3) := by decide +kernel
theorem dX4_buy_39 : decode cX4_buy 39 = .ok (.iload_n 2, 1) := by decide +kernel
theorem dX4_buy_40 : decode cX4_buy 40 = .ok (.iadd, 1) := by decide +kernel
theorem dX4_buy_41 : decode cX4_buy 41 = .ok (.sipush 600, 3) := by decide +kernel
theorem dX4_buy_44 : decode cX4_buy 44 = .ok (.if_icmp .le 13, 3) := by decide +kernel
theorem dX4_buy_47 : decode cX4_buy 47 = .ok (.new 56, 3) := by decide +kernel
theorem dX4_buy_50 : decode cX4_buy 50 = .ok (.dup, 1) := by decide +kernel
theorem dX4_buy_51 : decode cX4_buy 51 = .ok (.ldc 132, 2) := by decide +kernel
theorem dX4_buy_53 : decode cX4_buy 53 = .ok (.invokespecial 60, 3) := by decide +kernel
theorem dX4_buy_56 : decode cX4_buy 56 = .ok (.athrow, 1) := by decide +kernel
theorem dX4_buy_57 : decode cX4_buy 57 = .ok (.aload_n 0, 1) := by decide +kernel
theorem dX4_buy_58 : decode cX4_buy 58 = .ok (.getfield 19, 3) := by decide +kernel
theorem dX4_buy_61 : decode cX4_buy 61 = .ok (.aload_n 0, 1) := by decide +kernel
theorem dX4_buy_62 : decode cX4_buy 62 = .ok (.getfield 10, 3) := by decide +kernel
theorem dX4_buy_65 : decode cX4_buy 65 = .ok (.invokevirtual 61, 3) := by decide +kernel
theorem dX4_buy_68 : decode cX4_buy 68 = .ok (.aload_n 0, 1) := by decide +kernel
theorem dX4_buy_69 : decode cX4_buy 69 = .ok (.getfield 10, 3) := by decide +kernel
theorem dX4_buy_72 : decode cX4_buy 72 = .ok (.getfield 129, 3) := by decide +kernel
theorem dX4_buy_75 : decode cX4_buy 75 = .ok (.iload_n 1, 1) := by decide +kernel
theorem dX4_buy_76 : decode cX4_buy 76 = .ok (.iload_n 2, 1) := by decide +kernel
theorem dX4_buy_77 : decode cX4_buy 77 = .ok (.invokestatic 134, 3) := by decide +kernel
theorem dX4_buy_80 : decode cX4_buy 80 = .ok (.aload_n 0, 1) := by decide +kernel
theorem dX4_buy_81 : decode cX4_buy 81 = .ok (.getfield 10, 3) := by decide +kernel
theorem dX4_buy_84 : decode cX4_buy 84 = .ok (.getfield 137, 3) := by decide +kernel
theorem dX4_buy_87 : decode cX4_buy 87 = .ok (.iload_n 1, 1) := by decide +kernel
theorem dX4_buy_88 : decode cX4_buy 88 = .ok (.iload_n 2, 1) := by decide +kernel
theorem dX4_buy_89 : decode cX4_buy 89 = .ok (.invokestatic 134, 3) := by decide +kernel
theorem dX4_buy_92 : decode cX4_buy 92 = .ok (.aload_n 0, 1) := by decide +kernel
theorem dX4_buy_93 : decode cX4_buy 93 = .ok (.getfield 10, 3) := by decide +kernel
theorem dX4_buy_96 : decode cX4_buy 96 = .ok (.getfield 137, 3) := by decide +kernel
theorem dX4_buy_99 : decode cX4_buy 99 = .ok (.iload_n 1, 1) := by decide +kernel
theorem dX4_buy_100 : decode cX4_buy 100 = .ok (.invokestatic 111, 3) := by decide +kernel
theorem dX4_buy_103 : decode cX4_buy 103 = .ok (.ireturn, 1) := by decide +kernel
theorem dX4_string_0 : decode cX4_string 0 = .ok (.iload_n 1, 1) := by decide +kernel
theorem dX4_string_1 : decode cX4_string 1 = .ok (.invokestatic 91, 3) := by decide +kernel
theorem dX4_string_4 : decode cX4_string 4 = .ok (.ifCond .eq 10, 3) := by decide +kernel
theorem dX4_string_7 : decode cX4_string 7 = .ok (.iload_n 2, 1) := by decide +kernel
theorem dX4_string_8 : decode cX4_string 8 = .ok (.invokestatic 140, 3) := by decide +kernel
theorem dX4_string_11 : decode cX4_string 11 = .ok (.ifCond .ne 13, 3) := by decide +kernel
theorem dX4_string_14 : decode cX4_string 14 = .ok (.new 45, 3) := by decide +kernel
theorem dX4_string_17 : decode cX4_string 17 = .ok (.dup, 1) := by decide +kernel
theorem dX4_string_18 : decode cX4_string 18 = .ok (.ldc 127, 2) := by decide +kernel
theorem dX4_string_20 : decode cX4_string 20 = .ok (.invokespecial 49, 3) := by decide +kernel
theorem dX4_string_23 : decode cX4_string 23 = .ok (.athrow, 1) := by decide +kernel
theorem dX4_string_24 : decode cX4_string 24 = .ok (.iconst 0, 1) := by decide +kernel
theorem dX4_string_25 : decode cX4_string 25 = .ok (.istore_n 3, 1) := by decide +kernel
theorem dX4_string_26 : decode cX4_string 26 = .ok (.iload_n 3, 1) := by decide +kernel
theorem dX4_string_27 : decode cX4_string 27 = .ok (.iload_n 2, 1) := by decide +kernel
theorem dX4_string_28 : decode cX4_string 28 = .ok (.if_icmp .ge 18, 3) := by decide +kernel
theorem dX4_string_31 : decode cX4_string 31 = .ok (.aload_n 0, 1) := by decide +kernel
theorem dX4_string_32 : decode cX4_string 32 = .ok (.getfield 37, 3) := by decide +kernel
theorem dX4_string_35 : decode cX4_string 35 = .ok (.iload_n 3, 1) := by decide +kernel
theorem dX4_string_36 : decode cX4_string 36 = .ok (.iload_n 1, 1) := by decide +kernel
theorem dX4_string_37 : decode cX4_string 37 = .ok (.invokestatic 123, 3) := by decide +kernel
theorem dX4_string_40 : decode cX4_string 40 = .ok (.iinc 3 1, 3) := by decide +kernel
theorem dX4_string_43 : decode cX4_string 43 = .ok (.goto (-17), 3) := by decide +kernel
theorem dX4_string_46 : decode cX4_string 46 = .ok (.aload_n 0, 1) := by decide +kernel
theorem dX4_string_47 : decode cX4_string 47 = .ok (.iload_n 2, 1) := by decide +kernel
theorem dX4_string_48 : decode cX4_string 48 = .ok (.invokevirtual 143, 3) := by decide +kernel
theorem dX4_string_51 : decode cX4_string 51 = .ok (.ireturn, 1) := by decide +kernel
theorem dX4_stringNext_0 : decode cX4_stringNext 0 = .ok (.iload_n 1, 1) := by decide +kernel
theorem dX4_stringNext_1 : decode cX4_stringNext 1 = .ok (.invokestatic 140, 3) := by decide +kernel
theorem dX4_stringNext_4 : decode cX4_stringNext 4 = .ok (.ifCond .ne 13, 3) := by decide +kernel
theorem dX4_stringNext_7 : decode cX4_stringNext 7 = .ok (.new 45, 3) := by decide +kernel
theorem dX4_stringNext_10 : decode cX4_stringNext 10 = .ok (.dup, 1) := by decide +kernel
theorem dX4_stringNext_11 : decode cX4_stringNext 11 = .ok (.ldc 147, 2) := by decide +kernel
theorem dX4_stringNext_13 : decode cX4_stringNext 13 = .ok (.invokespecial 49, 3) := by decide +kernel
theorem dX4_stringNext_16 : decode cX4_stringNext 16 = .ok (.athrow, 1) := by decide +kernel
theorem dX4_stringNext_17 : decode cX4_stringNext 17 = .ok (.iconst 0, 1) := by decide +kernel
theorem dX4_stringNext_18 : decode cX4_stringNext 18 = .ok (.istore_n 2, 1) := by decide +kernel
theorem dX4_stringNext_19 : decode cX4_stringNext 19 = .ok (.iload_n 2, 1) := by decide +kernel
theorem dX4_stringNext_20 : decode cX4_stringNext 20 = .ok (.iload_n 1, 1) := by decide +kernel
theorem dX4_stringNext_21 : decode cX4_stringNext 21 = .ok (.if_icmp .ge 33, 3) := by decide +kernel
theorem dX4_stringNext_24 : decode cX4_stringNext 24 = .ok (.aload_n 0, 1) := by decide +kernel
theorem dX4_stringNext_25 : decode cX4_stringNext 25 = .ok (.getfield 37, 3) := by decide +kernel
theorem dX4_stringNext_28 : decode cX4_stringNext 28 = .ok (.iload_n 2, 1) := by decide +kernel
theorem dX4_stringNext_29 : decode cX4_stringNext 29 = .ok (.aload_n 0, 1) := by decide +kernel
theorem dX4_stringNext_30 : decode cX4_stringNext 30 = .ok (.getfield 10, 3) := by decide +kernel
theorem dX4_stringNext_33 : decode cX4_stringNext 33 = .ok (.aload_n 0, 1) := by decide +kernel
theorem dX4_stringNext_34 : decode cX4_stringNext 34 = .ok (.getfield 10, 3) := by decide +kernel
theorem dX4_stringNext_37 : decode cX4_stringNext 37 = .ok (.getfield 149, 3) := by decide +kernel
theorem dX4_stringNext_40 : decode cX4_stringNext 40 = .ok (.iload_n 2, 1) := by decide +kernel
theorem dX4_stringNext_41 : decode cX4_stringNext 41 = .ok (.iadd, 1) := by decide +kernel
theorem dX4_stringNext_42 : decode cX4_stringNext 42 = .ok (.invokevirtual 152, 3) := by decide +kernel
theorem dX4_stringNext_45 : decode cX4_stringNext 45 = .ok (.invokestatic 123, 3) := by decide +kernel
theorem dX4_stringNext_48 : decode cX4_stringNext 48 = .ok (.iinc 2 1, 3) := by decide +kernel
theorem dX4_stringNext_51 : decode cX4_stringNext 51 = .ok (.goto (-32), 3) := by decide +kernel
theorem dX4_stringNext_54 : decode cX4_stringNext 54 = .ok (.aload_n 0, 1) := by decide +kernel
theorem dX4_stringNext_55 : decode cX4_stringNext 55 = .ok (.iload_n 1, 1) := by decide +kernel
theorem dX4_stringNext_56 : decode cX4_stringNext 56 = .ok (.invokevirtual 143, 3) := by decide +kernel
theorem dX4_stringNext_59 : decode cX4_stringNext 59 = .ok (.ireturn, 1) := by decide +kernel
theorem dX4_join_0 : decode cX4_join 0 = .ok (.aload_n 0, 1) := by decide +kernel
theorem dX4_join_1 : decode cX4_join 1 = .ok (.getfield 10, 3) := by decide +kernel
theorem dX4_join_4 : decode cX4_join 4 = .ok (.aload_n 0, 1) := by decide +kernel
theorem dX4_join_5 : decode cX4_join 5 = .ok (.getfield 10, 3) := by decide +kernel
theorem dX4_join_8 : decode cX4_join 8 = .ok (.getfield 161, 3) := by decide +kernel
theorem dX4_join_11 : decode cX4_join 11 = .ok (.iconst 1, 1) := by decide +kernel
theorem dX4_join_12 : decode cX4_join 12 = .ok (.isub, 1) := by decide +kernel
theorem dX4_join_13 : decode cX4_join 13 = .ok (.invokevirtual 164, 3) := by decide +kernel
theorem dX4_join_16 : decode cX4_join 16 = .ok (.ifCond .eq 15, 3) := by decide +kernel
theorem dX4_join_19 : decode cX4_join 19 = .ok (.aload_n 0, 1) := by decide +kernel
theorem dX4_join_20 : decode cX4_join 20 = .ok (.getfield 10, 3) := by decide +kernel
theorem dX4_join_23 : decode cX4_join 23 = .ok (.getfield 161, 3) := by decide +kernel
theorem dX4_join_26 : decode cX4_join 26 = .ok (.bipush 48, 2) := by decide +kernel
theorem dX4_join_28 : decode cX4_join 28 = .ok (.if_icmp .lt 13, 3) := by decide +kernel
theorem dX4_join_31 : decode cX4_join 31 = .ok (.new 56, 3) := by decide +kernel
theorem dX4_join_34 : decode cX4_join 34 = .ok (.dup, 1) := by decide +kernel
theorem dX4_join_35 : decode cX4_join 35 = .ok (.ldc 167, 2) := by decide +kernel
theorem dX4_join_37 : decode cX4_join 37 = .ok (.invokespecial 60, 3) := by decide +kernel
theorem dX4_join_40 : decode cX4_join 40 = .ok (.athrow, 1) := by decide +kernel
theorem dX4_join_41 : decode cX4_join 41 = .ok (.aload_n 0, 1) := by decide +kernel
theorem dX4_join_42 : decode cX4_join 42 = .ok (.getfield 19, 3) := by decide +kernel
theorem dX4_join_45 : decode cX4_join 45 = .ok (.aload_n 0, 1) := by decide +kernel
theorem dX4_join_46 : decode cX4_join 46 = .ok (.getfield 10, 3) := by decide +kernel
theorem dX4_join_49 : decode cX4_join 49 = .ok (.invokevirtual 61, 3) := by decide +kernel
theorem dX4_join_52 : decode cX4_join 52 = .ok (.aload_n 0, 1) := by decide +kernel
theorem dX4_join_53 : decode cX4_join 53 = .ok (.getfield 10, 3) := by decide +kernel
theorem dX4_join_56 : decode cX4_join 56 = .ok (.getfield 169, 3) := by decide +kernel
theorem dX4_join_59 : decode cX4_join 59 = .ok (.aload_n 0, 1) := by decide +kernel
theorem dX4_join_60 : decode cX4_join 60 = .ok (.getfield 10, 3) := by decide +kernel
theorem dX4_join_63 : decode cX4_join 63 = .ok (.getfield 161, 3) := by decide +kernel
theorem dX4_join_66 : decode cX4_join 66 = .ok (.aload_n 0, 1) := by decide +kernel
theorem dX4_join_67 : decode cX4_join 67 = .ok (.getfield 10, 3) := by decide +kernel
theorem dX4_join_70 : decode cX4_join 70 = .ok (.getfield 149, 3) := by decide +kernel
theorem dX4_join_73 : decode cX4_join 73 = .ok (.invokestatic 123, 3) := by decide +kernel
theorem dX4_join_76 : decode cX4_join 76 = .ok (.aload_n 0, 1) := by decide +kernel
theorem dX4_join_77 : decode cX4_join 77 = .ok (.getfield 10, 3) := by decide +kernel
theorem dX4_join_80 : decode cX4_join 80 = .ok (.dup, 1) := by decide +kernel
theorem dX4_join_81 : decode cX4_join 81 = .ok (.getfield 161, 3) := by decide +kernel
theorem dX4_join_84 : decode cX4_join 84 = .ok (.iconst 1, 1) := by decide +kernel
theorem dX4_join_85 : decode cX4_join 85 = .ok (.iadd, 1) := by decide +kernel
theorem dX4_join_86 : decode cX4_join 86 = .ok (.putfield 161, 3) := by decide +kernel
theorem dX4_join_89 : decode cX4_join 89 = .ok (.aload_n 0, 1) := by decide +kernel
theorem dX4_join_90 : decode cX4_join 90 = .ok (.getfield 10, 3) := by decide +kernel
theorem dX4_join_93 : decode cX4_join 93 = .ok (.aload_n 0, 1) := by decide +kernel
theorem dX4_join_94 : decode cX4_join 94 = .ok (.getfield 10, 3) := by decide +kernel
theorem dX4_join_97 : decode cX4_join 97 = .ok (.getfield 161, 3) := by decide +kernel
theorem dX4_join_100 : decode cX4_join 100 = .ok (.iconst 1, 1) := by decide +kernel
theorem dX4_join_101 : decode cX4_join 101 = .ok (.isub, 1) := by decide +kernel
theorem dX4_join_102 : decode cX4_join 102 = .ok (.invokevirtual 172, 3) := by decide +kernel
theorem dX4_join_105 : decode cX4_join 105 = .ok (.ifCond .eq 7, 3) := by decide +kernel
theorem dX4_join_108 : decode cX4_join 108 = .ok (.iconst 1, 1) := by decide +kernel
theorem dX4_join_109 : decode cX4_join 109 = .ok (.goto 4, 3) := by decide +kernel
theorem dX4_join_112 : decode cX4_join 112 = .ok (.iconst 0, 1) := by decide +kernel
theorem dX4_join_113 : decode cX4_join 113 = .ok (.ireturn, 1) := by decide +kernel
theorem dX4_crush_0 : decode cX4_crush 0 = .ok (.aload_n 0, 1) := by decide +kernel
theorem dX4_crush_1 : decode cX4_crush 1 = .ok (.iload_n 1, 1) := by decide +kernel
theorem dX4_crush_2 : decode cX4_crush 2 = .ok (.invokevirtual 175, 3) := by decide +kernel
theorem dX4_crush_5 : decode cX4_crush 5 = .ok (.ifCond .ne 13, 3) := by decide +kernel
theorem dX4_crush_8 : decode cX4_crush 8 = .ok (.new 103, 3) := by decide +kernel
theorem dX4_crush_11 : decode cX4_crush 11 = .ok (.dup, 1) := by decide +kernel
theorem dX4_crush_12 : decode cX4_crush 12 = .ok (.ldc 178, 2) := by decide +kernel
theorem dX4_crush_14 : decode cX4_crush 14 = .ok (.invokespecial 107, 3) := by decide +kernel
theorem dX4_crush_17 : decode cX4_crush 17 = .ok (.athrow, 1) := by decide +kernel
theorem dX4_crush_18 : decode cX4_crush 18 = .ok (.aload_n 0, 1) := by decide +kernel
theorem dX4_crush_19 : decode cX4_crush 19 = .ok (.getfield 19, 3) := by decide +kernel
theorem dX4_crush_22 : decode cX4_crush 22 = .ok (.aload_n 0, 1) := by decide +kernel
theorem dX4_crush_23 : decode cX4_crush 23 = .ok (.getfield 10, 3) := by decide +kernel
theorem dX4_crush_26 : decode cX4_crush 26 = .ok (.invokevirtual 61, 3) := by decide +kernel
theorem dX4_crush_29 : decode cX4_crush 29 = .ok (.aload_n 0, 1) := by decide +kernel
theorem dX4_crush_30 : decode cX4_crush 30 = .ok (.getfield 10, 3) := by decide +kernel
theorem dX4_crush_33 : decode cX4_crush 33 = .ok (.iload_n 1, 1) := by decide +kernel
theorem dX4_crush_34 : decode cX4_crush 34 = .ok (.invokevirtual 180, 3) := by decide +kernel
theorem dX4_crush_37 : decode cX4_crush 37 = .ok (.aload_n 0, 1) := by decide +kernel
theorem dX4_crush_38 : decode cX4_crush 38 = .ok (.getfield 10, 3) := by decide +kernel
theorem dX4_crush_41 : decode cX4_crush 41 = .ok (.getfield 149, 3) := by decide +kernel
theorem dX4_crush_44 : decode cX4_crush 44 = .ok (.ireturn, 1) := by decide +kernel
theorem dX4_unpick_0 : decode cX4_unpick 0 = .ok (.iload_n 1, 1) := by decide +kernel
theorem dX4_unpick_1 : decode cX4_unpick 1 = .ok (.iconst 1, 1) := by decide +kernel
theorem dX4_unpick_2 : decode cX4_unpick 2 = .ok (.if_icmp .lt 10, 3) := by decide +kernel
theorem dX4_unpick_5 : decode cX4_unpick 5 = .ok (.iload_n 1, 1) := by decide +kernel
theorem dX4_unpick_6 : decode cX4_unpick 6 = .ok (.sipush 240, 3) := by decide +kernel
theorem dX4_unpick_9 : decode cX4_unpick 9 = .ok (.if_icmp .le 13, 3) := by decide +kernel
theorem dX4_unpick_12 : decode cX4_unpick 12 = .ok (.new 45, 3) := by decide +kernel
theorem dX4_unpick_15 : decode cX4_unpick 15 = .ok (.dup, 1) := by decide +kernel
theorem dX4_unpick_16 : decode cX4_unpick 16 = .ok (.ldc 147, 2) := by decide +kernel
theorem dX4_unpick_18 : decode cX4_unpick 18 = .ok (.invokespecial 49, 3) := by decide +kernel
theorem dX4_unpick_21 : decode cX4_unpick 21 = .ok (.athrow, 1) := by decide +kernel
theorem dX4_unpick_22 : decode cX4_unpick 22 = .ok (.iload_n 1, 1) := by decide +kernel
theorem dX4_unpick_23 : decode cX4_unpick 23 = .ok (.aload_n 0, 1) := by decide +kernel
theorem dX4_unpick_24 : decode cX4_unpick 24 = .ok (.getfield 10, 3) := by decide +kernel
theorem dX4_unpick_27 : decode cX4_unpick 27 = .ok (.getfield 149, 3) := by decide +kernel
theorem dX4_unpick_30 : decode cX4_unpick 30 = .ok (.if_icmp .le 13, 3) := by decide +kernel
theorem dX4_unpick_33 : decode cX4_unpick 33 = .ok (.new 56, 3) := by decide +kernel
theorem dX4_unpick_36 : decode cX4_unpick 36 = .ok (.dup, 1) := by decide +kernel
theorem dX4_unpick_37 : decode cX4_unpick 37 = .ok (.ldc 184, 2) := by decide +kernel
theorem dX4_unpick_39 : decode cX4_unpick 39 = .ok (.invokespecial 60, 3) := by decide +kernel
theorem dX4_unpick_42 : decode cX4_unpick 42 = .ok (.athrow, 1) := by decide +kernel
theorem dX4_unpick_43 : decode cX4_unpick 43 = .ok (.aload_n 0, 1) := by decide +kernel
theorem dX4_unpick_44 : decode cX4_unpick 44 = .ok (.getfield 19, 3) := by decide +kernel
theorem dX4_unpick_47 : decode cX4_unpick 47 = .ok (.aload_n 0, 1) := by decide +kernel
theorem dX4_unpick_48 : decode cX4_unpick 48 = .ok (.getfield 10, 3) := by decide +kernel
theorem dX4_unpick_51 : decode cX4_unpick 51 = .ok (.invokevirtual 61, 3) := by decide +kernel
theorem dX4_unpick_54 : decode cX4_unpick 54 = .ok (.aload_n 0, 1) := by decide +kernel
theorem dX4_unpick_55 : decode cX4_unpick 55 = .ok (.getfield 10, 3) := by decide +kernel
theorem dX4_unpick_58 : decode cX4_unpick 58 = .ok (.iload_n 1, 1) := by decide +kernel
theorem dX4_unpick_59 : decode cX4_unpick 59 = .ok (.invokevirtual 186, 3) := by decide +kernel
theorem dX4_unpick_62 : decode cX4_unpick 62 = .ok (.aload_n 0, 1) := by decide +kernel
theorem dX4_unpick_63 : decode cX4_unpick 63 = .ok (.getfield 10, 3) := by decide +kernel
theorem dX4_unpick_66 : decode cX4_unpick 66 = .ok (.getfield 149, 3) := by decide +kernel
theorem dX4_unpick_69 : decode cX4_unpick 69 = .ok (.ireturn, 1) := by decide +kernel
theorem dX4_append_0 : decode cX4_append 0 = .ok (.iload_n 1, 1) := by decide +kernel
theorem dX4_append_1 : decode cX4_append 1 = .ok (.bipush 33, 2) := by decide +kernel
theorem dX4_append_3 : decode cX4_append 3 = .ok (.if_icmp .lt 9, 3) := by decide +kernel
theorem dX4_append_6 : decode cX4_append 6 = .ok (.iload_n 1, 1) := by decide +kernel
theorem dX4_append_7 : decode cX4_append 7 = .ok (.bipush 126, 2) := by decide +kernel
theorem dX4_append_9 : decode cX4_append 9 = .ok (.if_icmp .le 13, 3) := by decide +kernel
theorem dX4_append_12 : decode cX4_append 12 = .ok (.new 45, 3) := by decide +kernel
theorem dX4_append_15 : decode cX4_append 15 = .ok (.dup, 1) := by decide +kernel
theorem dX4_append_16 : decode cX4_append 16 = .ok (.ldc 189, 2) := by decide +kernel
theorem dX4_append_18 : decode cX4_append 18 = .ok (.invokespecial 49, 3) := by decide +kernel
theorem dX4_append_21 : decode cX4_append 21 = .ok (.athrow, 1) := by decide +kernel
theorem dX4_append_22 : decode cX4_append 22 = .ok (.aload_n 0, 1) := by decide +kernel
theorem dX4_append_23 : decode cX4_append 23 = .ok (.getfield 26, 3) := by decide +kernel
theorem dX4_append_26 : decode cX4_append 26 = .ok (.getfield 191, 3) := by decide +kernel
theorem dX4_append_29 : decode cX4_append 29 = .ok (.bipush 60, 2) := by decide +kernel
theorem dX4_append_31 : decode cX4_append 31 = .ok (.if_icmp .lt 13, 3) := by decide +kernel
theorem dX4_append_34 : decode cX4_append 34 = .ok (.new 56, 3) := by decide +kernel
theorem dX4_append_37 : decode cX4_append 37 = .ok (.dup, 1) := by decide +kernel
theorem dX4_append_38 : decode cX4_append 38 = .ok (.ldc 194, 2) := by decide +kernel
theorem dX4_append_40 : decode cX4_append 40 = .ok (.invokespecial 60, 3) := by decide +kernel
theorem dX4_append_43 : decode cX4_append 43 = .ok (.athrow, 1) := by decide +kernel
theorem dX4_append_44 : decode cX4_append 44 = .ok (.aload_n 0, 1) := by decide +kernel
theorem dX4_append_45 : decode cX4_append 45 = .ok (.getfield 26, 3) := by decide +kernel
theorem dX4_append_48 : decode cX4_append 48 = .ok (.getfield 196, 3) := by decide +kernel
theorem dX4_append_51 : decode cX4_append 51 = .ok (.aload_n 0, 1) := by decide +kernel
theorem dX4_append_52 : decode cX4_append 52 = .ok (.getfield 26, 3) := by decide +kernel
theorem dX4_append_55 : decode cX4_append 55 = .ok (.getfield 191, 3) := by decide +kernel
theorem dX4_append_58 : decode cX4_append 58 = .ok (.iload_n 1, 1) := by decide +kernel
theorem dX4_append_59 : decode cX4_append 59 = .ok (.invokestatic 123, 3) := by decide +kernel
theorem dX4_append_62 : decode cX4_append 62 = .ok (.aload_n 0, 1) := by decide +kernel
theorem dX4_append_63 : decode cX4_append 63 = .ok (.getfield 26, 3) := by decide +kernel
theorem dX4_append_66 : decode cX4_append 66 = .ok (.dup, 1) := by decide +kernel
theorem dX4_append_67 : decode cX4_append 67 = .ok (.getfield 191, 3) := by decide +kernel
theorem dX4_append_70 : decode cX4_append 70 = .ok (.iconst 1, 1) := by decide +kernel
theorem dX4_append_71 : decode cX4_append 71 = .ok (.iadd, 1) := by decide +kernel
theorem dX4_append_72 : decode cX4_append 72 = .ok (.putfield 191, 3) := by decide +kernel
theorem dX4_append_75 : decode cX4_append 75 = .ok (.aload_n 0, 1) := by decide +kernel
theorem dX4_append_76 : decode cX4_append 76 = .ok (.getfield 26, 3) := by decide +kernel
theorem dX4_append_79 : decode cX4_append 79 = .ok (.getfield 191, 3) := by decide +kernel
theorem dX4_append_82 : decode cX4_append 82 = .ok (.ireturn, 1) := by decide +kernel
theorem dX4_clearBuffer_0 : decode cX4_clearBuffer 0 = .ok (.aload_n 0, 1) := by decide +kernel
theorem dX4_clearBuffer_1 : decode cX4_clearBuffer 1 = .ok (.getfield 26, 3) := by decide +kernel
theorem dX4_clearBuffer_4 : decode cX4_clearBuffer 4 = .ok (.getfield 191, 3) := by decide +kernel
theorem dX4_clearBuffer_7 : decode cX4_clearBuffer 7 = .ok (.istore_n 1, 1) := by decide +kernel
theorem dX4_clearBuffer_8 : decode cX4_clearBuffer 8 = .ok (.aload_n 0, 1) := by decide +kernel
theorem dX4_clearBuffer_9 : decode cX4_clearBuffer 9 = .ok (.getfield 26, 3) := by decide +kernel
theorem dX4_clearBuffer_12 : decode cX4_clearBuffer 12 = .ok (.invokevirtual 72, 3) := by decide +kernel
theorem dX4_clearBuffer_15 : decode cX4_clearBuffer 15 = .ok (.iload_n 1, 1) := by decide +kernel
theorem dX4_clearBuffer_16 : decode cX4_clearBuffer 16 = .ok (.ireturn, 1) := by decide +kernel
theorem dX4_firstError_0 : decode cX4_firstError 0 = .ok (.aload_n 0, 1) := by decide +kernel
theorem dX4_firstError_1 : decode cX4_firstError 1 = .ok (.getfield 26, 3) := by decide +kernel
theorem dX4_firstError_4 : decode cX4_firstError 4 = .ok (.iload_n 1, 1) := by decide +kernel
theorem dX4_firstError_5 : decode cX4_firstError 5 = .ok (.invokevirtual 199, 3) := by decide +kernel
theorem dX4_firstError_8 : decode cX4_firstError 8 = .ok (.ireturn, 1) := by decide +kernel
theorem dX4_pattern_0 : decode cX4_pattern 0 = .ok (.iload_n 1, 1) := by decide +kernel
theorem dX4_pattern_1 : decode cX4_pattern 1 = .ok (.ifCond .lt 19, 3) := by decide +kernel
theorem dX4_pattern_4 : decode cX4_pattern 4 = .ok (.iload_n 1, 1) := by decide +kernel
theorem dX4_pattern_5 : decode cX4_pattern 5 = .ok (.sipush 240, 3) := by decide +kernel
theorem dX4_pattern_8 : decode cX4_pattern 8 = .ok (.if_icmp .ge 12, 3) := by decide +kernel
theorem dX4_pattern_11 : decode cX4_pattern 11 = .ok (.iload_n 2, 1) := by decide +kernel
theorem dX4_pattern_12 : decode cX4_pattern 12 = .ok (.ifCond .lt 8, 3) := by decide +kernel
theorem dX4_pattern_15 : decode cX4_pattern 15 = .ok (.iload_n 2, 1) := by decide +kernel
theorem dX4_pattern_16 : decode cX4_pattern 16 = .ok (.iconst 4, 1) := by decide +kernel
theorem dX4_pattern_17 : decode cX4_pattern 17 = .ok (.if_icmp .lt 13, 3) := by decide +kernel
theorem dX4_pattern_20 : decode cX4_pattern 20 = .ok (.new 45, 3) := by decide +kernel
theorem dX4_pattern_23 : decode cX4_pattern 23 = .ok (.dup, 1) := by decide +kernel
theorem dX4_pattern_24 : decode cX4_pattern 24 = .ok (.ldc 219, 2) := by decide +kernel
theorem dX4_pattern_26 : decode cX4_pattern 26 = .ok (.invokespecial 49, 3) := by decide +kernel
theorem dX4_pattern_29 : decode cX4_pattern 29 = .ok (.athrow, 1) := by decide +kernel
theorem dX4_pattern_30 : decode cX4_pattern 30 = .ok (.aload_n 0, 1) := by decide +kernel
theorem dX4_pattern_31 : decode cX4_pattern 31 = .ok (.getfield 10, 3) := by decide +kernel
theorem dX4_pattern_34 : decode cX4_pattern 34 = .ok (.iload_n 1, 1) := by decide +kernel
theorem dX4_pattern_35 : decode cX4_pattern 35 = .ok (.iload_n 2, 1) := by decide +kernel
theorem dX4_pattern_36 : decode cX4_pattern 36 = .ok (.invokevirtual 221, 3) := by decide +kernel
theorem dX4_pattern_39 : decode cX4_pattern 39 = .ok (.ireturn, 1) := by decide +kernel
theorem dX4_bead_0 : decode cX4_bead 0 = .ok (.aload_n 0, 1) := by decide +kernel
theorem dX4_bead_1 : decode cX4_bead 1 = .ok (.iload_n 1, 1) := by decide +kernel
theorem dX4_bead_2 : decode cX4_bead 2 = .ok (.invokevirtual 175, 3) := by decide +kernel
theorem dX4_bead_5 : decode cX4_bead 5 = .ok (.ifCond .ne 13, 3) := by decide +kernel
theorem dX4_bead_8 : decode cX4_bead 8 = .ok (.new 103, 3) := by decide +kernel
theorem dX4_bead_11 : decode cX4_bead 11 = .ok (.dup, 1) := by decide +kernel
theorem dX4_bead_12 : decode cX4_bead 12 = .ok (.ldc 178, 2) := by decide +kernel
theorem dX4_bead_14 : decode cX4_bead 14 = .ok (.invokespecial 107, 3) := by decide +kernel
theorem dX4_bead_17 : decode cX4_bead 17 = .ok (.athrow, 1) := by decide +kernel
theorem dX4_bead_18 : decode cX4_bead 18 = .ok (.iload_n 2, 1) := by decide +kernel
theorem dX4_bead_19 : decode cX4_bead 19 = .ok (.ifCond .lt 8, 3) := by decide +kernel
theorem dX4_bead_22 : decode cX4_bead 22 = .ok (.iload_n 2, 1) := by decide +kernel
theorem dX4_bead_23 : decode cX4_bead 23 = .ok (.iconst 4, 1) := by decide +kernel
theorem dX4_bead_24 : decode cX4_bead 24 = .ok (.if_icmp .lt 13, 3) := by decide +kernel
theorem dX4_bead_27 : decode cX4_bead 27 = .ok (.new 45, 3) := by decide +kernel
theorem dX4_bead_30 : decode cX4_bead 30 = .ok (.dup, 1) := by decide +kernel
theorem dX4_bead_31 : decode cX4_bead 31 = .ok (.ldc 224, 2) := by decide +kernel
theorem dX4_bead_33 : decode cX4_bead 33 = .ok (.invokespecial 49, 3) := by decide +kernel
theorem dX4_bead_36 : decode cX4_bead 36 = .ok (.athrow, 1) := by decide +kernel
theorem dX4_bead_37 : decode cX4_bead 37 = .ok (.aload_n 0, 1) := by decide +kernel
theorem dX4_bead_38 : decode cX4_bead 38 = .ok (.getfield 10, 3) := by decide +kernel
theorem dX4_bead_41 : decode cX4_bead 41 = .ok (.iload_n 1, 1) := by decide +kernel
theorem dX4_bead_42 : decode cX4_bead 42 = .ok (.iload_n 2, 1) := by decide +kernel
theorem dX4_bead_43 : decode cX4_bead 43 = .ok (.invokevirtual 226, 3) := by decide +kernel
theorem dX4_bead_46 : decode cX4_bead 46 = .ok (.ireturn, 1) := by decide +kernel
theorem dX4_strand_0 : decode cX4_strand 0 = .ok (.iload_n 1, 1) := by decide +kernel
theorem dX4_strand_1 : decode cX4_strand 1 = .ok (.ifCond .lt 14, 3) := by decide +kernel
theorem dX4_strand_4 : decode cX4_strand 4 = .ok (.iload_n 1, 1) := by decide +kernel
theorem dX4_strand_5 : decode cX4_strand 5 = .ok (.aload_n 0, 1) := by decide +kernel
theorem dX4_strand_6 : decode cX4_strand 6 = .ok (.getfield 10, 3) := by decide +kernel
theorem dX4_strand_9 : decode cX4_strand 9 = .ok (.getfield 161, 3) := by decide +kernel
theorem dX4_strand_12 : decode cX4_strand 12 = .ok (.if_icmp .lt 13, 3) := by decide +kernel
theorem dX4_strand_15 : decode cX4_strand 15 = .ok (.new 103, 3) := by decide +kernel
theorem dX4_strand_18 : decode cX4_strand 18 = .ok (.dup, 1) := by decide +kernel
theorem dX4_strand_19 : decode cX4_strand 19 = .ok (.ldc 229, 2) := by decide +kernel
theorem dX4_strand_21 : decode cX4_strand 21 = .ok (.invokespecial 107, 3) := by decide +kernel
theorem dX4_strand_24 : decode cX4_strand 24 = .ok (.athrow, 1) := by decide +kernel
theorem dX4_strand_25 : decode cX4_strand 25 = .ok (.iload_n 2, 1) := by decide +kernel
theorem dX4_strand_26 : decode cX4_strand 26 = .ok (.ifCond .lt 8, 3) := by decide +kernel
theorem dX4_strand_29 : decode cX4_strand 29 = .ok (.iload_n 2, 1) := by decide +kernel
theorem dX4_strand_30 : decode cX4_strand 30 = .ok (.iconst 4, 1) := by decide +kernel
theorem dX4_strand_31 : decode cX4_strand 31 = .ok (.if_icmp .lt 13, 3) := by decide +kernel
theorem dX4_strand_34 : decode cX4_strand 34 = .ok (.new 45, 3) := by decide +kernel
theorem dX4_strand_37 : decode cX4_strand 37 = .ok (.dup, 1) := by decide +kernel
theorem dX4_strand_38 : decode cX4_strand 38 = .ok (.ldc 224, 2) := by decide +kernel
theorem dX4_strand_40 : decode cX4_strand 40 = .ok (.invokespecial 49, 3) := by decide +kernel
theorem dX4_strand_43 : decode cX4_strand 43 = .ok (.athrow, 1) := by decide +kernel
theorem dX4_strand_44 : decode cX4_strand 44 = .ok (.aload_n 0, 1) := by decide +kernel
theorem dX4_strand_45 : decode cX4_strand 45 = .ok (.getfield 10, 3) := by decide +kernel
theorem dX4_strand_48 : decode cX4_strand 48 = .ok (.iload_n 1, 1) := by decide +kernel
theorem dX4_strand_49 : decode cX4_strand 49 = .ok (.iload_n 2, 1) := by decide +kernel
theorem dX4_strand_50 : decode cX4_strand 50 = .ok (.invokevirtual 231, 3) := by decide +kernel
theorem dX4_strand_53 : decode cX4_strand 53 = .ok (.ireturn, 1) := by decide +kernel
theorem dX4_colour_0 : decode cX4_colour 0 = .ok (.iload_n 1, 1) := by decide +kernel
theorem dX4_colour_1 : decode cX4_colour 1 = .ok (.invokestatic 91, 3) := by decide +kernel
theorem dX4_colour_4 : decode cX4_colour 4 = .ok (.ifCond .eq 13, 3) := by decide +kernel
theorem dX4_colour_7 : decode cX4_colour 7 = .ok (.iload_n 2, 1) := by decide +kernel
theorem dX4_colour_8 : decode cX4_colour 8 = .ok (.ifCond .lt 9, 3) := by decide +kernel
theorem dX4_colour_11 : decode cX4_colour 11 = .ok (.iload_n 2, 1) := by decide +kernel
theorem dX4_colour_12 : decode cX4_colour 12 = .ok (.bipush 6, 2) := by decide +kernel
theorem dX4_colour_14 : decode cX4_colour 14 = .ok (.if_icmp .lt 13, 3) := by decide +kernel
theorem dX4_colour_17 : decode cX4_colour 17 = .ok (.new 45, 3) := by decide +kernel
theorem dX4_colour_20 : decode cX4_colour 20 = .ok (.dup, 1) := by decide +kernel
theorem dX4_colour_21 : decode cX4_colour 21 = .ok (.ldc 234, 2) := by decide +kernel
theorem dX4_colour_23 : decode cX4_colour 23 = .ok (.invokespecial 49, 3) := by decide +kernel
theorem dX4_colour_26 : decode cX4_colour 26 = .ok (.athrow, 1) := by decide +kernel
theorem dX4_colour_27 : decode cX4_colour 27 = .ok (.aload_n 0, 1) := by decide +kernel
theorem dX4_colour_28 : decode cX4_colour 28 = .ok (.getfield 10, 3) := by decide +kernel
theorem dX4_colour_31 : decode cX4_colour 31 = .ok (.iload_n 1, 1) := by decide +kernel
theorem dX4_colour_32 : decode cX4_colour 32 = .ok (.iload_n 2, 1) := by decide +kernel
theorem dX4_colour_33 : decode cX4_colour 33 = .ok (.invokevirtual 236, 3) := by decide +kernel
theorem dX4_colour_36 : decode cX4_colour 36 = .ok (.ireturn, 1) := by decide +kernel
theorem dX4_count_0 : decode cX4_count 0 = .ok (.iload_n 1, 1) := by decide +kernel
theorem dX4_count_1 : decode cX4_count 1 = .ok (.ifCond .lt 9, 3) := by decide +kernel
theorem dX4_count_4 : decode cX4_count 4 = .ok (.iload_n 1, 1) := by decide +kernel
theorem dX4_count_5 : decode cX4_count 5 = .ok (.bipush 13, 2) := by decide +kernel
theorem dX4_count_7 : decode cX4_count 7 = .ok (.if_icmp .lt 13, 3) := by decide +kernel
theorem dX4_count_10 : decode cX4_count 10 = .ok (.new 45, 3) := by decide +kernel
theorem dX4_count_13 : decode cX4_count 13 = .ok (.dup, 1) := by decide +kernel
theorem dX4_count_14 : decode cX4_count 14 = .ok (.ldc 239, 2) := by decide +kernel
theorem dX4_count_16 : decode cX4_count 16 = .ok (.invokespecial 49, 3) := by decide +kernel
theorem dX4_count_19 : decode cX4_count 19 = .ok (.athrow, 1) := by decide +kernel
theorem dX4_count_20 : decode cX4_count 20 = .ok (.aload_n 0, 1) := by decide +kernel
theorem dX4_count_21 : decode cX4_count 21 = .ok (.iload_n 1, 1) := by decide +kernel
theorem dX4_count_22 : decode cX4_count 22 = .ok (.invokevirtual 241, 3) := by decide +kernel
theorem dX4_count_25 : decode cX4_count 25 = .ok (.ireturn, 1) := by decide +kernel
theorem dX4_stringFresh_0 : decode cX4_stringFresh 0 = .ok (.aload_n 0, 1) := by decide +kernel
theorem dX4_stringFresh_1 : decode cX4_stringFresh 1 = .ok (.getfield 10, 3) := by decide +kernel
theorem dX4_stringFresh_4 : decode cX4_stringFresh 4 = .ok (.aload_n 0, 1) := by decide +kernel
theorem dX4_stringFresh_5 : decode cX4_stringFresh 5 = .ok (.getfield 37, 3) := by decide +kernel
theorem dX4_stringFresh_8 : decode cX4_stringFresh 8 = .ok (.iload_n 1, 1) := by decide +kernel
theorem dX4_stringFresh_9 : decode cX4_stringFresh 9 = .ok (.invokevirtual 316, 3) := by decide +kernel
theorem dX4_stringFresh_12 : decode cX4_stringFresh 12 = .ok (.ifCond .ne 14, 3) := by decide +kernel
theorem dX4_stringFresh_15 : decode cX4_stringFresh 15 = .ok (.new 56, 3) := by decide +kernel
theorem dX4_stringFresh_18 : decode cX4_stringFresh 18 = .ok (.dup, 1) := by decide +kernel
theorem dX4_stringFresh_19 : decode cX4_stringFresh 19 = .ok (.ldc_w 320, 3) := by decide +kernel
theorem dX4_stringFresh_22 : decode cX4_stringFresh 22 = .ok (.invokespecial 60, 3) := by decide +kernel
theorem dX4_stringFresh_25 : decode cX4_stringFresh 25 = .ok (.athrow, 1) := by decide +kernel
theorem dX4_stringFresh_26 : decode cX4_stringFresh 26 = .ok (.aload_n 0, 1) := by decide +kernel
theorem dX4_stringFresh_27 : decode cX4_stringFresh 27 = .ok (.getfield 19, 3) := by decide +kernel
theorem dX4_stringFresh_30 : decode cX4_stringFresh 30 = .ok (.aload_n 0, 1) := by decide +kernel
theorem dX4_stringFresh_31 : decode cX4_stringFresh 31 = .ok (.getfield 10, 3) := by decide +kernel
theorem dX4_stringFresh_34 : decode cX4_stringFresh 34 = .ok (.invokevirtual 61, 3) := by decide +kernel
theorem dX4_stringFresh_37 : decode cX4_stringFresh 37 = .ok (.aload_n 0, 1) := by decide +kernel
theorem dX4_stringFresh_38 : decode cX4_stringFresh 38 = .ok (.getfield 10, 3) := by decide +kernel
theorem dX4_stringFresh_41 : decode cX4_stringFresh 41 = .ok (.aload_n 0, 1) := by decide +kernel
theorem dX4_stringFresh_42 : decode cX4_stringFresh 42 = .ok (.getfield 37, 3) := by decide +kernel
theorem dX4_stringFresh_45 : decode cX4_stringFresh 45 = .ok (.iload_n 1, 1) := by decide +kernel
theorem dX4_stringFresh_46 : decode cX4_stringFresh 46 = .ok (.invokevirtual 322, 3) := by decide +kernel
theorem dX4_stringFresh_49 : decode cX4_stringFresh 49 = .ok (.aload_n 0, 1) := by decide +kernel
theorem dX4_stringFresh_50 : decode cX4_stringFresh 50 = .ok (.getfield 10, 3) := by decide +kernel
theorem dX4_stringFresh_53 : decode cX4_stringFresh 53 = .ok (.getfield 149, 3) := by decide +kernel
theorem dX4_stringFresh_56 : decode cX4_stringFresh 56 = .ok (.ireturn, 1) := by decide +kernel
theorem dX4_numberOf_0 : decode cX4_numberOf 0 = .ok (.iload_n 1, 1) := by decide +kernel
theorem dX4_numberOf_1 : decode cX4_numberOf 1 = .ok (.tableswitch 189 0 11 #[63, 74, 85, 93, 101, 117, 125, 136, 147, 158, 166, 177], 63) := by decide +kernel
theorem dX4_numberOf_64 : decode cX4_numberOf 64 = .ok (.aload_n 0, 1) := by decide +kernel
theorem dX4_numberOf_65 : decode cX4_numberOf 65 = .ok (.getfield 10, 3) := by decide +kernel
theorem dX4_numberOf_68 : decode cX4_numberOf 68 = .ok (.getfield 65, 3) := by decide +kernel
theorem dX4_numberOf_71 : decode cX4_numberOf 71 = .ok (.getfield 75, 3) := by decide +kernel
theorem dX4_numberOf_74 : decode cX4_numberOf 74 = .ok (.ireturn, 1) := by decide +kernel
theorem dX4_numberOf_75 : decode cX4_numberOf 75 = .ok (.aload_n 0, 1) := by decide +kernel
theorem dX4_numberOf_76 : decode cX4_numberOf 76 = .ok (.getfield 10, 3) := by decide +kernel
theorem dX4_numberOf_79 : decode cX4_numberOf 79 = .ok (.getfield 65, 3) := by decide +kernel
theorem dX4_numberOf_82 : decode cX4_numberOf 82 = .ok (.getfield 211, 3) := by decide +kernel
theorem dX4_numberOf_85 : decode cX4_numberOf 85 = .ok (.ireturn, 1) := by decide +kernel
theorem dX4_numberOf_86 : decode cX4_numberOf 86 = .ok (.aload_n 0, 1) := by decide +kernel
theorem dX4_numberOf_87 : decode cX4_numberOf 87 = .ok (.getfield 10, 3) := by decide +kernel
theorem dX4_numberOf_90 : decode cX4_numberOf 90 = .ok (.getfield 149, 3) := by decide +kernel
theorem dX4_numberOf_93 : decode cX4_numberOf 93 = .ok (.ireturn, 1) := by decide +kernel
theorem dX4_numberOf_94 : decode cX4_numberOf 94 = .ok (.aload_n 0, 1) := by decide +kernel
theorem dX4_numberOf_95 : decode cX4_numberOf 95 = .ok (.getfield 10, 3) := by decide +kernel
theorem dX4_numberOf_98 : decode cX4_numberOf 98 = .ok (.getfield 161, 3) := by decide +kernel
theorem dX4_numberOf_101 : decode cX4_numberOf 101 = .ok (.ireturn, 1) := by decide +kernel
theorem dX4_numberOf_102 : decode cX4_numberOf 102 = .ok (.aload_n 0, 1) := by decide +kernel
theorem dX4_numberOf_103 : decode cX4_numberOf 103 = .ok (.getfield 10, 3) := by decide +kernel
theorem dX4_numberOf_106 : decode cX4_numberOf 106 = .ok (.iconst 0, 1) := by decide +kernel
theorem dX4_numberOf_107 : decode cX4_numberOf 107 = .ok (.aload_n 0, 1) := by decide +kernel
theorem dX4_numberOf_108 : decode cX4_numberOf 108 = .ok (.getfield 10, 3) := by decide +kernel
theorem dX4_numberOf_111 : decode cX4_numberOf 111 = .ok (.getfield 149, 3) := by decide +kernel
theorem dX4_numberOf_114 : decode cX4_numberOf 114 = .ok (.invokevirtual 268, 3) := by decide +kernel
theorem dX4_numberOf_117 : decode cX4_numberOf 117 = .ok (.ireturn, 1) := by decide +kernel
theorem dX4_numberOf_118 : decode cX4_numberOf 118 = .ok (.aload_n 0, 1) := by decide +kernel
theorem dX4_numberOf_119 : decode cX4_numberOf 119 = .ok (.getfield 10, 3) := by decide +kernel
theorem dX4_numberOf_122 : decode cX4_numberOf 122 = .ok (.invokevirtual 326, 3) := by decide +kernel
theorem dX4_numberOf_125 : decode cX4_numberOf 125 = .ok (.ireturn, 1) := by decide +kernel
theorem dX4_numberOf_126 : decode cX4_numberOf 126 = .ok (.aload_n 0, 1) := by decide +kernel
theorem dX4_numberOf_127 : decode cX4_numberOf 127 = .ok (.getfield 10, 3) := by decide +kernel
theorem dX4_numberOf_130 : decode cX4_numberOf 130 = .ok (.getfield 137, 3) := by decide +kernel
theorem dX4_numberOf_133 : decode cX4_numberOf 133 = .ok (.invokestatic 329, 3) := by decide +kernel
theorem dX4_numberOf_136 : decode cX4_numberOf 136 = .ok (.ireturn, 1) := by decide +kernel
theorem dX4_numberOf_137 : decode cX4_numberOf 137 = .ok (.aload_n 0, 1) := by decide +kernel
theorem dX4_numberOf_138 : decode cX4_numberOf 138 = .ok (.getfield 10, 3) := by decide +kernel
theorem dX4_numberOf_141 : decode cX4_numberOf 141 = .ok (.getfield 129, 3) := by decide +kernel
theorem dX4_numberOf_144 : decode cX4_numberOf 144 = .ok (.invokestatic 329, 3) := by decide +kernel
theorem dX4_numberOf_147 : decode cX4_numberOf 147 = .ok (.ireturn, 1) := by decide +kernel
theorem dX4_numberOf_148 : decode cX4_numberOf 148 = .ok (.aload_n 0, 1) := by decide +kernel
theorem dX4_numberOf_149 : decode cX4_numberOf 149 = .ok (.getfield 10, 3) := by decide +kernel
theorem dX4_numberOf_152 : decode cX4_numberOf 152 = .ok (.getfield 332, 3) := by decide +kernel
theorem dX4_numberOf_155 : decode cX4_numberOf 155 = .ok (.invokestatic 329, 3) := by decide +kernel
theorem dX4_numberOf_158 : decode cX4_numberOf 158 = .ok (.ireturn, 1) := by decide +kernel
theorem dX4_numberOf_159 : decode cX4_numberOf 159 = .ok (.aload_n 0, 1) := by decide +kernel
theorem dX4_numberOf_160 : decode cX4_numberOf 160 = .ok (.getfield 10, 3) := by decide +kernel
theorem dX4_numberOf_163 : decode cX4_numberOf 163 = .ok (.getfield 335, 3) := by decide +kernel
theorem dX4_numberOf_166 : decode cX4_numberOf 166 = .ok (.ireturn, 1) := by decide +kernel
theorem dX4_numberOf_167 : decode cX4_numberOf 167 = .ok (.aload_n 0, 1) := by decide +kernel
theorem dX4_numberOf_168 : decode cX4_numberOf 168 = .ok (.getfield 10, 3) := by decide +kernel
theorem dX4_numberOf_171 : decode cX4_numberOf 171 = .ok (.getfield 65, 3) := by decide +kernel
theorem dX4_numberOf_174 : decode cX4_numberOf 174 = .ok (.invokevirtual 338, 3) := by decide +kernel
theorem dX4_numberOf_177 : decode cX4_numberOf 177 = .ok (.ireturn, 1) := by decide +kernel
theorem dX4_numberOf_178 : decode cX4_numberOf 178 = .ok (.iconst 0, 1) := by decide +kernel
theorem dX4_numberOf_179 : decode cX4_numberOf 179 = .ok (.aload_n 0, 1) := by decide +kernel
theorem dX4_numberOf_180 : decode cX4_numberOf 180 = .ok (.getfield 10, 3) := by decide +kernel
theorem dX4_numberOf_183 : decode cX4_numberOf 183 = .ok (.invokevirtual 341, 3) := by decide +kernel
theorem dX4_numberOf_186 : decode cX4_numberOf 186 = .ok (.invokestatic 344, 3) := by decide +kernel
theorem dX4_numberOf_189 : decode cX4_numberOf 189 = .ok (.ireturn, 1) := by decide +kernel
theorem dX4_numberOf_190 : decode cX4_numberOf 190 = .ok (.aload_n 0, 1) := by decide +kernel
theorem dX4_numberOf_191 : decode cX4_numberOf 191 = .ok (.getfield 19, 3) := by decide +kernel
theorem dX4_numberOf_194 : decode cX4_numberOf 194 = .ok (.getfield 203, 3) := by decide +kernel
theorem dX4_numberOf_197 : decode cX4_numberOf 197 = .ok (.ireturn, 1) := by decide +kernel
theorem dX4_isStrung_0 : decode cX4_isStrung 0 = .ok (.iload_n 1, 1) := by decide +kernel
theorem dX4_isStrung_1 : decode cX4_isStrung 1 = .ok (.ifCond .lt 18, 3) := by decide +kernel
theorem dX4_isStrung_4 : decode cX4_isStrung 4 = .ok (.iload_n 1, 1) := by decide +kernel
theorem dX4_isStrung_5 : decode cX4_isStrung 5 = .ok (.aload_n 0, 1) := by decide +kernel
theorem dX4_isStrung_6 : decode cX4_isStrung 6 = .ok (.getfield 10, 3) := by decide +kernel
theorem dX4_isStrung_9 : decode cX4_isStrung 9 = .ok (.getfield 149, 3) := by decide +kernel
theorem dX4_isStrung_12 : decode cX4_isStrung 12 = .ok (.if_icmp .ge 7, 3) := by decide +kernel
theorem dX4_isStrung_15 : decode cX4_isStrung 15 = .ok (.iconst 1, 1) := by decide +kernel
theorem dX4_isStrung_16 : decode cX4_isStrung 16 = .ok (.goto 4, 3) := by decide +kernel
theorem dX4_isStrung_19 : decode cX4_isStrung 19 = .ok (.iconst 0, 1) := by decide +kernel
theorem dX4_isStrung_20 : decode cX4_isStrung 20 = .ok (.ireturn, 1) := by decide +kernel
theorem dX4_isColour_0 : decode cX4_isColour 0 = .ok (.iload_n 0, 1) := by decide +kernel
theorem dX4_isColour_1 : decode cX4_isColour 1 = .ok (.ifCond .lt 13, 3) := by decide +kernel
theorem dX4_isColour_4 : decode cX4_isColour 4 = .ok (.iload_n 0, 1) := by decide +kernel
theorem dX4_isColour_5 : decode cX4_isColour 5 = .ok (.bipush 6, 2) := by decide +kernel
theorem dX4_isColour_7 : decode cX4_isColour 7 = .ok (.if_icmp .ge 7, 3) := by decide +kernel
theorem dX4_isColour_10 : decode cX4_isColour 10 = .ok (.iconst 1, 1) := by decide +kernel
theorem dX4_isColour_11 : decode cX4_isColour 11 = .ok (.goto 4, 3) := by decide +kernel
theorem dX4_isColour_14 : decode cX4_isColour 14 = .ok (.iconst 0, 1) := by decide +kernel
theorem dX4_isColour_15 : decode cX4_isColour 15 = .ok (.ireturn, 1) := by decide +kernel
theorem dX4_isSetting_0 : decode cX4_isSetting 0 = .ok (.iload_n 0, 1) := by decide +kernel
theorem dX4_isSetting_1 : decode cX4_isSetting 1 = .ok (.ifCond .lt 12, 3) := by decide +kernel
theorem dX4_isSetting_4 : decode cX4_isSetting 4 = .ok (.iload_n 0, 1) := by decide +kernel
theorem dX4_isSetting_5 : decode cX4_isSetting 5 = .ok (.iconst 4, 1) := by decide +kernel
theorem dX4_isSetting_6 : decode cX4_isSetting 6 = .ok (.if_icmp .ge 7, 3) := by decide +kernel
theorem dX4_isSetting_9 : decode cX4_isSetting 9 = .ok (.iconst 1, 1) := by decide +kernel
theorem dX4_isSetting_10 : decode cX4_isSetting 10 = .ok (.goto 4, 3) := by decide +kernel
theorem dX4_isSetting_13 : decode cX4_isSetting 13 = .ok (.iconst 0, 1) := by decide +kernel
theorem dX4_isSetting_14 : decode cX4_isSetting 14 = .ok (.ireturn, 1) := by decide +kernel
theorem dX4_canBeStrungAtOnce_0 : decode cX4_canBeStrungAtOnce 0 = .ok (.iload_n 0, 1) := by decide +kernel
theorem dX4_canBeStrungAtOnce_1 : decode cX4_canBeStrungAtOnce 1 = .ok (.iconst 1, 1) := by decide +kernel
theorem dX4_canBeStrungAtOnce_2 : decode cX4_canBeStrungAtOnce 2 = .ok (.if_icmp .lt 13, 3) := by decide +kernel
theorem dX4_canBeStrungAtOnce_5 : decode cX4_canBeStrungAtOnce 5 = .ok (.iload_n 0, 1) := by decide +kernel
theorem dX4_canBeStrungAtOnce_6 : decode cX4_canBeStrungAtOnce 6 = .ok (.bipush 60, 2) := by decide +kernel
theorem dX4_canBeStrungAtOnce_8 : decode cX4_canBeStrungAtOnce 8 = .ok (.if_icmp .gt 7, 3) := by decide +kernel
theorem dX4_canBeStrungAtOnce_11 : decode cX4_canBeStrungAtOnce 11 = .ok (.iconst 1, 1) := by decide +kernel
theorem dX4_canBeStrungAtOnce_12 : decode cX4_canBeStrungAtOnce 12 = .ok (.goto 4, 3) := by decide +kernel
theorem dX4_canBeStrungAtOnce_15 : decode cX4_canBeStrungAtOnce 15 = .ok (.iconst 0, 1) := by decide +kernel
theorem dX4_canBeStrungAtOnce_16 : decode cX4_canBeStrungAtOnce 16 = .ok (.ireturn, 1) := by decide +kernel
theorem dX4_at_0 : decode cX4_at 0 = .ok (.aload_n 0, 1) := by decide +kernel
theorem dX4_at_1 : decode cX4_at 1 = .ok (.ifnull 13, 3) := by decide +kernel
theorem dX4_at_4 : decode cX4_at 4 = .ok (.iload_n 1, 1) := by decide +kernel
theorem dX4_at_5 : decode cX4_at 5 = .ok (.ifCond .lt 9, 3) := by decide +kernel
theorem dX4_at_8 : decode cX4_at 8 = .ok (.iload_n 1, 1) := by decide +kernel
theorem dX4_at_9 : decode cX4_at 9 = .ok (.aload_n 0, 1) := by decide +kernel
theorem dX4_at_10 : decode cX4_at 10 = .ok (.arraylength, 1) := by decide +kernel
theorem dX4_at_11 : decode cX4_at 11 = .ok (.if_icmp .lt 5, 3) := by decide +kernel
theorem dX4_at_14 : decode cX4_at 14 = .ok (.iconst 0, 1) := by decide +kernel
theorem dX4_at_15 : decode cX4_at 15 = .ok (.ireturn, 1) := by decide +kernel
theorem dX4_at_16 : decode cX4_at 16 = .ok (.aload_n 0, 1) := by decide +kernel
theorem dX4_at_17 : decode cX4_at 17 = .ok (.iload_n 1, 1) := by decide +kernel
theorem dX4_at_18 : decode cX4_at 18 = .ok (.iaload, 1) := by decide +kernel
theorem dX4_at_19 : decode cX4_at 19 = .ok (.ireturn, 1) := by decide +kernel
theorem dX4_put_0 : decode cX4_put 0 = .ok (.aload_n 0, 1) := by decide +kernel
theorem dX4_put_1 : decode cX4_put 1 = .ok (.ifnull 13, 3) := by decide +kernel
theorem dX4_put_4 : decode cX4_put 4 = .ok (.iload_n 1, 1) := by decide +kernel
theorem dX4_put_5 : decode cX4_put 5 = .ok (.ifCond .lt 9, 3) := by decide +kernel
theorem dX4_put_8 : decode cX4_put 8 = .ok (.iload_n 1, 1) := by decide +kernel
theorem dX4_put_9 : decode cX4_put 9 = .ok (.aload_n 0, 1) := by decide +kernel
theorem dX4_put_10 : decode cX4_put 10 = .ok (.arraylength, 1) := by decide +kernel
theorem dX4_put_11 : decode cX4_put 11 = .ok (.if_icmp .lt 4, 3) := by decide +kernel
theorem dX4_put_14 : decode cX4_put 14 = .ok (.return_, 1) := by decide +kernel
theorem dX4_put_15 : decode cX4_put 15 = .ok (.aload_n 0, 1) := by decide +kernel
theorem dX4_put_16 : decode cX4_put 16 = .ok (.iload_n 1, 1) := by decide +kernel
theorem dX4_put_17 : decode cX4_put 17 = .ok (.iload_n 2, 1) := by decide +kernel
theorem dX4_put_18 : decode cX4_put 18 = .ok (.iastore, 1) := by decide +kernel
theorem dX4_put_19 : decode cX4_put 19 = .ok (.return_, 1) := by decide +kernel
theorem dX4_add_0 : decode cX4_add 0 = .ok (.aload_n 0, 1) := by decide +kernel
theorem dX4_add_1 : decode cX4_add 1 = .ok (.iload_n 1, 1) := by decide +kernel
theorem dX4_add_2 : decode cX4_add 2 = .ok (.aload_n 0, 1) := by decide +kernel
theorem dX4_add_3 : decode cX4_add 3 = .ok (.iload_n 1, 1) := by decide +kernel
theorem dX4_add_4 : decode cX4_add 4 = .ok (.invokestatic 111, 3) := by decide +kernel
theorem dX4_add_7 : decode cX4_add 7 = .ok (.iload_n 2, 1) := by decide +kernel
theorem dX4_add_8 : decode cX4_add 8 = .ok (.iadd, 1) := by decide +kernel
theorem dX4_add_9 : decode cX4_add 9 = .ok (.invokestatic 123, 3) := by decide +kernel
theorem dX4_add_12 : decode cX4_add 12 = .ok (.return_, 1) := by decide +kernel
theorem dX4_copy_0 : decode cX4_copy 0 = .ok (.aload_n 0, 1) := by decide +kernel
theorem dX4_copy_1 : decode cX4_copy 1 = .ok (.ifnull 7, 3) := by decide +kernel
theorem dX4_copy_4 : decode cX4_copy 4 = .ok (.aload_n 1, 1) := by decide +kernel
theorem dX4_copy_5 : decode cX4_copy 5 = .ok (.ifnonnull 4, 3) := by decide +kernel
theorem dX4_copy_8 : decode cX4_copy 8 = .ok (.return_, 1) := by decide +kernel
theorem dX4_copy_9 : decode cX4_copy 9 = .ok (.iconst 0, 1) := by decide +kernel
theorem dX4_copy_10 : decode cX4_copy 10 = .ok (.istore_n 2, 1) := by decide +kernel
theorem dX4_copy_11 : decode cX4_copy 11 = .ok (.iload_n 2, 1) := by decide +kernel
theorem dX4_copy_12 : decode cX4_copy 12 = .ok (.aload_n 0, 1) := by decide +kernel
theorem dX4_copy_13 : decode cX4_copy 13 = .ok (.arraylength, 1) := by decide +kernel
theorem dX4_copy_14 : decode cX4_copy 14 = .ok (.if_icmp .ge 21, 3) := by decide +kernel
theorem dX4_copy_17 : decode cX4_copy 17 = .ok (.iload_n 2, 1) := by decide +kernel
theorem dX4_copy_18 : decode cX4_copy 18 = .ok (.aload_n 1, 1) := by decide +kernel
theorem dX4_copy_19 : decode cX4_copy 19 = .ok (.arraylength, 1) := by decide +kernel
theorem dX4_copy_20 : decode cX4_copy 20 = .ok (.if_icmp .ge 15, 3) := by decide +kernel
theorem dX4_copy_23 : decode cX4_copy 23 = .ok (.aload_n 1, 1) := by decide +kernel
theorem dX4_copy_24 : decode cX4_copy 24 = .ok (.iload_n 2, 1) := by decide +kernel
theorem dX4_copy_25 : decode cX4_copy 25 = .ok (.aload_n 0, 1) := by decide +kernel
theorem dX4_copy_26 : decode cX4_copy 26 = .ok (.iload_n 2, 1) := by decide +kernel
theorem dX4_copy_27 : decode cX4_copy 27 = .ok (.iaload, 1) := by decide +kernel
theorem dX4_copy_28 : decode cX4_copy 28 = .ok (.iastore, 1) := by decide +kernel
theorem dX4_copy_29 : decode cX4_copy 29 = .ok (.iinc 2 1, 3) := by decide +kernel
theorem dX4_copy_32 : decode cX4_copy 32 = .ok (.goto (-21), 3) := by decide +kernel
theorem dX4_copy_35 : decode cX4_copy 35 = .ok (.return_, 1) := by decide +kernel
theorem dX4_sum_0 : decode cX4_sum 0 = .ok (.aload_n 0, 1) := by decide +kernel
theorem dX4_sum_1 : decode cX4_sum 1 = .ok (.ifnonnull 5, 3) := by decide +kernel
theorem dX4_sum_4 : decode cX4_sum 4 = .ok (.iconst 0, 1) := by decide +kernel
theorem dX4_sum_5 : decode cX4_sum 5 = .ok (.ireturn, 1) := by decide +kernel
theorem dX4_sum_6 : decode cX4_sum 6 = .ok (.iconst 0, 1) := by decide +kernel
theorem dX4_sum_7 : decode cX4_sum 7 = .ok (.istore_n 1, 1) := by decide +kernel
theorem dX4_sum_8 : decode cX4_sum 8 = .ok (.iconst 0, 1) := by decide +kernel
theorem dX4_sum_9 : decode cX4_sum 9 = .ok (.istore_n 2, 1) := by decide +kernel
theorem dX4_sum_10 : decode cX4_sum 10 = .ok (.iload_n 2, 1) := by decide +kernel
theorem dX4_sum_11 : decode cX4_sum 11 = .ok (.aload_n 0, 1) := by decide +kernel
theorem dX4_sum_12 : decode cX4_sum 12 = .ok (.arraylength, 1) := by decide +kernel
theorem dX4_sum_13 : decode cX4_sum 13 = .ok (.if_icmp .ge 15, 3) := by decide +kernel
theorem dX4_sum_16 : decode cX4_sum 16 = .ok (.iload_n 1, 1) := by decide +kernel
theorem dX4_sum_17 : decode cX4_sum 17 = .ok (.aload_n 0, 1) := by decide +kernel
theorem dX4_sum_18 : decode cX4_sum 18 = .ok (.iload_n 2, 1) := by decide +kernel
theorem dX4_sum_19 : decode cX4_sum 19 = .ok (.iaload, 1) := by decide +kernel
theorem dX4_sum_20 : decode cX4_sum 20 = .ok (.iadd, 1) := by decide +kernel
theorem dX4_sum_21 : decode cX4_sum 21 = .ok (.istore_n 1, 1) := by decide +kernel
theorem dX4_sum_22 : decode cX4_sum 22 = .ok (.iinc 2 1, 3) := by decide +kernel
theorem dX4_sum_25 : decode cX4_sum 25 = .ok (.goto (-15), 3) := by decide +kernel
theorem dX4_sum_28 : decode cX4_sum 28 = .ok (.iload_n 1, 1) := by decide +kernel
theorem dX4_sum_29 : decode cX4_sum 29 = .ok (.ireturn, 1) := by decide +kernel
theorem dX4_occurrences_0 : decode cX4_occurrences 0 = .ok (.iconst 0, 1) := by decide +kernel
theorem dX4_occurrences_1 : decode cX4_occurrences 1 = .ok (.istore_n 3, 1) := by decide +kernel
theorem dX4_occurrences_2 : decode cX4_occurrences 2 = .ok (.iconst 0, 1) := by decide +kernel
theorem dX4_occurrences_3 : decode cX4_occurrences 3 = .ok (.istore 4, 2) := by decide +kernel
theorem dX4_occurrences_5 : decode cX4_occurrences 5 = .ok (.iload 4, 2) := by decide +kernel
theorem dX4_occurrences_7 : decode cX4_occurrences 7 = .ok (.iload_n 1, 1) := by decide +kernel
theorem dX4_occurrences_8 : decode cX4_occurrences 8 = .ok (.if_icmp .ge 22, 3) := by decide +kernel
theorem dX4_occurrences_11 : decode cX4_occurrences 11 = .ok (.aload_n 0, 1) := by decide +kernel
theorem dX4_occurrences_12 : decode cX4_occurrences 12 = .ok (.iload 4, 2) := by decide +kernel
theorem dX4_occurrences_14 : decode cX4_occurrences 14 = .ok (.invokestatic 111, 3) := by decide +kernel
theorem dX4_occurrences_17 : decode cX4_occurrences 17 = .ok (.iload_n 2, 1) := by decide +kernel
theorem dX4_occurrences_18 : decode cX4_occurrences 18 = .ok (.if_icmp .ne 6, 3) := by decide +kernel
theorem dX4_occurrences_21 : decode cX4_occurrences 21 = .ok (.iinc 3 1, 3) := by decide +kernel
theorem dX4_occurrences_24 : decode cX4_occurrences 24 = .ok (.iinc 4 1, 3) := by decide +kernel
theorem dX4_occurrences_27 : decode cX4_occurrences 27 = .ok (.goto (-22), 3) := by decide +kernel
theorem dX4_occurrences_30 : decode cX4_occurrences 30 = .ok (.iload_n 3, 1) := by decide +kernel
theorem dX4_occurrences_31 : decode cX4_occurrences 31 = .ok (.ireturn, 1) := by decide +kernel
theorem dX4_quotient_0 : decode cX4_quotient 0 = .ok (.iload_n 1, 1) := by decide +kernel
theorem dX4_quotient_1 : decode cX4_quotient 1 = .ok (.iconst 1, 1) := by decide +kernel
theorem dX4_quotient_2 : decode cX4_quotient 2 = .ok (.if_icmp .ge 7, 3) := by decide +kernel
theorem dX4_quotient_5 : decode cX4_quotient 5 = .ok (.iconst 0, 1) := by decide +kernel
theorem dX4_quotient_6 : decode cX4_quotient 6 = .ok (.goto 6, 3) := by decide +kernel
theorem dX4_quotient_9 : decode cX4_quotient 9 = .ok (.iload_n 0, 1) := by decide +kernel
theorem dX4_quotient_10 : decode cX4_quotient 10 = .ok (.iload_n 1, 1) := by decide +kernel
theorem dX4_quotient_11 : decode cX4_quotient 11 = .ok (.idiv, 1) := by decide +kernel
theorem dX4_quotient_12 : decode cX4_quotient 12 = .ok (.ireturn, 1) := by decide +kernel
theorem dJ9_max_7cf53_0 : decode cJ9_max_7cf53 0 = .ok (.iload_n 0, 1) := by decide +kernel
theorem dJ9_max_7cf53_1 : decode cJ9_max_7cf53 1 = .ok (.iload_n 1, 1) := by decide +kernel
theorem dJ9_max_7cf53_2 : decode cJ9_max_7cf53 2 = .ok (.if_icmp .lt 7, 3) := by decide +kernel
theorem dJ9_max_7cf53_5 : decode cJ9_max_7cf53 5 = .ok (.iload_n 0, 1) := by decide +kernel
theorem dJ9_max_7cf53_6 : decode cJ9_max_7cf53 6 = .ok (.goto 4, 3) := by decide +kernel
theorem dJ9_max_7cf53_9 : decode cJ9_max_7cf53 9 = .ok (.iload_n 1, 1) := by decide +kernel
theorem dJ9_max_7cf53_10 : decode cJ9_max_7cf53 10 = .ok (.ireturn, 1) := by decide +kernel
theorem dL_cell_0 : decode cL_cell 0 = .ok (.iload_n 1, 1) := by decide +kernel
theorem dL_cell_1 : decode cL_cell 1 = .ok (.aload_n 0, 1) := by decide +kernel
theorem dL_cell_2 : decode cL_cell 2 = .ok (.arraylength, 1) := by decide +kernel
theorem dL_cell_3 : decode cL_cell 3 = .ok (.if_icmp .ge 9, 3) := by decide +kernel
theorem dL_cell_6 : decode cL_cell 6 = .ok (.aload_n 0, 1) := by decide +kernel
theorem dL_cell_7 : decode cL_cell 7 = .ok (.iload_n 1, 1) := by decide +kernel
theorem dL_cell_8 : decode cL_cell 8 = .ok (.iaload, 1) := by decide +kernel
theorem dL_cell_9 : decode cL_cell 9 = .ok (.goto 10, 3) := by decide +kernel
theorem dL_cell_12 : decode cL_cell 12 = .ok (.ldc 7, 2) := by decide +kernel
theorem dL_cell_14 : decode cL_cell 14 = .ok (.iload_n 1, 1) := by decide +kernel
theorem dL_cell_15 : decode cL_cell 15 = .ok (.bipush 73, 2) := by decide +kernel
theorem dL_cell_17 : decode cL_cell 17 = .ok (.iadd, 1) := by decide +kernel
theorem dL_cell_18 : decode cL_cell 18 = .ok (.imul, 1) := by decide +kernel
theorem dL_cell_19 : decode cL_cell 19 = .ok (.ireturn, 1) := by decide +kernel
theorem dL_at_0 : decode cL_at 0 = .ok (.iload_n 0, 1) := by decide +kernel
theorem dL_at_1 : decode cL_at 1 = .ok (.iconst 1, 1) := by decide +kernel
theorem dL_at_2 : decode cL_at 2 = .ok (.iushr, 1) := by decide +kernel
theorem dL_at_3 : decode cL_at 3 = .ok (.iload_n 1, 1) := by decide +kernel
theorem dL_at_4 : decode cL_at 4 = .ok (.irem, 1) := by decide +kernel
theorem dL_at_5 : decode cL_at 5 = .ok (.ireturn, 1) := by decide +kernel
theorem dL_colour_0 : decode cL_colour 0 = .ok (.aload_n 0, 1) := by decide +kernel
theorem dL_colour_1 : decode cL_colour 1 = .ok (.iload_n 1, 1) := by decide +kernel
theorem dL_colour_2 : decode cL_colour 2 = .ok (.bipush 10, 2) := by decide +kernel
theorem dL_colour_4 : decode cL_colour 4 = .ok (.idiv, 1) := by decide +kernel
theorem dL_colour_5 : decode cL_colour 5 = .ok (.iaload, 1) := by decide +kernel
theorem dL_colour_6 : decode cL_colour 6 = .ok (.iconst 3, 1) := by decide +kernel
theorem dL_colour_7 : decode cL_colour 7 = .ok (.iload_n 1, 1) := by decide +kernel
theorem dL_colour_8 : decode cL_colour 8 = .ok (.bipush 10, 2) := by decide +kernel
theorem dL_colour_10 : decode cL_colour 10 = .ok (.irem, 1) := by decide +kernel
theorem dL_colour_11 : decode cL_colour 11 = .ok (.imul, 1) := by decide +kernel
theorem dL_colour_12 : decode cL_colour 12 = .ok (.ishr, 1) := by decide +kernel
theorem dL_colour_13 : decode cL_colour 13 = .ok (.bipush 7, 2) := by decide +kernel
theorem dL_colour_15 : decode cL_colour 15 = .ok (.iand, 1) := by decide +kernel
theorem dL_colour_16 : decode cL_colour 16 = .ok (.ireturn, 1) := by decide +kernel
theorem dL_put_0 : decode cL_put 0 = .ok (.aload_n 0, 1) := by decide +kernel
theorem dL_put_1 : decode cL_put 1 = .ok (.iload_n 1, 1) := by decide +kernel
theorem dL_put_2 : decode cL_put 2 = .ok (.bipush 10, 2) := by decide +kernel
theorem dL_put_4 : decode cL_put 4 = .ok (.idiv, 1) := by decide +kernel
theorem dL_put_5 : decode cL_put 5 = .ok (.aload_n 0, 1) := by decide +kernel
theorem dL_put_6 : decode cL_put 6 = .ok (.iload_n 1, 1) := by decide +kernel
theorem dL_put_7 : decode cL_put 7 = .ok (.bipush 10, 2) := by decide +kernel
theorem dL_put_9 : decode cL_put 9 = .ok (.idiv, 1) := by decide +kernel
theorem dL_put_10 : decode cL_put 10 = .ok (.iaload, 1) := by decide +kernel
theorem dL_put_11 : decode cL_put 11 = .ok (.bipush 7, 2) := by decide +kernel
theorem dL_put_13 : decode cL_put 13 = .ok (.iconst 3, 1) := by decide +kernel
theorem dL_put_14 : decode cL_put 14 = .ok (.iload_n 1, 1) := by decide +kernel
theorem dL_put_15 : decode cL_put 15 = .ok (.bipush 10, 2) := by decide +kernel
theorem dL_put_17 : decode cL_put 17 = .ok (.irem, 1) := by decide +kernel
theorem dL_put_18 : decode cL_put 18 = .ok (.imul, 1) := by decide +kernel
theorem dL_put_19 : decode cL_put 19 = .ok (.ishl, 1) := by decide +kernel
theorem dL_put_20 : decode cL_put 20 = .ok (.iconst (-1), 1) := by decide +kernel
theorem dL_put_21 : decode cL_put 21 = .ok (.ixor, 1) := by decide +kernel
theorem dL_put_22 : decode cL_put 22 = .ok (.iand, 1) := by decide +kernel
theorem dL_put_23 : decode cL_put 23 = .ok (.iload_n 2, 1) := by decide +kernel
theorem dL_put_24 : decode cL_put 24 = .ok (.iconst 3, 1) := by decide +kernel
theorem dL_put_25 : decode cL_put 25 = .ok (.iload_n 1, 1) := by decide +kernel
theorem dL_put_26 : decode cL_put 26 = .ok (.bipush 10, 2) := by decide +kernel
theorem dL_put_28 : decode cL_put 28 = .ok (.irem, 1) := by decide +kernel
theorem dL_put_29 : decode cL_put 29 = .ok (.imul, 1) := by decide +kernel
theorem dL_put_30 : decode cL_put 30 = .ok (.ishl, 1) := by decide +kernel
theorem dL_put_31 : decode cL_put 31 = .ok (.ior, 1) := by decide +kernel
theorem dL_put_32 : decode cL_put 32 = .ok (.iastore, 1) := by decide +kernel
theorem dL_put_33 : decode cL_put 33 = .ok (.return_, 1) := by decide +kernel
theorem dL_told_0 : decode cL_told 0 = .ok (.iload_n 2, 1) := by decide +kernel
theorem dL_told_1 : decode cL_told 1 = .ok (.aload_n 0, 1) := by decide +kernel
theorem dL_told_2 : decode cL_told 2 = .ok (.iconst 2, 1) := by decide +kernel
theorem dL_told_3 : decode cL_told 3 = .ok (.iaload, 1) := by decide +kernel
theorem dL_told_4 : decode cL_told 4 = .ok (.idiv, 1) := by decide +kernel
theorem dL_told_5 : decode cL_told 5 = .ok (.istore_n 3, 1) := by decide +kernel
theorem dL_told_6 : decode cL_told 6 = .ok (.iload_n 3, 1) := by decide +kernel
theorem dL_told_7 : decode cL_told 7 = .ok (.aload_n 0, 1) := by decide +kernel
theorem dL_told_8 : decode cL_told 8 = .ok (.iconst 0, 1) := by decide +kernel
theorem dL_told_9 : decode cL_told 9 = .ok (.iaload, 1) := by decide +kernel
theorem dL_told_10 : decode cL_told 10 = .ok (.irem, 1) := by decide +kernel
theorem dL_told_11 : decode cL_told 11 = .ok (.istore 4, 2) := by decide +kernel
theorem dL_told_13 : decode cL_told 13 = .ok (.iload_n 2, 1) := by decide +kernel
theorem dL_told_14 : decode cL_told 14 = .ok (.aload_n 0, 1) := by decide +kernel
theorem dL_told_15 : decode cL_told 15 = .ok (.iconst 2, 1) := by decide +kernel
theorem dL_told_16 : decode cL_told 16 = .ok (.iaload, 1) := by decide +kernel
theorem dL_told_17 : decode cL_told 17 = .ok (.irem, 1) := by decide +kernel
theorem dL_told_18 : decode cL_told 18 = .ok (.aload_n 0, 1) := by decide +kernel
theorem dL_told_19 : decode cL_told 19 = .ok (.iconst 3, 1) := by decide +kernel
theorem dL_told_20 : decode cL_told 20 = .ok (.iaload, 1) := by decide +kernel
theorem dL_told_21 : decode cL_told 21 = .ok (.iload_n 3, 1) := by decide +kernel
theorem dL_told_22 : decode cL_told 22 = .ok (.imul, 1) := by decide +kernel
theorem dL_told_23 : decode cL_told 23 = .ok (.iadd, 1) := by decide +kernel
theorem dL_told_24 : decode cL_told 24 = .ok (.aload_n 0, 1) := by decide +kernel
theorem dL_told_25 : decode cL_told 25 = .ok (.iconst 1, 1) := by decide +kernel
theorem dL_told_26 : decode cL_told 26 = .ok (.iaload, 1) := by decide +kernel
theorem dL_told_27 : decode cL_told 27 = .ok (.irem, 1) := by decide +kernel
theorem dL_told_28 : decode cL_told 28 = .ok (.istore 5, 2) := by decide +kernel
theorem dL_told_30 : decode cL_told 30 = .ok (.aload_n 1, 1) := by decide +kernel
theorem dL_told_31 : decode cL_told 31 = .ok (.bipush 12, 2) := by decide +kernel
theorem dL_told_33 : decode cL_told 33 = .ok (.iload 4, 2) := by decide +kernel
theorem dL_told_35 : decode cL_told 35 = .ok (.imul, 1) := by decide +kernel
theorem dL_told_36 : decode cL_told 36 = .ok (.iload 5, 2) := by decide +kernel
theorem dL_told_38 : decode cL_told 38 = .ok (.iadd, 1) := by decide +kernel
theorem dL_told_39 : decode cL_told 39 = .ok (.invokestatic 8, 3) := by decide +kernel
theorem dL_told_42 : decode cL_told 42 = .ok (.ireturn, 1) := by decide +kernel
theorem dL_wrongs_0 : decode cL_wrongs 0 = .ok (.iconst 0, 1) := by decide +kernel
theorem dL_wrongs_1 : decode cL_wrongs 1 = .ok (.istore 5, 2) := by decide +kernel
theorem dL_wrongs_3 : decode cL_wrongs 3 = .ok (.iload_n 3, 1) := by decide +kernel
theorem dL_wrongs_4 : decode cL_wrongs 4 = .ok (.istore 6, 2) := by decide +kernel
theorem dL_wrongs_6 : decode cL_wrongs 6 = .ok (.iload 6, 2) := by decide +kernel
theorem dL_wrongs_8 : decode cL_wrongs 8 = .ok (.iload 4, 2) := by decide +kernel
theorem dL_wrongs_10 : decode cL_wrongs 10 = .ok (.if_icmp .ge 28, 3) := by decide +kernel
theorem dL_wrongs_13 : decode cL_wrongs 13 = .ok (.aload_n 2, 1) := by decide +kernel
theorem dL_wrongs_14 : decode cL_wrongs 14 = .ok (.iload 6, 2) := by decide +kernel
theorem dL_wrongs_16 : decode cL_wrongs 16 = .ok (.invokestatic 8, 3) := by decide +kernel
theorem dL_wrongs_19 : decode cL_wrongs 19 = .ok (.aload_n 0, 1) := by decide +kernel
theorem dL_wrongs_20 : decode cL_wrongs 20 = .ok (.aload_n 1, 1) := by decide +kernel
theorem dL_wrongs_21 : decode cL_wrongs 21 = .ok (.iload 6, 2) := by decide +kernel
theorem dL_wrongs_23 : decode cL_wrongs 23 = .ok (.invokestatic 14, 3) := by decide +kernel
theorem dL_wrongs_26 : decode cL_wrongs 26 = .ok (.if_icmp .eq 6, 3) := by decide +kernel
theorem dL_wrongs_29 : decode cL_wrongs 29 = .ok (.iinc 5 1, 3) := by decide +kernel
theorem dL_wrongs_32 : decode cL_wrongs 32 = .ok (.iinc 6 1, 3) := by decide +kernel
theorem dL_wrongs_35 : decode cL_wrongs 35 = .ok (.goto (-29), 3) := by decide +kernel
theorem dL_wrongs_38 : decode cL_wrongs 38 = .ok (.iload 5, 2) := by decide +kernel
theorem dL_wrongs_40 : decode cL_wrongs 40 = .ok (.ireturn, 1) := by decide +kernel
theorem dL_fresh_0 : decode cL_fresh 0 = .ok (.aload_n 0, 1) := by decide +kernel
theorem dL_fresh_1 : decode cL_fresh 1 = .ok (.iconst 0, 1) := by decide +kernel
theorem dL_fresh_2 : decode cL_fresh 2 = .ok (.iconst 1, 1) := by decide +kernel
theorem dL_fresh_3 : decode cL_fresh 3 = .ok (.iastore, 1) := by decide +kernel
theorem dL_fresh_4 : decode cL_fresh 4 = .ok (.aload_n 0, 1) := by decide +kernel
theorem dL_fresh_5 : decode cL_fresh 5 = .ok (.iconst 1, 1) := by decide +kernel
theorem dL_fresh_6 : decode cL_fresh 6 = .ok (.iconst 1, 1) := by decide +kernel
theorem dL_fresh_7 : decode cL_fresh 7 = .ok (.iastore, 1) := by decide +kernel
theorem dL_fresh_8 : decode cL_fresh 8 = .ok (.aload_n 0, 1) := by decide +kernel
theorem dL_fresh_9 : decode cL_fresh 9 = .ok (.iconst 2, 1) := by decide +kernel
theorem dL_fresh_10 : decode cL_fresh 10 = .ok (.bipush 6, 2) := by decide +kernel
theorem dL_fresh_12 : decode cL_fresh 12 = .ok (.iastore, 1) := by decide +kernel
theorem dL_fresh_13 : decode cL_fresh 13 = .ok (.aload_n 0, 1) := by decide +kernel
theorem dL_fresh_14 : decode cL_fresh 14 = .ok (.iconst 3, 1) := by decide +kernel
theorem dL_fresh_15 : decode cL_fresh 15 = .ok (.iconst 1, 1) := by decide +kernel
theorem dL_fresh_16 : decode cL_fresh 16 = .ok (.iastore, 1) := by decide +kernel
theorem dL_fresh_17 : decode cL_fresh 17 = .ok (.aload_n 0, 1) := by decide +kernel
theorem dL_fresh_18 : decode cL_fresh 18 = .ok (.iconst 4, 1) := by decide +kernel
theorem dL_fresh_19 : decode cL_fresh 19 = .ok (.bipush 40, 2) := by decide +kernel
theorem dL_fresh_21 : decode cL_fresh 21 = .ok (.iastore, 1) := by decide +kernel
theorem dL_fresh_22 : decode cL_fresh 22 = .ok (.aload_n 0, 1) := by decide +kernel
theorem dL_fresh_23 : decode cL_fresh 23 = .ok (.bipush 7, 2) := by decide +kernel
theorem dL_fresh_25 : decode cL_fresh 25 = .ok (.iconst 1, 1) := by decide +kernel
theorem dL_fresh_26 : decode cL_fresh 26 = .ok (.iastore, 1) := by decide +kernel
theorem dL_fresh_27 : decode cL_fresh 27 = .ok (.return_, 1) := by decide +kernel
theorem dL_chart_0 : decode cL_chart 0 = .ok (.aload_n 0, 1) := by decide +kernel
theorem dL_chart_1 : decode cL_chart 1 = .ok (.invokevirtual 18, 3) := by decide +kernel
theorem dL_chart_4 : decode cL_chart 4 = .ok (.pop, 1) := by decide +kernel
theorem dL_chart_5 : decode cL_chart 5 = .ok (.aload_n 3, 1) := by decide +kernel
theorem dL_chart_6 : decode cL_chart 6 = .ok (.iconst 0, 1) := by decide +kernel
theorem dL_chart_7 : decode cL_chart 7 = .ok (.iconst 1, 1) := by decide +kernel
theorem dL_chart_8 : decode cL_chart 8 = .ok (.iload_n 1, 1) := by decide +kernel
theorem dL_chart_9 : decode cL_chart 9 = .ok (.iconst 4, 1) := by decide +kernel
theorem dL_chart_10 : decode cL_chart 10 = .ok (.invokestatic 24, 3) := by decide +kernel
theorem dL_chart_13 : decode cL_chart 13 = .ok (.iadd, 1) := by decide +kernel
theorem dL_chart_14 : decode cL_chart 14 = .ok (.iastore, 1) := by decide +kernel
theorem dL_chart_15 : decode cL_chart 15 = .ok (.aload_n 3, 1) := by decide +kernel
theorem dL_chart_16 : decode cL_chart 16 = .ok (.iconst 1, 1) := by decide +kernel
theorem dL_chart_17 : decode cL_chart 17 = .ok (.iconst 1, 1) := by decide +kernel
theorem dL_chart_18 : decode cL_chart 18 = .ok (.iload_n 1, 1) := by decide +kernel
theorem dL_chart_19 : decode cL_chart 19 = .ok (.iconst 3, 1) := by decide +kernel
theorem dL_chart_20 : decode cL_chart 20 = .ok (.ishr, 1) := by decide +kernel
theorem dL_chart_21 : decode cL_chart 21 = .ok (.bipush 7, 2) := by decide +kernel
theorem dL_chart_23 : decode cL_chart 23 = .ok (.invokestatic 24, 3) := by decide +kernel
theorem dL_chart_26 : decode cL_chart 26 = .ok (.iadd, 1) := by decide +kernel
theorem dL_chart_27 : decode cL_chart 27 = .ok (.iastore, 1) := by decide +kernel
theorem dL_chart_28 : decode cL_chart 28 = .ok (.iconst 0, 1) := by decide +kernel
theorem dL_chart_29 : decode cL_chart 29 = .ok (.istore 5, 2) := by decide +kernel
theorem dL_chart_31 : decode cL_chart 31 = .ok (.iconst 0, 1) := by decide +kernel
theorem dL_chart_32 : decode cL_chart 32 = .ok (.istore 6, 2) := by decide +kernel
theorem dL_chart_34 : decode cL_chart 34 = .ok (.iload 6, 2) := by decide +kernel
theorem dL_chart_36 : decode cL_chart 36 = .ok (.aload_n 3, 1) := by decide +kernel
theorem dL_chart_37 : decode cL_chart 37 = .ok (.iconst 0, 1) := by decide +kernel
theorem dL_chart_38 : decode cL_chart 38 = .ok (.iaload, 1) := by decide +kernel
theorem dL_chart_39 : decode cL_chart 39 = .ok (.if_icmp .ge 221, 3) := by decide +kernel
theorem dL_chart_42 : decode cL_chart 42 = .ok (.iload 6, 2) := by decide +kernel
theorem dL_chart_44 : decode cL_chart 44 = .ok (.ifCond .le 19, 3) := by decide +kernel
theorem dL_chart_47 : decode cL_chart 47 = .ok (.aload_n 0, 1) := by decide +kernel
theorem dL_chart_48 : decode cL_chart 48 = .ok (.bipush 47, 2) := by decide +kernel
theorem dL_chart_50 : decode cL_chart 50 = .ok (.invokevirtual 28, 3) := by decide +kernel
theorem dL_chart_53 : decode cL_chart 53 = .ok (.iinc 5 1, 3) := by decide +kernel
theorem dL_chart_56 : decode cL_chart 56 = .ok (.iload 5, 2) := by decide +kernel
theorem dL_chart_58 : decode cL_chart 58 = .ok (.if_icmp .eq 5, 3) := by decide +kernel
theorem dL_chart_61 : decode cL_chart 61 = .ok (.iconst 0, 1) := by decide +kernel
theorem dL_chart_62 : decode cL_chart 62 = .ok (.ireturn, 1) := by decide +kernel
theorem dL_chart_63 : decode cL_chart 63 = .ok (.iconst 0, 1) := by decide +kernel
theorem dL_chart_64 : decode cL_chart 64 = .ok (.istore 7, 2) := by decide +kernel
theorem dL_chart_66 : decode cL_chart 66 = .ok (.iconst 0, 1) := by decide +kernel
theorem dL_chart_67 : decode cL_chart 67 = .ok (.istore 8, 2) := by decide +kernel
theorem dL_chart_69 : decode cL_chart 69 = .ok (.iload 7, 2) := by decide +kernel
theorem dL_chart_71 : decode cL_chart 71 = .ok (.aload_n 3, 1) := by decide +kernel
theorem dL_chart_72 : decode cL_chart 72 = .ok (.iconst 1, 1) := by decide +kernel
theorem dL_chart_73 : decode cL_chart 73 = .ok (.iaload, 1) := by decide +kernel
theorem dL_chart_74 : decode cL_chart 74 = .ok (.if_icmp .ge 180, 3) := by decide +kernel
theorem dL_chart_77 : decode cL_chart 77 = .ok (.iload_n 2, 1) := by decide +kernel
theorem dL_chart_78 : decode cL_chart 78 = .ok (.iconst 2, 1) := by decide +kernel
theorem dL_chart_79 : decode cL_chart 79 = .ok (.iload 8, 2) := by decide +kernel
theorem dL_chart_81 : decode cL_chart 81 = .ok (.imul, 1) := by decide +kernel
theorem dL_chart_82 : decode cL_chart 82 = .ok (.iconst 3, 1) := by decide +kernel
theorem dL_chart_83 : decode cL_chart 83 = .ok (.iload 6, 2) := by decide +kernel
theorem dL_chart_85 : decode cL_chart 85 = .ok (.imul, 1) := by decide +kernel
theorem dL_chart_86 : decode cL_chart 86 = .ok (.iadd, 1) := by decide +kernel
theorem dL_chart_87 : decode cL_chart 87 = .ok (.bipush 29, 2) := by decide +kernel
theorem dL_chart_89 : decode cL_chart 89 = .ok (.irem, 1) := by decide +kernel
theorem dL_chart_90 : decode cL_chart 90 = .ok (.ishr, 1) := by decide +kernel
theorem dL_chart_91 : decode cL_chart 91 = .ok (.bipush 6, 2) := by decide +kernel
theorem dL_chart_93 : decode cL_chart 93 = .ok (.invokestatic 24, 3) := by decide +kernel
theorem dL_chart_96 : decode cL_chart 96 = .ok (.istore 9, 2) := by decide +kernel
theorem dL_chart_98 : decode cL_chart 98 = .ok (.iload_n 1, 1) := by decide +kernel
theorem dL_chart_99 : decode cL_chart 99 = .ok (.iload 8, 2) := by decide +kernel
theorem dL_chart_101 : decode cL_chart 101 = .ok (.iconst 5, 1) := by decide +kernel
theorem dL_chart_102 : decode cL_chart 102 = .ok (.iload 6, 2) := by decide +kernel
theorem dL_chart_104 : decode cL_chart 104 = .ok (.imul, 1) := by decide +kernel
theorem dL_chart_105 : decode cL_chart 105 = .ok (.iadd, 1) := by decide +kernel
theorem dL_chart_106 : decode cL_chart 106 = .ok (.bipush 27, 2) := by decide +kernel
theorem dL_chart_108 : decode cL_chart 108 = .ok (.irem, 1) := by decide +kernel
theorem dL_chart_109 : decode cL_chart 109 = .ok (.ishr, 1) := by decide +kernel
theorem dL_chart_110 : decode cL_chart 110 = .ok (.iconst 3, 1) := by decide +kernel
theorem dL_chart_111 : decode cL_chart 111 = .ok (.invokestatic 24, 3) := by decide +kernel
theorem dL_chart_114 : decode cL_chart 114 = .ok (.ifCond .ne 36, 3) := by decide +kernel
theorem dL_chart_117 : decode cL_chart 117 = .ok (.aload_n 3, 1) := by decide +kernel
theorem dL_chart_118 : decode cL_chart 118 = .ok (.iconst 1, 1) := by decide +kernel
theorem dL_chart_119 : decode cL_chart 119 = .ok (.iaload, 1) := by decide +kernel
theorem dL_chart_120 : decode cL_chart 120 = .ok (.iload 7, 2) := by decide +kernel
theorem dL_chart_122 : decode cL_chart 122 = .ok (.isub, 1) := by decide +kernel
theorem dL_chart_123 : decode cL_chart 123 = .ok (.iconst 1, 1) := by decide +kernel
theorem dL_chart_124 : decode cL_chart 124 = .ok (.if_icmp .le 26, 3) := by decide +kernel
theorem dL_chart_127 : decode cL_chart 127 = .ok (.iconst 2, 1) := by decide +kernel
theorem dL_chart_128 : decode cL_chart 128 = .ok (.iload_n 2, 1) := by decide +kernel
theorem dL_chart_129 : decode cL_chart 129 = .ok (.iload 8, 2) := by decide +kernel
theorem dL_chart_131 : decode cL_chart 131 = .ok (.iload 6, 2) := by decide +kernel
theorem dL_chart_133 : decode cL_chart 133 = .ok (.iadd, 1) := by decide +kernel
theorem dL_chart_134 : decode cL_chart 134 = .ok (.ishr, 1) := by decide +kernel
theorem dL_chart_135 : decode cL_chart 135 = .ok (.aload_n 3, 1) := by decide +kernel
theorem dL_chart_136 : decode cL_chart 136 = .ok (.iconst 1, 1) := by decide +kernel
theorem dL_chart_137 : decode cL_chart 137 = .ok (.iaload, 1) := by decide +kernel
theorem dL_chart_138 : decode cL_chart 138 = .ok (.iload 7, 2) := by decide +kernel
theorem dL_chart_140 : decode cL_chart 140 = .ok (.isub, 1) := by decide +kernel
theorem dL_chart_141 : decode cL_chart 141 = .ok (.iconst 1, 1) := by decide +kernel
theorem dL_chart_142 : decode cL_chart 142 = .ok (.isub, 1) := by decide +kernel
theorem dL_chart_143 : decode cL_chart 143 = .ok (.invokestatic 24, 3) := by decide +kernel
theorem dL_chart_146 : decode cL_chart 146 = .ok (.iadd, 1) := by decide +kernel
theorem dL_chart_147 : decode cL_chart 147 = .ok (.goto 4, 3) := by decide +kernel
theorem dL_chart_150 : decode cL_chart 150 = .ok (.iconst 1, 1) := by decide +kernel
theorem dL_chart_151 : decode cL_chart 151 = .ok (.istore 10, 2) := by decide +kernel
theorem dL_chart_153 : decode cL_chart 153 = .ok (.iload 10, 2) := by decide +kernel
theorem dL_chart_155 : decode cL_chart 155 = .ok (.iconst 1, 1) := by decide +kernel
theorem dL_chart_156 : decode cL_chart 156 = .ok (.if_icmp .le 22, 3) := by decide +kernel
theorem dL_chart_159 : decode cL_chart 159 = .ok (.aload_n 0, 1) := by decide +kernel
theorem dL_chart_160 : decode cL_chart 160 = .ok (.bipush 48, 2) := by decide +kernel
theorem dL_chart_162 : decode cL_chart 162 = .ok (.iload 10, 2) := by decide +kernel
theorem dL_chart_164 : decode cL_chart 164 = .ok (.iadd, 1) := by decide +kernel
theorem dL_chart_165 : decode cL_chart 165 = .ok (.invokevirtual 28, 3) := by decide +kernel
theorem dL_chart_168 : decode cL_chart 168 = .ok (.iinc 5 1, 3) := by decide +kernel
theorem dL_chart_171 : decode cL_chart 171 = .ok (.iload 5, 2) := by decide +kernel
theorem dL_chart_173 : decode cL_chart 173 = .ok (.if_icmp .eq 5, 3) := by decide +kernel
theorem dL_chart_176 : decode cL_chart 176 = .ok (.iconst 0, 1) := by decide +kernel
theorem dL_chart_177 : decode cL_chart 177 = .ok (.ireturn, 1) := by decide +kernel
theorem dL_chart_178 : decode cL_chart 178 = .ok (.aload_n 0, 1) := by decide +kernel
theorem dL_chart_179 : decode cL_chart 179 = .ok (.iconst 1, 1) := by decide +kernel
theorem dL_chart_180 : decode cL_chart 180 = .ok (.invokevirtual 32, 3) := by decide +kernel
theorem dL_chart_183 : decode cL_chart 183 = .ok (.iload 5, 2) := by decide +kernel
theorem dL_chart_185 : decode cL_chart 185 = .ok (.if_icmp .ne 20, 3) := by decide +kernel
theorem dL_chart_188 : decode cL_chart 188 = .ok (.aload_n 0, 1) := by decide +kernel
theorem dL_chart_189 : decode cL_chart 189 = .ok (.bipush 97, 2) := by decide +kernel
theorem dL_chart_191 : decode cL_chart 191 = .ok (.iload 9, 2) := by decide +kernel
theorem dL_chart_193 : decode cL_chart 193 = .ok (.iadd, 1) := by decide +kernel
theorem dL_chart_194 : decode cL_chart 194 = .ok (.invokevirtual 28, 3) := by decide +kernel
theorem dL_chart_197 : decode cL_chart 197 = .ok (.iinc 5 1, 3) := by decide +kernel
theorem dL_chart_200 : decode cL_chart 200 = .ok (.iload 5, 2) := by decide +kernel
theorem dL_chart_202 : decode cL_chart 202 = .ok (.if_icmp .eq 5, 3) := by decide +kernel
theorem dL_chart_205 : decode cL_chart 205 = .ok (.iconst 0, 1) := by decide +kernel
theorem dL_chart_206 : decode cL_chart 206 = .ok (.ireturn, 1) := by decide +kernel
theorem dL_chart_207 : decode cL_chart 207 = .ok (.iconst 0, 1) := by decide +kernel
theorem dL_chart_208 : decode cL_chart 208 = .ok (.istore 11, 2) := by decide +kernel
theorem dL_chart_210 : decode cL_chart 210 = .ok (.iload 11, 2) := by decide +kernel
theorem dL_chart_212 : decode cL_chart 212 = .ok (.iload 10, 2) := by decide +kernel
theorem dL_chart_214 : decode cL_chart 214 = .ok (.if_icmp .ge 27, 3) := by decide +kernel
theorem dL_chart_217 : decode cL_chart 217 = .ok (.aload 4, 2) := by decide +kernel
theorem dL_chart_219 : decode cL_chart 219 = .ok (.bipush 12, 2) := by decide +kernel
theorem dL_chart_221 : decode cL_chart 221 = .ok (.iload 6, 2) := by decide +kernel
theorem dL_chart_223 : decode cL_chart 223 = .ok (.imul, 1) := by decide +kernel
theorem dL_chart_224 : decode cL_chart 224 = .ok (.iload 7, 2) := by decide +kernel
theorem dL_chart_226 : decode cL_chart 226 = .ok (.iadd, 1) := by decide +kernel
theorem dL_chart_227 : decode cL_chart 227 = .ok (.iload 11, 2) := by decide +kernel
theorem dL_chart_229 : decode cL_chart 229 = .ok (.iadd, 1) := by decide +kernel
theorem dL_chart_230 : decode cL_chart 230 = .ok (.iload 9, 2) := by decide +kernel
theorem dL_chart_232 : decode cL_chart 232 = .ok (.invokestatic 36, 3) := by decide +kernel
theorem dL_chart_235 : decode cL_chart 235 = .ok (.iinc 11 1, 3) := by decide +kernel
theorem dL_chart_238 : decode cL_chart 238 = .ok (.goto (-28), 3) := by decide +kernel
theorem dL_chart_241 : decode cL_chart 241 = .ok (.iload 7, 2) := by decide +kernel
theorem dL_chart_243 : decode cL_chart 243 = .ok (.iload 10, 2) := by decide +kernel
theorem dL_chart_245 : decode cL_chart 245 = .ok (.iadd, 1) := by decide +kernel
theorem dL_chart_246 : decode cL_chart 246 = .ok (.istore 7, 2) := by decide +kernel
theorem dL_chart_248 : decode cL_chart 248 = .ok (.iinc 8 1, 3) := by decide +kernel
theorem dL_chart_251 : decode cL_chart 251 = .ok (.goto (-182), 3) := by decide +kernel
theorem dL_chart_254 : decode cL_chart 254 = .ok (.iinc 6 1, 3) := by decide +kernel
theorem dL_chart_257 : decode cL_chart 257 = .ok (.goto (-223), 3) := by decide +kernel
theorem dL_chart_260 : decode cL_chart 260 = .ok (.aload_n 0, 1) := by decide +kernel
theorem dL_chart_261 : decode cL_chart 261 = .ok (.iconst 1, 1) := by decide +kernel
theorem dL_chart_262 : decode cL_chart 262 = .ok (.invokevirtual 32, 3) := by decide +kernel
theorem dL_chart_265 : decode cL_chart 265 = .ok (.iload 5, 2) := by decide +kernel
theorem dL_chart_267 : decode cL_chart 267 = .ok (.if_icmp .ne 24, 3) := by decide +kernel
theorem dL_chart_270 : decode cL_chart 270 = .ok (.aload_n 0, 1) := by decide +kernel
theorem dL_chart_271 : decode cL_chart 271 = .ok (.invokevirtual 40, 3) := by decide +kernel
theorem dL_chart_274 : decode cL_chart 274 = .ok (.aload_n 3, 1) := by decide +kernel
theorem dL_chart_275 : decode cL_chart 275 = .ok (.iconst 0, 1) := by decide +kernel
theorem dL_chart_276 : decode cL_chart 276 = .ok (.iaload, 1) := by decide +kernel
theorem dL_chart_277 : decode cL_chart 277 = .ok (.if_icmp .ne 14, 3) := by decide +kernel
theorem dL_chart_280 : decode cL_chart 280 = .ok (.aload_n 0, 1) := by decide +kernel
theorem dL_chart_281 : decode cL_chart 281 = .ok (.invokevirtual 18, 3) := by decide +kernel
theorem dL_chart_284 : decode cL_chart 284 = .ok (.ifCond .ne 7, 3) := by decide +kernel
theorem dL_chart_287 : decode cL_chart 287 = .ok (.iconst 1, 1) := by decide +kernel
