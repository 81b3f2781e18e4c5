theorem dX5_clear_0 : decode cX5_clear 0 = .ok (.iconst 0, 1) := by decide +kernel
theorem dX5_clear_1 : decode cX5_clear 1 = .ok (.istore_n 1, 1) := by decide +kernel
theorem dX5_clear_2 : decode cX5_clear 2 = .ok (.iload_n 1, 1) := by decide +kernel
theorem dX5_clear_3 : decode cX5_clear 3 = .ok (.aload_n 0, 1) := by decide +kernel
theorem dX5_clear_4 : decode cX5_clear 4 = .ok (.getfield 9, 3) := by decide +kernel
theorem dX5_clear_7 : decode cX5_clear 7 = .ok (.arraylength, 1) := by decide +kernel
theorem dX5_clear_8 : decode cX5_clear 8 = .ok (.if_icmp .ge 16, 3) := by decide +kernel
theorem dX5_clear_11 : decode cX5_clear 11 = .ok (.aload_n 0, 1) := by decide +kernel
theorem dX5_clear_12 : decode cX5_clear 12 = .ok (.getfield 9, 3) := by decide +kernel
theorem dX5_clear_15 : decode cX5_clear 15 = .ok (.iload_n 1, 1) := by decide +kernel
theorem dX5_clear_16 : decode cX5_clear 16 = .ok (.iconst 0, 1) := by decide +kernel
theorem dX5_clear_17 : decode cX5_clear 17 = .ok (.bastore, 1) := by decide +kernel
theorem dX5_clear_18 : decode cX5_clear 18 = .ok (.iinc 1 1, 3) := by decide +kernel
theorem dX5_clear_21 : decode cX5_clear 21 = .ok (.goto (-19), 3) := by decide +kernel
theorem dX5_clear_24 : decode cX5_clear 24 = .ok (.aload_n 0, 1) := by decide +kernel
theorem dX5_clear_25 : decode cX5_clear 25 = .ok (.iconst 0, 1) := by decide +kernel
theorem dX5_clear_26 : decode cX5_clear 26 = .ok (.putfield 15, 3) := by decide +kernel
theorem dX5_clear_29 : decode cX5_clear 29 = .ok (.return_, 1) := by decide +kernel
theorem dX5_has_0 : decode cX5_has 0 = .ok (.aload_n 0, 1) := by decide +kernel
theorem dX5_has_1 : decode cX5_has 1 = .ok (.getfield 9, 3) := by decide +kernel
theorem dX5_has_4 : decode cX5_has 4 = .ok (.iload_n 1, 1) := by decide +kernel
theorem dX5_has_5 : decode cX5_has 5 = .ok (.baload, 1) := by decide +kernel
theorem dX5_has_6 : decode cX5_has 6 = .ok (.ireturn, 1) := by decide +kernel
theorem dX5_include_0 : decode cX5_include 0 = .ok (.aload_n 0, 1) := by decide +kernel
theorem dX5_include_1 : decode cX5_include 1 = .ok (.getfield 9, 3) := by decide +kernel
theorem dX5_include_4 : decode cX5_include 4 = .ok (.iload_n 1, 1) := by decide +kernel
theorem dX5_include_5 : decode cX5_include 5 = .ok (.baload, 1) := by decide +kernel
theorem dX5_include_6 : decode cX5_include 6 = .ok (.ifCond .ne 20, 3) := by decide +kernel
theorem dX5_include_9 : decode cX5_include 9 = .ok (.aload_n 0, 1) := by decide +kernel
theorem dX5_include_10 : decode cX5_include 10 = .ok (.getfield 9, 3) := by decide +kernel
theorem dX5_include_13 : decode cX5_include 13 = .ok (.iload_n 1, 1) := by decide +kernel
theorem dX5_include_14 : decode cX5_include 14 = .ok (.iconst 1, 1) := by decide +kernel
theorem dX5_include_15 : decode cX5_include 15 = .ok (.bastore, 1) := by decide +kernel
theorem dX5_include_16 : decode cX5_include 16 = .ok (.aload_n 0, 1) := by decide +kernel
theorem dX5_include_17 : decode cX5_include 17 = .ok (.dup, 1) := by decide +kernel
theorem dX5_include_18 : decode cX5_include 18 = .ok (.getfield 15, 3) := by decide +kernel
theorem dX5_include_21 : decode cX5_include 21 = .ok (.iconst 1, 1) := by decide +kernel
theorem dX5_include_22 : decode cX5_include 22 = .ok (.iadd, 1) := by decide +kernel
theorem dX5_include_23 : decode cX5_include 23 = .ok (.putfield 15, 3) := by decide +kernel
theorem dX5_include_26 : decode cX5_include 26 = .ok (.return_, 1) := by decide +kernel
theorem dX5_at_0 : decode cX5_at 0 = .ok (.iconst 0, 1) := by decide +kernel
theorem dX5_at_1 : decode cX5_at 1 = .ok (.istore_n 2, 1) := by decide +kernel
theorem dX5_at_2 : decode cX5_at 2 = .ok (.iconst 0, 1) := by decide +kernel
theorem dX5_at_3 : decode cX5_at 3 = .ok (.istore_n 3, 1) := by decide +kernel
theorem dX5_at_4 : decode cX5_at 4 = .ok (.iload_n 3, 1) := by decide +kernel
theorem dX5_at_5 : decode cX5_at 5 = .ok (.aload_n 0, 1) := by decide +kernel
theorem dX5_at_6 : decode cX5_at 6 = .ok (.getfield 9, 3) := by decide +kernel
theorem dX5_at_9 : decode cX5_at 9 = .ok (.arraylength, 1) := by decide +kernel
theorem dX5_at_10 : decode cX5_at 10 = .ok (.if_icmp .ge 28, 3) := by decide +kernel
theorem dX5_at_13 : decode cX5_at 13 = .ok (.aload_n 0, 1) := by decide +kernel
theorem dX5_at_14 : decode cX5_at 14 = .ok (.getfield 9, 3) := by decide +kernel
theorem dX5_at_17 : decode cX5_at 17 = .ok (.iload_n 3, 1) := by decide +kernel
theorem dX5_at_18 : decode cX5_at 18 = .ok (.baload, 1) := by decide +kernel
theorem dX5_at_19 : decode cX5_at 19 = .ok (.ifCond .eq 13, 3) := by decide +kernel
theorem dX5_at_22 : decode cX5_at 22 = .ok (.iload_n 2, 1) := by decide +kernel
theorem dX5_at_23 : decode cX5_at 23 = .ok (.iload_n 1, 1) := by decide +kernel
theorem dX5_at_24 : decode cX5_at 24 = .ok (.if_icmp .ne 5, 3) := by decide +kernel
theorem dX5_at_27 : decode cX5_at 27 = .ok (.iload_n 3, 1) := by decide +kernel
theorem dX5_at_28 : decode cX5_at 28 = .ok (.ireturn, 1) := by decide +kernel
theorem dX5_at_29 : decode cX5_at 29 = .ok (.iinc 2 1, 3) := by decide +kernel
theorem dX5_at_32 : decode cX5_at 32 = .ok (.iinc 3 1, 3) := by decide +kernel
theorem dX5_at_35 : decode cX5_at 35 = .ok (.goto (-31), 3) := by decide +kernel
theorem dX5_at_38 : decode cX5_at 38 = .ok (.iconst 0, 1) := by decide +kernel
theorem dX5_at_39 : decode cX5_at 39 = .ok (.ireturn, 1) := by decide +kernel
theorem dJ6_numberOfTrailingZeros_0f7a4_0 : decode cJ6_numberOfTrailingZeros_0f7a4 0 = .ok (.iload_n 0, 1) := by decide +kernel
theorem dJ6_numberOfTrailingZeros_0f7a4_1 : decode cJ6_numberOfTrailingZeros_0f7a4 1 = .ok (.iconst (-1), 1) := by decide +kernel
theorem dJ6_numberOfTrailingZeros_0f7a4_2 : decode cJ6_numberOfTrailingZeros_0f7a4 2 = .ok (.ixor, 1) := by decide +kernel
theorem dJ6_numberOfTrailingZeros_0f7a4_3 : decode cJ6_numberOfTrailingZeros_0f7a4 3 = .ok (.iload_n 0, 1) := by decide +kernel
theorem dJ6_numberOfTrailingZeros_0f7a4_4 : decode cJ6_numberOfTrailingZeros_0f7a4 4 = .ok (.iconst 1, 1) := by decide +kernel
theorem dJ6_numberOfTrailingZeros_0f7a4_5 : decode cJ6_numberOfTrailingZeros_0f7a4 5 = .ok (.isub, 1) := by decide +kernel
theorem dJ6_numberOfTrailingZeros_0f7a4_6 : decode cJ6_numberOfTrailingZeros_0f7a4 6 = .ok (.iand, 1) := by decide +kernel
theorem dJ6_numberOfTrailingZeros_0f7a4_7 : decode cJ6_numberOfTrailingZeros_0f7a4 7 = .ok (.istore_n 0, 1) := by decide +kernel
theorem dJ6_numberOfTrailingZeros_0f7a4_8 : decode cJ6_numberOfTrailingZeros_0f7a4 8 = .ok (.iload_n 0, 1) := by decide +kernel
theorem dJ6_numberOfTrailingZeros_0f7a4_9 : decode cJ6_numberOfTrailingZeros_0f7a4 9 = .ok (.ifCond .gt 8, 3) := by decide +kernel
theorem dJ6_numberOfTrailingZeros_0f7a4_12 : decode cJ6_numberOfTrailingZeros_0f7a4 12 = .ok (.iload_n 0, 1) := by decide +kernel
theorem dJ6_numberOfTrailingZeros_0f7a4_13 : decode cJ6_numberOfTrailingZeros_0f7a4 13 = .ok (.bipush 32, 2) := by decide +kernel
theorem dJ6_numberOfTrailingZeros_0f7a4_15 : decode cJ6_numberOfTrailingZeros_0f7a4 15 = .ok (.iand, 1) := by decide +kernel
theorem dJ6_numberOfTrailingZeros_0f7a4_16 : decode cJ6_numberOfTrailingZeros_0f7a4 16 = .ok (.ireturn, 1) := by decide +kernel
theorem dJ6_numberOfTrailingZeros_0f7a4_17 : decode cJ6_numberOfTrailingZeros_0f7a4 17 = .ok (.iconst 1, 1) := by decide +kernel
theorem dJ6_numberOfTrailingZeros_0f7a4_18 : decode cJ6_numberOfTrailingZeros_0f7a4 18 = .ok (.istore_n 1, 1) := by decide +kernel
theorem dJ6_numberOfTrailingZeros_0f7a4_19 : decode cJ6_numberOfTrailingZeros_0f7a4 19 = .ok (.iload_n 0, 1) := by decide +kernel
theorem dJ6_numberOfTrailingZeros_0f7a4_20 : decode cJ6_numberOfTrailingZeros_0f7a4 20 = .ok (.ldc_w 264, 3) := by decide +kernel
theorem dJ6_numberOfTrailingZeros_0f7a4_23 : decode cJ6_numberOfTrailingZeros_0f7a4 23 = .ok (.if_icmp .le 11, 3) := by decide +kernel
theorem dJ6_numberOfTrailingZeros_0f7a4_26 : decode cJ6_numberOfTrailingZeros_0f7a4 26 = .ok (.iinc 1 16, 3) := by decide +kernel
theorem dJ6_numberOfTrailingZeros_0f7a4_29 : decode cJ6_numberOfTrailingZeros_0f7a4 29 = .ok (.iload_n 0, 1) := by decide +kernel
theorem dJ6_numberOfTrailingZeros_0f7a4_30 : decode cJ6_numberOfTrailingZeros_0f7a4 30 = .ok (.bipush 16, 2) := by decide +kernel
theorem dJ6_numberOfTrailingZeros_0f7a4_32 : decode cJ6_numberOfTrailingZeros_0f7a4 32 = .ok (.iushr, 1) := by decide +kernel
theorem dJ6_numberOfTrailingZeros_0f7a4_33 : decode cJ6_numberOfTrailingZeros_0f7a4 33 = .ok (.istore_n 0, 1) := by decide +kernel
theorem dJ6_numberOfTrailingZeros_0f7a4_34 : decode cJ6_numberOfTrailingZeros_0f7a4 34 = .ok (.iload_n 0, 1) := by decide +kernel
theorem dJ6_numberOfTrailingZeros_0f7a4_35 : decode cJ6_numberOfTrailingZeros_0f7a4 35 = .ok (.sipush 256, 3) := by decide +kernel
theorem dJ6_numberOfTrailingZeros_0f7a4_38 : decode cJ6_numberOfTrailingZeros_0f7a4 38 = .ok (.if_icmp .le 11, 3) := by decide +kernel
theorem dJ6_numberOfTrailingZeros_0f7a4_41 : decode cJ6_numberOfTrailingZeros_0f7a4 41 = .ok (.iinc 1 8, 3) := by decide +kernel
theorem dJ6_numberOfTrailingZeros_0f7a4_44 : decode cJ6_numberOfTrailingZeros_0f7a4 44 = .ok (.iload_n 0, 1) := by decide +kernel
theorem dJ6_numberOfTrailingZeros_0f7a4_45 : decode cJ6_numberOfTrailingZeros_0f7a4 45 = .ok (.bipush 8, 2) := by decide +kernel
theorem dJ6_numberOfTrailingZeros_0f7a4_47 : decode cJ6_numberOfTrailingZeros_0f7a4 47 = .ok (.iushr, 1) := by decide +kernel
theorem dJ6_numberOfTrailingZeros_0f7a4_48 : decode cJ6_numberOfTrailingZeros_0f7a4 48 = .ok (.istore_n 0, 1) := by decide +kernel
theorem dJ6_numberOfTrailingZeros_0f7a4_49 : decode cJ6_numberOfTrailingZeros_0f7a4 49 = .ok (.iload_n 0, 1) := by decide +kernel
theorem dJ6_numberOfTrailingZeros_0f7a4_50 : decode cJ6_numberOfTrailingZeros_0f7a4 50 = .ok (.bipush 16, 2) := by decide +kernel
theorem dJ6_numberOfTrailingZeros_0f7a4_52 : decode cJ6_numberOfTrailingZeros_0f7a4 52 = .ok (.if_icmp .le 10, 3) := by decide +kernel
theorem dJ6_numberOfTrailingZeros_0f7a4_55 : decode cJ6_numberOfTrailingZeros_0f7a4 55 = .ok (.iinc 1 4, 3) := by decide +kernel
theorem dJ6_numberOfTrailingZeros_0f7a4_58 : decode cJ6_numberOfTrailingZeros_0f7a4 58 = .ok (.iload_n 0, 1) := by decide +kernel
theorem dJ6_numberOfTrailingZeros_0f7a4_59 : decode cJ6_numberOfTrailingZeros_0f7a4 59 = .ok (.iconst 4, 1) := by decide +kernel
theorem dJ6_numberOfTrailingZeros_0f7a4_60 : decode cJ6_numberOfTrailingZeros_0f7a4 60 = .ok (.iushr, 1) := by decide +kernel
theorem dJ6_numberOfTrailingZeros_0f7a4_61 : decode cJ6_numberOfTrailingZeros_0f7a4 61 = .ok (.istore_n 0, 1) := by decide +kernel
theorem dJ6_numberOfTrailingZeros_0f7a4_62 : decode cJ6_numberOfTrailingZeros_0f7a4 62 = .ok (.iload_n 0, 1) := by decide +kernel
theorem dJ6_numberOfTrailingZeros_0f7a4_63 : decode cJ6_numberOfTrailingZeros_0f7a4 63 = .ok (.iconst 4, 1) := by decide +kernel
theorem dJ6_numberOfTrailingZeros_0f7a4_64 : decode cJ6_numberOfTrailingZeros_0f7a4 64 = .ok (.if_icmp .le 10, 3) := by decide +kernel
theorem dJ6_numberOfTrailingZeros_0f7a4_67 : decode cJ6_numberOfTrailingZeros_0f7a4 67 = .ok (.iinc 1 2, 3) := by decide +kernel
theorem dJ6_numberOfTrailingZeros_0f7a4_70 : decode cJ6_numberOfTrailingZeros_0f7a4 70 = .ok (.iload_n 0, 1) := by decide +kernel
theorem dJ6_numberOfTrailingZeros_0f7a4_71 : decode cJ6_numberOfTrailingZeros_0f7a4 71 = .ok (.iconst 2, 1) := by decide +kernel
theorem dJ6_numberOfTrailingZeros_0f7a4_72 : decode cJ6_numberOfTrailingZeros_0f7a4 72 = .ok (.iushr, 1) := by decide +kernel
theorem dJ6_numberOfTrailingZeros_0f7a4_73 : decode cJ6_numberOfTrailingZeros_0f7a4 73 = .ok (.istore_n 0, 1) := by decide +kernel
theorem dJ6_numberOfTrailingZeros_0f7a4_74 : decode cJ6_numberOfTrailingZeros_0f7a4 74 = .ok (.iload_n 1, 1) := by decide +kernel
theorem dJ6_numberOfTrailingZeros_0f7a4_75 : decode cJ6_numberOfTrailingZeros_0f7a4 75 = .ok (.iload_n 0, 1) := by decide +kernel
theorem dJ6_numberOfTrailingZeros_0f7a4_76 : decode cJ6_numberOfTrailingZeros_0f7a4 76 = .ok (.iconst 1, 1) := by decide +kernel
theorem dJ6_numberOfTrailingZeros_0f7a4_77 : decode cJ6_numberOfTrailingZeros_0f7a4 77 = .ok (.iushr, 1) := by decide +kernel
theorem dJ6_numberOfTrailingZeros_0f7a4_78 : decode cJ6_numberOfTrailingZeros_0f7a4 78 = .ok (.iadd, 1) := by decide +kernel
theorem dJ6_numberOfTrailingZeros_0f7a4_79 : decode cJ6_numberOfTrailingZeros_0f7a4 79 = .ok (.ireturn, 1) := by decide +kernel
theorem dJ6_bitCount_0f7a4_0 : decode cJ6_bitCount_0f7a4 0 = .ok (.iload_n 0, 1) := by decide +kernel
theorem dJ6_bitCount_0f7a4_1 : decode cJ6_bitCount_0f7a4 1 = .ok (.iload_n 0, 1) := by decide +kernel
theorem dJ6_bitCount_0f7a4_2 : decode cJ6_bitCount_0f7a4 2 = .ok (.iconst 1, 1) := by decide +kernel
theorem dJ6_bitCount_0f7a4_3 : decode cJ6_bitCount_0f7a4 3 = .ok (.iushr, 1) := by decide +kernel
theorem dJ6_bitCount_0f7a4_4 : decode cJ6_bitCount_0f7a4 4 = .ok (.ldc_w 265, 3) := by decide +kernel
theorem dJ6_bitCount_0f7a4_7 : decode cJ6_bitCount_0f7a4 7 = .ok (.iand, 1) := by decide +kernel
theorem dJ6_bitCount_0f7a4_8 : decode cJ6_bitCount_0f7a4 8 = .ok (.isub, 1) := by decide +kernel
theorem dJ6_bitCount_0f7a4_9 : decode cJ6_bitCount_0f7a4 9 = .ok (.istore_n 0, 1) := by decide +kernel
theorem dJ6_bitCount_0f7a4_10 : decode cJ6_bitCount_0f7a4 10 = .ok (.iload_n 0, 1) := by decide +kernel
theorem dJ6_bitCount_0f7a4_11 : decode cJ6_bitCount_0f7a4 11 = .ok (.ldc_w 266, 3) := by decide +kernel
theorem dJ6_bitCount_0f7a4_14 : decode cJ6_bitCount_0f7a4 14 = .ok (.iand, 1) := by decide +kernel
theorem dJ6_bitCount_0f7a4_15 : decode cJ6_bitCount_0f7a4 15 = .ok (.iload_n 0, 1) := by decide +kernel
theorem dJ6_bitCount_0f7a4_16 : decode cJ6_bitCount_0f7a4 16 = .ok (.iconst 2, 1) := by decide +kernel
theorem dJ6_bitCount_0f7a4_17 : decode cJ6_bitCount_0f7a4 17 = .ok (.iushr, 1) := by decide +kernel
theorem dJ6_bitCount_0f7a4_18 : decode cJ6_bitCount_0f7a4 18 = .ok (.ldc_w 266, 3) := by decide +kernel
theorem dJ6_bitCount_0f7a4_21 : decode cJ6_bitCount_0f7a4 21 = .ok (.iand, 1) := by decide +kernel
theorem dJ6_bitCount_0f7a4_22 : decode cJ6_bitCount_0f7a4 22 = .ok (.iadd, 1) := by decide +kernel
theorem dJ6_bitCount_0f7a4_23 : decode cJ6_bitCount_0f7a4 23 = .ok (.istore_n 0, 1) := by decide +kernel
theorem dJ6_bitCount_0f7a4_24 : decode cJ6_bitCount_0f7a4 24 = .ok (.iload_n 0, 1) := by decide +kernel
theorem dJ6_bitCount_0f7a4_25 : decode cJ6_bitCount_0f7a4 25 = .ok (.iload_n 0, 1) := by decide +kernel
theorem dJ6_bitCount_0f7a4_26 : decode cJ6_bitCount_0f7a4 26 = .ok (.iconst 4, 1) := by decide +kernel
theorem dJ6_bitCount_0f7a4_27 : decode cJ6_bitCount_0f7a4 27 = .ok (.iushr, 1) := by decide +kernel
theorem dJ6_bitCount_0f7a4_28 : decode cJ6_bitCount_0f7a4 28 = .ok (.iadd, 1) := by decide +kernel
theorem dJ6_bitCount_0f7a4_29 : decode cJ6_bitCount_0f7a4 29 = .ok (.ldc_w 267, 3) := by decide +kernel
theorem dJ6_bitCount_0f7a4_32 : decode cJ6_bitCount_0f7a4 32 = .ok (.iand, 1) := by decide +kernel
theorem dJ6_bitCount_0f7a4_33 : decode cJ6_bitCount_0f7a4 33 = .ok (.istore_n 0, 1) := by decide +kernel
theorem dJ6_bitCount_0f7a4_34 : decode cJ6_bitCount_0f7a4 34 = .ok (.iload_n 0, 1) := by decide +kernel
theorem dJ6_bitCount_0f7a4_35 : decode cJ6_bitCount_0f7a4 35 = .ok (.iload_n 0, 1) := by decide +kernel
theorem dJ6_bitCount_0f7a4_36 : decode cJ6_bitCount_0f7a4 36 = .ok (.bipush 8, 2) := by decide +kernel
theorem dJ6_bitCount_0f7a4_38 : decode cJ6_bitCount_0f7a4 38 = .ok (.iushr, 1) := by decide +kernel
theorem dJ6_bitCount_0f7a4_39 : decode cJ6_bitCount_0f7a4 39 = .ok (.iadd, 1) := by decide +kernel
theorem dJ6_bitCount_0f7a4_40 : decode cJ6_bitCount_0f7a4 40 = .ok (.istore_n 0, 1) := by decide +kernel
theorem dJ6_bitCount_0f7a4_41 : decode cJ6_bitCount_0f7a4 41 = .ok (.iload_n 0, 1) := by decide +kernel
theorem dJ6_bitCount_0f7a4_42 : decode cJ6_bitCount_0f7a4 42 = .ok (.iload_n 0, 1) := by decide +kernel
theorem dJ6_bitCount_0f7a4_43 : decode cJ6_bitCount_0f7a4 43 = .ok (.bipush 16, 2) := by decide +kernel
theorem dJ6_bitCount_0f7a4_45 : decode cJ6_bitCount_0f7a4 45 = .ok (.iushr, 1) := by decide +kernel
theorem dJ6_bitCount_0f7a4_46 : decode cJ6_bitCount_0f7a4 46 = .ok (.iadd, 1) := by decide +kernel
theorem dJ6_bitCount_0f7a4_47 : decode cJ6_bitCount_0f7a4 47 = .ok (.istore_n 0, 1) := by decide +kernel
theorem dJ6_bitCount_0f7a4_48 : decode cJ6_bitCount_0f7a4 48 = .ok (.iload_n 0, 1) := by decide +kernel
theorem dJ6_bitCount_0f7a4_49 : decode cJ6_bitCount_0f7a4 49 = .ok (.bipush 63, 2) := by decide +kernel
theorem dJ6_bitCount_0f7a4_51 : decode cJ6_bitCount_0f7a4 51 = .ok (.iand, 1) := by decide +kernel
theorem dJ6_bitCount_0f7a4_52 : decode cJ6_bitCount_0f7a4 52 = .ok (.ireturn, 1) := by decide +kernel
theorem dJ13_numberOfTrailingZeros_95d88_0 : decode cJ13_numberOfTrailingZeros_95d88 0 = .ok (.lload_n 0, 1) := by decide +kernel
theorem dJ13_numberOfTrailingZeros_95d88_1 : decode cJ13_numberOfTrailingZeros_95d88 1 = .ok (.l2i, 1) := by decide +kernel
theorem dJ13_numberOfTrailingZeros_95d88_2 : decode cJ13_numberOfTrailingZeros_95d88 2 = .ok (.istore_n 2, 1) := by decide +kernel
theorem dJ13_numberOfTrailingZeros_95d88_3 : decode cJ13_numberOfTrailingZeros_95d88 3 = .ok (.iload_n 2, 1) := by decide +kernel
theorem dJ13_numberOfTrailingZeros_95d88_4 : decode cJ13_numberOfTrailingZeros_95d88 4 = .ok (.ifCond .ne 17, 3) := by decide +kernel
theorem dJ13_numberOfTrailingZeros_95d88_7 : decode cJ13_numberOfTrailingZeros_95d88 7 = .ok (.bipush 32, 2) := by decide +kernel
theorem dJ13_numberOfTrailingZeros_95d88_9 : decode cJ13_numberOfTrailingZeros_95d88 9 = .ok (.lload_n 0, 1) := by decide +kernel
theorem dJ13_numberOfTrailingZeros_95d88_10 : decode cJ13_numberOfTrailingZeros_95d88 10 = .ok (.bipush 32, 2) := by decide +kernel
theorem dJ13_numberOfTrailingZeros_95d88_12 : decode cJ13_numberOfTrailingZeros_95d88 12 = .ok (.lushr, 1) := by decide +kernel
theorem dJ13_numberOfTrailingZeros_95d88_13 : decode cJ13_numberOfTrailingZeros_95d88 13 = .ok (.l2i, 1) := by decide +kernel
theorem dJ13_numberOfTrailingZeros_95d88_14 : decode cJ13_numberOfTrailingZeros_95d88 14 = .ok (.invokestatic 311, 3) := by decide +kernel
theorem dJ13_numberOfTrailingZeros_95d88_17 : decode cJ13_numberOfTrailingZeros_95d88 17 = .ok (.iadd, 1) := by decide +kernel
theorem dJ13_numberOfTrailingZeros_95d88_18 : decode cJ13_numberOfTrailingZeros_95d88 18 = .ok (.goto 7, 3) := by decide +kernel
theorem dJ13_numberOfTrailingZeros_95d88_21 : decode cJ13_numberOfTrailingZeros_95d88 21 = .ok (.iload_n 2, 1) := by decide +kernel
theorem dJ13_numberOfTrailingZeros_95d88_22 : decode cJ13_numberOfTrailingZeros_95d88 22 = .ok (.invokestatic 311, 3) := by decide +kernel
theorem dJ13_numberOfTrailingZeros_95d88_25 : decode cJ13_numberOfTrailingZeros_95d88 25 = .ok (.ireturn, 1) := by decide +kernel
theorem dJ13_bitCount_95d88_0 : decode cJ13_bitCount_95d88 0 = .ok (.lload_n 0, 1) := by decide +kernel
theorem dJ13_bitCount_95d88_1 : decode cJ13_bitCount_95d88 1 = .ok (.lload_n 0, 1) := by decide +kernel
theorem dJ13_bitCount_95d88_2 : decode cJ13_bitCount_95d88 2 = .ok (.iconst 1, 1) := by decide +kernel
theorem dJ13_bitCount_95d88_3 : decode cJ13_bitCount_95d88 3 = .ok (.lushr, 1) := by decide +kernel
theorem dJ13_bitCount_95d88_4 : decode cJ13_bitCount_95d88 4 = .ok (.ldc2_w 314, 3) := by decide +kernel
theorem dJ13_bitCount_95d88_7 : decode cJ13_bitCount_95d88 7 = .ok (.land, 1) := by decide +kernel
theorem dJ13_bitCount_95d88_8 : decode cJ13_bitCount_95d88 8 = .ok (.lsub, 1) := by decide +kernel
theorem dJ13_bitCount_95d88_9 : decode cJ13_bitCount_95d88 9 = .ok (.lstore_n 0, 1) := by decide +kernel
theorem dJ13_bitCount_95d88_10 : decode cJ13_bitCount_95d88 10 = .ok (.lload_n 0, 1) := by decide +kernel
theorem dJ13_bitCount_95d88_11 : decode cJ13_bitCount_95d88 11 = .ok (.ldc2_w 316, 3) := by decide +kernel
theorem dJ13_bitCount_95d88_14 : decode cJ13_bitCount_95d88 14 = .ok (.land, 1) := by decide +kernel
theorem dJ13_bitCount_95d88_15 : decode cJ13_bitCount_95d88 15 = .ok (.lload_n 0, 1) := by decide +kernel
theorem dJ13_bitCount_95d88_16 : decode cJ13_bitCount_95d88 16 = .ok (.iconst 2, 1) := by decide +kernel
theorem dJ13_bitCount_95d88_17 : decode cJ13_bitCount_95d88 17 = .ok (.lushr, 1) := by decide +kernel
theorem dJ13_bitCount_95d88_18 : decode cJ13_bitCount_95d88 18 = .ok (.ldc2_w 316, 3) := by decide +kernel
theorem dJ13_bitCount_95d88_21 : decode cJ13_bitCount_95d88 21 = .ok (.land, 1) := by decide +kernel
theorem dJ13_bitCount_95d88_22 : decode cJ13_bitCount_95d88 22 = .ok (.ladd, 1) := by decide +kernel
theorem dJ13_bitCount_95d88_23 : decode cJ13_bitCount_95d88 23 = .ok (.lstore_n 0, 1) := by decide +kernel
theorem dJ13_bitCount_95d88_24 : decode cJ13_bitCount_95d88 24 = .ok (.lload_n 0, 1) := by decide +kernel
theorem dJ13_bitCount_95d88_25 : decode cJ13_bitCount_95d88 25 = .ok (.lload_n 0, 1) := by decide +kernel
theorem dJ13_bitCount_95d88_26 : decode cJ13_bitCount_95d88 26 = .ok (.iconst 4, 1) := by decide +kernel
theorem dJ13_bitCount_95d88_27 : decode cJ13_bitCount_95d88 27 = .ok (.lushr, 1) := by decide +kernel
theorem dJ13_bitCount_95d88_28 : decode cJ13_bitCount_95d88 28 = .ok (.ladd, 1) := by decide +kernel
theorem dJ13_bitCount_95d88_29 : decode cJ13_bitCount_95d88 29 = .ok (.ldc2_w 318, 3) := by decide +kernel
theorem dJ13_bitCount_95d88_32 : decode cJ13_bitCount_95d88 32 = .ok (.land, 1) := by decide +kernel
theorem dJ13_bitCount_95d88_33 : decode cJ13_bitCount_95d88 33 = .ok (.lstore_n 0, 1) := by decide +kernel
theorem dJ13_bitCount_95d88_34 : decode cJ13_bitCount_95d88 34 = .ok (.lload_n 0, 1) := by decide +kernel
theorem dJ13_bitCount_95d88_35 : decode cJ13_bitCount_95d88 35 = .ok (.lload_n 0, 1) := by decide +kernel
theorem dJ13_bitCount_95d88_36 : decode cJ13_bitCount_95d88 36 = .ok (.bipush 8, 2) := by decide +kernel
theorem dJ13_bitCount_95d88_38 : decode cJ13_bitCount_95d88 38 = .ok (.lushr, 1) := by decide +kernel
theorem dJ13_bitCount_95d88_39 : decode cJ13_bitCount_95d88 39 = .ok (.ladd, 1) := by decide +kernel
theorem dJ13_bitCount_95d88_40 : decode cJ13_bitCount_95d88 40 = .ok (.lstore_n 0, 1) := by decide +kernel
theorem dJ13_bitCount_95d88_41 : decode cJ13_bitCount_95d88 41 = .ok (.lload_n 0, 1) := by decide +kernel
theorem dJ13_bitCount_95d88_42 : decode cJ13_bitCount_95d88 42 = .ok (.lload_n 0, 1) := by decide +kernel
theorem dJ13_bitCount_95d88_43 : decode cJ13_bitCount_95d88 43 = .ok (.bipush 16, 2) := by decide +kernel
theorem dJ13_bitCount_95d88_45 : decode cJ13_bitCount_95d88 45 = .ok (.lushr, 1) := by decide +kernel
theorem dJ13_bitCount_95d88_46 : decode cJ13_bitCount_95d88 46 = .ok (.ladd, 1) := by decide +kernel
theorem dJ13_bitCount_95d88_47 : decode cJ13_bitCount_95d88 47 = .ok (.lstore_n 0, 1) := by decide +kernel
theorem dJ13_bitCount_95d88_48 : decode cJ13_bitCount_95d88 48 = .ok (.lload_n 0, 1) := by decide +kernel
theorem dJ13_bitCount_95d88_49 : decode cJ13_bitCount_95d88 49 = .ok (.lload_n 0, 1) := by decide +kernel
theorem dJ13_bitCount_95d88_50 : decode cJ13_bitCount_95d88 50 = .ok (.bipush 32, 2) := by decide +kernel
theorem dJ13_bitCount_95d88_52 : decode cJ13_bitCount_95d88 52 = .ok (.lushr, 1) := by decide +kernel
theorem dJ13_bitCount_95d88_53 : decode cJ13_bitCount_95d88 53 = .ok (.ladd, 1) := by decide +kernel
theorem dJ13_bitCount_95d88_54 : decode cJ13_bitCount_95d88 54 = .ok (.lstore_n 0, 1) := by decide +kernel
theorem dJ13_bitCount_95d88_55 : decode cJ13_bitCount_95d88 55 = .ok (.lload_n 0, 1) := by decide +kernel
theorem dJ13_bitCount_95d88_56 : decode cJ13_bitCount_95d88 56 = .ok (.l2i, 1) := by decide +kernel
theorem dJ13_bitCount_95d88_57 : decode cJ13_bitCount_95d88 57 = .ok (.bipush 127, 2) := by decide +kernel
theorem dJ13_bitCount_95d88_59 : decode cJ13_bitCount_95d88 59 = .ok (.iand, 1) := by decide +kernel
theorem dJ13_bitCount_95d88_60 : decode cJ13_bitCount_95d88 60 = .ok (.ireturn, 1) := by decide +kernel
theorem mB85_4 : mB 85 4 = 1431655765 := by decide
theorem mB51_4 : mB 51 4 = 858993459 := by decide
theorem mB15_4 : mB 15 4 = 252645135 := by decide
theorem mB85_8 : mB 85 8 = 6148914691236517205 := by decide
theorem mB51_8 : mB 51 8 = 3689348814741910323 := by decide
theorem mB15_8 : mB 15 8 = 1085102592571150095 := by decide
theorem and_63 (a : Nat) : a &&& 63 = a % 64 := Nat.and_two_pow_sub_one_eq_mod a 6
theorem and_127 (a : Nat) : a &&& 127 = a % 128 := Nat.and_two_pow_sub_one_eq_mod a 7
theorem b3_le (k : Nat) : ∀ n, b3 k n ≤ mB 8 k := by
  induction k with
  | zero => intro n; simp [b3, mB]
  | succ k ih => intro n; rw [b3_s, mB]; have := ih (n / 256); have := ct8 (n % 256); omega
theorem b3_4 (n : Nat) : b3 4 n ≤ 134744072 := by have h := b3_le 4 n; rw [show mB 8 4 = 134744072 by decide] at h; exact h
theorem b3_8 (n : Nat) : b3 8 n ≤ 578721382704613384 := by have h := b3_le 8 n; rw [show mB 8 8 = 578721382704613384 by decide] at h; exact h
set_option maxHeartbeats 4000000 in
set_option maxRecDepth 100000 in
/-- bitCount -/
theorem m_ibits (l : Launch) (D : va_G) (cy : Nat → ClassId) (O : Nat × va_E → Prop) {n9 : Nat} (hn9 : n9 < 2 ^ 32) : Ci l yJ6_bitCount_0f7a4 (.code yJ6_bitCount_0f7a4 cJ6_bitCount_0f7a4 1 (some .int) :: WALL) ({ frames := 0, cells := 0, slots := 0, locals := 0 }) D cy O [.int (nI n9)] [] 0 0 (fun (r : Int32) (w : va_W) => r = nI (ct n9.testBit 32) ∧ w = []) := by
  refine z_meti (by decide +kernel) rfl rfl (Nat.le_of_ble_eq_true rfl) ?_
  intro p e s m args below meth c X hr hin
  refine z_eq (ws' := []) (lv' := [(0, .int (nI n9))]) (st' := []) rfl rfl rfl ?_
  refine z_iload_n X dJ6_bitCount_0f7a4_0 rfl (j := 0) rfl ?_
  refine z_iload_n X dJ6_bitCount_0f7a4_1 rfl (j := 0) rfl ?_
  refine z_iconst X (v := 1) dJ6_bitCount_0f7a4_2 (by decide) ?_
  refine z_iushr X (v := (nI (n9 / 2))) dJ6_bitCount_0f7a4_3 (ushr_nI (j := 1) hn9 (by decide)) ?_
  refine z_ldcw X kc_J6_265 dJ6_bitCount_0f7a4_4 ?_
  refine z_iand X (v := (nI (n9 / 2 &&& mB 85 4))) dJ6_bitCount_0f7a4_7 (by rw [mB85_4]; exact nI_and _ _) ?_
  refine z_isub X (v := (nI (b1 4 n9))) dJ6_bitCount_0f7a4_8 (pk_sub (half_le 4 n9 hn9)) ?_
  refine z_istore_n X (lv' := [(0, .int (nI (b1 4 n9)))]) dJ6_bitCount_0f7a4_9 rfl (by decide) rfl ?_
  refine z_iload_n X dJ6_bitCount_0f7a4_10 rfl (j := 0) rfl ?_
  refine z_ldcw X kc_J6_266 dJ6_bitCount_0f7a4_11 ?_
  refine z_iand X (v := (nI ((b1 4 n9) &&& mB 51 4))) dJ6_bitCount_0f7a4_14 (by rw [mB51_4]; exact nI_and _ _) ?_
  refine z_iload_n X dJ6_bitCount_0f7a4_15 rfl (j := 0) rfl ?_
  refine z_iconst X (v := 2) dJ6_bitCount_0f7a4_16 (by decide) ?_
  refine z_iushr X (v := (nI ((b1 4 n9) / 4))) dJ6_bitCount_0f7a4_17 (ushr_nI (j := 2) (Nat.lt_of_le_of_lt (b1_le 4 n9) hn9) (by decide)) ?_
  refine z_ldcw X kc_J6_266 dJ6_bitCount_0f7a4_18 ?_
  refine z_iand X (v := (nI ((b1 4 n9) / 4 &&& mB 51 4))) dJ6_bitCount_0f7a4_21 (by rw [mB51_4]; exact nI_and _ _) ?_
  refine z_iadd X (v := (nI (b2 4 n9))) dJ6_bitCount_0f7a4_22 (nI_add _ _) ?_
  refine z_istore_n X (lv' := [(0, .int (nI (b2 4 n9)))]) dJ6_bitCount_0f7a4_23 rfl (by decide) rfl ?_
  refine z_iload_n X dJ6_bitCount_0f7a4_24 rfl (j := 0) rfl ?_
  refine z_iload_n X dJ6_bitCount_0f7a4_25 rfl (j := 0) rfl ?_
  refine z_iconst X (v := 4) dJ6_bitCount_0f7a4_26 (by decide) ?_
  refine z_iushr X (v := (nI ((b2 4 n9) / 16))) dJ6_bitCount_0f7a4_27 (ushr_nI (j := 4) (b2_lt 4 n9) (by decide)) ?_
  refine z_iadd X (v := (nI ((b2 4 n9) + (b2 4 n9) / 16))) dJ6_bitCount_0f7a4_28 (nI_add _ _) ?_
  refine z_ldcw X kc_J6_267 dJ6_bitCount_0f7a4_29 ?_
  refine z_iand X (v := (nI (b3 4 n9))) dJ6_bitCount_0f7a4_32 (by rw [b3, mB15_4]; exact nI_and _ _) ?_
  refine z_istore_n X (lv' := [(0, .int (nI (b3 4 n9)))]) dJ6_bitCount_0f7a4_33 rfl (by decide) rfl ?_
  refine z_iload_n X dJ6_bitCount_0f7a4_34 rfl (j := 0) rfl ?_
  refine z_iload_n X dJ6_bitCount_0f7a4_35 rfl (j := 0) rfl ?_
  refine z_bipush X (v := 8) dJ6_bitCount_0f7a4_36 (by decide) ?_
  refine z_iushr X (v := (nI ((b3 4 n9) / 256))) dJ6_bitCount_0f7a4_38 (ushr_nI (j := 8) (b3_lt 4 n9) (by decide)) ?_
  refine z_iadd X (v := (nI ((b3 4 n9) + (b3 4 n9) / 256))) dJ6_bitCount_0f7a4_39 (nI_add _ _) ?_
  refine z_istore_n X (lv' := [(0, .int (nI ((b3 4 n9) + (b3 4 n9) / 256)))]) dJ6_bitCount_0f7a4_40 rfl (by decide) rfl ?_
  refine z_iload_n X dJ6_bitCount_0f7a4_41 rfl (j := 0) rfl ?_
  refine z_iload_n X dJ6_bitCount_0f7a4_42 rfl (j := 0) rfl ?_
  refine z_bipush X (v := 16) dJ6_bitCount_0f7a4_43 (by decide) ?_
  refine z_iushr X (v := (nI (((b3 4 n9) + (b3 4 n9) / 256) / 65536))) dJ6_bitCount_0f7a4_45 (ushr_nI (j := 16) (by have h9 := b3_4 n9; omega) (by decide)) ?_
  refine z_iadd X (v := (nI (((b3 4 n9) + (b3 4 n9) / 256) + ((b3 4 n9) + (b3 4 n9) / 256) / 65536))) dJ6_bitCount_0f7a4_46 (nI_add _ _) ?_
  refine z_istore_n X (lv' := [(0, .int (nI (((b3 4 n9) + (b3 4 n9) / 256) + ((b3 4 n9) + (b3 4 n9) / 256) / 65536)))]) dJ6_bitCount_0f7a4_47 rfl (by decide) rfl ?_
  refine z_iload_n X dJ6_bitCount_0f7a4_48 rfl (j := 0) rfl ?_
  refine z_bipush X (v := 63) dJ6_bitCount_0f7a4_49 (by decide) ?_
  refine z_iand X (v := (nI (ct n9.testBit 32))) dJ6_bitCount_0f7a4_51 (by rw [← pc32, ← and_63]; exact nI_and _ _) ?_
  exact z_endi X hr [] [] rfl rfl rfl ⟨rfl, rfl⟩ dJ6_bitCount_0f7a4_52
set_option maxHeartbeats 4000000 in
set_option maxRecDepth 100000 in
/-- bitCount -/
theorem m_lbits (l : Launch) (D : va_G) (cy : Nat → ClassId) (O : Nat × va_E → Prop) {n9 : Nat} (hn9 : n9 < 2 ^ 64) : Ci l yJ13_bitCount_95d88 (.code yJ13_bitCount_95d88 cJ13_bitCount_95d88 2 (some .int) :: WALL) ({ frames := 0, cells := 0, slots := 0, locals := 0 }) D cy O [.long (nL n9)] [] 0 0 (fun (r : Int32) (w : va_W) => r = nI (ct n9.testBit 64) ∧ w = []) := by
  refine z_meti (by decide +kernel) rfl rfl (Nat.le_of_ble_eq_true rfl) ?_
  intro p e s m args below meth c X hr hin
  refine z_eq (ws' := []) (lv' := [(0, .long (nL n9))]) (st' := []) rfl rfl rfl ?_
  refine z_lload_n X dJ13_bitCount_95d88_0 rfl (j := 0) rfl ?_
  refine z_lload_n X dJ13_bitCount_95d88_1 rfl (j := 0) rfl ?_
  refine z_iconst X (v := 1) dJ13_bitCount_95d88_2 (by decide) ?_
  refine z_lushr X (v := (nL (n9 / 2))) dJ13_bitCount_95d88_3 (ushr_nL (j := 1) hn9 (by decide)) ?_
  refine z_ldc2 X kc_J13_314 dJ13_bitCount_95d88_4 ?_
  refine z_land X (v := (nL (n9 / 2 &&& mB 85 8))) dJ13_bitCount_95d88_7 (by rw [mB85_8]; exact nL_and _ _) ?_
  refine z_lsub X (v := (nL (b1 8 n9))) dJ13_bitCount_95d88_8 (nL_sub (half_le 8 n9 hn9)) ?_
  refine z_lstore_n X (lv' := [(0, .long (nL (b1 8 n9)))]) dJ13_bitCount_95d88_9 rfl (by decide) rfl ?_
  refine z_lload_n X dJ13_bitCount_95d88_10 rfl (j := 0) rfl ?_
  refine z_ldc2 X kc_J13_316 dJ13_bitCount_95d88_11 ?_
  refine z_land X (v := (nL ((b1 8 n9) &&& mB 51 8))) dJ13_bitCount_95d88_14 (by rw [mB51_8]; exact nL_and _ _) ?_
  refine z_lload_n X dJ13_bitCount_95d88_15 rfl (j := 0) rfl ?_
  refine z_iconst X (v := 2) dJ13_bitCount_95d88_16 (by decide) ?_
  refine z_lushr X (v := (nL ((b1 8 n9) / 4))) dJ13_bitCount_95d88_17 (ushr_nL (j := 2) (Nat.lt_of_le_of_lt (b1_le 8 n9) hn9) (by decide)) ?_
  refine z_ldc2 X kc_J13_316 dJ13_bitCount_95d88_18 ?_
  refine z_land X (v := (nL ((b1 8 n9) / 4 &&& mB 51 8))) dJ13_bitCount_95d88_21 (by rw [mB51_8]; exact nL_and _ _) ?_
  refine z_ladd X (v := (nL (b2 8 n9))) dJ13_bitCount_95d88_22 (nL_add _ _) ?_
  refine z_lstore_n X (lv' := [(0, .long (nL (b2 8 n9)))]) dJ13_bitCount_95d88_23 rfl (by decide) rfl ?_
  refine z_lload_n X dJ13_bitCount_95d88_24 rfl (j := 0) rfl ?_
  refine z_lload_n X dJ13_bitCount_95d88_25 rfl (j := 0) rfl ?_
  refine z_iconst X (v := 4) dJ13_bitCount_95d88_26 (by decide) ?_
  refine z_lushr X (v := (nL ((b2 8 n9) / 16))) dJ13_bitCount_95d88_27 (ushr_nL (j := 4) (b2_lt 8 n9) (by decide)) ?_
  refine z_ladd X (v := (nL ((b2 8 n9) + (b2 8 n9) / 16))) dJ13_bitCount_95d88_28 (nL_add _ _) ?_
  refine z_ldc2 X kc_J13_318 dJ13_bitCount_95d88_29 ?_
  refine z_land X (v := (nL (b3 8 n9))) dJ13_bitCount_95d88_32 (by rw [b3, mB15_8]; exact nL_and _ _) ?_
  refine z_lstore_n X (lv' := [(0, .long (nL (b3 8 n9)))]) dJ13_bitCount_95d88_33 rfl (by decide) rfl ?_
  refine z_lload_n X dJ13_bitCount_95d88_34 rfl (j := 0) rfl ?_
  refine z_lload_n X dJ13_bitCount_95d88_35 rfl (j := 0) rfl ?_
  refine z_bipush X (v := 8) dJ13_bitCount_95d88_36 (by decide) ?_
  refine z_lushr X (v := (nL ((b3 8 n9) / 256))) dJ13_bitCount_95d88_38 (ushr_nL (j := 8) (b3_lt 8 n9) (by decide)) ?_
  refine z_ladd X (v := (nL ((b3 8 n9) + (b3 8 n9) / 256))) dJ13_bitCount_95d88_39 (nL_add _ _) ?_
  refine z_lstore_n X (lv' := [(0, .long (nL ((b3 8 n9) + (b3 8 n9) / 256)))]) dJ13_bitCount_95d88_40 rfl (by decide) rfl ?_
  refine z_lload_n X dJ13_bitCount_95d88_41 rfl (j := 0) rfl ?_
  refine z_lload_n X dJ13_bitCount_95d88_42 rfl (j := 0) rfl ?_
  refine z_bipush X (v := 16) dJ13_bitCount_95d88_43 (by decide) ?_
  refine z_lushr X (v := (nL (((b3 8 n9) + (b3 8 n9) / 256) / 65536))) dJ13_bitCount_95d88_45 (ushr_nL (j := 16) (by have h9 := b3_8 n9; omega) (by decide)) ?_
  refine z_ladd X (v := (nL (((b3 8 n9) + (b3 8 n9) / 256) + ((b3 8 n9) + (b3 8 n9) / 256) / 65536))) dJ13_bitCount_95d88_46 (nL_add _ _) ?_
  refine z_lstore_n X (lv' := [(0, .long (nL (((b3 8 n9) + (b3 8 n9) / 256) + ((b3 8 n9) + (b3 8 n9) / 256) / 65536)))]) dJ13_bitCount_95d88_47 rfl (by decide) rfl ?_
  refine z_lload_n X dJ13_bitCount_95d88_48 rfl (j := 0) rfl ?_
  refine z_lload_n X dJ13_bitCount_95d88_49 rfl (j := 0) rfl ?_
  refine z_bipush X (v := 32) dJ13_bitCount_95d88_50 (by decide) ?_
  refine z_lushr X (v := (nL ((((b3 8 n9) + (b3 8 n9) / 256) + ((b3 8 n9) + (b3 8 n9) / 256) / 65536) / 4294967296))) dJ13_bitCount_95d88_52 (ushr_nL (j := 32) (by have h9 := b3_8 n9; omega) (by decide)) ?_
  refine z_ladd X (v := (nL ((((b3 8 n9) + (b3 8 n9) / 256) + ((b3 8 n9) + (b3 8 n9) / 256) / 65536) + (((b3 8 n9) + (b3 8 n9) / 256) + ((b3 8 n9) + (b3 8 n9) / 256) / 65536) / 4294967296))) dJ13_bitCount_95d88_53 (nL_add _ _) ?_
  refine z_lstore_n X (lv' := [(0, .long (nL ((((b3 8 n9) + (b3 8 n9) / 256) + ((b3 8 n9) + (b3 8 n9) / 256) / 65536) + (((b3 8 n9) + (b3 8 n9) / 256) + ((b3 8 n9) + (b3 8 n9) / 256) / 65536) / 4294967296)))]) dJ13_bitCount_95d88_54 rfl (by decide) rfl ?_
  refine z_lload_n X dJ13_bitCount_95d88_55 rfl (j := 0) rfl ?_
  refine z_l2i X (v := (nI ((((b3 8 n9) + (b3 8 n9) / 256) + ((b3 8 n9) + (b3 8 n9) / 256) / 65536) + (((b3 8 n9) + (b3 8 n9) / 256) + ((b3 8 n9) + (b3 8 n9) / 256) / 65536) / 4294967296))) dJ13_bitCount_95d88_56 (l2i_nL _) ?_
  refine z_bipush X (v := 127) dJ13_bitCount_95d88_57 (by decide) ?_
  refine z_iand X (v := (nI (ct n9.testBit 64))) dJ13_bitCount_95d88_59 (by rw [← pc64, ← and_127]; exact nI_and _ _) ?_
  exact z_endi X hr [] [] rfl rfl rfl ⟨rfl, rfl⟩ dJ13_bitCount_95d88_60
theorem ntz_zero : ∀ t9, t9 < 32 → ¬ 0 < nI (2 ^ t9 - 1) → t9 = 0 := by decide
set_option maxRecDepth 100000 in
theorem ntz_ttttt_b : ∀ t9, t9 < 32 → (decide (t9 = 0) || (!decide ((nI (2 ^ t9 - 1)) ≤ 65536) || (!decide ((nI (2 ^ t9 - 1)) ≤ 256) || (!decide ((nI (2 ^ t9 - 1)) ≤ 16) || (!decide ((nI (2 ^ t9 - 1)) ≤ 4) || decide ((1 + (((nI (2 ^ t9 - 1)).toUInt32 >>> ((1 : Int32).toUInt32 &&& Int32.toUInt32 31)).toInt32)) = nI t9)))))) = true := by decide +kernel
theorem ntz_ttttt : ∀ t9, t9 < 32 → ¬ t9 = 0 → (nI (2 ^ t9 - 1)) ≤ 65536 → (nI (2 ^ t9 - 1)) ≤ 256 → (nI (2 ^ t9 - 1)) ≤ 16 → (nI (2 ^ t9 - 1)) ≤ 4 → (1 + (((nI (2 ^ t9 - 1)).toUInt32 >>> ((1 : Int32).toUInt32 &&& Int32.toUInt32 31)).toInt32)) = nI t9 := by
  intro t9 ht h h0 h1 h2 h3
  have k := ntz_ttttt_b t9 ht
  simp only [decide_eq_false h, decide_eq_true h0, decide_eq_true h1, decide_eq_true h2, decide_eq_true h3, Bool.not_true, Bool.false_or, decide_eq_true_eq] at k
  exact k
set_option maxRecDepth 100000 in
theorem ntz_ttttf_b : ∀ t9, t9 < 32 → (decide (t9 = 0) || (!decide ((nI (2 ^ t9 - 1)) ≤ 65536) || (!decide ((nI (2 ^ t9 - 1)) ≤ 256) || (!decide ((nI (2 ^ t9 - 1)) ≤ 16) || (decide ((nI (2 ^ t9 - 1)) ≤ 4) || decide ((3 + (((((nI (2 ^ t9 - 1)).toUInt32 >>> ((2 : Int32).toUInt32 &&& Int32.toUInt32 31)).toInt32).toUInt32 >>> ((1 : Int32).toUInt32 &&& Int32.toUInt32 31)).toInt32)) = nI t9)))))) = true := by decide +kernel
theorem ntz_ttttf : ∀ t9, t9 < 32 → ¬ t9 = 0 → (nI (2 ^ t9 - 1)) ≤ 65536 → (nI (2 ^ t9 - 1)) ≤ 256 → (nI (2 ^ t9 - 1)) ≤ 16 → ¬ (nI (2 ^ t9 - 1)) ≤ 4 → (3 + (((((nI (2 ^ t9 - 1)).toUInt32 >>> ((2 : Int32).toUInt32 &&& Int32.toUInt32 31)).toInt32).toUInt32 >>> ((1 : Int32).toUInt32 &&& Int32.toUInt32 31)).toInt32)) = nI t9 := by
  intro t9 ht h h0 h1 h2 h3
  have k := ntz_ttttf_b t9 ht
  simp only [decide_eq_false h, decide_eq_true h0, decide_eq_true h1, decide_eq_true h2, decide_eq_false h3, Bool.not_true, Bool.false_or, decide_eq_true_eq] at k
  exact k
set_option maxRecDepth 100000 in
theorem ntz_tttft_b : ∀ t9, t9 < 32 → (decide (t9 = 0) || (!decide ((nI (2 ^ t9 - 1)) ≤ 65536) || (!decide ((nI (2 ^ t9 - 1)) ≤ 256) || (decide ((nI (2 ^ t9 - 1)) ≤ 16) || (!decide ((((nI (2 ^ t9 - 1)).toUInt32 >>> ((4 : Int32).toUInt32 &&& Int32.toUInt32 31)).toInt32) ≤ 4) || decide ((5 + (((((nI (2 ^ t9 - 1)).toUInt32 >>> ((4 : Int32).toUInt32 &&& Int32.toUInt32 31)).toInt32).toUInt32 >>> ((1 : Int32).toUInt32 &&& Int32.toUInt32 31)).toInt32)) = nI t9)))))) = true := by decide +kernel
theorem ntz_tttft : ∀ t9, t9 < 32 → ¬ t9 = 0 → (nI (2 ^ t9 - 1)) ≤ 65536 → (nI (2 ^ t9 - 1)) ≤ 256 → ¬ (nI (2 ^ t9 - 1)) ≤ 16 → (((nI (2 ^ t9 - 1)).toUInt32 >>> ((4 : Int32).toUInt32 &&& Int32.toUInt32 31)).toInt32) ≤ 4 → (5 + (((((nI (2 ^ t9 - 1)).toUInt32 >>> ((4 : Int32).toUInt32 &&& Int32.toUInt32 31)).toInt32).toUInt32 >>> ((1 : Int32).toUInt32 &&& Int32.toUInt32 31)).toInt32)) = nI t9 := by
  intro t9 ht h h0 h1 h2 h3
  have k := ntz_tttft_b t9 ht
  simp only [decide_eq_false h, decide_eq_true h0, decide_eq_true h1, decide_eq_false h2, decide_eq_true h3, Bool.not_true, Bool.false_or, decide_eq_true_eq] at k
  exact k
set_option maxRecDepth 100000 in
theorem ntz_tttff_b : ∀ t9, t9 < 32 → (decide (t9 = 0) || (!decide ((nI (2 ^ t9 - 1)) ≤ 65536) || (!decide ((nI (2 ^ t9 - 1)) ≤ 256) || (decide ((nI (2 ^ t9 - 1)) ≤ 16) || (decide ((((nI (2 ^ t9 - 1)).toUInt32 >>> ((4 : Int32).toUInt32 &&& Int32.toUInt32 31)).toInt32) ≤ 4) || decide ((7 + (((((((nI (2 ^ t9 - 1)).toUInt32 >>> ((4 : Int32).toUInt32 &&& Int32.toUInt32 31)).toInt32).toUInt32 >>> ((2 : Int32).toUInt32 &&& Int32.toUInt32 31)).toInt32).toUInt32 >>> ((1 : Int32).toUInt32 &&& Int32.toUInt32 31)).toInt32)) = nI t9)))))) = true := by decide +kernel
theorem ntz_tttff : ∀ t9, t9 < 32 → ¬ t9 = 0 → (nI (2 ^ t9 - 1)) ≤ 65536 → (nI (2 ^ t9 - 1)) ≤ 256 → ¬ (nI (2 ^ t9 - 1)) ≤ 16 → ¬ (((nI (2 ^ t9 - 1)).toUInt32 >>> ((4 : Int32).toUInt32 &&& Int32.toUInt32 31)).toInt32) ≤ 4 → (7 + (((((((nI (2 ^ t9 - 1)).toUInt32 >>> ((4 : Int32).toUInt32 &&& Int32.toUInt32 31)).toInt32).toUInt32 >>> ((2 : Int32).toUInt32 &&& Int32.toUInt32 31)).toInt32).toUInt32 >>> ((1 : Int32).toUInt32 &&& Int32.toUInt32 31)).toInt32)) = nI t9 := by
  intro t9 ht h h0 h1 h2 h3
  have k := ntz_tttff_b t9 ht
  simp only [decide_eq_false h, decide_eq_true h0, decide_eq_true h1, decide_eq_false h2, decide_eq_false h3, Bool.not_true, Bool.false_or, decide_eq_true_eq] at k
  exact k
set_option maxRecDepth 100000 in
theorem ntz_ttftt_b : ∀ t9, t9 < 32 → (decide (t9 = 0) || (!decide ((nI (2 ^ t9 - 1)) ≤ 65536) || (decide ((nI (2 ^ t9 - 1)) ≤ 256) || (!decide ((((nI (2 ^ t9 - 1)).toUInt32 >>> ((8 : Int32).toUInt32 &&& Int32.toUInt32 31)).toInt32) ≤ 16) || (!decide ((((nI (2 ^ t9 - 1)).toUInt32 >>> ((8 : Int32).toUInt32 &&& Int32.toUInt32 31)).toInt32) ≤ 4) || decide ((9 + (((((nI (2 ^ t9 - 1)).toUInt32 >>> ((8 : Int32).toUInt32 &&& Int32.toUInt32 31)).toInt32).toUInt32 >>> ((1 : Int32).toUInt32 &&& Int32.toUInt32 31)).toInt32)) = nI t9)))))) = true := by decide +kernel
theorem ntz_ttftt : ∀ t9, t9 < 32 → ¬ t9 = 0 → (nI (2 ^ t9 - 1)) ≤ 65536 → ¬ (nI (2 ^ t9 - 1)) ≤ 256 → (((nI (2 ^ t9 - 1)).toUInt32 >>> ((8 : Int32).toUInt32 &&& Int32.toUInt32 31)).toInt32) ≤ 16 → (((nI (2 ^ t9 - 1)).toUInt32 >>> ((8 : Int32).toUInt32 &&& Int32.toUInt32 31)).toInt32) ≤ 4 → (9 + (((((nI (2 ^ t9 - 1)).toUInt32 >>> ((8 : Int32).toUInt32 &&& Int32.toUInt32 31)).toInt32).toUInt32 >>> ((1 : Int32).toUInt32 &&& Int32.toUInt32 31)).toInt32)) = nI t9 := by
  intro t9 ht h h0 h1 h2 h3
  have k := ntz_ttftt_b t9 ht
  simp only [decide_eq_false h, decide_eq_true h0, decide_eq_false h1, decide_eq_true h2, decide_eq_true h3, Bool.not_true, Bool.false_or, decide_eq_true_eq] at k
  exact k
set_option maxRecDepth 100000 in
theorem ntz_ttftf_b : ∀ t9, t9 < 32 → (decide (t9 = 0) || (!decide ((nI (2 ^ t9 - 1)) ≤ 65536) || (decide ((nI (2 ^ t9 - 1)) ≤ 256) || (!decide ((((nI (2 ^ t9 - 1)).toUInt32 >>> ((8 : Int32).toUInt32 &&& Int32.toUInt32 31)).toInt32) ≤ 16) || (decide ((((nI (2 ^ t9 - 1)).toUInt32 >>> ((8 : Int32).toUInt32 &&& Int32.toUInt32 31)).toInt32) ≤ 4) || decide ((11 + (((((((nI (2 ^ t9 - 1)).toUInt32 >>> ((8 : Int32).toUInt32 &&& Int32.toUInt32 31)).toInt32).toUInt32 >>> ((2 : Int32).toUInt32 &&& Int32.toUInt32 31)).toInt32).toUInt32 >>> ((1 : Int32).toUInt32 &&& Int32.toUInt32 31)).toInt32)) = nI t9)))))) = true := by decide +kernel
theorem ntz_ttftf : ∀ t9, t9 < 32 → ¬ t9 = 0 → (nI (2 ^ t9 - 1)) ≤ 65536 → ¬ (nI (2 ^ t9 - 1)) ≤ 256 → (((nI (2 ^ t9 - 1)).toUInt32 >>> ((8 : Int32).toUInt32 &&& Int32.toUInt32 31)).toInt32) ≤ 16 → ¬ (((nI (2 ^ t9 - 1)).toUInt32 >>> ((8 : Int32).toUInt32 &&& Int32.toUInt32 31)).toInt32) ≤ 4 → (11 + (((((((nI (2 ^ t9 - 1)).toUInt32 >>> ((8 : Int32).toUInt32 &&& Int32.toUInt32 31)).toInt32).toUInt32 >>> ((2 : Int32).toUInt32 &&& Int32.toUInt32 31)).toInt32).toUInt32 >>> ((1 : Int32).toUInt32 &&& Int32.toUInt32 31)).toInt32)) = nI t9 := by
  intro t9 ht h h0 h1 h2 h3
  have k := ntz_ttftf_b t9 ht
  simp only [decide_eq_false h, decide_eq_true h0, decide_eq_false h1, decide_eq_true h2, decide_eq_false h3, Bool.not_true, Bool.false_or, decide_eq_true_eq] at k
  exact k
set_option maxRecDepth 100000 in
theorem ntz_ttfft_b : ∀ t9, t9 < 32 → (decide (t9 = 0) || (!decide ((nI (2 ^ t9 - 1)) ≤ 65536) || (decide ((nI (2 ^ t9 - 1)) ≤ 256) || (decide ((((nI (2 ^ t9 - 1)).toUInt32 >>> ((8 : Int32).toUInt32 &&& Int32.toUInt32 31)).toInt32) ≤ 16) || (!decide ((((((nI (2 ^ t9 - 1)).toUInt32 >>> ((8 : Int32).toUInt32 &&& Int32.toUInt32 31)).toInt32).toUInt32 >>> ((4 : Int32).toUInt32 &&& Int32.toUInt32 31)).toInt32) ≤ 4) || decide ((13 + (((((((nI (2 ^ t9 - 1)).toUInt32 >>> ((8 : Int32).toUInt32 &&& Int32.toUInt32 31)).toInt32).toUInt32 >>> ((4 : Int32).toUInt32 &&& Int32.toUInt32 31)).toInt32).toUInt32 >>> ((1 : Int32).toUInt32 &&& Int32.toUInt32 31)).toInt32)) = nI t9)))))) = true := by decide +kernel
theorem ntz_ttfft : ∀ t9, t9 < 32 → ¬ t9 = 0 → (nI (2 ^ t9 - 1)) ≤ 65536 → ¬ (nI (2 ^ t9 - 1)) ≤ 256 → ¬ (((nI (2 ^ t9 - 1)).toUInt32 >>> ((8 : Int32).toUInt32 &&& Int32.toUInt32 31)).toInt32) ≤ 16 → (((((nI (2 ^ t9 - 1)).toUInt32 >>> ((8 : Int32).toUInt32 &&& Int32.toUInt32 31)).toInt32).toUInt32 >>> ((4 : Int32).toUInt32 &&& Int32.toUInt32 31)).toInt32) ≤ 4 → (13 + (((((((nI (2 ^ t9 - 1)).toUInt32 >>> ((8 : Int32).toUInt32 &&& Int32.toUInt32 31)).toInt32).toUInt32 >>> ((4 : Int32).toUInt32 &&& Int32.toUInt32 31)).toInt32).toUInt32 >>> ((1 : Int32).toUInt32 &&& Int32.toUInt32 31)).toInt32)) = nI t9 := by
  intro t9 ht h h0 h1 h2 h3
  have k := ntz_ttfft_b t9 ht
  simp only [decide_eq_false h, decide_eq_true h0, decide_eq_false h1, decide_eq_false h2, decide_eq_true h3, Bool.not_true, Bool.false_or, decide_eq_true_eq] at k
  exact k
set_option maxRecDepth 100000 in
theorem ntz_ttfff_b : ∀ t9, t9 < 32 → (decide (t9 = 0) || (!decide ((nI (2 ^ t9 - 1)) ≤ 65536) || (decide ((nI (2 ^ t9 - 1)) ≤ 256) || (decide ((((nI (2 ^ t9 - 1)).toUInt32 >>> ((8 : Int32).toUInt32 &&& Int32.toUInt32 31)).toInt32) ≤ 16) || (decide ((((((nI (2 ^ t9 - 1)).toUInt32 >>> ((8 : Int32).toUInt32 &&& Int32.toUInt32 31)).toInt32).toUInt32 >>> ((4 : Int32).toUInt32 &&& Int32.toUInt32 31)).toInt32) ≤ 4) || decide ((15 + (((((((((nI (2 ^ t9 - 1)).toUInt32 >>> ((8 : Int32).toUInt32 &&& Int32.toUInt32 31)).toInt32).toUInt32 >>> ((4 : Int32).toUInt32 &&& Int32.toUInt32 31)).toInt32).toUInt32 >>> ((2 : Int32).toUInt32 &&& Int32.toUInt32 31)).toInt32).toUInt32 >>> ((1 : Int32).toUInt32 &&& Int32.toUInt32 31)).toInt32)) = nI t9)))))) = true := by decide +kernel
theorem ntz_ttfff : ∀ t9, t9 < 32 → ¬ t9 = 0 → (nI (2 ^ t9 - 1)) ≤ 65536 → ¬ (nI (2 ^ t9 - 1)) ≤ 256 → ¬ (((nI (2 ^ t9 - 1)).toUInt32 >>> ((8 : Int32).toUInt32 &&& Int32.toUInt32 31)).toInt32) ≤ 16 → ¬ (((((nI (2 ^ t9 - 1)).toUInt32 >>> ((8 : Int32).toUInt32 &&& Int32.toUInt32 31)).toInt32).toUInt32 >>> ((4 : Int32).toUInt32 &&& Int32.toUInt32 31)).toInt32) ≤ 4 → (15 + (((((((((nI (2 ^ t9 - 1)).toUInt32 >>> ((8 : Int32).toUInt32 &&& Int32.toUInt32 31)).toInt32).toUInt32 >>> ((4 : Int32).toUInt32 &&& Int32.toUInt32 31)).toInt32).toUInt32 >>> ((2 : Int32).toUInt32 &&& Int32.toUInt32 31)).toInt32).toUInt32 >>> ((1 : Int32).toUInt32 &&& Int32.toUInt32 31)).toInt32)) = nI t9 := by
  intro t9 ht h h0 h1 h2 h3
  have k := ntz_ttfff_b t9 ht
  simp only [decide_eq_false h, decide_eq_true h0, decide_eq_false h1, decide_eq_false h2, decide_eq_false h3, Bool.not_true, Bool.false_or, decide_eq_true_eq] at k
  exact k
set_option maxRecDepth 100000 in
theorem ntz_tfttt_b : ∀ t9, t9 < 32 → (decide (t9 = 0) || (decide ((nI (2 ^ t9 - 1)) ≤ 65536) || (!decide ((((nI (2 ^ t9 - 1)).toUInt32 >>> ((16 : Int32).toUInt32 &&& Int32.toUInt32 31)).toInt32) ≤ 256) || (!decide ((((nI (2 ^ t9 - 1)).toUInt32 >>> ((16 : Int32).toUInt32 &&& Int32.toUInt32 31)).toInt32) ≤ 16) || (!decide ((((nI (2 ^ t9 - 1)).toUInt32 >>> ((16 : Int32).toUInt32 &&& Int32.toUInt32 31)).toInt32) ≤ 4) || decide ((17 + (((((nI (2 ^ t9 - 1)).toUInt32 >>> ((16 : Int32).toUInt32 &&& Int32.toUInt32 31)).toInt32).toUInt32 >>> ((1 : Int32).toUInt32 &&& Int32.toUInt32 31)).toInt32)) = nI t9)))))) = true := by decide +kernel
theorem ntz_tfttt : ∀ t9, t9 < 32 → ¬ t9 = 0 → ¬ (nI (2 ^ t9 - 1)) ≤ 65536 → (((nI (2 ^ t9 - 1)).toUInt32 >>> ((16 : Int32).toUInt32 &&& Int32.toUInt32 31)).toInt32) ≤ 256 → (((nI (2 ^ t9 - 1)).toUInt32 >>> ((16 : Int32).toUInt32 &&& Int32.toUInt32 31)).toInt32) ≤ 16 → (((nI (2 ^ t9 - 1)).toUInt32 >>> ((16 : Int32).toUInt32 &&& Int32.toUInt32 31)).toInt32) ≤ 4 → (17 + (((((nI (2 ^ t9 - 1)).toUInt32 >>> ((16 : Int32).toUInt32 &&& Int32.toUInt32 31)).toInt32).toUInt32 >>> ((1 : Int32).toUInt32 &&& Int32.toUInt32 31)).toInt32)) = nI t9 := by
  intro t9 ht h h0 h1 h2 h3
  have k := ntz_tfttt_b t9 ht
  simp only [decide_eq_false h, decide_eq_false h0, decide_eq_true h1, decide_eq_true h2, decide_eq_true h3, Bool.not_true, Bool.false_or, decide_eq_true_eq] at k
  exact k
set_option maxRecDepth 100000 in
theorem ntz_tfttf_b : ∀ t9, t9 < 32 → (decide (t9 = 0) || (decide ((nI (2 ^ t9 - 1)) ≤ 65536) || (!decide ((((nI (2 ^ t9 - 1)).toUInt32 >>> ((16 : Int32).toUInt32 &&& Int32.toUInt32 31)).toInt32) ≤ 256) || (!decide ((((nI (2 ^ t9 - 1)).toUInt32 >>> ((16 : Int32).toUInt32 &&& Int32.toUInt32 31)).toInt32) ≤ 16) || (decide ((((nI (2 ^ t9 - 1)).toUInt32 >>> ((16 : Int32).toUInt32 &&& Int32.toUInt32 31)).toInt32) ≤ 4) || decide ((19 + (((((((nI (2 ^ t9 - 1)).toUInt32 >>> ((16 : Int32).toUInt32 &&& Int32.toUInt32 31)).toInt32).toUInt32 >>> ((2 : Int32).toUInt32 &&& Int32.toUInt32 31)).toInt32).toUInt32 >>> ((1 : Int32).toUInt32 &&& Int32.toUInt32 31)).toInt32)) = nI t9)))))) = true := by decide +kernel
theorem ntz_tfttf : ∀ t9, t9 < 32 → ¬ t9 = 0 → ¬ (nI (2 ^ t9 - 1)) ≤ 65536 → (((nI (2 ^ t9 - 1)).toUInt32 >>> ((16 : Int32).toUInt32 &&& Int32.toUInt32 31)).toInt32) ≤ 256 → (((nI (2 ^ t9 - 1)).toUInt32 >>> ((16 : Int32).toUInt32 &&& Int32.toUInt32 31)).toInt32) ≤ 16 → ¬ (((nI (2 ^ t9 - 1)).toUInt32 >>> ((16 : Int32).toUInt32 &&& Int32.toUInt32 31)).toInt32) ≤ 4 → (19 + (((((((nI (2 ^ t9 - 1)).toUInt32 >>> ((16 : Int32).toUInt32 &&& Int32.toUInt32 31)).toInt32).toUInt32 >>> ((2 : Int32).toUInt32 &&& Int32.toUInt32 31)).toInt32).toUInt32 >>> ((1 : Int32).toUInt32 &&& Int32.toUInt32 31)).toInt32)) = nI t9 := by
  intro t9 ht h h0 h1 h2 h3
  have k := ntz_tfttf_b t9 ht
  simp only [decide_eq_false h, decide_eq_false h0, decide_eq_true h1, decide_eq_true h2, decide_eq_false h3, Bool.not_true, Bool.false_or, decide_eq_true_eq] at k
  exact k
set_option maxRecDepth 100000 in
theorem ntz_tftft_b : ∀ t9, t9 < 32 → (decide (t9 = 0) || (decide ((nI (2 ^ t9 - 1)) ≤ 65536) || (!decide ((((nI (2 ^ t9 - 1)).toUInt32 >>> ((16 : Int32).toUInt32 &&& Int32.toUInt32 31)).toInt32) ≤ 256) || (decide ((((nI (2 ^ t9 - 1)).toUInt32 >>> ((16 : Int32).toUInt32 &&& Int32.toUInt32 31)).toInt32) ≤ 16) || (!decide ((((((nI (2 ^ t9 - 1)).toUInt32 >>> ((16 : Int32).toUInt32 &&& Int32.toUInt32 31)).toInt32).toUInt32 >>> ((4 : Int32).toUInt32 &&& Int32.toUInt32 31)).toInt32) ≤ 4) || decide ((21 + (((((((nI (2 ^ t9 - 1)).toUInt32 >>> ((16 : Int32).toUInt32 &&& Int32.toUInt32 31)).toInt32).toUInt32 >>> ((4 : Int32).toUInt32 &&& Int32.toUInt32 31)).toInt32).toUInt32 >>> ((1 : Int32).toUInt32 &&& Int32.toUInt32 31)).toInt32)) = nI t9)))))) = true := by decide +kernel
theorem ntz_tftft : ∀ t9, t9 < 32 → ¬ t9 = 0 → ¬ (nI (2 ^ t9 - 1)) ≤ 65536 → (((nI (2 ^ t9 - 1)).toUInt32 >>> ((16 : Int32).toUInt32 &&& Int32.toUInt32 31)).toInt32) ≤ 256 → ¬ (((nI (2 ^ t9 - 1)).toUInt32 >>> ((16 : Int32).toUInt32 &&& Int32.toUInt32 31)).toInt32) ≤ 16 → (((((nI (2 ^ t9 - 1)).toUInt32 >>> ((16 : Int32).toUInt32 &&& Int32.toUInt32 31)).toInt32).toUInt32 >>> ((4 : Int32).toUInt32 &&& Int32.toUInt32 31)).toInt32) ≤ 4 → (21 + (((((((nI (2 ^ t9 - 1)).toUInt32 >>> ((16 : Int32).toUInt32 &&& Int32.toUInt32 31)).toInt32).toUInt32 >>> ((4 : Int32).toUInt32 &&& Int32.toUInt32 31)).toInt32).toUInt32 >>> ((1 : Int32).toUInt32 &&& Int32.toUInt32 31)).toInt32)) = nI t9 := by
  intro t9 ht h h0 h1 h2 h3
  have k := ntz_tftft_b t9 ht
  simp only [decide_eq_false h, decide_eq_false h0, decide_eq_true h1, decide_eq_false h2, decide_eq_true h3, Bool.not_true, Bool.false_or, decide_eq_true_eq] at k
  exact k
set_option maxRecDepth 100000 in
theorem ntz_tftff_b : ∀ t9, t9 < 32 → (decide (t9 = 0) || (decide ((nI (2 ^ t9 - 1)) ≤ 65536) || (!decide ((((nI (2 ^ t9 - 1)).toUInt32 >>> ((16 : Int32).toUInt32 &&& Int32.toUInt32 31)).toInt32) ≤ 256) || (decide ((((nI (2 ^ t9 - 1)).toUInt32 >>> ((16 : Int32).toUInt32 &&& Int32.toUInt32 31)).toInt32) ≤ 16) || (decide ((((((nI (2 ^ t9 - 1)).toUInt32 >>> ((16 : Int32).toUInt32 &&& Int32.toUInt32 31)).toInt32).toUInt32 >>> ((4 : Int32).toUInt32 &&& Int32.toUInt32 31)).toInt32) ≤ 4) || decide ((23 + (((((((((nI (2 ^ t9 - 1)).toUInt32 >>> ((16 : Int32).toUInt32 &&& Int32.toUInt32 31)).toInt32).toUInt32 >>> ((4 : Int32).toUInt32 &&& Int32.toUInt32 31)).toInt32).toUInt32 >>> ((2 : Int32).toUInt32 &&& Int32.toUInt32 31)).toInt32).toUInt32 >>> ((1 : Int32).toUInt32 &&& Int32.toUInt32 31)).toInt32)) = nI t9)))))) = true := by decide +kernel
theorem ntz_tftff : ∀ t9, t9 < 32 → ¬ t9 = 0 → ¬ (nI (2 ^ t9 - 1)) ≤ 65536 → (((nI (2 ^ t9 - 1)).toUInt32 >>> ((16 : Int32).toUInt32 &&& Int32.toUInt32 31)).toInt32) ≤ 256 → ¬ (((nI (2 ^ t9 - 1)).toUInt32 >>> ((16 : Int32).toUInt32 &&& Int32.toUInt32 31)).toInt32) ≤ 16 → ¬ (((((nI (2 ^ t9 - 1)).toUInt32 >>> ((16 : Int32).toUInt32 &&& Int32.toUInt32 31)).toInt32).toUInt32 >>> ((4 : Int32).toUInt32 &&& Int32.toUInt32 31)).toInt32) ≤ 4 → (23 + (((((((((nI (2 ^ t9 - 1)).toUInt32 >>> ((16 : Int32).toUInt32 &&& Int32.toUInt32 31)).toInt32).toUInt32 >>> ((4 : Int32).toUInt32 &&& Int32.toUInt32 31)).toInt32).toUInt32 >>> ((2 : Int32).toUInt32 &&& Int32.toUInt32 31)).toInt32).toUInt32 >>> ((1 : Int32).toUInt32 &&& Int32.toUInt32 31)).toInt32)) = nI t9 := by
  intro t9 ht h h0 h1 h2 h3
  have k := ntz_tftff_b t9 ht
  simp only [decide_eq_false h, decide_eq_false h0, decide_eq_true h1, decide_eq_false h2, decide_eq_false h3, Bool.not_true, Bool.false_or, decide_eq_true_eq] at k
  exact k
set_option maxRecDepth 100000 in
theorem ntz_tfftt_b : ∀ t9, t9 < 32 → (decide (t9 = 0) || (decide ((nI (2 ^ t9 - 1)) ≤ 65536) || (decide ((((nI (2 ^ t9 - 1)).toUInt32 >>> ((16 : Int32).toUInt32 &&& Int32.toUInt32 31)).toInt32) ≤ 256) || (!decide ((((((nI (2 ^ t9 - 1)).toUInt32 >>> ((16 : Int32).toUInt32 &&& Int32.toUInt32 31)).toInt32).toUInt32 >>> ((8 : Int32).toUInt32 &&& Int32.toUInt32 31)).toInt32) ≤ 16) || (!decide ((((((nI (2 ^ t9 - 1)).toUInt32 >>> ((16 : Int32).toUInt32 &&& Int32.toUInt32 31)).toInt32).toUInt32 >>> ((8 : Int32).toUInt32 &&& Int32.toUInt32 31)).toInt32) ≤ 4) || decide ((25 + (((((((nI (2 ^ t9 - 1)).toUInt32 >>> ((16 : Int32).toUInt32 &&& Int32.toUInt32 31)).toInt32).toUInt32 >>> ((8 : Int32).toUInt32 &&& Int32.toUInt32 31)).toInt32).toUInt32 >>> ((1 : Int32).toUInt32 &&& Int32.toUInt32 31)).toInt32)) = nI t9)))))) = true := by decide +kernel
theorem ntz_tfftt : ∀ t9, t9 < 32 → ¬ t9 = 0 → ¬ (nI (2 ^ t9 - 1)) ≤ 65536 → ¬ (((nI (2 ^ t9 - 1)).toUInt32 >>> ((16 : Int32).toUInt32 &&& Int32.toUInt32 31)).toInt32) ≤ 256 → (((((nI (2 ^ t9 - 1)).toUInt32 >>> ((16 : Int32).toUInt32 &&& Int32.toUInt32 31)).toInt32).toUInt32 >>> ((8 : Int32).toUInt32 &&& Int32.toUInt32 31)).toInt32) ≤ 16 → (((((nI (2 ^ t9 - 1)).toUInt32 >>> ((16 : Int32).toUInt32 &&& Int32.toUInt32 31)).toInt32).toUInt32 >>> ((8 : Int32).toUInt32 &&& Int32.toUInt32 31)).toInt32) ≤ 4 → (25 + (((((((nI (2 ^ t9 - 1)).toUInt32 >>> ((16 : Int32).toUInt32 &&& Int32.toUInt32 31)).toInt32).toUInt32 >>> ((8 : Int32).toUInt32 &&& Int32.toUInt32 31)).toInt32).toUInt32 >>> ((1 : Int32).toUInt32 &&& Int32.toUInt32 31)).toInt32)) = nI t9 := by
  intro t9 ht h h0 h1 h2 h3
  have k := ntz_tfftt_b t9 ht
  simp only [decide_eq_false h, decide_eq_false h0, decide_eq_false h1, decide_eq_true h2, decide_eq_true h3, Bool.not_true, Bool.false_or, decide_eq_true_eq] at k
  exact k
set_option maxRecDepth 100000 in
theorem ntz_tfftf_b : ∀ t9, t9 < 32 → (decide (t9 = 0) || (decide ((nI (2 ^ t9 - 1)) ≤ 65536) || (decide ((((nI (2 ^ t9 - 1)).toUInt32 >>> ((16 : Int32).toUInt32 &&& Int32.toUInt32 31)).toInt32) ≤ 256) || (!decide ((((((nI (2 ^ t9 - 1)).toUInt32 >>> ((16 : Int32).toUInt32 &&& Int32.toUInt32 31)).toInt32).toUInt32 >>> ((8 : Int32).toUInt32 &&& Int32.toUInt32 31)).toInt32) ≤ 16) || (decide ((((((nI (2 ^ t9 - 1)).toUInt32 >>> ((16 : Int32).toUInt32 &&& Int32.toUInt32 31)).toInt32).toUInt32 >>> ((8 : Int32).toUInt32 &&& Int32.toUInt32 31)).toInt32) ≤ 4) || decide ((27 + (((((((((nI (2 ^ t9 - 1)).toUInt32 >>> ((16 : Int32).toUInt32 &&& Int32.toUInt32 31)).toInt32).toUInt32 >>> ((8 : Int32).toUInt32 &&& Int32.toUInt32 31)).toInt32).toUInt32 >>> ((2 : Int32).toUInt32 &&& Int32.toUInt32 31)).toInt32).toUInt32 >>> ((1 : Int32).toUInt32 &&& Int32.toUInt32 31)).toInt32)) = nI t9)))))) = true := by decide +kernel
theorem ntz_tfftf : ∀ t9, t9 < 32 → ¬ t9 = 0 → ¬ (nI (2 ^ t9 - 1)) ≤ 65536 → ¬ (((nI (2 ^ t9 - 1)).toUInt32 >>> ((16 : Int32).toUInt32 &&& Int32.toUInt32 31)).toInt32) ≤ 256 → (((((nI (2 ^ t9 - 1)).toUInt32 >>> ((16 : Int32).toUInt32 &&& Int32.toUInt32 31)).toInt32).toUInt32 >>> ((8 : Int32).toUInt32 &&& Int32.toUInt32 31)).toInt32) ≤ 16 → ¬ (((((nI (2 ^ t9 - 1)).toUInt32 >>> ((16 : Int32).toUInt32 &&& Int32.toUInt32 31)).toInt32).toUInt32 >>> ((8 : Int32).toUInt32 &&& Int32.toUInt32 31)).toInt32) ≤ 4 → (27 + (((((((((nI (2 ^ t9 - 1)).toUInt32 >>> ((16 : Int32).toUInt32 &&& Int32.toUInt32 31)).toInt32).toUInt32 >>> ((8 : Int32).toUInt32 &&& Int32.toUInt32 31)).toInt32).toUInt32 >>> ((2 : Int32).toUInt32 &&& Int32.toUInt32 31)).toInt32).toUInt32 >>> ((1 : Int32).toUInt32 &&& Int32.toUInt32 31)).toInt32)) = nI t9 := by
  intro t9 ht h h0 h1 h2 h3
  have k := ntz_tfftf_b t9 ht
  simp only [decide_eq_false h, decide_eq_false h0, decide_eq_false h1, decide_eq_true h2, decide_eq_false h3, Bool.not_true, Bool.false_or, decide_eq_true_eq] at k
  exact k
set_option maxRecDepth 100000 in
theorem ntz_tffft_b : ∀ t9, t9 < 32 → (decide (t9 = 0) || (decide ((nI (2 ^ t9 - 1)) ≤ 65536) || (decide ((((nI (2 ^ t9 - 1)).toUInt32 >>> ((16 : Int32).toUInt32 &&& Int32.toUInt32 31)).toInt32) ≤ 256) || (decide ((((((nI (2 ^ t9 - 1)).toUInt32 >>> ((16 : Int32).toUInt32 &&& Int32.toUInt32 31)).toInt32).toUInt32 >>> ((8 : Int32).toUInt32 &&& Int32.toUInt32 31)).toInt32) ≤ 16) || (!decide ((((((((nI (2 ^ t9 - 1)).toUInt32 >>> ((16 : Int32).toUInt32 &&& Int32.toUInt32 31)).toInt32).toUInt32 >>> ((8 : Int32).toUInt32 &&& Int32.toUInt32 31)).toInt32).toUInt32 >>> ((4 : Int32).toUInt32 &&& Int32.toUInt32 31)).toInt32) ≤ 4) || decide ((29 + (((((((((nI (2 ^ t9 - 1)).toUInt32 >>> ((16 : Int32).toUInt32 &&& Int32.toUInt32 31)).toInt32).toUInt32 >>> ((8 : Int32).toUInt32 &&& Int32.toUInt32 31)).toInt32).toUInt32 >>> ((4 : Int32).toUInt32 &&& Int32.toUInt32 31)).toInt32).toUInt32 >>> ((1 : Int32).toUInt32 &&& Int32.toUInt32 31)).toInt32)) = nI t9)))))) = true := by decide +kernel
theorem ntz_tffft : ∀ t9, t9 < 32 → ¬ t9 = 0 → ¬ (nI (2 ^ t9 - 1)) ≤ 65536 → ¬ (((nI (2 ^ t9 - 1)).toUInt32 >>> ((16 : Int32).toUInt32 &&& Int32.toUInt32 31)).toInt32) ≤ 256 → ¬ (((((nI (2 ^ t9 - 1)).toUInt32 >>> ((16 : Int32).toUInt32 &&& Int32.toUInt32 31)).toInt32).toUInt32 >>> ((8 : Int32).toUInt32 &&& Int32.toUInt32 31)).toInt32) ≤ 16 → (((((((nI (2 ^ t9 - 1)).toUInt32 >>> ((16 : Int32).toUInt32 &&& Int32.toUInt32 31)).toInt32).toUInt32 >>> ((8 : Int32).toUInt32 &&& Int32.toUInt32 31)).toInt32).toUInt32 >>> ((4 : Int32).toUInt32 &&& Int32.toUInt32 31)).toInt32) ≤ 4 → (29 + (((((((((nI (2 ^ t9 - 1)).toUInt32 >>> ((16 : Int32).toUInt32 &&& Int32.toUInt32 31)).toInt32).toUInt32 >>> ((8 : Int32).toUInt32 &&& Int32.toUInt32 31)).toInt32).toUInt32 >>> ((4 : Int32).toUInt32 &&& Int32.toUInt32 31)).toInt32).toUInt32 >>> ((1 : Int32).toUInt32 &&& Int32.toUInt32 31)).toInt32)) = nI t9 := by
  intro t9 ht h h0 h1 h2 h3
  have k := ntz_tffft_b t9 ht
  simp only [decide_eq_false h, decide_eq_false h0, decide_eq_false h1, decide_eq_false h2, decide_eq_true h3, Bool.not_true, Bool.false_or, decide_eq_true_eq] at k
  exact k
set_option maxRecDepth 100000 in
theorem ntz_tffff_b : ∀ t9, t9 < 32 → (decide (t9 = 0) || (decide ((nI (2 ^ t9 - 1)) ≤ 65536) || (decide ((((nI (2 ^ t9 - 1)).toUInt32 >>> ((16 : Int32).toUInt32 &&& Int32.toUInt32 31)).toInt32) ≤ 256) || (decide ((((((nI (2 ^ t9 - 1)).toUInt32 >>> ((16 : Int32).toUInt32 &&& Int32.toUInt32 31)).toInt32).toUInt32 >>> ((8 : Int32).toUInt32 &&& Int32.toUInt32 31)).toInt32) ≤ 16) || (decide ((((((((nI (2 ^ t9 - 1)).toUInt32 >>> ((16 : Int32).toUInt32 &&& Int32.toUInt32 31)).toInt32).toUInt32 >>> ((8 : Int32).toUInt32 &&& Int32.toUInt32 31)).toInt32).toUInt32 >>> ((4 : Int32).toUInt32 &&& Int32.toUInt32 31)).toInt32) ≤ 4) || decide ((31 + (((((((((((nI (2 ^ t9 - 1)).toUInt32 >>> ((16 : Int32).toUInt32 &&& Int32.toUInt32 31)).toInt32).toUInt32 >>> ((8 : Int32).toUInt32 &&& Int32.toUInt32 31)).toInt32).toUInt32 >>> ((4 : Int32).toUInt32 &&& Int32.toUInt32 31)).toInt32).toUInt32 >>> ((2 : Int32).toUInt32 &&& Int32.toUInt32 31)).toInt32).toUInt32 >>> ((1 : Int32).toUInt32 &&& Int32.toUInt32 31)).toInt32)) = nI t9)))))) = true := by decide +kernel
theorem ntz_tffff : ∀ t9, t9 < 32 → ¬ t9 = 0 → ¬ (nI (2 ^ t9 - 1)) ≤ 65536 → ¬ (((nI (2 ^ t9 - 1)).toUInt32 >>> ((16 : Int32).toUInt32 &&& Int32.toUInt32 31)).toInt32) ≤ 256 → ¬ (((((nI (2 ^ t9 - 1)).toUInt32 >>> ((16 : Int32).toUInt32 &&& Int32.toUInt32 31)).toInt32).toUInt32 >>> ((8 : Int32).toUInt32 &&& Int32.toUInt32 31)).toInt32) ≤ 16 → ¬ (((((((nI (2 ^ t9 - 1)).toUInt32 >>> ((16 : Int32).toUInt32 &&& Int32.toUInt32 31)).toInt32).toUInt32 >>> ((8 : Int32).toUInt32 &&& Int32.toUInt32 31)).toInt32).toUInt32 >>> ((4 : Int32).toUInt32 &&& Int32.toUInt32 31)).toInt32) ≤ 4 → (31 + (((((((((((nI (2 ^ t9 - 1)).toUInt32 >>> ((16 : Int32).toUInt32 &&& Int32.toUInt32 31)).toInt32).toUInt32 >>> ((8 : Int32).toUInt32 &&& Int32.toUInt32 31)).toInt32).toUInt32 >>> ((4 : Int32).toUInt32 &&& Int32.toUInt32 31)).toInt32).toUInt32 >>> ((2 : Int32).toUInt32 &&& Int32.toUInt32 31)).toInt32).toUInt32 >>> ((1 : Int32).toUInt32 &&& Int32.toUInt32 31)).toInt32)) = nI t9 := by
  intro t9 ht h h0 h1 h2 h3
  have k := ntz_tffff_b t9 ht
  simp only [decide_eq_false h, decide_eq_false h0, decide_eq_false h1, decide_eq_false h2, decide_eq_false h3, Bool.not_true, Bool.false_or, decide_eq_true_eq] at k
  exact k
set_option maxHeartbeats 4000000 in
set_option maxRecDepth 100000 in
/-- Integer.numberOfTrailingZeros -/
theorem m_intz (l : Launch) (D : va_G) (cy : Nat → ClassId) (O : Nat × va_E → Prop) {n9 t9 : Nat} (hn9 : 0 < n9) (ht9 : t9 < 32) (hlo : ∀ i, i < t9 → n9.testBit i = false) (hbit : n9.testBit t9 = true) : Ci l yJ6_numberOfTrailingZeros_0f7a4 (.code yJ6_numberOfTrailingZeros_0f7a4 cJ6_numberOfTrailingZeros_0f7a4 2 (some .int) :: WALL) ({ frames := 0, cells := 0, slots := 0, locals := 0 }) D cy O [.int (nI n9)] [] 0 0 (fun (r : Int32) (w : va_W) => r = nI t9 ∧ w = []) := by
  refine z_meti (by decide +kernel) rfl rfl (Nat.le_of_ble_eq_true rfl) ?_
  intro p e s m args below meth c X hr hin
  refine z_eq (ws' := []) (lv' := [(0, .int (nI n9))]) (st' := []) rfl rfl rfl ?_
  refine z_iload_n X dJ6_numberOfTrailingZeros_0f7a4_0 rfl (j := 0) rfl ?_
  refine z_iconst X (v := (-1)) dJ6_numberOfTrailingZeros_0f7a4_1 (by decide) ?_
  refine z_ixor X (v := (nI n9 ^^^ (-1))) dJ6_numberOfTrailingZeros_0f7a4_2 rfl ?_
  refine z_iload_n X dJ6_numberOfTrailingZeros_0f7a4_3 rfl (j := 0) rfl ?_
  refine z_iconst X (v := 1) dJ6_numberOfTrailingZeros_0f7a4_4 (by decide) ?_
  refine z_isub X (v := (nI (n9 - 1))) dJ6_numberOfTrailingZeros_0f7a4_5 (sub_1 hn9) ?_
  refine z_iand X (v := (nI (2 ^ t9 - 1))) dJ6_numberOfTrailingZeros_0f7a4_6 (by rw [← low_nd hlo hbit, ← nI_nd]; exact Int32.and_comm _ _) ?_
  refine z_istore_n X (lv' := [(0, .int (nI (2 ^ t9 - 1)))]) dJ6_numberOfTrailingZeros_0f7a4_7 rfl (by decide) rfl ?_
  refine z_iload_n X dJ6_numberOfTrailingZeros_0f7a4_8 rfl (j := 0) rfl ?_
  refine z_if_gt X (tgt := 17) dJ6_numberOfTrailingZeros_0f7a4_9 (by decide) (fun c_9 => ?_) (fun c_9 => ?_)
  · skip
    have ht0 : ¬ t9 = 0 := fun z => absurd c_9 (by rw [z]; decide)
    refine z_iconst X (v := 1) dJ6_numberOfTrailingZeros_0f7a4_17 (by decide) ?_
    refine z_istore_n X (lv' := [(1, .int 1), (0, .int (nI (2 ^ t9 - 1)))]) dJ6_numberOfTrailingZeros_0f7a4_18 rfl (by decide) rfl ?_
    refine z_iload_n X dJ6_numberOfTrailingZeros_0f7a4_19 rfl (j := 1) rfl ?_
    refine z_ldcw X kc_J6_264 dJ6_numberOfTrailingZeros_0f7a4_20 ?_
    refine z_icmp_le X (tgt := 34) dJ6_numberOfTrailingZeros_0f7a4_23 (by decide) (fun c_23 => ?_) (fun c_23 => ?_)
    · skip
      refine z_iload_n X dJ6_numberOfTrailingZeros_0f7a4_34 rfl (j := 1) rfl ?_
      refine z_sipush X (v := 256) dJ6_numberOfTrailingZeros_0f7a4_35 (by decide) ?_
      refine z_icmp_le X (tgt := 49) dJ6_numberOfTrailingZeros_0f7a4_38 (by decide) (fun c_38 => ?_) (fun c_38 => ?_)
      · skip
        refine z_iload_n X dJ6_numberOfTrailingZeros_0f7a4_49 rfl (j := 1) rfl ?_
        refine z_bipush X (v := 16) dJ6_numberOfTrailingZeros_0f7a4_50 (by decide) ?_
        refine z_icmp_le X (tgt := 62) dJ6_numberOfTrailingZeros_0f7a4_52 (by decide) (fun c_52 => ?_) (fun c_52 => ?_)
        · skip
          refine z_iload_n X dJ6_numberOfTrailingZeros_0f7a4_62 rfl (j := 1) rfl ?_
          refine z_iconst X (v := 4) dJ6_numberOfTrailingZeros_0f7a4_63 (by decide) ?_
          refine z_icmp_le X (tgt := 74) dJ6_numberOfTrailingZeros_0f7a4_64 (by decide) (fun c_64 => ?_) (fun c_64 => ?_)
          · skip
            refine z_iload_n X dJ6_numberOfTrailingZeros_0f7a4_74 rfl (j := 0) rfl ?_
            refine z_iload_n X dJ6_numberOfTrailingZeros_0f7a4_75 rfl (j := 1) rfl ?_
            refine z_iconst X (v := 1) dJ6_numberOfTrailingZeros_0f7a4_76 (by decide) ?_
            refine z_iushr X (v := (((nI (2 ^ t9 - 1)).toUInt32 >>> ((1 : Int32).toUInt32 &&& Int32.toUInt32 31)).toInt32)) dJ6_numberOfTrailingZeros_0f7a4_77 rfl ?_
            refine z_iadd X (v := (1 + (((nI (2 ^ t9 - 1)).toUInt32 >>> ((1 : Int32).toUInt32 &&& Int32.toUInt32 31)).toInt32))) dJ6_numberOfTrailingZeros_0f7a4_78 rfl ?_
            exact z_endi X hr [] [] rfl rfl rfl ⟨ntz_ttttt t9 ht9 ht0 c_23 c_38 c_52 c_64, rfl⟩ dJ6_numberOfTrailingZeros_0f7a4_79
          · skip
            refine z_iinc X (j := 0) (v := 3) (lv' := [(1, .int 3), (0, .int (nI (2 ^ t9 - 1)))]) dJ6_numberOfTrailingZeros_0f7a4_67 rfl (by decide) (by decide) rfl ?_
            refine z_iload_n X dJ6_numberOfTrailingZeros_0f7a4_70 rfl (j := 1) rfl ?_
            refine z_iconst X (v := 2) dJ6_numberOfTrailingZeros_0f7a4_71 (by decide) ?_
            refine z_iushr X (v := (((nI (2 ^ t9 - 1)).toUInt32 >>> ((2 : Int32).toUInt32 &&& Int32.toUInt32 31)).toInt32)) dJ6_numberOfTrailingZeros_0f7a4_72 rfl ?_
            refine z_istore_n X (lv' := [(0, .int (((nI (2 ^ t9 - 1)).toUInt32 >>> ((2 : Int32).toUInt32 &&& Int32.toUInt32 31)).toInt32)), (1, .int 3)]) dJ6_numberOfTrailingZeros_0f7a4_73 rfl (by decide) rfl ?_
            refine z_iload_n X dJ6_numberOfTrailingZeros_0f7a4_74 rfl (j := 1) rfl ?_
            refine z_iload_n X dJ6_numberOfTrailingZeros_0f7a4_75 rfl (j := 0) rfl ?_
            refine z_iconst X (v := 1) dJ6_numberOfTrailingZeros_0f7a4_76 (by decide) ?_
            refine z_iushr X (v := (((((nI (2 ^ t9 - 1)).toUInt32 >>> ((2 : Int32).toUInt32 &&& Int32.toUInt32 31)).toInt32).toUInt32 >>> ((1 : Int32).toUInt32 &&& Int32.toUInt32 31)).toInt32)) dJ6_numberOfTrailingZeros_0f7a4_77 rfl ?_
            refine z_iadd X (v := (3 + (((((nI (2 ^ t9 - 1)).toUInt32 >>> ((2 : Int32).toUInt32 &&& Int32.toUInt32 31)).toInt32).toUInt32 >>> ((1 : Int32).toUInt32 &&& Int32.toUInt32 31)).toInt32))) dJ6_numberOfTrailingZeros_0f7a4_78 rfl ?_
            exact z_endi X hr [] [] rfl rfl rfl ⟨ntz_ttttf t9 ht9 ht0 c_23 c_38 c_52 c_64, rfl⟩ dJ6_numberOfTrailingZeros_0f7a4_79
        · skip
          refine z_iinc X (j := 0) (v := 5) (lv' := [(1, .int 5), (0, .int (nI (2 ^ t9 - 1)))]) dJ6_numberOfTrailingZeros_0f7a4_55 rfl (by decide) (by decide) rfl ?_
          refine z_iload_n X dJ6_numberOfTrailingZeros_0f7a4_58 rfl (j := 1) rfl ?_
          refine z_iconst X (v := 4) dJ6_numberOfTrailingZeros_0f7a4_59 (by decide) ?_
          refine z_iushr X (v := (((nI (2 ^ t9 - 1)).toUInt32 >>> ((4 : Int32).toUInt32 &&& Int32.toUInt32 31)).toInt32)) dJ6_numberOfTrailingZeros_0f7a4_60 rfl ?_
          refine z_istore_n X (lv' := [(0, .int (((nI (2 ^ t9 - 1)).toUInt32 >>> ((4 : Int32).toUInt32 &&& Int32.toUInt32 31)).toInt32)), (1, .int 5)]) dJ6_numberOfTrailingZeros_0f7a4_61 rfl (by decide) rfl ?_
          refine z_iload_n X dJ6_numberOfTrailingZeros_0f7a4_62 rfl (j := 0) rfl ?_
          refine z_iconst X (v := 4) dJ6_numberOfTrailingZeros_0f7a4_63 (by decide) ?_
          refine z_icmp_le X (tgt := 74) dJ6_numberOfTrailingZeros_0f7a4_64 (by decide) (fun c_64 => ?_) (fun c_64 => ?_)
          · skip
            refine z_iload_n X dJ6_numberOfTrailingZeros_0f7a4_74 rfl (j := 1) rfl ?_
            refine z_iload_n X dJ6_numberOfTrailingZeros_0f7a4_75 rfl (j := 0) rfl ?_
            refine z_iconst X (v := 1) dJ6_numberOfTrailingZeros_0f7a4_76 (by decide) ?_
            refine z_iushr X (v := (((((nI (2 ^ t9 - 1)).toUInt32 >>> ((4 : Int32).toUInt32 &&& Int32.toUInt32 31)).toInt32).toUInt32 >>> ((1 : Int32).toUInt32 &&& Int32.toUInt32 31)).toInt32)) dJ6_numberOfTrailingZeros_0f7a4_77 rfl ?_
            refine z_iadd X (v := (5 + (((((nI (2 ^ t9 - 1)).toUInt32 >>> ((4 : Int32).toUInt32 &&& Int32.toUInt32 31)).toInt32).toUInt32 >>> ((1 : Int32).toUInt32 &&& Int32.toUInt32 31)).toInt32))) dJ6_numberOfTrailingZeros_0f7a4_78 rfl ?_
            exact z_endi X hr [] [] rfl rfl rfl ⟨ntz_tttft t9 ht9 ht0 c_23 c_38 c_52 c_64, rfl⟩ dJ6_numberOfTrailingZeros_0f7a4_79
          · skip
            refine z_iinc X (j := 1) (v := 7) (lv' := [(1, .int 7), (0, .int (((nI (2 ^ t9 - 1)).toUInt32 >>> ((4 : Int32).toUInt32 &&& Int32.toUInt32 31)).toInt32))]) dJ6_numberOfTrailingZeros_0f7a4_67 rfl (by decide) (by decide) rfl ?_
            refine z_iload_n X dJ6_numberOfTrailingZeros_0f7a4_70 rfl (j := 1) rfl ?_
            refine z_iconst X (v := 2) dJ6_numberOfTrailingZeros_0f7a4_71 (by decide) ?_
            refine z_iushr X (v := (((((nI (2 ^ t9 - 1)).toUInt32 >>> ((4 : Int32).toUInt32 &&& Int32.toUInt32 31)).toInt32).toUInt32 >>> ((2 : Int32).toUInt32 &&& Int32.toUInt32 31)).toInt32)) dJ6_numberOfTrailingZeros_0f7a4_72 rfl ?_
            refine z_istore_n X (lv' := [(0, .int (((((nI (2 ^ t9 - 1)).toUInt32 >>> ((4 : Int32).toUInt32 &&& Int32.toUInt32 31)).toInt32).toUInt32 >>> ((2 : Int32).toUInt32 &&& Int32.toUInt32 31)).toInt32)), (1, .int 7)]) dJ6_numberOfTrailingZeros_0f7a4_73 rfl (by decide) rfl ?_
            refine z_iload_n X dJ6_numberOfTrailingZeros_0f7a4_74 rfl (j := 1) rfl ?_
            refine z_iload_n X dJ6_numberOfTrailingZeros_0f7a4_75 rfl (j := 0) rfl ?_
            refine z_iconst X (v := 1) dJ6_numberOfTrailingZeros_0f7a4_76 (by decide) ?_
            refine z_iushr X (v := (((((((nI (2 ^ t9 - 1)).toUInt32 >>> ((4 : Int32).toUInt32 &&& Int32.toUInt32 31)).toInt32).toUInt32 >>> ((2 : Int32).toUInt32 &&& Int32.toUInt32 31)).toInt32).toUInt32 >>> ((1 : Int32).toUInt32 &&& Int32.toUInt32 31)).toInt32)) dJ6_numberOfTrailingZeros_0f7a4_77 rfl ?_
            refine z_iadd X (v := (7 + (((((((nI (2 ^ t9 - 1)).toUInt32 >>> ((4 : Int32).toUInt32 &&& Int32.toUInt32 31)).toInt32).toUInt32 >>> ((2 : Int32).toUInt32 &&& Int32.toUInt32 31)).toInt32).toUInt32 >>> ((1 : Int32).toUInt32 &&& Int32.toUInt32 31)).toInt32))) dJ6_numberOfTrailingZeros_0f7a4_78 rfl ?_
            exact z_endi X hr [] [] rfl rfl rfl ⟨ntz_tttff t9 ht9 ht0 c_23 c_38 c_52 c_64, rfl⟩ dJ6_numberOfTrailingZeros_0f7a4_79
      · skip
        refine z_iinc X (j := 0) (v := 9) (lv' := [(1, .int 9), (0, .int (nI (2 ^ t9 - 1)))]) dJ6_numberOfTrailingZeros_0f7a4_41 rfl (by decide) (by decide) rfl ?_
        refine z_iload_n X dJ6_numberOfTrailingZeros_0f7a4_44 rfl (j := 1) rfl ?_
        refine z_bipush X (v := 8) dJ6_numberOfTrailingZeros_0f7a4_45 (by decide) ?_
        refine z_iushr X (v := (((nI (2 ^ t9 - 1)).toUInt32 >>> ((8 : Int32).toUInt32 &&& Int32.toUInt32 31)).toInt32)) dJ6_numberOfTrailingZeros_0f7a4_47 rfl ?_
        refine z_istore_n X (lv' := [(0, .int (((nI (2 ^ t9 - 1)).toUInt32 >>> ((8 : Int32).toUInt32 &&& Int32.toUInt32 31)).toInt32)), (1, .int 9)]) dJ6_numberOfTrailingZeros_0f7a4_48 rfl (by decide) rfl ?_
        refine z_iload_n X dJ6_numberOfTrailingZeros_0f7a4_49 rfl (j := 0) rfl ?_
        refine z_bipush X (v := 16) dJ6_numberOfTrailingZeros_0f7a4_50 (by decide) ?_
        refine z_icmp_le X (tgt := 62) dJ6_numberOfTrailingZeros_0f7a4_52 (by decide) (fun c_52 => ?_) (fun c_52 => ?_)
        · skip
          refine z_iload_n X dJ6_numberOfTrailingZeros_0f7a4_62 rfl (j := 0) rfl ?_
          refine z_iconst X (v := 4) dJ6_numberOfTrailingZeros_0f7a4_63 (by decide) ?_
          refine z_icmp_le X (tgt := 74) dJ6_numberOfTrailingZeros_0f7a4_64 (by decide) (fun c_64 => ?_) (fun c_64 => ?_)
          · skip
            refine z_iload_n X dJ6_numberOfTrailingZeros_0f7a4_74 rfl (j := 1) rfl ?_
            refine z_iload_n X dJ6_numberOfTrailingZeros_0f7a4_75 rfl (j := 0) rfl ?_
            refine z_iconst X (v := 1) dJ6_numberOfTrailingZeros_0f7a4_76 (by decide) ?_
            refine z_iushr X (v := (((((nI (2 ^ t9 - 1)).toUInt32 >>> ((8 : Int32).toUInt32 &&& Int32.toUInt32 31)).toInt32).toUInt32 >>> ((1 : Int32).toUInt32 &&& Int32.toUInt32 31)).toInt32)) dJ6_numberOfTrailingZeros_0f7a4_77 rfl ?_
            refine z_iadd X (v := (9 + (((((nI (2 ^ t9 - 1)).toUInt32 >>> ((8 : Int32).toUInt32 &&& Int32.toUInt32 31)).toInt32).toUInt32 >>> ((1 : Int32).toUInt32 &&& Int32.toUInt32 31)).toInt32))) dJ6_numberOfTrailingZeros_0f7a4_78 rfl ?_
            exact z_endi X hr [] [] rfl rfl rfl ⟨ntz_ttftt t9 ht9 ht0 c_23 c_38 c_52 c_64, rfl⟩ dJ6_numberOfTrailingZeros_0f7a4_79
          · skip
            refine z_iinc X (j := 1) (v := 11) (lv' := [(1, .int 11), (0, .int (((nI (2 ^ t9 - 1)).toUInt32 >>> ((8 : Int32).toUInt32 &&& Int32.toUInt32 31)).toInt32))]) dJ6_numberOfTrailingZeros_0f7a4_67 rfl (by decide) (by decide) rfl ?_
            refine z_iload_n X dJ6_numberOfTrailingZeros_0f7a4_70 rfl (j := 1) rfl ?_
            refine z_iconst X (v := 2) dJ6_numberOfTrailingZeros_0f7a4_71 (by decide) ?_
            refine z_iushr X (v := (((((nI (2 ^ t9 - 1)).toUInt32 >>> ((8 : Int32).toUInt32 &&& Int32.toUInt32 31)).toInt32).toUInt32 >>> ((2 : Int32).toUInt32 &&& Int32.toUInt32 31)).toInt32)) dJ6_numberOfTrailingZeros_0f7a4_72 rfl ?_
            refine z_istore_n X (lv' := [(0, .int (((((nI (2 ^ t9 - 1)).toUInt32 >>> ((8 : Int32).toUInt32 &&& Int32.toUInt32 31)).toInt32).toUInt32 >>> ((2 : Int32).toUInt32 &&& Int32.toUInt32 31)).toInt32)), (1, .int 11)]) dJ6_numberOfTrailingZeros_0f7a4_73 rfl (by decide) rfl ?_
            refine z_iload_n X dJ6_numberOfTrailingZeros_0f7a4_74 rfl (j := 1) rfl ?_
            refine z_iload_n X dJ6_numberOfTrailingZeros_0f7a4_75 rfl (j := 0) rfl ?_
            refine z_iconst X (v := 1) dJ6_numberOfTrailingZeros_0f7a4_76 (by decide) ?_
            refine z_iushr X (v := (((((((nI (2 ^ t9 - 1)).toUInt32 >>> ((8 : Int32).toUInt32 &&& Int32.toUInt32 31)).toInt32).toUInt32 >>> ((2 : Int32).toUInt32 &&& Int32.toUInt32 31)).toInt32).toUInt32 >>> ((1 : Int32).toUInt32 &&& Int32.toUInt32 31)).toInt32)) dJ6_numberOfTrailingZeros_0f7a4_77 rfl ?_
            refine z_iadd X (v := (11 + (((((((nI (2 ^ t9 - 1)).toUInt32 >>> ((8 : Int32).toUInt32 &&& Int32.toUInt32 31)).toInt32).toUInt32 >>> ((2 : Int32).toUInt32 &&& Int32.toUInt32 31)).toInt32).toUInt32 >>> ((1 : Int32).toUInt32 &&& Int32.toUInt32 31)).toInt32))) dJ6_numberOfTrailingZeros_0f7a4_78 rfl ?_
            exact z_endi X hr [] [] rfl rfl rfl ⟨ntz_ttftf t9 ht9 ht0 c_23 c_38 c_52 c_64, rfl⟩ dJ6_numberOfTrailingZeros_0f7a4_79
        · skip
          refine z_iinc X (j := 1) (v := 13) (lv' := [(1, .int 13), (0, .int (((nI (2 ^ t9 - 1)).toUInt32 >>> ((8 : Int32).toUInt32 &&& Int32.toUInt32 31)).toInt32))]) dJ6_numberOfTrailingZeros_0f7a4_55 rfl (by decide) (by decide) rfl ?_
          refine z_iload_n X dJ6_numberOfTrailingZeros_0f7a4_58 rfl (j := 1) rfl ?_
          refine z_iconst X (v := 4) dJ6_numberOfTrailingZeros_0f7a4_59 (by decide) ?_
          refine z_iushr X (v := (((((nI (2 ^ t9 - 1)).toUInt32 >>> ((8 : Int32).toUInt32 &&& Int32.toUInt32 31)).toInt32).toUInt32 >>> ((4 : Int32).toUInt32 &&& Int32.toUInt32 31)).toInt32)) dJ6_numberOfTrailingZeros_0f7a4_60 rfl ?_
          refine z_istore_n X (lv' := [(0, .int (((((nI (2 ^ t9 - 1)).toUInt32 >>> ((8 : Int32).toUInt32 &&& Int32.toUInt32 31)).toInt32).toUInt32 >>> ((4 : Int32).toUInt32 &&& Int32.toUInt32 31)).toInt32)), (1, .int 13)]) dJ6_numberOfTrailingZeros_0f7a4_61 rfl (by decide) rfl ?_
          refine z_iload_n X dJ6_numberOfTrailingZeros_0f7a4_62 rfl (j := 0) rfl ?_
          refine z_iconst X (v := 4) dJ6_numberOfTrailingZeros_0f7a4_63 (by decide) ?_
          refine z_icmp_le X (tgt := 74) dJ6_numberOfTrailingZeros_0f7a4_64 (by decide) (fun c_64 => ?_) (fun c_64 => ?_)
          · skip
            refine z_iload_n X dJ6_numberOfTrailingZeros_0f7a4_74 rfl (j := 1) rfl ?_
            refine z_iload_n X dJ6_numberOfTrailingZeros_0f7a4_75 rfl (j := 0) rfl ?_
            refine z_iconst X (v := 1) dJ6_numberOfTrailingZeros_0f7a4_76 (by decide) ?_
            refine z_iushr X (v := (((((((nI (2 ^ t9 - 1)).toUInt32 >>> ((8 : Int32).toUInt32 &&& Int32.toUInt32 31)).toInt32).toUInt32 >>> ((4 : Int32).toUInt32 &&& Int32.toUInt32 31)).toInt32).toUInt32 >>> ((1 : Int32).toUInt32 &&& Int32.toUInt32 31)).toInt32)) dJ6_numberOfTrailingZeros_0f7a4_77 rfl ?_
            refine z_iadd X (v := (13 + (((((((nI (2 ^ t9 - 1)).toUInt32 >>> ((8 : Int32).toUInt32 &&& Int32.toUInt32 31)).toInt32).toUInt32 >>> ((4 : Int32).toUInt32 &&& Int32.toUInt32 31)).toInt32).toUInt32 >>> ((1 : Int32).toUInt32 &&& Int32.toUInt32 31)).toInt32))) dJ6_numberOfTrailingZeros_0f7a4_78 rfl ?_
            exact z_endi X hr [] [] rfl rfl rfl ⟨ntz_ttfft t9 ht9 ht0 c_23 c_38 c_52 c_64, rfl⟩ dJ6_numberOfTrailingZeros_0f7a4_79
          · skip
            refine z_iinc X (j := 1) (v := 15) (lv' := [(1, .int 15), (0, .int (((((nI (2 ^ t9 - 1)).toUInt32 >>> ((8 : Int32).toUInt32 &&& Int32.toUInt32 31)).toInt32).toUInt32 >>> ((4 : Int32).toUInt32 &&& Int32.toUInt32 31)).toInt32))]) dJ6_numberOfTrailingZeros_0f7a4_67 rfl (by decide) (by decide) rfl ?_
            refine z_iload_n X dJ6_numberOfTrailingZeros_0f7a4_70 rfl (j := 1) rfl ?_
            refine z_iconst X (v := 2) dJ6_numberOfTrailingZeros_0f7a4_71 (by decide) ?_
            refine z_iushr X (v := (((((((nI (2 ^ t9 - 1)).toUInt32 >>> ((8 : Int32).toUInt32 &&& Int32.toUInt32 31)).toInt32).toUInt32 >>> ((4 : Int32).toUInt32 &&& Int32.toUInt32 31)).toInt32).toUInt32 >>> ((2 : Int32).toUInt32 &&& Int32.toUInt32 31)).toInt32)) dJ6_numberOfTrailingZeros_0f7a4_72 rfl ?_
            refine z_istore_n X (lv' := [(0, .int (((((((nI (2 ^ t9 - 1)).toUInt32 >>> ((8 : Int32).toUInt32 &&& Int32.toUInt32 31)).toInt32).toUInt32 >>> ((4 : Int32).toUInt32 &&& Int32.toUInt32 31)).toInt32).toUInt32 >>> ((2 : Int32).toUInt32 &&& Int32.toUInt32 31)).toInt32)), (1, .int 15)]) dJ6_numberOfTrailingZeros_0f7a4_73 rfl (by decide) rfl ?_
            refine z_iload_n X dJ6_numberOfTrailingZeros_0f7a4_74 rfl (j := 1) rfl ?_
            refine z_iload_n X dJ6_numberOfTrailingZeros_0f7a4_75 rfl (j := 0) rfl ?_
            refine z_iconst X (v := 1) dJ6_numberOfTrailingZeros_0f7a4_76 (by decide) ?_
            refine z_iushr X (v := (((((((((nI (2 ^ t9 - 1)).toUInt32 >>> ((8 : Int32).toUInt32 &&& Int32.toUInt32 31)).toInt32).toUInt32 >>> ((4 : Int32).toUInt32 &&& Int32.toUInt32 31)).toInt32).toUInt32 >>> ((2 : Int32).toUInt32 &&& Int32.toUInt32 31)).toInt32).toUInt32 >>> ((1 : Int32).toUInt32 &&& Int32.toUInt32 31)).toInt32)) dJ6_numberOfTrailingZeros_0f7a4_77 rfl ?_
            refine z_iadd X (v := (15 + (((((((((nI (2 ^ t9 - 1)).toUInt32 >>> ((8 : Int32).toUInt32 &&& Int32.toUInt32 31)).toInt32).toUInt32 >>> ((4 : Int32).toUInt32 &&& Int32.toUInt32 31)).toInt32).toUInt32 >>> ((2 : Int32).toUInt32 &&& Int32.toUInt32 31)).toInt32).toUInt32 >>> ((1 : Int32).toUInt32 &&& Int32.toUInt32 31)).toInt32))) dJ6_numberOfTrailingZeros_0f7a4_78 rfl ?_
            exact z_endi X hr [] [] rfl rfl rfl ⟨ntz_ttfff t9 ht9 ht0 c_23 c_38 c_52 c_64, rfl⟩ dJ6_numberOfTrailingZeros_0f7a4_79
    · skip
      refine z_iinc X (j := 0) (v := 17) (lv' := [(1, .int 17), (0, .int (nI (2 ^ t9 - 1)))]) dJ6_numberOfTrailingZeros_0f7a4_26 rfl (by decide) (by decide) rfl ?_
      refine z_iload_n X dJ6_numberOfTrailingZeros_0f7a4_29 rfl (j := 1) rfl ?_
      refine z_bipush X (v := 16) dJ6_numberOfTrailingZeros_0f7a4_30 (by decide) ?_
      refine z_iushr X (v := (((nI (2 ^ t9 - 1)).toUInt32 >>> ((16 : Int32).toUInt32 &&& Int32.toUInt32 31)).toInt32)) dJ6_numberOfTrailingZeros_0f7a4_32 rfl ?_
      refine z_istore_n X (lv' := [(0, .int (((nI (2 ^ t9 - 1)).toUInt32 >>> ((16 : Int32).toUInt32 &&& Int32.toUInt32 31)).toInt32)), (1, .int 17)]) dJ6_numberOfTrailingZeros_0f7a4_33 rfl (by decide) rfl ?_
      refine z_iload_n X dJ6_numberOfTrailingZeros_0f7a4_34 rfl (j := 0) rfl ?_
      refine z_sipush X (v := 256) dJ6_numberOfTrailingZeros_0f7a4_35 (by decide) ?_
      refine z_icmp_le X (tgt := 49) dJ6_numberOfTrailingZeros_0f7a4_38 (by decide) (fun c_38 => ?_) (fun c_38 => ?_)
      · skip
        refine z_iload_n X dJ6_numberOfTrailingZeros_0f7a4_49 rfl (j := 0) rfl ?_
        refine z_bipush X (v := 16) dJ6_numberOfTrailingZeros_0f7a4_50 (by decide) ?_
        refine z_icmp_le X (tgt := 62) dJ6_numberOfTrailingZeros_0f7a4_52 (by decide) (fun c_52 => ?_) (fun c_52 => ?_)
        · skip
          refine z_iload_n X dJ6_numberOfTrailingZeros_0f7a4_62 rfl (j := 0) rfl ?_
          refine z_iconst X (v := 4) dJ6_numberOfTrailingZeros_0f7a4_63 (by decide) ?_
          refine z_icmp_le X (tgt := 74) dJ6_numberOfTrailingZeros_0f7a4_64 (by decide) (fun c_64 => ?_) (fun c_64 => ?_)
          · skip
            refine z_iload_n X dJ6_numberOfTrailingZeros_0f7a4_74 rfl (j := 1) rfl ?_
            refine z_iload_n X dJ6_numberOfTrailingZeros_0f7a4_75 rfl (j := 0) rfl ?_
            refine z_iconst X (v := 1) dJ6_numberOfTrailingZeros_0f7a4_76 (by decide) ?_
            refine z_iushr X (v := (((((nI (2 ^ t9 - 1)).toUInt32 >>> ((16 : Int32).toUInt32 &&& Int32.toUInt32 31)).toInt32).toUInt32 >>> ((1 : Int32).toUInt32 &&& Int32.toUInt32 31)).toInt32)) dJ6_numberOfTrailingZeros_0f7a4_77 rfl ?_
            refine z_iadd X (v := (17 + (((((nI (2 ^ t9 - 1)).toUInt32 >>> ((16 : Int32).toUInt32 &&& Int32.toUInt32 31)).toInt32).toUInt32 >>> ((1 : Int32).toUInt32 &&& Int32.toUInt32 31)).toInt32))) dJ6_numberOfTrailingZeros_0f7a4_78 rfl ?_
            exact z_endi X hr [] [] rfl rfl rfl ⟨ntz_tfttt t9 ht9 ht0 c_23 c_38 c_52 c_64, rfl⟩ dJ6_numberOfTrailingZeros_0f7a4_79
          · skip
            refine z_iinc X (j := 1) (v := 19) (lv' := [(1, .int 19), (0, .int (((nI (2 ^ t9 - 1)).toUInt32 >>> ((16 : Int32).toUInt32 &&& Int32.toUInt32 31)).toInt32))]) dJ6_numberOfTrailingZeros_0f7a4_67 rfl (by decide) (by decide) rfl ?_
            refine z_iload_n X dJ6_numberOfTrailingZeros_0f7a4_70 rfl (j := 1) rfl ?_
            refine z_iconst X (v := 2) dJ6_numberOfTrailingZeros_0f7a4_71 (by decide) ?_
            refine z_iushr X (v := (((((nI (2 ^ t9 - 1)).toUInt32 >>> ((16 : Int32).toUInt32 &&& Int32.toUInt32 31)).toInt32).toUInt32 >>> ((2 : Int32).toUInt32 &&& Int32.toUInt32 31)).toInt32)) dJ6_numberOfTrailingZeros_0f7a4_72 rfl ?_
            refine z_istore_n X (lv' := [(0, .int (((((nI (2 ^ t9 - 1)).toUInt32 >>> ((16 : Int32).toUInt32 &&& Int32.toUInt32 31)).toInt32).toUInt32 >>> ((2 : Int32).toUInt32 &&& Int32.toUInt32 31)).toInt32)), (1, .int 19)]) dJ6_numberOfTrailingZeros_0f7a4_73 rfl (by decide) rfl ?_
            refine z_iload_n X dJ6_numberOfTrailingZeros_0f7a4_74 rfl (j := 1) rfl ?_
            refine z_iload_n X dJ6_numberOfTrailingZeros_0f7a4_75 rfl (j := 0) rfl ?_
            refine z_iconst X (v := 1) dJ6_numberOfTrailingZeros_0f7a4_76 (by decide) ?_
            refine z_iushr X (v := (((((((nI (2 ^ t9 - 1)).toUInt32 >>> ((16 : Int32).toUInt32 &&& Int32.toUInt32 31)).toInt32).toUInt32 >>> ((2 : Int32).toUInt32 &&& Int32.toUInt32 31)).toInt32).toUInt32 >>> ((1 : Int32).toUInt32 &&& Int32.toUInt32 31)).toInt32)) dJ6_numberOfTrailingZeros_0f7a4_77 rfl ?_
            refine z_iadd X (v := (19 + (((((((nI (2 ^ t9 - 1)).toUInt32 >>> ((16 : Int32).toUInt32 &&& Int32.toUInt32 31)).toInt32).toUInt32 >>> ((2 : Int32).toUInt32 &&& Int32.toUInt32 31)).toInt32).toUInt32 >>> ((1 : Int32).toUInt32 &&& Int32.toUInt32 31)).toInt32))) dJ6_numberOfTrailingZeros_0f7a4_78 rfl ?_
            exact z_endi X hr [] [] rfl rfl rfl ⟨ntz_tfttf t9 ht9 ht0 c_23 c_38 c_52 c_64, rfl⟩ dJ6_numberOfTrailingZeros_0f7a4_79
        · skip
          refine z_iinc X (j := 1) (v := 21) (lv' := [(1, .int 21), (0, .int (((nI (2 ^ t9 - 1)).toUInt32 >>> ((16 : Int32).toUInt32 &&& Int32.toUInt32 31)).toInt32))]) dJ6_numberOfTrailingZeros_0f7a4_55 rfl (by decide) (by decide) rfl ?_
          refine z_iload_n X dJ6_numberOfTrailingZeros_0f7a4_58 rfl (j := 1) rfl ?_
          refine z_iconst X (v := 4) dJ6_numberOfTrailingZeros_0f7a4_59 (by decide) ?_
          refine z_iushr X (v := (((((nI (2 ^ t9 - 1)).toUInt32 >>> ((16 : Int32).toUInt32 &&& Int32.toUInt32 31)).toInt32).toUInt32 >>> ((4 : Int32).toUInt32 &&& Int32.toUInt32 31)).toInt32)) dJ6_numberOfTrailingZeros_0f7a4_60 rfl ?_
          refine z_istore_n X (lv' := [(0, .int (((((nI (2 ^ t9 - 1)).toUInt32 >>> ((16 : Int32).toUInt32 &&& Int32.toUInt32 31)).toInt32).toUInt32 >>> ((4 : Int32).toUInt32 &&& Int32.toUInt32 31)).toInt32)), (1, .int 21)]) dJ6_numberOfTrailingZeros_0f7a4_61 rfl (by decide) rfl ?_
          refine z_iload_n X dJ6_numberOfTrailingZeros_0f7a4_62 rfl (j := 0) rfl ?_
          refine z_iconst X (v := 4) dJ6_numberOfTrailingZeros_0f7a4_63 (by decide) ?_
          refine z_icmp_le X (tgt := 74) dJ6_numberOfTrailingZeros_0f7a4_64 (by decide) (fun c_64 => ?_) (fun c_64 => ?_)
          · skip
            refine z_iload_n X dJ6_numberOfTrailingZeros_0f7a4_74 rfl (j := 1) rfl ?_
            refine z_iload_n X dJ6_numberOfTrailingZeros_0f7a4_75 rfl (j := 0) rfl ?_
            refine z_iconst X (v := 1) dJ6_numberOfTrailingZeros_0f7a4_76 (by decide) ?_
            refine z_iushr X (v := (((((((nI (2 ^ t9 - 1)).toUInt32 >>> ((16 : Int32).toUInt32 &&& Int32.toUInt32 31)).toInt32).toUInt32 >>> ((4 : Int32).toUInt32 &&& Int32.toUInt32 31)).toInt32).toUInt32 >>> ((1 : Int32).toUInt32 &&& Int32.toUInt32 31)).toInt32)) dJ6_numberOfTrailingZeros_0f7a4_77 rfl ?_
            refine z_iadd X (v := (21 + (((((((nI (2 ^ t9 - 1)).toUInt32 >>> ((16 : Int32).toUInt32 &&& Int32.toUInt32 31)).toInt32).toUInt32 >>> ((4 : Int32).toUInt32 &&& Int32.toUInt32 31)).toInt32).toUInt32 >>> ((1 : Int32).toUInt32 &&& Int32.toUInt32 31)).toInt32))) dJ6_numberOfTrailingZeros_0f7a4_78 rfl ?_
            exact z_endi X hr [] [] rfl rfl rfl ⟨ntz_tftft t9 ht9 ht0 c_23 c_38 c_52 c_64, rfl⟩ dJ6_numberOfTrailingZeros_0f7a4_79
          · skip
            refine z_iinc X (j := 1) (v := 23) (lv' := [(1, .int 23), (0, .int (((((nI (2 ^ t9 - 1)).toUInt32 >>> ((16 : Int32).toUInt32 &&& Int32.toUInt32 31)).toInt32).toUInt32 >>> ((4 : Int32).toUInt32 &&& Int32.toUInt32 31)).toInt32))]) dJ6_numberOfTrailingZeros_0f7a4_67 rfl (by decide) (by decide) rfl ?_
            refine z_iload_n X dJ6_numberOfTrailingZeros_0f7a4_70 rfl (j := 1) rfl ?_
            refine z_iconst X (v := 2) dJ6_numberOfTrailingZeros_0f7a4_71 (by decide) ?_
            refine z_iushr X (v := (((((((nI (2 ^ t9 - 1)).toUInt32 >>> ((16 : Int32).toUInt32 &&& Int32.toUInt32 31)).toInt32).toUInt32 >>> ((4 : Int32).toUInt32 &&& Int32.toUInt32 31)).toInt32).toUInt32 >>> ((2 : Int32).toUInt32 &&& Int32.toUInt32 31)).toInt32)) dJ6_numberOfTrailingZeros_0f7a4_72 rfl ?_
            refine z_istore_n X (lv' := [(0, .int (((((((nI (2 ^ t9 - 1)).toUInt32 >>> ((16 : Int32).toUInt32 &&& Int32.toUInt32 31)).toInt32).toUInt32 >>> ((4 : Int32).toUInt32 &&& Int32.toUInt32 31)).toInt32).toUInt32 >>> ((2 : Int32).toUInt32 &&& Int32.toUInt32 31)).toInt32)), (1, .int 23)]) dJ6_numberOfTrailingZeros_0f7a4_73 rfl (by decide) rfl ?_
            refine z_iload_n X dJ6_numberOfTrailingZeros_0f7a4_74 rfl (j := 1) rfl ?_
            refine z_iload_n X dJ6_numberOfTrailingZeros_0f7a4_75 rfl (j := 0) rfl ?_
            refine z_iconst X (v := 1) dJ6_numberOfTrailingZeros_0f7a4_76 (by decide) ?_
            refine z_iushr X (v := (((((((((nI (2 ^ t9 - 1)).toUInt32 >>> ((16 : Int32).toUInt32 &&& Int32.toUInt32 31)).toInt32).toUInt32 >>> ((4 : Int32).toUInt32 &&& Int32.toUInt32 31)).toInt32).toUInt32 >>> ((2 : Int32).toUInt32 &&& Int32.toUInt32 31)).toInt32).toUInt32 >>> ((1 : Int32).toUInt32 &&& Int32.toUInt32 31)).toInt32)) dJ6_numberOfTrailingZeros_0f7a4_77 rfl ?_
            refine z_iadd X (v := (23 + (((((((((nI (2 ^ t9 - 1)).toUInt32 >>> ((16 : Int32).toUInt32 &&& Int32.toUInt32 31)).toInt32).toUInt32 >>> ((4 : Int32).toUInt32 &&& Int32.toUInt32 31)).toInt32).toUInt32 >>> ((2 : Int32).toUInt32 &&& Int32.toUInt32 31)).toInt32).toUInt32 >>> ((1 : Int32).toUInt32 &&& Int32.toUInt32 31)).toInt32))) dJ6_numberOfTrailingZeros_0f7a4_78 rfl ?_
            exact z_endi X hr [] [] rfl rfl rfl ⟨ntz_tftff t9 ht9 ht0 c_23 c_38 c_52 c_64, rfl⟩ dJ6_numberOfTrailingZeros_0f7a4_79
      · skip
        refine z_iinc X (j := 1) (v := 25) (lv' := [(1, .int 25), (0, .int (((nI (2 ^ t9 - 1)).toUInt32 >>> ((16 : Int32).toUInt32 &&& Int32.toUInt32 31)).toInt32))]) dJ6_numberOfTrailingZeros_0f7a4_41 rfl (by decide) (by decide) rfl ?_
        refine z_iload_n X dJ6_numberOfTrailingZeros_0f7a4_44 rfl (j := 1) rfl ?_
        refine z_bipush X (v := 8) dJ6_numberOfTrailingZeros_0f7a4_45 (by decide) ?_
        refine z_iushr X (v := (((((nI (2 ^ t9 - 1)).toUInt32 >>> ((16 : Int32).toUInt32 &&& Int32.toUInt32 31)).toInt32).toUInt32 >>> ((8 : Int32).toUInt32 &&& Int32.toUInt32 31)).toInt32)) dJ6_numberOfTrailingZeros_0f7a4_47 rfl ?_
        refine z_istore_n X (lv' := [(0, .int (((((nI (2 ^ t9 - 1)).toUInt32 >>> ((16 : Int32).toUInt32 &&& Int32.toUInt32 31)).toInt32).toUInt32 >>> ((8 : Int32).toUInt32 &&& Int32.toUInt32 31)).toInt32)), (1, .int 25)]) dJ6_numberOfTrailingZeros_0f7a4_48 rfl (by decide) rfl ?_
        refine z_iload_n X dJ6_numberOfTrailingZeros_0f7a4_49 rfl (j := 0) rfl ?_
        refine z_bipush X (v := 16) dJ6_numberOfTrailingZeros_0f7a4_50 (by decide) ?_
        refine z_icmp_le X (tgt := 62) dJ6_numberOfTrailingZeros_0f7a4_52 (by decide) (fun c_52 => ?_) (fun c_52 => ?_)
        · skip
          refine z_iload_n X dJ6_numberOfTrailingZeros_0f7a4_62 rfl (j := 0) rfl ?_
          refine z_iconst X (v := 4) dJ6_numberOfTrailingZeros_0f7a4_63 (by decide) ?_
          refine z_icmp_le X (tgt := 74) dJ6_numberOfTrailingZeros_0f7a4_64 (by decide) (fun c_64 => ?_) (fun c_64 => ?_)
          · skip
            refine z_iload_n X dJ6_numberOfTrailingZeros_0f7a4_74 rfl (j := 1) rfl ?_
            refine z_iload_n X dJ6_numberOfTrailingZeros_0f7a4_75 rfl (j := 0) rfl ?_
            refine z_iconst X (v := 1) dJ6_numberOfTrailingZeros_0f7a4_76 (by decide) ?_
            refine z_iushr X (v := (((((((nI (2 ^ t9 - 1)).toUInt32 >>> ((16 : Int32).toUInt32 &&& Int32.toUInt32 31)).toInt32).toUInt32 >>> ((8 : Int32).toUInt32 &&& Int32.toUInt32 31)).toInt32).toUInt32 >>> ((1 : Int32).toUInt32 &&& Int32.toUInt32 31)).toInt32)) dJ6_numberOfTrailingZeros_0f7a4_77 rfl ?_
            refine z_iadd X (v := (25 + (((((((nI (2 ^ t9 - 1)).toUInt32 >>> ((16 : Int32).toUInt32 &&& Int32.toUInt32 31)).toInt32).toUInt32 >>> ((8 : Int32).toUInt32 &&& Int32.toUInt32 31)).toInt32).toUInt32 >>> ((1 : Int32).toUInt32 &&& Int32.toUInt32 31)).toInt32))) dJ6_numberOfTrailingZeros_0f7a4_78 rfl ?_
            exact z_endi X hr [] [] rfl rfl rfl ⟨ntz_tfftt t9 ht9 ht0 c_23 c_38 c_52 c_64, rfl⟩ dJ6_numberOfTrailingZeros_0f7a4_79
          · skip
            refine z_iinc X (j := 1) (v := 27) (lv' := [(1, .int 27), (0, .int (((((nI (2 ^ t9 - 1)).toUInt32 >>> ((16 : Int32).toUInt32 &&& Int32.toUInt32 31)).toInt32).toUInt32 >>> ((8 : Int32).toUInt32 &&& Int32.toUInt32 31)).toInt32))]) dJ6_numberOfTrailingZeros_0f7a4_67 rfl (by decide) (by decide) rfl ?_
            refine z_iload_n X dJ6_numberOfTrailingZeros_0f7a4_70 rfl (j := 1) rfl ?_
            refine z_iconst X (v := 2) dJ6_numberOfTrailingZeros_0f7a4_71 (by decide) ?_
            refine z_iushr X (v := (((((((nI (2 ^ t9 - 1)).toUInt32 >>> ((16 : Int32).toUInt32 &&& Int32.toUInt32 31)).toInt32).toUInt32 >>> ((8 : Int32).toUInt32 &&& Int32.toUInt32 31)).toInt32).toUInt32 >>> ((2 : Int32).toUInt32 &&& Int32.toUInt32 31)).toInt32)) dJ6_numberOfTrailingZeros_0f7a4_72 rfl ?_
            refine z_istore_n X (lv' := [(0, .int (((((((nI (2 ^ t9 - 1)).toUInt32 >>> ((16 : Int32).toUInt32 &&& Int32.toUInt32 31)).toInt32).toUInt32 >>> ((8 : Int32).toUInt32 &&& Int32.toUInt32 31)).toInt32).toUInt32 >>> ((2 : Int32).toUInt32 &&& Int32.toUInt32 31)).toInt32)), (1, .int 27)]) dJ6_numberOfTrailingZeros_0f7a4_73 rfl (by decide) rfl ?_
            refine z_iload_n X dJ6_numberOfTrailingZeros_0f7a4_74 rfl (j := 1) rfl ?_
            refine z_iload_n X dJ6_numberOfTrailingZeros_0f7a4_75 rfl (j := 0) rfl ?_
            refine z_iconst X (v := 1) dJ6_numberOfTrailingZeros_0f7a4_76 (by decide) ?_
            refine z_iushr X (v := (((((((((nI (2 ^ t9 - 1)).toUInt32 >>> ((16 : Int32).toUInt32 &&& Int32.toUInt32 31)).toInt32).toUInt32 >>> ((8 : Int32).toUInt32 &&& Int32.toUInt32 31)).toInt32).toUInt32 >>> ((2 : Int32).toUInt32 &&& Int32.toUInt32 31)).toInt32).toUInt32 >>> ((1 : Int32).toUInt32 &&& Int32.toUInt32 31)).toInt32)) dJ6_numberOfTrailingZeros_0f7a4_77 rfl ?_
            refine z_iadd X (v := (27 + (((((((((nI (2 ^ t9 - 1)).toUInt32 >>> ((16 : Int32).toUInt32 &&& Int32.toUInt32 31)).toInt32).toUInt32 >>> ((8 : Int32).toUInt32 &&& Int32.toUInt32 31)).toInt32).toUInt32 >>> ((2 : Int32).toUInt32 &&& Int32.toUInt32 31)).toInt32).toUInt32 >>> ((1 : Int32).toUInt32 &&& Int32.toUInt32 31)).toInt32))) dJ6_numberOfTrailingZeros_0f7a4_78 rfl ?_
            exact z_endi X hr [] [] rfl rfl rfl ⟨ntz_tfftf t9 ht9 ht0 c_23 c_38 c_52 c_64, rfl⟩ dJ6_numberOfTrailingZeros_0f7a4_79
        · skip
          refine z_iinc X (j := 1) (v := 29) (lv' := [(1, .int 29), (0, .int (((((nI (2 ^ t9 - 1)).toUInt32 >>> ((16 : Int32).toUInt32 &&& Int32.toUInt32 31)).toInt32).toUInt32 >>> ((8 : Int32).toUInt32 &&& Int32.toUInt32 31)).toInt32))]) dJ6_numberOfTrailingZeros_0f7a4_55 rfl (by decide) (by decide) rfl ?_
          refine z_iload_n X dJ6_numberOfTrailingZeros_0f7a4_58 rfl (j := 1) rfl ?_
          refine z_iconst X (v := 4) dJ6_numberOfTrailingZeros_0f7a4_59 (by decide) ?_
          refine z_iushr X (v := (((((((nI (2 ^ t9 - 1)).toUInt32 >>> ((16 : Int32).toUInt32 &&& Int32.toUInt32 31)).toInt32).toUInt32 >>> ((8 : Int32).toUInt32 &&& Int32.toUInt32 31)).toInt32).toUInt32 >>> ((4 : Int32).toUInt32 &&& Int32.toUInt32 31)).toInt32)) dJ6_numberOfTrailingZeros_0f7a4_60 rfl ?_
          refine z_istore_n X (lv' := [(0, .int (((((((nI (2 ^ t9 - 1)).toUInt32 >>> ((16 : Int32).toUInt32 &&& Int32.toUInt32 31)).toInt32).toUInt32 >>> ((8 : Int32).toUInt32 &&& Int32.toUInt32 31)).toInt32).toUInt32 >>> ((4 : Int32).toUInt32 &&& Int32.toUInt32 31)).toInt32)), (1, .int 29)]) dJ6_numberOfTrailingZeros_0f7a4_61 rfl (by decide) rfl ?_
          refine z_iload_n X dJ6_numberOfTrailingZeros_0f7a4_62 rfl (j := 0) rfl ?_
          refine z_iconst X (v := 4) dJ6_numberOfTrailingZeros_0f7a4_63 (by decide) ?_
          refine z_icmp_le X (tgt := 74) dJ6_numberOfTrailingZeros_0f7a4_64 (by decide) (fun c_64 => ?_) (fun c_64 => ?_)
          · skip
            refine z_iload_n X dJ6_numberOfTrailingZeros_0f7a4_74 rfl (j := 1) rfl ?_
            refine z_iload_n X dJ6_numberOfTrailingZeros_0f7a4_75 rfl (j := 0) rfl ?_
            refine z_iconst X (v := 1) dJ6_numberOfTrailingZeros_0f7a4_76 (by decide) ?_
            refine z_iushr X (v := (((((((((nI (2 ^ t9 - 1)).toUInt32 >>> ((16 : Int32).toUInt32 &&& Int32.toUInt32 31)).toInt32).toUInt32 >>> ((8 : Int32).toUInt32 &&& Int32.toUInt32 31)).toInt32).toUInt32 >>> ((4 : Int32).toUInt32 &&& Int32.toUInt32 31)).toInt32).toUInt32 >>> ((1 : Int32).toUInt32 &&& Int32.toUInt32 31)).toInt32)) dJ6_numberOfTrailingZeros_0f7a4_77 rfl ?_
            refine z_iadd X (v := (29 + (((((((((nI (2 ^ t9 - 1)).toUInt32 >>> ((16 : Int32).toUInt32 &&& Int32.toUInt32 31)).toInt32).toUInt32 >>> ((8 : Int32).toUInt32 &&& Int32.toUInt32 31)).toInt32).toUInt32 >>> ((4 : Int32).toUInt32 &&& Int32.toUInt32 31)).toInt32).toUInt32 >>> ((1 : Int32).toUInt32 &&& Int32.toUInt32 31)).toInt32))) dJ6_numberOfTrailingZeros_0f7a4_78 rfl ?_
            exact z_endi X hr [] [] rfl rfl rfl ⟨ntz_tffft t9 ht9 ht0 c_23 c_38 c_52 c_64, rfl⟩ dJ6_numberOfTrailingZeros_0f7a4_79
          · skip
            refine z_iinc X (j := 1) (v := 31) (lv' := [(1, .int 31), (0, .int (((((((nI (2 ^ t9 - 1)).toUInt32 >>> ((16 : Int32).toUInt32 &&& Int32.toUInt32 31)).toInt32).toUInt32 >>> ((8 : Int32).toUInt32 &&& Int32.toUInt32 31)).toInt32).toUInt32 >>> ((4 : Int32).toUInt32 &&& Int32.toUInt32 31)).toInt32))]) dJ6_numberOfTrailingZeros_0f7a4_67 rfl (by decide) (by decide) rfl ?_
            refine z_iload_n X dJ6_numberOfTrailingZeros_0f7a4_70 rfl (j := 1) rfl ?_
            refine z_iconst X (v := 2) dJ6_numberOfTrailingZeros_0f7a4_71 (by decide) ?_
            refine z_iushr X (v := (((((((((nI (2 ^ t9 - 1)).toUInt32 >>> ((16 : Int32).toUInt32 &&& Int32.toUInt32 31)).toInt32).toUInt32 >>> ((8 : Int32).toUInt32 &&& Int32.toUInt32 31)).toInt32).toUInt32 >>> ((4 : Int32).toUInt32 &&& Int32.toUInt32 31)).toInt32).toUInt32 >>> ((2 : Int32).toUInt32 &&& Int32.toUInt32 31)).toInt32)) dJ6_numberOfTrailingZeros_0f7a4_72 rfl ?_
            refine z_istore_n X (lv' := [(0, .int (((((((((nI (2 ^ t9 - 1)).toUInt32 >>> ((16 : Int32).toUInt32 &&& Int32.toUInt32 31)).toInt32).toUInt32 >>> ((8 : Int32).toUInt32 &&& Int32.toUInt32 31)).toInt32).toUInt32 >>> ((4 : Int32).toUInt32 &&& Int32.toUInt32 31)).toInt32).toUInt32 >>> ((2 : Int32).toUInt32 &&& Int32.toUInt32 31)).toInt32)), (1, .int 31)]) dJ6_numberOfTrailingZeros_0f7a4_73 rfl (by decide) rfl ?_
            refine z_iload_n X dJ6_numberOfTrailingZeros_0f7a4_74 rfl (j := 1) rfl ?_
            refine z_iload_n X dJ6_numberOfTrailingZeros_0f7a4_75 rfl (j := 0) rfl ?_
            refine z_iconst X (v := 1) dJ6_numberOfTrailingZeros_0f7a4_76 (by decide) ?_
            refine z_iushr X (v := (((((((((((nI (2 ^ t9 - 1)).toUInt32 >>> ((16 : Int32).toUInt32 &&& Int32.toUInt32 31)).toInt32).toUInt32 >>> ((8 : Int32).toUInt32 &&& Int32.toUInt32 31)).toInt32).toUInt32 >>> ((4 : Int32).toUInt32 &&& Int32.toUInt32 31)).toInt32).toUInt32 >>> ((2 : Int32).toUInt32 &&& Int32.toUInt32 31)).toInt32).toUInt32 >>> ((1 : Int32).toUInt32 &&& Int32.toUInt32 31)).toInt32)) dJ6_numberOfTrailingZeros_0f7a4_77 rfl ?_
            refine z_iadd X (v := (31 + (((((((((((nI (2 ^ t9 - 1)).toUInt32 >>> ((16 : Int32).toUInt32 &&& Int32.toUInt32 31)).toInt32).toUInt32 >>> ((8 : Int32).toUInt32 &&& Int32.toUInt32 31)).toInt32).toUInt32 >>> ((4 : Int32).toUInt32 &&& Int32.toUInt32 31)).toInt32).toUInt32 >>> ((2 : Int32).toUInt32 &&& Int32.toUInt32 31)).toInt32).toUInt32 >>> ((1 : Int32).toUInt32 &&& Int32.toUInt32 31)).toInt32))) dJ6_numberOfTrailingZeros_0f7a4_78 rfl ?_
            exact z_endi X hr [] [] rfl rfl rfl ⟨ntz_tffff t9 ht9 ht0 c_23 c_38 c_52 c_64, rfl⟩ dJ6_numberOfTrailingZeros_0f7a4_79
  · skip
    refine z_iload_n X dJ6_numberOfTrailingZeros_0f7a4_12 rfl (j := 0) rfl ?_
    refine z_bipush X (v := 32) dJ6_numberOfTrailingZeros_0f7a4_13 (by decide) ?_
    refine z_iand X (v := (nI t9)) dJ6_numberOfTrailingZeros_0f7a4_15 (by have h9 : t9 = 0 := (ntz_zero t9 ht9 c_9); rw [h9]; decide) ?_
    exact z_endi X hr [] [] rfl rfl rfl ⟨rfl, rfl⟩ dJ6_numberOfTrailingZeros_0f7a4_16
theorem lo_zero {n t : Nat} (h : n % 2 ^ 32 = 0) (hb : n.testBit t = true) : 32 ≤ t := by
  rcases Nat.lt_or_ge t 32 with h9 | h9
  · have h8 : (n % 2 ^ 32).testBit t = true := by rw [Nat.testBit_mod_two_pow, hb]; simp [h9]
    rw [h, Nat.zero_testBit] at h8; cases h8
  · exact h9
theorem lo_some {n t : Nat} (h : ¬ n % 2 ^ 32 = 0) (hlo : ∀ i, i < t → n.testBit i = false) : t < 32 := by
  rcases Nat.lt_or_ge t 32 with h9 | h9
  · exact h9
  · refine absurd (Nat.eq_of_testBit_eq fun i => ?_) h
    rw [Nat.testBit_mod_two_pow, Nat.zero_testBit]
    by_cases hi : i < 32
    · rw [hlo i (by omega)]; simp
    · simp [hi]
theorem hi_lo {n t : Nat} (hlo : ∀ i, i < t → n.testBit i = false) : ∀ i, i < t - 32 → (n / 2 ^ 32).testBit i = false := fun i hi => by rw [Nat.testBit_div_two_pow]; exact hlo _ (by omega)
theorem hi_bit {n t : Nat} (h : 32 ≤ t) (hb : n.testBit t = true) : (n / 2 ^ 32).testBit (t - 32) = true := by rw [Nat.testBit_div_two_pow, Nat.sub_add_cancel h]; exact hb
theorem lo_lo {n t : Nat} (ht : t < 32) (hlo : ∀ i, i < t → n.testBit i = false) : ∀ i, i < t → (n % 2 ^ 32).testBit i = false := fun i hi => by rw [Nat.testBit_mod_two_pow, hlo i hi]; simp
theorem lo_bit {n t : Nat} (ht : t < 32) (hb : n.testBit t = true) : (n % 2 ^ 32).testBit t = true := by rw [Nat.testBit_mod_two_pow, hb]; simp [ht]
theorem pos_bit {n t : Nat} (hb : n.testBit t = true) : 0 < n := by
  rcases Nat.eq_zero_or_pos n with h | h
  · rw [h, Nat.zero_testBit] at hb; cases hb
  · exact h
theorem nI_mod0 {n : Nat} : nI (n % 2 ^ 32) = 0 ↔ n % 2 ^ 32 = 0 := by
  constructor
  · intro h
    have h2 := congrArg (fun z => z.toBitVec.toNat) h
    change (BitVec.ofNat 32 (n % 2 ^ 32)).toNat = 0 at h2
    rw [BitVec.toNat_ofNat] at h2; omega
  · intro h; rw [h]; rfl
set_option maxHeartbeats 4000000 in
set_option maxRecDepth 100000 in
/-- Long.numberOfTrailingZeros -/
theorem m_lntz (l : Launch) (D : va_G) (cy : Nat → ClassId) (O : Nat × va_E → Prop) {n9 t9 : Nat} (hn9 : n9 < 2 ^ 64) (ht9 : t9 < 64) (hlo : ∀ i, i < t9 → n9.testBit i = false) (hbit : n9.testBit t9 = true) : Ci l yJ13_numberOfTrailingZeros_95d88 (.code yJ13_numberOfTrailingZeros_95d88 cJ13_numberOfTrailingZeros_95d88 3 (some .int) :: WALL) ({ frames := 1, cells := 0, slots := 0, locals := 21 }) D cy O [.long (nL n9)] [] 0 0 (fun (r : Int32) (w : va_W) => r = nI t9 ∧ w = []) := by
  refine z_meti (by decide +kernel) rfl rfl (Nat.le_of_ble_eq_true rfl) ?_
  intro p e s m args below meth c X hr hin
  refine z_eq (ws' := []) (lv' := [(0, .long (nL n9))]) (st' := []) rfl rfl rfl ?_
  refine z_lload_n X dJ13_numberOfTrailingZeros_95d88_0 rfl (j := 0) rfl ?_
  refine z_l2i X (v := (nI (n9 % 2 ^ 32))) dJ13_numberOfTrailingZeros_95d88_1 (by rw [l2i_nL, nI_mod]) ?_
  refine z_istore_n X (lv' := [(2, .int (nI (n9 % 2 ^ 32))), (0, .long (nL n9))]) dJ13_numberOfTrailingZeros_95d88_2 rfl (by decide) rfl ?_
  refine z_iload_n X dJ13_numberOfTrailingZeros_95d88_3 rfl (j := 0) rfl ?_
  refine z_if_ne X (tgt := 21) dJ13_numberOfTrailingZeros_95d88_4 (by decide) (fun c_4 => ?_) (fun c_4 => ?_)
  · skip
    have ht := lo_some (fun z => c_4 (nI_mod0.mpr z)) hlo
    refine z_iload_n X dJ13_numberOfTrailingZeros_95d88_21 rfl (j := 0) rfl ?_
    refine z_reti X (as := [.int (nI (n9 % 2 ^ 32))]) (wc := []) (wr := []) (rest := []) (fun H9 locs9 ls9 hP9 hS9 hl9 hb9 hp9 => va_runS (As := [.int (nI (n9 % 2 ^ 32))]) (rest := []) X.fix (m_intz l D cy O (n9 := n9 % 2 ^ 32) (t9 := t9) (pos_bit (lo_bit ht hbit)) ht (lo_lo ht hlo) (lo_bit ht hbit) H9.size) (va_cwS 1 X.hts (gS ml_J13_311 sm_J6_numberOfTrailingZeros_0f7a4 ni_J6 cd_J6_numberOfTrailingZeros_0f7a4) rfl rfl rfl (by decide +kernel) ⟨Nat.le_of_ble_eq_true rfl, Nat.le_of_ble_eq_true rfl⟩) ⟨hb9, hp9⟩ rfl rfl hl9.1 rfl (lv_room (Nat.le_of_ble_eq_true rfl)) dJ13_numberOfTrailingZeros_95d88_22 ⟨Nat.le_of_ble_eq_true rfl, Nat.le_of_ble_eq_true rfl⟩) [] [] rfl rfl rfl rfl rfl (by decide) (fun _ h => Or.inl h) (fun r1 w2 h3 => ?_)
    obtain ⟨rfl, rfl⟩ := h3
    refine z_eq (ws' := []) (lv' := [(2, .int (nI (n9 % 2 ^ 32))), (0, .long (nL n9))]) (st' := [.int (nI t9)]) rfl rfl rfl ?_
    refine z_widen (k' := 0) (n' := 0) (Nat.le_refl _) (Nat.le_refl _) ?_
    exact z_endi X hr [] [] rfl rfl rfl ⟨rfl, rfl⟩ dJ13_numberOfTrailingZeros_95d88_25
  · skip
    have hz := nI_mod0.mp c_4
    have h32 := lo_zero hz hbit
    refine z_bipush X (v := 32) dJ13_numberOfTrailingZeros_95d88_7 (by decide) ?_
    refine z_lload_n X dJ13_numberOfTrailingZeros_95d88_9 rfl (j := 1) rfl ?_
    refine z_bipush X (v := 32) dJ13_numberOfTrailingZeros_95d88_10 (by decide) ?_
    refine z_lushr X (v := (nL (n9 / 2 ^ 32))) dJ13_numberOfTrailingZeros_95d88_12 (ushr_nL (j := 32) hn9 (by decide)) ?_
    refine z_l2i X (v := (nI (n9 / 2 ^ 32))) dJ13_numberOfTrailingZeros_95d88_13 (l2i_nL _) ?_
    refine z_reti X (as := [.int (nI (n9 / 2 ^ 32))]) (wc := []) (wr := []) (rest := [.int 32]) (fun H9 locs9 ls9 hP9 hS9 hl9 hb9 hp9 => va_runS (As := [.int (nI (n9 / 2 ^ 32))]) (rest := [.int 32]) X.fix (m_intz l D cy O (n9 := n9 / 2 ^ 32) (t9 := t9 - 32) (pos_bit (hi_bit h32 hbit)) (by omega) (hi_lo hlo) (hi_bit h32 hbit) H9.size) (va_cwS 1 X.hts (gS ml_J13_311 sm_J6_numberOfTrailingZeros_0f7a4 ni_J6 cd_J6_numberOfTrailingZeros_0f7a4) rfl rfl rfl (by decide +kernel) ⟨Nat.le_of_ble_eq_true rfl, Nat.le_of_ble_eq_true rfl⟩) ⟨hb9, hp9⟩ rfl rfl hl9.1 rfl (lv_room (Nat.le_of_ble_eq_true rfl)) dJ13_numberOfTrailingZeros_95d88_14 ⟨Nat.le_of_ble_eq_true rfl, Nat.le_of_ble_eq_true rfl⟩) [] [] rfl rfl rfl rfl rfl (by decide) (fun _ h => Or.inl h) (fun r4 w5 h6 => ?_)
    obtain ⟨rfl, rfl⟩ := h6
    refine z_eq (ws' := []) (lv' := [(2, .int (nI (n9 % 2 ^ 32))), (0, .long (nL n9))]) (st' := [.int (nI (t9 - 32)), .int 32]) rfl rfl rfl ?_
    refine z_widen (k' := 0) (n' := 0) (Nat.le_refl _) (Nat.le_refl _) ?_
    refine z_iadd X (v := (nI t9)) dJ13_numberOfTrailingZeros_95d88_17 (by rw [show t9 = 32 + (t9 - 32) by omega, Nat.add_sub_cancel_left]; exact nI_add 32 (t9 - 32)) ?_
    refine z_goto X (tgt := 25) dJ13_numberOfTrailingZeros_95d88_18 (by decide) ?_
    exact z_endi X hr [] [] rfl rfl rfl ⟨rfl, rfl⟩ dJ13_numberOfTrailingZeros_95d88_25
