theorem dX4_init_0 : decode cX4_init 0 = .ok (.aload_n 0, 1) := by decide +kernel
theorem dX4_init_1 : decode cX4_init 1 = .ok (.invokespecial 3, 3) := by decide +kernel
theorem dX4_init_4 : decode cX4_init 4 = .ok (.aload_n 0, 1) := by decide +kernel
theorem dX4_init_5 : decode cX4_init 5 = .ok (.bipush 25, 2) := by decide +kernel
theorem dX4_init_7 : decode cX4_init 7 = .ok (.newarray .int, 2) := by decide +kernel
theorem dX4_init_9 : decode cX4_init 9 = .ok (.putfield 9, 3) := by decide +kernel
theorem dX4_init_12 : decode cX4_init 12 = .ok (.aload_n 0, 1) := by decide +kernel
theorem dX4_init_13 : decode cX4_init 13 = .ok (.iconst 0, 1) := by decide +kernel
theorem dX4_init_14 : decode cX4_init 14 = .ok (.putfield 15, 3) := by decide +kernel
theorem dX4_init_17 : decode cX4_init 17 = .ok (.aload_n 0, 1) := by decide +kernel
theorem dX4_init_18 : decode cX4_init 18 = .ok (.iconst 0, 1) := by decide +kernel
theorem dX4_init_19 : decode cX4_init 19 = .ok (.putfield 19, 3) := by decide +kernel
theorem dX4_init_22 : decode cX4_init 22 = .ok (.aload_n 0, 1) := by decide +kernel
theorem dX4_init_23 : decode cX4_init 23 = .ok (.bipush 24, 2) := by decide +kernel
theorem dX4_init_25 : decode cX4_init 25 = .ok (.newarray .int, 2) := by decide +kernel
theorem dX4_init_27 : decode cX4_init 27 = .ok (.putfield 22, 3) := by decide +kernel
theorem dX4_init_30 : decode cX4_init 30 = .ok (.aload_n 0, 1) := by decide +kernel
theorem dX4_init_31 : decode cX4_init 31 = .ok (.iconst 3, 1) := by decide +kernel
theorem dX4_init_32 : decode cX4_init 32 = .ok (.newarray .int, 2) := by decide +kernel
theorem dX4_init_34 : decode cX4_init 34 = .ok (.putfield 25, 3) := by decide +kernel
theorem dX4_init_37 : decode cX4_init 37 = .ok (.aload_n 0, 1) := by decide +kernel
theorem dX4_init_38 : decode cX4_init 38 = .ok (.iload_n 1, 1) := by decide +kernel
theorem dX4_init_39 : decode cX4_init 39 = .ok (.putfield 28, 3) := by decide +kernel
theorem dX4_init_42 : decode cX4_init 42 = .ok (.return_, 1) := by decide +kernel
theorem dX4_has_0 : decode cX4_has 0 = .ok (.aload_n 0, 1) := by decide +kernel
theorem dX4_has_1 : decode cX4_has 1 = .ok (.iload_n 1, 1) := by decide +kernel
theorem dX4_has_2 : decode cX4_has 2 = .ok (.invokevirtual 31, 3) := by decide +kernel
theorem dX4_has_5 : decode cX4_has 5 = .ok (.istore_n 2, 1) := by decide +kernel
theorem dX4_has_6 : decode cX4_has 6 = .ok (.iload_n 2, 1) := by decide +kernel
theorem dX4_has_7 : decode cX4_has 7 = .ok (.aload_n 0, 1) := by decide +kernel
theorem dX4_has_8 : decode cX4_has 8 = .ok (.getfield 15, 3) := by decide +kernel
theorem dX4_has_11 : decode cX4_has 11 = .ok (.if_icmp .ge 17, 3) := by decide +kernel
theorem dX4_has_14 : decode cX4_has 14 = .ok (.aload_n 0, 1) := by decide +kernel
theorem dX4_has_15 : decode cX4_has 15 = .ok (.getfield 9, 3) := by decide +kernel
theorem dX4_has_18 : decode cX4_has 18 = .ok (.iload_n 2, 1) := by decide +kernel
theorem dX4_has_19 : decode cX4_has 19 = .ok (.iaload, 1) := by decide +kernel
theorem dX4_has_20 : decode cX4_has 20 = .ok (.iload_n 1, 1) := by decide +kernel
theorem dX4_has_21 : decode cX4_has 21 = .ok (.if_icmp .ne 7, 3) := by decide +kernel
theorem dX4_has_24 : decode cX4_has 24 = .ok (.iconst 1, 1) := by decide +kernel
theorem dX4_has_25 : decode cX4_has 25 = .ok (.goto 4, 3) := by decide +kernel
theorem dX4_has_28 : decode cX4_has 28 = .ok (.iconst 0, 1) := by decide +kernel
theorem dX4_has_29 : decode cX4_has 29 = .ok (.ireturn, 1) := by decide +kernel
theorem dX4_toggle_0 : decode cX4_toggle 0 = .ok (.aload_n 0, 1) := by decide +kernel
theorem dX4_toggle_1 : decode cX4_toggle 1 = .ok (.iload_n 1, 1) := by decide +kernel
theorem dX4_toggle_2 : decode cX4_toggle 2 = .ok (.invokevirtual 31, 3) := by decide +kernel
theorem dX4_toggle_5 : decode cX4_toggle 5 = .ok (.istore_n 2, 1) := by decide +kernel
theorem dX4_toggle_6 : decode cX4_toggle 6 = .ok (.iload_n 2, 1) := by decide +kernel
theorem dX4_toggle_7 : decode cX4_toggle 7 = .ok (.aload_n 0, 1) := by decide +kernel
theorem dX4_toggle_8 : decode cX4_toggle 8 = .ok (.getfield 15, 3) := by decide +kernel
theorem dX4_toggle_11 : decode cX4_toggle 11 = .ok (.if_icmp .ge 56, 3) := by decide +kernel
theorem dX4_toggle_14 : decode cX4_toggle 14 = .ok (.aload_n 0, 1) := by decide +kernel
theorem dX4_toggle_15 : decode cX4_toggle 15 = .ok (.getfield 9, 3) := by decide +kernel
theorem dX4_toggle_18 : decode cX4_toggle 18 = .ok (.iload_n 2, 1) := by decide +kernel
theorem dX4_toggle_19 : decode cX4_toggle 19 = .ok (.iaload, 1) := by decide +kernel
theorem dX4_toggle_20 : decode cX4_toggle 20 = .ok (.iload_n 1, 1) := by decide +kernel
theorem dX4_toggle_21 : decode cX4_toggle 21 = .ok (.if_icmp .ne 46, 3) := by decide +kernel
theorem dX4_toggle_24 : decode cX4_toggle 24 = .ok (.aload_n 0, 1) := by decide +kernel
theorem dX4_toggle_25 : decode cX4_toggle 25 = .ok (.dup, 1) := by decide +kernel
theorem dX4_toggle_26 : decode cX4_toggle 26 = .ok (.getfield 15, 3) := by decide +kernel
theorem dX4_toggle_29 : decode cX4_toggle 29 = .ok (.iconst 1, 1) := by decide +kernel
theorem dX4_toggle_30 : decode cX4_toggle 30 = .ok (.isub, 1) := by decide +kernel
theorem dX4_toggle_31 : decode cX4_toggle 31 = .ok (.putfield 15, 3) := by decide +kernel
theorem dX4_toggle_34 : decode cX4_toggle 34 = .ok (.iload_n 2, 1) := by decide +kernel
theorem dX4_toggle_35 : decode cX4_toggle 35 = .ok (.istore_n 3, 1) := by decide +kernel
theorem dX4_toggle_36 : decode cX4_toggle 36 = .ok (.iload_n 3, 1) := by decide +kernel
theorem dX4_toggle_37 : decode cX4_toggle 37 = .ok (.aload_n 0, 1) := by decide +kernel
theorem dX4_toggle_38 : decode cX4_toggle 38 = .ok (.getfield 15, 3) := by decide +kernel
theorem dX4_toggle_41 : decode cX4_toggle 41 = .ok (.if_icmp .ge 23, 3) := by decide +kernel
theorem dX4_toggle_44 : decode cX4_toggle 44 = .ok (.aload_n 0, 1) := by decide +kernel
theorem dX4_toggle_45 : decode cX4_toggle 45 = .ok (.getfield 9, 3) := by decide +kernel
theorem dX4_toggle_48 : decode cX4_toggle 48 = .ok (.iload_n 3, 1) := by decide +kernel
theorem dX4_toggle_49 : decode cX4_toggle 49 = .ok (.aload_n 0, 1) := by decide +kernel
theorem dX4_toggle_50 : decode cX4_toggle 50 = .ok (.getfield 9, 3) := by decide +kernel
theorem dX4_toggle_53 : decode cX4_toggle 53 = .ok (.iload_n 3, 1) := by decide +kernel
theorem dX4_toggle_54 : decode cX4_toggle 54 = .ok (.iconst 1, 1) := by decide +kernel
theorem dX4_toggle_55 : decode cX4_toggle 55 = .ok (.iadd, 1) := by decide +kernel
theorem dX4_toggle_56 : decode cX4_toggle 56 = .ok (.iaload, 1) := by decide +kernel
theorem dX4_toggle_57 : decode cX4_toggle 57 = .ok (.iastore, 1) := by decide +kernel
theorem dX4_toggle_58 : decode cX4_toggle 58 = .ok (.iinc 3 1, 3) := by decide +kernel
theorem dX4_toggle_61 : decode cX4_toggle 61 = .ok (.goto (-25), 3) := by decide +kernel
theorem dX4_toggle_64 : decode cX4_toggle 64 = .ok (.goto 62, 3) := by decide +kernel
theorem dX4_toggle_67 : decode cX4_toggle 67 = .ok (.aload_n 0, 1) := by decide +kernel
theorem dX4_toggle_68 : decode cX4_toggle 68 = .ok (.getfield 15, 3) := by decide +kernel
theorem dX4_toggle_71 : decode cX4_toggle 71 = .ok (.aload_n 0, 1) := by decide +kernel
theorem dX4_toggle_72 : decode cX4_toggle 72 = .ok (.getfield 9, 3) := by decide +kernel
theorem dX4_toggle_75 : decode cX4_toggle 75 = .ok (.arraylength, 1) := by decide +kernel
theorem dX4_toggle_76 : decode cX4_toggle 76 = .ok (.if_icmp .ge 50, 3) := by decide +kernel
theorem dX4_toggle_79 : decode cX4_toggle 79 = .ok (.aload_n 0, 1) := by decide +kernel
theorem dX4_toggle_80 : decode cX4_toggle 80 = .ok (.getfield 15, 3) := by decide +kernel
theorem dX4_toggle_83 : decode cX4_toggle 83 = .ok (.istore_n 3, 1) := by decide +kernel
theorem dX4_toggle_84 : decode cX4_toggle 84 = .ok (.iload_n 3, 1) := by decide +kernel
theorem dX4_toggle_85 : decode cX4_toggle 85 = .ok (.iload_n 2, 1) := by decide +kernel
theorem dX4_toggle_86 : decode cX4_toggle 86 = .ok (.if_icmp .le 23, 3) := by decide +kernel
theorem dX4_toggle_89 : decode cX4_toggle 89 = .ok (.aload_n 0, 1) := by decide +kernel
theorem dX4_toggle_90 : decode cX4_toggle 90 = .ok (.getfield 9, 3) := by decide +kernel
theorem dX4_toggle_93 : decode cX4_toggle 93 = .ok (.iload_n 3, 1) := by decide +kernel
theorem dX4_toggle_94 : decode cX4_toggle 94 = .ok (.aload_n 0, 1) := by decide +kernel
theorem dX4_toggle_95 : decode cX4_toggle 95 = .ok (.getfield 9, 3) := by decide +kernel
theorem dX4_toggle_98 : decode cX4_toggle 98 = .ok (.iload_n 3, 1) := by decide +kernel
theorem dX4_toggle_99 : decode cX4_toggle 99 = .ok (.iconst 1, 1) := by decide +kernel
theorem dX4_toggle_100 : decode cX4_toggle 100 = .ok (.isub, 1) := by decide +kernel
theorem dX4_toggle_101 : decode cX4_toggle 101 = .ok (.iaload, 1) := by decide +kernel
theorem dX4_toggle_102 : decode cX4_toggle 102 = .ok (.iastore, 1) := by decide +kernel
theorem dX4_toggle_103 : decode cX4_toggle 103 = .ok (.iinc 3 (-1), 3) := by decide +kernel
theorem dX4_toggle_106 : decode cX4_toggle 106 = .ok (.goto (-22), 3) := by decide +kernel
theorem dX4_toggle_109 : decode cX4_toggle 109 = .ok (.aload_n 0, 1) := by decide +kernel
theorem dX4_toggle_110 : decode cX4_toggle 110 = .ok (.getfield 9, 3) := by decide +kernel
theorem dX4_toggle_113 : decode cX4_toggle 113 = .ok (.iload_n 2, 1) := by decide +kernel
theorem dX4_toggle_114 : decode cX4_toggle 114 = .ok (.iload_n 1, 1) := by decide +kernel
theorem dX4_toggle_115 : decode cX4_toggle 115 = .ok (.iastore, 1) := by decide +kernel
theorem dX4_toggle_116 : decode cX4_toggle 116 = .ok (.aload_n 0, 1) := by decide +kernel
theorem dX4_toggle_117 : decode cX4_toggle 117 = .ok (.dup, 1) := by decide +kernel
theorem dX4_toggle_118 : decode cX4_toggle 118 = .ok (.getfield 15, 3) := by decide +kernel
theorem dX4_toggle_121 : decode cX4_toggle 121 = .ok (.iconst 1, 1) := by decide +kernel
theorem dX4_toggle_122 : decode cX4_toggle 122 = .ok (.iadd, 1) := by decide +kernel
theorem dX4_toggle_123 : decode cX4_toggle 123 = .ok (.putfield 15, 3) := by decide +kernel
theorem dX4_toggle_126 : decode cX4_toggle 126 = .ok (.aload_n 0, 1) := by decide +kernel
theorem dX4_toggle_127 : decode cX4_toggle 127 = .ok (.invokevirtual 35, 3) := by decide +kernel
theorem dX4_toggle_130 : decode cX4_toggle 130 = .ok (.return_, 1) := by decide +kernel
theorem dX4_valueAt_0 : decode cX4_valueAt 0 = .ok (.aload_n 0, 1) := by decide +kernel
theorem dX4_valueAt_1 : decode cX4_valueAt 1 = .ok (.getfield 9, 3) := by decide +kernel
theorem dX4_valueAt_4 : decode cX4_valueAt 4 = .ok (.iload_n 1, 1) := by decide +kernel
theorem dX4_valueAt_5 : decode cX4_valueAt 5 = .ok (.iaload, 1) := by decide +kernel
theorem dX4_valueAt_6 : decode cX4_valueAt 6 = .ok (.iconst 3, 1) := by decide +kernel
theorem dX4_valueAt_7 : decode cX4_valueAt 7 = .ok (.aload_n 0, 1) := by decide +kernel
theorem dX4_valueAt_8 : decode cX4_valueAt 8 = .ok (.getfield 28, 3) := by decide +kernel
theorem dX4_valueAt_11 : decode cX4_valueAt 11 = .ok (.iconst 1, 1) := by decide +kernel
theorem dX4_valueAt_12 : decode cX4_valueAt 12 = .ok (.isub, 1) := by decide +kernel
theorem dX4_valueAt_13 : decode cX4_valueAt 13 = .ok (.iload_n 2, 1) := by decide +kernel
theorem dX4_valueAt_14 : decode cX4_valueAt 14 = .ok (.isub, 1) := by decide +kernel
theorem dX4_valueAt_15 : decode cX4_valueAt 15 = .ok (.imul, 1) := by decide +kernel
theorem dX4_valueAt_16 : decode cX4_valueAt 16 = .ok (.ishr, 1) := by decide +kernel
theorem dX4_valueAt_17 : decode cX4_valueAt 17 = .ok (.bipush 7, 2) := by decide +kernel
theorem dX4_valueAt_19 : decode cX4_valueAt 19 = .ok (.iand, 1) := by decide +kernel
theorem dX4_valueAt_20 : decode cX4_valueAt 20 = .ok (.ireturn, 1) := by decide +kernel
theorem dX4_placeFor_0 : decode cX4_placeFor 0 = .ok (.iconst 0, 1) := by decide +kernel
theorem dX4_placeFor_1 : decode cX4_placeFor 1 = .ok (.istore_n 2, 1) := by decide +kernel
theorem dX4_placeFor_2 : decode cX4_placeFor 2 = .ok (.iload_n 2, 1) := by decide +kernel
theorem dX4_placeFor_3 : decode cX4_placeFor 3 = .ok (.aload_n 0, 1) := by decide +kernel
theorem dX4_placeFor_4 : decode cX4_placeFor 4 = .ok (.getfield 15, 3) := by decide +kernel
theorem dX4_placeFor_7 : decode cX4_placeFor 7 = .ok (.if_icmp .ge 19, 3) := by decide +kernel
theorem dX4_placeFor_10 : decode cX4_placeFor 10 = .ok (.aload_n 0, 1) := by decide +kernel
theorem dX4_placeFor_11 : decode cX4_placeFor 11 = .ok (.getfield 9, 3) := by decide +kernel
theorem dX4_placeFor_14 : decode cX4_placeFor 14 = .ok (.iload_n 2, 1) := by decide +kernel
theorem dX4_placeFor_15 : decode cX4_placeFor 15 = .ok (.iaload, 1) := by decide +kernel
theorem dX4_placeFor_16 : decode cX4_placeFor 16 = .ok (.iload_n 1, 1) := by decide +kernel
theorem dX4_placeFor_17 : decode cX4_placeFor 17 = .ok (.if_icmp .ge 9, 3) := by decide +kernel
theorem dX4_placeFor_20 : decode cX4_placeFor 20 = .ok (.iinc 2 1, 3) := by decide +kernel
theorem dX4_placeFor_23 : decode cX4_placeFor 23 = .ok (.goto (-21), 3) := by decide +kernel
theorem dX4_placeFor_26 : decode cX4_placeFor 26 = .ok (.iload_n 2, 1) := by decide +kernel
theorem dX4_placeFor_27 : decode cX4_placeFor 27 = .ok (.ireturn, 1) := by decide +kernel
theorem dX4_mark_0 : decode cX4_mark 0 = .ok (.aload_n 0, 1) := by decide +kernel
theorem dX4_mark_1 : decode cX4_mark 1 = .ok (.iconst 0, 1) := by decide +kernel
theorem dX4_mark_2 : decode cX4_mark 2 = .ok (.putfield 19, 3) := by decide +kernel
theorem dX4_mark_5 : decode cX4_mark 5 = .ok (.iconst 0, 1) := by decide +kernel
theorem dX4_mark_6 : decode cX4_mark 6 = .ok (.istore_n 1, 1) := by decide +kernel
theorem dX4_mark_7 : decode cX4_mark 7 = .ok (.iload_n 1, 1) := by decide +kernel
theorem dX4_mark_8 : decode cX4_mark 8 = .ok (.aload_n 0, 1) := by decide +kernel
theorem dX4_mark_9 : decode cX4_mark 9 = .ok (.getfield 22, 3) := by decide +kernel
theorem dX4_mark_12 : decode cX4_mark 12 = .ok (.arraylength, 1) := by decide +kernel
theorem dX4_mark_13 : decode cX4_mark 13 = .ok (.if_icmp .ge 16, 3) := by decide +kernel
theorem dX4_mark_16 : decode cX4_mark 16 = .ok (.aload_n 0, 1) := by decide +kernel
theorem dX4_mark_17 : decode cX4_mark 17 = .ok (.getfield 22, 3) := by decide +kernel
theorem dX4_mark_20 : decode cX4_mark 20 = .ok (.iload_n 1, 1) := by decide +kernel
theorem dX4_mark_21 : decode cX4_mark 21 = .ok (.iconst 0, 1) := by decide +kernel
theorem dX4_mark_22 : decode cX4_mark 22 = .ok (.iastore, 1) := by decide +kernel
theorem dX4_mark_23 : decode cX4_mark 23 = .ok (.iinc 1 1, 3) := by decide +kernel
theorem dX4_mark_26 : decode cX4_mark 26 = .ok (.goto (-19), 3) := by decide +kernel
theorem dX4_mark_29 : decode cX4_mark 29 = .ok (.iconst 0, 1) := by decide +kernel
theorem dX4_mark_30 : decode cX4_mark 30 = .ok (.istore_n 1, 1) := by decide +kernel
theorem dX4_mark_31 : decode cX4_mark 31 = .ok (.iload_n 1, 1) := by decide +kernel
theorem dX4_mark_32 : decode cX4_mark 32 = .ok (.aload_n 0, 1) := by decide +kernel
theorem dX4_mark_33 : decode cX4_mark 33 = .ok (.getfield 25, 3) := by decide +kernel
theorem dX4_mark_36 : decode cX4_mark 36 = .ok (.arraylength, 1) := by decide +kernel
theorem dX4_mark_37 : decode cX4_mark 37 = .ok (.if_icmp .ge 16, 3) := by decide +kernel
theorem dX4_mark_40 : decode cX4_mark 40 = .ok (.aload_n 0, 1) := by decide +kernel
theorem dX4_mark_41 : decode cX4_mark 41 = .ok (.getfield 25, 3) := by decide +kernel
theorem dX4_mark_44 : decode cX4_mark 44 = .ok (.iload_n 1, 1) := by decide +kernel
theorem dX4_mark_45 : decode cX4_mark 45 = .ok (.iconst 0, 1) := by decide +kernel
theorem dX4_mark_46 : decode cX4_mark 46 = .ok (.iastore, 1) := by decide +kernel
theorem dX4_mark_47 : decode cX4_mark 47 = .ok (.iinc 1 1, 3) := by decide +kernel
theorem dX4_mark_50 : decode cX4_mark 50 = .ok (.goto (-19), 3) := by decide +kernel
theorem dX4_mark_53 : decode cX4_mark 53 = .ok (.iconst 0, 1) := by decide +kernel
theorem dX4_mark_54 : decode cX4_mark 54 = .ok (.istore_n 1, 1) := by decide +kernel
theorem dX4_mark_55 : decode cX4_mark 55 = .ok (.iload_n 1, 1) := by decide +kernel
theorem dX4_mark_56 : decode cX4_mark 56 = .ok (.aload_n 0, 1) := by decide +kernel
theorem dX4_mark_57 : decode cX4_mark 57 = .ok (.getfield 15, 3) := by decide +kernel
theorem dX4_mark_60 : decode cX4_mark 60 = .ok (.if_icmp .ge 31, 3) := by decide +kernel
theorem dX4_mark_63 : decode cX4_mark 63 = .ok (.iconst 0, 1) := by decide +kernel
theorem dX4_mark_64 : decode cX4_mark 64 = .ok (.istore_n 2, 1) := by decide +kernel
theorem dX4_mark_65 : decode cX4_mark 65 = .ok (.iload_n 2, 1) := by decide +kernel
theorem dX4_mark_66 : decode cX4_mark 66 = .ok (.aload_n 0, 1) := by decide +kernel
theorem dX4_mark_67 : decode cX4_mark 67 = .ok (.getfield 28, 3) := by decide +kernel
theorem dX4_mark_70 : decode cX4_mark 70 = .ok (.if_icmp .ge 15, 3) := by decide +kernel
theorem dX4_mark_73 : decode cX4_mark 73 = .ok (.aload_n 0, 1) := by decide +kernel
theorem dX4_mark_74 : decode cX4_mark 74 = .ok (.iload_n 1, 1) := by decide +kernel
theorem dX4_mark_75 : decode cX4_mark 75 = .ok (.iload_n 2, 1) := by decide +kernel
theorem dX4_mark_76 : decode cX4_mark 76 = .ok (.invokevirtual 38, 3) := by decide +kernel
theorem dX4_mark_79 : decode cX4_mark 79 = .ok (.iinc 2 1, 3) := by decide +kernel
theorem dX4_mark_82 : decode cX4_mark 82 = .ok (.goto (-17), 3) := by decide +kernel
theorem dX4_mark_85 : decode cX4_mark 85 = .ok (.iinc 1 1, 3) := by decide +kernel
theorem dX4_mark_88 : decode cX4_mark 88 = .ok (.goto (-33), 3) := by decide +kernel
theorem dX4_mark_91 : decode cX4_mark 91 = .ok (.return_, 1) := by decide +kernel
theorem dX4_markPlace_0 : decode cX4_markPlace 0 = .ok (.aload_n 0, 1) := by decide +kernel
theorem dX4_markPlace_1 : decode cX4_markPlace 1 = .ok (.iload_n 1, 1) := by decide +kernel
theorem dX4_markPlace_2 : decode cX4_markPlace 2 = .ok (.iload_n 2, 1) := by decide +kernel
theorem dX4_markPlace_3 : decode cX4_markPlace 3 = .ok (.invokevirtual 42, 3) := by decide +kernel
theorem dX4_markPlace_6 : decode cX4_markPlace 6 = .ok (.istore_n 3, 1) := by decide +kernel
theorem dX4_markPlace_7 : decode cX4_markPlace 7 = .ok (.aload_n 0, 1) := by decide +kernel
theorem dX4_markPlace_8 : decode cX4_markPlace 8 = .ok (.dup, 1) := by decide +kernel
theorem dX4_markPlace_9 : decode cX4_markPlace 9 = .ok (.getfield 19, 3) := by decide +kernel
theorem dX4_markPlace_12 : decode cX4_markPlace 12 = .ok (.iconst 1, 1) := by decide +kernel
theorem dX4_markPlace_13 : decode cX4_markPlace 13 = .ok (.iload_n 3, 1) := by decide +kernel
theorem dX4_markPlace_14 : decode cX4_markPlace 14 = .ok (.ishl, 1) := by decide +kernel
theorem dX4_markPlace_15 : decode cX4_markPlace 15 = .ok (.ior, 1) := by decide +kernel
theorem dX4_markPlace_16 : decode cX4_markPlace 16 = .ok (.putfield 19, 3) := by decide +kernel
theorem dX4_markPlace_19 : decode cX4_markPlace 19 = .ok (.aload_n 0, 1) := by decide +kernel
theorem dX4_markPlace_20 : decode cX4_markPlace 20 = .ok (.getfield 22, 3) := by decide +kernel
theorem dX4_markPlace_23 : decode cX4_markPlace 23 = .ok (.iload_n 2, 1) := by decide +kernel
theorem dX4_markPlace_24 : decode cX4_markPlace 24 = .ok (.bipush 8, 2) := by decide +kernel
theorem dX4_markPlace_26 : decode cX4_markPlace 26 = .ok (.imul, 1) := by decide +kernel
theorem dX4_markPlace_27 : decode cX4_markPlace 27 = .ok (.iload_n 3, 1) := by decide +kernel
theorem dX4_markPlace_28 : decode cX4_markPlace 28 = .ok (.iadd, 1) := by decide +kernel
theorem dX4_markPlace_29 : decode cX4_markPlace 29 = .ok (.dup2, 1) := by decide +kernel
theorem dX4_markPlace_30 : decode cX4_markPlace 30 = .ok (.iaload, 1) := by decide +kernel
theorem dX4_markPlace_31 : decode cX4_markPlace 31 = .ok (.iconst 1, 1) := by decide +kernel
theorem dX4_markPlace_32 : decode cX4_markPlace 32 = .ok (.iload_n 1, 1) := by decide +kernel
theorem dX4_markPlace_33 : decode cX4_markPlace 33 = .ok (.ishl, 1) := by decide +kernel
theorem dX4_markPlace_34 : decode cX4_markPlace 34 = .ok (.ior, 1) := by decide +kernel
theorem dX4_markPlace_35 : decode cX4_markPlace 35 = .ok (.iastore, 1) := by decide +kernel
theorem dX4_markPlace_36 : decode cX4_markPlace 36 = .ok (.iconst 0, 1) := by decide +kernel
theorem dX4_markPlace_37 : decode cX4_markPlace 37 = .ok (.istore 4, 2) := by decide +kernel
theorem dX4_markPlace_39 : decode cX4_markPlace 39 = .ok (.iload 4, 2) := by decide +kernel
theorem dX4_markPlace_41 : decode cX4_markPlace 41 = .ok (.iload_n 2, 1) := by decide +kernel
theorem dX4_markPlace_42 : decode cX4_markPlace 42 = .ok (.if_icmp .ge 37, 3) := by decide +kernel
theorem dX4_markPlace_45 : decode cX4_markPlace 45 = .ok (.aload_n 0, 1) := by decide +kernel
theorem dX4_markPlace_46 : decode cX4_markPlace 46 = .ok (.iload_n 1, 1) := by decide +kernel
theorem dX4_markPlace_47 : decode cX4_markPlace 47 = .ok (.iload 4, 2) := by decide +kernel
theorem dX4_markPlace_49 : decode cX4_markPlace 49 = .ok (.invokevirtual 42, 3) := by decide +kernel
theorem dX4_markPlace_52 : decode cX4_markPlace 52 = .ok (.iload_n 3, 1) := by decide +kernel
theorem dX4_markPlace_53 : decode cX4_markPlace 53 = .ok (.if_icmp .ne 20, 3) := by decide +kernel
theorem dX4_markPlace_56 : decode cX4_markPlace 56 = .ok (.aload_n 0, 1) := by decide +kernel
theorem dX4_markPlace_57 : decode cX4_markPlace 57 = .ok (.getfield 25, 3) := by decide +kernel
theorem dX4_markPlace_60 : decode cX4_markPlace 60 = .ok (.iload_n 2, 1) := by decide +kernel
theorem dX4_markPlace_61 : decode cX4_markPlace 61 = .ok (.iload 4, 2) := by decide +kernel
theorem dX4_markPlace_63 : decode cX4_markPlace 63 = .ok (.iadd, 1) := by decide +kernel
theorem dX4_markPlace_64 : decode cX4_markPlace 64 = .ok (.iconst 1, 1) := by decide +kernel
theorem dX4_markPlace_65 : decode cX4_markPlace 65 = .ok (.isub, 1) := by decide +kernel
theorem dX4_markPlace_66 : decode cX4_markPlace 66 = .ok (.dup2, 1) := by decide +kernel
theorem dX4_markPlace_67 : decode cX4_markPlace 67 = .ok (.iaload, 1) := by decide +kernel
theorem dX4_markPlace_68 : decode cX4_markPlace 68 = .ok (.iconst 1, 1) := by decide +kernel
theorem dX4_markPlace_69 : decode cX4_markPlace 69 = .ok (.iload_n 1, 1) := by decide +kernel
theorem dX4_markPlace_70 : decode cX4_markPlace 70 = .ok (.ishl, 1) := by decide +kernel
theorem dX4_markPlace_71 : decode cX4_markPlace 71 = .ok (.ior, 1) := by decide +kernel
theorem dX4_markPlace_72 : decode cX4_markPlace 72 = .ok (.iastore, 1) := by decide +kernel
theorem dX4_markPlace_73 : decode cX4_markPlace 73 = .ok (.iinc 4 1, 3) := by decide +kernel
theorem dX4_markPlace_76 : decode cX4_markPlace 76 = .ok (.goto (-37), 3) := by decide +kernel
theorem dX4_markPlace_79 : decode cX4_markPlace 79 = .ok (.return_, 1) := by decide +kernel
set_option maxHeartbeats 4000000 in
set_option maxRecDepth 100000 in
/-- valueAt(fact, place) -/
theorem m_valueAt (l : Launch) (D : va_G) (cy : Nat → ClassId) (O : Nat × va_E → Prop) {a ar P i u v : Nat} {v2 v3 v4 v5 : Value} {f : Nat → Int32} (hO : O (a, .inr (4, [.int (nI P), .ref ar, v2, v3, v4, v5]))) (hR : O (ar, .inl (cy 0, 25, .inl f))) (hP : 1 ≤ P) (hP3 : P ≤ 3) (hp : u < P) (hi : i < 25) (hf : f i = nI v) (hv : v < 2 ^ 31) : Ci l yX4_valueAt (.code yX4_valueAt cX4_valueAt 3 (some .int) :: WALL) ({ frames := 0, cells := 0, slots := 0, locals := 0 }) D cy O [.ref a, .int (nI i), .int (nI u)] [] 0 0 (fun (r : Int32) (w : va_W) => r = nI (dg P v u) ∧ w = []) := by
  refine z_meti (by decide) rfl rfl (Nat.le_of_ble_eq_true rfl) ?_
  intro p e s m args below meth c X hr hin
  refine z_eq (ws' := []) (lv' := [(0, .ref a), (1, .int (nI i)), (2, .int (nI u))]) (st' := []) rfl rfl rfl ?_
  refine z_aload_n X dX4_valueAt_0 rfl (j := 0) rfl ?_
  refine z_getO X (ci := 4) (C := RX4) (T := TX4) (N := 6) inX4 hO rfl 1 (by decide) fl_X4_9 (fun _ h9 => h9) rfl dX4_valueAt_1 ?_
  refine z_iload_n X dX4_valueAt_4 rfl (j := 1) rfl ?_
  refine z_ialdO X hR (v := (nI v)) (vp_in_nI hi (by decide)) (at_nI (by omega) hf) dX4_valueAt_5 ?_
  refine z_iconst X (v := 3) dX4_valueAt_6 (by decide) ?_
  refine z_aload_n X dX4_valueAt_7 rfl (j := 0) rfl ?_
  refine z_getO X (ci := 4) (C := RX4) (T := TX4) (N := 6) inX4 hO rfl 0 (by decide) fl_X4_28 (fun _ h9 => h9) rfl dX4_valueAt_8 ?_
  refine z_iconst X (v := 1) dX4_valueAt_11 (by decide) ?_
  refine z_isub X (v := ((nI P) - 1)) dX4_valueAt_12 rfl ?_
  refine z_iload_n X dX4_valueAt_13 rfl (j := 2) rfl ?_
  refine z_isub X (v := (((nI P) - 1) - (nI u))) dX4_valueAt_14 rfl ?_
  refine z_imul X (v := (3 * (((nI P) - 1) - (nI u)))) dX4_valueAt_15 rfl ?_
  refine z_ishr X (v := ((nI v) >>> ((3 * (((nI P) - 1) - (nI u))) &&& 31))) dX4_valueAt_16 rfl ?_
  refine z_bipush X (v := 7) dX4_valueAt_17 (by decide) ?_
  refine z_iand X (v := (nI (dg P v u))) dX4_valueAt_19 (dg_row hP hP3 hp hv) ?_
  exact z_endi X hr [] [] rfl rfl rfl ⟨rfl, rfl⟩ dX4_valueAt_20
set_option maxHeartbeats 4000000 in
set_option maxRecDepth 100000 in
/-- placeFor(row): the first place whose row is not below -/
theorem m_placeFor (l : Launch) (D : va_G) (cy : Nat → ClassId) (O : Nat × va_E → Prop) {a ar M v : Nat} {v0 v3 v4 v5 : Value} {f : Nat → Int32} {x : Nat → Nat} (hO : O (a, .inr (4, [v0, .ref ar, .int (nI M), v3, v4, v5]))) (hR : O (ar, .inl (cy 0, 25, .inl f))) (hM : M ≤ 25) (hf : ∀ i, i < M → f i = nI (x i)) (hx : ∀ i, i < M → x i < 2 ^ 31) (hv : v < 2 ^ 31) : Ci l yX4_placeFor (.code yX4_placeFor cX4_placeFor 3 (some .int) :: WALL) ({ frames := 0, cells := 0, slots := 0, locals := 0 }) D cy O [.ref a, .int (nI v)] [] 0 0 (fun (r : Int32) (w : va_W) => r = nI (ft (fun i => decide (v ≤ x i)) M) ∧ w = []) := by
  refine z_meti (by decide) rfl rfl (Nat.le_of_ble_eq_true rfl) ?_
  intro p e s m args below meth c X hr hin
  refine z_eq (ws' := []) (lv' := [(0, .ref a), (1, .int (nI v))]) (st' := []) rfl rfl rfl ?_
  have L : ∀ (d : Nat) (j : Nat), j + d = M → (∀ i, i < j → (fun i => decide (v ≤ x i)) i = false) → Zz D (va_A [] s.heap.size) 3 p l e ({ frames := 0, cells := 0, slots := 0, locals := 0 }) s m args below meth c (MQ below (va_Qi (fun (r : Int32) (w : va_W) => r = nI (ft (fun i => decide (v ≤ x i)) M) ∧ w = []) (end_ D [] s.heap.size) (va_A [] s.heap.size)) args s 0 0 (va_A [] s.heap.size)) [] [(2, .int (nI j)), (0, .ref a), (1, .int (nI v))] 0 0 2 [] := by
    intro d
    induction d with
    | zero =>
      intro j hL0 hL1
      refine z_iload_n X dX4_placeFor_2 rfl (j := 0) rfl ?_
      refine z_aload_n X dX4_placeFor_3 rfl (j := 1) rfl ?_
      refine z_getO X (ci := 4) (C := RX4) (T := TX4) (N := 6) inX4 hO rfl 2 (by decide) fl_X4_15 (fun _ h9 => h9) rfl dX4_placeFor_4 ?_
      refine z_icmp_ge X (tgt := 26) dX4_placeFor_7 (by decide) (fun c_7 => ?_) (fun c9 => absurd (by rw [show j = M by omega]; exact nI_le (Nat.le_refl _) (by omega)) c9)
      refine z_iload_n X dX4_placeFor_26 rfl (j := 0) rfl ?_
      exact z_endi X hr [] [] rfl rfl rfl ⟨by rw [ft_is (k := j) (by omega) hL1 (fun z => absurd z (by omega))], rfl⟩ dX4_placeFor_27
    | succ d ih =>
      intro j hL0 hL1
      refine z_iload_n X dX4_placeFor_2 rfl (j := 0) rfl ?_
      refine z_aload_n X dX4_placeFor_3 rfl (j := 1) rfl ?_
      refine z_getO X (ci := 4) (C := RX4) (T := TX4) (N := 6) inX4 hO rfl 2 (by decide) fl_X4_15 (fun _ h9 => h9) rfl dX4_placeFor_4 ?_
      refine z_icmp_ge X (tgt := 26) dX4_placeFor_7 (by decide) (fun c9 => absurd c9 (nI_ge (by omega) (by omega))) (fun c_7 => ?_)
      refine z_aload_n X dX4_placeFor_10 rfl (j := 1) rfl ?_
      refine z_getO X (ci := 4) (C := RX4) (T := TX4) (N := 6) inX4 hO rfl 1 (by decide) fl_X4_9 (fun _ h9 => h9) rfl dX4_placeFor_11 ?_
      refine z_iload_n X dX4_placeFor_14 rfl (j := 0) rfl ?_
      refine z_ialdO X hR (v := (nI (x j))) (vp_in_nI (by omega) (by decide)) (at_nI (by omega) (hf j (by omega))) dX4_placeFor_15 ?_
      refine z_iload_n X dX4_placeFor_16 rfl (j := 2) rfl ?_
      refine z_icmp_ge X (tgt := 26) dX4_placeFor_17 (by decide) (fun c_17 => ?_) (fun c_17 => ?_)
      · skip
        refine z_iload_n X dX4_placeFor_26 rfl (j := 0) rfl ?_
        exact z_endi X hr [] [] rfl rfl rfl ⟨by rw [ft_is (k := j) (by omega) hL1 (fun _ => decide_eq_true ((nI_leI hv (hx j (by omega))).mp c_17))], rfl⟩ dX4_placeFor_27
      · skip
        refine z_iinc X (j := 0) (v := (nI (j + 1))) (lv' := [(2, .int (nI (j + 1))), (0, .ref a), (1, .int (nI v))]) dX4_placeFor_20 rfl (nI_1 j) (by decide) rfl ?_
        refine z_goto X (tgt := 2) dX4_placeFor_23 (by decide) ?_
        refine z_lv [0, 1, 2] (lv' := [(2, .int (nI (j + 1))), (0, .ref a), (1, .int (nI v))]) rfl ?_
        exact ih (j + 1) (by omega) (below_s hL1 (decide_eq_false (fun z2 => c_17 ((nI_leI hv (hx j (by omega))).mpr z2))))
  refine z_iconst X (v := 0) dX4_placeFor_0 (by decide) ?_
  refine z_istore_n X (lv' := [(2, .int 0), (0, .ref a), (1, .int (nI v))]) dX4_placeFor_1 rfl (by decide) rfl ?_
  exact L M 0 (by omega) below_0
set_option maxHeartbeats 4000000 in
set_option maxRecDepth 100000 in
/-- has(row) -/
theorem m_has (l : Launch) (D : va_G) (cy : Nat → ClassId) (O : Nat × va_E → Prop) {a ar M v : Nat} {v0 v3 v4 v5 : Value} {f : Nat → Int32} {x : Nat → Nat} (hO : O (a, .inr (4, [v0, .ref ar, .int (nI M), v3, v4, v5]))) (hR : O (ar, .inl (cy 0, 25, .inl f))) (hM : M ≤ 25) (hf : ∀ i, i < M → f i = nI (x i)) (hx : ∀ i, i < M → x i < 2 ^ 31) (hv : v < 2 ^ 31) : Ci l yX4_has (.code yX4_has cX4_has 3 (some .boolean) :: WALL) ({ frames := 1, cells := 0, slots := 0, locals := 22 }) D cy O [.ref a, .int (nI v)] [] 0 0 (fun (r : Int32) (w : va_W) => r = (if ft (fun i => decide (v ≤ x i)) M < M ∧ x (ft (fun i => decide (v ≤ x i)) M) = v then 1 else 0) ∧ w = []) := by
  refine z_meti (by decide) rfl rfl (Nat.le_of_ble_eq_true rfl) ?_
  intro p e s m args below meth c X hr hin
  refine z_eq (ws' := []) (lv' := [(0, .ref a), (1, .int (nI v))]) (st' := []) rfl rfl rfl ?_
  refine z_aload_n X dX4_has_0 rfl (j := 0) rfl ?_
  refine z_iload_n X dX4_has_1 rfl (j := 1) rfl ?_
  refine z_reti X (as := [.ref a, .int (nI v)]) (wc := []) (wr := []) (rest := []) (fun H9 locs9 ls9 hP9 hS9 hl9 hb9 hp9 => va_runV (As := [.int (nI v)]) (rest := []) X.fix (m_placeFor l D cy O hO hR hM hf hx hv H9.size) (cwV 1 X.hts (gV ml_X4_31 im_X4_placeFor se_X4_placeFor ni_X4 cd_X4_placeFor) rfl rfl rfl (by decide +kernel) ⟨Nat.le_of_ble_eq_true rfl, Nat.le_of_ble_eq_true rfl⟩) ⟨hb9, z_recvO X (ci := 4) (r := (RX4, TX4, 6)) hO rfl hS9, hp9⟩ rfl rfl hl9.1 rfl (lv_room (Nat.le_of_ble_eq_true rfl)) dX4_has_2 ⟨Nat.le_of_ble_eq_true rfl, Nat.le_of_ble_eq_true rfl⟩) [] [] rfl rfl rfl rfl rfl (by decide) (fun _ h => Or.inl h) (fun r1 w2 h3 => ?_)
  obtain ⟨rfl, rfl⟩ := h3
  have hle : ft (fun i => decide (v ≤ x i)) M ≤ M := ft_le _ _
  refine z_eq (ws' := []) (lv' := [(0, .ref a), (1, .int (nI v))]) (st' := [.int (nI (ft (fun i => decide (v ≤ x i)) M))]) rfl rfl rfl ?_
  refine z_widen (k' := 0) (n' := 0) (Nat.le_refl _) (Nat.le_refl _) ?_
  refine z_istore_n X (lv' := [(2, .int (nI (ft (fun i => decide (v ≤ x i)) M))), (0, .ref a), (1, .int (nI v))]) dX4_has_5 rfl (by decide) rfl ?_
  refine z_iload_n X dX4_has_6 rfl (j := 0) rfl ?_
  refine z_aload_n X dX4_has_7 rfl (j := 1) rfl ?_
  refine z_getO X (ci := 4) (C := RX4) (T := TX4) (N := 6) inX4 hO rfl 2 (by decide) fl_X4_15 (fun _ h9 => h9) rfl dX4_has_8 ?_
  refine z_icmp_ge X (tgt := 28) dX4_has_11 (by decide) (fun c_11 => ?_) (fun c_11 => ?_)
  · skip
    refine z_iconst X (v := 0) dX4_has_28 (by decide) ?_
    exact z_endz X hr (by first | exact Or.inl rfl | exact Or.inr rfl) [] [] rfl rfl rfl ⟨(by rw [if_neg (fun z => absurd z.1 (Nat.not_lt.mpr ((nI_leI (by omega) (by omega)).mp c_11)))]), rfl⟩ dX4_has_29
  · skip
    refine z_aload_n X dX4_has_14 rfl (j := 1) rfl ?_
    refine z_getO X (ci := 4) (C := RX4) (T := TX4) (N := 6) inX4 hO rfl 1 (by decide) fl_X4_9 (fun _ h9 => h9) rfl dX4_has_15 ?_
    refine z_iload_n X dX4_has_18 rfl (j := 0) rfl ?_
    have hlt : ft (fun i => decide (v ≤ x i)) M < M := lt_of_nle c_11 (by omega) (by omega)
    refine z_ialdO X hR (v := (nI (x (ft (fun i => decide (v ≤ x i)) M)))) (vp_in_nI (Nat.lt_of_lt_of_le hlt hM) (by decide)) (at_nI (by omega) (hf _ hlt)) dX4_has_19 ?_
    refine z_iload_n X dX4_has_20 rfl (j := 2) rfl ?_
    refine z_icmp_ne X (tgt := 28) dX4_has_21 (by decide) (fun c_21 => ?_) (fun c_21 => ?_)
    · skip
      refine z_iconst X (v := 0) dX4_has_28 (by decide) ?_
      exact z_endz X hr (by first | exact Or.inl rfl | exact Or.inr rfl) [] [] rfl rfl rfl ⟨(by rw [if_neg (fun z => c_21 (by rw [z.2]))]), rfl⟩ dX4_has_29
    · skip
      refine z_iconst X (v := 1) dX4_has_24 (by decide) ?_
      refine z_goto X (tgt := 29) dX4_has_25 (by decide) ?_
      exact z_endz X hr (by first | exact Or.inl rfl | exact Or.inr rfl) [] [] rfl rfl rfl ⟨(by rw [if_pos ⟨hlt, (nI_eq (hx _ hlt) hv).mp c_21⟩]), rfl⟩ dX4_has_29
