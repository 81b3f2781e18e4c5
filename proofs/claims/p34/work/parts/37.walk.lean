theorem dX8_arrange_0 : decode cX8_arrange 0 = .ok (.aload_n 0, 1) := by decide +kernel
theorem dX8_arrange_1 : decode cX8_arrange 1 = .ok (.aload_n 1, 1) := by decide +kernel
theorem dX8_arrange_2 : decode cX8_arrange 2 = .ok (.putfield 28, 3) := by decide +kernel
theorem dX8_arrange_5 : decode cX8_arrange 5 = .ok (.aload_n 0, 1) := by decide +kernel
theorem dX8_arrange_6 : decode cX8_arrange 6 = .ok (.iconst 0, 1) := by decide +kernel
theorem dX8_arrange_7 : decode cX8_arrange 7 = .ok (.putfield 36, 3) := by decide +kernel
theorem dX8_arrange_10 : decode cX8_arrange 10 = .ok (.iconst 0, 1) := by decide +kernel
theorem dX8_arrange_11 : decode cX8_arrange 11 = .ok (.istore_n 2, 1) := by decide +kernel
theorem dX8_arrange_12 : decode cX8_arrange 12 = .ok (.aload_n 1, 1) := by decide +kernel
theorem dX8_arrange_13 : decode cX8_arrange 13 = .ok (.invokevirtual 40, 3) := by decide +kernel
theorem dX8_arrange_16 : decode cX8_arrange 16 = .ok (.istore_n 3, 1) := by decide +kernel
theorem dX8_arrange_17 : decode cX8_arrange 17 = .ok (.iconst 0, 1) := by decide +kernel
theorem dX8_arrange_18 : decode cX8_arrange 18 = .ok (.istore 4, 2) := by decide +kernel
theorem dX8_arrange_20 : decode cX8_arrange 20 = .ok (.iload 4, 2) := by decide +kernel
theorem dX8_arrange_22 : decode cX8_arrange 22 = .ok (.aload_n 1, 1) := by decide +kernel
theorem dX8_arrange_23 : decode cX8_arrange 23 = .ok (.getfield 46, 3) := by decide +kernel
theorem dX8_arrange_26 : decode cX8_arrange 26 = .ok (.if_icmp .ge 73, 3) := by decide +kernel
theorem dX8_arrange_29 : decode cX8_arrange 29 = .ok (.aload_n 1, 1) := by decide +kernel
theorem dX8_arrange_30 : decode cX8_arrange 30 = .ok (.getfield 49, 3) := by decide +kernel
theorem dX8_arrange_33 : decode cX8_arrange 33 = .ok (.getfield 53, 3) := by decide +kernel
theorem dX8_arrange_36 : decode cX8_arrange 36 = .ok (.iload_n 2, 1) := by decide +kernel
theorem dX8_arrange_37 : decode cX8_arrange 37 = .ok (.iconst (-1), 1) := by decide +kernel
theorem dX8_arrange_38 : decode cX8_arrange 38 = .ok (.ixor, 1) := by decide +kernel
theorem dX8_arrange_39 : decode cX8_arrange 39 = .ok (.iand, 1) := by decide +kernel
theorem dX8_arrange_40 : decode cX8_arrange 40 = .ok (.ifCond .eq 11, 3) := by decide +kernel
theorem dX8_arrange_43 : decode cX8_arrange 43 = .ok (.aload_n 0, 1) := by decide +kernel
theorem dX8_arrange_44 : decode cX8_arrange 44 = .ok (.iload 4, 2) := by decide +kernel
theorem dX8_arrange_46 : decode cX8_arrange 46 = .ok (.iconst 1, 1) := by decide +kernel
theorem dX8_arrange_47 : decode cX8_arrange 47 = .ok (.iadd, 1) := by decide +kernel
theorem dX8_arrange_48 : decode cX8_arrange 48 = .ok (.putfield 36, 3) := by decide +kernel
theorem dX8_arrange_51 : decode cX8_arrange 51 = .ok (.aload_n 0, 1) := by decide +kernel
theorem dX8_arrange_52 : decode cX8_arrange 52 = .ok (.iload_n 3, 1) := by decide +kernel
theorem dX8_arrange_53 : decode cX8_arrange 53 = .ok (.iload_n 2, 1) := by decide +kernel
theorem dX8_arrange_54 : decode cX8_arrange 54 = .ok (.invokevirtual 58, 3) := by decide +kernel
theorem dX8_arrange_57 : decode cX8_arrange 57 = .ok (.istore 5, 2) := by decide +kernel
theorem dX8_arrange_59 : decode cX8_arrange 59 = .ok (.aload_n 0, 1) := by decide +kernel
theorem dX8_arrange_60 : decode cX8_arrange 60 = .ok (.getfield 9, 3) := by decide +kernel
theorem dX8_arrange_63 : decode cX8_arrange 63 = .ok (.iload 4, 2) := by decide +kernel
theorem dX8_arrange_65 : decode cX8_arrange 65 = .ok (.iload 5, 2) := by decide +kernel
theorem dX8_arrange_67 : decode cX8_arrange 67 = .ok (.iastore, 1) := by decide +kernel
theorem dX8_arrange_68 : decode cX8_arrange 68 = .ok (.iload_n 3, 1) := by decide +kernel
theorem dX8_arrange_69 : decode cX8_arrange 69 = .ok (.iconst 1, 1) := by decide +kernel
theorem dX8_arrange_70 : decode cX8_arrange 70 = .ok (.iload 5, 2) := by decide +kernel
theorem dX8_arrange_72 : decode cX8_arrange 72 = .ok (.ishl, 1) := by decide +kernel
theorem dX8_arrange_73 : decode cX8_arrange 73 = .ok (.iconst (-1), 1) := by decide +kernel
theorem dX8_arrange_74 : decode cX8_arrange 74 = .ok (.ixor, 1) := by decide +kernel
theorem dX8_arrange_75 : decode cX8_arrange 75 = .ok (.iand, 1) := by decide +kernel
theorem dX8_arrange_76 : decode cX8_arrange 76 = .ok (.istore_n 3, 1) := by decide +kernel
theorem dX8_arrange_77 : decode cX8_arrange 77 = .ok (.iload_n 2, 1) := by decide +kernel
theorem dX8_arrange_78 : decode cX8_arrange 78 = .ok (.aload_n 1, 1) := by decide +kernel
theorem dX8_arrange_79 : decode cX8_arrange 79 = .ok (.getfield 62, 3) := by decide +kernel
theorem dX8_arrange_82 : decode cX8_arrange 82 = .ok (.iload 5, 2) := by decide +kernel
theorem dX8_arrange_84 : decode cX8_arrange 84 = .ok (.aaload, 1) := by decide +kernel
theorem dX8_arrange_85 : decode cX8_arrange 85 = .ok (.getfield 66, 3) := by decide +kernel
theorem dX8_arrange_88 : decode cX8_arrange 88 = .ok (.getfield 53, 3) := by decide +kernel
theorem dX8_arrange_91 : decode cX8_arrange 91 = .ok (.ior, 1) := by decide +kernel
theorem dX8_arrange_92 : decode cX8_arrange 92 = .ok (.istore_n 2, 1) := by decide +kernel
theorem dX8_arrange_93 : decode cX8_arrange 93 = .ok (.iinc 4 1, 3) := by decide +kernel
theorem dX8_arrange_96 : decode cX8_arrange 96 = .ok (.goto (-76), 3) := by decide +kernel
theorem dX8_arrange_99 : decode cX8_arrange 99 = .ok (.return_, 1) := by decide +kernel
theorem dX8_measure_0 : decode cX8_measure 0 = .ok (.aload_n 0, 1) := by decide +kernel
theorem dX8_measure_1 : decode cX8_measure 1 = .ok (.aload_n 1, 1) := by decide +kernel
theorem dX8_measure_2 : decode cX8_measure 2 = .ok (.invokevirtual 71, 3) := by decide +kernel
theorem dX8_measure_5 : decode cX8_measure 5 = .ok (.iconst 0, 1) := by decide +kernel
theorem dX8_measure_6 : decode cX8_measure 6 = .ok (.istore_n 2, 1) := by decide +kernel
theorem dX8_measure_7 : decode cX8_measure 7 = .ok (.iload_n 2, 1) := by decide +kernel
theorem dX8_measure_8 : decode cX8_measure 8 = .ok (.aload_n 1, 1) := by decide +kernel
theorem dX8_measure_9 : decode cX8_measure 9 = .ok (.getfield 46, 3) := by decide +kernel
theorem dX8_measure_12 : decode cX8_measure 12 = .ok (.if_icmp .ge 16, 3) := by decide +kernel
theorem dX8_measure_15 : decode cX8_measure 15 = .ok (.aload_n 0, 1) := by decide +kernel
theorem dX8_measure_16 : decode cX8_measure 16 = .ok (.getfield 15, 3) := by decide +kernel
theorem dX8_measure_19 : decode cX8_measure 19 = .ok (.iload_n 2, 1) := by decide +kernel
theorem dX8_measure_20 : decode cX8_measure 20 = .ok (.iconst 0, 1) := by decide +kernel
theorem dX8_measure_21 : decode cX8_measure 21 = .ok (.iastore, 1) := by decide +kernel
theorem dX8_measure_22 : decode cX8_measure 22 = .ok (.iinc 2 1, 3) := by decide +kernel
theorem dX8_measure_25 : decode cX8_measure 25 = .ok (.goto (-18), 3) := by decide +kernel
theorem dX8_measure_28 : decode cX8_measure 28 = .ok (.aload_n 0, 1) := by decide +kernel
theorem dX8_measure_29 : decode cX8_measure 29 = .ok (.iconst 0, 1) := by decide +kernel
theorem dX8_measure_30 : decode cX8_measure 30 = .ok (.putfield 32, 3) := by decide +kernel
theorem dX8_measure_33 : decode cX8_measure 33 = .ok (.aload_n 0, 1) := by decide +kernel
theorem dX8_measure_34 : decode cX8_measure 34 = .ok (.iconst 0, 1) := by decide +kernel
theorem dX8_measure_35 : decode cX8_measure 35 = .ok (.invokevirtual 75, 3) := by decide +kernel
theorem dX8_measure_38 : decode cX8_measure 38 = .ok (.return_, 1) := by decide +kernel
theorem dX8_tell_0 : decode cX8_tell 0 = .ok (.aload_n 0, 1) := by decide +kernel
theorem dX8_tell_1 : decode cX8_tell 1 = .ok (.aload_n 1, 1) := by decide +kernel
theorem dX8_tell_2 : decode cX8_tell 2 = .ok (.invokevirtual 71, 3) := by decide +kernel
theorem dX8_tell_5 : decode cX8_tell 5 = .ok (.aload_n 0, 1) := by decide +kernel
theorem dX8_tell_6 : decode cX8_tell 6 = .ok (.getfield 21, 3) := by decide +kernel
theorem dX8_tell_9 : decode cX8_tell 9 = .ok (.invokevirtual 79, 3) := by decide +kernel
theorem dX8_tell_12 : decode cX8_tell 12 = .ok (.aload_n 0, 1) := by decide +kernel
theorem dX8_tell_13 : decode cX8_tell 13 = .ok (.iconst 1, 1) := by decide +kernel
theorem dX8_tell_14 : decode cX8_tell 14 = .ok (.putfield 32, 3) := by decide +kernel
theorem dX8_tell_17 : decode cX8_tell 17 = .ok (.aload_n 0, 1) := by decide +kernel
theorem dX8_tell_18 : decode cX8_tell 18 = .ok (.iconst 0, 1) := by decide +kernel
theorem dX8_tell_19 : decode cX8_tell 19 = .ok (.invokevirtual 75, 3) := by decide +kernel
theorem dX8_tell_22 : decode cX8_tell 22 = .ok (.aload_n 0, 1) := by decide +kernel
theorem dX8_tell_23 : decode cX8_tell 23 = .ok (.getfield 21, 3) := by decide +kernel
theorem dX8_tell_26 : decode cX8_tell 26 = .ok (.areturn, 1) := by decide +kernel
theorem dX8_nextOf_0 : decode cX8_nextOf 0 = .ok (.iconst 0, 1) := by decide +kernel
theorem dX8_nextOf_1 : decode cX8_nextOf 1 = .ok (.istore_n 3, 1) := by decide +kernel
theorem dX8_nextOf_2 : decode cX8_nextOf 2 = .ok (.iconst (-1), 1) := by decide +kernel
theorem dX8_nextOf_3 : decode cX8_nextOf 3 = .ok (.istore 4, 2) := by decide +kernel
theorem dX8_nextOf_5 : decode cX8_nextOf 5 = .ok (.iconst 0, 1) := by decide +kernel
theorem dX8_nextOf_6 : decode cX8_nextOf 6 = .ok (.istore 5, 2) := by decide +kernel
theorem dX8_nextOf_8 : decode cX8_nextOf 8 = .ok (.iload 5, 2) := by decide +kernel
theorem dX8_nextOf_10 : decode cX8_nextOf 10 = .ok (.aload_n 0, 1) := by decide +kernel
theorem dX8_nextOf_11 : decode cX8_nextOf 11 = .ok (.getfield 28, 3) := by decide +kernel
theorem dX8_nextOf_14 : decode cX8_nextOf 14 = .ok (.getfield 46, 3) := by decide +kernel
theorem dX8_nextOf_17 : decode cX8_nextOf 17 = .ok (.if_icmp .ge 92, 3) := by decide +kernel
theorem dX8_nextOf_20 : decode cX8_nextOf 20 = .ok (.iload_n 1, 1) := by decide +kernel
theorem dX8_nextOf_21 : decode cX8_nextOf 21 = .ok (.iload 5, 2) := by decide +kernel
theorem dX8_nextOf_23 : decode cX8_nextOf 23 = .ok (.invokestatic 82, 3) := by decide +kernel
theorem dX8_nextOf_26 : decode cX8_nextOf 26 = .ok (.ifCond .eq 77, 3) := by decide +kernel
theorem dX8_nextOf_29 : decode cX8_nextOf 29 = .ok (.aload_n 0, 1) := by decide +kernel
theorem dX8_nextOf_30 : decode cX8_nextOf 30 = .ok (.getfield 28, 3) := by decide +kernel
theorem dX8_nextOf_33 : decode cX8_nextOf 33 = .ok (.getfield 62, 3) := by decide +kernel
theorem dX8_nextOf_36 : decode cX8_nextOf 36 = .ok (.iload 5, 2) := by decide +kernel
theorem dX8_nextOf_38 : decode cX8_nextOf 38 = .ok (.aaload, 1) := by decide +kernel
theorem dX8_nextOf_39 : decode cX8_nextOf 39 = .ok (.getfield 66, 3) := by decide +kernel
theorem dX8_nextOf_42 : decode cX8_nextOf 42 = .ok (.iload_n 2, 1) := by decide +kernel
theorem dX8_nextOf_43 : decode cX8_nextOf 43 = .ok (.invokestatic 86, 3) := by decide +kernel
theorem dX8_nextOf_46 : decode cX8_nextOf 46 = .ok (.istore 6, 2) := by decide +kernel
theorem dX8_nextOf_48 : decode cX8_nextOf 48 = .ok (.iload 6, 2) := by decide +kernel
theorem dX8_nextOf_50 : decode cX8_nextOf 50 = .ok (.iload 4, 2) := by decide +kernel
theorem dX8_nextOf_52 : decode cX8_nextOf 52 = .ok (.if_icmp .gt 44, 3) := by decide +kernel
theorem dX8_nextOf_55 : decode cX8_nextOf 55 = .ok (.iload 6, 2) := by decide +kernel
theorem dX8_nextOf_57 : decode cX8_nextOf 57 = .ok (.iload 4, 2) := by decide +kernel
theorem dX8_nextOf_59 : decode cX8_nextOf 59 = .ok (.if_icmp .ne 44, 3) := by decide +kernel
theorem dX8_nextOf_62 : decode cX8_nextOf 62 = .ok (.aload_n 0, 1) := by decide +kernel
theorem dX8_nextOf_63 : decode cX8_nextOf 63 = .ok (.getfield 28, 3) := by decide +kernel
theorem dX8_nextOf_66 : decode cX8_nextOf 66 = .ok (.getfield 62, 3) := by decide +kernel
theorem dX8_nextOf_69 : decode cX8_nextOf 69 = .ok (.iload 5, 2) := by decide +kernel
theorem dX8_nextOf_71 : decode cX8_nextOf 71 = .ok (.aaload, 1) := by decide +kernel
theorem dX8_nextOf_72 : decode cX8_nextOf 72 = .ok (.getfield 90, 3) := by decide +kernel
theorem dX8_nextOf_75 : decode cX8_nextOf 75 = .ok (.getfield 94, 3) := by decide +kernel
theorem dX8_nextOf_78 : decode cX8_nextOf 78 = .ok (.aload_n 0, 1) := by decide +kernel
theorem dX8_nextOf_79 : decode cX8_nextOf 79 = .ok (.getfield 28, 3) := by decide +kernel
theorem dX8_nextOf_82 : decode cX8_nextOf 82 = .ok (.getfield 62, 3) := by decide +kernel
theorem dX8_nextOf_85 : decode cX8_nextOf 85 = .ok (.iload_n 3, 1) := by decide +kernel
theorem dX8_nextOf_86 : decode cX8_nextOf 86 = .ok (.aaload, 1) := by decide +kernel
theorem dX8_nextOf_87 : decode cX8_nextOf 87 = .ok (.getfield 90, 3) := by decide +kernel
theorem dX8_nextOf_90 : decode cX8_nextOf 90 = .ok (.getfield 94, 3) := by decide +kernel
theorem dX8_nextOf_93 : decode cX8_nextOf 93 = .ok (.if_icmp .ge 10, 3) := by decide +kernel
theorem dX8_nextOf_96 : decode cX8_nextOf 96 = .ok (.iload 5, 2) := by decide +kernel
theorem dX8_nextOf_98 : decode cX8_nextOf 98 = .ok (.istore_n 3, 1) := by decide +kernel
theorem dX8_nextOf_99 : decode cX8_nextOf 99 = .ok (.iload 6, 2) := by decide +kernel
theorem dX8_nextOf_101 : decode cX8_nextOf 101 = .ok (.istore 4, 2) := by decide +kernel
theorem dX8_nextOf_103 : decode cX8_nextOf 103 = .ok (.iinc 5 1, 3) := by decide +kernel
theorem dX8_nextOf_106 : decode cX8_nextOf 106 = .ok (.goto (-98), 3) := by decide +kernel
theorem dX8_nextOf_109 : decode cX8_nextOf 109 = .ok (.iload_n 3, 1) := by decide +kernel
theorem dX8_nextOf_110 : decode cX8_nextOf 110 = .ok (.ireturn, 1) := by decide +kernel
theorem dX8_knownPlaces_0 : decode cX8_knownPlaces 0 = .ok (.iconst 0, 1) := by decide +kernel
theorem dX8_knownPlaces_1 : decode cX8_knownPlaces 1 = .ok (.istore_n 2, 1) := by decide +kernel
theorem dX8_knownPlaces_2 : decode cX8_knownPlaces 2 = .ok (.iconst 0, 1) := by decide +kernel
theorem dX8_knownPlaces_3 : decode cX8_knownPlaces 3 = .ok (.istore_n 3, 1) := by decide +kernel
theorem dX8_knownPlaces_4 : decode cX8_knownPlaces 4 = .ok (.iload_n 3, 1) := by decide +kernel
theorem dX8_knownPlaces_5 : decode cX8_knownPlaces 5 = .ok (.aload_n 0, 1) := by decide +kernel
theorem dX8_knownPlaces_6 : decode cX8_knownPlaces 6 = .ok (.getfield 97, 3) := by decide +kernel
theorem dX8_knownPlaces_9 : decode cX8_knownPlaces 9 = .ok (.if_icmp .ge 37, 3) := by decide +kernel
theorem dX8_knownPlaces_12 : decode cX8_knownPlaces 12 = .ok (.aload_n 0, 1) := by decide +kernel
theorem dX8_knownPlaces_13 : decode cX8_knownPlaces 13 = .ok (.getfield 98, 3) := by decide +kernel
theorem dX8_knownPlaces_16 : decode cX8_knownPlaces 16 = .ok (.iload_n 3, 1) := by decide +kernel
theorem dX8_knownPlaces_17 : decode cX8_knownPlaces 17 = .ok (.iaload, 1) := by decide +kernel
theorem dX8_knownPlaces_18 : decode cX8_knownPlaces 18 = .ok (.invokestatic 101, 3) := by decide +kernel
theorem dX8_knownPlaces_21 : decode cX8_knownPlaces 21 = .ok (.ifCond .eq 16, 3) := by decide +kernel
theorem dX8_knownPlaces_24 : decode cX8_knownPlaces 24 = .ok (.iload_n 1, 1) := by decide +kernel
theorem dX8_knownPlaces_25 : decode cX8_knownPlaces 25 = .ok (.aload_n 0, 1) := by decide +kernel
theorem dX8_knownPlaces_26 : decode cX8_knownPlaces 26 = .ok (.getfield 98, 3) := by decide +kernel
theorem dX8_knownPlaces_29 : decode cX8_knownPlaces 29 = .ok (.iload_n 3, 1) := by decide +kernel
theorem dX8_knownPlaces_30 : decode cX8_knownPlaces 30 = .ok (.iaload, 1) := by decide +kernel
theorem dX8_knownPlaces_31 : decode cX8_knownPlaces 31 = .ok (.invokestatic 82, 3) := by decide +kernel
theorem dX8_knownPlaces_34 : decode cX8_knownPlaces 34 = .ok (.ifCond .eq 6, 3) := by decide +kernel
theorem dX8_knownPlaces_37 : decode cX8_knownPlaces 37 = .ok (.iinc 2 1, 3) := by decide +kernel
theorem dX8_knownPlaces_40 : decode cX8_knownPlaces 40 = .ok (.iinc 3 1, 3) := by decide +kernel
theorem dX8_knownPlaces_43 : decode cX8_knownPlaces 43 = .ok (.goto (-39), 3) := by decide +kernel
theorem dX8_knownPlaces_46 : decode cX8_knownPlaces 46 = .ok (.iload_n 2, 1) := by decide +kernel
theorem dX8_knownPlaces_47 : decode cX8_knownPlaces 47 = .ok (.ireturn, 1) := by decide +kernel
theorem dX8_goOn_0 : decode cX8_goOn 0 = .ok (.aload_n 0, 1) := by decide +kernel
theorem dX8_goOn_1 : decode cX8_goOn 1 = .ok (.getfield 32, 3) := by decide +kernel
theorem dX8_goOn_4 : decode cX8_goOn 4 = .ok (.ifCond .eq 11, 3) := by decide +kernel
theorem dX8_goOn_7 : decode cX8_goOn 7 = .ok (.aload_n 0, 1) := by decide +kernel
theorem dX8_goOn_8 : decode cX8_goOn 8 = .ok (.iload_n 1, 1) := by decide +kernel
theorem dX8_goOn_9 : decode cX8_goOn 9 = .ok (.invokevirtual 105, 3) := by decide +kernel
theorem dX8_goOn_12 : decode cX8_goOn 12 = .ok (.ifCond .ne 14, 3) := by decide +kernel
theorem dX8_goOn_15 : decode cX8_goOn 15 = .ok (.iload_n 1, 1) := by decide +kernel
theorem dX8_goOn_16 : decode cX8_goOn 16 = .ok (.aload_n 0, 1) := by decide +kernel
theorem dX8_goOn_17 : decode cX8_goOn 17 = .ok (.getfield 28, 3) := by decide +kernel
theorem dX8_goOn_20 : decode cX8_goOn 20 = .ok (.getfield 46, 3) := by decide +kernel
theorem dX8_goOn_23 : decode cX8_goOn 23 = .ok (.if_icmp .lt 4, 3) := by decide +kernel
theorem dX8_goOn_26 : decode cX8_goOn 26 = .ok (.return_, 1) := by decide +kernel
theorem dX8_goOn_27 : decode cX8_goOn 27 = .ok (.aload_n 0, 1) := by decide +kernel
theorem dX8_goOn_28 : decode cX8_goOn 28 = .ok (.getfield 28, 3) := by decide +kernel
theorem dX8_goOn_31 : decode cX8_goOn 31 = .ok (.getfield 62, 3) := by decide +kernel
theorem dX8_goOn_34 : decode cX8_goOn 34 = .ok (.aload_n 0, 1) := by decide +kernel
theorem dX8_goOn_35 : decode cX8_goOn 35 = .ok (.getfield 9, 3) := by decide +kernel
theorem dX8_goOn_38 : decode cX8_goOn 38 = .ok (.iload_n 1, 1) := by decide +kernel
theorem dX8_goOn_39 : decode cX8_goOn 39 = .ok (.iaload, 1) := by decide +kernel
theorem dX8_goOn_40 : decode cX8_goOn 40 = .ok (.aaload, 1) := by decide +kernel
theorem dX8_goOn_41 : decode cX8_goOn 41 = .ok (.astore_n 2, 1) := by decide +kernel
theorem dX8_goOn_42 : decode cX8_goOn 42 = .ok (.aload_n 2, 1) := by decide +kernel
theorem dX8_goOn_43 : decode cX8_goOn 43 = .ok (.aload_n 0, 1) := by decide +kernel
theorem dX8_goOn_44 : decode cX8_goOn 44 = .ok (.getfield 25, 3) := by decide +kernel
theorem dX8_goOn_47 : decode cX8_goOn 47 = .ok (.invokevirtual 108, 3) := by decide +kernel
theorem dX8_goOn_50 : decode cX8_goOn 50 = .ok (.istore_n 3, 1) := by decide +kernel
theorem dX8_goOn_51 : decode cX8_goOn 51 = .ok (.iload_n 3, 1) := by decide +kernel
theorem dX8_goOn_52 : decode cX8_goOn 52 = .ok (.invokestatic 112, 3) := by decide +kernel
theorem dX8_goOn_55 : decode cX8_goOn 55 = .ok (.istore 4, 2) := by decide +kernel
theorem dX8_goOn_57 : decode cX8_goOn 57 = .ok (.aload_n 0, 1) := by decide +kernel
theorem dX8_goOn_58 : decode cX8_goOn 58 = .ok (.getfield 15, 3) := by decide +kernel
theorem dX8_goOn_61 : decode cX8_goOn 61 = .ok (.iload_n 1, 1) := by decide +kernel
theorem dX8_goOn_62 : decode cX8_goOn 62 = .ok (.dup2, 1) := by decide +kernel
theorem dX8_goOn_63 : decode cX8_goOn 63 = .ok (.iaload, 1) := by decide +kernel
theorem dX8_goOn_64 : decode cX8_goOn 64 = .ok (.iload 4, 2) := by decide +kernel
theorem dX8_goOn_66 : decode cX8_goOn 66 = .ok (.iadd, 1) := by decide +kernel
theorem dX8_goOn_67 : decode cX8_goOn 67 = .ok (.iastore, 1) := by decide +kernel
theorem dX8_goOn_68 : decode cX8_goOn 68 = .ok (.aload_n 0, 1) := by decide +kernel
theorem dX8_goOn_69 : decode cX8_goOn 69 = .ok (.getfield 32, 3) := by decide +kernel
theorem dX8_goOn_72 : decode cX8_goOn 72 = .ok (.ifCond .ne 17, 3) := by decide +kernel
theorem dX8_goOn_75 : decode cX8_goOn 75 = .ok (.iload_n 1, 1) := by decide +kernel
theorem dX8_goOn_76 : decode cX8_goOn 76 = .ok (.aload_n 0, 1) := by decide +kernel
theorem dX8_goOn_77 : decode cX8_goOn 77 = .ok (.getfield 28, 3) := by decide +kernel
theorem dX8_goOn_80 : decode cX8_goOn 80 = .ok (.getfield 46, 3) := by decide +kernel
theorem dX8_goOn_83 : decode cX8_goOn 83 = .ok (.iconst 1, 1) := by decide +kernel
theorem dX8_goOn_84 : decode cX8_goOn 84 = .ok (.isub, 1) := by decide +kernel
theorem dX8_goOn_85 : decode cX8_goOn 85 = .ok (.if_icmp .ne 4, 3) := by decide +kernel
theorem dX8_goOn_88 : decode cX8_goOn 88 = .ok (.return_, 1) := by decide +kernel
theorem dX8_goOn_89 : decode cX8_goOn 89 = .ok (.aload_n 0, 1) := by decide +kernel
theorem dX8_goOn_90 : decode cX8_goOn 90 = .ok (.aload_n 2, 1) := by decide +kernel
theorem dX8_goOn_91 : decode cX8_goOn 91 = .ok (.getfield 66, 3) := by decide +kernel
theorem dX8_goOn_94 : decode cX8_goOn 94 = .ok (.invokevirtual 118, 3) := by decide +kernel
theorem dX8_goOn_97 : decode cX8_goOn 97 = .ok (.istore 5, 2) := by decide +kernel
theorem dX8_goOn_99 : decode cX8_goOn 99 = .ok (.iconst 0, 1) := by decide +kernel
theorem dX8_goOn_100 : decode cX8_goOn 100 = .ok (.istore 6, 2) := by decide +kernel
theorem dX8_goOn_102 : decode cX8_goOn 102 = .ok (.iload 6, 2) := by decide +kernel
theorem dX8_goOn_104 : decode cX8_goOn 104 = .ok (.iload 4, 2) := by decide +kernel
theorem dX8_goOn_106 : decode cX8_goOn 106 = .ok (.if_icmp .ge 31, 3) := by decide +kernel
theorem dX8_goOn_109 : decode cX8_goOn 109 = .ok (.aload_n 0, 1) := by decide +kernel
theorem dX8_goOn_110 : decode cX8_goOn 110 = .ok (.aload_n 2, 1) := by decide +kernel
theorem dX8_goOn_111 : decode cX8_goOn 111 = .ok (.iload_n 3, 1) := by decide +kernel
theorem dX8_goOn_112 : decode cX8_goOn 112 = .ok (.invokestatic 122, 3) := by decide +kernel
theorem dX8_goOn_115 : decode cX8_goOn 115 = .ok (.invokevirtual 125, 3) := by decide +kernel
theorem dX8_goOn_118 : decode cX8_goOn 118 = .ok (.iload_n 3, 1) := by decide +kernel
theorem dX8_goOn_119 : decode cX8_goOn 119 = .ok (.iload_n 3, 1) := by decide +kernel
theorem dX8_goOn_120 : decode cX8_goOn 120 = .ok (.iconst 1, 1) := by decide +kernel
theorem dX8_goOn_121 : decode cX8_goOn 121 = .ok (.isub, 1) := by decide +kernel
theorem dX8_goOn_122 : decode cX8_goOn 122 = .ok (.iand, 1) := by decide +kernel
theorem dX8_goOn_123 : decode cX8_goOn 123 = .ok (.istore_n 3, 1) := by decide +kernel
theorem dX8_goOn_124 : decode cX8_goOn 124 = .ok (.aload_n 0, 1) := by decide +kernel
theorem dX8_goOn_125 : decode cX8_goOn 125 = .ok (.iload_n 1, 1) := by decide +kernel
theorem dX8_goOn_126 : decode cX8_goOn 126 = .ok (.iconst 1, 1) := by decide +kernel
theorem dX8_goOn_127 : decode cX8_goOn 127 = .ok (.iadd, 1) := by decide +kernel
theorem dX8_goOn_128 : decode cX8_goOn 128 = .ok (.invokevirtual 75, 3) := by decide +kernel
theorem dX8_goOn_131 : decode cX8_goOn 131 = .ok (.iinc 6 1, 3) := by decide +kernel
theorem dX8_goOn_134 : decode cX8_goOn 134 = .ok (.goto (-32), 3) := by decide +kernel
theorem dX8_goOn_137 : decode cX8_goOn 137 = .ok (.aload_n 0, 1) := by decide +kernel
theorem dX8_goOn_138 : decode cX8_goOn 138 = .ok (.iload 5, 2) := by decide +kernel
theorem dX8_goOn_140 : decode cX8_goOn 140 = .ok (.invokevirtual 129, 3) := by decide +kernel
theorem dX8_goOn_143 : decode cX8_goOn 143 = .ok (.return_, 1) := by decide +kernel
theorem dX8_isTold_0 : decode cX8_isTold 0 = .ok (.iload_n 1, 1) := by decide +kernel
theorem dX8_isTold_1 : decode cX8_isTold 1 = .ok (.aload_n 0, 1) := by decide +kernel
theorem dX8_isTold_2 : decode cX8_isTold 2 = .ok (.getfield 36, 3) := by decide +kernel
theorem dX8_isTold_5 : decode cX8_isTold 5 = .ok (.if_icmp .ge 5, 3) := by decide +kernel
theorem dX8_isTold_8 : decode cX8_isTold 8 = .ok (.iconst 0, 1) := by decide +kernel
theorem dX8_isTold_9 : decode cX8_isTold 9 = .ok (.ireturn, 1) := by decide +kernel
theorem dX8_isTold_10 : decode cX8_isTold 10 = .ok (.aload_n 0, 1) := by decide +kernel
theorem dX8_isTold_11 : decode cX8_isTold 11 = .ok (.invokevirtual 132, 3) := by decide +kernel
theorem dX8_isTold_14 : decode cX8_isTold 14 = .ok (.istore_n 2, 1) := by decide +kernel
theorem dX8_isTold_15 : decode cX8_isTold 15 = .ok (.iload_n 1, 1) := by decide +kernel
theorem dX8_isTold_16 : decode cX8_isTold 16 = .ok (.aload_n 0, 1) := by decide +kernel
theorem dX8_isTold_17 : decode cX8_isTold 17 = .ok (.getfield 28, 3) := by decide +kernel
theorem dX8_isTold_20 : decode cX8_isTold 20 = .ok (.getfield 46, 3) := by decide +kernel
theorem dX8_isTold_23 : decode cX8_isTold 23 = .ok (.if_icmp .lt 11, 3) := by decide +kernel
theorem dX8_isTold_26 : decode cX8_isTold 26 = .ok (.aload_n 0, 1) := by decide +kernel
theorem dX8_isTold_27 : decode cX8_isTold 27 = .ok (.getfield 21, 3) := by decide +kernel
theorem dX8_isTold_30 : decode cX8_isTold 30 = .ok (.iload_n 2, 1) := by decide +kernel
theorem dX8_isTold_31 : decode cX8_isTold 31 = .ok (.invokevirtual 135, 3) := by decide +kernel
theorem dX8_isTold_34 : decode cX8_isTold 34 = .ok (.aload_n 0, 1) := by decide +kernel
theorem dX8_isTold_35 : decode cX8_isTold 35 = .ok (.getfield 21, 3) := by decide +kernel
theorem dX8_isTold_38 : decode cX8_isTold 38 = .ok (.iload_n 2, 1) := by decide +kernel
theorem dX8_isTold_39 : decode cX8_isTold 39 = .ok (.invokevirtual 138, 3) := by decide +kernel
theorem dX8_isTold_42 : decode cX8_isTold 42 = .ok (.ireturn, 1) := by decide +kernel
theorem dX8_headRow_0 : decode cX8_headRow 0 = .ok (.iconst 0, 1) := by decide +kernel
theorem dX8_headRow_1 : decode cX8_headRow 1 = .ok (.istore_n 1, 1) := by decide +kernel
theorem dX8_headRow_2 : decode cX8_headRow 2 = .ok (.iconst 0, 1) := by decide +kernel
theorem dX8_headRow_3 : decode cX8_headRow 3 = .ok (.istore_n 2, 1) := by decide +kernel
theorem dX8_headRow_4 : decode cX8_headRow 4 = .ok (.iload_n 2, 1) := by decide +kernel
theorem dX8_headRow_5 : decode cX8_headRow 5 = .ok (.aload_n 0, 1) := by decide +kernel
theorem dX8_headRow_6 : decode cX8_headRow 6 = .ok (.getfield 28, 3) := by decide +kernel
theorem dX8_headRow_9 : decode cX8_headRow 9 = .ok (.getfield 49, 3) := by decide +kernel
theorem dX8_headRow_12 : decode cX8_headRow 12 = .ok (.getfield 97, 3) := by decide +kernel
theorem dX8_headRow_15 : decode cX8_headRow 15 = .ok (.if_icmp .ge 29, 3) := by decide +kernel
theorem dX8_headRow_18 : decode cX8_headRow 18 = .ok (.iload_n 1, 1) := by decide +kernel
theorem dX8_headRow_19 : decode cX8_headRow 19 = .ok (.iconst 3, 1) := by decide +kernel
theorem dX8_headRow_20 : decode cX8_headRow 20 = .ok (.ishl, 1) := by decide +kernel
theorem dX8_headRow_21 : decode cX8_headRow 21 = .ok (.aload_n 0, 1) := by decide +kernel
theorem dX8_headRow_22 : decode cX8_headRow 22 = .ok (.getfield 28, 3) := by decide +kernel
theorem dX8_headRow_25 : decode cX8_headRow 25 = .ok (.getfield 49, 3) := by decide +kernel
theorem dX8_headRow_28 : decode cX8_headRow 28 = .ok (.iload_n 2, 1) := by decide +kernel
theorem dX8_headRow_29 : decode cX8_headRow 29 = .ok (.aload_n 0, 1) := by decide +kernel
theorem dX8_headRow_30 : decode cX8_headRow 30 = .ok (.getfield 25, 3) := by decide +kernel
theorem dX8_headRow_33 : decode cX8_headRow 33 = .ok (.invokevirtual 141, 3) := by decide +kernel
theorem dX8_headRow_36 : decode cX8_headRow 36 = .ok (.ior, 1) := by decide +kernel
theorem dX8_headRow_37 : decode cX8_headRow 37 = .ok (.istore_n 1, 1) := by decide +kernel
theorem dX8_headRow_38 : decode cX8_headRow 38 = .ok (.iinc 2 1, 3) := by decide +kernel
theorem dX8_headRow_41 : decode cX8_headRow 41 = .ok (.goto (-37), 3) := by decide +kernel
theorem dX8_headRow_44 : decode cX8_headRow 44 = .ok (.iload_n 1, 1) := by decide +kernel
theorem dX8_headRow_45 : decode cX8_headRow 45 = .ok (.ireturn, 1) := by decide +kernel
theorem dX8_freshIn_0 : decode cX8_freshIn 0 = .ok (.iconst 0, 1) := by decide +kernel
theorem dX8_freshIn_1 : decode cX8_freshIn 1 = .ok (.istore_n 2, 1) := by decide +kernel
theorem dX8_freshIn_2 : decode cX8_freshIn 2 = .ok (.iconst 0, 1) := by decide +kernel
theorem dX8_freshIn_3 : decode cX8_freshIn 3 = .ok (.istore_n 3, 1) := by decide +kernel
theorem dX8_freshIn_4 : decode cX8_freshIn 4 = .ok (.iload_n 3, 1) := by decide +kernel
theorem dX8_freshIn_5 : decode cX8_freshIn 5 = .ok (.aload_n 1, 1) := by decide +kernel
theorem dX8_freshIn_6 : decode cX8_freshIn 6 = .ok (.getfield 97, 3) := by decide +kernel
theorem dX8_freshIn_9 : decode cX8_freshIn 9 = .ok (.if_icmp .ge 32, 3) := by decide +kernel
theorem dX8_freshIn_12 : decode cX8_freshIn 12 = .ok (.aload_n 1, 1) := by decide +kernel
theorem dX8_freshIn_13 : decode cX8_freshIn 13 = .ok (.iload_n 3, 1) := by decide +kernel
theorem dX8_freshIn_14 : decode cX8_freshIn 14 = .ok (.aload_n 0, 1) := by decide +kernel
theorem dX8_freshIn_15 : decode cX8_freshIn 15 = .ok (.getfield 25, 3) := by decide +kernel
theorem dX8_freshIn_18 : decode cX8_freshIn 18 = .ok (.invokevirtual 141, 3) := by decide +kernel
theorem dX8_freshIn_21 : decode cX8_freshIn 21 = .ok (.ifCond .ge 14, 3) := by decide +kernel
theorem dX8_freshIn_24 : decode cX8_freshIn 24 = .ok (.iload_n 2, 1) := by decide +kernel
theorem dX8_freshIn_25 : decode cX8_freshIn 25 = .ok (.iconst 1, 1) := by decide +kernel
theorem dX8_freshIn_26 : decode cX8_freshIn 26 = .ok (.aload_n 1, 1) := by decide +kernel
theorem dX8_freshIn_27 : decode cX8_freshIn 27 = .ok (.getfield 98, 3) := by decide +kernel
theorem dX8_freshIn_30 : decode cX8_freshIn 30 = .ok (.iload_n 3, 1) := by decide +kernel
theorem dX8_freshIn_31 : decode cX8_freshIn 31 = .ok (.iaload, 1) := by decide +kernel
theorem dX8_freshIn_32 : decode cX8_freshIn 32 = .ok (.ishl, 1) := by decide +kernel
theorem dX8_freshIn_33 : decode cX8_freshIn 33 = .ok (.ior, 1) := by decide +kernel
theorem dX8_freshIn_34 : decode cX8_freshIn 34 = .ok (.istore_n 2, 1) := by decide +kernel
theorem dX8_freshIn_35 : decode cX8_freshIn 35 = .ok (.iinc 3 1, 3) := by decide +kernel
theorem dX8_freshIn_38 : decode cX8_freshIn 38 = .ok (.goto (-34), 3) := by decide +kernel
theorem dX8_freshIn_41 : decode cX8_freshIn 41 = .ok (.iload_n 2, 1) := by decide +kernel
theorem dX8_freshIn_42 : decode cX8_freshIn 42 = .ok (.ireturn, 1) := by decide +kernel
theorem dX8_learn_0 : decode cX8_learn 0 = .ok (.iconst 0, 1) := by decide +kernel
theorem dX8_learn_1 : decode cX8_learn 1 = .ok (.istore_n 3, 1) := by decide +kernel
theorem dX8_learn_2 : decode cX8_learn 2 = .ok (.iload_n 3, 1) := by decide +kernel
theorem dX8_learn_3 : decode cX8_learn 3 = .ok (.aload_n 1, 1) := by decide +kernel
theorem dX8_learn_4 : decode cX8_learn 4 = .ok (.getfield 66, 3) := by decide +kernel
theorem dX8_learn_7 : decode cX8_learn 7 = .ok (.getfield 97, 3) := by decide +kernel
theorem dX8_learn_10 : decode cX8_learn 10 = .ok (.if_icmp .ge 44, 3) := by decide +kernel
theorem dX8_learn_13 : decode cX8_learn 13 = .ok (.aload_n 1, 1) := by decide +kernel
theorem dX8_learn_14 : decode cX8_learn 14 = .ok (.getfield 66, 3) := by decide +kernel
theorem dX8_learn_17 : decode cX8_learn 17 = .ok (.getfield 98, 3) := by decide +kernel
theorem dX8_learn_20 : decode cX8_learn 20 = .ok (.iload_n 3, 1) := by decide +kernel
theorem dX8_learn_21 : decode cX8_learn 21 = .ok (.iaload, 1) := by decide +kernel
theorem dX8_learn_22 : decode cX8_learn 22 = .ok (.istore 4, 2) := by decide +kernel
theorem dX8_learn_24 : decode cX8_learn 24 = .ok (.iload 4, 2) := by decide +kernel
theorem dX8_learn_26 : decode cX8_learn 26 = .ok (.invokestatic 101, 3) := by decide +kernel
theorem dX8_learn_29 : decode cX8_learn 29 = .ok (.ifCond .eq 19, 3) := by decide +kernel
theorem dX8_learn_32 : decode cX8_learn 32 = .ok (.aload_n 0, 1) := by decide +kernel
theorem dX8_learn_33 : decode cX8_learn 33 = .ok (.getfield 25, 3) := by decide +kernel
theorem dX8_learn_36 : decode cX8_learn 36 = .ok (.iload 4, 2) := by decide +kernel
theorem dX8_learn_38 : decode cX8_learn 38 = .ok (.aload_n 1, 1) := by decide +kernel
theorem dX8_learn_39 : decode cX8_learn 39 = .ok (.getfield 90, 3) := by decide +kernel
theorem dX8_learn_42 : decode cX8_learn 42 = .ok (.iload_n 2, 1) := by decide +kernel
theorem dX8_learn_43 : decode cX8_learn 43 = .ok (.iload_n 3, 1) := by decide +kernel
theorem dX8_learn_44 : decode cX8_learn 44 = .ok (.invokevirtual 145, 3) := by decide +kernel
theorem dX8_learn_47 : decode cX8_learn 47 = .ok (.iastore, 1) := by decide +kernel
theorem dX8_learn_48 : decode cX8_learn 48 = .ok (.iinc 3 1, 3) := by decide +kernel
theorem dX8_learn_51 : decode cX8_learn 51 = .ok (.goto (-49), 3) := by decide +kernel
theorem dX8_learn_54 : decode cX8_learn 54 = .ok (.return_, 1) := by decide +kernel
theorem dX8_forget_0 : decode cX8_forget 0 = .ok (.iconst 0, 1) := by decide +kernel
theorem dX8_forget_1 : decode cX8_forget 1 = .ok (.istore_n 2, 1) := by decide +kernel
theorem dX8_forget_2 : decode cX8_forget 2 = .ok (.iload_n 2, 1) := by decide +kernel
theorem dX8_forget_3 : decode cX8_forget 3 = .ok (.bipush 6, 2) := by decide +kernel
theorem dX8_forget_5 : decode cX8_forget 5 = .ok (.if_icmp .ge 24, 3) := by decide +kernel
theorem dX8_forget_8 : decode cX8_forget 8 = .ok (.iload_n 1, 1) := by decide +kernel
theorem dX8_forget_9 : decode cX8_forget 9 = .ok (.iload_n 2, 1) := by decide +kernel
theorem dX8_forget_10 : decode cX8_forget 10 = .ok (.invokestatic 82, 3) := by decide +kernel
theorem dX8_forget_13 : decode cX8_forget 13 = .ok (.ifCond .eq 10, 3) := by decide +kernel
theorem dX8_forget_16 : decode cX8_forget 16 = .ok (.aload_n 0, 1) := by decide +kernel
theorem dX8_forget_17 : decode cX8_forget 17 = .ok (.getfield 25, 3) := by decide +kernel
theorem dX8_forget_20 : decode cX8_forget 20 = .ok (.iload_n 2, 1) := by decide +kernel
theorem dX8_forget_21 : decode cX8_forget 21 = .ok (.iconst (-1), 1) := by decide +kernel
theorem dX8_forget_22 : decode cX8_forget 22 = .ok (.iastore, 1) := by decide +kernel
theorem dX8_forget_23 : decode cX8_forget 23 = .ok (.iinc 2 1, 3) := by decide +kernel
theorem dX8_forget_26 : decode cX8_forget 26 = .ok (.goto (-24), 3) := by decide +kernel
theorem dX8_forget_29 : decode cX8_forget 29 = .ok (.return_, 1) := by decide +kernel
/-! Walk: the order of a rule's atoms; what is learned and forgotten -/
def kpl (t : Nat → Nat) (known : Nat) : Nat → Nat
  | 0 => 0
  | k + 1 => if t k < 6 ∧ known.testBit (t k) = false then kpl t known k else kpl t known k + 1
/-- whether atom k, with pl known places, is better than the best one so far -/
def bttr (bk : Option Nat) (pl mk mb : Nat) : Bool := match bk with
  | none => true
  | some x => decide (x < pl) || (decide (x = pl) && decide (mk < mb))
def nst (R : Nat → RRow) (u : URow) (left known : Nat) : Nat → Nat × Option Nat
  | 0 => (0, none)
  | k + 1 => if left.testBit k = true ∧ bttr (nst R u left known k).2 (kpl (u.2.2.2.2 k) known (R (u.2.2.2.1 k)).1) (R (u.2.2.2.1 k)).2.1 (R (u.2.2.2.1 (nst R u left known k).1)).2.1 = true then (k, some (kpl (u.2.2.2.2 k) known (R (u.2.2.2.1 k)).1)) else nst R u left known k
def nxt (R : Nat → RRow) (u : URow) (left known : Nat) : Nat := (nst R u left known u.2.2.1).1
/-- what is left, what is known, behind so many atoms -/
def lk (R : Nat → RRow) (u : URow) : Nat → Nat × Nat
  | 0 => (2 ^ u.2.2.1 - 1, 0)
  | p + 1 => (nd (lk R u p).1 (2 ^ nxt R u (lk R u p).1 (lk R u p).2), (lk R u p).2 ||| uvs R u (nxt R u (lk R u p).1 (lk R u p).2))
def ordF (R : Nat → RRow) (u : URow) (p : Nat) : Nat := nxt R u (lk R u p).1 (lk R u p).2
def hfF (R : Nat → RRow) (u : URow) : Nat → Nat
  | 0 => 0
  | p + 1 => if nd (vsf u.2.1 u.1) (lk R u p).2 = 0 then hfF R u p else p + 1
theorem kpl_le (t : Nat → Nat) (known : Nat) : ∀ k, kpl t known k ≤ k
  | 0 => Nat.le_refl 0
  | k + 1 => by have := kpl_le t known k; rw [kpl]; split <;> omega
theorem nst_le (R : Nat → RRow) (u : URow) (left known : Nat) : ∀ k, (nst R u left known k).1 ≤ k
  | 0 => Nat.le_refl 0
  | k + 1 => by
    have := nst_le R u left known k
    rw [nst]; split
    · exact Nat.le_succ k
    · omega
theorem nst_lt (R : Nat → RRow) (u : URow) (left known : Nat) : ∀ {k}, 0 < k → (nst R u left known k).1 < k
  | k + 1, _ => by
    have := nst_le R u left known k
    rw [nst]; split
    · exact Nat.lt_succ_self k
    · omega
theorem nst_some {R : Nat → RRow} {u : URow} {left known : Nat} : ∀ {k x}, (nst R u left known k).2 = some x → left.testBit (nst R u left known k).1 = true ∧ (nst R u left known k).1 < k ∧ x < 2 ^ 31 ∨ 2 ^ 31 ≤ x
  | 0, x, h => by cases h
  | k + 1, x, h => by
    rw [nst] at h ⊢
    split
    · rename_i g
      rw [if_pos g] at h
      rcases Nat.lt_or_ge x (2 ^ 31) with z | z
      · exact Or.inl ⟨g.1, Nat.lt_succ_self k, z⟩
      · exact Or.inr z
    · rename_i g
      rw [if_neg g] at h
      rcases nst_some h with ⟨a, b, c⟩ | z
      · exact Or.inl ⟨a, by omega, c⟩
      · exact Or.inr z
theorem nst_bk {R : Nat → RRow} {u : URow} {left known : Nat} (hP : ∀ k, k < u.2.2.1 → (R (u.2.2.2.1 k)).1 ≤ 3) : ∀ {k}, k ≤ u.2.2.1 → ∀ x, (nst R u left known k).2 = some x → x ≤ 3
  | 0, _, x, h => by cases h
  | k + 1, hk, x, h => by
    rw [nst] at h
    split at h
    · cases h
      exact Nat.le_trans (kpl_le _ _ _) (hP k (by omega))
    · exact nst_bk hP (by omega) x h
theorem lk_1 (R : Nat → RRow) (u : URow) : ∀ p, (lk R u p).1 < 2 ^ u.2.2.1
  | 0 => by rw [lk]; have := Nat.two_pow_pos u.2.2.1; show 2 ^ u.2.2.1 - 1 < _; omega
  | p + 1 => by rw [lk]; exact nd_lt (lk_1 R u p)
theorem lk_2 (R : Nat → RRow) (u : URow) : ∀ p, (lk R u p).2 < 2 ^ 6
  | 0 => by rw [lk]; show 0 < 2 ^ 6; decide
  | p + 1 => by rw [lk]; exact Nat.or_lt_two_pow (lk_2 R u p) (vsf_lt _ _)
theorem hfF_le (R : Nat → RRow) (u : URow) : ∀ p, hfF R u p ≤ p
  | 0 => Nat.le_refl 0
  | p + 1 => by have := hfF_le R u p; rw [hfF]; split <;> omega
theorem oI_lt {x : Option Nat} {p : Nat} (hx : ∀ j, x = some j → j < 2 ^ 31) (hp : p < 2 ^ 31) : oI x < nI p ↔ (x = none ∨ ∃ j, x = some j ∧ j < p) := by
  cases x with
  | none =>
    refine ⟨fun _ => Or.inl rfl, fun _ => ?_⟩
    exact Int32.lt_of_lt_of_le (show (-1 : Int32) < 0 by decide) (nI_pos' hp)
  | some j =>
    rw [show oI (some j) = nI j from rfl, nI_ltI (hx j rfl) hp]
    constructor
    · intro h; exact Or.inr ⟨j, rfl, h⟩
    · rintro (h | ⟨j', h, h'⟩)
      · cases h
      · cases h; exact h'
theorem oI_eq {x : Option Nat} {p : Nat} (hx : ∀ j, x = some j → j < 2 ^ 31) (hp : p < 2 ^ 31) : nI p = oI x ↔ x = some p := by
  cases x with
  | none =>
    refine ⟨fun h => ?_, fun h => by cases h⟩
    exact absurd (show (0 : Int32) ≤ oI none by rw [← h]; exact nI_pos' hp) (by decide)
  | some j =>
    rw [show oI (some j) = nI j from rfl, nI_eq hp (hx j rfl)]
    exact ⟨fun h => by rw [h], fun h => (Option.some.inj h).symm⟩
/-- values known are values -/
def VB (vo : Nat → Option Nat) : Prop := ∀ v x, vo v = some x → x < 8
theorem VB.t {vo : Nat → Option Nat} (h : VB vo) {t : Nat} (ht : isT t) {x : Nat} (e : tvo vo t = some x) : x < 8 := by
  unfold tvo at e
  rcases ht with h1 | h1
  · rw [if_pos (by omega)] at e; exact h _ _ e
  · rw [if_neg (by omega)] at e; cases e; omega
/-- the variables that a row of terms would learn -/
def fsh (vo : Nat → Option Nat) (t : Nat → Nat) : Nat → Nat
  | 0 => 0
  | k + 1 => if tvo vo (t k) = none then fsh vo t k ||| 2 ^ t k else fsh vo t k
def lrn (vo : Nat → Option Nat) (t : Nat → Nat) (P c : Nat) : Nat → Nat → Option Nat
  | 0 => vo
  | k + 1 => if t k < 6 then up (lrn vo t P c k) (t k) (some (dg P c k)) else lrn vo t P c k
def fgt (S : Nat) (vo : Nat → Option Nat) (k : Nat) : Nat → Option Nat := fun v => if v < k ∧ S.testBit v = true then none else vo v
def hrw (vo : Nat → Option Nat) (t : Nat → Nat) : Nat → Nat
  | 0 => 0
  | k + 1 => hrw vo t k * 8 + (tvo vo (t k)).getD 0
theorem lrnS {vo : Nat → Option Nat} {t : Nat → Nat} {P c k : Nat} : lrn vo t P c (k + 1) = if t k < 6 then up (lrn vo t P c k) (t k) (some (dg P c k)) else lrn vo t P c k := rfl
theorem VB_lrn {vo : Nat → Option Nat} (h : VB vo) (t : Nat → Nat) (P c : Nat) : ∀ k, VB (lrn vo t P c k)
  | 0 => h
  | k + 1 => by
    intro v x e
    rw [lrnS] at e
    split at e
    · unfold up at e
      split at e
      · cases e; exact dg_lt _ _ _
      · exact VB_lrn h t P c k v x e
    · exact VB_lrn h t P c k v x e
theorem fgt_0 (S : Nat) (vo : Nat → Option Nat) : fgt S vo 0 = vo := funext fun v => by rw [fgt, if_neg (by omega)]
theorem fgt_y {S k : Nat} {vo : Nat → Option Nat} (h : S.testBit k = true) : up (fgt S vo k) k none = fgt S vo (k + 1) := funext fun v => by
  simp only [up, fgt]
  by_cases e : v = k
  · subst e; rw [if_pos rfl, if_pos ⟨by omega, h⟩]
  · rw [if_neg e]
    by_cases g : v < k ∧ S.testBit v = true
    · rw [if_pos g, if_pos ⟨by omega, g.2⟩]
    · rw [if_neg g, if_neg (fun z => g ⟨by omega, z.2⟩)]
theorem fgt_n {S k : Nat} {vo : Nat → Option Nat} (h : S.testBit k = false) : fgt S vo k = fgt S vo (k + 1) := funext fun v => by
  simp only [fgt]
  by_cases e : v = k
  · subst e; rw [if_neg (by omega), if_neg (fun z => by rw [h] at z; cases z.2)]
  · by_cases g : v < k ∧ S.testBit v = true
    · rw [if_pos g, if_pos ⟨by omega, g.2⟩]
    · rw [if_neg g, if_neg (fun z => g ⟨by omega, z.2⟩)]
theorem upd_vAn {vo : Nat → Option Nat} {k : Nat} (hk : k < 2 ^ 31) : upd (vA vo) (nI k).toNatClampNeg (-1) = vA (up vo k none) := by rw [nI_clamp hk]; exact upd_vA (o := none)
set_option maxHeartbeats 4000000 in
set_option maxRecDepth 100000 in
/-- knownPlaces(terms, known) -/
theorem m_knownPlaces (l : Launch) (D : va_G) (cy : Nat → ClassId) (O : Nat × va_E → Prop) {tm ta n : Nat} {x1 y1 : Value} {t : Nat → Nat} {Tf : Nat → Int32} (hM : O (tm, .inr (7, [.int (nI n), .ref ta, x1, y1]))) (hT : O (ta, .inl (cy 0, 3, .inl Tf))) (hn3 : n ≤ 3) (ht : ∀ k, k < n → Tf k = nI (t k) ∧ isT (t k)) {known : Nat} (hk9 : known < 2 ^ 31) : Ci l yX8_knownPlaces (.code yX8_knownPlaces cX8_knownPlaces 4 (some .int) :: WALL) ({ frames := 1, cells := 0, slots := 0, locals := 21 }) D cy O [.ref tm, .int (nI known)] [] 0 0 (fun (r : Int32) (w : va_W) => r = nI (kpl t known n) ∧ w = []) := by
  refine z_meti (by decide) rfl rfl (Nat.le_of_ble_eq_true rfl) ?_
  intro p e s m args below meth c X hr hin
  refine z_eq (ws' := []) (lv' := [(0, .ref tm), (1, .int (nI known))]) (st' := []) rfl rfl rfl ?_
  have L : ∀ (d : Nat) (k : Nat), k + d = n → Zz D (va_A [] s.heap.size) 4 p l e ({ frames := 1, cells := 0, slots := 0, locals := 21 }) s m args below meth c (MQ below (va_Qi (fun (r : Int32) (w : va_W) => r = nI (kpl t known n) ∧ w = []) (end_ D [] s.heap.size) (va_A [] s.heap.size)) args s 0 0 (va_A [] s.heap.size)) [] [(3, .int (nI k)), (2, .int (nI (kpl t known k))), (0, .ref tm), (1, .int (nI known))] 0 0 4 [] := by
    intro d
    induction d with
    | zero =>
      intro k hL0
      refine z_iload_n X dX8_knownPlaces_4 rfl (j := 0) rfl ?_
      refine z_aload_n X dX8_knownPlaces_5 rfl (j := 2) rfl ?_
      refine z_getO X (ci := 7) (C := RX7) (T := TX7) (N := 4) inX7 hM rfl 0 (by decide) fl_X8_97 (fun _ h9 => h9) rfl dX8_knownPlaces_6 ?_
      refine z_icmp_ge X (tgt := 46) dX8_knownPlaces_9 (by decide) (fun c_9 => ?_) (fun c9 => absurd (by rw [show k = n by omega]; exact nI_le (Nat.le_refl _) (by omega)) c9)
      refine z_iload_n X dX8_knownPlaces_46 rfl (j := 1) rfl ?_
      exact z_endi X hr [] [] rfl rfl rfl ⟨(by rw [show k = n by omega]), rfl⟩ dX8_knownPlaces_47
    | succ d ih =>
      intro k hL0
      have htk := (ht k (by omega)).2
      unfold isT at htk
      refine z_iload_n X dX8_knownPlaces_4 rfl (j := 0) rfl ?_
      refine z_aload_n X dX8_knownPlaces_5 rfl (j := 2) rfl ?_
      refine z_getO X (ci := 7) (C := RX7) (T := TX7) (N := 4) inX7 hM rfl 0 (by decide) fl_X8_97 (fun _ h9 => h9) rfl dX8_knownPlaces_6 ?_
      refine z_icmp_ge X (tgt := 46) dX8_knownPlaces_9 (by decide) (fun c9 => absurd c9 (nI_ge (by omega) (by omega))) (fun c_9 => ?_)
      refine z_aload_n X dX8_knownPlaces_12 rfl (j := 2) rfl ?_
      refine z_getO X (ci := 7) (C := RX7) (T := TX7) (N := 4) inX7 hM rfl 1 (by decide) fl_X8_98 (fun _ h9 => h9) rfl dX8_knownPlaces_13 ?_
      refine z_iload_n X dX8_knownPlaces_16 rfl (j := 0) rfl ?_
      refine z_ialdO X hT (v := (nI (t k))) (vp_in_nI (by omega) (by decide)) (at_nI (by omega) (ht k (by omega)).1) dX8_knownPlaces_17 ?_
      refine z_reti X (as := [.int (nI (t k))]) (wc := []) (wr := []) (rest := []) (fun H9 locs9 ls9 hP9 hS9 hl9 hb9 hp9 => va_runSN (As := [.int (nI (t k))]) (rest := []) X.fix (m_isVariable l D cy O (nI (t k)) H9.size) ⟨va_cnB 1 X.hts (gB cd_X9_isVariable) rfl rfl rfl (X.nw.1 _ (List.mem_of_getElem? (i := 11) rfl)) (X.hts _ ni_X9) (by decide +kernel) ⟨Nat.le_of_ble_eq_true rfl, Nat.le_of_ble_eq_true rfl⟩, X.hts _ sm_X9_isVariable, trivial⟩ ⟨hb9, hp9⟩ rfl rfl hl9.1 rfl (lv_room (Nat.le_of_ble_eq_true rfl)) dX8_knownPlaces_18 ⟨Nat.le_of_ble_eq_true rfl, Nat.le_of_ble_eq_true rfl⟩) [] [] rfl rfl rfl rfl rfl (by decide) (fun _ h => Or.inl h) (fun r1 w2 h3 => ?_)
      obtain ⟨rfl, rfl⟩ := h3
      refine z_eq (ws' := []) (lv' := [(3, .int (nI k)), (2, .int (nI (kpl t known k))), (0, .ref tm), (1, .int (nI known))]) (st' := [.int (vI (nI (t k)))]) rfl rfl rfl ?_
      refine z_widen (k' := 0) (n' := 0) (Nat.le_refl _) (Nat.le_refl _) ?_
      refine z_if_eq X (tgt := 37) dX8_knownPlaces_21 (by decide) (fun c_21 => ?_) (fun c_21 => ?_)
      · skip
        have hlt : ¬ t k < 6 := by
          rw [vI_nI (by omega)] at c_21
          by_cases h9 : t k < 6
          · rw [if_pos h9] at c_21; exact absurd c_21 (by decide)
          · exact h9
        refine z_iinc X (j := 1) (v := (nI (kpl t known k + 1))) (lv' := [(2, .int (nI (kpl t known k + 1))), (3, .int (nI k)), (0, .ref tm), (1, .int (nI known))]) dX8_knownPlaces_37 rfl (nI_1 _) (by decide) rfl ?_
        refine z_iinc X (j := 1) (v := (nI (k + 1))) (lv' := [(3, .int (nI (k + 1))), (2, .int (nI (kpl t known k + 1))), (0, .ref tm), (1, .int (nI known))]) dX8_knownPlaces_40 rfl (nI_1 k) (by decide) rfl ?_
        refine z_goto X (tgt := 4) dX8_knownPlaces_43 (by decide) ?_
        refine z_lv [0, 1, 2, 3] (lv' := [(3, .int (nI (k + 1))), (2, .int (nI (kpl t known k + 1))), (0, .ref tm), (1, .int (nI known))]) rfl ?_
        refine z_eq (ws' := []) (lv' := [(3, .int (nI (k + 1))), (2, .int (nI (kpl t known (k + 1)))), (0, .ref tm), (1, .int (nI known))]) (st' := []) rfl (by rw [kpl, if_neg (fun z => hlt z.1)]) rfl ?_
        exact ih (k + 1) (by omega)
      · skip
        have hlt : t k < 6 := by
          rw [vI_nI (by omega)] at c_21
          by_cases h9 : t k < 6
          · exact h9
          · rw [if_neg h9] at c_21; exact absurd rfl c_21
        refine z_iload_n X dX8_knownPlaces_24 rfl (j := 3) rfl ?_
        refine z_aload_n X dX8_knownPlaces_25 rfl (j := 2) rfl ?_
        refine z_getO X (ci := 7) (C := RX7) (T := TX7) (N := 4) inX7 hM rfl 1 (by decide) fl_X8_98 (fun _ h9 => h9) rfl dX8_knownPlaces_26 ?_
        refine z_iload_n X dX8_knownPlaces_29 rfl (j := 0) rfl ?_
        refine z_ialdO X hT (v := (nI (t k))) (vp_in_nI (by omega) (by decide)) (at_nI (by omega) (ht k (by omega)).1) dX8_knownPlaces_30 ?_
        refine z_reti X (as := [.int (nI known), .int (nI (t k))]) (wc := []) (wr := []) (rest := []) (fun H9 locs9 ls9 hP9 hS9 hl9 hb9 hp9 => va_runSN (As := [.int (nI known), .int (nI (t k))]) (rest := []) X.fix (m_isIn l D cy O (nI (known)) (nI (t k)) H9.size) ⟨va_cnB 2 X.hts (gB cd_X9_isIn) rfl rfl rfl (X.nw.1 _ (List.mem_of_getElem? (i := 10) rfl)) (X.hts _ ni_X9) (by decide +kernel) ⟨Nat.le_of_ble_eq_true rfl, Nat.le_of_ble_eq_true rfl⟩, X.hts _ sm_X9_isIn, trivial⟩ ⟨hb9, hp9⟩ rfl rfl hl9.1 rfl (lv_room (Nat.le_of_ble_eq_true rfl)) dX8_knownPlaces_31 ⟨Nat.le_of_ble_eq_true rfl, Nat.le_of_ble_eq_true rfl⟩) [] [] rfl rfl rfl rfl rfl (by decide) (fun _ h => Or.inl h) (fun r4 w5 h6 => ?_)
        obtain ⟨rfl, rfl⟩ := h6
        refine z_eq (ws' := []) (lv' := [(3, .int (nI k)), (2, .int (nI (kpl t known k))), (0, .ref tm), (1, .int (nI known))]) (st' := [.int (bI (nI (known)) (nI (t k)))]) rfl rfl rfl ?_
        refine z_widen (k' := 0) (n' := 0) (Nat.le_refl _) (Nat.le_refl _) ?_
        refine z_if_eq X (tgt := 40) dX8_knownPlaces_34 (by decide) (fun c_34 => ?_) (fun c_34 => ?_)
        · skip
          refine z_iinc X (j := 0) (v := (nI (k + 1))) (lv' := [(3, .int (nI (k + 1))), (2, .int (nI (kpl t known k))), (0, .ref tm), (1, .int (nI known))]) dX8_knownPlaces_40 rfl (nI_1 k) (by decide) rfl ?_
          refine z_goto X (tgt := 4) dX8_knownPlaces_43 (by decide) ?_
          refine z_lv [0, 1, 2, 3] (lv' := [(3, .int (nI (k + 1))), (2, .int (nI (kpl t known k))), (0, .ref tm), (1, .int (nI known))]) rfl ?_
          refine z_eq (ws' := []) (lv' := [(3, .int (nI (k + 1))), (2, .int (nI (kpl t known (k + 1)))), (0, .ref tm), (1, .int (nI known))]) (st' := []) rfl (by rw [kpl, if_pos ⟨hlt, bit_no hk9 (by omega) c_34⟩]) rfl ?_
          exact ih (k + 1) (by omega)
        · skip
          refine z_iinc X (j := 1) (v := (nI (kpl t known k + 1))) (lv' := [(2, .int (nI (kpl t known k + 1))), (3, .int (nI k)), (0, .ref tm), (1, .int (nI known))]) dX8_knownPlaces_37 rfl (nI_1 _) (by decide) rfl ?_
          refine z_iinc X (j := 1) (v := (nI (k + 1))) (lv' := [(3, .int (nI (k + 1))), (2, .int (nI (kpl t known k + 1))), (0, .ref tm), (1, .int (nI known))]) dX8_knownPlaces_40 rfl (nI_1 k) (by decide) rfl ?_
          refine z_goto X (tgt := 4) dX8_knownPlaces_43 (by decide) ?_
          refine z_lv [0, 1, 2, 3] (lv' := [(3, .int (nI (k + 1))), (2, .int (nI (kpl t known k + 1))), (0, .ref tm), (1, .int (nI known))]) rfl ?_
          refine z_eq (ws' := []) (lv' := [(3, .int (nI (k + 1))), (2, .int (nI (kpl t known (k + 1)))), (0, .ref tm), (1, .int (nI known))]) (st' := []) rfl (by rw [kpl, if_neg (fun z => by rw [bit_yes hk9 (by omega) c_34] at z; cases z.2)]) rfl ?_
          exact ih (k + 1) (by omega)
  refine z_iconst X (v := 0) dX8_knownPlaces_0 (by decide) ?_
  refine z_istore_n X (lv' := [(2, .int 0), (0, .ref tm), (1, .int (nI known))]) dX8_knownPlaces_1 rfl (by decide) rfl ?_
  refine z_iconst X (v := 0) dX8_knownPlaces_2 (by decide) ?_
  refine z_istore_n X (lv' := [(3, .int 0), (2, .int 0), (0, .ref tm), (1, .int (nI known))]) dX8_knownPlaces_3 rfl (by decide) rfl ?_
  refine z_eq (ws' := []) (lv' := [(3, .int (nI 0)), (2, .int (nI (kpl t known 0))), (0, .ref tm), (1, .int (nI known))]) (st' := []) rfl rfl rfl ?_
  exact L (n) 0 (by omega)
set_option maxHeartbeats 4000000 in
set_option maxRecDepth 100000 in
/-- nextOf(left, known) -/
theorem m_nextOf (l : Launch) (D : va_G) (cy : Nat → ClassId) (O : Nat × va_E → Prop) {wk od sz b5 gv left known : Nat} {v5 v6 : Value} {bq rc : Nat} {R : Nat → RRow} {rb : Nat → Nat} {q : URow} (hR : ∀ j, j < rc → RlO O cy (rb j) (R j)) (hq : RuO O cy R rb rc bq q) (hW9 : O (wk, .inr (8, [.ref od, .ref sz, .ref b5, .ref gv, .ref bq, v5, v6]))) (hl9 : left < 2 ^ 31) (hk9 : known < 2 ^ 31) : Ci l yX8_nextOf (.code yX8_nextOf cX8_nextOf 7 (some .int) :: WALL) ({ frames := 2, cells := 0, slots := 0, locals := 44 }) D cy O [.ref wk, .int (nI left), .int (nI known)] [] 0 0 (fun (r : Int32) (w : va_W) => r = nI (nxt R q left known) ∧ w = []) := by
  obtain ⟨hd1, aa1, F1, aA1, tA1, hB1, ⟨ta1, T1, hM1, hT1, ht1⟩, hF1, hh1, hm1, hat1⟩ := hq
  have hPP : ∀ k, k < q.2.2.1 → (R (q.2.2.2.1 k)).1 ≤ 3 := fun k hk => by
    obtain ⟨_, _, _, _, _, _, _, _, _, _, hP1, hP3, -⟩ := hR _ (hat1 k hk).2.1
    exact hP3
  have hMM : ∀ k, k < q.2.2.1 → (R (q.2.2.2.1 k)).2.1 ≤ 24 := fun k hk => by
    obtain ⟨_, _, _, _, _, _, _, _, _, _, hP1, hP3, hM, -⟩ := hR _ (hat1 k hk).2.1
    exact hM
  refine z_meti (by decide) rfl rfl (Nat.le_of_ble_eq_true rfl) ?_
  intro p e s m args below meth c X hr hin
  refine z_eq (ws' := []) (lv' := [(0, .ref wk), (1, .int (nI left)), (2, .int (nI known))]) (st' := []) rfl rfl rfl ?_
  have L : ∀ (d : Nat) (k : Nat), k + d = q.2.2.1 → Zz D (va_A [] s.heap.size) 7 p l e ({ frames := 2, cells := 0, slots := 0, locals := 44 }) s m args below meth c (MQ below (va_Qi (fun (r : Int32) (w : va_W) => r = nI (nxt R q left known) ∧ w = []) (end_ D [] s.heap.size) (va_A [] s.heap.size)) args s 0 0 (va_A [] s.heap.size)) [] [(5, .int (nI k)), (4, .int (oI (nst R q left known k).2)), (3, .int (nI (nst R q left known k).1)), (0, .ref wk), (1, .int (nI left)), (2, .int (nI known))] 0 0 8 [] := by
    intro d
    induction d with
    | zero =>
      intro k hL0
      refine z_iload X dX8_nextOf_8 (j := 0) rfl ?_
      refine z_aload_n X dX8_nextOf_10 rfl (j := 3) rfl ?_
      refine z_getO X (ci := 8) (C := RX8) (T := TX8) (N := 7) inX8 hW9 rfl 4 (by decide) fl_X8_28 (fun _ h9 => h9) rfl dX8_nextOf_11 ?_
      refine z_getO X (ci := 6) (C := RX6) (T := TX6) (N := 3) inX6 hB1 rfl 2 (by decide) fl_X8_46 (fun _ h9 => h9) rfl dX8_nextOf_14 ?_
      refine z_icmp_ge X (tgt := 109) dX8_nextOf_17 (by decide) (fun c_17 => ?_) (fun c9 => absurd (by rw [show k = q.2.2.1 by omega]; exact nI_le (Nat.le_refl _) (by omega)) c9)
      refine z_iload_n X dX8_nextOf_109 rfl (j := 2) rfl ?_
      exact z_endi X hr [] [] rfl rfl rfl ⟨(by rw [show k = q.2.2.1 by omega]; rfl), rfl⟩ dX8_nextOf_110
    | succ d ih =>
      intro k hL0
      have hbk : ∀ j, (nst R q left known k).2 = some j → j < 2 ^ 31 := fun j e => Nat.lt_of_le_of_lt (nst_bk hPP (show k ≤ q.2.2.1 by omega) j e) (by decide)
      have hkp : (kpl (q.2.2.2.2 k) known (R (q.2.2.2.1 k)).1) ≤ 3 := Nat.le_trans (kpl_le _ _ _) (hPP k (by omega))
      refine z_iload X dX8_nextOf_8 (j := 0) rfl ?_
      refine z_aload_n X dX8_nextOf_10 rfl (j := 3) rfl ?_
      refine z_getO X (ci := 8) (C := RX8) (T := TX8) (N := 7) inX8 hW9 rfl 4 (by decide) fl_X8_28 (fun _ h9 => h9) rfl dX8_nextOf_11 ?_
      refine z_getO X (ci := 6) (C := RX6) (T := TX6) (N := 3) inX6 hB1 rfl 2 (by decide) fl_X8_46 (fun _ h9 => h9) rfl dX8_nextOf_14 ?_
      refine z_icmp_ge X (tgt := 109) dX8_nextOf_17 (by decide) (fun c9 => absurd c9 (nI_ge (by omega) (by omega))) (fun c_17 => ?_)
      refine z_iload_n X dX8_nextOf_20 rfl (j := 4) rfl ?_
      refine z_iload X dX8_nextOf_21 (j := 0) rfl ?_
      refine z_reti X (as := [.int (nI left), .int (nI k)]) (wc := []) (wr := []) (rest := []) (fun H9 locs9 ls9 hP9 hS9 hl9 hb9 hp9 => va_runSN (As := [.int (nI left), .int (nI k)]) (rest := []) X.fix (m_isIn l D cy O (nI (left)) (nI (k)) H9.size) ⟨va_cnB 2 X.hts (gB cd_X9_isIn) rfl rfl rfl (X.nw.1 _ (List.mem_of_getElem? (i := 10) rfl)) (X.hts _ ni_X9) (by decide +kernel) ⟨Nat.le_of_ble_eq_true rfl, Nat.le_of_ble_eq_true rfl⟩, X.hts _ sm_X9_isIn, trivial⟩ ⟨hb9, hp9⟩ rfl rfl hl9.1 rfl (lv_room (Nat.le_of_ble_eq_true rfl)) dX8_nextOf_23 ⟨Nat.le_of_ble_eq_true rfl, Nat.le_of_ble_eq_true rfl⟩) [] [] rfl rfl rfl rfl rfl (by decide) (fun _ h => Or.inl h) (fun r1 w2 h3 => ?_)
      obtain ⟨rfl, rfl⟩ := h3
      refine z_eq (ws' := []) (lv' := [(5, .int (nI k)), (4, .int (oI (nst R q left known k).2)), (3, .int (nI (nst R q left known k).1)), (0, .ref wk), (1, .int (nI left)), (2, .int (nI known))]) (st' := [.int (bI (nI (left)) (nI (k)))]) rfl rfl rfl ?_
      refine z_widen (k' := 0) (n' := 0) (Nat.le_refl _) (Nat.le_refl _) ?_
      refine z_if_eq X (tgt := 103) dX8_nextOf_26 (by decide) (fun c_26 => ?_) (fun c_26 => ?_)
      · skip
        refine z_iinc X (j := 0) (v := (nI (k + 1))) (lv' := [(5, .int (nI (k + 1))), (4, .int (oI (nst R q left known k).2)), (3, .int (nI (nst R q left known k).1)), (0, .ref wk), (1, .int (nI left)), (2, .int (nI known))]) dX8_nextOf_103 rfl (nI_1 k) (by decide) rfl ?_
        refine z_goto X (tgt := 8) dX8_nextOf_106 (by decide) ?_
        refine z_lv [0, 1, 2, 3, 4, 5] (lv' := [(5, .int (nI (k + 1))), (4, .int (oI (nst R q left known k).2)), (3, .int (nI (nst R q left known k).1)), (0, .ref wk), (1, .int (nI left)), (2, .int (nI known))]) rfl ?_
        refine z_eq (ws' := []) (lv' := [(5, .int (nI (k + 1))), (4, .int (oI (nst R q left known (k + 1)).2)), (3, .int (nI (nst R q left known (k + 1)).1)), (0, .ref wk), (1, .int (nI left)), (2, .int (nI known))]) (st' := []) rfl (by rw [nst, if_neg (fun z => by rw [bit_no hl9 (by omega) c_26] at z; cases z.1)]) rfl ?_
        exact ih (k + 1) (by omega)
      · skip
        have hbt := bit_yes hl9 (by omega) c_26
        obtain ⟨-, hq1, hc1, ta3, T3, hc3, hc5, hc7⟩ := hat1 k (by omega)
        refine z_aload_n X dX8_nextOf_29 rfl (j := 3) rfl ?_
        refine z_getO X (ci := 8) (C := RX8) (T := TX8) (N := 7) inX8 hW9 rfl 4 (by decide) fl_X8_28 (fun _ h9 => h9) rfl dX8_nextOf_30 ?_
        refine z_getO X (ci := 6) (C := RX6) (T := TX6) (N := 3) inX6 hB1 rfl 1 (by decide) fl_X8_62 (fun _ h9 => h9) rfl dX8_nextOf_33 ?_
        refine z_iload X dX8_nextOf_36 (j := 0) rfl ?_
        refine z_aaldO X (t := 5) hF1 rfl (b := (aA1 k)) (vp_in_nI (by omega) (by decide)) (by rw [nI_clamp (by omega)]; exact (hat1 k (by omega)).1) dX8_nextOf_38 ?_
        refine z_getO X (ci := 0) (C := RX0) (T := TX0) (N := 2) inX0 hc1 rfl 1 (by decide) fl_X8_66 (fun _ h9 => h9) rfl dX8_nextOf_39 ?_
        refine z_iload_n X dX8_nextOf_42 rfl (j := 5) rfl ?_
        refine z_reti X (as := [.ref (tA1 k), .int (nI known)]) (wc := []) (wr := []) (rest := []) (fun H9 locs9 ls9 hP9 hS9 hl9 hb9 hp9 => va_runS (As := [.ref (tA1 k), .int (nI known)]) (rest := []) X.fix (m_knownPlaces l D cy O hc3 hc5 (hPP k (by omega)) hc7 hk9 H9.size) (va_cwS 2 X.hts (gS ml_X8_86 sm_X8_knownPlaces ni_X8 cd_X8_knownPlaces) rfl rfl rfl (by decide +kernel) ⟨Nat.le_of_ble_eq_true rfl, Nat.le_of_ble_eq_true rfl⟩) ⟨hb9, hp9⟩ rfl rfl hl9.1 rfl (lv_room (Nat.le_of_ble_eq_true rfl)) dX8_nextOf_43 ⟨Nat.le_of_ble_eq_true rfl, Nat.le_of_ble_eq_true rfl⟩) [] [] rfl rfl rfl rfl rfl (by decide) (fun _ h => Or.inl h) (fun r4 w5 h6 => ?_)
        obtain ⟨rfl, rfl⟩ := h6
        refine z_eq (ws' := []) (lv' := [(5, .int (nI k)), (4, .int (oI (nst R q left known k).2)), (3, .int (nI (nst R q left known k).1)), (0, .ref wk), (1, .int (nI left)), (2, .int (nI known))]) (st' := [.int (nI (kpl (q.2.2.2.2 k) known (R (q.2.2.2.1 k)).1))]) rfl rfl rfl ?_
        refine z_widen (k' := 0) (n' := 0) (Nat.le_refl _) (Nat.le_refl _) ?_
        refine z_istore X (lv' := [(6, .int (nI (kpl (q.2.2.2.2 k) known (R (q.2.2.2.1 k)).1))), (5, .int (nI k)), (4, .int (oI (nst R q left known k).2)), (3, .int (nI (nst R q left known k).1)), (0, .ref wk), (1, .int (nI left)), (2, .int (nI known))]) dX8_nextOf_46 (by decide) rfl ?_
        refine z_iload X dX8_nextOf_48 (j := 0) rfl ?_
        refine z_iload X dX8_nextOf_50 (j := 2) rfl ?_
        refine z_icmp_gt X (tgt := 96) dX8_nextOf_52 (by decide) (fun c_52 => ?_) (fun c_52 => ?_)
        · skip
          have hbb : bttr (nst R q left known k).2 (kpl (q.2.2.2.2 k) known (R (q.2.2.2.1 k)).1) (R (q.2.2.2.1 k)).2.1 (R (q.2.2.2.1 (nst R q left known k).1)).2.1 = true := by
            rcases (oI_lt hbk (by omega)).mp c_52 with e | ⟨j, e, hj⟩
            · rw [e]; rfl
            · rw [e]; simp [bttr, hj]
          refine z_iload X dX8_nextOf_96 (j := 1) rfl ?_
          refine z_istore_n X (lv' := [(3, .int (nI k)), (6, .int (nI (kpl (q.2.2.2.2 k) known (R (q.2.2.2.1 k)).1))), (5, .int (nI k)), (4, .int (oI (nst R q left known k).2)), (0, .ref wk), (1, .int (nI left)), (2, .int (nI known))]) dX8_nextOf_98 rfl (by decide) rfl ?_
          refine z_iload X dX8_nextOf_99 (j := 1) rfl ?_
          refine z_istore X (lv' := [(4, .int (nI (kpl (q.2.2.2.2 k) known (R (q.2.2.2.1 k)).1))), (3, .int (nI k)), (6, .int (nI (kpl (q.2.2.2.2 k) known (R (q.2.2.2.1 k)).1))), (5, .int (nI k)), (0, .ref wk), (1, .int (nI left)), (2, .int (nI known))]) dX8_nextOf_101 (by decide) rfl ?_
          refine z_iinc X (j := 3) (v := (nI (k + 1))) (lv' := [(5, .int (nI (k + 1))), (4, .int (nI (kpl (q.2.2.2.2 k) known (R (q.2.2.2.1 k)).1))), (3, .int (nI k)), (6, .int (nI (kpl (q.2.2.2.2 k) known (R (q.2.2.2.1 k)).1))), (0, .ref wk), (1, .int (nI left)), (2, .int (nI known))]) dX8_nextOf_103 rfl (nI_1 k) (by decide) rfl ?_
          refine z_goto X (tgt := 8) dX8_nextOf_106 (by decide) ?_
          refine z_lv [0, 1, 2, 4, 5, 6] (lv' := [(5, .int (nI (k + 1))), (4, .int (nI (kpl (q.2.2.2.2 k) known (R (q.2.2.2.1 k)).1))), (3, .int (nI k)), (0, .ref wk), (1, .int (nI left)), (2, .int (nI known))]) rfl ?_
          refine z_eq (ws' := []) (lv' := [(5, .int (nI (k + 1))), (4, .int (oI (nst R q left known (k + 1)).2)), (3, .int (nI (nst R q left known (k + 1)).1)), (0, .ref wk), (1, .int (nI left)), (2, .int (nI known))]) (st' := []) rfl (by rw [nst, if_pos ⟨hbt, hbb⟩]; rfl) rfl ?_
          exact ih (k + 1) (by omega)
        · skip
          refine z_iload X dX8_nextOf_55 (j := 0) rfl ?_
          refine z_iload X dX8_nextOf_57 (j := 2) rfl ?_
          refine z_icmp_ne X (tgt := 103) dX8_nextOf_59 (by decide) (fun c_59 => ?_) (fun c_59 => ?_)
          · skip
            have hnb : ¬ bttr (nst R q left known k).2 (kpl (q.2.2.2.2 k) known (R (q.2.2.2.1 k)).1) (R (q.2.2.2.1 k)).2.1 (R (q.2.2.2.1 (nst R q left known k).1)).2.1 = true := by
              intro h9
              cases e : (nst R q left known k).2 with
              | none => exact c_52 ((oI_lt hbk (by omega)).mpr (Or.inl e))
              | some j =>
                rw [e] at h9
                simp only [bttr, Bool.or_eq_true, Bool.and_eq_true, decide_eq_true_eq] at h9
                rcases h9 with h8 | h8
                · exact c_52 ((oI_lt hbk (by omega)).mpr (Or.inr ⟨j, e, h8⟩))
                · exact c_59 ((oI_eq hbk (by omega)).mpr (by rw [e, h8.1]))
            refine z_iinc X (j := 1) (v := (nI (k + 1))) (lv' := [(5, .int (nI (k + 1))), (6, .int (nI (kpl (q.2.2.2.2 k) known (R (q.2.2.2.1 k)).1))), (4, .int (oI (nst R q left known k).2)), (3, .int (nI (nst R q left known k).1)), (0, .ref wk), (1, .int (nI left)), (2, .int (nI known))]) dX8_nextOf_103 rfl (nI_1 k) (by decide) rfl ?_
            refine z_goto X (tgt := 8) dX8_nextOf_106 (by decide) ?_
            refine z_lv [0, 2, 3, 4, 5, 6] (lv' := [(5, .int (nI (k + 1))), (4, .int (oI (nst R q left known k).2)), (3, .int (nI (nst R q left known k).1)), (0, .ref wk), (1, .int (nI left)), (2, .int (nI known))]) rfl ?_
            refine z_eq (ws' := []) (lv' := [(5, .int (nI (k + 1))), (4, .int (oI (nst R q left known (k + 1)).2)), (3, .int (nI (nst R q left known (k + 1)).1)), (0, .ref wk), (1, .int (nI left)), (2, .int (nI known))]) (st' := []) rfl (by rw [nst, if_neg (fun z => hnb z.2)]) rfl ?_
            exact ih (k + 1) (by omega)
          · skip
            obtain ⟨_, _, _, _, _, hrk, -⟩ := hR _ hq1
            have hbs := (nst_le R q left known k)
            obtain ⟨-, hq2, hc2, -⟩ := hat1 (nst R q left known k).1 (by omega)
            obtain ⟨_, _, _, _, _, hrb, -⟩ := hR _ hq2
            refine z_aload_n X dX8_nextOf_62 rfl (j := 4) rfl ?_
            refine z_getO X (ci := 8) (C := RX8) (T := TX8) (N := 7) inX8 hW9 rfl 4 (by decide) fl_X8_28 (fun _ h9 => h9) rfl dX8_nextOf_63 ?_
            refine z_getO X (ci := 6) (C := RX6) (T := TX6) (N := 3) inX6 hB1 rfl 1 (by decide) fl_X8_62 (fun _ h9 => h9) rfl dX8_nextOf_66 ?_
            refine z_iload X dX8_nextOf_69 (j := 1) rfl ?_
            refine z_aaldO X (t := 5) hF1 rfl (b := (aA1 k)) (vp_in_nI (by omega) (by decide)) (by rw [nI_clamp (by omega)]; exact (hat1 k (by omega)).1) dX8_nextOf_71 ?_
            refine z_getO X (ci := 0) (C := RX0) (T := TX0) (N := 2) inX0 hc1 rfl 0 (by decide) fl_X8_90 (fun _ h9 => h9) rfl dX8_nextOf_72 ?_
            refine z_getO X (ci := 4) (C := RX4) (T := TX4) (N := 6) inX4 hrk rfl 2 (by decide) fl_X8_94 (fun _ h9 => h9) rfl dX8_nextOf_75 ?_
            refine z_aload_n X dX8_nextOf_78 rfl (j := 4) rfl ?_
            refine z_getO X (ci := 8) (C := RX8) (T := TX8) (N := 7) inX8 hW9 rfl 4 (by decide) fl_X8_28 (fun _ h9 => h9) rfl dX8_nextOf_79 ?_
            refine z_getO X (ci := 6) (C := RX6) (T := TX6) (N := 3) inX6 hB1 rfl 1 (by decide) fl_X8_62 (fun _ h9 => h9) rfl dX8_nextOf_82 ?_
            refine z_iload_n X dX8_nextOf_85 rfl (j := 3) rfl ?_
            refine z_aaldO X (t := 5) hF1 rfl (b := (aA1 (nst R q left known k).1)) (vp_in_nI (by omega) (by decide)) (by rw [nI_clamp (by omega)]; exact (hat1 _ (by omega)).1) dX8_nextOf_86 ?_
            refine z_getO X (ci := 0) (C := RX0) (T := TX0) (N := 2) inX0 hc2 rfl 0 (by decide) fl_X8_90 (fun _ h9 => h9) rfl dX8_nextOf_87 ?_
            refine z_getO X (ci := 4) (C := RX4) (T := TX4) (N := 6) inX4 hrb rfl 2 (by decide) fl_X8_94 (fun _ h9 => h9) rfl dX8_nextOf_90 ?_
            refine z_icmp_ge X (tgt := 103) dX8_nextOf_93 (by decide) (fun c_93 => ?_) (fun c_93 => ?_)
            · skip
              have hnb : ¬ bttr (nst R q left known k).2 (kpl (q.2.2.2.2 k) known (R (q.2.2.2.1 k)).1) (R (q.2.2.2.1 k)).2.1 (R (q.2.2.2.1 (nst R q left known k).1)).2.1 = true := by
                intro h9
                have e := (oI_eq hbk (by omega)).mp c_59
                rw [e] at h9
                simp only [bttr, Bool.or_eq_true, Bool.and_eq_true, decide_eq_true_eq] at h9
                rcases h9 with h8 | h8
                · omega
                · exact absurd ((nI_ltI (by have := hMM k (by omega); omega) (by have := hMM (nst R q left known k).1 (by omega); omega)).mpr h8.2) (fun z => by have h7 := (nI_leI (by have := hMM (nst R q left known k).1 (by omega); omega) (by have := hMM k (by omega); omega)).mp c_93; have := h8.2; omega)
              refine z_iinc X (j := 1) (v := (nI (k + 1))) (lv' := [(5, .int (nI (k + 1))), (6, .int (nI (kpl (q.2.2.2.2 k) known (R (q.2.2.2.1 k)).1))), (4, .int (oI (nst R q left known k).2)), (3, .int (nI (nst R q left known k).1)), (0, .ref wk), (1, .int (nI left)), (2, .int (nI known))]) dX8_nextOf_103 rfl (nI_1 k) (by decide) rfl ?_
              refine z_goto X (tgt := 8) dX8_nextOf_106 (by decide) ?_
              refine z_lv [0, 2, 3, 4, 5, 6] (lv' := [(5, .int (nI (k + 1))), (4, .int (oI (nst R q left known k).2)), (3, .int (nI (nst R q left known k).1)), (0, .ref wk), (1, .int (nI left)), (2, .int (nI known))]) rfl ?_
              refine z_eq (ws' := []) (lv' := [(5, .int (nI (k + 1))), (4, .int (oI (nst R q left known (k + 1)).2)), (3, .int (nI (nst R q left known (k + 1)).1)), (0, .ref wk), (1, .int (nI left)), (2, .int (nI known))]) (st' := []) rfl (by rw [nst, if_neg (fun z => hnb z.2)]) rfl ?_
              exact ih (k + 1) (by omega)
            · skip
              have hbb : bttr (nst R q left known k).2 (kpl (q.2.2.2.2 k) known (R (q.2.2.2.1 k)).1) (R (q.2.2.2.1 k)).2.1 (R (q.2.2.2.1 (nst R q left known k).1)).2.1 = true := by
                have e := (oI_eq hbk (by omega)).mp c_59
                have hlt := lt_of_nle (a := (R (q.2.2.2.1 (nst R q left known k).1)).2.1) (b := (R (q.2.2.2.1 k)).2.1) c_93 (by have := hMM (nst R q left known k).1 (by omega); omega) (by have := hMM k (by omega); omega)
                rw [e]; simp [bttr, hlt]
              refine z_iload X dX8_nextOf_96 (j := 1) rfl ?_
              refine z_istore_n X (lv' := [(3, .int (nI k)), (6, .int (nI (kpl (q.2.2.2.2 k) known (R (q.2.2.2.1 k)).1))), (5, .int (nI k)), (4, .int (oI (nst R q left known k).2)), (0, .ref wk), (1, .int (nI left)), (2, .int (nI known))]) dX8_nextOf_98 rfl (by decide) rfl ?_
              refine z_iload X dX8_nextOf_99 (j := 1) rfl ?_
              refine z_istore X (lv' := [(4, .int (nI (kpl (q.2.2.2.2 k) known (R (q.2.2.2.1 k)).1))), (3, .int (nI k)), (6, .int (nI (kpl (q.2.2.2.2 k) known (R (q.2.2.2.1 k)).1))), (5, .int (nI k)), (0, .ref wk), (1, .int (nI left)), (2, .int (nI known))]) dX8_nextOf_101 (by decide) rfl ?_
              refine z_iinc X (j := 3) (v := (nI (k + 1))) (lv' := [(5, .int (nI (k + 1))), (4, .int (nI (kpl (q.2.2.2.2 k) known (R (q.2.2.2.1 k)).1))), (3, .int (nI k)), (6, .int (nI (kpl (q.2.2.2.2 k) known (R (q.2.2.2.1 k)).1))), (0, .ref wk), (1, .int (nI left)), (2, .int (nI known))]) dX8_nextOf_103 rfl (nI_1 k) (by decide) rfl ?_
              refine z_goto X (tgt := 8) dX8_nextOf_106 (by decide) ?_
              refine z_lv [0, 1, 2, 4, 5, 6] (lv' := [(5, .int (nI (k + 1))), (4, .int (nI (kpl (q.2.2.2.2 k) known (R (q.2.2.2.1 k)).1))), (3, .int (nI k)), (0, .ref wk), (1, .int (nI left)), (2, .int (nI known))]) rfl ?_
              refine z_eq (ws' := []) (lv' := [(5, .int (nI (k + 1))), (4, .int (oI (nst R q left known (k + 1)).2)), (3, .int (nI (nst R q left known (k + 1)).1)), (0, .ref wk), (1, .int (nI left)), (2, .int (nI known))]) (st' := []) rfl (by rw [nst, if_pos ⟨hbt, hbb⟩]; rfl) rfl ?_
              exact ih (k + 1) (by omega)
  refine z_iconst X (v := 0) dX8_nextOf_0 (by decide) ?_
  refine z_istore_n X (lv' := [(3, .int 0), (0, .ref wk), (1, .int (nI left)), (2, .int (nI known))]) dX8_nextOf_1 rfl (by decide) rfl ?_
  refine z_iconst X (v := (-1)) dX8_nextOf_2 (by decide) ?_
  refine z_istore X (lv' := [(4, .int (-1)), (3, .int 0), (0, .ref wk), (1, .int (nI left)), (2, .int (nI known))]) dX8_nextOf_3 (by decide) rfl ?_
  refine z_iconst X (v := 0) dX8_nextOf_5 (by decide) ?_
  refine z_istore X (lv' := [(5, .int 0), (4, .int (-1)), (3, .int 0), (0, .ref wk), (1, .int (nI left)), (2, .int (nI known))]) dX8_nextOf_6 (by decide) rfl ?_
  refine z_eq (ws' := []) (lv' := [(5, .int (nI 0)), (4, .int (oI (nst R q left known 0).2)), (3, .int (nI (nst R q left known 0).1)), (0, .ref wk), (1, .int (nI left)), (2, .int (nI known))]) (st' := []) rfl rfl rfl ?_
  exact L (q.2.2.1) 0 (by omega)
/-- the order's row, when p places are told -/
def odA (R : Nat → RRow) (u : URow) (o : Nat → Int32) (p : Nat) : Nat → Int32 := fun j => if j < p then nI (ordF R u j) else o j
theorem odA_0 (R : Nat → RRow) (u : URow) (o : Nat → Int32) : odA R u o 0 = o := funext fun j => by rw [odA, if_neg (by omega)]
theorem odA_s {R : Nat → RRow} {u : URow} {o : Nat → Int32} {p : Nat} : upd (odA R u o p) p (nI (ordF R u p)) = odA R u o (p + 1) := funext fun j => by
  by_cases e : j = p
  · subst e; rw [pk_us, odA, if_pos (by omega)]
  · rw [pk_un e, odA, odA]
    by_cases g : j < p
    · rw [if_pos g, if_pos (by omega)]
    · rw [if_neg g, if_neg (by omega)]
theorem TmO.mono {O O' : Nat × va_E → Prop} {cy : Nat → ClassId} {tm n : Nat} {t : Nat → Nat} (h : ∀ q, O q → O' q) : TmO O cy tm n t → TmO O' cy tm n t := fun ⟨ta, Tf, a, b, c⟩ => ⟨ta, Tf, h _ a, h _ b, c⟩
theorem RlO.mono {O O' : Nat × va_E → Prop} {cy : Nat → ClassId} {b : Nat} {r : RRow} (h : ∀ q, O q → O' q) : RlO O cy b r → RlO O' cy b r := fun ⟨ar, ah, ak, hv, kv, a, b, c, d, e⟩ => ⟨ar, ah, ak, hv, kv, h _ a, h _ b, h _ c, h _ d, e⟩
theorem RuO.mono {O O' : Nat × va_E → Prop} {cy : Nat → ClassId} {R : Nat → RRow} {rb : Nat → Nat} {rc b : Nat} {u : URow} (h : ∀ q, O q → O' q) : RuO O cy R rb rc b u → RuO O' cy R rb rc b u := fun ⟨hd, aa, F, aA, tA, a, b, c, d, e, f⟩ => ⟨hd, aa, F, aA, tA, h _ a, b.mono h, h _ c, d, e, fun k hk => ⟨(f k hk).1, (f k hk).2.1, h _ (f k hk).2.2.1, (f k hk).2.2.2.mono h⟩⟩
set_option maxHeartbeats 4000000 in
set_option maxRecDepth 100000 in
/-- arrange(told) -/
theorem m_arrange (l : Launch) (D : va_G) (cy : Nat → ClassId) (O : Nat × va_E → Prop) {wk od sz b5 gv : Nat} {v4 v5 v6 : Value} {od0 : Nat → Int32} {bq rc : Nat} {R : Nat → RRow} {rb : Nat → Nat} {q : URow} (hR : ∀ j, j < rc → RlO O cy (rb j) (R j)) (hq : RuO O cy R rb rc bq q) : Cv l yX8_arrange (.code yX8_arrange cX8_arrange 6 none :: WALL) ({ frames := 3, cells := 0, slots := 0, locals := 70 }) D cy O [.ref wk, .ref bq] [(wk, .inr (8, [.ref od, .ref sz, .ref b5, .ref gv, v4, v5, v6])), (od, .inl (cy 0, 5, .inl od0))] 0 0 (fun (w : va_W) => w = [(wk, .inr (8, [.ref od, .ref sz, .ref b5, .ref gv, .ref bq, v5, .int (nI (hfF R q q.2.2.1))])), (od, .inl (cy 0, 5, .inl (odA R q od0 q.2.2.1)))]) := by
  have hq' := hq
  obtain ⟨hd1, aa1, F1, aA1, tA1, hB1, ⟨ta1, T1, hM1, hT1, ht1⟩, hF1, hh1, hm1, hat1⟩ := hq'
  refine z_metv (by decide) rfl rfl (Nat.le_of_ble_eq_true rfl) ?_
  intro p e s m args below meth c X hr hin
  refine z_eq (ws' := [(wk, .inr (8, [.ref od, .ref sz, .ref b5, .ref gv, v4, v5, v6])), (od, .inl (cy 0, 5, .inl od0))]) (lv' := [(0, .ref wk), (1, .ref bq)]) (st' := []) rfl rfl rfl ?_
  have hlb : ∀ p, (lk R q p).1 < 2 ^ 31 := fun p => Nat.lt_of_lt_of_le (lk_1 R q p) (Nat.pow_le_pow_right (by decide) (by omega))
  have hkb : ∀ p, (lk R q p).2 < 2 ^ 31 := fun p => Nat.lt_trans (lk_2 R q p) (by decide)
  have L : ∀ (d : Nat) (k : Nat), k + d = q.2.2.1 → Zz D (va_A [(wk, .inr (8, [.ref od, .ref sz, .ref b5, .ref gv, v4, v5, v6])), (od, .inl (cy 0, 5, .inl od0))] s.heap.size) 6 p l e ({ frames := 3, cells := 0, slots := 0, locals := 70 }) s m args below meth c (MQ below (va_Qv (fun (w : va_W) => w = [(wk, .inr (8, [.ref od, .ref sz, .ref b5, .ref gv, .ref bq, v5, .int (nI (hfF R q q.2.2.1))])), (od, .inl (cy 0, 5, .inl (odA R q od0 q.2.2.1)))]) (end_ D [(wk, .inr (8, [.ref od, .ref sz, .ref b5, .ref gv, v4, v5, v6])), (od, .inl (cy 0, 5, .inl od0))] s.heap.size) (va_A [(wk, .inr (8, [.ref od, .ref sz, .ref b5, .ref gv, v4, v5, v6])), (od, .inl (cy 0, 5, .inl od0))] s.heap.size)) args s 0 0 (va_A [(wk, .inr (8, [.ref od, .ref sz, .ref b5, .ref gv, v4, v5, v6])), (od, .inl (cy 0, 5, .inl od0))] s.heap.size)) [(wk, .inr (8, [.ref od, .ref sz, .ref b5, .ref gv, .ref bq, v5, .int (nI (hfF R q k))])), (od, .inl (cy 0, 5, .inl (odA R q od0 k)))] [(4, .int (nI k)), (3, .int (nI (lk R q k).1)), (2, .int (nI (lk R q k).2)), (0, .ref wk), (1, .ref bq)] 0 0 20 [] := by
    intro d
    induction d with
    | zero =>
      intro k hL0
      refine z_iload X dX8_arrange_20 (j := 0) rfl ?_
      refine z_aload_n X dX8_arrange_22 rfl (j := 4) rfl ?_
      refine z_getO X (ci := 6) (C := RX6) (T := TX6) (N := 3) inX6 hB1 rfl 2 (by decide) fl_X8_46 (fun _ h9 => h9) rfl dX8_arrange_23 ?_
      refine z_icmp_ge X (tgt := 99) dX8_arrange_26 (by decide) (fun c_26 => ?_) (fun c9 => absurd (by rw [show k = q.2.2.1 by omega]; exact nI_le (Nat.le_refl _) (by omega)) c9)
      exact z_endv X hr [(wk, .inr (8, [.ref od, .ref sz, .ref b5, .ref gv, .ref bq, v5, .int (nI (hfF R q k))])), (od, .inl (cy 0, 5, .inl (odA R q od0 k)))] [0, 1] rfl rfl rfl (by rw [show k = q.2.2.1 by omega]) dX8_arrange_99
    | succ d ih =>
      intro k hL0
      have hol9 : ordF R q k < q.2.2.1 := nst_lt R q _ _ (by omega)
      refine z_iload X dX8_arrange_20 (j := 0) rfl ?_
      refine z_aload_n X dX8_arrange_22 rfl (j := 4) rfl ?_
      refine z_getO X (ci := 6) (C := RX6) (T := TX6) (N := 3) inX6 hB1 rfl 2 (by decide) fl_X8_46 (fun _ h9 => h9) rfl dX8_arrange_23 ?_
      refine z_icmp_ge X (tgt := 99) dX8_arrange_26 (by decide) (fun c9 => absurd c9 (nI_ge (by omega) (by omega))) (fun c_26 => ?_)
      refine z_aload_n X dX8_arrange_29 rfl (j := 4) rfl ?_
      refine z_getO X (ci := 6) (C := RX6) (T := TX6) (N := 3) inX6 hB1 rfl 0 (by decide) fl_X8_49 (fun _ h9 => h9) rfl dX8_arrange_30 ?_
      refine z_getO X (ci := 7) (C := RX7) (T := TX7) (N := 4) inX7 hM1 rfl 2 (by decide) fl_X8_53 (fun _ h9 => h9) rfl dX8_arrange_33 ?_
      refine z_iload_n X dX8_arrange_36 rfl (j := 2) rfl ?_
      refine z_iconst X (v := (-1)) dX8_arrange_37 (by decide) ?_
      refine z_ixor X (v := ((nI (lk R q k).2) ^^^ (-1))) dX8_arrange_38 rfl ?_
      refine z_iand X (v := (nI (nd (vsf q.2.1 q.1) (lk R q k).2))) dX8_arrange_39 (nI_nd _ _) ?_
      refine z_if_eq X (tgt := 51) dX8_arrange_40 (by decide) (fun c_40 => ?_) (fun c_40 => ?_)
      · skip
        have z40 : nd (vsf q.2.1 q.1) (lk R q k).2 = 0 := (nI_zero (nd_lt (Nat.lt_trans (vsf_lt _ _) (by decide)))).mp c_40
        refine z_eq (ws' := [(wk, .inr (8, [.ref od, .ref sz, .ref b5, .ref gv, .ref bq, v5, .int (nI (hfF R q (k + 1)))])), (od, .inl (cy 0, 5, .inl (odA R q od0 k)))]) (lv' := [(4, .int (nI k)), (3, .int (nI (lk R q k).1)), (2, .int (nI (lk R q k).2)), (0, .ref wk), (1, .ref bq)]) (st' := []) (by rw [hfF, if_pos z40]) rfl rfl ?_
        refine z_aload_n X dX8_arrange_51 rfl (j := 3) rfl ?_
        refine z_iload_n X dX8_arrange_52 rfl (j := 1) rfl ?_
        refine z_iload_n X dX8_arrange_53 rfl (j := 2) rfl ?_
        refine z_reti X (as := [.ref wk, .int (nI (lk R q k).1), .int (nI (lk R q k).2)]) (wc := []) (wr := [(wk, .inr (8, [.ref od, .ref sz, .ref b5, .ref gv, .ref bq, v5, .int (nI (hfF R q (k + 1)))])), (od, .inl (cy 0, 5, .inl (odA R q od0 k)))]) (rest := []) (fun H9 locs9 ls9 hP9 hS9 hl9 hb9 hp9 => va_runV (As := [.int (nI (lk R q k).1), .int (nI (lk R q k).2)]) (rest := []) X.fix (m_nextOf l D cy (fun z => O z ∨ z ∈ ([(wk, .inr (8, [.ref od, .ref sz, .ref b5, .ref gv, .ref bq, v5, .int (nI (hfF R q (k + 1)))])), (od, .inl (cy 0, 5, .inl (odA R q od0 k)))] : va_W)) (fun j hj => RlO.mono (fun q h => Or.inl h) (hR j hj)) (RuO.mono (fun q h => Or.inl h) hq) (Or.inr (List.mem_of_getElem? (i := 0) rfl)) (hlb k) (hkb k) H9.size) (cwV 2 X.hts (gV ml_X8_58 im_X8_nextOf se_X8_nextOf ni_X8 cd_X8_nextOf) rfl rfl rfl (by decide +kernel) ⟨Nat.le_of_ble_eq_true rfl, Nat.le_of_ble_eq_true rfl⟩) ⟨hb9, z_recvW X (q0 := 0) (ci := 8) (r := (RX8, TX8, 7)) rfl rfl hP9, hp9⟩ rfl rfl hl9.1 rfl (lv_room (Nat.le_of_ble_eq_true rfl)) dX8_arrange_54 ⟨Nat.le_of_ble_eq_true rfl, Nat.le_of_ble_eq_true rfl⟩) [] [0, 1] rfl rfl rfl rfl rfl (by decide) (fun q h => h) (fun r1 w2 h3 => ?_)
        obtain ⟨rfl, rfl⟩ := h3
        rw [show nxt R q (lk R q k).1 (lk R q k).2 = ordF R q k from rfl]
        refine z_eq (ws' := [(wk, .inr (8, [.ref od, .ref sz, .ref b5, .ref gv, .ref bq, v5, .int (nI (hfF R q (k + 1)))])), (od, .inl (cy 0, 5, .inl (odA R q od0 k)))]) (lv' := [(4, .int (nI k)), (3, .int (nI (lk R q k).1)), (2, .int (nI (lk R q k).2)), (0, .ref wk), (1, .ref bq)]) (st' := [.int (nI (ordF R q k))]) rfl rfl rfl ?_
        refine z_widen (k' := 0) (n' := 0) (Nat.le_refl _) (Nat.le_refl _) ?_
        refine z_istore X (lv' := [(5, .int (nI (ordF R q k))), (4, .int (nI k)), (3, .int (nI (lk R q k).1)), (2, .int (nI (lk R q k).2)), (0, .ref wk), (1, .ref bq)]) dX8_arrange_57 (by decide) rfl ?_
        refine z_aload_n X dX8_arrange_59 rfl (j := 4) rfl ?_
        refine z_getW X 0 (C := RX8) (T := TX8) (N := 7) inX8 rfl rfl 0 (by decide) fl_X8_9 (fun _ h9 => h9) rfl dX8_arrange_60 ?_
        refine z_iload X dX8_arrange_63 (j := 1) rfl ?_
        refine z_iload X dX8_arrange_65 (j := 0) rfl ?_
        refine z_iastW X 1 rfl (vp_in_nI (by omega) (by decide)) (ws' := [(wk, .inr (8, [.ref od, .ref sz, .ref b5, .ref gv, .ref bq, v5, .int (nI (hfF R q (k + 1)))])), (od, .inl (cy 0, 5, .inl (odA R q od0 (k + 1))))]) (by rw [nI_clamp (show k < 2 ^ 31 by omega), odA_s]; rfl) dX8_arrange_67 ?_
        refine z_iload_n X dX8_arrange_68 rfl (j := 2) rfl ?_
        refine z_iconst X (v := 1) dX8_arrange_69 (by decide) ?_
        refine z_iload X dX8_arrange_70 (j := 0) rfl ?_
        refine z_ishl X (v := ((1 : Int32) <<< (nI (ordF R q k) &&& 31))) dX8_arrange_72 rfl ?_
        refine z_iconst X (v := (-1)) dX8_arrange_73 (by decide) ?_
        refine z_ixor X (v := (((1 : Int32) <<< (nI (ordF R q k) &&& 31)) ^^^ (-1))) dX8_arrange_74 rfl ?_
        refine z_iand X (v := (nI (lk R q (k + 1)).1)) dX8_arrange_75 (one_shl_not (by omega) _) ?_
        refine z_istore_n X (lv' := [(3, .int (nI (lk R q (k + 1)).1)), (5, .int (nI (ordF R q k))), (4, .int (nI k)), (2, .int (nI (lk R q k).2)), (0, .ref wk), (1, .ref bq)]) dX8_arrange_76 rfl (by decide) rfl ?_
        refine z_iload_n X dX8_arrange_77 rfl (j := 3) rfl ?_
        refine z_aload_n X dX8_arrange_78 rfl (j := 5) rfl ?_
        refine z_getO X (ci := 6) (C := RX6) (T := TX6) (N := 3) inX6 hB1 rfl 1 (by decide) fl_X8_62 (fun _ h9 => h9) rfl dX8_arrange_79 ?_
        refine z_iload X dX8_arrange_82 (j := 1) rfl ?_
        obtain ⟨-, hq1, hc1, ta3, T3, hc3, hc5, hc7⟩ := hat1 (ordF R q k) hol9
        refine z_aaldO X (t := 5) hF1 rfl (b := (aA1 (ordF R q k))) (vp_in_nI (by omega) (by decide)) (by rw [nI_clamp (by omega)]; exact (hat1 _ hol9).1) dX8_arrange_84 ?_
        refine z_getO X (ci := 0) (C := RX0) (T := TX0) (N := 2) inX0 hc1 rfl 1 (by decide) fl_X8_66 (fun _ h9 => h9) rfl dX8_arrange_85 ?_
        refine z_getO X (ci := 7) (C := RX7) (T := TX7) (N := 4) inX7 hc3 rfl 2 (by decide) fl_X8_53 (fun _ h9 => h9) rfl dX8_arrange_88 ?_
        refine z_ior X (v := (nI (lk R q (k + 1)).2)) dX8_arrange_91 (nI_or _ _) ?_
        refine z_istore_n X (lv' := [(2, .int (nI (lk R q (k + 1)).2)), (3, .int (nI (lk R q (k + 1)).1)), (5, .int (nI (ordF R q k))), (4, .int (nI k)), (0, .ref wk), (1, .ref bq)]) dX8_arrange_92 rfl (by decide) rfl ?_
        refine z_iinc X (j := 3) (v := (nI (k + 1))) (lv' := [(4, .int (nI (k + 1))), (2, .int (nI (lk R q (k + 1)).2)), (3, .int (nI (lk R q (k + 1)).1)), (5, .int (nI (ordF R q k))), (0, .ref wk), (1, .ref bq)]) dX8_arrange_93 rfl (nI_1 k) (by decide) rfl ?_
        refine z_goto X (tgt := 20) dX8_arrange_96 (by decide) ?_
        refine z_lv [0, 2, 1, 4, 5] (lv' := [(4, .int (nI (k + 1))), (3, .int (nI (lk R q (k + 1)).1)), (2, .int (nI (lk R q (k + 1)).2)), (0, .ref wk), (1, .ref bq)]) rfl ?_
        refine z_eq (ws' := [(wk, .inr (8, [.ref od, .ref sz, .ref b5, .ref gv, .ref bq, v5, .int (nI (hfF R q (k + 1)))])), (od, .inl (cy 0, 5, .inl (odA R q od0 (k + 1))))]) (lv' := [(4, .int (nI (k + 1))), (3, .int (nI (lk R q (k + 1)).1)), (2, .int (nI (lk R q (k + 1)).2)), (0, .ref wk), (1, .ref bq)]) (st' := []) rfl rfl rfl ?_
        exact ih (k + 1) (by omega)
      · skip
        refine z_aload_n X dX8_arrange_43 rfl (j := 3) rfl ?_
        refine z_iload X dX8_arrange_44 (j := 0) rfl ?_
        refine z_iconst X (v := 1) dX8_arrange_46 (by decide) ?_
        refine z_iadd X (v := (nI (k + 1))) dX8_arrange_47 (nI_1 k) ?_
        refine z_putW X 0 (C := RX8) (T := TX8) (N := 7) inX8 tyX8 tyX8_ok nmX8 rfl rfl 6 (by decide) fl_X8_36 (fun _ h9 => h9) rfl (ty := .int) (by decide +kernel) rfl rfl (Nat.le_of_ble_eq_true rfl) (ws' := [(wk, .inr (8, [.ref od, .ref sz, .ref b5, .ref gv, .ref bq, v5, .int (nI (k + 1))])), (od, .inl (cy 0, 5, .inl (odA R q od0 k)))]) rfl dX8_arrange_48 ?_
        have z40 : ¬ nd (vsf q.2.1 q.1) (lk R q k).2 = 0 := fun z => c_40 (by rw [z]; rfl)
        refine z_eq (ws' := [(wk, .inr (8, [.ref od, .ref sz, .ref b5, .ref gv, .ref bq, v5, .int (nI (hfF R q (k + 1)))])), (od, .inl (cy 0, 5, .inl (odA R q od0 k)))]) (lv' := [(4, .int (nI k)), (3, .int (nI (lk R q k).1)), (2, .int (nI (lk R q k).2)), (0, .ref wk), (1, .ref bq)]) (st' := []) (by rw [hfF, if_neg z40]) rfl rfl ?_
        refine z_aload_n X dX8_arrange_51 rfl (j := 3) rfl ?_
        refine z_iload_n X dX8_arrange_52 rfl (j := 1) rfl ?_
        refine z_iload_n X dX8_arrange_53 rfl (j := 2) rfl ?_
        refine z_reti X (as := [.ref wk, .int (nI (lk R q k).1), .int (nI (lk R q k).2)]) (wc := []) (wr := [(wk, .inr (8, [.ref od, .ref sz, .ref b5, .ref gv, .ref bq, v5, .int (nI (hfF R q (k + 1)))])), (od, .inl (cy 0, 5, .inl (odA R q od0 k)))]) (rest := []) (fun H9 locs9 ls9 hP9 hS9 hl9 hb9 hp9 => va_runV (As := [.int (nI (lk R q k).1), .int (nI (lk R q k).2)]) (rest := []) X.fix (m_nextOf l D cy (fun z => O z ∨ z ∈ ([(wk, .inr (8, [.ref od, .ref sz, .ref b5, .ref gv, .ref bq, v5, .int (nI (hfF R q (k + 1)))])), (od, .inl (cy 0, 5, .inl (odA R q od0 k)))] : va_W)) (fun j hj => RlO.mono (fun q h => Or.inl h) (hR j hj)) (RuO.mono (fun q h => Or.inl h) hq) (Or.inr (List.mem_of_getElem? (i := 0) rfl)) (hlb k) (hkb k) H9.size) (cwV 2 X.hts (gV ml_X8_58 im_X8_nextOf se_X8_nextOf ni_X8 cd_X8_nextOf) rfl rfl rfl (by decide +kernel) ⟨Nat.le_of_ble_eq_true rfl, Nat.le_of_ble_eq_true rfl⟩) ⟨hb9, z_recvW X (q0 := 0) (ci := 8) (r := (RX8, TX8, 7)) rfl rfl hP9, hp9⟩ rfl rfl hl9.1 rfl (lv_room (Nat.le_of_ble_eq_true rfl)) dX8_arrange_54 ⟨Nat.le_of_ble_eq_true rfl, Nat.le_of_ble_eq_true rfl⟩) [] [0, 1] rfl rfl rfl rfl rfl (by decide) (fun q h => h) (fun r4 w5 h6 => ?_)
        obtain ⟨rfl, rfl⟩ := h6
        rw [show nxt R q (lk R q k).1 (lk R q k).2 = ordF R q k from rfl]
        refine z_eq (ws' := [(wk, .inr (8, [.ref od, .ref sz, .ref b5, .ref gv, .ref bq, v5, .int (nI (hfF R q (k + 1)))])), (od, .inl (cy 0, 5, .inl (odA R q od0 k)))]) (lv' := [(4, .int (nI k)), (3, .int (nI (lk R q k).1)), (2, .int (nI (lk R q k).2)), (0, .ref wk), (1, .ref bq)]) (st' := [.int (nI (ordF R q k))]) rfl rfl rfl ?_
        refine z_widen (k' := 0) (n' := 0) (Nat.le_refl _) (Nat.le_refl _) ?_
        refine z_istore X (lv' := [(5, .int (nI (ordF R q k))), (4, .int (nI k)), (3, .int (nI (lk R q k).1)), (2, .int (nI (lk R q k).2)), (0, .ref wk), (1, .ref bq)]) dX8_arrange_57 (by decide) rfl ?_
        refine z_aload_n X dX8_arrange_59 rfl (j := 4) rfl ?_
        refine z_getW X 0 (C := RX8) (T := TX8) (N := 7) inX8 rfl rfl 0 (by decide) fl_X8_9 (fun _ h9 => h9) rfl dX8_arrange_60 ?_
        refine z_iload X dX8_arrange_63 (j := 1) rfl ?_
        refine z_iload X dX8_arrange_65 (j := 0) rfl ?_
        refine z_iastW X 1 rfl (vp_in_nI (by omega) (by decide)) (ws' := [(wk, .inr (8, [.ref od, .ref sz, .ref b5, .ref gv, .ref bq, v5, .int (nI (hfF R q (k + 1)))])), (od, .inl (cy 0, 5, .inl (odA R q od0 (k + 1))))]) (by rw [nI_clamp (show k < 2 ^ 31 by omega), odA_s]; rfl) dX8_arrange_67 ?_
        refine z_iload_n X dX8_arrange_68 rfl (j := 2) rfl ?_
        refine z_iconst X (v := 1) dX8_arrange_69 (by decide) ?_
        refine z_iload X dX8_arrange_70 (j := 0) rfl ?_
        refine z_ishl X (v := ((1 : Int32) <<< (nI (ordF R q k) &&& 31))) dX8_arrange_72 rfl ?_
        refine z_iconst X (v := (-1)) dX8_arrange_73 (by decide) ?_
        refine z_ixor X (v := (((1 : Int32) <<< (nI (ordF R q k) &&& 31)) ^^^ (-1))) dX8_arrange_74 rfl ?_
        refine z_iand X (v := (nI (lk R q (k + 1)).1)) dX8_arrange_75 (one_shl_not (by omega) _) ?_
        refine z_istore_n X (lv' := [(3, .int (nI (lk R q (k + 1)).1)), (5, .int (nI (ordF R q k))), (4, .int (nI k)), (2, .int (nI (lk R q k).2)), (0, .ref wk), (1, .ref bq)]) dX8_arrange_76 rfl (by decide) rfl ?_
        refine z_iload_n X dX8_arrange_77 rfl (j := 3) rfl ?_
        refine z_aload_n X dX8_arrange_78 rfl (j := 5) rfl ?_
        refine z_getO X (ci := 6) (C := RX6) (T := TX6) (N := 3) inX6 hB1 rfl 1 (by decide) fl_X8_62 (fun _ h9 => h9) rfl dX8_arrange_79 ?_
        refine z_iload X dX8_arrange_82 (j := 1) rfl ?_
        obtain ⟨-, hq1, hc1, ta3, T3, hc3, hc5, hc7⟩ := hat1 (ordF R q k) hol9
        refine z_aaldO X (t := 5) hF1 rfl (b := (aA1 (ordF R q k))) (vp_in_nI (by omega) (by decide)) (by rw [nI_clamp (by omega)]; exact (hat1 _ hol9).1) dX8_arrange_84 ?_
        refine z_getO X (ci := 0) (C := RX0) (T := TX0) (N := 2) inX0 hc1 rfl 1 (by decide) fl_X8_66 (fun _ h9 => h9) rfl dX8_arrange_85 ?_
        refine z_getO X (ci := 7) (C := RX7) (T := TX7) (N := 4) inX7 hc3 rfl 2 (by decide) fl_X8_53 (fun _ h9 => h9) rfl dX8_arrange_88 ?_
        refine z_ior X (v := (nI (lk R q (k + 1)).2)) dX8_arrange_91 (nI_or _ _) ?_
        refine z_istore_n X (lv' := [(2, .int (nI (lk R q (k + 1)).2)), (3, .int (nI (lk R q (k + 1)).1)), (5, .int (nI (ordF R q k))), (4, .int (nI k)), (0, .ref wk), (1, .ref bq)]) dX8_arrange_92 rfl (by decide) rfl ?_
        refine z_iinc X (j := 3) (v := (nI (k + 1))) (lv' := [(4, .int (nI (k + 1))), (2, .int (nI (lk R q (k + 1)).2)), (3, .int (nI (lk R q (k + 1)).1)), (5, .int (nI (ordF R q k))), (0, .ref wk), (1, .ref bq)]) dX8_arrange_93 rfl (nI_1 k) (by decide) rfl ?_
        refine z_goto X (tgt := 20) dX8_arrange_96 (by decide) ?_
        refine z_lv [0, 2, 1, 4, 5] (lv' := [(4, .int (nI (k + 1))), (3, .int (nI (lk R q (k + 1)).1)), (2, .int (nI (lk R q (k + 1)).2)), (0, .ref wk), (1, .ref bq)]) rfl ?_
        refine z_eq (ws' := [(wk, .inr (8, [.ref od, .ref sz, .ref b5, .ref gv, .ref bq, v5, .int (nI (hfF R q (k + 1)))])), (od, .inl (cy 0, 5, .inl (odA R q od0 (k + 1))))]) (lv' := [(4, .int (nI (k + 1))), (3, .int (nI (lk R q (k + 1)).1)), (2, .int (nI (lk R q (k + 1)).2)), (0, .ref wk), (1, .ref bq)]) (st' := []) rfl rfl rfl ?_
        exact ih (k + 1) (by omega)
  refine z_aload_n X dX8_arrange_0 rfl (j := 0) rfl ?_
  refine z_aload_n X dX8_arrange_1 rfl (j := 1) rfl ?_
  refine z_putW X 0 (C := RX8) (T := TX8) (N := 7) inX8 tyX8 tyX8_ok nmX8 rfl rfl 4 (by decide) fl_X8_28 (fun _ h9 => h9) rfl (ty := (.object "Thimble$Rule")) (by decide +kernel) rfl rfl (Nat.le_of_ble_eq_true rfl) (ws' := [(wk, .inr (8, [.ref od, .ref sz, .ref b5, .ref gv, .ref bq, v5, v6])), (od, .inl (cy 0, 5, .inl od0))]) rfl dX8_arrange_2 ?_
  refine z_aload_n X dX8_arrange_5 rfl (j := 0) rfl ?_
  refine z_iconst X (v := 0) dX8_arrange_6 (by decide) ?_
  refine z_putW X 0 (C := RX8) (T := TX8) (N := 7) inX8 tyX8 tyX8_ok nmX8 rfl rfl 6 (by decide) fl_X8_36 (fun _ h9 => h9) rfl (ty := .int) (by decide +kernel) rfl rfl (Nat.le_of_ble_eq_true rfl) (ws' := [(wk, .inr (8, [.ref od, .ref sz, .ref b5, .ref gv, .ref bq, v5, .int 0])), (od, .inl (cy 0, 5, .inl od0))]) rfl dX8_arrange_7 ?_
  refine z_iconst X (v := 0) dX8_arrange_10 (by decide) ?_
  refine z_istore_n X (lv' := [(2, .int 0), (0, .ref wk), (1, .ref bq)]) dX8_arrange_11 rfl (by decide) rfl ?_
  refine z_aload_n X dX8_arrange_12 rfl (j := 2) rfl ?_
  refine z_reti X (as := [.ref bq]) (wc := []) (wr := [(wk, .inr (8, [.ref od, .ref sz, .ref b5, .ref gv, .ref bq, v5, .int 0])), (od, .inl (cy 0, 5, .inl od0))]) (rest := []) (fun H9 locs9 ls9 hP9 hS9 hl9 hb9 hp9 => va_runV (As := []) (rest := []) X.fix (m_allAtoms l D cy O hB1 hm1 H9.size) (cwV 0 X.hts (gV ml_X8_40 im_X6_allAtoms se_X6_allAtoms ni_X6 cd_X6_allAtoms) rfl rfl rfl (by decide +kernel) ⟨Nat.le_of_ble_eq_true rfl, Nat.le_of_ble_eq_true rfl⟩) ⟨hb9, z_recvO X (ci := 6) (r := (RX6, TX6, 3)) hB1 rfl hS9, hp9⟩ rfl rfl hl9.1 rfl (lv_room (Nat.le_of_ble_eq_true rfl)) dX8_arrange_13 ⟨Nat.le_of_ble_eq_true rfl, Nat.le_of_ble_eq_true rfl⟩) [] [0, 1] rfl rfl rfl rfl rfl (by decide) (fun _ h => Or.inl h) (fun r7 w8 h9 => ?_)
  obtain ⟨rfl, rfl⟩ := h9
  refine z_eq (ws' := [(wk, .inr (8, [.ref od, .ref sz, .ref b5, .ref gv, .ref bq, v5, .int 0])), (od, .inl (cy 0, 5, .inl od0))]) (lv' := [(2, .int 0), (0, .ref wk), (1, .ref bq)]) (st' := [.int (nI (2 ^ q.2.2.1 - 1))]) rfl rfl rfl ?_
  refine z_widen (k' := 0) (n' := 0) (Nat.le_refl _) (Nat.le_refl _) ?_
  refine z_istore_n X (lv' := [(3, .int (nI (2 ^ q.2.2.1 - 1))), (2, .int 0), (0, .ref wk), (1, .ref bq)]) dX8_arrange_16 rfl (by decide) rfl ?_
  refine z_iconst X (v := 0) dX8_arrange_17 (by decide) ?_
  refine z_istore X (lv' := [(4, .int 0), (3, .int (nI (2 ^ q.2.2.1 - 1))), (2, .int 0), (0, .ref wk), (1, .ref bq)]) dX8_arrange_18 (by decide) rfl ?_
  refine z_eq (ws' := [(wk, .inr (8, [.ref od, .ref sz, .ref b5, .ref gv, .ref bq, v5, .int (nI (hfF R q 0))])), (od, .inl (cy 0, 5, .inl (odA R q od0 0)))]) (lv' := [(4, .int (nI 0)), (3, .int (nI (lk R q 0).1)), (2, .int (nI (lk R q 0).2)), (0, .ref wk), (1, .ref bq)]) (st' := []) (by rw [odA_0]; rfl) rfl rfl ?_
  exact L q.2.2.1 0 (by omega)
