theorem dX2_answersOf_0 : decode cX2_answersOf 0 = .ok (.aload_n 0, 1) := by decide +kernel
theorem dX2_answersOf_1 : decode cX2_answersOf 1 = .ok (.iload_n 2, 1) := by decide +kernel
theorem dX2_answersOf_2 : decode cX2_answersOf 2 = .ok (.putfield 22, 3) := by decide +kernel
theorem dX2_answersOf_5 : decode cX2_answersOf 5 = .ok (.aload_n 0, 1) := by decide +kernel
theorem dX2_answersOf_6 : decode cX2_answersOf 6 = .ok (.getfield 12, 3) := by decide +kernel
theorem dX2_answersOf_9 : decode cX2_answersOf 9 = .ok (.invokevirtual 26, 3) := by decide +kernel
theorem dX2_answersOf_12 : decode cX2_answersOf 12 = .ok (.aload_n 1, 1) := by decide +kernel
theorem dX2_answersOf_13 : decode cX2_answersOf 13 = .ok (.getfield 29, 3) := by decide +kernel
theorem dX2_answersOf_16 : decode cX2_answersOf 16 = .ok (.bipush (-4), 2) := by decide +kernel
theorem dX2_answersOf_18 : decode cX2_answersOf 18 = .ok (.iand, 1) := by decide +kernel
theorem dX2_answersOf_19 : decode cX2_answersOf 19 = .ok (.istore_n 3, 1) := by decide +kernel
theorem dX2_answersOf_20 : decode cX2_answersOf 20 = .ok (.iconst 3, 1) := by decide +kernel
theorem dX2_answersOf_21 : decode cX2_answersOf 21 = .ok (.iload_n 3, 1) := by decide +kernel
theorem dX2_answersOf_22 : decode cX2_answersOf 22 = .ok (.invokestatic 34, 3) := by decide +kernel
theorem dX2_answersOf_25 : decode cX2_answersOf 25 = .ok (.imul, 1) := by decide +kernel
theorem dX2_answersOf_26 : decode cX2_answersOf 26 = .ok (.istore 4, 2) := by decide +kernel
theorem dX2_answersOf_28 : decode cX2_answersOf 28 = .ok (.aload_n 0, 1) := by decide +kernel
theorem dX2_answersOf_29 : decode cX2_answersOf 29 = .ok (.aload_n 1, 1) := by decide +kernel
theorem dX2_answersOf_30 : decode cX2_answersOf 30 = .ok (.getfield 29, 3) := by decide +kernel
theorem dX2_answersOf_33 : decode cX2_answersOf 33 = .ok (.invokevirtual 40, 3) := by decide +kernel
theorem dX2_answersOf_36 : decode cX2_answersOf 36 = .ok (.lstore 5, 2) := by decide +kernel
theorem dX2_answersOf_38 : decode cX2_answersOf 38 = .ok (.iconst 1, 1) := by decide +kernel
theorem dX2_answersOf_39 : decode cX2_answersOf 39 = .ok (.iload 4, 2) := by decide +kernel
theorem dX2_answersOf_41 : decode cX2_answersOf 41 = .ok (.ishl, 1) := by decide +kernel
theorem dX2_answersOf_42 : decode cX2_answersOf 42 = .ok (.istore 7, 2) := by decide +kernel
theorem dX2_answersOf_44 : decode cX2_answersOf 44 = .ok (.iconst 0, 1) := by decide +kernel
theorem dX2_answersOf_45 : decode cX2_answersOf 45 = .ok (.istore 8, 2) := by decide +kernel
theorem dX2_answersOf_47 : decode cX2_answersOf 47 = .ok (.iload 8, 2) := by decide +kernel
theorem dX2_answersOf_49 : decode cX2_answersOf 49 = .ok (.iload 7, 2) := by decide +kernel
theorem dX2_answersOf_51 : decode cX2_answersOf 51 = .ok (.if_icmp .ge 39, 3) := by decide +kernel
theorem dX2_answersOf_54 : decode cX2_answersOf 54 = .ok (.aload_n 0, 1) := by decide +kernel
theorem dX2_answersOf_55 : decode cX2_answersOf 55 = .ok (.iload_n 3, 1) := by decide +kernel
theorem dX2_answersOf_56 : decode cX2_answersOf 56 = .ok (.iload 8, 2) := by decide +kernel
theorem dX2_answersOf_58 : decode cX2_answersOf 58 = .ok (.invokevirtual 44, 3) := by decide +kernel
theorem dX2_answersOf_61 : decode cX2_answersOf 61 = .ok (.ifCond .eq 23, 3) := by decide +kernel
theorem dX2_answersOf_64 : decode cX2_answersOf 64 = .ok (.aload_n 0, 1) := by decide +kernel
theorem dX2_answersOf_65 : decode cX2_answersOf 65 = .ok (.aload_n 0, 1) := by decide +kernel
theorem dX2_answersOf_66 : decode cX2_answersOf 66 = .ok (.aload_n 1, 1) := by decide +kernel
theorem dX2_answersOf_67 : decode cX2_answersOf 67 = .ok (.invokevirtual 48, 3) := by decide +kernel
theorem dX2_answersOf_70 : decode cX2_answersOf 70 = .ok (.lload 5, 2) := by decide +kernel
theorem dX2_answersOf_72 : decode cX2_answersOf 72 = .ok (.land, 1) := by decide +kernel
theorem dX2_answersOf_73 : decode cX2_answersOf 73 = .ok (.aload_n 1, 1) := by decide +kernel
theorem dX2_answersOf_74 : decode cX2_answersOf 74 = .ok (.getfield 29, 3) := by decide +kernel
theorem dX2_answersOf_77 : decode cX2_answersOf 77 = .ok (.iload 4, 2) := by decide +kernel
theorem dX2_answersOf_79 : decode cX2_answersOf 79 = .ok (.iload 8, 2) := by decide +kernel
theorem dX2_answersOf_81 : decode cX2_answersOf 81 = .ok (.invokevirtual 52, 3) := by decide +kernel
theorem dX2_answersOf_84 : decode cX2_answersOf 84 = .ok (.iinc 8 1, 3) := by decide +kernel
theorem dX2_answersOf_87 : decode cX2_answersOf 87 = .ok (.goto (-40), 3) := by decide +kernel
theorem dX2_answersOf_90 : decode cX2_answersOf 90 = .ok (.aload_n 0, 1) := by decide +kernel
theorem dX2_answersOf_91 : decode cX2_answersOf 91 = .ok (.getfield 12, 3) := by decide +kernel
theorem dX2_answersOf_94 : decode cX2_answersOf 94 = .ok (.areturn, 1) := by decide +kernel
theorem dX2_asked_0 : decode cX2_asked 0 = .ok (.iconst 0, 1) := by decide +kernel
theorem dX2_asked_1 : decode cX2_asked 1 = .ok (.iload_n 1, 1) := by decide +kernel
theorem dX2_asked_2 : decode cX2_asked 2 = .ok (.iconst 0, 1) := by decide +kernel
theorem dX2_asked_3 : decode cX2_asked 3 = .ok (.invokestatic 56, 3) := by decide +kernel
theorem dX2_asked_6 : decode cX2_asked 6 = .ok (.ifCond .eq 10, 3) := by decide +kernel
theorem dX2_asked_9 : decode cX2_asked 9 = .ok (.aload_n 0, 1) := by decide +kernel
theorem dX2_asked_10 : decode cX2_asked 10 = .ok (.getfield 22, 3) := by decide +kernel
theorem dX2_asked_13 : decode cX2_asked 13 = .ok (.goto 4, 3) := by decide +kernel
theorem dX2_asked_16 : decode cX2_asked 16 = .ok (.iconst 1, 1) := by decide +kernel
theorem dX2_asked_17 : decode cX2_asked 17 = .ok (.invokestatic 59, 3) := by decide +kernel
theorem dX2_asked_20 : decode cX2_asked 20 = .ok (.iconst 1, 1) := by decide +kernel
theorem dX2_asked_21 : decode cX2_asked 21 = .ok (.iload_n 1, 1) := by decide +kernel
theorem dX2_asked_22 : decode cX2_asked 22 = .ok (.iconst 1, 1) := by decide +kernel
theorem dX2_asked_23 : decode cX2_asked 23 = .ok (.invokestatic 56, 3) := by decide +kernel
theorem dX2_asked_26 : decode cX2_asked 26 = .ok (.ifCond .eq 10, 3) := by decide +kernel
theorem dX2_asked_29 : decode cX2_asked 29 = .ok (.aload_n 0, 1) := by decide +kernel
theorem dX2_asked_30 : decode cX2_asked 30 = .ok (.getfield 22, 3) := by decide +kernel
theorem dX2_asked_33 : decode cX2_asked 33 = .ok (.goto 4, 3) := by decide +kernel
theorem dX2_asked_36 : decode cX2_asked 36 = .ok (.iconst 1, 1) := by decide +kernel
theorem dX2_asked_37 : decode cX2_asked 37 = .ok (.invokestatic 59, 3) := by decide +kernel
theorem dX2_asked_40 : decode cX2_asked 40 = .ok (.land, 1) := by decide +kernel
theorem dX2_asked_41 : decode cX2_asked 41 = .ok (.lreturn, 1) := by decide +kernel
theorem dX2_takes_0 : decode cX2_takes 0 = .ok (.iload_n 2, 1) := by decide +kernel
theorem dX2_takes_1 : decode cX2_takes 1 = .ok (.istore_n 3, 1) := by decide +kernel
theorem dX2_takes_2 : decode cX2_takes 2 = .ok (.iconst 5, 1) := by decide +kernel
theorem dX2_takes_3 : decode cX2_takes 3 = .ok (.istore 4, 2) := by decide +kernel
theorem dX2_takes_5 : decode cX2_takes 5 = .ok (.iload 4, 2) := by decide +kernel
theorem dX2_takes_7 : decode cX2_takes 7 = .ok (.ifCond .lt 52, 3) := by decide +kernel
theorem dX2_takes_10 : decode cX2_takes 10 = .ok (.iload_n 1, 1) := by decide +kernel
theorem dX2_takes_11 : decode cX2_takes 11 = .ok (.iload 4, 2) := by decide +kernel
theorem dX2_takes_13 : decode cX2_takes 13 = .ok (.invokestatic 56, 3) := by decide +kernel
theorem dX2_takes_16 : decode cX2_takes 16 = .ok (.ifCond .eq 37, 3) := by decide +kernel
theorem dX2_takes_19 : decode cX2_takes 19 = .ok (.aload_n 0, 1) := by decide +kernel
theorem dX2_takes_20 : decode cX2_takes 20 = .ok (.getfield 18, 3) := by decide +kernel
theorem dX2_takes_23 : decode cX2_takes 23 = .ok (.iload 4, 2) := by decide +kernel
theorem dX2_takes_25 : decode cX2_takes 25 = .ok (.iload_n 3, 1) := by decide +kernel
theorem dX2_takes_26 : decode cX2_takes 26 = .ok (.bipush 7, 2) := by decide +kernel
theorem dX2_takes_28 : decode cX2_takes 28 = .ok (.iand, 1) := by decide +kernel
theorem dX2_takes_29 : decode cX2_takes 29 = .ok (.iastore, 1) := by decide +kernel
theorem dX2_takes_30 : decode cX2_takes 30 = .ok (.iload_n 3, 1) := by decide +kernel
theorem dX2_takes_31 : decode cX2_takes 31 = .ok (.iconst 3, 1) := by decide +kernel
theorem dX2_takes_32 : decode cX2_takes 32 = .ok (.ishr, 1) := by decide +kernel
theorem dX2_takes_33 : decode cX2_takes 33 = .ok (.istore_n 3, 1) := by decide +kernel
theorem dX2_takes_34 : decode cX2_takes 34 = .ok (.aload_n 0, 1) := by decide +kernel
theorem dX2_takes_35 : decode cX2_takes 35 = .ok (.getfield 22, 3) := by decide +kernel
theorem dX2_takes_38 : decode cX2_takes 38 = .ok (.aload_n 0, 1) := by decide +kernel
theorem dX2_takes_39 : decode cX2_takes 39 = .ok (.getfield 18, 3) := by decide +kernel
theorem dX2_takes_42 : decode cX2_takes 42 = .ok (.iload 4, 2) := by decide +kernel
theorem dX2_takes_44 : decode cX2_takes 44 = .ok (.iaload, 1) := by decide +kernel
theorem dX2_takes_45 : decode cX2_takes 45 = .ok (.invokestatic 56, 3) := by decide +kernel
theorem dX2_takes_48 : decode cX2_takes 48 = .ok (.ifCond .ne 5, 3) := by decide +kernel
theorem dX2_takes_51 : decode cX2_takes 51 = .ok (.iconst 0, 1) := by decide +kernel
theorem dX2_takes_52 : decode cX2_takes 52 = .ok (.ireturn, 1) := by decide +kernel
theorem dX2_takes_53 : decode cX2_takes 53 = .ok (.iinc 4 (-1), 3) := by decide +kernel
theorem dX2_takes_56 : decode cX2_takes 56 = .ok (.goto (-51), 3) := by decide +kernel
theorem dX2_takes_59 : decode cX2_takes 59 = .ok (.iconst 1, 1) := by decide +kernel
theorem dX2_takes_60 : decode cX2_takes 60 = .ok (.ireturn, 1) := by decide +kernel
theorem dX2_include_0 : decode cX2_include 0 = .ok (.iload_n 3, 1) := by decide +kernel
theorem dX2_include_1 : decode cX2_include 1 = .ok (.iconst 0, 1) := by decide +kernel
theorem dX2_include_2 : decode cX2_include 2 = .ok (.invokestatic 56, 3) := by decide +kernel
theorem dX2_include_5 : decode cX2_include 5 = .ok (.ifCond .eq 15, 3) := by decide +kernel
theorem dX2_include_8 : decode cX2_include 8 = .ok (.iload_n 3, 1) := by decide +kernel
theorem dX2_include_9 : decode cX2_include 9 = .ok (.iconst 1, 1) := by decide +kernel
theorem dX2_include_10 : decode cX2_include 10 = .ok (.invokestatic 56, 3) := by decide +kernel
theorem dX2_include_13 : decode cX2_include 13 = .ok (.ifCond .ne 7, 3) := by decide +kernel
theorem dX2_include_16 : decode cX2_include 16 = .ok (.iconst 1, 1) := by decide +kernel
theorem dX2_include_17 : decode cX2_include 17 = .ok (.goto 4, 3) := by decide +kernel
theorem dX2_include_20 : decode cX2_include 20 = .ok (.iconst 0, 1) := by decide +kernel
theorem dX2_include_21 : decode cX2_include 21 = .ok (.istore 6, 2) := by decide +kernel
theorem dX2_include_23 : decode cX2_include 23 = .ok (.lload_n 1, 1) := by decide +kernel
theorem dX2_include_24 : decode cX2_include 24 = .ok (.lstore 7, 2) := by decide +kernel
theorem dX2_include_26 : decode cX2_include 26 = .ok (.lload_n 1, 1) := by decide +kernel
theorem dX2_include_27 : decode cX2_include 27 = .ok (.invokestatic 63, 3) := by decide +kernel
theorem dX2_include_30 : decode cX2_include 30 = .ok (.istore 9, 2) := by decide +kernel
theorem dX2_include_32 : decode cX2_include 32 = .ok (.iconst 0, 1) := by decide +kernel
theorem dX2_include_33 : decode cX2_include 33 = .ok (.istore 10, 2) := by decide +kernel
theorem dX2_include_35 : decode cX2_include 35 = .ok (.iload 10, 2) := by decide +kernel
theorem dX2_include_37 : decode cX2_include 37 = .ok (.iload 9, 2) := by decide +kernel
theorem dX2_include_39 : decode cX2_include 39 = .ok (.if_icmp .ge 56, 3) := by decide +kernel
theorem dX2_include_42 : decode cX2_include 42 = .ok (.lload 7, 2) := by decide +kernel
theorem dX2_include_44 : decode cX2_include 44 = .ok (.invokestatic 68, 3) := by decide +kernel
theorem dX2_include_47 : decode cX2_include 47 = .ok (.istore 11, 2) := by decide +kernel
theorem dX2_include_49 : decode cX2_include 49 = .ok (.lload 7, 2) := by decide +kernel
theorem dX2_include_51 : decode cX2_include 51 = .ok (.lload 7, 2) := by decide +kernel
theorem dX2_include_53 : decode cX2_include 53 = .ok (.lconst 1, 1) := by decide +kernel
theorem dX2_include_54 : decode cX2_include 54 = .ok (.lsub, 1) := by decide +kernel
theorem dX2_include_55 : decode cX2_include 55 = .ok (.land, 1) := by decide +kernel
theorem dX2_include_56 : decode cX2_include 56 = .ok (.lstore 7, 2) := by decide +kernel
theorem dX2_include_58 : decode cX2_include 58 = .ok (.iload 6, 2) := by decide +kernel
theorem dX2_include_60 : decode cX2_include 60 = .ok (.ifCond .eq 10, 3) := by decide +kernel
theorem dX2_include_63 : decode cX2_include 63 = .ok (.iload 11, 2) := by decide +kernel
theorem dX2_include_65 : decode cX2_include 65 = .ok (.iconst 3, 1) := by decide +kernel
theorem dX2_include_66 : decode cX2_include 66 = .ok (.ishr, 1) := by decide +kernel
theorem dX2_include_67 : decode cX2_include 67 = .ok (.goto 5, 3) := by decide +kernel
theorem dX2_include_70 : decode cX2_include 70 = .ok (.iload 11, 2) := by decide +kernel
theorem dX2_include_72 : decode cX2_include 72 = .ok (.istore 12, 2) := by decide +kernel
theorem dX2_include_74 : decode cX2_include 74 = .ok (.aload_n 0, 1) := by decide +kernel
theorem dX2_include_75 : decode cX2_include 75 = .ok (.getfield 12, 3) := by decide +kernel
theorem dX2_include_78 : decode cX2_include 78 = .ok (.iload 12, 2) := by decide +kernel
theorem dX2_include_80 : decode cX2_include 80 = .ok (.iload 4, 2) := by decide +kernel
theorem dX2_include_82 : decode cX2_include 82 = .ok (.ishl, 1) := by decide +kernel
theorem dX2_include_83 : decode cX2_include 83 = .ok (.iload 5, 2) := by decide +kernel
theorem dX2_include_85 : decode cX2_include 85 = .ok (.ior, 1) := by decide +kernel
theorem dX2_include_86 : decode cX2_include 86 = .ok (.invokevirtual 71, 3) := by decide +kernel
theorem dX2_include_89 : decode cX2_include 89 = .ok (.iinc 10 1, 3) := by decide +kernel
theorem dX2_include_92 : decode cX2_include 92 = .ok (.goto (-57), 3) := by decide +kernel
theorem dX2_include_95 : decode cX2_include 95 = .ok (.return_, 1) := by decide +kernel
theorem dX2_holding_0 : decode cX2_holding 0 = .ok (.aload_n 1, 1) := by decide +kernel
theorem dX2_holding_1 : decode cX2_holding 1 = .ok (.getfield 74, 3) := by decide +kernel
theorem dX2_holding_4 : decode cX2_holding 4 = .ok (.tableswitch 166 0 5 #[40, 49, 58, 71, 101, 133], 40) := by decide +kernel
theorem dX2_holding_44 : decode cX2_holding 44 = .ok (.aload_n 0, 1) := by decide +kernel
theorem dX2_holding_45 : decode cX2_holding 45 = .ok (.aload_n 1, 1) := by decide +kernel
theorem dX2_holding_46 : decode cX2_holding 46 = .ok (.getfield 77, 3) := by decide +kernel
theorem dX2_holding_49 : decode cX2_holding 49 = .ok (.invokevirtual 81, 3) := by decide +kernel
theorem dX2_holding_52 : decode cX2_holding 52 = .ok (.lreturn, 1) := by decide +kernel
theorem dX2_holding_53 : decode cX2_holding 53 = .ok (.aload_n 0, 1) := by decide +kernel
theorem dX2_holding_54 : decode cX2_holding 54 = .ok (.aload_n 1, 1) := by decide +kernel
theorem dX2_holding_55 : decode cX2_holding 55 = .ok (.getfield 85, 3) := by decide +kernel
theorem dX2_holding_58 : decode cX2_holding 58 = .ok (.invokevirtual 89, 3) := by decide +kernel
theorem dX2_holding_61 : decode cX2_holding 61 = .ok (.lreturn, 1) := by decide +kernel
theorem dX2_holding_62 : decode cX2_holding 62 = .ok (.aload_n 0, 1) := by decide +kernel
theorem dX2_holding_63 : decode cX2_holding 63 = .ok (.aload_n 1, 1) := by decide +kernel
theorem dX2_holding_64 : decode cX2_holding 64 = .ok (.getfield 93, 3) := by decide +kernel
theorem dX2_holding_67 : decode cX2_holding 67 = .ok (.invokevirtual 48, 3) := by decide +kernel
theorem dX2_holding_70 : decode cX2_holding 70 = .ok (.ldc2_w 97, 3) := by decide +kernel
theorem dX2_holding_73 : decode cX2_holding 73 = .ok (.lxor, 1) := by decide +kernel
theorem dX2_holding_74 : decode cX2_holding 74 = .ok (.lreturn, 1) := by decide +kernel
theorem dX2_holding_75 : decode cX2_holding 75 = .ok (.aload_n 0, 1) := by decide +kernel
theorem dX2_holding_76 : decode cX2_holding 76 = .ok (.aload_n 1, 1) := by decide +kernel
theorem dX2_holding_77 : decode cX2_holding 77 = .ok (.getfield 93, 3) := by decide +kernel
theorem dX2_holding_80 : decode cX2_holding 80 = .ok (.invokevirtual 48, 3) := by decide +kernel
theorem dX2_holding_83 : decode cX2_holding 83 = .ok (.lstore_n 2, 1) := by decide +kernel
theorem dX2_holding_84 : decode cX2_holding 84 = .ok (.lload_n 2, 1) := by decide +kernel
theorem dX2_holding_85 : decode cX2_holding 85 = .ok (.lconst 0, 1) := by decide +kernel
theorem dX2_holding_86 : decode cX2_holding 86 = .ok (.lcmp, 1) := by decide +kernel
theorem dX2_holding_87 : decode cX2_holding 87 = .ok (.ifCond .ne 7, 3) := by decide +kernel
theorem dX2_holding_90 : decode cX2_holding 90 = .ok (.lload_n 2, 1) := by decide +kernel
theorem dX2_holding_91 : decode cX2_holding 91 = .ok (.goto 13, 3) := by decide +kernel
theorem dX2_holding_94 : decode cX2_holding 94 = .ok (.lload_n 2, 1) := by decide +kernel
theorem dX2_holding_95 : decode cX2_holding 95 = .ok (.aload_n 0, 1) := by decide +kernel
theorem dX2_holding_96 : decode cX2_holding 96 = .ok (.aload_n 1, 1) := by decide +kernel
theorem dX2_holding_97 : decode cX2_holding 97 = .ok (.getfield 99, 3) := by decide +kernel
theorem dX2_holding_100 : decode cX2_holding 100 = .ok (.invokevirtual 48, 3) := by decide +kernel
theorem dX2_holding_103 : decode cX2_holding 103 = .ok (.land, 1) := by decide +kernel
theorem dX2_holding_104 : decode cX2_holding 104 = .ok (.lreturn, 1) := by decide +kernel
theorem dX2_holding_105 : decode cX2_holding 105 = .ok (.aload_n 0, 1) := by decide +kernel
theorem dX2_holding_106 : decode cX2_holding 106 = .ok (.aload_n 1, 1) := by decide +kernel
theorem dX2_holding_107 : decode cX2_holding 107 = .ok (.getfield 93, 3) := by decide +kernel
theorem dX2_holding_110 : decode cX2_holding 110 = .ok (.invokevirtual 48, 3) := by decide +kernel
theorem dX2_holding_113 : decode cX2_holding 113 = .ok (.lstore_n 2, 1) := by decide +kernel
theorem dX2_holding_114 : decode cX2_holding 114 = .ok (.lload_n 2, 1) := by decide +kernel
theorem dX2_holding_115 : decode cX2_holding 115 = .ok (.ldc2_w 97, 3) := by decide +kernel
theorem dX2_holding_118 : decode cX2_holding 118 = .ok (.lcmp, 1) := by decide +kernel
theorem dX2_holding_119 : decode cX2_holding 119 = .ok (.ifCond .ne 7, 3) := by decide +kernel
theorem dX2_holding_122 : decode cX2_holding 122 = .ok (.lload_n 2, 1) := by decide +kernel
theorem dX2_holding_123 : decode cX2_holding 123 = .ok (.goto 13, 3) := by decide +kernel
theorem dX2_holding_126 : decode cX2_holding 126 = .ok (.lload_n 2, 1) := by decide +kernel
theorem dX2_holding_127 : decode cX2_holding 127 = .ok (.aload_n 0, 1) := by decide +kernel
theorem dX2_holding_128 : decode cX2_holding 128 = .ok (.aload_n 1, 1) := by decide +kernel
theorem dX2_holding_129 : decode cX2_holding 129 = .ok (.getfield 99, 3) := by decide +kernel
theorem dX2_holding_132 : decode cX2_holding 132 = .ok (.invokevirtual 48, 3) := by decide +kernel
theorem dX2_holding_135 : decode cX2_holding 135 = .ok (.lor, 1) := by decide +kernel
theorem dX2_holding_136 : decode cX2_holding 136 = .ok (.lreturn, 1) := by decide +kernel
theorem dX2_holding_137 : decode cX2_holding 137 = .ok (.aload_n 1, 1) := by decide +kernel
theorem dX2_holding_138 : decode cX2_holding 138 = .ok (.getfield 102, 3) := by decide +kernel
theorem dX2_holding_141 : decode cX2_holding 141 = .ok (.iconst 2, 1) := by decide +kernel
theorem dX2_holding_142 : decode cX2_holding 142 = .ok (.if_icmp .ge 22, 3) := by decide +kernel
theorem dX2_holding_145 : decode cX2_holding 145 = .ok (.aload_n 0, 1) := by decide +kernel
theorem dX2_holding_146 : decode cX2_holding 146 = .ok (.aload_n 1, 1) := by decide +kernel
theorem dX2_holding_147 : decode cX2_holding 147 = .ok (.getfield 102, 3) := by decide +kernel
theorem dX2_holding_150 : decode cX2_holding 150 = .ok (.aload_n 0, 1) := by decide +kernel
theorem dX2_holding_151 : decode cX2_holding 151 = .ok (.aload_n 1, 1) := by decide +kernel
theorem dX2_holding_152 : decode cX2_holding 152 = .ok (.getfield 93, 3) := by decide +kernel
theorem dX2_holding_155 : decode cX2_holding 155 = .ok (.invokevirtual 48, 3) := by decide +kernel
theorem dX2_holding_158 : decode cX2_holding 158 = .ok (.invokevirtual 105, 3) := by decide +kernel
theorem dX2_holding_161 : decode cX2_holding 161 = .ok (.goto 8, 3) := by decide +kernel
theorem dX2_holding_164 : decode cX2_holding 164 = .ok (.aload_n 0, 1) := by decide +kernel
theorem dX2_holding_165 : decode cX2_holding 165 = .ok (.aload_n 1, 1) := by decide +kernel
theorem dX2_holding_166 : decode cX2_holding 166 = .ok (.invokevirtual 109, 3) := by decide +kernel
theorem dX2_holding_169 : decode cX2_holding 169 = .ok (.lreturn, 1) := by decide +kernel
theorem dX2_holding_170 : decode cX2_holding 170 = .ok (.aload_n 1, 1) := by decide +kernel
theorem dX2_holding_171 : decode cX2_holding 171 = .ok (.getfield 102, 3) := by decide +kernel
theorem dX2_holding_174 : decode cX2_holding 174 = .ok (.iconst 2, 1) := by decide +kernel
theorem dX2_holding_175 : decode cX2_holding 175 = .ok (.if_icmp .ge 30, 3) := by decide +kernel
theorem dX2_holding_178 : decode cX2_holding 178 = .ok (.aload_n 0, 1) := by decide +kernel
theorem dX2_holding_179 : decode cX2_holding 179 = .ok (.aload_n 1, 1) := by decide +kernel
theorem dX2_holding_180 : decode cX2_holding 180 = .ok (.getfield 102, 3) := by decide +kernel
theorem dX2_holding_183 : decode cX2_holding 183 = .ok (.aload_n 0, 1) := by decide +kernel
theorem dX2_holding_184 : decode cX2_holding 184 = .ok (.aload_n 1, 1) := by decide +kernel
theorem dX2_holding_185 : decode cX2_holding 185 = .ok (.getfield 93, 3) := by decide +kernel
theorem dX2_holding_188 : decode cX2_holding 188 = .ok (.invokevirtual 48, 3) := by decide +kernel
theorem dX2_holding_191 : decode cX2_holding 191 = .ok (.ldc2_w 97, 3) := by decide +kernel
theorem dX2_holding_194 : decode cX2_holding 194 = .ok (.lxor, 1) := by decide +kernel
theorem dX2_holding_195 : decode cX2_holding 195 = .ok (.invokevirtual 105, 3) := by decide +kernel
theorem dX2_holding_198 : decode cX2_holding 198 = .ok (.ldc2_w 97, 3) := by decide +kernel
theorem dX2_holding_201 : decode cX2_holding 201 = .ok (.lxor, 1) := by decide +kernel
theorem dX2_holding_202 : decode cX2_holding 202 = .ok (.goto 8, 3) := by decide +kernel
theorem dX2_holding_205 : decode cX2_holding 205 = .ok (.aload_n 0, 1) := by decide +kernel
theorem dX2_holding_206 : decode cX2_holding 206 = .ok (.aload_n 1, 1) := by decide +kernel
theorem dX2_holding_207 : decode cX2_holding 207 = .ok (.invokevirtual 112, 3) := by decide +kernel
theorem dX2_holding_210 : decode cX2_holding 210 = .ok (.lreturn, 1) := by decide +kernel
theorem dX2_holdingAtom_0 : decode cX2_holdingAtom 0 = .ok (.aload_n 1, 1) := by decide +kernel
theorem dX2_holdingAtom_1 : decode cX2_holdingAtom 1 = .ok (.aload_n 0, 1) := by decide +kernel
theorem dX2_holdingAtom_2 : decode cX2_holdingAtom 2 = .ok (.getfield 18, 3) := by decide +kernel
theorem dX2_holdingAtom_5 : decode cX2_holdingAtom 5 = .ok (.invokevirtual 115, 3) := by decide +kernel
theorem dX2_holdingAtom_8 : decode cX2_holdingAtom 8 = .ok (.istore_n 2, 1) := by decide +kernel
theorem dX2_holdingAtom_9 : decode cX2_holdingAtom 9 = .ok (.aload_n 1, 1) := by decide +kernel
theorem dX2_holdingAtom_10 : decode cX2_holdingAtom 10 = .ok (.getfield 121, 3) := by decide +kernel
theorem dX2_holdingAtom_13 : decode cX2_holdingAtom 13 = .ok (.getfield 122, 3) := by decide +kernel
theorem dX2_holdingAtom_16 : decode cX2_holdingAtom 16 = .ok (.iconst 3, 1) := by decide +kernel
theorem dX2_holdingAtom_17 : decode cX2_holdingAtom 17 = .ok (.iand, 1) := by decide +kernel
theorem dX2_holdingAtom_18 : decode cX2_holdingAtom 18 = .ok (.ifCond .ne 15, 3) := by decide +kernel
theorem dX2_holdingAtom_21 : decode cX2_holdingAtom 21 = .ok (.iload_n 2, 1) := by decide +kernel
theorem dX2_holdingAtom_22 : decode cX2_holdingAtom 22 = .ok (.ifCond .ne 7, 3) := by decide +kernel
theorem dX2_holdingAtom_25 : decode cX2_holdingAtom 25 = .ok (.lconst 0, 1) := by decide +kernel
theorem dX2_holdingAtom_26 : decode cX2_holdingAtom 26 = .ok (.goto 6, 3) := by decide +kernel
theorem dX2_holdingAtom_29 : decode cX2_holdingAtom 29 = .ok (.ldc2_w 97, 3) := by decide +kernel
theorem dX2_holdingAtom_32 : decode cX2_holdingAtom 32 = .ok (.lreturn, 1) := by decide +kernel
theorem dX2_holdingAtom_33 : decode cX2_holdingAtom 33 = .ok (.lconst 0, 1) := by decide +kernel
theorem dX2_holdingAtom_34 : decode cX2_holdingAtom 34 = .ok (.lstore_n 3, 1) := by decide +kernel
theorem dX2_holdingAtom_35 : decode cX2_holdingAtom 35 = .ok (.iload_n 2, 1) := by decide +kernel
theorem dX2_holdingAtom_36 : decode cX2_holdingAtom 36 = .ok (.invokestatic 34, 3) := by decide +kernel
theorem dX2_holdingAtom_39 : decode cX2_holdingAtom 39 = .ok (.istore 5, 2) := by decide +kernel
theorem dX2_holdingAtom_41 : decode cX2_holdingAtom 41 = .ok (.iconst 0, 1) := by decide +kernel
theorem dX2_holdingAtom_42 : decode cX2_holdingAtom 42 = .ok (.istore 6, 2) := by decide +kernel
theorem dX2_holdingAtom_44 : decode cX2_holdingAtom 44 = .ok (.iload 6, 2) := by decide +kernel
theorem dX2_holdingAtom_46 : decode cX2_holdingAtom 46 = .ok (.iload 5, 2) := by decide +kernel
theorem dX2_holdingAtom_48 : decode cX2_holdingAtom 48 = .ok (.if_icmp .ge 26, 3) := by decide +kernel
theorem dX2_holdingAtom_51 : decode cX2_holdingAtom 51 = .ok (.lload_n 3, 1) := by decide +kernel
theorem dX2_holdingAtom_52 : decode cX2_holdingAtom 52 = .ok (.aload_n 1, 1) := by decide +kernel
theorem dX2_holdingAtom_53 : decode cX2_holdingAtom 53 = .ok (.iload_n 2, 1) := by decide +kernel
theorem dX2_holdingAtom_54 : decode cX2_holdingAtom 54 = .ok (.invokestatic 127, 3) := by decide +kernel
theorem dX2_holdingAtom_57 : decode cX2_holdingAtom 57 = .ok (.invokestatic 129, 3) := by decide +kernel
theorem dX2_holdingAtom_60 : decode cX2_holdingAtom 60 = .ok (.lor, 1) := by decide +kernel
theorem dX2_holdingAtom_61 : decode cX2_holdingAtom 61 = .ok (.lstore_n 3, 1) := by decide +kernel
theorem dX2_holdingAtom_62 : decode cX2_holdingAtom 62 = .ok (.iload_n 2, 1) := by decide +kernel
theorem dX2_holdingAtom_63 : decode cX2_holdingAtom 63 = .ok (.iload_n 2, 1) := by decide +kernel
theorem dX2_holdingAtom_64 : decode cX2_holdingAtom 64 = .ok (.iconst 1, 1) := by decide +kernel
theorem dX2_holdingAtom_65 : decode cX2_holdingAtom 65 = .ok (.isub, 1) := by decide +kernel
theorem dX2_holdingAtom_66 : decode cX2_holdingAtom 66 = .ok (.iand, 1) := by decide +kernel
theorem dX2_holdingAtom_67 : decode cX2_holdingAtom 67 = .ok (.istore_n 2, 1) := by decide +kernel
theorem dX2_holdingAtom_68 : decode cX2_holdingAtom 68 = .ok (.iinc 6 1, 3) := by decide +kernel
theorem dX2_holdingAtom_71 : decode cX2_holdingAtom 71 = .ok (.goto (-27), 3) := by decide +kernel
theorem dX2_holdingAtom_74 : decode cX2_holdingAtom 74 = .ok (.lload_n 3, 1) := by decide +kernel
theorem dX2_holdingAtom_75 : decode cX2_holdingAtom 75 = .ok (.lreturn, 1) := by decide +kernel
theorem dX2_lanesOfFact_0 : decode cX2_lanesOfFact 0 = .ok (.ldc2_w 97, 3) := by decide +kernel
theorem dX2_lanesOfFact_3 : decode cX2_lanesOfFact 3 = .ok (.lstore_n 2, 1) := by decide +kernel
theorem dX2_lanesOfFact_4 : decode cX2_lanesOfFact 4 = .ok (.iconst 0, 1) := by decide +kernel
theorem dX2_lanesOfFact_5 : decode cX2_lanesOfFact 5 = .ok (.istore 4, 2) := by decide +kernel
theorem dX2_lanesOfFact_7 : decode cX2_lanesOfFact 7 = .ok (.iload 4, 2) := by decide +kernel
theorem dX2_lanesOfFact_9 : decode cX2_lanesOfFact 9 = .ok (.aload_n 0, 1) := by decide +kernel
theorem dX2_lanesOfFact_10 : decode cX2_lanesOfFact 10 = .ok (.getfield 121, 3) := by decide +kernel
theorem dX2_lanesOfFact_13 : decode cX2_lanesOfFact 13 = .ok (.getfield 133, 3) := by decide +kernel
theorem dX2_lanesOfFact_16 : decode cX2_lanesOfFact 16 = .ok (.if_icmp .ge 45, 3) := by decide +kernel
theorem dX2_lanesOfFact_19 : decode cX2_lanesOfFact 19 = .ok (.aload_n 0, 1) := by decide +kernel
theorem dX2_lanesOfFact_20 : decode cX2_lanesOfFact 20 = .ok (.getfield 121, 3) := by decide +kernel
theorem dX2_lanesOfFact_23 : decode cX2_lanesOfFact 23 = .ok (.getfield 136, 3) := by decide +kernel
theorem dX2_lanesOfFact_26 : decode cX2_lanesOfFact 26 = .ok (.iload 4, 2) := by decide +kernel
theorem dX2_lanesOfFact_28 : decode cX2_lanesOfFact 28 = .ok (.iaload, 1) := by decide +kernel
theorem dX2_lanesOfFact_29 : decode cX2_lanesOfFact 29 = .ok (.istore 5, 2) := by decide +kernel
theorem dX2_lanesOfFact_31 : decode cX2_lanesOfFact 31 = .ok (.iload 5, 2) := by decide +kernel
theorem dX2_lanesOfFact_33 : decode cX2_lanesOfFact 33 = .ok (.iconst 2, 1) := by decide +kernel
theorem dX2_lanesOfFact_34 : decode cX2_lanesOfFact 34 = .ok (.if_icmp .ge 21, 3) := by decide +kernel
theorem dX2_lanesOfFact_37 : decode cX2_lanesOfFact 37 = .ok (.lload_n 2, 1) := by decide +kernel
theorem dX2_lanesOfFact_38 : decode cX2_lanesOfFact 38 = .ok (.iload 5, 2) := by decide +kernel
theorem dX2_lanesOfFact_40 : decode cX2_lanesOfFact 40 = .ok (.aload_n 0, 1) := by decide +kernel
theorem dX2_lanesOfFact_41 : decode cX2_lanesOfFact 41 = .ok (.getfield 139, 3) := by decide +kernel
theorem dX2_lanesOfFact_44 : decode cX2_lanesOfFact 44 = .ok (.iload_n 1, 1) := by decide +kernel
theorem dX2_lanesOfFact_45 : decode cX2_lanesOfFact 45 = .ok (.iload 4, 2) := by decide +kernel
theorem dX2_lanesOfFact_47 : decode cX2_lanesOfFact 47 = .ok (.invokevirtual 143, 3) := by decide +kernel
theorem dX2_lanesOfFact_50 : decode cX2_lanesOfFact 50 = .ok (.invokestatic 149, 3) := by decide +kernel
theorem dX2_lanesOfFact_53 : decode cX2_lanesOfFact 53 = .ok (.land, 1) := by decide +kernel
theorem dX2_lanesOfFact_54 : decode cX2_lanesOfFact 54 = .ok (.lstore_n 2, 1) := by decide +kernel
theorem dX2_lanesOfFact_55 : decode cX2_lanesOfFact 55 = .ok (.iinc 4 1, 3) := by decide +kernel
theorem dX2_lanesOfFact_58 : decode cX2_lanesOfFact 58 = .ok (.goto (-51), 3) := by decide +kernel
theorem dX2_lanesOfFact_61 : decode cX2_lanesOfFact 61 = .ok (.lload_n 2, 1) := by decide +kernel
theorem dX2_lanesOfFact_62 : decode cX2_lanesOfFact 62 = .ok (.lreturn, 1) := by decide +kernel
theorem dX2_holdingSame_0 : decode cX2_holdingSame 0 = .ok (.lconst 0, 1) := by decide +kernel
theorem dX2_holdingSame_1 : decode cX2_holdingSame 1 = .ok (.lstore_n 2, 1) := by decide +kernel
theorem dX2_holdingSame_2 : decode cX2_holdingSame 2 = .ok (.iconst 0, 1) := by decide +kernel
theorem dX2_holdingSame_3 : decode cX2_holdingSame 3 = .ok (.istore 4, 2) := by decide +kernel
theorem dX2_holdingSame_5 : decode cX2_holdingSame 5 = .ok (.iload 4, 2) := by decide +kernel
theorem dX2_holdingSame_7 : decode cX2_holdingSame 7 = .ok (.bipush 8, 2) := by decide +kernel
theorem dX2_holdingSame_9 : decode cX2_holdingSame 9 = .ok (.if_icmp .ge 29, 3) := by decide +kernel
theorem dX2_holdingSame_12 : decode cX2_holdingSame 12 = .ok (.lload_n 2, 1) := by decide +kernel
theorem dX2_holdingSame_13 : decode cX2_holdingSame 13 = .ok (.aload_n 0, 1) := by decide +kernel
theorem dX2_holdingSame_14 : decode cX2_holdingSame 14 = .ok (.aload_n 1, 1) := by decide +kernel
theorem dX2_holdingSame_15 : decode cX2_holdingSame 15 = .ok (.iconst 0, 1) := by decide +kernel
theorem dX2_holdingSame_16 : decode cX2_holdingSame 16 = .ok (.iload 4, 2) := by decide +kernel
theorem dX2_holdingSame_18 : decode cX2_holdingSame 18 = .ok (.invokevirtual 152, 3) := by decide +kernel
theorem dX2_holdingSame_21 : decode cX2_holdingSame 21 = .ok (.aload_n 0, 1) := by decide +kernel
theorem dX2_holdingSame_22 : decode cX2_holdingSame 22 = .ok (.aload_n 1, 1) := by decide +kernel
theorem dX2_holdingSame_23 : decode cX2_holdingSame 23 = .ok (.iconst 1, 1) := by decide +kernel
theorem dX2_holdingSame_24 : decode cX2_holdingSame 24 = .ok (.iload 4, 2) := by decide +kernel
theorem dX2_holdingSame_26 : decode cX2_holdingSame 26 = .ok (.invokevirtual 152, 3) := by decide +kernel
theorem dX2_holdingSame_29 : decode cX2_holdingSame 29 = .ok (.land, 1) := by decide +kernel
theorem dX2_holdingSame_30 : decode cX2_holdingSame 30 = .ok (.lor, 1) := by decide +kernel
theorem dX2_holdingSame_31 : decode cX2_holdingSame 31 = .ok (.lstore_n 2, 1) := by decide +kernel
theorem dX2_holdingSame_32 : decode cX2_holdingSame 32 = .ok (.iinc 4 1, 3) := by decide +kernel
theorem dX2_holdingSame_35 : decode cX2_holdingSame 35 = .ok (.goto (-30), 3) := by decide +kernel
theorem dX2_holdingSame_38 : decode cX2_holdingSame 38 = .ok (.lload_n 2, 1) := by decide +kernel
theorem dX2_holdingSame_39 : decode cX2_holdingSame 39 = .ok (.lreturn, 1) := by decide +kernel
theorem dX2_lanesWhere_0 : decode cX2_lanesWhere 0 = .ok (.aload_n 1, 1) := by decide +kernel
theorem dX2_lanesWhere_1 : decode cX2_lanesWhere 1 = .ok (.getfield 136, 3) := by decide +kernel
theorem dX2_lanesWhere_4 : decode cX2_lanesWhere 4 = .ok (.iload_n 2, 1) := by decide +kernel
theorem dX2_lanesWhere_5 : decode cX2_lanesWhere 5 = .ok (.iaload, 1) := by decide +kernel
theorem dX2_lanesWhere_6 : decode cX2_lanesWhere 6 = .ok (.iconst 2, 1) := by decide +kernel
theorem dX2_lanesWhere_7 : decode cX2_lanesWhere 7 = .ok (.if_icmp .ge 14, 3) := by decide +kernel
theorem dX2_lanesWhere_10 : decode cX2_lanesWhere 10 = .ok (.aload_n 1, 1) := by decide +kernel
theorem dX2_lanesWhere_11 : decode cX2_lanesWhere 11 = .ok (.getfield 136, 3) := by decide +kernel
theorem dX2_lanesWhere_14 : decode cX2_lanesWhere 14 = .ok (.iload_n 2, 1) := by decide +kernel
theorem dX2_lanesWhere_15 : decode cX2_lanesWhere 15 = .ok (.iaload, 1) := by decide +kernel
theorem dX2_lanesWhere_16 : decode cX2_lanesWhere 16 = .ok (.iload_n 3, 1) := by decide +kernel
theorem dX2_lanesWhere_17 : decode cX2_lanesWhere 17 = .ok (.invokestatic 149, 3) := by decide +kernel
theorem dX2_lanesWhere_20 : decode cX2_lanesWhere 20 = .ok (.lreturn, 1) := by decide +kernel
theorem dX2_lanesWhere_21 : decode cX2_lanesWhere 21 = .ok (.aload_n 1, 1) := by decide +kernel
theorem dX2_lanesWhere_22 : decode cX2_lanesWhere 22 = .ok (.iload_n 2, 1) := by decide +kernel
theorem dX2_lanesWhere_23 : decode cX2_lanesWhere 23 = .ok (.aload_n 0, 1) := by decide +kernel
theorem dX2_lanesWhere_24 : decode cX2_lanesWhere 24 = .ok (.getfield 18, 3) := by decide +kernel
theorem dX2_lanesWhere_27 : decode cX2_lanesWhere 27 = .ok (.invokevirtual 156, 3) := by decide +kernel
theorem dX2_lanesWhere_30 : decode cX2_lanesWhere 30 = .ok (.iload_n 3, 1) := by decide +kernel
theorem dX2_lanesWhere_31 : decode cX2_lanesWhere 31 = .ok (.if_icmp .ne 9, 3) := by decide +kernel
theorem dX2_lanesWhere_34 : decode cX2_lanesWhere 34 = .ok (.ldc2_w 97, 3) := by decide +kernel
theorem dX2_lanesWhere_37 : decode cX2_lanesWhere 37 = .ok (.goto 4, 3) := by decide +kernel
theorem dX2_lanesWhere_40 : decode cX2_lanesWhere 40 = .ok (.lconst 0, 1) := by decide +kernel
theorem dX2_lanesWhere_41 : decode cX2_lanesWhere 41 = .ok (.lreturn, 1) := by decide +kernel
theorem dX2_lanesAt_0 : decode cX2_lanesAt 0 = .ok (.iload_n 0, 1) := by decide +kernel
theorem dX2_lanesAt_1 : decode cX2_lanesAt 1 = .ok (.ifCond .ne 14, 3) := by decide +kernel
theorem dX2_lanesAt_4 : decode cX2_lanesAt 4 = .ok (.ldc2_w 160, 3) := by decide +kernel
theorem dX2_lanesAt_7 : decode cX2_lanesAt 7 = .ok (.bipush 8, 2) := by decide +kernel
theorem dX2_lanesAt_9 : decode cX2_lanesAt 9 = .ok (.iload_n 1, 1) := by decide +kernel
theorem dX2_lanesAt_10 : decode cX2_lanesAt 10 = .ok (.imul, 1) := by decide +kernel
theorem dX2_lanesAt_11 : decode cX2_lanesAt 11 = .ok (.lshl, 1) := by decide +kernel
theorem dX2_lanesAt_12 : decode cX2_lanesAt 12 = .ok (.goto 8, 3) := by decide +kernel
theorem dX2_lanesAt_15 : decode cX2_lanesAt 15 = .ok (.ldc2_w 162, 3) := by decide +kernel
theorem dX2_lanesAt_18 : decode cX2_lanesAt 18 = .ok (.iload_n 1, 1) := by decide +kernel
theorem dX2_lanesAt_19 : decode cX2_lanesAt 19 = .ok (.lshl, 1) := by decide +kernel
theorem dX2_lanesAt_20 : decode cX2_lanesAt 20 = .ok (.lreturn, 1) := by decide +kernel
theorem dX2_lanesWith_0 : decode cX2_lanesWith 0 = .ok (.lconst 0, 1) := by decide +kernel
theorem dX2_lanesWith_1 : decode cX2_lanesWith 1 = .ok (.lstore_n 2, 1) := by decide +kernel
theorem dX2_lanesWith_2 : decode cX2_lanesWith 2 = .ok (.iconst 0, 1) := by decide +kernel
theorem dX2_lanesWith_3 : decode cX2_lanesWith 3 = .ok (.istore 4, 2) := by decide +kernel
theorem dX2_lanesWith_5 : decode cX2_lanesWith 5 = .ok (.iload 4, 2) := by decide +kernel
theorem dX2_lanesWith_7 : decode cX2_lanesWith 7 = .ok (.bipush 8, 2) := by decide +kernel
theorem dX2_lanesWith_9 : decode cX2_lanesWith 9 = .ok (.if_icmp .ge 27, 3) := by decide +kernel
theorem dX2_lanesWith_12 : decode cX2_lanesWith 12 = .ok (.iload_n 1, 1) := by decide +kernel
theorem dX2_lanesWith_13 : decode cX2_lanesWith 13 = .ok (.iload 4, 2) := by decide +kernel
theorem dX2_lanesWith_15 : decode cX2_lanesWith 15 = .ok (.invokestatic 56, 3) := by decide +kernel
theorem dX2_lanesWith_18 : decode cX2_lanesWith 18 = .ok (.ifCond .eq 12, 3) := by decide +kernel
theorem dX2_lanesWith_21 : decode cX2_lanesWith 21 = .ok (.lload_n 2, 1) := by decide +kernel
theorem dX2_lanesWith_22 : decode cX2_lanesWith 22 = .ok (.iload_n 0, 1) := by decide +kernel
theorem dX2_lanesWith_23 : decode cX2_lanesWith 23 = .ok (.iload 4, 2) := by decide +kernel
theorem dX2_lanesWith_25 : decode cX2_lanesWith 25 = .ok (.invokestatic 149, 3) := by decide +kernel
theorem dX2_lanesWith_28 : decode cX2_lanesWith 28 = .ok (.lor, 1) := by decide +kernel
theorem dX2_lanesWith_29 : decode cX2_lanesWith 29 = .ok (.lstore_n 2, 1) := by decide +kernel
theorem dX2_lanesWith_30 : decode cX2_lanesWith 30 = .ok (.iinc 4 1, 3) := by decide +kernel
theorem dX2_lanesWith_33 : decode cX2_lanesWith 33 = .ok (.goto (-28), 3) := by decide +kernel
theorem dX2_lanesWith_36 : decode cX2_lanesWith 36 = .ok (.lload_n 2, 1) := by decide +kernel
theorem dX2_lanesWith_37 : decode cX2_lanesWith 37 = .ok (.lreturn, 1) := by decide +kernel
theorem dX2_someLane_0 : decode cX2_someLane 0 = .ok (.lconst 0, 1) := by decide +kernel
theorem dX2_someLane_1 : decode cX2_someLane 1 = .ok (.lstore 4, 2) := by decide +kernel
theorem dX2_someLane_3 : decode cX2_someLane 3 = .ok (.iconst 0, 1) := by decide +kernel
theorem dX2_someLane_4 : decode cX2_someLane 4 = .ok (.istore 6, 2) := by decide +kernel
theorem dX2_someLane_6 : decode cX2_someLane 6 = .ok (.iload 6, 2) := by decide +kernel
theorem dX2_someLane_8 : decode cX2_someLane 8 = .ok (.bipush 8, 2) := by decide +kernel
theorem dX2_someLane_10 : decode cX2_someLane 10 = .ok (.if_icmp .ge 52, 3) := by decide +kernel
theorem dX2_someLane_13 : decode cX2_someLane 13 = .ok (.aload_n 0, 1) := by decide +kernel
theorem dX2_someLane_14 : decode cX2_someLane 14 = .ok (.getfield 22, 3) := by decide +kernel
theorem dX2_someLane_17 : decode cX2_someLane 17 = .ok (.iload 6, 2) := by decide +kernel
theorem dX2_someLane_19 : decode cX2_someLane 19 = .ok (.invokestatic 56, 3) := by decide +kernel
theorem dX2_someLane_22 : decode cX2_someLane 22 = .ok (.ifCond .eq 34, 3) := by decide +kernel
theorem dX2_someLane_25 : decode cX2_someLane 25 = .ok (.lload 4, 2) := by decide +kernel
theorem dX2_someLane_27 : decode cX2_someLane 27 = .ok (.iload_n 1, 1) := by decide +kernel
theorem dX2_someLane_28 : decode cX2_someLane 28 = .ok (.ifCond .ne 17, 3) := by decide +kernel
theorem dX2_someLane_31 : decode cX2_someLane 31 = .ok (.lload_n 2, 1) := by decide +kernel
theorem dX2_someLane_32 : decode cX2_someLane 32 = .ok (.bipush 8, 2) := by decide +kernel
theorem dX2_someLane_34 : decode cX2_someLane 34 = .ok (.iload 6, 2) := by decide +kernel
theorem dX2_someLane_36 : decode cX2_someLane 36 = .ok (.imul, 1) := by decide +kernel
theorem dX2_someLane_37 : decode cX2_someLane 37 = .ok (.lushr, 1) := by decide +kernel
theorem dX2_someLane_38 : decode cX2_someLane 38 = .ok (.ldc2_w 160, 3) := by decide +kernel
theorem dX2_someLane_41 : decode cX2_someLane 41 = .ok (.land, 1) := by decide +kernel
theorem dX2_someLane_42 : decode cX2_someLane 42 = .ok (.goto 11, 3) := by decide +kernel
theorem dX2_someLane_45 : decode cX2_someLane 45 = .ok (.lload_n 2, 1) := by decide +kernel
theorem dX2_someLane_46 : decode cX2_someLane 46 = .ok (.iload 6, 2) := by decide +kernel
theorem dX2_someLane_48 : decode cX2_someLane 48 = .ok (.lushr, 1) := by decide +kernel
theorem dX2_someLane_49 : decode cX2_someLane 49 = .ok (.ldc2_w 162, 3) := by decide +kernel
theorem dX2_someLane_52 : decode cX2_someLane 52 = .ok (.land, 1) := by decide +kernel
theorem dX2_someLane_53 : decode cX2_someLane 53 = .ok (.lor, 1) := by decide +kernel
theorem dX2_someLane_54 : decode cX2_someLane 54 = .ok (.lstore 4, 2) := by decide +kernel
theorem dX2_someLane_56 : decode cX2_someLane 56 = .ok (.iinc 6 1, 3) := by decide +kernel
theorem dX2_someLane_59 : decode cX2_someLane 59 = .ok (.goto (-53), 3) := by decide +kernel
theorem dX2_someLane_62 : decode cX2_someLane 62 = .ok (.iload_n 1, 1) := by decide +kernel
theorem dX2_someLane_63 : decode cX2_someLane 63 = .ok (.ifCond .ne 12, 3) := by decide +kernel
theorem dX2_someLane_66 : decode cX2_someLane 66 = .ok (.lload 4, 2) := by decide +kernel
theorem dX2_someLane_68 : decode cX2_someLane 68 = .ok (.ldc2_w 162, 3) := by decide +kernel
theorem dX2_someLane_71 : decode cX2_someLane 71 = .ok (.lmul, 1) := by decide +kernel
theorem dX2_someLane_72 : decode cX2_someLane 72 = .ok (.goto 9, 3) := by decide +kernel
theorem dX2_someLane_75 : decode cX2_someLane 75 = .ok (.lload 4, 2) := by decide +kernel
theorem dX2_someLane_77 : decode cX2_someLane 77 = .ok (.ldc2_w 160, 3) := by decide +kernel
theorem dX2_someLane_80 : decode cX2_someLane 80 = .ok (.lmul, 1) := by decide +kernel
theorem dX2_someLane_81 : decode cX2_someLane 81 = .ok (.lreturn, 1) := by decide +kernel
theorem dX2_someValue_0 : decode cX2_someValue 0 = .ok (.aload_n 0, 1) := by decide +kernel
theorem dX2_someValue_1 : decode cX2_someValue 1 = .ok (.getfield 18, 3) := by decide +kernel
theorem dX2_someValue_4 : decode cX2_someValue 4 = .ok (.aload_n 1, 1) := by decide +kernel
theorem dX2_someValue_5 : decode cX2_someValue 5 = .ok (.getfield 102, 3) := by decide +kernel
theorem dX2_someValue_8 : decode cX2_someValue 8 = .ok (.iaload, 1) := by decide +kernel
theorem dX2_someValue_9 : decode cX2_someValue 9 = .ok (.istore_n 2, 1) := by decide +kernel
theorem dX2_someValue_10 : decode cX2_someValue 10 = .ok (.lconst 0, 1) := by decide +kernel
theorem dX2_someValue_11 : decode cX2_someValue 11 = .ok (.lstore_n 3, 1) := by decide +kernel
theorem dX2_someValue_12 : decode cX2_someValue 12 = .ok (.iconst 0, 1) := by decide +kernel
theorem dX2_someValue_13 : decode cX2_someValue 13 = .ok (.istore 5, 2) := by decide +kernel
theorem dX2_someValue_15 : decode cX2_someValue 15 = .ok (.iload 5, 2) := by decide +kernel
theorem dX2_someValue_17 : decode cX2_someValue 17 = .ok (.bipush 8, 2) := by decide +kernel
theorem dX2_someValue_19 : decode cX2_someValue 19 = .ok (.if_icmp .ge 51, 3) := by decide +kernel
theorem dX2_someValue_22 : decode cX2_someValue 22 = .ok (.lload_n 3, 1) := by decide +kernel
theorem dX2_someValue_23 : decode cX2_someValue 23 = .ok (.ldc2_w 97, 3) := by decide +kernel
theorem dX2_someValue_26 : decode cX2_someValue 26 = .ok (.lcmp, 1) := by decide +kernel
theorem dX2_someValue_27 : decode cX2_someValue 27 = .ok (.ifCond .eq 43, 3) := by decide +kernel
theorem dX2_someValue_30 : decode cX2_someValue 30 = .ok (.aload_n 0, 1) := by decide +kernel
theorem dX2_someValue_31 : decode cX2_someValue 31 = .ok (.getfield 22, 3) := by decide +kernel
theorem dX2_someValue_34 : decode cX2_someValue 34 = .ok (.iload 5, 2) := by decide +kernel
theorem dX2_someValue_36 : decode cX2_someValue 36 = .ok (.invokestatic 56, 3) := by decide +kernel
theorem dX2_someValue_39 : decode cX2_someValue 39 = .ok (.ifCond .eq 25, 3) := by decide +kernel
theorem dX2_someValue_42 : decode cX2_someValue 42 = .ok (.aload_n 0, 1) := by decide +kernel
theorem dX2_someValue_43 : decode cX2_someValue 43 = .ok (.getfield 18, 3) := by decide +kernel
theorem dX2_someValue_46 : decode cX2_someValue 46 = .ok (.aload_n 1, 1) := by decide +kernel
theorem dX2_someValue_47 : decode cX2_someValue 47 = .ok (.getfield 102, 3) := by decide +kernel
theorem dX2_someValue_50 : decode cX2_someValue 50 = .ok (.iload 5, 2) := by decide +kernel
theorem dX2_someValue_52 : decode cX2_someValue 52 = .ok (.iastore, 1) := by decide +kernel
theorem dX2_someValue_53 : decode cX2_someValue 53 = .ok (.lload_n 3, 1) := by decide +kernel
theorem dX2_someValue_54 : decode cX2_someValue 54 = .ok (.aload_n 0, 1) := by decide +kernel
theorem dX2_someValue_55 : decode cX2_someValue 55 = .ok (.aload_n 1, 1) := by decide +kernel
theorem dX2_someValue_56 : decode cX2_someValue 56 = .ok (.getfield 93, 3) := by decide +kernel
theorem dX2_someValue_59 : decode cX2_someValue 59 = .ok (.invokevirtual 48, 3) := by decide +kernel
theorem dX2_someValue_62 : decode cX2_someValue 62 = .ok (.lor, 1) := by decide +kernel
theorem dX2_someValue_63 : decode cX2_someValue 63 = .ok (.lstore_n 3, 1) := by decide +kernel
theorem dX2_someValue_64 : decode cX2_someValue 64 = .ok (.iinc 5 1, 3) := by decide +kernel
theorem dX2_someValue_67 : decode cX2_someValue 67 = .ok (.goto (-52), 3) := by decide +kernel
theorem dX2_someValue_70 : decode cX2_someValue 70 = .ok (.aload_n 0, 1) := by decide +kernel
theorem dX2_someValue_71 : decode cX2_someValue 71 = .ok (.getfield 18, 3) := by decide +kernel
theorem dX2_someValue_74 : decode cX2_someValue 74 = .ok (.aload_n 1, 1) := by decide +kernel
theorem dX2_someValue_75 : decode cX2_someValue 75 = .ok (.getfield 102, 3) := by decide +kernel
theorem dX2_someValue_78 : decode cX2_someValue 78 = .ok (.iload_n 2, 1) := by decide +kernel
theorem dX2_someValue_79 : decode cX2_someValue 79 = .ok (.iastore, 1) := by decide +kernel
theorem dX2_someValue_80 : decode cX2_someValue 80 = .ok (.lload_n 3, 1) := by decide +kernel
theorem dX2_someValue_81 : decode cX2_someValue 81 = .ok (.lreturn, 1) := by decide +kernel
theorem dX2_everyValue_0 : decode cX2_everyValue 0 = .ok (.aload_n 0, 1) := by decide +kernel
theorem dX2_everyValue_1 : decode cX2_everyValue 1 = .ok (.getfield 18, 3) := by decide +kernel
theorem dX2_everyValue_4 : decode cX2_everyValue 4 = .ok (.aload_n 1, 1) := by decide +kernel
theorem dX2_everyValue_5 : decode cX2_everyValue 5 = .ok (.getfield 102, 3) := by decide +kernel
theorem dX2_everyValue_8 : decode cX2_everyValue 8 = .ok (.iaload, 1) := by decide +kernel
theorem dX2_everyValue_9 : decode cX2_everyValue 9 = .ok (.istore_n 2, 1) := by decide +kernel
theorem dX2_everyValue_10 : decode cX2_everyValue 10 = .ok (.ldc2_w 97, 3) := by decide +kernel
theorem dX2_everyValue_13 : decode cX2_everyValue 13 = .ok (.lstore_n 3, 1) := by decide +kernel
theorem dX2_everyValue_14 : decode cX2_everyValue 14 = .ok (.iconst 0, 1) := by decide +kernel
theorem dX2_everyValue_15 : decode cX2_everyValue 15 = .ok (.istore 5, 2) := by decide +kernel
theorem dX2_everyValue_17 : decode cX2_everyValue 17 = .ok (.iload 5, 2) := by decide +kernel
theorem dX2_everyValue_19 : decode cX2_everyValue 19 = .ok (.bipush 8, 2) := by decide +kernel
theorem dX2_everyValue_21 : decode cX2_everyValue 21 = .ok (.if_icmp .ge 49, 3) := by decide +kernel
theorem dX2_everyValue_24 : decode cX2_everyValue 24 = .ok (.lload_n 3, 1) := by decide +kernel
theorem dX2_everyValue_25 : decode cX2_everyValue 25 = .ok (.lconst 0, 1) := by decide +kernel
theorem dX2_everyValue_26 : decode cX2_everyValue 26 = .ok (.lcmp, 1) := by decide +kernel
theorem dX2_everyValue_27 : decode cX2_everyValue 27 = .ok (.ifCond .eq 43, 3) := by decide +kernel
theorem dX2_everyValue_30 : decode cX2_everyValue 30 = .ok (.aload_n 0, 1) := by decide +kernel
theorem dX2_everyValue_31 : decode cX2_everyValue 31 = .ok (.getfield 22, 3) := by decide +kernel
theorem dX2_everyValue_34 : decode cX2_everyValue 34 = .ok (.iload 5, 2) := by decide +kernel
theorem dX2_everyValue_36 : decode cX2_everyValue 36 = .ok (.invokestatic 56, 3) := by decide +kernel
theorem dX2_everyValue_39 : decode cX2_everyValue 39 = .ok (.ifCond .eq 25, 3) := by decide +kernel
theorem dX2_everyValue_42 : decode cX2_everyValue 42 = .ok (.aload_n 0, 1) := by decide +kernel
theorem dX2_everyValue_43 : decode cX2_everyValue 43 = .ok (.getfield 18, 3) := by decide +kernel
theorem dX2_everyValue_46 : decode cX2_everyValue 46 = .ok (.aload_n 1, 1) := by decide +kernel
theorem dX2_everyValue_47 : decode cX2_everyValue 47 = .ok (.getfield 102, 3) := by decide +kernel
theorem dX2_everyValue_50 : decode cX2_everyValue 50 = .ok (.iload 5, 2) := by decide +kernel
theorem dX2_everyValue_52 : decode cX2_everyValue 52 = .ok (.iastore, 1) := by decide +kernel
theorem dX2_everyValue_53 : decode cX2_everyValue 53 = .ok (.lload_n 3, 1) := by decide +kernel
theorem dX2_everyValue_54 : decode cX2_everyValue 54 = .ok (.aload_n 0, 1) := by decide +kernel
theorem dX2_everyValue_55 : decode cX2_everyValue 55 = .ok (.aload_n 1, 1) := by decide +kernel
theorem dX2_everyValue_56 : decode cX2_everyValue 56 = .ok (.getfield 93, 3) := by decide +kernel
theorem dX2_everyValue_59 : decode cX2_everyValue 59 = .ok (.invokevirtual 48, 3) := by decide +kernel
theorem dX2_everyValue_62 : decode cX2_everyValue 62 = .ok (.land, 1) := by decide +kernel
theorem dX2_everyValue_63 : decode cX2_everyValue 63 = .ok (.lstore_n 3, 1) := by decide +kernel
theorem dX2_everyValue_64 : decode cX2_everyValue 64 = .ok (.iinc 5 1, 3) := by decide +kernel
theorem dX2_everyValue_67 : decode cX2_everyValue 67 = .ok (.goto (-50), 3) := by decide +kernel
theorem dX2_everyValue_70 : decode cX2_everyValue 70 = .ok (.aload_n 0, 1) := by decide +kernel
theorem dX2_everyValue_71 : decode cX2_everyValue 71 = .ok (.getfield 18, 3) := by decide +kernel
theorem dX2_everyValue_74 : decode cX2_everyValue 74 = .ok (.aload_n 1, 1) := by decide +kernel
theorem dX2_everyValue_75 : decode cX2_everyValue 75 = .ok (.getfield 102, 3) := by decide +kernel
theorem dX2_everyValue_78 : decode cX2_everyValue 78 = .ok (.iload_n 2, 1) := by decide +kernel
theorem dX2_everyValue_79 : decode cX2_everyValue 79 = .ok (.iastore, 1) := by decide +kernel
theorem dX2_everyValue_80 : decode cX2_everyValue 80 = .ok (.lload_n 3, 1) := by decide +kernel
theorem dX2_everyValue_81 : decode cX2_everyValue 81 = .ok (.lreturn, 1) := by decide +kernel
/-! Lanes: a long as 64 answers, one for each two VALUES of the VARIABLES 0 and 1 -/
def lan (q : Nat → Bool) : Int64 := nL (ms q 64)
/-- the VALUE of the VARIABLE v (0 or 1) in the lane j -/
def ld (v j : Nat) : Nat := if v = 0 then j / 8 else j % 8
theorem ms_lt64 (q : Nat → Bool) : ms q 64 < 2 ^ 64 := ms_lt q 64
theorem lan_ext {q r : Nat → Bool} (h : ∀ j, j < 64 → q j = r j) : lan q = lan r := by rw [lan, lan, ms_ext h]
theorem lan_and (q r : Nat → Bool) : lan q &&& lan r = lan (fun j => q j && r j) := by rw [lan, lan, nL_and, ms_and]; rfl
theorem ms_orr (q r : Nat → Bool) (N : Nat) : ms q N ||| ms r N = ms (fun j => q j || r j) N := Nat.eq_of_testBit_eq fun i => by
  rw [Nat.testBit_or, ms_bit, ms_bit, ms_bit, Bool.and_or_distrib_left]
theorem lan_or (q r : Nat → Bool) : lan q ||| lan r = lan (fun j => q j || r j) := by rw [lan, lan, nL_or, ms_orr]; rfl
theorem lan_all : lan (fun _ => true) = -1 := by rw [lan, ms_all]; decide
theorem lan_none : lan (fun _ => false) = 0 := by rw [lan, ms_none]; rfl
theorem lan_xor (q : Nat → Bool) : lan q ^^^ (-1) = lan (fun j => !q j) := by
  rw [← lan_all, lan, lan, nL_xor, lan]
  congr 1
  refine Nat.eq_of_testBit_eq fun i => ?_
  rw [Nat.testBit_xor, ms_bit, ms_bit, ms_bit]
  cases decide (i < 64) <;> cases q i <;> rfl
theorem lan_eq {q r : Nat → Bool} : lan q = lan r ↔ ∀ j, j < 64 → q j = r j := by
  constructor
  · intro h j hj
    have h2 := (nL_inj (ms_lt64 q) (ms_lt64 r)).mp h
    have h3 : (ms q 64).testBit j = (ms r 64).testBit j := by rw [h2]
    rw [ms_bit, ms_bit] at h3; simpa [hj] using h3
  · exact lan_ext
theorem lan_0 {q : Nat → Bool} : lan q = 0 ↔ ∀ j, j < 64 → q j = false := by rw [← lan_none]; exact lan_eq
theorem lan_1 {q : Nat → Bool} : lan q = -1 ↔ ∀ j, j < 64 → q j = true := by rw [← lan_all]; exact lan_eq
set_option maxRecDepth 100000 in
theorem at_0 : ∀ w, w < 8 → (255 : Int64) <<< ((nI (8 * w)).toInt64 &&& 63) = lan (fun j => decide (ld 0 j = w)) := by decide +kernel
set_option maxRecDepth 100000 in
theorem at_1 : ∀ w, w < 8 → (72340172838076673 : Int64) <<< ((nI w).toInt64 &&& 63) = lan (fun j => decide (ld 1 j = w)) := by decide +kernel
theorem mul_8' (a : Nat) : 8 * nI a = nI (8 * a) := pk_mul 8 a
set_option maxHeartbeats 4000000 in
set_option maxRecDepth 100000 in
/-- lanesAt(variable, w) -/
theorem m_lanesAt (l : Launch) (D : va_G) (cy : Nat → ClassId) (O : Nat × va_E → Prop) {v9 w9 : Nat} (hv : v9 < 2) (hw : w9 < 8) : Cl l yX2_lanesAt (.code yX2_lanesAt cX2_lanesAt 2 (some .long) :: WALL) ({ frames := 0, cells := 0, slots := 0, locals := 0 }) D cy O [.int (nI v9), .int (nI w9)] [] 0 0 (fun (r : Int64) (w : va_W) => r = lan (fun j => decide (ld v9 j = w9)) ∧ w = []) := by
  refine z_metl (by decide) rfl rfl (Nat.le_of_ble_eq_true rfl) ?_
  intro p e s m args below meth c X hr hin
  refine z_eq (ws' := []) (lv' := [(0, .int (nI v9)), (1, .int (nI w9))]) (st' := []) rfl rfl rfl ?_
  refine z_iload_n X dX2_lanesAt_0 rfl (j := 0) rfl ?_
  refine z_if_ne X (tgt := 15) dX2_lanesAt_1 (by decide) (fun c_1 => ?_) (fun c_1 => ?_)
  · skip
    have v1 : v9 = 1 := by
      have h9 : ¬ v9 = 0 := fun z => c_1 (by rw [z]; rfl)
      omega
    refine z_ldc2 X kc_X2_162 dX2_lanesAt_15 ?_
    refine z_iload_n X dX2_lanesAt_18 rfl (j := 1) rfl ?_
    refine z_lshl X (v := (lan (fun j => decide (ld v9 j = w9)))) dX2_lanesAt_19 (by rw [v1]; exact at_1 w9 hw) ?_
    exact z_endl X hr [] [] rfl rfl rfl ⟨rfl, rfl⟩ dX2_lanesAt_20
  · skip
    refine z_ldc2 X kc_X2_160 dX2_lanesAt_4 ?_
    refine z_bipush X (v := 8) dX2_lanesAt_7 (by decide) ?_
    refine z_iload_n X dX2_lanesAt_9 rfl (j := 1) rfl ?_
    refine z_imul X (v := (nI (8 * w9))) dX2_lanesAt_10 (mul_8' w9) ?_
    refine z_lshl X (v := (lan (fun j => decide (ld v9 j = w9)))) dX2_lanesAt_11 (by rw [show v9 = 0 from (nI_zero (by omega)).mp c_1]; exact at_0 w9 hw) ?_
    refine z_goto X (tgt := 20) dX2_lanesAt_12 (by decide) ?_
    exact z_endl X hr [] [] rfl rfl rfl ⟨rfl, rfl⟩ dX2_lanesAt_20
theorem ld_lt {v j : Nat} (hj : j < 64) : ld v j < 8 := by unfold ld; split <;> omega
theorem with_s {v S k : Nat} (h : S.testBit k = true) : lan (fun j => S.testBit (ld v j) && decide (ld v j < k)) ||| lan (fun j => decide (ld v j = k)) = lan (fun j => S.testBit (ld v j) && decide (ld v j < k + 1)) := by
  rw [lan_or]
  refine lan_ext fun j _ => ?_
  by_cases h9 : ld v j = k
  · rw [h9, h]; simp
  · rw [show decide (ld v j < k + 1) = decide (ld v j < k) by simp only [decide_eq_decide]; omega]; simp [h9]
theorem with_n {v S k : Nat} (h : S.testBit k = false) : lan (fun j => S.testBit (ld v j) && decide (ld v j < k)) = lan (fun j => S.testBit (ld v j) && decide (ld v j < k + 1)) := by
  refine lan_ext fun j _ => ?_
  by_cases h9 : ld v j = k
  · rw [h9, h]; simp
  · rw [show decide (ld v j < k + 1) = decide (ld v j < k) by simp only [decide_eq_decide]; omega]
theorem with_0 {v S : Nat} : lan (fun j => S.testBit (ld v j) && decide (ld v j < 0)) = 0 := lan_0.mpr fun j _ => by simp
theorem with_8 {v S : Nat} : lan (fun j => S.testBit (ld v j) && decide (ld v j < 8)) = lan (fun j => S.testBit (ld v j)) := lan_ext fun j hj => by simp [ld_lt hj]
set_option maxHeartbeats 4000000 in
set_option maxRecDepth 100000 in
/-- lanesWith(variable, values) -/
theorem m_lanesWith (l : Launch) (D : va_G) (cy : Nat → ClassId) (O : Nat × va_E → Prop) {v9 S : Nat} (hv : v9 < 2) (hS : S < 2 ^ 31) : Cl l yX2_lanesWith (.code yX2_lanesWith cX2_lanesWith 5 (some .long) :: WALL) ({ frames := 1, cells := 0, slots := 0, locals := 21 }) D cy O [.int (nI v9), .int (nI S)] [] 0 0 (fun (r : Int64) (w : va_W) => r = lan (fun j => S.testBit (ld v9 j)) ∧ w = []) := by
  refine z_metl (by decide) rfl rfl (Nat.le_of_ble_eq_true rfl) ?_
  intro p e s m args below meth c X hr hin
  refine z_eq (ws' := []) (lv' := [(0, .int (nI v9)), (1, .int (nI S))]) (st' := []) rfl rfl rfl ?_
  have L : ∀ (d : Nat) (w9 : Nat), w9 + d = 8 → Zz D (va_A [] s.heap.size) 5 p l e ({ frames := 1, cells := 0, slots := 0, locals := 21 }) s m args below meth c (MQ below (va_Ql (fun (r : Int64) (w : va_W) => r = lan (fun j => S.testBit (ld v9 j)) ∧ w = []) (end_ D [] s.heap.size) (va_A [] s.heap.size)) args s 0 0 (va_A [] s.heap.size)) [] [(4, .int (nI w9)), (2, .long (lan (fun j => S.testBit (ld v9 j) && decide (ld v9 j < w9)))), (0, .int (nI v9)), (1, .int (nI S))] 0 0 5 [] := by
    intro d
    induction d with
    | zero =>
      intro w9 hL0
      refine z_iload X dX2_lanesWith_5 (j := 0) rfl ?_
      refine z_bipush X (v := 8) dX2_lanesWith_7 (by decide) ?_
      refine z_icmp_ge X (tgt := 36) dX2_lanesWith_9 (by decide) (fun c_9 => ?_) (fun c9 => absurd (nI_le (a := 8) (b := w9) (by omega) (by omega)) c9)
      refine z_lload_n X dX2_lanesWith_36 rfl (j := 1) rfl ?_
      exact z_endl X hr [] [] rfl rfl rfl ⟨(by rw [show w9 = 8 by omega]; exact with_8), rfl⟩ dX2_lanesWith_37
    | succ d ih =>
      intro w9 hL0
      refine z_iload X dX2_lanesWith_5 (j := 0) rfl ?_
      refine z_bipush X (v := 8) dX2_lanesWith_7 (by decide) ?_
      refine z_icmp_ge X (tgt := 36) dX2_lanesWith_9 (by decide) (fun c9 => absurd c9 (nI_ge (a := w9) (b := 8) (by omega) (by decide))) (fun c_9 => ?_)
      refine z_iload_n X dX2_lanesWith_12 rfl (j := 3) rfl ?_
      refine z_iload X dX2_lanesWith_13 (j := 0) rfl ?_
      refine z_reti X (as := [.int (nI S), .int (nI w9)]) (wc := []) (wr := []) (rest := []) (fun H9 locs9 ls9 hP9 hS9 hl9 hb9 hp9 => va_runSN (As := [.int (nI S), .int (nI w9)]) (rest := []) X.fix (m_isIn l D cy O (nI S) (nI w9) H9.size) ⟨va_cnB 2 X.hts (gB cd_X9_isIn) rfl rfl rfl (X.nw.1 _ (List.mem_of_getElem? (i := 5) rfl)) (X.hts _ ni_X9) (by decide +kernel) ⟨Nat.le_of_ble_eq_true rfl, Nat.le_of_ble_eq_true rfl⟩, X.hts _ sm_X9_isIn, trivial⟩ ⟨hb9, hp9⟩ rfl rfl hl9.1 rfl (lv_room (Nat.le_of_ble_eq_true rfl)) dX2_lanesWith_15 ⟨Nat.le_of_ble_eq_true rfl, Nat.le_of_ble_eq_true rfl⟩) [] [] rfl rfl rfl rfl rfl (by decide) (fun _ h => Or.inl h) (fun r1 w2 h3 => ?_)
      obtain ⟨rfl, rfl⟩ := h3
      refine z_eq (ws' := []) (lv' := [(4, .int (nI w9)), (2, .long (lan (fun j => S.testBit (ld v9 j) && decide (ld v9 j < w9)))), (0, .int (nI v9)), (1, .int (nI S))]) (st' := [.int (bI (nI S) (nI w9))]) rfl rfl rfl ?_
      refine z_widen (k' := 0) (n' := 0) (Nat.le_refl _) (Nat.le_refl _) ?_
      refine z_if_eq X (tgt := 30) dX2_lanesWith_18 (by decide) (fun c_18 => ?_) (fun c_18 => ?_)
      · skip
        refine z_iinc X (j := 0) (v := (nI (w9 + 1))) (lv' := [(4, .int (nI (w9 + 1))), (2, .long (lan (fun j => S.testBit (ld v9 j) && decide (ld v9 j < w9)))), (0, .int (nI v9)), (1, .int (nI S))]) dX2_lanesWith_30 rfl (nI_1 w9) (by decide) rfl ?_
        refine z_goto X (tgt := 5) dX2_lanesWith_33 (by decide) ?_
        refine z_lv [0, 1, 2, 3] (lv' := [(4, .int (nI (w9 + 1))), (2, .long (lan (fun j => S.testBit (ld v9 j) && decide (ld v9 j < w9)))), (0, .int (nI v9)), (1, .int (nI S))]) rfl ?_
        refine z_eq (ws' := []) (lv' := [(4, .int (nI (w9 + 1))), (2, .long (lan (fun j => S.testBit (ld v9 j) && decide (ld v9 j < (w9 + 1))))), (0, .int (nI v9)), (1, .int (nI S))]) (st' := []) rfl (by rw [with_n (bit_no hS (by omega) c_18)]) rfl ?_
        exact ih (w9 + 1) (by omega)
      · skip
        refine z_lload_n X dX2_lanesWith_21 rfl (j := 1) rfl ?_
        refine z_iload_n X dX2_lanesWith_22 rfl (j := 2) rfl ?_
        refine z_iload X dX2_lanesWith_23 (j := 0) rfl ?_
        refine z_retl X (as := [.int (nI v9), .int (nI w9)]) (wc := []) (wr := []) (rest := [.long (lan (fun j => S.testBit (ld v9 j) && decide (ld v9 j < w9)))]) (fun H9 locs9 ls9 hP9 hS9 hl9 hb9 hp9 => va_runS (As := [.int (nI v9), .int (nI w9)]) (rest := [.long (lan (fun j => S.testBit (ld v9 j) && decide (ld v9 j < w9)))]) X.fix (m_lanesAt l D cy O (v9 := v9) (w9 := w9) hv (by omega) H9.size) (va_cwS 2 X.hts (gS ml_X2_149 sm_X2_lanesAt ni_X2 cd_X2_lanesAt) rfl rfl rfl (by decide +kernel) ⟨Nat.le_of_ble_eq_true rfl, Nat.le_of_ble_eq_true rfl⟩) ⟨hb9, hp9⟩ rfl rfl hl9.1 rfl (lv_room (Nat.le_of_ble_eq_true rfl)) dX2_lanesWith_25 ⟨Nat.le_of_ble_eq_true rfl, Nat.le_of_ble_eq_true rfl⟩) [] [] rfl rfl rfl rfl rfl (by decide) (fun _ h => Or.inl h) (fun r4 w5 h6 => ?_)
        obtain ⟨rfl, rfl⟩ := h6
        refine z_eq (ws' := []) (lv' := [(4, .int (nI w9)), (2, .long (lan (fun j => S.testBit (ld v9 j) && decide (ld v9 j < w9)))), (0, .int (nI v9)), (1, .int (nI S))]) (st' := [.long (lan (fun j => decide (ld v9 j = w9))), .long (lan (fun j => S.testBit (ld v9 j) && decide (ld v9 j < w9)))]) rfl rfl rfl ?_
        refine z_widen (k' := 0) (n' := 0) (Nat.le_refl _) (Nat.le_refl _) ?_
        refine z_lor X (v := (lan (fun j => S.testBit (ld v9 j) && decide (ld v9 j < (w9 + 1))))) dX2_lanesWith_28 (with_s (bit_yes hS (by omega) c_18)) ?_
        refine z_lstore_n X (lv' := [(2, .long (lan (fun j => S.testBit (ld v9 j) && decide (ld v9 j < (w9 + 1))))), (4, .int (nI w9)), (0, .int (nI v9)), (1, .int (nI S))]) dX2_lanesWith_29 rfl (by decide) rfl ?_
        refine z_iinc X (j := 1) (v := (nI (w9 + 1))) (lv' := [(4, .int (nI (w9 + 1))), (2, .long (lan (fun j => S.testBit (ld v9 j) && decide (ld v9 j < (w9 + 1))))), (0, .int (nI v9)), (1, .int (nI S))]) dX2_lanesWith_30 rfl (nI_1 w9) (by decide) rfl ?_
        refine z_goto X (tgt := 5) dX2_lanesWith_33 (by decide) ?_
        refine z_eq (ws' := []) (lv' := [(4, .int (nI (w9 + 1))), (2, .long (lan (fun j => S.testBit (ld v9 j) && decide (ld v9 j < (w9 + 1))))), (0, .int (nI v9)), (1, .int (nI S))]) (st' := []) rfl rfl rfl ?_
        exact ih (w9 + 1) (by omega)
  refine z_lconst X (v := 0) dX2_lanesWith_0 (by decide) ?_
  refine z_lstore_n X (lv' := [(2, .long 0), (0, .int (nI v9)), (1, .int (nI S))]) dX2_lanesWith_1 rfl (by decide) rfl ?_
  refine z_iconst X (v := 0) dX2_lanesWith_2 (by decide) ?_
  refine z_istore X (lv' := [(4, .int 0), (2, .long 0), (0, .int (nI v9)), (1, .int (nI S))]) dX2_lanesWith_3 (by decide) rfl ?_
  refine z_eq (ws' := []) (lv' := [(4, .int (nI 0)), (2, .long (lan (fun j => S.testBit (ld v9 j) && decide (ld v9 j < 0)))), (0, .int (nI v9)), (1, .int (nI S))]) (st' := []) rfl (by rw [with_0]; rfl) rfl ?_
  exact L (8) 0 (by omega)
