theorem dX3_finds_0 : decode cX3_finds 0 = .ok (.aload_n 0, 1) := by decide +kernel
theorem dX3_finds_1 : decode cX3_finds 1 = .ok (.aload_n 1, 1) := by decide +kernel
theorem dX3_finds_2 : decode cX3_finds 2 = .ok (.putfield 19, 3) := by decide +kernel
theorem dX3_finds_5 : decode cX3_finds 5 = .ok (.aload_n 0, 1) := by decide +kernel
theorem dX3_finds_6 : decode cX3_finds 6 = .ok (.iload_n 2, 1) := by decide +kernel
theorem dX3_finds_7 : decode cX3_finds 7 = .ok (.putfield 23, 3) := by decide +kernel
theorem dX3_finds_10 : decode cX3_finds 10 = .ok (.aload_n 0, 1) := by decide +kernel
theorem dX3_finds_11 : decode cX3_finds 11 = .ok (.aload_n 3, 1) := by decide +kernel
theorem dX3_finds_12 : decode cX3_finds 12 = .ok (.putfield 26, 3) := by decide +kernel
theorem dX3_finds_15 : decode cX3_finds 15 = .ok (.aload_n 0, 1) := by decide +kernel
theorem dX3_finds_16 : decode cX3_finds 16 = .ok (.iload 4, 2) := by decide +kernel
theorem dX3_finds_18 : decode cX3_finds 18 = .ok (.putfield 29, 3) := by decide +kernel
theorem dX3_finds_21 : decode cX3_finds 21 = .ok (.aload_n 0, 1) := by decide +kernel
theorem dX3_finds_22 : decode cX3_finds 22 = .ok (.iconst 0, 1) := by decide +kernel
theorem dX3_finds_23 : decode cX3_finds 23 = .ok (.putfield 15, 3) := by decide +kernel
theorem dX3_finds_26 : decode cX3_finds 26 = .ok (.aload_n 0, 1) := by decide +kernel
theorem dX3_finds_27 : decode cX3_finds 27 = .ok (.invokevirtual 32, 3) := by decide +kernel
theorem dX3_finds_30 : decode cX3_finds 30 = .ok (.ifCond .eq 15, 3) := by decide +kernel
theorem dX3_finds_33 : decode cX3_finds 33 = .ok (.aload_n 0, 1) := by decide +kernel
theorem dX3_finds_34 : decode cX3_finds 34 = .ok (.iconst 0, 1) := by decide +kernel
theorem dX3_finds_35 : decode cX3_finds 35 = .ok (.invokevirtual 36, 3) := by decide +kernel
theorem dX3_finds_38 : decode cX3_finds 38 = .ok (.ifCond .eq 7, 3) := by decide +kernel
theorem dX3_finds_41 : decode cX3_finds 41 = .ok (.iconst 1, 1) := by decide +kernel
theorem dX3_finds_42 : decode cX3_finds 42 = .ok (.goto 4, 3) := by decide +kernel
theorem dX3_finds_45 : decode cX3_finds 45 = .ok (.iconst 0, 1) := by decide +kernel
theorem dX3_finds_46 : decode cX3_finds 46 = .ok (.ireturn, 1) := by decide +kernel
theorem dX3_shortened_0 : decode cX3_shortened 0 = .ok (.aload_n 1, 1) := by decide +kernel
theorem dX3_shortened_1 : decode cX3_shortened 1 = .ok (.invokevirtual 44, 3) := by decide +kernel
theorem dX3_shortened_4 : decode cX3_shortened 4 = .ok (.istore_n 2, 1) := by decide +kernel
theorem dX3_shortened_5 : decode cX3_shortened 5 = .ok (.iconst 0, 1) := by decide +kernel
theorem dX3_shortened_6 : decode cX3_shortened 6 = .ok (.istore_n 3, 1) := by decide +kernel
theorem dX3_shortened_7 : decode cX3_shortened 7 = .ok (.iload_n 3, 1) := by decide +kernel
theorem dX3_shortened_8 : decode cX3_shortened 8 = .ok (.aload_n 1, 1) := by decide +kernel
theorem dX3_shortened_9 : decode cX3_shortened 9 = .ok (.getfield 50, 3) := by decide +kernel
theorem dX3_shortened_12 : decode cX3_shortened 12 = .ok (.if_icmp .ge 34, 3) := by decide +kernel
theorem dX3_shortened_15 : decode cX3_shortened 15 = .ok (.aload_n 0, 1) := by decide +kernel
theorem dX3_shortened_16 : decode cX3_shortened 16 = .ok (.aload_n 1, 1) := by decide +kernel
theorem dX3_shortened_17 : decode cX3_shortened 17 = .ok (.iload_n 2, 1) := by decide +kernel
theorem dX3_shortened_18 : decode cX3_shortened 18 = .ok (.aload_n 1, 1) := by decide +kernel
theorem dX3_shortened_19 : decode cX3_shortened 19 = .ok (.iload_n 2, 1) := by decide +kernel
theorem dX3_shortened_20 : decode cX3_shortened 20 = .ok (.iconst 1, 1) := by decide +kernel
theorem dX3_shortened_21 : decode cX3_shortened 21 = .ok (.iload_n 3, 1) := by decide +kernel
theorem dX3_shortened_22 : decode cX3_shortened 22 = .ok (.ishl, 1) := by decide +kernel
theorem dX3_shortened_23 : decode cX3_shortened 23 = .ok (.iconst (-1), 1) := by decide +kernel
theorem dX3_shortened_24 : decode cX3_shortened 24 = .ok (.ixor, 1) := by decide +kernel
theorem dX3_shortened_25 : decode cX3_shortened 25 = .ok (.iand, 1) := by decide +kernel
theorem dX3_shortened_26 : decode cX3_shortened 26 = .ok (.invokevirtual 53, 3) := by decide +kernel
theorem dX3_shortened_29 : decode cX3_shortened 29 = .ok (.ifCond .eq 11, 3) := by decide +kernel
theorem dX3_shortened_32 : decode cX3_shortened 32 = .ok (.iload_n 2, 1) := by decide +kernel
theorem dX3_shortened_33 : decode cX3_shortened 33 = .ok (.iconst 1, 1) := by decide +kernel
theorem dX3_shortened_34 : decode cX3_shortened 34 = .ok (.iload_n 3, 1) := by decide +kernel
theorem dX3_shortened_35 : decode cX3_shortened 35 = .ok (.ishl, 1) := by decide +kernel
theorem dX3_shortened_36 : decode cX3_shortened 36 = .ok (.iconst (-1), 1) := by decide +kernel
theorem dX3_shortened_37 : decode cX3_shortened 37 = .ok (.ixor, 1) := by decide +kernel
theorem dX3_shortened_38 : decode cX3_shortened 38 = .ok (.iand, 1) := by decide +kernel
theorem dX3_shortened_39 : decode cX3_shortened 39 = .ok (.istore_n 2, 1) := by decide +kernel
theorem dX3_shortened_40 : decode cX3_shortened 40 = .ok (.iinc 3 1, 3) := by decide +kernel
theorem dX3_shortened_43 : decode cX3_shortened 43 = .ok (.goto (-36), 3) := by decide +kernel
theorem dX3_shortened_46 : decode cX3_shortened 46 = .ok (.iload_n 2, 1) := by decide +kernel
theorem dX3_shortened_47 : decode cX3_shortened 47 = .ok (.ireturn, 1) := by decide +kernel
theorem dX3_mapsHead_0 : decode cX3_mapsHead 0 = .ok (.aload_n 0, 1) := by decide +kernel
theorem dX3_mapsHead_1 : decode cX3_mapsHead 1 = .ok (.getfield 19, 3) := by decide +kernel
theorem dX3_mapsHead_4 : decode cX3_mapsHead 4 = .ok (.getfield 57, 3) := by decide +kernel
theorem dX3_mapsHead_7 : decode cX3_mapsHead 7 = .ok (.getfield 61, 3) := by decide +kernel
theorem dX3_mapsHead_10 : decode cX3_mapsHead 10 = .ok (.aload_n 0, 1) := by decide +kernel
theorem dX3_mapsHead_11 : decode cX3_mapsHead 11 = .ok (.getfield 26, 3) := by decide +kernel
theorem dX3_mapsHead_14 : decode cX3_mapsHead 14 = .ok (.getfield 57, 3) := by decide +kernel
theorem dX3_mapsHead_17 : decode cX3_mapsHead 17 = .ok (.getfield 61, 3) := by decide +kernel
theorem dX3_mapsHead_20 : decode cX3_mapsHead 20 = .ok (.if_icmp .eq 5, 3) := by decide +kernel
theorem dX3_mapsHead_23 : decode cX3_mapsHead 23 = .ok (.iconst 0, 1) := by decide +kernel
theorem dX3_mapsHead_24 : decode cX3_mapsHead 24 = .ok (.ireturn, 1) := by decide +kernel
theorem dX3_mapsHead_25 : decode cX3_mapsHead 25 = .ok (.aload_n 0, 1) := by decide +kernel
theorem dX3_mapsHead_26 : decode cX3_mapsHead 26 = .ok (.getfield 19, 3) := by decide +kernel
theorem dX3_mapsHead_29 : decode cX3_mapsHead 29 = .ok (.aload_n 0, 1) := by decide +kernel
theorem dX3_mapsHead_30 : decode cX3_mapsHead 30 = .ok (.getfield 23, 3) := by decide +kernel
theorem dX3_mapsHead_33 : decode cX3_mapsHead 33 = .ok (.invokevirtual 64, 3) := by decide +kernel
theorem dX3_mapsHead_36 : decode cX3_mapsHead 36 = .ok (.istore_n 1, 1) := by decide +kernel
theorem dX3_mapsHead_37 : decode cX3_mapsHead 37 = .ok (.iconst 0, 1) := by decide +kernel
theorem dX3_mapsHead_38 : decode cX3_mapsHead 38 = .ok (.istore_n 2, 1) := by decide +kernel
theorem dX3_mapsHead_39 : decode cX3_mapsHead 39 = .ok (.iload_n 2, 1) := by decide +kernel
theorem dX3_mapsHead_40 : decode cX3_mapsHead 40 = .ok (.aload_n 0, 1) := by decide +kernel
theorem dX3_mapsHead_41 : decode cX3_mapsHead 41 = .ok (.getfield 19, 3) := by decide +kernel
theorem dX3_mapsHead_44 : decode cX3_mapsHead 44 = .ok (.getfield 57, 3) := by decide +kernel
theorem dX3_mapsHead_47 : decode cX3_mapsHead 47 = .ok (.getfield 61, 3) := by decide +kernel
theorem dX3_mapsHead_50 : decode cX3_mapsHead 50 = .ok (.if_icmp .ge 84, 3) := by decide +kernel
theorem dX3_mapsHead_53 : decode cX3_mapsHead 53 = .ok (.aload_n 0, 1) := by decide +kernel
theorem dX3_mapsHead_54 : decode cX3_mapsHead 54 = .ok (.getfield 19, 3) := by decide +kernel
theorem dX3_mapsHead_57 : decode cX3_mapsHead 57 = .ok (.getfield 57, 3) := by decide +kernel
theorem dX3_mapsHead_60 : decode cX3_mapsHead 60 = .ok (.getfield 68, 3) := by decide +kernel
theorem dX3_mapsHead_63 : decode cX3_mapsHead 63 = .ok (.iload_n 2, 1) := by decide +kernel
theorem dX3_mapsHead_64 : decode cX3_mapsHead 64 = .ok (.iaload, 1) := by decide +kernel
theorem dX3_mapsHead_65 : decode cX3_mapsHead 65 = .ok (.istore_n 3, 1) := by decide +kernel
theorem dX3_mapsHead_66 : decode cX3_mapsHead 66 = .ok (.aload_n 0, 1) := by decide +kernel
theorem dX3_mapsHead_67 : decode cX3_mapsHead 67 = .ok (.getfield 26, 3) := by decide +kernel
theorem dX3_mapsHead_70 : decode cX3_mapsHead 70 = .ok (.getfield 57, 3) := by decide +kernel
theorem dX3_mapsHead_73 : decode cX3_mapsHead 73 = .ok (.getfield 68, 3) := by decide +kernel
theorem dX3_mapsHead_76 : decode cX3_mapsHead 76 = .ok (.iload_n 2, 1) := by decide +kernel
theorem dX3_mapsHead_77 : decode cX3_mapsHead 77 = .ok (.iaload, 1) := by decide +kernel
theorem dX3_mapsHead_78 : decode cX3_mapsHead 78 = .ok (.istore 4, 2) := by decide +kernel
theorem dX3_mapsHead_80 : decode cX3_mapsHead 80 = .ok (.iload_n 3, 1) := by decide +kernel
theorem dX3_mapsHead_81 : decode cX3_mapsHead 81 = .ok (.invokestatic 71, 3) := by decide +kernel
theorem dX3_mapsHead_84 : decode cX3_mapsHead 84 = .ok (.ifCond .eq 15, 3) := by decide +kernel
theorem dX3_mapsHead_87 : decode cX3_mapsHead 87 = .ok (.iload_n 1, 1) := by decide +kernel
theorem dX3_mapsHead_88 : decode cX3_mapsHead 88 = .ok (.iload_n 3, 1) := by decide +kernel
theorem dX3_mapsHead_89 : decode cX3_mapsHead 89 = .ok (.invokestatic 40, 3) := by decide +kernel
theorem dX3_mapsHead_92 : decode cX3_mapsHead 92 = .ok (.ifCond .eq 7, 3) := by decide +kernel
theorem dX3_mapsHead_95 : decode cX3_mapsHead 95 = .ok (.iconst 1, 1) := by decide +kernel
theorem dX3_mapsHead_96 : decode cX3_mapsHead 96 = .ok (.goto 4, 3) := by decide +kernel
theorem dX3_mapsHead_99 : decode cX3_mapsHead 99 = .ok (.iconst 0, 1) := by decide +kernel
theorem dX3_mapsHead_100 : decode cX3_mapsHead 100 = .ok (.istore 5, 2) := by decide +kernel
theorem dX3_mapsHead_102 : decode cX3_mapsHead 102 = .ok (.iload 5, 2) := by decide +kernel
theorem dX3_mapsHead_104 : decode cX3_mapsHead 104 = .ok (.ifCond .eq 16, 3) := by decide +kernel
theorem dX3_mapsHead_107 : decode cX3_mapsHead 107 = .ok (.aload_n 0, 1) := by decide +kernel
theorem dX3_mapsHead_108 : decode cX3_mapsHead 108 = .ok (.iload_n 3, 1) := by decide +kernel
theorem dX3_mapsHead_109 : decode cX3_mapsHead 109 = .ok (.iload 4, 2) := by decide +kernel
theorem dX3_mapsHead_111 : decode cX3_mapsHead 111 = .ok (.invokevirtual 74, 3) := by decide +kernel
theorem dX3_mapsHead_114 : decode cX3_mapsHead 114 = .ok (.ifCond .ne 14, 3) := by decide +kernel
theorem dX3_mapsHead_117 : decode cX3_mapsHead 117 = .ok (.goto 9, 3) := by decide +kernel
theorem dX3_mapsHead_120 : decode cX3_mapsHead 120 = .ok (.iload_n 3, 1) := by decide +kernel
theorem dX3_mapsHead_121 : decode cX3_mapsHead 121 = .ok (.iload 4, 2) := by decide +kernel
theorem dX3_mapsHead_123 : decode cX3_mapsHead 123 = .ok (.if_icmp .eq 5, 3) := by decide +kernel
theorem dX3_mapsHead_126 : decode cX3_mapsHead 126 = .ok (.iconst 0, 1) := by decide +kernel
theorem dX3_mapsHead_127 : decode cX3_mapsHead 127 = .ok (.ireturn, 1) := by decide +kernel
theorem dX3_mapsHead_128 : decode cX3_mapsHead 128 = .ok (.iinc 2 1, 3) := by decide +kernel
theorem dX3_mapsHead_131 : decode cX3_mapsHead 131 = .ok (.goto (-92), 3) := by decide +kernel
theorem dX3_mapsHead_134 : decode cX3_mapsHead 134 = .ok (.iconst 1, 1) := by decide +kernel
theorem dX3_mapsHead_135 : decode cX3_mapsHead 135 = .ok (.ireturn, 1) := by decide +kernel
theorem dX3_mapsAtomsFrom_0 : decode cX3_mapsAtomsFrom 0 = .ok (.iload_n 1, 1) := by decide +kernel
theorem dX3_mapsAtomsFrom_1 : decode cX3_mapsAtomsFrom 1 = .ok (.aload_n 0, 1) := by decide +kernel
theorem dX3_mapsAtomsFrom_2 : decode cX3_mapsAtomsFrom 2 = .ok (.getfield 19, 3) := by decide +kernel
theorem dX3_mapsAtomsFrom_5 : decode cX3_mapsAtomsFrom 5 = .ok (.getfield 50, 3) := by decide +kernel
theorem dX3_mapsAtomsFrom_8 : decode cX3_mapsAtomsFrom 8 = .ok (.if_icmp .lt 5, 3) := by decide +kernel
theorem dX3_mapsAtomsFrom_11 : decode cX3_mapsAtomsFrom 11 = .ok (.iconst 1, 1) := by decide +kernel
theorem dX3_mapsAtomsFrom_12 : decode cX3_mapsAtomsFrom 12 = .ok (.ireturn, 1) := by decide +kernel
theorem dX3_mapsAtomsFrom_13 : decode cX3_mapsAtomsFrom 13 = .ok (.aload_n 0, 1) := by decide +kernel
theorem dX3_mapsAtomsFrom_14 : decode cX3_mapsAtomsFrom 14 = .ok (.getfield 23, 3) := by decide +kernel
theorem dX3_mapsAtomsFrom_17 : decode cX3_mapsAtomsFrom 17 = .ok (.iload_n 1, 1) := by decide +kernel
theorem dX3_mapsAtomsFrom_18 : decode cX3_mapsAtomsFrom 18 = .ok (.invokestatic 40, 3) := by decide +kernel
theorem dX3_mapsAtomsFrom_21 : decode cX3_mapsAtomsFrom 21 = .ok (.ifCond .ne 11, 3) := by decide +kernel
theorem dX3_mapsAtomsFrom_24 : decode cX3_mapsAtomsFrom 24 = .ok (.aload_n 0, 1) := by decide +kernel
theorem dX3_mapsAtomsFrom_25 : decode cX3_mapsAtomsFrom 25 = .ok (.iload_n 1, 1) := by decide +kernel
theorem dX3_mapsAtomsFrom_26 : decode cX3_mapsAtomsFrom 26 = .ok (.iconst 1, 1) := by decide +kernel
theorem dX3_mapsAtomsFrom_27 : decode cX3_mapsAtomsFrom 27 = .ok (.iadd, 1) := by decide +kernel
theorem dX3_mapsAtomsFrom_28 : decode cX3_mapsAtomsFrom 28 = .ok (.invokevirtual 36, 3) := by decide +kernel
theorem dX3_mapsAtomsFrom_31 : decode cX3_mapsAtomsFrom 31 = .ok (.ireturn, 1) := by decide +kernel
theorem dX3_mapsAtomsFrom_32 : decode cX3_mapsAtomsFrom 32 = .ok (.aload_n 0, 1) := by decide +kernel
theorem dX3_mapsAtomsFrom_33 : decode cX3_mapsAtomsFrom 33 = .ok (.getfield 15, 3) := by decide +kernel
theorem dX3_mapsAtomsFrom_36 : decode cX3_mapsAtomsFrom 36 = .ok (.istore_n 2, 1) := by decide +kernel
theorem dX3_mapsAtomsFrom_37 : decode cX3_mapsAtomsFrom 37 = .ok (.iconst 0, 1) := by decide +kernel
theorem dX3_mapsAtomsFrom_38 : decode cX3_mapsAtomsFrom 38 = .ok (.istore_n 3, 1) := by decide +kernel
theorem dX3_mapsAtomsFrom_39 : decode cX3_mapsAtomsFrom 39 = .ok (.iload_n 3, 1) := by decide +kernel
theorem dX3_mapsAtomsFrom_40 : decode cX3_mapsAtomsFrom 40 = .ok (.aload_n 0, 1) := by decide +kernel
theorem dX3_mapsAtomsFrom_41 : decode cX3_mapsAtomsFrom 41 = .ok (.getfield 26, 3) := by decide +kernel
theorem dX3_mapsAtomsFrom_44 : decode cX3_mapsAtomsFrom 44 = .ok (.getfield 50, 3) := by decide +kernel
theorem dX3_mapsAtomsFrom_47 : decode cX3_mapsAtomsFrom 47 = .ok (.if_icmp .ge 62, 3) := by decide +kernel
theorem dX3_mapsAtomsFrom_50 : decode cX3_mapsAtomsFrom 50 = .ok (.aload_n 0, 1) := by decide +kernel
theorem dX3_mapsAtomsFrom_51 : decode cX3_mapsAtomsFrom 51 = .ok (.getfield 29, 3) := by decide +kernel
theorem dX3_mapsAtomsFrom_54 : decode cX3_mapsAtomsFrom 54 = .ok (.iload_n 3, 1) := by decide +kernel
theorem dX3_mapsAtomsFrom_55 : decode cX3_mapsAtomsFrom 55 = .ok (.invokestatic 40, 3) := by decide +kernel
theorem dX3_mapsAtomsFrom_58 : decode cX3_mapsAtomsFrom 58 = .ok (.ifCond .eq 40, 3) := by decide +kernel
theorem dX3_mapsAtomsFrom_61 : decode cX3_mapsAtomsFrom 61 = .ok (.aload_n 0, 1) := by decide +kernel
theorem dX3_mapsAtomsFrom_62 : decode cX3_mapsAtomsFrom 62 = .ok (.aload_n 0, 1) := by decide +kernel
theorem dX3_mapsAtomsFrom_63 : decode cX3_mapsAtomsFrom 63 = .ok (.getfield 19, 3) := by decide +kernel
theorem dX3_mapsAtomsFrom_66 : decode cX3_mapsAtomsFrom 66 = .ok (.getfield 77, 3) := by decide +kernel
theorem dX3_mapsAtomsFrom_69 : decode cX3_mapsAtomsFrom 69 = .ok (.iload_n 1, 1) := by decide +kernel
theorem dX3_mapsAtomsFrom_70 : decode cX3_mapsAtomsFrom 70 = .ok (.aaload, 1) := by decide +kernel
theorem dX3_mapsAtomsFrom_71 : decode cX3_mapsAtomsFrom 71 = .ok (.aload_n 0, 1) := by decide +kernel
theorem dX3_mapsAtomsFrom_72 : decode cX3_mapsAtomsFrom 72 = .ok (.getfield 26, 3) := by decide +kernel
theorem dX3_mapsAtomsFrom_75 : decode cX3_mapsAtomsFrom 75 = .ok (.getfield 77, 3) := by decide +kernel
theorem dX3_mapsAtomsFrom_78 : decode cX3_mapsAtomsFrom 78 = .ok (.iload_n 3, 1) := by decide +kernel
theorem dX3_mapsAtomsFrom_79 : decode cX3_mapsAtomsFrom 79 = .ok (.aaload, 1) := by decide +kernel
theorem dX3_mapsAtomsFrom_80 : decode cX3_mapsAtomsFrom 80 = .ok (.invokevirtual 81, 3) := by decide +kernel
theorem dX3_mapsAtomsFrom_83 : decode cX3_mapsAtomsFrom 83 = .ok (.ifCond .eq 15, 3) := by decide +kernel
theorem dX3_mapsAtomsFrom_86 : decode cX3_mapsAtomsFrom 86 = .ok (.aload_n 0, 1) := by decide +kernel
theorem dX3_mapsAtomsFrom_87 : decode cX3_mapsAtomsFrom 87 = .ok (.iload_n 1, 1) := by decide +kernel
theorem dX3_mapsAtomsFrom_88 : decode cX3_mapsAtomsFrom 88 = .ok (.iconst 1, 1) := by decide +kernel
theorem dX3_mapsAtomsFrom_89 : decode cX3_mapsAtomsFrom 89 = .ok (.iadd, 1) := by decide +kernel
theorem dX3_mapsAtomsFrom_90 : decode cX3_mapsAtomsFrom 90 = .ok (.invokevirtual 36, 3) := by decide +kernel
theorem dX3_mapsAtomsFrom_93 : decode cX3_mapsAtomsFrom 93 = .ok (.ifCond .eq 5, 3) := by decide +kernel
theorem dX3_mapsAtomsFrom_96 : decode cX3_mapsAtomsFrom 96 = .ok (.iconst 1, 1) := by decide +kernel
theorem dX3_mapsAtomsFrom_97 : decode cX3_mapsAtomsFrom 97 = .ok (.ireturn, 1) := by decide +kernel
theorem dX3_mapsAtomsFrom_98 : decode cX3_mapsAtomsFrom 98 = .ok (.aload_n 0, 1) := by decide +kernel
theorem dX3_mapsAtomsFrom_99 : decode cX3_mapsAtomsFrom 99 = .ok (.iload_n 2, 1) := by decide +kernel
theorem dX3_mapsAtomsFrom_100 : decode cX3_mapsAtomsFrom 100 = .ok (.putfield 15, 3) := by decide +kernel
theorem dX3_mapsAtomsFrom_103 : decode cX3_mapsAtomsFrom 103 = .ok (.iinc 3 1, 3) := by decide +kernel
theorem dX3_mapsAtomsFrom_106 : decode cX3_mapsAtomsFrom 106 = .ok (.goto (-67), 3) := by decide +kernel
theorem dX3_mapsAtomsFrom_109 : decode cX3_mapsAtomsFrom 109 = .ok (.iconst 0, 1) := by decide +kernel
theorem dX3_mapsAtomsFrom_110 : decode cX3_mapsAtomsFrom 110 = .ok (.ireturn, 1) := by decide +kernel
theorem dX3_mapsAtom_0 : decode cX3_mapsAtom 0 = .ok (.aload_n 1, 1) := by decide +kernel
theorem dX3_mapsAtom_1 : decode cX3_mapsAtom 1 = .ok (.getfield 85, 3) := by decide +kernel
theorem dX3_mapsAtom_4 : decode cX3_mapsAtom 4 = .ok (.aload_n 2, 1) := by decide +kernel
theorem dX3_mapsAtom_5 : decode cX3_mapsAtom 5 = .ok (.getfield 85, 3) := by decide +kernel
theorem dX3_mapsAtom_8 : decode cX3_mapsAtom 8 = .ok (.if_acmp .eq 5, 3) := by decide +kernel
theorem dX3_mapsAtom_11 : decode cX3_mapsAtom 11 = .ok (.iconst 0, 1) := by decide +kernel
theorem dX3_mapsAtom_12 : decode cX3_mapsAtom 12 = .ok (.ireturn, 1) := by decide +kernel
theorem dX3_mapsAtom_13 : decode cX3_mapsAtom 13 = .ok (.iconst 0, 1) := by decide +kernel
theorem dX3_mapsAtom_14 : decode cX3_mapsAtom 14 = .ok (.istore_n 3, 1) := by decide +kernel
theorem dX3_mapsAtom_15 : decode cX3_mapsAtom 15 = .ok (.iload_n 3, 1) := by decide +kernel
theorem dX3_mapsAtom_16 : decode cX3_mapsAtom 16 = .ok (.aload_n 1, 1) := by decide +kernel
theorem dX3_mapsAtom_17 : decode cX3_mapsAtom 17 = .ok (.getfield 91, 3) := by decide +kernel
theorem dX3_mapsAtom_20 : decode cX3_mapsAtom 20 = .ok (.getfield 61, 3) := by decide +kernel
theorem dX3_mapsAtom_23 : decode cX3_mapsAtom 23 = .ok (.if_icmp .ge 65, 3) := by decide +kernel
theorem dX3_mapsAtom_26 : decode cX3_mapsAtom 26 = .ok (.aload_n 1, 1) := by decide +kernel
theorem dX3_mapsAtom_27 : decode cX3_mapsAtom 27 = .ok (.getfield 91, 3) := by decide +kernel
theorem dX3_mapsAtom_30 : decode cX3_mapsAtom 30 = .ok (.getfield 68, 3) := by decide +kernel
theorem dX3_mapsAtom_33 : decode cX3_mapsAtom 33 = .ok (.iload_n 3, 1) := by decide +kernel
theorem dX3_mapsAtom_34 : decode cX3_mapsAtom 34 = .ok (.iaload, 1) := by decide +kernel
theorem dX3_mapsAtom_35 : decode cX3_mapsAtom 35 = .ok (.istore 4, 2) := by decide +kernel
theorem dX3_mapsAtom_37 : decode cX3_mapsAtom 37 = .ok (.iload 4, 2) := by decide +kernel
theorem dX3_mapsAtom_39 : decode cX3_mapsAtom 39 = .ok (.invokestatic 71, 3) := by decide +kernel
theorem dX3_mapsAtom_42 : decode cX3_mapsAtom 42 = .ok (.ifCond .eq 24, 3) := by decide +kernel
theorem dX3_mapsAtom_45 : decode cX3_mapsAtom 45 = .ok (.aload_n 0, 1) := by decide +kernel
theorem dX3_mapsAtom_46 : decode cX3_mapsAtom 46 = .ok (.iload 4, 2) := by decide +kernel
theorem dX3_mapsAtom_48 : decode cX3_mapsAtom 48 = .ok (.aload_n 2, 1) := by decide +kernel
theorem dX3_mapsAtom_49 : decode cX3_mapsAtom 49 = .ok (.getfield 91, 3) := by decide +kernel
theorem dX3_mapsAtom_52 : decode cX3_mapsAtom 52 = .ok (.getfield 68, 3) := by decide +kernel
theorem dX3_mapsAtom_55 : decode cX3_mapsAtom 55 = .ok (.iload_n 3, 1) := by decide +kernel
theorem dX3_mapsAtom_56 : decode cX3_mapsAtom 56 = .ok (.iaload, 1) := by decide +kernel
theorem dX3_mapsAtom_57 : decode cX3_mapsAtom 57 = .ok (.invokevirtual 74, 3) := by decide +kernel
theorem dX3_mapsAtom_60 : decode cX3_mapsAtom 60 = .ok (.ifCond .ne 22, 3) := by decide +kernel
theorem dX3_mapsAtom_63 : decode cX3_mapsAtom 63 = .ok (.goto 17, 3) := by decide +kernel
theorem dX3_mapsAtom_66 : decode cX3_mapsAtom 66 = .ok (.iload 4, 2) := by decide +kernel
theorem dX3_mapsAtom_68 : decode cX3_mapsAtom 68 = .ok (.aload_n 2, 1) := by decide +kernel
theorem dX3_mapsAtom_69 : decode cX3_mapsAtom 69 = .ok (.getfield 91, 3) := by decide +kernel
theorem dX3_mapsAtom_72 : decode cX3_mapsAtom 72 = .ok (.getfield 68, 3) := by decide +kernel
theorem dX3_mapsAtom_75 : decode cX3_mapsAtom 75 = .ok (.iload_n 3, 1) := by decide +kernel
theorem dX3_mapsAtom_76 : decode cX3_mapsAtom 76 = .ok (.iaload, 1) := by decide +kernel
theorem dX3_mapsAtom_77 : decode cX3_mapsAtom 77 = .ok (.if_icmp .eq 5, 3) := by decide +kernel
theorem dX3_mapsAtom_80 : decode cX3_mapsAtom 80 = .ok (.iconst 0, 1) := by decide +kernel
theorem dX3_mapsAtom_81 : decode cX3_mapsAtom 81 = .ok (.ireturn, 1) := by decide +kernel
theorem dX3_mapsAtom_82 : decode cX3_mapsAtom 82 = .ok (.iinc 3 1, 3) := by decide +kernel
theorem dX3_mapsAtom_85 : decode cX3_mapsAtom 85 = .ok (.goto (-70), 3) := by decide +kernel
theorem dX3_mapsAtom_88 : decode cX3_mapsAtom 88 = .ok (.iconst 1, 1) := by decide +kernel
theorem dX3_mapsAtom_89 : decode cX3_mapsAtom 89 = .ok (.ireturn, 1) := by decide +kernel
theorem dX3_lets_0 : decode cX3_lets 0 = .ok (.aload_n 0, 1) := by decide +kernel
theorem dX3_lets_1 : decode cX3_lets 1 = .ok (.getfield 15, 3) := by decide +kernel
theorem dX3_lets_4 : decode cX3_lets 4 = .ok (.iload_n 1, 1) := by decide +kernel
theorem dX3_lets_5 : decode cX3_lets 5 = .ok (.ishr, 1) := by decide +kernel
theorem dX3_lets_6 : decode cX3_lets 6 = .ok (.iconst 1, 1) := by decide +kernel
theorem dX3_lets_7 : decode cX3_lets 7 = .ok (.iand, 1) := by decide +kernel
theorem dX3_lets_8 : decode cX3_lets 8 = .ok (.ifCond .eq 19, 3) := by decide +kernel
theorem dX3_lets_11 : decode cX3_lets 11 = .ok (.aload_n 0, 1) := by decide +kernel
theorem dX3_lets_12 : decode cX3_lets 12 = .ok (.getfield 9, 3) := by decide +kernel
theorem dX3_lets_15 : decode cX3_lets 15 = .ok (.iload_n 1, 1) := by decide +kernel
theorem dX3_lets_16 : decode cX3_lets 16 = .ok (.iaload, 1) := by decide +kernel
theorem dX3_lets_17 : decode cX3_lets 17 = .ok (.iload_n 2, 1) := by decide +kernel
theorem dX3_lets_18 : decode cX3_lets 18 = .ok (.if_icmp .ne 7, 3) := by decide +kernel
theorem dX3_lets_21 : decode cX3_lets 21 = .ok (.iconst 1, 1) := by decide +kernel
theorem dX3_lets_22 : decode cX3_lets 22 = .ok (.goto 4, 3) := by decide +kernel
theorem dX3_lets_25 : decode cX3_lets 25 = .ok (.iconst 0, 1) := by decide +kernel
theorem dX3_lets_26 : decode cX3_lets 26 = .ok (.ireturn, 1) := by decide +kernel
theorem dX3_lets_27 : decode cX3_lets 27 = .ok (.aload_n 0, 1) := by decide +kernel
theorem dX3_lets_28 : decode cX3_lets 28 = .ok (.dup, 1) := by decide +kernel
theorem dX3_lets_29 : decode cX3_lets 29 = .ok (.getfield 15, 3) := by decide +kernel
theorem dX3_lets_32 : decode cX3_lets 32 = .ok (.iconst 1, 1) := by decide +kernel
theorem dX3_lets_33 : decode cX3_lets 33 = .ok (.iload_n 1, 1) := by decide +kernel
theorem dX3_lets_34 : decode cX3_lets 34 = .ok (.ishl, 1) := by decide +kernel
theorem dX3_lets_35 : decode cX3_lets 35 = .ok (.ior, 1) := by decide +kernel
theorem dX3_lets_36 : decode cX3_lets 36 = .ok (.putfield 15, 3) := by decide +kernel
theorem dX3_lets_39 : decode cX3_lets 39 = .ok (.aload_n 0, 1) := by decide +kernel
theorem dX3_lets_40 : decode cX3_lets 40 = .ok (.getfield 9, 3) := by decide +kernel
theorem dX3_lets_43 : decode cX3_lets 43 = .ok (.iload_n 1, 1) := by decide +kernel
theorem dX3_lets_44 : decode cX3_lets 44 = .ok (.iload_n 2, 1) := by decide +kernel
theorem dX3_lets_45 : decode cX3_lets 45 = .ok (.iastore, 1) := by decide +kernel
theorem dX3_lets_46 : decode cX3_lets 46 = .ok (.iconst 1, 1) := by decide +kernel
theorem dX3_lets_47 : decode cX3_lets 47 = .ok (.ireturn, 1) := by decide +kernel
/-! maps between rules: the search, step for step -/
abbrev URow : Type := Nat × (Nat → Nat) × Nat × (Nat → Nat) × (Nat → Nat → Nat)
abbrev PM : Type := Nat → Option Nat
def letM (pm : PM) (v t : Nat) : Option PM := match pm v with
  | some x => if x = t then some pm else none
  | none => some (up pm v (some t))
def atmM (t t' : Nat → Nat) : Nat → PM → Option PM
  | 0, pm => some pm
  | n + 1, pm => match atmM t t' n pm with
    | none => none
    | some pm => if t n < 6 then letM pm (t n) (t' n) else if t n = t' n then some pm else none
def hdM (S : Nat) (t t' : Nat → Nat) : Nat → PM → Option PM
  | 0, pm => some pm
  | n + 1, pm => match hdM S t t' n pm with
    | none => none
    | some pm => if t n < 6 ∧ S.testBit (t n) = true then letM pm (t n) (t' n) else if t n = t' n then some pm else none
def mfr (R : Nat → RRow) (q p : URow) (Aq Ap : Nat) : Nat → Nat → PM → Bool
  | 0, _, _ => true
  | n + 1, nx, pm => if Aq.testBit nx then exB (fun k => Ap.testBit k && (decide (q.2.2.2.1 nx = p.2.2.2.1 k) && (match atmM (q.2.2.2.2 nx) (p.2.2.2.2 k) (R (q.2.2.2.1 nx)).1 pm with
      | some pm' => mfr R q p Aq Ap n (nx + 1) pm'
      | none => false))) p.2.2.1 else mfr R q p Aq Ap n (nx + 1) pm
/-- the variables of rule u's atoms, one by one; of some of them -/
def uvs (R : Nat → RRow) (u : URow) (k : Nat) : Nat := vsf (u.2.2.2.2 k) (R (u.2.2.2.1 k)).1
def uva (R : Nat → RRow) (u : URow) (S : Nat) : Nat := vin S (uvs R u) u.2.2.1
def fnd (R : Nat → RRow) (q : URow) (Aq : Nat) (p : URow) (Ap : Nat) : Bool := decide (q.1 = p.1) && (match hdM (uva R q Aq) q.2.1 p.2.1 q.1 (fun _ => none) with
  | none => false
  | some pm => mfr R q p Aq Ap q.2.2.1 0 pm)
theorem letM_y {pm : PM} {v t x : Nat} (hx : pm v = some x) (e : x = t) : letM pm v t = some pm := by unfold letM; rw [hx]; exact if_pos e
theorem letM_d {pm : PM} {v t x : Nat} (hx : pm v = some x) (e : ¬ x = t) : letM pm v t = none := by unfold letM; rw [hx]; exact if_neg e
theorem letM_n {pm : PM} {v t : Nat} (hx : pm v = none) : letM pm v t = some (up pm v (some t)) := by unfold letM; rw [hx]
def bit (b : Bool) : Int32 := if b then 1 else 0
theorem bit_01 (b : Bool) : bit b = 0 ∨ bit b = 1 := by cases b <;> simp [bit]
theorem bit_n {b : Bool} (h : bit b = 0) : b = false := by cases b; rfl; exact absurd h (by decide)
theorem bit_y {b : Bool} (h : ¬ bit b = 0) : b = true := by cases b; exact absurd rfl h; rfl
/-- the settled variables and their images hold the map -/
def Rep (pm : PM) (S : Nat) (img : Nat → Int32) : Prop := S < 2 ^ 6 ∧ ∀ v, v < 6 → (S.testBit v = (pm v).isSome) ∧ ∀ t, pm v = some t → img v = nI t ∧ t < 2 ^ 31
def Ext (S : Nat) (img : Nat → Int32) (S' : Nat) (img' : Nat → Int32) : Prop := ∀ v, v < 6 → S.testBit v = true → S'.testBit v = true ∧ img' v = img v
theorem Ext.rf (S : Nat) (img : Nat → Int32) : Ext S img S img := fun _ _ h => ⟨h, rfl⟩
theorem Ext.tr {S S' S'' : Nat} {i i' i'' : Nat → Int32} (h : Ext S i S' i') (h' : Ext S' i' S'' i'') : Ext S i S'' i'' := fun v hv hb => by
  obtain ⟨a, b⟩ := h v hv hb
  obtain ⟨c, d⟩ := h' v hv a
  exact ⟨c, d.trans b⟩
theorem Ext.back {S S' : Nat} {i i' : Nat → Int32} (h : Ext S i S' i') : Ext S i S i' := fun v hv hb => ⟨hb, (h v hv hb).2⟩
theorem Rep.ext {pm : PM} {S S' : Nat} {i i' : Nat → Int32} (h : Rep pm S i) (he : Ext S i S' i') : Rep pm S i' := ⟨h.1, fun v hv => ⟨(h.2 v hv).1, fun t ht => by
  have h1 := (h.2 v hv).2 t ht
  rw [(he v hv (by rw [(h.2 v hv).1, ht]; rfl)).2]; exact h1⟩⟩
theorem Rep.new {pm : PM} {S v t : Nat} {i : Nat → Int32} (h : Rep pm S i) (hv : v < 6) (hn : pm v = none) (ht : t < 2 ^ 31) : Rep (up pm v (some t)) (S ||| 2 ^ v) (upd i v (nI t)) ∧ Ext S i (S ||| 2 ^ v) (upd i v (nI t)) := by
  refine ⟨⟨Nat.or_lt_two_pow h.1 (Nat.pow_lt_pow_right (by decide) hv), fun u hu => ?_⟩, fun u hu hb => ?_⟩
  · by_cases e : u = v
    · subst e
      refine ⟨by rw [Nat.testBit_or, Nat.testBit_two_pow]; simp [up], fun x hx => ?_⟩
      simp only [up, if_true] at hx
      cases hx
      exact ⟨by rw [pk_us], ht⟩
    · refine ⟨by rw [Nat.testBit_or, Nat.testBit_two_pow, (h.2 u hu).1]; simp [up, e, show ¬ v = u from fun z => e z.symm], fun x hx => ?_⟩
      rw [up, if_neg e] at hx
      rw [pk_un e]; exact (h.2 u hu).2 x hx
  · have e : u ≠ v := fun e => by
      subst e
      rw [(h.2 u hu).1, hn] at hb; cases hb
    exact ⟨by rw [Nat.testBit_or, hb]; rfl, by rw [pk_un e]⟩
theorem sh_no {S v : Nat} (hS : S < 2 ^ 31) (hv : v < 32) (h : (nI S >>> (nI v &&& 31)) &&& 1 = 0) : S.testBit v = false := bit_no hS hv (by rw [bI, if_pos h])
theorem sh_yes {S v : Nat} (hS : S < 2 ^ 31) (hv : v < 32) (h : ¬ (nI S >>> (nI v &&& 31)) &&& 1 = 0) : S.testBit v = true := bit_yes hS hv (by rw [bI, if_neg h]; decide)
set_option maxHeartbeats 4000000 in
set_option maxRecDepth 100000 in
/-- lets(variable, target) -/
theorem m_lets (l : Launch) (D : va_G) (cy : Nat → ClassId) (O : Nat × va_E → Prop) {sa im S v t : Nat} {v2 v3 v4 v5 : Value} {img : Nat → Int32} {pm : PM} (hv : v < 6) (ht : t < 2 ^ 31) (hr9 : Rep pm S img) : Ci l yX3_lets (.code yX3_lets cX3_lets 3 (some .boolean) :: WALL) ({ frames := 0, cells := 0, slots := 0, locals := 0 }) D cy O [.ref sa, .int (nI v), .int (nI t)] [(sa, .inr (3, [.ref im, .int (nI S), v2, v3, v4, v5])), (im, .inl (cy 0, 6, .inl img))] 0 0 (fun (r : Int32) (w : va_W) => r = bit (letM pm v t).isSome ∧ ∃ (S' : Nat) (img' : Nat → Int32), w = [(sa, .inr (3, [.ref im, .int (nI S'), v2, v3, v4, v5])), (im, .inl (cy 0, 6, .inl img'))] ∧ Ext S img S' img' ∧ ∀ pm', letM pm v t = some pm' → Rep pm' S' img') := by
  have hS31 : S < 2 ^ 31 := Nat.lt_trans hr9.1 (by decide)
  have hvv := hr9.2 v hv
  refine z_meti (by decide) rfl rfl (Nat.le_of_ble_eq_true rfl) ?_
  intro p e s m args below meth c X hr hin
  refine z_eq (ws' := [(sa, .inr (3, [.ref im, .int (nI S), v2, v3, v4, v5])), (im, .inl (cy 0, 6, .inl img))]) (lv' := [(0, .ref sa), (1, .int (nI v)), (2, .int (nI t))]) (st' := []) rfl rfl rfl ?_
  refine z_aload_n X dX3_lets_0 rfl (j := 0) rfl ?_
  refine z_getW X 0 (C := RX3) (T := TX3) (N := 6) inX3 rfl rfl 1 (by decide) fl_X3_15 (fun _ h9 => h9) rfl dX3_lets_1 ?_
  refine z_iload_n X dX3_lets_4 rfl (j := 1) rfl ?_
  refine z_ishr X (v := ((nI S) >>> ((nI v) &&& 31))) dX3_lets_5 rfl ?_
  refine z_iconst X (v := 1) dX3_lets_6 (by decide) ?_
  refine z_iand X (v := (((nI S) >>> ((nI v) &&& 31)) &&& 1)) dX3_lets_7 rfl ?_
  refine z_if_eq X (tgt := 27) dX3_lets_8 (by decide) (fun c_8 => ?_) (fun c_8 => ?_)
  · skip
    have hb := sh_no hS31 (by omega) c_8
    have hn : pm v = none := by
      rw [hvv.1] at hb
      cases h9 : pm v with
      | none => rfl
      | some x => rw [h9] at hb; cases hb
    obtain ⟨hw1, hw2⟩ := hr9.new hv hn ht
    refine z_aload_n X dX3_lets_27 rfl (j := 0) rfl ?_
    refine z_dup X dX3_lets_28 rfl ?_
    refine z_getW X 0 (C := RX3) (T := TX3) (N := 6) inX3 rfl rfl 1 (by decide) fl_X3_15 (fun _ h9 => h9) rfl dX3_lets_29 ?_
    refine z_iconst X (v := 1) dX3_lets_32 (by decide) ?_
    refine z_iload_n X dX3_lets_33 rfl (j := 1) rfl ?_
    refine z_ishl X (v := ((1 : Int32) <<< (nI v &&& 31))) dX3_lets_34 rfl ?_
    refine z_ior X (v := (nI (S ||| 2 ^ v))) dX3_lets_35 (by rw [shl_1 v (by omega)]; exact nI_or _ _) ?_
    refine z_putW X 0 (C := RX3) (T := TX3) (N := 6) inX3 tyX3 tyX3_ok nmX3 rfl rfl 1 (by decide) fl_X3_15 (fun _ h9 => h9) rfl (ty := .int) (by decide +kernel) rfl rfl (Nat.le_of_ble_eq_true rfl) (ws' := [(sa, .inr (3, [.ref im, .int (nI (S ||| 2 ^ v)), v2, v3, v4, v5])), (im, .inl (cy 0, 6, .inl img))]) rfl dX3_lets_36 ?_
    refine z_aload_n X dX3_lets_39 rfl (j := 0) rfl ?_
    refine z_getW X 0 (C := RX3) (T := TX3) (N := 6) inX3 rfl rfl 0 (by decide) fl_X3_9 (fun _ h9 => h9) rfl dX3_lets_40 ?_
    refine z_iload_n X dX3_lets_43 rfl (j := 1) rfl ?_
    refine z_iload_n X dX3_lets_44 rfl (j := 2) rfl ?_
    refine z_iastW X 1 rfl (vp_in_nI (by omega) (by decide)) (ws' := [(sa, .inr (3, [.ref im, .int (nI (S ||| 2 ^ v)), v2, v3, v4, v5])), (im, .inl (cy 0, 6, .inl (upd img v (nI t))))]) (by rw [nI_clamp (by omega)]; rfl) dX3_lets_45 ?_
    refine z_iconst X (v := 1) dX3_lets_46 (by decide) ?_
    exact z_endz X hr (Or.inr rfl) [(sa, .inr (3, [.ref im, .int (nI (S ||| 2 ^ v)), v2, v3, v4, v5])), (im, .inl (cy 0, 6, .inl (upd img v (nI t))))] [0, 1] rfl rfl rfl ⟨(by rw [letM_n hn]; rfl), S ||| 2 ^ v, upd img v (nI t), rfl, hw2, fun pm' z => by rw [letM_n hn] at z; cases z; exact hw1⟩ dX3_lets_47
  · skip
    have hb := sh_yes hS31 (by omega) c_8
    rw [hvv.1, Option.isSome_iff_exists] at hb
    obtain ⟨x, hx⟩ := hb
    obtain ⟨hx1, hx2⟩ := hvv.2 x hx
    refine z_aload_n X dX3_lets_11 rfl (j := 0) rfl ?_
    refine z_getW X 0 (C := RX3) (T := TX3) (N := 6) inX3 rfl rfl 0 (by decide) fl_X3_9 (fun _ h9 => h9) rfl dX3_lets_12 ?_
    refine z_iload_n X dX3_lets_15 rfl (j := 1) rfl ?_
    refine z_ialdW X 1 rfl (v := (nI x)) (vp_in_nI (by omega) (by decide)) (by rw [nI_clamp (by omega)]; exact hx1) dX3_lets_16 ?_
    refine z_iload_n X dX3_lets_17 rfl (j := 2) rfl ?_
    refine z_icmp_ne X (tgt := 25) dX3_lets_18 (by decide) (fun c_18 => ?_) (fun c_18 => ?_)
    · skip
      refine z_iconst X (v := 0) dX3_lets_25 (by decide) ?_
      exact z_endz X hr (by first | exact Or.inl rfl | exact Or.inr rfl) [(sa, .inr (3, [.ref im, .int (nI S), v2, v3, v4, v5])), (im, .inl (cy 0, 6, .inl img))] [0, 1] rfl rfl rfl ⟨(by rw [letM_d hx (fun z => c_18 (by rw [z]))]; rfl), S, img, rfl, Ext.rf S img, fun pm' z => by rw [letM_d hx (fun z => c_18 (by rw [z]))] at z; cases z⟩ dX3_lets_26
    · skip
      refine z_iconst X (v := 1) dX3_lets_21 (by decide) ?_
      refine z_goto X (tgt := 26) dX3_lets_22 (by decide) ?_
      exact z_endz X hr (by first | exact Or.inl rfl | exact Or.inr rfl) [(sa, .inr (3, [.ref im, .int (nI S), v2, v3, v4, v5])), (im, .inl (cy 0, 6, .inl img))] [0, 1] rfl rfl rfl ⟨(by rw [letM_y hx ((nI_eq hx2 ht).mp c_18)]; rfl), S, img, rfl, Ext.rf S img, fun pm' z => by rw [letM_y hx ((nI_eq hx2 ht).mp c_18)] at z; cases z; exact hr9⟩ dX3_lets_26
theorem atm_no {t t' : Nat → Nat} {pm : PM} {k : Nat} (h : atmM t t' k pm = none) : ∀ {m}, k ≤ m → atmM t t' m pm = none := by
  intro m hm
  induction m with
  | zero => rw [show k = 0 by omega] at h; exact h
  | succ m ih =>
    rcases Nat.lt_or_ge k (m + 1) with g | g
    · rw [atmM, ih (by omega)]
    · rw [show m + 1 = k by omega]; exact h
set_option maxHeartbeats 4000000 in
set_option maxRecDepth 100000 in
/-- mapsAtom(atom, target) -/
theorem m_mapsAtom (l : Launch) (D : va_G) (cy : Nat → ClassId) (O : Nat × va_E → Prop) {sa im S a1 a2 b1 b2 tm1 tm2 ta1 ta2 n : Nat} {v2 v3 v4 v5 x1 x2 y1 y2 z2 : Value} {img T1 T2 : Nat → Int32} {t t' : Nat → Nat} {pm : PM} (hA1 : O (a1, .inr (0, [.ref b1, .ref tm1]))) (hA2 : O (a2, .inr (0, [.ref b2, .ref tm2]))) (hM1 : O (tm1, .inr (7, [.int (nI n), .ref ta1, x1, y1]))) (hM2 : b1 = b2 → O (tm2, .inr (7, [z2, .ref ta2, x2, y2]))) (hT1 : O (ta1, .inl (cy 0, 3, .inl T1))) (hT2 : b1 = b2 → O (ta2, .inl (cy 0, 3, .inl T2))) (hn3 : n ≤ 3) (ht1 : ∀ k, k < n → T1 k = nI (t k) ∧ isT (t k)) (ht2 : b1 = b2 → ∀ k, k < n → T2 k = nI (t' k) ∧ isT (t' k)) (hr9 : Rep pm S img) : Ci l yX3_mapsAtom (.code yX3_mapsAtom cX3_mapsAtom 5 (some .boolean) :: WALL) ({ frames := 1, cells := 0, slots := 0, locals := 22 }) D cy O [.ref sa, .ref a1, .ref a2] [(sa, .inr (3, [.ref im, .int (nI S), v2, v3, v4, v5])), (im, .inl (cy 0, 6, .inl img))] 0 0 (fun (r : Int32) (w : va_W) => r = bit (decide (b1 = b2) && (atmM t t' n pm).isSome) ∧ ∃ (S' : Nat) (img' : Nat → Int32), w = [(sa, .inr (3, [.ref im, .int (nI S'), v2, v3, v4, v5])), (im, .inl (cy 0, 6, .inl img'))] ∧ Ext S img S' img' ∧ ∀ pm', b1 = b2 → atmM t t' n pm = some pm' → Rep pm' S' img') := by
  refine z_meti (by decide) rfl rfl (Nat.le_of_ble_eq_true rfl) ?_
  intro p e s m args below meth c X hr hin
  refine z_eq (ws' := [(sa, .inr (3, [.ref im, .int (nI S), v2, v3, v4, v5])), (im, .inl (cy 0, 6, .inl img))]) (lv' := [(0, .ref sa), (1, .ref a1), (2, .ref a2)]) (st' := []) rfl rfl rfl ?_
  refine z_aload_n X dX3_mapsAtom_0 rfl (j := 1) rfl ?_
  refine z_getO X (ci := 0) (C := RX0) (T := TX0) (N := 2) inX0 hA1 rfl 0 (by decide) fl_X3_85 (fun _ h9 => h9) rfl dX3_mapsAtom_1 ?_
  refine z_aload_n X dX3_mapsAtom_4 rfl (j := 2) rfl ?_
  refine z_getO X (ci := 0) (C := RX0) (T := TX0) (N := 2) inX0 hA2 rfl 0 (by decide) fl_X3_85 (fun _ h9 => h9) rfl dX3_mapsAtom_5 ?_
  refine z_acmp_eq X (tgt := 13) dX3_mapsAtom_8 (by decide) (fun c_8 => ?_) (fun c_8 => ?_)
  · skip
    refine z_iconst X (v := 0) dX3_mapsAtom_13 (by decide) ?_
    refine z_istore_n X (lv' := [(3, .int 0), (0, .ref sa), (1, .ref a1), (2, .ref a2)]) dX3_mapsAtom_14 rfl (by decide) rfl ?_
    have L : ∀ (d : Nat) (k : Nat) (Sk : Nat) (ik : Nat → Int32) (pmk : PM), k + d = n → k ≤ n → atmM t t' k pm = some pmk → Rep pmk Sk ik → Ext S img Sk ik → Zz D (va_A [(sa, .inr (3, [.ref im, .int (nI S), v2, v3, v4, v5])), (im, .inl (cy 0, 6, .inl img))] s.heap.size) 5 p l e ({ frames := 1, cells := 0, slots := 0, locals := 22 }) s m args below meth c (MQ below (va_Qi (fun (r : Int32) (w : va_W) => r = bit (decide (b1 = b2) && (atmM t t' n pm).isSome) ∧ ∃ (S' : Nat) (img' : Nat → Int32), w = [(sa, .inr (3, [.ref im, .int (nI S'), v2, v3, v4, v5])), (im, .inl (cy 0, 6, .inl img'))] ∧ Ext S img S' img' ∧ ∀ pm', b1 = b2 → atmM t t' n pm = some pm' → Rep pm' S' img') (end_ D [(sa, .inr (3, [.ref im, .int (nI S), v2, v3, v4, v5])), (im, .inl (cy 0, 6, .inl img))] s.heap.size) (va_A [(sa, .inr (3, [.ref im, .int (nI S), v2, v3, v4, v5])), (im, .inl (cy 0, 6, .inl img))] s.heap.size)) args s 0 0 (va_A [(sa, .inr (3, [.ref im, .int (nI S), v2, v3, v4, v5])), (im, .inl (cy 0, 6, .inl img))] s.heap.size)) [(sa, .inr (3, [.ref im, .int (nI Sk), v2, v3, v4, v5])), (im, .inl (cy 0, 6, .inl ik))] [(3, .int (nI k)), (0, .ref sa), (1, .ref a1), (2, .ref a2)] 0 0 15 [] := by
      intro d
      induction d with
      | zero =>
        intro k Sk ik pmk hL0 hL1 hL2 hL3 hL4
        refine z_iload_n X dX3_mapsAtom_15 rfl (j := 0) rfl ?_
        refine z_aload_n X dX3_mapsAtom_16 rfl (j := 2) rfl ?_
        refine z_getO X (ci := 0) (C := RX0) (T := TX0) (N := 2) inX0 hA1 rfl 1 (by decide) fl_X3_91 (fun _ h9 => h9) rfl dX3_mapsAtom_17 ?_
        refine z_getO X (ci := 7) (C := RX7) (T := TX7) (N := 4) inX7 hM1 rfl 0 (by decide) fl_X3_61 (fun _ h9 => h9) rfl dX3_mapsAtom_20 ?_
        refine z_icmp_ge X (tgt := 88) dX3_mapsAtom_23 (by decide) (fun c_23 => ?_) (fun c9 => absurd (by rw [show k = n by omega]; exact nI_le (Nat.le_refl _) (by omega)) c9)
        refine z_iconst X (v := 1) dX3_mapsAtom_88 (by decide) ?_
        exact z_endz X hr (Or.inr rfl) [(sa, .inr (3, [.ref im, .int (nI Sk), v2, v3, v4, v5])), (im, .inl (cy 0, 6, .inl ik))] [0, 1] rfl rfl rfl ⟨(by rw [show n = k by omega, hL2, decide_eq_true c_8]; rfl), Sk, ik, rfl, hL4, fun pm' _ z => by rw [show n = k by omega, hL2] at z; cases z; exact hL3⟩ dX3_mapsAtom_89
      | succ d ih =>
        intro k Sk ik pmk hL0 hL1 hL2 hL3 hL4
        have hk1 := (ht1 k (by omega)).2
        have hk2 := (ht2 c_8 k (by omega)).2
        unfold isT at hk1 hk2
        refine z_iload_n X dX3_mapsAtom_15 rfl (j := 0) rfl ?_
        refine z_aload_n X dX3_mapsAtom_16 rfl (j := 2) rfl ?_
        refine z_getO X (ci := 0) (C := RX0) (T := TX0) (N := 2) inX0 hA1 rfl 1 (by decide) fl_X3_91 (fun _ h9 => h9) rfl dX3_mapsAtom_17 ?_
        refine z_getO X (ci := 7) (C := RX7) (T := TX7) (N := 4) inX7 hM1 rfl 0 (by decide) fl_X3_61 (fun _ h9 => h9) rfl dX3_mapsAtom_20 ?_
        refine z_icmp_ge X (tgt := 88) dX3_mapsAtom_23 (by decide) (fun c9 => absurd c9 (nI_ge (by omega) (by omega))) (fun c_23 => ?_)
        refine z_aload_n X dX3_mapsAtom_26 rfl (j := 2) rfl ?_
        refine z_getO X (ci := 0) (C := RX0) (T := TX0) (N := 2) inX0 hA1 rfl 1 (by decide) fl_X3_91 (fun _ h9 => h9) rfl dX3_mapsAtom_27 ?_
        refine z_getO X (ci := 7) (C := RX7) (T := TX7) (N := 4) inX7 hM1 rfl 1 (by decide) fl_X3_68 (fun _ h9 => h9) rfl dX3_mapsAtom_30 ?_
        refine z_iload_n X dX3_mapsAtom_33 rfl (j := 0) rfl ?_
        refine z_ialdO X hT1 (v := (nI (t k))) (vp_in_nI (by omega) (by decide)) (at_nI (by omega) (ht1 k (by omega)).1) dX3_mapsAtom_34 ?_
        refine z_istore X (lv' := [(4, .int (nI (t k))), (3, .int (nI k)), (0, .ref sa), (1, .ref a1), (2, .ref a2)]) dX3_mapsAtom_35 (by decide) rfl ?_
        refine z_iload X dX3_mapsAtom_37 (j := 0) rfl ?_
        refine z_reti X (as := [.int (nI (t k))]) (wc := []) (wr := [(sa, .inr (3, [.ref im, .int (nI Sk), v2, v3, v4, v5])), (im, .inl (cy 0, 6, .inl ik))]) (rest := []) (fun H9 locs9 ls9 hP9 hS9 hl9 hb9 hp9 => va_runSN (As := [.int (nI (t k))]) (rest := []) X.fix (m_isVariable l D cy O (nI (t k)) H9.size) ⟨va_cnB 1 X.hts (gB cd_X9_isVariable) rfl rfl rfl (X.nw.1 _ (List.mem_of_getElem? (i := 8) rfl)) (X.hts _ ni_X9) (by decide +kernel) ⟨Nat.le_of_ble_eq_true rfl, Nat.le_of_ble_eq_true rfl⟩, X.hts _ sm_X9_isVariable, trivial⟩ ⟨hb9, hp9⟩ rfl rfl hl9.1 rfl (lv_room (Nat.le_of_ble_eq_true rfl)) dX3_mapsAtom_39 ⟨Nat.le_of_ble_eq_true rfl, Nat.le_of_ble_eq_true rfl⟩) [] [0, 1] rfl rfl rfl rfl rfl (by decide) (fun _ h => Or.inl h) (fun r1 w2 h3 => ?_)
        obtain ⟨rfl, rfl⟩ := h3
        refine z_eq (ws' := [(sa, .inr (3, [.ref im, .int (nI Sk), v2, v3, v4, v5])), (im, .inl (cy 0, 6, .inl ik))]) (lv' := [(4, .int (nI (t k))), (3, .int (nI k)), (0, .ref sa), (1, .ref a1), (2, .ref a2)]) (st' := [.int (vI (nI (t k)))]) rfl rfl rfl ?_
        refine z_widen (k' := 0) (n' := 0) (Nat.le_refl _) (Nat.le_refl _) ?_
        refine z_if_eq X (tgt := 66) dX3_mapsAtom_42 (by decide) (fun c_42 => ?_) (fun c_42 => ?_)
        · skip
          have hlt : ¬ t k < 6 := by
            intro h9
            rw [vI_nI (by omega), if_pos h9] at c_42; exact absurd c_42 (by decide)
          refine z_iload X dX3_mapsAtom_66 (j := 0) rfl ?_
          refine z_aload_n X dX3_mapsAtom_68 rfl (j := 4) rfl ?_
          refine z_getO X (ci := 0) (C := RX0) (T := TX0) (N := 2) inX0 hA2 rfl 1 (by decide) fl_X3_91 (fun _ h9 => h9) rfl dX3_mapsAtom_69 ?_
          refine z_getO X (ci := 7) (C := RX7) (T := TX7) (N := 4) inX7 (hM2 c_8) rfl 1 (by decide) fl_X3_68 (fun _ h9 => h9) rfl dX3_mapsAtom_72 ?_
          refine z_iload_n X dX3_mapsAtom_75 rfl (j := 1) rfl ?_
          refine z_ialdO X (hT2 c_8) (v := (nI (t' k))) (vp_in_nI (by omega) (by decide)) (at_nI (by omega) (ht2 c_8 k (by omega)).1) dX3_mapsAtom_76 ?_
          refine z_icmp_eq X (tgt := 82) dX3_mapsAtom_77 (by decide) (fun c_77 => ?_) (fun c_77 => ?_)
          · skip
            refine z_iinc X (j := 1) (v := (nI (k + 1))) (lv' := [(3, .int (nI (k + 1))), (4, .int (nI (t k))), (0, .ref sa), (1, .ref a1), (2, .ref a2)]) dX3_mapsAtom_82 rfl (nI_1 k) (by decide) rfl ?_
            refine z_goto X (tgt := 15) dX3_mapsAtom_85 (by decide) ?_
            refine z_lv [0, 2, 3, 4] (lv' := [(3, .int (nI (k + 1))), (0, .ref sa), (1, .ref a1), (2, .ref a2)]) rfl ?_
            refine z_eq (ws' := [(sa, .inr (3, [.ref im, .int (nI Sk), v2, v3, v4, v5])), (im, .inl (cy 0, 6, .inl ik))]) (lv' := [(3, .int (nI (k + 1))), (0, .ref sa), (1, .ref a1), (2, .ref a2)]) (st' := []) rfl rfl rfl ?_
            exact ih (k + 1) Sk ik pmk (by omega) (by omega) (by rw [atmM, hL2]; simp only [if_neg hlt, if_pos ((nI_eq (by omega) (by omega)).mp c_77)]) hL3 hL4
          · skip
            have hne : ¬ t k = t' k := fun z => c_77 (by rw [z])
            have hno : atmM t t' (k + 1) pm = none := by
              rw [atmM, hL2]; simp only [if_neg hlt, if_neg hne]
            refine z_iconst X (v := 0) dX3_mapsAtom_80 (by decide) ?_
            exact z_endz X hr (Or.inl rfl) [(sa, .inr (3, [.ref im, .int (nI Sk), v2, v3, v4, v5])), (im, .inl (cy 0, 6, .inl ik))] [0, 1] rfl rfl rfl ⟨(by rw [show (atmM t t' n pm).isSome = false from by rw [atm_no hno (by omega)]; rfl, Bool.and_false]; rfl), _, _, rfl, hL4, fun pm' _ z => by rw [atm_no hno (by omega)] at z; cases z⟩ dX3_mapsAtom_81
        · skip
          have hlt : t k < 6 := by
            rw [vI_nI (by omega)] at c_42
            by_cases h9 : t k < 6
            · exact h9
            · rw [if_neg h9] at c_42; exact absurd rfl c_42
          refine z_aload_n X dX3_mapsAtom_45 rfl (j := 2) rfl ?_
          refine z_iload X dX3_mapsAtom_46 (j := 0) rfl ?_
          refine z_aload_n X dX3_mapsAtom_48 rfl (j := 4) rfl ?_
          refine z_getO X (ci := 0) (C := RX0) (T := TX0) (N := 2) inX0 hA2 rfl 1 (by decide) fl_X3_91 (fun _ h9 => h9) rfl dX3_mapsAtom_49 ?_
          refine z_getO X (ci := 7) (C := RX7) (T := TX7) (N := 4) inX7 (hM2 c_8) rfl 1 (by decide) fl_X3_68 (fun _ h9 => h9) rfl dX3_mapsAtom_52 ?_
          refine z_iload_n X dX3_mapsAtom_55 rfl (j := 1) rfl ?_
          refine z_ialdO X (hT2 c_8) (v := (nI (t' k))) (vp_in_nI (by omega) (by decide)) (at_nI (by omega) (ht2 c_8 k (by omega)).1) dX3_mapsAtom_56 ?_
          refine z_reti X (as := [.ref sa, .int (nI (t k)), .int (nI (t' k))]) (wc := [(sa, .inr (3, [.ref im, .int (nI Sk), v2, v3, v4, v5])), (im, .inl (cy 0, 6, .inl ik))]) (wr := []) (rest := []) (fun H9 locs9 ls9 hP9 hS9 hl9 hb9 hp9 => va_runV (As := [.int (nI (t k)), .int (nI (t' k))]) (rest := []) X.fix (m_lets l D cy O (v := t k) (t := t' k) hlt (by omega) hL3 H9.size) (cwV 2 X.hts (gV ml_X3_74 im_X3_lets se_X3_lets ni_X3 cd_X3_lets) rfl rfl rfl (by decide +kernel) ⟨Nat.le_of_ble_eq_true rfl, Nat.le_of_ble_eq_true rfl⟩) ⟨hb9, z_recvW X (q0 := 0) (ci := 3) (r := (RX3, TX3, 6)) rfl rfl hP9, hp9⟩ rfl rfl hl9.1 rfl (lv_room (Nat.le_of_ble_eq_true rfl)) dX3_mapsAtom_57 ⟨Nat.le_of_ble_eq_true rfl, Nat.le_of_ble_eq_true rfl⟩) [0, 1] [] rfl rfl rfl rfl rfl (by decide) (fun _ h => Or.inl h) (fun r4 w5 h6 => ?_)
          obtain ⟨rfl, Sy, iy, rfl, hey, hry⟩ := h6
          refine z_eq (ws' := [(sa, .inr (3, [.ref im, .int (nI Sy), v2, v3, v4, v5])), (im, .inl (cy 0, 6, .inl iy))]) (lv' := [(4, .int (nI (t k))), (3, .int (nI k)), (0, .ref sa), (1, .ref a1), (2, .ref a2)]) (st' := [.int (bit (letM pmk (t k) (t' k)).isSome)]) rfl rfl rfl ?_
          refine z_widen (k' := 0) (n' := 0) (Nat.le_refl _) (Nat.le_refl _) ?_
          refine z_if_ne X (tgt := 82) dX3_mapsAtom_60 (by decide) (fun c_60 => ?_) (fun c_60 => ?_)
          · skip
            obtain ⟨pmy, hpy⟩ : ∃ pmy, letM pmk (t k) (t' k) = some pmy := Option.isSome_iff_exists.mp (bit_y c_60)
            refine z_iinc X (j := 1) (v := (nI (k + 1))) (lv' := [(3, .int (nI (k + 1))), (4, .int (nI (t k))), (0, .ref sa), (1, .ref a1), (2, .ref a2)]) dX3_mapsAtom_82 rfl (nI_1 k) (by decide) rfl ?_
            refine z_goto X (tgt := 15) dX3_mapsAtom_85 (by decide) ?_
            refine z_lv [0, 2, 3, 4] (lv' := [(3, .int (nI (k + 1))), (0, .ref sa), (1, .ref a1), (2, .ref a2)]) rfl ?_
            refine z_eq (ws' := [(sa, .inr (3, [.ref im, .int (nI Sy), v2, v3, v4, v5])), (im, .inl (cy 0, 6, .inl iy))]) (lv' := [(3, .int (nI (k + 1))), (0, .ref sa), (1, .ref a1), (2, .ref a2)]) (st' := []) rfl rfl rfl ?_
            exact ih (k + 1) Sy iy pmy (by omega) (by omega) (by rw [atmM, hL2]; simp only [if_pos hlt]; exact hpy) (hry pmy hpy) (hL4.tr hey)
          · skip
            refine z_goto X (tgt := 80) dX3_mapsAtom_63 (by decide) ?_
            have hno : atmM t t' (k + 1) pm = none := by
              rw [atmM, hL2]; simp only [if_pos hlt]
              have h9 := bit_n c_60
              rw [Option.isSome_eq_false_iff] at h9
              exact Option.isNone_iff_eq_none.mp h9
            refine z_iconst X (v := 0) dX3_mapsAtom_80 (by decide) ?_
            exact z_endz X hr (Or.inl rfl) [(sa, .inr (3, [.ref im, .int (nI Sy), v2, v3, v4, v5])), (im, .inl (cy 0, 6, .inl iy))] [0, 1] rfl rfl rfl ⟨(by rw [show (atmM t t' n pm).isSome = false from by rw [atm_no hno (by omega)]; rfl, Bool.and_false]; rfl), _, _, rfl, (hL4.tr hey), fun pm' _ z => by rw [atm_no hno (by omega)] at z; cases z⟩ dX3_mapsAtom_81
    refine z_eq (ws' := [(sa, .inr (3, [.ref im, .int (nI S), v2, v3, v4, v5])), (im, .inl (cy 0, 6, .inl img))]) (lv' := [(3, .int (nI 0)), (0, .ref sa), (1, .ref a1), (2, .ref a2)]) (st' := []) rfl rfl rfl ?_
    exact L n 0 S img pm (by omega) (Nat.zero_le _) rfl hr9 (Ext.rf S img)
  · skip
    refine z_iconst X (v := 0) dX3_mapsAtom_11 (by decide) ?_
    exact z_endz X hr (Or.inl rfl) [(sa, .inr (3, [.ref im, .int (nI S), v2, v3, v4, v5])), (im, .inl (cy 0, 6, .inl img))] [0, 1] rfl rfl rfl ⟨(by rw [decide_eq_false c_8]; rfl), S, img, rfl, Ext.rf S img, fun pm' z => absurd z c_8⟩ dX3_mapsAtom_12
