theorem dL_below_0 : decode cL_below 0 = .ok (.iload_n 0, 1) := by decide +kernel
theorem dL_below_1 : decode cL_below 1 = .ok (.ldc 7, 2) := by decide +kernel
theorem dL_below_3 : decode cL_below 3 = .ok (.iand, 1) := by decide +kernel
theorem dL_below_4 : decode cL_below 4 = .ok (.iload_n 1, 1) := by decide +kernel
theorem dL_below_5 : decode cL_below 5 = .ok (.irem, 1) := by decide +kernel
theorem dL_below_6 : decode cL_below 6 = .ok (.ireturn, 1) := by decide +kernel
theorem dL_cell_0 : decode cL_cell 0 = .ok (.iload_n 1, 1) := by decide +kernel
theorem dL_cell_1 : decode cL_cell 1 = .ok (.aload_n 0, 1) := by decide +kernel
theorem dL_cell_2 : decode cL_cell 2 = .ok (.arraylength, 1) := by decide +kernel
theorem dL_cell_3 : decode cL_cell 3 = .ok (.if_icmp .ge 9, 3) := by decide +kernel
theorem dL_cell_6 : decode cL_cell 6 = .ok (.aload_n 0, 1) := by decide +kernel
theorem dL_cell_7 : decode cL_cell 7 = .ok (.iload_n 1, 1) := by decide +kernel
theorem dL_cell_8 : decode cL_cell 8 = .ok (.iaload, 1) := by decide +kernel
theorem dL_cell_9 : decode cL_cell 9 = .ok (.goto 9, 3) := by decide +kernel
theorem dL_cell_12 : decode cL_cell 12 = .ok (.ldc 8, 2) := by decide +kernel
theorem dL_cell_14 : decode cL_cell 14 = .ok (.iload_n 1, 1) := by decide +kernel
theorem dL_cell_15 : decode cL_cell 15 = .ok (.iconst 3, 1) := by decide +kernel
theorem dL_cell_16 : decode cL_cell 16 = .ok (.iadd, 1) := by decide +kernel
theorem dL_cell_17 : decode cL_cell 17 = .ok (.imul, 1) := by decide +kernel
theorem dL_cell_18 : decode cL_cell 18 = .ok (.ireturn, 1) := by decide +kernel
theorem dL_term_0 : decode cL_term 0 = .ok (.iload_n 0, 1) := by decide +kernel
theorem dL_term_1 : decode cL_term 1 = .ok (.iconst 4, 1) := by decide +kernel
theorem dL_term_2 : decode cL_term 2 = .ok (.invokestatic 9, 3) := by decide +kernel
theorem dL_term_5 : decode cL_term 5 = .ok (.ifCond .le 13, 3) := by decide +kernel
theorem dL_term_8 : decode cL_term 8 = .ok (.iload_n 0, 1) := by decide +kernel
theorem dL_term_9 : decode cL_term 9 = .ok (.iconst 2, 1) := by decide +kernel
theorem dL_term_10 : decode cL_term 10 = .ok (.ishr, 1) := by decide +kernel
theorem dL_term_11 : decode cL_term 11 = .ok (.iload_n 1, 1) := by decide +kernel
theorem dL_term_12 : decode cL_term 12 = .ok (.invokestatic 9, 3) := by decide +kernel
theorem dL_term_15 : decode cL_term 15 = .ok (.goto 13, 3) := by decide +kernel
theorem dL_term_18 : decode cL_term 18 = .ok (.bipush 10, 2) := by decide +kernel
theorem dL_term_20 : decode cL_term 20 = .ok (.iload_n 0, 1) := by decide +kernel
theorem dL_term_21 : decode cL_term 21 = .ok (.iconst 2, 1) := by decide +kernel
theorem dL_term_22 : decode cL_term 22 = .ok (.ishr, 1) := by decide +kernel
theorem dL_term_23 : decode cL_term 23 = .ok (.iconst 4, 1) := by decide +kernel
theorem dL_term_24 : decode cL_term 24 = .ok (.invokestatic 9, 3) := by decide +kernel
theorem dL_term_27 : decode cL_term 27 = .ok (.iadd, 1) := by decide +kernel
theorem dL_term_28 : decode cL_term 28 = .ok (.ireturn, 1) := by decide +kernel
theorem dL_relations_0 : decode cL_relations 0 = .ok (.new 15, 3) := by decide +kernel
theorem dL_relations_3 : decode cL_relations 3 = .ok (.dup, 1) := by decide +kernel
theorem dL_relations_4 : decode cL_relations 4 = .ok (.invokespecial 17, 3) := by decide +kernel
theorem dL_relations_7 : decode cL_relations 7 = .ok (.astore_n 3, 1) := by decide +kernel
theorem dL_relations_8 : decode cL_relations 8 = .ok (.iconst 0, 1) := by decide +kernel
theorem dL_relations_9 : decode cL_relations 9 = .ok (.istore 4, 2) := by decide +kernel
theorem dL_relations_11 : decode cL_relations 11 = .ok (.iload 4, 2) := by decide +kernel
theorem dL_relations_13 : decode cL_relations 13 = .ok (.iconst 3, 1) := by decide +kernel
theorem dL_relations_14 : decode cL_relations 14 = .ok (.if_icmp .ge 37, 3) := by decide +kernel
theorem dL_relations_17 : decode cL_relations 17 = .ok (.aload_n 3, 1) := by decide +kernel
theorem dL_relations_18 : decode cL_relations 18 = .ok (.aload_n 0, 1) := by decide +kernel
theorem dL_relations_19 : decode cL_relations 19 = .ok (.iconst 1, 1) := by decide +kernel
theorem dL_relations_20 : decode cL_relations 20 = .ok (.iload 4, 2) := by decide +kernel
theorem dL_relations_22 : decode cL_relations 22 = .ok (.aload_n 1, 1) := by decide +kernel
theorem dL_relations_23 : decode cL_relations 23 = .ok (.iconst 0, 1) := by decide +kernel
theorem dL_relations_24 : decode cL_relations 24 = .ok (.invokestatic 18, 3) := by decide +kernel
theorem dL_relations_27 : decode cL_relations 27 = .ok (.iconst 3, 1) := by decide +kernel
theorem dL_relations_28 : decode cL_relations 28 = .ok (.invokestatic 9, 3) := by decide +kernel
theorem dL_relations_31 : decode cL_relations 31 = .ok (.iadd, 1) := by decide +kernel
theorem dL_relations_32 : decode cL_relations 32 = .ok (.iconst 3, 1) := by decide +kernel
theorem dL_relations_33 : decode cL_relations 33 = .ok (.irem, 1) := by decide +kernel
theorem dL_relations_34 : decode cL_relations 34 = .ok (.iadd, 1) := by decide +kernel
theorem dL_relations_35 : decode cL_relations 35 = .ok (.invokevirtual 22, 3) := by decide +kernel
theorem dL_relations_38 : decode cL_relations 38 = .ok (.iload 4, 2) := by decide +kernel
theorem dL_relations_40 : decode cL_relations 40 = .ok (.if_icmp .eq 5, 3) := by decide +kernel
theorem dL_relations_43 : decode cL_relations 43 = .ok (.aconst_null, 1) := by decide +kernel
theorem dL_relations_44 : decode cL_relations 44 = .ok (.areturn, 1) := by decide +kernel
theorem dL_relations_45 : decode cL_relations 45 = .ok (.iinc 4 1, 3) := by decide +kernel
theorem dL_relations_48 : decode cL_relations 48 = .ok (.goto (-37), 3) := by decide +kernel
theorem dL_relations_51 : decode cL_relations 51 = .ok (.iconst 0, 1) := by decide +kernel
theorem dL_relations_52 : decode cL_relations 52 = .ok (.istore 4, 2) := by decide +kernel
theorem dL_relations_54 : decode cL_relations 54 = .ok (.iload 4, 2) := by decide +kernel
theorem dL_relations_56 : decode cL_relations 56 = .ok (.iload_n 2, 1) := by decide +kernel
theorem dL_relations_57 : decode cL_relations 57 = .ok (.if_icmp .ge 86, 3) := by decide +kernel
theorem dL_relations_60 : decode cL_relations 60 = .ok (.aload_n 1, 1) := by decide +kernel
theorem dL_relations_61 : decode cL_relations 61 = .ok (.iload 4, 2) := by decide +kernel
theorem dL_relations_63 : decode cL_relations 63 = .ok (.bipush 16, 2) := by decide +kernel
theorem dL_relations_65 : decode cL_relations 65 = .ok (.irem, 1) := by decide +kernel
theorem dL_relations_66 : decode cL_relations 66 = .ok (.invokestatic 18, 3) := by decide +kernel
theorem dL_relations_69 : decode cL_relations 69 = .ok (.iload 4, 2) := by decide +kernel
theorem dL_relations_71 : decode cL_relations 71 = .ok (.bipush 16, 2) := by decide +kernel
theorem dL_relations_73 : decode cL_relations 73 = .ok (.idiv, 1) := by decide +kernel
theorem dL_relations_74 : decode cL_relations 74 = .ok (.iconst 4, 1) := by decide +kernel
theorem dL_relations_75 : decode cL_relations 75 = .ok (.imul, 1) := by decide +kernel
theorem dL_relations_76 : decode cL_relations 76 = .ok (.ishr, 1) := by decide +kernel
theorem dL_relations_77 : decode cL_relations 77 = .ok (.bipush 11, 2) := by decide +kernel
theorem dL_relations_79 : decode cL_relations 79 = .ok (.iload 4, 2) := by decide +kernel
theorem dL_relations_81 : decode cL_relations 81 = .ok (.imul, 1) := by decide +kernel
theorem dL_relations_82 : decode cL_relations 82 = .ok (.iadd, 1) := by decide +kernel
theorem dL_relations_83 : decode cL_relations 83 = .ok (.istore 5, 2) := by decide +kernel
theorem dL_relations_85 : decode cL_relations 85 = .ok (.iload 5, 2) := by decide +kernel
theorem dL_relations_87 : decode cL_relations 87 = .ok (.iconst 3, 1) := by decide +kernel
theorem dL_relations_88 : decode cL_relations 88 = .ok (.invokestatic 9, 3) := by decide +kernel
theorem dL_relations_91 : decode cL_relations 91 = .ok (.istore 6, 2) := by decide +kernel
theorem dL_relations_93 : decode cL_relations 93 = .ok (.aload_n 3, 1) := by decide +kernel
theorem dL_relations_94 : decode cL_relations 94 = .ok (.aload_n 0, 1) := by decide +kernel
theorem dL_relations_95 : decode cL_relations 95 = .ok (.iload 6, 2) := by decide +kernel
theorem dL_relations_97 : decode cL_relations 97 = .ok (.iload 5, 2) := by decide +kernel
theorem dL_relations_99 : decode cL_relations 99 = .ok (.iconst 1, 1) := by decide +kernel
theorem dL_relations_100 : decode cL_relations 100 = .ok (.ishr, 1) := by decide +kernel
theorem dL_relations_101 : decode cL_relations 101 = .ok (.iconst 5, 1) := by decide +kernel
theorem dL_relations_102 : decode cL_relations 102 = .ok (.invokestatic 9, 3) := by decide +kernel
theorem dL_relations_105 : decode cL_relations 105 = .ok (.iload 5, 2) := by decide +kernel
theorem dL_relations_107 : decode cL_relations 107 = .ok (.iconst 2, 1) := by decide +kernel
theorem dL_relations_108 : decode cL_relations 108 = .ok (.ishr, 1) := by decide +kernel
theorem dL_relations_109 : decode cL_relations 109 = .ok (.iconst 5, 1) := by decide +kernel
theorem dL_relations_110 : decode cL_relations 110 = .ok (.invokestatic 9, 3) := by decide +kernel
theorem dL_relations_113 : decode cL_relations 113 = .ok (.iload 5, 2) := by decide +kernel
theorem dL_relations_115 : decode cL_relations 115 = .ok (.iconst 3, 1) := by decide +kernel
theorem dL_relations_116 : decode cL_relations 116 = .ok (.ishr, 1) := by decide +kernel
theorem dL_relations_117 : decode cL_relations 117 = .ok (.iconst 5, 1) := by decide +kernel
theorem dL_relations_118 : decode cL_relations 118 = .ok (.invokestatic 9, 3) := by decide +kernel
theorem dL_relations_121 : decode cL_relations 121 = .ok (.invokevirtual 26, 3) := by decide +kernel
theorem dL_relations_124 : decode cL_relations 124 = .ok (.aload_n 3, 1) := by decide +kernel
theorem dL_relations_125 : decode cL_relations 125 = .ok (.getfield 30, 3) := by decide +kernel
theorem dL_relations_128 : decode cL_relations 128 = .ok (.iload 6, 2) := by decide +kernel
theorem dL_relations_130 : decode cL_relations 130 = .ok (.aaload, 1) := by decide +kernel
theorem dL_relations_131 : decode cL_relations 131 = .ok (.arraylength, 1) := by decide +kernel
theorem dL_relations_132 : decode cL_relations 132 = .ok (.if_icmp .eq 5, 3) := by decide +kernel
theorem dL_relations_135 : decode cL_relations 135 = .ok (.aconst_null, 1) := by decide +kernel
theorem dL_relations_136 : decode cL_relations 136 = .ok (.areturn, 1) := by decide +kernel
theorem dL_relations_137 : decode cL_relations 137 = .ok (.iinc 4 1, 3) := by decide +kernel
theorem dL_relations_140 : decode cL_relations 140 = .ok (.goto (-86), 3) := by decide +kernel
theorem dL_relations_143 : decode cL_relations 143 = .ok (.aload_n 3, 1) := by decide +kernel
theorem dL_relations_144 : decode cL_relations 144 = .ok (.areturn, 1) := by decide +kernel
theorem dL_tell_0 : decode cL_tell 0 = .ok (.iconst 0, 1) := by decide +kernel
theorem dL_tell_1 : decode cL_tell 1 = .ok (.istore 5, 2) := by decide +kernel
theorem dL_tell_3 : decode cL_tell 3 = .ok (.iload 5, 2) := by decide +kernel
theorem dL_tell_5 : decode cL_tell 5 = .ok (.iload_n 3, 1) := by decide +kernel
theorem dL_tell_6 : decode cL_tell 6 = .ok (.if_icmp .ge 266, 3) := by decide +kernel
theorem dL_tell_9 : decode cL_tell 9 = .ok (.aload_n 2, 1) := by decide +kernel
theorem dL_tell_10 : decode cL_tell 10 = .ok (.iload 5, 2) := by decide +kernel
theorem dL_tell_12 : decode cL_tell 12 = .ok (.iconst 3, 1) := by decide +kernel
theorem dL_tell_13 : decode cL_tell 13 = .ok (.iadd, 1) := by decide +kernel
theorem dL_tell_14 : decode cL_tell 14 = .ok (.bipush 16, 2) := by decide +kernel
theorem dL_tell_16 : decode cL_tell 16 = .ok (.irem, 1) := by decide +kernel
theorem dL_tell_17 : decode cL_tell 17 = .ok (.invokestatic 18, 3) := by decide +kernel
theorem dL_tell_20 : decode cL_tell 20 = .ok (.iload 5, 2) := by decide +kernel
theorem dL_tell_22 : decode cL_tell 22 = .ok (.bipush 16, 2) := by decide +kernel
theorem dL_tell_24 : decode cL_tell 24 = .ok (.idiv, 1) := by decide +kernel
theorem dL_tell_25 : decode cL_tell 25 = .ok (.iconst 3, 1) := by decide +kernel
theorem dL_tell_26 : decode cL_tell 26 = .ok (.imul, 1) := by decide +kernel
theorem dL_tell_27 : decode cL_tell 27 = .ok (.ishr, 1) := by decide +kernel
theorem dL_tell_28 : decode cL_tell 28 = .ok (.iconst 5, 1) := by decide +kernel
theorem dL_tell_29 : decode cL_tell 29 = .ok (.iload 5, 2) := by decide +kernel
theorem dL_tell_31 : decode cL_tell 31 = .ok (.imul, 1) := by decide +kernel
theorem dL_tell_32 : decode cL_tell 32 = .ok (.iadd, 1) := by decide +kernel
theorem dL_tell_33 : decode cL_tell 33 = .ok (.istore 6, 2) := by decide +kernel
theorem dL_tell_35 : decode cL_tell 35 = .ok (.bipush 8, 2) := by decide +kernel
theorem dL_tell_37 : decode cL_tell 37 = .ok (.newarray .int, 2) := by decide +kernel
theorem dL_tell_39 : decode cL_tell 39 = .ok (.dup, 1) := by decide +kernel
theorem dL_tell_40 : decode cL_tell 40 = .ok (.iconst 0, 1) := by decide +kernel
theorem dL_tell_41 : decode cL_tell 41 = .ok (.iload 6, 2) := by decide +kernel
theorem dL_tell_43 : decode cL_tell 43 = .ok (.bipush 7, 2) := by decide +kernel
theorem dL_tell_45 : decode cL_tell 45 = .ok (.invokestatic 9, 3) := by decide +kernel
theorem dL_tell_48 : decode cL_tell 48 = .ok (.iastore, 1) := by decide +kernel
theorem dL_tell_49 : decode cL_tell 49 = .ok (.dup, 1) := by decide +kernel
theorem dL_tell_50 : decode cL_tell 50 = .ok (.iconst 1, 1) := by decide +kernel
theorem dL_tell_51 : decode cL_tell 51 = .ok (.iload 6, 2) := by decide +kernel
theorem dL_tell_53 : decode cL_tell 53 = .ok (.iconst 1, 1) := by decide +kernel
theorem dL_tell_54 : decode cL_tell 54 = .ok (.ishr, 1) := by decide +kernel
theorem dL_tell_55 : decode cL_tell 55 = .ok (.iconst 3, 1) := by decide +kernel
theorem dL_tell_56 : decode cL_tell 56 = .ok (.invokestatic 9, 3) := by decide +kernel
theorem dL_tell_59 : decode cL_tell 59 = .ok (.iastore, 1) := by decide +kernel
theorem dL_tell_60 : decode cL_tell 60 = .ok (.dup, 1) := by decide +kernel
theorem dL_tell_61 : decode cL_tell 61 = .ok (.iconst 2, 1) := by decide +kernel
theorem dL_tell_62 : decode cL_tell 62 = .ok (.iload 6, 2) := by decide +kernel
theorem dL_tell_64 : decode cL_tell 64 = .ok (.iconst 2, 1) := by decide +kernel
theorem dL_tell_65 : decode cL_tell 65 = .ok (.ishr, 1) := by decide +kernel
theorem dL_tell_66 : decode cL_tell 66 = .ok (.iload 4, 2) := by decide +kernel
theorem dL_tell_68 : decode cL_tell 68 = .ok (.invokestatic 34, 3) := by decide +kernel
theorem dL_tell_71 : decode cL_tell 71 = .ok (.iastore, 1) := by decide +kernel
theorem dL_tell_72 : decode cL_tell 72 = .ok (.dup, 1) := by decide +kernel
theorem dL_tell_73 : decode cL_tell 73 = .ok (.iconst 3, 1) := by decide +kernel
theorem dL_tell_74 : decode cL_tell 74 = .ok (.iload 6, 2) := by decide +kernel
theorem dL_tell_76 : decode cL_tell 76 = .ok (.iconst 3, 1) := by decide +kernel
theorem dL_tell_77 : decode cL_tell 77 = .ok (.ishr, 1) := by decide +kernel
theorem dL_tell_78 : decode cL_tell 78 = .ok (.iload 4, 2) := by decide +kernel
theorem dL_tell_80 : decode cL_tell 80 = .ok (.invokestatic 34, 3) := by decide +kernel
theorem dL_tell_83 : decode cL_tell 83 = .ok (.iastore, 1) := by decide +kernel
theorem dL_tell_84 : decode cL_tell 84 = .ok (.dup, 1) := by decide +kernel
theorem dL_tell_85 : decode cL_tell 85 = .ok (.iconst 4, 1) := by decide +kernel
theorem dL_tell_86 : decode cL_tell 86 = .ok (.iload 6, 2) := by decide +kernel
theorem dL_tell_88 : decode cL_tell 88 = .ok (.iconst 4, 1) := by decide +kernel
theorem dL_tell_89 : decode cL_tell 89 = .ok (.ishr, 1) := by decide +kernel
theorem dL_tell_90 : decode cL_tell 90 = .ok (.iload 4, 2) := by decide +kernel
theorem dL_tell_92 : decode cL_tell 92 = .ok (.invokestatic 34, 3) := by decide +kernel
theorem dL_tell_95 : decode cL_tell 95 = .ok (.iastore, 1) := by decide +kernel
theorem dL_tell_96 : decode cL_tell 96 = .ok (.dup, 1) := by decide +kernel
theorem dL_tell_97 : decode cL_tell 97 = .ok (.iconst 5, 1) := by decide +kernel
theorem dL_tell_98 : decode cL_tell 98 = .ok (.iconst 0, 1) := by decide +kernel
theorem dL_tell_99 : decode cL_tell 99 = .ok (.iastore, 1) := by decide +kernel
theorem dL_tell_100 : decode cL_tell 100 = .ok (.dup, 1) := by decide +kernel
theorem dL_tell_101 : decode cL_tell 101 = .ok (.bipush 6, 2) := by decide +kernel
theorem dL_tell_103 : decode cL_tell 103 = .ok (.iconst 0, 1) := by decide +kernel
theorem dL_tell_104 : decode cL_tell 104 = .ok (.iastore, 1) := by decide +kernel
theorem dL_tell_105 : decode cL_tell 105 = .ok (.dup, 1) := by decide +kernel
theorem dL_tell_106 : decode cL_tell 106 = .ok (.bipush 7, 2) := by decide +kernel
theorem dL_tell_108 : decode cL_tell 108 = .ok (.iload 6, 2) := by decide +kernel
theorem dL_tell_110 : decode cL_tell 110 = .ok (.iconst 5, 1) := by decide +kernel
theorem dL_tell_111 : decode cL_tell 111 = .ok (.ishr, 1) := by decide +kernel
theorem dL_tell_112 : decode cL_tell 112 = .ok (.iload 4, 2) := by decide +kernel
theorem dL_tell_114 : decode cL_tell 114 = .ok (.invokestatic 9, 3) := by decide +kernel
theorem dL_tell_117 : decode cL_tell 117 = .ok (.iastore, 1) := by decide +kernel
theorem dL_tell_118 : decode cL_tell 118 = .ok (.astore 7, 2) := by decide +kernel
theorem dL_tell_120 : decode cL_tell 120 = .ok (.iload 5, 2) := by decide +kernel
theorem dL_tell_122 : decode cL_tell 122 = .ok (.iconst 2, 1) := by decide +kernel
theorem dL_tell_123 : decode cL_tell 123 = .ok (.if_icmp .ge 8, 3) := by decide +kernel
theorem dL_tell_126 : decode cL_tell 126 = .ok (.aload 7, 2) := by decide +kernel
theorem dL_tell_128 : decode cL_tell 128 = .ok (.iconst 0, 1) := by decide +kernel
theorem dL_tell_129 : decode cL_tell 129 = .ok (.iconst 0, 1) := by decide +kernel
theorem dL_tell_130 : decode cL_tell 130 = .ok (.iastore, 1) := by decide +kernel
theorem dL_tell_131 : decode cL_tell 131 = .ok (.aload 7, 2) := by decide +kernel
theorem dL_tell_133 : decode cL_tell 133 = .ok (.iconst 0, 1) := by decide +kernel
theorem dL_tell_134 : decode cL_tell 134 = .ok (.iaload, 1) := by decide +kernel
theorem dL_tell_135 : decode cL_tell 135 = .ok (.iconst 1, 1) := by decide +kernel
theorem dL_tell_136 : decode cL_tell 136 = .ok (.if_icmp .le 30, 3) := by decide +kernel
theorem dL_tell_139 : decode cL_tell 139 = .ok (.aload 7, 2) := by decide +kernel
theorem dL_tell_141 : decode cL_tell 141 = .ok (.iconst 5, 1) := by decide +kernel
theorem dL_tell_142 : decode cL_tell 142 = .ok (.iload 6, 2) := by decide +kernel
theorem dL_tell_144 : decode cL_tell 144 = .ok (.iconst 3, 1) := by decide +kernel
theorem dL_tell_145 : decode cL_tell 145 = .ok (.ishr, 1) := by decide +kernel
theorem dL_tell_146 : decode cL_tell 146 = .ok (.iload 5, 2) := by decide +kernel
theorem dL_tell_148 : decode cL_tell 148 = .ok (.invokestatic 9, 3) := by decide +kernel
theorem dL_tell_151 : decode cL_tell 151 = .ok (.iastore, 1) := by decide +kernel
theorem dL_tell_152 : decode cL_tell 152 = .ok (.aload 7, 2) := by decide +kernel
theorem dL_tell_154 : decode cL_tell 154 = .ok (.bipush 6, 2) := by decide +kernel
theorem dL_tell_156 : decode cL_tell 156 = .ok (.iload 6, 2) := by decide +kernel
theorem dL_tell_158 : decode cL_tell 158 = .ok (.iconst 4, 1) := by decide +kernel
theorem dL_tell_159 : decode cL_tell 159 = .ok (.ishr, 1) := by decide +kernel
theorem dL_tell_160 : decode cL_tell 160 = .ok (.iload 5, 2) := by decide +kernel
theorem dL_tell_162 : decode cL_tell 162 = .ok (.invokestatic 9, 3) := by decide +kernel
theorem dL_tell_165 : decode cL_tell 165 = .ok (.iastore, 1) := by decide +kernel
theorem dL_tell_166 : decode cL_tell 166 = .ok (.iconst 1, 1) := by decide +kernel
theorem dL_tell_167 : decode cL_tell 167 = .ok (.aload 7, 2) := by decide +kernel
theorem dL_tell_169 : decode cL_tell 169 = .ok (.iconst 0, 1) := by decide +kernel
theorem dL_tell_170 : decode cL_tell 170 = .ok (.iaload, 1) := by decide +kernel
theorem dL_tell_171 : decode cL_tell 171 = .ok (.iconst 1, 1) := by decide +kernel
theorem dL_tell_172 : decode cL_tell 172 = .ok (.if_icmp .le 14, 3) := by decide +kernel
theorem dL_tell_175 : decode cL_tell 175 = .ok (.aload_n 1, 1) := by decide +kernel
theorem dL_tell_176 : decode cL_tell 176 = .ok (.aload 7, 2) := by decide +kernel
theorem dL_tell_178 : decode cL_tell 178 = .ok (.iconst 5, 1) := by decide +kernel
theorem dL_tell_179 : decode cL_tell 179 = .ok (.iaload, 1) := by decide +kernel
theorem dL_tell_180 : decode cL_tell 180 = .ok (.invokevirtual 37, 3) := by decide +kernel
theorem dL_tell_183 : decode cL_tell 183 = .ok (.goto 4, 3) := by decide +kernel
theorem dL_tell_186 : decode cL_tell 186 = .ok (.iconst 0, 1) := by decide +kernel
theorem dL_tell_187 : decode cL_tell 187 = .ok (.iadd, 1) := by decide +kernel
theorem dL_tell_188 : decode cL_tell 188 = .ok (.aload 7, 2) := by decide +kernel
theorem dL_tell_190 : decode cL_tell 190 = .ok (.iconst 0, 1) := by decide +kernel
theorem dL_tell_191 : decode cL_tell 191 = .ok (.iaload, 1) := by decide +kernel
theorem dL_tell_192 : decode cL_tell 192 = .ok (.iconst 3, 1) := by decide +kernel
theorem dL_tell_193 : decode cL_tell 193 = .ok (.if_icmp .eq 11, 3) := by decide +kernel
theorem dL_tell_196 : decode cL_tell 196 = .ok (.aload 7, 2) := by decide +kernel
theorem dL_tell_198 : decode cL_tell 198 = .ok (.iconst 0, 1) := by decide +kernel
theorem dL_tell_199 : decode cL_tell 199 = .ok (.iaload, 1) := by decide +kernel
theorem dL_tell_200 : decode cL_tell 200 = .ok (.iconst 4, 1) := by decide +kernel
theorem dL_tell_201 : decode cL_tell 201 = .ok (.if_icmp .ne 15, 3) := by decide +kernel
theorem dL_tell_204 : decode cL_tell 204 = .ok (.aload_n 1, 1) := by decide +kernel
theorem dL_tell_205 : decode cL_tell 205 = .ok (.aload 7, 2) := by decide +kernel
theorem dL_tell_207 : decode cL_tell 207 = .ok (.bipush 6, 2) := by decide +kernel
theorem dL_tell_209 : decode cL_tell 209 = .ok (.iaload, 1) := by decide +kernel
theorem dL_tell_210 : decode cL_tell 210 = .ok (.invokevirtual 37, 3) := by decide +kernel
theorem dL_tell_213 : decode cL_tell 213 = .ok (.goto 4, 3) := by decide +kernel
theorem dL_tell_216 : decode cL_tell 216 = .ok (.iconst 0, 1) := by decide +kernel
theorem dL_tell_217 : decode cL_tell 217 = .ok (.iadd, 1) := by decide +kernel
theorem dL_tell_218 : decode cL_tell 218 = .ok (.istore 8, 2) := by decide +kernel
theorem dL_tell_220 : decode cL_tell 220 = .ok (.aload 7, 2) := by decide +kernel
theorem dL_tell_222 : decode cL_tell 222 = .ok (.iconst 0, 1) := by decide +kernel
theorem dL_tell_223 : decode cL_tell 223 = .ok (.iaload, 1) := by decide +kernel
theorem dL_tell_224 : decode cL_tell 224 = .ok (.iconst 4, 1) := by decide +kernel
theorem dL_tell_225 : decode cL_tell 225 = .ok (.if_icmp .le 15, 3) := by decide +kernel
theorem dL_tell_228 : decode cL_tell 228 = .ok (.aload_n 1, 1) := by decide +kernel
theorem dL_tell_229 : decode cL_tell 229 = .ok (.aload 7, 2) := by decide +kernel
theorem dL_tell_231 : decode cL_tell 231 = .ok (.iconst 5, 1) := by decide +kernel
theorem dL_tell_232 : decode cL_tell 232 = .ok (.iaload, 1) := by decide +kernel
theorem dL_tell_233 : decode cL_tell 233 = .ok (.invokevirtual 41, 3) := by decide +kernel
theorem dL_tell_236 : decode cL_tell 236 = .ok (.iconst 2, 1) := by decide +kernel
theorem dL_tell_237 : decode cL_tell 237 = .ok (.if_icmp .gt 10, 3) := by decide +kernel
theorem dL_tell_240 : decode cL_tell 240 = .ok (.iload 8, 2) := by decide +kernel
theorem dL_tell_242 : decode cL_tell 242 = .ok (.bipush 20, 2) := by decide +kernel
theorem dL_tell_244 : decode cL_tell 244 = .ok (.if_icmp .le 8, 3) := by decide +kernel
theorem dL_tell_247 : decode cL_tell 247 = .ok (.aload 7, 2) := by decide +kernel
theorem dL_tell_249 : decode cL_tell 249 = .ok (.iconst 0, 1) := by decide +kernel
theorem dL_tell_250 : decode cL_tell 250 = .ok (.iconst 0, 1) := by decide +kernel
theorem dL_tell_251 : decode cL_tell 251 = .ok (.iastore, 1) := by decide +kernel
theorem dL_tell_252 : decode cL_tell 252 = .ok (.aload_n 1, 1) := by decide +kernel
theorem dL_tell_253 : decode cL_tell 253 = .ok (.aload_n 0, 1) := by decide +kernel
theorem dL_tell_254 : decode cL_tell 254 = .ok (.aload 7, 2) := by decide +kernel
theorem dL_tell_256 : decode cL_tell 256 = .ok (.invokevirtual 44, 3) := by decide +kernel
theorem dL_tell_259 : decode cL_tell 259 = .ok (.iload 5, 2) := by decide +kernel
theorem dL_tell_261 : decode cL_tell 261 = .ok (.if_icmp .eq 5, 3) := by decide +kernel
theorem dL_tell_264 : decode cL_tell 264 = .ok (.iconst 0, 1) := by decide +kernel
theorem dL_tell_265 : decode cL_tell 265 = .ok (.ireturn, 1) := by decide +kernel
theorem dL_tell_266 : decode cL_tell 266 = .ok (.iinc 5 1, 3) := by decide +kernel
theorem dL_tell_269 : decode cL_tell 269 = .ok (.goto (-266), 3) := by decide +kernel
theorem dL_tell_272 : decode cL_tell 272 = .ok (.iconst 1, 1) := by decide +kernel
theorem dL_tell_273 : decode cL_tell 273 = .ok (.ireturn, 1) := by decide +kernel
theorem dX10_init_0 : decode cX10_init 0 = .ok (.aload_n 0, 1) := by decide +kernel
theorem dX10_init_1 : decode cX10_init 1 = .ok (.invokespecial 1, 3) := by decide +kernel
theorem dX10_init_4 : decode cX10_init 4 = .ok (.aload_n 0, 1) := by decide +kernel
theorem dX10_init_5 : decode cX10_init 5 = .ok (.iconst 0, 1) := by decide +kernel
theorem dX10_init_6 : decode cX10_init 6 = .ok (.newarray .int, 2) := by decide +kernel
theorem dX10_init_8 : decode cX10_init 8 = .ok (.putfield 7, 3) := by decide +kernel
theorem dX10_init_11 : decode cX10_init 11 = .ok (.aload_n 0, 1) := by decide +kernel
theorem dX10_init_12 : decode cX10_init 12 = .ok (.iconst 0, 1) := by decide +kernel
theorem dX10_init_13 : decode cX10_init 13 = .ok (.anewarray 13, 3) := by decide +kernel
theorem dX10_init_16 : decode cX10_init 16 = .ok (.putfield 15, 3) := by decide +kernel
theorem dX10_init_19 : decode cX10_init 19 = .ok (.aload_n 0, 1) := by decide +kernel
theorem dX10_init_20 : decode cX10_init 20 = .ok (.iconst 0, 1) := by decide +kernel
theorem dX10_init_21 : decode cX10_init 21 = .ok (.anewarray 19, 3) := by decide +kernel
theorem dX10_init_24 : decode cX10_init 24 = .ok (.putfield 20, 3) := by decide +kernel
theorem dX10_init_27 : decode cX10_init 27 = .ok (.return_, 1) := by decide +kernel
theorem dX10_with_0 : decode cX10_with 0 = .ok (.aload_n 0, 1) := by decide +kernel
theorem dX10_with_1 : decode cX10_with 1 = .ok (.arraylength, 1) := by decide +kernel
theorem dX10_with_2 : decode cX10_with 2 = .ok (.iconst 1, 1) := by decide +kernel
theorem dX10_with_3 : decode cX10_with 3 = .ok (.iadd, 1) := by decide +kernel
theorem dX10_with_4 : decode cX10_with 4 = .ok (.newarray .int, 2) := by decide +kernel
theorem dX10_with_6 : decode cX10_with 6 = .ok (.astore_n 2, 1) := by decide +kernel
theorem dX10_with_7 : decode cX10_with 7 = .ok (.aload_n 0, 1) := by decide +kernel
theorem dX10_with_8 : decode cX10_with 8 = .ok (.iconst 0, 1) := by decide +kernel
theorem dX10_with_9 : decode cX10_with 9 = .ok (.aload_n 2, 1) := by decide +kernel
theorem dX10_with_10 : decode cX10_with 10 = .ok (.iconst 0, 1) := by decide +kernel
theorem dX10_with_11 : decode cX10_with 11 = .ok (.aload_n 0, 1) := by decide +kernel
theorem dX10_with_12 : decode cX10_with 12 = .ok (.arraylength, 1) := by decide +kernel
theorem dX10_with_13 : decode cX10_with 13 = .ok (.invokestatic 23, 3) := by decide +kernel
theorem dX10_with_16 : decode cX10_with 16 = .ok (.aload_n 2, 1) := by decide +kernel
theorem dX10_with_17 : decode cX10_with 17 = .ok (.aload_n 0, 1) := by decide +kernel
theorem dX10_with_18 : decode cX10_with 18 = .ok (.arraylength, 1) := by decide +kernel
theorem dX10_with_19 : decode cX10_with 19 = .ok (.iload_n 1, 1) := by decide +kernel
theorem dX10_with_20 : decode cX10_with 20 = .ok (.iastore, 1) := by decide +kernel
theorem dX10_with_21 : decode cX10_with 21 = .ok (.aload_n 2, 1) := by decide +kernel
theorem dX10_with_22 : decode cX10_with 22 = .ok (.areturn, 1) := by decide +kernel
theorem dX10_with__0 : decode cX10_with_ 0 = .ok (.aload_n 0, 1) := by decide +kernel
theorem dX10_with__1 : decode cX10_with_ 1 = .ok (.arraylength, 1) := by decide +kernel
theorem dX10_with__2 : decode cX10_with_ 2 = .ok (.iconst 1, 1) := by decide +kernel
theorem dX10_with__3 : decode cX10_with_ 3 = .ok (.iadd, 1) := by decide +kernel
theorem dX10_with__4 : decode cX10_with_ 4 = .ok (.anewarray 19, 3) := by decide +kernel
theorem dX10_with__7 : decode cX10_with_ 7 = .ok (.astore_n 2, 1) := by decide +kernel
theorem dX10_with__8 : decode cX10_with_ 8 = .ok (.aload_n 0, 1) := by decide +kernel
theorem dX10_with__9 : decode cX10_with_ 9 = .ok (.iconst 0, 1) := by decide +kernel
theorem dX10_with__10 : decode cX10_with_ 10 = .ok (.aload_n 2, 1) := by decide +kernel
theorem dX10_with__11 : decode cX10_with_ 11 = .ok (.iconst 0, 1) := by decide +kernel
theorem dX10_with__12 : decode cX10_with_ 12 = .ok (.aload_n 0, 1) := by decide +kernel
theorem dX10_with__13 : decode cX10_with_ 13 = .ok (.arraylength, 1) := by decide +kernel
theorem dX10_with__14 : decode cX10_with_ 14 = .ok (.invokestatic 23, 3) := by decide +kernel
theorem dX10_with__17 : decode cX10_with_ 17 = .ok (.aload_n 2, 1) := by decide +kernel
theorem dX10_with__18 : decode cX10_with_ 18 = .ok (.aload_n 0, 1) := by decide +kernel
theorem dX10_with__19 : decode cX10_with_ 19 = .ok (.arraylength, 1) := by decide +kernel
theorem dX10_with__20 : decode cX10_with_ 20 = .ok (.aload_n 1, 1) := by decide +kernel
theorem dX10_with__21 : decode cX10_with_ 21 = .ok (.aastore, 1) := by decide +kernel
theorem dX10_with__22 : decode cX10_with_ 22 = .ok (.aload_n 2, 1) := by decide +kernel
theorem dX10_with__23 : decode cX10_with_ 23 = .ok (.areturn, 1) := by decide +kernel
theorem dX10_order_0 : decode cX10_order 0 = .ok (.iconst 0, 1) := by decide +kernel
theorem dX10_order_1 : decode cX10_order 1 = .ok (.istore_n 2, 1) := by decide +kernel
theorem dX10_order_2 : decode cX10_order 2 = .ok (.iload_n 2, 1) := by decide +kernel
theorem dX10_order_3 : decode cX10_order 3 = .ok (.aload_n 0, 1) := by decide +kernel
theorem dX10_order_4 : decode cX10_order 4 = .ok (.arraylength, 1) := by decide +kernel
theorem dX10_order_5 : decode cX10_order 5 = .ok (.if_icmp .ge 26, 3) := by decide +kernel
theorem dX10_order_8 : decode cX10_order 8 = .ok (.aload_n 0, 1) := by decide +kernel
theorem dX10_order_9 : decode cX10_order 9 = .ok (.iload_n 2, 1) := by decide +kernel
theorem dX10_order_10 : decode cX10_order 10 = .ok (.iaload, 1) := by decide +kernel
theorem dX10_order_11 : decode cX10_order 11 = .ok (.aload_n 1, 1) := by decide +kernel
theorem dX10_order_12 : decode cX10_order 12 = .ok (.iload_n 2, 1) := by decide +kernel
theorem dX10_order_13 : decode cX10_order 13 = .ok (.iaload, 1) := by decide +kernel
theorem dX10_order_14 : decode cX10_order 14 = .ok (.if_icmp .eq 11, 3) := by decide +kernel
theorem dX10_order_17 : decode cX10_order 17 = .ok (.aload_n 0, 1) := by decide +kernel
theorem dX10_order_18 : decode cX10_order 18 = .ok (.iload_n 2, 1) := by decide +kernel
theorem dX10_order_19 : decode cX10_order 19 = .ok (.iaload, 1) := by decide +kernel
theorem dX10_order_20 : decode cX10_order 20 = .ok (.aload_n 1, 1) := by decide +kernel
theorem dX10_order_21 : decode cX10_order 21 = .ok (.iload_n 2, 1) := by decide +kernel
theorem dX10_order_22 : decode cX10_order 22 = .ok (.iaload, 1) := by decide +kernel
theorem dX10_order_23 : decode cX10_order 23 = .ok (.isub, 1) := by decide +kernel
theorem dX10_order_24 : decode cX10_order 24 = .ok (.ireturn, 1) := by decide +kernel
theorem dX10_order_25 : decode cX10_order 25 = .ok (.iinc 2 1, 3) := by decide +kernel
theorem dX10_order_28 : decode cX10_order 28 = .ok (.goto (-26), 3) := by decide +kernel
theorem dX10_order_31 : decode cX10_order 31 = .ok (.iconst 0, 1) := by decide +kernel
theorem dX10_order_32 : decode cX10_order 32 = .ok (.ireturn, 1) := by decide +kernel
theorem dX10_put_0 : decode cX10_put 0 = .ok (.iconst 0, 1) := by decide +kernel
theorem dX10_put_1 : decode cX10_put 1 = .ok (.istore_n 2, 1) := by decide +kernel
theorem dX10_put_2 : decode cX10_put 2 = .ok (.iload_n 2, 1) := by decide +kernel
theorem dX10_put_3 : decode cX10_put 3 = .ok (.aload_n 0, 1) := by decide +kernel
theorem dX10_put_4 : decode cX10_put 4 = .ok (.arraylength, 1) := by decide +kernel
theorem dX10_put_5 : decode cX10_put 5 = .ok (.if_icmp .ge 19, 3) := by decide +kernel
theorem dX10_put_8 : decode cX10_put 8 = .ok (.aload_n 0, 1) := by decide +kernel
theorem dX10_put_9 : decode cX10_put 9 = .ok (.iload_n 2, 1) := by decide +kernel
theorem dX10_put_10 : decode cX10_put 10 = .ok (.aaload, 1) := by decide +kernel
theorem dX10_put_11 : decode cX10_put 11 = .ok (.aload_n 1, 1) := by decide +kernel
theorem dX10_put_12 : decode cX10_put 12 = .ok (.invokestatic 29, 3) := by decide +kernel
theorem dX10_put_15 : decode cX10_put 15 = .ok (.ifCond .ge 9, 3) := by decide +kernel
theorem dX10_put_18 : decode cX10_put 18 = .ok (.iinc 2 1, 3) := by decide +kernel
theorem dX10_put_21 : decode cX10_put 21 = .ok (.goto (-19), 3) := by decide +kernel
theorem dX10_put_24 : decode cX10_put 24 = .ok (.iload_n 2, 1) := by decide +kernel
theorem dX10_put_25 : decode cX10_put 25 = .ok (.aload_n 0, 1) := by decide +kernel
theorem dX10_put_26 : decode cX10_put 26 = .ok (.arraylength, 1) := by decide +kernel
theorem dX10_put_27 : decode cX10_put 27 = .ok (.if_icmp .ge 15, 3) := by decide +kernel
theorem dX10_put_30 : decode cX10_put 30 = .ok (.aload_n 0, 1) := by decide +kernel
theorem dX10_put_31 : decode cX10_put 31 = .ok (.iload_n 2, 1) := by decide +kernel
theorem dX10_put_32 : decode cX10_put 32 = .ok (.aaload, 1) := by decide +kernel
theorem dX10_put_33 : decode cX10_put 33 = .ok (.aload_n 1, 1) := by decide +kernel
theorem dX10_put_34 : decode cX10_put 34 = .ok (.invokestatic 29, 3) := by decide +kernel
theorem dX10_put_37 : decode cX10_put 37 = .ok (.ifCond .ne 5, 3) := by decide +kernel
theorem dX10_put_40 : decode cX10_put 40 = .ok (.aload_n 0, 1) := by decide +kernel
theorem dX10_put_41 : decode cX10_put 41 = .ok (.areturn, 1) := by decide +kernel
theorem dX10_put_42 : decode cX10_put 42 = .ok (.aload_n 0, 1) := by decide +kernel
theorem dX10_put_43 : decode cX10_put 43 = .ok (.arraylength, 1) := by decide +kernel
theorem dX10_put_44 : decode cX10_put 44 = .ok (.iconst 1, 1) := by decide +kernel
theorem dX10_put_45 : decode cX10_put 45 = .ok (.iadd, 1) := by decide +kernel
theorem dX10_put_46 : decode cX10_put 46 = .ok (.anewarray 19, 3) := by decide +kernel
theorem dX10_put_49 : decode cX10_put 49 = .ok (.astore_n 3, 1) := by decide +kernel
theorem dX10_put_50 : decode cX10_put 50 = .ok (.aload_n 0, 1) := by decide +kernel
theorem dX10_put_51 : decode cX10_put 51 = .ok (.iconst 0, 1) := by decide +kernel
theorem dX10_put_52 : decode cX10_put 52 = .ok (.aload_n 3, 1) := by decide +kernel
theorem dX10_put_53 : decode cX10_put 53 = .ok (.iconst 0, 1) := by decide +kernel
theorem dX10_put_54 : decode cX10_put 54 = .ok (.iload_n 2, 1) := by decide +kernel
theorem dX10_put_55 : decode cX10_put 55 = .ok (.invokestatic 23, 3) := by decide +kernel
theorem dX10_put_58 : decode cX10_put 58 = .ok (.aload_n 3, 1) := by decide +kernel
theorem dX10_put_59 : decode cX10_put 59 = .ok (.iload_n 2, 1) := by decide +kernel
theorem dX10_put_60 : decode cX10_put 60 = .ok (.aload_n 1, 1) := by decide +kernel
theorem dX10_put_61 : decode cX10_put 61 = .ok (.aastore, 1) := by decide +kernel
theorem dX10_put_62 : decode cX10_put 62 = .ok (.aload_n 0, 1) := by decide +kernel
theorem dX10_put_63 : decode cX10_put 63 = .ok (.iload_n 2, 1) := by decide +kernel
theorem dX10_put_64 : decode cX10_put 64 = .ok (.aload_n 3, 1) := by decide +kernel
theorem dX10_put_65 : decode cX10_put 65 = .ok (.iload_n 2, 1) := by decide +kernel
theorem dX10_put_66 : decode cX10_put 66 = .ok (.iconst 1, 1) := by decide +kernel
theorem dX10_put_67 : decode cX10_put 67 = .ok (.iadd, 1) := by decide +kernel
theorem dX10_put_68 : decode cX10_put 68 = .ok (.aload_n 0, 1) := by decide +kernel
theorem dX10_put_69 : decode cX10_put 69 = .ok (.arraylength, 1) := by decide +kernel
theorem dX10_put_70 : decode cX10_put 70 = .ok (.iload_n 2, 1) := by decide +kernel
theorem dX10_put_71 : decode cX10_put 71 = .ok (.isub, 1) := by decide +kernel
theorem dX10_put_72 : decode cX10_put 72 = .ok (.invokestatic 23, 3) := by decide +kernel
theorem dX10_put_75 : decode cX10_put 75 = .ok (.aload_n 3, 1) := by decide +kernel
theorem dX10_put_76 : decode cX10_put 76 = .ok (.areturn, 1) := by decide +kernel
theorem dX10_isFact_0 : decode cX10_isFact 0 = .ok (.aload_n 0, 1) := by decide +kernel
theorem dX10_isFact_1 : decode cX10_isFact 1 = .ok (.getfield 15, 3) := by decide +kernel
theorem dX10_isFact_4 : decode cX10_isFact 4 = .ok (.iload_n 1, 1) := by decide +kernel
theorem dX10_isFact_5 : decode cX10_isFact 5 = .ok (.aaload, 1) := by decide +kernel
theorem dX10_isFact_6 : decode cX10_isFact 6 = .ok (.astore_n 3, 1) := by decide +kernel
theorem dX10_isFact_7 : decode cX10_isFact 7 = .ok (.aload_n 3, 1) := by decide +kernel
theorem dX10_isFact_8 : decode cX10_isFact 8 = .ok (.arraylength, 1) := by decide +kernel
theorem dX10_isFact_9 : decode cX10_isFact 9 = .ok (.istore 4, 2) := by decide +kernel
theorem dX10_isFact_11 : decode cX10_isFact 11 = .ok (.iconst 0, 1) := by decide +kernel
theorem dX10_isFact_12 : decode cX10_isFact 12 = .ok (.istore 5, 2) := by decide +kernel
theorem dX10_isFact_14 : decode cX10_isFact 14 = .ok (.iload 5, 2) := by decide +kernel
theorem dX10_isFact_16 : decode cX10_isFact 16 = .ok (.iload 4, 2) := by decide +kernel
theorem dX10_isFact_18 : decode cX10_isFact 18 = .ok (.if_icmp .ge 26, 3) := by decide +kernel
theorem dX10_isFact_21 : decode cX10_isFact 21 = .ok (.aload_n 3, 1) := by decide +kernel
theorem dX10_isFact_22 : decode cX10_isFact 22 = .ok (.iload 5, 2) := by decide +kernel
theorem dX10_isFact_24 : decode cX10_isFact 24 = .ok (.aaload, 1) := by decide +kernel
theorem dX10_isFact_25 : decode cX10_isFact 25 = .ok (.astore 6, 2) := by decide +kernel
theorem dX10_isFact_27 : decode cX10_isFact 27 = .ok (.aload 6, 2) := by decide +kernel
theorem dX10_isFact_29 : decode cX10_isFact 29 = .ok (.aload_n 2, 1) := by decide +kernel
theorem dX10_isFact_30 : decode cX10_isFact 30 = .ok (.invokestatic 29, 3) := by decide +kernel
theorem dX10_isFact_33 : decode cX10_isFact 33 = .ok (.ifCond .ne 5, 3) := by decide +kernel
theorem dX10_isFact_36 : decode cX10_isFact 36 = .ok (.iconst 1, 1) := by decide +kernel
theorem dX10_isFact_37 : decode cX10_isFact 37 = .ok (.ireturn, 1) := by decide +kernel
theorem dX10_isFact_38 : decode cX10_isFact 38 = .ok (.iinc 5 1, 3) := by decide +kernel
theorem dX10_isFact_41 : decode cX10_isFact 41 = .ok (.goto (-27), 3) := by decide +kernel
theorem dX10_isFact_44 : decode cX10_isFact 44 = .ok (.iconst 0, 1) := by decide +kernel
theorem dX10_isFact_45 : decode cX10_isFact 45 = .ok (.ireturn, 1) := by decide +kernel
theorem dX10_relation_0 : decode cX10_relation 0 = .ok (.aload_n 0, 1) := by decide +kernel
theorem dX10_relation_1 : decode cX10_relation 1 = .ok (.aload_n 0, 1) := by decide +kernel
theorem dX10_relation_2 : decode cX10_relation 2 = .ok (.getfield 7, 3) := by decide +kernel
theorem dX10_relation_5 : decode cX10_relation 5 = .ok (.iload_n 2, 1) := by decide +kernel
theorem dX10_relation_6 : decode cX10_relation 6 = .ok (.invokestatic 33, 3) := by decide +kernel
theorem dX10_relation_9 : decode cX10_relation 9 = .ok (.putfield 7, 3) := by decide +kernel
theorem dX10_relation_12 : decode cX10_relation 12 = .ok (.aload_n 0, 1) := by decide +kernel
theorem dX10_relation_13 : decode cX10_relation 13 = .ok (.getfield 15, 3) := by decide +kernel
theorem dX10_relation_16 : decode cX10_relation 16 = .ok (.arraylength, 1) := by decide +kernel
theorem dX10_relation_17 : decode cX10_relation 17 = .ok (.iconst 1, 1) := by decide +kernel
theorem dX10_relation_18 : decode cX10_relation 18 = .ok (.iadd, 1) := by decide +kernel
theorem dX10_relation_19 : decode cX10_relation 19 = .ok (.anewarray 13, 3) := by decide +kernel
theorem dX10_relation_22 : decode cX10_relation 22 = .ok (.astore_n 3, 1) := by decide +kernel
theorem dX10_relation_23 : decode cX10_relation 23 = .ok (.aload_n 0, 1) := by decide +kernel
theorem dX10_relation_24 : decode cX10_relation 24 = .ok (.getfield 15, 3) := by decide +kernel
theorem dX10_relation_27 : decode cX10_relation 27 = .ok (.iconst 0, 1) := by decide +kernel
theorem dX10_relation_28 : decode cX10_relation 28 = .ok (.aload_n 3, 1) := by decide +kernel
theorem dX10_relation_29 : decode cX10_relation 29 = .ok (.iconst 0, 1) := by decide +kernel
theorem dX10_relation_30 : decode cX10_relation 30 = .ok (.aload_n 0, 1) := by decide +kernel
theorem dX10_relation_31 : decode cX10_relation 31 = .ok (.getfield 15, 3) := by decide +kernel
theorem dX10_relation_34 : decode cX10_relation 34 = .ok (.arraylength, 1) := by decide +kernel
theorem dX10_relation_35 : decode cX10_relation 35 = .ok (.invokestatic 23, 3) := by decide +kernel
theorem dX10_relation_38 : decode cX10_relation 38 = .ok (.aload_n 3, 1) := by decide +kernel
theorem dX10_relation_39 : decode cX10_relation 39 = .ok (.aload_n 0, 1) := by decide +kernel
theorem dX10_relation_40 : decode cX10_relation 40 = .ok (.getfield 15, 3) := by decide +kernel
theorem dX10_relation_43 : decode cX10_relation 43 = .ok (.arraylength, 1) := by decide +kernel
theorem dX10_relation_44 : decode cX10_relation 44 = .ok (.iconst 0, 1) := by decide +kernel
theorem dX10_relation_45 : decode cX10_relation 45 = .ok (.anewarray 19, 3) := by decide +kernel
theorem dX10_relation_48 : decode cX10_relation 48 = .ok (.aastore, 1) := by decide +kernel
theorem dX10_relation_49 : decode cX10_relation 49 = .ok (.aload_n 0, 1) := by decide +kernel
theorem dX10_relation_50 : decode cX10_relation 50 = .ok (.aload_n 3, 1) := by decide +kernel
theorem dX10_relation_51 : decode cX10_relation 51 = .ok (.putfield 15, 3) := by decide +kernel
theorem dX10_relation_54 : decode cX10_relation 54 = .ok (.aload_n 1, 1) := by decide +kernel
theorem dX10_relation_55 : decode cX10_relation 55 = .ok (.iload_n 2, 1) := by decide +kernel
theorem dX10_relation_56 : decode cX10_relation 56 = .ok (.invokevirtual 37, 3) := by decide +kernel
theorem dX10_relation_59 : decode cX10_relation 59 = .ok (.ireturn, 1) := by decide +kernel
theorem dX10_fact_0 : decode cX10_fact 0 = .ok (.iconst 3, 1) := by decide +kernel
theorem dX10_fact_1 : decode cX10_fact 1 = .ok (.newarray .int, 2) := by decide +kernel
theorem dX10_fact_3 : decode cX10_fact 3 = .ok (.dup, 1) := by decide +kernel
theorem dX10_fact_4 : decode cX10_fact 4 = .ok (.iconst 0, 1) := by decide +kernel
theorem dX10_fact_5 : decode cX10_fact 5 = .ok (.iload_n 3, 1) := by decide +kernel
theorem dX10_fact_6 : decode cX10_fact 6 = .ok (.iastore, 1) := by decide +kernel
theorem dX10_fact_7 : decode cX10_fact 7 = .ok (.dup, 1) := by decide +kernel
theorem dX10_fact_8 : decode cX10_fact 8 = .ok (.iconst 1, 1) := by decide +kernel
theorem dX10_fact_9 : decode cX10_fact 9 = .ok (.iload 4, 2) := by decide +kernel
theorem dX10_fact_11 : decode cX10_fact 11 = .ok (.iastore, 1) := by decide +kernel
theorem dX10_fact_12 : decode cX10_fact 12 = .ok (.dup, 1) := by decide +kernel
theorem dX10_fact_13 : decode cX10_fact 13 = .ok (.iconst 2, 1) := by decide +kernel
theorem dX10_fact_14 : decode cX10_fact 14 = .ok (.iload 5, 2) := by decide +kernel
theorem dX10_fact_16 : decode cX10_fact 16 = .ok (.iastore, 1) := by decide +kernel
theorem dX10_fact_17 : decode cX10_fact 17 = .ok (.astore 6, 2) := by decide +kernel
theorem dX10_fact_19 : decode cX10_fact 19 = .ok (.aload_n 0, 1) := by decide +kernel
theorem dX10_fact_20 : decode cX10_fact 20 = .ok (.getfield 7, 3) := by decide +kernel
theorem dX10_fact_23 : decode cX10_fact 23 = .ok (.iload_n 2, 1) := by decide +kernel
theorem dX10_fact_24 : decode cX10_fact 24 = .ok (.iaload, 1) := by decide +kernel
theorem dX10_fact_25 : decode cX10_fact 25 = .ok (.newarray .int, 2) := by decide +kernel
theorem dX10_fact_27 : decode cX10_fact 27 = .ok (.astore 7, 2) := by decide +kernel
theorem dX10_fact_29 : decode cX10_fact 29 = .ok (.aload 6, 2) := by decide +kernel
theorem dX10_fact_31 : decode cX10_fact 31 = .ok (.iconst 0, 1) := by decide +kernel
theorem dX10_fact_32 : decode cX10_fact 32 = .ok (.aload 7, 2) := by decide +kernel
theorem dX10_fact_34 : decode cX10_fact 34 = .ok (.iconst 0, 1) := by decide +kernel
theorem dX10_fact_35 : decode cX10_fact 35 = .ok (.aload 7, 2) := by decide +kernel
theorem dX10_fact_37 : decode cX10_fact 37 = .ok (.arraylength, 1) := by decide +kernel
theorem dX10_fact_38 : decode cX10_fact 38 = .ok (.invokestatic 23, 3) := by decide +kernel
theorem dX10_fact_41 : decode cX10_fact 41 = .ok (.aload_n 0, 1) := by decide +kernel
theorem dX10_fact_42 : decode cX10_fact 42 = .ok (.getfield 15, 3) := by decide +kernel
theorem dX10_fact_45 : decode cX10_fact 45 = .ok (.iload_n 2, 1) := by decide +kernel
theorem dX10_fact_46 : decode cX10_fact 46 = .ok (.aload_n 0, 1) := by decide +kernel
theorem dX10_fact_47 : decode cX10_fact 47 = .ok (.getfield 15, 3) := by decide +kernel
theorem dX10_fact_50 : decode cX10_fact 50 = .ok (.iload_n 2, 1) := by decide +kernel
theorem dX10_fact_51 : decode cX10_fact 51 = .ok (.aaload, 1) := by decide +kernel
theorem dX10_fact_52 : decode cX10_fact 52 = .ok (.aload 7, 2) := by decide +kernel
theorem dX10_fact_54 : decode cX10_fact 54 = .ok (.invokestatic 43, 3) := by decide +kernel
theorem dX10_fact_57 : decode cX10_fact 57 = .ok (.aastore, 1) := by decide +kernel
theorem dX10_fact_58 : decode cX10_fact 58 = .ok (.aload_n 1, 1) := by decide +kernel
theorem dX10_fact_59 : decode cX10_fact 59 = .ok (.iload_n 2, 1) := by decide +kernel
theorem dX10_fact_60 : decode cX10_fact 60 = .ok (.iload_n 3, 1) := by decide +kernel
theorem dX10_fact_61 : decode cX10_fact 61 = .ok (.iload 4, 2) := by decide +kernel
theorem dX10_fact_63 : decode cX10_fact 63 = .ok (.iload 5, 2) := by decide +kernel
theorem dX10_fact_65 : decode cX10_fact 65 = .ok (.invokevirtual 47, 3) := by decide +kernel
theorem dX10_fact_68 : decode cX10_fact 68 = .ok (.ireturn, 1) := by decide +kernel
theorem dX10_parts_0 : decode cX10_parts 0 = .ok (.aload_n 1, 1) := by decide +kernel
theorem dX10_parts_1 : decode cX10_parts 1 = .ok (.iconst 0, 1) := by decide +kernel
theorem dX10_parts_2 : decode cX10_parts 2 = .ok (.iaload, 1) := by decide +kernel
theorem dX10_parts_3 : decode cX10_parts 3 = .ok (.iconst 2, 1) := by decide +kernel
theorem dX10_parts_4 : decode cX10_parts 4 = .ok (.if_icmp .ge 7, 3) := by decide +kernel
theorem dX10_parts_7 : decode cX10_parts 7 = .ok (.iconst 0, 1) := by decide +kernel
theorem dX10_parts_8 : decode cX10_parts 8 = .ok (.goto 22, 3) := by decide +kernel
theorem dX10_parts_11 : decode cX10_parts 11 = .ok (.aload_n 1, 1) := by decide +kernel
theorem dX10_parts_12 : decode cX10_parts 12 = .ok (.iconst 0, 1) := by decide +kernel
theorem dX10_parts_13 : decode cX10_parts 13 = .ok (.iaload, 1) := by decide +kernel
theorem dX10_parts_14 : decode cX10_parts 14 = .ok (.iconst 3, 1) := by decide +kernel
theorem dX10_parts_15 : decode cX10_parts 15 = .ok (.if_icmp .eq 10, 3) := by decide +kernel
theorem dX10_parts_18 : decode cX10_parts 18 = .ok (.aload_n 1, 1) := by decide +kernel
theorem dX10_parts_19 : decode cX10_parts 19 = .ok (.iconst 0, 1) := by decide +kernel
theorem dX10_parts_20 : decode cX10_parts 20 = .ok (.iaload, 1) := by decide +kernel
theorem dX10_parts_21 : decode cX10_parts 21 = .ok (.iconst 4, 1) := by decide +kernel
theorem dX10_parts_22 : decode cX10_parts 22 = .ok (.if_icmp .ne 7, 3) := by decide +kernel
theorem dX10_parts_25 : decode cX10_parts 25 = .ok (.iconst 2, 1) := by decide +kernel
theorem dX10_parts_26 : decode cX10_parts 26 = .ok (.goto 4, 3) := by decide +kernel
theorem dX10_parts_29 : decode cX10_parts 29 = .ok (.iconst 1, 1) := by decide +kernel
theorem dX10_parts_30 : decode cX10_parts 30 = .ok (.ireturn, 1) := by decide +kernel
theorem dX10_terms_0 : decode cX10_terms 0 = .ok (.aload_n 1, 1) := by decide +kernel
theorem dX10_terms_1 : decode cX10_terms 1 = .ok (.iconst 0, 1) := by decide +kernel
theorem dX10_terms_2 : decode cX10_terms 2 = .ok (.iaload, 1) := by decide +kernel
theorem dX10_terms_3 : decode cX10_terms 3 = .ok (.ifCond .ne 14, 3) := by decide +kernel
theorem dX10_terms_6 : decode cX10_terms 6 = .ok (.aload_n 0, 1) := by decide +kernel
theorem dX10_terms_7 : decode cX10_terms 7 = .ok (.getfield 7, 3) := by decide +kernel
theorem dX10_terms_10 : decode cX10_terms 10 = .ok (.aload_n 1, 1) := by decide +kernel
theorem dX10_terms_11 : decode cX10_terms 11 = .ok (.iconst 1, 1) := by decide +kernel
theorem dX10_terms_12 : decode cX10_terms 12 = .ok (.iaload, 1) := by decide +kernel
theorem dX10_terms_13 : decode cX10_terms 13 = .ok (.iaload, 1) := by decide +kernel
theorem dX10_terms_14 : decode cX10_terms 14 = .ok (.goto 15, 3) := by decide +kernel
theorem dX10_terms_17 : decode cX10_terms 17 = .ok (.aload_n 1, 1) := by decide +kernel
theorem dX10_terms_18 : decode cX10_terms 18 = .ok (.iconst 0, 1) := by decide +kernel
theorem dX10_terms_19 : decode cX10_terms 19 = .ok (.iaload, 1) := by decide +kernel
theorem dX10_terms_20 : decode cX10_terms 20 = .ok (.iconst 1, 1) := by decide +kernel
theorem dX10_terms_21 : decode cX10_terms 21 = .ok (.if_icmp .ne 7, 3) := by decide +kernel
theorem dX10_terms_24 : decode cX10_terms 24 = .ok (.iconst 2, 1) := by decide +kernel
theorem dX10_terms_25 : decode cX10_terms 25 = .ok (.goto 4, 3) := by decide +kernel
theorem dX10_terms_28 : decode cX10_terms 28 = .ok (.iconst 0, 1) := by decide +kernel
theorem dX10_terms_29 : decode cX10_terms 29 = .ok (.newarray .int, 2) := by decide +kernel
theorem dX10_terms_31 : decode cX10_terms 31 = .ok (.astore_n 2, 1) := by decide +kernel
theorem dX10_terms_32 : decode cX10_terms 32 = .ok (.aload_n 1, 1) := by decide +kernel
theorem dX10_terms_33 : decode cX10_terms 33 = .ok (.iconst 2, 1) := by decide +kernel
theorem dX10_terms_34 : decode cX10_terms 34 = .ok (.aload_n 2, 1) := by decide +kernel
theorem dX10_terms_35 : decode cX10_terms 35 = .ok (.iconst 0, 1) := by decide +kernel
theorem dX10_terms_36 : decode cX10_terms 36 = .ok (.aload_n 2, 1) := by decide +kernel
theorem dX10_terms_37 : decode cX10_terms 37 = .ok (.arraylength, 1) := by decide +kernel
theorem dX10_terms_38 : decode cX10_terms 38 = .ok (.invokestatic 23, 3) := by decide +kernel
theorem dX10_terms_41 : decode cX10_terms 41 = .ok (.aload_n 2, 1) := by decide +kernel
theorem dX10_terms_42 : decode cX10_terms 42 = .ok (.areturn, 1) := by decide +kernel
theorem dX10_depth_0 : decode cX10_depth 0 = .ok (.aload_n 0, 1) := by decide +kernel
theorem dX10_depth_1 : decode cX10_depth 1 = .ok (.getfield 20, 3) := by decide +kernel
theorem dX10_depth_4 : decode cX10_depth 4 = .ok (.iload_n 1, 1) := by decide +kernel
theorem dX10_depth_5 : decode cX10_depth 5 = .ok (.aaload, 1) := by decide +kernel
theorem dX10_depth_6 : decode cX10_depth 6 = .ok (.astore_n 2, 1) := by decide +kernel
theorem dX10_depth_7 : decode cX10_depth 7 = .ok (.iconst 0, 1) := by decide +kernel
theorem dX10_depth_8 : decode cX10_depth 8 = .ok (.istore_n 3, 1) := by decide +kernel
theorem dX10_depth_9 : decode cX10_depth 9 = .ok (.iconst 0, 1) := by decide +kernel
theorem dX10_depth_10 : decode cX10_depth 10 = .ok (.istore 4, 2) := by decide +kernel
theorem dX10_depth_12 : decode cX10_depth 12 = .ok (.iload 4, 2) := by decide +kernel
theorem dX10_depth_14 : decode cX10_depth 14 = .ok (.aload_n 0, 1) := by decide +kernel
theorem dX10_depth_15 : decode cX10_depth 15 = .ok (.aload_n 2, 1) := by decide +kernel
theorem dX10_depth_16 : decode cX10_depth 16 = .ok (.invokevirtual 55, 3) := by decide +kernel
theorem dX10_depth_19 : decode cX10_depth 19 = .ok (.if_icmp .ge 24, 3) := by decide +kernel
theorem dX10_depth_22 : decode cX10_depth 22 = .ok (.iload_n 3, 1) := by decide +kernel
theorem dX10_depth_23 : decode cX10_depth 23 = .ok (.aload_n 0, 1) := by decide +kernel
theorem dX10_depth_24 : decode cX10_depth 24 = .ok (.aload_n 2, 1) := by decide +kernel
theorem dX10_depth_25 : decode cX10_depth 25 = .ok (.iconst 5, 1) := by decide +kernel
theorem dX10_depth_26 : decode cX10_depth 26 = .ok (.iload 4, 2) := by decide +kernel
theorem dX10_depth_28 : decode cX10_depth 28 = .ok (.iadd, 1) := by decide +kernel
theorem dX10_depth_29 : decode cX10_depth 29 = .ok (.iaload, 1) := by decide +kernel
theorem dX10_depth_30 : decode cX10_depth 30 = .ok (.invokevirtual 62, 3) := by decide +kernel
theorem dX10_depth_33 : decode cX10_depth 33 = .ok (.invokestatic 65, 3) := by decide +kernel
theorem dX10_depth_36 : decode cX10_depth 36 = .ok (.istore_n 3, 1) := by decide +kernel
theorem dX10_depth_37 : decode cX10_depth 37 = .ok (.iinc 4 1, 3) := by decide +kernel
theorem dX10_depth_40 : decode cX10_depth 40 = .ok (.goto (-28), 3) := by decide +kernel
theorem dX10_depth_43 : decode cX10_depth 43 = .ok (.aload_n 2, 1) := by decide +kernel
theorem dX10_depth_44 : decode cX10_depth 44 = .ok (.iconst 0, 1) := by decide +kernel
theorem dX10_depth_45 : decode cX10_depth 45 = .ok (.iaload, 1) := by decide +kernel
theorem dX10_depth_46 : decode cX10_depth 46 = .ok (.iconst 4, 1) := by decide +kernel
theorem dX10_depth_47 : decode cX10_depth 47 = .ok (.if_icmp .le 9, 3) := by decide +kernel
theorem dX10_depth_50 : decode cX10_depth 50 = .ok (.iload_n 3, 1) := by decide +kernel
theorem dX10_depth_51 : decode cX10_depth 51 = .ok (.iconst 1, 1) := by decide +kernel
theorem dX10_depth_52 : decode cX10_depth 52 = .ok (.iadd, 1) := by decide +kernel
theorem dX10_depth_53 : decode cX10_depth 53 = .ok (.goto 4, 3) := by decide +kernel
theorem dX10_depth_56 : decode cX10_depth 56 = .ok (.iload_n 3, 1) := by decide +kernel
theorem dX10_depth_57 : decode cX10_depth 57 = .ok (.ireturn, 1) := by decide +kernel
theorem dX10_length_0 : decode cX10_length 0 = .ok (.aload_n 0, 1) := by decide +kernel
theorem dX10_length_1 : decode cX10_length 1 = .ok (.getfield 20, 3) := by decide +kernel
theorem dX10_length_4 : decode cX10_length 4 = .ok (.iload_n 1, 1) := by decide +kernel
theorem dX10_length_5 : decode cX10_length 5 = .ok (.aaload, 1) := by decide +kernel
theorem dX10_length_6 : decode cX10_length 6 = .ok (.astore_n 2, 1) := by decide +kernel
theorem dX10_length_7 : decode cX10_length 7 = .ok (.iconst 1, 1) := by decide +kernel
theorem dX10_length_8 : decode cX10_length 8 = .ok (.istore_n 3, 1) := by decide +kernel
theorem dX10_length_9 : decode cX10_length 9 = .ok (.iconst 0, 1) := by decide +kernel
theorem dX10_length_10 : decode cX10_length 10 = .ok (.istore 4, 2) := by decide +kernel
theorem dX10_length_12 : decode cX10_length 12 = .ok (.iload 4, 2) := by decide +kernel
theorem dX10_length_14 : decode cX10_length 14 = .ok (.aload_n 0, 1) := by decide +kernel
theorem dX10_length_15 : decode cX10_length 15 = .ok (.aload_n 2, 1) := by decide +kernel
theorem dX10_length_16 : decode cX10_length 16 = .ok (.invokevirtual 55, 3) := by decide +kernel
theorem dX10_length_19 : decode cX10_length 19 = .ok (.if_icmp .ge 22, 3) := by decide +kernel
theorem dX10_length_22 : decode cX10_length 22 = .ok (.iload_n 3, 1) := by decide +kernel
theorem dX10_length_23 : decode cX10_length 23 = .ok (.aload_n 0, 1) := by decide +kernel
theorem dX10_length_24 : decode cX10_length 24 = .ok (.aload_n 2, 1) := by decide +kernel
theorem dX10_length_25 : decode cX10_length 25 = .ok (.iconst 5, 1) := by decide +kernel
theorem dX10_length_26 : decode cX10_length 26 = .ok (.iload 4, 2) := by decide +kernel
theorem dX10_length_28 : decode cX10_length 28 = .ok (.iadd, 1) := by decide +kernel
theorem dX10_length_29 : decode cX10_length 29 = .ok (.iaload, 1) := by decide +kernel
theorem dX10_length_30 : decode cX10_length 30 = .ok (.invokevirtual 71, 3) := by decide +kernel
theorem dX10_length_33 : decode cX10_length 33 = .ok (.iadd, 1) := by decide +kernel
theorem dX10_length_34 : decode cX10_length 34 = .ok (.istore_n 3, 1) := by decide +kernel
theorem dX10_length_35 : decode cX10_length 35 = .ok (.iinc 4 1, 3) := by decide +kernel
theorem dX10_length_38 : decode cX10_length 38 = .ok (.goto (-26), 3) := by decide +kernel
theorem dX10_length_41 : decode cX10_length 41 = .ok (.iload_n 3, 1) := by decide +kernel
theorem dX10_length_42 : decode cX10_length 42 = .ok (.ireturn, 1) := by decide +kernel
theorem dX10_holds_0 : decode cX10_holds 0 = .ok (.aload_n 0, 1) := by decide +kernel
theorem dX10_holds_1 : decode cX10_holds 1 = .ok (.getfield 20, 3) := by decide +kernel
theorem dX10_holds_4 : decode cX10_holds 4 = .ok (.iload_n 1, 1) := by decide +kernel
theorem dX10_holds_5 : decode cX10_holds 5 = .ok (.aaload, 1) := by decide +kernel
theorem dX10_holds_6 : decode cX10_holds 6 = .ok (.astore 4, 2) := by decide +kernel
theorem dX10_holds_8 : decode cX10_holds 8 = .ok (.aload 4, 2) := by decide +kernel
theorem dX10_holds_10 : decode cX10_holds 10 = .ok (.iconst 0, 1) := by decide +kernel
theorem dX10_holds_11 : decode cX10_holds 11 = .ok (.iaload, 1) := by decide +kernel
theorem dX10_holds_12 : decode cX10_holds 12 = .ok (.iconst 2, 1) := by decide +kernel
theorem dX10_holds_13 : decode cX10_holds 13 = .ok (.if_icmp .ge 98, 3) := by decide +kernel
theorem dX10_holds_16 : decode cX10_holds 16 = .ok (.aload_n 0, 1) := by decide +kernel
theorem dX10_holds_17 : decode cX10_holds 17 = .ok (.aload 4, 2) := by decide +kernel
theorem dX10_holds_19 : decode cX10_holds 19 = .ok (.invokevirtual 51, 3) := by decide +kernel
theorem dX10_holds_22 : decode cX10_holds 22 = .ok (.astore 5, 2) := by decide +kernel
theorem dX10_holds_24 : decode cX10_holds 24 = .ok (.iconst 0, 1) := by decide +kernel
theorem dX10_holds_25 : decode cX10_holds 25 = .ok (.istore 6, 2) := by decide +kernel
theorem dX10_holds_27 : decode cX10_holds 27 = .ok (.iload 6, 2) := by decide +kernel
theorem dX10_holds_29 : decode cX10_holds 29 = .ok (.aload 5, 2) := by decide +kernel
theorem dX10_holds_31 : decode cX10_holds 31 = .ok (.arraylength, 1) := by decide +kernel
theorem dX10_holds_32 : decode cX10_holds 32 = .ok (.if_icmp .ge 42, 3) := by decide +kernel
theorem dX10_holds_35 : decode cX10_holds 35 = .ok (.aload 5, 2) := by decide +kernel
theorem dX10_holds_37 : decode cX10_holds 37 = .ok (.iload 6, 2) := by decide +kernel
theorem dX10_holds_39 : decode cX10_holds 39 = .ok (.aload 5, 2) := by decide +kernel
theorem dX10_holds_41 : decode cX10_holds 41 = .ok (.iload 6, 2) := by decide +kernel
theorem dX10_holds_43 : decode cX10_holds 43 = .ok (.iaload, 1) := by decide +kernel
theorem dX10_holds_44 : decode cX10_holds 44 = .ok (.bipush 6, 2) := by decide +kernel
theorem dX10_holds_46 : decode cX10_holds 46 = .ok (.if_icmp .ge 13, 3) := by decide +kernel
theorem dX10_holds_49 : decode cX10_holds 49 = .ok (.aload_n 2, 1) := by decide +kernel
theorem dX10_holds_50 : decode cX10_holds 50 = .ok (.aload 5, 2) := by decide +kernel
theorem dX10_holds_52 : decode cX10_holds 52 = .ok (.iload 6, 2) := by decide +kernel
theorem dX10_holds_54 : decode cX10_holds 54 = .ok (.iaload, 1) := by decide +kernel
theorem dX10_holds_55 : decode cX10_holds 55 = .ok (.iaload, 1) := by decide +kernel
theorem dX10_holds_56 : decode cX10_holds 56 = .ok (.goto 11, 3) := by decide +kernel
theorem dX10_holds_59 : decode cX10_holds 59 = .ok (.aload 5, 2) := by decide +kernel
theorem dX10_holds_61 : decode cX10_holds 61 = .ok (.iload 6, 2) := by decide +kernel
theorem dX10_holds_63 : decode cX10_holds 63 = .ok (.iaload, 1) := by decide +kernel
theorem dX10_holds_64 : decode cX10_holds 64 = .ok (.bipush 10, 2) := by decide +kernel
theorem dX10_holds_66 : decode cX10_holds 66 = .ok (.isub, 1) := by decide +kernel
theorem dX10_holds_67 : decode cX10_holds 67 = .ok (.iastore, 1) := by decide +kernel
theorem dX10_holds_68 : decode cX10_holds 68 = .ok (.iinc 6 1, 3) := by decide +kernel
theorem dX10_holds_71 : decode cX10_holds 71 = .ok (.goto (-44), 3) := by decide +kernel
theorem dX10_holds_74 : decode cX10_holds 74 = .ok (.aload 4, 2) := by decide +kernel
theorem dX10_holds_76 : decode cX10_holds 76 = .ok (.iconst 0, 1) := by decide +kernel
theorem dX10_holds_77 : decode cX10_holds 77 = .ok (.iaload, 1) := by decide +kernel
theorem dX10_holds_78 : decode cX10_holds 78 = .ok (.ifCond .ne 16, 3) := by decide +kernel
theorem dX10_holds_81 : decode cX10_holds 81 = .ok (.aload_n 0, 1) := by decide +kernel
theorem dX10_holds_82 : decode cX10_holds 82 = .ok (.aload 4, 2) := by decide +kernel
theorem dX10_holds_84 : decode cX10_holds 84 = .ok (.iconst 1, 1) := by decide +kernel
theorem dX10_holds_85 : decode cX10_holds 85 = .ok (.iaload, 1) := by decide +kernel
theorem dX10_holds_86 : decode cX10_holds 86 = .ok (.aload 5, 2) := by decide +kernel
theorem dX10_holds_88 : decode cX10_holds 88 = .ok (.invokevirtual 84, 3) := by decide +kernel
theorem dX10_holds_91 : decode cX10_holds 91 = .ok (.goto 19, 3) := by decide +kernel
theorem dX10_holds_94 : decode cX10_holds 94 = .ok (.aload 5, 2) := by decide +kernel
theorem dX10_holds_96 : decode cX10_holds 96 = .ok (.iconst 0, 1) := by decide +kernel
theorem dX10_holds_97 : decode cX10_holds 97 = .ok (.iaload, 1) := by decide +kernel
theorem dX10_holds_98 : decode cX10_holds 98 = .ok (.aload 5, 2) := by decide +kernel
theorem dX10_holds_100 : decode cX10_holds 100 = .ok (.iconst 1, 1) := by decide +kernel
theorem dX10_holds_101 : decode cX10_holds 101 = .ok (.iaload, 1) := by decide +kernel
theorem dX10_holds_102 : decode cX10_holds 102 = .ok (.if_icmp .ne 7, 3) := by decide +kernel
theorem dX10_holds_105 : decode cX10_holds 105 = .ok (.iconst 1, 1) := by decide +kernel
theorem dX10_holds_106 : decode cX10_holds 106 = .ok (.goto 4, 3) := by decide +kernel
theorem dX10_holds_109 : decode cX10_holds 109 = .ok (.iconst 0, 1) := by decide +kernel
theorem dX10_holds_110 : decode cX10_holds 110 = .ok (.ireturn, 1) := by decide +kernel
theorem dX10_holds_111 : decode cX10_holds 111 = .ok (.aload 4, 2) := by decide +kernel
theorem dX10_holds_113 : decode cX10_holds 113 = .ok (.iconst 0, 1) := by decide +kernel
theorem dX10_holds_114 : decode cX10_holds 114 = .ok (.iaload, 1) := by decide +kernel
theorem dX10_holds_115 : decode cX10_holds 115 = .ok (.iconst 2, 1) := by decide +kernel
theorem dX10_holds_116 : decode cX10_holds 116 = .ok (.if_icmp .ne 22, 3) := by decide +kernel
theorem dX10_holds_119 : decode cX10_holds 119 = .ok (.aload_n 0, 1) := by decide +kernel
theorem dX10_holds_120 : decode cX10_holds 120 = .ok (.aload 4, 2) := by decide +kernel
theorem dX10_holds_122 : decode cX10_holds 122 = .ok (.iconst 5, 1) := by decide +kernel
theorem dX10_holds_123 : decode cX10_holds 123 = .ok (.iaload, 1) := by decide +kernel
theorem dX10_holds_124 : decode cX10_holds 124 = .ok (.aload_n 2, 1) := by decide +kernel
theorem dX10_holds_125 : decode cX10_holds 125 = .ok (.iload_n 3, 1) := by decide +kernel
theorem dX10_holds_126 : decode cX10_holds 126 = .ok (.invokevirtual 88, 3) := by decide +kernel
theorem dX10_holds_129 : decode cX10_holds 129 = .ok (.ifCond .ne 7, 3) := by decide +kernel
theorem dX10_holds_132 : decode cX10_holds 132 = .ok (.iconst 1, 1) := by decide +kernel
theorem dX10_holds_133 : decode cX10_holds 133 = .ok (.goto 4, 3) := by decide +kernel
theorem dX10_holds_136 : decode cX10_holds 136 = .ok (.iconst 0, 1) := by decide +kernel
theorem dX10_holds_137 : decode cX10_holds 137 = .ok (.ireturn, 1) := by decide +kernel
theorem dX10_holds_138 : decode cX10_holds 138 = .ok (.aload 4, 2) := by decide +kernel
theorem dX10_holds_140 : decode cX10_holds 140 = .ok (.iconst 0, 1) := by decide +kernel
theorem dX10_holds_141 : decode cX10_holds 141 = .ok (.iaload, 1) := by decide +kernel
theorem dX10_holds_142 : decode cX10_holds 142 = .ok (.iconst 5, 1) := by decide +kernel
theorem dX10_holds_143 : decode cX10_holds 143 = .ok (.if_icmp .ge 50, 3) := by decide +kernel
theorem dX10_holds_146 : decode cX10_holds 146 = .ok (.aload_n 0, 1) := by decide +kernel
theorem dX10_holds_147 : decode cX10_holds 147 = .ok (.aload 4, 2) := by decide +kernel
theorem dX10_holds_149 : decode cX10_holds 149 = .ok (.iconst 5, 1) := by decide +kernel
theorem dX10_holds_150 : decode cX10_holds 150 = .ok (.iaload, 1) := by decide +kernel
theorem dX10_holds_151 : decode cX10_holds 151 = .ok (.aload_n 2, 1) := by decide +kernel
theorem dX10_holds_152 : decode cX10_holds 152 = .ok (.iload_n 3, 1) := by decide +kernel
theorem dX10_holds_153 : decode cX10_holds 153 = .ok (.invokevirtual 88, 3) := by decide +kernel
theorem dX10_holds_156 : decode cX10_holds 156 = .ok (.istore 5, 2) := by decide +kernel
theorem dX10_holds_158 : decode cX10_holds 158 = .ok (.aload_n 0, 1) := by decide +kernel
theorem dX10_holds_159 : decode cX10_holds 159 = .ok (.aload 4, 2) := by decide +kernel
theorem dX10_holds_161 : decode cX10_holds 161 = .ok (.bipush 6, 2) := by decide +kernel
theorem dX10_holds_163 : decode cX10_holds 163 = .ok (.iaload, 1) := by decide +kernel
theorem dX10_holds_164 : decode cX10_holds 164 = .ok (.aload_n 2, 1) := by decide +kernel
theorem dX10_holds_165 : decode cX10_holds 165 = .ok (.iload_n 3, 1) := by decide +kernel
theorem dX10_holds_166 : decode cX10_holds 166 = .ok (.invokevirtual 88, 3) := by decide +kernel
theorem dX10_holds_169 : decode cX10_holds 169 = .ok (.istore 6, 2) := by decide +kernel
theorem dX10_holds_171 : decode cX10_holds 171 = .ok (.aload 4, 2) := by decide +kernel
theorem dX10_holds_173 : decode cX10_holds 173 = .ok (.iconst 0, 1) := by decide +kernel
theorem dX10_holds_174 : decode cX10_holds 174 = .ok (.iaload, 1) := by decide +kernel
theorem dX10_holds_175 : decode cX10_holds 175 = .ok (.iconst 3, 1) := by decide +kernel
theorem dX10_holds_176 : decode cX10_holds 176 = .ok (.if_icmp .ne 11, 3) := by decide +kernel
theorem dX10_holds_179 : decode cX10_holds 179 = .ok (.iload 5, 2) := by decide +kernel
theorem dX10_holds_181 : decode cX10_holds 181 = .ok (.iload 6, 2) := by decide +kernel
theorem dX10_holds_183 : decode cX10_holds 183 = .ok (.iand, 1) := by decide +kernel
theorem dX10_holds_184 : decode cX10_holds 184 = .ok (.goto 8, 3) := by decide +kernel
theorem dX10_holds_187 : decode cX10_holds 187 = .ok (.iload 5, 2) := by decide +kernel
theorem dX10_holds_189 : decode cX10_holds 189 = .ok (.iload 6, 2) := by decide +kernel
theorem dX10_holds_191 : decode cX10_holds 191 = .ok (.ior, 1) := by decide +kernel
theorem dX10_holds_192 : decode cX10_holds 192 = .ok (.ireturn, 1) := by decide +kernel
theorem dX10_holds_193 : decode cX10_holds 193 = .ok (.aload_n 2, 1) := by decide +kernel
theorem dX10_holds_194 : decode cX10_holds 194 = .ok (.aload 4, 2) := by decide +kernel
theorem dX10_holds_196 : decode cX10_holds 196 = .ok (.bipush 7, 2) := by decide +kernel
theorem dX10_holds_198 : decode cX10_holds 198 = .ok (.iaload, 1) := by decide +kernel
theorem dX10_holds_199 : decode cX10_holds 199 = .ok (.iaload, 1) := by decide +kernel
theorem dX10_holds_200 : decode cX10_holds 200 = .ok (.istore 5, 2) := by decide +kernel
theorem dX10_holds_202 : decode cX10_holds 202 = .ok (.iconst 0, 1) := by decide +kernel
theorem dX10_holds_203 : decode cX10_holds 203 = .ok (.istore 6, 2) := by decide +kernel
theorem dX10_holds_205 : decode cX10_holds 205 = .ok (.iconst 0, 1) := by decide +kernel
theorem dX10_holds_206 : decode cX10_holds 206 = .ok (.istore 7, 2) := by decide +kernel
theorem dX10_holds_208 : decode cX10_holds 208 = .ok (.iconst 0, 1) := by decide +kernel
theorem dX10_holds_209 : decode cX10_holds 209 = .ok (.istore 8, 2) := by decide +kernel
theorem dX10_holds_211 : decode cX10_holds 211 = .ok (.iload 8, 2) := by decide +kernel
theorem dX10_holds_213 : decode cX10_holds 213 = .ok (.bipush 8, 2) := by decide +kernel
theorem dX10_holds_215 : decode cX10_holds 215 = .ok (.if_icmp .ge 52, 3) := by decide +kernel
theorem dX10_holds_218 : decode cX10_holds 218 = .ok (.iload_n 3, 1) := by decide +kernel
theorem dX10_holds_219 : decode cX10_holds 219 = .ok (.iload 8, 2) := by decide +kernel
theorem dX10_holds_221 : decode cX10_holds 221 = .ok (.ishr, 1) := by decide +kernel
theorem dX10_holds_222 : decode cX10_holds 222 = .ok (.iconst 1, 1) := by decide +kernel
theorem dX10_holds_223 : decode cX10_holds 223 = .ok (.iand, 1) := by decide +kernel
theorem dX10_holds_224 : decode cX10_holds 224 = .ok (.ifCond .ne 6, 3) := by decide +kernel
theorem dX10_holds_227 : decode cX10_holds 227 = .ok (.goto 34, 3) := by decide +kernel
theorem dX10_holds_230 : decode cX10_holds 230 = .ok (.aload_n 2, 1) := by decide +kernel
theorem dX10_holds_231 : decode cX10_holds 231 = .ok (.aload 4, 2) := by decide +kernel
theorem dX10_holds_233 : decode cX10_holds 233 = .ok (.bipush 7, 2) := by decide +kernel
theorem dX10_holds_235 : decode cX10_holds 235 = .ok (.iaload, 1) := by decide +kernel
theorem dX10_holds_236 : decode cX10_holds 236 = .ok (.iload 8, 2) := by decide +kernel
theorem dX10_holds_238 : decode cX10_holds 238 = .ok (.iastore, 1) := by decide +kernel
theorem dX10_holds_239 : decode cX10_holds 239 = .ok (.aload_n 0, 1) := by decide +kernel
theorem dX10_holds_240 : decode cX10_holds 240 = .ok (.aload 4, 2) := by decide +kernel
theorem dX10_holds_242 : decode cX10_holds 242 = .ok (.iconst 5, 1) := by decide +kernel
theorem dX10_holds_243 : decode cX10_holds 243 = .ok (.iaload, 1) := by decide +kernel
theorem dX10_holds_244 : decode cX10_holds 244 = .ok (.aload_n 2, 1) := by decide +kernel
theorem dX10_holds_245 : decode cX10_holds 245 = .ok (.iload_n 3, 1) := by decide +kernel
theorem dX10_holds_246 : decode cX10_holds 246 = .ok (.invokevirtual 88, 3) := by decide +kernel
theorem dX10_holds_249 : decode cX10_holds 249 = .ok (.ifCond .eq 9, 3) := by decide +kernel
theorem dX10_holds_252 : decode cX10_holds 252 = .ok (.iinc 6 1, 3) := by decide +kernel
theorem dX10_holds_255 : decode cX10_holds 255 = .ok (.goto 6, 3) := by decide +kernel
theorem dX10_holds_258 : decode cX10_holds 258 = .ok (.iinc 7 1, 3) := by decide +kernel
theorem dX10_holds_261 : decode cX10_holds 261 = .ok (.iinc 8 1, 3) := by decide +kernel
theorem dX10_holds_264 : decode cX10_holds 264 = .ok (.goto (-53), 3) := by decide +kernel
theorem dX10_holds_267 : decode cX10_holds 267 = .ok (.aload_n 2, 1) := by decide +kernel
theorem dX10_holds_268 : decode cX10_holds 268 = .ok (.aload 4, 2) := by decide +kernel
theorem dX10_holds_270 : decode cX10_holds 270 = .ok (.bipush 7, 2) := by decide +kernel
theorem dX10_holds_272 : decode cX10_holds 272 = .ok (.iaload, 1) := by decide +kernel
theorem dX10_holds_273 : decode cX10_holds 273 = .ok (.iload 5, 2) := by decide +kernel
theorem dX10_holds_275 : decode cX10_holds 275 = .ok (.iastore, 1) := by decide +kernel
theorem dX10_holds_276 : decode cX10_holds 276 = .ok (.aload 4, 2) := by decide +kernel
theorem dX10_holds_278 : decode cX10_holds 278 = .ok (.iconst 0, 1) := by decide +kernel
theorem dX10_holds_279 : decode cX10_holds 279 = .ok (.iaload, 1) := by decide +kernel
theorem dX10_holds_280 : decode cX10_holds 280 = .ok (.iconst 5, 1) := by decide +kernel
theorem dX10_holds_281 : decode cX10_holds 281 = .ok (.if_icmp .ne 16, 3) := by decide +kernel
theorem dX10_holds_284 : decode cX10_holds 284 = .ok (.iload 6, 2) := by decide +kernel
theorem dX10_holds_286 : decode cX10_holds 286 = .ok (.ifCond .le 7, 3) := by decide +kernel
theorem dX10_holds_289 : decode cX10_holds 289 = .ok (.iconst 1, 1) := by decide +kernel
theorem dX10_holds_290 : decode cX10_holds 290 = .ok (.goto 17, 3) := by decide +kernel
theorem dX10_holds_293 : decode cX10_holds 293 = .ok (.iconst 0, 1) := by decide +kernel
theorem dX10_holds_294 : decode cX10_holds 294 = .ok (.goto 13, 3) := by decide +kernel
theorem dX10_holds_297 : decode cX10_holds 297 = .ok (.iload 7, 2) := by decide +kernel
theorem dX10_holds_299 : decode cX10_holds 299 = .ok (.ifCond .ne 7, 3) := by decide +kernel
theorem dX10_holds_302 : decode cX10_holds 302 = .ok (.iconst 1, 1) := by decide +kernel
theorem dX10_holds_303 : decode cX10_holds 303 = .ok (.goto 4, 3) := by decide +kernel
theorem dX10_holds_306 : decode cX10_holds 306 = .ok (.iconst 0, 1) := by decide +kernel
theorem dX10_holds_307 : decode cX10_holds 307 = .ok (.ireturn, 1) := by decide +kernel
theorem dX10_add_0 : decode cX10_add 0 = .ok (.aload_n 0, 1) := by decide +kernel
theorem dX10_add_1 : decode cX10_add 1 = .ok (.aload_n 0, 1) := by decide +kernel
theorem dX10_add_2 : decode cX10_add 2 = .ok (.getfield 20, 3) := by decide +kernel
theorem dX10_add_5 : decode cX10_add 5 = .ok (.aload_n 2, 1) := by decide +kernel
theorem dX10_add_6 : decode cX10_add 6 = .ok (.invokestatic 95, 3) := by decide +kernel
theorem dX10_add_9 : decode cX10_add 9 = .ok (.putfield 20, 3) := by decide +kernel
theorem dX10_add_12 : decode cX10_add 12 = .ok (.aload_n 2, 1) := by decide +kernel
theorem dX10_add_13 : decode cX10_add 13 = .ok (.iconst 0, 1) := by decide +kernel
theorem dX10_add_14 : decode cX10_add 14 = .ok (.iaload, 1) := by decide +kernel
theorem dX10_add_15 : decode cX10_add 15 = .ok (.tableswitch 93 0 4 #[33, 50, 61, 69, 69], 33) := by decide +kernel
theorem dX10_add_48 : decode cX10_add 48 = .ok (.aload_n 1, 1) := by decide +kernel
theorem dX10_add_49 : decode cX10_add 49 = .ok (.aload_n 2, 1) := by decide +kernel
theorem dX10_add_50 : decode cX10_add 50 = .ok (.iconst 1, 1) := by decide +kernel
theorem dX10_add_51 : decode cX10_add 51 = .ok (.iaload, 1) := by decide +kernel
theorem dX10_add_52 : decode cX10_add 52 = .ok (.aload_n 2, 1) := by decide +kernel
theorem dX10_add_53 : decode cX10_add 53 = .ok (.iconst 2, 1) := by decide +kernel
theorem dX10_add_54 : decode cX10_add 54 = .ok (.iaload, 1) := by decide +kernel
theorem dX10_add_55 : decode cX10_add 55 = .ok (.aload_n 2, 1) := by decide +kernel
theorem dX10_add_56 : decode cX10_add 56 = .ok (.iconst 3, 1) := by decide +kernel
theorem dX10_add_57 : decode cX10_add 57 = .ok (.iaload, 1) := by decide +kernel
theorem dX10_add_58 : decode cX10_add 58 = .ok (.aload_n 2, 1) := by decide +kernel
theorem dX10_add_59 : decode cX10_add 59 = .ok (.iconst 4, 1) := by decide +kernel
theorem dX10_add_60 : decode cX10_add 60 = .ok (.iaload, 1) := by decide +kernel
theorem dX10_add_61 : decode cX10_add 61 = .ok (.invokevirtual 97, 3) := by decide +kernel
theorem dX10_add_64 : decode cX10_add 64 = .ok (.ireturn, 1) := by decide +kernel
theorem dX10_add_65 : decode cX10_add 65 = .ok (.aload_n 1, 1) := by decide +kernel
theorem dX10_add_66 : decode cX10_add 66 = .ok (.aload_n 2, 1) := by decide +kernel
theorem dX10_add_67 : decode cX10_add 67 = .ok (.iconst 2, 1) := by decide +kernel
theorem dX10_add_68 : decode cX10_add 68 = .ok (.iaload, 1) := by decide +kernel
theorem dX10_add_69 : decode cX10_add 69 = .ok (.aload_n 2, 1) := by decide +kernel
theorem dX10_add_70 : decode cX10_add 70 = .ok (.iconst 3, 1) := by decide +kernel
theorem dX10_add_71 : decode cX10_add 71 = .ok (.iaload, 1) := by decide +kernel
theorem dX10_add_72 : decode cX10_add 72 = .ok (.invokevirtual 100, 3) := by decide +kernel
theorem dX10_add_75 : decode cX10_add 75 = .ok (.ireturn, 1) := by decide +kernel
theorem dX10_add_76 : decode cX10_add 76 = .ok (.aload_n 1, 1) := by decide +kernel
theorem dX10_add_77 : decode cX10_add 77 = .ok (.aload_n 2, 1) := by decide +kernel
theorem dX10_add_78 : decode cX10_add 78 = .ok (.iconst 5, 1) := by decide +kernel
theorem dX10_add_79 : decode cX10_add 79 = .ok (.iaload, 1) := by decide +kernel
theorem dX10_add_80 : decode cX10_add 80 = .ok (.invokevirtual 103, 3) := by decide +kernel
theorem dX10_add_83 : decode cX10_add 83 = .ok (.ireturn, 1) := by decide +kernel
theorem dX10_add_84 : decode cX10_add 84 = .ok (.aload_n 1, 1) := by decide +kernel
theorem dX10_add_85 : decode cX10_add 85 = .ok (.aload_n 2, 1) := by decide +kernel
theorem dX10_add_86 : decode cX10_add 86 = .ok (.iconst 0, 1) := by decide +kernel
theorem dX10_add_87 : decode cX10_add 87 = .ok (.iaload, 1) := by decide +kernel
theorem dX10_add_88 : decode cX10_add 88 = .ok (.iconst 3, 1) := by decide +kernel
theorem dX10_add_89 : decode cX10_add 89 = .ok (.if_icmp .ne 7, 3) := by decide +kernel
theorem dX10_add_92 : decode cX10_add 92 = .ok (.iconst 1, 1) := by decide +kernel
theorem dX10_add_93 : decode cX10_add 93 = .ok (.goto 4, 3) := by decide +kernel
theorem dX10_add_96 : decode cX10_add 96 = .ok (.iconst 0, 1) := by decide +kernel
theorem dX10_add_97 : decode cX10_add 97 = .ok (.aload_n 2, 1) := by decide +kernel
theorem dX10_add_98 : decode cX10_add 98 = .ok (.iconst 5, 1) := by decide +kernel
theorem dX10_add_99 : decode cX10_add 99 = .ok (.iaload, 1) := by decide +kernel
theorem dX10_add_100 : decode cX10_add 100 = .ok (.aload_n 2, 1) := by decide +kernel
theorem dX10_add_101 : decode cX10_add 101 = .ok (.bipush 6, 2) := by decide +kernel
theorem dX10_add_103 : decode cX10_add 103 = .ok (.iaload, 1) := by decide +kernel
theorem dX10_add_104 : decode cX10_add 104 = .ok (.invokevirtual 106, 3) := by decide +kernel
theorem dX10_add_107 : decode cX10_add 107 = .ok (.ireturn, 1) := by decide +kernel
theorem dX10_add_108 : decode cX10_add 108 = .ok (.aload_n 1, 1) := by decide +kernel
theorem dX10_add_109 : decode cX10_add 109 = .ok (.aload_n 2, 1) := by decide +kernel
theorem dX10_add_110 : decode cX10_add 110 = .ok (.iconst 0, 1) := by decide +kernel
theorem dX10_add_111 : decode cX10_add 111 = .ok (.iaload, 1) := by decide +kernel
theorem dX10_add_112 : decode cX10_add 112 = .ok (.iconst 5, 1) := by decide +kernel
theorem dX10_add_113 : decode cX10_add 113 = .ok (.if_icmp .ne 7, 3) := by decide +kernel
theorem dX10_add_116 : decode cX10_add 116 = .ok (.iconst 1, 1) := by decide +kernel
theorem dX10_add_117 : decode cX10_add 117 = .ok (.goto 4, 3) := by decide +kernel
theorem dX10_add_120 : decode cX10_add 120 = .ok (.iconst 0, 1) := by decide +kernel
theorem dX10_add_121 : decode cX10_add 121 = .ok (.aload_n 2, 1) := by decide +kernel
theorem dX10_add_122 : decode cX10_add 122 = .ok (.bipush 7, 2) := by decide +kernel
theorem dX10_add_124 : decode cX10_add 124 = .ok (.iaload, 1) := by decide +kernel
theorem dX10_add_125 : decode cX10_add 125 = .ok (.aload_n 2, 1) := by decide +kernel
theorem dX10_add_126 : decode cX10_add 126 = .ok (.iconst 5, 1) := by decide +kernel
theorem dX10_add_127 : decode cX10_add 127 = .ok (.iaload, 1) := by decide +kernel
theorem dX10_add_128 : decode cX10_add 128 = .ok (.invokevirtual 110, 3) := by decide +kernel
theorem dX10_add_131 : decode cX10_add 131 = .ok (.ireturn, 1) := by decide +kernel
/-! the law's numbers; the loom's rows -/
def blw (v : Int32) (n : Nat) : Nat := v.toBitVec.toNat % 2 ^ 31 % n
theorem blw_lt (v : Int32) {n : Nat} (h : 0 < n) : blw v n < n := Nat.mod_lt _ h
def cel (xs : Nat → Int32) (L k : Nat) : Int32 := if k < L then xs k else 790386105 * (nI k + 3)
def trm (x : Int32) (vr : Nat) : Nat := if 0 < blw x 4 then blw (x >>> (2 &&& 31)) vr else 10 + blw (x >>> (2 &&& 31)) 4
theorem trm_T (x : Int32) {vr : Nat} (h : 0 < vr) (h6 : vr ≤ 6) : isT (trm x vr) := by
  have h1 := blw_lt (x >>> (2 &&& 31)) h
  have h2 := blw_lt (x >>> (2 &&& 31)) (show 0 < 4 by decide)
  unfold trm isT
  split <;> omega
theorem trm_lt (x : Int32) {vr : Nat} (h : 0 < vr) : trm x vr < vr ∨ (10 ≤ trm x vr ∧ trm x vr < 14) := by
  have h1 := blw_lt (x >>> (2 &&& 31)) h
  have h2 := blw_lt (x >>> (2 &&& 31)) (show 0 < 4 by decide)
  unfold trm
  split <;> omega
set_option maxHeartbeats 4000000 in
set_option maxRecDepth 100000 in
/-- below(v, n) -/
theorem m_below (l : Launch) (D : va_G) (cy : Nat → ClassId) (O : Nat × va_E → Prop) {v : Int32} {n9 : Nat} (h0 : 0 < n9) (h31 : n9 < 2 ^ 31) : Ci l yL_below (.code yL_below cL_below 2 (some .int) :: WALL) ({ frames := 0, cells := 0, slots := 0, locals := 0 }) D cy O [.int v, .int (nI n9)] [] 0 0 (fun (r : Int32) (w : va_W) => r = nI (blw v n9) ∧ w = []) := by
  refine z_meti (by decide) rfl rfl (Nat.le_of_ble_eq_true rfl) ?_
  intro p e s m args below meth c X hr hin
  refine z_eq (ws' := []) (lv' := [(0, .int v), (1, .int (nI n9))]) (st' := []) rfl rfl rfl ?_
  refine z_iload_n X dL_below_0 rfl (j := 0) rfl ?_
  refine z_ldc X kc_L_7 dL_below_1 ?_
  refine z_iand X (v := (nI (v.toBitVec.toNat % 2 ^ 31))) dL_below_3 (pk_and v 31 (by decide)) ?_
  refine z_iload_n X dL_below_4 rfl (j := 1) rfl ?_
  refine z_irem X (v := (nI (blw v n9))) dL_below_5 (nI_ne0 h0 h31) (pk_rem (Nat.mod_lt _ (by decide)) h0 h31) ?_
  exact z_endi X hr [] [] rfl rfl rfl ⟨rfl, rfl⟩ dL_below_6
set_option maxHeartbeats 4000000 in
set_option maxRecDepth 100000 in
/-- cell(s, k) -/
theorem m_cell (l : Launch) (D : va_G) (cy : Nat → ClassId) (O : Nat × va_E → Prop) {b L : Nat} {xs : Nat → Int32} {k9 : Nat} (hL9 : L ≤ 260) (hk9 : k9 < 2 ^ 31) : CiX l yL_cell (.code yL_cell cL_cell 2 (some .int) :: WALL) ({ frames := 0, cells := 0, slots := 0, locals := 0 }) D cy O b L xs [.ref b, .int (nI k9)] [] 0 0 (fun (r : Int32) (w : va_W) => r = cel xs L k9 ∧ w = []) := by
  refine z_metiX (by decide) rfl rfl (Nat.le_of_ble_eq_true rfl) ?_
  intro p e s m args below meth c X hXs hbl hbA hr hin
  refine z_eq (ws' := []) (lv' := [(0, .ref b), (1, .int (nI k9))]) (st' := []) rfl rfl rfl ?_
  refine z_iload_n X dL_cell_0 rfl (j := 1) rfl ?_
  refine z_aload_n X dL_cell_1 rfl (j := 0) rfl ?_
  refine z_slen X hXs hbl hbA dL_cell_2 ?_
  refine z_icmp_ge X (tgt := 12) dL_cell_3 (by decide) (fun c_3 => ?_) (fun c_3 => ?_)
  · skip
    refine z_ldc X kc_L_8 dL_cell_12 ?_
    refine z_iload_n X dL_cell_14 rfl (j := 1) rfl ?_
    refine z_iconst X (v := 3) dL_cell_15 (by decide) ?_
    refine z_iadd X (v := ((nI k9) + 3)) dL_cell_16 rfl ?_
    refine z_imul X (v := (790386105 * ((nI k9) + 3))) dL_cell_17 rfl ?_
    exact z_endi X hr [] [] rfl rfl rfl ⟨(by rw [cel, if_neg (fun z => nI_ge (a := k9) (b := L) z (by omega) c_3)]), rfl⟩ dL_cell_18
  · skip
    refine z_aload_n X dL_cell_6 rfl (j := 0) rfl ?_
    refine z_iload_n X dL_cell_7 rfl (j := 1) rfl ?_
    refine z_sld X hXs hbl hbA (v := (xs k9)) (vp_in_nI ((nI_ltI hk9 (by omega)).mp (Int32.not_le.mp c_3)) (by omega)) (by rw [nI_clamp hk9]) dL_cell_8 ?_
    refine z_goto X (tgt := 18) dL_cell_9 (by decide) ?_
    exact z_endi X hr [] [] rfl rfl rfl ⟨(by rw [cel, if_pos ((nI_ltI hk9 (by omega)).mp (Int32.not_le.mp c_3))]), rfl⟩ dL_cell_18
set_option maxHeartbeats 4000000 in
set_option maxRecDepth 100000 in
/-- term(x, variables) -/
theorem m_term (l : Launch) (D : va_G) (cy : Nat → ClassId) (O : Nat × va_E → Prop) {v : Int32} {n9 : Nat} (h0 : 0 < n9) (h31 : n9 < 2 ^ 30) : Ci l yL_term (.code yL_term cL_term 2 (some .int) :: WALL) ({ frames := 1, cells := 0, slots := 0, locals := 21 }) D cy O [.int v, .int (nI n9)] [] 0 0 (fun (r : Int32) (w : va_W) => r = nI (trm v n9) ∧ w = []) := by
  refine z_meti (by decide) rfl rfl (Nat.le_of_ble_eq_true rfl) ?_
  intro p e s m args below meth c X hr hin
  refine z_eq (ws' := []) (lv' := [(0, .int v), (1, .int (nI n9))]) (st' := []) rfl rfl rfl ?_
  refine z_iload_n X dL_term_0 rfl (j := 0) rfl ?_
  refine z_iconst X (v := 4) dL_term_1 (by decide) ?_
  refine z_reti X (as := [.int v, .int 4]) (wc := []) (wr := []) (rest := []) (fun H9 locs9 ls9 hP9 hS9 hl9 hb9 hp9 => va_runS (As := [.int v, .int 4]) (rest := []) X.fix (m_below l D cy O (v := v) (n9 := 4) (by decide) (by decide)  H9.size) (va_cwS 2 X.hts (gS ml_L_9 sm_L_below ni_L cd_L_below) rfl rfl rfl (by decide +kernel) ⟨Nat.le_of_ble_eq_true rfl, Nat.le_of_ble_eq_true rfl⟩) ⟨hb9, hp9⟩ rfl rfl hl9.1 rfl (lv_room (Nat.le_of_ble_eq_true rfl)) dL_term_2 ⟨Nat.le_of_ble_eq_true rfl, Nat.le_of_ble_eq_true rfl⟩) [] [] rfl rfl rfl rfl rfl (by decide) (fun _ h => Or.inl h) (fun r1 w2 h3 => ?_)
  obtain ⟨rfl, rfl⟩ := h3
  refine z_eq (ws' := []) (lv' := [(0, .int v), (1, .int (nI n9))]) (st' := [.int (nI (blw v 4))]) rfl rfl rfl ?_
  refine z_widen (k' := 0) (n' := 0) (Nat.le_refl _) (Nat.le_refl _) ?_
  refine z_if_le X (tgt := 18) dL_term_5 (by decide) (fun c_5 => ?_) (fun c_5 => ?_)
  · skip
    refine z_bipush X (v := 10) dL_term_18 (by decide) ?_
    refine z_iload_n X dL_term_20 rfl (j := 0) rfl ?_
    refine z_iconst X (v := 2) dL_term_21 (by decide) ?_
    refine z_ishr X (v := (v >>> (2 &&& 31))) dL_term_22 rfl ?_
    refine z_iconst X (v := 4) dL_term_23 (by decide) ?_
    refine z_reti X (as := [.int (v >>> (2 &&& 31)), .int 4]) (wc := []) (wr := []) (rest := [.int 10]) (fun H9 locs9 ls9 hP9 hS9 hl9 hb9 hp9 => va_runS (As := [.int (v >>> (2 &&& 31)), .int 4]) (rest := [.int 10]) X.fix (m_below l D cy O (v := (v >>> (2 &&& 31))) (n9 := 4) (by decide) (by decide)  H9.size) (va_cwS 2 X.hts (gS ml_L_9 sm_L_below ni_L cd_L_below) rfl rfl rfl (by decide +kernel) ⟨Nat.le_of_ble_eq_true rfl, Nat.le_of_ble_eq_true rfl⟩) ⟨hb9, hp9⟩ rfl rfl hl9.1 rfl (lv_room (Nat.le_of_ble_eq_true rfl)) dL_term_24 ⟨Nat.le_of_ble_eq_true rfl, Nat.le_of_ble_eq_true rfl⟩) [] [] rfl rfl rfl rfl rfl (by decide) (fun _ h => Or.inl h) (fun r4 w5 h6 => ?_)
    obtain ⟨rfl, rfl⟩ := h6
    refine z_eq (ws' := []) (lv' := [(0, .int v), (1, .int (nI n9))]) (st' := [.int (nI (blw (v >>> (2 &&& 31)) 4)), .int 10]) rfl rfl rfl ?_
    refine z_widen (k' := 0) (n' := 0) (Nat.le_refl _) (Nat.le_refl _) ?_
    refine z_iadd X (v := (nI (10 + blw (v >>> (2 &&& 31)) 4))) dL_term_27 (nI_add 10 _) ?_
    exact z_endi X hr [] [] rfl rfl rfl ⟨(by rw [trm, if_neg (fun z => nI_nle z (Nat.lt_trans (blw_lt v (by decide)) (by decide)) c_5)]), rfl⟩ dL_term_28
  · skip
    refine z_iload_n X dL_term_8 rfl (j := 0) rfl ?_
    refine z_iconst X (v := 2) dL_term_9 (by decide) ?_
    refine z_ishr X (v := (v >>> (2 &&& 31))) dL_term_10 rfl ?_
    refine z_iload_n X dL_term_11 rfl (j := 1) rfl ?_
    refine z_reti X (as := [.int (v >>> (2 &&& 31)), .int (nI n9)]) (wc := []) (wr := []) (rest := []) (fun H9 locs9 ls9 hP9 hS9 hl9 hb9 hp9 => va_runS (As := [.int (v >>> (2 &&& 31)), .int (nI n9)]) (rest := []) X.fix (m_below l D cy O (v := (v >>> (2 &&& 31))) (n9 := n9) h0 (by omega)  H9.size) (va_cwS 2 X.hts (gS ml_L_9 sm_L_below ni_L cd_L_below) rfl rfl rfl (by decide +kernel) ⟨Nat.le_of_ble_eq_true rfl, Nat.le_of_ble_eq_true rfl⟩) ⟨hb9, hp9⟩ rfl rfl hl9.1 rfl (lv_room (Nat.le_of_ble_eq_true rfl)) dL_term_12 ⟨Nat.le_of_ble_eq_true rfl, Nat.le_of_ble_eq_true rfl⟩) [] [] rfl rfl rfl rfl rfl (by decide) (fun _ h => Or.inl h) (fun r7 w8 h9 => ?_)
    obtain ⟨rfl, rfl⟩ := h9
    refine z_eq (ws' := []) (lv' := [(0, .int v), (1, .int (nI n9))]) (st' := [.int (nI (blw (v >>> (2 &&& 31)) n9))]) rfl rfl rfl ?_
    refine z_widen (k' := 0) (n' := 0) (Nat.le_refl _) (Nat.le_refl _) ?_
    refine z_goto X (tgt := 28) dL_term_15 (by decide) ?_
    exact z_endi X hr [] [] rfl rfl rfl ⟨(by rw [trm, if_pos (Nat.pos_of_ne_zero fun z => c_5 (by rw [z]; exact Int32.le_refl _))]), rfl⟩ dL_term_28
set_option maxHeartbeats 4000000 in
set_option maxRecDepth 100000 in
/-- Loom(): three empty rows -/
theorem m_Loom (l : Launch) (D : va_G) (cy : Nat → ClassId) (O : Nat × va_E → Prop) {h0 : Nat} : Cv l yX10_init (.code yX10_init cX10_init 1 none :: WALL) ({ frames := 1, cells := 3, slots := 0, locals := 13 }) D cy O [.ref h0] [(h0, .inr (10, [.null, .null, .null]))] 3 0 (fun (w : va_W) => ∃ pl fx fm : Nat, w = [(h0, .inr (10, [.ref pl, .ref fx, .ref fm])), (pl, .inl (cy 0, 0, .inl (fun _ => 0))), (fx, .inl (cy 7, 0, .inr (.inr (.inr (.inr (fun _ => none)))))), (fm, .inl (cy 6, 0, .inr (.inr (.inr (.inr (fun _ => none))))))]) := by
  refine z_metv (by decide) rfl rfl (Nat.le_of_ble_eq_true rfl) ?_
  intro p e s m args below meth c X hr hin
  refine z_eq (ws' := [(h0, .inr (10, [.null, .null, .null]))]) (lv' := [(0, .ref h0)]) (st' := []) rfl rfl rfl ?_
  refine z_aload_n X dX10_init_0 rfl (j := 0) rfl ?_
  refine z_objInit X ml_X10_1 im_obj cd_obj (Nat.le_of_ble_eq_true rfl) (Nat.le_of_ble_eq_true rfl) dX10_init_1 ?_
  refine z_aload_n X dX10_init_4 rfl (j := 0) rfl ?_
  refine z_iconst X (v := 0) dX10_init_5 (by decide) ?_
  refine z_newaI X (N := 0) ac_int (by decide) (by decide) (Nat.le_of_ble_eq_true rfl) (Nat.le_of_ble_eq_true rfl) (Nat.le_of_ble_eq_true rfl) dX10_init_6 (fun q1 => ?_)
  refine z_eq (ws' := [(h0, .inr (10, [.null, .null, .null])), (q1, .inl (cy 0, 0, .inl (fun _ => 0)))]) (lv' := [(0, .ref h0)]) (st' := [.ref q1, .ref h0]) rfl rfl rfl ?_
  refine z_widen (k' := 1) (n' := 0) (Nat.le_of_ble_eq_true rfl) (Nat.le_of_ble_eq_true rfl) ?_
  refine z_putW X 0 (C := RX10) (T := TX10) (N := 3) inX10 tyX10 tyX10_ok nmX10 rfl rfl 0 (by decide) fl_X10_7 (fun _ h9 => h9) rfl (ty := (.array .int)) (by decide +kernel) rfl rfl (Nat.le_of_ble_eq_true rfl) (ws' := [(h0, .inr (10, [.ref q1, .null, .null])), (q1, .inl (cy 0, 0, .inl (fun _ => 0)))]) rfl dX10_init_8 ?_
  refine z_aload_n X dX10_init_11 rfl (j := 0) rfl ?_
  refine z_iconst X (v := 0) dX10_init_12 (by decide) ?_
  refine z_newA X (t := .array .int) (k6 := 7) (N := 0) (List.mem_of_getElem? (i := 1) rfl) rfl cl_X10_13 (by decide) (by decide) (Nat.le_of_ble_eq_true rfl) (Nat.le_of_ble_eq_true rfl) (Nat.le_of_ble_eq_true rfl) dX10_init_13 (fun q2 => ?_)
  refine z_eq (ws' := [(h0, .inr (10, [.ref q1, .null, .null])), (q1, .inl (cy 0, 0, .inl (fun _ => 0))), (q2, .inl (cy 7, 0, .inr (.inr (.inr (.inr (fun _ => none))))))]) (lv' := [(0, .ref h0)]) (st' := [.ref q2, .ref h0]) rfl rfl rfl ?_
  refine z_widen (k' := 2) (n' := 0) (Nat.le_of_ble_eq_true rfl) (Nat.le_of_ble_eq_true rfl) ?_
  refine z_putW X 0 (C := RX10) (T := TX10) (N := 3) inX10 tyX10 tyX10_ok nmX10 rfl rfl 1 (by decide) fl_X10_15 (fun _ h9 => h9) rfl (ty := (.array (.array (.array .int)))) (by decide +kernel) rfl rfl (Nat.le_of_ble_eq_true rfl) (ws' := [(h0, .inr (10, [.ref q1, .ref q2, .null])), (q1, .inl (cy 0, 0, .inl (fun _ => 0))), (q2, .inl (cy 7, 0, .inr (.inr (.inr (.inr (fun _ => none))))))]) rfl dX10_init_16 ?_
  refine z_aload_n X dX10_init_19 rfl (j := 0) rfl ?_
  refine z_iconst X (v := 0) dX10_init_20 (by decide) ?_
  refine z_newA X (t := .int) (k6 := 6) (N := 0) (List.mem_of_getElem? (i := 0) rfl) rfl cl_X10_19 (by decide) (by decide) (Nat.le_of_ble_eq_true rfl) (Nat.le_of_ble_eq_true rfl) (Nat.le_of_ble_eq_true rfl) dX10_init_21 (fun q3 => ?_)
  refine z_eq (ws' := [(h0, .inr (10, [.ref q1, .ref q2, .null])), (q1, .inl (cy 0, 0, .inl (fun _ => 0))), (q2, .inl (cy 7, 0, .inr (.inr (.inr (.inr (fun _ => none)))))), (q3, .inl (cy 6, 0, .inr (.inr (.inr (.inr (fun _ => none))))))]) (lv' := [(0, .ref h0)]) (st' := [.ref q3, .ref h0]) rfl rfl rfl ?_
  refine z_widen (k' := 3) (n' := 0) (Nat.le_of_ble_eq_true rfl) (Nat.le_of_ble_eq_true rfl) ?_
  refine z_putW X 0 (C := RX10) (T := TX10) (N := 3) inX10 tyX10 tyX10_ok nmX10 rfl rfl 2 (by decide) fl_X10_20 (fun _ h9 => h9) rfl (ty := (.array (.array .int))) (by decide +kernel) rfl rfl (Nat.le_of_ble_eq_true rfl) (ws' := [(h0, .inr (10, [.ref q1, .ref q2, .ref q3])), (q1, .inl (cy 0, 0, .inl (fun _ => 0))), (q2, .inl (cy 7, 0, .inr (.inr (.inr (.inr (fun _ => none)))))), (q3, .inl (cy 6, 0, .inr (.inr (.inr (.inr (fun _ => none))))))]) rfl dX10_init_24 ?_
  exact z_endv X hr [(h0, .inr (10, [.ref q1, .ref q2, .ref q3])), (q1, .inl (cy 0, 0, .inl (fun _ => 0))), (q2, .inl (cy 7, 0, .inr (.inr (.inr (.inr (fun _ => none)))))), (q3, .inl (cy 6, 0, .inr (.inr (.inr (.inr (fun _ => none))))))] [0, 1, 2, 3] rfl rfl rfl ⟨_, _, _, rfl⟩ dX10_init_27
set_option maxHeartbeats 4000000 in
set_option maxRecDepth 100000 in
/-- with(row, one) -/
theorem m_with (l : Launch) (D : va_G) (cy : Nat → ClassId) (O : Nat × va_E → Prop) {a0 n9 : Nat} {f9 : Nat → Int32} {x9 : Int32} (hO : O (a0, .inl (cy 0, n9, .inl f9))) (hn : n9 < 2 ^ 20) : Cr l yX10_with (.code yX10_with cX10_with 3 (some (.array .int)) :: WALL) ({ frames := 1, cells := 1, slots := (n9 + 1), locals := 18 }) D cy O [.ref a0, .int x9] [] 1 (n9 + 1) (fun (r : Nat) (w : va_W) => w = [(r, .inl (cy 0, n9 + 1, .inl (upd (va_cpy f9 (fun _ => 0) 0 0 n9) n9 x9)))]) := by
  refine z_metr (by decide) rfl rfl (Nat.le_of_ble_eq_true rfl) ?_
  intro p e s m args below meth c X hr hin
  refine z_eq (ws' := []) (lv' := [(0, .ref a0), (1, .int x9)]) (st' := []) rfl rfl rfl ?_
  refine z_aload_n X dX10_with_0 rfl (j := 0) rfl ?_
  refine z_alenO X (t := 0) hO rfl (v := (nI n9)) rfl dX10_with_1 ?_
  refine z_iconst X (v := 1) dX10_with_2 (by decide) ?_
  refine z_iadd X (v := (nI (n9 + 1))) dX10_with_3 (nI_1 n9) ?_
  refine z_newaI X (N := (n9 + 1)) ac_int (nI_pos (by omega)) (nI_clamp (by omega)) (by omega) (Nat.le_of_ble_eq_true rfl) (by show 0 + (n9 + 1) ≤ n9 + 1; omega) dX10_with_4 (fun q9 => ?_)
  refine z_eq (ws' := [(q9, .inl (cy 0, (n9 + 1), .inl (fun _ => 0)))]) (lv' := [(0, .ref a0), (1, .int x9)]) (st' := [.ref q9]) rfl rfl rfl ?_
  refine z_widen (k' := 1) (n' := (0 + (n9 + 1))) (Nat.le_of_ble_eq_true rfl) (by omega) ?_
  refine z_astore_n X (lv' := [(2, .ref q9), (0, .ref a0), (1, .int x9)]) dX10_with_6 rfl (by decide) rfl ?_
  refine z_aload_n X dX10_with_7 rfl (j := 1) rfl ?_
  refine z_iconst X (v := 0) dX10_with_8 (by decide) ?_
  refine z_aload_n X dX10_with_9 rfl (j := 0) rfl ?_
  refine z_iconst X (v := 0) dX10_with_10 (by decide) ?_
  refine z_aload_n X dX10_with_11 rfl (j := 1) rfl ?_
  refine z_alenO X (t := 0) hO rfl (v := (nI n9)) rfl dX10_with_12 ?_
  refine z_copyO X ml_X10_23 0 hO rfl (by decide) (by decide) (nI_pos (by omega)) (by rw [nI_clamp (show n9 < 2 ^ 31 by omega)]; show 0 + n9 ≤ n9; omega) (by rw [nI_clamp (show n9 < 2 ^ 31 by omega)]; show 0 + n9 ≤ n9 + 1; omega) (Nat.le_of_ble_eq_true rfl) (Nat.le_of_ble_eq_true rfl) dX10_with_13 (ws' := [(q9, .inl (cy 0, (n9 + 1), .inl (va_cpy f9 (fun _ => 0) 0 0 n9)))]) (by rw [nI_clamp (show n9 < 2 ^ 31 by omega)]; rfl) ?_
  refine z_aload_n X dX10_with_16 rfl (j := 0) rfl ?_
  refine z_aload_n X dX10_with_17 rfl (j := 1) rfl ?_
  refine z_alenO X (t := 0) hO rfl (v := (nI n9)) rfl dX10_with_18 ?_
  refine z_iload_n X dX10_with_19 rfl (j := 2) rfl ?_
  refine z_iastW X 0 rfl (vp_in_nI (by omega) (by omega)) (ws' := [(q9, .inl (cy 0, (n9 + 1), .inl (upd (va_cpy f9 (fun _ => 0) 0 0 n9) n9 x9)))]) (by rw [nI_clamp (show n9 < 2 ^ 31 by omega)]; rfl) dX10_with_20 ?_
  refine z_aload_n X dX10_with_21 rfl (j := 0) rfl ?_
  refine z_widen (k' := 1) (n' := (n9 + 1)) (by omega) (by omega) ?_
  exact z_endr X (Or.inr ⟨_, rfl⟩) hr [(q9, .inl (cy 0, (n9 + 1), .inl (upd (va_cpy f9 (fun _ => 0) 0 0 n9) n9 x9)))] [0] rfl rfl rfl rfl dX10_with_22
set_option maxHeartbeats 4000000 in
set_option maxRecDepth 100000 in
/-- with(rows, one) -/
theorem m_with_ (l : Launch) (D : va_G) (cy : Nat → ClassId) (O : Nat × va_E → Prop) {a0 n9 y9 : Nat} {f9 : Nat → Option Nat} {e9 : vp_A} (hO : O (a0, .inl (cy 6, n9, .inr (.inr (.inr (.inr f9)))))) (hel : ∀ j, j < n9 → ∀ y, f9 j = some y → ∃ x : vp_A, O (y, .inl (cy 0, x))) (hy : O (y9, .inl (cy 0, e9))) (hn : n9 < 2 ^ 20) : Cr l yX10_with_ (.code yX10_with_ cX10_with_ 3 (some (.array (.array .int))) :: WALL) ({ frames := 1, cells := 1, slots := (n9 + 1), locals := 18 }) D cy O [.ref a0, .ref y9] [] 1 (n9 + 1) (fun (r : Nat) (w : va_W) => w = [(r, .inl (cy 6, n9 + 1, .inr (.inr (.inr (.inr (va_up (va_cpy f9 (fun _ => none) 0 0 n9) n9 (some y9)))))))]) := by
  refine z_metr (by decide) rfl rfl (Nat.le_of_ble_eq_true rfl) ?_
  intro p e s m args below meth c X hr hin
  refine z_eq (ws' := []) (lv' := [(0, .ref a0), (1, .ref y9)]) (st' := []) rfl rfl rfl ?_
  refine z_aload_n X dX10_with__0 rfl (j := 0) rfl ?_
  refine z_alenO X (t := 6) hO rfl (v := (nI n9)) rfl dX10_with__1 ?_
  refine z_iconst X (v := 1) dX10_with__2 (by decide) ?_
  refine z_iadd X (v := (nI (n9 + 1))) dX10_with__3 (nI_1 n9) ?_
  refine z_newA X (t := .int) (k6 := 6) (N := (n9 + 1)) (List.mem_of_getElem? (i := 0) rfl) rfl cl_X10_19 (nI_pos (by omega)) (nI_clamp (by omega)) (by omega) (Nat.le_of_ble_eq_true rfl) (by show 0 + (n9 + 1) ≤ n9 + 1; omega) dX10_with__4 (fun q9 => ?_)
  refine z_eq (ws' := [(q9, .inl (cy 6, (n9 + 1), .inr (.inr (.inr (.inr (fun _ => none))))))]) (lv' := [(0, .ref a0), (1, .ref y9)]) (st' := [.ref q9]) rfl rfl rfl ?_
  refine z_widen (k' := 1) (n' := (0 + (n9 + 1))) (Nat.le_of_ble_eq_true rfl) (by omega) ?_
  refine z_astore_n X (lv' := [(2, .ref q9), (0, .ref a0), (1, .ref y9)]) dX10_with__7 rfl (by decide) rfl ?_
  refine z_aload_n X dX10_with__8 rfl (j := 1) rfl ?_
  refine z_iconst X (v := 0) dX10_with__9 (by decide) ?_
  refine z_aload_n X dX10_with__10 rfl (j := 0) rfl ?_
  refine z_iconst X (v := 0) dX10_with__11 (by decide) ?_
  refine z_aload_n X dX10_with__12 rfl (j := 1) rfl ?_
  refine z_alenO X (t := 6) hO rfl (v := (nI n9)) rfl dX10_with__13 ?_
  refine z_copyA X ml_X10_23 (t := .int) (k5 := 0) (k6 := 6) (List.mem_of_getElem? (i := 0) rfl) rfl rfl (fun h9 => h9) 0 hO rfl (by decide) (by decide) (nI_pos (by omega)) (by rw [nI_clamp (show n9 < 2 ^ 31 by omega)]; show 0 + n9 ≤ n9; omega) (by rw [nI_clamp (show n9 < 2 ^ 31 by omega)]; show 0 + n9 ≤ n9 + 1; omega) (fun i hi y hy9 => hel i (by rw [nI_clamp (show n9 < 2 ^ 31 by omega)] at hi; exact hi) y (by rw [show (0 : Int32).toNatClampNeg = 0 from rfl, Nat.zero_add] at hy9; exact hy9)) (Nat.le_of_ble_eq_true rfl) (Nat.le_of_ble_eq_true rfl) dX10_with__14 (ws' := [(q9, .inl (cy 6, (n9 + 1), .inr (.inr (.inr (.inr (va_cpy f9 (fun _ => none) 0 0 n9))))))]) (by rw [nI_clamp (show n9 < 2 ^ 31 by omega)]; rfl) ?_
  refine z_aload_n X dX10_with__17 rfl (j := 0) rfl ?_
  refine z_aload_n X dX10_with__18 rfl (j := 1) rfl ?_
  refine z_alenO X (t := 6) hO rfl (v := (nI n9)) rfl dX10_with__19 ?_
  refine z_aload_n X dX10_with__20 rfl (j := 2) rfl ?_
  refine z_aastAO X (t := .int) (k5 := 0) (k6 := 6) (List.mem_of_getElem? (i := 0) rfl) rfl rfl (fun h9 => h9) 0 rfl hy (vp_in_nI (by omega) (by omega)) (ws' := [(q9, .inl (cy 6, (n9 + 1), .inr (.inr (.inr (.inr (va_up (va_cpy f9 (fun _ => none) 0 0 n9) n9 (some y9)))))))]) (by rw [nI_clamp (show n9 < 2 ^ 31 by omega)]; rfl) dX10_with__21 ?_
  refine z_aload_n X dX10_with__22 rfl (j := 0) rfl ?_
  refine z_widen (k' := 1) (n' := (n9 + 1)) (by omega) (by omega) ?_
  exact z_endr X (Or.inr ⟨_, rfl⟩) hr [(q9, .inl (cy 6, (n9 + 1), .inr (.inr (.inr (.inr (va_up (va_cpy f9 (fun _ => none) 0 0 n9) n9 (some y9)))))))] [0] rfl rfl rfl rfl dX10_with__23
/-- order: the first difference from place k on -/
def odr (f g : Nat → Int32) : Nat → Nat → Int32
  | 0, _ => 0
  | d + 1, k => if f k = g k then odr f g d (k + 1) else f k - g k
set_option maxHeartbeats 4000000 in
set_option maxRecDepth 100000 in
/-- order(one, other) -/
theorem m_orderR (l : Launch) (D : va_G) (cy : Nat → ClassId) (O : Nat × va_E → Prop) {a0 a1 n9 n8 : Nat} {f9 g9 : Nat → Int32} (h0 : O (a0, .inl (cy 0, n9, .inl f9))) (h1 : O (a1, .inl (cy 0, n8, .inl g9))) (hn : n9 ≤ n8) (hn31 : n8 < 2 ^ 31) : Ci l yX10_order (.code yX10_order cX10_order 3 (some .int) :: WALL) ({ frames := 0, cells := 0, slots := 0, locals := 0 }) D cy O [.ref a0, .ref a1] [] 0 0 (fun (r : Int32) (w : va_W) => r = odr f9 g9 n9 0 ∧ w = []) := by
  refine z_meti (by decide) rfl rfl (Nat.le_of_ble_eq_true rfl) ?_
  intro p e s m args below meth c X hr hin
  refine z_eq (ws' := []) (lv' := [(0, .ref a0), (1, .ref a1)]) (st' := []) rfl rfl rfl ?_
  have L : ∀ (d : Nat) (k : Nat), k + d = n9 → odr f9 g9 d k = odr f9 g9 n9 0 → Zz D (va_A [] s.heap.size) 3 p l e ({ frames := 0, cells := 0, slots := 0, locals := 0 }) s m args below meth c (MQ below (va_Qi (fun (r : Int32) (w : va_W) => r = odr f9 g9 n9 0 ∧ w = []) (end_ D [] s.heap.size) (va_A [] s.heap.size)) args s 0 0 (va_A [] s.heap.size)) [] [(2, .int (nI k)), (0, .ref a0), (1, .ref a1)] 0 0 2 [] := by
    intro d
    induction d with
    | zero =>
      intro k hL0 hL1
      refine z_iload_n X dX10_order_2 rfl (j := 0) rfl ?_
      refine z_aload_n X dX10_order_3 rfl (j := 1) rfl ?_
      refine z_alenO X (t := 0) h0 rfl (v := (nI n9)) rfl dX10_order_4 ?_
      refine z_icmp_ge X (tgt := 31) dX10_order_5 (by decide) (fun c_5 => ?_) (fun c9 => absurd (by rw [show k = n9 by omega]; exact nI_le (Nat.le_refl _) (by omega)) c9)
      refine z_iconst X (v := 0) dX10_order_31 (by decide) ?_
      exact z_endi X hr [] [] rfl rfl rfl ⟨(by rw [← hL1]; rfl), rfl⟩ dX10_order_32
    | succ d ih =>
      intro k hL0 hL1
      refine z_iload_n X dX10_order_2 rfl (j := 0) rfl ?_
      refine z_aload_n X dX10_order_3 rfl (j := 1) rfl ?_
      refine z_alenO X (t := 0) h0 rfl (v := (nI n9)) rfl dX10_order_4 ?_
      refine z_icmp_ge X (tgt := 31) dX10_order_5 (by decide) (fun c9 => absurd c9 (nI_ge (by omega) (by omega))) (fun c_5 => ?_)
      refine z_aload_n X dX10_order_8 rfl (j := 1) rfl ?_
      refine z_iload_n X dX10_order_9 rfl (j := 0) rfl ?_
      refine z_ialdO X h0 (v := (f9 k)) (vp_in_nI (by omega) (by omega)) (by rw [nI_clamp (by omega)]) dX10_order_10 ?_
      refine z_aload_n X dX10_order_11 rfl (j := 2) rfl ?_
      refine z_iload_n X dX10_order_12 rfl (j := 0) rfl ?_
      refine z_ialdO X h1 (v := (g9 k)) (vp_in_nI (by omega) (by omega)) (by rw [nI_clamp (by omega)]) dX10_order_13 ?_
      refine z_icmp_eq X (tgt := 25) dX10_order_14 (by decide) (fun c_14 => ?_) (fun c_14 => ?_)
      · skip
        refine z_iinc X (j := 0) (v := (nI (k + 1))) (lv' := [(2, .int (nI (k + 1))), (0, .ref a0), (1, .ref a1)]) dX10_order_25 rfl (nI_1 k) (by decide) rfl ?_
        refine z_goto X (tgt := 2) dX10_order_28 (by decide) ?_
        refine z_eq (ws' := []) (lv' := [(2, .int (nI (k + 1))), (0, .ref a0), (1, .ref a1)]) (st' := []) rfl rfl rfl ?_
        exact ih (k + 1) (by omega) (by rw [← hL1, odr, if_pos c_14])
      · skip
        refine z_aload_n X dX10_order_17 rfl (j := 1) rfl ?_
        refine z_iload_n X dX10_order_18 rfl (j := 0) rfl ?_
        refine z_ialdO X h0 (v := (f9 k)) (vp_in_nI (by omega) (by omega)) (by rw [nI_clamp (by omega)]) dX10_order_19 ?_
        refine z_aload_n X dX10_order_20 rfl (j := 2) rfl ?_
        refine z_iload_n X dX10_order_21 rfl (j := 0) rfl ?_
        refine z_ialdO X h1 (v := (g9 k)) (vp_in_nI (by omega) (by omega)) (by rw [nI_clamp (by omega)]) dX10_order_22 ?_
        refine z_isub X (v := ((f9 k) - (g9 k))) dX10_order_23 rfl ?_
        exact z_endi X hr [] [] rfl rfl rfl ⟨(by rw [← hL1, odr, if_neg c_14]), rfl⟩ dX10_order_24
  refine z_iconst X (v := 0) dX10_order_0 (by decide) ?_
  refine z_istore_n X (lv' := [(2, .int 0), (0, .ref a0), (1, .ref a1)]) dX10_order_1 rfl (by decide) rfl ?_
  refine z_eq (ws' := []) (lv' := [(2, .int (nI 0)), (0, .ref a0), (1, .ref a1)]) (st' := []) rfl rfl rfl ?_
  exact L n9 0 (by omega) rfl
/-- a row of values that are the code's digits -/
def rwF (P c : Nat) (f : Nat → Int32) : Prop := ∀ u, u < P → f u = nI (dg P c u)
theorem cd_split {P c k : Nat} (hk : k < P) : c / 8 ^ (P - 1 - k) = c / 8 ^ (P - 1 - k + 1) * 8 + dg P c k := by
  have h1 : c / 8 ^ (P - 1 - k + 1) = c / 8 ^ (P - 1 - k) / 8 := by rw [Nat.pow_succ, Nat.div_div_eq_div_mul]
  rw [h1, dg]
  omega
/-- what the digits from k on say, the ones before being the same -/
theorem odr_code {P x v : Nat} {f g : Nat → Int32} (hf : rwF P x f) (hg : rwF P v g) : ∀ d k, k + d = P → x / 8 ^ d = v / 8 ^ d → (odr f g d k < 0 ↔ x < v) ∧ (odr f g d k = 0 ↔ x = v)
  | 0, k, hk, he => by
    rw [Nat.pow_zero, Nat.div_one, Nat.div_one] at he
    subst he
    rw [odr]
    exact ⟨⟨fun h => absurd h (by decide), fun h => absurd h (Nat.lt_irrefl _)⟩, ⟨fun _ => rfl, fun _ => rfl⟩⟩
  | d + 1, k, hk, he => by
    have e1 := cd_split (P := P) (c := x) (k := k) (by omega)
    have e2 := cd_split (P := P) (c := v) (k := k) (by omega)
    rw [show P - 1 - k = d by omega] at e1 e2
    have d1 := dg_lt P x k
    have d2 := dg_lt P v k
    rw [odr, hf k (by omega), hg k (by omega)]
    by_cases h : dg P x k = dg P v k
    · rw [if_pos (by rw [h])]
      refine odr_code hf hg d (k + 1) (by omega) ?_
      rw [e1, e2, he, h]
    · rw [if_neg (fun z => h ((nI_eq (by omega) (by omega)).mp z))]
      have hd : 0 < 8 ^ d := Nat.two_pow_pos 0 |> fun _ => Nat.pow_pos (by decide)
      rcases Nat.lt_or_ge (dg P x k) (dg P v k) with g | g
      · have hlt : x < v := by
          have h3 : x / 8 ^ d < v / 8 ^ d := by rw [e1, e2, he]; omega
          exact Nat.lt_of_not_le fun z => absurd (Nat.div_le_div_right (c := 8 ^ d) z) (by omega)
        have hs := pk_sneg (a := dg P x k) (b := dg P v k) (by omega) g
        exact ⟨⟨fun _ => hlt, fun _ => hs⟩, ⟨fun z => absurd hs (by rw [z]; decide), fun z => by omega⟩⟩
      · have hlt : v < x := by
          have h3 : v / 8 ^ d < x / 8 ^ d := by rw [e1, e2, he]; omega
          exact Nat.lt_of_not_le fun z => absurd (Nat.div_le_div_right (c := 8 ^ d) z) (by omega)
        have hs : nI (dg P x k) - nI (dg P v k) = nI (dg P x k - dg P v k) := pk_sub g
        rw [hs]
        exact ⟨⟨fun z => absurd z (nI_pos (by omega)), fun z => by omega⟩, ⟨fun z => absurd z (nI_ne0 (by omega) (by omega)), fun z => by omega⟩⟩
theorem odr_lt {P x v : Nat} {f g : Nat → Int32} (hf : rwF P x f) (hg : rwF P v g) (hx : x < 8 ^ P) (hv : v < 8 ^ P) : (odr f g P 0 < 0 ↔ x < v) ∧ (odr f g P 0 = 0 ↔ x = v) := odr_code hf hg P 0 (by omega) (by rw [Nat.div_eq_of_lt hx, Nat.div_eq_of_lt hv])
/-- the loom's rows of relation r, at b -/
def FrO (O : Nat × va_E → Prop) (cy : Nat → ClassId) (b : Nat) (r : RRow) : Prop := ∃ (F : Nat → Option Nat) (ra : Nat → Nat), O (b, .inl (cy 6, r.2.1, .inr (.inr (.inr (.inr F))))) ∧ ∀ j, j < r.2.1 → F j = some (ra j) ∧ ∃ f : Nat → Int32, O (ra j, .inl (cy 0, r.1, .inl f)) ∧ rwF r.1 (r.2.2 j) f
theorem FrO.mono {O O' : Nat × va_E → Prop} {cy : Nat → ClassId} {b : Nat} {r : RRow} (h : ∀ q, O q → O' q) : FrO O cy b r → FrO O' cy b r := fun ⟨F, ra, a, b⟩ => ⟨F, ra, h _ a, fun j hj => ⟨(b j hj).1, (b j hj).2.choose, h _ (b j hj).2.choose_spec.1, (b j hj).2.choose_spec.2⟩⟩
/-- a row of references, one more at place k -/
def inQ (F : Nat → Option Nat) (M k a : Nat) : Nat → Option Nat := fun j => if j = k then some a else if k < j ∧ j ≤ M then F (j - 1) else F j
