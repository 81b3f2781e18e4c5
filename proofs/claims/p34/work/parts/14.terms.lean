theorem dX0_init_0 : decode cX0_init 0 = .ok (.aload_n 0, 1) := by decide +kernel
theorem dX0_init_1 : decode cX0_init 1 = .ok (.invokespecial 3, 3) := by decide +kernel
theorem dX0_init_4 : decode cX0_init 4 = .ok (.aload_n 0, 1) := by decide +kernel
theorem dX0_init_5 : decode cX0_init 5 = .ok (.aload_n 1, 1) := by decide +kernel
theorem dX0_init_6 : decode cX0_init 6 = .ok (.putfield 9, 3) := by decide +kernel
theorem dX0_init_9 : decode cX0_init 9 = .ok (.aload_n 0, 1) := by decide +kernel
theorem dX0_init_10 : decode cX0_init 10 = .ok (.aload_n 2, 1) := by decide +kernel
theorem dX0_init_11 : decode cX0_init 11 = .ok (.putfield 15, 3) := by decide +kernel
theorem dX0_init_14 : decode cX0_init 14 = .ok (.return_, 1) := by decide +kernel
theorem dX0_matching_0 : decode cX0_matching 0 = .ok (.iconst 1, 1) := by decide +kernel
theorem dX0_matching_1 : decode cX0_matching 1 = .ok (.aload_n 0, 1) := by decide +kernel
theorem dX0_matching_2 : decode cX0_matching 2 = .ok (.getfield 9, 3) := by decide +kernel
theorem dX0_matching_5 : decode cX0_matching 5 = .ok (.getfield 19, 3) := by decide +kernel
theorem dX0_matching_8 : decode cX0_matching 8 = .ok (.ishl, 1) := by decide +kernel
theorem dX0_matching_9 : decode cX0_matching 9 = .ok (.iconst 1, 1) := by decide +kernel
theorem dX0_matching_10 : decode cX0_matching 10 = .ok (.isub, 1) := by decide +kernel
theorem dX0_matching_11 : decode cX0_matching 11 = .ok (.istore_n 2, 1) := by decide +kernel
theorem dX0_matching_12 : decode cX0_matching 12 = .ok (.iconst 0, 1) := by decide +kernel
theorem dX0_matching_13 : decode cX0_matching 13 = .ok (.istore_n 3, 1) := by decide +kernel
theorem dX0_matching_14 : decode cX0_matching 14 = .ok (.iload_n 3, 1) := by decide +kernel
theorem dX0_matching_15 : decode cX0_matching 15 = .ok (.aload_n 0, 1) := by decide +kernel
theorem dX0_matching_16 : decode cX0_matching 16 = .ok (.getfield 15, 3) := by decide +kernel
theorem dX0_matching_19 : decode cX0_matching 19 = .ok (.getfield 25, 3) := by decide +kernel
theorem dX0_matching_22 : decode cX0_matching 22 = .ok (.if_icmp .ge 54, 3) := by decide +kernel
theorem dX0_matching_25 : decode cX0_matching 25 = .ok (.aload_n 0, 1) := by decide +kernel
theorem dX0_matching_26 : decode cX0_matching 26 = .ok (.getfield 15, 3) := by decide +kernel
theorem dX0_matching_29 : decode cX0_matching 29 = .ok (.iload_n 3, 1) := by decide +kernel
theorem dX0_matching_30 : decode cX0_matching 30 = .ok (.aload_n 1, 1) := by decide +kernel
theorem dX0_matching_31 : decode cX0_matching 31 = .ok (.invokevirtual 28, 3) := by decide +kernel
theorem dX0_matching_34 : decode cX0_matching 34 = .ok (.istore 4, 2) := by decide +kernel
theorem dX0_matching_36 : decode cX0_matching 36 = .ok (.iload 4, 2) := by decide +kernel
theorem dX0_matching_38 : decode cX0_matching 38 = .ok (.ifCond .lt 24, 3) := by decide +kernel
theorem dX0_matching_41 : decode cX0_matching 41 = .ok (.iload_n 2, 1) := by decide +kernel
theorem dX0_matching_42 : decode cX0_matching 42 = .ok (.aload_n 0, 1) := by decide +kernel
theorem dX0_matching_43 : decode cX0_matching 43 = .ok (.getfield 9, 3) := by decide +kernel
theorem dX0_matching_46 : decode cX0_matching 46 = .ok (.getfield 32, 3) := by decide +kernel
theorem dX0_matching_49 : decode cX0_matching 49 = .ok (.iload_n 3, 1) := by decide +kernel
theorem dX0_matching_50 : decode cX0_matching 50 = .ok (.bipush 8, 2) := by decide +kernel
theorem dX0_matching_52 : decode cX0_matching 52 = .ok (.imul, 1) := by decide +kernel
theorem dX0_matching_53 : decode cX0_matching 53 = .ok (.iload 4, 2) := by decide +kernel
theorem dX0_matching_55 : decode cX0_matching 55 = .ok (.iadd, 1) := by decide +kernel
theorem dX0_matching_56 : decode cX0_matching 56 = .ok (.iaload, 1) := by decide +kernel
theorem dX0_matching_57 : decode cX0_matching 57 = .ok (.iand, 1) := by decide +kernel
theorem dX0_matching_58 : decode cX0_matching 58 = .ok (.istore_n 2, 1) := by decide +kernel
theorem dX0_matching_59 : decode cX0_matching 59 = .ok (.goto 11, 3) := by decide +kernel
theorem dX0_matching_62 : decode cX0_matching 62 = .ok (.iload_n 2, 1) := by decide +kernel
theorem dX0_matching_63 : decode cX0_matching 63 = .ok (.aload_n 0, 1) := by decide +kernel
theorem dX0_matching_64 : decode cX0_matching 64 = .ok (.iload_n 3, 1) := by decide +kernel
theorem dX0_matching_65 : decode cX0_matching 65 = .ok (.invokevirtual 36, 3) := by decide +kernel
theorem dX0_matching_68 : decode cX0_matching 68 = .ok (.iand, 1) := by decide +kernel
theorem dX0_matching_69 : decode cX0_matching 69 = .ok (.istore_n 2, 1) := by decide +kernel
theorem dX0_matching_70 : decode cX0_matching 70 = .ok (.iinc 3 1, 3) := by decide +kernel
theorem dX0_matching_73 : decode cX0_matching 73 = .ok (.goto (-59), 3) := by decide +kernel
theorem dX0_matching_76 : decode cX0_matching 76 = .ok (.iload_n 2, 1) := by decide +kernel
theorem dX0_matching_77 : decode cX0_matching 77 = .ok (.ireturn, 1) := by decide +kernel
theorem dX0_alikeBefore_0 : decode cX0_alikeBefore 0 = .ok (.iconst (-1), 1) := by decide +kernel
theorem dX0_alikeBefore_1 : decode cX0_alikeBefore 1 = .ok (.istore_n 2, 1) := by decide +kernel
theorem dX0_alikeBefore_2 : decode cX0_alikeBefore 2 = .ok (.iconst 0, 1) := by decide +kernel
theorem dX0_alikeBefore_3 : decode cX0_alikeBefore 3 = .ok (.istore_n 3, 1) := by decide +kernel
theorem dX0_alikeBefore_4 : decode cX0_alikeBefore 4 = .ok (.iload_n 3, 1) := by decide +kernel
theorem dX0_alikeBefore_5 : decode cX0_alikeBefore 5 = .ok (.iload_n 1, 1) := by decide +kernel
theorem dX0_alikeBefore_6 : decode cX0_alikeBefore 6 = .ok (.if_icmp .ge 46, 3) := by decide +kernel
theorem dX0_alikeBefore_9 : decode cX0_alikeBefore 9 = .ok (.aload_n 0, 1) := by decide +kernel
theorem dX0_alikeBefore_10 : decode cX0_alikeBefore 10 = .ok (.getfield 15, 3) := by decide +kernel
theorem dX0_alikeBefore_13 : decode cX0_alikeBefore 13 = .ok (.getfield 40, 3) := by decide +kernel
theorem dX0_alikeBefore_16 : decode cX0_alikeBefore 16 = .ok (.iload_n 3, 1) := by decide +kernel
theorem dX0_alikeBefore_17 : decode cX0_alikeBefore 17 = .ok (.iaload, 1) := by decide +kernel
theorem dX0_alikeBefore_18 : decode cX0_alikeBefore 18 = .ok (.aload_n 0, 1) := by decide +kernel
theorem dX0_alikeBefore_19 : decode cX0_alikeBefore 19 = .ok (.getfield 15, 3) := by decide +kernel
theorem dX0_alikeBefore_22 : decode cX0_alikeBefore 22 = .ok (.getfield 40, 3) := by decide +kernel
theorem dX0_alikeBefore_25 : decode cX0_alikeBefore 25 = .ok (.iload_n 1, 1) := by decide +kernel
theorem dX0_alikeBefore_26 : decode cX0_alikeBefore 26 = .ok (.iaload, 1) := by decide +kernel
theorem dX0_alikeBefore_27 : decode cX0_alikeBefore 27 = .ok (.if_icmp .ne 19, 3) := by decide +kernel
theorem dX0_alikeBefore_30 : decode cX0_alikeBefore 30 = .ok (.iload_n 2, 1) := by decide +kernel
theorem dX0_alikeBefore_31 : decode cX0_alikeBefore 31 = .ok (.aload_n 0, 1) := by decide +kernel
theorem dX0_alikeBefore_32 : decode cX0_alikeBefore 32 = .ok (.getfield 9, 3) := by decide +kernel
theorem dX0_alikeBefore_35 : decode cX0_alikeBefore 35 = .ok (.getfield 43, 3) := by decide +kernel
theorem dX0_alikeBefore_38 : decode cX0_alikeBefore 38 = .ok (.iload_n 1, 1) := by decide +kernel
theorem dX0_alikeBefore_39 : decode cX0_alikeBefore 39 = .ok (.iload_n 3, 1) := by decide +kernel
theorem dX0_alikeBefore_40 : decode cX0_alikeBefore 40 = .ok (.iadd, 1) := by decide +kernel
theorem dX0_alikeBefore_41 : decode cX0_alikeBefore 41 = .ok (.iconst 1, 1) := by decide +kernel
theorem dX0_alikeBefore_42 : decode cX0_alikeBefore 42 = .ok (.isub, 1) := by decide +kernel
theorem dX0_alikeBefore_43 : decode cX0_alikeBefore 43 = .ok (.iaload, 1) := by decide +kernel
theorem dX0_alikeBefore_44 : decode cX0_alikeBefore 44 = .ok (.iand, 1) := by decide +kernel
theorem dX0_alikeBefore_45 : decode cX0_alikeBefore 45 = .ok (.istore_n 2, 1) := by decide +kernel
theorem dX0_alikeBefore_46 : decode cX0_alikeBefore 46 = .ok (.iinc 3 1, 3) := by decide +kernel
theorem dX0_alikeBefore_49 : decode cX0_alikeBefore 49 = .ok (.goto (-45), 3) := by decide +kernel
theorem dX0_alikeBefore_52 : decode cX0_alikeBefore 52 = .ok (.iload_n 2, 1) := by decide +kernel
theorem dX0_alikeBefore_53 : decode cX0_alikeBefore 53 = .ok (.ireturn, 1) := by decide +kernel
theorem dX6_init_0 : decode cX6_init 0 = .ok (.aload_n 0, 1) := by decide +kernel
theorem dX6_init_1 : decode cX6_init 1 = .ok (.invokespecial 3, 3) := by decide +kernel
theorem dX6_init_4 : decode cX6_init 4 = .ok (.aload_n 0, 1) := by decide +kernel
theorem dX6_init_5 : decode cX6_init 5 = .ok (.iconst 5, 1) := by decide +kernel
theorem dX6_init_6 : decode cX6_init 6 = .ok (.anewarray 9, 3) := by decide +kernel
theorem dX6_init_9 : decode cX6_init 9 = .ok (.putfield 11, 3) := by decide +kernel
theorem dX6_init_12 : decode cX6_init 12 = .ok (.aload_n 0, 1) := by decide +kernel
theorem dX6_init_13 : decode cX6_init 13 = .ok (.iconst 0, 1) := by decide +kernel
theorem dX6_init_14 : decode cX6_init 14 = .ok (.putfield 17, 3) := by decide +kernel
theorem dX6_init_17 : decode cX6_init 17 = .ok (.aload_n 0, 1) := by decide +kernel
theorem dX6_init_18 : decode cX6_init 18 = .ok (.aload_n 1, 1) := by decide +kernel
theorem dX6_init_19 : decode cX6_init 19 = .ok (.putfield 21, 3) := by decide +kernel
theorem dX6_init_22 : decode cX6_init 22 = .ok (.return_, 1) := by decide +kernel
theorem dX6_allAtoms_0 : decode cX6_allAtoms 0 = .ok (.iconst 1, 1) := by decide +kernel
theorem dX6_allAtoms_1 : decode cX6_allAtoms 1 = .ok (.aload_n 0, 1) := by decide +kernel
theorem dX6_allAtoms_2 : decode cX6_allAtoms 2 = .ok (.getfield 17, 3) := by decide +kernel
theorem dX6_allAtoms_5 : decode cX6_allAtoms 5 = .ok (.ishl, 1) := by decide +kernel
theorem dX6_allAtoms_6 : decode cX6_allAtoms 6 = .ok (.iconst 1, 1) := by decide +kernel
theorem dX6_allAtoms_7 : decode cX6_allAtoms 7 = .ok (.isub, 1) := by decide +kernel
theorem dX6_allAtoms_8 : decode cX6_allAtoms 8 = .ok (.ireturn, 1) := by decide +kernel
theorem dX6_variablesIn_0 : decode cX6_variablesIn 0 = .ok (.iconst 0, 1) := by decide +kernel
theorem dX6_variablesIn_1 : decode cX6_variablesIn 1 = .ok (.istore_n 2, 1) := by decide +kernel
theorem dX6_variablesIn_2 : decode cX6_variablesIn 2 = .ok (.iconst 0, 1) := by decide +kernel
theorem dX6_variablesIn_3 : decode cX6_variablesIn 3 = .ok (.istore_n 3, 1) := by decide +kernel
theorem dX6_variablesIn_4 : decode cX6_variablesIn 4 = .ok (.iload_n 3, 1) := by decide +kernel
theorem dX6_variablesIn_5 : decode cX6_variablesIn 5 = .ok (.aload_n 0, 1) := by decide +kernel
theorem dX6_variablesIn_6 : decode cX6_variablesIn 6 = .ok (.getfield 17, 3) := by decide +kernel
theorem dX6_variablesIn_9 : decode cX6_variablesIn 9 = .ok (.if_icmp .ge 32, 3) := by decide +kernel
theorem dX6_variablesIn_12 : decode cX6_variablesIn 12 = .ok (.iload_n 1, 1) := by decide +kernel
theorem dX6_variablesIn_13 : decode cX6_variablesIn 13 = .ok (.iload_n 3, 1) := by decide +kernel
theorem dX6_variablesIn_14 : decode cX6_variablesIn 14 = .ok (.invokestatic 25, 3) := by decide +kernel
theorem dX6_variablesIn_17 : decode cX6_variablesIn 17 = .ok (.ifCond .eq 18, 3) := by decide +kernel
theorem dX6_variablesIn_20 : decode cX6_variablesIn 20 = .ok (.iload_n 2, 1) := by decide +kernel
theorem dX6_variablesIn_21 : decode cX6_variablesIn 21 = .ok (.aload_n 0, 1) := by decide +kernel
theorem dX6_variablesIn_22 : decode cX6_variablesIn 22 = .ok (.getfield 11, 3) := by decide +kernel
theorem dX6_variablesIn_25 : decode cX6_variablesIn 25 = .ok (.iload_n 3, 1) := by decide +kernel
theorem dX6_variablesIn_26 : decode cX6_variablesIn 26 = .ok (.aaload, 1) := by decide +kernel
theorem dX6_variablesIn_27 : decode cX6_variablesIn 27 = .ok (.getfield 29, 3) := by decide +kernel
theorem dX6_variablesIn_30 : decode cX6_variablesIn 30 = .ok (.getfield 32, 3) := by decide +kernel
theorem dX6_variablesIn_33 : decode cX6_variablesIn 33 = .ok (.ior, 1) := by decide +kernel
theorem dX6_variablesIn_34 : decode cX6_variablesIn 34 = .ok (.istore_n 2, 1) := by decide +kernel
theorem dX6_variablesIn_35 : decode cX6_variablesIn 35 = .ok (.iinc 3 1, 3) := by decide +kernel
theorem dX6_variablesIn_38 : decode cX6_variablesIn 38 = .ok (.goto (-34), 3) := by decide +kernel
theorem dX6_variablesIn_41 : decode cX6_variablesIn 41 = .ok (.iload_n 2, 1) := by decide +kernel
theorem dX6_variablesIn_42 : decode cX6_variablesIn 42 = .ok (.ireturn, 1) := by decide +kernel
theorem dX6_isGrounded_0 : decode cX6_isGrounded 0 = .ok (.aload_n 0, 1) := by decide +kernel
theorem dX6_isGrounded_1 : decode cX6_isGrounded 1 = .ok (.getfield 21, 3) := by decide +kernel
theorem dX6_isGrounded_4 : decode cX6_isGrounded 4 = .ok (.getfield 32, 3) := by decide +kernel
theorem dX6_isGrounded_7 : decode cX6_isGrounded 7 = .ok (.aload_n 0, 1) := by decide +kernel
theorem dX6_isGrounded_8 : decode cX6_isGrounded 8 = .ok (.aload_n 0, 1) := by decide +kernel
theorem dX6_isGrounded_9 : decode cX6_isGrounded 9 = .ok (.invokevirtual 37, 3) := by decide +kernel
theorem dX6_isGrounded_12 : decode cX6_isGrounded 12 = .ok (.invokevirtual 41, 3) := by decide +kernel
theorem dX6_isGrounded_15 : decode cX6_isGrounded 15 = .ok (.iconst (-1), 1) := by decide +kernel
theorem dX6_isGrounded_16 : decode cX6_isGrounded 16 = .ok (.ixor, 1) := by decide +kernel
theorem dX6_isGrounded_17 : decode cX6_isGrounded 17 = .ok (.iand, 1) := by decide +kernel
theorem dX6_isGrounded_18 : decode cX6_isGrounded 18 = .ok (.ifCond .ne 7, 3) := by decide +kernel
theorem dX6_isGrounded_21 : decode cX6_isGrounded 21 = .ok (.iconst 1, 1) := by decide +kernel
theorem dX6_isGrounded_22 : decode cX6_isGrounded 22 = .ok (.goto 4, 3) := by decide +kernel
theorem dX6_isGrounded_25 : decode cX6_isGrounded 25 = .ok (.iconst 0, 1) := by decide +kernel
theorem dX6_isGrounded_26 : decode cX6_isGrounded 26 = .ok (.ireturn, 1) := by decide +kernel
theorem dX6_keepAtoms_0 : decode cX6_keepAtoms 0 = .ok (.aload_n 0, 1) := by decide +kernel
theorem dX6_keepAtoms_1 : decode cX6_keepAtoms 1 = .ok (.getfield 17, 3) := by decide +kernel
theorem dX6_keepAtoms_4 : decode cX6_keepAtoms 4 = .ok (.istore_n 2, 1) := by decide +kernel
theorem dX6_keepAtoms_5 : decode cX6_keepAtoms 5 = .ok (.aload_n 0, 1) := by decide +kernel
theorem dX6_keepAtoms_6 : decode cX6_keepAtoms 6 = .ok (.iconst 0, 1) := by decide +kernel
theorem dX6_keepAtoms_7 : decode cX6_keepAtoms 7 = .ok (.putfield 17, 3) := by decide +kernel
theorem dX6_keepAtoms_10 : decode cX6_keepAtoms 10 = .ok (.iconst 0, 1) := by decide +kernel
theorem dX6_keepAtoms_11 : decode cX6_keepAtoms 11 = .ok (.istore_n 3, 1) := by decide +kernel
theorem dX6_keepAtoms_12 : decode cX6_keepAtoms 12 = .ok (.iload_n 3, 1) := by decide +kernel
theorem dX6_keepAtoms_13 : decode cX6_keepAtoms 13 = .ok (.iload_n 2, 1) := by decide +kernel
theorem dX6_keepAtoms_14 : decode cX6_keepAtoms 14 = .ok (.if_icmp .ge 42, 3) := by decide +kernel
theorem dX6_keepAtoms_17 : decode cX6_keepAtoms 17 = .ok (.iload_n 1, 1) := by decide +kernel
theorem dX6_keepAtoms_18 : decode cX6_keepAtoms 18 = .ok (.iload_n 3, 1) := by decide +kernel
theorem dX6_keepAtoms_19 : decode cX6_keepAtoms 19 = .ok (.invokestatic 25, 3) := by decide +kernel
theorem dX6_keepAtoms_22 : decode cX6_keepAtoms 22 = .ok (.ifCond .eq 28, 3) := by decide +kernel
theorem dX6_keepAtoms_25 : decode cX6_keepAtoms 25 = .ok (.aload_n 0, 1) := by decide +kernel
theorem dX6_keepAtoms_26 : decode cX6_keepAtoms 26 = .ok (.getfield 11, 3) := by decide +kernel
theorem dX6_keepAtoms_29 : decode cX6_keepAtoms 29 = .ok (.aload_n 0, 1) := by decide +kernel
theorem dX6_keepAtoms_30 : decode cX6_keepAtoms 30 = .ok (.getfield 17, 3) := by decide +kernel
theorem dX6_keepAtoms_33 : decode cX6_keepAtoms 33 = .ok (.aload_n 0, 1) := by decide +kernel
theorem dX6_keepAtoms_34 : decode cX6_keepAtoms 34 = .ok (.getfield 11, 3) := by decide +kernel
theorem dX6_keepAtoms_37 : decode cX6_keepAtoms 37 = .ok (.iload_n 3, 1) := by decide +kernel
theorem dX6_keepAtoms_38 : decode cX6_keepAtoms 38 = .ok (.aaload, 1) := by decide +kernel
theorem dX6_keepAtoms_39 : decode cX6_keepAtoms 39 = .ok (.aastore, 1) := by decide +kernel
theorem dX6_keepAtoms_40 : decode cX6_keepAtoms 40 = .ok (.aload_n 0, 1) := by decide +kernel
theorem dX6_keepAtoms_41 : decode cX6_keepAtoms 41 = .ok (.dup, 1) := by decide +kernel
theorem dX6_keepAtoms_42 : decode cX6_keepAtoms 42 = .ok (.getfield 17, 3) := by decide +kernel
theorem dX6_keepAtoms_45 : decode cX6_keepAtoms 45 = .ok (.iconst 1, 1) := by decide +kernel
theorem dX6_keepAtoms_46 : decode cX6_keepAtoms 46 = .ok (.iadd, 1) := by decide +kernel
theorem dX6_keepAtoms_47 : decode cX6_keepAtoms 47 = .ok (.putfield 17, 3) := by decide +kernel
theorem dX6_keepAtoms_50 : decode cX6_keepAtoms 50 = .ok (.iinc 3 1, 3) := by decide +kernel
theorem dX6_keepAtoms_53 : decode cX6_keepAtoms 53 = .ok (.goto (-41), 3) := by decide +kernel
theorem dX6_keepAtoms_56 : decode cX6_keepAtoms 56 = .ok (.return_, 1) := by decide +kernel
theorem dX7_init_0 : decode cX7_init 0 = .ok (.aload_n 0, 1) := by decide +kernel
theorem dX7_init_1 : decode cX7_init 1 = .ok (.invokespecial 3, 3) := by decide +kernel
theorem dX7_init_4 : decode cX7_init 4 = .ok (.aload_n 0, 1) := by decide +kernel
theorem dX7_init_5 : decode cX7_init 5 = .ok (.iload_n 1, 1) := by decide +kernel
theorem dX7_init_6 : decode cX7_init 6 = .ok (.putfield 9, 3) := by decide +kernel
theorem dX7_init_9 : decode cX7_init 9 = .ok (.aload_n 0, 1) := by decide +kernel
theorem dX7_init_10 : decode cX7_init 10 = .ok (.iconst 3, 1) := by decide +kernel
theorem dX7_init_11 : decode cX7_init 11 = .ok (.newarray .int, 2) := by decide +kernel
theorem dX7_init_13 : decode cX7_init 13 = .ok (.dup, 1) := by decide +kernel
theorem dX7_init_14 : decode cX7_init 14 = .ok (.iconst 0, 1) := by decide +kernel
theorem dX7_init_15 : decode cX7_init 15 = .ok (.iload_n 2, 1) := by decide +kernel
theorem dX7_init_16 : decode cX7_init 16 = .ok (.iastore, 1) := by decide +kernel
theorem dX7_init_17 : decode cX7_init 17 = .ok (.dup, 1) := by decide +kernel
theorem dX7_init_18 : decode cX7_init 18 = .ok (.iconst 1, 1) := by decide +kernel
theorem dX7_init_19 : decode cX7_init 19 = .ok (.iload_n 3, 1) := by decide +kernel
theorem dX7_init_20 : decode cX7_init 20 = .ok (.iastore, 1) := by decide +kernel
theorem dX7_init_21 : decode cX7_init 21 = .ok (.dup, 1) := by decide +kernel
theorem dX7_init_22 : decode cX7_init 22 = .ok (.iconst 2, 1) := by decide +kernel
theorem dX7_init_23 : decode cX7_init 23 = .ok (.iload 4, 2) := by decide +kernel
theorem dX7_init_25 : decode cX7_init 25 = .ok (.iastore, 1) := by decide +kernel
theorem dX7_init_26 : decode cX7_init 26 = .ok (.putfield 15, 3) := by decide +kernel
theorem dX7_init_29 : decode cX7_init 29 = .ok (.iconst 0, 1) := by decide +kernel
theorem dX7_init_30 : decode cX7_init 30 = .ok (.istore 5, 2) := by decide +kernel
theorem dX7_init_32 : decode cX7_init 32 = .ok (.iconst 0, 1) := by decide +kernel
theorem dX7_init_33 : decode cX7_init 33 = .ok (.istore 6, 2) := by decide +kernel
theorem dX7_init_35 : decode cX7_init 35 = .ok (.iconst 0, 1) := by decide +kernel
theorem dX7_init_36 : decode cX7_init 36 = .ok (.istore 7, 2) := by decide +kernel
theorem dX7_init_38 : decode cX7_init 38 = .ok (.iload 7, 2) := by decide +kernel
theorem dX7_init_40 : decode cX7_init 40 = .ok (.iload_n 1, 1) := by decide +kernel
theorem dX7_init_41 : decode cX7_init 41 = .ok (.if_icmp .ge 56, 3) := by decide +kernel
theorem dX7_init_44 : decode cX7_init 44 = .ok (.aload_n 0, 1) := by decide +kernel
theorem dX7_init_45 : decode cX7_init 45 = .ok (.getfield 15, 3) := by decide +kernel
theorem dX7_init_48 : decode cX7_init 48 = .ok (.iload 7, 2) := by decide +kernel
theorem dX7_init_50 : decode cX7_init 50 = .ok (.iaload, 1) := by decide +kernel
theorem dX7_init_51 : decode cX7_init 51 = .ok (.invokestatic 19, 3) := by decide +kernel
theorem dX7_init_54 : decode cX7_init 54 = .ok (.ifCond .eq 20, 3) := by decide +kernel
theorem dX7_init_57 : decode cX7_init 57 = .ok (.iload 5, 2) := by decide +kernel
theorem dX7_init_59 : decode cX7_init 59 = .ok (.iconst 1, 1) := by decide +kernel
theorem dX7_init_60 : decode cX7_init 60 = .ok (.aload_n 0, 1) := by decide +kernel
theorem dX7_init_61 : decode cX7_init 61 = .ok (.getfield 15, 3) := by decide +kernel
theorem dX7_init_64 : decode cX7_init 64 = .ok (.iload 7, 2) := by decide +kernel
theorem dX7_init_66 : decode cX7_init 66 = .ok (.iaload, 1) := by decide +kernel
theorem dX7_init_67 : decode cX7_init 67 = .ok (.ishl, 1) := by decide +kernel
theorem dX7_init_68 : decode cX7_init 68 = .ok (.ior, 1) := by decide +kernel
theorem dX7_init_69 : decode cX7_init 69 = .ok (.istore 5, 2) := by decide +kernel
theorem dX7_init_71 : decode cX7_init 71 = .ok (.goto 20, 3) := by decide +kernel
theorem dX7_init_74 : decode cX7_init 74 = .ok (.iload 6, 2) := by decide +kernel
theorem dX7_init_76 : decode cX7_init 76 = .ok (.iconst 1, 1) := by decide +kernel
theorem dX7_init_77 : decode cX7_init 77 = .ok (.aload_n 0, 1) := by decide +kernel
theorem dX7_init_78 : decode cX7_init 78 = .ok (.getfield 15, 3) := by decide +kernel
theorem dX7_init_81 : decode cX7_init 81 = .ok (.iload 7, 2) := by decide +kernel
theorem dX7_init_83 : decode cX7_init 83 = .ok (.iaload, 1) := by decide +kernel
theorem dX7_init_84 : decode cX7_init 84 = .ok (.bipush 10, 2) := by decide +kernel
theorem dX7_init_86 : decode cX7_init 86 = .ok (.isub, 1) := by decide +kernel
theorem dX7_init_87 : decode cX7_init 87 = .ok (.ishl, 1) := by decide +kernel
theorem dX7_init_88 : decode cX7_init 88 = .ok (.ior, 1) := by decide +kernel
theorem dX7_init_89 : decode cX7_init 89 = .ok (.istore 6, 2) := by decide +kernel
theorem dX7_init_91 : decode cX7_init 91 = .ok (.iinc 7 1, 3) := by decide +kernel
theorem dX7_init_94 : decode cX7_init 94 = .ok (.goto (-56), 3) := by decide +kernel
theorem dX7_init_97 : decode cX7_init 97 = .ok (.aload_n 0, 1) := by decide +kernel
theorem dX7_init_98 : decode cX7_init 98 = .ok (.iload 5, 2) := by decide +kernel
theorem dX7_init_100 : decode cX7_init 100 = .ok (.putfield 23, 3) := by decide +kernel
theorem dX7_init_103 : decode cX7_init 103 = .ok (.aload_n 0, 1) := by decide +kernel
theorem dX7_init_104 : decode cX7_init 104 = .ok (.iload 6, 2) := by decide +kernel
theorem dX7_init_106 : decode cX7_init 106 = .ok (.putfield 26, 3) := by decide +kernel
theorem dX7_init_109 : decode cX7_init 109 = .ok (.return_, 1) := by decide +kernel
theorem dX7_valueOf_0 : decode cX7_valueOf 0 = .ok (.aload_n 0, 1) := by decide +kernel
theorem dX7_valueOf_1 : decode cX7_valueOf 1 = .ok (.getfield 15, 3) := by decide +kernel
theorem dX7_valueOf_4 : decode cX7_valueOf 4 = .ok (.iload_n 1, 1) := by decide +kernel
theorem dX7_valueOf_5 : decode cX7_valueOf 5 = .ok (.iaload, 1) := by decide +kernel
theorem dX7_valueOf_6 : decode cX7_valueOf 6 = .ok (.bipush 10, 2) := by decide +kernel
theorem dX7_valueOf_8 : decode cX7_valueOf 8 = .ok (.if_icmp .ge 14, 3) := by decide +kernel
theorem dX7_valueOf_11 : decode cX7_valueOf 11 = .ok (.aload_n 2, 1) := by decide +kernel
theorem dX7_valueOf_12 : decode cX7_valueOf 12 = .ok (.aload_n 0, 1) := by decide +kernel
theorem dX7_valueOf_13 : decode cX7_valueOf 13 = .ok (.getfield 15, 3) := by decide +kernel
theorem dX7_valueOf_16 : decode cX7_valueOf 16 = .ok (.iload_n 1, 1) := by decide +kernel
theorem dX7_valueOf_17 : decode cX7_valueOf 17 = .ok (.iaload, 1) := by decide +kernel
theorem dX7_valueOf_18 : decode cX7_valueOf 18 = .ok (.iaload, 1) := by decide +kernel
theorem dX7_valueOf_19 : decode cX7_valueOf 19 = .ok (.goto 12, 3) := by decide +kernel
theorem dX7_valueOf_22 : decode cX7_valueOf 22 = .ok (.aload_n 0, 1) := by decide +kernel
theorem dX7_valueOf_23 : decode cX7_valueOf 23 = .ok (.getfield 15, 3) := by decide +kernel
theorem dX7_valueOf_26 : decode cX7_valueOf 26 = .ok (.iload_n 1, 1) := by decide +kernel
theorem dX7_valueOf_27 : decode cX7_valueOf 27 = .ok (.iaload, 1) := by decide +kernel
theorem dX7_valueOf_28 : decode cX7_valueOf 28 = .ok (.bipush 10, 2) := by decide +kernel
theorem dX7_valueOf_30 : decode cX7_valueOf 30 = .ok (.isub, 1) := by decide +kernel
theorem dX7_valueOf_31 : decode cX7_valueOf 31 = .ok (.ireturn, 1) := by decide +kernel
set_option maxHeartbeats 4000000 in
set_option maxRecDepth 100000 in
/-- Terms(many, t, u, v) -/
theorem m_Terms (l : Launch) (D : va_G) (cy : Nat → ClassId) (O : Nat × va_E → Prop) {h0 n : Nat} {x y z : Int32} {t : Nat → Nat} (hn : n ≤ 3) (ht : ∀ k, k < n → a3 x y z k = nI (t k) ∧ isT (t k)) : Cv l yX7_init (.code yX7_init cX7_init 8 none :: WALL) ({ frames := 1, cells := 1, slots := 3, locals := 20 }) D cy O [.ref h0, .int (nI n), .int x, .int y, .int z] [(h0, .inr (7, [.int 0, .null, .int 0, .int 0]))] 1 3 (fun (w : va_W) => ∃ q : Nat, w = [(h0, .inr (7, [.int (nI n), .ref q, .int (nI (vsf t n)), .int (nI (vlf t n))])), (q, .inl (cy 0, 3, .inl (a3 x y z)))]) := by
  refine z_metv (by decide) rfl rfl (Nat.le_of_ble_eq_true rfl) ?_
  intro p e s m args below meth c X hr hin
  refine z_eq (ws' := [(h0, .inr (7, [.int 0, .null, .int 0, .int 0]))]) (lv' := [(0, .ref h0), (1, .int (nI n)), (2, .int x), (3, .int y), (4, .int z)]) (st' := []) rfl rfl rfl ?_
  refine z_aload_n X dX7_init_0 rfl (j := 0) rfl ?_
  refine z_objInit X ml_X7_3 im_obj cd_obj (Nat.le_of_ble_eq_true rfl) (Nat.le_of_ble_eq_true rfl) dX7_init_1 ?_
  refine z_aload_n X dX7_init_4 rfl (j := 0) rfl ?_
  refine z_iload_n X dX7_init_5 rfl (j := 1) rfl ?_
  refine z_putF X 0 (C := RX7) (T := TX7) (N := 4) inX7 tyX7 tyX7_ok nmX7 rfl rfl 0 (by decide) fl_X7_9 (fun _ h9 => h9) rfl hin rfl (ty := .int) (by decide +kernel) rfl rfl (Nat.le_of_ble_eq_true rfl) (ws' := [(h0, .inr (7, [.int (nI n), .null, .int 0, .int 0]))]) rfl dX7_init_6 ?_
  refine z_aload_n X dX7_init_9 rfl (j := 0) rfl ?_
  refine z_iconst X (v := 3) dX7_init_10 (by decide) ?_
  refine z_newaI X (N := 3) ac_int (by decide) (by decide) (Nat.le_of_ble_eq_true rfl) (Nat.le_of_ble_eq_true rfl) (Nat.le_of_ble_eq_true rfl) dX7_init_11 (fun q1 => ?_)
  refine z_eq (ws' := [(h0, .inr (7, [.int (nI n), .null, .int 0, .int 0])), (q1, .inl (cy 0, 3, .inl (fun _ => 0)))]) (lv' := [(0, .ref h0), (1, .int (nI n)), (2, .int x), (3, .int y), (4, .int z)]) (st' := [.ref q1, .ref h0]) rfl rfl rfl ?_
  refine z_widen (k' := 1) (n' := 3) (Nat.le_of_ble_eq_true rfl) (Nat.le_of_ble_eq_true rfl) ?_
  refine z_dup X dX7_init_13 rfl ?_
  refine z_iconst X (v := 0) dX7_init_14 (by decide) ?_
  refine z_iload_n X dX7_init_15 rfl (j := 2) rfl ?_
  refine z_iastW X 1 rfl (by unfold vp_in; decide) (ws' := [(h0, .inr (7, [.int (nI n), .null, .int 0, .int 0])), (q1, .inl (cy 0, 3, .inl (upd (fun _ => 0) (0 : Int32).toNatClampNeg x)))]) rfl dX7_init_16 ?_
  refine z_dup X dX7_init_17 rfl ?_
  refine z_iconst X (v := 1) dX7_init_18 (by decide) ?_
  refine z_iload_n X dX7_init_19 rfl (j := 3) rfl ?_
  refine z_iastW X 1 rfl (by unfold vp_in; decide) (ws' := [(h0, .inr (7, [.int (nI n), .null, .int 0, .int 0])), (q1, .inl (cy 0, 3, .inl (upd (upd (fun _ => 0) (0 : Int32).toNatClampNeg x) (1 : Int32).toNatClampNeg y)))]) rfl dX7_init_20 ?_
  refine z_dup X dX7_init_21 rfl ?_
  refine z_iconst X (v := 2) dX7_init_22 (by decide) ?_
  refine z_iload X dX7_init_23 (j := 4) rfl ?_
  refine z_iastW X 1 rfl (by unfold vp_in; decide) (ws' := [(h0, .inr (7, [.int (nI n), .null, .int 0, .int 0])), (q1, .inl (cy 0, 3, .inl (upd (upd (upd (fun _ => 0) (0 : Int32).toNatClampNeg x) (1 : Int32).toNatClampNeg y) (2 : Int32).toNatClampNeg z)))]) rfl dX7_init_25 ?_
  refine z_putF X 0 (C := RX7) (T := TX7) (N := 4) inX7 tyX7 tyX7_ok nmX7 rfl rfl 1 (by decide) fl_X7_15 (fun _ h9 => h9) rfl hin rfl (ty := (.array .int)) (by decide +kernel) rfl rfl (Nat.le_of_ble_eq_true rfl) (ws' := [(h0, .inr (7, [.int (nI n), .ref q1, .int 0, .int 0])), (q1, .inl (cy 0, 3, .inl (upd (upd (upd (fun _ => 0) (0 : Int32).toNatClampNeg x) (1 : Int32).toNatClampNeg y) (2 : Int32).toNatClampNeg z)))]) rfl dX7_init_26 ?_
  refine z_iconst X (v := 0) dX7_init_29 (by decide) ?_
  refine z_istore X (lv' := [(5, .int 0), (0, .ref h0), (1, .int (nI n)), (2, .int x), (3, .int y), (4, .int z)]) dX7_init_30 (by decide) rfl ?_
  refine z_iconst X (v := 0) dX7_init_32 (by decide) ?_
  refine z_istore X (lv' := [(6, .int 0), (5, .int 0), (0, .ref h0), (1, .int (nI n)), (2, .int x), (3, .int y), (4, .int z)]) dX7_init_33 (by decide) rfl ?_
  refine z_iconst X (v := 0) dX7_init_35 (by decide) ?_
  refine z_istore X (lv' := [(7, .int 0), (6, .int 0), (5, .int 0), (0, .ref h0), (1, .int (nI n)), (2, .int x), (3, .int y), (4, .int z)]) dX7_init_36 (by decide) rfl ?_
  have L : ∀ (d : Nat) (j : Nat), j + d = n → Zz D (va_A [(h0, .inr (7, [.int 0, .null, .int 0, .int 0]))] s.heap.size) 8 p l e ({ frames := 1, cells := 1, slots := 3, locals := 20 }) s m args below meth c (MQ below (va_Qv (fun (w : va_W) => ∃ q : Nat, w = [(h0, .inr (7, [.int (nI n), .ref q, .int (nI (vsf t n)), .int (nI (vlf t n))])), (q, .inl (cy 0, 3, .inl (a3 x y z)))]) (end_ D [(h0, .inr (7, [.int 0, .null, .int 0, .int 0]))] s.heap.size) (va_A [(h0, .inr (7, [.int 0, .null, .int 0, .int 0]))] s.heap.size)) args s 1 3 (va_A [(h0, .inr (7, [.int 0, .null, .int 0, .int 0]))] s.heap.size)) [(h0, .inr (7, [.int (nI n), .ref q1, .int 0, .int 0])), (q1, .inl (cy 0, 3, .inl (a3 x y z)))] [(7, .int (nI j)), (6, .int (nI (vlf t j))), (5, .int (nI (vsf t j))), (0, .ref h0), (1, .int (nI n)), (2, .int x), (3, .int y), (4, .int z)] 1 3 38 [] := by
    intro d
    induction d with
    | zero =>
      intro j hL0
      refine z_iload X dX7_init_38 (j := 0) rfl ?_
      refine z_iload_n X dX7_init_40 rfl (j := 4) rfl ?_
      refine z_icmp_ge X (tgt := 97) dX7_init_41 (by decide) (fun c_41 => ?_) (fun c9 => absurd (by rw [show j = n by omega]; exact nI_le (Nat.le_refl _) (by omega)) c9)
      refine z_eq (ws' := [(h0, .inr (7, [.int (nI n), .ref q1, .int 0, .int 0])), (q1, .inl (cy 0, 3, .inl (a3 x y z)))]) (lv' := [(7, .int (nI j)), (6, .int (nI (vlf t n))), (5, .int (nI (vsf t n))), (0, .ref h0), (1, .int (nI n)), (2, .int x), (3, .int y), (4, .int z)]) (st' := []) rfl (by rw [show j = n by omega]) rfl ?_
      refine z_aload_n X dX7_init_97 rfl (j := 3) rfl ?_
      refine z_iload X dX7_init_98 (j := 2) rfl ?_
      refine z_putF X 0 (C := RX7) (T := TX7) (N := 4) inX7 tyX7 tyX7_ok nmX7 rfl rfl 2 (by decide) fl_X7_23 (fun _ h9 => h9) rfl hin rfl (ty := .int) (by decide +kernel) rfl rfl (Nat.le_of_ble_eq_true rfl) (ws' := [(h0, .inr (7, [.int (nI n), .ref q1, .int (nI (vsf t n)), .int 0])), (q1, .inl (cy 0, 3, .inl (a3 x y z)))]) rfl dX7_init_100 ?_
      refine z_aload_n X dX7_init_103 rfl (j := 3) rfl ?_
      refine z_iload X dX7_init_104 (j := 1) rfl ?_
      refine z_putF X 0 (C := RX7) (T := TX7) (N := 4) inX7 tyX7 tyX7_ok nmX7 rfl rfl 3 (by decide) fl_X7_26 (fun _ h9 => h9) rfl hin rfl (ty := .int) (by decide +kernel) rfl rfl (Nat.le_of_ble_eq_true rfl) (ws' := [(h0, .inr (7, [.int (nI n), .ref q1, .int (nI (vsf t n)), .int (nI (vlf t n))])), (q1, .inl (cy 0, 3, .inl (a3 x y z)))]) rfl dX7_init_106 ?_
      exact z_endv X hr [(h0, .inr (7, [.int (nI n), .ref q1, .int (nI (vsf t n)), .int (nI (vlf t n))])), (q1, .inl (cy 0, 3, .inl (a3 x y z)))] [0, 1] rfl rfl rfl ⟨q1, rfl⟩ dX7_init_109
    | succ d ih =>
      intro j hL0
      have htj := (ht j (by omega)).2
      unfold isT at htj
      refine z_iload X dX7_init_38 (j := 0) rfl ?_
      refine z_iload_n X dX7_init_40 rfl (j := 4) rfl ?_
      refine z_icmp_ge X (tgt := 97) dX7_init_41 (by decide) (fun c9 => absurd c9 (nI_ge (by omega) (by omega))) (fun c_41 => ?_)
      refine z_aload_n X dX7_init_44 rfl (j := 3) rfl ?_
      refine z_getW X 0 (C := RX7) (T := TX7) (N := 4) inX7 rfl rfl 1 (by decide) fl_X7_15 (fun _ h9 => h9) rfl dX7_init_45 ?_
      refine z_iload X dX7_init_48 (j := 0) rfl ?_
      refine z_ialdW X 1 rfl (v := (nI (t j))) (vp_in_nI (by omega) (by decide)) (at_nI (by omega) (ht j (by omega)).1) dX7_init_50 ?_
      refine z_reti X (as := [.int (nI (t j))]) (wc := []) (wr := [(h0, .inr (7, [.int (nI n), .ref q1, .int 0, .int 0])), (q1, .inl (cy 0, 3, .inl (a3 x y z)))]) (rest := []) (fun H9 locs9 ls9 hP9 hS9 hl9 hb9 hp9 => va_runSN (As := [.int (nI (t j))]) (rest := []) X.fix (m_isVariable l D cy O (nI (t j)) H9.size) ⟨va_cnB 1 X.hts (gB cd_X9_isVariable) rfl rfl rfl (X.nw.1 _ (List.mem_of_getElem? (i := 6) rfl)) (X.hts _ ni_X9) (by decide +kernel) ⟨Nat.le_of_ble_eq_true rfl, Nat.le_of_ble_eq_true rfl⟩, X.hts _ sm_X9_isVariable, trivial⟩ ⟨hb9, hp9⟩ rfl rfl hl9.1 rfl (lv_room (Nat.le_of_ble_eq_true rfl)) dX7_init_51 ⟨Nat.le_of_ble_eq_true rfl, Nat.le_of_ble_eq_true rfl⟩) [] [0, 1] rfl rfl rfl rfl rfl (by decide) (fun _ h => Or.inl h) (fun r2 w3 h4 => ?_)
      obtain ⟨rfl, rfl⟩ := h4
      refine z_eq (ws' := [(h0, .inr (7, [.int (nI n), .ref q1, .int 0, .int 0])), (q1, .inl (cy 0, 3, .inl (a3 x y z)))]) (lv' := [(7, .int (nI j)), (6, .int (nI (vlf t j))), (5, .int (nI (vsf t j))), (0, .ref h0), (1, .int (nI n)), (2, .int x), (3, .int y), (4, .int z)]) (st' := [.int (vI (nI (t j)))]) rfl rfl rfl ?_
      refine z_widen (k' := 1) (n' := 3) (Nat.le_refl _) (Nat.le_refl _) ?_
      refine z_if_eq X (tgt := 74) dX7_init_54 (by decide) (fun c_54 => ?_) (fun c_54 => ?_)
      · skip
        refine z_iload X dX7_init_74 (j := 1) rfl ?_
        refine z_iconst X (v := 1) dX7_init_76 (by decide) ?_
        refine z_aload_n X dX7_init_77 rfl (j := 3) rfl ?_
        refine z_getW X 0 (C := RX7) (T := TX7) (N := 4) inX7 rfl rfl 1 (by decide) fl_X7_15 (fun _ h9 => h9) rfl dX7_init_78 ?_
        refine z_iload X dX7_init_81 (j := 0) rfl ?_
        have htv : ¬ t j < 6 := by rw [vI_nI (by omega)] at c_54; intro h9; rw [if_pos h9] at c_54; exact absurd c_54 (by decide)
        refine z_ialdW X 1 rfl (v := (nI (t j))) (vp_in_nI (by omega) (by decide)) (at_nI (by omega) (ht j (by omega)).1) dX7_init_83 ?_
        refine z_bipush X (v := 10) dX7_init_84 (by decide) ?_
        refine z_isub X (v := (nI (t j - 10))) dX7_init_86 (sub_10 (by omega)) ?_
        refine z_ishl X (v := (nI (2 ^ (t j - 10)))) dX7_init_87 (shl_1 _ (by omega)) ?_
        refine z_ior X (v := (nI (vlf t j ||| 2 ^ (t j - 10)))) dX7_init_88 (nI_or _ _) ?_
        refine z_istore X (lv' := [(6, .int (nI (vlf t j ||| 2 ^ (t j - 10)))), (7, .int (nI j)), (5, .int (nI (vsf t j))), (0, .ref h0), (1, .int (nI n)), (2, .int x), (3, .int y), (4, .int z)]) dX7_init_89 (by decide) rfl ?_
        refine z_iinc X (j := 1) (v := (nI (j + 1))) (lv' := [(7, .int (nI (j + 1))), (6, .int (nI (vlf t j ||| 2 ^ (t j - 10)))), (5, .int (nI (vsf t j))), (0, .ref h0), (1, .int (nI n)), (2, .int x), (3, .int y), (4, .int z)]) dX7_init_91 rfl (nI_1 j) (by decide) rfl ?_
        refine z_goto X (tgt := 38) dX7_init_94 (by decide) ?_
        refine z_lv [0, 1, 2, 3, 4, 5, 6, 7] (lv' := [(7, .int (nI (j + 1))), (6, .int (nI (vlf t j ||| 2 ^ (t j - 10)))), (5, .int (nI (vsf t j))), (0, .ref h0), (1, .int (nI n)), (2, .int x), (3, .int y), (4, .int z)]) rfl ?_
        refine z_eq (ws' := [(h0, .inr (7, [.int (nI n), .ref q1, .int 0, .int 0])), (q1, .inl (cy 0, 3, .inl (a3 x y z)))]) (lv' := [(7, .int (nI (j + 1))), (6, .int (nI (vlf t (j + 1)))), (5, .int (nI (vsf t (j + 1)))), (0, .ref h0), (1, .int (nI n)), (2, .int x), (3, .int y), (4, .int z)]) (st' := []) rfl (by rw [vsf, vlf, if_neg htv, if_neg htv]) rfl ?_
        exact ih (j + 1) (by omega)
      · skip
        refine z_iload X dX7_init_57 (j := 2) rfl ?_
        refine z_iconst X (v := 1) dX7_init_59 (by decide) ?_
        refine z_aload_n X dX7_init_60 rfl (j := 3) rfl ?_
        refine z_getW X 0 (C := RX7) (T := TX7) (N := 4) inX7 rfl rfl 1 (by decide) fl_X7_15 (fun _ h9 => h9) rfl dX7_init_61 ?_
        refine z_iload X dX7_init_64 (j := 0) rfl ?_
        refine z_ialdW X 1 rfl (v := (nI (t j))) (vp_in_nI (by omega) (by decide)) (at_nI (by omega) (ht j (by omega)).1) dX7_init_66 ?_
        have htv : t j < 6 := by rw [vI_nI (by omega)] at c_54; by_cases h9 : t j < 6; exact h9; rw [if_neg h9] at c_54; exact absurd rfl c_54
        refine z_ishl X (v := (nI (2 ^ t j))) dX7_init_67 (shl_1 _ (by omega)) ?_
        refine z_ior X (v := (nI (vsf t j ||| 2 ^ t j))) dX7_init_68 (nI_or _ _) ?_
        refine z_istore X (lv' := [(5, .int (nI (vsf t j ||| 2 ^ t j))), (7, .int (nI j)), (6, .int (nI (vlf t j))), (0, .ref h0), (1, .int (nI n)), (2, .int x), (3, .int y), (4, .int z)]) dX7_init_69 (by decide) rfl ?_
        refine z_goto X (tgt := 91) dX7_init_71 (by decide) ?_
        refine z_iinc X (j := 1) (v := (nI (j + 1))) (lv' := [(7, .int (nI (j + 1))), (5, .int (nI (vsf t j ||| 2 ^ t j))), (6, .int (nI (vlf t j))), (0, .ref h0), (1, .int (nI n)), (2, .int x), (3, .int y), (4, .int z)]) dX7_init_91 rfl (nI_1 j) (by decide) rfl ?_
        refine z_goto X (tgt := 38) dX7_init_94 (by decide) ?_
        refine z_lv [0, 2, 1, 3, 4, 5, 6, 7] (lv' := [(7, .int (nI (j + 1))), (6, .int (nI (vlf t j))), (5, .int (nI (vsf t j ||| 2 ^ t j))), (0, .ref h0), (1, .int (nI n)), (2, .int x), (3, .int y), (4, .int z)]) rfl ?_
        refine z_eq (ws' := [(h0, .inr (7, [.int (nI n), .ref q1, .int 0, .int 0])), (q1, .inl (cy 0, 3, .inl (a3 x y z)))]) (lv' := [(7, .int (nI (j + 1))), (6, .int (nI (vlf t (j + 1)))), (5, .int (nI (vsf t (j + 1)))), (0, .ref h0), (1, .int (nI n)), (2, .int x), (3, .int y), (4, .int z)]) (st' := []) rfl (by rw [vsf, vlf, if_pos htv, if_pos htv]) rfl ?_
        exact ih (j + 1) (by omega)
  refine z_eq (ws' := [(h0, .inr (7, [.int (nI n), .ref q1, .int 0, .int 0])), (q1, .inl (cy 0, 3, .inl (a3 x y z)))]) (lv' := [(7, .int (nI 0)), (6, .int (nI (vlf t 0))), (5, .int (nI (vsf t 0))), (0, .ref h0), (1, .int (nI n)), (2, .int x), (3, .int y), (4, .int z)]) (st' := []) rfl rfl rfl ?_
  exact L n 0 (by omega)
set_option maxHeartbeats 4000000 in
set_option maxRecDepth 100000 in
/-- valueOf(k, values) -/
theorem m_valueOf (l : Launch) (D : va_G) (cy : Nat → ClassId) (O : Nat × va_E → Prop) {a ta g k t : Nat} {v0 v2 v3 : Value} {T : Nat → Int32} {vo : Nat → Option Nat} (hO : O (a, .inr (7, [v0, .ref ta, v2, v3]))) (hT : O (ta, .inl (cy 0, 3, .inl T))) (hg : O (g, .inl (cy 0, 6, .inl (vA vo)))) (hk : k < 3) (ht : T k = nI t) (hi : isT t) : Ci l yX7_valueOf (.code yX7_valueOf cX7_valueOf 3 (some .int) :: WALL) ({ frames := 0, cells := 0, slots := 0, locals := 0 }) D cy O [.ref a, .int (nI k), .ref g] [] 0 0 (fun (r : Int32) (w : va_W) => r = oI (tvo vo t) ∧ w = []) := by
  unfold isT at hi
  refine z_meti (by decide) rfl rfl (Nat.le_of_ble_eq_true rfl) ?_
  intro p e s m args below meth c X hr hin
  refine z_eq (ws' := []) (lv' := [(0, .ref a), (1, .int (nI k)), (2, .ref g)]) (st' := []) rfl rfl rfl ?_
  refine z_aload_n X dX7_valueOf_0 rfl (j := 0) rfl ?_
  refine z_getO X (ci := 7) (C := RX7) (T := TX7) (N := 4) inX7 hO rfl 1 (by decide) fl_X7_15 (fun _ h9 => h9) rfl dX7_valueOf_1 ?_
  refine z_iload_n X dX7_valueOf_4 rfl (j := 1) rfl ?_
  refine z_ialdO X hT (v := (nI t)) (vp_in_nI hk (by decide)) (at_nI (by omega) ht) dX7_valueOf_5 ?_
  refine z_bipush X (v := 10) dX7_valueOf_6 (by decide) ?_
  refine z_icmp_ge X (tgt := 22) dX7_valueOf_8 (by decide) (fun c_8 => ?_) (fun c_8 => ?_)
  · skip
    refine z_aload_n X dX7_valueOf_22 rfl (j := 0) rfl ?_
    refine z_getO X (ci := 7) (C := RX7) (T := TX7) (N := 4) inX7 hO rfl 1 (by decide) fl_X7_15 (fun _ h9 => h9) rfl dX7_valueOf_23 ?_
    refine z_iload_n X dX7_valueOf_26 rfl (j := 1) rfl ?_
    refine z_ialdO X hT (v := (nI t)) (vp_in_nI hk (by decide)) (at_nI (by omega) ht) dX7_valueOf_27 ?_
    refine z_bipush X (v := 10) dX7_valueOf_28 (by decide) ?_
    have h6 : 10 ≤ t := (nI_leI (a := 10) (by decide) (by omega)).mp c_8
    refine z_isub X (v := (nI (t - 10))) dX7_valueOf_30 (sub_10 (by omega)) ?_
    exact z_endi X hr [] [] rfl rfl rfl ⟨(by rw [tvo, if_neg (by omega)]; rfl), rfl⟩ dX7_valueOf_31
  · skip
    refine z_aload_n X dX7_valueOf_11 rfl (j := 2) rfl ?_
    refine z_aload_n X dX7_valueOf_12 rfl (j := 0) rfl ?_
    refine z_getO X (ci := 7) (C := RX7) (T := TX7) (N := 4) inX7 hO rfl 1 (by decide) fl_X7_15 (fun _ h9 => h9) rfl dX7_valueOf_13 ?_
    refine z_iload_n X dX7_valueOf_16 rfl (j := 1) rfl ?_
    refine z_ialdO X hT (v := (nI t)) (vp_in_nI hk (by decide)) (at_nI (by omega) ht) dX7_valueOf_17 ?_
    have h6 : t < 6 := by have h9 := lt_of_nle (a := 10) c_8 (by decide) (by omega); omega
    refine z_ialdO X hg (v := (oI (vo t))) (vp_in_nI (by omega) (by decide)) (at_nI (by omega) rfl) dX7_valueOf_18 ?_
    refine z_goto X (tgt := 31) dX7_valueOf_19 (by decide) ?_
    exact z_endi X hr [] [] rfl rfl rfl ⟨(by rw [tvo, if_pos (by omega)]), rfl⟩ dX7_valueOf_31
set_option maxHeartbeats 4000000 in
set_option maxRecDepth 100000 in
/-- Atom(relation, terms) -/
theorem m_Atom (l : Launch) (D : va_G) (cy : Nat → ClassId) (O : Nat × va_E → Prop) {h0 r t : Nat} : Cv l yX0_init (.code yX0_init cX0_init 3 none :: WALL) ({ frames := 1, cells := 0, slots := 0, locals := 13 }) D cy O [.ref h0, .ref r, .ref t] [(h0, .inr (0, [.null, .null]))] 0 0 (fun (w : va_W) => w = [(h0, .inr (0, [.ref r, .ref t]))]) := by
  refine z_metv (by decide) rfl rfl (Nat.le_of_ble_eq_true rfl) ?_
  intro p e s m args below meth c X hr hin
  refine z_eq (ws' := [(h0, .inr (0, [.null, .null]))]) (lv' := [(0, .ref h0), (1, .ref r), (2, .ref t)]) (st' := []) rfl rfl rfl ?_
  refine z_aload_n X dX0_init_0 rfl (j := 0) rfl ?_
  refine z_objInit X ml_X0_3 im_obj cd_obj (Nat.le_of_ble_eq_true rfl) (Nat.le_of_ble_eq_true rfl) dX0_init_1 ?_
  refine z_aload_n X dX0_init_4 rfl (j := 0) rfl ?_
  refine z_aload_n X dX0_init_5 rfl (j := 1) rfl ?_
  refine z_putF X 0 (C := RX0) (T := TX0) (N := 2) inX0 tyX0 tyX0_ok nmX0 rfl rfl 0 (by decide) fl_X0_9 (fun _ h9 => h9) rfl hin rfl (ty := (.object "Thimble$Relation")) (by decide +kernel) rfl rfl (Nat.le_of_ble_eq_true rfl) (ws' := [(h0, .inr (0, [.ref r, .null]))]) rfl dX0_init_6 ?_
  refine z_aload_n X dX0_init_9 rfl (j := 0) rfl ?_
  refine z_aload_n X dX0_init_10 rfl (j := 2) rfl ?_
  refine z_putF X 0 (C := RX0) (T := TX0) (N := 2) inX0 tyX0 tyX0_ok nmX0 rfl rfl 1 (by decide) fl_X0_15 (fun _ h9 => h9) rfl hin rfl (ty := (.object "Thimble$Terms")) (by decide +kernel) rfl rfl (Nat.le_of_ble_eq_true rfl) (ws' := [(h0, .inr (0, [.ref r, .ref t]))]) rfl dX0_init_11 ?_
  exact z_endv X hr [(h0, .inr (0, [.ref r, .ref t]))] [0] rfl rfl rfl rfl dX0_init_14
