theorem dX9_relation_0 : decode cX9_relation 0 = .ok (.iload_n 1, 1) := by decide +kernel
theorem dX9_relation_1 : decode cX9_relation 1 = .ok (.iconst 1, 1) := by decide +kernel
theorem dX9_relation_2 : decode cX9_relation 2 = .ok (.if_icmp .lt 8, 3) := by decide +kernel
theorem dX9_relation_5 : decode cX9_relation 5 = .ok (.iload_n 1, 1) := by decide +kernel
theorem dX9_relation_6 : decode cX9_relation 6 = .ok (.iconst 3, 1) := by decide +kernel
theorem dX9_relation_7 : decode cX9_relation 7 = .ok (.if_icmp .le 13, 3) := by decide +kernel
theorem dX9_relation_10 : decode cX9_relation 10 = .ok (.new 58, 3) := by decide +kernel
theorem dX9_relation_13 : decode cX9_relation 13 = .ok (.dup, 1) := by decide +kernel
theorem dX9_relation_14 : decode cX9_relation 14 = .ok (.ldc 60, 2) := by decide +kernel
theorem dX9_relation_16 : decode cX9_relation 16 = .ok (.invokespecial 62, 3) := by decide +kernel
theorem dX9_relation_19 : decode cX9_relation 19 = .ok (.athrow, 1) := by decide +kernel
theorem dX9_relation_20 : decode cX9_relation 20 = .ok (.aload_n 0, 1) := by decide +kernel
theorem dX9_relation_21 : decode cX9_relation 21 = .ok (.getfield 15, 3) := by decide +kernel
theorem dX9_relation_24 : decode cX9_relation 24 = .ok (.bipush 6, 2) := by decide +kernel
theorem dX9_relation_26 : decode cX9_relation 26 = .ok (.if_icmp .lt 13, 3) := by decide +kernel
theorem dX9_relation_29 : decode cX9_relation 29 = .ok (.new 65, 3) := by decide +kernel
theorem dX9_relation_32 : decode cX9_relation 32 = .ok (.dup, 1) := by decide +kernel
theorem dX9_relation_33 : decode cX9_relation 33 = .ok (.ldc 67, 2) := by decide +kernel
theorem dX9_relation_35 : decode cX9_relation 35 = .ok (.invokespecial 69, 3) := by decide +kernel
theorem dX9_relation_38 : decode cX9_relation 38 = .ok (.athrow, 1) := by decide +kernel
theorem dX9_relation_39 : decode cX9_relation 39 = .ok (.aload_n 0, 1) := by decide +kernel
theorem dX9_relation_40 : decode cX9_relation 40 = .ok (.getfield 11, 3) := by decide +kernel
theorem dX9_relation_43 : decode cX9_relation 43 = .ok (.aload_n 0, 1) := by decide +kernel
theorem dX9_relation_44 : decode cX9_relation 44 = .ok (.getfield 15, 3) := by decide +kernel
theorem dX9_relation_47 : decode cX9_relation 47 = .ok (.new 9, 3) := by decide +kernel
theorem dX9_relation_50 : decode cX9_relation 50 = .ok (.dup, 1) := by decide +kernel
theorem dX9_relation_51 : decode cX9_relation 51 = .ok (.iload_n 1, 1) := by decide +kernel
theorem dX9_relation_52 : decode cX9_relation 52 = .ok (.invokespecial 70, 3) := by decide +kernel
theorem dX9_relation_55 : decode cX9_relation 55 = .ok (.aastore, 1) := by decide +kernel
theorem dX9_relation_56 : decode cX9_relation 56 = .ok (.aload_n 0, 1) := by decide +kernel
theorem dX9_relation_57 : decode cX9_relation 57 = .ok (.dup, 1) := by decide +kernel
theorem dX9_relation_58 : decode cX9_relation 58 = .ok (.getfield 15, 3) := by decide +kernel
theorem dX9_relation_61 : decode cX9_relation 61 = .ok (.iconst 1, 1) := by decide +kernel
theorem dX9_relation_62 : decode cX9_relation 62 = .ok (.iadd, 1) := by decide +kernel
theorem dX9_relation_63 : decode cX9_relation 63 = .ok (.putfield 15, 3) := by decide +kernel
theorem dX9_relation_66 : decode cX9_relation 66 = .ok (.aload_n 0, 1) := by decide +kernel
theorem dX9_relation_67 : decode cX9_relation 67 = .ok (.getfield 15, 3) := by decide +kernel
theorem dX9_relation_70 : decode cX9_relation 70 = .ok (.iconst 1, 1) := by decide +kernel
theorem dX9_relation_71 : decode cX9_relation 71 = .ok (.isub, 1) := by decide +kernel
theorem dX9_relation_72 : decode cX9_relation 72 = .ok (.ireturn, 1) := by decide +kernel
theorem dX9_fact_0 : decode cX9_fact 0 = .ok (.aload_n 0, 1) := by decide +kernel
theorem dX9_fact_1 : decode cX9_fact 1 = .ok (.iload_n 1, 1) := by decide +kernel
theorem dX9_fact_2 : decode cX9_fact 2 = .ok (.invokevirtual 73, 3) := by decide +kernel
theorem dX9_fact_5 : decode cX9_fact 5 = .ok (.astore 5, 2) := by decide +kernel
theorem dX9_fact_7 : decode cX9_fact 7 = .ok (.aload 5, 2) := by decide +kernel
theorem dX9_fact_9 : decode cX9_fact 9 = .ok (.getfield 77, 3) := by decide +kernel
theorem dX9_fact_12 : decode cX9_fact 12 = .ok (.iload_n 2, 1) := by decide +kernel
theorem dX9_fact_13 : decode cX9_fact 13 = .ok (.iload_n 3, 1) := by decide +kernel
theorem dX9_fact_14 : decode cX9_fact 14 = .ok (.iload 4, 2) := by decide +kernel
theorem dX9_fact_16 : decode cX9_fact 16 = .ok (.invokestatic 80, 3) := by decide +kernel
theorem dX9_fact_19 : decode cX9_fact 19 = .ok (.aload 5, 2) := by decide +kernel
theorem dX9_fact_21 : decode cX9_fact 21 = .ok (.getfield 77, 3) := by decide +kernel
theorem dX9_fact_24 : decode cX9_fact 24 = .ok (.iload_n 2, 1) := by decide +kernel
theorem dX9_fact_25 : decode cX9_fact 25 = .ok (.iload_n 3, 1) := by decide +kernel
theorem dX9_fact_26 : decode cX9_fact 26 = .ok (.iload 4, 2) := by decide +kernel
theorem dX9_fact_28 : decode cX9_fact 28 = .ok (.invokestatic 84, 3) := by decide +kernel
theorem dX9_fact_31 : decode cX9_fact 31 = .ok (.istore 6, 2) := by decide +kernel
theorem dX9_fact_33 : decode cX9_fact 33 = .ok (.aload 5, 2) := by decide +kernel
theorem dX9_fact_35 : decode cX9_fact 35 = .ok (.iload 6, 2) := by decide +kernel
theorem dX9_fact_37 : decode cX9_fact 37 = .ok (.invokevirtual 88, 3) := by decide +kernel
theorem dX9_fact_40 : decode cX9_fact 40 = .ok (.ifCond .ne 30, 3) := by decide +kernel
theorem dX9_fact_43 : decode cX9_fact 43 = .ok (.aload 5, 2) := by decide +kernel
theorem dX9_fact_45 : decode cX9_fact 45 = .ok (.getfield 92, 3) := by decide +kernel
theorem dX9_fact_48 : decode cX9_fact 48 = .ok (.bipush 24, 2) := by decide +kernel
theorem dX9_fact_50 : decode cX9_fact 50 = .ok (.if_icmp .lt 13, 3) := by decide +kernel
theorem dX9_fact_53 : decode cX9_fact 53 = .ok (.new 65, 3) := by decide +kernel
theorem dX9_fact_56 : decode cX9_fact 56 = .ok (.dup, 1) := by decide +kernel
theorem dX9_fact_57 : decode cX9_fact 57 = .ok (.ldc 95, 2) := by decide +kernel
theorem dX9_fact_59 : decode cX9_fact 59 = .ok (.invokespecial 69, 3) := by decide +kernel
theorem dX9_fact_62 : decode cX9_fact 62 = .ok (.athrow, 1) := by decide +kernel
theorem dX9_fact_63 : decode cX9_fact 63 = .ok (.aload 5, 2) := by decide +kernel
theorem dX9_fact_65 : decode cX9_fact 65 = .ok (.iload 6, 2) := by decide +kernel
theorem dX9_fact_67 : decode cX9_fact 67 = .ok (.invokevirtual 97, 3) := by decide +kernel
theorem dX9_fact_70 : decode cX9_fact 70 = .ok (.aload 5, 2) := by decide +kernel
theorem dX9_fact_72 : decode cX9_fact 72 = .ok (.getfield 92, 3) := by decide +kernel
theorem dX9_fact_75 : decode cX9_fact 75 = .ok (.ireturn, 1) := by decide +kernel
theorem dX9_facts_0 : decode cX9_facts 0 = .ok (.aload_n 0, 1) := by decide +kernel
theorem dX9_facts_1 : decode cX9_facts 1 = .ok (.iload_n 1, 1) := by decide +kernel
theorem dX9_facts_2 : decode cX9_facts 2 = .ok (.invokevirtual 73, 3) := by decide +kernel
theorem dX9_facts_5 : decode cX9_facts 5 = .ok (.getfield 92, 3) := by decide +kernel
theorem dX9_facts_8 : decode cX9_facts 8 = .ok (.ireturn, 1) := by decide +kernel
theorem dX9_atom_0 : decode cX9_atom 0 = .ok (.aload_n 0, 1) := by decide +kernel
theorem dX9_atom_1 : decode cX9_atom 1 = .ok (.iload_n 1, 1) := by decide +kernel
theorem dX9_atom_2 : decode cX9_atom 2 = .ok (.invokevirtual 73, 3) := by decide +kernel
theorem dX9_atom_5 : decode cX9_atom 5 = .ok (.astore 5, 2) := by decide +kernel
theorem dX9_atom_7 : decode cX9_atom 7 = .ok (.aload 5, 2) := by decide +kernel
theorem dX9_atom_9 : decode cX9_atom 9 = .ok (.getfield 77, 3) := by decide +kernel
theorem dX9_atom_12 : decode cX9_atom 12 = .ok (.iload_n 2, 1) := by decide +kernel
theorem dX9_atom_13 : decode cX9_atom 13 = .ok (.iload_n 3, 1) := by decide +kernel
theorem dX9_atom_14 : decode cX9_atom 14 = .ok (.iload 4, 2) := by decide +kernel
theorem dX9_atom_16 : decode cX9_atom 16 = .ok (.invokestatic 114, 3) := by decide +kernel
theorem dX9_atom_19 : decode cX9_atom 19 = .ok (.aload_n 0, 1) := by decide +kernel
theorem dX9_atom_20 : decode cX9_atom 20 = .ok (.iconst 1, 1) := by decide +kernel
theorem dX9_atom_21 : decode cX9_atom 21 = .ok (.invokevirtual 117, 3) := by decide +kernel
theorem dX9_atom_24 : decode cX9_atom 24 = .ok (.aload_n 0, 1) := by decide +kernel
theorem dX9_atom_25 : decode cX9_atom 25 = .ok (.new 120, 3) := by decide +kernel
theorem dX9_atom_28 : decode cX9_atom 28 = .ok (.dup, 1) := by decide +kernel
theorem dX9_atom_29 : decode cX9_atom 29 = .ok (.aload 5, 2) := by decide +kernel
theorem dX9_atom_31 : decode cX9_atom 31 = .ok (.new 122, 3) := by decide +kernel
theorem dX9_atom_34 : decode cX9_atom 34 = .ok (.dup, 1) := by decide +kernel
theorem dX9_atom_35 : decode cX9_atom 35 = .ok (.aload 5, 2) := by decide +kernel
theorem dX9_atom_37 : decode cX9_atom 37 = .ok (.getfield 77, 3) := by decide +kernel
theorem dX9_atom_40 : decode cX9_atom 40 = .ok (.iload_n 2, 1) := by decide +kernel
theorem dX9_atom_41 : decode cX9_atom 41 = .ok (.iload_n 3, 1) := by decide +kernel
theorem dX9_atom_42 : decode cX9_atom 42 = .ok (.iload 4, 2) := by decide +kernel
theorem dX9_atom_44 : decode cX9_atom 44 = .ok (.invokespecial 124, 3) := by decide +kernel
theorem dX9_atom_47 : decode cX9_atom 47 = .ok (.invokespecial 126, 3) := by decide +kernel
theorem dX9_atom_50 : decode cX9_atom 50 = .ok (.invokestatic 129, 3) := by decide +kernel
theorem dX9_atom_53 : decode cX9_atom 53 = .ok (.invokevirtual 133, 3) := by decide +kernel
theorem dX9_atom_56 : decode cX9_atom 56 = .ok (.ireturn, 1) := by decide +kernel
theorem dX9_same_0 : decode cX9_same 0 = .ok (.iconst 2, 1) := by decide +kernel
theorem dX9_same_1 : decode cX9_same 1 = .ok (.iload_n 1, 1) := by decide +kernel
theorem dX9_same_2 : decode cX9_same 2 = .ok (.iload_n 2, 1) := by decide +kernel
theorem dX9_same_3 : decode cX9_same 3 = .ok (.iconst 0, 1) := by decide +kernel
theorem dX9_same_4 : decode cX9_same 4 = .ok (.invokestatic 114, 3) := by decide +kernel
theorem dX9_same_7 : decode cX9_same 7 = .ok (.aload_n 0, 1) := by decide +kernel
theorem dX9_same_8 : decode cX9_same 8 = .ok (.iconst 1, 1) := by decide +kernel
theorem dX9_same_9 : decode cX9_same 9 = .ok (.invokevirtual 117, 3) := by decide +kernel
theorem dX9_same_12 : decode cX9_same 12 = .ok (.aload_n 0, 1) := by decide +kernel
theorem dX9_same_13 : decode cX9_same 13 = .ok (.new 122, 3) := by decide +kernel
theorem dX9_same_16 : decode cX9_same 16 = .ok (.dup, 1) := by decide +kernel
theorem dX9_same_17 : decode cX9_same 17 = .ok (.iconst 2, 1) := by decide +kernel
theorem dX9_same_18 : decode cX9_same 18 = .ok (.iload_n 1, 1) := by decide +kernel
theorem dX9_same_19 : decode cX9_same 19 = .ok (.iload_n 2, 1) := by decide +kernel
theorem dX9_same_20 : decode cX9_same 20 = .ok (.iconst 0, 1) := by decide +kernel
theorem dX9_same_21 : decode cX9_same 21 = .ok (.invokespecial 124, 3) := by decide +kernel
theorem dX9_same_24 : decode cX9_same 24 = .ok (.invokestatic 137, 3) := by decide +kernel
theorem dX9_same_27 : decode cX9_same 27 = .ok (.invokevirtual 133, 3) := by decide +kernel
theorem dX9_same_30 : decode cX9_same 30 = .ok (.ireturn, 1) := by decide +kernel
theorem dX9_not_0 : decode cX9_not 0 = .ok (.aload_n 0, 1) := by decide +kernel
theorem dX9_not_1 : decode cX9_not 1 = .ok (.iload_n 1, 1) := by decide +kernel
theorem dX9_not_2 : decode cX9_not 2 = .ok (.invokevirtual 141, 3) := by decide +kernel
theorem dX9_not_5 : decode cX9_not 5 = .ok (.astore_n 2, 1) := by decide +kernel
theorem dX9_not_6 : decode cX9_not 6 = .ok (.aload_n 0, 1) := by decide +kernel
theorem dX9_not_7 : decode cX9_not 7 = .ok (.iconst 1, 1) := by decide +kernel
theorem dX9_not_8 : decode cX9_not 8 = .ok (.invokevirtual 117, 3) := by decide +kernel
theorem dX9_not_11 : decode cX9_not 11 = .ok (.iconst 1, 1) := by decide +kernel
theorem dX9_not_12 : decode cX9_not 12 = .ok (.aload_n 2, 1) := by decide +kernel
theorem dX9_not_13 : decode cX9_not 13 = .ok (.getfield 145, 3) := by decide +kernel
theorem dX9_not_16 : decode cX9_not 16 = .ok (.iadd, 1) := by decide +kernel
theorem dX9_not_17 : decode cX9_not 17 = .ok (.invokestatic 148, 3) := by decide +kernel
theorem dX9_not_20 : decode cX9_not 20 = .ok (.aload_n 0, 1) := by decide +kernel
theorem dX9_not_21 : decode cX9_not 21 = .ok (.aload_n 2, 1) := by decide +kernel
theorem dX9_not_22 : decode cX9_not 22 = .ok (.invokestatic 151, 3) := by decide +kernel
theorem dX9_not_25 : decode cX9_not 25 = .ok (.invokevirtual 133, 3) := by decide +kernel
theorem dX9_not_28 : decode cX9_not 28 = .ok (.ireturn, 1) := by decide +kernel
theorem dX9_join_0 : decode cX9_join 0 = .ok (.aload_n 0, 1) := by decide +kernel
theorem dX9_join_1 : decode cX9_join 1 = .ok (.iload_n 2, 1) := by decide +kernel
theorem dX9_join_2 : decode cX9_join 2 = .ok (.invokevirtual 141, 3) := by decide +kernel
theorem dX9_join_5 : decode cX9_join 5 = .ok (.astore 4, 2) := by decide +kernel
theorem dX9_join_7 : decode cX9_join 7 = .ok (.aload_n 0, 1) := by decide +kernel
theorem dX9_join_8 : decode cX9_join 8 = .ok (.iload_n 3, 1) := by decide +kernel
theorem dX9_join_9 : decode cX9_join 9 = .ok (.invokevirtual 141, 3) := by decide +kernel
theorem dX9_join_12 : decode cX9_join 12 = .ok (.astore 5, 2) := by decide +kernel
theorem dX9_join_14 : decode cX9_join 14 = .ok (.aload_n 0, 1) := by decide +kernel
theorem dX9_join_15 : decode cX9_join 15 = .ok (.iconst 1, 1) := by decide +kernel
theorem dX9_join_16 : decode cX9_join 16 = .ok (.invokevirtual 117, 3) := by decide +kernel
theorem dX9_join_19 : decode cX9_join 19 = .ok (.iconst 1, 1) := by decide +kernel
theorem dX9_join_20 : decode cX9_join 20 = .ok (.aload 4, 2) := by decide +kernel
theorem dX9_join_22 : decode cX9_join 22 = .ok (.getfield 145, 3) := by decide +kernel
theorem dX9_join_25 : decode cX9_join 25 = .ok (.iadd, 1) := by decide +kernel
theorem dX9_join_26 : decode cX9_join 26 = .ok (.aload 5, 2) := by decide +kernel
theorem dX9_join_28 : decode cX9_join 28 = .ok (.getfield 145, 3) := by decide +kernel
theorem dX9_join_31 : decode cX9_join 31 = .ok (.iadd, 1) := by decide +kernel
theorem dX9_join_32 : decode cX9_join 32 = .ok (.invokestatic 148, 3) := by decide +kernel
theorem dX9_join_35 : decode cX9_join 35 = .ok (.aload_n 0, 1) := by decide +kernel
theorem dX9_join_36 : decode cX9_join 36 = .ok (.iload_n 1, 1) := by decide +kernel
theorem dX9_join_37 : decode cX9_join 37 = .ok (.ifCond .eq 13, 3) := by decide +kernel
theorem dX9_join_40 : decode cX9_join 40 = .ok (.aload 4, 2) := by decide +kernel
theorem dX9_join_42 : decode cX9_join 42 = .ok (.aload 5, 2) := by decide +kernel
theorem dX9_join_44 : decode cX9_join 44 = .ok (.invokestatic 155, 3) := by decide +kernel
theorem dX9_join_47 : decode cX9_join 47 = .ok (.goto 10, 3) := by decide +kernel
theorem dX9_join_50 : decode cX9_join 50 = .ok (.aload 4, 2) := by decide +kernel
theorem dX9_join_52 : decode cX9_join 52 = .ok (.aload 5, 2) := by decide +kernel
theorem dX9_join_54 : decode cX9_join 54 = .ok (.invokestatic 159, 3) := by decide +kernel
theorem dX9_join_57 : decode cX9_join 57 = .ok (.invokevirtual 133, 3) := by decide +kernel
theorem dX9_join_60 : decode cX9_join 60 = .ok (.ireturn, 1) := by decide +kernel
theorem dX9_bind_0 : decode cX9_bind 0 = .ok (.aload_n 0, 1) := by decide +kernel
theorem dX9_bind_1 : decode cX9_bind 1 = .ok (.iload_n 3, 1) := by decide +kernel
theorem dX9_bind_2 : decode cX9_bind 2 = .ok (.invokevirtual 141, 3) := by decide +kernel
theorem dX9_bind_5 : decode cX9_bind 5 = .ok (.astore 4, 2) := by decide +kernel
theorem dX9_bind_7 : decode cX9_bind 7 = .ok (.iload_n 2, 1) := by decide +kernel
theorem dX9_bind_8 : decode cX9_bind 8 = .ok (.invokestatic 162, 3) := by decide +kernel
theorem dX9_bind_11 : decode cX9_bind 11 = .ok (.ifCond .ne 13, 3) := by decide +kernel
theorem dX9_bind_14 : decode cX9_bind 14 = .ok (.new 58, 3) := by decide +kernel
theorem dX9_bind_17 : decode cX9_bind 17 = .ok (.dup, 1) := by decide +kernel
theorem dX9_bind_18 : decode cX9_bind 18 = .ok (.ldc 165, 2) := by decide +kernel
theorem dX9_bind_20 : decode cX9_bind 20 = .ok (.invokespecial 62, 3) := by decide +kernel
theorem dX9_bind_23 : decode cX9_bind 23 = .ok (.athrow, 1) := by decide +kernel
theorem dX9_bind_24 : decode cX9_bind 24 = .ok (.aload 4, 2) := by decide +kernel
theorem dX9_bind_26 : decode cX9_bind 26 = .ok (.getfield 167, 3) := by decide +kernel
theorem dX9_bind_29 : decode cX9_bind 29 = .ok (.iconst 3, 1) := by decide +kernel
theorem dX9_bind_30 : decode cX9_bind 30 = .ok (.if_icmp .lt 13, 3) := by decide +kernel
theorem dX9_bind_33 : decode cX9_bind 33 = .ok (.new 58, 3) := by decide +kernel
theorem dX9_bind_36 : decode cX9_bind 36 = .ok (.dup, 1) := by decide +kernel
theorem dX9_bind_37 : decode cX9_bind 37 = .ok (.ldc 170, 2) := by decide +kernel
theorem dX9_bind_39 : decode cX9_bind 39 = .ok (.invokespecial 62, 3) := by decide +kernel
theorem dX9_bind_42 : decode cX9_bind 42 = .ok (.athrow, 1) := by decide +kernel
theorem dX9_bind_43 : decode cX9_bind 43 = .ok (.aload_n 0, 1) := by decide +kernel
theorem dX9_bind_44 : decode cX9_bind 44 = .ok (.iconst 1, 1) := by decide +kernel
theorem dX9_bind_45 : decode cX9_bind 45 = .ok (.invokevirtual 117, 3) := by decide +kernel
theorem dX9_bind_48 : decode cX9_bind 48 = .ok (.iconst 1, 1) := by decide +kernel
theorem dX9_bind_49 : decode cX9_bind 49 = .ok (.aload 4, 2) := by decide +kernel
theorem dX9_bind_51 : decode cX9_bind 51 = .ok (.getfield 145, 3) := by decide +kernel
theorem dX9_bind_54 : decode cX9_bind 54 = .ok (.iadd, 1) := by decide +kernel
theorem dX9_bind_55 : decode cX9_bind 55 = .ok (.invokestatic 148, 3) := by decide +kernel
theorem dX9_bind_58 : decode cX9_bind 58 = .ok (.aload_n 0, 1) := by decide +kernel
theorem dX9_bind_59 : decode cX9_bind 59 = .ok (.iload_n 1, 1) := by decide +kernel
theorem dX9_bind_60 : decode cX9_bind 60 = .ok (.ifCond .eq 12, 3) := by decide +kernel
theorem dX9_bind_63 : decode cX9_bind 63 = .ok (.iload_n 2, 1) := by decide +kernel
theorem dX9_bind_64 : decode cX9_bind 64 = .ok (.aload 4, 2) := by decide +kernel
theorem dX9_bind_66 : decode cX9_bind 66 = .ok (.invokestatic 172, 3) := by decide +kernel
theorem dX9_bind_69 : decode cX9_bind 69 = .ok (.goto 9, 3) := by decide +kernel
theorem dX9_bind_72 : decode cX9_bind 72 = .ok (.iload_n 2, 1) := by decide +kernel
theorem dX9_bind_73 : decode cX9_bind 73 = .ok (.aload 4, 2) := by decide +kernel
theorem dX9_bind_75 : decode cX9_bind 75 = .ok (.invokestatic 176, 3) := by decide +kernel
theorem dX9_bind_78 : decode cX9_bind 78 = .ok (.invokevirtual 133, 3) := by decide +kernel
theorem dX9_bind_81 : decode cX9_bind 81 = .ok (.ireturn, 1) := by decide +kernel
theorem dX9_ofFormula_0 : decode cX9_ofFormula 0 = .ok (.aload_n 0, 1) := by decide +kernel
theorem dX9_ofFormula_1 : decode cX9_ofFormula 1 = .ok (.iload_n 1, 1) := by decide +kernel
theorem dX9_ofFormula_2 : decode cX9_ofFormula 2 = .ok (.invokevirtual 141, 3) := by decide +kernel
theorem dX9_ofFormula_5 : decode cX9_ofFormula 5 = .ok (.astore_n 3, 1) := by decide +kernel
theorem dX9_ofFormula_6 : decode cX9_ofFormula 6 = .ok (.iload_n 2, 1) := by decide +kernel
theorem dX9_ofFormula_7 : decode cX9_ofFormula 7 = .ok (.tableswitch 68 0 5 #[37, 42, 47, 52, 57, 62], 37) := by decide +kernel
theorem dX9_ofFormula_44 : decode cX9_ofFormula 44 = .ok (.aload_n 3, 1) := by decide +kernel
theorem dX9_ofFormula_45 : decode cX9_ofFormula 45 = .ok (.getfield 179, 3) := by decide +kernel
theorem dX9_ofFormula_48 : decode cX9_ofFormula 48 = .ok (.ireturn, 1) := by decide +kernel
theorem dX9_ofFormula_49 : decode cX9_ofFormula 49 = .ok (.aload_n 3, 1) := by decide +kernel
theorem dX9_ofFormula_50 : decode cX9_ofFormula 50 = .ok (.getfield 182, 3) := by decide +kernel
theorem dX9_ofFormula_53 : decode cX9_ofFormula 53 = .ok (.ireturn, 1) := by decide +kernel
theorem dX9_ofFormula_54 : decode cX9_ofFormula 54 = .ok (.aload_n 3, 1) := by decide +kernel
theorem dX9_ofFormula_55 : decode cX9_ofFormula 55 = .ok (.getfield 167, 3) := by decide +kernel
theorem dX9_ofFormula_58 : decode cX9_ofFormula 58 = .ok (.ireturn, 1) := by decide +kernel
theorem dX9_ofFormula_59 : decode cX9_ofFormula 59 = .ok (.aload_n 3, 1) := by decide +kernel
theorem dX9_ofFormula_60 : decode cX9_ofFormula 60 = .ok (.getfield 185, 3) := by decide +kernel
theorem dX9_ofFormula_63 : decode cX9_ofFormula 63 = .ok (.ireturn, 1) := by decide +kernel
theorem dX9_ofFormula_64 : decode cX9_ofFormula 64 = .ok (.aload_n 3, 1) := by decide +kernel
theorem dX9_ofFormula_65 : decode cX9_ofFormula 65 = .ok (.getfield 188, 3) := by decide +kernel
theorem dX9_ofFormula_68 : decode cX9_ofFormula 68 = .ok (.ireturn, 1) := by decide +kernel
theorem dX9_ofFormula_69 : decode cX9_ofFormula 69 = .ok (.aload_n 0, 1) := by decide +kernel
theorem dX9_ofFormula_70 : decode cX9_ofFormula 70 = .ok (.aload_n 3, 1) := by decide +kernel
theorem dX9_ofFormula_71 : decode cX9_ofFormula 71 = .ok (.invokevirtual 191, 3) := by decide +kernel
theorem dX9_ofFormula_74 : decode cX9_ofFormula 74 = .ok (.ireturn, 1) := by decide +kernel
theorem dX9_ofFormula_75 : decode cX9_ofFormula 75 = .ok (.new 58, 3) := by decide +kernel
theorem dX9_ofFormula_78 : decode cX9_ofFormula 78 = .ok (.dup, 1) := by decide +kernel
theorem dX9_ofFormula_79 : decode cX9_ofFormula 79 = .ok (.ldc 194, 2) := by decide +kernel
theorem dX9_ofFormula_81 : decode cX9_ofFormula 81 = .ok (.invokespecial 62, 3) := by decide +kernel
theorem dX9_ofFormula_84 : decode cX9_ofFormula 84 = .ok (.athrow, 1) := by decide +kernel
theorem dX9_isSafe_0 : decode cX9_isSafe 0 = .ok (.aload_n 0, 1) := by decide +kernel
theorem dX9_isSafe_1 : decode cX9_isSafe 1 = .ok (.iload_n 1, 1) := by decide +kernel
theorem dX9_isSafe_2 : decode cX9_isSafe 2 = .ok (.invokevirtual 141, 3) := by decide +kernel
theorem dX9_isSafe_5 : decode cX9_isSafe 5 = .ok (.astore_n 2, 1) := by decide +kernel
theorem dX9_isSafe_6 : decode cX9_isSafe 6 = .ok (.aload_n 2, 1) := by decide +kernel
theorem dX9_isSafe_7 : decode cX9_isSafe 7 = .ok (.getfield 196, 3) := by decide +kernel
theorem dX9_isSafe_10 : decode cX9_isSafe 10 = .ok (.ifCond .ge 21, 3) := by decide +kernel
theorem dX9_isSafe_13 : decode cX9_isSafe 13 = .ok (.aload_n 2, 1) := by decide +kernel
theorem dX9_isSafe_14 : decode cX9_isSafe 14 = .ok (.getfield 182, 3) := by decide +kernel
theorem dX9_isSafe_17 : decode cX9_isSafe 17 = .ok (.aload_n 2, 1) := by decide +kernel
theorem dX9_isSafe_18 : decode cX9_isSafe 18 = .ok (.getfield 185, 3) := by decide +kernel
theorem dX9_isSafe_21 : decode cX9_isSafe 21 = .ok (.iconst (-1), 1) := by decide +kernel
theorem dX9_isSafe_22 : decode cX9_isSafe 22 = .ok (.ixor, 1) := by decide +kernel
theorem dX9_isSafe_23 : decode cX9_isSafe 23 = .ok (.iand, 1) := by decide +kernel
theorem dX9_isSafe_24 : decode cX9_isSafe 24 = .ok (.ifCond .ne 7, 3) := by decide +kernel
theorem dX9_isSafe_27 : decode cX9_isSafe 27 = .ok (.iconst 1, 1) := by decide +kernel
theorem dX9_isSafe_28 : decode cX9_isSafe 28 = .ok (.goto 4, 3) := by decide +kernel
theorem dX9_isSafe_31 : decode cX9_isSafe 31 = .ok (.iconst 0, 1) := by decide +kernel
theorem dX9_isSafe_32 : decode cX9_isSafe 32 = .ok (.ireturn, 1) := by decide +kernel
theorem dX9_loose_0 : decode cX9_loose 0 = .ok (.aload_n 0, 1) := by decide +kernel
theorem dX9_loose_1 : decode cX9_loose 1 = .ok (.iload_n 1, 1) := by decide +kernel
theorem dX9_loose_2 : decode cX9_loose 2 = .ok (.invokevirtual 141, 3) := by decide +kernel
theorem dX9_loose_5 : decode cX9_loose 5 = .ok (.getfield 196, 3) := by decide +kernel
theorem dX9_loose_8 : decode cX9_loose 8 = .ok (.ireturn, 1) := by decide +kernel
theorem dX9_answers_0 : decode cX9_answers 0 = .ok (.aload_n 0, 1) := by decide +kernel
theorem dX9_answers_1 : decode cX9_answers 1 = .ok (.iload_n 1, 1) := by decide +kernel
theorem dX9_answers_2 : decode cX9_answers 2 = .ok (.invokevirtual 141, 3) := by decide +kernel
theorem dX9_answers_5 : decode cX9_answers 5 = .ok (.astore_n 2, 1) := by decide +kernel
theorem dX9_answers_6 : decode cX9_answers 6 = .ok (.aload_n 2, 1) := by decide +kernel
theorem dX9_answers_7 : decode cX9_answers 7 = .ok (.invokestatic 199, 3) := by decide +kernel
theorem dX9_answers_10 : decode cX9_answers 10 = .ok (.aload_n 0, 1) := by decide +kernel
theorem dX9_answers_11 : decode cX9_answers 11 = .ok (.getfield 40, 3) := by decide +kernel
theorem dX9_answers_14 : decode cX9_answers 14 = .ok (.aload_n 2, 1) := by decide +kernel
theorem dX9_answers_15 : decode cX9_answers 15 = .ok (.aload_n 0, 1) := by decide +kernel
theorem dX9_answers_16 : decode cX9_answers 16 = .ok (.aload_n 2, 1) := by decide +kernel
theorem dX9_answers_17 : decode cX9_answers 17 = .ok (.invokevirtual 191, 3) := by decide +kernel
theorem dX9_answers_20 : decode cX9_answers 20 = .ok (.invokevirtual 203, 3) := by decide +kernel
theorem dX9_answers_23 : decode cX9_answers 23 = .ok (.getfield 207, 3) := by decide +kernel
theorem dX9_answers_26 : decode cX9_answers 26 = .ok (.ireturn, 1) := by decide +kernel
theorem dX9_answer_0 : decode cX9_answer 0 = .ok (.aload_n 0, 1) := by decide +kernel
theorem dX9_answer_1 : decode cX9_answer 1 = .ok (.iload_n 1, 1) := by decide +kernel
theorem dX9_answer_2 : decode cX9_answer 2 = .ok (.invokevirtual 141, 3) := by decide +kernel
theorem dX9_answer_5 : decode cX9_answer 5 = .ok (.astore 4, 2) := by decide +kernel
theorem dX9_answer_7 : decode cX9_answer 7 = .ok (.aload 4, 2) := by decide +kernel
theorem dX9_answer_9 : decode cX9_answer 9 = .ok (.invokestatic 199, 3) := by decide +kernel
theorem dX9_answer_12 : decode cX9_answer 12 = .ok (.aload_n 0, 1) := by decide +kernel
theorem dX9_answer_13 : decode cX9_answer 13 = .ok (.getfield 40, 3) := by decide +kernel
theorem dX9_answer_16 : decode cX9_answer 16 = .ok (.aload 4, 2) := by decide +kernel
theorem dX9_answer_18 : decode cX9_answer 18 = .ok (.aload_n 0, 1) := by decide +kernel
theorem dX9_answer_19 : decode cX9_answer 19 = .ok (.aload 4, 2) := by decide +kernel
theorem dX9_answer_21 : decode cX9_answer 21 = .ok (.invokevirtual 191, 3) := by decide +kernel
theorem dX9_answer_24 : decode cX9_answer 24 = .ok (.invokevirtual 203, 3) := by decide +kernel
theorem dX9_answer_27 : decode cX9_answer 27 = .ok (.iload_n 2, 1) := by decide +kernel
theorem dX9_answer_28 : decode cX9_answer 28 = .ok (.iload_n 3, 1) := by decide +kernel
theorem dX9_answer_29 : decode cX9_answer 29 = .ok (.aload 4, 2) := by decide +kernel
theorem dX9_answer_31 : decode cX9_answer 31 = .ok (.getfield 182, 3) := by decide +kernel
theorem dX9_answer_34 : decode cX9_answer 34 = .ok (.invokestatic 210, 3) := by decide +kernel
theorem dX9_answer_37 : decode cX9_answer 37 = .ok (.invokestatic 216, 3) := by decide +kernel
theorem dX9_answer_40 : decode cX9_answer 40 = .ok (.ireturn, 1) := by decide +kernel
theorem dX9_rule_0 : decode cX9_rule 0 = .ok (.iload_n 1, 1) := by decide +kernel
theorem dX9_rule_1 : decode cX9_rule 1 = .ok (.ifCond .lt 8, 3) := by decide +kernel
theorem dX9_rule_4 : decode cX9_rule 4 = .ok (.iload_n 1, 1) := by decide +kernel
theorem dX9_rule_5 : decode cX9_rule 5 = .ok (.iconst 3, 1) := by decide +kernel
theorem dX9_rule_6 : decode cX9_rule 6 = .ok (.if_icmp .le 13, 3) := by decide +kernel
theorem dX9_rule_9 : decode cX9_rule 9 = .ok (.new 58, 3) := by decide +kernel
theorem dX9_rule_12 : decode cX9_rule 12 = .ok (.dup, 1) := by decide +kernel
theorem dX9_rule_13 : decode cX9_rule 13 = .ok (.ldc 220, 2) := by decide +kernel
theorem dX9_rule_15 : decode cX9_rule 15 = .ok (.invokespecial 62, 3) := by decide +kernel
theorem dX9_rule_18 : decode cX9_rule 18 = .ok (.athrow, 1) := by decide +kernel
theorem dX9_rule_19 : decode cX9_rule 19 = .ok (.iload_n 1, 1) := by decide +kernel
theorem dX9_rule_20 : decode cX9_rule 20 = .ok (.iload_n 2, 1) := by decide +kernel
theorem dX9_rule_21 : decode cX9_rule 21 = .ok (.iload_n 3, 1) := by decide +kernel
theorem dX9_rule_22 : decode cX9_rule 22 = .ok (.iload 4, 2) := by decide +kernel
theorem dX9_rule_24 : decode cX9_rule 24 = .ok (.invokestatic 114, 3) := by decide +kernel
theorem dX9_rule_27 : decode cX9_rule 27 = .ok (.aload_n 0, 1) := by decide +kernel
theorem dX9_rule_28 : decode cX9_rule 28 = .ok (.getfield 34, 3) := by decide +kernel
theorem dX9_rule_31 : decode cX9_rule 31 = .ok (.bipush 8, 2) := by decide +kernel
theorem dX9_rule_33 : decode cX9_rule 33 = .ok (.if_icmp .lt 13, 3) := by decide +kernel
theorem dX9_rule_36 : decode cX9_rule 36 = .ok (.new 65, 3) := by decide +kernel
theorem dX9_rule_39 : decode cX9_rule 39 = .ok (.dup, 1) := by decide +kernel
theorem dX9_rule_40 : decode cX9_rule 40 = .ok (.ldc 222, 2) := by decide +kernel
theorem dX9_rule_42 : decode cX9_rule 42 = .ok (.invokespecial 69, 3) := by decide +kernel
theorem dX9_rule_45 : decode cX9_rule 45 = .ok (.athrow, 1) := by decide +kernel
theorem dX9_rule_46 : decode cX9_rule 46 = .ok (.aload_n 0, 1) := by decide +kernel
theorem dX9_rule_47 : decode cX9_rule 47 = .ok (.getfield 30, 3) := by decide +kernel
theorem dX9_rule_50 : decode cX9_rule 50 = .ok (.aload_n 0, 1) := by decide +kernel
theorem dX9_rule_51 : decode cX9_rule 51 = .ok (.getfield 34, 3) := by decide +kernel
theorem dX9_rule_54 : decode cX9_rule 54 = .ok (.new 28, 3) := by decide +kernel
theorem dX9_rule_57 : decode cX9_rule 57 = .ok (.dup, 1) := by decide +kernel
theorem dX9_rule_58 : decode cX9_rule 58 = .ok (.new 122, 3) := by decide +kernel
theorem dX9_rule_61 : decode cX9_rule 61 = .ok (.dup, 1) := by decide +kernel
theorem dX9_rule_62 : decode cX9_rule 62 = .ok (.iload_n 1, 1) := by decide +kernel
theorem dX9_rule_63 : decode cX9_rule 63 = .ok (.iload_n 2, 1) := by decide +kernel
theorem dX9_rule_64 : decode cX9_rule 64 = .ok (.iload_n 3, 1) := by decide +kernel
theorem dX9_rule_65 : decode cX9_rule 65 = .ok (.iload 4, 2) := by decide +kernel
theorem dX9_rule_67 : decode cX9_rule 67 = .ok (.invokespecial 124, 3) := by decide +kernel
theorem dX9_rule_70 : decode cX9_rule 70 = .ok (.invokespecial 224, 3) := by decide +kernel
theorem dX9_rule_73 : decode cX9_rule 73 = .ok (.aastore, 1) := by decide +kernel
theorem dX9_rule_74 : decode cX9_rule 74 = .ok (.aload_n 0, 1) := by decide +kernel
theorem dX9_rule_75 : decode cX9_rule 75 = .ok (.dup, 1) := by decide +kernel
theorem dX9_rule_76 : decode cX9_rule 76 = .ok (.getfield 34, 3) := by decide +kernel
theorem dX9_rule_79 : decode cX9_rule 79 = .ok (.iconst 1, 1) := by decide +kernel
theorem dX9_rule_80 : decode cX9_rule 80 = .ok (.iadd, 1) := by decide +kernel
theorem dX9_rule_81 : decode cX9_rule 81 = .ok (.putfield 34, 3) := by decide +kernel
theorem dX9_rule_84 : decode cX9_rule 84 = .ok (.aload_n 0, 1) := by decide +kernel
theorem dX9_rule_85 : decode cX9_rule 85 = .ok (.getfield 34, 3) := by decide +kernel
theorem dX9_rule_88 : decode cX9_rule 88 = .ok (.iconst 1, 1) := by decide +kernel
theorem dX9_rule_89 : decode cX9_rule 89 = .ok (.isub, 1) := by decide +kernel
theorem dX9_rule_90 : decode cX9_rule 90 = .ok (.ireturn, 1) := by decide +kernel
theorem dX9_add_0 : decode cX9_add 0 = .ok (.aload_n 0, 1) := by decide +kernel
theorem dX9_add_1 : decode cX9_add 1 = .ok (.iload_n 1, 1) := by decide +kernel
theorem dX9_add_2 : decode cX9_add 2 = .ok (.invokevirtual 227, 3) := by decide +kernel
theorem dX9_add_5 : decode cX9_add 5 = .ok (.astore 6, 2) := by decide +kernel
theorem dX9_add_7 : decode cX9_add 7 = .ok (.aload_n 0, 1) := by decide +kernel
theorem dX9_add_8 : decode cX9_add 8 = .ok (.iload_n 2, 1) := by decide +kernel
theorem dX9_add_9 : decode cX9_add 9 = .ok (.invokevirtual 73, 3) := by decide +kernel
theorem dX9_add_12 : decode cX9_add 12 = .ok (.astore 7, 2) := by decide +kernel
theorem dX9_add_14 : decode cX9_add 14 = .ok (.aload 7, 2) := by decide +kernel
theorem dX9_add_16 : decode cX9_add 16 = .ok (.getfield 77, 3) := by decide +kernel
theorem dX9_add_19 : decode cX9_add 19 = .ok (.iload_n 3, 1) := by decide +kernel
theorem dX9_add_20 : decode cX9_add 20 = .ok (.iload 4, 2) := by decide +kernel
theorem dX9_add_22 : decode cX9_add 22 = .ok (.iload 5, 2) := by decide +kernel
theorem dX9_add_24 : decode cX9_add 24 = .ok (.invokestatic 114, 3) := by decide +kernel
theorem dX9_add_27 : decode cX9_add 27 = .ok (.aload 6, 2) := by decide +kernel
theorem dX9_add_29 : decode cX9_add 29 = .ok (.getfield 231, 3) := by decide +kernel
theorem dX9_add_32 : decode cX9_add 32 = .ok (.iconst 5, 1) := by decide +kernel
theorem dX9_add_33 : decode cX9_add 33 = .ok (.if_icmp .lt 13, 3) := by decide +kernel
theorem dX9_add_36 : decode cX9_add 36 = .ok (.new 65, 3) := by decide +kernel
theorem dX9_add_39 : decode cX9_add 39 = .ok (.dup, 1) := by decide +kernel
theorem dX9_add_40 : decode cX9_add 40 = .ok (.ldc 232, 2) := by decide +kernel
theorem dX9_add_42 : decode cX9_add 42 = .ok (.invokespecial 69, 3) := by decide +kernel
theorem dX9_add_45 : decode cX9_add 45 = .ok (.athrow, 1) := by decide +kernel
theorem dX9_add_46 : decode cX9_add 46 = .ok (.aload 6, 2) := by decide +kernel
theorem dX9_add_48 : decode cX9_add 48 = .ok (.getfield 234, 3) := by decide +kernel
theorem dX9_add_51 : decode cX9_add 51 = .ok (.aload 6, 2) := by decide +kernel
theorem dX9_add_53 : decode cX9_add 53 = .ok (.getfield 231, 3) := by decide +kernel
theorem dX9_add_56 : decode cX9_add 56 = .ok (.new 120, 3) := by decide +kernel
theorem dX9_add_59 : decode cX9_add 59 = .ok (.dup, 1) := by decide +kernel
theorem dX9_add_60 : decode cX9_add 60 = .ok (.aload 7, 2) := by decide +kernel
theorem dX9_add_62 : decode cX9_add 62 = .ok (.new 122, 3) := by decide +kernel
theorem dX9_add_65 : decode cX9_add 65 = .ok (.dup, 1) := by decide +kernel
theorem dX9_add_66 : decode cX9_add 66 = .ok (.aload 7, 2) := by decide +kernel
theorem dX9_add_68 : decode cX9_add 68 = .ok (.getfield 77, 3) := by decide +kernel
theorem dX9_add_71 : decode cX9_add 71 = .ok (.iload_n 3, 1) := by decide +kernel
theorem dX9_add_72 : decode cX9_add 72 = .ok (.iload 4, 2) := by decide +kernel
theorem dX9_add_74 : decode cX9_add 74 = .ok (.iload 5, 2) := by decide +kernel
theorem dX9_add_76 : decode cX9_add 76 = .ok (.invokespecial 124, 3) := by decide +kernel
theorem dX9_add_79 : decode cX9_add 79 = .ok (.invokespecial 126, 3) := by decide +kernel
theorem dX9_add_82 : decode cX9_add 82 = .ok (.aastore, 1) := by decide +kernel
theorem dX9_add_83 : decode cX9_add 83 = .ok (.aload 6, 2) := by decide +kernel
theorem dX9_add_85 : decode cX9_add 85 = .ok (.dup, 1) := by decide +kernel
theorem dX9_add_86 : decode cX9_add 86 = .ok (.getfield 231, 3) := by decide +kernel
theorem dX9_add_89 : decode cX9_add 89 = .ok (.iconst 1, 1) := by decide +kernel
theorem dX9_add_90 : decode cX9_add 90 = .ok (.iadd, 1) := by decide +kernel
theorem dX9_add_91 : decode cX9_add 91 = .ok (.putfield 231, 3) := by decide +kernel
theorem dX9_add_94 : decode cX9_add 94 = .ok (.aload 6, 2) := by decide +kernel
theorem dX9_add_96 : decode cX9_add 96 = .ok (.getfield 231, 3) := by decide +kernel
theorem dX9_add_99 : decode cX9_add 99 = .ok (.ireturn, 1) := by decide +kernel
theorem dX9_ofRule_0 : decode cX9_ofRule 0 = .ok (.aload_n 0, 1) := by decide +kernel
theorem dX9_ofRule_1 : decode cX9_ofRule 1 = .ok (.iload_n 1, 1) := by decide +kernel
theorem dX9_ofRule_2 : decode cX9_ofRule 2 = .ok (.invokevirtual 227, 3) := by decide +kernel
theorem dX9_ofRule_5 : decode cX9_ofRule 5 = .ok (.astore_n 3, 1) := by decide +kernel
theorem dX9_ofRule_6 : decode cX9_ofRule 6 = .ok (.iload_n 2, 1) := by decide +kernel
theorem dX9_ofRule_7 : decode cX9_ofRule 7 = .ok (.tableswitch 55 0 2 #[25, 30, 43], 25) := by decide +kernel
theorem dX9_ofRule_32 : decode cX9_ofRule 32 = .ok (.aload_n 3, 1) := by decide +kernel
theorem dX9_ofRule_33 : decode cX9_ofRule 33 = .ok (.getfield 231, 3) := by decide +kernel
theorem dX9_ofRule_36 : decode cX9_ofRule 36 = .ok (.ireturn, 1) := by decide +kernel
theorem dX9_ofRule_37 : decode cX9_ofRule 37 = .ok (.aload_n 3, 1) := by decide +kernel
theorem dX9_ofRule_38 : decode cX9_ofRule 38 = .ok (.invokevirtual 238, 3) := by decide +kernel
theorem dX9_ofRule_41 : decode cX9_ofRule 41 = .ok (.ifCond .eq 7, 3) := by decide +kernel
theorem dX9_ofRule_44 : decode cX9_ofRule 44 = .ok (.iconst 1, 1) := by decide +kernel
theorem dX9_ofRule_45 : decode cX9_ofRule 45 = .ok (.goto 4, 3) := by decide +kernel
theorem dX9_ofRule_48 : decode cX9_ofRule 48 = .ok (.iconst 0, 1) := by decide +kernel
theorem dX9_ofRule_49 : decode cX9_ofRule 49 = .ok (.ireturn, 1) := by decide +kernel
theorem dX9_ofRule_50 : decode cX9_ofRule 50 = .ok (.aload_n 0, 1) := by decide +kernel
theorem dX9_ofRule_51 : decode cX9_ofRule 51 = .ok (.getfield 54, 3) := by decide +kernel
theorem dX9_ofRule_54 : decode cX9_ofRule 54 = .ok (.aload_n 3, 1) := by decide +kernel
theorem dX9_ofRule_55 : decode cX9_ofRule 55 = .ok (.invokevirtual 242, 3) := by decide +kernel
theorem dX9_ofRule_58 : decode cX9_ofRule 58 = .ok (.invokestatic 210, 3) := by decide +kernel
theorem dX9_ofRule_61 : decode cX9_ofRule 61 = .ok (.ireturn, 1) := by decide +kernel
theorem dX9_ofRule_62 : decode cX9_ofRule 62 = .ok (.new 58, 3) := by decide +kernel
theorem dX9_ofRule_65 : decode cX9_ofRule 65 = .ok (.dup, 1) := by decide +kernel
theorem dX9_ofRule_66 : decode cX9_ofRule 66 = .ok (.ldc 246, 2) := by decide +kernel
theorem dX9_ofRule_68 : decode cX9_ofRule 68 = .ok (.invokespecial 62, 3) := by decide +kernel
theorem dX9_ofRule_71 : decode cX9_ofRule 71 = .ok (.athrow, 1) := by decide +kernel
theorem dX9_tells_0 : decode cX9_tells 0 = .ok (.aload_n 0, 1) := by decide +kernel
theorem dX9_tells_1 : decode cX9_tells 1 = .ok (.iload_n 1, 1) := by decide +kernel
theorem dX9_tells_2 : decode cX9_tells 2 = .ok (.invokevirtual 227, 3) := by decide +kernel
theorem dX9_tells_5 : decode cX9_tells 5 = .ok (.astore_n 2, 1) := by decide +kernel
theorem dX9_tells_6 : decode cX9_tells 6 = .ok (.aload_n 2, 1) := by decide +kernel
theorem dX9_tells_7 : decode cX9_tells 7 = .ok (.invokestatic 248, 3) := by decide +kernel
theorem dX9_tells_10 : decode cX9_tells 10 = .ok (.aload_n 0, 1) := by decide +kernel
theorem dX9_tells_11 : decode cX9_tells 11 = .ok (.getfield 47, 3) := by decide +kernel
theorem dX9_tells_14 : decode cX9_tells 14 = .ok (.aload_n 2, 1) := by decide +kernel
theorem dX9_tells_15 : decode cX9_tells 15 = .ok (.invokevirtual 252, 3) := by decide +kernel
theorem dX9_tells_18 : decode cX9_tells 18 = .ok (.getfield 207, 3) := by decide +kernel
theorem dX9_tells_21 : decode cX9_tells 21 = .ok (.ireturn, 1) := by decide +kernel
theorem dX9_order_0 : decode cX9_order 0 = .ok (.aload_n 0, 1) := by decide +kernel
theorem dX9_order_1 : decode cX9_order 1 = .ok (.iload_n 1, 1) := by decide +kernel
theorem dX9_order_2 : decode cX9_order 2 = .ok (.invokevirtual 227, 3) := by decide +kernel
theorem dX9_order_5 : decode cX9_order 5 = .ok (.astore 4, 2) := by decide +kernel
theorem dX9_order_7 : decode cX9_order 7 = .ok (.iload_n 2, 1) := by decide +kernel
theorem dX9_order_8 : decode cX9_order 8 = .ok (.ifCond .lt 12, 3) := by decide +kernel
theorem dX9_order_11 : decode cX9_order 11 = .ok (.iload_n 2, 1) := by decide +kernel
theorem dX9_order_12 : decode cX9_order 12 = .ok (.aload 4, 2) := by decide +kernel
theorem dX9_order_14 : decode cX9_order 14 = .ok (.getfield 231, 3) := by decide +kernel
theorem dX9_order_17 : decode cX9_order 17 = .ok (.if_icmp .lt 14, 3) := by decide +kernel
theorem dX9_order_20 : decode cX9_order 20 = .ok (.new 261, 3) := by decide +kernel
theorem dX9_order_23 : decode cX9_order 23 = .ok (.dup, 1) := by decide +kernel
theorem dX9_order_24 : decode cX9_order 24 = .ok (.ldc_w 263, 3) := by decide +kernel
theorem dX9_order_27 : decode cX9_order 27 = .ok (.invokespecial 265, 3) := by decide +kernel
theorem dX9_order_30 : decode cX9_order 30 = .ok (.athrow, 1) := by decide +kernel
theorem dX9_order_31 : decode cX9_order 31 = .ok (.iload_n 3, 1) := by decide +kernel
theorem dX9_order_32 : decode cX9_order 32 = .ok (.ifCond .eq 19, 3) := by decide +kernel
theorem dX9_order_35 : decode cX9_order 35 = .ok (.iload_n 3, 1) := by decide +kernel
theorem dX9_order_36 : decode cX9_order 36 = .ok (.iconst 1, 1) := by decide +kernel
theorem dX9_order_37 : decode cX9_order 37 = .ok (.if_icmp .eq 14, 3) := by decide +kernel
theorem dX9_order_40 : decode cX9_order 40 = .ok (.new 58, 3) := by decide +kernel
theorem dX9_order_43 : decode cX9_order 43 = .ok (.dup, 1) := by decide +kernel
theorem dX9_order_44 : decode cX9_order 44 = .ok (.ldc_w 266, 3) := by decide +kernel
theorem dX9_order_47 : decode cX9_order 47 = .ok (.invokespecial 62, 3) := by decide +kernel
theorem dX9_order_50 : decode cX9_order 50 = .ok (.athrow, 1) := by decide +kernel
theorem dX9_order_51 : decode cX9_order 51 = .ok (.iload_n 3, 1) := by decide +kernel
theorem dX9_order_52 : decode cX9_order 52 = .ok (.ifCond .ne 22, 3) := by decide +kernel
theorem dX9_order_55 : decode cX9_order 55 = .ok (.aload_n 0, 1) := by decide +kernel
theorem dX9_order_56 : decode cX9_order 56 = .ok (.getfield 47, 3) := by decide +kernel
theorem dX9_order_59 : decode cX9_order 59 = .ok (.aload 4, 2) := by decide +kernel
theorem dX9_order_61 : decode cX9_order 61 = .ok (.invokevirtual 268, 3) := by decide +kernel
theorem dX9_order_64 : decode cX9_order 64 = .ok (.aload_n 0, 1) := by decide +kernel
theorem dX9_order_65 : decode cX9_order 65 = .ok (.getfield 47, 3) := by decide +kernel
theorem dX9_order_68 : decode cX9_order 68 = .ok (.getfield 271, 3) := by decide +kernel
theorem dX9_order_71 : decode cX9_order 71 = .ok (.iload_n 2, 1) := by decide +kernel
theorem dX9_order_72 : decode cX9_order 72 = .ok (.iaload, 1) := by decide +kernel
theorem dX9_order_73 : decode cX9_order 73 = .ok (.ireturn, 1) := by decide +kernel
theorem dX9_order_74 : decode cX9_order 74 = .ok (.aload_n 0, 1) := by decide +kernel
theorem dX9_order_75 : decode cX9_order 75 = .ok (.getfield 47, 3) := by decide +kernel
theorem dX9_order_78 : decode cX9_order 78 = .ok (.aload 4, 2) := by decide +kernel
theorem dX9_order_80 : decode cX9_order 80 = .ok (.invokevirtual 274, 3) := by decide +kernel
theorem dX9_order_83 : decode cX9_order 83 = .ok (.aload_n 0, 1) := by decide +kernel
theorem dX9_order_84 : decode cX9_order 84 = .ok (.getfield 47, 3) := by decide +kernel
theorem dX9_order_87 : decode cX9_order 87 = .ok (.getfield 277, 3) := by decide +kernel
theorem dX9_order_90 : decode cX9_order 90 = .ok (.iload_n 2, 1) := by decide +kernel
theorem dX9_order_91 : decode cX9_order 91 = .ok (.iaload, 1) := by decide +kernel
theorem dX9_order_92 : decode cX9_order 92 = .ok (.ireturn, 1) := by decide +kernel
theorem dX9_isWithin_0 : decode cX9_isWithin 0 = .ok (.aload_n 0, 1) := by decide +kernel
theorem dX9_isWithin_1 : decode cX9_isWithin 1 = .ok (.iload_n 1, 1) := by decide +kernel
theorem dX9_isWithin_2 : decode cX9_isWithin 2 = .ok (.invokevirtual 227, 3) := by decide +kernel
theorem dX9_isWithin_5 : decode cX9_isWithin 5 = .ok (.astore_n 3, 1) := by decide +kernel
theorem dX9_isWithin_6 : decode cX9_isWithin 6 = .ok (.aload_n 0, 1) := by decide +kernel
theorem dX9_isWithin_7 : decode cX9_isWithin 7 = .ok (.iload_n 2, 1) := by decide +kernel
theorem dX9_isWithin_8 : decode cX9_isWithin 8 = .ok (.invokevirtual 227, 3) := by decide +kernel
theorem dX9_isWithin_11 : decode cX9_isWithin 11 = .ok (.astore 4, 2) := by decide +kernel
theorem dX9_isWithin_13 : decode cX9_isWithin 13 = .ok (.aload_n 0, 1) := by decide +kernel
theorem dX9_isWithin_14 : decode cX9_isWithin 14 = .ok (.getfield 54, 3) := by decide +kernel
theorem dX9_isWithin_17 : decode cX9_isWithin 17 = .ok (.aload 4, 2) := by decide +kernel
theorem dX9_isWithin_19 : decode cX9_isWithin 19 = .ok (.aload 4, 2) := by decide +kernel
theorem dX9_isWithin_21 : decode cX9_isWithin 21 = .ok (.invokevirtual 280, 3) := by decide +kernel
theorem dX9_isWithin_24 : decode cX9_isWithin 24 = .ok (.aload_n 3, 1) := by decide +kernel
theorem dX9_isWithin_25 : decode cX9_isWithin 25 = .ok (.aload_n 3, 1) := by decide +kernel
theorem dX9_isWithin_26 : decode cX9_isWithin 26 = .ok (.invokevirtual 280, 3) := by decide +kernel
theorem dX9_isWithin_29 : decode cX9_isWithin 29 = .ok (.invokevirtual 284, 3) := by decide +kernel
theorem dX9_isWithin_32 : decode cX9_isWithin 32 = .ok (.ireturn, 1) := by decide +kernel
theorem dX9_shorten_0 : decode cX9_shorten 0 = .ok (.aload_n 0, 1) := by decide +kernel
theorem dX9_shorten_1 : decode cX9_shorten 1 = .ok (.iload_n 1, 1) := by decide +kernel
theorem dX9_shorten_2 : decode cX9_shorten 2 = .ok (.invokevirtual 227, 3) := by decide +kernel
theorem dX9_shorten_5 : decode cX9_shorten 5 = .ok (.astore_n 2, 1) := by decide +kernel
theorem dX9_shorten_6 : decode cX9_shorten 6 = .ok (.aload_n 2, 1) := by decide +kernel
theorem dX9_shorten_7 : decode cX9_shorten 7 = .ok (.getfield 231, 3) := by decide +kernel
theorem dX9_shorten_10 : decode cX9_shorten 10 = .ok (.istore_n 3, 1) := by decide +kernel
theorem dX9_shorten_11 : decode cX9_shorten 11 = .ok (.aload_n 2, 1) := by decide +kernel
theorem dX9_shorten_12 : decode cX9_shorten 12 = .ok (.aload_n 0, 1) := by decide +kernel
theorem dX9_shorten_13 : decode cX9_shorten 13 = .ok (.getfield 54, 3) := by decide +kernel
theorem dX9_shorten_16 : decode cX9_shorten 16 = .ok (.aload_n 2, 1) := by decide +kernel
theorem dX9_shorten_17 : decode cX9_shorten 17 = .ok (.invokevirtual 242, 3) := by decide +kernel
theorem dX9_shorten_20 : decode cX9_shorten 20 = .ok (.invokevirtual 291, 3) := by decide +kernel
theorem dX9_shorten_23 : decode cX9_shorten 23 = .ok (.iload_n 3, 1) := by decide +kernel
theorem dX9_shorten_24 : decode cX9_shorten 24 = .ok (.aload_n 2, 1) := by decide +kernel
theorem dX9_shorten_25 : decode cX9_shorten 25 = .ok (.getfield 231, 3) := by decide +kernel
theorem dX9_shorten_28 : decode cX9_shorten 28 = .ok (.isub, 1) := by decide +kernel
theorem dX9_shorten_29 : decode cX9_shorten 29 = .ok (.ireturn, 1) := by decide +kernel
theorem dX9_share_0 : decode cX9_share 0 = .ok (.aload_n 0, 1) := by decide +kernel
theorem dX9_share_1 : decode cX9_share 1 = .ok (.iload_n 1, 1) := by decide +kernel
theorem dX9_share_2 : decode cX9_share 2 = .ok (.invokevirtual 141, 3) := by decide +kernel
theorem dX9_share_5 : decode cX9_share 5 = .ok (.astore_n 2, 1) := by decide +kernel
theorem dX9_share_6 : decode cX9_share 6 = .ok (.aload_n 2, 1) := by decide +kernel
theorem dX9_share_7 : decode cX9_share 7 = .ok (.invokestatic 199, 3) := by decide +kernel
theorem dX9_share_10 : decode cX9_share 10 = .ok (.aload_n 0, 1) := by decide +kernel
theorem dX9_share_11 : decode cX9_share 11 = .ok (.aload_n 2, 1) := by decide +kernel
theorem dX9_share_12 : decode cX9_share 12 = .ok (.invokevirtual 191, 3) := by decide +kernel
theorem dX9_share_15 : decode cX9_share 15 = .ok (.invokestatic 210, 3) := by decide +kernel
theorem dX9_share_18 : decode cX9_share 18 = .ok (.istore_n 3, 1) := by decide +kernel
theorem dX9_share_19 : decode cX9_share 19 = .ok (.aload_n 2, 1) := by decide +kernel
theorem dX9_share_20 : decode cX9_share 20 = .ok (.getfield 182, 3) := by decide +kernel
theorem dX9_share_23 : decode cX9_share 23 = .ok (.invokestatic 210, 3) := by decide +kernel
theorem dX9_share_26 : decode cX9_share 26 = .ok (.istore 4, 2) := by decide +kernel
theorem dX9_share_28 : decode cX9_share 28 = .ok (.iconst 1, 1) := by decide +kernel
theorem dX9_share_29 : decode cX9_share 29 = .ok (.istore 5, 2) := by decide +kernel
theorem dX9_share_31 : decode cX9_share 31 = .ok (.iconst 0, 1) := by decide +kernel
theorem dX9_share_32 : decode cX9_share 32 = .ok (.istore 6, 2) := by decide +kernel
theorem dX9_share_34 : decode cX9_share 34 = .ok (.iload 6, 2) := by decide +kernel
theorem dX9_share_36 : decode cX9_share 36 = .ok (.iload 4, 2) := by decide +kernel
theorem dX9_share_38 : decode cX9_share 38 = .ok (.if_icmp .ge 15, 3) := by decide +kernel
theorem dX9_share_41 : decode cX9_share 41 = .ok (.iload 5, 2) := by decide +kernel
theorem dX9_share_43 : decode cX9_share 43 = .ok (.iload_n 3, 1) := by decide +kernel
theorem dX9_share_44 : decode cX9_share 44 = .ok (.imul, 1) := by decide +kernel
theorem dX9_share_45 : decode cX9_share 45 = .ok (.istore 5, 2) := by decide +kernel
theorem dX9_share_47 : decode cX9_share 47 = .ok (.iinc 6 1, 3) := by decide +kernel
theorem dX9_share_50 : decode cX9_share 50 = .ok (.goto (-16), 3) := by decide +kernel
theorem dX9_share_53 : decode cX9_share 53 = .ok (.iload 5, 2) := by decide +kernel
theorem dX9_share_55 : decode cX9_share 55 = .ok (.ifCond .ne 5, 3) := by decide +kernel
theorem dX9_share_58 : decode cX9_share 58 = .ok (.dconst 0, 1) := by decide +kernel
theorem dX9_share_59 : decode cX9_share 59 = .ok (.dreturn, 1) := by decide +kernel
theorem dX9_share_60 : decode cX9_share 60 = .ok (.aload_n 0, 1) := by decide +kernel
theorem dX9_share_61 : decode cX9_share 61 = .ok (.getfield 40, 3) := by decide +kernel
theorem dX9_share_64 : decode cX9_share 64 = .ok (.aload_n 2, 1) := by decide +kernel
theorem dX9_share_65 : decode cX9_share 65 = .ok (.aload_n 0, 1) := by decide +kernel
theorem dX9_share_66 : decode cX9_share 66 = .ok (.aload_n 2, 1) := by decide +kernel
theorem dX9_share_67 : decode cX9_share 67 = .ok (.invokevirtual 191, 3) := by decide +kernel
theorem dX9_share_70 : decode cX9_share 70 = .ok (.invokevirtual 203, 3) := by decide +kernel
theorem dX9_share_73 : decode cX9_share 73 = .ok (.getfield 207, 3) := by decide +kernel
theorem dX9_share_76 : decode cX9_share 76 = .ok (.i2d, 1) := by decide +kernel
theorem dX9_share_77 : decode cX9_share 77 = .ok (.iload 5, 2) := by decide +kernel
theorem dX9_share_79 : decode cX9_share 79 = .ok (.i2d, 1) := by decide +kernel
theorem dX9_share_80 : decode cX9_share 80 = .ok (.ddiv, 1) := by decide +kernel
theorem dX9_share_81 : decode cX9_share 81 = .ok (.dreturn, 1) := by decide +kernel
theorem dX9_digest_0 : decode cX9_digest 0 = .ok (.ldc2_w 308, 3) := by decide +kernel
theorem dX9_digest_3 : decode cX9_digest 3 = .ok (.aload_n 0, 1) := by decide +kernel
theorem dX9_digest_4 : decode cX9_digest 4 = .ok (.getfield 15, 3) := by decide +kernel
theorem dX9_digest_7 : decode cX9_digest 7 = .ok (.i2l, 1) := by decide +kernel
theorem dX9_digest_8 : decode cX9_digest 8 = .ok (.invokestatic 310, 3) := by decide +kernel
theorem dX9_digest_11 : decode cX9_digest 11 = .ok (.lstore_n 1, 1) := by decide +kernel
theorem dX9_digest_12 : decode cX9_digest 12 = .ok (.iconst 0, 1) := by decide +kernel
theorem dX9_digest_13 : decode cX9_digest 13 = .ok (.istore_n 3, 1) := by decide +kernel
theorem dX9_digest_14 : decode cX9_digest 14 = .ok (.iload_n 3, 1) := by decide +kernel
theorem dX9_digest_15 : decode cX9_digest 15 = .ok (.aload_n 0, 1) := by decide +kernel
theorem dX9_digest_16 : decode cX9_digest 16 = .ok (.getfield 15, 3) := by decide +kernel
theorem dX9_digest_19 : decode cX9_digest 19 = .ok (.if_icmp .ge 20, 3) := by decide +kernel
theorem dX9_digest_22 : decode cX9_digest 22 = .ok (.lload_n 1, 1) := by decide +kernel
theorem dX9_digest_23 : decode cX9_digest 23 = .ok (.aload_n 0, 1) := by decide +kernel
theorem dX9_digest_24 : decode cX9_digest 24 = .ok (.getfield 11, 3) := by decide +kernel
theorem dX9_digest_27 : decode cX9_digest 27 = .ok (.iload_n 3, 1) := by decide +kernel
theorem dX9_digest_28 : decode cX9_digest 28 = .ok (.aaload, 1) := by decide +kernel
theorem dX9_digest_29 : decode cX9_digest 29 = .ok (.invokestatic 314, 3) := by decide +kernel
theorem dX9_digest_32 : decode cX9_digest 32 = .ok (.lstore_n 1, 1) := by decide +kernel
theorem dX9_digest_33 : decode cX9_digest 33 = .ok (.iinc 3 1, 3) := by decide +kernel
theorem dX9_digest_36 : decode cX9_digest 36 = .ok (.goto (-22), 3) := by decide +kernel
theorem dX9_digest_39 : decode cX9_digest 39 = .ok (.lload_n 1, 1) := by decide +kernel
theorem dX9_digest_40 : decode cX9_digest 40 = .ok (.aload_n 0, 1) := by decide +kernel
theorem dX9_digest_41 : decode cX9_digest 41 = .ok (.getfield 25, 3) := by decide +kernel
theorem dX9_digest_44 : decode cX9_digest 44 = .ok (.i2l, 1) := by decide +kernel
theorem dX9_digest_45 : decode cX9_digest 45 = .ok (.invokestatic 310, 3) := by decide +kernel
theorem dX9_digest_48 : decode cX9_digest 48 = .ok (.lstore_n 1, 1) := by decide +kernel
theorem dX9_digest_49 : decode cX9_digest 49 = .ok (.iconst 0, 1) := by decide +kernel
theorem dX9_digest_50 : decode cX9_digest 50 = .ok (.istore_n 3, 1) := by decide +kernel
theorem dX9_digest_51 : decode cX9_digest 51 = .ok (.iload_n 3, 1) := by decide +kernel
theorem dX9_digest_52 : decode cX9_digest 52 = .ok (.aload_n 0, 1) := by decide +kernel
theorem dX9_digest_53 : decode cX9_digest 53 = .ok (.getfield 25, 3) := by decide +kernel
theorem dX9_digest_56 : decode cX9_digest 56 = .ok (.if_icmp .ge 16, 3) := by decide +kernel
theorem dX9_digest_59 : decode cX9_digest 59 = .ok (.aload_n 0, 1) := by decide +kernel
theorem dX9_digest_60 : decode cX9_digest 60 = .ok (.lload_n 1, 1) := by decide +kernel
theorem dX9_digest_61 : decode cX9_digest 61 = .ok (.iload_n 3, 1) := by decide +kernel
theorem dX9_digest_62 : decode cX9_digest 62 = .ok (.invokevirtual 318, 3) := by decide +kernel
theorem dX9_digest_65 : decode cX9_digest 65 = .ok (.lstore_n 1, 1) := by decide +kernel
theorem dX9_digest_66 : decode cX9_digest 66 = .ok (.iinc 3 1, 3) := by decide +kernel
theorem dX9_digest_69 : decode cX9_digest 69 = .ok (.goto (-18), 3) := by decide +kernel
theorem dX9_digest_72 : decode cX9_digest 72 = .ok (.lload_n 1, 1) := by decide +kernel
theorem dX9_digest_73 : decode cX9_digest 73 = .ok (.aload_n 0, 1) := by decide +kernel
theorem dX9_digest_74 : decode cX9_digest 74 = .ok (.getfield 34, 3) := by decide +kernel
theorem dX9_digest_77 : decode cX9_digest 77 = .ok (.i2l, 1) := by decide +kernel
theorem dX9_digest_78 : decode cX9_digest 78 = .ok (.invokestatic 310, 3) := by decide +kernel
theorem dX9_digest_81 : decode cX9_digest 81 = .ok (.lstore_n 1, 1) := by decide +kernel
theorem dX9_digest_82 : decode cX9_digest 82 = .ok (.iconst 0, 1) := by decide +kernel
theorem dX9_digest_83 : decode cX9_digest 83 = .ok (.istore_n 3, 1) := by decide +kernel
theorem dX9_digest_84 : decode cX9_digest 84 = .ok (.iload_n 3, 1) := by decide +kernel
theorem dX9_digest_85 : decode cX9_digest 85 = .ok (.aload_n 0, 1) := by decide +kernel
theorem dX9_digest_86 : decode cX9_digest 86 = .ok (.getfield 34, 3) := by decide +kernel
theorem dX9_digest_89 : decode cX9_digest 89 = .ok (.if_icmp .ge 21, 3) := by decide +kernel
theorem dX9_digest_92 : decode cX9_digest 92 = .ok (.aload_n 0, 1) := by decide +kernel
theorem dX9_digest_93 : decode cX9_digest 93 = .ok (.lload_n 1, 1) := by decide +kernel
theorem dX9_digest_94 : decode cX9_digest 94 = .ok (.aload_n 0, 1) := by decide +kernel
theorem dX9_digest_95 : decode cX9_digest 95 = .ok (.getfield 30, 3) := by decide +kernel
theorem dX9_digest_98 : decode cX9_digest 98 = .ok (.iload_n 3, 1) := by decide +kernel
theorem dX9_digest_99 : decode cX9_digest 99 = .ok (.aaload, 1) := by decide +kernel
theorem dX9_digest_100 : decode cX9_digest 100 = .ok (.invokevirtual 322, 3) := by decide +kernel
theorem dX9_digest_103 : decode cX9_digest 103 = .ok (.lstore_n 1, 1) := by decide +kernel
theorem dX9_digest_104 : decode cX9_digest 104 = .ok (.iinc 3 1, 3) := by decide +kernel
theorem dX9_digest_107 : decode cX9_digest 107 = .ok (.goto (-23), 3) := by decide +kernel
theorem dX9_digest_110 : decode cX9_digest 110 = .ok (.iconst 0, 1) := by decide +kernel
theorem dX9_digest_111 : decode cX9_digest 111 = .ok (.istore_n 3, 1) := by decide +kernel
theorem dX9_digest_112 : decode cX9_digest 112 = .ok (.iload_n 3, 1) := by decide +kernel
theorem dX9_digest_113 : decode cX9_digest 113 = .ok (.aload_n 0, 1) := by decide +kernel
theorem dX9_digest_114 : decode cX9_digest 114 = .ok (.getfield 34, 3) := by decide +kernel
theorem dX9_digest_117 : decode cX9_digest 117 = .ok (.if_icmp .ge 47, 3) := by decide +kernel
theorem dX9_digest_120 : decode cX9_digest 120 = .ok (.iconst 0, 1) := by decide +kernel
theorem dX9_digest_121 : decode cX9_digest 121 = .ok (.istore 4, 2) := by decide +kernel
theorem dX9_digest_123 : decode cX9_digest 123 = .ok (.iload 4, 2) := by decide +kernel
theorem dX9_digest_125 : decode cX9_digest 125 = .ok (.aload_n 0, 1) := by decide +kernel
theorem dX9_digest_126 : decode cX9_digest 126 = .ok (.getfield 34, 3) := by decide +kernel
theorem dX9_digest_129 : decode cX9_digest 129 = .ok (.if_icmp .ge 29, 3) := by decide +kernel
theorem dX9_digest_132 : decode cX9_digest 132 = .ok (.lload_n 1, 1) := by decide +kernel
theorem dX9_digest_133 : decode cX9_digest 133 = .ok (.aload_n 0, 1) := by decide +kernel
theorem dX9_digest_134 : decode cX9_digest 134 = .ok (.iload_n 3, 1) := by decide +kernel
theorem dX9_digest_135 : decode cX9_digest 135 = .ok (.iload 4, 2) := by decide +kernel
theorem dX9_digest_137 : decode cX9_digest 137 = .ok (.invokevirtual 326, 3) := by decide +kernel
theorem dX9_digest_140 : decode cX9_digest 140 = .ok (.ifCond .eq 7, 3) := by decide +kernel
theorem dX9_digest_143 : decode cX9_digest 143 = .ok (.lconst 1, 1) := by decide +kernel
theorem dX9_digest_144 : decode cX9_digest 144 = .ok (.goto 4, 3) := by decide +kernel
theorem dX9_digest_147 : decode cX9_digest 147 = .ok (.lconst 0, 1) := by decide +kernel
theorem dX9_digest_148 : decode cX9_digest 148 = .ok (.invokestatic 310, 3) := by decide +kernel
theorem dX9_digest_151 : decode cX9_digest 151 = .ok (.lstore_n 1, 1) := by decide +kernel
theorem dX9_digest_152 : decode cX9_digest 152 = .ok (.iinc 4 1, 3) := by decide +kernel
theorem dX9_digest_155 : decode cX9_digest 155 = .ok (.goto (-32), 3) := by decide +kernel
theorem dX9_digest_158 : decode cX9_digest 158 = .ok (.iinc 3 1, 3) := by decide +kernel
theorem dX9_digest_161 : decode cX9_digest 161 = .ok (.goto (-49), 3) := by decide +kernel
theorem dX9_digest_164 : decode cX9_digest 164 = .ok (.lload_n 1, 1) := by decide +kernel
theorem dX9_digest_165 : decode cX9_digest 165 = .ok (.lreturn, 1) := by decide +kernel
theorem dX9_mix_0 : decode cX9_mix 0 = .ok (.lload_n 0, 1) := by decide +kernel
theorem dX9_mix_1 : decode cX9_mix 1 = .ok (.ldc2_w 330, 3) := by decide +kernel
theorem dX9_mix_4 : decode cX9_mix 4 = .ok (.lmul, 1) := by decide +kernel
theorem dX9_mix_5 : decode cX9_mix 5 = .ok (.lload_n 2, 1) := by decide +kernel
theorem dX9_mix_6 : decode cX9_mix 6 = .ok (.ladd, 1) := by decide +kernel
theorem dX9_mix_7 : decode cX9_mix 7 = .ok (.lreturn, 1) := by decide +kernel
theorem dX9_mixRelation_0 : decode cX9_mixRelation 0 = .ok (.lload_n 0, 1) := by decide +kernel
theorem dX9_mixRelation_1 : decode cX9_mixRelation 1 = .ok (.aload_n 2, 1) := by decide +kernel
theorem dX9_mixRelation_2 : decode cX9_mixRelation 2 = .ok (.getfield 92, 3) := by decide +kernel
theorem dX9_mixRelation_5 : decode cX9_mixRelation 5 = .ok (.i2l, 1) := by decide +kernel
theorem dX9_mixRelation_6 : decode cX9_mixRelation 6 = .ok (.invokestatic 310, 3) := by decide +kernel
theorem dX9_mixRelation_9 : decode cX9_mixRelation 9 = .ok (.lstore_n 3, 1) := by decide +kernel
theorem dX9_mixRelation_10 : decode cX9_mixRelation 10 = .ok (.iconst 0, 1) := by decide +kernel
theorem dX9_mixRelation_11 : decode cX9_mixRelation 11 = .ok (.istore 5, 2) := by decide +kernel
theorem dX9_mixRelation_13 : decode cX9_mixRelation 13 = .ok (.iload 5, 2) := by decide +kernel
theorem dX9_mixRelation_15 : decode cX9_mixRelation 15 = .ok (.aload_n 2, 1) := by decide +kernel
theorem dX9_mixRelation_16 : decode cX9_mixRelation 16 = .ok (.getfield 92, 3) := by decide +kernel
theorem dX9_mixRelation_19 : decode cX9_mixRelation 19 = .ok (.if_icmp .ge 41, 3) := by decide +kernel
theorem dX9_mixRelation_22 : decode cX9_mixRelation 22 = .ok (.iconst 0, 1) := by decide +kernel
theorem dX9_mixRelation_23 : decode cX9_mixRelation 23 = .ok (.istore 6, 2) := by decide +kernel
theorem dX9_mixRelation_25 : decode cX9_mixRelation 25 = .ok (.iload 6, 2) := by decide +kernel
theorem dX9_mixRelation_27 : decode cX9_mixRelation 27 = .ok (.aload_n 2, 1) := by decide +kernel
theorem dX9_mixRelation_28 : decode cX9_mixRelation 28 = .ok (.getfield 77, 3) := by decide +kernel
theorem dX9_mixRelation_31 : decode cX9_mixRelation 31 = .ok (.if_icmp .ge 23, 3) := by decide +kernel
theorem dX9_mixRelation_34 : decode cX9_mixRelation 34 = .ok (.lload_n 3, 1) := by decide +kernel
theorem dX9_mixRelation_35 : decode cX9_mixRelation 35 = .ok (.aload_n 2, 1) := by decide +kernel
theorem dX9_mixRelation_36 : decode cX9_mixRelation 36 = .ok (.iload 5, 2) := by decide +kernel
theorem dX9_mixRelation_38 : decode cX9_mixRelation 38 = .ok (.iload 6, 2) := by decide +kernel
theorem dX9_mixRelation_40 : decode cX9_mixRelation 40 = .ok (.invokevirtual 110, 3) := by decide +kernel
theorem dX9_mixRelation_43 : decode cX9_mixRelation 43 = .ok (.i2l, 1) := by decide +kernel
theorem dX9_mixRelation_44 : decode cX9_mixRelation 44 = .ok (.invokestatic 310, 3) := by decide +kernel
theorem dX9_mixRelation_47 : decode cX9_mixRelation 47 = .ok (.lstore_n 3, 1) := by decide +kernel
theorem dX9_mixRelation_48 : decode cX9_mixRelation 48 = .ok (.iinc 6 1, 3) := by decide +kernel
theorem dX9_mixRelation_51 : decode cX9_mixRelation 51 = .ok (.goto (-26), 3) := by decide +kernel
theorem dX9_mixRelation_54 : decode cX9_mixRelation 54 = .ok (.iinc 5 1, 3) := by decide +kernel
theorem dX9_mixRelation_57 : decode cX9_mixRelation 57 = .ok (.goto (-44), 3) := by decide +kernel
theorem dX9_mixRelation_60 : decode cX9_mixRelation 60 = .ok (.lload_n 3, 1) := by decide +kernel
theorem dX9_mixRelation_61 : decode cX9_mixRelation 61 = .ok (.lreturn, 1) := by decide +kernel
theorem dX9_mixFormula_0 : decode cX9_mixFormula 0 = .ok (.lload_n 1, 1) := by decide +kernel
theorem dX9_mixFormula_1 : decode cX9_mixFormula 1 = .ok (.lstore 4, 2) := by decide +kernel
theorem dX9_mixFormula_3 : decode cX9_mixFormula 3 = .ok (.iconst 0, 1) := by decide +kernel
theorem dX9_mixFormula_4 : decode cX9_mixFormula 4 = .ok (.istore 6, 2) := by decide +kernel
theorem dX9_mixFormula_6 : decode cX9_mixFormula 6 = .ok (.iload 6, 2) := by decide +kernel
theorem dX9_mixFormula_8 : decode cX9_mixFormula 8 = .ok (.iconst 5, 1) := by decide +kernel
theorem dX9_mixFormula_9 : decode cX9_mixFormula 9 = .ok (.if_icmp .gt 24, 3) := by decide +kernel
theorem dX9_mixFormula_12 : decode cX9_mixFormula 12 = .ok (.lload 4, 2) := by decide +kernel
theorem dX9_mixFormula_14 : decode cX9_mixFormula 14 = .ok (.aload_n 0, 1) := by decide +kernel
theorem dX9_mixFormula_15 : decode cX9_mixFormula 15 = .ok (.iload_n 3, 1) := by decide +kernel
theorem dX9_mixFormula_16 : decode cX9_mixFormula 16 = .ok (.iload 6, 2) := by decide +kernel
theorem dX9_mixFormula_18 : decode cX9_mixFormula 18 = .ok (.invokevirtual 332, 3) := by decide +kernel
theorem dX9_mixFormula_21 : decode cX9_mixFormula 21 = .ok (.i2l, 1) := by decide +kernel
theorem dX9_mixFormula_22 : decode cX9_mixFormula 22 = .ok (.invokestatic 310, 3) := by decide +kernel
theorem dX9_mixFormula_25 : decode cX9_mixFormula 25 = .ok (.lstore 4, 2) := by decide +kernel
theorem dX9_mixFormula_27 : decode cX9_mixFormula 27 = .ok (.iinc 6 1, 3) := by decide +kernel
theorem dX9_mixFormula_30 : decode cX9_mixFormula 30 = .ok (.goto (-24), 3) := by decide +kernel
theorem dX9_mixFormula_33 : decode cX9_mixFormula 33 = .ok (.lload 4, 2) := by decide +kernel
theorem dX9_mixFormula_35 : decode cX9_mixFormula 35 = .ok (.aload_n 0, 1) := by decide +kernel
theorem dX9_mixFormula_36 : decode cX9_mixFormula 36 = .ok (.iload_n 3, 1) := by decide +kernel
theorem dX9_mixFormula_37 : decode cX9_mixFormula 37 = .ok (.invokevirtual 335, 3) := by decide +kernel
theorem dX9_mixFormula_40 : decode cX9_mixFormula 40 = .ok (.ifCond .eq 7, 3) := by decide +kernel
theorem dX9_mixFormula_43 : decode cX9_mixFormula 43 = .ok (.lconst 1, 1) := by decide +kernel
theorem dX9_mixFormula_44 : decode cX9_mixFormula 44 = .ok (.goto 4, 3) := by decide +kernel
theorem dX9_mixFormula_47 : decode cX9_mixFormula 47 = .ok (.lconst 0, 1) := by decide +kernel
theorem dX9_mixFormula_48 : decode cX9_mixFormula 48 = .ok (.invokestatic 310, 3) := by decide +kernel
theorem dX9_mixFormula_51 : decode cX9_mixFormula 51 = .ok (.lstore 4, 2) := by decide +kernel
theorem dX9_mixFormula_53 : decode cX9_mixFormula 53 = .ok (.lload 4, 2) := by decide +kernel
theorem dX9_mixFormula_55 : decode cX9_mixFormula 55 = .ok (.aload_n 0, 1) := by decide +kernel
theorem dX9_mixFormula_56 : decode cX9_mixFormula 56 = .ok (.iload_n 3, 1) := by decide +kernel
theorem dX9_mixFormula_57 : decode cX9_mixFormula 57 = .ok (.invokevirtual 338, 3) := by decide +kernel
theorem dX9_mixFormula_60 : decode cX9_mixFormula 60 = .ok (.i2l, 1) := by decide +kernel
theorem dX9_mixFormula_61 : decode cX9_mixFormula 61 = .ok (.invokestatic 310, 3) := by decide +kernel
theorem dX9_mixFormula_64 : decode cX9_mixFormula 64 = .ok (.lstore 4, 2) := by decide +kernel
theorem dX9_mixFormula_66 : decode cX9_mixFormula 66 = .ok (.aload_n 0, 1) := by decide +kernel
theorem dX9_mixFormula_67 : decode cX9_mixFormula 67 = .ok (.getfield 21, 3) := by decide +kernel
theorem dX9_mixFormula_70 : decode cX9_mixFormula 70 = .ok (.iload_n 3, 1) := by decide +kernel
theorem dX9_mixFormula_71 : decode cX9_mixFormula 71 = .ok (.aaload, 1) := by decide +kernel
theorem dX9_mixFormula_72 : decode cX9_mixFormula 72 = .ok (.astore 6, 2) := by decide +kernel
theorem dX9_mixFormula_74 : decode cX9_mixFormula 74 = .ok (.aload 6, 2) := by decide +kernel
theorem dX9_mixFormula_76 : decode cX9_mixFormula 76 = .ok (.getfield 182, 3) := by decide +kernel
theorem dX9_mixFormula_79 : decode cX9_mixFormula 79 = .ok (.invokestatic 210, 3) := by decide +kernel
theorem dX9_mixFormula_82 : decode cX9_mixFormula 82 = .ok (.iconst 2, 1) := by decide +kernel
theorem dX9_mixFormula_83 : decode cX9_mixFormula 83 = .ok (.if_icmp .gt 29, 3) := by decide +kernel
theorem dX9_mixFormula_86 : decode cX9_mixFormula 86 = .ok (.lload 4, 2) := by decide +kernel
theorem dX9_mixFormula_88 : decode cX9_mixFormula 88 = .ok (.aload_n 0, 1) := by decide +kernel
theorem dX9_mixFormula_89 : decode cX9_mixFormula 89 = .ok (.getfield 40, 3) := by decide +kernel
theorem dX9_mixFormula_92 : decode cX9_mixFormula 92 = .ok (.aload 6, 2) := by decide +kernel
theorem dX9_mixFormula_94 : decode cX9_mixFormula 94 = .ok (.aload_n 0, 1) := by decide +kernel
theorem dX9_mixFormula_95 : decode cX9_mixFormula 95 = .ok (.aload 6, 2) := by decide +kernel
theorem dX9_mixFormula_97 : decode cX9_mixFormula 97 = .ok (.invokevirtual 191, 3) := by decide +kernel
theorem dX9_mixFormula_100 : decode cX9_mixFormula 100 = .ok (.invokevirtual 203, 3) := by decide +kernel
theorem dX9_mixFormula_103 : decode cX9_mixFormula 103 = .ok (.getfield 207, 3) := by decide +kernel
theorem dX9_mixFormula_106 : decode cX9_mixFormula 106 = .ok (.i2l, 1) := by decide +kernel
theorem dX9_mixFormula_107 : decode cX9_mixFormula 107 = .ok (.invokestatic 310, 3) := by decide +kernel
theorem dX9_mixFormula_110 : decode cX9_mixFormula 110 = .ok (.lstore 4, 2) := by decide +kernel
theorem dX9_mixFormula_112 : decode cX9_mixFormula 112 = .ok (.lload 4, 2) := by decide +kernel
theorem dX9_mixFormula_114 : decode cX9_mixFormula 114 = .ok (.lreturn, 1) := by decide +kernel
theorem dX9_mixRule_0 : decode cX9_mixRule 0 = .ok (.aload_n 3, 1) := by decide +kernel
theorem dX9_mixRule_1 : decode cX9_mixRule 1 = .ok (.invokevirtual 238, 3) := by decide +kernel
theorem dX9_mixRule_4 : decode cX9_mixRule 4 = .ok (.istore 4, 2) := by decide +kernel
theorem dX9_mixRule_6 : decode cX9_mixRule 6 = .ok (.lload_n 1, 1) := by decide +kernel
theorem dX9_mixRule_7 : decode cX9_mixRule 7 = .ok (.aload_n 3, 1) := by decide +kernel
theorem dX9_mixRule_8 : decode cX9_mixRule 8 = .ok (.getfield 231, 3) := by decide +kernel
theorem dX9_mixRule_11 : decode cX9_mixRule 11 = .ok (.i2l, 1) := by decide +kernel
theorem dX9_mixRule_12 : decode cX9_mixRule 12 = .ok (.invokestatic 310, 3) := by decide +kernel
theorem dX9_mixRule_15 : decode cX9_mixRule 15 = .ok (.lstore 5, 2) := by decide +kernel
theorem dX9_mixRule_17 : decode cX9_mixRule 17 = .ok (.lload 5, 2) := by decide +kernel
theorem dX9_mixRule_19 : decode cX9_mixRule 19 = .ok (.iload 4, 2) := by decide +kernel
theorem dX9_mixRule_21 : decode cX9_mixRule 21 = .ok (.ifCond .eq 7, 3) := by decide +kernel
theorem dX9_mixRule_24 : decode cX9_mixRule 24 = .ok (.lconst 1, 1) := by decide +kernel
theorem dX9_mixRule_25 : decode cX9_mixRule 25 = .ok (.goto 4, 3) := by decide +kernel
theorem dX9_mixRule_28 : decode cX9_mixRule 28 = .ok (.lconst 0, 1) := by decide +kernel
theorem dX9_mixRule_29 : decode cX9_mixRule 29 = .ok (.invokestatic 310, 3) := by decide +kernel
theorem dX9_mixRule_32 : decode cX9_mixRule 32 = .ok (.lstore 5, 2) := by decide +kernel
theorem dX9_mixRule_34 : decode cX9_mixRule 34 = .ok (.lload 5, 2) := by decide +kernel
theorem dX9_mixRule_36 : decode cX9_mixRule 36 = .ok (.aload_n 0, 1) := by decide +kernel
theorem dX9_mixRule_37 : decode cX9_mixRule 37 = .ok (.getfield 54, 3) := by decide +kernel
theorem dX9_mixRule_40 : decode cX9_mixRule 40 = .ok (.aload_n 3, 1) := by decide +kernel
theorem dX9_mixRule_41 : decode cX9_mixRule 41 = .ok (.invokevirtual 242, 3) := by decide +kernel
theorem dX9_mixRule_44 : decode cX9_mixRule 44 = .ok (.invokestatic 210, 3) := by decide +kernel
theorem dX9_mixRule_47 : decode cX9_mixRule 47 = .ok (.i2l, 1) := by decide +kernel
theorem dX9_mixRule_48 : decode cX9_mixRule 48 = .ok (.invokestatic 310, 3) := by decide +kernel
theorem dX9_mixRule_51 : decode cX9_mixRule 51 = .ok (.lstore 5, 2) := by decide +kernel
theorem dX9_mixRule_53 : decode cX9_mixRule 53 = .ok (.iload 4, 2) := by decide +kernel
theorem dX9_mixRule_55 : decode cX9_mixRule 55 = .ok (.ifCond .eq 22, 3) := by decide +kernel
theorem dX9_mixRule_58 : decode cX9_mixRule 58 = .ok (.lload 5, 2) := by decide +kernel
theorem dX9_mixRule_60 : decode cX9_mixRule 60 = .ok (.aload_n 0, 1) := by decide +kernel
theorem dX9_mixRule_61 : decode cX9_mixRule 61 = .ok (.getfield 47, 3) := by decide +kernel
theorem dX9_mixRule_64 : decode cX9_mixRule 64 = .ok (.aload_n 3, 1) := by decide +kernel
theorem dX9_mixRule_65 : decode cX9_mixRule 65 = .ok (.invokevirtual 252, 3) := by decide +kernel
theorem dX9_mixRule_68 : decode cX9_mixRule 68 = .ok (.getfield 207, 3) := by decide +kernel
theorem dX9_mixRule_71 : decode cX9_mixRule 71 = .ok (.i2l, 1) := by decide +kernel
theorem dX9_mixRule_72 : decode cX9_mixRule 72 = .ok (.invokestatic 310, 3) := by decide +kernel
theorem dX9_mixRule_75 : decode cX9_mixRule 75 = .ok (.lstore 5, 2) := by decide +kernel
theorem dX9_mixRule_77 : decode cX9_mixRule 77 = .ok (.aload_n 0, 1) := by decide +kernel
theorem dX9_mixRule_78 : decode cX9_mixRule 78 = .ok (.getfield 47, 3) := by decide +kernel
theorem dX9_mixRule_81 : decode cX9_mixRule 81 = .ok (.aload_n 3, 1) := by decide +kernel
theorem dX9_mixRule_82 : decode cX9_mixRule 82 = .ok (.invokevirtual 274, 3) := by decide +kernel
theorem dX9_mixRule_85 : decode cX9_mixRule 85 = .ok (.iconst 0, 1) := by decide +kernel
theorem dX9_mixRule_86 : decode cX9_mixRule 86 = .ok (.istore 7, 2) := by decide +kernel
theorem dX9_mixRule_88 : decode cX9_mixRule 88 = .ok (.iload 7, 2) := by decide +kernel
theorem dX9_mixRule_90 : decode cX9_mixRule 90 = .ok (.aload_n 3, 1) := by decide +kernel
theorem dX9_mixRule_91 : decode cX9_mixRule 91 = .ok (.getfield 231, 3) := by decide +kernel
theorem dX9_mixRule_94 : decode cX9_mixRule 94 = .ok (.if_icmp .ge 45, 3) := by decide +kernel
theorem dX9_mixRule_97 : decode cX9_mixRule 97 = .ok (.lload 5, 2) := by decide +kernel
theorem dX9_mixRule_99 : decode cX9_mixRule 99 = .ok (.aload_n 0, 1) := by decide +kernel
theorem dX9_mixRule_100 : decode cX9_mixRule 100 = .ok (.getfield 47, 3) := by decide +kernel
theorem dX9_mixRule_103 : decode cX9_mixRule 103 = .ok (.getfield 271, 3) := by decide +kernel
theorem dX9_mixRule_106 : decode cX9_mixRule 106 = .ok (.iload 7, 2) := by decide +kernel
theorem dX9_mixRule_108 : decode cX9_mixRule 108 = .ok (.iaload, 1) := by decide +kernel
theorem dX9_mixRule_109 : decode cX9_mixRule 109 = .ok (.i2l, 1) := by decide +kernel
theorem dX9_mixRule_110 : decode cX9_mixRule 110 = .ok (.invokestatic 310, 3) := by decide +kernel
theorem dX9_mixRule_113 : decode cX9_mixRule 113 = .ok (.lstore 5, 2) := by decide +kernel
theorem dX9_mixRule_115 : decode cX9_mixRule 115 = .ok (.lload 5, 2) := by decide +kernel
theorem dX9_mixRule_117 : decode cX9_mixRule 117 = .ok (.aload_n 0, 1) := by decide +kernel
theorem dX9_mixRule_118 : decode cX9_mixRule 118 = .ok (.getfield 47, 3) := by decide +kernel
theorem dX9_mixRule_121 : decode cX9_mixRule 121 = .ok (.getfield 277, 3) := by decide +kernel
theorem dX9_mixRule_124 : decode cX9_mixRule 124 = .ok (.iload 7, 2) := by decide +kernel
theorem dX9_mixRule_126 : decode cX9_mixRule 126 = .ok (.iaload, 1) := by decide +kernel
theorem dX9_mixRule_127 : decode cX9_mixRule 127 = .ok (.i2l, 1) := by decide +kernel
theorem dX9_mixRule_128 : decode cX9_mixRule 128 = .ok (.invokestatic 310, 3) := by decide +kernel
theorem dX9_mixRule_131 : decode cX9_mixRule 131 = .ok (.lstore 5, 2) := by decide +kernel
theorem dX9_mixRule_133 : decode cX9_mixRule 133 = .ok (.iinc 7 1, 3) := by decide +kernel
theorem dX9_mixRule_136 : decode cX9_mixRule 136 = .ok (.goto (-48), 3) := by decide +kernel
theorem dX9_mixRule_139 : decode cX9_mixRule 139 = .ok (.lload 5, 2) := by decide +kernel
theorem dX9_mixRule_141 : decode cX9_mixRule 141 = .ok (.lreturn, 1) := by decide +kernel
theorem dX9_relationAt_0 : decode cX9_relationAt 0 = .ok (.iload_n 1, 1) := by decide +kernel
theorem dX9_relationAt_1 : decode cX9_relationAt 1 = .ok (.ifCond .lt 11, 3) := by decide +kernel
theorem dX9_relationAt_4 : decode cX9_relationAt 4 = .ok (.iload_n 1, 1) := by decide +kernel
theorem dX9_relationAt_5 : decode cX9_relationAt 5 = .ok (.aload_n 0, 1) := by decide +kernel
theorem dX9_relationAt_6 : decode cX9_relationAt 6 = .ok (.getfield 15, 3) := by decide +kernel
theorem dX9_relationAt_9 : decode cX9_relationAt 9 = .ok (.if_icmp .lt 14, 3) := by decide +kernel
theorem dX9_relationAt_12 : decode cX9_relationAt 12 = .ok (.new 261, 3) := by decide +kernel
theorem dX9_relationAt_15 : decode cX9_relationAt 15 = .ok (.dup, 1) := by decide +kernel
theorem dX9_relationAt_16 : decode cX9_relationAt 16 = .ok (.ldc_w 340, 3) := by decide +kernel
theorem dX9_relationAt_19 : decode cX9_relationAt 19 = .ok (.invokespecial 265, 3) := by decide +kernel
theorem dX9_relationAt_22 : decode cX9_relationAt 22 = .ok (.athrow, 1) := by decide +kernel
theorem dX9_relationAt_23 : decode cX9_relationAt 23 = .ok (.aload_n 0, 1) := by decide +kernel
theorem dX9_relationAt_24 : decode cX9_relationAt 24 = .ok (.getfield 11, 3) := by decide +kernel
theorem dX9_relationAt_27 : decode cX9_relationAt 27 = .ok (.iload_n 1, 1) := by decide +kernel
theorem dX9_relationAt_28 : decode cX9_relationAt 28 = .ok (.aaload, 1) := by decide +kernel
theorem dX9_relationAt_29 : decode cX9_relationAt 29 = .ok (.areturn, 1) := by decide +kernel
theorem dX9_formulaAt_0 : decode cX9_formulaAt 0 = .ok (.iload_n 1, 1) := by decide +kernel
theorem dX9_formulaAt_1 : decode cX9_formulaAt 1 = .ok (.ifCond .lt 11, 3) := by decide +kernel
theorem dX9_formulaAt_4 : decode cX9_formulaAt 4 = .ok (.iload_n 1, 1) := by decide +kernel
theorem dX9_formulaAt_5 : decode cX9_formulaAt 5 = .ok (.aload_n 0, 1) := by decide +kernel
theorem dX9_formulaAt_6 : decode cX9_formulaAt 6 = .ok (.getfield 25, 3) := by decide +kernel
theorem dX9_formulaAt_9 : decode cX9_formulaAt 9 = .ok (.if_icmp .lt 14, 3) := by decide +kernel
theorem dX9_formulaAt_12 : decode cX9_formulaAt 12 = .ok (.new 261, 3) := by decide +kernel
theorem dX9_formulaAt_15 : decode cX9_formulaAt 15 = .ok (.dup, 1) := by decide +kernel
theorem dX9_formulaAt_16 : decode cX9_formulaAt 16 = .ok (.ldc_w 342, 3) := by decide +kernel
theorem dX9_formulaAt_19 : decode cX9_formulaAt 19 = .ok (.invokespecial 265, 3) := by decide +kernel
theorem dX9_formulaAt_22 : decode cX9_formulaAt 22 = .ok (.athrow, 1) := by decide +kernel
theorem dX9_formulaAt_23 : decode cX9_formulaAt 23 = .ok (.aload_n 0, 1) := by decide +kernel
theorem dX9_formulaAt_24 : decode cX9_formulaAt 24 = .ok (.getfield 21, 3) := by decide +kernel
theorem dX9_formulaAt_27 : decode cX9_formulaAt 27 = .ok (.iload_n 1, 1) := by decide +kernel
theorem dX9_formulaAt_28 : decode cX9_formulaAt 28 = .ok (.aaload, 1) := by decide +kernel
theorem dX9_formulaAt_29 : decode cX9_formulaAt 29 = .ok (.areturn, 1) := by decide +kernel
theorem dX9_ruleAt_0 : decode cX9_ruleAt 0 = .ok (.iload_n 1, 1) := by decide +kernel
theorem dX9_ruleAt_1 : decode cX9_ruleAt 1 = .ok (.ifCond .lt 11, 3) := by decide +kernel
theorem dX9_ruleAt_4 : decode cX9_ruleAt 4 = .ok (.iload_n 1, 1) := by decide +kernel
theorem dX9_ruleAt_5 : decode cX9_ruleAt 5 = .ok (.aload_n 0, 1) := by decide +kernel
theorem dX9_ruleAt_6 : decode cX9_ruleAt 6 = .ok (.getfield 34, 3) := by decide +kernel
theorem dX9_ruleAt_9 : decode cX9_ruleAt 9 = .ok (.if_icmp .lt 14, 3) := by decide +kernel
theorem dX9_ruleAt_12 : decode cX9_ruleAt 12 = .ok (.new 261, 3) := by decide +kernel
theorem dX9_ruleAt_15 : decode cX9_ruleAt 15 = .ok (.dup, 1) := by decide +kernel
theorem dX9_ruleAt_16 : decode cX9_ruleAt 16 = .ok (.ldc_w 344, 3) := by decide +kernel
theorem dX9_ruleAt_19 : decode cX9_ruleAt 19 = .ok (.invokespecial 265, 3) := by decide +kernel
theorem dX9_ruleAt_22 : decode cX9_ruleAt 22 = .ok (.athrow, 1) := by decide +kernel
theorem dX9_ruleAt_23 : decode cX9_ruleAt 23 = .ok (.aload_n 0, 1) := by decide +kernel
theorem dX9_ruleAt_24 : decode cX9_ruleAt 24 = .ok (.getfield 30, 3) := by decide +kernel
theorem dX9_ruleAt_27 : decode cX9_ruleAt 27 = .ok (.iload_n 1, 1) := by decide +kernel
theorem dX9_ruleAt_28 : decode cX9_ruleAt 28 = .ok (.aaload, 1) := by decide +kernel
theorem dX9_ruleAt_29 : decode cX9_ruleAt 29 = .ok (.areturn, 1) := by decide +kernel
theorem dX9_needValues_0 : decode cX9_needValues 0 = .ok (.iload_n 1, 1) := by decide +kernel
theorem dX9_needValues_1 : decode cX9_needValues 1 = .ok (.invokestatic 348, 3) := by decide +kernel
theorem dX9_needValues_4 : decode cX9_needValues 4 = .ok (.ifCond .eq 27, 3) := by decide +kernel
theorem dX9_needValues_7 : decode cX9_needValues 7 = .ok (.iload_n 0, 1) := by decide +kernel
theorem dX9_needValues_8 : decode cX9_needValues 8 = .ok (.iconst 1, 1) := by decide +kernel
theorem dX9_needValues_9 : decode cX9_needValues 9 = .ok (.if_icmp .le 10, 3) := by decide +kernel
theorem dX9_needValues_12 : decode cX9_needValues 12 = .ok (.iload_n 2, 1) := by decide +kernel
theorem dX9_needValues_13 : decode cX9_needValues 13 = .ok (.invokestatic 348, 3) := by decide +kernel
theorem dX9_needValues_16 : decode cX9_needValues 16 = .ok (.ifCond .eq 15, 3) := by decide +kernel
theorem dX9_needValues_19 : decode cX9_needValues 19 = .ok (.iload_n 0, 1) := by decide +kernel
theorem dX9_needValues_20 : decode cX9_needValues 20 = .ok (.iconst 2, 1) := by decide +kernel
theorem dX9_needValues_21 : decode cX9_needValues 21 = .ok (.if_icmp .le 21, 3) := by decide +kernel
theorem dX9_needValues_24 : decode cX9_needValues 24 = .ok (.iload_n 3, 1) := by decide +kernel
theorem dX9_needValues_25 : decode cX9_needValues 25 = .ok (.invokestatic 348, 3) := by decide +kernel
theorem dX9_needValues_28 : decode cX9_needValues 28 = .ok (.ifCond .ne 14, 3) := by decide +kernel
theorem dX9_needValues_31 : decode cX9_needValues 31 = .ok (.new 58, 3) := by decide +kernel
theorem dX9_needValues_34 : decode cX9_needValues 34 = .ok (.dup, 1) := by decide +kernel
theorem dX9_needValues_35 : decode cX9_needValues 35 = .ok (.ldc_w 351, 3) := by decide +kernel
theorem dX9_needValues_38 : decode cX9_needValues 38 = .ok (.invokespecial 62, 3) := by decide +kernel
theorem dX9_needValues_41 : decode cX9_needValues 41 = .ok (.athrow, 1) := by decide +kernel
theorem dX9_needValues_42 : decode cX9_needValues 42 = .ok (.return_, 1) := by decide +kernel
theorem dX9_needTerms_0 : decode cX9_needTerms 0 = .ok (.iload_n 0, 1) := by decide +kernel
theorem dX9_needTerms_1 : decode cX9_needTerms 1 = .ok (.ifCond .le 10, 3) := by decide +kernel
theorem dX9_needTerms_4 : decode cX9_needTerms 4 = .ok (.iload_n 1, 1) := by decide +kernel
theorem dX9_needTerms_5 : decode cX9_needTerms 5 = .ok (.invokestatic 353, 3) := by decide +kernel
theorem dX9_needTerms_8 : decode cX9_needTerms 8 = .ok (.ifCond .eq 27, 3) := by decide +kernel
theorem dX9_needTerms_11 : decode cX9_needTerms 11 = .ok (.iload_n 0, 1) := by decide +kernel
theorem dX9_needTerms_12 : decode cX9_needTerms 12 = .ok (.iconst 1, 1) := by decide +kernel
theorem dX9_needTerms_13 : decode cX9_needTerms 13 = .ok (.if_icmp .le 10, 3) := by decide +kernel
theorem dX9_needTerms_16 : decode cX9_needTerms 16 = .ok (.iload_n 2, 1) := by decide +kernel
theorem dX9_needTerms_17 : decode cX9_needTerms 17 = .ok (.invokestatic 353, 3) := by decide +kernel
theorem dX9_needTerms_20 : decode cX9_needTerms 20 = .ok (.ifCond .eq 15, 3) := by decide +kernel
theorem dX9_needTerms_23 : decode cX9_needTerms 23 = .ok (.iload_n 0, 1) := by decide +kernel
theorem dX9_needTerms_24 : decode cX9_needTerms 24 = .ok (.iconst 2, 1) := by decide +kernel
theorem dX9_needTerms_25 : decode cX9_needTerms 25 = .ok (.if_icmp .le 21, 3) := by decide +kernel
theorem dX9_needTerms_28 : decode cX9_needTerms 28 = .ok (.iload_n 3, 1) := by decide +kernel
theorem dX9_needTerms_29 : decode cX9_needTerms 29 = .ok (.invokestatic 353, 3) := by decide +kernel
theorem dX9_needTerms_32 : decode cX9_needTerms 32 = .ok (.ifCond .ne 14, 3) := by decide +kernel
theorem dX9_needTerms_35 : decode cX9_needTerms 35 = .ok (.new 58, 3) := by decide +kernel
theorem dX9_needTerms_38 : decode cX9_needTerms 38 = .ok (.dup, 1) := by decide +kernel
theorem dX9_needTerms_39 : decode cX9_needTerms 39 = .ok (.ldc_w 356, 3) := by decide +kernel
theorem dX9_needTerms_42 : decode cX9_needTerms 42 = .ok (.invokespecial 62, 3) := by decide +kernel
theorem dX9_needTerms_45 : decode cX9_needTerms 45 = .ok (.athrow, 1) := by decide +kernel
theorem dX9_needTerms_46 : decode cX9_needTerms 46 = .ok (.return_, 1) := by decide +kernel
theorem dX9_needRoomForFormulas_0 : decode cX9_needRoomForFormulas 0 = .ok (.aload_n 0, 1) := by decide +kernel
theorem dX9_needRoomForFormulas_1 : decode cX9_needRoomForFormulas 1 = .ok (.getfield 25, 3) := by decide +kernel
theorem dX9_needRoomForFormulas_4 : decode cX9_needRoomForFormulas 4 = .ok (.iload_n 1, 1) := by decide +kernel
theorem dX9_needRoomForFormulas_5 : decode cX9_needRoomForFormulas 5 = .ok (.iadd, 1) := by decide +kernel
theorem dX9_needRoomForFormulas_6 : decode cX9_needRoomForFormulas 6 = .ok (.bipush 40, 2) := by decide +kernel
theorem dX9_needRoomForFormulas_8 : decode cX9_needRoomForFormulas 8 = .ok (.if_icmp .le 14, 3) := by decide +kernel
theorem dX9_needRoomForFormulas_11 : decode cX9_needRoomForFormulas 11 = .ok (.new 65, 3) := by decide +kernel
theorem dX9_needRoomForFormulas_14 : decode cX9_needRoomForFormulas 14 = .ok (.dup, 1) := by decide +kernel
theorem dX9_needRoomForFormulas_15 : decode cX9_needRoomForFormulas 15 = .ok (.ldc_w 358, 3) := by decide +kernel
theorem dX9_needRoomForFormulas_18 : decode cX9_needRoomForFormulas 18 = .ok (.invokespecial 69, 3) := by decide +kernel
theorem dX9_needRoomForFormulas_21 : decode cX9_needRoomForFormulas 21 = .ok (.athrow, 1) := by decide +kernel
theorem dX9_needRoomForFormulas_22 : decode cX9_needRoomForFormulas 22 = .ok (.return_, 1) := by decide +kernel
theorem dX9_needLength_0 : decode cX9_needLength 0 = .ok (.iload_n 0, 1) := by decide +kernel
theorem dX9_needLength_1 : decode cX9_needLength 1 = .ok (.bipush 40, 2) := by decide +kernel
theorem dX9_needLength_3 : decode cX9_needLength 3 = .ok (.if_icmp .le 14, 3) := by decide +kernel
theorem dX9_needLength_6 : decode cX9_needLength 6 = .ok (.new 65, 3) := by decide +kernel
theorem dX9_needLength_9 : decode cX9_needLength 9 = .ok (.dup, 1) := by decide +kernel
theorem dX9_needLength_10 : decode cX9_needLength 10 = .ok (.ldc_w 360, 3) := by decide +kernel
theorem dX9_needLength_13 : decode cX9_needLength 13 = .ok (.invokespecial 69, 3) := by decide +kernel
theorem dX9_needLength_16 : decode cX9_needLength 16 = .ok (.athrow, 1) := by decide +kernel
theorem dX9_needLength_17 : decode cX9_needLength 17 = .ok (.return_, 1) := by decide +kernel
theorem dX9_needFewFree_0 : decode cX9_needFewFree 0 = .ok (.aload_n 0, 1) := by decide +kernel
theorem dX9_needFewFree_1 : decode cX9_needFewFree 1 = .ok (.getfield 182, 3) := by decide +kernel
theorem dX9_needFewFree_4 : decode cX9_needFewFree 4 = .ok (.invokestatic 210, 3) := by decide +kernel
theorem dX9_needFewFree_7 : decode cX9_needFewFree 7 = .ok (.iconst 3, 1) := by decide +kernel
theorem dX9_needFewFree_8 : decode cX9_needFewFree 8 = .ok (.if_icmp .le 14, 3) := by decide +kernel
theorem dX9_needFewFree_11 : decode cX9_needFewFree 11 = .ok (.new 65, 3) := by decide +kernel
theorem dX9_needFewFree_14 : decode cX9_needFewFree 14 = .ok (.dup, 1) := by decide +kernel
theorem dX9_needFewFree_15 : decode cX9_needFewFree 15 = .ok (.ldc_w 362, 3) := by decide +kernel
theorem dX9_needFewFree_18 : decode cX9_needFewFree 18 = .ok (.invokespecial 69, 3) := by decide +kernel
theorem dX9_needFewFree_21 : decode cX9_needFewFree 21 = .ok (.athrow, 1) := by decide +kernel
theorem dX9_needFewFree_22 : decode cX9_needFewFree 22 = .ok (.return_, 1) := by decide +kernel
theorem dX9_needGrounded_0 : decode cX9_needGrounded 0 = .ok (.aload_n 0, 1) := by decide +kernel
theorem dX9_needGrounded_1 : decode cX9_needGrounded 1 = .ok (.invokevirtual 238, 3) := by decide +kernel
theorem dX9_needGrounded_4 : decode cX9_needGrounded 4 = .ok (.ifCond .ne 14, 3) := by decide +kernel
theorem dX9_needGrounded_7 : decode cX9_needGrounded 7 = .ok (.new 65, 3) := by decide +kernel
theorem dX9_needGrounded_10 : decode cX9_needGrounded 10 = .ok (.dup, 1) := by decide +kernel
theorem dX9_needGrounded_11 : decode cX9_needGrounded 11 = .ok (.ldc_w 364, 3) := by decide +kernel
theorem dX9_needGrounded_14 : decode cX9_needGrounded 14 = .ok (.invokespecial 69, 3) := by decide +kernel
theorem dX9_needGrounded_17 : decode cX9_needGrounded 17 = .ok (.athrow, 1) := by decide +kernel
theorem dX9_needGrounded_18 : decode cX9_needGrounded 18 = .ok (.return_, 1) := by decide +kernel
theorem dX9_valueOfRow_0 : decode cX9_valueOfRow 0 = .ok (.iload_n 1, 1) := by decide +kernel
theorem dX9_valueOfRow_1 : decode cX9_valueOfRow 1 = .ok (.ifCond .lt 11, 3) := by decide +kernel
theorem dX9_valueOfRow_4 : decode cX9_valueOfRow 4 = .ok (.iload_n 1, 1) := by decide +kernel
theorem dX9_valueOfRow_5 : decode cX9_valueOfRow 5 = .ok (.aload_n 0, 1) := by decide +kernel
theorem dX9_valueOfRow_6 : decode cX9_valueOfRow 6 = .ok (.getfield 207, 3) := by decide +kernel
theorem dX9_valueOfRow_9 : decode cX9_valueOfRow 9 = .ok (.if_icmp .lt 14, 3) := by decide +kernel
theorem dX9_valueOfRow_12 : decode cX9_valueOfRow 12 = .ok (.new 261, 3) := by decide +kernel
theorem dX9_valueOfRow_15 : decode cX9_valueOfRow 15 = .ok (.dup, 1) := by decide +kernel
theorem dX9_valueOfRow_16 : decode cX9_valueOfRow 16 = .ok (.ldc_w 366, 3) := by decide +kernel
theorem dX9_valueOfRow_19 : decode cX9_valueOfRow 19 = .ok (.invokespecial 265, 3) := by decide +kernel
theorem dX9_valueOfRow_22 : decode cX9_valueOfRow 22 = .ok (.athrow, 1) := by decide +kernel
theorem dX9_valueOfRow_23 : decode cX9_valueOfRow 23 = .ok (.iload_n 2, 1) := by decide +kernel
theorem dX9_valueOfRow_24 : decode cX9_valueOfRow 24 = .ok (.ifCond .lt 8, 3) := by decide +kernel
theorem dX9_valueOfRow_27 : decode cX9_valueOfRow 27 = .ok (.iload_n 2, 1) := by decide +kernel
theorem dX9_valueOfRow_28 : decode cX9_valueOfRow 28 = .ok (.iload_n 3, 1) := by decide +kernel
theorem dX9_valueOfRow_29 : decode cX9_valueOfRow 29 = .ok (.if_icmp .lt 14, 3) := by decide +kernel
theorem dX9_valueOfRow_32 : decode cX9_valueOfRow 32 = .ok (.new 58, 3) := by decide +kernel
theorem dX9_valueOfRow_35 : decode cX9_valueOfRow 35 = .ok (.dup, 1) := by decide +kernel
theorem dX9_valueOfRow_36 : decode cX9_valueOfRow 36 = .ok (.ldc_w 368, 3) := by decide +kernel
theorem dX9_valueOfRow_39 : decode cX9_valueOfRow 39 = .ok (.invokespecial 62, 3) := by decide +kernel
theorem dX9_valueOfRow_42 : decode cX9_valueOfRow 42 = .ok (.athrow, 1) := by decide +kernel
theorem dX9_valueOfRow_43 : decode cX9_valueOfRow 43 = .ok (.aload_n 0, 1) := by decide +kernel
theorem dX9_valueOfRow_44 : decode cX9_valueOfRow 44 = .ok (.iload_n 1, 1) := by decide +kernel
theorem dX9_valueOfRow_45 : decode cX9_valueOfRow 45 = .ok (.invokevirtual 370, 3) := by decide +kernel
theorem dX9_valueOfRow_48 : decode cX9_valueOfRow 48 = .ok (.iconst 3, 1) := by decide +kernel
theorem dX9_valueOfRow_49 : decode cX9_valueOfRow 49 = .ok (.iload_n 3, 1) := by decide +kernel
theorem dX9_valueOfRow_50 : decode cX9_valueOfRow 50 = .ok (.iconst 1, 1) := by decide +kernel
theorem dX9_valueOfRow_51 : decode cX9_valueOfRow 51 = .ok (.isub, 1) := by decide +kernel
theorem dX9_valueOfRow_52 : decode cX9_valueOfRow 52 = .ok (.iload_n 2, 1) := by decide +kernel
theorem dX9_valueOfRow_53 : decode cX9_valueOfRow 53 = .ok (.isub, 1) := by decide +kernel
theorem dX9_valueOfRow_54 : decode cX9_valueOfRow 54 = .ok (.imul, 1) := by decide +kernel
theorem dX9_valueOfRow_55 : decode cX9_valueOfRow 55 = .ok (.ishr, 1) := by decide +kernel
theorem dX9_valueOfRow_56 : decode cX9_valueOfRow 56 = .ok (.bipush 7, 2) := by decide +kernel
theorem dX9_valueOfRow_58 : decode cX9_valueOfRow 58 = .ok (.iand, 1) := by decide +kernel
theorem dX9_valueOfRow_59 : decode cX9_valueOfRow 59 = .ok (.ireturn, 1) := by decide +kernel
theorem dX9_rowOf_0 : decode cX9_rowOf 0 = .ok (.iload_n 1, 1) := by decide +kernel
theorem dX9_rowOf_1 : decode cX9_rowOf 1 = .ok (.istore 4, 2) := by decide +kernel
theorem dX9_rowOf_3 : decode cX9_rowOf 3 = .ok (.iload_n 0, 1) := by decide +kernel
theorem dX9_rowOf_4 : decode cX9_rowOf 4 = .ok (.iconst 1, 1) := by decide +kernel
theorem dX9_rowOf_5 : decode cX9_rowOf 5 = .ok (.if_icmp .le 11, 3) := by decide +kernel
theorem dX9_rowOf_8 : decode cX9_rowOf 8 = .ok (.iload 4, 2) := by decide +kernel
theorem dX9_rowOf_10 : decode cX9_rowOf 10 = .ok (.iconst 3, 1) := by decide +kernel
theorem dX9_rowOf_11 : decode cX9_rowOf 11 = .ok (.ishl, 1) := by decide +kernel
theorem dX9_rowOf_12 : decode cX9_rowOf 12 = .ok (.iload_n 2, 1) := by decide +kernel
theorem dX9_rowOf_13 : decode cX9_rowOf 13 = .ok (.ior, 1) := by decide +kernel
theorem dX9_rowOf_14 : decode cX9_rowOf 14 = .ok (.istore 4, 2) := by decide +kernel
theorem dX9_rowOf_16 : decode cX9_rowOf 16 = .ok (.iload_n 0, 1) := by decide +kernel
theorem dX9_rowOf_17 : decode cX9_rowOf 17 = .ok (.iconst 2, 1) := by decide +kernel
theorem dX9_rowOf_18 : decode cX9_rowOf 18 = .ok (.if_icmp .le 11, 3) := by decide +kernel
theorem dX9_rowOf_21 : decode cX9_rowOf 21 = .ok (.iload 4, 2) := by decide +kernel
theorem dX9_rowOf_23 : decode cX9_rowOf 23 = .ok (.iconst 3, 1) := by decide +kernel
theorem dX9_rowOf_24 : decode cX9_rowOf 24 = .ok (.ishl, 1) := by decide +kernel
theorem dX9_rowOf_25 : decode cX9_rowOf 25 = .ok (.iload_n 3, 1) := by decide +kernel
theorem dX9_rowOf_26 : decode cX9_rowOf 26 = .ok (.ior, 1) := by decide +kernel
theorem dX9_rowOf_27 : decode cX9_rowOf 27 = .ok (.istore 4, 2) := by decide +kernel
theorem dX9_rowOf_29 : decode cX9_rowOf 29 = .ok (.iload 4, 2) := by decide +kernel
theorem dX9_rowOf_31 : decode cX9_rowOf 31 = .ok (.ireturn, 1) := by decide +kernel
theorem dX9_keep_0 : decode cX9_keep 0 = .ok (.aload_n 1, 1) := by decide +kernel
theorem dX9_keep_1 : decode cX9_keep 1 = .ok (.aload_n 0, 1) := by decide +kernel
theorem dX9_keep_2 : decode cX9_keep 2 = .ok (.getfield 25, 3) := by decide +kernel
theorem dX9_keep_5 : decode cX9_keep 5 = .ok (.invokevirtual 373, 3) := by decide +kernel
theorem dX9_keep_8 : decode cX9_keep 8 = .ok (.aload_n 0, 1) := by decide +kernel
theorem dX9_keep_9 : decode cX9_keep 9 = .ok (.getfield 21, 3) := by decide +kernel
theorem dX9_keep_12 : decode cX9_keep 12 = .ok (.aload_n 0, 1) := by decide +kernel
theorem dX9_keep_13 : decode cX9_keep 13 = .ok (.getfield 25, 3) := by decide +kernel
theorem dX9_keep_16 : decode cX9_keep 16 = .ok (.aload_n 1, 1) := by decide +kernel
theorem dX9_keep_17 : decode cX9_keep 17 = .ok (.aastore, 1) := by decide +kernel
theorem dX9_keep_18 : decode cX9_keep 18 = .ok (.aload_n 0, 1) := by decide +kernel
theorem dX9_keep_19 : decode cX9_keep 19 = .ok (.dup, 1) := by decide +kernel
theorem dX9_keep_20 : decode cX9_keep 20 = .ok (.getfield 25, 3) := by decide +kernel
theorem dX9_keep_23 : decode cX9_keep 23 = .ok (.iconst 1, 1) := by decide +kernel
theorem dX9_keep_24 : decode cX9_keep 24 = .ok (.iadd, 1) := by decide +kernel
theorem dX9_keep_25 : decode cX9_keep 25 = .ok (.putfield 25, 3) := by decide +kernel
theorem dX9_keep_28 : decode cX9_keep 28 = .ok (.aload_n 0, 1) := by decide +kernel
theorem dX9_keep_29 : decode cX9_keep 29 = .ok (.getfield 25, 3) := by decide +kernel
theorem dX9_keep_32 : decode cX9_keep 32 = .ok (.iconst 1, 1) := by decide +kernel
theorem dX9_keep_33 : decode cX9_keep 33 = .ok (.isub, 1) := by decide +kernel
theorem dX9_keep_34 : decode cX9_keep 34 = .ok (.ireturn, 1) := by decide +kernel
theorem dX9_domainOf_0 : decode cX9_domainOf 0 = .ok (.aload_n 1, 1) := by decide +kernel
theorem dX9_domainOf_1 : decode cX9_domainOf 1 = .ok (.getfield 376, 3) := by decide +kernel
theorem dX9_domainOf_4 : decode cX9_domainOf 4 = .ok (.istore_n 2, 1) := by decide +kernel
theorem dX9_domainOf_5 : decode cX9_domainOf 5 = .ok (.iconst 0, 1) := by decide +kernel
theorem dX9_domainOf_6 : decode cX9_domainOf 6 = .ok (.istore_n 3, 1) := by decide +kernel
theorem dX9_domainOf_7 : decode cX9_domainOf 7 = .ok (.iload_n 3, 1) := by decide +kernel
theorem dX9_domainOf_8 : decode cX9_domainOf 8 = .ok (.aload_n 0, 1) := by decide +kernel
theorem dX9_domainOf_9 : decode cX9_domainOf 9 = .ok (.getfield 15, 3) := by decide +kernel
theorem dX9_domainOf_12 : decode cX9_domainOf 12 = .ok (.if_icmp .ge 21, 3) := by decide +kernel
theorem dX9_domainOf_15 : decode cX9_domainOf 15 = .ok (.iload_n 2, 1) := by decide +kernel
theorem dX9_domainOf_16 : decode cX9_domainOf 16 = .ok (.aload_n 0, 1) := by decide +kernel
theorem dX9_domainOf_17 : decode cX9_domainOf 17 = .ok (.getfield 11, 3) := by decide +kernel
theorem dX9_domainOf_20 : decode cX9_domainOf 20 = .ok (.iload_n 3, 1) := by decide +kernel
theorem dX9_domainOf_21 : decode cX9_domainOf 21 = .ok (.aaload, 1) := by decide +kernel
theorem dX9_domainOf_22 : decode cX9_domainOf 22 = .ok (.getfield 379, 3) := by decide +kernel
theorem dX9_domainOf_25 : decode cX9_domainOf 25 = .ok (.ior, 1) := by decide +kernel
theorem dX9_domainOf_26 : decode cX9_domainOf 26 = .ok (.istore_n 2, 1) := by decide +kernel
theorem dX9_domainOf_27 : decode cX9_domainOf 27 = .ok (.iinc 3 1, 3) := by decide +kernel
theorem dX9_domainOf_30 : decode cX9_domainOf 30 = .ok (.goto (-23), 3) := by decide +kernel
theorem dX9_domainOf_33 : decode cX9_domainOf 33 = .ok (.iload_n 2, 1) := by decide +kernel
theorem dX9_domainOf_34 : decode cX9_domainOf 34 = .ok (.ireturn, 1) := by decide +kernel
set_option maxHeartbeats 4000000 in
set_option maxRecDepth 100000 in
/-- isTerm of a TERM -/
theorem m_isTerm (l : Launch) (D : va_G) (cy : Nat → ClassId) (O : Nat × va_E → Prop) {t : Nat} (h : isT t) : Ci l yX9_isTerm (.code yX9_isTerm cX9_isTerm 1 (some .boolean) :: WALL) ({ frames := 1, cells := 0, slots := 0, locals := 20 }) D cy O [.int (nI t)] [] 0 0 (fun (r : Int32) (w : va_W) => r = 1 ∧ w = []) := by
  unfold isT at h
  refine z_meti (by decide) rfl rfl (Nat.le_of_ble_eq_true rfl) ?_
  intro p e s m args below meth c X hr hin
  refine z_eq (ws' := []) (lv' := [(0, .int (nI t))]) (st' := []) rfl rfl rfl ?_
  refine z_iload_n X dX9_isTerm_0 rfl (j := 0) rfl ?_
  refine z_reti X (as := [.int (nI t)]) (wc := []) (wr := []) (rest := []) (fun H9 locs9 ls9 hP9 hS9 hl9 hb9 hp9 => va_runS (As := [.int (nI t)]) (rest := []) X.fix (m_isVariable l D cy O (nI t) H9.size) (va_cwS 1 X.hts (gS ml_X9_162 sm_X9_isVariable ni_X9 cd_X9_isVariable) rfl rfl rfl (by decide +kernel) ⟨Nat.le_of_ble_eq_true rfl, Nat.le_of_ble_eq_true rfl⟩) ⟨hb9, hp9⟩ rfl rfl hl9.1 rfl (lv_room (Nat.le_of_ble_eq_true rfl)) dX9_isTerm_1 ⟨Nat.le_of_ble_eq_true rfl, Nat.le_of_ble_eq_true rfl⟩) [] [] rfl rfl rfl rfl rfl (by decide) (fun _ h => Or.inl h) (fun r1 w2 h3 => ?_)
  obtain ⟨rfl, rfl⟩ := h3
  refine z_eq (ws' := []) (lv' := [(0, .int (nI t))]) (st' := [.int (vI (nI t))]) rfl rfl rfl ?_
  refine z_widen (k' := 0) (n' := 0) (Nat.le_refl _) (Nat.le_refl _) ?_
  refine z_if_ne X (tgt := 19) dX9_isTerm_4 (by decide) (fun c_4 => ?_) (fun c_4 => ?_)
  · skip
    refine z_iconst X (v := 1) dX9_isTerm_19 (by decide) ?_
    refine z_goto X (tgt := 24) dX9_isTerm_20 (by decide) ?_
    exact z_endz X hr (by first | exact Or.inl rfl | exact Or.inr rfl) [] [] rfl rfl rfl ⟨rfl, rfl⟩ dX9_isTerm_24
  · skip
    refine z_iload_n X dX9_isTerm_7 rfl (j := 0) rfl ?_
    refine z_bipush X (v := 10) dX9_isTerm_8 (by decide) ?_
    have h10 : 10 ≤ t := by rw [vI_nI (by omega)] at c_4; by_cases h9 : t < 6; rw [if_pos h9] at c_4; exact absurd c_4 (by decide); omega
    refine z_icmp_lt X (tgt := 23) dX9_isTerm_10 (by decide) (fun c9 => absurd c9 (nI_nlt (a := t) (b := 10) h10 (by omega))) (fun c_10 => ?_)
    refine z_iload_n X dX9_isTerm_13 rfl (j := 0) rfl ?_
    refine z_bipush X (v := 18) dX9_isTerm_14 (by decide) ?_
    refine z_icmp_ge X (tgt := 23) dX9_isTerm_16 (by decide) (fun c9 => absurd c9 (nI_ge (a := t) (b := 18) (by omega) (by decide))) (fun c_16 => ?_)
    refine z_iconst X (v := 1) dX9_isTerm_19 (by decide) ?_
    refine z_goto X (tgt := 24) dX9_isTerm_20 (by decide) ?_
    exact z_endz X hr (by first | exact Or.inl rfl | exact Or.inr rfl) [] [] rfl rfl rfl ⟨rfl, rfl⟩ dX9_isTerm_24
set_option maxHeartbeats 4000000 in
set_option maxRecDepth 100000 in
/-- needTerms: they are -/
theorem m_needTerms (l : Launch) (D : va_G) (cy : Nat → ClassId) (O : Nat × va_E → Prop) {n : Nat} {x y z : Int32} {t : Nat → Nat} (hn : n ≤ 3) (ht : ∀ k, k < n → a3 x y z k = nI (t k) ∧ isT (t k)) : Cv l yX9_needTerms (.code yX9_needTerms cX9_needTerms 4 none :: WALL) ({ frames := 2, cells := 0, slots := 0, locals := 40 }) D cy O [.int (nI n), .int x, .int y, .int z] [] 0 0 (fun (w : va_W) => w = []) := by
  refine z_metv (by decide) rfl rfl (Nat.le_of_ble_eq_true rfl) ?_
  intro p e s m args below meth c X hr hin
  refine z_eq (ws' := []) (lv' := [(0, .int (nI n)), (1, .int x), (2, .int y), (3, .int z)]) (st' := []) rfl rfl rfl ?_
  refine z_iload_n X dX9_needTerms_0 rfl (j := 0) rfl ?_
  refine z_if_le X (tgt := 11) dX9_needTerms_1 (by decide) (fun c_1 => ?_) (fun c_1 => ?_)
  · skip
    refine z_iload_n X dX9_needTerms_11 rfl (j := 0) rfl ?_
    refine z_iconst X (v := 1) dX9_needTerms_12 (by decide) ?_
    refine z_icmp_le X (tgt := 23) dX9_needTerms_13 (by decide) (fun c_13 => ?_) (fun c_13 => ?_)
    · skip
      refine z_iload_n X dX9_needTerms_23 rfl (j := 0) rfl ?_
      refine z_iconst X (v := 2) dX9_needTerms_24 (by decide) ?_
      refine z_icmp_le X (tgt := 46) dX9_needTerms_25 (by decide) (fun c_25 => ?_) (fun c_25 => ?_)
      · skip
        exact z_endv X hr [] [] rfl rfl rfl rfl dX9_needTerms_46
      · skip
        refine z_iload_n X dX9_needTerms_28 rfl (j := 3) rfl ?_
        have hn2 : 2 < n := lt_of_nle (a := n) (b := 2) c_25 (by omega) (by decide)
        refine z_eq (ws' := []) (lv' := [(0, .int (nI n)), (1, .int x), (2, .int y), (3, .int z)]) (st' := [.int (nI (t 2))]) rfl rfl (by rw [← (ht 2 hn2).1]; rfl) ?_
        refine z_reti X (as := [.int (nI (t 2))]) (wc := []) (wr := []) (rest := []) (fun H9 locs9 ls9 hP9 hS9 hl9 hb9 hp9 => va_runS (As := [.int (nI (t 2))]) (rest := []) X.fix (m_isTerm l D cy O (t := t 2) (ht 2 hn2).2 H9.size) (va_cwS 1 X.hts (gS ml_X9_353 sm_X9_isTerm ni_X9 cd_X9_isTerm) rfl rfl rfl (by decide +kernel) ⟨Nat.le_of_ble_eq_true rfl, Nat.le_of_ble_eq_true rfl⟩) ⟨hb9, hp9⟩ rfl rfl hl9.1 rfl (lv_room (Nat.le_of_ble_eq_true rfl)) dX9_needTerms_29 ⟨Nat.le_of_ble_eq_true rfl, Nat.le_of_ble_eq_true rfl⟩) [] [] rfl rfl rfl rfl rfl (by decide) (fun _ h => Or.inl h) (fun r1 w2 h3 => ?_)
        obtain ⟨rfl, rfl⟩ := h3
        refine z_eq (ws' := []) (lv' := [(0, .int (nI n)), (1, .int x), (2, .int y), (3, .int z)]) (st' := [.int 1]) rfl rfl rfl ?_
        refine z_widen (k' := 0) (n' := 0) (Nat.le_refl _) (Nat.le_refl _) ?_
        refine z_if_ne X (tgt := 46) dX9_needTerms_32 (by decide) (fun c_32 => ?_) (fun c9 => absurd c9 (by decide))
        exact z_endv X hr [] [] rfl rfl rfl rfl dX9_needTerms_46
    · skip
      refine z_iload_n X dX9_needTerms_16 rfl (j := 2) rfl ?_
      have hn1 : 1 < n := lt_of_nle (a := n) (b := 1) c_13 (by omega) (by decide)
      refine z_eq (ws' := []) (lv' := [(0, .int (nI n)), (1, .int x), (2, .int y), (3, .int z)]) (st' := [.int (nI (t 1))]) rfl rfl (by rw [← (ht 1 hn1).1]; rfl) ?_
      refine z_reti X (as := [.int (nI (t 1))]) (wc := []) (wr := []) (rest := []) (fun H9 locs9 ls9 hP9 hS9 hl9 hb9 hp9 => va_runS (As := [.int (nI (t 1))]) (rest := []) X.fix (m_isTerm l D cy O (t := t 1) (ht 1 hn1).2 H9.size) (va_cwS 1 X.hts (gS ml_X9_353 sm_X9_isTerm ni_X9 cd_X9_isTerm) rfl rfl rfl (by decide +kernel) ⟨Nat.le_of_ble_eq_true rfl, Nat.le_of_ble_eq_true rfl⟩) ⟨hb9, hp9⟩ rfl rfl hl9.1 rfl (lv_room (Nat.le_of_ble_eq_true rfl)) dX9_needTerms_17 ⟨Nat.le_of_ble_eq_true rfl, Nat.le_of_ble_eq_true rfl⟩) [] [] rfl rfl rfl rfl rfl (by decide) (fun _ h => Or.inl h) (fun r4 w5 h6 => ?_)
      obtain ⟨rfl, rfl⟩ := h6
      refine z_eq (ws' := []) (lv' := [(0, .int (nI n)), (1, .int x), (2, .int y), (3, .int z)]) (st' := [.int 1]) rfl rfl rfl ?_
      refine z_widen (k' := 0) (n' := 0) (Nat.le_refl _) (Nat.le_refl _) ?_
      refine z_if_eq X (tgt := 35) dX9_needTerms_20 (by decide) (fun c9 => absurd c9 (by decide)) (fun c_20 => ?_)
      refine z_iload_n X dX9_needTerms_23 rfl (j := 0) rfl ?_
      refine z_iconst X (v := 2) dX9_needTerms_24 (by decide) ?_
      refine z_icmp_le X (tgt := 46) dX9_needTerms_25 (by decide) (fun c_25 => ?_) (fun c_25 => ?_)
      · skip
        exact z_endv X hr [] [] rfl rfl rfl rfl dX9_needTerms_46
      · skip
        refine z_iload_n X dX9_needTerms_28 rfl (j := 3) rfl ?_
        have hn2 : 2 < n := lt_of_nle (a := n) (b := 2) c_25 (by omega) (by decide)
        refine z_eq (ws' := []) (lv' := [(0, .int (nI n)), (1, .int x), (2, .int y), (3, .int z)]) (st' := [.int (nI (t 2))]) rfl rfl (by rw [← (ht 2 hn2).1]; rfl) ?_
        refine z_reti X (as := [.int (nI (t 2))]) (wc := []) (wr := []) (rest := []) (fun H9 locs9 ls9 hP9 hS9 hl9 hb9 hp9 => va_runS (As := [.int (nI (t 2))]) (rest := []) X.fix (m_isTerm l D cy O (t := t 2) (ht 2 hn2).2 H9.size) (va_cwS 1 X.hts (gS ml_X9_353 sm_X9_isTerm ni_X9 cd_X9_isTerm) rfl rfl rfl (by decide +kernel) ⟨Nat.le_of_ble_eq_true rfl, Nat.le_of_ble_eq_true rfl⟩) ⟨hb9, hp9⟩ rfl rfl hl9.1 rfl (lv_room (Nat.le_of_ble_eq_true rfl)) dX9_needTerms_29 ⟨Nat.le_of_ble_eq_true rfl, Nat.le_of_ble_eq_true rfl⟩) [] [] rfl rfl rfl rfl rfl (by decide) (fun _ h => Or.inl h) (fun r7 w8 h9 => ?_)
        obtain ⟨rfl, rfl⟩ := h9
        refine z_eq (ws' := []) (lv' := [(0, .int (nI n)), (1, .int x), (2, .int y), (3, .int z)]) (st' := [.int 1]) rfl rfl rfl ?_
        refine z_widen (k' := 0) (n' := 0) (Nat.le_refl _) (Nat.le_refl _) ?_
        refine z_if_ne X (tgt := 46) dX9_needTerms_32 (by decide) (fun c_32 => ?_) (fun c9 => absurd c9 (by decide))
        exact z_endv X hr [] [] rfl rfl rfl rfl dX9_needTerms_46
  · skip
    refine z_iload_n X dX9_needTerms_4 rfl (j := 1) rfl ?_
    have hn0 : 0 < n := lt_of_nle (a := n) (b := 0) c_1 (by omega) (by decide)
    refine z_eq (ws' := []) (lv' := [(0, .int (nI n)), (1, .int x), (2, .int y), (3, .int z)]) (st' := [.int (nI (t 0))]) rfl rfl (by rw [← (ht 0 hn0).1]; rfl) ?_
    refine z_reti X (as := [.int (nI (t 0))]) (wc := []) (wr := []) (rest := []) (fun H9 locs9 ls9 hP9 hS9 hl9 hb9 hp9 => va_runS (As := [.int (nI (t 0))]) (rest := []) X.fix (m_isTerm l D cy O (t := t 0) (ht 0 hn0).2 H9.size) (va_cwS 1 X.hts (gS ml_X9_353 sm_X9_isTerm ni_X9 cd_X9_isTerm) rfl rfl rfl (by decide +kernel) ⟨Nat.le_of_ble_eq_true rfl, Nat.le_of_ble_eq_true rfl⟩) ⟨hb9, hp9⟩ rfl rfl hl9.1 rfl (lv_room (Nat.le_of_ble_eq_true rfl)) dX9_needTerms_5 ⟨Nat.le_of_ble_eq_true rfl, Nat.le_of_ble_eq_true rfl⟩) [] [] rfl rfl rfl rfl rfl (by decide) (fun _ h => Or.inl h) (fun r10 w11 h12 => ?_)
    obtain ⟨rfl, rfl⟩ := h12
    refine z_eq (ws' := []) (lv' := [(0, .int (nI n)), (1, .int x), (2, .int y), (3, .int z)]) (st' := [.int 1]) rfl rfl rfl ?_
    refine z_widen (k' := 0) (n' := 0) (Nat.le_refl _) (Nat.le_refl _) ?_
    refine z_if_eq X (tgt := 35) dX9_needTerms_8 (by decide) (fun c9 => absurd c9 (by decide)) (fun c_8 => ?_)
    refine z_iload_n X dX9_needTerms_11 rfl (j := 0) rfl ?_
    refine z_iconst X (v := 1) dX9_needTerms_12 (by decide) ?_
    refine z_icmp_le X (tgt := 23) dX9_needTerms_13 (by decide) (fun c_13 => ?_) (fun c_13 => ?_)
    · skip
      refine z_iload_n X dX9_needTerms_23 rfl (j := 0) rfl ?_
      refine z_iconst X (v := 2) dX9_needTerms_24 (by decide) ?_
      refine z_icmp_le X (tgt := 46) dX9_needTerms_25 (by decide) (fun c_25 => ?_) (fun c_25 => ?_)
      · skip
        exact z_endv X hr [] [] rfl rfl rfl rfl dX9_needTerms_46
      · skip
        refine z_iload_n X dX9_needTerms_28 rfl (j := 3) rfl ?_
        have hn2 : 2 < n := lt_of_nle (a := n) (b := 2) c_25 (by omega) (by decide)
        refine z_eq (ws' := []) (lv' := [(0, .int (nI n)), (1, .int x), (2, .int y), (3, .int z)]) (st' := [.int (nI (t 2))]) rfl rfl (by rw [← (ht 2 hn2).1]; rfl) ?_
        refine z_reti X (as := [.int (nI (t 2))]) (wc := []) (wr := []) (rest := []) (fun H9 locs9 ls9 hP9 hS9 hl9 hb9 hp9 => va_runS (As := [.int (nI (t 2))]) (rest := []) X.fix (m_isTerm l D cy O (t := t 2) (ht 2 hn2).2 H9.size) (va_cwS 1 X.hts (gS ml_X9_353 sm_X9_isTerm ni_X9 cd_X9_isTerm) rfl rfl rfl (by decide +kernel) ⟨Nat.le_of_ble_eq_true rfl, Nat.le_of_ble_eq_true rfl⟩) ⟨hb9, hp9⟩ rfl rfl hl9.1 rfl (lv_room (Nat.le_of_ble_eq_true rfl)) dX9_needTerms_29 ⟨Nat.le_of_ble_eq_true rfl, Nat.le_of_ble_eq_true rfl⟩) [] [] rfl rfl rfl rfl rfl (by decide) (fun _ h => Or.inl h) (fun r13 w14 h15 => ?_)
        obtain ⟨rfl, rfl⟩ := h15
        refine z_eq (ws' := []) (lv' := [(0, .int (nI n)), (1, .int x), (2, .int y), (3, .int z)]) (st' := [.int 1]) rfl rfl rfl ?_
        refine z_widen (k' := 0) (n' := 0) (Nat.le_refl _) (Nat.le_refl _) ?_
        refine z_if_ne X (tgt := 46) dX9_needTerms_32 (by decide) (fun c_32 => ?_) (fun c9 => absurd c9 (by decide))
        exact z_endv X hr [] [] rfl rfl rfl rfl dX9_needTerms_46
    · skip
      refine z_iload_n X dX9_needTerms_16 rfl (j := 2) rfl ?_
      have hn1 : 1 < n := lt_of_nle (a := n) (b := 1) c_13 (by omega) (by decide)
      refine z_eq (ws' := []) (lv' := [(0, .int (nI n)), (1, .int x), (2, .int y), (3, .int z)]) (st' := [.int (nI (t 1))]) rfl rfl (by rw [← (ht 1 hn1).1]; rfl) ?_
      refine z_reti X (as := [.int (nI (t 1))]) (wc := []) (wr := []) (rest := []) (fun H9 locs9 ls9 hP9 hS9 hl9 hb9 hp9 => va_runS (As := [.int (nI (t 1))]) (rest := []) X.fix (m_isTerm l D cy O (t := t 1) (ht 1 hn1).2 H9.size) (va_cwS 1 X.hts (gS ml_X9_353 sm_X9_isTerm ni_X9 cd_X9_isTerm) rfl rfl rfl (by decide +kernel) ⟨Nat.le_of_ble_eq_true rfl, Nat.le_of_ble_eq_true rfl⟩) ⟨hb9, hp9⟩ rfl rfl hl9.1 rfl (lv_room (Nat.le_of_ble_eq_true rfl)) dX9_needTerms_17 ⟨Nat.le_of_ble_eq_true rfl, Nat.le_of_ble_eq_true rfl⟩) [] [] rfl rfl rfl rfl rfl (by decide) (fun _ h => Or.inl h) (fun r16 w17 h18 => ?_)
      obtain ⟨rfl, rfl⟩ := h18
      refine z_eq (ws' := []) (lv' := [(0, .int (nI n)), (1, .int x), (2, .int y), (3, .int z)]) (st' := [.int 1]) rfl rfl rfl ?_
      refine z_widen (k' := 0) (n' := 0) (Nat.le_refl _) (Nat.le_refl _) ?_
      refine z_if_eq X (tgt := 35) dX9_needTerms_20 (by decide) (fun c9 => absurd c9 (by decide)) (fun c_20 => ?_)
      refine z_iload_n X dX9_needTerms_23 rfl (j := 0) rfl ?_
      refine z_iconst X (v := 2) dX9_needTerms_24 (by decide) ?_
      refine z_icmp_le X (tgt := 46) dX9_needTerms_25 (by decide) (fun c_25 => ?_) (fun c_25 => ?_)
      · skip
        exact z_endv X hr [] [] rfl rfl rfl rfl dX9_needTerms_46
      · skip
        refine z_iload_n X dX9_needTerms_28 rfl (j := 3) rfl ?_
        have hn2 : 2 < n := lt_of_nle (a := n) (b := 2) c_25 (by omega) (by decide)
        refine z_eq (ws' := []) (lv' := [(0, .int (nI n)), (1, .int x), (2, .int y), (3, .int z)]) (st' := [.int (nI (t 2))]) rfl rfl (by rw [← (ht 2 hn2).1]; rfl) ?_
        refine z_reti X (as := [.int (nI (t 2))]) (wc := []) (wr := []) (rest := []) (fun H9 locs9 ls9 hP9 hS9 hl9 hb9 hp9 => va_runS (As := [.int (nI (t 2))]) (rest := []) X.fix (m_isTerm l D cy O (t := t 2) (ht 2 hn2).2 H9.size) (va_cwS 1 X.hts (gS ml_X9_353 sm_X9_isTerm ni_X9 cd_X9_isTerm) rfl rfl rfl (by decide +kernel) ⟨Nat.le_of_ble_eq_true rfl, Nat.le_of_ble_eq_true rfl⟩) ⟨hb9, hp9⟩ rfl rfl hl9.1 rfl (lv_room (Nat.le_of_ble_eq_true rfl)) dX9_needTerms_29 ⟨Nat.le_of_ble_eq_true rfl, Nat.le_of_ble_eq_true rfl⟩) [] [] rfl rfl rfl rfl rfl (by decide) (fun _ h => Or.inl h) (fun r19 w20 h21 => ?_)
        obtain ⟨rfl, rfl⟩ := h21
        refine z_eq (ws' := []) (lv' := [(0, .int (nI n)), (1, .int x), (2, .int y), (3, .int z)]) (st' := [.int 1]) rfl rfl rfl ?_
        refine z_widen (k' := 0) (n' := 0) (Nat.le_refl _) (Nat.le_refl _) ?_
        refine z_if_ne X (tgt := 46) dX9_needTerms_32 (by decide) (fun c_32 => ?_) (fun c9 => absurd c9 (by decide))
        exact z_endv X hr [] [] rfl rfl rfl rfl dX9_needTerms_46
set_option maxHeartbeats 4000000 in
set_option maxRecDepth 100000 in
/-- needValues: they are -/
theorem m_needValues (l : Launch) (D : va_G) (cy : Nat → ClassId) (O : Nat × va_E → Prop) {n a b d : Nat} (ha : a < 8) (hb : b < 8) (hd : d < 8) : Cv l yX9_needValues (.code yX9_needValues cX9_needValues 4 none :: WALL) ({ frames := 1, cells := 0, slots := 0, locals := 20 }) D cy O [.int (nI n), .int (nI a), .int (nI b), .int (nI d)] [] 0 0 (fun (w : va_W) => w = []) := by
  refine z_metv (by decide) rfl rfl (Nat.le_of_ble_eq_true rfl) ?_
  intro p e s m args below meth c X hr hin
  refine z_eq (ws' := []) (lv' := [(0, .int (nI n)), (1, .int (nI a)), (2, .int (nI b)), (3, .int (nI d))]) (st' := []) rfl rfl rfl ?_
  refine z_iload_n X dX9_needValues_0 rfl (j := 1) rfl ?_
  refine z_reti X (as := [.int (nI a)]) (wc := []) (wr := []) (rest := []) (fun H9 locs9 ls9 hP9 hS9 hl9 hb9 hp9 => va_runS (As := [.int (nI a)]) (rest := []) X.fix (m_isValue l D cy O (nI a) H9.size) (va_cwS 1 X.hts (gS ml_X9_348 sm_X9_isValue ni_X9 cd_X9_isValue) rfl rfl rfl (by decide +kernel) ⟨Nat.le_of_ble_eq_true rfl, Nat.le_of_ble_eq_true rfl⟩) ⟨hb9, hp9⟩ rfl rfl hl9.1 rfl (lv_room (Nat.le_of_ble_eq_true rfl)) dX9_needValues_1 ⟨Nat.le_of_ble_eq_true rfl, Nat.le_of_ble_eq_true rfl⟩) [] [] rfl rfl rfl rfl rfl (by decide) (fun _ h => Or.inl h) (fun r1 w2 h3 => ?_)
  obtain ⟨rfl, rfl⟩ := h3
  rw [eI_nI ha]
  refine z_eq (ws' := []) (lv' := [(0, .int (nI n)), (1, .int (nI a)), (2, .int (nI b)), (3, .int (nI d))]) (st' := [.int 1]) rfl rfl rfl ?_
  refine z_widen (k' := 0) (n' := 0) (Nat.le_refl _) (Nat.le_refl _) ?_
  refine z_if_eq X (tgt := 31) dX9_needValues_4 (by decide) (fun c9 => absurd c9 (by decide)) (fun c_4 => ?_)
  refine z_iload_n X dX9_needValues_7 rfl (j := 0) rfl ?_
  refine z_iconst X (v := 1) dX9_needValues_8 (by decide) ?_
  refine z_icmp_le X (tgt := 19) dX9_needValues_9 (by decide) (fun c_9 => ?_) (fun c_9 => ?_)
  · skip
    refine z_iload_n X dX9_needValues_19 rfl (j := 0) rfl ?_
    refine z_iconst X (v := 2) dX9_needValues_20 (by decide) ?_
    refine z_icmp_le X (tgt := 42) dX9_needValues_21 (by decide) (fun c_21 => ?_) (fun c_21 => ?_)
    · skip
      exact z_endv X hr [] [] rfl rfl rfl rfl dX9_needValues_42
    · skip
      refine z_iload_n X dX9_needValues_24 rfl (j := 3) rfl ?_
      refine z_reti X (as := [.int (nI d)]) (wc := []) (wr := []) (rest := []) (fun H9 locs9 ls9 hP9 hS9 hl9 hb9 hp9 => va_runS (As := [.int (nI d)]) (rest := []) X.fix (m_isValue l D cy O (nI d) H9.size) (va_cwS 1 X.hts (gS ml_X9_348 sm_X9_isValue ni_X9 cd_X9_isValue) rfl rfl rfl (by decide +kernel) ⟨Nat.le_of_ble_eq_true rfl, Nat.le_of_ble_eq_true rfl⟩) ⟨hb9, hp9⟩ rfl rfl hl9.1 rfl (lv_room (Nat.le_of_ble_eq_true rfl)) dX9_needValues_25 ⟨Nat.le_of_ble_eq_true rfl, Nat.le_of_ble_eq_true rfl⟩) [] [] rfl rfl rfl rfl rfl (by decide) (fun _ h => Or.inl h) (fun r4 w5 h6 => ?_)
      obtain ⟨rfl, rfl⟩ := h6
      rw [eI_nI hd]
      refine z_eq (ws' := []) (lv' := [(0, .int (nI n)), (1, .int (nI a)), (2, .int (nI b)), (3, .int (nI d))]) (st' := [.int 1]) rfl rfl rfl ?_
      refine z_widen (k' := 0) (n' := 0) (Nat.le_refl _) (Nat.le_refl _) ?_
      refine z_if_ne X (tgt := 42) dX9_needValues_28 (by decide) (fun c_28 => ?_) (fun c9 => absurd c9 (by decide))
      exact z_endv X hr [] [] rfl rfl rfl rfl dX9_needValues_42
  · skip
    refine z_iload_n X dX9_needValues_12 rfl (j := 2) rfl ?_
    refine z_reti X (as := [.int (nI b)]) (wc := []) (wr := []) (rest := []) (fun H9 locs9 ls9 hP9 hS9 hl9 hb9 hp9 => va_runS (As := [.int (nI b)]) (rest := []) X.fix (m_isValue l D cy O (nI b) H9.size) (va_cwS 1 X.hts (gS ml_X9_348 sm_X9_isValue ni_X9 cd_X9_isValue) rfl rfl rfl (by decide +kernel) ⟨Nat.le_of_ble_eq_true rfl, Nat.le_of_ble_eq_true rfl⟩) ⟨hb9, hp9⟩ rfl rfl hl9.1 rfl (lv_room (Nat.le_of_ble_eq_true rfl)) dX9_needValues_13 ⟨Nat.le_of_ble_eq_true rfl, Nat.le_of_ble_eq_true rfl⟩) [] [] rfl rfl rfl rfl rfl (by decide) (fun _ h => Or.inl h) (fun r7 w8 h9 => ?_)
    obtain ⟨rfl, rfl⟩ := h9
    rw [eI_nI hb]
    refine z_eq (ws' := []) (lv' := [(0, .int (nI n)), (1, .int (nI a)), (2, .int (nI b)), (3, .int (nI d))]) (st' := [.int 1]) rfl rfl rfl ?_
    refine z_widen (k' := 0) (n' := 0) (Nat.le_refl _) (Nat.le_refl _) ?_
    refine z_if_eq X (tgt := 31) dX9_needValues_16 (by decide) (fun c9 => absurd c9 (by decide)) (fun c_16 => ?_)
    refine z_iload_n X dX9_needValues_19 rfl (j := 0) rfl ?_
    refine z_iconst X (v := 2) dX9_needValues_20 (by decide) ?_
    refine z_icmp_le X (tgt := 42) dX9_needValues_21 (by decide) (fun c_21 => ?_) (fun c_21 => ?_)
    · skip
      exact z_endv X hr [] [] rfl rfl rfl rfl dX9_needValues_42
    · skip
      refine z_iload_n X dX9_needValues_24 rfl (j := 3) rfl ?_
      refine z_reti X (as := [.int (nI d)]) (wc := []) (wr := []) (rest := []) (fun H9 locs9 ls9 hP9 hS9 hl9 hb9 hp9 => va_runS (As := [.int (nI d)]) (rest := []) X.fix (m_isValue l D cy O (nI d) H9.size) (va_cwS 1 X.hts (gS ml_X9_348 sm_X9_isValue ni_X9 cd_X9_isValue) rfl rfl rfl (by decide +kernel) ⟨Nat.le_of_ble_eq_true rfl, Nat.le_of_ble_eq_true rfl⟩) ⟨hb9, hp9⟩ rfl rfl hl9.1 rfl (lv_room (Nat.le_of_ble_eq_true rfl)) dX9_needValues_25 ⟨Nat.le_of_ble_eq_true rfl, Nat.le_of_ble_eq_true rfl⟩) [] [] rfl rfl rfl rfl rfl (by decide) (fun _ h => Or.inl h) (fun r10 w11 h12 => ?_)
      obtain ⟨rfl, rfl⟩ := h12
      rw [eI_nI hd]
      refine z_eq (ws' := []) (lv' := [(0, .int (nI n)), (1, .int (nI a)), (2, .int (nI b)), (3, .int (nI d))]) (st' := [.int 1]) rfl rfl rfl ?_
      refine z_widen (k' := 0) (n' := 0) (Nat.le_refl _) (Nat.le_refl _) ?_
      refine z_if_ne X (tgt := 42) dX9_needValues_28 (by decide) (fun c_28 => ?_) (fun c9 => absurd c9 (by decide))
      exact z_endv X hr [] [] rfl rfl rfl rfl dX9_needValues_42
set_option maxHeartbeats 4000000 in
set_option maxRecDepth 100000 in
/-- rowOf -/
theorem m_rowOf (l : Launch) (D : va_G) (cy : Nat → ClassId) (O : Nat × va_E → Prop) {n a b d : Nat} (hn : n < 2 ^ 31) (ha : a < 8) (hb : b < 8) (hd : d < 8) : Ci l yX9_rowOf (.code yX9_rowOf cX9_rowOf 5 (some .int) :: WALL) ({ frames := 0, cells := 0, slots := 0, locals := 0 }) D cy O [.int (nI n), .int (nI a), .int (nI b), .int (nI d)] [] 0 0 (fun (r : Int32) (w : va_W) => r = nI (rw3 n a b d) ∧ w = []) := by
  refine z_meti (by decide) rfl rfl (Nat.le_of_ble_eq_true rfl) ?_
  intro p e s m args below meth c X hr hin
  refine z_eq (ws' := []) (lv' := [(0, .int (nI n)), (1, .int (nI a)), (2, .int (nI b)), (3, .int (nI d))]) (st' := []) rfl rfl rfl ?_
  refine z_iload_n X dX9_rowOf_0 rfl (j := 1) rfl ?_
  refine z_istore X (lv' := [(4, .int (nI a)), (0, .int (nI n)), (1, .int (nI a)), (2, .int (nI b)), (3, .int (nI d))]) dX9_rowOf_1 (by decide) rfl ?_
  refine z_iload_n X dX9_rowOf_3 rfl (j := 1) rfl ?_
  refine z_iconst X (v := 1) dX9_rowOf_4 (by decide) ?_
  refine z_icmp_le X (tgt := 16) dX9_rowOf_5 (by decide) (fun c_5 => ?_) (fun c_5 => ?_)
  · skip
    refine z_iload_n X dX9_rowOf_16 rfl (j := 1) rfl ?_
    refine z_iconst X (v := 2) dX9_rowOf_17 (by decide) ?_
    refine z_icmp_le X (tgt := 29) dX9_rowOf_18 (by decide) (fun c_18 => ?_) (fun c_18 => ?_)
    · skip
      refine z_iload X dX9_rowOf_29 (j := 0) rfl ?_
      exact z_endi X hr [] [] rfl rfl rfl ⟨(by rw [rw3, if_pos ((nI_leI (b := 1) hn (by decide)).mp c_5)]), rfl⟩ dX9_rowOf_31
    · skip
      refine z_iload X dX9_rowOf_21 (j := 0) rfl ?_
      refine z_iconst X (v := 3) dX9_rowOf_23 (by decide) ?_
      refine z_ishl X (v := (nI (a * 8))) dX9_rowOf_24 (shl_3 (by omega)) ?_
      refine z_iload_n X dX9_rowOf_25 rfl (j := 4) rfl ?_
      refine z_ior X (v := (nI (a * 8 + d))) dX9_rowOf_26 (or_8 hd) ?_
      refine z_istore X (lv' := [(4, .int (nI (a * 8 + d))), (0, .int (nI n)), (1, .int (nI a)), (2, .int (nI b)), (3, .int (nI d))]) dX9_rowOf_27 (by decide) rfl ?_
      refine z_iload X dX9_rowOf_29 (j := 0) rfl ?_
      exact z_endi X hr [] [] rfl rfl rfl ⟨(absurd (Nat.le_trans ((nI_leI (b := 1) hn (by decide)).mp c_5) (by decide : 1 ≤ 2)) (fun z => c_18 ((nI_leI (b := 2) hn (by decide)).mpr z))), rfl⟩ dX9_rowOf_31
  · skip
    refine z_iload X dX9_rowOf_8 (j := 0) rfl ?_
    refine z_iconst X (v := 3) dX9_rowOf_10 (by decide) ?_
    refine z_ishl X (v := (nI (a * 8))) dX9_rowOf_11 (shl_3 (by omega)) ?_
    refine z_iload_n X dX9_rowOf_12 rfl (j := 3) rfl ?_
    refine z_ior X (v := (nI (a * 8 + b))) dX9_rowOf_13 (or_8 hb) ?_
    refine z_istore X (lv' := [(4, .int (nI (a * 8 + b))), (0, .int (nI n)), (1, .int (nI a)), (2, .int (nI b)), (3, .int (nI d))]) dX9_rowOf_14 (by decide) rfl ?_
    refine z_iload_n X dX9_rowOf_16 rfl (j := 1) rfl ?_
    refine z_iconst X (v := 2) dX9_rowOf_17 (by decide) ?_
    refine z_icmp_le X (tgt := 29) dX9_rowOf_18 (by decide) (fun c_18 => ?_) (fun c_18 => ?_)
    · skip
      refine z_iload X dX9_rowOf_29 (j := 0) rfl ?_
      exact z_endi X hr [] [] rfl rfl rfl ⟨(by rw [rw3, if_neg (fun z => c_5 ((nI_leI (b := 1) hn (by decide)).mpr z)), if_pos ((nI_leI (b := 2) hn (by decide)).mp c_18)]), rfl⟩ dX9_rowOf_31
    · skip
      refine z_iload X dX9_rowOf_21 (j := 0) rfl ?_
      refine z_iconst X (v := 3) dX9_rowOf_23 (by decide) ?_
      refine z_ishl X (v := (nI ((a * 8 + b) * 8))) dX9_rowOf_24 (shl_3 (by omega)) ?_
      refine z_iload_n X dX9_rowOf_25 rfl (j := 4) rfl ?_
      refine z_ior X (v := (nI ((a * 8 + b) * 8 + d))) dX9_rowOf_26 (or_8 hd) ?_
      refine z_istore X (lv' := [(4, .int (nI ((a * 8 + b) * 8 + d))), (0, .int (nI n)), (1, .int (nI a)), (2, .int (nI b)), (3, .int (nI d))]) dX9_rowOf_27 (by decide) rfl ?_
      refine z_iload X dX9_rowOf_29 (j := 0) rfl ?_
      exact z_endi X hr [] [] rfl rfl rfl ⟨(by rw [rw3, if_neg (fun z => c_5 ((nI_leI (b := 1) hn (by decide)).mpr z)), if_neg (fun z => c_18 ((nI_leI (b := 2) hn (by decide)).mpr z))]), rfl⟩ dX9_rowOf_31
set_option maxHeartbeats 4000000 in
set_option maxRecDepth 100000 in
/-- needRoomForFormulas: there is -/
theorem m_needRoom (l : Launch) (D : va_G) (cy : Nat → ClassId) (O : Nat × va_E → Prop) {a ra fa ua rc fc uc : Nat} {g6 g7 g8 : Value} (hO : O (a, .inr (9, [.ref ra, .int (nI rc), .ref fa, .int (nI fc), .ref ua, .int (nI uc), g6, g7, g8]))) {j : Nat} (hj : fc + j ≤ 40) : Cv l yX9_needRoomForFormulas (.code yX9_needRoomForFormulas cX9_needRoomForFormulas 2 none :: WALL) ({ frames := 0, cells := 0, slots := 0, locals := 0 }) D cy O [.ref a, .int (nI j)] [] 0 0 (fun (w : va_W) => w = []) := by
  refine z_metv (by decide) rfl rfl (Nat.le_of_ble_eq_true rfl) ?_
  intro p e s m args below meth c X hr hin
  refine z_eq (ws' := []) (lv' := [(0, .ref a), (1, .int (nI j))]) (st' := []) rfl rfl rfl ?_
  refine z_aload_n X dX9_needRoomForFormulas_0 rfl (j := 0) rfl ?_
  refine z_getO X (ci := 9) (C := RX9) (T := TX9) (N := 9) inX9 hO rfl 3 (by decide) fl_X9_25 (fun _ h9 => h9) rfl dX9_needRoomForFormulas_1 ?_
  refine z_iload_n X dX9_needRoomForFormulas_4 rfl (j := 1) rfl ?_
  refine z_iadd X (v := (nI (fc + j))) dX9_needRoomForFormulas_5 (nI_add _ _) ?_
  refine z_bipush X (v := 40) dX9_needRoomForFormulas_6 (by decide) ?_
  refine z_icmp_le X (tgt := 22) dX9_needRoomForFormulas_8 (by decide) (fun c_8 => ?_) (fun c9 => absurd (nI_le (a := fc + j) (b := 40) hj (by decide)) c9)
  exact z_endv X hr [] [] rfl rfl rfl rfl dX9_needRoomForFormulas_22
set_option maxHeartbeats 4000000 in
set_option maxRecDepth 100000 in
/-- needLength: it is -/
theorem m_needLength (l : Launch) (D : va_G) (cy : Nat → ClassId) (O : Nat × va_E → Prop) {j : Nat} (hj : j ≤ 40) : Cv l yX9_needLength (.code yX9_needLength cX9_needLength 1 none :: WALL) ({ frames := 0, cells := 0, slots := 0, locals := 0 }) D cy O [.int (nI j)] [] 0 0 (fun (w : va_W) => w = []) := by
  refine z_metv (by decide) rfl rfl (Nat.le_of_ble_eq_true rfl) ?_
  intro p e s m args below meth c X hr hin
  refine z_eq (ws' := []) (lv' := [(0, .int (nI j))]) (st' := []) rfl rfl rfl ?_
  refine z_iload_n X dX9_needLength_0 rfl (j := 0) rfl ?_
  refine z_bipush X (v := 40) dX9_needLength_1 (by decide) ?_
  refine z_icmp_le X (tgt := 17) dX9_needLength_3 (by decide) (fun c_3 => ?_) (fun c9 => absurd (nI_le (a := j) (b := 40) hj (by decide)) c9)
  exact z_endv X hr [] [] rfl rfl rfl rfl dX9_needLength_17
set_option maxHeartbeats 4000000 in
set_option maxRecDepth 100000 in
/-- X9_relationAt -/
theorem m_relationAt (l : Launch) (D : va_G) (cy : Nat → ClassId) (O : Nat × va_E → Prop) {a ra fa ua rc fc uc : Nat} {g6 g7 g8 : Value} (hO : O (a, .inr (9, [.ref ra, .int (nI rc), .ref fa, .int (nI fc), .ref ua, .int (nI uc), g6, g7, g8]))) {F : Nat → Option Nat} {i b : Nat} (hF : O (ra, .inl (cy 2, 6, .inr (.inr (.inr (.inr F)))))) (hi : i < rc) (hc : rc ≤ 6) (hb : F i = some b) : Cr l yX9_relationAt (.code yX9_relationAt cX9_relationAt 2 (some (.object "Thimble$Relation")) :: WALL) ({ frames := 0, cells := 0, slots := 0, locals := 0 }) D cy O [.ref a, .int (nI i)] [] 0 0 (fun (r : Nat) (w : va_W) => r = b ∧ w = []) := by
  refine z_metr (by decide) rfl rfl (Nat.le_of_ble_eq_true rfl) ?_
  intro p e s m args below meth c X hr hin
  refine z_eq (ws' := []) (lv' := [(0, .ref a), (1, .int (nI i))]) (st' := []) rfl rfl rfl ?_
  refine z_iload_n X dX9_relationAt_0 rfl (j := 1) rfl ?_
  refine z_if_lt X (tgt := 12) dX9_relationAt_1 (by decide) (fun c9 => absurd c9 (nI_pos (by omega))) (fun c_1 => ?_)
  refine z_iload_n X dX9_relationAt_4 rfl (j := 1) rfl ?_
  refine z_aload_n X dX9_relationAt_5 rfl (j := 0) rfl ?_
  refine z_getO X (ci := 9) (C := RX9) (T := TX9) (N := 9) inX9 hO rfl 1 (by decide) fl_X9_15 (fun _ h9 => h9) rfl dX9_relationAt_6 ?_
  refine z_icmp_lt X (tgt := 23) dX9_relationAt_9 (by decide) (fun c_9 => ?_) (fun c9 => absurd (nI_lt hi (by omega)) c9)
  refine z_aload_n X dX9_relationAt_23 rfl (j := 0) rfl ?_
  refine z_getO X (ci := 9) (C := RX9) (T := TX9) (N := 9) inX9 hO rfl 0 (by decide) fl_X9_11 (fun _ h9 => h9) rfl dX9_relationAt_24 ?_
  refine z_iload_n X dX9_relationAt_27 rfl (j := 1) rfl ?_
  refine z_aaldO X (t := 2) hF rfl (b := b) (vp_in_nI (by omega) (by decide)) (by rw [nI_clamp (by omega)]; exact hb) dX9_relationAt_28 ?_
  exact z_endr X (Or.inl ⟨_, rfl⟩) hr [] [] rfl rfl rfl ⟨rfl, rfl⟩ dX9_relationAt_29
set_option maxHeartbeats 4000000 in
set_option maxRecDepth 100000 in
/-- X9_formulaAt -/
theorem m_formulaAt (l : Launch) (D : va_G) (cy : Nat → ClassId) (O : Nat × va_E → Prop) {a ra fa ua rc fc uc : Nat} {g6 g7 g8 : Value} (hO : O (a, .inr (9, [.ref ra, .int (nI rc), .ref fa, .int (nI fc), .ref ua, .int (nI uc), g6, g7, g8]))) {F : Nat → Option Nat} {i b : Nat} (hF : O (fa, .inl (cy 3, 40, .inr (.inr (.inr (.inr F)))))) (hi : i < fc) (hc : fc ≤ 40) (hb : F i = some b) : Cr l yX9_formulaAt (.code yX9_formulaAt cX9_formulaAt 2 (some (.object "Thimble$Formula")) :: WALL) ({ frames := 0, cells := 0, slots := 0, locals := 0 }) D cy O [.ref a, .int (nI i)] [] 0 0 (fun (r : Nat) (w : va_W) => r = b ∧ w = []) := by
  refine z_metr (by decide) rfl rfl (Nat.le_of_ble_eq_true rfl) ?_
  intro p e s m args below meth c X hr hin
  refine z_eq (ws' := []) (lv' := [(0, .ref a), (1, .int (nI i))]) (st' := []) rfl rfl rfl ?_
  refine z_iload_n X dX9_formulaAt_0 rfl (j := 1) rfl ?_
  refine z_if_lt X (tgt := 12) dX9_formulaAt_1 (by decide) (fun c9 => absurd c9 (nI_pos (by omega))) (fun c_1 => ?_)
  refine z_iload_n X dX9_formulaAt_4 rfl (j := 1) rfl ?_
  refine z_aload_n X dX9_formulaAt_5 rfl (j := 0) rfl ?_
  refine z_getO X (ci := 9) (C := RX9) (T := TX9) (N := 9) inX9 hO rfl 3 (by decide) fl_X9_25 (fun _ h9 => h9) rfl dX9_formulaAt_6 ?_
  refine z_icmp_lt X (tgt := 23) dX9_formulaAt_9 (by decide) (fun c_9 => ?_) (fun c9 => absurd (nI_lt hi (by omega)) c9)
  refine z_aload_n X dX9_formulaAt_23 rfl (j := 0) rfl ?_
  refine z_getO X (ci := 9) (C := RX9) (T := TX9) (N := 9) inX9 hO rfl 2 (by decide) fl_X9_21 (fun _ h9 => h9) rfl dX9_formulaAt_24 ?_
  refine z_iload_n X dX9_formulaAt_27 rfl (j := 1) rfl ?_
  refine z_aaldO X (t := 3) hF rfl (b := b) (vp_in_nI (by omega) (by decide)) (by rw [nI_clamp (by omega)]; exact hb) dX9_formulaAt_28 ?_
  exact z_endr X (Or.inl ⟨_, rfl⟩) hr [] [] rfl rfl rfl ⟨rfl, rfl⟩ dX9_formulaAt_29
set_option maxHeartbeats 4000000 in
set_option maxRecDepth 100000 in
/-- X9_ruleAt -/
theorem m_ruleAt (l : Launch) (D : va_G) (cy : Nat → ClassId) (O : Nat × va_E → Prop) {a ra fa ua rc fc uc : Nat} {g6 g7 g8 : Value} (hO : O (a, .inr (9, [.ref ra, .int (nI rc), .ref fa, .int (nI fc), .ref ua, .int (nI uc), g6, g7, g8]))) {F : Nat → Option Nat} {i b : Nat} (hF : O (ua, .inl (cy 4, 8, .inr (.inr (.inr (.inr F)))))) (hi : i < uc) (hc : uc ≤ 8) (hb : F i = some b) : Cr l yX9_ruleAt (.code yX9_ruleAt cX9_ruleAt 2 (some (.object "Thimble$Rule")) :: WALL) ({ frames := 0, cells := 0, slots := 0, locals := 0 }) D cy O [.ref a, .int (nI i)] [] 0 0 (fun (r : Nat) (w : va_W) => r = b ∧ w = []) := by
  refine z_metr (by decide) rfl rfl (Nat.le_of_ble_eq_true rfl) ?_
  intro p e s m args below meth c X hr hin
  refine z_eq (ws' := []) (lv' := [(0, .ref a), (1, .int (nI i))]) (st' := []) rfl rfl rfl ?_
  refine z_iload_n X dX9_ruleAt_0 rfl (j := 1) rfl ?_
  refine z_if_lt X (tgt := 12) dX9_ruleAt_1 (by decide) (fun c9 => absurd c9 (nI_pos (by omega))) (fun c_1 => ?_)
  refine z_iload_n X dX9_ruleAt_4 rfl (j := 1) rfl ?_
  refine z_aload_n X dX9_ruleAt_5 rfl (j := 0) rfl ?_
  refine z_getO X (ci := 9) (C := RX9) (T := TX9) (N := 9) inX9 hO rfl 5 (by decide) fl_X9_34 (fun _ h9 => h9) rfl dX9_ruleAt_6 ?_
  refine z_icmp_lt X (tgt := 23) dX9_ruleAt_9 (by decide) (fun c_9 => ?_) (fun c9 => absurd (nI_lt hi (by omega)) c9)
  refine z_aload_n X dX9_ruleAt_23 rfl (j := 0) rfl ?_
  refine z_getO X (ci := 9) (C := RX9) (T := TX9) (N := 9) inX9 hO rfl 4 (by decide) fl_X9_30 (fun _ h9 => h9) rfl dX9_ruleAt_24 ?_
  refine z_iload_n X dX9_ruleAt_27 rfl (j := 1) rfl ?_
  refine z_aaldO X (t := 4) hF rfl (b := b) (vp_in_nI (by omega) (by decide)) (by rw [nI_clamp (by omega)]; exact hb) dX9_ruleAt_28 ?_
  exact z_endr X (Or.inl ⟨_, rfl⟩) hr [] [] rfl rfl rfl ⟨rfl, rfl⟩ dX9_ruleAt_29
