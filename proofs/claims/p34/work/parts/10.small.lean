theorem dX9_isIn_0 : decode cX9_isIn 0 = .ok (.iload_n 0, 1) := by decide +kernel
theorem dX9_isIn_1 : decode cX9_isIn 1 = .ok (.iload_n 1, 1) := by decide +kernel
theorem dX9_isIn_2 : decode cX9_isIn 2 = .ok (.ishr, 1) := by decide +kernel
theorem dX9_isIn_3 : decode cX9_isIn 3 = .ok (.iconst 1, 1) := by decide +kernel
theorem dX9_isIn_4 : decode cX9_isIn 4 = .ok (.iand, 1) := by decide +kernel
theorem dX9_isIn_5 : decode cX9_isIn 5 = .ok (.ifCond .eq 7, 3) := by decide +kernel
theorem dX9_isIn_8 : decode cX9_isIn 8 = .ok (.iconst 1, 1) := by decide +kernel
theorem dX9_isIn_9 : decode cX9_isIn 9 = .ok (.goto 4, 3) := by decide +kernel
theorem dX9_isIn_12 : decode cX9_isIn 12 = .ok (.iconst 0, 1) := by decide +kernel
theorem dX9_isIn_13 : decode cX9_isIn 13 = .ok (.ireturn, 1) := by decide +kernel
theorem dX9_isVariable_0 : decode cX9_isVariable 0 = .ok (.iload_n 0, 1) := by decide +kernel
theorem dX9_isVariable_1 : decode cX9_isVariable 1 = .ok (.ifCond .lt 13, 3) := by decide +kernel
theorem dX9_isVariable_4 : decode cX9_isVariable 4 = .ok (.iload_n 0, 1) := by decide +kernel
theorem dX9_isVariable_5 : decode cX9_isVariable 5 = .ok (.bipush 6, 2) := by decide +kernel
theorem dX9_isVariable_7 : decode cX9_isVariable 7 = .ok (.if_icmp .ge 7, 3) := by decide +kernel
theorem dX9_isVariable_10 : decode cX9_isVariable 10 = .ok (.iconst 1, 1) := by decide +kernel
theorem dX9_isVariable_11 : decode cX9_isVariable 11 = .ok (.goto 4, 3) := by decide +kernel
theorem dX9_isVariable_14 : decode cX9_isVariable 14 = .ok (.iconst 0, 1) := by decide +kernel
theorem dX9_isVariable_15 : decode cX9_isVariable 15 = .ok (.ireturn, 1) := by decide +kernel
theorem dX9_isValue_0 : decode cX9_isValue 0 = .ok (.iload_n 0, 1) := by decide +kernel
theorem dX9_isValue_1 : decode cX9_isValue 1 = .ok (.ifCond .lt 13, 3) := by decide +kernel
theorem dX9_isValue_4 : decode cX9_isValue 4 = .ok (.iload_n 0, 1) := by decide +kernel
theorem dX9_isValue_5 : decode cX9_isValue 5 = .ok (.bipush 8, 2) := by decide +kernel
theorem dX9_isValue_7 : decode cX9_isValue 7 = .ok (.if_icmp .ge 7, 3) := by decide +kernel
theorem dX9_isValue_10 : decode cX9_isValue 10 = .ok (.iconst 1, 1) := by decide +kernel
theorem dX9_isValue_11 : decode cX9_isValue 11 = .ok (.goto 4, 3) := by decide +kernel
theorem dX9_isValue_14 : decode cX9_isValue 14 = .ok (.iconst 0, 1) := by decide +kernel
theorem dX9_isValue_15 : decode cX9_isValue 15 = .ok (.ireturn, 1) := by decide +kernel
theorem dX9_isTerm_0 : decode cX9_isTerm 0 = .ok (.iload_n 0, 1) := by decide +kernel
theorem dX9_isTerm_1 : decode cX9_isTerm 1 = .ok (.invokestatic 162, 3) := by decide +kernel
theorem dX9_isTerm_4 : decode cX9_isTerm 4 = .ok (.ifCond .ne 15, 3) := by decide +kernel
theorem dX9_isTerm_7 : decode cX9_isTerm 7 = .ok (.iload_n 0, 1) := by decide +kernel
theorem dX9_isTerm_8 : decode cX9_isTerm 8 = .ok (.bipush 10, 2) := by decide +kernel
theorem dX9_isTerm_10 : decode cX9_isTerm 10 = .ok (.if_icmp .lt 13, 3) := by decide +kernel
theorem dX9_isTerm_13 : decode cX9_isTerm 13 = .ok (.iload_n 0, 1) := by decide +kernel
theorem dX9_isTerm_14 : decode cX9_isTerm 14 = .ok (.bipush 18, 2) := by decide +kernel
theorem dX9_isTerm_16 : decode cX9_isTerm 16 = .ok (.if_icmp .ge 7, 3) := by decide +kernel
theorem dX9_isTerm_19 : decode cX9_isTerm 19 = .ok (.iconst 1, 1) := by decide +kernel
theorem dX9_isTerm_20 : decode cX9_isTerm 20 = .ok (.goto 4, 3) := by decide +kernel
theorem dX9_isTerm_23 : decode cX9_isTerm 23 = .ok (.iconst 0, 1) := by decide +kernel
theorem dX9_isTerm_24 : decode cX9_isTerm 24 = .ok (.ireturn, 1) := by decide +kernel
theorem dX5_init_0 : decode cX5_init 0 = .ok (.aload_n 0, 1) := by decide +kernel
theorem dX5_init_1 : decode cX5_init 1 = .ok (.invokespecial 3, 3) := by decide +kernel
theorem dX5_init_4 : decode cX5_init 4 = .ok (.aload_n 0, 1) := by decide +kernel
theorem dX5_init_5 : decode cX5_init 5 = .ok (.sipush 512, 3) := by decide +kernel
theorem dX5_init_8 : decode cX5_init 8 = .ok (.newarray .boolean, 2) := by decide +kernel
theorem dX5_init_10 : decode cX5_init 10 = .ok (.putfield 9, 3) := by decide +kernel
theorem dX5_init_13 : decode cX5_init 13 = .ok (.aload_n 0, 1) := by decide +kernel
theorem dX5_init_14 : decode cX5_init 14 = .ok (.iconst 0, 1) := by decide +kernel
theorem dX5_init_15 : decode cX5_init 15 = .ok (.putfield 15, 3) := by decide +kernel
theorem dX5_init_18 : decode cX5_init 18 = .ok (.return_, 1) := by decide +kernel
theorem dX2_init_0 : decode cX2_init 0 = .ok (.aload_n 0, 1) := by decide +kernel
theorem dX2_init_1 : decode cX2_init 1 = .ok (.invokespecial 3, 3) := by decide +kernel
theorem dX2_init_4 : decode cX2_init 4 = .ok (.aload_n 0, 1) := by decide +kernel
theorem dX2_init_5 : decode cX2_init 5 = .ok (.new 9, 3) := by decide +kernel
theorem dX2_init_8 : decode cX2_init 8 = .ok (.dup, 1) := by decide +kernel
theorem dX2_init_9 : decode cX2_init 9 = .ok (.invokespecial 11, 3) := by decide +kernel
theorem dX2_init_12 : decode cX2_init 12 = .ok (.putfield 12, 3) := by decide +kernel
theorem dX2_init_15 : decode cX2_init 15 = .ok (.aload_n 0, 1) := by decide +kernel
theorem dX2_init_16 : decode cX2_init 16 = .ok (.bipush 6, 2) := by decide +kernel
theorem dX2_init_18 : decode cX2_init 18 = .ok (.newarray .int, 2) := by decide +kernel
theorem dX2_init_20 : decode cX2_init 20 = .ok (.dup, 1) := by decide +kernel
theorem dX2_init_21 : decode cX2_init 21 = .ok (.iconst 0, 1) := by decide +kernel
theorem dX2_init_22 : decode cX2_init 22 = .ok (.iconst (-1), 1) := by decide +kernel
theorem dX2_init_23 : decode cX2_init 23 = .ok (.iastore, 1) := by decide +kernel
theorem dX2_init_24 : decode cX2_init 24 = .ok (.dup, 1) := by decide +kernel
theorem dX2_init_25 : decode cX2_init 25 = .ok (.iconst 1, 1) := by decide +kernel
theorem dX2_init_26 : decode cX2_init 26 = .ok (.iconst (-1), 1) := by decide +kernel
theorem dX2_init_27 : decode cX2_init 27 = .ok (.iastore, 1) := by decide +kernel
theorem dX2_init_28 : decode cX2_init 28 = .ok (.dup, 1) := by decide +kernel
theorem dX2_init_29 : decode cX2_init 29 = .ok (.iconst 2, 1) := by decide +kernel
theorem dX2_init_30 : decode cX2_init 30 = .ok (.iconst 0, 1) := by decide +kernel
theorem dX2_init_31 : decode cX2_init 31 = .ok (.iastore, 1) := by decide +kernel
theorem dX2_init_32 : decode cX2_init 32 = .ok (.dup, 1) := by decide +kernel
theorem dX2_init_33 : decode cX2_init 33 = .ok (.iconst 3, 1) := by decide +kernel
theorem dX2_init_34 : decode cX2_init 34 = .ok (.iconst 0, 1) := by decide +kernel
theorem dX2_init_35 : decode cX2_init 35 = .ok (.iastore, 1) := by decide +kernel
theorem dX2_init_36 : decode cX2_init 36 = .ok (.dup, 1) := by decide +kernel
theorem dX2_init_37 : decode cX2_init 37 = .ok (.iconst 4, 1) := by decide +kernel
theorem dX2_init_38 : decode cX2_init 38 = .ok (.iconst 0, 1) := by decide +kernel
theorem dX2_init_39 : decode cX2_init 39 = .ok (.iastore, 1) := by decide +kernel
theorem dX2_init_40 : decode cX2_init 40 = .ok (.dup, 1) := by decide +kernel
theorem dX2_init_41 : decode cX2_init 41 = .ok (.iconst 5, 1) := by decide +kernel
theorem dX2_init_42 : decode cX2_init 42 = .ok (.iconst 0, 1) := by decide +kernel
theorem dX2_init_43 : decode cX2_init 43 = .ok (.iastore, 1) := by decide +kernel
theorem dX2_init_44 : decode cX2_init 44 = .ok (.putfield 18, 3) := by decide +kernel
theorem dX2_init_47 : decode cX2_init 47 = .ok (.aload_n 0, 1) := by decide +kernel
theorem dX2_init_48 : decode cX2_init 48 = .ok (.iconst 0, 1) := by decide +kernel
theorem dX2_init_49 : decode cX2_init 49 = .ok (.putfield 22, 3) := by decide +kernel
theorem dX2_init_52 : decode cX2_init 52 = .ok (.return_, 1) := by decide +kernel
theorem dX8_init_0 : decode cX8_init 0 = .ok (.aload_n 0, 1) := by decide +kernel
theorem dX8_init_1 : decode cX8_init 1 = .ok (.invokespecial 3, 3) := by decide +kernel
theorem dX8_init_4 : decode cX8_init 4 = .ok (.aload_n 0, 1) := by decide +kernel
theorem dX8_init_5 : decode cX8_init 5 = .ok (.iconst 5, 1) := by decide +kernel
theorem dX8_init_6 : decode cX8_init 6 = .ok (.newarray .int, 2) := by decide +kernel
theorem dX8_init_8 : decode cX8_init 8 = .ok (.putfield 9, 3) := by decide +kernel
theorem dX8_init_11 : decode cX8_init 11 = .ok (.aload_n 0, 1) := by decide +kernel
theorem dX8_init_12 : decode cX8_init 12 = .ok (.iconst 5, 1) := by decide +kernel
theorem dX8_init_13 : decode cX8_init 13 = .ok (.newarray .int, 2) := by decide +kernel
theorem dX8_init_15 : decode cX8_init 15 = .ok (.putfield 15, 3) := by decide +kernel
theorem dX8_init_18 : decode cX8_init 18 = .ok (.aload_n 0, 1) := by decide +kernel
theorem dX8_init_19 : decode cX8_init 19 = .ok (.new 18, 3) := by decide +kernel
theorem dX8_init_22 : decode cX8_init 22 = .ok (.dup, 1) := by decide +kernel
theorem dX8_init_23 : decode cX8_init 23 = .ok (.invokespecial 20, 3) := by decide +kernel
theorem dX8_init_26 : decode cX8_init 26 = .ok (.putfield 21, 3) := by decide +kernel
theorem dX8_init_29 : decode cX8_init 29 = .ok (.aload_n 0, 1) := by decide +kernel
theorem dX8_init_30 : decode cX8_init 30 = .ok (.bipush 6, 2) := by decide +kernel
theorem dX8_init_32 : decode cX8_init 32 = .ok (.newarray .int, 2) := by decide +kernel
theorem dX8_init_34 : decode cX8_init 34 = .ok (.dup, 1) := by decide +kernel
theorem dX8_init_35 : decode cX8_init 35 = .ok (.iconst 0, 1) := by decide +kernel
theorem dX8_init_36 : decode cX8_init 36 = .ok (.iconst (-1), 1) := by decide +kernel
theorem dX8_init_37 : decode cX8_init 37 = .ok (.iastore, 1) := by decide +kernel
theorem dX8_init_38 : decode cX8_init 38 = .ok (.dup, 1) := by decide +kernel
theorem dX8_init_39 : decode cX8_init 39 = .ok (.iconst 1, 1) := by decide +kernel
theorem dX8_init_40 : decode cX8_init 40 = .ok (.iconst (-1), 1) := by decide +kernel
theorem dX8_init_41 : decode cX8_init 41 = .ok (.iastore, 1) := by decide +kernel
theorem dX8_init_42 : decode cX8_init 42 = .ok (.dup, 1) := by decide +kernel
theorem dX8_init_43 : decode cX8_init 43 = .ok (.iconst 2, 1) := by decide +kernel
theorem dX8_init_44 : decode cX8_init 44 = .ok (.iconst (-1), 1) := by decide +kernel
theorem dX8_init_45 : decode cX8_init 45 = .ok (.iastore, 1) := by decide +kernel
theorem dX8_init_46 : decode cX8_init 46 = .ok (.dup, 1) := by decide +kernel
theorem dX8_init_47 : decode cX8_init 47 = .ok (.iconst 3, 1) := by decide +kernel
theorem dX8_init_48 : decode cX8_init 48 = .ok (.iconst (-1), 1) := by decide +kernel
theorem dX8_init_49 : decode cX8_init 49 = .ok (.iastore, 1) := by decide +kernel
theorem dX8_init_50 : decode cX8_init 50 = .ok (.dup, 1) := by decide +kernel
theorem dX8_init_51 : decode cX8_init 51 = .ok (.iconst 4, 1) := by decide +kernel
theorem dX8_init_52 : decode cX8_init 52 = .ok (.iconst (-1), 1) := by decide +kernel
theorem dX8_init_53 : decode cX8_init 53 = .ok (.iastore, 1) := by decide +kernel
theorem dX8_init_54 : decode cX8_init 54 = .ok (.dup, 1) := by decide +kernel
theorem dX8_init_55 : decode cX8_init 55 = .ok (.iconst 5, 1) := by decide +kernel
theorem dX8_init_56 : decode cX8_init 56 = .ok (.iconst (-1), 1) := by decide +kernel
theorem dX8_init_57 : decode cX8_init 57 = .ok (.iastore, 1) := by decide +kernel
theorem dX8_init_58 : decode cX8_init 58 = .ok (.putfield 25, 3) := by decide +kernel
theorem dX8_init_61 : decode cX8_init 61 = .ok (.aload_n 0, 1) := by decide +kernel
theorem dX8_init_62 : decode cX8_init 62 = .ok (.aconst_null, 1) := by decide +kernel
theorem dX8_init_63 : decode cX8_init 63 = .ok (.putfield 28, 3) := by decide +kernel
theorem dX8_init_66 : decode cX8_init 66 = .ok (.aload_n 0, 1) := by decide +kernel
theorem dX8_init_67 : decode cX8_init 67 = .ok (.iconst 0, 1) := by decide +kernel
theorem dX8_init_68 : decode cX8_init 68 = .ok (.putfield 32, 3) := by decide +kernel
theorem dX8_init_71 : decode cX8_init 71 = .ok (.aload_n 0, 1) := by decide +kernel
theorem dX8_init_72 : decode cX8_init 72 = .ok (.iconst 0, 1) := by decide +kernel
theorem dX8_init_73 : decode cX8_init 73 = .ok (.putfield 36, 3) := by decide +kernel
theorem dX8_init_76 : decode cX8_init 76 = .ok (.return_, 1) := by decide +kernel
theorem dX3_init_0 : decode cX3_init 0 = .ok (.aload_n 0, 1) := by decide +kernel
theorem dX3_init_1 : decode cX3_init 1 = .ok (.invokespecial 3, 3) := by decide +kernel
theorem dX3_init_4 : decode cX3_init 4 = .ok (.aload_n 0, 1) := by decide +kernel
theorem dX3_init_5 : decode cX3_init 5 = .ok (.bipush 6, 2) := by decide +kernel
theorem dX3_init_7 : decode cX3_init 7 = .ok (.newarray .int, 2) := by decide +kernel
theorem dX3_init_9 : decode cX3_init 9 = .ok (.putfield 9, 3) := by decide +kernel
theorem dX3_init_12 : decode cX3_init 12 = .ok (.aload_n 0, 1) := by decide +kernel
theorem dX3_init_13 : decode cX3_init 13 = .ok (.iconst 0, 1) := by decide +kernel
theorem dX3_init_14 : decode cX3_init 14 = .ok (.putfield 15, 3) := by decide +kernel
theorem dX3_init_17 : decode cX3_init 17 = .ok (.aload_n 0, 1) := by decide +kernel
theorem dX3_init_18 : decode cX3_init 18 = .ok (.aconst_null, 1) := by decide +kernel
theorem dX3_init_19 : decode cX3_init 19 = .ok (.putfield 19, 3) := by decide +kernel
theorem dX3_init_22 : decode cX3_init 22 = .ok (.aload_n 0, 1) := by decide +kernel
theorem dX3_init_23 : decode cX3_init 23 = .ok (.iconst 0, 1) := by decide +kernel
theorem dX3_init_24 : decode cX3_init 24 = .ok (.putfield 23, 3) := by decide +kernel
theorem dX3_init_27 : decode cX3_init 27 = .ok (.aload_n 0, 1) := by decide +kernel
theorem dX3_init_28 : decode cX3_init 28 = .ok (.aconst_null, 1) := by decide +kernel
theorem dX3_init_29 : decode cX3_init 29 = .ok (.putfield 26, 3) := by decide +kernel
theorem dX3_init_32 : decode cX3_init 32 = .ok (.aload_n 0, 1) := by decide +kernel
theorem dX3_init_33 : decode cX3_init 33 = .ok (.iconst 0, 1) := by decide +kernel
theorem dX3_init_34 : decode cX3_init 34 = .ok (.putfield 29, 3) := by decide +kernel
theorem dX3_init_37 : decode cX3_init 37 = .ok (.return_, 1) := by decide +kernel
theorem dX9_init_0 : decode cX9_init 0 = .ok (.aload_n 0, 1) := by decide +kernel
theorem dX9_init_1 : decode cX9_init 1 = .ok (.invokespecial 1, 3) := by decide +kernel
theorem dX9_init_4 : decode cX9_init 4 = .ok (.aload_n 0, 1) := by decide +kernel
theorem dX9_init_5 : decode cX9_init 5 = .ok (.bipush 6, 2) := by decide +kernel
theorem dX9_init_7 : decode cX9_init 7 = .ok (.anewarray 9, 3) := by decide +kernel
theorem dX9_init_10 : decode cX9_init 10 = .ok (.putfield 11, 3) := by decide +kernel
theorem dX9_init_13 : decode cX9_init 13 = .ok (.aload_n 0, 1) := by decide +kernel
theorem dX9_init_14 : decode cX9_init 14 = .ok (.iconst 0, 1) := by decide +kernel
theorem dX9_init_15 : decode cX9_init 15 = .ok (.putfield 15, 3) := by decide +kernel
theorem dX9_init_18 : decode cX9_init 18 = .ok (.aload_n 0, 1) := by decide +kernel
theorem dX9_init_19 : decode cX9_init 19 = .ok (.bipush 40, 2) := by decide +kernel
theorem dX9_init_21 : decode cX9_init 21 = .ok (.anewarray 19, 3) := by decide +kernel
theorem dX9_init_24 : decode cX9_init 24 = .ok (.putfield 21, 3) := by decide +kernel
theorem dX9_init_27 : decode cX9_init 27 = .ok (.aload_n 0, 1) := by decide +kernel
theorem dX9_init_28 : decode cX9_init 28 = .ok (.iconst 0, 1) := by decide +kernel
theorem dX9_init_29 : decode cX9_init 29 = .ok (.putfield 25, 3) := by decide +kernel
theorem dX9_init_32 : decode cX9_init 32 = .ok (.aload_n 0, 1) := by decide +kernel
theorem dX9_init_33 : decode cX9_init 33 = .ok (.bipush 8, 2) := by decide +kernel
theorem dX9_init_35 : decode cX9_init 35 = .ok (.anewarray 28, 3) := by decide +kernel
theorem dX9_init_38 : decode cX9_init 38 = .ok (.putfield 30, 3) := by decide +kernel
theorem dX9_init_41 : decode cX9_init 41 = .ok (.aload_n 0, 1) := by decide +kernel
theorem dX9_init_42 : decode cX9_init 42 = .ok (.iconst 0, 1) := by decide +kernel
theorem dX9_init_43 : decode cX9_init 43 = .ok (.putfield 34, 3) := by decide +kernel
theorem dX9_init_46 : decode cX9_init 46 = .ok (.aload_n 0, 1) := by decide +kernel
theorem dX9_init_47 : decode cX9_init 47 = .ok (.new 37, 3) := by decide +kernel
theorem dX9_init_50 : decode cX9_init 50 = .ok (.dup, 1) := by decide +kernel
theorem dX9_init_51 : decode cX9_init 51 = .ok (.invokespecial 39, 3) := by decide +kernel
theorem dX9_init_54 : decode cX9_init 54 = .ok (.putfield 40, 3) := by decide +kernel
theorem dX9_init_57 : decode cX9_init 57 = .ok (.aload_n 0, 1) := by decide +kernel
theorem dX9_init_58 : decode cX9_init 58 = .ok (.new 44, 3) := by decide +kernel
theorem dX9_init_61 : decode cX9_init 61 = .ok (.dup, 1) := by decide +kernel
theorem dX9_init_62 : decode cX9_init 62 = .ok (.invokespecial 46, 3) := by decide +kernel
theorem dX9_init_65 : decode cX9_init 65 = .ok (.putfield 47, 3) := by decide +kernel
theorem dX9_init_68 : decode cX9_init 68 = .ok (.aload_n 0, 1) := by decide +kernel
theorem dX9_init_69 : decode cX9_init 69 = .ok (.new 51, 3) := by decide +kernel
theorem dX9_init_72 : decode cX9_init 72 = .ok (.dup, 1) := by decide +kernel
theorem dX9_init_73 : decode cX9_init 73 = .ok (.invokespecial 53, 3) := by decide +kernel
theorem dX9_init_76 : decode cX9_init 76 = .ok (.putfield 54, 3) := by decide +kernel
theorem dX9_init_79 : decode cX9_init 79 = .ok (.return_, 1) := by decide +kernel
set_option maxHeartbeats 4000000 in
set_option maxRecDepth 100000 in
/-- isIn(set, k) -/
theorem m_isIn (l : Launch) (D : va_G) (cy : Nat → ClassId) (O : Nat × va_E → Prop) (a b : Int32) : Ci l yX9_isIn (.code yX9_isIn cX9_isIn 2 (some .boolean) :: WALL) ({ frames := 0, cells := 0, slots := 0, locals := 0 }) D cy O [.int a, .int b] [] 0 0 (fun (r : Int32) (w : va_W) => r = bI a b ∧ w = []) := by
  refine z_meti (by decide) rfl rfl (Nat.le_of_ble_eq_true rfl) ?_
  intro p e s m args below meth c X hr hin
  refine z_eq (ws' := []) (lv' := [(0, .int a), (1, .int b)]) (st' := []) rfl rfl rfl ?_
  refine z_iload_n X dX9_isIn_0 rfl (j := 0) rfl ?_
  refine z_iload_n X dX9_isIn_1 rfl (j := 1) rfl ?_
  refine z_ishr X (v := (a >>> (b &&& 31))) dX9_isIn_2 rfl ?_
  refine z_iconst X (v := 1) dX9_isIn_3 (by decide) ?_
  refine z_iand X (v := ((a >>> (b &&& 31)) &&& 1)) dX9_isIn_4 rfl ?_
  refine z_if_eq X (tgt := 12) dX9_isIn_5 (by decide) (fun c_5 => ?_) (fun c_5 => ?_)
  · skip
    refine z_iconst X (v := 0) dX9_isIn_12 (by decide) ?_
    exact z_endz X hr (by first | exact Or.inl rfl | exact Or.inr rfl) [] [] rfl rfl rfl ⟨(by unfold bI; rw [if_pos c_5]), rfl⟩ dX9_isIn_13
  · skip
    refine z_iconst X (v := 1) dX9_isIn_8 (by decide) ?_
    refine z_goto X (tgt := 13) dX9_isIn_9 (by decide) ?_
    exact z_endz X hr (by first | exact Or.inl rfl | exact Or.inr rfl) [] [] rfl rfl rfl ⟨(by unfold bI; rw [if_neg c_5]), rfl⟩ dX9_isIn_13
set_option maxHeartbeats 4000000 in
set_option maxRecDepth 100000 in
/-- isVariable(term) -/
theorem m_isVariable (l : Launch) (D : va_G) (cy : Nat → ClassId) (O : Nat × va_E → Prop) (a : Int32) : Ci l yX9_isVariable (.code yX9_isVariable cX9_isVariable 1 (some .boolean) :: WALL) ({ frames := 0, cells := 0, slots := 0, locals := 0 }) D cy O [.int a] [] 0 0 (fun (r : Int32) (w : va_W) => r = vI a ∧ w = []) := by
  refine z_meti (by decide) rfl rfl (Nat.le_of_ble_eq_true rfl) ?_
  intro p e s m args below meth c X hr hin
  refine z_eq (ws' := []) (lv' := [(0, .int a)]) (st' := []) rfl rfl rfl ?_
  refine z_iload_n X dX9_isVariable_0 rfl (j := 0) rfl ?_
  refine z_if_lt X (tgt := 14) dX9_isVariable_1 (by decide) (fun c_1 => ?_) (fun c_1 => ?_)
  · skip
    refine z_iconst X (v := 0) dX9_isVariable_14 (by decide) ?_
    exact z_endz X hr (by first | exact Or.inl rfl | exact Or.inr rfl) [] [] rfl rfl rfl ⟨(by simp_all [vI]), rfl⟩ dX9_isVariable_15
  · skip
    refine z_iload_n X dX9_isVariable_4 rfl (j := 0) rfl ?_
    refine z_bipush X (v := 6) dX9_isVariable_5 (by decide) ?_
    refine z_icmp_ge X (tgt := 14) dX9_isVariable_7 (by decide) (fun c_7 => ?_) (fun c_7 => ?_)
    · skip
      refine z_iconst X (v := 0) dX9_isVariable_14 (by decide) ?_
      exact z_endz X hr (by first | exact Or.inl rfl | exact Or.inr rfl) [] [] rfl rfl rfl ⟨(by simp_all [vI]), rfl⟩ dX9_isVariable_15
    · skip
      refine z_iconst X (v := 1) dX9_isVariable_10 (by decide) ?_
      refine z_goto X (tgt := 15) dX9_isVariable_11 (by decide) ?_
      exact z_endz X hr (by first | exact Or.inl rfl | exact Or.inr rfl) [] [] rfl rfl rfl ⟨(by simp_all [vI]), rfl⟩ dX9_isVariable_15
set_option maxHeartbeats 4000000 in
set_option maxRecDepth 100000 in
/-- isValue(value) -/
theorem m_isValue (l : Launch) (D : va_G) (cy : Nat → ClassId) (O : Nat × va_E → Prop) (a : Int32) : Ci l yX9_isValue (.code yX9_isValue cX9_isValue 1 (some .boolean) :: WALL) ({ frames := 0, cells := 0, slots := 0, locals := 0 }) D cy O [.int a] [] 0 0 (fun (r : Int32) (w : va_W) => r = eI a ∧ w = []) := by
  refine z_meti (by decide) rfl rfl (Nat.le_of_ble_eq_true rfl) ?_
  intro p e s m args below meth c X hr hin
  refine z_eq (ws' := []) (lv' := [(0, .int a)]) (st' := []) rfl rfl rfl ?_
  refine z_iload_n X dX9_isValue_0 rfl (j := 0) rfl ?_
  refine z_if_lt X (tgt := 14) dX9_isValue_1 (by decide) (fun c_1 => ?_) (fun c_1 => ?_)
  · skip
    refine z_iconst X (v := 0) dX9_isValue_14 (by decide) ?_
    exact z_endz X hr (by first | exact Or.inl rfl | exact Or.inr rfl) [] [] rfl rfl rfl ⟨(by simp_all [eI]), rfl⟩ dX9_isValue_15
  · skip
    refine z_iload_n X dX9_isValue_4 rfl (j := 0) rfl ?_
    refine z_bipush X (v := 8) dX9_isValue_5 (by decide) ?_
    refine z_icmp_ge X (tgt := 14) dX9_isValue_7 (by decide) (fun c_7 => ?_) (fun c_7 => ?_)
    · skip
      refine z_iconst X (v := 0) dX9_isValue_14 (by decide) ?_
      exact z_endz X hr (by first | exact Or.inl rfl | exact Or.inr rfl) [] [] rfl rfl rfl ⟨(by simp_all [eI]), rfl⟩ dX9_isValue_15
    · skip
      refine z_iconst X (v := 1) dX9_isValue_10 (by decide) ?_
      refine z_goto X (tgt := 15) dX9_isValue_11 (by decide) ?_
      exact z_endz X hr (by first | exact Or.inl rfl | exact Or.inr rfl) [] [] rfl rfl rfl ⟨(by simp_all [eI]), rfl⟩ dX9_isValue_15
set_option maxHeartbeats 4000000 in
set_option maxRecDepth 100000 in
/-- RowSet(): 512 places -/
theorem m_RowSet (l : Launch) (D : va_G) (cy : Nat → ClassId) (O : Nat × va_E → Prop) (h0 : Nat) : Cv l yX5_init (.code yX5_init cX5_init 1 none :: WALL) ({ frames := 1, cells := 1, slots := 512, locals := 13 }) D cy O [.ref h0] [(h0, .inr (5, [.null, .int 0]))] 1 512 (fun (w : va_W) => w = []) := by
  refine z_metv (by decide) rfl rfl (Nat.le_of_ble_eq_true rfl) ?_
  intro p e s m args below meth c X hr hin
  refine z_eq (ws' := [(h0, .inr (5, [.null, .int 0]))]) (lv' := [(0, .ref h0)]) (st' := []) rfl rfl rfl ?_
  refine z_aload_n X dX5_init_0 rfl (j := 0) rfl ?_
  refine z_objInit X ml_X5_3 im_obj cd_obj (Nat.le_of_ble_eq_true rfl) (Nat.le_of_ble_eq_true rfl) dX5_init_1 ?_
  refine z_aload_n X dX5_init_4 rfl (j := 0) rfl ?_
  refine z_sipush X (v := 512) dX5_init_5 (by decide) ?_
  refine z_newaZ X (N := 512) ac_boolean (by decide) (by decide) (Nat.le_of_ble_eq_true rfl) (Nat.le_of_ble_eq_true rfl) (Nat.le_of_ble_eq_true rfl) dX5_init_8 (fun q1 => ?_)
  refine z_eq (ws' := [(h0, .inr (5, [.null, .int 0])), (q1, .inl (cy 1, 512, .inl (fun _ => 0)))]) (lv' := [(0, .ref h0)]) (st' := [.ref q1, .ref h0]) rfl rfl rfl ?_
  refine z_widen (k' := 1) (n' := 512) (Nat.le_of_ble_eq_true rfl) (Nat.le_of_ble_eq_true rfl) ?_
  refine z_putF X 0 (C := RX5) (T := TX5) (N := 2) inX5 tyX5 tyX5_ok nmX5 rfl rfl 0 (by decide) fl_X5_9 (fun _ h9 => h9) rfl hin rfl (ty := (.array .boolean)) (by decide +kernel) rfl rfl (Nat.le_of_ble_eq_true rfl) (ws' := [(h0, .inr (5, [.ref q1, .int 0])), (q1, .inl (cy 1, 512, .inl (fun _ => 0)))]) rfl dX5_init_10 ?_
  refine z_aload_n X dX5_init_13 rfl (j := 0) rfl ?_
  refine z_iconst X (v := 0) dX5_init_14 (by decide) ?_
  refine z_putW X 0 (C := RX5) (T := TX5) (N := 2) inX5 tyX5 tyX5_ok nmX5 rfl rfl 1 (by decide) fl_X5_15 (fun _ h9 => h9) rfl (ty := .int) (by decide +kernel) rfl rfl (Nat.le_of_ble_eq_true rfl) (ws' := [(h0, .inr (5, [.ref q1, .int 0])), (q1, .inl (cy 1, 512, .inl (fun _ => 0)))]) rfl dX5_init_15 ?_
  exact z_endv X hr [] [] rfl rfl rfl rfl dX5_init_18
set_option maxHeartbeats 4000000 in
set_option maxRecDepth 100000 in
/-- MapSearch() -/
theorem m_MapSearch (l : Launch) (D : va_G) (cy : Nat → ClassId) (O : Nat × va_E → Prop) (h0 : Nat) : Cv l yX3_init (.code yX3_init cX3_init 1 none :: WALL) ({ frames := 1, cells := 1, slots := 6, locals := 13 }) D cy O [.ref h0] [(h0, .inr (3, [.null, .int 0, .null, .int 0, .null, .int 0]))] 1 6 (fun (w : va_W) => w = []) := by
  refine z_metv (by decide) rfl rfl (Nat.le_of_ble_eq_true rfl) ?_
  intro p e s m args below meth c X hr hin
  refine z_eq (ws' := [(h0, .inr (3, [.null, .int 0, .null, .int 0, .null, .int 0]))]) (lv' := [(0, .ref h0)]) (st' := []) rfl rfl rfl ?_
  refine z_aload_n X dX3_init_0 rfl (j := 0) rfl ?_
  refine z_objInit X ml_X3_3 im_obj cd_obj (Nat.le_of_ble_eq_true rfl) (Nat.le_of_ble_eq_true rfl) dX3_init_1 ?_
  refine z_aload_n X dX3_init_4 rfl (j := 0) rfl ?_
  refine z_bipush X (v := 6) dX3_init_5 (by decide) ?_
  refine z_newaI X (N := 6) ac_int (by decide) (by decide) (Nat.le_of_ble_eq_true rfl) (Nat.le_of_ble_eq_true rfl) (Nat.le_of_ble_eq_true rfl) dX3_init_7 (fun q1 => ?_)
  refine z_eq (ws' := [(h0, .inr (3, [.null, .int 0, .null, .int 0, .null, .int 0])), (q1, .inl (cy 0, 6, .inl (fun _ => 0)))]) (lv' := [(0, .ref h0)]) (st' := [.ref q1, .ref h0]) rfl rfl rfl ?_
  refine z_widen (k' := 1) (n' := 6) (Nat.le_of_ble_eq_true rfl) (Nat.le_of_ble_eq_true rfl) ?_
  refine z_putF X 0 (C := RX3) (T := TX3) (N := 6) inX3 tyX3 tyX3_ok nmX3 rfl rfl 0 (by decide) fl_X3_9 (fun _ h9 => h9) rfl hin rfl (ty := (.array .int)) (by decide +kernel) rfl rfl (Nat.le_of_ble_eq_true rfl) (ws' := [(h0, .inr (3, [.ref q1, .int 0, .null, .int 0, .null, .int 0])), (q1, .inl (cy 0, 6, .inl (fun _ => 0)))]) rfl dX3_init_9 ?_
  refine z_aload_n X dX3_init_12 rfl (j := 0) rfl ?_
  refine z_iconst X (v := 0) dX3_init_13 (by decide) ?_
  refine z_putW X 0 (C := RX3) (T := TX3) (N := 6) inX3 tyX3 tyX3_ok nmX3 rfl rfl 1 (by decide) fl_X3_15 (fun _ h9 => h9) rfl (ty := .int) (by decide +kernel) rfl rfl (Nat.le_of_ble_eq_true rfl) (ws' := [(h0, .inr (3, [.ref q1, .int 0, .null, .int 0, .null, .int 0])), (q1, .inl (cy 0, 6, .inl (fun _ => 0)))]) rfl dX3_init_14 ?_
  refine z_aload_n X dX3_init_17 rfl (j := 0) rfl ?_
  refine z_null X dX3_init_18 ?_
  refine z_putW X 0 (C := RX3) (T := TX3) (N := 6) inX3 tyX3 tyX3_ok nmX3 rfl rfl 2 (by decide) fl_X3_19 (fun _ h9 => h9) rfl (ty := (.object "Thimble$Rule")) (by decide +kernel) rfl rfl (Nat.le_of_ble_eq_true rfl) (ws' := [(h0, .inr (3, [.ref q1, .int 0, .null, .int 0, .null, .int 0])), (q1, .inl (cy 0, 6, .inl (fun _ => 0)))]) rfl dX3_init_19 ?_
  refine z_aload_n X dX3_init_22 rfl (j := 0) rfl ?_
  refine z_iconst X (v := 0) dX3_init_23 (by decide) ?_
  refine z_putW X 0 (C := RX3) (T := TX3) (N := 6) inX3 tyX3 tyX3_ok nmX3 rfl rfl 3 (by decide) fl_X3_23 (fun _ h9 => h9) rfl (ty := .int) (by decide +kernel) rfl rfl (Nat.le_of_ble_eq_true rfl) (ws' := [(h0, .inr (3, [.ref q1, .int 0, .null, .int 0, .null, .int 0])), (q1, .inl (cy 0, 6, .inl (fun _ => 0)))]) rfl dX3_init_24 ?_
  refine z_aload_n X dX3_init_27 rfl (j := 0) rfl ?_
  refine z_null X dX3_init_28 ?_
  refine z_putW X 0 (C := RX3) (T := TX3) (N := 6) inX3 tyX3 tyX3_ok nmX3 rfl rfl 4 (by decide) fl_X3_26 (fun _ h9 => h9) rfl (ty := (.object "Thimble$Rule")) (by decide +kernel) rfl rfl (Nat.le_of_ble_eq_true rfl) (ws' := [(h0, .inr (3, [.ref q1, .int 0, .null, .int 0, .null, .int 0])), (q1, .inl (cy 0, 6, .inl (fun _ => 0)))]) rfl dX3_init_29 ?_
  refine z_aload_n X dX3_init_32 rfl (j := 0) rfl ?_
  refine z_iconst X (v := 0) dX3_init_33 (by decide) ?_
  refine z_putW X 0 (C := RX3) (T := TX3) (N := 6) inX3 tyX3 tyX3_ok nmX3 rfl rfl 5 (by decide) fl_X3_29 (fun _ h9 => h9) rfl (ty := .int) (by decide +kernel) rfl rfl (Nat.le_of_ble_eq_true rfl) (ws' := [(h0, .inr (3, [.ref q1, .int 0, .null, .int 0, .null, .int 0])), (q1, .inl (cy 0, 6, .inl (fun _ => 0)))]) rfl dX3_init_34 ?_
  exact z_endv X hr [] [] rfl rfl rfl rfl dX3_init_37
set_option maxHeartbeats 4000000 in
set_option maxRecDepth 100000 in
/-- Lanes() -/
theorem m_Lanes (l : Launch) (D : va_G) (cy : Nat → ClassId) (O : Nat × va_E → Prop) (h0 : Nat) : Cv l yX2_init (.code yX2_init cX2_init 1 none :: WALL) ({ frames := 2, cells := 3, slots := 520, locals := 33 }) D cy O [.ref h0] [(h0, .inr (2, [.null, .null, .int 0]))] 3 520 (fun (w : va_W) => w = []) := by
  refine z_metv (by decide) rfl rfl (Nat.le_of_ble_eq_true rfl) ?_
  intro p e s m args below meth c X hr hin
  refine z_eq (ws' := [(h0, .inr (2, [.null, .null, .int 0]))]) (lv' := [(0, .ref h0)]) (st' := []) rfl rfl rfl ?_
  refine z_aload_n X dX2_init_0 rfl (j := 0) rfl ?_
  refine z_objInit X ml_X2_3 im_obj cd_obj (Nat.le_of_ble_eq_true rfl) (Nat.le_of_ble_eq_true rfl) dX2_init_1 ?_
  refine z_aload_n X dX2_init_4 rfl (j := 0) rfl ?_
  refine z_new X (ci := 5) (fs := [.null, .int 0]) (C := RX5) (T := TX5) (N := 2) inX5 tyX5 tyX5_ok cl_X2_9 it_X5 ni_X5 rfl (fun j hj => by rcases (show j = 0 ∨ j = 1 by omega) with rfl | rfl <;> rfl) (Nat.le_of_ble_eq_true rfl) (Nat.le_of_ble_eq_true rfl) dX2_init_5 (fun q1 => ?_)
  refine z_eq (ws' := [(h0, .inr (2, [.null, .null, .int 0])), (q1, .inr (5, [.null, .int 0]))]) (lv' := [(0, .ref h0)]) (st' := [.ref q1, .ref h0]) rfl rfl rfl ?_
  refine z_widen (k' := 1) (n' := 2) (Nat.le_of_ble_eq_true rfl) (Nat.le_of_ble_eq_true rfl) ?_
  refine z_dup X dX2_init_8 rfl ?_
  refine z_retv X (as := [.ref q1]) (wc := [(q1, .inr (5, [.null, .int 0]))]) (wr := [(h0, .inr (2, [.null, .null, .int 0]))]) (rest := [.ref q1, .ref h0]) (fun H9 locs9 ls9 hP9 hS9 hl9 hb9 hp9 => va_runIN (As := []) (rest := [.ref q1, .ref h0]) X.fix (m_RowSet l D cy O q1 H9.size) ⟨va_cnB 0 X.hts (gB cd_X5_init) rfl rfl rfl (X.nw.1 _ (List.mem_of_getElem? (i := 1) rfl)) (X.hts _ ni_X5) (by decide +kernel) ⟨Nat.le_of_ble_eq_true rfl, Nat.le_of_ble_eq_true rfl⟩, rfl, X.hts _ im_X5_init⟩ ⟨hb9, hp9⟩ rfl rfl hl9.1 rfl (lv_room (Nat.le_of_ble_eq_true rfl)) dX2_init_9 ⟨Nat.le_of_ble_eq_true rfl, Nat.le_of_ble_eq_true rfl⟩) [1] [0] rfl rfl rfl rfl rfl (by decide) (fun _ h => Or.inl h) (fun w3 h4 => ?_)
  subst h4
  refine z_eq (ws' := [(h0, .inr (2, [.null, .null, .int 0]))]) (lv' := [(0, .ref h0)]) (st' := [.ref q1, .ref h0]) rfl rfl rfl ?_
  refine z_widen (k' := 2) (n' := 514) (Nat.le_of_ble_eq_true rfl) (Nat.le_of_ble_eq_true rfl) ?_
  refine z_putF X 0 (C := RX2) (T := TX2) (N := 3) inX2 tyX2 tyX2_ok nmX2 rfl rfl 0 (by decide) fl_X2_12 (fun _ h9 => h9) rfl hin rfl (ty := (.object "Thimble$RowSet")) (by decide +kernel) rfl rfl (Nat.le_of_ble_eq_true rfl) (ws' := [(h0, .inr (2, [.ref q1, .null, .int 0]))]) rfl dX2_init_12 ?_
  refine z_aload_n X dX2_init_15 rfl (j := 0) rfl ?_
  refine z_bipush X (v := 6) dX2_init_16 (by decide) ?_
  refine z_newaI X (N := 6) ac_int (by decide) (by decide) (Nat.le_of_ble_eq_true rfl) (Nat.le_of_ble_eq_true rfl) (Nat.le_of_ble_eq_true rfl) dX2_init_18 (fun q5 => ?_)
  refine z_eq (ws' := [(h0, .inr (2, [.ref q1, .null, .int 0])), (q5, .inl (cy 0, 6, .inl (fun _ => 0)))]) (lv' := [(0, .ref h0)]) (st' := [.ref q5, .ref h0]) rfl rfl rfl ?_
  refine z_widen (k' := 3) (n' := 520) (Nat.le_of_ble_eq_true rfl) (Nat.le_of_ble_eq_true rfl) ?_
  refine z_dup X dX2_init_20 rfl ?_
  refine z_iconst X (v := 0) dX2_init_21 (by decide) ?_
  refine z_iconst X (v := (-1)) dX2_init_22 (by decide) ?_
  refine z_iastW X 1 rfl (by unfold vp_in; decide) (ws' := [(h0, .inr (2, [.ref q1, .null, .int 0])), (q5, .inl (cy 0, 6, .inl (upd (fun _ => 0) (0 : Int32).toNatClampNeg (-1))))]) rfl dX2_init_23 ?_
  refine z_dup X dX2_init_24 rfl ?_
  refine z_iconst X (v := 1) dX2_init_25 (by decide) ?_
  refine z_iconst X (v := (-1)) dX2_init_26 (by decide) ?_
  refine z_iastW X 1 rfl (by unfold vp_in; decide) (ws' := [(h0, .inr (2, [.ref q1, .null, .int 0])), (q5, .inl (cy 0, 6, .inl (upd (upd (fun _ => 0) (0 : Int32).toNatClampNeg (-1)) (1 : Int32).toNatClampNeg (-1))))]) rfl dX2_init_27 ?_
  refine z_dup X dX2_init_28 rfl ?_
  refine z_iconst X (v := 2) dX2_init_29 (by decide) ?_
  refine z_iconst X (v := 0) dX2_init_30 (by decide) ?_
  refine z_iastW X 1 rfl (by unfold vp_in; decide) (ws' := [(h0, .inr (2, [.ref q1, .null, .int 0])), (q5, .inl (cy 0, 6, .inl (upd (upd (upd (fun _ => 0) (0 : Int32).toNatClampNeg (-1)) (1 : Int32).toNatClampNeg (-1)) (2 : Int32).toNatClampNeg 0)))]) rfl dX2_init_31 ?_
  refine z_dup X dX2_init_32 rfl ?_
  refine z_iconst X (v := 3) dX2_init_33 (by decide) ?_
  refine z_iconst X (v := 0) dX2_init_34 (by decide) ?_
  refine z_iastW X 1 rfl (by unfold vp_in; decide) (ws' := [(h0, .inr (2, [.ref q1, .null, .int 0])), (q5, .inl (cy 0, 6, .inl (upd (upd (upd (upd (fun _ => 0) (0 : Int32).toNatClampNeg (-1)) (1 : Int32).toNatClampNeg (-1)) (2 : Int32).toNatClampNeg 0) (3 : Int32).toNatClampNeg 0)))]) rfl dX2_init_35 ?_
  refine z_dup X dX2_init_36 rfl ?_
  refine z_iconst X (v := 4) dX2_init_37 (by decide) ?_
  refine z_iconst X (v := 0) dX2_init_38 (by decide) ?_
  refine z_iastW X 1 rfl (by unfold vp_in; decide) (ws' := [(h0, .inr (2, [.ref q1, .null, .int 0])), (q5, .inl (cy 0, 6, .inl (upd (upd (upd (upd (upd (fun _ => 0) (0 : Int32).toNatClampNeg (-1)) (1 : Int32).toNatClampNeg (-1)) (2 : Int32).toNatClampNeg 0) (3 : Int32).toNatClampNeg 0) (4 : Int32).toNatClampNeg 0)))]) rfl dX2_init_39 ?_
  refine z_dup X dX2_init_40 rfl ?_
  refine z_iconst X (v := 5) dX2_init_41 (by decide) ?_
  refine z_iconst X (v := 0) dX2_init_42 (by decide) ?_
  refine z_iastW X 1 rfl (by unfold vp_in; decide) (ws' := [(h0, .inr (2, [.ref q1, .null, .int 0])), (q5, .inl (cy 0, 6, .inl (upd (upd (upd (upd (upd (upd (fun _ => 0) (0 : Int32).toNatClampNeg (-1)) (1 : Int32).toNatClampNeg (-1)) (2 : Int32).toNatClampNeg 0) (3 : Int32).toNatClampNeg 0) (4 : Int32).toNatClampNeg 0) (5 : Int32).toNatClampNeg 0)))]) rfl dX2_init_43 ?_
  refine z_putF X 0 (C := RX2) (T := TX2) (N := 3) inX2 tyX2 tyX2_ok nmX2 rfl rfl 1 (by decide) fl_X2_18 (fun _ h9 => h9) rfl hin rfl (ty := (.array .int)) (by decide +kernel) rfl rfl (Nat.le_of_ble_eq_true rfl) (ws' := [(h0, .inr (2, [.ref q1, .ref q5, .int 0])), (q5, .inl (cy 0, 6, .inl (upd (upd (upd (upd (upd (upd (fun _ => 0) (0 : Int32).toNatClampNeg (-1)) (1 : Int32).toNatClampNeg (-1)) (2 : Int32).toNatClampNeg 0) (3 : Int32).toNatClampNeg 0) (4 : Int32).toNatClampNeg 0) (5 : Int32).toNatClampNeg 0)))]) rfl dX2_init_44 ?_
  refine z_aload_n X dX2_init_47 rfl (j := 0) rfl ?_
  refine z_iconst X (v := 0) dX2_init_48 (by decide) ?_
  refine z_putW X 0 (C := RX2) (T := TX2) (N := 3) inX2 tyX2 tyX2_ok nmX2 rfl rfl 2 (by decide) fl_X2_22 (fun _ h9 => h9) rfl (ty := .int) (by decide +kernel) rfl rfl (Nat.le_of_ble_eq_true rfl) (ws' := [(h0, .inr (2, [.ref q1, .ref q5, .int 0])), (q5, .inl (cy 0, 6, .inl (upd (upd (upd (upd (upd (upd (fun _ => 0) (0 : Int32).toNatClampNeg (-1)) (1 : Int32).toNatClampNeg (-1)) (2 : Int32).toNatClampNeg 0) (3 : Int32).toNatClampNeg 0) (4 : Int32).toNatClampNeg 0) (5 : Int32).toNatClampNeg 0)))]) rfl dX2_init_49 ?_
  exact z_endv X hr [] [] rfl rfl rfl rfl dX2_init_52
set_option maxHeartbeats 4000000 in
set_option maxRecDepth 100000 in
/-- Walk() -/
theorem m_Walk (l : Launch) (D : va_G) (cy : Nat → ClassId) (O : Nat × va_E → Prop) (h0 : Nat) : Cv l yX8_init (.code yX8_init cX8_init 1 none :: WALL) ({ frames := 2, cells := 5, slots := 530, locals := 33 }) D cy O [.ref h0] [(h0, .inr (8, [.null, .null, .null, .null, .null, .int 0, .int 0]))] 5 530 (fun (w : va_W) => w = []) := by
  refine z_metv (by decide) rfl rfl (Nat.le_of_ble_eq_true rfl) ?_
  intro p e s m args below meth c X hr hin
  refine z_eq (ws' := [(h0, .inr (8, [.null, .null, .null, .null, .null, .int 0, .int 0]))]) (lv' := [(0, .ref h0)]) (st' := []) rfl rfl rfl ?_
  refine z_aload_n X dX8_init_0 rfl (j := 0) rfl ?_
  refine z_objInit X ml_X8_3 im_obj cd_obj (Nat.le_of_ble_eq_true rfl) (Nat.le_of_ble_eq_true rfl) dX8_init_1 ?_
  refine z_aload_n X dX8_init_4 rfl (j := 0) rfl ?_
  refine z_iconst X (v := 5) dX8_init_5 (by decide) ?_
  refine z_newaI X (N := 5) ac_int (by decide) (by decide) (Nat.le_of_ble_eq_true rfl) (Nat.le_of_ble_eq_true rfl) (Nat.le_of_ble_eq_true rfl) dX8_init_6 (fun q1 => ?_)
  refine z_eq (ws' := [(h0, .inr (8, [.null, .null, .null, .null, .null, .int 0, .int 0])), (q1, .inl (cy 0, 5, .inl (fun _ => 0)))]) (lv' := [(0, .ref h0)]) (st' := [.ref q1, .ref h0]) rfl rfl rfl ?_
  refine z_widen (k' := 1) (n' := 5) (Nat.le_of_ble_eq_true rfl) (Nat.le_of_ble_eq_true rfl) ?_
  refine z_putF X 0 (C := RX8) (T := TX8) (N := 7) inX8 tyX8 tyX8_ok nmX8 rfl rfl 0 (by decide) fl_X8_9 (fun _ h9 => h9) rfl hin rfl (ty := (.array .int)) (by decide +kernel) rfl rfl (Nat.le_of_ble_eq_true rfl) (ws' := [(h0, .inr (8, [.ref q1, .null, .null, .null, .null, .int 0, .int 0])), (q1, .inl (cy 0, 5, .inl (fun _ => 0)))]) rfl dX8_init_8 ?_
  refine z_aload_n X dX8_init_11 rfl (j := 0) rfl ?_
  refine z_iconst X (v := 5) dX8_init_12 (by decide) ?_
  refine z_newaI X (N := 5) ac_int (by decide) (by decide) (Nat.le_of_ble_eq_true rfl) (Nat.le_of_ble_eq_true rfl) (Nat.le_of_ble_eq_true rfl) dX8_init_13 (fun q2 => ?_)
  refine z_eq (ws' := [(h0, .inr (8, [.ref q1, .null, .null, .null, .null, .int 0, .int 0])), (q1, .inl (cy 0, 5, .inl (fun _ => 0))), (q2, .inl (cy 0, 5, .inl (fun _ => 0)))]) (lv' := [(0, .ref h0)]) (st' := [.ref q2, .ref h0]) rfl rfl rfl ?_
  refine z_widen (k' := 2) (n' := 10) (Nat.le_of_ble_eq_true rfl) (Nat.le_of_ble_eq_true rfl) ?_
  refine z_putF X 0 (C := RX8) (T := TX8) (N := 7) inX8 tyX8 tyX8_ok nmX8 rfl rfl 1 (by decide) fl_X8_15 (fun _ h9 => h9) rfl hin rfl (ty := (.array .int)) (by decide +kernel) rfl rfl (Nat.le_of_ble_eq_true rfl) (ws' := [(h0, .inr (8, [.ref q1, .ref q2, .null, .null, .null, .int 0, .int 0])), (q1, .inl (cy 0, 5, .inl (fun _ => 0))), (q2, .inl (cy 0, 5, .inl (fun _ => 0)))]) rfl dX8_init_15 ?_
  refine z_aload_n X dX8_init_18 rfl (j := 0) rfl ?_
  refine z_new X (ci := 5) (fs := [.null, .int 0]) (C := RX5) (T := TX5) (N := 2) inX5 tyX5 tyX5_ok cl_X8_18 it_X5 ni_X5 rfl (fun j hj => by rcases (show j = 0 ∨ j = 1 by omega) with rfl | rfl <;> rfl) (Nat.le_of_ble_eq_true rfl) (Nat.le_of_ble_eq_true rfl) dX8_init_19 (fun q3 => ?_)
  refine z_eq (ws' := [(h0, .inr (8, [.ref q1, .ref q2, .null, .null, .null, .int 0, .int 0])), (q1, .inl (cy 0, 5, .inl (fun _ => 0))), (q2, .inl (cy 0, 5, .inl (fun _ => 0))), (q3, .inr (5, [.null, .int 0]))]) (lv' := [(0, .ref h0)]) (st' := [.ref q3, .ref h0]) rfl rfl rfl ?_
  refine z_widen (k' := 3) (n' := 12) (Nat.le_of_ble_eq_true rfl) (Nat.le_of_ble_eq_true rfl) ?_
  refine z_dup X dX8_init_22 rfl ?_
  refine z_retv X (as := [.ref q3]) (wc := [(q3, .inr (5, [.null, .int 0]))]) (wr := [(h0, .inr (8, [.ref q1, .ref q2, .null, .null, .null, .int 0, .int 0])), (q1, .inl (cy 0, 5, .inl (fun _ => 0))), (q2, .inl (cy 0, 5, .inl (fun _ => 0)))]) (rest := [.ref q3, .ref h0]) (fun H9 locs9 ls9 hP9 hS9 hl9 hb9 hp9 => va_runIN (As := []) (rest := [.ref q3, .ref h0]) X.fix (m_RowSet l D cy O q3 H9.size) ⟨va_cnB 0 X.hts (gB cd_X5_init) rfl rfl rfl (X.nw.1 _ (List.mem_of_getElem? (i := 3) rfl)) (X.hts _ ni_X5) (by decide +kernel) ⟨Nat.le_of_ble_eq_true rfl, Nat.le_of_ble_eq_true rfl⟩, rfl, X.hts _ im_X5_init⟩ ⟨hb9, hp9⟩ rfl rfl hl9.1 rfl (lv_room (Nat.le_of_ble_eq_true rfl)) dX8_init_23 ⟨Nat.le_of_ble_eq_true rfl, Nat.le_of_ble_eq_true rfl⟩) [3] [0, 1, 2] rfl rfl rfl rfl rfl (by decide) (fun _ h => Or.inl h) (fun w5 h6 => ?_)
  subst h6
  refine z_eq (ws' := [(h0, .inr (8, [.ref q1, .ref q2, .null, .null, .null, .int 0, .int 0])), (q1, .inl (cy 0, 5, .inl (fun _ => 0))), (q2, .inl (cy 0, 5, .inl (fun _ => 0)))]) (lv' := [(0, .ref h0)]) (st' := [.ref q3, .ref h0]) rfl rfl rfl ?_
  refine z_widen (k' := 4) (n' := 524) (Nat.le_of_ble_eq_true rfl) (Nat.le_of_ble_eq_true rfl) ?_
  refine z_putF X 0 (C := RX8) (T := TX8) (N := 7) inX8 tyX8 tyX8_ok nmX8 rfl rfl 2 (by decide) fl_X8_21 (fun _ h9 => h9) rfl hin rfl (ty := (.object "Thimble$RowSet")) (by decide +kernel) rfl rfl (Nat.le_of_ble_eq_true rfl) (ws' := [(h0, .inr (8, [.ref q1, .ref q2, .ref q3, .null, .null, .int 0, .int 0])), (q1, .inl (cy 0, 5, .inl (fun _ => 0))), (q2, .inl (cy 0, 5, .inl (fun _ => 0)))]) rfl dX8_init_26 ?_
  refine z_aload_n X dX8_init_29 rfl (j := 0) rfl ?_
  refine z_bipush X (v := 6) dX8_init_30 (by decide) ?_
  refine z_newaI X (N := 6) ac_int (by decide) (by decide) (Nat.le_of_ble_eq_true rfl) (Nat.le_of_ble_eq_true rfl) (Nat.le_of_ble_eq_true rfl) dX8_init_32 (fun q7 => ?_)
  refine z_eq (ws' := [(h0, .inr (8, [.ref q1, .ref q2, .ref q3, .null, .null, .int 0, .int 0])), (q1, .inl (cy 0, 5, .inl (fun _ => 0))), (q2, .inl (cy 0, 5, .inl (fun _ => 0))), (q7, .inl (cy 0, 6, .inl (fun _ => 0)))]) (lv' := [(0, .ref h0)]) (st' := [.ref q7, .ref h0]) rfl rfl rfl ?_
  refine z_widen (k' := 5) (n' := 530) (Nat.le_of_ble_eq_true rfl) (Nat.le_of_ble_eq_true rfl) ?_
  refine z_dup X dX8_init_34 rfl ?_
  refine z_iconst X (v := 0) dX8_init_35 (by decide) ?_
  refine z_iconst X (v := (-1)) dX8_init_36 (by decide) ?_
  refine z_iastW X 3 rfl (by unfold vp_in; decide) (ws' := [(h0, .inr (8, [.ref q1, .ref q2, .ref q3, .null, .null, .int 0, .int 0])), (q1, .inl (cy 0, 5, .inl (fun _ => 0))), (q2, .inl (cy 0, 5, .inl (fun _ => 0))), (q7, .inl (cy 0, 6, .inl (upd (fun _ => 0) (0 : Int32).toNatClampNeg (-1))))]) rfl dX8_init_37 ?_
  refine z_dup X dX8_init_38 rfl ?_
  refine z_iconst X (v := 1) dX8_init_39 (by decide) ?_
  refine z_iconst X (v := (-1)) dX8_init_40 (by decide) ?_
  refine z_iastW X 3 rfl (by unfold vp_in; decide) (ws' := [(h0, .inr (8, [.ref q1, .ref q2, .ref q3, .null, .null, .int 0, .int 0])), (q1, .inl (cy 0, 5, .inl (fun _ => 0))), (q2, .inl (cy 0, 5, .inl (fun _ => 0))), (q7, .inl (cy 0, 6, .inl (upd (upd (fun _ => 0) (0 : Int32).toNatClampNeg (-1)) (1 : Int32).toNatClampNeg (-1))))]) rfl dX8_init_41 ?_
  refine z_dup X dX8_init_42 rfl ?_
  refine z_iconst X (v := 2) dX8_init_43 (by decide) ?_
  refine z_iconst X (v := (-1)) dX8_init_44 (by decide) ?_
  refine z_iastW X 3 rfl (by unfold vp_in; decide) (ws' := [(h0, .inr (8, [.ref q1, .ref q2, .ref q3, .null, .null, .int 0, .int 0])), (q1, .inl (cy 0, 5, .inl (fun _ => 0))), (q2, .inl (cy 0, 5, .inl (fun _ => 0))), (q7, .inl (cy 0, 6, .inl (upd (upd (upd (fun _ => 0) (0 : Int32).toNatClampNeg (-1)) (1 : Int32).toNatClampNeg (-1)) (2 : Int32).toNatClampNeg (-1))))]) rfl dX8_init_45 ?_
  refine z_dup X dX8_init_46 rfl ?_
  refine z_iconst X (v := 3) dX8_init_47 (by decide) ?_
  refine z_iconst X (v := (-1)) dX8_init_48 (by decide) ?_
  refine z_iastW X 3 rfl (by unfold vp_in; decide) (ws' := [(h0, .inr (8, [.ref q1, .ref q2, .ref q3, .null, .null, .int 0, .int 0])), (q1, .inl (cy 0, 5, .inl (fun _ => 0))), (q2, .inl (cy 0, 5, .inl (fun _ => 0))), (q7, .inl (cy 0, 6, .inl (upd (upd (upd (upd (fun _ => 0) (0 : Int32).toNatClampNeg (-1)) (1 : Int32).toNatClampNeg (-1)) (2 : Int32).toNatClampNeg (-1)) (3 : Int32).toNatClampNeg (-1))))]) rfl dX8_init_49 ?_
  refine z_dup X dX8_init_50 rfl ?_
  refine z_iconst X (v := 4) dX8_init_51 (by decide) ?_
  refine z_iconst X (v := (-1)) dX8_init_52 (by decide) ?_
  refine z_iastW X 3 rfl (by unfold vp_in; decide) (ws' := [(h0, .inr (8, [.ref q1, .ref q2, .ref q3, .null, .null, .int 0, .int 0])), (q1, .inl (cy 0, 5, .inl (fun _ => 0))), (q2, .inl (cy 0, 5, .inl (fun _ => 0))), (q7, .inl (cy 0, 6, .inl (upd (upd (upd (upd (upd (fun _ => 0) (0 : Int32).toNatClampNeg (-1)) (1 : Int32).toNatClampNeg (-1)) (2 : Int32).toNatClampNeg (-1)) (3 : Int32).toNatClampNeg (-1)) (4 : Int32).toNatClampNeg (-1))))]) rfl dX8_init_53 ?_
  refine z_dup X dX8_init_54 rfl ?_
  refine z_iconst X (v := 5) dX8_init_55 (by decide) ?_
  refine z_iconst X (v := (-1)) dX8_init_56 (by decide) ?_
  refine z_iastW X 3 rfl (by unfold vp_in; decide) (ws' := [(h0, .inr (8, [.ref q1, .ref q2, .ref q3, .null, .null, .int 0, .int 0])), (q1, .inl (cy 0, 5, .inl (fun _ => 0))), (q2, .inl (cy 0, 5, .inl (fun _ => 0))), (q7, .inl (cy 0, 6, .inl (upd (upd (upd (upd (upd (upd (fun _ => 0) (0 : Int32).toNatClampNeg (-1)) (1 : Int32).toNatClampNeg (-1)) (2 : Int32).toNatClampNeg (-1)) (3 : Int32).toNatClampNeg (-1)) (4 : Int32).toNatClampNeg (-1)) (5 : Int32).toNatClampNeg (-1))))]) rfl dX8_init_57 ?_
  refine z_putF X 0 (C := RX8) (T := TX8) (N := 7) inX8 tyX8 tyX8_ok nmX8 rfl rfl 3 (by decide) fl_X8_25 (fun _ h9 => h9) rfl hin rfl (ty := (.array .int)) (by decide +kernel) rfl rfl (Nat.le_of_ble_eq_true rfl) (ws' := [(h0, .inr (8, [.ref q1, .ref q2, .ref q3, .ref q7, .null, .int 0, .int 0])), (q1, .inl (cy 0, 5, .inl (fun _ => 0))), (q2, .inl (cy 0, 5, .inl (fun _ => 0))), (q7, .inl (cy 0, 6, .inl (upd (upd (upd (upd (upd (upd (fun _ => 0) (0 : Int32).toNatClampNeg (-1)) (1 : Int32).toNatClampNeg (-1)) (2 : Int32).toNatClampNeg (-1)) (3 : Int32).toNatClampNeg (-1)) (4 : Int32).toNatClampNeg (-1)) (5 : Int32).toNatClampNeg (-1))))]) rfl dX8_init_58 ?_
  refine z_aload_n X dX8_init_61 rfl (j := 0) rfl ?_
  refine z_null X dX8_init_62 ?_
  refine z_putW X 0 (C := RX8) (T := TX8) (N := 7) inX8 tyX8 tyX8_ok nmX8 rfl rfl 4 (by decide) fl_X8_28 (fun _ h9 => h9) rfl (ty := (.object "Thimble$Rule")) (by decide +kernel) rfl rfl (Nat.le_of_ble_eq_true rfl) (ws' := [(h0, .inr (8, [.ref q1, .ref q2, .ref q3, .ref q7, .null, .int 0, .int 0])), (q1, .inl (cy 0, 5, .inl (fun _ => 0))), (q2, .inl (cy 0, 5, .inl (fun _ => 0))), (q7, .inl (cy 0, 6, .inl (upd (upd (upd (upd (upd (upd (fun _ => 0) (0 : Int32).toNatClampNeg (-1)) (1 : Int32).toNatClampNeg (-1)) (2 : Int32).toNatClampNeg (-1)) (3 : Int32).toNatClampNeg (-1)) (4 : Int32).toNatClampNeg (-1)) (5 : Int32).toNatClampNeg (-1))))]) rfl dX8_init_63 ?_
  refine z_aload_n X dX8_init_66 rfl (j := 0) rfl ?_
  refine z_iconst X (v := 0) dX8_init_67 (by decide) ?_
  refine z_putW X 0 (C := RX8) (T := TX8) (N := 7) inX8 tyX8 tyX8_ok nmX8 rfl rfl 5 (by decide) fl_X8_32 (fun _ h9 => h9) rfl (ty := .boolean) (by decide +kernel) rfl rfl (Nat.le_of_ble_eq_true rfl) (ws' := [(h0, .inr (8, [.ref q1, .ref q2, .ref q3, .ref q7, .null, .int 0, .int 0])), (q1, .inl (cy 0, 5, .inl (fun _ => 0))), (q2, .inl (cy 0, 5, .inl (fun _ => 0))), (q7, .inl (cy 0, 6, .inl (upd (upd (upd (upd (upd (upd (fun _ => 0) (0 : Int32).toNatClampNeg (-1)) (1 : Int32).toNatClampNeg (-1)) (2 : Int32).toNatClampNeg (-1)) (3 : Int32).toNatClampNeg (-1)) (4 : Int32).toNatClampNeg (-1)) (5 : Int32).toNatClampNeg (-1))))]) rfl dX8_init_68 ?_
  refine z_aload_n X dX8_init_71 rfl (j := 0) rfl ?_
  refine z_iconst X (v := 0) dX8_init_72 (by decide) ?_
  refine z_putW X 0 (C := RX8) (T := TX8) (N := 7) inX8 tyX8 tyX8_ok nmX8 rfl rfl 6 (by decide) fl_X8_36 (fun _ h9 => h9) rfl (ty := .int) (by decide +kernel) rfl rfl (Nat.le_of_ble_eq_true rfl) (ws' := [(h0, .inr (8, [.ref q1, .ref q2, .ref q3, .ref q7, .null, .int 0, .int 0])), (q1, .inl (cy 0, 5, .inl (fun _ => 0))), (q2, .inl (cy 0, 5, .inl (fun _ => 0))), (q7, .inl (cy 0, 6, .inl (upd (upd (upd (upd (upd (upd (fun _ => 0) (0 : Int32).toNatClampNeg (-1)) (1 : Int32).toNatClampNeg (-1)) (2 : Int32).toNatClampNeg (-1)) (3 : Int32).toNatClampNeg (-1)) (4 : Int32).toNatClampNeg (-1)) (5 : Int32).toNatClampNeg (-1))))]) rfl dX8_init_73 ?_
  exact z_endv X hr [] [] rfl rfl rfl rfl dX8_init_76
