theorem dX1_init_0 : decode cX1_init 0 = .ok (.aload_n 0, 1) := by decide +kernel
theorem dX1_init_1 : decode cX1_init 1 = .ok (.invokespecial 3, 3) := by decide +kernel
theorem dX1_init_4 : decode cX1_init 4 = .ok (.aload_n 0, 1) := by decide +kernel
theorem dX1_init_5 : decode cX1_init 5 = .ok (.aconst_null, 1) := by decide +kernel
theorem dX1_init_6 : decode cX1_init 6 = .ok (.putfield 9, 3) := by decide +kernel
theorem dX1_init_9 : decode cX1_init 9 = .ok (.aload_n 0, 1) := by decide +kernel
theorem dX1_init_10 : decode cX1_init 10 = .ok (.aconst_null, 1) := by decide +kernel
theorem dX1_init_11 : decode cX1_init 11 = .ok (.putfield 15, 3) := by decide +kernel
theorem dX1_init_14 : decode cX1_init 14 = .ok (.aload_n 0, 1) := by decide +kernel
theorem dX1_init_15 : decode cX1_init 15 = .ok (.aconst_null, 1) := by decide +kernel
theorem dX1_init_16 : decode cX1_init 16 = .ok (.putfield 19, 3) := by decide +kernel
theorem dX1_init_19 : decode cX1_init 19 = .ok (.aload_n 0, 1) := by decide +kernel
theorem dX1_init_20 : decode cX1_init 20 = .ok (.aconst_null, 1) := by decide +kernel
theorem dX1_init_21 : decode cX1_init 21 = .ok (.putfield 23, 3) := by decide +kernel
theorem dX1_init_24 : decode cX1_init 24 = .ok (.aload_n 0, 1) := by decide +kernel
theorem dX1_init_25 : decode cX1_init 25 = .ok (.iconst 0, 1) := by decide +kernel
theorem dX1_init_26 : decode cX1_init 26 = .ok (.putfield 26, 3) := by decide +kernel
theorem dX1_init_29 : decode cX1_init 29 = .ok (.aload_n 0, 1) := by decide +kernel
theorem dX1_init_30 : decode cX1_init 30 = .ok (.iconst 0, 1) := by decide +kernel
theorem dX1_init_31 : decode cX1_init 31 = .ok (.putfield 30, 3) := by decide +kernel
theorem dX1_init_34 : decode cX1_init 34 = .ok (.aload_n 0, 1) := by decide +kernel
theorem dX1_init_35 : decode cX1_init 35 = .ok (.iconst 0, 1) := by decide +kernel
theorem dX1_init_36 : decode cX1_init 36 = .ok (.putfield 33, 3) := by decide +kernel
theorem dX1_init_39 : decode cX1_init 39 = .ok (.aload_n 0, 1) := by decide +kernel
theorem dX1_init_40 : decode cX1_init 40 = .ok (.iconst 1, 1) := by decide +kernel
theorem dX1_init_41 : decode cX1_init 41 = .ok (.putfield 36, 3) := by decide +kernel
theorem dX1_init_44 : decode cX1_init 44 = .ok (.aload_n 0, 1) := by decide +kernel
theorem dX1_init_45 : decode cX1_init 45 = .ok (.iconst 0, 1) := by decide +kernel
theorem dX1_init_46 : decode cX1_init 46 = .ok (.putfield 39, 3) := by decide +kernel
theorem dX1_init_49 : decode cX1_init 49 = .ok (.aload_n 0, 1) := by decide +kernel
theorem dX1_init_50 : decode cX1_init 50 = .ok (.iconst 0, 1) := by decide +kernel
theorem dX1_init_51 : decode cX1_init 51 = .ok (.putfield 42, 3) := by decide +kernel
theorem dX1_init_54 : decode cX1_init 54 = .ok (.aload_n 0, 1) := by decide +kernel
theorem dX1_init_55 : decode cX1_init 55 = .ok (.iconst 0, 1) := by decide +kernel
theorem dX1_init_56 : decode cX1_init 56 = .ok (.putfield 45, 3) := by decide +kernel
theorem dX1_init_59 : decode cX1_init 59 = .ok (.aload_n 0, 1) := by decide +kernel
theorem dX1_init_60 : decode cX1_init 60 = .ok (.iconst (-1), 1) := by decide +kernel
theorem dX1_init_61 : decode cX1_init 61 = .ok (.putfield 48, 3) := by decide +kernel
theorem dX1_init_64 : decode cX1_init 64 = .ok (.aload_n 0, 1) := by decide +kernel
theorem dX1_init_65 : decode cX1_init 65 = .ok (.iload_n 1, 1) := by decide +kernel
theorem dX1_init_66 : decode cX1_init 66 = .ok (.putfield 51, 3) := by decide +kernel
theorem dX1_init_69 : decode cX1_init 69 = .ok (.return_, 1) := by decide +kernel
theorem dX1_ofAtom_0 : decode cX1_ofAtom 0 = .ok (.new 10, 3) := by decide +kernel
theorem dX1_ofAtom_3 : decode cX1_ofAtom 3 = .ok (.dup, 1) := by decide +kernel
theorem dX1_ofAtom_4 : decode cX1_ofAtom 4 = .ok (.iconst 0, 1) := by decide +kernel
theorem dX1_ofAtom_5 : decode cX1_ofAtom 5 = .ok (.invokespecial 54, 3) := by decide +kernel
theorem dX1_ofAtom_8 : decode cX1_ofAtom 8 = .ok (.astore_n 1, 1) := by decide +kernel
theorem dX1_ofAtom_9 : decode cX1_ofAtom 9 = .ok (.aload_n 1, 1) := by decide +kernel
theorem dX1_ofAtom_10 : decode cX1_ofAtom 10 = .ok (.aload_n 0, 1) := by decide +kernel
theorem dX1_ofAtom_11 : decode cX1_ofAtom 11 = .ok (.putfield 9, 3) := by decide +kernel
theorem dX1_ofAtom_14 : decode cX1_ofAtom 14 = .ok (.aload_n 1, 1) := by decide +kernel
theorem dX1_ofAtom_15 : decode cX1_ofAtom 15 = .ok (.aload_n 0, 1) := by decide +kernel
theorem dX1_ofAtom_16 : decode cX1_ofAtom 16 = .ok (.getfield 57, 3) := by decide +kernel
theorem dX1_ofAtom_19 : decode cX1_ofAtom 19 = .ok (.getfield 60, 3) := by decide +kernel
theorem dX1_ofAtom_22 : decode cX1_ofAtom 22 = .ok (.putfield 30, 3) := by decide +kernel
theorem dX1_ofAtom_25 : decode cX1_ofAtom 25 = .ok (.aload_n 1, 1) := by decide +kernel
theorem dX1_ofAtom_26 : decode cX1_ofAtom 26 = .ok (.aload_n 1, 1) := by decide +kernel
theorem dX1_ofAtom_27 : decode cX1_ofAtom 27 = .ok (.getfield 30, 3) := by decide +kernel
theorem dX1_ofAtom_30 : decode cX1_ofAtom 30 = .ok (.putfield 39, 3) := by decide +kernel
theorem dX1_ofAtom_33 : decode cX1_ofAtom 33 = .ok (.aload_n 1, 1) := by decide +kernel
theorem dX1_ofAtom_34 : decode cX1_ofAtom 34 = .ok (.aload_n 0, 1) := by decide +kernel
theorem dX1_ofAtom_35 : decode cX1_ofAtom 35 = .ok (.getfield 57, 3) := by decide +kernel
theorem dX1_ofAtom_38 : decode cX1_ofAtom 38 = .ok (.getfield 65, 3) := by decide +kernel
theorem dX1_ofAtom_41 : decode cX1_ofAtom 41 = .ok (.putfield 45, 3) := by decide +kernel
theorem dX1_ofAtom_44 : decode cX1_ofAtom 44 = .ok (.aload_n 1, 1) := by decide +kernel
theorem dX1_ofAtom_45 : decode cX1_ofAtom 45 = .ok (.areturn, 1) := by decide +kernel
theorem dX1_ofSame_0 : decode cX1_ofSame 0 = .ok (.new 10, 3) := by decide +kernel
theorem dX1_ofSame_3 : decode cX1_ofSame 3 = .ok (.dup, 1) := by decide +kernel
theorem dX1_ofSame_4 : decode cX1_ofSame 4 = .ok (.iconst 1, 1) := by decide +kernel
theorem dX1_ofSame_5 : decode cX1_ofSame 5 = .ok (.invokespecial 54, 3) := by decide +kernel
theorem dX1_ofSame_8 : decode cX1_ofSame 8 = .ok (.astore_n 1, 1) := by decide +kernel
theorem dX1_ofSame_9 : decode cX1_ofSame 9 = .ok (.aload_n 1, 1) := by decide +kernel
theorem dX1_ofSame_10 : decode cX1_ofSame 10 = .ok (.aload_n 0, 1) := by decide +kernel
theorem dX1_ofSame_11 : decode cX1_ofSame 11 = .ok (.putfield 15, 3) := by decide +kernel
theorem dX1_ofSame_14 : decode cX1_ofSame 14 = .ok (.aload_n 1, 1) := by decide +kernel
theorem dX1_ofSame_15 : decode cX1_ofSame 15 = .ok (.aload_n 0, 1) := by decide +kernel
theorem dX1_ofSame_16 : decode cX1_ofSame 16 = .ok (.getfield 60, 3) := by decide +kernel
theorem dX1_ofSame_19 : decode cX1_ofSame 19 = .ok (.putfield 30, 3) := by decide +kernel
theorem dX1_ofSame_22 : decode cX1_ofSame 22 = .ok (.aload_n 1, 1) := by decide +kernel
theorem dX1_ofSame_23 : decode cX1_ofSame 23 = .ok (.aload_n 0, 1) := by decide +kernel
theorem dX1_ofSame_24 : decode cX1_ofSame 24 = .ok (.getfield 65, 3) := by decide +kernel
theorem dX1_ofSame_27 : decode cX1_ofSame 27 = .ok (.ifCond .eq 10, 3) := by decide +kernel
theorem dX1_ofSame_30 : decode cX1_ofSame 30 = .ok (.aload_n 1, 1) := by decide +kernel
theorem dX1_ofSame_31 : decode cX1_ofSame 31 = .ok (.getfield 30, 3) := by decide +kernel
theorem dX1_ofSame_34 : decode cX1_ofSame 34 = .ok (.goto 4, 3) := by decide +kernel
theorem dX1_ofSame_37 : decode cX1_ofSame 37 = .ok (.iconst 0, 1) := by decide +kernel
theorem dX1_ofSame_38 : decode cX1_ofSame 38 = .ok (.putfield 39, 3) := by decide +kernel
theorem dX1_ofSame_41 : decode cX1_ofSame 41 = .ok (.aload_n 1, 1) := by decide +kernel
theorem dX1_ofSame_42 : decode cX1_ofSame 42 = .ok (.aload_n 0, 1) := by decide +kernel
theorem dX1_ofSame_43 : decode cX1_ofSame 43 = .ok (.getfield 65, 3) := by decide +kernel
theorem dX1_ofSame_46 : decode cX1_ofSame 46 = .ok (.putfield 45, 3) := by decide +kernel
theorem dX1_ofSame_49 : decode cX1_ofSame 49 = .ok (.aload_n 1, 1) := by decide +kernel
theorem dX1_ofSame_50 : decode cX1_ofSame 50 = .ok (.areturn, 1) := by decide +kernel
theorem dX1_ofNot_0 : decode cX1_ofNot 0 = .ok (.iconst 2, 1) := by decide +kernel
theorem dX1_ofNot_1 : decode cX1_ofNot 1 = .ok (.aload_n 0, 1) := by decide +kernel
theorem dX1_ofNot_2 : decode cX1_ofNot 2 = .ok (.invokestatic 66, 3) := by decide +kernel
theorem dX1_ofNot_5 : decode cX1_ofNot 5 = .ok (.astore_n 1, 1) := by decide +kernel
theorem dX1_ofNot_6 : decode cX1_ofNot 6 = .ok (.aload_n 1, 1) := by decide +kernel
theorem dX1_ofNot_7 : decode cX1_ofNot 7 = .ok (.aload_n 0, 1) := by decide +kernel
theorem dX1_ofNot_8 : decode cX1_ofNot 8 = .ok (.getfield 30, 3) := by decide +kernel
theorem dX1_ofNot_11 : decode cX1_ofNot 11 = .ok (.putfield 30, 3) := by decide +kernel
theorem dX1_ofNot_14 : decode cX1_ofNot 14 = .ok (.aload_n 1, 1) := by decide +kernel
theorem dX1_ofNot_15 : decode cX1_ofNot 15 = .ok (.aload_n 0, 1) := by decide +kernel
theorem dX1_ofNot_16 : decode cX1_ofNot 16 = .ok (.getfield 42, 3) := by decide +kernel
theorem dX1_ofNot_19 : decode cX1_ofNot 19 = .ok (.putfield 39, 3) := by decide +kernel
theorem dX1_ofNot_22 : decode cX1_ofNot 22 = .ok (.aload_n 1, 1) := by decide +kernel
theorem dX1_ofNot_23 : decode cX1_ofNot 23 = .ok (.aload_n 0, 1) := by decide +kernel
theorem dX1_ofNot_24 : decode cX1_ofNot 24 = .ok (.getfield 39, 3) := by decide +kernel
theorem dX1_ofNot_27 : decode cX1_ofNot 27 = .ok (.putfield 42, 3) := by decide +kernel
theorem dX1_ofNot_30 : decode cX1_ofNot 30 = .ok (.aload_n 1, 1) := by decide +kernel
theorem dX1_ofNot_31 : decode cX1_ofNot 31 = .ok (.areturn, 1) := by decide +kernel
theorem dX1_ofBoth_0 : decode cX1_ofBoth 0 = .ok (.iconst 3, 1) := by decide +kernel
theorem dX1_ofBoth_1 : decode cX1_ofBoth 1 = .ok (.aload_n 0, 1) := by decide +kernel
theorem dX1_ofBoth_2 : decode cX1_ofBoth 2 = .ok (.aload_n 1, 1) := by decide +kernel
theorem dX1_ofBoth_3 : decode cX1_ofBoth 3 = .ok (.invokestatic 70, 3) := by decide +kernel
theorem dX1_ofBoth_6 : decode cX1_ofBoth 6 = .ok (.astore_n 2, 1) := by decide +kernel
theorem dX1_ofBoth_7 : decode cX1_ofBoth 7 = .ok (.aload_n 0, 1) := by decide +kernel
theorem dX1_ofBoth_8 : decode cX1_ofBoth 8 = .ok (.getfield 39, 3) := by decide +kernel
theorem dX1_ofBoth_11 : decode cX1_ofBoth 11 = .ok (.aload_n 1, 1) := by decide +kernel
theorem dX1_ofBoth_12 : decode cX1_ofBoth 12 = .ok (.getfield 39, 3) := by decide +kernel
theorem dX1_ofBoth_15 : decode cX1_ofBoth 15 = .ok (.ior, 1) := by decide +kernel
theorem dX1_ofBoth_16 : decode cX1_ofBoth 16 = .ok (.istore_n 3, 1) := by decide +kernel
theorem dX1_ofBoth_17 : decode cX1_ofBoth 17 = .ok (.aload_n 2, 1) := by decide +kernel
theorem dX1_ofBoth_18 : decode cX1_ofBoth 18 = .ok (.iload_n 3, 1) := by decide +kernel
theorem dX1_ofBoth_19 : decode cX1_ofBoth 19 = .ok (.aload_n 0, 1) := by decide +kernel
theorem dX1_ofBoth_20 : decode cX1_ofBoth 20 = .ok (.iload_n 3, 1) := by decide +kernel
theorem dX1_ofBoth_21 : decode cX1_ofBoth 21 = .ok (.invokevirtual 74, 3) := by decide +kernel
theorem dX1_ofBoth_24 : decode cX1_ofBoth 24 = .ok (.ior, 1) := by decide +kernel
theorem dX1_ofBoth_25 : decode cX1_ofBoth 25 = .ok (.aload_n 1, 1) := by decide +kernel
theorem dX1_ofBoth_26 : decode cX1_ofBoth 26 = .ok (.iload_n 3, 1) := by decide +kernel
theorem dX1_ofBoth_27 : decode cX1_ofBoth 27 = .ok (.invokevirtual 74, 3) := by decide +kernel
theorem dX1_ofBoth_30 : decode cX1_ofBoth 30 = .ok (.ior, 1) := by decide +kernel
theorem dX1_ofBoth_31 : decode cX1_ofBoth 31 = .ok (.putfield 39, 3) := by decide +kernel
theorem dX1_ofBoth_34 : decode cX1_ofBoth 34 = .ok (.aload_n 2, 1) := by decide +kernel
theorem dX1_ofBoth_35 : decode cX1_ofBoth 35 = .ok (.aload_n 0, 1) := by decide +kernel
theorem dX1_ofBoth_36 : decode cX1_ofBoth 36 = .ok (.getfield 42, 3) := by decide +kernel
theorem dX1_ofBoth_39 : decode cX1_ofBoth 39 = .ok (.aload_n 1, 1) := by decide +kernel
theorem dX1_ofBoth_40 : decode cX1_ofBoth 40 = .ok (.getfield 42, 3) := by decide +kernel
theorem dX1_ofBoth_43 : decode cX1_ofBoth 43 = .ok (.iand, 1) := by decide +kernel
theorem dX1_ofBoth_44 : decode cX1_ofBoth 44 = .ok (.putfield 42, 3) := by decide +kernel
theorem dX1_ofBoth_47 : decode cX1_ofBoth 47 = .ok (.aload_n 2, 1) := by decide +kernel
theorem dX1_ofBoth_48 : decode cX1_ofBoth 48 = .ok (.areturn, 1) := by decide +kernel
theorem dX1_ofEither_0 : decode cX1_ofEither 0 = .ok (.iconst 4, 1) := by decide +kernel
theorem dX1_ofEither_1 : decode cX1_ofEither 1 = .ok (.aload_n 0, 1) := by decide +kernel
theorem dX1_ofEither_2 : decode cX1_ofEither 2 = .ok (.aload_n 1, 1) := by decide +kernel
theorem dX1_ofEither_3 : decode cX1_ofEither 3 = .ok (.invokestatic 70, 3) := by decide +kernel
theorem dX1_ofEither_6 : decode cX1_ofEither 6 = .ok (.astore_n 2, 1) := by decide +kernel
theorem dX1_ofEither_7 : decode cX1_ofEither 7 = .ok (.aload_n 2, 1) := by decide +kernel
theorem dX1_ofEither_8 : decode cX1_ofEither 8 = .ok (.aload_n 0, 1) := by decide +kernel
theorem dX1_ofEither_9 : decode cX1_ofEither 9 = .ok (.getfield 39, 3) := by decide +kernel
theorem dX1_ofEither_12 : decode cX1_ofEither 12 = .ok (.aload_n 1, 1) := by decide +kernel
theorem dX1_ofEither_13 : decode cX1_ofEither 13 = .ok (.getfield 39, 3) := by decide +kernel
theorem dX1_ofEither_16 : decode cX1_ofEither 16 = .ok (.iand, 1) := by decide +kernel
theorem dX1_ofEither_17 : decode cX1_ofEither 17 = .ok (.putfield 39, 3) := by decide +kernel
theorem dX1_ofEither_20 : decode cX1_ofEither 20 = .ok (.aload_n 2, 1) := by decide +kernel
theorem dX1_ofEither_21 : decode cX1_ofEither 21 = .ok (.aload_n 0, 1) := by decide +kernel
theorem dX1_ofEither_22 : decode cX1_ofEither 22 = .ok (.getfield 42, 3) := by decide +kernel
theorem dX1_ofEither_25 : decode cX1_ofEither 25 = .ok (.aload_n 1, 1) := by decide +kernel
theorem dX1_ofEither_26 : decode cX1_ofEither 26 = .ok (.getfield 42, 3) := by decide +kernel
theorem dX1_ofEither_29 : decode cX1_ofEither 29 = .ok (.ior, 1) := by decide +kernel
theorem dX1_ofEither_30 : decode cX1_ofEither 30 = .ok (.putfield 42, 3) := by decide +kernel
theorem dX1_ofEither_33 : decode cX1_ofEither 33 = .ok (.aload_n 2, 1) := by decide +kernel
theorem dX1_ofEither_34 : decode cX1_ofEither 34 = .ok (.areturn, 1) := by decide +kernel
theorem dX1_ofSome_0 : decode cX1_ofSome 0 = .ok (.iconst 5, 1) := by decide +kernel
theorem dX1_ofSome_1 : decode cX1_ofSome 1 = .ok (.iload_n 0, 1) := by decide +kernel
theorem dX1_ofSome_2 : decode cX1_ofSome 2 = .ok (.aload_n 1, 1) := by decide +kernel
theorem dX1_ofSome_3 : decode cX1_ofSome 3 = .ok (.invokestatic 78, 3) := by decide +kernel
theorem dX1_ofSome_6 : decode cX1_ofSome 6 = .ok (.astore_n 2, 1) := by decide +kernel
theorem dX1_ofSome_7 : decode cX1_ofSome 7 = .ok (.aload_n 2, 1) := by decide +kernel
theorem dX1_ofSome_8 : decode cX1_ofSome 8 = .ok (.aload_n 1, 1) := by decide +kernel
theorem dX1_ofSome_9 : decode cX1_ofSome 9 = .ok (.getfield 39, 3) := by decide +kernel
theorem dX1_ofSome_12 : decode cX1_ofSome 12 = .ok (.iconst 1, 1) := by decide +kernel
theorem dX1_ofSome_13 : decode cX1_ofSome 13 = .ok (.iload_n 0, 1) := by decide +kernel
theorem dX1_ofSome_14 : decode cX1_ofSome 14 = .ok (.ishl, 1) := by decide +kernel
theorem dX1_ofSome_15 : decode cX1_ofSome 15 = .ok (.iconst (-1), 1) := by decide +kernel
theorem dX1_ofSome_16 : decode cX1_ofSome 16 = .ok (.ixor, 1) := by decide +kernel
theorem dX1_ofSome_17 : decode cX1_ofSome 17 = .ok (.iand, 1) := by decide +kernel
theorem dX1_ofSome_18 : decode cX1_ofSome 18 = .ok (.putfield 39, 3) := by decide +kernel
theorem dX1_ofSome_21 : decode cX1_ofSome 21 = .ok (.aload_n 2, 1) := by decide +kernel
theorem dX1_ofSome_22 : decode cX1_ofSome 22 = .ok (.areturn, 1) := by decide +kernel
theorem dX1_ofEvery_0 : decode cX1_ofEvery 0 = .ok (.bipush 6, 2) := by decide +kernel
theorem dX1_ofEvery_2 : decode cX1_ofEvery 2 = .ok (.iload_n 0, 1) := by decide +kernel
theorem dX1_ofEvery_3 : decode cX1_ofEvery 3 = .ok (.aload_n 1, 1) := by decide +kernel
theorem dX1_ofEvery_4 : decode cX1_ofEvery 4 = .ok (.invokestatic 78, 3) := by decide +kernel
theorem dX1_ofEvery_7 : decode cX1_ofEvery 7 = .ok (.astore_n 2, 1) := by decide +kernel
theorem dX1_ofEvery_8 : decode cX1_ofEvery 8 = .ok (.aload_n 2, 1) := by decide +kernel
theorem dX1_ofEvery_9 : decode cX1_ofEvery 9 = .ok (.aload_n 1, 1) := by decide +kernel
theorem dX1_ofEvery_10 : decode cX1_ofEvery 10 = .ok (.getfield 42, 3) := by decide +kernel
theorem dX1_ofEvery_13 : decode cX1_ofEvery 13 = .ok (.iconst 1, 1) := by decide +kernel
theorem dX1_ofEvery_14 : decode cX1_ofEvery 14 = .ok (.iload_n 0, 1) := by decide +kernel
theorem dX1_ofEvery_15 : decode cX1_ofEvery 15 = .ok (.ishl, 1) := by decide +kernel
theorem dX1_ofEvery_16 : decode cX1_ofEvery 16 = .ok (.iconst (-1), 1) := by decide +kernel
theorem dX1_ofEvery_17 : decode cX1_ofEvery 17 = .ok (.ixor, 1) := by decide +kernel
theorem dX1_ofEvery_18 : decode cX1_ofEvery 18 = .ok (.iand, 1) := by decide +kernel
theorem dX1_ofEvery_19 : decode cX1_ofEvery 19 = .ok (.putfield 42, 3) := by decide +kernel
theorem dX1_ofEvery_22 : decode cX1_ofEvery 22 = .ok (.aload_n 2, 1) := by decide +kernel
theorem dX1_ofEvery_23 : decode cX1_ofEvery 23 = .ok (.areturn, 1) := by decide +kernel
theorem dX1_over_0 : decode cX1_over 0 = .ok (.new 10, 3) := by decide +kernel
theorem dX1_over_3 : decode cX1_over 3 = .ok (.dup, 1) := by decide +kernel
theorem dX1_over_4 : decode cX1_over 4 = .ok (.iload_n 0, 1) := by decide +kernel
theorem dX1_over_5 : decode cX1_over 5 = .ok (.invokespecial 54, 3) := by decide +kernel
theorem dX1_over_8 : decode cX1_over 8 = .ok (.astore_n 2, 1) := by decide +kernel
theorem dX1_over_9 : decode cX1_over 9 = .ok (.aload_n 2, 1) := by decide +kernel
theorem dX1_over_10 : decode cX1_over 10 = .ok (.aload_n 1, 1) := by decide +kernel
theorem dX1_over_11 : decode cX1_over 11 = .ok (.putfield 19, 3) := by decide +kernel
theorem dX1_over_14 : decode cX1_over 14 = .ok (.aload_n 2, 1) := by decide +kernel
theorem dX1_over_15 : decode cX1_over 15 = .ok (.aload_n 1, 1) := by decide +kernel
theorem dX1_over_16 : decode cX1_over 16 = .ok (.getfield 33, 3) := by decide +kernel
theorem dX1_over_19 : decode cX1_over 19 = .ok (.putfield 33, 3) := by decide +kernel
theorem dX1_over_22 : decode cX1_over 22 = .ok (.aload_n 2, 1) := by decide +kernel
theorem dX1_over_23 : decode cX1_over 23 = .ok (.iconst 1, 1) := by decide +kernel
theorem dX1_over_24 : decode cX1_over 24 = .ok (.aload_n 1, 1) := by decide +kernel
theorem dX1_over_25 : decode cX1_over 25 = .ok (.getfield 36, 3) := by decide +kernel
theorem dX1_over_28 : decode cX1_over 28 = .ok (.iadd, 1) := by decide +kernel
theorem dX1_over_29 : decode cX1_over 29 = .ok (.putfield 36, 3) := by decide +kernel
theorem dX1_over_32 : decode cX1_over 32 = .ok (.aload_n 2, 1) := by decide +kernel
theorem dX1_over_33 : decode cX1_over 33 = .ok (.aload_n 1, 1) := by decide +kernel
theorem dX1_over_34 : decode cX1_over 34 = .ok (.getfield 45, 3) := by decide +kernel
theorem dX1_over_37 : decode cX1_over 37 = .ok (.putfield 45, 3) := by decide +kernel
theorem dX1_over_40 : decode cX1_over 40 = .ok (.aload_n 2, 1) := by decide +kernel
theorem dX1_over_41 : decode cX1_over 41 = .ok (.areturn, 1) := by decide +kernel
theorem dX1_overTwo_0 : decode cX1_overTwo 0 = .ok (.iload_n 0, 1) := by decide +kernel
theorem dX1_overTwo_1 : decode cX1_overTwo 1 = .ok (.aload_n 1, 1) := by decide +kernel
theorem dX1_overTwo_2 : decode cX1_overTwo 2 = .ok (.invokestatic 66, 3) := by decide +kernel
theorem dX1_overTwo_5 : decode cX1_overTwo 5 = .ok (.astore_n 3, 1) := by decide +kernel
theorem dX1_overTwo_6 : decode cX1_overTwo 6 = .ok (.aload_n 3, 1) := by decide +kernel
theorem dX1_overTwo_7 : decode cX1_overTwo 7 = .ok (.aload_n 2, 1) := by decide +kernel
theorem dX1_overTwo_8 : decode cX1_overTwo 8 = .ok (.putfield 23, 3) := by decide +kernel
theorem dX1_overTwo_11 : decode cX1_overTwo 11 = .ok (.aload_n 3, 1) := by decide +kernel
theorem dX1_overTwo_12 : decode cX1_overTwo 12 = .ok (.aload_n 1, 1) := by decide +kernel
theorem dX1_overTwo_13 : decode cX1_overTwo 13 = .ok (.getfield 30, 3) := by decide +kernel
theorem dX1_overTwo_16 : decode cX1_overTwo 16 = .ok (.aload_n 2, 1) := by decide +kernel
theorem dX1_overTwo_17 : decode cX1_overTwo 17 = .ok (.getfield 30, 3) := by decide +kernel
theorem dX1_overTwo_20 : decode cX1_overTwo 20 = .ok (.ior, 1) := by decide +kernel
theorem dX1_overTwo_21 : decode cX1_overTwo 21 = .ok (.putfield 30, 3) := by decide +kernel
theorem dX1_overTwo_24 : decode cX1_overTwo 24 = .ok (.aload_n 3, 1) := by decide +kernel
theorem dX1_overTwo_25 : decode cX1_overTwo 25 = .ok (.aload_n 1, 1) := by decide +kernel
theorem dX1_overTwo_26 : decode cX1_overTwo 26 = .ok (.getfield 33, 3) := by decide +kernel
theorem dX1_overTwo_29 : decode cX1_overTwo 29 = .ok (.aload_n 2, 1) := by decide +kernel
theorem dX1_overTwo_30 : decode cX1_overTwo 30 = .ok (.getfield 33, 3) := by decide +kernel
theorem dX1_overTwo_33 : decode cX1_overTwo 33 = .ok (.invokestatic 82, 3) := by decide +kernel
theorem dX1_overTwo_36 : decode cX1_overTwo 36 = .ok (.putfield 33, 3) := by decide +kernel
theorem dX1_overTwo_39 : decode cX1_overTwo 39 = .ok (.aload_n 3, 1) := by decide +kernel
theorem dX1_overTwo_40 : decode cX1_overTwo 40 = .ok (.iconst 1, 1) := by decide +kernel
theorem dX1_overTwo_41 : decode cX1_overTwo 41 = .ok (.aload_n 1, 1) := by decide +kernel
theorem dX1_overTwo_42 : decode cX1_overTwo 42 = .ok (.getfield 36, 3) := by decide +kernel
theorem dX1_overTwo_45 : decode cX1_overTwo 45 = .ok (.iadd, 1) := by decide +kernel
theorem dX1_overTwo_46 : decode cX1_overTwo 46 = .ok (.aload_n 2, 1) := by decide +kernel
theorem dX1_overTwo_47 : decode cX1_overTwo 47 = .ok (.getfield 36, 3) := by decide +kernel
theorem dX1_overTwo_50 : decode cX1_overTwo 50 = .ok (.iadd, 1) := by decide +kernel
theorem dX1_overTwo_51 : decode cX1_overTwo 51 = .ok (.putfield 36, 3) := by decide +kernel
theorem dX1_overTwo_54 : decode cX1_overTwo 54 = .ok (.aload_n 3, 1) := by decide +kernel
theorem dX1_overTwo_55 : decode cX1_overTwo 55 = .ok (.aload_n 1, 1) := by decide +kernel
theorem dX1_overTwo_56 : decode cX1_overTwo 56 = .ok (.getfield 45, 3) := by decide +kernel
theorem dX1_overTwo_59 : decode cX1_overTwo 59 = .ok (.aload_n 2, 1) := by decide +kernel
theorem dX1_overTwo_60 : decode cX1_overTwo 60 = .ok (.getfield 45, 3) := by decide +kernel
theorem dX1_overTwo_63 : decode cX1_overTwo 63 = .ok (.ior, 1) := by decide +kernel
theorem dX1_overTwo_64 : decode cX1_overTwo 64 = .ok (.putfield 45, 3) := by decide +kernel
theorem dX1_overTwo_67 : decode cX1_overTwo 67 = .ok (.aload_n 3, 1) := by decide +kernel
theorem dX1_overTwo_68 : decode cX1_overTwo 68 = .ok (.areturn, 1) := by decide +kernel
theorem dX1_overBound_0 : decode cX1_overBound 0 = .ok (.iload_n 0, 1) := by decide +kernel
theorem dX1_overBound_1 : decode cX1_overBound 1 = .ok (.aload_n 2, 1) := by decide +kernel
theorem dX1_overBound_2 : decode cX1_overBound 2 = .ok (.invokestatic 66, 3) := by decide +kernel
theorem dX1_overBound_5 : decode cX1_overBound 5 = .ok (.astore_n 3, 1) := by decide +kernel
theorem dX1_overBound_6 : decode cX1_overBound 6 = .ok (.aload_n 3, 1) := by decide +kernel
theorem dX1_overBound_7 : decode cX1_overBound 7 = .ok (.iload_n 1, 1) := by decide +kernel
theorem dX1_overBound_8 : decode cX1_overBound 8 = .ok (.putfield 26, 3) := by decide +kernel
theorem dX1_overBound_11 : decode cX1_overBound 11 = .ok (.aload_n 3, 1) := by decide +kernel
theorem dX1_overBound_12 : decode cX1_overBound 12 = .ok (.aload_n 2, 1) := by decide +kernel
theorem dX1_overBound_13 : decode cX1_overBound 13 = .ok (.getfield 30, 3) := by decide +kernel
theorem dX1_overBound_16 : decode cX1_overBound 16 = .ok (.iconst 1, 1) := by decide +kernel
theorem dX1_overBound_17 : decode cX1_overBound 17 = .ok (.iload_n 1, 1) := by decide +kernel
theorem dX1_overBound_18 : decode cX1_overBound 18 = .ok (.ishl, 1) := by decide +kernel
theorem dX1_overBound_19 : decode cX1_overBound 19 = .ok (.iconst (-1), 1) := by decide +kernel
theorem dX1_overBound_20 : decode cX1_overBound 20 = .ok (.ixor, 1) := by decide +kernel
theorem dX1_overBound_21 : decode cX1_overBound 21 = .ok (.iand, 1) := by decide +kernel
theorem dX1_overBound_22 : decode cX1_overBound 22 = .ok (.putfield 30, 3) := by decide +kernel
theorem dX1_overBound_25 : decode cX1_overBound 25 = .ok (.aload_n 3, 1) := by decide +kernel
theorem dX1_overBound_26 : decode cX1_overBound 26 = .ok (.iconst 1, 1) := by decide +kernel
theorem dX1_overBound_27 : decode cX1_overBound 27 = .ok (.aload_n 2, 1) := by decide +kernel
theorem dX1_overBound_28 : decode cX1_overBound 28 = .ok (.getfield 33, 3) := by decide +kernel
theorem dX1_overBound_31 : decode cX1_overBound 31 = .ok (.iadd, 1) := by decide +kernel
theorem dX1_overBound_32 : decode cX1_overBound 32 = .ok (.putfield 33, 3) := by decide +kernel
theorem dX1_overBound_35 : decode cX1_overBound 35 = .ok (.aload_n 3, 1) := by decide +kernel
theorem dX1_overBound_36 : decode cX1_overBound 36 = .ok (.areturn, 1) := by decide +kernel
theorem dX1_passedOn_0 : decode cX1_passedOn 0 = .ok (.aload_n 0, 1) := by decide +kernel
theorem dX1_passedOn_1 : decode cX1_passedOn 1 = .ok (.getfield 51, 3) := by decide +kernel
theorem dX1_passedOn_4 : decode cX1_passedOn 4 = .ok (.iconst 1, 1) := by decide +kernel
theorem dX1_passedOn_5 : decode cX1_passedOn 5 = .ok (.if_icmp .ne 25, 3) := by decide +kernel
theorem dX1_passedOn_8 : decode cX1_passedOn 8 = .ok (.aload_n 0, 1) := by decide +kernel
theorem dX1_passedOn_9 : decode cX1_passedOn 9 = .ok (.getfield 15, 3) := by decide +kernel
theorem dX1_passedOn_12 : decode cX1_passedOn 12 = .ok (.getfield 65, 3) := by decide +kernel
theorem dX1_passedOn_15 : decode cX1_passedOn 15 = .ok (.ifCond .ne 15, 3) := by decide +kernel
theorem dX1_passedOn_18 : decode cX1_passedOn 18 = .ok (.aload_n 0, 1) := by decide +kernel
theorem dX1_passedOn_19 : decode cX1_passedOn 19 = .ok (.getfield 15, 3) := by decide +kernel
theorem dX1_passedOn_22 : decode cX1_passedOn 22 = .ok (.getfield 60, 3) := by decide +kernel
theorem dX1_passedOn_25 : decode cX1_passedOn 25 = .ok (.iload_n 1, 1) := by decide +kernel
theorem dX1_passedOn_26 : decode cX1_passedOn 26 = .ok (.iand, 1) := by decide +kernel
theorem dX1_passedOn_27 : decode cX1_passedOn 27 = .ok (.ifCond .ne 5, 3) := by decide +kernel
theorem dX1_passedOn_30 : decode cX1_passedOn 30 = .ok (.iconst 0, 1) := by decide +kernel
theorem dX1_passedOn_31 : decode cX1_passedOn 31 = .ok (.ireturn, 1) := by decide +kernel
theorem dX1_passedOn_32 : decode cX1_passedOn 32 = .ok (.aload_n 0, 1) := by decide +kernel
theorem dX1_passedOn_33 : decode cX1_passedOn 33 = .ok (.getfield 15, 3) := by decide +kernel
theorem dX1_passedOn_36 : decode cX1_passedOn 36 = .ok (.getfield 60, 3) := by decide +kernel
theorem dX1_passedOn_39 : decode cX1_passedOn 39 = .ok (.ireturn, 1) := by decide +kernel
theorem dX1_settleLoose_0 : decode cX1_settleLoose 0 = .ok (.aload_n 0, 1) := by decide +kernel
theorem dX1_settleLoose_1 : decode cX1_settleLoose 1 = .ok (.aload_n 0, 1) := by decide +kernel
theorem dX1_settleLoose_2 : decode cX1_settleLoose 2 = .ok (.getfield 19, 3) := by decide +kernel
theorem dX1_settleLoose_5 : decode cX1_settleLoose 5 = .ok (.ifnonnull 7, 3) := by decide +kernel
theorem dX1_settleLoose_8 : decode cX1_settleLoose 8 = .ok (.iconst (-1), 1) := by decide +kernel
theorem dX1_settleLoose_9 : decode cX1_settleLoose 9 = .ok (.goto 10, 3) := by decide +kernel
theorem dX1_settleLoose_12 : decode cX1_settleLoose 12 = .ok (.aload_n 0, 1) := by decide +kernel
theorem dX1_settleLoose_13 : decode cX1_settleLoose 13 = .ok (.getfield 19, 3) := by decide +kernel
theorem dX1_settleLoose_16 : decode cX1_settleLoose 16 = .ok (.getfield 48, 3) := by decide +kernel
theorem dX1_settleLoose_19 : decode cX1_settleLoose 19 = .ok (.putfield 48, 3) := by decide +kernel
theorem dX1_settleLoose_22 : decode cX1_settleLoose 22 = .ok (.aload_n 0, 1) := by decide +kernel
theorem dX1_settleLoose_23 : decode cX1_settleLoose 23 = .ok (.getfield 23, 3) := by decide +kernel
theorem dX1_settleLoose_26 : decode cX1_settleLoose 26 = .ok (.ifnull 48, 3) := by decide +kernel
theorem dX1_settleLoose_29 : decode cX1_settleLoose 29 = .ok (.aload_n 0, 1) := by decide +kernel
theorem dX1_settleLoose_30 : decode cX1_settleLoose 30 = .ok (.getfield 23, 3) := by decide +kernel
theorem dX1_settleLoose_33 : decode cX1_settleLoose 33 = .ok (.getfield 48, 3) := by decide +kernel
theorem dX1_settleLoose_36 : decode cX1_settleLoose 36 = .ok (.ifCond .lt 38, 3) := by decide +kernel
theorem dX1_settleLoose_39 : decode cX1_settleLoose 39 = .ok (.aload_n 0, 1) := by decide +kernel
theorem dX1_settleLoose_40 : decode cX1_settleLoose 40 = .ok (.aload_n 0, 1) := by decide +kernel
theorem dX1_settleLoose_41 : decode cX1_settleLoose 41 = .ok (.getfield 48, 3) := by decide +kernel
theorem dX1_settleLoose_44 : decode cX1_settleLoose 44 = .ok (.ifCond .ge 13, 3) := by decide +kernel
theorem dX1_settleLoose_47 : decode cX1_settleLoose 47 = .ok (.aload_n 0, 1) := by decide +kernel
theorem dX1_settleLoose_48 : decode cX1_settleLoose 48 = .ok (.getfield 23, 3) := by decide +kernel
theorem dX1_settleLoose_51 : decode cX1_settleLoose 51 = .ok (.getfield 48, 3) := by decide +kernel
theorem dX1_settleLoose_54 : decode cX1_settleLoose 54 = .ok (.goto 17, 3) := by decide +kernel
theorem dX1_settleLoose_57 : decode cX1_settleLoose 57 = .ok (.aload_n 0, 1) := by decide +kernel
theorem dX1_settleLoose_58 : decode cX1_settleLoose 58 = .ok (.getfield 48, 3) := by decide +kernel
theorem dX1_settleLoose_61 : decode cX1_settleLoose 61 = .ok (.aload_n 0, 1) := by decide +kernel
theorem dX1_settleLoose_62 : decode cX1_settleLoose 62 = .ok (.getfield 23, 3) := by decide +kernel
theorem dX1_settleLoose_65 : decode cX1_settleLoose 65 = .ok (.getfield 48, 3) := by decide +kernel
theorem dX1_settleLoose_68 : decode cX1_settleLoose 68 = .ok (.invokestatic 88, 3) := by decide +kernel
theorem dX1_settleLoose_71 : decode cX1_settleLoose 71 = .ok (.putfield 48, 3) := by decide +kernel
theorem dX1_settleLoose_74 : decode cX1_settleLoose 74 = .ok (.aload_n 0, 1) := by decide +kernel
theorem dX1_settleLoose_75 : decode cX1_settleLoose 75 = .ok (.getfield 48, 3) := by decide +kernel
theorem dX1_settleLoose_78 : decode cX1_settleLoose 78 = .ok (.ifCond .ge 15, 3) := by decide +kernel
theorem dX1_settleLoose_81 : decode cX1_settleLoose 81 = .ok (.aload_n 0, 1) := by decide +kernel
theorem dX1_settleLoose_82 : decode cX1_settleLoose 82 = .ok (.invokevirtual 91, 3) := by decide +kernel
theorem dX1_settleLoose_85 : decode cX1_settleLoose 85 = .ok (.ifCond .eq 8, 3) := by decide +kernel
theorem dX1_settleLoose_88 : decode cX1_settleLoose 88 = .ok (.aload_n 0, 1) := by decide +kernel
theorem dX1_settleLoose_89 : decode cX1_settleLoose 89 = .ok (.iload_n 1, 1) := by decide +kernel
theorem dX1_settleLoose_90 : decode cX1_settleLoose 90 = .ok (.putfield 48, 3) := by decide +kernel
theorem dX1_settleLoose_93 : decode cX1_settleLoose 93 = .ok (.return_, 1) := by decide +kernel
theorem dX1_isLoose_0 : decode cX1_isLoose 0 = .ok (.aload_n 0, 1) := by decide +kernel
theorem dX1_isLoose_1 : decode cX1_isLoose 1 = .ok (.getfield 51, 3) := by decide +kernel
theorem dX1_isLoose_4 : decode cX1_isLoose 4 = .ok (.iconst 5, 1) := by decide +kernel
theorem dX1_isLoose_5 : decode cX1_isLoose 5 = .ok (.if_icmp .ne 20, 3) := by decide +kernel
theorem dX1_isLoose_8 : decode cX1_isLoose 8 = .ok (.aload_n 0, 1) := by decide +kernel
theorem dX1_isLoose_9 : decode cX1_isLoose 9 = .ok (.getfield 19, 3) := by decide +kernel
theorem dX1_isLoose_12 : decode cX1_isLoose 12 = .ok (.getfield 39, 3) := by decide +kernel
theorem dX1_isLoose_15 : decode cX1_isLoose 15 = .ok (.aload_n 0, 1) := by decide +kernel
theorem dX1_isLoose_16 : decode cX1_isLoose 16 = .ok (.getfield 26, 3) := by decide +kernel
theorem dX1_isLoose_19 : decode cX1_isLoose 19 = .ok (.invokestatic 95, 3) := by decide +kernel
theorem dX1_isLoose_22 : decode cX1_isLoose 22 = .ok (.ifCond .eq 29, 3) := by decide +kernel
theorem dX1_isLoose_25 : decode cX1_isLoose 25 = .ok (.aload_n 0, 1) := by decide +kernel
theorem dX1_isLoose_26 : decode cX1_isLoose 26 = .ok (.getfield 51, 3) := by decide +kernel
theorem dX1_isLoose_29 : decode cX1_isLoose 29 = .ok (.bipush 6, 2) := by decide +kernel
theorem dX1_isLoose_31 : decode cX1_isLoose 31 = .ok (.if_icmp .ne 24, 3) := by decide +kernel
theorem dX1_isLoose_34 : decode cX1_isLoose 34 = .ok (.aload_n 0, 1) := by decide +kernel
theorem dX1_isLoose_35 : decode cX1_isLoose 35 = .ok (.getfield 19, 3) := by decide +kernel
theorem dX1_isLoose_38 : decode cX1_isLoose 38 = .ok (.getfield 42, 3) := by decide +kernel
theorem dX1_isLoose_41 : decode cX1_isLoose 41 = .ok (.aload_n 0, 1) := by decide +kernel
theorem dX1_isLoose_42 : decode cX1_isLoose 42 = .ok (.getfield 26, 3) := by decide +kernel
theorem dX1_isLoose_45 : decode cX1_isLoose 45 = .ok (.invokestatic 95, 3) := by decide +kernel
theorem dX1_isLoose_48 : decode cX1_isLoose 48 = .ok (.ifCond .ne 7, 3) := by decide +kernel
theorem dX1_isLoose_51 : decode cX1_isLoose 51 = .ok (.iconst 1, 1) := by decide +kernel
theorem dX1_isLoose_52 : decode cX1_isLoose 52 = .ok (.goto 4, 3) := by decide +kernel
theorem dX1_isLoose_55 : decode cX1_isLoose 55 = .ok (.iconst 0, 1) := by decide +kernel
theorem dX1_isLoose_56 : decode cX1_isLoose 56 = .ok (.ireturn, 1) := by decide +kernel
theorem dJ9_max_7cf53_0 : decode cJ9_max_7cf53 0 = .ok (.iload_n 0, 1) := by decide +kernel
theorem dJ9_max_7cf53_1 : decode cJ9_max_7cf53 1 = .ok (.iload_n 1, 1) := by decide +kernel
theorem dJ9_max_7cf53_2 : decode cJ9_max_7cf53 2 = .ok (.if_icmp .lt 7, 3) := by decide +kernel
theorem dJ9_max_7cf53_5 : decode cJ9_max_7cf53 5 = .ok (.iload_n 0, 1) := by decide +kernel
theorem dJ9_max_7cf53_6 : decode cJ9_max_7cf53 6 = .ok (.goto 4, 3) := by decide +kernel
theorem dJ9_max_7cf53_9 : decode cJ9_max_7cf53 9 = .ok (.iload_n 1, 1) := by decide +kernel
theorem dJ9_max_7cf53_10 : decode cJ9_max_7cf53 10 = .ok (.ireturn, 1) := by decide +kernel
theorem dJ9_min_7cf53_0 : decode cJ9_min_7cf53 0 = .ok (.iload_n 0, 1) := by decide +kernel
theorem dJ9_min_7cf53_1 : decode cJ9_min_7cf53 1 = .ok (.iload_n 1, 1) := by decide +kernel
theorem dJ9_min_7cf53_2 : decode cJ9_min_7cf53 2 = .ok (.if_icmp .gt 7, 3) := by decide +kernel
theorem dJ9_min_7cf53_5 : decode cJ9_min_7cf53 5 = .ok (.iload_n 0, 1) := by decide +kernel
theorem dJ9_min_7cf53_6 : decode cJ9_min_7cf53 6 = .ok (.goto 4, 3) := by decide +kernel
theorem dJ9_min_7cf53_9 : decode cJ9_min_7cf53 9 = .ok (.iload_n 1, 1) := by decide +kernel
theorem dJ9_min_7cf53_10 : decode cJ9_min_7cf53 10 = .ok (.ireturn, 1) := by decide +kernel
set_option maxHeartbeats 4000000 in
set_option maxRecDepth 100000 in
/-- J9_max_7cf53 -/
theorem m_max (l : Launch) (D : va_G) (cy : Nat → ClassId) (O : Nat × va_E → Prop) (x y : Int32) : Ci l yJ9_max_7cf53 (.code yJ9_max_7cf53 cJ9_max_7cf53 2 (some .int) :: WALL) ({ frames := 0, cells := 0, slots := 0, locals := 0 }) D cy O [.int x, .int y] [] 0 0 (fun (r : Int32) (w : va_W) => r = (if x < y then y else x) ∧ w = []) := by
  refine z_meti (by decide +kernel) rfl rfl (Nat.le_of_ble_eq_true rfl) ?_
  intro p e s m args below meth c X hr hin
  refine z_eq (ws' := []) (lv' := [(0, .int x), (1, .int y)]) (st' := []) rfl rfl rfl ?_
  refine z_iload_n X dJ9_max_7cf53_0 rfl (j := 0) rfl ?_
  refine z_iload_n X dJ9_max_7cf53_1 rfl (j := 1) rfl ?_
  refine z_icmp_lt X (tgt := 9) dJ9_max_7cf53_2 (by decide) (fun c_2 => ?_) (fun c_2 => ?_)
  · skip
    refine z_iload_n X dJ9_max_7cf53_9 rfl (j := 1) rfl ?_
    exact z_endi X hr [] [] rfl rfl rfl ⟨(by rw [if_pos c_2]), rfl⟩ dJ9_max_7cf53_10
  · skip
    refine z_iload_n X dJ9_max_7cf53_5 rfl (j := 0) rfl ?_
    refine z_goto X (tgt := 10) dJ9_max_7cf53_6 (by decide) ?_
    exact z_endi X hr [] [] rfl rfl rfl ⟨(by rw [if_neg c_2]), rfl⟩ dJ9_max_7cf53_10
set_option maxHeartbeats 4000000 in
set_option maxRecDepth 100000 in
/-- J9_min_7cf53 -/
theorem m_min (l : Launch) (D : va_G) (cy : Nat → ClassId) (O : Nat × va_E → Prop) (x y : Int32) : Ci l yJ9_min_7cf53 (.code yJ9_min_7cf53 cJ9_min_7cf53 2 (some .int) :: WALL) ({ frames := 0, cells := 0, slots := 0, locals := 0 }) D cy O [.int x, .int y] [] 0 0 (fun (r : Int32) (w : va_W) => r = (if y < x then y else x) ∧ w = []) := by
  refine z_meti (by decide +kernel) rfl rfl (Nat.le_of_ble_eq_true rfl) ?_
  intro p e s m args below meth c X hr hin
  refine z_eq (ws' := []) (lv' := [(0, .int x), (1, .int y)]) (st' := []) rfl rfl rfl ?_
  refine z_iload_n X dJ9_min_7cf53_0 rfl (j := 0) rfl ?_
  refine z_iload_n X dJ9_min_7cf53_1 rfl (j := 1) rfl ?_
  refine z_icmp_gt X (tgt := 9) dJ9_min_7cf53_2 (by decide) (fun c_2 => ?_) (fun c_2 => ?_)
  · skip
    refine z_iload_n X dJ9_min_7cf53_9 rfl (j := 1) rfl ?_
    exact z_endi X hr [] [] rfl rfl rfl ⟨(by rw [if_pos c_2]), rfl⟩ dJ9_min_7cf53_10
  · skip
    refine z_iload_n X dJ9_min_7cf53_5 rfl (j := 0) rfl ?_
    refine z_goto X (tgt := 10) dJ9_min_7cf53_6 (by decide) ?_
    exact z_endi X hr [] [] rfl rfl rfl ⟨(by rw [if_neg c_2]), rfl⟩ dJ9_min_7cf53_10
theorem max_nI {a b : Nat} (ha : a < 2 ^ 31) (hb : b < 2 ^ 31) : (if nI a < nI b then nI b else nI a) = nI (max a b) := by
  by_cases h : a < b
  · rw [if_pos ((nI_ltI ha hb).mpr h), Nat.max_eq_right (Nat.le_of_lt h)]
  · rw [if_neg (fun z => h ((nI_ltI ha hb).mp z)), Nat.max_eq_left (by omega)]
theorem min_nI {a b : Nat} (ha : a < 2 ^ 31) (hb : b < 2 ^ 31) : (if nI b < nI a then nI b else nI a) = nI (min a b) := by
  by_cases h : b < a
  · rw [if_pos ((nI_ltI hb ha).mpr h), Nat.min_eq_right (Nat.le_of_lt h)]
  · rw [if_neg (fun z => h ((nI_ltI hb ha).mp z)), Nat.min_eq_left (by omega)]
theorem one_shl_not {v : Nat} (h : v < 31) (a : Nat) : nI a &&& ((1 : Int32) <<< (nI v &&& 31) ^^^ (-1)) = nI (nd a (2 ^ v)) := by rw [shl_1 v h]; exact nI_nd a (2 ^ v)
theorem add_1 (a : Nat) : 1 + nI a = nI (1 + a) := nI_add 1 a
set_option maxHeartbeats 4000000 in
set_option maxRecDepth 100000 in
/-- Formula(kind) -/
theorem m_Formula (l : Launch) (D : va_G) (cy : Nat → ClassId) (O : Nat × va_E → Prop) {h0 : Nat} {z : Int32} : Cv l yX1_init (.code yX1_init cX1_init 2 none :: WALL) ({ frames := 1, cells := 0, slots := 0, locals := 13 }) D cy O [.ref h0, .int z] [(h0, .inr (1, [.int 0, .null, .null, .null, .null, .int 0, .int 0, .int 0, .int 0, .int 0, .int 0, .int 0, .int 0]))] 0 0 (fun (w : va_W) => w = [(h0, .inr (1, [.int z, .null, .null, .null, .null, .int 0, .int 0, .int 0, .int 1, .int 0, .int 0, .int 0, .int (-1)]))]) := by
  refine z_metv (by decide) rfl rfl (Nat.le_of_ble_eq_true rfl) ?_
  intro p e s m args below meth c X hr hin
  refine z_eq (ws' := [(h0, .inr (1, [.int 0, .null, .null, .null, .null, .int 0, .int 0, .int 0, .int 0, .int 0, .int 0, .int 0, .int 0]))]) (lv' := [(0, .ref h0), (1, .int z)]) (st' := []) rfl rfl rfl ?_
  refine z_aload_n X dX1_init_0 rfl (j := 0) rfl ?_
  refine z_objInit X ml_X1_3 im_obj cd_obj (Nat.le_of_ble_eq_true rfl) (Nat.le_of_ble_eq_true rfl) dX1_init_1 ?_
  refine z_aload_n X dX1_init_4 rfl (j := 0) rfl ?_
  refine z_null X dX1_init_5 ?_
  refine z_putW X 0 (C := RX1) (T := TX1) (N := 13) inX1 tyX1 tyX1_ok nmX1 rfl rfl 1 (by decide) fl_X1_9 (fun _ h9 => h9) rfl (ty := (.object "Thimble$Atom")) (by decide +kernel) rfl rfl (Nat.le_of_ble_eq_true rfl) (ws' := [(h0, .inr (1, [.int 0, .null, .null, .null, .null, .int 0, .int 0, .int 0, .int 0, .int 0, .int 0, .int 0, .int 0]))]) rfl dX1_init_6 ?_
  refine z_aload_n X dX1_init_9 rfl (j := 0) rfl ?_
  refine z_null X dX1_init_10 ?_
  refine z_putW X 0 (C := RX1) (T := TX1) (N := 13) inX1 tyX1 tyX1_ok nmX1 rfl rfl 2 (by decide) fl_X1_15 (fun _ h9 => h9) rfl (ty := (.object "Thimble$Terms")) (by decide +kernel) rfl rfl (Nat.le_of_ble_eq_true rfl) (ws' := [(h0, .inr (1, [.int 0, .null, .null, .null, .null, .int 0, .int 0, .int 0, .int 0, .int 0, .int 0, .int 0, .int 0]))]) rfl dX1_init_11 ?_
  refine z_aload_n X dX1_init_14 rfl (j := 0) rfl ?_
  refine z_null X dX1_init_15 ?_
  refine z_putW X 0 (C := RX1) (T := TX1) (N := 13) inX1 tyX1 tyX1_ok nmX1 rfl rfl 3 (by decide) fl_X1_19 (fun _ h9 => h9) rfl (ty := (.object "Thimble$Formula")) (by decide +kernel) rfl rfl (Nat.le_of_ble_eq_true rfl) (ws' := [(h0, .inr (1, [.int 0, .null, .null, .null, .null, .int 0, .int 0, .int 0, .int 0, .int 0, .int 0, .int 0, .int 0]))]) rfl dX1_init_16 ?_
  refine z_aload_n X dX1_init_19 rfl (j := 0) rfl ?_
  refine z_null X dX1_init_20 ?_
  refine z_putW X 0 (C := RX1) (T := TX1) (N := 13) inX1 tyX1 tyX1_ok nmX1 rfl rfl 4 (by decide) fl_X1_23 (fun _ h9 => h9) rfl (ty := (.object "Thimble$Formula")) (by decide +kernel) rfl rfl (Nat.le_of_ble_eq_true rfl) (ws' := [(h0, .inr (1, [.int 0, .null, .null, .null, .null, .int 0, .int 0, .int 0, .int 0, .int 0, .int 0, .int 0, .int 0]))]) rfl dX1_init_21 ?_
  refine z_aload_n X dX1_init_24 rfl (j := 0) rfl ?_
  refine z_iconst X (v := 0) dX1_init_25 (by decide) ?_
  refine z_putW X 0 (C := RX1) (T := TX1) (N := 13) inX1 tyX1 tyX1_ok nmX1 rfl rfl 5 (by decide) fl_X1_26 (fun _ h9 => h9) rfl (ty := .int) (by decide +kernel) rfl rfl (Nat.le_of_ble_eq_true rfl) (ws' := [(h0, .inr (1, [.int 0, .null, .null, .null, .null, .int 0, .int 0, .int 0, .int 0, .int 0, .int 0, .int 0, .int 0]))]) rfl dX1_init_26 ?_
  refine z_aload_n X dX1_init_29 rfl (j := 0) rfl ?_
  refine z_iconst X (v := 0) dX1_init_30 (by decide) ?_
  refine z_putW X 0 (C := RX1) (T := TX1) (N := 13) inX1 tyX1 tyX1_ok nmX1 rfl rfl 6 (by decide) fl_X1_30 (fun _ h9 => h9) rfl (ty := .int) (by decide +kernel) rfl rfl (Nat.le_of_ble_eq_true rfl) (ws' := [(h0, .inr (1, [.int 0, .null, .null, .null, .null, .int 0, .int 0, .int 0, .int 0, .int 0, .int 0, .int 0, .int 0]))]) rfl dX1_init_31 ?_
  refine z_aload_n X dX1_init_34 rfl (j := 0) rfl ?_
  refine z_iconst X (v := 0) dX1_init_35 (by decide) ?_
  refine z_putW X 0 (C := RX1) (T := TX1) (N := 13) inX1 tyX1 tyX1_ok nmX1 rfl rfl 7 (by decide) fl_X1_33 (fun _ h9 => h9) rfl (ty := .int) (by decide +kernel) rfl rfl (Nat.le_of_ble_eq_true rfl) (ws' := [(h0, .inr (1, [.int 0, .null, .null, .null, .null, .int 0, .int 0, .int 0, .int 0, .int 0, .int 0, .int 0, .int 0]))]) rfl dX1_init_36 ?_
  refine z_aload_n X dX1_init_39 rfl (j := 0) rfl ?_
  refine z_iconst X (v := 1) dX1_init_40 (by decide) ?_
  refine z_putW X 0 (C := RX1) (T := TX1) (N := 13) inX1 tyX1 tyX1_ok nmX1 rfl rfl 8 (by decide) fl_X1_36 (fun _ h9 => h9) rfl (ty := .int) (by decide +kernel) rfl rfl (Nat.le_of_ble_eq_true rfl) (ws' := [(h0, .inr (1, [.int 0, .null, .null, .null, .null, .int 0, .int 0, .int 0, .int 1, .int 0, .int 0, .int 0, .int 0]))]) rfl dX1_init_41 ?_
  refine z_aload_n X dX1_init_44 rfl (j := 0) rfl ?_
  refine z_iconst X (v := 0) dX1_init_45 (by decide) ?_
  refine z_putW X 0 (C := RX1) (T := TX1) (N := 13) inX1 tyX1 tyX1_ok nmX1 rfl rfl 9 (by decide) fl_X1_39 (fun _ h9 => h9) rfl (ty := .int) (by decide +kernel) rfl rfl (Nat.le_of_ble_eq_true rfl) (ws' := [(h0, .inr (1, [.int 0, .null, .null, .null, .null, .int 0, .int 0, .int 0, .int 1, .int 0, .int 0, .int 0, .int 0]))]) rfl dX1_init_46 ?_
  refine z_aload_n X dX1_init_49 rfl (j := 0) rfl ?_
  refine z_iconst X (v := 0) dX1_init_50 (by decide) ?_
  refine z_putW X 0 (C := RX1) (T := TX1) (N := 13) inX1 tyX1 tyX1_ok nmX1 rfl rfl 10 (by decide) fl_X1_42 (fun _ h9 => h9) rfl (ty := .int) (by decide +kernel) rfl rfl (Nat.le_of_ble_eq_true rfl) (ws' := [(h0, .inr (1, [.int 0, .null, .null, .null, .null, .int 0, .int 0, .int 0, .int 1, .int 0, .int 0, .int 0, .int 0]))]) rfl dX1_init_51 ?_
  refine z_aload_n X dX1_init_54 rfl (j := 0) rfl ?_
  refine z_iconst X (v := 0) dX1_init_55 (by decide) ?_
  refine z_putW X 0 (C := RX1) (T := TX1) (N := 13) inX1 tyX1 tyX1_ok nmX1 rfl rfl 11 (by decide) fl_X1_45 (fun _ h9 => h9) rfl (ty := .int) (by decide +kernel) rfl rfl (Nat.le_of_ble_eq_true rfl) (ws' := [(h0, .inr (1, [.int 0, .null, .null, .null, .null, .int 0, .int 0, .int 0, .int 1, .int 0, .int 0, .int 0, .int 0]))]) rfl dX1_init_56 ?_
  refine z_aload_n X dX1_init_59 rfl (j := 0) rfl ?_
  refine z_iconst X (v := (-1)) dX1_init_60 (by decide) ?_
  refine z_putW X 0 (C := RX1) (T := TX1) (N := 13) inX1 tyX1 tyX1_ok nmX1 rfl rfl 12 (by decide) fl_X1_48 (fun _ h9 => h9) rfl (ty := .int) (by decide +kernel) rfl rfl (Nat.le_of_ble_eq_true rfl) (ws' := [(h0, .inr (1, [.int 0, .null, .null, .null, .null, .int 0, .int 0, .int 0, .int 1, .int 0, .int 0, .int 0, .int (-1)]))]) rfl dX1_init_61 ?_
  refine z_aload_n X dX1_init_64 rfl (j := 0) rfl ?_
  refine z_iload_n X dX1_init_65 rfl (j := 1) rfl ?_
  refine z_putF X 0 (C := RX1) (T := TX1) (N := 13) inX1 tyX1 tyX1_ok nmX1 rfl rfl 0 (by decide) fl_X1_51 (fun _ h9 => h9) rfl hin rfl (ty := .int) (by decide +kernel) rfl rfl (Nat.le_of_ble_eq_true rfl) (ws' := [(h0, .inr (1, [.int z, .null, .null, .null, .null, .int 0, .int 0, .int 0, .int 1, .int 0, .int 0, .int 0, .int (-1)]))]) rfl dX1_init_66 ?_
  exact z_endv X hr [(h0, .inr (1, [.int z, .null, .null, .null, .null, .int 0, .int 0, .int 0, .int 1, .int 0, .int 0, .int 0, .int (-1)]))] [0] rfl rfl rfl rfl dX1_init_69
set_option maxHeartbeats 4000000 in
set_option maxRecDepth 100000 in
/-- ofAtom(atom) -/
theorem m_ofAtom (l : Launch) (D : va_G) (cy : Nat → ClassId) (O : Nat × va_E → Prop) {a t : Nat} {v0 t0 t1 : Value} {f1 x1 : Nat} (hA : O (a, .inr (0, [v0, .ref t]))) (hT : O (t, .inr (7, [t0, t1, .int (nI f1), .int (nI x1)]))) : Cr l yX1_ofAtom (.code yX1_ofAtom cX1_ofAtom 2 (some (.object "Thimble$Formula")) :: WALL) ({ frames := 2, cells := 1, slots := 13, locals := 34 }) D cy O [.ref a] [] 1 13 (fun (r : Nat) (w : va_W) => w = [(r, .inr (1, [.int 0, .ref a, .null, .null, .null, .int 0, .int (nI f1), .int 0, .int 1, .int (nI f1), .int 0, .int (nI x1), .int (-1)]))]) := by
  refine z_metr (by decide) rfl rfl (Nat.le_of_ble_eq_true rfl) ?_
  intro p e s m args below meth c X hr hin
  refine z_eq (ws' := []) (lv' := [(0, .ref a)]) (st' := []) rfl rfl rfl ?_
  refine z_new X (ci := 1) (fs := [.int 0, .null, .null, .null, .null, .int 0, .int 0, .int 0, .int 0, .int 0, .int 0, .int 0, .int 0]) (C := RX1) (T := TX1) (N := 13) inX1 tyX1 tyX1_ok cl_X1_10 it_X1 ni_X1 rfl (fun j hj => by rcases (show j = 0 ∨ j = 1 ∨ j = 2 ∨ j = 3 ∨ j = 4 ∨ j = 5 ∨ j = 6 ∨ j = 7 ∨ j = 8 ∨ j = 9 ∨ j = 10 ∨ j = 11 ∨ j = 12 by omega) with rfl | rfl | rfl | rfl | rfl | rfl | rfl | rfl | rfl | rfl | rfl | rfl | rfl <;> rfl) (Nat.le_of_ble_eq_true rfl) (Nat.le_of_ble_eq_true rfl) dX1_ofAtom_0 (fun q1 => ?_)
  refine z_eq (ws' := [(q1, .inr (1, [.int 0, .null, .null, .null, .null, .int 0, .int 0, .int 0, .int 0, .int 0, .int 0, .int 0, .int 0]))]) (lv' := [(0, .ref a)]) (st' := [.ref q1]) rfl rfl rfl ?_
  refine z_widen (k' := 1) (n' := 13) (Nat.le_of_ble_eq_true rfl) (Nat.le_of_ble_eq_true rfl) ?_
  refine z_dup X dX1_ofAtom_3 rfl ?_
  refine z_iconst X (v := 0) dX1_ofAtom_4 (by decide) ?_
  refine z_retv X (as := [.ref q1, .int 0]) (wc := [(q1, .inr (1, [.int 0, .null, .null, .null, .null, .int 0, .int 0, .int 0, .int 0, .int 0, .int 0, .int 0, .int 0]))]) (wr := []) (rest := [.ref q1]) (fun H9 locs9 ls9 hP9 hS9 hl9 hb9 hp9 => va_runI (As := [.int 0]) (rest := [.ref q1]) X.fix (m_Formula l D cy O (h0 := q1) (z := 0) H9.size) (cwI 1 X.hts (gB cd_X1_init) rfl rfl rfl (X.hts _ ni_X1) (X.hts _ ml_X1_54) (X.hts _ im_X1_init) rfl (by decide +kernel) ⟨Nat.le_of_ble_eq_true rfl, Nat.le_of_ble_eq_true rfl⟩) ⟨hb9, hp9⟩ rfl rfl hl9.1 rfl (lv_room (Nat.le_of_ble_eq_true rfl)) dX1_ofAtom_5 ⟨Nat.le_of_ble_eq_true rfl, Nat.le_of_ble_eq_true rfl⟩) [0] [] rfl rfl rfl rfl rfl (by decide) (fun _ h => Or.inl h) (fun w3 h4 => ?_)
  subst h4
  refine z_eq (ws' := [(q1, .inr (1, [.int 0, .null, .null, .null, .null, .int 0, .int 0, .int 0, .int 1, .int 0, .int 0, .int 0, .int (-1)]))]) (lv' := [(0, .ref a)]) (st' := [.ref q1]) rfl rfl rfl ?_
  refine z_widen (k' := 1) (n' := 13) (Nat.le_refl _) (Nat.le_refl _) ?_
  refine z_astore_n X (lv' := [(1, .ref q1), (0, .ref a)]) dX1_ofAtom_8 rfl (by decide) rfl ?_
  refine z_aload_n X dX1_ofAtom_9 rfl (j := 0) rfl ?_
  refine z_aload_n X dX1_ofAtom_10 rfl (j := 1) rfl ?_
  refine z_putW X 0 (C := RX1) (T := TX1) (N := 13) inX1 tyX1 tyX1_ok nmX1 rfl rfl 1 (by decide) fl_X1_9 (fun _ h9 => h9) rfl (ty := (.object "Thimble$Atom")) (by decide +kernel) rfl rfl (Nat.le_of_ble_eq_true rfl) (ws' := [(q1, .inr (1, [.int 0, .ref a, .null, .null, .null, .int 0, .int 0, .int 0, .int 1, .int 0, .int 0, .int 0, .int (-1)]))]) rfl dX1_ofAtom_11 ?_
  refine z_aload_n X dX1_ofAtom_14 rfl (j := 0) rfl ?_
  refine z_aload_n X dX1_ofAtom_15 rfl (j := 1) rfl ?_
  refine z_getO X (ci := 0) (C := RX0) (T := TX0) (N := 2) inX0 hA rfl 1 (by decide) fl_X1_57 (fun _ h9 => h9) rfl dX1_ofAtom_16 ?_
  refine z_getO X (ci := 7) (C := RX7) (T := TX7) (N := 4) inX7 hT rfl 2 (by decide) fl_X1_60 (fun _ h9 => h9) rfl dX1_ofAtom_19 ?_
  refine z_putW X 0 (C := RX1) (T := TX1) (N := 13) inX1 tyX1 tyX1_ok nmX1 rfl rfl 6 (by decide) fl_X1_30 (fun _ h9 => h9) rfl (ty := .int) (by decide +kernel) rfl rfl (Nat.le_of_ble_eq_true rfl) (ws' := [(q1, .inr (1, [.int 0, .ref a, .null, .null, .null, .int 0, .int (nI f1), .int 0, .int 1, .int 0, .int 0, .int 0, .int (-1)]))]) rfl dX1_ofAtom_22 ?_
  refine z_aload_n X dX1_ofAtom_25 rfl (j := 0) rfl ?_
  refine z_aload_n X dX1_ofAtom_26 rfl (j := 0) rfl ?_
  refine z_getW X 0 (C := RX1) (T := TX1) (N := 13) inX1 rfl rfl 6 (by decide) fl_X1_30 (fun _ h9 => h9) rfl dX1_ofAtom_27 ?_
  refine z_putW X 0 (C := RX1) (T := TX1) (N := 13) inX1 tyX1 tyX1_ok nmX1 rfl rfl 9 (by decide) fl_X1_39 (fun _ h9 => h9) rfl (ty := .int) (by decide +kernel) rfl rfl (Nat.le_of_ble_eq_true rfl) (ws' := [(q1, .inr (1, [.int 0, .ref a, .null, .null, .null, .int 0, .int (nI f1), .int 0, .int 1, .int (nI f1), .int 0, .int 0, .int (-1)]))]) rfl dX1_ofAtom_30 ?_
  refine z_aload_n X dX1_ofAtom_33 rfl (j := 0) rfl ?_
  refine z_aload_n X dX1_ofAtom_34 rfl (j := 1) rfl ?_
  refine z_getO X (ci := 0) (C := RX0) (T := TX0) (N := 2) inX0 hA rfl 1 (by decide) fl_X1_57 (fun _ h9 => h9) rfl dX1_ofAtom_35 ?_
  refine z_getO X (ci := 7) (C := RX7) (T := TX7) (N := 4) inX7 hT rfl 3 (by decide) fl_X1_65 (fun _ h9 => h9) rfl dX1_ofAtom_38 ?_
  refine z_putW X 0 (C := RX1) (T := TX1) (N := 13) inX1 tyX1 tyX1_ok nmX1 rfl rfl 11 (by decide) fl_X1_45 (fun _ h9 => h9) rfl (ty := .int) (by decide +kernel) rfl rfl (Nat.le_of_ble_eq_true rfl) (ws' := [(q1, .inr (1, [.int 0, .ref a, .null, .null, .null, .int 0, .int (nI f1), .int 0, .int 1, .int (nI f1), .int 0, .int (nI x1), .int (-1)]))]) rfl dX1_ofAtom_41 ?_
  refine z_aload_n X dX1_ofAtom_44 rfl (j := 0) rfl ?_
  exact z_endr X (Or.inl ⟨_, rfl⟩) hr [(q1, .inr (1, [.int 0, .ref a, .null, .null, .null, .int 0, .int (nI f1), .int 0, .int 1, .int (nI f1), .int 0, .int (nI x1), .int (-1)]))] [0] rfl rfl rfl rfl dX1_ofAtom_45
set_option maxHeartbeats 4000000 in
set_option maxRecDepth 100000 in
/-- ofSame(terms) -/
theorem m_ofSame (l : Launch) (D : va_G) (cy : Nat → ClassId) (O : Nat × va_E → Prop) {t f1 x1 : Nat} {t0 t1 : Value} (hT : O (t, .inr (7, [t0, t1, .int (nI f1), .int (nI x1)]))) (hx : x1 < 2 ^ 31) : Cr l yX1_ofSame (.code yX1_ofSame cX1_ofSame 2 (some (.object "Thimble$Formula")) :: WALL) ({ frames := 2, cells := 1, slots := 13, locals := 34 }) D cy O [.ref t] [] 1 13 (fun (r : Nat) (w : va_W) => w = [(r, .inr (1, [.int 1, .null, .ref t, .null, .null, .int 0, .int (nI f1), .int 0, .int 1, .int (nI (if x1 = 0 then 0 else f1)), .int 0, .int (nI x1), .int (-1)]))]) := by
  refine z_metr (by decide) rfl rfl (Nat.le_of_ble_eq_true rfl) ?_
  intro p e s m args below meth c X hr hin
  refine z_eq (ws' := []) (lv' := [(0, .ref t)]) (st' := []) rfl rfl rfl ?_
  refine z_new X (ci := 1) (fs := [.int 0, .null, .null, .null, .null, .int 0, .int 0, .int 0, .int 0, .int 0, .int 0, .int 0, .int 0]) (C := RX1) (T := TX1) (N := 13) inX1 tyX1 tyX1_ok cl_X1_10 it_X1 ni_X1 rfl (fun j hj => by rcases (show j = 0 ∨ j = 1 ∨ j = 2 ∨ j = 3 ∨ j = 4 ∨ j = 5 ∨ j = 6 ∨ j = 7 ∨ j = 8 ∨ j = 9 ∨ j = 10 ∨ j = 11 ∨ j = 12 by omega) with rfl | rfl | rfl | rfl | rfl | rfl | rfl | rfl | rfl | rfl | rfl | rfl | rfl <;> rfl) (Nat.le_of_ble_eq_true rfl) (Nat.le_of_ble_eq_true rfl) dX1_ofSame_0 (fun q1 => ?_)
  refine z_eq (ws' := [(q1, .inr (1, [.int 0, .null, .null, .null, .null, .int 0, .int 0, .int 0, .int 0, .int 0, .int 0, .int 0, .int 0]))]) (lv' := [(0, .ref t)]) (st' := [.ref q1]) rfl rfl rfl ?_
  refine z_widen (k' := 1) (n' := 13) (Nat.le_of_ble_eq_true rfl) (Nat.le_of_ble_eq_true rfl) ?_
  refine z_dup X dX1_ofSame_3 rfl ?_
  refine z_iconst X (v := 1) dX1_ofSame_4 (by decide) ?_
  refine z_retv X (as := [.ref q1, .int 1]) (wc := [(q1, .inr (1, [.int 0, .null, .null, .null, .null, .int 0, .int 0, .int 0, .int 0, .int 0, .int 0, .int 0, .int 0]))]) (wr := []) (rest := [.ref q1]) (fun H9 locs9 ls9 hP9 hS9 hl9 hb9 hp9 => va_runI (As := [.int 1]) (rest := [.ref q1]) X.fix (m_Formula l D cy O (h0 := q1) (z := 1) H9.size) (cwI 1 X.hts (gB cd_X1_init) rfl rfl rfl (X.hts _ ni_X1) (X.hts _ ml_X1_54) (X.hts _ im_X1_init) rfl (by decide +kernel) ⟨Nat.le_of_ble_eq_true rfl, Nat.le_of_ble_eq_true rfl⟩) ⟨hb9, hp9⟩ rfl rfl hl9.1 rfl (lv_room (Nat.le_of_ble_eq_true rfl)) dX1_ofSame_5 ⟨Nat.le_of_ble_eq_true rfl, Nat.le_of_ble_eq_true rfl⟩) [0] [] rfl rfl rfl rfl rfl (by decide) (fun _ h => Or.inl h) (fun w3 h4 => ?_)
  subst h4
  refine z_eq (ws' := [(q1, .inr (1, [.int 1, .null, .null, .null, .null, .int 0, .int 0, .int 0, .int 1, .int 0, .int 0, .int 0, .int (-1)]))]) (lv' := [(0, .ref t)]) (st' := [.ref q1]) rfl rfl rfl ?_
  refine z_widen (k' := 1) (n' := 13) (Nat.le_refl _) (Nat.le_refl _) ?_
  refine z_astore_n X (lv' := [(1, .ref q1), (0, .ref t)]) dX1_ofSame_8 rfl (by decide) rfl ?_
  refine z_aload_n X dX1_ofSame_9 rfl (j := 0) rfl ?_
  refine z_aload_n X dX1_ofSame_10 rfl (j := 1) rfl ?_
  refine z_putW X 0 (C := RX1) (T := TX1) (N := 13) inX1 tyX1 tyX1_ok nmX1 rfl rfl 2 (by decide) fl_X1_15 (fun _ h9 => h9) rfl (ty := (.object "Thimble$Terms")) (by decide +kernel) rfl rfl (Nat.le_of_ble_eq_true rfl) (ws' := [(q1, .inr (1, [.int 1, .null, .ref t, .null, .null, .int 0, .int 0, .int 0, .int 1, .int 0, .int 0, .int 0, .int (-1)]))]) rfl dX1_ofSame_11 ?_
  refine z_aload_n X dX1_ofSame_14 rfl (j := 0) rfl ?_
  refine z_aload_n X dX1_ofSame_15 rfl (j := 1) rfl ?_
  refine z_getO X (ci := 7) (C := RX7) (T := TX7) (N := 4) inX7 hT rfl 2 (by decide) fl_X1_60 (fun _ h9 => h9) rfl dX1_ofSame_16 ?_
  refine z_putW X 0 (C := RX1) (T := TX1) (N := 13) inX1 tyX1 tyX1_ok nmX1 rfl rfl 6 (by decide) fl_X1_30 (fun _ h9 => h9) rfl (ty := .int) (by decide +kernel) rfl rfl (Nat.le_of_ble_eq_true rfl) (ws' := [(q1, .inr (1, [.int 1, .null, .ref t, .null, .null, .int 0, .int (nI f1), .int 0, .int 1, .int 0, .int 0, .int 0, .int (-1)]))]) rfl dX1_ofSame_19 ?_
  refine z_aload_n X dX1_ofSame_22 rfl (j := 0) rfl ?_
  refine z_aload_n X dX1_ofSame_23 rfl (j := 1) rfl ?_
  refine z_getO X (ci := 7) (C := RX7) (T := TX7) (N := 4) inX7 hT rfl 3 (by decide) fl_X1_65 (fun _ h9 => h9) rfl dX1_ofSame_24 ?_
  refine z_if_eq X (tgt := 37) dX1_ofSame_27 (by decide) (fun c_27 => ?_) (fun c_27 => ?_)
  · skip
    refine z_iconst X (v := 0) dX1_ofSame_37 (by decide) ?_
    refine z_eq (ws' := [(q1, .inr (1, [.int 1, .null, .ref t, .null, .null, .int 0, .int (nI f1), .int 0, .int 1, .int 0, .int 0, .int 0, .int (-1)]))]) (lv' := [(1, .ref q1), (0, .ref t)]) (st' := [.int (nI (if x1 = 0 then 0 else f1)), .ref q1]) rfl rfl (by rw [if_pos ((nI_zero hx).mp c_27)]; rfl) ?_
    refine z_putW X 0 (C := RX1) (T := TX1) (N := 13) inX1 tyX1 tyX1_ok nmX1 rfl rfl 9 (by decide) fl_X1_39 (fun _ h9 => h9) rfl (ty := .int) (by decide +kernel) rfl rfl (Nat.le_of_ble_eq_true rfl) (ws' := [(q1, .inr (1, [.int 1, .null, .ref t, .null, .null, .int 0, .int (nI f1), .int 0, .int 1, .int (nI (if x1 = 0 then 0 else f1)), .int 0, .int 0, .int (-1)]))]) rfl dX1_ofSame_38 ?_
    refine z_aload_n X dX1_ofSame_41 rfl (j := 0) rfl ?_
    refine z_aload_n X dX1_ofSame_42 rfl (j := 1) rfl ?_
    refine z_getO X (ci := 7) (C := RX7) (T := TX7) (N := 4) inX7 hT rfl 3 (by decide) fl_X1_65 (fun _ h9 => h9) rfl dX1_ofSame_43 ?_
    refine z_putW X 0 (C := RX1) (T := TX1) (N := 13) inX1 tyX1 tyX1_ok nmX1 rfl rfl 11 (by decide) fl_X1_45 (fun _ h9 => h9) rfl (ty := .int) (by decide +kernel) rfl rfl (Nat.le_of_ble_eq_true rfl) (ws' := [(q1, .inr (1, [.int 1, .null, .ref t, .null, .null, .int 0, .int (nI f1), .int 0, .int 1, .int (nI (if x1 = 0 then 0 else f1)), .int 0, .int (nI x1), .int (-1)]))]) rfl dX1_ofSame_46 ?_
    refine z_aload_n X dX1_ofSame_49 rfl (j := 0) rfl ?_
    exact z_endr X (Or.inl ⟨_, rfl⟩) hr [(q1, .inr (1, [.int 1, .null, .ref t, .null, .null, .int 0, .int (nI f1), .int 0, .int 1, .int (nI (if x1 = 0 then 0 else f1)), .int 0, .int (nI x1), .int (-1)]))] [0] rfl rfl rfl rfl dX1_ofSame_50
  · skip
    refine z_aload_n X dX1_ofSame_30 rfl (j := 0) rfl ?_
    refine z_getW X 0 (C := RX1) (T := TX1) (N := 13) inX1 rfl rfl 6 (by decide) fl_X1_30 (fun _ h9 => h9) rfl dX1_ofSame_31 ?_
    refine z_goto X (tgt := 38) dX1_ofSame_34 (by decide) ?_
    refine z_eq (ws' := [(q1, .inr (1, [.int 1, .null, .ref t, .null, .null, .int 0, .int (nI f1), .int 0, .int 1, .int 0, .int 0, .int 0, .int (-1)]))]) (lv' := [(1, .ref q1), (0, .ref t)]) (st' := [.int (nI (if x1 = 0 then 0 else f1)), .ref q1]) rfl rfl (by rw [if_neg (fun z => c_27 (by rw [z]; rfl))]) ?_
    refine z_putW X 0 (C := RX1) (T := TX1) (N := 13) inX1 tyX1 tyX1_ok nmX1 rfl rfl 9 (by decide) fl_X1_39 (fun _ h9 => h9) rfl (ty := .int) (by decide +kernel) rfl rfl (Nat.le_of_ble_eq_true rfl) (ws' := [(q1, .inr (1, [.int 1, .null, .ref t, .null, .null, .int 0, .int (nI f1), .int 0, .int 1, .int (nI (if x1 = 0 then 0 else f1)), .int 0, .int 0, .int (-1)]))]) rfl dX1_ofSame_38 ?_
    refine z_aload_n X dX1_ofSame_41 rfl (j := 0) rfl ?_
    refine z_aload_n X dX1_ofSame_42 rfl (j := 1) rfl ?_
    refine z_getO X (ci := 7) (C := RX7) (T := TX7) (N := 4) inX7 hT rfl 3 (by decide) fl_X1_65 (fun _ h9 => h9) rfl dX1_ofSame_43 ?_
    refine z_putW X 0 (C := RX1) (T := TX1) (N := 13) inX1 tyX1 tyX1_ok nmX1 rfl rfl 11 (by decide) fl_X1_45 (fun _ h9 => h9) rfl (ty := .int) (by decide +kernel) rfl rfl (Nat.le_of_ble_eq_true rfl) (ws' := [(q1, .inr (1, [.int 1, .null, .ref t, .null, .null, .int 0, .int (nI f1), .int 0, .int 1, .int (nI (if x1 = 0 then 0 else f1)), .int 0, .int (nI x1), .int (-1)]))]) rfl dX1_ofSame_46 ?_
    refine z_aload_n X dX1_ofSame_49 rfl (j := 0) rfl ?_
    exact z_endr X (Or.inl ⟨_, rfl⟩) hr [(q1, .inr (1, [.int 1, .null, .ref t, .null, .null, .int 0, .int (nI f1), .int 0, .int 1, .int (nI (if x1 = 0 then 0 else f1)), .int 0, .int (nI x1), .int (-1)]))] [0] rfl rfl rfl rfl dX1_ofSame_50
set_option maxHeartbeats 4000000 in
set_option maxRecDepth 100000 in
/-- over(kind, a) -/
theorem m_over (l : Launch) (D : va_G) (cy : Nat → ClassId) (O : Nat × va_E → Prop) {z : Int32} {a5 f5 d5 l5 u5 w5 x5 : Nat} {p51 p52 p53 p54 : Value} {k5 v5 o5 : Int32} (h5 : O (a5, .inr (1, [.int k5, p51, p52, p53, p54, .int v5, .int (nI f5), .int (nI d5), .int (nI l5), .int (nI u5), .int (nI w5), .int (nI x5), .int o5]))) : Cr l yX1_over (.code yX1_over cX1_over 3 (some (.object "Thimble$Formula")) :: WALL) ({ frames := 2, cells := 1, slots := 13, locals := 34 }) D cy O [.int z, .ref a5] [] 1 13 (fun (r : Nat) (w : va_W) => w = [(r, .inr (1, [.int z, .null, .null, .ref a5, .null, .int 0, .int 0, .int (nI d5), .int (nI (1 + l5)), .int 0, .int 0, .int (nI x5), .int (-1)]))]) := by
  refine z_metr (by decide) rfl rfl (Nat.le_of_ble_eq_true rfl) ?_
  intro p e s m args below meth c X hr hin
  refine z_eq (ws' := []) (lv' := [(0, .int z), (1, .ref a5)]) (st' := []) rfl rfl rfl ?_
  refine z_new X (ci := 1) (fs := [.int 0, .null, .null, .null, .null, .int 0, .int 0, .int 0, .int 0, .int 0, .int 0, .int 0, .int 0]) (C := RX1) (T := TX1) (N := 13) inX1 tyX1 tyX1_ok cl_X1_10 it_X1 ni_X1 rfl (fun j hj => by rcases (show j = 0 ∨ j = 1 ∨ j = 2 ∨ j = 3 ∨ j = 4 ∨ j = 5 ∨ j = 6 ∨ j = 7 ∨ j = 8 ∨ j = 9 ∨ j = 10 ∨ j = 11 ∨ j = 12 by omega) with rfl | rfl | rfl | rfl | rfl | rfl | rfl | rfl | rfl | rfl | rfl | rfl | rfl <;> rfl) (Nat.le_of_ble_eq_true rfl) (Nat.le_of_ble_eq_true rfl) dX1_over_0 (fun q1 => ?_)
  refine z_eq (ws' := [(q1, .inr (1, [.int 0, .null, .null, .null, .null, .int 0, .int 0, .int 0, .int 0, .int 0, .int 0, .int 0, .int 0]))]) (lv' := [(0, .int z), (1, .ref a5)]) (st' := [.ref q1]) rfl rfl rfl ?_
  refine z_widen (k' := 1) (n' := 13) (Nat.le_of_ble_eq_true rfl) (Nat.le_of_ble_eq_true rfl) ?_
  refine z_dup X dX1_over_3 rfl ?_
  refine z_iload_n X dX1_over_4 rfl (j := 0) rfl ?_
  refine z_retv X (as := [.ref q1, .int z]) (wc := [(q1, .inr (1, [.int 0, .null, .null, .null, .null, .int 0, .int 0, .int 0, .int 0, .int 0, .int 0, .int 0, .int 0]))]) (wr := []) (rest := [.ref q1]) (fun H9 locs9 ls9 hP9 hS9 hl9 hb9 hp9 => va_runI (As := [.int z]) (rest := [.ref q1]) X.fix (m_Formula l D cy O (h0 := q1) (z := z) H9.size) (cwI 1 X.hts (gB cd_X1_init) rfl rfl rfl (X.hts _ ni_X1) (X.hts _ ml_X1_54) (X.hts _ im_X1_init) rfl (by decide +kernel) ⟨Nat.le_of_ble_eq_true rfl, Nat.le_of_ble_eq_true rfl⟩) ⟨hb9, hp9⟩ rfl rfl hl9.1 rfl (lv_room (Nat.le_of_ble_eq_true rfl)) dX1_over_5 ⟨Nat.le_of_ble_eq_true rfl, Nat.le_of_ble_eq_true rfl⟩) [0] [] rfl rfl rfl rfl rfl (by decide) (fun _ h => Or.inl h) (fun w3 h4 => ?_)
  subst h4
  refine z_eq (ws' := [(q1, .inr (1, [.int z, .null, .null, .null, .null, .int 0, .int 0, .int 0, .int 1, .int 0, .int 0, .int 0, .int (-1)]))]) (lv' := [(0, .int z), (1, .ref a5)]) (st' := [.ref q1]) rfl rfl rfl ?_
  refine z_widen (k' := 1) (n' := 13) (Nat.le_refl _) (Nat.le_refl _) ?_
  refine z_astore_n X (lv' := [(2, .ref q1), (0, .int z), (1, .ref a5)]) dX1_over_8 rfl (by decide) rfl ?_
  refine z_aload_n X dX1_over_9 rfl (j := 0) rfl ?_
  refine z_aload_n X dX1_over_10 rfl (j := 2) rfl ?_
  refine z_putW X 0 (C := RX1) (T := TX1) (N := 13) inX1 tyX1 tyX1_ok nmX1 rfl rfl 3 (by decide) fl_X1_19 (fun _ h9 => h9) rfl (ty := (.object "Thimble$Formula")) (by decide +kernel) rfl rfl (Nat.le_of_ble_eq_true rfl) (ws' := [(q1, .inr (1, [.int z, .null, .null, .ref a5, .null, .int 0, .int 0, .int 0, .int 1, .int 0, .int 0, .int 0, .int (-1)]))]) rfl dX1_over_11 ?_
  refine z_aload_n X dX1_over_14 rfl (j := 0) rfl ?_
  refine z_aload_n X dX1_over_15 rfl (j := 2) rfl ?_
  refine z_getO X (ci := 1) (C := RX1) (T := TX1) (N := 13) inX1 h5 rfl 7 (by decide) fl_X1_33 (fun _ h9 => h9) rfl dX1_over_16 ?_
  refine z_putW X 0 (C := RX1) (T := TX1) (N := 13) inX1 tyX1 tyX1_ok nmX1 rfl rfl 7 (by decide) fl_X1_33 (fun _ h9 => h9) rfl (ty := .int) (by decide +kernel) rfl rfl (Nat.le_of_ble_eq_true rfl) (ws' := [(q1, .inr (1, [.int z, .null, .null, .ref a5, .null, .int 0, .int 0, .int (nI d5), .int 1, .int 0, .int 0, .int 0, .int (-1)]))]) rfl dX1_over_19 ?_
  refine z_aload_n X dX1_over_22 rfl (j := 0) rfl ?_
  refine z_iconst X (v := 1) dX1_over_23 (by decide) ?_
  refine z_aload_n X dX1_over_24 rfl (j := 2) rfl ?_
  refine z_getO X (ci := 1) (C := RX1) (T := TX1) (N := 13) inX1 h5 rfl 8 (by decide) fl_X1_36 (fun _ h9 => h9) rfl dX1_over_25 ?_
  refine z_iadd X (v := (nI (1 + l5))) dX1_over_28 (add_1 _) ?_
  refine z_putW X 0 (C := RX1) (T := TX1) (N := 13) inX1 tyX1 tyX1_ok nmX1 rfl rfl 8 (by decide) fl_X1_36 (fun _ h9 => h9) rfl (ty := .int) (by decide +kernel) rfl rfl (Nat.le_of_ble_eq_true rfl) (ws' := [(q1, .inr (1, [.int z, .null, .null, .ref a5, .null, .int 0, .int 0, .int (nI d5), .int (nI (1 + l5)), .int 0, .int 0, .int 0, .int (-1)]))]) rfl dX1_over_29 ?_
  refine z_aload_n X dX1_over_32 rfl (j := 0) rfl ?_
  refine z_aload_n X dX1_over_33 rfl (j := 2) rfl ?_
  refine z_getO X (ci := 1) (C := RX1) (T := TX1) (N := 13) inX1 h5 rfl 11 (by decide) fl_X1_45 (fun _ h9 => h9) rfl dX1_over_34 ?_
  refine z_putW X 0 (C := RX1) (T := TX1) (N := 13) inX1 tyX1 tyX1_ok nmX1 rfl rfl 11 (by decide) fl_X1_45 (fun _ h9 => h9) rfl (ty := .int) (by decide +kernel) rfl rfl (Nat.le_of_ble_eq_true rfl) (ws' := [(q1, .inr (1, [.int z, .null, .null, .ref a5, .null, .int 0, .int 0, .int (nI d5), .int (nI (1 + l5)), .int 0, .int 0, .int (nI x5), .int (-1)]))]) rfl dX1_over_37 ?_
  refine z_aload_n X dX1_over_40 rfl (j := 0) rfl ?_
  exact z_endr X (Or.inl ⟨_, rfl⟩) hr [(q1, .inr (1, [.int z, .null, .null, .ref a5, .null, .int 0, .int 0, .int (nI d5), .int (nI (1 + l5)), .int 0, .int 0, .int (nI x5), .int (-1)]))] [0] rfl rfl rfl rfl dX1_over_41
set_option maxHeartbeats 4000000 in
set_option maxRecDepth 100000 in
/-- overTwo(kind, a, b) -/
theorem m_overTwo (l : Launch) (D : va_G) (cy : Nat → ClassId) (O : Nat × va_E → Prop) {z : Int32} {a5 f5 d5 l5 u5 w5 x5 : Nat} {p51 p52 p53 p54 : Value} {k5 v5 o5 : Int32} (h5 : O (a5, .inr (1, [.int k5, p51, p52, p53, p54, .int v5, .int (nI f5), .int (nI d5), .int (nI l5), .int (nI u5), .int (nI w5), .int (nI x5), .int o5]))) {a6 f6 d6 l6 u6 w6 x6 : Nat} {p61 p62 p63 p64 : Value} {k6 v6 o6 : Int32} (h6 : O (a6, .inr (1, [.int k6, p61, p62, p63, p64, .int v6, .int (nI f6), .int (nI d6), .int (nI l6), .int (nI u6), .int (nI w6), .int (nI x6), .int o6]))) (hd5 : d5 < 2 ^ 31) (hd6 : d6 < 2 ^ 31) : Cr l yX1_overTwo (.code yX1_overTwo cX1_overTwo 4 (some (.object "Thimble$Formula")) :: WALL) ({ frames := 3, cells := 1, slots := 13, locals := 56 }) D cy O [.int z, .ref a5, .ref a6] [] 1 13 (fun (r : Nat) (w : va_W) => w = [(r, .inr (1, [.int z, .null, .null, .ref a5, .ref a6, .int 0, .int (nI (f5 ||| f6)), .int (nI (max d5 d6)), .int (nI (1 + l5 + l6)), .int 0, .int 0, .int (nI (x5 ||| x6)), .int (-1)]))]) := by
  refine z_metr (by decide) rfl rfl (Nat.le_of_ble_eq_true rfl) ?_
  intro p e s m args below meth c X hr hin
  refine z_eq (ws' := []) (lv' := [(0, .int z), (1, .ref a5), (2, .ref a6)]) (st' := []) rfl rfl rfl ?_
  refine z_iload_n X dX1_overTwo_0 rfl (j := 0) rfl ?_
  refine z_aload_n X dX1_overTwo_1 rfl (j := 1) rfl ?_
  refine z_retr X (as := [.int z, .ref a5]) (wc := []) (wr := []) (rest := []) (fun H9 locs9 ls9 hP9 hS9 hl9 hb9 hp9 => va_runS (As := [.int z, .ref a5]) (rest := []) X.fix (m_over l D cy O (z := z) h5 H9.size) (va_cwS 2 X.hts (gS ml_X1_66 sm_X1_over ni_X1 cd_X1_over) rfl rfl rfl (by decide +kernel) ⟨Nat.le_of_ble_eq_true rfl, Nat.le_of_ble_eq_true rfl⟩) ⟨hb9, hp9⟩ rfl rfl hl9.1 rfl (lv_room (Nat.le_of_ble_eq_true rfl)) dX1_overTwo_2 ⟨Nat.le_of_ble_eq_true rfl, Nat.le_of_ble_eq_true rfl⟩) [] [] rfl rfl rfl rfl rfl (by decide) (fun _ h => Or.inl h) (fun r1 w1 h2 => ?_)
  subst h2
  refine z_eq (ws' := [(r1, .inr (1, [.int z, .null, .null, .ref a5, .null, .int 0, .int 0, .int (nI d5), .int (nI (1 + l5)), .int 0, .int 0, .int (nI x5), .int (-1)]))]) (lv' := [(0, .int z), (1, .ref a5), (2, .ref a6)]) (st' := [.ref r1]) rfl rfl rfl ?_
  refine z_widen (k' := 1) (n' := 13) (Nat.le_of_ble_eq_true rfl) (Nat.le_of_ble_eq_true rfl) ?_
  refine z_astore_n X (lv' := [(3, .ref r1), (0, .int z), (1, .ref a5), (2, .ref a6)]) dX1_overTwo_5 rfl (by decide) rfl ?_
  refine z_aload_n X dX1_overTwo_6 rfl (j := 0) rfl ?_
  refine z_aload_n X dX1_overTwo_7 rfl (j := 3) rfl ?_
  refine z_putW X 0 (C := RX1) (T := TX1) (N := 13) inX1 tyX1 tyX1_ok nmX1 rfl rfl 4 (by decide) fl_X1_23 (fun _ h9 => h9) rfl (ty := (.object "Thimble$Formula")) (by decide +kernel) rfl rfl (Nat.le_of_ble_eq_true rfl) (ws' := [(r1, .inr (1, [.int z, .null, .null, .ref a5, .ref a6, .int 0, .int 0, .int (nI d5), .int (nI (1 + l5)), .int 0, .int 0, .int (nI x5), .int (-1)]))]) rfl dX1_overTwo_8 ?_
  refine z_aload_n X dX1_overTwo_11 rfl (j := 0) rfl ?_
  refine z_aload_n X dX1_overTwo_12 rfl (j := 2) rfl ?_
  refine z_getO X (ci := 1) (C := RX1) (T := TX1) (N := 13) inX1 h5 rfl 6 (by decide) fl_X1_30 (fun _ h9 => h9) rfl dX1_overTwo_13 ?_
  refine z_aload_n X dX1_overTwo_16 rfl (j := 3) rfl ?_
  refine z_getO X (ci := 1) (C := RX1) (T := TX1) (N := 13) inX1 h6 rfl 6 (by decide) fl_X1_30 (fun _ h9 => h9) rfl dX1_overTwo_17 ?_
  refine z_ior X (v := (nI (f5 ||| f6))) dX1_overTwo_20 (nI_or _ _) ?_
  refine z_putW X 0 (C := RX1) (T := TX1) (N := 13) inX1 tyX1 tyX1_ok nmX1 rfl rfl 6 (by decide) fl_X1_30 (fun _ h9 => h9) rfl (ty := .int) (by decide +kernel) rfl rfl (Nat.le_of_ble_eq_true rfl) (ws' := [(r1, .inr (1, [.int z, .null, .null, .ref a5, .ref a6, .int 0, .int (nI (f5 ||| f6)), .int (nI d5), .int (nI (1 + l5)), .int 0, .int 0, .int (nI x5), .int (-1)]))]) rfl dX1_overTwo_21 ?_
  refine z_aload_n X dX1_overTwo_24 rfl (j := 0) rfl ?_
  refine z_aload_n X dX1_overTwo_25 rfl (j := 2) rfl ?_
  refine z_getO X (ci := 1) (C := RX1) (T := TX1) (N := 13) inX1 h5 rfl 7 (by decide) fl_X1_33 (fun _ h9 => h9) rfl dX1_overTwo_26 ?_
  refine z_aload_n X dX1_overTwo_29 rfl (j := 3) rfl ?_
  refine z_getO X (ci := 1) (C := RX1) (T := TX1) (N := 13) inX1 h6 rfl 7 (by decide) fl_X1_33 (fun _ h9 => h9) rfl dX1_overTwo_30 ?_
  refine z_reti X (as := [.int (nI d5), .int (nI d6)]) (wc := []) (wr := [(r1, .inr (1, [.int z, .null, .null, .ref a5, .ref a6, .int 0, .int (nI (f5 ||| f6)), .int (nI d5), .int (nI (1 + l5)), .int 0, .int 0, .int (nI x5), .int (-1)]))]) (rest := [.ref r1]) (fun H9 locs9 ls9 hP9 hS9 hl9 hb9 hp9 => va_runS (As := [.int (nI d5), .int (nI d6)]) (rest := [.ref r1]) X.fix (m_max l D cy O (nI d5) (nI d6) H9.size) (va_cwS 2 X.hts (gS ml_X1_82 sm_J9_max_7cf53 ni_J9 cd_J9_max_7cf53) rfl rfl rfl (by decide +kernel) ⟨Nat.le_of_ble_eq_true rfl, Nat.le_of_ble_eq_true rfl⟩) ⟨hb9, hp9⟩ rfl rfl hl9.1 rfl (lv_room (Nat.le_of_ble_eq_true rfl)) dX1_overTwo_33 ⟨Nat.le_of_ble_eq_true rfl, Nat.le_of_ble_eq_true rfl⟩) [] [0] rfl rfl rfl rfl rfl (by decide) (fun _ h => Or.inl h) (fun r3 w4 h5 => ?_)
  obtain ⟨rfl, rfl⟩ := h5
  rw [max_nI hd5 hd6]
  refine z_eq (ws' := [(r1, .inr (1, [.int z, .null, .null, .ref a5, .ref a6, .int 0, .int (nI (f5 ||| f6)), .int (nI d5), .int (nI (1 + l5)), .int 0, .int 0, .int (nI x5), .int (-1)]))]) (lv' := [(3, .ref r1), (0, .int z), (1, .ref a5), (2, .ref a6)]) (st' := [.int (nI (max d5 d6)), .ref r1]) rfl rfl rfl ?_
  refine z_widen (k' := 1) (n' := 13) (Nat.le_refl _) (Nat.le_refl _) ?_
  refine z_putW X 0 (C := RX1) (T := TX1) (N := 13) inX1 tyX1 tyX1_ok nmX1 rfl rfl 7 (by decide) fl_X1_33 (fun _ h9 => h9) rfl (ty := .int) (by decide +kernel) rfl rfl (Nat.le_of_ble_eq_true rfl) (ws' := [(r1, .inr (1, [.int z, .null, .null, .ref a5, .ref a6, .int 0, .int (nI (f5 ||| f6)), .int (nI (max d5 d6)), .int (nI (1 + l5)), .int 0, .int 0, .int (nI x5), .int (-1)]))]) rfl dX1_overTwo_36 ?_
  refine z_aload_n X dX1_overTwo_39 rfl (j := 0) rfl ?_
  refine z_iconst X (v := 1) dX1_overTwo_40 (by decide) ?_
  refine z_aload_n X dX1_overTwo_41 rfl (j := 2) rfl ?_
  refine z_getO X (ci := 1) (C := RX1) (T := TX1) (N := 13) inX1 h5 rfl 8 (by decide) fl_X1_36 (fun _ h9 => h9) rfl dX1_overTwo_42 ?_
  refine z_iadd X (v := (nI (1 + l5))) dX1_overTwo_45 (add_1 _) ?_
  refine z_aload_n X dX1_overTwo_46 rfl (j := 3) rfl ?_
  refine z_getO X (ci := 1) (C := RX1) (T := TX1) (N := 13) inX1 h6 rfl 8 (by decide) fl_X1_36 (fun _ h9 => h9) rfl dX1_overTwo_47 ?_
  refine z_iadd X (v := (nI (1 + l5 + l6))) dX1_overTwo_50 (nI_add _ _) ?_
  refine z_putW X 0 (C := RX1) (T := TX1) (N := 13) inX1 tyX1 tyX1_ok nmX1 rfl rfl 8 (by decide) fl_X1_36 (fun _ h9 => h9) rfl (ty := .int) (by decide +kernel) rfl rfl (Nat.le_of_ble_eq_true rfl) (ws' := [(r1, .inr (1, [.int z, .null, .null, .ref a5, .ref a6, .int 0, .int (nI (f5 ||| f6)), .int (nI (max d5 d6)), .int (nI (1 + l5 + l6)), .int 0, .int 0, .int (nI x5), .int (-1)]))]) rfl dX1_overTwo_51 ?_
  refine z_aload_n X dX1_overTwo_54 rfl (j := 0) rfl ?_
  refine z_aload_n X dX1_overTwo_55 rfl (j := 2) rfl ?_
  refine z_getO X (ci := 1) (C := RX1) (T := TX1) (N := 13) inX1 h5 rfl 11 (by decide) fl_X1_45 (fun _ h9 => h9) rfl dX1_overTwo_56 ?_
  refine z_aload_n X dX1_overTwo_59 rfl (j := 3) rfl ?_
  refine z_getO X (ci := 1) (C := RX1) (T := TX1) (N := 13) inX1 h6 rfl 11 (by decide) fl_X1_45 (fun _ h9 => h9) rfl dX1_overTwo_60 ?_
  refine z_ior X (v := (nI (x5 ||| x6))) dX1_overTwo_63 (nI_or _ _) ?_
  refine z_putW X 0 (C := RX1) (T := TX1) (N := 13) inX1 tyX1 tyX1_ok nmX1 rfl rfl 11 (by decide) fl_X1_45 (fun _ h9 => h9) rfl (ty := .int) (by decide +kernel) rfl rfl (Nat.le_of_ble_eq_true rfl) (ws' := [(r1, .inr (1, [.int z, .null, .null, .ref a5, .ref a6, .int 0, .int (nI (f5 ||| f6)), .int (nI (max d5 d6)), .int (nI (1 + l5 + l6)), .int 0, .int 0, .int (nI (x5 ||| x6)), .int (-1)]))]) rfl dX1_overTwo_64 ?_
  refine z_aload_n X dX1_overTwo_67 rfl (j := 0) rfl ?_
  exact z_endr X (Or.inl ⟨_, rfl⟩) hr [(r1, .inr (1, [.int z, .null, .null, .ref a5, .ref a6, .int 0, .int (nI (f5 ||| f6)), .int (nI (max d5 d6)), .int (nI (1 + l5 + l6)), .int 0, .int 0, .int (nI (x5 ||| x6)), .int (-1)]))] [0] rfl rfl rfl rfl dX1_overTwo_68
set_option maxHeartbeats 4000000 in
set_option maxRecDepth 100000 in
/-- overBound(kind, v, a) -/
theorem m_overBound (l : Launch) (D : va_G) (cy : Nat → ClassId) (O : Nat × va_E → Prop) {z : Int32} {y : Nat} {a5 f5 d5 l5 u5 w5 x5 : Nat} {p51 p52 p53 p54 : Value} {k5 v5 o5 : Int32} (h5 : O (a5, .inr (1, [.int k5, p51, p52, p53, p54, .int v5, .int (nI f5), .int (nI d5), .int (nI l5), .int (nI u5), .int (nI w5), .int (nI x5), .int o5]))) (hy : y < 31) : Cr l yX1_overBound (.code yX1_overBound cX1_overBound 4 (some (.object "Thimble$Formula")) :: WALL) ({ frames := 3, cells := 1, slots := 13, locals := 56 }) D cy O [.int z, .int (nI y), .ref a5] [] 1 13 (fun (r : Nat) (w : va_W) => w = [(r, .inr (1, [.int z, .null, .null, .ref a5, .null, .int (nI y), .int (nI (nd f5 (2 ^ y))), .int (nI (1 + d5)), .int (nI (1 + l5)), .int 0, .int 0, .int (nI x5), .int (-1)]))]) := by
  refine z_metr (by decide) rfl rfl (Nat.le_of_ble_eq_true rfl) ?_
  intro p e s m args below meth c X hr hin
  refine z_eq (ws' := []) (lv' := [(0, .int z), (1, .int (nI y)), (2, .ref a5)]) (st' := []) rfl rfl rfl ?_
  refine z_iload_n X dX1_overBound_0 rfl (j := 0) rfl ?_
  refine z_aload_n X dX1_overBound_1 rfl (j := 2) rfl ?_
  refine z_retr X (as := [.int z, .ref a5]) (wc := []) (wr := []) (rest := []) (fun H9 locs9 ls9 hP9 hS9 hl9 hb9 hp9 => va_runS (As := [.int z, .ref a5]) (rest := []) X.fix (m_over l D cy O (z := z) h5 H9.size) (va_cwS 2 X.hts (gS ml_X1_66 sm_X1_over ni_X1 cd_X1_over) rfl rfl rfl (by decide +kernel) ⟨Nat.le_of_ble_eq_true rfl, Nat.le_of_ble_eq_true rfl⟩) ⟨hb9, hp9⟩ rfl rfl hl9.1 rfl (lv_room (Nat.le_of_ble_eq_true rfl)) dX1_overBound_2 ⟨Nat.le_of_ble_eq_true rfl, Nat.le_of_ble_eq_true rfl⟩) [] [] rfl rfl rfl rfl rfl (by decide) (fun _ h => Or.inl h) (fun r1 w1 h2 => ?_)
  subst h2
  refine z_eq (ws' := [(r1, .inr (1, [.int z, .null, .null, .ref a5, .null, .int 0, .int 0, .int (nI d5), .int (nI (1 + l5)), .int 0, .int 0, .int (nI x5), .int (-1)]))]) (lv' := [(0, .int z), (1, .int (nI y)), (2, .ref a5)]) (st' := [.ref r1]) rfl rfl rfl ?_
  refine z_widen (k' := 1) (n' := 13) (Nat.le_of_ble_eq_true rfl) (Nat.le_of_ble_eq_true rfl) ?_
  refine z_astore_n X (lv' := [(3, .ref r1), (0, .int z), (1, .int (nI y)), (2, .ref a5)]) dX1_overBound_5 rfl (by decide) rfl ?_
  refine z_aload_n X dX1_overBound_6 rfl (j := 0) rfl ?_
  refine z_iload_n X dX1_overBound_7 rfl (j := 2) rfl ?_
  refine z_putW X 0 (C := RX1) (T := TX1) (N := 13) inX1 tyX1 tyX1_ok nmX1 rfl rfl 5 (by decide) fl_X1_26 (fun _ h9 => h9) rfl (ty := .int) (by decide +kernel) rfl rfl (Nat.le_of_ble_eq_true rfl) (ws' := [(r1, .inr (1, [.int z, .null, .null, .ref a5, .null, .int (nI y), .int 0, .int (nI d5), .int (nI (1 + l5)), .int 0, .int 0, .int (nI x5), .int (-1)]))]) rfl dX1_overBound_8 ?_
  refine z_aload_n X dX1_overBound_11 rfl (j := 0) rfl ?_
  refine z_aload_n X dX1_overBound_12 rfl (j := 3) rfl ?_
  refine z_getO X (ci := 1) (C := RX1) (T := TX1) (N := 13) inX1 h5 rfl 6 (by decide) fl_X1_30 (fun _ h9 => h9) rfl dX1_overBound_13 ?_
  refine z_iconst X (v := 1) dX1_overBound_16 (by decide) ?_
  refine z_iload_n X dX1_overBound_17 rfl (j := 2) rfl ?_
  refine z_ishl X (v := ((1 : Int32) <<< (nI y &&& 31))) dX1_overBound_18 rfl ?_
  refine z_iconst X (v := (-1)) dX1_overBound_19 (by decide) ?_
  refine z_ixor X (v := (((1 : Int32) <<< (nI y &&& 31)) ^^^ (-1))) dX1_overBound_20 rfl ?_
  refine z_iand X (v := (nI (nd f5 (2 ^ y)))) dX1_overBound_21 (one_shl_not hy _) ?_
  refine z_putW X 0 (C := RX1) (T := TX1) (N := 13) inX1 tyX1 tyX1_ok nmX1 rfl rfl 6 (by decide) fl_X1_30 (fun _ h9 => h9) rfl (ty := .int) (by decide +kernel) rfl rfl (Nat.le_of_ble_eq_true rfl) (ws' := [(r1, .inr (1, [.int z, .null, .null, .ref a5, .null, .int (nI y), .int (nI (nd f5 (2 ^ y))), .int (nI d5), .int (nI (1 + l5)), .int 0, .int 0, .int (nI x5), .int (-1)]))]) rfl dX1_overBound_22 ?_
  refine z_aload_n X dX1_overBound_25 rfl (j := 0) rfl ?_
  refine z_iconst X (v := 1) dX1_overBound_26 (by decide) ?_
  refine z_aload_n X dX1_overBound_27 rfl (j := 3) rfl ?_
  refine z_getO X (ci := 1) (C := RX1) (T := TX1) (N := 13) inX1 h5 rfl 7 (by decide) fl_X1_33 (fun _ h9 => h9) rfl dX1_overBound_28 ?_
  refine z_iadd X (v := (nI (1 + d5))) dX1_overBound_31 (add_1 _) ?_
  refine z_putW X 0 (C := RX1) (T := TX1) (N := 13) inX1 tyX1 tyX1_ok nmX1 rfl rfl 7 (by decide) fl_X1_33 (fun _ h9 => h9) rfl (ty := .int) (by decide +kernel) rfl rfl (Nat.le_of_ble_eq_true rfl) (ws' := [(r1, .inr (1, [.int z, .null, .null, .ref a5, .null, .int (nI y), .int (nI (nd f5 (2 ^ y))), .int (nI (1 + d5)), .int (nI (1 + l5)), .int 0, .int 0, .int (nI x5), .int (-1)]))]) rfl dX1_overBound_32 ?_
  refine z_aload_n X dX1_overBound_35 rfl (j := 0) rfl ?_
  exact z_endr X (Or.inl ⟨_, rfl⟩) hr [(r1, .inr (1, [.int z, .null, .null, .ref a5, .null, .int (nI y), .int (nI (nd f5 (2 ^ y))), .int (nI (1 + d5)), .int (nI (1 + l5)), .int 0, .int 0, .int (nI x5), .int (-1)]))] [0] rfl rfl rfl rfl dX1_overBound_36
set_option maxHeartbeats 4000000 in
set_option maxRecDepth 100000 in
/-- ofNot(a) -/
theorem m_ofNot (l : Launch) (D : va_G) (cy : Nat → ClassId) (O : Nat × va_E → Prop) {a5 f5 d5 l5 u5 w5 x5 : Nat} {p51 p52 p53 p54 : Value} {k5 v5 o5 : Int32} (h5 : O (a5, .inr (1, [.int k5, p51, p52, p53, p54, .int v5, .int (nI f5), .int (nI d5), .int (nI l5), .int (nI u5), .int (nI w5), .int (nI x5), .int o5]))) : Cr l yX1_ofNot (.code yX1_ofNot cX1_ofNot 2 (some (.object "Thimble$Formula")) :: WALL) ({ frames := 3, cells := 1, slots := 13, locals := 56 }) D cy O [.ref a5] [] 1 13 (fun (r : Nat) (w : va_W) => w = [(r, .inr (1, [.int 2, .null, .null, .ref a5, .null, .int 0, .int (nI f5), .int (nI d5), .int (nI (1 + l5)), .int (nI w5), .int (nI u5), .int (nI x5), .int (-1)]))]) := by
  refine z_metr (by decide) rfl rfl (Nat.le_of_ble_eq_true rfl) ?_
  intro p e s m args below meth c X hr hin
  refine z_eq (ws' := []) (lv' := [(0, .ref a5)]) (st' := []) rfl rfl rfl ?_
  refine z_iconst X (v := 2) dX1_ofNot_0 (by decide) ?_
  refine z_aload_n X dX1_ofNot_1 rfl (j := 0) rfl ?_
  refine z_retr X (as := [.int 2, .ref a5]) (wc := []) (wr := []) (rest := []) (fun H9 locs9 ls9 hP9 hS9 hl9 hb9 hp9 => va_runS (As := [.int 2, .ref a5]) (rest := []) X.fix (m_over l D cy O (z := 2) h5 H9.size) (va_cwS 2 X.hts (gS ml_X1_66 sm_X1_over ni_X1 cd_X1_over) rfl rfl rfl (by decide +kernel) ⟨Nat.le_of_ble_eq_true rfl, Nat.le_of_ble_eq_true rfl⟩) ⟨hb9, hp9⟩ rfl rfl hl9.1 rfl (lv_room (Nat.le_of_ble_eq_true rfl)) dX1_ofNot_2 ⟨Nat.le_of_ble_eq_true rfl, Nat.le_of_ble_eq_true rfl⟩) [] [] rfl rfl rfl rfl rfl (by decide) (fun _ h => Or.inl h) (fun r1 w1 h2 => ?_)
  subst h2
  refine z_eq (ws' := [(r1, .inr (1, [.int 2, .null, .null, .ref a5, .null, .int 0, .int 0, .int (nI d5), .int (nI (1 + l5)), .int 0, .int 0, .int (nI x5), .int (-1)]))]) (lv' := [(0, .ref a5)]) (st' := [.ref r1]) rfl rfl rfl ?_
  refine z_widen (k' := 1) (n' := 13) (Nat.le_of_ble_eq_true rfl) (Nat.le_of_ble_eq_true rfl) ?_
  refine z_astore_n X (lv' := [(1, .ref r1), (0, .ref a5)]) dX1_ofNot_5 rfl (by decide) rfl ?_
  refine z_aload_n X dX1_ofNot_6 rfl (j := 0) rfl ?_
  refine z_aload_n X dX1_ofNot_7 rfl (j := 1) rfl ?_
  refine z_getO X (ci := 1) (C := RX1) (T := TX1) (N := 13) inX1 h5 rfl 6 (by decide) fl_X1_30 (fun _ h9 => h9) rfl dX1_ofNot_8 ?_
  refine z_putW X 0 (C := RX1) (T := TX1) (N := 13) inX1 tyX1 tyX1_ok nmX1 rfl rfl 6 (by decide) fl_X1_30 (fun _ h9 => h9) rfl (ty := .int) (by decide +kernel) rfl rfl (Nat.le_of_ble_eq_true rfl) (ws' := [(r1, .inr (1, [.int 2, .null, .null, .ref a5, .null, .int 0, .int (nI f5), .int (nI d5), .int (nI (1 + l5)), .int 0, .int 0, .int (nI x5), .int (-1)]))]) rfl dX1_ofNot_11 ?_
  refine z_aload_n X dX1_ofNot_14 rfl (j := 0) rfl ?_
  refine z_aload_n X dX1_ofNot_15 rfl (j := 1) rfl ?_
  refine z_getO X (ci := 1) (C := RX1) (T := TX1) (N := 13) inX1 h5 rfl 10 (by decide) fl_X1_42 (fun _ h9 => h9) rfl dX1_ofNot_16 ?_
  refine z_putW X 0 (C := RX1) (T := TX1) (N := 13) inX1 tyX1 tyX1_ok nmX1 rfl rfl 9 (by decide) fl_X1_39 (fun _ h9 => h9) rfl (ty := .int) (by decide +kernel) rfl rfl (Nat.le_of_ble_eq_true rfl) (ws' := [(r1, .inr (1, [.int 2, .null, .null, .ref a5, .null, .int 0, .int (nI f5), .int (nI d5), .int (nI (1 + l5)), .int (nI w5), .int 0, .int (nI x5), .int (-1)]))]) rfl dX1_ofNot_19 ?_
  refine z_aload_n X dX1_ofNot_22 rfl (j := 0) rfl ?_
  refine z_aload_n X dX1_ofNot_23 rfl (j := 1) rfl ?_
  refine z_getO X (ci := 1) (C := RX1) (T := TX1) (N := 13) inX1 h5 rfl 9 (by decide) fl_X1_39 (fun _ h9 => h9) rfl dX1_ofNot_24 ?_
  refine z_putW X 0 (C := RX1) (T := TX1) (N := 13) inX1 tyX1 tyX1_ok nmX1 rfl rfl 10 (by decide) fl_X1_42 (fun _ h9 => h9) rfl (ty := .int) (by decide +kernel) rfl rfl (Nat.le_of_ble_eq_true rfl) (ws' := [(r1, .inr (1, [.int 2, .null, .null, .ref a5, .null, .int 0, .int (nI f5), .int (nI d5), .int (nI (1 + l5)), .int (nI w5), .int (nI u5), .int (nI x5), .int (-1)]))]) rfl dX1_ofNot_27 ?_
  refine z_aload_n X dX1_ofNot_30 rfl (j := 0) rfl ?_
  exact z_endr X (Or.inl ⟨_, rfl⟩) hr [(r1, .inr (1, [.int 2, .null, .null, .ref a5, .null, .int 0, .int (nI f5), .int (nI d5), .int (nI (1 + l5)), .int (nI w5), .int (nI u5), .int (nI x5), .int (-1)]))] [0] rfl rfl rfl rfl dX1_ofNot_31
set_option maxHeartbeats 4000000 in
set_option maxRecDepth 100000 in
/-- ofEither(a, b) -/
theorem m_ofEither (l : Launch) (D : va_G) (cy : Nat → ClassId) (O : Nat × va_E → Prop) {a5 f5 d5 l5 u5 w5 x5 : Nat} {p51 p52 p53 p54 : Value} {k5 v5 o5 : Int32} (h5 : O (a5, .inr (1, [.int k5, p51, p52, p53, p54, .int v5, .int (nI f5), .int (nI d5), .int (nI l5), .int (nI u5), .int (nI w5), .int (nI x5), .int o5]))) {a6 f6 d6 l6 u6 w6 x6 : Nat} {p61 p62 p63 p64 : Value} {k6 v6 o6 : Int32} (h6 : O (a6, .inr (1, [.int k6, p61, p62, p63, p64, .int v6, .int (nI f6), .int (nI d6), .int (nI l6), .int (nI u6), .int (nI w6), .int (nI x6), .int o6]))) (hd5 : d5 < 2 ^ 31) (hd6 : d6 < 2 ^ 31) : Cr l yX1_ofEither (.code yX1_ofEither cX1_ofEither 3 (some (.object "Thimble$Formula")) :: WALL) ({ frames := 4, cells := 1, slots := 13, locals := 79 }) D cy O [.ref a5, .ref a6] [] 1 13 (fun (r : Nat) (w : va_W) => w = [(r, .inr (1, [.int 4, .null, .null, .ref a5, .ref a6, .int 0, .int (nI (f5 ||| f6)), .int (nI (max d5 d6)), .int (nI (1 + l5 + l6)), .int (nI (u5 &&& u6)), .int (nI (w5 ||| w6)), .int (nI (x5 ||| x6)), .int (-1)]))]) := by
  refine z_metr (by decide) rfl rfl (Nat.le_of_ble_eq_true rfl) ?_
  intro p e s m args below meth c X hr hin
  refine z_eq (ws' := []) (lv' := [(0, .ref a5), (1, .ref a6)]) (st' := []) rfl rfl rfl ?_
  refine z_iconst X (v := 4) dX1_ofEither_0 (by decide) ?_
  refine z_aload_n X dX1_ofEither_1 rfl (j := 0) rfl ?_
  refine z_aload_n X dX1_ofEither_2 rfl (j := 1) rfl ?_
  refine z_retr X (as := [.int 4, .ref a5, .ref a6]) (wc := []) (wr := []) (rest := []) (fun H9 locs9 ls9 hP9 hS9 hl9 hb9 hp9 => va_runS (As := [.int 4, .ref a5, .ref a6]) (rest := []) X.fix (m_overTwo l D cy O (z := 4) h5 h6 hd5 hd6 H9.size) (va_cwS 3 X.hts (gS ml_X1_70 sm_X1_overTwo ni_X1 cd_X1_overTwo) rfl rfl rfl (by decide +kernel) ⟨Nat.le_of_ble_eq_true rfl, Nat.le_of_ble_eq_true rfl⟩) ⟨hb9, hp9⟩ rfl rfl hl9.1 rfl (lv_room (Nat.le_of_ble_eq_true rfl)) dX1_ofEither_3 ⟨Nat.le_of_ble_eq_true rfl, Nat.le_of_ble_eq_true rfl⟩) [] [] rfl rfl rfl rfl rfl (by decide) (fun _ h => Or.inl h) (fun r1 w1 h2 => ?_)
  subst h2
  refine z_eq (ws' := [(r1, .inr (1, [.int 4, .null, .null, .ref a5, .ref a6, .int 0, .int (nI (f5 ||| f6)), .int (nI (max d5 d6)), .int (nI (1 + l5 + l6)), .int 0, .int 0, .int (nI (x5 ||| x6)), .int (-1)]))]) (lv' := [(0, .ref a5), (1, .ref a6)]) (st' := [.ref r1]) rfl rfl rfl ?_
  refine z_widen (k' := 1) (n' := 13) (Nat.le_of_ble_eq_true rfl) (Nat.le_of_ble_eq_true rfl) ?_
  refine z_astore_n X (lv' := [(2, .ref r1), (0, .ref a5), (1, .ref a6)]) dX1_ofEither_6 rfl (by decide) rfl ?_
  refine z_aload_n X dX1_ofEither_7 rfl (j := 0) rfl ?_
  refine z_aload_n X dX1_ofEither_8 rfl (j := 1) rfl ?_
  refine z_getO X (ci := 1) (C := RX1) (T := TX1) (N := 13) inX1 h5 rfl 9 (by decide) fl_X1_39 (fun _ h9 => h9) rfl dX1_ofEither_9 ?_
  refine z_aload_n X dX1_ofEither_12 rfl (j := 2) rfl ?_
  refine z_getO X (ci := 1) (C := RX1) (T := TX1) (N := 13) inX1 h6 rfl 9 (by decide) fl_X1_39 (fun _ h9 => h9) rfl dX1_ofEither_13 ?_
  refine z_iand X (v := (nI (u5 &&& u6))) dX1_ofEither_16 (nI_and _ _) ?_
  refine z_putW X 0 (C := RX1) (T := TX1) (N := 13) inX1 tyX1 tyX1_ok nmX1 rfl rfl 9 (by decide) fl_X1_39 (fun _ h9 => h9) rfl (ty := .int) (by decide +kernel) rfl rfl (Nat.le_of_ble_eq_true rfl) (ws' := [(r1, .inr (1, [.int 4, .null, .null, .ref a5, .ref a6, .int 0, .int (nI (f5 ||| f6)), .int (nI (max d5 d6)), .int (nI (1 + l5 + l6)), .int (nI (u5 &&& u6)), .int 0, .int (nI (x5 ||| x6)), .int (-1)]))]) rfl dX1_ofEither_17 ?_
  refine z_aload_n X dX1_ofEither_20 rfl (j := 0) rfl ?_
  refine z_aload_n X dX1_ofEither_21 rfl (j := 1) rfl ?_
  refine z_getO X (ci := 1) (C := RX1) (T := TX1) (N := 13) inX1 h5 rfl 10 (by decide) fl_X1_42 (fun _ h9 => h9) rfl dX1_ofEither_22 ?_
  refine z_aload_n X dX1_ofEither_25 rfl (j := 2) rfl ?_
  refine z_getO X (ci := 1) (C := RX1) (T := TX1) (N := 13) inX1 h6 rfl 10 (by decide) fl_X1_42 (fun _ h9 => h9) rfl dX1_ofEither_26 ?_
  refine z_ior X (v := (nI (w5 ||| w6))) dX1_ofEither_29 (nI_or _ _) ?_
  refine z_putW X 0 (C := RX1) (T := TX1) (N := 13) inX1 tyX1 tyX1_ok nmX1 rfl rfl 10 (by decide) fl_X1_42 (fun _ h9 => h9) rfl (ty := .int) (by decide +kernel) rfl rfl (Nat.le_of_ble_eq_true rfl) (ws' := [(r1, .inr (1, [.int 4, .null, .null, .ref a5, .ref a6, .int 0, .int (nI (f5 ||| f6)), .int (nI (max d5 d6)), .int (nI (1 + l5 + l6)), .int (nI (u5 &&& u6)), .int (nI (w5 ||| w6)), .int (nI (x5 ||| x6)), .int (-1)]))]) rfl dX1_ofEither_30 ?_
  refine z_aload_n X dX1_ofEither_33 rfl (j := 0) rfl ?_
  exact z_endr X (Or.inl ⟨_, rfl⟩) hr [(r1, .inr (1, [.int 4, .null, .null, .ref a5, .ref a6, .int 0, .int (nI (f5 ||| f6)), .int (nI (max d5 d6)), .int (nI (1 + l5 + l6)), .int (nI (u5 &&& u6)), .int (nI (w5 ||| w6)), .int (nI (x5 ||| x6)), .int (-1)]))] [0] rfl rfl rfl rfl dX1_ofEither_34
set_option maxHeartbeats 4000000 in
set_option maxRecDepth 100000 in
/-- ofSome(v, a) -/
theorem m_ofSome (l : Launch) (D : va_G) (cy : Nat → ClassId) (O : Nat × va_E → Prop) {y : Nat} {a5 f5 d5 l5 u5 w5 x5 : Nat} {p51 p52 p53 p54 : Value} {k5 v5 o5 : Int32} (h5 : O (a5, .inr (1, [.int k5, p51, p52, p53, p54, .int v5, .int (nI f5), .int (nI d5), .int (nI l5), .int (nI u5), .int (nI w5), .int (nI x5), .int o5]))) (hy : y < 31) : Cr l yX1_ofSome (.code yX1_ofSome cX1_ofSome 3 (some (.object "Thimble$Formula")) :: WALL) ({ frames := 4, cells := 1, slots := 13, locals := 79 }) D cy O [.int (nI y), .ref a5] [] 1 13 (fun (r : Nat) (w : va_W) => w = [(r, .inr (1, [.int 5, .null, .null, .ref a5, .null, .int (nI y), .int (nI (nd f5 (2 ^ y))), .int (nI (1 + d5)), .int (nI (1 + l5)), .int (nI (nd u5 (2 ^ y))), .int 0, .int (nI x5), .int (-1)]))]) := by
  refine z_metr (by decide) rfl rfl (Nat.le_of_ble_eq_true rfl) ?_
  intro p e s m args below meth c X hr hin
  refine z_eq (ws' := []) (lv' := [(0, .int (nI y)), (1, .ref a5)]) (st' := []) rfl rfl rfl ?_
  refine z_iconst X (v := 5) dX1_ofSome_0 (by decide) ?_
  refine z_iload_n X dX1_ofSome_1 rfl (j := 0) rfl ?_
  refine z_aload_n X dX1_ofSome_2 rfl (j := 1) rfl ?_
  refine z_retr X (as := [.int 5, .int (nI y), .ref a5]) (wc := []) (wr := []) (rest := []) (fun H9 locs9 ls9 hP9 hS9 hl9 hb9 hp9 => va_runS (As := [.int 5, .int (nI y), .ref a5]) (rest := []) X.fix (m_overBound l D cy O (z := 5) h5 hy H9.size) (va_cwS 3 X.hts (gS ml_X1_78 sm_X1_overBound ni_X1 cd_X1_overBound) rfl rfl rfl (by decide +kernel) ⟨Nat.le_of_ble_eq_true rfl, Nat.le_of_ble_eq_true rfl⟩) ⟨hb9, hp9⟩ rfl rfl hl9.1 rfl (lv_room (Nat.le_of_ble_eq_true rfl)) dX1_ofSome_3 ⟨Nat.le_of_ble_eq_true rfl, Nat.le_of_ble_eq_true rfl⟩) [] [] rfl rfl rfl rfl rfl (by decide) (fun _ h => Or.inl h) (fun r1 w1 h2 => ?_)
  subst h2
  refine z_eq (ws' := [(r1, .inr (1, [.int 5, .null, .null, .ref a5, .null, .int (nI y), .int (nI (nd f5 (2 ^ y))), .int (nI (1 + d5)), .int (nI (1 + l5)), .int 0, .int 0, .int (nI x5), .int (-1)]))]) (lv' := [(0, .int (nI y)), (1, .ref a5)]) (st' := [.ref r1]) rfl rfl rfl ?_
  refine z_widen (k' := 1) (n' := 13) (Nat.le_of_ble_eq_true rfl) (Nat.le_of_ble_eq_true rfl) ?_
  refine z_astore_n X (lv' := [(2, .ref r1), (0, .int (nI y)), (1, .ref a5)]) dX1_ofSome_6 rfl (by decide) rfl ?_
  refine z_aload_n X dX1_ofSome_7 rfl (j := 0) rfl ?_
  refine z_aload_n X dX1_ofSome_8 rfl (j := 2) rfl ?_
  refine z_getO X (ci := 1) (C := RX1) (T := TX1) (N := 13) inX1 h5 rfl 9 (by decide) fl_X1_39 (fun _ h9 => h9) rfl dX1_ofSome_9 ?_
  refine z_iconst X (v := 1) dX1_ofSome_12 (by decide) ?_
  refine z_iload_n X dX1_ofSome_13 rfl (j := 1) rfl ?_
  refine z_ishl X (v := ((1 : Int32) <<< (nI y &&& 31))) dX1_ofSome_14 rfl ?_
  refine z_iconst X (v := (-1)) dX1_ofSome_15 (by decide) ?_
  refine z_ixor X (v := (((1 : Int32) <<< (nI y &&& 31)) ^^^ (-1))) dX1_ofSome_16 rfl ?_
  refine z_iand X (v := (nI (nd u5 (2 ^ y)))) dX1_ofSome_17 (one_shl_not hy _) ?_
  refine z_putW X 0 (C := RX1) (T := TX1) (N := 13) inX1 tyX1 tyX1_ok nmX1 rfl rfl 9 (by decide) fl_X1_39 (fun _ h9 => h9) rfl (ty := .int) (by decide +kernel) rfl rfl (Nat.le_of_ble_eq_true rfl) (ws' := [(r1, .inr (1, [.int 5, .null, .null, .ref a5, .null, .int (nI y), .int (nI (nd f5 (2 ^ y))), .int (nI (1 + d5)), .int (nI (1 + l5)), .int (nI (nd u5 (2 ^ y))), .int 0, .int (nI x5), .int (-1)]))]) rfl dX1_ofSome_18 ?_
  refine z_aload_n X dX1_ofSome_21 rfl (j := 0) rfl ?_
  exact z_endr X (Or.inl ⟨_, rfl⟩) hr [(r1, .inr (1, [.int 5, .null, .null, .ref a5, .null, .int (nI y), .int (nI (nd f5 (2 ^ y))), .int (nI (1 + d5)), .int (nI (1 + l5)), .int (nI (nd u5 (2 ^ y))), .int 0, .int (nI x5), .int (-1)]))] [0] rfl rfl rfl rfl dX1_ofSome_22
set_option maxHeartbeats 4000000 in
set_option maxRecDepth 100000 in
/-- ofEvery(v, a) -/
theorem m_ofEvery (l : Launch) (D : va_G) (cy : Nat → ClassId) (O : Nat × va_E → Prop) {y : Nat} {a5 f5 d5 l5 u5 w5 x5 : Nat} {p51 p52 p53 p54 : Value} {k5 v5 o5 : Int32} (h5 : O (a5, .inr (1, [.int k5, p51, p52, p53, p54, .int v5, .int (nI f5), .int (nI d5), .int (nI l5), .int (nI u5), .int (nI w5), .int (nI x5), .int o5]))) (hy : y < 31) : Cr l yX1_ofEvery (.code yX1_ofEvery cX1_ofEvery 3 (some (.object "Thimble$Formula")) :: WALL) ({ frames := 4, cells := 1, slots := 13, locals := 79 }) D cy O [.int (nI y), .ref a5] [] 1 13 (fun (r : Nat) (w : va_W) => w = [(r, .inr (1, [.int 6, .null, .null, .ref a5, .null, .int (nI y), .int (nI (nd f5 (2 ^ y))), .int (nI (1 + d5)), .int (nI (1 + l5)), .int 0, .int (nI (nd w5 (2 ^ y))), .int (nI x5), .int (-1)]))]) := by
  refine z_metr (by decide) rfl rfl (Nat.le_of_ble_eq_true rfl) ?_
  intro p e s m args below meth c X hr hin
  refine z_eq (ws' := []) (lv' := [(0, .int (nI y)), (1, .ref a5)]) (st' := []) rfl rfl rfl ?_
  refine z_bipush X (v := 6) dX1_ofEvery_0 (by decide) ?_
  refine z_iload_n X dX1_ofEvery_2 rfl (j := 0) rfl ?_
  refine z_aload_n X dX1_ofEvery_3 rfl (j := 1) rfl ?_
  refine z_retr X (as := [.int 6, .int (nI y), .ref a5]) (wc := []) (wr := []) (rest := []) (fun H9 locs9 ls9 hP9 hS9 hl9 hb9 hp9 => va_runS (As := [.int 6, .int (nI y), .ref a5]) (rest := []) X.fix (m_overBound l D cy O (z := 6) h5 hy H9.size) (va_cwS 3 X.hts (gS ml_X1_78 sm_X1_overBound ni_X1 cd_X1_overBound) rfl rfl rfl (by decide +kernel) ⟨Nat.le_of_ble_eq_true rfl, Nat.le_of_ble_eq_true rfl⟩) ⟨hb9, hp9⟩ rfl rfl hl9.1 rfl (lv_room (Nat.le_of_ble_eq_true rfl)) dX1_ofEvery_4 ⟨Nat.le_of_ble_eq_true rfl, Nat.le_of_ble_eq_true rfl⟩) [] [] rfl rfl rfl rfl rfl (by decide) (fun _ h => Or.inl h) (fun r1 w1 h2 => ?_)
  subst h2
  refine z_eq (ws' := [(r1, .inr (1, [.int 6, .null, .null, .ref a5, .null, .int (nI y), .int (nI (nd f5 (2 ^ y))), .int (nI (1 + d5)), .int (nI (1 + l5)), .int 0, .int 0, .int (nI x5), .int (-1)]))]) (lv' := [(0, .int (nI y)), (1, .ref a5)]) (st' := [.ref r1]) rfl rfl rfl ?_
  refine z_widen (k' := 1) (n' := 13) (Nat.le_of_ble_eq_true rfl) (Nat.le_of_ble_eq_true rfl) ?_
  refine z_astore_n X (lv' := [(2, .ref r1), (0, .int (nI y)), (1, .ref a5)]) dX1_ofEvery_7 rfl (by decide) rfl ?_
  refine z_aload_n X dX1_ofEvery_8 rfl (j := 0) rfl ?_
  refine z_aload_n X dX1_ofEvery_9 rfl (j := 2) rfl ?_
  refine z_getO X (ci := 1) (C := RX1) (T := TX1) (N := 13) inX1 h5 rfl 10 (by decide) fl_X1_42 (fun _ h9 => h9) rfl dX1_ofEvery_10 ?_
  refine z_iconst X (v := 1) dX1_ofEvery_13 (by decide) ?_
  refine z_iload_n X dX1_ofEvery_14 rfl (j := 1) rfl ?_
  refine z_ishl X (v := ((1 : Int32) <<< (nI y &&& 31))) dX1_ofEvery_15 rfl ?_
  refine z_iconst X (v := (-1)) dX1_ofEvery_16 (by decide) ?_
  refine z_ixor X (v := (((1 : Int32) <<< (nI y &&& 31)) ^^^ (-1))) dX1_ofEvery_17 rfl ?_
  refine z_iand X (v := (nI (nd w5 (2 ^ y)))) dX1_ofEvery_18 (one_shl_not hy _) ?_
  refine z_putW X 0 (C := RX1) (T := TX1) (N := 13) inX1 tyX1 tyX1_ok nmX1 rfl rfl 10 (by decide) fl_X1_42 (fun _ h9 => h9) rfl (ty := .int) (by decide +kernel) rfl rfl (Nat.le_of_ble_eq_true rfl) (ws' := [(r1, .inr (1, [.int 6, .null, .null, .ref a5, .null, .int (nI y), .int (nI (nd f5 (2 ^ y))), .int (nI (1 + d5)), .int (nI (1 + l5)), .int 0, .int (nI (nd w5 (2 ^ y))), .int (nI x5), .int (-1)]))]) rfl dX1_ofEvery_19 ?_
  refine z_aload_n X dX1_ofEvery_22 rfl (j := 0) rfl ?_
  exact z_endr X (Or.inl ⟨_, rfl⟩) hr [(r1, .inr (1, [.int 6, .null, .null, .ref a5, .null, .int (nI y), .int (nI (nd f5 (2 ^ y))), .int (nI (1 + d5)), .int (nI (1 + l5)), .int 0, .int (nI (nd w5 (2 ^ y))), .int (nI x5), .int (-1)]))] [0] rfl rfl rfl rfl dX1_ofEvery_23
