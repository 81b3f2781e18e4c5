set_option maxHeartbeats 4000000 in
set_option maxRecDepth 100000 in
/-- markPlace(fact, place) -/
theorem m_markPlace (l : Launch) (D : va_G) (cy : Nat → ClassId) (O : Nat × va_E → Prop) {a ar ah ak P M V i u : Nat} {x hv kv : Nat → Nat} (hR : O (ar, .inl (cy 0, 25, .inl (nA x)))) (hP : 1 ≤ P) (hP3 : P ≤ 3) (hu : u < P) (hi : i < 25) (hx : ∀ j, j < 25 → x j < 2 ^ 31) : Cv l yX4_markPlace (.code yX4_markPlace cX4_markPlace 5 none :: WALL) ({ frames := 1, cells := 0, slots := 0, locals := 22 }) D cy O [.ref a, .int (nI i), .int (nI u)] [(a, .inr (4, [.int (nI P), .ref ar, .int (nI M), .int (nI V), .ref ah, .ref ak])), (ah, .inl (cy 0, 24, .inl (nA hv))), (ak, .inl (cy 0, 3, .inl (nA kv)))] 0 0 (fun (w : va_W) => w = [(a, .inr (4, [.int (nI P), .ref ar, .int (nI M), .int (nI (mk1 P (x i) u i (V, hv, kv)).1), .ref ah, .ref ak])), (ah, .inl (cy 0, 24, .inl (nA (mk1 P (x i) u i (V, hv, kv)).2.1))), (ak, .inl (cy 0, 3, .inl (nA (mk1 P (x i) u i (V, hv, kv)).2.2)))]) := by
  refine z_metv (by decide) rfl rfl (Nat.le_of_ble_eq_true rfl) ?_
  intro p e s m args below meth c X hr hin
  refine z_eq (ws' := [(a, .inr (4, [.int (nI P), .ref ar, .int (nI M), .int (nI V), .ref ah, .ref ak])), (ah, .inl (cy 0, 24, .inl (nA hv))), (ak, .inl (cy 0, 3, .inl (nA kv)))]) (lv' := [(0, .ref a), (1, .int (nI i)), (2, .int (nI u))]) (st' := []) rfl rfl rfl ?_
  have hd := dg_lt P (x i) u
  have L : ∀ (d : Nat) (j : Nat), j + d = u → Zz D (va_A [(a, .inr (4, [.int (nI P), .ref ar, .int (nI M), .int (nI V), .ref ah, .ref ak])), (ah, .inl (cy 0, 24, .inl (nA hv))), (ak, .inl (cy 0, 3, .inl (nA kv)))] s.heap.size) 5 p l e ({ frames := 1, cells := 0, slots := 0, locals := 22 }) s m args below meth c (MQ below (va_Qv (fun (w : va_W) => w = [(a, .inr (4, [.int (nI P), .ref ar, .int (nI M), .int (nI (mk1 P (x i) u i (V, hv, kv)).1), .ref ah, .ref ak])), (ah, .inl (cy 0, 24, .inl (nA (mk1 P (x i) u i (V, hv, kv)).2.1))), (ak, .inl (cy 0, 3, .inl (nA (mk1 P (x i) u i (V, hv, kv)).2.2)))]) (end_ D [(a, .inr (4, [.int (nI P), .ref ar, .int (nI M), .int (nI V), .ref ah, .ref ak])), (ah, .inl (cy 0, 24, .inl (nA hv))), (ak, .inl (cy 0, 3, .inl (nA kv)))] s.heap.size) (va_A [(a, .inr (4, [.int (nI P), .ref ar, .int (nI M), .int (nI V), .ref ah, .ref ak])), (ah, .inl (cy 0, 24, .inl (nA hv))), (ak, .inl (cy 0, 3, .inl (nA kv)))] s.heap.size)) args s 0 0 (va_A [(a, .inr (4, [.int (nI P), .ref ar, .int (nI M), .int (nI V), .ref ah, .ref ak])), (ah, .inl (cy 0, 24, .inl (nA hv))), (ak, .inl (cy 0, 3, .inl (nA kv)))] s.heap.size)) [(a, .inr (4, [.int (nI P), .ref ar, .int (nI M), .int (nI (V ||| 2 ^ dg P (x i) u)), .ref ah, .ref ak])), (ah, .inl (cy 0, 24, .inl (nA (up hv (u * 8 + dg P (x i) u) (hv (u * 8 + dg P (x i) u) ||| 2 ^ i))))), (ak, .inl (cy 0, 3, .inl (nA (kst P (x i) u i kv j))))] [(4, .int (nI j)), (3, .int (nI (dg P (x i) u))), (0, .ref a), (1, .int (nI i)), (2, .int (nI u))] 0 0 39 [] := by
    intro d
    induction d with
    | zero =>
      intro j hL0
      refine z_iload X dX4_markPlace_39 (j := 0) rfl ?_
      refine z_iload_n X dX4_markPlace_41 rfl (j := 4) rfl ?_
      refine z_icmp_ge X (tgt := 79) dX4_markPlace_42 (by decide) (fun c_42 => ?_) (fun c9 => absurd (by rw [show j = u by omega]; exact nI_le (Nat.le_refl _) (by omega)) c9)
      exact z_endv X hr [(a, .inr (4, [.int (nI P), .ref ar, .int (nI M), .int (nI (V ||| 2 ^ dg P (x i) u)), .ref ah, .ref ak])), (ah, .inl (cy 0, 24, .inl (nA (up hv (u * 8 + dg P (x i) u) (hv (u * 8 + dg P (x i) u) ||| 2 ^ i))))), (ak, .inl (cy 0, 3, .inl (nA (kst P (x i) u i kv j))))] [0, 1, 2] rfl rfl rfl (by rw [show j = u by omega]; rfl) dX4_markPlace_79
    | succ d ih =>
      intro j hL0
      have hdj := dg_lt P (x i) j
      refine z_iload X dX4_markPlace_39 (j := 0) rfl ?_
      refine z_iload_n X dX4_markPlace_41 rfl (j := 4) rfl ?_
      refine z_icmp_ge X (tgt := 79) dX4_markPlace_42 (by decide) (fun c9 => absurd c9 (nI_ge (by omega) (by omega))) (fun c_42 => ?_)
      refine z_aload_n X dX4_markPlace_45 rfl (j := 2) rfl ?_
      refine z_iload_n X dX4_markPlace_46 rfl (j := 3) rfl ?_
      refine z_iload X dX4_markPlace_47 (j := 0) rfl ?_
      refine z_reti X (as := [.ref a, .int (nI i), .int (nI j)]) (wc := []) (wr := [(a, .inr (4, [.int (nI P), .ref ar, .int (nI M), .int (nI (V ||| 2 ^ dg P (x i) u)), .ref ah, .ref ak])), (ah, .inl (cy 0, 24, .inl (nA (up hv (u * 8 + dg P (x i) u) (hv (u * 8 + dg P (x i) u) ||| 2 ^ i))))), (ak, .inl (cy 0, 3, .inl (nA (kst P (x i) u i kv j))))]) (rest := []) (fun H9 locs9 ls9 hP9 hS9 hl9 hb9 hp9 => va_runV (As := [.int (nI i), .int (nI j)]) (rest := []) X.fix (m_valueAt l D cy (fun q => O q ∨ q ∈ ([(a, .inr (4, [.int (nI P), .ref ar, .int (nI M), .int (nI (V ||| 2 ^ dg P (x i) u)), .ref ah, .ref ak])), (ah, .inl (cy 0, 24, .inl (nA (up hv (u * 8 + dg P (x i) u) (hv (u * 8 + dg P (x i) u) ||| 2 ^ i))))), (ak, .inl (cy 0, 3, .inl (nA (kst P (x i) u i kv j))))] : va_W)) (Or.inr (List.mem_of_getElem? (i := 0) rfl)) (Or.inl hR) hP hP3 (by omega) hi (f := nA x) rfl (hx i hi) H9.size) (cwV 2 X.hts (gV ml_X4_42 im_X4_valueAt se_X4_valueAt ni_X4 cd_X4_valueAt) rfl rfl rfl (by decide +kernel) ⟨Nat.le_of_ble_eq_true rfl, Nat.le_of_ble_eq_true rfl⟩) ⟨hb9, z_recvW X (q0 := 0) (ci := 4) (r := (RX4, TX4, 6)) rfl rfl hP9, hp9⟩ rfl rfl hl9.1 rfl (lv_room (Nat.le_of_ble_eq_true rfl)) dX4_markPlace_49 ⟨Nat.le_of_ble_eq_true rfl, Nat.le_of_ble_eq_true rfl⟩) [] [0, 1, 2] rfl rfl rfl rfl rfl (by decide) (fun q h => h) (fun r1 w2 h3 => ?_)
      obtain ⟨rfl, rfl⟩ := h3
      refine z_eq (ws' := [(a, .inr (4, [.int (nI P), .ref ar, .int (nI M), .int (nI (V ||| 2 ^ dg P (x i) u)), .ref ah, .ref ak])), (ah, .inl (cy 0, 24, .inl (nA (up hv (u * 8 + dg P (x i) u) (hv (u * 8 + dg P (x i) u) ||| 2 ^ i))))), (ak, .inl (cy 0, 3, .inl (nA (kst P (x i) u i kv j))))]) (lv' := [(4, .int (nI j)), (3, .int (nI (dg P (x i) u))), (0, .ref a), (1, .int (nI i)), (2, .int (nI u))]) (st' := [.int (nI (dg P (x i) j))]) rfl rfl rfl ?_
      refine z_widen (k' := 0) (n' := 0) (Nat.le_refl _) (Nat.le_refl _) ?_
      refine z_iload_n X dX4_markPlace_52 rfl (j := 1) rfl ?_
      refine z_icmp_ne X (tgt := 73) dX4_markPlace_53 (by decide) (fun c_53 => ?_) (fun c_53 => ?_)
      · skip
        refine z_iinc X (j := 0) (v := (nI (j + 1))) (lv' := [(4, .int (nI (j + 1))), (3, .int (nI (dg P (x i) u))), (0, .ref a), (1, .int (nI i)), (2, .int (nI u))]) dX4_markPlace_73 rfl (nI_1 j) (by decide) rfl ?_
        refine z_goto X (tgt := 39) dX4_markPlace_76 (by decide) ?_
        refine z_eq (ws' := [(a, .inr (4, [.int (nI P), .ref ar, .int (nI M), .int (nI (V ||| 2 ^ dg P (x i) u)), .ref ah, .ref ak])), (ah, .inl (cy 0, 24, .inl (nA (up hv (u * 8 + dg P (x i) u) (hv (u * 8 + dg P (x i) u) ||| 2 ^ i))))), (ak, .inl (cy 0, 3, .inl (nA (kst P (x i) u i kv (j + 1)))))]) (lv' := [(4, .int (nI (j + 1))), (3, .int (nI (dg P (x i) u))), (0, .ref a), (1, .int (nI i)), (2, .int (nI u))]) (st' := []) (by rw [kst, if_neg (fun z => c_53 (by rw [z]))]) rfl rfl ?_
        exact ih (j + 1) (by omega)
      · skip
        refine z_aload_n X dX4_markPlace_56 rfl (j := 2) rfl ?_
        refine z_getW X 0 (C := RX4) (T := TX4) (N := 6) inX4 rfl rfl 5 (by decide) fl_X4_25 (fun _ h9 => h9) rfl dX4_markPlace_57 ?_
        refine z_iload_n X dX4_markPlace_60 rfl (j := 4) rfl ?_
        refine z_iload X dX4_markPlace_61 (j := 0) rfl ?_
        refine z_iadd X (v := (nI (u + j))) dX4_markPlace_63 (nI_add _ _) ?_
        refine z_iconst X (v := 1) dX4_markPlace_64 (by decide) ?_
        refine z_isub X (v := (nI (u + j - 1))) dX4_markPlace_65 (sub_1 (by omega)) ?_
        refine z_dup2 X dX4_markPlace_66 rfl rfl ?_
        refine z_ialdW X 2 rfl (v := (nI ((kst P (x i) u i kv j) (u + j - 1)))) (vp_in_nI (by omega) (by decide)) (nA_at (by omega)) dX4_markPlace_67 ?_
        refine z_iconst X (v := 1) dX4_markPlace_68 (by decide) ?_
        refine z_iload_n X dX4_markPlace_69 rfl (j := 3) rfl ?_
        refine z_ishl X (v := (nI (2 ^ i))) dX4_markPlace_70 (shl_1 _ (by omega)) ?_
        refine z_ior X (v := (nI ((kst P (x i) u i kv j) (u + j - 1) ||| 2 ^ i))) dX4_markPlace_71 (nI_or _ _) ?_
        refine z_iastW X 2 rfl (vp_in_nI (by omega) (by decide)) (ws' := [(a, .inr (4, [.int (nI P), .ref ar, .int (nI M), .int (nI (V ||| 2 ^ dg P (x i) u)), .ref ah, .ref ak])), (ah, .inl (cy 0, 24, .inl (nA (up hv (u * 8 + dg P (x i) u) (hv (u * 8 + dg P (x i) u) ||| 2 ^ i))))), (ak, .inl (cy 0, 3, .inl (nA (up (kst P (x i) u i kv j) (u + j - 1) ((kst P (x i) u i kv j) (u + j - 1) ||| 2 ^ i)))))]) (by rw [upd_nA' (by omega)]; rfl) dX4_markPlace_72 ?_
        refine z_iinc X (j := 0) (v := (nI (j + 1))) (lv' := [(4, .int (nI (j + 1))), (3, .int (nI (dg P (x i) u))), (0, .ref a), (1, .int (nI i)), (2, .int (nI u))]) dX4_markPlace_73 rfl (nI_1 j) (by decide) rfl ?_
        refine z_goto X (tgt := 39) dX4_markPlace_76 (by decide) ?_
        refine z_eq (ws' := [(a, .inr (4, [.int (nI P), .ref ar, .int (nI M), .int (nI (V ||| 2 ^ dg P (x i) u)), .ref ah, .ref ak])), (ah, .inl (cy 0, 24, .inl (nA (up hv (u * 8 + dg P (x i) u) (hv (u * 8 + dg P (x i) u) ||| 2 ^ i))))), (ak, .inl (cy 0, 3, .inl (nA (kst P (x i) u i kv (j + 1)))))]) (lv' := [(4, .int (nI (j + 1))), (3, .int (nI (dg P (x i) u))), (0, .ref a), (1, .int (nI i)), (2, .int (nI u))]) (st' := []) (by rw [kst, if_pos ((nI_eq (by omega) (by omega)).mp c_53)]) rfl rfl ?_
        exact ih (j + 1) (by omega)
  refine z_aload_n X dX4_markPlace_0 rfl (j := 0) rfl ?_
  refine z_iload_n X dX4_markPlace_1 rfl (j := 1) rfl ?_
  refine z_iload_n X dX4_markPlace_2 rfl (j := 2) rfl ?_
  refine z_reti X (as := [.ref a, .int (nI i), .int (nI u)]) (wc := []) (wr := [(a, .inr (4, [.int (nI P), .ref ar, .int (nI M), .int (nI V), .ref ah, .ref ak])), (ah, .inl (cy 0, 24, .inl (nA hv))), (ak, .inl (cy 0, 3, .inl (nA kv)))]) (rest := []) (fun H9 locs9 ls9 hP9 hS9 hl9 hb9 hp9 => va_runV (As := [.int (nI i), .int (nI u)]) (rest := []) X.fix (m_valueAt l D cy (fun q => O q ∨ q ∈ ([(a, .inr (4, [.int (nI P), .ref ar, .int (nI M), .int (nI V), .ref ah, .ref ak])), (ah, .inl (cy 0, 24, .inl (nA hv))), (ak, .inl (cy 0, 3, .inl (nA kv)))] : va_W)) (Or.inr (List.mem_of_getElem? (i := 0) rfl)) (Or.inl hR) hP hP3 hu hi (f := nA x) rfl (hx i hi) H9.size) (cwV 2 X.hts (gV ml_X4_42 im_X4_valueAt se_X4_valueAt ni_X4 cd_X4_valueAt) rfl rfl rfl (by decide +kernel) ⟨Nat.le_of_ble_eq_true rfl, Nat.le_of_ble_eq_true rfl⟩) ⟨hb9, z_recvW X (q0 := 0) (ci := 4) (r := (RX4, TX4, 6)) rfl rfl hP9, hp9⟩ rfl rfl hl9.1 rfl (lv_room (Nat.le_of_ble_eq_true rfl)) dX4_markPlace_3 ⟨Nat.le_of_ble_eq_true rfl, Nat.le_of_ble_eq_true rfl⟩) [] [0, 1, 2] rfl rfl rfl rfl rfl (by decide) (fun q h => h) (fun r4 w5 h6 => ?_)
  obtain ⟨rfl, rfl⟩ := h6
  refine z_eq (ws' := [(a, .inr (4, [.int (nI P), .ref ar, .int (nI M), .int (nI V), .ref ah, .ref ak])), (ah, .inl (cy 0, 24, .inl (nA hv))), (ak, .inl (cy 0, 3, .inl (nA kv)))]) (lv' := [(0, .ref a), (1, .int (nI i)), (2, .int (nI u))]) (st' := [.int (nI (dg P (x i) u))]) rfl rfl rfl ?_
  refine z_widen (k' := 0) (n' := 0) (Nat.le_refl _) (Nat.le_refl _) ?_
  refine z_istore_n X (lv' := [(3, .int (nI (dg P (x i) u))), (0, .ref a), (1, .int (nI i)), (2, .int (nI u))]) dX4_markPlace_6 rfl (by decide) rfl ?_
  refine z_aload_n X dX4_markPlace_7 rfl (j := 1) rfl ?_
  refine z_dup X dX4_markPlace_8 rfl ?_
  refine z_getW X 0 (C := RX4) (T := TX4) (N := 6) inX4 rfl rfl 3 (by decide) fl_X4_19 (fun _ h9 => h9) rfl dX4_markPlace_9 ?_
  refine z_iconst X (v := 1) dX4_markPlace_12 (by decide) ?_
  refine z_iload_n X dX4_markPlace_13 rfl (j := 0) rfl ?_
  refine z_ishl X (v := (nI (2 ^ dg P (x i) u))) dX4_markPlace_14 (shl_1 _ (by omega)) ?_
  refine z_ior X (v := (nI (V ||| 2 ^ dg P (x i) u))) dX4_markPlace_15 (nI_or _ _) ?_
  refine z_putW X 0 (C := RX4) (T := TX4) (N := 6) inX4 tyX4 tyX4_ok nmX4 rfl rfl 3 (by decide) fl_X4_19 (fun _ h9 => h9) rfl (ty := .int) (by decide +kernel) rfl rfl (Nat.le_of_ble_eq_true rfl) (ws' := [(a, .inr (4, [.int (nI P), .ref ar, .int (nI M), .int (nI (V ||| 2 ^ dg P (x i) u)), .ref ah, .ref ak])), (ah, .inl (cy 0, 24, .inl (nA hv))), (ak, .inl (cy 0, 3, .inl (nA kv)))]) rfl dX4_markPlace_16 ?_
  refine z_aload_n X dX4_markPlace_19 rfl (j := 1) rfl ?_
  refine z_getW X 0 (C := RX4) (T := TX4) (N := 6) inX4 rfl rfl 4 (by decide) fl_X4_22 (fun _ h9 => h9) rfl dX4_markPlace_20 ?_
  refine z_iload_n X dX4_markPlace_23 rfl (j := 3) rfl ?_
  refine z_bipush X (v := 8) dX4_markPlace_24 (by decide) ?_
  refine z_imul X (v := (nI (u * 8))) dX4_markPlace_26 (mul_8 u) ?_
  refine z_iload_n X dX4_markPlace_27 rfl (j := 0) rfl ?_
  refine z_iadd X (v := (nI (u * 8 + dg P (x i) u))) dX4_markPlace_28 (nI_add _ _) ?_
  refine z_dup2 X dX4_markPlace_29 rfl rfl ?_
  refine z_ialdW X 1 rfl (v := (nI (hv (u * 8 + dg P (x i) u)))) (vp_in_nI (by omega) (by decide)) (nA_at (by omega)) dX4_markPlace_30 ?_
  refine z_iconst X (v := 1) dX4_markPlace_31 (by decide) ?_
  refine z_iload_n X dX4_markPlace_32 rfl (j := 2) rfl ?_
  refine z_ishl X (v := (nI (2 ^ i))) dX4_markPlace_33 (shl_1 _ (by omega)) ?_
  refine z_ior X (v := (nI (hv (u * 8 + dg P (x i) u) ||| 2 ^ i))) dX4_markPlace_34 (nI_or _ _) ?_
  refine z_iastW X 1 rfl (vp_in_nI (by omega) (by decide)) (ws' := [(a, .inr (4, [.int (nI P), .ref ar, .int (nI M), .int (nI (V ||| 2 ^ dg P (x i) u)), .ref ah, .ref ak])), (ah, .inl (cy 0, 24, .inl (nA (up hv (u * 8 + dg P (x i) u) (hv (u * 8 + dg P (x i) u) ||| 2 ^ i))))), (ak, .inl (cy 0, 3, .inl (nA kv)))]) (by rw [upd_nA' (by omega)]; rfl) dX4_markPlace_35 ?_
  refine z_iconst X (v := 0) dX4_markPlace_36 (by decide) ?_
  refine z_istore X (lv' := [(4, .int 0), (3, .int (nI (dg P (x i) u))), (0, .ref a), (1, .int (nI i)), (2, .int (nI u))]) dX4_markPlace_37 (by decide) rfl ?_
  refine z_eq (ws' := [(a, .inr (4, [.int (nI P), .ref ar, .int (nI M), .int (nI (V ||| 2 ^ dg P (x i) u)), .ref ah, .ref ak])), (ah, .inl (cy 0, 24, .inl (nA (up hv (u * 8 + dg P (x i) u) (hv (u * 8 + dg P (x i) u) ||| 2 ^ i))))), (ak, .inl (cy 0, 3, .inl (nA (kst P (x i) u i kv 0))))]) (lv' := [(4, .int (nI 0)), (3, .int (nI (dg P (x i) u))), (0, .ref a), (1, .int (nI i)), (2, .int (nI u))]) (st' := []) rfl rfl rfl ?_
  exact L u 0 (by omega)
