set_option maxHeartbeats 4000000 in
set_option maxRecDepth 100000 in
/-- alikeBefore(place) -/
theorem m_alikeBefore (l : Launch) (D : va_G) (cy : Nat → ClassId) (O : Nat × va_E → Prop) {a r tm ta ar ah ak P M n u : Nat} {w3 w4 w5 : Value} {kv t : Nat → Nat} {T : Nat → Int32} (hO : O (a, .inr (0, [.ref r, .ref tm]))) (hQ : O (r, .inr (4, [.int (nI P), .ref ar, .int (nI M), w3, .ref ah, .ref ak]))) (hK : O (ak, .inl (cy 0, 3, .inl (nA kv)))) (hTm : O (tm, .inr (7, [.int (nI n), .ref ta, w4, w5]))) (hTa : O (ta, .inl (cy 0, 3, .inl T))) (hn : n ≤ 3) (hu : u < n) (ht : ∀ k, k < n → T k = nI (t k) ∧ isT (t k)) : Ci l yX0_alikeBefore (.code yX0_alikeBefore cX0_alikeBefore 4 (some .int) :: WALL) ({ frames := 0, cells := 0, slots := 0, locals := 0 }) D cy O [.ref a, .int (nI u)] [] 0 0 (fun (x : Int32) (w : va_W) => x = alb t kv u u ∧ w = []) := by
  refine z_meti (by decide) rfl rfl (Nat.le_of_ble_eq_true rfl) ?_
  intro p e s m args below meth c X hr hin
  refine z_eq (ws' := []) (lv' := [(0, .ref a), (1, .int (nI u))]) (st' := []) rfl rfl rfl ?_
  have L : ∀ (d : Nat) (j : Nat), j + d = u → Zz D (va_A [] s.heap.size) 4 p l e ({ frames := 0, cells := 0, slots := 0, locals := 0 }) s m args below meth c (MQ below (va_Qi (fun (x : Int32) (w : va_W) => x = alb t kv u u ∧ w = []) (end_ D [] s.heap.size) (va_A [] s.heap.size)) args s 0 0 (va_A [] s.heap.size)) [] [(3, .int (nI j)), (2, .int (alb t kv u j)), (0, .ref a), (1, .int (nI u))] 0 0 4 [] := by
    intro d
    induction d with
    | zero =>
      intro j hL0
      refine z_iload_n X dX0_alikeBefore_4 rfl (j := 0) rfl ?_
      refine z_iload_n X dX0_alikeBefore_5 rfl (j := 3) rfl ?_
      refine z_icmp_ge X (tgt := 52) dX0_alikeBefore_6 (by decide) (fun c_6 => ?_) (fun c9 => absurd (by rw [show j = u by omega]; exact nI_le (Nat.le_refl _) (by omega)) c9)
      refine z_iload_n X dX0_alikeBefore_52 rfl (j := 1) rfl ?_
      exact z_endi X hr [] [] rfl rfl rfl ⟨(by rw [show j = u by omega]), rfl⟩ dX0_alikeBefore_53
    | succ d ih =>
      intro j hL0
      have h1 := (ht j (by omega)).2
      have h2 := (ht u (by omega)).2
      unfold isT at h1 h2
      refine z_iload_n X dX0_alikeBefore_4 rfl (j := 0) rfl ?_
      refine z_iload_n X dX0_alikeBefore_5 rfl (j := 3) rfl ?_
      refine z_icmp_ge X (tgt := 52) dX0_alikeBefore_6 (by decide) (fun c9 => absurd c9 (nI_ge (by omega) (by omega))) (fun c_6 => ?_)
      refine z_aload_n X dX0_alikeBefore_9 rfl (j := 2) rfl ?_
      refine z_getO X (ci := 0) (C := RX0) (T := TX0) (N := 2) inX0 hO rfl 1 (by decide) fl_X0_15 (fun _ h9 => h9) rfl dX0_alikeBefore_10 ?_
      refine z_getO X (ci := 7) (C := RX7) (T := TX7) (N := 4) inX7 hTm rfl 1 (by decide) fl_X0_40 (fun _ h9 => h9) rfl dX0_alikeBefore_13 ?_
      refine z_iload_n X dX0_alikeBefore_16 rfl (j := 0) rfl ?_
      refine z_ialdO X hTa (v := (nI (t j))) (vp_in_nI (by omega) (by decide)) (at_nI (by omega) (ht j (by omega)).1) dX0_alikeBefore_17 ?_
      refine z_aload_n X dX0_alikeBefore_18 rfl (j := 2) rfl ?_
      refine z_getO X (ci := 0) (C := RX0) (T := TX0) (N := 2) inX0 hO rfl 1 (by decide) fl_X0_15 (fun _ h9 => h9) rfl dX0_alikeBefore_19 ?_
      refine z_getO X (ci := 7) (C := RX7) (T := TX7) (N := 4) inX7 hTm rfl 1 (by decide) fl_X0_40 (fun _ h9 => h9) rfl dX0_alikeBefore_22 ?_
      refine z_iload_n X dX0_alikeBefore_25 rfl (j := 3) rfl ?_
      refine z_ialdO X hTa (v := (nI (t u))) (vp_in_nI (by omega) (by decide)) (at_nI (by omega) (ht u (by omega)).1) dX0_alikeBefore_26 ?_
      refine z_icmp_ne X (tgt := 46) dX0_alikeBefore_27 (by decide) (fun c_27 => ?_) (fun c_27 => ?_)
      · skip
        refine z_iinc X (j := 0) (v := (nI (j + 1))) (lv' := [(3, .int (nI (j + 1))), (2, .int (alb t kv u j)), (0, .ref a), (1, .int (nI u))]) dX0_alikeBefore_46 rfl (nI_1 j) (by decide) rfl ?_
        refine z_goto X (tgt := 4) dX0_alikeBefore_49 (by decide) ?_
        refine z_lv [0, 1, 2, 3] (lv' := [(3, .int (nI (j + 1))), (2, .int (alb t kv u j)), (0, .ref a), (1, .int (nI u))]) rfl ?_
        refine z_eq (ws' := []) (lv' := [(3, .int (nI (j + 1))), (2, .int (alb t kv u (j + 1))), (0, .ref a), (1, .int (nI u))]) (st' := []) rfl (by rw [alb, if_neg (fun z => c_27 (by rw [z]))]) rfl ?_
        exact ih (j + 1) (by omega)
      · skip
        refine z_iload_n X dX0_alikeBefore_30 rfl (j := 1) rfl ?_
        refine z_aload_n X dX0_alikeBefore_31 rfl (j := 2) rfl ?_
        refine z_getO X (ci := 0) (C := RX0) (T := TX0) (N := 2) inX0 hO rfl 0 (by decide) fl_X0_9 (fun _ h9 => h9) rfl dX0_alikeBefore_32 ?_
        refine z_getO X (ci := 4) (C := RX4) (T := TX4) (N := 6) inX4 hQ rfl 5 (by decide) fl_X0_43 (fun _ h9 => h9) rfl dX0_alikeBefore_35 ?_
        refine z_iload_n X dX0_alikeBefore_38 rfl (j := 3) rfl ?_
        refine z_iload_n X dX0_alikeBefore_39 rfl (j := 0) rfl ?_
        refine z_iadd X (v := (nI (u + j))) dX0_alikeBefore_40 (nI_add _ _) ?_
        refine z_iconst X (v := 1) dX0_alikeBefore_41 (by decide) ?_
        refine z_isub X (v := (nI (u + j - 1))) dX0_alikeBefore_42 (sub_1 (by omega)) ?_
        refine z_ialdO X hK (v := (nI (kv (u + j - 1)))) (vp_in_nI (by omega) (by decide)) (nA_at (by omega)) dX0_alikeBefore_43 ?_
        refine z_iand X (v := (alb t kv u j &&& nI (kv (u + j - 1)))) dX0_alikeBefore_44 rfl ?_
        refine z_istore_n X (lv' := [(2, .int (alb t kv u j &&& nI (kv (u + j - 1)))), (3, .int (nI j)), (0, .ref a), (1, .int (nI u))]) dX0_alikeBefore_45 rfl (by decide) rfl ?_
        refine z_iinc X (j := 1) (v := (nI (j + 1))) (lv' := [(3, .int (nI (j + 1))), (2, .int (alb t kv u j &&& nI (kv (u + j - 1)))), (0, .ref a), (1, .int (nI u))]) dX0_alikeBefore_46 rfl (nI_1 j) (by decide) rfl ?_
        refine z_goto X (tgt := 4) dX0_alikeBefore_49 (by decide) ?_
        refine z_lv [0, 1, 2, 3] (lv' := [(3, .int (nI (j + 1))), (2, .int (alb t kv u j &&& nI (kv (u + j - 1)))), (0, .ref a), (1, .int (nI u))]) rfl ?_
        refine z_eq (ws' := []) (lv' := [(3, .int (nI (j + 1))), (2, .int (alb t kv u (j + 1))), (0, .ref a), (1, .int (nI u))]) (st' := []) rfl (by rw [alb, if_pos ((nI_eq (by omega) (by omega)).mp c_27)]) rfl ?_
        exact ih (j + 1) (by omega)
  refine z_iconst X (v := (-1)) dX0_alikeBefore_0 (by decide) ?_
  refine z_istore_n X (lv' := [(2, .int (-1)), (0, .ref a), (1, .int (nI u))]) dX0_alikeBefore_1 rfl (by decide) rfl ?_
  refine z_iconst X (v := 0) dX0_alikeBefore_2 (by decide) ?_
  refine z_istore_n X (lv' := [(3, .int 0), (2, .int (-1)), (0, .ref a), (1, .int (nI u))]) dX0_alikeBefore_3 rfl (by decide) rfl ?_
  refine z_eq (ws' := []) (lv' := [(3, .int (nI 0)), (2, .int (alb t kv u 0)), (0, .ref a), (1, .int (nI u))]) (st' := []) rfl rfl rfl ?_
  exact L (u) 0 (by omega)
set_option maxHeartbeats 4000000 in
set_option maxRecDepth 100000 in
/-- matching(values) -/
theorem m_matching (l : Launch) (D : va_G) (cy : Nat → ClassId) (O : Nat × va_E → Prop) {a r tm ta ar ah ak g P M n : Nat} {w3 w4 w5 : Value} {hv kv t : Nat → Nat} {T : Nat → Int32} {vo : Nat → Option Nat} (hO : O (a, .inr (0, [.ref r, .ref tm]))) (hQ : O (r, .inr (4, [.int (nI P), .ref ar, .int (nI M), w3, .ref ah, .ref ak]))) (hK : O (ak, .inl (cy 0, 3, .inl (nA kv)))) (hTm : O (tm, .inr (7, [.int (nI n), .ref ta, w4, w5]))) (hTa : O (ta, .inl (cy 0, 3, .inl T))) (hH : O (ah, .inl (cy 0, 24, .inl (nA hv)))) (hg : O (g, .inl (cy 0, 6, .inl (vA vo)))) (hM : M ≤ 25) (hn : n ≤ 3) (ht : ∀ k, k < n → T k = nI (t k) ∧ isT (t k)) (hvo : ∀ k x, k < n → tvo vo (t k) = some x → x < 8) : Ci l yX0_matching (.code yX0_matching cX0_matching 5 (some .int) :: WALL) ({ frames := 1, cells := 0, slots := 0, locals := 23 }) D cy O [.ref a, .ref g] [] 0 0 (fun (x : Int32) (w : va_W) => x = mat M hv kv t vo n ∧ w = []) := by
  refine z_meti (by decide) rfl rfl (Nat.le_of_ble_eq_true rfl) ?_
  intro p e s m args below meth c X hr hin
  refine z_eq (ws' := []) (lv' := [(0, .ref a), (1, .ref g)]) (st' := []) rfl rfl rfl ?_
  have L : ∀ (d : Nat) (j : Nat), j + d = n → Zz D (va_A [] s.heap.size) 5 p l e ({ frames := 1, cells := 0, slots := 0, locals := 23 }) s m args below meth c (MQ below (va_Qi (fun (x : Int32) (w : va_W) => x = mat M hv kv t vo n ∧ w = []) (end_ D [] s.heap.size) (va_A [] s.heap.size)) args s 0 0 (va_A [] s.heap.size)) [] [(3, .int (nI j)), (2, .int (mat M hv kv t vo j)), (0, .ref a), (1, .ref g)] 0 0 14 [] := by
    intro d
    induction d with
    | zero =>
      intro j hL0
      refine z_iload_n X dX0_matching_14 rfl (j := 0) rfl ?_
      refine z_aload_n X dX0_matching_15 rfl (j := 2) rfl ?_
      refine z_getO X (ci := 0) (C := RX0) (T := TX0) (N := 2) inX0 hO rfl 1 (by decide) fl_X0_15 (fun _ h9 => h9) rfl dX0_matching_16 ?_
      refine z_getO X (ci := 7) (C := RX7) (T := TX7) (N := 4) inX7 hTm rfl 0 (by decide) fl_X0_25 (fun _ h9 => h9) rfl dX0_matching_19 ?_
      refine z_icmp_ge X (tgt := 76) dX0_matching_22 (by decide) (fun c_22 => ?_) (fun c9 => absurd (by rw [show j = n by omega]; exact nI_le (Nat.le_refl _) (by omega)) c9)
      refine z_iload_n X dX0_matching_76 rfl (j := 1) rfl ?_
      exact z_endi X hr [] [] rfl rfl rfl ⟨(by rw [show j = n by omega]), rfl⟩ dX0_matching_77
    | succ d ih =>
      intro j hL0
      refine z_iload_n X dX0_matching_14 rfl (j := 0) rfl ?_
      refine z_aload_n X dX0_matching_15 rfl (j := 2) rfl ?_
      refine z_getO X (ci := 0) (C := RX0) (T := TX0) (N := 2) inX0 hO rfl 1 (by decide) fl_X0_15 (fun _ h9 => h9) rfl dX0_matching_16 ?_
      refine z_getO X (ci := 7) (C := RX7) (T := TX7) (N := 4) inX7 hTm rfl 0 (by decide) fl_X0_25 (fun _ h9 => h9) rfl dX0_matching_19 ?_
      refine z_icmp_ge X (tgt := 76) dX0_matching_22 (by decide) (fun c9 => absurd c9 (nI_ge (by omega) (by omega))) (fun c_22 => ?_)
      refine z_aload_n X dX0_matching_25 rfl (j := 2) rfl ?_
      refine z_getO X (ci := 0) (C := RX0) (T := TX0) (N := 2) inX0 hO rfl 1 (by decide) fl_X0_15 (fun _ h9 => h9) rfl dX0_matching_26 ?_
      refine z_iload_n X dX0_matching_29 rfl (j := 0) rfl ?_
      refine z_aload_n X dX0_matching_30 rfl (j := 3) rfl ?_
      refine z_reti X (as := [.ref tm, .int (nI j), .ref g]) (wc := []) (wr := []) (rest := []) (fun H9 locs9 ls9 hP9 hS9 hl9 hb9 hp9 => va_runV (As := [.int (nI j), .ref g]) (rest := []) X.fix (m_valueOf l D cy O hTm hTa hg (show j < 3 by omega) (ht j (by omega)).1 (ht j (by omega)).2 H9.size) (cwV 2 X.hts (gV ml_X0_28 im_X7_valueOf se_X7_valueOf ni_X7 cd_X7_valueOf) rfl rfl rfl (by decide +kernel) ⟨Nat.le_of_ble_eq_true rfl, Nat.le_of_ble_eq_true rfl⟩) ⟨hb9, z_recvO X (ci := 7) (r := (RX7, TX7, 4)) hTm rfl hS9, hp9⟩ rfl rfl hl9.1 rfl (lv_room (Nat.le_of_ble_eq_true rfl)) dX0_matching_31 ⟨Nat.le_of_ble_eq_true rfl, Nat.le_of_ble_eq_true rfl⟩) [] [] rfl rfl rfl rfl rfl (by decide) (fun _ h => Or.inl h) (fun r1 w2 h3 => ?_)
      obtain ⟨rfl, rfl⟩ := h3
      refine z_eq (ws' := []) (lv' := [(3, .int (nI j)), (2, .int (mat M hv kv t vo j)), (0, .ref a), (1, .ref g)]) (st' := [.int (oI (tvo vo (t j)))]) rfl rfl rfl ?_
      refine z_widen (k' := 0) (n' := 0) (Nat.le_refl _) (Nat.le_refl _) ?_
      refine z_istore X (lv' := [(4, .int (oI (tvo vo (t j)))), (3, .int (nI j)), (2, .int (mat M hv kv t vo j)), (0, .ref a), (1, .ref g)]) dX0_matching_34 (by decide) rfl ?_
      refine z_iload X dX0_matching_36 (j := 0) rfl ?_
      refine z_if_lt X (tgt := 62) dX0_matching_38 (by decide) (fun c_38 => ?_) (fun c_38 => ?_)
      · skip
        refine z_iload_n X dX0_matching_62 rfl (j := 2) rfl ?_
        refine z_aload_n X dX0_matching_63 rfl (j := 3) rfl ?_
        refine z_iload_n X dX0_matching_64 rfl (j := 1) rfl ?_
        have hx : tvo vo (t j) = none := by
          cases h9 : tvo vo (t j) with
          | none => rfl
          | some x => rw [h9] at c_38; exact absurd c_38 (oI_some (Nat.lt_trans (hvo j x (by omega) h9) (by decide)))
        refine z_reti X (as := [.ref a, .int (nI j)]) (wc := []) (wr := []) (rest := [.int (mat M hv kv t vo j)]) (fun H9 locs9 ls9 hP9 hS9 hl9 hb9 hp9 => va_runV (As := [.int (nI j)]) (rest := [.int (mat M hv kv t vo j)]) X.fix (m_alikeBefore l D cy O hO hQ hK hTm hTa hn (show j < n by omega) ht H9.size) (cwV 1 X.hts (gV ml_X0_36 im_X0_alikeBefore se_X0_alikeBefore ni_X0 cd_X0_alikeBefore) rfl rfl rfl (by decide +kernel) ⟨Nat.le_of_ble_eq_true rfl, Nat.le_of_ble_eq_true rfl⟩) ⟨hb9, z_recvO X (ci := 0) (r := (RX0, TX0, 2)) hO rfl hS9, hp9⟩ rfl rfl hl9.1 rfl (lv_room (Nat.le_of_ble_eq_true rfl)) dX0_matching_65 ⟨Nat.le_of_ble_eq_true rfl, Nat.le_of_ble_eq_true rfl⟩) [] [] rfl rfl rfl rfl rfl (by decide) (fun _ h => Or.inl h) (fun r4 w5 h6 => ?_)
        obtain ⟨rfl, rfl⟩ := h6
        refine z_eq (ws' := []) (lv' := [(4, .int (oI (tvo vo (t j)))), (3, .int (nI j)), (2, .int (mat M hv kv t vo j)), (0, .ref a), (1, .ref g)]) (st' := [.int (alb t kv j j), .int (mat M hv kv t vo j)]) rfl rfl rfl ?_
        refine z_widen (k' := 0) (n' := 0) (Nat.le_refl _) (Nat.le_refl _) ?_
        refine z_iand X (v := (mat M hv kv t vo (j + 1))) dX0_matching_68 (by rw [mat, hx]) ?_
        refine z_istore_n X (lv' := [(2, .int (mat M hv kv t vo (j + 1))), (4, .int (oI (tvo vo (t j)))), (3, .int (nI j)), (0, .ref a), (1, .ref g)]) dX0_matching_69 rfl (by decide) rfl ?_
        refine z_iinc X (j := 2) (v := (nI (j + 1))) (lv' := [(3, .int (nI (j + 1))), (2, .int (mat M hv kv t vo (j + 1))), (4, .int (oI (tvo vo (t j)))), (0, .ref a), (1, .ref g)]) dX0_matching_70 rfl (nI_1 j) (by decide) rfl ?_
        refine z_goto X (tgt := 14) dX0_matching_73 (by decide) ?_
        refine z_lv [0, 1, 3, 4] (lv' := [(3, .int (nI (j + 1))), (2, .int (mat M hv kv t vo (j + 1))), (0, .ref a), (1, .ref g)]) rfl ?_
        refine z_eq (ws' := []) (lv' := [(3, .int (nI (j + 1))), (2, .int (mat M hv kv t vo (j + 1))), (0, .ref a), (1, .ref g)]) (st' := []) rfl rfl rfl ?_
        exact ih (j + 1) (by omega)
      · skip
        refine z_iload_n X dX0_matching_41 rfl (j := 2) rfl ?_
        refine z_aload_n X dX0_matching_42 rfl (j := 3) rfl ?_
        refine z_getO X (ci := 0) (C := RX0) (T := TX0) (N := 2) inX0 hO rfl 0 (by decide) fl_X0_9 (fun _ h9 => h9) rfl dX0_matching_43 ?_
        refine z_getO X (ci := 4) (C := RX4) (T := TX4) (N := 6) inX4 hQ rfl 4 (by decide) fl_X0_32 (fun _ h9 => h9) rfl dX0_matching_46 ?_
        refine z_iload_n X dX0_matching_49 rfl (j := 1) rfl ?_
        refine z_bipush X (v := 8) dX0_matching_50 (by decide) ?_
        obtain ⟨x, hx⟩ : ∃ x, tvo vo (t j) = some x := by
          cases h9 : tvo vo (t j) with
          | none => rw [h9] at c_38; exact absurd (by decide : (-1 : Int32) < 0) c_38
          | some x => exact ⟨x, rfl⟩
        have hx8 := hvo j x (by omega) hx
        refine z_imul X (v := (nI (j * 8))) dX0_matching_52 (mul_8 j) ?_
        refine z_iload X dX0_matching_53 (j := 0) rfl ?_
        refine z_iadd X (v := (nI (j * 8 + x))) dX0_matching_55 (by rw [hx]; exact nI_add _ _) ?_
        refine z_ialdO X hH (v := (nI (hv (j * 8 + x)))) (vp_in_nI (by omega) (by decide)) (nA_at (by omega)) dX0_matching_56 ?_
        refine z_iand X (v := (mat M hv kv t vo (j + 1))) dX0_matching_57 (by rw [mat, hx]) ?_
        refine z_istore_n X (lv' := [(2, .int (mat M hv kv t vo (j + 1))), (4, .int (oI (tvo vo (t j)))), (3, .int (nI j)), (0, .ref a), (1, .ref g)]) dX0_matching_58 rfl (by decide) rfl ?_
        refine z_goto X (tgt := 70) dX0_matching_59 (by decide) ?_
        refine z_iinc X (j := 2) (v := (nI (j + 1))) (lv' := [(3, .int (nI (j + 1))), (2, .int (mat M hv kv t vo (j + 1))), (4, .int (oI (tvo vo (t j)))), (0, .ref a), (1, .ref g)]) dX0_matching_70 rfl (nI_1 j) (by decide) rfl ?_
        refine z_goto X (tgt := 14) dX0_matching_73 (by decide) ?_
        refine z_lv [0, 1, 3, 4] (lv' := [(3, .int (nI (j + 1))), (2, .int (mat M hv kv t vo (j + 1))), (0, .ref a), (1, .ref g)]) rfl ?_
        refine z_eq (ws' := []) (lv' := [(3, .int (nI (j + 1))), (2, .int (mat M hv kv t vo (j + 1))), (0, .ref a), (1, .ref g)]) (st' := []) rfl rfl rfl ?_
        exact ih (j + 1) (by omega)
  refine z_iconst X (v := 1) dX0_matching_0 (by decide) ?_
  refine z_aload_n X dX0_matching_1 rfl (j := 0) rfl ?_
  refine z_getO X (ci := 0) (C := RX0) (T := TX0) (N := 2) inX0 hO rfl 0 (by decide) fl_X0_9 (fun _ h9 => h9) rfl dX0_matching_2 ?_
  refine z_getO X (ci := 4) (C := RX4) (T := TX4) (N := 6) inX4 hQ rfl 2 (by decide) fl_X0_19 (fun _ h9 => h9) rfl dX0_matching_5 ?_
  refine z_ishl X (v := (nI (2 ^ M))) dX0_matching_8 (shl_1 _ (by omega)) ?_
  refine z_iconst X (v := 1) dX0_matching_9 (by decide) ?_
  refine z_isub X (v := (nI (2 ^ M - 1))) dX0_matching_10 (sub_1 (Nat.two_pow_pos M)) ?_
  refine z_istore_n X (lv' := [(2, .int (nI (2 ^ M - 1))), (0, .ref a), (1, .ref g)]) dX0_matching_11 rfl (by decide) rfl ?_
  refine z_iconst X (v := 0) dX0_matching_12 (by decide) ?_
  refine z_istore_n X (lv' := [(3, .int 0), (2, .int (nI (2 ^ M - 1))), (0, .ref a), (1, .ref g)]) dX0_matching_13 rfl (by decide) rfl ?_
  refine z_eq (ws' := []) (lv' := [(3, .int (nI 0)), (2, .int (mat M hv kv t vo 0)), (0, .ref a), (1, .ref g)]) (st' := []) rfl rfl rfl ?_
  exact L (n) 0 (by omega)
set_option maxHeartbeats 4000000 in
set_option maxRecDepth 100000 in
/-- Rule(head) -/
theorem m_Rule (l : Launch) (D : va_G) (cy : Nat → ClassId) (O : Nat × va_E → Prop) {h0 hd : Nat} : Cv l yX6_init (.code yX6_init cX6_init 2 none :: WALL) ({ frames := 1, cells := 1, slots := 5, locals := 13 }) D cy O [.ref h0, .ref hd] [(h0, .inr (6, [.null, .null, .int 0]))] 1 5 (fun (w : va_W) => ∃ q : Nat, w = [(h0, .inr (6, [.ref hd, .ref q, .int 0])), (q, .inl (cy 5, 5, .inr (.inr (.inr (.inr (fun _ => none))))))]) := by
  refine z_metv (by decide) rfl rfl (Nat.le_of_ble_eq_true rfl) ?_
  intro p e s m args below meth c X hr hin
  refine z_eq (ws' := [(h0, .inr (6, [.null, .null, .int 0]))]) (lv' := [(0, .ref h0), (1, .ref hd)]) (st' := []) rfl rfl rfl ?_
  refine z_aload_n X dX6_init_0 rfl (j := 0) rfl ?_
  refine z_objInit X ml_X6_3 im_obj cd_obj (Nat.le_of_ble_eq_true rfl) (Nat.le_of_ble_eq_true rfl) dX6_init_1 ?_
  refine z_aload_n X dX6_init_4 rfl (j := 0) rfl ?_
  refine z_iconst X (v := 5) dX6_init_5 (by decide) ?_
  refine z_newq X (N := 5) (t := 5) (C := RX0) cl_X6_9 (by decide) rfl (by decide) (by decide) (Nat.le_of_ble_eq_true rfl) (Nat.le_of_ble_eq_true rfl) (Nat.le_of_ble_eq_true rfl) dX6_init_6 (fun q1 => ?_)
  refine z_eq (ws' := [(h0, .inr (6, [.null, .null, .int 0])), (q1, .inl (cy 5, 5, .inr (.inr (.inr (.inr (fun _ => none))))))]) (lv' := [(0, .ref h0), (1, .ref hd)]) (st' := [.ref q1, .ref h0]) rfl rfl rfl ?_
  refine z_widen (k' := 1) (n' := 5) (Nat.le_of_ble_eq_true rfl) (Nat.le_of_ble_eq_true rfl) ?_
  refine z_putF X 0 (C := RX6) (T := TX6) (N := 3) inX6 tyX6 tyX6_ok nmX6 rfl rfl 1 (by decide) fl_X6_11 (fun _ h9 => h9) rfl hin rfl (ty := (.array (.object "Thimble$Atom"))) (by decide +kernel) rfl rfl (Nat.le_of_ble_eq_true rfl) (ws' := [(h0, .inr (6, [.null, .ref q1, .int 0])), (q1, .inl (cy 5, 5, .inr (.inr (.inr (.inr (fun _ => none))))))]) rfl dX6_init_9 ?_
  refine z_aload_n X dX6_init_12 rfl (j := 0) rfl ?_
  refine z_iconst X (v := 0) dX6_init_13 (by decide) ?_
  refine z_putW X 0 (C := RX6) (T := TX6) (N := 3) inX6 tyX6 tyX6_ok nmX6 rfl rfl 2 (by decide) fl_X6_17 (fun _ h9 => h9) rfl (ty := .int) (by decide +kernel) rfl rfl (Nat.le_of_ble_eq_true rfl) (ws' := [(h0, .inr (6, [.null, .ref q1, .int 0])), (q1, .inl (cy 5, 5, .inr (.inr (.inr (.inr (fun _ => none))))))]) rfl dX6_init_14 ?_
  refine z_aload_n X dX6_init_17 rfl (j := 0) rfl ?_
  refine z_aload_n X dX6_init_18 rfl (j := 1) rfl ?_
  refine z_putF X 0 (C := RX6) (T := TX6) (N := 3) inX6 tyX6 tyX6_ok nmX6 rfl rfl 0 (by decide) fl_X6_21 (fun _ h9 => h9) rfl hin rfl (ty := (.object "Thimble$Terms")) (by decide +kernel) rfl rfl (Nat.le_of_ble_eq_true rfl) (ws' := [(h0, .inr (6, [.ref hd, .ref q1, .int 0])), (q1, .inl (cy 5, 5, .inr (.inr (.inr (.inr (fun _ => none))))))]) rfl dX6_init_19 ?_
  exact z_endv X hr [(h0, .inr (6, [.ref hd, .ref q1, .int 0])), (q1, .inl (cy 5, 5, .inr (.inr (.inr (.inr (fun _ => none))))))] [0, 1] rfl rfl rfl ⟨q1, rfl⟩ dX6_init_22
set_option maxHeartbeats 4000000 in
set_option maxRecDepth 100000 in
/-- allAtoms() -/
theorem m_allAtoms (l : Launch) (D : va_G) (cy : Nat → ClassId) (O : Nat × va_E → Prop) {a m9 : Nat} {v0 v1 : Value} (hO : O (a, .inr (6, [v0, v1, .int (nI m9)]))) (hm : m9 ≤ 5) : Ci l yX6_allAtoms (.code yX6_allAtoms cX6_allAtoms 1 (some .int) :: WALL) ({ frames := 0, cells := 0, slots := 0, locals := 0 }) D cy O [.ref a] [] 0 0 (fun (x : Int32) (w : va_W) => x = nI (2 ^ m9 - 1) ∧ w = []) := by
  refine z_meti (by decide) rfl rfl (Nat.le_of_ble_eq_true rfl) ?_
  intro p e s m args below meth c X hr hin
  refine z_eq (ws' := []) (lv' := [(0, .ref a)]) (st' := []) rfl rfl rfl ?_
  refine z_iconst X (v := 1) dX6_allAtoms_0 (by decide) ?_
  refine z_aload_n X dX6_allAtoms_1 rfl (j := 0) rfl ?_
  refine z_getO X (ci := 6) (C := RX6) (T := TX6) (N := 3) inX6 hO rfl 2 (by decide) fl_X6_17 (fun _ h9 => h9) rfl dX6_allAtoms_2 ?_
  refine z_ishl X (v := (nI (2 ^ m9))) dX6_allAtoms_5 (shl_1 _ (by omega)) ?_
  refine z_iconst X (v := 1) dX6_allAtoms_6 (by decide) ?_
  refine z_isub X (v := (nI (2 ^ m9 - 1))) dX6_allAtoms_7 (sub_1 (Nat.two_pow_pos m9)) ?_
  exact z_endi X hr [] [] rfl rfl rfl ⟨rfl, rfl⟩ dX6_allAtoms_8
set_option maxHeartbeats 4000000 in
set_option maxRecDepth 100000 in
/-- variablesIn(someAtoms) -/
theorem m_variablesIn (l : Launch) (D : va_G) (cy : Nat → ClassId) (O : Nat × va_E → Prop) {a aa m9 S : Nat} {v0 : Value} {F : Nat → Option Nat} {at_ tm vs : Nat → Nat} (hO : O (a, .inr (6, [v0, .ref aa, .int (nI m9)]))) (hQ : O (aa, .inl (cy 5, 5, .inr (.inr (.inr (.inr F)))))) (hm : m9 ≤ 5) (hS : S < 2 ^ 31) (hF : ∀ k, k < m9 → F k = some (at_ k)) (hA : ∀ k, k < m9 → ∃ v : Value, O (at_ k, .inr (0, [v, .ref (tm k)]))) (hT : ∀ k, k < m9 → ∃ v w x : Value, O (tm k, .inr (7, [v, w, .int (nI (vs k)), x]))) : Ci l yX6_variablesIn (.code yX6_variablesIn cX6_variablesIn 4 (some .int) :: WALL) ({ frames := 1, cells := 0, slots := 0, locals := 21 }) D cy O [.ref a, .int (nI S)] [] 0 0 (fun (x : Int32) (w : va_W) => x = nI (vin S vs m9) ∧ w = []) := by
  refine z_meti (by decide) rfl rfl (Nat.le_of_ble_eq_true rfl) ?_
  intro p e s m args below meth c X hr hin
  refine z_eq (ws' := []) (lv' := [(0, .ref a), (1, .int (nI S))]) (st' := []) rfl rfl rfl ?_
  have L : ∀ (d : Nat) (j : Nat), j + d = m9 → Zz D (va_A [] s.heap.size) 4 p l e ({ frames := 1, cells := 0, slots := 0, locals := 21 }) s m args below meth c (MQ below (va_Qi (fun (x : Int32) (w : va_W) => x = nI (vin S vs m9) ∧ w = []) (end_ D [] s.heap.size) (va_A [] s.heap.size)) args s 0 0 (va_A [] s.heap.size)) [] [(3, .int (nI j)), (2, .int (nI (vin S vs j))), (0, .ref a), (1, .int (nI S))] 0 0 4 [] := by
    intro d
    induction d with
    | zero =>
      intro j hL0
      refine z_iload_n X dX6_variablesIn_4 rfl (j := 0) rfl ?_
      refine z_aload_n X dX6_variablesIn_5 rfl (j := 2) rfl ?_
      refine z_getO X (ci := 6) (C := RX6) (T := TX6) (N := 3) inX6 hO rfl 2 (by decide) fl_X6_17 (fun _ h9 => h9) rfl dX6_variablesIn_6 ?_
      refine z_icmp_ge X (tgt := 41) dX6_variablesIn_9 (by decide) (fun c_9 => ?_) (fun c9 => absurd (by rw [show j = m9 by omega]; exact nI_le (Nat.le_refl _) (by omega)) c9)
      refine z_iload_n X dX6_variablesIn_41 rfl (j := 1) rfl ?_
      exact z_endi X hr [] [] rfl rfl rfl ⟨(by rw [show j = m9 by omega]), rfl⟩ dX6_variablesIn_42
    | succ d ih =>
      intro j hL0
      refine z_iload_n X dX6_variablesIn_4 rfl (j := 0) rfl ?_
      refine z_aload_n X dX6_variablesIn_5 rfl (j := 2) rfl ?_
      refine z_getO X (ci := 6) (C := RX6) (T := TX6) (N := 3) inX6 hO rfl 2 (by decide) fl_X6_17 (fun _ h9 => h9) rfl dX6_variablesIn_6 ?_
      refine z_icmp_ge X (tgt := 41) dX6_variablesIn_9 (by decide) (fun c9 => absurd c9 (nI_ge (by omega) (by omega))) (fun c_9 => ?_)
      refine z_iload_n X dX6_variablesIn_12 rfl (j := 3) rfl ?_
      refine z_iload_n X dX6_variablesIn_13 rfl (j := 0) rfl ?_
      refine z_reti X (as := [.int (nI S), .int (nI j)]) (wc := []) (wr := []) (rest := []) (fun H9 locs9 ls9 hP9 hS9 hl9 hb9 hp9 => va_runSN (As := [.int (nI S), .int (nI j)]) (rest := []) X.fix (m_isIn l D cy O (nI S) (nI j) H9.size) ⟨va_cnB 2 X.hts (gB cd_X9_isIn) rfl rfl rfl (X.nw.1 _ (List.mem_of_getElem? (i := 7) rfl)) (X.hts _ ni_X9) (by decide +kernel) ⟨Nat.le_of_ble_eq_true rfl, Nat.le_of_ble_eq_true rfl⟩, X.hts _ sm_X9_isIn, trivial⟩ ⟨hb9, hp9⟩ rfl rfl hl9.1 rfl (lv_room (Nat.le_of_ble_eq_true rfl)) dX6_variablesIn_14 ⟨Nat.le_of_ble_eq_true rfl, Nat.le_of_ble_eq_true rfl⟩) [] [] rfl rfl rfl rfl rfl (by decide) (fun _ h => Or.inl h) (fun r1 w2 h3 => ?_)
      obtain ⟨rfl, rfl⟩ := h3
      refine z_eq (ws' := []) (lv' := [(3, .int (nI j)), (2, .int (nI (vin S vs j))), (0, .ref a), (1, .int (nI S))]) (st' := [.int (bI (nI S) (nI j))]) rfl rfl rfl ?_
      refine z_widen (k' := 0) (n' := 0) (Nat.le_refl _) (Nat.le_refl _) ?_
      refine z_if_eq X (tgt := 35) dX6_variablesIn_17 (by decide) (fun c_17 => ?_) (fun c_17 => ?_)
      · skip
        refine z_iinc X (j := 0) (v := (nI (j + 1))) (lv' := [(3, .int (nI (j + 1))), (2, .int (nI (vin S vs j))), (0, .ref a), (1, .int (nI S))]) dX6_variablesIn_35 rfl (nI_1 j) (by decide) rfl ?_
        refine z_goto X (tgt := 4) dX6_variablesIn_38 (by decide) ?_
        refine z_lv [0, 1, 2, 3] (lv' := [(3, .int (nI (j + 1))), (2, .int (nI (vin S vs j))), (0, .ref a), (1, .int (nI S))]) rfl ?_
        refine z_eq (ws' := []) (lv' := [(3, .int (nI (j + 1))), (2, .int (nI (vin S vs (j + 1)))), (0, .ref a), (1, .int (nI S))]) (st' := []) rfl (by rw [vin, bit_no hS (by omega) c_17]; rfl) rfl ?_
        exact ih (j + 1) (by omega)
      · skip
        refine z_iload_n X dX6_variablesIn_20 rfl (j := 1) rfl ?_
        refine z_aload_n X dX6_variablesIn_21 rfl (j := 2) rfl ?_
        refine z_getO X (ci := 6) (C := RX6) (T := TX6) (N := 3) inX6 hO rfl 1 (by decide) fl_X6_11 (fun _ h9 => h9) rfl dX6_variablesIn_22 ?_
        refine z_iload_n X dX6_variablesIn_25 rfl (j := 0) rfl ?_
        obtain ⟨va, hva⟩ := hA j (by omega)
        obtain ⟨vb, vc, vd, hvb⟩ := hT j (by omega)
        refine z_aaldO X (t := 5) hQ rfl (b := (at_ j)) (vp_in_nI (by omega) (by decide)) (by rw [nI_clamp (by omega)]; exact hF j (by omega)) dX6_variablesIn_26 ?_
        refine z_getO X (ci := 0) (C := RX0) (T := TX0) (N := 2) inX0 hva rfl 1 (by decide) fl_X6_29 (fun _ h9 => h9) rfl dX6_variablesIn_27 ?_
        refine z_getO X (ci := 7) (C := RX7) (T := TX7) (N := 4) inX7 hvb rfl 2 (by decide) fl_X6_32 (fun _ h9 => h9) rfl dX6_variablesIn_30 ?_
        refine z_ior X (v := (nI (vin S vs j ||| vs j))) dX6_variablesIn_33 (nI_or _ _) ?_
        refine z_istore_n X (lv' := [(2, .int (nI (vin S vs j ||| vs j))), (3, .int (nI j)), (0, .ref a), (1, .int (nI S))]) dX6_variablesIn_34 rfl (by decide) rfl ?_
        refine z_iinc X (j := 1) (v := (nI (j + 1))) (lv' := [(3, .int (nI (j + 1))), (2, .int (nI (vin S vs j ||| vs j))), (0, .ref a), (1, .int (nI S))]) dX6_variablesIn_35 rfl (nI_1 j) (by decide) rfl ?_
        refine z_goto X (tgt := 4) dX6_variablesIn_38 (by decide) ?_
        refine z_lv [0, 1, 2, 3] (lv' := [(3, .int (nI (j + 1))), (2, .int (nI (vin S vs j ||| vs j))), (0, .ref a), (1, .int (nI S))]) rfl ?_
        refine z_eq (ws' := []) (lv' := [(3, .int (nI (j + 1))), (2, .int (nI (vin S vs (j + 1)))), (0, .ref a), (1, .int (nI S))]) (st' := []) rfl (by rw [vin, bit_yes hS (by omega) c_17]; rfl) rfl ?_
        exact ih (j + 1) (by omega)
  refine z_iconst X (v := 0) dX6_variablesIn_0 (by decide) ?_
  refine z_istore_n X (lv' := [(2, .int 0), (0, .ref a), (1, .int (nI S))]) dX6_variablesIn_1 rfl (by decide) rfl ?_
  refine z_iconst X (v := 0) dX6_variablesIn_2 (by decide) ?_
  refine z_istore_n X (lv' := [(3, .int 0), (2, .int 0), (0, .ref a), (1, .int (nI S))]) dX6_variablesIn_3 rfl (by decide) rfl ?_
  refine z_eq (ws' := []) (lv' := [(3, .int (nI 0)), (2, .int (nI (vin S vs 0))), (0, .ref a), (1, .int (nI S))]) (st' := []) rfl rfl rfl ?_
  exact L (m9) 0 (by omega)
set_option maxHeartbeats 4000000 in
set_option maxRecDepth 100000 in
/-- isGrounded() -/
theorem m_isGrounded (l : Launch) (D : va_G) (cy : Nat → ClassId) (O : Nat × va_E → Prop) {a aa hd m9 hs : Nat} {u0 u1 u3 : Value} {F : Nat → Option Nat} {at_ tm vs : Nat → Nat} (hO : O (a, .inr (6, [.ref hd, .ref aa, .int (nI m9)]))) (hH : O (hd, .inr (7, [u0, u1, .int (nI hs), u3]))) (hQ : O (aa, .inl (cy 5, 5, .inr (.inr (.inr (.inr F)))))) (hm : m9 ≤ 5) (hhs : hs < 2 ^ 31) (hF : ∀ k, k < m9 → F k = some (at_ k)) (hA : ∀ k, k < m9 → ∃ v : Value, O (at_ k, .inr (0, [v, .ref (tm k)]))) (hT : ∀ k, k < m9 → ∃ v w x : Value, O (tm k, .inr (7, [v, w, .int (nI (vs k)), x]))) : Ci l yX6_isGrounded (.code yX6_isGrounded cX6_isGrounded 1 (some .boolean) :: WALL) ({ frames := 2, cells := 0, slots := 0, locals := 44 }) D cy O [.ref a] [] 0 0 (fun (x : Int32) (w : va_W) => x = (if nd hs (vin (2 ^ m9 - 1) vs m9) = 0 then 1 else 0) ∧ w = []) := by
  refine z_meti (by decide) rfl rfl (Nat.le_of_ble_eq_true rfl) ?_
  intro p e s m args below meth c X hr hin
  refine z_eq (ws' := []) (lv' := [(0, .ref a)]) (st' := []) rfl rfl rfl ?_
  refine z_aload_n X dX6_isGrounded_0 rfl (j := 0) rfl ?_
  refine z_getO X (ci := 6) (C := RX6) (T := TX6) (N := 3) inX6 hO rfl 0 (by decide) fl_X6_21 (fun _ h9 => h9) rfl dX6_isGrounded_1 ?_
  refine z_getO X (ci := 7) (C := RX7) (T := TX7) (N := 4) inX7 hH rfl 2 (by decide) fl_X6_32 (fun _ h9 => h9) rfl dX6_isGrounded_4 ?_
  refine z_aload_n X dX6_isGrounded_7 rfl (j := 0) rfl ?_
  refine z_aload_n X dX6_isGrounded_8 rfl (j := 0) rfl ?_
  refine z_reti X (as := [.ref a]) (wc := []) (wr := []) (rest := [.ref a, .int (nI hs)]) (fun H9 locs9 ls9 hP9 hS9 hl9 hb9 hp9 => va_runV (As := []) (rest := [.ref a, .int (nI hs)]) X.fix (m_allAtoms l D cy O hO hm H9.size) (cwV 0 X.hts (gV ml_X6_37 im_X6_allAtoms se_X6_allAtoms ni_X6 cd_X6_allAtoms) rfl rfl rfl (by decide +kernel) ⟨Nat.le_of_ble_eq_true rfl, Nat.le_of_ble_eq_true rfl⟩) ⟨hb9, z_recvO X (ci := 6) (r := (RX6, TX6, 3)) hO rfl hS9, hp9⟩ rfl rfl hl9.1 rfl (lv_room (Nat.le_of_ble_eq_true rfl)) dX6_isGrounded_9 ⟨Nat.le_of_ble_eq_true rfl, Nat.le_of_ble_eq_true rfl⟩) [] [] rfl rfl rfl rfl rfl (by decide) (fun _ h => Or.inl h) (fun r1 w2 h3 => ?_)
  obtain ⟨rfl, rfl⟩ := h3
  refine z_eq (ws' := []) (lv' := [(0, .ref a)]) (st' := [.int (nI (2 ^ m9 - 1)), .ref a, .int (nI hs)]) rfl rfl rfl ?_
  refine z_widen (k' := 0) (n' := 0) (Nat.le_refl _) (Nat.le_refl _) ?_
  refine z_reti X (as := [.ref a, .int (nI (2 ^ m9 - 1))]) (wc := []) (wr := []) (rest := [.int (nI hs)]) (fun H9 locs9 ls9 hP9 hS9 hl9 hb9 hp9 => va_runV (As := [.int (nI (2 ^ m9 - 1))]) (rest := [.int (nI hs)]) X.fix (m_variablesIn l D cy O hO hQ hm (show 2 ^ m9 - 1 < 2 ^ 31 from Nat.lt_of_le_of_lt (Nat.sub_le _ _) (Nat.pow_lt_pow_right (by decide) (by omega))) hF hA hT H9.size) (cwV 1 X.hts (gV ml_X6_41 im_X6_variablesIn se_X6_variablesIn ni_X6 cd_X6_variablesIn) rfl rfl rfl (by decide +kernel) ⟨Nat.le_of_ble_eq_true rfl, Nat.le_of_ble_eq_true rfl⟩) ⟨hb9, z_recvO X (ci := 6) (r := (RX6, TX6, 3)) hO rfl hS9, hp9⟩ rfl rfl hl9.1 rfl (lv_room (Nat.le_of_ble_eq_true rfl)) dX6_isGrounded_12 ⟨Nat.le_of_ble_eq_true rfl, Nat.le_of_ble_eq_true rfl⟩) [] [] rfl rfl rfl rfl rfl (by decide) (fun _ h => Or.inl h) (fun r4 w5 h6 => ?_)
  obtain ⟨rfl, rfl⟩ := h6
  refine z_eq (ws' := []) (lv' := [(0, .ref a)]) (st' := [.int (nI (vin (2 ^ m9 - 1) vs m9)), .int (nI hs)]) rfl rfl rfl ?_
  refine z_widen (k' := 0) (n' := 0) (Nat.le_refl _) (Nat.le_refl _) ?_
  refine z_iconst X (v := (-1)) dX6_isGrounded_15 (by decide) ?_
  refine z_ixor X (v := ((nI (vin (2 ^ m9 - 1) vs m9)) ^^^ (-1))) dX6_isGrounded_16 rfl ?_
  refine z_iand X (v := (nI (nd hs (vin (2 ^ m9 - 1) vs m9)))) dX6_isGrounded_17 (nI_nd _ _) ?_
  refine z_if_ne X (tgt := 25) dX6_isGrounded_18 (by decide) (fun c_18 => ?_) (fun c_18 => ?_)
  · skip
    refine z_iconst X (v := 0) dX6_isGrounded_25 (by decide) ?_
    exact z_endz X hr (by first | exact Or.inl rfl | exact Or.inr rfl) [] [] rfl rfl rfl ⟨(by rw [if_neg (fun z => c_18 (by rw [z]; rfl))]), rfl⟩ dX6_isGrounded_26
  · skip
    refine z_iconst X (v := 1) dX6_isGrounded_21 (by decide) ?_
    refine z_goto X (tgt := 26) dX6_isGrounded_22 (by decide) ?_
    exact z_endz X hr (by first | exact Or.inl rfl | exact Or.inr rfl) [] [] rfl rfl rfl ⟨(by rw [if_pos ((nI_zero (nd_lt hhs)).mp c_18)]), rfl⟩ dX6_isGrounded_26
