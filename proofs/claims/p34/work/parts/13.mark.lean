set_option maxHeartbeats 4000000 in
set_option maxRecDepth 100000 in
/-- mark() -/
theorem m_mark (l : Launch) (D : va_G) (cy : Nat → ClassId) (O : Nat × va_E → Prop) {a ar ah ak P M V : Nat} {x hv kv : Nat → Nat} (hR : O (ar, .inl (cy 0, 25, .inl (nA x)))) (hP : 1 ≤ P) (hP3 : P ≤ 3) (hM : M ≤ 25) (hx : ∀ j, j < 25 → x j < 2 ^ 31) : Cv l yX4_mark (.code yX4_mark cX4_mark 3 none :: WALL) ({ frames := 2, cells := 0, slots := 0, locals := 46 }) D cy O [.ref a] [(a, .inr (4, [.int (nI P), .ref ar, .int (nI M), .int (nI V), .ref ah, .ref ak])), (ah, .inl (cy 0, 24, .inl (nA hv))), (ak, .inl (cy 0, 3, .inl (nA kv)))] 0 0 (fun (w : va_W) => w = [(a, .inr (4, [.int (nI P), .ref ar, .int (nI M), .int (nI (mkf P x (0, zf hv 24, zf kv 3) M).1), .ref ah, .ref ak])), (ah, .inl (cy 0, 24, .inl (nA (mkf P x (0, zf hv 24, zf kv 3) M).2.1))), (ak, .inl (cy 0, 3, .inl (nA (mkf P x (0, zf hv 24, zf kv 3) M).2.2)))]) := by
  refine z_metv (by decide) rfl rfl (Nat.le_of_ble_eq_true rfl) ?_
  intro p e s m args below meth c X hr hin
  refine z_eq (ws' := [(a, .inr (4, [.int (nI P), .ref ar, .int (nI M), .int (nI V), .ref ah, .ref ak])), (ah, .inl (cy 0, 24, .inl (nA hv))), (ak, .inl (cy 0, 3, .inl (nA kv)))]) (lv' := [(0, .ref a)]) (st' := []) rfl rfl rfl ?_
  have LI : ∀ (i : Nat), ∀ (d u : Nat), u + d = P → i < M → (Zz D (va_A [(a, .inr (4, [.int (nI P), .ref ar, .int (nI M), .int (nI V), .ref ah, .ref ak])), (ah, .inl (cy 0, 24, .inl (nA hv))), (ak, .inl (cy 0, 3, .inl (nA kv)))] s.heap.size) 3 p l e ({ frames := 2, cells := 0, slots := 0, locals := 46 }) s m args below meth c (MQ below (va_Qv (fun (w : va_W) => w = [(a, .inr (4, [.int (nI P), .ref ar, .int (nI M), .int (nI (mkf P x (0, zf hv 24, zf kv 3) M).1), .ref ah, .ref ak])), (ah, .inl (cy 0, 24, .inl (nA (mkf P x (0, zf hv 24, zf kv 3) M).2.1))), (ak, .inl (cy 0, 3, .inl (nA (mkf P x (0, zf hv 24, zf kv 3) M).2.2)))]) (end_ D [(a, .inr (4, [.int (nI P), .ref ar, .int (nI M), .int (nI V), .ref ah, .ref ak])), (ah, .inl (cy 0, 24, .inl (nA hv))), (ak, .inl (cy 0, 3, .inl (nA kv)))] s.heap.size) (va_A [(a, .inr (4, [.int (nI P), .ref ar, .int (nI M), .int (nI V), .ref ah, .ref ak])), (ah, .inl (cy 0, 24, .inl (nA hv))), (ak, .inl (cy 0, 3, .inl (nA kv)))] s.heap.size)) args s 0 0 (va_A [(a, .inr (4, [.int (nI P), .ref ar, .int (nI M), .int (nI V), .ref ah, .ref ak])), (ah, .inl (cy 0, 24, .inl (nA hv))), (ak, .inl (cy 0, 3, .inl (nA kv)))] s.heap.size)) [(a, .inr (4, [.int (nI P), .ref ar, .int (nI M), .int (nI (mkf P x (0, zf hv 24, zf kv 3) (i + 1)).1), .ref ah, .ref ak])), (ah, .inl (cy 0, 24, .inl (nA (mkf P x (0, zf hv 24, zf kv 3) (i + 1)).2.1))), (ak, .inl (cy 0, 3, .inl (nA (mkf P x (0, zf hv 24, zf kv 3) (i + 1)).2.2)))] [(1, .int (nI (i + 1))), (0, .ref a)] 0 0 55 []) → Zz D (va_A [(a, .inr (4, [.int (nI P), .ref ar, .int (nI M), .int (nI V), .ref ah, .ref ak])), (ah, .inl (cy 0, 24, .inl (nA hv))), (ak, .inl (cy 0, 3, .inl (nA kv)))] s.heap.size) 3 p l e ({ frames := 2, cells := 0, slots := 0, locals := 46 }) s m args below meth c (MQ below (va_Qv (fun (w : va_W) => w = [(a, .inr (4, [.int (nI P), .ref ar, .int (nI M), .int (nI (mkf P x (0, zf hv 24, zf kv 3) M).1), .ref ah, .ref ak])), (ah, .inl (cy 0, 24, .inl (nA (mkf P x (0, zf hv 24, zf kv 3) M).2.1))), (ak, .inl (cy 0, 3, .inl (nA (mkf P x (0, zf hv 24, zf kv 3) M).2.2)))]) (end_ D [(a, .inr (4, [.int (nI P), .ref ar, .int (nI M), .int (nI V), .ref ah, .ref ak])), (ah, .inl (cy 0, 24, .inl (nA hv))), (ak, .inl (cy 0, 3, .inl (nA kv)))] s.heap.size) (va_A [(a, .inr (4, [.int (nI P), .ref ar, .int (nI M), .int (nI V), .ref ah, .ref ak])), (ah, .inl (cy 0, 24, .inl (nA hv))), (ak, .inl (cy 0, 3, .inl (nA kv)))] s.heap.size)) args s 0 0 (va_A [(a, .inr (4, [.int (nI P), .ref ar, .int (nI M), .int (nI V), .ref ah, .ref ak])), (ah, .inl (cy 0, 24, .inl (nA hv))), (ak, .inl (cy 0, 3, .inl (nA kv)))] s.heap.size)) [(a, .inr (4, [.int (nI P), .ref ar, .int (nI M), .int (nI (mkp P (x i) i (mkf P x (0, zf hv 24, zf kv 3) i) u).1), .ref ah, .ref ak])), (ah, .inl (cy 0, 24, .inl (nA (mkp P (x i) i (mkf P x (0, zf hv 24, zf kv 3) i) u).2.1))), (ak, .inl (cy 0, 3, .inl (nA (mkp P (x i) i (mkf P x (0, zf hv 24, zf kv 3) i) u).2.2)))] [(2, .int (nI u)), (1, .int (nI i)), (0, .ref a)] 0 0 65 [] := by
    intro i d
    induction d with
    | zero =>
      intro u hu hi hnext
      refine z_iload_n X dX4_mark_65 rfl (j := 0) rfl ?_
      refine z_aload_n X dX4_mark_66 rfl (j := 2) rfl ?_
      refine z_getW X 0 (C := RX4) (T := TX4) (N := 6) inX4 rfl rfl 0 (by decide) fl_X4_28 (fun _ h9 => h9) rfl dX4_mark_67 ?_
      refine z_icmp_ge X (tgt := 85) dX4_mark_70 (by decide) (fun c_70 => ?_) (fun c9 => absurd (by rw [show u = P by omega]; exact nI_le (Nat.le_refl _) (by omega)) c9)
      refine z_iinc X (j := 1) (v := (nI (i + 1))) (lv' := [(1, .int (nI (i + 1))), (2, .int (nI u)), (0, .ref a)]) dX4_mark_85 rfl (nI_1 i) (by decide) rfl ?_
      refine z_goto X (tgt := 55) dX4_mark_88 (by decide) ?_
      refine z_eq (ws' := [(a, .inr (4, [.int (nI P), .ref ar, .int (nI M), .int (nI (mkf P x (0, zf hv 24, zf kv 3) (i + 1)).1), .ref ah, .ref ak])), (ah, .inl (cy 0, 24, .inl (nA (mkf P x (0, zf hv 24, zf kv 3) (i + 1)).2.1))), (ak, .inl (cy 0, 3, .inl (nA (mkf P x (0, zf hv 24, zf kv 3) (i + 1)).2.2)))]) (lv' := [(1, .int (nI (i + 1))), (2, .int (nI u)), (0, .ref a)]) (st' := []) (by rw [show u = P by omega]; rfl) rfl rfl ?_
      refine z_lv [0, 2] (lv' := [(1, .int (nI (i + 1))), (0, .ref a)]) rfl ?_
      exact hnext
    | succ d ih =>
      intro u hu hi hnext
      refine z_iload_n X dX4_mark_65 rfl (j := 0) rfl ?_
      refine z_aload_n X dX4_mark_66 rfl (j := 2) rfl ?_
      refine z_getW X 0 (C := RX4) (T := TX4) (N := 6) inX4 rfl rfl 0 (by decide) fl_X4_28 (fun _ h9 => h9) rfl dX4_mark_67 ?_
      refine z_icmp_ge X (tgt := 85) dX4_mark_70 (by decide) (fun c9 => absurd c9 (nI_ge (by omega) (by omega))) (fun c_70 => ?_)
      refine z_aload_n X dX4_mark_73 rfl (j := 2) rfl ?_
      refine z_iload_n X dX4_mark_74 rfl (j := 1) rfl ?_
      refine z_iload_n X dX4_mark_75 rfl (j := 0) rfl ?_
      refine z_retv X (as := [.ref a, .int (nI i), .int (nI u)]) (wc := [(a, .inr (4, [.int (nI P), .ref ar, .int (nI M), .int (nI (mkp P (x i) i (mkf P x (0, zf hv 24, zf kv 3) i) u).1), .ref ah, .ref ak])), (ah, .inl (cy 0, 24, .inl (nA (mkp P (x i) i (mkf P x (0, zf hv 24, zf kv 3) i) u).2.1))), (ak, .inl (cy 0, 3, .inl (nA (mkp P (x i) i (mkf P x (0, zf hv 24, zf kv 3) i) u).2.2)))]) (wr := []) (rest := []) (fun H9 locs9 ls9 hP9 hS9 hl9 hb9 hp9 => va_runV (As := [.int (nI i), .int (nI u)]) (rest := []) X.fix (m_markPlace l D cy O hR hP hP3 (show u < P by omega) (show i < 25 by omega) hx H9.size) (cwV 2 X.hts (gV ml_X4_38 im_X4_markPlace se_X4_markPlace ni_X4 cd_X4_markPlace) rfl rfl rfl (by decide +kernel) ⟨Nat.le_of_ble_eq_true rfl, Nat.le_of_ble_eq_true rfl⟩) ⟨hb9, z_recvW X (q0 := 0) (ci := 4) (r := (RX4, TX4, 6)) rfl rfl hP9, hp9⟩ rfl rfl hl9.1 rfl (lv_room (Nat.le_of_ble_eq_true rfl)) dX4_mark_76 ⟨Nat.le_of_ble_eq_true rfl, Nat.le_of_ble_eq_true rfl⟩) [0, 1, 2] [] rfl rfl rfl rfl rfl (by decide) (fun q h => Or.inl h) (fun w2 h3 => ?_)
      subst h3
      refine z_eq (ws' := [(a, .inr (4, [.int (nI P), .ref ar, .int (nI M), .int (nI (mkp P (x i) i (mkf P x (0, zf hv 24, zf kv 3) i) (u + 1)).1), .ref ah, .ref ak])), (ah, .inl (cy 0, 24, .inl (nA (mkp P (x i) i (mkf P x (0, zf hv 24, zf kv 3) i) (u + 1)).2.1))), (ak, .inl (cy 0, 3, .inl (nA (mkp P (x i) i (mkf P x (0, zf hv 24, zf kv 3) i) (u + 1)).2.2)))]) (lv' := [(2, .int (nI u)), (1, .int (nI i)), (0, .ref a)]) (st' := []) rfl rfl rfl ?_
      refine z_widen (k' := 0) (n' := 0) (Nat.le_refl _) (Nat.le_refl _) ?_
      refine z_iinc X (j := 0) (v := (nI (u + 1))) (lv' := [(2, .int (nI (u + 1))), (1, .int (nI i)), (0, .ref a)]) dX4_mark_79 rfl (nI_1 u) (by decide) rfl ?_
      refine z_goto X (tgt := 65) dX4_mark_82 (by decide) ?_
      refine z_eq (ws' := [(a, .inr (4, [.int (nI P), .ref ar, .int (nI M), .int (nI (mkp P (x i) i (mkf P x (0, zf hv 24, zf kv 3) i) (u + 1)).1), .ref ah, .ref ak])), (ah, .inl (cy 0, 24, .inl (nA (mkp P (x i) i (mkf P x (0, zf hv 24, zf kv 3) i) (u + 1)).2.1))), (ak, .inl (cy 0, 3, .inl (nA (mkp P (x i) i (mkf P x (0, zf hv 24, zf kv 3) i) (u + 1)).2.2)))]) (lv' := [(2, .int (nI (u + 1))), (1, .int (nI i)), (0, .ref a)]) (st' := []) rfl rfl rfl ?_
      exact ih (u + 1) (by omega) hi hnext
  have LO : ∀ (d : Nat) (i : Nat), i + d = M → Zz D (va_A [(a, .inr (4, [.int (nI P), .ref ar, .int (nI M), .int (nI V), .ref ah, .ref ak])), (ah, .inl (cy 0, 24, .inl (nA hv))), (ak, .inl (cy 0, 3, .inl (nA kv)))] s.heap.size) 3 p l e ({ frames := 2, cells := 0, slots := 0, locals := 46 }) s m args below meth c (MQ below (va_Qv (fun (w : va_W) => w = [(a, .inr (4, [.int (nI P), .ref ar, .int (nI M), .int (nI (mkf P x (0, zf hv 24, zf kv 3) M).1), .ref ah, .ref ak])), (ah, .inl (cy 0, 24, .inl (nA (mkf P x (0, zf hv 24, zf kv 3) M).2.1))), (ak, .inl (cy 0, 3, .inl (nA (mkf P x (0, zf hv 24, zf kv 3) M).2.2)))]) (end_ D [(a, .inr (4, [.int (nI P), .ref ar, .int (nI M), .int (nI V), .ref ah, .ref ak])), (ah, .inl (cy 0, 24, .inl (nA hv))), (ak, .inl (cy 0, 3, .inl (nA kv)))] s.heap.size) (va_A [(a, .inr (4, [.int (nI P), .ref ar, .int (nI M), .int (nI V), .ref ah, .ref ak])), (ah, .inl (cy 0, 24, .inl (nA hv))), (ak, .inl (cy 0, 3, .inl (nA kv)))] s.heap.size)) args s 0 0 (va_A [(a, .inr (4, [.int (nI P), .ref ar, .int (nI M), .int (nI V), .ref ah, .ref ak])), (ah, .inl (cy 0, 24, .inl (nA hv))), (ak, .inl (cy 0, 3, .inl (nA kv)))] s.heap.size)) [(a, .inr (4, [.int (nI P), .ref ar, .int (nI M), .int (nI (mkf P x (0, zf hv 24, zf kv 3) i).1), .ref ah, .ref ak])), (ah, .inl (cy 0, 24, .inl (nA (mkf P x (0, zf hv 24, zf kv 3) i).2.1))), (ak, .inl (cy 0, 3, .inl (nA (mkf P x (0, zf hv 24, zf kv 3) i).2.2)))] [(1, .int (nI i)), (0, .ref a)] 0 0 55 [] := by
    intro d
    induction d with
    | zero =>
      intro i hLO0
      refine z_iload_n X dX4_mark_55 rfl (j := 0) rfl ?_
      refine z_aload_n X dX4_mark_56 rfl (j := 1) rfl ?_
      refine z_getW X 0 (C := RX4) (T := TX4) (N := 6) inX4 rfl rfl 2 (by decide) fl_X4_15 (fun _ h9 => h9) rfl dX4_mark_57 ?_
      refine z_icmp_ge X (tgt := 91) dX4_mark_60 (by decide) (fun c_60 => ?_) (fun c9 => absurd (by rw [show i = M by omega]; exact nI_le (Nat.le_refl _) (by omega)) c9)
      exact z_endv X hr [(a, .inr (4, [.int (nI P), .ref ar, .int (nI M), .int (nI (mkf P x (0, zf hv 24, zf kv 3) i).1), .ref ah, .ref ak])), (ah, .inl (cy 0, 24, .inl (nA (mkf P x (0, zf hv 24, zf kv 3) i).2.1))), (ak, .inl (cy 0, 3, .inl (nA (mkf P x (0, zf hv 24, zf kv 3) i).2.2)))] [0, 1, 2] rfl rfl rfl (by rw [show i = M by omega]) dX4_mark_91
    | succ d ih =>
      intro i hLO0
      refine z_iload_n X dX4_mark_55 rfl (j := 0) rfl ?_
      refine z_aload_n X dX4_mark_56 rfl (j := 1) rfl ?_
      refine z_getW X 0 (C := RX4) (T := TX4) (N := 6) inX4 rfl rfl 2 (by decide) fl_X4_15 (fun _ h9 => h9) rfl dX4_mark_57 ?_
      refine z_icmp_ge X (tgt := 91) dX4_mark_60 (by decide) (fun c9 => absurd c9 (nI_ge (by omega) (by omega))) (fun c_60 => ?_)
      refine z_iconst X (v := 0) dX4_mark_63 (by decide) ?_
      refine z_istore_n X (lv' := [(2, .int 0), (1, .int (nI i)), (0, .ref a)]) dX4_mark_64 rfl (by decide) rfl ?_
      refine z_eq (ws' := [(a, .inr (4, [.int (nI P), .ref ar, .int (nI M), .int (nI (mkp P (x i) i (mkf P x (0, zf hv 24, zf kv 3) i) 0).1), .ref ah, .ref ak])), (ah, .inl (cy 0, 24, .inl (nA (mkp P (x i) i (mkf P x (0, zf hv 24, zf kv 3) i) 0).2.1))), (ak, .inl (cy 0, 3, .inl (nA (mkp P (x i) i (mkf P x (0, zf hv 24, zf kv 3) i) 0).2.2)))]) (lv' := [(2, .int (nI 0)), (1, .int (nI i)), (0, .ref a)]) (st' := []) rfl rfl rfl ?_
      exact LI i P 0 (by omega) (by omega) (ih (i + 1) (by omega))
  have K2 : ∀ (j : Nat), Zz D (va_A [(a, .inr (4, [.int (nI P), .ref ar, .int (nI M), .int (nI V), .ref ah, .ref ak])), (ah, .inl (cy 0, 24, .inl (nA hv))), (ak, .inl (cy 0, 3, .inl (nA kv)))] s.heap.size) 3 p l e ({ frames := 2, cells := 0, slots := 0, locals := 46 }) s m args below meth c (MQ below (va_Qv (fun (w : va_W) => w = [(a, .inr (4, [.int (nI P), .ref ar, .int (nI M), .int (nI (mkf P x (0, zf hv 24, zf kv 3) M).1), .ref ah, .ref ak])), (ah, .inl (cy 0, 24, .inl (nA (mkf P x (0, zf hv 24, zf kv 3) M).2.1))), (ak, .inl (cy 0, 3, .inl (nA (mkf P x (0, zf hv 24, zf kv 3) M).2.2)))]) (end_ D [(a, .inr (4, [.int (nI P), .ref ar, .int (nI M), .int (nI V), .ref ah, .ref ak])), (ah, .inl (cy 0, 24, .inl (nA hv))), (ak, .inl (cy 0, 3, .inl (nA kv)))] s.heap.size) (va_A [(a, .inr (4, [.int (nI P), .ref ar, .int (nI M), .int (nI V), .ref ah, .ref ak])), (ah, .inl (cy 0, 24, .inl (nA hv))), (ak, .inl (cy 0, 3, .inl (nA kv)))] s.heap.size)) args s 0 0 (va_A [(a, .inr (4, [.int (nI P), .ref ar, .int (nI M), .int (nI V), .ref ah, .ref ak])), (ah, .inl (cy 0, 24, .inl (nA hv))), (ak, .inl (cy 0, 3, .inl (nA kv)))] s.heap.size)) [(a, .inr (4, [.int (nI P), .ref ar, .int (nI M), .int 0, .ref ah, .ref ak])), (ah, .inl (cy 0, 24, .inl (nA (zf hv 24)))), (ak, .inl (cy 0, 3, .inl (nA (zf kv 3))))] [(1, .int (nI j)), (0, .ref a)] 0 0 53 [] := by
    intro j
    refine z_iconst X (v := 0) dX4_mark_53 (by decide) ?_
    refine z_istore_n X (lv' := [(1, .int 0), (0, .ref a)]) dX4_mark_54 rfl (by decide) rfl ?_
    refine z_eq (ws' := [(a, .inr (4, [.int (nI P), .ref ar, .int (nI M), .int (nI (mkf P x (0, zf hv 24, zf kv 3) 0).1), .ref ah, .ref ak])), (ah, .inl (cy 0, 24, .inl (nA (mkf P x (0, zf hv 24, zf kv 3) 0).2.1))), (ak, .inl (cy 0, 3, .inl (nA (mkf P x (0, zf hv 24, zf kv 3) 0).2.2)))]) (lv' := [(1, .int (nI 0)), (0, .ref a)]) (st' := []) rfl rfl rfl ?_
    exact LO M 0 (by omega)
  have L2 : ∀ (d : Nat) (j : Nat), j + d = 3 → Zz D (va_A [(a, .inr (4, [.int (nI P), .ref ar, .int (nI M), .int (nI V), .ref ah, .ref ak])), (ah, .inl (cy 0, 24, .inl (nA hv))), (ak, .inl (cy 0, 3, .inl (nA kv)))] s.heap.size) 3 p l e ({ frames := 2, cells := 0, slots := 0, locals := 46 }) s m args below meth c (MQ below (va_Qv (fun (w : va_W) => w = [(a, .inr (4, [.int (nI P), .ref ar, .int (nI M), .int (nI (mkf P x (0, zf hv 24, zf kv 3) M).1), .ref ah, .ref ak])), (ah, .inl (cy 0, 24, .inl (nA (mkf P x (0, zf hv 24, zf kv 3) M).2.1))), (ak, .inl (cy 0, 3, .inl (nA (mkf P x (0, zf hv 24, zf kv 3) M).2.2)))]) (end_ D [(a, .inr (4, [.int (nI P), .ref ar, .int (nI M), .int (nI V), .ref ah, .ref ak])), (ah, .inl (cy 0, 24, .inl (nA hv))), (ak, .inl (cy 0, 3, .inl (nA kv)))] s.heap.size) (va_A [(a, .inr (4, [.int (nI P), .ref ar, .int (nI M), .int (nI V), .ref ah, .ref ak])), (ah, .inl (cy 0, 24, .inl (nA hv))), (ak, .inl (cy 0, 3, .inl (nA kv)))] s.heap.size)) args s 0 0 (va_A [(a, .inr (4, [.int (nI P), .ref ar, .int (nI M), .int (nI V), .ref ah, .ref ak])), (ah, .inl (cy 0, 24, .inl (nA hv))), (ak, .inl (cy 0, 3, .inl (nA kv)))] s.heap.size)) [(a, .inr (4, [.int (nI P), .ref ar, .int (nI M), .int 0, .ref ah, .ref ak])), (ah, .inl (cy 0, 24, .inl (nA (zf hv 24)))), (ak, .inl (cy 0, 3, .inl (nA (zf kv j))))] [(1, .int (nI j)), (0, .ref a)] 0 0 31 [] := by
    intro d
    induction d with
    | zero =>
      intro j hL20
      refine z_iload_n X dX4_mark_31 rfl (j := 0) rfl ?_
      refine z_aload_n X dX4_mark_32 rfl (j := 1) rfl ?_
      refine z_getW X 0 (C := RX4) (T := TX4) (N := 6) inX4 rfl rfl 5 (by decide) fl_X4_25 (fun _ h9 => h9) rfl dX4_mark_33 ?_
      refine z_alenW X 2 (t := 0) rfl rfl (v := 3) rfl dX4_mark_36 ?_
      refine z_icmp_ge X (tgt := 53) dX4_mark_37 (by decide) (fun c_37 => ?_) (fun c9 => absurd (nI_le (a := 3) (b := j) (by omega) (by omega)) c9)
      refine z_eq (ws' := [(a, .inr (4, [.int (nI P), .ref ar, .int (nI M), .int 0, .ref ah, .ref ak])), (ah, .inl (cy 0, 24, .inl (nA (zf hv 24)))), (ak, .inl (cy 0, 3, .inl (nA (zf kv 3))))]) (lv' := [(1, .int (nI j)), (0, .ref a)]) (st' := []) (by rw [show j = 3 by omega]) rfl rfl ?_
      exact K2 _
    | succ d ih =>
      intro j hL20
      refine z_iload_n X dX4_mark_31 rfl (j := 0) rfl ?_
      refine z_aload_n X dX4_mark_32 rfl (j := 1) rfl ?_
      refine z_getW X 0 (C := RX4) (T := TX4) (N := 6) inX4 rfl rfl 5 (by decide) fl_X4_25 (fun _ h9 => h9) rfl dX4_mark_33 ?_
      refine z_alenW X 2 (t := 0) rfl rfl (v := 3) rfl dX4_mark_36 ?_
      refine z_icmp_ge X (tgt := 53) dX4_mark_37 (by decide) (fun c9 => absurd c9 (nI_ge (a := j) (b := 3) (by omega) (by decide))) (fun c_37 => ?_)
      refine z_aload_n X dX4_mark_40 rfl (j := 1) rfl ?_
      refine z_getW X 0 (C := RX4) (T := TX4) (N := 6) inX4 rfl rfl 5 (by decide) fl_X4_25 (fun _ h9 => h9) rfl dX4_mark_41 ?_
      refine z_iload_n X dX4_mark_44 rfl (j := 0) rfl ?_
      refine z_iconst X (v := 0) dX4_mark_45 (by decide) ?_
      refine z_iastW X 2 rfl (vp_in_nI (by omega) (by decide)) (ws' := [(a, .inr (4, [.int (nI P), .ref ar, .int (nI M), .int 0, .ref ah, .ref ak])), (ah, .inl (cy 0, 24, .inl (nA (zf hv 24)))), (ak, .inl (cy 0, 3, .inl (nA (zf kv (j + 1)))))]) (by rw [upd_nA0 (by omega), zf_s]; rfl) dX4_mark_46 ?_
      refine z_iinc X (j := 0) (v := (nI (j + 1))) (lv' := [(1, .int (nI (j + 1))), (0, .ref a)]) dX4_mark_47 rfl (nI_1 j) (by decide) rfl ?_
      refine z_goto X (tgt := 31) dX4_mark_50 (by decide) ?_
      refine z_eq (ws' := [(a, .inr (4, [.int (nI P), .ref ar, .int (nI M), .int 0, .ref ah, .ref ak])), (ah, .inl (cy 0, 24, .inl (nA (zf hv 24)))), (ak, .inl (cy 0, 3, .inl (nA (zf kv (j + 1)))))]) (lv' := [(1, .int (nI (j + 1))), (0, .ref a)]) (st' := []) rfl rfl rfl ?_
      exact ih (j + 1) (by omega)
  have K1 : ∀ (j : Nat), Zz D (va_A [(a, .inr (4, [.int (nI P), .ref ar, .int (nI M), .int (nI V), .ref ah, .ref ak])), (ah, .inl (cy 0, 24, .inl (nA hv))), (ak, .inl (cy 0, 3, .inl (nA kv)))] s.heap.size) 3 p l e ({ frames := 2, cells := 0, slots := 0, locals := 46 }) s m args below meth c (MQ below (va_Qv (fun (w : va_W) => w = [(a, .inr (4, [.int (nI P), .ref ar, .int (nI M), .int (nI (mkf P x (0, zf hv 24, zf kv 3) M).1), .ref ah, .ref ak])), (ah, .inl (cy 0, 24, .inl (nA (mkf P x (0, zf hv 24, zf kv 3) M).2.1))), (ak, .inl (cy 0, 3, .inl (nA (mkf P x (0, zf hv 24, zf kv 3) M).2.2)))]) (end_ D [(a, .inr (4, [.int (nI P), .ref ar, .int (nI M), .int (nI V), .ref ah, .ref ak])), (ah, .inl (cy 0, 24, .inl (nA hv))), (ak, .inl (cy 0, 3, .inl (nA kv)))] s.heap.size) (va_A [(a, .inr (4, [.int (nI P), .ref ar, .int (nI M), .int (nI V), .ref ah, .ref ak])), (ah, .inl (cy 0, 24, .inl (nA hv))), (ak, .inl (cy 0, 3, .inl (nA kv)))] s.heap.size)) args s 0 0 (va_A [(a, .inr (4, [.int (nI P), .ref ar, .int (nI M), .int (nI V), .ref ah, .ref ak])), (ah, .inl (cy 0, 24, .inl (nA hv))), (ak, .inl (cy 0, 3, .inl (nA kv)))] s.heap.size)) [(a, .inr (4, [.int (nI P), .ref ar, .int (nI M), .int 0, .ref ah, .ref ak])), (ah, .inl (cy 0, 24, .inl (nA (zf hv 24)))), (ak, .inl (cy 0, 3, .inl (nA kv)))] [(1, .int (nI j)), (0, .ref a)] 0 0 29 [] := by
    intro j
    refine z_iconst X (v := 0) dX4_mark_29 (by decide) ?_
    refine z_istore_n X (lv' := [(1, .int 0), (0, .ref a)]) dX4_mark_30 rfl (by decide) rfl ?_
    refine z_eq (ws' := [(a, .inr (4, [.int (nI P), .ref ar, .int (nI M), .int 0, .ref ah, .ref ak])), (ah, .inl (cy 0, 24, .inl (nA (zf hv 24)))), (ak, .inl (cy 0, 3, .inl (nA (zf kv 0))))]) (lv' := [(1, .int (nI 0)), (0, .ref a)]) (st' := []) (by rw [zf_0]) rfl rfl ?_
    exact L2 3 0 (by omega)
  have L1 : ∀ (d : Nat) (j : Nat), j + d = 24 → Zz D (va_A [(a, .inr (4, [.int (nI P), .ref ar, .int (nI M), .int (nI V), .ref ah, .ref ak])), (ah, .inl (cy 0, 24, .inl (nA hv))), (ak, .inl (cy 0, 3, .inl (nA kv)))] s.heap.size) 3 p l e ({ frames := 2, cells := 0, slots := 0, locals := 46 }) s m args below meth c (MQ below (va_Qv (fun (w : va_W) => w = [(a, .inr (4, [.int (nI P), .ref ar, .int (nI M), .int (nI (mkf P x (0, zf hv 24, zf kv 3) M).1), .ref ah, .ref ak])), (ah, .inl (cy 0, 24, .inl (nA (mkf P x (0, zf hv 24, zf kv 3) M).2.1))), (ak, .inl (cy 0, 3, .inl (nA (mkf P x (0, zf hv 24, zf kv 3) M).2.2)))]) (end_ D [(a, .inr (4, [.int (nI P), .ref ar, .int (nI M), .int (nI V), .ref ah, .ref ak])), (ah, .inl (cy 0, 24, .inl (nA hv))), (ak, .inl (cy 0, 3, .inl (nA kv)))] s.heap.size) (va_A [(a, .inr (4, [.int (nI P), .ref ar, .int (nI M), .int (nI V), .ref ah, .ref ak])), (ah, .inl (cy 0, 24, .inl (nA hv))), (ak, .inl (cy 0, 3, .inl (nA kv)))] s.heap.size)) args s 0 0 (va_A [(a, .inr (4, [.int (nI P), .ref ar, .int (nI M), .int (nI V), .ref ah, .ref ak])), (ah, .inl (cy 0, 24, .inl (nA hv))), (ak, .inl (cy 0, 3, .inl (nA kv)))] s.heap.size)) [(a, .inr (4, [.int (nI P), .ref ar, .int (nI M), .int 0, .ref ah, .ref ak])), (ah, .inl (cy 0, 24, .inl (nA (zf hv j)))), (ak, .inl (cy 0, 3, .inl (nA kv)))] [(1, .int (nI j)), (0, .ref a)] 0 0 7 [] := by
    intro d
    induction d with
    | zero =>
      intro j hL10
      refine z_iload_n X dX4_mark_7 rfl (j := 0) rfl ?_
      refine z_aload_n X dX4_mark_8 rfl (j := 1) rfl ?_
      refine z_getW X 0 (C := RX4) (T := TX4) (N := 6) inX4 rfl rfl 4 (by decide) fl_X4_22 (fun _ h9 => h9) rfl dX4_mark_9 ?_
      refine z_alenW X 1 (t := 0) rfl rfl (v := 24) rfl dX4_mark_12 ?_
      refine z_icmp_ge X (tgt := 29) dX4_mark_13 (by decide) (fun c_13 => ?_) (fun c9 => absurd (nI_le (a := 24) (b := j) (by omega) (by omega)) c9)
      refine z_eq (ws' := [(a, .inr (4, [.int (nI P), .ref ar, .int (nI M), .int 0, .ref ah, .ref ak])), (ah, .inl (cy 0, 24, .inl (nA (zf hv 24)))), (ak, .inl (cy 0, 3, .inl (nA kv)))]) (lv' := [(1, .int (nI j)), (0, .ref a)]) (st' := []) (by rw [show j = 24 by omega]) rfl rfl ?_
      exact K1 _
    | succ d ih =>
      intro j hL10
      refine z_iload_n X dX4_mark_7 rfl (j := 0) rfl ?_
      refine z_aload_n X dX4_mark_8 rfl (j := 1) rfl ?_
      refine z_getW X 0 (C := RX4) (T := TX4) (N := 6) inX4 rfl rfl 4 (by decide) fl_X4_22 (fun _ h9 => h9) rfl dX4_mark_9 ?_
      refine z_alenW X 1 (t := 0) rfl rfl (v := 24) rfl dX4_mark_12 ?_
      refine z_icmp_ge X (tgt := 29) dX4_mark_13 (by decide) (fun c9 => absurd c9 (nI_ge (a := j) (b := 24) (by omega) (by decide))) (fun c_13 => ?_)
      refine z_aload_n X dX4_mark_16 rfl (j := 1) rfl ?_
      refine z_getW X 0 (C := RX4) (T := TX4) (N := 6) inX4 rfl rfl 4 (by decide) fl_X4_22 (fun _ h9 => h9) rfl dX4_mark_17 ?_
      refine z_iload_n X dX4_mark_20 rfl (j := 0) rfl ?_
      refine z_iconst X (v := 0) dX4_mark_21 (by decide) ?_
      refine z_iastW X 1 rfl (vp_in_nI (by omega) (by decide)) (ws' := [(a, .inr (4, [.int (nI P), .ref ar, .int (nI M), .int 0, .ref ah, .ref ak])), (ah, .inl (cy 0, 24, .inl (nA (zf hv (j + 1))))), (ak, .inl (cy 0, 3, .inl (nA kv)))]) (by rw [upd_nA0 (by omega), zf_s]; rfl) dX4_mark_22 ?_
      refine z_iinc X (j := 0) (v := (nI (j + 1))) (lv' := [(1, .int (nI (j + 1))), (0, .ref a)]) dX4_mark_23 rfl (nI_1 j) (by decide) rfl ?_
      refine z_goto X (tgt := 7) dX4_mark_26 (by decide) ?_
      refine z_eq (ws' := [(a, .inr (4, [.int (nI P), .ref ar, .int (nI M), .int 0, .ref ah, .ref ak])), (ah, .inl (cy 0, 24, .inl (nA (zf hv (j + 1))))), (ak, .inl (cy 0, 3, .inl (nA kv)))]) (lv' := [(1, .int (nI (j + 1))), (0, .ref a)]) (st' := []) rfl rfl rfl ?_
      exact ih (j + 1) (by omega)
  refine z_aload_n X dX4_mark_0 rfl (j := 0) rfl ?_
  refine z_iconst X (v := 0) dX4_mark_1 (by decide) ?_
  refine z_putW X 0 (C := RX4) (T := TX4) (N := 6) inX4 tyX4 tyX4_ok nmX4 rfl rfl 3 (by decide) fl_X4_19 (fun _ h9 => h9) rfl (ty := .int) (by decide +kernel) rfl rfl (Nat.le_of_ble_eq_true rfl) (ws' := [(a, .inr (4, [.int (nI P), .ref ar, .int (nI M), .int 0, .ref ah, .ref ak])), (ah, .inl (cy 0, 24, .inl (nA hv))), (ak, .inl (cy 0, 3, .inl (nA kv)))]) rfl dX4_mark_2 ?_
  refine z_iconst X (v := 0) dX4_mark_5 (by decide) ?_
  refine z_istore_n X (lv' := [(1, .int 0), (0, .ref a)]) dX4_mark_6 rfl (by decide) rfl ?_
  refine z_eq (ws' := [(a, .inr (4, [.int (nI P), .ref ar, .int (nI M), .int 0, .ref ah, .ref ak])), (ah, .inl (cy 0, 24, .inl (nA (zf hv 0)))), (ak, .inl (cy 0, 3, .inl (nA kv)))]) (lv' := [(1, .int (nI 0)), (0, .ref a)]) (st' := []) (by rw [zf_0]) rfl rfl ?_
  exact L1 24 0 (by omega)
set_option maxHeartbeats 4000000 in
set_option maxRecDepth 100000 in
/-- toggle(row) of a row that is none -/
theorem m_toggle (l : Launch) (D : va_G) (cy : Nat → ClassId) (O : Nat × va_E → Prop) {a ar ah ak P M V v : Nat} {x hv kv : Nat → Nat} (hP : 1 ≤ P) (hP3 : P ≤ 3) (hM : M ≤ 24) (hx : ∀ j, j < 25 → x j < 2 ^ 31) (hv0 : v < 2 ^ 31) (hn : (ft (fun i => decide (v ≤ x i)) M) < M → x (ft (fun i => decide (v ≤ x i)) M) ≠ v) : Cv l yX4_toggle (.code yX4_toggle cX4_toggle 4 none :: WALL) ({ frames := 3, cells := 0, slots := 0, locals := 68 }) D cy O [.ref a, .int (nI v)] [(a, .inr (4, [.int (nI P), .ref ar, .int (nI M), .int (nI V), .ref ah, .ref ak])), (ar, .inl (cy 0, 25, .inl (nA x))), (ah, .inl (cy 0, 24, .inl (nA hv))), (ak, .inl (cy 0, 3, .inl (nA kv)))] 0 0 (fun (w : va_W) => w = [(ar, .inl (cy 0, 25, .inl (nA (ins x M (ft (fun i => decide (v ≤ x i)) M) v)))), (a, .inr (4, [.int (nI P), .ref ar, .int (nI (M + 1)), .int (nI (mkf P (ins x M (ft (fun i => decide (v ≤ x i)) M) v) (0, zf hv 24, zf kv 3) (M + 1)).1), .ref ah, .ref ak])), (ah, .inl (cy 0, 24, .inl (nA (mkf P (ins x M (ft (fun i => decide (v ≤ x i)) M) v) (0, zf hv 24, zf kv 3) (M + 1)).2.1))), (ak, .inl (cy 0, 3, .inl (nA (mkf P (ins x M (ft (fun i => decide (v ≤ x i)) M) v) (0, zf hv 24, zf kv 3) (M + 1)).2.2)))]) := by
  refine z_metv (by decide) rfl rfl (Nat.le_of_ble_eq_true rfl) ?_
  intro p e s m args below meth c X hr hin
  refine z_eq (ws' := [(a, .inr (4, [.int (nI P), .ref ar, .int (nI M), .int (nI V), .ref ah, .ref ak])), (ar, .inl (cy 0, 25, .inl (nA x))), (ah, .inl (cy 0, 24, .inl (nA hv))), (ak, .inl (cy 0, 3, .inl (nA kv)))]) (lv' := [(0, .ref a), (1, .int (nI v))]) (st' := []) rfl rfl rfl ?_
  have hK : (ft (fun i => decide (v ≤ x i)) M) ≤ M := ft_le _ _
  have T109 : ∀ (k : Nat), Zz D (va_A [(a, .inr (4, [.int (nI P), .ref ar, .int (nI M), .int (nI V), .ref ah, .ref ak])), (ar, .inl (cy 0, 25, .inl (nA x))), (ah, .inl (cy 0, 24, .inl (nA hv))), (ak, .inl (cy 0, 3, .inl (nA kv)))] s.heap.size) 4 p l e ({ frames := 3, cells := 0, slots := 0, locals := 68 }) s m args below meth c (MQ below (va_Qv (fun (w : va_W) => w = [(ar, .inl (cy 0, 25, .inl (nA (ins x M (ft (fun i => decide (v ≤ x i)) M) v)))), (a, .inr (4, [.int (nI P), .ref ar, .int (nI (M + 1)), .int (nI (mkf P (ins x M (ft (fun i => decide (v ≤ x i)) M) v) (0, zf hv 24, zf kv 3) (M + 1)).1), .ref ah, .ref ak])), (ah, .inl (cy 0, 24, .inl (nA (mkf P (ins x M (ft (fun i => decide (v ≤ x i)) M) v) (0, zf hv 24, zf kv 3) (M + 1)).2.1))), (ak, .inl (cy 0, 3, .inl (nA (mkf P (ins x M (ft (fun i => decide (v ≤ x i)) M) v) (0, zf hv 24, zf kv 3) (M + 1)).2.2)))]) (end_ D [(a, .inr (4, [.int (nI P), .ref ar, .int (nI M), .int (nI V), .ref ah, .ref ak])), (ar, .inl (cy 0, 25, .inl (nA x))), (ah, .inl (cy 0, 24, .inl (nA hv))), (ak, .inl (cy 0, 3, .inl (nA kv)))] s.heap.size) (va_A [(a, .inr (4, [.int (nI P), .ref ar, .int (nI M), .int (nI V), .ref ah, .ref ak])), (ar, .inl (cy 0, 25, .inl (nA x))), (ah, .inl (cy 0, 24, .inl (nA hv))), (ak, .inl (cy 0, 3, .inl (nA kv)))] s.heap.size)) args s 0 0 (va_A [(a, .inr (4, [.int (nI P), .ref ar, .int (nI M), .int (nI V), .ref ah, .ref ak])), (ar, .inl (cy 0, 25, .inl (nA x))), (ah, .inl (cy 0, 24, .inl (nA hv))), (ak, .inl (cy 0, 3, .inl (nA kv)))] s.heap.size)) [(a, .inr (4, [.int (nI P), .ref ar, .int (nI M), .int (nI V), .ref ah, .ref ak])), (ar, .inl (cy 0, 25, .inl (nA (shf x M (ft (fun i => decide (v ≤ x i)) M))))), (ah, .inl (cy 0, 24, .inl (nA hv))), (ak, .inl (cy 0, 3, .inl (nA kv)))] [(3, .int (nI k)), (2, .int (nI (ft (fun i => decide (v ≤ x i)) M))), (0, .ref a), (1, .int (nI v))] 0 0 109 [] := by
    intro k
    refine z_aload_n X dX4_toggle_109 rfl (j := 2) rfl ?_
    refine z_getW X 0 (C := RX4) (T := TX4) (N := 6) inX4 rfl rfl 1 (by decide) fl_X4_9 (fun _ h9 => h9) rfl dX4_toggle_110 ?_
    refine z_iload_n X dX4_toggle_113 rfl (j := 1) rfl ?_
    refine z_iload_n X dX4_toggle_114 rfl (j := 3) rfl ?_
    refine z_iastW X 1 rfl (vp_in_nI (by omega) (by decide)) (ws' := [(a, .inr (4, [.int (nI P), .ref ar, .int (nI M), .int (nI V), .ref ah, .ref ak])), (ar, .inl (cy 0, 25, .inl (nA (ins x M (ft (fun i => decide (v ≤ x i)) M) v)))), (ah, .inl (cy 0, 24, .inl (nA hv))), (ak, .inl (cy 0, 3, .inl (nA kv)))]) (by rw [upd_nA' (by omega)]; rfl) dX4_toggle_115 ?_
    refine z_aload_n X dX4_toggle_116 rfl (j := 2) rfl ?_
    refine z_dup X dX4_toggle_117 rfl ?_
    refine z_getW X 0 (C := RX4) (T := TX4) (N := 6) inX4 rfl rfl 2 (by decide) fl_X4_15 (fun _ h9 => h9) rfl dX4_toggle_118 ?_
    refine z_iconst X (v := 1) dX4_toggle_121 (by decide) ?_
    refine z_iadd X (v := (nI (M + 1))) dX4_toggle_122 (nI_1 M) ?_
    refine z_putW X 0 (C := RX4) (T := TX4) (N := 6) inX4 tyX4 tyX4_ok nmX4 rfl rfl 2 (by decide) fl_X4_15 (fun _ h9 => h9) rfl (ty := .int) (by decide +kernel) rfl rfl (Nat.le_of_ble_eq_true rfl) (ws' := [(a, .inr (4, [.int (nI P), .ref ar, .int (nI (M + 1)), .int (nI V), .ref ah, .ref ak])), (ar, .inl (cy 0, 25, .inl (nA (ins x M (ft (fun i => decide (v ≤ x i)) M) v)))), (ah, .inl (cy 0, 24, .inl (nA hv))), (ak, .inl (cy 0, 3, .inl (nA kv)))]) rfl dX4_toggle_123 ?_
    refine z_aload_n X dX4_toggle_126 rfl (j := 2) rfl ?_
    refine z_retv X (as := [.ref a]) (wc := [(a, .inr (4, [.int (nI P), .ref ar, .int (nI (M + 1)), .int (nI V), .ref ah, .ref ak])), (ah, .inl (cy 0, 24, .inl (nA hv))), (ak, .inl (cy 0, 3, .inl (nA kv)))]) (wr := [(ar, .inl (cy 0, 25, .inl (nA (ins x M (ft (fun i => decide (v ≤ x i)) M) v))))]) (rest := []) (fun H9 locs9 ls9 hP9 hS9 hl9 hb9 hp9 => va_runV (As := []) (rest := []) X.fix (m_mark l D cy (fun q => O q ∨ q ∈ ([(ar, .inl (cy 0, 25, .inl (nA (ins x M (ft (fun i => decide (v ≤ x i)) M) v))))] : va_W)) (Or.inr (List.mem_of_getElem? (i := 0) rfl)) hP hP3 (show M + 1 ≤ 25 by omega) (ins_lt hx hv0) H9.size) (cwV 0 X.hts (gV ml_X4_35 im_X4_mark se_X4_mark ni_X4 cd_X4_mark) rfl rfl rfl (by decide +kernel) ⟨Nat.le_of_ble_eq_true rfl, Nat.le_of_ble_eq_true rfl⟩) ⟨hb9, z_recvW X (q0 := 0) (ci := 4) (r := (RX4, TX4, 6)) rfl rfl hP9, hp9⟩ rfl rfl hl9.1 rfl (lv_room (Nat.le_of_ble_eq_true rfl)) dX4_toggle_127 ⟨Nat.le_of_ble_eq_true rfl, Nat.le_of_ble_eq_true rfl⟩) [0, 2, 3] [1] rfl rfl rfl rfl rfl (by decide) (fun q h => h) (fun w2 h3 => ?_)
    subst h3
    refine z_eq (ws' := [(ar, .inl (cy 0, 25, .inl (nA (ins x M (ft (fun i => decide (v ≤ x i)) M) v)))), (a, .inr (4, [.int (nI P), .ref ar, .int (nI (M + 1)), .int (nI (mkf P (ins x M (ft (fun i => decide (v ≤ x i)) M) v) (0, zf hv 24, zf kv 3) (M + 1)).1), .ref ah, .ref ak])), (ah, .inl (cy 0, 24, .inl (nA (mkf P (ins x M (ft (fun i => decide (v ≤ x i)) M) v) (0, zf hv 24, zf kv 3) (M + 1)).2.1))), (ak, .inl (cy 0, 3, .inl (nA (mkf P (ins x M (ft (fun i => decide (v ≤ x i)) M) v) (0, zf hv 24, zf kv 3) (M + 1)).2.2)))]) (lv' := [(3, .int (nI k)), (2, .int (nI (ft (fun i => decide (v ≤ x i)) M))), (0, .ref a), (1, .int (nI v))]) (st' := []) rfl rfl rfl ?_
    refine z_widen (k' := 0) (n' := 0) (Nat.le_refl _) (Nat.le_refl _) ?_
    exact z_endv X hr [(ar, .inl (cy 0, 25, .inl (nA (ins x M (ft (fun i => decide (v ≤ x i)) M) v)))), (a, .inr (4, [.int (nI P), .ref ar, .int (nI (M + 1)), .int (nI (mkf P (ins x M (ft (fun i => decide (v ≤ x i)) M) v) (0, zf hv 24, zf kv 3) (M + 1)).1), .ref ah, .ref ak])), (ah, .inl (cy 0, 24, .inl (nA (mkf P (ins x M (ft (fun i => decide (v ≤ x i)) M) v) (0, zf hv 24, zf kv 3) (M + 1)).2.1))), (ak, .inl (cy 0, 3, .inl (nA (mkf P (ins x M (ft (fun i => decide (v ≤ x i)) M) v) (0, zf hv 24, zf kv 3) (M + 1)).2.2)))] [0, 1, 2, 3] rfl rfl rfl rfl dX4_toggle_130
  have L : ∀ (d : Nat) (k : Nat), k = (ft (fun i => decide (v ≤ x i)) M) + d → k ≤ M → Zz D (va_A [(a, .inr (4, [.int (nI P), .ref ar, .int (nI M), .int (nI V), .ref ah, .ref ak])), (ar, .inl (cy 0, 25, .inl (nA x))), (ah, .inl (cy 0, 24, .inl (nA hv))), (ak, .inl (cy 0, 3, .inl (nA kv)))] s.heap.size) 4 p l e ({ frames := 3, cells := 0, slots := 0, locals := 68 }) s m args below meth c (MQ below (va_Qv (fun (w : va_W) => w = [(ar, .inl (cy 0, 25, .inl (nA (ins x M (ft (fun i => decide (v ≤ x i)) M) v)))), (a, .inr (4, [.int (nI P), .ref ar, .int (nI (M + 1)), .int (nI (mkf P (ins x M (ft (fun i => decide (v ≤ x i)) M) v) (0, zf hv 24, zf kv 3) (M + 1)).1), .ref ah, .ref ak])), (ah, .inl (cy 0, 24, .inl (nA (mkf P (ins x M (ft (fun i => decide (v ≤ x i)) M) v) (0, zf hv 24, zf kv 3) (M + 1)).2.1))), (ak, .inl (cy 0, 3, .inl (nA (mkf P (ins x M (ft (fun i => decide (v ≤ x i)) M) v) (0, zf hv 24, zf kv 3) (M + 1)).2.2)))]) (end_ D [(a, .inr (4, [.int (nI P), .ref ar, .int (nI M), .int (nI V), .ref ah, .ref ak])), (ar, .inl (cy 0, 25, .inl (nA x))), (ah, .inl (cy 0, 24, .inl (nA hv))), (ak, .inl (cy 0, 3, .inl (nA kv)))] s.heap.size) (va_A [(a, .inr (4, [.int (nI P), .ref ar, .int (nI M), .int (nI V), .ref ah, .ref ak])), (ar, .inl (cy 0, 25, .inl (nA x))), (ah, .inl (cy 0, 24, .inl (nA hv))), (ak, .inl (cy 0, 3, .inl (nA kv)))] s.heap.size)) args s 0 0 (va_A [(a, .inr (4, [.int (nI P), .ref ar, .int (nI M), .int (nI V), .ref ah, .ref ak])), (ar, .inl (cy 0, 25, .inl (nA x))), (ah, .inl (cy 0, 24, .inl (nA hv))), (ak, .inl (cy 0, 3, .inl (nA kv)))] s.heap.size)) [(a, .inr (4, [.int (nI P), .ref ar, .int (nI M), .int (nI V), .ref ah, .ref ak])), (ar, .inl (cy 0, 25, .inl (nA (shf x M k)))), (ah, .inl (cy 0, 24, .inl (nA hv))), (ak, .inl (cy 0, 3, .inl (nA kv)))] [(3, .int (nI k)), (2, .int (nI (ft (fun i => decide (v ≤ x i)) M))), (0, .ref a), (1, .int (nI v))] 0 0 84 [] := by
    intro d
    induction d with
    | zero =>
      intro k hL0 hL1
      refine z_iload_n X dX4_toggle_84 rfl (j := 0) rfl ?_
      refine z_iload_n X dX4_toggle_85 rfl (j := 1) rfl ?_
      refine z_icmp_le X (tgt := 109) dX4_toggle_86 (by decide) (fun c_86 => ?_) (fun c9 => absurd (by rw [show k = (ft (fun i => decide (v ≤ x i)) M) by omega]; exact nI_le (Nat.le_refl _) (by omega)) c9)
      refine z_eq (ws' := [(a, .inr (4, [.int (nI P), .ref ar, .int (nI M), .int (nI V), .ref ah, .ref ak])), (ar, .inl (cy 0, 25, .inl (nA (shf x M (ft (fun i => decide (v ≤ x i)) M))))), (ah, .inl (cy 0, 24, .inl (nA hv))), (ak, .inl (cy 0, 3, .inl (nA kv)))]) (lv' := [(3, .int (nI k)), (2, .int (nI (ft (fun i => decide (v ≤ x i)) M))), (0, .ref a), (1, .int (nI v))]) (st' := []) (by rw [show k = (ft (fun i => decide (v ≤ x i)) M) by omega]) rfl rfl ?_
      exact T109 k
    | succ d ih =>
      intro k hL0 hL1
      refine z_iload_n X dX4_toggle_84 rfl (j := 0) rfl ?_
      refine z_iload_n X dX4_toggle_85 rfl (j := 1) rfl ?_
      refine z_icmp_le X (tgt := 109) dX4_toggle_86 (by decide) (fun c9 => absurd c9 (nI_ge (by omega) (by omega))) (fun c_86 => ?_)
      refine z_aload_n X dX4_toggle_89 rfl (j := 2) rfl ?_
      refine z_getW X 0 (C := RX4) (T := TX4) (N := 6) inX4 rfl rfl 1 (by decide) fl_X4_9 (fun _ h9 => h9) rfl dX4_toggle_90 ?_
      refine z_iload_n X dX4_toggle_93 rfl (j := 0) rfl ?_
      refine z_aload_n X dX4_toggle_94 rfl (j := 2) rfl ?_
      refine z_getW X 0 (C := RX4) (T := TX4) (N := 6) inX4 rfl rfl 1 (by decide) fl_X4_9 (fun _ h9 => h9) rfl dX4_toggle_95 ?_
      refine z_iload_n X dX4_toggle_98 rfl (j := 0) rfl ?_
      refine z_iconst X (v := 1) dX4_toggle_99 (by decide) ?_
      refine z_isub X (v := (nI (k - 1))) dX4_toggle_100 (sub_1 (by omega)) ?_
      refine z_ialdW X 1 rfl (v := (nI (shf x M k (k - 1)))) (vp_in_nI (by omega) (by decide)) (nA_at (by omega)) dX4_toggle_101 ?_
      refine z_iastW X 1 rfl (vp_in_nI (by omega) (by decide)) (ws' := [(a, .inr (4, [.int (nI P), .ref ar, .int (nI M), .int (nI V), .ref ah, .ref ak])), (ar, .inl (cy 0, 25, .inl (nA (shf x M (k - 1))))), (ah, .inl (cy 0, 24, .inl (nA hv))), (ak, .inl (cy 0, 3, .inl (nA kv)))]) (by rw [upd_nA' (by omega)]; have h9 := shf_s x (M := M) (k := k - 1) (by omega); rw [show k - 1 + 1 = k by omega] at h9; rw [h9]; rfl) dX4_toggle_102 ?_
      refine z_iinc X (j := 0) (v := (nI (k - 1))) (lv' := [(3, .int (nI (k - 1))), (2, .int (nI (ft (fun i => decide (v ≤ x i)) M))), (0, .ref a), (1, .int (nI v))]) dX4_toggle_103 rfl (sub_1i (by omega)) (by decide) rfl ?_
      refine z_goto X (tgt := 84) dX4_toggle_106 (by decide) ?_
      refine z_eq (ws' := [(a, .inr (4, [.int (nI P), .ref ar, .int (nI M), .int (nI V), .ref ah, .ref ak])), (ar, .inl (cy 0, 25, .inl (nA (shf x M (k - 1))))), (ah, .inl (cy 0, 24, .inl (nA hv))), (ak, .inl (cy 0, 3, .inl (nA kv)))]) (lv' := [(3, .int (nI (k - 1))), (2, .int (nI (ft (fun i => decide (v ≤ x i)) M))), (0, .ref a), (1, .int (nI v))]) (st' := []) rfl rfl rfl ?_
      exact ih (k - 1) (by omega) (by omega)
  have T67 : Zz D (va_A [(a, .inr (4, [.int (nI P), .ref ar, .int (nI M), .int (nI V), .ref ah, .ref ak])), (ar, .inl (cy 0, 25, .inl (nA x))), (ah, .inl (cy 0, 24, .inl (nA hv))), (ak, .inl (cy 0, 3, .inl (nA kv)))] s.heap.size) 4 p l e ({ frames := 3, cells := 0, slots := 0, locals := 68 }) s m args below meth c (MQ below (va_Qv (fun (w : va_W) => w = [(ar, .inl (cy 0, 25, .inl (nA (ins x M (ft (fun i => decide (v ≤ x i)) M) v)))), (a, .inr (4, [.int (nI P), .ref ar, .int (nI (M + 1)), .int (nI (mkf P (ins x M (ft (fun i => decide (v ≤ x i)) M) v) (0, zf hv 24, zf kv 3) (M + 1)).1), .ref ah, .ref ak])), (ah, .inl (cy 0, 24, .inl (nA (mkf P (ins x M (ft (fun i => decide (v ≤ x i)) M) v) (0, zf hv 24, zf kv 3) (M + 1)).2.1))), (ak, .inl (cy 0, 3, .inl (nA (mkf P (ins x M (ft (fun i => decide (v ≤ x i)) M) v) (0, zf hv 24, zf kv 3) (M + 1)).2.2)))]) (end_ D [(a, .inr (4, [.int (nI P), .ref ar, .int (nI M), .int (nI V), .ref ah, .ref ak])), (ar, .inl (cy 0, 25, .inl (nA x))), (ah, .inl (cy 0, 24, .inl (nA hv))), (ak, .inl (cy 0, 3, .inl (nA kv)))] s.heap.size) (va_A [(a, .inr (4, [.int (nI P), .ref ar, .int (nI M), .int (nI V), .ref ah, .ref ak])), (ar, .inl (cy 0, 25, .inl (nA x))), (ah, .inl (cy 0, 24, .inl (nA hv))), (ak, .inl (cy 0, 3, .inl (nA kv)))] s.heap.size)) args s 0 0 (va_A [(a, .inr (4, [.int (nI P), .ref ar, .int (nI M), .int (nI V), .ref ah, .ref ak])), (ar, .inl (cy 0, 25, .inl (nA x))), (ah, .inl (cy 0, 24, .inl (nA hv))), (ak, .inl (cy 0, 3, .inl (nA kv)))] s.heap.size)) [(a, .inr (4, [.int (nI P), .ref ar, .int (nI M), .int (nI V), .ref ah, .ref ak])), (ar, .inl (cy 0, 25, .inl (nA x))), (ah, .inl (cy 0, 24, .inl (nA hv))), (ak, .inl (cy 0, 3, .inl (nA kv)))] [(2, .int (nI (ft (fun i => decide (v ≤ x i)) M))), (0, .ref a), (1, .int (nI v))] 0 0 67 [] := by
    refine z_aload_n X dX4_toggle_67 rfl (j := 1) rfl ?_
    refine z_getW X 0 (C := RX4) (T := TX4) (N := 6) inX4 rfl rfl 2 (by decide) fl_X4_15 (fun _ h9 => h9) rfl dX4_toggle_68 ?_
    refine z_aload_n X dX4_toggle_71 rfl (j := 1) rfl ?_
    refine z_getW X 0 (C := RX4) (T := TX4) (N := 6) inX4 rfl rfl 1 (by decide) fl_X4_9 (fun _ h9 => h9) rfl dX4_toggle_72 ?_
    refine z_alenW X 1 (t := 0) rfl rfl (v := 25) rfl dX4_toggle_75 ?_
    refine z_icmp_ge X (tgt := 126) dX4_toggle_76 (by decide) (fun c9 => absurd c9 (nI_ge (a := M) (b := 25) (by omega) (by decide))) (fun c_76 => ?_)
    refine z_aload_n X dX4_toggle_79 rfl (j := 1) rfl ?_
    refine z_getW X 0 (C := RX4) (T := TX4) (N := 6) inX4 rfl rfl 2 (by decide) fl_X4_15 (fun _ h9 => h9) rfl dX4_toggle_80 ?_
    refine z_istore_n X (lv' := [(3, .int (nI M)), (2, .int (nI (ft (fun i => decide (v ≤ x i)) M))), (0, .ref a), (1, .int (nI v))]) dX4_toggle_83 rfl (by decide) rfl ?_
    refine z_eq (ws' := [(a, .inr (4, [.int (nI P), .ref ar, .int (nI M), .int (nI V), .ref ah, .ref ak])), (ar, .inl (cy 0, 25, .inl (nA (shf x M M)))), (ah, .inl (cy 0, 24, .inl (nA hv))), (ak, .inl (cy 0, 3, .inl (nA kv)))]) (lv' := [(3, .int (nI M)), (2, .int (nI (ft (fun i => decide (v ≤ x i)) M))), (0, .ref a), (1, .int (nI v))]) (st' := []) (by rw [shf_M]) rfl rfl ?_
    exact L (M - (ft (fun i => decide (v ≤ x i)) M)) M (by omega) (Nat.le_refl _)
  refine z_aload_n X dX4_toggle_0 rfl (j := 0) rfl ?_
  refine z_iload_n X dX4_toggle_1 rfl (j := 1) rfl ?_
  refine z_reti X (as := [.ref a, .int (nI v)]) (wc := []) (wr := [(a, .inr (4, [.int (nI P), .ref ar, .int (nI M), .int (nI V), .ref ah, .ref ak])), (ar, .inl (cy 0, 25, .inl (nA x))), (ah, .inl (cy 0, 24, .inl (nA hv))), (ak, .inl (cy 0, 3, .inl (nA kv)))]) (rest := []) (fun H9 locs9 ls9 hP9 hS9 hl9 hb9 hp9 => va_runV (As := [.int (nI v)]) (rest := []) X.fix (m_placeFor l D cy (fun q => O q ∨ q ∈ ([(a, .inr (4, [.int (nI P), .ref ar, .int (nI M), .int (nI V), .ref ah, .ref ak])), (ar, .inl (cy 0, 25, .inl (nA x))), (ah, .inl (cy 0, 24, .inl (nA hv))), (ak, .inl (cy 0, 3, .inl (nA kv)))] : va_W)) (Or.inr (List.mem_of_getElem? (i := 0) rfl)) (Or.inr (List.mem_of_getElem? (i := 1) rfl)) (show M ≤ 25 by omega) (f := nA x) (fun _ _ => rfl) (fun i hi => hx i (by omega)) hv0 H9.size) (cwV 1 X.hts (gV ml_X4_31 im_X4_placeFor se_X4_placeFor ni_X4 cd_X4_placeFor) rfl rfl rfl (by decide +kernel) ⟨Nat.le_of_ble_eq_true rfl, Nat.le_of_ble_eq_true rfl⟩) ⟨hb9, z_recvW X (q0 := 0) (ci := 4) (r := (RX4, TX4, 6)) rfl rfl hP9, hp9⟩ rfl rfl hl9.1 rfl (lv_room (Nat.le_of_ble_eq_true rfl)) dX4_toggle_2 ⟨Nat.le_of_ble_eq_true rfl, Nat.le_of_ble_eq_true rfl⟩) [] [0, 1, 2, 3] rfl rfl rfl rfl rfl (by decide) (fun q h => h) (fun r4 w5 h6 => ?_)
  obtain ⟨rfl, rfl⟩ := h6
  refine z_eq (ws' := [(a, .inr (4, [.int (nI P), .ref ar, .int (nI M), .int (nI V), .ref ah, .ref ak])), (ar, .inl (cy 0, 25, .inl (nA x))), (ah, .inl (cy 0, 24, .inl (nA hv))), (ak, .inl (cy 0, 3, .inl (nA kv)))]) (lv' := [(0, .ref a), (1, .int (nI v))]) (st' := [.int (nI (ft (fun i => decide (v ≤ x i)) M))]) rfl rfl rfl ?_
  refine z_widen (k' := 0) (n' := 0) (Nat.le_refl _) (Nat.le_refl _) ?_
  refine z_istore_n X (lv' := [(2, .int (nI (ft (fun i => decide (v ≤ x i)) M))), (0, .ref a), (1, .int (nI v))]) dX4_toggle_5 rfl (by decide) rfl ?_
  refine z_iload_n X dX4_toggle_6 rfl (j := 0) rfl ?_
  refine z_aload_n X dX4_toggle_7 rfl (j := 1) rfl ?_
  refine z_getW X 0 (C := RX4) (T := TX4) (N := 6) inX4 rfl rfl 2 (by decide) fl_X4_15 (fun _ h9 => h9) rfl dX4_toggle_8 ?_
  refine z_icmp_ge X (tgt := 67) dX4_toggle_11 (by decide) (fun c_11 => ?_) (fun c_11 => ?_)
  · skip
    exact T67
  · skip
    refine z_aload_n X dX4_toggle_14 rfl (j := 1) rfl ?_
    refine z_getW X 0 (C := RX4) (T := TX4) (N := 6) inX4 rfl rfl 1 (by decide) fl_X4_9 (fun _ h9 => h9) rfl dX4_toggle_15 ?_
    refine z_iload_n X dX4_toggle_18 rfl (j := 0) rfl ?_
    have hlt : (ft (fun i => decide (v ≤ x i)) M) < M := lt_of_nle c_11 (by omega) (by omega)
    refine z_ialdW X 1 rfl (v := (nI (x (ft (fun i => decide (v ≤ x i)) M)))) (vp_in_nI (by omega) (by decide)) (nA_at (by omega)) dX4_toggle_19 ?_
    refine z_iload_n X dX4_toggle_20 rfl (j := 2) rfl ?_
    refine z_icmp_ne X (tgt := 67) dX4_toggle_21 (by decide) (fun c_21 => ?_) (fun c9 => absurd c9 (fun z => hn hlt ((nI_eq (hx _ (by omega)) hv0).mp z)))
    exact T67
