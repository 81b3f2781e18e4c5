set_option maxHeartbeats 4000000 in
set_option maxRecDepth 100000 in
/-- rule(many, t, u, v) -/
theorem m_rule (l : Launch) (D : va_G) (cy : Nat → ClassId) (O : Nat × va_E → Prop) {a ra fa ua rc fc uc : Nat} {g6 g7 g8 : Value} {F : Nat → Option Nat} {P : Nat} {x y z : Int32} {t : Nat → Nat} (hP3 : P ≤ 3) (ht : ∀ j, j < P → a3 x y z j = nI (t j) ∧ isT (t j)) (huc : uc < 8) : Ci l yX9_rule (.code yX9_rule cX9_rule 5 (some .int) :: WALL) ({ frames := 3, cells := 4, slots := 15, locals := 63 }) D cy O [.ref a, .int (nI P), .int x, .int y, .int z] [(a, .inr (9, [.ref ra, .int (nI rc), .ref fa, .int (nI fc), .ref ua, .int (nI uc), g6, g7, g8])), (ua, .inl (cy 4, 8, .inr (.inr (.inr (.inr F)))))] 4 15 (fun (r : Int32) (w : va_W) => r = nI uc ∧ ∃ h1 h2 r4 r5 : Nat, w = [(h2, .inr (7, [.int (nI P), .ref r4, .int (nI (vsf t P)), .int (nI (vlf t P))])), (r4, .inl (cy 0, 3, .inl (a3 x y z))), (a, .inr (9, [.ref ra, .int (nI rc), .ref fa, .int (nI fc), .ref ua, .int (nI (uc + 1)), g6, g7, g8])), (ua, .inl (cy 4, 8, .inr (.inr (.inr (.inr (va_up F uc (some h1))))))), (h1, .inr (6, [.ref h2, .ref r5, .int 0])), (r5, .inl (cy 5, 5, .inr (.inr (.inr (.inr (fun _ => none))))))]) := by
  refine z_meti (by decide) rfl rfl (Nat.le_of_ble_eq_true rfl) ?_
  intro p e s m args below meth c X hr hin
  refine z_eq (ws' := [(a, .inr (9, [.ref ra, .int (nI rc), .ref fa, .int (nI fc), .ref ua, .int (nI uc), g6, g7, g8])), (ua, .inl (cy 4, 8, .inr (.inr (.inr (.inr F)))))]) (lv' := [(0, .ref a), (1, .int (nI P)), (2, .int x), (3, .int y), (4, .int z)]) (st' := []) rfl rfl rfl ?_
  refine z_iload_n X dX9_rule_0 rfl (j := 1) rfl ?_
  refine z_if_lt X (tgt := 9) dX9_rule_1 (by decide) (fun c9 => absurd c9 (nI_pos (by omega))) (fun c_1 => ?_)
  refine z_iload_n X dX9_rule_4 rfl (j := 1) rfl ?_
  refine z_iconst X (v := 3) dX9_rule_5 (by decide) ?_
  refine z_icmp_le X (tgt := 19) dX9_rule_6 (by decide) (fun c_6 => ?_) (fun c9 => absurd (nI_le (a := P) (b := 3) hP3 (by decide)) c9)
  refine z_iload_n X dX9_rule_19 rfl (j := 1) rfl ?_
  refine z_iload_n X dX9_rule_20 rfl (j := 2) rfl ?_
  refine z_iload_n X dX9_rule_21 rfl (j := 3) rfl ?_
  refine z_iload X dX9_rule_22 (j := 4) rfl ?_
  refine z_retv X (as := [.int (nI P), .int x, .int y, .int z]) (wc := []) (wr := [(a, .inr (9, [.ref ra, .int (nI rc), .ref fa, .int (nI fc), .ref ua, .int (nI uc), g6, g7, g8])), (ua, .inl (cy 4, 8, .inr (.inr (.inr (.inr F)))))]) (rest := []) (fun H9 locs9 ls9 hP9 hS9 hl9 hb9 hp9 => va_runS (As := [.int (nI P), .int x, .int y, .int z]) (rest := []) X.fix (m_needTerms l D cy O hP3 ht H9.size) (va_cwS 4 X.hts (gS ml_X9_114 sm_X9_needTerms ni_X9 cd_X9_needTerms) rfl rfl rfl (by decide +kernel) ⟨Nat.le_of_ble_eq_true rfl, Nat.le_of_ble_eq_true rfl⟩) ⟨hb9, hp9⟩ rfl rfl hl9.1 rfl (lv_room (Nat.le_of_ble_eq_true rfl)) dX9_rule_24 ⟨Nat.le_of_ble_eq_true rfl, Nat.le_of_ble_eq_true rfl⟩) [] [0, 1] rfl rfl rfl rfl rfl (by decide) (fun _ h => Or.inl h) (fun w2 h3 => ?_)
  subst h3
  refine z_eq (ws' := [(a, .inr (9, [.ref ra, .int (nI rc), .ref fa, .int (nI fc), .ref ua, .int (nI uc), g6, g7, g8])), (ua, .inl (cy 4, 8, .inr (.inr (.inr (.inr F)))))]) (lv' := [(0, .ref a), (1, .int (nI P)), (2, .int x), (3, .int y), (4, .int z)]) (st' := []) rfl rfl rfl ?_
  refine z_widen (k' := 0) (n' := 0) (Nat.le_refl _) (Nat.le_refl _) ?_
  refine z_aload_n X dX9_rule_27 rfl (j := 0) rfl ?_
  refine z_getW X 0 (C := RX9) (T := TX9) (N := 9) inX9 rfl rfl 5 (by decide) fl_X9_34 (fun _ h9 => h9) rfl dX9_rule_28 ?_
  refine z_bipush X (v := 8) dX9_rule_31 (by decide) ?_
  refine z_icmp_lt X (tgt := 46) dX9_rule_33 (by decide) (fun c_33 => ?_) (fun c9 => absurd (nI_lt (a := uc) (b := 8) huc (by decide)) c9)
  refine z_aload_n X dX9_rule_46 rfl (j := 0) rfl ?_
  refine z_getW X 0 (C := RX9) (T := TX9) (N := 9) inX9 rfl rfl 4 (by decide) fl_X9_30 (fun _ h9 => h9) rfl dX9_rule_47 ?_
  refine z_aload_n X dX9_rule_50 rfl (j := 0) rfl ?_
  refine z_getW X 0 (C := RX9) (T := TX9) (N := 9) inX9 rfl rfl 5 (by decide) fl_X9_34 (fun _ h9 => h9) rfl dX9_rule_51 ?_
  refine z_new X (ci := 6) (fs := [.null, .null, .int 0]) (C := RX6) (T := TX6) (N := 3) inX6 tyX6 tyX6_ok cl_X9_28 it_X6 ni_X6 rfl (fun j hj => by rcases (show j = 0 ∨ j = 1 ∨ j = 2 by omega) with rfl | rfl | rfl <;> rfl) (Nat.le_of_ble_eq_true rfl) (Nat.le_of_ble_eq_true rfl) dX9_rule_54 (fun h1 => ?_)
  refine z_eq (ws' := [(a, .inr (9, [.ref ra, .int (nI rc), .ref fa, .int (nI fc), .ref ua, .int (nI uc), g6, g7, g8])), (ua, .inl (cy 4, 8, .inr (.inr (.inr (.inr F))))), (h1, .inr (6, [.null, .null, .int 0]))]) (lv' := [(0, .ref a), (1, .int (nI P)), (2, .int x), (3, .int y), (4, .int z)]) (st' := [.ref h1, .int (nI uc), .ref ua]) rfl rfl rfl ?_
  refine z_widen (k' := 1) (n' := 3) (Nat.le_of_ble_eq_true rfl) (Nat.le_of_ble_eq_true rfl) ?_
  refine z_dup X dX9_rule_57 rfl ?_
  refine z_new X (ci := 7) (fs := [.int 0, .null, .int 0, .int 0]) (C := RX7) (T := TX7) (N := 4) inX7 tyX7 tyX7_ok cl_X9_122 it_X7 ni_X7 rfl (fun j hj => by rcases (show j = 0 ∨ j = 1 ∨ j = 2 ∨ j = 3 by omega) with rfl | rfl | rfl | rfl <;> rfl) (Nat.le_of_ble_eq_true rfl) (Nat.le_of_ble_eq_true rfl) dX9_rule_58 (fun h2 => ?_)
  refine z_eq (ws' := [(a, .inr (9, [.ref ra, .int (nI rc), .ref fa, .int (nI fc), .ref ua, .int (nI uc), g6, g7, g8])), (ua, .inl (cy 4, 8, .inr (.inr (.inr (.inr F))))), (h1, .inr (6, [.null, .null, .int 0])), (h2, .inr (7, [.int 0, .null, .int 0, .int 0]))]) (lv' := [(0, .ref a), (1, .int (nI P)), (2, .int x), (3, .int y), (4, .int z)]) (st' := [.ref h2, .ref h1, .ref h1, .int (nI uc), .ref ua]) rfl rfl rfl ?_
  refine z_widen (k' := 2) (n' := 7) (Nat.le_of_ble_eq_true rfl) (Nat.le_of_ble_eq_true rfl) ?_
  refine z_dup X dX9_rule_61 rfl ?_
  refine z_iload_n X dX9_rule_62 rfl (j := 1) rfl ?_
  refine z_iload_n X dX9_rule_63 rfl (j := 2) rfl ?_
  refine z_iload_n X dX9_rule_64 rfl (j := 3) rfl ?_
  refine z_iload X dX9_rule_65 (j := 4) rfl ?_
  refine z_retv X (as := [.ref h2, .int (nI P), .int x, .int y, .int z]) (wc := [(h2, .inr (7, [.int 0, .null, .int 0, .int 0]))]) (wr := [(a, .inr (9, [.ref ra, .int (nI rc), .ref fa, .int (nI fc), .ref ua, .int (nI uc), g6, g7, g8])), (ua, .inl (cy 4, 8, .inr (.inr (.inr (.inr F))))), (h1, .inr (6, [.null, .null, .int 0]))]) (rest := [.ref h2, .ref h1, .ref h1, .int (nI uc), .ref ua]) (fun H9 locs9 ls9 hP9 hS9 hl9 hb9 hp9 => va_runI (As := [.int (nI P), .int x, .int y, .int z]) (rest := [.ref h2, .ref h1, .ref h1, .int (nI uc), .ref ua]) X.fix (m_Terms l D cy O (h0 := h2) hP3 ht H9.size) (cwI 4 X.hts (gB cd_X7_init) rfl rfl rfl (X.hts _ ni_X7) (X.hts _ ml_X9_124) (X.hts _ im_X7_init) rfl (by decide +kernel) ⟨Nat.le_of_ble_eq_true rfl, Nat.le_of_ble_eq_true rfl⟩) ⟨hb9, hp9⟩ rfl rfl hl9.1 rfl (lv_room (Nat.le_of_ble_eq_true rfl)) dX9_rule_67 ⟨Nat.le_of_ble_eq_true rfl, Nat.le_of_ble_eq_true rfl⟩) [3] [0, 1, 2] rfl rfl rfl rfl rfl (by decide) (fun _ h => Or.inl h) (fun w5 h6 => ?_)
  obtain ⟨r4, rfl⟩ := h6
  refine z_eq (ws' := [(a, .inr (9, [.ref ra, .int (nI rc), .ref fa, .int (nI fc), .ref ua, .int (nI uc), g6, g7, g8])), (ua, .inl (cy 4, 8, .inr (.inr (.inr (.inr F))))), (h1, .inr (6, [.null, .null, .int 0])), (h2, .inr (7, [.int (nI P), .ref r4, .int (nI (vsf t P)), .int (nI (vlf t P))])), (r4, .inl (cy 0, 3, .inl (a3 x y z)))]) (lv' := [(0, .ref a), (1, .int (nI P)), (2, .int x), (3, .int y), (4, .int z)]) (st' := [.ref h2, .ref h1, .ref h1, .int (nI uc), .ref ua]) rfl rfl rfl ?_
  refine z_widen (k' := 3) (n' := 10) (Nat.le_of_ble_eq_true rfl) (Nat.le_of_ble_eq_true rfl) ?_
  refine z_retv X (as := [.ref h1, .ref h2]) (wc := [(h1, .inr (6, [.null, .null, .int 0]))]) (wr := [(a, .inr (9, [.ref ra, .int (nI rc), .ref fa, .int (nI fc), .ref ua, .int (nI uc), g6, g7, g8])), (ua, .inl (cy 4, 8, .inr (.inr (.inr (.inr F))))), (h2, .inr (7, [.int (nI P), .ref r4, .int (nI (vsf t P)), .int (nI (vlf t P))])), (r4, .inl (cy 0, 3, .inl (a3 x y z)))]) (rest := [.ref h1, .int (nI uc), .ref ua]) (fun H9 locs9 ls9 hP9 hS9 hl9 hb9 hp9 => va_runI (As := [.ref h2]) (rest := [.ref h1, .int (nI uc), .ref ua]) X.fix (m_Rule l D cy O (h0 := h1) (hd := h2) H9.size) (cwI 1 X.hts (gB cd_X6_init) rfl rfl rfl (X.hts _ ni_X6) (X.hts _ ml_X9_224) (X.hts _ im_X6_init) rfl (by decide +kernel) ⟨Nat.le_of_ble_eq_true rfl, Nat.le_of_ble_eq_true rfl⟩) ⟨hb9, hp9⟩ rfl rfl hl9.1 rfl (lv_room (Nat.le_of_ble_eq_true rfl)) dX9_rule_70 ⟨Nat.le_of_ble_eq_true rfl, Nat.le_of_ble_eq_true rfl⟩) [2] [0, 1, 3, 4] rfl rfl rfl rfl rfl (by decide) (fun _ h => Or.inl h) (fun w8 h9 => ?_)
  obtain ⟨r5, rfl⟩ := h9
  refine z_eq (ws' := [(a, .inr (9, [.ref ra, .int (nI rc), .ref fa, .int (nI fc), .ref ua, .int (nI uc), g6, g7, g8])), (ua, .inl (cy 4, 8, .inr (.inr (.inr (.inr F))))), (h2, .inr (7, [.int (nI P), .ref r4, .int (nI (vsf t P)), .int (nI (vlf t P))])), (r4, .inl (cy 0, 3, .inl (a3 x y z))), (h1, .inr (6, [.ref h2, .ref r5, .int 0])), (r5, .inl (cy 5, 5, .inr (.inr (.inr (.inr (fun _ => none))))))]) (lv' := [(0, .ref a), (1, .int (nI P)), (2, .int x), (3, .int y), (4, .int z)]) (st' := [.ref h1, .int (nI uc), .ref ua]) rfl rfl rfl ?_
  refine z_widen (k' := 4) (n' := 15) (Nat.le_of_ble_eq_true rfl) (Nat.le_of_ble_eq_true rfl) ?_
  refine z_aastW X 1 4 6 (t := 4) rfl rfl rfl rfl (vp_in_nI (by omega) (by decide)) (ws' := [(a, .inr (9, [.ref ra, .int (nI rc), .ref fa, .int (nI fc), .ref ua, .int (nI uc), g6, g7, g8])), (ua, .inl (cy 4, 8, .inr (.inr (.inr (.inr (va_up F uc (some h1))))))), (h2, .inr (7, [.int (nI P), .ref r4, .int (nI (vsf t P)), .int (nI (vlf t P))])), (r4, .inl (cy 0, 3, .inl (a3 x y z))), (h1, .inr (6, [.ref h2, .ref r5, .int 0])), (r5, .inl (cy 5, 5, .inr (.inr (.inr (.inr (fun _ => none))))))]) (by rw [nI_clamp (by omega)]; rfl) dX9_rule_73 ?_
  refine z_aload_n X dX9_rule_74 rfl (j := 0) rfl ?_
  refine z_dup X dX9_rule_75 rfl ?_
  refine z_getW X 0 (C := RX9) (T := TX9) (N := 9) inX9 rfl rfl 5 (by decide) fl_X9_34 (fun _ h9 => h9) rfl dX9_rule_76 ?_
  refine z_iconst X (v := 1) dX9_rule_79 (by decide) ?_
  refine z_iadd X (v := (nI (uc + 1))) dX9_rule_80 (nI_1 uc) ?_
  refine z_putW X 0 (C := RX9) (T := TX9) (N := 9) inX9 tyX9 tyX9_ok nmX9 rfl rfl 5 (by decide) fl_X9_34 (fun _ h9 => h9) rfl (ty := .int) (by decide +kernel) rfl rfl (Nat.le_of_ble_eq_true rfl) (ws' := [(a, .inr (9, [.ref ra, .int (nI rc), .ref fa, .int (nI fc), .ref ua, .int (nI (uc + 1)), g6, g7, g8])), (ua, .inl (cy 4, 8, .inr (.inr (.inr (.inr (va_up F uc (some h1))))))), (h2, .inr (7, [.int (nI P), .ref r4, .int (nI (vsf t P)), .int (nI (vlf t P))])), (r4, .inl (cy 0, 3, .inl (a3 x y z))), (h1, .inr (6, [.ref h2, .ref r5, .int 0])), (r5, .inl (cy 5, 5, .inr (.inr (.inr (.inr (fun _ => none))))))]) rfl dX9_rule_81 ?_
  refine z_aload_n X dX9_rule_84 rfl (j := 0) rfl ?_
  refine z_getW X 0 (C := RX9) (T := TX9) (N := 9) inX9 rfl rfl 5 (by decide) fl_X9_34 (fun _ h9 => h9) rfl dX9_rule_85 ?_
  refine z_iconst X (v := 1) dX9_rule_88 (by decide) ?_
  refine z_isub X (v := (nI uc)) dX9_rule_89 (by rw [← nI_1 uc]; exact Int32.add_sub_cancel _ _) ?_
  exact z_endi X hr [(h2, .inr (7, [.int (nI P), .ref r4, .int (nI (vsf t P)), .int (nI (vlf t P))])), (r4, .inl (cy 0, 3, .inl (a3 x y z))), (a, .inr (9, [.ref ra, .int (nI rc), .ref fa, .int (nI fc), .ref ua, .int (nI (uc + 1)), g6, g7, g8])), (ua, .inl (cy 4, 8, .inr (.inr (.inr (.inr (va_up F uc (some h1))))))), (h1, .inr (6, [.ref h2, .ref r5, .int 0])), (r5, .inl (cy 5, 5, .inr (.inr (.inr (.inr (fun _ => none))))))] [2, 3, 0, 1, 4, 5] rfl rfl rfl ⟨rfl, h1, h2, r4, r5, rfl⟩ dX9_rule_90
set_option maxHeartbeats 4000000 in
set_option maxRecDepth 100000 in
/-- add(rule, relation, t, u, v) -/
theorem m_add (l : Launch) (D : va_G) (cy : Nat → ClassId) (O : Nat × va_E → Prop) {a ra fa ua rc fc uc : Nat} {g6 g7 g8 : Value} (hO : O (a, .inr (9, [.ref ra, .int (nI rc), .ref fa, .int (nI fc), .ref ua, .int (nI uc), g6, g7, g8]))) {F G B : Nat → Option Nat} {i b ar ah ak P M V i5 u5 aa m9 : Nat} {hd : Value} {x y z : Int32} {t : Nat → Nat} (hF : O (ua, .inl (cy 4, 8, .inr (.inr (.inr (.inr F)))))) (hi5 : i5 < uc) (huc : uc ≤ 8) (hb5 : F i5 = some u5) (hG : O (ra, .inl (cy 2, 6, .inr (.inr (.inr (.inr G)))))) (hi : i < rc) (hrc : rc ≤ 6) (hb : G i = some b) (hR : O (b, .inr (4, [.int (nI P), .ref ar, .int (nI M), .int (nI V), .ref ah, .ref ak]))) (hP3 : P ≤ 3) (ht : ∀ j, j < P → a3 x y z j = nI (t j) ∧ isT (t j)) (hm9 : m9 < 5) : Ci l yX9_add (.code yX9_add cX9_add 8 (some .int) :: WALL) ({ frames := 3, cells := 3, slots := 9, locals := 63 }) D cy O [.ref a, .int (nI i5), .int (nI i), .int x, .int y, .int z] [(u5, .inr (6, [hd, .ref aa, .int (nI m9)])), (aa, .inl (cy 5, 5, .inr (.inr (.inr (.inr B)))))] 3 9 (fun (r : Int32) (w : va_W) => r = nI (m9 + 1) ∧ ∃ h1 h2 r4 : Nat, w = [(h2, .inr (7, [.int (nI P), .ref r4, .int (nI (vsf t P)), .int (nI (vlf t P))])), (r4, .inl (cy 0, 3, .inl (a3 x y z))), (h1, .inr (0, [.ref b, .ref h2])), (u5, .inr (6, [hd, .ref aa, .int (nI (m9 + 1))])), (aa, .inl (cy 5, 5, .inr (.inr (.inr (.inr (va_up B m9 (some h1)))))))]) := by
  refine z_meti (by decide) rfl rfl (Nat.le_of_ble_eq_true rfl) ?_
  intro p e s m args below meth c X hr hin
  refine z_eq (ws' := [(u5, .inr (6, [hd, .ref aa, .int (nI m9)])), (aa, .inl (cy 5, 5, .inr (.inr (.inr (.inr B)))))]) (lv' := [(0, .ref a), (1, .int (nI i5)), (2, .int (nI i)), (3, .int x), (4, .int y), (5, .int z)]) (st' := []) rfl rfl rfl ?_
  refine z_aload_n X dX9_add_0 rfl (j := 0) rfl ?_
  refine z_iload_n X dX9_add_1 rfl (j := 1) rfl ?_
  refine z_retr X (as := [.ref a, .int (nI i5)]) (wc := []) (wr := [(u5, .inr (6, [hd, .ref aa, .int (nI m9)])), (aa, .inl (cy 5, 5, .inr (.inr (.inr (.inr B)))))]) (rest := []) (fun H9 locs9 ls9 hP9 hS9 hl9 hb9 hp9 => va_runV (As := [.int (nI i5)]) (rest := []) X.fix (m_ruleAt l D cy O hO hF hi5 huc hb5 H9.size) (cwV 1 X.hts (gV ml_X9_227 im_X9_ruleAt se_X9_ruleAt ni_X9 cd_X9_ruleAt) rfl rfl rfl (by decide +kernel) ⟨Nat.le_of_ble_eq_true rfl, Nat.le_of_ble_eq_true rfl⟩) ⟨hb9, z_recvO X (ci := 9) (r := (RX9, TX9, 9)) hO rfl hS9, hp9⟩ rfl rfl hl9.1 rfl (lv_room (Nat.le_of_ble_eq_true rfl)) dX9_add_2 ⟨Nat.le_of_ble_eq_true rfl, Nat.le_of_ble_eq_true rfl⟩) [] [0, 1] rfl rfl rfl rfl rfl (by decide) (fun _ h => Or.inl h) (fun r1 w2 h3 => ?_)
  obtain ⟨e9, rfl⟩ := h3
  subst r1
  refine z_eq (ws' := [(u5, .inr (6, [hd, .ref aa, .int (nI m9)])), (aa, .inl (cy 5, 5, .inr (.inr (.inr (.inr B)))))]) (lv' := [(0, .ref a), (1, .int (nI i5)), (2, .int (nI i)), (3, .int x), (4, .int y), (5, .int z)]) (st' := [.ref u5]) rfl rfl rfl ?_
  refine z_widen (k' := 0) (n' := 0) (Nat.le_refl _) (Nat.le_refl _) ?_
  refine z_astore X (lv' := [(6, .ref u5), (0, .ref a), (1, .int (nI i5)), (2, .int (nI i)), (3, .int x), (4, .int y), (5, .int z)]) dX9_add_5 (by decide) rfl ?_
  refine z_aload_n X dX9_add_7 rfl (j := 1) rfl ?_
  refine z_iload_n X dX9_add_8 rfl (j := 3) rfl ?_
  refine z_retr X (as := [.ref a, .int (nI i)]) (wc := []) (wr := [(u5, .inr (6, [hd, .ref aa, .int (nI m9)])), (aa, .inl (cy 5, 5, .inr (.inr (.inr (.inr B)))))]) (rest := []) (fun H9 locs9 ls9 hP9 hS9 hl9 hb9 hp9 => va_runV (As := [.int (nI i)]) (rest := []) X.fix (m_relationAt l D cy O hO hG hi hrc hb H9.size) (cwV 1 X.hts (gV ml_X9_73 im_X9_relationAt se_X9_relationAt ni_X9 cd_X9_relationAt) rfl rfl rfl (by decide +kernel) ⟨Nat.le_of_ble_eq_true rfl, Nat.le_of_ble_eq_true rfl⟩) ⟨hb9, z_recvO X (ci := 9) (r := (RX9, TX9, 9)) hO rfl hS9, hp9⟩ rfl rfl hl9.1 rfl (lv_room (Nat.le_of_ble_eq_true rfl)) dX9_add_9 ⟨Nat.le_of_ble_eq_true rfl, Nat.le_of_ble_eq_true rfl⟩) [] [0, 1] rfl rfl rfl rfl rfl (by decide) (fun _ h => Or.inl h) (fun r4 w5 h6 => ?_)
  obtain ⟨e8, rfl⟩ := h6
  subst r4
  refine z_eq (ws' := [(u5, .inr (6, [hd, .ref aa, .int (nI m9)])), (aa, .inl (cy 5, 5, .inr (.inr (.inr (.inr B)))))]) (lv' := [(6, .ref u5), (0, .ref a), (1, .int (nI i5)), (2, .int (nI i)), (3, .int x), (4, .int y), (5, .int z)]) (st' := [.ref b]) rfl rfl rfl ?_
  refine z_widen (k' := 0) (n' := 0) (Nat.le_refl _) (Nat.le_refl _) ?_
  refine z_astore X (lv' := [(7, .ref b), (6, .ref u5), (0, .ref a), (1, .int (nI i5)), (2, .int (nI i)), (3, .int x), (4, .int y), (5, .int z)]) dX9_add_12 (by decide) rfl ?_
  refine z_aload X dX9_add_14 (j := 0) rfl ?_
  refine z_getO X (ci := 4) (C := RX4) (T := TX4) (N := 6) inX4 hR rfl 0 (by decide) fl_X9_77 (fun _ h9 => h9) rfl dX9_add_16 ?_
  refine z_iload_n X dX9_add_19 rfl (j := 5) rfl ?_
  refine z_iload X dX9_add_20 (j := 6) rfl ?_
  refine z_iload X dX9_add_22 (j := 7) rfl ?_
  refine z_retv X (as := [.int (nI P), .int x, .int y, .int z]) (wc := []) (wr := [(u5, .inr (6, [hd, .ref aa, .int (nI m9)])), (aa, .inl (cy 5, 5, .inr (.inr (.inr (.inr B)))))]) (rest := []) (fun H9 locs9 ls9 hP9 hS9 hl9 hb9 hp9 => va_runS (As := [.int (nI P), .int x, .int y, .int z]) (rest := []) X.fix (m_needTerms l D cy O hP3 ht H9.size) (va_cwS 4 X.hts (gS ml_X9_114 sm_X9_needTerms ni_X9 cd_X9_needTerms) rfl rfl rfl (by decide +kernel) ⟨Nat.le_of_ble_eq_true rfl, Nat.le_of_ble_eq_true rfl⟩) ⟨hb9, hp9⟩ rfl rfl hl9.1 rfl (lv_room (Nat.le_of_ble_eq_true rfl)) dX9_add_24 ⟨Nat.le_of_ble_eq_true rfl, Nat.le_of_ble_eq_true rfl⟩) [] [0, 1] rfl rfl rfl rfl rfl (by decide) (fun _ h => Or.inl h) (fun w8 h9 => ?_)
  subst h9
  refine z_eq (ws' := [(u5, .inr (6, [hd, .ref aa, .int (nI m9)])), (aa, .inl (cy 5, 5, .inr (.inr (.inr (.inr B)))))]) (lv' := [(7, .ref b), (6, .ref u5), (0, .ref a), (1, .int (nI i5)), (2, .int (nI i)), (3, .int x), (4, .int y), (5, .int z)]) (st' := []) rfl rfl rfl ?_
  refine z_widen (k' := 0) (n' := 0) (Nat.le_refl _) (Nat.le_refl _) ?_
  refine z_aload X dX9_add_27 (j := 1) rfl ?_
  refine z_getW X 0 (C := RX6) (T := TX6) (N := 3) inX6 rfl rfl 2 (by decide) fl_X9_231 (fun _ h9 => h9) rfl dX9_add_29 ?_
  refine z_iconst X (v := 5) dX9_add_32 (by decide) ?_
  refine z_icmp_lt X (tgt := 46) dX9_add_33 (by decide) (fun c_33 => ?_) (fun c9 => absurd (nI_lt (a := m9) (b := 5) hm9 (by decide)) c9)
  refine z_aload X dX9_add_46 (j := 1) rfl ?_
  refine z_getW X 0 (C := RX6) (T := TX6) (N := 3) inX6 rfl rfl 1 (by decide) fl_X9_234 (fun _ h9 => h9) rfl dX9_add_48 ?_
  refine z_aload X dX9_add_51 (j := 1) rfl ?_
  refine z_getW X 0 (C := RX6) (T := TX6) (N := 3) inX6 rfl rfl 2 (by decide) fl_X9_231 (fun _ h9 => h9) rfl dX9_add_53 ?_
  refine z_new X (ci := 0) (fs := [.null, .null]) (C := RX0) (T := TX0) (N := 2) inX0 tyX0 tyX0_ok cl_X9_120 it_X0 ni_X0 rfl (fun j hj => by rcases (show j = 0 ∨ j = 1 by omega) with rfl | rfl <;> rfl) (Nat.le_of_ble_eq_true rfl) (Nat.le_of_ble_eq_true rfl) dX9_add_56 (fun h1 => ?_)
  refine z_eq (ws' := [(u5, .inr (6, [hd, .ref aa, .int (nI m9)])), (aa, .inl (cy 5, 5, .inr (.inr (.inr (.inr B))))), (h1, .inr (0, [.null, .null]))]) (lv' := [(7, .ref b), (6, .ref u5), (0, .ref a), (1, .int (nI i5)), (2, .int (nI i)), (3, .int x), (4, .int y), (5, .int z)]) (st' := [.ref h1, .int (nI m9), .ref aa]) rfl rfl rfl ?_
  refine z_widen (k' := 1) (n' := 2) (Nat.le_of_ble_eq_true rfl) (Nat.le_of_ble_eq_true rfl) ?_
  refine z_dup X dX9_add_59 rfl ?_
  refine z_aload X dX9_add_60 (j := 0) rfl ?_
  refine z_new X (ci := 7) (fs := [.int 0, .null, .int 0, .int 0]) (C := RX7) (T := TX7) (N := 4) inX7 tyX7 tyX7_ok cl_X9_122 it_X7 ni_X7 rfl (fun j hj => by rcases (show j = 0 ∨ j = 1 ∨ j = 2 ∨ j = 3 by omega) with rfl | rfl | rfl | rfl <;> rfl) (Nat.le_of_ble_eq_true rfl) (Nat.le_of_ble_eq_true rfl) dX9_add_62 (fun h2 => ?_)
  refine z_eq (ws' := [(u5, .inr (6, [hd, .ref aa, .int (nI m9)])), (aa, .inl (cy 5, 5, .inr (.inr (.inr (.inr B))))), (h1, .inr (0, [.null, .null])), (h2, .inr (7, [.int 0, .null, .int 0, .int 0]))]) (lv' := [(7, .ref b), (6, .ref u5), (0, .ref a), (1, .int (nI i5)), (2, .int (nI i)), (3, .int x), (4, .int y), (5, .int z)]) (st' := [.ref h2, .ref b, .ref h1, .ref h1, .int (nI m9), .ref aa]) rfl rfl rfl ?_
  refine z_widen (k' := 2) (n' := 6) (Nat.le_of_ble_eq_true rfl) (Nat.le_of_ble_eq_true rfl) ?_
  refine z_dup X dX9_add_65 rfl ?_
  refine z_aload X dX9_add_66 (j := 0) rfl ?_
  refine z_getO X (ci := 4) (C := RX4) (T := TX4) (N := 6) inX4 hR rfl 0 (by decide) fl_X9_77 (fun _ h9 => h9) rfl dX9_add_68 ?_
  refine z_iload_n X dX9_add_71 rfl (j := 5) rfl ?_
  refine z_iload X dX9_add_72 (j := 6) rfl ?_
  refine z_iload X dX9_add_74 (j := 7) rfl ?_
  refine z_retv X (as := [.ref h2, .int (nI P), .int x, .int y, .int z]) (wc := [(h2, .inr (7, [.int 0, .null, .int 0, .int 0]))]) (wr := [(u5, .inr (6, [hd, .ref aa, .int (nI m9)])), (aa, .inl (cy 5, 5, .inr (.inr (.inr (.inr B))))), (h1, .inr (0, [.null, .null]))]) (rest := [.ref h2, .ref b, .ref h1, .ref h1, .int (nI m9), .ref aa]) (fun H9 locs9 ls9 hP9 hS9 hl9 hb9 hp9 => va_runI (As := [.int (nI P), .int x, .int y, .int z]) (rest := [.ref h2, .ref b, .ref h1, .ref h1, .int (nI m9), .ref aa]) X.fix (m_Terms l D cy O (h0 := h2) hP3 ht H9.size) (cwI 4 X.hts (gB cd_X7_init) rfl rfl rfl (X.hts _ ni_X7) (X.hts _ ml_X9_124) (X.hts _ im_X7_init) rfl (by decide +kernel) ⟨Nat.le_of_ble_eq_true rfl, Nat.le_of_ble_eq_true rfl⟩) ⟨hb9, hp9⟩ rfl rfl hl9.1 rfl (lv_room (Nat.le_of_ble_eq_true rfl)) dX9_add_76 ⟨Nat.le_of_ble_eq_true rfl, Nat.le_of_ble_eq_true rfl⟩) [3] [0, 1, 2] rfl rfl rfl rfl rfl (by decide) (fun _ h => Or.inl h) (fun w11 h12 => ?_)
  obtain ⟨r4, rfl⟩ := h12
  refine z_eq (ws' := [(u5, .inr (6, [hd, .ref aa, .int (nI m9)])), (aa, .inl (cy 5, 5, .inr (.inr (.inr (.inr B))))), (h1, .inr (0, [.null, .null])), (h2, .inr (7, [.int (nI P), .ref r4, .int (nI (vsf t P)), .int (nI (vlf t P))])), (r4, .inl (cy 0, 3, .inl (a3 x y z)))]) (lv' := [(7, .ref b), (6, .ref u5), (0, .ref a), (1, .int (nI i5)), (2, .int (nI i)), (3, .int x), (4, .int y), (5, .int z)]) (st' := [.ref h2, .ref b, .ref h1, .ref h1, .int (nI m9), .ref aa]) rfl rfl rfl ?_
  refine z_widen (k' := 3) (n' := 9) (Nat.le_of_ble_eq_true rfl) (Nat.le_of_ble_eq_true rfl) ?_
  refine z_retv X (as := [.ref h1, .ref b, .ref h2]) (wc := [(h1, .inr (0, [.null, .null]))]) (wr := [(u5, .inr (6, [hd, .ref aa, .int (nI m9)])), (aa, .inl (cy 5, 5, .inr (.inr (.inr (.inr B))))), (h2, .inr (7, [.int (nI P), .ref r4, .int (nI (vsf t P)), .int (nI (vlf t P))])), (r4, .inl (cy 0, 3, .inl (a3 x y z)))]) (rest := [.ref h1, .int (nI m9), .ref aa]) (fun H9 locs9 ls9 hP9 hS9 hl9 hb9 hp9 => va_runI (As := [.ref b, .ref h2]) (rest := [.ref h1, .int (nI m9), .ref aa]) X.fix (m_Atom l D cy O (h0 := h1) (r := b) (t := h2) H9.size) (cwI 2 X.hts (gB cd_X0_init) rfl rfl rfl (X.hts _ ni_X0) (X.hts _ ml_X9_126) (X.hts _ im_X0_init) rfl (by decide +kernel) ⟨Nat.le_of_ble_eq_true rfl, Nat.le_of_ble_eq_true rfl⟩) ⟨hb9, hp9⟩ rfl rfl hl9.1 rfl (lv_room (Nat.le_of_ble_eq_true rfl)) dX9_add_79 ⟨Nat.le_of_ble_eq_true rfl, Nat.le_of_ble_eq_true rfl⟩) [2] [0, 1, 3, 4] rfl rfl rfl rfl rfl (by decide) (fun _ h => Or.inl h) (fun w14 h15 => ?_)
  subst h15
  refine z_eq (ws' := [(u5, .inr (6, [hd, .ref aa, .int (nI m9)])), (aa, .inl (cy 5, 5, .inr (.inr (.inr (.inr B))))), (h2, .inr (7, [.int (nI P), .ref r4, .int (nI (vsf t P)), .int (nI (vlf t P))])), (r4, .inl (cy 0, 3, .inl (a3 x y z))), (h1, .inr (0, [.ref b, .ref h2]))]) (lv' := [(7, .ref b), (6, .ref u5), (0, .ref a), (1, .int (nI i5)), (2, .int (nI i)), (3, .int x), (4, .int y), (5, .int z)]) (st' := [.ref h1, .int (nI m9), .ref aa]) rfl rfl rfl ?_
  refine z_widen (k' := 3) (n' := 9) (Nat.le_refl _) (Nat.le_refl _) ?_
  refine z_aastW X 1 4 0 (t := 5) rfl rfl rfl rfl (vp_in_nI (by omega) (by decide)) (ws' := [(u5, .inr (6, [hd, .ref aa, .int (nI m9)])), (aa, .inl (cy 5, 5, .inr (.inr (.inr (.inr (va_up B m9 (some h1))))))), (h2, .inr (7, [.int (nI P), .ref r4, .int (nI (vsf t P)), .int (nI (vlf t P))])), (r4, .inl (cy 0, 3, .inl (a3 x y z))), (h1, .inr (0, [.ref b, .ref h2]))]) (by rw [nI_clamp (by omega)]; rfl) dX9_add_82 ?_
  refine z_aload X dX9_add_83 (j := 1) rfl ?_
  refine z_dup X dX9_add_85 rfl ?_
  refine z_getW X 0 (C := RX6) (T := TX6) (N := 3) inX6 rfl rfl 2 (by decide) fl_X9_231 (fun _ h9 => h9) rfl dX9_add_86 ?_
  refine z_iconst X (v := 1) dX9_add_89 (by decide) ?_
  refine z_iadd X (v := (nI (m9 + 1))) dX9_add_90 (nI_1 m9) ?_
  refine z_putW X 0 (C := RX6) (T := TX6) (N := 3) inX6 tyX6 tyX6_ok nmX6 rfl rfl 2 (by decide) fl_X9_231 (fun _ h9 => h9) rfl (ty := .int) (by decide +kernel) rfl rfl (Nat.le_of_ble_eq_true rfl) (ws' := [(u5, .inr (6, [hd, .ref aa, .int (nI (m9 + 1))])), (aa, .inl (cy 5, 5, .inr (.inr (.inr (.inr (va_up B m9 (some h1))))))), (h2, .inr (7, [.int (nI P), .ref r4, .int (nI (vsf t P)), .int (nI (vlf t P))])), (r4, .inl (cy 0, 3, .inl (a3 x y z))), (h1, .inr (0, [.ref b, .ref h2]))]) rfl dX9_add_91 ?_
  refine z_aload X dX9_add_94 (j := 1) rfl ?_
  refine z_getW X 0 (C := RX6) (T := TX6) (N := 3) inX6 rfl rfl 2 (by decide) fl_X9_231 (fun _ h9 => h9) rfl dX9_add_96 ?_
  exact z_endi X hr [(h2, .inr (7, [.int (nI P), .ref r4, .int (nI (vsf t P)), .int (nI (vlf t P))])), (r4, .inl (cy 0, 3, .inl (a3 x y z))), (h1, .inr (0, [.ref b, .ref h2])), (u5, .inr (6, [hd, .ref aa, .int (nI (m9 + 1))])), (aa, .inl (cy 5, 5, .inr (.inr (.inr (.inr (va_up B m9 (some h1)))))))] [2, 3, 4, 0, 1] rfl rfl rfl ⟨rfl, h1, h2, r4, rfl⟩ dX9_add_99
set_option maxHeartbeats 4000000 in
set_option maxRecDepth 100000 in
/-- facts(relation) -/
theorem m_facts (l : Launch) (D : va_G) (cy : Nat → ClassId) (O : Nat × va_E → Prop) {a ra fa ua rc fc uc : Nat} {g6 g7 g8 : Value} (hO : O (a, .inr (9, [.ref ra, .int (nI rc), .ref fa, .int (nI fc), .ref ua, .int (nI uc), g6, g7, g8]))) {G : Nat → Option Nat} {i b ar ah ak P M V : Nat} (hG : O (ra, .inl (cy 2, 6, .inr (.inr (.inr (.inr G)))))) (hi : i < rc) (hrc : rc ≤ 6) (hb : G i = some b) (hR : O (b, .inr (4, [.int (nI P), .ref ar, .int (nI M), .int (nI V), .ref ah, .ref ak]))) : Ci l yX9_facts (.code yX9_facts cX9_facts 2 (some .int) :: WALL) ({ frames := 1, cells := 0, slots := 0, locals := 21 }) D cy O [.ref a, .int (nI i)] [] 0 0 (fun (r : Int32) (w : va_W) => r = nI M ∧ w = []) := by
  refine z_meti (by decide) rfl rfl (Nat.le_of_ble_eq_true rfl) ?_
  intro p e s m args below meth c X hr hin
  refine z_eq (ws' := []) (lv' := [(0, .ref a), (1, .int (nI i))]) (st' := []) rfl rfl rfl ?_
  refine z_aload_n X dX9_facts_0 rfl (j := 0) rfl ?_
  refine z_iload_n X dX9_facts_1 rfl (j := 1) rfl ?_
  refine z_retr X (as := [.ref a, .int (nI i)]) (wc := []) (wr := []) (rest := []) (fun H9 locs9 ls9 hP9 hS9 hl9 hb9 hp9 => va_runV (As := [.int (nI i)]) (rest := []) X.fix (m_relationAt l D cy O hO hG hi hrc hb H9.size) (cwV 1 X.hts (gV ml_X9_73 im_X9_relationAt se_X9_relationAt ni_X9 cd_X9_relationAt) rfl rfl rfl (by decide +kernel) ⟨Nat.le_of_ble_eq_true rfl, Nat.le_of_ble_eq_true rfl⟩) ⟨hb9, z_recvO X (ci := 9) (r := (RX9, TX9, 9)) hO rfl hS9, hp9⟩ rfl rfl hl9.1 rfl (lv_room (Nat.le_of_ble_eq_true rfl)) dX9_facts_2 ⟨Nat.le_of_ble_eq_true rfl, Nat.le_of_ble_eq_true rfl⟩) [] [] rfl rfl rfl rfl rfl (by decide) (fun _ h => Or.inl h) (fun r1 w2 h3 => ?_)
  obtain ⟨e8, rfl⟩ := h3
  subst r1
  refine z_eq (ws' := []) (lv' := [(0, .ref a), (1, .int (nI i))]) (st' := [.ref b]) rfl rfl rfl ?_
  refine z_widen (k' := 0) (n' := 0) (Nat.le_refl _) (Nat.le_refl _) ?_
  refine z_getO X (ci := 4) (C := RX4) (T := TX4) (N := 6) inX4 hR rfl 2 (by decide) fl_X9_92 (fun _ h9 => h9) rfl dX9_facts_5 ?_
  exact z_endi X hr [] [] rfl rfl rfl ⟨rfl, rfl⟩ dX9_facts_8
/-- the DOMAIN: the values named, and those of the relations -/
def dmo (x : Nat) (V : Nat → Nat) : Nat → Nat
  | 0 => x
  | j + 1 => dmo x V j ||| V j
set_option maxHeartbeats 4000000 in
set_option maxRecDepth 100000 in
/-- domainOf(formula) -/
theorem m_domainOf (l : Launch) (D : va_G) (cy : Nat → ClassId) (O : Nat × va_E → Prop) {a ra fa ua rc fc uc : Nat} {g6 g7 g8 : Value} (hO : O (a, .inr (9, [.ref ra, .int (nI rc), .ref fa, .int (nI fc), .ref ua, .int (nI uc), g6, g7, g8]))) {G : Nat → Option Nat} {rb rV : Nat → Nat} (hG : O (ra, .inl (cy 2, 6, .inr (.inr (.inr (.inr G)))))) (hrc : rc ≤ 6) (hGb : ∀ j, j < rc → G j = some (rb j)) (hRb : ∀ j, j < rc → ∃ v1 v2 v3 v5 v6 : Value, O (rb j, .inr (4, [v1, v2, v3, .int (nI (rV j)), v5, v6]))) {a5 x5 : Nat} {q1 q2 q3 q4 q5 q6 q7 q8 q9 q10 q11 q12 : Value} (h5 : O (a5, .inr (1, [q1, q2, q3, q4, q5, q6, q7, q8, q9, q10, q11, .int (nI x5), q12]))) : Ci l yX9_domainOf (.code yX9_domainOf cX9_domainOf 4 (some .int) :: WALL) ({ frames := 0, cells := 0, slots := 0, locals := 0 }) D cy O [.ref a, .ref a5] [] 0 0 (fun (r : Int32) (w : va_W) => r = nI (dmo x5 rV rc) ∧ w = []) := by
  refine z_meti (by decide) rfl rfl (Nat.le_of_ble_eq_true rfl) ?_
  intro p e s m args below meth c X hr hin
  refine z_eq (ws' := []) (lv' := [(0, .ref a), (1, .ref a5)]) (st' := []) rfl rfl rfl ?_
  have L : ∀ (d : Nat) (j : Nat), j + d = rc → Zz D (va_A [] s.heap.size) 4 p l e ({ frames := 0, cells := 0, slots := 0, locals := 0 }) s m args below meth c (MQ below (va_Qi (fun (r : Int32) (w : va_W) => r = nI (dmo x5 rV rc) ∧ w = []) (end_ D [] s.heap.size) (va_A [] s.heap.size)) args s 0 0 (va_A [] s.heap.size)) [] [(3, .int (nI j)), (2, .int (nI (dmo x5 rV j))), (0, .ref a), (1, .ref a5)] 0 0 7 [] := by
    intro d
    induction d with
    | zero =>
      intro j hL0
      refine z_iload_n X dX9_domainOf_7 rfl (j := 0) rfl ?_
      refine z_aload_n X dX9_domainOf_8 rfl (j := 2) rfl ?_
      refine z_getO X (ci := 9) (C := RX9) (T := TX9) (N := 9) inX9 hO rfl 1 (by decide) fl_X9_15 (fun _ h9 => h9) rfl dX9_domainOf_9 ?_
      refine z_icmp_ge X (tgt := 33) dX9_domainOf_12 (by decide) (fun c_12 => ?_) (fun c9 => absurd (by rw [show j = rc by omega]; exact nI_le (Nat.le_refl _) (by omega)) c9)
      refine z_iload_n X dX9_domainOf_33 rfl (j := 1) rfl ?_
      exact z_endi X hr [] [] rfl rfl rfl ⟨(by rw [show j = rc by omega]), rfl⟩ dX9_domainOf_34
    | succ d ih =>
      intro j hL0
      refine z_iload_n X dX9_domainOf_7 rfl (j := 0) rfl ?_
      refine z_aload_n X dX9_domainOf_8 rfl (j := 2) rfl ?_
      refine z_getO X (ci := 9) (C := RX9) (T := TX9) (N := 9) inX9 hO rfl 1 (by decide) fl_X9_15 (fun _ h9 => h9) rfl dX9_domainOf_9 ?_
      refine z_icmp_ge X (tgt := 33) dX9_domainOf_12 (by decide) (fun c9 => absurd c9 (nI_ge (by omega) (by omega))) (fun c_12 => ?_)
      refine z_iload_n X dX9_domainOf_15 rfl (j := 1) rfl ?_
      refine z_aload_n X dX9_domainOf_16 rfl (j := 2) rfl ?_
      refine z_getO X (ci := 9) (C := RX9) (T := TX9) (N := 9) inX9 hO rfl 0 (by decide) fl_X9_11 (fun _ h9 => h9) rfl dX9_domainOf_17 ?_
      refine z_iload_n X dX9_domainOf_20 rfl (j := 0) rfl ?_
      obtain ⟨v1, v2, v3, v5, v6, hrj⟩ := hRb j (by omega)
      refine z_aaldO X (t := 2) hG rfl (b := (rb j)) (vp_in_nI (by omega) (by decide)) (by rw [nI_clamp (by omega)]; exact hGb j (by omega)) dX9_domainOf_21 ?_
      refine z_getO X (ci := 4) (C := RX4) (T := TX4) (N := 6) inX4 hrj rfl 3 (by decide) fl_X9_379 (fun _ h9 => h9) rfl dX9_domainOf_22 ?_
      refine z_ior X (v := (nI (dmo x5 rV (j + 1)))) dX9_domainOf_25 (nI_or _ _) ?_
      refine z_istore_n X (lv' := [(2, .int (nI (dmo x5 rV (j + 1)))), (3, .int (nI j)), (0, .ref a), (1, .ref a5)]) dX9_domainOf_26 rfl (by decide) rfl ?_
      refine z_iinc X (j := 1) (v := (nI (j + 1))) (lv' := [(3, .int (nI (j + 1))), (2, .int (nI (dmo x5 rV (j + 1)))), (0, .ref a), (1, .ref a5)]) dX9_domainOf_27 rfl (nI_1 j) (by decide) rfl ?_
      refine z_goto X (tgt := 7) dX9_domainOf_30 (by decide) ?_
      refine z_eq (ws' := []) (lv' := [(3, .int (nI (j + 1))), (2, .int (nI (dmo x5 rV (j + 1)))), (0, .ref a), (1, .ref a5)]) (st' := []) rfl rfl rfl ?_
      exact ih (j + 1) (by omega)
  refine z_aload_n X dX9_domainOf_0 rfl (j := 1) rfl ?_
  refine z_getO X (ci := 1) (C := RX1) (T := TX1) (N := 13) inX1 h5 rfl 11 (by decide) fl_X9_376 (fun _ h9 => h9) rfl dX9_domainOf_1 ?_
  refine z_istore_n X (lv' := [(2, .int (nI x5)), (0, .ref a), (1, .ref a5)]) dX9_domainOf_4 rfl (by decide) rfl ?_
  refine z_iconst X (v := 0) dX9_domainOf_5 (by decide) ?_
  refine z_istore_n X (lv' := [(3, .int 0), (2, .int (nI x5)), (0, .ref a), (1, .ref a5)]) dX9_domainOf_6 rfl (by decide) rfl ?_
  refine z_eq (ws' := []) (lv' := [(3, .int (nI 0)), (2, .int (nI (dmo x5 rV 0))), (0, .ref a), (1, .ref a5)]) (st' := []) rfl rfl rfl ?_
  exact L (rc) 0 (by omega)
/-- what ofFormula tells -/
def ofF (k5 : Int32) (f5 d5 u5 w5 dom : Nat) : Nat → Int32
  | 0 => k5
  | 1 => nI f5
  | 2 => nI d5
  | 3 => nI u5
  | 4 => nI w5
  | _ => nI dom
set_option maxHeartbeats 4000000 in
set_option maxRecDepth 100000 in
/-- ofFormula(formula, 0) -/
theorem m_ofFormula_0 (l : Launch) (D : va_G) (cy : Nat → ClassId) (O : Nat × va_E → Prop) {a ra fa ua rc fc uc : Nat} {g6 g7 g8 : Value} (hO : O (a, .inr (9, [.ref ra, .int (nI rc), .ref fa, .int (nI fc), .ref ua, .int (nI uc), g6, g7, g8]))) {G : Nat → Option Nat} {rb rV : Nat → Nat} (hG : O (ra, .inl (cy 2, 6, .inr (.inr (.inr (.inr G)))))) (hrc : rc ≤ 6) (hGb : ∀ j, j < rc → G j = some (rb j)) (hRb : ∀ j, j < rc → ∃ v1 v2 v3 v5 v6 : Value, O (rb j, .inr (4, [v1, v2, v3, .int (nI (rV j)), v5, v6]))) {i5 a5 f5 d5 l5 u5 w5 x5 : Nat} {p51 p52 p53 p54 : Value} {k5 v5 : Int32} {o5 : Option Nat} (h5 : O (a5, .inr (1, [.int k5, p51, p52, p53, p54, .int v5, .int (nI f5), .int (nI d5), .int (nI l5), .int (nI u5), .int (nI w5), .int (nI x5), .int (oI o5)]))) {F : Nat → Option Nat} (hFa : O (fa, .inl (cy 3, 40, .inr (.inr (.inr (.inr F)))))) (hfc : fc ≤ 40) (hi5 : i5 < fc) (hF5 : F i5 = some a5) : Ci l yX9_ofFormula (.code yX9_ofFormula cX9_ofFormula 4 (some .int) :: WALL) ({ frames := 1, cells := 0, slots := 0, locals := 21 }) D cy O [.ref a, .int (nI i5), .int (nI 0)] [] 0 0 (fun (r : Int32) (w : va_W) => r = ofF k5 f5 d5 u5 w5 (dmo x5 rV rc) 0 ∧ w = []) := by
  refine z_meti (by decide) rfl rfl (Nat.le_of_ble_eq_true rfl) ?_
  intro p e s m args below meth c X hr hin
  refine z_eq (ws' := []) (lv' := [(0, .ref a), (1, .int (nI i5)), (2, .int (nI 0))]) (st' := []) rfl rfl rfl ?_
  refine z_aload_n X dX9_ofFormula_0 rfl (j := 0) rfl ?_
  refine z_iload_n X dX9_ofFormula_1 rfl (j := 1) rfl ?_
  refine z_retr X (as := [.ref a, .int (nI i5)]) (wc := []) (wr := []) (rest := []) (fun H9 locs9 ls9 hP9 hS9 hl9 hb9 hp9 => va_runV (As := [.int (nI i5)]) (rest := []) X.fix (m_formulaAt l D cy O hO hFa hi5 hfc hF5 H9.size) (cwV 1 X.hts (gV ml_X9_141 im_X9_formulaAt se_X9_formulaAt ni_X9 cd_X9_formulaAt) rfl rfl rfl (by decide +kernel) ⟨Nat.le_of_ble_eq_true rfl, Nat.le_of_ble_eq_true rfl⟩) ⟨hb9, z_recvO X (ci := 9) (r := (RX9, TX9, 9)) hO rfl hS9, hp9⟩ rfl rfl hl9.1 rfl (lv_room (Nat.le_of_ble_eq_true rfl)) dX9_ofFormula_2 ⟨Nat.le_of_ble_eq_true rfl, Nat.le_of_ble_eq_true rfl⟩) [] [] rfl rfl rfl rfl rfl (by decide) (fun _ h => Or.inl h) (fun r1 w2 h3 => ?_)
  obtain ⟨e9, rfl⟩ := h3
  subst r1
  refine z_eq (ws' := []) (lv' := [(0, .ref a), (1, .int (nI i5)), (2, .int (nI 0))]) (st' := [.ref a5]) rfl rfl rfl ?_
  refine z_widen (k' := 0) (n' := 0) (Nat.le_refl _) (Nat.le_refl _) ?_
  refine z_astore_n X (lv' := [(3, .ref a5), (0, .ref a), (1, .int (nI i5)), (2, .int (nI 0))]) dX9_ofFormula_5 rfl (by decide) rfl ?_
  refine z_iload_n X dX9_ofFormula_6 rfl (j := 3) rfl ?_
  refine z_tableIn X (tgt := 44) (off := 37) dX9_ofFormula_7 (by decide) (by decide) rfl (by decide) ?_
  refine z_aload_n X dX9_ofFormula_44 rfl (j := 0) rfl ?_
  refine z_getO X (ci := 1) (C := RX1) (T := TX1) (N := 13) inX1 h5 rfl 0 (by decide) fl_X9_179 (fun _ h9 => h9) rfl dX9_ofFormula_45 ?_
  exact z_endi X hr [] [] rfl rfl rfl ⟨rfl, rfl⟩ dX9_ofFormula_48
set_option maxHeartbeats 4000000 in
set_option maxRecDepth 100000 in
/-- ofFormula(formula, 1) -/
theorem m_ofFormula_1 (l : Launch) (D : va_G) (cy : Nat → ClassId) (O : Nat × va_E → Prop) {a ra fa ua rc fc uc : Nat} {g6 g7 g8 : Value} (hO : O (a, .inr (9, [.ref ra, .int (nI rc), .ref fa, .int (nI fc), .ref ua, .int (nI uc), g6, g7, g8]))) {G : Nat → Option Nat} {rb rV : Nat → Nat} (hG : O (ra, .inl (cy 2, 6, .inr (.inr (.inr (.inr G)))))) (hrc : rc ≤ 6) (hGb : ∀ j, j < rc → G j = some (rb j)) (hRb : ∀ j, j < rc → ∃ v1 v2 v3 v5 v6 : Value, O (rb j, .inr (4, [v1, v2, v3, .int (nI (rV j)), v5, v6]))) {i5 a5 f5 d5 l5 u5 w5 x5 : Nat} {p51 p52 p53 p54 : Value} {k5 v5 : Int32} {o5 : Option Nat} (h5 : O (a5, .inr (1, [.int k5, p51, p52, p53, p54, .int v5, .int (nI f5), .int (nI d5), .int (nI l5), .int (nI u5), .int (nI w5), .int (nI x5), .int (oI o5)]))) {F : Nat → Option Nat} (hFa : O (fa, .inl (cy 3, 40, .inr (.inr (.inr (.inr F)))))) (hfc : fc ≤ 40) (hi5 : i5 < fc) (hF5 : F i5 = some a5) : Ci l yX9_ofFormula (.code yX9_ofFormula cX9_ofFormula 4 (some .int) :: WALL) ({ frames := 1, cells := 0, slots := 0, locals := 21 }) D cy O [.ref a, .int (nI i5), .int (nI 1)] [] 0 0 (fun (r : Int32) (w : va_W) => r = ofF k5 f5 d5 u5 w5 (dmo x5 rV rc) 1 ∧ w = []) := by
  refine z_meti (by decide) rfl rfl (Nat.le_of_ble_eq_true rfl) ?_
  intro p e s m args below meth c X hr hin
  refine z_eq (ws' := []) (lv' := [(0, .ref a), (1, .int (nI i5)), (2, .int (nI 1))]) (st' := []) rfl rfl rfl ?_
  refine z_aload_n X dX9_ofFormula_0 rfl (j := 0) rfl ?_
  refine z_iload_n X dX9_ofFormula_1 rfl (j := 1) rfl ?_
  refine z_retr X (as := [.ref a, .int (nI i5)]) (wc := []) (wr := []) (rest := []) (fun H9 locs9 ls9 hP9 hS9 hl9 hb9 hp9 => va_runV (As := [.int (nI i5)]) (rest := []) X.fix (m_formulaAt l D cy O hO hFa hi5 hfc hF5 H9.size) (cwV 1 X.hts (gV ml_X9_141 im_X9_formulaAt se_X9_formulaAt ni_X9 cd_X9_formulaAt) rfl rfl rfl (by decide +kernel) ⟨Nat.le_of_ble_eq_true rfl, Nat.le_of_ble_eq_true rfl⟩) ⟨hb9, z_recvO X (ci := 9) (r := (RX9, TX9, 9)) hO rfl hS9, hp9⟩ rfl rfl hl9.1 rfl (lv_room (Nat.le_of_ble_eq_true rfl)) dX9_ofFormula_2 ⟨Nat.le_of_ble_eq_true rfl, Nat.le_of_ble_eq_true rfl⟩) [] [] rfl rfl rfl rfl rfl (by decide) (fun _ h => Or.inl h) (fun r1 w2 h3 => ?_)
  obtain ⟨e9, rfl⟩ := h3
  subst r1
  refine z_eq (ws' := []) (lv' := [(0, .ref a), (1, .int (nI i5)), (2, .int (nI 1))]) (st' := [.ref a5]) rfl rfl rfl ?_
  refine z_widen (k' := 0) (n' := 0) (Nat.le_refl _) (Nat.le_refl _) ?_
  refine z_astore_n X (lv' := [(3, .ref a5), (0, .ref a), (1, .int (nI i5)), (2, .int (nI 1))]) dX9_ofFormula_5 rfl (by decide) rfl ?_
  refine z_iload_n X dX9_ofFormula_6 rfl (j := 3) rfl ?_
  refine z_tableIn X (tgt := 49) (off := 42) dX9_ofFormula_7 (by decide) (by decide) rfl (by decide) ?_
  refine z_aload_n X dX9_ofFormula_49 rfl (j := 0) rfl ?_
  refine z_getO X (ci := 1) (C := RX1) (T := TX1) (N := 13) inX1 h5 rfl 6 (by decide) fl_X9_182 (fun _ h9 => h9) rfl dX9_ofFormula_50 ?_
  exact z_endi X hr [] [] rfl rfl rfl ⟨rfl, rfl⟩ dX9_ofFormula_53
set_option maxHeartbeats 4000000 in
set_option maxRecDepth 100000 in
/-- ofFormula(formula, 2) -/
theorem m_ofFormula_2 (l : Launch) (D : va_G) (cy : Nat → ClassId) (O : Nat × va_E → Prop) {a ra fa ua rc fc uc : Nat} {g6 g7 g8 : Value} (hO : O (a, .inr (9, [.ref ra, .int (nI rc), .ref fa, .int (nI fc), .ref ua, .int (nI uc), g6, g7, g8]))) {G : Nat → Option Nat} {rb rV : Nat → Nat} (hG : O (ra, .inl (cy 2, 6, .inr (.inr (.inr (.inr G)))))) (hrc : rc ≤ 6) (hGb : ∀ j, j < rc → G j = some (rb j)) (hRb : ∀ j, j < rc → ∃ v1 v2 v3 v5 v6 : Value, O (rb j, .inr (4, [v1, v2, v3, .int (nI (rV j)), v5, v6]))) {i5 a5 f5 d5 l5 u5 w5 x5 : Nat} {p51 p52 p53 p54 : Value} {k5 v5 : Int32} {o5 : Option Nat} (h5 : O (a5, .inr (1, [.int k5, p51, p52, p53, p54, .int v5, .int (nI f5), .int (nI d5), .int (nI l5), .int (nI u5), .int (nI w5), .int (nI x5), .int (oI o5)]))) {F : Nat → Option Nat} (hFa : O (fa, .inl (cy 3, 40, .inr (.inr (.inr (.inr F)))))) (hfc : fc ≤ 40) (hi5 : i5 < fc) (hF5 : F i5 = some a5) : Ci l yX9_ofFormula (.code yX9_ofFormula cX9_ofFormula 4 (some .int) :: WALL) ({ frames := 1, cells := 0, slots := 0, locals := 21 }) D cy O [.ref a, .int (nI i5), .int (nI 2)] [] 0 0 (fun (r : Int32) (w : va_W) => r = ofF k5 f5 d5 u5 w5 (dmo x5 rV rc) 2 ∧ w = []) := by
  refine z_meti (by decide) rfl rfl (Nat.le_of_ble_eq_true rfl) ?_
  intro p e s m args below meth c X hr hin
  refine z_eq (ws' := []) (lv' := [(0, .ref a), (1, .int (nI i5)), (2, .int (nI 2))]) (st' := []) rfl rfl rfl ?_
  refine z_aload_n X dX9_ofFormula_0 rfl (j := 0) rfl ?_
  refine z_iload_n X dX9_ofFormula_1 rfl (j := 1) rfl ?_
  refine z_retr X (as := [.ref a, .int (nI i5)]) (wc := []) (wr := []) (rest := []) (fun H9 locs9 ls9 hP9 hS9 hl9 hb9 hp9 => va_runV (As := [.int (nI i5)]) (rest := []) X.fix (m_formulaAt l D cy O hO hFa hi5 hfc hF5 H9.size) (cwV 1 X.hts (gV ml_X9_141 im_X9_formulaAt se_X9_formulaAt ni_X9 cd_X9_formulaAt) rfl rfl rfl (by decide +kernel) ⟨Nat.le_of_ble_eq_true rfl, Nat.le_of_ble_eq_true rfl⟩) ⟨hb9, z_recvO X (ci := 9) (r := (RX9, TX9, 9)) hO rfl hS9, hp9⟩ rfl rfl hl9.1 rfl (lv_room (Nat.le_of_ble_eq_true rfl)) dX9_ofFormula_2 ⟨Nat.le_of_ble_eq_true rfl, Nat.le_of_ble_eq_true rfl⟩) [] [] rfl rfl rfl rfl rfl (by decide) (fun _ h => Or.inl h) (fun r1 w2 h3 => ?_)
  obtain ⟨e9, rfl⟩ := h3
  subst r1
  refine z_eq (ws' := []) (lv' := [(0, .ref a), (1, .int (nI i5)), (2, .int (nI 2))]) (st' := [.ref a5]) rfl rfl rfl ?_
  refine z_widen (k' := 0) (n' := 0) (Nat.le_refl _) (Nat.le_refl _) ?_
  refine z_astore_n X (lv' := [(3, .ref a5), (0, .ref a), (1, .int (nI i5)), (2, .int (nI 2))]) dX9_ofFormula_5 rfl (by decide) rfl ?_
  refine z_iload_n X dX9_ofFormula_6 rfl (j := 3) rfl ?_
  refine z_tableIn X (tgt := 54) (off := 47) dX9_ofFormula_7 (by decide) (by decide) rfl (by decide) ?_
  refine z_aload_n X dX9_ofFormula_54 rfl (j := 0) rfl ?_
  refine z_getO X (ci := 1) (C := RX1) (T := TX1) (N := 13) inX1 h5 rfl 7 (by decide) fl_X9_167 (fun _ h9 => h9) rfl dX9_ofFormula_55 ?_
  exact z_endi X hr [] [] rfl rfl rfl ⟨rfl, rfl⟩ dX9_ofFormula_58
set_option maxHeartbeats 4000000 in
set_option maxRecDepth 100000 in
/-- ofFormula(formula, 3) -/
theorem m_ofFormula_3 (l : Launch) (D : va_G) (cy : Nat → ClassId) (O : Nat × va_E → Prop) {a ra fa ua rc fc uc : Nat} {g6 g7 g8 : Value} (hO : O (a, .inr (9, [.ref ra, .int (nI rc), .ref fa, .int (nI fc), .ref ua, .int (nI uc), g6, g7, g8]))) {G : Nat → Option Nat} {rb rV : Nat → Nat} (hG : O (ra, .inl (cy 2, 6, .inr (.inr (.inr (.inr G)))))) (hrc : rc ≤ 6) (hGb : ∀ j, j < rc → G j = some (rb j)) (hRb : ∀ j, j < rc → ∃ v1 v2 v3 v5 v6 : Value, O (rb j, .inr (4, [v1, v2, v3, .int (nI (rV j)), v5, v6]))) {i5 a5 f5 d5 l5 u5 w5 x5 : Nat} {p51 p52 p53 p54 : Value} {k5 v5 : Int32} {o5 : Option Nat} (h5 : O (a5, .inr (1, [.int k5, p51, p52, p53, p54, .int v5, .int (nI f5), .int (nI d5), .int (nI l5), .int (nI u5), .int (nI w5), .int (nI x5), .int (oI o5)]))) {F : Nat → Option Nat} (hFa : O (fa, .inl (cy 3, 40, .inr (.inr (.inr (.inr F)))))) (hfc : fc ≤ 40) (hi5 : i5 < fc) (hF5 : F i5 = some a5) : Ci l yX9_ofFormula (.code yX9_ofFormula cX9_ofFormula 4 (some .int) :: WALL) ({ frames := 1, cells := 0, slots := 0, locals := 21 }) D cy O [.ref a, .int (nI i5), .int (nI 3)] [] 0 0 (fun (r : Int32) (w : va_W) => r = ofF k5 f5 d5 u5 w5 (dmo x5 rV rc) 3 ∧ w = []) := by
  refine z_meti (by decide) rfl rfl (Nat.le_of_ble_eq_true rfl) ?_
  intro p e s m args below meth c X hr hin
  refine z_eq (ws' := []) (lv' := [(0, .ref a), (1, .int (nI i5)), (2, .int (nI 3))]) (st' := []) rfl rfl rfl ?_
  refine z_aload_n X dX9_ofFormula_0 rfl (j := 0) rfl ?_
  refine z_iload_n X dX9_ofFormula_1 rfl (j := 1) rfl ?_
  refine z_retr X (as := [.ref a, .int (nI i5)]) (wc := []) (wr := []) (rest := []) (fun H9 locs9 ls9 hP9 hS9 hl9 hb9 hp9 => va_runV (As := [.int (nI i5)]) (rest := []) X.fix (m_formulaAt l D cy O hO hFa hi5 hfc hF5 H9.size) (cwV 1 X.hts (gV ml_X9_141 im_X9_formulaAt se_X9_formulaAt ni_X9 cd_X9_formulaAt) rfl rfl rfl (by decide +kernel) ⟨Nat.le_of_ble_eq_true rfl, Nat.le_of_ble_eq_true rfl⟩) ⟨hb9, z_recvO X (ci := 9) (r := (RX9, TX9, 9)) hO rfl hS9, hp9⟩ rfl rfl hl9.1 rfl (lv_room (Nat.le_of_ble_eq_true rfl)) dX9_ofFormula_2 ⟨Nat.le_of_ble_eq_true rfl, Nat.le_of_ble_eq_true rfl⟩) [] [] rfl rfl rfl rfl rfl (by decide) (fun _ h => Or.inl h) (fun r1 w2 h3 => ?_)
  obtain ⟨e9, rfl⟩ := h3
  subst r1
  refine z_eq (ws' := []) (lv' := [(0, .ref a), (1, .int (nI i5)), (2, .int (nI 3))]) (st' := [.ref a5]) rfl rfl rfl ?_
  refine z_widen (k' := 0) (n' := 0) (Nat.le_refl _) (Nat.le_refl _) ?_
  refine z_astore_n X (lv' := [(3, .ref a5), (0, .ref a), (1, .int (nI i5)), (2, .int (nI 3))]) dX9_ofFormula_5 rfl (by decide) rfl ?_
  refine z_iload_n X dX9_ofFormula_6 rfl (j := 3) rfl ?_
  refine z_tableIn X (tgt := 59) (off := 52) dX9_ofFormula_7 (by decide) (by decide) rfl (by decide) ?_
  refine z_aload_n X dX9_ofFormula_59 rfl (j := 0) rfl ?_
  refine z_getO X (ci := 1) (C := RX1) (T := TX1) (N := 13) inX1 h5 rfl 9 (by decide) fl_X9_185 (fun _ h9 => h9) rfl dX9_ofFormula_60 ?_
  exact z_endi X hr [] [] rfl rfl rfl ⟨rfl, rfl⟩ dX9_ofFormula_63
set_option maxHeartbeats 4000000 in
set_option maxRecDepth 100000 in
/-- ofFormula(formula, 4) -/
theorem m_ofFormula_4 (l : Launch) (D : va_G) (cy : Nat → ClassId) (O : Nat × va_E → Prop) {a ra fa ua rc fc uc : Nat} {g6 g7 g8 : Value} (hO : O (a, .inr (9, [.ref ra, .int (nI rc), .ref fa, .int (nI fc), .ref ua, .int (nI uc), g6, g7, g8]))) {G : Nat → Option Nat} {rb rV : Nat → Nat} (hG : O (ra, .inl (cy 2, 6, .inr (.inr (.inr (.inr G)))))) (hrc : rc ≤ 6) (hGb : ∀ j, j < rc → G j = some (rb j)) (hRb : ∀ j, j < rc → ∃ v1 v2 v3 v5 v6 : Value, O (rb j, .inr (4, [v1, v2, v3, .int (nI (rV j)), v5, v6]))) {i5 a5 f5 d5 l5 u5 w5 x5 : Nat} {p51 p52 p53 p54 : Value} {k5 v5 : Int32} {o5 : Option Nat} (h5 : O (a5, .inr (1, [.int k5, p51, p52, p53, p54, .int v5, .int (nI f5), .int (nI d5), .int (nI l5), .int (nI u5), .int (nI w5), .int (nI x5), .int (oI o5)]))) {F : Nat → Option Nat} (hFa : O (fa, .inl (cy 3, 40, .inr (.inr (.inr (.inr F)))))) (hfc : fc ≤ 40) (hi5 : i5 < fc) (hF5 : F i5 = some a5) : Ci l yX9_ofFormula (.code yX9_ofFormula cX9_ofFormula 4 (some .int) :: WALL) ({ frames := 1, cells := 0, slots := 0, locals := 21 }) D cy O [.ref a, .int (nI i5), .int (nI 4)] [] 0 0 (fun (r : Int32) (w : va_W) => r = ofF k5 f5 d5 u5 w5 (dmo x5 rV rc) 4 ∧ w = []) := by
  refine z_meti (by decide) rfl rfl (Nat.le_of_ble_eq_true rfl) ?_
  intro p e s m args below meth c X hr hin
  refine z_eq (ws' := []) (lv' := [(0, .ref a), (1, .int (nI i5)), (2, .int (nI 4))]) (st' := []) rfl rfl rfl ?_
  refine z_aload_n X dX9_ofFormula_0 rfl (j := 0) rfl ?_
  refine z_iload_n X dX9_ofFormula_1 rfl (j := 1) rfl ?_
  refine z_retr X (as := [.ref a, .int (nI i5)]) (wc := []) (wr := []) (rest := []) (fun H9 locs9 ls9 hP9 hS9 hl9 hb9 hp9 => va_runV (As := [.int (nI i5)]) (rest := []) X.fix (m_formulaAt l D cy O hO hFa hi5 hfc hF5 H9.size) (cwV 1 X.hts (gV ml_X9_141 im_X9_formulaAt se_X9_formulaAt ni_X9 cd_X9_formulaAt) rfl rfl rfl (by decide +kernel) ⟨Nat.le_of_ble_eq_true rfl, Nat.le_of_ble_eq_true rfl⟩) ⟨hb9, z_recvO X (ci := 9) (r := (RX9, TX9, 9)) hO rfl hS9, hp9⟩ rfl rfl hl9.1 rfl (lv_room (Nat.le_of_ble_eq_true rfl)) dX9_ofFormula_2 ⟨Nat.le_of_ble_eq_true rfl, Nat.le_of_ble_eq_true rfl⟩) [] [] rfl rfl rfl rfl rfl (by decide) (fun _ h => Or.inl h) (fun r1 w2 h3 => ?_)
  obtain ⟨e9, rfl⟩ := h3
  subst r1
  refine z_eq (ws' := []) (lv' := [(0, .ref a), (1, .int (nI i5)), (2, .int (nI 4))]) (st' := [.ref a5]) rfl rfl rfl ?_
  refine z_widen (k' := 0) (n' := 0) (Nat.le_refl _) (Nat.le_refl _) ?_
  refine z_astore_n X (lv' := [(3, .ref a5), (0, .ref a), (1, .int (nI i5)), (2, .int (nI 4))]) dX9_ofFormula_5 rfl (by decide) rfl ?_
  refine z_iload_n X dX9_ofFormula_6 rfl (j := 3) rfl ?_
  refine z_tableIn X (tgt := 64) (off := 57) dX9_ofFormula_7 (by decide) (by decide) rfl (by decide) ?_
  refine z_aload_n X dX9_ofFormula_64 rfl (j := 0) rfl ?_
  refine z_getO X (ci := 1) (C := RX1) (T := TX1) (N := 13) inX1 h5 rfl 10 (by decide) fl_X9_188 (fun _ h9 => h9) rfl dX9_ofFormula_65 ?_
  exact z_endi X hr [] [] rfl rfl rfl ⟨rfl, rfl⟩ dX9_ofFormula_68
set_option maxHeartbeats 4000000 in
set_option maxRecDepth 100000 in
/-- ofFormula(formula, 5) -/
theorem m_ofFormula_5 (l : Launch) (D : va_G) (cy : Nat → ClassId) (O : Nat × va_E → Prop) {a ra fa ua rc fc uc : Nat} {g6 g7 g8 : Value} (hO : O (a, .inr (9, [.ref ra, .int (nI rc), .ref fa, .int (nI fc), .ref ua, .int (nI uc), g6, g7, g8]))) {G : Nat → Option Nat} {rb rV : Nat → Nat} (hG : O (ra, .inl (cy 2, 6, .inr (.inr (.inr (.inr G)))))) (hrc : rc ≤ 6) (hGb : ∀ j, j < rc → G j = some (rb j)) (hRb : ∀ j, j < rc → ∃ v1 v2 v3 v5 v6 : Value, O (rb j, .inr (4, [v1, v2, v3, .int (nI (rV j)), v5, v6]))) {i5 a5 f5 d5 l5 u5 w5 x5 : Nat} {p51 p52 p53 p54 : Value} {k5 v5 : Int32} {o5 : Option Nat} (h5 : O (a5, .inr (1, [.int k5, p51, p52, p53, p54, .int v5, .int (nI f5), .int (nI d5), .int (nI l5), .int (nI u5), .int (nI w5), .int (nI x5), .int (oI o5)]))) {F : Nat → Option Nat} (hFa : O (fa, .inl (cy 3, 40, .inr (.inr (.inr (.inr F)))))) (hfc : fc ≤ 40) (hi5 : i5 < fc) (hF5 : F i5 = some a5) : Ci l yX9_ofFormula (.code yX9_ofFormula cX9_ofFormula 4 (some .int) :: WALL) ({ frames := 1, cells := 0, slots := 0, locals := 23 }) D cy O [.ref a, .int (nI i5), .int (nI 5)] [] 0 0 (fun (r : Int32) (w : va_W) => r = ofF k5 f5 d5 u5 w5 (dmo x5 rV rc) 5 ∧ w = []) := by
  refine z_meti (by decide) rfl rfl (Nat.le_of_ble_eq_true rfl) ?_
  intro p e s m args below meth c X hr hin
  refine z_eq (ws' := []) (lv' := [(0, .ref a), (1, .int (nI i5)), (2, .int (nI 5))]) (st' := []) rfl rfl rfl ?_
  refine z_aload_n X dX9_ofFormula_0 rfl (j := 0) rfl ?_
  refine z_iload_n X dX9_ofFormula_1 rfl (j := 1) rfl ?_
  refine z_retr X (as := [.ref a, .int (nI i5)]) (wc := []) (wr := []) (rest := []) (fun H9 locs9 ls9 hP9 hS9 hl9 hb9 hp9 => va_runV (As := [.int (nI i5)]) (rest := []) X.fix (m_formulaAt l D cy O hO hFa hi5 hfc hF5 H9.size) (cwV 1 X.hts (gV ml_X9_141 im_X9_formulaAt se_X9_formulaAt ni_X9 cd_X9_formulaAt) rfl rfl rfl (by decide +kernel) ⟨Nat.le_of_ble_eq_true rfl, Nat.le_of_ble_eq_true rfl⟩) ⟨hb9, z_recvO X (ci := 9) (r := (RX9, TX9, 9)) hO rfl hS9, hp9⟩ rfl rfl hl9.1 rfl (lv_room (Nat.le_of_ble_eq_true rfl)) dX9_ofFormula_2 ⟨Nat.le_of_ble_eq_true rfl, Nat.le_of_ble_eq_true rfl⟩) [] [] rfl rfl rfl rfl rfl (by decide) (fun _ h => Or.inl h) (fun r1 w2 h3 => ?_)
  obtain ⟨e9, rfl⟩ := h3
  subst r1
  refine z_eq (ws' := []) (lv' := [(0, .ref a), (1, .int (nI i5)), (2, .int (nI 5))]) (st' := [.ref a5]) rfl rfl rfl ?_
  refine z_widen (k' := 0) (n' := 0) (Nat.le_refl _) (Nat.le_refl _) ?_
  refine z_astore_n X (lv' := [(3, .ref a5), (0, .ref a), (1, .int (nI i5)), (2, .int (nI 5))]) dX9_ofFormula_5 rfl (by decide) rfl ?_
  refine z_iload_n X dX9_ofFormula_6 rfl (j := 3) rfl ?_
  refine z_tableIn X (tgt := 69) (off := 62) dX9_ofFormula_7 (by decide) (by decide) rfl (by decide) ?_
  refine z_aload_n X dX9_ofFormula_69 rfl (j := 1) rfl ?_
  refine z_aload_n X dX9_ofFormula_70 rfl (j := 0) rfl ?_
  refine z_reti X (as := [.ref a, .ref a5]) (wc := []) (wr := []) (rest := []) (fun H9 locs9 ls9 hP9 hS9 hl9 hb9 hp9 => va_runV (As := [.ref a5]) (rest := []) X.fix (m_domainOf l D cy O hO hG hrc hGb hRb h5 H9.size) (cwV 1 X.hts (gV ml_X9_191 im_X9_domainOf se_X9_domainOf ni_X9 cd_X9_domainOf) rfl rfl rfl (by decide +kernel) ⟨Nat.le_of_ble_eq_true rfl, Nat.le_of_ble_eq_true rfl⟩) ⟨hb9, z_recvO X (ci := 9) (r := (RX9, TX9, 9)) hO rfl hS9, hp9⟩ rfl rfl hl9.1 rfl (lv_room (Nat.le_of_ble_eq_true rfl)) dX9_ofFormula_71 ⟨Nat.le_of_ble_eq_true rfl, Nat.le_of_ble_eq_true rfl⟩) [] [] rfl rfl rfl rfl rfl (by decide) (fun _ h => Or.inl h) (fun r4 w5 h6 => ?_)
  obtain ⟨rfl, rfl⟩ := h6
  refine z_eq (ws' := []) (lv' := [(3, .ref a5), (0, .ref a), (1, .int (nI i5)), (2, .int (nI 5))]) (st' := [.int (nI (dmo x5 rV rc))]) rfl rfl rfl ?_
  refine z_widen (k' := 0) (n' := 0) (Nat.le_refl _) (Nat.le_refl _) ?_
  exact z_endi X hr [] [] rfl rfl rfl ⟨rfl, rfl⟩ dX9_ofFormula_74
set_option maxHeartbeats 4000000 in
set_option maxRecDepth 100000 in
/-- isSafe(formula) -/
theorem m_isSafe (l : Launch) (D : va_G) (cy : Nat → ClassId) (O : Nat × va_E → Prop) {a ra fa ua rc fc uc : Nat} {g6 g7 g8 : Value} (hO : O (a, .inr (9, [.ref ra, .int (nI rc), .ref fa, .int (nI fc), .ref ua, .int (nI uc), g6, g7, g8]))) {i5 a5 f5 d5 l5 u5 w5 x5 : Nat} {p51 p52 p53 p54 : Value} {k5 v5 : Int32} {o5 : Option Nat} (h5 : O (a5, .inr (1, [.int k5, p51, p52, p53, p54, .int v5, .int (nI f5), .int (nI d5), .int (nI l5), .int (nI u5), .int (nI w5), .int (nI x5), .int (oI o5)]))) {F : Nat → Option Nat} (hFa : O (fa, .inl (cy 3, 40, .inr (.inr (.inr (.inr F)))))) (hfc : fc ≤ 40) (hi5 : i5 < fc) (hF5 : F i5 = some a5) (ho5 : ∀ j, o5 = some j → j < 2 ^ 31) (hf5 : f5 < 2 ^ 31) : Ci l yX9_isSafe (.code yX9_isSafe cX9_isSafe 3 (some .boolean) :: WALL) ({ frames := 1, cells := 0, slots := 0, locals := 21 }) D cy O [.ref a, .int (nI i5)] [] 0 0 (fun (r : Int32) (w : va_W) => r = (if o5 = none ∧ nd f5 u5 = 0 then 1 else 0) ∧ w = []) := by
  refine z_meti (by decide) rfl rfl (Nat.le_of_ble_eq_true rfl) ?_
  intro p e s m args below meth c X hr hin
  refine z_eq (ws' := []) (lv' := [(0, .ref a), (1, .int (nI i5))]) (st' := []) rfl rfl rfl ?_
  refine z_aload_n X dX9_isSafe_0 rfl (j := 0) rfl ?_
  refine z_iload_n X dX9_isSafe_1 rfl (j := 1) rfl ?_
  refine z_retr X (as := [.ref a, .int (nI i5)]) (wc := []) (wr := []) (rest := []) (fun H9 locs9 ls9 hP9 hS9 hl9 hb9 hp9 => va_runV (As := [.int (nI i5)]) (rest := []) X.fix (m_formulaAt l D cy O hO hFa hi5 hfc hF5 H9.size) (cwV 1 X.hts (gV ml_X9_141 im_X9_formulaAt se_X9_formulaAt ni_X9 cd_X9_formulaAt) rfl rfl rfl (by decide +kernel) ⟨Nat.le_of_ble_eq_true rfl, Nat.le_of_ble_eq_true rfl⟩) ⟨hb9, z_recvO X (ci := 9) (r := (RX9, TX9, 9)) hO rfl hS9, hp9⟩ rfl rfl hl9.1 rfl (lv_room (Nat.le_of_ble_eq_true rfl)) dX9_isSafe_2 ⟨Nat.le_of_ble_eq_true rfl, Nat.le_of_ble_eq_true rfl⟩) [] [] rfl rfl rfl rfl rfl (by decide) (fun _ h => Or.inl h) (fun r1 w2 h3 => ?_)
  obtain ⟨e9, rfl⟩ := h3
  subst r1
  refine z_eq (ws' := []) (lv' := [(0, .ref a), (1, .int (nI i5))]) (st' := [.ref a5]) rfl rfl rfl ?_
  refine z_widen (k' := 0) (n' := 0) (Nat.le_refl _) (Nat.le_refl _) ?_
  refine z_astore_n X (lv' := [(2, .ref a5), (0, .ref a), (1, .int (nI i5))]) dX9_isSafe_5 rfl (by decide) rfl ?_
  refine z_aload_n X dX9_isSafe_6 rfl (j := 0) rfl ?_
  refine z_getO X (ci := 1) (C := RX1) (T := TX1) (N := 13) inX1 h5 rfl 12 (by decide) fl_X9_196 (fun _ h9 => h9) rfl dX9_isSafe_7 ?_
  refine z_if_ge X (tgt := 31) dX9_isSafe_10 (by decide) (fun c_10 => ?_) (fun c_10 => ?_)
  · skip
    refine z_iconst X (v := 0) dX9_isSafe_31 (by decide) ?_
    exact z_endz X hr (by first | exact Or.inl rfl | exact Or.inr rfl) [] [] rfl rfl rfl ⟨(by obtain ⟨j9, e9⟩ := (oI_le ho5).mp c_10; rw [if_neg (fun z => by rw [z.1] at e9; cases e9)]), rfl⟩ dX9_isSafe_32
  · skip
    refine z_aload_n X dX9_isSafe_13 rfl (j := 0) rfl ?_
    refine z_getO X (ci := 1) (C := RX1) (T := TX1) (N := 13) inX1 h5 rfl 6 (by decide) fl_X9_182 (fun _ h9 => h9) rfl dX9_isSafe_14 ?_
    refine z_aload_n X dX9_isSafe_17 rfl (j := 0) rfl ?_
    refine z_getO X (ci := 1) (C := RX1) (T := TX1) (N := 13) inX1 h5 rfl 9 (by decide) fl_X9_185 (fun _ h9 => h9) rfl dX9_isSafe_18 ?_
    refine z_iconst X (v := (-1)) dX9_isSafe_21 (by decide) ?_
    refine z_ixor X (v := ((nI u5) ^^^ (-1))) dX9_isSafe_22 rfl ?_
    refine z_iand X (v := (nI (nd f5 u5))) dX9_isSafe_23 (nI_nd _ _) ?_
    refine z_if_ne X (tgt := 31) dX9_isSafe_24 (by decide) (fun c_24 => ?_) (fun c_24 => ?_)
    · skip
      refine z_iconst X (v := 0) dX9_isSafe_31 (by decide) ?_
      exact z_endz X hr (by first | exact Or.inl rfl | exact Or.inr rfl) [] [] rfl rfl rfl ⟨(by rw [if_neg (fun z => c_24 (by rw [z.2]; rfl))]), rfl⟩ dX9_isSafe_32
    · skip
      have z24 : nd f5 u5 = 0 := (nI_zero (nd_lt hf5)).mp c_24
      refine z_iconst X (v := 1) dX9_isSafe_27 (by decide) ?_
      refine z_goto X (tgt := 32) dX9_isSafe_28 (by decide) ?_
      exact z_endz X hr (by first | exact Or.inl rfl | exact Or.inr rfl) [] [] rfl rfl rfl ⟨(by rw [if_pos ⟨oI_neg ho5 (lt_of_not_ge0 c_10), z24⟩]), rfl⟩ dX9_isSafe_32
set_option maxHeartbeats 4000000 in
set_option maxRecDepth 100000 in
/-- loose(formula) -/
theorem m_loose (l : Launch) (D : va_G) (cy : Nat → ClassId) (O : Nat × va_E → Prop) {a ra fa ua rc fc uc : Nat} {g6 g7 g8 : Value} (hO : O (a, .inr (9, [.ref ra, .int (nI rc), .ref fa, .int (nI fc), .ref ua, .int (nI uc), g6, g7, g8]))) {i5 a5 f5 d5 l5 u5 w5 x5 : Nat} {p51 p52 p53 p54 : Value} {k5 v5 : Int32} {o5 : Option Nat} (h5 : O (a5, .inr (1, [.int k5, p51, p52, p53, p54, .int v5, .int (nI f5), .int (nI d5), .int (nI l5), .int (nI u5), .int (nI w5), .int (nI x5), .int (oI o5)]))) {F : Nat → Option Nat} (hFa : O (fa, .inl (cy 3, 40, .inr (.inr (.inr (.inr F)))))) (hfc : fc ≤ 40) (hi5 : i5 < fc) (hF5 : F i5 = some a5) : Ci l yX9_loose (.code yX9_loose cX9_loose 2 (some .int) :: WALL) ({ frames := 1, cells := 0, slots := 0, locals := 21 }) D cy O [.ref a, .int (nI i5)] [] 0 0 (fun (r : Int32) (w : va_W) => r = oI o5 ∧ w = []) := by
  refine z_meti (by decide) rfl rfl (Nat.le_of_ble_eq_true rfl) ?_
  intro p e s m args below meth c X hr hin
  refine z_eq (ws' := []) (lv' := [(0, .ref a), (1, .int (nI i5))]) (st' := []) rfl rfl rfl ?_
  refine z_aload_n X dX9_loose_0 rfl (j := 0) rfl ?_
  refine z_iload_n X dX9_loose_1 rfl (j := 1) rfl ?_
  refine z_retr X (as := [.ref a, .int (nI i5)]) (wc := []) (wr := []) (rest := []) (fun H9 locs9 ls9 hP9 hS9 hl9 hb9 hp9 => va_runV (As := [.int (nI i5)]) (rest := []) X.fix (m_formulaAt l D cy O hO hFa hi5 hfc hF5 H9.size) (cwV 1 X.hts (gV ml_X9_141 im_X9_formulaAt se_X9_formulaAt ni_X9 cd_X9_formulaAt) rfl rfl rfl (by decide +kernel) ⟨Nat.le_of_ble_eq_true rfl, Nat.le_of_ble_eq_true rfl⟩) ⟨hb9, z_recvO X (ci := 9) (r := (RX9, TX9, 9)) hO rfl hS9, hp9⟩ rfl rfl hl9.1 rfl (lv_room (Nat.le_of_ble_eq_true rfl)) dX9_loose_2 ⟨Nat.le_of_ble_eq_true rfl, Nat.le_of_ble_eq_true rfl⟩) [] [] rfl rfl rfl rfl rfl (by decide) (fun _ h => Or.inl h) (fun r1 w2 h3 => ?_)
  obtain ⟨e9, rfl⟩ := h3
  subst r1
  refine z_eq (ws' := []) (lv' := [(0, .ref a), (1, .int (nI i5))]) (st' := [.ref a5]) rfl rfl rfl ?_
  refine z_widen (k' := 0) (n' := 0) (Nat.le_refl _) (Nat.le_refl _) ?_
  refine z_getO X (ci := 1) (C := RX1) (T := TX1) (N := 13) inX1 h5 rfl 12 (by decide) fl_X9_196 (fun _ h9 => h9) rfl dX9_loose_5 ?_
  exact z_endi X hr [] [] rfl rfl rfl ⟨rfl, rfl⟩ dX9_loose_8
