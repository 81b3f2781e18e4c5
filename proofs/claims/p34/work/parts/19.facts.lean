set_option maxHeartbeats 4000000 in
set_option maxRecDepth 100000 in
/-- Relation(places) -/
theorem m_Relation (l : Launch) (D : va_G) (cy : Nat → ClassId) (O : Nat × va_E → Prop) {h0 P : Nat} : Cv l yX4_init (.code yX4_init cX4_init 2 none :: WALL) ({ frames := 1, cells := 3, slots := 52, locals := 13 }) D cy O [.ref h0, .int (nI P)] [(h0, .inr (4, [.int 0, .null, .int 0, .int 0, .null, .null]))] 3 52 (fun (w : va_W) => ∃ q1 q2 q3 : Nat, w = [(h0, .inr (4, [.int (nI P), .ref q1, .int 0, .int 0, .ref q2, .ref q3])), (q1, .inl (cy 0, 25, .inl (fun _ => 0))), (q2, .inl (cy 0, 24, .inl (fun _ => 0))), (q3, .inl (cy 0, 3, .inl (fun _ => 0)))]) := by
  refine z_metv (by decide) rfl rfl (Nat.le_of_ble_eq_true rfl) ?_
  intro p e s m args below meth c X hr hin
  refine z_eq (ws' := [(h0, .inr (4, [.int 0, .null, .int 0, .int 0, .null, .null]))]) (lv' := [(0, .ref h0), (1, .int (nI P))]) (st' := []) rfl rfl rfl ?_
  refine z_aload_n X dX4_init_0 rfl (j := 0) rfl ?_
  refine z_objInit X ml_X4_3 im_obj cd_obj (Nat.le_of_ble_eq_true rfl) (Nat.le_of_ble_eq_true rfl) dX4_init_1 ?_
  refine z_aload_n X dX4_init_4 rfl (j := 0) rfl ?_
  refine z_bipush X (v := 25) dX4_init_5 (by decide) ?_
  refine z_newaI X (N := 25) ac_int (by decide) (by decide) (Nat.le_of_ble_eq_true rfl) (Nat.le_of_ble_eq_true rfl) (Nat.le_of_ble_eq_true rfl) dX4_init_7 (fun q1 => ?_)
  refine z_eq (ws' := [(h0, .inr (4, [.int 0, .null, .int 0, .int 0, .null, .null])), (q1, .inl (cy 0, 25, .inl (fun _ => 0)))]) (lv' := [(0, .ref h0), (1, .int (nI P))]) (st' := [.ref q1, .ref h0]) rfl rfl rfl ?_
  refine z_widen (k' := 1) (n' := 25) (Nat.le_of_ble_eq_true rfl) (Nat.le_of_ble_eq_true rfl) ?_
  refine z_putF X 0 (C := RX4) (T := TX4) (N := 6) inX4 tyX4 tyX4_ok nmX4 rfl rfl 1 (by decide) fl_X4_9 (fun _ h9 => h9) rfl hin rfl (ty := (.array .int)) (by decide +kernel) rfl rfl (Nat.le_of_ble_eq_true rfl) (ws' := [(h0, .inr (4, [.int 0, .ref q1, .int 0, .int 0, .null, .null])), (q1, .inl (cy 0, 25, .inl (fun _ => 0)))]) rfl dX4_init_9 ?_
  refine z_aload_n X dX4_init_12 rfl (j := 0) rfl ?_
  refine z_iconst X (v := 0) dX4_init_13 (by decide) ?_
  refine z_putW X 0 (C := RX4) (T := TX4) (N := 6) inX4 tyX4 tyX4_ok nmX4 rfl rfl 2 (by decide) fl_X4_15 (fun _ h9 => h9) rfl (ty := .int) (by decide +kernel) rfl rfl (Nat.le_of_ble_eq_true rfl) (ws' := [(h0, .inr (4, [.int 0, .ref q1, .int 0, .int 0, .null, .null])), (q1, .inl (cy 0, 25, .inl (fun _ => 0)))]) rfl dX4_init_14 ?_
  refine z_aload_n X dX4_init_17 rfl (j := 0) rfl ?_
  refine z_iconst X (v := 0) dX4_init_18 (by decide) ?_
  refine z_putW X 0 (C := RX4) (T := TX4) (N := 6) inX4 tyX4 tyX4_ok nmX4 rfl rfl 3 (by decide) fl_X4_19 (fun _ h9 => h9) rfl (ty := .int) (by decide +kernel) rfl rfl (Nat.le_of_ble_eq_true rfl) (ws' := [(h0, .inr (4, [.int 0, .ref q1, .int 0, .int 0, .null, .null])), (q1, .inl (cy 0, 25, .inl (fun _ => 0)))]) rfl dX4_init_19 ?_
  refine z_aload_n X dX4_init_22 rfl (j := 0) rfl ?_
  refine z_bipush X (v := 24) dX4_init_23 (by decide) ?_
  refine z_newaI X (N := 24) ac_int (by decide) (by decide) (Nat.le_of_ble_eq_true rfl) (Nat.le_of_ble_eq_true rfl) (Nat.le_of_ble_eq_true rfl) dX4_init_25 (fun q2 => ?_)
  refine z_eq (ws' := [(h0, .inr (4, [.int 0, .ref q1, .int 0, .int 0, .null, .null])), (q1, .inl (cy 0, 25, .inl (fun _ => 0))), (q2, .inl (cy 0, 24, .inl (fun _ => 0)))]) (lv' := [(0, .ref h0), (1, .int (nI P))]) (st' := [.ref q2, .ref h0]) rfl rfl rfl ?_
  refine z_widen (k' := 2) (n' := 49) (Nat.le_of_ble_eq_true rfl) (Nat.le_of_ble_eq_true rfl) ?_
  refine z_putF X 0 (C := RX4) (T := TX4) (N := 6) inX4 tyX4 tyX4_ok nmX4 rfl rfl 4 (by decide) fl_X4_22 (fun _ h9 => h9) rfl hin rfl (ty := (.array .int)) (by decide +kernel) rfl rfl (Nat.le_of_ble_eq_true rfl) (ws' := [(h0, .inr (4, [.int 0, .ref q1, .int 0, .int 0, .ref q2, .null])), (q1, .inl (cy 0, 25, .inl (fun _ => 0))), (q2, .inl (cy 0, 24, .inl (fun _ => 0)))]) rfl dX4_init_27 ?_
  refine z_aload_n X dX4_init_30 rfl (j := 0) rfl ?_
  refine z_iconst X (v := 3) dX4_init_31 (by decide) ?_
  refine z_newaI X (N := 3) ac_int (by decide) (by decide) (Nat.le_of_ble_eq_true rfl) (Nat.le_of_ble_eq_true rfl) (Nat.le_of_ble_eq_true rfl) dX4_init_32 (fun q3 => ?_)
  refine z_eq (ws' := [(h0, .inr (4, [.int 0, .ref q1, .int 0, .int 0, .ref q2, .null])), (q1, .inl (cy 0, 25, .inl (fun _ => 0))), (q2, .inl (cy 0, 24, .inl (fun _ => 0))), (q3, .inl (cy 0, 3, .inl (fun _ => 0)))]) (lv' := [(0, .ref h0), (1, .int (nI P))]) (st' := [.ref q3, .ref h0]) rfl rfl rfl ?_
  refine z_widen (k' := 3) (n' := 52) (Nat.le_of_ble_eq_true rfl) (Nat.le_of_ble_eq_true rfl) ?_
  refine z_putF X 0 (C := RX4) (T := TX4) (N := 6) inX4 tyX4 tyX4_ok nmX4 rfl rfl 5 (by decide) fl_X4_25 (fun _ h9 => h9) rfl hin rfl (ty := (.array .int)) (by decide +kernel) rfl rfl (Nat.le_of_ble_eq_true rfl) (ws' := [(h0, .inr (4, [.int 0, .ref q1, .int 0, .int 0, .ref q2, .ref q3])), (q1, .inl (cy 0, 25, .inl (fun _ => 0))), (q2, .inl (cy 0, 24, .inl (fun _ => 0))), (q3, .inl (cy 0, 3, .inl (fun _ => 0)))]) rfl dX4_init_34 ?_
  refine z_aload_n X dX4_init_37 rfl (j := 0) rfl ?_
  refine z_iload_n X dX4_init_38 rfl (j := 1) rfl ?_
  refine z_putF X 0 (C := RX4) (T := TX4) (N := 6) inX4 tyX4 tyX4_ok nmX4 rfl rfl 0 (by decide) fl_X4_28 (fun _ h9 => h9) rfl hin rfl (ty := .int) (by decide +kernel) rfl rfl (Nat.le_of_ble_eq_true rfl) (ws' := [(h0, .inr (4, [.int (nI P), .ref q1, .int 0, .int 0, .ref q2, .ref q3])), (q1, .inl (cy 0, 25, .inl (fun _ => 0))), (q2, .inl (cy 0, 24, .inl (fun _ => 0))), (q3, .inl (cy 0, 3, .inl (fun _ => 0)))]) rfl dX4_init_39 ?_
  exact z_endv X hr [(h0, .inr (4, [.int (nI P), .ref q1, .int 0, .int 0, .ref q2, .ref q3])), (q1, .inl (cy 0, 25, .inl (fun _ => 0))), (q2, .inl (cy 0, 24, .inl (fun _ => 0))), (q3, .inl (cy 0, 3, .inl (fun _ => 0)))] [0, 1, 2, 3] rfl rfl rfl ⟨q1, q2, q3, rfl⟩ dX4_init_42
set_option maxHeartbeats 4000000 in
set_option maxRecDepth 100000 in
/-- relation(places) -/
theorem m_relation (l : Launch) (D : va_G) (cy : Nat → ClassId) (O : Nat × va_E → Prop) {a ra fa ua rc fc uc P : Nat} {g6 g7 g8 : Value} {F : Nat → Option Nat} (hP : 1 ≤ P) (hP3 : P ≤ 3) (hc : rc < 6) : Ci l yX9_relation (.code yX9_relation cX9_relation 2 (some .int) :: WALL) ({ frames := 2, cells := 4, slots := 58, locals := 34 }) D cy O [.ref a, .int (nI P)] [(a, .inr (9, [.ref ra, .int (nI rc), .ref fa, .int (nI fc), .ref ua, .int (nI uc), g6, g7, g8])), (ra, .inl (cy 2, 6, .inr (.inr (.inr (.inr F)))))] 4 58 (fun (r : Int32) (w : va_W) => r = nI rc ∧ ∃ r1 r2 r3 r4 : Nat, w = [(a, .inr (9, [.ref ra, .int (nI (rc + 1)), .ref fa, .int (nI fc), .ref ua, .int (nI uc), g6, g7, g8])), (ra, .inl (cy 2, 6, .inr (.inr (.inr (.inr (va_up F rc (some r1))))))), (r1, .inr (4, [.int (nI P), .ref r2, .int 0, .int 0, .ref r3, .ref r4])), (r2, .inl (cy 0, 25, .inl (fun _ => 0))), (r3, .inl (cy 0, 24, .inl (fun _ => 0))), (r4, .inl (cy 0, 3, .inl (fun _ => 0)))]) := by
  refine z_meti (by decide) rfl rfl (Nat.le_of_ble_eq_true rfl) ?_
  intro p e s m args below meth c X hr hin
  refine z_eq (ws' := [(a, .inr (9, [.ref ra, .int (nI rc), .ref fa, .int (nI fc), .ref ua, .int (nI uc), g6, g7, g8])), (ra, .inl (cy 2, 6, .inr (.inr (.inr (.inr F)))))]) (lv' := [(0, .ref a), (1, .int (nI P))]) (st' := []) rfl rfl rfl ?_
  refine z_iload_n X dX9_relation_0 rfl (j := 1) rfl ?_
  refine z_iconst X (v := 1) dX9_relation_1 (by decide) ?_
  refine z_icmp_lt X (tgt := 10) dX9_relation_2 (by decide) (fun c9 => absurd c9 (nI_nlt (a := P) (b := 1) hP (by omega))) (fun c_2 => ?_)
  refine z_iload_n X dX9_relation_5 rfl (j := 1) rfl ?_
  refine z_iconst X (v := 3) dX9_relation_6 (by decide) ?_
  refine z_icmp_le X (tgt := 20) dX9_relation_7 (by decide) (fun c_7 => ?_) (fun c9 => absurd (nI_le (a := P) (b := 3) hP3 (by decide)) c9)
  refine z_aload_n X dX9_relation_20 rfl (j := 0) rfl ?_
  refine z_getW X 0 (C := RX9) (T := TX9) (N := 9) inX9 rfl rfl 1 (by decide) fl_X9_15 (fun _ h9 => h9) rfl dX9_relation_21 ?_
  refine z_bipush X (v := 6) dX9_relation_24 (by decide) ?_
  refine z_icmp_lt X (tgt := 39) dX9_relation_26 (by decide) (fun c_26 => ?_) (fun c9 => absurd (nI_lt (a := rc) (b := 6) hc (by decide)) c9)
  refine z_aload_n X dX9_relation_39 rfl (j := 0) rfl ?_
  refine z_getW X 0 (C := RX9) (T := TX9) (N := 9) inX9 rfl rfl 0 (by decide) fl_X9_11 (fun _ h9 => h9) rfl dX9_relation_40 ?_
  refine z_aload_n X dX9_relation_43 rfl (j := 0) rfl ?_
  refine z_getW X 0 (C := RX9) (T := TX9) (N := 9) inX9 rfl rfl 1 (by decide) fl_X9_15 (fun _ h9 => h9) rfl dX9_relation_44 ?_
  refine z_new X (ci := 4) (fs := [.int 0, .null, .int 0, .int 0, .null, .null]) (C := RX4) (T := TX4) (N := 6) inX4 tyX4 tyX4_ok cl_X9_9 it_X4 ni_X4 rfl (fun j hj => by rcases (show j = 0 ∨ j = 1 ∨ j = 2 ∨ j = 3 ∨ j = 4 ∨ j = 5 by omega) with rfl | rfl | rfl | rfl | rfl | rfl <;> rfl) (Nat.le_of_ble_eq_true rfl) (Nat.le_of_ble_eq_true rfl) dX9_relation_47 (fun r1 => ?_)
  refine z_eq (ws' := [(a, .inr (9, [.ref ra, .int (nI rc), .ref fa, .int (nI fc), .ref ua, .int (nI uc), g6, g7, g8])), (ra, .inl (cy 2, 6, .inr (.inr (.inr (.inr F))))), (r1, .inr (4, [.int 0, .null, .int 0, .int 0, .null, .null]))]) (lv' := [(0, .ref a), (1, .int (nI P))]) (st' := [.ref r1, .int (nI rc), .ref ra]) rfl rfl rfl ?_
  refine z_widen (k' := 1) (n' := 6) (Nat.le_of_ble_eq_true rfl) (Nat.le_of_ble_eq_true rfl) ?_
  refine z_dup X dX9_relation_50 rfl ?_
  refine z_iload_n X dX9_relation_51 rfl (j := 1) rfl ?_
  refine z_retv X (as := [.ref r1, .int (nI P)]) (wc := [(r1, .inr (4, [.int 0, .null, .int 0, .int 0, .null, .null]))]) (wr := [(a, .inr (9, [.ref ra, .int (nI rc), .ref fa, .int (nI fc), .ref ua, .int (nI uc), g6, g7, g8])), (ra, .inl (cy 2, 6, .inr (.inr (.inr (.inr F)))))]) (rest := [.ref r1, .int (nI rc), .ref ra]) (fun H9 locs9 ls9 hP9 hS9 hl9 hb9 hp9 => va_runI (As := [.int (nI P)]) (rest := [.ref r1, .int (nI rc), .ref ra]) X.fix (m_Relation l D cy O (h0 := r1) (P := P) H9.size) (cwI 1 X.hts (gB cd_X4_init) rfl rfl rfl (X.hts _ ni_X4) (X.hts _ ml_X9_70) (X.hts _ im_X4_init) rfl (by decide +kernel) ⟨Nat.le_of_ble_eq_true rfl, Nat.le_of_ble_eq_true rfl⟩) ⟨hb9, hp9⟩ rfl rfl hl9.1 rfl (lv_room (Nat.le_of_ble_eq_true rfl)) dX9_relation_52 ⟨Nat.le_of_ble_eq_true rfl, Nat.le_of_ble_eq_true rfl⟩) [2] [0, 1] rfl rfl rfl rfl rfl (by decide) (fun _ h => Or.inl h) (fun w2 h3 => ?_)
  obtain ⟨r2, r3, r4, rfl⟩ := h3
  refine z_eq (ws' := [(a, .inr (9, [.ref ra, .int (nI rc), .ref fa, .int (nI fc), .ref ua, .int (nI uc), g6, g7, g8])), (ra, .inl (cy 2, 6, .inr (.inr (.inr (.inr F))))), (r1, .inr (4, [.int (nI P), .ref r2, .int 0, .int 0, .ref r3, .ref r4])), (r2, .inl (cy 0, 25, .inl (fun _ => 0))), (r3, .inl (cy 0, 24, .inl (fun _ => 0))), (r4, .inl (cy 0, 3, .inl (fun _ => 0)))]) (lv' := [(0, .ref a), (1, .int (nI P))]) (st' := [.ref r1, .int (nI rc), .ref ra]) rfl rfl rfl ?_
  refine z_widen (k' := 4) (n' := 58) (Nat.le_of_ble_eq_true rfl) (Nat.le_of_ble_eq_true rfl) ?_
  refine z_aastW X 1 2 4 (t := 2) rfl rfl rfl rfl (vp_in_nI (by omega) (by decide)) (ws' := [(a, .inr (9, [.ref ra, .int (nI rc), .ref fa, .int (nI fc), .ref ua, .int (nI uc), g6, g7, g8])), (ra, .inl (cy 2, 6, .inr (.inr (.inr (.inr (va_up F rc (some r1))))))), (r1, .inr (4, [.int (nI P), .ref r2, .int 0, .int 0, .ref r3, .ref r4])), (r2, .inl (cy 0, 25, .inl (fun _ => 0))), (r3, .inl (cy 0, 24, .inl (fun _ => 0))), (r4, .inl (cy 0, 3, .inl (fun _ => 0)))]) (by rw [nI_clamp (by omega)]; rfl) dX9_relation_55 ?_
  refine z_aload_n X dX9_relation_56 rfl (j := 0) rfl ?_
  refine z_dup X dX9_relation_57 rfl ?_
  refine z_getW X 0 (C := RX9) (T := TX9) (N := 9) inX9 rfl rfl 1 (by decide) fl_X9_15 (fun _ h9 => h9) rfl dX9_relation_58 ?_
  refine z_iconst X (v := 1) dX9_relation_61 (by decide) ?_
  refine z_iadd X (v := (nI (rc + 1))) dX9_relation_62 (nI_1 rc) ?_
  refine z_putW X 0 (C := RX9) (T := TX9) (N := 9) inX9 tyX9 tyX9_ok nmX9 rfl rfl 1 (by decide) fl_X9_15 (fun _ h9 => h9) rfl (ty := .int) (by decide +kernel) rfl rfl (Nat.le_of_ble_eq_true rfl) (ws' := [(a, .inr (9, [.ref ra, .int (nI (rc + 1)), .ref fa, .int (nI fc), .ref ua, .int (nI uc), g6, g7, g8])), (ra, .inl (cy 2, 6, .inr (.inr (.inr (.inr (va_up F rc (some r1))))))), (r1, .inr (4, [.int (nI P), .ref r2, .int 0, .int 0, .ref r3, .ref r4])), (r2, .inl (cy 0, 25, .inl (fun _ => 0))), (r3, .inl (cy 0, 24, .inl (fun _ => 0))), (r4, .inl (cy 0, 3, .inl (fun _ => 0)))]) rfl dX9_relation_63 ?_
  refine z_aload_n X dX9_relation_66 rfl (j := 0) rfl ?_
  refine z_getW X 0 (C := RX9) (T := TX9) (N := 9) inX9 rfl rfl 1 (by decide) fl_X9_15 (fun _ h9 => h9) rfl dX9_relation_67 ?_
  refine z_iconst X (v := 1) dX9_relation_70 (by decide) ?_
  refine z_isub X (v := (nI rc)) dX9_relation_71 (by rw [← nI_1 rc]; exact Int32.add_sub_cancel _ _) ?_
  exact z_endi X hr [(a, .inr (9, [.ref ra, .int (nI (rc + 1)), .ref fa, .int (nI fc), .ref ua, .int (nI uc), g6, g7, g8])), (ra, .inl (cy 2, 6, .inr (.inr (.inr (.inr (va_up F rc (some r1))))))), (r1, .inr (4, [.int (nI P), .ref r2, .int 0, .int 0, .ref r3, .ref r4])), (r2, .inl (cy 0, 25, .inl (fun _ => 0))), (r3, .inl (cy 0, 24, .inl (fun _ => 0))), (r4, .inl (cy 0, 3, .inl (fun _ => 0)))] [0, 1, 2, 3, 4, 5] rfl rfl rfl ⟨rfl, r1, r2, r3, r4, rfl⟩ dX9_relation_72
set_option maxHeartbeats 4000000 in
set_option maxRecDepth 100000 in
/-- fact(..) of what is one -/
theorem m_fact_old (l : Launch) (D : va_G) (cy : Nat → ClassId) (O : Nat × va_E → Prop) {a ra fa ua rc fc uc : Nat} {g6 g7 g8 : Value} (hO : O (a, .inr (9, [.ref ra, .int (nI rc), .ref fa, .int (nI fc), .ref ua, .int (nI uc), g6, g7, g8]))) {F : Nat → Option Nat} {i b ar ah ak P M V a1 a2 a3_ : Nat} {x hv kv : Nat → Nat} (hF : O (ra, .inl (cy 2, 6, .inr (.inr (.inr (.inr F)))))) (hi : i < rc) (hc : rc ≤ 6) (hb : F i = some b) (hP : 1 ≤ P) (hP3 : P ≤ 3) (hx : ∀ j, j < 25 → x j < 2 ^ 31) (h1 : a1 < 8) (h2 : a2 < 8) (h3 : a3_ < 8) (hM : M ≤ 24) (hold : (ft (fun i => decide (rw3 P a1 a2 a3_ ≤ x i)) M) < M ∧ x (ft (fun i => decide (rw3 P a1 a2 a3_ ≤ x i)) M) = (rw3 P a1 a2 a3_)) : Ci l yX9_fact (.code yX9_fact cX9_fact 7 (some .int) :: WALL) ({ frames := 2, cells := 0, slots := 0, locals := 44 }) D cy O [.ref a, .int (nI i), .int (nI a1), .int (nI a2), .int (nI a3_)] [(b, .inr (4, [.int (nI P), .ref ar, .int (nI M), .int (nI V), .ref ah, .ref ak])), (ar, .inl (cy 0, 25, .inl (nA x))), (ah, .inl (cy 0, 24, .inl (nA hv))), (ak, .inl (cy 0, 3, .inl (nA kv)))] 0 0 (fun (r : Int32) (w : va_W) => r = nI M ∧ w = [(b, .inr (4, [.int (nI P), .ref ar, .int (nI M), .int (nI V), .ref ah, .ref ak])), (ar, .inl (cy 0, 25, .inl (nA x))), (ah, .inl (cy 0, 24, .inl (nA hv))), (ak, .inl (cy 0, 3, .inl (nA kv)))]) := by
  have hv9 : rw3 P a1 a2 a3_ < 2 ^ 31 := by unfold rw3; split <;> (try split) <;> omega
  refine z_meti (by decide) rfl rfl (Nat.le_of_ble_eq_true rfl) ?_
  intro p e s m args below meth c X hr hin
  refine z_eq (ws' := [(b, .inr (4, [.int (nI P), .ref ar, .int (nI M), .int (nI V), .ref ah, .ref ak])), (ar, .inl (cy 0, 25, .inl (nA x))), (ah, .inl (cy 0, 24, .inl (nA hv))), (ak, .inl (cy 0, 3, .inl (nA kv)))]) (lv' := [(0, .ref a), (1, .int (nI i)), (2, .int (nI a1)), (3, .int (nI a2)), (4, .int (nI a3_))]) (st' := []) rfl rfl rfl ?_
  refine z_aload_n X dX9_fact_0 rfl (j := 0) rfl ?_
  refine z_iload_n X dX9_fact_1 rfl (j := 1) rfl ?_
  refine z_retr X (as := [.ref a, .int (nI i)]) (wc := []) (wr := [(b, .inr (4, [.int (nI P), .ref ar, .int (nI M), .int (nI V), .ref ah, .ref ak])), (ar, .inl (cy 0, 25, .inl (nA x))), (ah, .inl (cy 0, 24, .inl (nA hv))), (ak, .inl (cy 0, 3, .inl (nA kv)))]) (rest := []) (fun H9 locs9 ls9 hP9 hS9 hl9 hb9 hp9 => va_runV (As := [.int (nI i)]) (rest := []) X.fix (m_relationAt l D cy (fun q => O q ∨ q ∈ ([(b, .inr (4, [.int (nI P), .ref ar, .int (nI M), .int (nI V), .ref ah, .ref ak])), (ar, .inl (cy 0, 25, .inl (nA x))), (ah, .inl (cy 0, 24, .inl (nA hv))), (ak, .inl (cy 0, 3, .inl (nA kv)))] : va_W)) (Or.inl hO) (Or.inl hF) hi hc hb H9.size) (cwV 1 X.hts (gV ml_X9_73 im_X9_relationAt se_X9_relationAt ni_X9 cd_X9_relationAt) rfl rfl rfl (by decide +kernel) ⟨Nat.le_of_ble_eq_true rfl, Nat.le_of_ble_eq_true rfl⟩) ⟨hb9, z_recvO X (ci := 9) (r := (RX9, TX9, 9)) hO rfl hS9, hp9⟩ rfl rfl hl9.1 rfl (lv_room (Nat.le_of_ble_eq_true rfl)) dX9_fact_2 ⟨Nat.le_of_ble_eq_true rfl, Nat.le_of_ble_eq_true rfl⟩) [] [0, 1, 2, 3] rfl rfl rfl rfl rfl (by decide) (fun q h => h) (fun r1 w2 h3 => ?_)
  obtain ⟨e9, rfl⟩ := h3
  subst r1
  refine z_eq (ws' := [(b, .inr (4, [.int (nI P), .ref ar, .int (nI M), .int (nI V), .ref ah, .ref ak])), (ar, .inl (cy 0, 25, .inl (nA x))), (ah, .inl (cy 0, 24, .inl (nA hv))), (ak, .inl (cy 0, 3, .inl (nA kv)))]) (lv' := [(0, .ref a), (1, .int (nI i)), (2, .int (nI a1)), (3, .int (nI a2)), (4, .int (nI a3_))]) (st' := [.ref b]) rfl rfl rfl ?_
  refine z_widen (k' := 0) (n' := 0) (Nat.le_refl _) (Nat.le_refl _) ?_
  refine z_astore X (lv' := [(5, .ref b), (0, .ref a), (1, .int (nI i)), (2, .int (nI a1)), (3, .int (nI a2)), (4, .int (nI a3_))]) dX9_fact_5 (by decide) rfl ?_
  refine z_aload X dX9_fact_7 (j := 0) rfl ?_
  refine z_getW X 0 (C := RX4) (T := TX4) (N := 6) inX4 rfl rfl 0 (by decide) fl_X9_77 (fun _ h9 => h9) rfl dX9_fact_9 ?_
  refine z_iload_n X dX9_fact_12 rfl (j := 3) rfl ?_
  refine z_iload_n X dX9_fact_13 rfl (j := 4) rfl ?_
  refine z_iload X dX9_fact_14 (j := 5) rfl ?_
  refine z_retv X (as := [.int (nI P), .int (nI a1), .int (nI a2), .int (nI a3_)]) (wc := []) (wr := [(b, .inr (4, [.int (nI P), .ref ar, .int (nI M), .int (nI V), .ref ah, .ref ak])), (ar, .inl (cy 0, 25, .inl (nA x))), (ah, .inl (cy 0, 24, .inl (nA hv))), (ak, .inl (cy 0, 3, .inl (nA kv)))]) (rest := []) (fun H9 locs9 ls9 hP9 hS9 hl9 hb9 hp9 => va_runS (As := [.int (nI P), .int (nI a1), .int (nI a2), .int (nI a3_)]) (rest := []) X.fix (m_needValues l D cy O (n := P) h1 h2 h3 H9.size) (va_cwS 4 X.hts (gS ml_X9_80 sm_X9_needValues ni_X9 cd_X9_needValues) rfl rfl rfl (by decide +kernel) ⟨Nat.le_of_ble_eq_true rfl, Nat.le_of_ble_eq_true rfl⟩) ⟨hb9, hp9⟩ rfl rfl hl9.1 rfl (lv_room (Nat.le_of_ble_eq_true rfl)) dX9_fact_16 ⟨Nat.le_of_ble_eq_true rfl, Nat.le_of_ble_eq_true rfl⟩) [] [0, 1, 2, 3] rfl rfl rfl rfl rfl (by decide) (fun _ h => Or.inl h) (fun w5 h6 => ?_)
  subst h6
  refine z_eq (ws' := [(b, .inr (4, [.int (nI P), .ref ar, .int (nI M), .int (nI V), .ref ah, .ref ak])), (ar, .inl (cy 0, 25, .inl (nA x))), (ah, .inl (cy 0, 24, .inl (nA hv))), (ak, .inl (cy 0, 3, .inl (nA kv)))]) (lv' := [(5, .ref b), (0, .ref a), (1, .int (nI i)), (2, .int (nI a1)), (3, .int (nI a2)), (4, .int (nI a3_))]) (st' := []) rfl rfl rfl ?_
  refine z_widen (k' := 0) (n' := 0) (Nat.le_refl _) (Nat.le_refl _) ?_
  refine z_aload X dX9_fact_19 (j := 0) rfl ?_
  refine z_getW X 0 (C := RX4) (T := TX4) (N := 6) inX4 rfl rfl 0 (by decide) fl_X9_77 (fun _ h9 => h9) rfl dX9_fact_21 ?_
  refine z_iload_n X dX9_fact_24 rfl (j := 3) rfl ?_
  refine z_iload_n X dX9_fact_25 rfl (j := 4) rfl ?_
  refine z_iload X dX9_fact_26 (j := 5) rfl ?_
  refine z_reti X (as := [.int (nI P), .int (nI a1), .int (nI a2), .int (nI a3_)]) (wc := []) (wr := [(b, .inr (4, [.int (nI P), .ref ar, .int (nI M), .int (nI V), .ref ah, .ref ak])), (ar, .inl (cy 0, 25, .inl (nA x))), (ah, .inl (cy 0, 24, .inl (nA hv))), (ak, .inl (cy 0, 3, .inl (nA kv)))]) (rest := []) (fun H9 locs9 ls9 hP9 hS9 hl9 hb9 hp9 => va_runS (As := [.int (nI P), .int (nI a1), .int (nI a2), .int (nI a3_)]) (rest := []) X.fix (m_rowOf l D cy O (n := P) (by omega) h1 h2 h3 H9.size) (va_cwS 4 X.hts (gS ml_X9_84 sm_X9_rowOf ni_X9 cd_X9_rowOf) rfl rfl rfl (by decide +kernel) ⟨Nat.le_of_ble_eq_true rfl, Nat.le_of_ble_eq_true rfl⟩) ⟨hb9, hp9⟩ rfl rfl hl9.1 rfl (lv_room (Nat.le_of_ble_eq_true rfl)) dX9_fact_28 ⟨Nat.le_of_ble_eq_true rfl, Nat.le_of_ble_eq_true rfl⟩) [] [0, 1, 2, 3] rfl rfl rfl rfl rfl (by decide) (fun _ h => Or.inl h) (fun r7 w8 h9 => ?_)
  obtain ⟨rfl, rfl⟩ := h9
  refine z_eq (ws' := [(b, .inr (4, [.int (nI P), .ref ar, .int (nI M), .int (nI V), .ref ah, .ref ak])), (ar, .inl (cy 0, 25, .inl (nA x))), (ah, .inl (cy 0, 24, .inl (nA hv))), (ak, .inl (cy 0, 3, .inl (nA kv)))]) (lv' := [(5, .ref b), (0, .ref a), (1, .int (nI i)), (2, .int (nI a1)), (3, .int (nI a2)), (4, .int (nI a3_))]) (st' := [.int (nI (rw3 P a1 a2 a3_))]) rfl rfl rfl ?_
  refine z_widen (k' := 0) (n' := 0) (Nat.le_refl _) (Nat.le_refl _) ?_
  refine z_istore X (lv' := [(6, .int (nI (rw3 P a1 a2 a3_))), (5, .ref b), (0, .ref a), (1, .int (nI i)), (2, .int (nI a1)), (3, .int (nI a2)), (4, .int (nI a3_))]) dX9_fact_31 (by decide) rfl ?_
  refine z_aload X dX9_fact_33 (j := 1) rfl ?_
  refine z_iload X dX9_fact_35 (j := 0) rfl ?_
  refine z_reti X (as := [.ref b, .int (nI (rw3 P a1 a2 a3_))]) (wc := []) (wr := [(b, .inr (4, [.int (nI P), .ref ar, .int (nI M), .int (nI V), .ref ah, .ref ak])), (ar, .inl (cy 0, 25, .inl (nA x))), (ah, .inl (cy 0, 24, .inl (nA hv))), (ak, .inl (cy 0, 3, .inl (nA kv)))]) (rest := []) (fun H9 locs9 ls9 hP9 hS9 hl9 hb9 hp9 => va_runV (As := [.int (nI (rw3 P a1 a2 a3_))]) (rest := []) X.fix (m_has l D cy (fun q => O q ∨ q ∈ ([(b, .inr (4, [.int (nI P), .ref ar, .int (nI M), .int (nI V), .ref ah, .ref ak])), (ar, .inl (cy 0, 25, .inl (nA x))), (ah, .inl (cy 0, 24, .inl (nA hv))), (ak, .inl (cy 0, 3, .inl (nA kv)))] : va_W)) (Or.inr (List.mem_of_getElem? (i := 0) rfl)) (Or.inr (List.mem_of_getElem? (i := 1) rfl)) (show M ≤ 25 by omega) (f := nA x) (fun _ _ => rfl) (fun j hj => hx j (by omega)) hv9 H9.size) (cwV 1 X.hts (gV ml_X9_88 im_X4_has se_X4_has ni_X4 cd_X4_has) rfl rfl rfl (by decide +kernel) ⟨Nat.le_of_ble_eq_true rfl, Nat.le_of_ble_eq_true rfl⟩) ⟨hb9, z_recvW X (q0 := 0) (ci := 4) (r := (RX4, TX4, 6)) rfl rfl hP9, hp9⟩ rfl rfl hl9.1 rfl (lv_room (Nat.le_of_ble_eq_true rfl)) dX9_fact_37 ⟨Nat.le_of_ble_eq_true rfl, Nat.le_of_ble_eq_true rfl⟩) [] [0, 1, 2, 3] rfl rfl rfl rfl rfl (by decide) (fun q h => h) (fun r10 w11 h12 => ?_)
  obtain ⟨rfl, rfl⟩ := h12
  rw [if_pos hold]
  refine z_eq (ws' := [(b, .inr (4, [.int (nI P), .ref ar, .int (nI M), .int (nI V), .ref ah, .ref ak])), (ar, .inl (cy 0, 25, .inl (nA x))), (ah, .inl (cy 0, 24, .inl (nA hv))), (ak, .inl (cy 0, 3, .inl (nA kv)))]) (lv' := [(6, .int (nI (rw3 P a1 a2 a3_))), (5, .ref b), (0, .ref a), (1, .int (nI i)), (2, .int (nI a1)), (3, .int (nI a2)), (4, .int (nI a3_))]) (st' := [.int 1]) rfl rfl rfl ?_
  refine z_widen (k' := 0) (n' := 0) (Nat.le_refl _) (Nat.le_refl _) ?_
  refine z_if_ne X (tgt := 70) dX9_fact_40 (by decide) (fun c_40 => ?_) (fun c9 => absurd c9 (by decide))
  refine z_aload X dX9_fact_70 (j := 1) rfl ?_
  refine z_getW X 0 (C := RX4) (T := TX4) (N := 6) inX4 rfl rfl 2 (by decide) fl_X9_92 (fun _ h9 => h9) rfl dX9_fact_72 ?_
  exact z_endi X hr [(b, .inr (4, [.int (nI P), .ref ar, .int (nI M), .int (nI V), .ref ah, .ref ak])), (ar, .inl (cy 0, 25, .inl (nA x))), (ah, .inl (cy 0, 24, .inl (nA hv))), (ak, .inl (cy 0, 3, .inl (nA kv)))] [0, 1, 2, 3] rfl rfl rfl ⟨rfl, rfl⟩ dX9_fact_75
set_option maxHeartbeats 4000000 in
set_option maxRecDepth 100000 in
/-- fact(..) of what is none -/
theorem m_fact_new (l : Launch) (D : va_G) (cy : Nat → ClassId) (O : Nat × va_E → Prop) {a ra fa ua rc fc uc : Nat} {g6 g7 g8 : Value} (hO : O (a, .inr (9, [.ref ra, .int (nI rc), .ref fa, .int (nI fc), .ref ua, .int (nI uc), g6, g7, g8]))) {F : Nat → Option Nat} {i b ar ah ak P M V a1 a2 a3_ : Nat} {x hv kv : Nat → Nat} (hF : O (ra, .inl (cy 2, 6, .inr (.inr (.inr (.inr F)))))) (hi : i < rc) (hc : rc ≤ 6) (hb : F i = some b) (hP : 1 ≤ P) (hP3 : P ≤ 3) (hx : ∀ j, j < 25 → x j < 2 ^ 31) (h1 : a1 < 8) (h2 : a2 < 8) (h3 : a3_ < 8) (hM : M ≤ 24) (hM24 : M < 24) (hold : ¬ ((ft (fun i => decide (rw3 P a1 a2 a3_ ≤ x i)) M) < M ∧ x (ft (fun i => decide (rw3 P a1 a2 a3_ ≤ x i)) M) = (rw3 P a1 a2 a3_))) : Ci l yX9_fact (.code yX9_fact cX9_fact 7 (some .int) :: WALL) ({ frames := 4, cells := 0, slots := 0, locals := 91 }) D cy O [.ref a, .int (nI i), .int (nI a1), .int (nI a2), .int (nI a3_)] [(b, .inr (4, [.int (nI P), .ref ar, .int (nI M), .int (nI V), .ref ah, .ref ak])), (ar, .inl (cy 0, 25, .inl (nA x))), (ah, .inl (cy 0, 24, .inl (nA hv))), (ak, .inl (cy 0, 3, .inl (nA kv)))] 0 0 (fun (r : Int32) (w : va_W) => r = nI (M + 1) ∧ w = [(ar, .inl (cy 0, 25, .inl (nA (ins x M (ft (fun i => decide (rw3 P a1 a2 a3_ ≤ x i)) M) (rw3 P a1 a2 a3_))))), (b, .inr (4, [.int (nI P), .ref ar, .int (nI (M + 1)), .int (nI (mkf P (ins x M (ft (fun i => decide (rw3 P a1 a2 a3_ ≤ x i)) M) (rw3 P a1 a2 a3_)) (0, zf hv 24, zf kv 3) (M + 1)).1), .ref ah, .ref ak])), (ah, .inl (cy 0, 24, .inl (nA (mkf P (ins x M (ft (fun i => decide (rw3 P a1 a2 a3_ ≤ x i)) M) (rw3 P a1 a2 a3_)) (0, zf hv 24, zf kv 3) (M + 1)).2.1))), (ak, .inl (cy 0, 3, .inl (nA (mkf P (ins x M (ft (fun i => decide (rw3 P a1 a2 a3_ ≤ x i)) M) (rw3 P a1 a2 a3_)) (0, zf hv 24, zf kv 3) (M + 1)).2.2)))]) := by
  have hv9 : rw3 P a1 a2 a3_ < 2 ^ 31 := by unfold rw3; split <;> (try split) <;> omega
  refine z_meti (by decide) rfl rfl (Nat.le_of_ble_eq_true rfl) ?_
  intro p e s m args below meth c X hr hin
  refine z_eq (ws' := [(b, .inr (4, [.int (nI P), .ref ar, .int (nI M), .int (nI V), .ref ah, .ref ak])), (ar, .inl (cy 0, 25, .inl (nA x))), (ah, .inl (cy 0, 24, .inl (nA hv))), (ak, .inl (cy 0, 3, .inl (nA kv)))]) (lv' := [(0, .ref a), (1, .int (nI i)), (2, .int (nI a1)), (3, .int (nI a2)), (4, .int (nI a3_))]) (st' := []) rfl rfl rfl ?_
  refine z_aload_n X dX9_fact_0 rfl (j := 0) rfl ?_
  refine z_iload_n X dX9_fact_1 rfl (j := 1) rfl ?_
  refine z_retr X (as := [.ref a, .int (nI i)]) (wc := []) (wr := [(b, .inr (4, [.int (nI P), .ref ar, .int (nI M), .int (nI V), .ref ah, .ref ak])), (ar, .inl (cy 0, 25, .inl (nA x))), (ah, .inl (cy 0, 24, .inl (nA hv))), (ak, .inl (cy 0, 3, .inl (nA kv)))]) (rest := []) (fun H9 locs9 ls9 hP9 hS9 hl9 hb9 hp9 => va_runV (As := [.int (nI i)]) (rest := []) X.fix (m_relationAt l D cy (fun q => O q ∨ q ∈ ([(b, .inr (4, [.int (nI P), .ref ar, .int (nI M), .int (nI V), .ref ah, .ref ak])), (ar, .inl (cy 0, 25, .inl (nA x))), (ah, .inl (cy 0, 24, .inl (nA hv))), (ak, .inl (cy 0, 3, .inl (nA kv)))] : va_W)) (Or.inl hO) (Or.inl hF) hi hc hb H9.size) (cwV 1 X.hts (gV ml_X9_73 im_X9_relationAt se_X9_relationAt ni_X9 cd_X9_relationAt) rfl rfl rfl (by decide +kernel) ⟨Nat.le_of_ble_eq_true rfl, Nat.le_of_ble_eq_true rfl⟩) ⟨hb9, z_recvO X (ci := 9) (r := (RX9, TX9, 9)) hO rfl hS9, hp9⟩ rfl rfl hl9.1 rfl (lv_room (Nat.le_of_ble_eq_true rfl)) dX9_fact_2 ⟨Nat.le_of_ble_eq_true rfl, Nat.le_of_ble_eq_true rfl⟩) [] [0, 1, 2, 3] rfl rfl rfl rfl rfl (by decide) (fun q h => h) (fun r1 w2 h3 => ?_)
  obtain ⟨e9, rfl⟩ := h3
  subst r1
  refine z_eq (ws' := [(b, .inr (4, [.int (nI P), .ref ar, .int (nI M), .int (nI V), .ref ah, .ref ak])), (ar, .inl (cy 0, 25, .inl (nA x))), (ah, .inl (cy 0, 24, .inl (nA hv))), (ak, .inl (cy 0, 3, .inl (nA kv)))]) (lv' := [(0, .ref a), (1, .int (nI i)), (2, .int (nI a1)), (3, .int (nI a2)), (4, .int (nI a3_))]) (st' := [.ref b]) rfl rfl rfl ?_
  refine z_widen (k' := 0) (n' := 0) (Nat.le_refl _) (Nat.le_refl _) ?_
  refine z_astore X (lv' := [(5, .ref b), (0, .ref a), (1, .int (nI i)), (2, .int (nI a1)), (3, .int (nI a2)), (4, .int (nI a3_))]) dX9_fact_5 (by decide) rfl ?_
  refine z_aload X dX9_fact_7 (j := 0) rfl ?_
  refine z_getW X 0 (C := RX4) (T := TX4) (N := 6) inX4 rfl rfl 0 (by decide) fl_X9_77 (fun _ h9 => h9) rfl dX9_fact_9 ?_
  refine z_iload_n X dX9_fact_12 rfl (j := 3) rfl ?_
  refine z_iload_n X dX9_fact_13 rfl (j := 4) rfl ?_
  refine z_iload X dX9_fact_14 (j := 5) rfl ?_
  refine z_retv X (as := [.int (nI P), .int (nI a1), .int (nI a2), .int (nI a3_)]) (wc := []) (wr := [(b, .inr (4, [.int (nI P), .ref ar, .int (nI M), .int (nI V), .ref ah, .ref ak])), (ar, .inl (cy 0, 25, .inl (nA x))), (ah, .inl (cy 0, 24, .inl (nA hv))), (ak, .inl (cy 0, 3, .inl (nA kv)))]) (rest := []) (fun H9 locs9 ls9 hP9 hS9 hl9 hb9 hp9 => va_runS (As := [.int (nI P), .int (nI a1), .int (nI a2), .int (nI a3_)]) (rest := []) X.fix (m_needValues l D cy O (n := P) h1 h2 h3 H9.size) (va_cwS 4 X.hts (gS ml_X9_80 sm_X9_needValues ni_X9 cd_X9_needValues) rfl rfl rfl (by decide +kernel) ⟨Nat.le_of_ble_eq_true rfl, Nat.le_of_ble_eq_true rfl⟩) ⟨hb9, hp9⟩ rfl rfl hl9.1 rfl (lv_room (Nat.le_of_ble_eq_true rfl)) dX9_fact_16 ⟨Nat.le_of_ble_eq_true rfl, Nat.le_of_ble_eq_true rfl⟩) [] [0, 1, 2, 3] rfl rfl rfl rfl rfl (by decide) (fun _ h => Or.inl h) (fun w5 h6 => ?_)
  subst h6
  refine z_eq (ws' := [(b, .inr (4, [.int (nI P), .ref ar, .int (nI M), .int (nI V), .ref ah, .ref ak])), (ar, .inl (cy 0, 25, .inl (nA x))), (ah, .inl (cy 0, 24, .inl (nA hv))), (ak, .inl (cy 0, 3, .inl (nA kv)))]) (lv' := [(5, .ref b), (0, .ref a), (1, .int (nI i)), (2, .int (nI a1)), (3, .int (nI a2)), (4, .int (nI a3_))]) (st' := []) rfl rfl rfl ?_
  refine z_widen (k' := 0) (n' := 0) (Nat.le_refl _) (Nat.le_refl _) ?_
  refine z_aload X dX9_fact_19 (j := 0) rfl ?_
  refine z_getW X 0 (C := RX4) (T := TX4) (N := 6) inX4 rfl rfl 0 (by decide) fl_X9_77 (fun _ h9 => h9) rfl dX9_fact_21 ?_
  refine z_iload_n X dX9_fact_24 rfl (j := 3) rfl ?_
  refine z_iload_n X dX9_fact_25 rfl (j := 4) rfl ?_
  refine z_iload X dX9_fact_26 (j := 5) rfl ?_
  refine z_reti X (as := [.int (nI P), .int (nI a1), .int (nI a2), .int (nI a3_)]) (wc := []) (wr := [(b, .inr (4, [.int (nI P), .ref ar, .int (nI M), .int (nI V), .ref ah, .ref ak])), (ar, .inl (cy 0, 25, .inl (nA x))), (ah, .inl (cy 0, 24, .inl (nA hv))), (ak, .inl (cy 0, 3, .inl (nA kv)))]) (rest := []) (fun H9 locs9 ls9 hP9 hS9 hl9 hb9 hp9 => va_runS (As := [.int (nI P), .int (nI a1), .int (nI a2), .int (nI a3_)]) (rest := []) X.fix (m_rowOf l D cy O (n := P) (by omega) h1 h2 h3 H9.size) (va_cwS 4 X.hts (gS ml_X9_84 sm_X9_rowOf ni_X9 cd_X9_rowOf) rfl rfl rfl (by decide +kernel) ⟨Nat.le_of_ble_eq_true rfl, Nat.le_of_ble_eq_true rfl⟩) ⟨hb9, hp9⟩ rfl rfl hl9.1 rfl (lv_room (Nat.le_of_ble_eq_true rfl)) dX9_fact_28 ⟨Nat.le_of_ble_eq_true rfl, Nat.le_of_ble_eq_true rfl⟩) [] [0, 1, 2, 3] rfl rfl rfl rfl rfl (by decide) (fun _ h => Or.inl h) (fun r7 w8 h9 => ?_)
  obtain ⟨rfl, rfl⟩ := h9
  refine z_eq (ws' := [(b, .inr (4, [.int (nI P), .ref ar, .int (nI M), .int (nI V), .ref ah, .ref ak])), (ar, .inl (cy 0, 25, .inl (nA x))), (ah, .inl (cy 0, 24, .inl (nA hv))), (ak, .inl (cy 0, 3, .inl (nA kv)))]) (lv' := [(5, .ref b), (0, .ref a), (1, .int (nI i)), (2, .int (nI a1)), (3, .int (nI a2)), (4, .int (nI a3_))]) (st' := [.int (nI (rw3 P a1 a2 a3_))]) rfl rfl rfl ?_
  refine z_widen (k' := 0) (n' := 0) (Nat.le_refl _) (Nat.le_refl _) ?_
  refine z_istore X (lv' := [(6, .int (nI (rw3 P a1 a2 a3_))), (5, .ref b), (0, .ref a), (1, .int (nI i)), (2, .int (nI a1)), (3, .int (nI a2)), (4, .int (nI a3_))]) dX9_fact_31 (by decide) rfl ?_
  refine z_aload X dX9_fact_33 (j := 1) rfl ?_
  refine z_iload X dX9_fact_35 (j := 0) rfl ?_
  refine z_reti X (as := [.ref b, .int (nI (rw3 P a1 a2 a3_))]) (wc := []) (wr := [(b, .inr (4, [.int (nI P), .ref ar, .int (nI M), .int (nI V), .ref ah, .ref ak])), (ar, .inl (cy 0, 25, .inl (nA x))), (ah, .inl (cy 0, 24, .inl (nA hv))), (ak, .inl (cy 0, 3, .inl (nA kv)))]) (rest := []) (fun H9 locs9 ls9 hP9 hS9 hl9 hb9 hp9 => va_runV (As := [.int (nI (rw3 P a1 a2 a3_))]) (rest := []) X.fix (m_has l D cy (fun q => O q ∨ q ∈ ([(b, .inr (4, [.int (nI P), .ref ar, .int (nI M), .int (nI V), .ref ah, .ref ak])), (ar, .inl (cy 0, 25, .inl (nA x))), (ah, .inl (cy 0, 24, .inl (nA hv))), (ak, .inl (cy 0, 3, .inl (nA kv)))] : va_W)) (Or.inr (List.mem_of_getElem? (i := 0) rfl)) (Or.inr (List.mem_of_getElem? (i := 1) rfl)) (show M ≤ 25 by omega) (f := nA x) (fun _ _ => rfl) (fun j hj => hx j (by omega)) hv9 H9.size) (cwV 1 X.hts (gV ml_X9_88 im_X4_has se_X4_has ni_X4 cd_X4_has) rfl rfl rfl (by decide +kernel) ⟨Nat.le_of_ble_eq_true rfl, Nat.le_of_ble_eq_true rfl⟩) ⟨hb9, z_recvW X (q0 := 0) (ci := 4) (r := (RX4, TX4, 6)) rfl rfl hP9, hp9⟩ rfl rfl hl9.1 rfl (lv_room (Nat.le_of_ble_eq_true rfl)) dX9_fact_37 ⟨Nat.le_of_ble_eq_true rfl, Nat.le_of_ble_eq_true rfl⟩) [] [0, 1, 2, 3] rfl rfl rfl rfl rfl (by decide) (fun q h => h) (fun r10 w11 h12 => ?_)
  obtain ⟨rfl, rfl⟩ := h12
  rw [if_neg hold]
  refine z_eq (ws' := [(b, .inr (4, [.int (nI P), .ref ar, .int (nI M), .int (nI V), .ref ah, .ref ak])), (ar, .inl (cy 0, 25, .inl (nA x))), (ah, .inl (cy 0, 24, .inl (nA hv))), (ak, .inl (cy 0, 3, .inl (nA kv)))]) (lv' := [(6, .int (nI (rw3 P a1 a2 a3_))), (5, .ref b), (0, .ref a), (1, .int (nI i)), (2, .int (nI a1)), (3, .int (nI a2)), (4, .int (nI a3_))]) (st' := [.int 0]) rfl rfl rfl ?_
  refine z_widen (k' := 0) (n' := 0) (Nat.le_refl _) (Nat.le_refl _) ?_
  refine z_if_ne X (tgt := 70) dX9_fact_40 (by decide) (fun c9 => absurd rfl c9) (fun c_40 => ?_)
  refine z_aload X dX9_fact_43 (j := 1) rfl ?_
  refine z_getW X 0 (C := RX4) (T := TX4) (N := 6) inX4 rfl rfl 2 (by decide) fl_X9_92 (fun _ h9 => h9) rfl dX9_fact_45 ?_
  refine z_bipush X (v := 24) dX9_fact_48 (by decide) ?_
  refine z_icmp_lt X (tgt := 63) dX9_fact_50 (by decide) (fun c_50 => ?_) (fun c9 => absurd (nI_lt (a := M) (b := 24) (by omega) (by decide)) c9)
  refine z_aload X dX9_fact_63 (j := 1) rfl ?_
  refine z_iload X dX9_fact_65 (j := 0) rfl ?_
  refine z_retv X (as := [.ref b, .int (nI (rw3 P a1 a2 a3_))]) (wc := [(b, .inr (4, [.int (nI P), .ref ar, .int (nI M), .int (nI V), .ref ah, .ref ak])), (ar, .inl (cy 0, 25, .inl (nA x))), (ah, .inl (cy 0, 24, .inl (nA hv))), (ak, .inl (cy 0, 3, .inl (nA kv)))]) (wr := []) (rest := []) (fun H9 locs9 ls9 hP9 hS9 hl9 hb9 hp9 => va_runV (As := [.int (nI (rw3 P a1 a2 a3_))]) (rest := []) X.fix (m_toggle l D cy O hP hP3 (show M ≤ 24 by omega) hx hv9 (fun hlt z => hold ⟨hlt, z⟩) H9.size) (cwV 1 X.hts (gV ml_X9_97 im_X4_toggle se_X4_toggle ni_X4 cd_X4_toggle) rfl rfl rfl (by decide +kernel) ⟨Nat.le_of_ble_eq_true rfl, Nat.le_of_ble_eq_true rfl⟩) ⟨hb9, z_recvW X (q0 := 0) (ci := 4) (r := (RX4, TX4, 6)) rfl rfl hP9, hp9⟩ rfl rfl hl9.1 rfl (lv_room (Nat.le_of_ble_eq_true rfl)) dX9_fact_67 ⟨Nat.le_of_ble_eq_true rfl, Nat.le_of_ble_eq_true rfl⟩) [0, 1, 2, 3] [] rfl rfl rfl rfl rfl (by decide) (fun _ h => Or.inl h) (fun w14 h15 => ?_)
  subst h15
  refine z_eq (ws' := [(ar, .inl (cy 0, 25, .inl (nA (ins x M (ft (fun i => decide (rw3 P a1 a2 a3_ ≤ x i)) M) (rw3 P a1 a2 a3_))))), (b, .inr (4, [.int (nI P), .ref ar, .int (nI (M + 1)), .int (nI (mkf P (ins x M (ft (fun i => decide (rw3 P a1 a2 a3_ ≤ x i)) M) (rw3 P a1 a2 a3_)) (0, zf hv 24, zf kv 3) (M + 1)).1), .ref ah, .ref ak])), (ah, .inl (cy 0, 24, .inl (nA (mkf P (ins x M (ft (fun i => decide (rw3 P a1 a2 a3_ ≤ x i)) M) (rw3 P a1 a2 a3_)) (0, zf hv 24, zf kv 3) (M + 1)).2.1))), (ak, .inl (cy 0, 3, .inl (nA (mkf P (ins x M (ft (fun i => decide (rw3 P a1 a2 a3_ ≤ x i)) M) (rw3 P a1 a2 a3_)) (0, zf hv 24, zf kv 3) (M + 1)).2.2)))]) (lv' := [(6, .int (nI (rw3 P a1 a2 a3_))), (5, .ref b), (0, .ref a), (1, .int (nI i)), (2, .int (nI a1)), (3, .int (nI a2)), (4, .int (nI a3_))]) (st' := []) rfl rfl rfl ?_
  refine z_widen (k' := 0) (n' := 0) (Nat.le_refl _) (Nat.le_refl _) ?_
  refine z_aload X dX9_fact_70 (j := 1) rfl ?_
  refine z_getW X 1 (C := RX4) (T := TX4) (N := 6) inX4 rfl rfl 2 (by decide) fl_X9_92 (fun _ h9 => h9) rfl dX9_fact_72 ?_
  exact z_endi X hr [(ar, .inl (cy 0, 25, .inl (nA (ins x M (ft (fun i => decide (rw3 P a1 a2 a3_ ≤ x i)) M) (rw3 P a1 a2 a3_))))), (b, .inr (4, [.int (nI P), .ref ar, .int (nI (M + 1)), .int (nI (mkf P (ins x M (ft (fun i => decide (rw3 P a1 a2 a3_ ≤ x i)) M) (rw3 P a1 a2 a3_)) (0, zf hv 24, zf kv 3) (M + 1)).1), .ref ah, .ref ak])), (ah, .inl (cy 0, 24, .inl (nA (mkf P (ins x M (ft (fun i => decide (rw3 P a1 a2 a3_ ≤ x i)) M) (rw3 P a1 a2 a3_)) (0, zf hv 24, zf kv 3) (M + 1)).2.1))), (ak, .inl (cy 0, 3, .inl (nA (mkf P (ins x M (ft (fun i => decide (rw3 P a1 a2 a3_ ≤ x i)) M) (rw3 P a1 a2 a3_)) (0, zf hv 24, zf kv 3) (M + 1)).2.2)))] [0, 1, 2, 3] rfl rfl rfl ⟨rfl, rfl⟩ dX9_fact_75
