/-! the class's constructors, with their cells in sight -/
def v01 : Nat → Option Nat := fun v => if v < 2 then none else some 0
theorem VOk_01 : VOk v01 := ⟨⟨rfl, rfl⟩, fun v h1 h2 => ⟨0, if_neg (by omega), by decide⟩⟩
def no8 : Nat → Bool := fun _ => false
theorem vA_01 : upd (upd (upd (upd (upd (upd (fun _ => 0) 0 (-1)) 1 (-1)) 2 0) 3 0) 4 0) 5 0 = vA v01 := funext fun u => by
  match u with
  | 0 => rfl
  | 1 => rfl
  | 2 => rfl
  | 3 => rfl
  | 4 => rfl
  | 5 => rfl
  | u + 6 => simp [upd, vA, v01, oI]; rfl
theorem zB_no : (fun _ => 0) = zB no8 := rfl
set_option maxHeartbeats 4000000 in
set_option maxRecDepth 100000 in
/-- RowSet() -/
theorem m_RowSetC (l : Launch) (D : va_G) (cy : Nat → ClassId) (O : Nat × va_E → Prop) {h0 : Nat} : Cv l yX5_init (.code yX5_init cX5_init 1 none :: WALL) ({ frames := 1, cells := 1, slots := 512, locals := 13 }) D cy O [.ref h0] [(h0, .inr (5, [.null, .int 0]))] 1 512 (fun (w : va_W) => ∃ r5 : Nat, w = [(h0, .inr (5, [.ref r5, .int 0])), (r5, .inl (cy 1, 512, .inl (zB no8)))]) := by
  refine z_metv (by decide) rfl rfl (Nat.le_of_ble_eq_true rfl) ?_
  intro p e s m args below meth c X hr hin
  refine z_eq (ws' := [(h0, .inr (5, [.null, .int 0]))]) (lv' := [(0, .ref h0)]) (st' := []) rfl rfl rfl ?_
  refine z_aload_n X dX5_init_0 rfl (j := 0) rfl ?_
  refine z_objInit X ml_X5_3 im_obj cd_obj (Nat.le_of_ble_eq_true rfl) (Nat.le_of_ble_eq_true rfl) dX5_init_1 ?_
  refine z_aload_n X dX5_init_4 rfl (j := 0) rfl ?_
  refine z_sipush X (v := 512) dX5_init_5 (by decide) ?_
  refine z_newaZ X (N := 512) ac_boolean (by decide) (by decide) (Nat.le_of_ble_eq_true rfl) (Nat.le_of_ble_eq_true rfl) (Nat.le_of_ble_eq_true rfl) dX5_init_8 (fun r5 => ?_)
  refine z_eq (ws' := [(h0, .inr (5, [.null, .int 0])), (r5, .inl (cy 1, 512, .inl (fun _ => 0)))]) (lv' := [(0, .ref h0)]) (st' := [.ref r5, .ref h0]) rfl rfl rfl ?_
  refine z_widen (k' := 1) (n' := 512) (Nat.le_of_ble_eq_true rfl) (Nat.le_of_ble_eq_true rfl) ?_
  refine z_putF X 0 (C := RX5) (T := TX5) (N := 2) inX5 tyX5 tyX5_ok nmX5 rfl rfl 0 (by decide) fl_X5_9 (fun _ h9 => h9) rfl hin rfl (ty := (.array .boolean)) (by decide +kernel) rfl rfl (Nat.le_of_ble_eq_true rfl) (ws' := [(h0, .inr (5, [.ref r5, .int 0])), (r5, .inl (cy 1, 512, .inl (fun _ => 0)))]) rfl dX5_init_10 ?_
  refine z_aload_n X dX5_init_13 rfl (j := 0) rfl ?_
  refine z_iconst X (v := 0) dX5_init_14 (by decide) ?_
  refine z_putW X 0 (C := RX5) (T := TX5) (N := 2) inX5 tyX5 tyX5_ok nmX5 rfl rfl 1 (by decide) fl_X5_15 (fun _ h9 => h9) rfl (ty := .int) (by decide +kernel) rfl rfl (Nat.le_of_ble_eq_true rfl) (ws' := [(h0, .inr (5, [.ref r5, .int 0])), (r5, .inl (cy 1, 512, .inl (fun _ => 0)))]) rfl dX5_init_15 ?_
  exact z_endv X hr [(h0, .inr (5, [.ref r5, .int 0])), (r5, .inl (cy 1, 512, .inl (zB no8)))] [0, 1] rfl rfl rfl ⟨_, rfl⟩ dX5_init_18
set_option maxHeartbeats 4000000 in
set_option maxRecDepth 100000 in
/-- MapSearch() -/
theorem m_MapSearchC (l : Launch) (D : va_G) (cy : Nat → ClassId) (O : Nat × va_E → Prop) {h0 : Nat} : Cv l yX3_init (.code yX3_init cX3_init 1 none :: WALL) ({ frames := 1, cells := 1, slots := 6, locals := 13 }) D cy O [.ref h0] [(h0, .inr (3, [.null, .int 0, .null, .int 0, .null, .int 0]))] 1 6 (fun (w : va_W) => ∃ im : Nat, w = [(h0, .inr (3, [.ref im, .int 0, .null, .int 0, .null, .int 0])), (im, .inl (cy 0, 6, .inl (fun _ => 0)))]) := by
  refine z_metv (by decide) rfl rfl (Nat.le_of_ble_eq_true rfl) ?_
  intro p e s m args below meth c X hr hin
  refine z_eq (ws' := [(h0, .inr (3, [.null, .int 0, .null, .int 0, .null, .int 0]))]) (lv' := [(0, .ref h0)]) (st' := []) rfl rfl rfl ?_
  refine z_aload_n X dX3_init_0 rfl (j := 0) rfl ?_
  refine z_objInit X ml_X3_3 im_obj cd_obj (Nat.le_of_ble_eq_true rfl) (Nat.le_of_ble_eq_true rfl) dX3_init_1 ?_
  refine z_aload_n X dX3_init_4 rfl (j := 0) rfl ?_
  refine z_bipush X (v := 6) dX3_init_5 (by decide) ?_
  refine z_newaI X (N := 6) ac_int (by decide) (by decide) (Nat.le_of_ble_eq_true rfl) (Nat.le_of_ble_eq_true rfl) (Nat.le_of_ble_eq_true rfl) dX3_init_7 (fun im => ?_)
  refine z_eq (ws' := [(h0, .inr (3, [.null, .int 0, .null, .int 0, .null, .int 0])), (im, .inl (cy 0, 6, .inl (fun _ => 0)))]) (lv' := [(0, .ref h0)]) (st' := [.ref im, .ref h0]) rfl rfl rfl ?_
  refine z_widen (k' := 1) (n' := 6) (Nat.le_of_ble_eq_true rfl) (Nat.le_of_ble_eq_true rfl) ?_
  refine z_putF X 0 (C := RX3) (T := TX3) (N := 6) inX3 tyX3 tyX3_ok nmX3 rfl rfl 0 (by decide) fl_X3_9 (fun _ h9 => h9) rfl hin rfl (ty := (.array .int)) (by decide +kernel) rfl rfl (Nat.le_of_ble_eq_true rfl) (ws' := [(h0, .inr (3, [.ref im, .int 0, .null, .int 0, .null, .int 0])), (im, .inl (cy 0, 6, .inl (fun _ => 0)))]) rfl dX3_init_9 ?_
  refine z_aload_n X dX3_init_12 rfl (j := 0) rfl ?_
  refine z_iconst X (v := 0) dX3_init_13 (by decide) ?_
  refine z_putW X 0 (C := RX3) (T := TX3) (N := 6) inX3 tyX3 tyX3_ok nmX3 rfl rfl 1 (by decide) fl_X3_15 (fun _ h9 => h9) rfl (ty := .int) (by decide +kernel) rfl rfl (Nat.le_of_ble_eq_true rfl) (ws' := [(h0, .inr (3, [.ref im, .int 0, .null, .int 0, .null, .int 0])), (im, .inl (cy 0, 6, .inl (fun _ => 0)))]) rfl dX3_init_14 ?_
  refine z_aload_n X dX3_init_17 rfl (j := 0) rfl ?_
  refine z_null X dX3_init_18 ?_
  refine z_putW X 0 (C := RX3) (T := TX3) (N := 6) inX3 tyX3 tyX3_ok nmX3 rfl rfl 2 (by decide) fl_X3_19 (fun _ h9 => h9) rfl (ty := (.object "Thimble$Rule")) (by decide +kernel) rfl rfl (Nat.le_of_ble_eq_true rfl) (ws' := [(h0, .inr (3, [.ref im, .int 0, .null, .int 0, .null, .int 0])), (im, .inl (cy 0, 6, .inl (fun _ => 0)))]) rfl dX3_init_19 ?_
  refine z_aload_n X dX3_init_22 rfl (j := 0) rfl ?_
  refine z_iconst X (v := 0) dX3_init_23 (by decide) ?_
  refine z_putW X 0 (C := RX3) (T := TX3) (N := 6) inX3 tyX3 tyX3_ok nmX3 rfl rfl 3 (by decide) fl_X3_23 (fun _ h9 => h9) rfl (ty := .int) (by decide +kernel) rfl rfl (Nat.le_of_ble_eq_true rfl) (ws' := [(h0, .inr (3, [.ref im, .int 0, .null, .int 0, .null, .int 0])), (im, .inl (cy 0, 6, .inl (fun _ => 0)))]) rfl dX3_init_24 ?_
  refine z_aload_n X dX3_init_27 rfl (j := 0) rfl ?_
  refine z_null X dX3_init_28 ?_
  refine z_putW X 0 (C := RX3) (T := TX3) (N := 6) inX3 tyX3 tyX3_ok nmX3 rfl rfl 4 (by decide) fl_X3_26 (fun _ h9 => h9) rfl (ty := (.object "Thimble$Rule")) (by decide +kernel) rfl rfl (Nat.le_of_ble_eq_true rfl) (ws' := [(h0, .inr (3, [.ref im, .int 0, .null, .int 0, .null, .int 0])), (im, .inl (cy 0, 6, .inl (fun _ => 0)))]) rfl dX3_init_29 ?_
  refine z_aload_n X dX3_init_32 rfl (j := 0) rfl ?_
  refine z_iconst X (v := 0) dX3_init_33 (by decide) ?_
  refine z_putW X 0 (C := RX3) (T := TX3) (N := 6) inX3 tyX3 tyX3_ok nmX3 rfl rfl 5 (by decide) fl_X3_29 (fun _ h9 => h9) rfl (ty := .int) (by decide +kernel) rfl rfl (Nat.le_of_ble_eq_true rfl) (ws' := [(h0, .inr (3, [.ref im, .int 0, .null, .int 0, .null, .int 0])), (im, .inl (cy 0, 6, .inl (fun _ => 0)))]) rfl dX3_init_34 ?_
  exact z_endv X hr [(h0, .inr (3, [.ref im, .int 0, .null, .int 0, .null, .int 0])), (im, .inl (cy 0, 6, .inl (fun _ => 0)))] [0, 1] rfl rfl rfl ⟨_, rfl⟩ dX3_init_37
set_option maxHeartbeats 4000000 in
set_option maxRecDepth 100000 in
/-- Lanes() -/
theorem m_LanesC (l : Launch) (D : va_G) (cy : Nat → ClassId) (O : Nat × va_E → Prop) {h0 : Nat} : Cv l yX2_init (.code yX2_init cX2_init 1 none :: WALL) ({ frames := 2, cells := 3, slots := 520, locals := 33 }) D cy O [.ref h0] [(h0, .inr (2, [.null, .null, .int 0]))] 3 520 (fun (w : va_W) => ∃ b5 r5 gv : Nat, w = [(h0, .inr (2, [.ref b5, .ref gv, .int 0])), (b5, .inr (5, [.ref r5, .int 0])), (r5, .inl (cy 1, 512, .inl (zB no8))), (gv, .inl (cy 0, 6, .inl (vA v01)))]) := by
  refine z_metv (by decide) rfl rfl (Nat.le_of_ble_eq_true rfl) ?_
  intro p e s m args below meth c X hr hin
  refine z_eq (ws' := [(h0, .inr (2, [.null, .null, .int 0]))]) (lv' := [(0, .ref h0)]) (st' := []) rfl rfl rfl ?_
  refine z_aload_n X dX2_init_0 rfl (j := 0) rfl ?_
  refine z_objInit X ml_X2_3 im_obj cd_obj (Nat.le_of_ble_eq_true rfl) (Nat.le_of_ble_eq_true rfl) dX2_init_1 ?_
  refine z_aload_n X dX2_init_4 rfl (j := 0) rfl ?_
  refine z_new X (ci := 5) (fs := [.null, .int 0]) (C := RX5) (T := TX5) (N := 2) inX5 tyX5 tyX5_ok cl_X2_9 it_X5 ni_X5 rfl (fun j hj => by rcases (show j = 0 ∨ j = 1 by omega) with rfl | rfl <;> rfl) (Nat.le_of_ble_eq_true rfl) (Nat.le_of_ble_eq_true rfl) dX2_init_5 (fun b5 => ?_)
  refine z_eq (ws' := [(h0, .inr (2, [.null, .null, .int 0])), (b5, .inr (5, [.null, .int 0]))]) (lv' := [(0, .ref h0)]) (st' := [.ref b5, .ref h0]) rfl rfl rfl ?_
  refine z_widen (k' := 1) (n' := 2) (Nat.le_of_ble_eq_true rfl) (Nat.le_of_ble_eq_true rfl) ?_
  refine z_dup X dX2_init_8 rfl ?_
  refine z_retv X (as := [.ref b5]) (wc := [(b5, .inr (5, [.null, .int 0]))]) (wr := [(h0, .inr (2, [.null, .null, .int 0]))]) (rest := [.ref b5, .ref h0]) (fun H9 locs9 ls9 hP9 hS9 hl9 hb9 hp9 => va_runIN (As := []) (rest := [.ref b5, .ref h0]) X.fix (m_RowSetC l D cy O H9.size) ⟨va_cnB 0 X.hts (gB cd_X5_init) rfl rfl rfl (X.nw.1 _ (List.mem_of_getElem? (i := 1) rfl)) (X.hts _ ni_X5) (by decide +kernel) ⟨Nat.le_of_ble_eq_true rfl, Nat.le_of_ble_eq_true rfl⟩, rfl, X.hts _ im_X5_init⟩ ⟨hb9, hp9⟩ rfl rfl hl9.1 rfl (lv_room (Nat.le_of_ble_eq_true rfl)) dX2_init_9 ⟨Nat.le_of_ble_eq_true rfl, Nat.le_of_ble_eq_true rfl⟩) [1] [0] rfl rfl rfl rfl rfl (by decide) (fun _ h => Or.inl h) (fun w2 h3 => ?_)
  obtain ⟨r5, rfl⟩ := h3
  refine z_eq (ws' := [(h0, .inr (2, [.null, .null, .int 0])), (b5, .inr (5, [.ref r5, .int 0])), (r5, .inl (cy 1, 512, .inl (zB no8)))]) (lv' := [(0, .ref h0)]) (st' := [.ref b5, .ref h0]) rfl rfl rfl ?_
  refine z_widen (k' := 2) (n' := 514) (Nat.le_of_ble_eq_true rfl) (Nat.le_of_ble_eq_true rfl) ?_
  refine z_putF X 0 (C := RX2) (T := TX2) (N := 3) inX2 tyX2 tyX2_ok nmX2 rfl rfl 0 (by decide) fl_X2_12 (fun _ h9 => h9) rfl hin rfl (ty := (.object "Thimble$RowSet")) (by decide +kernel) rfl rfl (Nat.le_of_ble_eq_true rfl) (ws' := [(h0, .inr (2, [.ref b5, .null, .int 0])), (b5, .inr (5, [.ref r5, .int 0])), (r5, .inl (cy 1, 512, .inl (zB no8)))]) rfl dX2_init_12 ?_
  refine z_aload_n X dX2_init_15 rfl (j := 0) rfl ?_
  refine z_bipush X (v := 6) dX2_init_16 (by decide) ?_
  refine z_newaI X (N := 6) ac_int (by decide) (by decide) (Nat.le_of_ble_eq_true rfl) (Nat.le_of_ble_eq_true rfl) (Nat.le_of_ble_eq_true rfl) dX2_init_18 (fun gv => ?_)
  refine z_eq (ws' := [(h0, .inr (2, [.ref b5, .null, .int 0])), (b5, .inr (5, [.ref r5, .int 0])), (r5, .inl (cy 1, 512, .inl (zB no8))), (gv, .inl (cy 0, 6, .inl (fun _ => 0)))]) (lv' := [(0, .ref h0)]) (st' := [.ref gv, .ref h0]) rfl rfl rfl ?_
  refine z_widen (k' := 3) (n' := 520) (Nat.le_of_ble_eq_true rfl) (Nat.le_of_ble_eq_true rfl) ?_
  refine z_dup X dX2_init_20 rfl ?_
  refine z_iconst X (v := 0) dX2_init_21 (by decide) ?_
  refine z_iconst X (v := (-1)) dX2_init_22 (by decide) ?_
  refine z_iastW X 3 rfl (by unfold vp_in; decide) (ws' := [(h0, .inr (2, [.ref b5, .null, .int 0])), (b5, .inr (5, [.ref r5, .int 0])), (r5, .inl (cy 1, 512, .inl (zB no8))), (gv, .inl (cy 0, 6, .inl (upd (fun _ => 0) 0 (-1))))]) rfl dX2_init_23 ?_
  refine z_dup X dX2_init_24 rfl ?_
  refine z_iconst X (v := 1) dX2_init_25 (by decide) ?_
  refine z_iconst X (v := (-1)) dX2_init_26 (by decide) ?_
  refine z_iastW X 3 rfl (by unfold vp_in; decide) (ws' := [(h0, .inr (2, [.ref b5, .null, .int 0])), (b5, .inr (5, [.ref r5, .int 0])), (r5, .inl (cy 1, 512, .inl (zB no8))), (gv, .inl (cy 0, 6, .inl (upd (upd (fun _ => 0) 0 (-1)) 1 (-1))))]) rfl dX2_init_27 ?_
  refine z_dup X dX2_init_28 rfl ?_
  refine z_iconst X (v := 2) dX2_init_29 (by decide) ?_
  refine z_iconst X (v := 0) dX2_init_30 (by decide) ?_
  refine z_iastW X 3 rfl (by unfold vp_in; decide) (ws' := [(h0, .inr (2, [.ref b5, .null, .int 0])), (b5, .inr (5, [.ref r5, .int 0])), (r5, .inl (cy 1, 512, .inl (zB no8))), (gv, .inl (cy 0, 6, .inl (upd (upd (upd (fun _ => 0) 0 (-1)) 1 (-1)) 2 0)))]) rfl dX2_init_31 ?_
  refine z_dup X dX2_init_32 rfl ?_
  refine z_iconst X (v := 3) dX2_init_33 (by decide) ?_
  refine z_iconst X (v := 0) dX2_init_34 (by decide) ?_
  refine z_iastW X 3 rfl (by unfold vp_in; decide) (ws' := [(h0, .inr (2, [.ref b5, .null, .int 0])), (b5, .inr (5, [.ref r5, .int 0])), (r5, .inl (cy 1, 512, .inl (zB no8))), (gv, .inl (cy 0, 6, .inl (upd (upd (upd (upd (fun _ => 0) 0 (-1)) 1 (-1)) 2 0) 3 0)))]) rfl dX2_init_35 ?_
  refine z_dup X dX2_init_36 rfl ?_
  refine z_iconst X (v := 4) dX2_init_37 (by decide) ?_
  refine z_iconst X (v := 0) dX2_init_38 (by decide) ?_
  refine z_iastW X 3 rfl (by unfold vp_in; decide) (ws' := [(h0, .inr (2, [.ref b5, .null, .int 0])), (b5, .inr (5, [.ref r5, .int 0])), (r5, .inl (cy 1, 512, .inl (zB no8))), (gv, .inl (cy 0, 6, .inl (upd (upd (upd (upd (upd (fun _ => 0) 0 (-1)) 1 (-1)) 2 0) 3 0) 4 0)))]) rfl dX2_init_39 ?_
  refine z_dup X dX2_init_40 rfl ?_
  refine z_iconst X (v := 5) dX2_init_41 (by decide) ?_
  refine z_iconst X (v := 0) dX2_init_42 (by decide) ?_
  refine z_iastW X 3 rfl (by unfold vp_in; decide) (ws' := [(h0, .inr (2, [.ref b5, .null, .int 0])), (b5, .inr (5, [.ref r5, .int 0])), (r5, .inl (cy 1, 512, .inl (zB no8))), (gv, .inl (cy 0, 6, .inl (vA v01)))]) (by rw [← vA_01]; rfl) dX2_init_43 ?_
  refine z_putF X 0 (C := RX2) (T := TX2) (N := 3) inX2 tyX2 tyX2_ok nmX2 rfl rfl 1 (by decide) fl_X2_18 (fun _ h9 => h9) rfl hin rfl (ty := (.array .int)) (by decide +kernel) rfl rfl (Nat.le_of_ble_eq_true rfl) (ws' := [(h0, .inr (2, [.ref b5, .ref gv, .int 0])), (b5, .inr (5, [.ref r5, .int 0])), (r5, .inl (cy 1, 512, .inl (zB no8))), (gv, .inl (cy 0, 6, .inl (vA v01)))]) rfl dX2_init_44 ?_
  refine z_aload_n X dX2_init_47 rfl (j := 0) rfl ?_
  refine z_iconst X (v := 0) dX2_init_48 (by decide) ?_
  refine z_putW X 0 (C := RX2) (T := TX2) (N := 3) inX2 tyX2 tyX2_ok nmX2 rfl rfl 2 (by decide) fl_X2_22 (fun _ h9 => h9) rfl (ty := .int) (by decide +kernel) rfl rfl (Nat.le_of_ble_eq_true rfl) (ws' := [(h0, .inr (2, [.ref b5, .ref gv, .int 0])), (b5, .inr (5, [.ref r5, .int 0])), (r5, .inl (cy 1, 512, .inl (zB no8))), (gv, .inl (cy 0, 6, .inl (vA v01)))]) rfl dX2_init_49 ?_
  exact z_endv X hr [(h0, .inr (2, [.ref b5, .ref gv, .int 0])), (b5, .inr (5, [.ref r5, .int 0])), (r5, .inl (cy 1, 512, .inl (zB no8))), (gv, .inl (cy 0, 6, .inl (vA v01)))] [0, 1, 2, 3] rfl rfl rfl ⟨_, _, _, rfl⟩ dX2_init_52
theorem vA_no6 : ∀ u, u < 6 → upd (upd (upd (upd (upd (upd (fun _ => 0) 0 (-1)) 1 (-1)) 2 (-1)) 3 (-1)) 4 (-1)) 5 (-1) u = vA (fun _ => none) u := fun u hu => by
  have : u = 0 ∨ u = 1 ∨ u = 2 ∨ u = 3 ∨ u = 4 ∨ u = 5 := by omega
  rcases this with rfl | rfl | rfl | rfl | rfl | rfl <;> rfl
section CALC6
variable {D : va_G} {cy : Nat → ClassId} {O : Nat × va_E → Prop} {A : Nat → Prop} {cc : ByteArray} {nL : Nat} {own : String} {p : Program} {l : Launch} {e : Env} {R : Room} {s : State} {m : MethodId} {args : Array Value} {below : List Frame} {meth : Method} {c : Code} {Q : State → Prop} {ws ws' : va_W} {lv : List (Nat × Value)} {k n pc : Nat} {st : List Value}
theorem arr_same {cA : ClassId} {N : Nat} {f f' : Nat → Int32} (h : ∀ u, u < N → f u = f' u) : vp_cell cA (N, .inl f) = vp_cell cA (N, .inl f') := by
  rw [vp_cell_i, vp_cell_i]
  unfold arrV
  congr 1
  apply Array.ext
  · simp
  · intro i h1 h2
    simp only [Array.getElem_ofFn]
    rw [h i (by simpa using h1)]
/-- a row's numbers count in it alone -/
theorem z_same6 (q0 : Nat) {a N : Nat} {f f' : Nat → Int32} {t : Nat} (he : ws[q0]? = some (a, .inl (cy t, N, .inl f))) (h : ∀ u, u < N → f u = f' u) (hws : ws.set q0 (a, .inl (cy t, N, .inl f')) = ws') (kk : Zz D A nL p l e R s m args below meth c Q ws' lv k n pc st) : Zz D A nL p l e R s m args below meth c Q ws lv k n pc st := by
  intro H locs ls hP hD hS hl
  subst hws
  refine kk H locs ls (hP.set hD he ?_ (fun _ _ => rfl)) (hD.set he) hS hl
  have h1 : H[a]? = some (vp_cell (cy t) (N, .inl f)) := hP q0 _ he
  show H[a]? = some (vp_cell (cy t) (N, .inl f'))
  rw [h1, arr_same h]
end CALC6
set_option maxHeartbeats 4000000 in
set_option maxRecDepth 100000 in
/-- Walk() -/
theorem m_WalkC (l : Launch) (D : va_G) (cy : Nat → ClassId) (O : Nat × va_E → Prop) {h0 : Nat} : Cv l yX8_init (.code yX8_init cX8_init 1 none :: WALL) ({ frames := 2, cells := 5, slots := 530, locals := 33 }) D cy O [.ref h0] [(h0, .inr (8, [.null, .null, .null, .null, .null, .int 0, .int 0]))] 5 530 (fun (w : va_W) => ∃ od sz b6 r6 gw : Nat, w = [(h0, .inr (8, [.ref od, .ref sz, .ref b6, .ref gw, .null, .int 0, .int 0])), (od, .inl (cy 0, 5, .inl (fun _ => 0))), (sz, .inl (cy 0, 5, .inl (fun _ => 0))), (b6, .inr (5, [.ref r6, .int 0])), (r6, .inl (cy 1, 512, .inl (zB no8))), (gw, .inl (cy 0, 6, .inl (vA (fun _ => none))))]) := by
  refine z_metv (by decide) rfl rfl (Nat.le_of_ble_eq_true rfl) ?_
  intro p e s m args below meth c X hr hin
  refine z_eq (ws' := [(h0, .inr (8, [.null, .null, .null, .null, .null, .int 0, .int 0]))]) (lv' := [(0, .ref h0)]) (st' := []) rfl rfl rfl ?_
  refine z_aload_n X dX8_init_0 rfl (j := 0) rfl ?_
  refine z_objInit X ml_X8_3 im_obj cd_obj (Nat.le_of_ble_eq_true rfl) (Nat.le_of_ble_eq_true rfl) dX8_init_1 ?_
  refine z_aload_n X dX8_init_4 rfl (j := 0) rfl ?_
  refine z_iconst X (v := 5) dX8_init_5 (by decide) ?_
  refine z_newaI X (N := 5) ac_int (by decide) (by decide) (Nat.le_of_ble_eq_true rfl) (Nat.le_of_ble_eq_true rfl) (Nat.le_of_ble_eq_true rfl) dX8_init_6 (fun od => ?_)
  refine z_eq (ws' := [(h0, .inr (8, [.null, .null, .null, .null, .null, .int 0, .int 0])), (od, .inl (cy 0, 5, .inl (fun _ => 0)))]) (lv' := [(0, .ref h0)]) (st' := [.ref od, .ref h0]) rfl rfl rfl ?_
  refine z_widen (k' := 1) (n' := 5) (Nat.le_of_ble_eq_true rfl) (Nat.le_of_ble_eq_true rfl) ?_
  refine z_putF X 0 (C := RX8) (T := TX8) (N := 7) inX8 tyX8 tyX8_ok nmX8 rfl rfl 0 (by decide) fl_X8_9 (fun _ h9 => h9) rfl hin rfl (ty := (.array .int)) (by decide +kernel) rfl rfl (Nat.le_of_ble_eq_true rfl) (ws' := [(h0, .inr (8, [.ref od, .null, .null, .null, .null, .int 0, .int 0])), (od, .inl (cy 0, 5, .inl (fun _ => 0)))]) rfl dX8_init_8 ?_
  refine z_aload_n X dX8_init_11 rfl (j := 0) rfl ?_
  refine z_iconst X (v := 5) dX8_init_12 (by decide) ?_
  refine z_newaI X (N := 5) ac_int (by decide) (by decide) (Nat.le_of_ble_eq_true rfl) (Nat.le_of_ble_eq_true rfl) (Nat.le_of_ble_eq_true rfl) dX8_init_13 (fun sz => ?_)
  refine z_eq (ws' := [(h0, .inr (8, [.ref od, .null, .null, .null, .null, .int 0, .int 0])), (od, .inl (cy 0, 5, .inl (fun _ => 0))), (sz, .inl (cy 0, 5, .inl (fun _ => 0)))]) (lv' := [(0, .ref h0)]) (st' := [.ref sz, .ref h0]) rfl rfl rfl ?_
  refine z_widen (k' := 2) (n' := 10) (Nat.le_of_ble_eq_true rfl) (Nat.le_of_ble_eq_true rfl) ?_
  refine z_putF X 0 (C := RX8) (T := TX8) (N := 7) inX8 tyX8 tyX8_ok nmX8 rfl rfl 1 (by decide) fl_X8_15 (fun _ h9 => h9) rfl hin rfl (ty := (.array .int)) (by decide +kernel) rfl rfl (Nat.le_of_ble_eq_true rfl) (ws' := [(h0, .inr (8, [.ref od, .ref sz, .null, .null, .null, .int 0, .int 0])), (od, .inl (cy 0, 5, .inl (fun _ => 0))), (sz, .inl (cy 0, 5, .inl (fun _ => 0)))]) rfl dX8_init_15 ?_
  refine z_aload_n X dX8_init_18 rfl (j := 0) rfl ?_
  refine z_new X (ci := 5) (fs := [.null, .int 0]) (C := RX5) (T := TX5) (N := 2) inX5 tyX5 tyX5_ok cl_X8_18 it_X5 ni_X5 rfl (fun j hj => by rcases (show j = 0 ∨ j = 1 by omega) with rfl | rfl <;> rfl) (Nat.le_of_ble_eq_true rfl) (Nat.le_of_ble_eq_true rfl) dX8_init_19 (fun b6 => ?_)
  refine z_eq (ws' := [(h0, .inr (8, [.ref od, .ref sz, .null, .null, .null, .int 0, .int 0])), (od, .inl (cy 0, 5, .inl (fun _ => 0))), (sz, .inl (cy 0, 5, .inl (fun _ => 0))), (b6, .inr (5, [.null, .int 0]))]) (lv' := [(0, .ref h0)]) (st' := [.ref b6, .ref h0]) rfl rfl rfl ?_
  refine z_widen (k' := 3) (n' := 12) (Nat.le_of_ble_eq_true rfl) (Nat.le_of_ble_eq_true rfl) ?_
  refine z_dup X dX8_init_22 rfl ?_
  refine z_retv X (as := [.ref b6]) (wc := [(b6, .inr (5, [.null, .int 0]))]) (wr := [(h0, .inr (8, [.ref od, .ref sz, .null, .null, .null, .int 0, .int 0])), (od, .inl (cy 0, 5, .inl (fun _ => 0))), (sz, .inl (cy 0, 5, .inl (fun _ => 0)))]) (rest := [.ref b6, .ref h0]) (fun H9 locs9 ls9 hP9 hS9 hl9 hb9 hp9 => va_runIN (As := []) (rest := [.ref b6, .ref h0]) X.fix (m_RowSetC l D cy O H9.size) ⟨va_cnB 0 X.hts (gB cd_X5_init) rfl rfl rfl (X.nw.1 _ (List.mem_of_getElem? (i := 3) rfl)) (X.hts _ ni_X5) (by decide +kernel) ⟨Nat.le_of_ble_eq_true rfl, Nat.le_of_ble_eq_true rfl⟩, rfl, X.hts _ im_X5_init⟩ ⟨hb9, hp9⟩ rfl rfl hl9.1 rfl (lv_room (Nat.le_of_ble_eq_true rfl)) dX8_init_23 ⟨Nat.le_of_ble_eq_true rfl, Nat.le_of_ble_eq_true rfl⟩) [3] [0, 1, 2] rfl rfl rfl rfl rfl (by decide) (fun _ h => Or.inl h) (fun w2 h3 => ?_)
  obtain ⟨r6, rfl⟩ := h3
  refine z_eq (ws' := [(h0, .inr (8, [.ref od, .ref sz, .null, .null, .null, .int 0, .int 0])), (od, .inl (cy 0, 5, .inl (fun _ => 0))), (sz, .inl (cy 0, 5, .inl (fun _ => 0))), (b6, .inr (5, [.ref r6, .int 0])), (r6, .inl (cy 1, 512, .inl (zB no8)))]) (lv' := [(0, .ref h0)]) (st' := [.ref b6, .ref h0]) rfl rfl rfl ?_
  refine z_widen (k' := 4) (n' := 524) (Nat.le_of_ble_eq_true rfl) (Nat.le_of_ble_eq_true rfl) ?_
  refine z_putF X 0 (C := RX8) (T := TX8) (N := 7) inX8 tyX8 tyX8_ok nmX8 rfl rfl 2 (by decide) fl_X8_21 (fun _ h9 => h9) rfl hin rfl (ty := (.object "Thimble$RowSet")) (by decide +kernel) rfl rfl (Nat.le_of_ble_eq_true rfl) (ws' := [(h0, .inr (8, [.ref od, .ref sz, .ref b6, .null, .null, .int 0, .int 0])), (od, .inl (cy 0, 5, .inl (fun _ => 0))), (sz, .inl (cy 0, 5, .inl (fun _ => 0))), (b6, .inr (5, [.ref r6, .int 0])), (r6, .inl (cy 1, 512, .inl (zB no8)))]) rfl dX8_init_26 ?_
  refine z_aload_n X dX8_init_29 rfl (j := 0) rfl ?_
  refine z_bipush X (v := 6) dX8_init_30 (by decide) ?_
  refine z_newaI X (N := 6) ac_int (by decide) (by decide) (Nat.le_of_ble_eq_true rfl) (Nat.le_of_ble_eq_true rfl) (Nat.le_of_ble_eq_true rfl) dX8_init_32 (fun gw => ?_)
  refine z_eq (ws' := [(h0, .inr (8, [.ref od, .ref sz, .ref b6, .null, .null, .int 0, .int 0])), (od, .inl (cy 0, 5, .inl (fun _ => 0))), (sz, .inl (cy 0, 5, .inl (fun _ => 0))), (b6, .inr (5, [.ref r6, .int 0])), (r6, .inl (cy 1, 512, .inl (zB no8))), (gw, .inl (cy 0, 6, .inl (fun _ => 0)))]) (lv' := [(0, .ref h0)]) (st' := [.ref gw, .ref h0]) rfl rfl rfl ?_
  refine z_widen (k' := 5) (n' := 530) (Nat.le_of_ble_eq_true rfl) (Nat.le_of_ble_eq_true rfl) ?_
  refine z_dup X dX8_init_34 rfl ?_
  refine z_iconst X (v := 0) dX8_init_35 (by decide) ?_
  refine z_iconst X (v := (-1)) dX8_init_36 (by decide) ?_
  refine z_iastW X 5 rfl (by unfold vp_in; decide) (ws' := [(h0, .inr (8, [.ref od, .ref sz, .ref b6, .null, .null, .int 0, .int 0])), (od, .inl (cy 0, 5, .inl (fun _ => 0))), (sz, .inl (cy 0, 5, .inl (fun _ => 0))), (b6, .inr (5, [.ref r6, .int 0])), (r6, .inl (cy 1, 512, .inl (zB no8))), (gw, .inl (cy 0, 6, .inl (upd (fun _ => 0) 0 (-1))))]) rfl dX8_init_37 ?_
  refine z_dup X dX8_init_38 rfl ?_
  refine z_iconst X (v := 1) dX8_init_39 (by decide) ?_
  refine z_iconst X (v := (-1)) dX8_init_40 (by decide) ?_
  refine z_iastW X 5 rfl (by unfold vp_in; decide) (ws' := [(h0, .inr (8, [.ref od, .ref sz, .ref b6, .null, .null, .int 0, .int 0])), (od, .inl (cy 0, 5, .inl (fun _ => 0))), (sz, .inl (cy 0, 5, .inl (fun _ => 0))), (b6, .inr (5, [.ref r6, .int 0])), (r6, .inl (cy 1, 512, .inl (zB no8))), (gw, .inl (cy 0, 6, .inl (upd (upd (fun _ => 0) 0 (-1)) 1 (-1))))]) rfl dX8_init_41 ?_
  refine z_dup X dX8_init_42 rfl ?_
  refine z_iconst X (v := 2) dX8_init_43 (by decide) ?_
  refine z_iconst X (v := (-1)) dX8_init_44 (by decide) ?_
  refine z_iastW X 5 rfl (by unfold vp_in; decide) (ws' := [(h0, .inr (8, [.ref od, .ref sz, .ref b6, .null, .null, .int 0, .int 0])), (od, .inl (cy 0, 5, .inl (fun _ => 0))), (sz, .inl (cy 0, 5, .inl (fun _ => 0))), (b6, .inr (5, [.ref r6, .int 0])), (r6, .inl (cy 1, 512, .inl (zB no8))), (gw, .inl (cy 0, 6, .inl (upd (upd (upd (fun _ => 0) 0 (-1)) 1 (-1)) 2 (-1))))]) rfl dX8_init_45 ?_
  refine z_dup X dX8_init_46 rfl ?_
  refine z_iconst X (v := 3) dX8_init_47 (by decide) ?_
  refine z_iconst X (v := (-1)) dX8_init_48 (by decide) ?_
  refine z_iastW X 5 rfl (by unfold vp_in; decide) (ws' := [(h0, .inr (8, [.ref od, .ref sz, .ref b6, .null, .null, .int 0, .int 0])), (od, .inl (cy 0, 5, .inl (fun _ => 0))), (sz, .inl (cy 0, 5, .inl (fun _ => 0))), (b6, .inr (5, [.ref r6, .int 0])), (r6, .inl (cy 1, 512, .inl (zB no8))), (gw, .inl (cy 0, 6, .inl (upd (upd (upd (upd (fun _ => 0) 0 (-1)) 1 (-1)) 2 (-1)) 3 (-1))))]) rfl dX8_init_49 ?_
  refine z_dup X dX8_init_50 rfl ?_
  refine z_iconst X (v := 4) dX8_init_51 (by decide) ?_
  refine z_iconst X (v := (-1)) dX8_init_52 (by decide) ?_
  refine z_iastW X 5 rfl (by unfold vp_in; decide) (ws' := [(h0, .inr (8, [.ref od, .ref sz, .ref b6, .null, .null, .int 0, .int 0])), (od, .inl (cy 0, 5, .inl (fun _ => 0))), (sz, .inl (cy 0, 5, .inl (fun _ => 0))), (b6, .inr (5, [.ref r6, .int 0])), (r6, .inl (cy 1, 512, .inl (zB no8))), (gw, .inl (cy 0, 6, .inl (upd (upd (upd (upd (upd (fun _ => 0) 0 (-1)) 1 (-1)) 2 (-1)) 3 (-1)) 4 (-1))))]) rfl dX8_init_53 ?_
  refine z_dup X dX8_init_54 rfl ?_
  refine z_iconst X (v := 5) dX8_init_55 (by decide) ?_
  refine z_iconst X (v := (-1)) dX8_init_56 (by decide) ?_
  refine z_iastW X 5 rfl (by unfold vp_in; decide) (ws' := [(h0, .inr (8, [.ref od, .ref sz, .ref b6, .null, .null, .int 0, .int 0])), (od, .inl (cy 0, 5, .inl (fun _ => 0))), (sz, .inl (cy 0, 5, .inl (fun _ => 0))), (b6, .inr (5, [.ref r6, .int 0])), (r6, .inl (cy 1, 512, .inl (zB no8))), (gw, .inl (cy 0, 6, .inl (upd (upd (upd (upd (upd (upd (fun _ => 0) 0 (-1)) 1 (-1)) 2 (-1)) 3 (-1)) 4 (-1)) 5 (-1))))]) rfl dX8_init_57 ?_
  refine z_putF X 0 (C := RX8) (T := TX8) (N := 7) inX8 tyX8 tyX8_ok nmX8 rfl rfl 3 (by decide) fl_X8_25 (fun _ h9 => h9) rfl hin rfl (ty := (.array .int)) (by decide +kernel) rfl rfl (Nat.le_of_ble_eq_true rfl) (ws' := [(h0, .inr (8, [.ref od, .ref sz, .ref b6, .ref gw, .null, .int 0, .int 0])), (od, .inl (cy 0, 5, .inl (fun _ => 0))), (sz, .inl (cy 0, 5, .inl (fun _ => 0))), (b6, .inr (5, [.ref r6, .int 0])), (r6, .inl (cy 1, 512, .inl (zB no8))), (gw, .inl (cy 0, 6, .inl (upd (upd (upd (upd (upd (upd (fun _ => 0) 0 (-1)) 1 (-1)) 2 (-1)) 3 (-1)) 4 (-1)) 5 (-1))))]) rfl dX8_init_58 ?_
  refine z_same6 5 (f := (upd (upd (upd (upd (upd (upd (fun _ => 0) 0 (-1)) 1 (-1)) 2 (-1)) 3 (-1)) 4 (-1)) 5 (-1))) (f' := vA (fun _ => none)) rfl vA_no6 (ws' := [(h0, .inr (8, [.ref od, .ref sz, .ref b6, .ref gw, .null, .int 0, .int 0])), (od, .inl (cy 0, 5, .inl (fun _ => 0))), (sz, .inl (cy 0, 5, .inl (fun _ => 0))), (b6, .inr (5, [.ref r6, .int 0])), (r6, .inl (cy 1, 512, .inl (zB no8))), (gw, .inl (cy 0, 6, .inl (vA (fun _ => none))))]) rfl ?_
  refine z_aload_n X dX8_init_61 rfl (j := 0) rfl ?_
  refine z_null X dX8_init_62 ?_
  refine z_putW X 0 (C := RX8) (T := TX8) (N := 7) inX8 tyX8 tyX8_ok nmX8 rfl rfl 4 (by decide) fl_X8_28 (fun _ h9 => h9) rfl (ty := (.object "Thimble$Rule")) (by decide +kernel) rfl rfl (Nat.le_of_ble_eq_true rfl) (ws' := [(h0, .inr (8, [.ref od, .ref sz, .ref b6, .ref gw, .null, .int 0, .int 0])), (od, .inl (cy 0, 5, .inl (fun _ => 0))), (sz, .inl (cy 0, 5, .inl (fun _ => 0))), (b6, .inr (5, [.ref r6, .int 0])), (r6, .inl (cy 1, 512, .inl (zB no8))), (gw, .inl (cy 0, 6, .inl (vA (fun _ => none))))]) rfl dX8_init_63 ?_
  refine z_aload_n X dX8_init_66 rfl (j := 0) rfl ?_
  refine z_iconst X (v := 0) dX8_init_67 (by decide) ?_
  refine z_putW X 0 (C := RX8) (T := TX8) (N := 7) inX8 tyX8 tyX8_ok nmX8 rfl rfl 5 (by decide) fl_X8_32 (fun _ h9 => h9) rfl (ty := .boolean) (by decide +kernel) rfl rfl (Nat.le_of_ble_eq_true rfl) (ws' := [(h0, .inr (8, [.ref od, .ref sz, .ref b6, .ref gw, .null, .int 0, .int 0])), (od, .inl (cy 0, 5, .inl (fun _ => 0))), (sz, .inl (cy 0, 5, .inl (fun _ => 0))), (b6, .inr (5, [.ref r6, .int 0])), (r6, .inl (cy 1, 512, .inl (zB no8))), (gw, .inl (cy 0, 6, .inl (vA (fun _ => none))))]) rfl dX8_init_68 ?_
  refine z_aload_n X dX8_init_71 rfl (j := 0) rfl ?_
  refine z_iconst X (v := 0) dX8_init_72 (by decide) ?_
  refine z_putW X 0 (C := RX8) (T := TX8) (N := 7) inX8 tyX8 tyX8_ok nmX8 rfl rfl 6 (by decide) fl_X8_36 (fun _ h9 => h9) rfl (ty := .int) (by decide +kernel) rfl rfl (Nat.le_of_ble_eq_true rfl) (ws' := [(h0, .inr (8, [.ref od, .ref sz, .ref b6, .ref gw, .null, .int 0, .int 0])), (od, .inl (cy 0, 5, .inl (fun _ => 0))), (sz, .inl (cy 0, 5, .inl (fun _ => 0))), (b6, .inr (5, [.ref r6, .int 0])), (r6, .inl (cy 1, 512, .inl (zB no8))), (gw, .inl (cy 0, 6, .inl (vA (fun _ => none))))]) rfl dX8_init_73 ?_
  exact z_endv X hr [(h0, .inr (8, [.ref od, .ref sz, .ref b6, .ref gw, .null, .int 0, .int 0])), (od, .inl (cy 0, 5, .inl (fun _ => 0))), (sz, .inl (cy 0, 5, .inl (fun _ => 0))), (b6, .inr (5, [.ref r6, .int 0])), (r6, .inl (cy 1, 512, .inl (zB no8))), (gw, .inl (cy 0, 6, .inl (vA (fun _ => none))))] [0, 1, 2, 3, 4, 5] rfl rfl rfl ⟨_, _, _, _, _, rfl⟩ dX8_init_76
set_option maxHeartbeats 4000000 in
set_option maxRecDepth 100000 in
/-- Thimble() -/
theorem m_ThimbleC (l : Launch) (D : va_G) (cy : Nat → ClassId) (O : Nat × va_E → Prop) {h0 : Nat} : Cv l yX9_init (.code yX9_init cX9_init 1 none :: WALL) ({ frames := 3, cells := 15, slots := 1126, locals := 53 }) D cy O [.ref h0] [(h0, .inr (9, [.null, .int 0, .null, .int 0, .null, .int 0, .null, .null, .null]))] 15 1126 (fun (w : va_W) => ∃ ra fa ua la b5 r5 gv wk od sz b6 r6 gw sa im : Nat, w = [(h0, .inr (9, [.ref ra, .int (nI 0), .ref fa, .int (nI 0), .ref ua, .int (nI 0), .ref la, .ref wk, .ref sa])), (ra, .inl (cy 2, 6, .inr (.inr (.inr (.inr (fun _ => none)))))), (fa, .inl (cy 3, 40, .inr (.inr (.inr (.inr (fun _ => none)))))), (ua, .inl (cy 4, 8, .inr (.inr (.inr (.inr (fun _ => none)))))), (la, .inr (2, [.ref b5, .ref gv, .int 0])), (b5, .inr (5, [.ref r5, .int 0])), (r5, .inl (cy 1, 512, .inl (zB no8))), (gv, .inl (cy 0, 6, .inl (vA v01))), (wk, .inr (8, [.ref od, .ref sz, .ref b6, .ref gw, .null, .int 0, .int 0])), (od, .inl (cy 0, 5, .inl (fun _ => 0))), (sz, .inl (cy 0, 5, .inl (fun _ => 0))), (b6, .inr (5, [.ref r6, .int 0])), (r6, .inl (cy 1, 512, .inl (zB no8))), (gw, .inl (cy 0, 6, .inl (vA (fun _ => none)))), (sa, .inr (3, [.ref im, .int 0, .null, .int 0, .null, .int 0])), (im, .inl (cy 0, 6, .inl (fun _ => 0)))]) := by
  refine z_metv (by decide) rfl rfl (Nat.le_of_ble_eq_true rfl) ?_
  intro p e s m args below meth c X hr hin
  refine z_eq (ws' := [(h0, .inr (9, [.null, .int 0, .null, .int 0, .null, .int 0, .null, .null, .null]))]) (lv' := [(0, .ref h0)]) (st' := []) rfl rfl rfl ?_
  refine z_aload_n X dX9_init_0 rfl (j := 0) rfl ?_
  refine z_objInit X ml_X9_1 im_obj cd_obj (Nat.le_of_ble_eq_true rfl) (Nat.le_of_ble_eq_true rfl) dX9_init_1 ?_
  refine z_aload_n X dX9_init_4 rfl (j := 0) rfl ?_
  refine z_bipush X (v := 6) dX9_init_5 (by decide) ?_
  refine z_newq X (N := 6) (t := 2) (C := RX4) cl_X9_9 (by decide) rfl (by decide) (by decide) (Nat.le_of_ble_eq_true rfl) (Nat.le_of_ble_eq_true rfl) (Nat.le_of_ble_eq_true rfl) dX9_init_7 (fun ra => ?_)
  refine z_eq (ws' := [(h0, .inr (9, [.null, .int 0, .null, .int 0, .null, .int 0, .null, .null, .null])), (ra, .inl (cy 2, 6, .inr (.inr (.inr (.inr (fun _ => none))))))]) (lv' := [(0, .ref h0)]) (st' := [.ref ra, .ref h0]) rfl rfl rfl ?_
  refine z_widen (k' := 1) (n' := 6) (Nat.le_of_ble_eq_true rfl) (Nat.le_of_ble_eq_true rfl) ?_
  refine z_putF X 0 (C := RX9) (T := TX9) (N := 9) inX9 tyX9 tyX9_ok nmX9 rfl rfl 0 (by decide) fl_X9_11 (fun _ h9 => h9) rfl hin rfl (ty := (.array (.object "Thimble$Relation"))) (by decide +kernel) rfl rfl (Nat.le_of_ble_eq_true rfl) (ws' := [(h0, .inr (9, [.ref ra, .int 0, .null, .int 0, .null, .int 0, .null, .null, .null])), (ra, .inl (cy 2, 6, .inr (.inr (.inr (.inr (fun _ => none))))))]) rfl dX9_init_10 ?_
  refine z_aload_n X dX9_init_13 rfl (j := 0) rfl ?_
  refine z_iconst X (v := 0) dX9_init_14 (by decide) ?_
  refine z_putW X 0 (C := RX9) (T := TX9) (N := 9) inX9 tyX9 tyX9_ok nmX9 rfl rfl 1 (by decide) fl_X9_15 (fun _ h9 => h9) rfl (ty := .int) (by decide +kernel) rfl rfl (Nat.le_of_ble_eq_true rfl) (ws' := [(h0, .inr (9, [.ref ra, .int 0, .null, .int 0, .null, .int 0, .null, .null, .null])), (ra, .inl (cy 2, 6, .inr (.inr (.inr (.inr (fun _ => none))))))]) rfl dX9_init_15 ?_
  refine z_aload_n X dX9_init_18 rfl (j := 0) rfl ?_
  refine z_bipush X (v := 40) dX9_init_19 (by decide) ?_
  refine z_newq X (N := 40) (t := 3) (C := RX1) cl_X9_19 (by decide) rfl (by decide) (by decide) (Nat.le_of_ble_eq_true rfl) (Nat.le_of_ble_eq_true rfl) (Nat.le_of_ble_eq_true rfl) dX9_init_21 (fun fa => ?_)
  refine z_eq (ws' := [(h0, .inr (9, [.ref ra, .int 0, .null, .int 0, .null, .int 0, .null, .null, .null])), (ra, .inl (cy 2, 6, .inr (.inr (.inr (.inr (fun _ => none)))))), (fa, .inl (cy 3, 40, .inr (.inr (.inr (.inr (fun _ => none))))))]) (lv' := [(0, .ref h0)]) (st' := [.ref fa, .ref h0]) rfl rfl rfl ?_
  refine z_widen (k' := 2) (n' := 46) (Nat.le_of_ble_eq_true rfl) (Nat.le_of_ble_eq_true rfl) ?_
  refine z_putF X 0 (C := RX9) (T := TX9) (N := 9) inX9 tyX9 tyX9_ok nmX9 rfl rfl 2 (by decide) fl_X9_21 (fun _ h9 => h9) rfl hin rfl (ty := (.array (.object "Thimble$Formula"))) (by decide +kernel) rfl rfl (Nat.le_of_ble_eq_true rfl) (ws' := [(h0, .inr (9, [.ref ra, .int 0, .ref fa, .int 0, .null, .int 0, .null, .null, .null])), (ra, .inl (cy 2, 6, .inr (.inr (.inr (.inr (fun _ => none)))))), (fa, .inl (cy 3, 40, .inr (.inr (.inr (.inr (fun _ => none))))))]) rfl dX9_init_24 ?_
  refine z_aload_n X dX9_init_27 rfl (j := 0) rfl ?_
  refine z_iconst X (v := 0) dX9_init_28 (by decide) ?_
  refine z_putW X 0 (C := RX9) (T := TX9) (N := 9) inX9 tyX9 tyX9_ok nmX9 rfl rfl 3 (by decide) fl_X9_25 (fun _ h9 => h9) rfl (ty := .int) (by decide +kernel) rfl rfl (Nat.le_of_ble_eq_true rfl) (ws' := [(h0, .inr (9, [.ref ra, .int 0, .ref fa, .int 0, .null, .int 0, .null, .null, .null])), (ra, .inl (cy 2, 6, .inr (.inr (.inr (.inr (fun _ => none)))))), (fa, .inl (cy 3, 40, .inr (.inr (.inr (.inr (fun _ => none))))))]) rfl dX9_init_29 ?_
  refine z_aload_n X dX9_init_32 rfl (j := 0) rfl ?_
  refine z_bipush X (v := 8) dX9_init_33 (by decide) ?_
  refine z_newq X (N := 8) (t := 4) (C := RX6) cl_X9_28 (by decide) rfl (by decide) (by decide) (Nat.le_of_ble_eq_true rfl) (Nat.le_of_ble_eq_true rfl) (Nat.le_of_ble_eq_true rfl) dX9_init_35 (fun ua => ?_)
  refine z_eq (ws' := [(h0, .inr (9, [.ref ra, .int 0, .ref fa, .int 0, .null, .int 0, .null, .null, .null])), (ra, .inl (cy 2, 6, .inr (.inr (.inr (.inr (fun _ => none)))))), (fa, .inl (cy 3, 40, .inr (.inr (.inr (.inr (fun _ => none)))))), (ua, .inl (cy 4, 8, .inr (.inr (.inr (.inr (fun _ => none))))))]) (lv' := [(0, .ref h0)]) (st' := [.ref ua, .ref h0]) rfl rfl rfl ?_
  refine z_widen (k' := 3) (n' := 54) (Nat.le_of_ble_eq_true rfl) (Nat.le_of_ble_eq_true rfl) ?_
  refine z_putF X 0 (C := RX9) (T := TX9) (N := 9) inX9 tyX9 tyX9_ok nmX9 rfl rfl 4 (by decide) fl_X9_30 (fun _ h9 => h9) rfl hin rfl (ty := (.array (.object "Thimble$Rule"))) (by decide +kernel) rfl rfl (Nat.le_of_ble_eq_true rfl) (ws' := [(h0, .inr (9, [.ref ra, .int 0, .ref fa, .int 0, .ref ua, .int 0, .null, .null, .null])), (ra, .inl (cy 2, 6, .inr (.inr (.inr (.inr (fun _ => none)))))), (fa, .inl (cy 3, 40, .inr (.inr (.inr (.inr (fun _ => none)))))), (ua, .inl (cy 4, 8, .inr (.inr (.inr (.inr (fun _ => none))))))]) rfl dX9_init_38 ?_
  refine z_aload_n X dX9_init_41 rfl (j := 0) rfl ?_
  refine z_iconst X (v := 0) dX9_init_42 (by decide) ?_
  refine z_putW X 0 (C := RX9) (T := TX9) (N := 9) inX9 tyX9 tyX9_ok nmX9 rfl rfl 5 (by decide) fl_X9_34 (fun _ h9 => h9) rfl (ty := .int) (by decide +kernel) rfl rfl (Nat.le_of_ble_eq_true rfl) (ws' := [(h0, .inr (9, [.ref ra, .int 0, .ref fa, .int 0, .ref ua, .int 0, .null, .null, .null])), (ra, .inl (cy 2, 6, .inr (.inr (.inr (.inr (fun _ => none)))))), (fa, .inl (cy 3, 40, .inr (.inr (.inr (.inr (fun _ => none)))))), (ua, .inl (cy 4, 8, .inr (.inr (.inr (.inr (fun _ => none))))))]) rfl dX9_init_43 ?_
  refine z_aload_n X dX9_init_46 rfl (j := 0) rfl ?_
  refine z_new X (ci := 2) (fs := [.null, .null, .int 0]) (C := RX2) (T := TX2) (N := 3) inX2 tyX2 tyX2_ok cl_X9_37 it_X2 ni_X2 rfl (fun j hj => by rcases (show j = 0 ∨ j = 1 ∨ j = 2 by omega) with rfl | rfl | rfl <;> rfl) (Nat.le_of_ble_eq_true rfl) (Nat.le_of_ble_eq_true rfl) dX9_init_47 (fun la => ?_)
  refine z_eq (ws' := [(h0, .inr (9, [.ref ra, .int 0, .ref fa, .int 0, .ref ua, .int 0, .null, .null, .null])), (ra, .inl (cy 2, 6, .inr (.inr (.inr (.inr (fun _ => none)))))), (fa, .inl (cy 3, 40, .inr (.inr (.inr (.inr (fun _ => none)))))), (ua, .inl (cy 4, 8, .inr (.inr (.inr (.inr (fun _ => none)))))), (la, .inr (2, [.null, .null, .int 0]))]) (lv' := [(0, .ref h0)]) (st' := [.ref la, .ref h0]) rfl rfl rfl ?_
  refine z_widen (k' := 4) (n' := 57) (Nat.le_of_ble_eq_true rfl) (Nat.le_of_ble_eq_true rfl) ?_
  refine z_dup X dX9_init_50 rfl ?_
  refine z_retv X (as := [.ref la]) (wc := [(la, .inr (2, [.null, .null, .int 0]))]) (wr := [(h0, .inr (9, [.ref ra, .int 0, .ref fa, .int 0, .ref ua, .int 0, .null, .null, .null])), (ra, .inl (cy 2, 6, .inr (.inr (.inr (.inr (fun _ => none)))))), (fa, .inl (cy 3, 40, .inr (.inr (.inr (.inr (fun _ => none)))))), (ua, .inl (cy 4, 8, .inr (.inr (.inr (.inr (fun _ => none))))))]) (rest := [.ref la, .ref h0]) (fun H9 locs9 ls9 hP9 hS9 hl9 hb9 hp9 => va_runIN (As := []) (rest := [.ref la, .ref h0]) X.fix (m_LanesC l D cy O H9.size) ⟨va_cnB 0 X.hts (gB cd_X2_init) rfl rfl rfl (X.nw.1 _ (List.mem_of_getElem? (i := 0) rfl)) (X.hts _ ni_X2) (by decide +kernel) ⟨Nat.le_of_ble_eq_true rfl, Nat.le_of_ble_eq_true rfl⟩, rfl, X.hts _ im_X2_init⟩ ⟨hb9, hp9⟩ rfl rfl hl9.1 rfl (lv_room (Nat.le_of_ble_eq_true rfl)) dX9_init_51 ⟨Nat.le_of_ble_eq_true rfl, Nat.le_of_ble_eq_true rfl⟩) [4] [0, 1, 2, 3] rfl rfl rfl rfl rfl (by decide) (fun _ h => Or.inl h) (fun w2 h3 => ?_)
  obtain ⟨b5, r5, gv, rfl⟩ := h3
  refine z_eq (ws' := [(h0, .inr (9, [.ref ra, .int 0, .ref fa, .int 0, .ref ua, .int 0, .null, .null, .null])), (ra, .inl (cy 2, 6, .inr (.inr (.inr (.inr (fun _ => none)))))), (fa, .inl (cy 3, 40, .inr (.inr (.inr (.inr (fun _ => none)))))), (ua, .inl (cy 4, 8, .inr (.inr (.inr (.inr (fun _ => none)))))), (la, .inr (2, [.ref b5, .ref gv, .int 0])), (b5, .inr (5, [.ref r5, .int 0])), (r5, .inl (cy 1, 512, .inl (zB no8))), (gv, .inl (cy 0, 6, .inl (vA v01)))]) (lv' := [(0, .ref h0)]) (st' := [.ref la, .ref h0]) rfl rfl rfl ?_
  refine z_widen (k' := 7) (n' := 577) (Nat.le_of_ble_eq_true rfl) (Nat.le_of_ble_eq_true rfl) ?_
  refine z_putF X 0 (C := RX9) (T := TX9) (N := 9) inX9 tyX9 tyX9_ok nmX9 rfl rfl 6 (by decide) fl_X9_40 (fun _ h9 => h9) rfl hin rfl (ty := (.object "Thimble$Lanes")) (by decide +kernel) rfl rfl (Nat.le_of_ble_eq_true rfl) (ws' := [(h0, .inr (9, [.ref ra, .int 0, .ref fa, .int 0, .ref ua, .int 0, .ref la, .null, .null])), (ra, .inl (cy 2, 6, .inr (.inr (.inr (.inr (fun _ => none)))))), (fa, .inl (cy 3, 40, .inr (.inr (.inr (.inr (fun _ => none)))))), (ua, .inl (cy 4, 8, .inr (.inr (.inr (.inr (fun _ => none)))))), (la, .inr (2, [.ref b5, .ref gv, .int 0])), (b5, .inr (5, [.ref r5, .int 0])), (r5, .inl (cy 1, 512, .inl (zB no8))), (gv, .inl (cy 0, 6, .inl (vA v01)))]) rfl dX9_init_54 ?_
  refine z_aload_n X dX9_init_57 rfl (j := 0) rfl ?_
  refine z_new X (ci := 8) (fs := [.null, .null, .null, .null, .null, .int 0, .int 0]) (C := RX8) (T := TX8) (N := 7) inX8 tyX8 tyX8_ok cl_X9_44 it_X8 ni_X8 rfl (fun j hj => by rcases (show j = 0 ∨ j = 1 ∨ j = 2 ∨ j = 3 ∨ j = 4 ∨ j = 5 ∨ j = 6 by omega) with rfl | rfl | rfl | rfl | rfl | rfl | rfl <;> rfl) (Nat.le_of_ble_eq_true rfl) (Nat.le_of_ble_eq_true rfl) dX9_init_58 (fun wk => ?_)
  refine z_eq (ws' := [(h0, .inr (9, [.ref ra, .int 0, .ref fa, .int 0, .ref ua, .int 0, .ref la, .null, .null])), (ra, .inl (cy 2, 6, .inr (.inr (.inr (.inr (fun _ => none)))))), (fa, .inl (cy 3, 40, .inr (.inr (.inr (.inr (fun _ => none)))))), (ua, .inl (cy 4, 8, .inr (.inr (.inr (.inr (fun _ => none)))))), (la, .inr (2, [.ref b5, .ref gv, .int 0])), (b5, .inr (5, [.ref r5, .int 0])), (r5, .inl (cy 1, 512, .inl (zB no8))), (gv, .inl (cy 0, 6, .inl (vA v01))), (wk, .inr (8, [.null, .null, .null, .null, .null, .int 0, .int 0]))]) (lv' := [(0, .ref h0)]) (st' := [.ref wk, .ref h0]) rfl rfl rfl ?_
  refine z_widen (k' := 8) (n' := 584) (Nat.le_of_ble_eq_true rfl) (Nat.le_of_ble_eq_true rfl) ?_
  refine z_dup X dX9_init_61 rfl ?_
  refine z_retv X (as := [.ref wk]) (wc := [(wk, .inr (8, [.null, .null, .null, .null, .null, .int 0, .int 0]))]) (wr := [(h0, .inr (9, [.ref ra, .int 0, .ref fa, .int 0, .ref ua, .int 0, .ref la, .null, .null])), (ra, .inl (cy 2, 6, .inr (.inr (.inr (.inr (fun _ => none)))))), (fa, .inl (cy 3, 40, .inr (.inr (.inr (.inr (fun _ => none)))))), (ua, .inl (cy 4, 8, .inr (.inr (.inr (.inr (fun _ => none)))))), (la, .inr (2, [.ref b5, .ref gv, .int 0])), (b5, .inr (5, [.ref r5, .int 0])), (r5, .inl (cy 1, 512, .inl (zB no8))), (gv, .inl (cy 0, 6, .inl (vA v01)))]) (rest := [.ref wk, .ref h0]) (fun H9 locs9 ls9 hP9 hS9 hl9 hb9 hp9 => va_runIN (As := []) (rest := [.ref wk, .ref h0]) X.fix (m_WalkC l D cy O H9.size) ⟨va_cnB 0 X.hts (gB cd_X8_init) rfl rfl rfl (X.nw.1 _ (List.mem_of_getElem? (i := 2) rfl)) (X.hts _ ni_X8) (by decide +kernel) ⟨Nat.le_of_ble_eq_true rfl, Nat.le_of_ble_eq_true rfl⟩, rfl, X.hts _ im_X8_init⟩ ⟨hb9, hp9⟩ rfl rfl hl9.1 rfl (lv_room (Nat.le_of_ble_eq_true rfl)) dX9_init_62 ⟨Nat.le_of_ble_eq_true rfl, Nat.le_of_ble_eq_true rfl⟩) [8] [0, 1, 2, 3, 4, 5, 6, 7] rfl rfl rfl rfl rfl (by decide) (fun _ h => Or.inl h) (fun w5 h6 => ?_)
  obtain ⟨od, sz, b6, r6, gw, rfl⟩ := h6
  refine z_eq (ws' := [(h0, .inr (9, [.ref ra, .int 0, .ref fa, .int 0, .ref ua, .int 0, .ref la, .null, .null])), (ra, .inl (cy 2, 6, .inr (.inr (.inr (.inr (fun _ => none)))))), (fa, .inl (cy 3, 40, .inr (.inr (.inr (.inr (fun _ => none)))))), (ua, .inl (cy 4, 8, .inr (.inr (.inr (.inr (fun _ => none)))))), (la, .inr (2, [.ref b5, .ref gv, .int 0])), (b5, .inr (5, [.ref r5, .int 0])), (r5, .inl (cy 1, 512, .inl (zB no8))), (gv, .inl (cy 0, 6, .inl (vA v01))), (wk, .inr (8, [.ref od, .ref sz, .ref b6, .ref gw, .null, .int 0, .int 0])), (od, .inl (cy 0, 5, .inl (fun _ => 0))), (sz, .inl (cy 0, 5, .inl (fun _ => 0))), (b6, .inr (5, [.ref r6, .int 0])), (r6, .inl (cy 1, 512, .inl (zB no8))), (gw, .inl (cy 0, 6, .inl (vA (fun _ => none))))]) (lv' := [(0, .ref h0)]) (st' := [.ref wk, .ref h0]) rfl rfl rfl ?_
  refine z_widen (k' := 13) (n' := 1114) (Nat.le_of_ble_eq_true rfl) (Nat.le_of_ble_eq_true rfl) ?_
  refine z_putF X 0 (C := RX9) (T := TX9) (N := 9) inX9 tyX9 tyX9_ok nmX9 rfl rfl 7 (by decide) fl_X9_47 (fun _ h9 => h9) rfl hin rfl (ty := (.object "Thimble$Walk")) (by decide +kernel) rfl rfl (Nat.le_of_ble_eq_true rfl) (ws' := [(h0, .inr (9, [.ref ra, .int 0, .ref fa, .int 0, .ref ua, .int 0, .ref la, .ref wk, .null])), (ra, .inl (cy 2, 6, .inr (.inr (.inr (.inr (fun _ => none)))))), (fa, .inl (cy 3, 40, .inr (.inr (.inr (.inr (fun _ => none)))))), (ua, .inl (cy 4, 8, .inr (.inr (.inr (.inr (fun _ => none)))))), (la, .inr (2, [.ref b5, .ref gv, .int 0])), (b5, .inr (5, [.ref r5, .int 0])), (r5, .inl (cy 1, 512, .inl (zB no8))), (gv, .inl (cy 0, 6, .inl (vA v01))), (wk, .inr (8, [.ref od, .ref sz, .ref b6, .ref gw, .null, .int 0, .int 0])), (od, .inl (cy 0, 5, .inl (fun _ => 0))), (sz, .inl (cy 0, 5, .inl (fun _ => 0))), (b6, .inr (5, [.ref r6, .int 0])), (r6, .inl (cy 1, 512, .inl (zB no8))), (gw, .inl (cy 0, 6, .inl (vA (fun _ => none))))]) rfl dX9_init_65 ?_
  refine z_aload_n X dX9_init_68 rfl (j := 0) rfl ?_
  refine z_new X (ci := 3) (fs := [.null, .int 0, .null, .int 0, .null, .int 0]) (C := RX3) (T := TX3) (N := 6) inX3 tyX3 tyX3_ok cl_X9_51 it_X3 ni_X3 rfl (fun j hj => by rcases (show j = 0 ∨ j = 1 ∨ j = 2 ∨ j = 3 ∨ j = 4 ∨ j = 5 by omega) with rfl | rfl | rfl | rfl | rfl | rfl <;> rfl) (Nat.le_of_ble_eq_true rfl) (Nat.le_of_ble_eq_true rfl) dX9_init_69 (fun sa => ?_)
  refine z_eq (ws' := [(h0, .inr (9, [.ref ra, .int 0, .ref fa, .int 0, .ref ua, .int 0, .ref la, .ref wk, .null])), (ra, .inl (cy 2, 6, .inr (.inr (.inr (.inr (fun _ => none)))))), (fa, .inl (cy 3, 40, .inr (.inr (.inr (.inr (fun _ => none)))))), (ua, .inl (cy 4, 8, .inr (.inr (.inr (.inr (fun _ => none)))))), (la, .inr (2, [.ref b5, .ref gv, .int 0])), (b5, .inr (5, [.ref r5, .int 0])), (r5, .inl (cy 1, 512, .inl (zB no8))), (gv, .inl (cy 0, 6, .inl (vA v01))), (wk, .inr (8, [.ref od, .ref sz, .ref b6, .ref gw, .null, .int 0, .int 0])), (od, .inl (cy 0, 5, .inl (fun _ => 0))), (sz, .inl (cy 0, 5, .inl (fun _ => 0))), (b6, .inr (5, [.ref r6, .int 0])), (r6, .inl (cy 1, 512, .inl (zB no8))), (gw, .inl (cy 0, 6, .inl (vA (fun _ => none)))), (sa, .inr (3, [.null, .int 0, .null, .int 0, .null, .int 0]))]) (lv' := [(0, .ref h0)]) (st' := [.ref sa, .ref h0]) rfl rfl rfl ?_
  refine z_widen (k' := 14) (n' := 1120) (Nat.le_of_ble_eq_true rfl) (Nat.le_of_ble_eq_true rfl) ?_
  refine z_dup X dX9_init_72 rfl ?_
  refine z_retv X (as := [.ref sa]) (wc := [(sa, .inr (3, [.null, .int 0, .null, .int 0, .null, .int 0]))]) (wr := [(h0, .inr (9, [.ref ra, .int 0, .ref fa, .int 0, .ref ua, .int 0, .ref la, .ref wk, .null])), (ra, .inl (cy 2, 6, .inr (.inr (.inr (.inr (fun _ => none)))))), (fa, .inl (cy 3, 40, .inr (.inr (.inr (.inr (fun _ => none)))))), (ua, .inl (cy 4, 8, .inr (.inr (.inr (.inr (fun _ => none)))))), (la, .inr (2, [.ref b5, .ref gv, .int 0])), (b5, .inr (5, [.ref r5, .int 0])), (r5, .inl (cy 1, 512, .inl (zB no8))), (gv, .inl (cy 0, 6, .inl (vA v01))), (wk, .inr (8, [.ref od, .ref sz, .ref b6, .ref gw, .null, .int 0, .int 0])), (od, .inl (cy 0, 5, .inl (fun _ => 0))), (sz, .inl (cy 0, 5, .inl (fun _ => 0))), (b6, .inr (5, [.ref r6, .int 0])), (r6, .inl (cy 1, 512, .inl (zB no8))), (gw, .inl (cy 0, 6, .inl (vA (fun _ => none))))]) (rest := [.ref sa, .ref h0]) (fun H9 locs9 ls9 hP9 hS9 hl9 hb9 hp9 => va_runIN (As := []) (rest := [.ref sa, .ref h0]) X.fix (m_MapSearchC l D cy O H9.size) ⟨va_cnB 0 X.hts (gB cd_X3_init) rfl rfl rfl (X.nw.1 _ (List.mem_of_getElem? (i := 4) rfl)) (X.hts _ ni_X3) (by decide +kernel) ⟨Nat.le_of_ble_eq_true rfl, Nat.le_of_ble_eq_true rfl⟩, rfl, X.hts _ im_X3_init⟩ ⟨hb9, hp9⟩ rfl rfl hl9.1 rfl (lv_room (Nat.le_of_ble_eq_true rfl)) dX9_init_73 ⟨Nat.le_of_ble_eq_true rfl, Nat.le_of_ble_eq_true rfl⟩) [14] [0, 1, 2, 3, 4, 5, 6, 7, 8, 9, 10, 11, 12, 13] rfl rfl rfl rfl rfl (by decide) (fun _ h => Or.inl h) (fun w8 h9 => ?_)
  obtain ⟨im, rfl⟩ := h9
  refine z_eq (ws' := [(h0, .inr (9, [.ref ra, .int 0, .ref fa, .int 0, .ref ua, .int 0, .ref la, .ref wk, .null])), (ra, .inl (cy 2, 6, .inr (.inr (.inr (.inr (fun _ => none)))))), (fa, .inl (cy 3, 40, .inr (.inr (.inr (.inr (fun _ => none)))))), (ua, .inl (cy 4, 8, .inr (.inr (.inr (.inr (fun _ => none)))))), (la, .inr (2, [.ref b5, .ref gv, .int 0])), (b5, .inr (5, [.ref r5, .int 0])), (r5, .inl (cy 1, 512, .inl (zB no8))), (gv, .inl (cy 0, 6, .inl (vA v01))), (wk, .inr (8, [.ref od, .ref sz, .ref b6, .ref gw, .null, .int 0, .int 0])), (od, .inl (cy 0, 5, .inl (fun _ => 0))), (sz, .inl (cy 0, 5, .inl (fun _ => 0))), (b6, .inr (5, [.ref r6, .int 0])), (r6, .inl (cy 1, 512, .inl (zB no8))), (gw, .inl (cy 0, 6, .inl (vA (fun _ => none)))), (sa, .inr (3, [.ref im, .int 0, .null, .int 0, .null, .int 0])), (im, .inl (cy 0, 6, .inl (fun _ => 0)))]) (lv' := [(0, .ref h0)]) (st' := [.ref sa, .ref h0]) rfl rfl rfl ?_
  refine z_widen (k' := 15) (n' := 1126) (Nat.le_of_ble_eq_true rfl) (Nat.le_of_ble_eq_true rfl) ?_
  refine z_putF X 0 (C := RX9) (T := TX9) (N := 9) inX9 tyX9 tyX9_ok nmX9 rfl rfl 8 (by decide) fl_X9_54 (fun _ h9 => h9) rfl hin rfl (ty := (.object "Thimble$MapSearch")) (by decide +kernel) rfl rfl (Nat.le_of_ble_eq_true rfl) (ws' := [(h0, .inr (9, [.ref ra, .int 0, .ref fa, .int 0, .ref ua, .int 0, .ref la, .ref wk, .ref sa])), (ra, .inl (cy 2, 6, .inr (.inr (.inr (.inr (fun _ => none)))))), (fa, .inl (cy 3, 40, .inr (.inr (.inr (.inr (fun _ => none)))))), (ua, .inl (cy 4, 8, .inr (.inr (.inr (.inr (fun _ => none)))))), (la, .inr (2, [.ref b5, .ref gv, .int 0])), (b5, .inr (5, [.ref r5, .int 0])), (r5, .inl (cy 1, 512, .inl (zB no8))), (gv, .inl (cy 0, 6, .inl (vA v01))), (wk, .inr (8, [.ref od, .ref sz, .ref b6, .ref gw, .null, .int 0, .int 0])), (od, .inl (cy 0, 5, .inl (fun _ => 0))), (sz, .inl (cy 0, 5, .inl (fun _ => 0))), (b6, .inr (5, [.ref r6, .int 0])), (r6, .inl (cy 1, 512, .inl (zB no8))), (gw, .inl (cy 0, 6, .inl (vA (fun _ => none)))), (sa, .inr (3, [.ref im, .int 0, .null, .int 0, .null, .int 0])), (im, .inl (cy 0, 6, .inl (fun _ => 0)))]) rfl dX9_init_76 ?_
  exact z_endv X hr [(h0, .inr (9, [.ref ra, .int (nI 0), .ref fa, .int (nI 0), .ref ua, .int (nI 0), .ref la, .ref wk, .ref sa])), (ra, .inl (cy 2, 6, .inr (.inr (.inr (.inr (fun _ => none)))))), (fa, .inl (cy 3, 40, .inr (.inr (.inr (.inr (fun _ => none)))))), (ua, .inl (cy 4, 8, .inr (.inr (.inr (.inr (fun _ => none)))))), (la, .inr (2, [.ref b5, .ref gv, .int 0])), (b5, .inr (5, [.ref r5, .int 0])), (r5, .inl (cy 1, 512, .inl (zB no8))), (gv, .inl (cy 0, 6, .inl (vA v01))), (wk, .inr (8, [.ref od, .ref sz, .ref b6, .ref gw, .null, .int 0, .int 0])), (od, .inl (cy 0, 5, .inl (fun _ => 0))), (sz, .inl (cy 0, 5, .inl (fun _ => 0))), (b6, .inr (5, [.ref r6, .int 0])), (r6, .inl (cy 1, 512, .inl (zB no8))), (gw, .inl (cy 0, 6, .inl (vA (fun _ => none)))), (sa, .inr (3, [.ref im, .int 0, .null, .int 0, .null, .int 0])), (im, .inl (cy 0, 6, .inl (fun _ => 0)))] [0, 1, 2, 3, 4, 5, 6, 7, 8, 9, 10, 11, 12, 13, 14, 15] rfl rfl rfl ⟨_, _, _, _, _, _, _, _, _, _, _, _, _, _, _, rfl⟩ dX9_init_79
