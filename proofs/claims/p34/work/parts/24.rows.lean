/-! RowSet: a set of rows (numbers below 512), and how many -/
def zb (b : Bool) : Int32 := if b then 1 else 0
def zB (q : Nat → Bool) : Nat → Int32 := fun j => zb (q j)
def inc (q : Nat → Bool) (r : Nat) : Nat → Bool := fun j => q j || decide (j = r)
def kp (q : Nat → Bool) (j : Nat) : Nat → Bool := fun i => decide (j ≤ i) && q i
theorem zB_0 : (fun _ => 0 : Nat → Int32) = zB (fun _ => false) := rfl
theorem kp_0 (q : Nat → Bool) : kp q 0 = q := funext fun i => by simp [kp]
theorem kp_s (q : Nat → Bool) (j : Nat) : upd (zB (kp q j)) j 0 = zB (kp q (j + 1)) := funext fun i => by
  simp only [upd, zB, kp]
  by_cases h : i = j
  · subst h; simp [zb, show ¬ (i + 1 ≤ i) by omega]
  · rw [if_neg h, show decide (j ≤ i) = decide (j + 1 ≤ i) by simp only [decide_eq_decide]; omega]
theorem kp_all {q : Nat → Bool} {N : Nat} (h : ∀ i, N ≤ i → q i = false) : kp q N = fun _ => false := funext fun i => by
  simp only [kp]
  by_cases hi : N ≤ i
  · rw [h i hi]; simp
  · simp [hi]
theorem inc_up {q : Nat → Bool} {r : Nat} : upd (zB q) r 1 = zB (inc q r) := funext fun i => by
  simp only [upd, zB, inc]
  by_cases h : i = r
  · simp [h, zb]
  · simp [h]
theorem inc_old {q : Nat → Bool} {r : Nat} (h : q r = true) : inc q r = q := funext fun i => by
  simp only [inc]
  by_cases hi : i = r
  · simp [hi, h]
  · simp [hi]
theorem ct_inc {q : Nat → Bool} {r : Nat} (h : q r = false) {N : Nat} (hr : r < N) : ct (inc q r) N = ct q N + 1 := by
  rw [ct_out (p := inc q r) (k := r) (by simp [inc]) hr]
  congr 1
  refine ct_ext fun i _ => ?_
  simp only [inc]
  by_cases hi : i = r
  · simp [hi, h]
  · simp [hi]
theorem zb_0 {b : Bool} : zb b = 0 ↔ b = false := by cases b <;> simp [zb]
theorem zb_1 {b : Bool} (h : ¬ zb b = 0) : b = true := by cases b <;> simp_all [zb]
theorem zb_01 (b : Bool) : zb b = 0 ∨ zb b = 1 := by cases b <;> simp [zb]
set_option maxHeartbeats 4000000 in
set_option maxRecDepth 100000 in
/-- clear() -/
theorem m_clear (l : Launch) (D : va_G) (cy : Nat → ClassId) (O : Nat × va_E → Prop) {b5 r5 : Nat} {q : Nat → Bool} {v5 : Value} (hq : ∀ i, 512 ≤ i → q i = false) : Cv l yX5_clear (.code yX5_clear cX5_clear 2 none :: WALL) ({ frames := 0, cells := 0, slots := 0, locals := 0 }) D cy O [.ref b5] [(b5, .inr (5, [.ref r5, v5])), (r5, .inl (cy 1, 512, .inl (zB q)))] 0 0 (fun (w : va_W) => w = [(b5, .inr (5, [.ref r5, .int (nI (ct (fun _ => false) 512))])), (r5, .inl (cy 1, 512, .inl (zB (fun _ => false))))]) := by
  refine z_metv (by decide) rfl rfl (Nat.le_of_ble_eq_true rfl) ?_
  intro p e s m args below meth c X hr hin
  refine z_eq (ws' := [(b5, .inr (5, [.ref r5, v5])), (r5, .inl (cy 1, 512, .inl (zB q)))]) (lv' := [(0, .ref b5)]) (st' := []) rfl rfl rfl ?_
  have L : ∀ (d : Nat) (j : Nat), j + d = 512 → Zz D (va_A [(b5, .inr (5, [.ref r5, v5])), (r5, .inl (cy 1, 512, .inl (zB q)))] s.heap.size) 2 p l e ({ frames := 0, cells := 0, slots := 0, locals := 0 }) s m args below meth c (MQ below (va_Qv (fun (w : va_W) => w = [(b5, .inr (5, [.ref r5, .int (nI (ct (fun _ => false) 512))])), (r5, .inl (cy 1, 512, .inl (zB (fun _ => false))))]) (end_ D [(b5, .inr (5, [.ref r5, v5])), (r5, .inl (cy 1, 512, .inl (zB q)))] s.heap.size) (va_A [(b5, .inr (5, [.ref r5, v5])), (r5, .inl (cy 1, 512, .inl (zB q)))] s.heap.size)) args s 0 0 (va_A [(b5, .inr (5, [.ref r5, v5])), (r5, .inl (cy 1, 512, .inl (zB q)))] s.heap.size)) [(b5, .inr (5, [.ref r5, v5])), (r5, .inl (cy 1, 512, .inl (zB (kp q j))))] [(1, .int (nI j)), (0, .ref b5)] 0 0 2 [] := by
    intro d
    induction d with
    | zero =>
      intro j hL0
      refine z_iload_n X dX5_clear_2 rfl (j := 0) rfl ?_
      refine z_aload_n X dX5_clear_3 rfl (j := 1) rfl ?_
      refine z_getW X 0 (C := RX5) (T := TX5) (N := 2) inX5 rfl rfl 0 (by decide) fl_X5_9 (fun _ h9 => h9) rfl dX5_clear_4 ?_
      refine z_alenW X 1 (t := 1) rfl rfl (v := 512) rfl dX5_clear_7 ?_
      refine z_icmp_ge X (tgt := 24) dX5_clear_8 (by decide) (fun c_8 => ?_) (fun c9 => absurd (nI_le (a := 512) (b := j) (by omega) (by omega)) c9)
      refine z_eq (ws' := [(b5, .inr (5, [.ref r5, v5])), (r5, .inl (cy 1, 512, .inl (zB (fun _ => false))))]) (lv' := [(1, .int (nI j)), (0, .ref b5)]) (st' := []) (by rw [show j = 512 by omega, kp_all hq]) rfl rfl ?_
      refine z_aload_n X dX5_clear_24 rfl (j := 1) rfl ?_
      refine z_iconst X (v := 0) dX5_clear_25 (by decide) ?_
      refine z_putW X 0 (C := RX5) (T := TX5) (N := 2) inX5 tyX5 tyX5_ok nmX5 rfl rfl 1 (by decide) fl_X5_15 (fun _ h9 => h9) rfl (ty := .int) (by decide +kernel) rfl rfl (Nat.le_of_ble_eq_true rfl) (ws' := [(b5, .inr (5, [.ref r5, .int 0])), (r5, .inl (cy 1, 512, .inl (zB (fun _ => false))))]) rfl dX5_clear_26 ?_
      refine z_eq (ws' := [(b5, .inr (5, [.ref r5, .int (nI (ct (fun _ => false) 512))])), (r5, .inl (cy 1, 512, .inl (zB (fun _ => false))))]) (lv' := [(1, .int (nI j)), (0, .ref b5)]) (st' := []) (by rw [show ct (fun _ => false) 512 = 0 from ct_zero.mpr (fun _ _ => rfl)]; rfl) rfl rfl ?_
      exact z_endv X hr [(b5, .inr (5, [.ref r5, .int (nI (ct (fun _ => false) 512))])), (r5, .inl (cy 1, 512, .inl (zB (fun _ => false))))] [0, 1] rfl rfl rfl rfl dX5_clear_29
    | succ d ih =>
      intro j hL0
      refine z_iload_n X dX5_clear_2 rfl (j := 0) rfl ?_
      refine z_aload_n X dX5_clear_3 rfl (j := 1) rfl ?_
      refine z_getW X 0 (C := RX5) (T := TX5) (N := 2) inX5 rfl rfl 0 (by decide) fl_X5_9 (fun _ h9 => h9) rfl dX5_clear_4 ?_
      refine z_alenW X 1 (t := 1) rfl rfl (v := 512) rfl dX5_clear_7 ?_
      refine z_icmp_ge X (tgt := 24) dX5_clear_8 (by decide) (fun c9 => absurd c9 (nI_ge (a := j) (b := 512) (by omega) (by decide))) (fun c_8 => ?_)
      refine z_aload_n X dX5_clear_11 rfl (j := 1) rfl ?_
      refine z_getW X 0 (C := RX5) (T := TX5) (N := 2) inX5 rfl rfl 0 (by decide) fl_X5_9 (fun _ h9 => h9) rfl dX5_clear_12 ?_
      refine z_iload_n X dX5_clear_15 rfl (j := 0) rfl ?_
      refine z_iconst X (v := 0) dX5_clear_16 (by decide) ?_
      refine z_zastW X 1 rfl (vp_in_nI (by omega) (by decide)) (ws' := [(b5, .inr (5, [.ref r5, v5])), (r5, .inl (cy 1, 512, .inl (zB (kp q (j + 1)))))]) (by rw [← kp_s q j, nI_clamp (show j < 2 ^ 31 by omega)]; rfl) dX5_clear_17 ?_
      refine z_iinc X (j := 0) (v := (nI (j + 1))) (lv' := [(1, .int (nI (j + 1))), (0, .ref b5)]) dX5_clear_18 rfl (nI_1 j) (by decide) rfl ?_
      refine z_goto X (tgt := 2) dX5_clear_21 (by decide) ?_
      refine z_eq (ws' := [(b5, .inr (5, [.ref r5, v5])), (r5, .inl (cy 1, 512, .inl (zB (kp q (j + 1)))))]) (lv' := [(1, .int (nI (j + 1))), (0, .ref b5)]) (st' := []) rfl rfl rfl ?_
      exact ih (j + 1) (by omega)
  refine z_iconst X (v := 0) dX5_clear_0 (by decide) ?_
  refine z_istore_n X (lv' := [(1, .int 0), (0, .ref b5)]) dX5_clear_1 rfl (by decide) rfl ?_
  refine z_eq (ws' := [(b5, .inr (5, [.ref r5, v5])), (r5, .inl (cy 1, 512, .inl (zB (kp q 0))))]) (lv' := [(1, .int (nI 0)), (0, .ref b5)]) (st' := []) (by rw [kp_0]) rfl rfl ?_
  exact L (512) 0 (by omega)
set_option maxHeartbeats 4000000 in
set_option maxRecDepth 100000 in
/-- has(row) -/
theorem m_hasRow (l : Launch) (D : va_G) (cy : Nat → ClassId) (O : Nat × va_E → Prop) {b5 r5 r : Nat} {q : Nat → Bool} {v5 : Value} (hb : O (b5, .inr (5, [.ref r5, v5]))) (hr5 : O (r5, .inl (cy 1, 512, .inl (zB q)))) (h512 : r < 512) : Ci l yX5_has (.code yX5_has cX5_has 2 (some .boolean) :: WALL) ({ frames := 0, cells := 0, slots := 0, locals := 0 }) D cy O [.ref b5, .int (nI r)] [] 0 0 (fun (x : Int32) (w : va_W) => x = zb (q r) ∧ w = []) := by
  refine z_meti (by decide) rfl rfl (Nat.le_of_ble_eq_true rfl) ?_
  intro p e s m args below meth c X hr hin
  refine z_eq (ws' := []) (lv' := [(0, .ref b5), (1, .int (nI r))]) (st' := []) rfl rfl rfl ?_
  refine z_aload_n X dX5_has_0 rfl (j := 0) rfl ?_
  refine z_getO X (ci := 5) (C := RX5) (T := TX5) (N := 2) inX5 hb rfl 0 (by decide) fl_X5_9 (fun _ h9 => h9) rfl dX5_has_1 ?_
  refine z_iload_n X dX5_has_4 rfl (j := 1) rfl ?_
  refine z_zaldO X hr5 (v := (zb (q r))) (vp_in_nI (by omega) (by decide)) (by rw [nI_clamp (by omega)]; rfl) dX5_has_5 ?_
  exact z_endz X hr (zb_01 _) [] [] rfl rfl rfl ⟨rfl, rfl⟩ dX5_has_6
set_option maxHeartbeats 4000000 in
set_option maxRecDepth 100000 in
/-- include(row) -/
theorem m_includeRow (l : Launch) (D : va_G) (cy : Nat → ClassId) (O : Nat × va_E → Prop) {b5 r5 r : Nat} {q : Nat → Bool} (h512 : r < 512) : Cv l yX5_include (.code yX5_include cX5_include 2 none :: WALL) ({ frames := 0, cells := 0, slots := 0, locals := 0 }) D cy O [.ref b5, .int (nI r)] [(b5, .inr (5, [.ref r5, .int (nI (ct q 512))])), (r5, .inl (cy 1, 512, .inl (zB q)))] 0 0 (fun (w : va_W) => w = [(b5, .inr (5, [.ref r5, .int (nI (ct (inc q r) 512))])), (r5, .inl (cy 1, 512, .inl (zB (inc q r))))]) := by
  refine z_metv (by decide) rfl rfl (Nat.le_of_ble_eq_true rfl) ?_
  intro p e s m args below meth c X hr hin
  refine z_eq (ws' := [(b5, .inr (5, [.ref r5, .int (nI (ct q 512))])), (r5, .inl (cy 1, 512, .inl (zB q)))]) (lv' := [(0, .ref b5), (1, .int (nI r))]) (st' := []) rfl rfl rfl ?_
  refine z_aload_n X dX5_include_0 rfl (j := 0) rfl ?_
  refine z_getW X 0 (C := RX5) (T := TX5) (N := 2) inX5 rfl rfl 0 (by decide) fl_X5_9 (fun _ h9 => h9) rfl dX5_include_1 ?_
  refine z_iload_n X dX5_include_4 rfl (j := 1) rfl ?_
  refine z_zaldW X 1 rfl (v := (zb (q r))) (vp_in_nI (by omega) (by decide)) (by rw [nI_clamp (by omega)]; rfl) dX5_include_5 ?_
  refine z_if_ne X (tgt := 26) dX5_include_6 (by decide) (fun c_6 => ?_) (fun c_6 => ?_)
  · skip
    refine z_eq (ws' := [(b5, .inr (5, [.ref r5, .int (nI (ct (inc q r) 512))])), (r5, .inl (cy 1, 512, .inl (zB (inc q r))))]) (lv' := [(0, .ref b5), (1, .int (nI r))]) (st' := []) (by rw [inc_old (zb_1 c_6)]) rfl rfl ?_
    exact z_endv X hr [(b5, .inr (5, [.ref r5, .int (nI (ct (inc q r) 512))])), (r5, .inl (cy 1, 512, .inl (zB (inc q r))))] [0, 1] rfl rfl rfl rfl dX5_include_26
  · skip
    refine z_aload_n X dX5_include_9 rfl (j := 0) rfl ?_
    refine z_getW X 0 (C := RX5) (T := TX5) (N := 2) inX5 rfl rfl 0 (by decide) fl_X5_9 (fun _ h9 => h9) rfl dX5_include_10 ?_
    refine z_iload_n X dX5_include_13 rfl (j := 1) rfl ?_
    refine z_iconst X (v := 1) dX5_include_14 (by decide) ?_
    refine z_zastW X 1 rfl (vp_in_nI (by omega) (by decide)) (ws' := [(b5, .inr (5, [.ref r5, .int (nI (ct q 512))])), (r5, .inl (cy 1, 512, .inl (zB (inc q r))))]) (by rw [← inc_up, nI_clamp (show r < 2 ^ 31 by omega)]; rfl) dX5_include_15 ?_
    refine z_aload_n X dX5_include_16 rfl (j := 0) rfl ?_
    refine z_dup X dX5_include_17 rfl ?_
    refine z_getW X 0 (C := RX5) (T := TX5) (N := 2) inX5 rfl rfl 1 (by decide) fl_X5_15 (fun _ h9 => h9) rfl dX5_include_18 ?_
    refine z_iconst X (v := 1) dX5_include_21 (by decide) ?_
    refine z_iadd X (v := (nI (ct q 512 + 1))) dX5_include_22 (nI_1 _) ?_
    refine z_putW X 0 (C := RX5) (T := TX5) (N := 2) inX5 tyX5 tyX5_ok nmX5 rfl rfl 1 (by decide) fl_X5_15 (fun _ h9 => h9) rfl (ty := .int) (by decide +kernel) rfl rfl (Nat.le_of_ble_eq_true rfl) (ws' := [(b5, .inr (5, [.ref r5, .int (nI (ct q 512 + 1))])), (r5, .inl (cy 1, 512, .inl (zB (inc q r))))]) rfl dX5_include_23 ?_
    refine z_eq (ws' := [(b5, .inr (5, [.ref r5, .int (nI (ct (inc q r) 512))])), (r5, .inl (cy 1, 512, .inl (zB (inc q r))))]) (lv' := [(0, .ref b5), (1, .int (nI r))]) (st' := []) (by rw [ct_inc (zb_0.mp c_6) h512]) rfl rfl ?_
    exact z_endv X hr [(b5, .inr (5, [.ref r5, .int (nI (ct (inc q r) 512))])), (r5, .inl (cy 1, 512, .inl (zB (inc q r))))] [0, 1] rfl rfl rfl rfl dX5_include_26
/-- the row at a place -/
def nth (q : Nat → Bool) (k : Nat) : Nat := ft (fun j => q j && decide (ct q j = k)) 512
theorem ct_s_t {q : Nat → Bool} {j : Nat} (h : q j = true) : ct q (j + 1) = ct q j + 1 := by rw [ct, h]; simp
theorem ct_s_f {q : Nat → Bool} {j : Nat} (h : q j = false) : ct q (j + 1) = ct q j := by rw [ct, h]; simp
theorem ct_le_of {q : Nat → Bool} {a b : Nat} (h : a ≤ b) : ct q a ≤ ct q b := by
  induction b with
  | zero => rw [Nat.le_zero.mp h]; exact Nat.le_refl _
  | succ b ih =>
    rcases Nat.lt_or_ge a (b + 1) with h9 | h9
    · have := ih (by omega)
      cases h8 : q b
      · rw [ct_s_f h8]; exact this
      · rw [ct_s_t h8]; omega
    · rw [show a = b + 1 by omega]; exact Nat.le_refl _
theorem nth_is {q : Nat → Bool} {k j : Nat} (hj : j < 512) (h : q j = true) (hk : ct q j = k) : nth q k = j := by
  refine ft_is (Nat.le_of_lt hj) (fun i hi => ?_) (fun _ => by simp [h, hk])
  cases h9 : q i
  · rfl
  · have h8 := ct_le_of (q := q) (show i + 1 ≤ j by omega)
    rw [ct_s_t h9, hk] at h8
    simp; omega
set_option maxHeartbeats 4000000 in
set_option maxRecDepth 100000 in
/-- at(place) -/
theorem m_atRow (l : Launch) (D : va_G) (cy : Nat → ClassId) (O : Nat × va_E → Prop) {b5 r5 k9 : Nat} {q : Nat → Bool} {v5 : Value} (hb : O (b5, .inr (5, [.ref r5, v5]))) (hr5 : O (r5, .inl (cy 1, 512, .inl (zB q)))) (hk : k9 < ct q 512) : Ci l yX5_at (.code yX5_at cX5_at 4 (some .int) :: WALL) ({ frames := 0, cells := 0, slots := 0, locals := 0 }) D cy O [.ref b5, .int (nI k9)] [] 0 0 (fun (x : Int32) (w : va_W) => x = nI (nth q k9) ∧ w = []) := by
  refine z_meti (by decide) rfl rfl (Nat.le_of_ble_eq_true rfl) ?_
  intro p e s m args below meth c X hr hin
  refine z_eq (ws' := []) (lv' := [(0, .ref b5), (1, .int (nI k9))]) (st' := []) rfl rfl rfl ?_
  have L : ∀ (d : Nat) (j : Nat), j + d = 512 → ct q j ≤ k9 → Zz D (va_A [] s.heap.size) 4 p l e ({ frames := 0, cells := 0, slots := 0, locals := 0 }) s m args below meth c (MQ below (va_Qi (fun (x : Int32) (w : va_W) => x = nI (nth q k9) ∧ w = []) (end_ D [] s.heap.size) (va_A [] s.heap.size)) args s 0 0 (va_A [] s.heap.size)) [] [(3, .int (nI j)), (2, .int (nI (ct q j))), (0, .ref b5), (1, .int (nI k9))] 0 0 4 [] := by
    intro d
    induction d with
    | zero =>
      intro j hL0 hL1
      exact absurd hL1 (by rw [show j = 512 by omega]; omega)
    | succ d ih =>
      intro j hL0 hL1
      refine z_iload_n X dX5_at_4 rfl (j := 0) rfl ?_
      refine z_aload_n X dX5_at_5 rfl (j := 2) rfl ?_
      refine z_getO X (ci := 5) (C := RX5) (T := TX5) (N := 2) inX5 hb rfl 0 (by decide) fl_X5_9 (fun _ h9 => h9) rfl dX5_at_6 ?_
      refine z_alenO X (t := 1) hr5 rfl (v := 512) rfl dX5_at_9 ?_
      refine z_icmp_ge X (tgt := 38) dX5_at_10 (by decide) (fun c9 => absurd c9 (nI_ge (a := j) (b := 512) (by omega) (by decide))) (fun c_10 => ?_)
      refine z_aload_n X dX5_at_13 rfl (j := 2) rfl ?_
      refine z_getO X (ci := 5) (C := RX5) (T := TX5) (N := 2) inX5 hb rfl 0 (by decide) fl_X5_9 (fun _ h9 => h9) rfl dX5_at_14 ?_
      refine z_iload_n X dX5_at_17 rfl (j := 0) rfl ?_
      refine z_zaldO X hr5 (v := (zb (q j))) (vp_in_nI (by omega) (by decide)) (by rw [nI_clamp (by omega)]; rfl) dX5_at_18 ?_
      refine z_if_eq X (tgt := 32) dX5_at_19 (by decide) (fun c_19 => ?_) (fun c_19 => ?_)
      · skip
        refine z_iinc X (j := 0) (v := (nI (j + 1))) (lv' := [(3, .int (nI (j + 1))), (2, .int (nI (ct q j))), (0, .ref b5), (1, .int (nI k9))]) dX5_at_32 rfl (nI_1 j) (by decide) rfl ?_
        refine z_goto X (tgt := 4) dX5_at_35 (by decide) ?_
        refine z_lv [0, 1, 2, 3] (lv' := [(3, .int (nI (j + 1))), (2, .int (nI (ct q j))), (0, .ref b5), (1, .int (nI k9))]) rfl ?_
        refine z_eq (ws' := []) (lv' := [(3, .int (nI (j + 1))), (2, .int (nI (ct q (j + 1)))), (0, .ref b5), (1, .int (nI k9))]) (st' := []) rfl (by rw [ct_s_f (zb_0.mp c_19)]) rfl ?_
        exact ih (j + 1) (by omega) (by rw [ct_s_f (zb_0.mp c_19)]; exact hL1)
      · skip
        have hq1 := zb_1 c_19
        have hcj := ct_le q j
        have hck := ct_le q 512
        refine z_iload_n X dX5_at_22 rfl (j := 1) rfl ?_
        refine z_iload_n X dX5_at_23 rfl (j := 3) rfl ?_
        refine z_icmp_ne X (tgt := 29) dX5_at_24 (by decide) (fun c_24 => ?_) (fun c_24 => ?_)
        · skip
          refine z_iinc X (j := 1) (v := (nI (ct q j + 1))) (lv' := [(2, .int (nI (ct q j + 1))), (3, .int (nI j)), (0, .ref b5), (1, .int (nI k9))]) dX5_at_29 rfl (nI_1 _) (by decide) rfl ?_
          refine z_iinc X (j := 1) (v := (nI (j + 1))) (lv' := [(3, .int (nI (j + 1))), (2, .int (nI (ct q j + 1))), (0, .ref b5), (1, .int (nI k9))]) dX5_at_32 rfl (nI_1 j) (by decide) rfl ?_
          refine z_goto X (tgt := 4) dX5_at_35 (by decide) ?_
          refine z_lv [0, 1, 2, 3] (lv' := [(3, .int (nI (j + 1))), (2, .int (nI (ct q j + 1))), (0, .ref b5), (1, .int (nI k9))]) rfl ?_
          refine z_eq (ws' := []) (lv' := [(3, .int (nI (j + 1))), (2, .int (nI (ct q (j + 1)))), (0, .ref b5), (1, .int (nI k9))]) (st' := []) rfl (by rw [ct_s_t hq1]) rfl ?_
          exact ih (j + 1) (by omega) (by rw [ct_s_t hq1]; have h8 : ¬ ct q j = k9 := fun z => c_24 (by rw [z]); omega)
        · skip
          refine z_iload_n X dX5_at_27 rfl (j := 0) rfl ?_
          exact z_endi X hr [] [] rfl rfl rfl ⟨(by rw [nth_is (by omega) hq1 ((nI_eq (by omega) (by omega)).mp c_24)]), rfl⟩ dX5_at_28
  refine z_iconst X (v := 0) dX5_at_0 (by decide) ?_
  refine z_istore_n X (lv' := [(2, .int 0), (0, .ref b5), (1, .int (nI k9))]) dX5_at_1 rfl (by decide) rfl ?_
  refine z_iconst X (v := 0) dX5_at_2 (by decide) ?_
  refine z_istore_n X (lv' := [(3, .int 0), (2, .int 0), (0, .ref b5), (1, .int (nI k9))]) dX5_at_3 rfl (by decide) rfl ?_
  refine z_eq (ws' := []) (lv' := [(3, .int (nI 0)), (2, .int (nI (ct q 0))), (0, .ref b5), (1, .int (nI k9))]) (st' := []) rfl rfl rfl ?_
  exact L (512) 0 (by omega) (Nat.zero_le _)
