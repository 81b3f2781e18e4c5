/-- a row of references, one more at place k -/
def inQ' (F : Nat → Option Nat) (M k a : Nat) : Nat → Option Nat := fun j => if j = k then some a else if j < k then F j else if j ≤ M then F (j - 1) else none
/-! the loom: put, isFact, parts, terms, length, depth -/
theorem inQ_eq {F : Nat → Option Nat} {M k a : Nat} (hk : k ≤ M) : va_cpy F (va_up (va_cpy F (fun _ => none) 0 0 k) k (some a)) k (k + 1) (M - k) = inQ' F M k a := funext fun j => by
  simp only [va_cpy, va_up, inQ']
  by_cases e : j = k
  · subst e; rw [if_neg (by omega), if_pos rfl, if_pos rfl]
  · by_cases g : j < k
    · rw [if_neg (by omega), if_neg e, if_pos (by omega), if_neg e, if_pos g, show 0 + (j - 0) = j by omega]
    · by_cases h : j ≤ M
      · rw [if_pos (by omega), if_neg e, if_neg g, if_pos h, show k + (j - (k + 1)) = j - 1 by omega]
      · rw [if_neg (by omega), if_neg e, if_neg (by omega), if_neg e, if_neg g, if_neg h]
theorem odr_0 {f g : Nat → Int32} : ∀ d k, odr f g d k = 0 ↔ ∀ j, k ≤ j → j < k + d → f j = g j
  | 0, k => ⟨fun _ j h1 h2 => by omega, fun _ => rfl⟩
  | d + 1, k => by
    rw [odr]
    by_cases h : f k = g k
    · rw [if_pos h, odr_0 d (k + 1)]
      constructor
      · intro h2 j h3 h4
        rcases Nat.lt_or_ge k j with g9 | g9
        · exact h2 j (by omega) (by omega)
        · rw [show j = k by omega]; exact h
      · intro h2 j h3 h4; exact h2 j (by omega) (by omega)
    · rw [if_neg h]
      constructor
      · intro h2; exact absurd (by have h3 := congrArg (· + g k) h2; simpa using h3) h
      · intro h2; exact absurd (h2 k (Nat.le_refl k) (by omega)) h
set_option maxHeartbeats 4000000 in
set_option maxRecDepth 100000 in
/-- put: the row is there -/
theorem m_put_old (l : Launch) (D : va_G) (cy : Nat → ClassId) (O : Nat × va_E → Prop) {a0 y9 M P9 v : Nat} {F9 : Nat → Option Nat} {ra x : Nat → Nat} {g9 : Nat → Int32} (hO : O (a0, .inl (cy 6, M, .inr (.inr (.inr (.inr F9)))))) (hrow : ∀ j, j < M → F9 j = some (ra j) ∧ ∃ f : Nat → Int32, O (ra j, .inl (cy 0, P9, .inl f)) ∧ rwF P9 (x j) f) (hx : ∀ j, j < M → x j < 8 ^ P9) (hy : O (y9, .inl (cy 0, P9, .inl g9))) (hg : rwF P9 v g9) (hv : v < 8 ^ P9) (hP3 : P9 ≤ 3) (hM : M ≤ 24) (hold : (ft (fun i => decide (v ≤ x i)) M) < M ∧ x (ft (fun i => decide (v ≤ x i)) M) = v) : Cr l yX10_put (.code yX10_put cX10_put 4 (some (.array (.array .int))) :: WALL) ({ frames := 1, cells := 0, slots := 0, locals := 22 }) D cy O [.ref a0, .ref y9] [] 0 0 (fun (r : Nat) (w : va_W) => r = a0 ∧ w = []) := by
  refine z_metr (by decide) rfl rfl (Nat.le_of_ble_eq_true rfl) ?_
  intro p e s m args below meth c X hr hin
  refine z_eq (ws' := []) (lv' := [(0, .ref a0), (1, .ref y9)]) (st' := []) rfl rfl rfl ?_
  have hel9 : ∀ j, j < M → ∀ y, F9 j = some y → ∃ x : vp_A, O (y, .inl (cy 0, x)) := fun j hj y hy9 => by
    obtain ⟨h1, f, h2, -⟩ := hrow j hj
    rw [h1] at hy9; cases hy9; exact ⟨_, h2⟩
  have LP : ∀ (d : Nat) (k : Nat), k + d = M → (∀ i, i < k → x i < v) → Zz D (va_A [] s.heap.size) 4 p l e ({ frames := 1, cells := 0, slots := 0, locals := 22 }) s m args below meth c (MQ below (va_Qr (fun _ : va_W => True) (fun w a t => (fun (r : Nat) (w : va_W) => r = a0 ∧ w = []) a w ∧ end_ D [] s.heap.size w t) (va_A [] s.heap.size)) args s 0 0 (va_A [] s.heap.size)) [] [(2, .int (nI k)), (0, .ref a0), (1, .ref y9)] 0 0 2 [] := by
    intro d
    induction d with
    | zero =>
      intro k hL0 hL1
      have hkM : k = M := by omega
      have hpl : (ft (fun i => decide (v ≤ x i)) M) = k := ft_is (by omega) (fun i hi => decide_eq_false (Nat.not_le.mpr (hL1 i hi))) (fun z => absurd z (by omega))
      exact absurd hold.1 (by rw [hpl]; omega)
    | succ d ih =>
      intro k hL0 hL1
      obtain ⟨-, f9, hf9, hrf⟩ := hrow k (by omega)
      have hod := odr_lt hrf hg (hx k (by omega)) hv
      refine z_iload_n X dX10_put_2 rfl (j := 0) rfl ?_
      refine z_aload_n X dX10_put_3 rfl (j := 1) rfl ?_
      refine z_alenO X (t := 6) hO rfl (v := (nI M)) rfl dX10_put_4 ?_
      refine z_icmp_ge X (tgt := 24) dX10_put_5 (by decide) (fun c9 => absurd c9 (nI_ge (by omega) (by omega))) (fun c_5 => ?_)
      refine z_aload_n X dX10_put_8 rfl (j := 1) rfl ?_
      refine z_iload_n X dX10_put_9 rfl (j := 0) rfl ?_
      refine z_aaldAO X (t := .int) (k6 := 6) hO rfl (b := (ra k)) (vp_in_nI (by omega) (by omega)) (by rw [nI_clamp (by omega)]; exact (hrow k (by omega)).1) dX10_put_10 ?_
      refine z_aload_n X dX10_put_11 rfl (j := 2) rfl ?_
      refine z_reti X (as := [.ref (ra k), .ref y9]) (wc := []) (wr := []) (rest := []) (fun H9 locs9 ls9 hP9 hS9 hl9 hb9 hp9 => va_runS (As := [.ref (ra k), .ref y9]) (rest := []) X.fix (m_orderR l D cy O hf9 hy (Nat.le_refl _) (by omega) H9.size) (va_cwS 2 X.hts (gS ml_X10_29 sm_X10_order ni_X10 cd_X10_order) rfl rfl rfl (by decide +kernel) ⟨Nat.le_of_ble_eq_true rfl, Nat.le_of_ble_eq_true rfl⟩) ⟨hb9, hp9⟩ rfl rfl hl9.1 rfl (lv_room (Nat.le_of_ble_eq_true rfl)) dX10_put_12 ⟨Nat.le_of_ble_eq_true rfl, Nat.le_of_ble_eq_true rfl⟩) [] [] rfl rfl rfl rfl rfl (by decide) (fun _ h => Or.inl h) (fun r1 w2 h3 => ?_)
      obtain ⟨rfl, rfl⟩ := h3
      refine z_eq (ws' := []) (lv' := [(2, .int (nI k)), (0, .ref a0), (1, .ref y9)]) (st' := [.int (odr f9 g9 P9 0)]) rfl rfl rfl ?_
      refine z_widen (k' := 0) (n' := 0) (Nat.le_refl _) (Nat.le_refl _) ?_
      refine z_if_ge X (tgt := 24) dX10_put_15 (by decide) (fun c_15 => ?_) (fun c_15 => ?_)
      · skip
        have hvk : v ≤ x k := Nat.le_of_not_lt fun z => absurd (hod.1.mpr z) (Int32.not_lt.mpr c_15)
        have hpl : (ft (fun i => decide (v ≤ x i)) M) = k := ft_is (by omega) (fun i hi => decide_eq_false (Nat.not_le.mpr (hL1 i hi))) (fun _ => decide_eq_true hvk)
        refine z_iload_n X dX10_put_24 rfl (j := 0) rfl ?_
        refine z_aload_n X dX10_put_25 rfl (j := 1) rfl ?_
        refine z_alenO X (t := 6) hO rfl (v := (nI M)) rfl dX10_put_26 ?_
        refine z_icmp_ge X (tgt := 42) dX10_put_27 (by decide) (fun c9 => absurd c9 (nI_ge (by omega) (by omega))) (fun c_27 => ?_)
        refine z_aload_n X dX10_put_30 rfl (j := 1) rfl ?_
        refine z_iload_n X dX10_put_31 rfl (j := 0) rfl ?_
        refine z_aaldAO X (t := .int) (k6 := 6) hO rfl (b := (ra k)) (vp_in_nI (by omega) (by omega)) (by rw [nI_clamp (by omega)]; exact (hrow k (by omega)).1) dX10_put_32 ?_
        refine z_aload_n X dX10_put_33 rfl (j := 2) rfl ?_
        refine z_reti X (as := [.ref (ra k), .ref y9]) (wc := []) (wr := []) (rest := []) (fun H9 locs9 ls9 hP9 hS9 hl9 hb9 hp9 => va_runS (As := [.ref (ra k), .ref y9]) (rest := []) X.fix (m_orderR l D cy O hf9 hy (Nat.le_refl _) (by omega) H9.size) (va_cwS 2 X.hts (gS ml_X10_29 sm_X10_order ni_X10 cd_X10_order) rfl rfl rfl (by decide +kernel) ⟨Nat.le_of_ble_eq_true rfl, Nat.le_of_ble_eq_true rfl⟩) ⟨hb9, hp9⟩ rfl rfl hl9.1 rfl (lv_room (Nat.le_of_ble_eq_true rfl)) dX10_put_34 ⟨Nat.le_of_ble_eq_true rfl, Nat.le_of_ble_eq_true rfl⟩) [] [] rfl rfl rfl rfl rfl (by decide) (fun _ h => Or.inl h) (fun r4 w5 h6 => ?_)
        obtain ⟨rfl, rfl⟩ := h6
        refine z_eq (ws' := []) (lv' := [(2, .int (nI k)), (0, .ref a0), (1, .ref y9)]) (st' := [.int (odr f9 g9 P9 0)]) rfl rfl rfl ?_
        refine z_widen (k' := 0) (n' := 0) (Nat.le_refl _) (Nat.le_refl _) ?_
        refine z_if_ne X (tgt := 42) dX10_put_37 (by decide) (fun c9 => absurd (hod.2.mpr (by rw [← hold.2, hpl])) c9) (fun c_37 => ?_)
        refine z_aload_n X dX10_put_40 rfl (j := 1) rfl ?_
        exact z_endr X (Or.inr ⟨_, rfl⟩) hr [] [] rfl rfl rfl ⟨rfl, rfl⟩ dX10_put_41
      · skip
        refine z_iinc X (j := 0) (v := (nI (k + 1))) (lv' := [(2, .int (nI (k + 1))), (0, .ref a0), (1, .ref y9)]) dX10_put_18 rfl (nI_1 k) (by decide) rfl ?_
        refine z_goto X (tgt := 2) dX10_put_21 (by decide) ?_
        refine z_eq (ws' := []) (lv' := [(2, .int (nI (k + 1))), (0, .ref a0), (1, .ref y9)]) (st' := []) rfl rfl rfl ?_
        exact ih (k + 1) (by omega) (fun i hi => by rcases Nat.lt_or_ge i k with g9 | g9; exact hL1 i g9; rw [show i = k by omega]; exact hod.1.mp (Int32.not_le.mp c_15))
  refine z_iconst X (v := 0) dX10_put_0 (by decide) ?_
  refine z_istore_n X (lv' := [(2, .int 0), (0, .ref a0), (1, .ref y9)]) dX10_put_1 rfl (by decide) rfl ?_
  refine z_eq (ws' := []) (lv' := [(2, .int (nI 0)), (0, .ref a0), (1, .ref y9)]) (st' := []) rfl rfl rfl ?_
  exact LP M 0 (by omega) (fun i hi => by omega)
set_option maxHeartbeats 4000000 in
set_option maxRecDepth 100000 in
/-- put: a new row -/
theorem m_put_new (l : Launch) (D : va_G) (cy : Nat → ClassId) (O : Nat × va_E → Prop) {a0 y9 M P9 v : Nat} {F9 : Nat → Option Nat} {ra x : Nat → Nat} {g9 : Nat → Int32} (hO : O (a0, .inl (cy 6, M, .inr (.inr (.inr (.inr F9)))))) (hrow : ∀ j, j < M → F9 j = some (ra j) ∧ ∃ f : Nat → Int32, O (ra j, .inl (cy 0, P9, .inl f)) ∧ rwF P9 (x j) f) (hx : ∀ j, j < M → x j < 8 ^ P9) (hy : O (y9, .inl (cy 0, P9, .inl g9))) (hg : rwF P9 v g9) (hv : v < 8 ^ P9) (hP3 : P9 ≤ 3) (hM : M ≤ 24) (hnew : ¬ ((ft (fun i => decide (v ≤ x i)) M) < M ∧ x (ft (fun i => decide (v ≤ x i)) M) = v)) : Cr l yX10_put (.code yX10_put cX10_put 4 (some (.array (.array .int))) :: WALL) ({ frames := 1, cells := 1, slots := (M + 1), locals := 22 }) D cy O [.ref a0, .ref y9] [] 1 (M + 1) (fun (r : Nat) (w : va_W) => w = [(r, .inl (cy 6, M + 1, .inr (.inr (.inr (.inr (inQ' F9 M (ft (fun i => decide (v ≤ x i)) M) y9))))))]) := by
  refine z_metr (by decide) rfl rfl (Nat.le_of_ble_eq_true rfl) ?_
  intro p e s m args below meth c X hr hin
  refine z_eq (ws' := []) (lv' := [(0, .ref a0), (1, .ref y9)]) (st' := []) rfl rfl rfl ?_
  have hel9 : ∀ j, j < M → ∀ y, F9 j = some y → ∃ x : vp_A, O (y, .inl (cy 0, x)) := fun j hj y hy9 => by
    obtain ⟨h1, f, h2, -⟩ := hrow j hj
    rw [h1] at hy9; cases hy9; exact ⟨_, h2⟩
  have LP : ∀ (d : Nat) (k : Nat), k + d = M → (∀ i, i < k → x i < v) → Zz D (va_A [] s.heap.size) 4 p l e ({ frames := 1, cells := 1, slots := (M + 1), locals := 22 }) s m args below meth c (MQ below (va_Qr (fun _ : va_W => True) (fun w a t => (fun (r : Nat) (w : va_W) => w = [(r, .inl (cy 6, M + 1, .inr (.inr (.inr (.inr (inQ' F9 M (ft (fun i => decide (v ≤ x i)) M) y9))))))]) a w ∧ end_ D [] s.heap.size w t) (va_A [] s.heap.size)) args s 1 (M + 1) (va_A [] s.heap.size)) [] [(2, .int (nI k)), (0, .ref a0), (1, .ref y9)] 0 0 2 [] := by
    intro d
    induction d with
    | zero =>
      intro k hL0 hL1
      have hkM : k = M := by omega
      have hpl : (ft (fun i => decide (v ≤ x i)) M) = k := ft_is (by omega) (fun i hi => decide_eq_false (Nat.not_le.mpr (hL1 i hi))) (fun z => absurd z (by omega))
      refine z_iload_n X dX10_put_2 rfl (j := 0) rfl ?_
      refine z_aload_n X dX10_put_3 rfl (j := 1) rfl ?_
      refine z_alenO X (t := 6) hO rfl (v := (nI M)) rfl dX10_put_4 ?_
      refine z_icmp_ge X (tgt := 24) dX10_put_5 (by decide) (fun c_5 => ?_) (fun c9 => absurd (by rw [hkM]; exact nI_le (Nat.le_refl _) (by omega)) c9)
      refine z_iload_n X dX10_put_24 rfl (j := 0) rfl ?_
      refine z_aload_n X dX10_put_25 rfl (j := 1) rfl ?_
      refine z_alenO X (t := 6) hO rfl (v := (nI M)) rfl dX10_put_26 ?_
      refine z_icmp_ge X (tgt := 42) dX10_put_27 (by decide) (fun c_27 => ?_) (fun c9 => absurd (by rw [hkM]; exact nI_le (Nat.le_refl _) (by omega)) c9)
      refine z_aload_n X dX10_put_42 rfl (j := 1) rfl ?_
      refine z_alenO X (t := 6) hO rfl (v := (nI M)) rfl dX10_put_43 ?_
      refine z_iconst X (v := 1) dX10_put_44 (by decide) ?_
      refine z_iadd X (v := (nI (M + 1))) dX10_put_45 (nI_1 M) ?_
      refine z_newA X (t := .int) (k6 := 6) (N := (M + 1)) (List.mem_of_getElem? (i := 0) rfl) rfl cl_X10_19 (nI_pos (by omega)) (nI_clamp (by omega)) (by omega) (Nat.le_of_ble_eq_true rfl) (by show 0 + (M + 1) ≤ M + 1; omega) dX10_put_46 (fun q9 => ?_)
      refine z_eq (ws' := [(q9, .inl (cy 6, (M + 1), .inr (.inr (.inr (.inr (fun _ => none))))))]) (lv' := [(2, .int (nI k)), (0, .ref a0), (1, .ref y9)]) (st' := [.ref q9]) rfl rfl rfl ?_
      refine z_widen (k' := 1) (n' := (0 + (M + 1))) (Nat.le_of_ble_eq_true rfl) (by omega) ?_
      refine z_astore_n X (lv' := [(3, .ref q9), (2, .int (nI k)), (0, .ref a0), (1, .ref y9)]) dX10_put_49 rfl (by decide) rfl ?_
      refine z_aload_n X dX10_put_50 rfl (j := 2) rfl ?_
      refine z_iconst X (v := 0) dX10_put_51 (by decide) ?_
      refine z_aload_n X dX10_put_52 rfl (j := 0) rfl ?_
      refine z_iconst X (v := 0) dX10_put_53 (by decide) ?_
      refine z_iload_n X dX10_put_54 rfl (j := 1) rfl ?_
      refine z_copyA X ml_X10_23 (t := .int) (k5 := 0) (k6 := 6) (List.mem_of_getElem? (i := 0) rfl) rfl rfl (fun h9 => h9) 0 hO rfl (by decide) (by decide) (nI_pos (by omega)) (by rw [nI_clamp (by omega), show (0 : Int32).toNatClampNeg = 0 from rfl]; omega) (by rw [nI_clamp (by omega), show (0 : Int32).toNatClampNeg = 0 from rfl]; omega) (fun i hi y hy9 => hel9 _ (by have h9 := hi; rw [nI_clamp (by omega)] at h9; show 0 + i < M; omega) y hy9) (Nat.le_of_ble_eq_true rfl) (Nat.le_of_ble_eq_true rfl) dX10_put_55 (ws' := [(q9, .inl (cy 6, (M + 1), .inr (.inr (.inr (.inr (va_cpy F9 (fun _ => none) 0 0 k))))))]) (by rw [nI_clamp (by omega)]; rfl) ?_
      refine z_aload_n X dX10_put_58 rfl (j := 0) rfl ?_
      refine z_iload_n X dX10_put_59 rfl (j := 1) rfl ?_
      refine z_aload_n X dX10_put_60 rfl (j := 3) rfl ?_
      refine z_aastAO X (t := .int) (k5 := 0) (k6 := 6) (List.mem_of_getElem? (i := 0) rfl) rfl rfl (fun h9 => h9) 0 rfl hy (vp_in_nI (by omega) (by omega)) (ws' := [(q9, .inl (cy 6, (M + 1), .inr (.inr (.inr (.inr (va_up (va_cpy F9 (fun _ => none) 0 0 k) k (some y9)))))))]) (by rw [nI_clamp (by omega)]; rfl) dX10_put_61 ?_
      refine z_aload_n X dX10_put_62 rfl (j := 2) rfl ?_
      refine z_iload_n X dX10_put_63 rfl (j := 1) rfl ?_
      refine z_aload_n X dX10_put_64 rfl (j := 0) rfl ?_
      refine z_iload_n X dX10_put_65 rfl (j := 1) rfl ?_
      refine z_iconst X (v := 1) dX10_put_66 (by decide) ?_
      refine z_iadd X (v := (nI (k + 1))) dX10_put_67 (nI_1 k) ?_
      refine z_aload_n X dX10_put_68 rfl (j := 2) rfl ?_
      refine z_alenO X (t := 6) hO rfl (v := (nI M)) rfl dX10_put_69 ?_
      refine z_iload_n X dX10_put_70 rfl (j := 1) rfl ?_
      refine z_isub X (v := (nI (M - k))) dX10_put_71 (pk_sub (by omega)) ?_
      refine z_copyA X ml_X10_23 (t := .int) (k5 := 0) (k6 := 6) (List.mem_of_getElem? (i := 0) rfl) rfl rfl (fun h9 => h9) 0 hO rfl (nI_pos (by omega)) (nI_pos (by omega)) (nI_pos (by omega)) (by rw [nI_clamp (show k < 2 ^ 31 by omega), nI_clamp (show M - k < 2 ^ 31 by omega)]; omega) (by rw [nI_clamp (show k + 1 < 2 ^ 31 by omega), nI_clamp (show M - k < 2 ^ 31 by omega)]; omega) (fun i hi y hy9 => hel9 _ (by have h9 := hi; rw [nI_clamp (by omega)] at h9 ⊢; omega) y hy9) (Nat.le_of_ble_eq_true rfl) (Nat.le_of_ble_eq_true rfl) dX10_put_72 (ws' := [(q9, .inl (cy 6, (M + 1), .inr (.inr (.inr (.inr (inQ' F9 M k y9))))))]) (by rw [nI_clamp (show k < 2 ^ 31 by omega), nI_clamp (show k + 1 < 2 ^ 31 by omega), nI_clamp (show M - k < 2 ^ 31 by omega), inQ_eq (by omega)]; rfl) ?_
      refine z_aload_n X dX10_put_75 rfl (j := 0) rfl ?_
      refine z_widen (k' := 1) (n' := (M + 1)) (by omega) (by omega) ?_
      exact z_endr X (Or.inr ⟨_, rfl⟩) hr [(q9, .inl (cy 6, (M + 1), .inr (.inr (.inr (.inr (inQ' F9 M k y9))))))] [0] rfl rfl rfl (by rw [hpl]) dX10_put_76
    | succ d ih =>
      intro k hL0 hL1
      obtain ⟨-, f9, hf9, hrf⟩ := hrow k (by omega)
      have hod := odr_lt hrf hg (hx k (by omega)) hv
      refine z_iload_n X dX10_put_2 rfl (j := 0) rfl ?_
      refine z_aload_n X dX10_put_3 rfl (j := 1) rfl ?_
      refine z_alenO X (t := 6) hO rfl (v := (nI M)) rfl dX10_put_4 ?_
      refine z_icmp_ge X (tgt := 24) dX10_put_5 (by decide) (fun c9 => absurd c9 (nI_ge (by omega) (by omega))) (fun c_5 => ?_)
      refine z_aload_n X dX10_put_8 rfl (j := 1) rfl ?_
      refine z_iload_n X dX10_put_9 rfl (j := 0) rfl ?_
      refine z_aaldAO X (t := .int) (k6 := 6) hO rfl (b := (ra k)) (vp_in_nI (by omega) (by omega)) (by rw [nI_clamp (by omega)]; exact (hrow k (by omega)).1) dX10_put_10 ?_
      refine z_aload_n X dX10_put_11 rfl (j := 2) rfl ?_
      refine z_reti X (as := [.ref (ra k), .ref y9]) (wc := []) (wr := []) (rest := []) (fun H9 locs9 ls9 hP9 hS9 hl9 hb9 hp9 => va_runS (As := [.ref (ra k), .ref y9]) (rest := []) X.fix (m_orderR l D cy O hf9 hy (Nat.le_refl _) (by omega) H9.size) (va_cwS 2 X.hts (gS ml_X10_29 sm_X10_order ni_X10 cd_X10_order) rfl rfl rfl (by decide +kernel) ⟨Nat.le_of_ble_eq_true rfl, Nat.le_of_ble_eq_true rfl⟩) ⟨hb9, hp9⟩ rfl rfl hl9.1 rfl (lv_room (Nat.le_of_ble_eq_true rfl)) dX10_put_12 ⟨Nat.le_of_ble_eq_true rfl, Nat.le_of_ble_eq_true rfl⟩) [] [] rfl rfl rfl rfl rfl (by decide) (fun _ h => Or.inl h) (fun r1 w2 h3 => ?_)
      obtain ⟨rfl, rfl⟩ := h3
      refine z_eq (ws' := []) (lv' := [(2, .int (nI k)), (0, .ref a0), (1, .ref y9)]) (st' := [.int (odr f9 g9 P9 0)]) rfl rfl rfl ?_
      refine z_widen (k' := 0) (n' := 0) (Nat.le_refl _) (Nat.le_refl _) ?_
      refine z_if_ge X (tgt := 24) dX10_put_15 (by decide) (fun c_15 => ?_) (fun c_15 => ?_)
      · skip
        have hvk : v ≤ x k := Nat.le_of_not_lt fun z => absurd (hod.1.mpr z) (Int32.not_lt.mpr c_15)
        have hpl : (ft (fun i => decide (v ≤ x i)) M) = k := ft_is (by omega) (fun i hi => decide_eq_false (Nat.not_le.mpr (hL1 i hi))) (fun _ => decide_eq_true hvk)
        refine z_iload_n X dX10_put_24 rfl (j := 0) rfl ?_
        refine z_aload_n X dX10_put_25 rfl (j := 1) rfl ?_
        refine z_alenO X (t := 6) hO rfl (v := (nI M)) rfl dX10_put_26 ?_
        refine z_icmp_ge X (tgt := 42) dX10_put_27 (by decide) (fun c9 => absurd c9 (nI_ge (by omega) (by omega))) (fun c_27 => ?_)
        refine z_aload_n X dX10_put_30 rfl (j := 1) rfl ?_
        refine z_iload_n X dX10_put_31 rfl (j := 0) rfl ?_
        refine z_aaldAO X (t := .int) (k6 := 6) hO rfl (b := (ra k)) (vp_in_nI (by omega) (by omega)) (by rw [nI_clamp (by omega)]; exact (hrow k (by omega)).1) dX10_put_32 ?_
        refine z_aload_n X dX10_put_33 rfl (j := 2) rfl ?_
        refine z_reti X (as := [.ref (ra k), .ref y9]) (wc := []) (wr := []) (rest := []) (fun H9 locs9 ls9 hP9 hS9 hl9 hb9 hp9 => va_runS (As := [.ref (ra k), .ref y9]) (rest := []) X.fix (m_orderR l D cy O hf9 hy (Nat.le_refl _) (by omega) H9.size) (va_cwS 2 X.hts (gS ml_X10_29 sm_X10_order ni_X10 cd_X10_order) rfl rfl rfl (by decide +kernel) ⟨Nat.le_of_ble_eq_true rfl, Nat.le_of_ble_eq_true rfl⟩) ⟨hb9, hp9⟩ rfl rfl hl9.1 rfl (lv_room (Nat.le_of_ble_eq_true rfl)) dX10_put_34 ⟨Nat.le_of_ble_eq_true rfl, Nat.le_of_ble_eq_true rfl⟩) [] [] rfl rfl rfl rfl rfl (by decide) (fun _ h => Or.inl h) (fun r4 w5 h6 => ?_)
        obtain ⟨rfl, rfl⟩ := h6
        refine z_eq (ws' := []) (lv' := [(2, .int (nI k)), (0, .ref a0), (1, .ref y9)]) (st' := [.int (odr f9 g9 P9 0)]) rfl rfl rfl ?_
        refine z_widen (k' := 0) (n' := 0) (Nat.le_refl _) (Nat.le_refl _) ?_
        refine z_if_ne X (tgt := 42) dX10_put_37 (by decide) (fun c_37 => ?_) (fun c9 => absurd c9 (fun z => hnew ⟨by rw [hpl]; omega, by rw [hpl]; exact hod.2.mp z⟩))
        refine z_aload_n X dX10_put_42 rfl (j := 1) rfl ?_
        refine z_alenO X (t := 6) hO rfl (v := (nI M)) rfl dX10_put_43 ?_
        refine z_iconst X (v := 1) dX10_put_44 (by decide) ?_
        refine z_iadd X (v := (nI (M + 1))) dX10_put_45 (nI_1 M) ?_
        refine z_newA X (t := .int) (k6 := 6) (N := (M + 1)) (List.mem_of_getElem? (i := 0) rfl) rfl cl_X10_19 (nI_pos (by omega)) (nI_clamp (by omega)) (by omega) (Nat.le_of_ble_eq_true rfl) (by show 0 + (M + 1) ≤ M + 1; omega) dX10_put_46 (fun q9 => ?_)
        refine z_eq (ws' := [(q9, .inl (cy 6, (M + 1), .inr (.inr (.inr (.inr (fun _ => none))))))]) (lv' := [(2, .int (nI k)), (0, .ref a0), (1, .ref y9)]) (st' := [.ref q9]) rfl rfl rfl ?_
        refine z_widen (k' := 1) (n' := (0 + (M + 1))) (Nat.le_of_ble_eq_true rfl) (by omega) ?_
        refine z_astore_n X (lv' := [(3, .ref q9), (2, .int (nI k)), (0, .ref a0), (1, .ref y9)]) dX10_put_49 rfl (by decide) rfl ?_
        refine z_aload_n X dX10_put_50 rfl (j := 2) rfl ?_
        refine z_iconst X (v := 0) dX10_put_51 (by decide) ?_
        refine z_aload_n X dX10_put_52 rfl (j := 0) rfl ?_
        refine z_iconst X (v := 0) dX10_put_53 (by decide) ?_
        refine z_iload_n X dX10_put_54 rfl (j := 1) rfl ?_
        refine z_copyA X ml_X10_23 (t := .int) (k5 := 0) (k6 := 6) (List.mem_of_getElem? (i := 0) rfl) rfl rfl (fun h9 => h9) 0 hO rfl (by decide) (by decide) (nI_pos (by omega)) (by rw [nI_clamp (by omega), show (0 : Int32).toNatClampNeg = 0 from rfl]; omega) (by rw [nI_clamp (by omega), show (0 : Int32).toNatClampNeg = 0 from rfl]; omega) (fun i hi y hy9 => hel9 _ (by have h9 := hi; rw [nI_clamp (by omega)] at h9; show 0 + i < M; omega) y hy9) (Nat.le_of_ble_eq_true rfl) (Nat.le_of_ble_eq_true rfl) dX10_put_55 (ws' := [(q9, .inl (cy 6, (M + 1), .inr (.inr (.inr (.inr (va_cpy F9 (fun _ => none) 0 0 k))))))]) (by rw [nI_clamp (by omega)]; rfl) ?_
        refine z_aload_n X dX10_put_58 rfl (j := 0) rfl ?_
        refine z_iload_n X dX10_put_59 rfl (j := 1) rfl ?_
        refine z_aload_n X dX10_put_60 rfl (j := 3) rfl ?_
        refine z_aastAO X (t := .int) (k5 := 0) (k6 := 6) (List.mem_of_getElem? (i := 0) rfl) rfl rfl (fun h9 => h9) 0 rfl hy (vp_in_nI (by omega) (by omega)) (ws' := [(q9, .inl (cy 6, (M + 1), .inr (.inr (.inr (.inr (va_up (va_cpy F9 (fun _ => none) 0 0 k) k (some y9)))))))]) (by rw [nI_clamp (by omega)]; rfl) dX10_put_61 ?_
        refine z_aload_n X dX10_put_62 rfl (j := 2) rfl ?_
        refine z_iload_n X dX10_put_63 rfl (j := 1) rfl ?_
        refine z_aload_n X dX10_put_64 rfl (j := 0) rfl ?_
        refine z_iload_n X dX10_put_65 rfl (j := 1) rfl ?_
        refine z_iconst X (v := 1) dX10_put_66 (by decide) ?_
        refine z_iadd X (v := (nI (k + 1))) dX10_put_67 (nI_1 k) ?_
        refine z_aload_n X dX10_put_68 rfl (j := 2) rfl ?_
        refine z_alenO X (t := 6) hO rfl (v := (nI M)) rfl dX10_put_69 ?_
        refine z_iload_n X dX10_put_70 rfl (j := 1) rfl ?_
        refine z_isub X (v := (nI (M - k))) dX10_put_71 (pk_sub (by omega)) ?_
        refine z_copyA X ml_X10_23 (t := .int) (k5 := 0) (k6 := 6) (List.mem_of_getElem? (i := 0) rfl) rfl rfl (fun h9 => h9) 0 hO rfl (nI_pos (by omega)) (nI_pos (by omega)) (nI_pos (by omega)) (by rw [nI_clamp (show k < 2 ^ 31 by omega), nI_clamp (show M - k < 2 ^ 31 by omega)]; omega) (by rw [nI_clamp (show k + 1 < 2 ^ 31 by omega), nI_clamp (show M - k < 2 ^ 31 by omega)]; omega) (fun i hi y hy9 => hel9 _ (by have h9 := hi; rw [nI_clamp (by omega)] at h9 ⊢; omega) y hy9) (Nat.le_of_ble_eq_true rfl) (Nat.le_of_ble_eq_true rfl) dX10_put_72 (ws' := [(q9, .inl (cy 6, (M + 1), .inr (.inr (.inr (.inr (inQ' F9 M k y9))))))]) (by rw [nI_clamp (show k < 2 ^ 31 by omega), nI_clamp (show k + 1 < 2 ^ 31 by omega), nI_clamp (show M - k < 2 ^ 31 by omega), inQ_eq (by omega)]; rfl) ?_
        refine z_aload_n X dX10_put_75 rfl (j := 0) rfl ?_
        refine z_widen (k' := 1) (n' := (M + 1)) (by omega) (by omega) ?_
        exact z_endr X (Or.inr ⟨_, rfl⟩) hr [(q9, .inl (cy 6, (M + 1), .inr (.inr (.inr (.inr (inQ' F9 M k y9))))))] [0] rfl rfl rfl (by rw [hpl]) dX10_put_76
      · skip
        refine z_iinc X (j := 0) (v := (nI (k + 1))) (lv' := [(2, .int (nI (k + 1))), (0, .ref a0), (1, .ref y9)]) dX10_put_18 rfl (nI_1 k) (by decide) rfl ?_
        refine z_goto X (tgt := 2) dX10_put_21 (by decide) ?_
        refine z_eq (ws' := []) (lv' := [(2, .int (nI (k + 1))), (0, .ref a0), (1, .ref y9)]) (st' := []) rfl rfl rfl ?_
        exact ih (k + 1) (by omega) (fun i hi => by rcases Nat.lt_or_ge i k with g9 | g9; exact hL1 i g9; rw [show i = k by omega]; exact hod.1.mp (Int32.not_le.mp c_15))
  refine z_iconst X (v := 0) dX10_put_0 (by decide) ?_
  refine z_istore_n X (lv' := [(2, .int 0), (0, .ref a0), (1, .ref y9)]) dX10_put_1 rfl (by decide) rfl ?_
  refine z_eq (ws' := []) (lv' := [(2, .int (nI 0)), (0, .ref a0), (1, .ref y9)]) (st' := []) rfl rfl rfl ?_
  exact LP M 0 (by omega) (fun i hi => by omega)
set_option maxHeartbeats 4000000 in
set_option maxRecDepth 100000 in
/-- isFact(relation, row) -/
theorem m_isFact (l : Launch) (D : va_G) (cy : Nat → ClassId) (O : Nat × va_E → Prop) {lo pl fx fm b y9 r9 rc n8 : Nat} {FX : Nat → Option Nat} {r : RRow} {f : Nat → Nat} {g9 : Nat → Int32} (hO : O (lo, .inr (10, [.ref pl, .ref fx, .ref fm]))) (hX9 : O (fx, .inl (cy 7, rc, .inr (.inr (.inr (.inr FX)))))) (hr9 : r9 < rc) (hrc : rc ≤ 6) (hb : FX r9 = some b) (hF : FrO O cy b r) (hM : r.2.1 ≤ 24) (hP3 : r.1 ≤ 3) (hy : O (y9, .inl (cy 0, n8, .inl g9))) (hn8 : r.1 ≤ n8) (hn31 : n8 ≤ 8) (hg : ∀ u, u < r.1 → g9 u = nI (f u) ∧ f u < 2 ^ 31) : Ci l yX10_isFact (.code yX10_isFact cX10_isFact 7 (some .boolean) :: WALL) ({ frames := 1, cells := 0, slots := 0, locals := 22 }) D cy O [.ref lo, .int (nI r9), .ref y9] [] 0 0 (fun (z : Int32) (w : va_W) => z = bit (exB (fun k => rok r.1 (r.2.2 k) f r.1) r.2.1) ∧ w = []) := by
  obtain ⟨F9, ra, hB, hrow⟩ := hF
  refine z_meti (by decide) rfl rfl (Nat.le_of_ble_eq_true rfl) ?_
  intro p e s m args below meth c X hr hin
  refine z_eq (ws' := []) (lv' := [(0, .ref lo), (1, .int (nI r9)), (2, .ref y9)]) (st' := []) rfl rfl rfl ?_
  have LP : ∀ (d : Nat) (k : Nat), k + d = r.2.1 → exB (fun k => rok r.1 (r.2.2 k) f r.1) k = false → Zz D (va_A [] s.heap.size) 7 p l e ({ frames := 1, cells := 0, slots := 0, locals := 22 }) s m args below meth c (MQ below (va_Qi (fun (z : Int32) (w : va_W) => z = bit (exB (fun k => rok r.1 (r.2.2 k) f r.1) r.2.1) ∧ w = []) (end_ D [] s.heap.size) (va_A [] s.heap.size)) args s 0 0 (va_A [] s.heap.size)) [] [(5, .int (nI k)), (4, .int (nI r.2.1)), (3, .ref b), (0, .ref lo), (1, .int (nI r9)), (2, .ref y9)] 0 0 14 [] := by
    intro d
    induction d with
    | zero =>
      intro k hL0 hL1
      refine z_iload X dX10_isFact_14 (j := 0) rfl ?_
      refine z_iload X dX10_isFact_16 (j := 1) rfl ?_
      refine z_icmp_ge X (tgt := 44) dX10_isFact_18 (by decide) (fun c_18 => ?_) (fun c9 => absurd (by rw [show k = r.2.1 by omega]; exact nI_le (Nat.le_refl _) (by omega)) c9)
      refine z_iconst X (v := 0) dX10_isFact_44 (by decide) ?_
      exact z_endz X hr (Or.inl rfl) [] [] rfl rfl rfl ⟨(by rw [show r.2.1 = k by omega, hL1]; rfl), rfl⟩ dX10_isFact_45
    | succ d ih =>
      intro k hL0 hL1
      obtain ⟨-, f9, hf9, hrf⟩ := hrow k (by omega)
      have hod : odr f9 g9 r.1 0 = 0 ↔ rok r.1 (r.2.2 k) f r.1 = true := by
        rw [odr_0, rok_iff]
        refine ⟨fun h u hu => ?_, fun h j _ hj => ?_⟩
        · have h1 := h u (Nat.zero_le _) (by omega)
          rw [hrf u hu, (hg u hu).1] at h1
          exact (nI_eq (Nat.lt_trans (dg_lt _ _ _) (by decide)) (hg u hu).2).mp h1
        · rw [hrf j (by omega), (hg j (by omega)).1, h j (by omega)]
      refine z_iload X dX10_isFact_14 (j := 0) rfl ?_
      refine z_iload X dX10_isFact_16 (j := 1) rfl ?_
      refine z_icmp_ge X (tgt := 44) dX10_isFact_18 (by decide) (fun c9 => absurd c9 (nI_ge (by omega) (by omega))) (fun c_18 => ?_)
      refine z_aload_n X dX10_isFact_21 rfl (j := 2) rfl ?_
      refine z_iload X dX10_isFact_22 (j := 0) rfl ?_
      refine z_aaldAO X (t := .int) (k6 := 6) hB rfl (b := (ra k)) (vp_in_nI (by omega) (by omega)) (by rw [nI_clamp (by omega)]; exact (hrow k (by omega)).1) dX10_isFact_24 ?_
      refine z_astore X (lv' := [(6, .ref (ra k)), (5, .int (nI k)), (4, .int (nI r.2.1)), (3, .ref b), (0, .ref lo), (1, .int (nI r9)), (2, .ref y9)]) dX10_isFact_25 (by decide) rfl ?_
      refine z_aload X dX10_isFact_27 (j := 0) rfl ?_
      refine z_aload_n X dX10_isFact_29 rfl (j := 6) rfl ?_
      refine z_reti X (as := [.ref (ra k), .ref y9]) (wc := []) (wr := []) (rest := []) (fun H9 locs9 ls9 hP9 hS9 hl9 hb9 hp9 => va_runS (As := [.ref (ra k), .ref y9]) (rest := []) X.fix (m_orderR l D cy O hf9 hy hn8 (by omega) H9.size) (va_cwS 2 X.hts (gS ml_X10_29 sm_X10_order ni_X10 cd_X10_order) rfl rfl rfl (by decide +kernel) ⟨Nat.le_of_ble_eq_true rfl, Nat.le_of_ble_eq_true rfl⟩) ⟨hb9, hp9⟩ rfl rfl hl9.1 rfl (lv_room (Nat.le_of_ble_eq_true rfl)) dX10_isFact_30 ⟨Nat.le_of_ble_eq_true rfl, Nat.le_of_ble_eq_true rfl⟩) [] [] rfl rfl rfl rfl rfl (by decide) (fun _ h => Or.inl h) (fun r1 w2 h3 => ?_)
      obtain ⟨rfl, rfl⟩ := h3
      refine z_eq (ws' := []) (lv' := [(6, .ref (ra k)), (5, .int (nI k)), (4, .int (nI r.2.1)), (3, .ref b), (0, .ref lo), (1, .int (nI r9)), (2, .ref y9)]) (st' := [.int (odr f9 g9 r.1 0)]) rfl rfl rfl ?_
      refine z_widen (k' := 0) (n' := 0) (Nat.le_refl _) (Nat.le_refl _) ?_
      refine z_if_ne X (tgt := 38) dX10_isFact_33 (by decide) (fun c_33 => ?_) (fun c_33 => ?_)
      · skip
        refine z_iinc X (j := 1) (v := (nI (k + 1))) (lv' := [(5, .int (nI (k + 1))), (6, .ref (ra k)), (4, .int (nI r.2.1)), (3, .ref b), (0, .ref lo), (1, .int (nI r9)), (2, .ref y9)]) dX10_isFact_38 rfl (nI_1 k) (by decide) rfl ?_
        refine z_goto X (tgt := 14) dX10_isFact_41 (by decide) ?_
        refine z_lv [0, 2, 3, 4, 5, 6] (lv' := [(5, .int (nI (k + 1))), (4, .int (nI r.2.1)), (3, .ref b), (0, .ref lo), (1, .int (nI r9)), (2, .ref y9)]) rfl ?_
        refine z_eq (ws' := []) (lv' := [(5, .int (nI (k + 1))), (4, .int (nI r.2.1)), (3, .ref b), (0, .ref lo), (1, .int (nI r9)), (2, .ref y9)]) (st' := []) rfl rfl rfl ?_
        exact ih (k + 1) (by omega) (by rw [exB, hL1, Bool.eq_false_iff.mpr (fun z => c_33 (hod.mpr z))]; rfl)
      · skip
        refine z_iconst X (v := 1) dX10_isFact_36 (by decide) ?_
        exact z_endz X hr (Or.inr rfl) [] [] rfl rfl rfl ⟨(by rw [exB_iff.mpr ⟨k, by omega, hod.mp c_33⟩]; rfl), rfl⟩ dX10_isFact_37
  refine z_aload_n X dX10_isFact_0 rfl (j := 0) rfl ?_
  refine z_getO X (ci := 10) (C := RX10) (T := TX10) (N := 3) inX10 hO rfl 1 (by decide) fl_X10_15 (fun _ h9 => h9) rfl dX10_isFact_1 ?_
  refine z_iload_n X dX10_isFact_4 rfl (j := 1) rfl ?_
  refine z_aaldAO X (t := .array .int) (k6 := 7) hX9 rfl (b := b) (vp_in_nI hr9 (by omega)) (by rw [nI_clamp (by omega)]; exact hb) dX10_isFact_5 ?_
  refine z_astore_n X (lv' := [(3, .ref b), (0, .ref lo), (1, .int (nI r9)), (2, .ref y9)]) dX10_isFact_6 rfl (by decide) rfl ?_
  refine z_aload_n X dX10_isFact_7 rfl (j := 0) rfl ?_
  refine z_alenO X (t := 6) hB rfl (v := (nI r.2.1)) rfl dX10_isFact_8 ?_
  refine z_istore X (lv' := [(4, .int (nI r.2.1)), (3, .ref b), (0, .ref lo), (1, .int (nI r9)), (2, .ref y9)]) dX10_isFact_9 (by decide) rfl ?_
  refine z_iconst X (v := 0) dX10_isFact_11 (by decide) ?_
  refine z_istore X (lv' := [(5, .int 0), (4, .int (nI r.2.1)), (3, .ref b), (0, .ref lo), (1, .int (nI r9)), (2, .ref y9)]) dX10_isFact_12 (by decide) rfl ?_
  refine z_eq (ws' := []) (lv' := [(5, .int (nI 0)), (4, .int (nI r.2.1)), (3, .ref b), (0, .ref lo), (1, .int (nI r9)), (2, .ref y9)]) (st' := []) rfl rfl rfl ?_
  exact LP r.2.1 0 (by omega) rfl
set_option maxHeartbeats 4000000 in
set_option maxRecDepth 100000 in
/-- parts(row) -/
theorem m_parts_0 (l : Launch) (D : va_G) (cy : Nat → ClassId) (O : Nat × va_E → Prop) {lo y9 kd : Nat} {g9 : Nat → Int32} (hy : O (y9, .inl (cy 0, 8, .inl g9))) (hk : g9 0 = nI kd) (hkd : kd < 2 ^ 31) (h9 : kd < 2) : Ci l yX10_parts (.code yX10_parts cX10_parts 2 (some .int) :: WALL) ({ frames := 0, cells := 0, slots := 0, locals := 0 }) D cy O [.ref lo, .ref y9] [] 0 0 (fun (r : Int32) (w : va_W) => r = 0 ∧ w = []) := by
  refine z_meti (by decide) rfl rfl (Nat.le_of_ble_eq_true rfl) ?_
  intro p e s m args below meth c X hr hin
  refine z_eq (ws' := []) (lv' := [(0, .ref lo), (1, .ref y9)]) (st' := []) rfl rfl rfl ?_
  refine z_aload_n X dX10_parts_0 rfl (j := 1) rfl ?_
  refine z_iconst X (v := 0) dX10_parts_1 (by decide) ?_
  refine z_ialdO X hy (v := (nI kd)) (by unfold vp_in; decide) hk dX10_parts_2 ?_
  refine z_iconst X (v := 2) dX10_parts_3 (by decide) ?_
  refine z_icmp_ge X (tgt := 11) dX10_parts_4 (by decide) (fun c9 => absurd c9 (nI_ge (a := kd) (b := 2) h9 (by decide))) (fun c_4 => ?_)
  refine z_iconst X (v := 0) dX10_parts_7 (by decide) ?_
  refine z_goto X (tgt := 30) dX10_parts_8 (by decide) ?_
  exact z_endi X hr [] [] rfl rfl rfl ⟨rfl, rfl⟩ dX10_parts_30
set_option maxHeartbeats 4000000 in
set_option maxRecDepth 100000 in
/-- parts(row) -/
theorem m_parts_1 (l : Launch) (D : va_G) (cy : Nat → ClassId) (O : Nat × va_E → Prop) {lo y9 kd : Nat} {g9 : Nat → Int32} (hy : O (y9, .inl (cy 0, 8, .inl g9))) (hk : g9 0 = nI kd) (hkd : kd < 2 ^ 31) (h9 : kd = 2 ∨ 5 ≤ kd) : Ci l yX10_parts (.code yX10_parts cX10_parts 2 (some .int) :: WALL) ({ frames := 0, cells := 0, slots := 0, locals := 0 }) D cy O [.ref lo, .ref y9] [] 0 0 (fun (r : Int32) (w : va_W) => r = 1 ∧ w = []) := by
  refine z_meti (by decide) rfl rfl (Nat.le_of_ble_eq_true rfl) ?_
  intro p e s m args below meth c X hr hin
  refine z_eq (ws' := []) (lv' := [(0, .ref lo), (1, .ref y9)]) (st' := []) rfl rfl rfl ?_
  refine z_aload_n X dX10_parts_0 rfl (j := 1) rfl ?_
  refine z_iconst X (v := 0) dX10_parts_1 (by decide) ?_
  refine z_ialdO X hy (v := (nI kd)) (by unfold vp_in; decide) hk dX10_parts_2 ?_
  refine z_iconst X (v := 2) dX10_parts_3 (by decide) ?_
  refine z_icmp_ge X (tgt := 11) dX10_parts_4 (by decide) (fun c_4 => ?_) (fun c9 => absurd (nI_le (a := 2) (b := kd) (by omega) hkd) c9)
  refine z_aload_n X dX10_parts_11 rfl (j := 1) rfl ?_
  refine z_iconst X (v := 0) dX10_parts_12 (by decide) ?_
  refine z_ialdO X hy (v := (nI kd)) (by unfold vp_in; decide) hk dX10_parts_13 ?_
  refine z_iconst X (v := 3) dX10_parts_14 (by decide) ?_
  refine z_icmp_eq X (tgt := 25) dX10_parts_15 (by decide) (fun c9 => absurd c9 (fun z => by have := (nI_eq (a := kd) (b := 3) hkd (by decide)).mp z; omega)) (fun c_15 => ?_)
  refine z_aload_n X dX10_parts_18 rfl (j := 1) rfl ?_
  refine z_iconst X (v := 0) dX10_parts_19 (by decide) ?_
  refine z_ialdO X hy (v := (nI kd)) (by unfold vp_in; decide) hk dX10_parts_20 ?_
  refine z_iconst X (v := 4) dX10_parts_21 (by decide) ?_
  refine z_icmp_ne X (tgt := 29) dX10_parts_22 (by decide) (fun c_22 => ?_) (fun c9 => absurd c9 (fun z => by have := (nI_eq (a := kd) (b := 4) hkd (by decide)).mp z; omega))
  refine z_iconst X (v := 1) dX10_parts_29 (by decide) ?_
  exact z_endi X hr [] [] rfl rfl rfl ⟨rfl, rfl⟩ dX10_parts_30
set_option maxHeartbeats 4000000 in
set_option maxRecDepth 100000 in
/-- parts(row) -/
theorem m_parts_3 (l : Launch) (D : va_G) (cy : Nat → ClassId) (O : Nat × va_E → Prop) {lo y9 kd : Nat} {g9 : Nat → Int32} (hy : O (y9, .inl (cy 0, 8, .inl g9))) (hk : g9 0 = nI kd) (hkd : kd < 2 ^ 31) (h9 : kd = 3) : Ci l yX10_parts (.code yX10_parts cX10_parts 2 (some .int) :: WALL) ({ frames := 0, cells := 0, slots := 0, locals := 0 }) D cy O [.ref lo, .ref y9] [] 0 0 (fun (r : Int32) (w : va_W) => r = 2 ∧ w = []) := by
  refine z_meti (by decide) rfl rfl (Nat.le_of_ble_eq_true rfl) ?_
  intro p e s m args below meth c X hr hin
  refine z_eq (ws' := []) (lv' := [(0, .ref lo), (1, .ref y9)]) (st' := []) rfl rfl rfl ?_
  refine z_aload_n X dX10_parts_0 rfl (j := 1) rfl ?_
  refine z_iconst X (v := 0) dX10_parts_1 (by decide) ?_
  refine z_ialdO X hy (v := (nI kd)) (by unfold vp_in; decide) hk dX10_parts_2 ?_
  refine z_iconst X (v := 2) dX10_parts_3 (by decide) ?_
  refine z_icmp_ge X (tgt := 11) dX10_parts_4 (by decide) (fun c_4 => ?_) (fun c9 => absurd (nI_le (a := 2) (b := kd) (by omega) hkd) c9)
  refine z_aload_n X dX10_parts_11 rfl (j := 1) rfl ?_
  refine z_iconst X (v := 0) dX10_parts_12 (by decide) ?_
  refine z_ialdO X hy (v := (nI kd)) (by unfold vp_in; decide) hk dX10_parts_13 ?_
  refine z_iconst X (v := 3) dX10_parts_14 (by decide) ?_
  refine z_icmp_eq X (tgt := 25) dX10_parts_15 (by decide) (fun c_15 => ?_) (fun c9 => absurd (by rw [h9]; rfl) c9)
  refine z_iconst X (v := 2) dX10_parts_25 (by decide) ?_
  refine z_goto X (tgt := 30) dX10_parts_26 (by decide) ?_
  exact z_endi X hr [] [] rfl rfl rfl ⟨rfl, rfl⟩ dX10_parts_30
set_option maxHeartbeats 4000000 in
set_option maxRecDepth 100000 in
/-- parts(row) -/
theorem m_parts_4 (l : Launch) (D : va_G) (cy : Nat → ClassId) (O : Nat × va_E → Prop) {lo y9 kd : Nat} {g9 : Nat → Int32} (hy : O (y9, .inl (cy 0, 8, .inl g9))) (hk : g9 0 = nI kd) (hkd : kd < 2 ^ 31) (h9 : kd = 4) : Ci l yX10_parts (.code yX10_parts cX10_parts 2 (some .int) :: WALL) ({ frames := 0, cells := 0, slots := 0, locals := 0 }) D cy O [.ref lo, .ref y9] [] 0 0 (fun (r : Int32) (w : va_W) => r = 2 ∧ w = []) := by
  refine z_meti (by decide) rfl rfl (Nat.le_of_ble_eq_true rfl) ?_
  intro p e s m args below meth c X hr hin
  refine z_eq (ws' := []) (lv' := [(0, .ref lo), (1, .ref y9)]) (st' := []) rfl rfl rfl ?_
  refine z_aload_n X dX10_parts_0 rfl (j := 1) rfl ?_
  refine z_iconst X (v := 0) dX10_parts_1 (by decide) ?_
  refine z_ialdO X hy (v := (nI kd)) (by unfold vp_in; decide) hk dX10_parts_2 ?_
  refine z_iconst X (v := 2) dX10_parts_3 (by decide) ?_
  refine z_icmp_ge X (tgt := 11) dX10_parts_4 (by decide) (fun c_4 => ?_) (fun c9 => absurd (nI_le (a := 2) (b := kd) (by omega) hkd) c9)
  refine z_aload_n X dX10_parts_11 rfl (j := 1) rfl ?_
  refine z_iconst X (v := 0) dX10_parts_12 (by decide) ?_
  refine z_ialdO X hy (v := (nI kd)) (by unfold vp_in; decide) hk dX10_parts_13 ?_
  refine z_iconst X (v := 3) dX10_parts_14 (by decide) ?_
  refine z_icmp_eq X (tgt := 25) dX10_parts_15 (by decide) (fun c9 => absurd c9 (fun z => by have := (nI_eq (a := kd) (b := 3) hkd (by decide)).mp z; omega)) (fun c_15 => ?_)
  refine z_aload_n X dX10_parts_18 rfl (j := 1) rfl ?_
  refine z_iconst X (v := 0) dX10_parts_19 (by decide) ?_
  refine z_ialdO X hy (v := (nI kd)) (by unfold vp_in; decide) hk dX10_parts_20 ?_
  refine z_iconst X (v := 4) dX10_parts_21 (by decide) ?_
  refine z_icmp_ne X (tgt := 29) dX10_parts_22 (by decide) (fun c9 => absurd (by rw [h9]; rfl) c9) (fun c_22 => ?_)
  refine z_iconst X (v := 2) dX10_parts_25 (by decide) ?_
  refine z_goto X (tgt := 30) dX10_parts_26 (by decide) ?_
  exact z_endi X hr [] [] rfl rfl rfl ⟨rfl, rfl⟩ dX10_parts_30
theorem m_parts_2 (l : Launch) (D : va_G) (cy : Nat → ClassId) (O : Nat × va_E → Prop) {lo y9 kd : Nat} {g9 : Nat → Int32} (hy : O (y9, .inl (cy 0, 8, .inl g9))) (hk : g9 0 = nI kd) (hkd : kd < 2 ^ 31) (h9 : kd = 3 ∨ kd = 4) : Ci l yX10_parts (.code yX10_parts cX10_parts 2 (some .int) :: WALL) ({ frames := 0, cells := 0, slots := 0, locals := 0 }) D cy O [.ref lo, .ref y9] [] 0 0 (fun (r : Int32) (w : va_W) => r = 2 ∧ w = []) := by
  rcases h9 with h | h
  · exact m_parts_3 l D cy O hy hk hkd h
  · exact m_parts_4 l D cy O hy hk hkd h
set_option maxHeartbeats 4000000 in
set_option maxRecDepth 100000 in
/-- terms(row) of an atom -/
theorem m_terms_0 (l : Launch) (D : va_G) (cy : Nat → ClassId) (O : Nat × va_E → Prop) {lo pl fx fm y9 kd : Nat} {g9 : Nat → Int32} (hO : O (lo, .inr (10, [.ref pl, .ref fx, .ref fm]))) (hy : O (y9, .inl (cy 0, 8, .inl g9))) (hk : g9 0 = nI kd) (h9 : kd = 0) {r9 rc P9 : Nat} {pf : Nat → Int32} (hpl : O (pl, .inl (cy 0, rc, .inl pf))) (hr9 : r9 < rc) (hrc : rc ≤ 6) (hrow : g9 1 = nI r9) (hp : pf r9 = nI P9) (hP3 : P9 ≤ 3) : Cr l yX10_terms (.code yX10_terms cX10_terms 3 (some (.array .int)) :: WALL) ({ frames := 1, cells := 1, slots := P9, locals := 18 }) D cy O [.ref lo, .ref y9] [] 1 P9 (fun (r : Nat) (w : va_W) => w = [(r, .inl (cy 0, P9, .inl (va_cpy g9 (fun _ => 0) 2 0 P9)))]) := by
  refine z_metr (by decide) rfl rfl (Nat.le_of_ble_eq_true rfl) ?_
  intro p e s m args below meth c X hr hin
  refine z_eq (ws' := []) (lv' := [(0, .ref lo), (1, .ref y9)]) (st' := []) rfl rfl rfl ?_
  refine z_aload_n X dX10_terms_0 rfl (j := 1) rfl ?_
  refine z_iconst X (v := 0) dX10_terms_1 (by decide) ?_
  refine z_ialdO X hy (v := (nI kd)) (by unfold vp_in; decide) hk dX10_terms_2 ?_
  refine z_if_ne X (tgt := 17) dX10_terms_3 (by decide) (fun c9 => absurd (by rw [h9]; rfl) c9) (fun c_3 => ?_)
  refine z_aload_n X dX10_terms_6 rfl (j := 0) rfl ?_
  refine z_getO X (ci := 10) (C := RX10) (T := TX10) (N := 3) inX10 hO rfl 0 (by decide) fl_X10_7 (fun _ h9 => h9) rfl dX10_terms_7 ?_
  refine z_aload_n X dX10_terms_10 rfl (j := 1) rfl ?_
  refine z_iconst X (v := 1) dX10_terms_11 (by decide) ?_
  refine z_ialdO X hy (v := (nI r9)) (by unfold vp_in; decide) hrow dX10_terms_12 ?_
  refine z_ialdO X hpl (v := (nI P9)) (vp_in_nI hr9 (by omega)) (by rw [nI_clamp (by omega)]; exact hp) dX10_terms_13 ?_
  refine z_goto X (tgt := 29) dX10_terms_14 (by decide) ?_
  refine z_newaI X (N := P9) ac_int (nI_pos (by omega)) (nI_clamp (by omega)) (by omega) (Nat.le_of_ble_eq_true rfl) (by show 0 + P9 ≤ P9; omega) dX10_terms_29 (fun q9 => ?_)
  refine z_eq (ws' := [(q9, .inl (cy 0, P9, .inl (fun _ => 0)))]) (lv' := [(0, .ref lo), (1, .ref y9)]) (st' := [.ref q9]) rfl rfl rfl ?_
  refine z_widen (k' := 1) (n' := (0 + P9)) (Nat.le_of_ble_eq_true rfl) (by omega) ?_
  refine z_astore_n X (lv' := [(2, .ref q9), (0, .ref lo), (1, .ref y9)]) dX10_terms_31 rfl (by decide) rfl ?_
  refine z_aload_n X dX10_terms_32 rfl (j := 2) rfl ?_
  refine z_iconst X (v := 2) dX10_terms_33 (by decide) ?_
  refine z_aload_n X dX10_terms_34 rfl (j := 0) rfl ?_
  refine z_iconst X (v := 0) dX10_terms_35 (by decide) ?_
  refine z_aload_n X dX10_terms_36 rfl (j := 0) rfl ?_
  refine z_alenW X 0 (t := 0) rfl rfl (v := (nI P9)) rfl dX10_terms_37 ?_
  refine z_copyO X ml_X10_23 0 hy rfl (by decide) (by decide) (nI_pos (by omega)) (by rw [nI_clamp (show P9 < 2 ^ 31 by omega), show (2 : Int32).toNatClampNeg = 2 from rfl]; omega) (by rw [nI_clamp (show P9 < 2 ^ 31 by omega), show (0 : Int32).toNatClampNeg = 0 from rfl]; omega) (Nat.le_of_ble_eq_true rfl) (Nat.le_of_ble_eq_true rfl) dX10_terms_38 (ws' := [(q9, .inl (cy 0, P9, .inl (va_cpy g9 (fun _ => 0) 2 0 P9)))]) (by rw [nI_clamp (show P9 < 2 ^ 31 by omega)]; rfl) ?_
  refine z_aload_n X dX10_terms_41 rfl (j := 0) rfl ?_
  refine z_widen (k' := 1) (n' := P9) (by omega) (by omega) ?_
  exact z_endr X (Or.inr ⟨_, rfl⟩) hr [(q9, .inl (cy 0, P9, .inl (va_cpy g9 (fun _ => 0) 2 0 P9)))] [0] rfl rfl rfl rfl dX10_terms_42
set_option maxHeartbeats 4000000 in
set_option maxRecDepth 100000 in
/-- terms(row) of SAME -/
theorem m_terms_1 (l : Launch) (D : va_G) (cy : Nat → ClassId) (O : Nat × va_E → Prop) {lo pl fx fm y9 kd : Nat} {g9 : Nat → Int32} (hO : O (lo, .inr (10, [.ref pl, .ref fx, .ref fm]))) (hy : O (y9, .inl (cy 0, 8, .inl g9))) (hk : g9 0 = nI kd) (h9 : kd = 1) : Cr l yX10_terms (.code yX10_terms cX10_terms 3 (some (.array .int)) :: WALL) ({ frames := 1, cells := 1, slots := 2, locals := 18 }) D cy O [.ref lo, .ref y9] [] 1 2 (fun (r : Nat) (w : va_W) => w = [(r, .inl (cy 0, 2, .inl (va_cpy g9 (fun _ => 0) 2 0 2)))]) := by
  refine z_metr (by decide) rfl rfl (Nat.le_of_ble_eq_true rfl) ?_
  intro p e s m args below meth c X hr hin
  refine z_eq (ws' := []) (lv' := [(0, .ref lo), (1, .ref y9)]) (st' := []) rfl rfl rfl ?_
  refine z_aload_n X dX10_terms_0 rfl (j := 1) rfl ?_
  refine z_iconst X (v := 0) dX10_terms_1 (by decide) ?_
  refine z_ialdO X hy (v := (nI kd)) (by unfold vp_in; decide) hk dX10_terms_2 ?_
  refine z_if_ne X (tgt := 17) dX10_terms_3 (by decide) (fun c_3 => ?_) (fun c9 => absurd c9 (by rw [h9]; decide))
  refine z_aload_n X dX10_terms_17 rfl (j := 1) rfl ?_
  refine z_iconst X (v := 0) dX10_terms_18 (by decide) ?_
  refine z_ialdO X hy (v := (nI kd)) (by unfold vp_in; decide) hk dX10_terms_19 ?_
  refine z_iconst X (v := 1) dX10_terms_20 (by decide) ?_
  refine z_icmp_ne X (tgt := 28) dX10_terms_21 (by decide) (fun c9 => absurd (by rw [h9]; rfl) c9) (fun c_21 => ?_)
  refine z_iconst X (v := 2) dX10_terms_24 (by decide) ?_
  refine z_goto X (tgt := 29) dX10_terms_25 (by decide) ?_
  refine z_newaI X (N := 2) ac_int (by decide) (by decide) (Nat.le_of_ble_eq_true rfl) (Nat.le_of_ble_eq_true rfl) (Nat.le_of_ble_eq_true rfl) dX10_terms_29 (fun q9 => ?_)
  refine z_eq (ws' := [(q9, .inl (cy 0, 2, .inl (fun _ => 0)))]) (lv' := [(0, .ref lo), (1, .ref y9)]) (st' := [.ref q9]) rfl rfl rfl ?_
  refine z_widen (k' := 1) (n' := 2) (Nat.le_of_ble_eq_true rfl) (Nat.le_of_ble_eq_true rfl) ?_
  refine z_astore_n X (lv' := [(2, .ref q9), (0, .ref lo), (1, .ref y9)]) dX10_terms_31 rfl (by decide) rfl ?_
  refine z_aload_n X dX10_terms_32 rfl (j := 2) rfl ?_
  refine z_iconst X (v := 2) dX10_terms_33 (by decide) ?_
  refine z_aload_n X dX10_terms_34 rfl (j := 0) rfl ?_
  refine z_iconst X (v := 0) dX10_terms_35 (by decide) ?_
  refine z_aload_n X dX10_terms_36 rfl (j := 0) rfl ?_
  refine z_alenW X 0 (t := 0) rfl rfl (v := 2) rfl dX10_terms_37 ?_
  refine z_copyO X ml_X10_23 0 hy rfl (by decide) (by decide) (by decide) (by decide) (by decide) (Nat.le_of_ble_eq_true rfl) (Nat.le_of_ble_eq_true rfl) dX10_terms_38 (ws' := [(q9, .inl (cy 0, 2, .inl (va_cpy g9 (fun _ => 0) 2 0 2)))]) rfl ?_
  refine z_aload_n X dX10_terms_41 rfl (j := 0) rfl ?_
  exact z_endr X (Or.inr ⟨_, rfl⟩) hr [(q9, .inl (cy 0, 2, .inl (va_cpy g9 (fun _ => 0) 2 0 2)))] [0] rfl rfl rfl rfl dX10_terms_42
/-- the loom's row of formula i -/
def rowT (T : Nat → TRow) (i : Nat) (f : Nat → Int32) : Prop := f 0 = nI (T i).1 ∧ f 1 = nI (T i).2.2.2.2.1 ∧ (∀ k, k < 3 → f (2 + k) = nI ((T i).2.2.2.2.2 k)) ∧ (2 ≤ (T i).1 → f 5 = nI (T i).2.1) ∧ ((T i).1 = 3 ∨ (T i).1 = 4 → f 6 = nI (T i).2.2.1) ∧ (5 ≤ (T i).1 → f 7 = nI (T i).2.2.2.1)
def LFm (O : Nat × va_E → Prop) (cy : Nat → ClassId) (fm N : Nat) (T : Nat → TRow) : Prop := ∃ (FM : Nat → Option Nat) (ri : Nat → Nat), O (fm, .inl (cy 6, N, .inr (.inr (.inr (.inr FM))))) ∧ ∀ i, i < N → FM i = some (ri i) ∧ ∃ f : Nat → Int32, O (ri i, .inl (cy 0, 8, .inl f)) ∧ rowT T i f
theorem LFm.mono {O O' : Nat × va_E → Prop} {cy : Nat → ClassId} {fm N : Nat} {T : Nat → TRow} (h : ∀ q, O q → O' q) : LFm O cy fm N T → LFm O' cy fm N T := fun ⟨FM, ri, a, b⟩ => ⟨FM, ri, h _ a, fun i hi => ⟨(b i hi).1, (b i hi).2.choose, h _ (b i hi).2.choose_spec.1, (b i hi).2.choose_spec.2⟩⟩
theorem Gd_kd {R : Nat → RRow} {rc : Nat} {T : Nat → TRow} {At : Nat → TAtt} {i : Nat} (h : Gd R rc T At i) : (T i).1 ≤ 6 := by rcases h with ⟨h, -⟩ | ⟨h, -⟩ | ⟨h, -⟩ | ⟨h, -⟩ | ⟨h, -⟩ | ⟨h, -⟩ | ⟨h, -⟩ <;> omega
set_option maxHeartbeats 4000000 in
set_option maxRecDepth 100000 in
/-- length: a leaf -/
theorem m_len_0 (l : Launch) (D : va_G) (cy : Nat → ClassId) (O : Nat × va_E → Prop) {lo pl fx fm N i y9 : Nat} {FM : Nat → Option Nat} {T : Nat → TRow} {f9 : Nat → Int32} (hO : O (lo, .inr (10, [.ref pl, .ref fx, .ref fm]))) (hFM : O (fm, .inl (cy 6, N, .inr (.inr (.inr (.inr FM)))))) (hi : i < N) (hN : N ≤ 40) (hF : FM i = some y9) (hy : O (y9, .inl (cy 0, 8, .inl f9))) (hT : rowT T i f9) {n : Nat} (h9 : (T i).1 < 2) : Ci l yX10_length (.code yX10_length cX10_length 5 (some .int) :: WALL) ({ frames := 2 * (n + 1) + 4, cells := 0, slots := 0, locals := 40 * (n + 1) + 80 }) D cy O [.ref lo, .int (nI i)] [] 0 0 (fun (r : Int32) (w : va_W) => r = nI 1 ∧ w = []) := by
  obtain ⟨hk0, -, -, hk5, hk6, -⟩ := hT
  refine z_meti (by decide) rfl rfl (Nat.le_of_ble_eq_true rfl) ?_
  intro p e s m args below meth c X hr hin
  refine z_eq (ws' := []) (lv' := [(0, .ref lo), (1, .int (nI i))]) (st' := []) rfl rfl rfl ?_
  refine z_aload_n X dX10_length_0 rfl (j := 0) rfl ?_
  refine z_getO X (ci := 10) (C := RX10) (T := TX10) (N := 3) inX10 hO rfl 2 (by decide) fl_X10_20 (fun _ h9 => h9) rfl dX10_length_1 ?_
  refine z_iload_n X dX10_length_4 rfl (j := 1) rfl ?_
  refine z_aaldAO X (t := .int) (k6 := 6) hFM rfl (b := y9) (vp_in_nI hi (by omega)) (by rw [nI_clamp (by omega)]; exact hF) dX10_length_5 ?_
  refine z_astore_n X (lv' := [(2, .ref y9), (0, .ref lo), (1, .int (nI i))]) dX10_length_6 rfl (by decide) rfl ?_
  refine z_iconst X (v := 1) dX10_length_7 (by decide) ?_
  refine z_istore_n X (lv' := [(3, .int 1), (2, .ref y9), (0, .ref lo), (1, .int (nI i))]) dX10_length_8 rfl (by decide) rfl ?_
  refine z_iconst X (v := 0) dX10_length_9 (by decide) ?_
  refine z_istore X (lv' := [(4, .int 0), (3, .int 1), (2, .ref y9), (0, .ref lo), (1, .int (nI i))]) dX10_length_10 (by decide) rfl ?_
  refine z_iload X dX10_length_12 (j := 0) rfl ?_
  refine z_aload_n X dX10_length_14 rfl (j := 3) rfl ?_
  refine z_aload_n X dX10_length_15 rfl (j := 2) rfl ?_
  refine z_reti X (as := [.ref lo, .ref y9]) (wc := []) (wr := []) (rest := [.int 0]) (fun H9 locs9 ls9 hP9 hS9 hl9 hb9 hp9 => va_runV (As := [.ref y9]) (rest := [.int 0]) X.fix (m_parts_0 l D cy O hy hk0 (by omega) (by omega) H9.size) (cwV 1 X.hts (gV ml_X10_55 im_X10_parts se_X10_parts ni_X10 cd_X10_parts) rfl rfl rfl (by decide +kernel) ⟨by show 0 + 1 ≤ (2 * (n + 1) + 4); omega, by show 8 + (2 + 11) + 0 ≤ (40 * (n + 1) + 80); omega⟩) ⟨hb9, z_recvO X (ci := 10) (r := (RX10, TX10, 3)) hO rfl hS9, hp9⟩ rfl rfl hl9.1 rfl (lv_room (Nat.le_of_ble_eq_true rfl)) dX10_length_16 ⟨Nat.le_of_ble_eq_true rfl, Nat.le_of_ble_eq_true rfl⟩) [] [] rfl rfl rfl rfl rfl (by decide) (fun _ h => Or.inl h) (fun r1 w2 h3 => ?_)
  obtain ⟨rfl, rfl⟩ := h3
  refine z_eq (ws' := []) (lv' := [(4, .int 0), (3, .int 1), (2, .ref y9), (0, .ref lo), (1, .int (nI i))]) (st' := [.int 0, .int 0]) rfl rfl rfl ?_
  refine z_widen (k' := 0) (n' := 0) (Nat.le_refl _) (Nat.le_refl _) ?_
  refine z_icmp_ge X (tgt := 41) dX10_length_19 (by decide) (fun c_19 => ?_) (fun c9 => absurd (by decide) c9)
  refine z_iload_n X dX10_length_41 rfl (j := 1) rfl ?_
  exact z_endi X hr [] [] rfl rfl rfl ⟨rfl, rfl⟩ dX10_length_42
set_option maxHeartbeats 4000000 in
set_option maxRecDepth 100000 in
/-- length: one part -/
theorem m_len_1 (l : Launch) (D : va_G) (cy : Nat → ClassId) (O : Nat × va_E → Prop) {lo pl fx fm N i y9 : Nat} {FM : Nat → Option Nat} {T : Nat → TRow} {f9 : Nat → Int32} (hO : O (lo, .inr (10, [.ref pl, .ref fx, .ref fm]))) (hFM : O (fm, .inl (cy 6, N, .inr (.inr (.inr (.inr FM)))))) (hi : i < N) (hN : N ≤ 40) (hF : FM i = some y9) (hy : O (y9, .inl (cy 0, 8, .inl f9))) (hT : rowT T i f9) {n l1 : Nat} (hkd : (T i).1 < 2 ^ 31) (h9 : (T i).1 = 2 ∨ 5 ≤ (T i).1) (ih : Ci l yX10_length (.code yX10_length cX10_length 5 (some .int) :: WALL) ({ frames := 2 * n + 4, cells := 0, slots := 0, locals := 40 * n + 80 }) D cy O [.ref lo, .int (nI (T i).2.1)] [] 0 0 (fun (r : Int32) (w : va_W) => r = nI l1 ∧ w = [])) : Ci l yX10_length (.code yX10_length cX10_length 5 (some .int) :: WALL) ({ frames := 2 * (n + 1) + 4, cells := 0, slots := 0, locals := 40 * (n + 1) + 80 }) D cy O [.ref lo, .int (nI i)] [] 0 0 (fun (r : Int32) (w : va_W) => r = nI (1 + l1) ∧ w = []) := by
  obtain ⟨hk0, -, -, hk5, hk6, -⟩ := hT
  refine z_meti (by decide) rfl rfl (Nat.le_of_ble_eq_true rfl) ?_
  intro p e s m args below meth c X hr hin
  refine z_eq (ws' := []) (lv' := [(0, .ref lo), (1, .int (nI i))]) (st' := []) rfl rfl rfl ?_
  refine z_aload_n X dX10_length_0 rfl (j := 0) rfl ?_
  refine z_getO X (ci := 10) (C := RX10) (T := TX10) (N := 3) inX10 hO rfl 2 (by decide) fl_X10_20 (fun _ h9 => h9) rfl dX10_length_1 ?_
  refine z_iload_n X dX10_length_4 rfl (j := 1) rfl ?_
  refine z_aaldAO X (t := .int) (k6 := 6) hFM rfl (b := y9) (vp_in_nI hi (by omega)) (by rw [nI_clamp (by omega)]; exact hF) dX10_length_5 ?_
  refine z_astore_n X (lv' := [(2, .ref y9), (0, .ref lo), (1, .int (nI i))]) dX10_length_6 rfl (by decide) rfl ?_
  refine z_iconst X (v := 1) dX10_length_7 (by decide) ?_
  refine z_istore_n X (lv' := [(3, .int 1), (2, .ref y9), (0, .ref lo), (1, .int (nI i))]) dX10_length_8 rfl (by decide) rfl ?_
  refine z_iconst X (v := 0) dX10_length_9 (by decide) ?_
  refine z_istore X (lv' := [(4, .int 0), (3, .int 1), (2, .ref y9), (0, .ref lo), (1, .int (nI i))]) dX10_length_10 (by decide) rfl ?_
  refine z_iload X dX10_length_12 (j := 0) rfl ?_
  refine z_aload_n X dX10_length_14 rfl (j := 3) rfl ?_
  refine z_aload_n X dX10_length_15 rfl (j := 2) rfl ?_
  refine z_reti X (as := [.ref lo, .ref y9]) (wc := []) (wr := []) (rest := [.int 0]) (fun H9 locs9 ls9 hP9 hS9 hl9 hb9 hp9 => va_runV (As := [.ref y9]) (rest := [.int 0]) X.fix (m_parts_1 l D cy O hy hk0 (by omega) (by omega) H9.size) (cwV 1 X.hts (gV ml_X10_55 im_X10_parts se_X10_parts ni_X10 cd_X10_parts) rfl rfl rfl (by decide +kernel) ⟨by show 0 + 1 ≤ (2 * (n + 1) + 4); omega, by show 8 + (2 + 11) + 0 ≤ (40 * (n + 1) + 80); omega⟩) ⟨hb9, z_recvO X (ci := 10) (r := (RX10, TX10, 3)) hO rfl hS9, hp9⟩ rfl rfl hl9.1 rfl (lv_room (Nat.le_of_ble_eq_true rfl)) dX10_length_16 ⟨Nat.le_of_ble_eq_true rfl, Nat.le_of_ble_eq_true rfl⟩) [] [] rfl rfl rfl rfl rfl (by decide) (fun _ h => Or.inl h) (fun r1 w2 h3 => ?_)
  obtain ⟨rfl, rfl⟩ := h3
  refine z_eq (ws' := []) (lv' := [(4, .int 0), (3, .int 1), (2, .ref y9), (0, .ref lo), (1, .int (nI i))]) (st' := [.int 1, .int 0]) rfl rfl rfl ?_
  refine z_widen (k' := 0) (n' := 0) (Nat.le_refl _) (Nat.le_refl _) ?_
  refine z_icmp_ge X (tgt := 41) dX10_length_19 (by decide) (fun c9 => absurd c9 (by decide)) (fun c_19 => ?_)
  refine z_iload_n X dX10_length_22 rfl (j := 1) rfl ?_
  refine z_aload_n X dX10_length_23 rfl (j := 3) rfl ?_
  refine z_aload_n X dX10_length_24 rfl (j := 2) rfl ?_
  refine z_iconst X (v := 5) dX10_length_25 (by decide) ?_
  refine z_iload X dX10_length_26 (j := 0) rfl ?_
  refine z_iadd X (v := 5) dX10_length_28 (by decide) ?_
  refine z_ialdO X hy (v := (nI (T i).2.1)) (by unfold vp_in; decide) (hk5 (by omega)) dX10_length_29 ?_
  refine z_reti X (as := [.ref lo, .int (nI (T i).2.1)]) (wc := []) (wr := []) (rest := [.int 1]) (fun H9 locs9 ls9 hP9 hS9 hl9 hb9 hp9 => va_runV (As := [.int (nI (T i).2.1)]) (rest := [.int 1]) X.fix (ih H9.size) (cwV 1 X.hts (gV ml_X10_71 im_X10_length se_X10_length ni_X10 cd_X10_length) rfl rfl rfl (by decide +kernel) ⟨by show 2 * n + 4 + 1 ≤ 2 * (n + 1) + 4; omega, by show 8 + (5 + 11) + (40 * n + 80) ≤ 40 * (n + 1) + 80; omega⟩) ⟨hb9, z_recvO X (ci := 10) (r := (RX10, TX10, 3)) hO rfl hS9, hp9⟩ rfl rfl hl9.1 rfl (lv_room (Nat.le_of_ble_eq_true rfl)) dX10_length_30 ⟨Nat.le_of_ble_eq_true rfl, Nat.le_of_ble_eq_true rfl⟩) [] [] rfl rfl rfl rfl rfl (by decide) (fun _ h => Or.inl h) (fun r4 w5 h6 => ?_)
  obtain ⟨rfl, rfl⟩ := h6
  refine z_eq (ws' := []) (lv' := [(4, .int 0), (3, .int 1), (2, .ref y9), (0, .ref lo), (1, .int (nI i))]) (st' := [.int (nI l1), .int 1]) rfl rfl rfl ?_
  refine z_widen (k' := 0) (n' := 0) (Nat.le_refl _) (Nat.le_refl _) ?_
  refine z_iadd X (v := (nI (1 + l1))) dX10_length_33 (nI_add 1 l1) ?_
  refine z_istore_n X (lv' := [(3, .int (nI (1 + l1))), (4, .int 0), (2, .ref y9), (0, .ref lo), (1, .int (nI i))]) dX10_length_34 rfl (by decide) rfl ?_
  refine z_iinc X (j := 1) (v := 1) (lv' := [(4, .int 1), (3, .int (nI (1 + l1))), (2, .ref y9), (0, .ref lo), (1, .int (nI i))]) dX10_length_35 rfl (by decide) (by decide) rfl ?_
  refine z_goto X (tgt := 12) dX10_length_38 (by decide) ?_
  refine z_iload X dX10_length_12 (j := 0) rfl ?_
  refine z_aload_n X dX10_length_14 rfl (j := 3) rfl ?_
  refine z_aload_n X dX10_length_15 rfl (j := 2) rfl ?_
  refine z_reti X (as := [.ref lo, .ref y9]) (wc := []) (wr := []) (rest := [.int 1]) (fun H9 locs9 ls9 hP9 hS9 hl9 hb9 hp9 => va_runV (As := [.ref y9]) (rest := [.int 1]) X.fix (m_parts_1 l D cy O hy hk0 (by omega) (by omega) H9.size) (cwV 1 X.hts (gV ml_X10_55 im_X10_parts se_X10_parts ni_X10 cd_X10_parts) rfl rfl rfl (by decide +kernel) ⟨by show 0 + 1 ≤ (2 * (n + 1) + 4); omega, by show 8 + (2 + 11) + 0 ≤ (40 * (n + 1) + 80); omega⟩) ⟨hb9, z_recvO X (ci := 10) (r := (RX10, TX10, 3)) hO rfl hS9, hp9⟩ rfl rfl hl9.1 rfl (lv_room (Nat.le_of_ble_eq_true rfl)) dX10_length_16 ⟨Nat.le_of_ble_eq_true rfl, Nat.le_of_ble_eq_true rfl⟩) [] [] rfl rfl rfl rfl rfl (by decide) (fun _ h => Or.inl h) (fun r7 w8 h9 => ?_)
  obtain ⟨rfl, rfl⟩ := h9
  refine z_eq (ws' := []) (lv' := [(4, .int 1), (3, .int (nI (1 + l1))), (2, .ref y9), (0, .ref lo), (1, .int (nI i))]) (st' := [.int 1, .int 1]) rfl rfl rfl ?_
  refine z_widen (k' := 0) (n' := 0) (Nat.le_refl _) (Nat.le_refl _) ?_
  refine z_icmp_ge X (tgt := 41) dX10_length_19 (by decide) (fun c_19 => ?_) (fun c9 => absurd (by decide) c9)
  refine z_iload_n X dX10_length_41 rfl (j := 1) rfl ?_
  exact z_endi X hr [] [] rfl rfl rfl ⟨rfl, rfl⟩ dX10_length_42
set_option maxHeartbeats 4000000 in
set_option maxRecDepth 100000 in
/-- length: two parts -/
theorem m_len_2 (l : Launch) (D : va_G) (cy : Nat → ClassId) (O : Nat × va_E → Prop) {lo pl fx fm N i y9 : Nat} {FM : Nat → Option Nat} {T : Nat → TRow} {f9 : Nat → Int32} (hO : O (lo, .inr (10, [.ref pl, .ref fx, .ref fm]))) (hFM : O (fm, .inl (cy 6, N, .inr (.inr (.inr (.inr FM)))))) (hi : i < N) (hN : N ≤ 40) (hF : FM i = some y9) (hy : O (y9, .inl (cy 0, 8, .inl f9))) (hT : rowT T i f9) {n l1 l2 : Nat} (h9 : (T i).1 = 3 ∨ (T i).1 = 4) (ih : Ci l yX10_length (.code yX10_length cX10_length 5 (some .int) :: WALL) ({ frames := 2 * n + 4, cells := 0, slots := 0, locals := 40 * n + 80 }) D cy O [.ref lo, .int (nI (T i).2.1)] [] 0 0 (fun (r : Int32) (w : va_W) => r = nI l1 ∧ w = [])) (ih2 : Ci l yX10_length (.code yX10_length cX10_length 5 (some .int) :: WALL) ({ frames := 2 * n + 4, cells := 0, slots := 0, locals := 40 * n + 80 }) D cy O [.ref lo, .int (nI (T i).2.2.1)] [] 0 0 (fun (r : Int32) (w : va_W) => r = nI l2 ∧ w = [])) : Ci l yX10_length (.code yX10_length cX10_length 5 (some .int) :: WALL) ({ frames := 2 * (n + 1) + 4, cells := 0, slots := 0, locals := 40 * (n + 1) + 80 }) D cy O [.ref lo, .int (nI i)] [] 0 0 (fun (r : Int32) (w : va_W) => r = nI (1 + l1 + l2) ∧ w = []) := by
  obtain ⟨hk0, -, -, hk5, hk6, -⟩ := hT
  refine z_meti (by decide) rfl rfl (Nat.le_of_ble_eq_true rfl) ?_
  intro p e s m args below meth c X hr hin
  refine z_eq (ws' := []) (lv' := [(0, .ref lo), (1, .int (nI i))]) (st' := []) rfl rfl rfl ?_
  refine z_aload_n X dX10_length_0 rfl (j := 0) rfl ?_
  refine z_getO X (ci := 10) (C := RX10) (T := TX10) (N := 3) inX10 hO rfl 2 (by decide) fl_X10_20 (fun _ h9 => h9) rfl dX10_length_1 ?_
  refine z_iload_n X dX10_length_4 rfl (j := 1) rfl ?_
  refine z_aaldAO X (t := .int) (k6 := 6) hFM rfl (b := y9) (vp_in_nI hi (by omega)) (by rw [nI_clamp (by omega)]; exact hF) dX10_length_5 ?_
  refine z_astore_n X (lv' := [(2, .ref y9), (0, .ref lo), (1, .int (nI i))]) dX10_length_6 rfl (by decide) rfl ?_
  refine z_iconst X (v := 1) dX10_length_7 (by decide) ?_
  refine z_istore_n X (lv' := [(3, .int 1), (2, .ref y9), (0, .ref lo), (1, .int (nI i))]) dX10_length_8 rfl (by decide) rfl ?_
  refine z_iconst X (v := 0) dX10_length_9 (by decide) ?_
  refine z_istore X (lv' := [(4, .int 0), (3, .int 1), (2, .ref y9), (0, .ref lo), (1, .int (nI i))]) dX10_length_10 (by decide) rfl ?_
  refine z_iload X dX10_length_12 (j := 0) rfl ?_
  refine z_aload_n X dX10_length_14 rfl (j := 3) rfl ?_
  refine z_aload_n X dX10_length_15 rfl (j := 2) rfl ?_
  refine z_reti X (as := [.ref lo, .ref y9]) (wc := []) (wr := []) (rest := [.int 0]) (fun H9 locs9 ls9 hP9 hS9 hl9 hb9 hp9 => va_runV (As := [.ref y9]) (rest := [.int 0]) X.fix (m_parts_2 l D cy O hy hk0 (by omega) h9 H9.size) (cwV 1 X.hts (gV ml_X10_55 im_X10_parts se_X10_parts ni_X10 cd_X10_parts) rfl rfl rfl (by decide +kernel) ⟨by show 0 + 1 ≤ 2 * (n + 1) + 4; omega, by show 8 + (2 + 11) + 0 ≤ 40 * (n + 1) + 80; omega⟩) ⟨hb9, z_recvO X (ci := 10) (r := (RX10, TX10, 3)) hO rfl hS9, hp9⟩ rfl rfl hl9.1 rfl (lv_room (Nat.le_of_ble_eq_true rfl)) dX10_length_16 ⟨Nat.le_of_ble_eq_true rfl, Nat.le_of_ble_eq_true rfl⟩) [] [] rfl rfl rfl rfl rfl (by decide) (fun _ h => Or.inl h) (fun r1 w2 h3 => ?_)
  obtain ⟨rfl, rfl⟩ := h3
  refine z_eq (ws' := []) (lv' := [(4, .int 0), (3, .int 1), (2, .ref y9), (0, .ref lo), (1, .int (nI i))]) (st' := [.int 2, .int 0]) rfl rfl rfl ?_
  refine z_widen (k' := 0) (n' := 0) (Nat.le_refl _) (Nat.le_refl _) ?_
  refine z_icmp_ge X (tgt := 41) dX10_length_19 (by decide) (fun c9 => absurd c9 (by decide)) (fun c_19 => ?_)
  refine z_iload_n X dX10_length_22 rfl (j := 1) rfl ?_
  refine z_aload_n X dX10_length_23 rfl (j := 3) rfl ?_
  refine z_aload_n X dX10_length_24 rfl (j := 2) rfl ?_
  refine z_iconst X (v := 5) dX10_length_25 (by decide) ?_
  refine z_iload X dX10_length_26 (j := 0) rfl ?_
  refine z_iadd X (v := 5) dX10_length_28 (by decide) ?_
  refine z_ialdO X hy (v := (nI (T i).2.1)) (by unfold vp_in; decide) (hk5 (by omega)) dX10_length_29 ?_
  refine z_reti X (as := [.ref lo, .int (nI (T i).2.1)]) (wc := []) (wr := []) (rest := [.int 1]) (fun H9 locs9 ls9 hP9 hS9 hl9 hb9 hp9 => va_runV (As := [.int (nI (T i).2.1)]) (rest := [.int 1]) X.fix (ih H9.size) (cwV 1 X.hts (gV ml_X10_71 im_X10_length se_X10_length ni_X10 cd_X10_length) rfl rfl rfl (by decide +kernel) ⟨by show 2 * n + 4 + 1 ≤ 2 * (n + 1) + 4; omega, by show 8 + (5 + 11) + (40 * n + 80) ≤ 40 * (n + 1) + 80; omega⟩) ⟨hb9, z_recvO X (ci := 10) (r := (RX10, TX10, 3)) hO rfl hS9, hp9⟩ rfl rfl hl9.1 rfl (lv_room (Nat.le_of_ble_eq_true rfl)) dX10_length_30 ⟨Nat.le_of_ble_eq_true rfl, Nat.le_of_ble_eq_true rfl⟩) [] [] rfl rfl rfl rfl rfl (by decide) (fun _ h => Or.inl h) (fun r4 w5 h6 => ?_)
  obtain ⟨rfl, rfl⟩ := h6
  refine z_eq (ws' := []) (lv' := [(4, .int 0), (3, .int 1), (2, .ref y9), (0, .ref lo), (1, .int (nI i))]) (st' := [.int (nI l1), .int 1]) rfl rfl rfl ?_
  refine z_widen (k' := 0) (n' := 0) (Nat.le_refl _) (Nat.le_refl _) ?_
  refine z_iadd X (v := (nI (1 + l1))) dX10_length_33 (nI_add 1 l1) ?_
  refine z_istore_n X (lv' := [(3, .int (nI (1 + l1))), (4, .int 0), (2, .ref y9), (0, .ref lo), (1, .int (nI i))]) dX10_length_34 rfl (by decide) rfl ?_
  refine z_iinc X (j := 1) (v := 1) (lv' := [(4, .int 1), (3, .int (nI (1 + l1))), (2, .ref y9), (0, .ref lo), (1, .int (nI i))]) dX10_length_35 rfl (by decide) (by decide) rfl ?_
  refine z_goto X (tgt := 12) dX10_length_38 (by decide) ?_
  refine z_iload X dX10_length_12 (j := 0) rfl ?_
  refine z_aload_n X dX10_length_14 rfl (j := 3) rfl ?_
  refine z_aload_n X dX10_length_15 rfl (j := 2) rfl ?_
  refine z_reti X (as := [.ref lo, .ref y9]) (wc := []) (wr := []) (rest := [.int 1]) (fun H9 locs9 ls9 hP9 hS9 hl9 hb9 hp9 => va_runV (As := [.ref y9]) (rest := [.int 1]) X.fix (m_parts_2 l D cy O hy hk0 (by omega) h9 H9.size) (cwV 1 X.hts (gV ml_X10_55 im_X10_parts se_X10_parts ni_X10 cd_X10_parts) rfl rfl rfl (by decide +kernel) ⟨by show 0 + 1 ≤ 2 * (n + 1) + 4; omega, by show 8 + (2 + 11) + 0 ≤ 40 * (n + 1) + 80; omega⟩) ⟨hb9, z_recvO X (ci := 10) (r := (RX10, TX10, 3)) hO rfl hS9, hp9⟩ rfl rfl hl9.1 rfl (lv_room (Nat.le_of_ble_eq_true rfl)) dX10_length_16 ⟨Nat.le_of_ble_eq_true rfl, Nat.le_of_ble_eq_true rfl⟩) [] [] rfl rfl rfl rfl rfl (by decide) (fun _ h => Or.inl h) (fun r7 w8 h9 => ?_)
  obtain ⟨rfl, rfl⟩ := h9
  refine z_eq (ws' := []) (lv' := [(4, .int 1), (3, .int (nI (1 + l1))), (2, .ref y9), (0, .ref lo), (1, .int (nI i))]) (st' := [.int 2, .int 1]) rfl rfl rfl ?_
  refine z_widen (k' := 0) (n' := 0) (Nat.le_refl _) (Nat.le_refl _) ?_
  refine z_icmp_ge X (tgt := 41) dX10_length_19 (by decide) (fun c9 => absurd c9 (by decide)) (fun c_19 => ?_)
  refine z_iload_n X dX10_length_22 rfl (j := 1) rfl ?_
  refine z_aload_n X dX10_length_23 rfl (j := 3) rfl ?_
  refine z_aload_n X dX10_length_24 rfl (j := 2) rfl ?_
  refine z_iconst X (v := 5) dX10_length_25 (by decide) ?_
  refine z_iload X dX10_length_26 (j := 0) rfl ?_
  refine z_iadd X (v := 6) dX10_length_28 (by decide) ?_
  refine z_ialdO X hy (v := (nI (T i).2.2.1)) (by unfold vp_in; decide) (hk6 h9) dX10_length_29 ?_
  refine z_reti X (as := [.ref lo, .int (nI (T i).2.2.1)]) (wc := []) (wr := []) (rest := [.int (nI (1 + l1))]) (fun H9 locs9 ls9 hP9 hS9 hl9 hb9 hp9 => va_runV (As := [.int (nI (T i).2.2.1)]) (rest := [.int (nI (1 + l1))]) X.fix (ih2 H9.size) (cwV 1 X.hts (gV ml_X10_71 im_X10_length se_X10_length ni_X10 cd_X10_length) rfl rfl rfl (by decide +kernel) ⟨by show 2 * n + 4 + 1 ≤ 2 * (n + 1) + 4; omega, by show 8 + (5 + 11) + (40 * n + 80) ≤ 40 * (n + 1) + 80; omega⟩) ⟨hb9, z_recvO X (ci := 10) (r := (RX10, TX10, 3)) hO rfl hS9, hp9⟩ rfl rfl hl9.1 rfl (lv_room (Nat.le_of_ble_eq_true rfl)) dX10_length_30 ⟨Nat.le_of_ble_eq_true rfl, Nat.le_of_ble_eq_true rfl⟩) [] [] rfl rfl rfl rfl rfl (by decide) (fun _ h => Or.inl h) (fun r10 w11 h12 => ?_)
  obtain ⟨rfl, rfl⟩ := h12
  refine z_eq (ws' := []) (lv' := [(4, .int 1), (3, .int (nI (1 + l1))), (2, .ref y9), (0, .ref lo), (1, .int (nI i))]) (st' := [.int (nI l2), .int (nI (1 + l1))]) rfl rfl rfl ?_
  refine z_widen (k' := 0) (n' := 0) (Nat.le_refl _) (Nat.le_refl _) ?_
  refine z_iadd X (v := (nI (1 + l1 + l2))) dX10_length_33 (nI_add _ _) ?_
  refine z_istore_n X (lv' := [(3, .int (nI (1 + l1 + l2))), (4, .int 1), (2, .ref y9), (0, .ref lo), (1, .int (nI i))]) dX10_length_34 rfl (by decide) rfl ?_
  refine z_iinc X (j := 1) (v := 2) (lv' := [(4, .int 2), (3, .int (nI (1 + l1 + l2))), (2, .ref y9), (0, .ref lo), (1, .int (nI i))]) dX10_length_35 rfl (by decide) (by decide) rfl ?_
  refine z_goto X (tgt := 12) dX10_length_38 (by decide) ?_
  refine z_iload X dX10_length_12 (j := 0) rfl ?_
  refine z_aload_n X dX10_length_14 rfl (j := 3) rfl ?_
  refine z_aload_n X dX10_length_15 rfl (j := 2) rfl ?_
  refine z_reti X (as := [.ref lo, .ref y9]) (wc := []) (wr := []) (rest := [.int 2]) (fun H9 locs9 ls9 hP9 hS9 hl9 hb9 hp9 => va_runV (As := [.ref y9]) (rest := [.int 2]) X.fix (m_parts_2 l D cy O hy hk0 (by omega) h9 H9.size) (cwV 1 X.hts (gV ml_X10_55 im_X10_parts se_X10_parts ni_X10 cd_X10_parts) rfl rfl rfl (by decide +kernel) ⟨by show 0 + 1 ≤ 2 * (n + 1) + 4; omega, by show 8 + (2 + 11) + 0 ≤ 40 * (n + 1) + 80; omega⟩) ⟨hb9, z_recvO X (ci := 10) (r := (RX10, TX10, 3)) hO rfl hS9, hp9⟩ rfl rfl hl9.1 rfl (lv_room (Nat.le_of_ble_eq_true rfl)) dX10_length_16 ⟨Nat.le_of_ble_eq_true rfl, Nat.le_of_ble_eq_true rfl⟩) [] [] rfl rfl rfl rfl rfl (by decide) (fun _ h => Or.inl h) (fun r13 w14 h15 => ?_)
  obtain ⟨rfl, rfl⟩ := h15
  refine z_eq (ws' := []) (lv' := [(4, .int 2), (3, .int (nI (1 + l1 + l2))), (2, .ref y9), (0, .ref lo), (1, .int (nI i))]) (st' := [.int 2, .int 2]) rfl rfl rfl ?_
  refine z_widen (k' := 0) (n' := 0) (Nat.le_refl _) (Nat.le_refl _) ?_
  refine z_icmp_ge X (tgt := 41) dX10_length_19 (by decide) (fun c_19 => ?_) (fun c9 => absurd (by decide) c9)
  refine z_iload_n X dX10_length_41 rfl (j := 1) rfl ?_
  exact z_endi X hr [] [] rfl rfl rfl ⟨rfl, rfl⟩ dX10_length_42
theorem m_length (l : Launch) (D : va_G) (cy : Nat → ClassId) (O : Nat × va_E → Prop) {lo pl fx fm N rc : Nat} {R : Nat → RRow} {T : Nat → TRow} {At : Nat → TAtt} (hO : O (lo, .inr (10, [.ref pl, .ref fx, .ref fm]))) (hL : LFm O cy fm N T) (hN : N ≤ 40) (hG : ∀ i, i < N → Gd R rc T At i) : ∀ n, n ≤ N → ∀ i, i < n → Ci l yX10_length (.code yX10_length cX10_length 5 (some .int) :: WALL) ({ frames := 2 * n + 4, cells := 0, slots := 0, locals := 40 * n + 80 }) D cy O [.ref lo, .int (nI i)] [] 0 0 (fun (r : Int32) (w : va_W) => r = nI (At i).2.2.1 ∧ w = []) := by
  obtain ⟨FM, ri, hFM, hL⟩ := hL
  intro n
  induction n with
  | zero => intro _ i hi; omega
  | succ n ih =>
    intro hn i hi
    obtain ⟨hF9, f9, hy, hT⟩ := hL i (by omega)
    have hkd := Gd_kd (hG i (by omega))
    rcases hG i (by omega) with ⟨hk, hr, ht, hA⟩ | ⟨hk, ht, hA⟩ | ⟨hk, ha, hA⟩ | ⟨hk, ha, hb, hA⟩ | ⟨hk, ha, hb, hA⟩ | ⟨hk, ha, hv, hA⟩ | ⟨hk, ha, hv, hA⟩ <;> rw [hA]
    · exact m_len_0 l D cy O hO hFM (by omega) hN hF9 hy hT (by omega)
    · exact m_len_0 l D cy O hO hFM (by omega) hN hF9 hy hT (by omega)
    · exact m_len_1 l D cy O hO hFM (by omega) hN hF9 hy hT (by omega) (by omega) (ih (by omega) _ (by omega))
    · exact m_len_2 l D cy O hO hFM (by omega) hN hF9 hy hT (by omega) (ih (by omega) _ (by omega)) (ih (by omega) _ (by omega))
    · exact m_len_2 l D cy O hO hFM (by omega) hN hF9 hy hT (by omega) (ih (by omega) _ (by omega)) (ih (by omega) _ (by omega))
    · exact m_len_1 l D cy O hO hFM (by omega) hN hF9 hy hT (by omega) (by omega) (ih (by omega) _ (by omega))
    · exact m_len_1 l D cy O hO hFM (by omega) hN hF9 hy hT (by omega) (by omega) (ih (by omega) _ (by omega))
set_option maxHeartbeats 4000000 in
set_option maxRecDepth 100000 in
/-- depth: a leaf -/
theorem m_dep_0 (l : Launch) (D : va_G) (cy : Nat → ClassId) (O : Nat × va_E → Prop) {lo pl fx fm N i y9 : Nat} {FM : Nat → Option Nat} {T : Nat → TRow} {f9 : Nat → Int32} (hO : O (lo, .inr (10, [.ref pl, .ref fx, .ref fm]))) (hFM : O (fm, .inl (cy 6, N, .inr (.inr (.inr (.inr FM)))))) (hi : i < N) (hN : N ≤ 40) (hF : FM i = some y9) (hy : O (y9, .inl (cy 0, 8, .inl f9))) (hT : rowT T i f9) {n : Nat} (h9 : (T i).1 < 2) : Ci l yX10_depth (.code yX10_depth cX10_depth 5 (some .int) :: WALL) ({ frames := 2 * (n + 1) + 4, cells := 0, slots := 0, locals := 40 * (n + 1) + 80 }) D cy O [.ref lo, .int (nI i)] [] 0 0 (fun (r : Int32) (w : va_W) => r = nI 0 ∧ w = []) := by
  obtain ⟨hk0, -, -, hk5, hk6, -⟩ := hT
  refine z_meti (by decide) rfl rfl (Nat.le_of_ble_eq_true rfl) ?_
  intro p e s m args below meth c X hr hin
  refine z_eq (ws' := []) (lv' := [(0, .ref lo), (1, .int (nI i))]) (st' := []) rfl rfl rfl ?_
  refine z_aload_n X dX10_depth_0 rfl (j := 0) rfl ?_
  refine z_getO X (ci := 10) (C := RX10) (T := TX10) (N := 3) inX10 hO rfl 2 (by decide) fl_X10_20 (fun _ h9 => h9) rfl dX10_depth_1 ?_
  refine z_iload_n X dX10_depth_4 rfl (j := 1) rfl ?_
  refine z_aaldAO X (t := .int) (k6 := 6) hFM rfl (b := y9) (vp_in_nI hi (by omega)) (by rw [nI_clamp (by omega)]; exact hF) dX10_depth_5 ?_
  refine z_astore_n X (lv' := [(2, .ref y9), (0, .ref lo), (1, .int (nI i))]) dX10_depth_6 rfl (by decide) rfl ?_
  refine z_iconst X (v := 0) dX10_depth_7 (by decide) ?_
  refine z_istore_n X (lv' := [(3, .int 0), (2, .ref y9), (0, .ref lo), (1, .int (nI i))]) dX10_depth_8 rfl (by decide) rfl ?_
  refine z_iconst X (v := 0) dX10_depth_9 (by decide) ?_
  refine z_istore X (lv' := [(4, .int 0), (3, .int 0), (2, .ref y9), (0, .ref lo), (1, .int (nI i))]) dX10_depth_10 (by decide) rfl ?_
  refine z_iload X dX10_depth_12 (j := 0) rfl ?_
  refine z_aload_n X dX10_depth_14 rfl (j := 3) rfl ?_
  refine z_aload_n X dX10_depth_15 rfl (j := 2) rfl ?_
  refine z_reti X (as := [.ref lo, .ref y9]) (wc := []) (wr := []) (rest := [.int 0]) (fun H9 locs9 ls9 hP9 hS9 hl9 hb9 hp9 => va_runV (As := [.ref y9]) (rest := [.int 0]) X.fix (m_parts_0 l D cy O hy hk0 (by omega) (by omega) H9.size) (cwV 1 X.hts (gV ml_X10_55 im_X10_parts se_X10_parts ni_X10 cd_X10_parts) rfl rfl rfl (by decide +kernel) ⟨by show 0 + 1 ≤ (2 * (n + 1) + 4); omega, by show 8 + (2 + 11) + 0 ≤ (40 * (n + 1) + 80); omega⟩) ⟨hb9, z_recvO X (ci := 10) (r := (RX10, TX10, 3)) hO rfl hS9, hp9⟩ rfl rfl hl9.1 rfl (lv_room (Nat.le_of_ble_eq_true rfl)) dX10_depth_16 ⟨Nat.le_of_ble_eq_true rfl, Nat.le_of_ble_eq_true rfl⟩) [] [] rfl rfl rfl rfl rfl (by decide) (fun _ h => Or.inl h) (fun r1 w2 h3 => ?_)
  obtain ⟨rfl, rfl⟩ := h3
  refine z_eq (ws' := []) (lv' := [(4, .int 0), (3, .int 0), (2, .ref y9), (0, .ref lo), (1, .int (nI i))]) (st' := [.int 0, .int 0]) rfl rfl rfl ?_
  refine z_widen (k' := 0) (n' := 0) (Nat.le_refl _) (Nat.le_refl _) ?_
  refine z_icmp_ge X (tgt := 43) dX10_depth_19 (by decide) (fun c_19 => ?_) (fun c9 => absurd (by decide) c9)
  refine z_aload_n X dX10_depth_43 rfl (j := 2) rfl ?_
  refine z_iconst X (v := 0) dX10_depth_44 (by decide) ?_
  refine z_ialdO X hy (v := (nI (T i).1)) (by unfold vp_in; decide) hk0 dX10_depth_45 ?_
  refine z_iconst X (v := 4) dX10_depth_46 (by decide) ?_
  refine z_icmp_le X (tgt := 56) dX10_depth_47 (by decide) (fun c_47 => ?_) (fun c9 => absurd (nI_le (a := (T i).1) (b := 4) (by omega) (by decide)) c9)
  refine z_iload_n X dX10_depth_56 rfl (j := 1) rfl ?_
  exact z_endi X hr [] [] rfl rfl rfl ⟨rfl, rfl⟩ dX10_depth_57
theorem mx_nI {x y : Int32} {a b : Nat} (hx : x = nI a) (hy : y = nI b) (ha : a < 2 ^ 31) (hb : b < 2 ^ 31) : (if x < y then y else x) = nI (max a b) := by
  subst hx; subst hy
  by_cases h : nI a < nI b
  · rw [if_pos h, Nat.max_eq_right (Nat.le_of_lt ((nI_ltI ha hb).mp h))]
  · rw [if_neg h, Nat.max_eq_left (Nat.le_of_not_lt fun z => h ((nI_ltI ha hb).mpr z))]
set_option maxHeartbeats 4000000 in
set_option maxRecDepth 100000 in
/-- depth: one part -/
theorem m_dep_1 (l : Launch) (D : va_G) (cy : Nat → ClassId) (O : Nat × va_E → Prop) {lo pl fx fm N i y9 : Nat} {FM : Nat → Option Nat} {T : Nat → TRow} {f9 : Nat → Int32} (hO : O (lo, .inr (10, [.ref pl, .ref fx, .ref fm]))) (hFM : O (fm, .inl (cy 6, N, .inr (.inr (.inr (.inr FM)))))) (hi : i < N) (hN : N ≤ 40) (hF : FM i = some y9) (hy : O (y9, .inl (cy 0, 8, .inl f9))) (hT : rowT T i f9) {n l1 : Nat} (h9 : (T i).1 = 2) (hl1 : l1 < 2 ^ 31) (ih : Ci l yX10_depth (.code yX10_depth cX10_depth 5 (some .int) :: WALL) ({ frames := 2 * n + 4, cells := 0, slots := 0, locals := 40 * n + 80 }) D cy O [.ref lo, .int (nI (T i).2.1)] [] 0 0 (fun (r : Int32) (w : va_W) => r = nI l1 ∧ w = [])) : Ci l yX10_depth (.code yX10_depth cX10_depth 5 (some .int) :: WALL) ({ frames := 2 * (n + 1) + 4, cells := 0, slots := 0, locals := 40 * (n + 1) + 80 }) D cy O [.ref lo, .int (nI i)] [] 0 0 (fun (r : Int32) (w : va_W) => r = nI l1 ∧ w = []) := by
  obtain ⟨hk0, -, -, hk5, hk6, -⟩ := hT
  refine z_meti (by decide) rfl rfl (Nat.le_of_ble_eq_true rfl) ?_
  intro p e s m args below meth c X hr hin
  refine z_eq (ws' := []) (lv' := [(0, .ref lo), (1, .int (nI i))]) (st' := []) rfl rfl rfl ?_
  refine z_aload_n X dX10_depth_0 rfl (j := 0) rfl ?_
  refine z_getO X (ci := 10) (C := RX10) (T := TX10) (N := 3) inX10 hO rfl 2 (by decide) fl_X10_20 (fun _ h9 => h9) rfl dX10_depth_1 ?_
  refine z_iload_n X dX10_depth_4 rfl (j := 1) rfl ?_
  refine z_aaldAO X (t := .int) (k6 := 6) hFM rfl (b := y9) (vp_in_nI hi (by omega)) (by rw [nI_clamp (by omega)]; exact hF) dX10_depth_5 ?_
  refine z_astore_n X (lv' := [(2, .ref y9), (0, .ref lo), (1, .int (nI i))]) dX10_depth_6 rfl (by decide) rfl ?_
  refine z_iconst X (v := 0) dX10_depth_7 (by decide) ?_
  refine z_istore_n X (lv' := [(3, .int 0), (2, .ref y9), (0, .ref lo), (1, .int (nI i))]) dX10_depth_8 rfl (by decide) rfl ?_
  refine z_iconst X (v := 0) dX10_depth_9 (by decide) ?_
  refine z_istore X (lv' := [(4, .int 0), (3, .int 0), (2, .ref y9), (0, .ref lo), (1, .int (nI i))]) dX10_depth_10 (by decide) rfl ?_
  refine z_iload X dX10_depth_12 (j := 0) rfl ?_
  refine z_aload_n X dX10_depth_14 rfl (j := 3) rfl ?_
  refine z_aload_n X dX10_depth_15 rfl (j := 2) rfl ?_
  refine z_reti X (as := [.ref lo, .ref y9]) (wc := []) (wr := []) (rest := [.int 0]) (fun H9 locs9 ls9 hP9 hS9 hl9 hb9 hp9 => va_runV (As := [.ref y9]) (rest := [.int 0]) X.fix (m_parts_1 l D cy O hy hk0 (by omega) (by omega) H9.size) (cwV 1 X.hts (gV ml_X10_55 im_X10_parts se_X10_parts ni_X10 cd_X10_parts) rfl rfl rfl (by decide +kernel) ⟨by show 0 + 1 ≤ (2 * (n + 1) + 4); omega, by show 8 + (2 + 11) + 0 ≤ (40 * (n + 1) + 80); omega⟩) ⟨hb9, z_recvO X (ci := 10) (r := (RX10, TX10, 3)) hO rfl hS9, hp9⟩ rfl rfl hl9.1 rfl (lv_room (Nat.le_of_ble_eq_true rfl)) dX10_depth_16 ⟨Nat.le_of_ble_eq_true rfl, Nat.le_of_ble_eq_true rfl⟩) [] [] rfl rfl rfl rfl rfl (by decide) (fun _ h => Or.inl h) (fun r1 w2 h3 => ?_)
  obtain ⟨rfl, rfl⟩ := h3
  refine z_eq (ws' := []) (lv' := [(4, .int 0), (3, .int 0), (2, .ref y9), (0, .ref lo), (1, .int (nI i))]) (st' := [.int 1, .int 0]) rfl rfl rfl ?_
  refine z_widen (k' := 0) (n' := 0) (Nat.le_refl _) (Nat.le_refl _) ?_
  refine z_icmp_ge X (tgt := 43) dX10_depth_19 (by decide) (fun c9 => absurd c9 (by decide)) (fun c_19 => ?_)
  refine z_iload_n X dX10_depth_22 rfl (j := 1) rfl ?_
  refine z_aload_n X dX10_depth_23 rfl (j := 3) rfl ?_
  refine z_aload_n X dX10_depth_24 rfl (j := 2) rfl ?_
  refine z_iconst X (v := 5) dX10_depth_25 (by decide) ?_
  refine z_iload X dX10_depth_26 (j := 0) rfl ?_
  refine z_iadd X (v := 5) dX10_depth_28 (by decide) ?_
  refine z_ialdO X hy (v := (nI (T i).2.1)) (by unfold vp_in; decide) (hk5 (by omega)) dX10_depth_29 ?_
  refine z_reti X (as := [.ref lo, .int (nI (T i).2.1)]) (wc := []) (wr := []) (rest := [.int 0]) (fun H9 locs9 ls9 hP9 hS9 hl9 hb9 hp9 => va_runV (As := [.int (nI (T i).2.1)]) (rest := [.int 0]) X.fix (ih H9.size) (cwV 1 X.hts (gV ml_X10_62 im_X10_depth se_X10_depth ni_X10 cd_X10_depth) rfl rfl rfl (by decide +kernel) ⟨by show 2 * n + 4 + 1 ≤ 2 * (n + 1) + 4; omega, by show 8 + (5 + 11) + (40 * n + 80) ≤ 40 * (n + 1) + 80; omega⟩) ⟨hb9, z_recvO X (ci := 10) (r := (RX10, TX10, 3)) hO rfl hS9, hp9⟩ rfl rfl hl9.1 rfl (lv_room (Nat.le_of_ble_eq_true rfl)) dX10_depth_30 ⟨Nat.le_of_ble_eq_true rfl, Nat.le_of_ble_eq_true rfl⟩) [] [] rfl rfl rfl rfl rfl (by decide) (fun _ h => Or.inl h) (fun r4 w5 h6 => ?_)
  obtain ⟨rfl, rfl⟩ := h6
  refine z_eq (ws' := []) (lv' := [(4, .int 0), (3, .int 0), (2, .ref y9), (0, .ref lo), (1, .int (nI i))]) (st' := [.int (nI l1), .int 0]) rfl rfl rfl ?_
  refine z_widen (k' := 0) (n' := 0) (Nat.le_refl _) (Nat.le_refl _) ?_
  refine z_reti X (as := [.int 0, .int (nI l1)]) (wc := []) (wr := []) (rest := []) (fun H9 locs9 ls9 hP9 hS9 hl9 hb9 hp9 => va_runS (As := [.int 0, .int (nI l1)]) (rest := []) X.fix (m_max l D cy O 0 (nI l1) H9.size) (va_cwS 2 X.hts (gS ml_X10_65 sm_J9_max_7cf53 ni_J9 cd_J9_max_7cf53) rfl rfl rfl (by decide +kernel) ⟨by show 0 + 1 ≤ 2 * (n + 1) + 4; omega, by show 8 + (2 + 11) + 0 ≤ 40 * (n + 1) + 80; omega⟩) ⟨hb9, hp9⟩ rfl rfl hl9.1 rfl (lv_room (Nat.le_of_ble_eq_true rfl)) dX10_depth_33 ⟨Nat.le_of_ble_eq_true rfl, Nat.le_of_ble_eq_true rfl⟩) [] [] rfl rfl rfl rfl rfl (by decide) (fun _ h => Or.inl h) (fun r7 w8 h9 => ?_)
  obtain ⟨rfl, rfl⟩ := h9
  rw [mx_nI (x := 0) (y := nI l1) (a := 0) (b := l1) rfl rfl (by decide) (by omega), Nat.zero_max]
  refine z_eq (ws' := []) (lv' := [(4, .int 0), (3, .int 0), (2, .ref y9), (0, .ref lo), (1, .int (nI i))]) (st' := [.int (nI l1)]) rfl rfl rfl ?_
  refine z_widen (k' := 0) (n' := 0) (Nat.le_refl _) (Nat.le_refl _) ?_
  refine z_istore_n X (lv' := [(3, .int (nI l1)), (4, .int 0), (2, .ref y9), (0, .ref lo), (1, .int (nI i))]) dX10_depth_36 rfl (by decide) rfl ?_
  refine z_iinc X (j := 1) (v := 1) (lv' := [(4, .int 1), (3, .int (nI l1)), (2, .ref y9), (0, .ref lo), (1, .int (nI i))]) dX10_depth_37 rfl (by decide) (by decide) rfl ?_
  refine z_goto X (tgt := 12) dX10_depth_40 (by decide) ?_
  refine z_iload X dX10_depth_12 (j := 0) rfl ?_
  refine z_aload_n X dX10_depth_14 rfl (j := 3) rfl ?_
  refine z_aload_n X dX10_depth_15 rfl (j := 2) rfl ?_
  refine z_reti X (as := [.ref lo, .ref y9]) (wc := []) (wr := []) (rest := [.int 1]) (fun H9 locs9 ls9 hP9 hS9 hl9 hb9 hp9 => va_runV (As := [.ref y9]) (rest := [.int 1]) X.fix (m_parts_1 l D cy O hy hk0 (by omega) (by omega) H9.size) (cwV 1 X.hts (gV ml_X10_55 im_X10_parts se_X10_parts ni_X10 cd_X10_parts) rfl rfl rfl (by decide +kernel) ⟨by show 0 + 1 ≤ (2 * (n + 1) + 4); omega, by show 8 + (2 + 11) + 0 ≤ (40 * (n + 1) + 80); omega⟩) ⟨hb9, z_recvO X (ci := 10) (r := (RX10, TX10, 3)) hO rfl hS9, hp9⟩ rfl rfl hl9.1 rfl (lv_room (Nat.le_of_ble_eq_true rfl)) dX10_depth_16 ⟨Nat.le_of_ble_eq_true rfl, Nat.le_of_ble_eq_true rfl⟩) [] [] rfl rfl rfl rfl rfl (by decide) (fun _ h => Or.inl h) (fun r10 w11 h12 => ?_)
  obtain ⟨rfl, rfl⟩ := h12
  refine z_eq (ws' := []) (lv' := [(4, .int 1), (3, .int (nI l1)), (2, .ref y9), (0, .ref lo), (1, .int (nI i))]) (st' := [.int 1, .int 1]) rfl rfl rfl ?_
  refine z_widen (k' := 0) (n' := 0) (Nat.le_refl _) (Nat.le_refl _) ?_
  refine z_icmp_ge X (tgt := 43) dX10_depth_19 (by decide) (fun c_19 => ?_) (fun c9 => absurd (by decide) c9)
  refine z_aload_n X dX10_depth_43 rfl (j := 2) rfl ?_
  refine z_iconst X (v := 0) dX10_depth_44 (by decide) ?_
  refine z_ialdO X hy (v := (nI (T i).1)) (by unfold vp_in; decide) hk0 dX10_depth_45 ?_
  refine z_iconst X (v := 4) dX10_depth_46 (by decide) ?_
  refine z_icmp_le X (tgt := 56) dX10_depth_47 (by decide) (fun c_47 => ?_) (fun c9 => absurd (nI_le (a := (T i).1) (b := 4) (by omega) (by decide)) c9)
  refine z_iload_n X dX10_depth_56 rfl (j := 1) rfl ?_
  exact z_endi X hr [] [] rfl rfl rfl ⟨rfl, rfl⟩ dX10_depth_57
set_option maxHeartbeats 4000000 in
set_option maxRecDepth 100000 in
/-- depth: one part -/
theorem m_dep_5 (l : Launch) (D : va_G) (cy : Nat → ClassId) (O : Nat × va_E → Prop) {lo pl fx fm N i y9 : Nat} {FM : Nat → Option Nat} {T : Nat → TRow} {f9 : Nat → Int32} (hO : O (lo, .inr (10, [.ref pl, .ref fx, .ref fm]))) (hFM : O (fm, .inl (cy 6, N, .inr (.inr (.inr (.inr FM)))))) (hi : i < N) (hN : N ≤ 40) (hF : FM i = some y9) (hy : O (y9, .inl (cy 0, 8, .inl f9))) (hT : rowT T i f9) {n l1 : Nat} (hkd : (T i).1 < 2 ^ 31) (h9 : 5 ≤ (T i).1) (hl1 : l1 < 2 ^ 31) (ih : Ci l yX10_depth (.code yX10_depth cX10_depth 5 (some .int) :: WALL) ({ frames := 2 * n + 4, cells := 0, slots := 0, locals := 40 * n + 80 }) D cy O [.ref lo, .int (nI (T i).2.1)] [] 0 0 (fun (r : Int32) (w : va_W) => r = nI l1 ∧ w = [])) : Ci l yX10_depth (.code yX10_depth cX10_depth 5 (some .int) :: WALL) ({ frames := 2 * (n + 1) + 4, cells := 0, slots := 0, locals := 40 * (n + 1) + 80 }) D cy O [.ref lo, .int (nI i)] [] 0 0 (fun (r : Int32) (w : va_W) => r = nI (1 + l1) ∧ w = []) := by
  obtain ⟨hk0, -, -, hk5, hk6, -⟩ := hT
  refine z_meti (by decide) rfl rfl (Nat.le_of_ble_eq_true rfl) ?_
  intro p e s m args below meth c X hr hin
  refine z_eq (ws' := []) (lv' := [(0, .ref lo), (1, .int (nI i))]) (st' := []) rfl rfl rfl ?_
  refine z_aload_n X dX10_depth_0 rfl (j := 0) rfl ?_
  refine z_getO X (ci := 10) (C := RX10) (T := TX10) (N := 3) inX10 hO rfl 2 (by decide) fl_X10_20 (fun _ h9 => h9) rfl dX10_depth_1 ?_
  refine z_iload_n X dX10_depth_4 rfl (j := 1) rfl ?_
  refine z_aaldAO X (t := .int) (k6 := 6) hFM rfl (b := y9) (vp_in_nI hi (by omega)) (by rw [nI_clamp (by omega)]; exact hF) dX10_depth_5 ?_
  refine z_astore_n X (lv' := [(2, .ref y9), (0, .ref lo), (1, .int (nI i))]) dX10_depth_6 rfl (by decide) rfl ?_
  refine z_iconst X (v := 0) dX10_depth_7 (by decide) ?_
  refine z_istore_n X (lv' := [(3, .int 0), (2, .ref y9), (0, .ref lo), (1, .int (nI i))]) dX10_depth_8 rfl (by decide) rfl ?_
  refine z_iconst X (v := 0) dX10_depth_9 (by decide) ?_
  refine z_istore X (lv' := [(4, .int 0), (3, .int 0), (2, .ref y9), (0, .ref lo), (1, .int (nI i))]) dX10_depth_10 (by decide) rfl ?_
  refine z_iload X dX10_depth_12 (j := 0) rfl ?_
  refine z_aload_n X dX10_depth_14 rfl (j := 3) rfl ?_
  refine z_aload_n X dX10_depth_15 rfl (j := 2) rfl ?_
  refine z_reti X (as := [.ref lo, .ref y9]) (wc := []) (wr := []) (rest := [.int 0]) (fun H9 locs9 ls9 hP9 hS9 hl9 hb9 hp9 => va_runV (As := [.ref y9]) (rest := [.int 0]) X.fix (m_parts_1 l D cy O hy hk0 (by omega) (by omega) H9.size) (cwV 1 X.hts (gV ml_X10_55 im_X10_parts se_X10_parts ni_X10 cd_X10_parts) rfl rfl rfl (by decide +kernel) ⟨by show 0 + 1 ≤ (2 * (n + 1) + 4); omega, by show 8 + (2 + 11) + 0 ≤ (40 * (n + 1) + 80); omega⟩) ⟨hb9, z_recvO X (ci := 10) (r := (RX10, TX10, 3)) hO rfl hS9, hp9⟩ rfl rfl hl9.1 rfl (lv_room (Nat.le_of_ble_eq_true rfl)) dX10_depth_16 ⟨Nat.le_of_ble_eq_true rfl, Nat.le_of_ble_eq_true rfl⟩) [] [] rfl rfl rfl rfl rfl (by decide) (fun _ h => Or.inl h) (fun r1 w2 h3 => ?_)
  obtain ⟨rfl, rfl⟩ := h3
  refine z_eq (ws' := []) (lv' := [(4, .int 0), (3, .int 0), (2, .ref y9), (0, .ref lo), (1, .int (nI i))]) (st' := [.int 1, .int 0]) rfl rfl rfl ?_
  refine z_widen (k' := 0) (n' := 0) (Nat.le_refl _) (Nat.le_refl _) ?_
  refine z_icmp_ge X (tgt := 43) dX10_depth_19 (by decide) (fun c9 => absurd c9 (by decide)) (fun c_19 => ?_)
  refine z_iload_n X dX10_depth_22 rfl (j := 1) rfl ?_
  refine z_aload_n X dX10_depth_23 rfl (j := 3) rfl ?_
  refine z_aload_n X dX10_depth_24 rfl (j := 2) rfl ?_
  refine z_iconst X (v := 5) dX10_depth_25 (by decide) ?_
  refine z_iload X dX10_depth_26 (j := 0) rfl ?_
  refine z_iadd X (v := 5) dX10_depth_28 (by decide) ?_
  refine z_ialdO X hy (v := (nI (T i).2.1)) (by unfold vp_in; decide) (hk5 (by omega)) dX10_depth_29 ?_
  refine z_reti X (as := [.ref lo, .int (nI (T i).2.1)]) (wc := []) (wr := []) (rest := [.int 0]) (fun H9 locs9 ls9 hP9 hS9 hl9 hb9 hp9 => va_runV (As := [.int (nI (T i).2.1)]) (rest := [.int 0]) X.fix (ih H9.size) (cwV 1 X.hts (gV ml_X10_62 im_X10_depth se_X10_depth ni_X10 cd_X10_depth) rfl rfl rfl (by decide +kernel) ⟨by show 2 * n + 4 + 1 ≤ 2 * (n + 1) + 4; omega, by show 8 + (5 + 11) + (40 * n + 80) ≤ 40 * (n + 1) + 80; omega⟩) ⟨hb9, z_recvO X (ci := 10) (r := (RX10, TX10, 3)) hO rfl hS9, hp9⟩ rfl rfl hl9.1 rfl (lv_room (Nat.le_of_ble_eq_true rfl)) dX10_depth_30 ⟨Nat.le_of_ble_eq_true rfl, Nat.le_of_ble_eq_true rfl⟩) [] [] rfl rfl rfl rfl rfl (by decide) (fun _ h => Or.inl h) (fun r4 w5 h6 => ?_)
  obtain ⟨rfl, rfl⟩ := h6
  refine z_eq (ws' := []) (lv' := [(4, .int 0), (3, .int 0), (2, .ref y9), (0, .ref lo), (1, .int (nI i))]) (st' := [.int (nI l1), .int 0]) rfl rfl rfl ?_
  refine z_widen (k' := 0) (n' := 0) (Nat.le_refl _) (Nat.le_refl _) ?_
  refine z_reti X (as := [.int 0, .int (nI l1)]) (wc := []) (wr := []) (rest := []) (fun H9 locs9 ls9 hP9 hS9 hl9 hb9 hp9 => va_runS (As := [.int 0, .int (nI l1)]) (rest := []) X.fix (m_max l D cy O 0 (nI l1) H9.size) (va_cwS 2 X.hts (gS ml_X10_65 sm_J9_max_7cf53 ni_J9 cd_J9_max_7cf53) rfl rfl rfl (by decide +kernel) ⟨by show 0 + 1 ≤ 2 * (n + 1) + 4; omega, by show 8 + (2 + 11) + 0 ≤ 40 * (n + 1) + 80; omega⟩) ⟨hb9, hp9⟩ rfl rfl hl9.1 rfl (lv_room (Nat.le_of_ble_eq_true rfl)) dX10_depth_33 ⟨Nat.le_of_ble_eq_true rfl, Nat.le_of_ble_eq_true rfl⟩) [] [] rfl rfl rfl rfl rfl (by decide) (fun _ h => Or.inl h) (fun r7 w8 h9 => ?_)
  obtain ⟨rfl, rfl⟩ := h9
  rw [mx_nI (x := 0) (y := nI l1) (a := 0) (b := l1) rfl rfl (by decide) (by omega), Nat.zero_max]
  refine z_eq (ws' := []) (lv' := [(4, .int 0), (3, .int 0), (2, .ref y9), (0, .ref lo), (1, .int (nI i))]) (st' := [.int (nI l1)]) rfl rfl rfl ?_
  refine z_widen (k' := 0) (n' := 0) (Nat.le_refl _) (Nat.le_refl _) ?_
  refine z_istore_n X (lv' := [(3, .int (nI l1)), (4, .int 0), (2, .ref y9), (0, .ref lo), (1, .int (nI i))]) dX10_depth_36 rfl (by decide) rfl ?_
  refine z_iinc X (j := 1) (v := 1) (lv' := [(4, .int 1), (3, .int (nI l1)), (2, .ref y9), (0, .ref lo), (1, .int (nI i))]) dX10_depth_37 rfl (by decide) (by decide) rfl ?_
  refine z_goto X (tgt := 12) dX10_depth_40 (by decide) ?_
  refine z_iload X dX10_depth_12 (j := 0) rfl ?_
  refine z_aload_n X dX10_depth_14 rfl (j := 3) rfl ?_
  refine z_aload_n X dX10_depth_15 rfl (j := 2) rfl ?_
  refine z_reti X (as := [.ref lo, .ref y9]) (wc := []) (wr := []) (rest := [.int 1]) (fun H9 locs9 ls9 hP9 hS9 hl9 hb9 hp9 => va_runV (As := [.ref y9]) (rest := [.int 1]) X.fix (m_parts_1 l D cy O hy hk0 (by omega) (by omega) H9.size) (cwV 1 X.hts (gV ml_X10_55 im_X10_parts se_X10_parts ni_X10 cd_X10_parts) rfl rfl rfl (by decide +kernel) ⟨by show 0 + 1 ≤ (2 * (n + 1) + 4); omega, by show 8 + (2 + 11) + 0 ≤ (40 * (n + 1) + 80); omega⟩) ⟨hb9, z_recvO X (ci := 10) (r := (RX10, TX10, 3)) hO rfl hS9, hp9⟩ rfl rfl hl9.1 rfl (lv_room (Nat.le_of_ble_eq_true rfl)) dX10_depth_16 ⟨Nat.le_of_ble_eq_true rfl, Nat.le_of_ble_eq_true rfl⟩) [] [] rfl rfl rfl rfl rfl (by decide) (fun _ h => Or.inl h) (fun r10 w11 h12 => ?_)
  obtain ⟨rfl, rfl⟩ := h12
  refine z_eq (ws' := []) (lv' := [(4, .int 1), (3, .int (nI l1)), (2, .ref y9), (0, .ref lo), (1, .int (nI i))]) (st' := [.int 1, .int 1]) rfl rfl rfl ?_
  refine z_widen (k' := 0) (n' := 0) (Nat.le_refl _) (Nat.le_refl _) ?_
  refine z_icmp_ge X (tgt := 43) dX10_depth_19 (by decide) (fun c_19 => ?_) (fun c9 => absurd (by decide) c9)
  refine z_aload_n X dX10_depth_43 rfl (j := 2) rfl ?_
  refine z_iconst X (v := 0) dX10_depth_44 (by decide) ?_
  refine z_ialdO X hy (v := (nI (T i).1)) (by unfold vp_in; decide) hk0 dX10_depth_45 ?_
  refine z_iconst X (v := 4) dX10_depth_46 (by decide) ?_
  refine z_icmp_le X (tgt := 56) dX10_depth_47 (by decide) (fun c9 => absurd c9 (nI_ge (a := 4) (b := (T i).1) (by omega) hkd)) (fun c_47 => ?_)
  refine z_iload_n X dX10_depth_50 rfl (j := 1) rfl ?_
  refine z_iconst X (v := 1) dX10_depth_51 (by decide) ?_
  refine z_iadd X (v := (nI (1 + l1))) dX10_depth_52 (by rw [nI_1, Nat.add_comm]) ?_
  refine z_goto X (tgt := 57) dX10_depth_53 (by decide) ?_
  exact z_endi X hr [] [] rfl rfl rfl ⟨rfl, rfl⟩ dX10_depth_57
set_option maxHeartbeats 4000000 in
set_option maxRecDepth 100000 in
/-- depth: two parts -/
theorem m_dep_2 (l : Launch) (D : va_G) (cy : Nat → ClassId) (O : Nat × va_E → Prop) {lo pl fx fm N i y9 : Nat} {FM : Nat → Option Nat} {T : Nat → TRow} {f9 : Nat → Int32} (hO : O (lo, .inr (10, [.ref pl, .ref fx, .ref fm]))) (hFM : O (fm, .inl (cy 6, N, .inr (.inr (.inr (.inr FM)))))) (hi : i < N) (hN : N ≤ 40) (hF : FM i = some y9) (hy : O (y9, .inl (cy 0, 8, .inl f9))) (hT : rowT T i f9) {n l1 l2 : Nat} (h9 : (T i).1 = 3 ∨ (T i).1 = 4) (hl1 : l1 < 2 ^ 31) (hl2 : l2 < 2 ^ 31) (ih : Ci l yX10_depth (.code yX10_depth cX10_depth 5 (some .int) :: WALL) ({ frames := 2 * n + 4, cells := 0, slots := 0, locals := 40 * n + 80 }) D cy O [.ref lo, .int (nI (T i).2.1)] [] 0 0 (fun (r : Int32) (w : va_W) => r = nI l1 ∧ w = [])) (ih2 : Ci l yX10_depth (.code yX10_depth cX10_depth 5 (some .int) :: WALL) ({ frames := 2 * n + 4, cells := 0, slots := 0, locals := 40 * n + 80 }) D cy O [.ref lo, .int (nI (T i).2.2.1)] [] 0 0 (fun (r : Int32) (w : va_W) => r = nI l2 ∧ w = [])) : Ci l yX10_depth (.code yX10_depth cX10_depth 5 (some .int) :: WALL) ({ frames := 2 * (n + 1) + 4, cells := 0, slots := 0, locals := 40 * (n + 1) + 80 }) D cy O [.ref lo, .int (nI i)] [] 0 0 (fun (r : Int32) (w : va_W) => r = nI (max l1 l2) ∧ w = []) := by
  obtain ⟨hk0, -, -, hk5, hk6, -⟩ := hT
  refine z_meti (by decide) rfl rfl (Nat.le_of_ble_eq_true rfl) ?_
  intro p e s m args below meth c X hr hin
  refine z_eq (ws' := []) (lv' := [(0, .ref lo), (1, .int (nI i))]) (st' := []) rfl rfl rfl ?_
  refine z_aload_n X dX10_depth_0 rfl (j := 0) rfl ?_
  refine z_getO X (ci := 10) (C := RX10) (T := TX10) (N := 3) inX10 hO rfl 2 (by decide) fl_X10_20 (fun _ h9 => h9) rfl dX10_depth_1 ?_
  refine z_iload_n X dX10_depth_4 rfl (j := 1) rfl ?_
  refine z_aaldAO X (t := .int) (k6 := 6) hFM rfl (b := y9) (vp_in_nI hi (by omega)) (by rw [nI_clamp (by omega)]; exact hF) dX10_depth_5 ?_
  refine z_astore_n X (lv' := [(2, .ref y9), (0, .ref lo), (1, .int (nI i))]) dX10_depth_6 rfl (by decide) rfl ?_
  refine z_iconst X (v := 0) dX10_depth_7 (by decide) ?_
  refine z_istore_n X (lv' := [(3, .int 0), (2, .ref y9), (0, .ref lo), (1, .int (nI i))]) dX10_depth_8 rfl (by decide) rfl ?_
  refine z_iconst X (v := 0) dX10_depth_9 (by decide) ?_
  refine z_istore X (lv' := [(4, .int 0), (3, .int 0), (2, .ref y9), (0, .ref lo), (1, .int (nI i))]) dX10_depth_10 (by decide) rfl ?_
  refine z_iload X dX10_depth_12 (j := 0) rfl ?_
  refine z_aload_n X dX10_depth_14 rfl (j := 3) rfl ?_
  refine z_aload_n X dX10_depth_15 rfl (j := 2) rfl ?_
  refine z_reti X (as := [.ref lo, .ref y9]) (wc := []) (wr := []) (rest := [.int 0]) (fun H9 locs9 ls9 hP9 hS9 hl9 hb9 hp9 => va_runV (As := [.ref y9]) (rest := [.int 0]) X.fix (m_parts_2 l D cy O hy hk0 (by omega) h9 H9.size) (cwV 1 X.hts (gV ml_X10_55 im_X10_parts se_X10_parts ni_X10 cd_X10_parts) rfl rfl rfl (by decide +kernel) ⟨by show 0 + 1 ≤ 2 * (n + 1) + 4; omega, by show 8 + (2 + 11) + 0 ≤ 40 * (n + 1) + 80; omega⟩) ⟨hb9, z_recvO X (ci := 10) (r := (RX10, TX10, 3)) hO rfl hS9, hp9⟩ rfl rfl hl9.1 rfl (lv_room (Nat.le_of_ble_eq_true rfl)) dX10_depth_16 ⟨Nat.le_of_ble_eq_true rfl, Nat.le_of_ble_eq_true rfl⟩) [] [] rfl rfl rfl rfl rfl (by decide) (fun _ h => Or.inl h) (fun r1 w2 h3 => ?_)
  obtain ⟨rfl, rfl⟩ := h3
  refine z_eq (ws' := []) (lv' := [(4, .int 0), (3, .int 0), (2, .ref y9), (0, .ref lo), (1, .int (nI i))]) (st' := [.int 2, .int 0]) rfl rfl rfl ?_
  refine z_widen (k' := 0) (n' := 0) (Nat.le_refl _) (Nat.le_refl _) ?_
  refine z_icmp_ge X (tgt := 43) dX10_depth_19 (by decide) (fun c9 => absurd c9 (by decide)) (fun c_19 => ?_)
  refine z_iload_n X dX10_depth_22 rfl (j := 1) rfl ?_
  refine z_aload_n X dX10_depth_23 rfl (j := 3) rfl ?_
  refine z_aload_n X dX10_depth_24 rfl (j := 2) rfl ?_
  refine z_iconst X (v := 5) dX10_depth_25 (by decide) ?_
  refine z_iload X dX10_depth_26 (j := 0) rfl ?_
  refine z_iadd X (v := 5) dX10_depth_28 (by decide) ?_
  refine z_ialdO X hy (v := (nI (T i).2.1)) (by unfold vp_in; decide) (hk5 (by omega)) dX10_depth_29 ?_
  refine z_reti X (as := [.ref lo, .int (nI (T i).2.1)]) (wc := []) (wr := []) (rest := [.int 0]) (fun H9 locs9 ls9 hP9 hS9 hl9 hb9 hp9 => va_runV (As := [.int (nI (T i).2.1)]) (rest := [.int 0]) X.fix (ih H9.size) (cwV 1 X.hts (gV ml_X10_62 im_X10_depth se_X10_depth ni_X10 cd_X10_depth) rfl rfl rfl (by decide +kernel) ⟨by show 2 * n + 4 + 1 ≤ 2 * (n + 1) + 4; omega, by show 8 + (5 + 11) + (40 * n + 80) ≤ 40 * (n + 1) + 80; omega⟩) ⟨hb9, z_recvO X (ci := 10) (r := (RX10, TX10, 3)) hO rfl hS9, hp9⟩ rfl rfl hl9.1 rfl (lv_room (Nat.le_of_ble_eq_true rfl)) dX10_depth_30 ⟨Nat.le_of_ble_eq_true rfl, Nat.le_of_ble_eq_true rfl⟩) [] [] rfl rfl rfl rfl rfl (by decide) (fun _ h => Or.inl h) (fun r4 w5 h6 => ?_)
  obtain ⟨rfl, rfl⟩ := h6
  refine z_eq (ws' := []) (lv' := [(4, .int 0), (3, .int 0), (2, .ref y9), (0, .ref lo), (1, .int (nI i))]) (st' := [.int (nI l1), .int 0]) rfl rfl rfl ?_
  refine z_widen (k' := 0) (n' := 0) (Nat.le_refl _) (Nat.le_refl _) ?_
  refine z_reti X (as := [.int 0, .int (nI l1)]) (wc := []) (wr := []) (rest := []) (fun H9 locs9 ls9 hP9 hS9 hl9 hb9 hp9 => va_runS (As := [.int 0, .int (nI l1)]) (rest := []) X.fix (m_max l D cy O 0 (nI l1) H9.size) (va_cwS 2 X.hts (gS ml_X10_65 sm_J9_max_7cf53 ni_J9 cd_J9_max_7cf53) rfl rfl rfl (by decide +kernel) ⟨by show 0 + 1 ≤ 2 * (n + 1) + 4; omega, by show 8 + (2 + 11) + 0 ≤ 40 * (n + 1) + 80; omega⟩) ⟨hb9, hp9⟩ rfl rfl hl9.1 rfl (lv_room (Nat.le_of_ble_eq_true rfl)) dX10_depth_33 ⟨Nat.le_of_ble_eq_true rfl, Nat.le_of_ble_eq_true rfl⟩) [] [] rfl rfl rfl rfl rfl (by decide) (fun _ h => Or.inl h) (fun r7 w8 h9 => ?_)
  obtain ⟨rfl, rfl⟩ := h9
  rw [mx_nI (x := 0) (y := nI l1) (a := 0) (b := l1) rfl rfl (by decide) (by omega), Nat.zero_max]
  refine z_eq (ws' := []) (lv' := [(4, .int 0), (3, .int 0), (2, .ref y9), (0, .ref lo), (1, .int (nI i))]) (st' := [.int (nI l1)]) rfl rfl rfl ?_
  refine z_widen (k' := 0) (n' := 0) (Nat.le_refl _) (Nat.le_refl _) ?_
  refine z_istore_n X (lv' := [(3, .int (nI l1)), (4, .int 0), (2, .ref y9), (0, .ref lo), (1, .int (nI i))]) dX10_depth_36 rfl (by decide) rfl ?_
  refine z_iinc X (j := 1) (v := 1) (lv' := [(4, .int 1), (3, .int (nI l1)), (2, .ref y9), (0, .ref lo), (1, .int (nI i))]) dX10_depth_37 rfl (by decide) (by decide) rfl ?_
  refine z_goto X (tgt := 12) dX10_depth_40 (by decide) ?_
  refine z_iload X dX10_depth_12 (j := 0) rfl ?_
  refine z_aload_n X dX10_depth_14 rfl (j := 3) rfl ?_
  refine z_aload_n X dX10_depth_15 rfl (j := 2) rfl ?_
  refine z_reti X (as := [.ref lo, .ref y9]) (wc := []) (wr := []) (rest := [.int 1]) (fun H9 locs9 ls9 hP9 hS9 hl9 hb9 hp9 => va_runV (As := [.ref y9]) (rest := [.int 1]) X.fix (m_parts_2 l D cy O hy hk0 (by omega) h9 H9.size) (cwV 1 X.hts (gV ml_X10_55 im_X10_parts se_X10_parts ni_X10 cd_X10_parts) rfl rfl rfl (by decide +kernel) ⟨by show 0 + 1 ≤ 2 * (n + 1) + 4; omega, by show 8 + (2 + 11) + 0 ≤ 40 * (n + 1) + 80; omega⟩) ⟨hb9, z_recvO X (ci := 10) (r := (RX10, TX10, 3)) hO rfl hS9, hp9⟩ rfl rfl hl9.1 rfl (lv_room (Nat.le_of_ble_eq_true rfl)) dX10_depth_16 ⟨Nat.le_of_ble_eq_true rfl, Nat.le_of_ble_eq_true rfl⟩) [] [] rfl rfl rfl rfl rfl (by decide) (fun _ h => Or.inl h) (fun r10 w11 h12 => ?_)
  obtain ⟨rfl, rfl⟩ := h12
  refine z_eq (ws' := []) (lv' := [(4, .int 1), (3, .int (nI l1)), (2, .ref y9), (0, .ref lo), (1, .int (nI i))]) (st' := [.int 2, .int 1]) rfl rfl rfl ?_
  refine z_widen (k' := 0) (n' := 0) (Nat.le_refl _) (Nat.le_refl _) ?_
  refine z_icmp_ge X (tgt := 43) dX10_depth_19 (by decide) (fun c9 => absurd c9 (by decide)) (fun c_19 => ?_)
  refine z_iload_n X dX10_depth_22 rfl (j := 1) rfl ?_
  refine z_aload_n X dX10_depth_23 rfl (j := 3) rfl ?_
  refine z_aload_n X dX10_depth_24 rfl (j := 2) rfl ?_
  refine z_iconst X (v := 5) dX10_depth_25 (by decide) ?_
  refine z_iload X dX10_depth_26 (j := 0) rfl ?_
  refine z_iadd X (v := 6) dX10_depth_28 (by decide) ?_
  refine z_ialdO X hy (v := (nI (T i).2.2.1)) (by unfold vp_in; decide) (hk6 h9) dX10_depth_29 ?_
  refine z_reti X (as := [.ref lo, .int (nI (T i).2.2.1)]) (wc := []) (wr := []) (rest := [.int (nI l1)]) (fun H9 locs9 ls9 hP9 hS9 hl9 hb9 hp9 => va_runV (As := [.int (nI (T i).2.2.1)]) (rest := [.int (nI l1)]) X.fix (ih2 H9.size) (cwV 1 X.hts (gV ml_X10_62 im_X10_depth se_X10_depth ni_X10 cd_X10_depth) rfl rfl rfl (by decide +kernel) ⟨by show 2 * n + 4 + 1 ≤ 2 * (n + 1) + 4; omega, by show 8 + (5 + 11) + (40 * n + 80) ≤ 40 * (n + 1) + 80; omega⟩) ⟨hb9, z_recvO X (ci := 10) (r := (RX10, TX10, 3)) hO rfl hS9, hp9⟩ rfl rfl hl9.1 rfl (lv_room (Nat.le_of_ble_eq_true rfl)) dX10_depth_30 ⟨Nat.le_of_ble_eq_true rfl, Nat.le_of_ble_eq_true rfl⟩) [] [] rfl rfl rfl rfl rfl (by decide) (fun _ h => Or.inl h) (fun r13 w14 h15 => ?_)
  obtain ⟨rfl, rfl⟩ := h15
  refine z_eq (ws' := []) (lv' := [(4, .int 1), (3, .int (nI l1)), (2, .ref y9), (0, .ref lo), (1, .int (nI i))]) (st' := [.int (nI l2), .int (nI l1)]) rfl rfl rfl ?_
  refine z_widen (k' := 0) (n' := 0) (Nat.le_refl _) (Nat.le_refl _) ?_
  refine z_reti X (as := [.int (nI l1), .int (nI l2)]) (wc := []) (wr := []) (rest := []) (fun H9 locs9 ls9 hP9 hS9 hl9 hb9 hp9 => va_runS (As := [.int (nI l1), .int (nI l2)]) (rest := []) X.fix (m_max l D cy O (nI l1) (nI l2) H9.size) (va_cwS 2 X.hts (gS ml_X10_65 sm_J9_max_7cf53 ni_J9 cd_J9_max_7cf53) rfl rfl rfl (by decide +kernel) ⟨by show 0 + 1 ≤ 2 * (n + 1) + 4; omega, by show 8 + (2 + 11) + 0 ≤ 40 * (n + 1) + 80; omega⟩) ⟨hb9, hp9⟩ rfl rfl hl9.1 rfl (lv_room (Nat.le_of_ble_eq_true rfl)) dX10_depth_33 ⟨Nat.le_of_ble_eq_true rfl, Nat.le_of_ble_eq_true rfl⟩) [] [] rfl rfl rfl rfl rfl (by decide) (fun _ h => Or.inl h) (fun r16 w17 h18 => ?_)
  obtain ⟨rfl, rfl⟩ := h18
  rw [mx_nI (x := (nI l1)) (y := (nI l2)) rfl rfl (by omega) (by omega)]
  refine z_eq (ws' := []) (lv' := [(4, .int 1), (3, .int (nI l1)), (2, .ref y9), (0, .ref lo), (1, .int (nI i))]) (st' := [.int (nI (max l1 l2))]) rfl rfl rfl ?_
  refine z_widen (k' := 0) (n' := 0) (Nat.le_refl _) (Nat.le_refl _) ?_
  refine z_istore_n X (lv' := [(3, .int (nI (max l1 l2))), (4, .int 1), (2, .ref y9), (0, .ref lo), (1, .int (nI i))]) dX10_depth_36 rfl (by decide) rfl ?_
  refine z_iinc X (j := 1) (v := 2) (lv' := [(4, .int 2), (3, .int (nI (max l1 l2))), (2, .ref y9), (0, .ref lo), (1, .int (nI i))]) dX10_depth_37 rfl (by decide) (by decide) rfl ?_
  refine z_goto X (tgt := 12) dX10_depth_40 (by decide) ?_
  refine z_iload X dX10_depth_12 (j := 0) rfl ?_
  refine z_aload_n X dX10_depth_14 rfl (j := 3) rfl ?_
  refine z_aload_n X dX10_depth_15 rfl (j := 2) rfl ?_
  refine z_reti X (as := [.ref lo, .ref y9]) (wc := []) (wr := []) (rest := [.int 2]) (fun H9 locs9 ls9 hP9 hS9 hl9 hb9 hp9 => va_runV (As := [.ref y9]) (rest := [.int 2]) X.fix (m_parts_2 l D cy O hy hk0 (by omega) h9 H9.size) (cwV 1 X.hts (gV ml_X10_55 im_X10_parts se_X10_parts ni_X10 cd_X10_parts) rfl rfl rfl (by decide +kernel) ⟨by show 0 + 1 ≤ 2 * (n + 1) + 4; omega, by show 8 + (2 + 11) + 0 ≤ 40 * (n + 1) + 80; omega⟩) ⟨hb9, z_recvO X (ci := 10) (r := (RX10, TX10, 3)) hO rfl hS9, hp9⟩ rfl rfl hl9.1 rfl (lv_room (Nat.le_of_ble_eq_true rfl)) dX10_depth_16 ⟨Nat.le_of_ble_eq_true rfl, Nat.le_of_ble_eq_true rfl⟩) [] [] rfl rfl rfl rfl rfl (by decide) (fun _ h => Or.inl h) (fun r19 w20 h21 => ?_)
  obtain ⟨rfl, rfl⟩ := h21
  refine z_eq (ws' := []) (lv' := [(4, .int 2), (3, .int (nI (max l1 l2))), (2, .ref y9), (0, .ref lo), (1, .int (nI i))]) (st' := [.int 2, .int 2]) rfl rfl rfl ?_
  refine z_widen (k' := 0) (n' := 0) (Nat.le_refl _) (Nat.le_refl _) ?_
  refine z_icmp_ge X (tgt := 43) dX10_depth_19 (by decide) (fun c_19 => ?_) (fun c9 => absurd (by decide) c9)
  refine z_aload_n X dX10_depth_43 rfl (j := 2) rfl ?_
  refine z_iconst X (v := 0) dX10_depth_44 (by decide) ?_
  refine z_ialdO X hy (v := (nI (T i).1)) (by unfold vp_in; decide) hk0 dX10_depth_45 ?_
  refine z_iconst X (v := 4) dX10_depth_46 (by decide) ?_
  refine z_icmp_le X (tgt := 56) dX10_depth_47 (by decide) (fun c_47 => ?_) (fun c9 => absurd (nI_le (a := (T i).1) (b := 4) (by omega) (by decide)) c9)
  refine z_iload_n X dX10_depth_56 rfl (j := 1) rfl ?_
  exact z_endi X hr [] [] rfl rfl rfl ⟨rfl, rfl⟩ dX10_depth_57
theorem m_depth (l : Launch) (D : va_G) (cy : Nat → ClassId) (O : Nat × va_E → Prop) {lo pl fx fm N rc : Nat} {R : Nat → RRow} {T : Nat → TRow} {At : Nat → TAtt} (hO : O (lo, .inr (10, [.ref pl, .ref fx, .ref fm]))) (hL : LFm O cy fm N T) (hN : N ≤ 40) (hG : ∀ i, i < N → Gd R rc T At i) (hdl : ∀ i, i < N → (At i).2.1 < 2 ^ 31) : ∀ n, n ≤ N → ∀ i, i < n → Ci l yX10_depth (.code yX10_depth cX10_depth 5 (some .int) :: WALL) ({ frames := 2 * n + 4, cells := 0, slots := 0, locals := 40 * n + 80 }) D cy O [.ref lo, .int (nI i)] [] 0 0 (fun (r : Int32) (w : va_W) => r = nI (At i).2.1 ∧ w = []) := by
  obtain ⟨FM, ri, hFM, hL⟩ := hL
  intro n
  induction n with
  | zero => intro _ i hi; omega
  | succ n ih =>
    intro hn i hi
    obtain ⟨hF9, f9, hy, hT⟩ := hL i (by omega)
    have hkd := Gd_kd (hG i (by omega))
    rcases hG i (by omega) with ⟨hk, hr, ht, hA⟩ | ⟨hk, ht, hA⟩ | ⟨hk, ha, hA⟩ | ⟨hk, ha, hb, hA⟩ | ⟨hk, ha, hb, hA⟩ | ⟨hk, ha, hv, hA⟩ | ⟨hk, ha, hv, hA⟩ <;> rw [hA]
    · exact m_dep_0 l D cy O hO hFM (by omega) hN hF9 hy hT (by omega)
    · exact m_dep_0 l D cy O hO hFM (by omega) hN hF9 hy hT (by omega)
    · exact m_dep_1 l D cy O hO hFM (by omega) hN hF9 hy hT (by omega) (hdl _ (by omega)) (ih (by omega) _ (by omega))
    · exact m_dep_2 l D cy O hO hFM (by omega) hN hF9 hy hT (by omega) (hdl _ (by omega)) (hdl _ (by omega)) (ih (by omega) _ (by omega)) (ih (by omega) _ (by omega))
    · exact m_dep_2 l D cy O hO hFM (by omega) hN hF9 hy hT (by omega) (hdl _ (by omega)) (hdl _ (by omega)) (ih (by omega) _ (by omega)) (ih (by omega) _ (by omega))
    · exact m_dep_5 l D cy O hO hFM (by omega) hN hF9 hy hT (by omega) (by omega) (hdl _ (by omega)) (ih (by omega) _ (by omega))
    · exact m_dep_5 l D cy O hO hFM (by omega) hN hF9 hy hT (by omega) (by omega) (hdl _ (by omega)) (ih (by omega) _ (by omega))
