/-- the value of the term t in the lane j -/
def tvl (vo : Nat → Option Nat) (t j : Nat) : Nat := if t < 2 then ld t j else (tvo vo t).getD 0
/-- the lanes that the first k places of a fact agree with -/
def laf (t : Nat → Nat) (P c : Nat) : Nat → Nat → Bool
  | 0, _ => true
  | k + 1, j => laf t P c k j && (!decide (t k < 2) || decide (ld (t k) j = dg P c k))
theorem laf_n {t : Nat → Nat} {P c k : Nat} (h : ¬ t k < 2) : lan (laf t P c k) = lan (laf t P c (k + 1)) := lan_ext fun j _ => by rw [laf]; simp [h]
theorem laf_s {t : Nat → Nat} {P c k : Nat} (h : t k < 2) : lan (laf t P c k) &&& lan (fun j => decide (ld (t k) j = dg P c k)) = lan (laf t P c (k + 1)) := by
  rw [lan_and]; refine lan_ext fun j _ => ?_
  rw [laf]; simp [h]
theorem tvl_1 {vo : Nat → Option Nat} {t w : Nat} (h : t < 2) : lan (fun j => decide (ld t j = w)) = lan (fun j => decide (tvl vo t j = w)) := lan_ext fun j _ => by rw [tvl, if_pos h]
theorem tvl_y {vo : Nat → Option Nat} {t w x : Nat} (h : ¬ t < 2) (hx : tvo vo t = some x) (e : x = w) : -1 = lan (fun j => decide (tvl vo t j = w)) := (lan_1.mpr fun j _ => by rw [tvl, if_neg h, hx]; simp [e]).symm
theorem tvl_n {vo : Nat → Option Nat} {t w x : Nat} (h : ¬ t < 2) (hx : tvo vo t = some x) (e : ¬ x = w) : 0 = lan (fun j => decide (tvl vo t j = w)) := (lan_0.mpr fun j _ => by rw [tvl, if_neg h, hx]; simp [e]).symm
set_option maxHeartbeats 4000000 in
set_option maxRecDepth 100000 in
/-- lanesWhere(terms, k, w) -/
theorem m_lanesWhere (l : Launch) (D : va_G) (cy : Nat → ClassId) (O : Nat × va_E → Prop) {k9 w9 t : Nat} {b2 gv tm ta : Nat} {f0 f2 v0 v2 v3 : Value} {T : Nat → Int32} {vo : Nat → Option Nat} (hL : O (b2, .inr (2, [f0, .ref gv, f2]))) (hgv : O (gv, .inl (cy 0, 6, .inl (vA vo)))) (hT : O (tm, .inr (7, [v0, .ref ta, v2, v3]))) (hTa : O (ta, .inl (cy 0, 3, .inl T))) (hk : k9 < 3) (ht : T k9 = nI t) (hi : isT t) (hx : ¬ t < 2 → ∃ x, tvo vo t = some x ∧ x < 8) (hw : w9 < 8) : Cl l yX2_lanesWhere (.code yX2_lanesWhere cX2_lanesWhere 4 (some .long) :: WALL) ({ frames := 1, cells := 0, slots := 0, locals := 22 }) D cy O [.ref b2, .ref tm, .int (nI k9), .int (nI w9)] [] 0 0 (fun (r : Int64) (w : va_W) => r = lan (fun j => decide (tvl vo t j = w9)) ∧ w = []) := by
  have hi2 := hi
  unfold isT at hi2
  refine z_metl (by decide) rfl rfl (Nat.le_of_ble_eq_true rfl) ?_
  intro p e s m args below meth c X hr hin
  refine z_eq (ws' := []) (lv' := [(0, .ref b2), (1, .ref tm), (2, .int (nI k9)), (3, .int (nI w9))]) (st' := []) rfl rfl rfl ?_
  refine z_aload_n X dX2_lanesWhere_0 rfl (j := 1) rfl ?_
  refine z_getO X (ci := 7) (C := RX7) (T := TX7) (N := 4) inX7 hT rfl 1 (by decide) fl_X2_136 (fun _ h9 => h9) rfl dX2_lanesWhere_1 ?_
  refine z_iload_n X dX2_lanesWhere_4 rfl (j := 2) rfl ?_
  refine z_ialdO X hTa (v := (nI t)) (vp_in_nI hk (by decide)) (at_nI (by omega) ht) dX2_lanesWhere_5 ?_
  refine z_iconst X (v := 2) dX2_lanesWhere_6 (by decide) ?_
  refine z_icmp_ge X (tgt := 21) dX2_lanesWhere_7 (by decide) (fun c_7 => ?_) (fun c_7 => ?_)
  · skip
    have h2 : ¬ t < 2 := by have h9 := (nI_leI (a := 2) (b := t) (by decide) (by omega)).mp c_7; omega
    obtain ⟨x9, hx9, hx8⟩ := hx h2
    refine z_aload_n X dX2_lanesWhere_21 rfl (j := 1) rfl ?_
    refine z_iload_n X dX2_lanesWhere_22 rfl (j := 2) rfl ?_
    refine z_aload_n X dX2_lanesWhere_23 rfl (j := 0) rfl ?_
    refine z_getO X (ci := 2) (C := RX2) (T := TX2) (N := 3) inX2 hL rfl 1 (by decide) fl_X2_18 (fun _ h9 => h9) rfl dX2_lanesWhere_24 ?_
    refine z_reti X (as := [.ref tm, .int (nI k9), .ref gv]) (wc := []) (wr := []) (rest := []) (fun H9 locs9 ls9 hP9 hS9 hl9 hb9 hp9 => va_runV (As := [.int (nI k9), .ref gv]) (rest := []) X.fix (m_valueOf l D cy O hT hTa hgv hk ht hi H9.size) (cwV 2 X.hts (gV ml_X2_156 im_X7_valueOf se_X7_valueOf ni_X7 cd_X7_valueOf) rfl rfl rfl (by decide +kernel) ⟨Nat.le_of_ble_eq_true rfl, Nat.le_of_ble_eq_true rfl⟩) ⟨hb9, z_recvO X (ci := 7) (r := (RX7, TX7, 4)) hT rfl hS9, hp9⟩ rfl rfl hl9.1 rfl (lv_room (Nat.le_of_ble_eq_true rfl)) dX2_lanesWhere_27 ⟨Nat.le_of_ble_eq_true rfl, Nat.le_of_ble_eq_true rfl⟩) [] [] rfl rfl rfl rfl rfl (by decide) (fun _ h => Or.inl h) (fun r1 w2 h3 => ?_)
    obtain ⟨rfl, rfl⟩ := h3
    rw [hx9]
    refine z_eq (ws' := []) (lv' := [(0, .ref b2), (1, .ref tm), (2, .int (nI k9)), (3, .int (nI w9))]) (st' := [.int (nI x9)]) rfl rfl rfl ?_
    refine z_widen (k' := 0) (n' := 0) (Nat.le_refl _) (Nat.le_refl _) ?_
    refine z_iload_n X dX2_lanesWhere_30 rfl (j := 3) rfl ?_
    refine z_icmp_ne X (tgt := 40) dX2_lanesWhere_31 (by decide) (fun c_31 => ?_) (fun c_31 => ?_)
    · skip
      refine z_lconst X (v := 0) dX2_lanesWhere_40 (by decide) ?_
      exact z_endl X hr [] [] rfl rfl rfl ⟨(tvl_n h2 hx9 (fun z => c_31 (by rw [z]))), rfl⟩ dX2_lanesWhere_41
    · skip
      refine z_ldc2 X kc_X2_97 dX2_lanesWhere_34 ?_
      refine z_goto X (tgt := 41) dX2_lanesWhere_37 (by decide) ?_
      exact z_endl X hr [] [] rfl rfl rfl ⟨(tvl_y h2 hx9 ((nI_eq (by omega) (by omega)).mp c_31)), rfl⟩ dX2_lanesWhere_41
  · skip
    have h2 : t < 2 := lt_of_nle (a := 2) (b := t) (fun z => c_7 z) (by decide) (by omega)
    refine z_aload_n X dX2_lanesWhere_10 rfl (j := 1) rfl ?_
    refine z_getO X (ci := 7) (C := RX7) (T := TX7) (N := 4) inX7 hT rfl 1 (by decide) fl_X2_136 (fun _ h9 => h9) rfl dX2_lanesWhere_11 ?_
    refine z_iload_n X dX2_lanesWhere_14 rfl (j := 2) rfl ?_
    refine z_ialdO X hTa (v := (nI t)) (vp_in_nI hk (by decide)) (at_nI (by omega) ht) dX2_lanesWhere_15 ?_
    refine z_iload_n X dX2_lanesWhere_16 rfl (j := 3) rfl ?_
    refine z_retl X (as := [.int (nI t), .int (nI w9)]) (wc := []) (wr := []) (rest := []) (fun H9 locs9 ls9 hP9 hS9 hl9 hb9 hp9 => va_runS (As := [.int (nI t), .int (nI w9)]) (rest := []) X.fix (m_lanesAt l D cy O (v9 := t) (w9 := w9) h2 hw H9.size) (va_cwS 2 X.hts (gS ml_X2_149 sm_X2_lanesAt ni_X2 cd_X2_lanesAt) rfl rfl rfl (by decide +kernel) ⟨Nat.le_of_ble_eq_true rfl, Nat.le_of_ble_eq_true rfl⟩) ⟨hb9, hp9⟩ rfl rfl hl9.1 rfl (lv_room (Nat.le_of_ble_eq_true rfl)) dX2_lanesWhere_17 ⟨Nat.le_of_ble_eq_true rfl, Nat.le_of_ble_eq_true rfl⟩) [] [] rfl rfl rfl rfl rfl (by decide) (fun _ h => Or.inl h) (fun r4 w5 h6 => ?_)
    obtain ⟨rfl, rfl⟩ := h6
    refine z_eq (ws' := []) (lv' := [(0, .ref b2), (1, .ref tm), (2, .int (nI k9)), (3, .int (nI w9))]) (st' := [.long (lan (fun j => decide (ld t j = w9)))]) rfl rfl rfl ?_
    refine z_widen (k' := 0) (n' := 0) (Nat.le_refl _) (Nat.le_refl _) ?_
    exact z_endl X hr [] [] rfl rfl rfl ⟨(tvl_1 h2), rfl⟩ dX2_lanesWhere_20
set_option maxHeartbeats 4000000 in
set_option maxRecDepth 100000 in
/-- lanesOfFact(atom, fact) -/
theorem m_lanesOfFact (l : Launch) (D : va_G) (cy : Nat → ClassId) (O : Nat × va_E → Prop) {a b tm ta ar P n9 c9 i9 : Nat} {v2 v3 v4 v5 w4 w5 : Value} {t : Nat → Nat} {T f : Nat → Int32} (hA : O (a, .inr (0, [.ref b, .ref tm]))) (hQ : O (b, .inr (4, [.int (nI P), .ref ar, v2, v3, v4, v5]))) (hR : O (ar, .inl (cy 0, 25, .inl f))) (hTm : O (tm, .inr (7, [.int (nI P), .ref ta, w4, w5]))) (hTa : O (ta, .inl (cy 0, 3, .inl T))) (hP : 1 ≤ P) (hP3 : P ≤ 3) (ht : ∀ k, k < P → T k = nI (t k) ∧ isT (t k)) (hi9 : i9 < 25) (hf : f i9 = nI c9) (hc : c9 < 2 ^ 31) : Cl l yX2_lanesOfFact (.code yX2_lanesOfFact cX2_lanesOfFact 6 (some .long) :: WALL) ({ frames := 1, cells := 0, slots := 0, locals := 22 }) D cy O [.ref a, .int (nI i9)] [] 0 0 (fun (r : Int64) (w : va_W) => r = lan (laf t P c9 P) ∧ w = []) := by
  refine z_metl (by decide) rfl rfl (Nat.le_of_ble_eq_true rfl) ?_
  intro p e s m args below meth c X hr hin
  refine z_eq (ws' := []) (lv' := [(0, .ref a), (1, .int (nI i9))]) (st' := []) rfl rfl rfl ?_
  have L : ∀ (d : Nat) (j : Nat), j + d = P → Zz D (va_A [] s.heap.size) 6 p l e ({ frames := 1, cells := 0, slots := 0, locals := 22 }) s m args below meth c (MQ below (va_Ql (fun (r : Int64) (w : va_W) => r = lan (laf t P c9 P) ∧ w = []) (end_ D [] s.heap.size) (va_A [] s.heap.size)) args s 0 0 (va_A [] s.heap.size)) [] [(4, .int (nI j)), (2, .long (lan (laf t P c9 j))), (0, .ref a), (1, .int (nI i9))] 0 0 7 [] := by
    intro d
    induction d with
    | zero =>
      intro j hL0
      refine z_iload X dX2_lanesOfFact_7 (j := 0) rfl ?_
      refine z_aload_n X dX2_lanesOfFact_9 rfl (j := 2) rfl ?_
      refine z_getO X (ci := 0) (C := RX0) (T := TX0) (N := 2) inX0 hA rfl 1 (by decide) fl_X2_121 (fun _ h9 => h9) rfl dX2_lanesOfFact_10 ?_
      refine z_getO X (ci := 7) (C := RX7) (T := TX7) (N := 4) inX7 hTm rfl 0 (by decide) fl_X2_133 (fun _ h9 => h9) rfl dX2_lanesOfFact_13 ?_
      refine z_icmp_ge X (tgt := 61) dX2_lanesOfFact_16 (by decide) (fun c_16 => ?_) (fun c9 => absurd (by rw [show j = P by omega]; exact nI_le (Nat.le_refl _) (by omega)) c9)
      refine z_lload_n X dX2_lanesOfFact_61 rfl (j := 1) rfl ?_
      exact z_endl X hr [] [] rfl rfl rfl ⟨(by rw [show j = P by omega]), rfl⟩ dX2_lanesOfFact_62
    | succ d ih =>
      intro j hL0
      have htj := (ht j (by omega)).2
      unfold isT at htj
      refine z_iload X dX2_lanesOfFact_7 (j := 0) rfl ?_
      refine z_aload_n X dX2_lanesOfFact_9 rfl (j := 2) rfl ?_
      refine z_getO X (ci := 0) (C := RX0) (T := TX0) (N := 2) inX0 hA rfl 1 (by decide) fl_X2_121 (fun _ h9 => h9) rfl dX2_lanesOfFact_10 ?_
      refine z_getO X (ci := 7) (C := RX7) (T := TX7) (N := 4) inX7 hTm rfl 0 (by decide) fl_X2_133 (fun _ h9 => h9) rfl dX2_lanesOfFact_13 ?_
      refine z_icmp_ge X (tgt := 61) dX2_lanesOfFact_16 (by decide) (fun c9 => absurd c9 (nI_ge (by omega) (by omega))) (fun c_16 => ?_)
      refine z_aload_n X dX2_lanesOfFact_19 rfl (j := 2) rfl ?_
      refine z_getO X (ci := 0) (C := RX0) (T := TX0) (N := 2) inX0 hA rfl 1 (by decide) fl_X2_121 (fun _ h9 => h9) rfl dX2_lanesOfFact_20 ?_
      refine z_getO X (ci := 7) (C := RX7) (T := TX7) (N := 4) inX7 hTm rfl 1 (by decide) fl_X2_136 (fun _ h9 => h9) rfl dX2_lanesOfFact_23 ?_
      refine z_iload X dX2_lanesOfFact_26 (j := 0) rfl ?_
      refine z_ialdO X hTa (v := (nI (t j))) (vp_in_nI (by omega) (by decide)) (at_nI (by omega) (ht j (by omega)).1) dX2_lanesOfFact_28 ?_
      refine z_istore X (lv' := [(5, .int (nI (t j))), (4, .int (nI j)), (2, .long (lan (laf t P c9 j))), (0, .ref a), (1, .int (nI i9))]) dX2_lanesOfFact_29 (by decide) rfl ?_
      refine z_iload X dX2_lanesOfFact_31 (j := 0) rfl ?_
      refine z_iconst X (v := 2) dX2_lanesOfFact_33 (by decide) ?_
      refine z_icmp_ge X (tgt := 55) dX2_lanesOfFact_34 (by decide) (fun c_34 => ?_) (fun c_34 => ?_)
      · skip
        refine z_iinc X (j := 1) (v := (nI (j + 1))) (lv' := [(4, .int (nI (j + 1))), (5, .int (nI (t j))), (2, .long (lan (laf t P c9 j))), (0, .ref a), (1, .int (nI i9))]) dX2_lanesOfFact_55 rfl (nI_1 j) (by decide) rfl ?_
        refine z_goto X (tgt := 7) dX2_lanesOfFact_58 (by decide) ?_
        refine z_lv [0, 2, 3, 4] (lv' := [(4, .int (nI (j + 1))), (2, .long (lan (laf t P c9 j))), (0, .ref a), (1, .int (nI i9))]) rfl ?_
        refine z_eq (ws' := []) (lv' := [(4, .int (nI (j + 1))), (2, .long (lan (laf t P c9 (j + 1)))), (0, .ref a), (1, .int (nI i9))]) (st' := []) rfl (by rw [laf_n (show ¬ t j < 2 by have h9 := (nI_leI (a := 2) (b := t j) (by decide) (by omega)).mp c_34; omega)]) rfl ?_
        exact ih (j + 1) (by omega)
      · skip
        have h2 : t j < 2 := lt_of_nle (a := 2) (b := t j) c_34 (by decide) (by omega)
        refine z_lload_n X dX2_lanesOfFact_37 rfl (j := 2) rfl ?_
        refine z_iload X dX2_lanesOfFact_38 (j := 0) rfl ?_
        refine z_aload_n X dX2_lanesOfFact_40 rfl (j := 3) rfl ?_
        refine z_getO X (ci := 0) (C := RX0) (T := TX0) (N := 2) inX0 hA rfl 0 (by decide) fl_X2_139 (fun _ h9 => h9) rfl dX2_lanesOfFact_41 ?_
        refine z_iload_n X dX2_lanesOfFact_44 rfl (j := 4) rfl ?_
        refine z_iload X dX2_lanesOfFact_45 (j := 1) rfl ?_
        refine z_reti X (as := [.ref b, .int (nI i9), .int (nI j)]) (wc := []) (wr := []) (rest := [.int (nI (t j)), .long (lan (laf t P c9 j))]) (fun H9 locs9 ls9 hP9 hS9 hl9 hb9 hp9 => va_runV (As := [.int (nI i9), .int (nI j)]) (rest := [.int (nI (t j)), .long (lan (laf t P c9 j))]) X.fix (m_valueAt l D cy O hQ hR hP hP3 (u := j) (by omega) hi9 hf hc H9.size) (cwV 2 X.hts (gV ml_X2_143 im_X4_valueAt se_X4_valueAt ni_X4 cd_X4_valueAt) rfl rfl rfl (by decide +kernel) ⟨Nat.le_of_ble_eq_true rfl, Nat.le_of_ble_eq_true rfl⟩) ⟨hb9, z_recvO X (ci := 4) (r := (RX4, TX4, 6)) hQ rfl hS9, hp9⟩ rfl rfl hl9.1 rfl (lv_room (Nat.le_of_ble_eq_true rfl)) dX2_lanesOfFact_47 ⟨Nat.le_of_ble_eq_true rfl, Nat.le_of_ble_eq_true rfl⟩) [] [] rfl rfl rfl rfl rfl (by decide) (fun _ h => Or.inl h) (fun r1 w2 h3 => ?_)
        obtain ⟨rfl, rfl⟩ := h3
        refine z_eq (ws' := []) (lv' := [(5, .int (nI (t j))), (4, .int (nI j)), (2, .long (lan (laf t P c9 j))), (0, .ref a), (1, .int (nI i9))]) (st' := [.int (nI (dg P c9 j)), .int (nI (t j)), .long (lan (laf t P c9 j))]) rfl rfl rfl ?_
        refine z_widen (k' := 0) (n' := 0) (Nat.le_refl _) (Nat.le_refl _) ?_
        refine z_retl X (as := [.int (nI (t j)), .int (nI (dg P c9 j))]) (wc := []) (wr := []) (rest := [.long (lan (laf t P c9 j))]) (fun H9 locs9 ls9 hP9 hS9 hl9 hb9 hp9 => va_runS (As := [.int (nI (t j)), .int (nI (dg P c9 j))]) (rest := [.long (lan (laf t P c9 j))]) X.fix (m_lanesAt l D cy O (v9 := t j) (w9 := dg P c9 j) h2 (dg_lt _ _ _) H9.size) (va_cwS 2 X.hts (gS ml_X2_149 sm_X2_lanesAt ni_X2 cd_X2_lanesAt) rfl rfl rfl (by decide +kernel) ⟨Nat.le_of_ble_eq_true rfl, Nat.le_of_ble_eq_true rfl⟩) ⟨hb9, hp9⟩ rfl rfl hl9.1 rfl (lv_room (Nat.le_of_ble_eq_true rfl)) dX2_lanesOfFact_50 ⟨Nat.le_of_ble_eq_true rfl, Nat.le_of_ble_eq_true rfl⟩) [] [] rfl rfl rfl rfl rfl (by decide) (fun _ h => Or.inl h) (fun r4 w5 h6 => ?_)
        obtain ⟨rfl, rfl⟩ := h6
        refine z_eq (ws' := []) (lv' := [(5, .int (nI (t j))), (4, .int (nI j)), (2, .long (lan (laf t P c9 j))), (0, .ref a), (1, .int (nI i9))]) (st' := [.long (lan (fun i => decide (ld (t j) i = dg P c9 j))), .long (lan (laf t P c9 j))]) rfl rfl rfl ?_
        refine z_widen (k' := 0) (n' := 0) (Nat.le_refl _) (Nat.le_refl _) ?_
        refine z_land X (v := (lan (laf t P c9 (j + 1)))) dX2_lanesOfFact_53 (laf_s h2) ?_
        refine z_lstore_n X (lv' := [(2, .long (lan (laf t P c9 (j + 1)))), (5, .int (nI (t j))), (4, .int (nI j)), (0, .ref a), (1, .int (nI i9))]) dX2_lanesOfFact_54 rfl (by decide) rfl ?_
        refine z_iinc X (j := 2) (v := (nI (j + 1))) (lv' := [(4, .int (nI (j + 1))), (2, .long (lan (laf t P c9 (j + 1)))), (5, .int (nI (t j))), (0, .ref a), (1, .int (nI i9))]) dX2_lanesOfFact_55 rfl (nI_1 j) (by decide) rfl ?_
        refine z_goto X (tgt := 7) dX2_lanesOfFact_58 (by decide) ?_
        refine z_lv [0, 1, 3, 4] (lv' := [(4, .int (nI (j + 1))), (2, .long (lan (laf t P c9 (j + 1)))), (0, .ref a), (1, .int (nI i9))]) rfl ?_
        refine z_eq (ws' := []) (lv' := [(4, .int (nI (j + 1))), (2, .long (lan (laf t P c9 (j + 1)))), (0, .ref a), (1, .int (nI i9))]) (st' := []) rfl rfl rfl ?_
        exact ih (j + 1) (by omega)
  refine z_ldc2 X kc_X2_97 dX2_lanesOfFact_0 ?_
  refine z_lstore_n X (lv' := [(2, .long (-1)), (0, .ref a), (1, .int (nI i9))]) dX2_lanesOfFact_3 rfl (by decide) rfl ?_
  refine z_iconst X (v := 0) dX2_lanesOfFact_4 (by decide) ?_
  refine z_istore X (lv' := [(4, .int 0), (2, .long (-1)), (0, .ref a), (1, .int (nI i9))]) dX2_lanesOfFact_5 (by decide) rfl ?_
  refine z_eq (ws' := []) (lv' := [(4, .int (nI 0)), (2, .long (lan (laf t P c9 0))), (0, .ref a), (1, .int (nI i9))]) (st' := []) rfl (by rw [show lan (laf t P c9 0) = -1 from lan_all]; rfl) rfl ?_
  exact L (P) 0 (by omega)
theorem same_s {u v : Nat → Nat} {k : Nat} : lan (fun j => decide (u j = v j) && decide (u j < k)) ||| (lan (fun j => decide (u j = k)) &&& lan (fun j => decide (v j = k))) = lan (fun j => decide (u j = v j) && decide (u j < k + 1)) := by
  rw [lan_and, lan_or]; refine lan_ext fun j _ => ?_
  by_cases h1 : u j = k
  · by_cases h2 : v j = k
    · simp [h1, h2]
    · simp [h1, h2, show ¬ k = v j from fun z => h2 z.symm]
  · rw [show decide (u j < k + 1) = decide (u j < k) by simp only [decide_eq_decide]; omega]; simp [h1]
theorem tvl_lt {vo : Nat → Option Nat} {t j : Nat} (hx : ¬ t < 2 → ∃ x, tvo vo t = some x ∧ x < 8) (hj : j < 64) : tvl vo t j < 8 := by
  unfold tvl
  by_cases h : t < 2
  · rw [if_pos h]; exact ld_lt hj
  · obtain ⟨x, h1, h2⟩ := hx h
    rw [if_neg h, h1]; exact h2
set_option maxHeartbeats 4000000 in
set_option maxRecDepth 100000 in
/-- holdingSame(terms) -/
theorem m_holdingSame (l : Launch) (D : va_G) (cy : Nat → ClassId) (O : Nat × va_E → Prop) {t : Nat → Nat} {b2 gv tm ta : Nat} {f0 f2 v0 v2 v3 : Value} {T : Nat → Int32} {vo : Nat → Option Nat} (hL : O (b2, .inr (2, [f0, .ref gv, f2]))) (hgv : O (gv, .inl (cy 0, 6, .inl (vA vo)))) (hT : O (tm, .inr (7, [v0, .ref ta, v2, v3]))) (hTa : O (ta, .inl (cy 0, 3, .inl T))) (ht : ∀ k, k < 2 → T k = nI (t k) ∧ isT (t k)) (hx : ∀ k, k < 2 → ¬ t k < 2 → ∃ x, tvo vo (t k) = some x ∧ x < 8) : Cl l yX2_holdingSame (.code yX2_holdingSame cX2_holdingSame 5 (some .long) :: WALL) ({ frames := 2, cells := 0, slots := 0, locals := 45 }) D cy O [.ref b2, .ref tm] [] 0 0 (fun (r : Int64) (w : va_W) => r = lan (fun j => decide (tvl vo (t 0) j = tvl vo (t 1) j)) ∧ w = []) := by
  refine z_metl (by decide) rfl rfl (Nat.le_of_ble_eq_true rfl) ?_
  intro p e s m args below meth c X hr hin
  refine z_eq (ws' := []) (lv' := [(0, .ref b2), (1, .ref tm)]) (st' := []) rfl rfl rfl ?_
  have L : ∀ (d : Nat) (w9 : Nat), w9 + d = 8 → Zz D (va_A [] s.heap.size) 5 p l e ({ frames := 2, cells := 0, slots := 0, locals := 45 }) s m args below meth c (MQ below (va_Ql (fun (r : Int64) (w : va_W) => r = lan (fun j => decide (tvl vo (t 0) j = tvl vo (t 1) j)) ∧ w = []) (end_ D [] s.heap.size) (va_A [] s.heap.size)) args s 0 0 (va_A [] s.heap.size)) [] [(4, .int (nI w9)), (2, .long (lan (fun j => decide (tvl vo (t 0) j = tvl vo (t 1) j) && decide (tvl vo (t 0) j < w9)))), (0, .ref b2), (1, .ref tm)] 0 0 5 [] := by
    intro d
    induction d with
    | zero =>
      intro w9 hL0
      refine z_iload X dX2_holdingSame_5 (j := 0) rfl ?_
      refine z_bipush X (v := 8) dX2_holdingSame_7 (by decide) ?_
      refine z_icmp_ge X (tgt := 38) dX2_holdingSame_9 (by decide) (fun c_9 => ?_) (fun c9 => absurd (nI_le (a := 8) (b := w9) (by omega) (by omega)) c9)
      refine z_lload_n X dX2_holdingSame_38 rfl (j := 1) rfl ?_
      exact z_endl X hr [] [] rfl rfl rfl ⟨(by rw [show w9 = 8 by omega]; exact lan_ext fun j hj => by simp [tvl_lt (hx 0 (by decide)) hj]), rfl⟩ dX2_holdingSame_39
    | succ d ih =>
      intro w9 hL0
      refine z_iload X dX2_holdingSame_5 (j := 0) rfl ?_
      refine z_bipush X (v := 8) dX2_holdingSame_7 (by decide) ?_
      refine z_icmp_ge X (tgt := 38) dX2_holdingSame_9 (by decide) (fun c9 => absurd c9 (nI_ge (a := w9) (b := 8) (by omega) (by decide))) (fun c_9 => ?_)
      refine z_lload_n X dX2_holdingSame_12 rfl (j := 1) rfl ?_
      refine z_aload_n X dX2_holdingSame_13 rfl (j := 2) rfl ?_
      refine z_aload_n X dX2_holdingSame_14 rfl (j := 3) rfl ?_
      refine z_iconst X (v := 0) dX2_holdingSame_15 (by decide) ?_
      refine z_iload X dX2_holdingSame_16 (j := 0) rfl ?_
      refine z_retl X (as := [.ref b2, .ref tm, .int 0, .int (nI w9)]) (wc := []) (wr := []) (rest := [.long (lan (fun j => decide (tvl vo (t 0) j = tvl vo (t 1) j) && decide (tvl vo (t 0) j < w9)))]) (fun H9 locs9 ls9 hP9 hS9 hl9 hb9 hp9 => va_runV (As := [.ref tm, .int 0, .int (nI w9)]) (rest := [.long (lan (fun j => decide (tvl vo (t 0) j = tvl vo (t 1) j) && decide (tvl vo (t 0) j < w9)))]) X.fix (m_lanesWhere l D cy O (k9 := 0) (w9 := w9) (t := t 0) hL hgv hT hTa (by decide) (ht 0 (by decide)).1 (ht 0 (by decide)).2 (hx 0 (by decide)) (by omega) H9.size) (cwV 3 X.hts (gV ml_X2_152 im_X2_lanesWhere se_X2_lanesWhere ni_X2 cd_X2_lanesWhere) rfl rfl rfl (by decide +kernel) ⟨Nat.le_of_ble_eq_true rfl, Nat.le_of_ble_eq_true rfl⟩) ⟨hb9, z_recvO X (ci := 2) (r := (RX2, TX2, 3)) hL rfl hS9, hp9⟩ rfl rfl hl9.1 rfl (lv_room (Nat.le_of_ble_eq_true rfl)) dX2_holdingSame_18 ⟨Nat.le_of_ble_eq_true rfl, Nat.le_of_ble_eq_true rfl⟩) [] [] rfl rfl rfl rfl rfl (by decide) (fun _ h => Or.inl h) (fun r1 w2 h3 => ?_)
      obtain ⟨rfl, rfl⟩ := h3
      refine z_eq (ws' := []) (lv' := [(4, .int (nI w9)), (2, .long (lan (fun j => decide (tvl vo (t 0) j = tvl vo (t 1) j) && decide (tvl vo (t 0) j < w9)))), (0, .ref b2), (1, .ref tm)]) (st' := [.long (lan (fun j => decide (tvl vo (t 0) j = w9))), .long (lan (fun j => decide (tvl vo (t 0) j = tvl vo (t 1) j) && decide (tvl vo (t 0) j < w9)))]) rfl rfl rfl ?_
      refine z_widen (k' := 0) (n' := 0) (Nat.le_refl _) (Nat.le_refl _) ?_
      refine z_aload_n X dX2_holdingSame_21 rfl (j := 2) rfl ?_
      refine z_aload_n X dX2_holdingSame_22 rfl (j := 3) rfl ?_
      refine z_iconst X (v := 1) dX2_holdingSame_23 (by decide) ?_
      refine z_iload X dX2_holdingSame_24 (j := 0) rfl ?_
      refine z_retl X (as := [.ref b2, .ref tm, .int 1, .int (nI w9)]) (wc := []) (wr := []) (rest := [.long (lan (fun j => decide (tvl vo (t 0) j = w9))), .long (lan (fun j => decide (tvl vo (t 0) j = tvl vo (t 1) j) && decide (tvl vo (t 0) j < w9)))]) (fun H9 locs9 ls9 hP9 hS9 hl9 hb9 hp9 => va_runV (As := [.ref tm, .int 1, .int (nI w9)]) (rest := [.long (lan (fun j => decide (tvl vo (t 0) j = w9))), .long (lan (fun j => decide (tvl vo (t 0) j = tvl vo (t 1) j) && decide (tvl vo (t 0) j < w9)))]) X.fix (m_lanesWhere l D cy O (k9 := 1) (w9 := w9) (t := t 1) hL hgv hT hTa (by decide) (ht 1 (by decide)).1 (ht 1 (by decide)).2 (hx 1 (by decide)) (by omega) H9.size) (cwV 3 X.hts (gV ml_X2_152 im_X2_lanesWhere se_X2_lanesWhere ni_X2 cd_X2_lanesWhere) rfl rfl rfl (by decide +kernel) ⟨Nat.le_of_ble_eq_true rfl, Nat.le_of_ble_eq_true rfl⟩) ⟨hb9, z_recvO X (ci := 2) (r := (RX2, TX2, 3)) hL rfl hS9, hp9⟩ rfl rfl hl9.1 rfl (lv_room (Nat.le_of_ble_eq_true rfl)) dX2_holdingSame_26 ⟨Nat.le_of_ble_eq_true rfl, Nat.le_of_ble_eq_true rfl⟩) [] [] rfl rfl rfl rfl rfl (by decide) (fun _ h => Or.inl h) (fun r4 w5 h6 => ?_)
      obtain ⟨rfl, rfl⟩ := h6
      refine z_eq (ws' := []) (lv' := [(4, .int (nI w9)), (2, .long (lan (fun j => decide (tvl vo (t 0) j = tvl vo (t 1) j) && decide (tvl vo (t 0) j < w9)))), (0, .ref b2), (1, .ref tm)]) (st' := [.long (lan (fun j => decide (tvl vo (t 1) j = w9))), .long (lan (fun j => decide (tvl vo (t 0) j = w9))), .long (lan (fun j => decide (tvl vo (t 0) j = tvl vo (t 1) j) && decide (tvl vo (t 0) j < w9)))]) rfl rfl rfl ?_
      refine z_widen (k' := 0) (n' := 0) (Nat.le_refl _) (Nat.le_refl _) ?_
      refine z_land X (v := ((lan (fun j => decide (tvl vo (t 0) j = w9))) &&& (lan (fun j => decide (tvl vo (t 1) j = w9))))) dX2_holdingSame_29 rfl ?_
      refine z_lor X (v := (lan (fun j => decide (tvl vo (t 0) j = tvl vo (t 1) j) && decide (tvl vo (t 0) j < (w9 + 1))))) dX2_holdingSame_30 same_s ?_
      refine z_lstore_n X (lv' := [(2, .long (lan (fun j => decide (tvl vo (t 0) j = tvl vo (t 1) j) && decide (tvl vo (t 0) j < (w9 + 1))))), (4, .int (nI w9)), (0, .ref b2), (1, .ref tm)]) dX2_holdingSame_31 rfl (by decide) rfl ?_
      refine z_iinc X (j := 1) (v := (nI (w9 + 1))) (lv' := [(4, .int (nI (w9 + 1))), (2, .long (lan (fun j => decide (tvl vo (t 0) j = tvl vo (t 1) j) && decide (tvl vo (t 0) j < (w9 + 1))))), (0, .ref b2), (1, .ref tm)]) dX2_holdingSame_32 rfl (nI_1 w9) (by decide) rfl ?_
      refine z_goto X (tgt := 5) dX2_holdingSame_35 (by decide) ?_
      refine z_eq (ws' := []) (lv' := [(4, .int (nI (w9 + 1))), (2, .long (lan (fun j => decide (tvl vo (t 0) j = tvl vo (t 1) j) && decide (tvl vo (t 0) j < (w9 + 1))))), (0, .ref b2), (1, .ref tm)]) (st' := []) rfl rfl rfl ?_
      exact ih (w9 + 1) (by omega)
  refine z_lconst X (v := 0) dX2_holdingSame_0 (by decide) ?_
  refine z_lstore_n X (lv' := [(2, .long 0), (0, .ref b2), (1, .ref tm)]) dX2_holdingSame_1 rfl (by decide) rfl ?_
  refine z_iconst X (v := 0) dX2_holdingSame_2 (by decide) ?_
  refine z_istore X (lv' := [(4, .int 0), (2, .long 0), (0, .ref b2), (1, .ref tm)]) dX2_holdingSame_3 (by decide) rfl ?_
  refine z_eq (ws' := []) (lv' := [(4, .int (nI 0)), (2, .long (lan (fun j => decide (tvl vo (t 0) j = tvl vo (t 1) j) && decide (tvl vo (t 0) j < 0)))), (0, .ref b2), (1, .ref tm)]) (st' := []) rfl (by rw [show (lan (fun j => decide (tvl vo (t 0) j = tvl vo (t 1) j) && decide (tvl vo (t 0) j < 0))) = 0 from lan_0.mpr fun j _ => by simp]; rfl) rfl ?_
  exact L (8) 0 (by omega)
set_option maxHeartbeats 4000000 in
set_option maxRecDepth 100000 in
/-- asked(free) -/
theorem m_asked (l : Launch) (D : va_G) (cy : Nat → ClassId) (O : Nat × va_E → Prop) {b2 dom fr : Nat} {f0 f1 : Value} (hL : O (b2, .inr (2, [f0, f1, .int (nI dom)]))) (hd : dom < 2 ^ 31) (hfr : fr < 2 ^ 31) : Cl l yX2_asked (.code yX2_asked cX2_asked 2 (some .long) :: WALL) ({ frames := 2, cells := 0, slots := 0, locals := 45 }) D cy O [.ref b2, .int (nI fr)] [] 0 0 (fun (r : Int64) (w : va_W) => r = lan (fun j => (if fr.testBit 0 then dom else 1).testBit (ld 0 j) && (if fr.testBit 1 then dom else 1).testBit (ld 1 j)) ∧ w = []) := by
  refine z_metl (by decide) rfl rfl (Nat.le_of_ble_eq_true rfl) ?_
  intro p e s m args below meth c X hr hin
  refine z_eq (ws' := []) (lv' := [(0, .ref b2), (1, .int (nI fr))]) (st' := []) rfl rfl rfl ?_
  refine z_iconst X (v := 0) dX2_asked_0 (by decide) ?_
  refine z_iload_n X dX2_asked_1 rfl (j := 1) rfl ?_
  refine z_iconst X (v := 0) dX2_asked_2 (by decide) ?_
  refine z_reti X (as := [.int (nI fr), .int 0]) (wc := []) (wr := []) (rest := [.int 0]) (fun H9 locs9 ls9 hP9 hS9 hl9 hb9 hp9 => va_runSN (As := [.int (nI fr), .int 0]) (rest := [.int 0]) X.fix (m_isIn l D cy O (nI fr) (nI 0) H9.size) ⟨va_cnB 2 X.hts (gB cd_X9_isIn) rfl rfl rfl (X.nw.1 _ (List.mem_of_getElem? (i := 5) rfl)) (X.hts _ ni_X9) (by decide +kernel) ⟨Nat.le_of_ble_eq_true rfl, Nat.le_of_ble_eq_true rfl⟩, X.hts _ sm_X9_isIn, trivial⟩ ⟨hb9, hp9⟩ rfl rfl hl9.1 rfl (lv_room (Nat.le_of_ble_eq_true rfl)) dX2_asked_3 ⟨Nat.le_of_ble_eq_true rfl, Nat.le_of_ble_eq_true rfl⟩) [] [] rfl rfl rfl rfl rfl (by decide) (fun _ h => Or.inl h) (fun r1 w2 h3 => ?_)
  obtain ⟨rfl, rfl⟩ := h3
  refine z_eq (ws' := []) (lv' := [(0, .ref b2), (1, .int (nI fr))]) (st' := [.int (bI (nI fr) (nI 0)), .int 0]) rfl rfl rfl ?_
  refine z_widen (k' := 0) (n' := 0) (Nat.le_refl _) (Nat.le_refl _) ?_
  refine z_if_eq X (tgt := 16) dX2_asked_6 (by decide) (fun c_6 => ?_) (fun c_6 => ?_)
  · skip
    refine z_iconst X (v := 1) dX2_asked_16 (by decide) ?_
    refine z_eq (ws' := []) (lv' := [(0, .ref b2), (1, .int (nI fr))]) (st' := [.int (nI (if fr.testBit 0 then dom else 1)), .int 0]) rfl rfl (by rw [bit_no hfr (by decide) c_6]; rfl) ?_
    refine z_retl X (as := [.int 0, .int (nI (if fr.testBit 0 then dom else 1))]) (wc := []) (wr := []) (rest := []) (fun H9 locs9 ls9 hP9 hS9 hl9 hb9 hp9 => va_runS (As := [.int 0, .int (nI (if fr.testBit 0 then dom else 1))]) (rest := []) X.fix (m_lanesWith l D cy O (v9 := 0) (S := if fr.testBit 0 then dom else 1) (by decide) (by split <;> omega) H9.size) (va_cwS 2 X.hts (gS ml_X2_59 sm_X2_lanesWith ni_X2 cd_X2_lanesWith) rfl rfl rfl (by decide +kernel) ⟨Nat.le_of_ble_eq_true rfl, Nat.le_of_ble_eq_true rfl⟩) ⟨hb9, hp9⟩ rfl rfl hl9.1 rfl (lv_room (Nat.le_of_ble_eq_true rfl)) dX2_asked_17 ⟨Nat.le_of_ble_eq_true rfl, Nat.le_of_ble_eq_true rfl⟩) [] [] rfl rfl rfl rfl rfl (by decide) (fun _ h => Or.inl h) (fun r4 w5 h6 => ?_)
    obtain ⟨rfl, rfl⟩ := h6
    refine z_eq (ws' := []) (lv' := [(0, .ref b2), (1, .int (nI fr))]) (st' := [.long (lan (fun j => (if fr.testBit 0 then dom else 1).testBit (ld 0 j)))]) rfl rfl rfl ?_
    refine z_widen (k' := 0) (n' := 0) (Nat.le_refl _) (Nat.le_refl _) ?_
    refine z_iconst X (v := 1) dX2_asked_20 (by decide) ?_
    refine z_iload_n X dX2_asked_21 rfl (j := 1) rfl ?_
    refine z_iconst X (v := 1) dX2_asked_22 (by decide) ?_
    refine z_reti X (as := [.int (nI fr), .int 1]) (wc := []) (wr := []) (rest := [.int 1, .long (lan (fun j => (if fr.testBit 0 then dom else 1).testBit (ld 0 j)))]) (fun H9 locs9 ls9 hP9 hS9 hl9 hb9 hp9 => va_runSN (As := [.int (nI fr), .int 1]) (rest := [.int 1, .long (lan (fun j => (if fr.testBit 0 then dom else 1).testBit (ld 0 j)))]) X.fix (m_isIn l D cy O (nI fr) (nI 1) H9.size) ⟨va_cnB 2 X.hts (gB cd_X9_isIn) rfl rfl rfl (X.nw.1 _ (List.mem_of_getElem? (i := 5) rfl)) (X.hts _ ni_X9) (by decide +kernel) ⟨Nat.le_of_ble_eq_true rfl, Nat.le_of_ble_eq_true rfl⟩, X.hts _ sm_X9_isIn, trivial⟩ ⟨hb9, hp9⟩ rfl rfl hl9.1 rfl (lv_room (Nat.le_of_ble_eq_true rfl)) dX2_asked_23 ⟨Nat.le_of_ble_eq_true rfl, Nat.le_of_ble_eq_true rfl⟩) [] [] rfl rfl rfl rfl rfl (by decide) (fun _ h => Or.inl h) (fun r7 w8 h9 => ?_)
    obtain ⟨rfl, rfl⟩ := h9
    refine z_eq (ws' := []) (lv' := [(0, .ref b2), (1, .int (nI fr))]) (st' := [.int (bI (nI fr) (nI 1)), .int 1, .long (lan (fun j => (if fr.testBit 0 then dom else 1).testBit (ld 0 j)))]) rfl rfl rfl ?_
    refine z_widen (k' := 0) (n' := 0) (Nat.le_refl _) (Nat.le_refl _) ?_
    refine z_if_eq X (tgt := 36) dX2_asked_26 (by decide) (fun c_26 => ?_) (fun c_26 => ?_)
    · skip
      refine z_iconst X (v := 1) dX2_asked_36 (by decide) ?_
      refine z_eq (ws' := []) (lv' := [(0, .ref b2), (1, .int (nI fr))]) (st' := [.int (nI (if fr.testBit 1 then dom else 1)), .int 1, .long (lan (fun j => (if fr.testBit 0 then dom else 1).testBit (ld 0 j)))]) rfl rfl (by rw [bit_no hfr (by decide) c_26]; rfl) ?_
      refine z_retl X (as := [.int 1, .int (nI (if fr.testBit 1 then dom else 1))]) (wc := []) (wr := []) (rest := [.long (lan (fun j => (if fr.testBit 0 then dom else 1).testBit (ld 0 j)))]) (fun H9 locs9 ls9 hP9 hS9 hl9 hb9 hp9 => va_runS (As := [.int 1, .int (nI (if fr.testBit 1 then dom else 1))]) (rest := [.long (lan (fun j => (if fr.testBit 0 then dom else 1).testBit (ld 0 j)))]) X.fix (m_lanesWith l D cy O (v9 := 1) (S := if fr.testBit 1 then dom else 1) (by decide) (by split <;> omega) H9.size) (va_cwS 2 X.hts (gS ml_X2_59 sm_X2_lanesWith ni_X2 cd_X2_lanesWith) rfl rfl rfl (by decide +kernel) ⟨Nat.le_of_ble_eq_true rfl, Nat.le_of_ble_eq_true rfl⟩) ⟨hb9, hp9⟩ rfl rfl hl9.1 rfl (lv_room (Nat.le_of_ble_eq_true rfl)) dX2_asked_37 ⟨Nat.le_of_ble_eq_true rfl, Nat.le_of_ble_eq_true rfl⟩) [] [] rfl rfl rfl rfl rfl (by decide) (fun _ h => Or.inl h) (fun r10 w11 h12 => ?_)
      obtain ⟨rfl, rfl⟩ := h12
      refine z_eq (ws' := []) (lv' := [(0, .ref b2), (1, .int (nI fr))]) (st' := [.long (lan (fun j => (if fr.testBit 1 then dom else 1).testBit (ld 1 j))), .long (lan (fun j => (if fr.testBit 0 then dom else 1).testBit (ld 0 j)))]) rfl rfl rfl ?_
      refine z_widen (k' := 0) (n' := 0) (Nat.le_refl _) (Nat.le_refl _) ?_
      refine z_land X (v := (lan (fun j => (if fr.testBit 0 then dom else 1).testBit (ld 0 j) && (if fr.testBit 1 then dom else 1).testBit (ld 1 j)))) dX2_asked_40 (lan_and _ _) ?_
      exact z_endl X hr [] [] rfl rfl rfl ⟨rfl, rfl⟩ dX2_asked_41
    · skip
      refine z_aload_n X dX2_asked_29 rfl (j := 0) rfl ?_
      refine z_getO X (ci := 2) (C := RX2) (T := TX2) (N := 3) inX2 hL rfl 2 (by decide) fl_X2_22 (fun _ h9 => h9) rfl dX2_asked_30 ?_
      refine z_goto X (tgt := 37) dX2_asked_33 (by decide) ?_
      refine z_eq (ws' := []) (lv' := [(0, .ref b2), (1, .int (nI fr))]) (st' := [.int (nI (if fr.testBit 1 then dom else 1)), .int 1, .long (lan (fun j => (if fr.testBit 0 then dom else 1).testBit (ld 0 j)))]) rfl rfl (by rw [bit_yes hfr (by decide) c_26]; rfl) ?_
      refine z_retl X (as := [.int 1, .int (nI (if fr.testBit 1 then dom else 1))]) (wc := []) (wr := []) (rest := [.long (lan (fun j => (if fr.testBit 0 then dom else 1).testBit (ld 0 j)))]) (fun H9 locs9 ls9 hP9 hS9 hl9 hb9 hp9 => va_runS (As := [.int 1, .int (nI (if fr.testBit 1 then dom else 1))]) (rest := [.long (lan (fun j => (if fr.testBit 0 then dom else 1).testBit (ld 0 j)))]) X.fix (m_lanesWith l D cy O (v9 := 1) (S := if fr.testBit 1 then dom else 1) (by decide) (by split <;> omega) H9.size) (va_cwS 2 X.hts (gS ml_X2_59 sm_X2_lanesWith ni_X2 cd_X2_lanesWith) rfl rfl rfl (by decide +kernel) ⟨Nat.le_of_ble_eq_true rfl, Nat.le_of_ble_eq_true rfl⟩) ⟨hb9, hp9⟩ rfl rfl hl9.1 rfl (lv_room (Nat.le_of_ble_eq_true rfl)) dX2_asked_37 ⟨Nat.le_of_ble_eq_true rfl, Nat.le_of_ble_eq_true rfl⟩) [] [] rfl rfl rfl rfl rfl (by decide) (fun _ h => Or.inl h) (fun r13 w14 h15 => ?_)
      obtain ⟨rfl, rfl⟩ := h15
      refine z_eq (ws' := []) (lv' := [(0, .ref b2), (1, .int (nI fr))]) (st' := [.long (lan (fun j => (if fr.testBit 1 then dom else 1).testBit (ld 1 j))), .long (lan (fun j => (if fr.testBit 0 then dom else 1).testBit (ld 0 j)))]) rfl rfl rfl ?_
      refine z_widen (k' := 0) (n' := 0) (Nat.le_refl _) (Nat.le_refl _) ?_
      refine z_land X (v := (lan (fun j => (if fr.testBit 0 then dom else 1).testBit (ld 0 j) && (if fr.testBit 1 then dom else 1).testBit (ld 1 j)))) dX2_asked_40 (lan_and _ _) ?_
      exact z_endl X hr [] [] rfl rfl rfl ⟨rfl, rfl⟩ dX2_asked_41
  · skip
    refine z_aload_n X dX2_asked_9 rfl (j := 0) rfl ?_
    refine z_getO X (ci := 2) (C := RX2) (T := TX2) (N := 3) inX2 hL rfl 2 (by decide) fl_X2_22 (fun _ h9 => h9) rfl dX2_asked_10 ?_
    refine z_goto X (tgt := 17) dX2_asked_13 (by decide) ?_
    refine z_eq (ws' := []) (lv' := [(0, .ref b2), (1, .int (nI fr))]) (st' := [.int (nI (if fr.testBit 0 then dom else 1)), .int 0]) rfl rfl (by rw [bit_yes hfr (by decide) c_6]; rfl) ?_
    refine z_retl X (as := [.int 0, .int (nI (if fr.testBit 0 then dom else 1))]) (wc := []) (wr := []) (rest := []) (fun H9 locs9 ls9 hP9 hS9 hl9 hb9 hp9 => va_runS (As := [.int 0, .int (nI (if fr.testBit 0 then dom else 1))]) (rest := []) X.fix (m_lanesWith l D cy O (v9 := 0) (S := if fr.testBit 0 then dom else 1) (by decide) (by split <;> omega) H9.size) (va_cwS 2 X.hts (gS ml_X2_59 sm_X2_lanesWith ni_X2 cd_X2_lanesWith) rfl rfl rfl (by decide +kernel) ⟨Nat.le_of_ble_eq_true rfl, Nat.le_of_ble_eq_true rfl⟩) ⟨hb9, hp9⟩ rfl rfl hl9.1 rfl (lv_room (Nat.le_of_ble_eq_true rfl)) dX2_asked_17 ⟨Nat.le_of_ble_eq_true rfl, Nat.le_of_ble_eq_true rfl⟩) [] [] rfl rfl rfl rfl rfl (by decide) (fun _ h => Or.inl h) (fun r16 w17 h18 => ?_)
    obtain ⟨rfl, rfl⟩ := h18
    refine z_eq (ws' := []) (lv' := [(0, .ref b2), (1, .int (nI fr))]) (st' := [.long (lan (fun j => (if fr.testBit 0 then dom else 1).testBit (ld 0 j)))]) rfl rfl rfl ?_
    refine z_widen (k' := 0) (n' := 0) (Nat.le_refl _) (Nat.le_refl _) ?_
    refine z_iconst X (v := 1) dX2_asked_20 (by decide) ?_
    refine z_iload_n X dX2_asked_21 rfl (j := 1) rfl ?_
    refine z_iconst X (v := 1) dX2_asked_22 (by decide) ?_
    refine z_reti X (as := [.int (nI fr), .int 1]) (wc := []) (wr := []) (rest := [.int 1, .long (lan (fun j => (if fr.testBit 0 then dom else 1).testBit (ld 0 j)))]) (fun H9 locs9 ls9 hP9 hS9 hl9 hb9 hp9 => va_runSN (As := [.int (nI fr), .int 1]) (rest := [.int 1, .long (lan (fun j => (if fr.testBit 0 then dom else 1).testBit (ld 0 j)))]) X.fix (m_isIn l D cy O (nI fr) (nI 1) H9.size) ⟨va_cnB 2 X.hts (gB cd_X9_isIn) rfl rfl rfl (X.nw.1 _ (List.mem_of_getElem? (i := 5) rfl)) (X.hts _ ni_X9) (by decide +kernel) ⟨Nat.le_of_ble_eq_true rfl, Nat.le_of_ble_eq_true rfl⟩, X.hts _ sm_X9_isIn, trivial⟩ ⟨hb9, hp9⟩ rfl rfl hl9.1 rfl (lv_room (Nat.le_of_ble_eq_true rfl)) dX2_asked_23 ⟨Nat.le_of_ble_eq_true rfl, Nat.le_of_ble_eq_true rfl⟩) [] [] rfl rfl rfl rfl rfl (by decide) (fun _ h => Or.inl h) (fun r19 w20 h21 => ?_)
    obtain ⟨rfl, rfl⟩ := h21
    refine z_eq (ws' := []) (lv' := [(0, .ref b2), (1, .int (nI fr))]) (st' := [.int (bI (nI fr) (nI 1)), .int 1, .long (lan (fun j => (if fr.testBit 0 then dom else 1).testBit (ld 0 j)))]) rfl rfl rfl ?_
    refine z_widen (k' := 0) (n' := 0) (Nat.le_refl _) (Nat.le_refl _) ?_
    refine z_if_eq X (tgt := 36) dX2_asked_26 (by decide) (fun c_26 => ?_) (fun c_26 => ?_)
    · skip
      refine z_iconst X (v := 1) dX2_asked_36 (by decide) ?_
      refine z_eq (ws' := []) (lv' := [(0, .ref b2), (1, .int (nI fr))]) (st' := [.int (nI (if fr.testBit 1 then dom else 1)), .int 1, .long (lan (fun j => (if fr.testBit 0 then dom else 1).testBit (ld 0 j)))]) rfl rfl (by rw [bit_no hfr (by decide) c_26]; rfl) ?_
      refine z_retl X (as := [.int 1, .int (nI (if fr.testBit 1 then dom else 1))]) (wc := []) (wr := []) (rest := [.long (lan (fun j => (if fr.testBit 0 then dom else 1).testBit (ld 0 j)))]) (fun H9 locs9 ls9 hP9 hS9 hl9 hb9 hp9 => va_runS (As := [.int 1, .int (nI (if fr.testBit 1 then dom else 1))]) (rest := [.long (lan (fun j => (if fr.testBit 0 then dom else 1).testBit (ld 0 j)))]) X.fix (m_lanesWith l D cy O (v9 := 1) (S := if fr.testBit 1 then dom else 1) (by decide) (by split <;> omega) H9.size) (va_cwS 2 X.hts (gS ml_X2_59 sm_X2_lanesWith ni_X2 cd_X2_lanesWith) rfl rfl rfl (by decide +kernel) ⟨Nat.le_of_ble_eq_true rfl, Nat.le_of_ble_eq_true rfl⟩) ⟨hb9, hp9⟩ rfl rfl hl9.1 rfl (lv_room (Nat.le_of_ble_eq_true rfl)) dX2_asked_37 ⟨Nat.le_of_ble_eq_true rfl, Nat.le_of_ble_eq_true rfl⟩) [] [] rfl rfl rfl rfl rfl (by decide) (fun _ h => Or.inl h) (fun r22 w23 h24 => ?_)
      obtain ⟨rfl, rfl⟩ := h24
      refine z_eq (ws' := []) (lv' := [(0, .ref b2), (1, .int (nI fr))]) (st' := [.long (lan (fun j => (if fr.testBit 1 then dom else 1).testBit (ld 1 j))), .long (lan (fun j => (if fr.testBit 0 then dom else 1).testBit (ld 0 j)))]) rfl rfl rfl ?_
      refine z_widen (k' := 0) (n' := 0) (Nat.le_refl _) (Nat.le_refl _) ?_
      refine z_land X (v := (lan (fun j => (if fr.testBit 0 then dom else 1).testBit (ld 0 j) && (if fr.testBit 1 then dom else 1).testBit (ld 1 j)))) dX2_asked_40 (lan_and _ _) ?_
      exact z_endl X hr [] [] rfl rfl rfl ⟨rfl, rfl⟩ dX2_asked_41
    · skip
      refine z_aload_n X dX2_asked_29 rfl (j := 0) rfl ?_
      refine z_getO X (ci := 2) (C := RX2) (T := TX2) (N := 3) inX2 hL rfl 2 (by decide) fl_X2_22 (fun _ h9 => h9) rfl dX2_asked_30 ?_
      refine z_goto X (tgt := 37) dX2_asked_33 (by decide) ?_
      refine z_eq (ws' := []) (lv' := [(0, .ref b2), (1, .int (nI fr))]) (st' := [.int (nI (if fr.testBit 1 then dom else 1)), .int 1, .long (lan (fun j => (if fr.testBit 0 then dom else 1).testBit (ld 0 j)))]) rfl rfl (by rw [bit_yes hfr (by decide) c_26]; rfl) ?_
      refine z_retl X (as := [.int 1, .int (nI (if fr.testBit 1 then dom else 1))]) (wc := []) (wr := []) (rest := [.long (lan (fun j => (if fr.testBit 0 then dom else 1).testBit (ld 0 j)))]) (fun H9 locs9 ls9 hP9 hS9 hl9 hb9 hp9 => va_runS (As := [.int 1, .int (nI (if fr.testBit 1 then dom else 1))]) (rest := [.long (lan (fun j => (if fr.testBit 0 then dom else 1).testBit (ld 0 j)))]) X.fix (m_lanesWith l D cy O (v9 := 1) (S := if fr.testBit 1 then dom else 1) (by decide) (by split <;> omega) H9.size) (va_cwS 2 X.hts (gS ml_X2_59 sm_X2_lanesWith ni_X2 cd_X2_lanesWith) rfl rfl rfl (by decide +kernel) ⟨Nat.le_of_ble_eq_true rfl, Nat.le_of_ble_eq_true rfl⟩) ⟨hb9, hp9⟩ rfl rfl hl9.1 rfl (lv_room (Nat.le_of_ble_eq_true rfl)) dX2_asked_37 ⟨Nat.le_of_ble_eq_true rfl, Nat.le_of_ble_eq_true rfl⟩) [] [] rfl rfl rfl rfl rfl (by decide) (fun _ h => Or.inl h) (fun r25 w26 h27 => ?_)
      obtain ⟨rfl, rfl⟩ := h27
      refine z_eq (ws' := []) (lv' := [(0, .ref b2), (1, .int (nI fr))]) (st' := [.long (lan (fun j => (if fr.testBit 1 then dom else 1).testBit (ld 1 j))), .long (lan (fun j => (if fr.testBit 0 then dom else 1).testBit (ld 0 j)))]) rfl rfl rfl ?_
      refine z_widen (k' := 0) (n' := 0) (Nat.le_refl _) (Nat.le_refl _) ?_
      refine z_land X (v := (lan (fun j => (if fr.testBit 0 then dom else 1).testBit (ld 0 j) && (if fr.testBit 1 then dom else 1).testBit (ld 1 j)))) dX2_asked_40 (lan_and _ _) ?_
      exact z_endl X hr [] [] rfl rfl rfl ⟨rfl, rfl⟩ dX2_asked_41
