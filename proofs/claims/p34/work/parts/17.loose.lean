set_option maxHeartbeats 4000000 in
set_option maxRecDepth 100000 in
/-- passedOn(bound) of what is not SAME -/
theorem m_passedOn_no (l : Launch) (D : va_G) (cy : Nat → ClassId) (O : Nat × va_E → Prop) {a5 f5 d5 l5 u5 w5 x5 : Nat} {p51 p52 p53 p54 : Value} {k5 v5 o5 : Int32} (h5 : O (a5, .inr (1, [.int k5, p51, p52, p53, p54, .int v5, .int (nI f5), .int (nI d5), .int (nI l5), .int (nI u5), .int (nI w5), .int (nI x5), .int o5]))) {b : Int32} (hk5 : ¬ k5 = 1) : Ci l yX1_passedOn (.code yX1_passedOn cX1_passedOn 2 (some .int) :: WALL) ({ frames := 0, cells := 0, slots := 0, locals := 0 }) D cy O [.ref a5, .int b] [] 0 0 (fun (r : Int32) (w : va_W) => r = 0 ∧ w = []) := by
  refine z_meti (by decide) rfl rfl (Nat.le_of_ble_eq_true rfl) ?_
  intro p e s m args below meth c X hr hin
  refine z_eq (ws' := []) (lv' := [(0, .ref a5), (1, .int b)]) (st' := []) rfl rfl rfl ?_
  refine z_aload_n X dX1_passedOn_0 rfl (j := 0) rfl ?_
  refine z_getO X (ci := 1) (C := RX1) (T := TX1) (N := 13) inX1 h5 rfl 0 (by decide) fl_X1_51 (fun _ h9 => h9) rfl dX1_passedOn_1 ?_
  refine z_iconst X (v := 1) dX1_passedOn_4 (by decide) ?_
  refine z_icmp_ne X (tgt := 30) dX1_passedOn_5 (by decide) (fun c_5 => ?_) (fun c9 => absurd c9 hk5)
  refine z_iconst X (v := 0) dX1_passedOn_30 (by decide) ?_
  exact z_endi X hr [] [] rfl rfl rfl ⟨rfl, rfl⟩ dX1_passedOn_31
theorem Nat.and_lt_two_pow_l {a b k : Nat} (h : a < 2 ^ k) : a &&& b < 2 ^ k := Nat.lt_of_le_of_lt Nat.and_le_left h
set_option maxHeartbeats 4000000 in
set_option maxRecDepth 100000 in
/-- passedOn(bound) of SAME -/
theorem m_passedOn_same (l : Launch) (D : va_G) (cy : Nat → ClassId) (O : Nat × va_E → Prop) {a5 t5 f5 d5 l5 u5 w5 x5 b g1 y1 : Nat} {p51 p53 p54 t0 t1 : Value} {v5 o5 : Int32} (h5 : O (a5, .inr (1, [.int 1, p51, .ref t5, p53, p54, .int v5, .int (nI f5), .int (nI d5), .int (nI l5), .int (nI u5), .int (nI w5), .int (nI x5), .int o5]))) (hT : O (t5, .inr (7, [t0, t1, .int (nI g1), .int (nI y1)]))) (hg : g1 < 2 ^ 31) (hy : y1 < 2 ^ 31) : Ci l yX1_passedOn (.code yX1_passedOn cX1_passedOn 2 (some .int) :: WALL) ({ frames := 0, cells := 0, slots := 0, locals := 0 }) D cy O [.ref a5, .int (nI b)] [] 0 0 (fun (r : Int32) (w : va_W) => r = nI (if y1 = 0 ∧ g1 &&& b ≠ 0 then g1 else 0) ∧ w = []) := by
  refine z_meti (by decide) rfl rfl (Nat.le_of_ble_eq_true rfl) ?_
  intro p e s m args below meth c X hr hin
  refine z_eq (ws' := []) (lv' := [(0, .ref a5), (1, .int (nI b))]) (st' := []) rfl rfl rfl ?_
  refine z_aload_n X dX1_passedOn_0 rfl (j := 0) rfl ?_
  refine z_getO X (ci := 1) (C := RX1) (T := TX1) (N := 13) inX1 h5 rfl 0 (by decide) fl_X1_51 (fun _ h9 => h9) rfl dX1_passedOn_1 ?_
  refine z_iconst X (v := 1) dX1_passedOn_4 (by decide) ?_
  refine z_icmp_ne X (tgt := 30) dX1_passedOn_5 (by decide) (fun c9 => absurd (by decide) c9) (fun c_5 => ?_)
  refine z_aload_n X dX1_passedOn_8 rfl (j := 0) rfl ?_
  refine z_getO X (ci := 1) (C := RX1) (T := TX1) (N := 13) inX1 h5 rfl 2 (by decide) fl_X1_15 (fun _ h9 => h9) rfl dX1_passedOn_9 ?_
  refine z_getO X (ci := 7) (C := RX7) (T := TX7) (N := 4) inX7 hT rfl 3 (by decide) fl_X1_65 (fun _ h9 => h9) rfl dX1_passedOn_12 ?_
  refine z_if_ne X (tgt := 30) dX1_passedOn_15 (by decide) (fun c_15 => ?_) (fun c_15 => ?_)
  · skip
    refine z_iconst X (v := 0) dX1_passedOn_30 (by decide) ?_
    exact z_endi X hr [] [] rfl rfl rfl ⟨(by rw [if_neg (fun z => c_15 (by rw [z.1]; rfl))]; rfl), rfl⟩ dX1_passedOn_31
  · skip
    refine z_aload_n X dX1_passedOn_18 rfl (j := 0) rfl ?_
    refine z_getO X (ci := 1) (C := RX1) (T := TX1) (N := 13) inX1 h5 rfl 2 (by decide) fl_X1_15 (fun _ h9 => h9) rfl dX1_passedOn_19 ?_
    refine z_getO X (ci := 7) (C := RX7) (T := TX7) (N := 4) inX7 hT rfl 2 (by decide) fl_X1_60 (fun _ h9 => h9) rfl dX1_passedOn_22 ?_
    refine z_iload_n X dX1_passedOn_25 rfl (j := 1) rfl ?_
    refine z_iand X (v := (nI (g1 &&& b))) dX1_passedOn_26 (nI_and _ _) ?_
    refine z_if_ne X (tgt := 32) dX1_passedOn_27 (by decide) (fun c_27 => ?_) (fun c_27 => ?_)
    · skip
      refine z_aload_n X dX1_passedOn_32 rfl (j := 0) rfl ?_
      refine z_getO X (ci := 1) (C := RX1) (T := TX1) (N := 13) inX1 h5 rfl 2 (by decide) fl_X1_15 (fun _ h9 => h9) rfl dX1_passedOn_33 ?_
      refine z_getO X (ci := 7) (C := RX7) (T := TX7) (N := 4) inX7 hT rfl 2 (by decide) fl_X1_60 (fun _ h9 => h9) rfl dX1_passedOn_36 ?_
      exact z_endi X hr [] [] rfl rfl rfl ⟨(by rw [if_pos ⟨(nI_zero hy).mp c_15, fun z => c_27 (by rw [z]; rfl)⟩]), rfl⟩ dX1_passedOn_39
    · skip
      refine z_iconst X (v := 0) dX1_passedOn_30 (by decide) ?_
      exact z_endi X hr [] [] rfl rfl rfl ⟨(by rw [if_neg (fun z => z.2 ((nI_zero (Nat.and_lt_two_pow_l hg)).mp c_27))]; rfl), rfl⟩ dX1_passedOn_31
set_option maxHeartbeats 4000000 in
set_option maxRecDepth 100000 in
/-- isLoose() of what is neither SOME nor EVERY -/
theorem m_isLoose_no (l : Launch) (D : va_G) (cy : Nat → ClassId) (O : Nat × va_E → Prop) {a5 f5 d5 l5 u5 w5 x5 : Nat} {p51 p52 p53 p54 : Value} {k5 v5 o5 : Int32} (h5 : O (a5, .inr (1, [.int k5, p51, p52, p53, p54, .int v5, .int (nI f5), .int (nI d5), .int (nI l5), .int (nI u5), .int (nI w5), .int (nI x5), .int o5]))) (hk5 : ¬ k5 = 5) (hk6 : ¬ k5 = 6) : Ci l yX1_isLoose (.code yX1_isLoose cX1_isLoose 1 (some .boolean) :: WALL) ({ frames := 0, cells := 0, slots := 0, locals := 0 }) D cy O [.ref a5] [] 0 0 (fun (r : Int32) (w : va_W) => r = 0 ∧ w = []) := by
  refine z_meti (by decide) rfl rfl (Nat.le_of_ble_eq_true rfl) ?_
  intro p e s m args below meth c X hr hin
  refine z_eq (ws' := []) (lv' := [(0, .ref a5)]) (st' := []) rfl rfl rfl ?_
  refine z_aload_n X dX1_isLoose_0 rfl (j := 0) rfl ?_
  refine z_getO X (ci := 1) (C := RX1) (T := TX1) (N := 13) inX1 h5 rfl 0 (by decide) fl_X1_51 (fun _ h9 => h9) rfl dX1_isLoose_1 ?_
  refine z_iconst X (v := 5) dX1_isLoose_4 (by decide) ?_
  refine z_icmp_ne X (tgt := 25) dX1_isLoose_5 (by decide) (fun c_5 => ?_) (fun c9 => absurd c9 hk5)
  refine z_aload_n X dX1_isLoose_25 rfl (j := 0) rfl ?_
  refine z_getO X (ci := 1) (C := RX1) (T := TX1) (N := 13) inX1 h5 rfl 0 (by decide) fl_X1_51 (fun _ h9 => h9) rfl dX1_isLoose_26 ?_
  refine z_bipush X (v := 6) dX1_isLoose_29 (by decide) ?_
  refine z_icmp_ne X (tgt := 55) dX1_isLoose_31 (by decide) (fun c_31 => ?_) (fun c9 => absurd c9 hk6)
  refine z_iconst X (v := 0) dX1_isLoose_55 (by decide) ?_
  exact z_endz X hr (by first | exact Or.inl rfl | exact Or.inr rfl) [] [] rfl rfl rfl ⟨rfl, rfl⟩ dX1_isLoose_56
set_option maxHeartbeats 4000000 in
set_option maxRecDepth 100000 in
/-- isLoose() -/
theorem m_isLoose_some (l : Launch) (D : va_G) (cy : Nat → ClassId) (O : Nat × va_E → Prop) {a5 f5 d5 l5 u5 w5 x5 y5 : Nat} {p51 p52 p54 : Value} {o5 : Int32} {a6 f6 d6 l6 u6 w6 x6 : Nat} {p61 p62 p63 p64 : Value} {k6 v6 o6 : Int32} (h6 : O (a6, .inr (1, [.int k6, p61, p62, p63, p64, .int v6, .int (nI f6), .int (nI d6), .int (nI l6), .int (nI u6), .int (nI w6), .int (nI x6), .int o6]))) (h5 : O (a5, .inr (1, [.int 5, p51, p52, .ref a6, p54, .int (nI y5), .int (nI f5), .int (nI d5), .int (nI l5), .int (nI u5), .int (nI w5), .int (nI x5), .int o5]))) (hu : u6 < 2 ^ 31) (hy : y5 < 32) : Ci l yX1_isLoose (.code yX1_isLoose cX1_isLoose 1 (some .boolean) :: WALL) ({ frames := 1, cells := 0, slots := 0, locals := 21 }) D cy O [.ref a5] [] 0 0 (fun (r : Int32) (w : va_W) => r = (if u6.testBit y5 then 0 else 1) ∧ w = []) := by
  refine z_meti (by decide) rfl rfl (Nat.le_of_ble_eq_true rfl) ?_
  intro p e s m args below meth c X hr hin
  refine z_eq (ws' := []) (lv' := [(0, .ref a5)]) (st' := []) rfl rfl rfl ?_
  refine z_aload_n X dX1_isLoose_0 rfl (j := 0) rfl ?_
  refine z_getO X (ci := 1) (C := RX1) (T := TX1) (N := 13) inX1 h5 rfl 0 (by decide) fl_X1_51 (fun _ h9 => h9) rfl dX1_isLoose_1 ?_
  refine z_iconst X (v := 5) dX1_isLoose_4 (by decide) ?_
  refine z_icmp_ne X (tgt := 25) dX1_isLoose_5 (by decide) (fun c9 => absurd (by decide) c9) (fun c_5 => ?_)
  refine z_aload_n X dX1_isLoose_8 rfl (j := 0) rfl ?_
  refine z_getO X (ci := 1) (C := RX1) (T := TX1) (N := 13) inX1 h5 rfl 3 (by decide) fl_X1_19 (fun _ h9 => h9) rfl dX1_isLoose_9 ?_
  refine z_getO X (ci := 1) (C := RX1) (T := TX1) (N := 13) inX1 h6 rfl 9 (by decide) fl_X1_39 (fun _ h9 => h9) rfl dX1_isLoose_12 ?_
  refine z_aload_n X dX1_isLoose_15 rfl (j := 0) rfl ?_
  refine z_getO X (ci := 1) (C := RX1) (T := TX1) (N := 13) inX1 h5 rfl 5 (by decide) fl_X1_26 (fun _ h9 => h9) rfl dX1_isLoose_16 ?_
  refine z_reti X (as := [.int (nI u6), .int (nI y5)]) (wc := []) (wr := []) (rest := []) (fun H9 locs9 ls9 hP9 hS9 hl9 hb9 hp9 => va_runSN (As := [.int (nI u6), .int (nI y5)]) (rest := []) X.fix (m_isIn l D cy O (nI u6) (nI y5) H9.size) ⟨va_cnB 2 X.hts (gB cd_X9_isIn) rfl rfl rfl (X.nw.1 _ (List.mem_of_getElem? (i := 13) rfl)) (X.hts _ ni_X9) (by decide +kernel) ⟨Nat.le_of_ble_eq_true rfl, Nat.le_of_ble_eq_true rfl⟩, X.hts _ sm_X9_isIn, trivial⟩ ⟨hb9, hp9⟩ rfl rfl hl9.1 rfl (lv_room (Nat.le_of_ble_eq_true rfl)) dX1_isLoose_19 ⟨Nat.le_of_ble_eq_true rfl, Nat.le_of_ble_eq_true rfl⟩) [] [] rfl rfl rfl rfl rfl (by decide) (fun _ h => Or.inl h) (fun r1 w2 h3 => ?_)
  obtain ⟨rfl, rfl⟩ := h3
  refine z_eq (ws' := []) (lv' := [(0, .ref a5)]) (st' := [.int (bI (nI u6) (nI y5))]) rfl rfl rfl ?_
  refine z_widen (k' := 0) (n' := 0) (Nat.le_refl _) (Nat.le_refl _) ?_
  refine z_if_eq X (tgt := 51) dX1_isLoose_22 (by decide) (fun c_22 => ?_) (fun c_22 => ?_)
  · skip
    refine z_iconst X (v := 1) dX1_isLoose_51 (by decide) ?_
    refine z_goto X (tgt := 56) dX1_isLoose_52 (by decide) ?_
    exact z_endz X hr (by first | exact Or.inl rfl | exact Or.inr rfl) [] [] rfl rfl rfl ⟨(by rw [bit_no hu hy c_22]; rfl), rfl⟩ dX1_isLoose_56
  · skip
    refine z_aload_n X dX1_isLoose_25 rfl (j := 0) rfl ?_
    refine z_getO X (ci := 1) (C := RX1) (T := TX1) (N := 13) inX1 h5 rfl 0 (by decide) fl_X1_51 (fun _ h9 => h9) rfl dX1_isLoose_26 ?_
    refine z_bipush X (v := 6) dX1_isLoose_29 (by decide) ?_
    refine z_icmp_ne X (tgt := 55) dX1_isLoose_31 (by decide) (fun c_31 => ?_) (fun c9 => absurd c9 (by decide))
    refine z_iconst X (v := 0) dX1_isLoose_55 (by decide) ?_
    exact z_endz X hr (by first | exact Or.inl rfl | exact Or.inr rfl) [] [] rfl rfl rfl ⟨(by rw [bit_yes hu hy c_22]; rfl), rfl⟩ dX1_isLoose_56
set_option maxHeartbeats 4000000 in
set_option maxRecDepth 100000 in
/-- isLoose() -/
theorem m_isLoose_every (l : Launch) (D : va_G) (cy : Nat → ClassId) (O : Nat × va_E → Prop) {a5 f5 d5 l5 u5 w5 x5 y5 : Nat} {p51 p52 p54 : Value} {o5 : Int32} {a6 f6 d6 l6 u6 w6 x6 : Nat} {p61 p62 p63 p64 : Value} {k6 v6 o6 : Int32} (h6 : O (a6, .inr (1, [.int k6, p61, p62, p63, p64, .int v6, .int (nI f6), .int (nI d6), .int (nI l6), .int (nI u6), .int (nI w6), .int (nI x6), .int o6]))) (h5 : O (a5, .inr (1, [.int 6, p51, p52, .ref a6, p54, .int (nI y5), .int (nI f5), .int (nI d5), .int (nI l5), .int (nI u5), .int (nI w5), .int (nI x5), .int o5]))) (hu : w6 < 2 ^ 31) (hy : y5 < 32) : Ci l yX1_isLoose (.code yX1_isLoose cX1_isLoose 1 (some .boolean) :: WALL) ({ frames := 1, cells := 0, slots := 0, locals := 21 }) D cy O [.ref a5] [] 0 0 (fun (r : Int32) (w : va_W) => r = (if w6.testBit y5 then 0 else 1) ∧ w = []) := by
  refine z_meti (by decide) rfl rfl (Nat.le_of_ble_eq_true rfl) ?_
  intro p e s m args below meth c X hr hin
  refine z_eq (ws' := []) (lv' := [(0, .ref a5)]) (st' := []) rfl rfl rfl ?_
  refine z_aload_n X dX1_isLoose_0 rfl (j := 0) rfl ?_
  refine z_getO X (ci := 1) (C := RX1) (T := TX1) (N := 13) inX1 h5 rfl 0 (by decide) fl_X1_51 (fun _ h9 => h9) rfl dX1_isLoose_1 ?_
  refine z_iconst X (v := 5) dX1_isLoose_4 (by decide) ?_
  refine z_icmp_ne X (tgt := 25) dX1_isLoose_5 (by decide) (fun c_5 => ?_) (fun c9 => absurd c9 (by decide))
  refine z_aload_n X dX1_isLoose_25 rfl (j := 0) rfl ?_
  refine z_getO X (ci := 1) (C := RX1) (T := TX1) (N := 13) inX1 h5 rfl 0 (by decide) fl_X1_51 (fun _ h9 => h9) rfl dX1_isLoose_26 ?_
  refine z_bipush X (v := 6) dX1_isLoose_29 (by decide) ?_
  refine z_icmp_ne X (tgt := 55) dX1_isLoose_31 (by decide) (fun c9 => absurd (by decide) c9) (fun c_31 => ?_)
  refine z_aload_n X dX1_isLoose_34 rfl (j := 0) rfl ?_
  refine z_getO X (ci := 1) (C := RX1) (T := TX1) (N := 13) inX1 h5 rfl 3 (by decide) fl_X1_19 (fun _ h9 => h9) rfl dX1_isLoose_35 ?_
  refine z_getO X (ci := 1) (C := RX1) (T := TX1) (N := 13) inX1 h6 rfl 10 (by decide) fl_X1_42 (fun _ h9 => h9) rfl dX1_isLoose_38 ?_
  refine z_aload_n X dX1_isLoose_41 rfl (j := 0) rfl ?_
  refine z_getO X (ci := 1) (C := RX1) (T := TX1) (N := 13) inX1 h5 rfl 5 (by decide) fl_X1_26 (fun _ h9 => h9) rfl dX1_isLoose_42 ?_
  refine z_reti X (as := [.int (nI w6), .int (nI y5)]) (wc := []) (wr := []) (rest := []) (fun H9 locs9 ls9 hP9 hS9 hl9 hb9 hp9 => va_runSN (As := [.int (nI w6), .int (nI y5)]) (rest := []) X.fix (m_isIn l D cy O (nI w6) (nI y5) H9.size) ⟨va_cnB 2 X.hts (gB cd_X9_isIn) rfl rfl rfl (X.nw.1 _ (List.mem_of_getElem? (i := 13) rfl)) (X.hts _ ni_X9) (by decide +kernel) ⟨Nat.le_of_ble_eq_true rfl, Nat.le_of_ble_eq_true rfl⟩, X.hts _ sm_X9_isIn, trivial⟩ ⟨hb9, hp9⟩ rfl rfl hl9.1 rfl (lv_room (Nat.le_of_ble_eq_true rfl)) dX1_isLoose_45 ⟨Nat.le_of_ble_eq_true rfl, Nat.le_of_ble_eq_true rfl⟩) [] [] rfl rfl rfl rfl rfl (by decide) (fun _ h => Or.inl h) (fun r1 w2 h3 => ?_)
  obtain ⟨rfl, rfl⟩ := h3
  refine z_eq (ws' := []) (lv' := [(0, .ref a5)]) (st' := [.int (bI (nI w6) (nI y5))]) rfl rfl rfl ?_
  refine z_widen (k' := 0) (n' := 0) (Nat.le_refl _) (Nat.le_refl _) ?_
  refine z_if_ne X (tgt := 55) dX1_isLoose_48 (by decide) (fun c_48 => ?_) (fun c_48 => ?_)
  · skip
    refine z_iconst X (v := 0) dX1_isLoose_55 (by decide) ?_
    exact z_endz X hr (by first | exact Or.inl rfl | exact Or.inr rfl) [] [] rfl rfl rfl ⟨(by rw [bit_yes hu hy c_48]; rfl), rfl⟩ dX1_isLoose_56
  · skip
    refine z_iconst X (v := 1) dX1_isLoose_51 (by decide) ?_
    refine z_goto X (tgt := 56) dX1_isLoose_52 (by decide) ?_
    exact z_endz X hr (by first | exact Or.inl rfl | exact Or.inr rfl) [] [] rfl rfl rfl ⟨(by rw [bit_no hu hy c_48]; rfl), rfl⟩ dX1_isLoose_56
set_option maxHeartbeats 4000000 in
set_option maxRecDepth 100000 in
/-- settleLoose(number) of ATOM and SAME -/
theorem m_settle_leaf (l : Launch) (D : va_G) (cy : Nat → ClassId) (O : Nat × va_E → Prop) {h0 f0 d0 l0 u0 w0 x0 : Nat} {q01 q02 : Value} {o0 : Int32} {num : Nat} {k0 v0 : Int32} (hk5 : ¬ k0 = 5) (hk6 : ¬ k0 = 6) : Cv l yX1_settleLoose (.code yX1_settleLoose cX1_settleLoose 2 none :: WALL) ({ frames := 2, cells := 0, slots := 0, locals := 41 }) D cy O [.ref h0, .int (nI num)] [(h0, .inr (1, [.int k0, q01, q02, .null, .null, .int v0, .int (nI f0), .int (nI d0), .int (nI l0), .int (nI u0), .int (nI w0), .int (nI x0), .int o0]))] 0 0 (fun (w : va_W) => w = [(h0, .inr (1, [.int k0, q01, q02, .null, .null, .int v0, .int (nI f0), .int (nI d0), .int (nI l0), .int (nI u0), .int (nI w0), .int (nI x0), .int (oI none)]))]) := by
  refine z_metv (by decide) rfl rfl (Nat.le_of_ble_eq_true rfl) ?_
  intro p e s m args below meth c X hr hin
  refine z_eq (ws' := [(h0, .inr (1, [.int k0, q01, q02, .null, .null, .int v0, .int (nI f0), .int (nI d0), .int (nI l0), .int (nI u0), .int (nI w0), .int (nI x0), .int o0]))]) (lv' := [(0, .ref h0), (1, .int (nI num))]) (st' := []) rfl rfl rfl ?_
  refine z_aload_n X dX1_settleLoose_0 rfl (j := 0) rfl ?_
  refine z_aload_n X dX1_settleLoose_1 rfl (j := 0) rfl ?_
  refine z_getW X 0 (C := RX1) (T := TX1) (N := 13) inX1 rfl rfl 3 (by decide) fl_X1_19 (fun _ h9 => h9) rfl dX1_settleLoose_2 ?_
  refine z_ifnonnullN X dX1_settleLoose_5 ?_
  refine z_iconst X (v := (-1)) dX1_settleLoose_8 (by decide) ?_
  refine z_goto X (tgt := 19) dX1_settleLoose_9 (by decide) ?_
  refine z_putW X 0 (C := RX1) (T := TX1) (N := 13) inX1 tyX1 tyX1_ok nmX1 rfl rfl 12 (by decide) fl_X1_48 (fun _ h9 => h9) rfl (ty := .int) (by decide +kernel) rfl rfl (Nat.le_of_ble_eq_true rfl) (ws' := [(h0, .inr (1, [.int k0, q01, q02, .null, .null, .int v0, .int (nI f0), .int (nI d0), .int (nI l0), .int (nI u0), .int (nI w0), .int (nI x0), .int (-1)]))]) rfl dX1_settleLoose_19 ?_
  refine z_aload_n X dX1_settleLoose_22 rfl (j := 0) rfl ?_
  refine z_getW X 0 (C := RX1) (T := TX1) (N := 13) inX1 rfl rfl 4 (by decide) fl_X1_23 (fun _ h9 => h9) rfl dX1_settleLoose_23 ?_
  refine z_ifnullN X (tgt := 74) dX1_settleLoose_26 (by decide) ?_
  refine z_aload_n X dX1_settleLoose_74 rfl (j := 0) rfl ?_
  refine z_getW X 0 (C := RX1) (T := TX1) (N := 13) inX1 rfl rfl 12 (by decide) fl_X1_48 (fun _ h9 => h9) rfl dX1_settleLoose_75 ?_
  refine z_if_ge X (tgt := 93) dX1_settleLoose_78 (by decide) (fun c9 => absurd c9 (by decide)) (fun c_78 => ?_)
  refine z_aload_n X dX1_settleLoose_81 rfl (j := 0) rfl ?_
  refine z_reti X (as := [.ref h0]) (wc := []) (wr := [(h0, .inr (1, [.int k0, q01, q02, .null, .null, .int v0, .int (nI f0), .int (nI d0), .int (nI l0), .int (nI u0), .int (nI w0), .int (nI x0), .int (-1)]))]) (rest := []) (fun H9 locs9 ls9 hP9 hS9 hl9 hb9 hp9 => va_runV (As := []) (rest := []) X.fix (m_isLoose_no l D cy (fun q => O q ∨ q ∈ ([(h0, .inr (1, [.int k0, q01, q02, .null, .null, .int v0, .int (nI f0), .int (nI d0), .int (nI l0), .int (nI u0), .int (nI w0), .int (nI x0), .int (-1)]))] : va_W)) (Or.inr (List.mem_of_getElem? (i := 0) rfl)) hk5 hk6 H9.size) (cwV 0 X.hts (gV ml_X1_91 im_X1_isLoose se_X1_isLoose ni_X1 cd_X1_isLoose) rfl rfl rfl (by decide +kernel) ⟨Nat.le_of_ble_eq_true rfl, Nat.le_of_ble_eq_true rfl⟩) ⟨hb9, z_recvW X (q0 := 0) (ci := 1) (r := (RX1, TX1, 13)) rfl rfl hP9, hp9⟩ rfl rfl hl9.1 rfl (lv_room (Nat.le_of_ble_eq_true rfl)) dX1_settleLoose_82 ⟨Nat.le_of_ble_eq_true rfl, Nat.le_of_ble_eq_true rfl⟩) [] [0] rfl rfl rfl rfl rfl (by decide) (fun q h => h) (fun r1 w2 h3 => ?_)
  obtain ⟨rfl, rfl⟩ := h3
  refine z_eq (ws' := [(h0, .inr (1, [.int k0, q01, q02, .null, .null, .int v0, .int (nI f0), .int (nI d0), .int (nI l0), .int (nI u0), .int (nI w0), .int (nI x0), .int (-1)]))]) (lv' := [(0, .ref h0), (1, .int (nI num))]) (st' := [.int 0]) rfl rfl rfl ?_
  refine z_widen (k' := 0) (n' := 0) (Nat.le_refl _) (Nat.le_refl _) ?_
  refine z_if_eq X (tgt := 93) dX1_settleLoose_85 (by decide) (fun c_85 => ?_) (fun c9 => absurd (by decide) c9)
  exact z_endv X hr [(h0, .inr (1, [.int k0, q01, q02, .null, .null, .int v0, .int (nI f0), .int (nI d0), .int (nI l0), .int (nI u0), .int (nI w0), .int (nI x0), .int (-1)]))] [0] rfl rfl rfl rfl dX1_settleLoose_93
set_option maxHeartbeats 4000000 in
set_option maxRecDepth 100000 in
/-- settleLoose(number) of NOT -/
theorem m_settle_not (l : Launch) (D : va_G) (cy : Nat → ClassId) (O : Nat × va_E → Prop) {h0 f0 d0 l0 u0 w0 x0 : Nat} {q01 q02 : Value} {o0 : Int32} {num : Nat} {k0 v0 : Int32} (hk5 : ¬ k0 = 5) (hk6 : ¬ k0 = 6) {a5 f5 d5 l5 u5 w5 x5 : Nat} {p51 p52 p53 p54 : Value} {k5 v5 : Int32} {o5 : Option Nat} (h5 : O (a5, .inr (1, [.int k5, p51, p52, p53, p54, .int v5, .int (nI f5), .int (nI d5), .int (nI l5), .int (nI u5), .int (nI w5), .int (nI x5), .int (oI o5)]))) (ho5 : ∀ j, o5 = some j → j < 2 ^ 31) : Cv l yX1_settleLoose (.code yX1_settleLoose cX1_settleLoose 2 none :: WALL) ({ frames := 2, cells := 0, slots := 0, locals := 41 }) D cy O [.ref h0, .int (nI num)] [(h0, .inr (1, [.int k0, q01, q02, .ref a5, .null, .int v0, .int (nI f0), .int (nI d0), .int (nI l0), .int (nI u0), .int (nI w0), .int (nI x0), .int o0]))] 0 0 (fun (w : va_W) => w = [(h0, .inr (1, [.int k0, q01, q02, .ref a5, .null, .int v0, .int (nI f0), .int (nI d0), .int (nI l0), .int (nI u0), .int (nI w0), .int (nI x0), .int (oI o5)]))]) := by
  refine z_metv (by decide) rfl rfl (Nat.le_of_ble_eq_true rfl) ?_
  intro p e s m args below meth c X hr hin
  refine z_eq (ws' := [(h0, .inr (1, [.int k0, q01, q02, .ref a5, .null, .int v0, .int (nI f0), .int (nI d0), .int (nI l0), .int (nI u0), .int (nI w0), .int (nI x0), .int o0]))]) (lv' := [(0, .ref h0), (1, .int (nI num))]) (st' := []) rfl rfl rfl ?_
  refine z_aload_n X dX1_settleLoose_0 rfl (j := 0) rfl ?_
  refine z_aload_n X dX1_settleLoose_1 rfl (j := 0) rfl ?_
  refine z_getW X 0 (C := RX1) (T := TX1) (N := 13) inX1 rfl rfl 3 (by decide) fl_X1_19 (fun _ h9 => h9) rfl dX1_settleLoose_2 ?_
  refine z_ifnonnullR X (tgt := 12) dX1_settleLoose_5 (by decide) ?_
  refine z_aload_n X dX1_settleLoose_12 rfl (j := 0) rfl ?_
  refine z_getW X 0 (C := RX1) (T := TX1) (N := 13) inX1 rfl rfl 3 (by decide) fl_X1_19 (fun _ h9 => h9) rfl dX1_settleLoose_13 ?_
  refine z_getO X (ci := 1) (C := RX1) (T := TX1) (N := 13) inX1 h5 rfl 12 (by decide) fl_X1_48 (fun _ h9 => h9) rfl dX1_settleLoose_16 ?_
  refine z_putW X 0 (C := RX1) (T := TX1) (N := 13) inX1 tyX1 tyX1_ok nmX1 rfl rfl 12 (by decide) fl_X1_48 (fun _ h9 => h9) rfl (ty := .int) (by decide +kernel) rfl rfl (Nat.le_of_ble_eq_true rfl) (ws' := [(h0, .inr (1, [.int k0, q01, q02, .ref a5, .null, .int v0, .int (nI f0), .int (nI d0), .int (nI l0), .int (nI u0), .int (nI w0), .int (nI x0), .int (oI o5)]))]) rfl dX1_settleLoose_19 ?_
  refine z_aload_n X dX1_settleLoose_22 rfl (j := 0) rfl ?_
  refine z_getW X 0 (C := RX1) (T := TX1) (N := 13) inX1 rfl rfl 4 (by decide) fl_X1_23 (fun _ h9 => h9) rfl dX1_settleLoose_23 ?_
  refine z_ifnullN X (tgt := 74) dX1_settleLoose_26 (by decide) ?_
  refine z_aload_n X dX1_settleLoose_74 rfl (j := 0) rfl ?_
  refine z_getW X 0 (C := RX1) (T := TX1) (N := 13) inX1 rfl rfl 12 (by decide) fl_X1_48 (fun _ h9 => h9) rfl dX1_settleLoose_75 ?_
  refine z_if_ge X (tgt := 93) dX1_settleLoose_78 (by decide) (fun c_78 => ?_) (fun c_78 => ?_)
  · skip
    exact z_endv X hr [(h0, .inr (1, [.int k0, q01, q02, .ref a5, .null, .int v0, .int (nI f0), .int (nI d0), .int (nI l0), .int (nI u0), .int (nI w0), .int (nI x0), .int (oI o5)]))] [0] rfl rfl rfl rfl dX1_settleLoose_93
  · skip
    refine z_aload_n X dX1_settleLoose_81 rfl (j := 0) rfl ?_
    refine z_reti X (as := [.ref h0]) (wc := []) (wr := [(h0, .inr (1, [.int k0, q01, q02, .ref a5, .null, .int v0, .int (nI f0), .int (nI d0), .int (nI l0), .int (nI u0), .int (nI w0), .int (nI x0), .int (oI o5)]))]) (rest := []) (fun H9 locs9 ls9 hP9 hS9 hl9 hb9 hp9 => va_runV (As := []) (rest := []) X.fix (m_isLoose_no l D cy (fun q => O q ∨ q ∈ ([(h0, .inr (1, [.int k0, q01, q02, .ref a5, .null, .int v0, .int (nI f0), .int (nI d0), .int (nI l0), .int (nI u0), .int (nI w0), .int (nI x0), .int (oI o5)]))] : va_W)) (Or.inr (List.mem_of_getElem? (i := 0) rfl)) hk5 hk6 H9.size) (cwV 0 X.hts (gV ml_X1_91 im_X1_isLoose se_X1_isLoose ni_X1 cd_X1_isLoose) rfl rfl rfl (by decide +kernel) ⟨Nat.le_of_ble_eq_true rfl, Nat.le_of_ble_eq_true rfl⟩) ⟨hb9, z_recvW X (q0 := 0) (ci := 1) (r := (RX1, TX1, 13)) rfl rfl hP9, hp9⟩ rfl rfl hl9.1 rfl (lv_room (Nat.le_of_ble_eq_true rfl)) dX1_settleLoose_82 ⟨Nat.le_of_ble_eq_true rfl, Nat.le_of_ble_eq_true rfl⟩) [] [0] rfl rfl rfl rfl rfl (by decide) (fun q h => h) (fun r1 w2 h3 => ?_)
    obtain ⟨rfl, rfl⟩ := h3
    refine z_eq (ws' := [(h0, .inr (1, [.int k0, q01, q02, .ref a5, .null, .int v0, .int (nI f0), .int (nI d0), .int (nI l0), .int (nI u0), .int (nI w0), .int (nI x0), .int (oI o5)]))]) (lv' := [(0, .ref h0), (1, .int (nI num))]) (st' := [.int 0]) rfl rfl rfl ?_
    refine z_widen (k' := 0) (n' := 0) (Nat.le_refl _) (Nat.le_refl _) ?_
    refine z_if_eq X (tgt := 93) dX1_settleLoose_85 (by decide) (fun c_85 => ?_) (fun c9 => absurd (by decide) c9)
    exact z_endv X hr [(h0, .inr (1, [.int k0, q01, q02, .ref a5, .null, .int v0, .int (nI f0), .int (nI d0), .int (nI l0), .int (nI u0), .int (nI w0), .int (nI x0), .int (oI o5)]))] [0] rfl rfl rfl rfl dX1_settleLoose_93
theorem lt_of_not_ge0 {x : Int32} (h : ¬ 0 ≤ x) : x < 0 := by
  rcases Int32.lt_or_le x 0 with z | z
  · exact z
  · exact absurd z h
set_option maxHeartbeats 4000000 in
set_option maxRecDepth 100000 in
/-- settleLoose(number) of BOTH and EITHER -/
theorem m_settle_two (l : Launch) (D : va_G) (cy : Nat → ClassId) (O : Nat × va_E → Prop) {h0 f0 d0 l0 u0 w0 x0 : Nat} {q01 q02 : Value} {o0 : Int32} {num : Nat} {k0 v0 : Int32} (hk5 : ¬ k0 = 5) (hk6 : ¬ k0 = 6) {a5 f5 d5 l5 u5 w5 x5 : Nat} {p51 p52 p53 p54 : Value} {k5 v5 : Int32} {o5 : Option Nat} (h5 : O (a5, .inr (1, [.int k5, p51, p52, p53, p54, .int v5, .int (nI f5), .int (nI d5), .int (nI l5), .int (nI u5), .int (nI w5), .int (nI x5), .int (oI o5)]))) (ho5 : ∀ j, o5 = some j → j < 2 ^ 31) {a6 f6 d6 l6 u6 w6 x6 : Nat} {p61 p62 p63 p64 : Value} {k6 v6 : Int32} {o6 : Option Nat} (h6 : O (a6, .inr (1, [.int k6, p61, p62, p63, p64, .int v6, .int (nI f6), .int (nI d6), .int (nI l6), .int (nI u6), .int (nI w6), .int (nI x6), .int (oI o6)]))) (ho6 : ∀ j, o6 = some j → j < 2 ^ 31) : Cv l yX1_settleLoose (.code yX1_settleLoose cX1_settleLoose 2 none :: WALL) ({ frames := 2, cells := 0, slots := 0, locals := 41 }) D cy O [.ref h0, .int (nI num)] [(h0, .inr (1, [.int k0, q01, q02, .ref a5, .ref a6, .int v0, .int (nI f0), .int (nI d0), .int (nI l0), .int (nI u0), .int (nI w0), .int (nI x0), .int o0]))] 0 0 (fun (w : va_W) => w = [(h0, .inr (1, [.int k0, q01, q02, .ref a5, .ref a6, .int v0, .int (nI f0), .int (nI d0), .int (nI l0), .int (nI u0), .int (nI w0), .int (nI x0), .int (oI (lo2 o5 o6))]))]) := by
  refine z_metv (by decide) rfl rfl (Nat.le_of_ble_eq_true rfl) ?_
  intro p e s m args below meth c X hr hin
  refine z_eq (ws' := [(h0, .inr (1, [.int k0, q01, q02, .ref a5, .ref a6, .int v0, .int (nI f0), .int (nI d0), .int (nI l0), .int (nI u0), .int (nI w0), .int (nI x0), .int o0]))]) (lv' := [(0, .ref h0), (1, .int (nI num))]) (st' := []) rfl rfl rfl ?_
  have T74 : Zz D (va_A [(h0, .inr (1, [.int k0, q01, q02, .ref a5, .ref a6, .int v0, .int (nI f0), .int (nI d0), .int (nI l0), .int (nI u0), .int (nI w0), .int (nI x0), .int o0]))] s.heap.size) 2 p l e ({ frames := 2, cells := 0, slots := 0, locals := 41 }) s m args below meth c (MQ below (va_Qv (fun (w : va_W) => w = [(h0, .inr (1, [.int k0, q01, q02, .ref a5, .ref a6, .int v0, .int (nI f0), .int (nI d0), .int (nI l0), .int (nI u0), .int (nI w0), .int (nI x0), .int (oI (lo2 o5 o6))]))]) (end_ D [(h0, .inr (1, [.int k0, q01, q02, .ref a5, .ref a6, .int v0, .int (nI f0), .int (nI d0), .int (nI l0), .int (nI u0), .int (nI w0), .int (nI x0), .int o0]))] s.heap.size) (va_A [(h0, .inr (1, [.int k0, q01, q02, .ref a5, .ref a6, .int v0, .int (nI f0), .int (nI d0), .int (nI l0), .int (nI u0), .int (nI w0), .int (nI x0), .int o0]))] s.heap.size)) args s 0 0 (va_A [(h0, .inr (1, [.int k0, q01, q02, .ref a5, .ref a6, .int v0, .int (nI f0), .int (nI d0), .int (nI l0), .int (nI u0), .int (nI w0), .int (nI x0), .int o0]))] s.heap.size)) [(h0, .inr (1, [.int k0, q01, q02, .ref a5, .ref a6, .int v0, .int (nI f0), .int (nI d0), .int (nI l0), .int (nI u0), .int (nI w0), .int (nI x0), .int (oI (lo2 o5 o6))]))] [(0, .ref h0), (1, .int (nI num))] 0 0 74 [] := by
    refine z_aload_n X dX1_settleLoose_74 rfl (j := 0) rfl ?_
    refine z_getW X 0 (C := RX1) (T := TX1) (N := 13) inX1 rfl rfl 12 (by decide) fl_X1_48 (fun _ h9 => h9) rfl dX1_settleLoose_75 ?_
    refine z_if_ge X (tgt := 93) dX1_settleLoose_78 (by decide) (fun c_78 => ?_) (fun c_78 => ?_)
    · skip
      exact z_endv X hr [(h0, .inr (1, [.int k0, q01, q02, .ref a5, .ref a6, .int v0, .int (nI f0), .int (nI d0), .int (nI l0), .int (nI u0), .int (nI w0), .int (nI x0), .int (oI (lo2 o5 o6))]))] [0] rfl rfl rfl rfl dX1_settleLoose_93
    · skip
      refine z_aload_n X dX1_settleLoose_81 rfl (j := 0) rfl ?_
      refine z_reti X (as := [.ref h0]) (wc := []) (wr := [(h0, .inr (1, [.int k0, q01, q02, .ref a5, .ref a6, .int v0, .int (nI f0), .int (nI d0), .int (nI l0), .int (nI u0), .int (nI w0), .int (nI x0), .int (oI (lo2 o5 o6))]))]) (rest := []) (fun H9 locs9 ls9 hP9 hS9 hl9 hb9 hp9 => va_runV (As := []) (rest := []) X.fix (m_isLoose_no l D cy (fun q => O q ∨ q ∈ ([(h0, .inr (1, [.int k0, q01, q02, .ref a5, .ref a6, .int v0, .int (nI f0), .int (nI d0), .int (nI l0), .int (nI u0), .int (nI w0), .int (nI x0), .int (oI (lo2 o5 o6))]))] : va_W)) (Or.inr (List.mem_of_getElem? (i := 0) rfl)) hk5 hk6 H9.size) (cwV 0 X.hts (gV ml_X1_91 im_X1_isLoose se_X1_isLoose ni_X1 cd_X1_isLoose) rfl rfl rfl (by decide +kernel) ⟨Nat.le_of_ble_eq_true rfl, Nat.le_of_ble_eq_true rfl⟩) ⟨hb9, z_recvW X (q0 := 0) (ci := 1) (r := (RX1, TX1, 13)) rfl rfl hP9, hp9⟩ rfl rfl hl9.1 rfl (lv_room (Nat.le_of_ble_eq_true rfl)) dX1_settleLoose_82 ⟨Nat.le_of_ble_eq_true rfl, Nat.le_of_ble_eq_true rfl⟩) [] [0] rfl rfl rfl rfl rfl (by decide) (fun q h => h) (fun r1 w2 h3 => ?_)
      obtain ⟨rfl, rfl⟩ := h3
      refine z_eq (ws' := [(h0, .inr (1, [.int k0, q01, q02, .ref a5, .ref a6, .int v0, .int (nI f0), .int (nI d0), .int (nI l0), .int (nI u0), .int (nI w0), .int (nI x0), .int (oI (lo2 o5 o6))]))]) (lv' := [(0, .ref h0), (1, .int (nI num))]) (st' := [.int 0]) rfl rfl rfl ?_
      refine z_widen (k' := 0) (n' := 0) (Nat.le_refl _) (Nat.le_refl _) ?_
      refine z_if_eq X (tgt := 93) dX1_settleLoose_85 (by decide) (fun c_85 => ?_) (fun c9 => absurd (by decide) c9)
      exact z_endv X hr [(h0, .inr (1, [.int k0, q01, q02, .ref a5, .ref a6, .int v0, .int (nI f0), .int (nI d0), .int (nI l0), .int (nI u0), .int (nI w0), .int (nI x0), .int (oI (lo2 o5 o6))]))] [0] rfl rfl rfl rfl dX1_settleLoose_93
  refine z_aload_n X dX1_settleLoose_0 rfl (j := 0) rfl ?_
  refine z_aload_n X dX1_settleLoose_1 rfl (j := 0) rfl ?_
  refine z_getW X 0 (C := RX1) (T := TX1) (N := 13) inX1 rfl rfl 3 (by decide) fl_X1_19 (fun _ h9 => h9) rfl dX1_settleLoose_2 ?_
  refine z_ifnonnullR X (tgt := 12) dX1_settleLoose_5 (by decide) ?_
  refine z_aload_n X dX1_settleLoose_12 rfl (j := 0) rfl ?_
  refine z_getW X 0 (C := RX1) (T := TX1) (N := 13) inX1 rfl rfl 3 (by decide) fl_X1_19 (fun _ h9 => h9) rfl dX1_settleLoose_13 ?_
  refine z_getO X (ci := 1) (C := RX1) (T := TX1) (N := 13) inX1 h5 rfl 12 (by decide) fl_X1_48 (fun _ h9 => h9) rfl dX1_settleLoose_16 ?_
  refine z_putW X 0 (C := RX1) (T := TX1) (N := 13) inX1 tyX1 tyX1_ok nmX1 rfl rfl 12 (by decide) fl_X1_48 (fun _ h9 => h9) rfl (ty := .int) (by decide +kernel) rfl rfl (Nat.le_of_ble_eq_true rfl) (ws' := [(h0, .inr (1, [.int k0, q01, q02, .ref a5, .ref a6, .int v0, .int (nI f0), .int (nI d0), .int (nI l0), .int (nI u0), .int (nI w0), .int (nI x0), .int (oI o5)]))]) rfl dX1_settleLoose_19 ?_
  refine z_aload_n X dX1_settleLoose_22 rfl (j := 0) rfl ?_
  refine z_getW X 0 (C := RX1) (T := TX1) (N := 13) inX1 rfl rfl 4 (by decide) fl_X1_23 (fun _ h9 => h9) rfl dX1_settleLoose_23 ?_
  refine z_ifnullR X dX1_settleLoose_26 ?_
  refine z_aload_n X dX1_settleLoose_29 rfl (j := 0) rfl ?_
  refine z_getW X 0 (C := RX1) (T := TX1) (N := 13) inX1 rfl rfl 4 (by decide) fl_X1_23 (fun _ h9 => h9) rfl dX1_settleLoose_30 ?_
  refine z_getO X (ci := 1) (C := RX1) (T := TX1) (N := 13) inX1 h6 rfl 12 (by decide) fl_X1_48 (fun _ h9 => h9) rfl dX1_settleLoose_33 ?_
  refine z_if_lt X (tgt := 74) dX1_settleLoose_36 (by decide) (fun c_36 => ?_) (fun c_36 => ?_)
  · skip
    refine z_eq (ws' := [(h0, .inr (1, [.int k0, q01, q02, .ref a5, .ref a6, .int v0, .int (nI f0), .int (nI d0), .int (nI l0), .int (nI u0), .int (nI w0), .int (nI x0), .int (oI (lo2 o5 o6))]))]) (lv' := [(0, .ref h0), (1, .int (nI num))]) (st' := []) (by rw [oI_neg ho6 c_36]; cases o5 <;> rfl) rfl rfl ?_
    exact T74
  · skip
    refine z_aload_n X dX1_settleLoose_39 rfl (j := 0) rfl ?_
    refine z_aload_n X dX1_settleLoose_40 rfl (j := 0) rfl ?_
    refine z_getW X 0 (C := RX1) (T := TX1) (N := 13) inX1 rfl rfl 12 (by decide) fl_X1_48 (fun _ h9 => h9) rfl dX1_settleLoose_41 ?_
    refine z_if_ge X (tgt := 57) dX1_settleLoose_44 (by decide) (fun c_44 => ?_) (fun c_44 => ?_)
    · skip
      refine z_aload_n X dX1_settleLoose_57 rfl (j := 0) rfl ?_
      refine z_getW X 0 (C := RX1) (T := TX1) (N := 13) inX1 rfl rfl 12 (by decide) fl_X1_48 (fun _ h9 => h9) rfl dX1_settleLoose_58 ?_
      refine z_aload_n X dX1_settleLoose_61 rfl (j := 0) rfl ?_
      refine z_getW X 0 (C := RX1) (T := TX1) (N := 13) inX1 rfl rfl 4 (by decide) fl_X1_23 (fun _ h9 => h9) rfl dX1_settleLoose_62 ?_
      refine z_getO X (ci := 1) (C := RX1) (T := TX1) (N := 13) inX1 h6 rfl 12 (by decide) fl_X1_48 (fun _ h9 => h9) rfl dX1_settleLoose_65 ?_
      refine z_reti X (as := [.int (oI o5), .int (oI o6)]) (wc := []) (wr := [(h0, .inr (1, [.int k0, q01, q02, .ref a5, .ref a6, .int v0, .int (nI f0), .int (nI d0), .int (nI l0), .int (nI u0), .int (nI w0), .int (nI x0), .int (oI o5)]))]) (rest := [.ref h0]) (fun H9 locs9 ls9 hP9 hS9 hl9 hb9 hp9 => va_runS (As := [.int (oI o5), .int (oI o6)]) (rest := [.ref h0]) X.fix (m_min l D cy O (oI o5) (oI o6) H9.size) (va_cwS 2 X.hts (gS ml_X1_88 sm_J9_min_7cf53 ni_J9 cd_J9_min_7cf53) rfl rfl rfl (by decide +kernel) ⟨Nat.le_of_ble_eq_true rfl, Nat.le_of_ble_eq_true rfl⟩) ⟨hb9, hp9⟩ rfl rfl hl9.1 rfl (lv_room (Nat.le_of_ble_eq_true rfl)) dX1_settleLoose_68 ⟨Nat.le_of_ble_eq_true rfl, Nat.le_of_ble_eq_true rfl⟩) [] [0] rfl rfl rfl rfl rfl (by decide) (fun _ h => Or.inl h) (fun r4 w5 h6 => ?_)
      obtain ⟨rfl, rfl⟩ := h6
      obtain ⟨j5, e5⟩ := (oI_le ho5).mp c_44
      obtain ⟨j6, e6⟩ := oI_pos c_36
      rw [show (if oI o6 < oI o5 then oI o6 else oI o5) = oI (lo2 o5 o6) from by rw [e5, e6]; exact min_nI (ho5 _ e5) (ho6 _ e6)]
      refine z_eq (ws' := [(h0, .inr (1, [.int k0, q01, q02, .ref a5, .ref a6, .int v0, .int (nI f0), .int (nI d0), .int (nI l0), .int (nI u0), .int (nI w0), .int (nI x0), .int (oI o5)]))]) (lv' := [(0, .ref h0), (1, .int (nI num))]) (st' := [.int (oI (lo2 o5 o6)), .ref h0]) rfl rfl rfl ?_
      refine z_widen (k' := 0) (n' := 0) (Nat.le_refl _) (Nat.le_refl _) ?_
      refine z_putW X 0 (C := RX1) (T := TX1) (N := 13) inX1 tyX1 tyX1_ok nmX1 rfl rfl 12 (by decide) fl_X1_48 (fun _ h9 => h9) rfl (ty := .int) (by decide +kernel) rfl rfl (Nat.le_of_ble_eq_true rfl) (ws' := [(h0, .inr (1, [.int k0, q01, q02, .ref a5, .ref a6, .int v0, .int (nI f0), .int (nI d0), .int (nI l0), .int (nI u0), .int (nI w0), .int (nI x0), .int (oI (lo2 o5 o6))]))]) rfl dX1_settleLoose_71 ?_
      refine z_eq (ws' := [(h0, .inr (1, [.int k0, q01, q02, .ref a5, .ref a6, .int v0, .int (nI f0), .int (nI d0), .int (nI l0), .int (nI u0), .int (nI w0), .int (nI x0), .int (oI (lo2 o5 o6))]))]) (lv' := [(0, .ref h0), (1, .int (nI num))]) (st' := []) rfl rfl rfl ?_
      exact T74
    · skip
      refine z_aload_n X dX1_settleLoose_47 rfl (j := 0) rfl ?_
      refine z_getW X 0 (C := RX1) (T := TX1) (N := 13) inX1 rfl rfl 4 (by decide) fl_X1_23 (fun _ h9 => h9) rfl dX1_settleLoose_48 ?_
      refine z_getO X (ci := 1) (C := RX1) (T := TX1) (N := 13) inX1 h6 rfl 12 (by decide) fl_X1_48 (fun _ h9 => h9) rfl dX1_settleLoose_51 ?_
      refine z_goto X (tgt := 71) dX1_settleLoose_54 (by decide) ?_
      have e5 := oI_neg ho5 (lt_of_not_ge0 c_44)
      refine z_eq (ws' := [(h0, .inr (1, [.int k0, q01, q02, .ref a5, .ref a6, .int v0, .int (nI f0), .int (nI d0), .int (nI l0), .int (nI u0), .int (nI w0), .int (nI x0), .int (oI o5)]))]) (lv' := [(0, .ref h0), (1, .int (nI num))]) (st' := [.int (oI (lo2 o5 o6)), .ref h0]) rfl rfl (by rw [e5]; rfl) ?_
      refine z_putW X 0 (C := RX1) (T := TX1) (N := 13) inX1 tyX1 tyX1_ok nmX1 rfl rfl 12 (by decide) fl_X1_48 (fun _ h9 => h9) rfl (ty := .int) (by decide +kernel) rfl rfl (Nat.le_of_ble_eq_true rfl) (ws' := [(h0, .inr (1, [.int k0, q01, q02, .ref a5, .ref a6, .int v0, .int (nI f0), .int (nI d0), .int (nI l0), .int (nI u0), .int (nI w0), .int (nI x0), .int (oI (lo2 o5 o6))]))]) rfl dX1_settleLoose_71 ?_
      refine z_eq (ws' := [(h0, .inr (1, [.int k0, q01, q02, .ref a5, .ref a6, .int v0, .int (nI f0), .int (nI d0), .int (nI l0), .int (nI u0), .int (nI w0), .int (nI x0), .int (oI (lo2 o5 o6))]))]) (lv' := [(0, .ref h0), (1, .int (nI num))]) (st' := []) rfl rfl rfl ?_
      exact T74
set_option maxHeartbeats 4000000 in
set_option maxRecDepth 100000 in
/-- settleLoose(number) -/
theorem m_settle_some (l : Launch) (D : va_G) (cy : Nat → ClassId) (O : Nat × va_E → Prop) {h0 f0 d0 l0 u0 w0 x0 : Nat} {q01 q02 : Value} {o0 : Int32} {num : Nat} {y0 : Nat} {a5 f5 d5 l5 u5 w5 x5 : Nat} {p51 p52 p53 p54 : Value} {k5 v5 : Int32} {o5 : Option Nat} (h5 : O (a5, .inr (1, [.int k5, p51, p52, p53, p54, .int v5, .int (nI f5), .int (nI d5), .int (nI l5), .int (nI u5), .int (nI w5), .int (nI x5), .int (oI o5)]))) (ho5 : ∀ j, o5 = some j → j < 2 ^ 31) (hu : u5 < 2 ^ 31) (hy : y0 < 32) : Cv l yX1_settleLoose (.code yX1_settleLoose cX1_settleLoose 2 none :: WALL) ({ frames := 2, cells := 0, slots := 0, locals := 41 }) D cy O [.ref h0, .int (nI num)] [(h0, .inr (1, [.int 5, q01, q02, .ref a5, .null, .int (nI y0), .int (nI f0), .int (nI d0), .int (nI l0), .int (nI u0), .int (nI w0), .int (nI x0), .int o0]))] 0 0 (fun (w : va_W) => w = [(h0, .inr (1, [.int 5, q01, q02, .ref a5, .null, .int (nI y0), .int (nI f0), .int (nI d0), .int (nI l0), .int (nI u0), .int (nI w0), .int (nI x0), .int (oI (loQ o5 (!u5.testBit y0) num))]))]) := by
  refine z_metv (by decide) rfl rfl (Nat.le_of_ble_eq_true rfl) ?_
  intro p e s m args below meth c X hr hin
  refine z_eq (ws' := [(h0, .inr (1, [.int 5, q01, q02, .ref a5, .null, .int (nI y0), .int (nI f0), .int (nI d0), .int (nI l0), .int (nI u0), .int (nI w0), .int (nI x0), .int o0]))]) (lv' := [(0, .ref h0), (1, .int (nI num))]) (st' := []) rfl rfl rfl ?_
  refine z_aload_n X dX1_settleLoose_0 rfl (j := 0) rfl ?_
  refine z_aload_n X dX1_settleLoose_1 rfl (j := 0) rfl ?_
  refine z_getW X 0 (C := RX1) (T := TX1) (N := 13) inX1 rfl rfl 3 (by decide) fl_X1_19 (fun _ h9 => h9) rfl dX1_settleLoose_2 ?_
  refine z_ifnonnullR X (tgt := 12) dX1_settleLoose_5 (by decide) ?_
  refine z_aload_n X dX1_settleLoose_12 rfl (j := 0) rfl ?_
  refine z_getW X 0 (C := RX1) (T := TX1) (N := 13) inX1 rfl rfl 3 (by decide) fl_X1_19 (fun _ h9 => h9) rfl dX1_settleLoose_13 ?_
  refine z_getO X (ci := 1) (C := RX1) (T := TX1) (N := 13) inX1 h5 rfl 12 (by decide) fl_X1_48 (fun _ h9 => h9) rfl dX1_settleLoose_16 ?_
  refine z_putW X 0 (C := RX1) (T := TX1) (N := 13) inX1 tyX1 tyX1_ok nmX1 rfl rfl 12 (by decide) fl_X1_48 (fun _ h9 => h9) rfl (ty := .int) (by decide +kernel) rfl rfl (Nat.le_of_ble_eq_true rfl) (ws' := [(h0, .inr (1, [.int 5, q01, q02, .ref a5, .null, .int (nI y0), .int (nI f0), .int (nI d0), .int (nI l0), .int (nI u0), .int (nI w0), .int (nI x0), .int (oI o5)]))]) rfl dX1_settleLoose_19 ?_
  refine z_aload_n X dX1_settleLoose_22 rfl (j := 0) rfl ?_
  refine z_getW X 0 (C := RX1) (T := TX1) (N := 13) inX1 rfl rfl 4 (by decide) fl_X1_23 (fun _ h9 => h9) rfl dX1_settleLoose_23 ?_
  refine z_ifnullN X (tgt := 74) dX1_settleLoose_26 (by decide) ?_
  refine z_aload_n X dX1_settleLoose_74 rfl (j := 0) rfl ?_
  refine z_getW X 0 (C := RX1) (T := TX1) (N := 13) inX1 rfl rfl 12 (by decide) fl_X1_48 (fun _ h9 => h9) rfl dX1_settleLoose_75 ?_
  refine z_if_ge X (tgt := 93) dX1_settleLoose_78 (by decide) (fun c_78 => ?_) (fun c_78 => ?_)
  · skip
    exact z_endv X hr [(h0, .inr (1, [.int 5, q01, q02, .ref a5, .null, .int (nI y0), .int (nI f0), .int (nI d0), .int (nI l0), .int (nI u0), .int (nI w0), .int (nI x0), .int (oI o5)]))] [0] rfl rfl rfl (by obtain ⟨j5, e5⟩ := (oI_le ho5).mp c_78; rw [e5]; rfl) dX1_settleLoose_93
  · skip
    refine z_aload_n X dX1_settleLoose_81 rfl (j := 0) rfl ?_
    have e5 := oI_neg ho5 (lt_of_not_ge0 c_78)
    refine z_reti X (as := [.ref h0]) (wc := []) (wr := [(h0, .inr (1, [.int 5, q01, q02, .ref a5, .null, .int (nI y0), .int (nI f0), .int (nI d0), .int (nI l0), .int (nI u0), .int (nI w0), .int (nI x0), .int (oI o5)]))]) (rest := []) (fun H9 locs9 ls9 hP9 hS9 hl9 hb9 hp9 => va_runV (As := []) (rest := []) X.fix (m_isLoose_some l D cy (fun q => O q ∨ q ∈ ([(h0, .inr (1, [.int 5, q01, q02, .ref a5, .null, .int (nI y0), .int (nI f0), .int (nI d0), .int (nI l0), .int (nI u0), .int (nI w0), .int (nI x0), .int (oI o5)]))] : va_W)) (Or.inl h5) (Or.inr (List.mem_of_getElem? (i := 0) rfl)) hu hy H9.size) (cwV 0 X.hts (gV ml_X1_91 im_X1_isLoose se_X1_isLoose ni_X1 cd_X1_isLoose) rfl rfl rfl (by decide +kernel) ⟨Nat.le_of_ble_eq_true rfl, Nat.le_of_ble_eq_true rfl⟩) ⟨hb9, z_recvW X (q0 := 0) (ci := 1) (r := (RX1, TX1, 13)) rfl rfl hP9, hp9⟩ rfl rfl hl9.1 rfl (lv_room (Nat.le_of_ble_eq_true rfl)) dX1_settleLoose_82 ⟨Nat.le_of_ble_eq_true rfl, Nat.le_of_ble_eq_true rfl⟩) [] [0] rfl rfl rfl rfl rfl (by decide) (fun q h => h) (fun r1 w2 h3 => ?_)
    obtain ⟨rfl, rfl⟩ := h3
    refine z_eq (ws' := [(h0, .inr (1, [.int 5, q01, q02, .ref a5, .null, .int (nI y0), .int (nI f0), .int (nI d0), .int (nI l0), .int (nI u0), .int (nI w0), .int (nI x0), .int (oI o5)]))]) (lv' := [(0, .ref h0), (1, .int (nI num))]) (st' := [.int (if u5.testBit y0 then 0 else 1)]) rfl rfl rfl ?_
    refine z_widen (k' := 0) (n' := 0) (Nat.le_refl _) (Nat.le_refl _) ?_
    refine z_if_eq X (tgt := 93) dX1_settleLoose_85 (by decide) (fun c_85 => ?_) (fun c_85 => ?_)
    · skip
      exact z_endv X hr [(h0, .inr (1, [.int 5, q01, q02, .ref a5, .null, .int (nI y0), .int (nI f0), .int (nI d0), .int (nI l0), .int (nI u0), .int (nI w0), .int (nI x0), .int (oI o5)]))] [0] rfl rfl rfl (by rw [← loQ_t e5 c_85]) dX1_settleLoose_93
    · skip
      refine z_aload_n X dX1_settleLoose_88 rfl (j := 0) rfl ?_
      refine z_iload_n X dX1_settleLoose_89 rfl (j := 1) rfl ?_
      refine z_putW X 0 (C := RX1) (T := TX1) (N := 13) inX1 tyX1 tyX1_ok nmX1 rfl rfl 12 (by decide) fl_X1_48 (fun _ h9 => h9) rfl (ty := .int) (by decide +kernel) rfl rfl (Nat.le_of_ble_eq_true rfl) (ws' := [(h0, .inr (1, [.int 5, q01, q02, .ref a5, .null, .int (nI y0), .int (nI f0), .int (nI d0), .int (nI l0), .int (nI u0), .int (nI w0), .int (nI x0), .int (nI num)]))]) rfl dX1_settleLoose_90 ?_
      exact z_endv X hr [(h0, .inr (1, [.int 5, q01, q02, .ref a5, .null, .int (nI y0), .int (nI f0), .int (nI d0), .int (nI l0), .int (nI u0), .int (nI w0), .int (nI x0), .int (nI num)]))] [0] rfl rfl rfl (by rw [← loQ_f e5 c_85]) dX1_settleLoose_93
set_option maxHeartbeats 4000000 in
set_option maxRecDepth 100000 in
/-- settleLoose(number) -/
theorem m_settle_every (l : Launch) (D : va_G) (cy : Nat → ClassId) (O : Nat × va_E → Prop) {h0 f0 d0 l0 u0 w0 x0 : Nat} {q01 q02 : Value} {o0 : Int32} {num : Nat} {y0 : Nat} {a5 f5 d5 l5 u5 w5 x5 : Nat} {p51 p52 p53 p54 : Value} {k5 v5 : Int32} {o5 : Option Nat} (h5 : O (a5, .inr (1, [.int k5, p51, p52, p53, p54, .int v5, .int (nI f5), .int (nI d5), .int (nI l5), .int (nI u5), .int (nI w5), .int (nI x5), .int (oI o5)]))) (ho5 : ∀ j, o5 = some j → j < 2 ^ 31) (hu : w5 < 2 ^ 31) (hy : y0 < 32) : Cv l yX1_settleLoose (.code yX1_settleLoose cX1_settleLoose 2 none :: WALL) ({ frames := 2, cells := 0, slots := 0, locals := 41 }) D cy O [.ref h0, .int (nI num)] [(h0, .inr (1, [.int 6, q01, q02, .ref a5, .null, .int (nI y0), .int (nI f0), .int (nI d0), .int (nI l0), .int (nI u0), .int (nI w0), .int (nI x0), .int o0]))] 0 0 (fun (w : va_W) => w = [(h0, .inr (1, [.int 6, q01, q02, .ref a5, .null, .int (nI y0), .int (nI f0), .int (nI d0), .int (nI l0), .int (nI u0), .int (nI w0), .int (nI x0), .int (oI (loQ o5 (!w5.testBit y0) num))]))]) := by
  refine z_metv (by decide) rfl rfl (Nat.le_of_ble_eq_true rfl) ?_
  intro p e s m args below meth c X hr hin
  refine z_eq (ws' := [(h0, .inr (1, [.int 6, q01, q02, .ref a5, .null, .int (nI y0), .int (nI f0), .int (nI d0), .int (nI l0), .int (nI u0), .int (nI w0), .int (nI x0), .int o0]))]) (lv' := [(0, .ref h0), (1, .int (nI num))]) (st' := []) rfl rfl rfl ?_
  refine z_aload_n X dX1_settleLoose_0 rfl (j := 0) rfl ?_
  refine z_aload_n X dX1_settleLoose_1 rfl (j := 0) rfl ?_
  refine z_getW X 0 (C := RX1) (T := TX1) (N := 13) inX1 rfl rfl 3 (by decide) fl_X1_19 (fun _ h9 => h9) rfl dX1_settleLoose_2 ?_
  refine z_ifnonnullR X (tgt := 12) dX1_settleLoose_5 (by decide) ?_
  refine z_aload_n X dX1_settleLoose_12 rfl (j := 0) rfl ?_
  refine z_getW X 0 (C := RX1) (T := TX1) (N := 13) inX1 rfl rfl 3 (by decide) fl_X1_19 (fun _ h9 => h9) rfl dX1_settleLoose_13 ?_
  refine z_getO X (ci := 1) (C := RX1) (T := TX1) (N := 13) inX1 h5 rfl 12 (by decide) fl_X1_48 (fun _ h9 => h9) rfl dX1_settleLoose_16 ?_
  refine z_putW X 0 (C := RX1) (T := TX1) (N := 13) inX1 tyX1 tyX1_ok nmX1 rfl rfl 12 (by decide) fl_X1_48 (fun _ h9 => h9) rfl (ty := .int) (by decide +kernel) rfl rfl (Nat.le_of_ble_eq_true rfl) (ws' := [(h0, .inr (1, [.int 6, q01, q02, .ref a5, .null, .int (nI y0), .int (nI f0), .int (nI d0), .int (nI l0), .int (nI u0), .int (nI w0), .int (nI x0), .int (oI o5)]))]) rfl dX1_settleLoose_19 ?_
  refine z_aload_n X dX1_settleLoose_22 rfl (j := 0) rfl ?_
  refine z_getW X 0 (C := RX1) (T := TX1) (N := 13) inX1 rfl rfl 4 (by decide) fl_X1_23 (fun _ h9 => h9) rfl dX1_settleLoose_23 ?_
  refine z_ifnullN X (tgt := 74) dX1_settleLoose_26 (by decide) ?_
  refine z_aload_n X dX1_settleLoose_74 rfl (j := 0) rfl ?_
  refine z_getW X 0 (C := RX1) (T := TX1) (N := 13) inX1 rfl rfl 12 (by decide) fl_X1_48 (fun _ h9 => h9) rfl dX1_settleLoose_75 ?_
  refine z_if_ge X (tgt := 93) dX1_settleLoose_78 (by decide) (fun c_78 => ?_) (fun c_78 => ?_)
  · skip
    exact z_endv X hr [(h0, .inr (1, [.int 6, q01, q02, .ref a5, .null, .int (nI y0), .int (nI f0), .int (nI d0), .int (nI l0), .int (nI u0), .int (nI w0), .int (nI x0), .int (oI o5)]))] [0] rfl rfl rfl (by obtain ⟨j5, e5⟩ := (oI_le ho5).mp c_78; rw [e5]; rfl) dX1_settleLoose_93
  · skip
    refine z_aload_n X dX1_settleLoose_81 rfl (j := 0) rfl ?_
    have e5 := oI_neg ho5 (lt_of_not_ge0 c_78)
    refine z_reti X (as := [.ref h0]) (wc := []) (wr := [(h0, .inr (1, [.int 6, q01, q02, .ref a5, .null, .int (nI y0), .int (nI f0), .int (nI d0), .int (nI l0), .int (nI u0), .int (nI w0), .int (nI x0), .int (oI o5)]))]) (rest := []) (fun H9 locs9 ls9 hP9 hS9 hl9 hb9 hp9 => va_runV (As := []) (rest := []) X.fix (m_isLoose_every l D cy (fun q => O q ∨ q ∈ ([(h0, .inr (1, [.int 6, q01, q02, .ref a5, .null, .int (nI y0), .int (nI f0), .int (nI d0), .int (nI l0), .int (nI u0), .int (nI w0), .int (nI x0), .int (oI o5)]))] : va_W)) (Or.inl h5) (Or.inr (List.mem_of_getElem? (i := 0) rfl)) hu hy H9.size) (cwV 0 X.hts (gV ml_X1_91 im_X1_isLoose se_X1_isLoose ni_X1 cd_X1_isLoose) rfl rfl rfl (by decide +kernel) ⟨Nat.le_of_ble_eq_true rfl, Nat.le_of_ble_eq_true rfl⟩) ⟨hb9, z_recvW X (q0 := 0) (ci := 1) (r := (RX1, TX1, 13)) rfl rfl hP9, hp9⟩ rfl rfl hl9.1 rfl (lv_room (Nat.le_of_ble_eq_true rfl)) dX1_settleLoose_82 ⟨Nat.le_of_ble_eq_true rfl, Nat.le_of_ble_eq_true rfl⟩) [] [0] rfl rfl rfl rfl rfl (by decide) (fun q h => h) (fun r1 w2 h3 => ?_)
    obtain ⟨rfl, rfl⟩ := h3
    refine z_eq (ws' := [(h0, .inr (1, [.int 6, q01, q02, .ref a5, .null, .int (nI y0), .int (nI f0), .int (nI d0), .int (nI l0), .int (nI u0), .int (nI w0), .int (nI x0), .int (oI o5)]))]) (lv' := [(0, .ref h0), (1, .int (nI num))]) (st' := [.int (if w5.testBit y0 then 0 else 1)]) rfl rfl rfl ?_
    refine z_widen (k' := 0) (n' := 0) (Nat.le_refl _) (Nat.le_refl _) ?_
    refine z_if_eq X (tgt := 93) dX1_settleLoose_85 (by decide) (fun c_85 => ?_) (fun c_85 => ?_)
    · skip
      exact z_endv X hr [(h0, .inr (1, [.int 6, q01, q02, .ref a5, .null, .int (nI y0), .int (nI f0), .int (nI d0), .int (nI l0), .int (nI u0), .int (nI w0), .int (nI x0), .int (oI o5)]))] [0] rfl rfl rfl (by rw [← loQ_t e5 c_85]) dX1_settleLoose_93
    · skip
      refine z_aload_n X dX1_settleLoose_88 rfl (j := 0) rfl ?_
      refine z_iload_n X dX1_settleLoose_89 rfl (j := 1) rfl ?_
      refine z_putW X 0 (C := RX1) (T := TX1) (N := 13) inX1 tyX1 tyX1_ok nmX1 rfl rfl 12 (by decide) fl_X1_48 (fun _ h9 => h9) rfl (ty := .int) (by decide +kernel) rfl rfl (Nat.le_of_ble_eq_true rfl) (ws' := [(h0, .inr (1, [.int 6, q01, q02, .ref a5, .null, .int (nI y0), .int (nI f0), .int (nI d0), .int (nI l0), .int (nI u0), .int (nI w0), .int (nI x0), .int (nI num)]))]) rfl dX1_settleLoose_90 ?_
      exact z_endv X hr [(h0, .inr (1, [.int 6, q01, q02, .ref a5, .null, .int (nI y0), .int (nI f0), .int (nI d0), .int (nI l0), .int (nI u0), .int (nI w0), .int (nI x0), .int (nI num)]))] [0] rfl rfl rfl (by rw [← loQ_f e5 c_85]) dX1_settleLoose_93
