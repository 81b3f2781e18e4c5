/-- the cells of rule u, at b -/
def RuO (O : Nat × va_E → Prop) (cy : Nat → ClassId) (R : Nat → RRow) (rb : Nat → Nat) (rc b : Nat) (u : URow) : Prop := ∃ (hd aa : Nat) (F : Nat → Option Nat) (aA tA : Nat → Nat), O (b, .inr (6, [.ref hd, .ref aa, .int (nI u.2.2.1)])) ∧ TmO O cy hd u.1 u.2.1 ∧ O (aa, .inl (cy 5, 5, .inr (.inr (.inr (.inr F))))) ∧ u.1 ≤ 3 ∧ u.2.2.1 ≤ 5 ∧ ∀ k, k < u.2.2.1 → F k = some (aA k) ∧ u.2.2.2.1 k < rc ∧ O (aA k, .inr (0, [.ref (rb (u.2.2.2.1 k)), .ref (tA k)])) ∧ TmO O cy (tA k) (R (u.2.2.2.1 k)).1 (u.2.2.2.2 k)
theorem vin_lt {S : Nat} {vs : Nat → Nat} {w : Nat} (h : ∀ k, vs k < 2 ^ w) : ∀ n, vin S vs n < 2 ^ w
  | 0 => Nat.two_pow_pos w
  | n + 1 => by
    rw [vin]; split
    · exact Nat.or_lt_two_pow (vin_lt h n) (h n)
    · exact vin_lt h n
theorem uva_lt (R : Nat → RRow) (u : URow) (S : Nat) : uva R u S < 2 ^ 6 := vin_lt (fun k => vsf_lt _ _) _
theorem hd_no {S : Nat} {t t' : Nat → Nat} {pm : PM} {k : Nat} (h : hdM S t t' k pm = none) : ∀ {m}, k ≤ m → hdM S t t' m pm = none := by
  intro m hm
  induction m with
  | zero => rw [show k = 0 by omega] at h; exact h
  | succ m ih =>
    rcases Nat.lt_or_ge k (m + 1) with g | g
    · rw [hdM, ih (by omega)]
    · rw [show m + 1 = k by omega]; exact h
theorem Rep.zero (img : Nat → Int32) : Rep (fun _ => none) 0 img := ⟨by decide, fun v _ => ⟨by rw [Nat.zero_testBit]; rfl, fun t z => by cases z⟩⟩
/-- the search's cells, as they may be between two questions -/
def MsW (cy : Nat → ClassId) (sa im : Nat) (w : va_W) : Prop := ∃ (v1 v2 v3 v4 v5 : Value) (img : Nat → Int32), w = [(sa, .inr (3, [.ref im, v1, v2, v3, v4, v5])), (im, .inl (cy 0, 6, .inl img))]
theorem mfr_0 {R : Nat → RRow} {q pu : URow} {Aq Ap nx : Nat} {pm : PM} : mfr R q pu Aq Ap 0 nx pm = true := rfl
theorem mfr_n {R : Nat → RRow} {q pu : URow} {Aq Ap n nx : Nat} {pm : PM} (h : Aq.testBit nx = false) : mfr R q pu Aq Ap (n + 1) nx pm = mfr R q pu Aq Ap n (nx + 1) pm := by rw [mfr, if_neg (by rw [h]; decide)]
/-- atom k of p is tried for atom nx of q -/
def mtry (R : Nat → RRow) (q pu : URow) (Aq Ap n nx : Nat) (pm : PM) (k : Nat) : Bool := Ap.testBit k && (decide (q.2.2.2.1 nx = pu.2.2.2.1 k) && (match atmM (q.2.2.2.2 nx) (pu.2.2.2.2 k) (R (q.2.2.2.1 nx)).1 pm with
      | some pm' => mfr R q pu Aq Ap n (nx + 1) pm'
      | none => false))
theorem mfr_y {R : Nat → RRow} {q pu : URow} {Aq Ap n nx : Nat} {pm : PM} (h : Aq.testBit nx = true) : mfr R q pu Aq Ap (n + 1) nx pm = exB (mtry R q pu Aq Ap n nx pm) pu.2.2.1 := by rw [mfr, if_pos h]; rfl
theorem mtry_s {R : Nat → RRow} {q pu : URow} {Aq Ap n nx k : Nat} {pm pm' : PM} (h1 : Ap.testBit k = true) (h2 : q.2.2.2.1 nx = pu.2.2.2.1 k) (h3 : atmM (q.2.2.2.2 nx) (pu.2.2.2.2 k) (R (q.2.2.2.1 nx)).1 pm = some pm') : mtry R q pu Aq Ap n nx pm k = mfr R q pu Aq Ap n (nx + 1) pm' := by rw [mtry, h1, decide_eq_true h2, h3]; rfl
theorem mtry_f1 {R : Nat → RRow} {q pu : URow} {Aq Ap n nx k : Nat} {pm : PM} (h1 : Ap.testBit k = false) : mtry R q pu Aq Ap n nx pm k = false := by rw [mtry, h1]; rfl
theorem mtry_f2 {R : Nat → RRow} {q pu : URow} {Aq Ap n nx k : Nat} {pm : PM} (h : (decide (q.2.2.2.1 nx = pu.2.2.2.1 k) && (atmM (q.2.2.2.2 nx) (pu.2.2.2.2 k) (R (q.2.2.2.1 nx)).1 pm).isSome) = false) : mtry R q pu Aq Ap n nx pm k = false := by
  rw [mtry]
  cases e : decide (q.2.2.2.1 nx = pu.2.2.2.1 k)
  · simp
  · rw [e, Bool.true_and, Option.isSome_eq_false_iff, Option.isNone_iff_eq_none] at h
    rw [h]; simp
set_option maxHeartbeats 4000000 in
set_option maxRecDepth 100000 in
/-- mapsHead() -/
theorem m_mapsHead (l : Launch) (D : va_G) (cy : Nat → ClassId) (O : Nat × va_E → Prop) {sa im S bq bp rc Aq Ap : Nat} {R : Nat → RRow} {rb : Nat → Nat} {q pu : URow} {img : Nat → Int32} {pm : PM} (hR : ∀ j, j < rc → RlO O cy (rb j) (R j)) (hq : RuO O cy R rb rc bq q) (hp : RuO O cy R rb rc bp pu) (hAq : Aq < 2 ^ 31) (hAp : Ap < 2 ^ 31) (hr9 : Rep pm S img) : Ci l yX3_mapsHead (.code yX3_mapsHead cX3_mapsHead 6 (some .boolean) :: WALL) ({ frames := 2, cells := 0, slots := 0, locals := 44 }) D cy O [.ref sa] [(sa, .inr (3, [.ref im, .int (nI S), .ref bq, .int (nI Aq), .ref bp, .int (nI Ap)])), (im, .inl (cy 0, 6, .inl img))] 0 0 (fun (r : Int32) (w : va_W) => r = bit (decide (q.1 = pu.1) && (hdM (uva R q Aq) q.2.1 pu.2.1 q.1 pm).isSome) ∧ ∃ (S' : Nat) (img' : Nat → Int32), w = [(sa, .inr (3, [.ref im, .int (nI S'), .ref bq, .int (nI Aq), .ref bp, .int (nI Ap)])), (im, .inl (cy 0, 6, .inl img'))] ∧ Ext S img S' img' ∧ ∀ pm', q.1 = pu.1 → (hdM (uva R q Aq) q.2.1 pu.2.1 q.1 pm) = some pm' → Rep pm' S' img') := by
  obtain ⟨hd1, aa1, F1, aA1, tA1, hB1, ⟨ta1, T1, hM1, hT1, ht1⟩, hF1, hh1, hm1, hat1⟩ := hq
  obtain ⟨hd2, aa2, F2, aA2, tA2, hB2, ⟨ta2, T2, hM2, hT2, ht2⟩, hF2, hh2, hm2, hat2⟩ := hp
  have hUV : uva R q Aq < 2 ^ 31 := Nat.lt_trans (uva_lt R q Aq) (by decide)
  refine z_meti (by decide) rfl rfl (Nat.le_of_ble_eq_true rfl) ?_
  intro p e s m args below meth c X hr hin
  refine z_eq (ws' := [(sa, .inr (3, [.ref im, .int (nI S), .ref bq, .int (nI Aq), .ref bp, .int (nI Ap)])), (im, .inl (cy 0, 6, .inl img))]) (lv' := [(0, .ref sa)]) (st' := []) rfl rfl rfl ?_
  refine z_aload_n X dX3_mapsHead_0 rfl (j := 0) rfl ?_
  refine z_getW X 0 (C := RX3) (T := TX3) (N := 6) inX3 rfl rfl 2 (by decide) fl_X3_19 (fun _ h9 => h9) rfl dX3_mapsHead_1 ?_
  refine z_getO X (ci := 6) (C := RX6) (T := TX6) (N := 3) inX6 hB1 rfl 0 (by decide) fl_X3_57 (fun _ h9 => h9) rfl dX3_mapsHead_4 ?_
  refine z_getO X (ci := 7) (C := RX7) (T := TX7) (N := 4) inX7 hM1 rfl 0 (by decide) fl_X3_61 (fun _ h9 => h9) rfl dX3_mapsHead_7 ?_
  refine z_aload_n X dX3_mapsHead_10 rfl (j := 0) rfl ?_
  refine z_getW X 0 (C := RX3) (T := TX3) (N := 6) inX3 rfl rfl 4 (by decide) fl_X3_26 (fun _ h9 => h9) rfl dX3_mapsHead_11 ?_
  refine z_getO X (ci := 6) (C := RX6) (T := TX6) (N := 3) inX6 hB2 rfl 0 (by decide) fl_X3_57 (fun _ h9 => h9) rfl dX3_mapsHead_14 ?_
  refine z_getO X (ci := 7) (C := RX7) (T := TX7) (N := 4) inX7 hM2 rfl 0 (by decide) fl_X3_61 (fun _ h9 => h9) rfl dX3_mapsHead_17 ?_
  refine z_icmp_eq X (tgt := 25) dX3_mapsHead_20 (by decide) (fun c_20 => ?_) (fun c_20 => ?_)
  · skip
    have hqp : q.1 = pu.1 := (nI_eq (by omega) (by omega)).mp c_20
    refine z_aload_n X dX3_mapsHead_25 rfl (j := 0) rfl ?_
    refine z_getW X 0 (C := RX3) (T := TX3) (N := 6) inX3 rfl rfl 2 (by decide) fl_X3_19 (fun _ h9 => h9) rfl dX3_mapsHead_26 ?_
    refine z_aload_n X dX3_mapsHead_29 rfl (j := 0) rfl ?_
    refine z_getW X 0 (C := RX3) (T := TX3) (N := 6) inX3 rfl rfl 3 (by decide) fl_X3_23 (fun _ h9 => h9) rfl dX3_mapsHead_30 ?_
    refine z_reti X (as := [.ref bq, .int (nI Aq)]) (wc := []) (wr := [(sa, .inr (3, [.ref im, .int (nI S), .ref bq, .int (nI Aq), .ref bp, .int (nI Ap)])), (im, .inl (cy 0, 6, .inl img))]) (rest := []) (fun H9 locs9 ls9 hP9 hS9 hl9 hb9 hp9 => va_runV (As := [.int (nI Aq)]) (rest := []) X.fix (m_variablesIn l D cy O (vs := uvs R q) hB1 hF1 hm1 hAq (fun k hk => (hat1 k hk).1) (fun k hk => ⟨_, (hat1 k hk).2.2.1⟩) (fun k hk => by obtain ⟨ta, Tf, h, -⟩ := (hat1 k hk).2.2.2; exact ⟨_, _, _, h⟩) H9.size) (cwV 1 X.hts (gV ml_X3_64 im_X6_variablesIn se_X6_variablesIn ni_X6 cd_X6_variablesIn) rfl rfl rfl (by decide +kernel) ⟨Nat.le_of_ble_eq_true rfl, Nat.le_of_ble_eq_true rfl⟩) ⟨hb9, z_recvO X (ci := 6) (r := (RX6, TX6, 3)) hB1 rfl hS9, hp9⟩ rfl rfl hl9.1 rfl (lv_room (Nat.le_of_ble_eq_true rfl)) dX3_mapsHead_33 ⟨Nat.le_of_ble_eq_true rfl, Nat.le_of_ble_eq_true rfl⟩) [] [0, 1] rfl rfl rfl rfl rfl (by decide) (fun _ h => Or.inl h) (fun r1 w2 h3 => ?_)
    obtain ⟨rfl, rfl⟩ := h3
    refine z_eq (ws' := [(sa, .inr (3, [.ref im, .int (nI S), .ref bq, .int (nI Aq), .ref bp, .int (nI Ap)])), (im, .inl (cy 0, 6, .inl img))]) (lv' := [(0, .ref sa)]) (st' := [.int (nI (uva R q Aq))]) rfl rfl rfl ?_
    refine z_widen (k' := 0) (n' := 0) (Nat.le_refl _) (Nat.le_refl _) ?_
    refine z_istore_n X (lv' := [(1, .int (nI (uva R q Aq))), (0, .ref sa)]) dX3_mapsHead_36 rfl (by decide) rfl ?_
    refine z_iconst X (v := 0) dX3_mapsHead_37 (by decide) ?_
    refine z_istore_n X (lv' := [(2, .int 0), (1, .int (nI (uva R q Aq))), (0, .ref sa)]) dX3_mapsHead_38 rfl (by decide) rfl ?_
    have L : ∀ (d : Nat) (k : Nat) (Sk : Nat) (ik : Nat → Int32) (pmk : PM), k + d = q.1 → k ≤ q.1 → (hdM (uva R q Aq) q.2.1 pu.2.1 k pm) = some pmk → Rep pmk Sk ik → Ext S img Sk ik → Zz D (va_A [(sa, .inr (3, [.ref im, .int (nI S), .ref bq, .int (nI Aq), .ref bp, .int (nI Ap)])), (im, .inl (cy 0, 6, .inl img))] s.heap.size) 6 p l e ({ frames := 2, cells := 0, slots := 0, locals := 44 }) s m args below meth c (MQ below (va_Qi (fun (r : Int32) (w : va_W) => r = bit (decide (q.1 = pu.1) && (hdM (uva R q Aq) q.2.1 pu.2.1 q.1 pm).isSome) ∧ ∃ (S' : Nat) (img' : Nat → Int32), w = [(sa, .inr (3, [.ref im, .int (nI S'), .ref bq, .int (nI Aq), .ref bp, .int (nI Ap)])), (im, .inl (cy 0, 6, .inl img'))] ∧ Ext S img S' img' ∧ ∀ pm', q.1 = pu.1 → (hdM (uva R q Aq) q.2.1 pu.2.1 q.1 pm) = some pm' → Rep pm' S' img') (end_ D [(sa, .inr (3, [.ref im, .int (nI S), .ref bq, .int (nI Aq), .ref bp, .int (nI Ap)])), (im, .inl (cy 0, 6, .inl img))] s.heap.size) (va_A [(sa, .inr (3, [.ref im, .int (nI S), .ref bq, .int (nI Aq), .ref bp, .int (nI Ap)])), (im, .inl (cy 0, 6, .inl img))] s.heap.size)) args s 0 0 (va_A [(sa, .inr (3, [.ref im, .int (nI S), .ref bq, .int (nI Aq), .ref bp, .int (nI Ap)])), (im, .inl (cy 0, 6, .inl img))] s.heap.size)) [(sa, .inr (3, [.ref im, .int (nI Sk), .ref bq, .int (nI Aq), .ref bp, .int (nI Ap)])), (im, .inl (cy 0, 6, .inl ik))] [(2, .int (nI k)), (1, .int (nI (uva R q Aq))), (0, .ref sa)] 0 0 39 [] := by
      intro d
      induction d with
      | zero =>
        intro k Sk ik pmk hL0 hL1 hL2 hL3 hL4
        refine z_iload_n X dX3_mapsHead_39 rfl (j := 0) rfl ?_
        refine z_aload_n X dX3_mapsHead_40 rfl (j := 2) rfl ?_
        refine z_getW X 0 (C := RX3) (T := TX3) (N := 6) inX3 rfl rfl 2 (by decide) fl_X3_19 (fun _ h9 => h9) rfl dX3_mapsHead_41 ?_
        refine z_getO X (ci := 6) (C := RX6) (T := TX6) (N := 3) inX6 hB1 rfl 0 (by decide) fl_X3_57 (fun _ h9 => h9) rfl dX3_mapsHead_44 ?_
        refine z_getO X (ci := 7) (C := RX7) (T := TX7) (N := 4) inX7 hM1 rfl 0 (by decide) fl_X3_61 (fun _ h9 => h9) rfl dX3_mapsHead_47 ?_
        refine z_icmp_ge X (tgt := 134) dX3_mapsHead_50 (by decide) (fun c_50 => ?_) (fun c9 => absurd (by rw [show k = q.1 by omega]; exact nI_le (Nat.le_refl _) (by omega)) c9)
        refine z_iconst X (v := 1) dX3_mapsHead_134 (by decide) ?_
        exact z_endz X hr (Or.inr rfl) [(sa, .inr (3, [.ref im, .int (nI Sk), .ref bq, .int (nI Aq), .ref bp, .int (nI Ap)])), (im, .inl (cy 0, 6, .inl ik))] [0, 1] rfl rfl rfl ⟨(by rw [show q.1 = k by omega, hL2, decide_eq_true (show k = pu.1 by omega)]; rfl), Sk, ik, rfl, hL4, fun pm' _ z => by rw [show q.1 = k by omega, hL2] at z; cases z; exact hL3⟩ dX3_mapsHead_135
      | succ d ih =>
        intro k Sk ik pmk hL0 hL1 hL2 hL3 hL4
        have hk1 := (ht1 k (by omega)).2
        have hk2 := (ht2 k (by omega)).2
        unfold isT at hk1 hk2
        refine z_iload_n X dX3_mapsHead_39 rfl (j := 0) rfl ?_
        refine z_aload_n X dX3_mapsHead_40 rfl (j := 2) rfl ?_
        refine z_getW X 0 (C := RX3) (T := TX3) (N := 6) inX3 rfl rfl 2 (by decide) fl_X3_19 (fun _ h9 => h9) rfl dX3_mapsHead_41 ?_
        refine z_getO X (ci := 6) (C := RX6) (T := TX6) (N := 3) inX6 hB1 rfl 0 (by decide) fl_X3_57 (fun _ h9 => h9) rfl dX3_mapsHead_44 ?_
        refine z_getO X (ci := 7) (C := RX7) (T := TX7) (N := 4) inX7 hM1 rfl 0 (by decide) fl_X3_61 (fun _ h9 => h9) rfl dX3_mapsHead_47 ?_
        refine z_icmp_ge X (tgt := 134) dX3_mapsHead_50 (by decide) (fun c9 => absurd c9 (nI_ge (by omega) (by omega))) (fun c_50 => ?_)
        refine z_aload_n X dX3_mapsHead_53 rfl (j := 2) rfl ?_
        refine z_getW X 0 (C := RX3) (T := TX3) (N := 6) inX3 rfl rfl 2 (by decide) fl_X3_19 (fun _ h9 => h9) rfl dX3_mapsHead_54 ?_
        refine z_getO X (ci := 6) (C := RX6) (T := TX6) (N := 3) inX6 hB1 rfl 0 (by decide) fl_X3_57 (fun _ h9 => h9) rfl dX3_mapsHead_57 ?_
        refine z_getO X (ci := 7) (C := RX7) (T := TX7) (N := 4) inX7 hM1 rfl 1 (by decide) fl_X3_68 (fun _ h9 => h9) rfl dX3_mapsHead_60 ?_
        refine z_iload_n X dX3_mapsHead_63 rfl (j := 0) rfl ?_
        refine z_ialdO X hT1 (v := (nI (q.2.1 k))) (vp_in_nI (by omega) (by decide)) (at_nI (by omega) (ht1 k (by omega)).1) dX3_mapsHead_64 ?_
        refine z_istore_n X (lv' := [(3, .int (nI (q.2.1 k))), (2, .int (nI k)), (1, .int (nI (uva R q Aq))), (0, .ref sa)]) dX3_mapsHead_65 rfl (by decide) rfl ?_
        refine z_aload_n X dX3_mapsHead_66 rfl (j := 3) rfl ?_
        refine z_getW X 0 (C := RX3) (T := TX3) (N := 6) inX3 rfl rfl 4 (by decide) fl_X3_26 (fun _ h9 => h9) rfl dX3_mapsHead_67 ?_
        refine z_getO X (ci := 6) (C := RX6) (T := TX6) (N := 3) inX6 hB2 rfl 0 (by decide) fl_X3_57 (fun _ h9 => h9) rfl dX3_mapsHead_70 ?_
        refine z_getO X (ci := 7) (C := RX7) (T := TX7) (N := 4) inX7 hM2 rfl 1 (by decide) fl_X3_68 (fun _ h9 => h9) rfl dX3_mapsHead_73 ?_
        refine z_iload_n X dX3_mapsHead_76 rfl (j := 1) rfl ?_
        refine z_ialdO X hT2 (v := (nI (pu.2.1 k))) (vp_in_nI (by omega) (by decide)) (at_nI (by omega) (ht2 k (by omega)).1) dX3_mapsHead_77 ?_
        refine z_istore X (lv' := [(4, .int (nI (pu.2.1 k))), (3, .int (nI (q.2.1 k))), (2, .int (nI k)), (1, .int (nI (uva R q Aq))), (0, .ref sa)]) dX3_mapsHead_78 (by decide) rfl ?_
        refine z_iload_n X dX3_mapsHead_80 rfl (j := 1) rfl ?_
        refine z_reti X (as := [.int (nI (q.2.1 k))]) (wc := []) (wr := [(sa, .inr (3, [.ref im, .int (nI Sk), .ref bq, .int (nI Aq), .ref bp, .int (nI Ap)])), (im, .inl (cy 0, 6, .inl ik))]) (rest := []) (fun H9 locs9 ls9 hP9 hS9 hl9 hb9 hp9 => va_runSN (As := [.int (nI (q.2.1 k))]) (rest := []) X.fix (m_isVariable l D cy O (nI (q.2.1 k)) H9.size) ⟨va_cnB 1 X.hts (gB cd_X9_isVariable) rfl rfl rfl (X.nw.1 _ (List.mem_of_getElem? (i := 8) rfl)) (X.hts _ ni_X9) (by decide +kernel) ⟨Nat.le_of_ble_eq_true rfl, Nat.le_of_ble_eq_true rfl⟩, X.hts _ sm_X9_isVariable, trivial⟩ ⟨hb9, hp9⟩ rfl rfl hl9.1 rfl (lv_room (Nat.le_of_ble_eq_true rfl)) dX3_mapsHead_81 ⟨Nat.le_of_ble_eq_true rfl, Nat.le_of_ble_eq_true rfl⟩) [] [0, 1] rfl rfl rfl rfl rfl (by decide) (fun _ h => Or.inl h) (fun r4 w5 h6 => ?_)
        obtain ⟨rfl, rfl⟩ := h6
        refine z_eq (ws' := [(sa, .inr (3, [.ref im, .int (nI Sk), .ref bq, .int (nI Aq), .ref bp, .int (nI Ap)])), (im, .inl (cy 0, 6, .inl ik))]) (lv' := [(4, .int (nI (pu.2.1 k))), (3, .int (nI (q.2.1 k))), (2, .int (nI k)), (1, .int (nI (uva R q Aq))), (0, .ref sa)]) (st' := [.int (vI (nI (q.2.1 k)))]) rfl rfl rfl ?_
        refine z_widen (k' := 0) (n' := 0) (Nat.le_refl _) (Nat.le_refl _) ?_
        refine z_if_eq X (tgt := 99) dX3_mapsHead_84 (by decide) (fun c_84 => ?_) (fun c_84 => ?_)
        · skip
          have hmp : ¬ (q.2.1 k < 6 ∧ (uva R q Aq).testBit (q.2.1 k) = true) := by
            rintro ⟨h9, -⟩
            rw [vI_nI (by omega), if_pos h9] at c_84; exact absurd c_84 (by decide)
          refine z_iconst X (v := 0) dX3_mapsHead_99 (by decide) ?_
          refine z_istore X (lv' := [(5, .int 0), (4, .int (nI (pu.2.1 k))), (3, .int (nI (q.2.1 k))), (2, .int (nI k)), (1, .int (nI (uva R q Aq))), (0, .ref sa)]) dX3_mapsHead_100 (by decide) rfl ?_
          refine z_iload X dX3_mapsHead_102 (j := 0) rfl ?_
          refine z_if_eq X (tgt := 120) dX3_mapsHead_104 (by decide) (fun c_104 => ?_) (fun c9 => absurd (by decide) c9)
          refine z_iload_n X dX3_mapsHead_120 rfl (j := 2) rfl ?_
          refine z_iload X dX3_mapsHead_121 (j := 1) rfl ?_
          refine z_icmp_eq X (tgt := 128) dX3_mapsHead_123 (by decide) (fun c_123 => ?_) (fun c_123 => ?_)
          · skip
            refine z_iinc X (j := 3) (v := (nI (k + 1))) (lv' := [(2, .int (nI (k + 1))), (5, .int 0), (4, .int (nI (pu.2.1 k))), (3, .int (nI (q.2.1 k))), (1, .int (nI (uva R q Aq))), (0, .ref sa)]) dX3_mapsHead_128 rfl (nI_1 k) (by decide) rfl ?_
            refine z_goto X (tgt := 39) dX3_mapsHead_131 (by decide) ?_
            refine z_lv [0, 4, 5] (lv' := [(2, .int (nI (k + 1))), (1, .int (nI (uva R q Aq))), (0, .ref sa)]) rfl ?_
            refine z_eq (ws' := [(sa, .inr (3, [.ref im, .int (nI Sk), .ref bq, .int (nI Aq), .ref bp, .int (nI Ap)])), (im, .inl (cy 0, 6, .inl ik))]) (lv' := [(2, .int (nI (k + 1))), (1, .int (nI (uva R q Aq))), (0, .ref sa)]) (st' := []) rfl rfl rfl ?_
            exact ih (k + 1) Sk ik pmk (by omega) (by omega) (by rw [hdM, hL2]; simp only [if_neg hmp, if_pos ((nI_eq (by omega) (by omega)).mp c_123)]) hL3 hL4
          · skip
            have hne : ¬ q.2.1 k = pu.2.1 k := fun z => c_123 (by rw [z])
            have hno : (hdM (uva R q Aq) q.2.1 pu.2.1 (k + 1) pm) = none := by
              rw [hdM, hL2]; simp only [if_neg hmp, if_neg hne]
            refine z_iconst X (v := 0) dX3_mapsHead_126 (by decide) ?_
            exact z_endz X hr (Or.inl rfl) [(sa, .inr (3, [.ref im, .int (nI Sk), .ref bq, .int (nI Aq), .ref bp, .int (nI Ap)])), (im, .inl (cy 0, 6, .inl ik))] [0, 1] rfl rfl rfl ⟨(by rw [show (hdM (uva R q Aq) q.2.1 pu.2.1 q.1 pm).isSome = false from by rw [hd_no hno (by omega)]; rfl, Bool.and_false]; rfl), _, _, rfl, hL4, fun pm' _ z => by rw [hd_no hno (by omega)] at z; cases z⟩ dX3_mapsHead_127
        · skip
          have hlt : q.2.1 k < 6 := by
            rw [vI_nI (by omega)] at c_84
            by_cases h9 : q.2.1 k < 6
            · exact h9
            · rw [if_neg h9] at c_84; exact absurd rfl c_84
          refine z_iload_n X dX3_mapsHead_87 rfl (j := 3) rfl ?_
          refine z_iload_n X dX3_mapsHead_88 rfl (j := 1) rfl ?_
          refine z_reti X (as := [.int (nI (uva R q Aq)), .int (nI (q.2.1 k))]) (wc := []) (wr := [(sa, .inr (3, [.ref im, .int (nI Sk), .ref bq, .int (nI Aq), .ref bp, .int (nI Ap)])), (im, .inl (cy 0, 6, .inl ik))]) (rest := []) (fun H9 locs9 ls9 hP9 hS9 hl9 hb9 hp9 => va_runSN (As := [.int (nI (uva R q Aq)), .int (nI (q.2.1 k))]) (rest := []) X.fix (m_isIn l D cy O (nI (uva R q Aq)) (nI (q.2.1 k)) H9.size) ⟨va_cnB 2 X.hts (gB cd_X9_isIn) rfl rfl rfl (X.nw.1 _ (List.mem_of_getElem? (i := 9) rfl)) (X.hts _ ni_X9) (by decide +kernel) ⟨Nat.le_of_ble_eq_true rfl, Nat.le_of_ble_eq_true rfl⟩, X.hts _ sm_X9_isIn, trivial⟩ ⟨hb9, hp9⟩ rfl rfl hl9.1 rfl (lv_room (Nat.le_of_ble_eq_true rfl)) dX3_mapsHead_89 ⟨Nat.le_of_ble_eq_true rfl, Nat.le_of_ble_eq_true rfl⟩) [] [0, 1] rfl rfl rfl rfl rfl (by decide) (fun _ h => Or.inl h) (fun r7 w8 h9 => ?_)
          obtain ⟨rfl, rfl⟩ := h9
          refine z_eq (ws' := [(sa, .inr (3, [.ref im, .int (nI Sk), .ref bq, .int (nI Aq), .ref bp, .int (nI Ap)])), (im, .inl (cy 0, 6, .inl ik))]) (lv' := [(4, .int (nI (pu.2.1 k))), (3, .int (nI (q.2.1 k))), (2, .int (nI k)), (1, .int (nI (uva R q Aq))), (0, .ref sa)]) (st' := [.int (bI (nI (uva R q Aq)) (nI (q.2.1 k)))]) rfl rfl rfl ?_
          refine z_widen (k' := 0) (n' := 0) (Nat.le_refl _) (Nat.le_refl _) ?_
          refine z_if_eq X (tgt := 99) dX3_mapsHead_92 (by decide) (fun c_92 => ?_) (fun c_92 => ?_)
          · skip
            have hmp : ¬ (q.2.1 k < 6 ∧ (uva R q Aq).testBit (q.2.1 k) = true) := by
              rintro ⟨-, h9⟩
              rw [bit_no hUV (by omega) c_92] at h9; cases h9
            refine z_iconst X (v := 0) dX3_mapsHead_99 (by decide) ?_
            refine z_istore X (lv' := [(5, .int 0), (4, .int (nI (pu.2.1 k))), (3, .int (nI (q.2.1 k))), (2, .int (nI k)), (1, .int (nI (uva R q Aq))), (0, .ref sa)]) dX3_mapsHead_100 (by decide) rfl ?_
            refine z_iload X dX3_mapsHead_102 (j := 0) rfl ?_
            refine z_if_eq X (tgt := 120) dX3_mapsHead_104 (by decide) (fun c_104 => ?_) (fun c9 => absurd (by decide) c9)
            refine z_iload_n X dX3_mapsHead_120 rfl (j := 2) rfl ?_
            refine z_iload X dX3_mapsHead_121 (j := 1) rfl ?_
            refine z_icmp_eq X (tgt := 128) dX3_mapsHead_123 (by decide) (fun c_123 => ?_) (fun c_123 => ?_)
            · skip
              refine z_iinc X (j := 3) (v := (nI (k + 1))) (lv' := [(2, .int (nI (k + 1))), (5, .int 0), (4, .int (nI (pu.2.1 k))), (3, .int (nI (q.2.1 k))), (1, .int (nI (uva R q Aq))), (0, .ref sa)]) dX3_mapsHead_128 rfl (nI_1 k) (by decide) rfl ?_
              refine z_goto X (tgt := 39) dX3_mapsHead_131 (by decide) ?_
              refine z_lv [0, 4, 5] (lv' := [(2, .int (nI (k + 1))), (1, .int (nI (uva R q Aq))), (0, .ref sa)]) rfl ?_
              refine z_eq (ws' := [(sa, .inr (3, [.ref im, .int (nI Sk), .ref bq, .int (nI Aq), .ref bp, .int (nI Ap)])), (im, .inl (cy 0, 6, .inl ik))]) (lv' := [(2, .int (nI (k + 1))), (1, .int (nI (uva R q Aq))), (0, .ref sa)]) (st' := []) rfl rfl rfl ?_
              exact ih (k + 1) Sk ik pmk (by omega) (by omega) (by rw [hdM, hL2]; simp only [if_neg hmp, if_pos ((nI_eq (by omega) (by omega)).mp c_123)]) hL3 hL4
            · skip
              have hne : ¬ q.2.1 k = pu.2.1 k := fun z => c_123 (by rw [z])
              have hno : (hdM (uva R q Aq) q.2.1 pu.2.1 (k + 1) pm) = none := by
                rw [hdM, hL2]; simp only [if_neg hmp, if_neg hne]
              refine z_iconst X (v := 0) dX3_mapsHead_126 (by decide) ?_
              exact z_endz X hr (Or.inl rfl) [(sa, .inr (3, [.ref im, .int (nI Sk), .ref bq, .int (nI Aq), .ref bp, .int (nI Ap)])), (im, .inl (cy 0, 6, .inl ik))] [0, 1] rfl rfl rfl ⟨(by rw [show (hdM (uva R q Aq) q.2.1 pu.2.1 q.1 pm).isSome = false from by rw [hd_no hno (by omega)]; rfl, Bool.and_false]; rfl), _, _, rfl, hL4, fun pm' _ z => by rw [hd_no hno (by omega)] at z; cases z⟩ dX3_mapsHead_127
          · skip
            have hmp : q.2.1 k < 6 ∧ (uva R q Aq).testBit (q.2.1 k) = true := ⟨hlt, bit_yes hUV (by omega) c_92⟩
            refine z_iconst X (v := 1) dX3_mapsHead_95 (by decide) ?_
            refine z_goto X (tgt := 100) dX3_mapsHead_96 (by decide) ?_
            refine z_istore X (lv' := [(5, .int 1), (4, .int (nI (pu.2.1 k))), (3, .int (nI (q.2.1 k))), (2, .int (nI k)), (1, .int (nI (uva R q Aq))), (0, .ref sa)]) dX3_mapsHead_100 (by decide) rfl ?_
            refine z_iload X dX3_mapsHead_102 (j := 0) rfl ?_
            refine z_if_eq X (tgt := 120) dX3_mapsHead_104 (by decide) (fun c9 => absurd c9 (by decide)) (fun c_104 => ?_)
            refine z_aload_n X dX3_mapsHead_107 rfl (j := 5) rfl ?_
            refine z_iload_n X dX3_mapsHead_108 rfl (j := 2) rfl ?_
            refine z_iload X dX3_mapsHead_109 (j := 1) rfl ?_
            refine z_reti X (as := [.ref sa, .int (nI (q.2.1 k)), .int (nI (pu.2.1 k))]) (wc := [(sa, .inr (3, [.ref im, .int (nI Sk), .ref bq, .int (nI Aq), .ref bp, .int (nI Ap)])), (im, .inl (cy 0, 6, .inl ik))]) (wr := []) (rest := []) (fun H9 locs9 ls9 hP9 hS9 hl9 hb9 hp9 => va_runV (As := [.int (nI (q.2.1 k)), .int (nI (pu.2.1 k))]) (rest := []) X.fix (m_lets l D cy O (v := q.2.1 k) (t := pu.2.1 k) hlt (by omega) hL3 H9.size) (cwV 2 X.hts (gV ml_X3_74 im_X3_lets se_X3_lets ni_X3 cd_X3_lets) rfl rfl rfl (by decide +kernel) ⟨Nat.le_of_ble_eq_true rfl, Nat.le_of_ble_eq_true rfl⟩) ⟨hb9, z_recvW X (q0 := 0) (ci := 3) (r := (RX3, TX3, 6)) rfl rfl hP9, hp9⟩ rfl rfl hl9.1 rfl (lv_room (Nat.le_of_ble_eq_true rfl)) dX3_mapsHead_111 ⟨Nat.le_of_ble_eq_true rfl, Nat.le_of_ble_eq_true rfl⟩) [0, 1] [] rfl rfl rfl rfl rfl (by decide) (fun _ h => Or.inl h) (fun r10 w11 h12 => ?_)
            obtain ⟨rfl, Sy, iy, rfl, hey, hry⟩ := h12
            refine z_eq (ws' := [(sa, .inr (3, [.ref im, .int (nI Sy), .ref bq, .int (nI Aq), .ref bp, .int (nI Ap)])), (im, .inl (cy 0, 6, .inl iy))]) (lv' := [(5, .int 1), (4, .int (nI (pu.2.1 k))), (3, .int (nI (q.2.1 k))), (2, .int (nI k)), (1, .int (nI (uva R q Aq))), (0, .ref sa)]) (st' := [.int (bit (letM pmk (q.2.1 k) (pu.2.1 k)).isSome)]) rfl rfl rfl ?_
            refine z_widen (k' := 0) (n' := 0) (Nat.le_refl _) (Nat.le_refl _) ?_
            refine z_if_ne X (tgt := 128) dX3_mapsHead_114 (by decide) (fun c_114 => ?_) (fun c_114 => ?_)
            · skip
              obtain ⟨pmy, hpy⟩ : ∃ pmy, letM pmk (q.2.1 k) (pu.2.1 k) = some pmy := Option.isSome_iff_exists.mp (bit_y c_114)
              refine z_iinc X (j := 3) (v := (nI (k + 1))) (lv' := [(2, .int (nI (k + 1))), (5, .int 1), (4, .int (nI (pu.2.1 k))), (3, .int (nI (q.2.1 k))), (1, .int (nI (uva R q Aq))), (0, .ref sa)]) dX3_mapsHead_128 rfl (nI_1 k) (by decide) rfl ?_
              refine z_goto X (tgt := 39) dX3_mapsHead_131 (by decide) ?_
              refine z_lv [0, 4, 5] (lv' := [(2, .int (nI (k + 1))), (1, .int (nI (uva R q Aq))), (0, .ref sa)]) rfl ?_
              refine z_eq (ws' := [(sa, .inr (3, [.ref im, .int (nI Sy), .ref bq, .int (nI Aq), .ref bp, .int (nI Ap)])), (im, .inl (cy 0, 6, .inl iy))]) (lv' := [(2, .int (nI (k + 1))), (1, .int (nI (uva R q Aq))), (0, .ref sa)]) (st' := []) rfl rfl rfl ?_
              exact ih (k + 1) Sy iy pmy (by omega) (by omega) (by rw [hdM, hL2]; simp only [if_pos hmp]; exact hpy) (hry pmy hpy) (hL4.tr hey)
            · skip
              refine z_goto X (tgt := 126) dX3_mapsHead_117 (by decide) ?_
              have hno : (hdM (uva R q Aq) q.2.1 pu.2.1 (k + 1) pm) = none := by
                rw [hdM, hL2]; simp only [if_pos hmp]
                have h9 := bit_n c_114
                rw [Option.isSome_eq_false_iff] at h9
                exact Option.isNone_iff_eq_none.mp h9
              refine z_iconst X (v := 0) dX3_mapsHead_126 (by decide) ?_
              exact z_endz X hr (Or.inl rfl) [(sa, .inr (3, [.ref im, .int (nI Sy), .ref bq, .int (nI Aq), .ref bp, .int (nI Ap)])), (im, .inl (cy 0, 6, .inl iy))] [0, 1] rfl rfl rfl ⟨(by rw [show (hdM (uva R q Aq) q.2.1 pu.2.1 q.1 pm).isSome = false from by rw [hd_no hno (by omega)]; rfl, Bool.and_false]; rfl), _, _, rfl, (hL4.tr hey), fun pm' _ z => by rw [hd_no hno (by omega)] at z; cases z⟩ dX3_mapsHead_127
    refine z_eq (ws' := [(sa, .inr (3, [.ref im, .int (nI S), .ref bq, .int (nI Aq), .ref bp, .int (nI Ap)])), (im, .inl (cy 0, 6, .inl img))]) (lv' := [(2, .int (nI 0)), (1, .int (nI (uva R q Aq))), (0, .ref sa)]) (st' := []) rfl rfl rfl ?_
    exact L q.1 0 S img pm (by omega) (Nat.zero_le _) rfl hr9 (Ext.rf S img)
  · skip
    refine z_iconst X (v := 0) dX3_mapsHead_23 (by decide) ?_
    exact z_endz X hr (Or.inl rfl) [(sa, .inr (3, [.ref im, .int (nI S), .ref bq, .int (nI Aq), .ref bp, .int (nI Ap)])), (im, .inl (cy 0, 6, .inl img))] [0, 1] rfl rfl rfl ⟨(by rw [decide_eq_false (fun z => c_20 (by rw [z]))]; rfl), S, img, rfl, Ext.rf S img, fun pm' z => absurd (by rw [z]) c_20⟩ dX3_mapsHead_24
set_option maxHeartbeats 4000000 in
set_option maxRecDepth 100000 in
/-- mapsAtomsFrom: none is left -/
theorem m_mapsFrom_0 (l : Launch) (D : va_G) (cy : Nat → ClassId) (O : Nat × va_E → Prop) {sa im S bq bp rc Aq Ap : Nat} {R : Nat → RRow} {rb : Nat → Nat} {q pu : URow} {img : Nat → Int32} {pm : PM} (hR : ∀ j, j < rc → RlO O cy (rb j) (R j)) (hq : RuO O cy R rb rc bq q) (hp : RuO O cy R rb rc bp pu) (hAq : Aq < 2 ^ 31) (hAp : Ap < 2 ^ 31) (hr9 : Rep pm S img) : Ci l yX3_mapsAtomsFrom (.code yX3_mapsAtomsFrom cX3_mapsAtomsFrom 4 (some .boolean) :: WALL) ({ frames := 3 * 0 + 4, cells := 0, slots := 0, locals := 60 * 0 + 100 }) D cy O [.ref sa, .int (nI q.2.2.1)] [(sa, .inr (3, [.ref im, .int (nI S), .ref bq, .int (nI Aq), .ref bp, .int (nI Ap)])), (im, .inl (cy 0, 6, .inl img))] 0 0 (fun (r : Int32) (w : va_W) => r = bit (mfr R q pu Aq Ap 0 q.2.2.1 pm) ∧ ∃ (S' : Nat) (img' : Nat → Int32), w = [(sa, .inr (3, [.ref im, .int (nI S'), .ref bq, .int (nI Aq), .ref bp, .int (nI Ap)])), (im, .inl (cy 0, 6, .inl img'))] ∧ Ext S img S' img') := by
  obtain ⟨hd1, aa1, F1, aA1, tA1, hB1, ⟨ta1, T1, hM1, hT1, ht1⟩, hF1, hh1, hm1, hat1⟩ := hq
  obtain ⟨hd2, aa2, F2, aA2, tA2, hB2, ⟨ta2, T2, hM2, hT2, ht2⟩, hF2, hh2, hm2, hat2⟩ := hp
  refine z_meti (by decide) rfl rfl (Nat.le_of_ble_eq_true rfl) ?_
  intro p e s m args below meth c X hr hin
  refine z_eq (ws' := [(sa, .inr (3, [.ref im, .int (nI S), .ref bq, .int (nI Aq), .ref bp, .int (nI Ap)])), (im, .inl (cy 0, 6, .inl img))]) (lv' := [(0, .ref sa), (1, .int (nI q.2.2.1))]) (st' := []) rfl rfl rfl ?_
  refine z_iload_n X dX3_mapsAtomsFrom_0 rfl (j := 1) rfl ?_
  refine z_aload_n X dX3_mapsAtomsFrom_1 rfl (j := 0) rfl ?_
  refine z_getW X 0 (C := RX3) (T := TX3) (N := 6) inX3 rfl rfl 2 (by decide) fl_X3_19 (fun _ h9 => h9) rfl dX3_mapsAtomsFrom_2 ?_
  refine z_getO X (ci := 6) (C := RX6) (T := TX6) (N := 3) inX6 hB1 rfl 2 (by decide) fl_X3_50 (fun _ h9 => h9) rfl dX3_mapsAtomsFrom_5 ?_
  refine z_icmp_lt X (tgt := 13) dX3_mapsAtomsFrom_8 (by decide) (fun c9 => absurd c9 (nI_nlt (a := q.2.2.1) (b := q.2.2.1) (Nat.le_refl _) (by omega))) (fun c_8 => ?_)
  refine z_iconst X (v := 1) dX3_mapsAtomsFrom_11 (by decide) ?_
  exact z_endz X hr (Or.inr rfl) [(sa, .inr (3, [.ref im, .int (nI S), .ref bq, .int (nI Aq), .ref bp, .int (nI Ap)])), (im, .inl (cy 0, 6, .inl img))] [0, 1] rfl rfl rfl ⟨rfl, S, img, rfl, Ext.rf S img⟩ dX3_mapsAtomsFrom_12
set_option maxHeartbeats 4000000 in
set_option maxRecDepth 100000 in
/-- mapsAtomsFrom(next): one more -/
theorem m_mapsFrom_s (l : Launch) (D : va_G) (cy : Nat → ClassId) (O : Nat × va_E → Prop) {sa im S bq bp rc Aq Ap : Nat} {R : Nat → RRow} {rb : Nat → Nat} {q pu : URow} {img : Nat → Int32} {pm : PM} (hR : ∀ j, j < rc → RlO O cy (rb j) (R j)) (hq : RuO O cy R rb rc bq q) (hp : RuO O cy R rb rc bp pu) (hAq : Aq < 2 ^ 31) (hAp : Ap < 2 ^ 31) {n nx : Nat} (hinj : ∀ i j, i < rc → j < rc → rb i = rb j → i = j) (hnx : nx + (n + 1) = q.2.2.1) (ih : ∀ (S : Nat) (img : Nat → Int32) (pm : PM), Rep pm S img → Ci l yX3_mapsAtomsFrom (.code yX3_mapsAtomsFrom cX3_mapsAtomsFrom 4 (some .boolean) :: WALL) ({ frames := 3 * n + 4, cells := 0, slots := 0, locals := 60 * n + 100 }) D cy O [.ref sa, .int (nI (nx + 1))] [(sa, .inr (3, [.ref im, .int (nI S), .ref bq, .int (nI Aq), .ref bp, .int (nI Ap)])), (im, .inl (cy 0, 6, .inl img))] 0 0 (fun (r : Int32) (w : va_W) => r = bit (mfr R q pu Aq Ap n (nx + 1) pm) ∧ ∃ (S' : Nat) (img' : Nat → Int32), w = [(sa, .inr (3, [.ref im, .int (nI S'), .ref bq, .int (nI Aq), .ref bp, .int (nI Ap)])), (im, .inl (cy 0, 6, .inl img'))] ∧ Ext S img S' img')) (hr9 : Rep pm S img) : Ci l yX3_mapsAtomsFrom (.code yX3_mapsAtomsFrom cX3_mapsAtomsFrom 4 (some .boolean) :: WALL) ({ frames := 3 * (n + 1) + 4, cells := 0, slots := 0, locals := 60 * (n + 1) + 100 }) D cy O [.ref sa, .int (nI nx)] [(sa, .inr (3, [.ref im, .int (nI S), .ref bq, .int (nI Aq), .ref bp, .int (nI Ap)])), (im, .inl (cy 0, 6, .inl img))] 0 0 (fun (r : Int32) (w : va_W) => r = bit (mfr R q pu Aq Ap (n + 1) nx pm) ∧ ∃ (S' : Nat) (img' : Nat → Int32), w = [(sa, .inr (3, [.ref im, .int (nI S'), .ref bq, .int (nI Aq), .ref bp, .int (nI Ap)])), (im, .inl (cy 0, 6, .inl img'))] ∧ Ext S img S' img') := by
  obtain ⟨hd1, aa1, F1, aA1, tA1, hB1, ⟨ta1, T1, hM1, hT1, ht1⟩, hF1, hh1, hm1, hat1⟩ := hq
  obtain ⟨hd2, aa2, F2, aA2, tA2, hB2, ⟨ta2, T2, hM2, hT2, ht2⟩, hF2, hh2, hm2, hat2⟩ := hp
  refine z_meti (by decide) rfl rfl (Nat.le_of_ble_eq_true rfl) ?_
  intro p e s m args below meth c X hr hin
  refine z_eq (ws' := [(sa, .inr (3, [.ref im, .int (nI S), .ref bq, .int (nI Aq), .ref bp, .int (nI Ap)])), (im, .inl (cy 0, 6, .inl img))]) (lv' := [(0, .ref sa), (1, .int (nI nx))]) (st' := []) rfl rfl rfl ?_
  refine z_iload_n X dX3_mapsAtomsFrom_0 rfl (j := 1) rfl ?_
  refine z_aload_n X dX3_mapsAtomsFrom_1 rfl (j := 0) rfl ?_
  refine z_getW X 0 (C := RX3) (T := TX3) (N := 6) inX3 rfl rfl 2 (by decide) fl_X3_19 (fun _ h9 => h9) rfl dX3_mapsAtomsFrom_2 ?_
  refine z_getO X (ci := 6) (C := RX6) (T := TX6) (N := 3) inX6 hB1 rfl 2 (by decide) fl_X3_50 (fun _ h9 => h9) rfl dX3_mapsAtomsFrom_5 ?_
  refine z_icmp_lt X (tgt := 13) dX3_mapsAtomsFrom_8 (by decide) (fun c_8 => ?_) (fun c9 => absurd (nI_lt (a := nx) (b := q.2.2.1) (by omega) (by omega)) c9)
  refine z_aload_n X dX3_mapsAtomsFrom_13 rfl (j := 0) rfl ?_
  refine z_getW X 0 (C := RX3) (T := TX3) (N := 6) inX3 rfl rfl 3 (by decide) fl_X3_23 (fun _ h9 => h9) rfl dX3_mapsAtomsFrom_14 ?_
  refine z_iload_n X dX3_mapsAtomsFrom_17 rfl (j := 1) rfl ?_
  refine z_reti X (as := [.int (nI Aq), .int (nI nx)]) (wc := []) (wr := [(sa, .inr (3, [.ref im, .int (nI S), .ref bq, .int (nI Aq), .ref bp, .int (nI Ap)])), (im, .inl (cy 0, 6, .inl img))]) (rest := []) (fun H9 locs9 ls9 hP9 hS9 hl9 hb9 hp9 => va_runSN (As := [.int (nI Aq), .int (nI nx)]) (rest := []) X.fix (m_isIn l D cy O (nI Aq) (nI nx) H9.size) ⟨va_cnB 2 X.hts (gB cd_X9_isIn) rfl rfl rfl (X.nw.1 _ (List.mem_of_getElem? (i := 9) rfl)) (X.hts _ ni_X9) (by decide +kernel) ⟨by show 0 + 1 ≤ 3 * (n + 1) + 4; omega, by show 8 + (2 + 11) + 0 ≤ 60 * (n + 1) + 100; omega⟩, X.hts _ sm_X9_isIn, trivial⟩ ⟨hb9, hp9⟩ rfl rfl hl9.1 rfl (lv_room (Nat.le_of_ble_eq_true rfl)) dX3_mapsAtomsFrom_18 ⟨Nat.le_of_ble_eq_true rfl, Nat.le_of_ble_eq_true rfl⟩) [] [0, 1] rfl rfl rfl rfl rfl (by decide) (fun _ h => Or.inl h) (fun r1 w2 h3 => ?_)
  obtain ⟨rfl, rfl⟩ := h3
  refine z_eq (ws' := [(sa, .inr (3, [.ref im, .int (nI S), .ref bq, .int (nI Aq), .ref bp, .int (nI Ap)])), (im, .inl (cy 0, 6, .inl img))]) (lv' := [(0, .ref sa), (1, .int (nI nx))]) (st' := [.int (bI (nI Aq) (nI nx))]) rfl rfl rfl ?_
  refine z_widen (k' := 0) (n' := 0) (Nat.le_refl _) (Nat.le_refl _) ?_
  refine z_if_ne X (tgt := 32) dX3_mapsAtomsFrom_21 (by decide) (fun c_21 => ?_) (fun c_21 => ?_)
  · skip
    have hbn := bit_yes hAq (by omega) c_21
    refine z_aload_n X dX3_mapsAtomsFrom_32 rfl (j := 0) rfl ?_
    refine z_getW X 0 (C := RX3) (T := TX3) (N := 6) inX3 rfl rfl 1 (by decide) fl_X3_15 (fun _ h9 => h9) rfl dX3_mapsAtomsFrom_33 ?_
    refine z_istore_n X (lv' := [(2, .int (nI S)), (0, .ref sa), (1, .int (nI nx))]) dX3_mapsAtomsFrom_36 rfl (by decide) rfl ?_
    refine z_iconst X (v := 0) dX3_mapsAtomsFrom_37 (by decide) ?_
    refine z_istore_n X (lv' := [(3, .int 0), (2, .int (nI S)), (0, .ref sa), (1, .int (nI nx))]) dX3_mapsAtomsFrom_38 rfl (by decide) rfl ?_
    have L : ∀ (d : Nat) (k : Nat) (ik : Nat → Int32), k + d = pu.2.2.1 → k ≤ pu.2.2.1 → exB (mtry R q pu Aq Ap n nx pm) k = false → Ext S img S ik → Zz D (va_A [(sa, .inr (3, [.ref im, .int (nI S), .ref bq, .int (nI Aq), .ref bp, .int (nI Ap)])), (im, .inl (cy 0, 6, .inl img))] s.heap.size) 4 p l e ({ frames := 3 * (n + 1) + 4, cells := 0, slots := 0, locals := 60 * (n + 1) + 100 }) s m args below meth c (MQ below (va_Qi (fun (r : Int32) (w : va_W) => r = bit (mfr R q pu Aq Ap (n + 1) nx pm) ∧ ∃ (S' : Nat) (img' : Nat → Int32), w = [(sa, .inr (3, [.ref im, .int (nI S'), .ref bq, .int (nI Aq), .ref bp, .int (nI Ap)])), (im, .inl (cy 0, 6, .inl img'))] ∧ Ext S img S' img') (end_ D [(sa, .inr (3, [.ref im, .int (nI S), .ref bq, .int (nI Aq), .ref bp, .int (nI Ap)])), (im, .inl (cy 0, 6, .inl img))] s.heap.size) (va_A [(sa, .inr (3, [.ref im, .int (nI S), .ref bq, .int (nI Aq), .ref bp, .int (nI Ap)])), (im, .inl (cy 0, 6, .inl img))] s.heap.size)) args s 0 0 (va_A [(sa, .inr (3, [.ref im, .int (nI S), .ref bq, .int (nI Aq), .ref bp, .int (nI Ap)])), (im, .inl (cy 0, 6, .inl img))] s.heap.size)) [(sa, .inr (3, [.ref im, .int (nI S), .ref bq, .int (nI Aq), .ref bp, .int (nI Ap)])), (im, .inl (cy 0, 6, .inl ik))] [(3, .int (nI k)), (2, .int (nI S)), (0, .ref sa), (1, .int (nI nx))] 0 0 39 [] := by
      intro d
      induction d with
      | zero =>
        intro k ik hL0 hL1 hL2 hL3
        refine z_iload_n X dX3_mapsAtomsFrom_39 rfl (j := 0) rfl ?_
        refine z_aload_n X dX3_mapsAtomsFrom_40 rfl (j := 2) rfl ?_
        refine z_getW X 0 (C := RX3) (T := TX3) (N := 6) inX3 rfl rfl 4 (by decide) fl_X3_26 (fun _ h9 => h9) rfl dX3_mapsAtomsFrom_41 ?_
        refine z_getO X (ci := 6) (C := RX6) (T := TX6) (N := 3) inX6 hB2 rfl 2 (by decide) fl_X3_50 (fun _ h9 => h9) rfl dX3_mapsAtomsFrom_44 ?_
        refine z_icmp_ge X (tgt := 109) dX3_mapsAtomsFrom_47 (by decide) (fun c_47 => ?_) (fun c9 => absurd (by rw [show k = pu.2.2.1 by omega]; exact nI_le (Nat.le_refl _) (by omega)) c9)
        refine z_iconst X (v := 0) dX3_mapsAtomsFrom_109 (by decide) ?_
        exact z_endz X hr (Or.inl rfl) [(sa, .inr (3, [.ref im, .int (nI S), .ref bq, .int (nI Aq), .ref bp, .int (nI Ap)])), (im, .inl (cy 0, 6, .inl ik))] [0, 1] rfl rfl rfl ⟨(by rw [mfr_y hbn, show pu.2.2.1 = k by omega, hL2]; rfl), S, ik, rfl, hL3⟩ dX3_mapsAtomsFrom_110
      | succ d ihk =>
        intro k ik hL0 hL1 hL2 hL3
        refine z_iload_n X dX3_mapsAtomsFrom_39 rfl (j := 0) rfl ?_
        refine z_aload_n X dX3_mapsAtomsFrom_40 rfl (j := 2) rfl ?_
        refine z_getW X 0 (C := RX3) (T := TX3) (N := 6) inX3 rfl rfl 4 (by decide) fl_X3_26 (fun _ h9 => h9) rfl dX3_mapsAtomsFrom_41 ?_
        refine z_getO X (ci := 6) (C := RX6) (T := TX6) (N := 3) inX6 hB2 rfl 2 (by decide) fl_X3_50 (fun _ h9 => h9) rfl dX3_mapsAtomsFrom_44 ?_
        refine z_icmp_ge X (tgt := 109) dX3_mapsAtomsFrom_47 (by decide) (fun c9 => absurd c9 (nI_ge (by omega) (by omega))) (fun c_47 => ?_)
        refine z_aload_n X dX3_mapsAtomsFrom_50 rfl (j := 2) rfl ?_
        refine z_getW X 0 (C := RX3) (T := TX3) (N := 6) inX3 rfl rfl 5 (by decide) fl_X3_29 (fun _ h9 => h9) rfl dX3_mapsAtomsFrom_51 ?_
        refine z_iload_n X dX3_mapsAtomsFrom_54 rfl (j := 0) rfl ?_
        refine z_reti X (as := [.int (nI Ap), .int (nI k)]) (wc := []) (wr := [(sa, .inr (3, [.ref im, .int (nI S), .ref bq, .int (nI Aq), .ref bp, .int (nI Ap)])), (im, .inl (cy 0, 6, .inl ik))]) (rest := []) (fun H9 locs9 ls9 hP9 hS9 hl9 hb9 hp9 => va_runSN (As := [.int (nI Ap), .int (nI k)]) (rest := []) X.fix (m_isIn l D cy O (nI Ap) (nI k) H9.size) ⟨va_cnB 2 X.hts (gB cd_X9_isIn) rfl rfl rfl (X.nw.1 _ (List.mem_of_getElem? (i := 9) rfl)) (X.hts _ ni_X9) (by decide +kernel) ⟨by show 0 + 1 ≤ 3 * (n + 1) + 4; omega, by show 8 + (2 + 11) + 0 ≤ 60 * (n + 1) + 100; omega⟩, X.hts _ sm_X9_isIn, trivial⟩ ⟨hb9, hp9⟩ rfl rfl hl9.1 rfl (lv_room (Nat.le_of_ble_eq_true rfl)) dX3_mapsAtomsFrom_55 ⟨Nat.le_of_ble_eq_true rfl, Nat.le_of_ble_eq_true rfl⟩) [] [0, 1] rfl rfl rfl rfl rfl (by decide) (fun _ h => Or.inl h) (fun r4 w5 h6 => ?_)
        obtain ⟨rfl, rfl⟩ := h6
        refine z_eq (ws' := [(sa, .inr (3, [.ref im, .int (nI S), .ref bq, .int (nI Aq), .ref bp, .int (nI Ap)])), (im, .inl (cy 0, 6, .inl ik))]) (lv' := [(3, .int (nI k)), (2, .int (nI S)), (0, .ref sa), (1, .int (nI nx))]) (st' := [.int (bI (nI Ap) (nI k))]) rfl rfl rfl ?_
        refine z_widen (k' := 0) (n' := 0) (Nat.le_refl _) (Nat.le_refl _) ?_
        refine z_if_eq X (tgt := 98) dX3_mapsAtomsFrom_58 (by decide) (fun c_58 => ?_) (fun c_58 => ?_)
        · skip
          refine z_aload_n X dX3_mapsAtomsFrom_98 rfl (j := 2) rfl ?_
          refine z_iload_n X dX3_mapsAtomsFrom_99 rfl (j := 1) rfl ?_
          refine z_putW X 0 (C := RX3) (T := TX3) (N := 6) inX3 tyX3 tyX3_ok nmX3 rfl rfl 1 (by decide) fl_X3_15 (fun _ h9 => h9) rfl (ty := .int) (by decide +kernel) rfl rfl (Nat.le_of_ble_eq_true rfl) (ws' := [(sa, .inr (3, [.ref im, .int (nI S), .ref bq, .int (nI Aq), .ref bp, .int (nI Ap)])), (im, .inl (cy 0, 6, .inl ik))]) rfl dX3_mapsAtomsFrom_100 ?_
          refine z_iinc X (j := 0) (v := (nI (k + 1))) (lv' := [(3, .int (nI (k + 1))), (2, .int (nI S)), (0, .ref sa), (1, .int (nI nx))]) dX3_mapsAtomsFrom_103 rfl (nI_1 k) (by decide) rfl ?_
          refine z_goto X (tgt := 39) dX3_mapsAtomsFrom_106 (by decide) ?_
          refine z_eq (ws' := [(sa, .inr (3, [.ref im, .int (nI S), .ref bq, .int (nI Aq), .ref bp, .int (nI Ap)])), (im, .inl (cy 0, 6, .inl ik))]) (lv' := [(3, .int (nI (k + 1))), (2, .int (nI S)), (0, .ref sa), (1, .int (nI nx))]) (st' := []) rfl rfl rfl ?_
          exact ihk (k + 1) ik (by omega) (by omega) (by rw [exB, hL2, mtry_f1 (bit_no hAp (by omega) c_58)]; rfl) (hL3)
        · skip
          refine z_aload_n X dX3_mapsAtomsFrom_61 rfl (j := 2) rfl ?_
          refine z_aload_n X dX3_mapsAtomsFrom_62 rfl (j := 2) rfl ?_
          refine z_getW X 0 (C := RX3) (T := TX3) (N := 6) inX3 rfl rfl 2 (by decide) fl_X3_19 (fun _ h9 => h9) rfl dX3_mapsAtomsFrom_63 ?_
          refine z_getO X (ci := 6) (C := RX6) (T := TX6) (N := 3) inX6 hB1 rfl 1 (by decide) fl_X3_77 (fun _ h9 => h9) rfl dX3_mapsAtomsFrom_66 ?_
          refine z_iload_n X dX3_mapsAtomsFrom_69 rfl (j := 3) rfl ?_
          refine z_aaldO X (t := 5) hF1 rfl (b := (aA1 nx)) (vp_in_nI (by omega) (by decide)) (by rw [nI_clamp (by omega)]; exact (hat1 nx (by omega)).1) dX3_mapsAtomsFrom_70 ?_
          refine z_aload_n X dX3_mapsAtomsFrom_71 rfl (j := 2) rfl ?_
          refine z_getW X 0 (C := RX3) (T := TX3) (N := 6) inX3 rfl rfl 4 (by decide) fl_X3_26 (fun _ h9 => h9) rfl dX3_mapsAtomsFrom_72 ?_
          refine z_getO X (ci := 6) (C := RX6) (T := TX6) (N := 3) inX6 hB2 rfl 1 (by decide) fl_X3_77 (fun _ h9 => h9) rfl dX3_mapsAtomsFrom_75 ?_
          refine z_iload_n X dX3_mapsAtomsFrom_78 rfl (j := 0) rfl ?_
          refine z_aaldO X (t := 5) hF2 rfl (b := (aA2 k)) (vp_in_nI (by omega) (by decide)) (by rw [nI_clamp (by omega)]; exact (hat2 k (by omega)).1) dX3_mapsAtomsFrom_79 ?_
          obtain ⟨-, hq1, hc1, ta3, T3, hc3, hc5, hc7⟩ := hat1 nx (by omega)
          obtain ⟨-, hp1, hc2, ta4, T4, hc4, hc6, hc8⟩ := hat2 k (by omega)
          obtain ⟨_, _, _, _, _, _, _, _, _, _, hP1, hP3, -⟩ := hR _ hq1
          have hre : rb (q.2.2.2.1 nx) = rb (pu.2.2.2.1 k) → q.2.2.2.1 nx = pu.2.2.2.1 k := hinj _ _ hq1 hp1
          refine z_reti X (as := [.ref sa, .ref (aA1 nx), .ref (aA2 k)]) (wc := [(sa, .inr (3, [.ref im, .int (nI S), .ref bq, .int (nI Aq), .ref bp, .int (nI Ap)])), (im, .inl (cy 0, 6, .inl ik))]) (wr := []) (rest := []) (fun H9 locs9 ls9 hP9 hS9 hl9 hb9 hp9 => va_runV (As := [.ref (aA1 nx), .ref (aA2 k)]) (rest := []) X.fix (m_mapsAtom l D cy O (a1 := aA1 nx) (a2 := aA2 k) (pm := pm) (t := q.2.2.2.2 nx) (t' := pu.2.2.2.2 k) hc1 hc2 hc3 (fun z => hc4) hc5 (fun z => hc6) hP3 hc7 (fun z => by rw [← hre z] at hc8; exact hc8) (hr9.ext hL3) H9.size) (cwV 2 X.hts (gV ml_X3_81 im_X3_mapsAtom se_X3_mapsAtom ni_X3 cd_X3_mapsAtom) rfl rfl rfl (by decide +kernel) ⟨by show 1 + 1 ≤ 3 * (n + 1) + 4; omega, by show 8 + (5 + 11) + 22 ≤ 60 * (n + 1) + 100; omega⟩) ⟨hb9, z_recvW X (q0 := 0) (ci := 3) (r := (RX3, TX3, 6)) rfl rfl hP9, hp9⟩ rfl rfl hl9.1 rfl (lv_room (Nat.le_of_ble_eq_true rfl)) dX3_mapsAtomsFrom_80 ⟨Nat.le_of_ble_eq_true rfl, Nat.le_of_ble_eq_true rfl⟩) [0, 1] [] rfl rfl rfl rfl rfl (by decide) (fun _ h => Or.inl h) (fun r7 w8 h9 => ?_)
          obtain ⟨rfl, Sy, iy, rfl, hey, hry⟩ := h9
          refine z_eq (ws' := [(sa, .inr (3, [.ref im, .int (nI Sy), .ref bq, .int (nI Aq), .ref bp, .int (nI Ap)])), (im, .inl (cy 0, 6, .inl iy))]) (lv' := [(3, .int (nI k)), (2, .int (nI S)), (0, .ref sa), (1, .int (nI nx))]) (st' := [.int (bit (decide (rb (q.2.2.2.1 nx) = rb (pu.2.2.2.1 k)) && (atmM (q.2.2.2.2 nx) (pu.2.2.2.2 k) (R (q.2.2.2.1 nx)).1 pm).isSome))]) rfl rfl rfl ?_
          refine z_widen (k' := 0) (n' := 0) (Nat.le_refl _) (Nat.le_refl _) ?_
          refine z_if_eq X (tgt := 98) dX3_mapsAtomsFrom_83 (by decide) (fun c_83 => ?_) (fun c_83 => ?_)
          · skip
            have hbf : (decide (q.2.2.2.1 nx = pu.2.2.2.1 k) && (atmM (q.2.2.2.2 nx) (pu.2.2.2.2 k) (R (q.2.2.2.1 nx)).1 pm).isSome) = false := by
              have h9 := bit_n c_83
              rw [← h9]; congr 1; simp only [decide_eq_decide]; exact ⟨fun z => by rw [z], hre⟩
            refine z_aload_n X dX3_mapsAtomsFrom_98 rfl (j := 2) rfl ?_
            refine z_iload_n X dX3_mapsAtomsFrom_99 rfl (j := 1) rfl ?_
            refine z_putW X 0 (C := RX3) (T := TX3) (N := 6) inX3 tyX3 tyX3_ok nmX3 rfl rfl 1 (by decide) fl_X3_15 (fun _ h9 => h9) rfl (ty := .int) (by decide +kernel) rfl rfl (Nat.le_of_ble_eq_true rfl) (ws' := [(sa, .inr (3, [.ref im, .int (nI S), .ref bq, .int (nI Aq), .ref bp, .int (nI Ap)])), (im, .inl (cy 0, 6, .inl iy))]) rfl dX3_mapsAtomsFrom_100 ?_
            refine z_iinc X (j := 0) (v := (nI (k + 1))) (lv' := [(3, .int (nI (k + 1))), (2, .int (nI S)), (0, .ref sa), (1, .int (nI nx))]) dX3_mapsAtomsFrom_103 rfl (nI_1 k) (by decide) rfl ?_
            refine z_goto X (tgt := 39) dX3_mapsAtomsFrom_106 (by decide) ?_
            refine z_eq (ws' := [(sa, .inr (3, [.ref im, .int (nI S), .ref bq, .int (nI Aq), .ref bp, .int (nI Ap)])), (im, .inl (cy 0, 6, .inl iy))]) (lv' := [(3, .int (nI (k + 1))), (2, .int (nI S)), (0, .ref sa), (1, .int (nI nx))]) (st' := []) rfl rfl rfl ?_
            exact ihk (k + 1) iy (by omega) (by omega) (by rw [exB, hL2, mtry_f2 hbf]; rfl) ((hL3.tr hey).back)
          · skip
            have hby := bit_y c_83
            rw [Bool.and_eq_true, decide_eq_true_eq, Option.isSome_iff_exists] at hby
            obtain ⟨hrb, pmy, hpy⟩ := hby
            have hrel := hre hrb
            refine z_aload_n X dX3_mapsAtomsFrom_86 rfl (j := 2) rfl ?_
            refine z_iload_n X dX3_mapsAtomsFrom_87 rfl (j := 3) rfl ?_
            refine z_iconst X (v := 1) dX3_mapsAtomsFrom_88 (by decide) ?_
            refine z_iadd X (v := (nI (nx + 1))) dX3_mapsAtomsFrom_89 (nI_1 nx) ?_
            refine z_reti X (as := [.ref sa, .int (nI (nx + 1))]) (wc := [(sa, .inr (3, [.ref im, .int (nI Sy), .ref bq, .int (nI Aq), .ref bp, .int (nI Ap)])), (im, .inl (cy 0, 6, .inl iy))]) (wr := []) (rest := []) (fun H9 locs9 ls9 hP9 hS9 hl9 hb9 hp9 => va_runV (As := [.int (nI (nx + 1))]) (rest := []) X.fix (ih Sy iy pmy (hry pmy hrb hpy) H9.size) (cwV 1 X.hts (gV ml_X3_36 im_X3_mapsAtomsFrom se_X3_mapsAtomsFrom ni_X3 cd_X3_mapsAtomsFrom) rfl rfl rfl (by decide +kernel) ⟨by show (3 * n + 4) + 1 ≤ 3 * (n + 1) + 4; omega, by show 8 + (4 + 11) + (60 * n + 100) ≤ 60 * (n + 1) + 100; omega⟩) ⟨hb9, z_recvW X (q0 := 0) (ci := 3) (r := (RX3, TX3, 6)) rfl rfl hP9, hp9⟩ rfl rfl hl9.1 rfl (lv_room (Nat.le_of_ble_eq_true rfl)) dX3_mapsAtomsFrom_90 ⟨Nat.le_of_ble_eq_true rfl, Nat.le_of_ble_eq_true rfl⟩) [0, 1] [] rfl rfl rfl rfl rfl (by decide) (fun _ h => Or.inl h) (fun r10 w11 h12 => ?_)
            obtain ⟨rfl, Sz, iz, rfl, hez⟩ := h12
            refine z_eq (ws' := [(sa, .inr (3, [.ref im, .int (nI Sz), .ref bq, .int (nI Aq), .ref bp, .int (nI Ap)])), (im, .inl (cy 0, 6, .inl iz))]) (lv' := [(3, .int (nI k)), (2, .int (nI S)), (0, .ref sa), (1, .int (nI nx))]) (st' := [.int (bit (mfr R q pu Aq Ap n (nx + 1) pmy))]) rfl rfl rfl ?_
            refine z_widen (k' := 0) (n' := 0) (Nat.le_refl _) (Nat.le_refl _) ?_
            refine z_if_eq X (tgt := 98) dX3_mapsAtomsFrom_93 (by decide) (fun c_93 => ?_) (fun c_93 => ?_)
            · skip
              refine z_aload_n X dX3_mapsAtomsFrom_98 rfl (j := 2) rfl ?_
              refine z_iload_n X dX3_mapsAtomsFrom_99 rfl (j := 1) rfl ?_
              refine z_putW X 0 (C := RX3) (T := TX3) (N := 6) inX3 tyX3 tyX3_ok nmX3 rfl rfl 1 (by decide) fl_X3_15 (fun _ h9 => h9) rfl (ty := .int) (by decide +kernel) rfl rfl (Nat.le_of_ble_eq_true rfl) (ws' := [(sa, .inr (3, [.ref im, .int (nI S), .ref bq, .int (nI Aq), .ref bp, .int (nI Ap)])), (im, .inl (cy 0, 6, .inl iz))]) rfl dX3_mapsAtomsFrom_100 ?_
              refine z_iinc X (j := 0) (v := (nI (k + 1))) (lv' := [(3, .int (nI (k + 1))), (2, .int (nI S)), (0, .ref sa), (1, .int (nI nx))]) dX3_mapsAtomsFrom_103 rfl (nI_1 k) (by decide) rfl ?_
              refine z_goto X (tgt := 39) dX3_mapsAtomsFrom_106 (by decide) ?_
              refine z_eq (ws' := [(sa, .inr (3, [.ref im, .int (nI S), .ref bq, .int (nI Aq), .ref bp, .int (nI Ap)])), (im, .inl (cy 0, 6, .inl iz))]) (lv' := [(3, .int (nI (k + 1))), (2, .int (nI S)), (0, .ref sa), (1, .int (nI nx))]) (st' := []) rfl rfl rfl ?_
              exact ihk (k + 1) iz (by omega) (by omega) (by rw [exB, hL2, (mtry_s (bit_yes hAp (by omega) c_58) hrel hpy).trans (bit_n c_93)]; rfl) ((hL3.tr (hey.tr hez)).back)
            · skip
              refine z_iconst X (v := 1) dX3_mapsAtomsFrom_96 (by decide) ?_
              exact z_endz X hr (Or.inr rfl) [(sa, .inr (3, [.ref im, .int (nI Sz), .ref bq, .int (nI Aq), .ref bp, .int (nI Ap)])), (im, .inl (cy 0, 6, .inl iz))] [0, 1] rfl rfl rfl ⟨(by rw [mfr_y hbn, exB_iff.mpr ⟨k, by omega, (mtry_s (bit_yes hAp (by omega) c_58) hrel hpy).trans (bit_y c_93)⟩]; rfl), Sz, iz, rfl, hL3.tr (hey.tr hez)⟩ dX3_mapsAtomsFrom_97
    refine z_eq (ws' := [(sa, .inr (3, [.ref im, .int (nI S), .ref bq, .int (nI Aq), .ref bp, .int (nI Ap)])), (im, .inl (cy 0, 6, .inl img))]) (lv' := [(3, .int (nI 0)), (2, .int (nI S)), (0, .ref sa), (1, .int (nI nx))]) (st' := []) rfl rfl rfl ?_
    exact L pu.2.2.1 0 img (by omega) (Nat.zero_le _) rfl (Ext.rf S img)
  · skip
    refine z_aload_n X dX3_mapsAtomsFrom_24 rfl (j := 0) rfl ?_
    refine z_iload_n X dX3_mapsAtomsFrom_25 rfl (j := 1) rfl ?_
    refine z_iconst X (v := 1) dX3_mapsAtomsFrom_26 (by decide) ?_
    refine z_iadd X (v := (nI (nx + 1))) dX3_mapsAtomsFrom_27 (nI_1 nx) ?_
    refine z_reti X (as := [.ref sa, .int (nI (nx + 1))]) (wc := [(sa, .inr (3, [.ref im, .int (nI S), .ref bq, .int (nI Aq), .ref bp, .int (nI Ap)])), (im, .inl (cy 0, 6, .inl img))]) (wr := []) (rest := []) (fun H9 locs9 ls9 hP9 hS9 hl9 hb9 hp9 => va_runV (As := [.int (nI (nx + 1))]) (rest := []) X.fix (ih S img pm hr9 H9.size) (cwV 1 X.hts (gV ml_X3_36 im_X3_mapsAtomsFrom se_X3_mapsAtomsFrom ni_X3 cd_X3_mapsAtomsFrom) rfl rfl rfl (by decide +kernel) ⟨by show (3 * n + 4) + 1 ≤ 3 * (n + 1) + 4; omega, by show 8 + (4 + 11) + (60 * n + 100) ≤ 60 * (n + 1) + 100; omega⟩) ⟨hb9, z_recvW X (q0 := 0) (ci := 3) (r := (RX3, TX3, 6)) rfl rfl hP9, hp9⟩ rfl rfl hl9.1 rfl (lv_room (Nat.le_of_ble_eq_true rfl)) dX3_mapsAtomsFrom_28 ⟨Nat.le_of_ble_eq_true rfl, Nat.le_of_ble_eq_true rfl⟩) [0, 1] [] rfl rfl rfl rfl rfl (by decide) (fun _ h => Or.inl h) (fun r13 w14 h15 => ?_)
    obtain ⟨rfl, Sz, iz, rfl, hez⟩ := h15
    refine z_eq (ws' := [(sa, .inr (3, [.ref im, .int (nI Sz), .ref bq, .int (nI Aq), .ref bp, .int (nI Ap)])), (im, .inl (cy 0, 6, .inl iz))]) (lv' := [(0, .ref sa), (1, .int (nI nx))]) (st' := [.int (bit (mfr R q pu Aq Ap n (nx + 1) pm))]) rfl rfl rfl ?_
    refine z_widen (k' := 0) (n' := 0) (Nat.le_refl _) (Nat.le_refl _) ?_
    exact z_endz X hr (bit_01 _) [(sa, .inr (3, [.ref im, .int (nI Sz), .ref bq, .int (nI Aq), .ref bp, .int (nI Ap)])), (im, .inl (cy 0, 6, .inl iz))] [0, 1] rfl rfl rfl ⟨(by rw [mfr_n (bit_no hAq (by omega) c_21)]), Sz, iz, rfl, hez⟩ dX3_mapsAtomsFrom_31
/-- mapsAtomsFrom(next) -/
theorem m_mapsFrom (l : Launch) (D : va_G) (cy : Nat → ClassId) (O : Nat × va_E → Prop) {sa im bq bp rc Aq Ap : Nat} {R : Nat → RRow} {rb : Nat → Nat} {q pu : URow} (hR : ∀ j, j < rc → RlO O cy (rb j) (R j)) (hq : RuO O cy R rb rc bq q) (hp : RuO O cy R rb rc bp pu) (hAq : Aq < 2 ^ 31) (hAp : Ap < 2 ^ 31) (hinj : ∀ i j, i < rc → j < rc → rb i = rb j → i = j) : ∀ (n nx : Nat), nx + n = q.2.2.1 → ∀ (S : Nat) (img : Nat → Int32) (pm : PM), Rep pm S img → Ci l yX3_mapsAtomsFrom (.code yX3_mapsAtomsFrom cX3_mapsAtomsFrom 4 (some .boolean) :: WALL) ({ frames := 3 * n + 4, cells := 0, slots := 0, locals := 60 * n + 100 }) D cy O [.ref sa, .int (nI nx)] [(sa, .inr (3, [.ref im, .int (nI S), .ref bq, .int (nI Aq), .ref bp, .int (nI Ap)])), (im, .inl (cy 0, 6, .inl img))] 0 0 (fun (r : Int32) (w : va_W) => r = bit (mfr R q pu Aq Ap n nx pm) ∧ ∃ (S' : Nat) (img' : Nat → Int32), w = [(sa, .inr (3, [.ref im, .int (nI S'), .ref bq, .int (nI Aq), .ref bp, .int (nI Ap)])), (im, .inl (cy 0, 6, .inl img'))] ∧ Ext S img S' img')
  | 0, nx, h, S, img, pm, hr => by
    have e : nx = q.2.2.1 := by omega
    subst e
    exact m_mapsFrom_0 l D cy O hR hq hp hAq hAp hr
  | n + 1, nx, h, S, img, pm, hr => m_mapsFrom_s l D cy O hR hq hp hAq hAp hinj h (m_mapsFrom l D cy O hR hq hp hAq hAp hinj n (nx + 1) (by omega)) hr
set_option maxHeartbeats 4000000 in
set_option maxRecDepth 100000 in
/-- finds(q, atomsOfQ, p, atomsOfP) -/
theorem m_finds (l : Launch) (D : va_G) (cy : Nat → ClassId) (O : Nat × va_E → Prop) {sa im bq bp rc Aq Ap : Nat} {R : Nat → RRow} {rb : Nat → Nat} {q pu : URow} {img : Nat → Int32} {v1 v2 v3 v4 v5 : Value} (hR : ∀ j, j < rc → RlO O cy (rb j) (R j)) (hq : RuO O cy R rb rc bq q) (hp : RuO O cy R rb rc bp pu) (hAq : Aq < 2 ^ 31) (hAp : Ap < 2 ^ 31) (hinj : ∀ i j, i < rc → j < rc → rb i = rb j → i = j) : Ci l yX3_finds (.code yX3_finds cX3_finds 5 (some .boolean) :: WALL) ({ frames := 30, cells := 0, slots := 0, locals := 500 }) D cy O [.ref sa, .ref bq, .int (nI Aq), .ref bp, .int (nI Ap)] [(sa, .inr (3, [.ref im, v1, v2, v3, v4, v5])), (im, .inl (cy 0, 6, .inl img))] 0 0 (fun (r : Int32) (w : va_W) => r = bit (fnd R q Aq pu Ap) ∧ MsW cy sa im w) := by
  have hm5 : q.2.2.1 ≤ 5 := by
    obtain ⟨_, _, _, _, _, -, -, -, -, h, -⟩ := hq
    exact h
  refine z_meti (by decide) rfl rfl (Nat.le_of_ble_eq_true rfl) ?_
  intro p e s m args below meth c X hr hin
  refine z_eq (ws' := [(sa, .inr (3, [.ref im, v1, v2, v3, v4, v5])), (im, .inl (cy 0, 6, .inl img))]) (lv' := [(0, .ref sa), (1, .ref bq), (2, .int (nI Aq)), (3, .ref bp), (4, .int (nI Ap))]) (st' := []) rfl rfl rfl ?_
  refine z_aload_n X dX3_finds_0 rfl (j := 0) rfl ?_
  refine z_aload_n X dX3_finds_1 rfl (j := 1) rfl ?_
  refine z_putW X 0 (C := RX3) (T := TX3) (N := 6) inX3 tyX3 tyX3_ok nmX3 rfl rfl 2 (by decide) fl_X3_19 (fun _ h9 => h9) rfl (ty := (.object "Thimble$Rule")) (by decide +kernel) rfl rfl (Nat.le_of_ble_eq_true rfl) (ws' := [(sa, .inr (3, [.ref im, v1, .ref bq, v3, v4, v5])), (im, .inl (cy 0, 6, .inl img))]) rfl dX3_finds_2 ?_
  refine z_aload_n X dX3_finds_5 rfl (j := 0) rfl ?_
  refine z_iload_n X dX3_finds_6 rfl (j := 2) rfl ?_
  refine z_putW X 0 (C := RX3) (T := TX3) (N := 6) inX3 tyX3 tyX3_ok nmX3 rfl rfl 3 (by decide) fl_X3_23 (fun _ h9 => h9) rfl (ty := .int) (by decide +kernel) rfl rfl (Nat.le_of_ble_eq_true rfl) (ws' := [(sa, .inr (3, [.ref im, v1, .ref bq, .int (nI Aq), v4, v5])), (im, .inl (cy 0, 6, .inl img))]) rfl dX3_finds_7 ?_
  refine z_aload_n X dX3_finds_10 rfl (j := 0) rfl ?_
  refine z_aload_n X dX3_finds_11 rfl (j := 3) rfl ?_
  refine z_putW X 0 (C := RX3) (T := TX3) (N := 6) inX3 tyX3 tyX3_ok nmX3 rfl rfl 4 (by decide) fl_X3_26 (fun _ h9 => h9) rfl (ty := (.object "Thimble$Rule")) (by decide +kernel) rfl rfl (Nat.le_of_ble_eq_true rfl) (ws' := [(sa, .inr (3, [.ref im, v1, .ref bq, .int (nI Aq), .ref bp, v5])), (im, .inl (cy 0, 6, .inl img))]) rfl dX3_finds_12 ?_
  refine z_aload_n X dX3_finds_15 rfl (j := 0) rfl ?_
  refine z_iload X dX3_finds_16 (j := 4) rfl ?_
  refine z_putW X 0 (C := RX3) (T := TX3) (N := 6) inX3 tyX3 tyX3_ok nmX3 rfl rfl 5 (by decide) fl_X3_29 (fun _ h9 => h9) rfl (ty := .int) (by decide +kernel) rfl rfl (Nat.le_of_ble_eq_true rfl) (ws' := [(sa, .inr (3, [.ref im, v1, .ref bq, .int (nI Aq), .ref bp, .int (nI Ap)])), (im, .inl (cy 0, 6, .inl img))]) rfl dX3_finds_18 ?_
  refine z_aload_n X dX3_finds_21 rfl (j := 0) rfl ?_
  refine z_iconst X (v := 0) dX3_finds_22 (by decide) ?_
  refine z_putW X 0 (C := RX3) (T := TX3) (N := 6) inX3 tyX3 tyX3_ok nmX3 rfl rfl 1 (by decide) fl_X3_15 (fun _ h9 => h9) rfl (ty := .int) (by decide +kernel) rfl rfl (Nat.le_of_ble_eq_true rfl) (ws' := [(sa, .inr (3, [.ref im, .int 0, .ref bq, .int (nI Aq), .ref bp, .int (nI Ap)])), (im, .inl (cy 0, 6, .inl img))]) rfl dX3_finds_23 ?_
  refine z_aload_n X dX3_finds_26 rfl (j := 0) rfl ?_
  refine z_reti X (as := [.ref sa]) (wc := [(sa, .inr (3, [.ref im, .int 0, .ref bq, .int (nI Aq), .ref bp, .int (nI Ap)])), (im, .inl (cy 0, 6, .inl img))]) (wr := []) (rest := []) (fun H9 locs9 ls9 hP9 hS9 hl9 hb9 hp9 => va_runV (As := []) (rest := []) X.fix (m_mapsHead l D cy O hR hq hp hAq hAp (Rep.zero img) H9.size) (cwV 0 X.hts (gV ml_X3_32 im_X3_mapsHead se_X3_mapsHead ni_X3 cd_X3_mapsHead) rfl rfl rfl (by decide +kernel) ⟨by show 2 + 1 ≤ 30; omega, by show 8 + (6 + 11) + 44 ≤ 500; omega⟩) ⟨hb9, z_recvW X (q0 := 0) (ci := 3) (r := (RX3, TX3, 6)) rfl rfl hP9, hp9⟩ rfl rfl hl9.1 rfl (lv_room (Nat.le_of_ble_eq_true rfl)) dX3_finds_27 ⟨Nat.le_of_ble_eq_true rfl, Nat.le_of_ble_eq_true rfl⟩) [0, 1] [] rfl rfl rfl rfl rfl (by decide) (fun _ h => Or.inl h) (fun r1 w2 h3 => ?_)
  obtain ⟨rfl, S1, i1, rfl, he1, hr1⟩ := h3
  refine z_eq (ws' := [(sa, .inr (3, [.ref im, .int (nI S1), .ref bq, .int (nI Aq), .ref bp, .int (nI Ap)])), (im, .inl (cy 0, 6, .inl i1))]) (lv' := [(0, .ref sa), (1, .ref bq), (2, .int (nI Aq)), (3, .ref bp), (4, .int (nI Ap))]) (st' := [.int (bit (decide (q.1 = pu.1) && (hdM (uva R q Aq) q.2.1 pu.2.1 q.1 (fun _ => none)).isSome))]) rfl rfl rfl ?_
  refine z_widen (k' := 0) (n' := 0) (Nat.le_refl _) (Nat.le_refl _) ?_
  refine z_if_eq X (tgt := 45) dX3_finds_30 (by decide) (fun c_30 => ?_) (fun c_30 => ?_)
  · skip
    have hf0 : (0 : Int32) = bit (fnd R q Aq pu Ap) := by
      have h9 := bit_n c_30
      rw [fnd]
      cases e : decide (q.1 = pu.1)
      · rfl
      · rw [e, Bool.true_and, Option.isSome_eq_false_iff, Option.isNone_iff_eq_none] at h9; rw [h9]; rfl
    refine z_iconst X (v := 0) dX3_finds_45 (by decide) ?_
    exact z_endz X hr (by first | exact Or.inl rfl | exact Or.inr rfl) [(sa, .inr (3, [.ref im, .int (nI S1), .ref bq, .int (nI Aq), .ref bp, .int (nI Ap)])), (im, .inl (cy 0, 6, .inl i1))] [0, 1] rfl rfl rfl ⟨hf0, _, _, _, _, _, _, rfl⟩ dX3_finds_46
  · skip
    have hby := bit_y c_30
    rw [Bool.and_eq_true, decide_eq_true_eq, Option.isSome_iff_exists] at hby
    obtain ⟨hqp, pm1, hpm1⟩ := hby
    refine z_aload_n X dX3_finds_33 rfl (j := 0) rfl ?_
    refine z_iconst X (v := 0) dX3_finds_34 (by decide) ?_
    refine z_reti X (as := [.ref sa, .int 0]) (wc := [(sa, .inr (3, [.ref im, .int (nI S1), .ref bq, .int (nI Aq), .ref bp, .int (nI Ap)])), (im, .inl (cy 0, 6, .inl i1))]) (wr := []) (rest := []) (fun H9 locs9 ls9 hP9 hS9 hl9 hb9 hp9 => va_runV (As := [.int 0]) (rest := []) X.fix (m_mapsFrom l D cy O hR hq hp hAq hAp hinj q.2.2.1 0 (by omega) S1 i1 pm1 (hr1 pm1 hqp hpm1) H9.size) (cwV 1 X.hts (gV ml_X3_36 im_X3_mapsAtomsFrom se_X3_mapsAtomsFrom ni_X3 cd_X3_mapsAtomsFrom) rfl rfl rfl (by decide +kernel) ⟨by show (3 * q.2.2.1 + 4) + 1 ≤ 30; omega, by show 8 + (4 + 11) + (60 * q.2.2.1 + 100) ≤ 500; omega⟩) ⟨hb9, z_recvW X (q0 := 0) (ci := 3) (r := (RX3, TX3, 6)) rfl rfl hP9, hp9⟩ rfl rfl hl9.1 rfl (lv_room (Nat.le_of_ble_eq_true rfl)) dX3_finds_35 ⟨Nat.le_of_ble_eq_true rfl, Nat.le_of_ble_eq_true rfl⟩) [0, 1] [] rfl rfl rfl rfl rfl (by decide) (fun _ h => Or.inl h) (fun r4 w5 h6 => ?_)
    obtain ⟨rfl, S2, i2, rfl, he2⟩ := h6
    refine z_eq (ws' := [(sa, .inr (3, [.ref im, .int (nI S2), .ref bq, .int (nI Aq), .ref bp, .int (nI Ap)])), (im, .inl (cy 0, 6, .inl i2))]) (lv' := [(0, .ref sa), (1, .ref bq), (2, .int (nI Aq)), (3, .ref bp), (4, .int (nI Ap))]) (st' := [.int (bit (mfr R q pu Aq Ap q.2.2.1 0 pm1))]) rfl rfl rfl ?_
    refine z_widen (k' := 0) (n' := 0) (Nat.le_refl _) (Nat.le_refl _) ?_
    refine z_if_eq X (tgt := 45) dX3_finds_38 (by decide) (fun c_38 => ?_) (fun c_38 => ?_)
    · skip
      refine z_iconst X (v := 0) dX3_finds_45 (by decide) ?_
      exact z_endz X hr (by first | exact Or.inl rfl | exact Or.inr rfl) [(sa, .inr (3, [.ref im, .int (nI S2), .ref bq, .int (nI Aq), .ref bp, .int (nI Ap)])), (im, .inl (cy 0, 6, .inl i2))] [0, 1] rfl rfl rfl ⟨(by rw [fnd, decide_eq_true hqp, hpm1]; show 0 = bit (true && mfr R q pu Aq Ap q.2.2.1 0 pm1); rw [bit_n c_38]; rfl), _, _, _, _, _, _, rfl⟩ dX3_finds_46
    · skip
      refine z_iconst X (v := 1) dX3_finds_41 (by decide) ?_
      refine z_goto X (tgt := 46) dX3_finds_42 (by decide) ?_
      exact z_endz X hr (by first | exact Or.inl rfl | exact Or.inr rfl) [(sa, .inr (3, [.ref im, .int (nI S2), .ref bq, .int (nI Aq), .ref bp, .int (nI Ap)])), (im, .inl (cy 0, 6, .inl i2))] [0, 1] rfl rfl rfl ⟨(by rw [fnd, decide_eq_true hqp, hpm1]; show 1 = bit (true && mfr R q pu Aq Ap q.2.2.1 0 pm1); rw [bit_y c_38]; rfl), _, _, _, _, _, _, rfl⟩ dX3_finds_46
/-- the atoms that are left when k have been looked at -/
def shrt (R : Nat → RRow) (u : URow) : Nat → Nat
  | 0 => 2 ^ u.2.2.1 - 1
  | k + 1 => if fnd R u (shrt R u k) u (nd (shrt R u k) (2 ^ k)) then nd (shrt R u k) (2 ^ k) else shrt R u k
theorem shrt_lt (R : Nat → RRow) (u : URow) : ∀ k, shrt R u k < 2 ^ u.2.2.1
  | 0 => by rw [shrt]; have := Nat.two_pow_pos u.2.2.1; omega
  | k + 1 => by
    rw [shrt]; split
    · exact nd_lt (shrt_lt R u k)
    · exact shrt_lt R u k
set_option maxHeartbeats 4000000 in
set_option maxRecDepth 100000 in
/-- shortened(rule) -/
theorem m_shortened (l : Launch) (D : va_G) (cy : Nat → ClassId) (O : Nat × va_E → Prop) {sa im bq rc : Nat} {R : Nat → RRow} {rb : Nat → Nat} {q : URow} {img : Nat → Int32} {v1 v2 v3 v4 v5 : Value} (hR : ∀ j, j < rc → RlO O cy (rb j) (R j)) (hq : RuO O cy R rb rc bq q) (hinj : ∀ i j, i < rc → j < rc → rb i = rb j → i = j) : Ci l yX3_shortened (.code yX3_shortened cX3_shortened 4 (some .int) :: WALL) ({ frames := 31, cells := 0, slots := 0, locals := 530 }) D cy O [.ref sa, .ref bq] [(sa, .inr (3, [.ref im, v1, v2, v3, v4, v5])), (im, .inl (cy 0, 6, .inl img))] 0 0 (fun (r : Int32) (w : va_W) => r = nI (shrt R q q.2.2.1) ∧ MsW cy sa im w) := by
  have hq' := hq
  obtain ⟨hd1, aa1, F1, aA1, tA1, hB1, ⟨ta1, T1, hM1, hT1, ht1⟩, hF1, hh1, hm1, hat1⟩ := hq'
  have hsl : ∀ k, shrt R q k < 2 ^ 31 := fun k => Nat.lt_of_lt_of_le (shrt_lt R q k) (Nat.pow_le_pow_right (by decide) (by omega))
  refine z_meti (by decide) rfl rfl (Nat.le_of_ble_eq_true rfl) ?_
  intro p e s m args below meth c X hr hin
  refine z_eq (ws' := [(sa, .inr (3, [.ref im, v1, v2, v3, v4, v5])), (im, .inl (cy 0, 6, .inl img))]) (lv' := [(0, .ref sa), (1, .ref bq)]) (st' := []) rfl rfl rfl ?_
  have L : ∀ (d : Nat) (k : Nat) (x1 x2 x3 x4 x5 : Value) (ix : Nat → Int32), k + d = q.2.2.1 → Zz D (va_A [(sa, .inr (3, [.ref im, v1, v2, v3, v4, v5])), (im, .inl (cy 0, 6, .inl img))] s.heap.size) 4 p l e ({ frames := 31, cells := 0, slots := 0, locals := 530 }) s m args below meth c (MQ below (va_Qi (fun (r : Int32) (w : va_W) => r = nI (shrt R q q.2.2.1) ∧ MsW cy sa im w) (end_ D [(sa, .inr (3, [.ref im, v1, v2, v3, v4, v5])), (im, .inl (cy 0, 6, .inl img))] s.heap.size) (va_A [(sa, .inr (3, [.ref im, v1, v2, v3, v4, v5])), (im, .inl (cy 0, 6, .inl img))] s.heap.size)) args s 0 0 (va_A [(sa, .inr (3, [.ref im, v1, v2, v3, v4, v5])), (im, .inl (cy 0, 6, .inl img))] s.heap.size)) [(sa, .inr (3, [.ref im, x1, x2, x3, x4, x5])), (im, .inl (cy 0, 6, .inl ix))] [(3, .int (nI k)), (2, .int (nI (shrt R q k))), (0, .ref sa), (1, .ref bq)] 0 0 7 [] := by
    intro d
    induction d with
    | zero =>
      intro k x1 x2 x3 x4 x5 ix hL0
      refine z_iload_n X dX3_shortened_7 rfl (j := 0) rfl ?_
      refine z_aload_n X dX3_shortened_8 rfl (j := 3) rfl ?_
      refine z_getO X (ci := 6) (C := RX6) (T := TX6) (N := 3) inX6 hB1 rfl 2 (by decide) fl_X3_50 (fun _ h9 => h9) rfl dX3_shortened_9 ?_
      refine z_icmp_ge X (tgt := 46) dX3_shortened_12 (by decide) (fun c_12 => ?_) (fun c9 => absurd (by rw [show k = q.2.2.1 by omega]; exact nI_le (Nat.le_refl _) (by omega)) c9)
      refine z_iload_n X dX3_shortened_46 rfl (j := 1) rfl ?_
      exact z_endi X hr [(sa, .inr (3, [.ref im, x1, x2, x3, x4, x5])), (im, .inl (cy 0, 6, .inl ix))] [0, 1] rfl rfl rfl ⟨(by rw [show k = q.2.2.1 by omega]), _, _, _, _, _, _, rfl⟩ dX3_shortened_47
    | succ d ih =>
      intro k x1 x2 x3 x4 x5 ix hL0
      refine z_iload_n X dX3_shortened_7 rfl (j := 0) rfl ?_
      refine z_aload_n X dX3_shortened_8 rfl (j := 3) rfl ?_
      refine z_getO X (ci := 6) (C := RX6) (T := TX6) (N := 3) inX6 hB1 rfl 2 (by decide) fl_X3_50 (fun _ h9 => h9) rfl dX3_shortened_9 ?_
      refine z_icmp_ge X (tgt := 46) dX3_shortened_12 (by decide) (fun c9 => absurd c9 (nI_ge (by omega) (by omega))) (fun c_12 => ?_)
      refine z_aload_n X dX3_shortened_15 rfl (j := 2) rfl ?_
      refine z_aload_n X dX3_shortened_16 rfl (j := 3) rfl ?_
      refine z_iload_n X dX3_shortened_17 rfl (j := 1) rfl ?_
      refine z_aload_n X dX3_shortened_18 rfl (j := 3) rfl ?_
      refine z_iload_n X dX3_shortened_19 rfl (j := 1) rfl ?_
      refine z_iconst X (v := 1) dX3_shortened_20 (by decide) ?_
      refine z_iload_n X dX3_shortened_21 rfl (j := 0) rfl ?_
      refine z_ishl X (v := ((1 : Int32) <<< (nI k &&& 31))) dX3_shortened_22 rfl ?_
      refine z_iconst X (v := (-1)) dX3_shortened_23 (by decide) ?_
      refine z_ixor X (v := (((1 : Int32) <<< (nI k &&& 31)) ^^^ (-1))) dX3_shortened_24 rfl ?_
      refine z_iand X (v := (nI (nd (shrt R q k) (2 ^ k)))) dX3_shortened_25 (one_shl_not (by omega) _) ?_
      refine z_reti X (as := [.ref sa, .ref bq, .int (nI (shrt R q k)), .ref bq, .int (nI (nd (shrt R q k) (2 ^ k)))]) (wc := [(sa, .inr (3, [.ref im, x1, x2, x3, x4, x5])), (im, .inl (cy 0, 6, .inl ix))]) (wr := []) (rest := []) (fun H9 locs9 ls9 hP9 hS9 hl9 hb9 hp9 => va_runV (As := [.ref bq, .int (nI (shrt R q k)), .ref bq, .int (nI (nd (shrt R q k) (2 ^ k)))]) (rest := []) X.fix (m_finds l D cy O hR hq hq (hsl k) (nd_lt (hsl k)) hinj H9.size) (cwV 4 X.hts (gV ml_X3_53 im_X3_finds se_X3_finds ni_X3 cd_X3_finds) rfl rfl rfl (by decide +kernel) ⟨by show 30 + 1 ≤ 31; omega, by show 8 + (5 + 11) + 500 ≤ 530; omega⟩) ⟨hb9, z_recvW X (q0 := 0) (ci := 3) (r := (RX3, TX3, 6)) rfl rfl hP9, hp9⟩ rfl rfl hl9.1 rfl (lv_room (Nat.le_of_ble_eq_true rfl)) dX3_shortened_26 ⟨Nat.le_of_ble_eq_true rfl, Nat.le_of_ble_eq_true rfl⟩) [0, 1] [] rfl rfl rfl rfl rfl (by decide) (fun _ h => Or.inl h) (fun r1 w2 h3 => ?_)
      obtain ⟨rfl, y1, y2, y3, y4, y5, iy, rfl⟩ := h3
      refine z_eq (ws' := [(sa, .inr (3, [.ref im, y1, y2, y3, y4, y5])), (im, .inl (cy 0, 6, .inl iy))]) (lv' := [(3, .int (nI k)), (2, .int (nI (shrt R q k))), (0, .ref sa), (1, .ref bq)]) (st' := [.int (bit (fnd R q (shrt R q k) q (nd (shrt R q k) (2 ^ k))))]) rfl rfl rfl ?_
      refine z_widen (k' := 0) (n' := 0) (Nat.le_refl _) (Nat.le_refl _) ?_
      refine z_if_eq X (tgt := 40) dX3_shortened_29 (by decide) (fun c_29 => ?_) (fun c_29 => ?_)
      · skip
        refine z_iinc X (j := 0) (v := (nI (k + 1))) (lv' := [(3, .int (nI (k + 1))), (2, .int (nI (shrt R q k))), (0, .ref sa), (1, .ref bq)]) dX3_shortened_40 rfl (nI_1 k) (by decide) rfl ?_
        refine z_goto X (tgt := 7) dX3_shortened_43 (by decide) ?_
        refine z_eq (ws' := [(sa, .inr (3, [.ref im, y1, y2, y3, y4, y5])), (im, .inl (cy 0, 6, .inl iy))]) (lv' := [(3, .int (nI (k + 1))), (2, .int (nI (shrt R q (k + 1)))), (0, .ref sa), (1, .ref bq)]) (st' := []) rfl (by rw [shrt, if_neg (by rw [bit_n c_29]; decide)]) rfl ?_
        exact ih (k + 1) y1 y2 y3 y4 y5 iy (by omega)
      · skip
        refine z_iload_n X dX3_shortened_32 rfl (j := 1) rfl ?_
        refine z_iconst X (v := 1) dX3_shortened_33 (by decide) ?_
        refine z_iload_n X dX3_shortened_34 rfl (j := 0) rfl ?_
        refine z_ishl X (v := ((1 : Int32) <<< (nI k &&& 31))) dX3_shortened_35 rfl ?_
        refine z_iconst X (v := (-1)) dX3_shortened_36 (by decide) ?_
        refine z_ixor X (v := (((1 : Int32) <<< (nI k &&& 31)) ^^^ (-1))) dX3_shortened_37 rfl ?_
        refine z_iand X (v := (nI (nd (shrt R q k) (2 ^ k)))) dX3_shortened_38 (one_shl_not (by omega) _) ?_
        refine z_istore_n X (lv' := [(2, .int (nI (nd (shrt R q k) (2 ^ k)))), (3, .int (nI k)), (0, .ref sa), (1, .ref bq)]) dX3_shortened_39 rfl (by decide) rfl ?_
        refine z_iinc X (j := 1) (v := (nI (k + 1))) (lv' := [(3, .int (nI (k + 1))), (2, .int (nI (nd (shrt R q k) (2 ^ k)))), (0, .ref sa), (1, .ref bq)]) dX3_shortened_40 rfl (nI_1 k) (by decide) rfl ?_
        refine z_goto X (tgt := 7) dX3_shortened_43 (by decide) ?_
        refine z_eq (ws' := [(sa, .inr (3, [.ref im, y1, y2, y3, y4, y5])), (im, .inl (cy 0, 6, .inl iy))]) (lv' := [(3, .int (nI (k + 1))), (2, .int (nI (shrt R q (k + 1)))), (0, .ref sa), (1, .ref bq)]) (st' := []) rfl (by rw [shrt, if_pos (bit_y c_29)]) rfl ?_
        exact ih (k + 1) y1 y2 y3 y4 y5 iy (by omega)
  refine z_aload_n X dX3_shortened_0 rfl (j := 1) rfl ?_
  refine z_reti X (as := [.ref bq]) (wc := []) (wr := [(sa, .inr (3, [.ref im, v1, v2, v3, v4, v5])), (im, .inl (cy 0, 6, .inl img))]) (rest := []) (fun H9 locs9 ls9 hP9 hS9 hl9 hb9 hp9 => va_runV (As := []) (rest := []) X.fix (m_allAtoms l D cy O hB1 hm1 H9.size) (cwV 0 X.hts (gV ml_X3_44 im_X6_allAtoms se_X6_allAtoms ni_X6 cd_X6_allAtoms) rfl rfl rfl (by decide +kernel) ⟨by show 0 + 1 ≤ 31; omega, by show 8 + (1 + 11) + 0 ≤ 530; omega⟩) ⟨hb9, z_recvO X (ci := 6) (r := (RX6, TX6, 3)) hB1 rfl hS9, hp9⟩ rfl rfl hl9.1 rfl (lv_room (Nat.le_of_ble_eq_true rfl)) dX3_shortened_1 ⟨Nat.le_of_ble_eq_true rfl, Nat.le_of_ble_eq_true rfl⟩) [] [0, 1] rfl rfl rfl rfl rfl (by decide) (fun _ h => Or.inl h) (fun r4 w5 h6 => ?_)
  obtain ⟨rfl, rfl⟩ := h6
  refine z_eq (ws' := [(sa, .inr (3, [.ref im, v1, v2, v3, v4, v5])), (im, .inl (cy 0, 6, .inl img))]) (lv' := [(0, .ref sa), (1, .ref bq)]) (st' := [.int (nI (2 ^ q.2.2.1 - 1))]) rfl rfl rfl ?_
  refine z_widen (k' := 0) (n' := 0) (Nat.le_refl _) (Nat.le_refl _) ?_
  refine z_istore_n X (lv' := [(2, .int (nI (2 ^ q.2.2.1 - 1))), (0, .ref sa), (1, .ref bq)]) dX3_shortened_4 rfl (by decide) rfl ?_
  refine z_iconst X (v := 0) dX3_shortened_5 (by decide) ?_
  refine z_istore_n X (lv' := [(3, .int 0), (2, .int (nI (2 ^ q.2.2.1 - 1))), (0, .ref sa), (1, .ref bq)]) dX3_shortened_6 rfl (by decide) rfl ?_
  refine z_eq (ws' := [(sa, .inr (3, [.ref im, v1, v2, v3, v4, v5])), (im, .inl (cy 0, 6, .inl img))]) (lv' := [(3, .int (nI 0)), (2, .int (nI (shrt R q 0))), (0, .ref sa), (1, .ref bq)]) (st' := []) rfl rfl rfl ?_
  exact L q.2.2.1 0 v1 v2 v3 v4 v5 img (by omega)
