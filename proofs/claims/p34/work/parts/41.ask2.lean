/-! the class: what is asked of rules -/
/-- the rules' world -/
def UW (O : Nat × va_E → Prop) (cy : Nat → ClassId) (R : Nat → RRow) (rc : Nat) (rb : Nat → Nat) (U : Nat → URow) (ub : Nat → Nat) (ua uc : Nat) : Prop := (∀ j, j < rc → RlO O cy (rb j) (R j)) ∧ (∀ i j, i < rc → j < rc → rb i = rb j → i = j) ∧ uc ≤ 8 ∧ ∃ F : Nat → Option Nat, O (ua, .inl (cy 4, 8, .inr (.inr (.inr (.inr F))))) ∧ ∀ i, i < uc → F i = some (ub i) ∧ RuO O cy R rb rc (ub i) (U i)
theorem UW.mono {O O' : Nat × va_E → Prop} {cy : Nat → ClassId} {R : Nat → RRow} {rc : Nat} {rb : Nat → Nat} {U : Nat → URow} {ub : Nat → Nat} {ua uc : Nat} (h : ∀ q, O q → O' q) : UW O cy R rc rb U ub ua uc → UW O' cy R rc rb U ub ua uc := fun ⟨a, b, c, F, d, e⟩ => ⟨fun j hj => (a j hj).mono h, b, c, F, h _ d, fun i hi => ⟨(e i hi).1, (e i hi).2.mono h⟩⟩
/-- whether rule u is grounded -/
def gr (R : Nat → RRow) (u : URow) : Bool := decide (nd (vsf u.2.1 u.1) (uva R u (2 ^ u.2.2.1 - 1)) = 0)
theorem gr_y {R : Nat → RRow} {u : URow} (h : gr R u = true) : grd R u := show nd _ _ = 0 from of_decide_eq_true h
theorem rl_tm {O : Nat × va_E → Prop} {cy : Nat → ClassId} {tm n : Nat} {t : Nat → Nat} (h : TmO O cy tm n t) : ∃ v w x : Value, O (tm, .inr (7, [v, w, .int (nI (vsf t n)), x])) := by obtain ⟨ta, Tf, h1, -⟩ := h; exact ⟨_, _, _, h1⟩
theorem shr5 {R : Nat → RRow} {u : URow} (h : u.2.2.1 ≤ 5) : shrt R u u.2.2.1 < 2 ^ 5 := Nat.lt_of_lt_of_le (shrt_lt R u _) (Nat.pow_le_pow_right (by decide) h)
theorem gr_if {R : Nat → RRow} {u : URow} : (if nd (vsf u.2.1 u.1) (vin (2 ^ u.2.2.1 - 1) (uvs R u) u.2.2.1) = 0 then (1 : Int32) else 0) = bit (gr R u) := by
  unfold gr uva
  by_cases h : nd (vsf u.2.1 u.1) (vin (2 ^ u.2.2.1 - 1) (uvs R u) u.2.2.1) = 0
  · rw [if_pos h, decide_eq_true h]; rfl
  · rw [if_neg h, decide_eq_false h]; rfl
theorem bit_if {b : Bool} : (if ¬ bit b = 0 then (1 : Int32) else 0) = bit b := by cases b <;> rfl
set_option maxHeartbeats 4000000 in
set_option maxRecDepth 100000 in
/-- needGrounded: it is -/
theorem m_needGrounded (l : Launch) (D : va_G) (cy : Nat → ClassId) (O : Nat × va_E → Prop) {bq rc : Nat} {R : Nat → RRow} {rb : Nat → Nat} {q : URow} (hq : RuO O cy R rb rc bq q) (hgr : gr R q = true) : Cv l yX9_needGrounded (.code yX9_needGrounded cX9_needGrounded 1 none :: WALL) ({ frames := 3, cells := 0, slots := 0, locals := 64 }) D cy O [.ref bq] [] 0 0 (fun (w : va_W) => w = []) := by
  have hq' := hq
  obtain ⟨hd1, aa1, F1, aA1, tA1, hB1, ⟨ta1, T1, hM1, hT1, ht1⟩, hF1, hh1, hm1, hat1⟩ := hq'
  refine z_metv (by decide) rfl rfl (Nat.le_of_ble_eq_true rfl) ?_
  intro p e s m args below meth c X hr hin
  refine z_eq (ws' := []) (lv' := [(0, .ref bq)]) (st' := []) rfl rfl rfl ?_
  refine z_aload_n X dX9_needGrounded_0 rfl (j := 0) rfl ?_
  refine z_reti X (as := [.ref bq]) (wc := []) (wr := []) (rest := []) (fun H9 locs9 ls9 hP9 hS9 hl9 hb9 hp9 => va_runV (As := []) (rest := []) X.fix (m_isGrounded l D cy O (vs := uvs R q) hB1 hM1 hF1 hm1 (Nat.lt_trans (vsf_lt _ _) (by decide)) (fun k hk => (hat1 k hk).1) (fun k hk => ⟨_, (hat1 k hk).2.2.1⟩) (fun k hk => rl_tm (hat1 k hk).2.2.2) H9.size) (cwV 0 X.hts (gV ml_X9_238 im_X6_isGrounded se_X6_isGrounded ni_X6 cd_X6_isGrounded) rfl rfl rfl (by decide +kernel) ⟨Nat.le_of_ble_eq_true rfl, Nat.le_of_ble_eq_true rfl⟩) ⟨hb9, z_recvO X (ci := 6) (r := (RX6, TX6, 3)) hB1 rfl hS9, hp9⟩ rfl rfl hl9.1 rfl (lv_room (Nat.le_of_ble_eq_true rfl)) dX9_needGrounded_1 ⟨Nat.le_of_ble_eq_true rfl, Nat.le_of_ble_eq_true rfl⟩) [] [] rfl rfl rfl rfl rfl (by decide) (fun _ h => Or.inl h) (fun r1 w2 h3 => ?_)
  obtain ⟨rfl, rfl⟩ := h3
  rw [gr_if, hgr, show bit true = 1 from rfl]
  refine z_eq (ws' := []) (lv' := [(0, .ref bq)]) (st' := [.int 1]) rfl rfl rfl ?_
  refine z_widen (k' := 0) (n' := 0) (Nat.le_refl _) (Nat.le_refl _) ?_
  refine z_if_ne X (tgt := 18) dX9_needGrounded_4 (by decide) (fun c_4 => ?_) (fun c9 => absurd c9 (by decide))
  exact z_endv X hr [] [] rfl rfl rfl rfl dX9_needGrounded_18
set_option maxHeartbeats 4000000 in
set_option maxRecDepth 100000 in
/-- ofRule(rule, 0) -/
theorem m_ofRule_0 (l : Launch) (D : va_G) (cy : Nat → ClassId) (O : Nat × va_E → Prop) {a ra fa ua rc fc uc wk sa : Nat} {g6 : Value} (hO : O (a, .inr (9, [.ref ra, .int (nI rc), .ref fa, .int (nI fc), .ref ua, .int (nI uc), g6, .ref wk, .ref sa]))) {R : Nat → RRow} {rb : Nat → Nat} {U : Nat → URow} {ub : Nat → Nat} (hU : UW O cy R rc rb U ub ua uc) {i : Nat} (hi : i < uc)  : Ci l yX9_ofRule (.code yX9_ofRule cX9_ofRule 4 (some .int) :: WALL) ({ frames := 34, cells := 0, slots := 0, locals := 800 }) D cy O [.ref a, .int (nI i), .int 0] [] 0 0 (fun (r : Int32) (w : va_W) => r = nI (U i).2.2.1 ∧ w = []) := by
  obtain ⟨hR, hinj, huc, FU, hFU, hUi⟩ := hU
  obtain ⟨hFi, hq⟩ := hUi i hi
  have hq' := hq
  obtain ⟨hd1, aa1, F1, aA1, tA1, hB1, ⟨ta1, T1, hM1, hT1, ht1⟩, hF1, hh1, hm1, hat1⟩ := hq'
  refine z_meti (by decide) rfl rfl (Nat.le_of_ble_eq_true rfl) ?_
  intro p e s m args below meth c X hr hin
  refine z_eq (ws' := []) (lv' := [(0, .ref a), (1, .int (nI i)), (2, .int 0)]) (st' := []) rfl rfl rfl ?_
  refine z_aload_n X dX9_ofRule_0 rfl (j := 0) rfl ?_
  refine z_iload_n X dX9_ofRule_1 rfl (j := 1) rfl ?_
  refine z_retr X (as := [.ref a, .int (nI i)]) (wc := []) (wr := []) (rest := []) (fun H9 locs9 ls9 hP9 hS9 hl9 hb9 hp9 => va_runV (As := [.int (nI i)]) (rest := []) X.fix (m_ruleAt l D cy O hO hFU hi huc hFi H9.size) (cwV 1 X.hts (gV ml_X9_227 im_X9_ruleAt se_X9_ruleAt ni_X9 cd_X9_ruleAt) rfl rfl rfl (by decide +kernel) ⟨by show 0 + 1 ≤ 34; omega, by show 8 + (2 + 11) + 0 ≤ 800; omega⟩) ⟨hb9, z_recvO X (ci := 9) (r := (RX9, TX9, 9)) hO rfl hS9, hp9⟩ rfl rfl hl9.1 rfl (lv_room (Nat.le_of_ble_eq_true rfl)) dX9_ofRule_2 ⟨Nat.le_of_ble_eq_true rfl, Nat.le_of_ble_eq_true rfl⟩) [] [] rfl rfl rfl rfl rfl (by decide) (fun _ h => Or.inl h) (fun r1 w2 h3 => ?_)
  obtain ⟨e9, rfl⟩ := h3
  subst r1
  refine z_eq (ws' := []) (lv' := [(0, .ref a), (1, .int (nI i)), (2, .int 0)]) (st' := [.ref (ub i)]) rfl rfl rfl ?_
  refine z_widen (k' := 0) (n' := 0) (Nat.le_refl _) (Nat.le_refl _) ?_
  refine z_astore_n X (lv' := [(3, .ref (ub i)), (0, .ref a), (1, .int (nI i)), (2, .int 0)]) dX9_ofRule_5 rfl (by decide) rfl ?_
  refine z_iload_n X dX9_ofRule_6 rfl (j := 3) rfl ?_
  refine z_tableIn X dX9_ofRule_7 (by decide) (by decide) rfl (tgt := 32) (by decide) ?_
  refine z_aload_n X dX9_ofRule_32 rfl (j := 0) rfl ?_
  refine z_getO X (ci := 6) (C := RX6) (T := TX6) (N := 3) inX6 hB1 rfl 2 (by decide) fl_X9_231 (fun _ h9 => h9) rfl dX9_ofRule_33 ?_
  exact z_endi X hr [] [] rfl rfl rfl ⟨rfl, rfl⟩ dX9_ofRule_36
set_option maxHeartbeats 4000000 in
set_option maxRecDepth 100000 in
/-- ofRule(rule, 1) -/
theorem m_ofRule_1 (l : Launch) (D : va_G) (cy : Nat → ClassId) (O : Nat × va_E → Prop) {a ra fa ua rc fc uc wk sa : Nat} {g6 : Value} (hO : O (a, .inr (9, [.ref ra, .int (nI rc), .ref fa, .int (nI fc), .ref ua, .int (nI uc), g6, .ref wk, .ref sa]))) {R : Nat → RRow} {rb : Nat → Nat} {U : Nat → URow} {ub : Nat → Nat} (hU : UW O cy R rc rb U ub ua uc) {i : Nat} (hi : i < uc)  : Ci l yX9_ofRule (.code yX9_ofRule cX9_ofRule 4 (some .int) :: WALL) ({ frames := 34, cells := 0, slots := 0, locals := 800 }) D cy O [.ref a, .int (nI i), .int 1] [] 0 0 (fun (r : Int32) (w : va_W) => r = bit (gr R (U i)) ∧ w = []) := by
  obtain ⟨hR, hinj, huc, FU, hFU, hUi⟩ := hU
  obtain ⟨hFi, hq⟩ := hUi i hi
  have hq' := hq
  obtain ⟨hd1, aa1, F1, aA1, tA1, hB1, ⟨ta1, T1, hM1, hT1, ht1⟩, hF1, hh1, hm1, hat1⟩ := hq'
  refine z_meti (by decide) rfl rfl (Nat.le_of_ble_eq_true rfl) ?_
  intro p e s m args below meth c X hr hin
  refine z_eq (ws' := []) (lv' := [(0, .ref a), (1, .int (nI i)), (2, .int 1)]) (st' := []) rfl rfl rfl ?_
  refine z_aload_n X dX9_ofRule_0 rfl (j := 0) rfl ?_
  refine z_iload_n X dX9_ofRule_1 rfl (j := 1) rfl ?_
  refine z_retr X (as := [.ref a, .int (nI i)]) (wc := []) (wr := []) (rest := []) (fun H9 locs9 ls9 hP9 hS9 hl9 hb9 hp9 => va_runV (As := [.int (nI i)]) (rest := []) X.fix (m_ruleAt l D cy O hO hFU hi huc hFi H9.size) (cwV 1 X.hts (gV ml_X9_227 im_X9_ruleAt se_X9_ruleAt ni_X9 cd_X9_ruleAt) rfl rfl rfl (by decide +kernel) ⟨by show 0 + 1 ≤ 34; omega, by show 8 + (2 + 11) + 0 ≤ 800; omega⟩) ⟨hb9, z_recvO X (ci := 9) (r := (RX9, TX9, 9)) hO rfl hS9, hp9⟩ rfl rfl hl9.1 rfl (lv_room (Nat.le_of_ble_eq_true rfl)) dX9_ofRule_2 ⟨Nat.le_of_ble_eq_true rfl, Nat.le_of_ble_eq_true rfl⟩) [] [] rfl rfl rfl rfl rfl (by decide) (fun _ h => Or.inl h) (fun r1 w2 h3 => ?_)
  obtain ⟨e9, rfl⟩ := h3
  subst r1
  refine z_eq (ws' := []) (lv' := [(0, .ref a), (1, .int (nI i)), (2, .int 1)]) (st' := [.ref (ub i)]) rfl rfl rfl ?_
  refine z_widen (k' := 0) (n' := 0) (Nat.le_refl _) (Nat.le_refl _) ?_
  refine z_astore_n X (lv' := [(3, .ref (ub i)), (0, .ref a), (1, .int (nI i)), (2, .int 1)]) dX9_ofRule_5 rfl (by decide) rfl ?_
  refine z_iload_n X dX9_ofRule_6 rfl (j := 3) rfl ?_
  refine z_tableIn X dX9_ofRule_7 (by decide) (by decide) rfl (tgt := 37) (by decide) ?_
  refine z_aload_n X dX9_ofRule_37 rfl (j := 0) rfl ?_
  refine z_reti X (as := [.ref (ub i)]) (wc := []) (wr := []) (rest := []) (fun H9 locs9 ls9 hP9 hS9 hl9 hb9 hp9 => va_runV (As := []) (rest := []) X.fix (m_isGrounded l D cy O (vs := uvs R (U i)) hB1 hM1 hF1 hm1 (Nat.lt_trans (vsf_lt _ _) (by decide)) (fun k hk => (hat1 k hk).1) (fun k hk => ⟨_, (hat1 k hk).2.2.1⟩) (fun k hk => rl_tm (hat1 k hk).2.2.2) H9.size) (cwV 0 X.hts (gV ml_X9_238 im_X6_isGrounded se_X6_isGrounded ni_X6 cd_X6_isGrounded) rfl rfl rfl (by decide +kernel) ⟨by show 2 + 1 ≤ 34; omega, by show 8 + (1 + 11) + 44 ≤ 800; omega⟩) ⟨hb9, z_recvO X (ci := 6) (r := (RX6, TX6, 3)) hB1 rfl hS9, hp9⟩ rfl rfl hl9.1 rfl (lv_room (Nat.le_of_ble_eq_true rfl)) dX9_ofRule_38 ⟨Nat.le_of_ble_eq_true rfl, Nat.le_of_ble_eq_true rfl⟩) [] [] rfl rfl rfl rfl rfl (by decide) (fun _ h => Or.inl h) (fun r4 w5 h6 => ?_)
  obtain ⟨rfl, rfl⟩ := h6
  rw [gr_if]
  refine z_eq (ws' := []) (lv' := [(3, .ref (ub i)), (0, .ref a), (1, .int (nI i)), (2, .int 1)]) (st' := [.int (bit (gr R (U i)))]) rfl rfl rfl ?_
  refine z_widen (k' := 0) (n' := 0) (Nat.le_refl _) (Nat.le_refl _) ?_
  refine z_if_eq X (tgt := 48) dX9_ofRule_41 (by decide) (fun c_41 => ?_) (fun c_41 => ?_)
  · skip
    refine z_iconst X (v := 0) dX9_ofRule_48 (by decide) ?_
    exact z_endi X hr [] [] rfl rfl rfl ⟨(by rw [bit_n c_41]; rfl), rfl⟩ dX9_ofRule_49
  · skip
    refine z_iconst X (v := 1) dX9_ofRule_44 (by decide) ?_
    refine z_goto X (tgt := 49) dX9_ofRule_45 (by decide) ?_
    exact z_endi X hr [] [] rfl rfl rfl ⟨(by rw [bit_y c_41]; rfl), rfl⟩ dX9_ofRule_49
set_option maxHeartbeats 4000000 in
set_option maxRecDepth 100000 in
/-- ofRule(rule, 2) -/
theorem m_ofRule_2 (l : Launch) (D : va_G) (cy : Nat → ClassId) (O : Nat × va_E → Prop) {a ra fa ua rc fc uc wk sa : Nat} {g6 : Value} (hO : O (a, .inr (9, [.ref ra, .int (nI rc), .ref fa, .int (nI fc), .ref ua, .int (nI uc), g6, .ref wk, .ref sa]))) {R : Nat → RRow} {rb : Nat → Nat} {U : Nat → URow} {ub : Nat → Nat} (hU : UW O cy R rc rb U ub ua uc) {i : Nat} (hi : i < uc) {im : Nat} {v1 v2 v3 v4 v5 : Value} {img : Nat → Int32} : Ci l yX9_ofRule (.code yX9_ofRule cX9_ofRule 4 (some .int) :: WALL) ({ frames := 34, cells := 0, slots := 0, locals := 800 }) D cy O [.ref a, .int (nI i), .int 2] [(sa, .inr (3, [.ref im, v1, v2, v3, v4, v5])), (im, .inl (cy 0, 6, .inl img))] 0 0 (fun (r : Int32) (w : va_W) => r = nI (ct (shrt R (U i) (U i).2.2.1).testBit 5) ∧ MsW cy sa im w) := by
  obtain ⟨hR, hinj, huc, FU, hFU, hUi⟩ := hU
  obtain ⟨hFi, hq⟩ := hUi i hi
  have hq' := hq
  obtain ⟨hd1, aa1, F1, aA1, tA1, hB1, ⟨ta1, T1, hM1, hT1, ht1⟩, hF1, hh1, hm1, hat1⟩ := hq'
  refine z_meti (by decide) rfl rfl (Nat.le_of_ble_eq_true rfl) ?_
  intro p e s m args below meth c X hr hin
  refine z_eq (ws' := [(sa, .inr (3, [.ref im, v1, v2, v3, v4, v5])), (im, .inl (cy 0, 6, .inl img))]) (lv' := [(0, .ref a), (1, .int (nI i)), (2, .int 2)]) (st' := []) rfl rfl rfl ?_
  refine z_aload_n X dX9_ofRule_0 rfl (j := 0) rfl ?_
  refine z_iload_n X dX9_ofRule_1 rfl (j := 1) rfl ?_
  refine z_retr X (as := [.ref a, .int (nI i)]) (wc := []) (wr := [(sa, .inr (3, [.ref im, v1, v2, v3, v4, v5])), (im, .inl (cy 0, 6, .inl img))]) (rest := []) (fun H9 locs9 ls9 hP9 hS9 hl9 hb9 hp9 => va_runV (As := [.int (nI i)]) (rest := []) X.fix (m_ruleAt l D cy O hO hFU hi huc hFi H9.size) (cwV 1 X.hts (gV ml_X9_227 im_X9_ruleAt se_X9_ruleAt ni_X9 cd_X9_ruleAt) rfl rfl rfl (by decide +kernel) ⟨by show 0 + 1 ≤ 34; omega, by show 8 + (2 + 11) + 0 ≤ 800; omega⟩) ⟨hb9, z_recvO X (ci := 9) (r := (RX9, TX9, 9)) hO rfl hS9, hp9⟩ rfl rfl hl9.1 rfl (lv_room (Nat.le_of_ble_eq_true rfl)) dX9_ofRule_2 ⟨Nat.le_of_ble_eq_true rfl, Nat.le_of_ble_eq_true rfl⟩) [] [0, 1] rfl rfl rfl rfl rfl (by decide) (fun _ h => Or.inl h) (fun r1 w2 h3 => ?_)
  obtain ⟨e9, rfl⟩ := h3
  subst r1
  refine z_eq (ws' := [(sa, .inr (3, [.ref im, v1, v2, v3, v4, v5])), (im, .inl (cy 0, 6, .inl img))]) (lv' := [(0, .ref a), (1, .int (nI i)), (2, .int 2)]) (st' := [.ref (ub i)]) rfl rfl rfl ?_
  refine z_widen (k' := 0) (n' := 0) (Nat.le_refl _) (Nat.le_refl _) ?_
  refine z_astore_n X (lv' := [(3, .ref (ub i)), (0, .ref a), (1, .int (nI i)), (2, .int 2)]) dX9_ofRule_5 rfl (by decide) rfl ?_
  refine z_iload_n X dX9_ofRule_6 rfl (j := 3) rfl ?_
  refine z_tableIn X dX9_ofRule_7 (by decide) (by decide) rfl (tgt := 50) (by decide) ?_
  refine z_aload_n X dX9_ofRule_50 rfl (j := 1) rfl ?_
  refine z_getO X (ci := 9) (C := RX9) (T := TX9) (N := 9) inX9 hO rfl 8 (by decide) fl_X9_54 (fun _ h9 => h9) rfl dX9_ofRule_51 ?_
  refine z_aload_n X dX9_ofRule_54 rfl (j := 0) rfl ?_
  refine z_reti X (as := [.ref sa, .ref (ub i)]) (wc := [(sa, .inr (3, [.ref im, v1, v2, v3, v4, v5])), (im, .inl (cy 0, 6, .inl img))]) (wr := []) (rest := []) (fun H9 locs9 ls9 hP9 hS9 hl9 hb9 hp9 => va_runV (As := [.ref (ub i)]) (rest := []) X.fix (m_shortened l D cy O hR hq hinj H9.size) (cwV 1 X.hts (gV ml_X9_242 im_X3_shortened se_X3_shortened ni_X3 cd_X3_shortened) rfl rfl rfl (by decide +kernel) ⟨by show 31 + 1 ≤ 34; omega, by show 8 + (4 + 11) + 530 ≤ 800; omega⟩) ⟨hb9, z_recvW X (q0 := 0) (ci := 3) (r := (RX3, TX3, 6)) rfl rfl hP9, hp9⟩ rfl rfl hl9.1 rfl (lv_room (Nat.le_of_ble_eq_true rfl)) dX9_ofRule_55 ⟨Nat.le_of_ble_eq_true rfl, Nat.le_of_ble_eq_true rfl⟩) [0, 1] [] rfl rfl rfl rfl rfl (by decide) (fun _ h => Or.inl h) (fun r4 w5 h6 => ?_)
  obtain ⟨rfl, x1, x2, x3, x4, x5, xi, rfl⟩ := h6
  refine z_eq (ws' := [(sa, .inr (3, [.ref im, x1, x2, x3, x4, x5])), (im, .inl (cy 0, 6, .inl xi))]) (lv' := [(3, .ref (ub i)), (0, .ref a), (1, .int (nI i)), (2, .int 2)]) (st' := [.int (nI (shrt R (U i) (U i).2.2.1))]) rfl rfl rfl ?_
  refine z_widen (k' := 0) (n' := 0) (Nat.le_refl _) (Nat.le_refl _) ?_
  refine z_reti X (as := [.int (nI (shrt R (U i) (U i).2.2.1))]) (wc := []) (wr := [(sa, .inr (3, [.ref im, x1, x2, x3, x4, x5])), (im, .inl (cy 0, 6, .inl xi))]) (rest := []) (fun H9 locs9 ls9 hP9 hS9 hl9 hb9 hp9 => va_runS (As := [.int (nI (shrt R (U i) (U i).2.2.1))]) (rest := []) X.fix (m_ibits l D cy O (n9 := shrt R (U i) (U i).2.2.1) (Nat.lt_trans (shr5 hm1) (by decide)) H9.size) (va_cwS 1 X.hts (gS ml_X9_210 sm_J6_bitCount_0f7a4 ni_J6 cd_J6_bitCount_0f7a4) rfl rfl rfl (by decide +kernel) ⟨by show 0 + 1 ≤ 34; omega, by show 8 + (1 + 11) + 0 ≤ 800; omega⟩) ⟨hb9, hp9⟩ rfl rfl hl9.1 rfl (lv_room (Nat.le_of_ble_eq_true rfl)) dX9_ofRule_58 ⟨Nat.le_of_ble_eq_true rfl, Nat.le_of_ble_eq_true rfl⟩) [] [0, 1] rfl rfl rfl rfl rfl (by decide) (fun _ h => Or.inl h) (fun r7 w8 h9 => ?_)
  obtain ⟨rfl, rfl⟩ := h9
  rw [ct_32 (shr5 hm1) (show 5 ≤ 32 by decide)]
  refine z_eq (ws' := [(sa, .inr (3, [.ref im, x1, x2, x3, x4, x5])), (im, .inl (cy 0, 6, .inl xi))]) (lv' := [(3, .ref (ub i)), (0, .ref a), (1, .int (nI i)), (2, .int 2)]) (st' := [.int (nI (ct (shrt R (U i) (U i).2.2.1).testBit 5))]) rfl rfl rfl ?_
  refine z_widen (k' := 0) (n' := 0) (Nat.le_refl _) (Nat.le_refl _) ?_
  exact z_endi X hr [(sa, .inr (3, [.ref im, x1, x2, x3, x4, x5])), (im, .inl (cy 0, 6, .inl xi))] [0, 1] rfl rfl rfl ⟨rfl, _, _, _, _, _, _, rfl⟩ dX9_ofRule_61
theorem tls_lt {R : Nat → RRow} {u : URow} {r : Nat} (hh : u.1 ≤ 3) (ht : ∀ k, k < u.1 → isT (u.2.1 k)) : ∀ {n came : Nat} {vo : Nat → Option Nat}, VB vo → knw R u came vo → came + n = u.2.2.1 → nd (vsf u.2.1 u.1) (lk R u u.2.2.1).2 = 0 → tls R u n came vo r = true → r < 512
  | 0, came, vo, hv, hk, hc, hg, h => by
    have h1 : r = hrw vo u.2.1 u.1 := of_decide_eq_true h
    rw [show u.2.2.1 = came by omega] at hg
    have h2 := HKn.of hk hv ht hg
    have h3 : ∀ n, n ≤ u.1 → hrw vo u.2.1 n < 8 ^ n := by
      intro n
      induction n with
      | zero => intro _; rw [hrw]; decide
      | succ n ih =>
        intro hn
        obtain ⟨x, e, hx⟩ := h2 n (by omega)
        have := ih (by omega)
        rw [hrw, e, Nat.pow_succ]
        show hrw vo u.2.1 n * 8 + x < _
        omega
    have h4 := h3 u.1 (Nat.le_refl _)
    have h5 : 8 ^ u.1 ≤ 8 ^ 3 := Nat.pow_le_pow_right (by decide) hh
    omega
  | n + 1, came, vo, hv, hk, hc, hg, h => by
    rw [tls] at h
    obtain ⟨i, hi, h⟩ := exB_iff.mp h
    rw [Bool.and_eq_true] at h
    exact tls_lt hh ht (VB_lrn hv _ _ _ _) (hk.next) (by omega) hg h.2
theorem tll_512 {O : Nat × va_E → Prop} {cy : Nat → ClassId} {R : Nat → RRow} {rb : Nat → Nat} {rc b : Nat} {u : URow} (hq : RuO O cy R rb rc b u) (h : gr R u = true) : ∀ r, 512 ≤ r → tll R u r = false := fun r hr => by
  obtain ⟨_, _, _, _, _, -, ⟨_, _, _, _, ht⟩, -, hh, -⟩ := hq
  cases e : tll R u r
  · rfl
  · have := tls_lt hh (fun k hk => (ht k hk).2) VB_no (knw_0 R u) (by omega) (grd_lk (gr_y h)) e
    omega
set_option maxHeartbeats 4000000 in
set_option maxRecDepth 100000 in
/-- tells(rule) -/
theorem m_tells (l : Launch) (D : va_G) (cy : Nat → ClassId) (O : Nat × va_E → Prop) {a ra fa ua rc fc uc wk sa : Nat} {g6 : Value} (hO : O (a, .inr (9, [.ref ra, .int (nI rc), .ref fa, .int (nI fc), .ref ua, .int (nI uc), g6, .ref wk, .ref sa]))) {R : Nat → RRow} {rb : Nat → Nat} {U : Nat → URow} {ub : Nat → Nat} (hU : UW O cy R rc rb U ub ua uc) {i : Nat} (hi : i < uc) {od sz b5 r5 gv : Nat} {v4 v5 v6 v7 : Value} {of sf : Nat → Int32} {q0 : Nat → Bool} (hq0 : ∀ i, 512 ≤ i → q0 i = false) (hgr : gr R (U i) = true) : Ci l yX9_tells (.code yX9_tells cX9_tells 3 (some .int) :: WALL) ({ frames := 34, cells := 0, slots := 0, locals := 800 }) D cy O [.ref a, .int (nI i)] [(wk, .inr (8, [.ref od, .ref sz, .ref b5, .ref gv, v4, v5, v6])), (od, .inl (cy 0, 5, .inl of)), (sz, .inl (cy 0, 5, .inl sf)), (b5, .inr (5, [.ref r5, v7])), (r5, .inl (cy 1, 512, .inl (zB q0))), (gv, .inl (cy 0, 6, .inl (vA (fun _ => none))))] 0 0 (fun (r : Int32) (w : va_W) => r = nI (ct (tll R (U i)) 512) ∧ WkW cy wk od sz b5 r5 gv w) := by
  obtain ⟨hR, hinj, huc, FU, hFU, hUi⟩ := hU
  obtain ⟨hFi, hq⟩ := hUi i hi
  have hq' := hq
  obtain ⟨hd1, aa1, F1, aA1, tA1, hB1, ⟨ta1, T1, hM1, hT1, ht1⟩, hF1, hh1, hm1, hat1⟩ := hq'
  refine z_meti (by decide) rfl rfl (Nat.le_of_ble_eq_true rfl) ?_
  intro p e s m args below meth c X hr hin
  refine z_eq (ws' := [(wk, .inr (8, [.ref od, .ref sz, .ref b5, .ref gv, v4, v5, v6])), (od, .inl (cy 0, 5, .inl of)), (sz, .inl (cy 0, 5, .inl sf)), (b5, .inr (5, [.ref r5, v7])), (r5, .inl (cy 1, 512, .inl (zB q0))), (gv, .inl (cy 0, 6, .inl (vA (fun _ => none))))]) (lv' := [(0, .ref a), (1, .int (nI i))]) (st' := []) rfl rfl rfl ?_
  refine z_aload_n X dX9_tells_0 rfl (j := 0) rfl ?_
  refine z_iload_n X dX9_tells_1 rfl (j := 1) rfl ?_
  refine z_retr X (as := [.ref a, .int (nI i)]) (wc := []) (wr := [(wk, .inr (8, [.ref od, .ref sz, .ref b5, .ref gv, v4, v5, v6])), (od, .inl (cy 0, 5, .inl of)), (sz, .inl (cy 0, 5, .inl sf)), (b5, .inr (5, [.ref r5, v7])), (r5, .inl (cy 1, 512, .inl (zB q0))), (gv, .inl (cy 0, 6, .inl (vA (fun _ => none))))]) (rest := []) (fun H9 locs9 ls9 hP9 hS9 hl9 hb9 hp9 => va_runV (As := [.int (nI i)]) (rest := []) X.fix (m_ruleAt l D cy O hO hFU hi huc hFi H9.size) (cwV 1 X.hts (gV ml_X9_227 im_X9_ruleAt se_X9_ruleAt ni_X9 cd_X9_ruleAt) rfl rfl rfl (by decide +kernel) ⟨by show 0 + 1 ≤ 34; omega, by show 8 + (2 + 11) + 0 ≤ 800; omega⟩) ⟨hb9, z_recvO X (ci := 9) (r := (RX9, TX9, 9)) hO rfl hS9, hp9⟩ rfl rfl hl9.1 rfl (lv_room (Nat.le_of_ble_eq_true rfl)) dX9_tells_2 ⟨Nat.le_of_ble_eq_true rfl, Nat.le_of_ble_eq_true rfl⟩) [] [0, 1, 2, 3, 4, 5] rfl rfl rfl rfl rfl (by decide) (fun _ h => Or.inl h) (fun r1 w2 h3 => ?_)
  obtain ⟨e9, rfl⟩ := h3
  subst r1
  refine z_eq (ws' := [(wk, .inr (8, [.ref od, .ref sz, .ref b5, .ref gv, v4, v5, v6])), (od, .inl (cy 0, 5, .inl of)), (sz, .inl (cy 0, 5, .inl sf)), (b5, .inr (5, [.ref r5, v7])), (r5, .inl (cy 1, 512, .inl (zB q0))), (gv, .inl (cy 0, 6, .inl (vA (fun _ => none))))]) (lv' := [(0, .ref a), (1, .int (nI i))]) (st' := [.ref (ub i)]) rfl rfl rfl ?_
  refine z_widen (k' := 0) (n' := 0) (Nat.le_refl _) (Nat.le_refl _) ?_
  refine z_astore_n X (lv' := [(2, .ref (ub i)), (0, .ref a), (1, .int (nI i))]) dX9_tells_5 rfl (by decide) rfl ?_
  refine z_aload_n X dX9_tells_6 rfl (j := 0) rfl ?_
  refine z_retv X (as := [.ref (ub i)]) (wc := []) (wr := [(wk, .inr (8, [.ref od, .ref sz, .ref b5, .ref gv, v4, v5, v6])), (od, .inl (cy 0, 5, .inl of)), (sz, .inl (cy 0, 5, .inl sf)), (b5, .inr (5, [.ref r5, v7])), (r5, .inl (cy 1, 512, .inl (zB q0))), (gv, .inl (cy 0, 6, .inl (vA (fun _ => none))))]) (rest := []) (fun H9 locs9 ls9 hP9 hS9 hl9 hb9 hp9 => va_runS (As := [.ref (ub i)]) (rest := []) X.fix (m_needGrounded l D cy O hq hgr H9.size) (va_cwS 1 X.hts (gS ml_X9_248 sm_X9_needGrounded ni_X9 cd_X9_needGrounded) rfl rfl rfl (by decide +kernel) ⟨by show 3 + 1 ≤ 34; omega, by show 8 + (1 + 11) + 64 ≤ 800; omega⟩) ⟨hb9, hp9⟩ rfl rfl hl9.1 rfl (lv_room (Nat.le_of_ble_eq_true rfl)) dX9_tells_7 ⟨Nat.le_of_ble_eq_true rfl, Nat.le_of_ble_eq_true rfl⟩) [] [0, 1, 2, 3, 4, 5] rfl rfl rfl rfl rfl (by decide) (fun _ h => Or.inl h) (fun w5 h6 => ?_)
  subst h6
  refine z_eq (ws' := [(wk, .inr (8, [.ref od, .ref sz, .ref b5, .ref gv, v4, v5, v6])), (od, .inl (cy 0, 5, .inl of)), (sz, .inl (cy 0, 5, .inl sf)), (b5, .inr (5, [.ref r5, v7])), (r5, .inl (cy 1, 512, .inl (zB q0))), (gv, .inl (cy 0, 6, .inl (vA (fun _ => none))))]) (lv' := [(2, .ref (ub i)), (0, .ref a), (1, .int (nI i))]) (st' := []) rfl rfl rfl ?_
  refine z_widen (k' := 0) (n' := 0) (Nat.le_refl _) (Nat.le_refl _) ?_
  refine z_aload_n X dX9_tells_10 rfl (j := 1) rfl ?_
  refine z_getO X (ci := 9) (C := RX9) (T := TX9) (N := 9) inX9 hO rfl 7 (by decide) fl_X9_47 (fun _ h9 => h9) rfl dX9_tells_11 ?_
  refine z_aload_n X dX9_tells_14 rfl (j := 0) rfl ?_
  refine z_retr X (as := [.ref wk, .ref (ub i)]) (wc := [(wk, .inr (8, [.ref od, .ref sz, .ref b5, .ref gv, v4, v5, v6])), (od, .inl (cy 0, 5, .inl of)), (sz, .inl (cy 0, 5, .inl sf)), (b5, .inr (5, [.ref r5, v7])), (r5, .inl (cy 1, 512, .inl (zB q0))), (gv, .inl (cy 0, 6, .inl (vA (fun _ => none))))]) (wr := []) (rest := []) (fun H9 locs9 ls9 hP9 hS9 hl9 hb9 hp9 => va_runV (As := [.ref (ub i)]) (rest := []) X.fix (m_tell l D cy O hR hq hq0 (gr_y hgr) H9.size) (cwV 1 X.hts (gV ml_X9_252 im_X8_tell se_X8_tell ni_X8 cd_X8_tell) rfl rfl rfl (by decide +kernel) ⟨by show 24 + 1 ≤ 34; omega, by show 8 + (2 + 11) + 600 ≤ 800; omega⟩) ⟨hb9, z_recvW X (q0 := 0) (ci := 8) (r := (RX8, TX8, 7)) rfl rfl hP9, hp9⟩ rfl rfl hl9.1 rfl (lv_room (Nat.le_of_ble_eq_true rfl)) dX9_tells_15 ⟨Nat.le_of_ble_eq_true rfl, Nat.le_of_ble_eq_true rfl⟩) [0, 1, 2, 3, 4, 5] [] rfl rfl rfl rfl rfl (by decide) (fun _ h => Or.inl h) (fun r7 w8 h9 => ?_)
  obtain ⟨e9, sx, rfl⟩ := h9
  subst r7
  refine z_eq (ws' := [(wk, .inr (8, [.ref od, .ref sz, .ref b5, .ref gv, .ref (ub i), .int 1, .int (nI (hfF R (U i) (U i).2.2.1))])), (od, .inl (cy 0, 5, .inl (odA R (U i) of (U i).2.2.1))), (sz, .inl (cy 0, 5, .inl sx)), (b5, .inr (5, [.ref r5, .int (nI (ct (tll R (U i)) 512))])), (r5, .inl (cy 1, 512, .inl (zB (tll R (U i))))), (gv, .inl (cy 0, 6, .inl (vA (fun _ => none))))]) (lv' := [(2, .ref (ub i)), (0, .ref a), (1, .int (nI i))]) (st' := [.ref b5]) rfl rfl rfl ?_
  refine z_widen (k' := 0) (n' := 0) (Nat.le_refl _) (Nat.le_refl _) ?_
  refine z_getW X 3 (C := RX5) (T := TX5) (N := 2) inX5 rfl rfl 1 (by decide) fl_X9_207 (fun _ h9 => h9) rfl dX9_tells_18 ?_
  exact z_endi X hr [(wk, .inr (8, [.ref od, .ref sz, .ref b5, .ref gv, .ref (ub i), .int 1, .int (nI (hfF R (U i) (U i).2.2.1))])), (od, .inl (cy 0, 5, .inl (odA R (U i) of (U i).2.2.1))), (sz, .inl (cy 0, 5, .inl sx)), (b5, .inr (5, [.ref r5, .int (nI (ct (tll R (U i)) 512))])), (r5, .inl (cy 1, 512, .inl (zB (tll R (U i))))), (gv, .inl (cy 0, 6, .inl (vA (fun _ => none))))] [0, 1, 2, 3, 4, 5] rfl rfl rfl ⟨rfl, _, _, _, _, _, _, _, rfl, tll_512 (hq := hq) hgr⟩ dX9_tells_21
set_option maxHeartbeats 4000000 in
set_option maxRecDepth 100000 in
/-- order(rule, place, 0) -/
theorem m_order_0 (l : Launch) (D : va_G) (cy : Nat → ClassId) (O : Nat × va_E → Prop) {a ra fa ua rc fc uc wk sa : Nat} {g6 : Value} (hO : O (a, .inr (9, [.ref ra, .int (nI rc), .ref fa, .int (nI fc), .ref ua, .int (nI uc), g6, .ref wk, .ref sa]))) {R : Nat → RRow} {rb : Nat → Nat} {U : Nat → URow} {ub : Nat → Nat} (hU : UW O cy R rc rb U ub ua uc) {i : Nat} (hi : i < uc) {od sz b5 r5 gv : Nat} {v4 v5 v6 v7 : Value} {of sf : Nat → Int32} {q0 : Nat → Bool} (hq0 : ∀ i, 512 ≤ i → q0 i = false) {p9 : Nat} (hp : p9 < (U i).2.2.1) : Ci l yX9_order (.code yX9_order cX9_order 5 (some .int) :: WALL) ({ frames := 34, cells := 0, slots := 0, locals := 800 }) D cy O [.ref a, .int (nI i), .int (nI p9), .int 0] [(wk, .inr (8, [.ref od, .ref sz, .ref b5, .ref gv, v4, v5, v6])), (od, .inl (cy 0, 5, .inl of)), (sz, .inl (cy 0, 5, .inl sf)), (b5, .inr (5, [.ref r5, v7])), (r5, .inl (cy 1, 512, .inl (zB q0))), (gv, .inl (cy 0, 6, .inl (vA (fun _ => none))))] 0 0 (fun (r : Int32) (w : va_W) => r = nI (ordF R (U i) p9) ∧ WkW cy wk od sz b5 r5 gv w) := by
  obtain ⟨hR, hinj, huc, FU, hFU, hUi⟩ := hU
  obtain ⟨hFi, hq⟩ := hUi i hi
  have hq' := hq
  obtain ⟨hd1, aa1, F1, aA1, tA1, hB1, ⟨ta1, T1, hM1, hT1, ht1⟩, hF1, hh1, hm1, hat1⟩ := hq'
  refine z_meti (by decide) rfl rfl (Nat.le_of_ble_eq_true rfl) ?_
  intro p e s m args below meth c X hr hin
  refine z_eq (ws' := [(wk, .inr (8, [.ref od, .ref sz, .ref b5, .ref gv, v4, v5, v6])), (od, .inl (cy 0, 5, .inl of)), (sz, .inl (cy 0, 5, .inl sf)), (b5, .inr (5, [.ref r5, v7])), (r5, .inl (cy 1, 512, .inl (zB q0))), (gv, .inl (cy 0, 6, .inl (vA (fun _ => none))))]) (lv' := [(0, .ref a), (1, .int (nI i)), (2, .int (nI p9)), (3, .int 0)]) (st' := []) rfl rfl rfl ?_
  refine z_aload_n X dX9_order_0 rfl (j := 0) rfl ?_
  refine z_iload_n X dX9_order_1 rfl (j := 1) rfl ?_
  refine z_retr X (as := [.ref a, .int (nI i)]) (wc := []) (wr := [(wk, .inr (8, [.ref od, .ref sz, .ref b5, .ref gv, v4, v5, v6])), (od, .inl (cy 0, 5, .inl of)), (sz, .inl (cy 0, 5, .inl sf)), (b5, .inr (5, [.ref r5, v7])), (r5, .inl (cy 1, 512, .inl (zB q0))), (gv, .inl (cy 0, 6, .inl (vA (fun _ => none))))]) (rest := []) (fun H9 locs9 ls9 hP9 hS9 hl9 hb9 hp9 => va_runV (As := [.int (nI i)]) (rest := []) X.fix (m_ruleAt l D cy O hO hFU hi huc hFi H9.size) (cwV 1 X.hts (gV ml_X9_227 im_X9_ruleAt se_X9_ruleAt ni_X9 cd_X9_ruleAt) rfl rfl rfl (by decide +kernel) ⟨by show 0 + 1 ≤ 34; omega, by show 8 + (2 + 11) + 0 ≤ 800; omega⟩) ⟨hb9, z_recvO X (ci := 9) (r := (RX9, TX9, 9)) hO rfl hS9, hp9⟩ rfl rfl hl9.1 rfl (lv_room (Nat.le_of_ble_eq_true rfl)) dX9_order_2 ⟨Nat.le_of_ble_eq_true rfl, Nat.le_of_ble_eq_true rfl⟩) [] [0, 1, 2, 3, 4, 5] rfl rfl rfl rfl rfl (by decide) (fun _ h => Or.inl h) (fun r1 w2 h3 => ?_)
  obtain ⟨e9, rfl⟩ := h3
  subst r1
  refine z_eq (ws' := [(wk, .inr (8, [.ref od, .ref sz, .ref b5, .ref gv, v4, v5, v6])), (od, .inl (cy 0, 5, .inl of)), (sz, .inl (cy 0, 5, .inl sf)), (b5, .inr (5, [.ref r5, v7])), (r5, .inl (cy 1, 512, .inl (zB q0))), (gv, .inl (cy 0, 6, .inl (vA (fun _ => none))))]) (lv' := [(0, .ref a), (1, .int (nI i)), (2, .int (nI p9)), (3, .int 0)]) (st' := [.ref (ub i)]) rfl rfl rfl ?_
  refine z_widen (k' := 0) (n' := 0) (Nat.le_refl _) (Nat.le_refl _) ?_
  refine z_astore X (lv' := [(4, .ref (ub i)), (0, .ref a), (1, .int (nI i)), (2, .int (nI p9)), (3, .int 0)]) dX9_order_5 (by decide) rfl ?_
  refine z_iload_n X dX9_order_7 rfl (j := 3) rfl ?_
  refine z_if_lt X (tgt := 20) dX9_order_8 (by decide) (fun c9 => absurd c9 (nI_pos (by omega))) (fun c_8 => ?_)
  refine z_iload_n X dX9_order_11 rfl (j := 3) rfl ?_
  refine z_aload X dX9_order_12 (j := 0) rfl ?_
  refine z_getO X (ci := 6) (C := RX6) (T := TX6) (N := 3) inX6 hB1 rfl 2 (by decide) fl_X9_231 (fun _ h9 => h9) rfl dX9_order_14 ?_
  refine z_icmp_lt X (tgt := 31) dX9_order_17 (by decide) (fun c_17 => ?_) (fun c9 => absurd (nI_lt hp (by omega)) c9)
  refine z_iload_n X dX9_order_31 rfl (j := 4) rfl ?_
  refine z_if_eq X (tgt := 51) dX9_order_32 (by decide) (fun c_32 => ?_) (fun c9 => absurd rfl c9)
  refine z_iload_n X dX9_order_51 rfl (j := 4) rfl ?_
  refine z_if_ne X (tgt := 74) dX9_order_52 (by decide) (fun c9 => absurd (by decide) c9) (fun c_52 => ?_)
  refine z_aload_n X dX9_order_55 rfl (j := 1) rfl ?_
  refine z_getO X (ci := 9) (C := RX9) (T := TX9) (N := 9) inX9 hO rfl 7 (by decide) fl_X9_47 (fun _ h9 => h9) rfl dX9_order_56 ?_
  refine z_aload X dX9_order_59 (j := 0) rfl ?_
  refine z_retv X (as := [.ref wk, .ref (ub i)]) (wc := [(wk, .inr (8, [.ref od, .ref sz, .ref b5, .ref gv, v4, v5, v6])), (od, .inl (cy 0, 5, .inl of))]) (wr := [(sz, .inl (cy 0, 5, .inl sf)), (b5, .inr (5, [.ref r5, v7])), (r5, .inl (cy 1, 512, .inl (zB q0))), (gv, .inl (cy 0, 6, .inl (vA (fun _ => none))))]) (rest := []) (fun H9 locs9 ls9 hP9 hS9 hl9 hb9 hp9 => va_runV (As := [.ref (ub i)]) (rest := []) X.fix (m_arrange l D cy O hR hq H9.size) (cwV 1 X.hts (gV ml_X9_268 im_X8_arrange se_X8_arrange ni_X8 cd_X8_arrange) rfl rfl rfl (by decide +kernel) ⟨by show 3 + 1 ≤ 34; omega, by show 8 + (6 + 11) + 70 ≤ 800; omega⟩) ⟨hb9, z_recvW X (q0 := 0) (ci := 8) (r := (RX8, TX8, 7)) rfl rfl hP9, hp9⟩ rfl rfl hl9.1 rfl (lv_room (Nat.le_of_ble_eq_true rfl)) dX9_order_61 ⟨Nat.le_of_ble_eq_true rfl, Nat.le_of_ble_eq_true rfl⟩) [0, 1] [2, 3, 4, 5] rfl rfl rfl rfl rfl (by decide) (fun _ h => Or.inl h) (fun w5 h6 => ?_)
  subst h6
  refine z_eq (ws' := [(sz, .inl (cy 0, 5, .inl sf)), (b5, .inr (5, [.ref r5, v7])), (r5, .inl (cy 1, 512, .inl (zB q0))), (gv, .inl (cy 0, 6, .inl (vA (fun _ => none)))), (wk, .inr (8, [.ref od, .ref sz, .ref b5, .ref gv, .ref (ub i), v5, .int (nI (hfF R (U i) (U i).2.2.1))])), (od, .inl (cy 0, 5, .inl (odA R (U i) of (U i).2.2.1)))]) (lv' := [(4, .ref (ub i)), (0, .ref a), (1, .int (nI i)), (2, .int (nI p9)), (3, .int 0)]) (st' := []) rfl rfl rfl ?_
  refine z_widen (k' := 0) (n' := 0) (Nat.le_refl _) (Nat.le_refl _) ?_
  refine z_aload_n X dX9_order_64 rfl (j := 1) rfl ?_
  refine z_getO X (ci := 9) (C := RX9) (T := TX9) (N := 9) inX9 hO rfl 7 (by decide) fl_X9_47 (fun _ h9 => h9) rfl dX9_order_65 ?_
  refine z_getW X 4 (C := RX8) (T := TX8) (N := 7) inX8 rfl rfl 0 (by decide) fl_X9_271 (fun _ h9 => h9) rfl dX9_order_68 ?_
  refine z_iload_n X dX9_order_71 rfl (j := 3) rfl ?_
  refine z_ialdW X 5 rfl (v := (nI (ordF R (U i) p9))) (vp_in_nI (by omega) (by decide)) (at_nI (by omega) (odA_at hp)) dX9_order_72 ?_
  exact z_endi X hr [(wk, .inr (8, [.ref od, .ref sz, .ref b5, .ref gv, .ref (ub i), v5, .int (nI (hfF R (U i) (U i).2.2.1))])), (od, .inl (cy 0, 5, .inl (odA R (U i) of (U i).2.2.1))), (sz, .inl (cy 0, 5, .inl sf)), (b5, .inr (5, [.ref r5, v7])), (r5, .inl (cy 1, 512, .inl (zB q0))), (gv, .inl (cy 0, 6, .inl (vA (fun _ => none))))] [4, 5, 0, 1, 2, 3] rfl rfl rfl ⟨rfl, _, _, _, _, _, _, _, rfl, hq0⟩ dX9_order_73
set_option maxHeartbeats 4000000 in
set_option maxRecDepth 100000 in
/-- order(rule, place, 1) -/
theorem m_order_1 (l : Launch) (D : va_G) (cy : Nat → ClassId) (O : Nat × va_E → Prop) {a ra fa ua rc fc uc wk sa : Nat} {g6 : Value} (hO : O (a, .inr (9, [.ref ra, .int (nI rc), .ref fa, .int (nI fc), .ref ua, .int (nI uc), g6, .ref wk, .ref sa]))) {R : Nat → RRow} {rb : Nat → Nat} {U : Nat → URow} {ub : Nat → Nat} (hU : UW O cy R rc rb U ub ua uc) {i : Nat} (hi : i < uc) {od sz b5 r5 gv : Nat} {v4 v5 v6 v7 : Value} {of sf : Nat → Int32} {q0 : Nat → Bool} (hq0 : ∀ i, 512 ≤ i → q0 i = false) {p9 : Nat} (hp : p9 < (U i).2.2.1) : Ci l yX9_order (.code yX9_order cX9_order 5 (some .int) :: WALL) ({ frames := 34, cells := 0, slots := 0, locals := 800 }) D cy O [.ref a, .int (nI i), .int (nI p9), .int 1] [(wk, .inr (8, [.ref od, .ref sz, .ref b5, .ref gv, v4, v5, v6])), (od, .inl (cy 0, 5, .inl of)), (sz, .inl (cy 0, 5, .inl sf)), (b5, .inr (5, [.ref r5, v7])), (r5, .inl (cy 1, 512, .inl (zB q0))), (gv, .inl (cy 0, 6, .inl (vA (fun _ => none))))] 0 0 (fun (r : Int32) (w : va_W) => r = nI (szs R (U i) p9) ∧ WkW cy wk od sz b5 r5 gv w) := by
  obtain ⟨hR, hinj, huc, FU, hFU, hUi⟩ := hU
  obtain ⟨hFi, hq⟩ := hUi i hi
  have hq' := hq
  obtain ⟨hd1, aa1, F1, aA1, tA1, hB1, ⟨ta1, T1, hM1, hT1, ht1⟩, hF1, hh1, hm1, hat1⟩ := hq'
  refine z_meti (by decide) rfl rfl (Nat.le_of_ble_eq_true rfl) ?_
  intro p e s m args below meth c X hr hin
  refine z_eq (ws' := [(wk, .inr (8, [.ref od, .ref sz, .ref b5, .ref gv, v4, v5, v6])), (od, .inl (cy 0, 5, .inl of)), (sz, .inl (cy 0, 5, .inl sf)), (b5, .inr (5, [.ref r5, v7])), (r5, .inl (cy 1, 512, .inl (zB q0))), (gv, .inl (cy 0, 6, .inl (vA (fun _ => none))))]) (lv' := [(0, .ref a), (1, .int (nI i)), (2, .int (nI p9)), (3, .int 1)]) (st' := []) rfl rfl rfl ?_
  refine z_aload_n X dX9_order_0 rfl (j := 0) rfl ?_
  refine z_iload_n X dX9_order_1 rfl (j := 1) rfl ?_
  refine z_retr X (as := [.ref a, .int (nI i)]) (wc := []) (wr := [(wk, .inr (8, [.ref od, .ref sz, .ref b5, .ref gv, v4, v5, v6])), (od, .inl (cy 0, 5, .inl of)), (sz, .inl (cy 0, 5, .inl sf)), (b5, .inr (5, [.ref r5, v7])), (r5, .inl (cy 1, 512, .inl (zB q0))), (gv, .inl (cy 0, 6, .inl (vA (fun _ => none))))]) (rest := []) (fun H9 locs9 ls9 hP9 hS9 hl9 hb9 hp9 => va_runV (As := [.int (nI i)]) (rest := []) X.fix (m_ruleAt l D cy O hO hFU hi huc hFi H9.size) (cwV 1 X.hts (gV ml_X9_227 im_X9_ruleAt se_X9_ruleAt ni_X9 cd_X9_ruleAt) rfl rfl rfl (by decide +kernel) ⟨by show 0 + 1 ≤ 34; omega, by show 8 + (2 + 11) + 0 ≤ 800; omega⟩) ⟨hb9, z_recvO X (ci := 9) (r := (RX9, TX9, 9)) hO rfl hS9, hp9⟩ rfl rfl hl9.1 rfl (lv_room (Nat.le_of_ble_eq_true rfl)) dX9_order_2 ⟨Nat.le_of_ble_eq_true rfl, Nat.le_of_ble_eq_true rfl⟩) [] [0, 1, 2, 3, 4, 5] rfl rfl rfl rfl rfl (by decide) (fun _ h => Or.inl h) (fun r1 w2 h3 => ?_)
  obtain ⟨e9, rfl⟩ := h3
  subst r1
  refine z_eq (ws' := [(wk, .inr (8, [.ref od, .ref sz, .ref b5, .ref gv, v4, v5, v6])), (od, .inl (cy 0, 5, .inl of)), (sz, .inl (cy 0, 5, .inl sf)), (b5, .inr (5, [.ref r5, v7])), (r5, .inl (cy 1, 512, .inl (zB q0))), (gv, .inl (cy 0, 6, .inl (vA (fun _ => none))))]) (lv' := [(0, .ref a), (1, .int (nI i)), (2, .int (nI p9)), (3, .int 1)]) (st' := [.ref (ub i)]) rfl rfl rfl ?_
  refine z_widen (k' := 0) (n' := 0) (Nat.le_refl _) (Nat.le_refl _) ?_
  refine z_astore X (lv' := [(4, .ref (ub i)), (0, .ref a), (1, .int (nI i)), (2, .int (nI p9)), (3, .int 1)]) dX9_order_5 (by decide) rfl ?_
  refine z_iload_n X dX9_order_7 rfl (j := 3) rfl ?_
  refine z_if_lt X (tgt := 20) dX9_order_8 (by decide) (fun c9 => absurd c9 (nI_pos (by omega))) (fun c_8 => ?_)
  refine z_iload_n X dX9_order_11 rfl (j := 3) rfl ?_
  refine z_aload X dX9_order_12 (j := 0) rfl ?_
  refine z_getO X (ci := 6) (C := RX6) (T := TX6) (N := 3) inX6 hB1 rfl 2 (by decide) fl_X9_231 (fun _ h9 => h9) rfl dX9_order_14 ?_
  refine z_icmp_lt X (tgt := 31) dX9_order_17 (by decide) (fun c_17 => ?_) (fun c9 => absurd (nI_lt hp (by omega)) c9)
  refine z_iload_n X dX9_order_31 rfl (j := 4) rfl ?_
  refine z_if_eq X (tgt := 51) dX9_order_32 (by decide) (fun c9 => absurd c9 (by decide)) (fun c_32 => ?_)
  refine z_iload_n X dX9_order_35 rfl (j := 4) rfl ?_
  refine z_iconst X (v := 1) dX9_order_36 (by decide) ?_
  refine z_icmp_eq X (tgt := 51) dX9_order_37 (by decide) (fun c_37 => ?_) (fun c9 => absurd rfl c9)
  refine z_iload_n X dX9_order_51 rfl (j := 4) rfl ?_
  refine z_if_ne X (tgt := 74) dX9_order_52 (by decide) (fun c_52 => ?_) (fun c9 => absurd c9 (by decide))
  refine z_aload_n X dX9_order_74 rfl (j := 1) rfl ?_
  refine z_getO X (ci := 9) (C := RX9) (T := TX9) (N := 9) inX9 hO rfl 7 (by decide) fl_X9_47 (fun _ h9 => h9) rfl dX9_order_75 ?_
  refine z_aload X dX9_order_78 (j := 0) rfl ?_
  refine z_retv X (as := [.ref wk, .ref (ub i)]) (wc := [(wk, .inr (8, [.ref od, .ref sz, .ref b5, .ref gv, v4, v5, v6])), (od, .inl (cy 0, 5, .inl of)), (sz, .inl (cy 0, 5, .inl sf)), (b5, .inr (5, [.ref r5, v7])), (r5, .inl (cy 1, 512, .inl (zB q0))), (gv, .inl (cy 0, 6, .inl (vA (fun _ => none))))]) (wr := []) (rest := []) (fun H9 locs9 ls9 hP9 hS9 hl9 hb9 hp9 => va_runV (As := [.ref (ub i)]) (rest := []) X.fix (m_measure l D cy O hR hq hq0 H9.size) (cwV 1 X.hts (gV ml_X9_274 im_X8_measure se_X8_measure ni_X8 cd_X8_measure) rfl rfl rfl (by decide +kernel) ⟨by show 24 + 1 ≤ 34; omega, by show 8 + (3 + 11) + 600 ≤ 800; omega⟩) ⟨hb9, z_recvW X (q0 := 0) (ci := 8) (r := (RX8, TX8, 7)) rfl rfl hP9, hp9⟩ rfl rfl hl9.1 rfl (lv_room (Nat.le_of_ble_eq_true rfl)) dX9_order_80 ⟨Nat.le_of_ble_eq_true rfl, Nat.le_of_ble_eq_true rfl⟩) [0, 1, 2, 3, 4, 5] [] rfl rfl rfl rfl rfl (by decide) (fun _ h => Or.inl h) (fun w5 h6 => ?_)
  subst h6
  refine z_eq (ws' := [(wk, .inr (8, [.ref od, .ref sz, .ref b5, .ref gv, .ref (ub i), .int 0, .int (nI (hfF R (U i) (U i).2.2.1))])), (od, .inl (cy 0, 5, .inl (odA R (U i) of (U i).2.2.1))), (sz, .inl (cy 0, 5, .inl (sadd (zft sf (U i).2.2.1) (szs R (U i))))), (b5, .inr (5, [.ref r5, v7])), (r5, .inl (cy 1, 512, .inl (zB q0))), (gv, .inl (cy 0, 6, .inl (vA (fun _ => none))))]) (lv' := [(4, .ref (ub i)), (0, .ref a), (1, .int (nI i)), (2, .int (nI p9)), (3, .int 1)]) (st' := []) rfl rfl rfl ?_
  refine z_widen (k' := 0) (n' := 0) (Nat.le_refl _) (Nat.le_refl _) ?_
  refine z_aload_n X dX9_order_83 rfl (j := 1) rfl ?_
  refine z_getO X (ci := 9) (C := RX9) (T := TX9) (N := 9) inX9 hO rfl 7 (by decide) fl_X9_47 (fun _ h9 => h9) rfl dX9_order_84 ?_
  refine z_getW X 0 (C := RX8) (T := TX8) (N := 7) inX8 rfl rfl 1 (by decide) fl_X9_277 (fun _ h9 => h9) rfl dX9_order_87 ?_
  refine z_iload_n X dX9_order_90 rfl (j := 3) rfl ?_
  refine z_ialdW X 2 rfl (v := (nI (szs R (U i) p9))) (vp_in_nI (by omega) (by decide)) (at_nI (by omega) (szs_at hp)) dX9_order_91 ?_
  exact z_endi X hr [(wk, .inr (8, [.ref od, .ref sz, .ref b5, .ref gv, .ref (ub i), .int 0, .int (nI (hfF R (U i) (U i).2.2.1))])), (od, .inl (cy 0, 5, .inl (odA R (U i) of (U i).2.2.1))), (sz, .inl (cy 0, 5, .inl (sadd (zft sf (U i).2.2.1) (szs R (U i))))), (b5, .inr (5, [.ref r5, v7])), (r5, .inl (cy 1, 512, .inl (zB q0))), (gv, .inl (cy 0, 6, .inl (vA (fun _ => none))))] [0, 1, 2, 3, 4, 5] rfl rfl rfl ⟨rfl, _, _, _, _, _, _, _, rfl, hq0⟩ dX9_order_92
theorem al_lt {m : Nat} (h : m ≤ 5) : 2 ^ m - 1 < 2 ^ 31 := by have := Nat.pow_le_pow_right (show 0 < 2 by decide) h; omega
set_option maxHeartbeats 4000000 in
set_option maxRecDepth 100000 in
/-- isWithin(p, q) -/
theorem m_isWithin (l : Launch) (D : va_G) (cy : Nat → ClassId) (O : Nat × va_E → Prop) {a ra fa ua rc fc uc wk sa : Nat} {g6 : Value} (hO : O (a, .inr (9, [.ref ra, .int (nI rc), .ref fa, .int (nI fc), .ref ua, .int (nI uc), g6, .ref wk, .ref sa]))) {R : Nat → RRow} {rb : Nat → Nat} {U : Nat → URow} {ub : Nat → Nat} (hU : UW O cy R rc rb U ub ua uc) {i : Nat} (hi : i < uc) {im : Nat} {v1 v2 v3 v4 v5 : Value} {img : Nat → Int32} {j : Nat} (hj : j < uc) : Ci l yX9_isWithin (.code yX9_isWithin cX9_isWithin 5 (some .boolean) :: WALL) ({ frames := 34, cells := 0, slots := 0, locals := 800 }) D cy O [.ref a, .int (nI i), .int (nI j)] [(sa, .inr (3, [.ref im, v1, v2, v3, v4, v5])), (im, .inl (cy 0, 6, .inl img))] 0 0 (fun (r : Int32) (w : va_W) => r = bit (fnd R (U j) (2 ^ (U j).2.2.1 - 1) (U i) (2 ^ (U i).2.2.1 - 1)) ∧ MsW cy sa im w) := by
  obtain ⟨hR, hinj, huc, FU, hFU, hUi⟩ := hU
  obtain ⟨hFi, hq⟩ := hUi i hi
  have hq' := hq
  obtain ⟨hd1, aa1, F1, aA1, tA1, hB1, ⟨ta1, T1, hM1, hT1, ht1⟩, hF1, hh1, hm1, hat1⟩ := hq'
  obtain ⟨hFj, hqj⟩ := hUi j hj
  have hqj' := hqj
  obtain ⟨hd2, aa2, F2, aA2, tA2, hB2, ⟨ta2, T2, hM2, hT2, ht2⟩, hF2, hh2, hm2, hat2⟩ := hqj'
  refine z_meti (by decide) rfl rfl (Nat.le_of_ble_eq_true rfl) ?_
  intro p e s m args below meth c X hr hin
  refine z_eq (ws' := [(sa, .inr (3, [.ref im, v1, v2, v3, v4, v5])), (im, .inl (cy 0, 6, .inl img))]) (lv' := [(0, .ref a), (1, .int (nI i)), (2, .int (nI j))]) (st' := []) rfl rfl rfl ?_
  refine z_aload_n X dX9_isWithin_0 rfl (j := 0) rfl ?_
  refine z_iload_n X dX9_isWithin_1 rfl (j := 1) rfl ?_
  refine z_retr X (as := [.ref a, .int (nI i)]) (wc := []) (wr := [(sa, .inr (3, [.ref im, v1, v2, v3, v4, v5])), (im, .inl (cy 0, 6, .inl img))]) (rest := []) (fun H9 locs9 ls9 hP9 hS9 hl9 hb9 hp9 => va_runV (As := [.int (nI i)]) (rest := []) X.fix (m_ruleAt l D cy O hO hFU hi huc hFi H9.size) (cwV 1 X.hts (gV ml_X9_227 im_X9_ruleAt se_X9_ruleAt ni_X9 cd_X9_ruleAt) rfl rfl rfl (by decide +kernel) ⟨by show 0 + 1 ≤ 34; omega, by show 8 + (2 + 11) + 0 ≤ 800; omega⟩) ⟨hb9, z_recvO X (ci := 9) (r := (RX9, TX9, 9)) hO rfl hS9, hp9⟩ rfl rfl hl9.1 rfl (lv_room (Nat.le_of_ble_eq_true rfl)) dX9_isWithin_2 ⟨Nat.le_of_ble_eq_true rfl, Nat.le_of_ble_eq_true rfl⟩) [] [0, 1] rfl rfl rfl rfl rfl (by decide) (fun _ h => Or.inl h) (fun r1 w2 h3 => ?_)
  obtain ⟨e9, rfl⟩ := h3
  subst r1
  refine z_eq (ws' := [(sa, .inr (3, [.ref im, v1, v2, v3, v4, v5])), (im, .inl (cy 0, 6, .inl img))]) (lv' := [(0, .ref a), (1, .int (nI i)), (2, .int (nI j))]) (st' := [.ref (ub i)]) rfl rfl rfl ?_
  refine z_widen (k' := 0) (n' := 0) (Nat.le_refl _) (Nat.le_refl _) ?_
  refine z_astore_n X (lv' := [(3, .ref (ub i)), (0, .ref a), (1, .int (nI i)), (2, .int (nI j))]) dX9_isWithin_5 rfl (by decide) rfl ?_
  refine z_aload_n X dX9_isWithin_6 rfl (j := 1) rfl ?_
  refine z_iload_n X dX9_isWithin_7 rfl (j := 3) rfl ?_
  refine z_retr X (as := [.ref a, .int (nI j)]) (wc := []) (wr := [(sa, .inr (3, [.ref im, v1, v2, v3, v4, v5])), (im, .inl (cy 0, 6, .inl img))]) (rest := []) (fun H9 locs9 ls9 hP9 hS9 hl9 hb9 hp9 => va_runV (As := [.int (nI j)]) (rest := []) X.fix (m_ruleAt l D cy O hO hFU hj huc hFj H9.size) (cwV 1 X.hts (gV ml_X9_227 im_X9_ruleAt se_X9_ruleAt ni_X9 cd_X9_ruleAt) rfl rfl rfl (by decide +kernel) ⟨by show 0 + 1 ≤ 34; omega, by show 8 + (2 + 11) + 0 ≤ 800; omega⟩) ⟨hb9, z_recvO X (ci := 9) (r := (RX9, TX9, 9)) hO rfl hS9, hp9⟩ rfl rfl hl9.1 rfl (lv_room (Nat.le_of_ble_eq_true rfl)) dX9_isWithin_8 ⟨Nat.le_of_ble_eq_true rfl, Nat.le_of_ble_eq_true rfl⟩) [] [0, 1] rfl rfl rfl rfl rfl (by decide) (fun _ h => Or.inl h) (fun r4 w5 h6 => ?_)
  obtain ⟨e9, rfl⟩ := h6
  subst r4
  refine z_eq (ws' := [(sa, .inr (3, [.ref im, v1, v2, v3, v4, v5])), (im, .inl (cy 0, 6, .inl img))]) (lv' := [(3, .ref (ub i)), (0, .ref a), (1, .int (nI i)), (2, .int (nI j))]) (st' := [.ref (ub j)]) rfl rfl rfl ?_
  refine z_widen (k' := 0) (n' := 0) (Nat.le_refl _) (Nat.le_refl _) ?_
  refine z_astore X (lv' := [(4, .ref (ub j)), (3, .ref (ub i)), (0, .ref a), (1, .int (nI i)), (2, .int (nI j))]) dX9_isWithin_11 (by decide) rfl ?_
  refine z_aload_n X dX9_isWithin_13 rfl (j := 2) rfl ?_
  refine z_getO X (ci := 9) (C := RX9) (T := TX9) (N := 9) inX9 hO rfl 8 (by decide) fl_X9_54 (fun _ h9 => h9) rfl dX9_isWithin_14 ?_
  refine z_aload X dX9_isWithin_17 (j := 0) rfl ?_
  refine z_aload X dX9_isWithin_19 (j := 0) rfl ?_
  refine z_reti X (as := [.ref (ub j)]) (wc := []) (wr := [(sa, .inr (3, [.ref im, v1, v2, v3, v4, v5])), (im, .inl (cy 0, 6, .inl img))]) (rest := [.ref (ub j), .ref sa]) (fun H9 locs9 ls9 hP9 hS9 hl9 hb9 hp9 => va_runV (As := []) (rest := [.ref (ub j), .ref sa]) X.fix (m_allAtoms l D cy O hB2 hm2 H9.size) (cwV 0 X.hts (gV ml_X9_280 im_X6_allAtoms se_X6_allAtoms ni_X6 cd_X6_allAtoms) rfl rfl rfl (by decide +kernel) ⟨by show 0 + 1 ≤ 34; omega, by show 8 + (1 + 11) + 0 ≤ 800; omega⟩) ⟨hb9, z_recvO X (ci := 6) (r := (RX6, TX6, 3)) hB2 rfl hS9, hp9⟩ rfl rfl hl9.1 rfl (lv_room (Nat.le_of_ble_eq_true rfl)) dX9_isWithin_21 ⟨Nat.le_of_ble_eq_true rfl, Nat.le_of_ble_eq_true rfl⟩) [] [0, 1] rfl rfl rfl rfl rfl (by decide) (fun _ h => Or.inl h) (fun r7 w8 h9 => ?_)
  obtain ⟨rfl, rfl⟩ := h9
  refine z_eq (ws' := [(sa, .inr (3, [.ref im, v1, v2, v3, v4, v5])), (im, .inl (cy 0, 6, .inl img))]) (lv' := [(4, .ref (ub j)), (3, .ref (ub i)), (0, .ref a), (1, .int (nI i)), (2, .int (nI j))]) (st' := [.int (nI (2 ^ (U j).2.2.1 - 1)), .ref (ub j), .ref sa]) rfl rfl rfl ?_
  refine z_widen (k' := 0) (n' := 0) (Nat.le_refl _) (Nat.le_refl _) ?_
  refine z_aload_n X dX9_isWithin_24 rfl (j := 1) rfl ?_
  refine z_aload_n X dX9_isWithin_25 rfl (j := 1) rfl ?_
  refine z_reti X (as := [.ref (ub i)]) (wc := []) (wr := [(sa, .inr (3, [.ref im, v1, v2, v3, v4, v5])), (im, .inl (cy 0, 6, .inl img))]) (rest := [.ref (ub i), .int (nI (2 ^ (U j).2.2.1 - 1)), .ref (ub j), .ref sa]) (fun H9 locs9 ls9 hP9 hS9 hl9 hb9 hp9 => va_runV (As := []) (rest := [.ref (ub i), .int (nI (2 ^ (U j).2.2.1 - 1)), .ref (ub j), .ref sa]) X.fix (m_allAtoms l D cy O hB1 hm1 H9.size) (cwV 0 X.hts (gV ml_X9_280 im_X6_allAtoms se_X6_allAtoms ni_X6 cd_X6_allAtoms) rfl rfl rfl (by decide +kernel) ⟨by show 0 + 1 ≤ 34; omega, by show 8 + (1 + 11) + 0 ≤ 800; omega⟩) ⟨hb9, z_recvO X (ci := 6) (r := (RX6, TX6, 3)) hB1 rfl hS9, hp9⟩ rfl rfl hl9.1 rfl (lv_room (Nat.le_of_ble_eq_true rfl)) dX9_isWithin_26 ⟨Nat.le_of_ble_eq_true rfl, Nat.le_of_ble_eq_true rfl⟩) [] [0, 1] rfl rfl rfl rfl rfl (by decide) (fun _ h => Or.inl h) (fun r10 w11 h12 => ?_)
  obtain ⟨rfl, rfl⟩ := h12
  refine z_eq (ws' := [(sa, .inr (3, [.ref im, v1, v2, v3, v4, v5])), (im, .inl (cy 0, 6, .inl img))]) (lv' := [(4, .ref (ub j)), (3, .ref (ub i)), (0, .ref a), (1, .int (nI i)), (2, .int (nI j))]) (st' := [.int (nI (2 ^ (U i).2.2.1 - 1)), .ref (ub i), .int (nI (2 ^ (U j).2.2.1 - 1)), .ref (ub j), .ref sa]) rfl rfl rfl ?_
  refine z_widen (k' := 0) (n' := 0) (Nat.le_refl _) (Nat.le_refl _) ?_
  refine z_reti X (as := [.ref sa, .ref (ub j), .int (nI (2 ^ (U j).2.2.1 - 1)), .ref (ub i), .int (nI (2 ^ (U i).2.2.1 - 1))]) (wc := [(sa, .inr (3, [.ref im, v1, v2, v3, v4, v5])), (im, .inl (cy 0, 6, .inl img))]) (wr := []) (rest := []) (fun H9 locs9 ls9 hP9 hS9 hl9 hb9 hp9 => va_runV (As := [.ref (ub j), .int (nI (2 ^ (U j).2.2.1 - 1)), .ref (ub i), .int (nI (2 ^ (U i).2.2.1 - 1))]) (rest := []) X.fix (m_finds l D cy O hR hqj hq (al_lt hm2) (al_lt hm1) hinj H9.size) (cwV 4 X.hts (gV ml_X9_284 im_X3_finds se_X3_finds ni_X3 cd_X3_finds) rfl rfl rfl (by decide +kernel) ⟨by show 30 + 1 ≤ 34; omega, by show 8 + (5 + 11) + 500 ≤ 800; omega⟩) ⟨hb9, z_recvW X (q0 := 0) (ci := 3) (r := (RX3, TX3, 6)) rfl rfl hP9, hp9⟩ rfl rfl hl9.1 rfl (lv_room (Nat.le_of_ble_eq_true rfl)) dX9_isWithin_29 ⟨Nat.le_of_ble_eq_true rfl, Nat.le_of_ble_eq_true rfl⟩) [0, 1] [] rfl rfl rfl rfl rfl (by decide) (fun _ h => Or.inl h) (fun r13 w14 h15 => ?_)
  obtain ⟨rfl, x1, x2, x3, x4, x5, xi, rfl⟩ := h15
  refine z_eq (ws' := [(sa, .inr (3, [.ref im, x1, x2, x3, x4, x5])), (im, .inl (cy 0, 6, .inl xi))]) (lv' := [(4, .ref (ub j)), (3, .ref (ub i)), (0, .ref a), (1, .int (nI i)), (2, .int (nI j))]) (st' := [.int (bit (fnd R (U j) (2 ^ (U j).2.2.1 - 1) (U i) (2 ^ (U i).2.2.1 - 1)))]) rfl rfl rfl ?_
  refine z_widen (k' := 0) (n' := 0) (Nat.le_refl _) (Nat.le_refl _) ?_
  exact z_endz X hr (bit_01 _) [(sa, .inr (3, [.ref im, x1, x2, x3, x4, x5])), (im, .inl (cy 0, 6, .inl xi))] [0, 1] rfl rfl rfl ⟨rfl, _, _, _, _, _, _, rfl⟩ dX9_isWithin_32
set_option maxHeartbeats 4000000 in
set_option maxRecDepth 100000 in
/-- shorten(rule) -/
theorem m_shorten (l : Launch) (D : va_G) (cy : Nat → ClassId) (O : Nat × va_E → Prop) {a ra fa ua rc fc uc wk sa : Nat} {g6 : Value} (hO : O (a, .inr (9, [.ref ra, .int (nI rc), .ref fa, .int (nI fc), .ref ua, .int (nI uc), g6, .ref wk, .ref sa]))) {R : Nat → RRow} {rb : Nat → Nat} {FU : Nat → Option Nat} (hFU : O (ua, .inl (cy 4, 8, .inr (.inr (.inr (.inr FU)))))) (huc : uc ≤ 8) (hR : ∀ j, j < rc → RlO O cy (rb j) (R j)) (hinj : ∀ i j, i < rc → j < rc → rb i = rb j → i = j) {i bq hd1 aa1 : Nat} (hi : i < uc) (hFi : FU i = some bq) {q : URow} {F1 : Nat → Option Nat} {aA1 tA1 : Nat → Nat} (hM0 : TmO O cy hd1 q.1 q.2.1) (hh1 : q.1 ≤ 3) (hm1 : q.2.2.1 ≤ 5) (hat1 : ∀ k, k < q.2.2.1 → F1 k = some (aA1 k) ∧ q.2.2.2.1 k < rc ∧ O (aA1 k, .inr (0, [.ref (rb (q.2.2.2.1 k)), .ref (tA1 k)])) ∧ TmO O cy (tA1 k) (R (q.2.2.2.1 k)).1 (q.2.2.2.2 k)) {im : Nat} {v1 v2 v3 v4 v5 : Value} {img : Nat → Int32}  : Ci l yX9_shorten (.code yX9_shorten cX9_shorten 4 (some .int) :: WALL) ({ frames := 34, cells := 0, slots := 0, locals := 800 }) D cy O [.ref a, .int (nI i)] [(sa, .inr (3, [.ref im, v1, v2, v3, v4, v5])), (im, .inl (cy 0, 6, .inl img)), (bq, .inr (6, [.ref hd1, .ref aa1, .int (nI q.2.2.1)])), (aa1, .inl (cy 5, 5, .inr (.inr (.inr (.inr F1)))))] 0 0 (fun (r : Int32) (w : va_W) => r = nI (q.2.2.1 - ct (shrt R q q.2.2.1).testBit q.2.2.1) ∧ ∃ (x1 x2 x3 x4 x5 : Value) (xi : Nat → Int32), w = [(sa, .inr (3, [.ref im, x1, x2, x3, x4, x5])), (im, .inl (cy 0, 6, .inl xi)), (bq, .inr (6, [.ref hd1, .ref aa1, .int (nI (ct (shrt R q q.2.2.1).testBit q.2.2.1))])), (aa1, .inl (cy 5, 5, .inr (.inr (.inr (.inr (kpF (shrt R q q.2.2.1) F1 q.2.2.1))))))]) := by
  have hsl : (shrt R q q.2.2.1) < 2 ^ 31 := Nat.lt_trans (shr5 hm1) (by decide)
  have hcs := ct_le (shrt R q q.2.2.1).testBit q.2.2.1
  have hq9 : RuO (fun z => O z ∨ z ∈ ([(bq, .inr (6, [.ref hd1, .ref aa1, .int (nI q.2.2.1)])), (aa1, .inl (cy 5, 5, .inr (.inr (.inr (.inr F1)))))] : va_W)) cy R rb rc bq q := ⟨hd1, aa1, F1, aA1, tA1, Or.inr (List.mem_of_getElem? (i := 0) rfl), hM0.mono fun z h => Or.inl h, Or.inr (List.mem_of_getElem? (i := 1) rfl), hh1, hm1, fun k hk => ⟨(hat1 k hk).1, (hat1 k hk).2.1, Or.inl (hat1 k hk).2.2.1, (hat1 k hk).2.2.2.mono fun z h => Or.inl h⟩⟩
  refine z_meti (by decide) rfl rfl (Nat.le_of_ble_eq_true rfl) ?_
  intro p e s m args below meth c X hr hin
  refine z_eq (ws' := [(sa, .inr (3, [.ref im, v1, v2, v3, v4, v5])), (im, .inl (cy 0, 6, .inl img)), (bq, .inr (6, [.ref hd1, .ref aa1, .int (nI q.2.2.1)])), (aa1, .inl (cy 5, 5, .inr (.inr (.inr (.inr F1)))))]) (lv' := [(0, .ref a), (1, .int (nI i))]) (st' := []) rfl rfl rfl ?_
  refine z_aload_n X dX9_shorten_0 rfl (j := 0) rfl ?_
  refine z_iload_n X dX9_shorten_1 rfl (j := 1) rfl ?_
  refine z_retr X (as := [.ref a, .int (nI i)]) (wc := []) (wr := [(sa, .inr (3, [.ref im, v1, v2, v3, v4, v5])), (im, .inl (cy 0, 6, .inl img)), (bq, .inr (6, [.ref hd1, .ref aa1, .int (nI q.2.2.1)])), (aa1, .inl (cy 5, 5, .inr (.inr (.inr (.inr F1)))))]) (rest := []) (fun H9 locs9 ls9 hP9 hS9 hl9 hb9 hp9 => va_runV (As := [.int (nI i)]) (rest := []) X.fix (m_ruleAt l D cy O hO hFU hi huc hFi H9.size) (cwV 1 X.hts (gV ml_X9_227 im_X9_ruleAt se_X9_ruleAt ni_X9 cd_X9_ruleAt) rfl rfl rfl (by decide +kernel) ⟨by show 0 + 1 ≤ 34; omega, by show 8 + (2 + 11) + 0 ≤ 800; omega⟩) ⟨hb9, z_recvO X (ci := 9) (r := (RX9, TX9, 9)) hO rfl hS9, hp9⟩ rfl rfl hl9.1 rfl (lv_room (Nat.le_of_ble_eq_true rfl)) dX9_shorten_2 ⟨Nat.le_of_ble_eq_true rfl, Nat.le_of_ble_eq_true rfl⟩) [] [0, 1, 2, 3] rfl rfl rfl rfl rfl (by decide) (fun _ h => Or.inl h) (fun r1 w2 h3 => ?_)
  obtain ⟨e9, rfl⟩ := h3
  subst r1
  refine z_eq (ws' := [(sa, .inr (3, [.ref im, v1, v2, v3, v4, v5])), (im, .inl (cy 0, 6, .inl img)), (bq, .inr (6, [.ref hd1, .ref aa1, .int (nI q.2.2.1)])), (aa1, .inl (cy 5, 5, .inr (.inr (.inr (.inr F1)))))]) (lv' := [(0, .ref a), (1, .int (nI i))]) (st' := [.ref bq]) rfl rfl rfl ?_
  refine z_widen (k' := 0) (n' := 0) (Nat.le_refl _) (Nat.le_refl _) ?_
  refine z_astore_n X (lv' := [(2, .ref bq), (0, .ref a), (1, .int (nI i))]) dX9_shorten_5 rfl (by decide) rfl ?_
  refine z_aload_n X dX9_shorten_6 rfl (j := 0) rfl ?_
  refine z_getW X 2 (C := RX6) (T := TX6) (N := 3) inX6 rfl rfl 2 (by decide) fl_X9_231 (fun _ h9 => h9) rfl dX9_shorten_7 ?_
  refine z_istore_n X (lv' := [(3, .int (nI q.2.2.1)), (2, .ref bq), (0, .ref a), (1, .int (nI i))]) dX9_shorten_10 rfl (by decide) rfl ?_
  refine z_aload_n X dX9_shorten_11 rfl (j := 1) rfl ?_
  refine z_aload_n X dX9_shorten_12 rfl (j := 2) rfl ?_
  refine z_getO X (ci := 9) (C := RX9) (T := TX9) (N := 9) inX9 hO rfl 8 (by decide) fl_X9_54 (fun _ h9 => h9) rfl dX9_shorten_13 ?_
  refine z_aload_n X dX9_shorten_16 rfl (j := 1) rfl ?_
  refine z_reti X (as := [.ref sa, .ref bq]) (wc := [(sa, .inr (3, [.ref im, v1, v2, v3, v4, v5])), (im, .inl (cy 0, 6, .inl img))]) (wr := [(bq, .inr (6, [.ref hd1, .ref aa1, .int (nI q.2.2.1)])), (aa1, .inl (cy 5, 5, .inr (.inr (.inr (.inr F1)))))]) (rest := [.ref bq]) (fun H9 locs9 ls9 hP9 hS9 hl9 hb9 hp9 => va_runV (As := [.ref bq]) (rest := [.ref bq]) X.fix (m_shortened l D cy (fun z => O z ∨ z ∈ ([(bq, .inr (6, [.ref hd1, .ref aa1, .int (nI q.2.2.1)])), (aa1, .inl (cy 5, 5, .inr (.inr (.inr (.inr F1)))))] : va_W)) (fun j hj => (hR j hj).mono fun z h => Or.inl h) hq9 hinj H9.size) (cwV 1 X.hts (gV ml_X9_242 im_X3_shortened se_X3_shortened ni_X3 cd_X3_shortened) rfl rfl rfl (by decide +kernel) ⟨by show 31 + 1 ≤ 34; omega, by show 8 + (4 + 11) + 530 ≤ 800; omega⟩) ⟨hb9, z_recvW X (q0 := 0) (ci := 3) (r := (RX3, TX3, 6)) rfl rfl hP9, hp9⟩ rfl rfl hl9.1 rfl (lv_room (Nat.le_of_ble_eq_true rfl)) dX9_shorten_17 ⟨Nat.le_of_ble_eq_true rfl, Nat.le_of_ble_eq_true rfl⟩) [0, 1] [2, 3] rfl rfl rfl rfl rfl (by decide) (fun z h => h) (fun r4 w5 h6 => ?_)
  obtain ⟨rfl, x1, x2, x3, x4, x5, xi, rfl⟩ := h6
  refine z_eq (ws' := [(bq, .inr (6, [.ref hd1, .ref aa1, .int (nI q.2.2.1)])), (aa1, .inl (cy 5, 5, .inr (.inr (.inr (.inr F1))))), (sa, .inr (3, [.ref im, x1, x2, x3, x4, x5])), (im, .inl (cy 0, 6, .inl xi))]) (lv' := [(3, .int (nI q.2.2.1)), (2, .ref bq), (0, .ref a), (1, .int (nI i))]) (st' := [.int (nI (shrt R q q.2.2.1)), .ref bq]) rfl rfl rfl ?_
  refine z_widen (k' := 0) (n' := 0) (Nat.le_refl _) (Nat.le_refl _) ?_
  refine z_retv X (as := [.ref bq, .int (nI (shrt R q q.2.2.1))]) (wc := [(bq, .inr (6, [.ref hd1, .ref aa1, .int (nI q.2.2.1)])), (aa1, .inl (cy 5, 5, .inr (.inr (.inr (.inr F1)))))]) (wr := [(sa, .inr (3, [.ref im, x1, x2, x3, x4, x5])), (im, .inl (cy 0, 6, .inl xi))]) (rest := []) (fun H9 locs9 ls9 hP9 hS9 hl9 hb9 hp9 => va_runV (As := [.int (nI (shrt R q q.2.2.1))]) (rest := []) X.fix (m_keepAtoms l D cy O hsl hm1 (fun k hk => (hat1 k hk).1) (fun k hk => ⟨_, _, (hat1 k hk).2.2.1⟩) H9.size) (cwV 1 X.hts (gV ml_X9_291 im_X6_keepAtoms se_X6_keepAtoms ni_X6 cd_X6_keepAtoms) rfl rfl rfl (by decide +kernel) ⟨by show 1 + 1 ≤ 34; omega, by show 8 + (4 + 11) + 21 ≤ 800; omega⟩) ⟨hb9, z_recvW X (q0 := 0) (ci := 6) (r := (RX6, TX6, 3)) rfl rfl hP9, hp9⟩ rfl rfl hl9.1 rfl (lv_room (Nat.le_of_ble_eq_true rfl)) dX9_shorten_20 ⟨Nat.le_of_ble_eq_true rfl, Nat.le_of_ble_eq_true rfl⟩) [0, 1] [2, 3] rfl rfl rfl rfl rfl (by decide) (fun _ h => Or.inl h) (fun w8 h9 => ?_)
  subst h9
  refine z_eq (ws' := [(sa, .inr (3, [.ref im, x1, x2, x3, x4, x5])), (im, .inl (cy 0, 6, .inl xi)), (bq, .inr (6, [.ref hd1, .ref aa1, .int (nI (ct (shrt R q q.2.2.1).testBit q.2.2.1))])), (aa1, .inl (cy 5, 5, .inr (.inr (.inr (.inr (kpF (shrt R q q.2.2.1) F1 q.2.2.1))))))]) (lv' := [(3, .int (nI q.2.2.1)), (2, .ref bq), (0, .ref a), (1, .int (nI i))]) (st' := []) rfl rfl rfl ?_
  refine z_widen (k' := 0) (n' := 0) (Nat.le_refl _) (Nat.le_refl _) ?_
  refine z_iload_n X dX9_shorten_23 rfl (j := 0) rfl ?_
  refine z_aload_n X dX9_shorten_24 rfl (j := 1) rfl ?_
  refine z_getW X 2 (C := RX6) (T := TX6) (N := 3) inX6 rfl rfl 2 (by decide) fl_X9_231 (fun _ h9 => h9) rfl dX9_shorten_25 ?_
  refine z_isub X (v := (nI (q.2.2.1 - ct (shrt R q q.2.2.1).testBit q.2.2.1))) dX9_shorten_28 (pk_sub hcs) ?_
  exact z_endi X hr [(sa, .inr (3, [.ref im, x1, x2, x3, x4, x5])), (im, .inl (cy 0, 6, .inl xi)), (bq, .inr (6, [.ref hd1, .ref aa1, .int (nI (ct (shrt R q q.2.2.1).testBit q.2.2.1))])), (aa1, .inl (cy 5, 5, .inr (.inr (.inr (.inr (kpF (shrt R q q.2.2.1) F1 q.2.2.1))))))] [0, 1, 2, 3] rfl rfl rfl ⟨rfl, x1, x2, x3, x4, x5, xi, rfl⟩ dX9_shorten_29
