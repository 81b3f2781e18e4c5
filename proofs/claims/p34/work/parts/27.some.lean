/-- whether one below k is -/
def exB (q : Nat → Bool) : Nat → Bool
  | 0 => false
  | k + 1 => exB q k || q k
theorem exB_iff {q : Nat → Bool} : ∀ {k}, exB q k = true ↔ ∃ i, i < k ∧ q i = true
  | 0 => by simp [exB]
  | k + 1 => by
    rw [exB, Bool.or_eq_true, exB_iff]
    constructor
    · rintro (⟨i, h1, h2⟩ | h)
      · exact ⟨i, by omega, h2⟩
      · exact ⟨k, by omega, h⟩
    · rintro ⟨i, h1, h2⟩
      by_cases h : i = k
      · subst h; exact Or.inr h2
      · exact Or.inl ⟨i, by omega, h2⟩
theorem exB_ext {q r : Nat → Bool} : ∀ {k}, (∀ i, i < k → q i = r i) → exB q k = exB r k
  | 0, _ => rfl
  | k + 1, h => by rw [exB, exB, exB_ext (fun i hi => h i (by omega)), h k (by omega)]
/-- the lane j with the VARIABLE v set to w -/
def sl (v w j : Nat) : Nat := if v = 0 then 8 * w + j % 8 else 8 * (j / 8) + w
theorem nL_mul (a b : Nat) : nL a * nL b = nL (a * b) := by
  apply Int64.toBitVec_inj.mp
  show (BitVec.ofNat 64 a) * (BitVec.ofNat 64 b) = BitVec.ofNat 64 (a * b)
  rw [BitVec.ofNat_mul]
theorem sh0 (q : Nat → Bool) {w : Nat} (hw : w < 8) : nL (ms q 64 / 2 ^ (8 * w)) &&& 255 = lan (fun j => decide (j < 8) && q (8 * w + j)) := by
  rw [show (255 : Int64) = nL 255 from rfl, nL_and, lan]
  congr 1
  refine Nat.eq_of_testBit_eq fun i => ?_
  rw [Nat.testBit_and, Nat.testBit_div_two_pow, ms_bit, ms_bit, show (255 : Nat) = 2 ^ 8 - 1 from rfl, Nat.testBit_two_pow_sub_one]
  by_cases h : i < 8
  · rw [show i + 8 * w = 8 * w + i by omega]; simp [h, show 8 * w + i < 64 by omega, show i < 64 by omega]
  · simp [h]
theorem one_bits : ∀ i, i < 64 → (72340172838076673 : Nat).testBit i = decide (i % 8 = 0) := by decide
theorem sh1 (q : Nat → Bool) {w : Nat} (hw : w < 8) : nL (ms q 64 / 2 ^ w) &&& 72340172838076673 = lan (fun j => decide (j % 8 = 0) && q (j + w)) := by
  rw [show (72340172838076673 : Int64) = nL 72340172838076673 from rfl, nL_and, lan]
  congr 1
  refine Nat.eq_of_testBit_eq fun i => ?_
  rw [Nat.testBit_and, Nat.testBit_div_two_pow, ms_bit, ms_bit]
  by_cases h : i < 64
  · rw [one_bits i h]
    by_cases h8 : i % 8 = 0
    · simp [h, h8, show i + w < 64 by omega]
    · simp [h8]
  · rw [Nat.testBit_lt_two_pow (show (72340172838076673 : Nat) < 2 ^ i from Nat.lt_of_lt_of_le (by decide : (72340172838076673 : Nat) < 2 ^ 64) (Nat.pow_le_pow_right (by decide) (by omega)))]; simp [h]
set_option maxRecDepth 100000 in
theorem mu0 : ∀ x, x < 256 → nL x * 72340172838076673 = lan (fun j => x.testBit (j % 8)) := by decide +kernel
set_option maxRecDepth 100000 in
theorem mu1 : ∀ x, x < 256 → lan (fun j => decide (j % 8 = 0) && x.testBit (j / 8)) * 255 = lan (fun j => x.testBit (j / 8)) := by decide +kernel
theorem mul0 (u : Nat → Bool) : lan (fun j => decide (j < 8) && u j) * 72340172838076673 = lan (fun j => u (j % 8)) := by
  have e : lan (fun j => decide (j < 8) && u j) = nL (ms u 8) := by
    refine congrArg nL (ms_eq fun i => ?_)
    exact by
      by_cases h : i < 8
      · simp [h, show i < 64 by omega]
      · simp [h]
  rw [e, mu0 _ (ms_lt u 8)]
  refine lan_ext fun j _ => ?_
  rw [ms_bit]; simp [Nat.mod_lt j (show 0 < 8 by decide)]
theorem mul1 (u : Nat → Bool) : lan (fun j => decide (j % 8 = 0) && u (j / 8)) * 255 = lan (fun j => u (j / 8)) := by
  have e : ∀ j, j < 64 → (ms u 8).testBit (j / 8) = u (j / 8) := fun j hj => by rw [ms_bit]; simp [show j / 8 < 8 by omega]
  rw [show lan (fun j => decide (j % 8 = 0) && u (j / 8)) = lan (fun j => decide (j % 8 = 0) && (ms u 8).testBit (j / 8)) from lan_ext fun j hj => by rw [e j hj], mu1 _ (ms_lt u 8)]
  exact lan_ext fun j hj => e j hj
theorem su0_s {dom : Nat} {q : Nat → Bool} {w9 : Nat} (h : dom.testBit w9 = true) : (lan (fun j => decide (j < 8) && exB (fun w => dom.testBit w && q (8 * w + j)) w9)) ||| (lan (fun j => decide (j < 8) && q (8 * w9 + j))) = (lan (fun j => decide (j < 8) && exB (fun w => dom.testBit w && q (8 * w + j)) (w9 + 1))) := by
  rw [lan_or]; refine lan_ext fun j _ => ?_
  rw [exB, h]; cases decide (j < 8) <;> simp
theorem su0_n {dom : Nat} {q : Nat → Bool} {w9 : Nat} (h : dom.testBit w9 = false) : (lan (fun j => decide (j < 8) && exB (fun w => dom.testBit w && q (8 * w + j)) w9)) = (lan (fun j => decide (j < 8) && exB (fun w => dom.testBit w && q (8 * w + j)) (w9 + 1))) := by
  refine lan_ext fun j _ => ?_
  rw [exB, h]; simp
theorem su0_0 {dom : Nat} {q : Nat → Bool} : (lan (fun j => decide (j < 8) && exB (fun w => dom.testBit w && q (8 * w + j)) 0)) = 0 := lan_0.mpr fun j _ => by simp [exB]
theorem su0_8 {dom : Nat} {q : Nat → Bool} : (lan (fun j => decide (j < 8) && exB (fun w => dom.testBit w && q (8 * w + j)) 8)) * 72340172838076673 = lan (fun j => exB (fun w => dom.testBit w && q (sl 0 w j)) 8) := by
  rw [mul0 (fun j => exB (fun w => dom.testBit w && q (8 * w + j)) 8)]
  rfl
set_option maxHeartbeats 4000000 in
set_option maxRecDepth 100000 in
/-- someLane(variable, inner) -/
theorem m_someLane_0 (l : Launch) (D : va_G) (cy : Nat → ClassId) (O : Nat × va_E → Prop) {b2 dom : Nat} {f0 f1 : Value} {q : Nat → Bool} (hL : O (b2, .inr (2, [f0, f1, .int (nI dom)]))) (hd : dom < 2 ^ 31) : Cl l yX2_someLane (.code yX2_someLane cX2_someLane 7 (some .long) :: WALL) ({ frames := 1, cells := 0, slots := 0, locals := 21 }) D cy O [.ref b2, .int 0, .long (lan q)] [] 0 0 (fun (r : Int64) (w : va_W) => r = lan (fun j => exB (fun w => dom.testBit w && q (sl 0 w j)) 8) ∧ w = []) := by
  refine z_metl (by decide) rfl rfl (Nat.le_of_ble_eq_true rfl) ?_
  intro p e s m args below meth c X hr hin
  refine z_eq (ws' := []) (lv' := [(0, .ref b2), (1, .int 0), (2, .long (lan q))]) (st' := []) rfl rfl rfl ?_
  have L : ∀ (d : Nat) (w9 : Nat), w9 + d = 8 → Zz D (va_A [] s.heap.size) 7 p l e ({ frames := 1, cells := 0, slots := 0, locals := 21 }) s m args below meth c (MQ below (va_Ql (fun (r : Int64) (w : va_W) => r = lan (fun j => exB (fun w => dom.testBit w && q (sl 0 w j)) 8) ∧ w = []) (end_ D [] s.heap.size) (va_A [] s.heap.size)) args s 0 0 (va_A [] s.heap.size)) [] [(6, .int (nI w9)), (4, .long (lan (fun j => decide (j < 8) && exB (fun w => dom.testBit w && q (8 * w + j)) w9))), (0, .ref b2), (1, .int 0), (2, .long (lan q))] 0 0 6 [] := by
    intro d
    induction d with
    | zero =>
      intro w9 hL0
      refine z_iload X dX2_someLane_6 (j := 0) rfl ?_
      refine z_bipush X (v := 8) dX2_someLane_8 (by decide) ?_
      refine z_icmp_ge X (tgt := 62) dX2_someLane_10 (by decide) (fun c_10 => ?_) (fun c9 => absurd (nI_le (a := 8) (b := w9) (by omega) (by omega)) c9)
      refine z_iload_n X dX2_someLane_62 rfl (j := 3) rfl ?_
      refine z_if_ne X (tgt := 75) dX2_someLane_63 (by decide) (fun c9 => absurd (by decide) c9) (fun c_63 => ?_)
      refine z_lload X dX2_someLane_66 (j := 1) rfl ?_
      refine z_ldc2 X kc_X2_162 dX2_someLane_68 ?_
      refine z_lmul X (v := (lan (fun j => exB (fun w => dom.testBit w && q (sl 0 w j)) 8))) dX2_someLane_71 (by rw [show w9 = 8 by omega]; exact su0_8) ?_
      refine z_goto X (tgt := 81) dX2_someLane_72 (by decide) ?_
      exact z_endl X hr [] [] rfl rfl rfl ⟨rfl, rfl⟩ dX2_someLane_81
    | succ d ih =>
      intro w9 hL0
      refine z_iload X dX2_someLane_6 (j := 0) rfl ?_
      refine z_bipush X (v := 8) dX2_someLane_8 (by decide) ?_
      refine z_icmp_ge X (tgt := 62) dX2_someLane_10 (by decide) (fun c9 => absurd c9 (nI_ge (a := w9) (b := 8) (by omega) (by decide))) (fun c_10 => ?_)
      refine z_aload_n X dX2_someLane_13 rfl (j := 2) rfl ?_
      refine z_getO X (ci := 2) (C := RX2) (T := TX2) (N := 3) inX2 hL rfl 2 (by decide) fl_X2_22 (fun _ h9 => h9) rfl dX2_someLane_14 ?_
      refine z_iload X dX2_someLane_17 (j := 0) rfl ?_
      refine z_reti X (as := [.int (nI dom), .int (nI w9)]) (wc := []) (wr := []) (rest := []) (fun H9 locs9 ls9 hP9 hS9 hl9 hb9 hp9 => va_runSN (As := [.int (nI dom), .int (nI w9)]) (rest := []) X.fix (m_isIn l D cy O (nI dom) (nI w9) H9.size) ⟨va_cnB 2 X.hts (gB cd_X9_isIn) rfl rfl rfl (X.nw.1 _ (List.mem_of_getElem? (i := 5) rfl)) (X.hts _ ni_X9) (by decide +kernel) ⟨Nat.le_of_ble_eq_true rfl, Nat.le_of_ble_eq_true rfl⟩, X.hts _ sm_X9_isIn, trivial⟩ ⟨hb9, hp9⟩ rfl rfl hl9.1 rfl (lv_room (Nat.le_of_ble_eq_true rfl)) dX2_someLane_19 ⟨Nat.le_of_ble_eq_true rfl, Nat.le_of_ble_eq_true rfl⟩) [] [] rfl rfl rfl rfl rfl (by decide) (fun _ h => Or.inl h) (fun r1 w2 h3 => ?_)
      obtain ⟨rfl, rfl⟩ := h3
      refine z_eq (ws' := []) (lv' := [(6, .int (nI w9)), (4, .long (lan (fun j => decide (j < 8) && exB (fun w => dom.testBit w && q (8 * w + j)) w9))), (0, .ref b2), (1, .int 0), (2, .long (lan q))]) (st' := [.int (bI (nI dom) (nI w9))]) rfl rfl rfl ?_
      refine z_widen (k' := 0) (n' := 0) (Nat.le_refl _) (Nat.le_refl _) ?_
      refine z_if_eq X (tgt := 56) dX2_someLane_22 (by decide) (fun c_22 => ?_) (fun c_22 => ?_)
      · skip
        refine z_iinc X (j := 0) (v := (nI (w9 + 1))) (lv' := [(6, .int (nI (w9 + 1))), (4, .long (lan (fun j => decide (j < 8) && exB (fun w => dom.testBit w && q (8 * w + j)) w9))), (0, .ref b2), (1, .int 0), (2, .long (lan q))]) dX2_someLane_56 rfl (nI_1 w9) (by decide) rfl ?_
        refine z_goto X (tgt := 6) dX2_someLane_59 (by decide) ?_
        refine z_lv [0, 1, 2, 3, 4] (lv' := [(6, .int (nI (w9 + 1))), (4, .long (lan (fun j => decide (j < 8) && exB (fun w => dom.testBit w && q (8 * w + j)) w9))), (0, .ref b2), (1, .int 0), (2, .long (lan q))]) rfl ?_
        refine z_eq (ws' := []) (lv' := [(6, .int (nI (w9 + 1))), (4, .long (lan (fun j => decide (j < 8) && exB (fun w => dom.testBit w && q (8 * w + j)) (w9 + 1)))), (0, .ref b2), (1, .int 0), (2, .long (lan q))]) (st' := []) rfl (by rw [su0_n (bit_no hd (by omega) c_22)]) rfl ?_
        exact ih (w9 + 1) (by omega)
      · skip
        refine z_lload X dX2_someLane_25 (j := 1) rfl ?_
        refine z_iload_n X dX2_someLane_27 rfl (j := 3) rfl ?_
        refine z_if_ne X (tgt := 45) dX2_someLane_28 (by decide) (fun c9 => absurd (by decide) c9) (fun c_28 => ?_)
        refine z_lload_n X dX2_someLane_31 rfl (j := 4) rfl ?_
        refine z_bipush X (v := 8) dX2_someLane_32 (by decide) ?_
        refine z_iload X dX2_someLane_34 (j := 0) rfl ?_
        refine z_imul X (v := (nI (8 * w9))) dX2_someLane_36 (mul_8' w9) ?_
        refine z_lushr X (v := (nL (ms q 64 / 2 ^ (8 * w9)))) dX2_someLane_37 (ushr_nL (j := 8 * w9) (ms_lt64 q) (by omega)) ?_
        refine z_ldc2 X kc_X2_160 dX2_someLane_38 ?_
        refine z_land X (v := (lan (fun j => decide (j < 8) && q (8 * w9 + j)))) dX2_someLane_41 (sh0 q (by omega)) ?_
        refine z_goto X (tgt := 53) dX2_someLane_42 (by decide) ?_
        refine z_lor X (v := (lan (fun j => decide (j < 8) && exB (fun w => dom.testBit w && q (8 * w + j)) (w9 + 1)))) dX2_someLane_53 (su0_s (bit_yes hd (by omega) c_22)) ?_
        refine z_lstore X (lv' := [(4, .long (lan (fun j => decide (j < 8) && exB (fun w => dom.testBit w && q (8 * w + j)) (w9 + 1)))), (6, .int (nI w9)), (0, .ref b2), (1, .int 0), (2, .long (lan q))]) dX2_someLane_54 (by decide) rfl ?_
        refine z_iinc X (j := 1) (v := (nI (w9 + 1))) (lv' := [(6, .int (nI (w9 + 1))), (4, .long (lan (fun j => decide (j < 8) && exB (fun w => dom.testBit w && q (8 * w + j)) (w9 + 1)))), (0, .ref b2), (1, .int 0), (2, .long (lan q))]) dX2_someLane_56 rfl (nI_1 w9) (by decide) rfl ?_
        refine z_goto X (tgt := 6) dX2_someLane_59 (by decide) ?_
        refine z_eq (ws' := []) (lv' := [(6, .int (nI (w9 + 1))), (4, .long (lan (fun j => decide (j < 8) && exB (fun w => dom.testBit w && q (8 * w + j)) (w9 + 1)))), (0, .ref b2), (1, .int 0), (2, .long (lan q))]) (st' := []) rfl rfl rfl ?_
        exact ih (w9 + 1) (by omega)
  refine z_lconst X (v := 0) dX2_someLane_0 (by decide) ?_
  refine z_lstore X (lv' := [(4, .long 0), (0, .ref b2), (1, .int 0), (2, .long (lan q))]) dX2_someLane_1 (by decide) rfl ?_
  refine z_iconst X (v := 0) dX2_someLane_3 (by decide) ?_
  refine z_istore X (lv' := [(6, .int 0), (4, .long 0), (0, .ref b2), (1, .int 0), (2, .long (lan q))]) dX2_someLane_4 (by decide) rfl ?_
  refine z_eq (ws' := []) (lv' := [(6, .int (nI 0)), (4, .long (lan (fun j => decide (j < 8) && exB (fun w => dom.testBit w && q (8 * w + j)) 0))), (0, .ref b2), (1, .int 0), (2, .long (lan q))]) (st' := []) rfl (by rw [su0_0]; rfl) rfl ?_
  exact L (8) 0 (by omega)
theorem su1_s {dom : Nat} {q : Nat → Bool} {w9 : Nat} (h : dom.testBit w9 = true) : (lan (fun j => decide (j % 8 = 0) && exB (fun w => dom.testBit w && q (j + w)) w9)) ||| (lan (fun j => decide (j % 8 = 0) && q (j + w9))) = (lan (fun j => decide (j % 8 = 0) && exB (fun w => dom.testBit w && q (j + w)) (w9 + 1))) := by
  rw [lan_or]; refine lan_ext fun j _ => ?_
  rw [exB, h]; cases decide (j % 8 = 0) <;> simp
theorem su1_n {dom : Nat} {q : Nat → Bool} {w9 : Nat} (h : dom.testBit w9 = false) : (lan (fun j => decide (j % 8 = 0) && exB (fun w => dom.testBit w && q (j + w)) w9)) = (lan (fun j => decide (j % 8 = 0) && exB (fun w => dom.testBit w && q (j + w)) (w9 + 1))) := by
  refine lan_ext fun j _ => ?_
  rw [exB, h]; simp
theorem su1_0 {dom : Nat} {q : Nat → Bool} : (lan (fun j => decide (j % 8 = 0) && exB (fun w => dom.testBit w && q (j + w)) 0)) = 0 := lan_0.mpr fun j _ => by simp [exB]
theorem su1_8 {dom : Nat} {q : Nat → Bool} : (lan (fun j => decide (j % 8 = 0) && exB (fun w => dom.testBit w && q (j + w)) 8)) * 255 = lan (fun j => exB (fun w => dom.testBit w && q (sl 1 w j)) 8) := by
  have e := mul1 (fun i => exB (fun w => dom.testBit w && q (8 * i + w)) 8)
  rw [show (lan (fun j => decide (j % 8 = 0) && exB (fun w => dom.testBit w && q (j + w)) 8)) = lan (fun j => decide (j % 8 = 0) && exB (fun w => dom.testBit w && q (8 * (j / 8) + w)) 8) from lan_ext fun j _ => by
    by_cases h : j % 8 = 0
    · rw [show 8 * (j / 8) = j by omega]
    · simp [h], e]
  rfl
set_option maxHeartbeats 4000000 in
set_option maxRecDepth 100000 in
/-- someLane(variable, inner) -/
theorem m_someLane_1 (l : Launch) (D : va_G) (cy : Nat → ClassId) (O : Nat × va_E → Prop) {b2 dom : Nat} {f0 f1 : Value} {q : Nat → Bool} (hL : O (b2, .inr (2, [f0, f1, .int (nI dom)]))) (hd : dom < 2 ^ 31) : Cl l yX2_someLane (.code yX2_someLane cX2_someLane 7 (some .long) :: WALL) ({ frames := 1, cells := 0, slots := 0, locals := 21 }) D cy O [.ref b2, .int 1, .long (lan q)] [] 0 0 (fun (r : Int64) (w : va_W) => r = lan (fun j => exB (fun w => dom.testBit w && q (sl 1 w j)) 8) ∧ w = []) := by
  refine z_metl (by decide) rfl rfl (Nat.le_of_ble_eq_true rfl) ?_
  intro p e s m args below meth c X hr hin
  refine z_eq (ws' := []) (lv' := [(0, .ref b2), (1, .int 1), (2, .long (lan q))]) (st' := []) rfl rfl rfl ?_
  have L : ∀ (d : Nat) (w9 : Nat), w9 + d = 8 → Zz D (va_A [] s.heap.size) 7 p l e ({ frames := 1, cells := 0, slots := 0, locals := 21 }) s m args below meth c (MQ below (va_Ql (fun (r : Int64) (w : va_W) => r = lan (fun j => exB (fun w => dom.testBit w && q (sl 1 w j)) 8) ∧ w = []) (end_ D [] s.heap.size) (va_A [] s.heap.size)) args s 0 0 (va_A [] s.heap.size)) [] [(6, .int (nI w9)), (4, .long (lan (fun j => decide (j % 8 = 0) && exB (fun w => dom.testBit w && q (j + w)) w9))), (0, .ref b2), (1, .int 1), (2, .long (lan q))] 0 0 6 [] := by
    intro d
    induction d with
    | zero =>
      intro w9 hL0
      refine z_iload X dX2_someLane_6 (j := 0) rfl ?_
      refine z_bipush X (v := 8) dX2_someLane_8 (by decide) ?_
      refine z_icmp_ge X (tgt := 62) dX2_someLane_10 (by decide) (fun c_10 => ?_) (fun c9 => absurd (nI_le (a := 8) (b := w9) (by omega) (by omega)) c9)
      refine z_iload_n X dX2_someLane_62 rfl (j := 3) rfl ?_
      refine z_if_ne X (tgt := 75) dX2_someLane_63 (by decide) (fun c_63 => ?_) (fun c9 => absurd c9 (by decide))
      refine z_lload X dX2_someLane_75 (j := 1) rfl ?_
      refine z_ldc2 X kc_X2_160 dX2_someLane_77 ?_
      refine z_lmul X (v := (lan (fun j => exB (fun w => dom.testBit w && q (sl 1 w j)) 8))) dX2_someLane_80 (by rw [show w9 = 8 by omega]; exact su1_8) ?_
      exact z_endl X hr [] [] rfl rfl rfl ⟨rfl, rfl⟩ dX2_someLane_81
    | succ d ih =>
      intro w9 hL0
      refine z_iload X dX2_someLane_6 (j := 0) rfl ?_
      refine z_bipush X (v := 8) dX2_someLane_8 (by decide) ?_
      refine z_icmp_ge X (tgt := 62) dX2_someLane_10 (by decide) (fun c9 => absurd c9 (nI_ge (a := w9) (b := 8) (by omega) (by decide))) (fun c_10 => ?_)
      refine z_aload_n X dX2_someLane_13 rfl (j := 2) rfl ?_
      refine z_getO X (ci := 2) (C := RX2) (T := TX2) (N := 3) inX2 hL rfl 2 (by decide) fl_X2_22 (fun _ h9 => h9) rfl dX2_someLane_14 ?_
      refine z_iload X dX2_someLane_17 (j := 0) rfl ?_
      refine z_reti X (as := [.int (nI dom), .int (nI w9)]) (wc := []) (wr := []) (rest := []) (fun H9 locs9 ls9 hP9 hS9 hl9 hb9 hp9 => va_runSN (As := [.int (nI dom), .int (nI w9)]) (rest := []) X.fix (m_isIn l D cy O (nI dom) (nI w9) H9.size) ⟨va_cnB 2 X.hts (gB cd_X9_isIn) rfl rfl rfl (X.nw.1 _ (List.mem_of_getElem? (i := 5) rfl)) (X.hts _ ni_X9) (by decide +kernel) ⟨Nat.le_of_ble_eq_true rfl, Nat.le_of_ble_eq_true rfl⟩, X.hts _ sm_X9_isIn, trivial⟩ ⟨hb9, hp9⟩ rfl rfl hl9.1 rfl (lv_room (Nat.le_of_ble_eq_true rfl)) dX2_someLane_19 ⟨Nat.le_of_ble_eq_true rfl, Nat.le_of_ble_eq_true rfl⟩) [] [] rfl rfl rfl rfl rfl (by decide) (fun _ h => Or.inl h) (fun r1 w2 h3 => ?_)
      obtain ⟨rfl, rfl⟩ := h3
      refine z_eq (ws' := []) (lv' := [(6, .int (nI w9)), (4, .long (lan (fun j => decide (j % 8 = 0) && exB (fun w => dom.testBit w && q (j + w)) w9))), (0, .ref b2), (1, .int 1), (2, .long (lan q))]) (st' := [.int (bI (nI dom) (nI w9))]) rfl rfl rfl ?_
      refine z_widen (k' := 0) (n' := 0) (Nat.le_refl _) (Nat.le_refl _) ?_
      refine z_if_eq X (tgt := 56) dX2_someLane_22 (by decide) (fun c_22 => ?_) (fun c_22 => ?_)
      · skip
        refine z_iinc X (j := 0) (v := (nI (w9 + 1))) (lv' := [(6, .int (nI (w9 + 1))), (4, .long (lan (fun j => decide (j % 8 = 0) && exB (fun w => dom.testBit w && q (j + w)) w9))), (0, .ref b2), (1, .int 1), (2, .long (lan q))]) dX2_someLane_56 rfl (nI_1 w9) (by decide) rfl ?_
        refine z_goto X (tgt := 6) dX2_someLane_59 (by decide) ?_
        refine z_lv [0, 1, 2, 3, 4] (lv' := [(6, .int (nI (w9 + 1))), (4, .long (lan (fun j => decide (j % 8 = 0) && exB (fun w => dom.testBit w && q (j + w)) w9))), (0, .ref b2), (1, .int 1), (2, .long (lan q))]) rfl ?_
        refine z_eq (ws' := []) (lv' := [(6, .int (nI (w9 + 1))), (4, .long (lan (fun j => decide (j % 8 = 0) && exB (fun w => dom.testBit w && q (j + w)) (w9 + 1)))), (0, .ref b2), (1, .int 1), (2, .long (lan q))]) (st' := []) rfl (by rw [su1_n (bit_no hd (by omega) c_22)]) rfl ?_
        exact ih (w9 + 1) (by omega)
      · skip
        refine z_lload X dX2_someLane_25 (j := 1) rfl ?_
        refine z_iload_n X dX2_someLane_27 rfl (j := 3) rfl ?_
        refine z_if_ne X (tgt := 45) dX2_someLane_28 (by decide) (fun c_28 => ?_) (fun c9 => absurd c9 (by decide))
        refine z_lload_n X dX2_someLane_45 rfl (j := 4) rfl ?_
        refine z_iload X dX2_someLane_46 (j := 0) rfl ?_
        refine z_lushr X (v := (nL (ms q 64 / 2 ^ w9))) dX2_someLane_48 (ushr_nL (j := w9) (ms_lt64 q) (by omega)) ?_
        refine z_ldc2 X kc_X2_162 dX2_someLane_49 ?_
        refine z_land X (v := (lan (fun j => decide (j % 8 = 0) && q (j + w9)))) dX2_someLane_52 (sh1 q (by omega)) ?_
        refine z_lor X (v := (lan (fun j => decide (j % 8 = 0) && exB (fun w => dom.testBit w && q (j + w)) (w9 + 1)))) dX2_someLane_53 (su1_s (bit_yes hd (by omega) c_22)) ?_
        refine z_lstore X (lv' := [(4, .long (lan (fun j => decide (j % 8 = 0) && exB (fun w => dom.testBit w && q (j + w)) (w9 + 1)))), (6, .int (nI w9)), (0, .ref b2), (1, .int 1), (2, .long (lan q))]) dX2_someLane_54 (by decide) rfl ?_
        refine z_iinc X (j := 1) (v := (nI (w9 + 1))) (lv' := [(6, .int (nI (w9 + 1))), (4, .long (lan (fun j => decide (j % 8 = 0) && exB (fun w => dom.testBit w && q (j + w)) (w9 + 1)))), (0, .ref b2), (1, .int 1), (2, .long (lan q))]) dX2_someLane_56 rfl (nI_1 w9) (by decide) rfl ?_
        refine z_goto X (tgt := 6) dX2_someLane_59 (by decide) ?_
        refine z_eq (ws' := []) (lv' := [(6, .int (nI (w9 + 1))), (4, .long (lan (fun j => decide (j % 8 = 0) && exB (fun w => dom.testBit w && q (j + w)) (w9 + 1)))), (0, .ref b2), (1, .int 1), (2, .long (lan q))]) (st' := []) rfl rfl rfl ?_
        exact ih (w9 + 1) (by omega)
  refine z_lconst X (v := 0) dX2_someLane_0 (by decide) ?_
  refine z_lstore X (lv' := [(4, .long 0), (0, .ref b2), (1, .int 1), (2, .long (lan q))]) dX2_someLane_1 (by decide) rfl ?_
  refine z_iconst X (v := 0) dX2_someLane_3 (by decide) ?_
  refine z_istore X (lv' := [(6, .int 0), (4, .long 0), (0, .ref b2), (1, .int 1), (2, .long (lan q))]) dX2_someLane_4 (by decide) rfl ?_
  refine z_eq (ws' := []) (lv' := [(6, .int (nI 0)), (4, .long (lan (fun j => decide (j % 8 = 0) && exB (fun w => dom.testBit w && q (j + w)) 0))), (0, .ref b2), (1, .int 1), (2, .long (lan q))]) (st' := []) rfl (by rw [su1_0]; rfl) rfl ?_
  exact L (8) 0 (by omega)
/-- someLane(variable, inner) -/
theorem m_someLane (l : Launch) (D : va_G) (cy : Nat → ClassId) (O : Nat × va_E → Prop) {b2 dom v9 : Nat} {f0 f1 : Value} {q : Nat → Bool} (hL : O (b2, .inr (2, [f0, f1, .int (nI dom)]))) (hd : dom < 2 ^ 31) (hv : v9 < 2) : Cl l yX2_someLane (.code yX2_someLane cX2_someLane 7 (some .long) :: WALL) ({ frames := 1, cells := 0, slots := 0, locals := 21 }) D cy O [.ref b2, .int (nI v9), .long (lan q)] [] 0 0 (fun (r : Int64) (w : va_W) => r = lan (fun j => exB (fun w => dom.testBit w && q (sl v9 w j)) 8) ∧ w = []) := by
  rcases (show v9 = 0 ∨ v9 = 1 by omega) with rfl | rfl
  · exact m_someLane_0 l D cy O hL hd
  · exact m_someLane_1 l D cy O hL hd
