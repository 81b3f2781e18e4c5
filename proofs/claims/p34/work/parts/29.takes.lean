/-! takes: a row's digits into the values; include: the lanes' rows into the set -/
/-- how many of the set S are k or above -/
def ca (S k : Nat) : Nat := ct S.testBit 6 - ct S.testBit k
theorem ca_6 (S : Nat) : ca S 6 = 0 := Nat.sub_self _
theorem ca_y {S v : Nat} (h : S.testBit v = true) (hv : v < 6) : ca S v = ca S (v + 1) + 1 := by
  have h1 : ct S.testBit (v + 1) ≤ ct S.testBit 6 := ct_le_of (by omega)
  have h2 := ct_s_t h
  unfold ca; omega
theorem ca_n {S v : Nat} (h : S.testBit v = false) : ca S v = ca S (v + 1) := by unfold ca; rw [ct_s_f h]
/-- the digit of the variable v in a row of S's values -/
def dgt (S row v : Nat) : Nat := row / 8 ^ ca S (v + 1) % 8
theorem dgt_lt (S row v : Nat) : dgt S row v < 8 := Nat.mod_lt _ (by decide)
def tst (S row : Nat) (vo : Nat → Option Nat) (j : Nat) : Nat → Option Nat := fun v => if j ≤ v ∧ v < 6 ∧ S.testBit v = true then some (dgt S row v) else vo v
def tok (S row dom : Nat) : Nat → Bool
  | 0 => true
  | k + 1 => tok S row dom k && (!S.testBit (5 - k) || dom.testBit (dgt S row (5 - k)))
theorem tok_iff {S row dom : Nat} : ∀ {k}, k ≤ 6 → (tok S row dom k = true ↔ ∀ v, 6 - k ≤ v → v < 6 → S.testBit v = true → dom.testBit (dgt S row v) = true)
  | 0, _ => by simp only [tok, true_iff]; intro v h1 h2; omega
  | k + 1, hk => by
    rw [tok, Bool.and_eq_true, tok_iff (by omega)]
    constructor
    · rintro ⟨h1, h2⟩ v hv hv6 hs
      rcases Nat.lt_or_ge v (6 - k) with h | h
      · have e : v = 5 - k := by omega
        subst e; rw [hs] at h2; simpa using h2
      · exact h1 v h hv6 hs
    · intro h
      refine ⟨fun v h1 h2 => h v (by omega) h2, ?_⟩
      cases hs : S.testBit (5 - k)
      · rfl
      · simpa using h (5 - k) (by omega) (by omega) hs
theorem tok_no {S row dom : Nat} {k : Nat} (h : tok S row dom k = false) : ∀ {m}, k ≤ m → tok S row dom m = false := by
  intro m hm
  induction m with
  | zero => rw [show k = 0 by omega] at h; exact h
  | succ m ih =>
    rcases Nat.lt_or_ge k (m + 1) with g | g
    · rw [tok, ih (by omega)]; rfl
    · rw [show m + 1 = k by omega]; exact h
theorem tst_6 (S row : Nat) (vo : Nat → Option Nat) : tst S row vo 6 = vo := funext fun v => by rw [tst, if_neg (by omega)]
theorem tst_y {S row v : Nat} {vo : Nat → Option Nat} (h : S.testBit v = true) (hv : v < 6) : up (tst S row vo (v + 1)) v (some (dgt S row v)) = tst S row vo v := funext fun u => by
  simp only [up, tst]
  by_cases e : u = v
  · subst e; rw [if_pos rfl, if_pos ⟨Nat.le_refl _, hv, h⟩]
  · rw [if_neg e]
    by_cases g : v + 1 ≤ u ∧ u < 6 ∧ S.testBit u = true
    · rw [if_pos g, if_pos ⟨by omega, g.2⟩]
    · rw [if_neg g, if_neg (fun z => g ⟨by omega, z.2⟩)]
theorem tst_n {S row v : Nat} {vo : Nat → Option Nat} (h : S.testBit v = false) : tst S row vo (v + 1) = tst S row vo v := funext fun u => by
  simp only [tst]
  by_cases g : v + 1 ≤ u ∧ u < 6 ∧ S.testBit u = true
  · rw [if_pos g, if_pos ⟨by omega, g.2⟩]
  · rw [if_neg g, if_neg]
    rintro ⟨h1, h2, h3⟩
    by_cases e : u = v
    · subst e; rw [h] at h3; cases h3
    · exact g ⟨by omega, h2, h3⟩
/-- what takes leaves of the values -/
def tkp (S : Nat) (vo vo' : Nat → Option Nat) : Prop := ∀ v, vo' v = vo v ∨ (v < 6 ∧ S.testBit v = true ∧ ∃ x, x < 8 ∧ vo' v = some x)
theorem tst_tkp (S row : Nat) (vo : Nat → Option Nat) (j : Nat) : tkp S vo (tst S row vo j) := fun v => by
  simp only [tst]
  by_cases g : j ≤ v ∧ v < 6 ∧ S.testBit v = true
  · rw [if_pos g]; exact Or.inr ⟨g.2.1, g.2.2, _, dgt_lt S row v, rfl⟩
  · rw [if_neg g]; exact Or.inl rfl
theorem upd_vA {vo : Nat → Option Nat} {k : Nat} {o : Option Nat} : upd (vA vo) k (oI o) = vA (up vo k o) := by
  funext j
  by_cases h : j = k
  · subst h; rw [pk_us]; simp [vA, up]
  · rw [pk_un h]; simp [vA, up, h]
theorem upd_vA' {vo : Nat → Option Nat} {k x : Nat} (hk : k < 2 ^ 31) : upd (vA vo) (nI k).toNatClampNeg (nI x) = vA (up vo k (some x)) := by rw [nI_clamp hk]; exact upd_vA (o := some x)
theorem vA_at {vo : Nat → Option Nat} {k : Nat} {o : Option Nat} (hk : k < 2 ^ 31) (h : vo k = o) : vA vo (nI k).toNatClampNeg = oI o := by rw [nI_clamp hk, ← h]; rfl
theorem dwn_i (v : Nat) : nI v + Int32.ofInt (-1) = nI v - 1 := by rw [Int32.sub_eq_add_neg]; rfl
theorem shr_3 {a : Nat} (h : a < 2 ^ 31) : nI a >>> ((3 : Int32) &&& 31) = nI (a / 8) := pk_shrN h _ 3 (by decide)
theorem and_7 {a : Nat} (h : a < 2 ^ 32) : nI a &&& 7 = nI (a % 8) := pk_andN h 3 (m := 7) (by decide)
set_option maxHeartbeats 4000000 in
set_option maxRecDepth 100000 in
/-- takes(variables, row) -/
theorem m_takes (l : Launch) (D : va_G) (cy : Nat → ClassId) (O : Nat × va_E → Prop) {b2 gv dom S row : Nat} {f0 : Value} {vo : Nat → Option Nat} (hL : O (b2, .inr (2, [f0, .ref gv, .int (nI dom)]))) (hd : dom < 2 ^ 31) (hS : S < 2 ^ 31) (hrow : row < 2 ^ 31) : Ci l yX2_takes (.code yX2_takes cX2_takes 5 (some .boolean) :: WALL) ({ frames := 1, cells := 0, slots := 0, locals := 21 }) D cy O [.ref b2, .int (nI S), .int (nI row)] [(gv, .inl (cy 0, 6, .inl (vA vo)))] 0 0 (fun (r : Int32) (w : va_W) => r = (if tok S row dom 6 then 1 else 0) ∧ ∃ vo' : Nat → Option Nat, w = [(gv, .inl (cy 0, 6, .inl (vA vo')))] ∧ tkp S vo vo' ∧ (tok S row dom 6 = true → vo' = tst S row vo 0)) := by
  refine z_meti (by decide) rfl rfl (Nat.le_of_ble_eq_true rfl) ?_
  intro p e s m args below meth c X hr hin
  refine z_eq (ws' := [(gv, .inl (cy 0, 6, .inl (vA vo)))]) (lv' := [(0, .ref b2), (1, .int (nI S)), (2, .int (nI row))]) (st' := []) rfl rfl rfl ?_
  have L : ∀ (d : Nat) (j : Nat), j = d → j ≤ 6 → tok S row dom (6 - j) = true → Zz D (va_A [(gv, .inl (cy 0, 6, .inl (vA vo)))] s.heap.size) 5 p l e ({ frames := 1, cells := 0, slots := 0, locals := 21 }) s m args below meth c (MQ below (va_Qi (fun (r : Int32) (w : va_W) => r = (if tok S row dom 6 then 1 else 0) ∧ ∃ vo' : Nat → Option Nat, w = [(gv, .inl (cy 0, 6, .inl (vA vo')))] ∧ tkp S vo vo' ∧ (tok S row dom 6 = true → vo' = tst S row vo 0)) (end_ D [(gv, .inl (cy 0, 6, .inl (vA vo)))] s.heap.size) (va_A [(gv, .inl (cy 0, 6, .inl (vA vo)))] s.heap.size)) args s 0 0 (va_A [(gv, .inl (cy 0, 6, .inl (vA vo)))] s.heap.size)) [(gv, .inl (cy 0, 6, .inl (vA (tst S row vo j))))] [(4, .int (nI j - 1)), (3, .int (nI (row / 8 ^ ca S j))), (0, .ref b2), (1, .int (nI S)), (2, .int (nI row))] 0 0 5 [] := by
    intro d
    induction d with
    | zero =>
      intro j hL0 hL1 hL2
      subst hL0
      refine z_eq (ws' := [(gv, .inl (cy 0, 6, .inl (vA (tst S row vo 0))))]) (lv' := [(4, .int (-1)), (3, .int (nI (row / 8 ^ ca S 0))), (0, .ref b2), (1, .int (nI S)), (2, .int (nI row))]) (st' := []) rfl rfl rfl ?_
      refine z_iload X dX2_takes_5 (j := 0) rfl ?_
      refine z_if_lt X (tgt := 59) dX2_takes_7 (by decide) (fun c_7 => ?_) (fun c9 => absurd (by decide) c9)
      refine z_iconst X (v := 1) dX2_takes_59 (by decide) ?_
      exact z_endz X hr (by first | exact Or.inl rfl | exact Or.inr rfl) [(gv, .inl (cy 0, 6, .inl (vA (tst S row vo 0))))] [0] rfl rfl rfl ⟨(by rw [if_pos hL2]), _, rfl, tst_tkp S row vo 0, fun _ => rfl⟩ dX2_takes_60
    | succ d ih =>
      intro j hL0 hL1 hL2
      subst hL0
      have hlt : row / 8 ^ ca S (d + 1) < 2 ^ 31 := Nat.lt_of_le_of_lt (Nat.div_le_self _ _) hrow
      refine z_eq (ws' := [(gv, .inl (cy 0, 6, .inl (vA (tst S row vo (d + 1)))))]) (lv' := [(4, .int (nI d)), (3, .int (nI (row / 8 ^ ca S (d + 1)))), (0, .ref b2), (1, .int (nI S)), (2, .int (nI row))]) (st' := []) rfl (by rw [← nI_1 d, Int32.add_sub_cancel]) rfl ?_
      refine z_iload X dX2_takes_5 (j := 0) rfl ?_
      refine z_if_lt X (tgt := 59) dX2_takes_7 (by decide) (fun c9 => absurd c9 (nI_pos (by omega))) (fun c_7 => ?_)
      refine z_iload_n X dX2_takes_10 rfl (j := 3) rfl ?_
      refine z_iload X dX2_takes_11 (j := 0) rfl ?_
      refine z_reti X (as := [.int (nI S), .int (nI d)]) (wc := []) (wr := [(gv, .inl (cy 0, 6, .inl (vA (tst S row vo (d + 1)))))]) (rest := []) (fun H9 locs9 ls9 hP9 hS9 hl9 hb9 hp9 => va_runSN (As := [.int (nI S), .int (nI d)]) (rest := []) X.fix (m_isIn l D cy O (nI S) (nI d) H9.size) ⟨va_cnB 2 X.hts (gB cd_X9_isIn) rfl rfl rfl (X.nw.1 _ (List.mem_of_getElem? (i := 5) rfl)) (X.hts _ ni_X9) (by decide +kernel) ⟨Nat.le_of_ble_eq_true rfl, Nat.le_of_ble_eq_true rfl⟩, X.hts _ sm_X9_isIn, trivial⟩ ⟨hb9, hp9⟩ rfl rfl hl9.1 rfl (lv_room (Nat.le_of_ble_eq_true rfl)) dX2_takes_13 ⟨Nat.le_of_ble_eq_true rfl, Nat.le_of_ble_eq_true rfl⟩) [] [0] rfl rfl rfl rfl rfl (by decide) (fun _ h => Or.inl h) (fun r1 w2 h3 => ?_)
      obtain ⟨rfl, rfl⟩ := h3
      refine z_eq (ws' := [(gv, .inl (cy 0, 6, .inl (vA (tst S row vo (d + 1)))))]) (lv' := [(4, .int (nI d)), (3, .int (nI (row / 8 ^ ca S (d + 1)))), (0, .ref b2), (1, .int (nI S)), (2, .int (nI row))]) (st' := [.int (bI (nI S) (nI d))]) rfl rfl rfl ?_
      refine z_widen (k' := 0) (n' := 0) (Nat.le_refl _) (Nat.le_refl _) ?_
      refine z_if_eq X (tgt := 53) dX2_takes_16 (by decide) (fun c_16 => ?_) (fun c_16 => ?_)
      · skip
        have hbs := bit_no hS (by omega) c_16
        refine z_iinc X (j := 0) (v := (nI d - 1)) (lv' := [(4, .int (nI d - 1)), (3, .int (nI (row / 8 ^ ca S (d + 1)))), (0, .ref b2), (1, .int (nI S)), (2, .int (nI row))]) dX2_takes_53 rfl (dwn_i d) (by decide) rfl ?_
        refine z_goto X (tgt := 5) dX2_takes_56 (by decide) ?_
        refine z_eq (ws' := [(gv, .inl (cy 0, 6, .inl (vA (tst S row vo d))))]) (lv' := [(4, .int (nI d - 1)), (3, .int (nI (row / 8 ^ ca S d))), (0, .ref b2), (1, .int (nI S)), (2, .int (nI row))]) (st' := []) (by rw [tst_n hbs]) (by rw [ca_n hbs]) rfl ?_
        exact ih d rfl (by omega) (by rw [show 6 - d = (6 - (d + 1)) + 1 by omega, tok, hL2, show 5 - (6 - (d + 1)) = d by omega, hbs]; rfl)
      · skip
        have hbs := bit_yes hS (by omega) c_16
        refine z_aload_n X dX2_takes_19 rfl (j := 2) rfl ?_
        refine z_getO X (ci := 2) (C := RX2) (T := TX2) (N := 3) inX2 hL rfl 1 (by decide) fl_X2_18 (fun _ h9 => h9) rfl dX2_takes_20 ?_
        refine z_iload X dX2_takes_23 (j := 0) rfl ?_
        refine z_iload_n X dX2_takes_25 rfl (j := 1) rfl ?_
        refine z_bipush X (v := 7) dX2_takes_26 (by decide) ?_
        refine z_iand X (v := (nI (dgt S row d))) dX2_takes_28 (by rw [and_7 (by omega)]; rfl) ?_
        refine z_iastW X 0 rfl (vp_in_nI (by omega) (by decide)) (ws' := [(gv, .inl (cy 0, 6, .inl (vA (tst S row vo d))))]) (by rw [upd_vA' (by omega), tst_y hbs (by omega)]; rfl) dX2_takes_29 ?_
        refine z_iload_n X dX2_takes_30 rfl (j := 1) rfl ?_
        refine z_iconst X (v := 3) dX2_takes_31 (by decide) ?_
        refine z_ishr X (v := (nI (row / 8 ^ ca S d))) dX2_takes_32 (by rw [shr_3 hlt, Nat.div_div_eq_div_mul, ca_y hbs (by omega), Nat.pow_succ]) ?_
        refine z_istore_n X (lv' := [(3, .int (nI (row / 8 ^ ca S d))), (4, .int (nI d)), (0, .ref b2), (1, .int (nI S)), (2, .int (nI row))]) dX2_takes_33 rfl (by decide) rfl ?_
        refine z_aload_n X dX2_takes_34 rfl (j := 2) rfl ?_
        refine z_getO X (ci := 2) (C := RX2) (T := TX2) (N := 3) inX2 hL rfl 2 (by decide) fl_X2_22 (fun _ h9 => h9) rfl dX2_takes_35 ?_
        refine z_aload_n X dX2_takes_38 rfl (j := 2) rfl ?_
        refine z_getO X (ci := 2) (C := RX2) (T := TX2) (N := 3) inX2 hL rfl 1 (by decide) fl_X2_18 (fun _ h9 => h9) rfl dX2_takes_39 ?_
        refine z_iload X dX2_takes_42 (j := 1) rfl ?_
        refine z_ialdW X 0 rfl (v := (nI (dgt S row d))) (vp_in_nI (by omega) (by decide)) (vA_at (o := some (dgt S row d)) (by omega) (by rw [tst, if_pos ⟨Nat.le_refl _, by omega, hbs⟩])) dX2_takes_44 ?_
        refine z_reti X (as := [.int (nI dom), .int (nI (dgt S row d))]) (wc := []) (wr := [(gv, .inl (cy 0, 6, .inl (vA (tst S row vo d))))]) (rest := []) (fun H9 locs9 ls9 hP9 hS9 hl9 hb9 hp9 => va_runSN (As := [.int (nI dom), .int (nI (dgt S row d))]) (rest := []) X.fix (m_isIn l D cy O (nI dom) (nI (dgt S row d)) H9.size) ⟨va_cnB 2 X.hts (gB cd_X9_isIn) rfl rfl rfl (X.nw.1 _ (List.mem_of_getElem? (i := 5) rfl)) (X.hts _ ni_X9) (by decide +kernel) ⟨Nat.le_of_ble_eq_true rfl, Nat.le_of_ble_eq_true rfl⟩, X.hts _ sm_X9_isIn, trivial⟩ ⟨hb9, hp9⟩ rfl rfl hl9.1 rfl (lv_room (Nat.le_of_ble_eq_true rfl)) dX2_takes_45 ⟨Nat.le_of_ble_eq_true rfl, Nat.le_of_ble_eq_true rfl⟩) [] [0] rfl rfl rfl rfl rfl (by decide) (fun _ h => Or.inl h) (fun r4 w5 h6 => ?_)
        obtain ⟨rfl, rfl⟩ := h6
        refine z_eq (ws' := [(gv, .inl (cy 0, 6, .inl (vA (tst S row vo d))))]) (lv' := [(3, .int (nI (row / 8 ^ ca S d))), (4, .int (nI d)), (0, .ref b2), (1, .int (nI S)), (2, .int (nI row))]) (st' := [.int (bI (nI dom) (nI (dgt S row d)))]) rfl rfl rfl ?_
        refine z_widen (k' := 0) (n' := 0) (Nat.le_refl _) (Nat.le_refl _) ?_
        refine z_if_ne X (tgt := 53) dX2_takes_48 (by decide) (fun c_48 => ?_) (fun c_48 => ?_)
        · skip
          refine z_iinc X (j := 1) (v := (nI d - 1)) (lv' := [(4, .int (nI d - 1)), (3, .int (nI (row / 8 ^ ca S d))), (0, .ref b2), (1, .int (nI S)), (2, .int (nI row))]) dX2_takes_53 rfl (dwn_i d) (by decide) rfl ?_
          refine z_goto X (tgt := 5) dX2_takes_56 (by decide) ?_
          refine z_eq (ws' := [(gv, .inl (cy 0, 6, .inl (vA (tst S row vo d))))]) (lv' := [(4, .int (nI d - 1)), (3, .int (nI (row / 8 ^ ca S d))), (0, .ref b2), (1, .int (nI S)), (2, .int (nI row))]) (st' := []) rfl rfl rfl ?_
          exact ih d rfl (by omega) (by rw [show 6 - d = (6 - (d + 1)) + 1 by omega, tok, hL2, show 5 - (6 - (d + 1)) = d by omega, hbs]; simpa using bit_yes hd (Nat.lt_trans (dgt_lt S row d) (by decide)) c_48)
        · skip
          have hno : tok S row dom 6 = false := tok_no (k := 6 - (d + 1) + 1) (by rw [tok, show 5 - (6 - (d + 1)) = d by omega, hbs, bit_no hd (Nat.lt_trans (dgt_lt S row d) (by decide)) c_48]; simp) (by omega)
          refine z_iconst X (v := 0) dX2_takes_51 (by decide) ?_
          exact z_endz X hr (by first | exact Or.inl rfl | exact Or.inr rfl) [(gv, .inl (cy 0, 6, .inl (vA (tst S row vo d))))] [0] rfl rfl rfl ⟨(by rw [if_neg (by rw [hno]; decide)]), _, rfl, tst_tkp S row vo d, fun z => by rw [hno] at z; cases z⟩ dX2_takes_52
  refine z_iload_n X dX2_takes_0 rfl (j := 2) rfl ?_
  refine z_istore_n X (lv' := [(3, .int (nI row)), (0, .ref b2), (1, .int (nI S)), (2, .int (nI row))]) dX2_takes_1 rfl (by decide) rfl ?_
  refine z_iconst X (v := 5) dX2_takes_2 (by decide) ?_
  refine z_istore X (lv' := [(4, .int 5), (3, .int (nI row)), (0, .ref b2), (1, .int (nI S)), (2, .int (nI row))]) dX2_takes_3 (by decide) rfl ?_
  refine z_eq (ws' := [(gv, .inl (cy 0, 6, .inl (vA (tst S row vo 6))))]) (lv' := [(4, .int (nI 6 - 1)), (3, .int (nI (row / 8 ^ ca S 6))), (0, .ref b2), (1, .int (nI S)), (2, .int (nI row))]) (st' := []) (by rw [tst_6]) (by rw [ca_6, Nat.pow_zero, Nat.div_one]; rfl) rfl ?_
  exact L 6 6 rfl (Nat.le_refl _) rfl
def incs (qs q : Nat → Bool) (ro : Nat → Nat) (k : Nat) : Nat → Bool := fun r => qs r || exB (fun j => q j && decide (r = ro j)) k
theorem incs_0 (qs q : Nat → Bool) (ro : Nat → Nat) : incs qs q ro 0 = qs := funext fun r => by simp [incs, exB]
theorem incs_s {qs q : Nat → Bool} {ro : Nat → Nat} {lo i0 : Nat} (h : ∀ i, lo ≤ i → i < i0 → q i = false) (hl : lo ≤ i0) (h3 : q i0 = true) : inc (incs qs q ro lo) (ro i0) = incs qs q ro (i0 + 1) := funext fun r => by
  simp only [inc, incs]
  rw [exB, exB_skip (r := fun j => decide (r = ro j)) h hl, h3, Bool.true_and, Bool.or_assoc]
theorem incs_e {qs q : Nat → Bool} {ro : Nat → Nat} {lo M : Nat} (h : ct (kp q lo) M = 0) (hl : lo ≤ M) : incs qs q ro lo = incs qs q ro M := funext fun r => by
  simp only [incs]; rw [exB_end (r := fun j => decide (r = ro j)) h hl]
theorem nL_1 : (1 : Int64) = nL 1 := rfl
theorem shl_or {a row k : Nat} (hk : k < 10) (ha : a < 64) (hr : row < 2 ^ k) : nI a <<< (nI k &&& 31) ||| nI row = nI (a * 2 ^ k + row) := by
  have h1 : a * 2 ^ k < 2 ^ 31 := Nat.lt_of_lt_of_le (Nat.mul_lt_mul_of_pos_right ha (Nat.two_pow_pos k)) (by
    have : 2 ^ k ≤ 2 ^ 9 := Nat.pow_le_pow_right (by decide) (by omega)
    omega)
  rw [pk_shlN _ k (s_l k (by omega)) (Nat.lt_trans h1 (by decide)), nI_or, Nat.mul_comm a]
  congr 1
  exact (Nat.two_pow_add_eq_or_of_lt hr a).symm
def lrow (fr ob row j : Nat) : Nat := (if fr.testBit 0 && !fr.testBit 1 then j / 8 else j) * 2 ^ ob + row
set_option maxHeartbeats 4000000 in
set_option maxRecDepth 100000 in
/-- include(holding, free, otherBits, row) -/
theorem m_include (l : Launch) (D : va_G) (cy : Nat → ClassId) (O : Nat × va_E → Prop) {b2 b5 r5 fr ob row : Nat} {f1 f2 : Value} {qs q : Nat → Bool} (hL : O (b2, .inr (2, [.ref b5, f1, f2]))) (hfr : fr < 2 ^ 31) (hob : ob < 10) (hrow : row < 2 ^ ob) (hok : ∀ j, j < 64 → q j = true → lrow fr ob row j < 512) : Cv l yX2_include (.code yX2_include cX2_include 13 none :: WALL) ({ frames := 2, cells := 0, slots := 0, locals := 43 }) D cy O [.ref b2, .long (lan q), .int (nI fr), .int (nI ob), .int (nI row)] [(b5, .inr (5, [.ref r5, .int (nI (ct qs 512))])), (r5, .inl (cy 1, 512, .inl (zB qs)))] 0 0 (fun (w : va_W) => w = [(b5, .inr (5, [.ref r5, .int (nI (ct (incs qs q (lrow fr ob row) 64) 512))])), (r5, .inl (cy 1, 512, .inl (zB (incs qs q (lrow fr ob row) 64))))]) := by
  refine z_metv (by decide) rfl rfl (Nat.le_of_ble_eq_true rfl) ?_
  intro p e s m args below meth c X hr hin
  refine z_eq (ws' := [(b5, .inr (5, [.ref r5, .int (nI (ct qs 512))])), (r5, .inl (cy 1, 512, .inl (zB qs)))]) (lv' := [(0, .ref b2), (1, .long (lan q)), (3, .int (nI fr)), (4, .int (nI ob)), (5, .int (nI row))]) (st' := []) rfl rfl rfl ?_
  have hct := ct_le q 64
  have L : ∀ (d : Nat) (lo k : Nat), k + d = ct q 64 → ct (kp q lo) 64 = d → lo ≤ 64 → Zz D (va_A [(b5, .inr (5, [.ref r5, .int (nI (ct qs 512))])), (r5, .inl (cy 1, 512, .inl (zB qs)))] s.heap.size) 13 p l e ({ frames := 2, cells := 0, slots := 0, locals := 43 }) s m args below meth c (MQ below (va_Qv (fun (w : va_W) => w = [(b5, .inr (5, [.ref r5, .int (nI (ct (incs qs q (lrow fr ob row) 64) 512))])), (r5, .inl (cy 1, 512, .inl (zB (incs qs q (lrow fr ob row) 64))))]) (end_ D [(b5, .inr (5, [.ref r5, .int (nI (ct qs 512))])), (r5, .inl (cy 1, 512, .inl (zB qs)))] s.heap.size) (va_A [(b5, .inr (5, [.ref r5, .int (nI (ct qs 512))])), (r5, .inl (cy 1, 512, .inl (zB qs)))] s.heap.size)) args s 0 0 (va_A [(b5, .inr (5, [.ref r5, .int (nI (ct qs 512))])), (r5, .inl (cy 1, 512, .inl (zB qs)))] s.heap.size)) [(b5, .inr (5, [.ref r5, .int (nI (ct (incs qs q (lrow fr ob row) lo) 512))])), (r5, .inl (cy 1, 512, .inl (zB (incs qs q (lrow fr ob row) lo))))] [(10, .int (nI k)), (9, .int (nI (ct q 64))), (7, .long (nL (ms (kp q lo) 64))), (6, .int (if fr.testBit 0 && !fr.testBit 1 then 1 else 0)), (0, .ref b2), (1, .long (lan q)), (3, .int (nI fr)), (4, .int (nI ob)), (5, .int (nI row))] 0 0 35 [] := by
    intro d
    induction d with
    | zero =>
      intro lo k hL0 hL1 hL2
      refine z_eq (ws' := [(b5, .inr (5, [.ref r5, .int (nI (ct (incs qs q (lrow fr ob row) 64) 512))])), (r5, .inl (cy 1, 512, .inl (zB (incs qs q (lrow fr ob row) 64))))]) (lv' := [(10, .int (nI k)), (9, .int (nI (ct q 64))), (7, .long (nL (ms (kp q lo) 64))), (6, .int (if fr.testBit 0 && !fr.testBit 1 then 1 else 0)), (0, .ref b2), (1, .long (lan q)), (3, .int (nI fr)), (4, .int (nI ob)), (5, .int (nI row))]) (st' := []) (by rw [incs_e hL1 hL2]) rfl rfl ?_
      refine z_iload X dX2_include_35 (j := 0) rfl ?_
      refine z_iload X dX2_include_37 (j := 1) rfl ?_
      refine z_icmp_ge X (tgt := 95) dX2_include_39 (by decide) (fun c_39 => ?_) (fun c9 => absurd (by rw [show k = ct q 64 by omega]; exact nI_le (Nat.le_refl _) (by omega)) c9)
      exact z_endv X hr [(b5, .inr (5, [.ref r5, .int (nI (ct (incs qs q (lrow fr ob row) 64) 512))])), (r5, .inl (cy 1, 512, .inl (zB (incs qs q (lrow fr ob row) 64))))] [0, 1] rfl rfl rfl rfl dX2_include_95
    | succ d ih =>
      intro lo k hL0 hL1 hL2
      obtain ⟨i0, e1, e2, e3, e4, e5, e6, e7, e8, e9⟩ := low_step hL1
      refine z_iload X dX2_include_35 (j := 0) rfl ?_
      refine z_iload X dX2_include_37 (j := 1) rfl ?_
      refine z_icmp_ge X (tgt := 95) dX2_include_39 (by decide) (fun c9 => absurd c9 (nI_ge (by omega) (by omega))) (fun c_39 => ?_)
      refine z_lload X dX2_include_42 (j := 2) rfl ?_
      refine z_reti X (as := [.long (nL (ms (kp q lo) 64))]) (wc := []) (wr := [(b5, .inr (5, [.ref r5, .int (nI (ct (incs qs q (lrow fr ob row) lo) 512))])), (r5, .inl (cy 1, 512, .inl (zB (incs qs q (lrow fr ob row) lo))))]) (rest := []) (fun H9 locs9 ls9 hP9 hS9 hl9 hb9 hp9 => va_runS (As := [.long (nL (ms (kp q lo) 64))]) (rest := []) X.fix (m_lntz l D cy O (n9 := (ms (kp q lo) 64)) (t9 := i0) (ms_lt64 _) (by omega) e6 e7 H9.size) (va_cwS 1 X.hts (gS ml_X2_68 sm_J13_numberOfTrailingZeros_95d88 ni_J13 cd_J13_numberOfTrailingZeros_95d88) rfl rfl rfl (by decide +kernel) ⟨Nat.le_of_ble_eq_true rfl, Nat.le_of_ble_eq_true rfl⟩) ⟨hb9, hp9⟩ rfl rfl hl9.1 rfl (lv_room (Nat.le_of_ble_eq_true rfl)) dX2_include_44 ⟨Nat.le_of_ble_eq_true rfl, Nat.le_of_ble_eq_true rfl⟩) [] [0, 1] rfl rfl rfl rfl rfl (by decide) (fun _ h => Or.inl h) (fun r1 w2 h3 => ?_)
      obtain ⟨rfl, rfl⟩ := h3
      refine z_eq (ws' := [(b5, .inr (5, [.ref r5, .int (nI (ct (incs qs q (lrow fr ob row) lo) 512))])), (r5, .inl (cy 1, 512, .inl (zB (incs qs q (lrow fr ob row) lo))))]) (lv' := [(10, .int (nI k)), (9, .int (nI (ct q 64))), (7, .long (nL (ms (kp q lo) 64))), (6, .int (if fr.testBit 0 && !fr.testBit 1 then 1 else 0)), (0, .ref b2), (1, .long (lan q)), (3, .int (nI fr)), (4, .int (nI ob)), (5, .int (nI row))]) (st' := [.int (nI i0)]) rfl rfl rfl ?_
      refine z_widen (k' := 0) (n' := 0) (Nat.le_refl _) (Nat.le_refl _) ?_
      refine z_istore X (lv' := [(11, .int (nI i0)), (10, .int (nI k)), (9, .int (nI (ct q 64))), (7, .long (nL (ms (kp q lo) 64))), (6, .int (if fr.testBit 0 && !fr.testBit 1 then 1 else 0)), (0, .ref b2), (1, .long (lan q)), (3, .int (nI fr)), (4, .int (nI ob)), (5, .int (nI row))]) dX2_include_47 (by decide) rfl ?_
      refine z_lload X dX2_include_49 (j := 3) rfl ?_
      refine z_lload X dX2_include_51 (j := 3) rfl ?_
      refine z_lconst X (v := 1) dX2_include_53 (by decide) ?_
      refine z_lsub X (v := (nL ((ms (kp q lo) 64) - 1))) dX2_include_54 (by rw [nL_1]; exact nL_sub e5) ?_
      refine z_land X (v := (nL (ms (kp q (i0 + 1)) 64))) dX2_include_55 (by rw [nL_and, e8]) ?_
      refine z_lstore X (lv' := [(7, .long (nL (ms (kp q (i0 + 1)) 64))), (11, .int (nI i0)), (10, .int (nI k)), (9, .int (nI (ct q 64))), (6, .int (if fr.testBit 0 && !fr.testBit 1 then 1 else 0)), (0, .ref b2), (1, .long (lan q)), (3, .int (nI fr)), (4, .int (nI ob)), (5, .int (nI row))]) dX2_include_56 (by decide) rfl ?_
      refine z_iload X dX2_include_58 (j := 4) rfl ?_
      refine z_if_eq X (tgt := 70) dX2_include_60 (by decide) (fun c_60 => ?_) (fun c_60 => ?_)
      · skip
        have cc : ¬ (fr.testBit 0 && !fr.testBit 1) = true := by
          intro h9
          rw [if_pos h9] at c_60; exact absurd c_60 (by decide)
        refine z_iload X dX2_include_70 (j := 1) rfl ?_
        refine z_eq (ws' := [(b5, .inr (5, [.ref r5, .int (nI (ct (incs qs q (lrow fr ob row) lo) 512))])), (r5, .inl (cy 1, 512, .inl (zB (incs qs q (lrow fr ob row) lo))))]) (lv' := [(7, .long (nL (ms (kp q (i0 + 1)) 64))), (11, .int (nI i0)), (10, .int (nI k)), (9, .int (nI (ct q 64))), (6, .int (if fr.testBit 0 && !fr.testBit 1 then 1 else 0)), (0, .ref b2), (1, .long (lan q)), (3, .int (nI fr)), (4, .int (nI ob)), (5, .int (nI row))]) (st' := [.int (nI (if fr.testBit 0 && !fr.testBit 1 then i0 / 8 else i0))]) rfl rfl (by rw [if_neg cc]) ?_
        refine z_istore X (lv' := [(12, .int (nI (if fr.testBit 0 && !fr.testBit 1 then i0 / 8 else i0))), (7, .long (nL (ms (kp q (i0 + 1)) 64))), (11, .int (nI i0)), (10, .int (nI k)), (9, .int (nI (ct q 64))), (6, .int (if fr.testBit 0 && !fr.testBit 1 then 1 else 0)), (0, .ref b2), (1, .long (lan q)), (3, .int (nI fr)), (4, .int (nI ob)), (5, .int (nI row))]) dX2_include_72 (by decide) rfl ?_
        refine z_aload_n X dX2_include_74 rfl (j := 6) rfl ?_
        refine z_getO X (ci := 2) (C := RX2) (T := TX2) (N := 3) inX2 hL rfl 0 (by decide) fl_X2_12 (fun _ h9 => h9) rfl dX2_include_75 ?_
        refine z_iload X dX2_include_78 (j := 0) rfl ?_
        refine z_iload X dX2_include_80 (j := 9) rfl ?_
        refine z_ishl X (v := ((nI (if fr.testBit 0 && !fr.testBit 1 then i0 / 8 else i0)) <<< ((nI ob) &&& 31))) dX2_include_82 rfl ?_
        refine z_iload X dX2_include_83 (j := 10) rfl ?_
        refine z_ior X (v := (nI (lrow fr ob row i0))) dX2_include_85 (shl_or hob (by split <;> omega) hrow) ?_
        refine z_retv X (as := [.ref b5, .int (nI (lrow fr ob row i0))]) (wc := [(b5, .inr (5, [.ref r5, .int (nI (ct (incs qs q (lrow fr ob row) lo) 512))])), (r5, .inl (cy 1, 512, .inl (zB (incs qs q (lrow fr ob row) lo))))]) (wr := []) (rest := []) (fun H9 locs9 ls9 hP9 hS9 hl9 hb9 hp9 => va_runV (As := [.int (nI (lrow fr ob row i0))]) (rest := []) X.fix (m_includeRow l D cy O (b5 := b5) (r5 := r5) (r := lrow fr ob row i0) (q := (incs qs q (lrow fr ob row) lo)) (hok i0 e2 e3) H9.size) (cwV 1 X.hts (gV ml_X2_71 im_X5_include se_X5_include ni_X5 cd_X5_include) rfl rfl rfl (by decide +kernel) ⟨Nat.le_of_ble_eq_true rfl, Nat.le_of_ble_eq_true rfl⟩) ⟨hb9, z_recvW X (q0 := 0) (ci := 5) (r := (RX5, TX5, 2)) rfl rfl hP9, hp9⟩ rfl rfl hl9.1 rfl (lv_room (Nat.le_of_ble_eq_true rfl)) dX2_include_86 ⟨Nat.le_of_ble_eq_true rfl, Nat.le_of_ble_eq_true rfl⟩) [0, 1] [] rfl rfl rfl rfl rfl (by decide) (fun _ h => Or.inl h) (fun w5 h6 => ?_)
        subst h6
        refine z_eq (ws' := [(b5, .inr (5, [.ref r5, .int (nI (ct (inc (incs qs q (lrow fr ob row) lo) (lrow fr ob row i0)) 512))])), (r5, .inl (cy 1, 512, .inl (zB (inc (incs qs q (lrow fr ob row) lo) (lrow fr ob row i0)))))]) (lv' := [(12, .int (nI (if fr.testBit 0 && !fr.testBit 1 then i0 / 8 else i0))), (7, .long (nL (ms (kp q (i0 + 1)) 64))), (11, .int (nI i0)), (10, .int (nI k)), (9, .int (nI (ct q 64))), (6, .int (if fr.testBit 0 && !fr.testBit 1 then 1 else 0)), (0, .ref b2), (1, .long (lan q)), (3, .int (nI fr)), (4, .int (nI ob)), (5, .int (nI row))]) (st' := []) rfl rfl rfl ?_
        refine z_widen (k' := 0) (n' := 0) (Nat.le_refl _) (Nat.le_refl _) ?_
        refine z_iinc X (j := 3) (v := (nI (k + 1))) (lv' := [(10, .int (nI (k + 1))), (12, .int (nI (if fr.testBit 0 && !fr.testBit 1 then i0 / 8 else i0))), (7, .long (nL (ms (kp q (i0 + 1)) 64))), (11, .int (nI i0)), (9, .int (nI (ct q 64))), (6, .int (if fr.testBit 0 && !fr.testBit 1 then 1 else 0)), (0, .ref b2), (1, .long (lan q)), (3, .int (nI fr)), (4, .int (nI ob)), (5, .int (nI row))]) dX2_include_89 rfl (nI_1 k) (by decide) rfl ?_
        refine z_goto X (tgt := 35) dX2_include_92 (by decide) ?_
        refine z_lv [0, 4, 2, 5, 6, 7, 8, 9, 10] (lv' := [(10, .int (nI (k + 1))), (9, .int (nI (ct q 64))), (7, .long (nL (ms (kp q (i0 + 1)) 64))), (6, .int (if fr.testBit 0 && !fr.testBit 1 then 1 else 0)), (0, .ref b2), (1, .long (lan q)), (3, .int (nI fr)), (4, .int (nI ob)), (5, .int (nI row))]) rfl ?_
        refine z_eq (ws' := [(b5, .inr (5, [.ref r5, .int (nI (ct (incs qs q (lrow fr ob row) (i0 + 1)) 512))])), (r5, .inl (cy 1, 512, .inl (zB (incs qs q (lrow fr ob row) (i0 + 1)))))]) (lv' := [(10, .int (nI (k + 1))), (9, .int (nI (ct q 64))), (7, .long (nL (ms (kp q (i0 + 1)) 64))), (6, .int (if fr.testBit 0 && !fr.testBit 1 then 1 else 0)), (0, .ref b2), (1, .long (lan q)), (3, .int (nI fr)), (4, .int (nI ob)), (5, .int (nI row))]) (st' := []) (by rw [← incs_s e4 e1 e3]) rfl rfl ?_
        exact ih (i0 + 1) (k + 1) (by omega) e9 (by omega)
      · skip
        have cc : (fr.testBit 0 && !fr.testBit 1) = true := by
          cases h9 : (fr.testBit 0 && !fr.testBit 1)
          · rw [h9] at c_60; exact absurd rfl c_60
          · rfl
        refine z_iload X dX2_include_63 (j := 1) rfl ?_
        refine z_iconst X (v := 3) dX2_include_65 (by decide) ?_
        refine z_ishr X (v := (nI i0 >>> ((3 : Int32) &&& 31))) dX2_include_66 rfl ?_
        refine z_goto X (tgt := 72) dX2_include_67 (by decide) ?_
        refine z_eq (ws' := [(b5, .inr (5, [.ref r5, .int (nI (ct (incs qs q (lrow fr ob row) lo) 512))])), (r5, .inl (cy 1, 512, .inl (zB (incs qs q (lrow fr ob row) lo))))]) (lv' := [(7, .long (nL (ms (kp q (i0 + 1)) 64))), (11, .int (nI i0)), (10, .int (nI k)), (9, .int (nI (ct q 64))), (6, .int (if fr.testBit 0 && !fr.testBit 1 then 1 else 0)), (0, .ref b2), (1, .long (lan q)), (3, .int (nI fr)), (4, .int (nI ob)), (5, .int (nI row))]) (st' := [.int (nI (if fr.testBit 0 && !fr.testBit 1 then i0 / 8 else i0))]) rfl rfl (by rw [if_pos cc, shr_3 (by omega)]) ?_
        refine z_istore X (lv' := [(12, .int (nI (if fr.testBit 0 && !fr.testBit 1 then i0 / 8 else i0))), (7, .long (nL (ms (kp q (i0 + 1)) 64))), (11, .int (nI i0)), (10, .int (nI k)), (9, .int (nI (ct q 64))), (6, .int (if fr.testBit 0 && !fr.testBit 1 then 1 else 0)), (0, .ref b2), (1, .long (lan q)), (3, .int (nI fr)), (4, .int (nI ob)), (5, .int (nI row))]) dX2_include_72 (by decide) rfl ?_
        refine z_aload_n X dX2_include_74 rfl (j := 6) rfl ?_
        refine z_getO X (ci := 2) (C := RX2) (T := TX2) (N := 3) inX2 hL rfl 0 (by decide) fl_X2_12 (fun _ h9 => h9) rfl dX2_include_75 ?_
        refine z_iload X dX2_include_78 (j := 0) rfl ?_
        refine z_iload X dX2_include_80 (j := 9) rfl ?_
        refine z_ishl X (v := ((nI (if fr.testBit 0 && !fr.testBit 1 then i0 / 8 else i0)) <<< ((nI ob) &&& 31))) dX2_include_82 rfl ?_
        refine z_iload X dX2_include_83 (j := 10) rfl ?_
        refine z_ior X (v := (nI (lrow fr ob row i0))) dX2_include_85 (shl_or hob (by split <;> omega) hrow) ?_
        refine z_retv X (as := [.ref b5, .int (nI (lrow fr ob row i0))]) (wc := [(b5, .inr (5, [.ref r5, .int (nI (ct (incs qs q (lrow fr ob row) lo) 512))])), (r5, .inl (cy 1, 512, .inl (zB (incs qs q (lrow fr ob row) lo))))]) (wr := []) (rest := []) (fun H9 locs9 ls9 hP9 hS9 hl9 hb9 hp9 => va_runV (As := [.int (nI (lrow fr ob row i0))]) (rest := []) X.fix (m_includeRow l D cy O (b5 := b5) (r5 := r5) (r := lrow fr ob row i0) (q := (incs qs q (lrow fr ob row) lo)) (hok i0 e2 e3) H9.size) (cwV 1 X.hts (gV ml_X2_71 im_X5_include se_X5_include ni_X5 cd_X5_include) rfl rfl rfl (by decide +kernel) ⟨Nat.le_of_ble_eq_true rfl, Nat.le_of_ble_eq_true rfl⟩) ⟨hb9, z_recvW X (q0 := 0) (ci := 5) (r := (RX5, TX5, 2)) rfl rfl hP9, hp9⟩ rfl rfl hl9.1 rfl (lv_room (Nat.le_of_ble_eq_true rfl)) dX2_include_86 ⟨Nat.le_of_ble_eq_true rfl, Nat.le_of_ble_eq_true rfl⟩) [0, 1] [] rfl rfl rfl rfl rfl (by decide) (fun _ h => Or.inl h) (fun w8 h9 => ?_)
        subst h9
        refine z_eq (ws' := [(b5, .inr (5, [.ref r5, .int (nI (ct (inc (incs qs q (lrow fr ob row) lo) (lrow fr ob row i0)) 512))])), (r5, .inl (cy 1, 512, .inl (zB (inc (incs qs q (lrow fr ob row) lo) (lrow fr ob row i0)))))]) (lv' := [(12, .int (nI (if fr.testBit 0 && !fr.testBit 1 then i0 / 8 else i0))), (7, .long (nL (ms (kp q (i0 + 1)) 64))), (11, .int (nI i0)), (10, .int (nI k)), (9, .int (nI (ct q 64))), (6, .int (if fr.testBit 0 && !fr.testBit 1 then 1 else 0)), (0, .ref b2), (1, .long (lan q)), (3, .int (nI fr)), (4, .int (nI ob)), (5, .int (nI row))]) (st' := []) rfl rfl rfl ?_
        refine z_widen (k' := 0) (n' := 0) (Nat.le_refl _) (Nat.le_refl _) ?_
        refine z_iinc X (j := 3) (v := (nI (k + 1))) (lv' := [(10, .int (nI (k + 1))), (12, .int (nI (if fr.testBit 0 && !fr.testBit 1 then i0 / 8 else i0))), (7, .long (nL (ms (kp q (i0 + 1)) 64))), (11, .int (nI i0)), (9, .int (nI (ct q 64))), (6, .int (if fr.testBit 0 && !fr.testBit 1 then 1 else 0)), (0, .ref b2), (1, .long (lan q)), (3, .int (nI fr)), (4, .int (nI ob)), (5, .int (nI row))]) dX2_include_89 rfl (nI_1 k) (by decide) rfl ?_
        refine z_goto X (tgt := 35) dX2_include_92 (by decide) ?_
        refine z_lv [0, 4, 2, 5, 6, 7, 8, 9, 10] (lv' := [(10, .int (nI (k + 1))), (9, .int (nI (ct q 64))), (7, .long (nL (ms (kp q (i0 + 1)) 64))), (6, .int (if fr.testBit 0 && !fr.testBit 1 then 1 else 0)), (0, .ref b2), (1, .long (lan q)), (3, .int (nI fr)), (4, .int (nI ob)), (5, .int (nI row))]) rfl ?_
        refine z_eq (ws' := [(b5, .inr (5, [.ref r5, .int (nI (ct (incs qs q (lrow fr ob row) (i0 + 1)) 512))])), (r5, .inl (cy 1, 512, .inl (zB (incs qs q (lrow fr ob row) (i0 + 1)))))]) (lv' := [(10, .int (nI (k + 1))), (9, .int (nI (ct q 64))), (7, .long (nL (ms (kp q (i0 + 1)) 64))), (6, .int (if fr.testBit 0 && !fr.testBit 1 then 1 else 0)), (0, .ref b2), (1, .long (lan q)), (3, .int (nI fr)), (4, .int (nI ob)), (5, .int (nI row))]) (st' := []) (by rw [← incs_s e4 e1 e3]) rfl rfl ?_
        exact ih (i0 + 1) (k + 1) (by omega) e9 (by omega)
  refine z_iload_n X dX2_include_0 rfl (j := 2) rfl ?_
  refine z_iconst X (v := 0) dX2_include_1 (by decide) ?_
  refine z_reti X (as := [.int (nI fr), .int 0]) (wc := []) (wr := [(b5, .inr (5, [.ref r5, .int (nI (ct qs 512))])), (r5, .inl (cy 1, 512, .inl (zB qs)))]) (rest := []) (fun H9 locs9 ls9 hP9 hS9 hl9 hb9 hp9 => va_runSN (As := [.int (nI fr), .int 0]) (rest := []) X.fix (m_isIn l D cy O (nI fr) (nI 0) H9.size) ⟨va_cnB 2 X.hts (gB cd_X9_isIn) rfl rfl rfl (X.nw.1 _ (List.mem_of_getElem? (i := 5) rfl)) (X.hts _ ni_X9) (by decide +kernel) ⟨Nat.le_of_ble_eq_true rfl, Nat.le_of_ble_eq_true rfl⟩, X.hts _ sm_X9_isIn, trivial⟩ ⟨hb9, hp9⟩ rfl rfl hl9.1 rfl (lv_room (Nat.le_of_ble_eq_true rfl)) dX2_include_2 ⟨Nat.le_of_ble_eq_true rfl, Nat.le_of_ble_eq_true rfl⟩) [] [0, 1] rfl rfl rfl rfl rfl (by decide) (fun _ h => Or.inl h) (fun r10 w11 h12 => ?_)
  obtain ⟨rfl, rfl⟩ := h12
  refine z_eq (ws' := [(b5, .inr (5, [.ref r5, .int (nI (ct qs 512))])), (r5, .inl (cy 1, 512, .inl (zB qs)))]) (lv' := [(0, .ref b2), (1, .long (lan q)), (3, .int (nI fr)), (4, .int (nI ob)), (5, .int (nI row))]) (st' := [.int (bI (nI fr) (nI 0))]) rfl rfl rfl ?_
  refine z_widen (k' := 0) (n' := 0) (Nat.le_refl _) (Nat.le_refl _) ?_
  refine z_if_eq X (tgt := 20) dX2_include_5 (by decide) (fun c_5 => ?_) (fun c_5 => ?_)
  · skip
    refine z_iconst X (v := 0) dX2_include_20 (by decide) ?_
    refine z_eq (ws' := [(b5, .inr (5, [.ref r5, .int (nI (ct qs 512))])), (r5, .inl (cy 1, 512, .inl (zB qs)))]) (lv' := [(0, .ref b2), (1, .long (lan q)), (3, .int (nI fr)), (4, .int (nI ob)), (5, .int (nI row))]) (st' := [.int (if fr.testBit 0 && !fr.testBit 1 then 1 else 0)]) rfl rfl (by rw [if_neg (by rw [bit_no hfr (by decide) c_5]; simp)]) ?_
    refine z_istore X (lv' := [(6, .int (if fr.testBit 0 && !fr.testBit 1 then 1 else 0)), (0, .ref b2), (1, .long (lan q)), (3, .int (nI fr)), (4, .int (nI ob)), (5, .int (nI row))]) dX2_include_21 (by decide) rfl ?_
    refine z_lload_n X dX2_include_23 rfl (j := 2) rfl ?_
    refine z_lstore X (lv' := [(7, .long (lan q)), (6, .int (if fr.testBit 0 && !fr.testBit 1 then 1 else 0)), (0, .ref b2), (1, .long (lan q)), (3, .int (nI fr)), (4, .int (nI ob)), (5, .int (nI row))]) dX2_include_24 (by decide) rfl ?_
    refine z_lload_n X dX2_include_26 rfl (j := 3) rfl ?_
    refine z_reti X (as := [.long (lan q)]) (wc := []) (wr := [(b5, .inr (5, [.ref r5, .int (nI (ct qs 512))])), (r5, .inl (cy 1, 512, .inl (zB qs)))]) (rest := []) (fun H9 locs9 ls9 hP9 hS9 hl9 hb9 hp9 => va_runS (As := [.long (lan q)]) (rest := []) X.fix (m_lbits l D cy O (n9 := ms q 64) (ms_lt64 q) H9.size) (va_cwS 1 X.hts (gS ml_X2_63 sm_J13_bitCount_95d88 ni_J13 cd_J13_bitCount_95d88) rfl rfl rfl (by decide +kernel) ⟨Nat.le_of_ble_eq_true rfl, Nat.le_of_ble_eq_true rfl⟩) ⟨hb9, hp9⟩ rfl rfl hl9.1 rfl (lv_room (Nat.le_of_ble_eq_true rfl)) dX2_include_27 ⟨Nat.le_of_ble_eq_true rfl, Nat.le_of_ble_eq_true rfl⟩) [] [0, 1] rfl rfl rfl rfl rfl (by decide) (fun _ h => Or.inl h) (fun r13 w14 h15 => ?_)
    obtain ⟨rfl, rfl⟩ := h15
    rw [ct_msN (Nat.le_refl 64)]
    refine z_eq (ws' := [(b5, .inr (5, [.ref r5, .int (nI (ct qs 512))])), (r5, .inl (cy 1, 512, .inl (zB qs)))]) (lv' := [(7, .long (lan q)), (6, .int (if fr.testBit 0 && !fr.testBit 1 then 1 else 0)), (0, .ref b2), (1, .long (lan q)), (3, .int (nI fr)), (4, .int (nI ob)), (5, .int (nI row))]) (st' := [.int (nI (ct q 64))]) rfl rfl rfl ?_
    refine z_widen (k' := 0) (n' := 0) (Nat.le_refl _) (Nat.le_refl _) ?_
    refine z_istore X (lv' := [(9, .int (nI (ct q 64))), (7, .long (lan q)), (6, .int (if fr.testBit 0 && !fr.testBit 1 then 1 else 0)), (0, .ref b2), (1, .long (lan q)), (3, .int (nI fr)), (4, .int (nI ob)), (5, .int (nI row))]) dX2_include_30 (by decide) rfl ?_
    refine z_iconst X (v := 0) dX2_include_32 (by decide) ?_
    refine z_istore X (lv' := [(10, .int 0), (9, .int (nI (ct q 64))), (7, .long (lan q)), (6, .int (if fr.testBit 0 && !fr.testBit 1 then 1 else 0)), (0, .ref b2), (1, .long (lan q)), (3, .int (nI fr)), (4, .int (nI ob)), (5, .int (nI row))]) dX2_include_33 (by decide) rfl ?_
    refine z_lv [0, 1, 2, 3, 4, 5, 6, 7, 8] (lv' := [(10, .int 0), (9, .int (nI (ct q 64))), (7, .long (lan q)), (6, .int (if fr.testBit 0 && !fr.testBit 1 then 1 else 0)), (0, .ref b2), (1, .long (lan q)), (3, .int (nI fr)), (4, .int (nI ob)), (5, .int (nI row))]) rfl ?_
    refine z_eq (ws' := [(b5, .inr (5, [.ref r5, .int (nI (ct (incs qs q (lrow fr ob row) 0) 512))])), (r5, .inl (cy 1, 512, .inl (zB (incs qs q (lrow fr ob row) 0))))]) (lv' := [(10, .int (nI 0)), (9, .int (nI (ct q 64))), (7, .long (nL (ms (kp q 0) 64))), (6, .int (if fr.testBit 0 && !fr.testBit 1 then 1 else 0)), (0, .ref b2), (1, .long (lan q)), (3, .int (nI fr)), (4, .int (nI ob)), (5, .int (nI row))]) (st' := []) (by rw [incs_0]) (by rw [kp_0]; rfl) rfl ?_
    exact L (ct q 64) 0 0 (by omega) (by rw [kp_0]) (Nat.zero_le _)
  · skip
    refine z_iload_n X dX2_include_8 rfl (j := 2) rfl ?_
    refine z_iconst X (v := 1) dX2_include_9 (by decide) ?_
    refine z_reti X (as := [.int (nI fr), .int 1]) (wc := []) (wr := [(b5, .inr (5, [.ref r5, .int (nI (ct qs 512))])), (r5, .inl (cy 1, 512, .inl (zB qs)))]) (rest := []) (fun H9 locs9 ls9 hP9 hS9 hl9 hb9 hp9 => va_runSN (As := [.int (nI fr), .int 1]) (rest := []) X.fix (m_isIn l D cy O (nI fr) (nI 1) H9.size) ⟨va_cnB 2 X.hts (gB cd_X9_isIn) rfl rfl rfl (X.nw.1 _ (List.mem_of_getElem? (i := 5) rfl)) (X.hts _ ni_X9) (by decide +kernel) ⟨Nat.le_of_ble_eq_true rfl, Nat.le_of_ble_eq_true rfl⟩, X.hts _ sm_X9_isIn, trivial⟩ ⟨hb9, hp9⟩ rfl rfl hl9.1 rfl (lv_room (Nat.le_of_ble_eq_true rfl)) dX2_include_10 ⟨Nat.le_of_ble_eq_true rfl, Nat.le_of_ble_eq_true rfl⟩) [] [0, 1] rfl rfl rfl rfl rfl (by decide) (fun _ h => Or.inl h) (fun r16 w17 h18 => ?_)
    obtain ⟨rfl, rfl⟩ := h18
    refine z_eq (ws' := [(b5, .inr (5, [.ref r5, .int (nI (ct qs 512))])), (r5, .inl (cy 1, 512, .inl (zB qs)))]) (lv' := [(0, .ref b2), (1, .long (lan q)), (3, .int (nI fr)), (4, .int (nI ob)), (5, .int (nI row))]) (st' := [.int (bI (nI fr) (nI 1))]) rfl rfl rfl ?_
    refine z_widen (k' := 0) (n' := 0) (Nat.le_refl _) (Nat.le_refl _) ?_
    refine z_if_ne X (tgt := 20) dX2_include_13 (by decide) (fun c_13 => ?_) (fun c_13 => ?_)
    · skip
      refine z_iconst X (v := 0) dX2_include_20 (by decide) ?_
      refine z_eq (ws' := [(b5, .inr (5, [.ref r5, .int (nI (ct qs 512))])), (r5, .inl (cy 1, 512, .inl (zB qs)))]) (lv' := [(0, .ref b2), (1, .long (lan q)), (3, .int (nI fr)), (4, .int (nI ob)), (5, .int (nI row))]) (st' := [.int (if fr.testBit 0 && !fr.testBit 1 then 1 else 0)]) rfl rfl (by rw [if_neg (by rw [bit_yes hfr (by decide) c_13]; simp)]) ?_
      refine z_istore X (lv' := [(6, .int (if fr.testBit 0 && !fr.testBit 1 then 1 else 0)), (0, .ref b2), (1, .long (lan q)), (3, .int (nI fr)), (4, .int (nI ob)), (5, .int (nI row))]) dX2_include_21 (by decide) rfl ?_
      refine z_lload_n X dX2_include_23 rfl (j := 2) rfl ?_
      refine z_lstore X (lv' := [(7, .long (lan q)), (6, .int (if fr.testBit 0 && !fr.testBit 1 then 1 else 0)), (0, .ref b2), (1, .long (lan q)), (3, .int (nI fr)), (4, .int (nI ob)), (5, .int (nI row))]) dX2_include_24 (by decide) rfl ?_
      refine z_lload_n X dX2_include_26 rfl (j := 3) rfl ?_
      refine z_reti X (as := [.long (lan q)]) (wc := []) (wr := [(b5, .inr (5, [.ref r5, .int (nI (ct qs 512))])), (r5, .inl (cy 1, 512, .inl (zB qs)))]) (rest := []) (fun H9 locs9 ls9 hP9 hS9 hl9 hb9 hp9 => va_runS (As := [.long (lan q)]) (rest := []) X.fix (m_lbits l D cy O (n9 := ms q 64) (ms_lt64 q) H9.size) (va_cwS 1 X.hts (gS ml_X2_63 sm_J13_bitCount_95d88 ni_J13 cd_J13_bitCount_95d88) rfl rfl rfl (by decide +kernel) ⟨Nat.le_of_ble_eq_true rfl, Nat.le_of_ble_eq_true rfl⟩) ⟨hb9, hp9⟩ rfl rfl hl9.1 rfl (lv_room (Nat.le_of_ble_eq_true rfl)) dX2_include_27 ⟨Nat.le_of_ble_eq_true rfl, Nat.le_of_ble_eq_true rfl⟩) [] [0, 1] rfl rfl rfl rfl rfl (by decide) (fun _ h => Or.inl h) (fun r19 w20 h21 => ?_)
      obtain ⟨rfl, rfl⟩ := h21
      rw [ct_msN (Nat.le_refl 64)]
      refine z_eq (ws' := [(b5, .inr (5, [.ref r5, .int (nI (ct qs 512))])), (r5, .inl (cy 1, 512, .inl (zB qs)))]) (lv' := [(7, .long (lan q)), (6, .int (if fr.testBit 0 && !fr.testBit 1 then 1 else 0)), (0, .ref b2), (1, .long (lan q)), (3, .int (nI fr)), (4, .int (nI ob)), (5, .int (nI row))]) (st' := [.int (nI (ct q 64))]) rfl rfl rfl ?_
      refine z_widen (k' := 0) (n' := 0) (Nat.le_refl _) (Nat.le_refl _) ?_
      refine z_istore X (lv' := [(9, .int (nI (ct q 64))), (7, .long (lan q)), (6, .int (if fr.testBit 0 && !fr.testBit 1 then 1 else 0)), (0, .ref b2), (1, .long (lan q)), (3, .int (nI fr)), (4, .int (nI ob)), (5, .int (nI row))]) dX2_include_30 (by decide) rfl ?_
      refine z_iconst X (v := 0) dX2_include_32 (by decide) ?_
      refine z_istore X (lv' := [(10, .int 0), (9, .int (nI (ct q 64))), (7, .long (lan q)), (6, .int (if fr.testBit 0 && !fr.testBit 1 then 1 else 0)), (0, .ref b2), (1, .long (lan q)), (3, .int (nI fr)), (4, .int (nI ob)), (5, .int (nI row))]) dX2_include_33 (by decide) rfl ?_
      refine z_lv [0, 1, 2, 3, 4, 5, 6, 7, 8] (lv' := [(10, .int 0), (9, .int (nI (ct q 64))), (7, .long (lan q)), (6, .int (if fr.testBit 0 && !fr.testBit 1 then 1 else 0)), (0, .ref b2), (1, .long (lan q)), (3, .int (nI fr)), (4, .int (nI ob)), (5, .int (nI row))]) rfl ?_
      refine z_eq (ws' := [(b5, .inr (5, [.ref r5, .int (nI (ct (incs qs q (lrow fr ob row) 0) 512))])), (r5, .inl (cy 1, 512, .inl (zB (incs qs q (lrow fr ob row) 0))))]) (lv' := [(10, .int (nI 0)), (9, .int (nI (ct q 64))), (7, .long (nL (ms (kp q 0) 64))), (6, .int (if fr.testBit 0 && !fr.testBit 1 then 1 else 0)), (0, .ref b2), (1, .long (lan q)), (3, .int (nI fr)), (4, .int (nI ob)), (5, .int (nI row))]) (st' := []) (by rw [incs_0]) (by rw [kp_0]; rfl) rfl ?_
      exact L (ct q 64) 0 0 (by omega) (by rw [kp_0]) (Nat.zero_le _)
    · skip
      refine z_iconst X (v := 1) dX2_include_16 (by decide) ?_
      refine z_goto X (tgt := 21) dX2_include_17 (by decide) ?_
      refine z_eq (ws' := [(b5, .inr (5, [.ref r5, .int (nI (ct qs 512))])), (r5, .inl (cy 1, 512, .inl (zB qs)))]) (lv' := [(0, .ref b2), (1, .long (lan q)), (3, .int (nI fr)), (4, .int (nI ob)), (5, .int (nI row))]) (st' := [.int (if fr.testBit 0 && !fr.testBit 1 then 1 else 0)]) rfl rfl (by rw [if_pos (by rw [bit_yes hfr (by decide) c_5, bit_no hfr (by decide) c_13]; rfl)]) ?_
      refine z_istore X (lv' := [(6, .int (if fr.testBit 0 && !fr.testBit 1 then 1 else 0)), (0, .ref b2), (1, .long (lan q)), (3, .int (nI fr)), (4, .int (nI ob)), (5, .int (nI row))]) dX2_include_21 (by decide) rfl ?_
      refine z_lload_n X dX2_include_23 rfl (j := 2) rfl ?_
      refine z_lstore X (lv' := [(7, .long (lan q)), (6, .int (if fr.testBit 0 && !fr.testBit 1 then 1 else 0)), (0, .ref b2), (1, .long (lan q)), (3, .int (nI fr)), (4, .int (nI ob)), (5, .int (nI row))]) dX2_include_24 (by decide) rfl ?_
      refine z_lload_n X dX2_include_26 rfl (j := 3) rfl ?_
      refine z_reti X (as := [.long (lan q)]) (wc := []) (wr := [(b5, .inr (5, [.ref r5, .int (nI (ct qs 512))])), (r5, .inl (cy 1, 512, .inl (zB qs)))]) (rest := []) (fun H9 locs9 ls9 hP9 hS9 hl9 hb9 hp9 => va_runS (As := [.long (lan q)]) (rest := []) X.fix (m_lbits l D cy O (n9 := ms q 64) (ms_lt64 q) H9.size) (va_cwS 1 X.hts (gS ml_X2_63 sm_J13_bitCount_95d88 ni_J13 cd_J13_bitCount_95d88) rfl rfl rfl (by decide +kernel) ⟨Nat.le_of_ble_eq_true rfl, Nat.le_of_ble_eq_true rfl⟩) ⟨hb9, hp9⟩ rfl rfl hl9.1 rfl (lv_room (Nat.le_of_ble_eq_true rfl)) dX2_include_27 ⟨Nat.le_of_ble_eq_true rfl, Nat.le_of_ble_eq_true rfl⟩) [] [0, 1] rfl rfl rfl rfl rfl (by decide) (fun _ h => Or.inl h) (fun r22 w23 h24 => ?_)
      obtain ⟨rfl, rfl⟩ := h24
      rw [ct_msN (Nat.le_refl 64)]
      refine z_eq (ws' := [(b5, .inr (5, [.ref r5, .int (nI (ct qs 512))])), (r5, .inl (cy 1, 512, .inl (zB qs)))]) (lv' := [(7, .long (lan q)), (6, .int (if fr.testBit 0 && !fr.testBit 1 then 1 else 0)), (0, .ref b2), (1, .long (lan q)), (3, .int (nI fr)), (4, .int (nI ob)), (5, .int (nI row))]) (st' := [.int (nI (ct q 64))]) rfl rfl rfl ?_
      refine z_widen (k' := 0) (n' := 0) (Nat.le_refl _) (Nat.le_refl _) ?_
      refine z_istore X (lv' := [(9, .int (nI (ct q 64))), (7, .long (lan q)), (6, .int (if fr.testBit 0 && !fr.testBit 1 then 1 else 0)), (0, .ref b2), (1, .long (lan q)), (3, .int (nI fr)), (4, .int (nI ob)), (5, .int (nI row))]) dX2_include_30 (by decide) rfl ?_
      refine z_iconst X (v := 0) dX2_include_32 (by decide) ?_
      refine z_istore X (lv' := [(10, .int 0), (9, .int (nI (ct q 64))), (7, .long (lan q)), (6, .int (if fr.testBit 0 && !fr.testBit 1 then 1 else 0)), (0, .ref b2), (1, .long (lan q)), (3, .int (nI fr)), (4, .int (nI ob)), (5, .int (nI row))]) dX2_include_33 (by decide) rfl ?_
      refine z_lv [0, 1, 2, 3, 4, 5, 6, 7, 8] (lv' := [(10, .int 0), (9, .int (nI (ct q 64))), (7, .long (lan q)), (6, .int (if fr.testBit 0 && !fr.testBit 1 then 1 else 0)), (0, .ref b2), (1, .long (lan q)), (3, .int (nI fr)), (4, .int (nI ob)), (5, .int (nI row))]) rfl ?_
      refine z_eq (ws' := [(b5, .inr (5, [.ref r5, .int (nI (ct (incs qs q (lrow fr ob row) 0) 512))])), (r5, .inl (cy 1, 512, .inl (zB (incs qs q (lrow fr ob row) 0))))]) (lv' := [(10, .int (nI 0)), (9, .int (nI (ct q 64))), (7, .long (nL (ms (kp q 0) 64))), (6, .int (if fr.testBit 0 && !fr.testBit 1 then 1 else 0)), (0, .ref b2), (1, .long (lan q)), (3, .int (nI fr)), (4, .int (nI ob)), (5, .int (nI row))]) (st' := []) (by rw [incs_0]) (by rw [kp_0]; rfl) rfl ?_
      exact L (ct q 64) 0 0 (by omega) (by rw [kp_0]) (Nat.zero_le _)
