/-! the tree of formulas: tables of rows, what holds -/
abbrev TRow : Type := Nat × Nat × Nat × Nat × Nat × (Nat → Nat)
abbrev TAtt : Type := Nat × Nat × Nat × Nat × Nat × Nat × Option Nat
abbrev RRow : Type := Nat × Nat × (Nat → Nat)
/-- the value of a term under a full valuation -/
def tv (val : Nat → Nat) (t : Nat) : Nat := if t < 10 then val t else t - 10
/-- the valuation of the lane j -/
def vl (vo : Nat → Option Nat) (v j : Nat) : Nat := if v < 2 then ld v j else (vo v).getD 0
def hol (R : Nat → RRow) (T : Nat → TRow) (dom : Nat) : Nat → Nat → (Nat → Nat) → Bool
  | 0, _, _ => false
  | n + 1, i, val =>
    if (T i).1 = 0 then exB (fun k => rok (R (T i).2.2.2.2.1).1 ((R (T i).2.2.2.2.1).2.2 k) (fun u => tv val ((T i).2.2.2.2.2 u)) (R (T i).2.2.2.2.1).1) (R (T i).2.2.2.2.1).2.1
    else if (T i).1 = 1 then decide (tv val ((T i).2.2.2.2.2 0) = tv val ((T i).2.2.2.2.2 1))
    else if (T i).1 = 2 then !hol R T dom n (T i).2.1 val
    else if (T i).1 = 3 then hol R T dom n (T i).2.1 val && hol R T dom n (T i).2.2.1 val
    else if (T i).1 = 4 then hol R T dom n (T i).2.1 val || hol R T dom n (T i).2.2.1 val
    else if (T i).1 = 5 then exB (fun w => dom.testBit w && hol R T dom n (T i).2.1 (up val (T i).2.2.2.1 w)) 8
    else !exB (fun w => dom.testBit w && !hol R T dom n (T i).2.1 (up val (T i).2.2.2.1 w)) 8
/-- the values of what is free, and isn't told by the lanes, are known -/
def asg (vo : Nat → Option Nat) (S : Nat) : Prop := ∀ v, 2 ≤ v → v < 6 → S.testBit v = true → ∃ x, vo v = some x ∧ x < 8
theorem tvl_tv {vo : Nat → Option Nat} {t j : Nat} : tvl vo t j = tv (fun v => vl vo v j) t := by
  unfold tvl tv vl tvo
  by_cases h : t < 2
  · rw [if_pos h, if_pos (by omega)]; exact (if_pos h).symm
  · rw [if_neg h]
    by_cases h2 : t < 10
    · rw [if_pos h2, if_pos h2]; exact (if_neg h).symm
    · rw [if_neg h2, if_neg h2]; rfl
theorem asg_terms {vo : Nat → Option Nat} {t : Nat → Nat} {n : Nat} (h : asg vo (vsf t n)) (ht : ∀ k, k < n → isT (t k)) : ∀ u, u < n → ¬ t u < 2 → ∃ x, tvo vo (t u) = some x ∧ x < 8 := by
  intro u hu h2
  unfold tvo
  rcases ht u hu with h3 | h3
  · rw [if_pos (by omega)]; exact h (t u) (by omega) h3 (vsf_bit.mpr ⟨u, hu, h3, rfl⟩)
  · rw [if_neg (by omega)]; exact ⟨t u - 10, rfl, by omega⟩
theorem asg_sub {vo : Nat → Option Nat} {S S' : Nat} (h : asg vo S) (hs : ∀ v, S'.testBit v = true → S.testBit v = true) : asg vo S' := fun v h1 h2 h3 => h v h1 h2 (hs v h3)
theorem vl_sl (vo : Nat → Option Nat) {y w j : Nat} (hy : y < 2) (hw : w < 8) : (fun v => vl vo v (sl y w j)) = up (fun v => vl vo v j) y w := funext fun v => by
  simp only [vl, up, ld, sl]
  rcases (show y = 0 ∨ y = 1 by omega) with e | e <;> subst e
  · by_cases h0 : v = 0
    · subst h0; first | (simp; done) | (simp; omega)
    · by_cases h1 : v = 1
      · subst h1; first | (simp; done) | (simp; omega)
      · simp [h0, show ¬ v < 2 by omega]
  · by_cases h0 : v = 0
    · subst h0; first | (simp; done) | (simp; omega)
    · by_cases h1 : v = 1
      · subst h1; first | (simp; done) | (simp; omega)
      · simp [h1, show ¬ v < 2 by omega]
theorem vl_up (vo : Nat → Option Nat) {y w j : Nat} (hy : 2 ≤ y) : (fun v => vl (up vo y (some w)) v j) = up (fun v => vl vo v j) y w := funext fun v => by
  simp only [vl, up]
  by_cases h : v = y
  · subst h; simp [show ¬ v < 2 by omega]
  · simp [h]
theorem up_up {α : Type} {f g : Nat → α} {k : Nat} {a : α} (h : ∀ u, u ≠ k → g u = f u) : up g k a = up f k a := funext fun u => by
  simp only [up]
  by_cases e : u = k
  · rw [if_pos e, if_pos e]
  · rw [if_neg e, if_neg e, h u e]
theorem up_back {α : Type} {f g : Nat → α} {k : Nat} (h : ∀ u, u ≠ k → g u = f u) : up g k (f k) = f := funext fun u => by
  simp only [up]
  by_cases e : u = k
  · subst e; rw [if_pos rfl]
  · rw [if_neg e, h u e]
theorem lg_ne {x y : Int64} (h : ¬ lg_cmp x y = 0) : x ≠ y := fun e => by subst e; exact h (by unfold lg_cmp; simp)
theorem lg_eq {x y : Int64} (h : lg_cmp x y = 0) : x = y := by
  unfold lg_cmp at h
  split at h
  · exact absurd h (by decide)
  · split at h
    · assumption
    · exact absurd h (by decide)
theorem exB_mono {q : Nat → Bool} {k m : Nat} (h : k ≤ m) (hq : exB q k = true) : exB q m = true := by
  obtain ⟨i, h1, h2⟩ := exB_iff.mp hq
  exact exB_iff.mpr ⟨i, by omega, h2⟩
theorem sv_s {dom k : Nat} {p : Nat → Nat → Bool} (h : dom.testBit k = true) : lan (fun j => exB (fun w => dom.testBit w && p j w) k) ||| lan (fun j => p j k) = lan (fun j => exB (fun w => dom.testBit w && p j w) (k + 1)) := by
  rw [lan_or]; refine lan_ext fun j _ => ?_
  rw [exB, h]; simp
theorem sv_n {dom k : Nat} {p : Nat → Nat → Bool} (h : dom.testBit k = false) : lan (fun j => exB (fun w => dom.testBit w && p j w) k) = lan (fun j => exB (fun w => dom.testBit w && p j w) (k + 1)) := by
  refine lan_ext fun j _ => ?_
  rw [exB, h]; simp
theorem sv_e {dom k : Nat} {p : Nat → Nat → Bool} (hk : k ≤ 8) (h : lan (fun j => exB (fun w => dom.testBit w && p j w) k) = -1) : lan (fun j => exB (fun w => dom.testBit w && p j w) k) = lan (fun j => exB (fun w => dom.testBit w && p j w) 8) :=
  lan_ext fun j hj => by rw [lan_1.mp h j hj, exB_mono hk (lan_1.mp h j hj)]
theorem ev_s {dom k : Nat} {p : Nat → Nat → Bool} (h : dom.testBit k = true) : lan (fun j => !exB (fun w => dom.testBit w && !p j w) k) &&& lan (fun j => p j k) = lan (fun j => !exB (fun w => dom.testBit w && !p j w) (k + 1)) := by
  rw [lan_and]; refine lan_ext fun j _ => ?_
  rw [exB, h]; simp
theorem ev_n {dom k : Nat} {p : Nat → Nat → Bool} (h : dom.testBit k = false) : lan (fun j => !exB (fun w => dom.testBit w && !p j w) k) = lan (fun j => !exB (fun w => dom.testBit w && !p j w) (k + 1)) := by
  refine lan_ext fun j _ => ?_
  rw [exB, h]; simp
theorem ev_e {dom k : Nat} {p : Nat → Nat → Bool} (hk : k ≤ 8) (h : lan (fun j => !exB (fun w => dom.testBit w && !p j w) k) = 0) : lan (fun j => !exB (fun w => dom.testBit w && !p j w) k) = lan (fun j => !exB (fun w => dom.testBit w && !p j w) 8) :=
  lan_ext fun j hj => by
    have h1 := lan_0.mp h j hj
    rw [h1]
    rw [Bool.not_eq_false'] at h1
    rw [exB_mono hk h1]; rfl
set_option maxHeartbeats 4000000 in
set_option maxRecDepth 100000 in
/-- someValue(f) -/
theorem m_someValue (l : Launch) (D : va_G) (cy : Nat → ClassId) (O : Nat × va_E → Prop) {b2 gv dom fr lo : Nat} {f0 : Value} (hL : O (b2, .inr (2, [f0, .ref gv, .int (nI dom)]))) (hd : dom < 2 ^ 31) {a a5 S5 y : Nat} {q5 : (Nat → Nat) → Bool} {p1 p2 p4 : Value} {vo : Nat → Option Nat} {kk : Int32} {e0 e1 e2 e3 e4 e5 e6 : Value} (hF : O (a, .inr (1, [.int kk, p1, p2, .ref a5, p4, .int (nI y), e0, e1, e2, e3, e4, e5, e6]))) (hy : 2 ≤ y) (hy6 : y < 6) (h0 : vno vo) (hs : asg vo (nd S5 (2 ^ y))) (hA5 : ∀ vo, vno vo → asg vo S5 → Cl l yX2_holding (.code yX2_holding cX2_holding 4 (some .long) :: WALL) { frames := fr, cells := 0, slots := 0, locals := lo } D cy O [.ref b2, .ref a5] [(gv, .inl (cy 0, 6, .inl (vA vo)))] 0 0 (fun (r : Int64) (w : va_W) => r = lan (fun j => q5 (fun v => vl vo v j)) ∧ w = [(gv, .inl (cy 0, 6, .inl (vA vo)))])) : Cl l yX2_someValue (.code yX2_someValue cX2_someValue 6 (some .long) :: WALL) ({ frames := fr + 1, cells := 0, slots := 0, locals := lo + 23 }) D cy O [.ref b2, .ref a] [(gv, .inl (cy 0, 6, .inl (vA vo)))] 0 0 (fun (r : Int64) (w : va_W) => r = (lan (fun j => exB (fun w => dom.testBit w && q5 (up (fun v => vl vo v j) y w)) 8)) ∧ w = [(gv, .inl (cy 0, 6, .inl (vA vo)))]) := by
  refine z_metl (by decide) rfl rfl (Nat.le_of_ble_eq_true rfl) ?_
  intro p e s m args below meth c X hr hin
  refine z_eq (ws' := [(gv, .inl (cy 0, 6, .inl (vA vo)))]) (lv' := [(0, .ref b2), (1, .ref a)]) (st' := []) rfl rfl rfl ?_
  have K70 : ∀ (k : Nat) (vx : Nat → Option Nat), (∀ u, u ≠ y → vx u = vo u) → Zz D (va_A [(gv, .inl (cy 0, 6, .inl (vA vo)))] s.heap.size) 6 p l e ({ frames := fr + 1, cells := 0, slots := 0, locals := lo + 23 }) s m args below meth c (MQ below (va_Ql (fun (r : Int64) (w : va_W) => r = (lan (fun j => exB (fun w => dom.testBit w && q5 (up (fun v => vl vo v j) y w)) 8)) ∧ w = [(gv, .inl (cy 0, 6, .inl (vA vo)))]) (end_ D [(gv, .inl (cy 0, 6, .inl (vA vo)))] s.heap.size) (va_A [(gv, .inl (cy 0, 6, .inl (vA vo)))] s.heap.size)) args s 0 0 (va_A [(gv, .inl (cy 0, 6, .inl (vA vo)))] s.heap.size)) [(gv, .inl (cy 0, 6, .inl (vA vx)))] [(5, .int (nI k)), (3, .long (lan (fun j => exB (fun w => dom.testBit w && q5 (up (fun v => vl vo v j) y w)) 8))), (2, .int (oI (vo y))), (0, .ref b2), (1, .ref a)] 0 0 70 [] := by
    intro k vx hvx
    refine z_aload_n X dX2_someValue_70 rfl (j := 3) rfl ?_
    refine z_getO X (ci := 2) (C := RX2) (T := TX2) (N := 3) inX2 hL rfl 1 (by decide) fl_X2_18 (fun _ h9 => h9) rfl dX2_someValue_71 ?_
    refine z_aload_n X dX2_someValue_74 rfl (j := 4) rfl ?_
    refine z_getO X (ci := 1) (C := RX1) (T := TX1) (N := 13) inX1 hF rfl 5 (by decide) fl_X2_102 (fun _ h9 => h9) rfl dX2_someValue_75 ?_
    refine z_iload_n X dX2_someValue_78 rfl (j := 2) rfl ?_
    refine z_iastW X 0 rfl (vp_in_nI (by omega) (by decide)) (ws' := [(gv, .inl (cy 0, 6, .inl (vA vo)))]) (by rw [nI_clamp (show y < 2 ^ 31 by omega), upd_vA, up_back hvx]; rfl) dX2_someValue_79 ?_
    refine z_lload_n X dX2_someValue_80 rfl (j := 1) rfl ?_
    exact z_endl X hr [(gv, .inl (cy 0, 6, .inl (vA vo)))] [0] rfl rfl rfl ⟨rfl, rfl⟩ dX2_someValue_81
  have hasgk : ∀ k, k < 8 → asg (up vo y (some k)) S5 := by
    intro k hk v h2 h6 hb
    by_cases e : v = y
    · subst e; exact ⟨k, by simp [up], hk⟩
    · obtain ⟨x, h7, h8⟩ := hs v h2 h6 (by rw [nd_bit, hb, Nat.testBit_two_pow]; simp [show y ≠ v from fun z => e z.symm])
      exact ⟨x, by simp [up, e, h7], h8⟩
  have L : ∀ (d : Nat) (k : Nat) (vx : Nat → Option Nat), k + d = 8 → (∀ u, u ≠ y → vx u = vo u) → Zz D (va_A [(gv, .inl (cy 0, 6, .inl (vA vo)))] s.heap.size) 6 p l e ({ frames := fr + 1, cells := 0, slots := 0, locals := lo + 23 }) s m args below meth c (MQ below (va_Ql (fun (r : Int64) (w : va_W) => r = (lan (fun j => exB (fun w => dom.testBit w && q5 (up (fun v => vl vo v j) y w)) 8)) ∧ w = [(gv, .inl (cy 0, 6, .inl (vA vo)))]) (end_ D [(gv, .inl (cy 0, 6, .inl (vA vo)))] s.heap.size) (va_A [(gv, .inl (cy 0, 6, .inl (vA vo)))] s.heap.size)) args s 0 0 (va_A [(gv, .inl (cy 0, 6, .inl (vA vo)))] s.heap.size)) [(gv, .inl (cy 0, 6, .inl (vA vx)))] [(5, .int (nI k)), (3, .long (lan (fun j => exB (fun w => dom.testBit w && q5 (up (fun v => vl vo v j) y w)) k))), (2, .int (oI (vo y))), (0, .ref b2), (1, .ref a)] 0 0 15 [] := by
    intro d
    induction d with
    | zero =>
      intro k vx hL0 hL1
      refine z_iload X dX2_someValue_15 (j := 0) rfl ?_
      refine z_bipush X (v := 8) dX2_someValue_17 (by decide) ?_
      refine z_icmp_ge X (tgt := 70) dX2_someValue_19 (by decide) (fun c_19 => ?_) (fun c9 => absurd (nI_le (a := 8) (b := k) (by omega) (by omega)) c9)
      refine z_eq (ws' := [(gv, .inl (cy 0, 6, .inl (vA vx)))]) (lv' := [(5, .int (nI k)), (3, .long (lan (fun j => exB (fun w => dom.testBit w && q5 (up (fun v => vl vo v j) y w)) 8))), (2, .int (oI (vo y))), (0, .ref b2), (1, .ref a)]) (st' := []) rfl (by rw [show k = 8 by omega]) rfl ?_
      exact K70 k vx hL1
    | succ d ih =>
      intro k vx hL0 hL1
      refine z_iload X dX2_someValue_15 (j := 0) rfl ?_
      refine z_bipush X (v := 8) dX2_someValue_17 (by decide) ?_
      refine z_icmp_ge X (tgt := 70) dX2_someValue_19 (by decide) (fun c9 => absurd c9 (nI_ge (a := k) (b := 8) (by omega) (by decide))) (fun c_19 => ?_)
      refine z_lload_n X dX2_someValue_22 rfl (j := 1) rfl ?_
      refine z_ldc2 X kc_X2_97 dX2_someValue_23 ?_
      refine z_lcmp X (v := (lg_cmp (lan (fun j => exB (fun w => dom.testBit w && q5 (up (fun v => vl vo v j) y w)) k)) (-1))) dX2_someValue_26 rfl ?_
      refine z_if_eq X (tgt := 70) dX2_someValue_27 (by decide) (fun c_27 => ?_) (fun c_27 => ?_)
      · skip
        refine z_eq (ws' := [(gv, .inl (cy 0, 6, .inl (vA vx)))]) (lv' := [(5, .int (nI k)), (3, .long (lan (fun j => exB (fun w => dom.testBit w && q5 (up (fun v => vl vo v j) y w)) 8))), (2, .int (oI (vo y))), (0, .ref b2), (1, .ref a)]) (st' := []) rfl (by rw [sv_e (p := fun j k => q5 (up (fun v => vl vo v j) y k)) (by omega) (lg_eq c_27)]) rfl ?_
        exact K70 k vx hL1
      · skip
        refine z_aload_n X dX2_someValue_30 rfl (j := 3) rfl ?_
        refine z_getO X (ci := 2) (C := RX2) (T := TX2) (N := 3) inX2 hL rfl 2 (by decide) fl_X2_22 (fun _ h9 => h9) rfl dX2_someValue_31 ?_
        refine z_iload X dX2_someValue_34 (j := 0) rfl ?_
        refine z_reti X (as := [.int (nI dom), .int (nI k)]) (wc := []) (wr := [(gv, .inl (cy 0, 6, .inl (vA vx)))]) (rest := []) (fun H9 locs9 ls9 hP9 hS9 hl9 hb9 hp9 => va_runSN (As := [.int (nI dom), .int (nI k)]) (rest := []) X.fix (m_isIn l D cy O (nI dom) (nI k) H9.size) ⟨va_cnB 2 X.hts (gB cd_X9_isIn) rfl rfl rfl (X.nw.1 _ (List.mem_of_getElem? (i := 5) rfl)) (X.hts _ ni_X9) (by decide +kernel) ⟨Nat.le_of_ble_eq_true rfl, Nat.le_of_ble_eq_true rfl⟩, X.hts _ sm_X9_isIn, trivial⟩ ⟨hb9, hp9⟩ rfl rfl hl9.1 rfl (lv_room (Nat.le_of_ble_eq_true rfl)) dX2_someValue_36 ⟨Nat.le_of_ble_eq_true rfl, Nat.le_of_ble_eq_true rfl⟩) [] [0] rfl rfl rfl rfl rfl (by decide) (fun _ h => Or.inl h) (fun r1 w2 h3 => ?_)
        obtain ⟨rfl, rfl⟩ := h3
        refine z_eq (ws' := [(gv, .inl (cy 0, 6, .inl (vA vx)))]) (lv' := [(5, .int (nI k)), (3, .long (lan (fun j => exB (fun w => dom.testBit w && q5 (up (fun v => vl vo v j) y w)) k))), (2, .int (oI (vo y))), (0, .ref b2), (1, .ref a)]) (st' := [.int (bI (nI dom) (nI k))]) rfl rfl rfl ?_
        refine z_widen (k' := 0) (n' := 0) (Nat.le_refl _) (Nat.le_refl _) ?_
        refine z_if_eq X (tgt := 64) dX2_someValue_39 (by decide) (fun c_39 => ?_) (fun c_39 => ?_)
        · skip
          have hkb := bit_no hd (by omega) c_39
          refine z_iinc X (j := 0) (v := (nI (k + 1))) (lv' := [(5, .int (nI (k + 1))), (3, .long (lan (fun j => exB (fun w => dom.testBit w && q5 (up (fun v => vl vo v j) y w)) k))), (2, .int (oI (vo y))), (0, .ref b2), (1, .ref a)]) dX2_someValue_64 rfl (nI_1 k) (by decide) rfl ?_
          refine z_goto X (tgt := 15) dX2_someValue_67 (by decide) ?_
          refine z_eq (ws' := [(gv, .inl (cy 0, 6, .inl (vA vx)))]) (lv' := [(5, .int (nI (k + 1))), (3, .long (lan (fun j => exB (fun w => dom.testBit w && q5 (up (fun v => vl vo v j) y w)) (k + 1)))), (2, .int (oI (vo y))), (0, .ref b2), (1, .ref a)]) (st' := []) rfl (by rw [sv_n (p := fun j k => q5 (up (fun v => vl vo v j) y k)) hkb]) rfl ?_
          exact ih (k + 1) vx (by omega) hL1
        · skip
          have hkb := bit_yes hd (by omega) c_39
          refine z_aload_n X dX2_someValue_42 rfl (j := 3) rfl ?_
          refine z_getO X (ci := 2) (C := RX2) (T := TX2) (N := 3) inX2 hL rfl 1 (by decide) fl_X2_18 (fun _ h9 => h9) rfl dX2_someValue_43 ?_
          refine z_aload_n X dX2_someValue_46 rfl (j := 4) rfl ?_
          refine z_getO X (ci := 1) (C := RX1) (T := TX1) (N := 13) inX1 hF rfl 5 (by decide) fl_X2_102 (fun _ h9 => h9) rfl dX2_someValue_47 ?_
          refine z_iload X dX2_someValue_50 (j := 0) rfl ?_
          refine z_iastW X 0 rfl (vp_in_nI (by omega) (by decide)) (ws' := [(gv, .inl (cy 0, 6, .inl (vA (up vo y (some k)))))]) (by rw [upd_vA' (show y < 2 ^ 31 by omega), up_up hL1]; rfl) dX2_someValue_52 ?_
          refine z_lload_n X dX2_someValue_53 rfl (j := 1) rfl ?_
          refine z_aload_n X dX2_someValue_54 rfl (j := 3) rfl ?_
          refine z_aload_n X dX2_someValue_55 rfl (j := 4) rfl ?_
          refine z_getO X (ci := 1) (C := RX1) (T := TX1) (N := 13) inX1 hF rfl 3 (by decide) fl_X2_93 (fun _ h9 => h9) rfl dX2_someValue_56 ?_
          refine z_retl X (as := [.ref b2, .ref a5]) (wc := [(gv, .inl (cy 0, 6, .inl (vA (up vo y (some k)))))]) (wr := []) (rest := [.long (lan (fun j => exB (fun w => dom.testBit w && q5 (up (fun v => vl vo v j) y w)) k))]) (fun H9 locs9 ls9 hP9 hS9 hl9 hb9 hp9 => va_runV (As := [.ref a5]) (rest := [.long (lan (fun j => exB (fun w => dom.testBit w && q5 (up (fun v => vl vo v j) y w)) k))]) X.fix (hA5 (up vo y (some k)) (show vno _ from ⟨by rw [up, if_neg (by omega)]; exact h0.1, by rw [up, if_neg (by omega)]; exact h0.2⟩) (hasgk k (by omega)) H9.size) (cwV 1 X.hts (gV ml_X2_48 im_X2_holding se_X2_holding ni_X2 cd_X2_holding) rfl rfl rfl (by decide +kernel) ⟨Nat.le_refl _, by show 8 + (4 + 11) + lo ≤ lo + 23; omega⟩) ⟨hb9, z_recvO X (ci := 2) (r := (RX2, TX2, 3)) hL rfl hS9, hp9⟩ rfl rfl hl9.1 rfl (lv_room (Nat.le_of_ble_eq_true rfl)) dX2_someValue_59 ⟨Nat.le_of_ble_eq_true rfl, Nat.le_of_ble_eq_true rfl⟩) [0] [] rfl rfl rfl rfl rfl (by decide) (fun _ h => Or.inl h) (fun r4 w5 h6 => ?_)
          obtain ⟨rfl, rfl⟩ := h6
          refine z_eq (ws' := [(gv, .inl (cy 0, 6, .inl (vA (up vo y (some k)))))]) (lv' := [(5, .int (nI k)), (3, .long (lan (fun j => exB (fun w => dom.testBit w && q5 (up (fun v => vl vo v j) y w)) k))), (2, .int (oI (vo y))), (0, .ref b2), (1, .ref a)]) (st' := [.long (lan (fun j => q5 (fun v => vl (up vo y (some k)) v j))), .long (lan (fun j => exB (fun w => dom.testBit w && q5 (up (fun v => vl vo v j) y w)) k))]) rfl rfl rfl ?_
          refine z_widen (k' := 0) (n' := 0) (Nat.le_refl _) (Nat.le_refl _) ?_
          refine z_lor X (v := (lan (fun j => exB (fun w => dom.testBit w && q5 (up (fun v => vl vo v j) y w)) (k + 1)))) dX2_someValue_62 (by rw [← sv_s (p := fun j k => q5 (up (fun v => vl vo v j) y k)) hkb, show (lan fun j => q5 (fun v => vl (up vo y (some k)) v j)) = lan (fun j => q5 (up (fun v => vl vo v j) y k)) from lan_ext fun j _ => by rw [vl_up vo hy]]) ?_
          refine z_lstore_n X (lv' := [(3, .long (lan (fun j => exB (fun w => dom.testBit w && q5 (up (fun v => vl vo v j) y w)) (k + 1)))), (5, .int (nI k)), (2, .int (oI (vo y))), (0, .ref b2), (1, .ref a)]) dX2_someValue_63 rfl (by decide) rfl ?_
          refine z_iinc X (j := 1) (v := (nI (k + 1))) (lv' := [(5, .int (nI (k + 1))), (3, .long (lan (fun j => exB (fun w => dom.testBit w && q5 (up (fun v => vl vo v j) y w)) (k + 1)))), (2, .int (oI (vo y))), (0, .ref b2), (1, .ref a)]) dX2_someValue_64 rfl (nI_1 k) (by decide) rfl ?_
          refine z_goto X (tgt := 15) dX2_someValue_67 (by decide) ?_
          refine z_eq (ws' := [(gv, .inl (cy 0, 6, .inl (vA (up vo y (some k)))))]) (lv' := [(5, .int (nI (k + 1))), (3, .long (lan (fun j => exB (fun w => dom.testBit w && q5 (up (fun v => vl vo v j) y w)) (k + 1)))), (2, .int (oI (vo y))), (0, .ref b2), (1, .ref a)]) (st' := []) rfl rfl rfl ?_
          exact ih (k + 1) (up vo y (some k)) (by omega) (fun u hu => by simp [up, hu])
  refine z_aload_n X dX2_someValue_0 rfl (j := 0) rfl ?_
  refine z_getO X (ci := 2) (C := RX2) (T := TX2) (N := 3) inX2 hL rfl 1 (by decide) fl_X2_18 (fun _ h9 => h9) rfl dX2_someValue_1 ?_
  refine z_aload_n X dX2_someValue_4 rfl (j := 1) rfl ?_
  refine z_getO X (ci := 1) (C := RX1) (T := TX1) (N := 13) inX1 hF rfl 5 (by decide) fl_X2_102 (fun _ h9 => h9) rfl dX2_someValue_5 ?_
  refine z_ialdW X 0 rfl (v := (oI (vo y))) (vp_in_nI (by omega) (by decide)) (vA_at (by omega) rfl) dX2_someValue_8 ?_
  refine z_istore_n X (lv' := [(2, .int (oI (vo y))), (0, .ref b2), (1, .ref a)]) dX2_someValue_9 rfl (by decide) rfl ?_
  refine z_lconst X (v := 0) dX2_someValue_10 (by decide) ?_
  refine z_lstore_n X (lv' := [(3, .long 0), (2, .int (oI (vo y))), (0, .ref b2), (1, .ref a)]) dX2_someValue_11 rfl (by decide) rfl ?_
  refine z_iconst X (v := 0) dX2_someValue_12 (by decide) ?_
  refine z_istore X (lv' := [(5, .int 0), (3, .long 0), (2, .int (oI (vo y))), (0, .ref b2), (1, .ref a)]) dX2_someValue_13 (by decide) rfl ?_
  refine z_eq (ws' := [(gv, .inl (cy 0, 6, .inl (vA vo)))]) (lv' := [(5, .int (nI 0)), (3, .long (lan (fun j => exB (fun w => dom.testBit w && q5 (up (fun v => vl vo v j) y w)) 0))), (2, .int (oI (vo y))), (0, .ref b2), (1, .ref a)]) (st' := []) rfl (by rw [show (lan (fun j => exB (fun w => dom.testBit w && q5 (up (fun v => vl vo v j) y w)) 0)) = 0 from lan_0.mpr fun j _ => by simp [exB]]; rfl) rfl ?_
  exact L 8 0 vo (by omega) (fun _ _ => rfl)
set_option maxHeartbeats 4000000 in
set_option maxRecDepth 100000 in
/-- everyValue(f) -/
theorem m_everyValue (l : Launch) (D : va_G) (cy : Nat → ClassId) (O : Nat × va_E → Prop) {b2 gv dom fr lo : Nat} {f0 : Value} (hL : O (b2, .inr (2, [f0, .ref gv, .int (nI dom)]))) (hd : dom < 2 ^ 31) {a a5 S5 y : Nat} {q5 : (Nat → Nat) → Bool} {p1 p2 p4 : Value} {vo : Nat → Option Nat} {kk : Int32} {e0 e1 e2 e3 e4 e5 e6 : Value} (hF : O (a, .inr (1, [.int kk, p1, p2, .ref a5, p4, .int (nI y), e0, e1, e2, e3, e4, e5, e6]))) (hy : 2 ≤ y) (hy6 : y < 6) (h0 : vno vo) (hs : asg vo (nd S5 (2 ^ y))) (hA5 : ∀ vo, vno vo → asg vo S5 → Cl l yX2_holding (.code yX2_holding cX2_holding 4 (some .long) :: WALL) { frames := fr, cells := 0, slots := 0, locals := lo } D cy O [.ref b2, .ref a5] [(gv, .inl (cy 0, 6, .inl (vA vo)))] 0 0 (fun (r : Int64) (w : va_W) => r = lan (fun j => q5 (fun v => vl vo v j)) ∧ w = [(gv, .inl (cy 0, 6, .inl (vA vo)))])) : Cl l yX2_everyValue (.code yX2_everyValue cX2_everyValue 6 (some .long) :: WALL) ({ frames := fr + 1, cells := 0, slots := 0, locals := lo + 23 }) D cy O [.ref b2, .ref a] [(gv, .inl (cy 0, 6, .inl (vA vo)))] 0 0 (fun (r : Int64) (w : va_W) => r = (lan (fun j => !exB (fun w => dom.testBit w && !q5 (up (fun v => vl vo v j) y w)) 8)) ∧ w = [(gv, .inl (cy 0, 6, .inl (vA vo)))]) := by
  refine z_metl (by decide) rfl rfl (Nat.le_of_ble_eq_true rfl) ?_
  intro p e s m args below meth c X hr hin
  refine z_eq (ws' := [(gv, .inl (cy 0, 6, .inl (vA vo)))]) (lv' := [(0, .ref b2), (1, .ref a)]) (st' := []) rfl rfl rfl ?_
  have K70 : ∀ (k : Nat) (vx : Nat → Option Nat), (∀ u, u ≠ y → vx u = vo u) → Zz D (va_A [(gv, .inl (cy 0, 6, .inl (vA vo)))] s.heap.size) 6 p l e ({ frames := fr + 1, cells := 0, slots := 0, locals := lo + 23 }) s m args below meth c (MQ below (va_Ql (fun (r : Int64) (w : va_W) => r = (lan (fun j => !exB (fun w => dom.testBit w && !q5 (up (fun v => vl vo v j) y w)) 8)) ∧ w = [(gv, .inl (cy 0, 6, .inl (vA vo)))]) (end_ D [(gv, .inl (cy 0, 6, .inl (vA vo)))] s.heap.size) (va_A [(gv, .inl (cy 0, 6, .inl (vA vo)))] s.heap.size)) args s 0 0 (va_A [(gv, .inl (cy 0, 6, .inl (vA vo)))] s.heap.size)) [(gv, .inl (cy 0, 6, .inl (vA vx)))] [(5, .int (nI k)), (3, .long (lan (fun j => !exB (fun w => dom.testBit w && !q5 (up (fun v => vl vo v j) y w)) 8))), (2, .int (oI (vo y))), (0, .ref b2), (1, .ref a)] 0 0 70 [] := by
    intro k vx hvx
    refine z_aload_n X dX2_everyValue_70 rfl (j := 3) rfl ?_
    refine z_getO X (ci := 2) (C := RX2) (T := TX2) (N := 3) inX2 hL rfl 1 (by decide) fl_X2_18 (fun _ h9 => h9) rfl dX2_everyValue_71 ?_
    refine z_aload_n X dX2_everyValue_74 rfl (j := 4) rfl ?_
    refine z_getO X (ci := 1) (C := RX1) (T := TX1) (N := 13) inX1 hF rfl 5 (by decide) fl_X2_102 (fun _ h9 => h9) rfl dX2_everyValue_75 ?_
    refine z_iload_n X dX2_everyValue_78 rfl (j := 2) rfl ?_
    refine z_iastW X 0 rfl (vp_in_nI (by omega) (by decide)) (ws' := [(gv, .inl (cy 0, 6, .inl (vA vo)))]) (by rw [nI_clamp (show y < 2 ^ 31 by omega), upd_vA, up_back hvx]; rfl) dX2_everyValue_79 ?_
    refine z_lload_n X dX2_everyValue_80 rfl (j := 1) rfl ?_
    exact z_endl X hr [(gv, .inl (cy 0, 6, .inl (vA vo)))] [0] rfl rfl rfl ⟨rfl, rfl⟩ dX2_everyValue_81
  have hasgk : ∀ k, k < 8 → asg (up vo y (some k)) S5 := by
    intro k hk v h2 h6 hb
    by_cases e : v = y
    · subst e; exact ⟨k, by simp [up], hk⟩
    · obtain ⟨x, h7, h8⟩ := hs v h2 h6 (by rw [nd_bit, hb, Nat.testBit_two_pow]; simp [show y ≠ v from fun z => e z.symm])
      exact ⟨x, by simp [up, e, h7], h8⟩
  have L : ∀ (d : Nat) (k : Nat) (vx : Nat → Option Nat), k + d = 8 → (∀ u, u ≠ y → vx u = vo u) → Zz D (va_A [(gv, .inl (cy 0, 6, .inl (vA vo)))] s.heap.size) 6 p l e ({ frames := fr + 1, cells := 0, slots := 0, locals := lo + 23 }) s m args below meth c (MQ below (va_Ql (fun (r : Int64) (w : va_W) => r = (lan (fun j => !exB (fun w => dom.testBit w && !q5 (up (fun v => vl vo v j) y w)) 8)) ∧ w = [(gv, .inl (cy 0, 6, .inl (vA vo)))]) (end_ D [(gv, .inl (cy 0, 6, .inl (vA vo)))] s.heap.size) (va_A [(gv, .inl (cy 0, 6, .inl (vA vo)))] s.heap.size)) args s 0 0 (va_A [(gv, .inl (cy 0, 6, .inl (vA vo)))] s.heap.size)) [(gv, .inl (cy 0, 6, .inl (vA vx)))] [(5, .int (nI k)), (3, .long (lan (fun j => !exB (fun w => dom.testBit w && !q5 (up (fun v => vl vo v j) y w)) k))), (2, .int (oI (vo y))), (0, .ref b2), (1, .ref a)] 0 0 17 [] := by
    intro d
    induction d with
    | zero =>
      intro k vx hL0 hL1
      refine z_iload X dX2_everyValue_17 (j := 0) rfl ?_
      refine z_bipush X (v := 8) dX2_everyValue_19 (by decide) ?_
      refine z_icmp_ge X (tgt := 70) dX2_everyValue_21 (by decide) (fun c_21 => ?_) (fun c9 => absurd (nI_le (a := 8) (b := k) (by omega) (by omega)) c9)
      refine z_eq (ws' := [(gv, .inl (cy 0, 6, .inl (vA vx)))]) (lv' := [(5, .int (nI k)), (3, .long (lan (fun j => !exB (fun w => dom.testBit w && !q5 (up (fun v => vl vo v j) y w)) 8))), (2, .int (oI (vo y))), (0, .ref b2), (1, .ref a)]) (st' := []) rfl (by rw [show k = 8 by omega]) rfl ?_
      exact K70 k vx hL1
    | succ d ih =>
      intro k vx hL0 hL1
      refine z_iload X dX2_everyValue_17 (j := 0) rfl ?_
      refine z_bipush X (v := 8) dX2_everyValue_19 (by decide) ?_
      refine z_icmp_ge X (tgt := 70) dX2_everyValue_21 (by decide) (fun c9 => absurd c9 (nI_ge (a := k) (b := 8) (by omega) (by decide))) (fun c_21 => ?_)
      refine z_lload_n X dX2_everyValue_24 rfl (j := 1) rfl ?_
      refine z_lconst X (v := 0) dX2_everyValue_25 (by decide) ?_
      refine z_lcmp X (v := (lg_cmp (lan (fun j => !exB (fun w => dom.testBit w && !q5 (up (fun v => vl vo v j) y w)) k)) 0)) dX2_everyValue_26 rfl ?_
      refine z_if_eq X (tgt := 70) dX2_everyValue_27 (by decide) (fun c_27 => ?_) (fun c_27 => ?_)
      · skip
        refine z_eq (ws' := [(gv, .inl (cy 0, 6, .inl (vA vx)))]) (lv' := [(5, .int (nI k)), (3, .long (lan (fun j => !exB (fun w => dom.testBit w && !q5 (up (fun v => vl vo v j) y w)) 8))), (2, .int (oI (vo y))), (0, .ref b2), (1, .ref a)]) (st' := []) rfl (by rw [ev_e (p := fun j k => q5 (up (fun v => vl vo v j) y k)) (by omega) (lg_eq c_27)]) rfl ?_
        exact K70 k vx hL1
      · skip
        refine z_aload_n X dX2_everyValue_30 rfl (j := 3) rfl ?_
        refine z_getO X (ci := 2) (C := RX2) (T := TX2) (N := 3) inX2 hL rfl 2 (by decide) fl_X2_22 (fun _ h9 => h9) rfl dX2_everyValue_31 ?_
        refine z_iload X dX2_everyValue_34 (j := 0) rfl ?_
        refine z_reti X (as := [.int (nI dom), .int (nI k)]) (wc := []) (wr := [(gv, .inl (cy 0, 6, .inl (vA vx)))]) (rest := []) (fun H9 locs9 ls9 hP9 hS9 hl9 hb9 hp9 => va_runSN (As := [.int (nI dom), .int (nI k)]) (rest := []) X.fix (m_isIn l D cy O (nI dom) (nI k) H9.size) ⟨va_cnB 2 X.hts (gB cd_X9_isIn) rfl rfl rfl (X.nw.1 _ (List.mem_of_getElem? (i := 5) rfl)) (X.hts _ ni_X9) (by decide +kernel) ⟨Nat.le_of_ble_eq_true rfl, Nat.le_of_ble_eq_true rfl⟩, X.hts _ sm_X9_isIn, trivial⟩ ⟨hb9, hp9⟩ rfl rfl hl9.1 rfl (lv_room (Nat.le_of_ble_eq_true rfl)) dX2_everyValue_36 ⟨Nat.le_of_ble_eq_true rfl, Nat.le_of_ble_eq_true rfl⟩) [] [0] rfl rfl rfl rfl rfl (by decide) (fun _ h => Or.inl h) (fun r1 w2 h3 => ?_)
        obtain ⟨rfl, rfl⟩ := h3
        refine z_eq (ws' := [(gv, .inl (cy 0, 6, .inl (vA vx)))]) (lv' := [(5, .int (nI k)), (3, .long (lan (fun j => !exB (fun w => dom.testBit w && !q5 (up (fun v => vl vo v j) y w)) k))), (2, .int (oI (vo y))), (0, .ref b2), (1, .ref a)]) (st' := [.int (bI (nI dom) (nI k))]) rfl rfl rfl ?_
        refine z_widen (k' := 0) (n' := 0) (Nat.le_refl _) (Nat.le_refl _) ?_
        refine z_if_eq X (tgt := 64) dX2_everyValue_39 (by decide) (fun c_39 => ?_) (fun c_39 => ?_)
        · skip
          have hkb := bit_no hd (by omega) c_39
          refine z_iinc X (j := 0) (v := (nI (k + 1))) (lv' := [(5, .int (nI (k + 1))), (3, .long (lan (fun j => !exB (fun w => dom.testBit w && !q5 (up (fun v => vl vo v j) y w)) k))), (2, .int (oI (vo y))), (0, .ref b2), (1, .ref a)]) dX2_everyValue_64 rfl (nI_1 k) (by decide) rfl ?_
          refine z_goto X (tgt := 17) dX2_everyValue_67 (by decide) ?_
          refine z_eq (ws' := [(gv, .inl (cy 0, 6, .inl (vA vx)))]) (lv' := [(5, .int (nI (k + 1))), (3, .long (lan (fun j => !exB (fun w => dom.testBit w && !q5 (up (fun v => vl vo v j) y w)) (k + 1)))), (2, .int (oI (vo y))), (0, .ref b2), (1, .ref a)]) (st' := []) rfl (by rw [ev_n (p := fun j k => q5 (up (fun v => vl vo v j) y k)) hkb]) rfl ?_
          exact ih (k + 1) vx (by omega) hL1
        · skip
          have hkb := bit_yes hd (by omega) c_39
          refine z_aload_n X dX2_everyValue_42 rfl (j := 3) rfl ?_
          refine z_getO X (ci := 2) (C := RX2) (T := TX2) (N := 3) inX2 hL rfl 1 (by decide) fl_X2_18 (fun _ h9 => h9) rfl dX2_everyValue_43 ?_
          refine z_aload_n X dX2_everyValue_46 rfl (j := 4) rfl ?_
          refine z_getO X (ci := 1) (C := RX1) (T := TX1) (N := 13) inX1 hF rfl 5 (by decide) fl_X2_102 (fun _ h9 => h9) rfl dX2_everyValue_47 ?_
          refine z_iload X dX2_everyValue_50 (j := 0) rfl ?_
          refine z_iastW X 0 rfl (vp_in_nI (by omega) (by decide)) (ws' := [(gv, .inl (cy 0, 6, .inl (vA (up vo y (some k)))))]) (by rw [upd_vA' (show y < 2 ^ 31 by omega), up_up hL1]; rfl) dX2_everyValue_52 ?_
          refine z_lload_n X dX2_everyValue_53 rfl (j := 1) rfl ?_
          refine z_aload_n X dX2_everyValue_54 rfl (j := 3) rfl ?_
          refine z_aload_n X dX2_everyValue_55 rfl (j := 4) rfl ?_
          refine z_getO X (ci := 1) (C := RX1) (T := TX1) (N := 13) inX1 hF rfl 3 (by decide) fl_X2_93 (fun _ h9 => h9) rfl dX2_everyValue_56 ?_
          refine z_retl X (as := [.ref b2, .ref a5]) (wc := [(gv, .inl (cy 0, 6, .inl (vA (up vo y (some k)))))]) (wr := []) (rest := [.long (lan (fun j => !exB (fun w => dom.testBit w && !q5 (up (fun v => vl vo v j) y w)) k))]) (fun H9 locs9 ls9 hP9 hS9 hl9 hb9 hp9 => va_runV (As := [.ref a5]) (rest := [.long (lan (fun j => !exB (fun w => dom.testBit w && !q5 (up (fun v => vl vo v j) y w)) k))]) X.fix (hA5 (up vo y (some k)) (show vno _ from ⟨by rw [up, if_neg (by omega)]; exact h0.1, by rw [up, if_neg (by omega)]; exact h0.2⟩) (hasgk k (by omega)) H9.size) (cwV 1 X.hts (gV ml_X2_48 im_X2_holding se_X2_holding ni_X2 cd_X2_holding) rfl rfl rfl (by decide +kernel) ⟨Nat.le_refl _, by show 8 + (4 + 11) + lo ≤ lo + 23; omega⟩) ⟨hb9, z_recvO X (ci := 2) (r := (RX2, TX2, 3)) hL rfl hS9, hp9⟩ rfl rfl hl9.1 rfl (lv_room (Nat.le_of_ble_eq_true rfl)) dX2_everyValue_59 ⟨Nat.le_of_ble_eq_true rfl, Nat.le_of_ble_eq_true rfl⟩) [0] [] rfl rfl rfl rfl rfl (by decide) (fun _ h => Or.inl h) (fun r4 w5 h6 => ?_)
          obtain ⟨rfl, rfl⟩ := h6
          refine z_eq (ws' := [(gv, .inl (cy 0, 6, .inl (vA (up vo y (some k)))))]) (lv' := [(5, .int (nI k)), (3, .long (lan (fun j => !exB (fun w => dom.testBit w && !q5 (up (fun v => vl vo v j) y w)) k))), (2, .int (oI (vo y))), (0, .ref b2), (1, .ref a)]) (st' := [.long (lan (fun j => q5 (fun v => vl (up vo y (some k)) v j))), .long (lan (fun j => !exB (fun w => dom.testBit w && !q5 (up (fun v => vl vo v j) y w)) k))]) rfl rfl rfl ?_
          refine z_widen (k' := 0) (n' := 0) (Nat.le_refl _) (Nat.le_refl _) ?_
          refine z_land X (v := (lan (fun j => !exB (fun w => dom.testBit w && !q5 (up (fun v => vl vo v j) y w)) (k + 1)))) dX2_everyValue_62 (by rw [← ev_s (p := fun j k => q5 (up (fun v => vl vo v j) y k)) hkb, show (lan fun j => q5 (fun v => vl (up vo y (some k)) v j)) = lan (fun j => q5 (up (fun v => vl vo v j) y k)) from lan_ext fun j _ => by rw [vl_up vo hy]]) ?_
          refine z_lstore_n X (lv' := [(3, .long (lan (fun j => !exB (fun w => dom.testBit w && !q5 (up (fun v => vl vo v j) y w)) (k + 1)))), (5, .int (nI k)), (2, .int (oI (vo y))), (0, .ref b2), (1, .ref a)]) dX2_everyValue_63 rfl (by decide) rfl ?_
          refine z_iinc X (j := 1) (v := (nI (k + 1))) (lv' := [(5, .int (nI (k + 1))), (3, .long (lan (fun j => !exB (fun w => dom.testBit w && !q5 (up (fun v => vl vo v j) y w)) (k + 1)))), (2, .int (oI (vo y))), (0, .ref b2), (1, .ref a)]) dX2_everyValue_64 rfl (nI_1 k) (by decide) rfl ?_
          refine z_goto X (tgt := 17) dX2_everyValue_67 (by decide) ?_
          refine z_eq (ws' := [(gv, .inl (cy 0, 6, .inl (vA (up vo y (some k)))))]) (lv' := [(5, .int (nI (k + 1))), (3, .long (lan (fun j => !exB (fun w => dom.testBit w && !q5 (up (fun v => vl vo v j) y w)) (k + 1)))), (2, .int (oI (vo y))), (0, .ref b2), (1, .ref a)]) (st' := []) rfl rfl rfl ?_
          exact ih (k + 1) (up vo y (some k)) (by omega) (fun u hu => by simp [up, hu])
  refine z_aload_n X dX2_everyValue_0 rfl (j := 0) rfl ?_
  refine z_getO X (ci := 2) (C := RX2) (T := TX2) (N := 3) inX2 hL rfl 1 (by decide) fl_X2_18 (fun _ h9 => h9) rfl dX2_everyValue_1 ?_
  refine z_aload_n X dX2_everyValue_4 rfl (j := 1) rfl ?_
  refine z_getO X (ci := 1) (C := RX1) (T := TX1) (N := 13) inX1 hF rfl 5 (by decide) fl_X2_102 (fun _ h9 => h9) rfl dX2_everyValue_5 ?_
  refine z_ialdW X 0 rfl (v := (oI (vo y))) (vp_in_nI (by omega) (by decide)) (vA_at (by omega) rfl) dX2_everyValue_8 ?_
  refine z_istore_n X (lv' := [(2, .int (oI (vo y))), (0, .ref b2), (1, .ref a)]) dX2_everyValue_9 rfl (by decide) rfl ?_
  refine z_ldc2 X kc_X2_97 dX2_everyValue_10 ?_
  refine z_lstore_n X (lv' := [(3, .long (-1)), (2, .int (oI (vo y))), (0, .ref b2), (1, .ref a)]) dX2_everyValue_13 rfl (by decide) rfl ?_
  refine z_iconst X (v := 0) dX2_everyValue_14 (by decide) ?_
  refine z_istore X (lv' := [(5, .int 0), (3, .long (-1)), (2, .int (oI (vo y))), (0, .ref b2), (1, .ref a)]) dX2_everyValue_15 (by decide) rfl ?_
  refine z_eq (ws' := [(gv, .inl (cy 0, 6, .inl (vA vo)))]) (lv' := [(5, .int (nI 0)), (3, .long (lan (fun j => !exB (fun w => dom.testBit w && !q5 (up (fun v => vl vo v j) y w)) 0))), (2, .int (oI (vo y))), (0, .ref b2), (1, .ref a)]) (st' := []) rfl (by rw [show (lan (fun j => !exB (fun w => dom.testBit w && !q5 (up (fun v => vl vo v j) y w)) 0)) = -1 from lan_1.mpr fun j _ => by simp [exB]]; rfl) rfl ?_
  exact L 8 0 vo (by omega) (fun _ _ => rfl)
set_option maxHeartbeats 4000000 in
set_option maxRecDepth 100000 in
/-- holding of ATOM -/
theorem m_hold_0 (l : Launch) (D : va_G) (cy : Nat → ClassId) (O : Nat × va_E → Prop) {b2 gv dom fr lo : Nat} {f0 : Value} (hL : O (b2, .inr (2, [f0, .ref gv, .int (nI dom)]))) (hd : dom < 2 ^ 31) {a at_ b tm ta ar ah ak P M : Nat} {w3 w5 p2 p3 p4 : Value} {vv : Int32} {x hv kv t : Nat → Nat} {Tf : Nat → Int32} {e0 e1 e2 e3 e4 e5 e6 : Value} {vo : Nat → Option Nat} (h0 : vno vo) (hF : O (a, .inr (1, [.int 0, (.ref at_), p2, p3, p4, .int vv, e0, e1, e2, e3, e4, e5, e6]))) (hA : O (at_, .inr (0, [.ref b, .ref tm]))) (hQ : O (b, .inr (4, [.int (nI P), .ref ar, .int (nI M), w3, .ref ah, .ref ak]))) (hR : O (ar, .inl (cy 0, 25, .inl (nA x)))) (hH : O (ah, .inl (cy 0, 24, .inl (nA hv)))) (hK : O (ak, .inl (cy 0, 3, .inl (nA kv)))) (hTm : O (tm, .inr (7, [.int (nI P), .ref ta, .int (nI (vsf t P)), w5]))) (hTa : O (ta, .inl (cy 0, 3, .inl Tf))) (hP : 1 ≤ P) (hP3 : P ≤ 3) (hM : M ≤ 24) (hx9 : ∀ j, j < 25 → x j < 2 ^ 31) (hHK : HvK P M x hv kv) (ht : ∀ k, k < P → Tf k = nI (t k) ∧ isT (t k)) (hx : ∀ u, u < P → ¬ t u < 2 → ∃ x, tvo vo (t u) = some x ∧ x < 8) : Cl l yX2_holding (.code yX2_holding cX2_holding 4 (some .long) :: WALL) ({ frames := fr + 4, cells := 0, slots := 0, locals := lo + 100 }) D cy O [.ref b2, .ref a] [(gv, .inl (cy 0, 6, .inl (vA vo)))] 0 0 (fun (r : Int64) (w : va_W) => r = (lan (fun j => exB (fun i => rok P (x i) (fun u => tv (fun v => vl vo v j) (t u)) P) M)) ∧ w = [(gv, .inl (cy 0, 6, .inl (vA vo)))]) := by
  refine z_metl (by decide) rfl rfl (Nat.le_of_ble_eq_true rfl) ?_
  intro p e s m args below meth c X hr hin
  refine z_eq (ws' := [(gv, .inl (cy 0, 6, .inl (vA vo)))]) (lv' := [(0, .ref b2), (1, .ref a)]) (st' := []) rfl rfl rfl ?_
  refine z_aload_n X dX2_holding_0 rfl (j := 1) rfl ?_
  refine z_getO X (ci := 1) (C := RX1) (T := TX1) (N := 13) inX1 hF rfl 0 (by decide) fl_X2_74 (fun _ h9 => h9) rfl dX2_holding_1 ?_
  refine z_tableIn X (tgt := 44) (off := 40) dX2_holding_4 (by decide) (by decide) rfl (by decide) ?_
  refine z_aload_n X dX2_holding_44 rfl (j := 0) rfl ?_
  refine z_aload_n X dX2_holding_45 rfl (j := 1) rfl ?_
  refine z_getO X (ci := 1) (C := RX1) (T := TX1) (N := 13) inX1 hF rfl 1 (by decide) fl_X2_77 (fun _ h9 => h9) rfl dX2_holding_46 ?_
  refine z_retl X (as := [.ref b2, .ref at_]) (wc := []) (wr := [(gv, .inl (cy 0, 6, .inl (vA vo)))]) (rest := []) (fun H9 locs9 ls9 hP9 hS9 hl9 hb9 hp9 => va_runV (As := [.ref at_]) (rest := []) X.fix (m_holdingAtom l D cy (fun q => O q ∨ q ∈ ([(gv, .inl (cy 0, 6, .inl (vA vo)))] : va_W)) (Or.inl hL) (Or.inr (List.mem_of_getElem? (i := 0) rfl)) (Or.inl hA) (Or.inl hQ) (Or.inl hR) (Or.inl hH) (Or.inl hK) (Or.inl hTm) (Or.inl hTa) hP hP3 hM hx9 hHK ht h0 hx H9.size) (cwV 1 X.hts (gV ml_X2_81 im_X2_holdingAtom se_X2_holdingAtom ni_X2 cd_X2_holdingAtom) rfl rfl rfl (by decide +kernel) ⟨by show 2 + 1 ≤ fr + 4; omega, by show 8 + (7 + 11) + 47 ≤ lo + 100; omega⟩) ⟨hb9, z_recvO X (ci := 2) (r := (RX2, TX2, 3)) hL rfl hS9, hp9⟩ rfl rfl hl9.1 rfl (lv_room (Nat.le_of_ble_eq_true rfl)) dX2_holding_49 ⟨Nat.le_of_ble_eq_true rfl, Nat.le_of_ble_eq_true rfl⟩) [] [0] rfl rfl rfl rfl rfl (by decide) (fun q h => h) (fun r1 w2 h3 => ?_)
  obtain ⟨rfl, rfl⟩ := h3
  rw [show (lan (fun j => exB (fun i => rok P (x i) (fun u => tvl vo (t u) j) P) M)) = (lan (fun j => exB (fun i => rok P (x i) (fun u => tv (fun v => vl vo v j) (t u)) P) M)) from lan_ext fun j _ => exB_ext fun i _ => rok_ext fun u _ => tvl_tv]
  refine z_eq (ws' := [(gv, .inl (cy 0, 6, .inl (vA vo)))]) (lv' := [(0, .ref b2), (1, .ref a)]) (st' := [.long (lan (fun j => exB (fun i => rok P (x i) (fun u => tv (fun v => vl vo v j) (t u)) P) M))]) rfl rfl rfl ?_
  refine z_widen (k' := 0) (n' := 0) (Nat.le_refl _) (Nat.le_refl _) ?_
  exact z_endl X hr [(gv, .inl (cy 0, 6, .inl (vA vo)))] [0] rfl rfl rfl ⟨rfl, rfl⟩ dX2_holding_52
set_option maxHeartbeats 4000000 in
set_option maxRecDepth 100000 in
/-- holding of SAME -/
theorem m_hold_1 (l : Launch) (D : va_G) (cy : Nat → ClassId) (O : Nat × va_E → Prop) {b2 gv dom fr lo : Nat} {f0 : Value} (hL : O (b2, .inr (2, [f0, .ref gv, .int (nI dom)]))) (hd : dom < 2 ^ 31) {a tm ta : Nat} {v0 v2 v3 p1 p3 p4 : Value} {vv : Int32} {t : Nat → Nat} {Tf : Nat → Int32} {e0 e1 e2 e3 e4 e5 e6 : Value} {vo : Nat → Option Nat} (h0 : vno vo) (hF : O (a, .inr (1, [.int 1, p1, (.ref tm), p3, p4, .int vv, e0, e1, e2, e3, e4, e5, e6]))) (hTm : O (tm, .inr (7, [v0, .ref ta, v2, v3]))) (hTa : O (ta, .inl (cy 0, 3, .inl Tf))) (ht : ∀ k, k < 2 → Tf k = nI (t k) ∧ isT (t k)) (hx : ∀ k, k < 2 → ¬ t k < 2 → ∃ x, tvo vo (t k) = some x ∧ x < 8) : Cl l yX2_holding (.code yX2_holding cX2_holding 4 (some .long) :: WALL) ({ frames := fr + 4, cells := 0, slots := 0, locals := lo + 100 }) D cy O [.ref b2, .ref a] [(gv, .inl (cy 0, 6, .inl (vA vo)))] 0 0 (fun (r : Int64) (w : va_W) => r = (lan (fun j => decide (tv (fun v => vl vo v j) (t 0) = tv (fun v => vl vo v j) (t 1)))) ∧ w = [(gv, .inl (cy 0, 6, .inl (vA vo)))]) := by
  refine z_metl (by decide) rfl rfl (Nat.le_of_ble_eq_true rfl) ?_
  intro p e s m args below meth c X hr hin
  refine z_eq (ws' := [(gv, .inl (cy 0, 6, .inl (vA vo)))]) (lv' := [(0, .ref b2), (1, .ref a)]) (st' := []) rfl rfl rfl ?_
  refine z_aload_n X dX2_holding_0 rfl (j := 1) rfl ?_
  refine z_getO X (ci := 1) (C := RX1) (T := TX1) (N := 13) inX1 hF rfl 0 (by decide) fl_X2_74 (fun _ h9 => h9) rfl dX2_holding_1 ?_
  refine z_tableIn X (tgt := 53) (off := 49) dX2_holding_4 (by decide) (by decide) rfl (by decide) ?_
  refine z_aload_n X dX2_holding_53 rfl (j := 0) rfl ?_
  refine z_aload_n X dX2_holding_54 rfl (j := 1) rfl ?_
  refine z_getO X (ci := 1) (C := RX1) (T := TX1) (N := 13) inX1 hF rfl 2 (by decide) fl_X2_85 (fun _ h9 => h9) rfl dX2_holding_55 ?_
  refine z_retl X (as := [.ref b2, .ref tm]) (wc := []) (wr := [(gv, .inl (cy 0, 6, .inl (vA vo)))]) (rest := []) (fun H9 locs9 ls9 hP9 hS9 hl9 hb9 hp9 => va_runV (As := [.ref tm]) (rest := []) X.fix (m_holdingSame l D cy (fun q => O q ∨ q ∈ ([(gv, .inl (cy 0, 6, .inl (vA vo)))] : va_W)) (Or.inl hL) (Or.inr (List.mem_of_getElem? (i := 0) rfl)) (Or.inl hTm) (Or.inl hTa) ht hx H9.size) (cwV 1 X.hts (gV ml_X2_89 im_X2_holdingSame se_X2_holdingSame ni_X2 cd_X2_holdingSame) rfl rfl rfl (by decide +kernel) ⟨by show 2 + 1 ≤ fr + 4; omega, by show 8 + (5 + 11) + 45 ≤ lo + 100; omega⟩) ⟨hb9, z_recvO X (ci := 2) (r := (RX2, TX2, 3)) hL rfl hS9, hp9⟩ rfl rfl hl9.1 rfl (lv_room (Nat.le_of_ble_eq_true rfl)) dX2_holding_58 ⟨Nat.le_of_ble_eq_true rfl, Nat.le_of_ble_eq_true rfl⟩) [] [0] rfl rfl rfl rfl rfl (by decide) (fun q h => h) (fun r1 w2 h3 => ?_)
  obtain ⟨rfl, rfl⟩ := h3
  rw [show (lan (fun j => decide (tvl vo (t 0) j = tvl vo (t 1) j))) = (lan (fun j => decide (tv (fun v => vl vo v j) (t 0) = tv (fun v => vl vo v j) (t 1)))) from lan_ext fun j _ => by rw [tvl_tv, tvl_tv]]
  refine z_eq (ws' := [(gv, .inl (cy 0, 6, .inl (vA vo)))]) (lv' := [(0, .ref b2), (1, .ref a)]) (st' := [.long (lan (fun j => decide (tv (fun v => vl vo v j) (t 0) = tv (fun v => vl vo v j) (t 1))))]) rfl rfl rfl ?_
  refine z_widen (k' := 0) (n' := 0) (Nat.le_refl _) (Nat.le_refl _) ?_
  exact z_endl X hr [(gv, .inl (cy 0, 6, .inl (vA vo)))] [0] rfl rfl rfl ⟨rfl, rfl⟩ dX2_holding_61
set_option maxHeartbeats 4000000 in
set_option maxRecDepth 100000 in
/-- holding of NOT -/
theorem m_hold_2 (l : Launch) (D : va_G) (cy : Nat → ClassId) (O : Nat × va_E → Prop) {b2 gv dom fr lo : Nat} {f0 : Value} (hL : O (b2, .inr (2, [f0, .ref gv, .int (nI dom)]))) (hd : dom < 2 ^ 31) {a a5 S5 : Nat} {q5 : (Nat → Nat) → Bool} {p1 p2 p4 : Value} {vv : Int32} {e0 e1 e2 e3 e4 e5 e6 : Value} {vo : Nat → Option Nat} (h0 : vno vo) (hF : O (a, .inr (1, [.int 2, p1, p2, .ref a5, p4, .int vv, e0, e1, e2, e3, e4, e5, e6]))) (hA5 : ∀ vo, vno vo → asg vo S5 → Cl l yX2_holding (.code yX2_holding cX2_holding 4 (some .long) :: WALL) { frames := fr, cells := 0, slots := 0, locals := lo } D cy O [.ref b2, .ref a5] [(gv, .inl (cy 0, 6, .inl (vA vo)))] 0 0 (fun (r : Int64) (w : va_W) => r = lan (fun j => q5 (fun v => vl vo v j)) ∧ w = [(gv, .inl (cy 0, 6, .inl (vA vo)))])) (hs5 : asg vo S5) : Cl l yX2_holding (.code yX2_holding cX2_holding 4 (some .long) :: WALL) ({ frames := fr + 4, cells := 0, slots := 0, locals := lo + 100 }) D cy O [.ref b2, .ref a] [(gv, .inl (cy 0, 6, .inl (vA vo)))] 0 0 (fun (r : Int64) (w : va_W) => r = (lan (fun j => !q5 (fun v => vl vo v j))) ∧ w = [(gv, .inl (cy 0, 6, .inl (vA vo)))]) := by
  refine z_metl (by decide) rfl rfl (Nat.le_of_ble_eq_true rfl) ?_
  intro p e s m args below meth c X hr hin
  refine z_eq (ws' := [(gv, .inl (cy 0, 6, .inl (vA vo)))]) (lv' := [(0, .ref b2), (1, .ref a)]) (st' := []) rfl rfl rfl ?_
  refine z_aload_n X dX2_holding_0 rfl (j := 1) rfl ?_
  refine z_getO X (ci := 1) (C := RX1) (T := TX1) (N := 13) inX1 hF rfl 0 (by decide) fl_X2_74 (fun _ h9 => h9) rfl dX2_holding_1 ?_
  refine z_tableIn X (tgt := 62) (off := 58) dX2_holding_4 (by decide) (by decide) rfl (by decide) ?_
  refine z_aload_n X dX2_holding_62 rfl (j := 0) rfl ?_
  refine z_aload_n X dX2_holding_63 rfl (j := 1) rfl ?_
  refine z_getO X (ci := 1) (C := RX1) (T := TX1) (N := 13) inX1 hF rfl 3 (by decide) fl_X2_93 (fun _ h9 => h9) rfl dX2_holding_64 ?_
  refine z_retl X (as := [.ref b2, .ref a5]) (wc := [(gv, .inl (cy 0, 6, .inl (vA vo)))]) (wr := []) (rest := []) (fun H9 locs9 ls9 hP9 hS9 hl9 hb9 hp9 => va_runV (As := [.ref a5]) (rest := []) X.fix (hA5 vo h0 hs5 H9.size) (cwV 1 X.hts (gV ml_X2_48 im_X2_holding se_X2_holding ni_X2 cd_X2_holding) rfl rfl rfl (by decide +kernel) ⟨by show fr + 1 ≤ fr + 4; omega, by show 8 + (4 + 11) + lo ≤ lo + 100; omega⟩) ⟨hb9, z_recvO X (ci := 2) (r := (RX2, TX2, 3)) hL rfl hS9, hp9⟩ rfl rfl hl9.1 rfl (lv_room (Nat.le_of_ble_eq_true rfl)) dX2_holding_67 ⟨Nat.le_of_ble_eq_true rfl, Nat.le_of_ble_eq_true rfl⟩) [0] [] rfl rfl rfl rfl rfl (by decide) (fun _ h => Or.inl h) (fun r1 w2 h3 => ?_)
  obtain ⟨rfl, rfl⟩ := h3
  refine z_eq (ws' := [(gv, .inl (cy 0, 6, .inl (vA vo)))]) (lv' := [(0, .ref b2), (1, .ref a)]) (st' := [.long (lan (fun j => q5 (fun v => vl vo v j)))]) rfl rfl rfl ?_
  refine z_widen (k' := 0) (n' := 0) (Nat.le_refl _) (Nat.le_refl _) ?_
  refine z_ldc2 X kc_X2_97 dX2_holding_70 ?_
  refine z_lxor X (v := (lan (fun j => !q5 (fun v => vl vo v j)))) dX2_holding_73 (lan_xor _) ?_
  exact z_endl X hr [(gv, .inl (cy 0, 6, .inl (vA vo)))] [0] rfl rfl rfl ⟨rfl, rfl⟩ dX2_holding_74
set_option maxHeartbeats 4000000 in
set_option maxRecDepth 100000 in
/-- holding of BOTH -/
theorem m_hold_3 (l : Launch) (D : va_G) (cy : Nat → ClassId) (O : Nat × va_E → Prop) {b2 gv dom fr lo : Nat} {f0 : Value} (hL : O (b2, .inr (2, [f0, .ref gv, .int (nI dom)]))) (hd : dom < 2 ^ 31) {a a5 S5 a6 S6 : Nat} {q6 : (Nat → Nat) → Bool} {q5 : (Nat → Nat) → Bool} {p1 p2 p4 : Value} {vv : Int32} {e0 e1 e2 e3 e4 e5 e6 : Value} {vo : Nat → Option Nat} (h0 : vno vo) (hF : O (a, .inr (1, [.int 3, p1, p2, .ref a5, .ref a6, .int vv, e0, e1, e2, e3, e4, e5, e6]))) (hA5 : ∀ vo, vno vo → asg vo S5 → Cl l yX2_holding (.code yX2_holding cX2_holding 4 (some .long) :: WALL) { frames := fr, cells := 0, slots := 0, locals := lo } D cy O [.ref b2, .ref a5] [(gv, .inl (cy 0, 6, .inl (vA vo)))] 0 0 (fun (r : Int64) (w : va_W) => r = lan (fun j => q5 (fun v => vl vo v j)) ∧ w = [(gv, .inl (cy 0, 6, .inl (vA vo)))])) (hA6 : ∀ vo, vno vo → asg vo S6 → Cl l yX2_holding (.code yX2_holding cX2_holding 4 (some .long) :: WALL) { frames := fr, cells := 0, slots := 0, locals := lo } D cy O [.ref b2, .ref a6] [(gv, .inl (cy 0, 6, .inl (vA vo)))] 0 0 (fun (r : Int64) (w : va_W) => r = lan (fun j => q6 (fun v => vl vo v j)) ∧ w = [(gv, .inl (cy 0, 6, .inl (vA vo)))])) (hs5 : asg vo S5) (hs6 : asg vo S6) : Cl l yX2_holding (.code yX2_holding cX2_holding 4 (some .long) :: WALL) ({ frames := fr + 4, cells := 0, slots := 0, locals := lo + 100 }) D cy O [.ref b2, .ref a] [(gv, .inl (cy 0, 6, .inl (vA vo)))] 0 0 (fun (r : Int64) (w : va_W) => r = (lan (fun j => q5 (fun v => vl vo v j) && q6 (fun v => vl vo v j))) ∧ w = [(gv, .inl (cy 0, 6, .inl (vA vo)))]) := by
  refine z_metl (by decide) rfl rfl (Nat.le_of_ble_eq_true rfl) ?_
  intro p e s m args below meth c X hr hin
  refine z_eq (ws' := [(gv, .inl (cy 0, 6, .inl (vA vo)))]) (lv' := [(0, .ref b2), (1, .ref a)]) (st' := []) rfl rfl rfl ?_
  refine z_aload_n X dX2_holding_0 rfl (j := 1) rfl ?_
  refine z_getO X (ci := 1) (C := RX1) (T := TX1) (N := 13) inX1 hF rfl 0 (by decide) fl_X2_74 (fun _ h9 => h9) rfl dX2_holding_1 ?_
  refine z_tableIn X (tgt := 75) (off := 71) dX2_holding_4 (by decide) (by decide) rfl (by decide) ?_
  refine z_aload_n X dX2_holding_75 rfl (j := 0) rfl ?_
  refine z_aload_n X dX2_holding_76 rfl (j := 1) rfl ?_
  refine z_getO X (ci := 1) (C := RX1) (T := TX1) (N := 13) inX1 hF rfl 3 (by decide) fl_X2_93 (fun _ h9 => h9) rfl dX2_holding_77 ?_
  refine z_retl X (as := [.ref b2, .ref a5]) (wc := [(gv, .inl (cy 0, 6, .inl (vA vo)))]) (wr := []) (rest := []) (fun H9 locs9 ls9 hP9 hS9 hl9 hb9 hp9 => va_runV (As := [.ref a5]) (rest := []) X.fix (hA5 vo h0 hs5 H9.size) (cwV 1 X.hts (gV ml_X2_48 im_X2_holding se_X2_holding ni_X2 cd_X2_holding) rfl rfl rfl (by decide +kernel) ⟨by show fr + 1 ≤ fr + 4; omega, by show 8 + (4 + 11) + lo ≤ lo + 100; omega⟩) ⟨hb9, z_recvO X (ci := 2) (r := (RX2, TX2, 3)) hL rfl hS9, hp9⟩ rfl rfl hl9.1 rfl (lv_room (Nat.le_of_ble_eq_true rfl)) dX2_holding_80 ⟨Nat.le_of_ble_eq_true rfl, Nat.le_of_ble_eq_true rfl⟩) [0] [] rfl rfl rfl rfl rfl (by decide) (fun _ h => Or.inl h) (fun r1 w2 h3 => ?_)
  obtain ⟨rfl, rfl⟩ := h3
  refine z_eq (ws' := [(gv, .inl (cy 0, 6, .inl (vA vo)))]) (lv' := [(0, .ref b2), (1, .ref a)]) (st' := [.long (lan (fun j => q5 (fun v => vl vo v j)))]) rfl rfl rfl ?_
  refine z_widen (k' := 0) (n' := 0) (Nat.le_refl _) (Nat.le_refl _) ?_
  refine z_lstore_n X (lv' := [(2, .long (lan (fun j => q5 (fun v => vl vo v j)))), (0, .ref b2), (1, .ref a)]) dX2_holding_83 rfl (by decide) rfl ?_
  refine z_lload_n X dX2_holding_84 rfl (j := 0) rfl ?_
  refine z_lconst X (v := 0) dX2_holding_85 (by decide) ?_
  refine z_lcmp X (v := (lg_cmp (lan (fun j => q5 (fun v => vl vo v j))) 0)) dX2_holding_86 rfl ?_
  refine z_if_ne X (tgt := 94) dX2_holding_87 (by decide) (fun c_87 => ?_) (fun c_87 => ?_)
  · skip
    refine z_lload_n X dX2_holding_94 rfl (j := 0) rfl ?_
    refine z_aload_n X dX2_holding_95 rfl (j := 1) rfl ?_
    refine z_aload_n X dX2_holding_96 rfl (j := 2) rfl ?_
    refine z_getO X (ci := 1) (C := RX1) (T := TX1) (N := 13) inX1 hF rfl 4 (by decide) fl_X2_99 (fun _ h9 => h9) rfl dX2_holding_97 ?_
    refine z_retl X (as := [.ref b2, .ref a6]) (wc := [(gv, .inl (cy 0, 6, .inl (vA vo)))]) (wr := []) (rest := [.long (lan (fun j => q5 (fun v => vl vo v j)))]) (fun H9 locs9 ls9 hP9 hS9 hl9 hb9 hp9 => va_runV (As := [.ref a6]) (rest := [.long (lan (fun j => q5 (fun v => vl vo v j)))]) X.fix (hA6 vo h0 hs6 H9.size) (cwV 1 X.hts (gV ml_X2_48 im_X2_holding se_X2_holding ni_X2 cd_X2_holding) rfl rfl rfl (by decide +kernel) ⟨by show fr + 1 ≤ fr + 4; omega, by show 8 + (4 + 11) + lo ≤ lo + 100; omega⟩) ⟨hb9, z_recvO X (ci := 2) (r := (RX2, TX2, 3)) hL rfl hS9, hp9⟩ rfl rfl hl9.1 rfl (lv_room (Nat.le_of_ble_eq_true rfl)) dX2_holding_100 ⟨Nat.le_of_ble_eq_true rfl, Nat.le_of_ble_eq_true rfl⟩) [0] [] rfl rfl rfl rfl rfl (by decide) (fun _ h => Or.inl h) (fun r4 w5 h6 => ?_)
    obtain ⟨rfl, rfl⟩ := h6
    refine z_eq (ws' := [(gv, .inl (cy 0, 6, .inl (vA vo)))]) (lv' := [(2, .long (lan (fun j => q5 (fun v => vl vo v j)))), (0, .ref b2), (1, .ref a)]) (st' := [.long (lan (fun j => q6 (fun v => vl vo v j))), .long (lan (fun j => q5 (fun v => vl vo v j)))]) rfl rfl rfl ?_
    refine z_widen (k' := 0) (n' := 0) (Nat.le_refl _) (Nat.le_refl _) ?_
    refine z_land X (v := (lan (fun j => q5 (fun v => vl vo v j) && q6 (fun v => vl vo v j)))) dX2_holding_103 (lan_and _ _) ?_
    exact z_endl X hr [(gv, .inl (cy 0, 6, .inl (vA vo)))] [0] rfl rfl rfl ⟨rfl, rfl⟩ dX2_holding_104
  · skip
    refine z_lload_n X dX2_holding_90 rfl (j := 0) rfl ?_
    refine z_goto X (tgt := 104) dX2_holding_91 (by decide) ?_
    have e9 : (lan (fun j => q5 (fun v => vl vo v j))) = (lan (fun j => q5 (fun v => vl vo v j) && q6 (fun v => vl vo v j))) := by refine lan_ext fun j hj => ?_; rw [lan_0.mp (lg_eq c_87) j hj]; rfl
    refine z_eq (ws' := [(gv, .inl (cy 0, 6, .inl (vA vo)))]) (lv' := [(2, .long (lan (fun j => q5 (fun v => vl vo v j)))), (0, .ref b2), (1, .ref a)]) (st' := [.long (lan (fun j => q5 (fun v => vl vo v j) && q6 (fun v => vl vo v j)))]) rfl rfl (by rw [e9]) ?_
    exact z_endl X hr [(gv, .inl (cy 0, 6, .inl (vA vo)))] [0] rfl rfl rfl ⟨rfl, rfl⟩ dX2_holding_104
set_option maxHeartbeats 4000000 in
set_option maxRecDepth 100000 in
/-- holding of EITHER -/
theorem m_hold_4 (l : Launch) (D : va_G) (cy : Nat → ClassId) (O : Nat × va_E → Prop) {b2 gv dom fr lo : Nat} {f0 : Value} (hL : O (b2, .inr (2, [f0, .ref gv, .int (nI dom)]))) (hd : dom < 2 ^ 31) {a a5 S5 a6 S6 : Nat} {q6 : (Nat → Nat) → Bool} {q5 : (Nat → Nat) → Bool} {p1 p2 p4 : Value} {vv : Int32} {e0 e1 e2 e3 e4 e5 e6 : Value} {vo : Nat → Option Nat} (h0 : vno vo) (hF : O (a, .inr (1, [.int 4, p1, p2, .ref a5, .ref a6, .int vv, e0, e1, e2, e3, e4, e5, e6]))) (hA5 : ∀ vo, vno vo → asg vo S5 → Cl l yX2_holding (.code yX2_holding cX2_holding 4 (some .long) :: WALL) { frames := fr, cells := 0, slots := 0, locals := lo } D cy O [.ref b2, .ref a5] [(gv, .inl (cy 0, 6, .inl (vA vo)))] 0 0 (fun (r : Int64) (w : va_W) => r = lan (fun j => q5 (fun v => vl vo v j)) ∧ w = [(gv, .inl (cy 0, 6, .inl (vA vo)))])) (hA6 : ∀ vo, vno vo → asg vo S6 → Cl l yX2_holding (.code yX2_holding cX2_holding 4 (some .long) :: WALL) { frames := fr, cells := 0, slots := 0, locals := lo } D cy O [.ref b2, .ref a6] [(gv, .inl (cy 0, 6, .inl (vA vo)))] 0 0 (fun (r : Int64) (w : va_W) => r = lan (fun j => q6 (fun v => vl vo v j)) ∧ w = [(gv, .inl (cy 0, 6, .inl (vA vo)))])) (hs5 : asg vo S5) (hs6 : asg vo S6) : Cl l yX2_holding (.code yX2_holding cX2_holding 4 (some .long) :: WALL) ({ frames := fr + 4, cells := 0, slots := 0, locals := lo + 100 }) D cy O [.ref b2, .ref a] [(gv, .inl (cy 0, 6, .inl (vA vo)))] 0 0 (fun (r : Int64) (w : va_W) => r = (lan (fun j => q5 (fun v => vl vo v j) || q6 (fun v => vl vo v j))) ∧ w = [(gv, .inl (cy 0, 6, .inl (vA vo)))]) := by
  refine z_metl (by decide) rfl rfl (Nat.le_of_ble_eq_true rfl) ?_
  intro p e s m args below meth c X hr hin
  refine z_eq (ws' := [(gv, .inl (cy 0, 6, .inl (vA vo)))]) (lv' := [(0, .ref b2), (1, .ref a)]) (st' := []) rfl rfl rfl ?_
  refine z_aload_n X dX2_holding_0 rfl (j := 1) rfl ?_
  refine z_getO X (ci := 1) (C := RX1) (T := TX1) (N := 13) inX1 hF rfl 0 (by decide) fl_X2_74 (fun _ h9 => h9) rfl dX2_holding_1 ?_
  refine z_tableIn X (tgt := 105) (off := 101) dX2_holding_4 (by decide) (by decide) rfl (by decide) ?_
  refine z_aload_n X dX2_holding_105 rfl (j := 0) rfl ?_
  refine z_aload_n X dX2_holding_106 rfl (j := 1) rfl ?_
  refine z_getO X (ci := 1) (C := RX1) (T := TX1) (N := 13) inX1 hF rfl 3 (by decide) fl_X2_93 (fun _ h9 => h9) rfl dX2_holding_107 ?_
  refine z_retl X (as := [.ref b2, .ref a5]) (wc := [(gv, .inl (cy 0, 6, .inl (vA vo)))]) (wr := []) (rest := []) (fun H9 locs9 ls9 hP9 hS9 hl9 hb9 hp9 => va_runV (As := [.ref a5]) (rest := []) X.fix (hA5 vo h0 hs5 H9.size) (cwV 1 X.hts (gV ml_X2_48 im_X2_holding se_X2_holding ni_X2 cd_X2_holding) rfl rfl rfl (by decide +kernel) ⟨by show fr + 1 ≤ fr + 4; omega, by show 8 + (4 + 11) + lo ≤ lo + 100; omega⟩) ⟨hb9, z_recvO X (ci := 2) (r := (RX2, TX2, 3)) hL rfl hS9, hp9⟩ rfl rfl hl9.1 rfl (lv_room (Nat.le_of_ble_eq_true rfl)) dX2_holding_110 ⟨Nat.le_of_ble_eq_true rfl, Nat.le_of_ble_eq_true rfl⟩) [0] [] rfl rfl rfl rfl rfl (by decide) (fun _ h => Or.inl h) (fun r1 w2 h3 => ?_)
  obtain ⟨rfl, rfl⟩ := h3
  refine z_eq (ws' := [(gv, .inl (cy 0, 6, .inl (vA vo)))]) (lv' := [(0, .ref b2), (1, .ref a)]) (st' := [.long (lan (fun j => q5 (fun v => vl vo v j)))]) rfl rfl rfl ?_
  refine z_widen (k' := 0) (n' := 0) (Nat.le_refl _) (Nat.le_refl _) ?_
  refine z_lstore_n X (lv' := [(2, .long (lan (fun j => q5 (fun v => vl vo v j)))), (0, .ref b2), (1, .ref a)]) dX2_holding_113 rfl (by decide) rfl ?_
  refine z_lload_n X dX2_holding_114 rfl (j := 0) rfl ?_
  refine z_ldc2 X kc_X2_97 dX2_holding_115 ?_
  refine z_lcmp X (v := (lg_cmp (lan (fun j => q5 (fun v => vl vo v j))) (-1))) dX2_holding_118 rfl ?_
  refine z_if_ne X (tgt := 126) dX2_holding_119 (by decide) (fun c_119 => ?_) (fun c_119 => ?_)
  · skip
    refine z_lload_n X dX2_holding_126 rfl (j := 0) rfl ?_
    refine z_aload_n X dX2_holding_127 rfl (j := 1) rfl ?_
    refine z_aload_n X dX2_holding_128 rfl (j := 2) rfl ?_
    refine z_getO X (ci := 1) (C := RX1) (T := TX1) (N := 13) inX1 hF rfl 4 (by decide) fl_X2_99 (fun _ h9 => h9) rfl dX2_holding_129 ?_
    refine z_retl X (as := [.ref b2, .ref a6]) (wc := [(gv, .inl (cy 0, 6, .inl (vA vo)))]) (wr := []) (rest := [.long (lan (fun j => q5 (fun v => vl vo v j)))]) (fun H9 locs9 ls9 hP9 hS9 hl9 hb9 hp9 => va_runV (As := [.ref a6]) (rest := [.long (lan (fun j => q5 (fun v => vl vo v j)))]) X.fix (hA6 vo h0 hs6 H9.size) (cwV 1 X.hts (gV ml_X2_48 im_X2_holding se_X2_holding ni_X2 cd_X2_holding) rfl rfl rfl (by decide +kernel) ⟨by show fr + 1 ≤ fr + 4; omega, by show 8 + (4 + 11) + lo ≤ lo + 100; omega⟩) ⟨hb9, z_recvO X (ci := 2) (r := (RX2, TX2, 3)) hL rfl hS9, hp9⟩ rfl rfl hl9.1 rfl (lv_room (Nat.le_of_ble_eq_true rfl)) dX2_holding_132 ⟨Nat.le_of_ble_eq_true rfl, Nat.le_of_ble_eq_true rfl⟩) [0] [] rfl rfl rfl rfl rfl (by decide) (fun _ h => Or.inl h) (fun r4 w5 h6 => ?_)
    obtain ⟨rfl, rfl⟩ := h6
    refine z_eq (ws' := [(gv, .inl (cy 0, 6, .inl (vA vo)))]) (lv' := [(2, .long (lan (fun j => q5 (fun v => vl vo v j)))), (0, .ref b2), (1, .ref a)]) (st' := [.long (lan (fun j => q6 (fun v => vl vo v j))), .long (lan (fun j => q5 (fun v => vl vo v j)))]) rfl rfl rfl ?_
    refine z_widen (k' := 0) (n' := 0) (Nat.le_refl _) (Nat.le_refl _) ?_
    refine z_lor X (v := (lan (fun j => q5 (fun v => vl vo v j) || q6 (fun v => vl vo v j)))) dX2_holding_135 (lan_or _ _) ?_
    exact z_endl X hr [(gv, .inl (cy 0, 6, .inl (vA vo)))] [0] rfl rfl rfl ⟨rfl, rfl⟩ dX2_holding_136
  · skip
    refine z_lload_n X dX2_holding_122 rfl (j := 0) rfl ?_
    refine z_goto X (tgt := 136) dX2_holding_123 (by decide) ?_
    have e9 : (lan (fun j => q5 (fun v => vl vo v j))) = (lan (fun j => q5 (fun v => vl vo v j) || q6 (fun v => vl vo v j))) := by refine lan_ext fun j hj => ?_; rw [lan_1.mp (lg_eq c_119) j hj]; rfl
    refine z_eq (ws' := [(gv, .inl (cy 0, 6, .inl (vA vo)))]) (lv' := [(2, .long (lan (fun j => q5 (fun v => vl vo v j)))), (0, .ref b2), (1, .ref a)]) (st' := [.long (lan (fun j => q5 (fun v => vl vo v j) || q6 (fun v => vl vo v j)))]) rfl rfl (by rw [e9]) ?_
    exact z_endl X hr [(gv, .inl (cy 0, 6, .inl (vA vo)))] [0] rfl rfl rfl ⟨rfl, rfl⟩ dX2_holding_136
set_option maxHeartbeats 4000000 in
set_option maxRecDepth 100000 in
/-- holding of SOME of the variables 0 and 1 -/
theorem m_hold_5l (l : Launch) (D : va_G) (cy : Nat → ClassId) (O : Nat × va_E → Prop) {b2 gv dom fr lo : Nat} {f0 : Value} (hL : O (b2, .inr (2, [f0, .ref gv, .int (nI dom)]))) (hd : dom < 2 ^ 31) {a a5 S5 : Nat} {q5 : (Nat → Nat) → Bool} {p1 p2 p4 : Value} {y : Nat} {e0 e1 e2 e3 e4 e5 e6 : Value} {vo : Nat → Option Nat} (h0 : vno vo) (hF : O (a, .inr (1, [.int 5, p1, p2, .ref a5, p4, .int (nI y), e0, e1, e2, e3, e4, e5, e6]))) (hA5 : ∀ vo, vno vo → asg vo S5 → Cl l yX2_holding (.code yX2_holding cX2_holding 4 (some .long) :: WALL) { frames := fr, cells := 0, slots := 0, locals := lo } D cy O [.ref b2, .ref a5] [(gv, .inl (cy 0, 6, .inl (vA vo)))] 0 0 (fun (r : Int64) (w : va_W) => r = lan (fun j => q5 (fun v => vl vo v j)) ∧ w = [(gv, .inl (cy 0, 6, .inl (vA vo)))])) (hs5 : asg vo S5) (hy : y < 2) : Cl l yX2_holding (.code yX2_holding cX2_holding 4 (some .long) :: WALL) ({ frames := fr + 4, cells := 0, slots := 0, locals := lo + 100 }) D cy O [.ref b2, .ref a] [(gv, .inl (cy 0, 6, .inl (vA vo)))] 0 0 (fun (r : Int64) (w : va_W) => r = (lan (fun j => exB (fun w => dom.testBit w && q5 (up (fun v => vl vo v j) y w)) 8)) ∧ w = [(gv, .inl (cy 0, 6, .inl (vA vo)))]) := by
  refine z_metl (by decide) rfl rfl (Nat.le_of_ble_eq_true rfl) ?_
  intro p e s m args below meth c X hr hin
  refine z_eq (ws' := [(gv, .inl (cy 0, 6, .inl (vA vo)))]) (lv' := [(0, .ref b2), (1, .ref a)]) (st' := []) rfl rfl rfl ?_
  refine z_aload_n X dX2_holding_0 rfl (j := 1) rfl ?_
  refine z_getO X (ci := 1) (C := RX1) (T := TX1) (N := 13) inX1 hF rfl 0 (by decide) fl_X2_74 (fun _ h9 => h9) rfl dX2_holding_1 ?_
  refine z_tableIn X (tgt := 137) (off := 133) dX2_holding_4 (by decide) (by decide) rfl (by decide) ?_
  refine z_aload_n X dX2_holding_137 rfl (j := 1) rfl ?_
  refine z_getO X (ci := 1) (C := RX1) (T := TX1) (N := 13) inX1 hF rfl 5 (by decide) fl_X2_102 (fun _ h9 => h9) rfl dX2_holding_138 ?_
  refine z_iconst X (v := 2) dX2_holding_141 (by decide) ?_
  refine z_icmp_ge X (tgt := 164) dX2_holding_142 (by decide) (fun c9 => absurd c9 (nI_ge (a := y) (b := 2) hy (by decide))) (fun c_142 => ?_)
  refine z_aload_n X dX2_holding_145 rfl (j := 0) rfl ?_
  refine z_aload_n X dX2_holding_146 rfl (j := 1) rfl ?_
  refine z_getO X (ci := 1) (C := RX1) (T := TX1) (N := 13) inX1 hF rfl 5 (by decide) fl_X2_102 (fun _ h9 => h9) rfl dX2_holding_147 ?_
  refine z_aload_n X dX2_holding_150 rfl (j := 0) rfl ?_
  refine z_aload_n X dX2_holding_151 rfl (j := 1) rfl ?_
  refine z_getO X (ci := 1) (C := RX1) (T := TX1) (N := 13) inX1 hF rfl 3 (by decide) fl_X2_93 (fun _ h9 => h9) rfl dX2_holding_152 ?_
  refine z_retl X (as := [.ref b2, .ref a5]) (wc := [(gv, .inl (cy 0, 6, .inl (vA vo)))]) (wr := []) (rest := [.int (nI y), .ref b2]) (fun H9 locs9 ls9 hP9 hS9 hl9 hb9 hp9 => va_runV (As := [.ref a5]) (rest := [.int (nI y), .ref b2]) X.fix (hA5 vo h0 hs5 H9.size) (cwV 1 X.hts (gV ml_X2_48 im_X2_holding se_X2_holding ni_X2 cd_X2_holding) rfl rfl rfl (by decide +kernel) ⟨by show fr + 1 ≤ fr + 4; omega, by show 8 + (4 + 11) + lo ≤ lo + 100; omega⟩) ⟨hb9, z_recvO X (ci := 2) (r := (RX2, TX2, 3)) hL rfl hS9, hp9⟩ rfl rfl hl9.1 rfl (lv_room (Nat.le_of_ble_eq_true rfl)) dX2_holding_155 ⟨Nat.le_of_ble_eq_true rfl, Nat.le_of_ble_eq_true rfl⟩) [0] [] rfl rfl rfl rfl rfl (by decide) (fun _ h => Or.inl h) (fun r1 w2 h3 => ?_)
  obtain ⟨rfl, rfl⟩ := h3
  refine z_eq (ws' := [(gv, .inl (cy 0, 6, .inl (vA vo)))]) (lv' := [(0, .ref b2), (1, .ref a)]) (st' := [.long (lan (fun j => q5 (fun v => vl vo v j))), .int (nI y), .ref b2]) rfl rfl rfl ?_
  refine z_widen (k' := 0) (n' := 0) (Nat.le_refl _) (Nat.le_refl _) ?_
  refine z_retl X (as := [.ref b2, .int (nI y), .long (lan (fun j => q5 (fun v => vl vo v j)))]) (wc := []) (wr := [(gv, .inl (cy 0, 6, .inl (vA vo)))]) (rest := []) (fun H9 locs9 ls9 hP9 hS9 hl9 hb9 hp9 => va_runV (As := [.int (nI y), .long (lan (fun j => q5 (fun v => vl vo v j)))]) (rest := []) X.fix (m_someLane l D cy O hL hd (v9 := y) hy H9.size) (cwV 2 X.hts (gV ml_X2_105 im_X2_someLane se_X2_someLane ni_X2 cd_X2_someLane) rfl rfl rfl (by decide +kernel) ⟨by show 1 + 1 ≤ fr + 4; omega, by show 8 + (7 + 11) + 21 ≤ lo + 100; omega⟩) ⟨hb9, z_recvO X (ci := 2) (r := (RX2, TX2, 3)) hL rfl hS9, hp9⟩ rfl rfl hl9.1 rfl (lv_room (Nat.le_of_ble_eq_true rfl)) dX2_holding_158 ⟨Nat.le_of_ble_eq_true rfl, Nat.le_of_ble_eq_true rfl⟩) [] [0] rfl rfl rfl rfl rfl (by decide) (fun _ h => Or.inl h) (fun r4 w5 h6 => ?_)
  obtain ⟨rfl, rfl⟩ := h6
  rw [show (lan (fun j => exB (fun w => dom.testBit w && (fun j => q5 (fun v => vl vo v j)) (sl y w j)) 8)) = (lan (fun j => exB (fun w => dom.testBit w && q5 (up (fun v => vl vo v j) y w)) 8)) from lan_ext fun j _ => exB_ext fun w hw => by rw [← vl_sl vo hy hw]]
  refine z_eq (ws' := [(gv, .inl (cy 0, 6, .inl (vA vo)))]) (lv' := [(0, .ref b2), (1, .ref a)]) (st' := [.long (lan (fun j => exB (fun w => dom.testBit w && q5 (up (fun v => vl vo v j) y w)) 8))]) rfl rfl rfl ?_
  refine z_widen (k' := 0) (n' := 0) (Nat.le_refl _) (Nat.le_refl _) ?_
  refine z_goto X (tgt := 169) dX2_holding_161 (by decide) ?_
  exact z_endl X hr [(gv, .inl (cy 0, 6, .inl (vA vo)))] [0] rfl rfl rfl ⟨rfl, rfl⟩ dX2_holding_169
set_option maxHeartbeats 4000000 in
set_option maxRecDepth 100000 in
/-- holding of SOME of another variable -/
theorem m_hold_5v (l : Launch) (D : va_G) (cy : Nat → ClassId) (O : Nat × va_E → Prop) {b2 gv dom fr lo : Nat} {f0 : Value} (hL : O (b2, .inr (2, [f0, .ref gv, .int (nI dom)]))) (hd : dom < 2 ^ 31) {a a5 S5 : Nat} {q5 : (Nat → Nat) → Bool} {p1 p2 p4 : Value} {y : Nat} {e0 e1 e2 e3 e4 e5 e6 : Value} {vo : Nat → Option Nat} (h0 : vno vo) (hF : O (a, .inr (1, [.int 5, p1, p2, .ref a5, p4, .int (nI y), e0, e1, e2, e3, e4, e5, e6]))) (hA5 : ∀ vo, vno vo → asg vo S5 → Cl l yX2_holding (.code yX2_holding cX2_holding 4 (some .long) :: WALL) { frames := fr, cells := 0, slots := 0, locals := lo } D cy O [.ref b2, .ref a5] [(gv, .inl (cy 0, 6, .inl (vA vo)))] 0 0 (fun (r : Int64) (w : va_W) => r = lan (fun j => q5 (fun v => vl vo v j)) ∧ w = [(gv, .inl (cy 0, 6, .inl (vA vo)))])) (hs : asg vo (nd S5 (2 ^ y))) (hy : 2 ≤ y) (hy6 : y < 6) : Cl l yX2_holding (.code yX2_holding cX2_holding 4 (some .long) :: WALL) ({ frames := fr + 4, cells := 0, slots := 0, locals := lo + 100 }) D cy O [.ref b2, .ref a] [(gv, .inl (cy 0, 6, .inl (vA vo)))] 0 0 (fun (r : Int64) (w : va_W) => r = (lan (fun j => exB (fun w => dom.testBit w && q5 (up (fun v => vl vo v j) y w)) 8)) ∧ w = [(gv, .inl (cy 0, 6, .inl (vA vo)))]) := by
  refine z_metl (by decide) rfl rfl (Nat.le_of_ble_eq_true rfl) ?_
  intro p e s m args below meth c X hr hin
  refine z_eq (ws' := [(gv, .inl (cy 0, 6, .inl (vA vo)))]) (lv' := [(0, .ref b2), (1, .ref a)]) (st' := []) rfl rfl rfl ?_
  refine z_aload_n X dX2_holding_0 rfl (j := 1) rfl ?_
  refine z_getO X (ci := 1) (C := RX1) (T := TX1) (N := 13) inX1 hF rfl 0 (by decide) fl_X2_74 (fun _ h9 => h9) rfl dX2_holding_1 ?_
  refine z_tableIn X (tgt := 137) (off := 133) dX2_holding_4 (by decide) (by decide) rfl (by decide) ?_
  refine z_aload_n X dX2_holding_137 rfl (j := 1) rfl ?_
  refine z_getO X (ci := 1) (C := RX1) (T := TX1) (N := 13) inX1 hF rfl 5 (by decide) fl_X2_102 (fun _ h9 => h9) rfl dX2_holding_138 ?_
  refine z_iconst X (v := 2) dX2_holding_141 (by decide) ?_
  refine z_icmp_ge X (tgt := 164) dX2_holding_142 (by decide) (fun c_142 => ?_) (fun c9 => absurd (nI_le (a := 2) (b := y) hy (by omega)) c9)
  refine z_aload_n X dX2_holding_164 rfl (j := 0) rfl ?_
  refine z_aload_n X dX2_holding_165 rfl (j := 1) rfl ?_
  refine z_retl X (as := [.ref b2, .ref a]) (wc := [(gv, .inl (cy 0, 6, .inl (vA vo)))]) (wr := []) (rest := []) (fun H9 locs9 ls9 hP9 hS9 hl9 hb9 hp9 => va_runV (As := [.ref a]) (rest := []) X.fix (m_someValue l D cy O hL hd hF hy hy6 h0 hs hA5 H9.size) (cwV 1 X.hts (gV ml_X2_109 im_X2_someValue se_X2_someValue ni_X2 cd_X2_someValue) rfl rfl rfl (by decide +kernel) ⟨by show fr + 1 + 1 ≤ fr + 4; omega, by show 8 + (6 + 11) + (lo + 23) ≤ lo + 100; omega⟩) ⟨hb9, z_recvO X (ci := 2) (r := (RX2, TX2, 3)) hL rfl hS9, hp9⟩ rfl rfl hl9.1 rfl (lv_room (Nat.le_of_ble_eq_true rfl)) dX2_holding_166 ⟨Nat.le_of_ble_eq_true rfl, Nat.le_of_ble_eq_true rfl⟩) [0] [] rfl rfl rfl rfl rfl (by decide) (fun _ h => Or.inl h) (fun r1 w2 h3 => ?_)
  obtain ⟨rfl, rfl⟩ := h3
  refine z_eq (ws' := [(gv, .inl (cy 0, 6, .inl (vA vo)))]) (lv' := [(0, .ref b2), (1, .ref a)]) (st' := [.long (lan (fun j => exB (fun w => dom.testBit w && q5 (up (fun v => vl vo v j) y w)) 8))]) rfl rfl rfl ?_
  refine z_widen (k' := 0) (n' := 0) (Nat.le_refl _) (Nat.le_refl _) ?_
  exact z_endl X hr [(gv, .inl (cy 0, 6, .inl (vA vo)))] [0] rfl rfl rfl ⟨rfl, rfl⟩ dX2_holding_169
set_option maxHeartbeats 4000000 in
set_option maxRecDepth 100000 in
/-- holding of EVERY of the variables 0 and 1 -/
theorem m_hold_6l (l : Launch) (D : va_G) (cy : Nat → ClassId) (O : Nat × va_E → Prop) {b2 gv dom fr lo : Nat} {f0 : Value} (hL : O (b2, .inr (2, [f0, .ref gv, .int (nI dom)]))) (hd : dom < 2 ^ 31) {a a5 S5 : Nat} {q5 : (Nat → Nat) → Bool} {p1 p2 p4 : Value} {y : Nat} {e0 e1 e2 e3 e4 e5 e6 : Value} {vo : Nat → Option Nat} (h0 : vno vo) (hF : O (a, .inr (1, [.int 6, p1, p2, .ref a5, p4, .int (nI y), e0, e1, e2, e3, e4, e5, e6]))) (hA5 : ∀ vo, vno vo → asg vo S5 → Cl l yX2_holding (.code yX2_holding cX2_holding 4 (some .long) :: WALL) { frames := fr, cells := 0, slots := 0, locals := lo } D cy O [.ref b2, .ref a5] [(gv, .inl (cy 0, 6, .inl (vA vo)))] 0 0 (fun (r : Int64) (w : va_W) => r = lan (fun j => q5 (fun v => vl vo v j)) ∧ w = [(gv, .inl (cy 0, 6, .inl (vA vo)))])) (hs5 : asg vo S5) (hy : y < 2) : Cl l yX2_holding (.code yX2_holding cX2_holding 4 (some .long) :: WALL) ({ frames := fr + 4, cells := 0, slots := 0, locals := lo + 100 }) D cy O [.ref b2, .ref a] [(gv, .inl (cy 0, 6, .inl (vA vo)))] 0 0 (fun (r : Int64) (w : va_W) => r = (lan (fun j => !exB (fun w => dom.testBit w && !q5 (up (fun v => vl vo v j) y w)) 8)) ∧ w = [(gv, .inl (cy 0, 6, .inl (vA vo)))]) := by
  refine z_metl (by decide) rfl rfl (Nat.le_of_ble_eq_true rfl) ?_
  intro p e s m args below meth c X hr hin
  refine z_eq (ws' := [(gv, .inl (cy 0, 6, .inl (vA vo)))]) (lv' := [(0, .ref b2), (1, .ref a)]) (st' := []) rfl rfl rfl ?_
  refine z_aload_n X dX2_holding_0 rfl (j := 1) rfl ?_
  refine z_getO X (ci := 1) (C := RX1) (T := TX1) (N := 13) inX1 hF rfl 0 (by decide) fl_X2_74 (fun _ h9 => h9) rfl dX2_holding_1 ?_
  refine z_tableOut X (tgt := 170) dX2_holding_4 (Or.inr (by decide)) (by decide) ?_
  refine z_aload_n X dX2_holding_170 rfl (j := 1) rfl ?_
  refine z_getO X (ci := 1) (C := RX1) (T := TX1) (N := 13) inX1 hF rfl 5 (by decide) fl_X2_102 (fun _ h9 => h9) rfl dX2_holding_171 ?_
  refine z_iconst X (v := 2) dX2_holding_174 (by decide) ?_
  refine z_icmp_ge X (tgt := 205) dX2_holding_175 (by decide) (fun c9 => absurd c9 (nI_ge (a := y) (b := 2) hy (by decide))) (fun c_175 => ?_)
  refine z_aload_n X dX2_holding_178 rfl (j := 0) rfl ?_
  refine z_aload_n X dX2_holding_179 rfl (j := 1) rfl ?_
  refine z_getO X (ci := 1) (C := RX1) (T := TX1) (N := 13) inX1 hF rfl 5 (by decide) fl_X2_102 (fun _ h9 => h9) rfl dX2_holding_180 ?_
  refine z_aload_n X dX2_holding_183 rfl (j := 0) rfl ?_
  refine z_aload_n X dX2_holding_184 rfl (j := 1) rfl ?_
  refine z_getO X (ci := 1) (C := RX1) (T := TX1) (N := 13) inX1 hF rfl 3 (by decide) fl_X2_93 (fun _ h9 => h9) rfl dX2_holding_185 ?_
  refine z_retl X (as := [.ref b2, .ref a5]) (wc := [(gv, .inl (cy 0, 6, .inl (vA vo)))]) (wr := []) (rest := [.int (nI y), .ref b2]) (fun H9 locs9 ls9 hP9 hS9 hl9 hb9 hp9 => va_runV (As := [.ref a5]) (rest := [.int (nI y), .ref b2]) X.fix (hA5 vo h0 hs5 H9.size) (cwV 1 X.hts (gV ml_X2_48 im_X2_holding se_X2_holding ni_X2 cd_X2_holding) rfl rfl rfl (by decide +kernel) ⟨by show fr + 1 ≤ fr + 4; omega, by show 8 + (4 + 11) + lo ≤ lo + 100; omega⟩) ⟨hb9, z_recvO X (ci := 2) (r := (RX2, TX2, 3)) hL rfl hS9, hp9⟩ rfl rfl hl9.1 rfl (lv_room (Nat.le_of_ble_eq_true rfl)) dX2_holding_188 ⟨Nat.le_of_ble_eq_true rfl, Nat.le_of_ble_eq_true rfl⟩) [0] [] rfl rfl rfl rfl rfl (by decide) (fun _ h => Or.inl h) (fun r1 w2 h3 => ?_)
  obtain ⟨rfl, rfl⟩ := h3
  refine z_eq (ws' := [(gv, .inl (cy 0, 6, .inl (vA vo)))]) (lv' := [(0, .ref b2), (1, .ref a)]) (st' := [.long (lan (fun j => q5 (fun v => vl vo v j))), .int (nI y), .ref b2]) rfl rfl rfl ?_
  refine z_widen (k' := 0) (n' := 0) (Nat.le_refl _) (Nat.le_refl _) ?_
  refine z_ldc2 X kc_X2_97 dX2_holding_191 ?_
  refine z_lxor X (v := (lan (fun j => !q5 (fun v => vl vo v j)))) dX2_holding_194 (lan_xor _) ?_
  refine z_retl X (as := [.ref b2, .int (nI y), .long (lan (fun j => !q5 (fun v => vl vo v j)))]) (wc := []) (wr := [(gv, .inl (cy 0, 6, .inl (vA vo)))]) (rest := []) (fun H9 locs9 ls9 hP9 hS9 hl9 hb9 hp9 => va_runV (As := [.int (nI y), .long (lan (fun j => !q5 (fun v => vl vo v j)))]) (rest := []) X.fix (m_someLane l D cy O hL hd (v9 := y) hy H9.size) (cwV 2 X.hts (gV ml_X2_105 im_X2_someLane se_X2_someLane ni_X2 cd_X2_someLane) rfl rfl rfl (by decide +kernel) ⟨by show 1 + 1 ≤ fr + 4; omega, by show 8 + (7 + 11) + 21 ≤ lo + 100; omega⟩) ⟨hb9, z_recvO X (ci := 2) (r := (RX2, TX2, 3)) hL rfl hS9, hp9⟩ rfl rfl hl9.1 rfl (lv_room (Nat.le_of_ble_eq_true rfl)) dX2_holding_195 ⟨Nat.le_of_ble_eq_true rfl, Nat.le_of_ble_eq_true rfl⟩) [] [0] rfl rfl rfl rfl rfl (by decide) (fun _ h => Or.inl h) (fun r4 w5 h6 => ?_)
  obtain ⟨rfl, rfl⟩ := h6
  rw [show (lan (fun j => exB (fun w => dom.testBit w && (fun j => !q5 (fun v => vl vo v j)) (sl y w j)) 8)) = (lan (fun j => exB (fun w => dom.testBit w && !q5 (up (fun v => vl vo v j) y w)) 8)) from lan_ext fun j _ => exB_ext fun w hw => by rw [← vl_sl vo hy hw]]
  refine z_eq (ws' := [(gv, .inl (cy 0, 6, .inl (vA vo)))]) (lv' := [(0, .ref b2), (1, .ref a)]) (st' := [.long (lan (fun j => exB (fun w => dom.testBit w && !q5 (up (fun v => vl vo v j) y w)) 8))]) rfl rfl rfl ?_
  refine z_widen (k' := 0) (n' := 0) (Nat.le_refl _) (Nat.le_refl _) ?_
  refine z_ldc2 X kc_X2_97 dX2_holding_198 ?_
  refine z_lxor X (v := (lan (fun j => !exB (fun w => dom.testBit w && !q5 (up (fun v => vl vo v j) y w)) 8))) dX2_holding_201 (lan_xor _) ?_
  refine z_goto X (tgt := 210) dX2_holding_202 (by decide) ?_
  exact z_endl X hr [(gv, .inl (cy 0, 6, .inl (vA vo)))] [0] rfl rfl rfl ⟨rfl, rfl⟩ dX2_holding_210
set_option maxHeartbeats 4000000 in
set_option maxRecDepth 100000 in
/-- holding of EVERY of another variable -/
theorem m_hold_6v (l : Launch) (D : va_G) (cy : Nat → ClassId) (O : Nat × va_E → Prop) {b2 gv dom fr lo : Nat} {f0 : Value} (hL : O (b2, .inr (2, [f0, .ref gv, .int (nI dom)]))) (hd : dom < 2 ^ 31) {a a5 S5 : Nat} {q5 : (Nat → Nat) → Bool} {p1 p2 p4 : Value} {y : Nat} {e0 e1 e2 e3 e4 e5 e6 : Value} {vo : Nat → Option Nat} (h0 : vno vo) (hF : O (a, .inr (1, [.int 6, p1, p2, .ref a5, p4, .int (nI y), e0, e1, e2, e3, e4, e5, e6]))) (hA5 : ∀ vo, vno vo → asg vo S5 → Cl l yX2_holding (.code yX2_holding cX2_holding 4 (some .long) :: WALL) { frames := fr, cells := 0, slots := 0, locals := lo } D cy O [.ref b2, .ref a5] [(gv, .inl (cy 0, 6, .inl (vA vo)))] 0 0 (fun (r : Int64) (w : va_W) => r = lan (fun j => q5 (fun v => vl vo v j)) ∧ w = [(gv, .inl (cy 0, 6, .inl (vA vo)))])) (hs : asg vo (nd S5 (2 ^ y))) (hy : 2 ≤ y) (hy6 : y < 6) : Cl l yX2_holding (.code yX2_holding cX2_holding 4 (some .long) :: WALL) ({ frames := fr + 4, cells := 0, slots := 0, locals := lo + 100 }) D cy O [.ref b2, .ref a] [(gv, .inl (cy 0, 6, .inl (vA vo)))] 0 0 (fun (r : Int64) (w : va_W) => r = (lan (fun j => !exB (fun w => dom.testBit w && !q5 (up (fun v => vl vo v j) y w)) 8)) ∧ w = [(gv, .inl (cy 0, 6, .inl (vA vo)))]) := by
  refine z_metl (by decide) rfl rfl (Nat.le_of_ble_eq_true rfl) ?_
  intro p e s m args below meth c X hr hin
  refine z_eq (ws' := [(gv, .inl (cy 0, 6, .inl (vA vo)))]) (lv' := [(0, .ref b2), (1, .ref a)]) (st' := []) rfl rfl rfl ?_
  refine z_aload_n X dX2_holding_0 rfl (j := 1) rfl ?_
  refine z_getO X (ci := 1) (C := RX1) (T := TX1) (N := 13) inX1 hF rfl 0 (by decide) fl_X2_74 (fun _ h9 => h9) rfl dX2_holding_1 ?_
  refine z_tableOut X (tgt := 170) dX2_holding_4 (Or.inr (by decide)) (by decide) ?_
  refine z_aload_n X dX2_holding_170 rfl (j := 1) rfl ?_
  refine z_getO X (ci := 1) (C := RX1) (T := TX1) (N := 13) inX1 hF rfl 5 (by decide) fl_X2_102 (fun _ h9 => h9) rfl dX2_holding_171 ?_
  refine z_iconst X (v := 2) dX2_holding_174 (by decide) ?_
  refine z_icmp_ge X (tgt := 205) dX2_holding_175 (by decide) (fun c_175 => ?_) (fun c9 => absurd (nI_le (a := 2) (b := y) hy (by omega)) c9)
  refine z_aload_n X dX2_holding_205 rfl (j := 0) rfl ?_
  refine z_aload_n X dX2_holding_206 rfl (j := 1) rfl ?_
  refine z_retl X (as := [.ref b2, .ref a]) (wc := [(gv, .inl (cy 0, 6, .inl (vA vo)))]) (wr := []) (rest := []) (fun H9 locs9 ls9 hP9 hS9 hl9 hb9 hp9 => va_runV (As := [.ref a]) (rest := []) X.fix (m_everyValue l D cy O hL hd hF hy hy6 h0 hs hA5 H9.size) (cwV 1 X.hts (gV ml_X2_112 im_X2_everyValue se_X2_everyValue ni_X2 cd_X2_everyValue) rfl rfl rfl (by decide +kernel) ⟨by show fr + 1 + 1 ≤ fr + 4; omega, by show 8 + (6 + 11) + (lo + 23) ≤ lo + 100; omega⟩) ⟨hb9, z_recvO X (ci := 2) (r := (RX2, TX2, 3)) hL rfl hS9, hp9⟩ rfl rfl hl9.1 rfl (lv_room (Nat.le_of_ble_eq_true rfl)) dX2_holding_207 ⟨Nat.le_of_ble_eq_true rfl, Nat.le_of_ble_eq_true rfl⟩) [0] [] rfl rfl rfl rfl rfl (by decide) (fun _ h => Or.inl h) (fun r1 w2 h3 => ?_)
  obtain ⟨rfl, rfl⟩ := h3
  refine z_eq (ws' := [(gv, .inl (cy 0, 6, .inl (vA vo)))]) (lv' := [(0, .ref b2), (1, .ref a)]) (st' := [.long (lan (fun j => !exB (fun w => dom.testBit w && !q5 (up (fun v => vl vo v j) y w)) 8))]) rfl rfl rfl ?_
  refine z_widen (k' := 0) (n' := 0) (Nat.le_refl _) (Nat.le_refl _) ?_
  exact z_endl X hr [(gv, .inl (cy 0, 6, .inl (vA vo)))] [0] rfl rfl rfl ⟨rfl, rfl⟩ dX2_holding_210
