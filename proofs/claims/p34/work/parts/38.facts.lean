/-! Walk: fact by fact -/
theorem fsh_bit {vo : Nat → Option Nat} {t : Nat → Nat} {v : Nat} : ∀ {n}, (fsh vo t n).testBit v = true ↔ ∃ k, k < n ∧ tvo vo (t k) = none ∧ t k = v
  | 0 => by simp [fsh]
  | n + 1 => by
    rw [fsh]
    by_cases h : tvo vo (t n) = none
    · rw [if_pos h, Nat.testBit_or, Bool.or_eq_true, fsh_bit, Nat.testBit_two_pow, decide_eq_true_eq]
      constructor
      · rintro (⟨u, h1, h2⟩ | h1)
        · exact ⟨u, by omega, h2⟩
        · exact ⟨n, by omega, h, h1⟩
      · rintro ⟨u, h1, h2, h3⟩
        rcases Nat.lt_or_ge u n with g | g
        · exact Or.inl ⟨u, g, h2, h3⟩
        · rw [show u = n by omega] at h3; exact Or.inr h3
    · rw [if_neg h, fsh_bit]
      constructor
      · rintro ⟨u, h1, h2⟩; exact ⟨u, by omega, h2⟩
      · rintro ⟨u, h1, h2, h3⟩
        rcases Nat.lt_or_ge u n with g | g
        · exact ⟨u, g, h2, h3⟩
        · rw [show u = n by omega] at h2; exact absurd h2 h
theorem fsh_lt {vo : Nat → Option Nat} {t : Nat → Nat} {n : Nat} (ht : ∀ k, k < n → isT (t k)) : fsh vo t n < 2 ^ 6 := by
  refine Nat.lt_pow_two_of_testBit _ fun i hi => ?_
  cases h : (fsh vo t n).testBit i
  · rfl
  · obtain ⟨k, h1, h2, h3⟩ := fsh_bit.mp h
    unfold tvo at h2
    rcases ht k h1 with g | g
    · omega
    · rw [if_neg (by omega)] at h2; cases h2
theorem lrn_eq {vx vo : Nat → Option Nat} {t : Nat → Nat} {P c : Nat} : ∀ (m v : Nat), (vx v = vo v ∨ ∃ k, k < m ∧ t k < 6 ∧ t k = v) → lrn vx t P c m v = lrn vo t P c m v
  | 0, v, h => by
    rcases h with h | ⟨k, h, -⟩
    · exact h
    · omega
  | m + 1, v, h => by
    rw [lrnS, lrnS]
    by_cases g : t m < 6
    · rw [if_pos g, if_pos g, up, up]
      by_cases e : v = t m
      · rw [if_pos e, if_pos e]
      · rw [if_neg e, if_neg e]
        refine lrn_eq m v ?_
        rcases h with h | ⟨k, h1, h2, h3⟩
        · exact Or.inl h
        · refine Or.inr ⟨k, ?_, h2, h3⟩
          rcases Nat.lt_or_ge k m with z | z
          · exact z
          · rw [show k = m by omega] at h3; exact absurd h3.symm e
    · rw [if_neg g, if_neg g]
      refine lrn_eq m v ?_
      rcases h with h | ⟨k, h1, h2, h3⟩
      · exact Or.inl h
      · refine Or.inr ⟨k, ?_, h2, h3⟩
        rcases Nat.lt_or_ge k m with z | z
        · exact z
        · rw [show k = m by omega] at h2; exact absurd h2 g
theorem lrn_keep {vo : Nat → Option Nat} {t : Nat → Nat} {P c n v x : Nat} (h : mtc P c t vo n = true) (hv : vo v = some x) : ∀ {m}, m ≤ n → lrn vo t P c m v = some x
  | 0, _ => hv
  | m + 1, hm => by
    rw [lrnS]
    by_cases g : t m < 6
    · rw [if_pos g, up]
      by_cases e : v = t m
      · rw [if_pos e, ((mtc_iff.mp h) m (by omega)).1 x (by unfold tvo; rw [if_pos (by omega), ← e]; exact hv)]
      · rw [if_neg e]; exact lrn_keep h hv (by omega)
    · rw [if_neg g]; exact lrn_keep h hv (by omega)
theorem lrn_other {vo : Nat → Option Nat} {t : Nat → Nat} {P c v : Nat} : ∀ {m}, (∀ k, k < m → t k < 6 → t k ≠ v) → lrn vo t P c m v = vo v
  | 0, _ => rfl
  | m + 1, h => by
    rw [lrnS]
    by_cases g : t m < 6
    · rw [if_pos g, up, if_neg (fun e => h m (by omega) g e.symm)]; exact lrn_other (fun k hk => h k (by omega))
    · rw [if_neg g]; exact lrn_other (fun k hk => h k (by omega))
/-- outside of what is fresh the values are the same -/
def sam (S : Nat) (vo vx : Nat → Option Nat) : Prop := ∀ v, S.testBit v = false → vx v = vo v
theorem sam.lrn_is {vo vx : Nat → Option Nat} {t : Nat → Nat} {P c n : Nat} (h : sam (fsh vo t n) vo vx) (ht : ∀ k, k < n → isT (t k)) : lrn vx t P c n = lrn vo t P c n := funext fun v => by
  refine lrn_eq n v ?_
  cases e : (fsh vo t n).testBit v
  · exact Or.inl (h v e)
  · obtain ⟨k, h1, h2, h3⟩ := fsh_bit.mp e
    refine Or.inr ⟨k, h1, ?_, h3⟩
    unfold tvo at h2
    rcases ht k h1 with g | g
    · exact g
    · rw [if_neg (by omega)] at h2; cases h2
theorem sam_lrn {vo : Nat → Option Nat} {t : Nat → Nat} {P c n : Nat} (h : mtc P c t vo n = true) : sam (fsh vo t n) vo (lrn vo t P c n) := fun v hv => by
  cases e : vo v with
  | some x => exact lrn_keep h e (Nat.le_refl n)
  | none =>
    rw [← e]
    refine lrn_other fun k hk h6 hkv => ?_
    have : (fsh vo t n).testBit v = true := fsh_bit.mpr ⟨k, hk, by unfold tvo; rw [if_pos (by omega), hkv]; exact e, hkv⟩
    rw [hv] at this; cases this
theorem sam.back {vo vx : Nat → Option Nat} {t : Nat → Nat} {n : Nat} (h : sam (fsh vo t n) vo vx) (ht : ∀ k, k < n → isT (t k)) : fgt (fsh vo t n) vx 6 = vo := funext fun v => by
  rw [fgt]
  by_cases g : v < 6 ∧ (fsh vo t n).testBit v = true
  · rw [if_pos g]
    obtain ⟨k, h1, h2, h3⟩ := fsh_bit.mp g.2
    unfold tvo at h2
    rw [if_pos (by omega), h3] at h2; exact h2.symm
  · rw [if_neg g]
    refine h v ?_
    cases e : (fsh vo t n).testBit v
    · rfl
    · obtain ⟨k, h1, h2, h3⟩ := fsh_bit.mp e
      unfold tvo at h2
      rcases ht k h1 with z | z
      · exact absurd ⟨by omega, e⟩ g
      · rw [if_neg (by omega)] at h2; cases h2
/-- which facts go with the values, for the atom at a place of the order -/
def mq (R : Nat → RRow) (u : URow) (vo : Nat → Option Nat) (came : Nat) : Nat → Bool := fun i => mtc (R (u.2.2.2.1 (ordF R u came))).1 ((R (u.2.2.2.1 (ordF R u came))).2.2 i) (u.2.2.2.2 (ordF R u came)) vo (R (u.2.2.2.1 (ordF R u came))).1
def mqM (R : Nat → RRow) (u : URow) (came : Nat) : Nat := (R (u.2.2.2.1 (ordF R u came))).2.1
def lrnA (R : Nat → RRow) (u : URow) (vo : Nat → Option Nat) (came i : Nat) : Nat → Option Nat := lrn vo (u.2.2.2.2 (ordF R u came)) (R (u.2.2.2.1 (ordF R u came))).1 ((R (u.2.2.2.1 (ordF R u came))).2.2 i) (R (u.2.2.2.1 (ordF R u came))).1
def sumB (q : Nat → Bool) (f : Nat → Nat) : Nat → Nat
  | 0 => 0
  | k + 1 => sumB q f k + if q k then f k else 0
theorem sumB_skip {q : Nat → Bool} {f : Nat → Nat} {lo : Nat} : ∀ {i0}, (∀ i, lo ≤ i → i < i0 → q i = false) → lo ≤ i0 → sumB q f i0 = sumB q f lo
  | 0, _, h => by rw [show lo = 0 by omega]
  | i0 + 1, h, hl => by
    rcases Nat.lt_or_ge i0 lo with g | g
    · rw [show i0 + 1 = lo by omega]
    · rw [sumB, h i0 g (by omega), sumB_skip (fun i h1 h2 => h i h1 (by omega)) g]; rfl
theorem sumB_end {q : Nat → Bool} {f : Nat → Nat} {lo M : Nat} (h : ct (kp q lo) M = 0) (hl : lo ≤ M) : sumB q f M = sumB q f lo := sumB_skip (fun i h1 h2 => by have h3 := ct_zero.mp h i h2; simpa [kp, h1] using h3) hl
/-- how much is added to the sizes -/
def dlt (R : Nat → RRow) (u : URow) : Nat → Nat → (Nat → Option Nat) → Nat → Nat
  | 0, _, _, _ => 0
  | n + 1, came, vo, p => (if p = came then ct (mq R u vo came) (mqM R u came) else 0) + sumB (mq R u vo came) (fun i => dlt R u n (came + 1) (lrnA R u vo came i) p) (mqM R u came)
/-- the rows that are told from here on -/
def tls (R : Nat → RRow) (u : URow) : Nat → Nat → (Nat → Option Nat) → Nat → Bool
  | 0, _, vo, r => decide (r = hrw vo u.2.1 u.1)
  | n + 1, came, vo, r => exB (fun i => mq R u vo came i && tls R u n (came + 1) (lrnA R u vo came i) r) (mqM R u came)
def sadd (sf : Nat → Int32) (d : Nat → Nat) : Nat → Int32 := fun p => sf p + nI (d p)
theorem sadd_0 (sf : Nat → Int32) : sadd sf (fun _ => 0) = sf := funext fun p => by rw [sadd]; exact Int32.add_zero _
theorem sadd_up {sf : Nat → Int32} {c x : Nat} : upd sf c (sf c + nI x) = sadd sf (fun p => if p = c then x else 0) := funext fun p => by
  by_cases e : p = c
  · subst e; rw [pk_us, sadd, if_pos rfl]
  · rw [pk_un e, sadd, if_neg e]; exact (Int32.add_zero _).symm
theorem sadd_tr {sf : Nat → Int32} {a b c : Nat → Nat} (h : ∀ p, a p + b p = c p) : sadd (sadd sf a) b = sadd sf c := funext fun p => by
  simp only [sadd]
  rw [Int32.add_assoc, nI_add, h]
set_option maxHeartbeats 4000000 in
set_option maxRecDepth 100000 in
/-- freshIn(terms) -/
theorem m_freshIn (l : Launch) (D : va_G) (cy : Nat → ClassId) (O : Nat × va_E → Prop) {wk od sz b5 gv : Nat} {w4 w5 w6 : Value} {vo : Nat → Option Nat} (hW9 : O (wk, .inr (8, [.ref od, .ref sz, .ref b5, .ref gv, w4, w5, w6]))) (hgv : O (gv, .inl (cy 0, 6, .inl (vA vo)))) {tm ta n : Nat} {x1 y1 : Value} {t : Nat → Nat} {Tf : Nat → Int32} (hM : O (tm, .inr (7, [.int (nI n), .ref ta, x1, y1]))) (hT : O (ta, .inl (cy 0, 3, .inl Tf))) (hn3 : n ≤ 3) (ht : ∀ k, k < n → Tf k = nI (t k) ∧ isT (t k)) (hvb : VB vo) : Ci l yX8_freshIn (.code yX8_freshIn cX8_freshIn 4 (some .int) :: WALL) ({ frames := 1, cells := 0, slots := 0, locals := 22 }) D cy O [.ref wk, .ref tm] [] 0 0 (fun (r : Int32) (w : va_W) => r = nI (fsh vo t n) ∧ w = []) := by
  refine z_meti (by decide) rfl rfl (Nat.le_of_ble_eq_true rfl) ?_
  intro p e s m args below meth c X hr hin
  refine z_eq (ws' := []) (lv' := [(0, .ref wk), (1, .ref tm)]) (st' := []) rfl rfl rfl ?_
  have L : ∀ (d : Nat) (k : Nat), k + d = n → Zz D (va_A [] s.heap.size) 4 p l e ({ frames := 1, cells := 0, slots := 0, locals := 22 }) s m args below meth c (MQ below (va_Qi (fun (r : Int32) (w : va_W) => r = nI (fsh vo t n) ∧ w = []) (end_ D [] s.heap.size) (va_A [] s.heap.size)) args s 0 0 (va_A [] s.heap.size)) [] [(3, .int (nI k)), (2, .int (nI (fsh vo t k))), (0, .ref wk), (1, .ref tm)] 0 0 4 [] := by
    intro d
    induction d with
    | zero =>
      intro k hL0
      refine z_iload_n X dX8_freshIn_4 rfl (j := 0) rfl ?_
      refine z_aload_n X dX8_freshIn_5 rfl (j := 3) rfl ?_
      refine z_getO X (ci := 7) (C := RX7) (T := TX7) (N := 4) inX7 hM rfl 0 (by decide) fl_X8_97 (fun _ h9 => h9) rfl dX8_freshIn_6 ?_
      refine z_icmp_ge X (tgt := 41) dX8_freshIn_9 (by decide) (fun c_9 => ?_) (fun c9 => absurd (by rw [show k = n by omega]; exact nI_le (Nat.le_refl _) (by omega)) c9)
      refine z_iload_n X dX8_freshIn_41 rfl (j := 1) rfl ?_
      exact z_endi X hr [] [] rfl rfl rfl ⟨(by rw [show k = n by omega]), rfl⟩ dX8_freshIn_42
    | succ d ih =>
      intro k hL0
      have htk := (ht k (by omega)).2
      refine z_iload_n X dX8_freshIn_4 rfl (j := 0) rfl ?_
      refine z_aload_n X dX8_freshIn_5 rfl (j := 3) rfl ?_
      refine z_getO X (ci := 7) (C := RX7) (T := TX7) (N := 4) inX7 hM rfl 0 (by decide) fl_X8_97 (fun _ h9 => h9) rfl dX8_freshIn_6 ?_
      refine z_icmp_ge X (tgt := 41) dX8_freshIn_9 (by decide) (fun c9 => absurd c9 (nI_ge (by omega) (by omega))) (fun c_9 => ?_)
      refine z_aload_n X dX8_freshIn_12 rfl (j := 3) rfl ?_
      refine z_iload_n X dX8_freshIn_13 rfl (j := 0) rfl ?_
      refine z_aload_n X dX8_freshIn_14 rfl (j := 2) rfl ?_
      refine z_getO X (ci := 8) (C := RX8) (T := TX8) (N := 7) inX8 hW9 rfl 3 (by decide) fl_X8_25 (fun _ h9 => h9) rfl dX8_freshIn_15 ?_
      refine z_reti X (as := [.ref tm, .int (nI k), .ref gv]) (wc := []) (wr := []) (rest := []) (fun H9 locs9 ls9 hP9 hS9 hl9 hb9 hp9 => va_runV (As := [.int (nI k), .ref gv]) (rest := []) X.fix (m_valueOf l D cy O hM hT hgv (show k < 3 by omega) (ht k (by omega)).1 (ht k (by omega)).2 H9.size) (cwV 2 X.hts (gV ml_X8_141 im_X7_valueOf se_X7_valueOf ni_X7 cd_X7_valueOf) rfl rfl rfl (by decide +kernel) ⟨Nat.le_of_ble_eq_true rfl, Nat.le_of_ble_eq_true rfl⟩) ⟨hb9, z_recvO X (ci := 7) (r := (RX7, TX7, 4)) hM rfl hS9, hp9⟩ rfl rfl hl9.1 rfl (lv_room (Nat.le_of_ble_eq_true rfl)) dX8_freshIn_18 ⟨Nat.le_of_ble_eq_true rfl, Nat.le_of_ble_eq_true rfl⟩) [] [] rfl rfl rfl rfl rfl (by decide) (fun _ h => Or.inl h) (fun r1 w2 h3 => ?_)
      obtain ⟨rfl, rfl⟩ := h3
      refine z_eq (ws' := []) (lv' := [(3, .int (nI k)), (2, .int (nI (fsh vo t k))), (0, .ref wk), (1, .ref tm)]) (st' := [.int (oI (tvo vo (t k)))]) rfl rfl rfl ?_
      refine z_widen (k' := 0) (n' := 0) (Nat.le_refl _) (Nat.le_refl _) ?_
      refine z_if_ge X (tgt := 35) dX8_freshIn_21 (by decide) (fun c_21 => ?_) (fun c_21 => ?_)
      · skip
        have hnn : ¬ tvo vo (t k) = none := fun e => by
          rw [e] at c_21; exact absurd c_21 (by decide)
        refine z_iinc X (j := 0) (v := (nI (k + 1))) (lv' := [(3, .int (nI (k + 1))), (2, .int (nI (fsh vo t k))), (0, .ref wk), (1, .ref tm)]) dX8_freshIn_35 rfl (nI_1 k) (by decide) rfl ?_
        refine z_goto X (tgt := 4) dX8_freshIn_38 (by decide) ?_
        refine z_lv [0, 1, 2, 3] (lv' := [(3, .int (nI (k + 1))), (2, .int (nI (fsh vo t k))), (0, .ref wk), (1, .ref tm)]) rfl ?_
        refine z_eq (ws' := []) (lv' := [(3, .int (nI (k + 1))), (2, .int (nI (fsh vo t (k + 1)))), (0, .ref wk), (1, .ref tm)]) (st' := []) rfl (by rw [fsh, if_neg hnn]) rfl ?_
        exact ih (k + 1) (by omega)
      · skip
        have hnn : tvo vo (t k) = none := oI_neg (fun j e => Nat.lt_trans (hvb.t htk e) (by decide)) (lt_of_not_ge0 c_21)
        have hlt : t k < 6 := by
          unfold tvo at hnn
          rcases htk with h9 | h9
          · exact h9
          · rw [if_neg (by omega)] at hnn; cases hnn
        refine z_iload_n X dX8_freshIn_24 rfl (j := 1) rfl ?_
        refine z_iconst X (v := 1) dX8_freshIn_25 (by decide) ?_
        refine z_aload_n X dX8_freshIn_26 rfl (j := 3) rfl ?_
        refine z_getO X (ci := 7) (C := RX7) (T := TX7) (N := 4) inX7 hM rfl 1 (by decide) fl_X8_98 (fun _ h9 => h9) rfl dX8_freshIn_27 ?_
        refine z_iload_n X dX8_freshIn_30 rfl (j := 0) rfl ?_
        refine z_ialdO X hT (v := (nI (t k))) (vp_in_nI (by omega) (by decide)) (at_nI (by omega) (ht k (by omega)).1) dX8_freshIn_31 ?_
        refine z_ishl X (v := (nI (2 ^ t k))) dX8_freshIn_32 (shl_1 _ (by omega)) ?_
        refine z_ior X (v := (nI (fsh vo t k ||| 2 ^ t k))) dX8_freshIn_33 (nI_or _ _) ?_
        refine z_istore_n X (lv' := [(2, .int (nI (fsh vo t k ||| 2 ^ t k))), (3, .int (nI k)), (0, .ref wk), (1, .ref tm)]) dX8_freshIn_34 rfl (by decide) rfl ?_
        refine z_iinc X (j := 1) (v := (nI (k + 1))) (lv' := [(3, .int (nI (k + 1))), (2, .int (nI (fsh vo t k ||| 2 ^ t k))), (0, .ref wk), (1, .ref tm)]) dX8_freshIn_35 rfl (nI_1 k) (by decide) rfl ?_
        refine z_goto X (tgt := 4) dX8_freshIn_38 (by decide) ?_
        refine z_lv [0, 1, 2, 3] (lv' := [(3, .int (nI (k + 1))), (2, .int (nI (fsh vo t k ||| 2 ^ t k))), (0, .ref wk), (1, .ref tm)]) rfl ?_
        refine z_eq (ws' := []) (lv' := [(3, .int (nI (k + 1))), (2, .int (nI (fsh vo t (k + 1)))), (0, .ref wk), (1, .ref tm)]) (st' := []) rfl (by rw [fsh, if_pos hnn]) rfl ?_
        exact ih (k + 1) (by omega)
  refine z_iconst X (v := 0) dX8_freshIn_0 (by decide) ?_
  refine z_istore_n X (lv' := [(2, .int 0), (0, .ref wk), (1, .ref tm)]) dX8_freshIn_1 rfl (by decide) rfl ?_
  refine z_iconst X (v := 0) dX8_freshIn_2 (by decide) ?_
  refine z_istore_n X (lv' := [(3, .int 0), (2, .int 0), (0, .ref wk), (1, .ref tm)]) dX8_freshIn_3 rfl (by decide) rfl ?_
  refine z_eq (ws' := []) (lv' := [(3, .int (nI 0)), (2, .int (nI (fsh vo t 0))), (0, .ref wk), (1, .ref tm)]) (st' := []) rfl rfl rfl ?_
  exact L (n) 0 (by omega)
set_option maxHeartbeats 4000000 in
set_option maxRecDepth 100000 in
/-- learn(atom, fact) -/
theorem m_learn (l : Launch) (D : va_G) (cy : Nat → ClassId) (O : Nat × va_E → Prop) {wk od sz b5 gv : Nat} {w4 w5 w6 : Value} {vo : Nat → Option Nat} (hW9 : O (wk, .inr (8, [.ref od, .ref sz, .ref b5, .ref gv, w4, w5, w6]))) {a b ar i9 c9 : Nat} {y2 y3 y4 y5 : Value} {f : Nat → Int32} {tm ta n : Nat} {x1 y1 : Value} {t : Nat → Nat} {Tf : Nat → Int32} (hM : O (tm, .inr (7, [.int (nI n), .ref ta, x1, y1]))) (hT : O (ta, .inl (cy 0, 3, .inl Tf))) (hn3 : n ≤ 3) (ht : ∀ k, k < n → Tf k = nI (t k) ∧ isT (t k)) (hA : O (a, .inr (0, [.ref b, .ref tm]))) (hQ : O (b, .inr (4, [.int (nI n), .ref ar, y2, y3, y4, y5]))) (hR9 : O (ar, .inl (cy 0, 25, .inl f))) (hP : 1 ≤ n) (hi9 : i9 < 25) (hf : f i9 = nI c9) (hc : c9 < 2 ^ 31) : Cv l yX8_learn (.code yX8_learn cX8_learn 5 none :: WALL) ({ frames := 1, cells := 0, slots := 0, locals := 22 }) D cy O [.ref wk, .ref a, .int (nI i9)] [(gv, .inl (cy 0, 6, .inl (vA vo)))] 0 0 (fun (w : va_W) => w = [(gv, .inl (cy 0, 6, .inl (vA (lrn vo t n c9 n))))]) := by
  refine z_metv (by decide) rfl rfl (Nat.le_of_ble_eq_true rfl) ?_
  intro p e s m args below meth c X hr hin
  refine z_eq (ws' := [(gv, .inl (cy 0, 6, .inl (vA vo)))]) (lv' := [(0, .ref wk), (1, .ref a), (2, .int (nI i9))]) (st' := []) rfl rfl rfl ?_
  have L : ∀ (d : Nat) (k : Nat), k + d = n → Zz D (va_A [(gv, .inl (cy 0, 6, .inl (vA vo)))] s.heap.size) 5 p l e ({ frames := 1, cells := 0, slots := 0, locals := 22 }) s m args below meth c (MQ below (va_Qv (fun (w : va_W) => w = [(gv, .inl (cy 0, 6, .inl (vA (lrn vo t n c9 n))))]) (end_ D [(gv, .inl (cy 0, 6, .inl (vA vo)))] s.heap.size) (va_A [(gv, .inl (cy 0, 6, .inl (vA vo)))] s.heap.size)) args s 0 0 (va_A [(gv, .inl (cy 0, 6, .inl (vA vo)))] s.heap.size)) [(gv, .inl (cy 0, 6, .inl (vA (lrn vo t n c9 k))))] [(3, .int (nI k)), (0, .ref wk), (1, .ref a), (2, .int (nI i9))] 0 0 2 [] := by
    intro d
    induction d with
    | zero =>
      intro k hL0
      refine z_iload_n X dX8_learn_2 rfl (j := 0) rfl ?_
      refine z_aload_n X dX8_learn_3 rfl (j := 2) rfl ?_
      refine z_getO X (ci := 0) (C := RX0) (T := TX0) (N := 2) inX0 hA rfl 1 (by decide) fl_X8_66 (fun _ h9 => h9) rfl dX8_learn_4 ?_
      refine z_getO X (ci := 7) (C := RX7) (T := TX7) (N := 4) inX7 hM rfl 0 (by decide) fl_X8_97 (fun _ h9 => h9) rfl dX8_learn_7 ?_
      refine z_icmp_ge X (tgt := 54) dX8_learn_10 (by decide) (fun c_10 => ?_) (fun c9 => absurd (by rw [show k = n by omega]; exact nI_le (Nat.le_refl _) (by omega)) c9)
      exact z_endv X hr [(gv, .inl (cy 0, 6, .inl (vA (lrn vo t n c9 k))))] [0] rfl rfl rfl (by rw [show k = n by omega]) dX8_learn_54
    | succ d ih =>
      intro k hL0
      have htk := (ht k (by omega)).2
      unfold isT at htk
      refine z_iload_n X dX8_learn_2 rfl (j := 0) rfl ?_
      refine z_aload_n X dX8_learn_3 rfl (j := 2) rfl ?_
      refine z_getO X (ci := 0) (C := RX0) (T := TX0) (N := 2) inX0 hA rfl 1 (by decide) fl_X8_66 (fun _ h9 => h9) rfl dX8_learn_4 ?_
      refine z_getO X (ci := 7) (C := RX7) (T := TX7) (N := 4) inX7 hM rfl 0 (by decide) fl_X8_97 (fun _ h9 => h9) rfl dX8_learn_7 ?_
      refine z_icmp_ge X (tgt := 54) dX8_learn_10 (by decide) (fun c9 => absurd c9 (nI_ge (by omega) (by omega))) (fun c_10 => ?_)
      refine z_aload_n X dX8_learn_13 rfl (j := 2) rfl ?_
      refine z_getO X (ci := 0) (C := RX0) (T := TX0) (N := 2) inX0 hA rfl 1 (by decide) fl_X8_66 (fun _ h9 => h9) rfl dX8_learn_14 ?_
      refine z_getO X (ci := 7) (C := RX7) (T := TX7) (N := 4) inX7 hM rfl 1 (by decide) fl_X8_98 (fun _ h9 => h9) rfl dX8_learn_17 ?_
      refine z_iload_n X dX8_learn_20 rfl (j := 0) rfl ?_
      refine z_ialdO X hT (v := (nI (t k))) (vp_in_nI (by omega) (by decide)) (at_nI (by omega) (ht k (by omega)).1) dX8_learn_21 ?_
      refine z_istore X (lv' := [(4, .int (nI (t k))), (3, .int (nI k)), (0, .ref wk), (1, .ref a), (2, .int (nI i9))]) dX8_learn_22 (by decide) rfl ?_
      refine z_iload X dX8_learn_24 (j := 0) rfl ?_
      refine z_reti X (as := [.int (nI (t k))]) (wc := []) (wr := [(gv, .inl (cy 0, 6, .inl (vA (lrn vo t n c9 k))))]) (rest := []) (fun H9 locs9 ls9 hP9 hS9 hl9 hb9 hp9 => va_runSN (As := [.int (nI (t k))]) (rest := []) X.fix (m_isVariable l D cy O (nI (t k)) H9.size) ⟨va_cnB 1 X.hts (gB cd_X9_isVariable) rfl rfl rfl (X.nw.1 _ (List.mem_of_getElem? (i := 11) rfl)) (X.hts _ ni_X9) (by decide +kernel) ⟨Nat.le_of_ble_eq_true rfl, Nat.le_of_ble_eq_true rfl⟩, X.hts _ sm_X9_isVariable, trivial⟩ ⟨hb9, hp9⟩ rfl rfl hl9.1 rfl (lv_room (Nat.le_of_ble_eq_true rfl)) dX8_learn_26 ⟨Nat.le_of_ble_eq_true rfl, Nat.le_of_ble_eq_true rfl⟩) [] [0] rfl rfl rfl rfl rfl (by decide) (fun _ h => Or.inl h) (fun r1 w2 h3 => ?_)
      obtain ⟨rfl, rfl⟩ := h3
      refine z_eq (ws' := [(gv, .inl (cy 0, 6, .inl (vA (lrn vo t n c9 k))))]) (lv' := [(4, .int (nI (t k))), (3, .int (nI k)), (0, .ref wk), (1, .ref a), (2, .int (nI i9))]) (st' := [.int (vI (nI (t k)))]) rfl rfl rfl ?_
      refine z_widen (k' := 0) (n' := 0) (Nat.le_refl _) (Nat.le_refl _) ?_
      refine z_if_eq X (tgt := 48) dX8_learn_29 (by decide) (fun c_29 => ?_) (fun c_29 => ?_)
      · skip
        have hlt : ¬ t k < 6 := by
          rw [vI_nI (by omega)] at c_29
          by_cases h9 : t k < 6
          · rw [if_pos h9] at c_29; exact absurd c_29 (by decide)
          · exact h9
        refine z_iinc X (j := 1) (v := (nI (k + 1))) (lv' := [(3, .int (nI (k + 1))), (4, .int (nI (t k))), (0, .ref wk), (1, .ref a), (2, .int (nI i9))]) dX8_learn_48 rfl (nI_1 k) (by decide) rfl ?_
        refine z_goto X (tgt := 2) dX8_learn_51 (by decide) ?_
        refine z_lv [0, 2, 3, 4] (lv' := [(3, .int (nI (k + 1))), (0, .ref wk), (1, .ref a), (2, .int (nI i9))]) rfl ?_
        refine z_eq (ws' := [(gv, .inl (cy 0, 6, .inl (vA (lrn vo t n c9 (k + 1)))))]) (lv' := [(3, .int (nI (k + 1))), (0, .ref wk), (1, .ref a), (2, .int (nI i9))]) (st' := []) (by rw [lrnS, if_neg hlt]) rfl rfl ?_
        exact ih (k + 1) (by omega)
      · skip
        have hlt : t k < 6 := by
          rw [vI_nI (by omega)] at c_29
          by_cases h9 : t k < 6
          · exact h9
          · rw [if_neg h9] at c_29; exact absurd rfl c_29
        refine z_aload_n X dX8_learn_32 rfl (j := 2) rfl ?_
        refine z_getO X (ci := 8) (C := RX8) (T := TX8) (N := 7) inX8 hW9 rfl 3 (by decide) fl_X8_25 (fun _ h9 => h9) rfl dX8_learn_33 ?_
        refine z_iload X dX8_learn_36 (j := 0) rfl ?_
        refine z_aload_n X dX8_learn_38 rfl (j := 3) rfl ?_
        refine z_getO X (ci := 0) (C := RX0) (T := TX0) (N := 2) inX0 hA rfl 0 (by decide) fl_X8_90 (fun _ h9 => h9) rfl dX8_learn_39 ?_
        refine z_iload_n X dX8_learn_42 rfl (j := 4) rfl ?_
        refine z_iload_n X dX8_learn_43 rfl (j := 1) rfl ?_
        refine z_reti X (as := [.ref b, .int (nI i9), .int (nI k)]) (wc := []) (wr := [(gv, .inl (cy 0, 6, .inl (vA (lrn vo t n c9 k))))]) (rest := [.int (nI (t k)), .ref gv]) (fun H9 locs9 ls9 hP9 hS9 hl9 hb9 hp9 => va_runV (As := [.int (nI i9), .int (nI k)]) (rest := [.int (nI (t k)), .ref gv]) X.fix (m_valueAt l D cy O hQ hR9 hP hn3 (u := k) (by omega) hi9 hf hc H9.size) (cwV 2 X.hts (gV ml_X8_145 im_X4_valueAt se_X4_valueAt ni_X4 cd_X4_valueAt) rfl rfl rfl (by decide +kernel) ⟨Nat.le_of_ble_eq_true rfl, Nat.le_of_ble_eq_true rfl⟩) ⟨hb9, z_recvO X (ci := 4) (r := (RX4, TX4, 6)) hQ rfl hS9, hp9⟩ rfl rfl hl9.1 rfl (lv_room (Nat.le_of_ble_eq_true rfl)) dX8_learn_44 ⟨Nat.le_of_ble_eq_true rfl, Nat.le_of_ble_eq_true rfl⟩) [] [0] rfl rfl rfl rfl rfl (by decide) (fun _ h => Or.inl h) (fun r4 w5 h6 => ?_)
        obtain ⟨rfl, rfl⟩ := h6
        refine z_eq (ws' := [(gv, .inl (cy 0, 6, .inl (vA (lrn vo t n c9 k))))]) (lv' := [(4, .int (nI (t k))), (3, .int (nI k)), (0, .ref wk), (1, .ref a), (2, .int (nI i9))]) (st' := [.int (nI (dg n c9 k)), .int (nI (t k)), .ref gv]) rfl rfl rfl ?_
        refine z_widen (k' := 0) (n' := 0) (Nat.le_refl _) (Nat.le_refl _) ?_
        refine z_iastW X 0 rfl (vp_in_nI (by omega) (by decide)) (ws' := [(gv, .inl (cy 0, 6, .inl (vA (lrn vo t n c9 (k + 1)))))]) (by rw [upd_vA' (by omega), lrnS, if_pos hlt]; rfl) dX8_learn_47 ?_
        refine z_iinc X (j := 1) (v := (nI (k + 1))) (lv' := [(3, .int (nI (k + 1))), (4, .int (nI (t k))), (0, .ref wk), (1, .ref a), (2, .int (nI i9))]) dX8_learn_48 rfl (nI_1 k) (by decide) rfl ?_
        refine z_goto X (tgt := 2) dX8_learn_51 (by decide) ?_
        refine z_lv [0, 2, 3, 4] (lv' := [(3, .int (nI (k + 1))), (0, .ref wk), (1, .ref a), (2, .int (nI i9))]) rfl ?_
        refine z_eq (ws' := [(gv, .inl (cy 0, 6, .inl (vA (lrn vo t n c9 (k + 1)))))]) (lv' := [(3, .int (nI (k + 1))), (0, .ref wk), (1, .ref a), (2, .int (nI i9))]) (st' := []) rfl rfl rfl ?_
        exact ih (k + 1) (by omega)
  refine z_iconst X (v := 0) dX8_learn_0 (by decide) ?_
  refine z_istore_n X (lv' := [(3, .int 0), (0, .ref wk), (1, .ref a), (2, .int (nI i9))]) dX8_learn_1 rfl (by decide) rfl ?_
  refine z_eq (ws' := [(gv, .inl (cy 0, 6, .inl (vA (lrn vo t n c9 0))))]) (lv' := [(3, .int (nI 0)), (0, .ref wk), (1, .ref a), (2, .int (nI i9))]) (st' := []) rfl rfl rfl ?_
  exact L (n) 0 (by omega)
set_option maxHeartbeats 4000000 in
set_option maxRecDepth 100000 in
/-- forget(variables) -/
theorem m_forget (l : Launch) (D : va_G) (cy : Nat → ClassId) (O : Nat × va_E → Prop) {wk od sz b5 gv : Nat} {w4 w5 w6 : Value} {vo : Nat → Option Nat} (hW9 : O (wk, .inr (8, [.ref od, .ref sz, .ref b5, .ref gv, w4, w5, w6]))) {S : Nat} (hS : S < 2 ^ 31) : Cv l yX8_forget (.code yX8_forget cX8_forget 3 none :: WALL) ({ frames := 1, cells := 0, slots := 0, locals := 21 }) D cy O [.ref wk, .int (nI S)] [(gv, .inl (cy 0, 6, .inl (vA vo)))] 0 0 (fun (w : va_W) => w = [(gv, .inl (cy 0, 6, .inl (vA (fgt S vo 6))))]) := by
  refine z_metv (by decide) rfl rfl (Nat.le_of_ble_eq_true rfl) ?_
  intro p e s m args below meth c X hr hin
  refine z_eq (ws' := [(gv, .inl (cy 0, 6, .inl (vA vo)))]) (lv' := [(0, .ref wk), (1, .int (nI S))]) (st' := []) rfl rfl rfl ?_
  have L : ∀ (d : Nat) (k : Nat), k + d = 6 → Zz D (va_A [(gv, .inl (cy 0, 6, .inl (vA vo)))] s.heap.size) 3 p l e ({ frames := 1, cells := 0, slots := 0, locals := 21 }) s m args below meth c (MQ below (va_Qv (fun (w : va_W) => w = [(gv, .inl (cy 0, 6, .inl (vA (fgt S vo 6))))]) (end_ D [(gv, .inl (cy 0, 6, .inl (vA vo)))] s.heap.size) (va_A [(gv, .inl (cy 0, 6, .inl (vA vo)))] s.heap.size)) args s 0 0 (va_A [(gv, .inl (cy 0, 6, .inl (vA vo)))] s.heap.size)) [(gv, .inl (cy 0, 6, .inl (vA (fgt S vo k))))] [(2, .int (nI k)), (0, .ref wk), (1, .int (nI S))] 0 0 2 [] := by
    intro d
    induction d with
    | zero =>
      intro k hL0
      refine z_iload_n X dX8_forget_2 rfl (j := 0) rfl ?_
      refine z_bipush X (v := 6) dX8_forget_3 (by decide) ?_
      refine z_icmp_ge X (tgt := 29) dX8_forget_5 (by decide) (fun c_5 => ?_) (fun c9 => absurd (nI_le (a := 6) (b := k) (by omega) (by omega)) c9)
      exact z_endv X hr [(gv, .inl (cy 0, 6, .inl (vA (fgt S vo k))))] [0] rfl rfl rfl (by rw [show k = 6 by omega]) dX8_forget_29
    | succ d ih =>
      intro k hL0
      refine z_iload_n X dX8_forget_2 rfl (j := 0) rfl ?_
      refine z_bipush X (v := 6) dX8_forget_3 (by decide) ?_
      refine z_icmp_ge X (tgt := 29) dX8_forget_5 (by decide) (fun c9 => absurd c9 (nI_ge (a := k) (b := 6) (by omega) (by decide))) (fun c_5 => ?_)
      refine z_iload_n X dX8_forget_8 rfl (j := 2) rfl ?_
      refine z_iload_n X dX8_forget_9 rfl (j := 0) rfl ?_
      refine z_reti X (as := [.int (nI S), .int (nI k)]) (wc := []) (wr := [(gv, .inl (cy 0, 6, .inl (vA (fgt S vo k))))]) (rest := []) (fun H9 locs9 ls9 hP9 hS9 hl9 hb9 hp9 => va_runSN (As := [.int (nI S), .int (nI k)]) (rest := []) X.fix (m_isIn l D cy O (nI (S)) (nI (k)) H9.size) ⟨va_cnB 2 X.hts (gB cd_X9_isIn) rfl rfl rfl (X.nw.1 _ (List.mem_of_getElem? (i := 10) rfl)) (X.hts _ ni_X9) (by decide +kernel) ⟨Nat.le_of_ble_eq_true rfl, Nat.le_of_ble_eq_true rfl⟩, X.hts _ sm_X9_isIn, trivial⟩ ⟨hb9, hp9⟩ rfl rfl hl9.1 rfl (lv_room (Nat.le_of_ble_eq_true rfl)) dX8_forget_10 ⟨Nat.le_of_ble_eq_true rfl, Nat.le_of_ble_eq_true rfl⟩) [] [0] rfl rfl rfl rfl rfl (by decide) (fun _ h => Or.inl h) (fun r1 w2 h3 => ?_)
      obtain ⟨rfl, rfl⟩ := h3
      refine z_eq (ws' := [(gv, .inl (cy 0, 6, .inl (vA (fgt S vo k))))]) (lv' := [(2, .int (nI k)), (0, .ref wk), (1, .int (nI S))]) (st' := [.int (bI (nI (S)) (nI (k)))]) rfl rfl rfl ?_
      refine z_widen (k' := 0) (n' := 0) (Nat.le_refl _) (Nat.le_refl _) ?_
      refine z_if_eq X (tgt := 23) dX8_forget_13 (by decide) (fun c_13 => ?_) (fun c_13 => ?_)
      · skip
        refine z_iinc X (j := 0) (v := (nI (k + 1))) (lv' := [(2, .int (nI (k + 1))), (0, .ref wk), (1, .int (nI S))]) dX8_forget_23 rfl (nI_1 k) (by decide) rfl ?_
        refine z_goto X (tgt := 2) dX8_forget_26 (by decide) ?_
        refine z_eq (ws' := [(gv, .inl (cy 0, 6, .inl (vA (fgt S vo (k + 1)))))]) (lv' := [(2, .int (nI (k + 1))), (0, .ref wk), (1, .int (nI S))]) (st' := []) (by rw [fgt_n (bit_no hS (by omega) c_13)]) rfl rfl ?_
        exact ih (k + 1) (by omega)
      · skip
        refine z_aload_n X dX8_forget_16 rfl (j := 1) rfl ?_
        refine z_getO X (ci := 8) (C := RX8) (T := TX8) (N := 7) inX8 hW9 rfl 3 (by decide) fl_X8_25 (fun _ h9 => h9) rfl dX8_forget_17 ?_
        refine z_iload_n X dX8_forget_20 rfl (j := 0) rfl ?_
        refine z_iconst X (v := (-1)) dX8_forget_21 (by decide) ?_
        refine z_iastW X 0 rfl (vp_in_nI (by omega) (by decide)) (ws' := [(gv, .inl (cy 0, 6, .inl (vA (fgt S vo (k + 1)))))]) (by rw [upd_vAn (by omega), fgt_y (bit_yes hS (by omega) c_13)]; rfl) dX8_forget_22 ?_
        refine z_iinc X (j := 0) (v := (nI (k + 1))) (lv' := [(2, .int (nI (k + 1))), (0, .ref wk), (1, .int (nI S))]) dX8_forget_23 rfl (nI_1 k) (by decide) rfl ?_
        refine z_goto X (tgt := 2) dX8_forget_26 (by decide) ?_
        refine z_eq (ws' := [(gv, .inl (cy 0, 6, .inl (vA (fgt S vo (k + 1)))))]) (lv' := [(2, .int (nI (k + 1))), (0, .ref wk), (1, .int (nI S))]) (st' := []) rfl rfl rfl ?_
        exact ih (k + 1) (by omega)
  refine z_iconst X (v := 0) dX8_forget_0 (by decide) ?_
  refine z_istore_n X (lv' := [(2, .int 0), (0, .ref wk), (1, .int (nI S))]) dX8_forget_1 rfl (by decide) rfl ?_
  refine z_eq (ws' := [(gv, .inl (cy 0, 6, .inl (vA (fgt S vo 0))))]) (lv' := [(2, .int (nI 0)), (0, .ref wk), (1, .int (nI S))]) (st' := []) (by rw [fgt_0]) rfl rfl ?_
  exact L (6) 0 (by omega)
theorem hrw_lt {vo : Nat → Option Nat} {t : Nat → Nat} {n : Nat} (h : ∀ k, k < n → ∃ x, tvo vo (t k) = some x ∧ x < 8) : ∀ {k}, k ≤ n → hrw vo t k < 8 ^ k
  | 0, _ => by rw [hrw]; decide
  | k + 1, hk => by
    have ih := hrw_lt h (k := k) (by omega)
    obtain ⟨x, e, hx⟩ := h k (by omega)
    rw [hrw, e, Nat.pow_succ]
    show hrw vo t k * 8 + x < _
    omega
theorem hrw_512 {vo : Nat → Option Nat} {t : Nat → Nat} {n : Nat} (h : ∀ k, k < n → ∃ x, tvo vo (t k) = some x ∧ x < 8) (hn : n ≤ 3) : hrw vo t n < 512 := Nat.lt_of_lt_of_le (hrw_lt h (Nat.le_refl n)) (Nat.pow_le_pow_right (by decide) hn)
set_option maxHeartbeats 4000000 in
set_option maxRecDepth 100000 in
/-- headRow() -/
theorem m_headRow (l : Launch) (D : va_G) (cy : Nat → ClassId) (O : Nat × va_E → Prop) {wk od sz b5 gv : Nat} {w5 w6 : Value} {vo : Nat → Option Nat} {bq rc : Nat} {R : Nat → RRow} {rb : Nat → Nat} {q : URow} (hR : ∀ j, j < rc → RlO O cy (rb j) (R j)) (hq : RuO O cy R rb rc bq q) (hW9 : O (wk, .inr (8, [.ref od, .ref sz, .ref b5, .ref gv, .ref bq, w5, w6]))) (hgv : O (gv, .inl (cy 0, 6, .inl (vA vo)))) (hhk : ∀ k, k < q.1 → ∃ x, tvo vo (q.2.1 k) = some x ∧ x < 8) : Ci l yX8_headRow (.code yX8_headRow cX8_headRow 3 (some .int) :: WALL) ({ frames := 1, cells := 0, slots := 0, locals := 22 }) D cy O [.ref wk] [] 0 0 (fun (r : Int32) (w : va_W) => r = nI (hrw vo q.2.1 q.1) ∧ w = []) := by
  obtain ⟨hd1, aa1, F1, aA1, tA1, hB1, ⟨ta1, T1, hM1, hT1, ht1⟩, hF1, hh1, hm1, hat1⟩ := hq
  refine z_meti (by decide) rfl rfl (Nat.le_of_ble_eq_true rfl) ?_
  intro p e s m args below meth c X hr hin
  refine z_eq (ws' := []) (lv' := [(0, .ref wk)]) (st' := []) rfl rfl rfl ?_
  have L : ∀ (d : Nat) (k : Nat), k + d = q.1 → Zz D (va_A [] s.heap.size) 3 p l e ({ frames := 1, cells := 0, slots := 0, locals := 22 }) s m args below meth c (MQ below (va_Qi (fun (r : Int32) (w : va_W) => r = nI (hrw vo q.2.1 q.1) ∧ w = []) (end_ D [] s.heap.size) (va_A [] s.heap.size)) args s 0 0 (va_A [] s.heap.size)) [] [(2, .int (nI k)), (1, .int (nI (hrw vo q.2.1 k))), (0, .ref wk)] 0 0 4 [] := by
    intro d
    induction d with
    | zero =>
      intro k hL0
      refine z_iload_n X dX8_headRow_4 rfl (j := 0) rfl ?_
      refine z_aload_n X dX8_headRow_5 rfl (j := 2) rfl ?_
      refine z_getO X (ci := 8) (C := RX8) (T := TX8) (N := 7) inX8 hW9 rfl 4 (by decide) fl_X8_28 (fun _ h9 => h9) rfl dX8_headRow_6 ?_
      refine z_getO X (ci := 6) (C := RX6) (T := TX6) (N := 3) inX6 hB1 rfl 0 (by decide) fl_X8_49 (fun _ h9 => h9) rfl dX8_headRow_9 ?_
      refine z_getO X (ci := 7) (C := RX7) (T := TX7) (N := 4) inX7 hM1 rfl 0 (by decide) fl_X8_97 (fun _ h9 => h9) rfl dX8_headRow_12 ?_
      refine z_icmp_ge X (tgt := 44) dX8_headRow_15 (by decide) (fun c_15 => ?_) (fun c9 => absurd (by rw [show k = q.1 by omega]; exact nI_le (Nat.le_refl _) (by omega)) c9)
      refine z_iload_n X dX8_headRow_44 rfl (j := 1) rfl ?_
      exact z_endi X hr [] [] rfl rfl rfl ⟨(by rw [show k = q.1 by omega]), rfl⟩ dX8_headRow_45
    | succ d ih =>
      intro k hL0
      obtain ⟨x9, hx9, hx8⟩ := hhk k (by omega)
      have hr8 : hrw vo q.2.1 k < 8 ^ 3 := Nat.lt_of_lt_of_le (hrw_lt hhk (show k ≤ q.1 by omega)) (Nat.pow_le_pow_right (by decide) (by omega))
      refine z_iload_n X dX8_headRow_4 rfl (j := 0) rfl ?_
      refine z_aload_n X dX8_headRow_5 rfl (j := 2) rfl ?_
      refine z_getO X (ci := 8) (C := RX8) (T := TX8) (N := 7) inX8 hW9 rfl 4 (by decide) fl_X8_28 (fun _ h9 => h9) rfl dX8_headRow_6 ?_
      refine z_getO X (ci := 6) (C := RX6) (T := TX6) (N := 3) inX6 hB1 rfl 0 (by decide) fl_X8_49 (fun _ h9 => h9) rfl dX8_headRow_9 ?_
      refine z_getO X (ci := 7) (C := RX7) (T := TX7) (N := 4) inX7 hM1 rfl 0 (by decide) fl_X8_97 (fun _ h9 => h9) rfl dX8_headRow_12 ?_
      refine z_icmp_ge X (tgt := 44) dX8_headRow_15 (by decide) (fun c9 => absurd c9 (nI_ge (by omega) (by omega))) (fun c_15 => ?_)
      refine z_iload_n X dX8_headRow_18 rfl (j := 1) rfl ?_
      refine z_iconst X (v := 3) dX8_headRow_19 (by decide) ?_
      refine z_ishl X (v := (nI (hrw vo q.2.1 k * 8))) dX8_headRow_20 (shl_3 (by omega)) ?_
      refine z_aload_n X dX8_headRow_21 rfl (j := 2) rfl ?_
      refine z_getO X (ci := 8) (C := RX8) (T := TX8) (N := 7) inX8 hW9 rfl 4 (by decide) fl_X8_28 (fun _ h9 => h9) rfl dX8_headRow_22 ?_
      refine z_getO X (ci := 6) (C := RX6) (T := TX6) (N := 3) inX6 hB1 rfl 0 (by decide) fl_X8_49 (fun _ h9 => h9) rfl dX8_headRow_25 ?_
      refine z_iload_n X dX8_headRow_28 rfl (j := 0) rfl ?_
      refine z_aload_n X dX8_headRow_29 rfl (j := 2) rfl ?_
      refine z_getO X (ci := 8) (C := RX8) (T := TX8) (N := 7) inX8 hW9 rfl 3 (by decide) fl_X8_25 (fun _ h9 => h9) rfl dX8_headRow_30 ?_
      refine z_reti X (as := [.ref hd1, .int (nI k), .ref gv]) (wc := []) (wr := []) (rest := [.int (nI (hrw vo q.2.1 k * 8))]) (fun H9 locs9 ls9 hP9 hS9 hl9 hb9 hp9 => va_runV (As := [.int (nI k), .ref gv]) (rest := [.int (nI (hrw vo q.2.1 k * 8))]) X.fix (m_valueOf l D cy O hM1 hT1 hgv (show k < 3 by omega) (ht1 k (by omega)).1 (ht1 k (by omega)).2 H9.size) (cwV 2 X.hts (gV ml_X8_141 im_X7_valueOf se_X7_valueOf ni_X7 cd_X7_valueOf) rfl rfl rfl (by decide +kernel) ⟨Nat.le_of_ble_eq_true rfl, Nat.le_of_ble_eq_true rfl⟩) ⟨hb9, z_recvO X (ci := 7) (r := (RX7, TX7, 4)) hM1 rfl hS9, hp9⟩ rfl rfl hl9.1 rfl (lv_room (Nat.le_of_ble_eq_true rfl)) dX8_headRow_33 ⟨Nat.le_of_ble_eq_true rfl, Nat.le_of_ble_eq_true rfl⟩) [] [] rfl rfl rfl rfl rfl (by decide) (fun _ h => Or.inl h) (fun r1 w2 h3 => ?_)
      obtain ⟨rfl, rfl⟩ := h3
      rw [hx9]
      refine z_eq (ws' := []) (lv' := [(2, .int (nI k)), (1, .int (nI (hrw vo q.2.1 k))), (0, .ref wk)]) (st' := [.int (nI x9), .int (nI (hrw vo q.2.1 k * 8))]) rfl rfl rfl ?_
      refine z_widen (k' := 0) (n' := 0) (Nat.le_refl _) (Nat.le_refl _) ?_
      refine z_ior X (v := (nI (hrw vo q.2.1 (k + 1)))) dX8_headRow_36 (by rw [or_8 hx8, hrw, hx9]; rfl) ?_
      refine z_istore_n X (lv' := [(1, .int (nI (hrw vo q.2.1 (k + 1)))), (2, .int (nI k)), (0, .ref wk)]) dX8_headRow_37 rfl (by decide) rfl ?_
      refine z_iinc X (j := 1) (v := (nI (k + 1))) (lv' := [(2, .int (nI (k + 1))), (1, .int (nI (hrw vo q.2.1 (k + 1)))), (0, .ref wk)]) dX8_headRow_38 rfl (nI_1 k) (by decide) rfl ?_
      refine z_goto X (tgt := 4) dX8_headRow_41 (by decide) ?_
      refine z_eq (ws' := []) (lv' := [(2, .int (nI (k + 1))), (1, .int (nI (hrw vo q.2.1 (k + 1)))), (0, .ref wk)]) (st' := []) rfl rfl rfl ?_
      exact ih (k + 1) (by omega)
  refine z_iconst X (v := 0) dX8_headRow_0 (by decide) ?_
  refine z_istore_n X (lv' := [(1, .int 0), (0, .ref wk)]) dX8_headRow_1 rfl (by decide) rfl ?_
  refine z_iconst X (v := 0) dX8_headRow_2 (by decide) ?_
  refine z_istore_n X (lv' := [(2, .int 0), (1, .int 0), (0, .ref wk)]) dX8_headRow_3 rfl (by decide) rfl ?_
  refine z_eq (ws' := []) (lv' := [(2, .int (nI 0)), (1, .int (nI (hrw vo q.2.1 0))), (0, .ref wk)]) (st' := []) rfl rfl rfl ?_
  exact L (q.1) 0 (by omega)
set_option maxHeartbeats 4000000 in
set_option maxRecDepth 100000 in
/-- isTold: the head isn't known yet -/
theorem m_isTold_lo (l : Launch) (D : va_G) (cy : Nat → ClassId) (O : Nat × va_E → Prop) {wk od sz b5 r5 gv hf came : Nat} {w5 : Value} {vo : Nat → Option Nat} {fs : Nat → Bool} {bq rc : Nat} {R : Nat → RRow} {rb : Nat → Nat} {q : URow} (hR : ∀ j, j < rc → RlO O cy (rb j) (R j)) (hq : RuO O cy R rb rc bq q) (hW9 : O (wk, .inr (8, [.ref od, .ref sz, .ref b5, .ref gv, .ref bq, w5, .int (nI hf)]))) (hhf : hf < 2 ^ 31) (hcm : came < 2 ^ 31) (hlo : came < hf) : Ci l yX8_isTold (.code yX8_isTold cX8_isTold 3 (some .boolean) :: WALL) ({ frames := 0, cells := 0, slots := 0, locals := 0 }) D cy O [.ref wk, .int (nI came)] [(b5, .inr (5, [.ref r5, .int (nI (ct fs 512))])), (r5, .inl (cy 1, 512, .inl (zB fs)))] 0 0 (fun (r : Int32) (w : va_W) => r = 0 ∧ w = [(b5, .inr (5, [.ref r5, .int (nI (ct fs 512))])), (r5, .inl (cy 1, 512, .inl (zB fs)))]) := by
  have hq' := hq
  obtain ⟨hd1, aa1, F1, aA1, tA1, hB1, ⟨ta1, T1, hM1, hT1, ht1⟩, hF1, hh1, hm1, hat1⟩ := hq'
  refine z_meti (by decide) rfl rfl (Nat.le_of_ble_eq_true rfl) ?_
  intro p e s m args below meth c X hr hin
  refine z_eq (ws' := [(b5, .inr (5, [.ref r5, .int (nI (ct fs 512))])), (r5, .inl (cy 1, 512, .inl (zB fs)))]) (lv' := [(0, .ref wk), (1, .int (nI came))]) (st' := []) rfl rfl rfl ?_
  refine z_iload_n X dX8_isTold_0 rfl (j := 1) rfl ?_
  refine z_aload_n X dX8_isTold_1 rfl (j := 0) rfl ?_
  refine z_getO X (ci := 8) (C := RX8) (T := TX8) (N := 7) inX8 hW9 rfl 6 (by decide) fl_X8_36 (fun _ h9 => h9) rfl dX8_isTold_2 ?_
  refine z_icmp_ge X (tgt := 10) dX8_isTold_5 (by decide) (fun c9 => absurd c9 (nI_ge hlo (by omega))) (fun c_5 => ?_)
  refine z_iconst X (v := 0) dX8_isTold_8 (by decide) ?_
  exact z_endz X hr (Or.inl rfl) [(b5, .inr (5, [.ref r5, .int (nI (ct fs 512))])), (r5, .inl (cy 1, 512, .inl (zB fs)))] [0, 1] rfl rfl rfl ⟨rfl, rfl⟩ dX8_isTold_9
set_option maxHeartbeats 4000000 in
set_option maxRecDepth 100000 in
/-- isTold: the head is known -/
theorem m_isTold_mid (l : Launch) (D : va_G) (cy : Nat → ClassId) (O : Nat × va_E → Prop) {wk od sz b5 r5 gv hf came : Nat} {w5 : Value} {vo : Nat → Option Nat} {fs : Nat → Bool} {bq rc : Nat} {R : Nat → RRow} {rb : Nat → Nat} {q : URow} (hR : ∀ j, j < rc → RlO O cy (rb j) (R j)) (hq : RuO O cy R rb rc bq q) (hW9 : O (wk, .inr (8, [.ref od, .ref sz, .ref b5, .ref gv, .ref bq, w5, .int (nI hf)]))) (hhf : hf < 2 ^ 31) (hcm : came < 2 ^ 31) (hge : hf ≤ came) (hgv : O (gv, .inl (cy 0, 6, .inl (vA vo)))) (hhk : ∀ k, k < q.1 → ∃ x, tvo vo (q.2.1 k) = some x ∧ x < 8) (hlt9 : came < q.2.2.1) : Ci l yX8_isTold (.code yX8_isTold cX8_isTold 3 (some .boolean) :: WALL) ({ frames := 2, cells := 0, slots := 0, locals := 44 }) D cy O [.ref wk, .int (nI came)] [(b5, .inr (5, [.ref r5, .int (nI (ct fs 512))])), (r5, .inl (cy 1, 512, .inl (zB fs)))] 0 0 (fun (r : Int32) (w : va_W) => r = zb (fs (hrw vo q.2.1 q.1)) ∧ w = [(b5, .inr (5, [.ref r5, .int (nI (ct fs 512))])), (r5, .inl (cy 1, 512, .inl (zB fs)))]) := by
  have hq' := hq
  obtain ⟨hd1, aa1, F1, aA1, tA1, hB1, ⟨ta1, T1, hM1, hT1, ht1⟩, hF1, hh1, hm1, hat1⟩ := hq'
  refine z_meti (by decide) rfl rfl (Nat.le_of_ble_eq_true rfl) ?_
  intro p e s m args below meth c X hr hin
  refine z_eq (ws' := [(b5, .inr (5, [.ref r5, .int (nI (ct fs 512))])), (r5, .inl (cy 1, 512, .inl (zB fs)))]) (lv' := [(0, .ref wk), (1, .int (nI came))]) (st' := []) rfl rfl rfl ?_
  refine z_iload_n X dX8_isTold_0 rfl (j := 1) rfl ?_
  refine z_aload_n X dX8_isTold_1 rfl (j := 0) rfl ?_
  refine z_getO X (ci := 8) (C := RX8) (T := TX8) (N := 7) inX8 hW9 rfl 6 (by decide) fl_X8_36 (fun _ h9 => h9) rfl dX8_isTold_2 ?_
  refine z_icmp_ge X (tgt := 10) dX8_isTold_5 (by decide) (fun c_5 => ?_) (fun c9 => absurd (nI_le hge (by omega)) c9)
  refine z_aload_n X dX8_isTold_10 rfl (j := 0) rfl ?_
  refine z_reti X (as := [.ref wk]) (wc := []) (wr := [(b5, .inr (5, [.ref r5, .int (nI (ct fs 512))])), (r5, .inl (cy 1, 512, .inl (zB fs)))]) (rest := []) (fun H9 locs9 ls9 hP9 hS9 hl9 hb9 hp9 => va_runV (As := []) (rest := []) X.fix (m_headRow l D cy O hR hq hW9 hgv hhk H9.size) (cwV 0 X.hts (gV ml_X8_132 im_X8_headRow se_X8_headRow ni_X8 cd_X8_headRow) rfl rfl rfl (by decide +kernel) ⟨Nat.le_of_ble_eq_true rfl, Nat.le_of_ble_eq_true rfl⟩) ⟨hb9, z_recvO X (ci := 8) (r := (RX8, TX8, 7)) hW9 rfl hS9, hp9⟩ rfl rfl hl9.1 rfl (lv_room (Nat.le_of_ble_eq_true rfl)) dX8_isTold_11 ⟨Nat.le_of_ble_eq_true rfl, Nat.le_of_ble_eq_true rfl⟩) [] [0, 1] rfl rfl rfl rfl rfl (by decide) (fun _ h => Or.inl h) (fun r1 w2 h3 => ?_)
  obtain ⟨rfl, rfl⟩ := h3
  refine z_eq (ws' := [(b5, .inr (5, [.ref r5, .int (nI (ct fs 512))])), (r5, .inl (cy 1, 512, .inl (zB fs)))]) (lv' := [(0, .ref wk), (1, .int (nI came))]) (st' := [.int (nI (hrw vo q.2.1 q.1))]) rfl rfl rfl ?_
  refine z_widen (k' := 0) (n' := 0) (Nat.le_refl _) (Nat.le_refl _) ?_
  refine z_istore_n X (lv' := [(2, .int (nI (hrw vo q.2.1 q.1))), (0, .ref wk), (1, .int (nI came))]) dX8_isTold_14 rfl (by decide) rfl ?_
  refine z_iload_n X dX8_isTold_15 rfl (j := 2) rfl ?_
  refine z_aload_n X dX8_isTold_16 rfl (j := 1) rfl ?_
  refine z_getO X (ci := 8) (C := RX8) (T := TX8) (N := 7) inX8 hW9 rfl 4 (by decide) fl_X8_28 (fun _ h9 => h9) rfl dX8_isTold_17 ?_
  refine z_getO X (ci := 6) (C := RX6) (T := TX6) (N := 3) inX6 hB1 rfl 2 (by decide) fl_X8_46 (fun _ h9 => h9) rfl dX8_isTold_20 ?_
  refine z_icmp_lt X (tgt := 34) dX8_isTold_23 (by decide) (fun c_23 => ?_) (fun c9 => absurd (nI_lt hlt9 (by omega)) c9)
  refine z_aload_n X dX8_isTold_34 rfl (j := 1) rfl ?_
  refine z_getO X (ci := 8) (C := RX8) (T := TX8) (N := 7) inX8 hW9 rfl 2 (by decide) fl_X8_21 (fun _ h9 => h9) rfl dX8_isTold_35 ?_
  refine z_iload_n X dX8_isTold_38 rfl (j := 0) rfl ?_
  refine z_reti X (as := [.ref b5, .int (nI (hrw vo q.2.1 q.1))]) (wc := []) (wr := [(b5, .inr (5, [.ref r5, .int (nI (ct fs 512))])), (r5, .inl (cy 1, 512, .inl (zB fs)))]) (rest := []) (fun H9 locs9 ls9 hP9 hS9 hl9 hb9 hp9 => va_runV (As := [.int (nI (hrw vo q.2.1 q.1))]) (rest := []) X.fix (m_hasRow l D cy (fun z => O z ∨ z ∈ ([(b5, .inr (5, [.ref r5, .int (nI (ct fs 512))])), (r5, .inl (cy 1, 512, .inl (zB fs)))] : va_W)) (Or.inr (List.mem_of_getElem? (i := 0) rfl)) (Or.inr (List.mem_of_getElem? (i := 1) rfl)) (hrw_512 hhk hh1) H9.size) (cwV 1 X.hts (gV ml_X8_138 im_X5_has se_X5_has ni_X5 cd_X5_has) rfl rfl rfl (by decide +kernel) ⟨Nat.le_of_ble_eq_true rfl, Nat.le_of_ble_eq_true rfl⟩) ⟨hb9, z_recvW X (q0 := 0) (ci := 5) (r := (RX5, TX5, 2)) rfl rfl hP9, hp9⟩ rfl rfl hl9.1 rfl (lv_room (Nat.le_of_ble_eq_true rfl)) dX8_isTold_39 ⟨Nat.le_of_ble_eq_true rfl, Nat.le_of_ble_eq_true rfl⟩) [] [0, 1] rfl rfl rfl rfl rfl (by decide) (fun q h => h) (fun r4 w5 h6 => ?_)
  obtain ⟨rfl, rfl⟩ := h6
  refine z_eq (ws' := [(b5, .inr (5, [.ref r5, .int (nI (ct fs 512))])), (r5, .inl (cy 1, 512, .inl (zB fs)))]) (lv' := [(2, .int (nI (hrw vo q.2.1 q.1))), (0, .ref wk), (1, .int (nI came))]) (st' := [.int (zb (fs (hrw vo q.2.1 q.1)))]) rfl rfl rfl ?_
  refine z_widen (k' := 0) (n' := 0) (Nat.le_refl _) (Nat.le_refl _) ?_
  exact z_endz X hr (zb_01 _) [(b5, .inr (5, [.ref r5, .int (nI (ct fs 512))])), (r5, .inl (cy 1, 512, .inl (zB fs)))] [0, 1] rfl rfl rfl ⟨rfl, rfl⟩ dX8_isTold_42
set_option maxHeartbeats 4000000 in
set_option maxRecDepth 100000 in
/-- isTold: behind the last atom -/
theorem m_isTold_end (l : Launch) (D : va_G) (cy : Nat → ClassId) (O : Nat × va_E → Prop) {wk od sz b5 r5 gv hf came : Nat} {w5 : Value} {vo : Nat → Option Nat} {fs : Nat → Bool} {bq rc : Nat} {R : Nat → RRow} {rb : Nat → Nat} {q : URow} (hR : ∀ j, j < rc → RlO O cy (rb j) (R j)) (hq : RuO O cy R rb rc bq q) (hW9 : O (wk, .inr (8, [.ref od, .ref sz, .ref b5, .ref gv, .ref bq, w5, .int (nI hf)]))) (hhf : hf < 2 ^ 31) (hcm : came < 2 ^ 31) (hge : hf ≤ came) (hgv : O (gv, .inl (cy 0, 6, .inl (vA vo)))) (hhk : ∀ k, k < q.1 → ∃ x, tvo vo (q.2.1 k) = some x ∧ x < 8) (hge9 : q.2.2.1 ≤ came) : Ci l yX8_isTold (.code yX8_isTold cX8_isTold 3 (some .boolean) :: WALL) ({ frames := 2, cells := 0, slots := 0, locals := 44 }) D cy O [.ref wk, .int (nI came)] [(b5, .inr (5, [.ref r5, .int (nI (ct fs 512))])), (r5, .inl (cy 1, 512, .inl (zB fs)))] 0 0 (fun (r : Int32) (w : va_W) => r = 1 ∧ w = [(b5, .inr (5, [.ref r5, .int (nI (ct (inc fs (hrw vo q.2.1 q.1)) 512))])), (r5, .inl (cy 1, 512, .inl (zB (inc fs (hrw vo q.2.1 q.1)))))]) := by
  have hq' := hq
  obtain ⟨hd1, aa1, F1, aA1, tA1, hB1, ⟨ta1, T1, hM1, hT1, ht1⟩, hF1, hh1, hm1, hat1⟩ := hq'
  refine z_meti (by decide) rfl rfl (Nat.le_of_ble_eq_true rfl) ?_
  intro p e s m args below meth c X hr hin
  refine z_eq (ws' := [(b5, .inr (5, [.ref r5, .int (nI (ct fs 512))])), (r5, .inl (cy 1, 512, .inl (zB fs)))]) (lv' := [(0, .ref wk), (1, .int (nI came))]) (st' := []) rfl rfl rfl ?_
  refine z_iload_n X dX8_isTold_0 rfl (j := 1) rfl ?_
  refine z_aload_n X dX8_isTold_1 rfl (j := 0) rfl ?_
  refine z_getO X (ci := 8) (C := RX8) (T := TX8) (N := 7) inX8 hW9 rfl 6 (by decide) fl_X8_36 (fun _ h9 => h9) rfl dX8_isTold_2 ?_
  refine z_icmp_ge X (tgt := 10) dX8_isTold_5 (by decide) (fun c_5 => ?_) (fun c9 => absurd (nI_le hge (by omega)) c9)
  refine z_aload_n X dX8_isTold_10 rfl (j := 0) rfl ?_
  refine z_reti X (as := [.ref wk]) (wc := []) (wr := [(b5, .inr (5, [.ref r5, .int (nI (ct fs 512))])), (r5, .inl (cy 1, 512, .inl (zB fs)))]) (rest := []) (fun H9 locs9 ls9 hP9 hS9 hl9 hb9 hp9 => va_runV (As := []) (rest := []) X.fix (m_headRow l D cy O hR hq hW9 hgv hhk H9.size) (cwV 0 X.hts (gV ml_X8_132 im_X8_headRow se_X8_headRow ni_X8 cd_X8_headRow) rfl rfl rfl (by decide +kernel) ⟨Nat.le_of_ble_eq_true rfl, Nat.le_of_ble_eq_true rfl⟩) ⟨hb9, z_recvO X (ci := 8) (r := (RX8, TX8, 7)) hW9 rfl hS9, hp9⟩ rfl rfl hl9.1 rfl (lv_room (Nat.le_of_ble_eq_true rfl)) dX8_isTold_11 ⟨Nat.le_of_ble_eq_true rfl, Nat.le_of_ble_eq_true rfl⟩) [] [0, 1] rfl rfl rfl rfl rfl (by decide) (fun _ h => Or.inl h) (fun r1 w2 h3 => ?_)
  obtain ⟨rfl, rfl⟩ := h3
  refine z_eq (ws' := [(b5, .inr (5, [.ref r5, .int (nI (ct fs 512))])), (r5, .inl (cy 1, 512, .inl (zB fs)))]) (lv' := [(0, .ref wk), (1, .int (nI came))]) (st' := [.int (nI (hrw vo q.2.1 q.1))]) rfl rfl rfl ?_
  refine z_widen (k' := 0) (n' := 0) (Nat.le_refl _) (Nat.le_refl _) ?_
  refine z_istore_n X (lv' := [(2, .int (nI (hrw vo q.2.1 q.1))), (0, .ref wk), (1, .int (nI came))]) dX8_isTold_14 rfl (by decide) rfl ?_
  refine z_iload_n X dX8_isTold_15 rfl (j := 2) rfl ?_
  refine z_aload_n X dX8_isTold_16 rfl (j := 1) rfl ?_
  refine z_getO X (ci := 8) (C := RX8) (T := TX8) (N := 7) inX8 hW9 rfl 4 (by decide) fl_X8_28 (fun _ h9 => h9) rfl dX8_isTold_17 ?_
  refine z_getO X (ci := 6) (C := RX6) (T := TX6) (N := 3) inX6 hB1 rfl 2 (by decide) fl_X8_46 (fun _ h9 => h9) rfl dX8_isTold_20 ?_
  refine z_icmp_lt X (tgt := 34) dX8_isTold_23 (by decide) (fun c9 => absurd c9 (nI_nlt hge9 (by omega))) (fun c_23 => ?_)
  refine z_aload_n X dX8_isTold_26 rfl (j := 1) rfl ?_
  refine z_getO X (ci := 8) (C := RX8) (T := TX8) (N := 7) inX8 hW9 rfl 2 (by decide) fl_X8_21 (fun _ h9 => h9) rfl dX8_isTold_27 ?_
  refine z_iload_n X dX8_isTold_30 rfl (j := 0) rfl ?_
  refine z_retv X (as := [.ref b5, .int (nI (hrw vo q.2.1 q.1))]) (wc := [(b5, .inr (5, [.ref r5, .int (nI (ct fs 512))])), (r5, .inl (cy 1, 512, .inl (zB fs)))]) (wr := []) (rest := []) (fun H9 locs9 ls9 hP9 hS9 hl9 hb9 hp9 => va_runV (As := [.int (nI (hrw vo q.2.1 q.1))]) (rest := []) X.fix (m_includeRow l D cy O (b5 := b5) (r5 := r5) (q := fs) (hrw_512 hhk hh1) H9.size) (cwV 1 X.hts (gV ml_X8_135 im_X5_include se_X5_include ni_X5 cd_X5_include) rfl rfl rfl (by decide +kernel) ⟨Nat.le_of_ble_eq_true rfl, Nat.le_of_ble_eq_true rfl⟩) ⟨hb9, z_recvW X (q0 := 0) (ci := 5) (r := (RX5, TX5, 2)) rfl rfl hP9, hp9⟩ rfl rfl hl9.1 rfl (lv_room (Nat.le_of_ble_eq_true rfl)) dX8_isTold_31 ⟨Nat.le_of_ble_eq_true rfl, Nat.le_of_ble_eq_true rfl⟩) [0, 1] [] rfl rfl rfl rfl rfl (by decide) (fun _ h => Or.inl h) (fun w5 h6 => ?_)
  subst h6
  refine z_eq (ws' := [(b5, .inr (5, [.ref r5, .int (nI (ct (inc fs (hrw vo q.2.1 q.1)) 512))])), (r5, .inl (cy 1, 512, .inl (zB (inc fs (hrw vo q.2.1 q.1)))))]) (lv' := [(2, .int (nI (hrw vo q.2.1 q.1))), (0, .ref wk), (1, .int (nI came))]) (st' := []) rfl rfl rfl ?_
  refine z_widen (k' := 0) (n' := 0) (Nat.le_refl _) (Nat.le_refl _) ?_
  refine z_aload_n X dX8_isTold_34 rfl (j := 1) rfl ?_
  refine z_getO X (ci := 8) (C := RX8) (T := TX8) (N := 7) inX8 hW9 rfl 2 (by decide) fl_X8_21 (fun _ h9 => h9) rfl dX8_isTold_35 ?_
  refine z_iload_n X dX8_isTold_38 rfl (j := 0) rfl ?_
  refine z_reti X (as := [.ref b5, .int (nI (hrw vo q.2.1 q.1))]) (wc := []) (wr := [(b5, .inr (5, [.ref r5, .int (nI (ct (inc fs (hrw vo q.2.1 q.1)) 512))])), (r5, .inl (cy 1, 512, .inl (zB (inc fs (hrw vo q.2.1 q.1)))))]) (rest := []) (fun H9 locs9 ls9 hP9 hS9 hl9 hb9 hp9 => va_runV (As := [.int (nI (hrw vo q.2.1 q.1))]) (rest := []) X.fix (m_hasRow l D cy (fun z => O z ∨ z ∈ ([(b5, .inr (5, [.ref r5, .int (nI (ct (inc fs (hrw vo q.2.1 q.1)) 512))])), (r5, .inl (cy 1, 512, .inl (zB (inc fs (hrw vo q.2.1 q.1)))))] : va_W)) (Or.inr (List.mem_of_getElem? (i := 0) rfl)) (Or.inr (List.mem_of_getElem? (i := 1) rfl)) (hrw_512 hhk hh1) H9.size) (cwV 1 X.hts (gV ml_X8_138 im_X5_has se_X5_has ni_X5 cd_X5_has) rfl rfl rfl (by decide +kernel) ⟨Nat.le_of_ble_eq_true rfl, Nat.le_of_ble_eq_true rfl⟩) ⟨hb9, z_recvW X (q0 := 0) (ci := 5) (r := (RX5, TX5, 2)) rfl rfl hP9, hp9⟩ rfl rfl hl9.1 rfl (lv_room (Nat.le_of_ble_eq_true rfl)) dX8_isTold_39 ⟨Nat.le_of_ble_eq_true rfl, Nat.le_of_ble_eq_true rfl⟩) [] [0, 1] rfl rfl rfl rfl rfl (by decide) (fun q h => h) (fun r7 w8 h9 => ?_)
  obtain ⟨rfl, rfl⟩ := h9
  refine z_eq (ws' := [(b5, .inr (5, [.ref r5, .int (nI (ct (inc fs (hrw vo q.2.1 q.1)) 512))])), (r5, .inl (cy 1, 512, .inl (zB (inc fs (hrw vo q.2.1 q.1)))))]) (lv' := [(2, .int (nI (hrw vo q.2.1 q.1))), (0, .ref wk), (1, .int (nI came))]) (st' := [.int (zb ((inc fs (hrw vo q.2.1 q.1)) (hrw vo q.2.1 q.1)))]) rfl rfl rfl ?_
  refine z_widen (k' := 0) (n' := 0) (Nat.le_refl _) (Nat.le_refl _) ?_
  exact z_endz X hr (zb_01 _) [(b5, .inr (5, [.ref r5, .int (nI (ct (inc fs (hrw vo q.2.1 q.1)) 512))])), (r5, .inl (cy 1, 512, .inl (zB (inc fs (hrw vo q.2.1 q.1)))))] [0, 1] rfl rfl rfl ⟨(by rw [inc]; simp [zb]), rfl⟩ dX8_isTold_42
