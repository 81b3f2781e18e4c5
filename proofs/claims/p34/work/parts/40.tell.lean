/-! Walk: measure, tell; the class's questions about rules -/
/-- the rows that a rule tells -/
def tll (R : Nat → RRow) (u : URow) : Nat → Bool := tls R u u.2.2.1 0 (fun _ => none)
/-- the sizes behind each place -/
def szs (R : Nat → RRow) (u : URow) : Nat → Nat := dlt R u u.2.2.1 0 (fun _ => none)
def grd (R : Nat → RRow) (u : URow) : Prop := nd (vsf u.2.1 u.1) (uva R u (2 ^ u.2.2.1 - 1)) = 0
theorem VB_no : VB (fun _ => none) := fun _ _ h => by cases h
theorem knw_0 (R : Nat → RRow) (u : URow) : knw R u 0 (fun _ => none) := fun v _ => by rw [lk]; exact (Nat.zero_testBit v).symm
theorem tls_512 {R : Nat → RRow} {u : URow} {r : Nat} (h3 : u.1 ≤ 3) (ht : ∀ k, k < u.1 → isT (u.2.1 k)) (hg : nd (vsf u.2.1 u.1) (lk R u u.2.2.1).2 = 0) : ∀ {n came : Nat} {vo : Nat → Option Nat}, came + n = u.2.2.1 → VB vo → knw R u came vo → tls R u n came vo r = true → r < 512
  | 0, came, vo, hc, hv, hk, h => by
    rw [show r = hrw vo u.2.1 u.1 from of_decide_eq_true h]
    exact hrw_512 (HKn.of hk hv ht (by rw [show came = u.2.2.1 by omega]; exact hg)) h3
  | n + 1, came, vo, hc, hv, hk, h => by
    rw [tls] at h
    obtain ⟨i, hi, h⟩ := exB_iff.mp h
    rw [Bool.and_eq_true] at h
    exact tls_512 h3 ht hg (by omega) (VB_lrn hv _ _ _ _) hk.next h.2
/-! the order has each atom once -/
theorem nst_any {R : Nat → RRow} {u : URow} {left known : Nat} : ∀ {k}, (∃ j, j < k ∧ left.testBit j = true) → left.testBit (nst R u left known k).1 = true
  | 0, ⟨j, h, _⟩ => by omega
  | k + 1, ⟨j, h, hb⟩ => by
    rw [nst]
    split
    · rename_i g; exact g.1
    · rename_i g
      by_cases e : ∃ j, j < k ∧ left.testBit j = true
      · exact nst_any e
      · have hj : j = k := by
          rcases Nat.lt_or_ge j k with z | z
          · exact absurd ⟨j, z, hb⟩ e
          · omega
        subst hj
        exfalso
        apply g
        refine ⟨hb, ?_⟩
        have : ∀ m, m ≤ j → (nst R u left known m).2 = none := by
          intro m
          induction m with
          | zero => intro _; rfl
          | succ m ih =>
            intro hm
            rw [nst, if_neg (fun z => e ⟨m, by omega, z.1⟩)]
            exact ih (by omega)
        rw [this j (Nat.le_refl j)]; rfl
theorem lk_ct {R : Nat → RRow} {u : URow} : ∀ {p}, p ≤ u.2.2.1 → ct (lk R u p).1.testBit u.2.2.1 + p = u.2.2.1
  | 0, _ => by
    rw [lk, Nat.add_zero]
    have h : ∀ n, ct (2 ^ u.2.2.1 - 1).testBit n = min n u.2.2.1 := by
      intro n
      induction n with
      | zero => exact (Nat.zero_min _).symm
      | succ n ih => rw [ct, ih, Nat.testBit_two_pow_sub_one]; by_cases g : n < u.2.2.1 <;> simp [g] <;> omega
    show ct (2 ^ u.2.2.1 - 1).testBit u.2.2.1 = _
    rw [h, Nat.min_self]
  | p + 1, hp => by
    have ih := lk_ct (R := R) (u := u) (p := p) (by omega)
    have hex : ∃ j, j < u.2.2.1 ∧ (lk R u p).1.testBit j = true := by
      refine Classical.byContradiction fun z => ?_
      rw [ct_zero.mpr (fun i hi => by
        cases e : (lk R u p).1.testBit i
        · rfl
        · exact absurd ⟨i, hi, e⟩ z)] at ih
      omega
    have hb := nst_any (R := R) (u := u) (known := (lk R u p).2) hex
    have h9 := ct_out (p := (lk R u p).1.testBit) (k := nxt R u (lk R u p).1 (lk R u p).2) hb (nst_lt R u _ _ (by omega))
    have e : ct (lk R u (p + 1)).1.testBit u.2.2.1 = ct (fun i => (lk R u p).1.testBit i && !decide (i = nxt R u (lk R u p).1 (lk R u p).2)) u.2.2.1 := ct_ext fun i _ => by
      rw [lk, nd_bit, Nat.testBit_two_pow]
      congr 2
      simp only [decide_eq_decide]; exact eq_comm
    rw [e]; omega
theorem ord_in {R : Nat → RRow} {u : URow} {p : Nat} (hp : p < u.2.2.1) : (lk R u p).1.testBit (ordF R u p) = true := by
  refine nst_any ?_
  refine Classical.byContradiction fun z => ?_
  have ih := lk_ct (R := R) (u := u) (p := p) (by omega)
  rw [ct_zero.mpr (fun i hi => by
    cases e : (lk R u p).1.testBit i
    · rfl
    · exact absurd ⟨i, hi, e⟩ z)] at ih
  omega
theorem lk_mono {R : Nat → RRow} {u : URow} {i : Nat} : ∀ {p m}, p ≤ m → (lk R u m).1.testBit i = true → (lk R u p).1.testBit i = true
  | p, 0, h, hb => by rw [show p = 0 by omega]; exact hb
  | p, m + 1, h, hb => by
    rcases Nat.lt_or_ge p (m + 1) with g | g
    · refine lk_mono (m := m) (by omega) ?_
      rw [lk, nd_bit, Bool.and_eq_true] at hb; exact hb.1
    · rw [show p = m + 1 by omega]; exact hb
/-- no atom comes twice -/
theorem ord_ne {R : Nat → RRow} {u : URow} {p m : Nat} (h : p < m) (hm : m < u.2.2.1) : ordF R u p ≠ ordF R u m := fun e => by
  have h1 := lk_mono (show p + 1 ≤ m by omega) (ord_in (R := R) hm)
  rw [lk, nd_bit, Nat.testBit_two_pow, Bool.and_eq_true] at h1
  have h2 := h1.2
  rw [← e] at h2
  have : nxt R u (lk R u p).1 (lk R u p).2 = ordF R u p := rfl
  rw [this] at h2; simp at h2
/-- what came is known -/
theorem lk_known {R : Nat → RRow} {u : URow} {k v : Nat} : ∀ {p}, k < u.2.2.1 → (lk R u p).1.testBit k = false → (uvs R u k).testBit v = true → (lk R u p).2.testBit v = true
  | 0, hk, h, _ => by rw [lk, Nat.testBit_two_pow_sub_one] at h; simp [hk] at h
  | p + 1, hk, h, hv => by
    rw [lk] at h ⊢
    rw [Nat.testBit_or, Bool.or_eq_true]
    by_cases e : nxt R u (lk R u p).1 (lk R u p).2 = k
    · rw [e]; exact Or.inr hv
    · refine Or.inl (lk_known hk ?_ hv)
      rw [nd_bit, Nat.testBit_two_pow] at h
      simpa [e] using h
theorem vin_bit {S v : Nat} {vs : Nat → Nat} : ∀ {n}, (vin S vs n).testBit v = true ↔ ∃ k, k < n ∧ S.testBit k = true ∧ (vs k).testBit v = true
  | 0 => by simp [vin]
  | n + 1 => by
    rw [vin]
    by_cases h : S.testBit n = true
    · rw [if_pos h, Nat.testBit_or, Bool.or_eq_true, vin_bit]
      constructor
      · rintro (⟨k, a, b⟩ | b)
        · exact ⟨k, by omega, b⟩
        · exact ⟨n, by omega, h, b⟩
      · rintro ⟨k, a, b, c⟩
        rcases Nat.lt_or_ge k n with g | g
        · exact Or.inl ⟨k, g, b, c⟩
        · rw [show k = n by omega] at c; exact Or.inr c
    · rw [if_neg h, vin_bit]
      constructor
      · rintro ⟨k, a, b⟩; exact ⟨k, by omega, b⟩
      · rintro ⟨k, a, b, c⟩
        rcases Nat.lt_or_ge k n with g | g
        · exact ⟨k, g, b, c⟩
        · rw [show k = n by omega] at b; exact absurd b h
theorem grd_lk {R : Nat → RRow} {u : URow} (h : grd R u) : nd (vsf u.2.1 u.1) (lk R u u.2.2.1).2 = 0 := Nat.eq_of_testBit_eq fun v => by
  rw [Nat.zero_testBit, nd_bit]
  cases e : (vsf u.2.1 u.1).testBit v
  · rfl
  · have h1 := nd_0 h e
    obtain ⟨k, hk, hb, hv⟩ := vin_bit.mp h1
    have h2 : (lk R u u.2.2.1).1.testBit k = false := by
      have := lk_ct (R := R) (u := u) (Nat.le_refl _)
      exact ct_zero.mp (by omega) k hk
    rw [lk_known hk h2 hv]; rfl
/-- the walk's cells, as they may be between two questions -/
def WkW (cy : Nat → ClassId) (wk od sz b5 r5 gv : Nat) (w : va_W) : Prop := ∃ (v4 v5 v6 v7 : Value) (of sf : Nat → Int32) (q0 : Nat → Bool), w = [(wk, .inr (8, [.ref od, .ref sz, .ref b5, .ref gv, v4, v5, v6])), (od, .inl (cy 0, 5, .inl of)), (sz, .inl (cy 0, 5, .inl sf)), (b5, .inr (5, [.ref r5, v7])), (r5, .inl (cy 1, 512, .inl (zB q0))), (gv, .inl (cy 0, 6, .inl (vA (fun _ => none))))] ∧ ∀ i, 512 ≤ i → q0 i = false
def zft (sf : Nat → Int32) (k : Nat) : Nat → Int32 := fun j => if j < k then 0 else sf j
theorem zft_0 (sf : Nat → Int32) : zft sf 0 = sf := funext fun j => by rw [zft, if_neg (by omega)]
theorem zft_s (sf : Nat → Int32) (k : Nat) : upd (zft sf k) k 0 = zft sf (k + 1) := funext fun j => by
  by_cases e : j = k
  · subst e; rw [pk_us, zft, if_pos (by omega)]
  · rw [pk_un e, zft, zft]
    by_cases g : j < k
    · rw [if_pos g, if_pos (by omega)]
    · rw [if_neg g, if_neg (by omega)]
theorem szs_at {R : Nat → RRow} {u : URow} {sf : Nat → Int32} {p : Nat} (hp : p < u.2.2.1) : sadd (zft sf u.2.2.1) (szs R u) p = nI (szs R u p) := by rw [sadd, zft, if_pos hp]; exact Int32.zero_add _
theorem odA_at {R : Nat → RRow} {u : URow} {o : Nat → Int32} {p : Nat} (hp : p < u.2.2.1) : odA R u o u.2.2.1 p = nI (ordF R u p) := by rw [odA, if_pos hp]
set_option maxHeartbeats 4000000 in
set_option maxRecDepth 100000 in
/-- measure(told) -/
theorem m_measure (l : Launch) (D : va_G) (cy : Nat → ClassId) (O : Nat × va_E → Prop) {wk od sz b5 r5 gv : Nat} {v4 v5 v6 v7 : Value} {of sf : Nat → Int32} {q0 : Nat → Bool} {bq rc : Nat} {R : Nat → RRow} {rb : Nat → Nat} {q : URow} (hR : ∀ j, j < rc → RlO O cy (rb j) (R j)) (hq : RuO O cy R rb rc bq q) (hq0 : ∀ i, 512 ≤ i → q0 i = false) : Cv l yX8_measure (.code yX8_measure cX8_measure 3 none :: WALL) ({ frames := 24, cells := 0, slots := 0, locals := 600 }) D cy O [.ref wk, .ref bq] [(wk, .inr (8, [.ref od, .ref sz, .ref b5, .ref gv, v4, v5, v6])), (od, .inl (cy 0, 5, .inl of)), (sz, .inl (cy 0, 5, .inl sf)), (b5, .inr (5, [.ref r5, v7])), (r5, .inl (cy 1, 512, .inl (zB q0))), (gv, .inl (cy 0, 6, .inl (vA (fun _ => none))))] 0 0 (fun (w : va_W) => w = [(wk, .inr (8, [.ref od, .ref sz, .ref b5, .ref gv, .ref bq, .int 0, .int (nI (hfF R q q.2.2.1))])), (od, .inl (cy 0, 5, .inl (odA R q of q.2.2.1))), (sz, .inl (cy 0, 5, .inl (sadd (zft sf q.2.2.1) (szs R q)))), (b5, .inr (5, [.ref r5, v7])), (r5, .inl (cy 1, 512, .inl (zB q0))), (gv, .inl (cy 0, 6, .inl (vA (fun _ => none))))]) := by
  have hq' := hq
  obtain ⟨hd1, aa1, F1, aA1, tA1, hB1, ⟨ta1, T1, hM1, hT1, ht1⟩, hF1, hh1, hm1, hat1⟩ := hq'
  refine z_metv (by decide) rfl rfl (Nat.le_of_ble_eq_true rfl) ?_
  intro p e s m args below meth c X hr hin
  refine z_eq (ws' := [(wk, .inr (8, [.ref od, .ref sz, .ref b5, .ref gv, v4, v5, v6])), (od, .inl (cy 0, 5, .inl of)), (sz, .inl (cy 0, 5, .inl sf)), (b5, .inr (5, [.ref r5, v7])), (r5, .inl (cy 1, 512, .inl (zB q0))), (gv, .inl (cy 0, 6, .inl (vA (fun _ => none))))]) (lv' := [(0, .ref wk), (1, .ref bq)]) (st' := []) rfl rfl rfl ?_
  have L : ∀ (d : Nat) (k : Nat), k + d = q.2.2.1 → Zz D (va_A [(wk, .inr (8, [.ref od, .ref sz, .ref b5, .ref gv, v4, v5, v6])), (od, .inl (cy 0, 5, .inl of)), (sz, .inl (cy 0, 5, .inl sf)), (b5, .inr (5, [.ref r5, v7])), (r5, .inl (cy 1, 512, .inl (zB q0))), (gv, .inl (cy 0, 6, .inl (vA (fun _ => none))))] s.heap.size) 3 p l e ({ frames := 24, cells := 0, slots := 0, locals := 600 }) s m args below meth c (MQ below (va_Qv (fun (w : va_W) => w = [(wk, .inr (8, [.ref od, .ref sz, .ref b5, .ref gv, .ref bq, .int 0, .int (nI (hfF R q q.2.2.1))])), (od, .inl (cy 0, 5, .inl (odA R q of q.2.2.1))), (sz, .inl (cy 0, 5, .inl (sadd (zft sf q.2.2.1) (szs R q)))), (b5, .inr (5, [.ref r5, v7])), (r5, .inl (cy 1, 512, .inl (zB q0))), (gv, .inl (cy 0, 6, .inl (vA (fun _ => none))))]) (end_ D [(wk, .inr (8, [.ref od, .ref sz, .ref b5, .ref gv, v4, v5, v6])), (od, .inl (cy 0, 5, .inl of)), (sz, .inl (cy 0, 5, .inl sf)), (b5, .inr (5, [.ref r5, v7])), (r5, .inl (cy 1, 512, .inl (zB q0))), (gv, .inl (cy 0, 6, .inl (vA (fun _ => none))))] s.heap.size) (va_A [(wk, .inr (8, [.ref od, .ref sz, .ref b5, .ref gv, v4, v5, v6])), (od, .inl (cy 0, 5, .inl of)), (sz, .inl (cy 0, 5, .inl sf)), (b5, .inr (5, [.ref r5, v7])), (r5, .inl (cy 1, 512, .inl (zB q0))), (gv, .inl (cy 0, 6, .inl (vA (fun _ => none))))] s.heap.size)) args s 0 0 (va_A [(wk, .inr (8, [.ref od, .ref sz, .ref b5, .ref gv, v4, v5, v6])), (od, .inl (cy 0, 5, .inl of)), (sz, .inl (cy 0, 5, .inl sf)), (b5, .inr (5, [.ref r5, v7])), (r5, .inl (cy 1, 512, .inl (zB q0))), (gv, .inl (cy 0, 6, .inl (vA (fun _ => none))))] s.heap.size)) [(wk, .inr (8, [.ref od, .ref sz, .ref b5, .ref gv, .ref bq, v5, .int (nI (hfF R q q.2.2.1))])), (od, .inl (cy 0, 5, .inl (odA R q of q.2.2.1))), (sz, .inl (cy 0, 5, .inl (zft sf k))), (b5, .inr (5, [.ref r5, v7])), (r5, .inl (cy 1, 512, .inl (zB q0))), (gv, .inl (cy 0, 6, .inl (vA (fun _ => none))))] [(2, .int (nI k)), (0, .ref wk), (1, .ref bq)] 0 0 7 [] := by
    intro d
    induction d with
    | zero =>
      intro k hL0
      refine z_iload_n X dX8_measure_7 rfl (j := 0) rfl ?_
      refine z_aload_n X dX8_measure_8 rfl (j := 2) rfl ?_
      refine z_getO X (ci := 6) (C := RX6) (T := TX6) (N := 3) inX6 hB1 rfl 2 (by decide) fl_X8_46 (fun _ h9 => h9) rfl dX8_measure_9 ?_
      refine z_icmp_ge X (tgt := 28) dX8_measure_12 (by decide) (fun c_12 => ?_) (fun c9 => absurd (by rw [show k = q.2.2.1 by omega]; exact nI_le (Nat.le_refl _) (by omega)) c9)
      refine z_aload_n X dX8_measure_28 rfl (j := 1) rfl ?_
      refine z_iconst X (v := 0) dX8_measure_29 (by decide) ?_
      refine z_putW X 0 (C := RX8) (T := TX8) (N := 7) inX8 tyX8 tyX8_ok nmX8 rfl rfl 5 (by decide) fl_X8_32 (fun _ h9 => h9) rfl (ty := .boolean) (by decide +kernel) rfl rfl (Nat.le_of_ble_eq_true rfl) (ws' := [(wk, .inr (8, [.ref od, .ref sz, .ref b5, .ref gv, .ref bq, .int 0, .int (nI (hfF R q q.2.2.1))])), (od, .inl (cy 0, 5, .inl (odA R q of q.2.2.1))), (sz, .inl (cy 0, 5, .inl (zft sf k))), (b5, .inr (5, [.ref r5, v7])), (r5, .inl (cy 1, 512, .inl (zB q0))), (gv, .inl (cy 0, 6, .inl (vA (fun _ => none))))]) rfl dX8_measure_30 ?_
      refine z_aload_n X dX8_measure_33 rfl (j := 1) rfl ?_
      refine z_iconst X (v := 0) dX8_measure_34 (by decide) ?_
      refine z_retv X (as := [.ref wk, .int 0]) (wc := [(sz, .inl (cy 0, 5, .inl (zft sf k))), (gv, .inl (cy 0, 6, .inl (vA (fun _ => none))))]) (wr := [(wk, .inr (8, [.ref od, .ref sz, .ref b5, .ref gv, .ref bq, .int 0, .int (nI (hfF R q q.2.2.1))])), (od, .inl (cy 0, 5, .inl (odA R q of q.2.2.1))), (b5, .inr (5, [.ref r5, v7])), (r5, .inl (cy 1, 512, .inl (zB q0)))]) (rest := []) (fun H9 locs9 ls9 hP9 hS9 hl9 hb9 hp9 => va_runV (As := [.int 0]) (rest := []) X.fix (m_goOn_m l D cy (fun z => O z ∨ z ∈ ([(wk, .inr (8, [.ref od, .ref sz, .ref b5, .ref gv, .ref bq, .int 0, .int (nI (hfF R q q.2.2.1))])), (od, .inl (cy 0, 5, .inl (odA R q of q.2.2.1)))] : va_W)) (fun j hj => (hR j hj).mono fun q h => Or.inl h) (hq.mono fun q h => Or.inl h) (Or.inr (List.mem_of_getElem? (i := 0) rfl)) (Or.inr (List.mem_of_getElem? (i := 1) rfl)) (fun p hp => odA_at hp) rfl q.2.2.1 0 (by omega) (fun _ => none) (zft sf k) VB_no H9.size) (cwV 1 X.hts (gV ml_X8_75 im_X8_goOn se_X8_goOn ni_X8 cd_X8_goOn) rfl rfl rfl (by decide +kernel) ⟨by show (2 * q.2.2.1 + 6) + 1 ≤ 24; omega, by show 8 + (7 + 11) + (40 * q.2.2.1 + 120) ≤ 600; omega⟩) ⟨hb9, z_recvW X (q0 := 0) (ci := 8) (r := (RX8, TX8, 7)) rfl rfl hP9, hp9⟩ rfl rfl hl9.1 rfl (lv_room (Nat.le_of_ble_eq_true rfl)) dX8_measure_35 ⟨Nat.le_of_ble_eq_true rfl, Nat.le_of_ble_eq_true rfl⟩) [2, 5] [0, 1, 3, 4] rfl rfl rfl rfl rfl (by decide) (fun z h => h.elim Or.inl (fun y => Or.inr (by simp only [List.mem_cons, List.not_mem_nil, or_false] at y ⊢; rcases y with y | y <;> simp [y]))) (fun w2 h3 => ?_)
      subst h3
      rw [show dlt R q q.2.2.1 0 (fun _ => none) = szs R q from rfl]
      refine z_eq (ws' := [(wk, .inr (8, [.ref od, .ref sz, .ref b5, .ref gv, .ref bq, .int 0, .int (nI (hfF R q q.2.2.1))])), (od, .inl (cy 0, 5, .inl (odA R q of q.2.2.1))), (b5, .inr (5, [.ref r5, v7])), (r5, .inl (cy 1, 512, .inl (zB q0))), (sz, .inl (cy 0, 5, .inl (sadd (zft sf k) (szs R q)))), (gv, .inl (cy 0, 6, .inl (vA (fun _ => none))))]) (lv' := [(2, .int (nI k)), (0, .ref wk), (1, .ref bq)]) (st' := []) rfl rfl rfl ?_
      refine z_widen (k' := 0) (n' := 0) (Nat.le_refl _) (Nat.le_refl _) ?_
      refine z_eq (ws' := [(wk, .inr (8, [.ref od, .ref sz, .ref b5, .ref gv, .ref bq, .int 0, .int (nI (hfF R q q.2.2.1))])), (od, .inl (cy 0, 5, .inl (odA R q of q.2.2.1))), (b5, .inr (5, [.ref r5, v7])), (r5, .inl (cy 1, 512, .inl (zB q0))), (sz, .inl (cy 0, 5, .inl (sadd (zft sf q.2.2.1) (szs R q)))), (gv, .inl (cy 0, 6, .inl (vA (fun _ => none))))]) (lv' := [(2, .int (nI k)), (0, .ref wk), (1, .ref bq)]) (st' := []) (by rw [show k = q.2.2.1 by omega]) rfl rfl ?_
      exact z_endv X hr [(wk, .inr (8, [.ref od, .ref sz, .ref b5, .ref gv, .ref bq, .int 0, .int (nI (hfF R q q.2.2.1))])), (od, .inl (cy 0, 5, .inl (odA R q of q.2.2.1))), (sz, .inl (cy 0, 5, .inl (sadd (zft sf q.2.2.1) (szs R q)))), (b5, .inr (5, [.ref r5, v7])), (r5, .inl (cy 1, 512, .inl (zB q0))), (gv, .inl (cy 0, 6, .inl (vA (fun _ => none))))] [0, 1, 4, 2, 3, 5] rfl rfl rfl rfl dX8_measure_38
    | succ d ih =>
      intro k hL0
      refine z_iload_n X dX8_measure_7 rfl (j := 0) rfl ?_
      refine z_aload_n X dX8_measure_8 rfl (j := 2) rfl ?_
      refine z_getO X (ci := 6) (C := RX6) (T := TX6) (N := 3) inX6 hB1 rfl 2 (by decide) fl_X8_46 (fun _ h9 => h9) rfl dX8_measure_9 ?_
      refine z_icmp_ge X (tgt := 28) dX8_measure_12 (by decide) (fun c9 => absurd c9 (nI_ge (by omega) (by omega))) (fun c_12 => ?_)
      refine z_aload_n X dX8_measure_15 rfl (j := 1) rfl ?_
      refine z_getW X 0 (C := RX8) (T := TX8) (N := 7) inX8 rfl rfl 1 (by decide) fl_X8_15 (fun _ h9 => h9) rfl dX8_measure_16 ?_
      refine z_iload_n X dX8_measure_19 rfl (j := 0) rfl ?_
      refine z_iconst X (v := 0) dX8_measure_20 (by decide) ?_
      refine z_iastW X 2 rfl (vp_in_nI (by omega) (by decide)) (ws' := [(wk, .inr (8, [.ref od, .ref sz, .ref b5, .ref gv, .ref bq, v5, .int (nI (hfF R q q.2.2.1))])), (od, .inl (cy 0, 5, .inl (odA R q of q.2.2.1))), (sz, .inl (cy 0, 5, .inl (zft sf (k + 1)))), (b5, .inr (5, [.ref r5, v7])), (r5, .inl (cy 1, 512, .inl (zB q0))), (gv, .inl (cy 0, 6, .inl (vA (fun _ => none))))]) (by rw [nI_clamp (show k < 2 ^ 31 by omega), zft_s]; rfl) dX8_measure_21 ?_
      refine z_iinc X (j := 0) (v := (nI (k + 1))) (lv' := [(2, .int (nI (k + 1))), (0, .ref wk), (1, .ref bq)]) dX8_measure_22 rfl (nI_1 k) (by decide) rfl ?_
      refine z_goto X (tgt := 7) dX8_measure_25 (by decide) ?_
      refine z_eq (ws' := [(wk, .inr (8, [.ref od, .ref sz, .ref b5, .ref gv, .ref bq, v5, .int (nI (hfF R q q.2.2.1))])), (od, .inl (cy 0, 5, .inl (odA R q of q.2.2.1))), (sz, .inl (cy 0, 5, .inl (zft sf (k + 1)))), (b5, .inr (5, [.ref r5, v7])), (r5, .inl (cy 1, 512, .inl (zB q0))), (gv, .inl (cy 0, 6, .inl (vA (fun _ => none))))]) (lv' := [(2, .int (nI (k + 1))), (0, .ref wk), (1, .ref bq)]) (st' := []) rfl rfl rfl ?_
      exact ih (k + 1) (by omega)
  refine z_aload_n X dX8_measure_0 rfl (j := 0) rfl ?_
  refine z_aload_n X dX8_measure_1 rfl (j := 1) rfl ?_
  refine z_retv X (as := [.ref wk, .ref bq]) (wc := [(wk, .inr (8, [.ref od, .ref sz, .ref b5, .ref gv, v4, v5, v6])), (od, .inl (cy 0, 5, .inl of))]) (wr := [(sz, .inl (cy 0, 5, .inl sf)), (b5, .inr (5, [.ref r5, v7])), (r5, .inl (cy 1, 512, .inl (zB q0))), (gv, .inl (cy 0, 6, .inl (vA (fun _ => none))))]) (rest := []) (fun H9 locs9 ls9 hP9 hS9 hl9 hb9 hp9 => va_runV (As := [.ref bq]) (rest := []) X.fix (m_arrange l D cy O hR hq H9.size) (cwV 1 X.hts (gV ml_X8_71 im_X8_arrange se_X8_arrange ni_X8 cd_X8_arrange) rfl rfl rfl (by decide +kernel) ⟨by show 3 + 1 ≤ 24; omega, by show 8 + (6 + 11) + 70 ≤ 600; omega⟩) ⟨hb9, z_recvW X (q0 := 0) (ci := 8) (r := (RX8, TX8, 7)) rfl rfl hP9, hp9⟩ rfl rfl hl9.1 rfl (lv_room (Nat.le_of_ble_eq_true rfl)) dX8_measure_2 ⟨Nat.le_of_ble_eq_true rfl, Nat.le_of_ble_eq_true rfl⟩) [0, 1] [2, 3, 4, 5] rfl rfl rfl rfl rfl (by decide) (fun _ h => Or.inl h) (fun w5 h6 => ?_)
  subst h6
  refine z_eq (ws' := [(sz, .inl (cy 0, 5, .inl sf)), (b5, .inr (5, [.ref r5, v7])), (r5, .inl (cy 1, 512, .inl (zB q0))), (gv, .inl (cy 0, 6, .inl (vA (fun _ => none)))), (wk, .inr (8, [.ref od, .ref sz, .ref b5, .ref gv, .ref bq, v5, .int (nI (hfF R q q.2.2.1))])), (od, .inl (cy 0, 5, .inl (odA R q of q.2.2.1)))]) (lv' := [(0, .ref wk), (1, .ref bq)]) (st' := []) rfl rfl rfl ?_
  refine z_widen (k' := 0) (n' := 0) (Nat.le_refl _) (Nat.le_refl _) ?_
  refine z_iconst X (v := 0) dX8_measure_5 (by decide) ?_
  refine z_istore_n X (lv' := [(2, .int 0), (0, .ref wk), (1, .ref bq)]) dX8_measure_6 rfl (by decide) rfl ?_
  refine z_ws (ws' := [(wk, .inr (8, [.ref od, .ref sz, .ref b5, .ref gv, .ref bq, v5, .int (nI (hfF R q q.2.2.1))])), (od, .inl (cy 0, 5, .inl (odA R q of q.2.2.1))), (sz, .inl (cy 0, 5, .inl sf)), (b5, .inr (5, [.ref r5, v7])), (r5, .inl (cy 1, 512, .inl (zB q0))), (gv, .inl (cy 0, 6, .inl (vA (fun _ => none))))]) [4, 5, 0, 1, 2, 3] rfl rfl rfl ?_
  refine z_eq (ws' := [(wk, .inr (8, [.ref od, .ref sz, .ref b5, .ref gv, .ref bq, v5, .int (nI (hfF R q q.2.2.1))])), (od, .inl (cy 0, 5, .inl (odA R q of q.2.2.1))), (sz, .inl (cy 0, 5, .inl (zft sf 0))), (b5, .inr (5, [.ref r5, v7])), (r5, .inl (cy 1, 512, .inl (zB q0))), (gv, .inl (cy 0, 6, .inl (vA (fun _ => none))))]) (lv' := [(2, .int (nI 0)), (0, .ref wk), (1, .ref bq)]) (st' := []) (by rw [zft_0]) rfl rfl ?_
  exact L q.2.2.1 0 (by omega)
set_option maxHeartbeats 4000000 in
set_option maxRecDepth 100000 in
/-- tell(told) -/
theorem m_tell (l : Launch) (D : va_G) (cy : Nat → ClassId) (O : Nat × va_E → Prop) {wk od sz b5 r5 gv : Nat} {v4 v5 v6 v7 : Value} {of sf : Nat → Int32} {q0 : Nat → Bool} {bq rc : Nat} {R : Nat → RRow} {rb : Nat → Nat} {q : URow} (hR : ∀ j, j < rc → RlO O cy (rb j) (R j)) (hq : RuO O cy R rb rc bq q) (hq0 : ∀ i, 512 ≤ i → q0 i = false) (hgr : grd R q) : Cr l yX8_tell (.code yX8_tell cX8_tell 2 (some (.object "Thimble$RowSet")) :: WALL) ({ frames := 24, cells := 0, slots := 0, locals := 600 }) D cy O [.ref wk, .ref bq] [(wk, .inr (8, [.ref od, .ref sz, .ref b5, .ref gv, v4, v5, v6])), (od, .inl (cy 0, 5, .inl of)), (sz, .inl (cy 0, 5, .inl sf)), (b5, .inr (5, [.ref r5, v7])), (r5, .inl (cy 1, 512, .inl (zB q0))), (gv, .inl (cy 0, 6, .inl (vA (fun _ => none))))] 0 0 (fun (r : Nat) (w : va_W) => r = b5 ∧ ∃ sf' : Nat → Int32, w = [(wk, .inr (8, [.ref od, .ref sz, .ref b5, .ref gv, .ref bq, .int 1, .int (nI (hfF R q q.2.2.1))])), (od, .inl (cy 0, 5, .inl (odA R q of q.2.2.1))), (sz, .inl (cy 0, 5, .inl sf')), (b5, .inr (5, [.ref r5, .int (nI (ct (tll R q) 512))])), (r5, .inl (cy 1, 512, .inl (zB (tll R q)))), (gv, .inl (cy 0, 6, .inl (vA (fun _ => none))))]) := by
  have hq' := hq
  obtain ⟨hd1, aa1, F1, aA1, tA1, hB1, ⟨ta1, T1, hM1, hT1, ht1⟩, hF1, hh1, hm1, hat1⟩ := hq'
  refine z_metr (by decide) rfl rfl (Nat.le_of_ble_eq_true rfl) ?_
  intro p e s m args below meth c X hr hin
  refine z_eq (ws' := [(wk, .inr (8, [.ref od, .ref sz, .ref b5, .ref gv, v4, v5, v6])), (od, .inl (cy 0, 5, .inl of)), (sz, .inl (cy 0, 5, .inl sf)), (b5, .inr (5, [.ref r5, v7])), (r5, .inl (cy 1, 512, .inl (zB q0))), (gv, .inl (cy 0, 6, .inl (vA (fun _ => none))))]) (lv' := [(0, .ref wk), (1, .ref bq)]) (st' := []) rfl rfl rfl ?_
  refine z_aload_n X dX8_tell_0 rfl (j := 0) rfl ?_
  refine z_aload_n X dX8_tell_1 rfl (j := 1) rfl ?_
  refine z_retv X (as := [.ref wk, .ref bq]) (wc := [(wk, .inr (8, [.ref od, .ref sz, .ref b5, .ref gv, v4, v5, v6])), (od, .inl (cy 0, 5, .inl of))]) (wr := [(sz, .inl (cy 0, 5, .inl sf)), (b5, .inr (5, [.ref r5, v7])), (r5, .inl (cy 1, 512, .inl (zB q0))), (gv, .inl (cy 0, 6, .inl (vA (fun _ => none))))]) (rest := []) (fun H9 locs9 ls9 hP9 hS9 hl9 hb9 hp9 => va_runV (As := [.ref bq]) (rest := []) X.fix (m_arrange l D cy O hR hq H9.size) (cwV 1 X.hts (gV ml_X8_71 im_X8_arrange se_X8_arrange ni_X8 cd_X8_arrange) rfl rfl rfl (by decide +kernel) ⟨by show 3 + 1 ≤ 24; omega, by show 8 + (6 + 11) + 70 ≤ 600; omega⟩) ⟨hb9, z_recvW X (q0 := 0) (ci := 8) (r := (RX8, TX8, 7)) rfl rfl hP9, hp9⟩ rfl rfl hl9.1 rfl (lv_room (Nat.le_of_ble_eq_true rfl)) dX8_tell_2 ⟨Nat.le_of_ble_eq_true rfl, Nat.le_of_ble_eq_true rfl⟩) [0, 1] [2, 3, 4, 5] rfl rfl rfl rfl rfl (by decide) (fun _ h => Or.inl h) (fun w2 h3 => ?_)
  subst h3
  refine z_eq (ws' := [(sz, .inl (cy 0, 5, .inl sf)), (b5, .inr (5, [.ref r5, v7])), (r5, .inl (cy 1, 512, .inl (zB q0))), (gv, .inl (cy 0, 6, .inl (vA (fun _ => none)))), (wk, .inr (8, [.ref od, .ref sz, .ref b5, .ref gv, .ref bq, v5, .int (nI (hfF R q q.2.2.1))])), (od, .inl (cy 0, 5, .inl (odA R q of q.2.2.1)))]) (lv' := [(0, .ref wk), (1, .ref bq)]) (st' := []) rfl rfl rfl ?_
  refine z_widen (k' := 0) (n' := 0) (Nat.le_refl _) (Nat.le_refl _) ?_
  refine z_aload_n X dX8_tell_5 rfl (j := 0) rfl ?_
  refine z_getW X 4 (C := RX8) (T := TX8) (N := 7) inX8 rfl rfl 2 (by decide) fl_X8_21 (fun _ h9 => h9) rfl dX8_tell_6 ?_
  refine z_retv X (as := [.ref b5]) (wc := [(b5, .inr (5, [.ref r5, v7])), (r5, .inl (cy 1, 512, .inl (zB q0)))]) (wr := [(sz, .inl (cy 0, 5, .inl sf)), (gv, .inl (cy 0, 6, .inl (vA (fun _ => none)))), (wk, .inr (8, [.ref od, .ref sz, .ref b5, .ref gv, .ref bq, v5, .int (nI (hfF R q q.2.2.1))])), (od, .inl (cy 0, 5, .inl (odA R q of q.2.2.1)))]) (rest := []) (fun H9 locs9 ls9 hP9 hS9 hl9 hb9 hp9 => va_runV (As := []) (rest := []) X.fix (m_clear l D cy O (b5 := b5) (r5 := r5) hq0 H9.size) (cwV 0 X.hts (gV ml_X8_79 im_X5_clear se_X5_clear ni_X5 cd_X5_clear) rfl rfl rfl (by decide +kernel) ⟨by show 0 + 1 ≤ 24; omega, by show 8 + (2 + 11) + 0 ≤ 600; omega⟩) ⟨hb9, z_recvW X (q0 := 1) (ci := 5) (r := (RX5, TX5, 2)) rfl rfl hP9, hp9⟩ rfl rfl hl9.1 rfl (lv_room (Nat.le_of_ble_eq_true rfl)) dX8_tell_9 ⟨Nat.le_of_ble_eq_true rfl, Nat.le_of_ble_eq_true rfl⟩) [1, 2] [0, 3, 4, 5] rfl rfl rfl rfl rfl (by decide) (fun _ h => Or.inl h) (fun w5 h6 => ?_)
  subst h6
  refine z_eq (ws' := [(sz, .inl (cy 0, 5, .inl sf)), (gv, .inl (cy 0, 6, .inl (vA (fun _ => none)))), (wk, .inr (8, [.ref od, .ref sz, .ref b5, .ref gv, .ref bq, v5, .int (nI (hfF R q q.2.2.1))])), (od, .inl (cy 0, 5, .inl (odA R q of q.2.2.1))), (b5, .inr (5, [.ref r5, .int (nI (ct (fun _ => false) 512))])), (r5, .inl (cy 1, 512, .inl (zB (fun _ => false))))]) (lv' := [(0, .ref wk), (1, .ref bq)]) (st' := []) rfl rfl rfl ?_
  refine z_widen (k' := 0) (n' := 0) (Nat.le_refl _) (Nat.le_refl _) ?_
  refine z_aload_n X dX8_tell_12 rfl (j := 0) rfl ?_
  refine z_iconst X (v := 1) dX8_tell_13 (by decide) ?_
  refine z_putW X 2 (C := RX8) (T := TX8) (N := 7) inX8 tyX8 tyX8_ok nmX8 rfl rfl 5 (by decide) fl_X8_32 (fun _ h9 => h9) rfl (ty := .boolean) (by decide +kernel) rfl rfl (Nat.le_of_ble_eq_true rfl) (ws' := [(sz, .inl (cy 0, 5, .inl sf)), (gv, .inl (cy 0, 6, .inl (vA (fun _ => none)))), (wk, .inr (8, [.ref od, .ref sz, .ref b5, .ref gv, .ref bq, .int 1, .int (nI (hfF R q q.2.2.1))])), (od, .inl (cy 0, 5, .inl (odA R q of q.2.2.1))), (b5, .inr (5, [.ref r5, .int (nI (ct (fun _ => false) 512))])), (r5, .inl (cy 1, 512, .inl (zB (fun _ => false))))]) rfl dX8_tell_14 ?_
  refine z_aload_n X dX8_tell_17 rfl (j := 0) rfl ?_
  refine z_iconst X (v := 0) dX8_tell_18 (by decide) ?_
  refine z_retv X (as := [.ref wk, .int 0]) (wc := [(sz, .inl (cy 0, 5, .inl sf)), (b5, .inr (5, [.ref r5, .int (nI (ct (fun _ => false) 512))])), (r5, .inl (cy 1, 512, .inl (zB (fun _ => false)))), (gv, .inl (cy 0, 6, .inl (vA (fun _ => none))))]) (wr := [(wk, .inr (8, [.ref od, .ref sz, .ref b5, .ref gv, .ref bq, .int 1, .int (nI (hfF R q q.2.2.1))])), (od, .inl (cy 0, 5, .inl (odA R q of q.2.2.1)))]) (rest := []) (fun H9 locs9 ls9 hP9 hS9 hl9 hb9 hp9 => va_runV (As := [.int 0]) (rest := []) X.fix (m_goOn_t l D cy (fun z => O z ∨ z ∈ ([(wk, .inr (8, [.ref od, .ref sz, .ref b5, .ref gv, .ref bq, .int 1, .int (nI (hfF R q q.2.2.1))])), (od, .inl (cy 0, 5, .inl (odA R q of q.2.2.1)))] : va_W)) (fun j hj => (hR j hj).mono fun q h => Or.inl h) (hq.mono fun q h => Or.inl h) (Or.inr (List.mem_of_getElem? (i := 0) rfl)) (Or.inr (List.mem_of_getElem? (i := 1) rfl)) (fun p hp => odA_at hp) rfl (grd_lk hgr) q.2.2.1 0 (by omega) (fun _ => none) sf (fun _ => false) VB_no (knw_0 R q) H9.size) (cwV 1 X.hts (gV ml_X8_75 im_X8_goOn se_X8_goOn ni_X8 cd_X8_goOn) rfl rfl rfl (by decide +kernel) ⟨by show (2 * q.2.2.1 + 6) + 1 ≤ 24; omega, by show 8 + (7 + 11) + (40 * q.2.2.1 + 120) ≤ 600; omega⟩) ⟨hb9, z_recvW X (q0 := 2) (ci := 8) (r := (RX8, TX8, 7)) rfl rfl hP9, hp9⟩ rfl rfl hl9.1 rfl (lv_room (Nat.le_of_ble_eq_true rfl)) dX8_tell_19 ⟨Nat.le_of_ble_eq_true rfl, Nat.le_of_ble_eq_true rfl⟩) [0, 4, 5, 1] [2, 3] rfl rfl rfl rfl rfl (by decide) (fun z h => h.elim Or.inl (fun y => Or.inr (by simp only [List.mem_cons, List.not_mem_nil, or_false] at y ⊢; rcases y with y | y <;> simp [y]))) (fun w8 h9 => ?_)
  obtain ⟨sy, rfl⟩ := h9
  rw [show tadd (fun _ => false) R q q.2.2.1 0 (fun _ => none) = tll R q from funext fun r => by rw [tadd, Bool.false_or]; rfl]
  refine z_eq (ws' := [(wk, .inr (8, [.ref od, .ref sz, .ref b5, .ref gv, .ref bq, .int 1, .int (nI (hfF R q q.2.2.1))])), (od, .inl (cy 0, 5, .inl (odA R q of q.2.2.1))), (sz, .inl (cy 0, 5, .inl sy)), (b5, .inr (5, [.ref r5, .int (nI (ct (tll R q) 512))])), (r5, .inl (cy 1, 512, .inl (zB (tll R q)))), (gv, .inl (cy 0, 6, .inl (vA (fun _ => none))))]) (lv' := [(0, .ref wk), (1, .ref bq)]) (st' := []) rfl rfl rfl ?_
  refine z_widen (k' := 0) (n' := 0) (Nat.le_refl _) (Nat.le_refl _) ?_
  refine z_aload_n X dX8_tell_22 rfl (j := 0) rfl ?_
  refine z_getW X 0 (C := RX8) (T := TX8) (N := 7) inX8 rfl rfl 2 (by decide) fl_X8_21 (fun _ h9 => h9) rfl dX8_tell_23 ?_
  exact z_endr X (Or.inl ⟨_, rfl⟩) hr [(wk, .inr (8, [.ref od, .ref sz, .ref b5, .ref gv, .ref bq, .int 1, .int (nI (hfF R q q.2.2.1))])), (od, .inl (cy 0, 5, .inl (odA R q of q.2.2.1))), (sz, .inl (cy 0, 5, .inl sy)), (b5, .inr (5, [.ref r5, .int (nI (ct (tll R q) 512))])), (r5, .inl (cy 1, 512, .inl (zB (tll R q)))), (gv, .inl (cy 0, 6, .inl (vA (fun _ => none))))] [0, 1, 2, 3, 4, 5] rfl rfl rfl ⟨rfl, sy, rfl⟩ dX8_tell_26
/-- which atom the one at place j was, of those that stay -/
def kix (S j : Nat) : Nat := ft (fun i => S.testBit i && decide (ct S.testBit i = j)) 5
theorem kix_is {S k : Nat} (hk : k < 5) (h : S.testBit k = true) : kix S (ct S.testBit k) = k := by
  refine ft_is (Nat.le_of_lt hk) (fun i hi => ?_) (fun _ => by simp [h])
  cases h9 : S.testBit i
  · rfl
  · have h8 := ct_le_of (q := S.testBit) (show i + 1 ≤ k by omega)
    rw [ct_s_t h9] at h8
    simp; omega
theorem kix_lt {S j m : Nat} (hm : m ≤ 5) (h : j < ct S.testBit m) : kix S j < m ∧ S.testBit (kix S j) = true ∧ ct S.testBit (kix S j) = j := by
  induction m with
  | zero => simp [ct] at h
  | succ m ih =>
    cases e : S.testBit m
    · rw [ct_s_f e] at h
      have := ih (by omega) h
      exact ⟨by omega, this.2⟩
    · rw [ct_s_t e] at h
      rcases Nat.lt_or_ge j (ct S.testBit m) with g | g
      · have := ih (by omega) g
        exact ⟨by omega, this.2⟩
      · have hj : j = ct S.testBit m := by omega
        rw [hj, kix_is (by omega) e]
        exact ⟨by omega, e, rfl⟩
def kpF (S : Nat) (F : Nat → Option Nat) (k : Nat) : Nat → Option Nat := fun j => if j < ct S.testBit k then F (kix S j) else F j
theorem kpF_y {S k : Nat} {F : Nat → Option Nat} (hk : k < 5) (h : S.testBit k = true) : va_up (kpF S F k) (ct S.testBit k) (F k) = kpF S F (k + 1) := funext fun j => by
  rw [kpF, ct_s_t h]
  by_cases e : j = ct S.testBit k
  · subst e; rw [va_up_self, if_pos (by omega), kix_is hk h]
  · rw [va_up_ne _ _ e, kpF]
    by_cases g : j < ct S.testBit k
    · rw [if_pos g, if_pos (by omega)]
    · rw [if_neg g, if_neg (by omega)]
theorem kpF_n {S k : Nat} {F : Nat → Option Nat} (h : S.testBit k = false) : kpF S F k = kpF S F (k + 1) := funext fun j => by rw [kpF, kpF, ct_s_f h]
set_option maxHeartbeats 4000000 in
set_option maxRecDepth 100000 in
/-- keepAtoms(kept) -/
theorem m_keepAtoms (l : Launch) (D : va_G) (cy : Nat → ClassId) (O : Nat × va_E → Prop) {b aa m9 S : Nat} {hd : Value} {F : Nat → Option Nat} {aA : Nat → Nat} (hS : S < 2 ^ 31) (hm9 : m9 ≤ 5) (hF : ∀ k, k < m9 → F k = some (aA k)) (hA : ∀ k, k < m9 → ∃ x y : Value, O (aA k, .inr (0, [x, y]))) : Cv l yX6_keepAtoms (.code yX6_keepAtoms cX6_keepAtoms 4 none :: WALL) ({ frames := 1, cells := 0, slots := 0, locals := 21 }) D cy O [.ref b, .int (nI S)] [(b, .inr (6, [hd, .ref aa, .int (nI m9)])), (aa, .inl (cy 5, 5, .inr (.inr (.inr (.inr F)))))] 0 0 (fun (w : va_W) => w = [(b, .inr (6, [hd, .ref aa, .int (nI (ct S.testBit m9))])), (aa, .inl (cy 5, 5, .inr (.inr (.inr (.inr (kpF S F m9))))))]) := by
  refine z_metv (by decide) rfl rfl (Nat.le_of_ble_eq_true rfl) ?_
  intro p e s m args below meth c X hr hin
  refine z_eq (ws' := [(b, .inr (6, [hd, .ref aa, .int (nI m9)])), (aa, .inl (cy 5, 5, .inr (.inr (.inr (.inr F)))))]) (lv' := [(0, .ref b), (1, .int (nI S))]) (st' := []) rfl rfl rfl ?_
  have L : ∀ (d : Nat) (k : Nat), k + d = m9 → Zz D (va_A [(b, .inr (6, [hd, .ref aa, .int (nI m9)])), (aa, .inl (cy 5, 5, .inr (.inr (.inr (.inr F)))))] s.heap.size) 4 p l e ({ frames := 1, cells := 0, slots := 0, locals := 21 }) s m args below meth c (MQ below (va_Qv (fun (w : va_W) => w = [(b, .inr (6, [hd, .ref aa, .int (nI (ct S.testBit m9))])), (aa, .inl (cy 5, 5, .inr (.inr (.inr (.inr (kpF S F m9))))))]) (end_ D [(b, .inr (6, [hd, .ref aa, .int (nI m9)])), (aa, .inl (cy 5, 5, .inr (.inr (.inr (.inr F)))))] s.heap.size) (va_A [(b, .inr (6, [hd, .ref aa, .int (nI m9)])), (aa, .inl (cy 5, 5, .inr (.inr (.inr (.inr F)))))] s.heap.size)) args s 0 0 (va_A [(b, .inr (6, [hd, .ref aa, .int (nI m9)])), (aa, .inl (cy 5, 5, .inr (.inr (.inr (.inr F)))))] s.heap.size)) [(b, .inr (6, [hd, .ref aa, .int (nI (ct S.testBit k))])), (aa, .inl (cy 5, 5, .inr (.inr (.inr (.inr (kpF S F k))))))] [(3, .int (nI k)), (2, .int (nI m9)), (0, .ref b), (1, .int (nI S))] 0 0 12 [] := by
    intro d
    induction d with
    | zero =>
      intro k hL0
      refine z_iload_n X dX6_keepAtoms_12 rfl (j := 0) rfl ?_
      refine z_iload_n X dX6_keepAtoms_13 rfl (j := 1) rfl ?_
      refine z_icmp_ge X (tgt := 56) dX6_keepAtoms_14 (by decide) (fun c_14 => ?_) (fun c9 => absurd (by rw [show k = m9 by omega]; exact nI_le (Nat.le_refl _) (by omega)) c9)
      exact z_endv X hr [(b, .inr (6, [hd, .ref aa, .int (nI (ct S.testBit k))])), (aa, .inl (cy 5, 5, .inr (.inr (.inr (.inr (kpF S F k))))))] [0, 1] rfl rfl rfl (by rw [show k = m9 by omega]) dX6_keepAtoms_56
    | succ d ih =>
      intro k hL0
      refine z_iload_n X dX6_keepAtoms_12 rfl (j := 0) rfl ?_
      refine z_iload_n X dX6_keepAtoms_13 rfl (j := 1) rfl ?_
      refine z_icmp_ge X (tgt := 56) dX6_keepAtoms_14 (by decide) (fun c9 => absurd c9 (nI_ge (by omega) (by omega))) (fun c_14 => ?_)
      refine z_iload_n X dX6_keepAtoms_17 rfl (j := 3) rfl ?_
      refine z_iload_n X dX6_keepAtoms_18 rfl (j := 0) rfl ?_
      refine z_reti X (as := [.int (nI S), .int (nI k)]) (wc := []) (wr := [(b, .inr (6, [hd, .ref aa, .int (nI (ct S.testBit k))])), (aa, .inl (cy 5, 5, .inr (.inr (.inr (.inr (kpF S F k))))))]) (rest := []) (fun H9 locs9 ls9 hP9 hS9 hl9 hb9 hp9 => va_runSN (As := [.int (nI S), .int (nI k)]) (rest := []) X.fix (m_isIn l D cy O (nI S) (nI k) H9.size) ⟨va_cnB 2 X.hts (gB cd_X9_isIn) rfl rfl rfl (X.nw.1 _ (List.mem_of_getElem? (i := 7) rfl)) (X.hts _ ni_X9) (by decide +kernel) ⟨Nat.le_of_ble_eq_true rfl, Nat.le_of_ble_eq_true rfl⟩, X.hts _ sm_X9_isIn, trivial⟩ ⟨hb9, hp9⟩ rfl rfl hl9.1 rfl (lv_room (Nat.le_of_ble_eq_true rfl)) dX6_keepAtoms_19 ⟨Nat.le_of_ble_eq_true rfl, Nat.le_of_ble_eq_true rfl⟩) [] [0, 1] rfl rfl rfl rfl rfl (by decide) (fun _ h => Or.inl h) (fun r1 w2 h3 => ?_)
      obtain ⟨rfl, rfl⟩ := h3
      refine z_eq (ws' := [(b, .inr (6, [hd, .ref aa, .int (nI (ct S.testBit k))])), (aa, .inl (cy 5, 5, .inr (.inr (.inr (.inr (kpF S F k))))))]) (lv' := [(3, .int (nI k)), (2, .int (nI m9)), (0, .ref b), (1, .int (nI S))]) (st' := [.int (bI (nI S) (nI k))]) rfl rfl rfl ?_
      refine z_widen (k' := 0) (n' := 0) (Nat.le_refl _) (Nat.le_refl _) ?_
      refine z_if_eq X (tgt := 50) dX6_keepAtoms_22 (by decide) (fun c_22 => ?_) (fun c_22 => ?_)
      · skip
        refine z_iinc X (j := 0) (v := (nI (k + 1))) (lv' := [(3, .int (nI (k + 1))), (2, .int (nI m9)), (0, .ref b), (1, .int (nI S))]) dX6_keepAtoms_50 rfl (nI_1 k) (by decide) rfl ?_
        refine z_goto X (tgt := 12) dX6_keepAtoms_53 (by decide) ?_
        refine z_eq (ws' := [(b, .inr (6, [hd, .ref aa, .int (nI (ct S.testBit (k + 1)))])), (aa, .inl (cy 5, 5, .inr (.inr (.inr (.inr (kpF S F (k + 1)))))))]) (lv' := [(3, .int (nI (k + 1))), (2, .int (nI m9)), (0, .ref b), (1, .int (nI S))]) (st' := []) (by rw [kpF_n (bit_no hS (by omega) c_22), ct_s_f (bit_no hS (by omega) c_22)]) rfl rfl ?_
        exact ih (k + 1) (by omega)
      · skip
        have hby := bit_yes hS (by omega) c_22
        obtain ⟨x9, y9, hA9⟩ := hA k (by omega)
        have hck := ct_le S.testBit k
        refine z_aload_n X dX6_keepAtoms_25 rfl (j := 2) rfl ?_
        refine z_getW X 0 (C := RX6) (T := TX6) (N := 3) inX6 rfl rfl 1 (by decide) fl_X6_11 (fun _ h9 => h9) rfl dX6_keepAtoms_26 ?_
        refine z_aload_n X dX6_keepAtoms_29 rfl (j := 2) rfl ?_
        refine z_getW X 0 (C := RX6) (T := TX6) (N := 3) inX6 rfl rfl 2 (by decide) fl_X6_17 (fun _ h9 => h9) rfl dX6_keepAtoms_30 ?_
        refine z_aload_n X dX6_keepAtoms_33 rfl (j := 2) rfl ?_
        refine z_getW X 0 (C := RX6) (T := TX6) (N := 3) inX6 rfl rfl 1 (by decide) fl_X6_11 (fun _ h9 => h9) rfl dX6_keepAtoms_34 ?_
        refine z_iload_n X dX6_keepAtoms_37 rfl (j := 0) rfl ?_
        refine z_aaldW X 1 rfl rfl (b := (aA k)) (vp_in_nI (by omega) (by decide)) (by rw [nI_clamp (by omega), kpF, if_neg (by omega)]; exact hF k (by omega)) dX6_keepAtoms_38 ?_
        refine z_aastO X 1 0 (t := 5) rfl rfl hA9 rfl (vp_in_nI (by omega) (by decide)) (ws' := [(b, .inr (6, [hd, .ref aa, .int (nI (ct S.testBit k))])), (aa, .inl (cy 5, 5, .inr (.inr (.inr (.inr (kpF S F (k + 1)))))))]) (by rw [nI_clamp (show ct S.testBit k < 2 ^ 31 by omega), ← hF k (by omega), kpF_y (by omega) hby]; rfl) dX6_keepAtoms_39 ?_
        refine z_aload_n X dX6_keepAtoms_40 rfl (j := 2) rfl ?_
        refine z_dup X dX6_keepAtoms_41 rfl ?_
        refine z_getW X 0 (C := RX6) (T := TX6) (N := 3) inX6 rfl rfl 2 (by decide) fl_X6_17 (fun _ h9 => h9) rfl dX6_keepAtoms_42 ?_
        refine z_iconst X (v := 1) dX6_keepAtoms_45 (by decide) ?_
        refine z_iadd X (v := (nI (ct S.testBit (k + 1)))) dX6_keepAtoms_46 (by rw [ct_s_t hby]; exact nI_1 _) ?_
        refine z_putW X 0 (C := RX6) (T := TX6) (N := 3) inX6 tyX6 tyX6_ok nmX6 rfl rfl 2 (by decide) fl_X6_17 (fun _ h9 => h9) rfl (ty := .int) (by decide +kernel) rfl rfl (Nat.le_of_ble_eq_true rfl) (ws' := [(b, .inr (6, [hd, .ref aa, .int (nI (ct S.testBit (k + 1)))])), (aa, .inl (cy 5, 5, .inr (.inr (.inr (.inr (kpF S F (k + 1)))))))]) rfl dX6_keepAtoms_47 ?_
        refine z_iinc X (j := 0) (v := (nI (k + 1))) (lv' := [(3, .int (nI (k + 1))), (2, .int (nI m9)), (0, .ref b), (1, .int (nI S))]) dX6_keepAtoms_50 rfl (nI_1 k) (by decide) rfl ?_
        refine z_goto X (tgt := 12) dX6_keepAtoms_53 (by decide) ?_
        refine z_eq (ws' := [(b, .inr (6, [hd, .ref aa, .int (nI (ct S.testBit (k + 1)))])), (aa, .inl (cy 5, 5, .inr (.inr (.inr (.inr (kpF S F (k + 1)))))))]) (lv' := [(3, .int (nI (k + 1))), (2, .int (nI m9)), (0, .ref b), (1, .int (nI S))]) (st' := []) rfl rfl rfl ?_
        exact ih (k + 1) (by omega)
  refine z_aload_n X dX6_keepAtoms_0 rfl (j := 0) rfl ?_
  refine z_getW X 0 (C := RX6) (T := TX6) (N := 3) inX6 rfl rfl 2 (by decide) fl_X6_17 (fun _ h9 => h9) rfl dX6_keepAtoms_1 ?_
  refine z_istore_n X (lv' := [(2, .int (nI m9)), (0, .ref b), (1, .int (nI S))]) dX6_keepAtoms_4 rfl (by decide) rfl ?_
  refine z_aload_n X dX6_keepAtoms_5 rfl (j := 1) rfl ?_
  refine z_iconst X (v := 0) dX6_keepAtoms_6 (by decide) ?_
  refine z_putW X 0 (C := RX6) (T := TX6) (N := 3) inX6 tyX6 tyX6_ok nmX6 rfl rfl 2 (by decide) fl_X6_17 (fun _ h9 => h9) rfl (ty := .int) (by decide +kernel) rfl rfl (Nat.le_of_ble_eq_true rfl) (ws' := [(b, .inr (6, [hd, .ref aa, .int 0])), (aa, .inl (cy 5, 5, .inr (.inr (.inr (.inr F)))))]) rfl dX6_keepAtoms_7 ?_
  refine z_iconst X (v := 0) dX6_keepAtoms_10 (by decide) ?_
  refine z_istore_n X (lv' := [(3, .int 0), (2, .int (nI m9)), (0, .ref b), (1, .int (nI S))]) dX6_keepAtoms_11 rfl (by decide) rfl ?_
  refine z_eq (ws' := [(b, .inr (6, [hd, .ref aa, .int (nI (ct S.testBit 0))])), (aa, .inl (cy 5, 5, .inr (.inr (.inr (.inr (kpF S F 0))))))]) (lv' := [(3, .int (nI 0)), (2, .int (nI m9)), (0, .ref b), (1, .int (nI S))]) (st' := []) (by rw [show kpF S F 0 = F from funext fun j => by rw [kpF, if_neg (by simp [ct])]]; rfl) rfl rfl ?_
  exact L m9 0 (by omega)
