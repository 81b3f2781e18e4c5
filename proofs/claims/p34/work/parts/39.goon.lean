/-! Walk: goOn -/
theorem sumB_0 {q : Nat → Bool} {f : Nat → Nat} (h : ∀ i, f i = 0) : ∀ k, sumB q f k = 0
  | 0 => rfl
  | k + 1 => by rw [sumB, sumB_0 h k, h k]; split <;> rfl
theorem dlt_1 (R : Nat → RRow) (u : URow) (came : Nat) (vo : Nat → Option Nat) : dlt R u 1 came vo = fun p => if p = came then ct (mq R u vo came) (mqM R u came) else 0 := funext fun p => by
  rw [dlt, show sumB (mq R u vo came) (fun i => dlt R u 0 (came + 1) (lrnA R u vo came i) p) (mqM R u came) = 0 from sumB_0 (fun i => rfl) _]; rfl
theorem dlt_0 (R : Nat → RRow) (u : URow) (came : Nat) (vo : Nat → Option Nat) : dlt R u 0 came vo = fun _ => 0 := rfl
/-- the head's values are known -/
def HKn (u : URow) (vo : Nat → Option Nat) : Prop := ∀ k, k < u.1 → ∃ x, tvo vo (u.2.1 k) = some x ∧ x < 8
def knw (R : Nat → RRow) (u : URow) (came : Nat) (vo : Nat → Option Nat) : Prop := ∀ v, v < 6 → (vo v).isSome = (lk R u came).2.testBit v
theorem lrn_some {vo : Nat → Option Nat} {t : Nat → Nat} {P c v : Nat} : ∀ {n}, (lrn vo t P c n v).isSome = ((vo v).isSome || (vsf t n).testBit v)
  | 0 => by rw [lrn, vsf, Nat.zero_testBit, Bool.or_false]
  | n + 1 => by
    rw [lrnS, vsf]
    by_cases g : t n < 6
    · rw [if_pos g, if_pos g, up, Nat.testBit_or, Nat.testBit_two_pow]
      by_cases e : v = t n
      · rw [if_pos e]; simp [e]
      · rw [if_neg e, lrn_some]; simp [show ¬ t n = v from fun z => e z.symm]
    · rw [if_neg g, if_neg g, lrn_some]
theorem knw.next {R : Nat → RRow} {u : URow} {came i : Nat} {vo : Nat → Option Nat} (h : knw R u came vo) : knw R u (came + 1) (lrnA R u vo came i) := fun v hv => by
  rw [lrnA, lrn_some, h v hv, lk, Nat.testBit_or]; rfl
theorem hf_ge {R : Nat → RRow} {u : URow} : ∀ {m p}, p < m → hfF R u m ≤ p → nd (vsf u.2.1 u.1) (lk R u p).2 = 0
  | m + 1, p, hp, h => by
    rw [hfF] at h
    by_cases e : nd (vsf u.2.1 u.1) (lk R u m).2 = 0
    · rw [if_pos e] at h
      rcases Nat.lt_or_ge p m with g | g
      · exact hf_ge g h
      · rw [show p = m by omega]; exact e
    · rw [if_neg e] at h; omega
theorem nd_0 {a b v : Nat} (h : nd a b = 0) (hv : a.testBit v = true) : b.testBit v = true := by
  have h1 : (nd a b).testBit v = false := by rw [h, Nat.zero_testBit]
  rw [nd_bit, hv] at h1; simpa using h1
theorem HKn.of {R : Nat → RRow} {u : URow} {came : Nat} {vo : Nat → Option Nat} (hk : knw R u came vo) (hv : VB vo) (ht : ∀ k, k < u.1 → isT (u.2.1 k)) (h : nd (vsf u.2.1 u.1) (lk R u came).2 = 0) : HKn u vo := fun k hk9 => by
  unfold tvo
  rcases ht k hk9 with g | g
  · rw [if_pos (by omega)]
    have h1 := nd_0 h (vsf_bit.mpr ⟨k, hk9, g, rfl⟩)
    rw [← hk _ g, Option.isSome_iff_exists] at h1
    obtain ⟨x, e⟩ := h1
    exact ⟨x, e, hv _ _ e⟩
  · rw [if_neg (by omega)]; exact ⟨_, rfl, by omega⟩
theorem hrw_ext {vo vo' : Nat → Option Nat} {t : Nat → Nat} : ∀ {n}, (∀ k, k < n → tvo vo (t k) = tvo vo' (t k)) → hrw vo t n = hrw vo' t n
  | 0, _ => rfl
  | n + 1, h => by rw [hrw, hrw, hrw_ext (fun k hk => h k (by omega)), h n (by omega)]
theorem HKn.same {R : Nat → RRow} {u : URow} {came i : Nat} {vo : Nat → Option Nat} (h : HKn u vo) (hm : mq R u vo came i = true) : ∀ k, k < u.1 → tvo (lrnA R u vo came i) (u.2.1 k) = tvo vo (u.2.1 k) := fun k hk => by
  obtain ⟨x, e, hx⟩ := h k hk
  rw [e]
  unfold tvo at e ⊢
  by_cases g : u.2.1 k < 10
  · rw [if_pos g] at e ⊢; exact lrn_keep hm e (Nat.le_refl _)
  · rw [if_neg g] at e ⊢; exact e
theorem tls_head {R : Nat → RRow} {u : URow} {r : Nat} : ∀ {n came : Nat} {vo : Nat → Option Nat}, HKn u vo → tls R u n came vo r = true → r = hrw vo u.2.1 u.1
  | 0, came, vo, _, h => of_decide_eq_true h
  | n + 1, came, vo, hk, h => by
    rw [tls] at h
    obtain ⟨i, hi, h⟩ := exB_iff.mp h
    rw [Bool.and_eq_true] at h
    have h1 := hk.same h.1
    have h2 : HKn u (lrnA R u vo came i) := fun k hk9 => by rw [h1 k hk9]; exact hk k hk9
    rw [tls_head h2 h.2]; exact hrw_ext h1
def tadd (fs : Nat → Bool) (R : Nat → RRow) (u : URow) (n came : Nat) (vo : Nat → Option Nat) : Nat → Bool := fun r => fs r || tls R u n came vo r
theorem tadd_told {fs : Nat → Bool} {R : Nat → RRow} {u : URow} {n came : Nat} {vo : Nat → Option Nat} (hk : HKn u vo) (h : fs (hrw vo u.2.1 u.1) = true) : fs = tadd fs R u n came vo := funext fun r => by
  rw [tadd]
  cases e : tls R u n came vo r
  · rw [Bool.or_false]
  · rw [tls_head hk e, h]; rfl
theorem tadd_0 {fs : Nat → Bool} {R : Nat → RRow} {u : URow} {came : Nat} {vo : Nat → Option Nat} : inc fs (hrw vo u.2.1 u.1) = tadd fs R u 0 came vo := rfl
def tsx (fs : Nat → Bool) (R : Nat → RRow) (u : URow) (n came : Nat) (vo : Nat → Option Nat) (lo : Nat) : Nat → Bool := fun r => fs r || exB (fun i => mq R u vo came i && tls R u n (came + 1) (lrnA R u vo came i) r) lo
theorem tsx_0 {fs : Nat → Bool} {R : Nat → RRow} {u : URow} {n came : Nat} {vo : Nat → Option Nat} : tsx fs R u n came vo 0 = fs := funext fun r => by rw [tsx, exB, Bool.or_false]
theorem tsx_s {fs : Nat → Bool} {R : Nat → RRow} {u : URow} {n came lo i0 : Nat} {vo : Nat → Option Nat} (h : ∀ i, lo ≤ i → i < i0 → mq R u vo came i = false) (hl : lo ≤ i0) (h3 : mq R u vo came i0 = true) : tadd (tsx fs R u n came vo lo) R u n (came + 1) (lrnA R u vo came i0) = tsx fs R u n came vo (i0 + 1) := funext fun r => by
  simp only [tadd, tsx]
  rw [exB, exB_skip (r := fun i => tls R u n (came + 1) (lrnA R u vo came i) r) h hl, h3, Bool.true_and, Bool.or_assoc]
theorem tsx_e {fs : Nat → Bool} {R : Nat → RRow} {u : URow} {n came lo : Nat} {vo : Nat → Option Nat} (h : ct (kp (mq R u vo came) lo) (mqM R u came) = 0) (hl : lo ≤ mqM R u came) : tsx fs R u n came vo lo = tadd fs R u (n + 1) came vo := funext fun r => by
  simp only [tadd, tsx]
  rw [tls, exB_end (r := fun i => tls R u n (came + 1) (lrnA R u vo came i) r) h hl]
set_option maxHeartbeats 4000000 in
set_option maxRecDepth 100000 in
/-- goOn(came), measuring, behind all atoms -/
theorem m_goOn_m0 (l : Launch) (D : va_G) (cy : Nat → ClassId) (O : Nat × va_E → Prop) {wk od sz b5 gv hf came : Nat} {of : Nat → Int32} {vo : Nat → Option Nat} {bq rc : Nat} {R : Nat → RRow} {rb : Nat → Nat} {q : URow} (hR : ∀ j, j < rc → RlO O cy (rb j) (R j)) (hq : RuO O cy R rb rc bq q) (hW9 : O (wk, .inr (8, [.ref od, .ref sz, .ref b5, .ref gv, .ref bq, .int 0, .int (nI hf)]))) (hod : O (od, .inl (cy 0, 5, .inl of))) (hof : ∀ p, p < q.2.2.1 → of p = nI (ordF R q p)) (hhf : hf = hfF R q q.2.2.1) (hvb : VB vo) {sf : Nat → Int32} (hcm : came = q.2.2.1) : Cv l yX8_goOn (.code yX8_goOn cX8_goOn 7 none :: WALL) ({ frames := 2 * 0 + 6, cells := 0, slots := 0, locals := 40 * 0 + 120 }) D cy O [.ref wk, .int (nI came)] [(sz, .inl (cy 0, 5, .inl sf)), (gv, .inl (cy 0, 6, .inl (vA vo)))] 0 0 (fun (w : va_W) => w = [(sz, .inl (cy 0, 5, .inl (sadd sf (dlt R q 0 came vo)))), (gv, .inl (cy 0, 6, .inl (vA vo)))]) := by
  have hq' := hq
  obtain ⟨hd1, aa1, F1, aA1, tA1, hB1, ⟨ta1, T1, hM1, hT1, ht1⟩, hF1, hh1, hm1, hat1⟩ := hq'
  refine z_metv (by decide) rfl rfl (Nat.le_of_ble_eq_true rfl) ?_
  intro p e s m args below meth c X hr hin
  refine z_eq (ws' := [(sz, .inl (cy 0, 5, .inl sf)), (gv, .inl (cy 0, 6, .inl (vA vo)))]) (lv' := [(0, .ref wk), (1, .int (nI came))]) (st' := []) rfl rfl rfl ?_
  refine z_aload_n X dX8_goOn_0 rfl (j := 0) rfl ?_
  refine z_getO X (ci := 8) (C := RX8) (T := TX8) (N := 7) inX8 hW9 rfl 5 (by decide) fl_X8_32 (fun _ h9 => h9) rfl dX8_goOn_1 ?_
  refine z_if_eq X (tgt := 15) dX8_goOn_4 (by decide) (fun c_4 => ?_) (fun c9 => absurd (by decide) c9)
  refine z_iload_n X dX8_goOn_15 rfl (j := 1) rfl ?_
  refine z_aload_n X dX8_goOn_16 rfl (j := 0) rfl ?_
  refine z_getO X (ci := 8) (C := RX8) (T := TX8) (N := 7) inX8 hW9 rfl 4 (by decide) fl_X8_28 (fun _ h9 => h9) rfl dX8_goOn_17 ?_
  refine z_getO X (ci := 6) (C := RX6) (T := TX6) (N := 3) inX6 hB1 rfl 2 (by decide) fl_X8_46 (fun _ h9 => h9) rfl dX8_goOn_20 ?_
  refine z_icmp_lt X (tgt := 27) dX8_goOn_23 (by decide) (fun c9 => absurd c9 (nI_nlt (a := came) (b := q.2.2.1) (by omega) (by omega))) (fun c_23 => ?_)
  exact z_endv X hr [(sz, .inl (cy 0, 5, .inl sf)), (gv, .inl (cy 0, 6, .inl (vA vo)))] [0, 1] rfl rfl rfl (by rw [dlt_0, sadd_0]) dX8_goOn_26
set_option maxHeartbeats 4000000 in
set_option maxRecDepth 100000 in
/-- goOn(came), measuring, the last atom -/
theorem m_goOn_m1 (l : Launch) (D : va_G) (cy : Nat → ClassId) (O : Nat × va_E → Prop) {wk od sz b5 gv hf came : Nat} {of : Nat → Int32} {vo : Nat → Option Nat} {bq rc : Nat} {R : Nat → RRow} {rb : Nat → Nat} {q : URow} (hR : ∀ j, j < rc → RlO O cy (rb j) (R j)) (hq : RuO O cy R rb rc bq q) (hW9 : O (wk, .inr (8, [.ref od, .ref sz, .ref b5, .ref gv, .ref bq, .int 0, .int (nI hf)]))) (hod : O (od, .inl (cy 0, 5, .inl of))) (hof : ∀ p, p < q.2.2.1 → of p = nI (ordF R q p)) (hhf : hf = hfF R q q.2.2.1) (hvb : VB vo) {sf : Nat → Int32} (hcm : came + 1 = q.2.2.1) : Cv l yX8_goOn (.code yX8_goOn cX8_goOn 7 none :: WALL) ({ frames := 2 * 1 + 6, cells := 0, slots := 0, locals := 40 * 1 + 120 }) D cy O [.ref wk, .int (nI came)] [(sz, .inl (cy 0, 5, .inl sf)), (gv, .inl (cy 0, 6, .inl (vA vo)))] 0 0 (fun (w : va_W) => w = [(sz, .inl (cy 0, 5, .inl (sadd sf (dlt R q 1 came vo)))), (gv, .inl (cy 0, 6, .inl (vA vo)))]) := by
  have hq' := hq
  obtain ⟨hd1, aa1, F1, aA1, tA1, hB1, ⟨ta1, T1, hM1, hT1, ht1⟩, hF1, hh1, hm1, hat1⟩ := hq'
  have hao : (ordF R q came) < q.2.2.1 := nst_lt R q _ _ (by omega)
  obtain ⟨hfa, hq1, hc1, ta3, T3, hc3, hc5, hc7⟩ := hat1 (ordF R q came) hao
  obtain ⟨ar3, ah3, ak3, hv3, kv3, hQ3, hR3, hH3, hK3, hHK3, hP1, hP3, hM24, hx5⟩ := hR _ hq1
  have htt : ∀ k, k < (R (q.2.2.2.1 (ordF R q came))).1 → isT (q.2.2.2.2 (ordF R q came) k) := fun k hk => (hc7 k hk).2
  have hv8 : ∀ k v, k < (R (q.2.2.2.1 (ordF R q came))).1 → tvo vo (q.2.2.2.2 (ordF R q came) k) = some v → v < 8 := fun k v hk e => hvb.t (htt k hk) e
  have hms : ms (mq R q vo came) (mqM R q came) < 2 ^ 24 := Nat.lt_of_lt_of_le (ms_lt _ _) (Nat.pow_le_pow_right (by decide) hM24)
  have hct : ct (mq R q vo came) (mqM R q came) ≤ (mqM R q came) := ct_le _ _
  have hmm : (mqM R q came) ≤ 24 := hM24
  have hfl : (fsh vo (q.2.2.2.2 (ordF R q came)) (R (q.2.2.2.1 (ordF R q came))).1) < 2 ^ 31 := Nat.lt_trans (fsh_lt htt) (by decide)
  refine z_metv (by decide) rfl rfl (Nat.le_of_ble_eq_true rfl) ?_
  intro p e s m args below meth c X hr hin
  refine z_eq (ws' := [(sz, .inl (cy 0, 5, .inl sf)), (gv, .inl (cy 0, 6, .inl (vA vo)))]) (lv' := [(0, .ref wk), (1, .int (nI came))]) (st' := []) rfl rfl rfl ?_
  refine z_aload_n X dX8_goOn_0 rfl (j := 0) rfl ?_
  refine z_getO X (ci := 8) (C := RX8) (T := TX8) (N := 7) inX8 hW9 rfl 5 (by decide) fl_X8_32 (fun _ h9 => h9) rfl dX8_goOn_1 ?_
  refine z_if_eq X (tgt := 15) dX8_goOn_4 (by decide) (fun c_4 => ?_) (fun c9 => absurd (by decide) c9)
  refine z_iload_n X dX8_goOn_15 rfl (j := 1) rfl ?_
  refine z_aload_n X dX8_goOn_16 rfl (j := 0) rfl ?_
  refine z_getO X (ci := 8) (C := RX8) (T := TX8) (N := 7) inX8 hW9 rfl 4 (by decide) fl_X8_28 (fun _ h9 => h9) rfl dX8_goOn_17 ?_
  refine z_getO X (ci := 6) (C := RX6) (T := TX6) (N := 3) inX6 hB1 rfl 2 (by decide) fl_X8_46 (fun _ h9 => h9) rfl dX8_goOn_20 ?_
  refine z_icmp_lt X (tgt := 27) dX8_goOn_23 (by decide) (fun c_23 => ?_) (fun c9 => absurd (nI_lt (a := came) (b := q.2.2.1) (by omega) (by omega)) c9)
  refine z_aload_n X dX8_goOn_27 rfl (j := 0) rfl ?_
  refine z_getO X (ci := 8) (C := RX8) (T := TX8) (N := 7) inX8 hW9 rfl 4 (by decide) fl_X8_28 (fun _ h9 => h9) rfl dX8_goOn_28 ?_
  refine z_getO X (ci := 6) (C := RX6) (T := TX6) (N := 3) inX6 hB1 rfl 1 (by decide) fl_X8_62 (fun _ h9 => h9) rfl dX8_goOn_31 ?_
  refine z_aload_n X dX8_goOn_34 rfl (j := 0) rfl ?_
  refine z_getO X (ci := 8) (C := RX8) (T := TX8) (N := 7) inX8 hW9 rfl 0 (by decide) fl_X8_9 (fun _ h9 => h9) rfl dX8_goOn_35 ?_
  refine z_iload_n X dX8_goOn_38 rfl (j := 1) rfl ?_
  refine z_ialdO X hod (v := (nI (ordF R q came))) (vp_in_nI (by omega) (by decide)) (by rw [nI_clamp (by omega)]; exact hof came (by omega)) dX8_goOn_39 ?_
  refine z_aaldO X (t := 5) hF1 rfl (b := (aA1 (ordF R q came))) (vp_in_nI (by omega) (by decide)) (by rw [nI_clamp (by omega)]; exact hfa) dX8_goOn_40 ?_
  refine z_astore_n X (lv' := [(2, .ref (aA1 (ordF R q came))), (0, .ref wk), (1, .int (nI came))]) dX8_goOn_41 rfl (by decide) rfl ?_
  refine z_aload_n X dX8_goOn_42 rfl (j := 0) rfl ?_
  refine z_aload_n X dX8_goOn_43 rfl (j := 1) rfl ?_
  refine z_getO X (ci := 8) (C := RX8) (T := TX8) (N := 7) inX8 hW9 rfl 3 (by decide) fl_X8_25 (fun _ h9 => h9) rfl dX8_goOn_44 ?_
  refine z_reti X (as := [.ref (aA1 (ordF R q came)), .ref gv]) (wc := []) (wr := [(sz, .inl (cy 0, 5, .inl sf)), (gv, .inl (cy 0, 6, .inl (vA vo)))]) (rest := []) (fun H9 locs9 ls9 hP9 hS9 hl9 hb9 hp9 => va_runV (As := [.ref gv]) (rest := []) X.fix (m_matching l D cy (fun z => O z ∨ z ∈ ([(sz, .inl (cy 0, 5, .inl sf)), (gv, .inl (cy 0, 6, .inl (vA vo)))] : va_W)) (Or.inl hc1) (Or.inl hQ3) (Or.inl hK3) (Or.inl hc3) (Or.inl hc5) (Or.inl hH3) (Or.inr (List.mem_of_getElem? (i := 1) rfl)) (show (R (q.2.2.2.1 (ordF R q came))).2.1 ≤ 25 by omega) hP3 hc7 hv8 H9.size) (cwV 1 X.hts (gV ml_X8_108 im_X0_matching se_X0_matching ni_X0 cd_X0_matching) rfl rfl rfl (by decide +kernel) ⟨by show 1 + 1 ≤ 2 * 1 + 6; omega, by show 8 + (5 + 11) + 23 ≤ 40 * 1 + 120; omega⟩) ⟨hb9, z_recvO X (ci := 0) (r := (RX0, TX0, 2)) hc1 rfl hS9, hp9⟩ rfl rfl hl9.1 rfl (lv_room (Nat.le_of_ble_eq_true rfl)) dX8_goOn_47 ⟨Nat.le_of_ble_eq_true rfl, Nat.le_of_ble_eq_true rfl⟩) [] [0, 1] rfl rfl rfl rfl rfl (by decide) (fun q h => h) (fun r1 w2 h3 => ?_)
  obtain ⟨rfl, rfl⟩ := h3
  rw [mat_ms hHK3 _ (Nat.le_refl _) hv8]
  refine z_eq (ws' := [(sz, .inl (cy 0, 5, .inl sf)), (gv, .inl (cy 0, 6, .inl (vA vo)))]) (lv' := [(2, .ref (aA1 (ordF R q came))), (0, .ref wk), (1, .int (nI came))]) (st' := [.int (nI (ms (mq R q vo came) (mqM R q came)))]) rfl rfl rfl ?_
  refine z_widen (k' := 0) (n' := 0) (Nat.le_refl _) (Nat.le_refl _) ?_
  refine z_istore_n X (lv' := [(3, .int (nI (ms (mq R q vo came) (mqM R q came)))), (2, .ref (aA1 (ordF R q came))), (0, .ref wk), (1, .int (nI came))]) dX8_goOn_50 rfl (by decide) rfl ?_
  refine z_iload_n X dX8_goOn_51 rfl (j := 0) rfl ?_
  refine z_reti X (as := [.int (nI (ms (mq R q vo came) (mqM R q came)))]) (wc := []) (wr := [(sz, .inl (cy 0, 5, .inl sf)), (gv, .inl (cy 0, 6, .inl (vA vo)))]) (rest := []) (fun H9 locs9 ls9 hP9 hS9 hl9 hb9 hp9 => va_runS (As := [.int (nI (ms (mq R q vo came) (mqM R q came)))]) (rest := []) X.fix (m_ibits l D cy O (n9 := ms (mq R q vo came) (mqM R q came)) (Nat.lt_trans hms (by decide)) H9.size) (va_cwS 1 X.hts (gS ml_X8_112 sm_J6_bitCount_0f7a4 ni_J6 cd_J6_bitCount_0f7a4) rfl rfl rfl (by decide +kernel) ⟨by show 0 + 1 ≤ 2 * 1 + 6; omega, by show 8 + (1 + 11) + 0 ≤ 40 * 1 + 120; omega⟩) ⟨hb9, hp9⟩ rfl rfl hl9.1 rfl (lv_room (Nat.le_of_ble_eq_true rfl)) dX8_goOn_52 ⟨Nat.le_of_ble_eq_true rfl, Nat.le_of_ble_eq_true rfl⟩) [] [0, 1] rfl rfl rfl rfl rfl (by decide) (fun _ h => Or.inl h) (fun r4 w5 h6 => ?_)
  obtain ⟨rfl, rfl⟩ := h6
  rw [ct_msN (show mqM R q came ≤ 32 by omega)]
  refine z_eq (ws' := [(sz, .inl (cy 0, 5, .inl sf)), (gv, .inl (cy 0, 6, .inl (vA vo)))]) (lv' := [(3, .int (nI (ms (mq R q vo came) (mqM R q came)))), (2, .ref (aA1 (ordF R q came))), (0, .ref wk), (1, .int (nI came))]) (st' := [.int (nI (ct (mq R q vo came) (mqM R q came)))]) rfl rfl rfl ?_
  refine z_widen (k' := 0) (n' := 0) (Nat.le_refl _) (Nat.le_refl _) ?_
  refine z_istore X (lv' := [(4, .int (nI (ct (mq R q vo came) (mqM R q came)))), (3, .int (nI (ms (mq R q vo came) (mqM R q came)))), (2, .ref (aA1 (ordF R q came))), (0, .ref wk), (1, .int (nI came))]) dX8_goOn_55 (by decide) rfl ?_
  refine z_aload_n X dX8_goOn_57 rfl (j := 3) rfl ?_
  refine z_getO X (ci := 8) (C := RX8) (T := TX8) (N := 7) inX8 hW9 rfl 1 (by decide) fl_X8_15 (fun _ h9 => h9) rfl dX8_goOn_58 ?_
  refine z_iload_n X dX8_goOn_61 rfl (j := 4) rfl ?_
  refine z_dup2 X dX8_goOn_62 rfl rfl ?_
  refine z_ialdW X 0 rfl (v := (sf came)) (vp_in_nI (by omega) (by decide)) (by rw [nI_clamp (by omega)]) dX8_goOn_63 ?_
  refine z_iload X dX8_goOn_64 (j := 0) rfl ?_
  refine z_iadd X (v := (sf came + nI (ct (mq R q vo came) (mqM R q came)))) dX8_goOn_66 rfl ?_
  refine z_iastW X 0 rfl (vp_in_nI (by omega) (by decide)) (ws' := [(sz, .inl (cy 0, 5, .inl (sadd sf (fun p => if p = came then ct (mq R q vo came) (mqM R q came) else 0)))), (gv, .inl (cy 0, 6, .inl (vA vo)))]) (by rw [nI_clamp (show came < 2 ^ 31 by omega), sadd_up]; rfl) dX8_goOn_67 ?_
  refine z_aload_n X dX8_goOn_68 rfl (j := 3) rfl ?_
  refine z_getO X (ci := 8) (C := RX8) (T := TX8) (N := 7) inX8 hW9 rfl 5 (by decide) fl_X8_32 (fun _ h9 => h9) rfl dX8_goOn_69 ?_
  refine z_if_ne X (tgt := 89) dX8_goOn_72 (by decide) (fun c9 => absurd (by decide) c9) (fun c_72 => ?_)
  refine z_iload_n X dX8_goOn_75 rfl (j := 4) rfl ?_
  refine z_aload_n X dX8_goOn_76 rfl (j := 3) rfl ?_
  refine z_getO X (ci := 8) (C := RX8) (T := TX8) (N := 7) inX8 hW9 rfl 4 (by decide) fl_X8_28 (fun _ h9 => h9) rfl dX8_goOn_77 ?_
  refine z_getO X (ci := 6) (C := RX6) (T := TX6) (N := 3) inX6 hB1 rfl 2 (by decide) fl_X8_46 (fun _ h9 => h9) rfl dX8_goOn_80 ?_
  refine z_iconst X (v := 1) dX8_goOn_83 (by decide) ?_
  refine z_isub X (v := (nI (q.2.2.1 - 1))) dX8_goOn_84 (sub_1 (by omega)) ?_
  refine z_icmp_ne X (tgt := 89) dX8_goOn_85 (by decide) (fun c9 => absurd (show nI came = nI (q.2.2.1 - 1) by rw [show q.2.2.1 - 1 = came by omega]) c9) (fun c_85 => ?_)
  exact z_endv X hr [(sz, .inl (cy 0, 5, .inl (sadd sf (fun p => if p = came then ct (mq R q vo came) (mqM R q came) else 0)))), (gv, .inl (cy 0, 6, .inl (vA vo)))] [0, 1] rfl rfl rfl (by rw [dlt_1]) dX8_goOn_88
set_option maxHeartbeats 4000000 in
set_option maxRecDepth 100000 in
/-- goOn(came), measuring -/
theorem m_goOn_ms (l : Launch) (D : va_G) (cy : Nat → ClassId) (O : Nat × va_E → Prop) {wk od sz b5 gv hf came : Nat} {of : Nat → Int32} {vo : Nat → Option Nat} {bq rc : Nat} {R : Nat → RRow} {rb : Nat → Nat} {q : URow} (hR : ∀ j, j < rc → RlO O cy (rb j) (R j)) (hq : RuO O cy R rb rc bq q) (hW9 : O (wk, .inr (8, [.ref od, .ref sz, .ref b5, .ref gv, .ref bq, .int 0, .int (nI hf)]))) (hod : O (od, .inl (cy 0, 5, .inl of))) (hof : ∀ p, p < q.2.2.1 → of p = nI (ordF R q p)) (hhf : hf = hfF R q q.2.2.1) (hvb : VB vo) {sf : Nat → Int32} {n : Nat} (hcm : came + (n + 2) = q.2.2.1) (ih : ∀ (vo : Nat → Option Nat) (sf : Nat → Int32), VB vo → Cv l yX8_goOn (.code yX8_goOn cX8_goOn 7 none :: WALL) ({ frames := 2 * (n + 1) + 6, cells := 0, slots := 0, locals := 40 * (n + 1) + 120 }) D cy O [.ref wk, .int (nI (came + 1))] [(sz, .inl (cy 0, 5, .inl sf)), (gv, .inl (cy 0, 6, .inl (vA vo)))] 0 0 (fun (w : va_W) => w = [(sz, .inl (cy 0, 5, .inl (sadd sf (dlt R q (n + 1) (came + 1) vo)))), (gv, .inl (cy 0, 6, .inl (vA vo)))])) : Cv l yX8_goOn (.code yX8_goOn cX8_goOn 7 none :: WALL) ({ frames := 2 * (n + 2) + 6, cells := 0, slots := 0, locals := 40 * (n + 2) + 120 }) D cy O [.ref wk, .int (nI came)] [(sz, .inl (cy 0, 5, .inl sf)), (gv, .inl (cy 0, 6, .inl (vA vo)))] 0 0 (fun (w : va_W) => w = [(sz, .inl (cy 0, 5, .inl (sadd sf (dlt R q (n + 2) came vo)))), (gv, .inl (cy 0, 6, .inl (vA vo)))]) := by
  have hq' := hq
  obtain ⟨hd1, aa1, F1, aA1, tA1, hB1, ⟨ta1, T1, hM1, hT1, ht1⟩, hF1, hh1, hm1, hat1⟩ := hq'
  have hao : (ordF R q came) < q.2.2.1 := nst_lt R q _ _ (by omega)
  obtain ⟨hfa, hq1, hc1, ta3, T3, hc3, hc5, hc7⟩ := hat1 (ordF R q came) hao
  obtain ⟨ar3, ah3, ak3, hv3, kv3, hQ3, hR3, hH3, hK3, hHK3, hP1, hP3, hM24, hx5⟩ := hR _ hq1
  have htt : ∀ k, k < (R (q.2.2.2.1 (ordF R q came))).1 → isT (q.2.2.2.2 (ordF R q came) k) := fun k hk => (hc7 k hk).2
  have hv8 : ∀ k v, k < (R (q.2.2.2.1 (ordF R q came))).1 → tvo vo (q.2.2.2.2 (ordF R q came) k) = some v → v < 8 := fun k v hk e => hvb.t (htt k hk) e
  have hms : ms (mq R q vo came) (mqM R q came) < 2 ^ 24 := Nat.lt_of_lt_of_le (ms_lt _ _) (Nat.pow_le_pow_right (by decide) hM24)
  have hct : ct (mq R q vo came) (mqM R q came) ≤ (mqM R q came) := ct_le _ _
  have hmm : (mqM R q came) ≤ 24 := hM24
  have hfl : (fsh vo (q.2.2.2.2 (ordF R q came)) (R (q.2.2.2.1 (ordF R q came))).1) < 2 ^ 31 := Nat.lt_trans (fsh_lt htt) (by decide)
  refine z_metv (by decide) rfl rfl (Nat.le_of_ble_eq_true rfl) ?_
  intro p e s m args below meth c X hr hin
  refine z_eq (ws' := [(sz, .inl (cy 0, 5, .inl sf)), (gv, .inl (cy 0, 6, .inl (vA vo)))]) (lv' := [(0, .ref wk), (1, .int (nI came))]) (st' := []) rfl rfl rfl ?_
  have L : ∀ (d : Nat) (lo k : Nat) (vx : Nat → Option Nat), k + d = ct (mq R q vo came) (mqM R q came) → ct (kp (mq R q vo came) lo) (mqM R q came) = d → lo ≤ (mqM R q came) → sam (fsh vo (q.2.2.2.2 (ordF R q came)) (R (q.2.2.2.1 (ordF R q came))).1) vo vx → Zz D (va_A [(sz, .inl (cy 0, 5, .inl sf)), (gv, .inl (cy 0, 6, .inl (vA vo)))] s.heap.size) 7 p l e ({ frames := 2 * (n + 2) + 6, cells := 0, slots := 0, locals := 40 * (n + 2) + 120 }) s m args below meth c (MQ below (va_Qv (fun (w : va_W) => w = [(sz, .inl (cy 0, 5, .inl (sadd sf (dlt R q (n + 2) came vo)))), (gv, .inl (cy 0, 6, .inl (vA vo)))]) (end_ D [(sz, .inl (cy 0, 5, .inl sf)), (gv, .inl (cy 0, 6, .inl (vA vo)))] s.heap.size) (va_A [(sz, .inl (cy 0, 5, .inl sf)), (gv, .inl (cy 0, 6, .inl (vA vo)))] s.heap.size)) args s 0 0 (va_A [(sz, .inl (cy 0, 5, .inl sf)), (gv, .inl (cy 0, 6, .inl (vA vo)))] s.heap.size)) [(sz, .inl (cy 0, 5, .inl (sadd (sadd sf (fun p => if p = came then ct (mq R q vo came) (mqM R q came) else 0)) (fun p => sumB (mq R q vo came) (fun i => dlt R q (n + 1) (came + 1) (lrnA R q vo came i) p) lo)))), (gv, .inl (cy 0, 6, .inl (vA vx)))] [(6, .int (nI k)), (5, .int (nI (fsh vo (q.2.2.2.2 (ordF R q came)) (R (q.2.2.2.1 (ordF R q came))).1))), (4, .int (nI (ct (mq R q vo came) (mqM R q came)))), (3, .int (nI (ms (kp (mq R q vo came) lo) (mqM R q came)))), (2, .ref (aA1 (ordF R q came))), (0, .ref wk), (1, .int (nI came))] 0 0 102 [] := by
    intro d
    induction d with
    | zero =>
      intro lo k vx hL0 hL1 hL2 hL3
      refine z_iload X dX8_goOn_102 (j := 0) rfl ?_
      refine z_iload X dX8_goOn_104 (j := 2) rfl ?_
      refine z_icmp_ge X (tgt := 137) dX8_goOn_106 (by decide) (fun c_106 => ?_) (fun c9 => absurd (by rw [show k = ct (mq R q vo came) (mqM R q came) by omega]; exact nI_le (Nat.le_refl _) (by omega)) c9)
      refine z_aload_n X dX8_goOn_137 rfl (j := 5) rfl ?_
      refine z_iload X dX8_goOn_138 (j := 1) rfl ?_
      refine z_retv X (as := [.ref wk, .int (nI (fsh vo (q.2.2.2.2 (ordF R q came)) (R (q.2.2.2.1 (ordF R q came))).1))]) (wc := [(gv, .inl (cy 0, 6, .inl (vA vx)))]) (wr := [(sz, .inl (cy 0, 5, .inl (sadd (sadd sf (fun p => if p = came then ct (mq R q vo came) (mqM R q came) else 0)) (fun p => sumB (mq R q vo came) (fun i => dlt R q (n + 1) (came + 1) (lrnA R q vo came i) p) lo))))]) (rest := []) (fun H9 locs9 ls9 hP9 hS9 hl9 hb9 hp9 => va_runV (As := [.int (nI (fsh vo (q.2.2.2.2 (ordF R q came)) (R (q.2.2.2.1 (ordF R q came))).1))]) (rest := []) X.fix (m_forget l D cy O hW9 hfl H9.size) (cwV 1 X.hts (gV ml_X8_129 im_X8_forget se_X8_forget ni_X8 cd_X8_forget) rfl rfl rfl (by decide +kernel) ⟨by show 1 + 1 ≤ 2 * (n + 2) + 6; omega, by show 8 + (3 + 11) + 21 ≤ 40 * (n + 2) + 120; omega⟩) ⟨hb9, z_recvO X (ci := 8) (r := (RX8, TX8, 7)) hW9 rfl hS9, hp9⟩ rfl rfl hl9.1 rfl (lv_room (Nat.le_of_ble_eq_true rfl)) dX8_goOn_140 ⟨Nat.le_of_ble_eq_true rfl, Nat.le_of_ble_eq_true rfl⟩) [1] [0] rfl rfl rfl rfl rfl (by decide) (fun _ h => Or.inl h) (fun w2 h3 => ?_)
      rw [hL3.back htt] at h3
      subst h3
      refine z_eq (ws' := [(sz, .inl (cy 0, 5, .inl (sadd (sadd sf (fun p => if p = came then ct (mq R q vo came) (mqM R q came) else 0)) (fun p => sumB (mq R q vo came) (fun i => dlt R q (n + 1) (came + 1) (lrnA R q vo came i) p) lo)))), (gv, .inl (cy 0, 6, .inl (vA vo)))]) (lv' := [(6, .int (nI k)), (5, .int (nI (fsh vo (q.2.2.2.2 (ordF R q came)) (R (q.2.2.2.1 (ordF R q came))).1))), (4, .int (nI (ct (mq R q vo came) (mqM R q came)))), (3, .int (nI (ms (kp (mq R q vo came) lo) (mqM R q came)))), (2, .ref (aA1 (ordF R q came))), (0, .ref wk), (1, .int (nI came))]) (st' := []) rfl rfl rfl ?_
      refine z_widen (k' := 0) (n' := 0) (Nat.le_refl _) (Nat.le_refl _) ?_
      exact z_endv X hr [(sz, .inl (cy 0, 5, .inl (sadd (sadd sf (fun p => if p = came then ct (mq R q vo came) (mqM R q came) else 0)) (fun p => sumB (mq R q vo came) (fun i => dlt R q (n + 1) (came + 1) (lrnA R q vo came i) p) lo)))), (gv, .inl (cy 0, 6, .inl (vA vo)))] [0, 1] rfl rfl rfl (by rw [sadd_tr (fun p => show _ = dlt R q (n + 2) came vo p by rw [dlt, sumB_end hL1 hL2])]) dX8_goOn_143
    | succ d ih9 =>
      intro lo k vx hL0 hL1 hL2 hL3
      obtain ⟨i0, e1, e2, e3, e4, e5, e6, e7, e8, e9⟩ := low_step hL1
      refine z_iload X dX8_goOn_102 (j := 0) rfl ?_
      refine z_iload X dX8_goOn_104 (j := 2) rfl ?_
      refine z_icmp_ge X (tgt := 137) dX8_goOn_106 (by decide) (fun c9 => absurd c9 (nI_ge (by omega) (by omega))) (fun c_106 => ?_)
      refine z_aload_n X dX8_goOn_109 rfl (j := 5) rfl ?_
      refine z_aload_n X dX8_goOn_110 rfl (j := 4) rfl ?_
      refine z_iload_n X dX8_goOn_111 rfl (j := 3) rfl ?_
      refine z_reti X (as := [.int (nI (ms (kp (mq R q vo came) lo) (mqM R q came)))]) (wc := []) (wr := [(sz, .inl (cy 0, 5, .inl (sadd (sadd sf (fun p => if p = came then ct (mq R q vo came) (mqM R q came) else 0)) (fun p => sumB (mq R q vo came) (fun i => dlt R q (n + 1) (came + 1) (lrnA R q vo came i) p) lo)))), (gv, .inl (cy 0, 6, .inl (vA vx)))]) (rest := [.ref (aA1 (ordF R q came)), .ref wk]) (fun H9 locs9 ls9 hP9 hS9 hl9 hb9 hp9 => va_runS (As := [.int (nI (ms (kp (mq R q vo came) lo) (mqM R q came)))]) (rest := [.ref (aA1 (ordF R q came)), .ref wk]) X.fix (m_intz l D cy O (n9 := (ms (kp (mq R q vo came) lo) (mqM R q came))) (t9 := i0) e5 (by omega) e6 e7 H9.size) (va_cwS 1 X.hts (gS ml_X8_122 sm_J6_numberOfTrailingZeros_0f7a4 ni_J6 cd_J6_numberOfTrailingZeros_0f7a4) rfl rfl rfl (by decide +kernel) ⟨by show 0 + 1 ≤ 2 * (n + 2) + 6; omega, by show 8 + (2 + 11) + 0 ≤ 40 * (n + 2) + 120; omega⟩) ⟨hb9, hp9⟩ rfl rfl hl9.1 rfl (lv_room (Nat.le_of_ble_eq_true rfl)) dX8_goOn_112 ⟨Nat.le_of_ble_eq_true rfl, Nat.le_of_ble_eq_true rfl⟩) [] [0, 1] rfl rfl rfl rfl rfl (by decide) (fun _ h => Or.inl h) (fun r4 w5 h6 => ?_)
      obtain ⟨rfl, rfl⟩ := h6
      refine z_eq (ws' := [(sz, .inl (cy 0, 5, .inl (sadd (sadd sf (fun p => if p = came then ct (mq R q vo came) (mqM R q came) else 0)) (fun p => sumB (mq R q vo came) (fun i => dlt R q (n + 1) (came + 1) (lrnA R q vo came i) p) lo)))), (gv, .inl (cy 0, 6, .inl (vA vx)))]) (lv' := [(6, .int (nI k)), (5, .int (nI (fsh vo (q.2.2.2.2 (ordF R q came)) (R (q.2.2.2.1 (ordF R q came))).1))), (4, .int (nI (ct (mq R q vo came) (mqM R q came)))), (3, .int (nI (ms (kp (mq R q vo came) lo) (mqM R q came)))), (2, .ref (aA1 (ordF R q came))), (0, .ref wk), (1, .int (nI came))]) (st' := [.int (nI i0), .ref (aA1 (ordF R q came)), .ref wk]) rfl rfl rfl ?_
      refine z_widen (k' := 0) (n' := 0) (Nat.le_refl _) (Nat.le_refl _) ?_
      refine z_retv X (as := [.ref wk, .ref (aA1 (ordF R q came)), .int (nI i0)]) (wc := [(gv, .inl (cy 0, 6, .inl (vA vx)))]) (wr := [(sz, .inl (cy 0, 5, .inl (sadd (sadd sf (fun p => if p = came then ct (mq R q vo came) (mqM R q came) else 0)) (fun p => sumB (mq R q vo came) (fun i => dlt R q (n + 1) (came + 1) (lrnA R q vo came i) p) lo))))]) (rest := []) (fun H9 locs9 ls9 hP9 hS9 hl9 hb9 hp9 => va_runV (As := [.ref (aA1 (ordF R q came)), .int (nI i0)]) (rest := []) X.fix (m_learn l D cy O hW9 hc3 hc5 hP3 hc7 hc1 hQ3 hR3 hP1 (i9 := i0) (by omega) (f := nA (R (q.2.2.2.1 (ordF R q came))).2.2) (c9 := (R (q.2.2.2.1 (ordF R q came))).2.2 i0) rfl (Nat.lt_trans (hx5 i0 (by omega)) (by decide)) H9.size) (cwV 2 X.hts (gV ml_X8_125 im_X8_learn se_X8_learn ni_X8 cd_X8_learn) rfl rfl rfl (by decide +kernel) ⟨by show 1 + 1 ≤ 2 * (n + 2) + 6; omega, by show 8 + (5 + 11) + 22 ≤ 40 * (n + 2) + 120; omega⟩) ⟨hb9, z_recvO X (ci := 8) (r := (RX8, TX8, 7)) hW9 rfl hS9, hp9⟩ rfl rfl hl9.1 rfl (lv_room (Nat.le_of_ble_eq_true rfl)) dX8_goOn_115 ⟨Nat.le_of_ble_eq_true rfl, Nat.le_of_ble_eq_true rfl⟩) [1] [0] rfl rfl rfl rfl rfl (by decide) (fun _ h => Or.inl h) (fun w8 h9 => ?_)
      rw [hL3.lrn_is htt] at h9
      subst h9
      refine z_eq (ws' := [(sz, .inl (cy 0, 5, .inl (sadd (sadd sf (fun p => if p = came then ct (mq R q vo came) (mqM R q came) else 0)) (fun p => sumB (mq R q vo came) (fun i => dlt R q (n + 1) (came + 1) (lrnA R q vo came i) p) lo)))), (gv, .inl (cy 0, 6, .inl (vA (lrnA R q vo came i0))))]) (lv' := [(6, .int (nI k)), (5, .int (nI (fsh vo (q.2.2.2.2 (ordF R q came)) (R (q.2.2.2.1 (ordF R q came))).1))), (4, .int (nI (ct (mq R q vo came) (mqM R q came)))), (3, .int (nI (ms (kp (mq R q vo came) lo) (mqM R q came)))), (2, .ref (aA1 (ordF R q came))), (0, .ref wk), (1, .int (nI came))]) (st' := []) rfl rfl rfl ?_
      refine z_widen (k' := 0) (n' := 0) (Nat.le_refl _) (Nat.le_refl _) ?_
      refine z_iload_n X dX8_goOn_118 rfl (j := 3) rfl ?_
      refine z_iload_n X dX8_goOn_119 rfl (j := 3) rfl ?_
      refine z_iconst X (v := 1) dX8_goOn_120 (by decide) ?_
      refine z_isub X (v := (nI ((ms (kp (mq R q vo came) lo) (mqM R q came)) - 1))) dX8_goOn_121 (sub_1 e5) ?_
      refine z_iand X (v := (nI (ms (kp (mq R q vo came) (i0 + 1)) (mqM R q came)))) dX8_goOn_122 (by rw [nI_and, e8]) ?_
      refine z_istore_n X (lv' := [(3, .int (nI (ms (kp (mq R q vo came) (i0 + 1)) (mqM R q came)))), (6, .int (nI k)), (5, .int (nI (fsh vo (q.2.2.2.2 (ordF R q came)) (R (q.2.2.2.1 (ordF R q came))).1))), (4, .int (nI (ct (mq R q vo came) (mqM R q came)))), (2, .ref (aA1 (ordF R q came))), (0, .ref wk), (1, .int (nI came))]) dX8_goOn_123 rfl (by decide) rfl ?_
      refine z_aload_n X dX8_goOn_124 rfl (j := 5) rfl ?_
      refine z_iload_n X dX8_goOn_125 rfl (j := 6) rfl ?_
      refine z_iconst X (v := 1) dX8_goOn_126 (by decide) ?_
      refine z_iadd X (v := (nI (came + 1))) dX8_goOn_127 (nI_1 came) ?_
      refine z_retv X (as := [.ref wk, .int (nI (came + 1))]) (wc := [(sz, .inl (cy 0, 5, .inl (sadd (sadd sf (fun p => if p = came then ct (mq R q vo came) (mqM R q came) else 0)) (fun p => sumB (mq R q vo came) (fun i => dlt R q (n + 1) (came + 1) (lrnA R q vo came i) p) lo)))), (gv, .inl (cy 0, 6, .inl (vA (lrnA R q vo came i0))))]) (wr := []) (rest := []) (fun H9 locs9 ls9 hP9 hS9 hl9 hb9 hp9 => va_runV (As := [.int (nI (came + 1))]) (rest := []) X.fix (ih (lrnA R q vo came i0) (sadd (sadd sf (fun p => if p = came then ct (mq R q vo came) (mqM R q came) else 0)) (fun p => sumB (mq R q vo came) (fun i => dlt R q (n + 1) (came + 1) (lrnA R q vo came i) p) lo)) (VB_lrn hvb _ _ _ _) H9.size) (cwV 1 X.hts (gV ml_X8_75 im_X8_goOn se_X8_goOn ni_X8 cd_X8_goOn) rfl rfl rfl (by decide +kernel) ⟨by show (2 * (n + 1) + 6) + 1 ≤ 2 * (n + 2) + 6; omega, by show 8 + (7 + 11) + (40 * (n + 1) + 120) ≤ 40 * (n + 2) + 120; omega⟩) ⟨hb9, z_recvO X (ci := 8) (r := (RX8, TX8, 7)) hW9 rfl hS9, hp9⟩ rfl rfl hl9.1 rfl (lv_room (Nat.le_of_ble_eq_true rfl)) dX8_goOn_128 ⟨Nat.le_of_ble_eq_true rfl, Nat.le_of_ble_eq_true rfl⟩) [0, 1] [] rfl rfl rfl rfl rfl (by decide) (fun _ h => Or.inl h) (fun w11 h12 => ?_)
      subst h12
      refine z_eq (ws' := [(sz, .inl (cy 0, 5, .inl (sadd (sadd (sadd sf (fun p => if p = came then ct (mq R q vo came) (mqM R q came) else 0)) (fun p => sumB (mq R q vo came) (fun i => dlt R q (n + 1) (came + 1) (lrnA R q vo came i) p) lo)) (dlt R q (n + 1) (came + 1) (lrnA R q vo came i0))))), (gv, .inl (cy 0, 6, .inl (vA (lrnA R q vo came i0))))]) (lv' := [(3, .int (nI (ms (kp (mq R q vo came) (i0 + 1)) (mqM R q came)))), (6, .int (nI k)), (5, .int (nI (fsh vo (q.2.2.2.2 (ordF R q came)) (R (q.2.2.2.1 (ordF R q came))).1))), (4, .int (nI (ct (mq R q vo came) (mqM R q came)))), (2, .ref (aA1 (ordF R q came))), (0, .ref wk), (1, .int (nI came))]) (st' := []) rfl rfl rfl ?_
      refine z_widen (k' := 0) (n' := 0) (Nat.le_refl _) (Nat.le_refl _) ?_
      refine z_iinc X (j := 1) (v := (nI (k + 1))) (lv' := [(6, .int (nI (k + 1))), (3, .int (nI (ms (kp (mq R q vo came) (i0 + 1)) (mqM R q came)))), (5, .int (nI (fsh vo (q.2.2.2.2 (ordF R q came)) (R (q.2.2.2.1 (ordF R q came))).1))), (4, .int (nI (ct (mq R q vo came) (mqM R q came)))), (2, .ref (aA1 (ordF R q came))), (0, .ref wk), (1, .int (nI came))]) dX8_goOn_131 rfl (nI_1 k) (by decide) rfl ?_
      refine z_goto X (tgt := 102) dX8_goOn_134 (by decide) ?_
      refine z_lv [0, 2, 3, 1, 4, 5, 6] (lv' := [(6, .int (nI (k + 1))), (5, .int (nI (fsh vo (q.2.2.2.2 (ordF R q came)) (R (q.2.2.2.1 (ordF R q came))).1))), (4, .int (nI (ct (mq R q vo came) (mqM R q came)))), (3, .int (nI (ms (kp (mq R q vo came) (i0 + 1)) (mqM R q came)))), (2, .ref (aA1 (ordF R q came))), (0, .ref wk), (1, .int (nI came))]) rfl ?_
      refine z_eq (ws' := [(sz, .inl (cy 0, 5, .inl (sadd (sadd sf (fun p => if p = came then ct (mq R q vo came) (mqM R q came) else 0)) (fun p => sumB (mq R q vo came) (fun i => dlt R q (n + 1) (came + 1) (lrnA R q vo came i) p) (i0 + 1))))), (gv, .inl (cy 0, 6, .inl (vA (lrnA R q vo came i0))))]) (lv' := [(6, .int (nI (k + 1))), (5, .int (nI (fsh vo (q.2.2.2.2 (ordF R q came)) (R (q.2.2.2.1 (ordF R q came))).1))), (4, .int (nI (ct (mq R q vo came) (mqM R q came)))), (3, .int (nI (ms (kp (mq R q vo came) (i0 + 1)) (mqM R q came)))), (2, .ref (aA1 (ordF R q came))), (0, .ref wk), (1, .int (nI came))]) (st' := []) (by rw [sadd_tr (fun p => show _ = sumB (mq R q vo came) (fun i => dlt R q (n + 1) (came + 1) (lrnA R q vo came i) p) (i0 + 1) by rw [sumB, sumB_skip e4 e1, if_pos e3])]) rfl rfl ?_
      exact ih9 (i0 + 1) (k + 1) (lrnA R q vo came i0) (by omega) e9 (by omega) (sam_lrn e3)
  refine z_aload_n X dX8_goOn_0 rfl (j := 0) rfl ?_
  refine z_getO X (ci := 8) (C := RX8) (T := TX8) (N := 7) inX8 hW9 rfl 5 (by decide) fl_X8_32 (fun _ h9 => h9) rfl dX8_goOn_1 ?_
  refine z_if_eq X (tgt := 15) dX8_goOn_4 (by decide) (fun c_4 => ?_) (fun c9 => absurd (by decide) c9)
  refine z_iload_n X dX8_goOn_15 rfl (j := 1) rfl ?_
  refine z_aload_n X dX8_goOn_16 rfl (j := 0) rfl ?_
  refine z_getO X (ci := 8) (C := RX8) (T := TX8) (N := 7) inX8 hW9 rfl 4 (by decide) fl_X8_28 (fun _ h9 => h9) rfl dX8_goOn_17 ?_
  refine z_getO X (ci := 6) (C := RX6) (T := TX6) (N := 3) inX6 hB1 rfl 2 (by decide) fl_X8_46 (fun _ h9 => h9) rfl dX8_goOn_20 ?_
  refine z_icmp_lt X (tgt := 27) dX8_goOn_23 (by decide) (fun c_23 => ?_) (fun c9 => absurd (nI_lt (a := came) (b := q.2.2.1) (by omega) (by omega)) c9)
  refine z_aload_n X dX8_goOn_27 rfl (j := 0) rfl ?_
  refine z_getO X (ci := 8) (C := RX8) (T := TX8) (N := 7) inX8 hW9 rfl 4 (by decide) fl_X8_28 (fun _ h9 => h9) rfl dX8_goOn_28 ?_
  refine z_getO X (ci := 6) (C := RX6) (T := TX6) (N := 3) inX6 hB1 rfl 1 (by decide) fl_X8_62 (fun _ h9 => h9) rfl dX8_goOn_31 ?_
  refine z_aload_n X dX8_goOn_34 rfl (j := 0) rfl ?_
  refine z_getO X (ci := 8) (C := RX8) (T := TX8) (N := 7) inX8 hW9 rfl 0 (by decide) fl_X8_9 (fun _ h9 => h9) rfl dX8_goOn_35 ?_
  refine z_iload_n X dX8_goOn_38 rfl (j := 1) rfl ?_
  refine z_ialdO X hod (v := (nI (ordF R q came))) (vp_in_nI (by omega) (by decide)) (by rw [nI_clamp (by omega)]; exact hof came (by omega)) dX8_goOn_39 ?_
  refine z_aaldO X (t := 5) hF1 rfl (b := (aA1 (ordF R q came))) (vp_in_nI (by omega) (by decide)) (by rw [nI_clamp (by omega)]; exact hfa) dX8_goOn_40 ?_
  refine z_astore_n X (lv' := [(2, .ref (aA1 (ordF R q came))), (0, .ref wk), (1, .int (nI came))]) dX8_goOn_41 rfl (by decide) rfl ?_
  refine z_aload_n X dX8_goOn_42 rfl (j := 0) rfl ?_
  refine z_aload_n X dX8_goOn_43 rfl (j := 1) rfl ?_
  refine z_getO X (ci := 8) (C := RX8) (T := TX8) (N := 7) inX8 hW9 rfl 3 (by decide) fl_X8_25 (fun _ h9 => h9) rfl dX8_goOn_44 ?_
  refine z_reti X (as := [.ref (aA1 (ordF R q came)), .ref gv]) (wc := []) (wr := [(sz, .inl (cy 0, 5, .inl sf)), (gv, .inl (cy 0, 6, .inl (vA vo)))]) (rest := []) (fun H9 locs9 ls9 hP9 hS9 hl9 hb9 hp9 => va_runV (As := [.ref gv]) (rest := []) X.fix (m_matching l D cy (fun z => O z ∨ z ∈ ([(sz, .inl (cy 0, 5, .inl sf)), (gv, .inl (cy 0, 6, .inl (vA vo)))] : va_W)) (Or.inl hc1) (Or.inl hQ3) (Or.inl hK3) (Or.inl hc3) (Or.inl hc5) (Or.inl hH3) (Or.inr (List.mem_of_getElem? (i := 1) rfl)) (show (R (q.2.2.2.1 (ordF R q came))).2.1 ≤ 25 by omega) hP3 hc7 hv8 H9.size) (cwV 1 X.hts (gV ml_X8_108 im_X0_matching se_X0_matching ni_X0 cd_X0_matching) rfl rfl rfl (by decide +kernel) ⟨by show 1 + 1 ≤ 2 * (n + 2) + 6; omega, by show 8 + (5 + 11) + 23 ≤ 40 * (n + 2) + 120; omega⟩) ⟨hb9, z_recvO X (ci := 0) (r := (RX0, TX0, 2)) hc1 rfl hS9, hp9⟩ rfl rfl hl9.1 rfl (lv_room (Nat.le_of_ble_eq_true rfl)) dX8_goOn_47 ⟨Nat.le_of_ble_eq_true rfl, Nat.le_of_ble_eq_true rfl⟩) [] [0, 1] rfl rfl rfl rfl rfl (by decide) (fun q h => h) (fun r13 w14 h15 => ?_)
  obtain ⟨rfl, rfl⟩ := h15
  rw [mat_ms hHK3 _ (Nat.le_refl _) hv8]
  refine z_eq (ws' := [(sz, .inl (cy 0, 5, .inl sf)), (gv, .inl (cy 0, 6, .inl (vA vo)))]) (lv' := [(2, .ref (aA1 (ordF R q came))), (0, .ref wk), (1, .int (nI came))]) (st' := [.int (nI (ms (mq R q vo came) (mqM R q came)))]) rfl rfl rfl ?_
  refine z_widen (k' := 0) (n' := 0) (Nat.le_refl _) (Nat.le_refl _) ?_
  refine z_istore_n X (lv' := [(3, .int (nI (ms (mq R q vo came) (mqM R q came)))), (2, .ref (aA1 (ordF R q came))), (0, .ref wk), (1, .int (nI came))]) dX8_goOn_50 rfl (by decide) rfl ?_
  refine z_iload_n X dX8_goOn_51 rfl (j := 0) rfl ?_
  refine z_reti X (as := [.int (nI (ms (mq R q vo came) (mqM R q came)))]) (wc := []) (wr := [(sz, .inl (cy 0, 5, .inl sf)), (gv, .inl (cy 0, 6, .inl (vA vo)))]) (rest := []) (fun H9 locs9 ls9 hP9 hS9 hl9 hb9 hp9 => va_runS (As := [.int (nI (ms (mq R q vo came) (mqM R q came)))]) (rest := []) X.fix (m_ibits l D cy O (n9 := ms (mq R q vo came) (mqM R q came)) (Nat.lt_trans hms (by decide)) H9.size) (va_cwS 1 X.hts (gS ml_X8_112 sm_J6_bitCount_0f7a4 ni_J6 cd_J6_bitCount_0f7a4) rfl rfl rfl (by decide +kernel) ⟨by show 0 + 1 ≤ 2 * (n + 2) + 6; omega, by show 8 + (1 + 11) + 0 ≤ 40 * (n + 2) + 120; omega⟩) ⟨hb9, hp9⟩ rfl rfl hl9.1 rfl (lv_room (Nat.le_of_ble_eq_true rfl)) dX8_goOn_52 ⟨Nat.le_of_ble_eq_true rfl, Nat.le_of_ble_eq_true rfl⟩) [] [0, 1] rfl rfl rfl rfl rfl (by decide) (fun _ h => Or.inl h) (fun r16 w17 h18 => ?_)
  obtain ⟨rfl, rfl⟩ := h18
  rw [ct_msN (show mqM R q came ≤ 32 by omega)]
  refine z_eq (ws' := [(sz, .inl (cy 0, 5, .inl sf)), (gv, .inl (cy 0, 6, .inl (vA vo)))]) (lv' := [(3, .int (nI (ms (mq R q vo came) (mqM R q came)))), (2, .ref (aA1 (ordF R q came))), (0, .ref wk), (1, .int (nI came))]) (st' := [.int (nI (ct (mq R q vo came) (mqM R q came)))]) rfl rfl rfl ?_
  refine z_widen (k' := 0) (n' := 0) (Nat.le_refl _) (Nat.le_refl _) ?_
  refine z_istore X (lv' := [(4, .int (nI (ct (mq R q vo came) (mqM R q came)))), (3, .int (nI (ms (mq R q vo came) (mqM R q came)))), (2, .ref (aA1 (ordF R q came))), (0, .ref wk), (1, .int (nI came))]) dX8_goOn_55 (by decide) rfl ?_
  refine z_aload_n X dX8_goOn_57 rfl (j := 3) rfl ?_
  refine z_getO X (ci := 8) (C := RX8) (T := TX8) (N := 7) inX8 hW9 rfl 1 (by decide) fl_X8_15 (fun _ h9 => h9) rfl dX8_goOn_58 ?_
  refine z_iload_n X dX8_goOn_61 rfl (j := 4) rfl ?_
  refine z_dup2 X dX8_goOn_62 rfl rfl ?_
  refine z_ialdW X 0 rfl (v := (sf came)) (vp_in_nI (by omega) (by decide)) (by rw [nI_clamp (by omega)]) dX8_goOn_63 ?_
  refine z_iload X dX8_goOn_64 (j := 0) rfl ?_
  refine z_iadd X (v := (sf came + nI (ct (mq R q vo came) (mqM R q came)))) dX8_goOn_66 rfl ?_
  refine z_iastW X 0 rfl (vp_in_nI (by omega) (by decide)) (ws' := [(sz, .inl (cy 0, 5, .inl (sadd sf (fun p => if p = came then ct (mq R q vo came) (mqM R q came) else 0)))), (gv, .inl (cy 0, 6, .inl (vA vo)))]) (by rw [nI_clamp (show came < 2 ^ 31 by omega), sadd_up]; rfl) dX8_goOn_67 ?_
  refine z_aload_n X dX8_goOn_68 rfl (j := 3) rfl ?_
  refine z_getO X (ci := 8) (C := RX8) (T := TX8) (N := 7) inX8 hW9 rfl 5 (by decide) fl_X8_32 (fun _ h9 => h9) rfl dX8_goOn_69 ?_
  refine z_if_ne X (tgt := 89) dX8_goOn_72 (by decide) (fun c9 => absurd (by decide) c9) (fun c_72 => ?_)
  refine z_iload_n X dX8_goOn_75 rfl (j := 4) rfl ?_
  refine z_aload_n X dX8_goOn_76 rfl (j := 3) rfl ?_
  refine z_getO X (ci := 8) (C := RX8) (T := TX8) (N := 7) inX8 hW9 rfl 4 (by decide) fl_X8_28 (fun _ h9 => h9) rfl dX8_goOn_77 ?_
  refine z_getO X (ci := 6) (C := RX6) (T := TX6) (N := 3) inX6 hB1 rfl 2 (by decide) fl_X8_46 (fun _ h9 => h9) rfl dX8_goOn_80 ?_
  refine z_iconst X (v := 1) dX8_goOn_83 (by decide) ?_
  refine z_isub X (v := (nI (q.2.2.1 - 1))) dX8_goOn_84 (sub_1 (by omega)) ?_
  refine z_icmp_ne X (tgt := 89) dX8_goOn_85 (by decide) (fun c_85 => ?_) (fun c9 => absurd c9 (show ¬ nI came = nI (q.2.2.1 - 1) from fun z => by have := (nI_eq (by omega) (by omega)).mp z; omega))
  refine z_aload_n X dX8_goOn_89 rfl (j := 3) rfl ?_
  refine z_aload_n X dX8_goOn_90 rfl (j := 2) rfl ?_
  refine z_getO X (ci := 0) (C := RX0) (T := TX0) (N := 2) inX0 hc1 rfl 1 (by decide) fl_X8_66 (fun _ h9 => h9) rfl dX8_goOn_91 ?_
  refine z_reti X (as := [.ref wk, .ref (tA1 (ordF R q came))]) (wc := []) (wr := [(sz, .inl (cy 0, 5, .inl (sadd sf (fun p => if p = came then ct (mq R q vo came) (mqM R q came) else 0)))), (gv, .inl (cy 0, 6, .inl (vA vo)))]) (rest := []) (fun H9 locs9 ls9 hP9 hS9 hl9 hb9 hp9 => va_runV (As := [.ref (tA1 (ordF R q came))]) (rest := []) X.fix (m_freshIn l D cy (fun z => O z ∨ z ∈ ([(sz, .inl (cy 0, 5, .inl (sadd sf (fun p => if p = came then ct (mq R q vo came) (mqM R q came) else 0)))), (gv, .inl (cy 0, 6, .inl (vA vo)))] : va_W)) (Or.inl hW9) (Or.inr (List.mem_of_getElem? (i := 1) rfl)) (Or.inl hc3) (Or.inl hc5) hP3 hc7 hvb H9.size) (cwV 1 X.hts (gV ml_X8_118 im_X8_freshIn se_X8_freshIn ni_X8 cd_X8_freshIn) rfl rfl rfl (by decide +kernel) ⟨by show 1 + 1 ≤ 2 * (n + 2) + 6; omega, by show 8 + (4 + 11) + 22 ≤ 40 * (n + 2) + 120; omega⟩) ⟨hb9, z_recvO X (ci := 8) (r := (RX8, TX8, 7)) hW9 rfl hS9, hp9⟩ rfl rfl hl9.1 rfl (lv_room (Nat.le_of_ble_eq_true rfl)) dX8_goOn_94 ⟨Nat.le_of_ble_eq_true rfl, Nat.le_of_ble_eq_true rfl⟩) [] [0, 1] rfl rfl rfl rfl rfl (by decide) (fun q h => h) (fun r19 w20 h21 => ?_)
  obtain ⟨rfl, rfl⟩ := h21
  refine z_eq (ws' := [(sz, .inl (cy 0, 5, .inl (sadd sf (fun p => if p = came then ct (mq R q vo came) (mqM R q came) else 0)))), (gv, .inl (cy 0, 6, .inl (vA vo)))]) (lv' := [(4, .int (nI (ct (mq R q vo came) (mqM R q came)))), (3, .int (nI (ms (mq R q vo came) (mqM R q came)))), (2, .ref (aA1 (ordF R q came))), (0, .ref wk), (1, .int (nI came))]) (st' := [.int (nI (fsh vo (q.2.2.2.2 (ordF R q came)) (R (q.2.2.2.1 (ordF R q came))).1))]) rfl rfl rfl ?_
  refine z_widen (k' := 0) (n' := 0) (Nat.le_refl _) (Nat.le_refl _) ?_
  refine z_istore X (lv' := [(5, .int (nI (fsh vo (q.2.2.2.2 (ordF R q came)) (R (q.2.2.2.1 (ordF R q came))).1))), (4, .int (nI (ct (mq R q vo came) (mqM R q came)))), (3, .int (nI (ms (mq R q vo came) (mqM R q came)))), (2, .ref (aA1 (ordF R q came))), (0, .ref wk), (1, .int (nI came))]) dX8_goOn_97 (by decide) rfl ?_
  refine z_iconst X (v := 0) dX8_goOn_99 (by decide) ?_
  refine z_istore X (lv' := [(6, .int 0), (5, .int (nI (fsh vo (q.2.2.2.2 (ordF R q came)) (R (q.2.2.2.1 (ordF R q came))).1))), (4, .int (nI (ct (mq R q vo came) (mqM R q came)))), (3, .int (nI (ms (mq R q vo came) (mqM R q came)))), (2, .ref (aA1 (ordF R q came))), (0, .ref wk), (1, .int (nI came))]) dX8_goOn_100 (by decide) rfl ?_
  refine z_eq (ws' := [(sz, .inl (cy 0, 5, .inl (sadd (sadd sf (fun p => if p = came then ct (mq R q vo came) (mqM R q came) else 0)) (fun p => sumB (mq R q vo came) (fun i => dlt R q (n + 1) (came + 1) (lrnA R q vo came i) p) 0)))), (gv, .inl (cy 0, 6, .inl (vA vo)))]) (lv' := [(6, .int (nI 0)), (5, .int (nI (fsh vo (q.2.2.2.2 (ordF R q came)) (R (q.2.2.2.1 (ordF R q came))).1))), (4, .int (nI (ct (mq R q vo came) (mqM R q came)))), (3, .int (nI (ms (kp (mq R q vo came) 0) (mqM R q came)))), (2, .ref (aA1 (ordF R q came))), (0, .ref wk), (1, .int (nI came))]) (st' := []) (by rw [show (fun p => sumB (mq R q vo came) (fun i => dlt R q (n + 1) (came + 1) (lrnA R q vo came i) p) 0) = fun _ => 0 from rfl, sadd_0]) (by rw [kp_0]; rfl) rfl ?_
  exact L (ct (mq R q vo came) (mqM R q came)) 0 0 vo (by omega) (by rw [kp_0]) (Nat.zero_le _) (fun _ _ => rfl)
/-- goOn(came), measuring -/
theorem m_goOn_m (l : Launch) (D : va_G) (cy : Nat → ClassId) (O : Nat × va_E → Prop) {wk od sz b5 gv hf : Nat} {of : Nat → Int32} {bq rc : Nat} {R : Nat → RRow} {rb : Nat → Nat} {q : URow} (hR : ∀ j, j < rc → RlO O cy (rb j) (R j)) (hq : RuO O cy R rb rc bq q) (hW9 : O (wk, .inr (8, [.ref od, .ref sz, .ref b5, .ref gv, .ref bq, .int 0, .int (nI hf)]))) (hod : O (od, .inl (cy 0, 5, .inl of))) (hof : ∀ p, p < q.2.2.1 → of p = nI (ordF R q p)) (hhf : hf = hfF R q q.2.2.1) : ∀ (n came : Nat), came + n = q.2.2.1 → ∀ (vo : Nat → Option Nat) (sf : Nat → Int32), VB vo → Cv l yX8_goOn (.code yX8_goOn cX8_goOn 7 none :: WALL) ({ frames := 2 * n + 6, cells := 0, slots := 0, locals := 40 * n + 120 }) D cy O [.ref wk, .int (nI came)] [(sz, .inl (cy 0, 5, .inl sf)), (gv, .inl (cy 0, 6, .inl (vA vo)))] 0 0 (fun (w : va_W) => w = [(sz, .inl (cy 0, 5, .inl (sadd sf (dlt R q n came vo)))), (gv, .inl (cy 0, 6, .inl (vA vo)))])
  | 0, came, h, vo, sf, hv => m_goOn_m0 l D cy O hR hq hW9 hod hof hhf hv (by omega)
  | 1, came, h, vo, sf, hv => m_goOn_m1 l D cy O hR hq hW9 hod hof hhf hv (by omega)
  | n + 2, came, h, vo, sf, hv => m_goOn_ms l D cy O hR hq hW9 hod hof hhf hv (by omega) (fun vo sf hv => m_goOn_m l D cy O hR hq hW9 hod hof hhf (n + 1) (came + 1) (by omega) vo sf hv)
set_option maxHeartbeats 4000000 in
set_option maxRecDepth 100000 in
/-- isTold(came), an atom is left -/
theorem m_isTold_m (l : Launch) (D : va_G) (cy : Nat → ClassId) (O : Nat × va_E → Prop) {wk od sz b5 r5 gv hf came : Nat} {w5 : Value} {vo : Nat → Option Nat} {fs : Nat → Bool} {bq rc : Nat} {R : Nat → RRow} {rb : Nat → Nat} {q : URow} (hR : ∀ j, j < rc → RlO O cy (rb j) (R j)) (hq : RuO O cy R rb rc bq q) (hW9 : O (wk, .inr (8, [.ref od, .ref sz, .ref b5, .ref gv, .ref bq, w5, .int (nI hf)]))) (hhf : hf < 2 ^ 31) (hcm : came < 2 ^ 31) (hkk : hf ≤ came → HKn q vo) (hgv : O (gv, .inl (cy 0, 6, .inl (vA vo)))) (hlt9 : came < q.2.2.1) : Ci l yX8_isTold (.code yX8_isTold cX8_isTold 3 (some .boolean) :: WALL) ({ frames := 2, cells := 0, slots := 0, locals := 44 }) D cy O [.ref wk, .int (nI came)] [(b5, .inr (5, [.ref r5, .int (nI (ct fs 512))])), (r5, .inl (cy 1, 512, .inl (zB fs)))] 0 0 (fun (r : Int32) (w : va_W) => r = bit (decide (hf ≤ came) && fs (hrw vo q.2.1 q.1)) ∧ w = [(b5, .inr (5, [.ref r5, .int (nI (ct fs 512))])), (r5, .inl (cy 1, 512, .inl (zB fs)))]) := by
  have hq' := hq
  obtain ⟨hd1, aa1, F1, aA1, tA1, hB1, ⟨ta1, T1, hM1, hT1, ht1⟩, hF1, hh1, hm1, hat1⟩ := hq'
  refine z_meti (by decide) rfl rfl (Nat.le_of_ble_eq_true rfl) ?_
  intro p e s m args below meth c X hr hin
  refine z_eq (ws' := [(b5, .inr (5, [.ref r5, .int (nI (ct fs 512))])), (r5, .inl (cy 1, 512, .inl (zB fs)))]) (lv' := [(0, .ref wk), (1, .int (nI came))]) (st' := []) rfl rfl rfl ?_
  refine z_iload_n X dX8_isTold_0 rfl (j := 1) rfl ?_
  refine z_aload_n X dX8_isTold_1 rfl (j := 0) rfl ?_
  refine z_getO X (ci := 8) (C := RX8) (T := TX8) (N := 7) inX8 hW9 rfl 6 (by decide) fl_X8_36 (fun _ h9 => h9) rfl dX8_isTold_2 ?_
  refine z_icmp_ge X (tgt := 10) dX8_isTold_5 (by decide) (fun c_5 => ?_) (fun c_5 => ?_)
  · skip
    have hge : hf ≤ came := (nI_leI hhf hcm).mp c_5
    have hhk := hkk hge
    refine z_aload_n X dX8_isTold_10 rfl (j := 0) rfl ?_
    refine z_reti X (as := [.ref wk]) (wc := []) (wr := [(b5, .inr (5, [.ref r5, .int (nI (ct fs 512))])), (r5, .inl (cy 1, 512, .inl (zB fs)))]) (rest := []) (fun H9 locs9 ls9 hP9 hS9 hl9 hb9 hp9 => va_runV (As := []) (rest := []) X.fix (m_headRow l D cy O hR hq hW9 hgv hhk H9.size) (cwV 0 X.hts (gV ml_X8_132 im_X8_headRow se_X8_headRow ni_X8 cd_X8_headRow) rfl rfl rfl (by decide +kernel) ⟨Nat.le_of_ble_eq_true rfl, Nat.le_of_ble_eq_true rfl⟩) ⟨hb9, z_recvO X (ci := 8) (r := (RX8, TX8, 7)) hW9 rfl hS9, hp9⟩ rfl rfl hl9.1 rfl (lv_room (Nat.le_of_ble_eq_true rfl)) dX8_isTold_11 ⟨Nat.le_of_ble_eq_true rfl, Nat.le_of_ble_eq_true rfl⟩) [] [0, 1] rfl rfl rfl rfl rfl (by decide) (fun _ h => Or.inl h) (fun r1 w2 h3 => ?_)
    obtain ⟨rfl, rfl⟩ := h3
    refine z_eq (ws' := [(b5, .inr (5, [.ref r5, .int (nI (ct fs 512))])), (r5, .inl (cy 1, 512, .inl (zB fs)))]) (lv' := [(0, .ref wk), (1, .int (nI came))]) (st' := [.int (nI (hrw vo q.2.1 q.1))]) rfl rfl rfl ?_
    refine z_widen (k' := 0) (n' := 0) (Nat.le_refl _) (Nat.le_refl _) ?_
    refine z_istore_n X (lv' := [(2, .int (nI (hrw vo q.2.1 q.1))), (0, .ref wk), (1, .int (nI came))]) dX8_isTold_14 rfl (by decide) rfl ?_
    refine z_iload_n X dX8_isTold_15 rfl (j := 2) rfl ?_
    refine z_aload_n X dX8_isTold_16 rfl (j := 1) rfl ?_
    refine z_getO X (ci := 8) (C := RX8) (T := TX8) (N := 7) inX8 hW9 rfl 4 (by decide) fl_X8_28 (fun _ h9 => h9) rfl dX8_isTold_17 ?_
    refine z_getO X (ci := 6) (C := RX6) (T := TX6) (N := 3) inX6 hB1 rfl 2 (by decide) fl_X8_46 (fun _ h9 => h9) rfl dX8_isTold_20 ?_
    refine z_icmp_lt X (tgt := 34) dX8_isTold_23 (by decide) (fun c_23 => ?_) (fun c9 => absurd (nI_lt hlt9 (by omega)) c9)
    refine z_aload_n X dX8_isTold_34 rfl (j := 1) rfl ?_
    refine z_getO X (ci := 8) (C := RX8) (T := TX8) (N := 7) inX8 hW9 rfl 2 (by decide) fl_X8_21 (fun _ h9 => h9) rfl dX8_isTold_35 ?_
    refine z_iload_n X dX8_isTold_38 rfl (j := 0) rfl ?_
    refine z_reti X (as := [.ref b5, .int (nI (hrw vo q.2.1 q.1))]) (wc := []) (wr := [(b5, .inr (5, [.ref r5, .int (nI (ct fs 512))])), (r5, .inl (cy 1, 512, .inl (zB fs)))]) (rest := []) (fun H9 locs9 ls9 hP9 hS9 hl9 hb9 hp9 => va_runV (As := [.int (nI (hrw vo q.2.1 q.1))]) (rest := []) X.fix (m_hasRow l D cy (fun z => O z ∨ z ∈ ([(b5, .inr (5, [.ref r5, .int (nI (ct fs 512))])), (r5, .inl (cy 1, 512, .inl (zB fs)))] : va_W)) (Or.inr (List.mem_of_getElem? (i := 0) rfl)) (Or.inr (List.mem_of_getElem? (i := 1) rfl)) (hrw_512 hhk hh1) H9.size) (cwV 1 X.hts (gV ml_X8_138 im_X5_has se_X5_has ni_X5 cd_X5_has) rfl rfl rfl (by decide +kernel) ⟨Nat.le_of_ble_eq_true rfl, Nat.le_of_ble_eq_true rfl⟩) ⟨hb9, z_recvW X (q0 := 0) (ci := 5) (r := (RX5, TX5, 2)) rfl rfl hP9, hp9⟩ rfl rfl hl9.1 rfl (lv_room (Nat.le_of_ble_eq_true rfl)) dX8_isTold_39 ⟨Nat.le_of_ble_eq_true rfl, Nat.le_of_ble_eq_true rfl⟩) [] [0, 1] rfl rfl rfl rfl rfl (by decide) (fun q h => h) (fun r4 w5 h6 => ?_)
    obtain ⟨rfl, rfl⟩ := h6
    refine z_eq (ws' := [(b5, .inr (5, [.ref r5, .int (nI (ct fs 512))])), (r5, .inl (cy 1, 512, .inl (zB fs)))]) (lv' := [(2, .int (nI (hrw vo q.2.1 q.1))), (0, .ref wk), (1, .int (nI came))]) (st' := [.int (zb (fs (hrw vo q.2.1 q.1)))]) rfl rfl rfl ?_
    refine z_widen (k' := 0) (n' := 0) (Nat.le_refl _) (Nat.le_refl _) ?_
    exact z_endz X hr (zb_01 _) [(b5, .inr (5, [.ref r5, .int (nI (ct fs 512))])), (r5, .inl (cy 1, 512, .inl (zB fs)))] [0, 1] rfl rfl rfl ⟨(by rw [decide_eq_true hge]; rfl), rfl⟩ dX8_isTold_42
  · skip
    refine z_iconst X (v := 0) dX8_isTold_8 (by decide) ?_
    exact z_endz X hr (Or.inl rfl) [(b5, .inr (5, [.ref r5, .int (nI (ct fs 512))])), (r5, .inl (cy 1, 512, .inl (zB fs)))] [0, 1] rfl rfl rfl ⟨(by rw [decide_eq_false (fun z => c_5 (nI_le z (by omega)))]; rfl), rfl⟩ dX8_isTold_9
set_option maxHeartbeats 4000000 in
set_option maxRecDepth 100000 in
/-- goOn(came), telling, behind all atoms -/
theorem m_goOn_t0 (l : Launch) (D : va_G) (cy : Nat → ClassId) (O : Nat × va_E → Prop) {wk od sz b5 gv hf came : Nat} {of : Nat → Int32} {vo : Nat → Option Nat} {bq rc : Nat} {R : Nat → RRow} {rb : Nat → Nat} {q : URow} (hR : ∀ j, j < rc → RlO O cy (rb j) (R j)) (hq : RuO O cy R rb rc bq q) (hW9 : O (wk, .inr (8, [.ref od, .ref sz, .ref b5, .ref gv, .ref bq, .int 1, .int (nI hf)]))) (hod : O (od, .inl (cy 0, 5, .inl of))) (hof : ∀ p, p < q.2.2.1 → of p = nI (ordF R q p)) (hhf : hf = hfF R q q.2.2.1) (hvb : VB vo) {r5 : Nat} {sf : Nat → Int32} {fs : Nat → Bool} (hkw : knw R q came vo) (hgr : nd (vsf q.2.1 q.1) (lk R q q.2.2.1).2 = 0) (hcm : came = q.2.2.1) : Cv l yX8_goOn (.code yX8_goOn cX8_goOn 7 none :: WALL) ({ frames := 2 * 0 + 6, cells := 0, slots := 0, locals := 40 * 0 + 120 }) D cy O [.ref wk, .int (nI came)] [(sz, .inl (cy 0, 5, .inl sf)), (b5, .inr (5, [.ref r5, .int (nI (ct fs 512))])), (r5, .inl (cy 1, 512, .inl (zB fs))), (gv, .inl (cy 0, 6, .inl (vA vo)))] 0 0 (fun (w : va_W) => ∃ sf' : Nat → Int32, w = [(sz, .inl (cy 0, 5, .inl sf')), (b5, .inr (5, [.ref r5, .int (nI (ct (tadd fs R q 0 came vo) 512))])), (r5, .inl (cy 1, 512, .inl (zB (tadd fs R q 0 came vo)))), (gv, .inl (cy 0, 6, .inl (vA vo)))]) := by
  have hq' := hq
  obtain ⟨hd1, aa1, F1, aA1, tA1, hB1, ⟨ta1, T1, hM1, hT1, ht1⟩, hF1, hh1, hm1, hat1⟩ := hq'
  have hhf31 : hf < 2 ^ 31 := by rw [hhf]; exact Nat.lt_of_le_of_lt (hfF_le R q _) (by omega)
  have hhk : HKn q vo := HKn.of hkw hvb (fun k hk => (ht1 k hk).2) (by rw [hcm]; exact hgr)
  refine z_metv (by decide) rfl rfl (Nat.le_of_ble_eq_true rfl) ?_
  intro p e s m args below meth c X hr hin
  refine z_eq (ws' := [(sz, .inl (cy 0, 5, .inl sf)), (b5, .inr (5, [.ref r5, .int (nI (ct fs 512))])), (r5, .inl (cy 1, 512, .inl (zB fs))), (gv, .inl (cy 0, 6, .inl (vA vo)))]) (lv' := [(0, .ref wk), (1, .int (nI came))]) (st' := []) rfl rfl rfl ?_
  refine z_aload_n X dX8_goOn_0 rfl (j := 0) rfl ?_
  refine z_getO X (ci := 8) (C := RX8) (T := TX8) (N := 7) inX8 hW9 rfl 5 (by decide) fl_X8_32 (fun _ h9 => h9) rfl dX8_goOn_1 ?_
  refine z_if_eq X (tgt := 15) dX8_goOn_4 (by decide) (fun c9 => absurd c9 (by decide)) (fun c_4 => ?_)
  refine z_aload_n X dX8_goOn_7 rfl (j := 0) rfl ?_
  refine z_iload_n X dX8_goOn_8 rfl (j := 1) rfl ?_
  refine z_reti X (as := [.ref wk, .int (nI came)]) (wc := [(b5, .inr (5, [.ref r5, .int (nI (ct fs 512))])), (r5, .inl (cy 1, 512, .inl (zB fs)))]) (wr := [(sz, .inl (cy 0, 5, .inl sf)), (gv, .inl (cy 0, 6, .inl (vA vo)))]) (rest := []) (fun H9 locs9 ls9 hP9 hS9 hl9 hb9 hp9 => va_runV (As := [.int (nI came)]) (rest := []) X.fix (m_isTold_end l D cy (fun z => O z ∨ z ∈ ([(sz, .inl (cy 0, 5, .inl sf)), (gv, .inl (cy 0, 6, .inl (vA vo)))] : va_W)) (fun j hj => (hR j hj).mono fun q h => Or.inl h) (hq.mono fun q h => Or.inl h) (Or.inl hW9) hhf31 (show came < 2 ^ 31 by omega) (by rw [hhf, hcm]; exact hfF_le R q _) (Or.inr (List.mem_of_getElem? (i := 1) rfl)) hhk (by omega) H9.size) (cwV 1 X.hts (gV ml_X8_105 im_X8_isTold se_X8_isTold ni_X8 cd_X8_isTold) rfl rfl rfl (by decide +kernel) ⟨by show 2 + 1 ≤ 2 * 0 + 6; omega, by show 8 + (3 + 11) + 44 ≤ 40 * 0 + 120; omega⟩) ⟨hb9, z_recvO X (ci := 8) (r := (RX8, TX8, 7)) hW9 rfl hS9, hp9⟩ rfl rfl hl9.1 rfl (lv_room (Nat.le_of_ble_eq_true rfl)) dX8_goOn_9 ⟨Nat.le_of_ble_eq_true rfl, Nat.le_of_ble_eq_true rfl⟩) [1, 2] [0, 3] rfl rfl rfl rfl rfl (by decide) (fun q h => h) (fun r1 w2 h3 => ?_)
  obtain ⟨rfl, rfl⟩ := h3
  refine z_eq (ws' := [(sz, .inl (cy 0, 5, .inl sf)), (gv, .inl (cy 0, 6, .inl (vA vo))), (b5, .inr (5, [.ref r5, .int (nI (ct (inc fs (hrw vo q.2.1 q.1)) 512))])), (r5, .inl (cy 1, 512, .inl (zB (inc fs (hrw vo q.2.1 q.1)))))]) (lv' := [(0, .ref wk), (1, .int (nI came))]) (st' := [.int 1]) rfl rfl rfl ?_
  refine z_widen (k' := 0) (n' := 0) (Nat.le_refl _) (Nat.le_refl _) ?_
  refine z_if_ne X (tgt := 26) dX8_goOn_12 (by decide) (fun c_12 => ?_) (fun c9 => absurd c9 (by decide))
  exact z_endv X hr [(sz, .inl (cy 0, 5, .inl sf)), (b5, .inr (5, [.ref r5, .int (nI (ct (inc fs (hrw vo q.2.1 q.1)) 512))])), (r5, .inl (cy 1, 512, .inl (zB (inc fs (hrw vo q.2.1 q.1))))), (gv, .inl (cy 0, 6, .inl (vA vo)))] [0, 2, 3, 1] rfl rfl rfl ⟨sf, by rw [tadd_0 (came := came)]⟩ dX8_goOn_26
set_option maxHeartbeats 4000000 in
set_option maxRecDepth 100000 in
/-- goOn(came), telling -/
theorem m_goOn_ts (l : Launch) (D : va_G) (cy : Nat → ClassId) (O : Nat × va_E → Prop) {wk od sz b5 gv hf came : Nat} {of : Nat → Int32} {vo : Nat → Option Nat} {bq rc : Nat} {R : Nat → RRow} {rb : Nat → Nat} {q : URow} (hR : ∀ j, j < rc → RlO O cy (rb j) (R j)) (hq : RuO O cy R rb rc bq q) (hW9 : O (wk, .inr (8, [.ref od, .ref sz, .ref b5, .ref gv, .ref bq, .int 1, .int (nI hf)]))) (hod : O (od, .inl (cy 0, 5, .inl of))) (hof : ∀ p, p < q.2.2.1 → of p = nI (ordF R q p)) (hhf : hf = hfF R q q.2.2.1) (hvb : VB vo) {r5 : Nat} {sf : Nat → Int32} {fs : Nat → Bool} (hkw : knw R q came vo) (hgr : nd (vsf q.2.1 q.1) (lk R q q.2.2.1).2 = 0) {n : Nat} (hcm : came + (n + 1) = q.2.2.1) (ih : ∀ (vo : Nat → Option Nat) (sf : Nat → Int32) (fs : Nat → Bool), VB vo → knw R q (came + 1) vo → Cv l yX8_goOn (.code yX8_goOn cX8_goOn 7 none :: WALL) ({ frames := 2 * n + 6, cells := 0, slots := 0, locals := 40 * n + 120 }) D cy O [.ref wk, .int (nI (came + 1))] [(sz, .inl (cy 0, 5, .inl sf)), (b5, .inr (5, [.ref r5, .int (nI (ct fs 512))])), (r5, .inl (cy 1, 512, .inl (zB fs))), (gv, .inl (cy 0, 6, .inl (vA vo)))] 0 0 (fun (w : va_W) => ∃ sf' : Nat → Int32, w = [(sz, .inl (cy 0, 5, .inl sf')), (b5, .inr (5, [.ref r5, .int (nI (ct (tadd fs R q n (came + 1) vo) 512))])), (r5, .inl (cy 1, 512, .inl (zB (tadd fs R q n (came + 1) vo)))), (gv, .inl (cy 0, 6, .inl (vA vo)))])) : Cv l yX8_goOn (.code yX8_goOn cX8_goOn 7 none :: WALL) ({ frames := 2 * (n + 1) + 6, cells := 0, slots := 0, locals := 40 * (n + 1) + 120 }) D cy O [.ref wk, .int (nI came)] [(sz, .inl (cy 0, 5, .inl sf)), (b5, .inr (5, [.ref r5, .int (nI (ct fs 512))])), (r5, .inl (cy 1, 512, .inl (zB fs))), (gv, .inl (cy 0, 6, .inl (vA vo)))] 0 0 (fun (w : va_W) => ∃ sf' : Nat → Int32, w = [(sz, .inl (cy 0, 5, .inl sf')), (b5, .inr (5, [.ref r5, .int (nI (ct (tadd fs R q (n + 1) came vo) 512))])), (r5, .inl (cy 1, 512, .inl (zB (tadd fs R q (n + 1) came vo)))), (gv, .inl (cy 0, 6, .inl (vA vo)))]) := by
  have hq' := hq
  obtain ⟨hd1, aa1, F1, aA1, tA1, hB1, ⟨ta1, T1, hM1, hT1, ht1⟩, hF1, hh1, hm1, hat1⟩ := hq'
  have hao : (ordF R q came) < q.2.2.1 := nst_lt R q _ _ (by omega)
  obtain ⟨hfa, hq1, hc1, ta3, T3, hc3, hc5, hc7⟩ := hat1 (ordF R q came) hao
  obtain ⟨ar3, ah3, ak3, hv3, kv3, hQ3, hR3, hH3, hK3, hHK3, hP1, hP3, hM24, hx5⟩ := hR _ hq1
  have htt : ∀ k, k < (R (q.2.2.2.1 (ordF R q came))).1 → isT (q.2.2.2.2 (ordF R q came) k) := fun k hk => (hc7 k hk).2
  have hv8 : ∀ k v, k < (R (q.2.2.2.1 (ordF R q came))).1 → tvo vo (q.2.2.2.2 (ordF R q came) k) = some v → v < 8 := fun k v hk e => hvb.t (htt k hk) e
  have hms : ms (mq R q vo came) (mqM R q came) < 2 ^ 24 := Nat.lt_of_lt_of_le (ms_lt _ _) (Nat.pow_le_pow_right (by decide) hM24)
  have hct : ct (mq R q vo came) (mqM R q came) ≤ (mqM R q came) := ct_le _ _
  have hmm : (mqM R q came) ≤ 24 := hM24
  have hfl : (fsh vo (q.2.2.2.2 (ordF R q came)) (R (q.2.2.2.1 (ordF R q came))).1) < 2 ^ 31 := Nat.lt_trans (fsh_lt htt) (by decide)
  have hhf31 : hf < 2 ^ 31 := by rw [hhf]; exact Nat.lt_of_le_of_lt (hfF_le R q _) (by omega)
  have hkk : hf ≤ came → HKn q vo := fun h => HKn.of hkw hvb (fun k hk => (ht1 k hk).2) (hf_ge (m := q.2.2.1) (by omega) (by rw [← hhf]; exact h))
  refine z_metv (by decide) rfl rfl (Nat.le_of_ble_eq_true rfl) ?_
  intro p e s m args below meth c X hr hin
  refine z_eq (ws' := [(sz, .inl (cy 0, 5, .inl sf)), (b5, .inr (5, [.ref r5, .int (nI (ct fs 512))])), (r5, .inl (cy 1, 512, .inl (zB fs))), (gv, .inl (cy 0, 6, .inl (vA vo)))]) (lv' := [(0, .ref wk), (1, .int (nI came))]) (st' := []) rfl rfl rfl ?_
  have L : ∀ (d : Nat) (lo k : Nat) (vx : Nat → Option Nat) (sx : Nat → Int32), k + d = ct (mq R q vo came) (mqM R q came) → ct (kp (mq R q vo came) lo) (mqM R q came) = d → lo ≤ (mqM R q came) → sam (fsh vo (q.2.2.2.2 (ordF R q came)) (R (q.2.2.2.1 (ordF R q came))).1) vo vx → Zz D (va_A [(sz, .inl (cy 0, 5, .inl sf)), (b5, .inr (5, [.ref r5, .int (nI (ct fs 512))])), (r5, .inl (cy 1, 512, .inl (zB fs))), (gv, .inl (cy 0, 6, .inl (vA vo)))] s.heap.size) 7 p l e ({ frames := 2 * (n + 1) + 6, cells := 0, slots := 0, locals := 40 * (n + 1) + 120 }) s m args below meth c (MQ below (va_Qv (fun (w : va_W) => ∃ sf' : Nat → Int32, w = [(sz, .inl (cy 0, 5, .inl sf')), (b5, .inr (5, [.ref r5, .int (nI (ct (tadd fs R q (n + 1) came vo) 512))])), (r5, .inl (cy 1, 512, .inl (zB (tadd fs R q (n + 1) came vo)))), (gv, .inl (cy 0, 6, .inl (vA vo)))]) (end_ D [(sz, .inl (cy 0, 5, .inl sf)), (b5, .inr (5, [.ref r5, .int (nI (ct fs 512))])), (r5, .inl (cy 1, 512, .inl (zB fs))), (gv, .inl (cy 0, 6, .inl (vA vo)))] s.heap.size) (va_A [(sz, .inl (cy 0, 5, .inl sf)), (b5, .inr (5, [.ref r5, .int (nI (ct fs 512))])), (r5, .inl (cy 1, 512, .inl (zB fs))), (gv, .inl (cy 0, 6, .inl (vA vo)))] s.heap.size)) args s 0 0 (va_A [(sz, .inl (cy 0, 5, .inl sf)), (b5, .inr (5, [.ref r5, .int (nI (ct fs 512))])), (r5, .inl (cy 1, 512, .inl (zB fs))), (gv, .inl (cy 0, 6, .inl (vA vo)))] s.heap.size)) [(sz, .inl (cy 0, 5, .inl sx)), (b5, .inr (5, [.ref r5, .int (nI (ct (tsx fs R q n came vo lo) 512))])), (r5, .inl (cy 1, 512, .inl (zB (tsx fs R q n came vo lo)))), (gv, .inl (cy 0, 6, .inl (vA vx)))] [(6, .int (nI k)), (5, .int (nI (fsh vo (q.2.2.2.2 (ordF R q came)) (R (q.2.2.2.1 (ordF R q came))).1))), (4, .int (nI (ct (mq R q vo came) (mqM R q came)))), (3, .int (nI (ms (kp (mq R q vo came) lo) (mqM R q came)))), (2, .ref (aA1 (ordF R q came))), (0, .ref wk), (1, .int (nI came))] 0 0 102 [] := by
    intro d
    induction d with
    | zero =>
      intro lo k vx sx hL0 hL1 hL2 hL3
      refine z_iload X dX8_goOn_102 (j := 0) rfl ?_
      refine z_iload X dX8_goOn_104 (j := 2) rfl ?_
      refine z_icmp_ge X (tgt := 137) dX8_goOn_106 (by decide) (fun c_106 => ?_) (fun c9 => absurd (by rw [show k = ct (mq R q vo came) (mqM R q came) by omega]; exact nI_le (Nat.le_refl _) (by omega)) c9)
      refine z_aload_n X dX8_goOn_137 rfl (j := 5) rfl ?_
      refine z_iload X dX8_goOn_138 (j := 1) rfl ?_
      refine z_retv X (as := [.ref wk, .int (nI (fsh vo (q.2.2.2.2 (ordF R q came)) (R (q.2.2.2.1 (ordF R q came))).1))]) (wc := [(gv, .inl (cy 0, 6, .inl (vA vx)))]) (wr := [(sz, .inl (cy 0, 5, .inl sx)), (b5, .inr (5, [.ref r5, .int (nI (ct (tsx fs R q n came vo lo) 512))])), (r5, .inl (cy 1, 512, .inl (zB (tsx fs R q n came vo lo))))]) (rest := []) (fun H9 locs9 ls9 hP9 hS9 hl9 hb9 hp9 => va_runV (As := [.int (nI (fsh vo (q.2.2.2.2 (ordF R q came)) (R (q.2.2.2.1 (ordF R q came))).1))]) (rest := []) X.fix (m_forget l D cy O hW9 hfl H9.size) (cwV 1 X.hts (gV ml_X8_129 im_X8_forget se_X8_forget ni_X8 cd_X8_forget) rfl rfl rfl (by decide +kernel) ⟨by show 1 + 1 ≤ 2 * (n + 1) + 6; omega, by show 8 + (3 + 11) + 21 ≤ 40 * (n + 1) + 120; omega⟩) ⟨hb9, z_recvO X (ci := 8) (r := (RX8, TX8, 7)) hW9 rfl hS9, hp9⟩ rfl rfl hl9.1 rfl (lv_room (Nat.le_of_ble_eq_true rfl)) dX8_goOn_140 ⟨Nat.le_of_ble_eq_true rfl, Nat.le_of_ble_eq_true rfl⟩) [3] [0, 1, 2] rfl rfl rfl rfl rfl (by decide) (fun _ h => Or.inl h) (fun w2 h3 => ?_)
      rw [hL3.back htt] at h3
      subst h3
      refine z_eq (ws' := [(sz, .inl (cy 0, 5, .inl sx)), (b5, .inr (5, [.ref r5, .int (nI (ct (tsx fs R q n came vo lo) 512))])), (r5, .inl (cy 1, 512, .inl (zB (tsx fs R q n came vo lo)))), (gv, .inl (cy 0, 6, .inl (vA vo)))]) (lv' := [(6, .int (nI k)), (5, .int (nI (fsh vo (q.2.2.2.2 (ordF R q came)) (R (q.2.2.2.1 (ordF R q came))).1))), (4, .int (nI (ct (mq R q vo came) (mqM R q came)))), (3, .int (nI (ms (kp (mq R q vo came) lo) (mqM R q came)))), (2, .ref (aA1 (ordF R q came))), (0, .ref wk), (1, .int (nI came))]) (st' := []) rfl rfl rfl ?_
      refine z_widen (k' := 0) (n' := 0) (Nat.le_refl _) (Nat.le_refl _) ?_
      exact z_endv X hr [(sz, .inl (cy 0, 5, .inl sx)), (b5, .inr (5, [.ref r5, .int (nI (ct (tsx fs R q n came vo lo) 512))])), (r5, .inl (cy 1, 512, .inl (zB (tsx fs R q n came vo lo)))), (gv, .inl (cy 0, 6, .inl (vA vo)))] [0, 1, 2, 3] rfl rfl rfl ⟨sx, by rw [tsx_e hL1 hL2]⟩ dX8_goOn_143
    | succ d ih9 =>
      intro lo k vx sx hL0 hL1 hL2 hL3
      obtain ⟨i0, e1, e2, e3, e4, e5, e6, e7, e8, e9⟩ := low_step hL1
      refine z_iload X dX8_goOn_102 (j := 0) rfl ?_
      refine z_iload X dX8_goOn_104 (j := 2) rfl ?_
      refine z_icmp_ge X (tgt := 137) dX8_goOn_106 (by decide) (fun c9 => absurd c9 (nI_ge (by omega) (by omega))) (fun c_106 => ?_)
      refine z_aload_n X dX8_goOn_109 rfl (j := 5) rfl ?_
      refine z_aload_n X dX8_goOn_110 rfl (j := 4) rfl ?_
      refine z_iload_n X dX8_goOn_111 rfl (j := 3) rfl ?_
      refine z_reti X (as := [.int (nI (ms (kp (mq R q vo came) lo) (mqM R q came)))]) (wc := []) (wr := [(sz, .inl (cy 0, 5, .inl sx)), (b5, .inr (5, [.ref r5, .int (nI (ct (tsx fs R q n came vo lo) 512))])), (r5, .inl (cy 1, 512, .inl (zB (tsx fs R q n came vo lo)))), (gv, .inl (cy 0, 6, .inl (vA vx)))]) (rest := [.ref (aA1 (ordF R q came)), .ref wk]) (fun H9 locs9 ls9 hP9 hS9 hl9 hb9 hp9 => va_runS (As := [.int (nI (ms (kp (mq R q vo came) lo) (mqM R q came)))]) (rest := [.ref (aA1 (ordF R q came)), .ref wk]) X.fix (m_intz l D cy O (n9 := (ms (kp (mq R q vo came) lo) (mqM R q came))) (t9 := i0) e5 (by omega) e6 e7 H9.size) (va_cwS 1 X.hts (gS ml_X8_122 sm_J6_numberOfTrailingZeros_0f7a4 ni_J6 cd_J6_numberOfTrailingZeros_0f7a4) rfl rfl rfl (by decide +kernel) ⟨by show 0 + 1 ≤ 2 * (n + 1) + 6; omega, by show 8 + (2 + 11) + 0 ≤ 40 * (n + 1) + 120; omega⟩) ⟨hb9, hp9⟩ rfl rfl hl9.1 rfl (lv_room (Nat.le_of_ble_eq_true rfl)) dX8_goOn_112 ⟨Nat.le_of_ble_eq_true rfl, Nat.le_of_ble_eq_true rfl⟩) [] [0, 1, 2, 3] rfl rfl rfl rfl rfl (by decide) (fun _ h => Or.inl h) (fun r4 w5 h6 => ?_)
      obtain ⟨rfl, rfl⟩ := h6
      refine z_eq (ws' := [(sz, .inl (cy 0, 5, .inl sx)), (b5, .inr (5, [.ref r5, .int (nI (ct (tsx fs R q n came vo lo) 512))])), (r5, .inl (cy 1, 512, .inl (zB (tsx fs R q n came vo lo)))), (gv, .inl (cy 0, 6, .inl (vA vx)))]) (lv' := [(6, .int (nI k)), (5, .int (nI (fsh vo (q.2.2.2.2 (ordF R q came)) (R (q.2.2.2.1 (ordF R q came))).1))), (4, .int (nI (ct (mq R q vo came) (mqM R q came)))), (3, .int (nI (ms (kp (mq R q vo came) lo) (mqM R q came)))), (2, .ref (aA1 (ordF R q came))), (0, .ref wk), (1, .int (nI came))]) (st' := [.int (nI i0), .ref (aA1 (ordF R q came)), .ref wk]) rfl rfl rfl ?_
      refine z_widen (k' := 0) (n' := 0) (Nat.le_refl _) (Nat.le_refl _) ?_
      refine z_retv X (as := [.ref wk, .ref (aA1 (ordF R q came)), .int (nI i0)]) (wc := [(gv, .inl (cy 0, 6, .inl (vA vx)))]) (wr := [(sz, .inl (cy 0, 5, .inl sx)), (b5, .inr (5, [.ref r5, .int (nI (ct (tsx fs R q n came vo lo) 512))])), (r5, .inl (cy 1, 512, .inl (zB (tsx fs R q n came vo lo))))]) (rest := []) (fun H9 locs9 ls9 hP9 hS9 hl9 hb9 hp9 => va_runV (As := [.ref (aA1 (ordF R q came)), .int (nI i0)]) (rest := []) X.fix (m_learn l D cy O hW9 hc3 hc5 hP3 hc7 hc1 hQ3 hR3 hP1 (i9 := i0) (by omega) (f := nA (R (q.2.2.2.1 (ordF R q came))).2.2) (c9 := (R (q.2.2.2.1 (ordF R q came))).2.2 i0) rfl (Nat.lt_trans (hx5 i0 (by omega)) (by decide)) H9.size) (cwV 2 X.hts (gV ml_X8_125 im_X8_learn se_X8_learn ni_X8 cd_X8_learn) rfl rfl rfl (by decide +kernel) ⟨by show 1 + 1 ≤ 2 * (n + 1) + 6; omega, by show 8 + (5 + 11) + 22 ≤ 40 * (n + 1) + 120; omega⟩) ⟨hb9, z_recvO X (ci := 8) (r := (RX8, TX8, 7)) hW9 rfl hS9, hp9⟩ rfl rfl hl9.1 rfl (lv_room (Nat.le_of_ble_eq_true rfl)) dX8_goOn_115 ⟨Nat.le_of_ble_eq_true rfl, Nat.le_of_ble_eq_true rfl⟩) [3] [0, 1, 2] rfl rfl rfl rfl rfl (by decide) (fun _ h => Or.inl h) (fun w8 h9 => ?_)
      rw [hL3.lrn_is htt] at h9
      subst h9
      refine z_eq (ws' := [(sz, .inl (cy 0, 5, .inl sx)), (b5, .inr (5, [.ref r5, .int (nI (ct (tsx fs R q n came vo lo) 512))])), (r5, .inl (cy 1, 512, .inl (zB (tsx fs R q n came vo lo)))), (gv, .inl (cy 0, 6, .inl (vA (lrnA R q vo came i0))))]) (lv' := [(6, .int (nI k)), (5, .int (nI (fsh vo (q.2.2.2.2 (ordF R q came)) (R (q.2.2.2.1 (ordF R q came))).1))), (4, .int (nI (ct (mq R q vo came) (mqM R q came)))), (3, .int (nI (ms (kp (mq R q vo came) lo) (mqM R q came)))), (2, .ref (aA1 (ordF R q came))), (0, .ref wk), (1, .int (nI came))]) (st' := []) rfl rfl rfl ?_
      refine z_widen (k' := 0) (n' := 0) (Nat.le_refl _) (Nat.le_refl _) ?_
      refine z_iload_n X dX8_goOn_118 rfl (j := 3) rfl ?_
      refine z_iload_n X dX8_goOn_119 rfl (j := 3) rfl ?_
      refine z_iconst X (v := 1) dX8_goOn_120 (by decide) ?_
      refine z_isub X (v := (nI ((ms (kp (mq R q vo came) lo) (mqM R q came)) - 1))) dX8_goOn_121 (sub_1 e5) ?_
      refine z_iand X (v := (nI (ms (kp (mq R q vo came) (i0 + 1)) (mqM R q came)))) dX8_goOn_122 (by rw [nI_and, e8]) ?_
      refine z_istore_n X (lv' := [(3, .int (nI (ms (kp (mq R q vo came) (i0 + 1)) (mqM R q came)))), (6, .int (nI k)), (5, .int (nI (fsh vo (q.2.2.2.2 (ordF R q came)) (R (q.2.2.2.1 (ordF R q came))).1))), (4, .int (nI (ct (mq R q vo came) (mqM R q came)))), (2, .ref (aA1 (ordF R q came))), (0, .ref wk), (1, .int (nI came))]) dX8_goOn_123 rfl (by decide) rfl ?_
      refine z_aload_n X dX8_goOn_124 rfl (j := 5) rfl ?_
      refine z_iload_n X dX8_goOn_125 rfl (j := 6) rfl ?_
      refine z_iconst X (v := 1) dX8_goOn_126 (by decide) ?_
      refine z_iadd X (v := (nI (came + 1))) dX8_goOn_127 (nI_1 came) ?_
      refine z_retv X (as := [.ref wk, .int (nI (came + 1))]) (wc := [(sz, .inl (cy 0, 5, .inl sx)), (b5, .inr (5, [.ref r5, .int (nI (ct (tsx fs R q n came vo lo) 512))])), (r5, .inl (cy 1, 512, .inl (zB (tsx fs R q n came vo lo)))), (gv, .inl (cy 0, 6, .inl (vA (lrnA R q vo came i0))))]) (wr := []) (rest := []) (fun H9 locs9 ls9 hP9 hS9 hl9 hb9 hp9 => va_runV (As := [.int (nI (came + 1))]) (rest := []) X.fix (ih (lrnA R q vo came i0) sx (tsx fs R q n came vo lo) (VB_lrn hvb _ _ _ _) hkw.next H9.size) (cwV 1 X.hts (gV ml_X8_75 im_X8_goOn se_X8_goOn ni_X8 cd_X8_goOn) rfl rfl rfl (by decide +kernel) ⟨by show (2 * n + 6) + 1 ≤ 2 * (n + 1) + 6; omega, by show 8 + (7 + 11) + (40 * n + 120) ≤ 40 * (n + 1) + 120; omega⟩) ⟨hb9, z_recvO X (ci := 8) (r := (RX8, TX8, 7)) hW9 rfl hS9, hp9⟩ rfl rfl hl9.1 rfl (lv_room (Nat.le_of_ble_eq_true rfl)) dX8_goOn_128 ⟨Nat.le_of_ble_eq_true rfl, Nat.le_of_ble_eq_true rfl⟩) [0, 1, 2, 3] [] rfl rfl rfl rfl rfl (by decide) (fun _ h => Or.inl h) (fun w11 h12 => ?_)
      obtain ⟨sy, rfl⟩ := h12
      refine z_eq (ws' := [(sz, .inl (cy 0, 5, .inl sy)), (b5, .inr (5, [.ref r5, .int (nI (ct (tadd (tsx fs R q n came vo lo) R q n (came + 1) (lrnA R q vo came i0)) 512))])), (r5, .inl (cy 1, 512, .inl (zB (tadd (tsx fs R q n came vo lo) R q n (came + 1) (lrnA R q vo came i0))))), (gv, .inl (cy 0, 6, .inl (vA (lrnA R q vo came i0))))]) (lv' := [(3, .int (nI (ms (kp (mq R q vo came) (i0 + 1)) (mqM R q came)))), (6, .int (nI k)), (5, .int (nI (fsh vo (q.2.2.2.2 (ordF R q came)) (R (q.2.2.2.1 (ordF R q came))).1))), (4, .int (nI (ct (mq R q vo came) (mqM R q came)))), (2, .ref (aA1 (ordF R q came))), (0, .ref wk), (1, .int (nI came))]) (st' := []) rfl rfl rfl ?_
      refine z_widen (k' := 0) (n' := 0) (Nat.le_refl _) (Nat.le_refl _) ?_
      refine z_iinc X (j := 1) (v := (nI (k + 1))) (lv' := [(6, .int (nI (k + 1))), (3, .int (nI (ms (kp (mq R q vo came) (i0 + 1)) (mqM R q came)))), (5, .int (nI (fsh vo (q.2.2.2.2 (ordF R q came)) (R (q.2.2.2.1 (ordF R q came))).1))), (4, .int (nI (ct (mq R q vo came) (mqM R q came)))), (2, .ref (aA1 (ordF R q came))), (0, .ref wk), (1, .int (nI came))]) dX8_goOn_131 rfl (nI_1 k) (by decide) rfl ?_
      refine z_goto X (tgt := 102) dX8_goOn_134 (by decide) ?_
      refine z_lv [0, 2, 3, 1, 4, 5, 6] (lv' := [(6, .int (nI (k + 1))), (5, .int (nI (fsh vo (q.2.2.2.2 (ordF R q came)) (R (q.2.2.2.1 (ordF R q came))).1))), (4, .int (nI (ct (mq R q vo came) (mqM R q came)))), (3, .int (nI (ms (kp (mq R q vo came) (i0 + 1)) (mqM R q came)))), (2, .ref (aA1 (ordF R q came))), (0, .ref wk), (1, .int (nI came))]) rfl ?_
      refine z_eq (ws' := [(sz, .inl (cy 0, 5, .inl sy)), (b5, .inr (5, [.ref r5, .int (nI (ct (tsx fs R q n came vo (i0 + 1)) 512))])), (r5, .inl (cy 1, 512, .inl (zB (tsx fs R q n came vo (i0 + 1))))), (gv, .inl (cy 0, 6, .inl (vA (lrnA R q vo came i0))))]) (lv' := [(6, .int (nI (k + 1))), (5, .int (nI (fsh vo (q.2.2.2.2 (ordF R q came)) (R (q.2.2.2.1 (ordF R q came))).1))), (4, .int (nI (ct (mq R q vo came) (mqM R q came)))), (3, .int (nI (ms (kp (mq R q vo came) (i0 + 1)) (mqM R q came)))), (2, .ref (aA1 (ordF R q came))), (0, .ref wk), (1, .int (nI came))]) (st' := []) (by rw [tsx_s e4 e1 e3]) rfl rfl ?_
      exact ih9 (i0 + 1) (k + 1) (lrnA R q vo came i0) sy (by omega) e9 (by omega) (sam_lrn e3)
  refine z_aload_n X dX8_goOn_0 rfl (j := 0) rfl ?_
  refine z_getO X (ci := 8) (C := RX8) (T := TX8) (N := 7) inX8 hW9 rfl 5 (by decide) fl_X8_32 (fun _ h9 => h9) rfl dX8_goOn_1 ?_
  refine z_if_eq X (tgt := 15) dX8_goOn_4 (by decide) (fun c9 => absurd c9 (by decide)) (fun c_4 => ?_)
  refine z_aload_n X dX8_goOn_7 rfl (j := 0) rfl ?_
  refine z_iload_n X dX8_goOn_8 rfl (j := 1) rfl ?_
  refine z_reti X (as := [.ref wk, .int (nI came)]) (wc := [(b5, .inr (5, [.ref r5, .int (nI (ct fs 512))])), (r5, .inl (cy 1, 512, .inl (zB fs)))]) (wr := [(sz, .inl (cy 0, 5, .inl sf)), (gv, .inl (cy 0, 6, .inl (vA vo)))]) (rest := []) (fun H9 locs9 ls9 hP9 hS9 hl9 hb9 hp9 => va_runV (As := [.int (nI came)]) (rest := []) X.fix (m_isTold_m l D cy (fun z => O z ∨ z ∈ ([(sz, .inl (cy 0, 5, .inl sf)), (gv, .inl (cy 0, 6, .inl (vA vo)))] : va_W)) (fun j hj => (hR j hj).mono fun q h => Or.inl h) (hq.mono fun q h => Or.inl h) (Or.inl hW9) hhf31 (show came < 2 ^ 31 by omega) hkk (Or.inr (List.mem_of_getElem? (i := 1) rfl)) (by omega) H9.size) (cwV 1 X.hts (gV ml_X8_105 im_X8_isTold se_X8_isTold ni_X8 cd_X8_isTold) rfl rfl rfl (by decide +kernel) ⟨by show 2 + 1 ≤ 2 * (n + 1) + 6; omega, by show 8 + (3 + 11) + 44 ≤ 40 * (n + 1) + 120; omega⟩) ⟨hb9, z_recvO X (ci := 8) (r := (RX8, TX8, 7)) hW9 rfl hS9, hp9⟩ rfl rfl hl9.1 rfl (lv_room (Nat.le_of_ble_eq_true rfl)) dX8_goOn_9 ⟨Nat.le_of_ble_eq_true rfl, Nat.le_of_ble_eq_true rfl⟩) [1, 2] [0, 3] rfl rfl rfl rfl rfl (by decide) (fun q h => h) (fun r13 w14 h15 => ?_)
  obtain ⟨rfl, rfl⟩ := h15
  refine z_eq (ws' := [(sz, .inl (cy 0, 5, .inl sf)), (gv, .inl (cy 0, 6, .inl (vA vo))), (b5, .inr (5, [.ref r5, .int (nI (ct fs 512))])), (r5, .inl (cy 1, 512, .inl (zB fs)))]) (lv' := [(0, .ref wk), (1, .int (nI came))]) (st' := [.int (bit (decide (hf ≤ came) && fs (hrw vo q.2.1 q.1)))]) rfl rfl rfl ?_
  refine z_widen (k' := 0) (n' := 0) (Nat.le_refl _) (Nat.le_refl _) ?_
  refine z_if_ne X (tgt := 26) dX8_goOn_12 (by decide) (fun c_12 => ?_) (fun c_12 => ?_)
  · skip
    have hby := bit_y c_12
    rw [Bool.and_eq_true, decide_eq_true_eq] at hby
    have heq := tadd_told (R := R) (n := n + 1) (came := came) (hkk hby.1) hby.2
    refine z_eq (ws' := [(sz, .inl (cy 0, 5, .inl sf)), (gv, .inl (cy 0, 6, .inl (vA vo))), (b5, .inr (5, [.ref r5, .int (nI (ct (tadd fs R q (n + 1) came vo) 512))])), (r5, .inl (cy 1, 512, .inl (zB (tadd fs R q (n + 1) came vo))))]) (lv' := [(0, .ref wk), (1, .int (nI came))]) (st' := []) (by rw [← heq]) rfl rfl ?_
    exact z_endv X hr [(sz, .inl (cy 0, 5, .inl sf)), (b5, .inr (5, [.ref r5, .int (nI (ct (tadd fs R q (n + 1) came vo) 512))])), (r5, .inl (cy 1, 512, .inl (zB (tadd fs R q (n + 1) came vo)))), (gv, .inl (cy 0, 6, .inl (vA vo)))] [0, 2, 3, 1] rfl rfl rfl ⟨sf, rfl⟩ dX8_goOn_26
  · skip
    refine z_iload_n X dX8_goOn_15 rfl (j := 1) rfl ?_
    refine z_aload_n X dX8_goOn_16 rfl (j := 0) rfl ?_
    refine z_getO X (ci := 8) (C := RX8) (T := TX8) (N := 7) inX8 hW9 rfl 4 (by decide) fl_X8_28 (fun _ h9 => h9) rfl dX8_goOn_17 ?_
    refine z_getO X (ci := 6) (C := RX6) (T := TX6) (N := 3) inX6 hB1 rfl 2 (by decide) fl_X8_46 (fun _ h9 => h9) rfl dX8_goOn_20 ?_
    refine z_icmp_lt X (tgt := 27) dX8_goOn_23 (by decide) (fun c_23 => ?_) (fun c9 => absurd (nI_lt (a := came) (b := q.2.2.1) (by omega) (by omega)) c9)
    refine z_aload_n X dX8_goOn_27 rfl (j := 0) rfl ?_
    refine z_getO X (ci := 8) (C := RX8) (T := TX8) (N := 7) inX8 hW9 rfl 4 (by decide) fl_X8_28 (fun _ h9 => h9) rfl dX8_goOn_28 ?_
    refine z_getO X (ci := 6) (C := RX6) (T := TX6) (N := 3) inX6 hB1 rfl 1 (by decide) fl_X8_62 (fun _ h9 => h9) rfl dX8_goOn_31 ?_
    refine z_aload_n X dX8_goOn_34 rfl (j := 0) rfl ?_
    refine z_getO X (ci := 8) (C := RX8) (T := TX8) (N := 7) inX8 hW9 rfl 0 (by decide) fl_X8_9 (fun _ h9 => h9) rfl dX8_goOn_35 ?_
    refine z_iload_n X dX8_goOn_38 rfl (j := 1) rfl ?_
    refine z_ialdO X hod (v := (nI (ordF R q came))) (vp_in_nI (by omega) (by decide)) (by rw [nI_clamp (by omega)]; exact hof came (by omega)) dX8_goOn_39 ?_
    refine z_aaldO X (t := 5) hF1 rfl (b := (aA1 (ordF R q came))) (vp_in_nI (by omega) (by decide)) (by rw [nI_clamp (by omega)]; exact hfa) dX8_goOn_40 ?_
    refine z_astore_n X (lv' := [(2, .ref (aA1 (ordF R q came))), (0, .ref wk), (1, .int (nI came))]) dX8_goOn_41 rfl (by decide) rfl ?_
    refine z_aload_n X dX8_goOn_42 rfl (j := 0) rfl ?_
    refine z_aload_n X dX8_goOn_43 rfl (j := 1) rfl ?_
    refine z_getO X (ci := 8) (C := RX8) (T := TX8) (N := 7) inX8 hW9 rfl 3 (by decide) fl_X8_25 (fun _ h9 => h9) rfl dX8_goOn_44 ?_
    refine z_reti X (as := [.ref (aA1 (ordF R q came)), .ref gv]) (wc := []) (wr := [(sz, .inl (cy 0, 5, .inl sf)), (gv, .inl (cy 0, 6, .inl (vA vo))), (b5, .inr (5, [.ref r5, .int (nI (ct fs 512))])), (r5, .inl (cy 1, 512, .inl (zB fs)))]) (rest := []) (fun H9 locs9 ls9 hP9 hS9 hl9 hb9 hp9 => va_runV (As := [.ref gv]) (rest := []) X.fix (m_matching l D cy (fun z => O z ∨ z ∈ ([(sz, .inl (cy 0, 5, .inl sf)), (gv, .inl (cy 0, 6, .inl (vA vo))), (b5, .inr (5, [.ref r5, .int (nI (ct fs 512))])), (r5, .inl (cy 1, 512, .inl (zB fs)))] : va_W)) (Or.inl hc1) (Or.inl hQ3) (Or.inl hK3) (Or.inl hc3) (Or.inl hc5) (Or.inl hH3) (Or.inr (List.mem_of_getElem? (i := 1) rfl)) (show (R (q.2.2.2.1 (ordF R q came))).2.1 ≤ 25 by omega) hP3 hc7 hv8 H9.size) (cwV 1 X.hts (gV ml_X8_108 im_X0_matching se_X0_matching ni_X0 cd_X0_matching) rfl rfl rfl (by decide +kernel) ⟨by show 1 + 1 ≤ 2 * (n + 1) + 6; omega, by show 8 + (5 + 11) + 23 ≤ 40 * (n + 1) + 120; omega⟩) ⟨hb9, z_recvO X (ci := 0) (r := (RX0, TX0, 2)) hc1 rfl hS9, hp9⟩ rfl rfl hl9.1 rfl (lv_room (Nat.le_of_ble_eq_true rfl)) dX8_goOn_47 ⟨Nat.le_of_ble_eq_true rfl, Nat.le_of_ble_eq_true rfl⟩) [] [0, 1, 2, 3] rfl rfl rfl rfl rfl (by decide) (fun q h => h) (fun r16 w17 h18 => ?_)
    obtain ⟨rfl, rfl⟩ := h18
    rw [mat_ms hHK3 _ (Nat.le_refl _) hv8]
    refine z_eq (ws' := [(sz, .inl (cy 0, 5, .inl sf)), (gv, .inl (cy 0, 6, .inl (vA vo))), (b5, .inr (5, [.ref r5, .int (nI (ct fs 512))])), (r5, .inl (cy 1, 512, .inl (zB fs)))]) (lv' := [(2, .ref (aA1 (ordF R q came))), (0, .ref wk), (1, .int (nI came))]) (st' := [.int (nI (ms (mq R q vo came) (mqM R q came)))]) rfl rfl rfl ?_
    refine z_widen (k' := 0) (n' := 0) (Nat.le_refl _) (Nat.le_refl _) ?_
    refine z_istore_n X (lv' := [(3, .int (nI (ms (mq R q vo came) (mqM R q came)))), (2, .ref (aA1 (ordF R q came))), (0, .ref wk), (1, .int (nI came))]) dX8_goOn_50 rfl (by decide) rfl ?_
    refine z_iload_n X dX8_goOn_51 rfl (j := 0) rfl ?_
    refine z_reti X (as := [.int (nI (ms (mq R q vo came) (mqM R q came)))]) (wc := []) (wr := [(sz, .inl (cy 0, 5, .inl sf)), (gv, .inl (cy 0, 6, .inl (vA vo))), (b5, .inr (5, [.ref r5, .int (nI (ct fs 512))])), (r5, .inl (cy 1, 512, .inl (zB fs)))]) (rest := []) (fun H9 locs9 ls9 hP9 hS9 hl9 hb9 hp9 => va_runS (As := [.int (nI (ms (mq R q vo came) (mqM R q came)))]) (rest := []) X.fix (m_ibits l D cy O (n9 := ms (mq R q vo came) (mqM R q came)) (Nat.lt_trans hms (by decide)) H9.size) (va_cwS 1 X.hts (gS ml_X8_112 sm_J6_bitCount_0f7a4 ni_J6 cd_J6_bitCount_0f7a4) rfl rfl rfl (by decide +kernel) ⟨by show 0 + 1 ≤ 2 * (n + 1) + 6; omega, by show 8 + (1 + 11) + 0 ≤ 40 * (n + 1) + 120; omega⟩) ⟨hb9, hp9⟩ rfl rfl hl9.1 rfl (lv_room (Nat.le_of_ble_eq_true rfl)) dX8_goOn_52 ⟨Nat.le_of_ble_eq_true rfl, Nat.le_of_ble_eq_true rfl⟩) [] [0, 1, 2, 3] rfl rfl rfl rfl rfl (by decide) (fun _ h => Or.inl h) (fun r19 w20 h21 => ?_)
    obtain ⟨rfl, rfl⟩ := h21
    rw [ct_msN (show mqM R q came ≤ 32 by omega)]
    refine z_eq (ws' := [(sz, .inl (cy 0, 5, .inl sf)), (gv, .inl (cy 0, 6, .inl (vA vo))), (b5, .inr (5, [.ref r5, .int (nI (ct fs 512))])), (r5, .inl (cy 1, 512, .inl (zB fs)))]) (lv' := [(3, .int (nI (ms (mq R q vo came) (mqM R q came)))), (2, .ref (aA1 (ordF R q came))), (0, .ref wk), (1, .int (nI came))]) (st' := [.int (nI (ct (mq R q vo came) (mqM R q came)))]) rfl rfl rfl ?_
    refine z_widen (k' := 0) (n' := 0) (Nat.le_refl _) (Nat.le_refl _) ?_
    refine z_istore X (lv' := [(4, .int (nI (ct (mq R q vo came) (mqM R q came)))), (3, .int (nI (ms (mq R q vo came) (mqM R q came)))), (2, .ref (aA1 (ordF R q came))), (0, .ref wk), (1, .int (nI came))]) dX8_goOn_55 (by decide) rfl ?_
    refine z_aload_n X dX8_goOn_57 rfl (j := 3) rfl ?_
    refine z_getO X (ci := 8) (C := RX8) (T := TX8) (N := 7) inX8 hW9 rfl 1 (by decide) fl_X8_15 (fun _ h9 => h9) rfl dX8_goOn_58 ?_
    refine z_iload_n X dX8_goOn_61 rfl (j := 4) rfl ?_
    refine z_dup2 X dX8_goOn_62 rfl rfl ?_
    refine z_ialdW X 0 rfl (v := (sf came)) (vp_in_nI (by omega) (by decide)) (by rw [nI_clamp (by omega)]) dX8_goOn_63 ?_
    refine z_iload X dX8_goOn_64 (j := 0) rfl ?_
    refine z_iadd X (v := (sf came + nI (ct (mq R q vo came) (mqM R q came)))) dX8_goOn_66 rfl ?_
    refine z_iastW X 0 rfl (vp_in_nI (by omega) (by decide)) (ws' := [(sz, .inl (cy 0, 5, .inl (upd sf came (sf came + nI (ct (mq R q vo came) (mqM R q came)))))), (gv, .inl (cy 0, 6, .inl (vA vo))), (b5, .inr (5, [.ref r5, .int (nI (ct fs 512))])), (r5, .inl (cy 1, 512, .inl (zB fs)))]) (by rw [nI_clamp (show came < 2 ^ 31 by omega)]; rfl) dX8_goOn_67 ?_
    refine z_aload_n X dX8_goOn_68 rfl (j := 3) rfl ?_
    refine z_getO X (ci := 8) (C := RX8) (T := TX8) (N := 7) inX8 hW9 rfl 5 (by decide) fl_X8_32 (fun _ h9 => h9) rfl dX8_goOn_69 ?_
    refine z_if_ne X (tgt := 89) dX8_goOn_72 (by decide) (fun c_72 => ?_) (fun c9 => absurd c9 (by decide))
    refine z_aload_n X dX8_goOn_89 rfl (j := 3) rfl ?_
    refine z_aload_n X dX8_goOn_90 rfl (j := 2) rfl ?_
    refine z_getO X (ci := 0) (C := RX0) (T := TX0) (N := 2) inX0 hc1 rfl 1 (by decide) fl_X8_66 (fun _ h9 => h9) rfl dX8_goOn_91 ?_
    refine z_reti X (as := [.ref wk, .ref (tA1 (ordF R q came))]) (wc := []) (wr := [(sz, .inl (cy 0, 5, .inl (upd sf came (sf came + nI (ct (mq R q vo came) (mqM R q came)))))), (gv, .inl (cy 0, 6, .inl (vA vo))), (b5, .inr (5, [.ref r5, .int (nI (ct fs 512))])), (r5, .inl (cy 1, 512, .inl (zB fs)))]) (rest := []) (fun H9 locs9 ls9 hP9 hS9 hl9 hb9 hp9 => va_runV (As := [.ref (tA1 (ordF R q came))]) (rest := []) X.fix (m_freshIn l D cy (fun z => O z ∨ z ∈ ([(sz, .inl (cy 0, 5, .inl (upd sf came (sf came + nI (ct (mq R q vo came) (mqM R q came)))))), (gv, .inl (cy 0, 6, .inl (vA vo))), (b5, .inr (5, [.ref r5, .int (nI (ct fs 512))])), (r5, .inl (cy 1, 512, .inl (zB fs)))] : va_W)) (Or.inl hW9) (Or.inr (List.mem_of_getElem? (i := 1) rfl)) (Or.inl hc3) (Or.inl hc5) hP3 hc7 hvb H9.size) (cwV 1 X.hts (gV ml_X8_118 im_X8_freshIn se_X8_freshIn ni_X8 cd_X8_freshIn) rfl rfl rfl (by decide +kernel) ⟨by show 1 + 1 ≤ 2 * (n + 1) + 6; omega, by show 8 + (4 + 11) + 22 ≤ 40 * (n + 1) + 120; omega⟩) ⟨hb9, z_recvO X (ci := 8) (r := (RX8, TX8, 7)) hW9 rfl hS9, hp9⟩ rfl rfl hl9.1 rfl (lv_room (Nat.le_of_ble_eq_true rfl)) dX8_goOn_94 ⟨Nat.le_of_ble_eq_true rfl, Nat.le_of_ble_eq_true rfl⟩) [] [0, 1, 2, 3] rfl rfl rfl rfl rfl (by decide) (fun q h => h) (fun r22 w23 h24 => ?_)
    obtain ⟨rfl, rfl⟩ := h24
    refine z_eq (ws' := [(sz, .inl (cy 0, 5, .inl (upd sf came (sf came + nI (ct (mq R q vo came) (mqM R q came)))))), (gv, .inl (cy 0, 6, .inl (vA vo))), (b5, .inr (5, [.ref r5, .int (nI (ct fs 512))])), (r5, .inl (cy 1, 512, .inl (zB fs)))]) (lv' := [(4, .int (nI (ct (mq R q vo came) (mqM R q came)))), (3, .int (nI (ms (mq R q vo came) (mqM R q came)))), (2, .ref (aA1 (ordF R q came))), (0, .ref wk), (1, .int (nI came))]) (st' := [.int (nI (fsh vo (q.2.2.2.2 (ordF R q came)) (R (q.2.2.2.1 (ordF R q came))).1))]) rfl rfl rfl ?_
    refine z_widen (k' := 0) (n' := 0) (Nat.le_refl _) (Nat.le_refl _) ?_
    refine z_istore X (lv' := [(5, .int (nI (fsh vo (q.2.2.2.2 (ordF R q came)) (R (q.2.2.2.1 (ordF R q came))).1))), (4, .int (nI (ct (mq R q vo came) (mqM R q came)))), (3, .int (nI (ms (mq R q vo came) (mqM R q came)))), (2, .ref (aA1 (ordF R q came))), (0, .ref wk), (1, .int (nI came))]) dX8_goOn_97 (by decide) rfl ?_
    refine z_iconst X (v := 0) dX8_goOn_99 (by decide) ?_
    refine z_istore X (lv' := [(6, .int 0), (5, .int (nI (fsh vo (q.2.2.2.2 (ordF R q came)) (R (q.2.2.2.1 (ordF R q came))).1))), (4, .int (nI (ct (mq R q vo came) (mqM R q came)))), (3, .int (nI (ms (mq R q vo came) (mqM R q came)))), (2, .ref (aA1 (ordF R q came))), (0, .ref wk), (1, .int (nI came))]) dX8_goOn_100 (by decide) rfl ?_
    refine z_ws (ws' := [(sz, .inl (cy 0, 5, .inl (upd sf came (sf came + nI (ct (mq R q vo came) (mqM R q came)))))), (b5, .inr (5, [.ref r5, .int (nI (ct fs 512))])), (r5, .inl (cy 1, 512, .inl (zB fs))), (gv, .inl (cy 0, 6, .inl (vA vo)))]) [0, 2, 3, 1] rfl rfl rfl ?_
    refine z_eq (ws' := [(sz, .inl (cy 0, 5, .inl (upd sf came (sf came + nI (ct (mq R q vo came) (mqM R q came)))))), (b5, .inr (5, [.ref r5, .int (nI (ct (tsx fs R q n came vo 0) 512))])), (r5, .inl (cy 1, 512, .inl (zB (tsx fs R q n came vo 0)))), (gv, .inl (cy 0, 6, .inl (vA vo)))]) (lv' := [(6, .int (nI 0)), (5, .int (nI (fsh vo (q.2.2.2.2 (ordF R q came)) (R (q.2.2.2.1 (ordF R q came))).1))), (4, .int (nI (ct (mq R q vo came) (mqM R q came)))), (3, .int (nI (ms (kp (mq R q vo came) 0) (mqM R q came)))), (2, .ref (aA1 (ordF R q came))), (0, .ref wk), (1, .int (nI came))]) (st' := []) (by rw [tsx_0]) (by rw [kp_0]; rfl) rfl ?_
    exact L (ct (mq R q vo came) (mqM R q came)) 0 0 vo (upd sf came (sf came + nI (ct (mq R q vo came) (mqM R q came)))) (by omega) (by rw [kp_0]) (Nat.zero_le _) (fun _ _ => rfl)
/-- goOn(came), telling -/
theorem m_goOn_t (l : Launch) (D : va_G) (cy : Nat → ClassId) (O : Nat × va_E → Prop) {wk od sz b5 r5 gv hf : Nat} {of : Nat → Int32} {bq rc : Nat} {R : Nat → RRow} {rb : Nat → Nat} {q : URow} (hR : ∀ j, j < rc → RlO O cy (rb j) (R j)) (hq : RuO O cy R rb rc bq q) (hW9 : O (wk, .inr (8, [.ref od, .ref sz, .ref b5, .ref gv, .ref bq, .int 1, .int (nI hf)]))) (hod : O (od, .inl (cy 0, 5, .inl of))) (hof : ∀ p, p < q.2.2.1 → of p = nI (ordF R q p)) (hhf : hf = hfF R q q.2.2.1) (hgr : nd (vsf q.2.1 q.1) (lk R q q.2.2.1).2 = 0) : ∀ (n came : Nat), came + n = q.2.2.1 → ∀ (vo : Nat → Option Nat) (sf : Nat → Int32) (fs : Nat → Bool), VB vo → knw R q came vo → Cv l yX8_goOn (.code yX8_goOn cX8_goOn 7 none :: WALL) ({ frames := 2 * n + 6, cells := 0, slots := 0, locals := 40 * n + 120 }) D cy O [.ref wk, .int (nI came)] [(sz, .inl (cy 0, 5, .inl sf)), (b5, .inr (5, [.ref r5, .int (nI (ct fs 512))])), (r5, .inl (cy 1, 512, .inl (zB fs))), (gv, .inl (cy 0, 6, .inl (vA vo)))] 0 0 (fun (w : va_W) => ∃ sf' : Nat → Int32, w = [(sz, .inl (cy 0, 5, .inl sf')), (b5, .inr (5, [.ref r5, .int (nI (ct (tadd fs R q n came vo) 512))])), (r5, .inl (cy 1, 512, .inl (zB (tadd fs R q n came vo)))), (gv, .inl (cy 0, 6, .inl (vA vo)))])
  | 0, came, h, vo, sf, fs, hv, hk => m_goOn_t0 l D cy O hR hq hW9 hod hof hhf hv hk hgr (by omega)
  | n + 1, came, h, vo, sf, fs, hv, hk => m_goOn_ts l D cy O hR hq hW9 hod hof hhf hv hk hgr (by omega) (fun vo sf fs hv hk => m_goOn_t l D cy O hR hq hW9 hod hof hhf hgr n (came + 1) (by omega) vo sf fs hv hk)
