/-! rules: what is told, in valuations; sizes; maps -/
def aok (R : Nat → RRow) (u : URow) (k : Nat) (val : Nat → Nat) : Prop := ∃ i, i < (R (u.2.2.2.1 k)).2.1 ∧ ∀ j, j < (R (u.2.2.2.1 k)).1 → dg (R (u.2.2.2.1 k)).1 ((R (u.2.2.2.1 k)).2.2 i) j = tv val (u.2.2.2.2 k j)
def hrv (val : Nat → Nat) (t : Nat → Nat) : Nat → Nat
  | 0 => 0
  | k + 1 => hrv val t k * 8 + tv val (t k)
def vex (vo : Nat → Option Nat) (val : Nat → Nat) : Prop := ∀ v x, vo v = some x → val v = x
theorem tvo_tv {vo : Nat → Option Nat} {val : Nat → Nat} {t x : Nat} (h : vex vo val) (e : tvo vo t = some x) : tv val t = x := by
  unfold tvo at e; unfold tv
  by_cases g : t < 10
  · rw [if_pos g] at e ⊢; exact h _ _ e
  · rw [if_neg g] at e ⊢; exact Option.some.inj e
theorem lrn_at {vo : Nat → Option Nat} {t : Nat → Nat} {P c n : Nat} (hm : mtc P c t vo n = true) (ht : ∀ k, k < n → isT (t k)) : ∀ m, m ≤ n → ∀ j, j < m → tvo (lrn vo t P c m) (t j) = some (dg P c j)
  | 0, _, j, hj => absurd hj (Nat.not_lt_zero j)
  | m + 1, hmn, j, hj => by
    have hi := mtc_iff.mp hm
    rcases ht m (by omega) with g | g
    · rw [lrnS, if_pos g]
      by_cases e : t j = t m
      · unfold tvo
        rw [e, if_pos (by omega), up_at]
        congr 1
        rcases Nat.lt_or_ge j m with h1 | h1
        · cases h2 : tvo vo (t m) with
          | some v => rw [(hi m (by omega)).1 v h2, (hi j (by omega)).1 v (by rw [e]; exact h2)]
          | none => exact ((hi m (by omega)).2 h2 j h1 e).symm
        · rw [show j = m by omega]
      · have h1 : j < m := by
          rcases Nat.lt_or_ge j m with h1 | h1
          · exact h1
          · exact absurd (by rw [show j = m by omega]) e
        have := lrn_at hm ht m (by omega) j h1
        unfold tvo at this ⊢
        by_cases g2 : t j < 10
        · rw [if_pos g2] at this ⊢; rw [up_ne e]; exact this
        · rw [if_neg g2] at this ⊢; exact this
    · rw [lrnS, if_neg (by omega)]
      rcases Nat.lt_or_ge j m with h1 | h1
      · exact lrn_at hm ht m (by omega) j h1
      · rw [show j = m by omega]
        have e : tvo vo (t m) = some (t m - 10) := by unfold tvo; rw [if_neg (by omega)]
        rw [(hi m (by omega)).1 _ e]
        unfold tvo; rw [if_neg (by omega)]
theorem vex_lrn {vo : Nat → Option Nat} {val : Nat → Nat} {t : Nat → Nat} {P c : Nat} (h : vex vo val) : ∀ {n}, (∀ j, j < n → dg P c j = tv val (t j)) → vex (lrn vo t P c n) val
  | 0, _ => h
  | n + 1, hd => by
    rw [lrnS]
    split
    · rename_i g
      intro v x e
      by_cases e2 : v = t n
      · subst e2
        rw [up_at] at e
        rw [← Option.some.inj e, hd n (by omega)]
        unfold tv; rw [if_pos (by omega)]
      · rw [up_ne e2] at e; exact vex_lrn h (fun j hj => hd j (by omega)) v x e
    · exact vex_lrn h (fun j hj => hd j (by omega))
theorem mtc_val {vo : Nat → Option Nat} {val : Nat → Nat} {t : Nat → Nat} {P c n : Nat} (h : vex vo val) (hd : ∀ j, j < n → dg P c j = tv val (t j)) : mtc P c t vo n = true := mtc_iff.mpr fun u hu => ⟨fun v e => by rw [hd u hu, tvo_tv h e], fun _ w hw e => by rw [hd w (by omega), hd u hu, e]⟩
theorem hrw_hrv {vo : Nat → Option Nat} {val : Nat → Nat} {t : Nat → Nat} (h : vex vo val) : ∀ {n}, (∀ k, k < n → ∃ x, tvo vo (t k) = some x) → hrw vo t n = hrv val t n
  | 0, _ => rfl
  | n + 1, hk => by
    obtain ⟨x, e⟩ := hk n (by omega)
    rw [hrw, hrv, hrw_hrv h (fun k hk2 => hk k (by omega)), e, tvo_tv h e]; rfl
/-- the terms of rule u are terms -/
def URt (R : Nat → RRow) (u : URow) : Prop := (∀ k, k < u.1 → isT (u.2.1 k)) ∧ u.1 ≤ 3 ∧ u.2.2.1 ≤ 5 ∧ ∀ k, k < u.2.2.1 → (∀ j, j < (R (u.2.2.2.1 k)).1 → isT (u.2.2.2.2 k j)) ∧ (R (u.2.2.2.1 k)).2.1 ≤ 24
theorem tls_iff {R : Nat → RRow} {u : URow} {r : Nat} (hU : URt R u) (hg : nd (vsf u.2.1 u.1) (lk R u u.2.2.1).2 = 0) : ∀ n came (vo : Nat → Option Nat), VB vo → knw R u came vo → came + n = u.2.2.1 → (tls R u n came vo r = true ↔ ∃ val : Nat → Nat, (∀ v, val v < 8) ∧ vex vo val ∧ (∀ p, came ≤ p → p < came + n → aok R u (ordF R u p) val) ∧ r = hrv val u.2.1 u.1)
  | 0, came, vo, hv, hk, hc => by
    rw [tls, decide_eq_true_eq]
    have hg' := hg
    rw [show u.2.2.1 = came by omega] at hg'
    have hkn := HKn.of hk hv hU.1 hg'
    constructor
    · intro h
      have hx : vex vo (fun v => (vo v).getD 0) := fun v x e => by show (vo v).getD 0 = x; rw [e]; rfl
      refine ⟨fun v => (vo v).getD 0, fun v => ?_, hx, fun p h1 h2 => by omega, ?_⟩
      · show (vo v).getD 0 < 8
        cases e : vo v with
        | none => decide
        | some x => exact hv v x e
      · rw [h]; exact hrw_hrv hx (fun k hk2 => ⟨_, (hkn k hk2).choose_spec.1⟩)
    · rintro ⟨val, -, hx, -, h⟩
      rw [h]; exact (hrw_hrv hx (fun k hk2 => ⟨_, (hkn k hk2).choose_spec.1⟩)).symm
  | n + 1, came, vo, hv, hk, hc => by
    have hao : ordF R u came < u.2.2.1 := nst_lt R u _ _ (by omega)
    have hT := (hU.2.2.2 _ hao).1
    rw [tls, exB_iff]
    constructor
    · rintro ⟨i, hi, h⟩
      rw [Bool.and_eq_true] at h
      obtain ⟨val, a, b, c, d⟩ := (tls_iff hU hg n (came + 1) _ (VB_lrn hv _ _ _ _) hk.next (by omega)).mp h.2
      refine ⟨val, a, fun v x e => b v x (lrn_keep h.1 e (Nat.le_refl _)), fun p h1 h2 => ?_, d⟩
      rcases Nat.lt_or_ge came p with g | g
      · exact c p (by omega) (by omega)
      · rw [show p = came by omega]
        exact ⟨i, hi, fun j hj => (tvo_tv b (lrn_at h.1 hT _ (Nat.le_refl _) j hj)).symm⟩
    · rintro ⟨val, a, b, c, d⟩
      obtain ⟨i, hi, hd⟩ := c came (Nat.le_refl _) (by omega)
      refine ⟨i, hi, ?_⟩
      rw [Bool.and_eq_true]
      exact ⟨mtc_val b hd, (tls_iff hU hg n (came + 1) _ (VB_lrn hv _ _ _ _) hk.next (by omega)).mpr ⟨val, a, vex_lrn b hd, fun p h1 h2 => c p (by omega) (by omega), d⟩⟩
/-- each atom comes -/
theorem ord_ex {R : Nat → RRow} {u : URow} {k : Nat} (hk : k < u.2.2.1) : ∀ p, (lk R u p).1.testBit k = false → ∃ p', p' < p ∧ ordF R u p' = k
  | 0, h => by rw [lk, Nat.testBit_two_pow_sub_one] at h; simp [hk] at h
  | p + 1, h => by
    cases e : (lk R u p).1.testBit k
    · obtain ⟨p', a, b⟩ := ord_ex hk p e; exact ⟨p', by omega, b⟩
    · rw [lk, nd_bit, e, Nat.testBit_two_pow] at h
      refine ⟨p, Nat.lt_succ_self p, ?_⟩
      have h2 : decide (nxt R u (lk R u p).1 (lk R u p).2 = k) = true := by simpa using h
      exact of_decide_eq_true h2
theorem tll_iff {R : Nat → RRow} {u : URow} {r : Nat} (hU : URt R u) (hg : grd R u) : tll R u r = true ↔ ∃ val : Nat → Nat, (∀ v, val v < 8) ∧ (∀ k, k < u.2.2.1 → aok R u k val) ∧ r = hrv val u.2.1 u.1 := by
  unfold tll
  rw [tls_iff hU (grd_lk hg) u.2.2.1 0 _ VB_no (knw_0 R u) (by omega)]
  constructor
  · rintro ⟨val, a, -, c, d⟩
    refine ⟨val, a, fun k hk => ?_, d⟩
    have h0 : (lk R u u.2.2.1).1.testBit k = false := ct_zero.mp (by have := lk_ct (R := R) (u := u) (Nat.le_refl _); omega) k hk
    obtain ⟨p, h1, h2⟩ := ord_ex hk _ h0
    rw [← h2]; exact c p (Nat.zero_le p) (by omega)
  · rintro ⟨val, a, c, d⟩
    exact ⟨val, a, fun v x e => (by cases e), fun p h1 h2 => c _ (nst_lt R u _ _ (by omega)), d⟩
/-! sizes -/
theorem ct_or {a b : Nat → Bool} : ∀ n, ct (fun r => a r || b r) n ≤ ct a n + ct b n
  | 0 => Nat.zero_le _
  | n + 1 => by
    have := ct_or (a := a) (b := b) n
    cases h1 : a n <;> cases h2 : b n
    · rw [ct_s_f h1, ct_s_f h2, ct_s_f (show (fun r => a r || b r) n = false by simp [h1, h2])]; exact this
    · rw [ct_s_f h1, ct_s_t h2, ct_s_t (show (fun r => a r || b r) n = true by simp [h1, h2])]; omega
    · rw [ct_s_t h1, ct_s_f h2, ct_s_t (show (fun r => a r || b r) n = true by simp [h1, h2])]; omega
    · rw [ct_s_t h1, ct_s_t h2, ct_s_t (show (fun r => a r || b r) n = true by simp [h1, h2])]; omega
theorem ct_exB {q : Nat → Bool} {f : Nat → Nat → Bool} {N : Nat} : ∀ M, ct (fun r => exB (fun i => q i && f i r) M) N ≤ sumB q (fun i => ct (f i) N) M
  | 0 => by rw [ct_zero (p := fun r => exB (fun i => q i && f i r) 0) |>.mpr (fun r _ => rfl)]; exact Nat.zero_le _
  | M + 1 => by
    have h1 := ct_exB (q := q) (f := f) (N := N) M
    have h2 := ct_or (a := fun r => exB (fun i => q i && f i r) M) (b := fun r => q M && f M r) N
    have h3 : ct (fun r => q M && f M r) N ≤ if q M then ct (f M) N else 0 := by
      cases e : q M
      · rw [ct_zero (p := fun r => false && f M r) |>.mpr (fun r _ => rfl)]; exact Nat.zero_le _
      · exact Nat.le_of_eq (ct_ext fun r _ => by simp)
    rw [sumB]
    have h4 : ct (fun r => exB (fun i => q i && f i r) (M + 1)) N = ct (fun r => exB (fun i => q i && f i r) M || (q M && f M r)) N := rfl
    omega
theorem sumB_le {q : Nat → Bool} {f g : Nat → Nat} : ∀ {M}, (∀ i, i < M → q i = true → f i ≤ g i) → sumB q f M ≤ sumB q g M
  | 0, _ => Nat.le_refl 0
  | M + 1, h => by
    have := sumB_le (M := M) (fun i hi => h i (by omega))
    rw [sumB, sumB]
    cases e : q M
    · simpa using this
    · have := h M (by omega) e; simp only [if_true]; omega
theorem sumB_1 {q : Nat → Bool} : ∀ {M}, sumB q (fun _ => 1) M = ct q M
  | 0 => rfl
  | M + 1 => by rw [sumB, sumB_1]; cases e : q M; rw [ct_s_f e]; rfl; rw [ct_s_t e]; rfl
theorem ct_one {x : Nat} : ∀ n, ct (fun r => decide (r = x)) n ≤ 1
  | 0 => Nat.zero_le 1
  | n + 1 => by
    by_cases h : n = x
    · rw [ct_s_t (show (fun r => decide (r = x)) n = true from decide_eq_true h), ct_zero.mpr (fun i hi => decide_eq_false (by omega))]; exact Nat.le_refl 1
    · rw [ct_s_f (show (fun r => decide (r = x)) n = false from decide_eq_false h)]; exact ct_one n
/-- not more rows than at the last size -/
theorem tls_ct {R : Nat → RRow} {u : URow} {N : Nat} : ∀ n came (vo : Nat → Option Nat), ct (tls R u (n + 1) came vo) N ≤ dlt R u (n + 1) came vo (came + n)
  | 0, came, vo => by
    rw [dlt_1]; show _ ≤ if came + 0 = came then _ else _
    rw [if_pos (Nat.add_zero came)]
    refine Nat.le_trans (ct_exB (q := mq R u vo came) (f := fun i => tls R u 0 (came + 1) (lrnA R u vo came i)) _) ?_
    rw [← sumB_1]
    exact sumB_le fun i _ _ => ct_one N
  | n + 1, came, vo => by
    rw [dlt, if_neg (by omega), Nat.zero_add]
    refine Nat.le_trans (ct_exB (q := mq R u vo came) (f := fun i => tls R u (n + 1) (came + 1) (lrnA R u vo came i)) _) ?_
    refine sumB_le fun i _ _ => ?_
    have := tls_ct (R := R) (u := u) (N := N) n (came + 1) (lrnA R u vo came i)
    rw [show came + 1 + n = came + (n + 1) by omega] at this
    exact this
theorem sumB_pos {q : Nat → Bool} {f : Nat → Nat} : ∀ {M}, 0 < sumB q f M → ∃ i, i < M ∧ q i = true ∧ 0 < f i
  | 0, h => by simp [sumB] at h
  | M + 1, h => by
    rw [sumB] at h
    by_cases g : 0 < sumB q f M
    · obtain ⟨i, a, b⟩ := sumB_pos g; exact ⟨i, by omega, b⟩
    · cases e : q M
      · rw [e] at h; simp at h; omega
      · rw [e] at h; simp at h; exact ⟨M, by omega, e, by omega⟩
theorem tls_pos {R : Nat → RRow} {u : URow} : ∀ n came (vo : Nat → Option Nat), 0 < dlt R u (n + 1) came vo (came + n) → ∃ r, tls R u (n + 1) came vo r = true
  | 0, came, vo, h => by
    rw [dlt_1] at h; change 0 < (if came + 0 = came then _ else _) at h
    rw [if_pos (Nat.add_zero came)] at h
    obtain ⟨i, a, b, -⟩ := ct_ex h
    exact ⟨_, by rw [tls]; exact exB_iff.mpr ⟨i, a, by rw [Bool.and_eq_true]; exact ⟨b, decide_eq_true rfl⟩⟩⟩
  | n + 1, came, vo, h => by
    rw [dlt, if_neg (by omega), Nat.zero_add] at h
    obtain ⟨i, a, b, c⟩ := sumB_pos h
    obtain ⟨r, hr⟩ := tls_pos n (came + 1) (lrnA R u vo came i) (by rw [show came + 1 + n = came + (n + 1) by omega]; exact c)
    exact ⟨r, by rw [tls]; exact exB_iff.mpr ⟨i, a, by rw [Bool.and_eq_true]; exact ⟨b, hr⟩⟩⟩
theorem dlt_low {R : Nat → RRow} {u : URow} {p : Nat} : ∀ n came (vo : Nat → Option Nat), p < came → dlt R u n came vo p = 0
  | 0, _, _, _ => rfl
  | n + 1, came, vo, h => by rw [dlt, if_neg (by omega), sumB_0 (fun i => dlt_low n (came + 1) _ (by omega))]
theorem sumB_none {q : Nat → Bool} {f : Nat → Nat} {M : Nat} (h : ∀ i, i < M → q i = true → f i = 0) : sumB q f M = 0 := Nat.le_zero.mp (Nat.le_trans (sumB_le (g := fun _ => 0) (fun i hi hq => Nat.le_of_eq (h i hi hq))) (Nat.le_of_eq (sumB_0 (fun _ => rfl) M)))
theorem sumB_each {q : Nat → Bool} {f : Nat → Nat} : ∀ {M}, sumB q f M = 0 → ∀ i, i < M → q i = true → f i = 0
  | M + 1, h, i, hi, hq => by
    rw [sumB] at h
    rcases Nat.lt_or_ge i M with g | g
    · exact sumB_each (M := M) (by omega) i g hq
    · have e : i = M := by omega
      subst e
      rw [hq] at h; simp at h; omega
/-- behind an empty size all are empty -/
theorem dlt_none {R : Nat → RRow} {u : URow} {p : Nat} : ∀ n came (vo : Nat → Option Nat), came ≤ p → dlt R u n came vo p = 0 → p < came + n → dlt R u n came vo (p + 1) = 0
  | 0, _, _, _, _, h => by omega
  | n + 1, came, vo, hc, h, hp => by
    rw [dlt] at h ⊢
    rw [if_neg (by omega), Nat.zero_add]
    rcases Nat.lt_or_ge came p with g | g
    · rw [if_neg (by omega), Nat.zero_add] at h
      exact sumB_none fun i hi hq => dlt_none n (came + 1) _ (by omega) (sumB_each h i hi hq) (by omega)
    · rw [if_pos (by omega)] at h
      have h0 : ct (mq R u vo came) (mqM R u came) = 0 := by omega
      exact sumB_none fun i hi hq => by rw [ct_zero.mp h0 i hi] at hq; cases hq
theorem sumB_mul {q : Nat → Bool} {f : Nat → Nat} {b : Nat} : ∀ {M}, (∀ i, i < M → f i ≤ b) → sumB q f M ≤ M * b
  | 0, _ => Nat.zero_le _
  | M + 1, h => by
    have h1 := sumB_mul (q := q) (M := M) (fun i hi => h i (by omega))
    have h2 := h M (by omega)
    rw [sumB, Nat.add_mul, Nat.one_mul]
    split <;> omega
theorem dlt_lt {R : Nat → RRow} {u : URow} (hM : ∀ k, k < u.2.2.1 → (R (u.2.2.2.1 k)).2.1 ≤ 24) : ∀ n came (vo : Nat → Option Nat) p, came + n = u.2.2.1 → dlt R u n came vo p ≤ 24 ^ n
  | 0, _, _, _, _ => Nat.zero_le _
  | n + 1, came, vo, p, hc => by
    have hao : ordF R u came < u.2.2.1 := nst_lt R u _ _ (by omega)
    have hm : mqM R u came ≤ 24 := hM _ hao
    rw [dlt]
    rcases Nat.lt_or_ge came p with g | g
    · rw [if_neg (by omega), Nat.zero_add]
      refine Nat.le_trans (sumB_mul fun i _ => dlt_lt hM n (came + 1) _ p (by omega)) ?_
      rw [Nat.pow_succ, Nat.mul_comm]
      exact Nat.mul_le_mul_left _ hm
    · rw [show sumB (mq R u vo came) (fun i => dlt R u n (came + 1) (lrnA R u vo came i) p) (mqM R u came) = 0 from sumB_0 (fun i => dlt_low n (came + 1) _ (by omega)) _]
      have h1 := ct_le (mq R u vo came) (mqM R u came)
      have h2 : 24 ≤ 24 ^ (n + 1) := by rw [Nat.pow_succ]; exact Nat.le_mul_of_pos_left 24 (Nat.pow_pos (by decide))
      split <;> omega
theorem szs_lt {R : Nat → RRow} {u : URow} (hU : URt R u) (p : Nat) : szs R u p < 2 ^ 31 := Nat.lt_of_le_of_lt (dlt_lt (fun k hk => (hU.2.2.2 k hk).2) u.2.2.1 0 _ p (by omega)) (Nat.lt_of_le_of_lt (Nat.pow_le_pow_right (by decide) hU.2.2.1) (by decide))
theorem tll_le {R : Nat → RRow} {u : URow} (h : 1 ≤ u.2.2.1) : ct (tll R u) 512 ≤ szs R u (u.2.2.1 - 1) := by
  have := tls_ct (R := R) (u := u) (N := 512) (u.2.2.1 - 1) 0 (fun _ => none)
  rw [show u.2.2.1 - 1 + 1 = u.2.2.1 by omega, Nat.zero_add] at this
  exact this
theorem tll_pos {R : Nat → RRow} {u : URow} (hU : URt R u) (hg : grd R u) (h : 1 ≤ u.2.2.1) (hs : 0 < szs R u (u.2.2.1 - 1)) : 0 < ct (tll R u) 512 := by
  obtain ⟨r, hr⟩ := tls_pos (R := R) (u := u) (u.2.2.1 - 1) 0 (fun _ => none) (by rw [show u.2.2.1 - 1 + 1 = u.2.2.1 by omega, Nat.zero_add]; exact hs)
  rw [show u.2.2.1 - 1 + 1 = u.2.2.1 by omega] at hr
  have hlt := tls_lt (R := R) hU.2.1 hU.1 VB_no (knw_0 R u) (by omega) (grd_lk hg) hr
  refine Nat.pos_of_ne_zero fun z => ?_
  have := ct_zero.mp z r hlt
  unfold tll at this
  rw [this] at hr; cases hr
theorem szs_none {R : Nat → RRow} {u : URow} {p : Nat} (hp : p + 1 < u.2.2.1) (h : szs R u p = 0) : szs R u (p + 1) = 0 := dlt_none _ _ _ (Nat.zero_le p) h (by omega)
