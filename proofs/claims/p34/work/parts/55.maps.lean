/-! maps -/
def mt (h : Nat → Nat) (t : Nat) : Nat := if t < 6 then h t else t
def mts (S : Nat) (h : Nat → Nat) (t : Nat) : Nat := if t < 6 ∧ S.testBit t = true then h t else t
def pex (pm : PM) (h : Nat → Nat) : Prop := ∀ v t, pm v = some t → h v = t
theorem letM_s {pm pm' : PM} {v t : Nat} {h : Nat → Nat} (e : letM pm v t = some pm') (hp : pex pm' h) : pex pm h ∧ h v = t := by
  cases hx : pm v with
  | some x =>
    by_cases g : x = t
    · rw [letM_y hx g] at e
      rw [← Option.some.inj e] at hp
      exact ⟨hp, hp v t (by rw [hx, g])⟩
    · rw [letM_d hx g] at e; cases e
  | none =>
    rw [letM_n hx] at e
    rw [← Option.some.inj e] at hp
    refine ⟨fun w x hw => hp w x ?_, hp v t (up_at _ _ _)⟩
    have : w ≠ v := fun z => by rw [z, hx] at hw; cases hw
    rw [up_ne this]; exact hw
theorem letM_c {pm : PM} {v t : Nat} {h : Nat → Nat} (hp : pex pm h) (e : h v = t) : ∃ pm', letM pm v t = some pm' ∧ pex pm' h := by
  cases hx : pm v with
  | some x => exact ⟨pm, letM_y hx (by rw [← hp v x hx, e]), hp⟩
  | none =>
    refine ⟨_, letM_n hx, fun w x hw => ?_⟩
    by_cases g : w = v
    · subst g; rw [up_at] at hw; rw [e]; exact Option.some.inj hw
    · rw [up_ne g] at hw; exact hp w x hw
theorem atmM_s {t t' : Nat → Nat} {pm : PM} {h : Nat → Nat} : ∀ {n} {pm' : PM}, atmM t t' n pm = some pm' → pex pm' h → pex pm h ∧ ∀ j, j < n → mt h (t j) = t' j
  | 0, pm', e, hp => by
    rw [atmM] at e
    rw [← Option.some.inj e] at hp
    exact ⟨hp, fun j hj => absurd hj (Nat.not_lt_zero j)⟩
  | n + 1, pm', e, hp => by
    rw [atmM] at e
    cases h1 : atmM t t' n pm with
    | none => rw [h1] at e; cases e
    | some pn =>
      rw [h1] at e
      have e2 : (if t n < 6 then letM pn (t n) (t' n) else if t n = t' n then some pn else none) = some pm' := e
      by_cases g : t n < 6
      · rw [if_pos g] at e2
        obtain ⟨a, b⟩ := letM_s e2 hp
        obtain ⟨c, d⟩ := atmM_s h1 a
        refine ⟨c, fun j hj => ?_⟩
        rcases Nat.lt_or_ge j n with f | f
        · exact d j f
        · rw [show j = n by omega, mt, if_pos g]; exact b
      · rw [if_neg g] at e2
        by_cases g2 : t n = t' n
        · rw [if_pos g2] at e2
          rw [← Option.some.inj e2] at hp
          obtain ⟨c, d⟩ := atmM_s h1 hp
          refine ⟨c, fun j hj => ?_⟩
          rcases Nat.lt_or_ge j n with f | f
          · exact d j f
          · rw [show j = n by omega, mt, if_neg g]; exact g2
        · rw [if_neg g2] at e2; cases e2
theorem atmM_c {t t' : Nat → Nat} {pm : PM} {h : Nat → Nat} (hp : pex pm h) : ∀ {n}, (∀ j, j < n → mt h (t j) = t' j) → ∃ pm', atmM t t' n pm = some pm' ∧ pex pm' h
  | 0, _ => ⟨pm, rfl, hp⟩
  | n + 1, hd => by
    obtain ⟨pn, a, b⟩ := atmM_c hp (n := n) (fun j hj => hd j (by omega))
    have hn := hd n (by omega)
    rw [atmM, a]
    show ∃ pm', (if t n < 6 then letM pn (t n) (t' n) else if t n = t' n then some pn else none) = some pm' ∧ pex pm' h
    by_cases g : t n < 6
    · rw [mt, if_pos g] at hn
      rw [if_pos g]; exact letM_c b hn
    · rw [mt, if_neg g] at hn
      rw [if_neg g, if_pos hn]; exact ⟨pn, rfl, b⟩
theorem hdM_s {S : Nat} {t t' : Nat → Nat} {pm : PM} {h : Nat → Nat} : ∀ {n} {pm' : PM}, hdM S t t' n pm = some pm' → pex pm' h → pex pm h ∧ ∀ j, j < n → mts S h (t j) = t' j
  | 0, pm', e, hp => by
    rw [hdM] at e
    rw [← Option.some.inj e] at hp
    exact ⟨hp, fun j hj => absurd hj (Nat.not_lt_zero j)⟩
  | n + 1, pm', e, hp => by
    rw [hdM] at e
    cases h1 : hdM S t t' n pm with
    | none => rw [h1] at e; cases e
    | some pn =>
      rw [h1] at e
      have e2 : (if t n < 6 ∧ S.testBit (t n) = true then letM pn (t n) (t' n) else if t n = t' n then some pn else none) = some pm' := e
      by_cases g : t n < 6 ∧ S.testBit (t n) = true
      · rw [if_pos g] at e2
        obtain ⟨a, b⟩ := letM_s e2 hp
        obtain ⟨c, d⟩ := hdM_s h1 a
        refine ⟨c, fun j hj => ?_⟩
        rcases Nat.lt_or_ge j n with f | f
        · exact d j f
        · rw [show j = n by omega, mts, if_pos g]; exact b
      · rw [if_neg g] at e2
        by_cases g2 : t n = t' n
        · rw [if_pos g2] at e2
          rw [← Option.some.inj e2] at hp
          obtain ⟨c, d⟩ := hdM_s h1 hp
          refine ⟨c, fun j hj => ?_⟩
          rcases Nat.lt_or_ge j n with f | f
          · exact d j f
          · rw [show j = n by omega, mts, if_neg g]; exact g2
        · rw [if_neg g2] at e2; cases e2
theorem hdM_c {S : Nat} {t t' : Nat → Nat} {pm : PM} {h : Nat → Nat} (hp : pex pm h) : ∀ {n}, (∀ j, j < n → mts S h (t j) = t' j) → ∃ pm', hdM S t t' n pm = some pm' ∧ pex pm' h
  | 0, _ => ⟨pm, rfl, hp⟩
  | n + 1, hd => by
    obtain ⟨pn, a, b⟩ := hdM_c hp (n := n) (fun j hj => hd j (by omega))
    have hn := hd n (by omega)
    rw [hdM, a]
    show ∃ pm', (if t n < 6 ∧ S.testBit (t n) = true then letM pn (t n) (t' n) else if t n = t' n then some pn else none) = some pm' ∧ pex pm' h
    by_cases g : t n < 6 ∧ S.testBit (t n) = true
    · rw [mts, if_pos g] at hn
      rw [if_pos g]; exact letM_c b hn
    · rw [mts, if_neg g] at hn
      rw [if_neg g, if_pos hn]; exact ⟨pn, rfl, b⟩
/-- atom i of q goes to atom k of p -/
def ato (R : Nat → RRow) (q p : URow) (h : Nat → Nat) (i k : Nat) : Prop := q.2.2.2.1 i = p.2.2.2.1 k ∧ ∀ j, j < (R (q.2.2.2.1 i)).1 → mt h (q.2.2.2.2 i j) = p.2.2.2.2 k j
theorem mfr_iff {R : Nat → RRow} {q p : URow} {Aq Ap : Nat} : ∀ {n nx : Nat} {pm : PM}, mfr R q p Aq Ap n nx pm = true ↔ ∃ h, pex pm h ∧ ∀ i, nx ≤ i → i < nx + n → Aq.testBit i = true → ∃ k, k < p.2.2.1 ∧ Ap.testBit k = true ∧ ato R q p h i k
  | 0, nx, pm => by
    rw [mfr_0]
    exact ⟨fun _ => ⟨fun v => (pm v).getD 0, fun v t e => (by show (pm v).getD 0 = t; rw [e]; rfl), fun i h1 h2 => by omega⟩, fun _ => rfl⟩
  | n + 1, nx, pm => by
    cases g : Aq.testBit nx with
    | false =>
      rw [mfr_n g, mfr_iff]
      constructor
      · rintro ⟨h, a, b⟩
        refine ⟨h, a, fun i h1 h2 h3 => ?_⟩
        rcases Nat.lt_or_ge nx i with f | f
        · exact b i (by omega) (by omega) h3
        · rw [show i = nx by omega, g] at h3; cases h3
      · rintro ⟨h, a, b⟩
        exact ⟨h, a, fun i h1 h2 h3 => b i (by omega) (by omega) h3⟩
    | true =>
      rw [mfr_y g, exB_iff]
      constructor
      · rintro ⟨k, hk, e⟩
        unfold mtry at e
        rw [Bool.and_eq_true, Bool.and_eq_true, decide_eq_true_eq] at e
        obtain ⟨e1, e2, e3⟩ := e
        cases e4 : atmM (q.2.2.2.2 nx) (p.2.2.2.2 k) (R (q.2.2.2.1 nx)).1 pm with
        | none => rw [e4] at e3; cases e3
        | some pn =>
          rw [e4] at e3
          obtain ⟨h, a, b⟩ := mfr_iff.mp e3
          obtain ⟨c, d⟩ := atmM_s e4 a
          refine ⟨h, c, fun i h1 h2 h3 => ?_⟩
          rcases Nat.lt_or_ge nx i with f | f
          · exact b i (by omega) (by omega) h3
          · rw [show i = nx by omega]; exact ⟨k, hk, e1, e2, d⟩
      · rintro ⟨h, a, b⟩
        obtain ⟨k, hk, e1, e2, d⟩ := b nx (Nat.le_refl _) (by omega) g
        obtain ⟨pn, e4, hp⟩ := atmM_c a d
        refine ⟨k, hk, ?_⟩
        rw [mtry_s e1 e2 e4]
        exact mfr_iff.mpr ⟨h, hp, fun i h1 h2 h3 => b i (by omega) (by omega) h3⟩
/-- a map from the atoms Aq of q to the atoms Ap of p -/
def MapP (R : Nat → RRow) (q : URow) (Aq : Nat) (p : URow) (Ap : Nat) (h : Nat → Nat) : Prop := q.1 = p.1 ∧ (∀ k, k < q.1 → mts (uva R q Aq) h (q.2.1 k) = p.2.1 k) ∧ ∀ i, i < q.2.2.1 → Aq.testBit i = true → ∃ k, k < p.2.2.1 ∧ Ap.testBit k = true ∧ ato R q p h i k
theorem fnd_iff {R : Nat → RRow} {q p : URow} {Aq Ap : Nat} : fnd R q Aq p Ap = true ↔ ∃ h, MapP R q Aq p Ap h := by
  unfold fnd
  rw [Bool.and_eq_true, decide_eq_true_eq]
  constructor
  · rintro ⟨a, b⟩
    cases e : hdM (uva R q Aq) q.2.1 p.2.1 q.1 (fun _ => none) with
    | none => rw [e] at b; cases b
    | some pn =>
      rw [e] at b
      obtain ⟨h, c, d⟩ := mfr_iff.mp b
      obtain ⟨-, f⟩ := hdM_s e c
      exact ⟨h, a, f, fun i hi h3 => d i (Nat.zero_le i) (by omega) h3⟩
  · rintro ⟨h, a, b, c⟩
    refine ⟨a, ?_⟩
    obtain ⟨pn, e, hp⟩ := hdM_c (pm := fun _ => none) (h := h) (fun v t z => by cases z) b
    rw [e]
    exact mfr_iff.mpr ⟨h, hp, fun i h1 h2 h3 => c i (by omega) h3⟩
theorem uva_bit {R : Nat → RRow} {u : URow} {S v : Nat} : (uva R u S).testBit v = true ↔ ∃ i j, i < u.2.2.1 ∧ S.testBit i = true ∧ j < (R (u.2.2.2.1 i)).1 ∧ u.2.2.2.2 i j < 6 ∧ u.2.2.2.2 i j = v := by
  unfold uva
  rw [vin_bit]
  constructor
  · rintro ⟨i, hi, a, b⟩
    obtain ⟨j, c, d, e⟩ := vsf_bit.mp b
    exact ⟨i, j, hi, a, c, d, e⟩
  · rintro ⟨i, j, hi, a, c, d, e⟩
    exact ⟨i, hi, a, vsf_bit.mpr ⟨j, c, d, e⟩⟩
theorem all_bit {m i : Nat} (h : i < m) : (2 ^ m - 1).testBit i = true := by rw [Nat.testBit_two_pow_sub_one]; exact decide_eq_true h
/-- a rule is within itself -/
theorem map_id (R : Nat → RRow) (u : URow) (S : Nat) : MapP R u S u S (fun v => v) := ⟨rfl, fun k _ => by unfold mts; split <;> rfl, fun i hi hb => ⟨i, hi, hb, rfl, fun j _ => by unfold mt; split <;> rfl⟩⟩
theorem fnd_id (R : Nat → RRow) (u : URow) (S : Nat) : fnd R u S u S = true := fnd_iff.mpr ⟨_, map_id R u S⟩
/-- map behind map, of one rule with itself -/
theorem map_tr {R : Nat → RRow} {u : URow} {A B C : Nat} {h g : Nat → Nat} (h1 : MapP R u A u B h) (h2 : MapP R u B u C g) : MapP R u A u C (fun v => mt g (h v)) := by
  obtain ⟨-, a, b⟩ := h1
  obtain ⟨-, c, d⟩ := h2
  refine ⟨rfl, fun k hk => ?_, fun i hi hb => ?_⟩
  · have h3 := a k hk
    have h4 := c k hk
    unfold mts at h3 h4 ⊢
    by_cases f : u.2.1 k < 6 ∧ (uva R u A).testBit (u.2.1 k) = true
    · rw [if_pos f] at h3 ⊢
      show mt g (h (u.2.1 k)) = _
      rw [h3, mt, if_pos f.1]
      obtain ⟨i, j, e1, e2, e3, e4, e5⟩ := uva_bit.mp f.2
      obtain ⟨k2, f1, f2, f3, f4⟩ := b i e1 e2
      have h5 := f4 j e3
      rw [mt, if_pos e4, e5, h3] at h5
      rw [if_pos ⟨f.1, uva_bit.mpr ⟨k2, j, f1, f2, by rw [← f3]; exact e3, by rw [← h5]; exact f.1, h5.symm⟩⟩] at h4
      exact h4
    · rw [if_neg f]
  · obtain ⟨k, e1, e2, e3, e4⟩ := b i hi hb
    obtain ⟨k', f1, f2, f3, f4⟩ := d k e1 e2
    refine ⟨k', f1, f2, e3.trans f3, fun j hj => ?_⟩
    have h3 := e4 j hj
    have h4 := f4 j (by rw [← e3]; exact hj)
    rw [← h4, ← h3]
    unfold mt
    by_cases f : u.2.2.2.2 i j < 6
    · rw [if_pos f, if_pos f]
    · rw [if_neg f, if_neg f, if_neg f]
theorem map_mono {R : Nat → RRow} {q p : URow} {A B C : Nat} {h : Nat → Nat} (hb : ∀ k, B.testBit k = true → C.testBit k = true) (h1 : MapP R q A p B h) : MapP R q A p C h := by
  obtain ⟨a, b, c⟩ := h1
  refine ⟨a, b, fun i hi hb2 => ?_⟩
  obtain ⟨k, e1, e2, e3⟩ := c i hi hb2
  exact ⟨k, e1, hb k e2, e3⟩
/-- what a rule within another one tells, the other tells -/
theorem tll_sub {R : Nat → RRow} {q p : URow} {h : Nat → Nat} (hq : URt R q) (hp : URt R p) (gq : grd R q) (gp : grd R p) (hm : MapP R q (2 ^ q.2.2.1 - 1) p (2 ^ p.2.2.1 - 1) h) {r : Nat} (hr : tll R p r = true) : tll R q r = true := by
  obtain ⟨val, h8, hok, he⟩ := (tll_iff hp gp).mp hr
  obtain ⟨a, b, c⟩ := hm
  have t8 : ∀ t, isT t → tv val t < 8 := fun t ht => by
    unfold tv
    rcases ht with f | f
    · rw [if_pos (by omega)]; exact h8 t
    · rw [if_neg (by omega)]; omega
  let V : Nat → Nat := fun v => if (uva R q (2 ^ q.2.2.1 - 1)).testBit v = true then tv val (h v) else 0
  have hV : ∀ v, (uva R q (2 ^ q.2.2.1 - 1)).testBit v = true → V v = tv val (h v) := fun v hb => if_pos hb
  have tvt : ∀ t, isT t → ¬ t < 6 → tv V t = tv val t := fun t ht f => by
    unfold tv
    rcases ht with g | g
    · exact absurd g f
    · rw [if_neg (by omega), if_neg (by omega)]
  refine (tll_iff hq gq).mpr ⟨V, fun v => ?_, fun i hi => ?_, ?_⟩
  · by_cases f : (uva R q (2 ^ q.2.2.1 - 1)).testBit v = true
    · rw [hV v f]
      obtain ⟨i, j, e1, e2, e3, e4, e5⟩ := uva_bit.mp f
      obtain ⟨k, f1, f2, f3, f4⟩ := c i e1 e2
      have h5 := f4 j e3
      rw [mt, if_pos e4, e5] at h5
      rw [h5]
      exact t8 _ ((hp.2.2.2 k f1).1 j (by rw [← f3]; exact e3))
    · show (if _ then _ else 0) < 8
      rw [if_neg f]; decide
  · obtain ⟨k, f1, f2, f3, f4⟩ := c i hi (all_bit hi)
    obtain ⟨w, hw, hd⟩ := hok k f1
    refine ⟨w, by rw [f3]; exact hw, fun j hj => ?_⟩
    have h6 := hd j (by rw [← f3]; exact hj)
    rw [← f3] at h6
    rw [h6, ← f4 j hj]
    unfold mt
    by_cases g : q.2.2.2.2 i j < 6
    · rw [if_pos g]
      show _ = tv V _
      conv => rhs; unfold tv
      rw [if_pos (show q.2.2.2.2 i j < 10 by omega), hV _ (uva_bit.mpr ⟨i, j, hi, all_bit hi, hj, g, rfl⟩)]
    · rw [if_neg g, tvt _ ((hq.2.2.2 i hi).1 j hj) g]
  · rw [he]
    have key : ∀ n, n ≤ q.1 → hrv val p.2.1 n = hrv V q.2.1 n := by
      intro n
      induction n with
      | zero => intro _; rfl
      | succ n ih =>
        intro hn
        rw [hrv, hrv, ih (by omega)]
        congr 1
        have h7 := b n (by omega)
        rw [← h7]
        unfold mts
        by_cases g : q.2.1 n < 6
        · have hb : (uva R q (2 ^ q.2.2.1 - 1)).testBit (q.2.1 n) = true := nd_0 gq (vsf_bit.mpr ⟨n, by omega, g, rfl⟩)
          rw [if_pos ⟨g, hb⟩]
          conv => rhs; unfold tv
          rw [if_pos (show q.2.1 n < 10 by omega), hV _ hb]
        · rw [if_neg (fun z => g z.1), tvt _ (hq.1 n (by omega)) g]
    rw [← a]; exact key _ (Nat.le_refl _)
theorem within_le {R : Nat → RRow} {q p : URow} (hq : URt R q) (hp : URt R p) (gq : grd R q) (gp : grd R p) (hm : fnd R q (2 ^ q.2.2.1 - 1) p (2 ^ p.2.2.1 - 1) = true) {N : Nat} : ct (tll R p) N ≤ ct (tll R q) N := by
  obtain ⟨h, hh⟩ := fnd_iff.mp hm
  exact ct_mono fun r _ hr => tll_sub hq hp gq gp hh hr
/-! what is left when a rule is shortened -/
theorem shrt_s (R : Nat → RRow) (u : URow) (k : Nat) : (fnd R u (shrt R u k) u (nd (shrt R u k) (2 ^ k)) = true ∧ shrt R u (k + 1) = nd (shrt R u k) (2 ^ k)) ∨ (fnd R u (shrt R u k) u (nd (shrt R u k) (2 ^ k)) = false ∧ shrt R u (k + 1) = shrt R u k) := by
  cases h : fnd R u (shrt R u k) u (nd (shrt R u k) (2 ^ k))
  · right; exact ⟨rfl, by rw [shrt, h]; rfl⟩
  · left; exact ⟨rfl, by rw [shrt, h]; rfl⟩
theorem shrt_sub {R : Nat → RRow} {u : URow} {k i : Nat} (h : (shrt R u (k + 1)).testBit i = true) : (shrt R u k).testBit i = true := by
  rcases shrt_s R u k with ⟨-, e⟩ | ⟨-, e⟩
  · rw [e, nd_bit, Bool.and_eq_true] at h; exact h.1
  · rw [← e]; exact h
theorem shrt_subs {R : Nat → RRow} {u : URow} {k i : Nat} : ∀ d, (shrt R u (k + d)).testBit i = true → (shrt R u k).testBit i = true
  | 0, h => h
  | d + 1, h => shrt_subs d (shrt_sub h)
theorem shrt_map (R : Nat → RRow) (u : URow) (k : Nat) : ∀ d, ∃ h, MapP R u (shrt R u k) u (shrt R u (k + d)) h
  | 0 => ⟨_, map_id R u _⟩
  | d + 1 => by
    obtain ⟨h, hh⟩ := shrt_map R u k d
    rcases shrt_s R u (k + d) with ⟨f, e⟩ | ⟨f, e⟩
    · obtain ⟨g, hg⟩ := fnd_iff.mp f
      rw [← Nat.add_assoc, e]; exact ⟨_, map_tr hh hg⟩
    · rw [← Nat.add_assoc, e]; exact ⟨h, hh⟩
theorem shrt_min {R : Nat → RRow} {u : URow} {k : Nat} (hk : k < u.2.2.1) (hb : (shrt R u u.2.2.1).testBit k = true) : fnd R u (shrt R u u.2.2.1) u (nd (shrt R u u.2.2.1) (2 ^ k)) = false := by
  cases f : fnd R u (shrt R u u.2.2.1) u (nd (shrt R u u.2.2.1) (2 ^ k))
  · rfl
  · exfalso
    obtain ⟨g, hg⟩ := fnd_iff.mp f
    have e9 : k + (u.2.2.1 - k) = u.2.2.1 := by omega
    have e8 : k + 1 + (u.2.2.1 - (k + 1)) = u.2.2.1 := by omega
    rcases shrt_s R u k with ⟨-, e⟩ | ⟨e7, e⟩
    · have := shrt_subs (R := R) (u := u) (k := k + 1) (i := k) (u.2.2.1 - (k + 1)) (by rw [e8]; exact hb)
      rw [e, nd_bit, Nat.testBit_two_pow_self] at this
      simp at this
    · obtain ⟨h, hh⟩ := shrt_map R u k (u.2.2.1 - k)
      rw [e9] at hh
      have h2 := map_mono (C := nd (shrt R u k) (2 ^ k)) (fun i hi => by
        rw [nd_bit, Bool.and_eq_true] at hi ⊢
        exact ⟨shrt_subs (u.2.2.1 - k) (by rw [e9]; exact hi.1), hi.2⟩) (map_tr hh hg)
      rw [fnd_iff.mpr ⟨_, h2⟩] at e7; cases e7
/-- the shortened rule -/
def cut (u : URow) (S : Nat) : URow := (u.1, u.2.1, ct S.testBit u.2.2.1, fun j => u.2.2.2.1 (kix S j), fun j => u.2.2.2.2 (kix S j))
theorem URt.cut {R : Nat → RRow} {u : URow} (h : URt R u) (S : Nat) : URt R (cut u S) := by
  obtain ⟨a, b, c, d⟩ := h
  refine ⟨a, b, Nat.le_trans (ct_le _ _) c, fun j hj => ?_⟩
  have := kix_lt c hj
  exact d (kix S j) this.1
theorem cut_at {u : URow} {S j : Nat} (h5 : u.2.2.1 ≤ 5) (hj : j < (cut u S).2.2.1) : kix S j < u.2.2.1 ∧ S.testBit (kix S j) = true ∧ ct S.testBit (kix S j) = j := kix_lt h5 hj
theorem cut_in {u : URow} {S k : Nat} (h5 : u.2.2.1 ≤ 5) (hk : k < u.2.2.1) (hb : S.testBit k = true) : ct S.testBit k < (cut u S).2.2.1 ∧ kix S (ct S.testBit k) = k := by
  refine ⟨?_, kix_is (by omega) hb⟩
  have := ct_le_of (q := S.testBit) (show k + 1 ≤ u.2.2.1 by omega)
  rw [ct_s_t hb] at this
  exact this
theorem uva_cut {R : Nat → RRow} {u : URow} {S v : Nat} (h5 : u.2.2.1 ≤ 5) : (uva R (cut u S) (2 ^ (cut u S).2.2.1 - 1)).testBit v = true ↔ (uva R u S).testBit v = true := by
  rw [uva_bit, uva_bit]
  constructor
  · rintro ⟨i, j, a, b, c, d, e⟩
    have h := cut_at h5 a
    exact ⟨kix S i, j, h.1, h.2.1, c, d, e⟩
  · rintro ⟨i, j, a, b, c, d, e⟩
    have h := cut_in h5 a b
    refine ⟨ct S.testBit i, j, h.1, all_bit h.1, ?_, ?_, ?_⟩
    · show j < (R (u.2.2.2.1 (kix S (ct S.testBit i)))).1; rw [h.2]; exact c
    · show u.2.2.2.2 (kix S (ct S.testBit i)) j < 6; rw [h.2]; exact d
    · show u.2.2.2.2 (kix S (ct S.testBit i)) j = v; rw [h.2]; exact e
theorem map_cut {R : Nat → RRow} {u : URow} {A S : Nat} {h : Nat → Nat} (h5 : u.2.2.1 ≤ 5) (hm : MapP R u A u S h) : MapP R u A (cut u S) (2 ^ (cut u S).2.2.1 - 1) h := by
  obtain ⟨-, a, b⟩ := hm
  refine ⟨rfl, a, fun i hi hb => ?_⟩
  obtain ⟨k, e1, e2, e3, e4⟩ := b i hi hb
  have g := cut_in h5 e1 e2
  refine ⟨ct S.testBit k, g.1, all_bit g.1, ?_, fun j hj => ?_⟩
  · show _ = u.2.2.2.1 (kix S (ct S.testBit k)); rw [g.2]; exact e3
  · show _ = u.2.2.2.2 (kix S (ct S.testBit k)) j; rw [g.2]; exact e4 j hj
theorem cut_map {R : Nat → RRow} {u : URow} {S : Nat} (h5 : u.2.2.1 ≤ 5) : MapP R (cut u S) (2 ^ (cut u S).2.2.1 - 1) u (2 ^ u.2.2.1 - 1) (fun v => v) :=
  ⟨rfl, fun k _ => by unfold mts; split <;> rfl, fun i hi _ => ⟨kix S i, (cut_at h5 hi).1, all_bit (cut_at h5 hi).1, rfl, fun j _ => by unfold mt; split <;> rfl⟩⟩
theorem hd_in {R : Nat → RRow} {u : URow} {A S v : Nat} {h : Nat → Nat} (hm : MapP R u A u S h) (hv : (uva R u A).testBit v = true) (hh : (vsf u.2.1 u.1).testBit v = true) : (uva R u S).testBit v = true := by
  obtain ⟨-, a, b⟩ := hm
  obtain ⟨k, c1, c2, c3⟩ := vsf_bit.mp hh
  have h3 := a k c1
  unfold mts at h3
  rw [if_pos ⟨c2, by rw [c3]; exact hv⟩, c3] at h3
  obtain ⟨i, j, e1, e2, e3, e4, e5⟩ := uva_bit.mp hv
  obtain ⟨k2, f1, f2, f3, f4⟩ := b i e1 e2
  have h5 := f4 j e3
  rw [mt, if_pos e4, e5, h3] at h5
  exact uva_bit.mpr ⟨k2, j, f1, f2, by rw [← f3]; exact e3, by rw [← h5, ← c3]; exact c2, h5.symm⟩
theorem shrt_full (R : Nat → RRow) (u : URow) : ∃ h, MapP R u (2 ^ u.2.2.1 - 1) u (shrt R u u.2.2.1) h := by
  have := shrt_map R u 0 u.2.2.1
  rw [Nat.zero_add] at this
  exact this
theorem grd_cut {R : Nat → RRow} {u : URow} (h5 : u.2.2.1 ≤ 5) (hg : grd R u) : grd R (cut u (shrt R u u.2.2.1)) := by
  obtain ⟨h, hm⟩ := shrt_full R u
  refine Nat.eq_of_testBit_eq fun v => ?_
  rw [nd_bit, Nat.zero_testBit]
  cases e : (vsf (cut u (shrt R u u.2.2.1)).2.1 (cut u (shrt R u u.2.2.1)).1).testBit v
  · rfl
  · rw [(uva_cut h5).mpr (hd_in hm (nd_0 hg e) e)]; rfl
theorem tll_cut {R : Nat → RRow} {u : URow} (hu : URt R u) (hg : grd R u) : tll R (cut u (shrt R u u.2.2.1)) = tll R u := by
  have h5 := hu.2.2.1
  obtain ⟨h, hm⟩ := shrt_full R u
  have gc := grd_cut h5 hg
  funext r
  cases e : tll R u r
  · cases e2 : tll R (cut u (shrt R u u.2.2.1)) r
    · rfl
    · rw [tll_sub hu (hu.cut _) hg gc (map_cut h5 hm) e2] at e; exact e
  · exact tll_sub (hu.cut _) hu gc hg (cut_map h5) e
/-- what is left stays -/
theorem shrt_cut {R : Nat → RRow} {u : URow} (h5 : u.2.2.1 ≤ 5) : ∀ k, k ≤ (cut u (shrt R u u.2.2.1)).2.2.1 → shrt R (cut u (shrt R u u.2.2.1)) k = 2 ^ (cut u (shrt R u u.2.2.1)).2.2.1 - 1
  | 0, _ => rfl
  | k + 1, hk => by
    have ih := shrt_cut (R := R) h5 k (by omega)
    rcases shrt_s R (cut u (shrt R u u.2.2.1)) k with ⟨e, -⟩ | ⟨-, e⟩
    · exfalso
      rw [ih] at e
      obtain ⟨h, -, a, b⟩ := fnd_iff.mp e
      obtain ⟨g1, g2, g3⟩ := cut_at (S := shrt R u u.2.2.1) h5 (show k < _ by omega)
      have := shrt_min g1 g2
      rw [fnd_iff.mpr ⟨h, rfl, fun x hx => ?_, fun i hi hb => ?_⟩] at this
      · cases this
      · have h3 := a x hx
        unfold mts at h3 ⊢
        by_cases f : u.2.1 x < 6 ∧ (uva R u (shrt R u u.2.2.1)).testBit (u.2.1 x) = true
        · rw [if_pos f]
          rw [if_pos (show (cut u (shrt R u u.2.2.1)).2.1 x < 6 ∧ (uva R (cut u (shrt R u u.2.2.1)) (2 ^ (cut u (shrt R u u.2.2.1)).2.2.1 - 1)).testBit ((cut u (shrt R u u.2.2.1)).2.1 x) = true from ⟨f.1, (uva_cut h5).mpr f.2⟩)] at h3
          exact h3
        · rw [if_neg f]
      · obtain ⟨c1, c2⟩ := cut_in h5 hi hb
        obtain ⟨k2, d1, d2, d3, d4⟩ := b (ct (shrt R u u.2.2.1).testBit i) c1 (all_bit c1)
        obtain ⟨p1, p2, p3⟩ := cut_at (S := shrt R u u.2.2.1) h5 d1
        rw [nd_bit, Bool.and_eq_true, Nat.testBit_two_pow] at d2
        refine ⟨kix (shrt R u u.2.2.1) k2, p1, ?_, ?_⟩
        · rw [nd_bit, p2, Nat.testBit_two_pow]
          have : ¬ kix (shrt R u u.2.2.1) k = kix (shrt R u u.2.2.1) k2 := fun z => by
            have h9 : k = k2 := by rw [← g3, ← p3, z]
            rw [decide_eq_true h9] at d2
            exact absurd d2.2 (by decide)
          rw [decide_eq_false this]; rfl
        · have d3' : u.2.2.2.1 (kix (shrt R u u.2.2.1) (ct (shrt R u u.2.2.1).testBit i)) = u.2.2.2.1 (kix (shrt R u u.2.2.1) k2) := d3
          have d4' : ∀ j, j < (R (u.2.2.2.1 (kix (shrt R u u.2.2.1) (ct (shrt R u u.2.2.1).testBit i)))).1 → mt h (u.2.2.2.2 (kix (shrt R u u.2.2.1) (ct (shrt R u u.2.2.1).testBit i)) j) = u.2.2.2.2 (kix (shrt R u u.2.2.1) k2) j := d4
          rw [c2] at d3' d4'
          exact ⟨d3', d4'⟩
    · rw [e]; exact ih
/-- what is left is at least one, at most all -/
theorem shrt_1 {R : Nat → RRow} {u : URow} (h0 : 0 < u.2.2.1) : 1 ≤ ct (shrt R u u.2.2.1).testBit u.2.2.1 := by
  obtain ⟨h, -, -, b⟩ := shrt_full R u
  obtain ⟨k, e1, e2, -⟩ := b 0 h0 (all_bit h0)
  have := ct_le_of (q := (shrt R u u.2.2.1).testBit) (show k + 1 ≤ u.2.2.1 by omega)
  rw [ct_s_t e2] at this
  omega
theorem shrt_5 {R : Nat → RRow} {u : URow} (h5 : u.2.2.1 ≤ 5) : ct (shrt R u u.2.2.1).testBit 5 = ct (shrt R u u.2.2.1).testBit u.2.2.1 := ct_32 (shrt_lt R u _) h5
theorem ct_all (m : Nat) : ct (2 ^ m - 1).testBit m = m := by
  have : ∀ n, n ≤ m → ct (2 ^ m - 1).testBit n = n := by
    intro n
    induction n with
    | zero => intro _; rfl
    | succ n ih => intro h; rw [ct_s_t (all_bit h), ih (by omega)]
  exact this m (Nat.le_refl m)
theorem kix_all {m j : Nat} (hm : m ≤ 5) (hj : j < m) : kix (2 ^ m - 1) j = j := by
  have h := kix_is (S := 2 ^ m - 1) (show j < 5 by omega) (all_bit hj)
  have : ∀ n, n ≤ m → ct (2 ^ m - 1).testBit n = n := by
    intro n
    induction n with
    | zero => intro _; rfl
    | succ n ih => intro h; rw [ct_s_t (all_bit h), ih (by omega)]
  rw [this j (by omega)] at h; exact h
