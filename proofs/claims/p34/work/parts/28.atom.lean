/-! what a relation's masks say; matching as a set of facts; bits one by one -/
def eqb (P c : Nat) (t : Nat → Nat) (u : Nat) : Nat → Bool
  | 0 => true
  | j + 1 => eqb P c t u j && (!decide (t j = t u) || decide (dg P c j = dg P c u))
def mtc (P c : Nat) (t : Nat → Nat) (vo : Nat → Option Nat) : Nat → Bool
  | 0 => true
  | u + 1 => mtc P c t vo u && (match tvo vo (t u) with
    | some v => decide (dg P c u = v)
    | none => eqb P c t u u)
def HvK (P M : Nat) (x hv kv : Nat → Nat) : Prop := (∀ u v, u < P → v < 8 → hv (u * 8 + v) = ms (fun i => decide (dg P (x i) u = v)) M) ∧ ∀ u w, u < P → w < u → kv (u + w - 1) = ms (fun i => decide (dg P (x i) w = dg P (x i) u)) M
/-- the values in the facts, as a set -/
def vls (P M : Nat) (x : Nat → Nat) : Nat := ms (fun v => exB (fun i => exB (fun u => decide (dg P (x i) u = v)) P) M) 8
theorem nI_m1 (a : Nat) : nI a &&& (-1) = nI a := by
  apply Int32.toBitVec_inj.mp
  show BitVec.ofNat 32 a &&& BitVec.allOnes 32 = _
  exact BitVec.and_allOnes
theorem alb_ms {P M : Nat} {x hv kv t : Nat → Nat} (h : HvK P M x hv kv) {p : Nat → Bool} {u : Nat} (hu : u < P) : ∀ j, j ≤ u → nI (ms p M) &&& alb t kv u j = nI (ms (fun i => p i && eqb P (x i) t u j) M)
  | 0, _ => by rw [alb, nI_m1]; exact congrArg nI (ms_ext fun i _ => by simp [eqb])
  | j + 1, hj => by
    have ih := alb_ms (t := t) h (p := p) hu j (by omega)
    rw [alb]
    by_cases e : t j = t u
    · rw [if_pos e, ← Int32.and_assoc, ih, h.2 u j hu (by omega), nI_and, ms_and]
      exact congrArg nI (ms_ext fun i _ => by simp [eqb, e, Bool.and_assoc])
    · rw [if_neg e, ih]
      exact congrArg nI (ms_ext fun i _ => by simp [eqb, e])
theorem mat_ms {P M : Nat} {x hv kv t : Nat → Nat} {vo : Nat → Option Nat} (h : HvK P M x hv kv) : ∀ n, n ≤ P → (∀ k v, k < n → tvo vo (t k) = some v → v < 8) → mat M hv kv t vo n = nI (ms (fun i => mtc P (x i) t vo n) M)
  | 0, _, _ => by rw [mat, ← ms_all]; rfl
  | u + 1, hn, hv8 => by
    have ih := mat_ms h u (by omega) (fun k v hk => hv8 k v (by omega))
    show (match tvo vo (t u) with
      | some v => mat M hv kv t vo u &&& nI (hv (u * 8 + v))
      | none => mat M hv kv t vo u &&& alb t kv u u) = _
    cases e : tvo vo (t u) with
    | some v =>
      show mat M hv kv t vo u &&& nI (hv (u * 8 + v)) = _
      rw [ih, h.1 u v (by omega) (hv8 u v (by omega) e), nI_and, ms_and]
      exact congrArg nI (ms_ext fun i _ => by simp [mtc, e])
    | none =>
      show mat M hv kv t vo u &&& alb t kv u u = _
      rw [ih, alb_ms h (by omega) u (Nat.le_refl _)]
      exact congrArg nI (ms_ext fun i _ => by simp [mtc, e])
/-! what mark() leaves -/
theorem ms_s {p : Nat → Bool} {n : Nat} : ms p (n + 1) = if p n then ms p n ||| 2 ^ n else ms p n := by
  rw [ms]
  cases h : p n
  · simp
  · simp only [if_true]
    refine Nat.eq_of_testBit_eq fun i => ?_
    rw [Nat.testBit_or, Nat.testBit_two_pow]
    have e : ms p n + 2 ^ n = ms p (n + 1) := by rw [ms, h]; simp
    rw [e, ms_bit, ms_bit]
    by_cases hi : i = n
    · subst hi; simp [h]
    · simp [show n ≠ i from fun z => hi z.symm, show (i < n + 1) ↔ i < n by omega]
theorem mkp_1 (P c i : Nat) (t : MkS) : ∀ U, (mkp P c i t U).1 = t.1 ||| ms (fun v => exB (fun u => decide (dg P c u = v)) U) 8
  | 0 => by rw [mkp, show ms (fun v => exB (fun u => decide (dg P c u = v)) 0) 8 = 0 from ms_none]; simp
  | U + 1 => by
    show (mkp P c i t U).1 ||| 2 ^ dg P c U = _
    rw [mkp_1 P c i t U, Nat.or_assoc, ms_or (dg_lt P c U)]
    congr 1
    refine ms_ext fun v _ => ?_
    rw [exB]
    congr 1
    simp only [decide_eq_decide]; exact eq_comm
theorem mkp_2 (P c i : Nat) (t : MkS) {j : Nat} : ∀ U, (mkp P c i t U).2.1 j = if j / 8 < U ∧ dg P c (j / 8) = j % 8 then t.2.1 j ||| 2 ^ i else t.2.1 j
  | 0 => by rw [mkp, if_neg (by omega)]
  | U + 1 => by
    rw [mkp, mk1]
    have hd := dg_lt P c U
    have ih := mkp_2 P c i t (j := j) U
    show up (mkp P c i t U).2.1 (U * 8 + dg P c U) ((mkp P c i t U).2.1 (U * 8 + dg P c U) ||| 2 ^ i) j = _
    unfold up
    by_cases e : j = U * 8 + dg P c U
    · rw [if_pos e, ← e, ih, if_neg (by omega), if_pos ⟨by omega, by rw [show j / 8 = U by omega]; omega⟩]
    · rw [if_neg e, ih]
      by_cases h : j / 8 < U ∧ dg P c (j / 8) = j % 8
      · rw [if_pos h, if_pos ⟨by omega, h.2⟩]
      · rw [if_neg h, if_neg]
        rintro ⟨h1, h2⟩
        rcases Nat.lt_or_ge (j / 8) U with h3 | h3
        · exact h ⟨h3, h2⟩
        · rw [show j / 8 = U by omega] at h2; omega
theorem kst_0 {P c u i : Nat} {kv : Nat → Nat} : kst P c u i kv 0 = kv := rfl
theorem kst_at {P c u i : Nat} {kv : Nat → Nat} (hu : 1 ≤ u) {j : Nat} : ∀ {J}, J ≤ u → kst P c u i kv J j = if u ≤ j + 1 ∧ j + 1 - u < J ∧ dg P c (j + 1 - u) = dg P c u then kv j ||| 2 ^ i else kv j
  | 0, _ => by rw [kst, if_neg (by omega)]
  | J + 1, hJ => by
    have ih := kst_at (P := P) (c := c) (i := i) (kv := kv) hu (j := j) (J := J) (by omega)
    rw [kst]
    by_cases e : dg P c J = dg P c u
    · rw [if_pos e, up]
      by_cases g : j = u + J - 1
      · rw [if_pos g, ← g, ih, if_neg (by omega), if_pos ⟨by omega, by omega, by rw [show j + 1 - u = J by omega]; exact e⟩]
      · rw [if_neg g, ih]
        by_cases k : u ≤ j + 1 ∧ j + 1 - u < J ∧ dg P c (j + 1 - u) = dg P c u
        · rw [if_pos k, if_pos ⟨k.1, by omega, k.2.2⟩]
        · rw [if_neg k, if_neg (fun z => k ⟨z.1, by omega, z.2.2⟩)]
    · rw [if_neg e, ih]
      by_cases k : u ≤ j + 1 ∧ j + 1 - u < J ∧ dg P c (j + 1 - u) = dg P c u
      · rw [if_pos k, if_pos ⟨k.1, by omega, k.2.2⟩]
      · rw [if_neg k, if_neg]
        rintro ⟨z1, z2, z3⟩
        by_cases g : j + 1 - u = J
        · rw [g] at z3; exact e z3
        · exact k ⟨z1, by omega, z3⟩
theorem mkp_3 {P c i : Nat} {t : MkS} (hP3 : P ≤ 3) {u w : Nat} (hu : u < P) (hw : w < u) : (mkp P c i t P).2.2 (u + w - 1) = if dg P c w = dg P c u then t.2.2 (u + w - 1) ||| 2 ^ i else t.2.2 (u + w - 1) := by
  rcases (show (P = 2 ∧ u = 1 ∧ w = 0) ∨ (P = 3 ∧ u = 1 ∧ w = 0) ∨ (P = 3 ∧ u = 2 ∧ w = 0) ∨ (P = 3 ∧ u = 2 ∧ w = 1) by omega) with ⟨rfl, rfl, rfl⟩ | ⟨rfl, rfl, rfl⟩ | ⟨rfl, rfl, rfl⟩ | ⟨rfl, rfl, rfl⟩ <;> simp [mkp, mk1, kst_at, kst_0]
theorem mkf_1 (P : Nat) (x : Nat → Nat) (h k : Nat → Nat) : ∀ M, (mkf P x (0, h, k) M).1 = vls P M x
  | 0 => by rw [mkf]; exact (ms_none (n := 8)).symm.trans (ms_ext fun v _ => by rfl)
  | M + 1 => by
    rw [mkf, mkp_1, mkf_1 P x h k M, vls, ms_orr, vls]
    exact ms_ext fun v _ => by rw [exB]
theorem mkf_HvK {P M : Nat} {x hv kv : Nat → Nat} (hP3 : P ≤ 3) : HvK P M x (mkf P x (0, zf hv 24, zf kv 3) M).2.1 (mkf P x (0, zf hv 24, zf kv 3) M).2.2 := by
  induction M with
  | zero =>
    refine ⟨fun u v hu hv9 => ?_, fun u w hu hw => ?_⟩
    · show zf hv 24 _ = 0
      rw [zf, if_pos (by omega)]
    · show zf kv 3 _ = 0
      rw [zf, if_pos (by omega)]
  | succ M ih =>
    refine ⟨fun u v hu hv9 => ?_, fun u w hu hw => ?_⟩
    · rw [mkf, mkp_2, show (u * 8 + v) / 8 = u by omega, show (u * 8 + v) % 8 = v by omega, ih.1 u v hu hv9, ms_s]
      by_cases h : dg P (x M) u = v
      · rw [if_pos ⟨hu, h⟩, if_pos (by simp [h])]
      · rw [if_neg (fun z => h z.2), if_neg (by simp [h])]
    · rw [mkf, mkp_3 hP3 hu hw, ih.2 u w hu hw, ms_s]
      by_cases h : dg P (x M) w = dg P (x M) u
      · rw [if_pos h, if_pos (by simp [h])]
      · rw [if_neg h, if_neg (by simp [h])]
theorem HvK_0 {P : Nat} {x hv kv : Nat → Nat} (h : ∀ j, j < 24 → hv j = 0) (k : ∀ j, j < 3 → kv j = 0) (hP3 : P ≤ 3) : HvK P 0 x hv kv := ⟨fun u v hu hv => h _ (by omega), fun u w hu hw => k _ (by omega)⟩
/-! bits, from the lowest on -/
theorem ct_msN {q : Nat → Bool} {M N : Nat} (h : M ≤ N) : ct (ms q M).testBit N = ct q M := by
  have h2 : ct (fun i => (ms q M).testBit (M + i)) (N - M) = 0 := ct_zero.mpr (fun i _ => by rw [ms_bit, decide_eq_false (by omega)]; rfl)
  rw [show N = M + (N - M) by omega, ct_add, h2, Nat.add_zero]
  exact ct_ext fun i hi => by rw [ms_bit]; simp [hi]
theorem kp_bit {q : Nat → Bool} {lo i : Nat} : kp q lo i = (decide (lo ≤ i) && q i) := rfl
theorem low_step {q : Nat → Bool} {M lo d : Nat} (h : ct (kp q lo) M = d + 1) : ∃ i0, lo ≤ i0 ∧ i0 < M ∧ q i0 = true ∧ (∀ i, lo ≤ i → i < i0 → q i = false) ∧ 0 < ms (kp q lo) M ∧ (∀ i, i < i0 → (ms (kp q lo) M).testBit i = false) ∧ (ms (kp q lo) M).testBit i0 = true ∧ ms (kp q lo) M &&& (ms (kp q lo) M - 1) = ms (kp q (i0 + 1)) M ∧ ct (kp q (i0 + 1)) M = d := by
  have hl : ft (kp q lo) M < M := by
    rcases Nat.lt_or_ge (ft (kp q lo) M) M with g | g
    · exact g
    · rw [ct_zero.mpr (fun i hi => ft_no (kp q lo) M i (by omega))] at h; omega
  have hy := ft_yes (kp q lo) M hl
  have hn := ft_no (kp q lo) M
  generalize ft (kp q lo) M = i0 at hl hy hn
  have hy2 := hy
  simp only [kp, Bool.and_eq_true, decide_eq_true_eq] at hy
  have hbit : (ms (kp q lo) M).testBit i0 = true := by rw [ms_bit]; simp [hl, hy2]
  have hlow : ∀ i, i < i0 → (ms (kp q lo) M).testBit i = false := fun i hi => by rw [ms_bit, hn i hi]; simp
  have hq : ∀ i, lo ≤ i → i < i0 → q i = false := fun i h1 h2 => by have h3 := hn i h2; simpa [kp, h1] using h3
  have ek : ∀ i, (kp q lo i && !decide (i = i0)) = kp q (i0 + 1) i := fun i => by
    simp only [kp]
    by_cases h1 : i = i0
    · subst h1; simp [show ¬ i + 1 ≤ i by omega]
    · by_cases h2 : i0 < i
      · simp [h1, show lo ≤ i by omega, show i0 + 1 ≤ i by omega]
      · by_cases h3 : lo ≤ i
        · rw [hq i h3 (by omega)]; simp
        · simp [h3, show ¬ i0 + 1 ≤ i by omega]
  refine ⟨i0, hy.1, hl, hy.2, hq, Nat.pos_of_ne_zero (fun z => by rw [z] at hbit; simp at hbit), hlow, hbit, ?_, ?_⟩
  · refine Nat.eq_of_testBit_eq fun i => ?_
    rw [low_and hlow hbit, ms_bit, ms_bit, ← ek, Bool.and_assoc]
  · have h9 := ct_out hy2 hl
    rw [h, ct_ext (fun i _ => ek i)] at h9; omega
theorem exB_skip {q r : Nat → Bool} {lo i0 : Nat} (h : ∀ i, lo ≤ i → i < i0 → q i = false) (hl : lo ≤ i0) : exB (fun i => q i && r i) i0 = exB (fun i => q i && r i) lo := by
  rw [Bool.eq_iff_iff, exB_iff, exB_iff]
  constructor
  · rintro ⟨i, h1, h2⟩
    rcases Nat.lt_or_ge i lo with h3 | h3
    · exact ⟨i, h3, h2⟩
    · rw [h i h3 h1] at h2; cases h2
  · rintro ⟨i, h1, h2⟩; exact ⟨i, by omega, h2⟩
theorem exB_end {q r : Nat → Bool} {lo M : Nat} (h : ct (kp q lo) M = 0) (hl : lo ≤ M) : exB (fun i => q i && r i) M = exB (fun i => q i && r i) lo :=
  exB_skip (fun i h1 h2 => by have h3 := ct_zero.mp h i h2; simpa [kp, h1] using h3) hl
/-! an atom in the lanes -/
/-- the first n values of the row c are f's -/
def rok (P c : Nat) (f : Nat → Nat) : Nat → Bool
  | 0 => true
  | u + 1 => rok P c f u && decide (dg P c u = f u)
theorem rok_iff {P c : Nat} {f : Nat → Nat} : ∀ {n}, rok P c f n = true ↔ ∀ u, u < n → dg P c u = f u
  | 0 => by simp [rok]
  | n + 1 => by
    rw [rok, Bool.and_eq_true, rok_iff, decide_eq_true_eq]
    constructor
    · rintro ⟨h1, h2⟩ u hu
      rcases Nat.lt_or_ge u n with h | h
      · exact h1 u h
      · rw [show u = n by omega]; exact h2
    · intro h; exact ⟨fun u hu => h u (by omega), h n (by omega)⟩
theorem rok_ext {P c : Nat} {f g : Nat → Nat} : ∀ {n}, (∀ u, u < n → f u = g u) → rok P c f n = rok P c g n
  | 0, _ => rfl
  | n + 1, h => by rw [rok, rok, rok_ext (fun u hu => h u (by omega)), h n (by omega)]
theorem laf_iff {t : Nat → Nat} {P c j : Nat} : ∀ {n}, laf t P c n j = true ↔ ∀ u, u < n → t u < 2 → ld (t u) j = dg P c u
  | 0 => by simp [laf]
  | n + 1 => by
    rw [laf, Bool.and_eq_true, laf_iff]
    constructor
    · rintro ⟨h1, h2⟩ u hu ht
      rcases Nat.lt_or_ge u n with h | h
      · exact h1 u h ht
      · have e : u = n := by omega
        subst e; simpa [ht] using h2
    · intro h
      refine ⟨fun u hu => h u (by omega), ?_⟩
      by_cases ht : t n < 2
      · simp [ht, h n (by omega) ht]
      · simp [ht]
theorem eqb_iff {P c : Nat} {t : Nat → Nat} {u : Nat} : ∀ {j}, eqb P c t u j = true ↔ ∀ w, w < j → t w = t u → dg P c w = dg P c u
  | 0 => by simp [eqb]
  | j + 1 => by
    rw [eqb, Bool.and_eq_true, eqb_iff]
    constructor
    · rintro ⟨h1, h2⟩ w hw ht
      rcases Nat.lt_or_ge w j with h | h
      · exact h1 w h ht
      · have e : w = j := by omega
        subst e; simpa [ht] using h2
    · intro h
      refine ⟨fun w hw => h w (by omega), ?_⟩
      by_cases ht : t j = t u
      · simp [ht, h j (by omega) ht]
      · simp [ht]
theorem mtc_iff {P c : Nat} {t : Nat → Nat} {vo : Nat → Option Nat} : ∀ {n}, mtc P c t vo n = true ↔ ∀ u, u < n → (∀ v, tvo vo (t u) = some v → dg P c u = v) ∧ (tvo vo (t u) = none → ∀ w, w < u → t w = t u → dg P c w = dg P c u)
  | 0 => by simp [mtc]
  | n + 1 => by
    rw [mtc, Bool.and_eq_true, mtc_iff]
    have hn : (match tvo vo (t n) with | some v => decide (dg P c n = v) | none => eqb P c t n n) = true ↔ ((∀ v, tvo vo (t n) = some v → dg P c n = v) ∧ (tvo vo (t n) = none → ∀ w, w < n → t w = t n → dg P c w = dg P c n)) := by
      cases e : tvo vo (t n) with
      | some v => simp
      | none => simp [eqb_iff]
    rw [hn]
    constructor
    · rintro ⟨h1, h2⟩ u hu
      rcases Nat.lt_or_ge u n with h | h
      · exact h1 u h
      · rw [show u = n by omega]; exact h2
    · intro h; exact ⟨fun u hu => h u (by omega), h n (by omega)⟩
/-- what lanes may know of the values: those of the variables 0 and 1 are told by the lanes -/
def vno (vo : Nat → Option Nat) : Prop := vo 0 = none ∧ vo 1 = none
theorem mtc_laf {P c j n : Nat} {t : Nat → Nat} {vo : Nat → Option Nat} (h0 : vno vo) (hx : ∀ u, u < n → ¬ t u < 2 → ∃ x, tvo vo (t u) = some x ∧ x < 8) : (mtc P c t vo n && laf t P c n j) = rok P c (fun u => tvl vo (t u) j) n := by
  rw [Bool.eq_iff_iff, Bool.and_eq_true, mtc_iff, laf_iff, rok_iff]
  have hn : ∀ u, t u < 2 → tvo vo (t u) = none := fun u hu => by
    rw [tvo, if_pos (by omega)]
    rcases (show t u = 0 ∨ t u = 1 by omega) with e | e <;> rw [e]
    · exact h0.1
    · exact h0.2
  constructor
  · rintro ⟨h1, h2⟩ u hu
    rw [tvl]
    by_cases ht : t u < 2
    · rw [if_pos ht, h2 u hu ht]
    · obtain ⟨x, e, _⟩ := hx u hu ht
      rw [if_neg ht, e]; exact (h1 u hu).1 x e
  · intro h
    refine ⟨fun u hu => ⟨fun v e => ?_, fun e w hw hwu => ?_⟩, fun u hu ht => ?_⟩
    · have h1 := h u hu
      rw [tvl] at h1
      by_cases ht : t u < 2
      · rw [hn u ht] at e; cases e
      · rw [if_neg ht, e] at h1; exact h1
    · have h1 := h u hu
      have h2 := h w (by omega)
      rw [hwu] at h2; rw [h1, h2]
    · have h1 := h u hu
      rw [tvl, if_pos ht] at h1; exact h1.symm
theorem vsf_bit {t : Nat → Nat} {v : Nat} : ∀ {n}, (vsf t n).testBit v = true ↔ ∃ u, u < n ∧ t u < 6 ∧ t u = v
  | 0 => by simp [vsf]
  | n + 1 => by
    rw [vsf]
    by_cases h : t n < 6
    · rw [if_pos h, Nat.testBit_or, Bool.or_eq_true, vsf_bit, Nat.testBit_two_pow, decide_eq_true_eq]
      constructor
      · rintro (⟨u, h1, h2⟩ | h1)
        · exact ⟨u, by omega, h2⟩
        · exact ⟨n, by omega, h, h1⟩
      · rintro ⟨u, h1, h2, h3⟩
        rcases Nat.lt_or_ge u n with g | g
        · exact Or.inl ⟨u, g, h2, h3⟩
        · rw [show u = n by omega] at h3; exact Or.inr h3
    · rw [if_neg h, vsf_bit]
      constructor
      · rintro ⟨u, h1, h2⟩; exact ⟨u, by omega, h2⟩
      · rintro ⟨u, h1, h2, h3⟩
        rcases Nat.lt_or_ge u n with g | g
        · exact ⟨u, g, h2, h3⟩
        · rw [show u = n by omega] at h2; exact absurd h2 h
theorem vlf_bit {t : Nat → Nat} {v : Nat} : ∀ {n}, (vlf t n).testBit v = true ↔ ∃ u, u < n ∧ ¬ t u < 6 ∧ t u - 10 = v
  | 0 => by simp [vlf]
  | n + 1 => by
    rw [vlf]
    by_cases h : t n < 6
    · rw [if_pos h, vlf_bit]
      constructor
      · rintro ⟨u, h1, h2⟩; exact ⟨u, by omega, h2⟩
      · rintro ⟨u, h1, h2, h3⟩
        rcases Nat.lt_or_ge u n with g | g
        · exact ⟨u, g, h2, h3⟩
        · rw [show u = n by omega] at h2; exact absurd h h2
    · rw [if_neg h, Nat.testBit_or, Bool.or_eq_true, vlf_bit, Nat.testBit_two_pow, decide_eq_true_eq]
      constructor
      · rintro (⟨u, h1, h2⟩ | h1)
        · exact ⟨u, by omega, h2⟩
        · exact ⟨n, by omega, h, h1⟩
      · rintro ⟨u, h1, h2, h3⟩
        rcases Nat.lt_or_ge u n with g | g
        · exact Or.inl ⟨u, g, h2, h3⟩
        · rw [show u = n by omega] at h3; exact Or.inr h3
theorem vsf_lt (t : Nat → Nat) (n : Nat) : vsf t n < 2 ^ 6 := by
  refine Nat.lt_pow_two_of_testBit _ fun i hi => ?_
  cases h : (vsf t n).testBit i
  · rfl
  · obtain ⟨u, h1, h2, h3⟩ := vsf_bit.mp h; omega
theorem lane_free {t : Nat → Nat} {n : Nat} (h : vsf t n &&& 3 = 0) : ∀ u, u < n → ¬ t u < 2 := by
  intro u hu ht
  have h1 : (vsf t n).testBit (t u) = true := vsf_bit.mpr ⟨u, hu, by omega, rfl⟩
  have h2 : (vsf t n &&& 3).testBit (t u) = true := by
    rw [Nat.testBit_and, h1]
    rcases (show t u = 0 ∨ t u = 1 by omega) with e | e <;> rw [e] <;> rfl
  rw [h, Nat.zero_testBit] at h2; cases h2
set_option maxHeartbeats 4000000 in
set_option maxRecDepth 100000 in
/-- holdingAtom(atom) -/
theorem m_holdingAtom (l : Launch) (D : va_G) (cy : Nat → ClassId) (O : Nat × va_E → Prop) {b2 gv a b tm ta ar ah ak P M : Nat} {f0 f2 w3 w5 : Value} {x hv kv t : Nat → Nat} {T : Nat → Int32} {vo : Nat → Option Nat} (hL : O (b2, .inr (2, [f0, .ref gv, f2]))) (hgv : O (gv, .inl (cy 0, 6, .inl (vA vo)))) (hA : O (a, .inr (0, [.ref b, .ref tm]))) (hQ : O (b, .inr (4, [.int (nI P), .ref ar, .int (nI M), w3, .ref ah, .ref ak]))) (hR : O (ar, .inl (cy 0, 25, .inl (nA x)))) (hH : O (ah, .inl (cy 0, 24, .inl (nA hv)))) (hK : O (ak, .inl (cy 0, 3, .inl (nA kv)))) (hTm : O (tm, .inr (7, [.int (nI P), .ref ta, .int (nI (vsf t P)), w5]))) (hTa : O (ta, .inl (cy 0, 3, .inl T))) (hP : 1 ≤ P) (hP3 : P ≤ 3) (hM : M ≤ 24) (hx9 : ∀ j, j < 25 → x j < 2 ^ 31) (hHK : HvK P M x hv kv) (ht : ∀ k, k < P → T k = nI (t k) ∧ isT (t k)) (h0 : vno vo) (hx : ∀ u, u < P → ¬ t u < 2 → ∃ x, tvo vo (t u) = some x ∧ x < 8) : Cl l yX2_holdingAtom (.code yX2_holdingAtom cX2_holdingAtom 7 (some .long) :: WALL) ({ frames := 2, cells := 0, slots := 0, locals := 47 }) D cy O [.ref b2, .ref a] [] 0 0 (fun (r : Int64) (w : va_W) => r = (lan (fun j => exB (fun i => rok P (x i) (fun u => tvl vo (t u) j) P) M)) ∧ w = []) := by
  have hv8 : ∀ k v, k < P → tvo vo (t k) = some v → v < 8 := by
    intro k v hk e
    by_cases h2 : t k < 2
    · rw [tvo, if_pos (by omega)] at e
      rcases (show t k = 0 ∨ t k = 1 by omega) with e2 | e2 <;> rw [e2] at e
      · rw [h0.1] at e; cases e
      · rw [h0.2] at e; cases e
    · obtain ⟨x9, e9, h9⟩ := hx k hk h2
      rw [e9] at e; cases e; exact h9
  have hvs : vsf t P < 2 ^ 6 := vsf_lt t P
  have hlf : ms (fun i => mtc P (x i) t vo P) M < 2 ^ 24 := Nat.lt_of_lt_of_le (ms_lt _ M) (Nat.pow_le_pow_right (by decide) hM)
  refine z_metl (by decide) rfl rfl (Nat.le_of_ble_eq_true rfl) ?_
  intro p e s m args below meth c X hr hin
  refine z_eq (ws' := []) (lv' := [(0, .ref b2), (1, .ref a)]) (st' := []) rfl rfl rfl ?_
  have hct := ct_le (fun i => mtc P (x i) t vo P) M
  have L : ∀ (d : Nat) (lo k : Nat), k + d = ct (fun i => mtc P (x i) t vo P) M → ct (kp (fun i => mtc P (x i) t vo P) lo) M = d → lo ≤ M → Zz D (va_A [] s.heap.size) 7 p l e ({ frames := 2, cells := 0, slots := 0, locals := 47 }) s m args below meth c (MQ below (va_Ql (fun (r : Int64) (w : va_W) => r = (lan (fun j => exB (fun i => rok P (x i) (fun u => tvl vo (t u) j) P) M)) ∧ w = []) (end_ D [] s.heap.size) (va_A [] s.heap.size)) args s 0 0 (va_A [] s.heap.size)) [] [(6, .int (nI k)), (5, .int (nI (ct (fun i => mtc P (x i) t vo P) M))), (3, .long (lan (fun j => exB (fun i => mtc P (x i) t vo P && laf t P (x i) P j) lo))), (2, .int (nI (ms (kp (fun i => mtc P (x i) t vo P) lo) M))), (0, .ref b2), (1, .ref a)] 0 0 44 [] := by
    intro d
    induction d with
    | zero =>
      intro lo k hL0 hL1 hL2
      refine z_iload X dX2_holdingAtom_44 (j := 0) rfl ?_
      refine z_iload X dX2_holdingAtom_46 (j := 1) rfl ?_
      refine z_icmp_ge X (tgt := 74) dX2_holdingAtom_48 (by decide) (fun c_48 => ?_) (fun c9 => absurd (by rw [show k = ct (fun i => mtc P (x i) t vo P) M by omega]; exact nI_le (Nat.le_refl _) (by omega)) c9)
      refine z_lload_n X dX2_holdingAtom_74 rfl (j := 2) rfl ?_
      exact z_endl X hr [] [] rfl rfl rfl ⟨(by rw [← lan_ext (fun j _ => exB_ext (fun i _ => mtc_laf (c := x i) h0 hx)), lan_ext (fun j _ => exB_end hL1 hL2)]), rfl⟩ dX2_holdingAtom_75
    | succ d ih =>
      intro lo k hL0 hL1 hL2
      obtain ⟨i0, e1, e2, e3, e4, e5, e6, e7, e8, e9⟩ := low_step hL1
      refine z_iload X dX2_holdingAtom_44 (j := 0) rfl ?_
      refine z_iload X dX2_holdingAtom_46 (j := 1) rfl ?_
      refine z_icmp_ge X (tgt := 74) dX2_holdingAtom_48 (by decide) (fun c9 => absurd c9 (nI_ge (by omega) (by omega))) (fun c_48 => ?_)
      refine z_lload_n X dX2_holdingAtom_51 rfl (j := 2) rfl ?_
      refine z_aload_n X dX2_holdingAtom_52 rfl (j := 5) rfl ?_
      refine z_iload_n X dX2_holdingAtom_53 rfl (j := 3) rfl ?_
      refine z_reti X (as := [.int (nI (ms (kp (fun i => mtc P (x i) t vo P) lo) M))]) (wc := []) (wr := []) (rest := [.ref a, .long (lan (fun j => exB (fun i => mtc P (x i) t vo P && laf t P (x i) P j) lo))]) (fun H9 locs9 ls9 hP9 hS9 hl9 hb9 hp9 => va_runS (As := [.int (nI (ms (kp (fun i => mtc P (x i) t vo P) lo) M))]) (rest := [.ref a, .long (lan (fun j => exB (fun i => mtc P (x i) t vo P && laf t P (x i) P j) lo))]) X.fix (m_intz l D cy O (n9 := (ms (kp (fun i => mtc P (x i) t vo P) lo) M)) (t9 := i0) e5 (by omega) e6 e7 H9.size) (va_cwS 1 X.hts (gS ml_X2_127 sm_J6_numberOfTrailingZeros_0f7a4 ni_J6 cd_J6_numberOfTrailingZeros_0f7a4) rfl rfl rfl (by decide +kernel) ⟨Nat.le_of_ble_eq_true rfl, Nat.le_of_ble_eq_true rfl⟩) ⟨hb9, hp9⟩ rfl rfl hl9.1 rfl (lv_room (Nat.le_of_ble_eq_true rfl)) dX2_holdingAtom_54 ⟨Nat.le_of_ble_eq_true rfl, Nat.le_of_ble_eq_true rfl⟩) [] [] rfl rfl rfl rfl rfl (by decide) (fun _ h => Or.inl h) (fun r1 w2 h3 => ?_)
      obtain ⟨rfl, rfl⟩ := h3
      refine z_eq (ws' := []) (lv' := [(6, .int (nI k)), (5, .int (nI (ct (fun i => mtc P (x i) t vo P) M))), (3, .long (lan (fun j => exB (fun i => mtc P (x i) t vo P && laf t P (x i) P j) lo))), (2, .int (nI (ms (kp (fun i => mtc P (x i) t vo P) lo) M))), (0, .ref b2), (1, .ref a)]) (st' := [.int (nI i0), .ref a, .long (lan (fun j => exB (fun i => mtc P (x i) t vo P && laf t P (x i) P j) lo))]) rfl rfl rfl ?_
      refine z_widen (k' := 0) (n' := 0) (Nat.le_refl _) (Nat.le_refl _) ?_
      refine z_retl X (as := [.ref a, .int (nI i0)]) (wc := []) (wr := []) (rest := [.long (lan (fun j => exB (fun i => mtc P (x i) t vo P && laf t P (x i) P j) lo))]) (fun H9 locs9 ls9 hP9 hS9 hl9 hb9 hp9 => va_runS (As := [.ref a, .int (nI i0)]) (rest := [.long (lan (fun j => exB (fun i => mtc P (x i) t vo P && laf t P (x i) P j) lo))]) X.fix (m_lanesOfFact l D cy O hA hQ hR hTm hTa hP hP3 ht (n9 := 0) (i9 := i0) (by omega) (f := nA x) (c9 := x i0) rfl (hx9 i0 (by omega)) H9.size) (va_cwS 2 X.hts (gS ml_X2_129 sm_X2_lanesOfFact ni_X2 cd_X2_lanesOfFact) rfl rfl rfl (by decide +kernel) ⟨Nat.le_of_ble_eq_true rfl, Nat.le_of_ble_eq_true rfl⟩) ⟨hb9, hp9⟩ rfl rfl hl9.1 rfl (lv_room (Nat.le_of_ble_eq_true rfl)) dX2_holdingAtom_57 ⟨Nat.le_of_ble_eq_true rfl, Nat.le_of_ble_eq_true rfl⟩) [] [] rfl rfl rfl rfl rfl (by decide) (fun _ h => Or.inl h) (fun r4 w5 h6 => ?_)
      obtain ⟨rfl, rfl⟩ := h6
      refine z_eq (ws' := []) (lv' := [(6, .int (nI k)), (5, .int (nI (ct (fun i => mtc P (x i) t vo P) M))), (3, .long (lan (fun j => exB (fun i => mtc P (x i) t vo P && laf t P (x i) P j) lo))), (2, .int (nI (ms (kp (fun i => mtc P (x i) t vo P) lo) M))), (0, .ref b2), (1, .ref a)]) (st' := [.long (lan (laf t P (x i0) P)), .long (lan (fun j => exB (fun i => mtc P (x i) t vo P && laf t P (x i) P j) lo))]) rfl rfl rfl ?_
      refine z_widen (k' := 0) (n' := 0) (Nat.le_refl _) (Nat.le_refl _) ?_
      refine z_lor X (v := (lan (fun j => exB (fun i => mtc P (x i) t vo P && laf t P (x i) P j) (i0 + 1)))) dX2_holdingAtom_60 (by rw [lan_or]; refine lan_ext fun j _ => ?_; rw [exB, exB_skip e4 e1, e3]; rfl) ?_
      refine z_lstore_n X (lv' := [(3, .long (lan (fun j => exB (fun i => mtc P (x i) t vo P && laf t P (x i) P j) (i0 + 1)))), (6, .int (nI k)), (5, .int (nI (ct (fun i => mtc P (x i) t vo P) M))), (2, .int (nI (ms (kp (fun i => mtc P (x i) t vo P) lo) M))), (0, .ref b2), (1, .ref a)]) dX2_holdingAtom_61 rfl (by decide) rfl ?_
      refine z_iload_n X dX2_holdingAtom_62 rfl (j := 3) rfl ?_
      refine z_iload_n X dX2_holdingAtom_63 rfl (j := 3) rfl ?_
      refine z_iconst X (v := 1) dX2_holdingAtom_64 (by decide) ?_
      refine z_isub X (v := (nI ((ms (kp (fun i => mtc P (x i) t vo P) lo) M) - 1))) dX2_holdingAtom_65 (sub_1 e5) ?_
      refine z_iand X (v := (nI (ms (kp (fun i => mtc P (x i) t vo P) (i0 + 1)) M))) dX2_holdingAtom_66 (by rw [nI_and, e8]) ?_
      refine z_istore_n X (lv' := [(2, .int (nI (ms (kp (fun i => mtc P (x i) t vo P) (i0 + 1)) M))), (3, .long (lan (fun j => exB (fun i => mtc P (x i) t vo P && laf t P (x i) P j) (i0 + 1)))), (6, .int (nI k)), (5, .int (nI (ct (fun i => mtc P (x i) t vo P) M))), (0, .ref b2), (1, .ref a)]) dX2_holdingAtom_67 rfl (by decide) rfl ?_
      refine z_iinc X (j := 2) (v := (nI (k + 1))) (lv' := [(6, .int (nI (k + 1))), (2, .int (nI (ms (kp (fun i => mtc P (x i) t vo P) (i0 + 1)) M))), (3, .long (lan (fun j => exB (fun i => mtc P (x i) t vo P && laf t P (x i) P j) (i0 + 1)))), (5, .int (nI (ct (fun i => mtc P (x i) t vo P) M))), (0, .ref b2), (1, .ref a)]) dX2_holdingAtom_68 rfl (nI_1 k) (by decide) rfl ?_
      refine z_goto X (tgt := 44) dX2_holdingAtom_71 (by decide) ?_
      refine z_lv [0, 3, 2, 1, 4, 5] (lv' := [(6, .int (nI (k + 1))), (5, .int (nI (ct (fun i => mtc P (x i) t vo P) M))), (3, .long (lan (fun j => exB (fun i => mtc P (x i) t vo P && laf t P (x i) P j) (i0 + 1)))), (2, .int (nI (ms (kp (fun i => mtc P (x i) t vo P) (i0 + 1)) M))), (0, .ref b2), (1, .ref a)]) rfl ?_
      refine z_eq (ws' := []) (lv' := [(6, .int (nI (k + 1))), (5, .int (nI (ct (fun i => mtc P (x i) t vo P) M))), (3, .long (lan (fun j => exB (fun i => mtc P (x i) t vo P && laf t P (x i) P j) (i0 + 1)))), (2, .int (nI (ms (kp (fun i => mtc P (x i) t vo P) (i0 + 1)) M))), (0, .ref b2), (1, .ref a)]) (st' := []) rfl rfl rfl ?_
      exact ih (i0 + 1) (k + 1) (by omega) e9 (by omega)
  refine z_aload_n X dX2_holdingAtom_0 rfl (j := 1) rfl ?_
  refine z_aload_n X dX2_holdingAtom_1 rfl (j := 0) rfl ?_
  refine z_getO X (ci := 2) (C := RX2) (T := TX2) (N := 3) inX2 hL rfl 1 (by decide) fl_X2_18 (fun _ h9 => h9) rfl dX2_holdingAtom_2 ?_
  refine z_reti X (as := [.ref a, .ref gv]) (wc := []) (wr := []) (rest := []) (fun H9 locs9 ls9 hP9 hS9 hl9 hb9 hp9 => va_runV (As := [.ref gv]) (rest := []) X.fix (m_matching l D cy O hA hQ hK hTm hTa hH hgv (show M ≤ 25 by omega) hP3 ht hv8 H9.size) (cwV 1 X.hts (gV ml_X2_115 im_X0_matching se_X0_matching ni_X0 cd_X0_matching) rfl rfl rfl (by decide +kernel) ⟨Nat.le_of_ble_eq_true rfl, Nat.le_of_ble_eq_true rfl⟩) ⟨hb9, z_recvO X (ci := 0) (r := (RX0, TX0, 2)) hA rfl hS9, hp9⟩ rfl rfl hl9.1 rfl (lv_room (Nat.le_of_ble_eq_true rfl)) dX2_holdingAtom_5 ⟨Nat.le_of_ble_eq_true rfl, Nat.le_of_ble_eq_true rfl⟩) [] [] rfl rfl rfl rfl rfl (by decide) (fun _ h => Or.inl h) (fun r7 w8 h9 => ?_)
  obtain ⟨rfl, rfl⟩ := h9
  rw [mat_ms hHK P (Nat.le_refl _) hv8]
  refine z_eq (ws' := []) (lv' := [(0, .ref b2), (1, .ref a)]) (st' := [.int (nI (ms (fun i => mtc P (x i) t vo P) M))]) rfl rfl rfl ?_
  refine z_widen (k' := 0) (n' := 0) (Nat.le_refl _) (Nat.le_refl _) ?_
  refine z_istore_n X (lv' := [(2, .int (nI (ms (fun i => mtc P (x i) t vo P) M))), (0, .ref b2), (1, .ref a)]) dX2_holdingAtom_8 rfl (by decide) rfl ?_
  refine z_aload_n X dX2_holdingAtom_9 rfl (j := 2) rfl ?_
  refine z_getO X (ci := 0) (C := RX0) (T := TX0) (N := 2) inX0 hA rfl 1 (by decide) fl_X2_121 (fun _ h9 => h9) rfl dX2_holdingAtom_10 ?_
  refine z_getO X (ci := 7) (C := RX7) (T := TX7) (N := 4) inX7 hTm rfl 2 (by decide) fl_X2_122 (fun _ h9 => h9) rfl dX2_holdingAtom_13 ?_
  refine z_iconst X (v := 3) dX2_holdingAtom_16 (by decide) ?_
  refine z_iand X (v := (nI (vsf t P &&& 3))) dX2_holdingAtom_17 (nI_and _ 3) ?_
  refine z_if_ne X (tgt := 33) dX2_holdingAtom_18 (by decide) (fun c_18 => ?_) (fun c_18 => ?_)
  · skip
    refine z_lconst X (v := 0) dX2_holdingAtom_33 (by decide) ?_
    refine z_lstore_n X (lv' := [(3, .long 0), (2, .int (nI (ms (fun i => mtc P (x i) t vo P) M))), (0, .ref b2), (1, .ref a)]) dX2_holdingAtom_34 rfl (by decide) rfl ?_
    refine z_iload_n X dX2_holdingAtom_35 rfl (j := 1) rfl ?_
    refine z_reti X (as := [.int (nI (ms (fun i => mtc P (x i) t vo P) M))]) (wc := []) (wr := []) (rest := []) (fun H9 locs9 ls9 hP9 hS9 hl9 hb9 hp9 => va_runS (As := [.int (nI (ms (fun i => mtc P (x i) t vo P) M))]) (rest := []) X.fix (m_ibits l D cy O (n9 := ms (fun i => mtc P (x i) t vo P) M) (Nat.lt_trans hlf (by decide)) H9.size) (va_cwS 1 X.hts (gS ml_X2_34 sm_J6_bitCount_0f7a4 ni_J6 cd_J6_bitCount_0f7a4) rfl rfl rfl (by decide +kernel) ⟨Nat.le_of_ble_eq_true rfl, Nat.le_of_ble_eq_true rfl⟩) ⟨hb9, hp9⟩ rfl rfl hl9.1 rfl (lv_room (Nat.le_of_ble_eq_true rfl)) dX2_holdingAtom_36 ⟨Nat.le_of_ble_eq_true rfl, Nat.le_of_ble_eq_true rfl⟩) [] [] rfl rfl rfl rfl rfl (by decide) (fun _ h => Or.inl h) (fun r10 w11 h12 => ?_)
    obtain ⟨rfl, rfl⟩ := h12
    rw [ct_msN (show M ≤ 32 by omega)]
    refine z_eq (ws' := []) (lv' := [(3, .long 0), (2, .int (nI (ms (fun i => mtc P (x i) t vo P) M))), (0, .ref b2), (1, .ref a)]) (st' := [.int (nI (ct (fun i => mtc P (x i) t vo P) M))]) rfl rfl rfl ?_
    refine z_widen (k' := 0) (n' := 0) (Nat.le_refl _) (Nat.le_refl _) ?_
    refine z_istore X (lv' := [(5, .int (nI (ct (fun i => mtc P (x i) t vo P) M))), (3, .long 0), (2, .int (nI (ms (fun i => mtc P (x i) t vo P) M))), (0, .ref b2), (1, .ref a)]) dX2_holdingAtom_39 (by decide) rfl ?_
    refine z_iconst X (v := 0) dX2_holdingAtom_41 (by decide) ?_
    refine z_istore X (lv' := [(6, .int 0), (5, .int (nI (ct (fun i => mtc P (x i) t vo P) M))), (3, .long 0), (2, .int (nI (ms (fun i => mtc P (x i) t vo P) M))), (0, .ref b2), (1, .ref a)]) dX2_holdingAtom_42 (by decide) rfl ?_
    refine z_eq (ws' := []) (lv' := [(6, .int (nI 0)), (5, .int (nI (ct (fun i => mtc P (x i) t vo P) M))), (3, .long (lan (fun j => exB (fun i => mtc P (x i) t vo P && laf t P (x i) P j) 0))), (2, .int (nI (ms (kp (fun i => mtc P (x i) t vo P) 0) M))), (0, .ref b2), (1, .ref a)]) (st' := []) rfl (by rw [show (lan (fun j => exB (fun i => mtc P (x i) t vo P && laf t P (x i) P j) 0)) = 0 from lan_0.mpr fun j _ => rfl, kp_0]; rfl) rfl ?_
    exact L (ct (fun i => mtc P (x i) t vo P) M) 0 0 (by omega) (by rw [kp_0]) (Nat.zero_le _)
  · skip
    have hfree := lane_free ((nI_zero (Nat.lt_of_le_of_lt Nat.and_le_left (Nat.lt_trans hvs (by decide)))).mp c_18)
    refine z_iload_n X dX2_holdingAtom_21 rfl (j := 0) rfl ?_
    refine z_if_ne X (tgt := 29) dX2_holdingAtom_22 (by decide) (fun c_22 => ?_) (fun c_22 => ?_)
    · skip
      refine z_ldc2 X kc_X2_97 dX2_holdingAtom_29 ?_
      have e9 : (-1 : Int64) = (lan (fun j => exB (fun i => rok P (x i) (fun u => tvl vo (t u) j) P) M)) := by
        refine (lan_1.mpr fun j _ => ?_).symm
        rw [← exB_ext (fun i _ => mtc_laf (c := x i) h0 hx)]
        cases h7 : exB (fun i => mtc P (x i) t vo P && laf t P (x i) P j) M
        · exfalso; apply c_22
          have h4 : ms (fun i => mtc P (x i) t vo P) M = 0 := by
            refine Nat.eq_of_testBit_eq fun i => ?_
            rw [Nat.zero_testBit, ms_bit]
            by_cases hi : i < M
            · cases h6 : mtc P (x i) t vo P
              · simp
              · have h5 := (exB_iff (q := fun i => mtc P (x i) t vo P && laf t P (x i) P j)).mpr ⟨i, hi, (show (mtc P (x i) t vo P && laf t P (x i) P j) = true by rw [h6, laf_iff.mpr (fun u hu hlt => absurd hlt (hfree u hu))]; rfl)⟩
                rw [h5] at h7; cases h7
            · simp [hi]
          rw [h4]; rfl
        · rfl
      exact z_endl X hr [] [] rfl rfl rfl ⟨e9, rfl⟩ dX2_holdingAtom_32
    · skip
      refine z_lconst X (v := 0) dX2_holdingAtom_25 (by decide) ?_
      refine z_goto X (tgt := 32) dX2_holdingAtom_26 (by decide) ?_
      have e9 : (0 : Int64) = (lan (fun j => exB (fun i => rok P (x i) (fun u => tvl vo (t u) j) P) M)) := by
        have hz := (nI_zero (n := ms (fun i => mtc P (x i) t vo P) M) (by omega)).mp c_22
        refine (lan_0.mpr fun j _ => ?_).symm
        rw [← exB_ext (fun i _ => mtc_laf (c := x i) h0 hx)]
        cases h7 : exB (fun i => mtc P (x i) t vo P && laf t P (x i) P j) M
        · rfl
        · obtain ⟨i, hi, h8⟩ := exB_iff.mp h7
          have h6 : (ms (fun i => mtc P (x i) t vo P) M).testBit i = true := by rw [ms_bit]; simp only [Bool.and_eq_true] at h8; simp [hi, h8.1]
          rw [hz, Nat.zero_testBit] at h6; cases h6
      exact z_endl X hr [] [] rfl rfl rfl ⟨e9, rfl⟩ dX2_holdingAtom_32
