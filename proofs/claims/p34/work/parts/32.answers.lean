/-! the answers as a set of rows -/
theorem hol_ext {R : Nat → RRow} {rc : Nat} {T : Nat → TRow} {At : Nat → TAtt} {dom N : Nat} (hG : ∀ i, i < N → Gd R rc T At i) : ∀ n, n ≤ N → ∀ i, i < n → ∀ val val' : Nat → Nat, (∀ v, v < 6 → (At i).1.testBit v = true → val v = val' v) → hol R T dom n i val = hol R T dom n i val' := by
  intro n
  induction n with
  | zero => intro _ i hi; omega
  | succ n ih =>
    intro hn i hi val val' h
    have tt : ∀ (t : Nat → Nat) (m : Nat), (At i).1 = vsf t m → (∀ k, k < m → isT (t k)) → ∀ u, u < m → tv val (t u) = tv val' (t u) := by
      intro t m e ht u hu
      unfold tv
      rcases ht u hu with h3 | h3
      · rw [if_pos (by omega), if_pos (by omega)]; exact h _ h3 (by rw [e]; exact vsf_bit.mpr ⟨u, hu, h3, rfl⟩)
      · rw [if_neg (by omega), if_neg (by omega)]
    rcases hG i (by omega) with ⟨hk, hr, ht, hA⟩ | ⟨hk, ht, hA⟩ | ⟨hk, ha, hA⟩ | ⟨hk, ha, hb, hA⟩ | ⟨hk, ha, hb, hA⟩ | ⟨hk, ha, hv, hA⟩ | ⟨hk, ha, hv, hA⟩
    · rw [hol_0 hk, hol_0 hk]
      exact exB_ext fun k _ => rok_ext fun u hu => tt _ _ (by rw [hA]) ht u hu
    · rw [hol_1 hk, hol_1 hk, tt _ 2 (by rw [hA]) ht 0 (by decide), tt _ 2 (by rw [hA]) ht 1 (by decide)]
    · rw [hol_2 hk, hol_2 hk, ih (by omega) _ (by omega) val val' (fun v h6 hb => h v h6 (by rw [hA]; exact hb))]
    · rw [hol_3 hk, hol_3 hk, ih (by omega) _ (by omega) val val' (fun v h6 hb => h v h6 (by rw [hA]; exact or_bit.mpr (Or.inl hb))), ih (by omega) _ (by omega) val val' (fun v h6 hb => h v h6 (by rw [hA]; exact or_bit.mpr (Or.inr hb)))]
    · rw [hol_4 hk, hol_4 hk, ih (by omega) _ (by omega) val val' (fun v h6 hb => h v h6 (by rw [hA]; exact or_bit.mpr (Or.inl hb))), ih (by omega) _ (by omega) val val' (fun v h6 hb => h v h6 (by rw [hA]; exact or_bit.mpr (Or.inr hb)))]
    · rw [hol_5 hk, hol_5 hk]
      refine exB_ext fun w _ => ?_
      rw [ih (by omega) _ (by omega) (up val (T i).2.2.2.1 w) (up val' (T i).2.2.2.1 w) (fun v h6 hb => ?_)]
      unfold up
      by_cases e : v = (T i).2.2.2.1
      · rw [if_pos e, if_pos e]
      · rw [if_neg e, if_neg e]
        refine h v h6 ?_
        rw [hA]
        show (nd _ _).testBit v = true
        rw [nd_bit, hb, Nat.testBit_two_pow]; simp [show ¬ (T i).2.2.2.1 = v from fun z => e z.symm]
    · rw [hol_6 hk, hol_6 hk]
      congr 1
      refine exB_ext fun w _ => ?_
      rw [ih (by omega) _ (by omega) (up val (T i).2.2.2.1 w) (up val' (T i).2.2.2.1 w) (fun v h6 hb => ?_)]
      unfold up
      by_cases e : v = (T i).2.2.2.1
      · rw [if_pos e, if_pos e]
      · rw [if_neg e, if_neg e]
        refine h v h6 ?_
        rw [hA]
        show (nd _ _).testBit v = true
        rw [nd_bit, hb, Nat.testBit_two_pow]; simp [show ¬ (T i).2.2.2.1 = v from fun z => e z.symm]
theorem Gd_fr {R : Nat → RRow} {rc : Nat} {T : Nat → TRow} {At : Nat → TAtt} {N : Nat} (hG : ∀ i, i < N → Gd R rc T At i) : ∀ i, i < N → (At i).1 < 2 ^ 6 := by
  intro i
  induction i using Nat.strongRecOn with
  | ind i ih =>
    intro hi
    rcases hG i hi with ⟨hk, hr, ht, hA⟩ | ⟨hk, ht, hA⟩ | ⟨hk, ha, hA⟩ | ⟨hk, ha, hb, hA⟩ | ⟨hk, ha, hb, hA⟩ | ⟨hk, ha, hv, hA⟩ | ⟨hk, ha, hv, hA⟩ <;> rw [hA]
    · exact vsf_lt _ _
    · exact vsf_lt _ _
    · exact ih _ ha (by omega)
    · exact Nat.or_lt_two_pow (ih _ ha (by omega)) (ih _ hb (by omega))
    · exact Nat.or_lt_two_pow (ih _ ha (by omega)) (ih _ hb (by omega))
    · exact nd_lt (ih _ ha (by omega))
    · exact nd_lt (ih _ ha (by omega))
theorem one_bit (k : Nat) : (1 : Nat).testBit k = decide (k = 0) := by
  rw [show (1 : Nat) = 2 ^ 0 from rfl, Nat.testBit_two_pow]
  simp only [decide_eq_decide]; exact eq_comm
def askd (S dom j : Nat) : Bool := (if S.testBit 0 then dom else 1).testBit (ld 0 j) && (if S.testBit 1 then dom else 1).testBit (ld 1 j)
def lr (S j : Nat) : Nat := if S.testBit 0 && !S.testBit 1 then j / 8 else j
theorem ct_2 (S : Nat) : ct S.testBit 2 = (if S.testBit 0 then 1 else 0) + if S.testBit 1 then 1 else 0 := by simp [ct]
theorem lane_ok {S dom j : Nat} (hj : j < 64) (hA : askd S dom j = true) : (S.testBit 1 = true → lr S j % 8 = ld 1 j ∧ dom.testBit (ld 1 j) = true) ∧ (S.testBit 0 = true → lr S j / 8 ^ (if S.testBit 1 then 1 else 0) % 8 = ld 0 j ∧ dom.testBit (ld 0 j) = true) ∧ lr S j < 8 ^ ct S.testBit 2 := by
  rw [ct_2]
  unfold askd at hA
  rw [Bool.and_eq_true] at hA
  unfold lr ld at *
  cases h0 : S.testBit 0 <;> cases h1 : S.testBit 1 <;> simp [h0, h1, one_bit] at hA ⊢
  · omega
  · exact ⟨hA.2, by omega⟩
  · exact ⟨⟨by omega, hA.1⟩, by omega⟩
  · exact ⟨hA.2, ⟨by omega, hA.1⟩, by omega⟩
theorem lane_get {S dom x : Nat} (hx : x < 8 ^ ct S.testBit 2) (h1 : S.testBit 1 = true → dom.testBit (x % 8) = true) (h0 : S.testBit 0 = true → dom.testBit (x / 8 ^ (if S.testBit 1 then 1 else 0) % 8) = true) : ∃ j, j < 64 ∧ askd S dom j = true ∧ lr S j = x := by
  rw [ct_2] at hx
  unfold askd lr ld
  cases e0 : S.testBit 0 <;> cases e1 : S.testBit 1 <;> simp only [e0, e1, Bool.false_eq_true, if_false, if_true, forall_const, false_implies] at hx h1 h0 ⊢
  · exact ⟨0, by omega, by simp [one_bit], by simp; omega⟩
  · refine ⟨x, by omega, ?_, by simp⟩
    rw [Nat.mod_eq_of_lt (by omega)] at h1
    simp [one_bit, show x / 8 = 0 by omega, show x % 8 = x by omega, h1]
  · refine ⟨x * 8, by omega, ?_, by simp⟩
    rw [Nat.pow_zero, Nat.div_one, Nat.mod_eq_of_lt (by omega)] at h0
    simp [one_bit, show x * 8 / 8 = x by omega, h0]
  · refine ⟨x, by omega, ?_, by simp⟩
    rw [show (8 : Nat) ^ 1 = 8 from rfl, Nat.mod_eq_of_lt (show x / 8 < 8 by omega)] at h0
    simp [h0, h1]
theorem dig_low {a b c m : Nat} (h : c < m) : (a * 8 ^ m + b) / 8 ^ c % 8 = b / 8 ^ c % 8 := by
  have e : a * 8 ^ m = 8 ^ c * (a * 8 ^ (m - c - 1) * 8) := by
    have h1 : (8 : Nat) ^ m = 8 ^ c * (8 ^ (m - c - 1) * 8) := by rw [← Nat.pow_succ, ← Nat.pow_add]; congr 1; omega
    rw [h1, Nat.mul_left_comm, Nat.mul_assoc]
  rw [e, Nat.mul_add_div (Nat.pow_pos (by decide)), Nat.add_comm, Nat.add_mul_mod_self_right]
theorem dig_mid {a b m e : Nat} (hb : b < 8 ^ m) : (a * 8 ^ m + b) / 8 ^ (m + e) % 8 = a / 8 ^ e % 8 := by
  rw [Nat.pow_add, ← Nat.div_div_eq_div_mul, Nat.mul_comm a, Nat.mul_add_div (Nat.pow_pos (by decide)), Nat.div_eq_of_lt hb, Nat.add_zero]
theorem ca_2 (S : Nat) : ct S.testBit 2 + ca S 2 = ct S.testBit 6 := by
  have h := ct_le_of (q := S.testBit) (show 2 ≤ 6 by decide)
  unfold ca; omega
theorem nd3 {S v : Nat} : (nd S 3).testBit v = (S.testBit v && !decide (v < 2)) := by
  rw [nd_bit, show (3 : Nat) = 2 ^ 2 - 1 from rfl, Nat.testBit_two_pow_sub_one]
theorem ca_nd3 {S k : Nat} (hk : 2 ≤ k) (h6 : k ≤ 6) : ca (nd S 3) k = ca S k := by
  have h : ∀ k, 2 ≤ k → ct (nd S 3).testBit k + ct S.testBit 2 = ct S.testBit k := by
    intro k
    induction k with
    | zero => intro h; omega
    | succ k ih =>
      intro h
      rcases Nat.lt_or_ge k 2 with g | g
      · rw [show k + 1 = 2 by omega, ct_zero.mpr (fun i hi => by rw [nd3]; simp [hi])]; omega
      · have e1 : ct (nd S 3).testBit (k + 1) = ct (nd S 3).testBit k + if (nd S 3).testBit k then 1 else 0 := rfl
        have e2 : ct S.testBit (k + 1) = ct S.testBit k + if S.testBit k then 1 else 0 := rfl
        rw [e1, e2, nd3, ← ih g]
        simp [show ¬ k < 2 by omega]; omega
  have a := h k hk
  have b := h 6 (by decide)
  unfold ca; omega
theorem ct_nd3 (S : Nat) : ct (nd S 3).testBit 6 = ca S 2 := by
  rw [← ca_nd3 (Nat.le_refl 2) (by decide), ca, show ct (nd S 3).testBit 2 = 0 from ct_zero.mpr (fun i hi => by rw [nd3]; simp [hi]), Nat.sub_zero]
theorem ca_lt {S v : Nat} (h : S.testBit v = true) (h2 : 2 ≤ v) (h6 : v < 6) : ca S (v + 1) < ca S 2 := by
  have h1 := ca_y h h6
  have h3 : ca S v ≤ ca S 2 := by
    have := ct_le_of (q := S.testBit) h2
    unfold ca; omega
  omega
theorem dgt_hi {S x row v : Nat} (h : S.testBit v = true) (h2 : 2 ≤ v) (h6 : v < 6) : dgt S (x * 8 ^ ca S 2 + row) v = dgt (nd S 3) row v := by
  unfold dgt
  rw [dig_low (ca_lt h h2 h6), ca_nd3 (by omega) (by omega)]
theorem dgt_1 {S x row : Nat} (hr : row < 8 ^ ca S 2) : dgt S (x * 8 ^ ca S 2 + row) 1 = x % 8 := by
  have h := dig_mid (a := x) (e := 0) hr
  rw [Nat.add_zero, Nat.pow_zero, Nat.div_one] at h
  exact h
theorem dgt_0 {S x row : Nat} (hr : row < 8 ^ ca S 2) : dgt S (x * 8 ^ ca S 2 + row) 0 = x / 8 ^ (if S.testBit 1 then 1 else 0) % 8 := by
  have h := dig_mid (a := x) (e := if S.testBit 1 then 1 else 0) hr
  rw [← h, dgt]
  congr 3
  cases e : S.testBit 1
  · rw [show 0 + 1 = 1 from rfl, ca_n e]; rfl
  · rw [show 0 + 1 = 1 from rfl, ca_y e (by decide)]; rfl
/-- the rows that are answers -/
def anB (S dom : Nat) (G : (Nat → Nat) → Bool) : Nat → Bool := fun r => decide (r < 8 ^ ct S.testBit 6) && tok S r dom 6 && G (fun v => dgt S r v)
def anK (S dom : Nat) (G : (Nat → Nat) → Bool) (k : Nat) : Nat → Bool := fun r => exB (fun row => tok (nd S 3) row dom 6 && exB (fun j => (askd S dom j && G (fun v => dgt S (lr S j * 8 ^ ca S 2 + row) v)) && decide (r = lr S j * 8 ^ ca S 2 + row)) 64) k
theorem anK_0 {S dom : Nat} {G : (Nat → Nat) → Bool} : anK S dom G 0 = fun _ => false := rfl
theorem anK_n {S dom k : Nat} {G : (Nat → Nat) → Bool} (h : tok (nd S 3) k dom 6 = false) : anK S dom G (k + 1) = anK S dom G k := funext fun r => by
  simp only [anK]; rw [exB, h]; simp
theorem anK_s {S dom k : Nat} {G : (Nat → Nat) → Bool} (h : tok (nd S 3) k dom 6 = true) : incs (anK S dom G k) (fun j => askd S dom j && G (fun v => dgt S (lr S j * 8 ^ ca S 2 + k) v)) (fun j => lr S j * 8 ^ ca S 2 + k) 64 = anK S dom G (k + 1) := funext fun r => by
  simp only [incs, anK]
  conv => rhs; rw [exB]
  rw [h, Bool.true_and]
theorem tok6 {S row dom : Nat} : tok S row dom 6 = true ↔ ∀ v, v < 6 → S.testBit v = true → dom.testBit (dgt S row v) = true := by
  rw [tok_iff (Nat.le_refl 6)]
  exact ⟨fun h v h6 => h v (by omega) h6, fun h v _ h6 => h v h6⟩
theorem anK_e {S dom : Nat} {G : (Nat → Nat) → Bool} : anK S dom G (8 ^ ca S 2) = anB S dom G := funext fun r => by
  rw [Bool.eq_iff_iff]
  simp only [anK, anB]
  rw [exB_iff]
  have hp : 8 ^ ct S.testBit 6 = 8 ^ ct S.testBit 2 * 8 ^ ca S 2 := by rw [← ca_2, Nat.pow_add]
  simp only [Bool.and_eq_true, decide_eq_true_eq]
  constructor
  · rintro ⟨row, hr, ht, h⟩
    obtain ⟨j, hj, h⟩ := exB_iff.mp h
    simp only [Bool.and_eq_true, decide_eq_true_eq] at h
    obtain ⟨⟨hA, hG⟩, rfl⟩ := h
    obtain ⟨l1, l0, l2⟩ := lane_ok hj hA
    refine ⟨⟨?_, ?_⟩, hG⟩
    · rw [hp]
      have : (lr S j + 1) * 8 ^ ca S 2 ≤ 8 ^ ct S.testBit 2 * 8 ^ ca S 2 := Nat.mul_le_mul_right _ l2
      rw [Nat.succ_mul] at this; omega
    · rw [tok6]
      intro v h6 hv
      rcases Nat.lt_or_ge v 2 with h2 | h2
      · rcases (show v = 0 ∨ v = 1 by omega) with rfl | rfl
        · rw [dgt_0 hr, (l0 hv).1]; exact (l0 hv).2
        · rw [dgt_1 hr, (l1 hv).1]; exact (l1 hv).2
      · rw [dgt_hi hv h2 h6]; exact tok6.mp ht v h6 (by rw [nd3, hv]; simp [show ¬ v < 2 by omega])
  · rintro ⟨⟨hr, ht⟩, hG⟩
    have hpos : 0 < 8 ^ ca S 2 := Nat.pow_pos (by decide)
    have hm : r % 8 ^ ca S 2 < 8 ^ ca S 2 := Nat.mod_lt _ hpos
    have hs : r = r / 8 ^ ca S 2 * 8 ^ ca S 2 + r % 8 ^ ca S 2 := by rw [Nat.mul_comm]; exact (Nat.div_add_mod _ _).symm
    generalize r / 8 ^ ca S 2 = x at hs
    generalize r % 8 ^ ca S 2 = row at hs hm
    subst hs
    rw [tok6] at ht
    have hx : x < 8 ^ ct S.testBit 2 := by
      rw [hp] at hr
      rcases Nat.lt_or_ge x (8 ^ ct S.testBit 2) with g | g
      · exact g
      · have := Nat.mul_le_mul_right (8 ^ ca S 2) g; omega
    obtain ⟨j, hj, hA, rfl⟩ := lane_get (dom := dom) hx (fun h => by have := ht 1 (by decide) h; rwa [dgt_1 hm] at this) (fun h => by have := ht 0 (by decide) h; rwa [dgt_0 hm] at this)
    refine ⟨row, hm, ?_, exB_iff.mpr ⟨j, hj, by simp [hA, hG]⟩⟩
    rw [tok6]
    intro v h6 hv
    rw [nd3, Bool.and_eq_true] at hv
    have h2 : 2 ≤ v := by have := hv.2; simp at this; exact this
    have := ht v h6 hv.1
    rwa [dgt_hi hv.1 h2 h6] at this
theorem ct_32 {n w : Nat} (h : n < 2 ^ w) {N : Nat} (hw : w ≤ N) : ct n.testBit N = ct n.testBit w := by
  have h2 : ct (fun i => n.testBit (w + i)) (N - w) = 0 := ct_zero.mpr (fun i _ => Nat.testBit_lt_two_pow (Nat.lt_of_lt_of_le h (Nat.pow_le_pow_right (by decide) (by omega))))
  rw [show N = w + (N - w) by omega, ct_add, h2, Nat.add_zero]
theorem pow_8 (m : Nat) : 2 ^ (3 * m) = 8 ^ m := by rw [Nat.pow_mul]
/-- what the lanes' values may be between two questions -/
def VOk (vo : Nat → Option Nat) : Prop := vno vo ∧ ∀ v, 2 ≤ v → v < 6 → ∃ x, vo v = some x ∧ x < 8
theorem VOk.tkp {S : Nat} {vo vo' : Nat → Option Nat} (h : VOk vo) (ht : tkp (nd S 3) vo vo') : VOk vo' := by
  refine ⟨⟨?_, ?_⟩, fun v h2 h6 => ?_⟩
  · rcases ht 0 with e | ⟨_, e, _⟩
    · rw [e]; exact h.1.1
    · rw [nd3] at e; simp at e
  · rcases ht 1 with e | ⟨_, e, _⟩
    · rw [e]; exact h.1.2
    · rw [nd3] at e; simp at e
  · rcases ht v with e | ⟨_, _, x, h8, e⟩
    · rw [e]; exact h.2 v h2 h6
    · exact ⟨x, e, h8⟩
theorem VOk.asg {vo : Nat → Option Nat} (h : VOk vo) (S : Nat) : asg vo S := fun v h2 h6 _ => h.2 v h2 h6
theorem lrow_lr {S ob row j m : Nat} (h : 2 ^ ob = 8 ^ m) : lrow S ob row j = lr S j * 8 ^ m + row := by rw [lrow, lr, h]
theorem FW.mono {O O' : Nat × va_E → Prop} {cy : Nat → ClassId} {R : Nat → RRow} {rc : Nat} {rb : Nat → Nat} {T : Nat → TRow} {At : Nat → TAtt} {ad : Nat → Nat} {N : Nat} (h : ∀ q, O q → O' q) (hW : FW O cy R rc rb T At ad N) : FW O' cy R rc rb T At ad N := by
  have hT : ∀ {tm n : Nat} {t : Nat → Nat}, TmO O cy tm n t → TmO O' cy tm n t := fun ⟨ta, Tf, a, b, c⟩ => ⟨ta, Tf, h _ a, h _ b, c⟩
  refine ⟨fun j hj => ?_, fun i hi => ⟨?_, (hW.2 i hi).2⟩⟩
  · obtain ⟨ar, ah, ak, hv, kv, a, b, c, d, e⟩ := hW.1 j hj
    exact ⟨ar, ah, ak, hv, kv, h _ a, h _ b, h _ c, h _ d, e⟩
  · obtain ⟨p1, p2, p3, p4, vv, a, b, c, d⟩ := (hW.2 i hi).1
    refine ⟨p1, p2, p3, p4, vv, h _ a, fun z => ?_, fun z => ?_, d⟩
    · obtain ⟨at_, e, tm, f, g⟩ := b z
      exact ⟨at_, e, tm, h _ f, hT g⟩
    · obtain ⟨tm, e, g⟩ := c z
      exact ⟨tm, e, hT g⟩
set_option maxHeartbeats 4000000 in
set_option maxRecDepth 100000 in
/-- answersOf(f, domainOfWhole) -/
theorem m_answersOf (l : Launch) (D : va_G) (cy : Nat → ClassId) (O : Nat × va_E → Prop) {rc N : Nat} {R : Nat → RRow} {rb : Nat → Nat} {T : Nat → TRow} {At : Nat → TAtt} {ad : Nat → Nat} (hW : FW O cy R rc rb T At ad N) {b2 b5 r5 gv i dom : Nat} {dm0 v5 : Value} {q0 : Nat → Bool} {vo : Nat → Option Nat} (hi : i < N) (hd : dom < 2 ^ 31) (h3 : ct (At i).1.testBit 6 ≤ 3) (hq0 : ∀ i, 512 ≤ i → q0 i = false) (hvo : VOk vo) : Cr l yX2_answersOf (.code yX2_answersOf cX2_answersOf 9 (some (.object "Thimble$RowSet")) :: WALL) ({ frames := 4 * N + 4, cells := 0, slots := 0, locals := 100 * N + 100 }) D cy O [.ref b2, .ref (ad i), .int (nI dom)] [(b2, .inr (2, [.ref b5, .ref gv, dm0])), (b5, .inr (5, [.ref r5, v5])), (r5, .inl (cy 1, 512, .inl (zB q0))), (gv, .inl (cy 0, 6, .inl (vA vo)))] 0 0 (fun (r : Nat) (w : va_W) => r = b5 ∧ ∃ vo' : Nat → Option Nat, VOk vo' ∧ w = [(b2, .inr (2, [.ref b5, .ref gv, .int (nI dom)])), (b5, .inr (5, [.ref r5, .int (nI (ct (anB (At i).1 dom (hol R T dom N i)) 512))])), (r5, .inl (cy 1, 512, .inl (zB (anB (At i).1 dom (hol R T dom N i))))), (gv, .inl (cy 0, 6, .inl (vA vo')))]) := by
  obtain ⟨⟨p1, p2, p3, p4, vv, hF, -⟩, -⟩ := hW.2 i hi
  have hS6 : (At i).1 < 2 ^ 6 := Gd_fr (fun i hi => (hW.2 i hi).2) i hi
  have hO6 : nd (At i).1 3 < 2 ^ 6 := nd_lt hS6
  have hca : ca (At i).1 2 ≤ 3 := by have := ca_2 (At i).1; omega
  have hp8 : 2 ^ (3 * ca (At i).1 2) = 8 ^ ca (At i).1 2 := pow_8 _
  have hp9 : 8 ^ ca (At i).1 2 ≤ 8 ^ 3 := Nat.pow_le_pow_right (by decide) hca
  refine z_metr (by decide) rfl rfl (Nat.le_of_ble_eq_true rfl) ?_
  intro p e s m args below meth c X hr hin
  refine z_eq (ws' := [(b2, .inr (2, [.ref b5, .ref gv, dm0])), (b5, .inr (5, [.ref r5, v5])), (r5, .inl (cy 1, 512, .inl (zB q0))), (gv, .inl (cy 0, 6, .inl (vA vo)))]) (lv' := [(0, .ref b2), (1, .ref (ad i)), (2, .int (nI dom))]) (st' := []) rfl rfl rfl ?_
  have hfin : ∀ k, k ≤ 8 ^ ca (At i).1 2 → ∀ r, 512 ≤ r → anK (At i).1 dom (hol R T dom N i) k r = false := by
    intro k hk r hr
    cases h : anK (At i).1 dom (hol R T dom N i) k r
    · rfl
    · have h1 : anK (At i).1 dom (hol R T dom N i) (8 ^ ca (At i).1 2) r = true := exB_mono hk h
      rw [anK_e] at h1
      simp only [anB, Bool.and_eq_true, decide_eq_true_eq] at h1
      have : 8 ^ ct (At i).1.testBit 6 ≤ 8 ^ 3 := Nat.pow_le_pow_right (by decide) h3
      omega
  have L : ∀ (d : Nat) (k : Nat) (vx : Nat → Option Nat), k + d = 8 ^ (ca (At i).1 2) → VOk vx → Zz D (va_A [(b2, .inr (2, [.ref b5, .ref gv, dm0])), (b5, .inr (5, [.ref r5, v5])), (r5, .inl (cy 1, 512, .inl (zB q0))), (gv, .inl (cy 0, 6, .inl (vA vo)))] s.heap.size) 9 p l e ({ frames := 4 * N + 4, cells := 0, slots := 0, locals := 100 * N + 100 }) s m args below meth c (MQ below (va_Qr (fun _ : va_W => True) (fun w a t => (fun (r : Nat) (w : va_W) => r = b5 ∧ ∃ vo' : Nat → Option Nat, VOk vo' ∧ w = [(b2, .inr (2, [.ref b5, .ref gv, .int (nI dom)])), (b5, .inr (5, [.ref r5, .int (nI (ct (anB (At i).1 dom (hol R T dom N i)) 512))])), (r5, .inl (cy 1, 512, .inl (zB (anB (At i).1 dom (hol R T dom N i))))), (gv, .inl (cy 0, 6, .inl (vA vo')))]) a w ∧ end_ D [(b2, .inr (2, [.ref b5, .ref gv, dm0])), (b5, .inr (5, [.ref r5, v5])), (r5, .inl (cy 1, 512, .inl (zB q0))), (gv, .inl (cy 0, 6, .inl (vA vo)))] s.heap.size w t) (va_A [(b2, .inr (2, [.ref b5, .ref gv, dm0])), (b5, .inr (5, [.ref r5, v5])), (r5, .inl (cy 1, 512, .inl (zB q0))), (gv, .inl (cy 0, 6, .inl (vA vo)))] s.heap.size)) args s 0 0 (va_A [(b2, .inr (2, [.ref b5, .ref gv, dm0])), (b5, .inr (5, [.ref r5, v5])), (r5, .inl (cy 1, 512, .inl (zB q0))), (gv, .inl (cy 0, 6, .inl (vA vo)))] s.heap.size)) [(b2, .inr (2, [.ref b5, .ref gv, .int (nI dom)])), (b5, .inr (5, [.ref r5, .int (nI (ct (anK (At i).1 dom (hol R T dom N i) k) 512))])), (r5, .inl (cy 1, 512, .inl (zB (anK (At i).1 dom (hol R T dom N i) k)))), (gv, .inl (cy 0, 6, .inl (vA vx)))] [(8, .int (nI k)), (7, .int (nI (8 ^ (ca (At i).1 2)))), (5, .long (lan (fun j => askd (At i).1 dom j))), (4, .int (nI (3 * (ca (At i).1 2)))), (3, .int (nI (nd (At i).1 3))), (0, .ref b2), (1, .ref (ad i)), (2, .int (nI dom))] 0 0 47 [] := by
    intro d
    induction d with
    | zero =>
      intro k vx hL0 hL1
      refine z_eq (ws' := [(b2, .inr (2, [.ref b5, .ref gv, .int (nI dom)])), (b5, .inr (5, [.ref r5, .int (nI (ct (anB (At i).1 dom (hol R T dom N i)) 512))])), (r5, .inl (cy 1, 512, .inl (zB (anB (At i).1 dom (hol R T dom N i))))), (gv, .inl (cy 0, 6, .inl (vA vx)))]) (lv' := [(8, .int (nI k)), (7, .int (nI (8 ^ (ca (At i).1 2)))), (5, .long (lan (fun j => askd (At i).1 dom j))), (4, .int (nI (3 * (ca (At i).1 2)))), (3, .int (nI (nd (At i).1 3))), (0, .ref b2), (1, .ref (ad i)), (2, .int (nI dom))]) (st' := []) (by rw [show k = 8 ^ ca (At i).1 2 by omega, anK_e]) rfl rfl ?_
      refine z_iload X dX2_answersOf_47 (j := 0) rfl ?_
      refine z_iload X dX2_answersOf_49 (j := 1) rfl ?_
      refine z_icmp_ge X (tgt := 90) dX2_answersOf_51 (by decide) (fun c_51 => ?_) (fun c9 => absurd (by rw [show k = 8 ^ ca (At i).1 2 by omega]; exact nI_le (Nat.le_refl _) (by omega)) c9)
      refine z_aload_n X dX2_answersOf_90 rfl (j := 5) rfl ?_
      refine z_getW X 0 (C := RX2) (T := TX2) (N := 3) inX2 rfl rfl 0 (by decide) fl_X2_12 (fun _ h9 => h9) rfl dX2_answersOf_91 ?_
      exact z_endr X (Or.inl ⟨_, rfl⟩) hr [(b2, .inr (2, [.ref b5, .ref gv, .int (nI dom)])), (b5, .inr (5, [.ref r5, .int (nI (ct (anB (At i).1 dom (hol R T dom N i)) 512))])), (r5, .inl (cy 1, 512, .inl (zB (anB (At i).1 dom (hol R T dom N i))))), (gv, .inl (cy 0, 6, .inl (vA vx)))] [0, 1, 2, 3] rfl rfl rfl ⟨rfl, vx, hL1, rfl⟩ dX2_answersOf_94
    | succ d ih =>
      intro k vx hL0 hL1
      refine z_iload X dX2_answersOf_47 (j := 0) rfl ?_
      refine z_iload X dX2_answersOf_49 (j := 1) rfl ?_
      refine z_icmp_ge X (tgt := 90) dX2_answersOf_51 (by decide) (fun c9 => absurd c9 (nI_ge (by omega) (by omega))) (fun c_51 => ?_)
      refine z_aload_n X dX2_answersOf_54 rfl (j := 5) rfl ?_
      refine z_iload_n X dX2_answersOf_55 rfl (j := 4) rfl ?_
      refine z_iload X dX2_answersOf_56 (j := 0) rfl ?_
      refine z_reti X (as := [.ref b2, .int (nI (nd (At i).1 3)), .int (nI k)]) (wc := [(gv, .inl (cy 0, 6, .inl (vA vx)))]) (wr := [(b2, .inr (2, [.ref b5, .ref gv, .int (nI dom)])), (b5, .inr (5, [.ref r5, .int (nI (ct (anK (At i).1 dom (hol R T dom N i) k) 512))])), (r5, .inl (cy 1, 512, .inl (zB (anK (At i).1 dom (hol R T dom N i) k))))]) (rest := []) (fun H9 locs9 ls9 hP9 hS9 hl9 hb9 hp9 => va_runV (As := [.int (nI (nd (At i).1 3)), .int (nI k)]) (rest := []) X.fix (m_takes l D cy (fun q => O q ∨ q ∈ ([(b2, .inr (2, [.ref b5, .ref gv, .int (nI dom)])), (b5, .inr (5, [.ref r5, .int (nI (ct (anK (At i).1 dom (hol R T dom N i) k) 512))])), (r5, .inl (cy 1, 512, .inl (zB (anK (At i).1 dom (hol R T dom N i) k))))] : va_W)) (Or.inr (List.mem_of_getElem? (i := 0) rfl)) hd (S := nd (At i).1 3) (Nat.lt_trans hO6 (by decide)) (show k < 2 ^ 31 by omega) H9.size) (cwV 2 X.hts (gV ml_X2_44 im_X2_takes se_X2_takes ni_X2 cd_X2_takes) rfl rfl rfl (by decide +kernel) ⟨by show 1 + 1 ≤ 4 * N + 4; omega, by show 8 + (5 + 11) + 21 ≤ 100 * N + 100; omega⟩) ⟨hb9, z_recvW X (q0 := 0) (ci := 2) (r := (RX2, TX2, 3)) rfl rfl hP9, hp9⟩ rfl rfl hl9.1 rfl (lv_room (Nat.le_of_ble_eq_true rfl)) dX2_answersOf_58 ⟨Nat.le_of_ble_eq_true rfl, Nat.le_of_ble_eq_true rfl⟩) [3] [0, 1, 2] rfl rfl rfl rfl rfl (by decide) (fun q h => h) (fun r1 w2 h3 => ?_)
      obtain ⟨rfl, vy, rfl, hty, htz⟩ := h3
      refine z_eq (ws' := [(b2, .inr (2, [.ref b5, .ref gv, .int (nI dom)])), (b5, .inr (5, [.ref r5, .int (nI (ct (anK (At i).1 dom (hol R T dom N i) k) 512))])), (r5, .inl (cy 1, 512, .inl (zB (anK (At i).1 dom (hol R T dom N i) k)))), (gv, .inl (cy 0, 6, .inl (vA vy)))]) (lv' := [(8, .int (nI k)), (7, .int (nI (8 ^ (ca (At i).1 2)))), (5, .long (lan (fun j => askd (At i).1 dom j))), (4, .int (nI (3 * (ca (At i).1 2)))), (3, .int (nI (nd (At i).1 3))), (0, .ref b2), (1, .ref (ad i)), (2, .int (nI dom))]) (st' := [.int (if tok (nd (At i).1 3) k dom 6 then 1 else 0)]) rfl rfl rfl ?_
      refine z_widen (k' := 0) (n' := 0) (Nat.le_refl _) (Nat.le_refl _) ?_
      refine z_if_eq X (tgt := 84) dX2_answersOf_61 (by decide) (fun c_61 => ?_) (fun c_61 => ?_)
      · skip
        have htk : tok (nd (At i).1 3) k dom 6 = false := by
          cases h9 : tok (nd (At i).1 3) k dom 6
          · rfl
          · rw [h9] at c_61; exact absurd c_61 (by decide)
        refine z_iinc X (j := 0) (v := (nI (k + 1))) (lv' := [(8, .int (nI (k + 1))), (7, .int (nI (8 ^ (ca (At i).1 2)))), (5, .long (lan (fun j => askd (At i).1 dom j))), (4, .int (nI (3 * (ca (At i).1 2)))), (3, .int (nI (nd (At i).1 3))), (0, .ref b2), (1, .ref (ad i)), (2, .int (nI dom))]) dX2_answersOf_84 rfl (nI_1 k) (by decide) rfl ?_
        refine z_goto X (tgt := 47) dX2_answersOf_87 (by decide) ?_
        refine z_eq (ws' := [(b2, .inr (2, [.ref b5, .ref gv, .int (nI dom)])), (b5, .inr (5, [.ref r5, .int (nI (ct (anK (At i).1 dom (hol R T dom N i) (k + 1)) 512))])), (r5, .inl (cy 1, 512, .inl (zB (anK (At i).1 dom (hol R T dom N i) (k + 1))))), (gv, .inl (cy 0, 6, .inl (vA vy)))]) (lv' := [(8, .int (nI (k + 1))), (7, .int (nI (8 ^ (ca (At i).1 2)))), (5, .long (lan (fun j => askd (At i).1 dom j))), (4, .int (nI (3 * (ca (At i).1 2)))), (3, .int (nI (nd (At i).1 3))), (0, .ref b2), (1, .ref (ad i)), (2, .int (nI dom))]) (st' := []) (by rw [anK_n htk]) rfl rfl ?_
        exact ih (k + 1) vy (by omega) (hL1.tkp hty)
      · skip
        have htk : tok (nd (At i).1 3) k dom 6 = true := by
          cases h9 : tok (nd (At i).1 3) k dom 6
          · rw [h9] at c_61; exact absurd rfl c_61
          · rfl
        obtain rfl := htz htk
        have hvy := hL1.tkp hty
        refine z_aload_n X dX2_answersOf_64 rfl (j := 5) rfl ?_
        refine z_aload_n X dX2_answersOf_65 rfl (j := 5) rfl ?_
        refine z_aload_n X dX2_answersOf_66 rfl (j := 6) rfl ?_
        refine z_retl X (as := [.ref b2, .ref (ad i)]) (wc := [(gv, .inl (cy 0, 6, .inl (vA (tst (nd (At i).1 3) k vx 0))))]) (wr := [(b2, .inr (2, [.ref b5, .ref gv, .int (nI dom)])), (b5, .inr (5, [.ref r5, .int (nI (ct (anK (At i).1 dom (hol R T dom N i) k) 512))])), (r5, .inl (cy 1, 512, .inl (zB (anK (At i).1 dom (hol R T dom N i) k))))]) (rest := [.ref b2]) (fun H9 locs9 ls9 hP9 hS9 hl9 hb9 hp9 => va_runV (As := [.ref (ad i)]) (rest := [.ref b2]) X.fix (m_holding l D cy (fun q => O q ∨ q ∈ ([(b2, .inr (2, [.ref b5, .ref gv, .int (nI dom)])), (b5, .inr (5, [.ref r5, .int (nI (ct (anK (At i).1 dom (hol R T dom N i) k) 512))])), (r5, .inl (cy 1, 512, .inl (zB (anK (At i).1 dom (hol R T dom N i) k))))] : va_W)) (Or.inr (List.mem_of_getElem? (i := 0) rfl)) hd (hW.mono fun q h => Or.inl h) N (Nat.le_refl N) i hi _ hvy.1 (hvy.asg _) H9.size) (cwV 1 X.hts (gV ml_X2_48 im_X2_holding se_X2_holding ni_X2 cd_X2_holding) rfl rfl rfl (by decide +kernel) ⟨by show 4 * N + 1 ≤ 4 * N + 4; omega, by show 8 + (4 + 11) + 100 * N ≤ 100 * N + 100; omega⟩) ⟨hb9, z_recvW X (q0 := 0) (ci := 2) (r := (RX2, TX2, 3)) rfl rfl hP9, hp9⟩ rfl rfl hl9.1 rfl (lv_room (Nat.le_of_ble_eq_true rfl)) dX2_answersOf_67 ⟨Nat.le_of_ble_eq_true rfl, Nat.le_of_ble_eq_true rfl⟩) [3] [0, 1, 2] rfl rfl rfl rfl rfl (by decide) (fun q h => h) (fun r4 w5 h6 => ?_)
        obtain ⟨rfl, rfl⟩ := h6
        refine z_eq (ws' := [(b2, .inr (2, [.ref b5, .ref gv, .int (nI dom)])), (b5, .inr (5, [.ref r5, .int (nI (ct (anK (At i).1 dom (hol R T dom N i) k) 512))])), (r5, .inl (cy 1, 512, .inl (zB (anK (At i).1 dom (hol R T dom N i) k)))), (gv, .inl (cy 0, 6, .inl (vA (tst (nd (At i).1 3) k vx 0))))]) (lv' := [(8, .int (nI k)), (7, .int (nI (8 ^ (ca (At i).1 2)))), (5, .long (lan (fun j => askd (At i).1 dom j))), (4, .int (nI (3 * (ca (At i).1 2)))), (3, .int (nI (nd (At i).1 3))), (0, .ref b2), (1, .ref (ad i)), (2, .int (nI dom))]) (st' := [.long (lan (fun j => hol R T dom N i (fun v => vl (tst (nd (At i).1 3) k vx 0) v j))), .ref b2]) rfl rfl rfl ?_
        refine z_widen (k' := 0) (n' := 0) (Nat.le_refl _) (Nat.le_refl _) ?_
        refine z_lload X dX2_answersOf_70 (j := 2) rfl ?_
        have hjj : ∀ j, j < 64 → (hol R T dom N i (fun v => vl (tst (nd (At i).1 3) k vx 0) v j) && askd (At i).1 dom j) = (fun j => askd (At i).1 dom j && (hol R T dom N i) (fun v => dgt (At i).1 (lr (At i).1 j * 8 ^ (ca (At i).1 2) + k) v)) j := by
          intro j hj
          cases hA : askd (At i).1 dom j
          · simp only [hA]; simp
          · obtain ⟨l1, l0, l2⟩ := lane_ok hj hA
            have hk8 : k < 8 ^ ca (At i).1 2 := by omega
            rw [show hol R T dom N i (fun v => vl (tst (nd (At i).1 3) k vx 0) v j) = hol R T dom N i (fun v => dgt (At i).1 (lr (At i).1 j * 8 ^ (ca (At i).1 2) + k) v) from hol_ext (fun i hi => (hW.2 i hi).2) N (Nat.le_refl N) i hi _ _ (fun v h6 hb => ?_)]
            · simp only [hA]; simp
            · rcases Nat.lt_or_ge v 2 with h2 | h2
              · rcases (show v = 0 ∨ v = 1 by omega) with rfl | rfl
                · rw [dgt_0 hk8, (l0 hb).1]; rfl
                · rw [dgt_1 hk8, (l1 hb).1]; rfl
              · rw [dgt_hi hb h2 h6]
                show (if v < 2 then ld v j else (tst (nd (At i).1 3) k vx 0 v).getD 0) = _
                rw [if_neg (by omega), tst, if_pos ⟨Nat.zero_le _, h6, by rw [nd3, hb]; simp [show ¬ v < 2 by omega]⟩]; rfl
        refine z_land X (v := (lan (fun j => askd (At i).1 dom j && (hol R T dom N i) (fun v => dgt (At i).1 (lr (At i).1 j * 8 ^ (ca (At i).1 2) + k) v)))) dX2_answersOf_72 (by rw [lan_and]; exact lan_ext fun j hj => hjj j hj) ?_
        refine z_aload_n X dX2_answersOf_73 rfl (j := 6) rfl ?_
        refine z_getO X (ci := 1) (C := RX1) (T := TX1) (N := 13) inX1 hF rfl 6 (by decide) fl_X2_29 (fun _ h9 => h9) rfl dX2_answersOf_74 ?_
        refine z_iload X dX2_answersOf_77 (j := 3) rfl ?_
        refine z_iload X dX2_answersOf_79 (j := 0) rfl ?_
        have hok : ∀ j, j < 64 → (fun j => askd (At i).1 dom j && (hol R T dom N i) (fun v => dgt (At i).1 (lr (At i).1 j * 8 ^ (ca (At i).1 2) + k) v)) j = true → lrow (At i).1 (3 * (ca (At i).1 2)) k j < 512 := by
          intro j hj hq
          rw [lrow_lr hp8]
          simp only [Bool.and_eq_true] at hq
          obtain ⟨l1, l0, l2⟩ := lane_ok hj hq.1
          have h5 : (lr (At i).1 j + 1) * 8 ^ ca (At i).1 2 ≤ 8 ^ ct (At i).1.testBit 2 * 8 ^ ca (At i).1 2 := Nat.mul_le_mul_right _ l2
          rw [← Nat.pow_add, ca_2, Nat.succ_mul] at h5
          have h6 : 8 ^ ct (At i).1.testBit 6 ≤ 8 ^ 3 := Nat.pow_le_pow_right (by decide) h3
          omega
        refine z_retv X (as := [.ref b2, .long (lan (fun j => askd (At i).1 dom j && (hol R T dom N i) (fun v => dgt (At i).1 (lr (At i).1 j * 8 ^ (ca (At i).1 2) + k) v))), .int (nI (At i).1), .int (nI (3 * (ca (At i).1 2))), .int (nI k)]) (wc := [(b5, .inr (5, [.ref r5, .int (nI (ct (anK (At i).1 dom (hol R T dom N i) k) 512))])), (r5, .inl (cy 1, 512, .inl (zB (anK (At i).1 dom (hol R T dom N i) k))))]) (wr := [(b2, .inr (2, [.ref b5, .ref gv, .int (nI dom)])), (gv, .inl (cy 0, 6, .inl (vA (tst (nd (At i).1 3) k vx 0))))]) (rest := []) (fun H9 locs9 ls9 hP9 hS9 hl9 hb9 hp9 => va_runV (As := [.long (lan (fun j => askd (At i).1 dom j && (hol R T dom N i) (fun v => dgt (At i).1 (lr (At i).1 j * 8 ^ (ca (At i).1 2) + k) v))), .int (nI (At i).1), .int (nI (3 * (ca (At i).1 2))), .int (nI k)]) (rest := []) X.fix (m_include l D cy (fun q => O q ∨ q ∈ ([(b2, .inr (2, [.ref b5, .ref gv, .int (nI dom)]))] : va_W)) (Or.inr (List.mem_of_getElem? (i := 0) rfl)) (fr := (At i).1) (ob := 3 * (ca (At i).1 2)) (row := k) (q := (fun j => askd (At i).1 dom j && (hol R T dom N i) (fun v => dgt (At i).1 (lr (At i).1 j * 8 ^ (ca (At i).1 2) + k) v))) (qs := (anK (At i).1 dom (hol R T dom N i) k)) (Nat.lt_trans hS6 (by decide)) (by omega) (by rw [hp8]; omega) (fun j hj hq => hok j hj hq) H9.size) (cwV 4 X.hts (gV ml_X2_52 im_X2_include se_X2_include ni_X2 cd_X2_include) rfl rfl rfl (by decide +kernel) ⟨by show 2 + 1 ≤ 4 * N + 4; omega, by show 8 + (13 + 11) + 43 ≤ 100 * N + 100; omega⟩) ⟨hb9, z_recvW X (q0 := 0) (ci := 2) (r := (RX2, TX2, 3)) rfl rfl hP9, hp9⟩ rfl rfl hl9.1 rfl (lv_room (Nat.le_of_ble_eq_true rfl)) dX2_answersOf_81 ⟨Nat.le_of_ble_eq_true rfl, Nat.le_of_ble_eq_true rfl⟩) [1, 2] [0, 3] rfl rfl rfl rfl rfl (by decide) (fun q h => h.elim Or.inl (fun z => Or.inr (List.mem_of_getElem? (i := 0) (by rw [List.mem_singleton.mp z]; rfl)))) (fun w8 h9 => ?_)
        subst h9
        rw [show lrow (At i).1 (3 * ca (At i).1 2) k = (fun j => lr (At i).1 j * 8 ^ ca (At i).1 2 + k) from funext fun j => lrow_lr hp8]
        refine z_eq (ws' := [(b2, .inr (2, [.ref b5, .ref gv, .int (nI dom)])), (gv, .inl (cy 0, 6, .inl (vA (tst (nd (At i).1 3) k vx 0)))), (b5, .inr (5, [.ref r5, .int (nI (ct (incs (anK (At i).1 dom (hol R T dom N i) k) (fun j => askd (At i).1 dom j && (hol R T dom N i) (fun v => dgt (At i).1 (lr (At i).1 j * 8 ^ (ca (At i).1 2) + k) v)) (fun j => lr (At i).1 j * 8 ^ (ca (At i).1 2) + k) 64) 512))])), (r5, .inl (cy 1, 512, .inl (zB (incs (anK (At i).1 dom (hol R T dom N i) k) (fun j => askd (At i).1 dom j && (hol R T dom N i) (fun v => dgt (At i).1 (lr (At i).1 j * 8 ^ (ca (At i).1 2) + k) v)) (fun j => lr (At i).1 j * 8 ^ (ca (At i).1 2) + k) 64))))]) (lv' := [(8, .int (nI k)), (7, .int (nI (8 ^ (ca (At i).1 2)))), (5, .long (lan (fun j => askd (At i).1 dom j))), (4, .int (nI (3 * (ca (At i).1 2)))), (3, .int (nI (nd (At i).1 3))), (0, .ref b2), (1, .ref (ad i)), (2, .int (nI dom))]) (st' := []) rfl rfl rfl ?_
        refine z_widen (k' := 0) (n' := 0) (Nat.le_refl _) (Nat.le_refl _) ?_
        refine z_iinc X (j := 0) (v := (nI (k + 1))) (lv' := [(8, .int (nI (k + 1))), (7, .int (nI (8 ^ (ca (At i).1 2)))), (5, .long (lan (fun j => askd (At i).1 dom j))), (4, .int (nI (3 * (ca (At i).1 2)))), (3, .int (nI (nd (At i).1 3))), (0, .ref b2), (1, .ref (ad i)), (2, .int (nI dom))]) dX2_answersOf_84 rfl (nI_1 k) (by decide) rfl ?_
        refine z_goto X (tgt := 47) dX2_answersOf_87 (by decide) ?_
        refine z_ws (ws' := [(b2, .inr (2, [.ref b5, .ref gv, .int (nI dom)])), (b5, .inr (5, [.ref r5, .int (nI (ct (incs (anK (At i).1 dom (hol R T dom N i) k) (fun j => askd (At i).1 dom j && (hol R T dom N i) (fun v => dgt (At i).1 (lr (At i).1 j * 8 ^ (ca (At i).1 2) + k) v)) (fun j => lr (At i).1 j * 8 ^ (ca (At i).1 2) + k) 64) 512))])), (r5, .inl (cy 1, 512, .inl (zB (incs (anK (At i).1 dom (hol R T dom N i) k) (fun j => askd (At i).1 dom j && (hol R T dom N i) (fun v => dgt (At i).1 (lr (At i).1 j * 8 ^ (ca (At i).1 2) + k) v)) (fun j => lr (At i).1 j * 8 ^ (ca (At i).1 2) + k) 64)))), (gv, .inl (cy 0, 6, .inl (vA (tst (nd (At i).1 3) k vx 0))))]) [0, 2, 3, 1] rfl rfl rfl ?_
        refine z_eq (ws' := [(b2, .inr (2, [.ref b5, .ref gv, .int (nI dom)])), (b5, .inr (5, [.ref r5, .int (nI (ct (anK (At i).1 dom (hol R T dom N i) (k + 1)) 512))])), (r5, .inl (cy 1, 512, .inl (zB (anK (At i).1 dom (hol R T dom N i) (k + 1))))), (gv, .inl (cy 0, 6, .inl (vA (tst (nd (At i).1 3) k vx 0))))]) (lv' := [(8, .int (nI (k + 1))), (7, .int (nI (8 ^ (ca (At i).1 2)))), (5, .long (lan (fun j => askd (At i).1 dom j))), (4, .int (nI (3 * (ca (At i).1 2)))), (3, .int (nI (nd (At i).1 3))), (0, .ref b2), (1, .ref (ad i)), (2, .int (nI dom))]) (st' := []) (by rw [← anK_s htk]) rfl rfl ?_
        exact ih (k + 1) (tst (nd (At i).1 3) k vx 0) (by omega) (hL1.tkp hty)
  refine z_aload_n X dX2_answersOf_0 rfl (j := 0) rfl ?_
  refine z_iload_n X dX2_answersOf_1 rfl (j := 2) rfl ?_
  refine z_putW X 0 (C := RX2) (T := TX2) (N := 3) inX2 tyX2 tyX2_ok nmX2 rfl rfl 2 (by decide) fl_X2_22 (fun _ h9 => h9) rfl (ty := .int) (by decide +kernel) rfl rfl (Nat.le_of_ble_eq_true rfl) (ws' := [(b2, .inr (2, [.ref b5, .ref gv, .int (nI dom)])), (b5, .inr (5, [.ref r5, v5])), (r5, .inl (cy 1, 512, .inl (zB q0))), (gv, .inl (cy 0, 6, .inl (vA vo)))]) rfl dX2_answersOf_2 ?_
  refine z_aload_n X dX2_answersOf_5 rfl (j := 0) rfl ?_
  refine z_getW X 0 (C := RX2) (T := TX2) (N := 3) inX2 rfl rfl 0 (by decide) fl_X2_12 (fun _ h9 => h9) rfl dX2_answersOf_6 ?_
  refine z_retv X (as := [.ref b5]) (wc := [(b5, .inr (5, [.ref r5, v5])), (r5, .inl (cy 1, 512, .inl (zB q0)))]) (wr := [(b2, .inr (2, [.ref b5, .ref gv, .int (nI dom)])), (gv, .inl (cy 0, 6, .inl (vA vo)))]) (rest := []) (fun H9 locs9 ls9 hP9 hS9 hl9 hb9 hp9 => va_runV (As := []) (rest := []) X.fix (m_clear l D cy O (b5 := b5) (r5 := r5) hq0 H9.size) (cwV 0 X.hts (gV ml_X2_26 im_X5_clear se_X5_clear ni_X5 cd_X5_clear) rfl rfl rfl (by decide +kernel) ⟨by show 0 + 1 ≤ 4 * N + 4; omega, by show 8 + (2 + 11) + 0 ≤ 100 * N + 100; omega⟩) ⟨hb9, z_recvW X (q0 := 1) (ci := 5) (r := (RX5, TX5, 2)) rfl rfl hP9, hp9⟩ rfl rfl hl9.1 rfl (lv_room (Nat.le_of_ble_eq_true rfl)) dX2_answersOf_9 ⟨Nat.le_of_ble_eq_true rfl, Nat.le_of_ble_eq_true rfl⟩) [1, 2] [0, 3] rfl rfl rfl rfl rfl (by decide) (fun _ h => Or.inl h) (fun w11 h12 => ?_)
  subst h12
  refine z_eq (ws' := [(b2, .inr (2, [.ref b5, .ref gv, .int (nI dom)])), (gv, .inl (cy 0, 6, .inl (vA vo))), (b5, .inr (5, [.ref r5, .int (nI (ct (fun _ => false) 512))])), (r5, .inl (cy 1, 512, .inl (zB (fun _ => false))))]) (lv' := [(0, .ref b2), (1, .ref (ad i)), (2, .int (nI dom))]) (st' := []) rfl rfl rfl ?_
  refine z_widen (k' := 0) (n' := 0) (Nat.le_refl _) (Nat.le_refl _) ?_
  refine z_aload_n X dX2_answersOf_12 rfl (j := 1) rfl ?_
  refine z_getO X (ci := 1) (C := RX1) (T := TX1) (N := 13) inX1 hF rfl 6 (by decide) fl_X2_29 (fun _ h9 => h9) rfl dX2_answersOf_13 ?_
  refine z_bipush X (v := (-4)) dX2_answersOf_16 (by decide) ?_
  refine z_iand X (v := (nI (nd (At i).1 3))) dX2_answersOf_18 (nI_nd _ 3) ?_
  refine z_istore_n X (lv' := [(3, .int (nI (nd (At i).1 3))), (0, .ref b2), (1, .ref (ad i)), (2, .int (nI dom))]) dX2_answersOf_19 rfl (by decide) rfl ?_
  refine z_iconst X (v := 3) dX2_answersOf_20 (by decide) ?_
  refine z_iload_n X dX2_answersOf_21 rfl (j := 0) rfl ?_
  refine z_reti X (as := [.int (nI (nd (At i).1 3))]) (wc := []) (wr := [(b2, .inr (2, [.ref b5, .ref gv, .int (nI dom)])), (gv, .inl (cy 0, 6, .inl (vA vo))), (b5, .inr (5, [.ref r5, .int (nI (ct (fun _ => false) 512))])), (r5, .inl (cy 1, 512, .inl (zB (fun _ => false))))]) (rest := [.int 3]) (fun H9 locs9 ls9 hP9 hS9 hl9 hb9 hp9 => va_runS (As := [.int (nI (nd (At i).1 3))]) (rest := [.int 3]) X.fix (m_ibits l D cy O (n9 := nd (At i).1 3) (Nat.lt_trans hO6 (by decide)) H9.size) (va_cwS 1 X.hts (gS ml_X2_34 sm_J6_bitCount_0f7a4 ni_J6 cd_J6_bitCount_0f7a4) rfl rfl rfl (by decide +kernel) ⟨by show 0 + 1 ≤ 4 * N + 4; omega, by show 8 + (1 + 11) + 0 ≤ 100 * N + 100; omega⟩) ⟨hb9, hp9⟩ rfl rfl hl9.1 rfl (lv_room (Nat.le_of_ble_eq_true rfl)) dX2_answersOf_22 ⟨Nat.le_of_ble_eq_true rfl, Nat.le_of_ble_eq_true rfl⟩) [] [0, 1, 2, 3] rfl rfl rfl rfl rfl (by decide) (fun _ h => Or.inl h) (fun r13 w14 h15 => ?_)
  obtain ⟨rfl, rfl⟩ := h15
  rw [ct_32 hO6 (show 6 ≤ 32 by decide), ct_nd3]
  refine z_eq (ws' := [(b2, .inr (2, [.ref b5, .ref gv, .int (nI dom)])), (gv, .inl (cy 0, 6, .inl (vA vo))), (b5, .inr (5, [.ref r5, .int (nI (ct (fun _ => false) 512))])), (r5, .inl (cy 1, 512, .inl (zB (fun _ => false))))]) (lv' := [(3, .int (nI (nd (At i).1 3))), (0, .ref b2), (1, .ref (ad i)), (2, .int (nI dom))]) (st' := [.int (nI (ca (At i).1 2)), .int 3]) rfl rfl rfl ?_
  refine z_widen (k' := 0) (n' := 0) (Nat.le_refl _) (Nat.le_refl _) ?_
  refine z_imul X (v := (nI (3 * (ca (At i).1 2)))) dX2_answersOf_25 (pk_mul 3 (ca (At i).1 2)) ?_
  refine z_istore X (lv' := [(4, .int (nI (3 * (ca (At i).1 2)))), (3, .int (nI (nd (At i).1 3))), (0, .ref b2), (1, .ref (ad i)), (2, .int (nI dom))]) dX2_answersOf_26 (by decide) rfl ?_
  refine z_aload_n X dX2_answersOf_28 rfl (j := 2) rfl ?_
  refine z_aload_n X dX2_answersOf_29 rfl (j := 3) rfl ?_
  refine z_getO X (ci := 1) (C := RX1) (T := TX1) (N := 13) inX1 hF rfl 6 (by decide) fl_X2_29 (fun _ h9 => h9) rfl dX2_answersOf_30 ?_
  refine z_retl X (as := [.ref b2, .int (nI (At i).1)]) (wc := []) (wr := [(b2, .inr (2, [.ref b5, .ref gv, .int (nI dom)])), (gv, .inl (cy 0, 6, .inl (vA vo))), (b5, .inr (5, [.ref r5, .int (nI (ct (fun _ => false) 512))])), (r5, .inl (cy 1, 512, .inl (zB (fun _ => false))))]) (rest := []) (fun H9 locs9 ls9 hP9 hS9 hl9 hb9 hp9 => va_runV (As := [.int (nI (At i).1)]) (rest := []) X.fix (m_asked l D cy (fun q => O q ∨ q ∈ ([(b2, .inr (2, [.ref b5, .ref gv, .int (nI dom)]))] : va_W)) (Or.inr (List.mem_of_getElem? (i := 0) rfl)) hd (fr := (At i).1) (Nat.lt_trans hS6 (by decide)) H9.size) (cwV 1 X.hts (gV ml_X2_40 im_X2_asked se_X2_asked ni_X2 cd_X2_asked) rfl rfl rfl (by decide +kernel) ⟨by show 2 + 1 ≤ 4 * N + 4; omega, by show 8 + (2 + 11) + 45 ≤ 100 * N + 100; omega⟩) ⟨hb9, z_recvW X (q0 := 0) (ci := 2) (r := (RX2, TX2, 3)) rfl rfl hP9, hp9⟩ rfl rfl hl9.1 rfl (lv_room (Nat.le_of_ble_eq_true rfl)) dX2_answersOf_33 ⟨Nat.le_of_ble_eq_true rfl, Nat.le_of_ble_eq_true rfl⟩) [] [0, 1, 2, 3] rfl rfl rfl rfl rfl (by decide) (fun q h => h.elim Or.inl (fun z => Or.inr (List.mem_of_getElem? (i := 0) (by rw [List.mem_singleton.mp z]; rfl)))) (fun r16 w17 h18 => ?_)
  obtain ⟨rfl, rfl⟩ := h18
  refine z_eq (ws' := [(b2, .inr (2, [.ref b5, .ref gv, .int (nI dom)])), (gv, .inl (cy 0, 6, .inl (vA vo))), (b5, .inr (5, [.ref r5, .int (nI (ct (fun _ => false) 512))])), (r5, .inl (cy 1, 512, .inl (zB (fun _ => false))))]) (lv' := [(4, .int (nI (3 * (ca (At i).1 2)))), (3, .int (nI (nd (At i).1 3))), (0, .ref b2), (1, .ref (ad i)), (2, .int (nI dom))]) (st' := [.long (lan (fun j => askd (At i).1 dom j))]) rfl rfl rfl ?_
  refine z_widen (k' := 0) (n' := 0) (Nat.le_refl _) (Nat.le_refl _) ?_
  refine z_lstore X (lv' := [(5, .long (lan (fun j => askd (At i).1 dom j))), (4, .int (nI (3 * (ca (At i).1 2)))), (3, .int (nI (nd (At i).1 3))), (0, .ref b2), (1, .ref (ad i)), (2, .int (nI dom))]) dX2_answersOf_36 (by decide) rfl ?_
  refine z_iconst X (v := 1) dX2_answersOf_38 (by decide) ?_
  refine z_iload X dX2_answersOf_39 (j := 1) rfl ?_
  refine z_ishl X (v := (nI (8 ^ (ca (At i).1 2)))) dX2_answersOf_41 (by rw [shl_1 _ (by omega), hp8]) ?_
  refine z_istore X (lv' := [(7, .int (nI (8 ^ (ca (At i).1 2)))), (5, .long (lan (fun j => askd (At i).1 dom j))), (4, .int (nI (3 * (ca (At i).1 2)))), (3, .int (nI (nd (At i).1 3))), (0, .ref b2), (1, .ref (ad i)), (2, .int (nI dom))]) dX2_answersOf_42 (by decide) rfl ?_
  refine z_iconst X (v := 0) dX2_answersOf_44 (by decide) ?_
  refine z_istore X (lv' := [(8, .int 0), (7, .int (nI (8 ^ (ca (At i).1 2)))), (5, .long (lan (fun j => askd (At i).1 dom j))), (4, .int (nI (3 * (ca (At i).1 2)))), (3, .int (nI (nd (At i).1 3))), (0, .ref b2), (1, .ref (ad i)), (2, .int (nI dom))]) dX2_answersOf_45 (by decide) rfl ?_
  refine z_lv [0, 1, 2, 3, 4, 5, 6, 7] (lv' := [(8, .int 0), (7, .int (nI (8 ^ (ca (At i).1 2)))), (5, .long (lan (fun j => askd (At i).1 dom j))), (4, .int (nI (3 * (ca (At i).1 2)))), (3, .int (nI (nd (At i).1 3))), (0, .ref b2), (1, .ref (ad i)), (2, .int (nI dom))]) rfl ?_
  refine z_ws (ws' := [(b2, .inr (2, [.ref b5, .ref gv, .int (nI dom)])), (b5, .inr (5, [.ref r5, .int (nI (ct (fun _ => false) 512))])), (r5, .inl (cy 1, 512, .inl (zB (fun _ => false)))), (gv, .inl (cy 0, 6, .inl (vA vo)))]) [0, 2, 3, 1] rfl rfl rfl ?_
  refine z_eq (ws' := [(b2, .inr (2, [.ref b5, .ref gv, .int (nI dom)])), (b5, .inr (5, [.ref r5, .int (nI (ct (anK (At i).1 dom (hol R T dom N i) 0) 512))])), (r5, .inl (cy 1, 512, .inl (zB (anK (At i).1 dom (hol R T dom N i) 0)))), (gv, .inl (cy 0, 6, .inl (vA vo)))]) (lv' := [(8, .int (nI 0)), (7, .int (nI (8 ^ (ca (At i).1 2)))), (5, .long (lan (fun j => askd (At i).1 dom j))), (4, .int (nI (3 * (ca (At i).1 2)))), (3, .int (nI (nd (At i).1 3))), (0, .ref b2), (1, .ref (ad i)), (2, .int (nI dom))]) (st' := []) rfl rfl rfl ?_
  exact L (8 ^ (ca (At i).1 2)) 0 vo (by omega) hvo
