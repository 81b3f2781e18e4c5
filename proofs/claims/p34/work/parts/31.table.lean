/-! the tables and their cells; holding of every formula of the table -/
/-- the relation r at b: places, how many, rows -/
def RlO (O : Nat × va_E → Prop) (cy : Nat → ClassId) (b : Nat) (r : RRow) : Prop := ∃ (ar ah ak : Nat) (hv kv : Nat → Nat), O (b, .inr (4, [.int (nI r.1), .ref ar, .int (nI r.2.1), .int (nI (vls r.1 r.2.1 r.2.2)), .ref ah, .ref ak])) ∧ O (ar, .inl (cy 0, 25, .inl (nA r.2.2))) ∧ O (ah, .inl (cy 0, 24, .inl (nA hv))) ∧ O (ak, .inl (cy 0, 3, .inl (nA kv))) ∧ HvK r.1 r.2.1 r.2.2 hv kv ∧ 1 ≤ r.1 ∧ r.1 ≤ 3 ∧ r.2.1 ≤ 24 ∧ ∀ j, j < 25 → r.2.2 j < 512
def TmO (O : Nat × va_E → Prop) (cy : Nat → ClassId) (tm n : Nat) (t : Nat → Nat) : Prop := ∃ (ta : Nat) (Tf : Nat → Int32), O (tm, .inr (7, [.int (nI n), .ref ta, .int (nI (vsf t n)), .int (nI (vlf t n))])) ∧ O (ta, .inl (cy 0, 3, .inl Tf)) ∧ ∀ k, k < n → Tf k = nI (t k) ∧ isT (t k)
def AtO (O : Nat × va_E → Prop) (cy : Nat → ClassId) (b at_ P : Nat) (t : Nat → Nat) : Prop := ∃ tm : Nat, O (at_, .inr (0, [.ref b, .ref tm])) ∧ TmO O cy tm P t
/-- the cell of formula i, at ad i, and what it names -/
def FcO (O : Nat × va_E → Prop) (cy : Nat → ClassId) (R : Nat → RRow) (rb : Nat → Nat) (T : Nat → TRow) (At : Nat → TAtt) (ad : Nat → Nat) (i : Nat) : Prop := ∃ (p1 p2 p3 p4 : Value) (vv : Int32), O (ad i, .inr (1, [.int (nI (T i).1), p1, p2, p3, p4, .int vv, .int (nI (At i).1), .int (nI (At i).2.1), .int (nI (At i).2.2.1), .int (nI (At i).2.2.2.1), .int (nI (At i).2.2.2.2.1), .int (nI (At i).2.2.2.2.2.1), .int (oI (At i).2.2.2.2.2.2)])) ∧
  ((T i).1 = 0 → ∃ at_, p1 = .ref at_ ∧ AtO O cy (rb (T i).2.2.2.2.1) at_ (R (T i).2.2.2.2.1).1 (T i).2.2.2.2.2) ∧
  ((T i).1 = 1 → ∃ tm, p2 = .ref tm ∧ TmO O cy tm 2 (T i).2.2.2.2.2) ∧
  (2 ≤ (T i).1 → p3 = .ref (ad (T i).2.1)) ∧
  ((T i).1 = 3 ∨ (T i).1 = 4 → p4 = .ref (ad (T i).2.2.1)) ∧
  (5 ≤ (T i).1 → vv = nI (T i).2.2.2.1)
/-- what passedOn(u) of the formula a tells -/
def pso (T : Nat → TRow) (a u : Nat) : Nat := if (T a).1 = 1 ∧ vlf (T a).2.2.2.2.2 2 = 0 ∧ vsf (T a).2.2.2.2.2 2 &&& u ≠ 0 then vsf (T a).2.2.2.2.2 2 else 0
/-- row i is a formula over smaller numbers, and its numbers are what the document says -/
def Gd (R : Nat → RRow) (rc : Nat) (T : Nat → TRow) (At : Nat → TAtt) (i : Nat) : Prop :=
  ((T i).1 = 0 ∧ (T i).2.2.2.2.1 < rc ∧ (∀ k, k < (R (T i).2.2.2.2.1).1 → isT ((T i).2.2.2.2.2 k)) ∧ At i = (vsf (T i).2.2.2.2.2 (R (T i).2.2.2.2.1).1, 0, 1, vsf (T i).2.2.2.2.2 (R (T i).2.2.2.2.1).1, 0, vlf (T i).2.2.2.2.2 (R (T i).2.2.2.2.1).1, none)) ∨
  ((T i).1 = 1 ∧ (∀ k, k < 2 → isT ((T i).2.2.2.2.2 k)) ∧ At i = (vsf (T i).2.2.2.2.2 2, 0, 1, (if vlf (T i).2.2.2.2.2 2 = 0 then 0 else vsf (T i).2.2.2.2.2 2), 0, vlf (T i).2.2.2.2.2 2, none)) ∨
  ((T i).1 = 2 ∧ (T i).2.1 < i ∧ At i = ((At (T i).2.1).1, (At (T i).2.1).2.1, 1 + (At (T i).2.1).2.2.1, (At (T i).2.1).2.2.2.2.1, (At (T i).2.1).2.2.2.1, (At (T i).2.1).2.2.2.2.2.1, (At (T i).2.1).2.2.2.2.2.2)) ∨
  ((T i).1 = 3 ∧ (T i).2.1 < i ∧ (T i).2.2.1 < i ∧ At i = ((At (T i).2.1).1 ||| (At (T i).2.2.1).1, max (At (T i).2.1).2.1 (At (T i).2.2.1).2.1, 1 + (At (T i).2.1).2.2.1 + (At (T i).2.2.1).2.2.1, (At (T i).2.1).2.2.2.1 ||| (At (T i).2.2.1).2.2.2.1 ||| pso T (T i).2.1 ((At (T i).2.1).2.2.2.1 ||| (At (T i).2.2.1).2.2.2.1) ||| pso T (T i).2.2.1 ((At (T i).2.1).2.2.2.1 ||| (At (T i).2.2.1).2.2.2.1), (At (T i).2.1).2.2.2.2.1 &&& (At (T i).2.2.1).2.2.2.2.1, (At (T i).2.1).2.2.2.2.2.1 ||| (At (T i).2.2.1).2.2.2.2.2.1, lo2 (At (T i).2.1).2.2.2.2.2.2 (At (T i).2.2.1).2.2.2.2.2.2)) ∨
  ((T i).1 = 4 ∧ (T i).2.1 < i ∧ (T i).2.2.1 < i ∧ At i = ((At (T i).2.1).1 ||| (At (T i).2.2.1).1, max (At (T i).2.1).2.1 (At (T i).2.2.1).2.1, 1 + (At (T i).2.1).2.2.1 + (At (T i).2.2.1).2.2.1, (At (T i).2.1).2.2.2.1 &&& (At (T i).2.2.1).2.2.2.1, (At (T i).2.1).2.2.2.2.1 ||| (At (T i).2.2.1).2.2.2.2.1, (At (T i).2.1).2.2.2.2.2.1 ||| (At (T i).2.2.1).2.2.2.2.2.1, lo2 (At (T i).2.1).2.2.2.2.2.2 (At (T i).2.2.1).2.2.2.2.2.2)) ∨
  ((T i).1 = 5 ∧ (T i).2.1 < i ∧ (T i).2.2.2.1 < 6 ∧ At i = (nd (At (T i).2.1).1 (2 ^ (T i).2.2.2.1), 1 + (At (T i).2.1).2.1, 1 + (At (T i).2.1).2.2.1, nd (At (T i).2.1).2.2.2.1 (2 ^ (T i).2.2.2.1), 0, (At (T i).2.1).2.2.2.2.2.1, loQ (At (T i).2.1).2.2.2.2.2.2 (!(At (T i).2.1).2.2.2.1.testBit (T i).2.2.2.1) i)) ∨
  ((T i).1 = 6 ∧ (T i).2.1 < i ∧ (T i).2.2.2.1 < 6 ∧ At i = (nd (At (T i).2.1).1 (2 ^ (T i).2.2.2.1), 1 + (At (T i).2.1).2.1, 1 + (At (T i).2.1).2.2.1, 0, nd (At (T i).2.1).2.2.2.2.1 (2 ^ (T i).2.2.2.1), (At (T i).2.1).2.2.2.2.2.1, loQ (At (T i).2.1).2.2.2.2.2.2 (!(At (T i).2.1).2.2.2.2.1.testBit (T i).2.2.2.1) i))
/-- the formulas' world: relations and formulas, their cells and their numbers -/
def FW (O : Nat × va_E → Prop) (cy : Nat → ClassId) (R : Nat → RRow) (rc : Nat) (rb : Nat → Nat) (T : Nat → TRow) (At : Nat → TAtt) (ad : Nat → Nat) (N : Nat) : Prop := (∀ j, j < rc → RlO O cy (rb j) (R j)) ∧ ∀ i, i < N → FcO O cy R rb T At ad i ∧ Gd R rc T At i
theorem or_bit {a b v : Nat} : (a ||| b).testBit v = true ↔ a.testBit v = true ∨ b.testBit v = true := by rw [Nat.testBit_or, Bool.or_eq_true]
theorem hol_0 {R : Nat → RRow} {T : Nat → TRow} {dom n i : Nat} {val : Nat → Nat} (h : (T i).1 = 0) : hol R T dom (n + 1) i val = exB (fun k => rok (R (T i).2.2.2.2.1).1 ((R (T i).2.2.2.2.1).2.2 k) (fun u => tv val ((T i).2.2.2.2.2 u)) (R (T i).2.2.2.2.1).1) (R (T i).2.2.2.2.1).2.1 := by rw [hol, if_pos h]
theorem hol_1 {R : Nat → RRow} {T : Nat → TRow} {dom n i : Nat} {val : Nat → Nat} (h : (T i).1 = 1) : hol R T dom (n + 1) i val = decide (tv val ((T i).2.2.2.2.2 0) = tv val ((T i).2.2.2.2.2 1)) := by rw [hol, if_neg (by omega), if_pos h]
theorem hol_2 {R : Nat → RRow} {T : Nat → TRow} {dom n i : Nat} {val : Nat → Nat} (h : (T i).1 = 2) : hol R T dom (n + 1) i val = !hol R T dom n (T i).2.1 val := by rw [hol, if_neg (by omega), if_neg (by omega), if_pos h]
theorem hol_3 {R : Nat → RRow} {T : Nat → TRow} {dom n i : Nat} {val : Nat → Nat} (h : (T i).1 = 3) : hol R T dom (n + 1) i val = (hol R T dom n (T i).2.1 val && hol R T dom n (T i).2.2.1 val) := by rw [hol, if_neg (by omega), if_neg (by omega), if_neg (by omega), if_pos h]
theorem hol_4 {R : Nat → RRow} {T : Nat → TRow} {dom n i : Nat} {val : Nat → Nat} (h : (T i).1 = 4) : hol R T dom (n + 1) i val = (hol R T dom n (T i).2.1 val || hol R T dom n (T i).2.2.1 val) := by rw [hol, if_neg (by omega), if_neg (by omega), if_neg (by omega), if_neg (by omega), if_pos h]
theorem hol_5 {R : Nat → RRow} {T : Nat → TRow} {dom n i : Nat} {val : Nat → Nat} (h : (T i).1 = 5) : hol R T dom (n + 1) i val = exB (fun w => dom.testBit w && hol R T dom n (T i).2.1 (up val (T i).2.2.2.1 w)) 8 := by rw [hol, if_neg (by omega), if_neg (by omega), if_neg (by omega), if_neg (by omega), if_neg (by omega), if_pos h]
theorem hol_6 {R : Nat → RRow} {T : Nat → TRow} {dom n i : Nat} {val : Nat → Nat} (h : (T i).1 = 6) : hol R T dom (n + 1) i val = !exB (fun w => dom.testBit w && !hol R T dom n (T i).2.1 (up val (T i).2.2.2.1 w)) 8 := by rw [hol, if_neg (by omega), if_neg (by omega), if_neg (by omega), if_neg (by omega), if_neg (by omega), if_neg (by omega)]
set_option maxHeartbeats 4000000 in
/-- holding(f) of formula i -/
theorem m_holding (l : Launch) (D : va_G) (cy : Nat → ClassId) (O : Nat × va_E → Prop) {b2 gv dom rc N : Nat} {f0 : Value} {R : Nat → RRow} {rb : Nat → Nat} {T : Nat → TRow} {At : Nat → TAtt} {ad : Nat → Nat} (hL : O (b2, .inr (2, [f0, .ref gv, .int (nI dom)]))) (hd : dom < 2 ^ 31) (hW : FW O cy R rc rb T At ad N) : ∀ n, n ≤ N → ∀ i, i < n → ∀ vo : Nat → Option Nat, vno vo → asg vo (At i).1 → Cl l yX2_holding (.code yX2_holding cX2_holding 4 (some .long) :: WALL) { frames := 4 * n, cells := 0, slots := 0, locals := 100 * n } D cy O [.ref b2, .ref (ad i)] [(gv, .inl (cy 0, 6, .inl (vA vo)))] 0 0 (fun (r : Int64) (w : va_W) => r = lan (fun j => hol R T dom n i (fun v => vl vo v j)) ∧ w = [(gv, .inl (cy 0, 6, .inl (vA vo)))]) := by
  intro n
  induction n with
  | zero => intro _ i hi; omega
  | succ n ih =>
    intro hn i hi vo h0 hs
    obtain ⟨⟨p1, p2, p3, p4, vv, hF, k0, k1, k2, k4, k5⟩, hG⟩ := hW.2 i (by omega)
    rw [show 4 * (n + 1) = 4 * n + 4 by omega, show 100 * (n + 1) = 100 * n + 100 by omega]
    rcases hG with ⟨hk, hr, ht, hA⟩ | ⟨hk, ht, hA⟩ | ⟨hk, ha, hA⟩ | ⟨hk, ha, hb, hA⟩ | ⟨hk, ha, hb, hA⟩ | ⟨hk, ha, hv, hA⟩ | ⟨hk, ha, hv, hA⟩
    · rw [show (fun j => hol R T dom (n + 1) i (fun v => vl vo v j)) = _ from funext fun j => hol_0 hk]
      obtain ⟨at_, rfl, tm, hAt, ta, Tf, hTm, hTa, hT⟩ := k0 hk
      obtain ⟨ar, ah, ak, hv, kv, hQ, hR, hH, hK, hHK, hP, hP3, hM, hx⟩ := hW.1 _ hr
      rw [hk] at hF
      rw [hA] at hs
      exact m_hold_0 l D cy O hL hd h0 hF hAt hQ hR hH hK hTm hTa hP hP3 hM (fun j hj => Nat.lt_trans (hx j hj) (by decide)) hHK hT (asg_terms hs ht)
    · rw [show (fun j => hol R T dom (n + 1) i (fun v => vl vo v j)) = _ from funext fun j => hol_1 hk]
      obtain ⟨tm, rfl, ta, Tf, hTm, hTa, hT⟩ := k1 hk
      rw [hk] at hF
      rw [hA] at hs
      exact m_hold_1 l D cy O hL hd h0 hF hTm hTa hT (asg_terms hs ht)
    · rw [show (fun j => hol R T dom (n + 1) i (fun v => vl vo v j)) = _ from funext fun j => hol_2 hk]
      obtain rfl := k2 (by omega)
      rw [hk] at hF
      rw [hA] at hs
      exact m_hold_2 l D cy O hL hd (q5 := hol R T dom n (T i).2.1) h0 hF (fun vo h1 h2 => ih (by omega) _ (by omega) vo h1 h2) hs
    · rw [show (fun j => hol R T dom (n + 1) i (fun v => vl vo v j)) = _ from funext fun j => hol_3 hk]
      obtain rfl := k2 (by omega)
      obtain rfl := k4 (Or.inl hk)
      rw [hk] at hF
      rw [hA] at hs
      exact m_hold_3 l D cy O hL hd (p4 := .null) (q5 := hol R T dom n (T i).2.1) (q6 := hol R T dom n (T i).2.2.1) h0 hF (fun vo h1 h2 => ih (by omega) _ (by omega) vo h1 h2) (fun vo h1 h2 => ih (by omega) _ (by omega) vo h1 h2) (asg_sub hs fun v h => or_bit.mpr (Or.inl h)) (asg_sub hs fun v h => or_bit.mpr (Or.inr h))
    · rw [show (fun j => hol R T dom (n + 1) i (fun v => vl vo v j)) = _ from funext fun j => hol_4 hk]
      obtain rfl := k2 (by omega)
      obtain rfl := k4 (Or.inr hk)
      rw [hk] at hF
      rw [hA] at hs
      exact m_hold_4 l D cy O hL hd (p4 := .null) (q5 := hol R T dom n (T i).2.1) (q6 := hol R T dom n (T i).2.2.1) h0 hF (fun vo h1 h2 => ih (by omega) _ (by omega) vo h1 h2) (fun vo h1 h2 => ih (by omega) _ (by omega) vo h1 h2) (asg_sub hs fun v h => or_bit.mpr (Or.inl h)) (asg_sub hs fun v h => or_bit.mpr (Or.inr h))
    · rw [show (fun j => hol R T dom (n + 1) i (fun v => vl vo v j)) = _ from funext fun j => hol_5 hk]
      obtain rfl := k2 (by omega)
      obtain rfl := k5 (by omega)
      rw [hk] at hF
      rw [hA] at hs
      by_cases hy : (T i).2.2.2.1 < 2
      · refine m_hold_5l l D cy O hL hd (q5 := hol R T dom n (T i).2.1) h0 hF (fun vo h1 h2 => ih (by omega) _ (by omega) vo h1 h2) (fun v h1 h2 h3 => hs v h1 h2 ?_) hy
        show (nd (At (T i).2.1).1 (2 ^ (T i).2.2.2.1)).testBit v = true
        rw [nd_bit, h3, Nat.testBit_two_pow]; simp [show (T i).2.2.2.1 ≠ v by omega]
      · exact m_hold_5v l D cy O hL hd (q5 := hol R T dom n (T i).2.1) h0 hF (fun vo h1 h2 => ih (by omega) _ (by omega) vo h1 h2) hs (by omega) hv
    · rw [show (fun j => hol R T dom (n + 1) i (fun v => vl vo v j)) = _ from funext fun j => hol_6 hk]
      obtain rfl := k2 (by omega)
      obtain rfl := k5 (by omega)
      rw [hk] at hF
      rw [hA] at hs
      by_cases hy : (T i).2.2.2.1 < 2
      · refine m_hold_6l l D cy O hL hd (q5 := hol R T dom n (T i).2.1) h0 hF (fun vo h1 h2 => ih (by omega) _ (by omega) vo h1 h2) (fun v h1 h2 h3 => hs v h1 h2 ?_) hy
        show (nd (At (T i).2.1).1 (2 ^ (T i).2.2.2.1)).testBit v = true
        rw [nd_bit, h3, Nat.testBit_two_pow]; simp [show (T i).2.2.2.1 ≠ v by omega]
      · exact m_hold_6v l D cy O hL hd (q5 := hol R T dom n (T i).2.1) h0 hF (fun vo h1 h2 => ih (by omega) _ (by omega) vo h1 h2) hs (by omega) hv
