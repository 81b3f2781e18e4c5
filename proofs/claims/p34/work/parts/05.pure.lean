/-! PURE ROWS: digits of a row, masks, bits of ints that are small naturals -/
def bI (a b : Int32) : Int32 := if (a >>> (b &&& 31)) &&& 1 = 0 then 0 else 1
def vI (a : Int32) : Int32 := if ¬ a < 0 ∧ ¬ 6 ≤ a then 1 else 0
def eI (a : Int32) : Int32 := if ¬ a < 0 ∧ ¬ 8 ≤ a then 1 else 0
theorem bI_01 (a b : Int32) : bI a b = 0 ∨ bI a b = 1 := by unfold bI; split <;> simp
theorem vI_01 (a : Int32) : vI a = 0 ∨ vI a = 1 := by unfold vI; split <;> simp
theorem eI_01 (a : Int32) : eI a = 0 ∨ eI a = 1 := by unfold eI; split <;> simp
theorem at_nI {α : Type} {f : Nat → α} {i : Nat} {v : α} (hi : i < 2 ^ 31) (h : f i = v) : f (nI i).toNatClampNeg = v := by rw [nI_clamp hi]; exact h
theorem upd_nI {α : Type} {f : Nat → Int32} {i : Nat} {x : Int32} {g : Nat → Int32} {F : (Nat → Int32) → α} (hi : i < 2 ^ 31) (h : upd f i x = g) : F (upd f (nI i).toNatClampNeg x) = F g := by rw [nI_clamp hi, h]
theorem s_l : ∀ n, n < 32 → ((nI n &&& 31).toBitVec.smod 32).toNat = n := by decide
theorem shl_1 : ∀ n, n < 31 → (1 : Int32) <<< (nI n &&& 31) = nI (2 ^ n) := by decide
theorem nI_lit (n : Nat) : (OfNat.ofNat n : Int32) = nI n := rfl
theorem nI_and (a b : Nat) : nI a &&& nI b = nI (a &&& b) := by
  apply Int32.toBitVec_inj.mp
  show BitVec.ofNat 32 a &&& BitVec.ofNat 32 b = BitVec.ofNat 32 (a &&& b)
  exact BitVec.eq_of_getLsbD_eq fun i hi => by simp [BitVec.getLsbD_ofNat, Nat.testBit_and, hi]
theorem nI_or (a b : Nat) : nI a ||| nI b = nI (a ||| b) := by
  apply Int32.toBitVec_inj.mp
  show BitVec.ofNat 32 a ||| BitVec.ofNat 32 b = BitVec.ofNat 32 (a ||| b)
  exact BitVec.eq_of_getLsbD_eq fun i hi => by simp [BitVec.getLsbD_ofNat, Nat.testBit_or, hi]
/-- a without the bits of b -/
def nd (a b : Nat) : Nat := a ^^^ (a &&& b)
theorem nd_bit (a b i : Nat) : (nd a b).testBit i = (a.testBit i && !b.testBit i) := by
  simp only [nd, Nat.testBit_xor, Nat.testBit_and]
  cases a.testBit i <;> cases b.testBit i <;> rfl
theorem nI_nd (a b : Nat) : nI a &&& (nI b ^^^ (-1)) = nI (nd a b) := by
  apply Int32.toBitVec_inj.mp
  show BitVec.ofNat 32 a &&& (BitVec.ofNat 32 b ^^^ BitVec.allOnes 32) = BitVec.ofNat 32 (nd a b)
  refine BitVec.eq_of_getLsbD_eq fun i hi => ?_
  rw [BitVec.getLsbD_and, BitVec.getLsbD_xor, BitVec.getLsbD_allOnes, BitVec.getLsbD_ofNat, BitVec.getLsbD_ofNat, BitVec.getLsbD_ofNat, nd_bit, decide_eq_true hi]
  cases a.testBit i <;> cases b.testBit i <;> rfl
theorem nI_zero {n : Nat} (h : n < 2 ^ 31) : nI n = 0 ↔ n = 0 := by
  rw [show (0 : Int32) = nI 0 from rfl]
  exact nI_eq h (by decide)
/-- digit p of a row of P values, the first one in front -/
def dg (P c p : Nat) : Nat := c / 8 ^ (P - 1 - p) % 8
theorem dg_lt (P c p : Nat) : dg P c p < 8 := Nat.mod_lt _ (by decide)
theorem dg_row {P p c : Nat} (hP : 1 ≤ P) (hP3 : P ≤ 3) (hp : p < P) (hc : c < 2 ^ 31) : (nI c >>> ((3 * (nI P - 1 - nI p)) &&& 31)) &&& 7 = nI (dg P c p) := by
  have h : (P = 1 ∧ p = 0) ∨ (P = 2 ∧ p = 0) ∨ (P = 2 ∧ p = 1) ∨ (P = 3 ∧ p = 0) ∨ (P = 3 ∧ p = 1) ∨ (P = 3 ∧ p = 2) := by omega
  have k (s : Int32) (j : Nat) (hs : (s.toBitVec.smod 32).toNat = j) : (nI c >>> s) &&& 7 = nI (c / 2 ^ j % 8) := by
    rw [pk_shrN hc s j hs]
    exact pk_andN (Nat.lt_of_le_of_lt (Nat.div_le_self _ _) (Nat.lt_trans hc (by decide))) 3 (m := 7) (by decide)
  rcases h with ⟨rfl, rfl⟩ | ⟨rfl, rfl⟩ | ⟨rfl, rfl⟩ | ⟨rfl, rfl⟩ | ⟨rfl, rfl⟩ | ⟨rfl, rfl⟩
  · exact k _ 0 (by decide)
  · exact k _ 3 (by decide)
  · exact k _ 0 (by decide)
  · exact k _ 6 (by decide)
  · exact k _ 3 (by decide)
  · exact k _ 0 (by decide)
/-- the set of the i below n with p, as a number -/
def ms (p : Nat → Bool) : Nat → Nat
  | 0 => 0
  | n + 1 => ms p n + if p n then 2 ^ n else 0
theorem ms_lt (p : Nat → Bool) : ∀ n, ms p n < 2 ^ n
  | 0 => by simp [ms]
  | n + 1 => by
    have h := ms_lt p n
    rw [ms, Nat.pow_succ]
    split <;> omega
theorem ms_bit (p : Nat → Bool) : ∀ n i, (ms p n).testBit i = (decide (i < n) && p i)
  | 0, i => by simp [ms]
  | n + 1, i => by
    rw [ms]
    have hb := ms_bit p n
    have hl := ms_lt p n
    by_cases hp : p n
    · rw [if_pos hp, Nat.add_comm]
      rcases Nat.lt_trichotomy i n with h | h | h
      · rw [Nat.testBit_two_pow_add_gt h, hb]
        simp [h, Nat.lt_succ_of_lt h]
      · subst h
        rw [Nat.testBit_two_pow_add_eq, hb]
        simp [hp]
      · rw [Nat.testBit_lt_two_pow (Nat.lt_of_lt_of_le (show 2 ^ n + ms p n < 2 ^ (n + 1) by rw [Nat.pow_succ]; omega) (Nat.pow_le_pow_right (by decide) h))]
        simp [show ¬ i < n + 1 by omega]
    · rw [if_neg hp, Nat.add_zero, hb]
      by_cases h : i = n
      · subst h; simp [hp]
      · simp [show (i < n + 1) ↔ i < n by omega]
theorem ms_ext {p q : Nat → Bool} : ∀ {n}, (∀ i, i < n → p i = q i) → ms p n = ms q n
  | 0, _ => rfl
  | n + 1, h => by rw [ms, ms, ms_ext (fun i hi => h i (by omega)), h n (by omega)]
theorem ms_eq {p q : Nat → Bool} {n m : Nat} (h : ∀ i, (decide (i < n) && p i) = (decide (i < m) && q i)) : ms p n = ms q m := Nat.eq_of_testBit_eq fun i => by rw [ms_bit, ms_bit, h]
theorem ms_or {p : Nat → Bool} {n k : Nat} (h : k < n) : ms p n ||| 2 ^ k = ms (fun i => p i || decide (i = k)) n := Nat.eq_of_testBit_eq fun i => by
  rw [Nat.testBit_or, ms_bit, ms_bit, Nat.testBit_two_pow]
  by_cases e : i = k
  · subst e; simp [h]
  · simp [e, show k ≠ i from fun z => e z.symm]
theorem ms_and (p q : Nat → Bool) (n : Nat) : ms p n &&& ms q n = ms (fun i => p i && q i) n := Nat.eq_of_testBit_eq fun i => by
  rw [Nat.testBit_and, ms_bit, ms_bit, ms_bit]
  cases decide (i < n) <;> cases p i <;> cases q i <;> rfl
theorem ms_all (n : Nat) : ms (fun _ => true) n = 2 ^ n - 1 := Nat.eq_of_testBit_eq fun i => by
  rw [ms_bit, Nat.testBit_two_pow_sub_one]; simp
theorem ms_none {n : Nat} : ms (fun _ => false) n = 0 := Nat.eq_of_testBit_eq fun i => by rw [ms_bit]; simp
theorem ms_grow {p : Nat → Bool} {n m : Nat} (h : n ≤ m) : ms p n = ms (fun i => decide (i < n) && p i) m := Nat.eq_of_testBit_eq fun i => by
  rw [ms_bit, ms_bit]
  by_cases e : i < n
  · simp [e, Nat.lt_of_lt_of_le e h]
  · simp [e]
theorem bI_bit {S j : Nat} (hS : S < 2 ^ 31) (hj : j < 32) : bI (nI S) (nI j) = if S.testBit j then 1 else 0 := by
  unfold bI
  rw [pk_shrN hS (nI j &&& 31) j (s_l j hj), pk_andN (Nat.lt_of_le_of_lt (Nat.div_le_self _ _) (Nat.lt_trans hS (by decide))) 1 (m := 1) (by decide)]
  have h2 : S / 2 ^ j % 2 ^ 1 < 2 := Nat.mod_lt _ (by decide)
  rw [Nat.testBit_eq_decide_div_mod_eq]
  by_cases h : S / 2 ^ j % 2 = 1
  · rw [if_neg (by rw [show S / 2 ^ j % 2 ^ 1 = 1 from h]; decide), if_pos (by simp [h])]
  · have h0 : S / 2 ^ j % 2 ^ 1 = 0 := by rw [show (2 : Nat) ^ 1 = 2 from rfl] at h2 ⊢; omega
    rw [if_pos (by rw [h0]; rfl), if_neg (by simp [h])]
theorem bI_ms {p : Nat → Bool} {n j : Nat} (hn : n ≤ 31) (hj : j < n) : bI (nI (ms p n)) (nI j) = if p j then 1 else 0 := by
  rw [bI_bit (Nat.lt_of_lt_of_le (ms_lt p n) (Nat.pow_le_pow_right (by decide) hn)) (by omega), ms_bit]
  simp [hj]
/-- how many i below n have p -/
def ct (p : Nat → Bool) : Nat → Nat
  | 0 => 0
  | n + 1 => ct p n + if p n then 1 else 0
theorem ct_le (p : Nat → Bool) : ∀ n, ct p n ≤ n
  | 0 => Nat.le_refl 0
  | n + 1 => by have h := ct_le p n; rw [ct]; split <;> omega
theorem ct_ext {p q : Nat → Bool} : ∀ {n}, (∀ i, i < n → p i = q i) → ct p n = ct q n
  | 0, _ => rfl
  | n + 1, h => by rw [ct, ct, ct_ext (fun i hi => h i (by omega)), h n (by omega)]
theorem ct_zero {p : Nat → Bool} : ∀ {n}, ct p n = 0 ↔ ∀ i, i < n → p i = false
  | 0 => by simp [ct]
  | n + 1 => by
    rw [ct]
    constructor
    · intro h i hi
      have h1 : ct p n = 0 := by omega
      by_cases e : i = n
      · subst e
        cases hp : p i
        · rfl
        · rw [hp] at h; simp at h
      · exact ct_zero.mp h1 i (by omega)
    · intro h
      rw [ct_zero.mpr (fun i hi => h i (by omega)), h n (by omega)]; rfl
theorem ct_mono {p q : Nat → Bool} : ∀ {n}, (∀ i, i < n → p i = true → q i = true) → ct p n ≤ ct q n
  | 0, _ => Nat.le_refl 0
  | n + 1, h => by
    rw [ct, ct]
    have h1 := ct_mono (fun i hi => h i (Nat.lt_succ_of_lt hi))
    have h2 := h n (by omega)
    cases hp : p n
    · simp; omega
    · rw [h2 hp]; simp; omega
/-- one taken out -/
theorem ct_out {p : Nat → Bool} {k : Nat} (hk : p k = true) : ∀ {n}, k < n → ct p n = ct (fun i => p i && !decide (i = k)) n + 1
  | 0, h => absurd h (Nat.not_lt_zero _)
  | n + 1, h => by
    rw [ct, ct]
    by_cases e : k = n
    · subst e
      rw [hk, ct_ext (p := p) (q := fun i => p i && !decide (i = k)) (fun i hi => by simp [show i ≠ k by omega])]
      simp
    · rw [ct_out hk (show k < n by omega)]
      simp [show n ≠ k from fun z => e z.symm]; omega
/-- the first i below n with p; n if there is none -/
def ft (p : Nat → Bool) : Nat → Nat
  | 0 => 0
  | n + 1 => if ft p n < n then ft p n else if p n then n else n + 1
theorem ft_le (p : Nat → Bool) : ∀ n, ft p n ≤ n
  | 0 => Nat.le_refl 0
  | n + 1 => by have h := ft_le p n; rw [ft]; split <;> (try split) <;> omega
theorem ft_yes (p : Nat → Bool) : ∀ n, ft p n < n → p (ft p n) = true
  | 0, h => absurd h (Nat.not_lt_zero _)
  | n + 1, h => by
    rw [ft] at h ⊢
    split
    · exact ft_yes p n (by assumption)
    · rename_i h1
      rw [if_neg h1] at h
      split
      · assumption
      · rename_i h2
        rw [if_neg h2] at h; omega
theorem ft_no (p : Nat → Bool) : ∀ n k, k < ft p n → p k = false
  | 0, k, h => absurd h (Nat.not_lt_zero _)
  | n + 1, k, h => by
    rw [ft] at h
    split at h
    · exact ft_no p n k h
    · rename_i h1
      have h0 : ft p n = n := by have := ft_le p n; omega
      split at h
      · exact ft_no p n k (by omega)
      · rename_i h2
        by_cases e : k = n
        · subst e; simpa using h2
        · exact ft_no p n k (by omega)
theorem ft_is {p : Nat → Bool} {n k : Nat} (hk : k ≤ n) (h : ∀ i, i < k → p i = false) (h2 : k < n → p k = true) : ft p n = k := by
  rcases Nat.lt_trichotomy (ft p n) k with g | g | g
  · have g1 := ft_yes p n (by omega)
    rw [h _ g] at g1; cases g1
  · exact g
  · have g1 := ft_no p n k g
    have g2 := ft_le p n
    rw [h2 (by omega)] at g1; cases g1
theorem ft_ext {p q : Nat → Bool} {n : Nat} (h : ∀ i, i < n → p i = q i) : ft p n = ft q n :=
  ft_is (ft_le q n) (fun i hi => by rw [h i (Nat.lt_of_lt_of_le hi (ft_le q n))]; exact ft_no q n i hi) (fun hl => by rw [h _ hl]; exact ft_yes q n hl)
theorem lt_of_nle {a b : Nat} (h : ¬ nI a ≤ nI b) (ha : a < 2 ^ 31) (hb : b < 2 ^ 31) : b < a := Nat.not_le.mp fun z => h ((nI_leI ha hb).mpr z)
theorem le_of_nlt {a b : Nat} (h : ¬ nI a < nI b) (ha : a < 2 ^ 31) (hb : b < 2 ^ 31) : b ≤ a := Nat.not_lt.mp fun z => h ((nI_ltI ha hb).mpr z)
theorem below_s {p : Nat → Bool} {j : Nat} (h : ∀ i, i < j → p i = false) (hj : p j = false) : ∀ i, i < j + 1 → p i = false := fun i hi => (Nat.lt_or_ge i j).elim (h i) (fun z => by rw [show i = j by omega]; exact hj)
theorem below_0 {p : Nat → Bool} : ∀ i, i < 0 → p i = false := fun i hi => absurd hi (Nat.not_lt_zero i)
/-- arrays of small naturals -/
def nA (x : Nat → Nat) : Nat → Int32 := fun j => nI (x j)
def up {α : Type} (x : Nat → α) (k : Nat) (v : α) : Nat → α := fun j => if j = k then v else x j
theorem upd_nA (x : Nat → Nat) (k v : Nat) : upd (nA x) k (nI v) = nA (up x k v) := by
  funext j
  by_cases h : j = k
  · subst h; rw [pk_us]; simp [nA, up]
  · rw [pk_un h]; simp [nA, up, h]
theorem upd_nA' {x : Nat → Nat} {k v : Nat} (hk : k < 2 ^ 31) : upd (nA x) (nI k).toNatClampNeg (nI v) = nA (up x k v) := by rw [nI_clamp hk, upd_nA]
theorem nA_at {x : Nat → Nat} {k : Nat} (hk : k < 2 ^ 31) : nA x (nI k).toNatClampNeg = nI (x k) := by rw [nI_clamp hk]; rfl
theorem nA_0 : (fun _ => 0 : Nat → Int32) = nA (fun _ => 0) := rfl
theorem mul_8 (a : Nat) : nI a * 8 = nI (a * 8) := pk_mul a 8
theorem sub_1 {a : Nat} (h : 1 ≤ a) : nI a - 1 = nI (a - 1) := pk_sub h
/-! what mark() does, step for step -/
def kst (P c u i : Nat) (kv : Nat → Nat) : Nat → Nat → Nat
  | 0 => kv
  | j + 1 => if dg P c j = dg P c u then up (kst P c u i kv j) (u + j - 1) (kst P c u i kv j (u + j - 1) ||| 2 ^ i) else kst P c u i kv j
abbrev MkS : Type := Nat × (Nat → Nat) × (Nat → Nat)
def mk1 (P c u i : Nat) (t : MkS) : MkS := (t.1 ||| 2 ^ dg P c u, up t.2.1 (u * 8 + dg P c u) (t.2.1 (u * 8 + dg P c u) ||| 2 ^ i), kst P c u i t.2.2 u)
def mkp (P c i : Nat) (t : MkS) : Nat → MkS
  | 0 => t
  | u + 1 => mk1 P c u i (mkp P c i t u)
def mkf (P : Nat) (x : Nat → Nat) (t : MkS) : Nat → MkS
  | 0 => t
  | i + 1 => mkp P (x i) i (mkf P x t i) P
def zf (x : Nat → Nat) (k : Nat) : Nat → Nat := fun j => if j < k then 0 else x j
theorem zf_0 (x : Nat → Nat) : zf x 0 = x := funext fun j => by simp [zf]
theorem zf_s (x : Nat → Nat) (k : Nat) : up (zf x k) k 0 = zf x (k + 1) := funext fun j => by
  simp only [up, zf]
  by_cases h : j = k
  · subst h; simp
  · rw [if_neg h]
    by_cases g : j < k
    · rw [if_pos g, if_pos (by omega)]
    · rw [if_neg g, if_neg (by omega)]
/-- rows k + 1 .. M each taken from the place before -/
def shf (x : Nat → Nat) (M k : Nat) : Nat → Nat := fun j => if k < j ∧ j ≤ M then x (j - 1) else x j
theorem shf_M (x : Nat → Nat) (M : Nat) : shf x M M = x := funext fun j => by simp only [shf]; rw [if_neg (by omega)]
theorem shf_s (x : Nat → Nat) {M k : Nat} (h : k < M) : up (shf x M (k + 1)) (k + 1) (shf x M (k + 1) k) = shf x M k := funext fun j => by
  simp only [up, shf]
  by_cases e : j = k + 1
  · subst e; rw [if_pos rfl, if_neg (by omega), if_pos (by omega)]; rfl
  · rw [if_neg e]
    by_cases g : k + 1 < j ∧ j ≤ M
    · rw [if_pos g, if_pos (by omega)]
    · rw [if_neg g, if_neg (by omega)]
/-- a row put in -/
def ins (x : Nat → Nat) (M k v : Nat) : Nat → Nat := up (shf x M k) k v
theorem upd_nA0 {x : Nat → Nat} {k : Nat} (hk : k < 2 ^ 31) : upd (nA x) (nI k).toNatClampNeg 0 = nA (up x k 0) := upd_nA' (v := 0) hk
theorem ins_lt {x : Nat → Nat} {M k v b N : Nat} (hx : ∀ j, j < N → x j < b) (hv : v < b) : ∀ j, j < N → ins x M k v j < b := fun j hj => by
  simp only [ins, up, shf]
  split
  · exact hv
  · split
    · exact hx _ (by omega)
    · exact hx _ hj
theorem sub_1i {a : Nat} (h : 1 ≤ a) : nI a + Int32.ofInt (-1) = nI (a - 1) := by
  have e : a = (a - 1) + 1 := by omega
  conv => lhs; rw [e]
  exact pk_m1 (a - 1)
theorem vI_nI {n : Nat} (h : n < 2 ^ 31) : vI (nI n) = if n < 6 then 1 else 0 := by
  unfold vI
  have h1 : ¬ nI n < 0 := nI_pos h
  by_cases g : n < 6
  · rw [if_pos ⟨h1, nI_ge (a := n) (b := 6) g (by decide)⟩, if_pos g]
  · rw [if_neg (fun z => z.2 (nI_le (a := 6) (b := n) (by omega) h)), if_neg g]
theorem sub_10 {a : Nat} (h : 10 ≤ a) : nI a - 10 = nI (a - 10) := pk_sub h
/-! terms: a variable (below 6) or 10 and a value -/
def isT (t : Nat) : Prop := t < 6 ∨ (10 ≤ t ∧ t < 18)
def vsf (t : Nat → Nat) : Nat → Nat
  | 0 => 0
  | k + 1 => if t k < 6 then vsf t k ||| 2 ^ t k else vsf t k
def vlf (t : Nat → Nat) : Nat → Nat
  | 0 => 0
  | k + 1 => if t k < 6 then vlf t k else vlf t k ||| 2 ^ (t k - 10)
def oI : Option Nat → Int32
  | none => -1
  | some v => nI v
def vA (vo : Nat → Option Nat) : Nat → Int32 := fun j => oI (vo j)
def tvo (vo : Nat → Option Nat) (t : Nat) : Option Nat := if t < 10 then vo t else some (t - 10)
def alb (t kv : Nat → Nat) (u : Nat) : Nat → Int32
  | 0 => -1
  | j + 1 => if t j = t u then alb t kv u j &&& nI (kv (u + j - 1)) else alb t kv u j
def mat (M : Nat) (hv kv t : Nat → Nat) (vo : Nat → Option Nat) : Nat → Int32
  | 0 => nI (2 ^ M - 1)
  | u + 1 => match tvo vo (t u) with
    | some v => mat M hv kv t vo u &&& nI (hv (u * 8 + v))
    | none => mat M hv kv t vo u &&& alb t kv u u
def vin (S : Nat) (vs : Nat → Nat) : Nat → Nat
  | 0 => 0
  | k + 1 => if S.testBit k then vin S vs k ||| vs k else vin S vs k
theorem oI_some {v : Nat} (h : v < 2 ^ 31) : ¬ oI (some v) < 0 := nI_pos h
theorem bI_if {S j : Nat} (hS : S < 2 ^ 31) (hj : j < 32) : bI (nI S) (nI j) = if S.testBit j then 1 else 0 := bI_bit hS hj
def a3 (x y z : Int32) : Nat → Int32 := upd (upd (upd (fun _ => 0) 0 x) 1 y) 2 z
theorem bit_no {S j : Nat} (hS : S < 2 ^ 31) (hj : j < 32) (h : bI (nI S) (nI j) = 0) : S.testBit j = false := by
  rw [bI_bit hS hj] at h
  cases h8 : S.testBit j
  · rfl
  · rw [h8] at h; exact absurd h (by decide)
theorem bit_yes {S j : Nat} (hS : S < 2 ^ 31) (hj : j < 32) (h : ¬ bI (nI S) (nI j) = 0) : S.testBit j = true := by
  rw [bI_bit hS hj] at h
  cases h8 : S.testBit j
  · rw [h8] at h; exact absurd rfl h
  · rfl
theorem nd_lt {a b k : Nat} (h : a < 2 ^ k) : nd a b < 2 ^ k := Nat.xor_lt_two_pow h (Nat.lt_of_le_of_lt Nat.and_le_left h)
def lo2 (x y : Option Nat) : Option Nat := match x, y with
  | none, y => y
  | some a, none => some a
  | some a, some b => some (min a b)
def loQ (x : Option Nat) (is : Bool) (k : Nat) : Option Nat := match x with
  | some j => some j
  | none => if is then some k else none
theorem oI_neg {x : Option Nat} (hx : ∀ j, x = some j → j < 2 ^ 31) (h : oI x < 0) : x = none := by
  cases x with
  | none => rfl
  | some j => exact absurd h (oI_some (hx j rfl))
theorem oI_pos {x : Option Nat} (h : ¬ oI x < 0) : ∃ j, x = some j := by
  cases x with
  | none => exact absurd (by decide : (-1 : Int32) < 0) h
  | some j => exact ⟨j, rfl⟩
theorem oI_le {x : Option Nat} (hx : ∀ j, x = some j → j < 2 ^ 31) : 0 ≤ oI x ↔ ∃ j, x = some j := by
  cases x with
  | none => exact ⟨fun h => absurd h (by decide), fun ⟨_, h⟩ => by cases h⟩
  | some j => exact ⟨fun _ => ⟨j, rfl⟩, fun _ => nI_pos' (hx j rfl)⟩
theorem loQ_t {x : Option Nat} {b : Bool} {k : Nat} (e : x = none) (h : (if b then (0 : Int32) else 1) = 0) : oI x = oI (loQ x (!b) k) := by
  subst e
  cases b
  · exact absurd h (by decide)
  · rfl
theorem loQ_f {x : Option Nat} {b : Bool} {k : Nat} (e : x = none) (h : ¬ (if b then (0 : Int32) else 1) = 0) : nI k = oI (loQ x (!b) k) := by
  subst e
  cases b
  · rfl
  · exact absurd rfl h
def rw3 (P a b c : Nat) : Nat := if P ≤ 1 then a else if P ≤ 2 then a * 8 + b else (a * 8 + b) * 8 + c
theorem shl_3 {a : Nat} (h : a < 2 ^ 20) : nI a <<< ((3 : Int32) &&& 31) = nI (a * 8) := pk_shlN _ 3 (by decide) (by omega)
theorem or_8 {a b : Nat} (hb : b < 8) : nI (a * 8) ||| nI b = nI (a * 8 + b) := by
  rw [nI_or, Nat.mul_comm a 8]
  congr 1
  exact (Nat.two_pow_add_eq_or_of_lt (i := 3) hb a).symm
theorem eI_nI {n : Nat} (h : n < 8) : eI (nI n) = 1 := by
  unfold eI
  rw [if_pos ⟨nI_pos (by omega), nI_ge (a := n) (b := 8) h (by decide)⟩]
theorem pos_of {n : Nat} (h : ¬ nI n ≤ 0) (hn : n < 2 ^ 31) : 0 < n := lt_of_nle (a := n) (b := 0) h hn (by decide)
