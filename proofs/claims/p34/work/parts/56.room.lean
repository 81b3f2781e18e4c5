/-! the room: how many rows of terms the law's own question makes -/
def xL (x : Nat) : Nat := x % 32
def xd (x : Nat) : Nat := x / 32 % 4
def xF (x : Nat) : Nat := x / 128 % 8
def xc (x : Nat) : Nat := x / 1024
def pw (F : Nat) : Nat := 5 ^ (F % 2 + F / 2 % 2 + F / 4)
def sgT : List (List Nat) := [[0, 1, 2], [0, 2, 1], [1, 0, 2], [1, 2, 0], [2, 0, 1], [2, 1, 0]]
def sg (p j : Nat) : Nat := (sgT.getD p []).getD j 0
def prs (q : Nat → Nat → Bool) : List Nat → Bool
  | [] => true
  | x :: l => (x :: l).all (q x) && prs q l
def okJ (b C : Nat) (e : Bool) (S' : List Nat) (x y : Nat) : Bool := Nat.ble 20 (xL x + xL y) || (Nat.ble (pw (xF x ||| xF y) * (xc x + xc y)) b && (Nat.ble (xc x + xc y) C && (e || S'.any fun z => Nat.ble (xc x + xc y) (xc z) && (Nat.ble (xL z) (xL x + xL y + 1) && ((Nat.ble (xd z) (xd x) || Nat.ble (xd z) (xd y)) && Nat.beq ((xF x ||| xF y) ||| xF z) (xF z))))))
def okB (j b C : Nat) (e : Bool) (S' : List Nat) (x : Nat) : Bool := Nat.ble 20 (xL x) || (Nat.ble 3 (xd x) || (Nat.ble (pw (nd (xF x) (2 ^ j)) * (5 * xc x)) b && (Nat.ble (5 * xc x) C && (e || S'.any fun z => Nat.ble (5 * xc x) (xc z) && (Nat.ble (xL z) (xL x + 1) && (Nat.ble (xd z) (xd x + 1) && Nat.beq (nd (xF x) (2 ^ j) ||| xF z) (xF z)))))))
def okS (S' : List Nat) (x : Nat) : Bool := S'.any fun z => Nat.ble (xc x) (xc z) && (Nat.ble (xL z) (xL x) && (Nat.ble (xd z) (xd x) && Nat.beq (xF x ||| xF z) (xF z)))
def chp : Nat → Nat → Nat
  | 0, _ => 0
  | r + 1, C => if Nat.ble 501 C then (r + 1) * 125125 else max (250 * C + chp r (2 * C)) (125 * C + chp r (5 * C))
def RB : Nat := 590000
def chkN (nb : Nat) (S : List Nat) (C acc bO aO bJ cJ : Nat) (SJ : List Nat) (nJ aJ : Nat) (eJ : Bool) (b0 c0 : Nat) (S0 : List Nat) (n0 a0 : Nat) (e0 : Bool) (b1 c1 : Nat) (S1 : List Nat) (n1 a1 : Nat) (e1 : Bool) (b2 c2 : Nat) (S2 : List Nat) (n2 a2 : Nat) (e2 : Bool) : Bool :=
  (Nat.ble 1 C && S.all (fun x => Nat.ble (pw (xF x) * xc x) bO) && Nat.ble (acc + bO) aO) &&
    ((Nat.ble C cJ && prs (okJ bJ cJ eJ SJ) S && (eJ || S.all (okS SJ)) && (Nat.ble (acc + bJ) aJ && Nat.ble nb nJ)) &&
    ((Nat.ble C c0 && S.all (okB 0 b0 c0 e0 S0) && (e0 || S.all (okS S0)) && (Nat.ble (acc + b0) a0 && (Nat.ble nb n0 && Nat.ble 1 n0))) &&
    ((Nat.ble nb 0 || (Nat.ble C c1 && S.all (okB 1 b1 c1 e1 S1) && (e1 || S.all (okS S1)) && (Nat.ble (acc + b1) a1 && (Nat.ble nb n1 && Nat.ble 2 n1)))) &&
    (Nat.ble nb 1 || (Nat.ble C c2 && S.all (okB 2 b2 c2 e2 S2) && (e2 || S.all (okS S2)) && (Nat.ble (acc + b2) a2 && (Nat.ble nb n2 && Nat.ble 3 n2)))))))
theorem prs_at {q : Nat → Nat → Bool} (hs : ∀ x y, q x y = q y x) : ∀ {S : List Nat}, prs q S = true → ∀ x, x ∈ S → ∀ y, y ∈ S → q x y = true
  | [], _, x, hx, _, _ => by cases hx
  | a :: l, h, x, hx, y, hy => by
    rw [prs, Bool.and_eq_true] at h
    have h1 := List.all_eq_true.mp h.1
    rcases List.mem_cons.mp hx with rfl | hx'
    · exact h1 y hy
    · rcases List.mem_cons.mp hy with rfl | hy'
      · rw [hs]; exact h1 x hx
      · exact prs_at hs h.2 x hx' y hy'
theorem okJ_sym (b C : Nat) (e : Bool) (S' : List Nat) (x y : Nat) : okJ b C e S' x y = okJ b C e S' y x := by
  unfold okJ
  rw [Nat.add_comm (xL x), Nat.add_comm (xc x), Nat.or_comm (xF x)]
  have : (fun z => Nat.ble (xc y + xc x) (xc z) && (Nat.ble (xL z) (xL y + xL x + 1) && ((Nat.ble (xd z) (xd x) || Nat.ble (xd z) (xd y)) && Nat.beq ((xF y ||| xF x) ||| xF z) (xF z)))) = (fun z => Nat.ble (xc y + xc x) (xc z) && (Nat.ble (xL z) (xL y + xL x + 1) && ((Nat.ble (xd z) (xd y) || Nat.ble (xd z) (xd x)) && Nat.beq ((xF y ||| xF x) ||| xF z) (xF z)))) := funext fun z => by rw [Bool.or_comm (Nat.ble (xd z) (xd x))]
  rw [this]
theorem sg_all : ((List.range 6).all fun p => (List.range 8).all fun F => (List.range 8).all fun G => (!(List.range 3).all fun j => !F.testBit (sg p j) || G.testBit j) || Nat.ble (5 ^ ct F.testBit 6) (pw G)) = true := by decide +kernel
theorem sg_nj : ((List.range 6).all fun p => (List.range 3).all fun i => (List.range 3).all fun j => decide (i = j) || !decide (sg p i = sg p j)) = true := by decide +kernel
theorem p5_all : ((List.range 8).all fun F => Nat.ble (5 ^ ct F.testBit 6) 125 && (List.range 3).all fun v => Nat.ble (5 ^ ct (nd F (2 ^ v)).testBit 6) 25) = true := by decide +kernel
theorem sg_lt : ((List.range 6).all fun p => (List.range 3).all fun j => decide (sg p j < 3)) = true := by decide +kernel
theorem p5_125 {F : Nat} (h : F < 8) : 5 ^ ct F.testBit 6 ≤ 125 := by
  have := List.all_eq_true.mp p5_all F (List.mem_range.mpr h)
  rw [Bool.and_eq_true] at this
  exact Nat.le_of_ble_eq_true this.1
theorem p5_25 {F v : Nat} (h : F < 8) (hv : v < 3) : 5 ^ ct (nd F (2 ^ v)).testBit 6 ≤ 25 := by
  have := List.all_eq_true.mp p5_all F (List.mem_range.mpr h)
  rw [Bool.and_eq_true] at this
  exact Nat.le_of_ble_eq_true (List.all_eq_true.mp this.2 v (List.mem_range.mpr hv))
theorem sg_3 {p j : Nat} (hp : p < 6) (hj : j < 3) : sg p j < 3 := of_decide_eq_true (List.all_eq_true.mp (List.all_eq_true.mp sg_lt p (List.mem_range.mpr hp)) j (List.mem_range.mpr hj))
theorem sg_inj {p i j : Nat} (hp : p < 6) (hi : i < 3) (hj : j < 3) (h : sg p i = sg p j) : i = j := by
  have := List.all_eq_true.mp (List.all_eq_true.mp (List.all_eq_true.mp sg_nj p (List.mem_range.mpr hp)) i (List.mem_range.mpr hi)) j (List.mem_range.mpr hj)
  rw [decide_eq_true h, Bool.not_true, Bool.or_false] at this
  exact of_decide_eq_true this
/-- formula k is not more than x -/
def Dm (p : Nat) (L d F c : Nat → Nat) (x k : Nat) : Prop := xL x ≤ L k ∧ xd x ≤ d k ∧ (∀ j, j < 3 → (F k).testBit (sg p j) = true → (xF x).testBit j = true) ∧ c k ≤ xc x
theorem Dm_pw {p : Nat} {L d F c : Nat → Nat} {x k : Nat} (hp : p < 6) (hF : F k < 8) (h : Dm p L d F c x k) : 5 ^ ct (F k).testBit 6 ≤ pw (xF x) := by
  have := List.all_eq_true.mp (List.all_eq_true.mp (List.all_eq_true.mp sg_all p (List.mem_range.mpr hp)) (F k) (List.mem_range.mpr hF)) (xF x) (List.mem_range.mpr (Nat.mod_lt _ (by decide)))
  have h2 : ((List.range 3).all fun j => !(F k).testBit (sg p j) || (xF x).testBit j) = true := List.all_eq_true.mpr fun j hj => by
    cases e : (F k).testBit (sg p j)
    · rfl
    · rw [h.2.2.1 j (List.mem_range.mp hj) e]; rfl
  rw [h2, Bool.not_true, Bool.false_or] at this
  exact Nat.le_of_ble_eq_true this
/-- what formula k is made of -/
def Stq (p : Nat) (L d F c : Nat → Nat) (bd : Nat → Option Nat) (k : Nat) : Prop :=
  (bd k = none ∧ L k = 1 ∧ d k = 0 ∧ c k = 1) ∨
  (bd k = none ∧ ∃ i, i < k ∧ L k = 1 + L i ∧ d k = d i ∧ F k = F i ∧ c k = c i) ∨
  (bd k = none ∧ ∃ i j, i < k ∧ j < k ∧ L k = 1 + L i + L j ∧ d k = max (d i) (d j) ∧ F k = F i ||| F j ∧ c k = c i + c j) ∨
  (∃ i j, i < k ∧ j < 3 ∧ bd k = some j ∧ L k = 1 + L i ∧ d k = 1 + d i ∧ F k = nd (F i) (2 ^ sg p j) ∧ c k = 5 * c i)
def Wd (p : Nat) (L d F c : Nat → Nat) (bd : Nat → Option Nat) : Prop := p < 6 ∧ (∀ k, k < 12 → Stq p L d F c bd k ∧ L k ≤ 20 ∧ d k ≤ 3 ∧ F k < 8) ∧ ∀ k j, k < 12 → bd k = some j → ∀ i, i < j → ∃ k', k' < k ∧ bd k' = some i
def svF (F c : Nat → Nat) (k : Nat) : Nat := 5 ^ ct (F k).testBit 6 * c k
def sm (f : Nat → Nat) : Nat → Nat
  | 0 => 0
  | k + 1 => sm f k + f k
def Lf (S : List Nat) : Prop := ∃ x, x ∈ S ∧ xL x ≤ 1 ∧ xd x ≤ 0 ∧ xF x = 7 ∧ 1 ≤ xc x
theorem seven {j : Nat} (h : j < 3) : (7 : Nat).testBit j = true := by
  rcases j with _ | _ | _ | j
  · decide
  · decide
  · decide
  · omega
theorem or_sub {a b z j : Nat} (h : Nat.beq ((a ||| b) ||| z) z = true) (hj : a.testBit j = true ∨ b.testBit j = true) : z.testBit j = true := by
  have e : (a ||| b) ||| z = z := Nat.eq_of_beq_eq_true h
  rw [← e, Nat.testBit_or, Nat.testBit_or]
  rcases hj with g | g <;> rw [g] <;> simp
theorem or_one {a z j : Nat} (h : Nat.beq (a ||| z) z = true) (hj : a.testBit j = true) : z.testBit j = true := by
  have e : a ||| z = z := Nat.eq_of_beq_eq_true h
  rw [← e, Nat.testBit_or, hj]; rfl
/-- one step: not, or a leaf; join; bind -/
theorem st_J {p : Nat} {L d F c : Nat → Nat} {b C : Nat} {e : Bool} {S' : List Nat} {x y i j k : Nat} (hp : p < 6) (h : okJ b C e S' x y = true) (hx : Dm p L d F c x i) (hy : Dm p L d F c y j) (h20 : L k ≤ 20) (hF8 : F k < 8) (hL : L k = 1 + L i + L j) (hd : d k = max (d i) (d j)) (hF : F k = F i ||| F j) (hc : c k = c i + c j) : svF F c k ≤ b ∧ c k ≤ C ∧ (e = false → ∃ z, z ∈ S' ∧ Dm p L d F c z k) := by
  unfold okJ at h
  rw [show Nat.ble 20 (xL x + xL y) = false by
    cases q : Nat.ble 20 (xL x + xL y)
    · rfl
    · have := Nat.le_of_ble_eq_true q
      have := hx.1
      have := hy.1
      omega] at h
  rw [Bool.false_or, Bool.and_eq_true, Bool.and_eq_true] at h
  obtain ⟨h1, h2, h3⟩ := h
  have h1 := Nat.le_of_ble_eq_true h1
  have h2 := Nat.le_of_ble_eq_true h2
  have hbt : ∀ q, q < 3 → (F k).testBit (sg p q) = true → (xF x).testBit q = true ∨ (xF y).testBit q = true := fun q hq hb => by
    rw [hF, Nat.testBit_or, Bool.or_eq_true] at hb
    rcases hb with g | g
    · exact Or.inl (hx.2.2.1 q hq g)
    · exact Or.inr (hy.2.2.1 q hq g)
  have hcc : c k ≤ xc x + xc y := by have := hx.2.2.2; have := hy.2.2.2; omega
  refine ⟨?_, by omega, fun he => ?_⟩
  · refine Nat.le_trans (Nat.mul_le_mul (?_ : _ ≤ pw (xF x ||| xF y)) hcc) h1
    have h8 : xF x ||| xF y < 8 := Nat.or_lt_two_pow (n := 3) (Nat.mod_lt _ (by decide)) (Nat.mod_lt _ (by decide))
    have := List.all_eq_true.mp (List.all_eq_true.mp (List.all_eq_true.mp sg_all p (List.mem_range.mpr hp)) (F k) (List.mem_range.mpr hF8)) (xF x ||| xF y) (List.mem_range.mpr h8)
    have h2 : ((List.range 3).all fun j => !(F k).testBit (sg p j) || (xF x ||| xF y).testBit j) = true := List.all_eq_true.mpr fun q hq => by
      cases e : (F k).testBit (sg p q)
      · rfl
      · rw [Nat.testBit_or]
        rcases hbt q (List.mem_range.mp hq) e with g | g <;> rw [g] <;> simp
    rw [h2, Bool.not_true, Bool.false_or] at this
    exact Nat.le_of_ble_eq_true this
  · rw [he, Bool.false_or] at h3
    obtain ⟨z, hz, h4⟩ := List.any_eq_true.mp h3
    rw [Bool.and_eq_true, Bool.and_eq_true, Bool.and_eq_true, Bool.or_eq_true] at h4
    obtain ⟨g1, g2, g3, g4⟩ := h4
    have g1 := Nat.le_of_ble_eq_true g1
    have g2 := Nat.le_of_ble_eq_true g2
    refine ⟨z, hz, ?_, ?_, fun q hq hb => or_sub g4 (hbt q hq hb), by omega⟩
    · have := hx.1; have := hy.1; omega
    · rw [hd]
      have a1 := hx.2.1
      have a2 := hy.2.1
      have m1 := Nat.le_max_left (d i) (d j)
      have m2 := Nat.le_max_right (d i) (d j)
      rcases g3 with g | g
      · have := Nat.le_of_ble_eq_true g; omega
      · have := Nat.le_of_ble_eq_true g; omega
theorem st_B {p : Nat} {L d F c : Nat → Nat} {j b C : Nat} {e : Bool} {S' : List Nat} {x i k : Nat} (hp : p < 6) (hj : j < 3) (h : okB j b C e S' x = true) (hx : Dm p L d F c x i) (h20 : L k ≤ 20) (h3 : d k ≤ 3) (hF8 : F k < 8) (hL : L k = 1 + L i) (hd : d k = 1 + d i) (hF : F k = nd (F i) (2 ^ sg p j)) (hc : c k = 5 * c i) : svF F c k ≤ b ∧ c k ≤ C ∧ (e = false → ∃ z, z ∈ S' ∧ Dm p L d F c z k) := by
  have a1 := hx.1
  have a2 := hx.2.1
  unfold okB at h
  rw [show Nat.ble 20 (xL x) = false by
    cases q : Nat.ble 20 (xL x)
    · rfl
    · have := Nat.le_of_ble_eq_true q
      omega, show Nat.ble 3 (xd x) = false by
    cases q : Nat.ble 3 (xd x)
    · rfl
    · have := Nat.le_of_ble_eq_true q
      omega] at h
  rw [Bool.false_or, Bool.false_or, Bool.and_eq_true, Bool.and_eq_true] at h
  obtain ⟨h1, h2, h5⟩ := h
  have h1 := Nat.le_of_ble_eq_true h1
  have h2 := Nat.le_of_ble_eq_true h2
  have hbt : ∀ q, q < 3 → (F k).testBit (sg p q) = true → (nd (xF x) (2 ^ j)).testBit q = true := fun q hq hb => by
    rw [hF, nd_bit, Bool.and_eq_true] at hb
    rw [nd_bit, hx.2.2.1 q hq hb.1, Nat.testBit_two_pow, Bool.true_and]
    have : ¬ j = q := fun z => by
      subst z
      rw [Nat.testBit_two_pow_self] at hb
      exact absurd hb.2 (by decide)
    rw [decide_eq_false this]; rfl
  have hcc : c k ≤ 5 * xc x := by have := hx.2.2.2; omega
  refine ⟨?_, by omega, fun he => ?_⟩
  · refine Nat.le_trans (Nat.mul_le_mul (?_ : _ ≤ pw (nd (xF x) (2 ^ j))) hcc) h1
    have h8 : nd (xF x) (2 ^ j) < 8 := nd_lt (k := 3) (Nat.mod_lt _ (by decide))
    have := List.all_eq_true.mp (List.all_eq_true.mp (List.all_eq_true.mp sg_all p (List.mem_range.mpr hp)) (F k) (List.mem_range.mpr hF8)) (nd (xF x) (2 ^ j)) (List.mem_range.mpr h8)
    have h2 : ((List.range 3).all fun q => !(F k).testBit (sg p q) || (nd (xF x) (2 ^ j)).testBit q) = true := List.all_eq_true.mpr fun q hq => by
      cases e : (F k).testBit (sg p q)
      · rfl
      · rw [hbt q (List.mem_range.mp hq) e]; rfl
    rw [h2, Bool.not_true, Bool.false_or] at this
    exact Nat.le_of_ble_eq_true this
  · rw [he, Bool.false_or] at h5
    obtain ⟨z, hz, h4⟩ := List.any_eq_true.mp h5
    rw [Bool.and_eq_true, Bool.and_eq_true, Bool.and_eq_true] at h4
    obtain ⟨g1, g2, g3, g4⟩ := h4
    have g1 := Nat.le_of_ble_eq_true g1
    have g2 := Nat.le_of_ble_eq_true g2
    have g3 := Nat.le_of_ble_eq_true g3
    exact ⟨z, hz, by omega, by omega, fun q hq hb => or_one g4 (hbt q hq hb), by omega⟩
theorem st_O {p : Nat} {L d F c : Nat → Nat} {S : List Nat} {k : Nat} (hl : Lf S) (hi : ∀ i, i < k → ∃ x, x ∈ S ∧ Dm p L d F c x i) (h : (L k = 1 ∧ d k = 0 ∧ c k = 1) ∨ ∃ i, i < k ∧ L k = 1 + L i ∧ d k = d i ∧ F k = F i ∧ c k = c i) : ∃ x, x ∈ S ∧ Dm p L d F c x k := by
  rcases h with ⟨h1, h2, h3⟩ | ⟨i, h0, h1, h2, h3, h4⟩
  · obtain ⟨x, hx, g1, g2, g3, g4⟩ := hl
    exact ⟨x, hx, by omega, by omega, fun q hq _ => by rw [g3]; exact seven hq, by omega⟩
  · obtain ⟨x, hx, g1, g2, g3, g4⟩ := hi i h0
    exact ⟨x, hx, by omega, by omega, fun q hq hb => g3 q hq (by rw [← h3]; exact hb), by omega⟩
theorem st_S {p : Nat} {L d F c : Nat → Nat} {S S' : List Nat} (h : S.all (okS S') = true) {x i : Nat} (hx : x ∈ S) (hd : Dm p L d F c x i) : ∃ z, z ∈ S' ∧ Dm p L d F c z i := by
  obtain ⟨z, hz, h4⟩ := List.any_eq_true.mp (List.all_eq_true.mp h x hx)
  rw [Bool.and_eq_true, Bool.and_eq_true, Bool.and_eq_true] at h4
  obtain ⟨g1, g2, g3, g4⟩ := h4
  have g1 := Nat.le_of_ble_eq_true g1
  have g2 := Nat.le_of_ble_eq_true g2
  have g3 := Nat.le_of_ble_eq_true g3
  obtain ⟨a1, a2, a3, a4⟩ := hd
  exact ⟨z, hz, by omega, by omega, fun q hq hb => or_one g4 (a3 q hq hb), by omega⟩
theorem Lf_S {S S' : List Nat} (h : S.all (okS S') = true) (hl : Lf S) : Lf S' := by
  obtain ⟨x, hx, a1, a2, a3, a4⟩ := hl
  obtain ⟨z, hz, h4⟩ := List.any_eq_true.mp (List.all_eq_true.mp h x hx)
  rw [Bool.and_eq_true, Bool.and_eq_true, Bool.and_eq_true] at h4
  obtain ⟨g1, g2, g3, g4⟩ := h4
  have g1 := Nat.le_of_ble_eq_true g1
  have g2 := Nat.le_of_ble_eq_true g2
  have g3 := Nat.le_of_ble_eq_true g3
  refine ⟨z, hz, by omega, by omega, ?_, by omega⟩
  have e : xF x ||| xF z = xF z := Nat.eq_of_beq_eq_true g4
  rw [a3] at e
  have h8 : xF z < 8 := Nat.mod_lt _ (by decide)
  rw [← e]
  have h7 : 7 ≤ 7 ||| xF z := Nat.left_le_or
  have h9 : 7 ||| xF z < 8 := Nat.or_lt_two_pow (n := 3) (by decide) h8
  omega
/-- all that may come -/
def SI : List Nat := [1921, 5922, 5794, 5538, 26435, 26307, 26051, 2947, 128868, 128740, 128484, 11044, 10916, 10660, 7076, 52037, 51909, 51653, 27589, 11173, 3973, 256870, 256742, 256486, 130022, 31686, 16166, 16038, 15782, 12198, 134119, 77639, 77511, 77255, 53191, 16295, 4999, 384872, 384744, 384488, 258024, 57288, 21288, 21160, 20904, 17320, 262121, 103241, 103113, 102857, 78793, 21417, 6025, 512874, 512746, 512490, 386026, 82890, 26410, 26282, 26026, 22442, 390123, 128843, 128715, 128459, 104395, 26539, 7051, 640876, 640748, 640492, 514028, 108492, 31532, 31404, 31148, 27564, 518125, 154445, 154317, 154061, 129997, 31661, 8077, 768878, 768750, 768494, 642030, 134094, 36654, 36526, 36270, 32686, 646127, 180047, 179919, 179663, 155599, 36783, 9103, 896880, 896752, 896496, 770032, 159696, 41776, 41648, 41392, 37808, 774129, 205649, 205521, 205265, 181201, 41905, 10129, 1024882, 1024754, 1024498, 898034, 185298, 46898, 46770, 46514, 42930, 902131, 231251, 231123, 230867, 206803, 47027, 11155, 1152884, 1152756, 1152500, 1026036, 210900, 52020, 51892, 51636, 48052]
theorem SI_J : prs (okJ 125125 2000 false SI) SI = true := by decide +kernel
theorem SI_0 : SI.all (okB 0 125125 2000 false SI) = true := by decide +kernel
theorem SI_1 : SI.all (okB 1 125125 2000 false SI) = true := by decide +kernel
theorem SI_2 : SI.all (okB 2 125125 2000 false SI) = true := by decide +kernel
theorem SI_c : SI.all (fun x => Nat.ble (pw (xF x) * xc x) 125125) = true := by decide +kernel
theorem SI_l : Lf SI := ⟨1921, by decide +kernel, by decide, by decide, by decide, by decide⟩
theorem SI_at {p : Nat} {L d F c : Nat → Nat} {bd : Nat → Option Nat} (hW : Wd p L d F c bd) : ∀ n k, k < n → k < 12 → ∃ x, x ∈ SI ∧ Dm p L d F c x k
  | 0, k, h, _ => by omega
  | n + 1, k, h, h12 => by
    have hp := hW.1
    obtain ⟨hst, h20, h3, h8⟩ := hW.2.1 k h12
    have ih := fun i (hi : i < k) => SI_at hW n i (by omega) (by omega)
    rcases hst with ⟨-, a⟩ | ⟨-, a⟩ | ⟨-, i, j, a1, a2, a3, a4, a5, a6⟩ | ⟨i, j, a1, a2, a3, a4, a5, a6, a7⟩
    · exact st_O SI_l ih (Or.inl a)
    · exact st_O SI_l ih (Or.inr a)
    · obtain ⟨x, hx, hdx⟩ := ih i a1
      obtain ⟨y, hy, hdy⟩ := ih j a2
      exact (st_J hp (prs_at (okJ_sym _ _ _ _) SI_J x hx y hy) hdx hdy h20 h8 a3 a4 a5 a6).2.2 rfl
    · obtain ⟨x, hx, hdx⟩ := ih i a1
      have hq : okB j 125125 2000 false SI x = true := by
        rcases j with _ | _ | _ | j
        · exact List.all_eq_true.mp SI_0 x hx
        · exact List.all_eq_true.mp SI_1 x hx
        · exact List.all_eq_true.mp SI_2 x hx
        · omega
      exact (st_B hp a2 hq hdx h20 h3 h8 a4 a5 a6 a7).2.2 rfl
theorem cap_at {p : Nat} {L d F c : Nat → Nat} {bd : Nat → Option Nat} (hW : Wd p L d F c bd) {k : Nat} (h12 : k < 12) : svF F c k ≤ 125125 := by
  obtain ⟨x, hx, hd⟩ := SI_at hW (k + 1) k (Nat.lt_succ_self k) h12
  exact Nat.le_trans (Nat.mul_le_mul (Dm_pw hW.1 (hW.2.1 k h12).2.2.2 hd) hd.2.2.2) (Nat.le_of_ble_eq_true (List.all_eq_true.mp SI_c x hx))
theorem cap_sm {p : Nat} {L d F c : Nat → Nat} {bd : Nat → Option Nat} (hW : Wd p L d F c bd) : ∀ r k, k + r = 12 → sm (svF F c) 12 ≤ sm (svF F c) k + r * 125125
  | 0, k, h => by rw [show k = 12 by omega]; omega
  | r + 1, k, h => by
    have h1 := cap_sm hW r (k + 1) (by omega)
    have h2 := cap_at hW (show k < 12 by omega)
    have h3 : sm (svF F c) (k + 1) = sm (svF F c) k + svF F c k := rfl
    rw [Nat.succ_mul]
    omega
theorem chp_ok {p : Nat} {L d F c : Nat → Nat} {bd : Nat → Option Nat} (hW : Wd p L d F c bd) : ∀ r k C, k + r = 12 → 1 ≤ C → (∀ i, i < k → c i ≤ C) → sm (svF F c) 12 ≤ sm (svF F c) k + chp r C
  | 0, k, C, h, _, _ => by rw [show k = 12 by omega]; exact Nat.le_add_right _ _
  | r + 1, k, C, h, h1, hc => by
    rw [chp]
    by_cases g : Nat.ble 501 C = true
    · rw [if_pos g]; exact cap_sm hW (r + 1) k h
    · rw [if_neg g]
      obtain ⟨hst, h20, h3, h8⟩ := hW.2.1 k (by omega)
      have m1 := Nat.le_max_left (250 * C + chp r (2 * C)) (125 * C + chp r (5 * C))
      have m2 := Nat.le_max_right (250 * C + chp r (2 * C)) (125 * C + chp r (5 * C))
      have hs : sm (svF F c) (k + 1) = sm (svF F c) k + svF F c k := rfl
      have two : c k ≤ 2 * C → svF F c k ≤ 250 * C → sm (svF F c) 12 ≤ sm (svF F c) k + max (250 * C + chp r (2 * C)) (125 * C + chp r (5 * C)) := fun e1 e2 => by
        have := chp_ok hW r (k + 1) (2 * C) (by omega) (by omega) (fun i hi => by
          rcases Nat.lt_or_ge i k with q | q
          · have := hc i q; omega
          · rw [show i = k by omega]; exact e1)
        omega
      have five : c k ≤ 5 * C → svF F c k ≤ 125 * C → sm (svF F c) 12 ≤ sm (svF F c) k + max (250 * C + chp r (2 * C)) (125 * C + chp r (5 * C)) := fun e1 e2 => by
        have := chp_ok hW r (k + 1) (5 * C) (by omega) (by omega) (fun i hi => by
          rcases Nat.lt_or_ge i k with q | q
          · have := hc i q; omega
          · rw [show i = k by omega]; exact e1)
        omega
      have s125 : svF F c k ≤ 125 * c k := Nat.mul_le_mul_right _ (p5_125 h8)
      rcases hst with ⟨-, a1, a2, a3⟩ | ⟨-, i, a1, a2, a3, a4, a5⟩ | ⟨-, i, j, a1, a2, a3, a4, a5, a6⟩ | ⟨i, j, a1, a2, a3, a4, a5, a6, a7⟩
      · exact two (by omega) (by omega)
      · have := hc i a1
        exact two (by omega) (by omega)
      · have := hc i a1
        have := hc j a2
        exact two (by omega) (by omega)
      · have := hc i a1
        refine five (by omega) ?_
        have s25 : svF F c k ≤ 25 * c k := by
          unfold svF
          rw [a6]
          exact Nat.mul_le_mul_right _ (p5_25 (hW.2.1 i (by omega)).2.2.2 (sg_3 hW.1 a2))
        omega
/-- from here the sum stays below -/
def Clm (e : Bool) (r nb : Nat) (S : List Nat) (C acc : Nat) : Prop := ∀ {p : Nat} {L d F c : Nat → Nat} {bd : Nat → Option Nat}, Wd p L d F c bd → ∀ k, k + r = 12 → 1 ≤ C → (e = false → Lf S ∧ ∀ i, i < k → ∃ x, x ∈ S ∧ Dm p L d F c x i) → (∀ i, i < k → c i ≤ C) → (∀ i j, i < k → bd i = some j → j < nb) → sm (svF F c) k ≤ acc → sm (svF F c) 12 ≤ RB
theorem Clm_e {r nb : Nat} {S : List Nat} {C acc : Nat} (h : Nat.ble (acc + chp r C) RB = true) : Clm true r nb S C acc := by
  intro p L d F c bd hW k hk h1 _ hC _ hs
  have := chp_ok hW r k C hk h1 hC
  have := Nat.le_of_ble_eq_true h
  omega
theorem Clm_n {r nb : Nat} {S : List Nat} {C acc : Nat} (bO aO : Nat) (eO : Bool) (bJ cJ : Nat) (SJ : List Nat) (nJ aJ : Nat) (eJ : Bool) (b0 c0 : Nat) (S0 : List Nat) (n0 a0 : Nat) (e0 : Bool) (b1 c1 : Nat) (S1 : List Nat) (n1 a1 : Nat) (e1 : Bool) (b2 c2 : Nat) (S2 : List Nat) (n2 a2 : Nat) (e2 : Bool) (hc : chkN nb S C acc bO aO bJ cJ SJ nJ aJ eJ b0 c0 S0 n0 a0 e0 b1 c1 S1 n1 a1 e1 b2 c2 S2 n2 a2 e2 = true) (tO : Clm eO r nb S C aO) (tJ : Clm eJ r nJ SJ cJ aJ) (t0 : 0 ≤ nb → Clm e0 r n0 S0 c0 a0) (t1 : 1 ≤ nb → Clm e1 r n1 S1 c1 a1) (t2 : 2 ≤ nb → Clm e2 r n2 S2 c2 a2) : Clm false (r + 1) nb S C acc := by
    intro p L d F c bd hW k hk h1 hN hC hb hs
    obtain ⟨hl, hi⟩ := hN rfl
    have h12 : k < 12 := by omega
    have hp := hW.1
    have hord := hW.2.2
    obtain ⟨hst, h20, h3, h8⟩ := hW.2.1 k h12
    unfold chkN at hc
    obtain ⟨cO, hc⟩ := Bool.and_eq_true_iff.mp hc
    obtain ⟨cJ', hc⟩ := Bool.and_eq_true_iff.mp hc
    obtain ⟨cB0, hc⟩ := Bool.and_eq_true_iff.mp hc
    obtain ⟨cB1, cB2⟩ := Bool.and_eq_true_iff.mp hc
    have hsm : sm (svF F c) (k + 1) = sm (svF F c) k + svF F c k := rfl
    have hcN : ∀ {C'}, C ≤ C' → c k ≤ C' → ∀ i, i < k + 1 → c i ≤ C' := fun q1 q2 i hi2 => by
      rcases Nat.lt_or_ge i k with q | q
      · have := hC i q; omega
      · rw [show i = k by omega]; exact q2
    have hiN : ∀ {S' : List Nat}, S.all (okS S') = true → (∃ z, z ∈ S' ∧ Dm p L d F c z k) → ∀ i, i < k + 1 → ∃ x, x ∈ S' ∧ Dm p L d F c x i := fun q1 q2 i hi2 => by
      rcases Nat.lt_or_ge i k with q | q
      · obtain ⟨x, hx, hd⟩ := hi i q
        exact st_S q1 hx hd
      · rw [show i = k by omega]; exact q2
    have hb0 : bd k = none → ∀ i j, i < k + 1 → bd i = some j → j < nb := fun q1 i j hi2 q2 => by
      rcases Nat.lt_or_ge i k with q | q
      · exact hb i j q q2
      · rw [show i = k by omega, q1] at q2; cases q2
    have O_ : bd k = none → ((L k = 1 ∧ d k = 0 ∧ c k = 1) ∨ ∃ i, i < k ∧ L k = 1 + L i ∧ d k = d i ∧ F k = F i ∧ c k = c i) → sm (svF F c) 12 ≤ RB := fun q1 q0 => by
      obtain ⟨x, hx, hd⟩ := st_O hl hi q0
      rw [Bool.and_eq_true, Bool.and_eq_true] at cO
      obtain ⟨⟨-, g1⟩, g2⟩ := cO
      have g2 := Nat.le_of_ble_eq_true g2
      have e1 := Nat.le_of_ble_eq_true (List.all_eq_true.mp g1 x hx)
      have e2 : svF F c k ≤ pw (xF x) * xc x := Nat.mul_le_mul (Dm_pw hp h8 hd) hd.2.2.2
      have hck : c k ≤ C := by
        rcases q0 with ⟨a1, a2, a3⟩ | ⟨i, a1, a2, a3, a4, a5⟩
        · omega
        · have := hC i a1; omega
      exact tO hW (k + 1) (by omega) h1 (fun _ => ⟨hl, fun i hi2 => by
        rcases Nat.lt_or_ge i k with q | q
        · exact hi i q
        · rw [show i = k by omega]; exact ⟨x, hx, hd⟩⟩) (hcN (Nat.le_refl C) hck) (hb0 q1) (by omega)
    have B_ : ∀ (j b C' : Nat) (S' : List Nat) (nb' a' : Nat) (e' : Bool), Clm e' r nb' S' C' a' → j < 3 → bd k = some j → ((((Nat.ble C C' && S.all (okB j b C' e' S')) && (e' || S.all (okS S'))) && (Nat.ble (acc + b) a' && (Nat.ble nb nb' && Nat.ble (j + 1) nb'))) = true) → (∃ i, i < k ∧ L k = 1 + L i ∧ d k = 1 + d i ∧ F k = nd (F i) (2 ^ sg p j) ∧ c k = 5 * c i) → sm (svF F c) 12 ≤ RB := fun j b C' S' nb' a' e' ih hj hbk hq ⟨i, a1, a4, a5, a6, a7⟩ => by
      rw [Bool.and_eq_true, Bool.and_eq_true, Bool.and_eq_true, Bool.and_eq_true, Bool.and_eq_true] at hq
      obtain ⟨⟨⟨qC, qP⟩, qS⟩, qA, qN, qM⟩ := hq
      have qC := Nat.le_of_ble_eq_true qC
      have qA := Nat.le_of_ble_eq_true qA
      have qN := Nat.le_of_ble_eq_true qN
      have qM := Nat.le_of_ble_eq_true qM
      obtain ⟨x, hx, hdx⟩ := hi i a1
      have hz := st_B hp hj (List.all_eq_true.mp qP x hx) hdx h20 h3 h8 a4 a5 a6 a7
      exact ih hW (k + 1) (by omega) (by omega) (fun e => by
        rw [e, Bool.false_or] at qS
        exact ⟨Lf_S qS hl, hiN qS (hz.2.2 e)⟩) (hcN qC hz.2.1) (fun i2 j2 hi2 q2 => by
        rcases Nat.lt_or_ge i2 k with q | q
        · have := hb i2 j2 q q2; omega
        · rw [show i2 = k by omega, hbk] at q2
          have := Option.some.inj q2; omega) (by omega)
    have nbj : ∀ j, bd k = some j → j ≤ nb := fun j q => by
      rcases Nat.lt_or_ge nb j with q1 | q1
      · obtain ⟨k', q2, q3⟩ := hord k j h12 q nb q1
        exact absurd (hb k' nb q2 q3) (Nat.lt_irrefl nb)
      · exact q1
    rcases hst with ⟨q, a⟩ | ⟨q, a⟩ | ⟨q, i, j, a1, a2, a3, a4, a5, a6⟩ | ⟨i, j, g1, g2, g3, g4, g5, g6, g7⟩
    · exact O_ q (Or.inl a)
    · exact O_ q (Or.inr a)
    · rw [Bool.and_eq_true, Bool.and_eq_true, Bool.and_eq_true, Bool.and_eq_true] at cJ'
      obtain ⟨⟨⟨qC, qP⟩, qS⟩, qA, qN⟩ := cJ'
      have qA := Nat.le_of_ble_eq_true qA
      have qN := Nat.le_of_ble_eq_true qN
      have qC := Nat.le_of_ble_eq_true qC
      obtain ⟨x, hx, hdx⟩ := hi i a1
      obtain ⟨y, hy, hdy⟩ := hi j a2
      have hz := st_J hp (prs_at (okJ_sym _ _ _ _) qP x hx y hy) hdx hdy h20 h8 a3 a4 a5 a6
      exact tJ hW (k + 1) (by omega) (by omega) (fun e => by
        rw [e, Bool.false_or] at qS
        exact ⟨Lf_S qS hl, hiN qS (hz.2.2 e)⟩) (hcN qC hz.2.1) (fun i2 j2 hi2 q2 => Nat.lt_of_lt_of_le (hb0 q i2 j2 hi2 q2) qN) (by omega)
    · have hj := nbj j g3
      rcases j with _ | _ | _ | j
      · exact B_ 0 b0 c0 S0 n0 a0 e0 (t0 (by omega)) (by decide) g3 cB0 ⟨i, g1, g4, g5, g6, g7⟩
      · rw [show Nat.ble nb 0 = false by
          cases q : Nat.ble nb 0
          · rfl
          · have := Nat.le_of_ble_eq_true q; omega, Bool.false_or] at cB1
        exact B_ 1 b1 c1 S1 n1 a1 e1 (t1 (by omega)) (by decide) g3 cB1 ⟨i, g1, g4, g5, g6, g7⟩
      · rw [show Nat.ble nb 1 = false by
          cases q : Nat.ble nb 1
          · rfl
          · have := Nat.le_of_ble_eq_true q; omega, Bool.false_or] at cB2
        exact B_ 2 b2 c2 S2 n2 a2 e2 (t2 (by omega)) (by decide) g3 cB2 ⟨i, g1, g4, g5, g6, g7⟩
      · omega
