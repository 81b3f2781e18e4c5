/-! the room: the law's formulas -/
theorem cst_n {R : Nat → RRow} {rc : Nat} {T : Nat → TRow} {At : Nat → TAtt} {m N : Nat} (hG : ∀ i, i < N → Gd R rc T At i) : ∀ i n, i < N → i < n → cst T m n i = cst T m (i + 1) i := by
  have key : ∀ w i n, i < w → i < N → i < n → cst T m n i = cst T m (i + 1) i := by
    intro w
    induction w with
    | zero => intro i n h; omega
    | succ w ih =>
      intro i n hw hN hn
      obtain ⟨n, rfl⟩ : ∃ x, n = x + 1 := ⟨n - 1, by omega⟩
      rcases hG i hN with ⟨h, -⟩ | ⟨h, -⟩ | ⟨h, h1, -⟩ | ⟨h, h1, h2, -⟩ | ⟨h, h1, h2, -⟩ | ⟨h, h1, -⟩ | ⟨h, h1, -⟩
      · rw [cst_0 (by omega), cst_0 (by omega)]
      · rw [cst_0 (by omega), cst_0 (by omega)]
      · rw [cst_2 h, cst_2 h, ih _ n (by omega) (by omega) (by omega), ih _ i (by omega) (by omega) h1]
      · rw [cst_3 (Or.inl h), cst_3 (Or.inl h), ih _ n (by omega) (by omega) (by omega), ih _ i (by omega) (by omega) h1, ih (T i).2.2.1 n (by omega) (by omega) (by omega), ih (T i).2.2.1 i (by omega) (by omega) h2]
      · rw [cst_3 (Or.inr h), cst_3 (Or.inr h), ih _ n (by omega) (by omega) (by omega), ih _ i (by omega) (by omega) h1, ih (T i).2.2.1 n (by omega) (by omega) (by omega), ih (T i).2.2.1 i (by omega) (by omega) h2]
      · rw [cst_5 (by omega), cst_5 (by omega), ih _ n (by omega) (by omega) (by omega), ih _ i (by omega) (by omega) h1]
      · rw [cst_5 (by omega), cst_5 (by omega), ih _ n (by omega) (by omega) (by omega), ih _ i (by omega) (by omega) h1]
  exact fun i n h1 h2 => key (i + 1) i n (Nat.lt_succ_self i) h1 h2
theorem cst_mono {T : Nat → TRow} {m m' : Nat} (h : m ≤ m') : ∀ n i, cst T m n i ≤ cst T m' n i
  | 0, _ => Nat.le_refl 0
  | n + 1, i => by
    rw [cst, cst]
    split
    · exact Nat.le_refl 1
    · split
      · exact cst_mono h n _
      · split
        · exact Nat.add_le_add (cst_mono h n _) (cst_mono h n _)
        · exact Nat.mul_le_mul h (cst_mono h n _)
theorem sg_ex_all : ((List.range 3).all fun a => (List.range 3).all fun b => decide (a = b) || (List.range 6).any fun p => decide (sg p 0 = a) && decide (sg p 1 = b)) = true := by decide +kernel
theorem sg_ex {a b : Nat} (ha : a < 3) (hb : b < 3) (hn : a ≠ b) : ∃ p, p < 6 ∧ sg p 0 = a ∧ sg p 1 = b := by
  have := List.all_eq_true.mp (List.all_eq_true.mp sg_ex_all a (List.mem_range.mpr ha)) b (List.mem_range.mpr hb)
  rw [decide_eq_false hn, Bool.false_or] at this
  obtain ⟨p, h1, h2⟩ := List.any_eq_true.mp this
  rw [Bool.and_eq_true, decide_eq_true_eq, decide_eq_true_eq] at h2
  exact ⟨p, List.mem_range.mp h1, h2⟩
theorem sg_all3 : ((List.range 6).all fun p => (List.range 3).all fun v => (List.range 3).any fun j => decide (sg p j = v)) = true := by decide +kernel
theorem sg_sur {p v : Nat} (hp : p < 6) (hv : v < 3) : ∃ j, j < 3 ∧ sg p j = v := by
  obtain ⟨j, h1, h2⟩ := List.any_eq_true.mp (List.all_eq_true.mp (List.all_eq_true.mp sg_all3 p (List.mem_range.mpr hp)) v (List.mem_range.mpr hv))
  exact ⟨j, List.mem_range.mp h1, of_decide_eq_true h2⟩
/-- the variables in the order in which they are bound -/
theorem ord_p {b : Nat → Bool} {v : Nat → Nat} (hv : ∀ k, k < 12 → v k < 3) : ∃ p, p < 6 ∧ ∀ k, k < 12 → b k = true → ∀ j, j < 3 → sg p j = v k → ∀ i, i < j → ∃ k', k' < k ∧ b k' = true ∧ v k' = sg p i := by
  rcases Nat.lt_or_ge (ft b 12) 12 with h0 | h0
  · have y0 := ft_yes b 12 h0
    have n0 := ft_no b 12
    generalize ft b 12 = k0 at h0 y0 n0
    rcases Nat.lt_or_ge (ft (fun k => b k && !decide (v k = v k0)) 12) 12 with h1 | h1
    · have y1 := ft_yes _ 12 h1
      have n1 := ft_no (fun k => b k && !decide (v k = v k0)) 12
      generalize ft (fun k => b k && !decide (v k = v k0)) 12 = k1 at h1 y1 n1
      rw [Bool.and_eq_true, Bool.not_eq_true'] at y1
      have hne : v k0 ≠ v k1 := fun z => of_decide_eq_false y1.2 z.symm
      obtain ⟨p, hp, p0, p1⟩ := sg_ex (hv k0 h0) (hv k1 h1) hne
      refine ⟨p, hp, fun k hk hb j hj e i hi => ?_⟩
      have a0 : k0 < k := by
        rcases Nat.lt_or_ge k0 k with g | g
        · exact g
        · exfalso
          rcases Nat.lt_or_ge k k0 with g2 | g2
          · rw [n0 k g2] at hb; cases hb
          · have : k = k0 := by omega
            subst this
            have := sg_inj hp hj (by decide) (e.trans p0.symm)
            omega
      rcases i with _ | _ | i
      · exact ⟨k0, a0, y0, p0.symm⟩
      · refine ⟨k1, ?_, y1.1, p1.symm⟩
        have h2 : ¬ v k = v k0 := fun z => by
          have := sg_inj hp hj (by decide) ((e.trans z).trans p0.symm)
          omega
        rcases Nat.lt_or_ge k1 k with g | g
        · exact g
        · exfalso
          rcases Nat.lt_or_ge k k1 with g2 | g2
          · have := n1 k g2
            rw [hb, decide_eq_false h2] at this
            cases this
          · have : k = k1 := by omega
            subst this
            have := sg_inj hp hj (by decide) (e.trans p1.symm)
            omega
      · omega
    · have n1 := ft_no (fun k => b k && !decide (v k = v k0)) 12
      obtain ⟨p, hp, p0, -⟩ := sg_ex (hv k0 h0) (show (v k0 + 1) % 3 < 3 from Nat.mod_lt _ (by decide)) (by have := hv k0 h0; omega)
      refine ⟨p, hp, fun k hk hb j hj e i hi => ?_⟩
      have := n1 k (by omega)
      rw [hb, Bool.true_and, Bool.not_eq_false'] at this
      have := sg_inj hp hj (by decide) ((e.trans (of_decide_eq_true this)).trans p0.symm)
      omega
  · have n0 := ft_no b 12
    refine ⟨0, by decide, fun k hk hb => ?_⟩
    rw [n0 k (by omega)] at hb; cases hb
/-- the rows that own.holds makes, over all answers of the 12 formulas -/
theorem rm_law {R : Nat → RRow} {rc : Nat} {T : Nat → TRow} {At : Nat → TAtt} (hG : ∀ i, i < 12 → Gd R rc T At i) (hT : TlB T At 12) : sm (svF (fun i => (At i).1) (fun i => cst T 5 12 i)) 12 ≤ 590000 := by
  obtain ⟨p, hp, hord⟩ := ord_p (b := fun k => decide (5 ≤ (T k).1)) (v := fun k => (T k).2.2.2.1) (fun k hk => (hT k hk).2.2.2.2.2)
  have hin : ∀ k, k < 12 → ∃ j, j < 3 ∧ sg p j = (T k).2.2.2.1 := fun k hk => sg_sur hp (hT k hk).2.2.2.2.2
  let J : Nat → Nat := fun v => if sg p 0 = v then 0 else if sg p 1 = v then 1 else 2
  have hJ : ∀ k, k < 12 → J (T k).2.2.2.1 < 3 ∧ sg p (J (T k).2.2.2.1) = (T k).2.2.2.1 := fun k hk => by
    obtain ⟨j, h1, h2⟩ := hin k hk
    show (if sg p 0 = _ then 0 else if sg p 1 = _ then 1 else 2) < 3 ∧ sg p (if sg p 0 = _ then 0 else if sg p 1 = _ then 1 else 2) = _
    by_cases g0 : sg p 0 = (T k).2.2.2.1
    · rw [if_pos g0]; exact ⟨by decide, g0⟩
    · by_cases g1 : sg p 1 = (T k).2.2.2.1
      · rw [if_neg g0, if_pos g1]; exact ⟨by decide, g1⟩
      · rw [if_neg g0, if_neg g1]
        refine ⟨by decide, ?_⟩
        rcases j with _ | _ | _ | j
        · exact absurd h2 g0
        · exact absurd h2 g1
        · exact h2
        · omega
  have hc : ∀ i k, i < k → k < 12 → cst T 5 k i = cst T 5 12 i := fun i k h1 h2 => by rw [cst_n hG i k (by omega) h1, cst_n hG i 12 (by omega) (by omega)]
  have hk1 : ∀ k, k < 12 → cst T 5 12 k = cst T 5 (k + 1) k := fun k hk => cst_n hG k 12 hk hk
  have hW : Wd p (fun i => (At i).2.2.1) (fun i => (At i).2.1) (fun i => (At i).1) (fun i => cst T 5 12 i) (fun k => if 5 ≤ (T k).1 then some (J (T k).2.2.2.1) else none) := by
    refine ⟨hp, fun k hk => ⟨?_, (hT k hk).2.2.1, (hT k hk).2.1, (hT k hk).1⟩, fun k j hk hj i hi => ?_⟩
    · show Stq p (fun i => (At i).2.2.1) (fun i => (At i).2.1) (fun i => (At i).1) (fun i => cst T 5 12 i) _ k
      unfold Stq
      dsimp only
      rcases hG k hk with ⟨h, -, -, e⟩ | ⟨h, -, e⟩ | ⟨h, h1, e⟩ | ⟨h, h1, h2, e⟩ | ⟨h, h1, h2, e⟩ | ⟨h, h1, -, e⟩ | ⟨h, h1, -, e⟩
      · exact Or.inl ⟨if_neg (by omega), by rw [e], by rw [e], by rw [hk1 k hk, cst_0 (by omega)]⟩
      · exact Or.inl ⟨if_neg (by omega), by rw [e], by rw [e], by rw [hk1 k hk, cst_0 (by omega)]⟩
      · exact Or.inr (Or.inl ⟨if_neg (by omega), (T k).2.1, h1, by rw [e], by rw [e], by rw [e], by rw [hk1 k hk, cst_2 h]; exact hc _ k h1 hk⟩)
      · exact Or.inr (Or.inr (Or.inl ⟨if_neg (by omega), (T k).2.1, (T k).2.2.1, h1, h2, by rw [e], by rw [e], by rw [e], by rw [hk1 k hk, cst_3 (Or.inl h), hc _ k h1 hk, hc _ k h2 hk]⟩))
      · exact Or.inr (Or.inr (Or.inl ⟨if_neg (by omega), (T k).2.1, (T k).2.2.1, h1, h2, by rw [e], by rw [e], by rw [e], by rw [hk1 k hk, cst_3 (Or.inr h), hc _ k h1 hk, hc _ k h2 hk]⟩))
      · exact Or.inr (Or.inr (Or.inr ⟨(T k).2.1, J (T k).2.2.2.1, h1, (hJ k hk).1, if_pos (by omega), by rw [e], by rw [e], by rw [(hJ k hk).2, e], by rw [hk1 k hk, cst_5 (by omega), hc _ k h1 hk]⟩))
      · exact Or.inr (Or.inr (Or.inr ⟨(T k).2.1, J (T k).2.2.2.1, h1, (hJ k hk).1, if_pos (by omega), by rw [e], by rw [e], by rw [(hJ k hk).2, e], by rw [hk1 k hk, cst_5 (by omega), hc _ k h1 hk]⟩))
    · have hj : (if 5 ≤ (T k).1 then some (J (T k).2.2.2.1) else none) = some j := hj
      by_cases g : 5 ≤ (T k).1
      · rw [if_pos g] at hj
        have e := Option.some.inj hj
        obtain ⟨k', q1, q2, q3⟩ := hord k hk (decide_eq_true g) j (by rw [← e]; exact (hJ k hk).1) (by rw [← e]; exact (hJ k hk).2) i hi
        refine ⟨k', q1, ?_⟩
        show (if 5 ≤ (T k').1 then some (J (T k').2.2.2.1) else none) = some i
        rw [if_pos (of_decide_eq_true q2)]
        congr 1
        have hj3 : j < 3 := by rw [← e]; exact (hJ k hk).1
        exact sg_inj hp (hJ k' (by omega)).1 (by omega) ((hJ k' (by omega)).2.trans q3)
      · rw [if_neg g] at hj; cases hj
  refine rm_all hW (fun i hi => ?_)
  have h0 := (hT i (by omega)).2.2.2.2.1 hi
  rcases hG i (by omega) with ⟨h, -, -, e⟩ | ⟨h, -⟩ | ⟨h, -⟩ | ⟨h, -⟩ | ⟨h, -⟩ | ⟨h, -⟩ | ⟨h, -⟩
  · exact ⟨if_neg (by omega), by rw [e], by rw [e], by rw [hk1 i (by omega), cst_0 (by omega)]⟩
  all_goals omega
theorem sm_le {f g : Nat → Nat} : ∀ n, (∀ i, i < n → f i ≤ g i) → sm f n ≤ sm g n
  | 0, _ => Nat.le_refl 0
  | n + 1, h => by
    have := sm_le n (fun i hi => h i (by omega))
    have := h n (by omega)
    rw [sm, sm]; omega
theorem sm_at {f : Nat → Nat} : ∀ {n i : Nat}, i < n → sm f i + f i ≤ sm f n
  | n + 1, i, h => by
    rw [sm]
    rcases Nat.lt_or_ge i n with g | g
    · have := sm_at (f := f) g; omega
    · rw [show i = n by omega]; exact Nat.le_refl _
/-- all rows of terms that own.holds makes in the law -/
theorem rm_an {R : Nat → RRow} {T : Nat → TRow} {At : Nat → TAtt} (hG : ∀ i, i < 12 → Gd R 3 T At i) (hT : TlB T At 12) (hR : ∀ r, r < 3 → ∀ j, j < (R r).2.1 → ∀ u, u < (R r).1 → dg (R r).1 ((R r).2.2 j) u < 5) : sm (fun i => ct (ans R 3 T At 12 i) 512 * cst T (ct (domF R 3 At i).testBit 8) 12 i) 12 ≤ 590000 := by
  refine Nat.le_trans (sm_le 12 fun i hi => ?_) (rm_law hG hT)
  have h5 : ct (domF R 3 At i).testBit 8 ≤ 5 := dom_ct (domF_5 (hT i hi).2.2.2.1 hR)
  refine Nat.mul_le_mul (Nat.le_trans (anB_ct (hT i hi).1) ?_) (cst_mono h5 12 i)
  exact Nat.pow_le_pow_left h5 _
