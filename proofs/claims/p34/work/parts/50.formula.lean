/-! the law: tell: a formula more -/
theorem Gd_a {R : Nat → RRow} {rc : Nat} {T : Nat → TRow} {At : Nat → TAtt} {i : Nat} (h : Gd R rc T At i) : (2 ≤ (T i).1 → (T i).2.1 < i) ∧ ((T i).1 = 3 ∨ (T i).1 = 4 → (T i).2.2.1 < i) := by
  rcases h with ⟨h, -⟩ | ⟨h, -⟩ | ⟨h, h1, -⟩ | ⟨h, h1, h2, -⟩ | ⟨h, h1, h2, -⟩ | ⟨h, h1, -⟩ | ⟨h, h1, -⟩ <;> exact ⟨fun _ => by omega, fun _ => by omega⟩
theorem pso_congr {T T' : Nat → TRow} {a u : Nat} (h : T' a = T a) : pso T' a u = pso T a u := by unfold pso; rw [h]
theorem Gd_congr {R : Nat → RRow} {rc : Nat} {T T' : Nat → TRow} {At At' : Nat → TAtt} {i : Nat} (h : ∀ j, j ≤ i → T' j = T j ∧ At' j = At j) (hG : Gd R rc T At i) : Gd R rc T' At' i := by
  have e1 := (h i (Nat.le_refl i)).1
  have e2 := (h i (Nat.le_refl i)).2
  unfold Gd
  rw [e1, e2]
  rcases hG with h0 | h0 | ⟨hk, ha, hA⟩ | ⟨hk, ha, hb, hA⟩ | ⟨hk, ha, hb, hA⟩ | ⟨hk, ha, hv, hA⟩ | ⟨hk, ha, hv, hA⟩
  · exact Or.inl h0
  · exact Or.inr (Or.inl h0)
  · refine Or.inr (Or.inr (Or.inl ⟨hk, ha, ?_⟩))
    rw [(h _ (Nat.le_of_lt ha)).2]; exact hA
  · refine Or.inr (Or.inr (Or.inr (Or.inl ⟨hk, ha, hb, ?_⟩)))
    rw [(h _ (Nat.le_of_lt ha)).2, (h _ (Nat.le_of_lt hb)).2, pso_congr (h _ (Nat.le_of_lt ha)).1, pso_congr (h _ (Nat.le_of_lt hb)).1]; exact hA
  · refine Or.inr (Or.inr (Or.inr (Or.inr (Or.inl ⟨hk, ha, hb, ?_⟩))))
    rw [(h _ (Nat.le_of_lt ha)).2, (h _ (Nat.le_of_lt hb)).2]; exact hA
  · refine Or.inr (Or.inr (Or.inr (Or.inr (Or.inr (Or.inl ⟨hk, ha, hv, ?_⟩)))))
    rw [(h _ (Nat.le_of_lt ha)).2]; exact hA
  · refine Or.inr (Or.inr (Or.inr (Or.inr (Or.inr (Or.inr ⟨hk, ha, hv, ?_⟩)))))
    rw [(h _ (Nat.le_of_lt ha)).2]; exact hA
theorem AtO.mono {O O' : Nat × va_E → Prop} {cy : Nat → ClassId} {b at_ P : Nat} {t : Nat → Nat} (h : ∀ q, O q → O' q) : AtO O cy b at_ P t → AtO O' cy b at_ P t := fun ⟨tm, a, b⟩ => ⟨tm, h _ a, b.mono h⟩
theorem FcO.ext {O O' : Nat × va_E → Prop} {cy : Nat → ClassId} {R : Nat → RRow} {rb : Nat → Nat} {T T' : Nat → TRow} {At At' : Nat → TAtt} {ad ad' : Nat → Nat} {rc i : Nat} (h : ∀ q, O q → O' q) (he : ∀ j, j ≤ i → T' j = T j ∧ At' j = At j ∧ ad' j = ad j) (hG : Gd R rc T At i) (hF : FcO O cy R rb T At ad i) : FcO O' cy R rb T' At' ad' i := by
  obtain ⟨e1, e2, e3⟩ := he i (Nat.le_refl i)
  obtain ⟨p1, p2, p3, p4, vv, f1, f2, f3, f4, f5, f6⟩ := hF
  obtain ⟨ga, gb⟩ := Gd_a hG
  unfold FcO
  rw [e1, e2, e3]
  refine ⟨p1, p2, p3, p4, vv, h _ f1, fun z => ?_, fun z => ?_, fun z => ?_, fun z => ?_, f6⟩
  · obtain ⟨at_, g1, g2⟩ := f2 z; exact ⟨at_, g1, g2.mono h⟩
  · obtain ⟨tm, g1, g2⟩ := f3 z; exact ⟨tm, g1, g2.mono h⟩
  · rw [(he _ (Nat.le_of_lt (ga z))).2.2]; exact f4 z
  · rw [(he _ (Nat.le_of_lt (gb z))).2.2]; exact f5 z
theorem up_at {α : Type} (f : Nat → α) (k : Nat) (v : α) : up f k v k = v := if_pos rfl
theorem up_ne {α : Type} {f : Nat → α} {k j : Nat} {v : α} (h : j ≠ k) : up f k v j = f j := if_neg h
/-- the formulas' world with one more -/
theorem FW.ext {O O' : Nat × va_E → Prop} {cy : Nat → ClassId} {R : Nat → RRow} {rc : Nat} {rb : Nat → Nat} {T : Nat → TRow} {At : Nat → TAtt} {ad : Nat → Nat} {k z : Nat} {row : TRow} {att : TAtt} (h : ∀ q, O q → O' q) (hW : FW O cy R rc rb T At ad k) (hF : FcO O' cy R rb (up T k row) (up At k att) (up ad k z) k) (hG : Gd R rc (up T k row) (up At k att) k) : FW O' cy R rc rb (up T k row) (up At k att) (up ad k z) (k + 1) := by
  refine ⟨fun j hj => (hW.1 j hj).mono h, fun i hi => ?_⟩
  rcases Nat.lt_or_ge i k with g | g
  · have he : ∀ j, j ≤ i → up T k row j = T j ∧ up At k att j = At j ∧ up ad k z j = ad j := fun j hj => ⟨up_ne (by omega), up_ne (by omega), up_ne (by omega)⟩
    exact ⟨FcO.ext h he (hW.2 i g).2 (hW.2 i g).1, Gd_congr (fun j hj => ⟨(he j hj).1, (he j hj).2.1⟩) (hW.2 i g).2⟩
  · rw [show i = k by omega]; exact ⟨hF, hG⟩
theorem rowT_congr {T T' : Nat → TRow} {i : Nat} {f : Nat → Int32} (h : T' i = T i) (hT : rowT T i f) : rowT T' i f := by unfold rowT; rw [h]; exact hT
theorem LFm.ext {O O' : Nat × va_E → Prop} {cy : Nat → ClassId} {q1 k rw9 : Nat} {T : Nat → TRow} {row : TRow} {FM : Nat → Option Nat} {ri : Nat → Nat} {f : Nat → Int32} (h : ∀ q, O q → O' q) (hL : ∀ i, i < k → FM i = some (ri i) ∧ ∃ f : Nat → Int32, O (ri i, .inl (cy 0, 8, .inl f)) ∧ rowT T i f) (hq : O' (q1, .inl (cy 6, k + 1, .inr (.inr (.inr (.inr (va_up (va_cpy FM (fun _ => none) 0 0 k) k (some rw9)))))))) (hr : O' (rw9, .inl (cy 0, 8, .inl f))) (hT : rowT (up T k row) k f) : LFm O' cy q1 (k + 1) (up T k row) := by
  refine ⟨_, up ri k rw9, hq, fun i hi => ?_⟩
  rcases Nat.lt_or_ge i k with g | g
  · obtain ⟨h1, f0, h2, h3⟩ := hL i g
    exact ⟨by rw [vuc_lt g, h1, up_ne (by omega)], f0, by rw [up_ne (by omega)]; exact h _ h2, rowT_congr (up_ne (by omega)) h3⟩
  · rw [show i = k by omega]
    exact ⟨by rw [va_up_self, up_at], f, by rw [up_at]; exact hr, hT⟩
/-- passedOn of a formula of the table -/
theorem Ps_of {O : Nat × va_E → Prop} {cy : Nat → ClassId} {R : Nat → RRow} {rb : Nat → Nat} {T : Nat → TRow} {At : Nat → TAtt} {ad : Nat → Nat} {rc a b : Nat} (hF : FcO O cy R rb T At ad a) (hG : Gd R rc T At a) : Ps O (ad a) b (pso T a b) := by
  obtain ⟨p1, p2, p3, p4, vv, f1, f2, f3, -⟩ := hF
  by_cases h : (T a).1 = 1
  · obtain ⟨tm, rfl, ta, Tf, g1, -, g3⟩ := f3 h
    rw [h] at f1
    have ht : ∀ k, k < 2 → isT ((T a).2.2.2.2.2 k) := fun k hk => (g3 k hk).2
    refine Or.inr ⟨_, _, _, _, _, tm, _, _, _, _, _, _, vsf (T a).2.2.2.2.2 2, vlf (T a).2.2.2.2.2 2, _, _, f1, g1, Nat.lt_trans (vsf_lt _ _) (by decide), Nat.lt_trans (vlf_lt ht) (by decide), ?_⟩
    unfold pso
    by_cases h2 : vlf (T a).2.2.2.2.2 2 = 0 ∧ vsf (T a).2.2.2.2.2 2 &&& b ≠ 0
    · rw [if_pos h2, if_pos ⟨h, h2⟩]
    · rw [if_neg h2, if_neg (fun z => h2 z.2)]
  · refine Or.inl ⟨_, _, _, _, _, _, _, _, _, _, _, _, _, f1, fun z => ?_, ?_⟩
    · have := Gd_kd hG
      exact h ((nI_eq (by omega) (by decide)).mp z)
    · unfold pso; rw [if_neg (fun z => h z.1)]
/-- the loom's row of a formula -/
def rwv (kd rl : Nat) (t : Nat → Nat) (x y v : Nat) : Nat → Int32 := fun u => if u = 0 then nI kd else if u = 1 then nI rl else if u < 5 then nI (t (u - 2)) else if u = 5 then nI x else if u = 6 then nI y else if u = 7 then nI v else 0
def t3 (t0 t1 t2 : Nat) : Nat → Nat := fun k => if k = 0 then t0 else if k = 1 then t1 else t2
theorem rwv_fill {kd rl t0 t1 t2 v : Nat} : upd (upd (upd (upd (upd (upd (upd (upd (fun _ => 0) 0 (nI kd)) 1 (nI rl)) 2 (nI t0)) 3 (nI t1)) 4 (nI t2)) 5 0) 6 0) 7 (nI v) = rwv kd rl (t3 t0 t1 t2) 0 0 v := funext fun u => by
  match u with
  | 0 => rfl
  | 1 => rfl
  | 2 => rfl
  | 3 => rfl
  | 4 => rfl
  | 5 => rfl
  | 6 => rfl
  | 7 => rfl
  | u + 8 => simp [upd, rwv]; intro h; omega
theorem rwv_0 {kd kd' rl x y v : Nat} {t : Nat → Nat} : upd (rwv kd rl t x y v) 0 (nI kd') = rwv kd' rl t x y v := funext fun u => by
  by_cases h : u = 0
  · subst h; rfl
  · rw [pk_un h]; simp [rwv, h]
theorem rwv_5 {kd rl x x' y v : Nat} {t : Nat → Nat} : upd (rwv kd rl t x y v) 5 (nI x') = rwv kd rl t x' y v := funext fun u => by
  by_cases h : u = 5
  · subst h; rfl
  · rw [pk_un h]; simp [rwv, h]
theorem rwv_6 {kd rl x y y' v : Nat} {t : Nat → Nat} : upd (rwv kd rl t x y v) 6 (nI y') = rwv kd rl t x y' v := funext fun u => by
  by_cases h : u = 6
  · subst h; rfl
  · rw [pk_un h]; simp [rwv, h]
theorem rwv_T {T : Nat → TRow} {k kd rl x y v : Nat} {t : Nat → Nat} (h : T k = (kd, x, y, v, rl, t)) : rowT T k (rwv kd rl t x y v) := by
  unfold rowT
  rw [h]
  refine ⟨rfl, rfl, fun j hj => ?_, fun _ => rfl, fun _ => rfl, fun _ => rfl⟩
  have : j = 0 ∨ j = 1 ∨ j = 2 := by omega
  rcases this with rfl | rfl | rfl <;> rfl
theorem a3_t3 {t0 t1 t2 : Nat} {P : Nat} (hP : P ≤ 3) : ∀ j, j < P → a3 (nI t0) (nI t1) (nI t2) j = nI (t3 t0 t1 t2 j) := fun j hj => by
  have : j = 0 ∨ j = 1 ∨ j = 2 := by omega
  rcases this with rfl | rfl | rfl <;> rfl
/-- what is kept in bounds, formula by formula -/
def TlB (T : Nat → TRow) (At : Nat → TAtt) (k : Nat) : Prop := ∀ i, i < k → (At i).1 < 8 ∧ (At i).2.1 ≤ 3 ∧ (At i).2.2.1 ≤ 20 ∧ (At i).2.2.2.2.2.1 < 16 ∧ (i < 2 → (T i).1 = 0) ∧ (T i).2.2.2.1 < 3
theorem TlB.ext {T : Nat → TRow} {At : Nat → TAtt} {k : Nat} {row : TRow} {att : TAtt} (h : TlB T At k) (h1 : att.1 < 8) (h2 : att.2.1 ≤ 3) (h3 : att.2.2.1 ≤ 20) (h4 : att.2.2.2.2.2.1 < 16) (h5 : k < 2 → row.1 = 0) (h6 : row.2.2.2.1 < 3) : TlB (up T k row) (up At k att) (k + 1) := fun i hi => by
  rcases Nat.lt_or_ge i k with g | g
  · rw [up_ne (by omega), up_ne (by omega)]; exact h i g
  · rw [show i = k by omega, up_at, up_at]; exact ⟨h1, h2, h3, h4, h5, h6⟩
theorem vsf_8 {t : Nat → Nat} {n : Nat} (h : ∀ k, k < n → t k < 3 ∨ 10 ≤ t k) : vsf t n < 2 ^ 3 := by
  refine Nat.lt_pow_two_of_testBit _ fun i hi => ?_
  cases e : (vsf t n).testBit i
  · rfl
  · obtain ⟨u, h1, h2, h3⟩ := vsf_bit.mp e
    rcases h u h1 with h4 | h4 <;> omega
theorem vlf_16 {t : Nat → Nat} {n : Nat} (h : ∀ k, k < n → t k < 14) : vlf t n < 2 ^ 4 := by
  refine Nat.lt_pow_two_of_testBit _ fun i hi => ?_
  cases e : (vlf t n).testBit i
  · rfl
  · obtain ⟨u, h1, h2, h3⟩ := vlf_bit.mp e
    have := h u h1
    omega
def txr (xs : Nat → Int32) (L k : Nat) : Int32 := (cel xs L ((k + 3) % 16) >>> (nI (k / 16 * 3) &&& 31)) + nI (5 * k)
/-- what is bound is free -/
theorem pso_free {R : Nat → RRow} {rc : Nat} {T : Nat → TRow} {At : Nat → TAtt} {a u v : Nat} (hG : Gd R rc T At a) (h : (pso T a u).testBit v = true) : (At a).1.testBit v = true := by
  unfold pso at h
  split at h
  · rename_i g
    rcases hG with ⟨hk, -⟩ | ⟨hk, ht, hA⟩ | ⟨hk, -⟩ | ⟨hk, -⟩ | ⟨hk, -⟩ | ⟨hk, -⟩ | ⟨hk, -⟩ <;> first | (exfalso; have := g.1; omega) | (rw [hA]; exact h)
  · rw [Nat.zero_testBit] at h; cases h
theorem Gd_ud {R : Nat → RRow} {rc : Nat} {T : Nat → TRow} {At : Nat → TAtt} {N : Nat} (hG : ∀ i, i < N → Gd R rc T At i) : ∀ i, i < N → ∀ v, ((At i).2.2.2.1.testBit v = true → (At i).1.testBit v = true) ∧ ((At i).2.2.2.2.1.testBit v = true → (At i).1.testBit v = true) := by
  intro i
  induction i using Nat.strongRecOn with
  | ind i ih =>
    intro hi v
    have h0 : ∀ {x : Prop}, (0 : Nat).testBit v = true → x := fun z => by rw [Nat.zero_testBit] at z; cases z
    rcases hG i hi with ⟨hk, hr, ht, hA⟩ | ⟨hk, ht, hA⟩ | ⟨hk, ha, hA⟩ | ⟨hk, ha, hb, hA⟩ | ⟨hk, ha, hb, hA⟩ | ⟨hk, ha, hv, hA⟩ | ⟨hk, ha, hv, hA⟩ <;> rw [hA] <;> dsimp only
    · exact ⟨id, h0⟩
    · refine ⟨fun z => ?_, h0⟩
      split at z
      · exact h0 z
      · exact z
    · have := ih _ ha (by omega) v; exact ⟨this.2, this.1⟩
    · have a1 := ih _ ha (by omega) v
      have b1 := ih _ hb (by omega) v
      simp only [Nat.testBit_or, Nat.testBit_and, Bool.or_eq_true, Bool.and_eq_true]
      refine ⟨fun z => ?_, fun z => Or.inl (a1.2 z.1)⟩
      rcases z with ((z | z) | z) | z
      · exact Or.inl (a1.1 z)
      · exact Or.inr (b1.1 z)
      · exact Or.inl (pso_free (hG _ (by omega)) z)
      · exact Or.inr (pso_free (hG _ (by omega)) z)
    · have a1 := ih _ ha (by omega) v
      have b1 := ih _ hb (by omega) v
      simp only [Nat.testBit_or, Nat.testBit_and, Bool.or_eq_true, Bool.and_eq_true]
      exact ⟨fun z => Or.inl (a1.1 z.1), fun z => z.elim (fun z => Or.inl (a1.2 z)) (fun z => Or.inr (b1.2 z))⟩
    · have a1 := ih _ ha (by omega) v
      simp only [nd_bit, Bool.and_eq_true]
      exact ⟨fun z => ⟨a1.1 z.1, z.2⟩, h0⟩
    · have a1 := ih _ ha (by omega) v
      simp only [nd_bit, Bool.and_eq_true]
      exact ⟨h0, fun z => ⟨a1.2 z.1, z.2⟩⟩
theorem sub_lt6 {a b : Nat} (hb : b < 2 ^ 6) (h : ∀ v, a.testBit v = true → b.testBit v = true) : a < 2 ^ 6 := by
  refine Nat.lt_pow_two_of_testBit _ fun i hi => ?_
  cases e : a.testBit i
  · rfl
  · have h1 := h i e
    rw [Nat.testBit_lt_two_pow (Nat.lt_of_lt_of_le hb (Nat.pow_le_pow_right (by decide) hi))] at h1; cases h1
theorem Gd_up {R : Nat → RRow} {rc : Nat} {T : Nat → TRow} {At : Nat → TAtt} {N : Nat} (hG : ∀ i, i < N → Gd R rc T At i) (i : Nat) (hi : i < N) : (At i).2.2.2.1 < 2 ^ 6 ∧ (At i).2.2.2.2.1 < 2 ^ 6 := ⟨sub_lt6 (Gd_fr hG i hi) (fun v => (Gd_ud hG i hi v).1), sub_lt6 (Gd_fr hG i hi) (fun v => (Gd_ud hG i hi v).2)⟩
/-- the cell of the new formula -/
theorem FcO.new {O : Nat × va_E → Prop} {cy : Nat → ClassId} {R : Nat → RRow} {rb : Nat → Nat} {T : Nat → TRow} {At : Nat → TAtt} {ad : Nat → Nat} {k z : Nat} {row : TRow} {att : TAtt} (p1 p2 p3 p4 : Value) (vv : Int32) (h1 : O (z, .inr (1, [.int (nI row.1), p1, p2, p3, p4, .int vv, .int (nI att.1), .int (nI att.2.1), .int (nI att.2.2.1), .int (nI att.2.2.2.1), .int (nI att.2.2.2.2.1), .int (nI att.2.2.2.2.2.1), .int (oI att.2.2.2.2.2.2)]))) (h2 : row.1 = 0 → ∃ at_, p1 = .ref at_ ∧ AtO O cy (rb row.2.2.2.2.1) at_ (R row.2.2.2.2.1).1 row.2.2.2.2.2) (h3 : row.1 = 1 → ∃ tm, p2 = .ref tm ∧ TmO O cy tm 2 row.2.2.2.2.2) (h4 : 2 ≤ row.1 → p3 = .ref (ad row.2.1) ∧ row.2.1 < k) (h5 : row.1 = 3 ∨ row.1 = 4 → p4 = .ref (ad row.2.2.1) ∧ row.2.2.1 < k) (h6 : 5 ≤ row.1 → vv = nI row.2.2.2.1) : FcO O cy R rb (up T k row) (up At k att) (up ad k z) k := by
  unfold FcO
  rw [up_at, up_at, up_at]
  refine ⟨p1, p2, p3, p4, vv, h1, h2, h3, fun g => ?_, fun g => ?_, h6⟩
  · rw [up_ne (Nat.ne_of_lt (h4 g).2)]; exact (h4 g).1
  · rw [up_ne (Nat.ne_of_lt (h5 g).2)]; exact (h5 g).1
section GNEW
variable {R : Nat → RRow} {rc : Nat} {T : Nat → TRow} {At : Nat → TAtt} {k x y v rl : Nat} {t : Nat → Nat}
theorem Gd_new_0 (hr : rl < rc) (ht : ∀ j, j < (R rl).1 → isT (t j)) : Gd R rc (up T k (0, x, y, v, rl, t)) (up At k (vsf t (R rl).1, 0, 1, vsf t (R rl).1, 0, vlf t (R rl).1, none)) k := by
  unfold Gd; rw [up_at, up_at]; exact Or.inl ⟨rfl, hr, ht, rfl⟩
theorem Gd_new_1 (ht : ∀ j, j < 2 → isT (t j)) : Gd R rc (up T k (1, x, y, v, rl, t)) (up At k (vsf t 2, 0, 1, (if vlf t 2 = 0 then 0 else vsf t 2), 0, vlf t 2, none)) k := by
  unfold Gd; rw [up_at, up_at]; exact Or.inr (Or.inl ⟨rfl, ht, rfl⟩)
theorem Gd_new_2 (hx : x < k) : Gd R rc (up T k (2, x, y, v, rl, t)) (up At k ((At x).1, (At x).2.1, 1 + (At x).2.2.1, (At x).2.2.2.2.1, (At x).2.2.2.1, (At x).2.2.2.2.2.1, (At x).2.2.2.2.2.2)) k := by
  unfold Gd; rw [up_at, up_at]; dsimp only; rw [up_ne (Nat.ne_of_lt hx)]; exact Or.inr (Or.inr (Or.inl ⟨rfl, hx, rfl⟩))
theorem Gd_new_3 (hx : x < k) (hy : y < k) : Gd R rc (up T k (3, x, y, v, rl, t)) (up At k ((At x).1 ||| (At y).1, max (At x).2.1 (At y).2.1, 1 + (At x).2.2.1 + (At y).2.2.1, (At x).2.2.2.1 ||| (At y).2.2.2.1 ||| pso T x ((At x).2.2.2.1 ||| (At y).2.2.2.1) ||| pso T y ((At x).2.2.2.1 ||| (At y).2.2.2.1), (At x).2.2.2.2.1 &&& (At y).2.2.2.2.1, (At x).2.2.2.2.2.1 ||| (At y).2.2.2.2.2.1, lo2 (At x).2.2.2.2.2.2 (At y).2.2.2.2.2.2)) k := by
  unfold Gd; rw [up_at, up_at]; dsimp only; rw [up_ne (Nat.ne_of_lt hx), up_ne (Nat.ne_of_lt hy), pso_congr (up_ne (Nat.ne_of_lt hx)), pso_congr (up_ne (Nat.ne_of_lt hy))]; exact Or.inr (Or.inr (Or.inr (Or.inl ⟨rfl, hx, hy, rfl⟩)))
theorem Gd_new_4 (hx : x < k) (hy : y < k) : Gd R rc (up T k (4, x, y, v, rl, t)) (up At k ((At x).1 ||| (At y).1, max (At x).2.1 (At y).2.1, 1 + (At x).2.2.1 + (At y).2.2.1, (At x).2.2.2.1 &&& (At y).2.2.2.1, (At x).2.2.2.2.1 ||| (At y).2.2.2.2.1, (At x).2.2.2.2.2.1 ||| (At y).2.2.2.2.2.1, lo2 (At x).2.2.2.2.2.2 (At y).2.2.2.2.2.2)) k := by
  unfold Gd; rw [up_at, up_at]; dsimp only; rw [up_ne (Nat.ne_of_lt hx), up_ne (Nat.ne_of_lt hy)]; exact Or.inr (Or.inr (Or.inr (Or.inr (Or.inl ⟨rfl, hx, hy, rfl⟩))))
theorem Gd_new_5 (hx : x < k) (hv : v < 6) : Gd R rc (up T k (5, x, y, v, rl, t)) (up At k (nd (At x).1 (2 ^ v), 1 + (At x).2.1, 1 + (At x).2.2.1, nd (At x).2.2.2.1 (2 ^ v), 0, (At x).2.2.2.2.2.1, loQ (At x).2.2.2.2.2.2 (!(At x).2.2.2.1.testBit v) k)) k := by
  unfold Gd; rw [up_at, up_at]; dsimp only; rw [up_ne (Nat.ne_of_lt hx)]; exact Or.inr (Or.inr (Or.inr (Or.inr (Or.inr (Or.inl ⟨rfl, hx, hv, rfl⟩)))))
theorem Gd_new_6 (hx : x < k) (hv : v < 6) : Gd R rc (up T k (6, x, y, v, rl, t)) (up At k (nd (At x).1 (2 ^ v), 1 + (At x).2.1, 1 + (At x).2.2.1, 0, nd (At x).2.2.2.2.1 (2 ^ v), (At x).2.2.2.2.2.1, loQ (At x).2.2.2.2.2.2 (!(At x).2.2.2.2.1.testBit v) k)) k := by
  unfold Gd; rw [up_at, up_at]; dsimp only; rw [up_ne (Nat.ne_of_lt hx)]; exact Or.inr (Or.inr (Or.inr (Or.inr (Or.inr (Or.inr ⟨rfl, hx, hv, rfl⟩)))))
end GNEW
theorem rwv_0i {kd kd' rl x y v : Nat} {t : Nat → Nat} : upd (rwv kd rl t x y v) (0 : Int32).toNatClampNeg (nI kd') = rwv kd' rl t x y v := rwv_0
theorem rwv_0z {kd rl x y v : Nat} {t : Nat → Nat} : upd (rwv kd rl t x y v) (0 : Int32).toNatClampNeg 0 = rwv 0 rl t x y v := rwv_0
theorem rwv_5i {kd rl x x' y v : Nat} {t : Nat → Nat} : upd (rwv kd rl t x y v) (5 : Int32).toNatClampNeg (nI x') = rwv kd rl t x' y v := rwv_5
theorem rwv_6i {kd rl x y y' v : Nat} {t : Nat → Nat} : upd (rwv kd rl t x y v) (6 : Int32).toNatClampNeg (nI y') = rwv kd rl t x y' v := rwv_6
/-- what tell() leaves -/
def TlP (O : Nat × va_E → Prop) (cy : Nat → ClassId) (R : Nat → RRow) (rb : Nat → Nat) (a ra fa ua uc lo pl fx : Nat) (g6 g7 g8 : Value) (w : va_W) : Prop := ∃ (fm : Nat) (FA : Nat → Option Nat) (T : Nat → TRow) (At : Nat → TAtt) (ad : Nat → Nat) (wN : va_W), w = [(a, .inr (9, [.ref ra, .int (nI 3), .ref fa, .int (nI 12), .ref ua, .int (nI uc), g6, g7, g8])), (fa, .inl (cy 3, 40, .inr (.inr (.inr (.inr FA))))), (lo, .inr (10, [.ref pl, .ref fx, .ref fm]))] ++ wN ∧ (∀ i, i < 12 → FA i = some (ad i)) ∧ FW (fun z => O z ∨ z ∈ wN) cy R 3 rb T At ad 12 ∧ LFm (fun z => O z ∨ z ∈ wN) cy fm 12 T ∧ TlB T At 12
