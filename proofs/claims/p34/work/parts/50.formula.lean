/-! the law: tell: a formula more -/
theorem Gd_a {R : Nat → RRow} {rc : Nat} {T : Nat → TRow} {At : Nat → TAtt} {i : Nat} (h : Gd R rc T At i) : (2 ≤ (T i).1 → (T i).2.1 < i) ∧ ((T i).1 = 3 ∨ (T i).1 = 4 → (T i).2.2.1 < i) := by
  rcases h with ⟨h, -⟩ | ⟨h, -⟩ | ⟨h, h1, -⟩ | ⟨h, h1, h2, -⟩ | ⟨h, h1, h2, -⟩ | ⟨h, h1, -⟩ | ⟨h, h1, -⟩ <;> exact ⟨fun _ => by omega, fun _ => by omega⟩
theorem pso_congr {T T' : Nat → TRow} {a u : Nat} (h : T' a = T a) : pso T' a u = pso T a u := by unfold pso; rw [h]
theorem Gd_congr {R : Nat → RRow} {rc : Nat} {T T' : Nat → TRow} {At At' : Nat → TAtt} {i : Nat} (h : ∀ j, j ≤ i → T' j = T j ∧ At' j = At j) (hG : Gd R rc T At i) : Gd R rc T' At' i := by
  have e1 := (h i (Nat.le_refl i)).1
  have e2 := (h i (Nat.le_refl i)).2
  unfold Gd
  rw [e1, e2]
  rcases hG with h0 | h0 | ⟨hk, ha, hA⟩ | ⟨hk, ha, hb, hA⟩ | ⟨hk, ha, hb, hA⟩ | ⟨hk, ha, hv, hA⟩ | ⟨hk, ha, hv, hA⟩
  · exact Or.inl h0
  · exact Or.inr (Or.inl h0)
  · refine Or.inr (Or.inr (Or.inl ⟨hk, ha, ?_⟩))
    rw [(h _ (Nat.le_of_lt ha)).2]; exact hA
  · refine Or.inr (Or.inr (Or.inr (Or.inl ⟨hk, ha, hb, ?_⟩)))
    rw [(h _ (Nat.le_of_lt ha)).2, (h _ (Nat.le_of_lt hb)).2, pso_congr (h _ (Nat.le_of_lt ha)).1, pso_congr (h _ (Nat.le_of_lt hb)).1]; exact hA
  · refine Or.inr (Or.inr (Or.inr (Or.inr (Or.inl ⟨hk, ha, hb, ?_⟩))))
    rw [(h _ (Nat.le_of_lt ha)).2, (h _ (Nat.le_of_lt hb)).2]; exact hA
  · refine Or.inr (Or.inr (Or.inr (Or.inr (Or.inr (Or.inl ⟨hk, ha, hv, ?_⟩)))))
    rw [(h _ (Nat.le_of_lt ha)).2]; exact hA
  · refine Or.inr (Or.inr (Or.inr (Or.inr (Or.inr (Or.inr ⟨hk, ha, hv, ?_⟩)))))
    rw [(h _ (Nat.le_of_lt ha)).2]; exact hA
theorem AtO.mono {O O' : Nat × va_E → Prop} {cy : Nat → ClassId} {b at_ P : Nat} {t : Nat → Nat} (h : ∀ q, O q → O' q) : AtO O cy b at_ P t → AtO O' cy b at_ P t := fun ⟨tm, a, b⟩ => ⟨tm, h _ a, b.mono h⟩
theorem FcO.ext {O O' : Nat × va_E → Prop} {cy : Nat → ClassId} {R : Nat → RRow} {rb : Nat → Nat} {T T' : Nat → TRow} {At At' : Nat → TAtt} {ad ad' : Nat → Nat} {rc i : Nat} (h : ∀ q, O q → O' q) (he : ∀ j, j ≤ i → T' j = T j ∧ At' j = At j ∧ ad' j = ad j) (hG : Gd R rc T At i) (hF : FcO O cy R rb T At ad i) : FcO O' cy R rb T' At' ad' i := by
  obtain ⟨e1, e2, e3⟩ := he i (Nat.le_refl i)
  obtain ⟨p1, p2, p3, p4, vv, f1, f2, f3, f4, f5, f6⟩ := hF
  obtain ⟨ga, gb⟩ := Gd_a hG
  unfold FcO
  rw [e1, e2, e3]
  refine ⟨p1, p2, p3, p4, vv, h _ f1, fun z => ?_, fun z => ?_, fun z => ?_, fun z => ?_, f6⟩
  · obtain ⟨at_, g1, g2⟩ := f2 z; exact ⟨at_, g1, g2.mono h⟩
  · obtain ⟨tm, g1, g2⟩ := f3 z; exact ⟨tm, g1, g2.mono h⟩
  · rw [(he _ (Nat.le_of_lt (ga z))).2.2]; exact f4 z
  · rw [(he _ (Nat.le_of_lt (gb z))).2.2]; exact f5 z
theorem up_at {α : Type} (f : Nat → α) (k : Nat) (v : α) : up f k v k = v := if_pos rfl
theorem up_ne {α : Type} {f : Nat → α} {k j : Nat} {v : α} (h : j ≠ k) : up f k v j = f j := if_neg h
/-- the formulas' world with one more -/
theorem FW.ext {O O' : Nat × va_E → Prop} {cy : Nat → ClassId} {R : Nat → RRow} {rc : Nat} {rb : Nat → Nat} {T : Nat → TRow} {At : Nat → TAtt} {ad : Nat → Nat} {k z : Nat} {row : TRow} {att : TAtt} (h : ∀ q, O q → O' q) (hW : FW O cy R rc rb T At ad k) (hF : FcO O' cy R rb (up T k row) (up At k att) (up ad k z) k) (hG : Gd R rc (up T k row) (up At k att) k) : FW O' cy R rc rb (up T k row) (up At k att) (up ad k z) (k + 1) := by
  refine ⟨fun j hj => (hW.1 j hj).mono h, fun i hi => ?_⟩
  rcases Nat.lt_or_ge i k with g | g
  · have he : ∀ j, j ≤ i → up T k row j = T j ∧ up At k att j = At j ∧ up ad k z j = ad j := fun j hj => ⟨up_ne (by omega), up_ne (by omega), up_ne (by omega)⟩
    exact ⟨FcO.ext h he (hW.2 i g).2 (hW.2 i g).1, Gd_congr (fun j hj => ⟨(he j hj).1, (he j hj).2.1⟩) (hW.2 i g).2⟩
  · rw [show i = k by omega]; exact ⟨hF, hG⟩
theorem rowT_congr {T T' : Nat → TRow} {i : Nat} {f : Nat → Int32} (h : T' i = T i) (hT : rowT T i f) : rowT T' i f := by unfold rowT; rw [h]; exact hT
theorem LFm.ext {O O' : Nat × va_E → Prop} {cy : Nat → ClassId} {fm q1 k rw9 : Nat} {T : Nat → TRow} {row : TRow} {FM : Nat → Option Nat} {ri : Nat → Nat} {f : Nat → Int32} (h : ∀ q, O q → O' q) (hL : ∀ i, i < k → FM i = some (ri i) ∧ ∃ f : Nat → Int32, O (ri i, .inl (cy 0, 8, .inl f)) ∧ rowT T i f) (hq : O' (q1, .inl (cy 6, k + 1, .inr (.inr (.inr (.inr (va_up (va_cpy FM (fun _ => none) 0 0 k) k (some rw9)))))))) (hr : O' (rw9, .inl (cy 0, 8, .inl f))) (hT : rowT (up T k row) k f) : LFm O' cy q1 (k + 1) (up T k row) := by
  refine ⟨_, up ri k rw9, hq, fun i hi => ?_⟩
  rcases Nat.lt_or_ge i k with g | g
  · obtain ⟨h1, f0, h2, h3⟩ := hL i g
    exact ⟨by rw [vuc_lt g, h1, up_ne (by omega)], f0, by rw [up_ne (by omega)]; exact h _ h2, rowT_congr (up_ne (by omega)) h3⟩
  · rw [show i = k by omega]
    exact ⟨by rw [va_up_self, up_at], f, by rw [up_at]; exact hr, hT⟩
/-- passedOn of a formula of the table -/
theorem Ps_of {O : Nat × va_E → Prop} {cy : Nat → ClassId} {R : Nat → RRow} {rb : Nat → Nat} {T : Nat → TRow} {At : Nat → TAtt} {ad : Nat → Nat} {rc a b : Nat} (hF : FcO O cy R rb T At ad a) (hG : Gd R rc T At a) : Ps O (ad a) b (pso T a b) := by
  obtain ⟨p1, p2, p3, p4, vv, f1, f2, f3, -⟩ := hF
  by_cases h : (T a).1 = 1
  · obtain ⟨tm, rfl, ta, Tf, g1, -, g3⟩ := f3 h
    rw [h] at f1
    have ht : ∀ k, k < 2 → isT ((T a).2.2.2.2.2 k) := fun k hk => (g3 k hk).2
    refine Or.inr ⟨_, _, _, _, _, tm, _, _, _, _, _, _, vsf (T a).2.2.2.2.2 2, vlf (T a).2.2.2.2.2 2, _, _, f1, g1, Nat.lt_trans (vsf_lt _ _) (by decide), Nat.lt_trans (vlf_lt ht) (by decide), ?_⟩
    unfold pso
    by_cases h2 : vlf (T a).2.2.2.2.2 2 = 0 ∧ vsf (T a).2.2.2.2.2 2 &&& b ≠ 0
    · rw [if_pos h2, if_pos ⟨h, h2⟩]
    · rw [if_neg h2, if_neg (fun z => h2 z.2)]
  · refine Or.inl ⟨_, _, _, _, _, _, _, _, _, _, _, _, _, f1, fun z => ?_, ?_⟩
    · have := Gd_kd hG
      exact h ((nI_eq (by omega) (by decide)).mp z)
    · unfold pso; rw [if_neg (fun z => h z.1)]
/-- the loom's row of a formula -/
def rwv (kd rl : Nat) (t : Nat → Nat) (x y v : Nat) : Nat → Int32 := fun u => if u = 0 then nI kd else if u = 1 then nI rl else if u < 5 then nI (t (u - 2)) else if u = 5 then nI x else if u = 6 then nI y else if u = 7 then nI v else 0
def t3 (t0 t1 t2 : Nat) : Nat → Nat := fun k => if k = 0 then t0 else if k = 1 then t1 else t2
theorem rwv_fill {kd rl t0 t1 t2 v : Nat} : upd (upd (upd (upd (upd (upd (upd (upd (fun _ => 0) 0 (nI kd)) 1 (nI rl)) 2 (nI t0)) 3 (nI t1)) 4 (nI t2)) 5 0) 6 0) 7 (nI v) = rwv kd rl (t3 t0 t1 t2) 0 0 v := funext fun u => by
  match u with
  | 0 => rfl
  | 1 => rfl
  | 2 => rfl
  | 3 => rfl
  | 4 => rfl
  | 5 => rfl
  | 6 => rfl
  | 7 => rfl
  | u + 8 => simp [upd, rwv]
theorem rwv_0 {kd kd' rl x y v : Nat} {t : Nat → Nat} : upd (rwv kd rl t x y v) 0 (nI kd') = rwv kd' rl t x y v := funext fun u => by
  by_cases h : u = 0
  · subst h; rfl
  · rw [pk_un h]; simp [rwv, h]
theorem rwv_5 {kd rl x x' y v : Nat} {t : Nat → Nat} : upd (rwv kd rl t x y v) 5 (nI x') = rwv kd rl t x' y v := funext fun u => by
  by_cases h : u = 5
  · subst h; rfl
  · rw [pk_un h]; simp [rwv, h]
theorem rwv_6 {kd rl x y y' v : Nat} {t : Nat → Nat} : upd (rwv kd rl t x y v) 6 (nI y') = rwv kd rl t x y' v := funext fun u => by
  by_cases h : u = 6
  · subst h; rfl
  · rw [pk_un h]; simp [rwv, h]
theorem rwv_T {T : Nat → TRow} {k kd rl x y v : Nat} {t : Nat → Nat} (h : T k = (kd, x, y, v, rl, t)) : rowT T k (rwv kd rl t x y v) := by
  unfold rowT
  rw [h]
  refine ⟨rfl, rfl, fun j hj => ?_, fun _ => rfl, fun _ => rfl, fun _ => rfl⟩
  have : j = 0 ∨ j = 1 ∨ j = 2 := by omega
  rcases this with rfl | rfl | rfl <;> rfl
theorem a3_t3 {t0 t1 t2 : Nat} {P : Nat} (hP : P ≤ 3) : ∀ j, j < P → a3 (nI t0) (nI t1) (nI t2) j = nI (t3 t0 t1 t2 j) := fun j hj => by
  have : j = 0 ∨ j = 1 ∨ j = 2 := by omega
  rcases this with rfl | rfl | rfl <;> rfl
/-- what is kept in bounds, formula by formula -/
def TlB (T : Nat → TRow) (At : Nat → TAtt) (k : Nat) : Prop := ∀ i, i < k → (At i).1 < 8 ∧ (At i).2.1 ≤ 3 ∧ (At i).2.2.1 ≤ 20 ∧ (At i).2.2.2.2.2.1 < 16 ∧ (i < 2 → (T i).1 = 0)
theorem TlB.ext {T : Nat → TRow} {At : Nat → TAtt} {k : Nat} {row : TRow} {att : TAtt} (h : TlB T At k) (h1 : att.1 < 8) (h2 : att.2.1 ≤ 3) (h3 : att.2.2.1 ≤ 20) (h4 : att.2.2.2.2.2.1 < 16) (h5 : k < 2 → row.1 = 0) : TlB (up T k row) (up At k att) (k + 1) := fun i hi => by
  rcases Nat.lt_or_ge i k with g | g
  · rw [up_ne (by omega), up_ne (by omega)]; exact h i g
  · rw [show i = k by omega, up_at, up_at]; exact ⟨h1, h2, h3, h4, h5⟩
theorem vsf_8 {t : Nat → Nat} {n : Nat} (h : ∀ k, k < n → t k < 3 ∨ 10 ≤ t k) : vsf t n < 2 ^ 3 := by
  refine Nat.lt_pow_two_of_testBit _ fun i hi => ?_
  cases e : (vsf t n).testBit i
  · rfl
  · obtain ⟨u, h1, h2, h3⟩ := vsf_bit.mp e
    rcases h u h1 with h4 | h4 <;> omega
theorem vlf_16 {t : Nat → Nat} {n : Nat} (h : ∀ k, k < n → t k < 14) : vlf t n < 2 ^ 4 := by
  refine Nat.lt_pow_two_of_testBit _ fun i hi => ?_
  cases e : (vlf t n).testBit i
  · rfl
  · obtain ⟨u, h1, h2, h3⟩ := vlf_bit.mp e
    have := h u h1
    omega
def txr (xs : Nat → Int32) (L k : Nat) : Int32 := (cel xs L ((k + 3) % 16) >>> (nI (k / 16 * 3) &&& 31)) + nI (5 * k)
