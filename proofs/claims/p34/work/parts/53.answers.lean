/-! what the law asks of answers -/
theorem ct_ex {q : Nat → Bool} {k : Nat} : ∀ {n}, k < ct q n → ∃ j, j < n ∧ q j = true ∧ ct q j = k
  | 0, h => by simp [ct] at h
  | n + 1, h => by
    cases e : q n
    · rw [ct_s_f e] at h
      obtain ⟨j, a, b⟩ := ct_ex h
      exact ⟨j, by omega, b⟩
    · rw [ct_s_t e] at h
      rcases Nat.lt_or_ge k (ct q n) with g | g
      · obtain ⟨j, a, b⟩ := ct_ex g
        exact ⟨j, by omega, b⟩
      · exact ⟨n, by omega, e, by omega⟩
theorem nth_at {q : Nat → Bool} {k : Nat} (h : k < ct q 512) : nth q k < 512 ∧ q (nth q k) = true ∧ ct q (nth q k) = k := by
  obtain ⟨j, a, b, c⟩ := ct_ex h
  rw [nth_is a b c]; exact ⟨a, b, c⟩
theorem nth_lt {q : Nat → Bool} {k k' : Nat} (h : k < k') (h' : k' < ct q 512) : nth q k < nth q k' := by
  have a := nth_at (q := q) (k := k) (by omega)
  have b := nth_at h'
  refine Nat.lt_of_not_le fun z => ?_
  have := ct_le_of (q := q) z
  omega
/-- the domain's values are below 5 -/
theorem vls_5 {P M : Nat} {x : Nat → Nat} (h : ∀ j, j < M → ∀ u, u < P → dg P (x j) u < 5) : vls P M x < 2 ^ 5 := by
  refine Nat.lt_pow_two_of_testBit _ fun i hi => ?_
  cases e : (vls P M x).testBit i
  · rfl
  · unfold vls at e
    rw [ms_bit, Bool.and_eq_true] at e
    obtain ⟨j, h1, h2⟩ := exB_iff.mp e.2
    obtain ⟨u, h3, h4⟩ := exB_iff.mp h2
    have := h j h1 u h3
    have := of_decide_eq_true h4
    omega
theorem domF_5 {R : Nat → RRow} {rc : Nat} {At : Nat → TAtt} {i : Nat} (hA : (At i).2.2.2.2.2.1 < 16) (hR : ∀ r, r < rc → ∀ j, j < (R r).2.1 → ∀ u, u < (R r).1 → dg (R r).1 ((R r).2.2 j) u < 5) : domF R rc At i < 2 ^ 5 := dmo_lt (by omega) (fun j hj => vls_5 (hR j hj))
theorem dom_ct {dom : Nat} (h : dom < 2 ^ 5) : ct dom.testBit 8 ≤ 5 := by rw [ct_32 h (show 5 ≤ 8 by decide)]; exact ct_le _ 5
/-- rows of w values, all of them in the domain -/
def gdw (dom : Nat) : Nat → Nat → Bool
  | 0, r => decide (r = 0)
  | w + 1, r => gdw dom w (r / 8) && dom.testBit (r % 8)
theorem gdw_of {dom : Nat} : ∀ {w r}, r < 8 ^ w → (∀ j, j < w → dom.testBit (r / 8 ^ j % 8) = true) → gdw dom w r = true
  | 0, r, h, _ => by rw [gdw]; exact decide_eq_true (by simpa using h)
  | w + 1, r, h, hd => by
    rw [gdw, Bool.and_eq_true]
    refine ⟨gdw_of (by rw [Nat.pow_succ] at h; omega) (fun j hj => ?_), ?_⟩
    · have := hd (j + 1) (by omega)
      rw [Nat.pow_succ, Nat.mul_comm, ← Nat.div_div_eq_div_mul] at this
      exact this
    · have := hd 0 (by omega)
      rw [Nat.pow_zero, Nat.div_one] at this; exact this
theorem gdw_ct {dom w : Nat} : ∀ n, ct (gdw dom (w + 1)) (n * 8) = ct (gdw dom w) n * ct dom.testBit 8
  | 0 => by rw [Nat.zero_mul]; show 0 = 0 * _; rw [Nat.zero_mul]
  | n + 1 => by
    rw [Nat.add_mul, Nat.one_mul, ct_add, gdw_ct n]
    have e : ∀ j, j < 8 → gdw dom (w + 1) (n * 8 + j) = (gdw dom w n && dom.testBit j) := fun j hj => by
      rw [gdw, show (n * 8 + j) / 8 = n by omega, show (n * 8 + j) % 8 = j by omega]
    rw [ct_ext e]
    cases h : gdw dom w n
    · rw [ct_s_f h, ct_zero (p := fun i => false && dom.testBit i) |>.mpr (fun i _ => rfl)]; rfl
    · rw [ct_s_t h, Nat.add_mul, Nat.one_mul, ct_ext (p := fun i => true && dom.testBit i) (q := dom.testBit) (fun i _ => rfl)]
theorem gdw_all {dom : Nat} : ∀ w, ct (gdw dom w) (8 ^ w) = ct dom.testBit 8 ^ w
  | 0 => by rw [Nat.pow_zero, Nat.pow_zero, ct, ct]; simp [gdw]
  | w + 1 => by rw [Nat.pow_succ, gdw_ct, gdw_all w, Nat.pow_succ]
theorem ct_out_of {q : Nat → Bool} {a b : Nat} (h : a ≤ b) (hq : ∀ i, a ≤ i → q i = false) : ct q b = ct q a := by
  have : ct q (a + (b - a)) = ct q a + ct (fun i => q (a + i)) (b - a) := ct_add q a (b - a)
  have z : ct (fun i => q (a + i)) (b - a) = 0 := ct_zero.mpr (fun i _ => hq _ (Nat.le_add_right a i))
  rw [z, show a + (b - a) = b by omega, Nat.add_zero] at this
  exact this
theorem ca_all : ((List.range 8).all fun S => (List.range (ct S.testBit 6)).all fun j => (List.range 6).any fun v => S.testBit v && decide (ca S (v + 1) = j)) = true := by decide +kernel
theorem ca_ex {S j : Nat} (hS : S < 8) (hj : j < ct S.testBit 6) : ∃ v, v < 6 ∧ S.testBit v = true ∧ ca S (v + 1) = j := by
  have h := List.all_eq_true.mp (List.all_eq_true.mp ca_all S (List.mem_range.mpr hS)) j (List.mem_range.mpr hj)
  obtain ⟨v, h1, h2⟩ := List.any_eq_true.mp h
  rw [Bool.and_eq_true, decide_eq_true_eq] at h2
  exact ⟨v, List.mem_range.mp h1, h2⟩
theorem s8_ct : ((List.range 8).all fun S => decide (ct S.testBit 6 ≤ 3)) = true := by decide +kernel
theorem s8_3 {S : Nat} (hS : S < 8) : ct S.testBit 6 ≤ 3 := of_decide_eq_true (List.all_eq_true.mp s8_ct S (List.mem_range.mpr hS))
theorem anB_at {S dom : Nat} {G : (Nat → Nat) → Bool} {r : Nat} (h : anB S dom G r = true) : r < 8 ^ ct S.testBit 6 ∧ (∀ v, v < 6 → S.testBit v = true → dom.testBit (dgt S r v) = true) ∧ G (fun v => dgt S r v) = true := by
  unfold anB at h
  rw [Bool.and_eq_true, Bool.and_eq_true, decide_eq_true_eq] at h
  exact ⟨h.1.1, tok6.mp h.1.2, h.2⟩
/-- no more answers than rows of the domain -/
theorem anB_ct {S dom : Nat} {G : (Nat → Nat) → Bool} (hS : S < 8) : ct (anB S dom G) 512 ≤ ct dom.testBit 8 ^ ct S.testBit 6 := by
  have h3 := s8_3 hS
  have h8 : 8 ^ ct S.testBit 6 ≤ 512 := Nat.le_trans (Nat.pow_le_pow_right (by decide) h3) (by decide)
  rw [ct_out_of h8 (fun i hi => by unfold anB; rw [decide_eq_false (by omega)]; rfl), ← gdw_all]
  refine ct_mono fun r _ h => ?_
  obtain ⟨a, b, -⟩ := anB_at h
  refine gdw_of a fun j hj => ?_
  obtain ⟨v, h1, h2, h4⟩ := ca_ex hS hj
  have := b v h1 h2
  unfold dgt at this
  rw [h4] at this; exact this
theorem dgt_dg {S c v : Nat} (hS : S.testBit v = true) (hv : v < 6) : dgt S c v = dg (ct S.testBit 6) c (ct S.testBit v) := by
  unfold dgt dg ca
  rw [ct_s_t hS]
  congr 2
  congr 1
  omega
/-- the values so far, of the row so far -/
def vlF (S c v : Nat) : Nat → Nat := fun u => if u < v ∧ S.testBit u = true then dgt S c u else 0
def arF (S c v : Nat) : Nat → Int32 := fun u => if u < ct S.testBit v then nI (dg (ct S.testBit 6) c u) else 0
theorem vlF_0 (S c : Nat) : vlF S c 0 = fun _ => 0 := funext fun u => by rw [vlF, if_neg (fun z => absurd z.1 (Nat.not_lt_zero u))]
theorem arF_0 (S c : Nat) : arF S c 0 = fun _ => 0 := funext fun u => by rw [arF, if_neg (by simp [ct])]
theorem vlF_n {S c v : Nat} (h : S.testBit v = false) : vlF S c v = vlF S c (v + 1) := funext fun u => by
  unfold vlF
  by_cases e : u = v
  · subst e; rw [if_neg (fun z => by omega), if_neg (fun z => by rw [h] at z; cases z.2)]
  · by_cases g : u < v ∧ S.testBit u = true
    · rw [if_pos g, if_pos ⟨by omega, g.2⟩]
    · rw [if_neg g, if_neg (fun z => g ⟨by omega, z.2⟩)]
theorem vlF_y {S c v : Nat} (h : S.testBit v = true) : upd (nA (vlF S c v)) v (nI (dgt S c v)) = nA (vlF S c (v + 1)) := funext fun u => by
  by_cases e : u = v
  · subst e; rw [pk_us]; show _ = nI (vlF S c (u + 1) u); rw [vlF, if_pos ⟨Nat.lt_succ_self u, h⟩]
  · rw [pk_un e]
    show nI (vlF S c v u) = nI (vlF S c (v + 1) u)
    unfold vlF
    by_cases g : u < v ∧ S.testBit u = true
    · rw [if_pos g, if_pos ⟨by omega, g.2⟩]
    · rw [if_neg g, if_neg (fun z => g ⟨by omega, z.2⟩)]
theorem arF_n {S c v : Nat} (h : S.testBit v = false) : arF S c v = arF S c (v + 1) := funext fun u => by rw [arF, arF, ct_s_f h]
theorem arF_y {S c v : Nat} (h : S.testBit v = true) : upd (arF S c v) (ct S.testBit v) (nI (dg (ct S.testBit 6) c (ct S.testBit v))) = arF S c (v + 1) := funext fun u => by
  by_cases e : u = ct S.testBit v
  · subst e; rw [pk_us, arF, ct_s_t h, if_pos (Nat.lt_succ_self _)]
  · rw [pk_un e, arF, arF, ct_s_t h]
    by_cases g : u < ct S.testBit v
    · rw [if_pos g, if_pos (by omega)]
    · rw [if_neg g, if_neg (by omega)]
theorem arF_rw {S c : Nat} : rwF (ct S.testBit 6) c (arF S c 6) := fun u hu => by rw [arF, if_pos hu]
theorem vlF_8 (S c v : Nat) : ∀ u, u < 6 → vlF S c v u < 8 := fun u _ => by unfold vlF; split; exact dgt_lt _ _ _; decide
/-- an answer holds -/
theorem an_hol {R : Nat → RRow} {rc : Nat} {T : Nat → TRow} {At : Nat → TAtt} {N i c : Nat} (hG : ∀ i, i < N → Gd R rc T At i) (hi : i < N) (h : ans R rc T At N i c = true) : hol R T (domF R rc At i) N i (vlF (At i).1 c 6) = true := by
  obtain ⟨-, -, h3⟩ := anB_at h
  rw [hol_ext hG N (Nat.le_refl N) i hi _ (fun v => dgt (At i).1 c v) (fun v hv hb => by rw [vlF, if_pos ⟨hv, hb⟩])]
  exact h3
/-- share is between 0 and 1 -/
theorem sh_n64 {v : UInt64} (h : shok v = true) : vf_n64 v ∧ ¬ Op.cmpValue (FP.dcmp v FP.dconst0) .g < 0 ∧ Op.cmpValue (FP.dcmp v FP.dconst1) .l ≤ 0 := by
  unfold shok at h
  rw [Bool.and_eq_true, Bool.and_eq_true, Bool.not_eq_true'] at h
  exact ⟨of_decide_eq_true (p := v &&& 0x7fffffffffffffff ≤ 0x7ff0000000000000) h.1.1, of_decide_eq_false h.1.2, of_decide_eq_true h.2⟩
