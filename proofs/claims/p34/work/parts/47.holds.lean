/-! the loom: holds -/
/-- the loom -/
def LmR (O : Nat × va_E → Prop) (cy : Nat → ClassId) (pl fx rc : Nat) (R : Nat → RRow) : Prop := rc ≤ 6 ∧ (∃ pf : Nat → Int32, O (pl, .inl (cy 0, rc, .inl pf)) ∧ ∀ r, r < rc → pf r = nI (R r).1) ∧ (∃ (FX : Nat → Option Nat) (fb : Nat → Nat), O (fx, .inl (cy 7, rc, .inr (.inr (.inr (.inr FX))))) ∧ ∀ r, r < rc → FX r = some (fb r) ∧ FrO O cy (fb r) (R r)) ∧ ∀ r, r < rc → (R r).1 ≤ 3 ∧ (R r).2.1 ≤ 24
def LmO (O : Nat × va_E → Prop) (cy : Nat → ClassId) (lo pl fx fm rc N : Nat) (R : Nat → RRow) (T : Nat → TRow) : Prop := O (lo, .inr (10, [.ref pl, .ref fx, .ref fm])) ∧ LmR O cy pl fx rc R ∧ LFm O cy fm N T
theorem LmR.mono {O O' : Nat × va_E → Prop} {cy : Nat → ClassId} {pl fx rc : Nat} {R : Nat → RRow} (h : ∀ q, O q → O' q) : LmR O cy pl fx rc R → LmR O' cy pl fx rc R := fun ⟨b, ⟨pf, c, d⟩, ⟨FX, fb, e, f⟩, g⟩ => ⟨b, ⟨pf, h _ c, d⟩, ⟨FX, fb, h _ e, fun r hr => ⟨(f r hr).1, (f r hr).2.mono h⟩⟩, g⟩
theorem LmO.mono {O O' : Nat × va_E → Prop} {cy : Nat → ClassId} {lo pl fx fm rc N : Nat} {R : Nat → RRow} {T : Nat → TRow} (h : ∀ q, O q → O' q) : LmO O cy lo pl fx fm rc N R T → LmO O' cy lo pl fx fm rc N R T := fun ⟨a, b, i⟩ => ⟨h _ a, b.mono h, i.mono h⟩
theorem shb {S j : Nat} (hS : S < 2 ^ 31) (hj : j < 32) : (nI S >>> (nI j &&& 31)) &&& 1 = 0 ↔ S.testBit j = false := by
  have h := bI_bit hS hj
  unfold bI at h
  cases e : S.testBit j
  · rw [e] at h
    by_cases g : (nI S >>> (nI j &&& 31)) &&& 1 = 0
    · simp [g]
    · rw [if_neg g] at h; exact absurd h (by decide)
  · rw [e] at h
    by_cases g : (nI S >>> (nI j &&& 31)) &&& 1 = 0
    · rw [if_pos g] at h; exact absurd h (by decide)
    · simp [g]
/-- the row of terms, the first j as values -/
def tmF (t : Nat → Nat) (val : Nat → Nat) (f : Nat → Int32) (j : Nat) : Nat → Int32 := fun u => if u < j then nI (tv val (t u)) else f u
theorem tmF_0 (t : Nat → Nat) (val : Nat → Nat) (f : Nat → Int32) : tmF t val f 0 = f := funext fun u => by rw [tmF, if_neg (by omega)]
theorem tmF_s {t : Nat → Nat} {val : Nat → Nat} {f : Nat → Int32} {j : Nat} : upd (tmF t val f j) j (nI (tv val (t j))) = tmF t val f (j + 1) := funext fun u => by
  by_cases e : u = j
  · subst e; rw [pk_us, tmF, if_pos (by omega)]
  · rw [pk_un e, tmF, tmF]
    by_cases g : u < j
    · rw [if_pos g, if_pos (by omega)]
    · rw [if_neg g, if_neg (by omega)]
theorem tmF_at {t : Nat → Nat} {val : Nat → Nat} {f : Nat → Int32} {j : Nat} : tmF t val f j j = f j := by rw [tmF, if_neg (Nat.lt_irrefl j)]
theorem nA_up {vx val : Nat → Nat} {v w : Nat} (h : ∀ u, u ≠ v → vx u = val u) : upd (nA vx) v (nI w) = nA (up val v w) := funext fun j => by
  by_cases e : j = v
  · subst e; rw [pk_us]; show _ = nI (up val j w j); rw [up, if_pos rfl]
  · rw [pk_un e]; show nI (vx j) = nI (up val v w j); rw [up, if_neg e, h j e]
theorem nA_back {vx val : Nat → Nat} {v : Nat} (h : ∀ u, u ≠ v → vx u = val u) : upd (nA vx) v (nI (val v)) = nA val := funext fun j => by
  by_cases e : j = v
  · subst e; rw [pk_us]; rfl
  · rw [pk_un e]; show nI (vx j) = nI (val j); rw [h j e]
theorem bit_and (a b : Bool) : bit a &&& bit b = bit (a && b) := by cases a <;> cases b <;> decide
theorem bit_or (a b : Bool) : bit a ||| bit b = bit (a || b) := by cases a <;> cases b <;> decide
theorem exB_ct {q : Nat → Bool} {n : Nat} : exB q n = decide (0 < ct q n) := by
  cases e : exB q n
  · have h : ct q n = 0 := ct_zero.mpr fun i hi => by
      cases h2 : q i
      · rfl
      · rw [exB_iff.mpr ⟨i, hi, h2⟩] at e; cases e
    rw [h]; rfl
  · obtain ⟨i, hi, h⟩ := exB_iff.mp e
    refine (decide_eq_true (Nat.pos_of_ne_zero fun z => ?_)).symm
    rw [ct_zero.mp z i hi] at h; cases h
set_option maxHeartbeats 4000000 in
set_option maxRecDepth 100000 in
/-- holds: an atom -/
theorem m_holds_0 (l : Launch) (D : va_G) (cy : Nat → ClassId) (O : Nat × va_E → Prop) {lo pl fx fm rc N i va dom y9 : Nat} {R : Nat → RRow} {T : Nat → TRow} {val : Nat → Nat} {f9 : Nat → Int32} (hL : LmO O cy lo pl fx fm rc N R T) (hi : i < N) (hN : N ≤ 40) (hy : ∃ FM : Nat → Option Nat, O (fm, .inl (cy 6, N, .inr (.inr (.inr (.inr FM))))) ∧ FM i = some y9) (hyO : O (y9, .inl (cy 0, 8, .inl f9))) (hT : rowT T i f9) (hdom : dom < 2 ^ 8) (hval : ∀ v, v < 6 → val v < 8) {n : Nat} (h9 : (T i).1 = 0) (hr9 : (T i).2.2.2.2.1 < rc) (ht : ∀ k, k < (R (T i).2.2.2.2.1).1 → isT ((T i).2.2.2.2.2 k)) : Ci l yX10_holds (.code yX10_holds cX10_holds 9 (some .boolean) :: WALL) ({ frames := 4 * (n + 1) + 6, cells := 1, slots := 3 * 1, locals := 90 * (n + 1) + 150 }) D cy O [.ref lo, .int (nI i), .ref va, .int (nI dom)] [(va, .inl (cy 0, 6, .inl (nA val)))] 1 (3 * 1) (fun (r : Int32) (w : va_W) => r = bit (exB (fun k => rok (R (T i).2.2.2.2.1).1 ((R (T i).2.2.2.2.1).2.2 k) (fun u => tv val ((T i).2.2.2.2.2 u)) (R (T i).2.2.2.2.1).1) (R (T i).2.2.2.2.1).2.1) ∧ w = [(va, .inl (cy 0, 6, .inl (nA val)))]) := by
  obtain ⟨hO, ⟨hrc, ⟨pf, hpl, hpf⟩, ⟨FX, fb, hFX, hFb⟩, hRb⟩, -⟩ := hL
  obtain ⟨FM, hFM, hFMi⟩ := hy
  obtain ⟨hk0, hk1, hkt, hk5, hk6, hk7⟩ := hT
  obtain ⟨hP3, hM24⟩ := hRb _ hr9
  have hF0 : ∀ u, u < (R (T i).2.2.2.2.1).1 → (va_cpy f9 (fun _ => 0) 2 0 (R (T i).2.2.2.2.1).1) u = nI ((T i).2.2.2.2.2 u) := fun u hu => by rw [pk_cpy_in (Nat.zero_le _) (by omega)]; exact hkt u (by omega)
  have htb : ∀ u, u < (R (T i).2.2.2.2.1).1 → (T i).2.2.2.2.2 u < 18 := fun u hu => by rcases ht u hu with h | h <;> omega
  have htv : ∀ u, u < (R (T i).2.2.2.2.1).1 → tv val ((T i).2.2.2.2.2 u) < 8 := fun u hu => by
    unfold tv
    rcases ht u hu with h | h
    · rw [if_pos (by omega)]; exact hval _ h
    · rw [if_neg (by omega)]; omega
  refine z_meti (by decide) rfl rfl (Nat.le_of_ble_eq_true rfl) ?_
  intro p e s m args below meth c X hr hin
  refine z_eq (ws' := [(va, .inl (cy 0, 6, .inl (nA val)))]) (lv' := [(0, .ref lo), (1, .int (nI i)), (2, .ref va), (3, .int (nI dom))]) (st' := []) rfl rfl rfl ?_
  have LP : ∀ (d : Nat) (j q9 : Nat), j + d = (R (T i).2.2.2.2.1).1 → Zz D (va_A [(va, .inl (cy 0, 6, .inl (nA val)))] s.heap.size) 9 p l e ({ frames := 4 * (n + 1) + 6, cells := 1, slots := 3 * 1, locals := 90 * (n + 1) + 150 }) s m args below meth c (MQ below (va_Qi (fun (r : Int32) (w : va_W) => r = bit (exB (fun k => rok (R (T i).2.2.2.2.1).1 ((R (T i).2.2.2.2.1).2.2 k) (fun u => tv val ((T i).2.2.2.2.2 u)) (R (T i).2.2.2.2.1).1) (R (T i).2.2.2.2.1).2.1) ∧ w = [(va, .inl (cy 0, 6, .inl (nA val)))]) (end_ D [(va, .inl (cy 0, 6, .inl (nA val)))] s.heap.size) (va_A [(va, .inl (cy 0, 6, .inl (nA val)))] s.heap.size)) args s 1 (3 * 1) (va_A [(va, .inl (cy 0, 6, .inl (nA val)))] s.heap.size)) [(va, .inl (cy 0, 6, .inl (nA val))), (q9, .inl (cy 0, (R (T i).2.2.2.2.1).1, .inl (tmF (T i).2.2.2.2.2 val (va_cpy f9 (fun _ => 0) 2 0 (R (T i).2.2.2.2.1).1) j)))] [(6, .int (nI j)), (5, .ref q9), (4, .ref y9), (0, .ref lo), (1, .int (nI i)), (2, .ref va), (3, .int (nI dom))] 1 3 27 [] := by
    intro d
    induction d with
    | zero =>
      intro j q9 hLP0
      refine z_iload X dX10_holds_27 (j := 0) rfl ?_
      refine z_aload X dX10_holds_29 (j := 1) rfl ?_
      refine z_alenW X 1 (t := 0) rfl rfl (v := (nI (R (T i).2.2.2.2.1).1)) rfl dX10_holds_31 ?_
      refine z_icmp_ge X (tgt := 74) dX10_holds_32 (by decide) (fun c_32 => ?_) (fun c9 => absurd (by rw [show j = (R (T i).2.2.2.2.1).1 by omega]; exact nI_le (Nat.le_refl _) (by omega)) c9)
      refine z_aload X dX10_holds_74 (j := 2) rfl ?_
      refine z_iconst X (v := 0) dX10_holds_76 (by decide) ?_
      refine z_ialdO X hyO (v := (nI (T i).1)) (by unfold vp_in; decide) hk0 dX10_holds_77 ?_
      refine z_if_ne X (tgt := 94) dX10_holds_78 (by decide) (fun c9 => absurd (by rw [h9]; rfl) c9) (fun c_78 => ?_)
      refine z_aload_n X dX10_holds_81 rfl (j := 3) rfl ?_
      refine z_aload X dX10_holds_82 (j := 2) rfl ?_
      refine z_iconst X (v := 1) dX10_holds_84 (by decide) ?_
      refine z_ialdO X hyO (v := (nI (T i).2.2.2.2.1)) (by unfold vp_in; decide) hk1 dX10_holds_85 ?_
      refine z_aload X dX10_holds_86 (j := 1) rfl ?_
      refine z_reti X (as := [.ref lo, .int (nI (T i).2.2.2.2.1), .ref q9]) (wc := []) (wr := [(va, .inl (cy 0, 6, .inl (nA val))), (q9, .inl (cy 0, (R (T i).2.2.2.2.1).1, .inl (tmF (T i).2.2.2.2.2 val (va_cpy f9 (fun _ => 0) 2 0 (R (T i).2.2.2.2.1).1) j)))]) (rest := []) (fun H9 locs9 ls9 hP9 hS9 hl9 hb9 hp9 => va_runV (As := [.int (nI (T i).2.2.2.2.1), .ref q9]) (rest := []) X.fix (m_isFact l D cy (fun z => O z ∨ z ∈ ([(va, .inl (cy 0, 6, .inl (nA val))), (q9, .inl (cy 0, (R (T i).2.2.2.2.1).1, .inl (tmF (T i).2.2.2.2.2 val (va_cpy f9 (fun _ => 0) 2 0 (R (T i).2.2.2.2.1).1) j)))] : va_W)) (Or.inl hO) (Or.inl hFX) hr9 hrc (hFb _ hr9).1 ((hFb _ hr9).2.mono fun z h => Or.inl h) hM24 hP3 (Or.inr (List.mem_of_getElem? (i := 1) rfl)) (Nat.le_refl _) (by omega) (f := fun u => tv val ((T i).2.2.2.2.2 u)) (fun u hu => ⟨by rw [tmF, if_pos (by omega)], Nat.lt_trans (htv u hu) (by decide)⟩) H9.size) (cwV 2 X.hts (gV ml_X10_84 im_X10_isFact se_X10_isFact ni_X10 cd_X10_isFact) rfl rfl rfl (by decide +kernel) ⟨by show 1 + 1 ≤ 4 * (n + 1) + 6; omega, by show 8 + (7 + 11) + 22 ≤ 90 * (n + 1) + 150; omega⟩) ⟨hb9, z_recvO X (ci := 10) (r := (RX10, TX10, 3)) hO rfl hS9, hp9⟩ rfl rfl hl9.1 rfl (lv_room (Nat.le_of_ble_eq_true rfl)) dX10_holds_88 ⟨Nat.le_of_ble_eq_true rfl, Nat.le_of_ble_eq_true rfl⟩) [] [0, 1] rfl rfl rfl rfl rfl (by decide) (fun z h => h) (fun r1 w2 h3 => ?_)
      obtain ⟨rfl, rfl⟩ := h3
      refine z_eq (ws' := [(va, .inl (cy 0, 6, .inl (nA val))), (q9, .inl (cy 0, (R (T i).2.2.2.2.1).1, .inl (tmF (T i).2.2.2.2.2 val (va_cpy f9 (fun _ => 0) 2 0 (R (T i).2.2.2.2.1).1) j)))]) (lv' := [(6, .int (nI j)), (5, .ref q9), (4, .ref y9), (0, .ref lo), (1, .int (nI i)), (2, .ref va), (3, .int (nI dom))]) (st' := [.int (bit (exB (fun k => rok (R (T i).2.2.2.2.1).1 ((R (T i).2.2.2.2.1).2.2 k) (fun u => tv val ((T i).2.2.2.2.2 u)) (R (T i).2.2.2.2.1).1) (R (T i).2.2.2.2.1).2.1))]) rfl rfl rfl ?_
      refine z_widen (k' := 1) (n' := 3) (Nat.le_refl _) (Nat.le_refl _) ?_
      refine z_goto X (tgt := 110) dX10_holds_91 (by decide) ?_
      refine z_widen (k' := 1) (n' := (3 * 1)) (by omega) (by omega) ?_
      exact z_endz X hr (bit_01 _) [(va, .inl (cy 0, 6, .inl (nA val)))] [0] rfl rfl rfl ⟨rfl, rfl⟩ dX10_holds_110
    | succ d ih =>
      intro j q9 hLP0
      refine z_iload X dX10_holds_27 (j := 0) rfl ?_
      refine z_aload X dX10_holds_29 (j := 1) rfl ?_
      refine z_alenW X 1 (t := 0) rfl rfl (v := (nI (R (T i).2.2.2.2.1).1)) rfl dX10_holds_31 ?_
      refine z_icmp_ge X (tgt := 74) dX10_holds_32 (by decide) (fun c9 => absurd c9 (nI_ge (by omega) (by omega))) (fun c_32 => ?_)
      refine z_aload X dX10_holds_35 (j := 1) rfl ?_
      refine z_iload X dX10_holds_37 (j := 0) rfl ?_
      refine z_aload X dX10_holds_39 (j := 1) rfl ?_
      refine z_iload X dX10_holds_41 (j := 0) rfl ?_
      refine z_ialdW X 1 rfl (v := (nI ((T i).2.2.2.2.2 j))) (vp_in_nI (by omega) (by omega)) (by rw [nI_clamp (by omega), tmF_at, hF0 j (by omega)]) dX10_holds_43 ?_
      refine z_bipush X (v := 6) dX10_holds_44 (by decide) ?_
      refine z_icmp_ge X (tgt := 59) dX10_holds_46 (by decide) (fun c_46 => ?_) (fun c_46 => ?_)
      · skip
        have h10 : 10 ≤ (T i).2.2.2.2.2 j := by
          have h7 := (nI_leI (a := 6) (by decide) (Nat.lt_trans (htb j (by omega)) (by decide))).mp c_46
          rcases ht j (by omega) with h8 | h8 <;> omega
        refine z_aload X dX10_holds_59 (j := 1) rfl ?_
        refine z_iload X dX10_holds_61 (j := 0) rfl ?_
        refine z_ialdW X 1 rfl (v := (nI ((T i).2.2.2.2.2 j))) (vp_in_nI (by omega) (by omega)) (by rw [nI_clamp (by omega), tmF_at, hF0 j (by omega)]) dX10_holds_63 ?_
        refine z_bipush X (v := 10) dX10_holds_64 (by decide) ?_
        refine z_isub X (v := (nI ((T i).2.2.2.2.2 j - 10))) dX10_holds_66 (sub_10 h10) ?_
        refine z_iastW X 1 rfl (vp_in_nI (by omega) (by omega)) (ws' := [(va, .inl (cy 0, 6, .inl (nA val))), (q9, .inl (cy 0, (R (T i).2.2.2.2.1).1, .inl (tmF (T i).2.2.2.2.2 val (va_cpy f9 (fun _ => 0) 2 0 (R (T i).2.2.2.2.1).1) (j + 1))))]) (by rw [nI_clamp (show j < 2 ^ 31 by omega), ← tmF_s, tv, if_neg (by omega)]; rfl) dX10_holds_67 ?_
        refine z_iinc X (j := 0) (v := (nI (j + 1))) (lv' := [(6, .int (nI (j + 1))), (5, .ref q9), (4, .ref y9), (0, .ref lo), (1, .int (nI i)), (2, .ref va), (3, .int (nI dom))]) dX10_holds_68 rfl (nI_1 j) (by decide) rfl ?_
        refine z_goto X (tgt := 27) dX10_holds_71 (by decide) ?_
        refine z_eq (ws' := [(va, .inl (cy 0, 6, .inl (nA val))), (q9, .inl (cy 0, (R (T i).2.2.2.2.1).1, .inl (tmF (T i).2.2.2.2.2 val (va_cpy f9 (fun _ => 0) 2 0 (R (T i).2.2.2.2.1).1) (j + 1))))]) (lv' := [(6, .int (nI (j + 1))), (5, .ref q9), (4, .ref y9), (0, .ref lo), (1, .int (nI i)), (2, .ref va), (3, .int (nI dom))]) (st' := []) rfl rfl rfl ?_
        exact ih (j + 1) q9 (by omega)
      · skip
        have h6 : (T i).2.2.2.2.2 j < 6 := (nI_ltI (Nat.lt_trans (htb j (by omega)) (by decide)) (by decide)).mp (Int32.not_le.mp c_46)
        refine z_aload_n X dX10_holds_49 rfl (j := 5) rfl ?_
        refine z_aload X dX10_holds_50 (j := 1) rfl ?_
        refine z_iload X dX10_holds_52 (j := 0) rfl ?_
        refine z_ialdW X 1 rfl (v := (nI ((T i).2.2.2.2.2 j))) (vp_in_nI (by omega) (by omega)) (by rw [nI_clamp (by omega), tmF_at, hF0 j (by omega)]) dX10_holds_54 ?_
        refine z_ialdW X 0 rfl (v := (nI (val ((T i).2.2.2.2.2 j)))) (vp_in_nI h6 (by decide)) (by rw [nI_clamp (by omega)]; rfl) dX10_holds_55 ?_
        refine z_goto X (tgt := 67) dX10_holds_56 (by decide) ?_
        refine z_iastW X 1 rfl (vp_in_nI (by omega) (by omega)) (ws' := [(va, .inl (cy 0, 6, .inl (nA val))), (q9, .inl (cy 0, (R (T i).2.2.2.2.1).1, .inl (tmF (T i).2.2.2.2.2 val (va_cpy f9 (fun _ => 0) 2 0 (R (T i).2.2.2.2.1).1) (j + 1))))]) (by rw [nI_clamp (show j < 2 ^ 31 by omega), ← tmF_s, tv, if_pos (by omega)]; rfl) dX10_holds_67 ?_
        refine z_iinc X (j := 0) (v := (nI (j + 1))) (lv' := [(6, .int (nI (j + 1))), (5, .ref q9), (4, .ref y9), (0, .ref lo), (1, .int (nI i)), (2, .ref va), (3, .int (nI dom))]) dX10_holds_68 rfl (nI_1 j) (by decide) rfl ?_
        refine z_goto X (tgt := 27) dX10_holds_71 (by decide) ?_
        refine z_eq (ws' := [(va, .inl (cy 0, 6, .inl (nA val))), (q9, .inl (cy 0, (R (T i).2.2.2.2.1).1, .inl (tmF (T i).2.2.2.2.2 val (va_cpy f9 (fun _ => 0) 2 0 (R (T i).2.2.2.2.1).1) (j + 1))))]) (lv' := [(6, .int (nI (j + 1))), (5, .ref q9), (4, .ref y9), (0, .ref lo), (1, .int (nI i)), (2, .ref va), (3, .int (nI dom))]) (st' := []) rfl rfl rfl ?_
        exact ih (j + 1) q9 (by omega)
  refine z_aload_n X dX10_holds_0 rfl (j := 0) rfl ?_
  refine z_getO X (ci := 10) (C := RX10) (T := TX10) (N := 3) inX10 hO rfl 2 (by decide) fl_X10_20 (fun _ h9 => h9) rfl dX10_holds_1 ?_
  refine z_iload_n X dX10_holds_4 rfl (j := 1) rfl ?_
  refine z_aaldAO X (t := .int) (k6 := 6) hFM rfl (b := y9) (vp_in_nI hi (by omega)) (by rw [nI_clamp (by omega)]; exact hFMi) dX10_holds_5 ?_
  refine z_astore X (lv' := [(4, .ref y9), (0, .ref lo), (1, .int (nI i)), (2, .ref va), (3, .int (nI dom))]) dX10_holds_6 (by decide) rfl ?_
  refine z_aload X dX10_holds_8 (j := 0) rfl ?_
  refine z_iconst X (v := 0) dX10_holds_10 (by decide) ?_
  refine z_ialdO X hyO (v := (nI (T i).1)) (by unfold vp_in; decide) hk0 dX10_holds_11 ?_
  refine z_iconst X (v := 2) dX10_holds_12 (by decide) ?_
  refine z_icmp_ge X (tgt := 111) dX10_holds_13 (by decide) (fun c9 => absurd c9 (nI_ge (a := (T i).1) (b := 2) (by omega) (by decide))) (fun c_13 => ?_)
  refine z_aload_n X dX10_holds_16 rfl (j := 1) rfl ?_
  refine z_aload X dX10_holds_17 (j := 0) rfl ?_
  refine z_retr X (as := [.ref lo, .ref y9]) (wc := []) (wr := [(va, .inl (cy 0, 6, .inl (nA val)))]) (rest := []) (fun H9 locs9 ls9 hP9 hS9 hl9 hb9 hp9 => va_runV (As := [.ref y9]) (rest := []) X.fix (m_terms_0 l D cy O hO hyO hk0 h9 hpl hr9 hrc hk1 (hpf _ hr9) hP3 H9.size) (cwV 1 X.hts (gV ml_X10_51 im_X10_terms se_X10_terms ni_X10 cd_X10_terms) rfl rfl rfl (by decide +kernel) ⟨by show 1 + 1 ≤ 4 * (n + 1) + 6; omega, by show 8 + (3 + 11) + 18 ≤ 90 * (n + 1) + 150; omega⟩) ⟨hb9, z_recvO X (ci := 10) (r := (RX10, TX10, 3)) hO rfl hS9, hp9⟩ rfl rfl hl9.1 rfl (lv_room (Nat.le_of_ble_eq_true rfl)) dX10_holds_19 ⟨Nat.le_of_ble_eq_true rfl, by show 0 + (R (T i).2.2.2.2.1).1 ≤ 3 * 1; omega⟩) [] [0] rfl rfl rfl rfl rfl (by decide) (fun _ h => Or.inl h) (fun q9 w4 h5 => ?_)
  subst h5
  refine z_eq (ws' := [(va, .inl (cy 0, 6, .inl (nA val))), (q9, .inl (cy 0, (R (T i).2.2.2.2.1).1, .inl (va_cpy f9 (fun _ => 0) 2 0 (R (T i).2.2.2.2.1).1)))]) (lv' := [(4, .ref y9), (0, .ref lo), (1, .int (nI i)), (2, .ref va), (3, .int (nI dom))]) (st' := [.ref q9]) rfl rfl rfl ?_
  refine z_widen (k' := 1) (n' := (0 + (R (T i).2.2.2.2.1).1)) (Nat.le_of_ble_eq_true rfl) (Nat.le_refl _) ?_
  refine z_astore X (lv' := [(5, .ref q9), (4, .ref y9), (0, .ref lo), (1, .int (nI i)), (2, .ref va), (3, .int (nI dom))]) dX10_holds_22 (by decide) rfl ?_
  refine z_iconst X (v := 0) dX10_holds_24 (by decide) ?_
  refine z_istore X (lv' := [(6, .int 0), (5, .ref q9), (4, .ref y9), (0, .ref lo), (1, .int (nI i)), (2, .ref va), (3, .int (nI dom))]) dX10_holds_25 (by decide) rfl ?_
  refine z_widen (k' := 1) (n' := 3) (Nat.le_refl _) (by omega) ?_
  refine z_eq (ws' := [(va, .inl (cy 0, 6, .inl (nA val))), (q9, .inl (cy 0, (R (T i).2.2.2.2.1).1, .inl (tmF (T i).2.2.2.2.2 val (va_cpy f9 (fun _ => 0) 2 0 (R (T i).2.2.2.2.1).1) 0)))]) (lv' := [(6, .int (nI 0)), (5, .ref q9), (4, .ref y9), (0, .ref lo), (1, .int (nI i)), (2, .ref va), (3, .int (nI dom))]) (st' := []) (by rw [tmF_0]) rfl rfl ?_
  exact LP (R (T i).2.2.2.2.1).1 0 q9 (by omega)
set_option maxHeartbeats 4000000 in
set_option maxRecDepth 100000 in
/-- holds: SAME -/
theorem m_holds_1 (l : Launch) (D : va_G) (cy : Nat → ClassId) (O : Nat × va_E → Prop) {lo pl fx fm rc N i va dom y9 : Nat} {R : Nat → RRow} {T : Nat → TRow} {val : Nat → Nat} {f9 : Nat → Int32} (hL : LmO O cy lo pl fx fm rc N R T) (hi : i < N) (hN : N ≤ 40) (hy : ∃ FM : Nat → Option Nat, O (fm, .inl (cy 6, N, .inr (.inr (.inr (.inr FM))))) ∧ FM i = some y9) (hyO : O (y9, .inl (cy 0, 8, .inl f9))) (hT : rowT T i f9) (hdom : dom < 2 ^ 8) (hval : ∀ v, v < 6 → val v < 8) {n : Nat} (h9 : (T i).1 = 1) (ht : ∀ k, k < 2 → isT ((T i).2.2.2.2.2 k)) : Ci l yX10_holds (.code yX10_holds cX10_holds 9 (some .boolean) :: WALL) ({ frames := 4 * (n + 1) + 6, cells := 1, slots := 3 * 1, locals := 90 * (n + 1) + 150 }) D cy O [.ref lo, .int (nI i), .ref va, .int (nI dom)] [(va, .inl (cy 0, 6, .inl (nA val)))] 1 (3 * 1) (fun (r : Int32) (w : va_W) => r = bit (decide (tv val ((T i).2.2.2.2.2 0) = tv val ((T i).2.2.2.2.2 1))) ∧ w = [(va, .inl (cy 0, 6, .inl (nA val)))]) := by
  obtain ⟨hO, ⟨hrc, ⟨pf, hpl, hpf⟩, ⟨FX, fb, hFX, hFb⟩, hRb⟩, -⟩ := hL
  obtain ⟨FM, hFM, hFMi⟩ := hy
  obtain ⟨hk0, hk1, hkt, hk5, hk6, hk7⟩ := hT
  have hF0 : ∀ u, u < 2 → (va_cpy f9 (fun _ => 0) 2 0 2) u = nI ((T i).2.2.2.2.2 u) := fun u hu => by rw [pk_cpy_in (Nat.zero_le _) (by omega)]; exact hkt u (by omega)
  have htb : ∀ u, u < 2 → (T i).2.2.2.2.2 u < 18 := fun u hu => by rcases ht u hu with h | h <;> omega
  have htv : ∀ u, u < 2 → tv val ((T i).2.2.2.2.2 u) < 8 := fun u hu => by
    unfold tv
    rcases ht u hu with h | h
    · rw [if_pos (by omega)]; exact hval _ h
    · rw [if_neg (by omega)]; omega
  refine z_meti (by decide) rfl rfl (Nat.le_of_ble_eq_true rfl) ?_
  intro p e s m args below meth c X hr hin
  refine z_eq (ws' := [(va, .inl (cy 0, 6, .inl (nA val)))]) (lv' := [(0, .ref lo), (1, .int (nI i)), (2, .ref va), (3, .int (nI dom))]) (st' := []) rfl rfl rfl ?_
  have LP : ∀ (d : Nat) (j q9 : Nat), j + d = 2 → Zz D (va_A [(va, .inl (cy 0, 6, .inl (nA val)))] s.heap.size) 9 p l e ({ frames := 4 * (n + 1) + 6, cells := 1, slots := 3 * 1, locals := 90 * (n + 1) + 150 }) s m args below meth c (MQ below (va_Qi (fun (r : Int32) (w : va_W) => r = bit (decide (tv val ((T i).2.2.2.2.2 0) = tv val ((T i).2.2.2.2.2 1))) ∧ w = [(va, .inl (cy 0, 6, .inl (nA val)))]) (end_ D [(va, .inl (cy 0, 6, .inl (nA val)))] s.heap.size) (va_A [(va, .inl (cy 0, 6, .inl (nA val)))] s.heap.size)) args s 1 (3 * 1) (va_A [(va, .inl (cy 0, 6, .inl (nA val)))] s.heap.size)) [(va, .inl (cy 0, 6, .inl (nA val))), (q9, .inl (cy 0, 2, .inl (tmF (T i).2.2.2.2.2 val (va_cpy f9 (fun _ => 0) 2 0 2) j)))] [(6, .int (nI j)), (5, .ref q9), (4, .ref y9), (0, .ref lo), (1, .int (nI i)), (2, .ref va), (3, .int (nI dom))] 1 3 27 [] := by
    intro d
    induction d with
    | zero =>
      intro j q9 hLP0
      refine z_iload X dX10_holds_27 (j := 0) rfl ?_
      refine z_aload X dX10_holds_29 (j := 1) rfl ?_
      refine z_alenW X 1 (t := 0) rfl rfl (v := (nI 2)) rfl dX10_holds_31 ?_
      refine z_icmp_ge X (tgt := 74) dX10_holds_32 (by decide) (fun c_32 => ?_) (fun c9 => absurd (by rw [show j = 2 by omega]; exact nI_le (Nat.le_refl _) (by omega)) c9)
      refine z_aload X dX10_holds_74 (j := 2) rfl ?_
      refine z_iconst X (v := 0) dX10_holds_76 (by decide) ?_
      refine z_ialdO X hyO (v := (nI (T i).1)) (by unfold vp_in; decide) hk0 dX10_holds_77 ?_
      refine z_if_ne X (tgt := 94) dX10_holds_78 (by decide) (fun c_78 => ?_) (fun c9 => absurd c9 (by rw [h9]; decide))
      refine z_aload X dX10_holds_94 (j := 1) rfl ?_
      refine z_iconst X (v := 0) dX10_holds_96 (by decide) ?_
      refine z_ialdW X 1 rfl (v := (nI (tv val ((T i).2.2.2.2.2 0)))) (by unfold vp_in; decide) (by show tmF (T i).2.2.2.2.2 val (va_cpy f9 (fun _ => 0) 2 0 2) j 0 = _; rw [tmF, if_pos (by omega)]) dX10_holds_97 ?_
      refine z_aload X dX10_holds_98 (j := 1) rfl ?_
      refine z_iconst X (v := 1) dX10_holds_100 (by decide) ?_
      refine z_ialdW X 1 rfl (v := (nI (tv val ((T i).2.2.2.2.2 1)))) (by unfold vp_in; decide) (by show tmF (T i).2.2.2.2.2 val (va_cpy f9 (fun _ => 0) 2 0 2) j 1 = _; rw [tmF, if_pos (by omega)]) dX10_holds_101 ?_
      refine z_icmp_ne X (tgt := 109) dX10_holds_102 (by decide) (fun c_102 => ?_) (fun c_102 => ?_)
      · skip
        refine z_iconst X (v := 0) dX10_holds_109 (by decide) ?_
        refine z_widen (k' := 1) (n' := (3 * 1)) (by omega) (by omega) ?_
        exact z_endz X hr (by first | exact Or.inl rfl | exact Or.inr rfl) [(va, .inl (cy 0, 6, .inl (nA val)))] [0] rfl rfl rfl ⟨(by rw [decide_eq_false (fun z => c_102 (by rw [z]))]; rfl), rfl⟩ dX10_holds_110
      · skip
        refine z_iconst X (v := 1) dX10_holds_105 (by decide) ?_
        refine z_goto X (tgt := 110) dX10_holds_106 (by decide) ?_
        refine z_widen (k' := 1) (n' := (3 * 1)) (by omega) (by omega) ?_
        exact z_endz X hr (by first | exact Or.inl rfl | exact Or.inr rfl) [(va, .inl (cy 0, 6, .inl (nA val)))] [0] rfl rfl rfl ⟨(by rw [decide_eq_true ((nI_eq (Nat.lt_trans (htv 0 (by decide)) (by decide)) (Nat.lt_trans (htv 1 (by decide)) (by decide))).mp c_102)]; rfl), rfl⟩ dX10_holds_110
    | succ d ih =>
      intro j q9 hLP0
      refine z_iload X dX10_holds_27 (j := 0) rfl ?_
      refine z_aload X dX10_holds_29 (j := 1) rfl ?_
      refine z_alenW X 1 (t := 0) rfl rfl (v := (nI 2)) rfl dX10_holds_31 ?_
      refine z_icmp_ge X (tgt := 74) dX10_holds_32 (by decide) (fun c9 => absurd c9 (nI_ge (by omega) (by omega))) (fun c_32 => ?_)
      refine z_aload X dX10_holds_35 (j := 1) rfl ?_
      refine z_iload X dX10_holds_37 (j := 0) rfl ?_
      refine z_aload X dX10_holds_39 (j := 1) rfl ?_
      refine z_iload X dX10_holds_41 (j := 0) rfl ?_
      refine z_ialdW X 1 rfl (v := (nI ((T i).2.2.2.2.2 j))) (vp_in_nI (by omega) (by omega)) (by rw [nI_clamp (by omega), tmF_at, hF0 j (by omega)]) dX10_holds_43 ?_
      refine z_bipush X (v := 6) dX10_holds_44 (by decide) ?_
      refine z_icmp_ge X (tgt := 59) dX10_holds_46 (by decide) (fun c_46 => ?_) (fun c_46 => ?_)
      · skip
        have h10 : 10 ≤ (T i).2.2.2.2.2 j := by
          have h7 := (nI_leI (a := 6) (by decide) (Nat.lt_trans (htb j (by omega)) (by decide))).mp c_46
          rcases ht j (by omega) with h8 | h8 <;> omega
        refine z_aload X dX10_holds_59 (j := 1) rfl ?_
        refine z_iload X dX10_holds_61 (j := 0) rfl ?_
        refine z_ialdW X 1 rfl (v := (nI ((T i).2.2.2.2.2 j))) (vp_in_nI (by omega) (by omega)) (by rw [nI_clamp (by omega), tmF_at, hF0 j (by omega)]) dX10_holds_63 ?_
        refine z_bipush X (v := 10) dX10_holds_64 (by decide) ?_
        refine z_isub X (v := (nI ((T i).2.2.2.2.2 j - 10))) dX10_holds_66 (sub_10 h10) ?_
        refine z_iastW X 1 rfl (vp_in_nI (by omega) (by omega)) (ws' := [(va, .inl (cy 0, 6, .inl (nA val))), (q9, .inl (cy 0, 2, .inl (tmF (T i).2.2.2.2.2 val (va_cpy f9 (fun _ => 0) 2 0 2) (j + 1))))]) (by rw [nI_clamp (show j < 2 ^ 31 by omega), ← tmF_s, tv, if_neg (by omega)]; rfl) dX10_holds_67 ?_
        refine z_iinc X (j := 0) (v := (nI (j + 1))) (lv' := [(6, .int (nI (j + 1))), (5, .ref q9), (4, .ref y9), (0, .ref lo), (1, .int (nI i)), (2, .ref va), (3, .int (nI dom))]) dX10_holds_68 rfl (nI_1 j) (by decide) rfl ?_
        refine z_goto X (tgt := 27) dX10_holds_71 (by decide) ?_
        refine z_eq (ws' := [(va, .inl (cy 0, 6, .inl (nA val))), (q9, .inl (cy 0, 2, .inl (tmF (T i).2.2.2.2.2 val (va_cpy f9 (fun _ => 0) 2 0 2) (j + 1))))]) (lv' := [(6, .int (nI (j + 1))), (5, .ref q9), (4, .ref y9), (0, .ref lo), (1, .int (nI i)), (2, .ref va), (3, .int (nI dom))]) (st' := []) rfl rfl rfl ?_
        exact ih (j + 1) q9 (by omega)
      · skip
        have h6 : (T i).2.2.2.2.2 j < 6 := (nI_ltI (Nat.lt_trans (htb j (by omega)) (by decide)) (by decide)).mp (Int32.not_le.mp c_46)
        refine z_aload_n X dX10_holds_49 rfl (j := 5) rfl ?_
        refine z_aload X dX10_holds_50 (j := 1) rfl ?_
        refine z_iload X dX10_holds_52 (j := 0) rfl ?_
        refine z_ialdW X 1 rfl (v := (nI ((T i).2.2.2.2.2 j))) (vp_in_nI (by omega) (by omega)) (by rw [nI_clamp (by omega), tmF_at, hF0 j (by omega)]) dX10_holds_54 ?_
        refine z_ialdW X 0 rfl (v := (nI (val ((T i).2.2.2.2.2 j)))) (vp_in_nI h6 (by decide)) (by rw [nI_clamp (by omega)]; rfl) dX10_holds_55 ?_
        refine z_goto X (tgt := 67) dX10_holds_56 (by decide) ?_
        refine z_iastW X 1 rfl (vp_in_nI (by omega) (by omega)) (ws' := [(va, .inl (cy 0, 6, .inl (nA val))), (q9, .inl (cy 0, 2, .inl (tmF (T i).2.2.2.2.2 val (va_cpy f9 (fun _ => 0) 2 0 2) (j + 1))))]) (by rw [nI_clamp (show j < 2 ^ 31 by omega), ← tmF_s, tv, if_pos (by omega)]; rfl) dX10_holds_67 ?_
        refine z_iinc X (j := 0) (v := (nI (j + 1))) (lv' := [(6, .int (nI (j + 1))), (5, .ref q9), (4, .ref y9), (0, .ref lo), (1, .int (nI i)), (2, .ref va), (3, .int (nI dom))]) dX10_holds_68 rfl (nI_1 j) (by decide) rfl ?_
        refine z_goto X (tgt := 27) dX10_holds_71 (by decide) ?_
        refine z_eq (ws' := [(va, .inl (cy 0, 6, .inl (nA val))), (q9, .inl (cy 0, 2, .inl (tmF (T i).2.2.2.2.2 val (va_cpy f9 (fun _ => 0) 2 0 2) (j + 1))))]) (lv' := [(6, .int (nI (j + 1))), (5, .ref q9), (4, .ref y9), (0, .ref lo), (1, .int (nI i)), (2, .ref va), (3, .int (nI dom))]) (st' := []) rfl rfl rfl ?_
        exact ih (j + 1) q9 (by omega)
  refine z_aload_n X dX10_holds_0 rfl (j := 0) rfl ?_
  refine z_getO X (ci := 10) (C := RX10) (T := TX10) (N := 3) inX10 hO rfl 2 (by decide) fl_X10_20 (fun _ h9 => h9) rfl dX10_holds_1 ?_
  refine z_iload_n X dX10_holds_4 rfl (j := 1) rfl ?_
  refine z_aaldAO X (t := .int) (k6 := 6) hFM rfl (b := y9) (vp_in_nI hi (by omega)) (by rw [nI_clamp (by omega)]; exact hFMi) dX10_holds_5 ?_
  refine z_astore X (lv' := [(4, .ref y9), (0, .ref lo), (1, .int (nI i)), (2, .ref va), (3, .int (nI dom))]) dX10_holds_6 (by decide) rfl ?_
  refine z_aload X dX10_holds_8 (j := 0) rfl ?_
  refine z_iconst X (v := 0) dX10_holds_10 (by decide) ?_
  refine z_ialdO X hyO (v := (nI (T i).1)) (by unfold vp_in; decide) hk0 dX10_holds_11 ?_
  refine z_iconst X (v := 2) dX10_holds_12 (by decide) ?_
  refine z_icmp_ge X (tgt := 111) dX10_holds_13 (by decide) (fun c9 => absurd c9 (nI_ge (a := (T i).1) (b := 2) (by omega) (by decide))) (fun c_13 => ?_)
  refine z_aload_n X dX10_holds_16 rfl (j := 1) rfl ?_
  refine z_aload X dX10_holds_17 (j := 0) rfl ?_
  refine z_retr X (as := [.ref lo, .ref y9]) (wc := []) (wr := [(va, .inl (cy 0, 6, .inl (nA val)))]) (rest := []) (fun H9 locs9 ls9 hP9 hS9 hl9 hb9 hp9 => va_runV (As := [.ref y9]) (rest := []) X.fix (m_terms_1 l D cy O hO hyO hk0 h9 H9.size) (cwV 1 X.hts (gV ml_X10_51 im_X10_terms se_X10_terms ni_X10 cd_X10_terms) rfl rfl rfl (by decide +kernel) ⟨by show 1 + 1 ≤ 4 * (n + 1) + 6; omega, by show 8 + (3 + 11) + 18 ≤ 90 * (n + 1) + 150; omega⟩) ⟨hb9, z_recvO X (ci := 10) (r := (RX10, TX10, 3)) hO rfl hS9, hp9⟩ rfl rfl hl9.1 rfl (lv_room (Nat.le_of_ble_eq_true rfl)) dX10_holds_19 ⟨Nat.le_of_ble_eq_true rfl, by show 0 + 2 ≤ 3 * 1; omega⟩) [] [0] rfl rfl rfl rfl rfl (by decide) (fun _ h => Or.inl h) (fun q9 w1 h2 => ?_)
  subst h2
  refine z_eq (ws' := [(va, .inl (cy 0, 6, .inl (nA val))), (q9, .inl (cy 0, 2, .inl (va_cpy f9 (fun _ => 0) 2 0 2)))]) (lv' := [(4, .ref y9), (0, .ref lo), (1, .int (nI i)), (2, .ref va), (3, .int (nI dom))]) (st' := [.ref q9]) rfl rfl rfl ?_
  refine z_widen (k' := 1) (n' := (0 + 2)) (Nat.le_of_ble_eq_true rfl) (Nat.le_refl _) ?_
  refine z_astore X (lv' := [(5, .ref q9), (4, .ref y9), (0, .ref lo), (1, .int (nI i)), (2, .ref va), (3, .int (nI dom))]) dX10_holds_22 (by decide) rfl ?_
  refine z_iconst X (v := 0) dX10_holds_24 (by decide) ?_
  refine z_istore X (lv' := [(6, .int 0), (5, .ref q9), (4, .ref y9), (0, .ref lo), (1, .int (nI i)), (2, .ref va), (3, .int (nI dom))]) dX10_holds_25 (by decide) rfl ?_
  refine z_widen (k' := 1) (n' := 3) (Nat.le_refl _) (by omega) ?_
  refine z_eq (ws' := [(va, .inl (cy 0, 6, .inl (nA val))), (q9, .inl (cy 0, 2, .inl (tmF (T i).2.2.2.2.2 val (va_cpy f9 (fun _ => 0) 2 0 2) 0)))]) (lv' := [(6, .int (nI 0)), (5, .ref q9), (4, .ref y9), (0, .ref lo), (1, .int (nI i)), (2, .ref va), (3, .int (nI dom))]) (st' := []) (by rw [tmF_0]) rfl rfl ?_
  exact LP 2 0 q9 (by omega)
set_option maxHeartbeats 4000000 in
set_option maxRecDepth 100000 in
/-- holds: NOT -/
theorem m_holds_2 (l : Launch) (D : va_G) (cy : Nat → ClassId) (O : Nat × va_E → Prop) {lo pl fx fm rc N i va dom y9 : Nat} {R : Nat → RRow} {T : Nat → TRow} {val : Nat → Nat} {f9 : Nat → Int32} (hL : LmO O cy lo pl fx fm rc N R T) (hi : i < N) (hN : N ≤ 40) (hy : ∃ FM : Nat → Option Nat, O (fm, .inl (cy 6, N, .inr (.inr (.inr (.inr FM))))) ∧ FM i = some y9) (hyO : O (y9, .inl (cy 0, 8, .inl f9))) (hT : rowT T i f9) (hdom : dom < 2 ^ 8) (hval : ∀ v, v < 6 → val v < 8) {n c1 : Nat} {b1 : (Nat → Nat) → Bool} (h9 : (T i).1 = 2) (ih : ∀ val : Nat → Nat, (∀ v, v < 6 → val v < 8) → Ci l yX10_holds (.code yX10_holds cX10_holds 9 (some .boolean) :: WALL) ({ frames := 4 * n + 6, cells := c1, slots := 3 * c1, locals := 90 * n + 150 }) D cy O [.ref lo, .int (nI (T i).2.1), .ref va, .int (nI dom)] [(va, .inl (cy 0, 6, .inl (nA val)))] c1 (3 * c1) (fun (r : Int32) (w : va_W) => r = bit (b1 val) ∧ w = [(va, .inl (cy 0, 6, .inl (nA val)))])) : Ci l yX10_holds (.code yX10_holds cX10_holds 9 (some .boolean) :: WALL) ({ frames := 4 * (n + 1) + 6, cells := c1, slots := 3 * c1, locals := 90 * (n + 1) + 150 }) D cy O [.ref lo, .int (nI i), .ref va, .int (nI dom)] [(va, .inl (cy 0, 6, .inl (nA val)))] c1 (3 * c1) (fun (r : Int32) (w : va_W) => r = bit (!b1 val) ∧ w = [(va, .inl (cy 0, 6, .inl (nA val)))]) := by
  obtain ⟨hO, ⟨hrc, ⟨pf, hpl, hpf⟩, ⟨FX, fb, hFX, hFb⟩, hRb⟩, -⟩ := hL
  obtain ⟨FM, hFM, hFMi⟩ := hy
  obtain ⟨hk0, hk1, hkt, hk5, hk6, hk7⟩ := hT
  refine z_meti (by decide) rfl rfl (Nat.le_of_ble_eq_true rfl) ?_
  intro p e s m args below meth c X hr hin
  refine z_eq (ws' := [(va, .inl (cy 0, 6, .inl (nA val)))]) (lv' := [(0, .ref lo), (1, .int (nI i)), (2, .ref va), (3, .int (nI dom))]) (st' := []) rfl rfl rfl ?_
  refine z_aload_n X dX10_holds_0 rfl (j := 0) rfl ?_
  refine z_getO X (ci := 10) (C := RX10) (T := TX10) (N := 3) inX10 hO rfl 2 (by decide) fl_X10_20 (fun _ h9 => h9) rfl dX10_holds_1 ?_
  refine z_iload_n X dX10_holds_4 rfl (j := 1) rfl ?_
  refine z_aaldAO X (t := .int) (k6 := 6) hFM rfl (b := y9) (vp_in_nI hi (by omega)) (by rw [nI_clamp (by omega)]; exact hFMi) dX10_holds_5 ?_
  refine z_astore X (lv' := [(4, .ref y9), (0, .ref lo), (1, .int (nI i)), (2, .ref va), (3, .int (nI dom))]) dX10_holds_6 (by decide) rfl ?_
  refine z_aload X dX10_holds_8 (j := 0) rfl ?_
  refine z_iconst X (v := 0) dX10_holds_10 (by decide) ?_
  refine z_ialdO X hyO (v := (nI (T i).1)) (by unfold vp_in; decide) hk0 dX10_holds_11 ?_
  refine z_iconst X (v := 2) dX10_holds_12 (by decide) ?_
  refine z_icmp_ge X (tgt := 111) dX10_holds_13 (by decide) (fun c_13 => ?_) (fun c9 => absurd (nI_le (a := 2) (b := (T i).1) (by omega) (by omega)) c9)
  refine z_aload X dX10_holds_111 (j := 0) rfl ?_
  refine z_iconst X (v := 0) dX10_holds_113 (by decide) ?_
  refine z_ialdO X hyO (v := (nI (T i).1)) (by unfold vp_in; decide) hk0 dX10_holds_114 ?_
  refine z_iconst X (v := 2) dX10_holds_115 (by decide) ?_
  refine z_icmp_ne X (tgt := 138) dX10_holds_116 (by decide) (fun c9 => absurd (by rw [h9]; rfl) c9) (fun c_116 => ?_)
  refine z_aload_n X dX10_holds_119 rfl (j := 1) rfl ?_
  refine z_aload X dX10_holds_120 (j := 0) rfl ?_
  refine z_iconst X (v := 5) dX10_holds_122 (by decide) ?_
  refine z_ialdO X hyO (v := (nI (T i).2.1)) (by unfold vp_in; decide) (hk5 (by omega)) dX10_holds_123 ?_
  refine z_aload_n X dX10_holds_124 rfl (j := 3) rfl ?_
  refine z_iload_n X dX10_holds_125 rfl (j := 4) rfl ?_
  refine z_reti X (as := [.ref lo, .int (nI (T i).2.1), .ref va, .int (nI dom)]) (wc := [(va, .inl (cy 0, 6, .inl (nA val)))]) (wr := []) (rest := []) (fun H9 locs9 ls9 hP9 hS9 hl9 hb9 hp9 => va_runV (As := [.int (nI (T i).2.1), .ref va, .int (nI dom)]) (rest := []) X.fix (ih val hval H9.size) (cwV 3 X.hts (gV ml_X10_88 im_X10_holds se_X10_holds ni_X10 cd_X10_holds) rfl rfl rfl (by decide +kernel) ⟨by show 4 * n + 6 + 1 ≤ 4 * (n + 1) + 6; omega, by show 8 + (9 + 11) + (90 * n + 150) ≤ 90 * (n + 1) + 150; omega⟩) ⟨hb9, z_recvO X (ci := 10) (r := (RX10, TX10, 3)) hO rfl hS9, hp9⟩ rfl rfl hl9.1 rfl (lv_room (Nat.le_of_ble_eq_true rfl)) dX10_holds_126 ⟨by show 0 + c1 ≤ c1; omega, by show 0 + 3 * c1 ≤ 3 * c1; omega⟩) [0] [] rfl rfl rfl rfl rfl (by decide) (fun _ h => Or.inl h) (fun r1 w2 h3 => ?_)
  obtain ⟨rfl, rfl⟩ := h3
  refine z_eq (ws' := [(va, .inl (cy 0, 6, .inl (nA val)))]) (lv' := [(4, .ref y9), (0, .ref lo), (1, .int (nI i)), (2, .ref va), (3, .int (nI dom))]) (st' := [.int (bit (b1 val))]) rfl rfl rfl ?_
  refine z_widen (k' := (0 + c1)) (n' := (0 + (3 * c1))) (Nat.le_refl _) (Nat.le_refl _) ?_
  refine z_if_ne X (tgt := 136) dX10_holds_129 (by decide) (fun c_129 => ?_) (fun c_129 => ?_)
  · skip
    refine z_iconst X (v := 0) dX10_holds_136 (by decide) ?_
    refine z_widen (k' := c1) (n' := (3 * c1)) (by omega) (by omega) ?_
    exact z_endz X hr (by first | exact Or.inl rfl | exact Or.inr rfl) [(va, .inl (cy 0, 6, .inl (nA val)))] [0] rfl rfl rfl ⟨(by rw [bit_y c_129]; rfl), rfl⟩ dX10_holds_137
  · skip
    refine z_iconst X (v := 1) dX10_holds_132 (by decide) ?_
    refine z_goto X (tgt := 137) dX10_holds_133 (by decide) ?_
    refine z_widen (k' := c1) (n' := (3 * c1)) (by omega) (by omega) ?_
    exact z_endz X hr (by first | exact Or.inl rfl | exact Or.inr rfl) [(va, .inl (cy 0, 6, .inl (nA val)))] [0] rfl rfl rfl ⟨(by rw [bit_n c_129]; rfl), rfl⟩ dX10_holds_137
set_option maxHeartbeats 4000000 in
set_option maxRecDepth 100000 in
/-- holds: BOTH -/
theorem m_holds_3 (l : Launch) (D : va_G) (cy : Nat → ClassId) (O : Nat × va_E → Prop) {lo pl fx fm rc N i va dom y9 : Nat} {R : Nat → RRow} {T : Nat → TRow} {val : Nat → Nat} {f9 : Nat → Int32} (hL : LmO O cy lo pl fx fm rc N R T) (hi : i < N) (hN : N ≤ 40) (hy : ∃ FM : Nat → Option Nat, O (fm, .inl (cy 6, N, .inr (.inr (.inr (.inr FM))))) ∧ FM i = some y9) (hyO : O (y9, .inl (cy 0, 8, .inl f9))) (hT : rowT T i f9) (hdom : dom < 2 ^ 8) (hval : ∀ v, v < 6 → val v < 8) {n c1 c2 : Nat} {b1 b2 : (Nat → Nat) → Bool} (h9 : (T i).1 = 3) (ih : ∀ val : Nat → Nat, (∀ v, v < 6 → val v < 8) → Ci l yX10_holds (.code yX10_holds cX10_holds 9 (some .boolean) :: WALL) ({ frames := 4 * n + 6, cells := c1, slots := 3 * c1, locals := 90 * n + 150 }) D cy O [.ref lo, .int (nI (T i).2.1), .ref va, .int (nI dom)] [(va, .inl (cy 0, 6, .inl (nA val)))] c1 (3 * c1) (fun (r : Int32) (w : va_W) => r = bit (b1 val) ∧ w = [(va, .inl (cy 0, 6, .inl (nA val)))])) (ih2 : ∀ val : Nat → Nat, (∀ v, v < 6 → val v < 8) → Ci l yX10_holds (.code yX10_holds cX10_holds 9 (some .boolean) :: WALL) ({ frames := 4 * n + 6, cells := c2, slots := 3 * c2, locals := 90 * n + 150 }) D cy O [.ref lo, .int (nI (T i).2.2.1), .ref va, .int (nI dom)] [(va, .inl (cy 0, 6, .inl (nA val)))] c2 (3 * c2) (fun (r : Int32) (w : va_W) => r = bit (b2 val) ∧ w = [(va, .inl (cy 0, 6, .inl (nA val)))])) : Ci l yX10_holds (.code yX10_holds cX10_holds 9 (some .boolean) :: WALL) ({ frames := 4 * (n + 1) + 6, cells := (c1 + c2), slots := 3 * (c1 + c2), locals := 90 * (n + 1) + 150 }) D cy O [.ref lo, .int (nI i), .ref va, .int (nI dom)] [(va, .inl (cy 0, 6, .inl (nA val)))] (c1 + c2) (3 * (c1 + c2)) (fun (r : Int32) (w : va_W) => r = bit (b1 val && b2 val) ∧ w = [(va, .inl (cy 0, 6, .inl (nA val)))]) := by
  obtain ⟨hO, ⟨hrc, ⟨pf, hpl, hpf⟩, ⟨FX, fb, hFX, hFb⟩, hRb⟩, -⟩ := hL
  obtain ⟨FM, hFM, hFMi⟩ := hy
  obtain ⟨hk0, hk1, hkt, hk5, hk6, hk7⟩ := hT
  refine z_meti (by decide) rfl rfl (Nat.le_of_ble_eq_true rfl) ?_
  intro p e s m args below meth c X hr hin
  refine z_eq (ws' := [(va, .inl (cy 0, 6, .inl (nA val)))]) (lv' := [(0, .ref lo), (1, .int (nI i)), (2, .ref va), (3, .int (nI dom))]) (st' := []) rfl rfl rfl ?_
  refine z_aload_n X dX10_holds_0 rfl (j := 0) rfl ?_
  refine z_getO X (ci := 10) (C := RX10) (T := TX10) (N := 3) inX10 hO rfl 2 (by decide) fl_X10_20 (fun _ h9 => h9) rfl dX10_holds_1 ?_
  refine z_iload_n X dX10_holds_4 rfl (j := 1) rfl ?_
  refine z_aaldAO X (t := .int) (k6 := 6) hFM rfl (b := y9) (vp_in_nI hi (by omega)) (by rw [nI_clamp (by omega)]; exact hFMi) dX10_holds_5 ?_
  refine z_astore X (lv' := [(4, .ref y9), (0, .ref lo), (1, .int (nI i)), (2, .ref va), (3, .int (nI dom))]) dX10_holds_6 (by decide) rfl ?_
  refine z_aload X dX10_holds_8 (j := 0) rfl ?_
  refine z_iconst X (v := 0) dX10_holds_10 (by decide) ?_
  refine z_ialdO X hyO (v := (nI (T i).1)) (by unfold vp_in; decide) hk0 dX10_holds_11 ?_
  refine z_iconst X (v := 2) dX10_holds_12 (by decide) ?_
  refine z_icmp_ge X (tgt := 111) dX10_holds_13 (by decide) (fun c_13 => ?_) (fun c9 => absurd (nI_le (a := 2) (b := (T i).1) (by omega) (by omega)) c9)
  refine z_aload X dX10_holds_111 (j := 0) rfl ?_
  refine z_iconst X (v := 0) dX10_holds_113 (by decide) ?_
  refine z_ialdO X hyO (v := (nI (T i).1)) (by unfold vp_in; decide) hk0 dX10_holds_114 ?_
  refine z_iconst X (v := 2) dX10_holds_115 (by decide) ?_
  refine z_icmp_ne X (tgt := 138) dX10_holds_116 (by decide) (fun c_116 => ?_) (fun c9 => absurd c9 (by rw [h9]; decide))
  refine z_aload X dX10_holds_138 (j := 0) rfl ?_
  refine z_iconst X (v := 0) dX10_holds_140 (by decide) ?_
  refine z_ialdO X hyO (v := (nI (T i).1)) (by unfold vp_in; decide) hk0 dX10_holds_141 ?_
  refine z_iconst X (v := 5) dX10_holds_142 (by decide) ?_
  refine z_icmp_ge X (tgt := 193) dX10_holds_143 (by decide) (fun c9 => absurd c9 (nI_ge (a := (T i).1) (b := 5) (by omega) (by decide))) (fun c_143 => ?_)
  refine z_aload_n X dX10_holds_146 rfl (j := 1) rfl ?_
  refine z_aload X dX10_holds_147 (j := 0) rfl ?_
  refine z_iconst X (v := 5) dX10_holds_149 (by decide) ?_
  refine z_ialdO X hyO (v := (nI (T i).2.1)) (by unfold vp_in; decide) (hk5 (by omega)) dX10_holds_150 ?_
  refine z_aload_n X dX10_holds_151 rfl (j := 3) rfl ?_
  refine z_iload_n X dX10_holds_152 rfl (j := 4) rfl ?_
  refine z_reti X (as := [.ref lo, .int (nI (T i).2.1), .ref va, .int (nI dom)]) (wc := [(va, .inl (cy 0, 6, .inl (nA val)))]) (wr := []) (rest := []) (fun H9 locs9 ls9 hP9 hS9 hl9 hb9 hp9 => va_runV (As := [.int (nI (T i).2.1), .ref va, .int (nI dom)]) (rest := []) X.fix (ih val hval H9.size) (cwV 3 X.hts (gV ml_X10_88 im_X10_holds se_X10_holds ni_X10 cd_X10_holds) rfl rfl rfl (by decide +kernel) ⟨by show 4 * n + 6 + 1 ≤ 4 * (n + 1) + 6; omega, by show 8 + (9 + 11) + (90 * n + 150) ≤ 90 * (n + 1) + 150; omega⟩) ⟨hb9, z_recvO X (ci := 10) (r := (RX10, TX10, 3)) hO rfl hS9, hp9⟩ rfl rfl hl9.1 rfl (lv_room (Nat.le_of_ble_eq_true rfl)) dX10_holds_153 ⟨by show 0 + c1 ≤ c1 + c2; omega, by show 0 + 3 * c1 ≤ 3 * (c1 + c2); omega⟩) [0] [] rfl rfl rfl rfl rfl (by decide) (fun _ h => Or.inl h) (fun r1 w2 h3 => ?_)
  obtain ⟨rfl, rfl⟩ := h3
  refine z_eq (ws' := [(va, .inl (cy 0, 6, .inl (nA val)))]) (lv' := [(4, .ref y9), (0, .ref lo), (1, .int (nI i)), (2, .ref va), (3, .int (nI dom))]) (st' := [.int (bit (b1 val))]) rfl rfl rfl ?_
  refine z_widen (k' := (0 + c1)) (n' := (0 + (3 * c1))) (Nat.le_refl _) (Nat.le_refl _) ?_
  refine z_istore X (lv' := [(5, .int (bit (b1 val))), (4, .ref y9), (0, .ref lo), (1, .int (nI i)), (2, .ref va), (3, .int (nI dom))]) dX10_holds_156 (by decide) rfl ?_
  refine z_aload_n X dX10_holds_158 rfl (j := 2) rfl ?_
  refine z_aload X dX10_holds_159 (j := 1) rfl ?_
  refine z_bipush X (v := 6) dX10_holds_161 (by decide) ?_
  refine z_ialdO X hyO (v := (nI (T i).2.2.1)) (by unfold vp_in; decide) (hk6 (by omega)) dX10_holds_163 ?_
  refine z_aload_n X dX10_holds_164 rfl (j := 4) rfl ?_
  refine z_iload_n X dX10_holds_165 rfl (j := 5) rfl ?_
  refine z_reti X (as := [.ref lo, .int (nI (T i).2.2.1), .ref va, .int (nI dom)]) (wc := [(va, .inl (cy 0, 6, .inl (nA val)))]) (wr := []) (rest := []) (fun H9 locs9 ls9 hP9 hS9 hl9 hb9 hp9 => va_runV (As := [.int (nI (T i).2.2.1), .ref va, .int (nI dom)]) (rest := []) X.fix (ih2 val hval H9.size) (cwV 3 X.hts (gV ml_X10_88 im_X10_holds se_X10_holds ni_X10 cd_X10_holds) rfl rfl rfl (by decide +kernel) ⟨by show 4 * n + 6 + 1 ≤ 4 * (n + 1) + 6; omega, by show 8 + (9 + 11) + (90 * n + 150) ≤ 90 * (n + 1) + 150; omega⟩) ⟨hb9, z_recvO X (ci := 10) (r := (RX10, TX10, 3)) hO rfl hS9, hp9⟩ rfl rfl hl9.1 rfl (lv_room (Nat.le_of_ble_eq_true rfl)) dX10_holds_166 ⟨by show 0 + c1 + c2 ≤ c1 + c2; omega, by show 0 + 3 * c1 + 3 * c2 ≤ 3 * (c1 + c2); omega⟩) [0] [] rfl rfl rfl rfl rfl (by decide) (fun _ h => Or.inl h) (fun r4 w5 h6 => ?_)
  obtain ⟨rfl, rfl⟩ := h6
  refine z_eq (ws' := [(va, .inl (cy 0, 6, .inl (nA val)))]) (lv' := [(5, .int (bit (b1 val))), (4, .ref y9), (0, .ref lo), (1, .int (nI i)), (2, .ref va), (3, .int (nI dom))]) (st' := [.int (bit (b2 val))]) rfl rfl rfl ?_
  refine z_widen (k' := ((0 + c1) + c2)) (n' := ((0 + (3 * c1)) + (3 * c2))) (Nat.le_refl _) (Nat.le_refl _) ?_
  refine z_istore X (lv' := [(6, .int (bit (b2 val))), (5, .int (bit (b1 val))), (4, .ref y9), (0, .ref lo), (1, .int (nI i)), (2, .ref va), (3, .int (nI dom))]) dX10_holds_169 (by decide) rfl ?_
  refine z_aload X dX10_holds_171 (j := 2) rfl ?_
  refine z_iconst X (v := 0) dX10_holds_173 (by decide) ?_
  refine z_ialdO X hyO (v := (nI (T i).1)) (by unfold vp_in; decide) hk0 dX10_holds_174 ?_
  refine z_iconst X (v := 3) dX10_holds_175 (by decide) ?_
  refine z_icmp_ne X (tgt := 187) dX10_holds_176 (by decide) (fun c9 => absurd (by rw [h9]; rfl) c9) (fun c_176 => ?_)
  refine z_iload X dX10_holds_179 (j := 1) rfl ?_
  refine z_iload X dX10_holds_181 (j := 0) rfl ?_
  refine z_iand X (v := (bit (b1 val && b2 val))) dX10_holds_183 (bit_and _ _) ?_
  refine z_goto X (tgt := 192) dX10_holds_184 (by decide) ?_
  refine z_widen (k' := (c1 + c2)) (n' := (3 * (c1 + c2))) (by omega) (by omega) ?_
  exact z_endz X hr (bit_01 _) [(va, .inl (cy 0, 6, .inl (nA val)))] [0] rfl rfl rfl ⟨rfl, rfl⟩ dX10_holds_192
set_option maxHeartbeats 4000000 in
set_option maxRecDepth 100000 in
/-- holds: EITHER -/
theorem m_holds_4 (l : Launch) (D : va_G) (cy : Nat → ClassId) (O : Nat × va_E → Prop) {lo pl fx fm rc N i va dom y9 : Nat} {R : Nat → RRow} {T : Nat → TRow} {val : Nat → Nat} {f9 : Nat → Int32} (hL : LmO O cy lo pl fx fm rc N R T) (hi : i < N) (hN : N ≤ 40) (hy : ∃ FM : Nat → Option Nat, O (fm, .inl (cy 6, N, .inr (.inr (.inr (.inr FM))))) ∧ FM i = some y9) (hyO : O (y9, .inl (cy 0, 8, .inl f9))) (hT : rowT T i f9) (hdom : dom < 2 ^ 8) (hval : ∀ v, v < 6 → val v < 8) {n c1 c2 : Nat} {b1 b2 : (Nat → Nat) → Bool} (h9 : (T i).1 = 4) (ih : ∀ val : Nat → Nat, (∀ v, v < 6 → val v < 8) → Ci l yX10_holds (.code yX10_holds cX10_holds 9 (some .boolean) :: WALL) ({ frames := 4 * n + 6, cells := c1, slots := 3 * c1, locals := 90 * n + 150 }) D cy O [.ref lo, .int (nI (T i).2.1), .ref va, .int (nI dom)] [(va, .inl (cy 0, 6, .inl (nA val)))] c1 (3 * c1) (fun (r : Int32) (w : va_W) => r = bit (b1 val) ∧ w = [(va, .inl (cy 0, 6, .inl (nA val)))])) (ih2 : ∀ val : Nat → Nat, (∀ v, v < 6 → val v < 8) → Ci l yX10_holds (.code yX10_holds cX10_holds 9 (some .boolean) :: WALL) ({ frames := 4 * n + 6, cells := c2, slots := 3 * c2, locals := 90 * n + 150 }) D cy O [.ref lo, .int (nI (T i).2.2.1), .ref va, .int (nI dom)] [(va, .inl (cy 0, 6, .inl (nA val)))] c2 (3 * c2) (fun (r : Int32) (w : va_W) => r = bit (b2 val) ∧ w = [(va, .inl (cy 0, 6, .inl (nA val)))])) : Ci l yX10_holds (.code yX10_holds cX10_holds 9 (some .boolean) :: WALL) ({ frames := 4 * (n + 1) + 6, cells := (c1 + c2), slots := 3 * (c1 + c2), locals := 90 * (n + 1) + 150 }) D cy O [.ref lo, .int (nI i), .ref va, .int (nI dom)] [(va, .inl (cy 0, 6, .inl (nA val)))] (c1 + c2) (3 * (c1 + c2)) (fun (r : Int32) (w : va_W) => r = bit (b1 val || b2 val) ∧ w = [(va, .inl (cy 0, 6, .inl (nA val)))]) := by
  obtain ⟨hO, ⟨hrc, ⟨pf, hpl, hpf⟩, ⟨FX, fb, hFX, hFb⟩, hRb⟩, -⟩ := hL
  obtain ⟨FM, hFM, hFMi⟩ := hy
  obtain ⟨hk0, hk1, hkt, hk5, hk6, hk7⟩ := hT
  refine z_meti (by decide) rfl rfl (Nat.le_of_ble_eq_true rfl) ?_
  intro p e s m args below meth c X hr hin
  refine z_eq (ws' := [(va, .inl (cy 0, 6, .inl (nA val)))]) (lv' := [(0, .ref lo), (1, .int (nI i)), (2, .ref va), (3, .int (nI dom))]) (st' := []) rfl rfl rfl ?_
  refine z_aload_n X dX10_holds_0 rfl (j := 0) rfl ?_
  refine z_getO X (ci := 10) (C := RX10) (T := TX10) (N := 3) inX10 hO rfl 2 (by decide) fl_X10_20 (fun _ h9 => h9) rfl dX10_holds_1 ?_
  refine z_iload_n X dX10_holds_4 rfl (j := 1) rfl ?_
  refine z_aaldAO X (t := .int) (k6 := 6) hFM rfl (b := y9) (vp_in_nI hi (by omega)) (by rw [nI_clamp (by omega)]; exact hFMi) dX10_holds_5 ?_
  refine z_astore X (lv' := [(4, .ref y9), (0, .ref lo), (1, .int (nI i)), (2, .ref va), (3, .int (nI dom))]) dX10_holds_6 (by decide) rfl ?_
  refine z_aload X dX10_holds_8 (j := 0) rfl ?_
  refine z_iconst X (v := 0) dX10_holds_10 (by decide) ?_
  refine z_ialdO X hyO (v := (nI (T i).1)) (by unfold vp_in; decide) hk0 dX10_holds_11 ?_
  refine z_iconst X (v := 2) dX10_holds_12 (by decide) ?_
  refine z_icmp_ge X (tgt := 111) dX10_holds_13 (by decide) (fun c_13 => ?_) (fun c9 => absurd (nI_le (a := 2) (b := (T i).1) (by omega) (by omega)) c9)
  refine z_aload X dX10_holds_111 (j := 0) rfl ?_
  refine z_iconst X (v := 0) dX10_holds_113 (by decide) ?_
  refine z_ialdO X hyO (v := (nI (T i).1)) (by unfold vp_in; decide) hk0 dX10_holds_114 ?_
  refine z_iconst X (v := 2) dX10_holds_115 (by decide) ?_
  refine z_icmp_ne X (tgt := 138) dX10_holds_116 (by decide) (fun c_116 => ?_) (fun c9 => absurd c9 (by rw [h9]; decide))
  refine z_aload X dX10_holds_138 (j := 0) rfl ?_
  refine z_iconst X (v := 0) dX10_holds_140 (by decide) ?_
  refine z_ialdO X hyO (v := (nI (T i).1)) (by unfold vp_in; decide) hk0 dX10_holds_141 ?_
  refine z_iconst X (v := 5) dX10_holds_142 (by decide) ?_
  refine z_icmp_ge X (tgt := 193) dX10_holds_143 (by decide) (fun c9 => absurd c9 (nI_ge (a := (T i).1) (b := 5) (by omega) (by decide))) (fun c_143 => ?_)
  refine z_aload_n X dX10_holds_146 rfl (j := 1) rfl ?_
  refine z_aload X dX10_holds_147 (j := 0) rfl ?_
  refine z_iconst X (v := 5) dX10_holds_149 (by decide) ?_
  refine z_ialdO X hyO (v := (nI (T i).2.1)) (by unfold vp_in; decide) (hk5 (by omega)) dX10_holds_150 ?_
  refine z_aload_n X dX10_holds_151 rfl (j := 3) rfl ?_
  refine z_iload_n X dX10_holds_152 rfl (j := 4) rfl ?_
  refine z_reti X (as := [.ref lo, .int (nI (T i).2.1), .ref va, .int (nI dom)]) (wc := [(va, .inl (cy 0, 6, .inl (nA val)))]) (wr := []) (rest := []) (fun H9 locs9 ls9 hP9 hS9 hl9 hb9 hp9 => va_runV (As := [.int (nI (T i).2.1), .ref va, .int (nI dom)]) (rest := []) X.fix (ih val hval H9.size) (cwV 3 X.hts (gV ml_X10_88 im_X10_holds se_X10_holds ni_X10 cd_X10_holds) rfl rfl rfl (by decide +kernel) ⟨by show 4 * n + 6 + 1 ≤ 4 * (n + 1) + 6; omega, by show 8 + (9 + 11) + (90 * n + 150) ≤ 90 * (n + 1) + 150; omega⟩) ⟨hb9, z_recvO X (ci := 10) (r := (RX10, TX10, 3)) hO rfl hS9, hp9⟩ rfl rfl hl9.1 rfl (lv_room (Nat.le_of_ble_eq_true rfl)) dX10_holds_153 ⟨by show 0 + c1 ≤ c1 + c2; omega, by show 0 + 3 * c1 ≤ 3 * (c1 + c2); omega⟩) [0] [] rfl rfl rfl rfl rfl (by decide) (fun _ h => Or.inl h) (fun r1 w2 h3 => ?_)
  obtain ⟨rfl, rfl⟩ := h3
  refine z_eq (ws' := [(va, .inl (cy 0, 6, .inl (nA val)))]) (lv' := [(4, .ref y9), (0, .ref lo), (1, .int (nI i)), (2, .ref va), (3, .int (nI dom))]) (st' := [.int (bit (b1 val))]) rfl rfl rfl ?_
  refine z_widen (k' := (0 + c1)) (n' := (0 + (3 * c1))) (Nat.le_refl _) (Nat.le_refl _) ?_
  refine z_istore X (lv' := [(5, .int (bit (b1 val))), (4, .ref y9), (0, .ref lo), (1, .int (nI i)), (2, .ref va), (3, .int (nI dom))]) dX10_holds_156 (by decide) rfl ?_
  refine z_aload_n X dX10_holds_158 rfl (j := 2) rfl ?_
  refine z_aload X dX10_holds_159 (j := 1) rfl ?_
  refine z_bipush X (v := 6) dX10_holds_161 (by decide) ?_
  refine z_ialdO X hyO (v := (nI (T i).2.2.1)) (by unfold vp_in; decide) (hk6 (by omega)) dX10_holds_163 ?_
  refine z_aload_n X dX10_holds_164 rfl (j := 4) rfl ?_
  refine z_iload_n X dX10_holds_165 rfl (j := 5) rfl ?_
  refine z_reti X (as := [.ref lo, .int (nI (T i).2.2.1), .ref va, .int (nI dom)]) (wc := [(va, .inl (cy 0, 6, .inl (nA val)))]) (wr := []) (rest := []) (fun H9 locs9 ls9 hP9 hS9 hl9 hb9 hp9 => va_runV (As := [.int (nI (T i).2.2.1), .ref va, .int (nI dom)]) (rest := []) X.fix (ih2 val hval H9.size) (cwV 3 X.hts (gV ml_X10_88 im_X10_holds se_X10_holds ni_X10 cd_X10_holds) rfl rfl rfl (by decide +kernel) ⟨by show 4 * n + 6 + 1 ≤ 4 * (n + 1) + 6; omega, by show 8 + (9 + 11) + (90 * n + 150) ≤ 90 * (n + 1) + 150; omega⟩) ⟨hb9, z_recvO X (ci := 10) (r := (RX10, TX10, 3)) hO rfl hS9, hp9⟩ rfl rfl hl9.1 rfl (lv_room (Nat.le_of_ble_eq_true rfl)) dX10_holds_166 ⟨by show 0 + c1 + c2 ≤ c1 + c2; omega, by show 0 + 3 * c1 + 3 * c2 ≤ 3 * (c1 + c2); omega⟩) [0] [] rfl rfl rfl rfl rfl (by decide) (fun _ h => Or.inl h) (fun r4 w5 h6 => ?_)
  obtain ⟨rfl, rfl⟩ := h6
  refine z_eq (ws' := [(va, .inl (cy 0, 6, .inl (nA val)))]) (lv' := [(5, .int (bit (b1 val))), (4, .ref y9), (0, .ref lo), (1, .int (nI i)), (2, .ref va), (3, .int (nI dom))]) (st' := [.int (bit (b2 val))]) rfl rfl rfl ?_
  refine z_widen (k' := ((0 + c1) + c2)) (n' := ((0 + (3 * c1)) + (3 * c2))) (Nat.le_refl _) (Nat.le_refl _) ?_
  refine z_istore X (lv' := [(6, .int (bit (b2 val))), (5, .int (bit (b1 val))), (4, .ref y9), (0, .ref lo), (1, .int (nI i)), (2, .ref va), (3, .int (nI dom))]) dX10_holds_169 (by decide) rfl ?_
  refine z_aload X dX10_holds_171 (j := 2) rfl ?_
  refine z_iconst X (v := 0) dX10_holds_173 (by decide) ?_
  refine z_ialdO X hyO (v := (nI (T i).1)) (by unfold vp_in; decide) hk0 dX10_holds_174 ?_
  refine z_iconst X (v := 3) dX10_holds_175 (by decide) ?_
  refine z_icmp_ne X (tgt := 187) dX10_holds_176 (by decide) (fun c_176 => ?_) (fun c9 => absurd c9 (by rw [h9]; decide))
  refine z_iload X dX10_holds_187 (j := 1) rfl ?_
  refine z_iload X dX10_holds_189 (j := 0) rfl ?_
  refine z_ior X (v := (bit (b1 val || b2 val))) dX10_holds_191 (bit_or _ _) ?_
  refine z_widen (k' := (c1 + c2)) (n' := (3 * (c1 + c2))) (by omega) (by omega) ?_
  exact z_endz X hr (bit_01 _) [(va, .inl (cy 0, 6, .inl (nA val)))] [0] rfl rfl rfl ⟨rfl, rfl⟩ dX10_holds_192
set_option maxHeartbeats 4000000 in
set_option maxRecDepth 100000 in
/-- holds: SOME -/
theorem m_holds_5 (l : Launch) (D : va_G) (cy : Nat → ClassId) (O : Nat × va_E → Prop) {lo pl fx fm rc N i va dom y9 : Nat} {R : Nat → RRow} {T : Nat → TRow} {val : Nat → Nat} {f9 : Nat → Int32} (hL : LmO O cy lo pl fx fm rc N R T) (hi : i < N) (hN : N ≤ 40) (hy : ∃ FM : Nat → Option Nat, O (fm, .inl (cy 6, N, .inr (.inr (.inr (.inr FM))))) ∧ FM i = some y9) (hyO : O (y9, .inl (cy 0, 8, .inl f9))) (hT : rowT T i f9) (hdom : dom < 2 ^ 8) (hval : ∀ v, v < 6 → val v < 8) {n c1 : Nat} {b1 : (Nat → Nat) → Bool} (h9 : (T i).1 = 5) (hv6 : (T i).2.2.2.1 < 6) (ih : ∀ val : Nat → Nat, (∀ v, v < 6 → val v < 8) → Ci l yX10_holds (.code yX10_holds cX10_holds 9 (some .boolean) :: WALL) ({ frames := 4 * n + 6, cells := c1, slots := 3 * c1, locals := 90 * n + 150 }) D cy O [.ref lo, .int (nI (T i).2.1), .ref va, .int (nI dom)] [(va, .inl (cy 0, 6, .inl (nA val)))] c1 (3 * c1) (fun (r : Int32) (w : va_W) => r = bit (b1 val) ∧ w = [(va, .inl (cy 0, 6, .inl (nA val)))])) : Ci l yX10_holds (.code yX10_holds cX10_holds 9 (some .boolean) :: WALL) ({ frames := 4 * (n + 1) + 6, cells := ((ct dom.testBit 8) * c1), slots := 3 * ((ct dom.testBit 8) * c1), locals := 90 * (n + 1) + 150 }) D cy O [.ref lo, .int (nI i), .ref va, .int (nI dom)] [(va, .inl (cy 0, 6, .inl (nA val)))] ((ct dom.testBit 8) * c1) (3 * ((ct dom.testBit 8) * c1)) (fun (r : Int32) (w : va_W) => r = bit (exB (fun w => dom.testBit w && b1 (up val (T i).2.2.2.1 w)) 8) ∧ w = [(va, .inl (cy 0, 6, .inl (nA val)))]) := by
  obtain ⟨hO, ⟨hrc, ⟨pf, hpl, hpf⟩, ⟨FX, fb, hFX, hFb⟩, hRb⟩, -⟩ := hL
  obtain ⟨FM, hFM, hFMi⟩ := hy
  obtain ⟨hk0, hk1, hkt, hk5, hk6, hk7⟩ := hT
  refine z_meti (by decide) rfl rfl (Nat.le_of_ble_eq_true rfl) ?_
  intro p e s m args below meth c X hr hin
  refine z_eq (ws' := [(va, .inl (cy 0, 6, .inl (nA val)))]) (lv' := [(0, .ref lo), (1, .int (nI i)), (2, .ref va), (3, .int (nI dom))]) (st' := []) rfl rfl rfl ?_
  have hup : ∀ w, w < 8 → ∀ u, u < 6 → up val (T i).2.2.2.1 w u < 8 := fun w hw u hu => by
    unfold up; split
    · exact hw
    · exact hval u hu
  have LP : ∀ (d : Nat) (w9 : Nat) (vx : Nat → Nat), w9 + d = 8 → (∀ u, u ≠ (T i).2.2.2.1 → vx u = val u) → Zz D (va_A [(va, .inl (cy 0, 6, .inl (nA val)))] s.heap.size) 9 p l e ({ frames := 4 * (n + 1) + 6, cells := ((ct dom.testBit 8) * c1), slots := 3 * ((ct dom.testBit 8) * c1), locals := 90 * (n + 1) + 150 }) s m args below meth c (MQ below (va_Qi (fun (r : Int32) (w : va_W) => r = bit (exB (fun w => dom.testBit w && b1 (up val (T i).2.2.2.1 w)) 8) ∧ w = [(va, .inl (cy 0, 6, .inl (nA val)))]) (end_ D [(va, .inl (cy 0, 6, .inl (nA val)))] s.heap.size) (va_A [(va, .inl (cy 0, 6, .inl (nA val)))] s.heap.size)) args s ((ct dom.testBit 8) * c1) (3 * ((ct dom.testBit 8) * c1)) (va_A [(va, .inl (cy 0, 6, .inl (nA val)))] s.heap.size)) [(va, .inl (cy 0, 6, .inl (nA vx)))] [(8, .int (nI w9)), (7, .int (nI (ct (fun w => dom.testBit w && !b1 (up val (T i).2.2.2.1 w)) w9))), (6, .int (nI (ct (fun w => dom.testBit w && b1 (up val (T i).2.2.2.1 w)) w9))), (5, .int (nI (val (T i).2.2.2.1))), (4, .ref y9), (0, .ref lo), (1, .int (nI i)), (2, .ref va), (3, .int (nI dom))] (ct dom.testBit w9 * c1) (3 * (ct dom.testBit w9 * c1)) 211 [] := by
    intro d
    induction d with
    | zero =>
      intro w9 vx hL0 hL1
      have hw8 : w9 = 8 := by omega
      subst hw8
      refine z_iload X dX10_holds_211 (j := 0) rfl ?_
      refine z_bipush X (v := 8) dX10_holds_213 (by decide) ?_
      refine z_icmp_ge X (tgt := 267) dX10_holds_215 (by decide) (fun c_215 => ?_) (fun c9 => absurd (by decide) c9)
      refine z_aload_n X dX10_holds_267 rfl (j := 7) rfl ?_
      refine z_aload X dX10_holds_268 (j := 4) rfl ?_
      refine z_bipush X (v := 7) dX10_holds_270 (by decide) ?_
      refine z_ialdO X hyO (v := (nI (T i).2.2.2.1)) (by unfold vp_in; decide) (hk7 (by omega)) dX10_holds_272 ?_
      refine z_iload X dX10_holds_273 (j := 3) rfl ?_
      refine z_iastW X 0 rfl (vp_in_nI hv6 (by decide)) (ws' := [(va, .inl (cy 0, 6, .inl (nA val)))]) (by rw [nI_clamp (by omega), nA_back hL1]; rfl) dX10_holds_275 ?_
      refine z_aload X dX10_holds_276 (j := 4) rfl ?_
      refine z_iconst X (v := 0) dX10_holds_278 (by decide) ?_
      refine z_ialdO X hyO (v := (nI (T i).1)) (by unfold vp_in; decide) hk0 dX10_holds_279 ?_
      refine z_iconst X (v := 5) dX10_holds_280 (by decide) ?_
      refine z_icmp_ne X (tgt := 297) dX10_holds_281 (by decide) (fun c9 => absurd (by rw [h9]; rfl) c9) (fun c_281 => ?_)
      refine z_iload X dX10_holds_284 (j := 2) rfl ?_
      refine z_if_le X (tgt := 293) dX10_holds_286 (by decide) (fun c_286 => ?_) (fun c_286 => ?_)
      · skip
        refine z_iconst X (v := 0) dX10_holds_293 (by decide) ?_
        refine z_goto X (tgt := 307) dX10_holds_294 (by decide) ?_
        refine z_widen (k' := ((ct dom.testBit 8) * c1)) (n' := (3 * ((ct dom.testBit 8) * c1))) (by omega) (by omega) ?_
        exact z_endz X hr (by first | exact Or.inl rfl | exact Or.inr rfl) [(va, .inl (cy 0, 6, .inl (nA val)))] [0] rfl rfl rfl ⟨(by rw [exB_ct, decide_eq_false (fun z => nI_nle z (Nat.lt_of_le_of_lt (ct_le _ 8) (by decide)) c_286)]; rfl), rfl⟩ dX10_holds_307
      · skip
        refine z_iconst X (v := 1) dX10_holds_289 (by decide) ?_
        refine z_goto X (tgt := 307) dX10_holds_290 (by decide) ?_
        refine z_widen (k' := ((ct dom.testBit 8) * c1)) (n' := (3 * ((ct dom.testBit 8) * c1))) (by omega) (by omega) ?_
        exact z_endz X hr (by first | exact Or.inl rfl | exact Or.inr rfl) [(va, .inl (cy 0, 6, .inl (nA val)))] [0] rfl rfl rfl ⟨(by rw [exB_ct, decide_eq_true (Nat.pos_of_ne_zero fun z => c_286 (by rw [z]; exact Int32.le_refl _))]; rfl), rfl⟩ dX10_holds_307
    | succ d ihw =>
      intro w9 vx hL0 hL1
      have hcm : ct dom.testBit w9 ≤ ct dom.testBit (w9 + 1) := ct_le_of (Nat.le_succ w9)
      refine z_iload X dX10_holds_211 (j := 0) rfl ?_
      refine z_bipush X (v := 8) dX10_holds_213 (by decide) ?_
      refine z_icmp_ge X (tgt := 267) dX10_holds_215 (by decide) (fun c9 => absurd c9 (nI_ge (a := w9) (b := 8) (by omega) (by decide))) (fun c_215 => ?_)
      refine z_iload_n X dX10_holds_218 rfl (j := 8) rfl ?_
      refine z_iload X dX10_holds_219 (j := 0) rfl ?_
      refine z_ishr X (v := (nI dom >>> (nI w9 &&& 31))) dX10_holds_221 rfl ?_
      refine z_iconst X (v := 1) dX10_holds_222 (by decide) ?_
      refine z_iand X (v := ((nI dom >>> (nI w9 &&& 31)) &&& 1)) dX10_holds_223 rfl ?_
      refine z_if_ne X (tgt := 230) dX10_holds_224 (by decide) (fun c_224 => ?_) (fun c_224 => ?_)
      · skip
        have hb9 : dom.testBit w9 = true := by
          cases e9 : dom.testBit w9
          · exact absurd ((shb (by omega) (by omega)).mpr e9) c_224
          · rfl
        have hcs : ct dom.testBit (w9 + 1) = ct dom.testBit w9 + 1 := ct_s_t hb9
        have hc8 : ct dom.testBit w9 + 1 ≤ ct dom.testBit 8 := by rw [← hcs]; exact ct_le_of (by omega)
        have hcc : ct dom.testBit w9 * c1 + c1 ≤ ct dom.testBit 8 * c1 := by
          have h7 := Nat.mul_le_mul_right c1 hc8
          rw [Nat.add_mul, Nat.one_mul] at h7; exact h7
        refine z_aload_n X dX10_holds_230 rfl (j := 7) rfl ?_
        refine z_aload X dX10_holds_231 (j := 4) rfl ?_
        refine z_bipush X (v := 7) dX10_holds_233 (by decide) ?_
        refine z_ialdO X hyO (v := (nI (T i).2.2.2.1)) (by unfold vp_in; decide) (hk7 (by omega)) dX10_holds_235 ?_
        refine z_iload X dX10_holds_236 (j := 0) rfl ?_
        refine z_iastW X 0 rfl (vp_in_nI hv6 (by decide)) (ws' := [(va, .inl (cy 0, 6, .inl (nA (up val (T i).2.2.2.1 w9))))]) (by rw [nI_clamp (by omega), nA_up hL1]; rfl) dX10_holds_238 ?_
        refine z_aload_n X dX10_holds_239 rfl (j := 5) rfl ?_
        refine z_aload X dX10_holds_240 (j := 4) rfl ?_
        refine z_iconst X (v := 5) dX10_holds_242 (by decide) ?_
        refine z_ialdO X hyO (v := (nI (T i).2.1)) (by unfold vp_in; decide) (hk5 (by omega)) dX10_holds_243 ?_
        refine z_aload_n X dX10_holds_244 rfl (j := 7) rfl ?_
        refine z_iload_n X dX10_holds_245 rfl (j := 8) rfl ?_
        refine z_reti X (as := [.ref lo, .int (nI (T i).2.1), .ref va, .int (nI dom)]) (wc := [(va, .inl (cy 0, 6, .inl (nA (up val (T i).2.2.2.1 w9))))]) (wr := []) (rest := []) (fun H9 locs9 ls9 hP9 hS9 hl9 hb9 hp9 => va_runV (As := [.int (nI (T i).2.1), .ref va, .int (nI dom)]) (rest := []) X.fix (ih (up val (T i).2.2.2.1 w9) (hup w9 (by omega)) H9.size) (cwV 3 X.hts (gV ml_X10_88 im_X10_holds se_X10_holds ni_X10 cd_X10_holds) rfl rfl rfl (by decide +kernel) ⟨by show 4 * n + 6 + 1 ≤ 4 * (n + 1) + 6; omega, by show 8 + (9 + 11) + (90 * n + 150) ≤ 90 * (n + 1) + 150; omega⟩) ⟨hb9, z_recvO X (ci := 10) (r := (RX10, TX10, 3)) hO rfl hS9, hp9⟩ rfl rfl hl9.1 rfl (lv_room (Nat.le_of_ble_eq_true rfl)) dX10_holds_246 ⟨by show ct dom.testBit w9 * c1 + c1 ≤ _; exact hcc, by show 3 * (ct dom.testBit w9 * c1) + 3 * c1 ≤ 3 * (ct dom.testBit 8 * c1); omega⟩) [0] [] rfl rfl rfl rfl rfl (by decide) (fun _ h => Or.inl h) (fun r1 w2 h3 => ?_)
        obtain ⟨rfl, rfl⟩ := h3
        refine z_eq (ws' := [(va, .inl (cy 0, 6, .inl (nA (up val (T i).2.2.2.1 w9))))]) (lv' := [(8, .int (nI w9)), (7, .int (nI (ct (fun w => dom.testBit w && !b1 (up val (T i).2.2.2.1 w)) w9))), (6, .int (nI (ct (fun w => dom.testBit w && b1 (up val (T i).2.2.2.1 w)) w9))), (5, .int (nI (val (T i).2.2.2.1))), (4, .ref y9), (0, .ref lo), (1, .int (nI i)), (2, .ref va), (3, .int (nI dom))]) (st' := [.int (bit (b1 (up val (T i).2.2.2.1 w9)))]) rfl rfl rfl ?_
        refine z_widen (k' := ((ct dom.testBit w9 * c1) + c1)) (n' := ((3 * (ct dom.testBit w9 * c1)) + (3 * c1))) (Nat.le_refl _) (Nat.le_refl _) ?_
        refine z_if_eq X (tgt := 258) dX10_holds_249 (by decide) (fun c_249 => ?_) (fun c_249 => ?_)
        · skip
          refine z_iinc X (j := 1) (v := (nI ((ct (fun w => dom.testBit w && !b1 (up val (T i).2.2.2.1 w)) w9) + 1))) (lv' := [(7, .int (nI ((ct (fun w => dom.testBit w && !b1 (up val (T i).2.2.2.1 w)) w9) + 1))), (8, .int (nI w9)), (6, .int (nI (ct (fun w => dom.testBit w && b1 (up val (T i).2.2.2.1 w)) w9))), (5, .int (nI (val (T i).2.2.2.1))), (4, .ref y9), (0, .ref lo), (1, .int (nI i)), (2, .ref va), (3, .int (nI dom))]) dX10_holds_258 rfl (nI_1 _) (by decide) rfl ?_
          refine z_iinc X (j := 1) (v := (nI (w9 + 1))) (lv' := [(8, .int (nI (w9 + 1))), (7, .int (nI ((ct (fun w => dom.testBit w && !b1 (up val (T i).2.2.2.1 w)) w9) + 1))), (6, .int (nI (ct (fun w => dom.testBit w && b1 (up val (T i).2.2.2.1 w)) w9))), (5, .int (nI (val (T i).2.2.2.1))), (4, .ref y9), (0, .ref lo), (1, .int (nI i)), (2, .ref va), (3, .int (nI dom))]) dX10_holds_261 rfl (nI_1 w9) (by decide) rfl ?_
          refine z_goto X (tgt := 211) dX10_holds_264 (by decide) ?_
          refine z_widen (k' := (ct dom.testBit (w9 + 1) * c1)) (n' := (3 * (ct dom.testBit (w9 + 1) * c1))) (by rw [hcs, Nat.add_mul, Nat.one_mul]; exact Nat.le_refl _) (by rw [hcs, Nat.add_mul, Nat.one_mul, Nat.mul_add]; exact Nat.le_refl _) ?_
          refine z_eq (ws' := [(va, .inl (cy 0, 6, .inl (nA (up val (T i).2.2.2.1 w9))))]) (lv' := [(8, .int (nI (w9 + 1))), (7, .int (nI (ct (fun w => dom.testBit w && !b1 (up val (T i).2.2.2.1 w)) (w9 + 1)))), (6, .int (nI (ct (fun w => dom.testBit w && b1 (up val (T i).2.2.2.1 w)) (w9 + 1)))), (5, .int (nI (val (T i).2.2.2.1))), (4, .ref y9), (0, .ref lo), (1, .int (nI i)), (2, .ref va), (3, .int (nI dom))]) (st' := []) rfl (by rw [ct_s_t (show (fun w => dom.testBit w && !b1 (up val (T i).2.2.2.1 w)) w9 = true by simp [hb9, bit_n c_249]), ct_s_f (show (fun w => dom.testBit w && b1 (up val (T i).2.2.2.1 w)) w9 = false by simp [bit_n c_249])]) rfl ?_
          exact ihw (w9 + 1) (up val (T i).2.2.2.1 w9) (by omega) (fun u hu => by rw [up, if_neg hu])
        · skip
          refine z_iinc X (j := 2) (v := (nI ((ct (fun w => dom.testBit w && b1 (up val (T i).2.2.2.1 w)) w9) + 1))) (lv' := [(6, .int (nI ((ct (fun w => dom.testBit w && b1 (up val (T i).2.2.2.1 w)) w9) + 1))), (8, .int (nI w9)), (7, .int (nI (ct (fun w => dom.testBit w && !b1 (up val (T i).2.2.2.1 w)) w9))), (5, .int (nI (val (T i).2.2.2.1))), (4, .ref y9), (0, .ref lo), (1, .int (nI i)), (2, .ref va), (3, .int (nI dom))]) dX10_holds_252 rfl (nI_1 _) (by decide) rfl ?_
          refine z_goto X (tgt := 261) dX10_holds_255 (by decide) ?_
          refine z_iinc X (j := 1) (v := (nI (w9 + 1))) (lv' := [(8, .int (nI (w9 + 1))), (6, .int (nI ((ct (fun w => dom.testBit w && b1 (up val (T i).2.2.2.1 w)) w9) + 1))), (7, .int (nI (ct (fun w => dom.testBit w && !b1 (up val (T i).2.2.2.1 w)) w9))), (5, .int (nI (val (T i).2.2.2.1))), (4, .ref y9), (0, .ref lo), (1, .int (nI i)), (2, .ref va), (3, .int (nI dom))]) dX10_holds_261 rfl (nI_1 w9) (by decide) rfl ?_
          refine z_goto X (tgt := 211) dX10_holds_264 (by decide) ?_
          refine z_widen (k' := (ct dom.testBit (w9 + 1) * c1)) (n' := (3 * (ct dom.testBit (w9 + 1) * c1))) (by rw [hcs, Nat.add_mul, Nat.one_mul]; exact Nat.le_refl _) (by rw [hcs, Nat.add_mul, Nat.one_mul, Nat.mul_add]; exact Nat.le_refl _) ?_
          refine z_lv [0, 2, 1, 3, 4, 5, 6, 7, 8] (lv' := [(8, .int (nI (w9 + 1))), (7, .int (nI (ct (fun w => dom.testBit w && !b1 (up val (T i).2.2.2.1 w)) w9))), (6, .int (nI ((ct (fun w => dom.testBit w && b1 (up val (T i).2.2.2.1 w)) w9) + 1))), (5, .int (nI (val (T i).2.2.2.1))), (4, .ref y9), (0, .ref lo), (1, .int (nI i)), (2, .ref va), (3, .int (nI dom))]) rfl ?_
          refine z_eq (ws' := [(va, .inl (cy 0, 6, .inl (nA (up val (T i).2.2.2.1 w9))))]) (lv' := [(8, .int (nI (w9 + 1))), (7, .int (nI (ct (fun w => dom.testBit w && !b1 (up val (T i).2.2.2.1 w)) (w9 + 1)))), (6, .int (nI (ct (fun w => dom.testBit w && b1 (up val (T i).2.2.2.1 w)) (w9 + 1)))), (5, .int (nI (val (T i).2.2.2.1))), (4, .ref y9), (0, .ref lo), (1, .int (nI i)), (2, .ref va), (3, .int (nI dom))]) (st' := []) rfl (by rw [ct_s_f (show (fun w => dom.testBit w && !b1 (up val (T i).2.2.2.1 w)) w9 = false by simp [bit_y c_249]), ct_s_t (show (fun w => dom.testBit w && b1 (up val (T i).2.2.2.1 w)) w9 = true by simp [hb9, bit_y c_249])]) rfl ?_
          exact ihw (w9 + 1) (up val (T i).2.2.2.1 w9) (by omega) (fun u hu => by rw [up, if_neg hu])
      · skip
        have hb9 : dom.testBit w9 = false := (shb (by omega) (by omega)).mp c_224
        refine z_goto X (tgt := 261) dX10_holds_227 (by decide) ?_
        refine z_iinc X (j := 0) (v := (nI (w9 + 1))) (lv' := [(8, .int (nI (w9 + 1))), (7, .int (nI (ct (fun w => dom.testBit w && !b1 (up val (T i).2.2.2.1 w)) w9))), (6, .int (nI (ct (fun w => dom.testBit w && b1 (up val (T i).2.2.2.1 w)) w9))), (5, .int (nI (val (T i).2.2.2.1))), (4, .ref y9), (0, .ref lo), (1, .int (nI i)), (2, .ref va), (3, .int (nI dom))]) dX10_holds_261 rfl (nI_1 w9) (by decide) rfl ?_
        refine z_goto X (tgt := 211) dX10_holds_264 (by decide) ?_
        refine z_widen (k' := (ct dom.testBit (w9 + 1) * c1)) (n' := (3 * (ct dom.testBit (w9 + 1) * c1))) (Nat.mul_le_mul_right _ hcm) (Nat.mul_le_mul_left _ (Nat.mul_le_mul_right _ hcm)) ?_
        refine z_eq (ws' := [(va, .inl (cy 0, 6, .inl (nA vx)))]) (lv' := [(8, .int (nI (w9 + 1))), (7, .int (nI (ct (fun w => dom.testBit w && !b1 (up val (T i).2.2.2.1 w)) (w9 + 1)))), (6, .int (nI (ct (fun w => dom.testBit w && b1 (up val (T i).2.2.2.1 w)) (w9 + 1)))), (5, .int (nI (val (T i).2.2.2.1))), (4, .ref y9), (0, .ref lo), (1, .int (nI i)), (2, .ref va), (3, .int (nI dom))]) (st' := []) rfl (by rw [ct_s_f (show (fun w => dom.testBit w && !b1 (up val (T i).2.2.2.1 w)) w9 = false by simp [hb9]), ct_s_f (show (fun w => dom.testBit w && b1 (up val (T i).2.2.2.1 w)) w9 = false by simp [hb9])]) rfl ?_
        exact ihw (w9 + 1) vx (by omega) hL1
  refine z_aload_n X dX10_holds_0 rfl (j := 0) rfl ?_
  refine z_getO X (ci := 10) (C := RX10) (T := TX10) (N := 3) inX10 hO rfl 2 (by decide) fl_X10_20 (fun _ h9 => h9) rfl dX10_holds_1 ?_
  refine z_iload_n X dX10_holds_4 rfl (j := 1) rfl ?_
  refine z_aaldAO X (t := .int) (k6 := 6) hFM rfl (b := y9) (vp_in_nI hi (by omega)) (by rw [nI_clamp (by omega)]; exact hFMi) dX10_holds_5 ?_
  refine z_astore X (lv' := [(4, .ref y9), (0, .ref lo), (1, .int (nI i)), (2, .ref va), (3, .int (nI dom))]) dX10_holds_6 (by decide) rfl ?_
  refine z_aload X dX10_holds_8 (j := 0) rfl ?_
  refine z_iconst X (v := 0) dX10_holds_10 (by decide) ?_
  refine z_ialdO X hyO (v := (nI (T i).1)) (by unfold vp_in; decide) hk0 dX10_holds_11 ?_
  refine z_iconst X (v := 2) dX10_holds_12 (by decide) ?_
  refine z_icmp_ge X (tgt := 111) dX10_holds_13 (by decide) (fun c_13 => ?_) (fun c9 => absurd (nI_le (a := 2) (b := (T i).1) (by omega) (by omega)) c9)
  refine z_aload X dX10_holds_111 (j := 0) rfl ?_
  refine z_iconst X (v := 0) dX10_holds_113 (by decide) ?_
  refine z_ialdO X hyO (v := (nI (T i).1)) (by unfold vp_in; decide) hk0 dX10_holds_114 ?_
  refine z_iconst X (v := 2) dX10_holds_115 (by decide) ?_
  refine z_icmp_ne X (tgt := 138) dX10_holds_116 (by decide) (fun c_116 => ?_) (fun c9 => absurd c9 (by rw [h9]; decide))
  refine z_aload X dX10_holds_138 (j := 0) rfl ?_
  refine z_iconst X (v := 0) dX10_holds_140 (by decide) ?_
  refine z_ialdO X hyO (v := (nI (T i).1)) (by unfold vp_in; decide) hk0 dX10_holds_141 ?_
  refine z_iconst X (v := 5) dX10_holds_142 (by decide) ?_
  refine z_icmp_ge X (tgt := 193) dX10_holds_143 (by decide) (fun c_143 => ?_) (fun c9 => absurd (nI_le (a := 5) (b := (T i).1) (by omega) (by omega)) c9)
  refine z_aload_n X dX10_holds_193 rfl (j := 3) rfl ?_
  refine z_aload X dX10_holds_194 (j := 0) rfl ?_
  refine z_bipush X (v := 7) dX10_holds_196 (by decide) ?_
  refine z_ialdO X hyO (v := (nI (T i).2.2.2.1)) (by unfold vp_in; decide) (hk7 (by omega)) dX10_holds_198 ?_
  refine z_ialdW X 0 rfl (v := (nI (val (T i).2.2.2.1))) (vp_in_nI hv6 (by decide)) (by rw [nI_clamp (by omega)]; rfl) dX10_holds_199 ?_
  refine z_istore X (lv' := [(5, .int (nI (val (T i).2.2.2.1))), (4, .ref y9), (0, .ref lo), (1, .int (nI i)), (2, .ref va), (3, .int (nI dom))]) dX10_holds_200 (by decide) rfl ?_
  refine z_iconst X (v := 0) dX10_holds_202 (by decide) ?_
  refine z_istore X (lv' := [(6, .int 0), (5, .int (nI (val (T i).2.2.2.1))), (4, .ref y9), (0, .ref lo), (1, .int (nI i)), (2, .ref va), (3, .int (nI dom))]) dX10_holds_203 (by decide) rfl ?_
  refine z_iconst X (v := 0) dX10_holds_205 (by decide) ?_
  refine z_istore X (lv' := [(7, .int 0), (6, .int 0), (5, .int (nI (val (T i).2.2.2.1))), (4, .ref y9), (0, .ref lo), (1, .int (nI i)), (2, .ref va), (3, .int (nI dom))]) dX10_holds_206 (by decide) rfl ?_
  refine z_iconst X (v := 0) dX10_holds_208 (by decide) ?_
  refine z_istore X (lv' := [(8, .int 0), (7, .int 0), (6, .int 0), (5, .int (nI (val (T i).2.2.2.1))), (4, .ref y9), (0, .ref lo), (1, .int (nI i)), (2, .ref va), (3, .int (nI dom))]) dX10_holds_209 (by decide) rfl ?_
  refine z_widen (k' := (ct dom.testBit 0 * c1)) (n' := (3 * (ct dom.testBit 0 * c1))) (Nat.zero_le _) (Nat.zero_le _) ?_
  refine z_eq (ws' := [(va, .inl (cy 0, 6, .inl (nA val)))]) (lv' := [(8, .int (nI 0)), (7, .int (nI (ct (fun w => dom.testBit w && !b1 (up val (T i).2.2.2.1 w)) 0))), (6, .int (nI (ct (fun w => dom.testBit w && b1 (up val (T i).2.2.2.1 w)) 0))), (5, .int (nI (val (T i).2.2.2.1))), (4, .ref y9), (0, .ref lo), (1, .int (nI i)), (2, .ref va), (3, .int (nI dom))]) (st' := []) rfl rfl rfl ?_
  exact LP 8 0 val (by omega) (fun _ _ => rfl)
set_option maxHeartbeats 4000000 in
set_option maxRecDepth 100000 in
/-- holds: EVERY -/
theorem m_holds_6 (l : Launch) (D : va_G) (cy : Nat → ClassId) (O : Nat × va_E → Prop) {lo pl fx fm rc N i va dom y9 : Nat} {R : Nat → RRow} {T : Nat → TRow} {val : Nat → Nat} {f9 : Nat → Int32} (hL : LmO O cy lo pl fx fm rc N R T) (hi : i < N) (hN : N ≤ 40) (hy : ∃ FM : Nat → Option Nat, O (fm, .inl (cy 6, N, .inr (.inr (.inr (.inr FM))))) ∧ FM i = some y9) (hyO : O (y9, .inl (cy 0, 8, .inl f9))) (hT : rowT T i f9) (hdom : dom < 2 ^ 8) (hval : ∀ v, v < 6 → val v < 8) {n c1 : Nat} {b1 : (Nat → Nat) → Bool} (h9 : (T i).1 = 6) (hv6 : (T i).2.2.2.1 < 6) (ih : ∀ val : Nat → Nat, (∀ v, v < 6 → val v < 8) → Ci l yX10_holds (.code yX10_holds cX10_holds 9 (some .boolean) :: WALL) ({ frames := 4 * n + 6, cells := c1, slots := 3 * c1, locals := 90 * n + 150 }) D cy O [.ref lo, .int (nI (T i).2.1), .ref va, .int (nI dom)] [(va, .inl (cy 0, 6, .inl (nA val)))] c1 (3 * c1) (fun (r : Int32) (w : va_W) => r = bit (b1 val) ∧ w = [(va, .inl (cy 0, 6, .inl (nA val)))])) : Ci l yX10_holds (.code yX10_holds cX10_holds 9 (some .boolean) :: WALL) ({ frames := 4 * (n + 1) + 6, cells := ((ct dom.testBit 8) * c1), slots := 3 * ((ct dom.testBit 8) * c1), locals := 90 * (n + 1) + 150 }) D cy O [.ref lo, .int (nI i), .ref va, .int (nI dom)] [(va, .inl (cy 0, 6, .inl (nA val)))] ((ct dom.testBit 8) * c1) (3 * ((ct dom.testBit 8) * c1)) (fun (r : Int32) (w : va_W) => r = bit (!exB (fun w => dom.testBit w && !b1 (up val (T i).2.2.2.1 w)) 8) ∧ w = [(va, .inl (cy 0, 6, .inl (nA val)))]) := by
  obtain ⟨hO, ⟨hrc, ⟨pf, hpl, hpf⟩, ⟨FX, fb, hFX, hFb⟩, hRb⟩, -⟩ := hL
  obtain ⟨FM, hFM, hFMi⟩ := hy
  obtain ⟨hk0, hk1, hkt, hk5, hk6, hk7⟩ := hT
  refine z_meti (by decide) rfl rfl (Nat.le_of_ble_eq_true rfl) ?_
  intro p e s m args below meth c X hr hin
  refine z_eq (ws' := [(va, .inl (cy 0, 6, .inl (nA val)))]) (lv' := [(0, .ref lo), (1, .int (nI i)), (2, .ref va), (3, .int (nI dom))]) (st' := []) rfl rfl rfl ?_
  have hup : ∀ w, w < 8 → ∀ u, u < 6 → up val (T i).2.2.2.1 w u < 8 := fun w hw u hu => by
    unfold up; split
    · exact hw
    · exact hval u hu
  have LP : ∀ (d : Nat) (w9 : Nat) (vx : Nat → Nat), w9 + d = 8 → (∀ u, u ≠ (T i).2.2.2.1 → vx u = val u) → Zz D (va_A [(va, .inl (cy 0, 6, .inl (nA val)))] s.heap.size) 9 p l e ({ frames := 4 * (n + 1) + 6, cells := ((ct dom.testBit 8) * c1), slots := 3 * ((ct dom.testBit 8) * c1), locals := 90 * (n + 1) + 150 }) s m args below meth c (MQ below (va_Qi (fun (r : Int32) (w : va_W) => r = bit (!exB (fun w => dom.testBit w && !b1 (up val (T i).2.2.2.1 w)) 8) ∧ w = [(va, .inl (cy 0, 6, .inl (nA val)))]) (end_ D [(va, .inl (cy 0, 6, .inl (nA val)))] s.heap.size) (va_A [(va, .inl (cy 0, 6, .inl (nA val)))] s.heap.size)) args s ((ct dom.testBit 8) * c1) (3 * ((ct dom.testBit 8) * c1)) (va_A [(va, .inl (cy 0, 6, .inl (nA val)))] s.heap.size)) [(va, .inl (cy 0, 6, .inl (nA vx)))] [(8, .int (nI w9)), (7, .int (nI (ct (fun w => dom.testBit w && !b1 (up val (T i).2.2.2.1 w)) w9))), (6, .int (nI (ct (fun w => dom.testBit w && b1 (up val (T i).2.2.2.1 w)) w9))), (5, .int (nI (val (T i).2.2.2.1))), (4, .ref y9), (0, .ref lo), (1, .int (nI i)), (2, .ref va), (3, .int (nI dom))] (ct dom.testBit w9 * c1) (3 * (ct dom.testBit w9 * c1)) 211 [] := by
    intro d
    induction d with
    | zero =>
      intro w9 vx hL0 hL1
      have hw8 : w9 = 8 := by omega
      subst hw8
      refine z_iload X dX10_holds_211 (j := 0) rfl ?_
      refine z_bipush X (v := 8) dX10_holds_213 (by decide) ?_
      refine z_icmp_ge X (tgt := 267) dX10_holds_215 (by decide) (fun c_215 => ?_) (fun c9 => absurd (by decide) c9)
      refine z_aload_n X dX10_holds_267 rfl (j := 7) rfl ?_
      refine z_aload X dX10_holds_268 (j := 4) rfl ?_
      refine z_bipush X (v := 7) dX10_holds_270 (by decide) ?_
      refine z_ialdO X hyO (v := (nI (T i).2.2.2.1)) (by unfold vp_in; decide) (hk7 (by omega)) dX10_holds_272 ?_
      refine z_iload X dX10_holds_273 (j := 3) rfl ?_
      refine z_iastW X 0 rfl (vp_in_nI hv6 (by decide)) (ws' := [(va, .inl (cy 0, 6, .inl (nA val)))]) (by rw [nI_clamp (by omega), nA_back hL1]; rfl) dX10_holds_275 ?_
      refine z_aload X dX10_holds_276 (j := 4) rfl ?_
      refine z_iconst X (v := 0) dX10_holds_278 (by decide) ?_
      refine z_ialdO X hyO (v := (nI (T i).1)) (by unfold vp_in; decide) hk0 dX10_holds_279 ?_
      refine z_iconst X (v := 5) dX10_holds_280 (by decide) ?_
      refine z_icmp_ne X (tgt := 297) dX10_holds_281 (by decide) (fun c_281 => ?_) (fun c9 => absurd c9 (by rw [h9]; decide))
      refine z_iload X dX10_holds_297 (j := 1) rfl ?_
      refine z_if_ne X (tgt := 306) dX10_holds_299 (by decide) (fun c_299 => ?_) (fun c_299 => ?_)
      · skip
        refine z_iconst X (v := 0) dX10_holds_306 (by decide) ?_
        refine z_widen (k' := ((ct dom.testBit 8) * c1)) (n' := (3 * ((ct dom.testBit 8) * c1))) (by omega) (by omega) ?_
        exact z_endz X hr (by first | exact Or.inl rfl | exact Or.inr rfl) [(va, .inl (cy 0, 6, .inl (nA val)))] [0] rfl rfl rfl ⟨(by rw [exB_ct, decide_eq_true (Nat.pos_of_ne_zero fun z => c_299 (by rw [z]; rfl))]; rfl), rfl⟩ dX10_holds_307
      · skip
        refine z_iconst X (v := 1) dX10_holds_302 (by decide) ?_
        refine z_goto X (tgt := 307) dX10_holds_303 (by decide) ?_
        refine z_widen (k' := ((ct dom.testBit 8) * c1)) (n' := (3 * ((ct dom.testBit 8) * c1))) (by omega) (by omega) ?_
        exact z_endz X hr (by first | exact Or.inl rfl | exact Or.inr rfl) [(va, .inl (cy 0, 6, .inl (nA val)))] [0] rfl rfl rfl ⟨(by rw [exB_ct, decide_eq_false (fun z => nI_ne0 z (Nat.lt_of_le_of_lt (ct_le _ 8) (by decide)) c_299)]; rfl), rfl⟩ dX10_holds_307
    | succ d ihw =>
      intro w9 vx hL0 hL1
      have hcm : ct dom.testBit w9 ≤ ct dom.testBit (w9 + 1) := ct_le_of (Nat.le_succ w9)
      refine z_iload X dX10_holds_211 (j := 0) rfl ?_
      refine z_bipush X (v := 8) dX10_holds_213 (by decide) ?_
      refine z_icmp_ge X (tgt := 267) dX10_holds_215 (by decide) (fun c9 => absurd c9 (nI_ge (a := w9) (b := 8) (by omega) (by decide))) (fun c_215 => ?_)
      refine z_iload_n X dX10_holds_218 rfl (j := 8) rfl ?_
      refine z_iload X dX10_holds_219 (j := 0) rfl ?_
      refine z_ishr X (v := (nI dom >>> (nI w9 &&& 31))) dX10_holds_221 rfl ?_
      refine z_iconst X (v := 1) dX10_holds_222 (by decide) ?_
      refine z_iand X (v := ((nI dom >>> (nI w9 &&& 31)) &&& 1)) dX10_holds_223 rfl ?_
      refine z_if_ne X (tgt := 230) dX10_holds_224 (by decide) (fun c_224 => ?_) (fun c_224 => ?_)
      · skip
        have hb9 : dom.testBit w9 = true := by
          cases e9 : dom.testBit w9
          · exact absurd ((shb (by omega) (by omega)).mpr e9) c_224
          · rfl
        have hcs : ct dom.testBit (w9 + 1) = ct dom.testBit w9 + 1 := ct_s_t hb9
        have hc8 : ct dom.testBit w9 + 1 ≤ ct dom.testBit 8 := by rw [← hcs]; exact ct_le_of (by omega)
        have hcc : ct dom.testBit w9 * c1 + c1 ≤ ct dom.testBit 8 * c1 := by
          have h7 := Nat.mul_le_mul_right c1 hc8
          rw [Nat.add_mul, Nat.one_mul] at h7; exact h7
        refine z_aload_n X dX10_holds_230 rfl (j := 7) rfl ?_
        refine z_aload X dX10_holds_231 (j := 4) rfl ?_
        refine z_bipush X (v := 7) dX10_holds_233 (by decide) ?_
        refine z_ialdO X hyO (v := (nI (T i).2.2.2.1)) (by unfold vp_in; decide) (hk7 (by omega)) dX10_holds_235 ?_
        refine z_iload X dX10_holds_236 (j := 0) rfl ?_
        refine z_iastW X 0 rfl (vp_in_nI hv6 (by decide)) (ws' := [(va, .inl (cy 0, 6, .inl (nA (up val (T i).2.2.2.1 w9))))]) (by rw [nI_clamp (by omega), nA_up hL1]; rfl) dX10_holds_238 ?_
        refine z_aload_n X dX10_holds_239 rfl (j := 5) rfl ?_
        refine z_aload X dX10_holds_240 (j := 4) rfl ?_
        refine z_iconst X (v := 5) dX10_holds_242 (by decide) ?_
        refine z_ialdO X hyO (v := (nI (T i).2.1)) (by unfold vp_in; decide) (hk5 (by omega)) dX10_holds_243 ?_
        refine z_aload_n X dX10_holds_244 rfl (j := 7) rfl ?_
        refine z_iload_n X dX10_holds_245 rfl (j := 8) rfl ?_
        refine z_reti X (as := [.ref lo, .int (nI (T i).2.1), .ref va, .int (nI dom)]) (wc := [(va, .inl (cy 0, 6, .inl (nA (up val (T i).2.2.2.1 w9))))]) (wr := []) (rest := []) (fun H9 locs9 ls9 hP9 hS9 hl9 hb9 hp9 => va_runV (As := [.int (nI (T i).2.1), .ref va, .int (nI dom)]) (rest := []) X.fix (ih (up val (T i).2.2.2.1 w9) (hup w9 (by omega)) H9.size) (cwV 3 X.hts (gV ml_X10_88 im_X10_holds se_X10_holds ni_X10 cd_X10_holds) rfl rfl rfl (by decide +kernel) ⟨by show 4 * n + 6 + 1 ≤ 4 * (n + 1) + 6; omega, by show 8 + (9 + 11) + (90 * n + 150) ≤ 90 * (n + 1) + 150; omega⟩) ⟨hb9, z_recvO X (ci := 10) (r := (RX10, TX10, 3)) hO rfl hS9, hp9⟩ rfl rfl hl9.1 rfl (lv_room (Nat.le_of_ble_eq_true rfl)) dX10_holds_246 ⟨by show ct dom.testBit w9 * c1 + c1 ≤ _; exact hcc, by show 3 * (ct dom.testBit w9 * c1) + 3 * c1 ≤ 3 * (ct dom.testBit 8 * c1); omega⟩) [0] [] rfl rfl rfl rfl rfl (by decide) (fun _ h => Or.inl h) (fun r1 w2 h3 => ?_)
        obtain ⟨rfl, rfl⟩ := h3
        refine z_eq (ws' := [(va, .inl (cy 0, 6, .inl (nA (up val (T i).2.2.2.1 w9))))]) (lv' := [(8, .int (nI w9)), (7, .int (nI (ct (fun w => dom.testBit w && !b1 (up val (T i).2.2.2.1 w)) w9))), (6, .int (nI (ct (fun w => dom.testBit w && b1 (up val (T i).2.2.2.1 w)) w9))), (5, .int (nI (val (T i).2.2.2.1))), (4, .ref y9), (0, .ref lo), (1, .int (nI i)), (2, .ref va), (3, .int (nI dom))]) (st' := [.int (bit (b1 (up val (T i).2.2.2.1 w9)))]) rfl rfl rfl ?_
        refine z_widen (k' := ((ct dom.testBit w9 * c1) + c1)) (n' := ((3 * (ct dom.testBit w9 * c1)) + (3 * c1))) (Nat.le_refl _) (Nat.le_refl _) ?_
        refine z_if_eq X (tgt := 258) dX10_holds_249 (by decide) (fun c_249 => ?_) (fun c_249 => ?_)
        · skip
          refine z_iinc X (j := 1) (v := (nI ((ct (fun w => dom.testBit w && !b1 (up val (T i).2.2.2.1 w)) w9) + 1))) (lv' := [(7, .int (nI ((ct (fun w => dom.testBit w && !b1 (up val (T i).2.2.2.1 w)) w9) + 1))), (8, .int (nI w9)), (6, .int (nI (ct (fun w => dom.testBit w && b1 (up val (T i).2.2.2.1 w)) w9))), (5, .int (nI (val (T i).2.2.2.1))), (4, .ref y9), (0, .ref lo), (1, .int (nI i)), (2, .ref va), (3, .int (nI dom))]) dX10_holds_258 rfl (nI_1 _) (by decide) rfl ?_
          refine z_iinc X (j := 1) (v := (nI (w9 + 1))) (lv' := [(8, .int (nI (w9 + 1))), (7, .int (nI ((ct (fun w => dom.testBit w && !b1 (up val (T i).2.2.2.1 w)) w9) + 1))), (6, .int (nI (ct (fun w => dom.testBit w && b1 (up val (T i).2.2.2.1 w)) w9))), (5, .int (nI (val (T i).2.2.2.1))), (4, .ref y9), (0, .ref lo), (1, .int (nI i)), (2, .ref va), (3, .int (nI dom))]) dX10_holds_261 rfl (nI_1 w9) (by decide) rfl ?_
          refine z_goto X (tgt := 211) dX10_holds_264 (by decide) ?_
          refine z_widen (k' := (ct dom.testBit (w9 + 1) * c1)) (n' := (3 * (ct dom.testBit (w9 + 1) * c1))) (by rw [hcs, Nat.add_mul, Nat.one_mul]; exact Nat.le_refl _) (by rw [hcs, Nat.add_mul, Nat.one_mul, Nat.mul_add]; exact Nat.le_refl _) ?_
          refine z_eq (ws' := [(va, .inl (cy 0, 6, .inl (nA (up val (T i).2.2.2.1 w9))))]) (lv' := [(8, .int (nI (w9 + 1))), (7, .int (nI (ct (fun w => dom.testBit w && !b1 (up val (T i).2.2.2.1 w)) (w9 + 1)))), (6, .int (nI (ct (fun w => dom.testBit w && b1 (up val (T i).2.2.2.1 w)) (w9 + 1)))), (5, .int (nI (val (T i).2.2.2.1))), (4, .ref y9), (0, .ref lo), (1, .int (nI i)), (2, .ref va), (3, .int (nI dom))]) (st' := []) rfl (by rw [ct_s_t (show (fun w => dom.testBit w && !b1 (up val (T i).2.2.2.1 w)) w9 = true by simp [hb9, bit_n c_249]), ct_s_f (show (fun w => dom.testBit w && b1 (up val (T i).2.2.2.1 w)) w9 = false by simp [bit_n c_249])]) rfl ?_
          exact ihw (w9 + 1) (up val (T i).2.2.2.1 w9) (by omega) (fun u hu => by rw [up, if_neg hu])
        · skip
          refine z_iinc X (j := 2) (v := (nI ((ct (fun w => dom.testBit w && b1 (up val (T i).2.2.2.1 w)) w9) + 1))) (lv' := [(6, .int (nI ((ct (fun w => dom.testBit w && b1 (up val (T i).2.2.2.1 w)) w9) + 1))), (8, .int (nI w9)), (7, .int (nI (ct (fun w => dom.testBit w && !b1 (up val (T i).2.2.2.1 w)) w9))), (5, .int (nI (val (T i).2.2.2.1))), (4, .ref y9), (0, .ref lo), (1, .int (nI i)), (2, .ref va), (3, .int (nI dom))]) dX10_holds_252 rfl (nI_1 _) (by decide) rfl ?_
          refine z_goto X (tgt := 261) dX10_holds_255 (by decide) ?_
          refine z_iinc X (j := 1) (v := (nI (w9 + 1))) (lv' := [(8, .int (nI (w9 + 1))), (6, .int (nI ((ct (fun w => dom.testBit w && b1 (up val (T i).2.2.2.1 w)) w9) + 1))), (7, .int (nI (ct (fun w => dom.testBit w && !b1 (up val (T i).2.2.2.1 w)) w9))), (5, .int (nI (val (T i).2.2.2.1))), (4, .ref y9), (0, .ref lo), (1, .int (nI i)), (2, .ref va), (3, .int (nI dom))]) dX10_holds_261 rfl (nI_1 w9) (by decide) rfl ?_
          refine z_goto X (tgt := 211) dX10_holds_264 (by decide) ?_
          refine z_widen (k' := (ct dom.testBit (w9 + 1) * c1)) (n' := (3 * (ct dom.testBit (w9 + 1) * c1))) (by rw [hcs, Nat.add_mul, Nat.one_mul]; exact Nat.le_refl _) (by rw [hcs, Nat.add_mul, Nat.one_mul, Nat.mul_add]; exact Nat.le_refl _) ?_
          refine z_lv [0, 2, 1, 3, 4, 5, 6, 7, 8] (lv' := [(8, .int (nI (w9 + 1))), (7, .int (nI (ct (fun w => dom.testBit w && !b1 (up val (T i).2.2.2.1 w)) w9))), (6, .int (nI ((ct (fun w => dom.testBit w && b1 (up val (T i).2.2.2.1 w)) w9) + 1))), (5, .int (nI (val (T i).2.2.2.1))), (4, .ref y9), (0, .ref lo), (1, .int (nI i)), (2, .ref va), (3, .int (nI dom))]) rfl ?_
          refine z_eq (ws' := [(va, .inl (cy 0, 6, .inl (nA (up val (T i).2.2.2.1 w9))))]) (lv' := [(8, .int (nI (w9 + 1))), (7, .int (nI (ct (fun w => dom.testBit w && !b1 (up val (T i).2.2.2.1 w)) (w9 + 1)))), (6, .int (nI (ct (fun w => dom.testBit w && b1 (up val (T i).2.2.2.1 w)) (w9 + 1)))), (5, .int (nI (val (T i).2.2.2.1))), (4, .ref y9), (0, .ref lo), (1, .int (nI i)), (2, .ref va), (3, .int (nI dom))]) (st' := []) rfl (by rw [ct_s_f (show (fun w => dom.testBit w && !b1 (up val (T i).2.2.2.1 w)) w9 = false by simp [bit_y c_249]), ct_s_t (show (fun w => dom.testBit w && b1 (up val (T i).2.2.2.1 w)) w9 = true by simp [hb9, bit_y c_249])]) rfl ?_
          exact ihw (w9 + 1) (up val (T i).2.2.2.1 w9) (by omega) (fun u hu => by rw [up, if_neg hu])
      · skip
        have hb9 : dom.testBit w9 = false := (shb (by omega) (by omega)).mp c_224
        refine z_goto X (tgt := 261) dX10_holds_227 (by decide) ?_
        refine z_iinc X (j := 0) (v := (nI (w9 + 1))) (lv' := [(8, .int (nI (w9 + 1))), (7, .int (nI (ct (fun w => dom.testBit w && !b1 (up val (T i).2.2.2.1 w)) w9))), (6, .int (nI (ct (fun w => dom.testBit w && b1 (up val (T i).2.2.2.1 w)) w9))), (5, .int (nI (val (T i).2.2.2.1))), (4, .ref y9), (0, .ref lo), (1, .int (nI i)), (2, .ref va), (3, .int (nI dom))]) dX10_holds_261 rfl (nI_1 w9) (by decide) rfl ?_
        refine z_goto X (tgt := 211) dX10_holds_264 (by decide) ?_
        refine z_widen (k' := (ct dom.testBit (w9 + 1) * c1)) (n' := (3 * (ct dom.testBit (w9 + 1) * c1))) (Nat.mul_le_mul_right _ hcm) (Nat.mul_le_mul_left _ (Nat.mul_le_mul_right _ hcm)) ?_
        refine z_eq (ws' := [(va, .inl (cy 0, 6, .inl (nA vx)))]) (lv' := [(8, .int (nI (w9 + 1))), (7, .int (nI (ct (fun w => dom.testBit w && !b1 (up val (T i).2.2.2.1 w)) (w9 + 1)))), (6, .int (nI (ct (fun w => dom.testBit w && b1 (up val (T i).2.2.2.1 w)) (w9 + 1)))), (5, .int (nI (val (T i).2.2.2.1))), (4, .ref y9), (0, .ref lo), (1, .int (nI i)), (2, .ref va), (3, .int (nI dom))]) (st' := []) rfl (by rw [ct_s_f (show (fun w => dom.testBit w && !b1 (up val (T i).2.2.2.1 w)) w9 = false by simp [hb9]), ct_s_f (show (fun w => dom.testBit w && b1 (up val (T i).2.2.2.1 w)) w9 = false by simp [hb9])]) rfl ?_
        exact ihw (w9 + 1) vx (by omega) hL1
  refine z_aload_n X dX10_holds_0 rfl (j := 0) rfl ?_
  refine z_getO X (ci := 10) (C := RX10) (T := TX10) (N := 3) inX10 hO rfl 2 (by decide) fl_X10_20 (fun _ h9 => h9) rfl dX10_holds_1 ?_
  refine z_iload_n X dX10_holds_4 rfl (j := 1) rfl ?_
  refine z_aaldAO X (t := .int) (k6 := 6) hFM rfl (b := y9) (vp_in_nI hi (by omega)) (by rw [nI_clamp (by omega)]; exact hFMi) dX10_holds_5 ?_
  refine z_astore X (lv' := [(4, .ref y9), (0, .ref lo), (1, .int (nI i)), (2, .ref va), (3, .int (nI dom))]) dX10_holds_6 (by decide) rfl ?_
  refine z_aload X dX10_holds_8 (j := 0) rfl ?_
  refine z_iconst X (v := 0) dX10_holds_10 (by decide) ?_
  refine z_ialdO X hyO (v := (nI (T i).1)) (by unfold vp_in; decide) hk0 dX10_holds_11 ?_
  refine z_iconst X (v := 2) dX10_holds_12 (by decide) ?_
  refine z_icmp_ge X (tgt := 111) dX10_holds_13 (by decide) (fun c_13 => ?_) (fun c9 => absurd (nI_le (a := 2) (b := (T i).1) (by omega) (by omega)) c9)
  refine z_aload X dX10_holds_111 (j := 0) rfl ?_
  refine z_iconst X (v := 0) dX10_holds_113 (by decide) ?_
  refine z_ialdO X hyO (v := (nI (T i).1)) (by unfold vp_in; decide) hk0 dX10_holds_114 ?_
  refine z_iconst X (v := 2) dX10_holds_115 (by decide) ?_
  refine z_icmp_ne X (tgt := 138) dX10_holds_116 (by decide) (fun c_116 => ?_) (fun c9 => absurd c9 (by rw [h9]; decide))
  refine z_aload X dX10_holds_138 (j := 0) rfl ?_
  refine z_iconst X (v := 0) dX10_holds_140 (by decide) ?_
  refine z_ialdO X hyO (v := (nI (T i).1)) (by unfold vp_in; decide) hk0 dX10_holds_141 ?_
  refine z_iconst X (v := 5) dX10_holds_142 (by decide) ?_
  refine z_icmp_ge X (tgt := 193) dX10_holds_143 (by decide) (fun c_143 => ?_) (fun c9 => absurd (nI_le (a := 5) (b := (T i).1) (by omega) (by omega)) c9)
  refine z_aload_n X dX10_holds_193 rfl (j := 3) rfl ?_
  refine z_aload X dX10_holds_194 (j := 0) rfl ?_
  refine z_bipush X (v := 7) dX10_holds_196 (by decide) ?_
  refine z_ialdO X hyO (v := (nI (T i).2.2.2.1)) (by unfold vp_in; decide) (hk7 (by omega)) dX10_holds_198 ?_
  refine z_ialdW X 0 rfl (v := (nI (val (T i).2.2.2.1))) (vp_in_nI hv6 (by decide)) (by rw [nI_clamp (by omega)]; rfl) dX10_holds_199 ?_
  refine z_istore X (lv' := [(5, .int (nI (val (T i).2.2.2.1))), (4, .ref y9), (0, .ref lo), (1, .int (nI i)), (2, .ref va), (3, .int (nI dom))]) dX10_holds_200 (by decide) rfl ?_
  refine z_iconst X (v := 0) dX10_holds_202 (by decide) ?_
  refine z_istore X (lv' := [(6, .int 0), (5, .int (nI (val (T i).2.2.2.1))), (4, .ref y9), (0, .ref lo), (1, .int (nI i)), (2, .ref va), (3, .int (nI dom))]) dX10_holds_203 (by decide) rfl ?_
  refine z_iconst X (v := 0) dX10_holds_205 (by decide) ?_
  refine z_istore X (lv' := [(7, .int 0), (6, .int 0), (5, .int (nI (val (T i).2.2.2.1))), (4, .ref y9), (0, .ref lo), (1, .int (nI i)), (2, .ref va), (3, .int (nI dom))]) dX10_holds_206 (by decide) rfl ?_
  refine z_iconst X (v := 0) dX10_holds_208 (by decide) ?_
  refine z_istore X (lv' := [(8, .int 0), (7, .int 0), (6, .int 0), (5, .int (nI (val (T i).2.2.2.1))), (4, .ref y9), (0, .ref lo), (1, .int (nI i)), (2, .ref va), (3, .int (nI dom))]) dX10_holds_209 (by decide) rfl ?_
  refine z_widen (k' := (ct dom.testBit 0 * c1)) (n' := (3 * (ct dom.testBit 0 * c1))) (Nat.zero_le _) (Nat.zero_le _) ?_
  refine z_eq (ws' := [(va, .inl (cy 0, 6, .inl (nA val)))]) (lv' := [(8, .int (nI 0)), (7, .int (nI (ct (fun w => dom.testBit w && !b1 (up val (T i).2.2.2.1 w)) 0))), (6, .int (nI (ct (fun w => dom.testBit w && b1 (up val (T i).2.2.2.1 w)) 0))), (5, .int (nI (val (T i).2.2.2.1))), (4, .ref y9), (0, .ref lo), (1, .int (nI i)), (2, .ref va), (3, .int (nI dom))]) (st' := []) rfl rfl rfl ?_
  exact LP 8 0 val (by omega) (fun _ _ => rfl)
/-- how many rows of terms holds makes -/
def cst (T : Nat → TRow) (m : Nat) : Nat → Nat → Nat
  | 0, _ => 0
  | n + 1, i => if (T i).1 < 2 then 1 else if (T i).1 = 2 then cst T m n (T i).2.1 else if (T i).1 < 5 then cst T m n (T i).2.1 + cst T m n (T i).2.2.1 else m * cst T m n (T i).2.1
theorem cst_0 {T : Nat → TRow} {m n i : Nat} (h : (T i).1 < 2) : cst T m (n + 1) i = 1 := by rw [cst, if_pos h]
theorem cst_2 {T : Nat → TRow} {m n i : Nat} (h : (T i).1 = 2) : cst T m (n + 1) i = cst T m n (T i).2.1 := by rw [cst, if_neg (by omega), if_pos h]
theorem cst_3 {T : Nat → TRow} {m n i : Nat} (h : (T i).1 = 3 ∨ (T i).1 = 4) : cst T m (n + 1) i = cst T m n (T i).2.1 + cst T m n (T i).2.2.1 := by rw [cst, if_neg (by omega), if_neg (by omega), if_pos (by omega)]
theorem cst_5 {T : Nat → TRow} {m n i : Nat} (h : 5 ≤ (T i).1) : cst T m (n + 1) i = m * cst T m n (T i).2.1 := by rw [cst, if_neg (by omega), if_neg (by omega), if_neg (by omega)]
/-- holds(formula, values, domain) -/
theorem m_holds (l : Launch) (D : va_G) (cy : Nat → ClassId) (O : Nat × va_E → Prop) {lo pl fx fm rc N va dom : Nat} {R : Nat → RRow} {T : Nat → TRow} {At : Nat → TAtt} (hL : LmO O cy lo pl fx fm rc N R T) (hN : N ≤ 40) (hG : ∀ i, i < N → Gd R rc T At i) (hdom : dom < 2 ^ 8) : ∀ n, n ≤ N → ∀ i, i < n → ∀ val : Nat → Nat, (∀ v, v < 6 → val v < 8) → Ci l yX10_holds (.code yX10_holds cX10_holds 9 (some .boolean) :: WALL) ({ frames := 4 * n + 6, cells := cst T (ct dom.testBit 8) n i, slots := 3 * cst T (ct dom.testBit 8) n i, locals := 90 * n + 150 }) D cy O [.ref lo, .int (nI i), .ref va, .int (nI dom)] [(va, .inl (cy 0, 6, .inl (nA val)))] (cst T (ct dom.testBit 8) n i) (3 * cst T (ct dom.testBit 8) n i) (fun (r : Int32) (w : va_W) => r = bit (hol R T dom n i val) ∧ w = [(va, .inl (cy 0, 6, .inl (nA val)))]) := by
  have hL' := hL
  obtain ⟨-, -, FM, ri, hFM, hLr⟩ := hL'
  intro n
  induction n with
  | zero => intro _ i hi; omega
  | succ n ih =>
    intro hn i hi val hval
    obtain ⟨hF9, f9, hy, hT⟩ := hLr i (by omega)
    rcases hG i (by omega) with ⟨hk, hr, ht, hA⟩ | ⟨hk, ht, hA⟩ | ⟨hk, ha, hA⟩ | ⟨hk, ha, hb, hA⟩ | ⟨hk, ha, hb, hA⟩ | ⟨hk, ha, hv, hA⟩ | ⟨hk, ha, hv, hA⟩
    · rw [cst_0 (by omega), hol_0 hk]
      exact m_holds_0 l D cy O hL (by omega) hN ⟨FM, hFM, hF9⟩ hy hT hdom hval hk hr ht
    · rw [cst_0 (by omega), hol_1 hk]
      exact m_holds_1 l D cy O hL (by omega) hN ⟨FM, hFM, hF9⟩ hy hT hdom hval hk ht
    · rw [cst_2 hk, hol_2 hk]
      exact m_holds_2 l D cy O hL (by omega) hN ⟨FM, hFM, hF9⟩ hy hT hdom hval (b1 := hol R T dom n (T i).2.1) hk (ih (by omega) _ (by omega))
    · rw [cst_3 (Or.inl hk), hol_3 hk]
      exact m_holds_3 l D cy O hL (by omega) hN ⟨FM, hFM, hF9⟩ hy hT hdom hval (b1 := hol R T dom n (T i).2.1) (b2 := hol R T dom n (T i).2.2.1) hk (ih (by omega) _ (by omega)) (ih (by omega) _ (by omega))
    · rw [cst_3 (Or.inr hk), hol_4 hk]
      exact m_holds_4 l D cy O hL (by omega) hN ⟨FM, hFM, hF9⟩ hy hT hdom hval (b1 := hol R T dom n (T i).2.1) (b2 := hol R T dom n (T i).2.2.1) hk (ih (by omega) _ (by omega)) (ih (by omega) _ (by omega))
    · rw [cst_5 (by omega), hol_5 hk]
      exact m_holds_5 l D cy O hL (by omega) hN ⟨FM, hFM, hF9⟩ hy hT hdom hval (b1 := hol R T dom n (T i).2.1) hk hv (ih (by omega) _ (by omega))
    · rw [cst_5 (by omega), hol_6 hk]
      exact m_holds_6 l D cy O hL (by omega) hN ⟨FM, hFM, hF9⟩ hy hT hdom hval (b1 := hol R T dom n (T i).2.1) hk hv (ih (by omega) _ (by omega))
