/-! the class: answers, answer, share -/
/-- the domain of formula i -/
def domF (R : Nat → RRow) (rc : Nat) (At : Nat → TAtt) (i : Nat) : Nat := dmo (At i).2.2.2.2.2.1 (fun j => vls (R j).1 (R j).2.1 (R j).2.2) rc
theorem dmo_lt {x w : Nat} {V : Nat → Nat} (hx : x < 2 ^ w) : ∀ {n}, (∀ j, j < n → V j < 2 ^ w) → dmo x V n < 2 ^ w
  | 0, _ => hx
  | n + 1, h => Nat.or_lt_two_pow (dmo_lt hx (fun j hj => h j (by omega))) (h n (by omega))
theorem vls_lt (P M : Nat) (x : Nat → Nat) : vls P M x < 2 ^ 8 := ms_lt _ 8
theorem vlf_lt {t : Nat → Nat} {n : Nat} (h : ∀ k, k < n → isT (t k)) : vlf t n < 2 ^ 8 := by
  refine Nat.lt_pow_two_of_testBit _ fun i hi => ?_
  cases e : (vlf t n).testBit i
  · rfl
  · obtain ⟨u, h1, h2, h3⟩ := vlf_bit.mp e
    rcases h u h1 with h4 | h4 <;> omega
theorem Gd_va {R : Nat → RRow} {rc : Nat} {T : Nat → TRow} {At : Nat → TAtt} {N : Nat} (hG : ∀ i, i < N → Gd R rc T At i) : ∀ i, i < N → (At i).2.2.2.2.2.1 < 2 ^ 8 := by
  intro i
  induction i using Nat.strongRecOn with
  | ind i ih =>
    intro hi
    rcases hG i hi with ⟨hk, hr, ht, hA⟩ | ⟨hk, ht, hA⟩ | ⟨hk, ha, hA⟩ | ⟨hk, ha, hb, hA⟩ | ⟨hk, ha, hb, hA⟩ | ⟨hk, ha, hv, hA⟩ | ⟨hk, ha, hv, hA⟩ <;> rw [hA]
    · exact vlf_lt ht
    · exact vlf_lt ht
    · exact ih _ ha (by omega)
    · exact Nat.or_lt_two_pow (ih _ ha (by omega)) (ih _ hb (by omega))
    · exact Nat.or_lt_two_pow (ih _ ha (by omega)) (ih _ hb (by omega))
    · exact ih _ ha (by omega)
    · exact ih _ ha (by omega)
theorem domF_lt {R : Nat → RRow} {rc : Nat} {T : Nat → TRow} {At : Nat → TAtt} {N i : Nat} (hG : ∀ i, i < N → Gd R rc T At i) (hi : i < N) : domF R rc At i < 2 ^ 8 := dmo_lt (Gd_va hG i hi) (fun j _ => vls_lt _ _ _)
/-- how many answers, which -/
def ans (R : Nat → RRow) (rc : Nat) (T : Nat → TRow) (At : Nat → TAtt) (N i : Nat) : Nat → Bool := anB (At i).1 (domF R rc At i) (hol R T (domF R rc At i) N i)
theorem anB_512 {S dom : Nat} {G : (Nat → Nat) → Bool} (h3 : ct S.testBit 6 ≤ 3) : ∀ r, 512 ≤ r → anB S dom G r = false := fun r hr => by
  have : 8 ^ ct S.testBit 6 ≤ 8 ^ 3 := Nat.pow_le_pow_right (by decide) h3
  rw [anB, decide_eq_false (by omega)]; rfl
/-- the lanes' cells, as they may be between two questions -/
def LnW (cy : Nat → ClassId) (la b5 r5 gv : Nat) (w : va_W) : Prop := ∃ (dm v5 : Value) (q0 : Nat → Bool) (vo : Nat → Option Nat), w = [(la, .inr (2, [.ref b5, .ref gv, dm])), (b5, .inr (5, [.ref r5, v5])), (r5, .inl (cy 1, 512, .inl (zB q0))), (gv, .inl (cy 0, 6, .inl (vA vo)))] ∧ (∀ i, 512 ≤ i → q0 i = false) ∧ VOk vo
theorem FW.rV {O : Nat × va_E → Prop} {cy : Nat → ClassId} {R : Nat → RRow} {rc : Nat} {rb : Nat → Nat} {T : Nat → TRow} {At : Nat → TAtt} {ad : Nat → Nat} {N : Nat} (hW : FW O cy R rc rb T At ad N) : ∀ j, j < rc → ∃ v1 v2 v3 v5 v6 : Value, O (rb j, .inr (4, [v1, v2, v3, .int (nI (vls (R j).1 (R j).2.1 (R j).2.2)), v5, v6])) := fun j hj => by
  obtain ⟨ar, ah, ak, hv, kv, h, -⟩ := hW.1 j hj
  exact ⟨_, _, _, _, _, h⟩
set_option maxHeartbeats 4000000 in
set_option maxRecDepth 100000 in
/-- needFewFree: there are -/
theorem m_needFewFree (l : Launch) (D : va_G) (cy : Nat → ClassId) (O : Nat × va_E → Prop) {a5 f5 : Nat} {q1 q2 q3 q4 q5 q6 q8 q9 q10 q11 q12 q13 : Value} (h5 : O (a5, .inr (1, [q1, q2, q3, q4, q5, q6, .int (nI f5), q8, q9, q10, q11, q12, q13]))) (hf : f5 < 2 ^ 6) (h3 : ct f5.testBit 6 ≤ 3) : Cv l yX9_needFewFree (.code yX9_needFewFree cX9_needFewFree 1 none :: WALL) ({ frames := 1, cells := 0, slots := 0, locals := 20 }) D cy O [.ref a5] [] 0 0 (fun (w : va_W) => w = []) := by
  refine z_metv (by decide) rfl rfl (Nat.le_of_ble_eq_true rfl) ?_
  intro p e s m args below meth c X hr hin
  refine z_eq (ws' := []) (lv' := [(0, .ref a5)]) (st' := []) rfl rfl rfl ?_
  refine z_aload_n X dX9_needFewFree_0 rfl (j := 0) rfl ?_
  refine z_getO X (ci := 1) (C := RX1) (T := TX1) (N := 13) inX1 h5 rfl 6 (by decide) fl_X9_182 (fun _ h9 => h9) rfl dX9_needFewFree_1 ?_
  refine z_reti X (as := [.int (nI f5)]) (wc := []) (wr := []) (rest := []) (fun H9 locs9 ls9 hP9 hS9 hl9 hb9 hp9 => va_runS (As := [.int (nI f5)]) (rest := []) X.fix (m_ibits l D cy O (n9 := f5) (Nat.lt_trans hf (by decide)) H9.size) (va_cwS 1 X.hts (gS ml_X9_210 sm_J6_bitCount_0f7a4 ni_J6 cd_J6_bitCount_0f7a4) rfl rfl rfl (by decide +kernel) ⟨Nat.le_of_ble_eq_true rfl, Nat.le_of_ble_eq_true rfl⟩) ⟨hb9, hp9⟩ rfl rfl hl9.1 rfl (lv_room (Nat.le_of_ble_eq_true rfl)) dX9_needFewFree_4 ⟨Nat.le_of_ble_eq_true rfl, Nat.le_of_ble_eq_true rfl⟩) [] [] rfl rfl rfl rfl rfl (by decide) (fun _ h => Or.inl h) (fun r1 w2 h3 => ?_)
  obtain ⟨rfl, rfl⟩ := h3
  rw [ct_32 hf (show 6 ≤ 32 by decide)]
  refine z_eq (ws' := []) (lv' := [(0, .ref a5)]) (st' := [.int (nI (ct f5.testBit 6))]) rfl rfl rfl ?_
  refine z_widen (k' := 0) (n' := 0) (Nat.le_refl _) (Nat.le_refl _) ?_
  refine z_iconst X (v := 3) dX9_needFewFree_7 (by decide) ?_
  refine z_icmp_le X (tgt := 22) dX9_needFewFree_8 (by decide) (fun c_8 => ?_) (fun c9 => absurd (nI_le (a := ct f5.testBit 6) (b := 3) h3 (by decide)) c9)
  exact z_endv X hr [] [] rfl rfl rfl rfl dX9_needFewFree_22
theorem shr_dg {c w h : Nat} (hw : w ≤ 3) (hh : h < w) (hc : c < 2 ^ 31) : (nI c >>> ((3 * (nI w - 1 - nI h)) &&& 31)) &&& 7 = nI (c / 8 ^ (w - 1 - h) % 8) := dg_row (by omega) hw hh hc
set_option maxHeartbeats 4000000 in
set_option maxRecDepth 100000 in
/-- valueOfRow(rows, place, which, width) -/
theorem m_valueOfRow (l : Launch) (D : va_G) (cy : Nat → ClassId) (O : Nat × va_E → Prop) {b5 r5 k9 wh wd : Nat} {q : Nat → Bool} (hb : O (b5, .inr (5, [.ref r5, .int (nI (ct q 512))]))) (hr5 : O (r5, .inl (cy 1, 512, .inl (zB q)))) (hk : k9 < ct q 512) (hwd : wd ≤ 3) (hwh : wh < wd) : Ci l yX9_valueOfRow (.code yX9_valueOfRow cX9_valueOfRow 4 (some .int) :: WALL) ({ frames := 1, cells := 0, slots := 0, locals := 23 }) D cy O [.ref b5, .int (nI k9), .int (nI wh), .int (nI wd)] [] 0 0 (fun (r : Int32) (w : va_W) => r = nI (nth q k9 / 8 ^ (wd - 1 - wh) % 8) ∧ w = []) := by
  have hc5 := ct_le q 512
  have hn5 : nth q k9 ≤ 512 := ft_le _ _
  refine z_meti (by decide) rfl rfl (Nat.le_of_ble_eq_true rfl) ?_
  intro p e s m args below meth c X hr hin
  refine z_eq (ws' := []) (lv' := [(0, .ref b5), (1, .int (nI k9)), (2, .int (nI wh)), (3, .int (nI wd))]) (st' := []) rfl rfl rfl ?_
  refine z_iload_n X dX9_valueOfRow_0 rfl (j := 1) rfl ?_
  refine z_if_lt X (tgt := 12) dX9_valueOfRow_1 (by decide) (fun c9 => absurd c9 (nI_pos (by omega))) (fun c_1 => ?_)
  refine z_iload_n X dX9_valueOfRow_4 rfl (j := 1) rfl ?_
  refine z_aload_n X dX9_valueOfRow_5 rfl (j := 0) rfl ?_
  refine z_getO X (ci := 5) (C := RX5) (T := TX5) (N := 2) inX5 hb rfl 1 (by decide) fl_X9_207 (fun _ h9 => h9) rfl dX9_valueOfRow_6 ?_
  refine z_icmp_lt X (tgt := 23) dX9_valueOfRow_9 (by decide) (fun c_9 => ?_) (fun c9 => absurd (nI_lt hk (by omega)) c9)
  refine z_iload_n X dX9_valueOfRow_23 rfl (j := 2) rfl ?_
  refine z_if_lt X (tgt := 32) dX9_valueOfRow_24 (by decide) (fun c9 => absurd c9 (nI_pos (by omega))) (fun c_24 => ?_)
  refine z_iload_n X dX9_valueOfRow_27 rfl (j := 2) rfl ?_
  refine z_iload_n X dX9_valueOfRow_28 rfl (j := 3) rfl ?_
  refine z_icmp_lt X (tgt := 43) dX9_valueOfRow_29 (by decide) (fun c_29 => ?_) (fun c9 => absurd (nI_lt hwh (by omega)) c9)
  refine z_aload_n X dX9_valueOfRow_43 rfl (j := 0) rfl ?_
  refine z_iload_n X dX9_valueOfRow_44 rfl (j := 1) rfl ?_
  refine z_reti X (as := [.ref b5, .int (nI k9)]) (wc := []) (wr := []) (rest := []) (fun H9 locs9 ls9 hP9 hS9 hl9 hb9 hp9 => va_runV (As := [.int (nI k9)]) (rest := []) X.fix (m_atRow l D cy O hb hr5 hk H9.size) (cwV 1 X.hts (gV ml_X9_370 im_X5_at se_X5_at ni_X5 cd_X5_at) rfl rfl rfl (by decide +kernel) ⟨Nat.le_of_ble_eq_true rfl, Nat.le_of_ble_eq_true rfl⟩) ⟨hb9, z_recvO X (ci := 5) (r := (RX5, TX5, 2)) hb rfl hS9, hp9⟩ rfl rfl hl9.1 rfl (lv_room (Nat.le_of_ble_eq_true rfl)) dX9_valueOfRow_45 ⟨Nat.le_of_ble_eq_true rfl, Nat.le_of_ble_eq_true rfl⟩) [] [] rfl rfl rfl rfl rfl (by decide) (fun _ h => Or.inl h) (fun r1 w2 h3 => ?_)
  obtain ⟨rfl, rfl⟩ := h3
  refine z_eq (ws' := []) (lv' := [(0, .ref b5), (1, .int (nI k9)), (2, .int (nI wh)), (3, .int (nI wd))]) (st' := [.int (nI (nth q k9))]) rfl rfl rfl ?_
  refine z_widen (k' := 0) (n' := 0) (Nat.le_refl _) (Nat.le_refl _) ?_
  refine z_iconst X (v := 3) dX9_valueOfRow_48 (by decide) ?_
  refine z_iload_n X dX9_valueOfRow_49 rfl (j := 3) rfl ?_
  refine z_iconst X (v := 1) dX9_valueOfRow_50 (by decide) ?_
  refine z_isub X (v := ((nI wd) - 1)) dX9_valueOfRow_51 rfl ?_
  refine z_iload_n X dX9_valueOfRow_52 rfl (j := 2) rfl ?_
  refine z_isub X (v := (((nI wd) - 1) - (nI wh))) dX9_valueOfRow_53 rfl ?_
  refine z_imul X (v := (3 * (((nI wd) - 1) - (nI wh)))) dX9_valueOfRow_54 rfl ?_
  refine z_ishr X (v := ((nI (nth q k9)) >>> ((3 * (((nI wd) - 1) - (nI wh))) &&& 31))) dX9_valueOfRow_55 rfl ?_
  refine z_bipush X (v := 7) dX9_valueOfRow_56 (by decide) ?_
  refine z_iand X (v := (nI (nth q k9 / 8 ^ (wd - 1 - wh) % 8))) dX9_valueOfRow_58 (shr_dg hwd hwh (by omega)) ?_
  exact z_endi X hr [] [] rfl rfl rfl ⟨rfl, rfl⟩ dX9_valueOfRow_59
set_option maxHeartbeats 4000000 in
set_option maxRecDepth 100000 in
/-- answers(formula) -/
theorem m_answers (l : Launch) (D : va_G) (cy : Nat → ClassId) (O : Nat × va_E → Prop) {a ra fa ua la rc fc uc : Nat} {g7 g8 : Value} (hO : O (a, .inr (9, [.ref ra, .int (nI rc), .ref fa, .int (nI fc), .ref ua, .int (nI uc), .ref la, g7, g8]))) {R : Nat → RRow} {rb : Nat → Nat} {T : Nat → TRow} {At : Nat → TAtt} {ad : Nat → Nat} (hW : FW O cy R rc rb T At ad fc) {G F : Nat → Option Nat} (hG : O (ra, .inl (cy 2, 6, .inr (.inr (.inr (.inr G)))))) (hrc : rc ≤ 6) (hGb : ∀ j, j < rc → G j = some (rb j)) (hFa : O (fa, .inl (cy 3, 40, .inr (.inr (.inr (.inr F)))))) (hfc : fc ≤ 40) (hFb : ∀ i, i < fc → F i = some (ad i)) {b5 r5 gv i : Nat} {dm v5 : Value} {q0 : Nat → Bool} {vo : Nat → Option Nat} (hi : i < fc) (h3 : ct (At i).1.testBit 6 ≤ 3) (hq0 : ∀ i, 512 ≤ i → q0 i = false) (hvo : VOk vo) : Ci l yX9_answers (.code yX9_answers cX9_answers 3 (some .int) :: WALL) ({ frames := 4 * fc + 6, cells := 0, slots := 0, locals := 100 * fc + 200 }) D cy O [.ref a, .int (nI i)] [(la, .inr (2, [.ref b5, .ref gv, dm])), (b5, .inr (5, [.ref r5, v5])), (r5, .inl (cy 1, 512, .inl (zB q0))), (gv, .inl (cy 0, 6, .inl (vA vo)))] 0 0 (fun (r : Int32) (w : va_W) => r = nI (ct (ans R rc T At fc i) 512) ∧ LnW cy la b5 r5 gv w) := by
  obtain ⟨⟨p1, p2, p3, p4, vv, hF, -⟩, -⟩ := hW.2 i hi
  have hS6 : (At i).1 < 2 ^ 6 := Gd_fr (fun i hi => (hW.2 i hi).2) i hi
  have hd8 : domF R rc At i < 2 ^ 8 := domF_lt (fun i hi => (hW.2 i hi).2) hi
  refine z_meti (by decide) rfl rfl (Nat.le_of_ble_eq_true rfl) ?_
  intro p e s m args below meth c X hr hin
  refine z_eq (ws' := [(la, .inr (2, [.ref b5, .ref gv, dm])), (b5, .inr (5, [.ref r5, v5])), (r5, .inl (cy 1, 512, .inl (zB q0))), (gv, .inl (cy 0, 6, .inl (vA vo)))]) (lv' := [(0, .ref a), (1, .int (nI i))]) (st' := []) rfl rfl rfl ?_
  refine z_aload_n X dX9_answers_0 rfl (j := 0) rfl ?_
  refine z_iload_n X dX9_answers_1 rfl (j := 1) rfl ?_
  refine z_retr X (as := [.ref a, .int (nI i)]) (wc := []) (wr := [(la, .inr (2, [.ref b5, .ref gv, dm])), (b5, .inr (5, [.ref r5, v5])), (r5, .inl (cy 1, 512, .inl (zB q0))), (gv, .inl (cy 0, 6, .inl (vA vo)))]) (rest := []) (fun H9 locs9 ls9 hP9 hS9 hl9 hb9 hp9 => va_runV (As := [.int (nI i)]) (rest := []) X.fix (m_formulaAt l D cy O hO hFa hi hfc (hFb i hi) H9.size) (cwV 1 X.hts (gV ml_X9_141 im_X9_formulaAt se_X9_formulaAt ni_X9 cd_X9_formulaAt) rfl rfl rfl (by decide +kernel) ⟨by show 0 + 1 ≤ 4 * fc + 6; omega, by show 8 + (2 + 11) + 0 ≤ 100 * fc + 200; omega⟩) ⟨hb9, z_recvO X (ci := 9) (r := (RX9, TX9, 9)) hO rfl hS9, hp9⟩ rfl rfl hl9.1 rfl (lv_room (Nat.le_of_ble_eq_true rfl)) dX9_answers_2 ⟨Nat.le_of_ble_eq_true rfl, Nat.le_of_ble_eq_true rfl⟩) [] [0, 1, 2, 3] rfl rfl rfl rfl rfl (by decide) (fun _ h => Or.inl h) (fun r1 w2 h3 => ?_)
  obtain ⟨e9, rfl⟩ := h3
  subst r1
  refine z_eq (ws' := [(la, .inr (2, [.ref b5, .ref gv, dm])), (b5, .inr (5, [.ref r5, v5])), (r5, .inl (cy 1, 512, .inl (zB q0))), (gv, .inl (cy 0, 6, .inl (vA vo)))]) (lv' := [(0, .ref a), (1, .int (nI i))]) (st' := [.ref (ad i)]) rfl rfl rfl ?_
  refine z_widen (k' := 0) (n' := 0) (Nat.le_refl _) (Nat.le_refl _) ?_
  refine z_astore_n X (lv' := [(2, .ref (ad i)), (0, .ref a), (1, .int (nI i))]) dX9_answers_5 rfl (by decide) rfl ?_
  refine z_aload_n X dX9_answers_6 rfl (j := 0) rfl ?_
  refine z_retv X (as := [.ref (ad i)]) (wc := []) (wr := [(la, .inr (2, [.ref b5, .ref gv, dm])), (b5, .inr (5, [.ref r5, v5])), (r5, .inl (cy 1, 512, .inl (zB q0))), (gv, .inl (cy 0, 6, .inl (vA vo)))]) (rest := []) (fun H9 locs9 ls9 hP9 hS9 hl9 hb9 hp9 => va_runS (As := [.ref (ad i)]) (rest := []) X.fix (m_needFewFree l D cy O hF hS6 h3 H9.size) (va_cwS 1 X.hts (gS ml_X9_199 sm_X9_needFewFree ni_X9 cd_X9_needFewFree) rfl rfl rfl (by decide +kernel) ⟨by show 1 + 1 ≤ 4 * fc + 6; omega, by show 8 + (1 + 11) + 20 ≤ 100 * fc + 200; omega⟩) ⟨hb9, hp9⟩ rfl rfl hl9.1 rfl (lv_room (Nat.le_of_ble_eq_true rfl)) dX9_answers_7 ⟨Nat.le_of_ble_eq_true rfl, Nat.le_of_ble_eq_true rfl⟩) [] [0, 1, 2, 3] rfl rfl rfl rfl rfl (by decide) (fun _ h => Or.inl h) (fun w5 h6 => ?_)
  subst h6
  refine z_eq (ws' := [(la, .inr (2, [.ref b5, .ref gv, dm])), (b5, .inr (5, [.ref r5, v5])), (r5, .inl (cy 1, 512, .inl (zB q0))), (gv, .inl (cy 0, 6, .inl (vA vo)))]) (lv' := [(2, .ref (ad i)), (0, .ref a), (1, .int (nI i))]) (st' := []) rfl rfl rfl ?_
  refine z_widen (k' := 0) (n' := 0) (Nat.le_refl _) (Nat.le_refl _) ?_
  refine z_aload_n X dX9_answers_10 rfl (j := 1) rfl ?_
  refine z_getO X (ci := 9) (C := RX9) (T := TX9) (N := 9) inX9 hO rfl 6 (by decide) fl_X9_40 (fun _ h9 => h9) rfl dX9_answers_11 ?_
  refine z_aload_n X dX9_answers_14 rfl (j := 0) rfl ?_
  refine z_aload_n X dX9_answers_15 rfl (j := 1) rfl ?_
  refine z_aload_n X dX9_answers_16 rfl (j := 0) rfl ?_
  refine z_reti X (as := [.ref a, .ref (ad i)]) (wc := []) (wr := [(la, .inr (2, [.ref b5, .ref gv, dm])), (b5, .inr (5, [.ref r5, v5])), (r5, .inl (cy 1, 512, .inl (zB q0))), (gv, .inl (cy 0, 6, .inl (vA vo)))]) (rest := [.ref (ad i), .ref la]) (fun H9 locs9 ls9 hP9 hS9 hl9 hb9 hp9 => va_runV (As := [.ref (ad i)]) (rest := [.ref (ad i), .ref la]) X.fix (m_domainOf l D cy O hO hG hrc hGb hW.rV hF H9.size) (cwV 1 X.hts (gV ml_X9_191 im_X9_domainOf se_X9_domainOf ni_X9 cd_X9_domainOf) rfl rfl rfl (by decide +kernel) ⟨by show 0 + 1 ≤ 4 * fc + 6; omega, by show 8 + (4 + 11) + 0 ≤ 100 * fc + 200; omega⟩) ⟨hb9, z_recvO X (ci := 9) (r := (RX9, TX9, 9)) hO rfl hS9, hp9⟩ rfl rfl hl9.1 rfl (lv_room (Nat.le_of_ble_eq_true rfl)) dX9_answers_17 ⟨Nat.le_of_ble_eq_true rfl, Nat.le_of_ble_eq_true rfl⟩) [] [0, 1, 2, 3] rfl rfl rfl rfl rfl (by decide) (fun _ h => Or.inl h) (fun r7 w8 h9 => ?_)
  obtain ⟨rfl, rfl⟩ := h9
  refine z_eq (ws' := [(la, .inr (2, [.ref b5, .ref gv, dm])), (b5, .inr (5, [.ref r5, v5])), (r5, .inl (cy 1, 512, .inl (zB q0))), (gv, .inl (cy 0, 6, .inl (vA vo)))]) (lv' := [(2, .ref (ad i)), (0, .ref a), (1, .int (nI i))]) (st' := [.int (nI (domF R rc At i)), .ref (ad i), .ref la]) rfl rfl rfl ?_
  refine z_widen (k' := 0) (n' := 0) (Nat.le_refl _) (Nat.le_refl _) ?_
  refine z_retr X (as := [.ref la, .ref (ad i), .int (nI (domF R rc At i))]) (wc := [(la, .inr (2, [.ref b5, .ref gv, dm])), (b5, .inr (5, [.ref r5, v5])), (r5, .inl (cy 1, 512, .inl (zB q0))), (gv, .inl (cy 0, 6, .inl (vA vo)))]) (wr := []) (rest := []) (fun H9 locs9 ls9 hP9 hS9 hl9 hb9 hp9 => va_runV (As := [.ref (ad i), .int (nI (domF R rc At i))]) (rest := []) X.fix (m_answersOf l D cy O hW hi (Nat.lt_trans hd8 (by decide)) h3 hq0 hvo H9.size) (cwV 2 X.hts (gV ml_X9_203 im_X2_answersOf se_X2_answersOf ni_X2 cd_X2_answersOf) rfl rfl rfl (by decide +kernel) ⟨by show (4 * fc + 4) + 1 ≤ 4 * fc + 6; omega, by show 8 + (9 + 11) + (100 * fc + 100) ≤ 100 * fc + 200; omega⟩) ⟨hb9, z_recvW X (q0 := 0) (ci := 2) (r := (RX2, TX2, 3)) rfl rfl hP9, hp9⟩ rfl rfl hl9.1 rfl (lv_room (Nat.le_of_ble_eq_true rfl)) dX9_answers_20 ⟨Nat.le_of_ble_eq_true rfl, Nat.le_of_ble_eq_true rfl⟩) [0, 1, 2, 3] [] rfl rfl rfl rfl rfl (by decide) (fun _ h => Or.inl h) (fun r10 w11 h12 => ?_)
  obtain ⟨e7, vx, hvx, rfl⟩ := h12
  subst r10
  refine z_eq (ws' := [(la, .inr (2, [.ref b5, .ref gv, .int (nI (domF R rc At i))])), (b5, .inr (5, [.ref r5, .int (nI (ct (ans R rc T At fc i) 512))])), (r5, .inl (cy 1, 512, .inl (zB (ans R rc T At fc i)))), (gv, .inl (cy 0, 6, .inl (vA vx)))]) (lv' := [(2, .ref (ad i)), (0, .ref a), (1, .int (nI i))]) (st' := [.ref b5]) rfl rfl rfl ?_
  refine z_widen (k' := 0) (n' := 0) (Nat.le_refl _) (Nat.le_refl _) ?_
  refine z_getW X 1 (C := RX5) (T := TX5) (N := 2) inX5 rfl rfl 1 (by decide) fl_X9_207 (fun _ h9 => h9) rfl dX9_answers_23 ?_
  exact z_endi X hr [(la, .inr (2, [.ref b5, .ref gv, .int (nI (domF R rc At i))])), (b5, .inr (5, [.ref r5, .int (nI (ct (ans R rc T At fc i) 512))])), (r5, .inl (cy 1, 512, .inl (zB (ans R rc T At fc i)))), (gv, .inl (cy 0, 6, .inl (vA vx)))] [0, 1, 2, 3] rfl rfl rfl ⟨rfl, ⟨_, _, _, vx, rfl, anB_512 h3, hvx⟩⟩ dX9_answers_26
set_option maxHeartbeats 4000000 in
set_option maxRecDepth 100000 in
/-- answer(formula, place, which) -/
theorem m_answer (l : Launch) (D : va_G) (cy : Nat → ClassId) (O : Nat × va_E → Prop) {a ra fa ua la rc fc uc : Nat} {g7 g8 : Value} (hO : O (a, .inr (9, [.ref ra, .int (nI rc), .ref fa, .int (nI fc), .ref ua, .int (nI uc), .ref la, g7, g8]))) {R : Nat → RRow} {rb : Nat → Nat} {T : Nat → TRow} {At : Nat → TAtt} {ad : Nat → Nat} (hW : FW O cy R rc rb T At ad fc) {G F : Nat → Option Nat} (hG : O (ra, .inl (cy 2, 6, .inr (.inr (.inr (.inr G)))))) (hrc : rc ≤ 6) (hGb : ∀ j, j < rc → G j = some (rb j)) (hFa : O (fa, .inl (cy 3, 40, .inr (.inr (.inr (.inr F)))))) (hfc : fc ≤ 40) (hFb : ∀ i, i < fc → F i = some (ad i)) {b5 r5 gv i : Nat} {dm v5 : Value} {q0 : Nat → Bool} {vo : Nat → Option Nat} (hi : i < fc) (h3 : ct (At i).1.testBit 6 ≤ 3) (hq0 : ∀ i, 512 ≤ i → q0 i = false) (hvo : VOk vo) {k9 wh : Nat} (hk : k9 < ct (ans R rc T At fc i) 512) (hwh : wh < ct (At i).1.testBit 6) : Ci l yX9_answer (.code yX9_answer cX9_answer 5 (some .int) :: WALL) ({ frames := 4 * fc + 6, cells := 0, slots := 0, locals := 100 * fc + 200 }) D cy O [.ref a, .int (nI i), .int (nI k9), .int (nI wh)] [(la, .inr (2, [.ref b5, .ref gv, dm])), (b5, .inr (5, [.ref r5, v5])), (r5, .inl (cy 1, 512, .inl (zB q0))), (gv, .inl (cy 0, 6, .inl (vA vo)))] 0 0 (fun (r : Int32) (w : va_W) => r = nI (nth (ans R rc T At fc i) k9 / 8 ^ (ct (At i).1.testBit 6 - 1 - wh) % 8) ∧ LnW cy la b5 r5 gv w) := by
  obtain ⟨⟨p1, p2, p3, p4, vv, hF, -⟩, -⟩ := hW.2 i hi
  have hS6 : (At i).1 < 2 ^ 6 := Gd_fr (fun i hi => (hW.2 i hi).2) i hi
  have hd8 : domF R rc At i < 2 ^ 8 := domF_lt (fun i hi => (hW.2 i hi).2) hi
  refine z_meti (by decide) rfl rfl (Nat.le_of_ble_eq_true rfl) ?_
  intro p e s m args below meth c X hr hin
  refine z_eq (ws' := [(la, .inr (2, [.ref b5, .ref gv, dm])), (b5, .inr (5, [.ref r5, v5])), (r5, .inl (cy 1, 512, .inl (zB q0))), (gv, .inl (cy 0, 6, .inl (vA vo)))]) (lv' := [(0, .ref a), (1, .int (nI i)), (2, .int (nI k9)), (3, .int (nI wh))]) (st' := []) rfl rfl rfl ?_
  refine z_aload_n X dX9_answer_0 rfl (j := 0) rfl ?_
  refine z_iload_n X dX9_answer_1 rfl (j := 1) rfl ?_
  refine z_retr X (as := [.ref a, .int (nI i)]) (wc := []) (wr := [(la, .inr (2, [.ref b5, .ref gv, dm])), (b5, .inr (5, [.ref r5, v5])), (r5, .inl (cy 1, 512, .inl (zB q0))), (gv, .inl (cy 0, 6, .inl (vA vo)))]) (rest := []) (fun H9 locs9 ls9 hP9 hS9 hl9 hb9 hp9 => va_runV (As := [.int (nI i)]) (rest := []) X.fix (m_formulaAt l D cy O hO hFa hi hfc (hFb i hi) H9.size) (cwV 1 X.hts (gV ml_X9_141 im_X9_formulaAt se_X9_formulaAt ni_X9 cd_X9_formulaAt) rfl rfl rfl (by decide +kernel) ⟨by show 0 + 1 ≤ 4 * fc + 6; omega, by show 8 + (2 + 11) + 0 ≤ 100 * fc + 200; omega⟩) ⟨hb9, z_recvO X (ci := 9) (r := (RX9, TX9, 9)) hO rfl hS9, hp9⟩ rfl rfl hl9.1 rfl (lv_room (Nat.le_of_ble_eq_true rfl)) dX9_answer_2 ⟨Nat.le_of_ble_eq_true rfl, Nat.le_of_ble_eq_true rfl⟩) [] [0, 1, 2, 3] rfl rfl rfl rfl rfl (by decide) (fun _ h => Or.inl h) (fun r1 w2 h3 => ?_)
  obtain ⟨e9, rfl⟩ := h3
  subst r1
  refine z_eq (ws' := [(la, .inr (2, [.ref b5, .ref gv, dm])), (b5, .inr (5, [.ref r5, v5])), (r5, .inl (cy 1, 512, .inl (zB q0))), (gv, .inl (cy 0, 6, .inl (vA vo)))]) (lv' := [(0, .ref a), (1, .int (nI i)), (2, .int (nI k9)), (3, .int (nI wh))]) (st' := [.ref (ad i)]) rfl rfl rfl ?_
  refine z_widen (k' := 0) (n' := 0) (Nat.le_refl _) (Nat.le_refl _) ?_
  refine z_astore X (lv' := [(4, .ref (ad i)), (0, .ref a), (1, .int (nI i)), (2, .int (nI k9)), (3, .int (nI wh))]) dX9_answer_5 (by decide) rfl ?_
  refine z_aload X dX9_answer_7 (j := 0) rfl ?_
  refine z_retv X (as := [.ref (ad i)]) (wc := []) (wr := [(la, .inr (2, [.ref b5, .ref gv, dm])), (b5, .inr (5, [.ref r5, v5])), (r5, .inl (cy 1, 512, .inl (zB q0))), (gv, .inl (cy 0, 6, .inl (vA vo)))]) (rest := []) (fun H9 locs9 ls9 hP9 hS9 hl9 hb9 hp9 => va_runS (As := [.ref (ad i)]) (rest := []) X.fix (m_needFewFree l D cy O hF hS6 h3 H9.size) (va_cwS 1 X.hts (gS ml_X9_199 sm_X9_needFewFree ni_X9 cd_X9_needFewFree) rfl rfl rfl (by decide +kernel) ⟨by show 1 + 1 ≤ 4 * fc + 6; omega, by show 8 + (1 + 11) + 20 ≤ 100 * fc + 200; omega⟩) ⟨hb9, hp9⟩ rfl rfl hl9.1 rfl (lv_room (Nat.le_of_ble_eq_true rfl)) dX9_answer_9 ⟨Nat.le_of_ble_eq_true rfl, Nat.le_of_ble_eq_true rfl⟩) [] [0, 1, 2, 3] rfl rfl rfl rfl rfl (by decide) (fun _ h => Or.inl h) (fun w5 h6 => ?_)
  subst h6
  refine z_eq (ws' := [(la, .inr (2, [.ref b5, .ref gv, dm])), (b5, .inr (5, [.ref r5, v5])), (r5, .inl (cy 1, 512, .inl (zB q0))), (gv, .inl (cy 0, 6, .inl (vA vo)))]) (lv' := [(4, .ref (ad i)), (0, .ref a), (1, .int (nI i)), (2, .int (nI k9)), (3, .int (nI wh))]) (st' := []) rfl rfl rfl ?_
  refine z_widen (k' := 0) (n' := 0) (Nat.le_refl _) (Nat.le_refl _) ?_
  refine z_aload_n X dX9_answer_12 rfl (j := 1) rfl ?_
  refine z_getO X (ci := 9) (C := RX9) (T := TX9) (N := 9) inX9 hO rfl 6 (by decide) fl_X9_40 (fun _ h9 => h9) rfl dX9_answer_13 ?_
  refine z_aload X dX9_answer_16 (j := 0) rfl ?_
  refine z_aload_n X dX9_answer_18 rfl (j := 1) rfl ?_
  refine z_aload X dX9_answer_19 (j := 0) rfl ?_
  refine z_reti X (as := [.ref a, .ref (ad i)]) (wc := []) (wr := [(la, .inr (2, [.ref b5, .ref gv, dm])), (b5, .inr (5, [.ref r5, v5])), (r5, .inl (cy 1, 512, .inl (zB q0))), (gv, .inl (cy 0, 6, .inl (vA vo)))]) (rest := [.ref (ad i), .ref la]) (fun H9 locs9 ls9 hP9 hS9 hl9 hb9 hp9 => va_runV (As := [.ref (ad i)]) (rest := [.ref (ad i), .ref la]) X.fix (m_domainOf l D cy O hO hG hrc hGb hW.rV hF H9.size) (cwV 1 X.hts (gV ml_X9_191 im_X9_domainOf se_X9_domainOf ni_X9 cd_X9_domainOf) rfl rfl rfl (by decide +kernel) ⟨by show 0 + 1 ≤ 4 * fc + 6; omega, by show 8 + (4 + 11) + 0 ≤ 100 * fc + 200; omega⟩) ⟨hb9, z_recvO X (ci := 9) (r := (RX9, TX9, 9)) hO rfl hS9, hp9⟩ rfl rfl hl9.1 rfl (lv_room (Nat.le_of_ble_eq_true rfl)) dX9_answer_21 ⟨Nat.le_of_ble_eq_true rfl, Nat.le_of_ble_eq_true rfl⟩) [] [0, 1, 2, 3] rfl rfl rfl rfl rfl (by decide) (fun _ h => Or.inl h) (fun r7 w8 h9 => ?_)
  obtain ⟨rfl, rfl⟩ := h9
  refine z_eq (ws' := [(la, .inr (2, [.ref b5, .ref gv, dm])), (b5, .inr (5, [.ref r5, v5])), (r5, .inl (cy 1, 512, .inl (zB q0))), (gv, .inl (cy 0, 6, .inl (vA vo)))]) (lv' := [(4, .ref (ad i)), (0, .ref a), (1, .int (nI i)), (2, .int (nI k9)), (3, .int (nI wh))]) (st' := [.int (nI (domF R rc At i)), .ref (ad i), .ref la]) rfl rfl rfl ?_
  refine z_widen (k' := 0) (n' := 0) (Nat.le_refl _) (Nat.le_refl _) ?_
  refine z_retr X (as := [.ref la, .ref (ad i), .int (nI (domF R rc At i))]) (wc := [(la, .inr (2, [.ref b5, .ref gv, dm])), (b5, .inr (5, [.ref r5, v5])), (r5, .inl (cy 1, 512, .inl (zB q0))), (gv, .inl (cy 0, 6, .inl (vA vo)))]) (wr := []) (rest := []) (fun H9 locs9 ls9 hP9 hS9 hl9 hb9 hp9 => va_runV (As := [.ref (ad i), .int (nI (domF R rc At i))]) (rest := []) X.fix (m_answersOf l D cy O hW hi (Nat.lt_trans hd8 (by decide)) h3 hq0 hvo H9.size) (cwV 2 X.hts (gV ml_X9_203 im_X2_answersOf se_X2_answersOf ni_X2 cd_X2_answersOf) rfl rfl rfl (by decide +kernel) ⟨by show (4 * fc + 4) + 1 ≤ 4 * fc + 6; omega, by show 8 + (9 + 11) + (100 * fc + 100) ≤ 100 * fc + 200; omega⟩) ⟨hb9, z_recvW X (q0 := 0) (ci := 2) (r := (RX2, TX2, 3)) rfl rfl hP9, hp9⟩ rfl rfl hl9.1 rfl (lv_room (Nat.le_of_ble_eq_true rfl)) dX9_answer_24 ⟨Nat.le_of_ble_eq_true rfl, Nat.le_of_ble_eq_true rfl⟩) [0, 1, 2, 3] [] rfl rfl rfl rfl rfl (by decide) (fun _ h => Or.inl h) (fun r10 w11 h12 => ?_)
  obtain ⟨e7, vx, hvx, rfl⟩ := h12
  subst r10
  refine z_eq (ws' := [(la, .inr (2, [.ref b5, .ref gv, .int (nI (domF R rc At i))])), (b5, .inr (5, [.ref r5, .int (nI (ct (ans R rc T At fc i) 512))])), (r5, .inl (cy 1, 512, .inl (zB (ans R rc T At fc i)))), (gv, .inl (cy 0, 6, .inl (vA vx)))]) (lv' := [(4, .ref (ad i)), (0, .ref a), (1, .int (nI i)), (2, .int (nI k9)), (3, .int (nI wh))]) (st' := [.ref b5]) rfl rfl rfl ?_
  refine z_widen (k' := 0) (n' := 0) (Nat.le_refl _) (Nat.le_refl _) ?_
  refine z_iload_n X dX9_answer_27 rfl (j := 3) rfl ?_
  refine z_iload_n X dX9_answer_28 rfl (j := 4) rfl ?_
  refine z_aload X dX9_answer_29 (j := 0) rfl ?_
  refine z_getO X (ci := 1) (C := RX1) (T := TX1) (N := 13) inX1 hF rfl 6 (by decide) fl_X9_182 (fun _ h9 => h9) rfl dX9_answer_31 ?_
  refine z_reti X (as := [.int (nI (At i).1)]) (wc := []) (wr := [(la, .inr (2, [.ref b5, .ref gv, .int (nI (domF R rc At i))])), (b5, .inr (5, [.ref r5, .int (nI (ct (ans R rc T At fc i) 512))])), (r5, .inl (cy 1, 512, .inl (zB (ans R rc T At fc i)))), (gv, .inl (cy 0, 6, .inl (vA vx)))]) (rest := [.int (nI wh), .int (nI k9), .ref b5]) (fun H9 locs9 ls9 hP9 hS9 hl9 hb9 hp9 => va_runS (As := [.int (nI (At i).1)]) (rest := [.int (nI wh), .int (nI k9), .ref b5]) X.fix (m_ibits l D cy O (n9 := (At i).1) (Nat.lt_trans hS6 (by decide)) H9.size) (va_cwS 1 X.hts (gS ml_X9_210 sm_J6_bitCount_0f7a4 ni_J6 cd_J6_bitCount_0f7a4) rfl rfl rfl (by decide +kernel) ⟨by show 0 + 1 ≤ 4 * fc + 6; omega, by show 8 + (1 + 11) + 0 ≤ 100 * fc + 200; omega⟩) ⟨hb9, hp9⟩ rfl rfl hl9.1 rfl (lv_room (Nat.le_of_ble_eq_true rfl)) dX9_answer_34 ⟨Nat.le_of_ble_eq_true rfl, Nat.le_of_ble_eq_true rfl⟩) [] [0, 1, 2, 3] rfl rfl rfl rfl rfl (by decide) (fun _ h => Or.inl h) (fun r13 w14 h15 => ?_)
  obtain ⟨rfl, rfl⟩ := h15
  rw [ct_32 hS6 (show 6 ≤ 32 by decide)]
  refine z_eq (ws' := [(la, .inr (2, [.ref b5, .ref gv, .int (nI (domF R rc At i))])), (b5, .inr (5, [.ref r5, .int (nI (ct (ans R rc T At fc i) 512))])), (r5, .inl (cy 1, 512, .inl (zB (ans R rc T At fc i)))), (gv, .inl (cy 0, 6, .inl (vA vx)))]) (lv' := [(4, .ref (ad i)), (0, .ref a), (1, .int (nI i)), (2, .int (nI k9)), (3, .int (nI wh))]) (st' := [.int (nI (ct (At i).1.testBit 6)), .int (nI wh), .int (nI k9), .ref b5]) rfl rfl rfl ?_
  refine z_widen (k' := 0) (n' := 0) (Nat.le_refl _) (Nat.le_refl _) ?_
  refine z_reti X (as := [.ref b5, .int (nI k9), .int (nI wh), .int (nI (ct (At i).1.testBit 6))]) (wc := []) (wr := [(la, .inr (2, [.ref b5, .ref gv, .int (nI (domF R rc At i))])), (b5, .inr (5, [.ref r5, .int (nI (ct (ans R rc T At fc i) 512))])), (r5, .inl (cy 1, 512, .inl (zB (ans R rc T At fc i)))), (gv, .inl (cy 0, 6, .inl (vA vx)))]) (rest := []) (fun H9 locs9 ls9 hP9 hS9 hl9 hb9 hp9 => va_runS (As := [.ref b5, .int (nI k9), .int (nI wh), .int (nI (ct (At i).1.testBit 6))]) (rest := []) X.fix (m_valueOfRow l D cy (fun q => O q ∨ q ∈ ([(la, .inr (2, [.ref b5, .ref gv, .int (nI (domF R rc At i))])), (b5, .inr (5, [.ref r5, .int (nI (ct (ans R rc T At fc i) 512))])), (r5, .inl (cy 1, 512, .inl (zB (ans R rc T At fc i)))), (gv, .inl (cy 0, 6, .inl (vA vx)))] : va_W)) (Or.inr (List.mem_of_getElem? (i := 1) rfl)) (Or.inr (List.mem_of_getElem? (i := 2) rfl)) hk h3 hwh H9.size) (va_cwS 4 X.hts (gS ml_X9_216 sm_X9_valueOfRow ni_X9 cd_X9_valueOfRow) rfl rfl rfl (by decide +kernel) ⟨by show 1 + 1 ≤ 4 * fc + 6; omega, by show 8 + (4 + 11) + 23 ≤ 100 * fc + 200; omega⟩) ⟨hb9, hp9⟩ rfl rfl hl9.1 rfl (lv_room (Nat.le_of_ble_eq_true rfl)) dX9_answer_37 ⟨Nat.le_of_ble_eq_true rfl, Nat.le_of_ble_eq_true rfl⟩) [] [0, 1, 2, 3] rfl rfl rfl rfl rfl (by decide) (fun q h => h) (fun r16 w17 h18 => ?_)
  obtain ⟨rfl, rfl⟩ := h18
  refine z_eq (ws' := [(la, .inr (2, [.ref b5, .ref gv, .int (nI (domF R rc At i))])), (b5, .inr (5, [.ref r5, .int (nI (ct (ans R rc T At fc i) 512))])), (r5, .inl (cy 1, 512, .inl (zB (ans R rc T At fc i)))), (gv, .inl (cy 0, 6, .inl (vA vx)))]) (lv' := [(4, .ref (ad i)), (0, .ref a), (1, .int (nI i)), (2, .int (nI k9)), (3, .int (nI wh))]) (st' := [.int (nI (nth (ans R rc T At fc i) k9 / 8 ^ (ct (At i).1.testBit 6 - 1 - wh) % 8))]) rfl rfl rfl ?_
  refine z_widen (k' := 0) (n' := 0) (Nat.le_refl _) (Nat.le_refl _) ?_
  exact z_endi X hr [(la, .inr (2, [.ref b5, .ref gv, .int (nI (domF R rc At i))])), (b5, .inr (5, [.ref r5, .int (nI (ct (ans R rc T At fc i) 512))])), (r5, .inl (cy 1, 512, .inl (zB (ans R rc T At fc i)))), (gv, .inl (cy 0, 6, .inl (vA vx)))] [0, 1, 2, 3] rfl rfl rfl ⟨rfl, ⟨_, _, _, vx, rfl, anB_512 h3, hvx⟩⟩ dX9_answer_40
set_option maxHeartbeats 4000000 in
set_option maxRecDepth 100000 in
/-- share(formula) -/
theorem m_share (l : Launch) (D : va_G) (cy : Nat → ClassId) (O : Nat × va_E → Prop) {a ra fa ua la rc fc uc : Nat} {g7 g8 : Value} (hO : O (a, .inr (9, [.ref ra, .int (nI rc), .ref fa, .int (nI fc), .ref ua, .int (nI uc), .ref la, g7, g8]))) {R : Nat → RRow} {rb : Nat → Nat} {T : Nat → TRow} {At : Nat → TAtt} {ad : Nat → Nat} (hW : FW O cy R rc rb T At ad fc) {G F : Nat → Option Nat} (hG : O (ra, .inl (cy 2, 6, .inr (.inr (.inr (.inr G)))))) (hrc : rc ≤ 6) (hGb : ∀ j, j < rc → G j = some (rb j)) (hFa : O (fa, .inl (cy 3, 40, .inr (.inr (.inr (.inr F)))))) (hfc : fc ≤ 40) (hFb : ∀ i, i < fc → F i = some (ad i)) {b5 r5 gv i : Nat} {dm v5 : Value} {q0 : Nat → Bool} {vo : Nat → Option Nat} (hi : i < fc) (h3 : ct (At i).1.testBit 6 ≤ 3) (hq0 : ∀ i, 512 ≤ i → q0 i = false) (hvo : VOk vo) (hn64 : ∀ r, r ≤ 512 → ¬ (ct (domF R rc At i).testBit 8) ^ (ct (At i).1.testBit 6) = 0 → vf_n64 (shr (ct (ans R rc T At fc i) 512) ((ct (domF R rc At i).testBit 8) ^ (ct (At i).1.testBit 6)))) : Cd l yX9_share (.code yX9_share cX9_share 7 (some .double) :: WALL) ({ frames := 4 * fc + 6, cells := 0, slots := 0, locals := 100 * fc + 200 }) D cy O [.ref a, .int (nI i)] [(la, .inr (2, [.ref b5, .ref gv, dm])), (b5, .inr (5, [.ref r5, v5])), (r5, .inl (cy 1, 512, .inl (zB q0))), (gv, .inl (cy 0, 6, .inl (vA vo)))] 0 0 (fun (r : UInt64) (w : va_W) => r = shr (ct (ans R rc T At fc i) 512) ((ct (domF R rc At i).testBit 8) ^ (ct (At i).1.testBit 6)) ∧ LnW cy la b5 r5 gv w) := by
  obtain ⟨⟨p1, p2, p3, p4, vv, hF, -⟩, -⟩ := hW.2 i hi
  have hS6 : (At i).1 < 2 ^ 6 := Gd_fr (fun i hi => (hW.2 i hi).2) i hi
  have hd8 : domF R rc At i < 2 ^ 8 := domF_lt (fun i hi => (hW.2 i hi).2) hi
  have hcd : ct (domF R rc At i).testBit 8 ≤ 8 := ct_le _ 8
  have hpw : ∀ k, k ≤ ct (At i).1.testBit 6 → ct (domF R rc At i).testBit 8 ^ k ≤ 512 := fun k hk => Nat.le_trans (Nat.pow_le_pow_left hcd k) (Nat.le_trans (Nat.pow_le_pow_right (by decide) (Nat.le_trans hk h3)) (by decide))
  refine z_metd (by decide) rfl rfl (Nat.le_of_ble_eq_true rfl) ?_
  intro p e s m args below meth c X hr hin
  refine z_eq (ws' := [(la, .inr (2, [.ref b5, .ref gv, dm])), (b5, .inr (5, [.ref r5, v5])), (r5, .inl (cy 1, 512, .inl (zB q0))), (gv, .inl (cy 0, 6, .inl (vA vo)))]) (lv' := [(0, .ref a), (1, .int (nI i))]) (st' := []) rfl rfl rfl ?_
  have L : ∀ (d : Nat) (k : Nat), k + d = (ct (At i).1.testBit 6) → Zz D (va_A [(la, .inr (2, [.ref b5, .ref gv, dm])), (b5, .inr (5, [.ref r5, v5])), (r5, .inl (cy 1, 512, .inl (zB q0))), (gv, .inl (cy 0, 6, .inl (vA vo)))] s.heap.size) 7 p l e ({ frames := 4 * fc + 6, cells := 0, slots := 0, locals := 100 * fc + 200 }) s m args below meth c (MQ below (va_Qd (fun (r : UInt64) (w : va_W) => r = shr (ct (ans R rc T At fc i) 512) ((ct (domF R rc At i).testBit 8) ^ (ct (At i).1.testBit 6)) ∧ LnW cy la b5 r5 gv w) (end_ D [(la, .inr (2, [.ref b5, .ref gv, dm])), (b5, .inr (5, [.ref r5, v5])), (r5, .inl (cy 1, 512, .inl (zB q0))), (gv, .inl (cy 0, 6, .inl (vA vo)))] s.heap.size) (va_A [(la, .inr (2, [.ref b5, .ref gv, dm])), (b5, .inr (5, [.ref r5, v5])), (r5, .inl (cy 1, 512, .inl (zB q0))), (gv, .inl (cy 0, 6, .inl (vA vo)))] s.heap.size)) args s 0 0 (va_A [(la, .inr (2, [.ref b5, .ref gv, dm])), (b5, .inr (5, [.ref r5, v5])), (r5, .inl (cy 1, 512, .inl (zB q0))), (gv, .inl (cy 0, 6, .inl (vA vo)))] s.heap.size)) [(la, .inr (2, [.ref b5, .ref gv, dm])), (b5, .inr (5, [.ref r5, v5])), (r5, .inl (cy 1, 512, .inl (zB q0))), (gv, .inl (cy 0, 6, .inl (vA vo)))] [(6, .int (nI k)), (5, .int (nI ((ct (domF R rc At i).testBit 8) ^ k))), (4, .int (nI (ct (At i).1.testBit 6))), (3, .int (nI (ct (domF R rc At i).testBit 8))), (2, .ref (ad i)), (0, .ref a), (1, .int (nI i))] 0 0 34 [] := by
    intro d
    induction d with
    | zero =>
      intro k hL0
      refine z_iload X dX9_share_34 (j := 0) rfl ?_
      refine z_iload X dX9_share_36 (j := 2) rfl ?_
      refine z_icmp_ge X (tgt := 53) dX9_share_38 (by decide) (fun c_38 => ?_) (fun c9 => absurd (by rw [show k = (ct (At i).1.testBit 6) by omega]; exact nI_le (Nat.le_refl _) (by omega)) c9)
      refine z_eq (ws' := [(la, .inr (2, [.ref b5, .ref gv, dm])), (b5, .inr (5, [.ref r5, v5])), (r5, .inl (cy 1, 512, .inl (zB q0))), (gv, .inl (cy 0, 6, .inl (vA vo)))]) (lv' := [(6, .int (nI (ct (At i).1.testBit 6))), (5, .int (nI ((ct (domF R rc At i).testBit 8) ^ (ct (At i).1.testBit 6)))), (4, .int (nI (ct (At i).1.testBit 6))), (3, .int (nI (ct (domF R rc At i).testBit 8))), (2, .ref (ad i)), (0, .ref a), (1, .int (nI i))]) (st' := []) rfl (by rw [show k = (ct (At i).1.testBit 6) by omega]) rfl ?_
      refine z_iload X dX9_share_53 (j := 1) rfl ?_
      refine z_if_ne X (tgt := 60) dX9_share_55 (by decide) (fun c_55 => ?_) (fun c_55 => ?_)
      · skip
        have z55 : ¬ (ct (domF R rc At i).testBit 8) ^ (ct (At i).1.testBit 6) = 0 := fun z => c_55 (by rw [z]; rfl)
        have z56 := hn64 0 (by decide) z55
        rw [shr, if_neg z55] at z56
        refine z_aload_n X dX9_share_60 rfl (j := 5) rfl ?_
        refine z_getO X (ci := 9) (C := RX9) (T := TX9) (N := 9) inX9 hO rfl 6 (by decide) fl_X9_40 (fun _ h9 => h9) rfl dX9_share_61 ?_
        refine z_aload_n X dX9_share_64 rfl (j := 4) rfl ?_
        refine z_aload_n X dX9_share_65 rfl (j := 5) rfl ?_
        refine z_aload_n X dX9_share_66 rfl (j := 4) rfl ?_
        refine z_reti X (as := [.ref a, .ref (ad i)]) (wc := []) (wr := [(la, .inr (2, [.ref b5, .ref gv, dm])), (b5, .inr (5, [.ref r5, v5])), (r5, .inl (cy 1, 512, .inl (zB q0))), (gv, .inl (cy 0, 6, .inl (vA vo)))]) (rest := [.ref (ad i), .ref la]) (fun H9 locs9 ls9 hP9 hS9 hl9 hb9 hp9 => va_runV (As := [.ref (ad i)]) (rest := [.ref (ad i), .ref la]) X.fix (m_domainOf l D cy O hO hG hrc hGb hW.rV hF H9.size) (cwV 1 X.hts (gV ml_X9_191 im_X9_domainOf se_X9_domainOf ni_X9 cd_X9_domainOf) rfl rfl rfl (by decide +kernel) ⟨by show 0 + 1 ≤ 4 * fc + 6; omega, by show 8 + (4 + 11) + 0 ≤ 100 * fc + 200; omega⟩) ⟨hb9, z_recvO X (ci := 9) (r := (RX9, TX9, 9)) hO rfl hS9, hp9⟩ rfl rfl hl9.1 rfl (lv_room (Nat.le_of_ble_eq_true rfl)) dX9_share_67 ⟨Nat.le_of_ble_eq_true rfl, Nat.le_of_ble_eq_true rfl⟩) [] [0, 1, 2, 3] rfl rfl rfl rfl rfl (by decide) (fun _ h => Or.inl h) (fun r1 w2 h3 => ?_)
        obtain ⟨rfl, rfl⟩ := h3
        refine z_eq (ws' := [(la, .inr (2, [.ref b5, .ref gv, dm])), (b5, .inr (5, [.ref r5, v5])), (r5, .inl (cy 1, 512, .inl (zB q0))), (gv, .inl (cy 0, 6, .inl (vA vo)))]) (lv' := [(6, .int (nI (ct (At i).1.testBit 6))), (5, .int (nI ((ct (domF R rc At i).testBit 8) ^ (ct (At i).1.testBit 6)))), (4, .int (nI (ct (At i).1.testBit 6))), (3, .int (nI (ct (domF R rc At i).testBit 8))), (2, .ref (ad i)), (0, .ref a), (1, .int (nI i))]) (st' := [.int (nI (domF R rc At i)), .ref (ad i), .ref la]) rfl rfl rfl ?_
        refine z_widen (k' := 0) (n' := 0) (Nat.le_refl _) (Nat.le_refl _) ?_
        refine z_retr X (as := [.ref la, .ref (ad i), .int (nI (domF R rc At i))]) (wc := [(la, .inr (2, [.ref b5, .ref gv, dm])), (b5, .inr (5, [.ref r5, v5])), (r5, .inl (cy 1, 512, .inl (zB q0))), (gv, .inl (cy 0, 6, .inl (vA vo)))]) (wr := []) (rest := []) (fun H9 locs9 ls9 hP9 hS9 hl9 hb9 hp9 => va_runV (As := [.ref (ad i), .int (nI (domF R rc At i))]) (rest := []) X.fix (m_answersOf l D cy O hW hi (Nat.lt_trans hd8 (by decide)) h3 hq0 hvo H9.size) (cwV 2 X.hts (gV ml_X9_203 im_X2_answersOf se_X2_answersOf ni_X2 cd_X2_answersOf) rfl rfl rfl (by decide +kernel) ⟨by show (4 * fc + 4) + 1 ≤ 4 * fc + 6; omega, by show 8 + (9 + 11) + (100 * fc + 100) ≤ 100 * fc + 200; omega⟩) ⟨hb9, z_recvW X (q0 := 0) (ci := 2) (r := (RX2, TX2, 3)) rfl rfl hP9, hp9⟩ rfl rfl hl9.1 rfl (lv_room (Nat.le_of_ble_eq_true rfl)) dX9_share_70 ⟨Nat.le_of_ble_eq_true rfl, Nat.le_of_ble_eq_true rfl⟩) [0, 1, 2, 3] [] rfl rfl rfl rfl rfl (by decide) (fun _ h => Or.inl h) (fun r4 w5 h6 => ?_)
        obtain ⟨e7, vx, hvx, rfl⟩ := h6
        subst r4
        refine z_eq (ws' := [(la, .inr (2, [.ref b5, .ref gv, .int (nI (domF R rc At i))])), (b5, .inr (5, [.ref r5, .int (nI (ct (ans R rc T At fc i) 512))])), (r5, .inl (cy 1, 512, .inl (zB (ans R rc T At fc i)))), (gv, .inl (cy 0, 6, .inl (vA vx)))]) (lv' := [(6, .int (nI (ct (At i).1.testBit 6))), (5, .int (nI ((ct (domF R rc At i).testBit 8) ^ (ct (At i).1.testBit 6)))), (4, .int (nI (ct (At i).1.testBit 6))), (3, .int (nI (ct (domF R rc At i).testBit 8))), (2, .ref (ad i)), (0, .ref a), (1, .int (nI i))]) (st' := [.ref b5]) rfl rfl rfl ?_
        refine z_widen (k' := 0) (n' := 0) (Nat.le_refl _) (Nat.le_refl _) ?_
        refine z_getW X 1 (C := RX5) (T := TX5) (N := 2) inX5 rfl rfl 1 (by decide) fl_X9_207 (fun _ h9 => h9) rfl dX9_share_73 ?_
        refine z_i2d X dX9_share_76 ?_
        refine z_iload X dX9_share_77 (j := 1) rfl ?_
        refine z_i2d X dX9_share_79 ?_
        refine z_ddiv X dX9_share_80 z56 ?_
        exact z_endd X hr [(la, .inr (2, [.ref b5, .ref gv, .int (nI (domF R rc At i))])), (b5, .inr (5, [.ref r5, .int (nI (ct (ans R rc T At fc i) 512))])), (r5, .inl (cy 1, 512, .inl (zB (ans R rc T At fc i)))), (gv, .inl (cy 0, 6, .inl (vA vx)))] [0, 1, 2, 3] rfl rfl rfl ⟨(by rw [shr, if_neg z55]), ⟨_, _, _, vx, rfl, anB_512 h3, hvx⟩⟩ dX9_share_81
      · skip
        have z55 : (ct (domF R rc At i).testBit 8) ^ (ct (At i).1.testBit 6) = 0 := (nI_zero (by have := hpw _ (Nat.le_refl _); omega)).mp c_55
        refine z_dconst0 X dX9_share_58 ?_
        exact z_endd X hr [(la, .inr (2, [.ref b5, .ref gv, dm])), (b5, .inr (5, [.ref r5, v5])), (r5, .inl (cy 1, 512, .inl (zB q0))), (gv, .inl (cy 0, 6, .inl (vA vo)))] [0, 1, 2, 3] rfl rfl rfl ⟨(by rw [shr, if_pos z55]; rfl), ⟨dm, v5, q0, vo, rfl, hq0, hvo⟩⟩ dX9_share_59
    | succ d ih =>
      intro k hL0
      refine z_iload X dX9_share_34 (j := 0) rfl ?_
      refine z_iload X dX9_share_36 (j := 2) rfl ?_
      refine z_icmp_ge X (tgt := 53) dX9_share_38 (by decide) (fun c9 => absurd c9 (nI_ge (by omega) (by omega))) (fun c_38 => ?_)
      refine z_iload X dX9_share_41 (j := 1) rfl ?_
      refine z_iload_n X dX9_share_43 rfl (j := 3) rfl ?_
      refine z_imul X (v := (nI ((ct (domF R rc At i).testBit 8) ^ (k + 1)))) dX9_share_44 (by rw [Nat.pow_succ]; exact pk_mul _ _) ?_
      refine z_istore X (lv' := [(5, .int (nI ((ct (domF R rc At i).testBit 8) ^ (k + 1)))), (6, .int (nI k)), (4, .int (nI (ct (At i).1.testBit 6))), (3, .int (nI (ct (domF R rc At i).testBit 8))), (2, .ref (ad i)), (0, .ref a), (1, .int (nI i))]) dX9_share_45 (by decide) rfl ?_
      refine z_iinc X (j := 1) (v := (nI (k + 1))) (lv' := [(6, .int (nI (k + 1))), (5, .int (nI ((ct (domF R rc At i).testBit 8) ^ (k + 1)))), (4, .int (nI (ct (At i).1.testBit 6))), (3, .int (nI (ct (domF R rc At i).testBit 8))), (2, .ref (ad i)), (0, .ref a), (1, .int (nI i))]) dX9_share_47 rfl (nI_1 k) (by decide) rfl ?_
      refine z_goto X (tgt := 34) dX9_share_50 (by decide) ?_
      refine z_eq (ws' := [(la, .inr (2, [.ref b5, .ref gv, dm])), (b5, .inr (5, [.ref r5, v5])), (r5, .inl (cy 1, 512, .inl (zB q0))), (gv, .inl (cy 0, 6, .inl (vA vo)))]) (lv' := [(6, .int (nI (k + 1))), (5, .int (nI ((ct (domF R rc At i).testBit 8) ^ (k + 1)))), (4, .int (nI (ct (At i).1.testBit 6))), (3, .int (nI (ct (domF R rc At i).testBit 8))), (2, .ref (ad i)), (0, .ref a), (1, .int (nI i))]) (st' := []) rfl rfl rfl ?_
      exact ih (k + 1) (by omega)
  refine z_aload_n X dX9_share_0 rfl (j := 0) rfl ?_
  refine z_iload_n X dX9_share_1 rfl (j := 1) rfl ?_
  refine z_retr X (as := [.ref a, .int (nI i)]) (wc := []) (wr := [(la, .inr (2, [.ref b5, .ref gv, dm])), (b5, .inr (5, [.ref r5, v5])), (r5, .inl (cy 1, 512, .inl (zB q0))), (gv, .inl (cy 0, 6, .inl (vA vo)))]) (rest := []) (fun H9 locs9 ls9 hP9 hS9 hl9 hb9 hp9 => va_runV (As := [.int (nI i)]) (rest := []) X.fix (m_formulaAt l D cy O hO hFa hi hfc (hFb i hi) H9.size) (cwV 1 X.hts (gV ml_X9_141 im_X9_formulaAt se_X9_formulaAt ni_X9 cd_X9_formulaAt) rfl rfl rfl (by decide +kernel) ⟨by show 0 + 1 ≤ 4 * fc + 6; omega, by show 8 + (2 + 11) + 0 ≤ 100 * fc + 200; omega⟩) ⟨hb9, z_recvO X (ci := 9) (r := (RX9, TX9, 9)) hO rfl hS9, hp9⟩ rfl rfl hl9.1 rfl (lv_room (Nat.le_of_ble_eq_true rfl)) dX9_share_2 ⟨Nat.le_of_ble_eq_true rfl, Nat.le_of_ble_eq_true rfl⟩) [] [0, 1, 2, 3] rfl rfl rfl rfl rfl (by decide) (fun _ h => Or.inl h) (fun r7 w8 h9 => ?_)
  obtain ⟨e9, rfl⟩ := h9
  subst r7
  refine z_eq (ws' := [(la, .inr (2, [.ref b5, .ref gv, dm])), (b5, .inr (5, [.ref r5, v5])), (r5, .inl (cy 1, 512, .inl (zB q0))), (gv, .inl (cy 0, 6, .inl (vA vo)))]) (lv' := [(0, .ref a), (1, .int (nI i))]) (st' := [.ref (ad i)]) rfl rfl rfl ?_
  refine z_widen (k' := 0) (n' := 0) (Nat.le_refl _) (Nat.le_refl _) ?_
  refine z_astore_n X (lv' := [(2, .ref (ad i)), (0, .ref a), (1, .int (nI i))]) dX9_share_5 rfl (by decide) rfl ?_
  refine z_aload_n X dX9_share_6 rfl (j := 0) rfl ?_
  refine z_retv X (as := [.ref (ad i)]) (wc := []) (wr := [(la, .inr (2, [.ref b5, .ref gv, dm])), (b5, .inr (5, [.ref r5, v5])), (r5, .inl (cy 1, 512, .inl (zB q0))), (gv, .inl (cy 0, 6, .inl (vA vo)))]) (rest := []) (fun H9 locs9 ls9 hP9 hS9 hl9 hb9 hp9 => va_runS (As := [.ref (ad i)]) (rest := []) X.fix (m_needFewFree l D cy O hF hS6 h3 H9.size) (va_cwS 1 X.hts (gS ml_X9_199 sm_X9_needFewFree ni_X9 cd_X9_needFewFree) rfl rfl rfl (by decide +kernel) ⟨by show 1 + 1 ≤ 4 * fc + 6; omega, by show 8 + (1 + 11) + 20 ≤ 100 * fc + 200; omega⟩) ⟨hb9, hp9⟩ rfl rfl hl9.1 rfl (lv_room (Nat.le_of_ble_eq_true rfl)) dX9_share_7 ⟨Nat.le_of_ble_eq_true rfl, Nat.le_of_ble_eq_true rfl⟩) [] [0, 1, 2, 3] rfl rfl rfl rfl rfl (by decide) (fun _ h => Or.inl h) (fun w11 h12 => ?_)
  subst h12
  refine z_eq (ws' := [(la, .inr (2, [.ref b5, .ref gv, dm])), (b5, .inr (5, [.ref r5, v5])), (r5, .inl (cy 1, 512, .inl (zB q0))), (gv, .inl (cy 0, 6, .inl (vA vo)))]) (lv' := [(2, .ref (ad i)), (0, .ref a), (1, .int (nI i))]) (st' := []) rfl rfl rfl ?_
  refine z_widen (k' := 0) (n' := 0) (Nat.le_refl _) (Nat.le_refl _) ?_
  refine z_aload_n X dX9_share_10 rfl (j := 1) rfl ?_
  refine z_aload_n X dX9_share_11 rfl (j := 0) rfl ?_
  refine z_reti X (as := [.ref a, .ref (ad i)]) (wc := []) (wr := [(la, .inr (2, [.ref b5, .ref gv, dm])), (b5, .inr (5, [.ref r5, v5])), (r5, .inl (cy 1, 512, .inl (zB q0))), (gv, .inl (cy 0, 6, .inl (vA vo)))]) (rest := []) (fun H9 locs9 ls9 hP9 hS9 hl9 hb9 hp9 => va_runV (As := [.ref (ad i)]) (rest := []) X.fix (m_domainOf l D cy O hO hG hrc hGb hW.rV hF H9.size) (cwV 1 X.hts (gV ml_X9_191 im_X9_domainOf se_X9_domainOf ni_X9 cd_X9_domainOf) rfl rfl rfl (by decide +kernel) ⟨by show 0 + 1 ≤ 4 * fc + 6; omega, by show 8 + (4 + 11) + 0 ≤ 100 * fc + 200; omega⟩) ⟨hb9, z_recvO X (ci := 9) (r := (RX9, TX9, 9)) hO rfl hS9, hp9⟩ rfl rfl hl9.1 rfl (lv_room (Nat.le_of_ble_eq_true rfl)) dX9_share_12 ⟨Nat.le_of_ble_eq_true rfl, Nat.le_of_ble_eq_true rfl⟩) [] [0, 1, 2, 3] rfl rfl rfl rfl rfl (by decide) (fun _ h => Or.inl h) (fun r13 w14 h15 => ?_)
  obtain ⟨rfl, rfl⟩ := h15
  refine z_eq (ws' := [(la, .inr (2, [.ref b5, .ref gv, dm])), (b5, .inr (5, [.ref r5, v5])), (r5, .inl (cy 1, 512, .inl (zB q0))), (gv, .inl (cy 0, 6, .inl (vA vo)))]) (lv' := [(2, .ref (ad i)), (0, .ref a), (1, .int (nI i))]) (st' := [.int (nI (domF R rc At i))]) rfl rfl rfl ?_
  refine z_widen (k' := 0) (n' := 0) (Nat.le_refl _) (Nat.le_refl _) ?_
  refine z_reti X (as := [.int (nI (domF R rc At i))]) (wc := []) (wr := [(la, .inr (2, [.ref b5, .ref gv, dm])), (b5, .inr (5, [.ref r5, v5])), (r5, .inl (cy 1, 512, .inl (zB q0))), (gv, .inl (cy 0, 6, .inl (vA vo)))]) (rest := []) (fun H9 locs9 ls9 hP9 hS9 hl9 hb9 hp9 => va_runS (As := [.int (nI (domF R rc At i))]) (rest := []) X.fix (m_ibits l D cy O (n9 := domF R rc At i) (Nat.lt_trans hd8 (by decide)) H9.size) (va_cwS 1 X.hts (gS ml_X9_210 sm_J6_bitCount_0f7a4 ni_J6 cd_J6_bitCount_0f7a4) rfl rfl rfl (by decide +kernel) ⟨by show 0 + 1 ≤ 4 * fc + 6; omega, by show 8 + (1 + 11) + 0 ≤ 100 * fc + 200; omega⟩) ⟨hb9, hp9⟩ rfl rfl hl9.1 rfl (lv_room (Nat.le_of_ble_eq_true rfl)) dX9_share_15 ⟨Nat.le_of_ble_eq_true rfl, Nat.le_of_ble_eq_true rfl⟩) [] [0, 1, 2, 3] rfl rfl rfl rfl rfl (by decide) (fun _ h => Or.inl h) (fun r16 w17 h18 => ?_)
  obtain ⟨rfl, rfl⟩ := h18
  rw [ct_32 hd8 (show 8 ≤ 32 by decide)]
  refine z_eq (ws' := [(la, .inr (2, [.ref b5, .ref gv, dm])), (b5, .inr (5, [.ref r5, v5])), (r5, .inl (cy 1, 512, .inl (zB q0))), (gv, .inl (cy 0, 6, .inl (vA vo)))]) (lv' := [(2, .ref (ad i)), (0, .ref a), (1, .int (nI i))]) (st' := [.int (nI (ct (domF R rc At i).testBit 8))]) rfl rfl rfl ?_
  refine z_widen (k' := 0) (n' := 0) (Nat.le_refl _) (Nat.le_refl _) ?_
  refine z_istore_n X (lv' := [(3, .int (nI (ct (domF R rc At i).testBit 8))), (2, .ref (ad i)), (0, .ref a), (1, .int (nI i))]) dX9_share_18 rfl (by decide) rfl ?_
  refine z_aload_n X dX9_share_19 rfl (j := 1) rfl ?_
  refine z_getO X (ci := 1) (C := RX1) (T := TX1) (N := 13) inX1 hF rfl 6 (by decide) fl_X9_182 (fun _ h9 => h9) rfl dX9_share_20 ?_
  refine z_reti X (as := [.int (nI (At i).1)]) (wc := []) (wr := [(la, .inr (2, [.ref b5, .ref gv, dm])), (b5, .inr (5, [.ref r5, v5])), (r5, .inl (cy 1, 512, .inl (zB q0))), (gv, .inl (cy 0, 6, .inl (vA vo)))]) (rest := []) (fun H9 locs9 ls9 hP9 hS9 hl9 hb9 hp9 => va_runS (As := [.int (nI (At i).1)]) (rest := []) X.fix (m_ibits l D cy O (n9 := (At i).1) (Nat.lt_trans hS6 (by decide)) H9.size) (va_cwS 1 X.hts (gS ml_X9_210 sm_J6_bitCount_0f7a4 ni_J6 cd_J6_bitCount_0f7a4) rfl rfl rfl (by decide +kernel) ⟨by show 0 + 1 ≤ 4 * fc + 6; omega, by show 8 + (1 + 11) + 0 ≤ 100 * fc + 200; omega⟩) ⟨hb9, hp9⟩ rfl rfl hl9.1 rfl (lv_room (Nat.le_of_ble_eq_true rfl)) dX9_share_23 ⟨Nat.le_of_ble_eq_true rfl, Nat.le_of_ble_eq_true rfl⟩) [] [0, 1, 2, 3] rfl rfl rfl rfl rfl (by decide) (fun _ h => Or.inl h) (fun r19 w20 h21 => ?_)
  obtain ⟨rfl, rfl⟩ := h21
  rw [ct_32 hS6 (show 6 ≤ 32 by decide)]
  refine z_eq (ws' := [(la, .inr (2, [.ref b5, .ref gv, dm])), (b5, .inr (5, [.ref r5, v5])), (r5, .inl (cy 1, 512, .inl (zB q0))), (gv, .inl (cy 0, 6, .inl (vA vo)))]) (lv' := [(3, .int (nI (ct (domF R rc At i).testBit 8))), (2, .ref (ad i)), (0, .ref a), (1, .int (nI i))]) (st' := [.int (nI (ct (At i).1.testBit 6))]) rfl rfl rfl ?_
  refine z_widen (k' := 0) (n' := 0) (Nat.le_refl _) (Nat.le_refl _) ?_
  refine z_istore X (lv' := [(4, .int (nI (ct (At i).1.testBit 6))), (3, .int (nI (ct (domF R rc At i).testBit 8))), (2, .ref (ad i)), (0, .ref a), (1, .int (nI i))]) dX9_share_26 (by decide) rfl ?_
  refine z_iconst X (v := 1) dX9_share_28 (by decide) ?_
  refine z_istore X (lv' := [(5, .int 1), (4, .int (nI (ct (At i).1.testBit 6))), (3, .int (nI (ct (domF R rc At i).testBit 8))), (2, .ref (ad i)), (0, .ref a), (1, .int (nI i))]) dX9_share_29 (by decide) rfl ?_
  refine z_iconst X (v := 0) dX9_share_31 (by decide) ?_
  refine z_istore X (lv' := [(6, .int 0), (5, .int 1), (4, .int (nI (ct (At i).1.testBit 6))), (3, .int (nI (ct (domF R rc At i).testBit 8))), (2, .ref (ad i)), (0, .ref a), (1, .int (nI i))]) dX9_share_32 (by decide) rfl ?_
  refine z_eq (ws' := [(la, .inr (2, [.ref b5, .ref gv, dm])), (b5, .inr (5, [.ref r5, v5])), (r5, .inl (cy 1, 512, .inl (zB q0))), (gv, .inl (cy 0, 6, .inl (vA vo)))]) (lv' := [(6, .int (nI 0)), (5, .int (nI ((ct (domF R rc At i).testBit 8) ^ 0))), (4, .int (nI (ct (At i).1.testBit 6))), (3, .int (nI (ct (domF R rc At i).testBit 8))), (2, .ref (ad i)), (0, .ref a), (1, .int (nI i))]) (st' := []) rfl rfl rfl ?_
  exact L ((ct (At i).1.testBit 6)) 0 (by omega)
