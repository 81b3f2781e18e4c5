/-! more rows of the calculus: arrays over arrays, System.arraycopy, the script, worlds with a tail of cells that are not written out -/
theorem cl_X10_19 : Cond.classLink RX10 19 (FieldType.array .int).toString ∈ WALL := WALL_in 753 (by decide +kernel) rfl
theorem cl_X10_13 : Cond.classLink RX10 13 (FieldType.array (.array .int)).toString ∈ WALL := WALL_in 751 (by decide +kernel) rfl
theorem ml_X10_23 : Cond.methodLink RX10 23 arraycopyName ∈ WALL := WALL_in 722 (by decide +kernel) rfl
theorem sm_copy : Cond.static arraycopyName ∈ WALL := WALL_in 723 (by decide +kernel) rfl
theorem na_copy : Cond.native arraycopyName ∈ WALL := WALL_in 724 (by decide +kernel) rfl
theorem ni_sys : Cond.initialized "java/lang/System" ∈ WALL := WALL_in 44 (by decide +kernel) rfl
theorem asg_self (vm : Vm) (c : ClassId) : vm.assignable c c = true := by
  show vm.assignableAux (255 + 1) c c = true
  rw [Vm.assignableAux]
  simp only [beq_self_eq_true, Bool.true_or]
theorem vc_cls (c : ClassId) (x : vp_A) : (vp_cell c x).cls = c := by
  obtain ⟨n, x⟩ := x
  rcases x with f | f | f | f | f <;> rfl
theorem vc_vm (c : ClassId) (x : vp_A) : (vp_cell c x).vm = .none := by
  obtain ⟨n, x⟩ := x
  rcases x with f | f | f | f | f <;> rfl
section CALC3
variable {D : va_G} {cy : Nat → ClassId} {O : Nat × va_E → Prop} {A : Nat → Prop} {cc : ByteArray} {nL : Nat} {own : String} {p : Program} {l : Launch} {e : Env} {R : Room} {s : State} {m : MethodId} {args : Array Value} {below : List Frame} {meth : Method} {c : Code} {Q : State → Prop} {ws : va_W} {lv : List (Nat × Value)} {k n pc : Nat} {st : List Value}
/-- the class of an array over arrays, and its component -/
theorem arr_cls (X : Cx D cy O A cc nL own p s m args meth c) {t : FieldType} {k5 k6 : Nat} (ht : t ∈ nwT) (h5 : (tysG cy)[k5]? = some (cy k5, t)) (h6 : (tysG cy)[k6]? = some (cy k6, .array t)) (hr : va_RA s (cy k5) t → s.vm.findClass (FieldType.array t).toString = some (cy k5)) : ∃ kA kC : Class, s.vm.classes[cy k6]? = some kA ∧ kA.kind = .array (cy k5) (.array t) ∧ s.vm.classes[cy k5]? = some kC := by
  obtain ⟨comp, c0, k0, a1, a2, a3, a4, a5⟩ := arrayOverA_spec (X.nw.2.2 t ht)
  have e5 := hr (X.K.2 k5 _ h5).2
  have e6 : s.vm.findClass ("[" ++ (FieldType.array t).toString) = some (cy k6) := (X.K.2 k6 _ h6).2
  have g1 : comp = cy k5 := Option.some.inj (a1.symm.trans e5)
  have g2 : c0 = cy k6 := Option.some.inj (a5.symm.trans e6)
  subst g1; subst g2
  obtain ⟨kC, hkC, -⟩ := Vm.findClass_spec e5
  exact ⟨k0, kC, a3, a4, hkC⟩
theorem z_newA (X : Cx D cy O A cc nL own p s m args meth c) {t : FieldType} {k6 index N : Nat} {x : Int32} (ht : t ∈ nwT) (h6 : (tysG cy)[k6]? = some (cy k6, .array t)) (hcl : Cond.classLink own index (FieldType.array t).toString ∈ WALL) (h0 : ¬ x < 0) (hN : x.toNatClampNeg = N) (hb : N * 4 ≤ 536870912) (h1 : k + 1 ≤ R.cells) (h2 : n + N ≤ R.slots) (hd : decode cc pc = .ok (.anewarray index, 3)) (kk : ∀ q : Nat, Zz D A nL p l e R s m args below meth c Q (ws ++ [(q, .inl (cy k6, N, .inr (.inr (.inr (.inr (fun _ => none))))))]) lv (k + 1) (n + N) (pc + 3) (.ref q :: st)) : Zz D A nL p l e R s m args below meth c Q ws lv k n pc (.int x :: st) := by
  intro H locs ls hP hD hS hl
  subst hN
  refine W.anewA X.1 X.2.1 X.me (X.hts _ hcl) (X.nw.2.2 t ht) rfl hd rfl h0 hb h1 h2 fun cA kA comp f1 f2 f3 f4 => ?_
  have e6 : s.vm.findClass ("[" ++ (FieldType.array t).toString) = some (cy k6) := (X.K.2 k6 _ h6).2
  have g2 : cA = cy k6 := Option.some.inj (f1.symm.trans e6)
  subst g2
  generalize hH1 : H.push ({ cls := cy k6, slots := Array.replicate x.toNatClampNeg .null, vm := .none } : Cell) = H1
  have z1 : H1.size = H.size + 1 := by rw [← hH1, Array.size_push]
  have e1 : H1[H.size]? = some (arrV (cy k6) x.toNatClampNeg (fun _ => .null)) := by rw [← hH1, Array.getElem?_push_size, ← arrV_new]
  have o1 : ∀ q : Nat, q < H.size → H1[q]? = H[q]? := fun q hq => by rw [← hH1, Array.getElem?_push, if_neg (Nat.ne_of_lt hq)]
  have hk : ∀ (k : Nat) (x : Nat × va_E), ws[k]? = some x → H1[x.1]? = H[x.1]? := fun k x hx => o1 x.1 ((hP k x hx).lt)
  refine kk H.size H1 locs ls ((hP.kept hk).app (fun k x hx => ?_)) (hD.push hP rfl (X.new _ hS.1)) ⟨Nat.le_trans hS.1 (by omega), fun x h1 h2 => (o1 x (Nat.lt_of_lt_of_le h1 hS.1)).trans (hS.2.1 x h1 h2), hS.2.2⟩ hl
  have hz : k < 1 := (List.getElem?_eq_some_iff.mp hx).1
  rw [show k = 0 by omega] at hx
  cases hx
  show H1[H.size]? = some (vp_cell _ _)
  rw [vp_cell_q]
  exact e1
theorem z_aaldAO (X : Cx D cy O A cc nL own p s m args meth c) {t : FieldType} {k6 N a b : Nat} {f : Nat → Option Nat} (hO : O (a, .inl (cy k6, N, .inr (.inr (.inr (.inr f)))))) (h6 : (tysG cy)[k6]? = some (cy k6, .array t)) {i : Int32} (hi : vp_in i N) (hv : f i.toNatClampNeg = some b) (hd : decode cc pc = .ok (.aaload, 1)) (kk : Zz D A nL p l e R s m args below meth c Q ws lv k n (pc + 1) (.ref b :: st)) : Zz D A nL p l e R s m args below meth c Q ws lv k n pc (.int i :: .ref a :: st) := by
  intro H locs ls hP hD hS hl
  have hlt : i.toNatClampNeg < N := Nat.not_le.mp fun q => hi (Or.inr q)
  exact W.aald (v := va_rf (f i.toNatClampNeg)) (ty := .array t) X.1 X.2.1 ((X.ro hO hS) 0 _ rfl) ((X.K.2 k6 _ h6).1 N (fun j => va_rf (f j))) rfl (fun q => by cases q) (by show ¬ (i < 0 ∨ (arrV _ _ _).slots.size ≤ _); rw [arrV_size]; exact hi) (by show (arrV _ _ _).slots[_]? = _; rw [arrV_read _ _ hlt]) rfl rfl hd (by rw [hv]; exact kk H locs ls hP hD hS hl)
theorem z_aaldAW (X : Cx D cy O A cc nL own p s m args meth c) {t : FieldType} {k6 N a b : Nat} {f : Nat → Option Nat} (q0 : Nat) (he : ws[q0]? = some (a, .inl (cy k6, N, .inr (.inr (.inr (.inr f)))))) (h6 : (tysG cy)[k6]? = some (cy k6, .array t)) {i : Int32} (hi : vp_in i N) (hv : f i.toNatClampNeg = some b) (hd : decode cc pc = .ok (.aaload, 1)) (kk : Zz D A nL p l e R s m args below meth c Q ws lv k n (pc + 1) (.ref b :: st)) : Zz D A nL p l e R s m args below meth c Q ws lv k n pc (.int i :: .ref a :: st) := by
  intro H locs ls hP hD hS hl
  have hlt : i.toNatClampNeg < N := Nat.not_le.mp fun q => hi (Or.inr q)
  exact W.aald (v := va_rf (f i.toNatClampNeg)) (ty := .array t) X.1 X.2.1 (hP q0 _ he) ((X.K.2 k6 _ h6).1 N (fun j => va_rf (f j))) rfl (fun q => by cases q) (by show ¬ (i < 0 ∨ (arrV _ _ _).slots.size ≤ _); rw [arrV_size]; exact hi) (by show (arrV _ _ _).slots[_]? = _; rw [arrV_read _ _ hlt]) rfl rfl hd (by rw [hv]; exact kk H locs ls hP hD hS hl)
theorem z_aastAO (X : Cx D cy O A cc nL own p s m args meth c) {t : FieldType} {k5 k6 : Nat} (ht : t ∈ nwT) (h5 : (tysG cy)[k5]? = some (cy k5, t)) (h6 : (tysG cy)[k6]? = some (cy k6, .array t)) (hr : va_RA s (cy k5) t → s.vm.findClass (FieldType.array t).toString = some (cy k5)) (q0 : Nat) {N a v : Nat} {f : Nat → Option Nat} {x : vp_A} (he : ws[q0]? = some (a, .inl (cy k6, N, .inr (.inr (.inr (.inr f)))))) (hO : O (v, .inl (cy k5, x))) {i : Int32} (hi : vp_in i N) {ws' : va_W} (hws : ws.set q0 (a, .inl (cy k6, N, .inr (.inr (.inr (.inr (va_up f i.toNatClampNeg (some v))))))) = ws') (hd : decode cc pc = .ok (.aastore, 1)) (kk : Zz D A nL p l e R s m args below meth c Q ws' lv k n (pc + 1) st) : Zz D A nL p l e R s m args below meth c Q ws lv k n pc (.ref v :: .int i :: .ref a :: st) := by
  intro H locs ls hP hD hS hl
  subst hws
  have hlt : i.toNatClampNeg < N := Nat.not_le.mp fun q => hi (Or.inr q)
  have h0 : ¬ i < 0 := fun q => hi (Or.inl q)
  obtain ⟨kA, kC, k1, k2, k3⟩ := arr_cls X ht h5 h6 hr
  have hv : H[v]? = some (vp_cell (cy k5) x) := (X.ro hO hS) 0 _ rfl
  refine W.aast X.1 X.2.1 (hP q0 _ he) (fun q h => by cases h) (fun h => by cases h) k1 k2 rfl k3 ⟨h0, by show _ < (arrV _ _ _).slots.size; rw [arrV_size]; exact hlt⟩ hv (fun q h => by rw [vc_vm] at h; cases h) (by rw [vc_cls]; exact k3) (by rw [vc_cls]; exact asg_self _ _) rfl rfl hd fun H1 e z oq => ?_
  refine kk H1 _ ls (hP.set hD he ?_ oq) (hD.set he) (hS.put z oq (hD.2 q0 _ he)) hl
  show H1[a]? = some (vp_cell _ _)
  rw [e]
  rw [vp_cell_q, vp_cell_q, arrV_store]
  congr 2
  funext q
  by_cases hq : q = i.toNatClampNeg
  · subst hq
    simp [updV, va_up, va_rf]
  · simp [updV, va_up, hq]
theorem z_aastAW (X : Cx D cy O A cc nL own p s m args meth c) {t : FieldType} {k5 k6 : Nat} (ht : t ∈ nwT) (h5 : (tysG cy)[k5]? = some (cy k5, t)) (h6 : (tysG cy)[k6]? = some (cy k6, .array t)) (hr : va_RA s (cy k5) t → s.vm.findClass (FieldType.array t).toString = some (cy k5)) (q0 : Nat) {N a v : Nat} {f : Nat → Option Nat} {x : vp_A} (he : ws[q0]? = some (a, .inl (cy k6, N, .inr (.inr (.inr (.inr f)))))) (qk : Nat) (he2 : ws[qk]? = some (v, .inl (cy k5, x))) {i : Int32} (hi : vp_in i N) {ws' : va_W} (hws : ws.set q0 (a, .inl (cy k6, N, .inr (.inr (.inr (.inr (va_up f i.toNatClampNeg (some v))))))) = ws') (hd : decode cc pc = .ok (.aastore, 1)) (kk : Zz D A nL p l e R s m args below meth c Q ws' lv k n (pc + 1) st) : Zz D A nL p l e R s m args below meth c Q ws lv k n pc (.ref v :: .int i :: .ref a :: st) := by
  intro H locs ls hP hD hS hl
  subst hws
  have hlt : i.toNatClampNeg < N := Nat.not_le.mp fun q => hi (Or.inr q)
  have h0 : ¬ i < 0 := fun q => hi (Or.inl q)
  obtain ⟨kA, kC, k1, k2, k3⟩ := arr_cls X ht h5 h6 hr
  have hv : H[v]? = some (vp_cell (cy k5) x) := hP qk _ he2
  refine W.aast X.1 X.2.1 (hP q0 _ he) (fun q h => by cases h) (fun h => by cases h) k1 k2 rfl k3 ⟨h0, by show _ < (arrV _ _ _).slots.size; rw [arrV_size]; exact hlt⟩ hv (fun q h => by rw [vc_vm] at h; cases h) (by rw [vc_cls]; exact k3) (by rw [vc_cls]; exact asg_self _ _) rfl rfl hd fun H1 e z oq => ?_
  refine kk H1 _ ls (hP.set hD he ?_ oq) (hD.set he) (hS.put z oq (hD.2 q0 _ he)) hl
  show H1[a]? = some (vp_cell _ _)
  rw [e]
  rw [vp_cell_q, vp_cell_q, arrV_store]
  congr 2
  funext q
  by_cases hq : q = i.toNatClampNeg
  · subst hq
    simp [updV, va_up, va_rf]
  · simp [updV, va_up, hq]
theorem z_copyW (X : Cx D cy O A cc nL own p s m args meth c) {index : Nat} (hlk : Cond.methodLink own index arraycopyName ∈ WALL) (q0 q1 : Nat) {a0 a n0 n1 : Nat} {f g : Nat → Int32} (ha0 : ws[q0]? = some (a0, .inl (cy 0, n0, .inl f))) (ha1 : ws[q1]? = some (a, .inl (cy 0, n1, .inl g))) {sp dp n9 : Int32} (h1 : ¬ sp < 0) (h2 : ¬ dp < 0) (h3 : ¬ n9 < 0) (h4 : sp.toNatClampNeg + n9.toNatClampNeg ≤ n0) (h5 : dp.toNatClampNeg + n9.toNatClampNeg ≤ n1) (hfr : 1 ≤ R.frames) (hlo : (st.map fun v => v.category).sum + 18 ≤ R.locals) (hd : decode cc pc = .ok (.invokestatic index, 3)) {ws' : va_W} (hws : ws.set q1 (a, .inl (cy 0, n1, .inl (va_cpy f g sp.toNatClampNeg dp.toNatClampNeg n9.toNatClampNeg))) = ws') (kk : Zz D A nL p l e R s m args below meth c Q ws' lv k n (pc + 3) st) : Zz D A nL p l e R s m args below meth c Q ws lv k n pc (.int n9 :: .int dp :: .ref a :: .int sp :: .ref a0 :: st) := by
  intro H locs ls hP hD hS hl
  subst hws
  exact va_copyi X.1 X.2.1 (hl.1.trans X.2.2.1.symm).symm X.me (X.hts _ hlk) (X.hts _ na_copy) (X.hts _ sm_copy) (X.hts _ ni_sys) X.K hP hD hS q0 q1 0 0 ha0 ha1 rfl rfl rfl h1 h2 h3 h4 h5 (fun _ _ => rfl) hfr hlo hd (fun H1 locs1 hP1 hD1 hS1 => kk H1 locs1 ls hP1 hD1 hS1 hl)
theorem z_copyO (X : Cx D cy O A cc nL own p s m args meth c) {index : Nat} (hlk : Cond.methodLink own index arraycopyName ∈ WALL) (q1 : Nat) {a0 a n0 n1 : Nat} {f g : Nat → Int32} (hO0 : O (a0, .inl (cy 0, n0, .inl f))) (ha1 : ws[q1]? = some (a, .inl (cy 0, n1, .inl g))) {sp dp n9 : Int32} (h1 : ¬ sp < 0) (h2 : ¬ dp < 0) (h3 : ¬ n9 < 0) (h4 : sp.toNatClampNeg + n9.toNatClampNeg ≤ n0) (h5 : dp.toNatClampNeg + n9.toNatClampNeg ≤ n1) (hfr : 1 ≤ R.frames) (hlo : (st.map fun v => v.category).sum + 18 ≤ R.locals) (hd : decode cc pc = .ok (.invokestatic index, 3)) {ws' : va_W} (hws : ws.set q1 (a, .inl (cy 0, n1, .inl (va_cpy f g sp.toNatClampNeg dp.toNatClampNeg n9.toNatClampNeg))) = ws') (kk : Zz D A nL p l e R s m args below meth c Q ws' lv k n (pc + 3) st) : Zz D A nL p l e R s m args below meth c Q ws lv k n pc (.int n9 :: .int dp :: .ref a :: .int sp :: .ref a0 :: st) := by
  intro H locs ls hP hD hS hl
  subst hws
  obtain ⟨g1, g2⟩ := X.2.2.2.2.2.2.2.1 _ hO0
  have g3 : s.heap[a0]? = some (arrV (cy 0) n0 (fun j => .int (f j))) := g1
  exact va_copyx X.1 X.2.1 (hl.1.trans X.2.2.1.symm).symm X.me (X.hts _ hlk) (X.hts _ na_copy) (X.hts _ sm_copy) (X.hts _ ni_sys) X.K hP hD hS ⟨_, g3, (X.K.2 0 _ rfl).1 n0 (fun j => .int (f j)), (fun z => by cases z), arrV_size _ _ _, fun j hj => arrV_read _ _ hj⟩ g1.lt g2 q1 0 ha1 rfl h1 h2 h3 h4 h5 hfr hlo hd (fun H1 locs1 hP1 hD1 hS1 => kk H1 locs1 ls hP1 hD1 hS1 hl)
theorem z_copyA (X : Cx D cy O A cc nL own p s m args meth c) {index : Nat} (hlk : Cond.methodLink own index arraycopyName ∈ WALL) {t : FieldType} {k5 k6 : Nat} (ht : t ∈ nwT) (h5 : (tysG cy)[k5]? = some (cy k5, t)) (h6 : (tysG cy)[k6]? = some (cy k6, .array t)) (hr : va_RA s (cy k5) t → s.vm.findClass (FieldType.array t).toString = some (cy k5)) (q1 : Nat) {a0 a n0 n1 : Nat} {f g : Nat → Option Nat} (hO0 : O (a0, .inl (cy k6, n0, .inr (.inr (.inr (.inr f)))))) (ha1 : ws[q1]? = some (a, .inl (cy k6, n1, .inr (.inr (.inr (.inr g)))))) {sp dp n9 : Int32} (h1 : ¬ sp < 0) (h2 : ¬ dp < 0) (h3 : ¬ n9 < 0) (h4 : sp.toNatClampNeg + n9.toNatClampNeg ≤ n0) (h55 : dp.toNatClampNeg + n9.toNatClampNeg ≤ n1) (hel : ∀ i, i < n9.toNatClampNeg → ∀ y, f (sp.toNatClampNeg + i) = some y → ∃ x : vp_A, O (y, .inl (cy k5, x))) (hfr : 1 ≤ R.frames) (hlo : (st.map fun v => v.category).sum + 18 ≤ R.locals) (hd : decode cc pc = .ok (.invokestatic index, 3)) {ws' : va_W} (hws : ws.set q1 (a, .inl (cy k6, n1, .inr (.inr (.inr (.inr (va_cpy f g sp.toNatClampNeg dp.toNatClampNeg n9.toNatClampNeg)))))) = ws') (kk : Zz D A nL p l e R s m args below meth c Q ws' lv k n (pc + 3) st) : Zz D A nL p l e R s m args below meth c Q ws lv k n pc (.int n9 :: .int dp :: .ref a :: .int sp :: .ref a0 :: st) := by
  intro H locs ls hP hD hS hl
  subst hws
  have nn : ∀ z : Int32, ¬ z < 0 → z.toInt = (z.toNatClampNeg : Int) := by
    intro z hz
    have hz0 : (0 : Int) ≤ z.toInt := by
      have := Int32.not_lt.mp hz
      simpa using Int32.le_iff_toInt_le.mp this
    show z.toInt = ((z.toInt.toNat : Nat) : Int)
    omega
  obtain ⟨kA, kC, k1, k2, k3⟩ := arr_cls X ht h5 h6 hr
  intro T hT Y
  have hc0 : H[a0]? = some (vp_cell (cy k6) (n0, .inr (.inr (.inr (.inr f))))) := (X.ro hO0 hS) 0 _ rfl
  have hc1 : H[a]? = some (vp_cell (cy k6) (n1, .inr (.inr (.inr (.inr g))))) := hP q1 _ ha1
  obtain ⟨vm', Y', step⟩ := Y.arraycopy X.1 X.me (X.hts _ hlk) (X.hts _ na_copy) (X.hts _ sm_copy) (X.hts _ ni_sys) (src := a0) (dst := a) (cs := vp_cell (cy k6) (n0, .inr (.inr (.inr (.inr f))))) (cd := vp_cell (cy k6) (n1, .inr (.inr (.inr (.inr g))))) (srcPos := sp) (destPos := dp) (n := n9) (by rw [hT]; exact hc0) (by rw [hT]; exact hc1)
    (fun _ h => by cases h) (fun _ h => by cases h) (fun h => by cases h) (fun h => by cases h) k1 k1 k2 k2 rfl h1 h2 h3
    (by rw [nn sp h1, nn n9 h3]; show ¬ _ > ((arrV (cy k6) n0 (fun j => va_rf (f j))).slots.size : Int); rw [arrV_size]; omega)
    (by rw [nn dp h2, nn n9 h3]; show ¬ _ > ((arrV (cy k6) n1 (fun j => va_rf (g j))).slots.size : Int); rw [arrV_size]; omega)
    (fun vm₁ hal i hi => by
      have e : (vp_cell (cy k6) (n0, .inr (.inr (.inr (.inr f))))).slots.getD (sp.toNatClampNeg + i) .null = va_rf (f (sp.toNatClampNeg + i)) := by
        show (arrV (cy k6) n0 (fun j => va_rf (f j))).slots.getD _ _ = _
        rw [Array.getD_eq_getD_getElem?, arrV_read _ _ (by omega)]
        rfl
      rw [e]
      cases hy : f (sp.toNatClampNeg + i) with
      | none => exact ⟨rfl, trivial⟩
      | some y =>
        obtain ⟨x, hx⟩ := hel i hi y hy
        have g1 : H[y]? = some (vp_cell (cy k5) x) := (X.ro hx hS) 0 _ rfl
        obtain ⟨kE', hkE', -⟩ := hal.2.2 _ _ k3
        refine ⟨rfl, vp_cell (cy k5) x, (show T.heap[y]? = some _ by rw [hT]; exact g1), (fun q h => by rw [vc_vm] at h; cases h), (by rw [vc_cls]; exact ⟨kE', hkE'⟩), ?_, ?_⟩
        · exact ⟨kE', hkE'⟩
        · show vm₁.assignable _ _ = true
          rw [vc_cls]
          exact asg_self _ _)
    (g := F0 m pc ls (.int n9 :: .int dp :: .ref a :: .int sp :: .ref a0 :: st)) rfl (by rw [hl.1, X.2.2.1]) (rest := st) rfl (by rw [X.2.1]; exact hd) hfr (by show 2 * 0 + _ + (nativeFrameWords "java/lang/System" "arraycopy" 5 + 11) ≤ _; rw [show nativeFrameWords "java/lang/System" "arraycopy" 5 = 7 by decide]; omega)
  have e1 : copied (vp_cell (cy k6) (n0, .inr (.inr (.inr (.inr f))))) (vp_cell (cy k6) (n1, .inr (.inr (.inr (.inr g))))) sp dp n9 = vp_cell (cy k6) (n1, .inr (.inr (.inr (.inr (va_cpy f g sp.toNatClampNeg dp.toNatClampNeg n9.toNatClampNeg))))) := by
    rw [vp_cell_q, vp_cell_q, vp_cell_q]
    exact va_copied (fun z => va_rf z) (cy k6) (cy k6) f g h4
  rw [e1] at Y' step
  have hl9 : a < H.size := (Array.getElem?_eq_some_iff.mp hc1).1
  have hheap : ((T.setVm vm').setCell a (vp_cell (cy k6) (n1, .inr (.inr (.inr (.inr (va_cpy f g sp.toNatClampNeg dp.toNatClampNeg n9.toNatClampNeg))))))).heap = H.setIfInBounds a (vp_cell (cy k6) (n1, .inr (.inr (.inr (.inr (va_cpy f g sp.toNatClampNeg dp.toNatClampNeg n9.toNatClampNeg)))))) := by rw [← hT]; rfl
  have oq : ∀ q : Nat, q ≠ a → (H.setIfInBounds a (vp_cell (cy k6) (n1, .inr (.inr (.inr (.inr (va_cpy f g sp.toNatClampNeg dp.toNatClampNeg n9.toNatClampNeg)))))))[q]? = H[q]? := fun q hq => by simp [Array.getElem?_setIfInBounds, Ne.symm hq]
  obtain ⟨t', a1, b1⟩ := kk _ _ ls (hP.set hD ha1 (show (H.setIfInBounds a _)[a]? = some _ by simp [Array.getElem?_setIfInBounds, hl9]) oq) (hD.set ha1) ⟨by simp; exact hS.1, fun q g1 g2 => by
      rw [oq q (fun e => g2 (by rw [e]; exact hD.2 q1 _ ha1))]
      exact hS.2.1 q g1 g2, fun q hq => by
      rcases List.mem_append.mp hq with h | h
      · exact hS.2.2 q h
      · obtain ⟨z, -, hz⟩ := List.mem_map.mp h
        rw [← hz]
        exact hD.2 q1 _ ha1⟩ hl _ hheap Y'
  exact ⟨t', step t' a1, b1⟩
theorem z_sld (X : Cx D cy O A cc nL own p s m args meth c) {b L : Nat} {xs : Nat → Int32} (hXs : va_X b L xs s s.heap) (hbl : b < s.heap.size) (hbA : ¬ A b) {i v : Int32} (hi : vp_in i L) (hv : xs i.toNatClampNeg = v) (hd : decode cc pc = .ok (.iaload, 1)) (kk : Zz D A nL p l e R s m args below meth c Q ws lv k n (pc + 1) (.int v :: st)) : Zz D A nL p l e R s m args below meth c Q ws lv k n pc (.int i :: .ref b :: st) := by
  intro H locs ls hP hD hS hl
  subst hv
  exact va_sld X.1 X.2.1 hXs hbl hbA hS hi hd (kk H locs ls hP hD hS hl)
theorem z_slen (X : Cx D cy O A cc nL own p s m args meth c) {b L : Nat} {xs : Nat → Int32} (hXs : va_X b L xs s s.heap) (hbl : b < s.heap.size) (hbA : ¬ A b) (hd : decode cc pc = .ok (.arraylength, 1)) (kk : Zz D A nL p l e R s m args below meth c Q ws lv k n (pc + 1) (.int (nI L) :: st)) : Zz D A nL p l e R s m args below meth c Q ws lv k n pc (.ref b :: st) := by
  intro H locs ls hP hD hS hl
  exact va_slen X.1 X.2.1 hXs hbl hbA hS hd (kk H locs ls hP hD hS hl)
end CALC3
/-- what a method finds that is handed the script, too -/
def prqX (D : va_G) (cy : Nat → ClassId) (O : Nat × va_E → Prop) (b L : Nat) (xs : Nat → Int32) (wc : va_W) (sz : Nat) (U : State) : Prop := prq D cy O wc sz U ∧ va_X b L xs U U.heap ∧ b < U.heap.size ∧ ¬ va_A wc sz b
theorem prqX_blind {D : va_G} {cy : Nat → ClassId} {O : Nat × va_E → Prop} {b L : Nat} {xs : Nat → Int32} {wc : va_W} {sz : Nat} {as : List Value} : FrameBlind (va_Pc as (prqX D cy O b L xs wc sz)) := by
  intro a U g mk q
  obtain ⟨q0, ⟨q1, q2, q3, q4, q5, q6⟩, q7, q8, q9⟩ := q
  exact ⟨q0, ⟨q1, q2, va_K.moved (u := U) (U := U.calling g mk a) (Vm.Alike.refl U.vm) q3, q4, q5, nw.same (u := U) (U := U.calling g mk a) rfl q6⟩, va_X.moved (u := U) (U := U.calling g mk a) (Vm.Alike.refl U.vm) q7, q8, q9⟩
theorem prqX_of {D : va_G} {cy : Nat → ClassId} {O' : Nat × va_E → Prop} {A : Nat → Prop} {s : State} {b L : Nat} {xs : Nat → Int32} {wc : va_W} {as : List Value} {aa : Array Value} {H : Heap} {locs : List Loc} (hXs : va_X b L xs s s.heap) (hbl : b < s.heap.size) (hbA : ¬ A b) (hS : va_S A s.heap H locs) (hF : ∀ q, va_A wc H.size q → A q) (hp : ∀ U : State, U.heap = H → s.WarmedH U.vm → va_Pc as (prq D cy O' wc H.size) aa U) : ∀ U : State, U.heap = H → s.WarmedH U.vm → va_Pc as (prqX D cy O' b L xs wc H.size) aa U := by
  intro U hU hW
  obtain ⟨h1, h2⟩ := hp U hU hW
  exact ⟨h1, h2, (va_X.moved hW.alike hXs).kept (by rw [hU]; exact hS.2.1 b hbl hbA), by rw [hU]; exact Nat.lt_of_lt_of_le hbl hS.1, fun z => hbA (hF b z)⟩
def CiX (l : Launch) (y : MethodName) (wsY : List Cond) (rm : Room) (D : va_G) (cy : Nat → ClassId) (O : Nat × va_E → Prop) (b L : Nat) (xs : Nat → Int32) (as : List Value) (wc : va_W) (mc ms : Nat) (post : Int32 → va_W → Prop) : Prop :=
  ∀ sz, Met l y wsY rm (va_Pc as (prqX D cy O b L xs wc sz)) (va_Qi post (end_ D wc sz) (va_A wc sz)) mc ms (va_A wc sz)
theorem z_metiX {D : va_G} {cy : Nat → ClassId} {O : Nat × va_E → Prop} {cc : ByteArray} {l : Launch} {b L : Nat} {xs : Nat → Int32} {y : MethodName} {wsY ws' : List Cond} {rm : Room} {as : List Value} {wc : va_W} {mc ms maxL : Nat} {ret : Option FieldType} {post : Int32 → va_W → Prop} (hy : plainFor y = true) (hw : wsY = Cond.code y cc maxL ret :: ws') (hW9 : ws' = WALL) (hL : (lg_sl as).length ≤ maxL)
    (body : ∀ p e s m args below meth c, Cx D cy O (va_A wc s.heap.size) cc maxL y.cls p s m args meth c → va_X b L xs s s.heap → b < s.heap.size → ¬ va_A wc s.heap.size b → meth.sig.returnType = ret → meth.name = y.name → Zz D (va_A wc s.heap.size) maxL p l e rm s m args below meth c (MQ below (va_Qi post (end_ D wc s.heap.size) (va_A wc s.heap.size)) args s mc ms (va_A wc s.heap.size)) wc (lv_args 0 as) 0 0 0 []) : CiX l y wsY rm D cy O b L xs as wc mc ms post := by
  intro sz
  refine va_MetF (cc := cc) (maxL := maxL) (ret := ret) hy hw ?_
  intro p e s m args below meth c s₁ B hml hv
  obtain ⟨rfl, ⟨hsz, hP, hK, hD0, hO, hN⟩, hX1, hX2, hX3⟩ := hv
  subst hsz
  rw [lg_entry_eq]
  exact body p e s m as.toArray below meth c ⟨B.exec, B.bytes, hml, findClass_of_methodNamed B.named, fun w h => atoms_spec (ws := wsY) B.pre w (by rw [hw, hW9]; exact List.mem_cons_of_mem _ h), hK, fun q h => Or.inr h, hO, hN, B.notSynchronized⟩ hX1 hX2 hX3 B.returns (name_of_methodNamed B.named B.method).1 s.heap [] _ hP hD0.self va_S.rf (lv_entry as hL)
def CrX (l : Launch) (y : MethodName) (wsY : List Cond) (rm : Room) (D : va_G) (cy : Nat → ClassId) (O : Nat × va_E → Prop) (b L : Nat) (xs : Nat → Int32) (as : List Value) (wc : va_W) (mc ms : Nat) (post : Nat → va_W → Prop) : Prop :=
  ∀ sz, Met l y wsY rm (va_Pc as (prqX D cy O b L xs wc sz)) (va_Qr (fun _ : va_W => True) (fun w a t => post a w ∧ end_ D wc sz w t) (va_A wc sz)) mc ms (va_A wc sz)
theorem z_metrX {D : va_G} {cy : Nat → ClassId} {O : Nat × va_E → Prop} {cc : ByteArray} {l : Launch} {b L : Nat} {xs : Nat → Int32} {y : MethodName} {wsY ws' : List Cond} {rm : Room} {as : List Value} {wc : va_W} {mc ms maxL : Nat} {ret : Option FieldType} {post : Nat → va_W → Prop} (hy : plainFor y = true) (hw : wsY = Cond.code y cc maxL ret :: ws') (hW9 : ws' = WALL) (hL : (lg_sl as).length ≤ maxL)
    (body : ∀ p e s m args below meth c, Cx D cy O (va_A wc s.heap.size) cc maxL y.cls p s m args meth c → va_X b L xs s s.heap → b < s.heap.size → ¬ va_A wc s.heap.size b → meth.sig.returnType = ret → meth.name = y.name → Zz D (va_A wc s.heap.size) maxL p l e rm s m args below meth c (MQ below (va_Qr (fun _ : va_W => True) (fun w a t => post a w ∧ end_ D wc s.heap.size w t) (va_A wc s.heap.size)) args s mc ms (va_A wc s.heap.size)) wc (lv_args 0 as) 0 0 0 []) : CrX l y wsY rm D cy O b L xs as wc mc ms post := by
  intro sz
  refine va_MetF (cc := cc) (maxL := maxL) (ret := ret) hy hw ?_
  intro p e s m args below meth c s₁ B hml hv
  obtain ⟨rfl, ⟨hsz, hP, hK, hD0, hO, hN⟩, hX1, hX2, hX3⟩ := hv
  subst hsz
  rw [lg_entry_eq]
  exact body p e s m as.toArray below meth c ⟨B.exec, B.bytes, hml, findClass_of_methodNamed B.named, fun w h => atoms_spec (ws := wsY) B.pre w (by rw [hw, hW9]; exact List.mem_cons_of_mem _ h), hK, fun q h => Or.inr h, hO, hN, B.notSynchronized⟩ hX1 hX2 hX3 B.returns (name_of_methodNamed B.named B.method).1 s.heap [] _ hP hD0.self va_S.rf (lv_entry as hL)
section CALC4
variable {D : va_G} {cy : Nat → ClassId} {O : Nat × va_E → Prop} {A : Nat → Prop} {cc : ByteArray} {nL : Nat} {own : String} {p : Program} {l : Launch} {e : Env} {R : Room} {s : State} {m : MethodId} {args : Array Value} {below : List Frame} {meth : Method} {c : Code} {Q : State → Prop} {ws wT : va_W} {lv : List (Nat × Value)} {k n pc : Nat} {st : List Value}
theorem z_tl {a b : va_W} (kk : Zz D A nL p l e R s m args below meth c Q ((a ++ b) ++ wT) lv k n pc st) : Zz D A nL p l e R s m args below meth c Q ((a ++ wT) ++ b) lv k n pc st := fun H locs ls hP hD hS hl => kk H locs ls hP.swap hD.swap hS hl
theorem z_retiT (X : Cx D cy O A cc nL own p s m args meth c) {O' : Nat × va_E → Prop} {as : List Value} {wc wr : va_W} {mc ms : Nat} {post : Int32 → va_W → Prop} {rest : List Value} {aa : Array Value}
    (hrun : ∀ (H : Heap) (locs : List Loc) (ls : Array Slot), va_P D vwCl (ws ++ wT) H → va_S A s.heap H locs → lv_has ls nL lv → FrameBlind (va_Pc as (prq D cy O' wc H.size)) → (∀ U : State, U.heap = H → s.WarmedH U.vm → va_Pc as (prq D cy O' wc H.size) as.toArray U) → (∀ q, va_A wc H.size q → A q) → va_Run p l e R s m args below meth c H locs k n mc ms (F0 m pc ls st) rest (va_Qi post (end_ D wc H.size) (va_A wc H.size) aa) (va_A wc H.size))
    (isC isR : List Nat) (hC : isC.map (fun i => ws[i]?) = wc.map some) (hR : isR.map (fun i => ws[i]?) = wr.map some) (hnC : va_nd isC = true) (hnR : va_nd isR = true) (hdis : ∀ i ∈ isR, i ∉ isC) (hO' : ∀ q, O' q → O q ∨ q ∈ wr ++ wT)
    (kk : ∀ (r : Int32) (w : va_W), post r w → Zz D A nL p l e R s m args below meth c Q ((wr ++ w) ++ wT) lv (k + mc) (n + ms) (pc + 3) (.int r :: rest)) : Zz D A nL p l e R s m args below meth c Q (ws ++ wT) lv k n pc st := by
  intro H locs ls hP hD hS hl
  have hC' : isC.map (fun i => (ws ++ wT)[i]?) = wc.map some := by
    rw [← hC]
    refine List.map_congr_left fun i hi => ?_
    have h1 : ws[i]? ∈ wc.map some := by rw [← hC]; exact List.mem_map.mpr ⟨i, hi, rfl⟩
    obtain ⟨q, -, hq⟩ := List.mem_map.mp h1
    rw [List.getElem?_append_left (List.getElem?_eq_some_iff.mp hq.symm).1]
  have hF := va_free (wc := wc) hD hS X.new isC hC'
  have hPc : va_P D vwCl wc H := fun i q hq => by
    have := va_part (pl := wT) isC hC i q (by rw [List.getElem?_append_left (List.getElem?_eq_some_iff.mp hq).1]; exact hq)
    exact hP _ q this
  refine va_calli (hrun H locs ls hP hS hl prq_blind (fun U hU hW => ⟨rfl, by rw [hU], by rw [hU]; exact hPc, va_K.moved hW.alike X.K, (hD.sub isC hnC hC').weaken (fun _ _ _ _ => trivial), fun q hq => ?_, nw.warm hW X.nw⟩) hF) hS (fun q _ h => hF q h) hF (fun r w t H1 locs1 ht hvm hw hB hz1 hk1 hS1 => ?_)
  · rw [hU]
    rcases hO' q hq with h | h
    · have h1 := X.ro h hS 0 q rfl
      exact ⟨h1, fun z => (X.2.2.2.2.2.2.2.1 q h).2 (hF _ z)⟩
    · obtain ⟨i, hi⟩ := List.getElem?_of_mem h
      have h3 := va_part isR hR i q hi
      refine ⟨hP _ q h3, fun z => ?_⟩
      rcases z with ⟨k2, e2, z⟩ | z
      · have h5 := va_part (pl := wT) isC hC k2 (q.1, e2) (by rw [List.getElem?_append_left (List.getElem?_eq_some_iff.mp z).1]; exact z)
        have h6 := hD.1 _ _ q (q.1, e2) h3 h5 rfl
        have hk2 : k2 < wc.length := (List.getElem?_eq_some_iff.mp z).1
        rw [if_pos hk2] at h6
        have hlC : isC.length = wc.length := by have := congrArg List.length hC; simpa using this
        have hlR : isR.length = wr.length := by have := congrArg List.length hR; simpa using this
        have hC9 : k2 < isC.length := by omega
        have hc2 : isC[k2]? = some isC[k2] := List.getElem?_eq_getElem hC9
        rw [hc2] at h6
        have hcw : isC[k2] < ws.length := by
          have h7 : ws[isC[k2]]? ∈ wc.map some := by rw [← hC]; exact List.mem_map.mpr ⟨_, List.getElem_mem hC9, rfl⟩
          obtain ⟨q', -, hq'⟩ := List.mem_map.mp h7
          exact (List.getElem?_eq_some_iff.mp hq'.symm).1
        by_cases hi2 : i < wr.length
        · have hR9 : i < isR.length := by omega
          have e1 : isR[i]? = some isR[i] := List.getElem?_eq_getElem hR9
          rw [if_pos hi2, e1] at h6
          have h8 : isR[i] = isC[k2] := h6
          refine hdis isR[i] (List.getElem_mem hR9) ?_
          rw [h8]; exact List.getElem_mem hC9
        · rw [if_neg hi2] at h6
          have h8 : ws.length + (i - wr.length) = isC[k2] := h6
          omega
      · exact absurd (hP _ q h3).lt (Nat.not_lt.mpr z)
  · have hB' := hB
    obtain ⟨hP1, hD1⟩ := hB'
    rw [ht] at hP1
    obtain ⟨hP2, hD2⟩ := va_joinQ (wr := wr) (w1 := w) (pl := wT) hP hD isC isR hC hR hnR hdis hk1 hF hP1 hD1
    exact kk r w hw H1 locs1 ls hP2 hD2 hS1 hl
theorem z_retlT (X : Cx D cy O A cc nL own p s m args meth c) {O' : Nat × va_E → Prop} {as : List Value} {wc wr : va_W} {mc ms : Nat} {post : Int64 → va_W → Prop} {rest : List Value} {aa : Array Value}
    (hrun : ∀ (H : Heap) (locs : List Loc) (ls : Array Slot), va_P D vwCl (ws ++ wT) H → va_S A s.heap H locs → lv_has ls nL lv → FrameBlind (va_Pc as (prq D cy O' wc H.size)) → (∀ U : State, U.heap = H → s.WarmedH U.vm → va_Pc as (prq D cy O' wc H.size) as.toArray U) → (∀ q, va_A wc H.size q → A q) → va_Run p l e R s m args below meth c H locs k n mc ms (F0 m pc ls st) rest (va_Ql post (end_ D wc H.size) (va_A wc H.size) aa) (va_A wc H.size))
    (isC isR : List Nat) (hC : isC.map (fun i => ws[i]?) = wc.map some) (hR : isR.map (fun i => ws[i]?) = wr.map some) (hnC : va_nd isC = true) (hnR : va_nd isR = true) (hdis : ∀ i ∈ isR, i ∉ isC) (hO' : ∀ q, O' q → O q ∨ q ∈ wr ++ wT)
    (kk : ∀ (r : Int64) (w : va_W), post r w → Zz D A nL p l e R s m args below meth c Q ((wr ++ w) ++ wT) lv (k + mc) (n + ms) (pc + 3) (.long r :: rest)) : Zz D A nL p l e R s m args below meth c Q (ws ++ wT) lv k n pc st := by
  intro H locs ls hP hD hS hl
  have hC' : isC.map (fun i => (ws ++ wT)[i]?) = wc.map some := by
    rw [← hC]
    refine List.map_congr_left fun i hi => ?_
    have h1 : ws[i]? ∈ wc.map some := by rw [← hC]; exact List.mem_map.mpr ⟨i, hi, rfl⟩
    obtain ⟨q, -, hq⟩ := List.mem_map.mp h1
    rw [List.getElem?_append_left (List.getElem?_eq_some_iff.mp hq.symm).1]
  have hF := va_free (wc := wc) hD hS X.new isC hC'
  have hPc : va_P D vwCl wc H := fun i q hq => by
    have := va_part (pl := wT) isC hC i q (by rw [List.getElem?_append_left (List.getElem?_eq_some_iff.mp hq).1]; exact hq)
    exact hP _ q this
  refine va_calll (hrun H locs ls hP hS hl prq_blind (fun U hU hW => ⟨rfl, by rw [hU], by rw [hU]; exact hPc, va_K.moved hW.alike X.K, (hD.sub isC hnC hC').weaken (fun _ _ _ _ => trivial), fun q hq => ?_, nw.warm hW X.nw⟩) hF) hS (fun q _ h => hF q h) hF (fun r w t H1 locs1 ht hvm hw hB hz1 hk1 hS1 => ?_)
  · rw [hU]
    rcases hO' q hq with h | h
    · have h1 := X.ro h hS 0 q rfl
      exact ⟨h1, fun z => (X.2.2.2.2.2.2.2.1 q h).2 (hF _ z)⟩
    · obtain ⟨i, hi⟩ := List.getElem?_of_mem h
      have h3 := va_part isR hR i q hi
      refine ⟨hP _ q h3, fun z => ?_⟩
      rcases z with ⟨k2, e2, z⟩ | z
      · have h5 := va_part (pl := wT) isC hC k2 (q.1, e2) (by rw [List.getElem?_append_left (List.getElem?_eq_some_iff.mp z).1]; exact z)
        have h6 := hD.1 _ _ q (q.1, e2) h3 h5 rfl
        have hk2 : k2 < wc.length := (List.getElem?_eq_some_iff.mp z).1
        rw [if_pos hk2] at h6
        have hlC : isC.length = wc.length := by have := congrArg List.length hC; simpa using this
        have hlR : isR.length = wr.length := by have := congrArg List.length hR; simpa using this
        have hC9 : k2 < isC.length := by omega
        have hc2 : isC[k2]? = some isC[k2] := List.getElem?_eq_getElem hC9
        rw [hc2] at h6
        have hcw : isC[k2] < ws.length := by
          have h7 : ws[isC[k2]]? ∈ wc.map some := by rw [← hC]; exact List.mem_map.mpr ⟨_, List.getElem_mem hC9, rfl⟩
          obtain ⟨q', -, hq'⟩ := List.mem_map.mp h7
          exact (List.getElem?_eq_some_iff.mp hq'.symm).1
        by_cases hi2 : i < wr.length
        · have hR9 : i < isR.length := by omega
          have e1 : isR[i]? = some isR[i] := List.getElem?_eq_getElem hR9
          rw [if_pos hi2, e1] at h6
          have h8 : isR[i] = isC[k2] := h6
          refine hdis isR[i] (List.getElem_mem hR9) ?_
          rw [h8]; exact List.getElem_mem hC9
        · rw [if_neg hi2] at h6
          have h8 : ws.length + (i - wr.length) = isC[k2] := h6
          omega
      · exact absurd (hP _ q h3).lt (Nat.not_lt.mpr z)
  · have hB' := hB
    obtain ⟨hP1, hD1⟩ := hB'
    rw [ht] at hP1
    obtain ⟨hP2, hD2⟩ := va_joinQ (wr := wr) (w1 := w) (pl := wT) hP hD isC isR hC hR hnR hdis hk1 hF hP1 hD1
    exact kk r w hw H1 locs1 ls hP2 hD2 hS1 hl
theorem z_retdT (X : Cx D cy O A cc nL own p s m args meth c) {O' : Nat × va_E → Prop} {as : List Value} {wc wr : va_W} {mc ms : Nat} {post : UInt64 → va_W → Prop} {rest : List Value} {aa : Array Value}
    (hrun : ∀ (H : Heap) (locs : List Loc) (ls : Array Slot), va_P D vwCl (ws ++ wT) H → va_S A s.heap H locs → lv_has ls nL lv → FrameBlind (va_Pc as (prq D cy O' wc H.size)) → (∀ U : State, U.heap = H → s.WarmedH U.vm → va_Pc as (prq D cy O' wc H.size) as.toArray U) → (∀ q, va_A wc H.size q → A q) → va_Run p l e R s m args below meth c H locs k n mc ms (F0 m pc ls st) rest (va_Qd post (end_ D wc H.size) (va_A wc H.size) aa) (va_A wc H.size))
    (isC isR : List Nat) (hC : isC.map (fun i => ws[i]?) = wc.map some) (hR : isR.map (fun i => ws[i]?) = wr.map some) (hnC : va_nd isC = true) (hnR : va_nd isR = true) (hdis : ∀ i ∈ isR, i ∉ isC) (hO' : ∀ q, O' q → O q ∨ q ∈ wr ++ wT)
    (kk : ∀ (r : UInt64) (w : va_W), post r w → Zz D A nL p l e R s m args below meth c Q ((wr ++ w) ++ wT) lv (k + mc) (n + ms) (pc + 3) (.double r :: rest)) : Zz D A nL p l e R s m args below meth c Q (ws ++ wT) lv k n pc st := by
  intro H locs ls hP hD hS hl
  have hC' : isC.map (fun i => (ws ++ wT)[i]?) = wc.map some := by
    rw [← hC]
    refine List.map_congr_left fun i hi => ?_
    have h1 : ws[i]? ∈ wc.map some := by rw [← hC]; exact List.mem_map.mpr ⟨i, hi, rfl⟩
    obtain ⟨q, -, hq⟩ := List.mem_map.mp h1
    rw [List.getElem?_append_left (List.getElem?_eq_some_iff.mp hq.symm).1]
  have hF := va_free (wc := wc) hD hS X.new isC hC'
  have hPc : va_P D vwCl wc H := fun i q hq => by
    have := va_part (pl := wT) isC hC i q (by rw [List.getElem?_append_left (List.getElem?_eq_some_iff.mp hq).1]; exact hq)
    exact hP _ q this
  refine va_calld (hrun H locs ls hP hS hl prq_blind (fun U hU hW => ⟨rfl, by rw [hU], by rw [hU]; exact hPc, va_K.moved hW.alike X.K, (hD.sub isC hnC hC').weaken (fun _ _ _ _ => trivial), fun q hq => ?_, nw.warm hW X.nw⟩) hF) hS (fun q _ h => hF q h) hF (fun r w t H1 locs1 ht hvm hw hB hz1 hk1 hS1 => ?_)
  · rw [hU]
    rcases hO' q hq with h | h
    · have h1 := X.ro h hS 0 q rfl
      exact ⟨h1, fun z => (X.2.2.2.2.2.2.2.1 q h).2 (hF _ z)⟩
    · obtain ⟨i, hi⟩ := List.getElem?_of_mem h
      have h3 := va_part isR hR i q hi
      refine ⟨hP _ q h3, fun z => ?_⟩
      rcases z with ⟨k2, e2, z⟩ | z
      · have h5 := va_part (pl := wT) isC hC k2 (q.1, e2) (by rw [List.getElem?_append_left (List.getElem?_eq_some_iff.mp z).1]; exact z)
        have h6 := hD.1 _ _ q (q.1, e2) h3 h5 rfl
        have hk2 : k2 < wc.length := (List.getElem?_eq_some_iff.mp z).1
        rw [if_pos hk2] at h6
        have hlC : isC.length = wc.length := by have := congrArg List.length hC; simpa using this
        have hlR : isR.length = wr.length := by have := congrArg List.length hR; simpa using this
        have hC9 : k2 < isC.length := by omega
        have hc2 : isC[k2]? = some isC[k2] := List.getElem?_eq_getElem hC9
        rw [hc2] at h6
        have hcw : isC[k2] < ws.length := by
          have h7 : ws[isC[k2]]? ∈ wc.map some := by rw [← hC]; exact List.mem_map.mpr ⟨_, List.getElem_mem hC9, rfl⟩
          obtain ⟨q', -, hq'⟩ := List.mem_map.mp h7
          exact (List.getElem?_eq_some_iff.mp hq'.symm).1
        by_cases hi2 : i < wr.length
        · have hR9 : i < isR.length := by omega
          have e1 : isR[i]? = some isR[i] := List.getElem?_eq_getElem hR9
          rw [if_pos hi2, e1] at h6
          have h8 : isR[i] = isC[k2] := h6
          refine hdis isR[i] (List.getElem_mem hR9) ?_
          rw [h8]; exact List.getElem_mem hC9
        · rw [if_neg hi2] at h6
          have h8 : ws.length + (i - wr.length) = isC[k2] := h6
          omega
      · exact absurd (hP _ q h3).lt (Nat.not_lt.mpr z)
  · have hB' := hB
    obtain ⟨hP1, hD1⟩ := hB'
    rw [ht] at hP1
    obtain ⟨hP2, hD2⟩ := va_joinQ (wr := wr) (w1 := w) (pl := wT) hP hD isC isR hC hR hnR hdis hk1 hF hP1 hD1
    exact kk r w hw H1 locs1 ls hP2 hD2 hS1 hl
theorem z_retvT (X : Cx D cy O A cc nL own p s m args meth c) {O' : Nat × va_E → Prop} {as : List Value} {wc wr : va_W} {mc ms : Nat} {post : va_W → Prop} {rest : List Value} {aa : Array Value}
    (hrun : ∀ (H : Heap) (locs : List Loc) (ls : Array Slot), va_P D vwCl (ws ++ wT) H → va_S A s.heap H locs → lv_has ls nL lv → FrameBlind (va_Pc as (prq D cy O' wc H.size)) → (∀ U : State, U.heap = H → s.WarmedH U.vm → va_Pc as (prq D cy O' wc H.size) as.toArray U) → (∀ q, va_A wc H.size q → A q) → va_Run p l e R s m args below meth c H locs k n mc ms (F0 m pc ls st) rest (va_Qv post (end_ D wc H.size) (va_A wc H.size) aa) (va_A wc H.size))
    (isC isR : List Nat) (hC : isC.map (fun i => ws[i]?) = wc.map some) (hR : isR.map (fun i => ws[i]?) = wr.map some) (hnC : va_nd isC = true) (hnR : va_nd isR = true) (hdis : ∀ i ∈ isR, i ∉ isC) (hO' : ∀ q, O' q → O q ∨ q ∈ wr ++ wT)
    (kk : ∀ (w : va_W), post w → Zz D A nL p l e R s m args below meth c Q ((wr ++ w) ++ wT) lv (k + mc) (n + ms) (pc + 3) rest) : Zz D A nL p l e R s m args below meth c Q (ws ++ wT) lv k n pc st := by
  intro H locs ls hP hD hS hl
  have hC' : isC.map (fun i => (ws ++ wT)[i]?) = wc.map some := by
    rw [← hC]
    refine List.map_congr_left fun i hi => ?_
    have h1 : ws[i]? ∈ wc.map some := by rw [← hC]; exact List.mem_map.mpr ⟨i, hi, rfl⟩
    obtain ⟨q, -, hq⟩ := List.mem_map.mp h1
    rw [List.getElem?_append_left (List.getElem?_eq_some_iff.mp hq.symm).1]
  have hF := va_free (wc := wc) hD hS X.new isC hC'
  have hPc : va_P D vwCl wc H := fun i q hq => by
    have := va_part (pl := wT) isC hC i q (by rw [List.getElem?_append_left (List.getElem?_eq_some_iff.mp hq).1]; exact hq)
    exact hP _ q this
  refine va_callv (hrun H locs ls hP hS hl prq_blind (fun U hU hW => ⟨rfl, by rw [hU], by rw [hU]; exact hPc, va_K.moved hW.alike X.K, (hD.sub isC hnC hC').weaken (fun _ _ _ _ => trivial), fun q hq => ?_, nw.warm hW X.nw⟩) hF) hS (fun q _ h => hF q h) hF (fun w t H1 locs1 ht hvm hw hB hz1 hk1 hS1 => ?_)
  · rw [hU]
    rcases hO' q hq with h | h
    · have h1 := X.ro h hS 0 q rfl
      exact ⟨h1, fun z => (X.2.2.2.2.2.2.2.1 q h).2 (hF _ z)⟩
    · obtain ⟨i, hi⟩ := List.getElem?_of_mem h
      have h3 := va_part isR hR i q hi
      refine ⟨hP _ q h3, fun z => ?_⟩
      rcases z with ⟨k2, e2, z⟩ | z
      · have h5 := va_part (pl := wT) isC hC k2 (q.1, e2) (by rw [List.getElem?_append_left (List.getElem?_eq_some_iff.mp z).1]; exact z)
        have h6 := hD.1 _ _ q (q.1, e2) h3 h5 rfl
        have hk2 : k2 < wc.length := (List.getElem?_eq_some_iff.mp z).1
        rw [if_pos hk2] at h6
        have hlC : isC.length = wc.length := by have := congrArg List.length hC; simpa using this
        have hlR : isR.length = wr.length := by have := congrArg List.length hR; simpa using this
        have hC9 : k2 < isC.length := by omega
        have hc2 : isC[k2]? = some isC[k2] := List.getElem?_eq_getElem hC9
        rw [hc2] at h6
        have hcw : isC[k2] < ws.length := by
          have h7 : ws[isC[k2]]? ∈ wc.map some := by rw [← hC]; exact List.mem_map.mpr ⟨_, List.getElem_mem hC9, rfl⟩
          obtain ⟨q', -, hq'⟩ := List.mem_map.mp h7
          exact (List.getElem?_eq_some_iff.mp hq'.symm).1
        by_cases hi2 : i < wr.length
        · have hR9 : i < isR.length := by omega
          have e1 : isR[i]? = some isR[i] := List.getElem?_eq_getElem hR9
          rw [if_pos hi2, e1] at h6
          have h8 : isR[i] = isC[k2] := h6
          refine hdis isR[i] (List.getElem_mem hR9) ?_
          rw [h8]; exact List.getElem_mem hC9
        · rw [if_neg hi2] at h6
          have h8 : ws.length + (i - wr.length) = isC[k2] := h6
          omega
      · exact absurd (hP _ q h3).lt (Nat.not_lt.mpr z)
  · have hB' := hB
    obtain ⟨hP1, hD1⟩ := hB'
    rw [ht] at hP1
    obtain ⟨hP2, hD2⟩ := va_joinQ (wr := wr) (w1 := w) (pl := wT) hP hD isC isR hC hR hnR hdis hk1 hF hP1 hD1
    exact kk w hw H1 locs1 ls hP2 hD2 hS1 hl
theorem z_retrT (X : Cx D cy O A cc nL own p s m args meth c) {O' : Nat × va_E → Prop} {as : List Value} {wc wr : va_W} {mc ms : Nat} {post : Nat → va_W → Prop} {rest : List Value} {aa : Array Value}
    (hrun : ∀ (H : Heap) (locs : List Loc) (ls : Array Slot), va_P D vwCl (ws ++ wT) H → va_S A s.heap H locs → lv_has ls nL lv → FrameBlind (va_Pc as (prq D cy O' wc H.size)) → (∀ U : State, U.heap = H → s.WarmedH U.vm → va_Pc as (prq D cy O' wc H.size) as.toArray U) → (∀ q, va_A wc H.size q → A q) → va_Run p l e R s m args below meth c H locs k n mc ms (F0 m pc ls st) rest (va_Qr (fun _ : va_W => True) (fun w a t => post a w ∧ end_ D wc H.size w t) (va_A wc H.size) aa) (va_A wc H.size))
    (isC isR : List Nat) (hC : isC.map (fun i => ws[i]?) = wc.map some) (hR : isR.map (fun i => ws[i]?) = wr.map some) (hnC : va_nd isC = true) (hnR : va_nd isR = true) (hdis : ∀ i ∈ isR, i ∉ isC) (hO' : ∀ q, O' q → O q ∨ q ∈ wr ++ wT)
    (kk : ∀ (r : Nat) (w : va_W), post r w → Zz D A nL p l e R s m args below meth c Q ((wr ++ w) ++ wT) lv (k + mc) (n + ms) (pc + 3) (.ref r :: rest)) : Zz D A nL p l e R s m args below meth c Q (ws ++ wT) lv k n pc st := by
  intro H locs ls hP hD hS hl
  have hC' : isC.map (fun i => (ws ++ wT)[i]?) = wc.map some := by
    rw [← hC]
    refine List.map_congr_left fun i hi => ?_
    have h1 : ws[i]? ∈ wc.map some := by rw [← hC]; exact List.mem_map.mpr ⟨i, hi, rfl⟩
    obtain ⟨q, -, hq⟩ := List.mem_map.mp h1
    rw [List.getElem?_append_left (List.getElem?_eq_some_iff.mp hq.symm).1]
  have hF := va_free (wc := wc) hD hS X.new isC hC'
  have hPc : va_P D vwCl wc H := fun i q hq => by
    have := va_part (pl := wT) isC hC i q (by rw [List.getElem?_append_left (List.getElem?_eq_some_iff.mp hq).1]; exact hq)
    exact hP _ q this
  refine va_callr (hrun H locs ls hP hS hl prq_blind (fun U hU hW => ⟨rfl, by rw [hU], by rw [hU]; exact hPc, va_K.moved hW.alike X.K, (hD.sub isC hnC hC').weaken (fun _ _ _ _ => trivial), fun q hq => ?_, nw.warm hW X.nw⟩) hF) hS (fun q _ h => hF q h) hF (fun w r t H1 locs1 ht hvm _ hB hz1 hk1 hS1 => ?_)
  · rw [hU]
    rcases hO' q hq with h | h
    · have h1 := X.ro h hS 0 q rfl
      exact ⟨h1, fun z => (X.2.2.2.2.2.2.2.1 q h).2 (hF _ z)⟩
    · obtain ⟨i, hi⟩ := List.getElem?_of_mem h
      have h3 := va_part isR hR i q hi
      refine ⟨hP _ q h3, fun z => ?_⟩
      rcases z with ⟨k2, e2, z⟩ | z
      · have h5 := va_part (pl := wT) isC hC k2 (q.1, e2) (by rw [List.getElem?_append_left (List.getElem?_eq_some_iff.mp z).1]; exact z)
        have h6 := hD.1 _ _ q (q.1, e2) h3 h5 rfl
        have hk2 : k2 < wc.length := (List.getElem?_eq_some_iff.mp z).1
        rw [if_pos hk2] at h6
        have hlC : isC.length = wc.length := by have := congrArg List.length hC; simpa using this
        have hlR : isR.length = wr.length := by have := congrArg List.length hR; simpa using this
        have hC9 : k2 < isC.length := by omega
        have hc2 : isC[k2]? = some isC[k2] := List.getElem?_eq_getElem hC9
        rw [hc2] at h6
        have hcw : isC[k2] < ws.length := by
          have h7 : ws[isC[k2]]? ∈ wc.map some := by rw [← hC]; exact List.mem_map.mpr ⟨_, List.getElem_mem hC9, rfl⟩
          obtain ⟨q', -, hq'⟩ := List.mem_map.mp h7
          exact (List.getElem?_eq_some_iff.mp hq'.symm).1
        by_cases hi2 : i < wr.length
        · have hR9 : i < isR.length := by omega
          have e1 : isR[i]? = some isR[i] := List.getElem?_eq_getElem hR9
          rw [if_pos hi2, e1] at h6
          have h8 : isR[i] = isC[k2] := h6
          refine hdis isR[i] (List.getElem_mem hR9) ?_
          rw [h8]; exact List.getElem_mem hC9
        · rw [if_neg hi2] at h6
          have h8 : ws.length + (i - wr.length) = isC[k2] := h6
          omega
      · exact absurd (hP _ q h3).lt (Nat.not_lt.mpr z)
  · have hB' := hB.2
    obtain ⟨hP1, hD1⟩ := hB'
    rw [ht] at hP1
    obtain ⟨hP2, hD2⟩ := va_joinQ (wr := wr) (w1 := w) (pl := wT) hP hD isC isR hC hR hnR hdis hk1 hF hP1 hD1
    exact kk r w hB.1 H1 locs1 ls hP2 hD2 hS1 hl
theorem z_wsT {ws' : va_W} (is : List Nat) (hn : va_nd is = true) (hs : is.map (fun i => ws[i]?) = ws'.map some) (kk : Zz D A nL p l e R s m args below meth c Q (ws' ++ wT) lv k n pc st) : Zz D A nL p l e R s m args below meth c Q (ws ++ wT) lv k n pc st := fun H locs ls hP hD hS hl => kk H locs ls (hP.part is hs) (hD.part is hn hs) hS hl
theorem z_endiW {wc w : va_W} (X : Cx D cy O (va_A wc s.heap.size) cc nL own p s m args meth c) {post : Int32 → va_W → Prop} {r : Int32} (hr : meth.sig.returnType = some .int) (hp : post r w) (hd : decode cc pc = .ok (.ireturn, 1)) : Zz D (va_A wc s.heap.size) nL p l e R s m args below meth c (MQ below (va_Qi post (end_ D wc s.heap.size) (va_A wc s.heap.size)) args s k n (va_A wc s.heap.size)) w lv k n pc [.int r] :=
  fun H locs ls hP hD hS hl => W.iret X.1 X.2.1 hr (fun t ht hW => ⟨⟨r, w, rfl, hp, ⟨by rw [ht]; exact hP, hD⟩⟩, hS.F ht⟩) hS.2.2 hd X.locks
theorem z_endzW {wc w : va_W} (X : Cx D cy O (va_A wc s.heap.size) cc nL own p s m args meth c) {post : Int32 → va_W → Prop} {r : Int32} (hr : meth.sig.returnType = some .boolean) (hb : r = 0 ∨ r = 1) (hp : post r w) (hd : decode cc pc = .ok (.ireturn, 1)) : Zz D (va_A wc s.heap.size) nL p l e R s m args below meth c (MQ below (va_Qi post (end_ D wc s.heap.size) (va_A wc s.heap.size)) args s k n (va_A wc s.heap.size)) w lv k n pc [.int r] :=
  fun H locs ls hP hD hS hl => W.zret X.1 X.2.1 hr (by rcases hb with rfl | rfl <;> rfl) (fun t ht hW => ⟨⟨r, w, rfl, hp, ⟨by rw [ht]; exact hP, hD⟩⟩, hS.F ht⟩) hS.2.2 hd X.locks
theorem z_endrW {wc w : va_W} (X : Cx D cy O (va_A wc s.heap.size) cc nL own p s m args meth c) {post : Nat → va_W → Prop} {rt : FieldType} (hrt : (∃ n, rt = .object n) ∨ ∃ t, rt = .array t) (hr : meth.sig.returnType = some rt) {r : Nat} (hp : post r w) (hd : decode cc pc = .ok (.areturn, 1)) : Zz D (va_A wc s.heap.size) nL p l e R s m args below meth c (MQ below (va_Qr (fun _ : va_W => True) (fun w a t => post a w ∧ end_ D wc s.heap.size w t) (va_A wc s.heap.size)) args s k n (va_A wc s.heap.size)) w lv k n pc [.ref r] :=
  fun H locs ls hP hD hS hl => W.aret X.1 X.2.1 hr hrt (Or.inr ⟨r, rfl⟩) (fun t ht hW => ⟨⟨w, r, rfl, trivial, hp, ⟨by rw [ht]; exact hP, hD⟩⟩, hS.F ht⟩) hS.2.2 hd X.locks
theorem z_endvW {wc w : va_W} (X : Cx D cy O (va_A wc s.heap.size) cc nL own p s m args meth c) {post : va_W → Prop} (hr : meth.sig.returnType = none) (hp : post w) (hd : decode cc pc = .ok (.return_, 1)) : Zz D (va_A wc s.heap.size) nL p l e R s m args below meth c (MQ below (va_Qv post (end_ D wc s.heap.size) (va_A wc s.heap.size)) args s k n (va_A wc s.heap.size)) w lv k n pc [] :=
  fun H locs ls hP hD hS hl => W.vret X.1 X.2.1 hr (fun t ht hW => ⟨⟨w, rfl, hp, ⟨by rw [ht]; exact hP, hD⟩⟩, hS.F ht⟩) hS.2.2 hd X.locks
end CALC4
