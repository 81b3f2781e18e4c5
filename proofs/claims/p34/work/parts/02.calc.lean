/-! THE CALCULUS. Zz: 'from every heap that holds the cells ws (apart, all in A; nothing else of A is spoken of), with the locals lv, the machine goes from pc with the stack st to Q'. O: the cells that the method only reads (none of them in A). One row an instruction. -/
def tysG (cy : Nat → ClassId) : List (ClassId × FieldType) := [(cy 0, .int), (cy 1, .boolean), (cy 2, .object RX4), (cy 3, .object RX1), (cy 4, .object RX6), (cy 5, .object RX0), (cy 6, .array .int), (cy 7, .array (.array .int))]
/-- links across a nest, arrays over a class: words that no reader of steady words carries -/
def nwM : List (String × Nat × MethodName × String) := [(RX9, 39, yX2_init, RX9), (RX2, 11, yX5_init, RX9), (RX9, 46, yX8_init, RX9), (RX8, 20, yX5_init, RX9), (RX9, 53, yX3_init, RX9), (RX2, 56, yX9_isIn, RX9), (RX7, 19, yX9_isVariable, RX9), (RX6, 25, yX9_isIn, RX9), (RX3, 71, yX9_isVariable, RX9), (RX3, 40, yX9_isIn, RX9), (RX8, 82, yX9_isIn, RX9), (RX8, 101, yX9_isVariable, RX9), (RL, 17, yX10_init, RL), (RX1, 95, yX9_isIn, RX9)]
def nwA : List String := [RX4, RX1, RX6, RX0]
/-- arrays over arrays -/
def va_AT (t : FieldType) (U : State) : Prop := (Cond.arrayOver (.array t)).before #[] U = true
theorem va_AT.moved {t : FieldType} {u U : State} (hvm : u.vm.Alike U.vm) (h : va_AT t u) : va_AT t U := by
  have h1 : (Cond.arrayOver (.array t)).before #[] (u.setVm U.vm) = true := by rw [Cond.arrayOver_setVmC hvm]; exact h
  simp only [va_AT, Cond.before, Cond.holds, Cond.value, State.vm_setVm] at h1 ⊢
  exact h1
def nwT : List FieldType := [.int, .array .int]
def nw (U : State) : Prop := (∀ q ∈ nwM, va_Nw (.methodLinkNest q.1 q.2.1 q.2.2.1 q.2.2.2) U) ∧ (∀ C ∈ nwA, va_AO C U) ∧ ∀ t ∈ nwT, va_AT t U
theorem nw.warm {s U : State} (hW : s.WarmedH U.vm) (h : nw s) : nw U := ⟨fun q hq => va_Nw.warmM hW (h.1 q hq), fun C hC => va_AO.moved hW.alike (h.2.1 C hC), fun t ht => va_AT.moved hW.alike (h.2.2 t ht)⟩
theorem nw.same {u U : State} (hv : u.vm = U.vm) (h : nw u) : nw U := ⟨fun q hq => va_Nw.same rfl hv (h.1 q hq), fun C hC => va_AO.moved (by rw [hv]; exact Vm.Alike.refl _) (h.2.1 C hC), fun t ht => va_AT.moved (by rw [hv]; exact Vm.Alike.refl _) (h.2.2 t ht)⟩
/-- what a method finds: its own cells wc, the cells that it reads, the tables -/
def prq (D : va_G) (cy : Nat → ClassId) (O : Nat × va_E → Prop) (wc : va_W) (sz : Nat) (U : State) : Prop :=
  U.heap.size = sz ∧ va_P D vwCl wc U.heap ∧ va_K D vwCl (tysG cy) U ∧ va_D (fun _ => True) wc ∧ (∀ q, O q → va_at D vwCl q U.heap ∧ ¬ va_A wc sz q.1) ∧ nw U
/-- .. and leaves: w, its own cells with what it made -/
def end_ (D : va_G) (wc : va_W) (sz : Nat) (w : va_W) (t : State) : Prop := va_P D vwCl w t.heap ∧ va_D (va_A wc sz) w
theorem prq_blind {D : va_G} {cy : Nat → ClassId} {O : Nat × va_E → Prop} {wc : va_W} {sz : Nat} {as : List Value} : FrameBlind (va_Pc as (prq D cy O wc sz)) := by
  intro a U g mk q
  obtain ⟨q0, q1, q2, q3, q4, q5, q6⟩ := q
  exact ⟨q0, q1, q2, va_K.moved (u := U) (U := U.calling g mk a) (Vm.Alike.refl U.vm) q3, q4, q5, nw.same (u := U) (U := U.calling g mk a) rfl q6⟩
/-- contracts: an int (or boolean), a long, a double, nothing, a reference -/
def Ci (l : Launch) (y : MethodName) (wsY : List Cond) (rm : Room) (D : va_G) (cy : Nat → ClassId) (O : Nat × va_E → Prop) (as : List Value) (wc : va_W) (mc ms : Nat) (post : Int32 → va_W → Prop) : Prop :=
  ∀ sz, Met l y wsY rm (va_Pc as (prq D cy O wc sz)) (va_Qi post (end_ D wc sz) (va_A wc sz)) mc ms (va_A wc sz)
def Cl (l : Launch) (y : MethodName) (wsY : List Cond) (rm : Room) (D : va_G) (cy : Nat → ClassId) (O : Nat × va_E → Prop) (as : List Value) (wc : va_W) (mc ms : Nat) (post : Int64 → va_W → Prop) : Prop :=
  ∀ sz, Met l y wsY rm (va_Pc as (prq D cy O wc sz)) (va_Ql post (end_ D wc sz) (va_A wc sz)) mc ms (va_A wc sz)
def Cd (l : Launch) (y : MethodName) (wsY : List Cond) (rm : Room) (D : va_G) (cy : Nat → ClassId) (O : Nat × va_E → Prop) (as : List Value) (wc : va_W) (mc ms : Nat) (post : UInt64 → va_W → Prop) : Prop :=
  ∀ sz, Met l y wsY rm (va_Pc as (prq D cy O wc sz)) (va_Qd post (end_ D wc sz) (va_A wc sz)) mc ms (va_A wc sz)
def Cv (l : Launch) (y : MethodName) (wsY : List Cond) (rm : Room) (D : va_G) (cy : Nat → ClassId) (O : Nat × va_E → Prop) (as : List Value) (wc : va_W) (mc ms : Nat) (post : va_W → Prop) : Prop :=
  ∀ sz, Met l y wsY rm (va_Pc as (prq D cy O wc sz)) (va_Qv post (end_ D wc sz) (va_A wc sz)) mc ms (va_A wc sz)
def Cr (l : Launch) (y : MethodName) (wsY : List Cond) (rm : Room) (D : va_G) (cy : Nat → ClassId) (O : Nat × va_E → Prop) (as : List Value) (wc : va_W) (mc ms : Nat) (post : Nat → va_W → Prop) : Prop :=
  ∀ sz, Met l y wsY rm (va_Pc as (prq D cy O wc sz)) (va_Qr (fun _ : va_W => True) (fun w a t => post a w ∧ end_ D wc sz w t) (va_A wc sz)) mc ms (va_A wc sz)
/-- what stays the same all through a body -/
def Cx (D : va_G) (cy : Nat → ClassId) (O : Nat × va_E → Prop) (A : Nat → Prop) (cc : ByteArray) (nL : Nat) (own : String) (p : Program) (s : State) (m : MethodId) (args : Array Value) (meth : Method) (c : Code) : Prop :=
  p.tables.exec = Jvm.exec ∧ c.code = cc ∧ c.maxLocals = nL ∧ s.vm.findClass own = some m.cls ∧ (∀ w ∈ WALL, w.before args s = true) ∧ va_K D vwCl (tysG cy) s ∧ (∀ q : Nat, s.heap.size ≤ q → A q) ∧ (∀ q, O q → va_at D vwCl q s.heap ∧ ¬ A q.1) ∧ nw s ∧ meth.locks = false
def Zz (D : va_G) (A : Nat → Prop) (nL : Nat) (p : Program) (l : Launch) (e : Env) (R : Room) (s : State) (m : MethodId) (args : Array Value) (below : List Frame) (meth : Method) (c : Code) (Q : State → Prop) (ws : va_W) (lv : List (Nat × Value)) (k n pc : Nat) (st : List Value) : Prop :=
  ∀ (H : Heap) (locs : List Loc) (ls : Array Slot), va_P D vwCl ws H → va_D A ws → va_S A s.heap H locs → lv_has ls nL lv → W p l e R s m args below meth c H locs k n Q (F0 m pc ls st)
section CALC
variable {D : va_G} {cy : Nat → ClassId} {O : Nat × va_E → Prop} {A : Nat → Prop} {cc : ByteArray} {nL : Nat} {own : String} {p : Program} {l : Launch} {e : Env} {R : Room} {s : State} {m : MethodId} {args : Array Value} {below : List Frame} {meth : Method} {c : Code} {Q : State → Prop} {ws : va_W} {lv : List (Nat × Value)} {k n pc : Nat} {st : List Value}
theorem Cx.K (X : Cx D cy O A cc nL own p s m args meth c) : va_K D vwCl (tysG cy) s := X.2.2.2.2.2.1
theorem Cx.hts (X : Cx D cy O A cc nL own p s m args meth c) : ∀ w ∈ WALL, w.before args s = true := X.2.2.2.2.1
theorem Cx.me (X : Cx D cy O A cc nL own p s m args meth c) : s.vm.findClass own = some m.cls := X.2.2.2.1
theorem Cx.new (X : Cx D cy O A cc nL own p s m args meth c) : ∀ q : Nat, s.heap.size ≤ q → A q := X.2.2.2.2.2.2.1
theorem Cx.nw (X : Cx D cy O A cc nL own p s m args meth c) : nw s := X.2.2.2.2.2.2.2.2.1
theorem Cx.locks (X : Cx D cy O A cc nL own p s m args meth c) : meth.locks = false := X.2.2.2.2.2.2.2.2.2
theorem Cx.fix (X : Cx D cy O A cc nL own p s m args meth c) : CallFix p m c cc nL s args WALL own := ⟨X.1, X.2.1, X.2.2.1, X.2.2.2.1, X.2.2.2.2.1⟩
/-- a cell that is only read stands in every later heap, too -/
theorem Cx.ro (X : Cx D cy O A cc nL own p s m args meth c) {q : Nat × va_E} (h : O q) {H : Heap} {locs : List Loc} (hS : va_S A s.heap H locs) : va_P D vwCl [q] H := by
  intro i x hx
  match i, hx with
  | 0, hx =>
    cases hx
    obtain ⟨h1, h2⟩ := X.2.2.2.2.2.2.2.1 q h
    exact h1.kept (hS.2.1 q.1 h1.lt h2)
  | i + 1, hx => simp at hx
theorem z_widen {k' n' : Nat} (h1 : k ≤ k') (h2 : n ≤ n') (kk : Zz D A nL p l e R s m args below meth c Q ws lv k' n' pc st) : Zz D A nL p l e R s m args below meth c Q ws lv k n pc st := fun H locs ls hP hD hS hl => W.widen h1 h2 (kk H locs ls hP hD hS hl)
/-- fewer cells, in any order, by their places -/
theorem z_ws {ws' : va_W} (is : List Nat) (hn : va_nd is = true) (hs : is.map (fun i => ws[i]?) = ws'.map some) (hs2 : is.filterMap (fun i => ws[i]?) = ws') (kk : Zz D A nL p l e R s m args below meth c Q ws' lv k n pc st) : Zz D A nL p l e R s m args below meth c Q ws lv k n pc st := fun H locs ls hP hD hS hl => kk H locs ls (hP.sub is hs2) (hD.sub is hn hs) hS hl
theorem z_lv {lv' : List (Nat × Value)} (is : List Nat) (hs : lv_pick lv is = lv') (kk : Zz D A nL p l e R s m args below meth c Q ws lv' k n pc st) : Zz D A nL p l e R s m args below meth c Q ws lv k n pc st := fun H locs ls hP hD hS hl => kk H locs ls hP hD hS (lv_sub hl is hs)
theorem z_eq {ws' : va_W} {lv' : List (Nat × Value)} {st' : List Value} (h1 : ws = ws') (h2 : lv = lv') (h3 : st = st') (kk : Zz D A nL p l e R s m args below meth c Q ws' lv' k n pc st') : Zz D A nL p l e R s m args below meth c Q ws lv k n pc st := by subst h1 h2 h3; exact kk
/-- a contract out of its body -/
theorem z_meti {y : MethodName} {wsY ws' : List Cond} {rm : Room} {as : List Value} {wc : va_W} {mc ms maxL : Nat} {ret : Option FieldType} {post : Int32 → va_W → Prop} (hy : plainFor y = true) (hw : wsY = Cond.code y cc maxL ret :: ws') (hW9 : ws' = WALL) (hL : (lg_sl as).length ≤ maxL)
    (body : ∀ p e s m args below meth c, Cx D cy O (va_A wc s.heap.size) cc maxL y.cls p s m args meth c → meth.sig.returnType = ret → meth.name = y.name → Zz D (va_A wc s.heap.size) maxL p l e rm s m args below meth c (MQ below (va_Qi post (end_ D wc s.heap.size) (va_A wc s.heap.size)) args s mc ms (va_A wc s.heap.size)) wc (lv_args 0 as) 0 0 0 []) : Ci l y wsY rm D cy O as wc mc ms post := by
  intro sz
  refine va_MetF (cc := cc) (maxL := maxL) (ret := ret) hy hw ?_
  intro p e s m args below meth c s₁ B hml hv
  obtain ⟨rfl, hsz, hP, hK, hD0, hO, hN⟩ := hv
  subst hsz
  rw [lg_entry_eq]
  exact body p e s m as.toArray below meth c ⟨B.exec, B.bytes, hml, findClass_of_methodNamed B.named, fun w h => atoms_spec (ws := wsY) B.pre w (by rw [hw, hW9]; exact List.mem_cons_of_mem _ h), hK, fun q h => Or.inr h, hO, hN, B.notSynchronized⟩ B.returns (name_of_methodNamed B.named B.method).1 s.heap [] _ hP hD0.self va_S.rf (lv_entry as hL)
theorem z_endi {wc : va_W} (X : Cx D cy O (va_A wc s.heap.size) cc nL own p s m args meth c) {post : Int32 → va_W → Prop} (hr : meth.sig.returnType = some .int) {r : Int32} (w : va_W) (is : List Nat) (hn : va_nd is = true) (hs : is.map (fun i => ws[i]?) = w.map some) (hs2 : is.filterMap (fun i => ws[i]?) = w) (hp : post r w) (hd : decode cc pc = .ok (.ireturn, 1)) : Zz D (va_A wc s.heap.size) nL p l e R s m args below meth c (MQ below (va_Qi post (end_ D wc s.heap.size) (va_A wc s.heap.size)) args s k n (va_A wc s.heap.size)) ws lv k n pc [.int r] :=
  fun H locs ls hP hD hS hl => W.iret X.1 X.2.1 hr (fun t ht hW => ⟨⟨r, w, rfl, hp, ⟨by rw [ht]; exact hP.sub is hs2, hD.sub is hn hs⟩⟩, hS.F ht⟩) hS.2.2 hd X.locks
theorem z_endz {wc : va_W} (X : Cx D cy O (va_A wc s.heap.size) cc nL own p s m args meth c) {post : Int32 → va_W → Prop} (hr : meth.sig.returnType = some .boolean) {r : Int32} (hb : r = 0 ∨ r = 1) (w : va_W) (is : List Nat) (hn : va_nd is = true) (hs : is.map (fun i => ws[i]?) = w.map some) (hs2 : is.filterMap (fun i => ws[i]?) = w) (hp : post r w) (hd : decode cc pc = .ok (.ireturn, 1)) : Zz D (va_A wc s.heap.size) nL p l e R s m args below meth c (MQ below (va_Qi post (end_ D wc s.heap.size) (va_A wc s.heap.size)) args s k n (va_A wc s.heap.size)) ws lv k n pc [.int r] :=
  fun H locs ls hP hD hS hl => W.zret X.1 X.2.1 hr (by rcases hb with rfl | rfl <;> rfl) (fun t ht hW => ⟨⟨r, w, rfl, hp, ⟨by rw [ht]; exact hP.sub is hs2, hD.sub is hn hs⟩⟩, hS.F ht⟩) hS.2.2 hd X.locks
theorem z_reti (X : Cx D cy O A cc nL own p s m args meth c) {O' : Nat × va_E → Prop} {as : List Value} {wc wr : va_W} {mc ms : Nat} {post : Int32 → va_W → Prop} {rest : List Value} {aa : Array Value}
    (hrun : ∀ (H : Heap) (locs : List Loc) (ls : Array Slot), va_P D vwCl ws H → va_S A s.heap H locs → lv_has ls nL lv → FrameBlind (va_Pc as (prq D cy O' wc H.size)) → (∀ U : State, U.heap = H → s.WarmedH U.vm → va_Pc as (prq D cy O' wc H.size) as.toArray U) → va_Run p l e R s m args below meth c H locs k n mc ms (F0 m pc ls st) rest (va_Qi post (end_ D wc H.size) (va_A wc H.size) aa) (va_A wc H.size))
    (isC isR : List Nat) (hC : isC.map (fun i => ws[i]?) = wc.map some) (hC2 : isC.filterMap (fun i => ws[i]?) = wc) (hR : isR.map (fun i => ws[i]?) = wr.map some) (hnC : va_nd isC = true) (hnR : va_nd isR = true) (hdis : ∀ i ∈ isR, i ∉ isC) (hO' : ∀ q, O' q → O q ∨ q ∈ wr)
    (kk : ∀ (r : Int32) (w : va_W), post r w → Zz D A nL p l e R s m args below meth c Q (wr ++ w) lv (k + mc) (n + ms) (pc + 3) (.int r :: rest)) : Zz D A nL p l e R s m args below meth c Q ws lv k n pc st := by
  intro H locs ls hP hD hS hl
  have hF := va_free (wc := wc) hD hS X.new isC hC
  refine va_calli (hrun H locs ls hP hS hl prq_blind (fun U hU hW => ⟨rfl, by rw [hU], by rw [hU]; exact hP.sub isC hC2, va_K.moved hW.alike X.K, (hD.sub isC hnC hC).weaken (fun _ _ _ _ => trivial), fun q hq => ?_, nw.warm hW X.nw⟩)) hS (fun q _ h => hF q h) hF (fun r w t H1 locs1 ht hvm hw hB hz1 hk1 hS1 => ?_)
  · rw [hU]
    rcases hO' q hq with h | h
    · have h1 := X.ro h hS 0 q rfl
      exact ⟨h1, fun z => (X.2.2.2.2.2.2.2.1 q h).2 (hF _ z)⟩
    · obtain ⟨i, hi⟩ := List.getElem?_of_mem h
      have h2 : (isR.map (fun i => ws[i]?))[i]? = some (some q) := by rw [hR, List.getElem?_map, hi]; rfl
      rw [List.getElem?_map] at h2
      cases hj : isR[i]? with
      | none => rw [hj] at h2; cases h2
      | some j =>
        rw [hj] at h2
        have h3 : ws[j]? = some q := Option.some.inj h2
        refine ⟨hP j q h3, fun z => ?_⟩
        rcases z with ⟨k2, e2, z⟩ | z
        · have h4 : (isC.map (fun i => ws[i]?))[k2]? = some (some (q.1, e2)) := by rw [hC, List.getElem?_map, z]; rfl
          rw [List.getElem?_map] at h4
          cases hj2 : isC[k2]? with
          | none => rw [hj2] at h4; cases h4
          | some j2 =>
            rw [hj2] at h4
            have h5 : ws[j2]? = some (q.1, e2) := Option.some.inj h4
            have h6 := hD.1 j j2 q (q.1, e2) h3 h5 rfl
            subst h6
            exact hdis j (List.mem_of_getElem? hj) (List.mem_of_getElem? hj2)
        · exact absurd (hP j q h3).lt (Nat.not_lt.mpr z)
  · have hB' := hB
    obtain ⟨hP1, hD1⟩ := hB'
    rw [ht] at hP1
    obtain ⟨hP2, hD2⟩ := va_join (wr := wr) (w1 := w) hP hD isC isR hC hR hnR hdis hk1 hF hP1 hD1
    exact kk r w hw H1 locs1 ls hP2 hD2 hS1 hl
/-- a contract out of its body -/
theorem z_metl {y : MethodName} {wsY ws' : List Cond} {rm : Room} {as : List Value} {wc : va_W} {mc ms maxL : Nat} {ret : Option FieldType} {post : Int64 → va_W → Prop} (hy : plainFor y = true) (hw : wsY = Cond.code y cc maxL ret :: ws') (hW9 : ws' = WALL) (hL : (lg_sl as).length ≤ maxL)
    (body : ∀ p e s m args below meth c, Cx D cy O (va_A wc s.heap.size) cc maxL y.cls p s m args meth c → meth.sig.returnType = ret → meth.name = y.name → Zz D (va_A wc s.heap.size) maxL p l e rm s m args below meth c (MQ below (va_Ql post (end_ D wc s.heap.size) (va_A wc s.heap.size)) args s mc ms (va_A wc s.heap.size)) wc (lv_args 0 as) 0 0 0 []) : Cl l y wsY rm D cy O as wc mc ms post := by
  intro sz
  refine va_MetF (cc := cc) (maxL := maxL) (ret := ret) hy hw ?_
  intro p e s m args below meth c s₁ B hml hv
  obtain ⟨rfl, hsz, hP, hK, hD0, hO, hN⟩ := hv
  subst hsz
  rw [lg_entry_eq]
  exact body p e s m as.toArray below meth c ⟨B.exec, B.bytes, hml, findClass_of_methodNamed B.named, fun w h => atoms_spec (ws := wsY) B.pre w (by rw [hw, hW9]; exact List.mem_cons_of_mem _ h), hK, fun q h => Or.inr h, hO, hN, B.notSynchronized⟩ B.returns (name_of_methodNamed B.named B.method).1 s.heap [] _ hP hD0.self va_S.rf (lv_entry as hL)
theorem z_endl {wc : va_W} (X : Cx D cy O (va_A wc s.heap.size) cc nL own p s m args meth c) {post : Int64 → va_W → Prop} (hr : meth.sig.returnType = some .long) {r : Int64} (w : va_W) (is : List Nat) (hn : va_nd is = true) (hs : is.map (fun i => ws[i]?) = w.map some) (hs2 : is.filterMap (fun i => ws[i]?) = w) (hp : post r w) (hd : decode cc pc = .ok (.lreturn, 1)) : Zz D (va_A wc s.heap.size) nL p l e R s m args below meth c (MQ below (va_Ql post (end_ D wc s.heap.size) (va_A wc s.heap.size)) args s k n (va_A wc s.heap.size)) ws lv k n pc [.long r] :=
  fun H locs ls hP hD hS hl => W.lret X.1 X.2.1 hr (fun t ht hW => ⟨⟨r, w, rfl, hp, ⟨by rw [ht]; exact hP.sub is hs2, hD.sub is hn hs⟩⟩, hS.F ht⟩) hS.2.2 hd X.locks
theorem z_retl (X : Cx D cy O A cc nL own p s m args meth c) {O' : Nat × va_E → Prop} {as : List Value} {wc wr : va_W} {mc ms : Nat} {post : Int64 → va_W → Prop} {rest : List Value} {aa : Array Value}
    (hrun : ∀ (H : Heap) (locs : List Loc) (ls : Array Slot), va_P D vwCl ws H → va_S A s.heap H locs → lv_has ls nL lv → FrameBlind (va_Pc as (prq D cy O' wc H.size)) → (∀ U : State, U.heap = H → s.WarmedH U.vm → va_Pc as (prq D cy O' wc H.size) as.toArray U) → va_Run p l e R s m args below meth c H locs k n mc ms (F0 m pc ls st) rest (va_Ql post (end_ D wc H.size) (va_A wc H.size) aa) (va_A wc H.size))
    (isC isR : List Nat) (hC : isC.map (fun i => ws[i]?) = wc.map some) (hC2 : isC.filterMap (fun i => ws[i]?) = wc) (hR : isR.map (fun i => ws[i]?) = wr.map some) (hnC : va_nd isC = true) (hnR : va_nd isR = true) (hdis : ∀ i ∈ isR, i ∉ isC) (hO' : ∀ q, O' q → O q ∨ q ∈ wr)
    (kk : ∀ (r : Int64) (w : va_W), post r w → Zz D A nL p l e R s m args below meth c Q (wr ++ w) lv (k + mc) (n + ms) (pc + 3) (.long r :: rest)) : Zz D A nL p l e R s m args below meth c Q ws lv k n pc st := by
  intro H locs ls hP hD hS hl
  have hF := va_free (wc := wc) hD hS X.new isC hC
  refine va_calll (hrun H locs ls hP hS hl prq_blind (fun U hU hW => ⟨rfl, by rw [hU], by rw [hU]; exact hP.sub isC hC2, va_K.moved hW.alike X.K, (hD.sub isC hnC hC).weaken (fun _ _ _ _ => trivial), fun q hq => ?_, nw.warm hW X.nw⟩)) hS (fun q _ h => hF q h) hF (fun r w t H1 locs1 ht hvm hw hB hz1 hk1 hS1 => ?_)
  · rw [hU]
    rcases hO' q hq with h | h
    · have h1 := X.ro h hS 0 q rfl
      exact ⟨h1, fun z => (X.2.2.2.2.2.2.2.1 q h).2 (hF _ z)⟩
    · obtain ⟨i, hi⟩ := List.getElem?_of_mem h
      have h2 : (isR.map (fun i => ws[i]?))[i]? = some (some q) := by rw [hR, List.getElem?_map, hi]; rfl
      rw [List.getElem?_map] at h2
      cases hj : isR[i]? with
      | none => rw [hj] at h2; cases h2
      | some j =>
        rw [hj] at h2
        have h3 : ws[j]? = some q := Option.some.inj h2
        refine ⟨hP j q h3, fun z => ?_⟩
        rcases z with ⟨k2, e2, z⟩ | z
        · have h4 : (isC.map (fun i => ws[i]?))[k2]? = some (some (q.1, e2)) := by rw [hC, List.getElem?_map, z]; rfl
          rw [List.getElem?_map] at h4
          cases hj2 : isC[k2]? with
          | none => rw [hj2] at h4; cases h4
          | some j2 =>
            rw [hj2] at h4
            have h5 : ws[j2]? = some (q.1, e2) := Option.some.inj h4
            have h6 := hD.1 j j2 q (q.1, e2) h3 h5 rfl
            subst h6
            exact hdis j (List.mem_of_getElem? hj) (List.mem_of_getElem? hj2)
        · exact absurd (hP j q h3).lt (Nat.not_lt.mpr z)
  · have hB' := hB
    obtain ⟨hP1, hD1⟩ := hB'
    rw [ht] at hP1
    obtain ⟨hP2, hD2⟩ := va_join (wr := wr) (w1 := w) hP hD isC isR hC hR hnR hdis hk1 hF hP1 hD1
    exact kk r w hw H1 locs1 ls hP2 hD2 hS1 hl
/-- a contract out of its body -/
theorem z_metd {y : MethodName} {wsY ws' : List Cond} {rm : Room} {as : List Value} {wc : va_W} {mc ms maxL : Nat} {ret : Option FieldType} {post : UInt64 → va_W → Prop} (hy : plainFor y = true) (hw : wsY = Cond.code y cc maxL ret :: ws') (hW9 : ws' = WALL) (hL : (lg_sl as).length ≤ maxL)
    (body : ∀ p e s m args below meth c, Cx D cy O (va_A wc s.heap.size) cc maxL y.cls p s m args meth c → meth.sig.returnType = ret → meth.name = y.name → Zz D (va_A wc s.heap.size) maxL p l e rm s m args below meth c (MQ below (va_Qd post (end_ D wc s.heap.size) (va_A wc s.heap.size)) args s mc ms (va_A wc s.heap.size)) wc (lv_args 0 as) 0 0 0 []) : Cd l y wsY rm D cy O as wc mc ms post := by
  intro sz
  refine va_MetF (cc := cc) (maxL := maxL) (ret := ret) hy hw ?_
  intro p e s m args below meth c s₁ B hml hv
  obtain ⟨rfl, hsz, hP, hK, hD0, hO, hN⟩ := hv
  subst hsz
  rw [lg_entry_eq]
  exact body p e s m as.toArray below meth c ⟨B.exec, B.bytes, hml, findClass_of_methodNamed B.named, fun w h => atoms_spec (ws := wsY) B.pre w (by rw [hw, hW9]; exact List.mem_cons_of_mem _ h), hK, fun q h => Or.inr h, hO, hN, B.notSynchronized⟩ B.returns (name_of_methodNamed B.named B.method).1 s.heap [] _ hP hD0.self va_S.rf (lv_entry as hL)
theorem z_endd {wc : va_W} (X : Cx D cy O (va_A wc s.heap.size) cc nL own p s m args meth c) {post : UInt64 → va_W → Prop} (hr : meth.sig.returnType = some .double) {r : UInt64} (w : va_W) (is : List Nat) (hn : va_nd is = true) (hs : is.map (fun i => ws[i]?) = w.map some) (hs2 : is.filterMap (fun i => ws[i]?) = w) (hp : post r w) (hd : decode cc pc = .ok (.dreturn, 1)) : Zz D (va_A wc s.heap.size) nL p l e R s m args below meth c (MQ below (va_Qd post (end_ D wc s.heap.size) (va_A wc s.heap.size)) args s k n (va_A wc s.heap.size)) ws lv k n pc [.double r] :=
  fun H locs ls hP hD hS hl => W.dret X.1 X.2.1 hr (fun t ht hW => ⟨⟨r, w, rfl, hp, ⟨by rw [ht]; exact hP.sub is hs2, hD.sub is hn hs⟩⟩, hS.F ht⟩) hS.2.2 hd X.locks
theorem z_retd (X : Cx D cy O A cc nL own p s m args meth c) {O' : Nat × va_E → Prop} {as : List Value} {wc wr : va_W} {mc ms : Nat} {post : UInt64 → va_W → Prop} {rest : List Value} {aa : Array Value}
    (hrun : ∀ (H : Heap) (locs : List Loc) (ls : Array Slot), va_P D vwCl ws H → va_S A s.heap H locs → lv_has ls nL lv → FrameBlind (va_Pc as (prq D cy O' wc H.size)) → (∀ U : State, U.heap = H → s.WarmedH U.vm → va_Pc as (prq D cy O' wc H.size) as.toArray U) → va_Run p l e R s m args below meth c H locs k n mc ms (F0 m pc ls st) rest (va_Qd post (end_ D wc H.size) (va_A wc H.size) aa) (va_A wc H.size))
    (isC isR : List Nat) (hC : isC.map (fun i => ws[i]?) = wc.map some) (hC2 : isC.filterMap (fun i => ws[i]?) = wc) (hR : isR.map (fun i => ws[i]?) = wr.map some) (hnC : va_nd isC = true) (hnR : va_nd isR = true) (hdis : ∀ i ∈ isR, i ∉ isC) (hO' : ∀ q, O' q → O q ∨ q ∈ wr)
    (kk : ∀ (r : UInt64) (w : va_W), post r w → Zz D A nL p l e R s m args below meth c Q (wr ++ w) lv (k + mc) (n + ms) (pc + 3) (.double r :: rest)) : Zz D A nL p l e R s m args below meth c Q ws lv k n pc st := by
  intro H locs ls hP hD hS hl
  have hF := va_free (wc := wc) hD hS X.new isC hC
  refine va_calld (hrun H locs ls hP hS hl prq_blind (fun U hU hW => ⟨rfl, by rw [hU], by rw [hU]; exact hP.sub isC hC2, va_K.moved hW.alike X.K, (hD.sub isC hnC hC).weaken (fun _ _ _ _ => trivial), fun q hq => ?_, nw.warm hW X.nw⟩)) hS (fun q _ h => hF q h) hF (fun r w t H1 locs1 ht hvm hw hB hz1 hk1 hS1 => ?_)
  · rw [hU]
    rcases hO' q hq with h | h
    · have h1 := X.ro h hS 0 q rfl
      exact ⟨h1, fun z => (X.2.2.2.2.2.2.2.1 q h).2 (hF _ z)⟩
    · obtain ⟨i, hi⟩ := List.getElem?_of_mem h
      have h2 : (isR.map (fun i => ws[i]?))[i]? = some (some q) := by rw [hR, List.getElem?_map, hi]; rfl
      rw [List.getElem?_map] at h2
      cases hj : isR[i]? with
      | none => rw [hj] at h2; cases h2
      | some j =>
        rw [hj] at h2
        have h3 : ws[j]? = some q := Option.some.inj h2
        refine ⟨hP j q h3, fun z => ?_⟩
        rcases z with ⟨k2, e2, z⟩ | z
        · have h4 : (isC.map (fun i => ws[i]?))[k2]? = some (some (q.1, e2)) := by rw [hC, List.getElem?_map, z]; rfl
          rw [List.getElem?_map] at h4
          cases hj2 : isC[k2]? with
          | none => rw [hj2] at h4; cases h4
          | some j2 =>
            rw [hj2] at h4
            have h5 : ws[j2]? = some (q.1, e2) := Option.some.inj h4
            have h6 := hD.1 j j2 q (q.1, e2) h3 h5 rfl
            subst h6
            exact hdis j (List.mem_of_getElem? hj) (List.mem_of_getElem? hj2)
        · exact absurd (hP j q h3).lt (Nat.not_lt.mpr z)
  · have hB' := hB
    obtain ⟨hP1, hD1⟩ := hB'
    rw [ht] at hP1
    obtain ⟨hP2, hD2⟩ := va_join (wr := wr) (w1 := w) hP hD isC isR hC hR hnR hdis hk1 hF hP1 hD1
    exact kk r w hw H1 locs1 ls hP2 hD2 hS1 hl
/-- a contract out of its body -/
theorem z_metv {y : MethodName} {wsY ws' : List Cond} {rm : Room} {as : List Value} {wc : va_W} {mc ms maxL : Nat} {ret : Option FieldType} {post : va_W → Prop} (hy : plainFor y = true) (hw : wsY = Cond.code y cc maxL ret :: ws') (hW9 : ws' = WALL) (hL : (lg_sl as).length ≤ maxL)
    (body : ∀ p e s m args below meth c, Cx D cy O (va_A wc s.heap.size) cc maxL y.cls p s m args meth c → meth.sig.returnType = ret → meth.name = y.name → Zz D (va_A wc s.heap.size) maxL p l e rm s m args below meth c (MQ below (va_Qv post (end_ D wc s.heap.size) (va_A wc s.heap.size)) args s mc ms (va_A wc s.heap.size)) wc (lv_args 0 as) 0 0 0 []) : Cv l y wsY rm D cy O as wc mc ms post := by
  intro sz
  refine va_MetF (cc := cc) (maxL := maxL) (ret := ret) hy hw ?_
  intro p e s m args below meth c s₁ B hml hv
  obtain ⟨rfl, hsz, hP, hK, hD0, hO, hN⟩ := hv
  subst hsz
  rw [lg_entry_eq]
  exact body p e s m as.toArray below meth c ⟨B.exec, B.bytes, hml, findClass_of_methodNamed B.named, fun w h => atoms_spec (ws := wsY) B.pre w (by rw [hw, hW9]; exact List.mem_cons_of_mem _ h), hK, fun q h => Or.inr h, hO, hN, B.notSynchronized⟩ B.returns (name_of_methodNamed B.named B.method).1 s.heap [] _ hP hD0.self va_S.rf (lv_entry as hL)
theorem z_endv {wc : va_W} (X : Cx D cy O (va_A wc s.heap.size) cc nL own p s m args meth c) {post : va_W → Prop} (hr : meth.sig.returnType = none) (w : va_W) (is : List Nat) (hn : va_nd is = true) (hs : is.map (fun i => ws[i]?) = w.map some) (hs2 : is.filterMap (fun i => ws[i]?) = w) (hp : post w) (hd : decode cc pc = .ok (.return_, 1)) : Zz D (va_A wc s.heap.size) nL p l e R s m args below meth c (MQ below (va_Qv post (end_ D wc s.heap.size) (va_A wc s.heap.size)) args s k n (va_A wc s.heap.size)) ws lv k n pc [] :=
  fun H locs ls hP hD hS hl => W.vret X.1 X.2.1 hr (fun t ht hW => ⟨⟨w, rfl, hp, ⟨by rw [ht]; exact hP.sub is hs2, hD.sub is hn hs⟩⟩, hS.F ht⟩) hS.2.2 hd X.locks
theorem z_retv (X : Cx D cy O A cc nL own p s m args meth c) {O' : Nat × va_E → Prop} {as : List Value} {wc wr : va_W} {mc ms : Nat} {post : va_W → Prop} {rest : List Value} {aa : Array Value}
    (hrun : ∀ (H : Heap) (locs : List Loc) (ls : Array Slot), va_P D vwCl ws H → va_S A s.heap H locs → lv_has ls nL lv → FrameBlind (va_Pc as (prq D cy O' wc H.size)) → (∀ U : State, U.heap = H → s.WarmedH U.vm → va_Pc as (prq D cy O' wc H.size) as.toArray U) → va_Run p l e R s m args below meth c H locs k n mc ms (F0 m pc ls st) rest (va_Qv post (end_ D wc H.size) (va_A wc H.size) aa) (va_A wc H.size))
    (isC isR : List Nat) (hC : isC.map (fun i => ws[i]?) = wc.map some) (hC2 : isC.filterMap (fun i => ws[i]?) = wc) (hR : isR.map (fun i => ws[i]?) = wr.map some) (hnC : va_nd isC = true) (hnR : va_nd isR = true) (hdis : ∀ i ∈ isR, i ∉ isC) (hO' : ∀ q, O' q → O q ∨ q ∈ wr)
    (kk : ∀ (w : va_W), post w → Zz D A nL p l e R s m args below meth c Q (wr ++ w) lv (k + mc) (n + ms) (pc + 3) rest) : Zz D A nL p l e R s m args below meth c Q ws lv k n pc st := by
  intro H locs ls hP hD hS hl
  have hF := va_free (wc := wc) hD hS X.new isC hC
  refine va_callv (hrun H locs ls hP hS hl prq_blind (fun U hU hW => ⟨rfl, by rw [hU], by rw [hU]; exact hP.sub isC hC2, va_K.moved hW.alike X.K, (hD.sub isC hnC hC).weaken (fun _ _ _ _ => trivial), fun q hq => ?_, nw.warm hW X.nw⟩)) hS (fun q _ h => hF q h) hF (fun w t H1 locs1 ht hvm hw hB hz1 hk1 hS1 => ?_)
  · rw [hU]
    rcases hO' q hq with h | h
    · have h1 := X.ro h hS 0 q rfl
      exact ⟨h1, fun z => (X.2.2.2.2.2.2.2.1 q h).2 (hF _ z)⟩
    · obtain ⟨i, hi⟩ := List.getElem?_of_mem h
      have h2 : (isR.map (fun i => ws[i]?))[i]? = some (some q) := by rw [hR, List.getElem?_map, hi]; rfl
      rw [List.getElem?_map] at h2
      cases hj : isR[i]? with
      | none => rw [hj] at h2; cases h2
      | some j =>
        rw [hj] at h2
        have h3 : ws[j]? = some q := Option.some.inj h2
        refine ⟨hP j q h3, fun z => ?_⟩
        rcases z with ⟨k2, e2, z⟩ | z
        · have h4 : (isC.map (fun i => ws[i]?))[k2]? = some (some (q.1, e2)) := by rw [hC, List.getElem?_map, z]; rfl
          rw [List.getElem?_map] at h4
          cases hj2 : isC[k2]? with
          | none => rw [hj2] at h4; cases h4
          | some j2 =>
            rw [hj2] at h4
            have h5 : ws[j2]? = some (q.1, e2) := Option.some.inj h4
            have h6 := hD.1 j j2 q (q.1, e2) h3 h5 rfl
            subst h6
            exact hdis j (List.mem_of_getElem? hj) (List.mem_of_getElem? hj2)
        · exact absurd (hP j q h3).lt (Nat.not_lt.mpr z)
  · have hB' := hB
    obtain ⟨hP1, hD1⟩ := hB'
    rw [ht] at hP1
    obtain ⟨hP2, hD2⟩ := va_join (wr := wr) (w1 := w) hP hD isC isR hC hR hnR hdis hk1 hF hP1 hD1
    exact kk w hw H1 locs1 ls hP2 hD2 hS1 hl
/-- a contract out of its body -/
theorem z_metr {y : MethodName} {wsY ws' : List Cond} {rm : Room} {as : List Value} {wc : va_W} {mc ms maxL : Nat} {ret : Option FieldType} {post : Nat → va_W → Prop} (hy : plainFor y = true) (hw : wsY = Cond.code y cc maxL ret :: ws') (hW9 : ws' = WALL) (hL : (lg_sl as).length ≤ maxL)
    (body : ∀ p e s m args below meth c, Cx D cy O (va_A wc s.heap.size) cc maxL y.cls p s m args meth c → meth.sig.returnType = ret → meth.name = y.name → Zz D (va_A wc s.heap.size) maxL p l e rm s m args below meth c (MQ below (va_Qr (fun _ : va_W => True) (fun w a t => post a w ∧ end_ D wc s.heap.size w t) (va_A wc s.heap.size)) args s mc ms (va_A wc s.heap.size)) wc (lv_args 0 as) 0 0 0 []) : Cr l y wsY rm D cy O as wc mc ms post := by
  intro sz
  refine va_MetF (cc := cc) (maxL := maxL) (ret := ret) hy hw ?_
  intro p e s m args below meth c s₁ B hml hv
  obtain ⟨rfl, hsz, hP, hK, hD0, hO, hN⟩ := hv
  subst hsz
  rw [lg_entry_eq]
  exact body p e s m as.toArray below meth c ⟨B.exec, B.bytes, hml, findClass_of_methodNamed B.named, fun w h => atoms_spec (ws := wsY) B.pre w (by rw [hw, hW9]; exact List.mem_cons_of_mem _ h), hK, fun q h => Or.inr h, hO, hN, B.notSynchronized⟩ B.returns (name_of_methodNamed B.named B.method).1 s.heap [] _ hP hD0.self va_S.rf (lv_entry as hL)
theorem z_endr {wc : va_W} (X : Cx D cy O (va_A wc s.heap.size) cc nL own p s m args meth c) {post : Nat → va_W → Prop} {rt : FieldType} (hrt : (∃ n, rt = .object n) ∨ ∃ t, rt = .array t) (hr : meth.sig.returnType = some rt) {r : Nat} (w : va_W) (is : List Nat) (hn : va_nd is = true) (hs : is.map (fun i => ws[i]?) = w.map some) (hs2 : is.filterMap (fun i => ws[i]?) = w) (hp : post r w) (hd : decode cc pc = .ok (.areturn, 1)) : Zz D (va_A wc s.heap.size) nL p l e R s m args below meth c (MQ below (va_Qr (fun _ : va_W => True) (fun w a t => post a w ∧ end_ D wc s.heap.size w t) (va_A wc s.heap.size)) args s k n (va_A wc s.heap.size)) ws lv k n pc [.ref r] :=
  fun H locs ls hP hD hS hl => W.aret X.1 X.2.1 hr hrt (Or.inr ⟨r, rfl⟩) (fun t ht hW => ⟨⟨w, r, rfl, trivial, hp, ⟨by rw [ht]; exact hP.sub is hs2, hD.sub is hn hs⟩⟩, hS.F ht⟩) hS.2.2 hd X.locks
theorem z_retr (X : Cx D cy O A cc nL own p s m args meth c) {O' : Nat × va_E → Prop} {as : List Value} {wc wr : va_W} {mc ms : Nat} {post : Nat → va_W → Prop} {rest : List Value} {aa : Array Value}
    (hrun : ∀ (H : Heap) (locs : List Loc) (ls : Array Slot), va_P D vwCl ws H → va_S A s.heap H locs → lv_has ls nL lv → FrameBlind (va_Pc as (prq D cy O' wc H.size)) → (∀ U : State, U.heap = H → s.WarmedH U.vm → va_Pc as (prq D cy O' wc H.size) as.toArray U) → va_Run p l e R s m args below meth c H locs k n mc ms (F0 m pc ls st) rest (va_Qr (fun _ : va_W => True) (fun w a t => post a w ∧ end_ D wc H.size w t) (va_A wc H.size) aa) (va_A wc H.size))
    (isC isR : List Nat) (hC : isC.map (fun i => ws[i]?) = wc.map some) (hC2 : isC.filterMap (fun i => ws[i]?) = wc) (hR : isR.map (fun i => ws[i]?) = wr.map some) (hnC : va_nd isC = true) (hnR : va_nd isR = true) (hdis : ∀ i ∈ isR, i ∉ isC) (hO' : ∀ q, O' q → O q ∨ q ∈ wr)
    (kk : ∀ (r : Nat) (w : va_W), post r w → Zz D A nL p l e R s m args below meth c Q (wr ++ w) lv (k + mc) (n + ms) (pc + 3) (.ref r :: rest)) : Zz D A nL p l e R s m args below meth c Q ws lv k n pc st := by
  intro H locs ls hP hD hS hl
  have hF := va_free (wc := wc) hD hS X.new isC hC
  refine va_callr (hrun H locs ls hP hS hl prq_blind (fun U hU hW => ⟨rfl, by rw [hU], by rw [hU]; exact hP.sub isC hC2, va_K.moved hW.alike X.K, (hD.sub isC hnC hC).weaken (fun _ _ _ _ => trivial), fun q hq => ?_, nw.warm hW X.nw⟩)) hS (fun q _ h => hF q h) hF (fun w r t H1 locs1 ht hvm _ hB hz1 hk1 hS1 => ?_)
  · rw [hU]
    rcases hO' q hq with h | h
    · have h1 := X.ro h hS 0 q rfl
      exact ⟨h1, fun z => (X.2.2.2.2.2.2.2.1 q h).2 (hF _ z)⟩
    · obtain ⟨i, hi⟩ := List.getElem?_of_mem h
      have h2 : (isR.map (fun i => ws[i]?))[i]? = some (some q) := by rw [hR, List.getElem?_map, hi]; rfl
      rw [List.getElem?_map] at h2
      cases hj : isR[i]? with
      | none => rw [hj] at h2; cases h2
      | some j =>
        rw [hj] at h2
        have h3 : ws[j]? = some q := Option.some.inj h2
        refine ⟨hP j q h3, fun z => ?_⟩
        rcases z with ⟨k2, e2, z⟩ | z
        · have h4 : (isC.map (fun i => ws[i]?))[k2]? = some (some (q.1, e2)) := by rw [hC, List.getElem?_map, z]; rfl
          rw [List.getElem?_map] at h4
          cases hj2 : isC[k2]? with
          | none => rw [hj2] at h4; cases h4
          | some j2 =>
            rw [hj2] at h4
            have h5 : ws[j2]? = some (q.1, e2) := Option.some.inj h4
            have h6 := hD.1 j j2 q (q.1, e2) h3 h5 rfl
            subst h6
            exact hdis j (List.mem_of_getElem? hj) (List.mem_of_getElem? hj2)
        · exact absurd (hP j q h3).lt (Nat.not_lt.mpr z)
  · have hB' := hB.2
    obtain ⟨hP1, hD1⟩ := hB'
    rw [ht] at hP1
    obtain ⟨hP2, hD2⟩ := va_join (wr := wr) (w1 := w) hP hD isC isR hC hR hnR hdis hk1 hF hP1 hD1
    exact kk r w hB.1 H1 locs1 ls hP2 hD2 hS1 hl
theorem z_aload_n (X : Cx D cy O A cc nL own p s m args meth c) {kf : Fin 4} {i j : Nat} {x : Nat} (hd : decode cc pc = .ok (.aload_n kf, 1)) (hi : (kf : Nat) = i) (hj : lv[j]? = some (i, .ref x)) (kk : Zz D A nL p l e R s m args below meth c Q ws lv k n (pc + 1) (.ref x :: st)) : Zz D A nL p l e R s m args below meth c Q ws lv k n pc st := fun H locs ls hP hD hS hl => lv_aload_n X.1 X.2.1 hd hi (lv_at hl j hj) (kk H locs ls hP hD hS hl)
theorem z_aload (X : Cx D cy O A cc nL own p s m args meth c) {i j : Nat} {x : Nat} (hd : decode cc pc = .ok (.aload i, 2)) (hj : lv[j]? = some (i, .ref x)) (kk : Zz D A nL p l e R s m args below meth c Q ws lv k n (pc + 2) (.ref x :: st)) : Zz D A nL p l e R s m args below meth c Q ws lv k n pc st := fun H locs ls hP hD hS hl => lv_aload X.1 X.2.1 hd (lv_at hl j hj) (kk H locs ls hP hD hS hl)
theorem z_iload_n (X : Cx D cy O A cc nL own p s m args meth c) {kf : Fin 4} {i j : Nat} {x : Int32} (hd : decode cc pc = .ok (.iload_n kf, 1)) (hi : (kf : Nat) = i) (hj : lv[j]? = some (i, .int x)) (kk : Zz D A nL p l e R s m args below meth c Q ws lv k n (pc + 1) (.int x :: st)) : Zz D A nL p l e R s m args below meth c Q ws lv k n pc st := fun H locs ls hP hD hS hl => lv_iload_n X.1 X.2.1 hd hi (lv_at hl j hj) (kk H locs ls hP hD hS hl)
theorem z_iload (X : Cx D cy O A cc nL own p s m args meth c) {i j : Nat} {x : Int32} (hd : decode cc pc = .ok (.iload i, 2)) (hj : lv[j]? = some (i, .int x)) (kk : Zz D A nL p l e R s m args below meth c Q ws lv k n (pc + 2) (.int x :: st)) : Zz D A nL p l e R s m args below meth c Q ws lv k n pc st := fun H locs ls hP hD hS hl => lv_iload X.1 X.2.1 hd (lv_at hl j hj) (kk H locs ls hP hD hS hl)
theorem z_lload_n (X : Cx D cy O A cc nL own p s m args meth c) {kf : Fin 4} {i j : Nat} {x : Int64} (hd : decode cc pc = .ok (.lload_n kf, 1)) (hi : (kf : Nat) = i) (hj : lv[j]? = some (i, .long x)) (kk : Zz D A nL p l e R s m args below meth c Q ws lv k n (pc + 1) (.long x :: st)) : Zz D A nL p l e R s m args below meth c Q ws lv k n pc st := fun H locs ls hP hD hS hl => lv_lload_n X.1 X.2.1 hd hi (lv_at hl j hj) (kk H locs ls hP hD hS hl)
theorem z_lload (X : Cx D cy O A cc nL own p s m args meth c) {i j : Nat} {x : Int64} (hd : decode cc pc = .ok (.lload i, 2)) (hj : lv[j]? = some (i, .long x)) (kk : Zz D A nL p l e R s m args below meth c Q ws lv k n (pc + 2) (.long x :: st)) : Zz D A nL p l e R s m args below meth c Q ws lv k n pc st := fun H locs ls hP hD hS hl => lv_lload X.1 X.2.1 hd (lv_at hl j hj) (kk H locs ls hP hD hS hl)
theorem z_dload_n (X : Cx D cy O A cc nL own p s m args meth c) {kf : Fin 4} {i j : Nat} {x : UInt64} (hd : decode cc pc = .ok (.dload_n kf, 1)) (hi : (kf : Nat) = i) (hj : lv[j]? = some (i, .double x)) (kk : Zz D A nL p l e R s m args below meth c Q ws lv k n (pc + 1) (.double x :: st)) : Zz D A nL p l e R s m args below meth c Q ws lv k n pc st := fun H locs ls hP hD hS hl => lv_dload_n X.1 X.2.1 hd hi (lv_at hl j hj) (kk H locs ls hP hD hS hl)
theorem z_dload (X : Cx D cy O A cc nL own p s m args meth c) {i j : Nat} {x : UInt64} (hd : decode cc pc = .ok (.dload i, 2)) (hj : lv[j]? = some (i, .double x)) (kk : Zz D A nL p l e R s m args below meth c Q ws lv k n (pc + 2) (.double x :: st)) : Zz D A nL p l e R s m args below meth c Q ws lv k n pc st := fun H locs ls hP hD hS hl => lv_dload X.1 X.2.1 hd (lv_at hl j hj) (kk H locs ls hP hD hS hl)
theorem z_istore_n (X : Cx D cy O A cc nL own p s m args meth c) {kf : Fin 4} {i : Nat} {x : Int32} {lv' : List (Nat × Value)} (hd : decode cc pc = .ok (.istore_n kf, 1)) (hi : (kf : Nat) = i) (hn : i < nL) (hl' : (i, Value.int x) :: lv.filter (fun q => !(q.1 == i) && !(q.1 + 1 == i && q.2.category == 2)) = lv') (kk : Zz D A nL p l e R s m args below meth c Q ws lv' k n (pc + 1) st) : Zz D A nL p l e R s m args below meth c Q ws lv k n pc (.int x :: st) := fun H locs ls hP hD hS hl => lv_istore_n X.1 X.2.1 hd hi hl hn hl' (fun ls' hl2 => kk H locs ls' hP hD hS hl2)
theorem z_istore (X : Cx D cy O A cc nL own p s m args meth c) {i : Nat} {x : Int32} {lv' : List (Nat × Value)} (hd : decode cc pc = .ok (.istore i, 2)) (hn : i < nL) (hl' : (i, Value.int x) :: lv.filter (fun q => !(q.1 == i) && !(q.1 + 1 == i && q.2.category == 2)) = lv') (kk : Zz D A nL p l e R s m args below meth c Q ws lv' k n (pc + 2) st) : Zz D A nL p l e R s m args below meth c Q ws lv k n pc (.int x :: st) := fun H locs ls hP hD hS hl => lv_istore X.1 X.2.1 hd hl hn hl' (fun ls' hl2 => kk H locs ls' hP hD hS hl2)
theorem z_astore_n (X : Cx D cy O A cc nL own p s m args meth c) {kf : Fin 4} {i : Nat} {x : Nat} {lv' : List (Nat × Value)} (hd : decode cc pc = .ok (.astore_n kf, 1)) (hi : (kf : Nat) = i) (hn : i < nL) (hl' : (i, Value.ref x) :: lv.filter (fun q => !(q.1 == i) && !(q.1 + 1 == i && q.2.category == 2)) = lv') (kk : Zz D A nL p l e R s m args below meth c Q ws lv' k n (pc + 1) st) : Zz D A nL p l e R s m args below meth c Q ws lv k n pc (.ref x :: st) := fun H locs ls hP hD hS hl => lv_astore_n X.1 X.2.1 hd hi hl hn hl' (fun ls' hl2 => kk H locs ls' hP hD hS hl2)
theorem z_astore (X : Cx D cy O A cc nL own p s m args meth c) {i : Nat} {x : Nat} {lv' : List (Nat × Value)} (hd : decode cc pc = .ok (.astore i, 2)) (hn : i < nL) (hl' : (i, Value.ref x) :: lv.filter (fun q => !(q.1 == i) && !(q.1 + 1 == i && q.2.category == 2)) = lv') (kk : Zz D A nL p l e R s m args below meth c Q ws lv' k n (pc + 2) st) : Zz D A nL p l e R s m args below meth c Q ws lv k n pc (.ref x :: st) := fun H locs ls hP hD hS hl => lv_astore X.1 X.2.1 hd hl hn hl' (fun ls' hl2 => kk H locs ls' hP hD hS hl2)
theorem z_lstore_n (X : Cx D cy O A cc nL own p s m args meth c) {kf : Fin 4} {i : Nat} {x : Int64} {lv' : List (Nat × Value)} (hd : decode cc pc = .ok (.lstore_n kf, 1)) (hi : (kf : Nat) = i) (hn : i + 1 < nL) (hl' : (i, Value.long x) :: lv.filter (fun q => !(q.1 == i) && (!(q.1 == i + 1) && !(q.1 + 1 == i && q.2.category == 2))) = lv') (kk : Zz D A nL p l e R s m args below meth c Q ws lv' k n (pc + 1) st) : Zz D A nL p l e R s m args below meth c Q ws lv k n pc (.long x :: st) := fun H locs ls hP hD hS hl => lv_lstore_n X.1 X.2.1 hd hi hl hn hl' (fun ls' hl2 => kk H locs ls' hP hD hS hl2)
theorem z_lstore (X : Cx D cy O A cc nL own p s m args meth c) {i : Nat} {x : Int64} {lv' : List (Nat × Value)} (hd : decode cc pc = .ok (.lstore i, 2)) (hn : i + 1 < nL) (hl' : (i, Value.long x) :: lv.filter (fun q => !(q.1 == i) && (!(q.1 == i + 1) && !(q.1 + 1 == i && q.2.category == 2))) = lv') (kk : Zz D A nL p l e R s m args below meth c Q ws lv' k n (pc + 2) st) : Zz D A nL p l e R s m args below meth c Q ws lv k n pc (.long x :: st) := fun H locs ls hP hD hS hl => lv_lstore X.1 X.2.1 hd hl hn hl' (fun ls' hl2 => kk H locs ls' hP hD hS hl2)
theorem z_iinc (X : Cx D cy O A cc nL own p s m args meth c) {i j : Nat} {d : Int} {x v : Int32} {lv' : List (Nat × Value)} (hd : decode cc pc = .ok (.iinc i d, 3)) (hj : lv[j]? = some (i, .int x)) (hv : x + Int32.ofInt d = v) (hn : i < nL) (hl' : (i, Value.int v) :: lv.filter (fun q => !(q.1 == i) && !(q.1 + 1 == i && q.2.category == 2)) = lv') (kk : Zz D A nL p l e R s m args below meth c Q ws lv' k n (pc + 3) st) : Zz D A nL p l e R s m args below meth c Q ws lv k n pc st := fun H locs ls hP hD hS hl => lv_iinc X.1 X.2.1 hd hl hj hv hn hl' (fun ls' hl2 => kk H locs ls' hP hD hS hl2)
theorem z_iconst (X : Cx D cy O A cc nL own p s m args meth c) {i : Int} {v : Int32} (hd : decode cc pc = .ok (.iconst i, 1)) (hv : Int32.ofInt i = v) (kk : Zz D A nL p l e R s m args below meth c Q ws lv k n (pc + 1) (.int v :: st)) : Zz D A nL p l e R s m args below meth c Q ws lv k n pc st := fun H locs ls hP hD hS hl => lv_iconst X.1 X.2.1 hd hv (kk H locs ls hP hD hS hl)
theorem z_bipush (X : Cx D cy O A cc nL own p s m args meth c) {i : Int} {v : Int32} (hd : decode cc pc = .ok (.bipush i, 2)) (hv : (Int8.ofInt i).toInt32 = v) (kk : Zz D A nL p l e R s m args below meth c Q ws lv k n (pc + 2) (.int v :: st)) : Zz D A nL p l e R s m args below meth c Q ws lv k n pc st := fun H locs ls hP hD hS hl => lv_bipush X.1 X.2.1 hd hv (kk H locs ls hP hD hS hl)
theorem z_sipush (X : Cx D cy O A cc nL own p s m args meth c) {i : Int} {v : Int32} (hd : decode cc pc = .ok (.sipush i, 3)) (hv : (Int16.ofInt i).toInt32 = v) (kk : Zz D A nL p l e R s m args below meth c Q ws lv k n (pc + 3) (.int v :: st)) : Zz D A nL p l e R s m args below meth c Q ws lv k n pc st := fun H locs ls hP hD hS hl => lv_sipush X.1 X.2.1 hd hv (kk H locs ls hP hD hS hl)
theorem z_lconst (X : Cx D cy O A cc nL own p s m args meth c) {i : Fin 2} {v : Int64} (hd : decode cc pc = .ok (.lconst i, 1)) (hv : Int64.ofNat (i : Nat) = v) (kk : Zz D A nL p l e R s m args below meth c Q ws lv k n (pc + 1) (.long v :: st)) : Zz D A nL p l e R s m args below meth c Q ws lv k n pc st := fun H locs ls hP hD hS hl => lv_lconst X.1 X.2.1 hd hv (kk H locs ls hP hD hS hl)
theorem z_ldcw (X : Cx D cy O A cc nL own p s m args meth c) {index : Nat} {v : Int32} (hk : Jvm.Cond.constant own index v ∈ WALL) (hd : decode cc pc = .ok (.ldc_w index, 3)) (kk : Zz D A nL p l e R s m args below meth c Q ws lv k n (pc + 3) (.int v :: st)) : Zz D A nL p l e R s m args below meth c Q ws lv k n pc st := fun H locs ls hP hD hS hl => lv_ldcw X.1 X.2.1 X.me (X.hts _ hk) hd (kk H locs ls hP hD hS hl)
theorem z_ldc (X : Cx D cy O A cc nL own p s m args meth c) {index : Nat} {v : Int32} (hk : Jvm.Cond.constant own index v ∈ WALL) (hd : decode cc pc = .ok (.ldc index, 2)) (kk : Zz D A nL p l e R s m args below meth c Q ws lv k n (pc + 2) (.int v :: st)) : Zz D A nL p l e R s m args below meth c Q ws lv k n pc st := fun H locs ls hP hD hS hl => lv_ldc X.1 X.2.1 X.me (X.hts _ hk) hd (kk H locs ls hP hD hS hl)
theorem z_ldc2 (X : Cx D cy O A cc nL own p s m args meth c) {index : Nat} {v : Int64} (hk : Jvm.Cond.constantLong own index v ∈ WALL) (hd : decode cc pc = .ok (.ldc2_w index, 3)) (kk : Zz D A nL p l e R s m args below meth c Q ws lv k n (pc + 3) (.long v :: st)) : Zz D A nL p l e R s m args below meth c Q ws lv k n pc st := fun H locs ls hP hD hS hl => lv_ldc2 X.1 X.2.1 X.me (X.hts _ hk) hd (kk H locs ls hP hD hS hl)
theorem z_dup (X : Cx D cy O A cc nL own p s m args meth c) {v : Value} (hd : decode cc pc = .ok (.dup, 1)) (hc : v.category = 1) (kk : Zz D A nL p l e R s m args below meth c Q ws lv k n (pc + 1) (v :: v :: st)) : Zz D A nL p l e R s m args below meth c Q ws lv k n pc (v :: st) := fun H locs ls hP hD hS hl => lv_dup X.1 X.2.1 hd hc (kk H locs ls hP hD hS hl)
theorem z_pop (X : Cx D cy O A cc nL own p s m args meth c) {v : Value} (hd : decode cc pc = .ok (.pop, 1)) (hc : v.category = 1) (kk : Zz D A nL p l e R s m args below meth c Q ws lv k n (pc + 1) st) : Zz D A nL p l e R s m args below meth c Q ws lv k n pc (v :: st) := fun H locs ls hP hD hS hl => lv_pop X.1 X.2.1 hd hc (kk H locs ls hP hD hS hl)
theorem z_iadd (X : Cx D cy O A cc nL own p s m args meth c) {x y v : Int32} (hd : decode cc pc = .ok (.iadd, 1)) (hv : x + y = v) (kk : Zz D A nL p l e R s m args below meth c Q ws lv k n (pc + 1) (.int v :: st)) : Zz D A nL p l e R s m args below meth c Q ws lv k n pc (.int y :: .int x :: st) := fun H locs ls hP hD hS hl => by subst hv; exact lv_iadd X.1 X.2.1 hd (kk H locs ls hP hD hS hl)
theorem z_isub (X : Cx D cy O A cc nL own p s m args meth c) {x y v : Int32} (hd : decode cc pc = .ok (.isub, 1)) (hv : x - y = v) (kk : Zz D A nL p l e R s m args below meth c Q ws lv k n (pc + 1) (.int v :: st)) : Zz D A nL p l e R s m args below meth c Q ws lv k n pc (.int y :: .int x :: st) := fun H locs ls hP hD hS hl => by subst hv; exact lv_isub X.1 X.2.1 hd (kk H locs ls hP hD hS hl)
theorem z_imul (X : Cx D cy O A cc nL own p s m args meth c) {x y v : Int32} (hd : decode cc pc = .ok (.imul, 1)) (hv : x * y = v) (kk : Zz D A nL p l e R s m args below meth c Q ws lv k n (pc + 1) (.int v :: st)) : Zz D A nL p l e R s m args below meth c Q ws lv k n pc (.int y :: .int x :: st) := fun H locs ls hP hD hS hl => by subst hv; exact lv_imul X.1 X.2.1 hd (kk H locs ls hP hD hS hl)
theorem z_iand (X : Cx D cy O A cc nL own p s m args meth c) {x y v : Int32} (hd : decode cc pc = .ok (.iand, 1)) (hv : x &&& y = v) (kk : Zz D A nL p l e R s m args below meth c Q ws lv k n (pc + 1) (.int v :: st)) : Zz D A nL p l e R s m args below meth c Q ws lv k n pc (.int y :: .int x :: st) := fun H locs ls hP hD hS hl => by subst hv; exact lv_iand X.1 X.2.1 hd (kk H locs ls hP hD hS hl)
theorem z_ior (X : Cx D cy O A cc nL own p s m args meth c) {x y v : Int32} (hd : decode cc pc = .ok (.ior, 1)) (hv : x ||| y = v) (kk : Zz D A nL p l e R s m args below meth c Q ws lv k n (pc + 1) (.int v :: st)) : Zz D A nL p l e R s m args below meth c Q ws lv k n pc (.int y :: .int x :: st) := fun H locs ls hP hD hS hl => by subst hv; exact lv_ior X.1 X.2.1 hd (kk H locs ls hP hD hS hl)
theorem z_ixor (X : Cx D cy O A cc nL own p s m args meth c) {x y v : Int32} (hd : decode cc pc = .ok (.ixor, 1)) (hv : x ^^^ y = v) (kk : Zz D A nL p l e R s m args below meth c Q ws lv k n (pc + 1) (.int v :: st)) : Zz D A nL p l e R s m args below meth c Q ws lv k n pc (.int y :: .int x :: st) := fun H locs ls hP hD hS hl => by subst hv; exact lv_ixor X.1 X.2.1 hd (kk H locs ls hP hD hS hl)
theorem z_ishl (X : Cx D cy O A cc nL own p s m args meth c) {x y v : Int32} (hd : decode cc pc = .ok (.ishl, 1)) (hv : x <<< (y &&& 31) = v) (kk : Zz D A nL p l e R s m args below meth c Q ws lv k n (pc + 1) (.int v :: st)) : Zz D A nL p l e R s m args below meth c Q ws lv k n pc (.int y :: .int x :: st) := fun H locs ls hP hD hS hl => by subst hv; exact lv_ishl X.1 X.2.1 hd (kk H locs ls hP hD hS hl)
theorem z_ishr (X : Cx D cy O A cc nL own p s m args meth c) {x y v : Int32} (hd : decode cc pc = .ok (.ishr, 1)) (hv : x >>> (y &&& 31) = v) (kk : Zz D A nL p l e R s m args below meth c Q ws lv k n (pc + 1) (.int v :: st)) : Zz D A nL p l e R s m args below meth c Q ws lv k n pc (.int y :: .int x :: st) := fun H locs ls hP hD hS hl => by subst hv; exact lv_ishr X.1 X.2.1 hd (kk H locs ls hP hD hS hl)
theorem z_irem (X : Cx D cy O A cc nL own p s m args meth c) {x y v : Int32} (hd : decode cc pc = .ok (.irem, 1)) (hy : ¬ y = 0) (hv : x - x / y * y = v) (kk : Zz D A nL p l e R s m args below meth c Q ws lv k n (pc + 1) (.int v :: st)) : Zz D A nL p l e R s m args below meth c Q ws lv k n pc (.int y :: .int x :: st) := fun H locs ls hP hD hS hl => by subst hv; exact lv_irem X.1 X.2.1 hd hy (kk H locs ls hP hD hS hl)
theorem z_idiv (X : Cx D cy O A cc nL own p s m args meth c) {x y v : Int32} (hd : decode cc pc = .ok (.idiv, 1)) (hy : ¬ y = 0) (hv : x / y = v) (kk : Zz D A nL p l e R s m args below meth c Q ws lv k n (pc + 1) (.int v :: st)) : Zz D A nL p l e R s m args below meth c Q ws lv k n pc (.int y :: .int x :: st) := fun H locs ls hP hD hS hl => by subst hv; exact lv_idiv X.1 X.2.1 hd hy (kk H locs ls hP hD hS hl)
theorem z_ladd (X : Cx D cy O A cc nL own p s m args meth c) {x y v : Int64} (hd : decode cc pc = .ok (.ladd, 1)) (hv : x + y = v) (kk : Zz D A nL p l e R s m args below meth c Q ws lv k n (pc + 1) (.long v :: st)) : Zz D A nL p l e R s m args below meth c Q ws lv k n pc (.long y :: .long x :: st) := fun H locs ls hP hD hS hl => by subst hv; exact lv_ladd X.1 X.2.1 hd (kk H locs ls hP hD hS hl)
theorem z_lsub (X : Cx D cy O A cc nL own p s m args meth c) {x y v : Int64} (hd : decode cc pc = .ok (.lsub, 1)) (hv : x - y = v) (kk : Zz D A nL p l e R s m args below meth c Q ws lv k n (pc + 1) (.long v :: st)) : Zz D A nL p l e R s m args below meth c Q ws lv k n pc (.long y :: .long x :: st) := fun H locs ls hP hD hS hl => by subst hv; exact lv_lsub X.1 X.2.1 hd (kk H locs ls hP hD hS hl)
theorem z_lmul (X : Cx D cy O A cc nL own p s m args meth c) {x y v : Int64} (hd : decode cc pc = .ok (.lmul, 1)) (hv : x * y = v) (kk : Zz D A nL p l e R s m args below meth c Q ws lv k n (pc + 1) (.long v :: st)) : Zz D A nL p l e R s m args below meth c Q ws lv k n pc (.long y :: .long x :: st) := fun H locs ls hP hD hS hl => by subst hv; exact lv_lmul X.1 X.2.1 hd (kk H locs ls hP hD hS hl)
theorem z_land (X : Cx D cy O A cc nL own p s m args meth c) {x y v : Int64} (hd : decode cc pc = .ok (.land, 1)) (hv : x &&& y = v) (kk : Zz D A nL p l e R s m args below meth c Q ws lv k n (pc + 1) (.long v :: st)) : Zz D A nL p l e R s m args below meth c Q ws lv k n pc (.long y :: .long x :: st) := fun H locs ls hP hD hS hl => by subst hv; exact lv_land X.1 X.2.1 hd (kk H locs ls hP hD hS hl)
theorem z_lor (X : Cx D cy O A cc nL own p s m args meth c) {x y v : Int64} (hd : decode cc pc = .ok (.lor, 1)) (hv : x ||| y = v) (kk : Zz D A nL p l e R s m args below meth c Q ws lv k n (pc + 1) (.long v :: st)) : Zz D A nL p l e R s m args below meth c Q ws lv k n pc (.long y :: .long x :: st) := fun H locs ls hP hD hS hl => by subst hv; exact lv_lor X.1 X.2.1 hd (kk H locs ls hP hD hS hl)
theorem z_lxor (X : Cx D cy O A cc nL own p s m args meth c) {x y v : Int64} (hd : decode cc pc = .ok (.lxor, 1)) (hv : x ^^^ y = v) (kk : Zz D A nL p l e R s m args below meth c Q ws lv k n (pc + 1) (.long v :: st)) : Zz D A nL p l e R s m args below meth c Q ws lv k n pc (.long y :: .long x :: st) := fun H locs ls hP hD hS hl => by subst hv; exact lv_lxor X.1 X.2.1 hd (kk H locs ls hP hD hS hl)
theorem z_lcmp (X : Cx D cy O A cc nL own p s m args meth c) {x y : Int64} {v : Int32} (hd : decode cc pc = .ok (.lcmp, 1)) (hv : lg_cmp x y = v) (kk : Zz D A nL p l e R s m args below meth c Q ws lv k n (pc + 1) (.int v :: st)) : Zz D A nL p l e R s m args below meth c Q ws lv k n pc (.long y :: .long x :: st) := fun H locs ls hP hD hS hl => by subst hv; exact W.lcmp X.1 X.2.1 hd (kk H locs ls hP hD hS hl)
theorem z_lushr (X : Cx D cy O A cc nL own p s m args meth c) {x v : Int64} {y : Int32} (hd : decode cc pc = .ok (.lushr, 1)) (hv : (x.toUInt64 >>> (y.toInt64.toUInt64 &&& Int64.toUInt64 63)).toInt64 = v) (kk : Zz D A nL p l e R s m args below meth c Q ws lv k n (pc + 1) (.long v :: st)) : Zz D A nL p l e R s m args below meth c Q ws lv k n pc (.int y :: .long x :: st) := fun H locs ls hP hD hS hl => lv_lushr X.1 X.2.1 hd hv (kk H locs ls hP hD hS hl)
theorem z_lshl (X : Cx D cy O A cc nL own p s m args meth c) {x v : Int64} {y : Int32} (hd : decode cc pc = .ok (.lshl, 1)) (hv : x <<< (y.toInt64 &&& 63) = v) (kk : Zz D A nL p l e R s m args below meth c Q ws lv k n (pc + 1) (.long v :: st)) : Zz D A nL p l e R s m args below meth c Q ws lv k n pc (.int y :: .long x :: st) := fun H locs ls hP hD hS hl => lv_lshl X.1 X.2.1 hd hv (kk H locs ls hP hD hS hl)
theorem z_i2l (X : Cx D cy O A cc nL own p s m args meth c) {x : Int32} {v : Int64} (hd : decode cc pc = .ok (.i2l, 1)) (hv : x.toInt64 = v) (kk : Zz D A nL p l e R s m args below meth c Q ws lv k n (pc + 1) (.long v :: st)) : Zz D A nL p l e R s m args below meth c Q ws lv k n pc (.int x :: st) := fun H locs ls hP hD hS hl => lv_i2l X.1 X.2.1 hd hv (kk H locs ls hP hD hS hl)
theorem z_iushr (X : Cx D cy O A cc nL own p s m args meth c) {x y v : Int32} (hd : decode cc pc = .ok (.iushr, 1)) (hv : (x.toUInt32 >>> (y.toUInt32 &&& Int32.toUInt32 31)).toInt32 = v) (kk : Zz D A nL p l e R s m args below meth c Q ws lv k n (pc + 1) (.int v :: st)) : Zz D A nL p l e R s m args below meth c Q ws lv k n pc (.int y :: .int x :: st) := fun H locs ls hP hD hS hl => lv_iushr X.1 X.2.1 hd hv (kk H locs ls hP hD hS hl)
theorem z_l2i (X : Cx D cy O A cc nL own p s m args meth c) {x : Int64} {v : Int32} (hd : decode cc pc = .ok (.l2i, 1)) (hv : x.toInt32 = v) (kk : Zz D A nL p l e R s m args below meth c Q ws lv k n (pc + 1) (.int v :: st)) : Zz D A nL p l e R s m args below meth c Q ws lv k n pc (.long x :: st) := fun H locs ls hP hD hS hl => lv_l2i X.1 X.2.1 hd hv (kk H locs ls hP hD hS hl)
theorem z_i2d (X : Cx D cy O A cc nL own p s m args meth c) {x : Int32} (hd : decode cc pc = .ok (.i2d, 1)) (kk : Zz D A nL p l e R s m args below meth c Q ws lv k n (pc + 1) (.double (FP.i2d x) :: st)) : Zz D A nL p l e R s m args below meth c Q ws lv k n pc (.int x :: st) := fun H locs ls hP hD hS hl => lv_i2d X.1 X.2.1 hd (kk H locs ls hP hD hS hl)
theorem z_dconst0 (X : Cx D cy O A cc nL own p s m args meth c) (hd : decode cc pc = .ok (.dconst 0, 1)) (kk : Zz D A nL p l e R s m args below meth c Q ws lv k n (pc + 1) (.double 0 :: st)) : Zz D A nL p l e R s m args below meth c Q ws lv k n pc st := fun H locs ls hP hD hS hl => lv_dconst0 X.1 X.2.1 hd (kk H locs ls hP hD hS hl)
theorem z_ddiv (X : Cx D cy O A cc nL own p s m args meth c) {x y : UInt64} (hd : decode cc pc = .ok (.ddiv, 1)) (hne : vf_n64 (FP.ddiv x y)) (kk : Zz D A nL p l e R s m args below meth c Q ws lv k n (pc + 1) (.double (FP.ddiv x y) :: st)) : Zz D A nL p l e R s m args below meth c Q ws lv k n pc (.double y :: .double x :: st) := fun H locs ls hP hD hS hl => lv_ddiv X.1 X.2.1 hd hne (kk H locs ls hP hD hS hl)
theorem z_dcmp (X : Cx D cy O A cc nL own p s m args meth c) {x y : UInt64} {op : CmpOp} (hd : decode cc pc = .ok (.dcmp op, 1)) (kk : Zz D A nL p l e R s m args below meth c Q ws lv k n (pc + 1) (.int (Op.cmpValue (FP.dcmp x y) op) :: st)) : Zz D A nL p l e R s m args below meth c Q ws lv k n pc (.double y :: .double x :: st) := fun H locs ls hP hD hS hl => lv_dcmp X.1 X.2.1 hd (kk H locs ls hP hD hS hl)
theorem z_acmp_eq (X : Cx D cy O A cc nL own p s m args meth c) {a b : Nat} {off : Int} {tgt : Nat} (hd : decode cc pc = .ok (.if_acmp .eq off, 3)) (ht : (pc : Int) + off = (tgt : Int)) (kt : a = b → Zz D A nL p l e R s m args below meth c Q ws lv k n tgt st) (kf : ¬ a = b → Zz D A nL p l e R s m args below meth c Q ws lv k n (pc + 3) st) : Zz D A nL p l e R s m args below meth c Q ws lv k n pc (.ref b :: .ref a :: st) := fun H locs ls hP hD hS hl => lv_acmp_eq (rx := some a) (ry := some b) X.1 X.2.1 hd ht (fun h => kt (Option.some.inj h) H locs ls hP hD hS hl) (fun h => kf (fun z => h (by rw [z])) H locs ls hP hD hS hl)
theorem z_if_eq (X : Cx D cy O A cc nL own p s m args meth c) {x : Int32} {off : Int} {tgt : Nat} (hd : decode cc pc = .ok (.ifCond .eq off, 3)) (ht : (pc : Int) + off = (tgt : Int)) (kt : x = 0 → Zz D A nL p l e R s m args below meth c Q ws lv k n tgt st) (kf : ¬ x = 0 → Zz D A nL p l e R s m args below meth c Q ws lv k n (pc + 3) st) : Zz D A nL p l e R s m args below meth c Q ws lv k n pc (.int x :: st) := fun H locs ls hP hD hS hl => lv_if_eq X.1 X.2.1 hd ht (fun h => kt h H locs ls hP hD hS hl) (fun h => kf h H locs ls hP hD hS hl)
theorem z_icmp_eq (X : Cx D cy O A cc nL own p s m args meth c) {x y : Int32} {off : Int} {tgt : Nat} (hd : decode cc pc = .ok (.if_icmp .eq off, 3)) (ht : (pc : Int) + off = (tgt : Int)) (kt : x = y → Zz D A nL p l e R s m args below meth c Q ws lv k n tgt st) (kf : ¬ x = y → Zz D A nL p l e R s m args below meth c Q ws lv k n (pc + 3) st) : Zz D A nL p l e R s m args below meth c Q ws lv k n pc (.int y :: .int x :: st) := fun H locs ls hP hD hS hl => lv_icmp_eq X.1 X.2.1 hd ht (fun h => kt h H locs ls hP hD hS hl) (fun h => kf h H locs ls hP hD hS hl)
theorem z_if_ne (X : Cx D cy O A cc nL own p s m args meth c) {x : Int32} {off : Int} {tgt : Nat} (hd : decode cc pc = .ok (.ifCond .ne off, 3)) (ht : (pc : Int) + off = (tgt : Int)) (kt : ¬ x = 0 → Zz D A nL p l e R s m args below meth c Q ws lv k n tgt st) (kf : x = 0 → Zz D A nL p l e R s m args below meth c Q ws lv k n (pc + 3) st) : Zz D A nL p l e R s m args below meth c Q ws lv k n pc (.int x :: st) := fun H locs ls hP hD hS hl => lv_if_ne X.1 X.2.1 hd ht (fun h => kt h H locs ls hP hD hS hl) (fun h => kf h H locs ls hP hD hS hl)
theorem z_icmp_ne (X : Cx D cy O A cc nL own p s m args meth c) {x y : Int32} {off : Int} {tgt : Nat} (hd : decode cc pc = .ok (.if_icmp .ne off, 3)) (ht : (pc : Int) + off = (tgt : Int)) (kt : ¬ x = y → Zz D A nL p l e R s m args below meth c Q ws lv k n tgt st) (kf : x = y → Zz D A nL p l e R s m args below meth c Q ws lv k n (pc + 3) st) : Zz D A nL p l e R s m args below meth c Q ws lv k n pc (.int y :: .int x :: st) := fun H locs ls hP hD hS hl => lv_icmp_ne X.1 X.2.1 hd ht (fun h => kt h H locs ls hP hD hS hl) (fun h => kf h H locs ls hP hD hS hl)
theorem z_if_lt (X : Cx D cy O A cc nL own p s m args meth c) {x : Int32} {off : Int} {tgt : Nat} (hd : decode cc pc = .ok (.ifCond .lt off, 3)) (ht : (pc : Int) + off = (tgt : Int)) (kt : x < 0 → Zz D A nL p l e R s m args below meth c Q ws lv k n tgt st) (kf : ¬ x < 0 → Zz D A nL p l e R s m args below meth c Q ws lv k n (pc + 3) st) : Zz D A nL p l e R s m args below meth c Q ws lv k n pc (.int x :: st) := fun H locs ls hP hD hS hl => lv_if_lt X.1 X.2.1 hd ht (fun h => kt h H locs ls hP hD hS hl) (fun h => kf h H locs ls hP hD hS hl)
theorem z_icmp_lt (X : Cx D cy O A cc nL own p s m args meth c) {x y : Int32} {off : Int} {tgt : Nat} (hd : decode cc pc = .ok (.if_icmp .lt off, 3)) (ht : (pc : Int) + off = (tgt : Int)) (kt : x < y → Zz D A nL p l e R s m args below meth c Q ws lv k n tgt st) (kf : ¬ x < y → Zz D A nL p l e R s m args below meth c Q ws lv k n (pc + 3) st) : Zz D A nL p l e R s m args below meth c Q ws lv k n pc (.int y :: .int x :: st) := fun H locs ls hP hD hS hl => lv_icmp_lt X.1 X.2.1 hd ht (fun h => kt h H locs ls hP hD hS hl) (fun h => kf h H locs ls hP hD hS hl)
theorem z_if_ge (X : Cx D cy O A cc nL own p s m args meth c) {x : Int32} {off : Int} {tgt : Nat} (hd : decode cc pc = .ok (.ifCond .ge off, 3)) (ht : (pc : Int) + off = (tgt : Int)) (kt : 0 ≤ x → Zz D A nL p l e R s m args below meth c Q ws lv k n tgt st) (kf : ¬ 0 ≤ x → Zz D A nL p l e R s m args below meth c Q ws lv k n (pc + 3) st) : Zz D A nL p l e R s m args below meth c Q ws lv k n pc (.int x :: st) := fun H locs ls hP hD hS hl => lv_if_ge X.1 X.2.1 hd ht (fun h => kt h H locs ls hP hD hS hl) (fun h => kf h H locs ls hP hD hS hl)
theorem z_icmp_ge (X : Cx D cy O A cc nL own p s m args meth c) {x y : Int32} {off : Int} {tgt : Nat} (hd : decode cc pc = .ok (.if_icmp .ge off, 3)) (ht : (pc : Int) + off = (tgt : Int)) (kt : y ≤ x → Zz D A nL p l e R s m args below meth c Q ws lv k n tgt st) (kf : ¬ y ≤ x → Zz D A nL p l e R s m args below meth c Q ws lv k n (pc + 3) st) : Zz D A nL p l e R s m args below meth c Q ws lv k n pc (.int y :: .int x :: st) := fun H locs ls hP hD hS hl => lv_icmp_ge X.1 X.2.1 hd ht (fun h => kt h H locs ls hP hD hS hl) (fun h => kf h H locs ls hP hD hS hl)
theorem z_if_gt (X : Cx D cy O A cc nL own p s m args meth c) {x : Int32} {off : Int} {tgt : Nat} (hd : decode cc pc = .ok (.ifCond .gt off, 3)) (ht : (pc : Int) + off = (tgt : Int)) (kt : 0 < x → Zz D A nL p l e R s m args below meth c Q ws lv k n tgt st) (kf : ¬ 0 < x → Zz D A nL p l e R s m args below meth c Q ws lv k n (pc + 3) st) : Zz D A nL p l e R s m args below meth c Q ws lv k n pc (.int x :: st) := fun H locs ls hP hD hS hl => lv_if_gt X.1 X.2.1 hd ht (fun h => kt h H locs ls hP hD hS hl) (fun h => kf h H locs ls hP hD hS hl)
theorem z_icmp_gt (X : Cx D cy O A cc nL own p s m args meth c) {x y : Int32} {off : Int} {tgt : Nat} (hd : decode cc pc = .ok (.if_icmp .gt off, 3)) (ht : (pc : Int) + off = (tgt : Int)) (kt : y < x → Zz D A nL p l e R s m args below meth c Q ws lv k n tgt st) (kf : ¬ y < x → Zz D A nL p l e R s m args below meth c Q ws lv k n (pc + 3) st) : Zz D A nL p l e R s m args below meth c Q ws lv k n pc (.int y :: .int x :: st) := fun H locs ls hP hD hS hl => lv_icmp_gt X.1 X.2.1 hd ht (fun h => kt h H locs ls hP hD hS hl) (fun h => kf h H locs ls hP hD hS hl)
theorem z_if_le (X : Cx D cy O A cc nL own p s m args meth c) {x : Int32} {off : Int} {tgt : Nat} (hd : decode cc pc = .ok (.ifCond .le off, 3)) (ht : (pc : Int) + off = (tgt : Int)) (kt : x ≤ 0 → Zz D A nL p l e R s m args below meth c Q ws lv k n tgt st) (kf : ¬ x ≤ 0 → Zz D A nL p l e R s m args below meth c Q ws lv k n (pc + 3) st) : Zz D A nL p l e R s m args below meth c Q ws lv k n pc (.int x :: st) := fun H locs ls hP hD hS hl => lv_if_le X.1 X.2.1 hd ht (fun h => kt h H locs ls hP hD hS hl) (fun h => kf h H locs ls hP hD hS hl)
theorem z_icmp_le (X : Cx D cy O A cc nL own p s m args meth c) {x y : Int32} {off : Int} {tgt : Nat} (hd : decode cc pc = .ok (.if_icmp .le off, 3)) (ht : (pc : Int) + off = (tgt : Int)) (kt : x ≤ y → Zz D A nL p l e R s m args below meth c Q ws lv k n tgt st) (kf : ¬ x ≤ y → Zz D A nL p l e R s m args below meth c Q ws lv k n (pc + 3) st) : Zz D A nL p l e R s m args below meth c Q ws lv k n pc (.int y :: .int x :: st) := fun H locs ls hP hD hS hl => lv_icmp_le X.1 X.2.1 hd ht (fun h => kt h H locs ls hP hD hS hl) (fun h => kf h H locs ls hP hD hS hl)
theorem z_goto (X : Cx D cy O A cc nL own p s m args meth c) {off : Int} {tgt : Nat} (hd : decode cc pc = .ok (.goto off, 3)) (ht : (pc : Int) + off = (tgt : Int)) (kk : Zz D A nL p l e R s m args below meth c Q ws lv k n tgt st) : Zz D A nL p l e R s m args below meth c Q ws lv k n pc st := fun H locs ls hP hD hS hl => lv_goto X.1 X.2.1 hd ht (kk H locs ls hP hD hS hl)
theorem z_tableIn (X : Cx D cy O A cc nL own p s m args meth c) {dflt lo hi : Int} {offs : Array Int} {len : Nat} {x : Int32} {off : Int} {tgt : Nat} (hd : decode cc pc = .ok (.tableswitch dflt lo hi offs, len)) (h1 : ¬ x.toInt < lo) (h2 : ¬ hi < x.toInt) (ho : offs[(x.toInt - lo).toNat]? = some off) (ht : (pc : Int) + off = (tgt : Int)) (kk : Zz D A nL p l e R s m args below meth c Q ws lv k n tgt st) : Zz D A nL p l e R s m args below meth c Q ws lv k n pc (.int x :: st) := fun H locs ls hP hD hS hl => lv_tableIn X.1 X.2.1 hd h1 h2 ho ht (kk H locs ls hP hD hS hl)
theorem z_tableOut (X : Cx D cy O A cc nL own p s m args meth c) {dflt lo hi : Int} {offs : Array Int} {len : Nat} {x : Int32} {tgt : Nat} (hd : decode cc pc = .ok (.tableswitch dflt lo hi offs, len)) (h : x.toInt < lo ∨ hi < x.toInt) (ht : (pc : Int) + dflt = (tgt : Int)) (kk : Zz D A nL p l e R s m args below meth c Q ws lv k n tgt st) : Zz D A nL p l e R s m args below meth c Q ws lv k n pc (.int x :: st) := fun H locs ls hP hD hS hl => lv_tableOut X.1 X.2.1 hd h ht (kk H locs ls hP hD hS hl)
theorem z_ifnullR (X : Cx D cy O A cc nL own p s m args meth c) {x : Nat} {off : Int} (hd : decode cc pc = .ok (.ifnull off, 3)) (kk : Zz D A nL p l e R s m args below meth c Q ws lv k n (pc + 3) st) : Zz D A nL p l e R s m args below meth c Q ws lv k n pc (.ref x :: st) := fun H locs ls hP hD hS hl => lv_ifnull X.1 X.2.1 hd (kk H locs ls hP hD hS hl)
theorem z_ifnonnullR (X : Cx D cy O A cc nL own p s m args meth c) {x : Nat} {off : Int} {tgt : Nat} (hd : decode cc pc = .ok (.ifnonnull off, 3)) (ht : (pc : Int) + off = (tgt : Int)) (kk : Zz D A nL p l e R s m args below meth c Q ws lv k n tgt st) : Zz D A nL p l e R s m args below meth c Q ws lv k n pc (.ref x :: st) := fun H locs ls hP hD hS hl => lv_ifnonnull X.1 X.2.1 hd ht (kk H locs ls hP hD hS hl)
theorem z_null (X : Cx D cy O A cc nL own p s m args meth c) (hd : decode cc pc = .ok (.aconst_null, 1)) (kk : Zz D A nL p l e R s m args below meth c Q ws lv k n (pc + 1) (.null :: st)) : Zz D A nL p l e R s m args below meth c Q ws lv k n pc st := fun H locs ls hP hD hS hl => lv_null X.1 X.2.1 hd (kk H locs ls hP hD hS hl)
theorem z_ifnullN (X : Cx D cy O A cc nL own p s m args meth c) {off : Int} {tgt : Nat} (hd : decode cc pc = .ok (.ifnull off, 3)) (ht : (pc : Int) + off = (tgt : Int)) (kk : Zz D A nL p l e R s m args below meth c Q ws lv k n tgt st) : Zz D A nL p l e R s m args below meth c Q ws lv k n pc (.null :: st) := fun H locs ls hP hD hS hl => lv_ifnullN X.1 X.2.1 hd ht (kk H locs ls hP hD hS hl)
theorem z_ifnonnullN (X : Cx D cy O A cc nL own p s m args meth c) {off : Int} (hd : decode cc pc = .ok (.ifnonnull off, 3)) (kk : Zz D A nL p l e R s m args below meth c Q ws lv k n (pc + 3) st) : Zz D A nL p l e R s m args below meth c Q ws lv k n pc (.null :: st) := fun H locs ls hP hD hS hl => lv_ifnonnullN X.1 X.2.1 hd (kk H locs ls hP hD hS hl)
theorem z_dup2 (X : Cx D cy O A cc nL own p s m args meth c) {v w : Value} (hd : decode cc pc = .ok (.dup2, 1)) (hc : v.category = 1) (hc2 : w.category = 1) (kk : Zz D A nL p l e R s m args below meth c Q ws lv k n (pc + 1) (v :: w :: v :: w :: st)) : Zz D A nL p l e R s m args below meth c Q ws lv k n pc (v :: w :: st) := fun H locs ls hP hD hS hl => lv_dup2_11 X.1 X.2.1 hd hc hc2 (kk H locs ls hP hD hS hl)
theorem z_getO (X : Cx D cy O A cc nL own p s m args meth c) {a ci : Nat} {C ref : String} {T : u_T} {N index : Nat} {fs : List Value} {v : Value} (hin : ∀ w ∈ u_ws C T N, w ∈ WALL) (hO : O (a, .inr (ci, fs))) (hc : vwCl[ci]? = some (C, T, N)) (k0 : Nat) (hk : k0 < N) (hlink : Cond.fieldLink own index ref (T k0).2.1 (T k0).2.2.1 ∈ WALL) (hsame : ∀ x, s.fieldFound? (T k0).1 (T k0).2.1 (T k0).2.2.1 = some x → s.fieldFound? ref (T k0).2.1 (T k0).2.2.1 = some x) (hv : fs[k0]? = some v) (hd : decode cc pc = .ok (.getfield index, 3)) (kk : Zz D A nL p l e R s m args below meth c Q ws lv k n (pc + 3) (v :: st)) : Zz D A nL p l e R s m args below meth c Q ws lv k n pc (.ref a :: st) := fun H locs ls hP hD hS hl => va_get X.1 X.2.1 X.hts hin X.me X.K (X.ro hO hS) 0 rfl hc k0 hk (X.hts _ hlink) hsame hv hd (kk H locs ls hP hD hS hl)
theorem z_getW (X : Cx D cy O A cc nL own p s m args meth c) (q0 : Nat) {a ci : Nat} {C ref : String} {T : u_T} {N index : Nat} {fs : List Value} {v : Value} (hin : ∀ w ∈ u_ws C T N, w ∈ WALL) (he : ws[q0]? = some (a, .inr (ci, fs))) (hc : vwCl[ci]? = some (C, T, N)) (k0 : Nat) (hk : k0 < N) (hlink : Cond.fieldLink own index ref (T k0).2.1 (T k0).2.2.1 ∈ WALL) (hsame : ∀ x, s.fieldFound? (T k0).1 (T k0).2.1 (T k0).2.2.1 = some x → s.fieldFound? ref (T k0).2.1 (T k0).2.2.1 = some x) (hv : fs[k0]? = some v) (hd : decode cc pc = .ok (.getfield index, 3)) (kk : Zz D A nL p l e R s m args below meth c Q ws lv k n (pc + 3) (v :: st)) : Zz D A nL p l e R s m args below meth c Q ws lv k n pc (.ref a :: st) := fun H locs ls hP hD hS hl => va_get X.1 X.2.1 X.hts hin X.me X.K hP q0 he hc k0 hk (X.hts _ hlink) hsame hv hd (kk H locs ls hP hD hS hl)
theorem z_putW (X : Cx D cy O A cc nL own p s m args meth c) (q0 : Nat) {a ci : Nat} {C ref : String} {T : u_T} {N index : Nat} {fs : List Value} {v : Value} (hin : ∀ w ∈ u_ws C T N, w ∈ WALL) (ty0 : Nat → FieldType) (hty : ∀ k, k < N → parseFieldDescriptor (T k).2.2.1 = some (ty0 k)) (hnm : ∀ a, a < N → ∀ b, b < N → a ≠ b → (T a).2.1 ≠ (T b).2.1) (he : ws[q0]? = some (a, .inr (ci, fs))) (hc : vwCl[ci]? = some (C, T, N)) (k0 : Nat) (hk : k0 < N) (hlink : Cond.fieldLink own index ref (T k0).2.1 (T k0).2.2.1 ∈ WALL) (hsame : ∀ x, s.fieldFound? (T k0).1 (T k0).2.1 (T k0).2.2.1 = some x → s.fieldFound? ref (T k0).2.1 (T k0).2.2.1 = some x) (hfin : (T k0).2.2.2 = false) {ty : FieldType} (hty1 : parseFieldDescriptor (T k0).2.2.1 = some ty) (hn : narrow ty v = v) (hfit : fits ty v = true) (hl0 : k0 < fs.length) {ws' : va_W} (hws : ws.set q0 (a, .inr (ci, fs.set k0 v)) = ws') (hd : decode cc pc = .ok (.putfield index, 3)) (kk : Zz D A nL p l e R s m args below meth c Q ws' lv k n (pc + 3) st) : Zz D A nL p l e R s m args below meth c Q ws lv k n pc (v :: .ref a :: st) := fun H locs ls hP hD hS hl => by subst hws; exact va_put X.1 X.2.1 X.hts hin ty0 hty hnm X.me X.K hP hD hS q0 he hc k0 hk (X.hts _ hlink) hsame hfin hty1 hn hfit hl0 hd (fun H1 locs1 hP1 hD1 hS1 => kk H1 locs1 ls hP1 hD1 hS1 hl)
theorem z_putF (X : Cx D cy O A cc nL own p s m args meth c) (q0 : Nat) {a ci : Nat} {C ref : String} {T : u_T} {N index : Nat} {fs : List Value} {v : Value} (hin : ∀ w ∈ u_ws C T N, w ∈ WALL) (ty0 : Nat → FieldType) (hty : ∀ k, k < N → parseFieldDescriptor (T k).2.2.1 = some (ty0 k)) (hnm : ∀ a, a < N → ∀ b, b < N → a ≠ b → (T a).2.1 ≠ (T b).2.1) (he : ws[q0]? = some (a, .inr (ci, fs))) (hc : vwCl[ci]? = some (C, T, N)) (k0 : Nat) (hk : k0 < N) (hlink : Cond.fieldLink own index ref (T k0).2.1 (T k0).2.2.1 ∈ WALL) (hsame : ∀ x, s.fieldFound? (T k0).1 (T k0).2.1 (T k0).2.2.1 = some x → s.fieldFound? ref (T k0).2.1 (T k0).2.2.1 = some x) (hfin : (T k0).2.2.2 = true) (hin2 : meth.name = "<init>") (hdecl : (T k0).1 = own) {ty : FieldType} (hty1 : parseFieldDescriptor (T k0).2.2.1 = some ty) (hn : narrow ty v = v) (hfit : fits ty v = true) (hl0 : k0 < fs.length) {ws' : va_W} (hws : ws.set q0 (a, .inr (ci, fs.set k0 v)) = ws') (hd : decode cc pc = .ok (.putfield index, 3)) (kk : Zz D A nL p l e R s m args below meth c Q ws' lv k n (pc + 3) st) : Zz D A nL p l e R s m args below meth c Q ws lv k n pc (v :: .ref a :: st) := fun H locs ls hP hD hS hl => by subst hws; exact va_putF X.1 X.2.1 X.hts hin ty0 hty hnm X.me X.K hP hD hS q0 he hc k0 hk (X.hts _ hlink) hsame hfin hin2 hdecl hty1 hn hfit hl0 hd (fun H1 locs1 hP1 hD1 hS1 => kk H1 locs1 ls hP1 hD1 hS1 hl)
theorem z_new (X : Cx D cy O A cc nL own p s m args meth c) {ci : Nat} {C : String} {T : u_T} {N index : Nat} {fs : List Value} (hin : ∀ w ∈ u_ws C T N, w ∈ WALL) (ty : Nat → FieldType) (hty : ∀ k, k < N → parseFieldDescriptor (T k).2.2.1 = some (ty k)) (hcl : Cond.classLink own index C ∈ WALL) (hinst : Cond.instantiable C N ∈ WALL) (hini : Cond.initialized C ∈ WALL) (hc : vwCl[ci]? = some (C, T, N)) (hfs : ∀ j, j < N → defaultValue (ty j) = vp_V fs j) (h1 : k + 1 ≤ R.cells) (h2 : n + N ≤ R.slots) (hd : decode cc pc = .ok (.new index, 3)) (kk : ∀ q : Nat, Zz D A nL p l e R s m args below meth c Q (ws ++ [(q, .inr (ci, fs))]) lv (k + 1) (n + N) (pc + 3) (.ref q :: st)) : Zz D A nL p l e R s m args below meth c Q ws lv k n pc st := fun H locs ls hP hD hS hl => va_new X.1 X.2.1 X.hts hin ty hty X.me (X.hts _ hcl) (X.hts _ hinst) (X.hts _ hini) X.K hP hD hS X.new hc hfs h1 h2 hd (fun q H1 hP1 hD1 hS1 => kk q H1 locs ls hP1 hD1 hS1 hl)
theorem z_objInit (X : Cx D cy O A cc nL own p s m args meth c) {idx a : Nat} (hlink : Cond.methodLink own idx Lib.objectInit ∈ WALL) (hinst : Cond.instanceMethod Lib.objectInit ∈ WALL) (hcode : Cond.code Lib.objectInit ⟨#[0xb1]⟩ 1 none ∈ WALL) (hcat : (st.map fun v => v.category).sum + 12 ≤ R.locals) (hfr : 1 ≤ R.frames) (hd : decode cc pc = .ok (.invokespecial idx, 3)) (kk : Zz D A nL p l e R s m args below meth c Q ws lv k n (pc + 3) st) : Zz D A nL p l e R s m args below meth c Q ws lv k n pc (.ref a :: st) := fun H locs ls hP hD hS hl => W.objInit X.1 X.2.1 X.me (X.hts _ hlink) (X.hts _ hinst) (X.hts _ hcode) rfl (hl.1.trans X.2.2.1.symm) rfl hd hfr (by show 2 * (F0 m pc ls st).monitorRoom + _ + 12 ≤ _; have h0 : (F0 m pc ls st).monitorRoom = 0 := rfl; rw [h0]; omega) (kk H locs ls hP hD hS hl)
theorem z_ialdO (X : Cx D cy O A cc nL own p s m args meth c) {N : Nat} {f : Nat → Int32} {a : Nat} (hO : O (a, .inl (cy 0, N, .inl f))) {i v : Int32} (hi : vp_in i N) (hv : f i.toNatClampNeg = v) (hd : decode cc pc = .ok (.iaload, 1)) (kk : Zz D A nL p l e R s m args below meth c Q ws lv k n (pc + 1) (.int v :: st)) : Zz D A nL p l e R s m args below meth c Q ws lv k n pc (.int i :: .ref a :: st) := fun H locs ls hP hD hS hl => by subst hv; exact va_iald X.1 X.2.1 X.K (X.ro hO hS) 0 0 rfl rfl hi hd (kk H locs ls hP hD hS hl)
theorem z_ialdW (X : Cx D cy O A cc nL own p s m args meth c) (q0 : Nat) {N : Nat} {f : Nat → Int32} {a : Nat} (he : ws[q0]? = some (a, .inl (cy 0, N, .inl f))) {i v : Int32} (hi : vp_in i N) (hv : f i.toNatClampNeg = v) (hd : decode cc pc = .ok (.iaload, 1)) (kk : Zz D A nL p l e R s m args below meth c Q ws lv k n (pc + 1) (.int v :: st)) : Zz D A nL p l e R s m args below meth c Q ws lv k n pc (.int i :: .ref a :: st) := fun H locs ls hP hD hS hl => by subst hv; exact va_iald X.1 X.2.1 X.K hP q0 0 he rfl hi hd (kk H locs ls hP hD hS hl)
theorem z_zaldO (X : Cx D cy O A cc nL own p s m args meth c) {N : Nat} {f : Nat → Int32} {a : Nat} (hO : O (a, .inl (cy 1, N, .inl f))) {i v : Int32} (hi : vp_in i N) (hv : f i.toNatClampNeg = v) (hd : decode cc pc = .ok (.baload, 1)) (kk : Zz D A nL p l e R s m args below meth c Q ws lv k n (pc + 1) (.int v :: st)) : Zz D A nL p l e R s m args below meth c Q ws lv k n pc (.int i :: .ref a :: st) := fun H locs ls hP hD hS hl => by subst hv; exact va_zald X.1 X.2.1 X.K (X.ro hO hS) 0 1 rfl rfl hi hd (kk H locs ls hP hD hS hl)
theorem z_zaldW (X : Cx D cy O A cc nL own p s m args meth c) (q0 : Nat) {N : Nat} {f : Nat → Int32} {a : Nat} (he : ws[q0]? = some (a, .inl (cy 1, N, .inl f))) {i v : Int32} (hi : vp_in i N) (hv : f i.toNatClampNeg = v) (hd : decode cc pc = .ok (.baload, 1)) (kk : Zz D A nL p l e R s m args below meth c Q ws lv k n (pc + 1) (.int v :: st)) : Zz D A nL p l e R s m args below meth c Q ws lv k n pc (.int i :: .ref a :: st) := fun H locs ls hP hD hS hl => by subst hv; exact va_zald X.1 X.2.1 X.K hP q0 1 he rfl hi hd (kk H locs ls hP hD hS hl)
theorem z_iastW (X : Cx D cy O A cc nL own p s m args meth c) (q0 : Nat) {N : Nat} {f : Nat → Int32} {a : Nat} (he : ws[q0]? = some (a, .inl (cy 0, N, .inl f))) {i x : Int32} (hi : vp_in i N) {ws' : va_W} (hws : ws.set q0 (a, .inl (cy 0, N, .inl (upd f i.toNatClampNeg x))) = ws') (hd : decode cc pc = .ok (.iastore, 1)) (kk : Zz D A nL p l e R s m args below meth c Q ws' lv k n (pc + 1) st) : Zz D A nL p l e R s m args below meth c Q ws lv k n pc (.int x :: .int i :: .ref a :: st) := fun H locs ls hP hD hS hl => by subst hws; exact va_iast X.1 X.2.1 X.K hP hD hS q0 0 he rfl hi hd (fun H1 locs1 hP1 hD1 hS1 => kk H1 locs1 ls hP1 hD1 hS1 hl)
theorem z_zastW (X : Cx D cy O A cc nL own p s m args meth c) (q0 : Nat) {N : Nat} {f : Nat → Int32} {a : Nat} (he : ws[q0]? = some (a, .inl (cy 1, N, .inl f))) {i x : Int32} (hi : vp_in i N) {ws' : va_W} (hws : ws.set q0 (a, .inl (cy 1, N, .inl (upd f i.toNatClampNeg (vp_nar .boolean x)))) = ws') (hd : decode cc pc = .ok (.bastore, 1)) (kk : Zz D A nL p l e R s m args below meth c Q ws' lv k n (pc + 1) st) : Zz D A nL p l e R s m args below meth c Q ws lv k n pc (.int x :: .int i :: .ref a :: st) := fun H locs ls hP hD hS hl => by subst hws; exact va_zast X.1 X.2.1 X.K hP hD hS q0 1 he rfl hi hd (fun H1 locs1 hP1 hD1 hS1 => kk H1 locs1 ls hP1 hD1 hS1 hl)
theorem z_aaldO (X : Cx D cy O A cc nL own p s m args meth c) {N : Nat} {f : Nat → Option Nat} {a t : Nat} {C : String} (hO : O (a, .inl (cy t, N, .inr (.inr (.inr (.inr f)))))) (ht : (tysG cy)[t]? = some (cy t, .object C)) {i : Int32} {b : Nat} (hi : vp_in i N) (hv : f i.toNatClampNeg = some b) (hd : decode cc pc = .ok (.aaload, 1)) (kk : Zz D A nL p l e R s m args below meth c Q ws lv k n (pc + 1) (.ref b :: st)) : Zz D A nL p l e R s m args below meth c Q ws lv k n pc (.int i :: .ref a :: st) := fun H locs ls hP hD hS hl => va_aldq X.1 X.2.1 X.K (X.ro hO hS) 0 t rfl ht hi hd (by rw [hv]; exact kk H locs ls hP hD hS hl)
theorem z_aaldW (X : Cx D cy O A cc nL own p s m args meth c) (q0 : Nat) {N : Nat} {f : Nat → Option Nat} {a t : Nat} {C : String} (he : ws[q0]? = some (a, .inl (cy t, N, .inr (.inr (.inr (.inr f)))))) (ht : (tysG cy)[t]? = some (cy t, .object C)) {i : Int32} {b : Nat} (hi : vp_in i N) (hv : f i.toNatClampNeg = some b) (hd : decode cc pc = .ok (.aaload, 1)) (kk : Zz D A nL p l e R s m args below meth c Q ws lv k n (pc + 1) (.ref b :: st)) : Zz D A nL p l e R s m args below meth c Q ws lv k n pc (.int i :: .ref a :: st) := fun H locs ls hP hD hS hl => va_aldq X.1 X.2.1 X.K hP q0 t he ht hi hd (by rw [hv]; exact kk H locs ls hP hD hS hl)
theorem z_aastW (X : Cx D cy O A cc nL own p s m args meth c) (q0 qk ci : Nat) {N v : Nat} {f : Nat → Option Nat} {a t : Nat} {r : vw_C} {vs : List Value} (he : ws[q0]? = some (a, .inl (cy t, N, .inr (.inr (.inr (.inr f)))))) (ht : (tysG cy)[t]? = some (cy t, .object r.1)) (hv : ws[qk]? = some (v, .inr (ci, vs))) (hc : vwCl[ci]? = some r) {i : Int32} (hi : vp_in i N) {ws' : va_W} (hws : ws.set q0 (a, .inl (cy t, N, .inr (.inr (.inr (.inr (va_up f i.toNatClampNeg (some v))))))) = ws') (hd : decode cc pc = .ok (.aastore, 1)) (kk : Zz D A nL p l e R s m args below meth c Q ws' lv k n (pc + 1) st) : Zz D A nL p l e R s m args below meth c Q ws lv k n pc (.ref v :: .int i :: .ref a :: st) := fun H locs ls hP hD hS hl => by subst hws; exact va_astq X.1 X.2.1 X.K hP hD hS q0 t qk ci he ht hv hc hi hd (fun H1 locs1 hP1 hD1 hS1 => kk H1 locs1 ls hP1 hD1 hS1 hl)
theorem z_alenO (X : Cx D cy O A cc nL own p s m args meth c) {a t : Nat} {x : vp_A} {ty : FieldType} (hO : O (a, .inl (cy t, x))) (ht : (tysG cy)[t]? = some (cy t, ty)) {v : Int32} (hv : Int32.ofNat x.1 = v) (hd : decode cc pc = .ok (.arraylength, 1)) (kk : Zz D A nL p l e R s m args below meth c Q ws lv k n (pc + 1) (.int v :: st)) : Zz D A nL p l e R s m args below meth c Q ws lv k n pc (.ref a :: st) := fun H locs ls hP hD hS hl => va_alen X.1 X.2.1 X.K (X.ro hO hS) 0 t rfl ht hv hd (kk H locs ls hP hD hS hl)
theorem z_alenW (X : Cx D cy O A cc nL own p s m args meth c) (q0 : Nat) {a t : Nat} {x : vp_A} {ty : FieldType} (he : ws[q0]? = some (a, .inl (cy t, x))) (ht : (tysG cy)[t]? = some (cy t, ty)) {v : Int32} (hv : Int32.ofNat x.1 = v) (hd : decode cc pc = .ok (.arraylength, 1)) (kk : Zz D A nL p l e R s m args below meth c Q ws lv k n (pc + 1) (.int v :: st)) : Zz D A nL p l e R s m args below meth c Q ws lv k n pc (.ref a :: st) := fun H locs ls hP hD hS hl => va_alen X.1 X.2.1 X.K hP q0 t he ht hv hd (kk H locs ls hP hD hS hl)
theorem K_same {cA : ClassId} {ty : FieldType} {t : Nat} (h : va_K D vwCl (tysG cy ++ [(cA, ty)]) s) (ht : (tysG cy)[t]? = some (cy t, ty)) : cA = cy t := by
  have h1 := (h.2 8 (cA, ty) rfl).2
  have h2 := (h.2 t (cy t, ty) (by rw [List.getElem?_append_left (List.getElem?_eq_some_iff.mp ht).1]; exact ht)).2
  cases ty with
  | object C =>
    obtain ⟨_, _, _, _, _, e1⟩ := h1
    obtain ⟨_, _, _, _, _, e2⟩ := h2
    exact Option.some.inj (e1.symm.trans e2)
  | _ => exact Option.some.inj (h1.symm.trans h2)
theorem z_newaI (X : Cx D cy O A cc nL own p s m args meth c) {x : Int32} {N : Nat} (harr : Cond.arrayClass .int ∈ WALL) (h0 : ¬ x < 0) (hN : x.toNatClampNeg = N) (hb : N * 4 ≤ 536870912) (h1 : k + 1 ≤ R.cells) (h2 : n + N ≤ R.slots) (hd : decode cc pc = .ok (.newarray .int, 2)) (kk : ∀ q : Nat, Zz D A nL p l e R s m args below meth c Q (ws ++ [(q, .inl (cy 0, N, .inl (fun _ => 0)))]) lv (k + 1) (n + N) (pc + 2) (.ref q :: st)) : Zz D A nL p l e R s m args below meth c Q ws lv k n pc (.int x :: st) := fun H locs ls hP hD hS hl => va_newa (atype := .int) X.1 X.2.1 (X.hts _ harr) (ty := .int) rfl X.K hP hD hS X.new (a0 := (N, .inl (fun _ => 0))) (fun _ => rfl) h0 hN hb h1 h2 hd (fun q cA H1 hK1 hP1 hD1 hS1 => by rw [K_same (t := 0) hK1 rfl] at hP1 hD1; exact kk q H1 locs ls hP1 hD1 hS1 hl)
theorem z_newaZ (X : Cx D cy O A cc nL own p s m args meth c) {x : Int32} {N : Nat} (harr : Cond.arrayClass .boolean ∈ WALL) (h0 : ¬ x < 0) (hN : x.toNatClampNeg = N) (hb : N * 1 ≤ 536870912) (h1 : k + 1 ≤ R.cells) (h2 : n + N ≤ R.slots) (hd : decode cc pc = .ok (.newarray .boolean, 2)) (kk : ∀ q : Nat, Zz D A nL p l e R s m args below meth c Q (ws ++ [(q, .inl (cy 1, N, .inl (fun _ => 0)))]) lv (k + 1) (n + N) (pc + 2) (.ref q :: st)) : Zz D A nL p l e R s m args below meth c Q ws lv k n pc (.int x :: st) := fun H locs ls hP hD hS hl => va_newa (atype := .boolean) X.1 X.2.1 (X.hts _ harr) (ty := .boolean) rfl X.K hP hD hS X.new (a0 := (N, .inl (fun _ => 0))) (fun _ => rfl) h0 hN hb h1 h2 hd (fun q cA H1 hK1 hP1 hD1 hS1 => by rw [K_same (t := 1) hK1 rfl] at hP1 hD1; exact kk q H1 locs ls hP1 hD1 hS1 hl)
theorem z_newq (X : Cx D cy O A cc nL own p s m args meth c) {x : Int32} {N t index : Nat} {C : String} (hcl : Cond.classLink own index C ∈ WALL) (hA : C ∈ nwA) (ht : (tysG cy)[t]? = some (cy t, .object C)) (h0 : ¬ x < 0) (hN : x.toNatClampNeg = N) (hb : N * 4 ≤ 536870912) (h1 : k + 1 ≤ R.cells) (h2 : n + N ≤ R.slots) (hd : decode cc pc = .ok (.anewarray index, 3)) (kk : ∀ q : Nat, Zz D A nL p l e R s m args below meth c Q (ws ++ [(q, .inl (cy t, N, .inr (.inr (.inr (.inr (fun _ => none))))))]) lv (k + 1) (n + N) (pc + 3) (.ref q :: st)) : Zz D A nL p l e R s m args below meth c Q ws lv k n pc (.int x :: st) := fun H locs ls hP hD hS hl => va_newq X.1 X.2.1 X.me (X.hts _ hcl) (X.nw.2.1 C hA) X.K hP hD hS X.new h0 hN hb h1 h2 hd (fun q cA H1 hK1 hP1 hD1 hS1 => by rw [K_same (t := t) hK1 ht] at hP1 hD1; exact kk q H1 locs ls hP1 hD1 hS1 hl)
theorem z_recvO (X : Cx D cy O A cc nL own p s m args meth c) {a ci : Nat} {r : vw_C} {fs : List Value} {H : Heap} {locs : List Loc} (hO : O (a, .inr (ci, fs))) (hc : vwCl[ci]? = some r) (hS : va_S A s.heap H locs) : ∃ cell : Cell, H[a]? = some cell ∧ cell.vm.isStatics = false ∧ s.vm.findClass r.1 = some cell.cls := va_recv X.K (X.ro hO hS) hc (q0 := 0) rfl
theorem z_recvW (X : Cx D cy O A cc nL own p s m args meth c) {a ci q0 : Nat} {r : vw_C} {fs : List Value} {H : Heap} (he : ws[q0]? = some (a, .inr (ci, fs))) (hc : vwCl[ci]? = some r) (hP : va_P D vwCl ws H) : ∃ cell : Cell, H[a]? = some cell ∧ cell.vm.isStatics = false ∧ s.vm.findClass r.1 = some cell.cls := va_recv X.K hP hc (q0 := q0) he
end CALC
