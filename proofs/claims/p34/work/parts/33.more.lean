/-! more rows of the calculus: doubles, two references, a reference that is only read into a row of references -/
section CALC2
variable {D : va_G} {cy : Nat → ClassId} {O : Nat × va_E → Prop} {A : Nat → Prop} {cc : ByteArray} {nL : Nat} {own : String} {p : Program} {l : Launch} {e : Env} {R : Room} {s : State} {m : MethodId} {args : Array Value} {below : List Frame} {meth : Method} {c : Code} {Q : State → Prop} {ws : va_W} {lv : List (Nat × Value)} {k n pc : Nat} {st : List Value}
theorem z_dconst1 (X : Cx D cy O A cc nL own p s m args meth c) (hd : decode cc pc = .ok (.dconst 1, 1)) (kk : Zz D A nL p l e R s m args below meth c Q ws lv k n (pc + 1) (.double FP.dconst1 :: st)) : Zz D A nL p l e R s m args below meth c Q ws lv k n pc st := fun H locs ls hP hD hS hl => lv_dconst1 X.1 X.2.1 hd (kk H locs ls hP hD hS hl)
theorem z_aastO (X : Cx D cy O A cc nL own p s m args meth c) (q0 ci : Nat) {N v : Nat} {f : Nat → Option Nat} {a t : Nat} {r : vw_C} {vs : List Value} (he : ws[q0]? = some (a, .inl (cy t, N, .inr (.inr (.inr (.inr f)))))) (ht : (tysG cy)[t]? = some (cy t, .object r.1)) (hO : O (v, .inr (ci, vs))) (hc : vwCl[ci]? = some r) {i : Int32} (hi : vp_in i N) {ws' : va_W} (hws : ws.set q0 (a, .inl (cy t, N, .inr (.inr (.inr (.inr (va_up f i.toNatClampNeg (some v))))))) = ws') (hd : decode cc pc = .ok (.aastore, 1)) (kk : Zz D A nL p l e R s m args below meth c Q ws' lv k n (pc + 1) st) : Zz D A nL p l e R s m args below meth c Q ws lv k n pc (.ref v :: .int i :: .ref a :: st) := fun H locs ls hP hD hS hl => by subst hws; exact va_astqM X.1 X.2.1 X.K hP hD hS q0 t he ht (va_rAny X.K (X.ro hO hS) (q0 := 0) rfl hc (fun comp c0 h1 h2 => by rw [h1] at h2; cases h2; exact va_assign (X.K.1 ci r hc).2 |> fun h3 => by rw [show comp = D.1 ci from Option.some.inj (h1.symm.trans (X.K.1 ci r hc).2.1)]; exact h3)) hi hd (fun H1 locs1 hP1 hD1 hS1 => kk H1 locs1 ls hP1 hD1 hS1 hl)
/-- the cells in another order -/
theorem z_perm {ws' : va_W} (h : ∀ q, q ∈ ws' → q ∈ ws) (hn : ws'.map Prod.fst |>.Nodup) (kk : Zz D A nL p l e R s m args below meth c Q ws' lv k n pc st) : Zz D A nL p l e R s m args below meth c Q ws lv k n pc st := by
  intro H locs ls hP hD hS hl
  refine kk H locs ls (fun i q hq => ?_) ⟨fun i j a b ha hb e => ?_, fun i q hq => ?_⟩ hS hl
  · obtain ⟨i', hi'⟩ := List.getElem?_of_mem (h q (List.mem_of_getElem? hq)); exact hP i' q hi'
  · have h1 : (ws'.map Prod.fst)[i]? = some a.1 := by rw [List.getElem?_map, ha]; rfl
    have h2 : (ws'.map Prod.fst)[j]? = some b.1 := by rw [List.getElem?_map, hb]; rfl
    rw [e] at h1
    exact (List.getElem?_inj (List.getElem?_eq_some_iff.mp h1).1 hn).mp (h1.trans h2.symm)
  · obtain ⟨i', hi'⟩ := List.getElem?_of_mem (h q (List.mem_of_getElem? hq)); exact hD.2 i' q hi'
/-- the addresses of the cells are apart -/
theorem z_apart (kk : (ws.map Prod.fst).Nodup → Zz D A nL p l e R s m args below meth c Q ws lv k n pc st) : Zz D A nL p l e R s m args below meth c Q ws lv k n pc st := by
  intro H locs ls hP hD hS hl
  refine kk ?_ H locs ls hP hD hS hl
  rw [List.Nodup, List.pairwise_iff_getElem]
  intro i j hi hj hij e
  simp only [List.getElem_map] at e
  rw [List.length_map] at hi hj
  have := hD.1 i j ws[i] ws[j] (List.getElem?_eq_getElem hi) (List.getElem?_eq_getElem hj) e
  omega
end CALC2
/-- what share() tells: from how many answers, of how many rows -/
def shr (many rows : Nat) : UInt64 := if rows = 0 then FP.dconst0 else FP.ddiv (FP.i2d (nI many)) (FP.i2d (nI rows))
def shok (v : UInt64) : Bool := decide (v &&& 0x7fffffffffffffff ≤ 0x7ff0000000000000) && !decide (Op.cmpValue (FP.dcmp v FP.dconst0) .g < 0) && decide (Op.cmpValue (FP.dcmp v FP.dconst1) .l ≤ 0)
def shall (rows : Nat) : Nat → Bool
  | 0 => shok (shr 0 rows)
  | k + 1 => shall rows k && shok (shr (k + 1) rows)
theorem shall_at {rows : Nat} : ∀ {k}, shall rows k = true → ∀ j, j ≤ k → shok (shr j rows) = true
  | 0, h, j, hj => by rw [show j = 0 by omega]; exact h
  | k + 1, h, j, hj => by
    rw [shall, Bool.and_eq_true] at h
    rcases Nat.lt_or_ge j (k + 1) with g | g
    · exact shall_at h.1 j (by omega)
    · rw [show j = k + 1 by omega]; exact h.2
set_option maxRecDepth 100000 in
theorem sh_all : ([1, 2, 3, 4, 5, 8, 9, 16, 25, 27, 64, 125].all fun r => shall r r) = true := by decide +kernel
theorem sh_ok {x f many : Nat} (hx : x ≤ 5) (hf : f ≤ 3) (hm : many ≤ x ^ f) : shok (shr many (x ^ f)) = true := by
  by_cases h0 : x ^ f = 0
  · rw [h0, shr, if_pos rfl]; decide +kernel
  · have h := List.all_eq_true.mp sh_all (x ^ f) (by
      rcases (show x = 0 ∨ x = 1 ∨ x = 2 ∨ x = 3 ∨ x = 4 ∨ x = 5 by omega) with rfl | rfl | rfl | rfl | rfl | rfl <;> rcases (show f = 0 ∨ f = 1 ∨ f = 2 ∨ f = 3 by omega) with rfl | rfl | rfl | rfl <;> first | decide | (exfalso; exact h0 rfl))
    exact shall_at h many hm
