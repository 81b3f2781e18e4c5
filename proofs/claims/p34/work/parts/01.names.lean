-- ===== PART A: goes FIRST, ahead of the names: the tables' words, and 'selects' of the private methods out of them =====
/-- a private method of a class that the tables say can be made, by its rows of tables_1 -/
def lw_okq (q : MethodName × Nat) : Prop := (q.1.cls ≠ "java/lang/invoke/MethodHandle" ∧ q.1.cls ≠ "java/lang/invoke/VarHandle") ∧ Cond.instantiable q.1.cls q.2 ∈ tables_1 ∧ Cond.privateMethod q.1 ∈ tables_1 ∧ Cond.instanceMethod q.1 ∈ tables_1
theorem lw_p0 : lw_okq (⟨"Thimble", "relationAt", "(I)LThimble$Relation;"⟩, 9) := ⟨⟨by decide +kernel, by decide +kernel⟩, List.mem_of_getElem? (i := 24) (by decide +kernel), List.mem_of_getElem? (i := 159) (by decide +kernel), List.mem_of_getElem? (i := 160) (by decide +kernel)⟩
theorem lw_p1 : lw_okq (⟨"java/lang/Throwable", "fillInStackTrace", "(I)Ljava/lang/Throwable;"⟩, 6) := ⟨⟨by decide +kernel, by decide +kernel⟩, List.mem_of_getElem? (i := 201) (by decide +kernel), List.mem_of_getElem? (i := 199) (by decide +kernel), List.mem_of_getElem? (i := 200) (by decide +kernel)⟩
theorem lw_p2 : lw_okq (⟨"Thimble", "formulaAt", "(I)LThimble$Formula;"⟩, 9) := ⟨⟨by decide +kernel, by decide +kernel⟩, List.mem_of_getElem? (i := 24) (by decide +kernel), List.mem_of_getElem? (i := 235) (by decide +kernel), List.mem_of_getElem? (i := 236) (by decide +kernel)⟩
theorem lw_p3 : lw_okq (⟨"Thimble", "domainOf", "(LThimble$Formula;)I"⟩, 9) := ⟨⟨by decide +kernel, by decide +kernel⟩, List.mem_of_getElem? (i := 24) (by decide +kernel), List.mem_of_getElem? (i := 240) (by decide +kernel), List.mem_of_getElem? (i := 241) (by decide +kernel)⟩
theorem lw_p4 : lw_okq (⟨"Thimble$Lanes", "asked", "(I)J"⟩, 3) := ⟨⟨by decide +kernel, by decide +kernel⟩, List.mem_of_getElem? (i := 38) (by decide +kernel), List.mem_of_getElem? (i := 306) (by decide +kernel), List.mem_of_getElem? (i := 307) (by decide +kernel)⟩
theorem lw_p5 : lw_okq (⟨"Thimble$Lanes", "takes", "(II)Z"⟩, 3) := ⟨⟨by decide +kernel, by decide +kernel⟩, List.mem_of_getElem? (i := 38) (by decide +kernel), List.mem_of_getElem? (i := 321) (by decide +kernel), List.mem_of_getElem? (i := 322) (by decide +kernel)⟩
theorem lw_p6 : lw_okq (⟨"Thimble$Lanes", "holding", "(LThimble$Formula;)J"⟩, 3) := ⟨⟨by decide +kernel, by decide +kernel⟩, List.mem_of_getElem? (i := 38) (by decide +kernel), List.mem_of_getElem? (i := 325) (by decide +kernel), List.mem_of_getElem? (i := 326) (by decide +kernel)⟩
theorem lw_p7 : lw_okq (⟨"Thimble$Lanes", "holdingAtom", "(LThimble$Atom;)J"⟩, 3) := ⟨⟨by decide +kernel, by decide +kernel⟩, List.mem_of_getElem? (i := 38) (by decide +kernel), List.mem_of_getElem? (i := 329) (by decide +kernel), List.mem_of_getElem? (i := 330) (by decide +kernel)⟩
theorem lw_p8 : lw_okq (⟨"Thimble$Atom", "alikeBefore", "(I)I"⟩, 2) := ⟨⟨by decide +kernel, by decide +kernel⟩, List.mem_of_getElem? (i := 343) (by decide +kernel), List.mem_of_getElem? (i := 341) (by decide +kernel), List.mem_of_getElem? (i := 342) (by decide +kernel)⟩
theorem lw_p9 : lw_okq (⟨"Thimble$Lanes", "holdingSame", "(LThimble$Terms;)J"⟩, 3) := ⟨⟨by decide +kernel, by decide +kernel⟩, List.mem_of_getElem? (i := 38) (by decide +kernel), List.mem_of_getElem? (i := 358) (by decide +kernel), List.mem_of_getElem? (i := 359) (by decide +kernel)⟩
theorem lw_p10 : lw_okq (⟨"Thimble$Lanes", "lanesWhere", "(LThimble$Terms;II)J"⟩, 3) := ⟨⟨by decide +kernel, by decide +kernel⟩, List.mem_of_getElem? (i := 38) (by decide +kernel), List.mem_of_getElem? (i := 362) (by decide +kernel), List.mem_of_getElem? (i := 363) (by decide +kernel)⟩
theorem lw_p11 : lw_okq (⟨"Thimble$Lanes", "someLane", "(IJ)J"⟩, 3) := ⟨⟨by decide +kernel, by decide +kernel⟩, List.mem_of_getElem? (i := 38) (by decide +kernel), List.mem_of_getElem? (i := 367) (by decide +kernel), List.mem_of_getElem? (i := 368) (by decide +kernel)⟩
theorem lw_p12 : lw_okq (⟨"Thimble$Lanes", "someValue", "(LThimble$Formula;)J"⟩, 3) := ⟨⟨by decide +kernel, by decide +kernel⟩, List.mem_of_getElem? (i := 38) (by decide +kernel), List.mem_of_getElem? (i := 371) (by decide +kernel), List.mem_of_getElem? (i := 372) (by decide +kernel)⟩
theorem lw_p13 : lw_okq (⟨"Thimble$Lanes", "everyValue", "(LThimble$Formula;)J"⟩, 3) := ⟨⟨by decide +kernel, by decide +kernel⟩, List.mem_of_getElem? (i := 38) (by decide +kernel), List.mem_of_getElem? (i := 375) (by decide +kernel), List.mem_of_getElem? (i := 376) (by decide +kernel)⟩
theorem lw_p14 : lw_okq (⟨"Thimble$Lanes", "include", "(JIII)V"⟩, 3) := ⟨⟨by decide +kernel, by decide +kernel⟩, List.mem_of_getElem? (i := 38) (by decide +kernel), List.mem_of_getElem? (i := 379) (by decide +kernel), List.mem_of_getElem? (i := 380) (by decide +kernel)⟩
theorem lw_p15 : lw_okq (⟨"Thimble", "ruleAt", "(I)LThimble$Rule;"⟩, 9) := ⟨⟨by decide +kernel, by decide +kernel⟩, List.mem_of_getElem? (i := 24) (by decide +kernel), List.mem_of_getElem? (i := 488) (by decide +kernel), List.mem_of_getElem? (i := 489) (by decide +kernel)⟩
def lw_privs_1 : List (MethodName × Nat) := [(⟨"Thimble", "relationAt", "(I)LThimble$Relation;"⟩, 9), (⟨"java/lang/Throwable", "fillInStackTrace", "(I)Ljava/lang/Throwable;"⟩, 6), (⟨"Thimble", "formulaAt", "(I)LThimble$Formula;"⟩, 9), (⟨"Thimble", "domainOf", "(LThimble$Formula;)I"⟩, 9), (⟨"Thimble$Lanes", "asked", "(I)J"⟩, 3), (⟨"Thimble$Lanes", "takes", "(II)Z"⟩, 3), (⟨"Thimble$Lanes", "holding", "(LThimble$Formula;)J"⟩, 3), (⟨"Thimble$Lanes", "holdingAtom", "(LThimble$Atom;)J"⟩, 3), (⟨"Thimble$Atom", "alikeBefore", "(I)I"⟩, 2), (⟨"Thimble$Lanes", "holdingSame", "(LThimble$Terms;)J"⟩, 3), (⟨"Thimble$Lanes", "lanesWhere", "(LThimble$Terms;II)J"⟩, 3), (⟨"Thimble$Lanes", "someLane", "(IJ)J"⟩, 3), (⟨"Thimble$Lanes", "someValue", "(LThimble$Formula;)J"⟩, 3), (⟨"Thimble$Lanes", "everyValue", "(LThimble$Formula;)J"⟩, 3), (⟨"Thimble$Lanes", "include", "(JIII)V"⟩, 3), (⟨"Thimble", "ruleAt", "(I)LThimble$Rule;"⟩, 9)]
theorem lw_r1 : ∀ q ∈ lw_privs_1, lw_okq q := List.forall_mem_cons.mpr ⟨lw_p0, List.forall_mem_cons.mpr ⟨lw_p1, List.forall_mem_cons.mpr ⟨lw_p2, List.forall_mem_cons.mpr ⟨lw_p3, List.forall_mem_cons.mpr ⟨lw_p4, List.forall_mem_cons.mpr ⟨lw_p5, List.forall_mem_cons.mpr ⟨lw_p6, List.forall_mem_cons.mpr ⟨lw_p7, List.forall_mem_cons.mpr ⟨lw_p8, List.forall_mem_cons.mpr ⟨lw_p9, List.forall_mem_cons.mpr ⟨lw_p10, List.forall_mem_cons.mpr ⟨lw_p11, List.forall_mem_cons.mpr ⟨lw_p12, List.forall_mem_cons.mpr ⟨lw_p13, List.forall_mem_cons.mpr ⟨lw_p14, List.forall_mem_cons.mpr ⟨lw_p15, fun _ h => absurd h List.not_mem_nil⟩⟩⟩⟩⟩⟩⟩⟩⟩⟩⟩⟩⟩⟩⟩⟩
theorem lw_p16 : lw_okq (⟨"Thimble$MapSearch", "mapsHead", "()Z"⟩, 6) := ⟨⟨by decide +kernel, by decide +kernel⟩, List.mem_of_getElem? (i := 102) (by decide +kernel), List.mem_of_getElem? (i := 540) (by decide +kernel), List.mem_of_getElem? (i := 541) (by decide +kernel)⟩
theorem lw_p17 : lw_okq (⟨"Thimble$MapSearch", "lets", "(II)Z"⟩, 6) := ⟨⟨by decide +kernel, by decide +kernel⟩, List.mem_of_getElem? (i := 102) (by decide +kernel), List.mem_of_getElem? (i := 547) (by decide +kernel), List.mem_of_getElem? (i := 548) (by decide +kernel)⟩
theorem lw_p18 : lw_okq (⟨"Thimble$MapSearch", "mapsAtomsFrom", "(I)Z"⟩, 6) := ⟨⟨by decide +kernel, by decide +kernel⟩, List.mem_of_getElem? (i := 102) (by decide +kernel), List.mem_of_getElem? (i := 551) (by decide +kernel), List.mem_of_getElem? (i := 552) (by decide +kernel)⟩
theorem lw_p19 : lw_okq (⟨"Thimble$MapSearch", "mapsAtom", "(LThimble$Atom;LThimble$Atom;)Z"⟩, 6) := ⟨⟨by decide +kernel, by decide +kernel⟩, List.mem_of_getElem? (i := 102) (by decide +kernel), List.mem_of_getElem? (i := 555) (by decide +kernel), List.mem_of_getElem? (i := 556) (by decide +kernel)⟩
theorem lw_p20 : lw_okq (⟨"Thimble$Walk", "nextOf", "(II)I"⟩, 7) := ⟨⟨by decide +kernel, by decide +kernel⟩, List.mem_of_getElem? (i := 70) (by decide +kernel), List.mem_of_getElem? (i := 577) (by decide +kernel), List.mem_of_getElem? (i := 578) (by decide +kernel)⟩
theorem lw_p21 : lw_okq (⟨"Thimble$Walk", "goOn", "(I)V"⟩, 7) := ⟨⟨by decide +kernel, by decide +kernel⟩, List.mem_of_getElem? (i := 70) (by decide +kernel), List.mem_of_getElem? (i := 587) (by decide +kernel), List.mem_of_getElem? (i := 588) (by decide +kernel)⟩
theorem lw_p22 : lw_okq (⟨"Thimble$Walk", "isTold", "(I)Z"⟩, 7) := ⟨⟨by decide +kernel, by decide +kernel⟩, List.mem_of_getElem? (i := 70) (by decide +kernel), List.mem_of_getElem? (i := 591) (by decide +kernel), List.mem_of_getElem? (i := 592) (by decide +kernel)⟩
theorem lw_p23 : lw_okq (⟨"Thimble$Walk", "headRow", "()I"⟩, 7) := ⟨⟨by decide +kernel, by decide +kernel⟩, List.mem_of_getElem? (i := 70) (by decide +kernel), List.mem_of_getElem? (i := 595) (by decide +kernel), List.mem_of_getElem? (i := 596) (by decide +kernel)⟩
theorem lw_p24 : lw_okq (⟨"Thimble$Walk", "freshIn", "(LThimble$Terms;)I"⟩, 7) := ⟨⟨by decide +kernel, by decide +kernel⟩, List.mem_of_getElem? (i := 70) (by decide +kernel), List.mem_of_getElem? (i := 607) (by decide +kernel), List.mem_of_getElem? (i := 608) (by decide +kernel)⟩
theorem lw_p25 : lw_okq (⟨"Thimble$Walk", "learn", "(LThimble$Atom;I)V"⟩, 7) := ⟨⟨by decide +kernel, by decide +kernel⟩, List.mem_of_getElem? (i := 70) (by decide +kernel), List.mem_of_getElem? (i := 612) (by decide +kernel), List.mem_of_getElem? (i := 613) (by decide +kernel)⟩
theorem lw_p26 : lw_okq (⟨"Thimble$Walk", "forget", "(I)V"⟩, 7) := ⟨⟨by decide +kernel, by decide +kernel⟩, List.mem_of_getElem? (i := 70) (by decide +kernel), List.mem_of_getElem? (i := 617) (by decide +kernel), List.mem_of_getElem? (i := 618) (by decide +kernel)⟩
theorem lw_p27 : lw_okq (⟨"Thimble", "mixFormula", "(JI)J"⟩, 9) := ⟨⟨by decide +kernel, by decide +kernel⟩, List.mem_of_getElem? (i := 24) (by decide +kernel), List.mem_of_getElem? (i := 663) (by decide +kernel), List.mem_of_getElem? (i := 664) (by decide +kernel)⟩
theorem lw_p28 : lw_okq (⟨"Thimble", "mixRule", "(JLThimble$Rule;)J"⟩, 9) := ⟨⟨by decide +kernel, by decide +kernel⟩, List.mem_of_getElem? (i := 24) (by decide +kernel), List.mem_of_getElem? (i := 670) (by decide +kernel), List.mem_of_getElem? (i := 671) (by decide +kernel)⟩
theorem lw_p29 : lw_okq (⟨"Thimble$Relation", "placeFor", "(I)I"⟩, 6) := ⟨⟨by decide +kernel, by decide +kernel⟩, List.mem_of_getElem? (i := 742) (by decide +kernel), List.mem_of_getElem? (i := 799) (by decide +kernel), List.mem_of_getElem? (i := 800) (by decide +kernel)⟩
theorem lw_p30 : lw_okq (⟨"Thimble$Relation", "mark", "()V"⟩, 6) := ⟨⟨by decide +kernel, by decide +kernel⟩, List.mem_of_getElem? (i := 742) (by decide +kernel), List.mem_of_getElem? (i := 808) (by decide +kernel), List.mem_of_getElem? (i := 809) (by decide +kernel)⟩
theorem lw_p31 : lw_okq (⟨"Thimble$Relation", "markPlace", "(II)V"⟩, 6) := ⟨⟨by decide +kernel, by decide +kernel⟩, List.mem_of_getElem? (i := 742) (by decide +kernel), List.mem_of_getElem? (i := 812) (by decide +kernel), List.mem_of_getElem? (i := 813) (by decide +kernel)⟩
def lw_privs_2 : List (MethodName × Nat) := [(⟨"Thimble$MapSearch", "mapsHead", "()Z"⟩, 6), (⟨"Thimble$MapSearch", "lets", "(II)Z"⟩, 6), (⟨"Thimble$MapSearch", "mapsAtomsFrom", "(I)Z"⟩, 6), (⟨"Thimble$MapSearch", "mapsAtom", "(LThimble$Atom;LThimble$Atom;)Z"⟩, 6), (⟨"Thimble$Walk", "nextOf", "(II)I"⟩, 7), (⟨"Thimble$Walk", "goOn", "(I)V"⟩, 7), (⟨"Thimble$Walk", "isTold", "(I)Z"⟩, 7), (⟨"Thimble$Walk", "headRow", "()I"⟩, 7), (⟨"Thimble$Walk", "freshIn", "(LThimble$Terms;)I"⟩, 7), (⟨"Thimble$Walk", "learn", "(LThimble$Atom;I)V"⟩, 7), (⟨"Thimble$Walk", "forget", "(I)V"⟩, 7), (⟨"Thimble", "mixFormula", "(JI)J"⟩, 9), (⟨"Thimble", "mixRule", "(JLThimble$Rule;)J"⟩, 9), (⟨"Thimble$Relation", "placeFor", "(I)I"⟩, 6), (⟨"Thimble$Relation", "mark", "()V"⟩, 6), (⟨"Thimble$Relation", "markPlace", "(II)V"⟩, 6)]
theorem lw_r2 : ∀ q ∈ lw_privs_2, lw_okq q := List.forall_mem_cons.mpr ⟨lw_p16, List.forall_mem_cons.mpr ⟨lw_p17, List.forall_mem_cons.mpr ⟨lw_p18, List.forall_mem_cons.mpr ⟨lw_p19, List.forall_mem_cons.mpr ⟨lw_p20, List.forall_mem_cons.mpr ⟨lw_p21, List.forall_mem_cons.mpr ⟨lw_p22, List.forall_mem_cons.mpr ⟨lw_p23, List.forall_mem_cons.mpr ⟨lw_p24, List.forall_mem_cons.mpr ⟨lw_p25, List.forall_mem_cons.mpr ⟨lw_p26, List.forall_mem_cons.mpr ⟨lw_p27, List.forall_mem_cons.mpr ⟨lw_p28, List.forall_mem_cons.mpr ⟨lw_p29, List.forall_mem_cons.mpr ⟨lw_p30, List.forall_mem_cons.mpr ⟨lw_p31, fun _ h => absurd h List.not_mem_nil⟩⟩⟩⟩⟩⟩⟩⟩⟩⟩⟩⟩⟩⟩⟩⟩
theorem lw_p32 : lw_okq (⟨"ThimbleLaw$Loom", "parts", "([I)I"⟩, 3) := ⟨⟨by decide +kernel, by decide +kernel⟩, List.mem_of_getElem? (i := 709) (by decide +kernel), List.mem_of_getElem? (i := 824) (by decide +kernel), List.mem_of_getElem? (i := 825) (by decide +kernel)⟩
theorem lw_p33 : lw_okq (⟨"Thimble", "needRoomForFormulas", "(I)V"⟩, 9) := ⟨⟨by decide +kernel, by decide +kernel⟩, List.mem_of_getElem? (i := 24) (by decide +kernel), List.mem_of_getElem? (i := 848) (by decide +kernel), List.mem_of_getElem? (i := 849) (by decide +kernel)⟩
theorem lw_p34 : lw_okq (⟨"Thimble", "keep", "(LThimble$Formula;)I"⟩, 9) := ⟨⟨by decide +kernel, by decide +kernel⟩, List.mem_of_getElem? (i := 24) (by decide +kernel), List.mem_of_getElem? (i := 917) (by decide +kernel), List.mem_of_getElem? (i := 918) (by decide +kernel)⟩
theorem lw_p35 : lw_okq (⟨"Thimble$Formula", "isLoose", "()Z"⟩, 13) := ⟨⟨by decide +kernel, by decide +kernel⟩, List.mem_of_getElem? (i := 856) (by decide +kernel), List.mem_of_getElem? (i := 928) (by decide +kernel), List.mem_of_getElem? (i := 929) (by decide +kernel)⟩
theorem lw_p36 : lw_okq (⟨"Thimble$Formula", "passedOn", "(I)I"⟩, 13) := ⟨⟨by decide +kernel, by decide +kernel⟩, List.mem_of_getElem? (i := 856) (by decide +kernel), List.mem_of_getElem? (i := 965) (by decide +kernel), List.mem_of_getElem? (i := 966) (by decide +kernel)⟩
def lw_privs_3 : List (MethodName × Nat) := [(⟨"ThimbleLaw$Loom", "parts", "([I)I"⟩, 3), (⟨"Thimble", "needRoomForFormulas", "(I)V"⟩, 9), (⟨"Thimble", "keep", "(LThimble$Formula;)I"⟩, 9), (⟨"Thimble$Formula", "isLoose", "()Z"⟩, 13), (⟨"Thimble$Formula", "passedOn", "(I)I"⟩, 13)]
theorem lw_r3 : ∀ q ∈ lw_privs_3, lw_okq q := List.forall_mem_cons.mpr ⟨lw_p32, List.forall_mem_cons.mpr ⟨lw_p33, List.forall_mem_cons.mpr ⟨lw_p34, List.forall_mem_cons.mpr ⟨lw_p35, List.forall_mem_cons.mpr ⟨lw_p36, fun _ h => absurd h List.not_mem_nil⟩⟩⟩⟩⟩
def lw_privs : List (MethodName × Nat) := lw_privs_1 ++ (lw_privs_2 ++ (lw_privs_3))
def lw_tbl : List Cond := k2_sels lw_privs ++ tables_1
theorem lw_privs_ok : ∀ q ∈ lw_privs, lw_okq q := by
  show ∀ q ∈ lw_privs_1 ++ (lw_privs_2 ++ (lw_privs_3)), lw_okq q
  exact List.forall_mem_append.mpr ⟨lw_r1, List.forall_mem_append.mpr ⟨lw_r2, lw_r3⟩⟩
/-- the streams that the claim lets the run draw from -/
abbrev lw_cs : List Choice := [Jvm.Choice.named "NaN.bits"]
theorem lw_bits : nanBits ∈ lw_cs := by first | decide | exact List.mem_cons_self | simp [lw_cs, nanBits]

def RX0 : String := "Thimble$Atom"
def TX0 : u_T := fun k => match k with
  | 0 => ("Thimble$Atom", "relation", "LThimble$Relation;", true)
  | _ => ("Thimble$Atom", "terms", "LThimble$Terms;", true)
def tyX0 : Nat → FieldType := fun k => match k with
  | 0 => .object "Thimble$Relation"
  | _ => .object "Thimble$Terms"
theorem nmX0 : ∀ a, a < 2 → ∀ b, b < 2 → a ≠ b → (TX0 a).2.1 ≠ (TX0 b).2.1 := by decide +kernel
theorem tyX0_ok : ∀ k, k < 2 → parseFieldDescriptor (TX0 k).2.2.1 = some (tyX0 k) := by decide +kernel
abbrev cX0_init : ByteArray := prog_2_method_1_code
def yX0_init : MethodName := ⟨RX0, "<init>", "(LThimble$Relation;LThimble$Terms;)V"⟩
abbrev cX0_matching : ByteArray := prog_2_method_2_code
def yX0_matching : MethodName := ⟨RX0, "matching", "([I)I"⟩
abbrev cX0_alikeBefore : ByteArray := prog_2_method_3_code
def yX0_alikeBefore : MethodName := ⟨RX0, "alikeBefore", "(I)I"⟩
def RX1 : String := "Thimble$Formula"
def TX1 : u_T := fun k => match k with
  | 0 => ("Thimble$Formula", "kind", "I", true)
  | 1 => ("Thimble$Formula", "atom", "LThimble$Atom;", false)
  | 2 => ("Thimble$Formula", "terms", "LThimble$Terms;", false)
  | 3 => ("Thimble$Formula", "a", "LThimble$Formula;", false)
  | 4 => ("Thimble$Formula", "b", "LThimble$Formula;", false)
  | 5 => ("Thimble$Formula", "v", "I", false)
  | 6 => ("Thimble$Formula", "free", "I", false)
  | 7 => ("Thimble$Formula", "depth", "I", false)
  | 8 => ("Thimble$Formula", "length", "I", false)
  | 9 => ("Thimble$Formula", "up", "I", false)
  | 10 => ("Thimble$Formula", "down", "I", false)
  | 11 => ("Thimble$Formula", "values", "I", false)
  | _ => ("Thimble$Formula", "loose", "I", false)
def tyX1 : Nat → FieldType := fun k => match k with
  | 0 => .int
  | 1 => .object "Thimble$Atom"
  | 2 => .object "Thimble$Terms"
  | 3 => .object "Thimble$Formula"
  | 4 => .object "Thimble$Formula"
  | 5 => .int
  | 6 => .int
  | 7 => .int
  | 8 => .int
  | 9 => .int
  | 10 => .int
  | 11 => .int
  | _ => .int
theorem nmX1 : ∀ a, a < 13 → ∀ b, b < 13 → a ≠ b → (TX1 a).2.1 ≠ (TX1 b).2.1 := by decide +kernel
theorem tyX1_ok : ∀ k, k < 13 → parseFieldDescriptor (TX1 k).2.2.1 = some (tyX1 k) := by decide +kernel
abbrev cX1_init : ByteArray := prog_3_method_1_code
def yX1_init : MethodName := ⟨RX1, "<init>", "(I)V"⟩
abbrev cX1_ofAtom : ByteArray := prog_3_method_2_code
def yX1_ofAtom : MethodName := ⟨RX1, "ofAtom", "(LThimble$Atom;)LThimble$Formula;"⟩
abbrev cX1_ofSame : ByteArray := prog_3_method_3_code
def yX1_ofSame : MethodName := ⟨RX1, "ofSame", "(LThimble$Terms;)LThimble$Formula;"⟩
abbrev cX1_ofNot : ByteArray := prog_3_method_4_code
def yX1_ofNot : MethodName := ⟨RX1, "ofNot", "(LThimble$Formula;)LThimble$Formula;"⟩
abbrev cX1_ofBoth : ByteArray := prog_3_method_5_code
def yX1_ofBoth : MethodName := ⟨RX1, "ofBoth", "(LThimble$Formula;LThimble$Formula;)LThimble$Formula;"⟩
abbrev cX1_ofEither : ByteArray := prog_3_method_6_code
def yX1_ofEither : MethodName := ⟨RX1, "ofEither", "(LThimble$Formula;LThimble$Formula;)LThimble$Formula;"⟩
abbrev cX1_ofSome : ByteArray := prog_3_method_7_code
def yX1_ofSome : MethodName := ⟨RX1, "ofSome", "(ILThimble$Formula;)LThimble$Formula;"⟩
abbrev cX1_ofEvery : ByteArray := prog_3_method_8_code
def yX1_ofEvery : MethodName := ⟨RX1, "ofEvery", "(ILThimble$Formula;)LThimble$Formula;"⟩
abbrev cX1_over : ByteArray := prog_3_method_9_code
def yX1_over : MethodName := ⟨RX1, "over", "(ILThimble$Formula;)LThimble$Formula;"⟩
abbrev cX1_overTwo : ByteArray := prog_3_method_10_code
def yX1_overTwo : MethodName := ⟨RX1, "overTwo", "(ILThimble$Formula;LThimble$Formula;)LThimble$Formula;"⟩
abbrev cX1_overBound : ByteArray := prog_3_method_11_code
def yX1_overBound : MethodName := ⟨RX1, "overBound", "(IILThimble$Formula;)LThimble$Formula;"⟩
abbrev cX1_passedOn : ByteArray := prog_3_method_12_code
def yX1_passedOn : MethodName := ⟨RX1, "passedOn", "(I)I"⟩
abbrev cX1_settleLoose : ByteArray := prog_3_method_13_code
def yX1_settleLoose : MethodName := ⟨RX1, "settleLoose", "(I)V"⟩
abbrev cX1_isLoose : ByteArray := prog_3_method_14_code
def yX1_isLoose : MethodName := ⟨RX1, "isLoose", "()Z"⟩
def RX2 : String := "Thimble$Lanes"
def TX2 : u_T := fun k => match k with
  | 0 => ("Thimble$Lanes", "found", "LThimble$RowSet;", true)
  | 1 => ("Thimble$Lanes", "value", "[I", true)
  | _ => ("Thimble$Lanes", "domain", "I", false)
def tyX2 : Nat → FieldType := fun k => match k with
  | 0 => .object "Thimble$RowSet"
  | 1 => .array .int
  | _ => .int
theorem nmX2 : ∀ a, a < 3 → ∀ b, b < 3 → a ≠ b → (TX2 a).2.1 ≠ (TX2 b).2.1 := by decide +kernel
theorem tyX2_ok : ∀ k, k < 3 → parseFieldDescriptor (TX2 k).2.2.1 = some (tyX2 k) := by decide +kernel
abbrev cX2_init : ByteArray := prog_4_method_1_code
def yX2_init : MethodName := ⟨RX2, "<init>", "()V"⟩
abbrev cX2_answersOf : ByteArray := prog_4_method_2_code
def yX2_answersOf : MethodName := ⟨RX2, "answersOf", "(LThimble$Formula;I)LThimble$RowSet;"⟩
abbrev cX2_asked : ByteArray := prog_4_method_3_code
def yX2_asked : MethodName := ⟨RX2, "asked", "(I)J"⟩
abbrev cX2_takes : ByteArray := prog_4_method_4_code
def yX2_takes : MethodName := ⟨RX2, "takes", "(II)Z"⟩
abbrev cX2_include : ByteArray := prog_4_method_5_code
def yX2_include : MethodName := ⟨RX2, "include", "(JIII)V"⟩
abbrev cX2_holding : ByteArray := prog_4_method_6_code
def yX2_holding : MethodName := ⟨RX2, "holding", "(LThimble$Formula;)J"⟩
abbrev cX2_holdingAtom : ByteArray := prog_4_method_7_code
def yX2_holdingAtom : MethodName := ⟨RX2, "holdingAtom", "(LThimble$Atom;)J"⟩
abbrev cX2_lanesOfFact : ByteArray := prog_4_method_8_code
def yX2_lanesOfFact : MethodName := ⟨RX2, "lanesOfFact", "(LThimble$Atom;I)J"⟩
abbrev cX2_holdingSame : ByteArray := prog_4_method_9_code
def yX2_holdingSame : MethodName := ⟨RX2, "holdingSame", "(LThimble$Terms;)J"⟩
abbrev cX2_lanesWhere : ByteArray := prog_4_method_10_code
def yX2_lanesWhere : MethodName := ⟨RX2, "lanesWhere", "(LThimble$Terms;II)J"⟩
abbrev cX2_lanesAt : ByteArray := prog_4_method_11_code
def yX2_lanesAt : MethodName := ⟨RX2, "lanesAt", "(II)J"⟩
abbrev cX2_lanesWith : ByteArray := prog_4_method_12_code
def yX2_lanesWith : MethodName := ⟨RX2, "lanesWith", "(II)J"⟩
abbrev cX2_someLane : ByteArray := prog_4_method_13_code
def yX2_someLane : MethodName := ⟨RX2, "someLane", "(IJ)J"⟩
abbrev cX2_someValue : ByteArray := prog_4_method_14_code
def yX2_someValue : MethodName := ⟨RX2, "someValue", "(LThimble$Formula;)J"⟩
abbrev cX2_everyValue : ByteArray := prog_4_method_15_code
def yX2_everyValue : MethodName := ⟨RX2, "everyValue", "(LThimble$Formula;)J"⟩
def RX3 : String := "Thimble$MapSearch"
def TX3 : u_T := fun k => match k with
  | 0 => ("Thimble$MapSearch", "image", "[I", true)
  | 1 => ("Thimble$MapSearch", "settled", "I", false)
  | 2 => ("Thimble$MapSearch", "from", "LThimble$Rule;", false)
  | 3 => ("Thimble$MapSearch", "fromAtoms", "I", false)
  | 4 => ("Thimble$MapSearch", "to", "LThimble$Rule;", false)
  | _ => ("Thimble$MapSearch", "toAtoms", "I", false)
def tyX3 : Nat → FieldType := fun k => match k with
  | 0 => .array .int
  | 1 => .int
  | 2 => .object "Thimble$Rule"
  | 3 => .int
  | 4 => .object "Thimble$Rule"
  | _ => .int
theorem nmX3 : ∀ a, a < 6 → ∀ b, b < 6 → a ≠ b → (TX3 a).2.1 ≠ (TX3 b).2.1 := by decide +kernel
theorem tyX3_ok : ∀ k, k < 6 → parseFieldDescriptor (TX3 k).2.2.1 = some (tyX3 k) := by decide +kernel
abbrev cX3_init : ByteArray := prog_5_method_1_code
def yX3_init : MethodName := ⟨RX3, "<init>", "()V"⟩
abbrev cX3_finds : ByteArray := prog_5_method_2_code
def yX3_finds : MethodName := ⟨RX3, "finds", "(LThimble$Rule;ILThimble$Rule;I)Z"⟩
abbrev cX3_shortened : ByteArray := prog_5_method_4_code
def yX3_shortened : MethodName := ⟨RX3, "shortened", "(LThimble$Rule;)I"⟩
abbrev cX3_mapsHead : ByteArray := prog_5_method_5_code
def yX3_mapsHead : MethodName := ⟨RX3, "mapsHead", "()Z"⟩
abbrev cX3_mapsAtomsFrom : ByteArray := prog_5_method_6_code
def yX3_mapsAtomsFrom : MethodName := ⟨RX3, "mapsAtomsFrom", "(I)Z"⟩
abbrev cX3_mapsAtom : ByteArray := prog_5_method_7_code
def yX3_mapsAtom : MethodName := ⟨RX3, "mapsAtom", "(LThimble$Atom;LThimble$Atom;)Z"⟩
abbrev cX3_lets : ByteArray := prog_5_method_8_code
def yX3_lets : MethodName := ⟨RX3, "lets", "(II)Z"⟩
def RX4 : String := "Thimble$Relation"
def TX4 : u_T := fun k => match k with
  | 0 => ("Thimble$Relation", "places", "I", true)
  | 1 => ("Thimble$Relation", "rows", "[I", true)
  | 2 => ("Thimble$Relation", "many", "I", false)
  | 3 => ("Thimble$Relation", "values", "I", false)
  | 4 => ("Thimble$Relation", "having", "[I", true)
  | _ => ("Thimble$Relation", "alike", "[I", true)
def tyX4 : Nat → FieldType := fun k => match k with
  | 0 => .int
  | 1 => .array .int
  | 2 => .int
  | 3 => .int
  | 4 => .array .int
  | _ => .array .int
theorem nmX4 : ∀ a, a < 6 → ∀ b, b < 6 → a ≠ b → (TX4 a).2.1 ≠ (TX4 b).2.1 := by decide +kernel
theorem tyX4_ok : ∀ k, k < 6 → parseFieldDescriptor (TX4 k).2.2.1 = some (tyX4 k) := by decide +kernel
abbrev cX4_init : ByteArray := prog_6_method_1_code
def yX4_init : MethodName := ⟨RX4, "<init>", "(I)V"⟩
abbrev cX4_has : ByteArray := prog_6_method_2_code
def yX4_has : MethodName := ⟨RX4, "has", "(I)Z"⟩
abbrev cX4_toggle : ByteArray := prog_6_method_3_code
def yX4_toggle : MethodName := ⟨RX4, "toggle", "(I)V"⟩
abbrev cX4_valueAt : ByteArray := prog_6_method_4_code
def yX4_valueAt : MethodName := ⟨RX4, "valueAt", "(II)I"⟩
abbrev cX4_placeFor : ByteArray := prog_6_method_5_code
def yX4_placeFor : MethodName := ⟨RX4, "placeFor", "(I)I"⟩
abbrev cX4_mark : ByteArray := prog_6_method_6_code
def yX4_mark : MethodName := ⟨RX4, "mark", "()V"⟩
abbrev cX4_markPlace : ByteArray := prog_6_method_7_code
def yX4_markPlace : MethodName := ⟨RX4, "markPlace", "(II)V"⟩
def RX5 : String := "Thimble$RowSet"
def TX5 : u_T := fun k => match k with
  | 0 => ("Thimble$RowSet", "isRow", "[Z", true)
  | _ => ("Thimble$RowSet", "many", "I", false)
def tyX5 : Nat → FieldType := fun k => match k with
  | 0 => .array .boolean
  | _ => .int
theorem nmX5 : ∀ a, a < 2 → ∀ b, b < 2 → a ≠ b → (TX5 a).2.1 ≠ (TX5 b).2.1 := by decide +kernel
theorem tyX5_ok : ∀ k, k < 2 → parseFieldDescriptor (TX5 k).2.2.1 = some (tyX5 k) := by decide +kernel
abbrev cX5_init : ByteArray := prog_7_method_1_code
def yX5_init : MethodName := ⟨RX5, "<init>", "()V"⟩
abbrev cX5_clear : ByteArray := prog_7_method_2_code
def yX5_clear : MethodName := ⟨RX5, "clear", "()V"⟩
abbrev cX5_has : ByteArray := prog_7_method_3_code
def yX5_has : MethodName := ⟨RX5, "has", "(I)Z"⟩
abbrev cX5_include : ByteArray := prog_7_method_4_code
def yX5_include : MethodName := ⟨RX5, "include", "(I)V"⟩
abbrev cX5_at : ByteArray := prog_7_method_5_code
def yX5_at : MethodName := ⟨RX5, "at", "(I)I"⟩
def RX6 : String := "Thimble$Rule"
def TX6 : u_T := fun k => match k with
  | 0 => ("Thimble$Rule", "head", "LThimble$Terms;", true)
  | 1 => ("Thimble$Rule", "atoms", "[LThimble$Atom;", true)
  | _ => ("Thimble$Rule", "many", "I", false)
def tyX6 : Nat → FieldType := fun k => match k with
  | 0 => .object "Thimble$Terms"
  | 1 => .array (.object "Thimble$Atom")
  | _ => .int
theorem nmX6 : ∀ a, a < 3 → ∀ b, b < 3 → a ≠ b → (TX6 a).2.1 ≠ (TX6 b).2.1 := by decide +kernel
theorem tyX6_ok : ∀ k, k < 3 → parseFieldDescriptor (TX6 k).2.2.1 = some (tyX6 k) := by decide +kernel
abbrev cX6_init : ByteArray := prog_8_method_1_code
def yX6_init : MethodName := ⟨RX6, "<init>", "(LThimble$Terms;)V"⟩
abbrev cX6_allAtoms : ByteArray := prog_8_method_2_code
def yX6_allAtoms : MethodName := ⟨RX6, "allAtoms", "()I"⟩
abbrev cX6_variablesIn : ByteArray := prog_8_method_3_code
def yX6_variablesIn : MethodName := ⟨RX6, "variablesIn", "(I)I"⟩
abbrev cX6_isGrounded : ByteArray := prog_8_method_4_code
def yX6_isGrounded : MethodName := ⟨RX6, "isGrounded", "()Z"⟩
abbrev cX6_keepAtoms : ByteArray := prog_8_method_5_code
def yX6_keepAtoms : MethodName := ⟨RX6, "keepAtoms", "(I)V"⟩
def RX7 : String := "Thimble$Terms"
def TX7 : u_T := fun k => match k with
  | 0 => ("Thimble$Terms", "many", "I", true)
  | 1 => ("Thimble$Terms", "term", "[I", true)
  | 2 => ("Thimble$Terms", "variables", "I", true)
  | _ => ("Thimble$Terms", "values", "I", true)
def tyX7 : Nat → FieldType := fun k => match k with
  | 0 => .int
  | 1 => .array .int
  | 2 => .int
  | _ => .int
theorem nmX7 : ∀ a, a < 4 → ∀ b, b < 4 → a ≠ b → (TX7 a).2.1 ≠ (TX7 b).2.1 := by decide +kernel
theorem tyX7_ok : ∀ k, k < 4 → parseFieldDescriptor (TX7 k).2.2.1 = some (tyX7 k) := by decide +kernel
abbrev cX7_init : ByteArray := prog_9_method_1_code
def yX7_init : MethodName := ⟨RX7, "<init>", "(IIII)V"⟩
abbrev cX7_valueOf : ByteArray := prog_9_method_2_code
def yX7_valueOf : MethodName := ⟨RX7, "valueOf", "(I[I)I"⟩
def RX8 : String := "Thimble$Walk"
def TX8 : u_T := fun k => match k with
  | 0 => ("Thimble$Walk", "order", "[I", true)
  | 1 => ("Thimble$Walk", "sizes", "[I", true)
  | 2 => ("Thimble$Walk", "found", "LThimble$RowSet;", true)
  | 3 => ("Thimble$Walk", "value", "[I", true)
  | 4 => ("Thimble$Walk", "rule", "LThimble$Rule;", false)
  | 5 => ("Thimble$Walk", "isTelling", "Z", false)
  | _ => ("Thimble$Walk", "headFrom", "I", false)
def tyX8 : Nat → FieldType := fun k => match k with
  | 0 => .array .int
  | 1 => .array .int
  | 2 => .object "Thimble$RowSet"
  | 3 => .array .int
  | 4 => .object "Thimble$Rule"
  | 5 => .boolean
  | _ => .int
theorem nmX8 : ∀ a, a < 7 → ∀ b, b < 7 → a ≠ b → (TX8 a).2.1 ≠ (TX8 b).2.1 := by decide +kernel
theorem tyX8_ok : ∀ k, k < 7 → parseFieldDescriptor (TX8 k).2.2.1 = some (tyX8 k) := by decide +kernel
abbrev cX8_init : ByteArray := prog_10_method_1_code
def yX8_init : MethodName := ⟨RX8, "<init>", "()V"⟩
abbrev cX8_arrange : ByteArray := prog_10_method_2_code
def yX8_arrange : MethodName := ⟨RX8, "arrange", "(LThimble$Rule;)V"⟩
abbrev cX8_measure : ByteArray := prog_10_method_3_code
def yX8_measure : MethodName := ⟨RX8, "measure", "(LThimble$Rule;)V"⟩
abbrev cX8_tell : ByteArray := prog_10_method_4_code
def yX8_tell : MethodName := ⟨RX8, "tell", "(LThimble$Rule;)LThimble$RowSet;"⟩
abbrev cX8_nextOf : ByteArray := prog_10_method_5_code
def yX8_nextOf : MethodName := ⟨RX8, "nextOf", "(II)I"⟩
abbrev cX8_knownPlaces : ByteArray := prog_10_method_6_code
def yX8_knownPlaces : MethodName := ⟨RX8, "knownPlaces", "(LThimble$Terms;I)I"⟩
abbrev cX8_goOn : ByteArray := prog_10_method_7_code
def yX8_goOn : MethodName := ⟨RX8, "goOn", "(I)V"⟩
abbrev cX8_isTold : ByteArray := prog_10_method_8_code
def yX8_isTold : MethodName := ⟨RX8, "isTold", "(I)Z"⟩
abbrev cX8_headRow : ByteArray := prog_10_method_9_code
def yX8_headRow : MethodName := ⟨RX8, "headRow", "()I"⟩
abbrev cX8_freshIn : ByteArray := prog_10_method_10_code
def yX8_freshIn : MethodName := ⟨RX8, "freshIn", "(LThimble$Terms;)I"⟩
abbrev cX8_learn : ByteArray := prog_10_method_11_code
def yX8_learn : MethodName := ⟨RX8, "learn", "(LThimble$Atom;I)V"⟩
abbrev cX8_forget : ByteArray := prog_10_method_12_code
def yX8_forget : MethodName := ⟨RX8, "forget", "(I)V"⟩
def RX9 : String := "Thimble"
def TX9 : u_T := fun k => match k with
  | 0 => ("Thimble", "relations", "[LThimble$Relation;", true)
  | 1 => ("Thimble", "relationCount", "I", false)
  | 2 => ("Thimble", "formulas", "[LThimble$Formula;", true)
  | 3 => ("Thimble", "formulaCount", "I", false)
  | 4 => ("Thimble", "rules", "[LThimble$Rule;", true)
  | 5 => ("Thimble", "ruleCount", "I", false)
  | 6 => ("Thimble", "lanes", "LThimble$Lanes;", true)
  | 7 => ("Thimble", "walk", "LThimble$Walk;", true)
  | _ => ("Thimble", "search", "LThimble$MapSearch;", true)
def tyX9 : Nat → FieldType := fun k => match k with
  | 0 => .array (.object "Thimble$Relation")
  | 1 => .int
  | 2 => .array (.object "Thimble$Formula")
  | 3 => .int
  | 4 => .array (.object "Thimble$Rule")
  | 5 => .int
  | 6 => .object "Thimble$Lanes"
  | 7 => .object "Thimble$Walk"
  | _ => .object "Thimble$MapSearch"
theorem nmX9 : ∀ a, a < 9 → ∀ b, b < 9 → a ≠ b → (TX9 a).2.1 ≠ (TX9 b).2.1 := by decide +kernel
theorem tyX9_ok : ∀ k, k < 9 → parseFieldDescriptor (TX9 k).2.2.1 = some (tyX9 k) := by decide +kernel
abbrev cX9_init : ByteArray := prog_1_method_1_code
def yX9_init : MethodName := ⟨RX9, "<init>", "()V"⟩
abbrev cX9_relation : ByteArray := prog_1_method_2_code
def yX9_relation : MethodName := ⟨RX9, "relation", "(I)I"⟩
abbrev cX9_fact : ByteArray := prog_1_method_3_code
def yX9_fact : MethodName := ⟨RX9, "fact", "(IIII)I"⟩
abbrev cX9_facts : ByteArray := prog_1_method_6_code
def yX9_facts : MethodName := ⟨RX9, "facts", "(I)I"⟩
abbrev cX9_atom : ByteArray := prog_1_method_8_code
def yX9_atom : MethodName := ⟨RX9, "atom", "(IIII)I"⟩
abbrev cX9_same : ByteArray := prog_1_method_9_code
def yX9_same : MethodName := ⟨RX9, "same", "(II)I"⟩
abbrev cX9_not : ByteArray := prog_1_method_10_code
def yX9_not : MethodName := ⟨RX9, "not", "(I)I"⟩
abbrev cX9_join : ByteArray := prog_1_method_11_code
def yX9_join : MethodName := ⟨RX9, "join", "(ZII)I"⟩
abbrev cX9_bind : ByteArray := prog_1_method_12_code
def yX9_bind : MethodName := ⟨RX9, "bind", "(ZII)I"⟩
abbrev cX9_ofFormula : ByteArray := prog_1_method_14_code
def yX9_ofFormula : MethodName := ⟨RX9, "ofFormula", "(II)I"⟩
abbrev cX9_isSafe : ByteArray := prog_1_method_15_code
def yX9_isSafe : MethodName := ⟨RX9, "isSafe", "(I)Z"⟩
abbrev cX9_loose : ByteArray := prog_1_method_16_code
def yX9_loose : MethodName := ⟨RX9, "loose", "(I)I"⟩
abbrev cX9_answers : ByteArray := prog_1_method_17_code
def yX9_answers : MethodName := ⟨RX9, "answers", "(I)I"⟩
abbrev cX9_answer : ByteArray := prog_1_method_18_code
def yX9_answer : MethodName := ⟨RX9, "answer", "(III)I"⟩
abbrev cX9_rule : ByteArray := prog_1_method_19_code
def yX9_rule : MethodName := ⟨RX9, "rule", "(IIII)I"⟩
abbrev cX9_add : ByteArray := prog_1_method_20_code
def yX9_add : MethodName := ⟨RX9, "add", "(IIIII)I"⟩
abbrev cX9_ofRule : ByteArray := prog_1_method_22_code
def yX9_ofRule : MethodName := ⟨RX9, "ofRule", "(II)I"⟩
abbrev cX9_tells : ByteArray := prog_1_method_23_code
def yX9_tells : MethodName := ⟨RX9, "tells", "(I)I"⟩
abbrev cX9_order : ByteArray := prog_1_method_25_code
def yX9_order : MethodName := ⟨RX9, "order", "(III)I"⟩
abbrev cX9_isWithin : ByteArray := prog_1_method_26_code
def yX9_isWithin : MethodName := ⟨RX9, "isWithin", "(II)Z"⟩
abbrev cX9_shorten : ByteArray := prog_1_method_28_code
def yX9_shorten : MethodName := ⟨RX9, "shorten", "(I)I"⟩
abbrev cX9_share : ByteArray := prog_1_method_31_code
def yX9_share : MethodName := ⟨RX9, "share", "(I)D"⟩
abbrev cX9_digest : ByteArray := prog_1_method_32_code
def yX9_digest : MethodName := ⟨RX9, "digest", "()J"⟩
abbrev cX9_mix : ByteArray := prog_1_method_33_code
def yX9_mix : MethodName := ⟨RX9, "mix", "(JJ)J"⟩
abbrev cX9_mixRelation : ByteArray := prog_1_method_34_code
def yX9_mixRelation : MethodName := ⟨RX9, "mixRelation", "(JLThimble$Relation;)J"⟩
abbrev cX9_mixFormula : ByteArray := prog_1_method_35_code
def yX9_mixFormula : MethodName := ⟨RX9, "mixFormula", "(JI)J"⟩
abbrev cX9_mixRule : ByteArray := prog_1_method_36_code
def yX9_mixRule : MethodName := ⟨RX9, "mixRule", "(JLThimble$Rule;)J"⟩
abbrev cX9_relationAt : ByteArray := prog_1_method_37_code
def yX9_relationAt : MethodName := ⟨RX9, "relationAt", "(I)LThimble$Relation;"⟩
abbrev cX9_formulaAt : ByteArray := prog_1_method_38_code
def yX9_formulaAt : MethodName := ⟨RX9, "formulaAt", "(I)LThimble$Formula;"⟩
abbrev cX9_ruleAt : ByteArray := prog_1_method_39_code
def yX9_ruleAt : MethodName := ⟨RX9, "ruleAt", "(I)LThimble$Rule;"⟩
abbrev cX9_needValues : ByteArray := prog_1_method_41_code
def yX9_needValues : MethodName := ⟨RX9, "needValues", "(IIII)V"⟩
abbrev cX9_needTerms : ByteArray := prog_1_method_42_code
def yX9_needTerms : MethodName := ⟨RX9, "needTerms", "(IIII)V"⟩
abbrev cX9_needRoomForFormulas : ByteArray := prog_1_method_43_code
def yX9_needRoomForFormulas : MethodName := ⟨RX9, "needRoomForFormulas", "(I)V"⟩
abbrev cX9_needLength : ByteArray := prog_1_method_44_code
def yX9_needLength : MethodName := ⟨RX9, "needLength", "(I)V"⟩
abbrev cX9_needFewFree : ByteArray := prog_1_method_45_code
def yX9_needFewFree : MethodName := ⟨RX9, "needFewFree", "(LThimble$Formula;)V"⟩
abbrev cX9_needGrounded : ByteArray := prog_1_method_46_code
def yX9_needGrounded : MethodName := ⟨RX9, "needGrounded", "(LThimble$Rule;)V"⟩
abbrev cX9_valueOfRow : ByteArray := prog_1_method_47_code
def yX9_valueOfRow : MethodName := ⟨RX9, "valueOfRow", "(LThimble$RowSet;III)I"⟩
abbrev cX9_isVariable : ByteArray := prog_1_method_48_code
def yX9_isVariable : MethodName := ⟨RX9, "isVariable", "(I)Z"⟩
abbrev cX9_isValue : ByteArray := prog_1_method_49_code
def yX9_isValue : MethodName := ⟨RX9, "isValue", "(I)Z"⟩
abbrev cX9_isTerm : ByteArray := prog_1_method_50_code
def yX9_isTerm : MethodName := ⟨RX9, "isTerm", "(I)Z"⟩
abbrev cX9_isIn : ByteArray := prog_1_method_51_code
def yX9_isIn : MethodName := ⟨RX9, "isIn", "(II)Z"⟩
abbrev cX9_rowOf : ByteArray := prog_1_method_52_code
def yX9_rowOf : MethodName := ⟨RX9, "rowOf", "(IIII)I"⟩
abbrev cX9_keep : ByteArray := prog_1_method_53_code
def yX9_keep : MethodName := ⟨RX9, "keep", "(LThimble$Formula;)I"⟩
abbrev cX9_domainOf : ByteArray := prog_1_method_54_code
def yX9_domainOf : MethodName := ⟨RX9, "domainOf", "(LThimble$Formula;)I"⟩
def RX10 : String := "ThimbleLaw$Loom"
def TX10 : u_T := fun k => match k with
  | 0 => ("ThimbleLaw$Loom", "places", "[I", false)
  | 1 => ("ThimbleLaw$Loom", "facts", "[[[I", false)
  | _ => ("ThimbleLaw$Loom", "formulas", "[[I", false)
def tyX10 : Nat → FieldType := fun k => match k with
  | 0 => .array .int
  | 1 => .array (.array (.array .int))
  | _ => .array (.array .int)
theorem nmX10 : ∀ a, a < 3 → ∀ b, b < 3 → a ≠ b → (TX10 a).2.1 ≠ (TX10 b).2.1 := by decide +kernel
theorem tyX10_ok : ∀ k, k < 3 → parseFieldDescriptor (TX10 k).2.2.1 = some (tyX10 k) := by decide +kernel
abbrev cX10_init : ByteArray := prog_12_method_1_code
def yX10_init : MethodName := ⟨RX10, "<init>", "()V"⟩
abbrev cX10_with : ByteArray := prog_12_method_2_code
def yX10_with : MethodName := ⟨RX10, "with", "([II)[I"⟩
abbrev cX10_with_ : ByteArray := prog_12_method_3_code
def yX10_with_ : MethodName := ⟨RX10, "with", "([[I[I)[[I"⟩
abbrev cX10_order : ByteArray := prog_12_method_4_code
def yX10_order : MethodName := ⟨RX10, "order", "([I[I)I"⟩
abbrev cX10_put : ByteArray := prog_12_method_5_code
def yX10_put : MethodName := ⟨RX10, "put", "([[I[I)[[I"⟩
abbrev cX10_isFact : ByteArray := prog_12_method_6_code
def yX10_isFact : MethodName := ⟨RX10, "isFact", "(I[I)Z"⟩
abbrev cX10_relation : ByteArray := prog_12_method_7_code
def yX10_relation : MethodName := ⟨RX10, "relation", "(LThimble;I)I"⟩
abbrev cX10_fact : ByteArray := prog_12_method_8_code
def yX10_fact : MethodName := ⟨RX10, "fact", "(LThimble;IIII)I"⟩
abbrev cX10_parts : ByteArray := prog_12_method_9_code
def yX10_parts : MethodName := ⟨RX10, "parts", "([I)I"⟩
abbrev cX10_terms : ByteArray := prog_12_method_10_code
def yX10_terms : MethodName := ⟨RX10, "terms", "([I)[I"⟩
abbrev cX10_depth : ByteArray := prog_12_method_12_code
def yX10_depth : MethodName := ⟨RX10, "depth", "(I)I"⟩
abbrev cX10_length : ByteArray := prog_12_method_13_code
def yX10_length : MethodName := ⟨RX10, "length", "(I)I"⟩
abbrev cX10_holds : ByteArray := prog_12_method_18_code
def yX10_holds : MethodName := ⟨RX10, "holds", "(I[II)Z"⟩
abbrev cX10_add : ByteArray := prog_12_method_20_code
def yX10_add : MethodName := ⟨RX10, "add", "(LThimble;[I)I"⟩
def TX11 : u_T := fun k => match k with
  | _ => ("", "", "", false)
def tyX11 : Nat → FieldType := fun k => match k with
  | _ => .int
theorem nmX11 : ∀ a, a < 0 → ∀ b, b < 0 → a ≠ b → (TX11 a).2.1 ≠ (TX11 b).2.1 := by decide +kernel
theorem tyX11_ok : ∀ k, k < 0 → parseFieldDescriptor (TX11 k).2.2.1 = some (tyX11 k) := by decide +kernel
def TX12 : u_T := fun k => match k with
  | _ => ("", "", "", false)
def tyX12 : Nat → FieldType := fun k => match k with
  | _ => .int
theorem nmX12 : ∀ a, a < 0 → ∀ b, b < 0 → a ≠ b → (TX12 a).2.1 ≠ (TX12 b).2.1 := by decide +kernel
theorem tyX12_ok : ∀ k, k < 0 → parseFieldDescriptor (TX12 k).2.2.1 = some (tyX12 k) := by decide +kernel
def TX13 : u_T := fun k => match k with
  | _ => ("", "", "", false)
def tyX13 : Nat → FieldType := fun k => match k with
  | _ => .int
theorem nmX13 : ∀ a, a < 0 → ∀ b, b < 0 → a ≠ b → (TX13 a).2.1 ≠ (TX13 b).2.1 := by decide +kernel
theorem tyX13_ok : ∀ k, k < 0 → parseFieldDescriptor (TX13 k).2.2.1 = some (tyX13 k) := by decide +kernel
def TX14 : u_T := fun k => match k with
  | _ => ("", "", "", false)
def tyX14 : Nat → FieldType := fun k => match k with
  | _ => .int
theorem nmX14 : ∀ a, a < 0 → ∀ b, b < 0 → a ≠ b → (TX14 a).2.1 ≠ (TX14 b).2.1 := by decide +kernel
theorem tyX14_ok : ∀ k, k < 0 → parseFieldDescriptor (TX14 k).2.2.1 = some (tyX14 k) := by decide +kernel
def TX15 : u_T := fun k => match k with
  | _ => ("", "", "", false)
def tyX15 : Nat → FieldType := fun k => match k with
  | _ => .int
theorem nmX15 : ∀ a, a < 0 → ∀ b, b < 0 → a ≠ b → (TX15 a).2.1 ≠ (TX15 b).2.1 := by decide +kernel
theorem tyX15_ok : ∀ k, k < 0 → parseFieldDescriptor (TX15 k).2.2.1 = some (tyX15 k) := by decide +kernel
def RJ6 : String := "java/lang/Integer"
abbrev cJ6_numberOfTrailingZeros_0f7a4 : ByteArray := prog_22_method_48_code
def yJ6_numberOfTrailingZeros_0f7a4 : MethodName := ⟨RJ6, "numberOfTrailingZeros", "(I)I"⟩
abbrev cJ6_bitCount_0f7a4 : ByteArray := prog_22_method_49_code
def yJ6_bitCount_0f7a4 : MethodName := ⟨RJ6, "bitCount", "(I)I"⟩
def RJ13 : String := "java/lang/Long"
abbrev cJ13_numberOfTrailingZeros_95d88 : ByteArray := prog_23_method_49_code
def yJ13_numberOfTrailingZeros_95d88 : MethodName := ⟨RJ13, "numberOfTrailingZeros", "(J)I"⟩
abbrev cJ13_bitCount_95d88 : ByteArray := prog_23_method_50_code
def yJ13_bitCount_95d88 : MethodName := ⟨RJ13, "bitCount", "(J)I"⟩
def RJ9 : String := "java/lang/Math"
abbrev cJ9_max_7cf53 : ByteArray := prog_24_method_65_code
def yJ9_max_7cf53 : MethodName := ⟨RJ9, "max", "(II)I"⟩
abbrev cJ9_min_7cf53 : ByteArray := prog_24_method_69_code
def yJ9_min_7cf53 : MethodName := ⟨RJ9, "min", "(II)I"⟩
def RL : String := "ThimbleLaw"
abbrev cL_below : ByteArray := method_2_code
def yL_below : MethodName := ⟨RL, "below", "(II)I"⟩
abbrev cL_cell : ByteArray := method_3_code
def yL_cell : MethodName := ⟨RL, "cell", "([II)I"⟩
abbrev cL_term : ByteArray := method_4_code
def yL_term : MethodName := ⟨RL, "term", "(II)I"⟩
abbrev cL_relations : ByteArray := method_5_code
def yL_relations : MethodName := ⟨RL, "relations", "(LThimble;[II)LThimbleLaw$Loom;"⟩
abbrev cL_tell : ByteArray := method_6_code
def yL_tell : MethodName := ⟨RL, "tell", "(LThimble;LThimbleLaw$Loom;[III)Z"⟩
abbrev cL_law : ByteArray := code
def yL_law : MethodName := ⟨RL, "law", "([I)Z"⟩
abbrev vwCl : List vw_C := [(RX0, TX0, 2), (RX1, TX1, 13), (RX2, TX2, 3), (RX3, TX3, 6), (RX4, TX4, 6), (RX5, TX5, 2), (RX6, TX6, 3), (RX7, TX7, 4), (RX8, TX8, 7), (RX9, TX9, 9), (RX10, TX10, 3)]
/-- the tables' steady words -/
def WALL : List Cond := lw_tbl.filter goodWord
theorem WALL_tbl : ∀ w ∈ WALL, w ∈ lw_tbl := fun w h => (List.mem_filter.mp h).1
theorem WALL_good : ∀ w ∈ WALL, goodWord w = true := fun w h => (List.mem_filter.mp h).2
theorem WALL_in {w : Cond} (i : Nat) (h : lw_tbl[i]? = some w) (g : goodWord w = true) : w ∈ WALL := List.mem_filter.mpr ⟨List.mem_of_getElem? h, g⟩
theorem gV {own C : String} {idx : Nat} {y : MethodName} {b : ByteArray} {ml : Nat} {rt : Option FieldType} (h1 : Cond.methodLink own idx y ∈ WALL) (h2 : Cond.instanceMethod y ∈ WALL) (h3 : Cond.selects C y y ∈ WALL) (h4 : Cond.initialized C ∈ WALL) (h5 : Cond.code y b ml rt ∈ WALL) : GoodIn WALL (wsV own idx C y (.code y b ml rt :: WALL)) := by
  intro w hw
  have hm : w ∈ WALL := by
    simp only [wsV, List.cons_append, List.nil_append, List.mem_cons] at hw
    rcases hw with rfl | rfl | rfl | rfl | rfl | h
    · exact h1
    · exact h2
    · exact h3
    · exact h4
    · exact h5
    · exact h
  exact ⟨hm, good_of_word (WALL_good w hm)⟩
theorem gS {own : String} {idx : Nat} {y : MethodName} {b : ByteArray} {ml : Nat} {rt : Option FieldType} (h1 : Cond.methodLink own idx y ∈ WALL) (h2 : Cond.static y ∈ WALL) (h4 : Cond.initialized y.cls ∈ WALL) (h5 : Cond.code y b ml rt ∈ WALL) : GoodIn WALL (va_wsS own idx y (.code y b ml rt :: WALL)) := by
  intro w hw
  have hm : w ∈ WALL := by
    simp only [va_wsS, List.cons_append, List.nil_append, List.mem_cons] at hw
    rcases hw with rfl | rfl | rfl | rfl | h
    · exact h1
    · exact h2
    · exact h4
    · exact h5
    · exact h
  exact ⟨hm, good_of_word (WALL_good w hm)⟩
theorem gB {y : MethodName} {b : ByteArray} {ml : Nat} {rt : Option FieldType} (h5 : Cond.code y b ml rt ∈ WALL) : GoodIn WALL (.code y b ml rt :: WALL) := by
  intro w hw
  have hm : w ∈ WALL := (List.mem_cons.mp hw).elim (fun h => h ▸ h5) id
  exact ⟨hm, good_of_word (WALL_good w hm)⟩
theorem se_X9_relationAt : Cond.selects RX9 yX9_relationAt yX9_relationAt ∈ WALL := WALL_in 0 (by decide +kernel) rfl
theorem se_X9_formulaAt : Cond.selects RX9 yX9_formulaAt yX9_formulaAt ∈ WALL := WALL_in 2 (by decide +kernel) rfl
theorem se_X9_domainOf : Cond.selects RX9 yX9_domainOf yX9_domainOf ∈ WALL := WALL_in 3 (by decide +kernel) rfl
theorem se_X2_asked : Cond.selects RX2 yX2_asked yX2_asked ∈ WALL := WALL_in 4 (by decide +kernel) rfl
theorem se_X2_takes : Cond.selects RX2 yX2_takes yX2_takes ∈ WALL := WALL_in 5 (by decide +kernel) rfl
theorem se_X2_holding : Cond.selects RX2 yX2_holding yX2_holding ∈ WALL := WALL_in 6 (by decide +kernel) rfl
theorem se_X2_holdingAtom : Cond.selects RX2 yX2_holdingAtom yX2_holdingAtom ∈ WALL := WALL_in 7 (by decide +kernel) rfl
theorem se_X0_alikeBefore : Cond.selects RX0 yX0_alikeBefore yX0_alikeBefore ∈ WALL := WALL_in 8 (by decide +kernel) rfl
theorem se_X2_holdingSame : Cond.selects RX2 yX2_holdingSame yX2_holdingSame ∈ WALL := WALL_in 9 (by decide +kernel) rfl
theorem se_X2_lanesWhere : Cond.selects RX2 yX2_lanesWhere yX2_lanesWhere ∈ WALL := WALL_in 10 (by decide +kernel) rfl
theorem se_X2_someLane : Cond.selects RX2 yX2_someLane yX2_someLane ∈ WALL := WALL_in 11 (by decide +kernel) rfl
theorem se_X2_someValue : Cond.selects RX2 yX2_someValue yX2_someValue ∈ WALL := WALL_in 12 (by decide +kernel) rfl
theorem se_X2_everyValue : Cond.selects RX2 yX2_everyValue yX2_everyValue ∈ WALL := WALL_in 13 (by decide +kernel) rfl
theorem se_X2_include : Cond.selects RX2 yX2_include yX2_include ∈ WALL := WALL_in 14 (by decide +kernel) rfl
theorem se_X9_ruleAt : Cond.selects RX9 yX9_ruleAt yX9_ruleAt ∈ WALL := WALL_in 15 (by decide +kernel) rfl
theorem se_X3_mapsHead : Cond.selects RX3 yX3_mapsHead yX3_mapsHead ∈ WALL := WALL_in 16 (by decide +kernel) rfl
theorem se_X3_lets : Cond.selects RX3 yX3_lets yX3_lets ∈ WALL := WALL_in 17 (by decide +kernel) rfl
theorem se_X3_mapsAtomsFrom : Cond.selects RX3 yX3_mapsAtomsFrom yX3_mapsAtomsFrom ∈ WALL := WALL_in 18 (by decide +kernel) rfl
theorem se_X3_mapsAtom : Cond.selects RX3 yX3_mapsAtom yX3_mapsAtom ∈ WALL := WALL_in 19 (by decide +kernel) rfl
theorem se_X8_nextOf : Cond.selects RX8 yX8_nextOf yX8_nextOf ∈ WALL := WALL_in 20 (by decide +kernel) rfl
theorem se_X8_goOn : Cond.selects RX8 yX8_goOn yX8_goOn ∈ WALL := WALL_in 21 (by decide +kernel) rfl
theorem se_X8_isTold : Cond.selects RX8 yX8_isTold yX8_isTold ∈ WALL := WALL_in 22 (by decide +kernel) rfl
theorem se_X8_headRow : Cond.selects RX8 yX8_headRow yX8_headRow ∈ WALL := WALL_in 23 (by decide +kernel) rfl
theorem se_X8_freshIn : Cond.selects RX8 yX8_freshIn yX8_freshIn ∈ WALL := WALL_in 24 (by decide +kernel) rfl
theorem se_X8_learn : Cond.selects RX8 yX8_learn yX8_learn ∈ WALL := WALL_in 25 (by decide +kernel) rfl
theorem se_X8_forget : Cond.selects RX8 yX8_forget yX8_forget ∈ WALL := WALL_in 26 (by decide +kernel) rfl
theorem se_X9_mixFormula : Cond.selects RX9 yX9_mixFormula yX9_mixFormula ∈ WALL := WALL_in 27 (by decide +kernel) rfl
theorem se_X9_mixRule : Cond.selects RX9 yX9_mixRule yX9_mixRule ∈ WALL := WALL_in 28 (by decide +kernel) rfl
theorem se_X4_placeFor : Cond.selects RX4 yX4_placeFor yX4_placeFor ∈ WALL := WALL_in 29 (by decide +kernel) rfl
theorem se_X4_mark : Cond.selects RX4 yX4_mark yX4_mark ∈ WALL := WALL_in 30 (by decide +kernel) rfl
theorem se_X4_markPlace : Cond.selects RX4 yX4_markPlace yX4_markPlace ∈ WALL := WALL_in 31 (by decide +kernel) rfl
theorem se_X10_parts : Cond.selects RX10 yX10_parts yX10_parts ∈ WALL := WALL_in 32 (by decide +kernel) rfl
theorem se_X9_needRoomForFormulas : Cond.selects RX9 yX9_needRoomForFormulas yX9_needRoomForFormulas ∈ WALL := WALL_in 33 (by decide +kernel) rfl
theorem se_X9_keep : Cond.selects RX9 yX9_keep yX9_keep ∈ WALL := WALL_in 34 (by decide +kernel) rfl
theorem se_X1_isLoose : Cond.selects RX1 yX1_isLoose yX1_isLoose ∈ WALL := WALL_in 35 (by decide +kernel) rfl
theorem se_X1_passedOn : Cond.selects RX1 yX1_passedOn yX1_passedOn ∈ WALL := WALL_in 36 (by decide +kernel) rfl
theorem ni_L : Cond.initialized RL ∈ WALL := WALL_in 37 (by decide +kernel) rfl
theorem ni_X9 : Cond.initialized RX9 ∈ WALL := WALL_in 38 (by decide +kernel) rfl
theorem ni_X2 : Cond.initialized RX2 ∈ WALL := WALL_in 39 (by decide +kernel) rfl
theorem ni_X5 : Cond.initialized RX5 ∈ WALL := WALL_in 40 (by decide +kernel) rfl
theorem ni_X8 : Cond.initialized RX8 ∈ WALL := WALL_in 41 (by decide +kernel) rfl
theorem ni_X3 : Cond.initialized RX3 ∈ WALL := WALL_in 42 (by decide +kernel) rfl
theorem ni_X10 : Cond.initialized RX10 ∈ WALL := WALL_in 43 (by decide +kernel) rfl
theorem ni_X4 : Cond.initialized RX4 ∈ WALL := WALL_in 50 (by decide +kernel) rfl
theorem ni_J9 : Cond.initialized RJ9 ∈ WALL := WALL_in 52 (by decide +kernel) rfl
theorem ni_X0 : Cond.initialized RX0 ∈ WALL := WALL_in 53 (by decide +kernel) rfl
theorem ni_X7 : Cond.initialized RX7 ∈ WALL := WALL_in 54 (by decide +kernel) rfl
theorem ni_X1 : Cond.initialized RX1 ∈ WALL := WALL_in 55 (by decide +kernel) rfl
theorem ni_X6 : Cond.initialized RX6 ∈ WALL := WALL_in 56 (by decide +kernel) rfl
theorem ni_J6 : Cond.initialized RJ6 ∈ WALL := WALL_in 58 (by decide +kernel) rfl
theorem ni_J13 : Cond.initialized RJ13 ∈ WALL := WALL_in 59 (by decide +kernel) rfl
theorem cl_L_48 : Cond.classLink RL 48 RX9 ∈ WALL := WALL_in 60 (by decide +kernel) rfl
theorem it_X9 : Cond.instantiable RX9 9 ∈ WALL := WALL_in 61 (by decide +kernel) rfl
theorem ml_L_50 : Cond.methodLink RL 50 yX9_init ∈ WALL := WALL_in 62 (by decide +kernel) rfl
theorem im_X9_init : Cond.instanceMethod yX9_init ∈ WALL := WALL_in 63 (by decide +kernel) rfl
theorem cd_X9_init : Cond.code yX9_init cX9_init 1 none ∈ WALL := WALL_in 64 (by decide +kernel) rfl
theorem ml_X9_1 : Cond.methodLink RX9 1 Lib.objectInit ∈ WALL := WALL_in 65 (by decide +kernel) rfl
theorem cl_X9_9 : Cond.classLink RX9 9 RX4 ∈ WALL := WALL_in 68 (by decide +kernel) rfl
theorem cl_X9_19 : Cond.classLink RX9 19 RX1 ∈ WALL := WALL_in 70 (by decide +kernel) rfl
theorem cl_X9_28 : Cond.classLink RX9 28 RX6 ∈ WALL := WALL_in 72 (by decide +kernel) rfl
theorem cl_X9_37 : Cond.classLink RX9 37 RX2 ∈ WALL := WALL_in 74 (by decide +kernel) rfl
theorem it_X2 : Cond.instantiable RX2 3 ∈ WALL := WALL_in 75 (by decide +kernel) rfl
theorem im_X2_init : Cond.instanceMethod yX2_init ∈ WALL := WALL_in 77 (by decide +kernel) rfl
theorem cd_X2_init : Cond.code yX2_init cX2_init 1 none ∈ WALL := WALL_in 78 (by decide +kernel) rfl
theorem ml_X2_3 : Cond.methodLink RX2 3 Lib.objectInit ∈ WALL := WALL_in 79 (by decide +kernel) rfl
theorem cl_X2_9 : Cond.classLink RX2 9 RX5 ∈ WALL := WALL_in 80 (by decide +kernel) rfl
theorem it_X5 : Cond.instantiable RX5 2 ∈ WALL := WALL_in 81 (by decide +kernel) rfl
theorem im_X5_init : Cond.instanceMethod yX5_init ∈ WALL := WALL_in 83 (by decide +kernel) rfl
theorem cd_X5_init : Cond.code yX5_init cX5_init 1 none ∈ WALL := WALL_in 84 (by decide +kernel) rfl
theorem ml_X5_3 : Cond.methodLink RX5 3 Lib.objectInit ∈ WALL := WALL_in 85 (by decide +kernel) rfl
theorem fl_X5_9 : Cond.fieldLink RX5 9 "Thimble$RowSet" "isRow" "[Z" ∈ WALL := WALL_in 86 (by decide +kernel) rfl
theorem fl_X5_15 : Cond.fieldLink RX5 15 "Thimble$RowSet" "many" "I" ∈ WALL := WALL_in 87 (by decide +kernel) rfl
theorem fl_X9_207 : Cond.fieldLink RX9 207 "Thimble$RowSet" "many" "I" ∈ WALL := WALL_in 88 (by decide +kernel) rfl
theorem ac_boolean : Cond.arrayClass .boolean ∈ WALL := WALL_in 94 (by decide +kernel) rfl
theorem fl_X2_12 : Cond.fieldLink RX2 12 "Thimble$Lanes" "found" "LThimble$RowSet;" ∈ WALL := WALL_in 95 (by decide +kernel) rfl
theorem fl_X2_18 : Cond.fieldLink RX2 18 "Thimble$Lanes" "value" "[I" ∈ WALL := WALL_in 96 (by decide +kernel) rfl
theorem fl_X2_22 : Cond.fieldLink RX2 22 "Thimble$Lanes" "domain" "I" ∈ WALL := WALL_in 97 (by decide +kernel) rfl
theorem ac_int : Cond.arrayClass .int ∈ WALL := WALL_in 105 (by decide +kernel) rfl
theorem cl_X9_44 : Cond.classLink RX9 44 RX8 ∈ WALL := WALL_in 106 (by decide +kernel) rfl
theorem it_X8 : Cond.instantiable RX8 7 ∈ WALL := WALL_in 107 (by decide +kernel) rfl
theorem im_X8_init : Cond.instanceMethod yX8_init ∈ WALL := WALL_in 109 (by decide +kernel) rfl
theorem cd_X8_init : Cond.code yX8_init cX8_init 1 none ∈ WALL := WALL_in 110 (by decide +kernel) rfl
theorem ml_X8_3 : Cond.methodLink RX8 3 Lib.objectInit ∈ WALL := WALL_in 111 (by decide +kernel) rfl
theorem cl_X8_18 : Cond.classLink RX8 18 RX5 ∈ WALL := WALL_in 112 (by decide +kernel) rfl
theorem fl_X8_9 : Cond.fieldLink RX8 9 "Thimble$Walk" "order" "[I" ∈ WALL := WALL_in 114 (by decide +kernel) rfl
theorem fl_X9_271 : Cond.fieldLink RX9 271 "Thimble$Walk" "order" "[I" ∈ WALL := WALL_in 115 (by decide +kernel) rfl
theorem fl_X8_15 : Cond.fieldLink RX8 15 "Thimble$Walk" "sizes" "[I" ∈ WALL := WALL_in 116 (by decide +kernel) rfl
theorem fl_X9_277 : Cond.fieldLink RX9 277 "Thimble$Walk" "sizes" "[I" ∈ WALL := WALL_in 117 (by decide +kernel) rfl
theorem fl_X8_21 : Cond.fieldLink RX8 21 "Thimble$Walk" "found" "LThimble$RowSet;" ∈ WALL := WALL_in 118 (by decide +kernel) rfl
theorem fl_X8_25 : Cond.fieldLink RX8 25 "Thimble$Walk" "value" "[I" ∈ WALL := WALL_in 119 (by decide +kernel) rfl
theorem fl_X8_28 : Cond.fieldLink RX8 28 "Thimble$Walk" "rule" "LThimble$Rule;" ∈ WALL := WALL_in 120 (by decide +kernel) rfl
theorem fl_X8_32 : Cond.fieldLink RX8 32 "Thimble$Walk" "isTelling" "Z" ∈ WALL := WALL_in 121 (by decide +kernel) rfl
theorem fl_X8_36 : Cond.fieldLink RX8 36 "Thimble$Walk" "headFrom" "I" ∈ WALL := WALL_in 122 (by decide +kernel) rfl
theorem cl_X9_51 : Cond.classLink RX9 51 RX3 ∈ WALL := WALL_in 138 (by decide +kernel) rfl
theorem it_X3 : Cond.instantiable RX3 6 ∈ WALL := WALL_in 139 (by decide +kernel) rfl
theorem im_X3_init : Cond.instanceMethod yX3_init ∈ WALL := WALL_in 141 (by decide +kernel) rfl
theorem cd_X3_init : Cond.code yX3_init cX3_init 1 none ∈ WALL := WALL_in 142 (by decide +kernel) rfl
theorem ml_X3_3 : Cond.methodLink RX3 3 Lib.objectInit ∈ WALL := WALL_in 143 (by decide +kernel) rfl
theorem fl_X3_9 : Cond.fieldLink RX3 9 "Thimble$MapSearch" "image" "[I" ∈ WALL := WALL_in 144 (by decide +kernel) rfl
theorem fl_X3_15 : Cond.fieldLink RX3 15 "Thimble$MapSearch" "settled" "I" ∈ WALL := WALL_in 145 (by decide +kernel) rfl
theorem fl_X3_19 : Cond.fieldLink RX3 19 "Thimble$MapSearch" "from" "LThimble$Rule;" ∈ WALL := WALL_in 146 (by decide +kernel) rfl
theorem fl_X3_23 : Cond.fieldLink RX3 23 "Thimble$MapSearch" "fromAtoms" "I" ∈ WALL := WALL_in 147 (by decide +kernel) rfl
theorem fl_X3_26 : Cond.fieldLink RX3 26 "Thimble$MapSearch" "to" "LThimble$Rule;" ∈ WALL := WALL_in 148 (by decide +kernel) rfl
theorem fl_X3_29 : Cond.fieldLink RX3 29 "Thimble$MapSearch" "toAtoms" "I" ∈ WALL := WALL_in 149 (by decide +kernel) rfl
theorem fl_X9_11 : Cond.fieldLink RX9 11 "Thimble" "relations" "[LThimble$Relation;" ∈ WALL := WALL_in 163 (by decide +kernel) rfl
theorem fl_X9_15 : Cond.fieldLink RX9 15 "Thimble" "relationCount" "I" ∈ WALL := WALL_in 164 (by decide +kernel) rfl
theorem fl_X9_21 : Cond.fieldLink RX9 21 "Thimble" "formulas" "[LThimble$Formula;" ∈ WALL := WALL_in 165 (by decide +kernel) rfl
theorem fl_X9_25 : Cond.fieldLink RX9 25 "Thimble" "formulaCount" "I" ∈ WALL := WALL_in 166 (by decide +kernel) rfl
theorem fl_X9_30 : Cond.fieldLink RX9 30 "Thimble" "rules" "[LThimble$Rule;" ∈ WALL := WALL_in 167 (by decide +kernel) rfl
theorem fl_X9_34 : Cond.fieldLink RX9 34 "Thimble" "ruleCount" "I" ∈ WALL := WALL_in 168 (by decide +kernel) rfl
theorem fl_X9_40 : Cond.fieldLink RX9 40 "Thimble" "lanes" "LThimble$Lanes;" ∈ WALL := WALL_in 169 (by decide +kernel) rfl
theorem fl_X9_47 : Cond.fieldLink RX9 47 "Thimble" "walk" "LThimble$Walk;" ∈ WALL := WALL_in 170 (by decide +kernel) rfl
theorem fl_X9_54 : Cond.fieldLink RX9 54 "Thimble" "search" "LThimble$MapSearch;" ∈ WALL := WALL_in 171 (by decide +kernel) rfl
theorem ml_L_70 : Cond.methodLink RL 70 yX9_facts ∈ WALL := WALL_in 191 (by decide +kernel) rfl
theorem im_X9_facts : Cond.instanceMethod yX9_facts ∈ WALL := WALL_in 192 (by decide +kernel) rfl
theorem se_X9_facts : Cond.selects RX9 yX9_facts yX9_facts ∈ WALL := WALL_in 193 (by decide +kernel) rfl
theorem cd_X9_facts : Cond.code yX9_facts cX9_facts 2 (some .int) ∈ WALL := WALL_in 194 (by decide +kernel) rfl
theorem ml_X9_73 : Cond.methodLink RX9 73 yX9_relationAt ∈ WALL := WALL_in 195 (by decide +kernel) rfl
theorem im_X9_relationAt : Cond.instanceMethod yX9_relationAt ∈ WALL := WALL_in 197 (by decide +kernel) rfl
theorem cd_X9_relationAt : Cond.code yX9_relationAt cX9_relationAt 2 (some (.object "Thimble$Relation")) ∈ WALL := WALL_in 198 (by decide +kernel) rfl
theorem ac_byte : Cond.arrayClass .byte ∈ WALL := WALL_in 266 (by decide +kernel) rfl
theorem ml_L_76 : Cond.methodLink RL 76 yX9_ofFormula ∈ WALL := WALL_in 267 (by decide +kernel) rfl
theorem im_X9_ofFormula : Cond.instanceMethod yX9_ofFormula ∈ WALL := WALL_in 268 (by decide +kernel) rfl
theorem se_X9_ofFormula : Cond.selects RX9 yX9_ofFormula yX9_ofFormula ∈ WALL := WALL_in 269 (by decide +kernel) rfl
theorem cd_X9_ofFormula : Cond.code yX9_ofFormula cX9_ofFormula 4 (some .int) ∈ WALL := WALL_in 270 (by decide +kernel) rfl
theorem ml_X9_141 : Cond.methodLink RX9 141 yX9_formulaAt ∈ WALL := WALL_in 271 (by decide +kernel) rfl
theorem im_X9_formulaAt : Cond.instanceMethod yX9_formulaAt ∈ WALL := WALL_in 273 (by decide +kernel) rfl
theorem cd_X9_formulaAt : Cond.code yX9_formulaAt cX9_formulaAt 2 (some (.object "Thimble$Formula")) ∈ WALL := WALL_in 274 (by decide +kernel) rfl
theorem ml_X9_191 : Cond.methodLink RX9 191 yX9_domainOf ∈ WALL := WALL_in 276 (by decide +kernel) rfl
theorem im_X9_domainOf : Cond.instanceMethod yX9_domainOf ∈ WALL := WALL_in 278 (by decide +kernel) rfl
theorem cd_X9_domainOf : Cond.code yX9_domainOf cX9_domainOf 4 (some .int) ∈ WALL := WALL_in 279 (by decide +kernel) rfl
theorem ml_L_95 : Cond.methodLink RL 95 yX9_isSafe ∈ WALL := WALL_in 296 (by decide +kernel) rfl
theorem im_X9_isSafe : Cond.instanceMethod yX9_isSafe ∈ WALL := WALL_in 297 (by decide +kernel) rfl
theorem se_X9_isSafe : Cond.selects RX9 yX9_isSafe yX9_isSafe ∈ WALL := WALL_in 298 (by decide +kernel) rfl
theorem cd_X9_isSafe : Cond.code yX9_isSafe cX9_isSafe 3 (some .boolean) ∈ WALL := WALL_in 299 (by decide +kernel) rfl
theorem ml_L_99 : Cond.methodLink RL 99 yX9_loose ∈ WALL := WALL_in 300 (by decide +kernel) rfl
theorem im_X9_loose : Cond.instanceMethod yX9_loose ∈ WALL := WALL_in 301 (by decide +kernel) rfl
theorem se_X9_loose : Cond.selects RX9 yX9_loose yX9_loose ∈ WALL := WALL_in 302 (by decide +kernel) rfl
theorem cd_X9_loose : Cond.code yX9_loose cX9_loose 2 (some .int) ∈ WALL := WALL_in 303 (by decide +kernel) rfl
theorem ml_L_84 : Cond.methodLink RL 84 yX9_answers ∈ WALL := WALL_in 304 (by decide +kernel) rfl
theorem im_X9_answers : Cond.instanceMethod yX9_answers ∈ WALL := WALL_in 305 (by decide +kernel) rfl
theorem se_X9_answers : Cond.selects RX9 yX9_answers yX9_answers ∈ WALL := WALL_in 306 (by decide +kernel) rfl
theorem cd_X9_answers : Cond.code yX9_answers cX9_answers 3 (some .int) ∈ WALL := WALL_in 307 (by decide +kernel) rfl
theorem ml_X9_199 : Cond.methodLink RX9 199 yX9_needFewFree ∈ WALL := WALL_in 308 (by decide +kernel) rfl
theorem sm_X9_needFewFree : Cond.static yX9_needFewFree ∈ WALL := WALL_in 309 (by decide +kernel) rfl
theorem cd_X9_needFewFree : Cond.code yX9_needFewFree cX9_needFewFree 1 none ∈ WALL := WALL_in 310 (by decide +kernel) rfl
theorem ml_X9_210 : Cond.methodLink RX9 210 yJ6_bitCount_0f7a4 ∈ WALL := WALL_in 311 (by decide +kernel) rfl
theorem sm_J6_bitCount_0f7a4 : Cond.static yJ6_bitCount_0f7a4 ∈ WALL := WALL_in 312 (by decide +kernel) rfl
theorem cd_J6_bitCount_0f7a4 : Cond.code yJ6_bitCount_0f7a4 cJ6_bitCount_0f7a4 1 (some .int) ∈ WALL := WALL_in 313 (by decide +kernel) rfl
theorem kc_J6_265 : Cond.constant RJ6 265 (1431655765) ∈ WALL := WALL_in 314 (by decide +kernel) rfl
theorem kc_J6_266 : Cond.constant RJ6 266 (858993459) ∈ WALL := WALL_in 315 (by decide +kernel) rfl
theorem kc_J6_267 : Cond.constant RJ6 267 (252645135) ∈ WALL := WALL_in 316 (by decide +kernel) rfl
theorem ml_X9_203 : Cond.methodLink RX9 203 yX2_answersOf ∈ WALL := WALL_in 333 (by decide +kernel) rfl
theorem im_X2_answersOf : Cond.instanceMethod yX2_answersOf ∈ WALL := WALL_in 334 (by decide +kernel) rfl
theorem se_X2_answersOf : Cond.selects RX2 yX2_answersOf yX2_answersOf ∈ WALL := WALL_in 335 (by decide +kernel) rfl
theorem cd_X2_answersOf : Cond.code yX2_answersOf cX2_answersOf 9 (some (.object "Thimble$RowSet")) ∈ WALL := WALL_in 336 (by decide +kernel) rfl
theorem ml_X2_26 : Cond.methodLink RX2 26 yX5_clear ∈ WALL := WALL_in 337 (by decide +kernel) rfl
theorem im_X5_clear : Cond.instanceMethod yX5_clear ∈ WALL := WALL_in 338 (by decide +kernel) rfl
theorem se_X5_clear : Cond.selects RX5 yX5_clear yX5_clear ∈ WALL := WALL_in 339 (by decide +kernel) rfl
theorem cd_X5_clear : Cond.code yX5_clear cX5_clear 2 none ∈ WALL := WALL_in 340 (by decide +kernel) rfl
theorem ml_X2_34 : Cond.methodLink RX2 34 yJ6_bitCount_0f7a4 ∈ WALL := WALL_in 341 (by decide +kernel) rfl
theorem ml_X2_40 : Cond.methodLink RX2 40 yX2_asked ∈ WALL := WALL_in 342 (by decide +kernel) rfl
theorem im_X2_asked : Cond.instanceMethod yX2_asked ∈ WALL := WALL_in 344 (by decide +kernel) rfl
theorem cd_X2_asked : Cond.code yX2_asked cX2_asked 2 (some .long) ∈ WALL := WALL_in 345 (by decide +kernel) rfl
theorem sm_X9_isIn : Cond.static yX9_isIn ∈ WALL := WALL_in 347 (by decide +kernel) rfl
theorem cd_X9_isIn : Cond.code yX9_isIn cX9_isIn 2 (some .boolean) ∈ WALL := WALL_in 348 (by decide +kernel) rfl
theorem ml_X2_59 : Cond.methodLink RX2 59 yX2_lanesWith ∈ WALL := WALL_in 349 (by decide +kernel) rfl
theorem sm_X2_lanesWith : Cond.static yX2_lanesWith ∈ WALL := WALL_in 350 (by decide +kernel) rfl
theorem cd_X2_lanesWith : Cond.code yX2_lanesWith cX2_lanesWith 5 (some .long) ∈ WALL := WALL_in 351 (by decide +kernel) rfl
theorem ml_X2_149 : Cond.methodLink RX2 149 yX2_lanesAt ∈ WALL := WALL_in 352 (by decide +kernel) rfl
theorem sm_X2_lanesAt : Cond.static yX2_lanesAt ∈ WALL := WALL_in 353 (by decide +kernel) rfl
theorem cd_X2_lanesAt : Cond.code yX2_lanesAt cX2_lanesAt 2 (some .long) ∈ WALL := WALL_in 354 (by decide +kernel) rfl
theorem kc_X2_160 : Cond.constantLong RX2 160 (255) ∈ WALL := WALL_in 355 (by decide +kernel) rfl
theorem kc_X2_162 : Cond.constantLong RX2 162 (72340172838076673) ∈ WALL := WALL_in 356 (by decide +kernel) rfl
theorem ml_X2_44 : Cond.methodLink RX2 44 yX2_takes ∈ WALL := WALL_in 357 (by decide +kernel) rfl
theorem im_X2_takes : Cond.instanceMethod yX2_takes ∈ WALL := WALL_in 359 (by decide +kernel) rfl
theorem cd_X2_takes : Cond.code yX2_takes cX2_takes 5 (some .boolean) ∈ WALL := WALL_in 360 (by decide +kernel) rfl
theorem ml_X2_48 : Cond.methodLink RX2 48 yX2_holding ∈ WALL := WALL_in 361 (by decide +kernel) rfl
theorem im_X2_holding : Cond.instanceMethod yX2_holding ∈ WALL := WALL_in 363 (by decide +kernel) rfl
theorem cd_X2_holding : Cond.code yX2_holding cX2_holding 4 (some .long) ∈ WALL := WALL_in 364 (by decide +kernel) rfl
theorem ml_X2_81 : Cond.methodLink RX2 81 yX2_holdingAtom ∈ WALL := WALL_in 365 (by decide +kernel) rfl
theorem im_X2_holdingAtom : Cond.instanceMethod yX2_holdingAtom ∈ WALL := WALL_in 367 (by decide +kernel) rfl
theorem cd_X2_holdingAtom : Cond.code yX2_holdingAtom cX2_holdingAtom 7 (some .long) ∈ WALL := WALL_in 368 (by decide +kernel) rfl
theorem ml_X2_115 : Cond.methodLink RX2 115 yX0_matching ∈ WALL := WALL_in 369 (by decide +kernel) rfl
theorem im_X0_matching : Cond.instanceMethod yX0_matching ∈ WALL := WALL_in 370 (by decide +kernel) rfl
theorem se_X0_matching : Cond.selects RX0 yX0_matching yX0_matching ∈ WALL := WALL_in 371 (by decide +kernel) rfl
theorem cd_X0_matching : Cond.code yX0_matching cX0_matching 5 (some .int) ∈ WALL := WALL_in 372 (by decide +kernel) rfl
theorem ml_X0_28 : Cond.methodLink RX0 28 yX7_valueOf ∈ WALL := WALL_in 373 (by decide +kernel) rfl
theorem im_X7_valueOf : Cond.instanceMethod yX7_valueOf ∈ WALL := WALL_in 374 (by decide +kernel) rfl
theorem se_X7_valueOf : Cond.selects RX7 yX7_valueOf yX7_valueOf ∈ WALL := WALL_in 375 (by decide +kernel) rfl
theorem cd_X7_valueOf : Cond.code yX7_valueOf cX7_valueOf 3 (some .int) ∈ WALL := WALL_in 376 (by decide +kernel) rfl
theorem ml_X0_36 : Cond.methodLink RX0 36 yX0_alikeBefore ∈ WALL := WALL_in 377 (by decide +kernel) rfl
theorem im_X0_alikeBefore : Cond.instanceMethod yX0_alikeBefore ∈ WALL := WALL_in 379 (by decide +kernel) rfl
theorem it_X0 : Cond.instantiable RX0 2 ∈ WALL := WALL_in 380 (by decide +kernel) rfl
theorem cd_X0_alikeBefore : Cond.code yX0_alikeBefore cX0_alikeBefore 4 (some .int) ∈ WALL := WALL_in 381 (by decide +kernel) rfl
theorem kc_X2_97 : Cond.constantLong RX2 97 (-1) ∈ WALL := WALL_in 382 (by decide +kernel) rfl
theorem ml_X2_127 : Cond.methodLink RX2 127 yJ6_numberOfTrailingZeros_0f7a4 ∈ WALL := WALL_in 383 (by decide +kernel) rfl
theorem sm_J6_numberOfTrailingZeros_0f7a4 : Cond.static yJ6_numberOfTrailingZeros_0f7a4 ∈ WALL := WALL_in 384 (by decide +kernel) rfl
theorem cd_J6_numberOfTrailingZeros_0f7a4 : Cond.code yJ6_numberOfTrailingZeros_0f7a4 cJ6_numberOfTrailingZeros_0f7a4 2 (some .int) ∈ WALL := WALL_in 385 (by decide +kernel) rfl
theorem kc_J6_264 : Cond.constant RJ6 264 (65536) ∈ WALL := WALL_in 386 (by decide +kernel) rfl
theorem ml_X2_129 : Cond.methodLink RX2 129 yX2_lanesOfFact ∈ WALL := WALL_in 387 (by decide +kernel) rfl
theorem sm_X2_lanesOfFact : Cond.static yX2_lanesOfFact ∈ WALL := WALL_in 388 (by decide +kernel) rfl
theorem cd_X2_lanesOfFact : Cond.code yX2_lanesOfFact cX2_lanesOfFact 6 (some .long) ∈ WALL := WALL_in 389 (by decide +kernel) rfl
theorem ml_X2_143 : Cond.methodLink RX2 143 yX4_valueAt ∈ WALL := WALL_in 390 (by decide +kernel) rfl
theorem im_X4_valueAt : Cond.instanceMethod yX4_valueAt ∈ WALL := WALL_in 391 (by decide +kernel) rfl
theorem se_X4_valueAt : Cond.selects RX4 yX4_valueAt yX4_valueAt ∈ WALL := WALL_in 392 (by decide +kernel) rfl
theorem cd_X4_valueAt : Cond.code yX4_valueAt cX4_valueAt 3 (some .int) ∈ WALL := WALL_in 393 (by decide +kernel) rfl
theorem ml_X2_89 : Cond.methodLink RX2 89 yX2_holdingSame ∈ WALL := WALL_in 394 (by decide +kernel) rfl
theorem im_X2_holdingSame : Cond.instanceMethod yX2_holdingSame ∈ WALL := WALL_in 396 (by decide +kernel) rfl
theorem cd_X2_holdingSame : Cond.code yX2_holdingSame cX2_holdingSame 5 (some .long) ∈ WALL := WALL_in 397 (by decide +kernel) rfl
theorem ml_X2_152 : Cond.methodLink RX2 152 yX2_lanesWhere ∈ WALL := WALL_in 398 (by decide +kernel) rfl
theorem im_X2_lanesWhere : Cond.instanceMethod yX2_lanesWhere ∈ WALL := WALL_in 400 (by decide +kernel) rfl
theorem cd_X2_lanesWhere : Cond.code yX2_lanesWhere cX2_lanesWhere 4 (some .long) ∈ WALL := WALL_in 401 (by decide +kernel) rfl
theorem ml_X2_156 : Cond.methodLink RX2 156 yX7_valueOf ∈ WALL := WALL_in 402 (by decide +kernel) rfl
theorem ml_X2_105 : Cond.methodLink RX2 105 yX2_someLane ∈ WALL := WALL_in 403 (by decide +kernel) rfl
theorem im_X2_someLane : Cond.instanceMethod yX2_someLane ∈ WALL := WALL_in 405 (by decide +kernel) rfl
theorem cd_X2_someLane : Cond.code yX2_someLane cX2_someLane 7 (some .long) ∈ WALL := WALL_in 406 (by decide +kernel) rfl
theorem ml_X2_109 : Cond.methodLink RX2 109 yX2_someValue ∈ WALL := WALL_in 407 (by decide +kernel) rfl
theorem im_X2_someValue : Cond.instanceMethod yX2_someValue ∈ WALL := WALL_in 409 (by decide +kernel) rfl
theorem cd_X2_someValue : Cond.code yX2_someValue cX2_someValue 6 (some .long) ∈ WALL := WALL_in 410 (by decide +kernel) rfl
theorem ml_X2_112 : Cond.methodLink RX2 112 yX2_everyValue ∈ WALL := WALL_in 411 (by decide +kernel) rfl
theorem im_X2_everyValue : Cond.instanceMethod yX2_everyValue ∈ WALL := WALL_in 413 (by decide +kernel) rfl
theorem cd_X2_everyValue : Cond.code yX2_everyValue cX2_everyValue 6 (some .long) ∈ WALL := WALL_in 414 (by decide +kernel) rfl
theorem ml_X2_52 : Cond.methodLink RX2 52 yX2_include ∈ WALL := WALL_in 415 (by decide +kernel) rfl
theorem im_X2_include : Cond.instanceMethod yX2_include ∈ WALL := WALL_in 417 (by decide +kernel) rfl
theorem cd_X2_include : Cond.code yX2_include cX2_include 13 none ∈ WALL := WALL_in 418 (by decide +kernel) rfl
theorem ml_X2_63 : Cond.methodLink RX2 63 yJ13_bitCount_95d88 ∈ WALL := WALL_in 419 (by decide +kernel) rfl
theorem sm_J13_bitCount_95d88 : Cond.static yJ13_bitCount_95d88 ∈ WALL := WALL_in 420 (by decide +kernel) rfl
theorem cd_J13_bitCount_95d88 : Cond.code yJ13_bitCount_95d88 cJ13_bitCount_95d88 2 (some .int) ∈ WALL := WALL_in 421 (by decide +kernel) rfl
theorem kc_J13_314 : Cond.constantLong RJ13 314 (6148914691236517205) ∈ WALL := WALL_in 422 (by decide +kernel) rfl
theorem kc_J13_316 : Cond.constantLong RJ13 316 (3689348814741910323) ∈ WALL := WALL_in 423 (by decide +kernel) rfl
theorem kc_J13_318 : Cond.constantLong RJ13 318 (1085102592571150095) ∈ WALL := WALL_in 424 (by decide +kernel) rfl
theorem ml_X2_68 : Cond.methodLink RX2 68 yJ13_numberOfTrailingZeros_95d88 ∈ WALL := WALL_in 425 (by decide +kernel) rfl
theorem sm_J13_numberOfTrailingZeros_95d88 : Cond.static yJ13_numberOfTrailingZeros_95d88 ∈ WALL := WALL_in 426 (by decide +kernel) rfl
theorem cd_J13_numberOfTrailingZeros_95d88 : Cond.code yJ13_numberOfTrailingZeros_95d88 cJ13_numberOfTrailingZeros_95d88 3 (some .int) ∈ WALL := WALL_in 427 (by decide +kernel) rfl
theorem ml_J13_311 : Cond.methodLink RJ13 311 yJ6_numberOfTrailingZeros_0f7a4 ∈ WALL := WALL_in 428 (by decide +kernel) rfl
theorem ml_X2_71 : Cond.methodLink RX2 71 yX5_include ∈ WALL := WALL_in 429 (by decide +kernel) rfl
theorem im_X5_include : Cond.instanceMethod yX5_include ∈ WALL := WALL_in 430 (by decide +kernel) rfl
theorem se_X5_include : Cond.selects RX5 yX5_include yX5_include ∈ WALL := WALL_in 431 (by decide +kernel) rfl
theorem cd_X5_include : Cond.code yX5_include cX5_include 2 none ∈ WALL := WALL_in 432 (by decide +kernel) rfl
theorem ml_L_87 : Cond.methodLink RL 87 yX9_answer ∈ WALL := WALL_in 433 (by decide +kernel) rfl
theorem im_X9_answer : Cond.instanceMethod yX9_answer ∈ WALL := WALL_in 434 (by decide +kernel) rfl
theorem se_X9_answer : Cond.selects RX9 yX9_answer yX9_answer ∈ WALL := WALL_in 435 (by decide +kernel) rfl
theorem cd_X9_answer : Cond.code yX9_answer cX9_answer 5 (some .int) ∈ WALL := WALL_in 436 (by decide +kernel) rfl
theorem ml_X9_216 : Cond.methodLink RX9 216 yX9_valueOfRow ∈ WALL := WALL_in 437 (by decide +kernel) rfl
theorem sm_X9_valueOfRow : Cond.static yX9_valueOfRow ∈ WALL := WALL_in 438 (by decide +kernel) rfl
theorem cd_X9_valueOfRow : Cond.code yX9_valueOfRow cX9_valueOfRow 4 (some .int) ∈ WALL := WALL_in 439 (by decide +kernel) rfl
theorem ml_X9_370 : Cond.methodLink RX9 370 yX5_at ∈ WALL := WALL_in 442 (by decide +kernel) rfl
theorem im_X5_at : Cond.instanceMethod yX5_at ∈ WALL := WALL_in 443 (by decide +kernel) rfl
theorem se_X5_at : Cond.selects RX5 yX5_at yX5_at ∈ WALL := WALL_in 444 (by decide +kernel) rfl
theorem cd_X5_at : Cond.code yX5_at cX5_at 4 (some .int) ∈ WALL := WALL_in 445 (by decide +kernel) rfl
theorem ml_L_59 : Cond.methodLink RL 59 yX9_rule ∈ WALL := WALL_in 446 (by decide +kernel) rfl
theorem im_X9_rule : Cond.instanceMethod yX9_rule ∈ WALL := WALL_in 447 (by decide +kernel) rfl
theorem se_X9_rule : Cond.selects RX9 yX9_rule yX9_rule ∈ WALL := WALL_in 448 (by decide +kernel) rfl
theorem cd_X9_rule : Cond.code yX9_rule cX9_rule 5 (some .int) ∈ WALL := WALL_in 449 (by decide +kernel) rfl
theorem ml_X9_114 : Cond.methodLink RX9 114 yX9_needTerms ∈ WALL := WALL_in 451 (by decide +kernel) rfl
theorem sm_X9_needTerms : Cond.static yX9_needTerms ∈ WALL := WALL_in 452 (by decide +kernel) rfl
theorem cd_X9_needTerms : Cond.code yX9_needTerms cX9_needTerms 4 none ∈ WALL := WALL_in 453 (by decide +kernel) rfl
theorem ml_X9_353 : Cond.methodLink RX9 353 yX9_isTerm ∈ WALL := WALL_in 454 (by decide +kernel) rfl
theorem sm_X9_isTerm : Cond.static yX9_isTerm ∈ WALL := WALL_in 455 (by decide +kernel) rfl
theorem cd_X9_isTerm : Cond.code yX9_isTerm cX9_isTerm 1 (some .boolean) ∈ WALL := WALL_in 456 (by decide +kernel) rfl
theorem ml_X9_162 : Cond.methodLink RX9 162 yX9_isVariable ∈ WALL := WALL_in 457 (by decide +kernel) rfl
theorem sm_X9_isVariable : Cond.static yX9_isVariable ∈ WALL := WALL_in 458 (by decide +kernel) rfl
theorem cd_X9_isVariable : Cond.code yX9_isVariable cX9_isVariable 1 (some .boolean) ∈ WALL := WALL_in 459 (by decide +kernel) rfl
theorem it_X6 : Cond.instantiable RX6 3 ∈ WALL := WALL_in 462 (by decide +kernel) rfl
theorem cl_X9_122 : Cond.classLink RX9 122 RX7 ∈ WALL := WALL_in 463 (by decide +kernel) rfl
theorem it_X7 : Cond.instantiable RX7 4 ∈ WALL := WALL_in 464 (by decide +kernel) rfl
theorem ml_X9_124 : Cond.methodLink RX9 124 yX7_init ∈ WALL := WALL_in 465 (by decide +kernel) rfl
theorem im_X7_init : Cond.instanceMethod yX7_init ∈ WALL := WALL_in 466 (by decide +kernel) rfl
theorem cd_X7_init : Cond.code yX7_init cX7_init 8 none ∈ WALL := WALL_in 467 (by decide +kernel) rfl
theorem ml_X7_3 : Cond.methodLink RX7 3 Lib.objectInit ∈ WALL := WALL_in 468 (by decide +kernel) rfl
theorem fl_X7_9 : Cond.fieldLink RX7 9 "Thimble$Terms" "many" "I" ∈ WALL := WALL_in 470 (by decide +kernel) rfl
theorem fl_X0_25 : Cond.fieldLink RX0 25 "Thimble$Terms" "many" "I" ∈ WALL := WALL_in 471 (by decide +kernel) rfl
theorem fl_X3_61 : Cond.fieldLink RX3 61 "Thimble$Terms" "many" "I" ∈ WALL := WALL_in 472 (by decide +kernel) rfl
theorem fl_X8_97 : Cond.fieldLink RX8 97 "Thimble$Terms" "many" "I" ∈ WALL := WALL_in 473 (by decide +kernel) rfl
theorem fl_X2_133 : Cond.fieldLink RX2 133 "Thimble$Terms" "many" "I" ∈ WALL := WALL_in 474 (by decide +kernel) rfl
theorem fl_X7_15 : Cond.fieldLink RX7 15 "Thimble$Terms" "term" "[I" ∈ WALL := WALL_in 475 (by decide +kernel) rfl
theorem fl_X0_40 : Cond.fieldLink RX0 40 "Thimble$Terms" "term" "[I" ∈ WALL := WALL_in 476 (by decide +kernel) rfl
theorem fl_X3_68 : Cond.fieldLink RX3 68 "Thimble$Terms" "term" "[I" ∈ WALL := WALL_in 477 (by decide +kernel) rfl
theorem fl_X8_98 : Cond.fieldLink RX8 98 "Thimble$Terms" "term" "[I" ∈ WALL := WALL_in 478 (by decide +kernel) rfl
theorem fl_X2_136 : Cond.fieldLink RX2 136 "Thimble$Terms" "term" "[I" ∈ WALL := WALL_in 479 (by decide +kernel) rfl
theorem fl_X7_23 : Cond.fieldLink RX7 23 "Thimble$Terms" "variables" "I" ∈ WALL := WALL_in 480 (by decide +kernel) rfl
theorem fl_X1_60 : Cond.fieldLink RX1 60 "Thimble$Terms" "variables" "I" ∈ WALL := WALL_in 481 (by decide +kernel) rfl
theorem fl_X8_53 : Cond.fieldLink RX8 53 "Thimble$Terms" "variables" "I" ∈ WALL := WALL_in 482 (by decide +kernel) rfl
theorem fl_X6_32 : Cond.fieldLink RX6 32 "Thimble$Terms" "variables" "I" ∈ WALL := WALL_in 483 (by decide +kernel) rfl
theorem fl_X2_122 : Cond.fieldLink RX2 122 "Thimble$Terms" "variables" "I" ∈ WALL := WALL_in 484 (by decide +kernel) rfl
theorem fl_X7_26 : Cond.fieldLink RX7 26 "Thimble$Terms" "values" "I" ∈ WALL := WALL_in 485 (by decide +kernel) rfl
theorem fl_X1_65 : Cond.fieldLink RX1 65 "Thimble$Terms" "values" "I" ∈ WALL := WALL_in 486 (by decide +kernel) rfl
theorem ml_X9_224 : Cond.methodLink RX9 224 yX6_init ∈ WALL := WALL_in 496 (by decide +kernel) rfl
theorem im_X6_init : Cond.instanceMethod yX6_init ∈ WALL := WALL_in 497 (by decide +kernel) rfl
theorem cd_X6_init : Cond.code yX6_init cX6_init 2 none ∈ WALL := WALL_in 498 (by decide +kernel) rfl
theorem ml_X6_3 : Cond.methodLink RX6 3 Lib.objectInit ∈ WALL := WALL_in 499 (by decide +kernel) rfl
theorem cl_X6_9 : Cond.classLink RX6 9 RX0 ∈ WALL := WALL_in 500 (by decide +kernel) rfl
theorem fl_X6_21 : Cond.fieldLink RX6 21 "Thimble$Rule" "head" "LThimble$Terms;" ∈ WALL := WALL_in 502 (by decide +kernel) rfl
theorem fl_X8_49 : Cond.fieldLink RX8 49 "Thimble$Rule" "head" "LThimble$Terms;" ∈ WALL := WALL_in 503 (by decide +kernel) rfl
theorem fl_X3_57 : Cond.fieldLink RX3 57 "Thimble$Rule" "head" "LThimble$Terms;" ∈ WALL := WALL_in 504 (by decide +kernel) rfl
theorem fl_X6_11 : Cond.fieldLink RX6 11 "Thimble$Rule" "atoms" "[LThimble$Atom;" ∈ WALL := WALL_in 505 (by decide +kernel) rfl
theorem fl_X8_62 : Cond.fieldLink RX8 62 "Thimble$Rule" "atoms" "[LThimble$Atom;" ∈ WALL := WALL_in 506 (by decide +kernel) rfl
theorem fl_X3_77 : Cond.fieldLink RX3 77 "Thimble$Rule" "atoms" "[LThimble$Atom;" ∈ WALL := WALL_in 507 (by decide +kernel) rfl
theorem fl_X9_234 : Cond.fieldLink RX9 234 "Thimble$Rule" "atoms" "[LThimble$Atom;" ∈ WALL := WALL_in 508 (by decide +kernel) rfl
theorem fl_X6_17 : Cond.fieldLink RX6 17 "Thimble$Rule" "many" "I" ∈ WALL := WALL_in 509 (by decide +kernel) rfl
theorem fl_X8_46 : Cond.fieldLink RX8 46 "Thimble$Rule" "many" "I" ∈ WALL := WALL_in 510 (by decide +kernel) rfl
theorem fl_X3_50 : Cond.fieldLink RX3 50 "Thimble$Rule" "many" "I" ∈ WALL := WALL_in 511 (by decide +kernel) rfl
theorem fl_X9_231 : Cond.fieldLink RX9 231 "Thimble$Rule" "many" "I" ∈ WALL := WALL_in 512 (by decide +kernel) rfl
theorem ml_L_63 : Cond.methodLink RL 63 yX9_add ∈ WALL := WALL_in 520 (by decide +kernel) rfl
theorem im_X9_add : Cond.instanceMethod yX9_add ∈ WALL := WALL_in 521 (by decide +kernel) rfl
theorem se_X9_add : Cond.selects RX9 yX9_add yX9_add ∈ WALL := WALL_in 522 (by decide +kernel) rfl
theorem cd_X9_add : Cond.code yX9_add cX9_add 8 (some .int) ∈ WALL := WALL_in 523 (by decide +kernel) rfl
theorem ml_X9_227 : Cond.methodLink RX9 227 yX9_ruleAt ∈ WALL := WALL_in 524 (by decide +kernel) rfl
theorem im_X9_ruleAt : Cond.instanceMethod yX9_ruleAt ∈ WALL := WALL_in 526 (by decide +kernel) rfl
theorem cd_X9_ruleAt : Cond.code yX9_ruleAt cX9_ruleAt 2 (some (.object "Thimble$Rule")) ∈ WALL := WALL_in 527 (by decide +kernel) rfl
theorem cl_X9_120 : Cond.classLink RX9 120 RX0 ∈ WALL := WALL_in 530 (by decide +kernel) rfl
theorem ml_X9_126 : Cond.methodLink RX9 126 yX0_init ∈ WALL := WALL_in 531 (by decide +kernel) rfl
theorem im_X0_init : Cond.instanceMethod yX0_init ∈ WALL := WALL_in 532 (by decide +kernel) rfl
theorem cd_X0_init : Cond.code yX0_init cX0_init 3 none ∈ WALL := WALL_in 533 (by decide +kernel) rfl
theorem ml_X0_3 : Cond.methodLink RX0 3 Lib.objectInit ∈ WALL := WALL_in 534 (by decide +kernel) rfl
theorem fl_X0_9 : Cond.fieldLink RX0 9 "Thimble$Atom" "relation" "LThimble$Relation;" ∈ WALL := WALL_in 535 (by decide +kernel) rfl
theorem fl_X8_90 : Cond.fieldLink RX8 90 "Thimble$Atom" "relation" "LThimble$Relation;" ∈ WALL := WALL_in 536 (by decide +kernel) rfl
theorem fl_X3_85 : Cond.fieldLink RX3 85 "Thimble$Atom" "relation" "LThimble$Relation;" ∈ WALL := WALL_in 537 (by decide +kernel) rfl
theorem fl_X2_139 : Cond.fieldLink RX2 139 "Thimble$Atom" "relation" "LThimble$Relation;" ∈ WALL := WALL_in 538 (by decide +kernel) rfl
theorem fl_X0_15 : Cond.fieldLink RX0 15 "Thimble$Atom" "terms" "LThimble$Terms;" ∈ WALL := WALL_in 539 (by decide +kernel) rfl
theorem fl_X1_57 : Cond.fieldLink RX1 57 "Thimble$Atom" "terms" "LThimble$Terms;" ∈ WALL := WALL_in 540 (by decide +kernel) rfl
theorem fl_X8_66 : Cond.fieldLink RX8 66 "Thimble$Atom" "terms" "LThimble$Terms;" ∈ WALL := WALL_in 541 (by decide +kernel) rfl
theorem fl_X6_29 : Cond.fieldLink RX6 29 "Thimble$Atom" "terms" "LThimble$Terms;" ∈ WALL := WALL_in 542 (by decide +kernel) rfl
theorem fl_X2_121 : Cond.fieldLink RX2 121 "Thimble$Atom" "terms" "LThimble$Terms;" ∈ WALL := WALL_in 543 (by decide +kernel) rfl
theorem fl_X3_91 : Cond.fieldLink RX3 91 "Thimble$Atom" "terms" "LThimble$Terms;" ∈ WALL := WALL_in 544 (by decide +kernel) rfl
theorem ml_L_106 : Cond.methodLink RL 106 yX9_ofRule ∈ WALL := WALL_in 550 (by decide +kernel) rfl
theorem im_X9_ofRule : Cond.instanceMethod yX9_ofRule ∈ WALL := WALL_in 551 (by decide +kernel) rfl
theorem se_X9_ofRule : Cond.selects RX9 yX9_ofRule yX9_ofRule ∈ WALL := WALL_in 552 (by decide +kernel) rfl
theorem cd_X9_ofRule : Cond.code yX9_ofRule cX9_ofRule 4 (some .int) ∈ WALL := WALL_in 553 (by decide +kernel) rfl
theorem ml_X9_238 : Cond.methodLink RX9 238 yX6_isGrounded ∈ WALL := WALL_in 554 (by decide +kernel) rfl
theorem im_X6_isGrounded : Cond.instanceMethod yX6_isGrounded ∈ WALL := WALL_in 555 (by decide +kernel) rfl
theorem se_X6_isGrounded : Cond.selects RX6 yX6_isGrounded yX6_isGrounded ∈ WALL := WALL_in 556 (by decide +kernel) rfl
theorem cd_X6_isGrounded : Cond.code yX6_isGrounded cX6_isGrounded 1 (some .boolean) ∈ WALL := WALL_in 557 (by decide +kernel) rfl
theorem ml_X6_37 : Cond.methodLink RX6 37 yX6_allAtoms ∈ WALL := WALL_in 558 (by decide +kernel) rfl
theorem im_X6_allAtoms : Cond.instanceMethod yX6_allAtoms ∈ WALL := WALL_in 559 (by decide +kernel) rfl
theorem se_X6_allAtoms : Cond.selects RX6 yX6_allAtoms yX6_allAtoms ∈ WALL := WALL_in 560 (by decide +kernel) rfl
theorem cd_X6_allAtoms : Cond.code yX6_allAtoms cX6_allAtoms 1 (some .int) ∈ WALL := WALL_in 561 (by decide +kernel) rfl
theorem ml_X6_41 : Cond.methodLink RX6 41 yX6_variablesIn ∈ WALL := WALL_in 562 (by decide +kernel) rfl
theorem im_X6_variablesIn : Cond.instanceMethod yX6_variablesIn ∈ WALL := WALL_in 563 (by decide +kernel) rfl
theorem se_X6_variablesIn : Cond.selects RX6 yX6_variablesIn yX6_variablesIn ∈ WALL := WALL_in 564 (by decide +kernel) rfl
theorem cd_X6_variablesIn : Cond.code yX6_variablesIn cX6_variablesIn 4 (some .int) ∈ WALL := WALL_in 565 (by decide +kernel) rfl
theorem ml_X9_242 : Cond.methodLink RX9 242 yX3_shortened ∈ WALL := WALL_in 567 (by decide +kernel) rfl
theorem im_X3_shortened : Cond.instanceMethod yX3_shortened ∈ WALL := WALL_in 568 (by decide +kernel) rfl
theorem se_X3_shortened : Cond.selects RX3 yX3_shortened yX3_shortened ∈ WALL := WALL_in 569 (by decide +kernel) rfl
theorem cd_X3_shortened : Cond.code yX3_shortened cX3_shortened 4 (some .int) ∈ WALL := WALL_in 570 (by decide +kernel) rfl
theorem ml_X3_44 : Cond.methodLink RX3 44 yX6_allAtoms ∈ WALL := WALL_in 571 (by decide +kernel) rfl
theorem ml_X3_53 : Cond.methodLink RX3 53 yX3_finds ∈ WALL := WALL_in 572 (by decide +kernel) rfl
theorem im_X3_finds : Cond.instanceMethod yX3_finds ∈ WALL := WALL_in 573 (by decide +kernel) rfl
theorem se_X3_finds : Cond.selects RX3 yX3_finds yX3_finds ∈ WALL := WALL_in 574 (by decide +kernel) rfl
theorem cd_X3_finds : Cond.code yX3_finds cX3_finds 5 (some .boolean) ∈ WALL := WALL_in 575 (by decide +kernel) rfl
theorem ml_X3_32 : Cond.methodLink RX3 32 yX3_mapsHead ∈ WALL := WALL_in 576 (by decide +kernel) rfl
theorem im_X3_mapsHead : Cond.instanceMethod yX3_mapsHead ∈ WALL := WALL_in 578 (by decide +kernel) rfl
theorem cd_X3_mapsHead : Cond.code yX3_mapsHead cX3_mapsHead 6 (some .boolean) ∈ WALL := WALL_in 579 (by decide +kernel) rfl
theorem ml_X3_64 : Cond.methodLink RX3 64 yX6_variablesIn ∈ WALL := WALL_in 580 (by decide +kernel) rfl
theorem ml_X3_74 : Cond.methodLink RX3 74 yX3_lets ∈ WALL := WALL_in 583 (by decide +kernel) rfl
theorem im_X3_lets : Cond.instanceMethod yX3_lets ∈ WALL := WALL_in 585 (by decide +kernel) rfl
theorem cd_X3_lets : Cond.code yX3_lets cX3_lets 3 (some .boolean) ∈ WALL := WALL_in 586 (by decide +kernel) rfl
theorem ml_X3_36 : Cond.methodLink RX3 36 yX3_mapsAtomsFrom ∈ WALL := WALL_in 587 (by decide +kernel) rfl
theorem im_X3_mapsAtomsFrom : Cond.instanceMethod yX3_mapsAtomsFrom ∈ WALL := WALL_in 589 (by decide +kernel) rfl
theorem cd_X3_mapsAtomsFrom : Cond.code yX3_mapsAtomsFrom cX3_mapsAtomsFrom 4 (some .boolean) ∈ WALL := WALL_in 590 (by decide +kernel) rfl
theorem ml_X3_81 : Cond.methodLink RX3 81 yX3_mapsAtom ∈ WALL := WALL_in 591 (by decide +kernel) rfl
theorem im_X3_mapsAtom : Cond.instanceMethod yX3_mapsAtom ∈ WALL := WALL_in 593 (by decide +kernel) rfl
theorem cd_X3_mapsAtom : Cond.code yX3_mapsAtom cX3_mapsAtom 5 (some .boolean) ∈ WALL := WALL_in 594 (by decide +kernel) rfl
theorem ml_L_111 : Cond.methodLink RL 111 yX9_tells ∈ WALL := WALL_in 596 (by decide +kernel) rfl
theorem im_X9_tells : Cond.instanceMethod yX9_tells ∈ WALL := WALL_in 597 (by decide +kernel) rfl
theorem se_X9_tells : Cond.selects RX9 yX9_tells yX9_tells ∈ WALL := WALL_in 598 (by decide +kernel) rfl
theorem cd_X9_tells : Cond.code yX9_tells cX9_tells 3 (some .int) ∈ WALL := WALL_in 599 (by decide +kernel) rfl
theorem ml_X9_248 : Cond.methodLink RX9 248 yX9_needGrounded ∈ WALL := WALL_in 600 (by decide +kernel) rfl
theorem sm_X9_needGrounded : Cond.static yX9_needGrounded ∈ WALL := WALL_in 601 (by decide +kernel) rfl
theorem cd_X9_needGrounded : Cond.code yX9_needGrounded cX9_needGrounded 1 none ∈ WALL := WALL_in 602 (by decide +kernel) rfl
theorem ml_X9_252 : Cond.methodLink RX9 252 yX8_tell ∈ WALL := WALL_in 604 (by decide +kernel) rfl
theorem im_X8_tell : Cond.instanceMethod yX8_tell ∈ WALL := WALL_in 605 (by decide +kernel) rfl
theorem se_X8_tell : Cond.selects RX8 yX8_tell yX8_tell ∈ WALL := WALL_in 606 (by decide +kernel) rfl
theorem cd_X8_tell : Cond.code yX8_tell cX8_tell 2 (some (.object "Thimble$RowSet")) ∈ WALL := WALL_in 607 (by decide +kernel) rfl
theorem ml_X8_71 : Cond.methodLink RX8 71 yX8_arrange ∈ WALL := WALL_in 608 (by decide +kernel) rfl
theorem im_X8_arrange : Cond.instanceMethod yX8_arrange ∈ WALL := WALL_in 609 (by decide +kernel) rfl
theorem se_X8_arrange : Cond.selects RX8 yX8_arrange yX8_arrange ∈ WALL := WALL_in 610 (by decide +kernel) rfl
theorem cd_X8_arrange : Cond.code yX8_arrange cX8_arrange 6 none ∈ WALL := WALL_in 611 (by decide +kernel) rfl
theorem ml_X8_40 : Cond.methodLink RX8 40 yX6_allAtoms ∈ WALL := WALL_in 612 (by decide +kernel) rfl
theorem ml_X8_58 : Cond.methodLink RX8 58 yX8_nextOf ∈ WALL := WALL_in 613 (by decide +kernel) rfl
theorem im_X8_nextOf : Cond.instanceMethod yX8_nextOf ∈ WALL := WALL_in 615 (by decide +kernel) rfl
theorem cd_X8_nextOf : Cond.code yX8_nextOf cX8_nextOf 7 (some .int) ∈ WALL := WALL_in 616 (by decide +kernel) rfl
theorem ml_X8_86 : Cond.methodLink RX8 86 yX8_knownPlaces ∈ WALL := WALL_in 618 (by decide +kernel) rfl
theorem sm_X8_knownPlaces : Cond.static yX8_knownPlaces ∈ WALL := WALL_in 619 (by decide +kernel) rfl
theorem cd_X8_knownPlaces : Cond.code yX8_knownPlaces cX8_knownPlaces 4 (some .int) ∈ WALL := WALL_in 620 (by decide +kernel) rfl
theorem ml_X8_79 : Cond.methodLink RX8 79 yX5_clear ∈ WALL := WALL_in 622 (by decide +kernel) rfl
theorem ml_X8_75 : Cond.methodLink RX8 75 yX8_goOn ∈ WALL := WALL_in 623 (by decide +kernel) rfl
theorem im_X8_goOn : Cond.instanceMethod yX8_goOn ∈ WALL := WALL_in 625 (by decide +kernel) rfl
theorem cd_X8_goOn : Cond.code yX8_goOn cX8_goOn 7 none ∈ WALL := WALL_in 626 (by decide +kernel) rfl
theorem ml_X8_105 : Cond.methodLink RX8 105 yX8_isTold ∈ WALL := WALL_in 627 (by decide +kernel) rfl
theorem im_X8_isTold : Cond.instanceMethod yX8_isTold ∈ WALL := WALL_in 629 (by decide +kernel) rfl
theorem cd_X8_isTold : Cond.code yX8_isTold cX8_isTold 3 (some .boolean) ∈ WALL := WALL_in 630 (by decide +kernel) rfl
theorem ml_X8_132 : Cond.methodLink RX8 132 yX8_headRow ∈ WALL := WALL_in 631 (by decide +kernel) rfl
theorem im_X8_headRow : Cond.instanceMethod yX8_headRow ∈ WALL := WALL_in 633 (by decide +kernel) rfl
theorem cd_X8_headRow : Cond.code yX8_headRow cX8_headRow 3 (some .int) ∈ WALL := WALL_in 634 (by decide +kernel) rfl
theorem ml_X8_141 : Cond.methodLink RX8 141 yX7_valueOf ∈ WALL := WALL_in 635 (by decide +kernel) rfl
theorem ml_X8_135 : Cond.methodLink RX8 135 yX5_include ∈ WALL := WALL_in 636 (by decide +kernel) rfl
theorem ml_X8_138 : Cond.methodLink RX8 138 yX5_has ∈ WALL := WALL_in 637 (by decide +kernel) rfl
theorem im_X5_has : Cond.instanceMethod yX5_has ∈ WALL := WALL_in 638 (by decide +kernel) rfl
theorem se_X5_has : Cond.selects RX5 yX5_has yX5_has ∈ WALL := WALL_in 639 (by decide +kernel) rfl
theorem cd_X5_has : Cond.code yX5_has cX5_has 2 (some .boolean) ∈ WALL := WALL_in 640 (by decide +kernel) rfl
theorem ml_X8_108 : Cond.methodLink RX8 108 yX0_matching ∈ WALL := WALL_in 641 (by decide +kernel) rfl
theorem ml_X8_112 : Cond.methodLink RX8 112 yJ6_bitCount_0f7a4 ∈ WALL := WALL_in 642 (by decide +kernel) rfl
theorem ml_X8_118 : Cond.methodLink RX8 118 yX8_freshIn ∈ WALL := WALL_in 643 (by decide +kernel) rfl
theorem im_X8_freshIn : Cond.instanceMethod yX8_freshIn ∈ WALL := WALL_in 645 (by decide +kernel) rfl
theorem cd_X8_freshIn : Cond.code yX8_freshIn cX8_freshIn 4 (some .int) ∈ WALL := WALL_in 646 (by decide +kernel) rfl
theorem ml_X8_122 : Cond.methodLink RX8 122 yJ6_numberOfTrailingZeros_0f7a4 ∈ WALL := WALL_in 647 (by decide +kernel) rfl
theorem ml_X8_125 : Cond.methodLink RX8 125 yX8_learn ∈ WALL := WALL_in 648 (by decide +kernel) rfl
theorem im_X8_learn : Cond.instanceMethod yX8_learn ∈ WALL := WALL_in 650 (by decide +kernel) rfl
theorem cd_X8_learn : Cond.code yX8_learn cX8_learn 5 none ∈ WALL := WALL_in 651 (by decide +kernel) rfl
theorem ml_X8_145 : Cond.methodLink RX8 145 yX4_valueAt ∈ WALL := WALL_in 652 (by decide +kernel) rfl
theorem ml_X8_129 : Cond.methodLink RX8 129 yX8_forget ∈ WALL := WALL_in 653 (by decide +kernel) rfl
theorem im_X8_forget : Cond.instanceMethod yX8_forget ∈ WALL := WALL_in 655 (by decide +kernel) rfl
theorem cd_X8_forget : Cond.code yX8_forget cX8_forget 3 none ∈ WALL := WALL_in 656 (by decide +kernel) rfl
theorem ml_L_109 : Cond.methodLink RL 109 yX9_order ∈ WALL := WALL_in 657 (by decide +kernel) rfl
theorem im_X9_order : Cond.instanceMethod yX9_order ∈ WALL := WALL_in 658 (by decide +kernel) rfl
theorem se_X9_order : Cond.selects RX9 yX9_order yX9_order ∈ WALL := WALL_in 659 (by decide +kernel) rfl
theorem cd_X9_order : Cond.code yX9_order cX9_order 5 (some .int) ∈ WALL := WALL_in 660 (by decide +kernel) rfl
theorem ml_X9_268 : Cond.methodLink RX9 268 yX8_arrange ∈ WALL := WALL_in 663 (by decide +kernel) rfl
theorem ml_X9_274 : Cond.methodLink RX9 274 yX8_measure ∈ WALL := WALL_in 664 (by decide +kernel) rfl
theorem im_X8_measure : Cond.instanceMethod yX8_measure ∈ WALL := WALL_in 665 (by decide +kernel) rfl
theorem se_X8_measure : Cond.selects RX8 yX8_measure yX8_measure ∈ WALL := WALL_in 666 (by decide +kernel) rfl
theorem cd_X8_measure : Cond.code yX8_measure cX8_measure 3 none ∈ WALL := WALL_in 667 (by decide +kernel) rfl
theorem ml_L_114 : Cond.methodLink RL 114 yX9_isWithin ∈ WALL := WALL_in 668 (by decide +kernel) rfl
theorem im_X9_isWithin : Cond.instanceMethod yX9_isWithin ∈ WALL := WALL_in 669 (by decide +kernel) rfl
theorem se_X9_isWithin : Cond.selects RX9 yX9_isWithin yX9_isWithin ∈ WALL := WALL_in 670 (by decide +kernel) rfl
theorem cd_X9_isWithin : Cond.code yX9_isWithin cX9_isWithin 5 (some .boolean) ∈ WALL := WALL_in 671 (by decide +kernel) rfl
theorem ml_X9_280 : Cond.methodLink RX9 280 yX6_allAtoms ∈ WALL := WALL_in 672 (by decide +kernel) rfl
theorem ml_X9_284 : Cond.methodLink RX9 284 yX3_finds ∈ WALL := WALL_in 673 (by decide +kernel) rfl
theorem ml_L_118 : Cond.methodLink RL 118 yX9_shorten ∈ WALL := WALL_in 674 (by decide +kernel) rfl
theorem im_X9_shorten : Cond.instanceMethod yX9_shorten ∈ WALL := WALL_in 675 (by decide +kernel) rfl
theorem se_X9_shorten : Cond.selects RX9 yX9_shorten yX9_shorten ∈ WALL := WALL_in 676 (by decide +kernel) rfl
theorem cd_X9_shorten : Cond.code yX9_shorten cX9_shorten 4 (some .int) ∈ WALL := WALL_in 677 (by decide +kernel) rfl
theorem ml_X9_291 : Cond.methodLink RX9 291 yX6_keepAtoms ∈ WALL := WALL_in 678 (by decide +kernel) rfl
theorem im_X6_keepAtoms : Cond.instanceMethod yX6_keepAtoms ∈ WALL := WALL_in 679 (by decide +kernel) rfl
theorem se_X6_keepAtoms : Cond.selects RX6 yX6_keepAtoms yX6_keepAtoms ∈ WALL := WALL_in 680 (by decide +kernel) rfl
theorem cd_X6_keepAtoms : Cond.code yX6_keepAtoms cX6_keepAtoms 4 none ∈ WALL := WALL_in 681 (by decide +kernel) rfl
theorem ml_L_102 : Cond.methodLink RL 102 yX9_share ∈ WALL := WALL_in 682 (by decide +kernel) rfl
theorem im_X9_share : Cond.instanceMethod yX9_share ∈ WALL := WALL_in 683 (by decide +kernel) rfl
theorem se_X9_share : Cond.selects RX9 yX9_share yX9_share ∈ WALL := WALL_in 684 (by decide +kernel) rfl
theorem cd_X9_share : Cond.code yX9_share cX9_share 7 (some .double) ∈ WALL := WALL_in 685 (by decide +kernel) rfl
theorem ml_L_66 : Cond.methodLink RL 66 yX9_digest ∈ WALL := WALL_in 686 (by decide +kernel) rfl
theorem im_X9_digest : Cond.instanceMethod yX9_digest ∈ WALL := WALL_in 687 (by decide +kernel) rfl
theorem se_X9_digest : Cond.selects RX9 yX9_digest yX9_digest ∈ WALL := WALL_in 688 (by decide +kernel) rfl
theorem cd_X9_digest : Cond.code yX9_digest cX9_digest 5 (some .long) ∈ WALL := WALL_in 689 (by decide +kernel) rfl
theorem kc_X9_308 : Cond.constantLong RX9 308 (58081) ∈ WALL := WALL_in 690 (by decide +kernel) rfl
theorem ml_X9_310 : Cond.methodLink RX9 310 yX9_mix ∈ WALL := WALL_in 691 (by decide +kernel) rfl
theorem sm_X9_mix : Cond.static yX9_mix ∈ WALL := WALL_in 692 (by decide +kernel) rfl
theorem cd_X9_mix : Cond.code yX9_mix cX9_mix 4 (some .long) ∈ WALL := WALL_in 693 (by decide +kernel) rfl
theorem kc_X9_330 : Cond.constantLong RX9 330 (31) ∈ WALL := WALL_in 694 (by decide +kernel) rfl
theorem ml_X9_314 : Cond.methodLink RX9 314 yX9_mixRelation ∈ WALL := WALL_in 695 (by decide +kernel) rfl
theorem sm_X9_mixRelation : Cond.static yX9_mixRelation ∈ WALL := WALL_in 696 (by decide +kernel) rfl
theorem cd_X9_mixRelation : Cond.code yX9_mixRelation cX9_mixRelation 7 (some .long) ∈ WALL := WALL_in 697 (by decide +kernel) rfl
theorem ml_X9_110 : Cond.methodLink RX9 110 yX4_valueAt ∈ WALL := WALL_in 698 (by decide +kernel) rfl
theorem ml_X9_318 : Cond.methodLink RX9 318 yX9_mixFormula ∈ WALL := WALL_in 699 (by decide +kernel) rfl
theorem im_X9_mixFormula : Cond.instanceMethod yX9_mixFormula ∈ WALL := WALL_in 701 (by decide +kernel) rfl
theorem cd_X9_mixFormula : Cond.code yX9_mixFormula cX9_mixFormula 7 (some .long) ∈ WALL := WALL_in 702 (by decide +kernel) rfl
theorem ml_X9_332 : Cond.methodLink RX9 332 yX9_ofFormula ∈ WALL := WALL_in 703 (by decide +kernel) rfl
theorem ml_X9_335 : Cond.methodLink RX9 335 yX9_isSafe ∈ WALL := WALL_in 704 (by decide +kernel) rfl
theorem ml_X9_338 : Cond.methodLink RX9 338 yX9_loose ∈ WALL := WALL_in 705 (by decide +kernel) rfl
theorem ml_X9_322 : Cond.methodLink RX9 322 yX9_mixRule ∈ WALL := WALL_in 706 (by decide +kernel) rfl
theorem im_X9_mixRule : Cond.instanceMethod yX9_mixRule ∈ WALL := WALL_in 708 (by decide +kernel) rfl
theorem cd_X9_mixRule : Cond.code yX9_mixRule cX9_mixRule 8 (some .long) ∈ WALL := WALL_in 709 (by decide +kernel) rfl
theorem ml_X9_326 : Cond.methodLink RX9 326 yX9_isWithin ∈ WALL := WALL_in 710 (by decide +kernel) rfl
theorem ml_L_72 : Cond.methodLink RL 72 yX10_order ∈ WALL := WALL_in 711 (by decide +kernel) rfl
theorem sm_X10_order : Cond.static yX10_order ∈ WALL := WALL_in 712 (by decide +kernel) rfl
theorem cd_X10_order : Cond.code yX10_order cX10_order 3 (some .int) ∈ WALL := WALL_in 713 (by decide +kernel) rfl
theorem ml_L_91 : Cond.methodLink RL 91 yX10_holds ∈ WALL := WALL_in 714 (by decide +kernel) rfl
theorem im_X10_holds : Cond.instanceMethod yX10_holds ∈ WALL := WALL_in 715 (by decide +kernel) rfl
theorem se_X10_holds : Cond.selects RX10 yX10_holds yX10_holds ∈ WALL := WALL_in 716 (by decide +kernel) rfl
theorem cd_X10_holds : Cond.code yX10_holds cX10_holds 9 (some .boolean) ∈ WALL := WALL_in 717 (by decide +kernel) rfl
theorem ml_X10_51 : Cond.methodLink RX10 51 yX10_terms ∈ WALL := WALL_in 718 (by decide +kernel) rfl
theorem im_X10_terms : Cond.instanceMethod yX10_terms ∈ WALL := WALL_in 719 (by decide +kernel) rfl
theorem se_X10_terms : Cond.selects RX10 yX10_terms yX10_terms ∈ WALL := WALL_in 720 (by decide +kernel) rfl
theorem cd_X10_terms : Cond.code yX10_terms cX10_terms 3 (some (.array .int)) ∈ WALL := WALL_in 721 (by decide +kernel) rfl
theorem ml_X10_84 : Cond.methodLink RX10 84 yX10_isFact ∈ WALL := WALL_in 725 (by decide +kernel) rfl
theorem im_X10_isFact : Cond.instanceMethod yX10_isFact ∈ WALL := WALL_in 726 (by decide +kernel) rfl
theorem se_X10_isFact : Cond.selects RX10 yX10_isFact yX10_isFact ∈ WALL := WALL_in 727 (by decide +kernel) rfl
theorem cd_X10_isFact : Cond.code yX10_isFact cX10_isFact 7 (some .boolean) ∈ WALL := WALL_in 728 (by decide +kernel) rfl
theorem ml_X10_29 : Cond.methodLink RX10 29 yX10_order ∈ WALL := WALL_in 729 (by decide +kernel) rfl
theorem ml_X10_88 : Cond.methodLink RX10 88 yX10_holds ∈ WALL := WALL_in 730 (by decide +kernel) rfl
theorem ml_L_9 : Cond.methodLink RL 9 yL_below ∈ WALL := WALL_in 731 (by decide +kernel) rfl
theorem sm_L_below : Cond.static yL_below ∈ WALL := WALL_in 732 (by decide +kernel) rfl
theorem cd_L_below : Cond.code yL_below cL_below 2 (some .int) ∈ WALL := WALL_in 733 (by decide +kernel) rfl
theorem kc_L_7 : Cond.constant RL 7 (2147483647) ∈ WALL := WALL_in 734 (by decide +kernel) rfl
theorem ml_L_18 : Cond.methodLink RL 18 yL_cell ∈ WALL := WALL_in 735 (by decide +kernel) rfl
theorem sm_L_cell : Cond.static yL_cell ∈ WALL := WALL_in 736 (by decide +kernel) rfl
theorem cd_L_cell : Cond.code yL_cell cL_cell 2 (some .int) ∈ WALL := WALL_in 737 (by decide +kernel) rfl
theorem kc_L_8 : Cond.constant RL 8 (790386105) ∈ WALL := WALL_in 738 (by decide +kernel) rfl
theorem ml_L_34 : Cond.methodLink RL 34 yL_term ∈ WALL := WALL_in 739 (by decide +kernel) rfl
theorem sm_L_term : Cond.static yL_term ∈ WALL := WALL_in 740 (by decide +kernel) rfl
theorem cd_L_term : Cond.code yL_term cL_term 2 (some .int) ∈ WALL := WALL_in 741 (by decide +kernel) rfl
theorem ml_L_51 : Cond.methodLink RL 51 yL_relations ∈ WALL := WALL_in 742 (by decide +kernel) rfl
theorem sm_L_relations : Cond.static yL_relations ∈ WALL := WALL_in 743 (by decide +kernel) rfl
theorem cd_L_relations : Cond.code yL_relations cL_relations 7 (some (.object "ThimbleLaw$Loom")) ∈ WALL := WALL_in 744 (by decide +kernel) rfl
theorem cl_L_15 : Cond.classLink RL 15 RX10 ∈ WALL := WALL_in 745 (by decide +kernel) rfl
theorem it_X10 : Cond.instantiable RX10 3 ∈ WALL := WALL_in 746 (by decide +kernel) rfl
theorem im_X10_init : Cond.instanceMethod yX10_init ∈ WALL := WALL_in 748 (by decide +kernel) rfl
theorem cd_X10_init : Cond.code yX10_init cX10_init 1 none ∈ WALL := WALL_in 749 (by decide +kernel) rfl
theorem ml_X10_1 : Cond.methodLink RX10 1 Lib.objectInit ∈ WALL := WALL_in 750 (by decide +kernel) rfl
theorem fl_X10_7 : Cond.fieldLink RX10 7 "ThimbleLaw$Loom" "places" "[I" ∈ WALL := WALL_in 755 (by decide +kernel) rfl
theorem fl_X10_15 : Cond.fieldLink RX10 15 "ThimbleLaw$Loom" "facts" "[[[I" ∈ WALL := WALL_in 756 (by decide +kernel) rfl
theorem fl_L_30 : Cond.fieldLink RL 30 "ThimbleLaw$Loom" "facts" "[[[I" ∈ WALL := WALL_in 757 (by decide +kernel) rfl
theorem fl_X10_20 : Cond.fieldLink RX10 20 "ThimbleLaw$Loom" "formulas" "[[I" ∈ WALL := WALL_in 758 (by decide +kernel) rfl
theorem ml_L_22 : Cond.methodLink RL 22 yX10_relation ∈ WALL := WALL_in 766 (by decide +kernel) rfl
theorem im_X10_relation : Cond.instanceMethod yX10_relation ∈ WALL := WALL_in 767 (by decide +kernel) rfl
theorem se_X10_relation : Cond.selects RX10 yX10_relation yX10_relation ∈ WALL := WALL_in 768 (by decide +kernel) rfl
theorem cd_X10_relation : Cond.code yX10_relation cX10_relation 4 (some .int) ∈ WALL := WALL_in 769 (by decide +kernel) rfl
theorem ml_X10_33 : Cond.methodLink RX10 33 yX10_with ∈ WALL := WALL_in 770 (by decide +kernel) rfl
theorem sm_X10_with : Cond.static yX10_with ∈ WALL := WALL_in 771 (by decide +kernel) rfl
theorem cd_X10_with : Cond.code yX10_with cX10_with 3 (some (.array .int)) ∈ WALL := WALL_in 772 (by decide +kernel) rfl
theorem ml_X10_37 : Cond.methodLink RX10 37 yX9_relation ∈ WALL := WALL_in 773 (by decide +kernel) rfl
theorem im_X9_relation : Cond.instanceMethod yX9_relation ∈ WALL := WALL_in 774 (by decide +kernel) rfl
theorem se_X9_relation : Cond.selects RX9 yX9_relation yX9_relation ∈ WALL := WALL_in 775 (by decide +kernel) rfl
theorem cd_X9_relation : Cond.code yX9_relation cX9_relation 2 (some .int) ∈ WALL := WALL_in 776 (by decide +kernel) rfl
theorem it_X4 : Cond.instantiable RX4 6 ∈ WALL := WALL_in 779 (by decide +kernel) rfl
theorem ml_X9_70 : Cond.methodLink RX9 70 yX4_init ∈ WALL := WALL_in 780 (by decide +kernel) rfl
theorem im_X4_init : Cond.instanceMethod yX4_init ∈ WALL := WALL_in 781 (by decide +kernel) rfl
theorem cd_X4_init : Cond.code yX4_init cX4_init 2 none ∈ WALL := WALL_in 782 (by decide +kernel) rfl
theorem ml_X4_3 : Cond.methodLink RX4 3 Lib.objectInit ∈ WALL := WALL_in 783 (by decide +kernel) rfl
theorem fl_X4_28 : Cond.fieldLink RX4 28 "Thimble$Relation" "places" "I" ∈ WALL := WALL_in 784 (by decide +kernel) rfl
theorem fl_X9_77 : Cond.fieldLink RX9 77 "Thimble$Relation" "places" "I" ∈ WALL := WALL_in 785 (by decide +kernel) rfl
theorem fl_X4_9 : Cond.fieldLink RX4 9 "Thimble$Relation" "rows" "[I" ∈ WALL := WALL_in 786 (by decide +kernel) rfl
theorem fl_X4_15 : Cond.fieldLink RX4 15 "Thimble$Relation" "many" "I" ∈ WALL := WALL_in 787 (by decide +kernel) rfl
theorem fl_X0_19 : Cond.fieldLink RX0 19 "Thimble$Relation" "many" "I" ∈ WALL := WALL_in 788 (by decide +kernel) rfl
theorem fl_X9_92 : Cond.fieldLink RX9 92 "Thimble$Relation" "many" "I" ∈ WALL := WALL_in 789 (by decide +kernel) rfl
theorem fl_X8_94 : Cond.fieldLink RX8 94 "Thimble$Relation" "many" "I" ∈ WALL := WALL_in 790 (by decide +kernel) rfl
theorem fl_X4_19 : Cond.fieldLink RX4 19 "Thimble$Relation" "values" "I" ∈ WALL := WALL_in 791 (by decide +kernel) rfl
theorem fl_X9_379 : Cond.fieldLink RX9 379 "Thimble$Relation" "values" "I" ∈ WALL := WALL_in 792 (by decide +kernel) rfl
theorem fl_X4_22 : Cond.fieldLink RX4 22 "Thimble$Relation" "having" "[I" ∈ WALL := WALL_in 793 (by decide +kernel) rfl
theorem fl_X0_32 : Cond.fieldLink RX0 32 "Thimble$Relation" "having" "[I" ∈ WALL := WALL_in 794 (by decide +kernel) rfl
theorem fl_X4_25 : Cond.fieldLink RX4 25 "Thimble$Relation" "alike" "[I" ∈ WALL := WALL_in 795 (by decide +kernel) rfl
theorem fl_X0_43 : Cond.fieldLink RX0 43 "Thimble$Relation" "alike" "[I" ∈ WALL := WALL_in 796 (by decide +kernel) rfl
theorem ml_L_26 : Cond.methodLink RL 26 yX10_fact ∈ WALL := WALL_in 810 (by decide +kernel) rfl
theorem im_X10_fact : Cond.instanceMethod yX10_fact ∈ WALL := WALL_in 811 (by decide +kernel) rfl
theorem se_X10_fact : Cond.selects RX10 yX10_fact yX10_fact ∈ WALL := WALL_in 812 (by decide +kernel) rfl
theorem cd_X10_fact : Cond.code yX10_fact cX10_fact 8 (some .int) ∈ WALL := WALL_in 813 (by decide +kernel) rfl
theorem ml_X10_43 : Cond.methodLink RX10 43 yX10_put ∈ WALL := WALL_in 814 (by decide +kernel) rfl
theorem sm_X10_put : Cond.static yX10_put ∈ WALL := WALL_in 815 (by decide +kernel) rfl
theorem cd_X10_put : Cond.code yX10_put cX10_put 4 (some (.array (.array .int))) ∈ WALL := WALL_in 816 (by decide +kernel) rfl
theorem ml_X10_47 : Cond.methodLink RX10 47 yX9_fact ∈ WALL := WALL_in 817 (by decide +kernel) rfl
theorem im_X9_fact : Cond.instanceMethod yX9_fact ∈ WALL := WALL_in 818 (by decide +kernel) rfl
theorem se_X9_fact : Cond.selects RX9 yX9_fact yX9_fact ∈ WALL := WALL_in 819 (by decide +kernel) rfl
theorem cd_X9_fact : Cond.code yX9_fact cX9_fact 7 (some .int) ∈ WALL := WALL_in 820 (by decide +kernel) rfl
theorem ml_X9_80 : Cond.methodLink RX9 80 yX9_needValues ∈ WALL := WALL_in 821 (by decide +kernel) rfl
theorem sm_X9_needValues : Cond.static yX9_needValues ∈ WALL := WALL_in 822 (by decide +kernel) rfl
theorem cd_X9_needValues : Cond.code yX9_needValues cX9_needValues 4 none ∈ WALL := WALL_in 823 (by decide +kernel) rfl
theorem ml_X9_348 : Cond.methodLink RX9 348 yX9_isValue ∈ WALL := WALL_in 824 (by decide +kernel) rfl
theorem sm_X9_isValue : Cond.static yX9_isValue ∈ WALL := WALL_in 825 (by decide +kernel) rfl
theorem cd_X9_isValue : Cond.code yX9_isValue cX9_isValue 1 (some .boolean) ∈ WALL := WALL_in 826 (by decide +kernel) rfl
theorem ml_X9_84 : Cond.methodLink RX9 84 yX9_rowOf ∈ WALL := WALL_in 828 (by decide +kernel) rfl
theorem sm_X9_rowOf : Cond.static yX9_rowOf ∈ WALL := WALL_in 829 (by decide +kernel) rfl
theorem cd_X9_rowOf : Cond.code yX9_rowOf cX9_rowOf 5 (some .int) ∈ WALL := WALL_in 830 (by decide +kernel) rfl
theorem ml_X9_88 : Cond.methodLink RX9 88 yX4_has ∈ WALL := WALL_in 831 (by decide +kernel) rfl
theorem im_X4_has : Cond.instanceMethod yX4_has ∈ WALL := WALL_in 832 (by decide +kernel) rfl
theorem se_X4_has : Cond.selects RX4 yX4_has yX4_has ∈ WALL := WALL_in 833 (by decide +kernel) rfl
theorem cd_X4_has : Cond.code yX4_has cX4_has 3 (some .boolean) ∈ WALL := WALL_in 834 (by decide +kernel) rfl
theorem ml_X4_31 : Cond.methodLink RX4 31 yX4_placeFor ∈ WALL := WALL_in 835 (by decide +kernel) rfl
theorem im_X4_placeFor : Cond.instanceMethod yX4_placeFor ∈ WALL := WALL_in 837 (by decide +kernel) rfl
theorem cd_X4_placeFor : Cond.code yX4_placeFor cX4_placeFor 3 (some .int) ∈ WALL := WALL_in 838 (by decide +kernel) rfl
theorem ml_X9_97 : Cond.methodLink RX9 97 yX4_toggle ∈ WALL := WALL_in 840 (by decide +kernel) rfl
theorem im_X4_toggle : Cond.instanceMethod yX4_toggle ∈ WALL := WALL_in 841 (by decide +kernel) rfl
theorem se_X4_toggle : Cond.selects RX4 yX4_toggle yX4_toggle ∈ WALL := WALL_in 842 (by decide +kernel) rfl
theorem cd_X4_toggle : Cond.code yX4_toggle cX4_toggle 4 none ∈ WALL := WALL_in 843 (by decide +kernel) rfl
theorem ml_X4_35 : Cond.methodLink RX4 35 yX4_mark ∈ WALL := WALL_in 844 (by decide +kernel) rfl
theorem im_X4_mark : Cond.instanceMethod yX4_mark ∈ WALL := WALL_in 846 (by decide +kernel) rfl
theorem cd_X4_mark : Cond.code yX4_mark cX4_mark 3 none ∈ WALL := WALL_in 847 (by decide +kernel) rfl
theorem ml_X4_38 : Cond.methodLink RX4 38 yX4_markPlace ∈ WALL := WALL_in 848 (by decide +kernel) rfl
theorem im_X4_markPlace : Cond.instanceMethod yX4_markPlace ∈ WALL := WALL_in 850 (by decide +kernel) rfl
theorem cd_X4_markPlace : Cond.code yX4_markPlace cX4_markPlace 5 none ∈ WALL := WALL_in 851 (by decide +kernel) rfl
theorem ml_X4_42 : Cond.methodLink RX4 42 yX4_valueAt ∈ WALL := WALL_in 852 (by decide +kernel) rfl
theorem ml_L_55 : Cond.methodLink RL 55 yL_tell ∈ WALL := WALL_in 853 (by decide +kernel) rfl
theorem sm_L_tell : Cond.static yL_tell ∈ WALL := WALL_in 854 (by decide +kernel) rfl
theorem cd_L_tell : Cond.code yL_tell cL_tell 9 (some .boolean) ∈ WALL := WALL_in 855 (by decide +kernel) rfl
theorem ml_L_37 : Cond.methodLink RL 37 yX10_length ∈ WALL := WALL_in 856 (by decide +kernel) rfl
theorem im_X10_length : Cond.instanceMethod yX10_length ∈ WALL := WALL_in 857 (by decide +kernel) rfl
theorem se_X10_length : Cond.selects RX10 yX10_length yX10_length ∈ WALL := WALL_in 858 (by decide +kernel) rfl
theorem cd_X10_length : Cond.code yX10_length cX10_length 5 (some .int) ∈ WALL := WALL_in 859 (by decide +kernel) rfl
theorem ml_X10_55 : Cond.methodLink RX10 55 yX10_parts ∈ WALL := WALL_in 860 (by decide +kernel) rfl
theorem im_X10_parts : Cond.instanceMethod yX10_parts ∈ WALL := WALL_in 862 (by decide +kernel) rfl
theorem cd_X10_parts : Cond.code yX10_parts cX10_parts 2 (some .int) ∈ WALL := WALL_in 863 (by decide +kernel) rfl
theorem ml_X10_71 : Cond.methodLink RX10 71 yX10_length ∈ WALL := WALL_in 864 (by decide +kernel) rfl
theorem ml_L_41 : Cond.methodLink RL 41 yX10_depth ∈ WALL := WALL_in 865 (by decide +kernel) rfl
theorem im_X10_depth : Cond.instanceMethod yX10_depth ∈ WALL := WALL_in 866 (by decide +kernel) rfl
theorem se_X10_depth : Cond.selects RX10 yX10_depth yX10_depth ∈ WALL := WALL_in 867 (by decide +kernel) rfl
theorem cd_X10_depth : Cond.code yX10_depth cX10_depth 5 (some .int) ∈ WALL := WALL_in 868 (by decide +kernel) rfl
theorem ml_X10_62 : Cond.methodLink RX10 62 yX10_depth ∈ WALL := WALL_in 869 (by decide +kernel) rfl
theorem ml_X10_65 : Cond.methodLink RX10 65 yJ9_max_7cf53 ∈ WALL := WALL_in 870 (by decide +kernel) rfl
theorem sm_J9_max_7cf53 : Cond.static yJ9_max_7cf53 ∈ WALL := WALL_in 871 (by decide +kernel) rfl
theorem cd_J9_max_7cf53 : Cond.code yJ9_max_7cf53 cJ9_max_7cf53 2 (some .int) ∈ WALL := WALL_in 872 (by decide +kernel) rfl
theorem ml_L_44 : Cond.methodLink RL 44 yX10_add ∈ WALL := WALL_in 873 (by decide +kernel) rfl
theorem im_X10_add : Cond.instanceMethod yX10_add ∈ WALL := WALL_in 874 (by decide +kernel) rfl
theorem se_X10_add : Cond.selects RX10 yX10_add yX10_add ∈ WALL := WALL_in 875 (by decide +kernel) rfl
theorem cd_X10_add : Cond.code yX10_add cX10_add 3 (some .int) ∈ WALL := WALL_in 876 (by decide +kernel) rfl
theorem ml_X10_95 : Cond.methodLink RX10 95 yX10_with_ ∈ WALL := WALL_in 877 (by decide +kernel) rfl
theorem sm_X10_with_ : Cond.static yX10_with_ ∈ WALL := WALL_in 878 (by decide +kernel) rfl
theorem cd_X10_with_ : Cond.code yX10_with_ cX10_with_ 3 (some (.array (.array .int))) ∈ WALL := WALL_in 879 (by decide +kernel) rfl
theorem ml_X10_97 : Cond.methodLink RX10 97 yX9_atom ∈ WALL := WALL_in 880 (by decide +kernel) rfl
theorem im_X9_atom : Cond.instanceMethod yX9_atom ∈ WALL := WALL_in 881 (by decide +kernel) rfl
theorem se_X9_atom : Cond.selects RX9 yX9_atom yX9_atom ∈ WALL := WALL_in 882 (by decide +kernel) rfl
theorem cd_X9_atom : Cond.code yX9_atom cX9_atom 6 (some .int) ∈ WALL := WALL_in 883 (by decide +kernel) rfl
theorem ml_X9_117 : Cond.methodLink RX9 117 yX9_needRoomForFormulas ∈ WALL := WALL_in 884 (by decide +kernel) rfl
theorem im_X9_needRoomForFormulas : Cond.instanceMethod yX9_needRoomForFormulas ∈ WALL := WALL_in 886 (by decide +kernel) rfl
theorem cd_X9_needRoomForFormulas : Cond.code yX9_needRoomForFormulas cX9_needRoomForFormulas 2 none ∈ WALL := WALL_in 887 (by decide +kernel) rfl
theorem ml_X9_129 : Cond.methodLink RX9 129 yX1_ofAtom ∈ WALL := WALL_in 889 (by decide +kernel) rfl
theorem sm_X1_ofAtom : Cond.static yX1_ofAtom ∈ WALL := WALL_in 890 (by decide +kernel) rfl
theorem cd_X1_ofAtom : Cond.code yX1_ofAtom cX1_ofAtom 2 (some (.object "Thimble$Formula")) ∈ WALL := WALL_in 891 (by decide +kernel) rfl
theorem cl_X1_10 : Cond.classLink RX1 10 RX1 ∈ WALL := WALL_in 892 (by decide +kernel) rfl
theorem it_X1 : Cond.instantiable RX1 13 ∈ WALL := WALL_in 893 (by decide +kernel) rfl
theorem ml_X1_54 : Cond.methodLink RX1 54 yX1_init ∈ WALL := WALL_in 894 (by decide +kernel) rfl
theorem im_X1_init : Cond.instanceMethod yX1_init ∈ WALL := WALL_in 895 (by decide +kernel) rfl
theorem cd_X1_init : Cond.code yX1_init cX1_init 2 none ∈ WALL := WALL_in 896 (by decide +kernel) rfl
theorem ml_X1_3 : Cond.methodLink RX1 3 Lib.objectInit ∈ WALL := WALL_in 897 (by decide +kernel) rfl
theorem fl_X1_51 : Cond.fieldLink RX1 51 "Thimble$Formula" "kind" "I" ∈ WALL := WALL_in 898 (by decide +kernel) rfl
theorem fl_X2_74 : Cond.fieldLink RX2 74 "Thimble$Formula" "kind" "I" ∈ WALL := WALL_in 899 (by decide +kernel) rfl
theorem fl_X9_179 : Cond.fieldLink RX9 179 "Thimble$Formula" "kind" "I" ∈ WALL := WALL_in 900 (by decide +kernel) rfl
theorem fl_X1_9 : Cond.fieldLink RX1 9 "Thimble$Formula" "atom" "LThimble$Atom;" ∈ WALL := WALL_in 901 (by decide +kernel) rfl
theorem fl_X2_77 : Cond.fieldLink RX2 77 "Thimble$Formula" "atom" "LThimble$Atom;" ∈ WALL := WALL_in 902 (by decide +kernel) rfl
theorem fl_X1_15 : Cond.fieldLink RX1 15 "Thimble$Formula" "terms" "LThimble$Terms;" ∈ WALL := WALL_in 903 (by decide +kernel) rfl
theorem fl_X2_85 : Cond.fieldLink RX2 85 "Thimble$Formula" "terms" "LThimble$Terms;" ∈ WALL := WALL_in 904 (by decide +kernel) rfl
theorem fl_X1_19 : Cond.fieldLink RX1 19 "Thimble$Formula" "a" "LThimble$Formula;" ∈ WALL := WALL_in 905 (by decide +kernel) rfl
theorem fl_X2_93 : Cond.fieldLink RX2 93 "Thimble$Formula" "a" "LThimble$Formula;" ∈ WALL := WALL_in 906 (by decide +kernel) rfl
theorem fl_X1_23 : Cond.fieldLink RX1 23 "Thimble$Formula" "b" "LThimble$Formula;" ∈ WALL := WALL_in 907 (by decide +kernel) rfl
theorem fl_X2_99 : Cond.fieldLink RX2 99 "Thimble$Formula" "b" "LThimble$Formula;" ∈ WALL := WALL_in 908 (by decide +kernel) rfl
theorem fl_X1_26 : Cond.fieldLink RX1 26 "Thimble$Formula" "v" "I" ∈ WALL := WALL_in 909 (by decide +kernel) rfl
theorem fl_X2_102 : Cond.fieldLink RX2 102 "Thimble$Formula" "v" "I" ∈ WALL := WALL_in 910 (by decide +kernel) rfl
theorem fl_X1_30 : Cond.fieldLink RX1 30 "Thimble$Formula" "free" "I" ∈ WALL := WALL_in 911 (by decide +kernel) rfl
theorem fl_X2_29 : Cond.fieldLink RX2 29 "Thimble$Formula" "free" "I" ∈ WALL := WALL_in 912 (by decide +kernel) rfl
theorem fl_X9_182 : Cond.fieldLink RX9 182 "Thimble$Formula" "free" "I" ∈ WALL := WALL_in 913 (by decide +kernel) rfl
theorem fl_X1_33 : Cond.fieldLink RX1 33 "Thimble$Formula" "depth" "I" ∈ WALL := WALL_in 914 (by decide +kernel) rfl
theorem fl_X9_167 : Cond.fieldLink RX9 167 "Thimble$Formula" "depth" "I" ∈ WALL := WALL_in 915 (by decide +kernel) rfl
theorem fl_X1_36 : Cond.fieldLink RX1 36 "Thimble$Formula" "length" "I" ∈ WALL := WALL_in 916 (by decide +kernel) rfl
theorem fl_X9_145 : Cond.fieldLink RX9 145 "Thimble$Formula" "length" "I" ∈ WALL := WALL_in 917 (by decide +kernel) rfl
theorem fl_X1_39 : Cond.fieldLink RX1 39 "Thimble$Formula" "up" "I" ∈ WALL := WALL_in 918 (by decide +kernel) rfl
theorem fl_X9_185 : Cond.fieldLink RX9 185 "Thimble$Formula" "up" "I" ∈ WALL := WALL_in 919 (by decide +kernel) rfl
theorem fl_X1_42 : Cond.fieldLink RX1 42 "Thimble$Formula" "down" "I" ∈ WALL := WALL_in 920 (by decide +kernel) rfl
theorem fl_X9_188 : Cond.fieldLink RX9 188 "Thimble$Formula" "down" "I" ∈ WALL := WALL_in 921 (by decide +kernel) rfl
theorem fl_X1_45 : Cond.fieldLink RX1 45 "Thimble$Formula" "values" "I" ∈ WALL := WALL_in 922 (by decide +kernel) rfl
theorem fl_X9_376 : Cond.fieldLink RX9 376 "Thimble$Formula" "values" "I" ∈ WALL := WALL_in 923 (by decide +kernel) rfl
theorem fl_X1_48 : Cond.fieldLink RX1 48 "Thimble$Formula" "loose" "I" ∈ WALL := WALL_in 924 (by decide +kernel) rfl
theorem fl_X9_196 : Cond.fieldLink RX9 196 "Thimble$Formula" "loose" "I" ∈ WALL := WALL_in 925 (by decide +kernel) rfl
theorem ml_X9_133 : Cond.methodLink RX9 133 yX9_keep ∈ WALL := WALL_in 953 (by decide +kernel) rfl
theorem im_X9_keep : Cond.instanceMethod yX9_keep ∈ WALL := WALL_in 955 (by decide +kernel) rfl
theorem cd_X9_keep : Cond.code yX9_keep cX9_keep 2 (some .int) ∈ WALL := WALL_in 956 (by decide +kernel) rfl
theorem ml_X9_373 : Cond.methodLink RX9 373 yX1_settleLoose ∈ WALL := WALL_in 957 (by decide +kernel) rfl
theorem im_X1_settleLoose : Cond.instanceMethod yX1_settleLoose ∈ WALL := WALL_in 958 (by decide +kernel) rfl
theorem se_X1_settleLoose : Cond.selects RX1 yX1_settleLoose yX1_settleLoose ∈ WALL := WALL_in 959 (by decide +kernel) rfl
theorem cd_X1_settleLoose : Cond.code yX1_settleLoose cX1_settleLoose 2 none ∈ WALL := WALL_in 960 (by decide +kernel) rfl
theorem ml_X1_88 : Cond.methodLink RX1 88 yJ9_min_7cf53 ∈ WALL := WALL_in 961 (by decide +kernel) rfl
theorem sm_J9_min_7cf53 : Cond.static yJ9_min_7cf53 ∈ WALL := WALL_in 962 (by decide +kernel) rfl
theorem cd_J9_min_7cf53 : Cond.code yJ9_min_7cf53 cJ9_min_7cf53 2 (some .int) ∈ WALL := WALL_in 963 (by decide +kernel) rfl
theorem ml_X1_91 : Cond.methodLink RX1 91 yX1_isLoose ∈ WALL := WALL_in 964 (by decide +kernel) rfl
theorem im_X1_isLoose : Cond.instanceMethod yX1_isLoose ∈ WALL := WALL_in 966 (by decide +kernel) rfl
theorem cd_X1_isLoose : Cond.code yX1_isLoose cX1_isLoose 1 (some .boolean) ∈ WALL := WALL_in 967 (by decide +kernel) rfl
theorem ml_X10_100 : Cond.methodLink RX10 100 yX9_same ∈ WALL := WALL_in 969 (by decide +kernel) rfl
theorem im_X9_same : Cond.instanceMethod yX9_same ∈ WALL := WALL_in 970 (by decide +kernel) rfl
theorem se_X9_same : Cond.selects RX9 yX9_same yX9_same ∈ WALL := WALL_in 971 (by decide +kernel) rfl
theorem cd_X9_same : Cond.code yX9_same cX9_same 3 (some .int) ∈ WALL := WALL_in 972 (by decide +kernel) rfl
theorem ml_X9_137 : Cond.methodLink RX9 137 yX1_ofSame ∈ WALL := WALL_in 973 (by decide +kernel) rfl
theorem sm_X1_ofSame : Cond.static yX1_ofSame ∈ WALL := WALL_in 974 (by decide +kernel) rfl
theorem cd_X1_ofSame : Cond.code yX1_ofSame cX1_ofSame 2 (some (.object "Thimble$Formula")) ∈ WALL := WALL_in 975 (by decide +kernel) rfl
theorem ml_X10_103 : Cond.methodLink RX10 103 yX9_not ∈ WALL := WALL_in 976 (by decide +kernel) rfl
theorem im_X9_not : Cond.instanceMethod yX9_not ∈ WALL := WALL_in 977 (by decide +kernel) rfl
theorem se_X9_not : Cond.selects RX9 yX9_not yX9_not ∈ WALL := WALL_in 978 (by decide +kernel) rfl
theorem cd_X9_not : Cond.code yX9_not cX9_not 3 (some .int) ∈ WALL := WALL_in 979 (by decide +kernel) rfl
theorem ml_X9_148 : Cond.methodLink RX9 148 yX9_needLength ∈ WALL := WALL_in 980 (by decide +kernel) rfl
theorem sm_X9_needLength : Cond.static yX9_needLength ∈ WALL := WALL_in 981 (by decide +kernel) rfl
theorem cd_X9_needLength : Cond.code yX9_needLength cX9_needLength 1 none ∈ WALL := WALL_in 982 (by decide +kernel) rfl
theorem ml_X9_151 : Cond.methodLink RX9 151 yX1_ofNot ∈ WALL := WALL_in 984 (by decide +kernel) rfl
theorem sm_X1_ofNot : Cond.static yX1_ofNot ∈ WALL := WALL_in 985 (by decide +kernel) rfl
theorem cd_X1_ofNot : Cond.code yX1_ofNot cX1_ofNot 2 (some (.object "Thimble$Formula")) ∈ WALL := WALL_in 986 (by decide +kernel) rfl
theorem ml_X1_66 : Cond.methodLink RX1 66 yX1_over ∈ WALL := WALL_in 987 (by decide +kernel) rfl
theorem sm_X1_over : Cond.static yX1_over ∈ WALL := WALL_in 988 (by decide +kernel) rfl
theorem cd_X1_over : Cond.code yX1_over cX1_over 3 (some (.object "Thimble$Formula")) ∈ WALL := WALL_in 989 (by decide +kernel) rfl
theorem ml_X10_106 : Cond.methodLink RX10 106 yX9_join ∈ WALL := WALL_in 990 (by decide +kernel) rfl
theorem im_X9_join : Cond.instanceMethod yX9_join ∈ WALL := WALL_in 991 (by decide +kernel) rfl
theorem se_X9_join : Cond.selects RX9 yX9_join yX9_join ∈ WALL := WALL_in 992 (by decide +kernel) rfl
theorem cd_X9_join : Cond.code yX9_join cX9_join 6 (some .int) ∈ WALL := WALL_in 993 (by decide +kernel) rfl
theorem ml_X9_155 : Cond.methodLink RX9 155 yX1_ofBoth ∈ WALL := WALL_in 994 (by decide +kernel) rfl
theorem sm_X1_ofBoth : Cond.static yX1_ofBoth ∈ WALL := WALL_in 995 (by decide +kernel) rfl
theorem cd_X1_ofBoth : Cond.code yX1_ofBoth cX1_ofBoth 4 (some (.object "Thimble$Formula")) ∈ WALL := WALL_in 996 (by decide +kernel) rfl
theorem ml_X1_70 : Cond.methodLink RX1 70 yX1_overTwo ∈ WALL := WALL_in 997 (by decide +kernel) rfl
theorem sm_X1_overTwo : Cond.static yX1_overTwo ∈ WALL := WALL_in 998 (by decide +kernel) rfl
theorem cd_X1_overTwo : Cond.code yX1_overTwo cX1_overTwo 4 (some (.object "Thimble$Formula")) ∈ WALL := WALL_in 999 (by decide +kernel) rfl
theorem ml_X1_82 : Cond.methodLink RX1 82 yJ9_max_7cf53 ∈ WALL := WALL_in 1000 (by decide +kernel) rfl
theorem ml_X1_74 : Cond.methodLink RX1 74 yX1_passedOn ∈ WALL := WALL_in 1001 (by decide +kernel) rfl
theorem im_X1_passedOn : Cond.instanceMethod yX1_passedOn ∈ WALL := WALL_in 1003 (by decide +kernel) rfl
theorem cd_X1_passedOn : Cond.code yX1_passedOn cX1_passedOn 2 (some .int) ∈ WALL := WALL_in 1004 (by decide +kernel) rfl
theorem ml_X9_159 : Cond.methodLink RX9 159 yX1_ofEither ∈ WALL := WALL_in 1005 (by decide +kernel) rfl
theorem sm_X1_ofEither : Cond.static yX1_ofEither ∈ WALL := WALL_in 1006 (by decide +kernel) rfl
theorem cd_X1_ofEither : Cond.code yX1_ofEither cX1_ofEither 3 (some (.object "Thimble$Formula")) ∈ WALL := WALL_in 1007 (by decide +kernel) rfl
theorem ml_X10_110 : Cond.methodLink RX10 110 yX9_bind ∈ WALL := WALL_in 1008 (by decide +kernel) rfl
theorem im_X9_bind : Cond.instanceMethod yX9_bind ∈ WALL := WALL_in 1009 (by decide +kernel) rfl
theorem se_X9_bind : Cond.selects RX9 yX9_bind yX9_bind ∈ WALL := WALL_in 1010 (by decide +kernel) rfl
theorem cd_X9_bind : Cond.code yX9_bind cX9_bind 5 (some .int) ∈ WALL := WALL_in 1011 (by decide +kernel) rfl
theorem ml_X9_172 : Cond.methodLink RX9 172 yX1_ofSome ∈ WALL := WALL_in 1014 (by decide +kernel) rfl
theorem sm_X1_ofSome : Cond.static yX1_ofSome ∈ WALL := WALL_in 1015 (by decide +kernel) rfl
theorem cd_X1_ofSome : Cond.code yX1_ofSome cX1_ofSome 3 (some (.object "Thimble$Formula")) ∈ WALL := WALL_in 1016 (by decide +kernel) rfl
theorem ml_X1_78 : Cond.methodLink RX1 78 yX1_overBound ∈ WALL := WALL_in 1017 (by decide +kernel) rfl
theorem sm_X1_overBound : Cond.static yX1_overBound ∈ WALL := WALL_in 1018 (by decide +kernel) rfl
theorem cd_X1_overBound : Cond.code yX1_overBound cX1_overBound 4 (some (.object "Thimble$Formula")) ∈ WALL := WALL_in 1019 (by decide +kernel) rfl
theorem ml_X9_176 : Cond.methodLink RX9 176 yX1_ofEvery ∈ WALL := WALL_in 1020 (by decide +kernel) rfl
theorem sm_X1_ofEvery : Cond.static yX1_ofEvery ∈ WALL := WALL_in 1021 (by decide +kernel) rfl
theorem cd_X1_ofEvery : Cond.code yX1_ofEvery cX1_ofEvery 3 (some (.object "Thimble$Formula")) ∈ WALL := WALL_in 1022 (by decide +kernel) rfl
theorem ml_L_79 : Cond.methodLink RL 79 yJ6_bitCount_0f7a4 ∈ WALL := WALL_in 1023 (by decide +kernel) rfl
theorem im_obj : Cond.instanceMethod Lib.objectInit ∈ WALL := WALL_in 66 (by decide +kernel) rfl
theorem cd_obj : Cond.code Lib.objectInit ⟨#[0xb1]⟩ 1 none ∈ WALL := WALL_in 67 (by decide +kernel) rfl
theorem inX0 : ∀ w ∈ u_ws RX0 TX0 2, w ∈ WALL := by
  have h : (u_ws RX0 TX0 2).all (fun w => decide (w ∈ lw_tbl) && goodWord w) = true := by decide +kernel
  intro w hw
  have h1 := List.all_eq_true.mp h w hw
  simp only [Bool.and_eq_true, decide_eq_true_eq] at h1
  exact List.mem_filter.mpr ⟨h1.1, h1.2⟩
theorem inX1 : ∀ w ∈ u_ws RX1 TX1 13, w ∈ WALL := by
  have h : (u_ws RX1 TX1 13).all (fun w => decide (w ∈ lw_tbl) && goodWord w) = true := by decide +kernel
  intro w hw
  have h1 := List.all_eq_true.mp h w hw
  simp only [Bool.and_eq_true, decide_eq_true_eq] at h1
  exact List.mem_filter.mpr ⟨h1.1, h1.2⟩
theorem inX2 : ∀ w ∈ u_ws RX2 TX2 3, w ∈ WALL := by
  have h : (u_ws RX2 TX2 3).all (fun w => decide (w ∈ lw_tbl) && goodWord w) = true := by decide +kernel
  intro w hw
  have h1 := List.all_eq_true.mp h w hw
  simp only [Bool.and_eq_true, decide_eq_true_eq] at h1
  exact List.mem_filter.mpr ⟨h1.1, h1.2⟩
theorem inX3 : ∀ w ∈ u_ws RX3 TX3 6, w ∈ WALL := by
  have h : (u_ws RX3 TX3 6).all (fun w => decide (w ∈ lw_tbl) && goodWord w) = true := by decide +kernel
  intro w hw
  have h1 := List.all_eq_true.mp h w hw
  simp only [Bool.and_eq_true, decide_eq_true_eq] at h1
  exact List.mem_filter.mpr ⟨h1.1, h1.2⟩
theorem inX4 : ∀ w ∈ u_ws RX4 TX4 6, w ∈ WALL := by
  have h : (u_ws RX4 TX4 6).all (fun w => decide (w ∈ lw_tbl) && goodWord w) = true := by decide +kernel
  intro w hw
  have h1 := List.all_eq_true.mp h w hw
  simp only [Bool.and_eq_true, decide_eq_true_eq] at h1
  exact List.mem_filter.mpr ⟨h1.1, h1.2⟩
theorem inX5 : ∀ w ∈ u_ws RX5 TX5 2, w ∈ WALL := by
  have h : (u_ws RX5 TX5 2).all (fun w => decide (w ∈ lw_tbl) && goodWord w) = true := by decide +kernel
  intro w hw
  have h1 := List.all_eq_true.mp h w hw
  simp only [Bool.and_eq_true, decide_eq_true_eq] at h1
  exact List.mem_filter.mpr ⟨h1.1, h1.2⟩
theorem inX6 : ∀ w ∈ u_ws RX6 TX6 3, w ∈ WALL := by
  have h : (u_ws RX6 TX6 3).all (fun w => decide (w ∈ lw_tbl) && goodWord w) = true := by decide +kernel
  intro w hw
  have h1 := List.all_eq_true.mp h w hw
  simp only [Bool.and_eq_true, decide_eq_true_eq] at h1
  exact List.mem_filter.mpr ⟨h1.1, h1.2⟩
theorem inX7 : ∀ w ∈ u_ws RX7 TX7 4, w ∈ WALL := by
  have h : (u_ws RX7 TX7 4).all (fun w => decide (w ∈ lw_tbl) && goodWord w) = true := by decide +kernel
  intro w hw
  have h1 := List.all_eq_true.mp h w hw
  simp only [Bool.and_eq_true, decide_eq_true_eq] at h1
  exact List.mem_filter.mpr ⟨h1.1, h1.2⟩
theorem inX8 : ∀ w ∈ u_ws RX8 TX8 7, w ∈ WALL := by
  have h : (u_ws RX8 TX8 7).all (fun w => decide (w ∈ lw_tbl) && goodWord w) = true := by decide +kernel
  intro w hw
  have h1 := List.all_eq_true.mp h w hw
  simp only [Bool.and_eq_true, decide_eq_true_eq] at h1
  exact List.mem_filter.mpr ⟨h1.1, h1.2⟩
theorem inX9 : ∀ w ∈ u_ws RX9 TX9 9, w ∈ WALL := by
  have h : (u_ws RX9 TX9 9).all (fun w => decide (w ∈ lw_tbl) && goodWord w) = true := by decide +kernel
  intro w hw
  have h1 := List.all_eq_true.mp h w hw
  simp only [Bool.and_eq_true, decide_eq_true_eq] at h1
  exact List.mem_filter.mpr ⟨h1.1, h1.2⟩
theorem inX10 : ∀ w ∈ u_ws RX10 TX10 3, w ∈ WALL := by
  have h : (u_ws RX10 TX10 3).all (fun w => decide (w ∈ lw_tbl) && goodWord w) = true := by decide +kernel
  intro w hw
  have h1 := List.all_eq_true.mp h w hw
  simp only [Bool.and_eq_true, decide_eq_true_eq] at h1
  exact List.mem_filter.mpr ⟨h1.1, h1.2⟩
