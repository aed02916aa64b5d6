abbrev oW (q qa : Nat) (u : Int) : Nat × va_E := (q, .inr (0, [.ref qa, .int (zI u)]))
abbrev oF (q : Nat) (sg : Int) (qu ql : Nat) : Nat × va_E := (q, .inr (1, [.int (zI sg), .ref qu, .ref ql]))
abbrev oH (q ql qs : Nat) (n : Int) : Nat × va_E := (q, .inr (2, [.ref ql, .ref qs, .int (zI n)]))
abbrev oB (q ql qr qq : Nat) : Nat × va_E := (q, .inr (3, [.ref ql, .ref qr, .ref qq]))
abbrev oK (q q0 q1 q2 : Nat) (ns : Int) (q4 : Nat) (nw : Int) (q6 q7 q8 q9 q10 q11 : Nat) : Nat × va_E := (q, .inr (4, [.ref q0, .ref q1, .ref q2, .int (zI ns), .ref q4, .int (zI nw), .ref q6, .ref q7, .ref q8, .ref q9, .ref q10, .ref q11]))
abbrev oM (q : Nat) (th : Int) (q1 : Nat) (nv : Int) (q3 q4 q5 : Nat) (ns : Int) (q7 q8 : Nat) (nw : Int) (q10 q11 q12 : Nat) : Nat × va_E := (q, .inr (5, [.int (zI th), .ref q1, .int (zI nv), .ref q3, .ref q4, .ref q5, .int (zI ns), .ref q7, .ref q8, .int (zI nw), .ref q10, .ref q11, .ref q12]))
abbrev aI (cI : ClassId) (q n : Nat) (f : Nat → Int32) : Nat × va_E := (q, .inl (cI, n, .inl f))
abbrev aL (cL : ClassId) (q n : Nat) (f : Nat → Int64) : Nat × va_E := (q, .inl (cL, n, .inr (.inl f)))
def zNW : List Cond := [Cond.methodLinkNest "KiloFractions" 9 y_H_init "KiloFractions", Cond.methodLinkNest "KiloFractions$Fraction" 17 y_W_init "KiloFractions", Cond.fieldLinkNest "KiloFractions$Shelf" 47 "KiloFractions$Whole" "limbs" "[I" "KiloFractions", Cond.fieldLinkNest "KiloFractions$Bench" 36 "KiloFractions$Fraction" "sign" "I" "KiloFractions", Cond.fieldLinkNest "KiloFractions" 87 "KiloFractions$Fraction" "sign" "I" "KiloFractions", Cond.fieldLinkNest "KiloFractions$Shelf" 22 "KiloFractions$Fraction" "sign" "I" "KiloFractions", Cond.fieldLinkNest "KiloFractions$Bench" 24 "KiloFractions$Fraction" "upper" "LKiloFractions$Whole;" "KiloFractions", Cond.fieldLinkNest "KiloFractions$Shelf" 27 "KiloFractions$Fraction" "upper" "LKiloFractions$Whole;" "KiloFractions", Cond.fieldLinkNest "KiloFractions" 181 "KiloFractions$Fraction" "upper" "LKiloFractions$Whole;" "KiloFractions", Cond.fieldLinkNest "KiloFractions$Bench" 29 "KiloFractions$Fraction" "lower" "LKiloFractions$Whole;" "KiloFractions", Cond.fieldLinkNest "KiloFractions$Shelf" 35 "KiloFractions$Fraction" "lower" "LKiloFractions$Whole;" "KiloFractions", Cond.fieldLinkNest "KiloFractions" 185 "KiloFractions$Fraction" "lower" "LKiloFractions$Whole;" "KiloFractions", Cond.methodLinkNest "KiloFractions" 43 y_B_init "KiloFractions", Cond.methodLinkNest "KiloFractions$Bench" 11 y_W_init "KiloFractions", Cond.fieldLinkNest "KiloFractions$Whole" 25 "KiloFractions" "TENS" "[I" "KiloFractions", Cond.methodLinkNest "KiloFractions$Shelf" 48 y_W_dropZerosFrom "KiloFractions"]
theorem zNW_in : ∀ w ∈ zNW, w ∈ lw_tbl := by decide +kernel
theorem kn_K_9 : Cond.methodLinkNest "KiloFractions" 9 y_H_init "KiloFractions" ∈ zNW := List.mem_of_getElem? (i := 0) rfl
theorem kn_F_17 : Cond.methodLinkNest "KiloFractions$Fraction" 17 y_W_init "KiloFractions" ∈ zNW := List.mem_of_getElem? (i := 1) rfl
theorem kn_H_47 : Cond.fieldLinkNest "KiloFractions$Shelf" 47 "KiloFractions$Whole" "limbs" "[I" "KiloFractions" ∈ zNW := List.mem_of_getElem? (i := 2) rfl
theorem kn_B_36 : Cond.fieldLinkNest "KiloFractions$Bench" 36 "KiloFractions$Fraction" "sign" "I" "KiloFractions" ∈ zNW := List.mem_of_getElem? (i := 3) rfl
theorem kn_K_87 : Cond.fieldLinkNest "KiloFractions" 87 "KiloFractions$Fraction" "sign" "I" "KiloFractions" ∈ zNW := List.mem_of_getElem? (i := 4) rfl
theorem kn_H_22 : Cond.fieldLinkNest "KiloFractions$Shelf" 22 "KiloFractions$Fraction" "sign" "I" "KiloFractions" ∈ zNW := List.mem_of_getElem? (i := 5) rfl
theorem kn_B_24 : Cond.fieldLinkNest "KiloFractions$Bench" 24 "KiloFractions$Fraction" "upper" "LKiloFractions$Whole;" "KiloFractions" ∈ zNW := List.mem_of_getElem? (i := 6) rfl
theorem kn_H_27 : Cond.fieldLinkNest "KiloFractions$Shelf" 27 "KiloFractions$Fraction" "upper" "LKiloFractions$Whole;" "KiloFractions" ∈ zNW := List.mem_of_getElem? (i := 7) rfl
theorem kn_K_181 : Cond.fieldLinkNest "KiloFractions" 181 "KiloFractions$Fraction" "upper" "LKiloFractions$Whole;" "KiloFractions" ∈ zNW := List.mem_of_getElem? (i := 8) rfl
theorem kn_B_29 : Cond.fieldLinkNest "KiloFractions$Bench" 29 "KiloFractions$Fraction" "lower" "LKiloFractions$Whole;" "KiloFractions" ∈ zNW := List.mem_of_getElem? (i := 9) rfl
theorem kn_H_35 : Cond.fieldLinkNest "KiloFractions$Shelf" 35 "KiloFractions$Fraction" "lower" "LKiloFractions$Whole;" "KiloFractions" ∈ zNW := List.mem_of_getElem? (i := 10) rfl
theorem kn_K_185 : Cond.fieldLinkNest "KiloFractions" 185 "KiloFractions$Fraction" "lower" "LKiloFractions$Whole;" "KiloFractions" ∈ zNW := List.mem_of_getElem? (i := 11) rfl
theorem kn_K_43 : Cond.methodLinkNest "KiloFractions" 43 y_B_init "KiloFractions" ∈ zNW := List.mem_of_getElem? (i := 12) rfl
theorem kn_B_11 : Cond.methodLinkNest "KiloFractions$Bench" 11 y_W_init "KiloFractions" ∈ zNW := List.mem_of_getElem? (i := 13) rfl
theorem kn_W_25 : Cond.fieldLinkNest "KiloFractions$Whole" 25 "KiloFractions" "TENS" "[I" "KiloFractions" ∈ zNW := List.mem_of_getElem? (i := 14) rfl
theorem kn_H_48 : Cond.methodLinkNest "KiloFractions$Shelf" 48 y_W_dropZerosFrom "KiloFractions" ∈ zNW := List.mem_of_getElem? (i := 15) rfl
def zTens : Nat → Int32 := fun i => zI (10 ^ i : Nat)
/-- what goes along with a run: the nest mates' links, the row TENS; what throwing needs -/
def zFW : List Cond := [.castable "java/lang/UnsupportedOperationException" "java/lang/UnsupportedOperationException", .castable "java/lang/ArithmeticException" "java/lang/ArithmeticException", .castable "java/lang/IndexOutOfBoundsException" "java/lang/IndexOutOfBoundsException", .castable "java/lang/IllegalArgumentException" "java/lang/IllegalArgumentException", .declares ⟨"java/lang/RuntimeException", "<init>", "(Ljava/lang/String;)V"⟩, .declares ⟨"java/lang/Exception", "<init>", "(Ljava/lang/String;)V"⟩, .declares ⟨"java/lang/Throwable", "<init>", "(Ljava/lang/String;)V"⟩]
theorem zFW_face : ∀ w ∈ zFW, w.faceAtom = true ∧ w.onTables = true := by decide +kernel
theorem zFW_in : ∀ w ∈ zFW, w ∈ lw_tbl := by decide +kernel
def zSR : List (Nat × String) := [(210, "no room for a value"), (66, "the lower number is 0"), (203, "no such value"), (98, "the second value is 0"), (112, "no such rule"), (119, "the unit is not 1 to 1,000,000,000"), (132, "the lower end is above the higher"), (212, "no room for a span"), (205, "no such span"), (153, "no such end"), (155, "the weight is not 0 to 1,000,000,000"), (157, "no room for a weight"), (159, "no such weight"), (161, "the whole is not 0 to 1,000,000,000"), (167, "all weights are 0"), (179, "no such part"), (193, "no such digit")]
theorem zSR_in : ∀ q ∈ zSR, Cond.stringRef "KiloFractions" q.1 q.2 ∈ lw_tbl := by decide +kernel
def zXN : List String := ["java/lang/UnsupportedOperationException", "java/lang/ArithmeticException", "java/lang/IndexOutOfBoundsException", "java/lang/IllegalArgumentException"]
def zH (A : Nat → Prop) (U : State) : Prop := (∀ w ∈ zFW, va_Nw w U) ∧ (∀ q ∈ zSR, ∃ a, vk_R "KiloFractions" q.1 q.2 a U) ∧ (∀ x ∈ zXN, ∀ y ∈ zXN, x ≠ y → va_Nc x y U) ∧ vx_Zq Bundle.tN "UNASSIGNED_STACK" Bundle.steD A U U.heap ∧ vx_Zq Bundle.tN "SUPPRESSED_SENTINEL" Bundle.listD A U U.heap
def zC (cI cL : ClassId) (U : State) : Prop := U.vm.findClass "[I" = some cI ∧ U.vm.findClass "[J" = some cL
theorem zC.moved {cI cL : ClassId} {u U : State} (hvm : u.vm.Alike U.vm) (h : zC cI cL u) : zC cI cL U := ⟨(hvm.findClass _ _).trans h.1, (hvm.findClass _ _).trans h.2⟩
def zG (cI cL : ClassId) (qT : Nat) (A : Nat → Prop) (U : State) : Prop := (∀ w ∈ zNW, va_Nw w U) ∧ va_Z "KiloFractions" "TENS" "[I" (.ref qT) A U U.heap ∧ va_X qT 10 zTens U U.heap ∧ qT < U.heap.size ∧ ¬ A qT ∧ zH A U ∧ zC cI cL U
theorem zNW_kind : ∀ w ∈ zNW, (∃ a i b n d h, w = Cond.fieldLinkNest a i b n d h) ∨ ∃ a i x h, w = Cond.methodLinkNest a i x h := by
  intro w hw
  simp only [zNW, List.mem_cons, List.not_mem_nil, or_false] at hw
  rcases hw with rfl | rfl | rfl | rfl | rfl | rfl | rfl | rfl | rfl | rfl | rfl | rfl | rfl | rfl | rfl | rfl <;> first | exact Or.inl ⟨_, _, _, _, _, _, rfl⟩ | exact Or.inr ⟨_, _, _, _, rfl⟩
theorem zG_ok (cI cL : ClassId) (qT : Nat) : zGok (zG cI cL qT) := by
  refine ⟨?_, ?_⟩
  · intro A0 A1 s U H locs hg hS hU hW hA
    obtain ⟨h1, h2, h3, h4, h5, ⟨f1, f2, f3, f4, f5⟩, f6⟩ := hg
    have hk : ∀ a : Nat, a < s.heap.size → ¬ A0 a → U.heap[a]? = s.heap[a]? := fun a ha hna => by rw [hU]; exact hS.2.1 a ha hna
    refine ⟨fun w hw => ?_, ?_, ?_, ?_, fun z => h5 (hA _ z), ⟨fun w hw => ?_, fun q hq => ?_, fun x hx y hy hn => (f3 x hx y hy hn).moved hW.alike, ((f4.kept hk).moved hW.alike).narrow hA, ((f5.kept hk).moved hW.alike).narrow hA⟩, f6.moved hW.alike⟩
    · rcases zNW_kind w hw with ⟨a, i, b, n, d, h, rfl⟩ | ⟨a, i, x, h, rfl⟩
      · exact va_Nw.warmF hW (h1 _ hw)
      · exact va_Nw.warmM hW (h1 _ hw)
    · exact ((h2.kept (H1 := U.heap) hk).moved hW.alike).narrow hA
    · exact (h3.kept (H1 := U.heap) (by rw [hU]; exact hS.2.1 qT h4 h5)).moved hW.alike
    · rw [hU]; exact Nat.lt_of_lt_of_le h4 hS.1
    · exact va_tabs (zFW_face w hw).2 (rfl : (s.setVm U.vm).vm = U.vm) (Cond.faceAtom_setVm (args := #[]) hW.alike w (zFW_face w hw).1 (f1 w hw))
    · obtain ⟨a, ha⟩ := f2 q hq
      exact ⟨a, ha.warm hW⟩
  · intro A U g mk a hg
    obtain ⟨h1, h2, h3, h4, h5, ⟨f1, f2, f3, f4, f5⟩, f6⟩ := hg
    have ak : U.vm.Alike (U.calling g mk a).vm := Vm.Alike.refl U.vm
    refine ⟨fun w hw => ?_, h2.moved ak, h3.moved ak, h4, h5, ⟨fun w hw => va_Nw.same (zFW_face w hw).2 (rfl : U.vm = (U.calling g mk a).vm) (f1 w hw), fun q hq => ?_, fun x hx y hy hn => (f3 x hx y hy hn).moved ak, f4.moved ak, f5.moved ak⟩, f6.moved ak⟩
    · rcases zNW_kind w hw with ⟨a, i, b, n, d, h, rfl⟩ | ⟨a, i, x, h, rfl⟩
      · exact va_Nw.same rfl (rfl : U.vm = (U.calling g mk _).vm) (h1 _ hw)
      · exact va_Nw.same rfl (rfl : U.vm = (U.calling g mk _).vm) (h1 _ hw)
    · obtain ⟨z, hz⟩ := f2 q hq
      exact ⟨z, hz.same (rfl : (U.calling g mk a).vm = U.vm)⟩
section ZCW
variable {p : Program} {R : Room} {s : State} {m : MethodId} {args : Array Value} {c : Code} {nL maxL index n mc ms : Nat} {c0 : Cond} {own C host : String} {y : MethodName} {bytes cc : ByteArray} {ret : Option FieldType} {rm : Room} {cI cL : ClassId} {qT : Nat} {A : Nat → Prop}
theorem zcwV (S : CallFix p m c cc nL s args (c0 :: zB) own) (h1 : Cond.methodLink own index y ∈ c0 :: zB) (h2 : Cond.instanceMethod y ∈ zB ∧ Cond.selects C y y ∈ zB ∧ Cond.initialized C ∈ zB ∧ Cond.code y bytes maxL ret ∈ zB) (h1' : Cond.methodLink own index y ∈ zB) (hd : y.cls = C ∧ y.cls ≠ "java/lang/invoke/MethodHandle" ∧ y.cls ≠ "java/lang/invoke/VarHandle" ∧ (parseMethodDescriptor y.desc).map (fun d => d.parameters.length) = some n) (hrc : rm.cells = mc) (hrs : rm.slots = ms) (hR : rm.frames + 1 ≤ R.frames ∧ 8 + (maxL + 11) + rm.locals ≤ R.locals) : CallW R s args own C index y bytes maxL ret (Cond.code y bytes maxL ret :: zB) rm mc ms n := by
  refine cwV n S.2.2.2.2 (zgood ?_) rfl hrc hrs hd hR
  intro w hw
  simp only [wsV, List.mem_append, List.mem_cons, List.not_mem_nil, or_false] at hw
  rcases hw with (rfl | rfl | rfl | rfl) | rfl | h
  · exact h1'
  · exact h2.1
  · exact h2.2.1
  · exact h2.2.2.1
  · exact h2.2.2.2
  · exact h
theorem zcwVN (S : CallFix p m c cc nL s args (c0 :: zB) own) (hg : zG cI cL qT A s) (h1 : Cond.methodLinkNest own index y host ∈ zNW) (h2 : Cond.instanceMethod y ∈ zB ∧ Cond.selects C y y ∈ zB ∧ Cond.initialized C ∈ zB ∧ Cond.code y bytes maxL ret ∈ zB) (hd : y.cls = C ∧ y.cls ≠ "java/lang/invoke/MethodHandle" ∧ y.cls ≠ "java/lang/invoke/VarHandle" ∧ (parseMethodDescriptor y.desc).map (fun d => d.parameters.length) = some n) (hrc : rm.cells = mc) (hrs : rm.slots = ms) (hR : rm.frames + 1 ≤ R.frames ∧ 8 + (maxL + 11) + rm.locals ≤ R.locals) : va_CN R s args own index y host bytes maxL ret (Cond.code y bytes maxL ret :: zB) rm mc ms n ∧ (Cond.instanceMethod y).before args s = true ∧ (Cond.selects C y y).before args s = true := by
  obtain ⟨hC, hd⟩ := hd
  refine ⟨va_cnB n S.2.2.2.2 (zgood ?_) rfl hrc hrs (hg.1 _ h1) (S.2.2.2.2 _ (List.mem_cons_of_mem _ (hC ▸ h2.2.2.1))) hd hR, S.2.2.2.2 _ (List.mem_cons_of_mem _ h2.1), S.2.2.2.2 _ (List.mem_cons_of_mem _ h2.2.1)⟩
  intro w hw
  rcases List.mem_cons.mp hw with rfl | h
  · exact h2.2.2.2
  · exact h
theorem zcwS (S : CallFix p m c cc nL s args (c0 :: zB) own) (h1' : Cond.methodLink own index y ∈ zB) (h2 : Cond.static y ∈ zB ∧ Cond.initialized C ∈ zB ∧ Cond.code y bytes maxL ret ∈ zB) (hd : y.cls = C ∧ y.cls ≠ "java/lang/invoke/MethodHandle" ∧ y.cls ≠ "java/lang/invoke/VarHandle" ∧ (parseMethodDescriptor y.desc).map (fun d => d.parameters.length) = some n) (hrc : rm.cells = mc) (hrs : rm.slots = ms) (hR : rm.frames + 1 ≤ R.frames ∧ 8 + (maxL + 11) + rm.locals ≤ R.locals) : CallB R s args own index y bytes maxL ret (Cond.code y bytes maxL ret :: zB) rm mc ms n ∧ (Cond.static y).before args s = true := by
  obtain ⟨hC, hd⟩ := hd
  refine ⟨callB_of n S.2.2.2.2 (zgood ?_) rfl hrc hrs (S.2.2.2.2 _ (List.mem_cons_of_mem _ (hC ▸ h2.2.1))) (S.2.2.2.2 _ (List.mem_cons_of_mem _ h1')) hd hR, S.2.2.2.2 _ (List.mem_cons_of_mem _ h2.1)⟩
  intro w hw
  rcases List.mem_cons.mp hw with rfl | h
  · exact h2.2.2
  · exact h
theorem zcwI (S : CallFix p m c cc nL s args (c0 :: zB) own) (h1' : Cond.methodLink own index y ∈ zB) (h2 : Cond.instanceMethod y ∈ zB ∧ Cond.initialized C ∈ zB ∧ Cond.code y bytes maxL none ∈ zB) (hn : y.name = "<init>") (hd : y.cls = C ∧ y.cls ≠ "java/lang/invoke/MethodHandle" ∧ y.cls ≠ "java/lang/invoke/VarHandle" ∧ (parseMethodDescriptor y.desc).map (fun d => d.parameters.length) = some n) (hrc : rm.cells = mc) (hrs : rm.slots = ms) (hR : rm.frames + 1 ≤ R.frames ∧ 8 + (maxL + 11) + rm.locals ≤ R.locals) : CallB R s args own index y bytes maxL none (Cond.code y bytes maxL none :: zB) rm mc ms n ∧ y.name = "<init>" ∧ (Cond.instanceMethod y).before args s = true := by
  obtain ⟨hC, hd⟩ := hd
  refine ⟨callB_of n S.2.2.2.2 (zgood ?_) rfl hrc hrs (S.2.2.2.2 _ (List.mem_cons_of_mem _ (hC ▸ h2.2.1))) (S.2.2.2.2 _ (List.mem_cons_of_mem _ h1')) hd hR, hn, S.2.2.2.2 _ (List.mem_cons_of_mem _ h2.1)⟩
  intro w hw
  rcases List.mem_cons.mp hw with rfl | h
  · exact h2.2.2
  · exact h
theorem zcwIN (S : CallFix p m c cc nL s args (c0 :: zB) own) (hg : zG cI cL qT A s) (h1 : Cond.methodLinkNest own index y host ∈ zNW) (h2 : Cond.instanceMethod y ∈ zB ∧ Cond.initialized C ∈ zB ∧ Cond.code y bytes maxL none ∈ zB) (hn : y.name = "<init>") (hd : y.cls = C ∧ y.cls ≠ "java/lang/invoke/MethodHandle" ∧ y.cls ≠ "java/lang/invoke/VarHandle" ∧ (parseMethodDescriptor y.desc).map (fun d => d.parameters.length) = some n) (hrc : rm.cells = mc) (hrs : rm.slots = ms) (hR : rm.frames + 1 ≤ R.frames ∧ 8 + (maxL + 11) + rm.locals ≤ R.locals) : va_CN R s args own index y host bytes maxL none (Cond.code y bytes maxL none :: zB) rm mc ms n ∧ y.name = "<init>" ∧ (Cond.instanceMethod y).before args s = true := by
  obtain ⟨hC, hd⟩ := hd
  refine ⟨va_cnB n S.2.2.2.2 (zgood ?_) rfl hrc hrs (hg.1 _ h1) (S.2.2.2.2 _ (List.mem_cons_of_mem _ (hC ▸ h2.2.1))) hd hR, hn, S.2.2.2.2 _ (List.mem_cons_of_mem _ h2.1)⟩
  intro w hw
  rcases List.mem_cons.mp hw with rfl | h
  · exact h2.2.2
  · exact h
end ZCW
