set_option maxHeartbeats 4000000 in
set_option maxRecDepth 100000 in
theorem zS_in : ∀ q ∈ zSR, Cond.exactly (Term.string "KiloFractions" q.1) "java/lang/String" ∈ flatC (Jvm.Cond.and given_1 narrow_1) := by decide +kernel
set_option maxHeartbeats 4000000 in
set_option maxRecDepth 100000 in
theorem zX_in : ∀ x ∈ zXN, ∀ y ∈ zXN, x ≠ y → Cond.not (.castable x y) ∈ flatC (Jvm.Cond.and given_1 narrow_1) := by decide +kernel
set_option maxHeartbeats 4000000 in
set_option maxRecDepth 100000 in
theorem zNW_on : ∀ w ∈ zNW, w.onTables = true := by decide +kernel
set_option maxHeartbeats 4000000 in
set_option maxRecDepth 100000 in
/-- the classes, as the tables have them -/
theorem zK_at {s : State} {b : Nat} {c0 : Cond} (h5 : ∀ w ∈ c0 :: zB, w.before #[Value.ref b] s = true) : ∃ (dC : Nat → ClassId) (dI : Nat → Nat → Nat) (cI cL : ClassId), va_K (dC, dI) zcl [(cI, .int), (cL, .long)] s ∧ zC cI cL s := by
  obtain ⟨cW, iW, kW⟩ := u_known h5 la_W (h5 _ kc_W)
  obtain ⟨cF, iF, kF⟩ := u_known h5 la_F (h5 _ kc_F)
  obtain ⟨cH, iH, kH⟩ := u_known h5 la_H (h5 _ kc_H)
  obtain ⟨cB, iB, kB⟩ := u_known h5 la_B (h5 _ kc_B)
  obtain ⟨cK, iK, kK⟩ := u_known h5 la_K (h5 _ kc_K)
  obtain ⟨cM, iM, kM⟩ := u_known h5 la_M (h5 _ kc_M)
  obtain ⟨cI, k1, o1, f1, g1, d1⟩ := Cond.arrayClass_spec (h5 _ ka_int)
  obtain ⟨cL, k2, o2, f2, g2, d2⟩ := Cond.arrayClass_spec (h5 _ ka_long)
  refine ⟨fun i => if i = 0 then cW else if i = 1 then cF else if i = 2 then cH else if i = 3 then cB else if i = 4 then cK else cM, fun i => if i = 0 then iW else if i = 1 then iF else if i = 2 then iH else if i = 3 then iB else if i = 4 then iK else iM, cI, cL, ⟨fun c q hq => ?_, fun k q hq => ?_⟩, ?_⟩
  · have hc : c < 6 := (List.getElem?_eq_some_iff.mp hq).1
    rcases (show c = 0 ∨ c = 1 ∨ c = 2 ∨ c = 3 ∨ c = 4 ∨ c = 5 by omega) with rfl | rfl | rfl | rfl | rfl | rfl <;> (cases hq; first | exact kW | exact kF | exact kH | exact kB | exact kK | exact kM)
  · have hc : k < 2 := (List.getElem?_eq_some_iff.mp hq).1
    rcases (show k = 0 ∨ k = 1 by omega) with rfl | rfl
    · cases hq
      exact ⟨fun n z => ⟨fun k h => (by cases h), k1, g1, o1, d1⟩, f1⟩
    · cases hq
      exact ⟨fun n z => ⟨fun k h => (by cases h), k2, g2, o2, d2⟩, f2⟩
  · refine ⟨?_, ?_⟩
    · rw [show ("[I" : String) = "[" ++ FieldType.int.toString by decide]; exact f1
    · rw [show ("[J" : String) = "[" ++ FieldType.long.toString by decide]; exact f2
theorem zEq {args : Array Value} {s : State} {t : Term} {z : Int32} (h : (Cond.eq t (.int z)).before args s = true) : t.eval args s none [] s = some (.int z) := by
  cases hv : t.eval args s none [] s with
  | none => simp [Cond.before, Cond.holds, Cond.value, hv] at h
  | some w =>
    have hz : (Term.int z).eval args s none [] s = some (.int z) := rfl
    simp only [Cond.before, Cond.holds, Cond.value, hv, hz] at h
    cases w <;> simp_all
theorem zEl {args : Array Value} {s : State} {t : Term} {i z : Int32} {q : Nat} {cell : Cell} (ht : t.eval args s none [] s = some (.ref q)) (ha : s.arrayAt? q = some cell) (h : (Cond.eq (.elem t (.int i)) (.int z)).before args s = true) : cell.slots[i.toNatClampNeg]? = some (.int z) := by
  obtain ⟨a, j, cell2, h1, h2, h3, -, h5⟩ := Term.elem_spec (zEq h)
  cases (Option.some.inj (ht.symm.trans h1) : Value.ref q = .ref a)
  cases (Option.some.inj (ha.symm.trans h3) : cell = cell2)
  cases (Option.some.inj (h2 : some (Value.int i) = some (.int j)) : Value.int i = .int j)
  exact h5
theorem zLen {args : Array Value} {s : State} {t : Term} {n : Nat} (hn : n < 2147483648) (h : (Cond.eq (.length t) (.int (Int32.ofNat n))).before args s = true) : ∃ (q : Nat) (cell : Cell), t.eval args s none [] s = some (.ref q) ∧ s.arrayAt? q = some cell ∧ cell.slots.size = n := by
  have hv := zEq h
  obtain ⟨q, cell, ht, ha, hs⟩ := Term.length_spec hv
  refine ⟨q, cell, ht, ha, ?_⟩
  have hlt : cell.slots.size < 2147483648 := by
    simp only [Term.eval, ht, ha, Option.bind_eq_bind, Option.bind_some] at hv
    by_cases hlt : cell.slots.size < 2147483648
    · exact hlt
    · simp [hlt] at hv
  have h2 : Int32.ofNat n = Int32.ofNat cell.slots.size := Value.int.inj hs
  have h3 := congrArg Int32.toInt h2
  rw [Int32.toInt_ofNat_small hn, Int32.toInt_ofNat_small hlt] at h3
  omega
set_option maxHeartbeats 4000000 in
set_option maxRecDepth 100000 in
theorem zT_at {s : State} {b : Nat} (hf : ∀ w ∈ flatC (Jvm.Cond.and given_1 narrow_1), w.before #[Value.ref b] s = true) : ∃ qT : Nat, (Term.static "KiloFractions" "TENS" "[I").eval #[Value.ref b] s none [] s = some (.ref qT) ∧ va_X qT 10 zTens s s.heap ∧ qT < s.heap.size := by
  obtain ⟨qT, cell, ht, ha, hs⟩ := zLen (n := 10) (t := Term.static "KiloFractions" "TENS" "[I") (by decide) (hf _ (by decide +kernel))
  obtain ⟨hcell, hunk, -, -⟩ := State.arrayAt?_spec ha
  have hof := (Cond.arrayOf_spec (ty := .int) (hf (Cond.arrayOf (Term.static "KiloFractions" "TENS" "[I") .int) (by decide +kernel)) ht hcell).1
  refine ⟨qT, ht, ⟨cell, hcell, hof, hunk, hs, fun j hj => ?_⟩, (Array.getElem?_eq_some_iff.mp hcell).1⟩
  rcases (show j = 0 ∨ j = 1 ∨ j = 2 ∨ j = 3 ∨ j = 4 ∨ j = 5 ∨ j = 6 ∨ j = 7 ∨ j = 8 ∨ j = 9 by omega) with rfl | rfl | rfl | rfl | rfl | rfl | rfl | rfl | rfl | rfl
  · have h := zEl (i := 0) (z := 1) ht ha (hf _ (by decide +kernel))
    rw [show ((0 : Int32)).toNatClampNeg = 0 by decide] at h
    rw [show zTens 0 = 1 by decide]
    exact h
  · have h := zEl (i := 1) (z := 10) ht ha (hf _ (by decide +kernel))
    rw [show ((1 : Int32)).toNatClampNeg = 1 by decide] at h
    rw [show zTens 1 = 10 by decide]
    exact h
  · have h := zEl (i := 2) (z := 100) ht ha (hf _ (by decide +kernel))
    rw [show ((2 : Int32)).toNatClampNeg = 2 by decide] at h
    rw [show zTens 2 = 100 by decide]
    exact h
  · have h := zEl (i := 3) (z := 1000) ht ha (hf _ (by decide +kernel))
    rw [show ((3 : Int32)).toNatClampNeg = 3 by decide] at h
    rw [show zTens 3 = 1000 by decide]
    exact h
  · have h := zEl (i := 4) (z := 10000) ht ha (hf _ (by decide +kernel))
    rw [show ((4 : Int32)).toNatClampNeg = 4 by decide] at h
    rw [show zTens 4 = 10000 by decide]
    exact h
  · have h := zEl (i := 5) (z := 100000) ht ha (hf _ (by decide +kernel))
    rw [show ((5 : Int32)).toNatClampNeg = 5 by decide] at h
    rw [show zTens 5 = 100000 by decide]
    exact h
  · have h := zEl (i := 6) (z := 1000000) ht ha (hf _ (by decide +kernel))
    rw [show ((6 : Int32)).toNatClampNeg = 6 by decide] at h
    rw [show zTens 6 = 1000000 by decide]
    exact h
  · have h := zEl (i := 7) (z := 10000000) ht ha (hf _ (by decide +kernel))
    rw [show ((7 : Int32)).toNatClampNeg = 7 by decide] at h
    rw [show zTens 7 = 10000000 by decide]
    exact h
  · have h := zEl (i := 8) (z := 100000000) ht ha (hf _ (by decide +kernel))
    rw [show ((8 : Int32)).toNatClampNeg = 8 by decide] at h
    rw [show zTens 8 = 100000000 by decide]
    exact h
  · have h := zEl (i := 9) (z := 1000000000) ht ha (hf _ (by decide +kernel))
    rw [show ((9 : Int32)).toNatClampNeg = 9 by decide] at h
    rw [show zTens 9 = 1000000000 by decide]
    exact h
theorem zS_at {s : State} {b : Nat} (hf : ∀ w ∈ flatC (Jvm.Cond.and given_1 narrow_1), w.before #[Value.ref b] s = true) : ∀ q ∈ zSR, ∃ a, (Term.string "KiloFractions" q.1).eval #[Value.ref b] s none [] s = some (.ref a) := by
  intro q hq
  have hw : Cond.exactly (Term.string "KiloFractions" q.1) "java/lang/String" ∈ flatC (Jvm.Cond.and given_1 narrow_1) := zS_in q hq
  obtain ⟨a, c, cell, k, ha, -⟩ := Cond.exactly_spec (hf _ hw)
  exact ⟨a, ha⟩
set_option maxHeartbeats 4000000 in
set_option maxRecDepth 100000 in
/-- what goes along with the run holds at the law's entry -/
theorem zG_at {s : State} {b : Nat} {c0 : Cond} {cI cL : ClassId} (hts : ∀ w ∈ lw_tbl, w.before #[Value.ref b] s = true) (hf : ∀ w ∈ flatC (Jvm.Cond.and given_1 narrow_1), w.before #[Value.ref b] s = true) (hC : zC cI cL s) : ∃ qT : Nat, zG cI cL qT (fun q => s.heap.size ≤ q) s := by
  obtain ⟨qT, hv, hX, hq⟩ := zT_at hf
  have hA : ∀ a : Nat, a < s.heap.size → ¬ (fun q => s.heap.size ≤ q) a := fun a h => Nat.not_le_of_lt h
  refine ⟨qT, fun w hw => va_Nw.of (zNW_on w hw) (hts w (zNW_in w hw)), va_Zof (hts _ (by decide +kernel)) (hts _ (by decide +kernel)) hv hA, hX, hq, hA qT hq, ⟨fun w hw => va_Nw.of (zFW_face w hw).2 (hts w (zFW_in w hw)), fun q hq => ?_, fun x hx y hy hn => va_Nc.of (hf _ (zX_in x hx y hy hn)), vx_Zqof (hts _ (by decide +kernel)) (hts _ (by decide +kernel)) (hf _ (by decide +kernel)) hA, vx_Zqof (hts _ (by decide +kernel)) (hts _ (by decide +kernel)) (hf _ (by decide +kernel)) hA⟩, hC⟩
  obtain ⟨a, ha⟩ := zS_at hf q hq
  exact ⟨a, vk_R.of (hts _ (zSR_in q hq)) ha⟩
set_option maxHeartbeats 4000000 in
set_option maxRecDepth 100000 in
theorem whole_start {p : Program} {e : Env} {s : State} {m : MethodId} {below : List Frame} {meth : Method} {c : Code} (l : Launch) (hst : l.stackTraces = false) {b L : Nat} {xs : Nat → Int32} (hL : L ≤ 2560) (C0 : lw_At p s m meth c b L xs) : W p l e room_1 s m #[Value.ref b] below meth c s.heap [] 0 0 (lw_Z below #[Value.ref b] s) (entryFrame m ([Value.ref b] : List Value).toArray 8) := by
  obtain ⟨hx, hb, hr, hml, hown, hts, hX, hbl, hlk, hgv⟩ := C0
  have hf := flat_of_before _ hgv
  have S : CallFix p m c c_L_law 8 s #[Value.ref b] (Cond.initialized "KiloFractionsLaw" :: zB) "KiloFractionsLaw" := ⟨hx, hb, hml, hown, fun w hw => by
    rcases List.mem_cons.mp hw with h | h
    · rw [h]; exact hts _ (List.mem_filter.mp ki_L).1
    · exact hts _ (List.mem_filter.mp h).1⟩
  obtain ⟨dC, dI, cI, cL, hK, hC⟩ := zK_at S.2.2.2.2
  obtain ⟨qT, hg⟩ := zG_at (c0 := Cond.initialized "KiloFractionsLaw") hts hf hC
  have hbody := lw_body p l e s m #[Value.ref b] below meth c dC dI cI cL qT (fun q => s.heap.size ≤ q) (lw_Z below #[Value.ref b] s) _ S hK hg (fun q h => h) hst b L xs hX hbl (Nat.not_le_of_lt hbl) hL (by
    intro k mo ou t ws2 hI ht
    refine z_iconst S d_L_law_1412 ?_
    intro H locs ls hP hD hS hl
    refine va_forget (fun q hq => hS.2.2 q hq) ?_
    refine W.widen (show _ ≤ 1091 by omega) (show _ ≤ 11859 by omega) ?_
    exact lw_ret hx hb hr hlk d_L_law_1413)
  have hl := lv_entry [Value.ref b] (n := 8) (Nat.le_of_ble_eq_true rfl)
  have hP0 : va_P (dC, dI) zcl [] s.heap := by
    intro k q h
    simp at h
  have hD0 : va_D (fun q => s.heap.size ≤ q) [] := by
    refine ⟨?_, ?_⟩
    · intro i j p q h
      simp at h
    · intro k q h
      simp at h
  rw [lg_entry_eq]
  exact hbody s.heap [] _ hP0 hD0 va_S.rf hl
