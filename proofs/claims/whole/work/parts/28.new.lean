/-! making: an object, a row of ints or longs, Object's constructor -/
theorem zI_nn {k : Nat} (h : k < 2147483648) : ¬ zI (k : Int) < 0 := by
  rw [zI_0, zI_lt ⟨by omega, by omega⟩ ⟨by omega, by omega⟩]
  omega
theorem wa_00 : (fun _ : Nat => zI 0) = wa 0 := by
  funext j
  unfold wa
  rw [dg_zero]
  rfl
theorem shA_00 : (fun _ : Nat => zI 0) = shA (fun _ => 0) := by
  funext j
  unfold shA
  rw [dg_zero]
  rfl
section ZNEW
variable {p : Program} {l : Launch} {e : Env} {R : Room} {s : State} {m : MethodId} {args : Array Value} {below : List Frame} {meth : Method} {c : Code} {cells slots : Nat} {Q : State → Prop}
variable {D : va_G} {cl : List vw_C} {tys : List (ClassId × FieldType)} {A : Nat → Prop} {H0 : Heap} {nL : Nat} {Ts : List Cond} {own : String}
variable {cc : ByteArray} {pc : Nat} {lv : List (Nat × Value)} {st : List Value} {ws : va_W} {cI cL : ClassId} {qT : Nat}
theorem z_new (S : CallFix p m c cc nL s args Ts own) (hK : va_K D cl tys s) (hA : ∀ q : Nat, H0.size ≤ q → A q) {C : String} {T : u_T} {N ci index : Nat} (hin : ∀ w ∈ u_ws C T N, w ∈ Ts) (ty : Nat → FieldType) (hty : ∀ k, k < N → parseFieldDescriptor (T k).2.2.1 = some (ty k)) (hcl : Cond.classLink own index C ∈ Ts) (hinst : Cond.instantiable C N ∈ Ts) (hini : Cond.initialized C ∈ Ts) (hc : cl[ci]? = some (C, T, N)) {fs : List Value} (hfs : ∀ j, j < N → defaultValue (ty j) = vp_V fs j) (hf : cells + 1 ≤ R.cells ∧ slots + N ≤ R.slots) (hd : decode cc pc = .ok (.new index, 3)) (kk : ∀ q : Nat, ZZ p l e R s m args below meth c D cl A H0 nL (cells + 1) (slots + N) Q (pc + 3) lv (.ref q :: st) (ws ++ [(q, .inr (ci, fs))])) : ZZ p l e R s m args below meth c D cl A H0 nL cells slots Q pc lv st ws :=
  fun H locs ls hP hD hS h => va_new S.1 S.2.1 S.2.2.2.2 hin ty hty S.2.2.2.1 (S.2.2.2.2 _ hcl) (S.2.2.2.2 _ hinst) (S.2.2.2.2 _ hini) hK hP hD hS hA hc hfs hf.1 hf.2 hd (fun q H1 hP1 hD1 hS1 => kk q H1 locs ls hP1 hD1 hS1 h)
theorem z_newI (S : CallFix p m c cc nL s args Ts own) (hg : zG cI cL qT A s) (hA : ∀ q : Nat, H0.size ≤ q → A q) (harr : Cond.arrayClass .int ∈ Ts) (N : Nat) {n : Int} (hn : n = (N : Int)) (hN : N < 100000) (hf : cells + 1 ≤ R.cells ∧ slots + N ≤ R.slots) (hd : decode cc pc = .ok (.newarray .int, 2)) (kk : ∀ q : Nat, ZZ p l e R s m args below meth c D cl A H0 nL (cells + 1) (slots + N) Q (pc + 2) lv (.ref q :: st) (ws ++ [aI cI q N (fun _ => zI 0)])) : ZZ p l e R s m args below meth c D cl A H0 nL cells slots Q pc lv (.int (zI n) :: st) ws := by
  intro H locs ls hP hD hS h
  subst hn
  refine va_newaK (atype := .int) (N := N) S.1 S.2.1 (S.2.2.2.2 _ harr) rfl hd rfl (zI_nn (by omega)) (zI_cl (by omega)) (show N * 4 ≤ 536870912 by omega) hf.1 hf.2 rfl fun H1 cA e1 z1 o1 hAr hNm => ?_
  have hcA : cA = cI := by
    have h1 := hg.2.2.2.2.2.2.1
    rw [show ("[" ++ (newarray.typeOf .int).toString : String) = "[I" by decide] at hNm
    rw [h1] at hNm
    exact (Option.some.inj hNm).symm
  subst hcA
  have hk : ∀ (k : Nat) (x : Nat × va_E), ws[k]? = some x → H1[x.1]? = H[x.1]? := fun k x hx => o1 x.1 ((hP k x hx).lt)
  refine kk H.size H1 locs ls ((hP.kept hk).app (fun k x hx => ?_)) (hD.push hP rfl (hA _ hS.1)) ⟨Nat.le_trans hS.1 (by omega), fun x h1 h2 => (o1 x (Nat.lt_of_lt_of_le h1 hS.1)).trans (hS.2.1 x h1 h2), hS.2.2⟩ h
  have hz : k < 1 := (List.getElem?_eq_some_iff.mp hx).1
  rw [show k = 0 by omega] at hx
  cases hx
  exact e1
theorem z_newL (S : CallFix p m c cc nL s args Ts own) (hg : zG cI cL qT A s) (hA : ∀ q : Nat, H0.size ≤ q → A q) (harr : Cond.arrayClass .long ∈ Ts) (N : Nat) {n : Int} (hn : n = (N : Int)) (hN : N < 100000) (hf : cells + 1 ≤ R.cells ∧ slots + N ≤ R.slots) (hd : decode cc pc = .ok (.newarray .long, 2)) (kk : ∀ q : Nat, ZZ p l e R s m args below meth c D cl A H0 nL (cells + 1) (slots + N) Q (pc + 2) lv (.ref q :: st) (ws ++ [aL cL q N (fun _ => zL 0)])) : ZZ p l e R s m args below meth c D cl A H0 nL cells slots Q pc lv (.int (zI n) :: st) ws := by
  intro H locs ls hP hD hS h
  subst hn
  refine va_newaK (atype := .long) (N := N) S.1 S.2.1 (S.2.2.2.2 _ harr) rfl hd rfl (zI_nn (by omega)) (zI_cl (by omega)) (show N * 8 ≤ 536870912 by omega) hf.1 hf.2 rfl fun H1 cA e1 z1 o1 hAr hNm => ?_
  have hcA : cA = cL := by
    have h1 := hg.2.2.2.2.2.2.2
    rw [show ("[" ++ (newarray.typeOf .long).toString : String) = "[J" by decide] at hNm
    rw [h1] at hNm
    exact (Option.some.inj hNm).symm
  subst hcA
  have hk : ∀ (k : Nat) (x : Nat × va_E), ws[k]? = some x → H1[x.1]? = H[x.1]? := fun k x hx => o1 x.1 ((hP k x hx).lt)
  refine kk H.size H1 locs ls ((hP.kept hk).app (fun k x hx => ?_)) (hD.push hP rfl (hA _ hS.1)) ⟨Nat.le_trans hS.1 (by omega), fun x h1 h2 => (o1 x (Nat.lt_of_lt_of_le h1 hS.1)).trans (hS.2.1 x h1 h2), hS.2.2⟩ h
  have hz : k < 1 := (List.getElem?_eq_some_iff.mp hx).1
  rw [show k = 0 by omega] at hx
  cases hx
  exact e1
theorem z_oinit {c0 : Cond} {a idx : Nat} (S : CallFix p m c cc nL s args (c0 :: zB) own) (hl : Cond.methodLink own idx objectInit ∈ zB) (hd : decode cc pc = .ok (.invokespecial idx, 3)) (hw : (st.map fun v => v.category).sum ≤ 8) (hR : 1 ≤ R.frames ∧ 20 ≤ R.locals) (kk : ZZ p l e R s m args below meth c D cl A H0 nL cells slots Q (pc + 3) lv st ws) : ZZ p l e R s m args below meth c D cl A H0 nL cells slots Q pc lv (.ref a :: st) ws :=
  fun H locs ls hP hD hS h => W.objInit S.1 S.2.1 S.2.2.2.1 (S.2.2.2.2 _ (List.mem_cons_of_mem _ hl)) (S.2.2.2.2 _ kj_i) (S.2.2.2.2 _ kj_c) rfl (by rw [S.2.2.1]; exact h.1) rfl hd hR.1 (by show 2 * 0 + _ + 12 ≤ _; omega) (kk H locs ls hP hD hS h)
end ZNEW
