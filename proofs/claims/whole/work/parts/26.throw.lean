/-! METHODS THAT THROW: Tm, a contract of a call that ends in an exception of the class E, with the cells w, 'post w' -/
def zX (D : va_G) (cl : List vw_C) (ws : va_W) (sz : Nat) (E : String) (post : va_W → Prop) : String → State → State → Prop := fun E' st t => E' = E ∧ (∃ w : va_W, post w ∧ va_P D cl w t.heap ∧ va_D (va_A ws sz) w) ∧ va_F (va_A ws sz) st t
def zF : Array Value → State → Outcome → State → Prop := fun _ _ _ _ => False
def Tm (l : Launch) (y : MethodName) (wds : List Cond) (rm : Room) (D : va_G) (cl : List vw_C) (tys : List (ClassId × FieldType)) (G : (Nat → Prop) → State → Prop) (av : List Value) (ws : va_W) (E : String) (post : va_W → Prop) (mc ms : Nat) : Prop :=
  ∀ sz : Nat, vx_Met l y wds rm (zPre D cl tys G av ws sz) zF (zX D cl ws sz E post) mc ms (va_A ws sz)
theorem mp_fm {α β : Type} {f : α → Option β} : ∀ {is : List α} {w : List β}, is.map f = w.map some → is.filterMap f = w
  | [], [], _ => rfl
  | [], _ :: _, h => by simp at h
  | _ :: _, [], h => by simp at h
  | i :: is, x :: w, h => by
    simp only [List.map_cons, List.cons.injEq] at h
    rw [List.filterMap_cons, h.1, mp_fm h.2]
/-- the cells w', picked out of w -/
def zSub (w w' : va_W) : Prop := ∃ is : List Nat, va_nd is = true ∧ is.map (fun i => w[i]?) = w'.map some
section TTR
variable {p : Program} {l : Launch} {e : Env} {R : Room} {s : State} {m : MethodId} {args : Array Value} {below : List Frame} {meth : Method} {c : Code} {cells slots : Nat} {Q : State → Prop}
variable {D : va_G} {cl : List vw_C} {tys : List (ClassId × FieldType)} {G : (Nat → Prop) → State → Prop} {A : Nat → Prop} {nL : Nat} {Ts : List Cond} {own : String}
variable {cc : ByteArray} {pc : Nat} {lv lv' : List (Nat × Value)} {st : List Value} {ws ws' : va_W}
theorem Tm.ofZ {y : MethodName} {wds wds' : List Cond} {rm : Room} {av : List Value} {E : String} {post : va_W → Prop} {mc ms maxL : Nat} {ret : Option FieldType}
    (hy : plainName y.cls = true) (hw : wds = Cond.code y cc maxL ret :: wds') (hav : (lg_sl av).length ≤ maxL) (hlv : lv_args 0 av = lv)
    (body : ∀ (p : Program) (e : Env) (s : State) (m : MethodId) (below : List Frame) (meth : Method) (c : Code) (A : Nat → Prop), CallFix p m c cc maxL s av.toArray wds y.cls → meth.sig.returnType = ret → meth.locks = false → meth.name = y.name → va_K D cl tys s → G A s → (∀ q : Nat, s.heap.size ≤ q → A q) → A = va_A ws s.heap.size → (∀ x ∈ c.exceptionTable.toList, False) →
      ZZ p l e rm s m av.toArray below meth c D cl A s.heap maxL 0 0 (vx_MQ below zF (zX D cl ws s.heap.size E post) av.toArray s mc ms (va_A ws s.heap.size)) 0 lv [] ws) :
    Tm l y wds rm D cl tys G av ws E post mc ms := by
  intro sz
  refine vx_ofW (cc := cc) (maxL := maxL) (ret := ret) hy hw ?_
  intro p e s m args below meth c s₁ B hml htab hv
  obtain ⟨rfl, hsz, hP, hK, hD0, hG⟩ := hv
  subst hsz
  have hD := hD0.self (sz := s.heap.size)
  have hl := lv_entry av (n := maxL) hav
  rw [hlv] at hl
  rw [lg_entry_eq]
  exact body p e s m below meth c (va_A ws s.heap.size) ⟨B.exec, B.bytes, hml, findClass_of_methodNamed B.named, atoms_spec (ws := wds) B.pre⟩ B.returns B.notSynchronized (name_of_methodNamed B.named B.method).1 hK hG (fun q h => Or.inr h) rfl htab s.heap [] _ hP hD va_S.rf hl
/-- a callee's exception goes on to the caller -/
theorem z_outV {y : MethodName} {wds : List Cond} {rm : Room} {bytes : ByteArray} {maxL index n mc ms : Nat} {ret : Option FieldType} {C E : String} {b : Nat} {As : List Value} {q : vw_C} {fs : List Value} {ci : Nat} {wc wr w0 : va_W} {postC post : va_W → Prop} {mc' ms' : Nat}
    (S : CallFix p m c cc nL s args Ts own) (hG : zGok G) (hK : va_K D cl tys s) (hg : G A s) (hA : ∀ q : Nat, s.heap.size ≤ q → A q) (hlo : meth.locks = false) (hAe : A = va_A w0 s.heap.size) (htab : ∀ x ∈ c.exceptionTable.toList, False) (hM : Tm l y wds rm D cl tys G (.ref b :: As) wc E postC mc ms) (cw : CallW R s args own C index y bytes maxL ret wds rm mc ms n) (hn : As.length = n) (hW : (st.map fun v => v.category).sum ≤ 8) (hd : decode cc pc = .ok (.invokevirtual index, 3)) (hf : cells + mc ≤ R.cells ∧ slots + ms ≤ R.slots) (hf2 : cells + mc ≤ mc' ∧ slots + ms ≤ ms') {st0 : List Value} (hst : st0 = As.reverse ++ .ref b :: st)
    (isC isR : List Nat) (q0 : Nat) (he : ws[q0]? = some (b, .inr (ci, fs))) (hc : cl[ci]? = some q) (hq : q.1 = C) (hnC : va_nd isC = true) (hC : isC.map (fun i => ws[i]?) = wc.map some) (hC2 : isC.filterMap (fun i => ws[i]?) = wc) (hR : isR.map (fun i => ws[i]?) = wr.map some) (hnR : va_nd isR = true) (hdis : ∀ i ∈ isR, i ∉ isC)
    (kk : ∀ w : va_W, postC w → ∃ w' : va_W, post w' ∧ zSub (wr ++ w) w') :
    ZZ p l e R s m args below meth c D cl A s.heap nL cells slots (vx_MQ below zF (zX D cl w0 s.heap.size E post) args s mc' ms' (va_A w0 s.heap.size)) pc lv st0 ws := by
  subst hst
  intro H locs ls hP hD hS hl T hT X
  have hr := vx_runV S (hM H.size) cw ⟨zPre_blind hG, hq ▸ va_recv hK hP hc he, z_pre hG hK hg hP hD hS hA isC hnC hC hC2⟩ (g := F0 m pc ls (As.reverse ++ .ref b :: st)) rfl hn hl.1 rfl (lv_room hW) hd hf (below := below) (meth := meth) (locs := locs) (cells := cells) (slots := slots) (e := e) T hT X
  rcases hr with ⟨v, st₀, t, T', L, -, -, -, -, -, hF, -⟩ | ⟨x, st₀, t, T', L, E', ce, h0, X', hL, e1, e2, ⟨rfl, ⟨w, hp, hP1, hD1⟩, hz, hk⟩, hce, hcv, hcl, stp⟩
  · exact hF.elim
  · rw [h0] at hz hk
    have hFr := va_free (wc := wc) hD hS hA isC hC
    obtain ⟨hP2, hD2⟩ := va_join hP hD isC isR hC hR hnR hdis hk hFr hP1 hD1
    have hS2 : va_S A s.heap t.heap (locs ++ L) := ⟨Nat.le_trans hS.1 hz, fun q h1 h2 => by rw [hk q (Nat.lt_of_lt_of_le h1 hS.1) (fun z => h2 (hFr q z))]; exact hS.2.1 q h1 h2, fun q hq => by
      rcases List.mem_append.mp hq with h | h
      · exact hS.2.2 q h
      · exact hFr _ (hL q h)⟩
    obtain ⟨w', hpw, is, hnd, hmp⟩ := kk w hp
    subst hAe
    have hout : vx_W p l e R s m args below meth c t.heap (locs ++ L) (cells + mc) (slots + ms) (vx_MQ below zF (zX D cl w0 s.heap.size E' post) args s mc' ms' (va_A w0 s.heap.size)) (F0 m pc ls st) x :=
      vx_out (fun z hz => (htab z hz).elim) hlo (by rw [← e1]; rw [e1]; exact hce) hcv hcl (fun u hu _ => ⟨rfl, ⟨w', hpw, by rw [hu]; exact hP2.sub is (mp_fm hmp), hD2.sub is hnd hmp⟩, hS2.F hu⟩) hS2.2.2 hf2.1 hf2.2
    obtain ⟨t2, a1, b1⟩ := hout T' e1 X'
    exact ⟨t2, stp.trans a1, b1⟩
end TTR
theorem zNm_fit : ∀ n ∈ (["java/lang/RuntimeException", "java/lang/Exception"] : List String), Bundle.fit n = true := by decide +kernel
section TTS
variable {p : Program} {l : Launch} {e : Env} {R : Room} {s : State} {m : MethodId} {args : Array Value} {below : List Frame} {meth : Method} {c : Code} {cells slots : Nat}
variable {D : va_G} {cl : List vw_C} {A : Nat → Prop} {nL : Nat} {c0 : Cond} {cI cL : ClassId} {qT : Nat}
variable {cc : ByteArray} {pc : Nat} {lv : List (Nat × Value)} {st : List Value} {ws : va_W}
/-- what a class's throw takes of the tables -/
def zTw (ic : Nat) (cls : String) : Prop := Bundle.fit cls = true ∧ Cond.initialized cls ∈ zB ∧ (∀ w ∈ (vx_atS "KiloFractions" ic cls ["java/lang/RuntimeException", "java/lang/Exception"]).filter goodWord, w ∈ zB) ∧ (∀ w ∈ (vx_atS "KiloFractions" ic cls ["java/lang/RuntimeException", "java/lang/Exception"]).filter (fun w => !goodWord w), w ∈ zFW) ∧ (∀ w ∈ Cond.initialized cls :: vx_atS "KiloFractions" ic cls ["java/lang/RuntimeException", "java/lang/Exception"], vx_ot w = true)
theorem z_throwS {cls text : String} {ik ix ic mc ms : Nat} {w w0 : va_W} {post : va_W → Prop} (S : CallFix p m c cc nL s args (c0 :: zB) "KiloFractions") (hst : l.stackTraces = false) (hg : zG cI cL qT A s) (hlo : meth.locks = false) (hAe : A = va_A w0 s.heap.size) (htab : ∀ x ∈ c.exceptionTable.toList, False) (tw : zTw ic cls) (hk : Cond.classLink "KiloFractions" ik cls ∈ c0 :: zB) (hstr : (ix, text) ∈ zSR)
    (d0 : decode cc pc = .ok (.new ik, 3)) (d3 : decode cc (pc + 3) = .ok (.dup, 1)) (d4 : decode cc (pc + 4) = .ok (.ldc ix, 2)) (d6 : decode cc (pc + 6) = .ok (.invokespecial ic, 3)) (d9 : decode cc (pc + 9) = .ok (.athrow, 1))
    (hRf : 5 < R.frames) (hRl : (st.map fun v => v.category).sum + 82 ≤ R.locals) (hRc : cells + 1 ≤ R.cells ∧ slots + 6 ≤ R.slots) (hcs : cells + 1 ≤ mc ∧ slots + 6 ≤ ms) (is : List Nat) (hn : va_nd is = true) (hw : is.map (fun i => ws[i]?) = w.map some) (hp : post w) :
    ZZ p l e R s m args below meth c D cl A s.heap nL cells slots (vx_MQ below zF (zX D cl w0 s.heap.size cls post) args s mc ms (va_A w0 s.heap.size)) pc lv st ws := by
  obtain ⟨t1, t2, t3, t4, t5⟩ := tw
  obtain ⟨f1, f2, f3, f4, f5⟩ := hg.2.2.2.2.2.1
  obtain ⟨sa, hsa⟩ := f2 _ hstr
  intro H locs ls hP hD hS h
  subst hAe
  refine vx_throwS (A := va_A w0 s.heap.size) S.1 S.2.1 hst S.2.2.2.1 t1 zNm_fit (S.2.2.2.2 _ hk) (S.2.2.2.2 _ (List.mem_cons_of_mem _ t2)) hsa (vx_hat (fun w hw => S.2.2.2.2 _ (List.mem_cons_of_mem _ (t3 w hw))) t4 (fun w hw => va_Nw.use (zFW_face w hw).2 (f1 w hw))) ?_ f4 f5 hS (h.1.trans S.2.2.1.symm) d0 d3 d4 d6 d9 (fun x hx => (htab x hx).elim) hRf hRl hRc.1 hRc.2 hlo ?_ hS.2.2 hcs.1 hcs.2
  · intro w hw
    rcases List.mem_cons.mp hw with rfl | hw
    · rfl
    · exact t5 w hw
  · intro t _ hsz hkeep
    have hPt : va_P D cl ws t.heap := hP.kept (fun k q hk => hkeep q.1 (hP k q hk).lt)
    exact ⟨rfl, ⟨w, hp, hPt.sub is (mp_fm hw), hD.sub is hn hw⟩, ⟨Nat.le_trans hS.1 hsz, fun q h1 h2 => by rw [hkeep q (Nat.lt_of_lt_of_le h1 hS.1)]; exact hS.2.1 q h1 h2⟩⟩
theorem tw_134 : zTw 134 "java/lang/UnsupportedOperationException" := ⟨by decide +kernel, ki_UnsupportedOperationException, fun w h => List.mem_filter.mpr ⟨(show ∀ w ∈ (vx_atS "KiloFractions" 134 "java/lang/UnsupportedOperationException" ["java/lang/RuntimeException", "java/lang/Exception"]).filter goodWord, w ∈ lw_tbl by decide +kernel) w h, (List.mem_filter.mp h).2⟩, by decide +kernel, by decide +kernel⟩
theorem tw_68 : zTw 68 "java/lang/ArithmeticException" := ⟨by decide +kernel, ki_ArithmeticException, fun w h => List.mem_filter.mpr ⟨(show ∀ w ∈ (vx_atS "KiloFractions" 68 "java/lang/ArithmeticException" ["java/lang/RuntimeException", "java/lang/Exception"]).filter goodWord, w ∈ lw_tbl by decide +kernel) w h, (List.mem_filter.mp h).2⟩, by decide +kernel, by decide +kernel⟩
theorem tw_114 : zTw 114 "java/lang/IndexOutOfBoundsException" := ⟨by decide +kernel, ki_IndexOutOfBoundsException, fun w h => List.mem_filter.mpr ⟨(show ∀ w ∈ (vx_atS "KiloFractions" 114 "java/lang/IndexOutOfBoundsException" ["java/lang/RuntimeException", "java/lang/Exception"]).filter goodWord, w ∈ lw_tbl by decide +kernel) w h, (List.mem_filter.mp h).2⟩, by decide +kernel, by decide +kernel⟩
theorem tw_121 : zTw 121 "java/lang/IllegalArgumentException" := ⟨by decide +kernel, ki_IllegalArgumentException, fun w h => List.mem_filter.mpr ⟨(show ∀ w ∈ (vx_atS "KiloFractions" 121 "java/lang/IllegalArgumentException" ["java/lang/RuntimeException", "java/lang/Exception"]).filter goodWord, w ∈ lw_tbl by decide +kernel) w h, (List.mem_filter.mp h).2⟩, by decide +kernel, by decide +kernel⟩
end TTS
