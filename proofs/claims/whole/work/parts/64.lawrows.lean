/-! METHODS WITH HANDLERS, and what the law's own body takes -/
section LWR
variable {p : Program} {l : Launch} {e : Env} {R : Room} {s : State} {m : MethodId} {args : Array Value} {below : List Frame} {meth : Method} {c : Code} {cells slots : Nat} {Q : State → Prop}
variable {D : va_G} {cl : List vw_C} {tys : List (ClassId × FieldType)} {G : (Nat → Prop) → State → Prop} {A : Nat → Prop} {H0 : Heap} {nL : Nat} {Ts : List Cond} {own : String}
variable {cc : ByteArray} {pc : Nat} {lv lv' : List (Nat × Value)} {st : List Value} {ws ws' : va_W}
theorem Cm.ofZW {y : MethodName} {wds wds' : List Cond} {rm : Room} {av : List Value} {post : Option Value → va_W → Prop} {mc ms maxL : Nat} {ret : Option FieldType} {hh : List (Nat × Nat × Nat × Nat)}
    (hy : plainName y.cls = true) (hw : wds = Cond.codeWith y cc maxL ret hh :: wds') (hav : (lg_sl av).length ≤ maxL) (hlv : lv_args 0 av = lv)
    (body : ∀ (p : Program) (e : Env) (s : State) (m : MethodId) (below : List Frame) (meth : Method) (c : Code) (A : Nat → Prop), CallFix p m c cc maxL s av.toArray wds y.cls → meth.sig.returnType = ret → meth.locks = false → meth.name = y.name → va_K D cl tys s → G A s → (∀ q : Nat, s.heap.size ≤ q → A q) → A = va_A ws s.heap.size → c.exceptionTable.toList = tableOf hh →
      ZZ p l e rm s m av.toArray below meth c D cl A s.heap maxL 0 0 (MQ below (zPost D cl ws s.heap.size post) av.toArray s mc ms (va_A ws s.heap.size)) 0 lv [] ws) :
    Cm l y wds rm D cl tys G av ws post mc ms := by
  intro sz
  refine va_MetW (cc := cc) (maxL := maxL) (ret := ret) (hh := hh) hy hw ?_
  intro p e s m args below meth c s₁ B hml hv
  obtain ⟨rfl, hsz, hP, hK, hD0, hG⟩ := hv
  subst hsz
  have hD := hD0.self (sz := s.heap.size)
  have hl := lv_entry av (n := maxL) hav
  rw [hlv] at hl
  rw [lg_entry_eq]
  have hpre := atoms_spec (ws := wds) B.pre
  exact body p e s m below meth c (va_A ws s.heap.size) ⟨B.exec, B.bytes, hml, findClass_of_methodNamed B.named, hpre⟩ B.returns B.notSynchronized (name_of_methodNamed B.named B.method).1 hK hG (fun q h => Or.inr h) rfl (vx_table (x := y) B (hpre _ (by rw [hw]; exact List.mem_cons_self))) s.heap [] _ hP hD va_S.rf hl
/-- a callee's exception is caught here -/
theorem z_catchV {y : MethodName} {wds : List Cond} {rm : Room} {bytes : ByteArray} {maxL index n mc ms : Nat} {ret : Option FieldType} {C E : String} {b : Nat} {As : List Value} {q : vw_C} {fs : List Value} {ci : Nat} {wc wr : va_W} {postC : va_W → Prop} {cI cL : ClassId} {qT : Nat}
    (S : CallFix p m c cc nL s args Ts own) (hG : zGok (zG cI cL qT)) (hK : va_K D cl tys s) (hg : zG cI cL qT A s) (hA : ∀ q : Nat, s.heap.size ≤ q → A q) (pre : List ExceptionTableEntry) (x : ExceptionTableEntry) (suf : List ExceptionTableEntry) (hsplit : c.exceptionTable.toList = pre ++ x :: suf)
    (hpass : ∀ z ∈ pre, z.catchType ≠ 0 ∧ ∃ nm : String, Cond.classLink own z.catchType nm ∈ Ts ∧ nm ∈ zXN ∧ E ≠ nm) (hcov : covers x pc = true) (h0 : x.catchType ≠ 0) (hlink : Cond.classLink own x.catchType E ∈ Ts) (hE : E ∈ zXN) (hcst : Cond.castable E E ∈ zFW)
    (hM : Tm l y wds rm D cl tys (zG cI cL qT) (.ref b :: As) wc E postC mc ms) (cw : CallW R s args own C index y bytes maxL ret wds rm mc ms n) (hn : As.length = n) (hW : (st.map fun v => v.category).sum ≤ 8) (hd : decode cc pc = .ok (.invokevirtual index, 3)) (hf : cells + mc ≤ R.cells ∧ slots + ms ≤ R.slots) {st0 : List Value} (hst : st0 = As.reverse ++ .ref b :: st)
    (isC isR : List Nat) (q0 : Nat) (he : ws[q0]? = some (b, .inr (ci, fs))) (hc : cl[ci]? = some q) (hq : q.1 = C) (hnC : va_nd isC = true) (hC : isC.map (fun i => ws[i]?) = wc.map some) (hC2 : isC.filterMap (fun i => ws[i]?) = wc) (hR : isR.map (fun i => ws[i]?) = wr.map some) (hnR : va_nd isR = true) (hdis : ∀ i ∈ isR, i ∉ isC)
    (kk : ∀ (w : va_W) (x9 : Nat), postC w → ZZ p l e R s m args below meth c D cl A s.heap nL (cells + mc) (slots + ms) Q x.handlerPc lv [.ref x9] (wr ++ w)) :
    ZZ p l e R s m args below meth c D cl A s.heap nL cells slots Q pc lv st0 ws := by
  subst hst
  obtain ⟨f1, f2, f3, f4, f5⟩ := hg.2.2.2.2.2.1
  intro H locs ls hP hD hS hl T hT X
  have hr := vx_runV S (hM H.size) cw ⟨zPre_blind hG, hq ▸ va_recv hK hP hc he, z_pre hG hK hg hP hD hS hA isC hnC hC hC2⟩ (g := F0 m pc ls (As.reverse ++ .ref b :: st)) rfl hn hl.1 rfl (lv_room hW) hd hf (below := below) (meth := meth) (locs := locs) (cells := cells) (slots := slots) (e := e) T hT X
  rcases hr with ⟨v, st₀, t, T', L, -, -, -, -, -, hF, -⟩ | ⟨x9, st₀, t, T', L, E', ce, h0', X', hL, e1, e2, ⟨rfl, ⟨w, hp, hP1, hD1⟩, hz, hk⟩, hce, hcv, hcl, stp⟩
  · exact hF.elim
  · rw [h0'] at hz hk
    have hFr := va_free (wc := wc) hD hS hA isC hC
    obtain ⟨hP2, hD2⟩ := va_join hP hD isC isR hC hR hnR hdis hk hFr hP1 hD1
    have hS2 : va_S A s.heap t.heap (locs ++ L) := ⟨Nat.le_trans hS.1 hz, fun q h1 h2 => by rw [hk q (Nat.lt_of_lt_of_le h1 hS.1) (fun z => h2 (hFr q z))]; exact hS.2.1 q h1 h2, fun q hq => by
      rcases List.mem_append.mp hq with h | h
      · exact hS.2.2 q h
      · exact hFr _ (hL q h)⟩
    have hcat : vx_W p l e R s m args below meth c t.heap (locs ++ L) (cells + mc) (slots + ms) Q (F0 m pc ls st) x9 :=
      vx_catch (E := E') (ce := ce) S.2.2.2.1 pre x suf hsplit (fun z hz => by
        obtain ⟨a1, nm, a2, a3, a4⟩ := hpass z hz
        exact Or.inr ⟨a1, nm, S.2.2.2.2 _ a2, f3 _ hE _ a3 a4⟩) hcov h0 (S.2.2.2.2 _ hlink) (va_Nw.use (zFW_face _ hcst).2 (f1 _ hcst)) hce hcv hcl (kk w x9 hp t.heap (locs ++ L) ls hP2 hD2 hS2 hl)
    obtain ⟨t2, a1, b1⟩ := hcat T' e1 X'
    exact ⟨t2, stp.trans a1, b1⟩
theorem z_callSWa {y : MethodName} {wds : List Cond} {rm : Room} {bytes : ByteArray} {maxL index n mc ms : Nat} {ret : Option FieldType} {hh : List (Nat × Nat × Nat × Nat)} {As : List Value} {wc wr : va_W} {post : Value → va_W → Prop} (S : CallFix p m c cc nL s args Ts own) (hG : zGok G) (hK : va_K D cl tys s) (hg : G A s) (hA : ∀ q : Nat, s.heap.size ≤ q → A q) (hM : Ct l y wds rm D cl tys G As wc post mc ms) (cw : vx_CSW R s args own index y bytes maxL ret hh wds rm mc ms n) (hn : As.length = n) (hW : (st.map fun v => v.category).sum ≤ 8) (hd : decode cc pc = .ok (.invokestatic index, 3)) (hf : cells + mc ≤ R.cells ∧ slots + ms ≤ R.slots) {st0 : List Value} (hst : st0 = As.reverse ++ st) (isC isR : List Nat) (hnC : va_nd isC = true) (hC : isC.map (fun i => ws[i]?) = wc.map some) (hC2 : isC.filterMap (fun i => ws[i]?) = wc) (hR : isR.map (fun i => ws[i]?) = wr.map some) (hnR : va_nd isR = true) (hdis : ∀ i ∈ isR, i ∉ isC) (kk : ∀ (x : Value) (w : va_W), post x w → ZZ p l e R s m args below meth c D cl A s.heap nL (cells + mc) (slots + ms) Q (pc + 3) lv (x :: st) (wr ++ w)) : ZZ p l e R s m args below meth c D cl A s.heap nL cells slots Q pc lv st0 ws := by
  subst hst
  exact z_run hA isC isR hC hR hnR hdis (fun H locs ls hP hD hS hl => vx_runSW S (hM H.size) cw ⟨zPre_blind hG, z_pre hG hK hg hP hD hS hA isC hnC hC hC2⟩ rfl hn hl.1 rfl (lv_room hW) hd hf) (fun r w h => by obtain ⟨x, rfl, h⟩ := h; exact kk x w h)
theorem zcwSW {c0 : Cond} {index n mc ms maxL : Nat} {C : String} {y : MethodName} {bytes : ByteArray} {ret : Option FieldType} {rm : Room} {hh : List (Nat × Nat × Nat × Nat)} (S : CallFix p m c cc nL s args (c0 :: zB) own) (h1' : Cond.methodLink own index y ∈ zB) (h2 : Cond.static y ∈ zB ∧ Cond.initialized C ∈ zB ∧ Cond.codeWith y bytes maxL ret hh ∈ zB) (hd : y.cls = C ∧ y.cls ≠ "java/lang/invoke/MethodHandle" ∧ y.cls ≠ "java/lang/invoke/VarHandle" ∧ (parseMethodDescriptor y.desc).map (fun d => d.parameters.length) = some n) (hrc : rm.cells = mc) (hrs : rm.slots = ms) (hR : rm.frames + 1 ≤ R.frames ∧ 8 + (maxL + 11) + rm.locals ≤ R.locals) : vx_CSW R s args own index y bytes maxL ret hh (Cond.codeWith y bytes maxL ret hh :: zB) rm mc ms n := by
  obtain ⟨hC, hd⟩ := hd
  refine vx_cwSW n S.2.2.2.2 (zgood ?_) rfl hrc hrs hd hR
  intro w hw
  simp only [va_wsS, List.mem_append, List.mem_cons, List.not_mem_nil, or_false] at hw
  rcases hw with (rfl | rfl | rfl) | rfl | h
  · exact h1'
  · exact h2.1
  · exact hC ▸ h2.2.1
  · exact h2.2.2
  · exact h
theorem z_widen {c2 s2 : Nat} (h1 : cells ≤ c2) (h2 : slots ≤ s2) (k : ZZ p l e R s m args below meth c D cl A H0 nL c2 s2 Q pc lv st ws) : ZZ p l e R s m args below meth c D cl A H0 nL cells slots Q pc lv st ws := fun H locs ls hP hD hS h => W.widen h1 h2 (k H locs ls hP hD hS h)
theorem z_loopC {σ : Type} {I : σ → Prop} {μ : σ → Nat} {LV : σ → List (Nat × Value)} {WS : σ → va_W} {CE SL : σ → Nat} {a : σ} (h : I a) (step : ∀ a : σ, I a → (∀ b : σ, I b → μ b < μ a → ZZ p l e R s m args below meth c D cl A H0 nL (CE b) (SL b) Q pc (LV b) st (WS b)) → ZZ p l e R s m args below meth c D cl A H0 nL (CE a) (SL a) Q pc (LV a) st (WS a)) : ZZ p l e R s m args below meth c D cl A H0 nL (CE a) (SL a) Q pc (LV a) st (WS a) := by
  have H : ∀ (n : Nat) (a : σ), μ a < n → I a → ZZ p l e R s m args below meth c D cl A H0 nL (CE a) (SL a) Q pc (LV a) st (WS a) := by
    intro n
    induction n with
    | zero => intro a h; exact absurd h (Nat.not_lt_zero _)
    | succ n ih => intro a h hI; exact step a hI (fun b hb hm => ih b (by omega) hb)
  exact H (μ a + 1) a (Nat.lt_succ_self _) h
theorem z_sald (S : CallFix p m c cc nL s args Ts own) {b L : Nat} {xs : Nat → Int32} (hX : va_X b L xs s s.heap) (hb : b < s.heap.size) (hnA : ¬ A b) {i : Int} (k : Nat) (hk : i = (k : Int)) (hn : k < L) (hL : L ≤ 2560) (hd : decode cc pc = .ok (.iaload, 1)) (kk : ZZ p l e R s m args below meth c D cl A s.heap nL cells slots Q (pc + 1) lv (.int (zI (xs k).toInt) :: st) ws) : ZZ p l e R s m args below meth c D cl A s.heap nL cells slots Q pc lv (.int (zI i) :: .ref b :: st) ws := by
  subst hk
  intro H locs ls hP hD hS h
  refine va_sld S.1 S.2.1 hX hb hnA hS (zI_in hn (by omega)) hd ?_
  rw [zI_cl (by omega), zI_i (xs k)]
  exact kk H locs ls hP hD hS h
theorem z_slen (S : CallFix p m c cc nL s args Ts own) {b L : Nat} {xs : Nat → Int32} (hX : va_X b L xs s s.heap) (hb : b < s.heap.size) (hnA : ¬ A b) (hd : decode cc pc = .ok (.arraylength, 1)) (kk : ZZ p l e R s m args below meth c D cl A s.heap nL cells slots Q (pc + 1) lv (.int (zI (L : Int)) :: st) ws) : ZZ p l e R s m args below meth c D cl A s.heap nL cells slots Q pc lv (.ref b :: st) ws :=
  fun H locs ls hP hD hS h => va_slen S.1 S.2.1 hX hb hnA hS hd (kk H locs ls hP hD hS h)
theorem z_iand (S : CallFix p m c cc nL s args Ts own) {x y : Int32} (hd : decode cc pc = .ok (.iand, 1)) (kk : ZZ p l e R s m args below meth c D cl A H0 nL cells slots Q (pc + 1) lv (.int (zI (x &&& y).toInt) :: st) ws) : ZZ p l e R s m args below meth c D cl A H0 nL cells slots Q pc lv (.int y :: .int x :: st) ws :=
  fun H locs ls hP hD hS h => lv_iand S.1 S.2.1 hd (by have k2 := kk H locs ls hP hD hS h; rw [← zI_i] at k2; exact k2)
/-- a long out of two ints -/
def lgA (a b : Int) : Int := (((zL a) <<< ((zI 32).toInt64 &&& 63)) ||| ((zL b) &&& (zL 4294967295))).toInt
theorem lgA_r (a b : Int) : -9223372036854775808 ≤ lgA a b ∧ lgA a b < 9223372036854775808 := zL_r _
theorem z_lshl (S : CallFix p m c cc nL s args Ts own) {x : Int64} {y : Int32} (hd : decode cc pc = .ok (.lshl, 1)) (kk : ZZ p l e R s m args below meth c D cl A H0 nL cells slots Q (pc + 1) lv (.long (x <<< (y.toInt64 &&& 63)) :: st) ws) : ZZ p l e R s m args below meth c D cl A H0 nL cells slots Q pc lv (.int y :: .long x :: st) ws :=
  fun H locs ls hP hD hS h => lv_lshl S.1 S.2.1 hd rfl (kk H locs ls hP hD hS h)
theorem z_land (S : CallFix p m c cc nL s args Ts own) {x y : Int64} (hd : decode cc pc = .ok (.land, 1)) (kk : ZZ p l e R s m args below meth c D cl A H0 nL cells slots Q (pc + 1) lv (.long (x &&& y) :: st) ws) : ZZ p l e R s m args below meth c D cl A H0 nL cells slots Q pc lv (.long y :: .long x :: st) ws :=
  fun H locs ls hP hD hS h => lv_land S.1 S.2.1 hd (kk H locs ls hP hD hS h)
theorem z_lor (S : CallFix p m c cc nL s args Ts own) {a b : Int} (hd : decode cc pc = .ok (.lor, 1)) (kk : ZZ p l e R s m args below meth c D cl A H0 nL cells slots Q (pc + 1) lv (.long (zL (lgA a b)) :: st) ws) : ZZ p l e R s m args below meth c D cl A H0 nL cells slots Q pc lv (.long ((zL b) &&& (zL 4294967295)) :: .long ((zL a) <<< ((zI 32).toInt64 &&& 63)) :: st) ws :=
  fun H locs ls hP hD hS h => lv_lor S.1 S.2.1 hd (by have k2 := kk H locs ls hP hD hS h; unfold lgA at k2; rw [← zL_i] at k2; exact k2)
theorem z_sald2 (S : CallFix p m c cc nL s args Ts own) {b L : Nat} {xs : Nat → Int32} (hX : va_X b L xs s s.heap) (hb : b < s.heap.size) (hnA : ¬ A b) {i x : Int} (k : Nat) (hk : i = (k : Int)) (hn : k < L) (hL : L ≤ 2560) (hx : (xs k).toInt = x) (hd : decode cc pc = .ok (.iaload, 1)) (kk : ZZ p l e R s m args below meth c D cl A s.heap nL cells slots Q (pc + 1) lv (.int (zI x) :: st) ws) : ZZ p l e R s m args below meth c D cl A s.heap nL cells slots Q pc lv (.int (zI i) :: .ref b :: st) ws := by
  subst hx
  exact z_sald S hX hb hnA k hk hn hL hd kk
theorem z_iand2 (S : CallFix p m c cc nL s args Ts own) {x y : Int32} {z : Int} (hz : (x &&& y).toInt = z) (hd : decode cc pc = .ok (.iand, 1)) (kk : ZZ p l e R s m args below meth c D cl A H0 nL cells slots Q (pc + 1) lv (.int (zI z) :: st) ws) : ZZ p l e R s m args below meth c D cl A H0 nL cells slots Q pc lv (.int y :: .int x :: st) ws := by
  subst hz
  exact z_iand S hd kk
theorem z_lor2 (S : CallFix p m c cc nL s args Ts own) {a b x : Int} (hx : lgA a b = x) (hd : decode cc pc = .ok (.lor, 1)) (kk : ZZ p l e R s m args below meth c D cl A H0 nL cells slots Q (pc + 1) lv (.long (zL x) :: st) ws) : ZZ p l e R s m args below meth c D cl A H0 nL cells slots Q pc lv (.long ((zL b) &&& (zL 4294967295)) :: .long ((zL a) <<< ((zI 32).toInt64 &&& 63)) :: st) ws := by
  subst hx
  exact z_lor S hd kk
theorem z_tsOut (S : CallFix p m c cc nL s args Ts own) {dflt lo hi z : Int} {offs : Array Int} {len tgt : Nat} (hd : decode cc pc = .ok (.tableswitch dflt lo hi offs, len)) (hr : -2147483648 ≤ z ∧ z < 2147483648) (h : z < lo ∨ hi < z) (ht : (pc : Int) + dflt = (tgt : Int)) (kk : ZZ p l e R s m args below meth c D cl A H0 nL cells slots Q tgt lv st ws) : ZZ p l e R s m args below meth c D cl A H0 nL cells slots Q pc lv (.int (zI z) :: st) ws :=
  fun H locs ls hP hD hS hh => lv_tableOut S.1 S.2.1 hd (by rw [zI_t hr]; exact h) ht (kk H locs ls hP hD hS hh)
theorem z_tsIn (S : CallFix p m c cc nL s args Ts own) {dflt lo hi z off : Int} {offs : Array Int} {len tgt : Nat} (hd : decode cc pc = .ok (.tableswitch dflt lo hi offs, len)) (hr : -2147483648 ≤ z ∧ z < 2147483648) (h1 : ¬ z < lo) (h2 : ¬ hi < z) (ho : offs[(z - lo).toNat]? = some off) (ht : (pc : Int) + off = (tgt : Int)) (kk : ZZ p l e R s m args below meth c D cl A H0 nL cells slots Q tgt lv st ws) : ZZ p l e R s m args below meth c D cl A H0 nL cells slots Q pc lv (.int (zI z) :: st) ws :=
  fun H locs ls hP hD hS hh => lv_tableIn S.1 S.2.1 hd (by rw [zI_t hr]; exact h1) (by rw [zI_t hr]; exact h2) (by rw [zI_t hr]; exact ho) ht (kk H locs ls hP hD hS hh)
theorem upL_at (f : Nat → Int64) (k : Nat) (x : Int64) : vp_updL f k x k = x := if_pos rfl
end LWR
