/-! the row TENS, and a long that is dropped -/
section ZST
variable {p : Program} {l : Launch} {e : Env} {R : Room} {s : State} {m : MethodId} {args : Array Value} {below : List Frame} {meth : Method} {c : Code} {cells slots : Nat} {Q : State → Prop}
variable {D : va_G} {cl : List vw_C} {A : Nat → Prop} {nL : Nat} {Ts : List Cond} {own host : String} {cI cL : ClassId} {qT index : Nat}
variable {cc : ByteArray} {pc : Nat} {lv lv' : List (Nat × Value)} {st : List Value} {ws ws' : va_W}
theorem z_tens (S : CallFix p m c cc nL s args Ts own) (hg : zG cI cL qT A s) (hl : Cond.fieldLinkNest own index "KiloFractions" "TENS" "[I" host ∈ zNW) (hd : decode cc pc = .ok (.getstatic index, 3)) (kk : ZZ p l e R s m args below meth c D cl A s.heap nL cells slots Q (pc + 3) lv (.ref qT :: st) ws) : ZZ p l e R s m args below meth c D cl A s.heap nL cells slots Q pc lv st ws :=
  fun H locs ls hP hD hS h => va_getsN S.1 S.2.1 hg.2.1 hS S.2.2.2.1 (va_Nw.use rfl (hg.1 _ hl)) (fun _ z => z) hd (kk H locs ls hP hD hS h)
theorem z_tlen (S : CallFix p m c cc nL s args Ts own) (hg : zG cI cL qT A s) (hd : decode cc pc = .ok (.arraylength, 1)) (kk : ZZ p l e R s m args below meth c D cl A s.heap nL cells slots Q (pc + 1) lv (.int (zI 10) :: st) ws) : ZZ p l e R s m args below meth c D cl A s.heap nL cells slots Q pc lv (.ref qT :: st) ws :=
  fun H locs ls hP hD hS h => va_slen S.1 S.2.1 hg.2.2.1 hg.2.2.2.1 hg.2.2.2.2.1 hS hd (kk H locs ls hP hD hS h)
theorem z_tald (S : CallFix p m c cc nL s args Ts own) (hg : zG cI cL qT A s) {i : Int} (k : Nat) (hk : i = (k : Int)) (hn : k < 10) (hd : decode cc pc = .ok (.iaload, 1)) (kk : ZZ p l e R s m args below meth c D cl A s.heap nL cells slots Q (pc + 1) lv (.int (zI ((10 ^ k : Nat) : Int)) :: st) ws) : ZZ p l e R s m args below meth c D cl A s.heap nL cells slots Q pc lv (.int (zI i) :: .ref qT :: st) ws := by
  subst hk
  intro H locs ls hP hD hS h
  refine va_sld S.1 S.2.1 hg.2.2.1 hg.2.2.2.1 hg.2.2.2.2.1 hS (zI_in hn (by omega)) hd ?_
  rw [zI_cl (by omega)]
  exact kk H locs ls hP hD hS h
theorem z_pop2l {v : Value} (S : CallFix p m c cc nL s args Ts own) (hd : decode cc pc = .ok (.pop2, 1)) (hv : v.category = 2) {H0 : Heap} (kk : ZZ p l e R s m args below meth c D cl A H0 nL cells slots Q (pc + 1) lv st ws) : ZZ p l e R s m args below meth c D cl A H0 nL cells slots Q pc lv (v :: st) ws :=
  fun H locs ls hP hD hS h => lv_pop2_2 S.1 S.2.1 hd hv (kk H locs ls hP hD hS h)
end ZST
theorem p10_le {i : Nat} (h : i ≤ 9) : 10 ^ i ≤ 1000000000 := Nat.pow_le_pow_right (n := 10) (by decide) h
theorem p10_s {i : Nat} (h : 0 < i) : 10 ^ i = 10 * 10 ^ (i - 1) := by
  obtain ⟨k, rfl⟩ : ∃ k, i = k + 1 := ⟨i - 1, by omega⟩
  rw [Nat.add_sub_cancel, Nat.pow_succ, Nat.mul_comm]
theorem top_nz {o : Nat} (ho : o < 1000000000 ^ 12) (h0 : 0 < o) : 0 < us o ∧ 0 < dg 1000000000 o (us o - 1) := by
  have h1 : 0 < us o := by
    rcases Nat.eq_zero_or_pos (us o) with q | q
    · have := (us_0 ho).mp q; omega
    · exact q
  exact ⟨h1, Nat.pos_of_ne_zero (ul_nz _ _ h1)⟩
/-- the guess: never too often, and near -/
theorem guess_ok {T D s tp sc un : Nat} (hD : D < 1000000000 ^ (tp + 1)) (hsc : sc * un = 1000000000) (h1 : dg 1000000000 D tp < sc) (h2 : sc ≤ 10 * dg 1000000000 D tp) (hT : T < D * 1000000000 ^ (s + 1)) :
    (dg 1000000000 T (tp + s + 1) * un < 1000000000) ∧
    ((dg 1000000000 T (tp + s + 1) * un * 1000000000 + dg 1000000000 T (tp + s) * un + (if tp + s = 0 then 0 else dg 1000000000 T (tp + s - 1)) / sc) / (dg 1000000000 D tp * un + (if tp = 0 then 0 else dg 1000000000 D (tp - 1)) / sc + 1)) * (D * 1000000000 ^ s) ≤ T ∧
    T / (D * 1000000000 ^ s) ≤ (dg 1000000000 T (tp + s + 1) * un * 1000000000 + dg 1000000000 T (tp + s) * un + (if tp + s = 0 then 0 else dg 1000000000 T (tp + s - 1)) / sc) / (dg 1000000000 D tp * un + (if tp = 0 then 0 else dg 1000000000 D (tp - 1)) / sc + 1) + 10 := by
  have hsc0 : 0 < sc := by
    rcases Nat.eq_zero_or_pos sc with q | q
    · rw [q, Nat.zero_mul] at hsc; omega
    · exact q
  have hun0 : 0 < un := by
    rcases Nat.eq_zero_or_pos un with q | q
    · rw [q, Nat.mul_zero] at hsc; omega
    · exact q
  have hTB : T < 1000000000 ^ (tp + s + 2) := by
    refine Nat.lt_of_lt_of_le hT ?_
    have e : 1000000000 ^ (tp + s + 2) = 1000000000 ^ (tp + 1) * 1000000000 ^ (s + 1) := by rw [← Nat.pow_add, show tp + 1 + (s + 1) = tp + s + 2 by omega]
    rw [e]
    exact Nat.mul_le_mul_right _ (Nat.le_of_lt hD)
  have hE := gu_E hD
  have hN := gu_N hTB
  generalize hd0 : (if tp = 0 then 0 else dg 1000000000 D (tp - 1)) = d0 at hE ⊢
  generalize hT0 : (if tp + s = 0 then 0 else dg 1000000000 T (tp + s - 1)) = T0 at hN ⊢
  have hEs : (dg 1000000000 D tp * 1000000000 + d0) / sc = dg 1000000000 D tp * un + d0 / sc := by
    rw [← hsc, Nat.mul_left_comm, Nat.mul_add_div hsc0]
  have hNs : (dg 1000000000 T (tp + s + 1) * 1000000000000000000 + dg 1000000000 T (tp + s) * 1000000000 + T0) / sc = dg 1000000000 T (tp + s + 1) * un * 1000000000 + dg 1000000000 T (tp + s) * un + T0 / sc := by
    have e : dg 1000000000 T (tp + s + 1) * 1000000000000000000 + dg 1000000000 T (tp + s) * 1000000000 = sc * (dg 1000000000 T (tp + s + 1) * un * 1000000000 + dg 1000000000 T (tp + s) * un) := by
      have z : dg 1000000000 T (tp + s + 1) * 1000000000000000000 = dg 1000000000 T (tp + s + 1) * (sc * un) * 1000000000 := by rw [hsc]; omega
      have z2 : dg 1000000000 T (tp + s) * 1000000000 = dg 1000000000 T (tp + s) * (sc * un) := by rw [hsc]
      rw [z, z2, Nat.mul_add, Nat.mul_left_comm _ sc un, Nat.mul_left_comm _ sc un, ← Nat.mul_assoc sc (_ * un) 1000000000]
    rw [e, Nat.mul_add_div hsc0]
  have hT2 : dg 1000000000 T (tp + s + 1) < sc := by
    have hq : T / 1000000000 ^ (tp + s + 1) < dg 1000000000 D tp + 1 := by
      rw [Nat.div_lt_iff_lt_mul (Nat.pow_pos (by decide))]
      refine Nat.lt_of_lt_of_le hT ?_
      have e : 1000000000 ^ (tp + s + 1) = 1000000000 ^ tp * 1000000000 ^ (s + 1) := by rw [← Nat.pow_add, show tp + (s + 1) = tp + s + 1 by omega]
      rw [e, ← Nat.mul_assoc]
      refine Nat.mul_le_mul_right _ ?_
      have hl := Nat.lt_div_mul_add (a := D) (b := 1000000000 ^ tp) (Nat.pow_pos (by decide))
      have hq2 : dg 1000000000 D tp = D / 1000000000 ^ tp := Nat.mod_eq_of_lt (by
        rw [Nat.div_lt_iff_lt_mul (Nat.pow_pos (by decide)), Nat.mul_comm, ← Nat.pow_succ]; exact hD)
      rw [hq2, Nat.add_mul]
      omega
    have : dg 1000000000 T (tp + s + 1) ≤ T / 1000000000 ^ (tp + s + 1) := Nat.mod_le _ _
    omega
  refine ⟨?_, ?_, ?_⟩
  · have := Nat.mul_lt_mul_of_pos_right hT2 hun0
    omega
  · rw [← hEs, ← hNs, ← hE, ← hN]
    exact gu_up (by decide) hsc0 rfl rfl (Nat.div_mul_le_self _ _)
  · have hlo := gu_lo (T := T) (D := D) (B := 1000000000) (s := s) (k := tp) (sc := sc) (q := T / (D * 1000000000 ^ s)) (by decide) hsc0 rfl rfl (Nat.div_mul_le_self _ _)
    rw [hE, hN, hEs, hNs] at hlo
    refine gu_near ?_ ?_ hlo rfl
    · have hDp : 0 < D * 1000000000 ^ s := by
        rcases Nat.eq_zero_or_pos (D * 1000000000 ^ s) with q | q
        · rw [Nat.pow_succ, ← Nat.mul_assoc, q] at hT; omega
        · exact q
      rw [Nat.div_lt_iff_lt_mul hDp, Nat.mul_comm, Nat.mul_assoc, ← Nat.pow_succ]
      exact hT
    · have h3 := Nat.mul_le_mul_right un h2
      rw [Nat.mul_assoc] at h3
      exact Nat.le_trans (show 100000000 ≤ dg 1000000000 D tp * un by omega) (Nat.le_add_right _ _)
section ZMX
variable {p : Program} {l : Launch} {e : Env} {R : Room} {s : State} {m : MethodId} {args : Array Value} {below : List Frame} {meth : Method} {c : Code} {cells slots : Nat} {Q : State → Prop}
variable {D : va_G} {cl : List vw_C} {A : Nat → Prop} {H0 : Heap} {nL : Nat} {c0 : Cond} {own : String} {index : Nat}
variable {cc : ByteArray} {pc : Nat} {lv : List (Nat × Value)} {st : List Value} {ws : va_W}
theorem z_lmax (S : CallFix p m c cc nL s args (c0 :: zB) own) {a b : Int} (hl : Cond.methodLink own index y_JM_max ∈ zB) (hd : decode cc pc = .ok (.invokestatic index, 3)) (ha : -9223372036854775808 ≤ a ∧ a < 9223372036854775808) (hb : -9223372036854775808 ≤ b ∧ b < 9223372036854775808) (hf : 1 ≤ R.frames) (hlo : (st.map fun v => v.category).sum + 15 ≤ R.locals) (hc : cells ≤ R.cells) (hs : slots ≤ R.slots) (kk : ZZ p l e R s m args below meth c D cl A H0 nL cells slots Q (pc + 3) lv (.long (zL (max a b)) :: st) ws) : ZZ p l e R s m args below meth c D cl A H0 nL cells slots Q pc lv (.long (zL b) :: .long (zL a) :: st) ws := by
  intro H locs ls hP hD hS h
  refine va_mmax_long S.1 S.2.1 (S.2.2.1.trans h.1.symm) S.2.2.2.1 (S.2.2.2.2 _ (List.mem_cons_of_mem _ hl)) (S.2.2.2.2 _ (List.mem_cons_of_mem _ mS_JM_max.1)) (S.2.2.2.2 _ (List.mem_cons_of_mem _ mS_JM_max.2.1)) (S.2.2.2.2 _ (List.mem_cons_of_mem _ mS_JM_max.2.2)) hf hlo hc hs hd ?_
  have e : (if zL b < zL a then zL a else zL b) = zL (max a b) := by
    simp only [zL_lt hb ha]
    split
    · exact zL_c (by omega)
    · exact zL_c (by omega)
  rw [e]
  exact kk H locs ls hP hD hS h
end ZMX
theorem lbI_pm {v : Nat} (hv : v < 1000000000 ^ 12) {i : Int} (k : Nat) (h : i = (k : Int) - 1) : lbI v i = if k = 0 then 0 else dg 1000000000 v (k - 1) := by
  split
  · exact lbI_out hv (by omega)
  · exact lbI_e (k - 1) (by omega)
theorem cmpN_neg {a b : Nat} (h : cmpN a b < 0) : a < b := by
  unfold cmpN at h
  split at h
  · assumption
  · split at h <;> omega
theorem cmpN_nn {a b : Nat} (h : ¬ cmpN a b < 0) : b ≤ a := by
  unfold cmpN at h
  split at h <;> omega
theorem tk_end {t f m i : Nat} (h : f * m + i = t) (hi : i < m) : t / m = f ∧ t % m = i := by
  subst h
  constructor
  · rw [Nat.mul_comm, Nat.mul_add_div (by omega), Nat.div_eq_of_lt hi, Nat.add_zero]
  · rw [Nat.mul_comm, Nat.mul_add_mod, Nat.mod_eq_of_lt hi]
theorem tk_q {i m g : Nat} (hm : 0 < m) (h : g * m ≤ i) : (i - g * m) / m + g = i / m := by
  have e : i = m * g + (i - g * m) := by rw [Nat.mul_comm m g]; omega
  have e2 : i / m = (m * g + (i - g * m)) / m := by rw [← e]
  rw [e2, Nat.mul_add_div hm, Nat.add_comm]
theorem tk_pos {o sh : Nat} (h : 0 < o) : 0 < o * 1000000000 ^ sh := Nat.mul_pos h (Nat.pow_pos (by decide))
theorem tk_lt {t o sh : Nat} : t / 1000000000 ^ sh < o ↔ t < o * 1000000000 ^ sh := Nat.div_lt_iff_lt_mul (Nat.pow_pos (by decide))
theorem tk_ql {t o sh : Nat} (h0 : 0 < o) (h : t < o * 1000000000 ^ (sh + 1)) : t / (o * 1000000000 ^ sh) < 1000000000 := by
  rw [Nat.div_lt_iff_lt_mul (tk_pos h0), Nat.mul_comm, Nat.mul_assoc, ← Nat.pow_succ]
  exact h
theorem rm_top {t o : Nat} (ht : t < 1000000000 ^ 12) (h0 : 0 < us o) : t < o * 1000000000 ^ (us t + 1 - us o) := by
  have h1 := us_lt ht
  have h2 := us_ge h0
  have h3 : 1000000000 ^ us t ≤ 1000000000 ^ (us o - 1 + (us t + 1 - us o)) := pw_le (by decide) (by omega)
  rw [Nat.pow_add] at h3
  have h4 := Nat.mul_le_mul_right (1000000000 ^ (us t + 1 - us o)) h2
  omega
/-- decimal digits, by the highest limb -/
theorem nd_eq {v u c : Nat} (hv : v < 1000000000 ^ 12) (hu : us v = u + 1) (h1 : dg 1000000000 v u < 10 ^ c) (h2 : 0 < c → 10 ^ (c - 1) ≤ dg 1000000000 v u) (hc : c ≤ 9) (hc0 : 0 < c) : nd v = u * 9 + c := by
  have hv1 := us_lt hv
  rw [hu] at hv1
  have hq : dg 1000000000 v u = v / 1000000000 ^ u := Nat.mod_eq_of_lt (by
    rw [Nat.div_lt_iff_lt_mul (Nat.pow_pos (by decide)), Nat.mul_comm, ← Nat.pow_succ]; exact hv1)
  have hB : (1000000000 : Nat) ^ u = 10 ^ (u * 9) := by rw [show (1000000000 : Nat) = 10 ^ 9 by decide, ← Nat.pow_mul, Nat.mul_comm]
  have hul := us_le v
  have hne : v ≠ 0 := by
    intro z
    have := (us_0 hv).mpr z
    omega
  unfold nd
  rw [if_neg hne]
  refine ul_eq (by decide) ?_ ?_ (by omega)
  · rw [Nat.pow_add, ← hB, Nat.mul_comm]
    rw [hq, Nat.div_lt_iff_lt_mul (Nat.pow_pos (by decide))] at h1
    exact h1
  · intro _
    rw [show u * 9 + c - 1 = u * 9 + (c - 1) by omega, Nat.pow_add, ← hB, Nat.mul_comm]
    have h3 := h2 hc0
    rw [hq] at h3
    exact (Nat.le_div_iff_mul_le (Nat.pow_pos (by decide))).mp h3
section ZSW
variable {p : Program} {l : Launch} {e : Env} {R : Room} {s : State} {m : MethodId} {args : Array Value} {below : List Frame} {meth : Method} {c : Code} {cells slots : Nat} {Q : State → Prop}
variable {D : va_G} {cl : List vw_C} {A : Nat → Prop} {H0 : Heap} {nL : Nat} {Ts : List Cond} {own : String}
variable {cc : ByteArray} {pc : Nat} {lv : List (Nat × Value)} {st : List Value} {ws : va_W}
theorem z_swIn (S : CallFix p m c cc nL s args Ts own) {a dflt lo hi : Int} {offs : Array Int} {len : Nat} {off : Int} {tgt : Nat} (hd : decode cc pc = .ok (.tableswitch dflt lo hi offs, len)) (ha : -2147483648 ≤ a ∧ a < 2147483648) (h1 : ¬ a < lo) (h2 : ¬ hi < a) (ho : offs[(a - lo).toNat]? = some off) (ht : (pc : Int) + off = (tgt : Int)) (kk : ZZ p l e R s m args below meth c D cl A H0 nL cells slots Q tgt lv st ws) : ZZ p l e R s m args below meth c D cl A H0 nL cells slots Q pc lv (.int (zI a) :: st) ws :=
  fun H locs ls hP hD hS h => lv_tableIn S.1 S.2.1 hd (by rw [zI_t ha]; exact h1) (by rw [zI_t ha]; exact h2) (by rw [zI_t ha]; exact ho) ht (kk H locs ls hP hD hS h)
theorem z_swOut (S : CallFix p m c cc nL s args Ts own) {a dflt lo hi : Int} {offs : Array Int} {len : Nat} {tgt : Nat} (hd : decode cc pc = .ok (.tableswitch dflt lo hi offs, len)) (ha : -2147483648 ≤ a ∧ a < 2147483648) (h1 : a < lo ∨ hi < a) (ht : (pc : Int) + dflt = (tgt : Int)) (kk : ZZ p l e R s m args below meth c D cl A H0 nL cells slots Q tgt lv st ws) : ZZ p l e R s m args below meth c D cl A H0 nL cells slots Q pc lv (.int (zI a) :: st) ws :=
  fun H locs ls hP hD hS h => lv_tableOut S.1 S.2.1 hd (by rw [zI_t ha]; exact h1) ht (kk H locs ls hP hD hS h)
end ZSW
