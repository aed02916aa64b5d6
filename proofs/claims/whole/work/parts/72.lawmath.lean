/-! THE LAW'S BOOKKEEPING: what a kept value is, and that model and class agree -/
theorem sg_cs {x : Int} (h : -1 ≤ x ∧ x ≤ 1) : x = -1 ∨ x = 0 ∨ x = 1 := by omega
theorem su_0 {x y : Int} {P Q : Nat} (hx : -1 ≤ x ∧ x ≤ 1) (hy : -1 ≤ y ∧ y ≤ 1) (hP : x = 0 ↔ P = 0) (hQ : y = 0 ↔ Q = 0) : suS x y P Q = 0 ↔ suN x y P Q = 0 := by
  rcases sg_cs hx with rfl | rfl | rfl <;> rcases sg_cs hy with rfl | rfl | rfl <;> unfold suS suN cmpN <;> (try simp at hP) <;> (try simp at hQ) <;> simp <;> (try split) <;> (try split) <;> (try split) <;> (try split) <;> omega
theorem su_anti {x y : Int} {P Q : Nat} (hx : -1 ≤ x ∧ x ≤ 1) (hy : -1 ≤ y ∧ y ≤ 1) : suS x (-y) P Q = -suS y (-x) Q P := by
  rcases sg_cs hx with rfl | rfl | rfl <;> rcases sg_cs hy with rfl | rfl | rfl <;> unfold suS cmpN <;> simp <;> (try split) <;> (try split) <;> (try split) <;> (try split) <;> omega
theorem okV_neg {s : Int} {x z : Nat} (h : okV s x z) : okV (-s) x z := ⟨by have := h.2.1; omega, by have := h.1; omega, h.2.2.1, h.2.2.2.1, h.2.2.2.2.1, by have := h.2.2.2.2.2; omega⟩
theorem mul_0 {x z : Nat} {s : Int} (h : s = 0 ↔ x = 0) (hz : 0 < z) : s = 0 ↔ x * z = 0 := by
  rw [Nat.mul_eq_zero]; omega
theorem okV_su {a b : Int} {x1 z1 x2 z2 : Nat} (h1 : okV a x1 z1) (h2 : okV b x2 z2) (hx : lwX (suN a b (x1 * z2) (x2 * z1)) (z1 * z2) < 10 ^ 48) (hz : lwZ (suN a b (x1 * z2) (x2 * z1)) (z1 * z2) < 10 ^ 48) :
    okV (suS a b (x1 * z2) (x2 * z1)) (lwX (suN a b (x1 * z2) (x2 * z1)) (z1 * z2)) (lwZ (suN a b (x1 * z2) (x2 * z1)) (z1 * z2)) := by
  have hD : 0 < z1 * z2 := Nat.mul_pos h1.2.2.2.1 h2.2.2.2.1
  have r := suS_r (P := x1 * z2) (Q := x2 * z1) ⟨h1.1, h1.2.1⟩ ⟨h2.1, h2.2.1⟩
  refine ⟨r.1, r.2, hx, lwZ_pos hD, hz, ?_⟩
  rw [lwX_0 hD]
  exact su_0 ⟨h1.1, h1.2.1⟩ ⟨h2.1, h2.2.1⟩ (mul_0 h1.2.2.2.2.2 h2.2.2.2.1) (mul_0 h2.2.2.2.2.2 h1.2.2.2.1)
theorem okV_mul {a b : Int} {x1 z1 x2 z2 : Nat} (h1 : okV a x1 z1) (h2 : okV b x2 z2) (hx : lwX (x1 * x2) (z1 * z2) < 10 ^ 48) (hz : lwZ (x1 * x2) (z1 * z2) < 10 ^ 48) :
    okV (a * b) (lwX (x1 * x2) (z1 * z2)) (lwZ (x1 * x2) (z1 * z2)) := by
  have hD : 0 < z1 * z2 := Nat.mul_pos h1.2.2.2.1 h2.2.2.2.1
  have r := sg_mul ⟨h1.1, h1.2.1⟩ ⟨h2.1, h2.2.1⟩
  refine ⟨r.1, r.2, hx, lwZ_pos hD, hz, ?_⟩
  rw [lwX_0 hD, Int.mul_eq_zero, Nat.mul_eq_zero, h1.2.2.2.2.2, h2.2.2.2.2.2]
theorem okV_div {a b : Int} {x1 z1 x2 z2 : Nat} (h1 : okV a x1 z1) (h2 : okV b x2 z2) (hb : ¬ b = 0) (hx : lwX (x1 * z2) (z1 * x2) < 10 ^ 48) (hz : lwZ (x1 * z2) (z1 * x2) < 10 ^ 48) :
    okV (a * b) (lwX (x1 * z2) (z1 * x2)) (lwZ (x1 * z2) (z1 * x2)) := by
  have h0 : 0 < x2 := Nat.pos_of_ne_zero (fun z => hb (h2.2.2.2.2.2.mpr z))
  have hD : 0 < z1 * x2 := Nat.mul_pos h1.2.2.2.1 h0
  have r := sg_mul ⟨h1.1, h1.2.1⟩ ⟨h2.1, h2.2.1⟩
  refine ⟨r.1, r.2, hx, lwZ_pos hD, hz, ?_⟩
  have h3 := h2.2.2.2.1
  rw [lwX_0 hD, Int.mul_eq_zero, Nat.mul_eq_zero, h1.2.2.2.2.2]
  omega
theorem okV_rnd {s ru : Int} {x z u : Nat} (h : okV s x z) (hu : 0 < u) (hx : lwX (rndN x z s ru u) u < 10 ^ 48) (hz : lwZ (rndN x z s ru u) u < 10 ^ 48) :
    okV (rndS x z s ru u) (lwX (rndN x z s ru u) u) (lwZ (rndN x z s ru u) u) := by
  have hs : rndS x z s ru u = 0 ↔ rndN x z s ru u = 0 := by
    unfold rndS
    split
    · omega
    · rename_i hn
      refine ⟨fun q => ?_, fun q => absurd q hn⟩
      exfalso
      apply hn
      have hx0 := h.2.2.2.2.2.mp q
      subst hx0
      unfold rndN
      rw [Nat.zero_mul, Nat.zero_mod, if_pos rfl, Nat.zero_div]
  have hr : -1 ≤ rndS x z s ru u ∧ rndS x z s ru u ≤ 1 := by
    have a1 := h.1
    have a2 := h.2.1
    unfold rndS
    split <;> omega
  exact ⟨hr.1, hr.2, hx, lwZ_pos hu, hz, by rw [lwX_0 hu]; exact hs⟩
theorem okV_val {x0 y0 : Int} (h0 : ¬ y0 = 0) (hx : lwX (Int.natAbs x0) (Int.natAbs y0) < 10 ^ 48) (hz : lwZ (Int.natAbs x0) (Int.natAbs y0) < 10 ^ 48) :
    okV (cmpZ x0 0 * cmpZ y0 0) (lwX (Int.natAbs x0) (Int.natAbs y0)) (lwZ (Int.natAbs x0) (Int.natAbs y0)) := by
  have hD : 0 < Int.natAbs y0 := by omega
  have r := sg_mul (cmpZ_r x0 0) (cmpZ_r y0 0)
  refine ⟨r.1, r.2, hx, lwZ_pos hD, hz, ?_⟩
  rw [lwX_0 hD, Int.mul_eq_zero]
  have e1 : cmpZ x0 0 = 0 ↔ x0 = 0 := by unfold cmpZ; split <;> (try split) <;> omega
  have e2 : ¬ cmpZ y0 0 = 0 := by unfold cmpZ; split <;> (try split) <;> omega
  rw [e1]
  omega
theorem okV_giv {a b : Int} {x1 z1 x2 z2 : Nat} (h1 : okV a x1 z1) (h2 : okV b x2 z2) (hx : spA (lwX (suN a b (x1 * z2) (x2 * z1)) (z1 * z2)) (lwZ (suN a b (x1 * z2) (x2 * z1)) (z1 * z2)) (suS a b (x1 * z2) (x2 * z1)) < 10 ^ 48) :
    okV (zs (spA (lwX (suN a b (x1 * z2) (x2 * z1)) (z1 * z2)) (lwZ (suN a b (x1 * z2) (x2 * z1)) (z1 * z2)) (suS a b (x1 * z2) (x2 * z1))) (suS a b (x1 * z2) (x2 * z1))) (spA (lwX (suN a b (x1 * z2) (x2 * z1)) (z1 * z2)) (lwZ (suN a b (x1 * z2) (x2 * z1)) (z1 * z2)) (suS a b (x1 * z2) (x2 * z1))) 1 := by
  have hD : 0 < z1 * z2 := Nat.mul_pos h1.2.2.2.1 h2.2.2.2.1
  have r := suS_r (P := x1 * z2) (Q := x2 * z1) ⟨h1.1, h1.2.1⟩ ⟨h2.1, h2.2.1⟩
  have e := su_0 ⟨h1.1, h1.2.1⟩ ⟨h2.1, h2.2.1⟩ (mul_0 h1.2.2.2.2.2 h2.2.2.2.1) (mul_0 h2.2.2.2.2.2 h1.2.2.2.1)
  have r2 := zs_r (n := spA (lwX (suN a b (x1 * z2) (x2 * z1)) (z1 * z2)) (lwZ (suN a b (x1 * z2) (x2 * z1)) (z1 * z2)) (suS a b (x1 * z2) (x2 * z1))) r
  refine ⟨r2.1, r2.2, hx, by decide, by decide, ?_⟩
  unfold zs
  split
  · rename_i q; exact ⟨fun _ => q, fun _ => rfl⟩
  · rename_i q
    refine ⟨fun w => ?_, fun w => absurd w q⟩
    exfalso
    apply q
    have hn := e.mp w
    rw [w, hn]
    unfold spA lwX
    rw [if_neg (by omega), Nat.zero_div, Nat.zero_div]
theorem zs_ok {x z : Nat} (hx : x < 10 ^ 48) (h0 : 0 < z) (hz : z < 10 ^ 48) : okV (zs x 1) x z := by
  refine ⟨by unfold zs; split <;> omega, by unfold zs; split <;> omega, hx, h0, hz, by unfold zs; split <;> omega⟩
/-- the model's numbers are the class's, below n -/
def agM (sgm : Nat → Int) (up dm : Nat → Nat) (sg : Nat → Int) (nn : Nat → Nat) (n : Nat) : Prop := ∀ i, i < n → sgm i = sg i ∧ up i = nn (2 * i) ∧ dm i = nn (2 * i + 1)
theorem ag_ok {sgm : Nat → Int} {up dm : Nat → Nat} {sg : Nat → Int} {nn : Nat → Nat} {n : Nat} (h : agM sgm up dm sg nn n) (hV : okVs sg nn n) : okM sgm up dm n := by
  intro i hi
  obtain ⟨a1, a2, a3⟩ := h i hi
  rw [a1, a2, a3]
  exact hV i hi
theorem un_ok {sg : Nat → Int} {nn : Nat → Nat} {n : Nat} {s : Int} {x z : Nat} (h : okVs sg nn n) (hk : okV s x z) : okVs (uz sg n s) (un (un nn (2 * n) x) (2 * n + 1) z) (n + 1) := by
  intro i hi
  by_cases e : i = n
  · subst e
    rw [uz_s, un_n (show 2 * i ≠ 2 * i + 1 by omega), un_s, un_s]
    exact hk
  · rw [uz_n e, un_n (show 2 * i ≠ 2 * n + 1 by omega), un_n (show 2 * i ≠ 2 * n by omega), un_n (show 2 * i + 1 ≠ 2 * n + 1 by omega), un_n (show 2 * i + 1 ≠ 2 * n by omega)]
    exact h i (by omega)
theorem un_ag {sgm : Nat → Int} {up dm : Nat → Nat} {sg : Nat → Int} {nn : Nat → Nat} {n : Nat} {s : Int} {x z : Nat} (h : agM sgm up dm sg nn n) : agM (uz sgm n s) (un up n x) (un dm n z) (uz sg n s) (un (un nn (2 * n) x) (2 * n + 1) z) (n + 1) := by
  intro i hi
  by_cases e : i = n
  · subst e
    refine ⟨by rw [uz_s, uz_s], ?_, ?_⟩
    · rw [un_s, un_n (show 2 * i ≠ 2 * i + 1 by omega), un_s]
    · rw [un_s, un_s]
  · obtain ⟨a1, a2, a3⟩ := h i (by omega)
    refine ⟨by rw [uz_n e, uz_n e, a1], ?_, ?_⟩
    · rw [un_n e, un_n (show 2 * i ≠ 2 * n + 1 by omega), un_n (show 2 * i ≠ 2 * n by omega), a2]
    · rw [un_n e, un_n (show 2 * i + 1 ≠ 2 * n + 1 by omega), un_n (show 2 * i + 1 ≠ 2 * n by omega), a3]
theorem kp_ok {sg : Nat → Int} {nn : Nat → Nat} {n : Nat} {s : Int} {x z : Nat} (h : okVs sg nn n) (hk : x < 10 ^ 48 → z < 10 ^ 48 → okV s x z) : okVs (kpS sg n s x z) (kpN nn n x z) (kpC n x z) := by
  unfold kpS kpN kpC
  split
  · rename_i hc; exact un_ok h (hk hc.1 hc.2)
  · exact h
theorem kp_ag {sgm : Nat → Int} {up dm : Nat → Nat} {sg : Nat → Int} {nn : Nat → Nat} {n : Nat} {s : Int} {x z : Nat} (h : agM sgm up dm sg nn n) : agM (kpS sgm n s x z) (kpU up n x x z) (kpU dm n z x z) (kpS sg n s x z) (kpN nn n x z) (kpC n x z) := by
  unfold kpS kpU kpN kpC
  split
  · exact un_ag h
  · exact h
theorem kpC_r {n x z : Nat} (h : n < 100) : n ≤ kpC n x z ∧ kpC n x z ≤ 100 := by unfold kpC; split <;> omega
theorem ends_up {lo hi : Nat → Nat} {ns n m : Nat} (h : ∀ i, i < ns → lo i < n ∧ hi i < n) (hm : n ≤ m) : ∀ i, i < ns → lo i < m ∧ hi i < m := fun i hi' => ⟨Nat.lt_of_lt_of_le (h i hi').1 hm, Nat.lt_of_lt_of_le (h i hi').2 hm⟩
theorem ends_un {lo hi : Nat → Nat} {ns n u v : Nat} (h : ∀ i, i < ns → lo i < n ∧ hi i < n) (hu : u < n) (hv : v < n) : ∀ i, i < ns + 1 → un lo ns u i < n ∧ un hi ns v i < n := by
  intro i hi'
  by_cases e : i = ns
  · subst e; rw [un_s, un_s]; exact ⟨hu, hv⟩
  · rw [un_n e, un_n e]; exact h i (by omega)
theorem we_un {we : Nat → Nat} {nw v : Nat} (h : ∀ i, i < nw → we i ≤ 1000000000) (hv : v ≤ 1000000000) : ∀ i, i < nw + 1 → un we nw v i ≤ 1000000000 := by
  intro i hi'
  by_cases e : i = nw
  · subst e; rw [un_s]; exact hv
  · rw [un_n e]; exact h i (by omega)
theorem nat_of {a : Int} {n : Nat} (h : 0 ≤ a ∧ a < (n : Int)) : ∃ u : Nat, a = (u : Int) ∧ u < n := ⟨a.toNat, by omega, by omega⟩
theorem nat_le {a : Int} {n : Nat} (h : 0 ≤ a ∧ a ≤ (n : Int)) : ∃ u : Nat, a = (u : Int) ∧ u ≤ n := ⟨a.toNat, by omega, by omega⟩
theorem bd_su0 {a b : Int} {x1 z1 x2 z2 : Nat} (h1 : okV a x1 z1) (h2 : okV b x2 z2) : suN a b (x1 * z2) (x2 * z1) + 1 < 1000000000 ^ 12 ∧ z1 * z2 < 1000000000 ^ 12 := by
  have m1 := mul96 h1.2.2.1 h2.2.2.2.2.1
  have m2 := mul96 h2.2.2.1 h1.2.2.2.2.1
  have m3 := mul96 h1.2.2.2.2.1 h2.2.2.2.2.1
  have := suN_le (x := a) (y := b) (show x1 * z2 + x2 * z1 < 2 * 10 ^ 96 by omega)
  exact ⟨Nat.lt_of_lt_of_le (Nat.succ_lt_succ this) (by decide), Nat.lt_of_lt_of_le m3 (by decide)⟩
theorem bd_su1 {a b : Int} {x1 z1 x2 z2 : Nat} (h1 : okV a x1 z1) (h2 : okV b x2 z2) : suN a b (x1 * z2) (x2 * z1) < 1000000000 ^ 12 := Nat.lt_of_succ_lt (bd_su0 h1 h2).1
theorem bd_su {a b : Int} {x1 z1 x2 z2 : Nat} (h1 : okV a x1 z1) (h2 : okV b x2 z2) : lwX (suN a b (x1 * z2) (x2 * z1)) (z1 * z2) < 1000000000 ^ 12 ∧ lwZ (suN a b (x1 * z2) (x2 * z1)) (z1 * z2) < 1000000000 ^ 12 :=
  ⟨Nat.lt_of_le_of_lt (lw_le _ _).1 (bd_su1 h1 h2), Nat.lt_of_le_of_lt (lw_le _ _).2 (bd_su0 h1 h2).2⟩
theorem bd_96 {x z : Nat} (hx : x < 10 ^ 96) (hz : z < 10 ^ 96) : lwX x z < 1000000000 ^ 12 ∧ lwZ x z < 1000000000 ^ 12 :=
  ⟨Nat.lt_of_le_of_lt (lw_le _ _).1 (Nat.lt_of_lt_of_le hx (by decide)), Nat.lt_of_le_of_lt (lw_le _ _).2 (Nat.lt_of_lt_of_le hz (by decide))⟩
theorem bd_mul {a b : Int} {x1 z1 x2 z2 : Nat} (h1 : okV a x1 z1) (h2 : okV b x2 z2) : lwX (x1 * x2) (z1 * z2) < 1000000000 ^ 12 ∧ lwZ (x1 * x2) (z1 * z2) < 1000000000 ^ 12 :=
  bd_96 (mul96 h1.2.2.1 h2.2.2.1) (mul96 h1.2.2.2.2.1 h2.2.2.2.2.1)
theorem bd_div {a b : Int} {x1 z1 x2 z2 : Nat} (h1 : okV a x1 z1) (h2 : okV b x2 z2) : lwX (x1 * z2) (z1 * x2) < 1000000000 ^ 12 ∧ lwZ (x1 * z2) (z1 * x2) < 1000000000 ^ 12 :=
  bd_96 (mul96 h1.2.2.1 h2.2.2.2.2.1) (mul96 h1.2.2.2.2.1 h2.2.2.1)
theorem bd_rnd {s ru : Int} {x z u : Nat} (h : okV s x z) (hu : u ≤ 1000000000) : lwX (rndN x z s ru u) u < 1000000000 ^ 12 ∧ lwZ (rndN x z s ru u) u < 1000000000 ^ 12 := by
  have h1 : rndN x z s ru u ≤ x * u + 1 := Nat.le_trans rndN_le (Nat.succ_le_succ (Nat.div_le_self _ _))
  have h2 : x * u ≤ 10 ^ 48 * 1000000000 := Nat.mul_le_mul (Nat.le_of_lt h.2.2.1) hu
  have h3 : rndN x z s ru u < 1000000000 ^ 12 := Nat.lt_of_le_of_lt (Nat.le_trans h1 (Nat.succ_le_succ h2)) (by decide)
  exact ⟨Nat.lt_of_le_of_lt (lw_le _ _).1 h3, Nat.lt_of_le_of_lt (lw_le _ _).2 (Nat.lt_of_le_of_lt hu (by decide))⟩
theorem bd_val {x0 y0 : Int} (hx : -9223372036854775808 ≤ x0 ∧ x0 < 9223372036854775808) (hy : -9223372036854775808 ≤ y0 ∧ y0 < 9223372036854775808) : lwX (Int.natAbs x0) (Int.natAbs y0) < 1000000000 ^ 12 ∧ lwZ (Int.natAbs x0) (Int.natAbs y0) < 1000000000 ^ 12 :=
  ⟨Nat.lt_of_le_of_lt (lw_le _ _).1 (abs_lt hx), Nat.lt_of_le_of_lt (lw_le _ _).2 (abs_lt hy)⟩
theorem bd_giv {a b : Int} {x1 z1 x2 z2 : Nat} (h1 : okV a x1 z1) (h2 : okV b x2 z2) : spA (lwX (suN a b (x1 * z2) (x2 * z1)) (z1 * z2)) (lwZ (suN a b (x1 * z2) (x2 * z1)) (z1 * z2)) (suS a b (x1 * z2) (x2 * z1)) < 1000000000 ^ 12 ∧ spR (lwX (suN a b (x1 * z2) (x2 * z1)) (z1 * z2)) (lwZ (suN a b (x1 * z2) (x2 * z1)) (z1 * z2)) (suS a b (x1 * z2) (x2 * z1)) < 1000000000 ^ 12 := by
  have hD : 0 < z1 * z2 := Nat.mul_pos h1.2.2.2.1 h2.2.2.2.1
  refine ⟨Nat.lt_of_le_of_lt (Nat.le_trans (spA_le _ _ _) (Nat.succ_le_succ (lw_le _ _).1)) (bd_su0 h1 h2).1, Nat.lt_of_le_of_lt (spR_le (lwZ_pos hD)) (bd_su h1 h2).2⟩
theorem shr_r {q wh : Nat} {b : Int} (h : q ≤ wh) (hw : wh ≤ 1000000000) (hb : 0 ≤ b ∧ b ≤ 1) : 0 ≤ (q : Int) + b ∧ (q : Int) + b ≤ 1000000001 := by omega
