theorem b2_p {P : Prop} [Decidable P] (h : ¬ b2 P = 0) : P := Decidable.not_not.mp (fun z => h (b2_f z))
theorem tw_lt {tw g v : Nat} (h0 : 0 < g) (h : g * 2 ^ tw ≤ v) (hv : v < 1000000 ^ 20) : tw < 400 := by
  rcases Nat.lt_or_ge tw 400 with z | z
  · exact z
  · have h1 : (2 : Nat) ^ 400 ≤ 2 ^ tw := Nat.pow_le_pow_right (by decide) z
    have h2 := Nat.le_mul_of_pos_left (2 ^ tw) h0
    have h3 : (1000000 : Nat) ^ 20 < 2 ^ 400 := by decide
    omega
theorem md_top6 {x : Nat} (hx : x < 1000000 ^ 20) {i : Nat} (h : tp x ≤ i) : x % 1000000 ^ i = x := Nat.mod_eq_of_lt (Nat.lt_of_lt_of_le (tp_lt hx) (pw_le (by decide) h))
theorem pr_le6 {a b : Nat} (ha : a < 1000000) (hb : b < 1000000) : a * b ≤ 999998000001 := by
  have h := Nat.mul_le_mul (show a ≤ 999999 by omega) (show b ≤ 999999 by omega)
  omega
theorem of_up {T D B s k q : Nat} (hB : 0 < B) (h : q * (D / B ^ k + 1) ≤ T / B ^ (k + s)) : q * (D * B ^ s) ≤ T := by
  have hp : 0 < B ^ k := Nat.pow_pos hB
  have h1 : D ≤ (D / B ^ k + 1) * B ^ k := by
    have := Nat.lt_div_mul_add (a := D) hp
    rw [Nat.add_mul]; omega
  have h2 := Nat.div_mul_le_self T (B ^ (k + s))
  refine Nat.le_trans ?_ h2
  have e : B ^ (k + s) = B ^ k * B ^ s := Nat.pow_add _ _ _
  suffices h3 : q * (D * B ^ s) ≤ T / B ^ (k + s) * (B ^ k * B ^ s) from by rw [← e] at h3; exact h3
  calc q * (D * B ^ s) ≤ q * (((D / B ^ k + 1) * B ^ k) * B ^ s) := Nat.mul_le_mul_left q (Nat.mul_le_mul_right _ h1)
    _ = (q * (D / B ^ k + 1)) * (B ^ k * B ^ s) := by simp only [Nat.mul_assoc]
    _ ≤ T / B ^ (k + s) * (B ^ k * B ^ s) := Nat.mul_le_mul_right _ h
theorem of_up0 {T D B s : Nat} : T / B ^ s / D * (D * B ^ s) ≤ T := by
  rw [← Nat.mul_assoc]
  exact Nat.le_trans (Nat.mul_le_mul_right _ (Nat.div_mul_le_self _ _)) (Nat.div_mul_le_self _ _)
theorem dg_top {v k : Nat} (h : v < 1000000 ^ (k + 1)) : dg 1000000 v k = v / 1000000 ^ k := by
  have hq : v / 1000000 ^ k < 1000000 := by
    rw [Nat.div_lt_iff_lt_mul (Nat.pow_pos (by decide)), Nat.mul_comm, ← Nat.pow_succ]
    exact h
  exact Nat.mod_eq_of_lt hq
theorem dv_b {v k n : Nat} (h : v < 1000000 ^ (k + n)) : v / 1000000 ^ k < 1000000 ^ n := by
  rw [Nat.div_lt_iff_lt_mul (Nat.pow_pos (by decide)), Nat.mul_comm, ← Nat.pow_add]
  exact h
theorem un_id2 {f : Nat → Nat} {t q v : Nat} (h : q ≠ t) : un (un f t v) q (f q) = un f t v := by
  have e : un f t v q = f q := un_n h
  rw [← e, un_id]
