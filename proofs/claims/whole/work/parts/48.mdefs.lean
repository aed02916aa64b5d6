/-! THE MODEL'S REGISTERS: eight numbers of twenty places, base a million -/
def tp (v : Nat) : Nat := ul (dg 1000000 v) 20
theorem tp_le (v : Nat) : tp v ≤ 20 := ul_le _ _
theorem tp_lt {v : Nat} (h : v < 1000000 ^ 20) : v < 1000000 ^ tp v := ul_lt (by decide) 20 h
theorem tp_ge {v : Nat} (h : 0 < tp v) : 1000000 ^ (tp v - 1) ≤ v := ul_ge h
theorem tp_0 {v : Nat} (h : v < 1000000 ^ 20) : tp v = 0 ↔ v = 0 := ul_0 (by decide) h
theorem tp_nz {v : Nat} (h : v < 1000000 ^ 20) (h0 : 0 < v) : 0 < tp v ∧ 0 < dg 1000000 v (tp v - 1) := by
  have h1 : 0 < tp v := Nat.pos_of_ne_zero (fun z => absurd ((tp_0 h).mp z) (by omega))
  exact ⟨h1, Nat.pos_of_ne_zero (ul_nz (dg 1000000 v) 20 h1)⟩
theorem tp_8 {v : Nat} (h : v < 1000000 ^ 20) : tp v ≤ 8 ↔ v < 10 ^ 48 := by
  have e : (10 : Nat) ^ 48 = 1000000 ^ 8 := by decide
  rw [e]
  constructor
  · intro q
    exact Nat.lt_of_lt_of_le (tp_lt h) (pw_le (by decide) q)
  · intro q
    rcases Nat.lt_or_ge 8 (tp v) with z | z
    · have h1 := tp_ge (v := v) (by omega)
      have h2 := pw_le (b := 1000000) (by decide) (show 8 ≤ tp v - 1 by omega)
      omega
    · exact z
def wkA (rr : Nat → Nat) : Nat → Int64 := fun i => zL ((dg 1000000 (rr (i / 20)) (i % 20) : Nat) : Int)
def wkR (rr : Nat → Nat) (r : Nat) (f : Nat → Nat) : Nat → Int64 := fun i => if i / 20 = r then zL ((f (i % 20) : Nat) : Int) else wkA rr i
theorem ix_d {r k : Nat} (h : k < 20) : (r * 20 + k) / 20 = r := by omega
theorem ix_m {r k : Nat} (h : k < 20) : (r * 20 + k) % 20 = k := by omega
theorem wkA_at (rr : Nat → Nat) {r k : Nat} (h : k < 20) : wkA rr (r * 20 + k) = zL ((dg 1000000 (rr r) k : Nat) : Int) := by
  unfold wkA; rw [ix_d h, ix_m h]
theorem wkR_in (rr : Nat → Nat) (r : Nat) : wkR rr r (dg 1000000 (rr r)) = wkA rr := by
  funext i; unfold wkR wkA
  by_cases q : i / 20 = r
  · rw [if_pos q, q]
  · rw [if_neg q]
theorem wkR_out {rr : Nat → Nat} {r v : Nat} {f : Nat → Nat} (h : ∀ j, j < 20 → f j = dg 1000000 v j) : wkR rr r f = wkA (un rr r v) := by
  funext i; unfold wkR wkA un
  by_cases q : i / 20 = r
  · rw [if_pos q, if_pos q, h _ (Nat.mod_lt _ (by decide))]
  · rw [if_neg q, if_neg q]
theorem wkR_un (rr : Nat → Nat) (r v : Nat) : wkR rr r (dg 1000000 v) = wkA (un rr r v) := wkR_out (fun _ _ => rfl)
theorem wkR_at {rr : Nat → Nat} {r k : Nat} {f : Nat → Nat} (h : k < 20) : wkR rr r f (r * 20 + k) = zL ((f k : Nat) : Int) := by
  unfold wkR; rw [ix_d h, ix_m h, if_pos rfl]
theorem wkR_al {rr : Nat → Nat} {r q k : Nat} {f : Nat → Nat} (h : k < 20) (hf : f k = dg 1000000 (rr r) k) : wkR rr r f (q * 20 + k) = zL ((dg 1000000 (rr q) k : Nat) : Int) := by
  unfold wkR; rw [ix_d h, ix_m h]
  by_cases z : q = r
  · rw [if_pos z, hf, z]
  · rw [if_neg z, wkA_at rr h]
theorem wkR_ne {rr : Nat → Nat} {r q k : Nat} {f : Nat → Nat} (h : k < 20) (hq : q ≠ r) : wkR rr r f (q * 20 + k) = zL ((dg 1000000 (rr q) k : Nat) : Int) := by
  unfold wkR; rw [ix_d h, if_neg hq, wkA_at rr h]
theorem wkR_mx {rr : Nat → Nat} {r k : Nat} {f g : Nat → Nat} {x : Int64} (hk : k < 20) (h : x = zL ((f k : Nat) : Int)) : vp_updL (wkR rr r (mx f g k)) (r * 20 + k) x = wkR rr r (mx f g (k + 1)) := by
  funext i; unfold vp_updL wkR mx
  by_cases q : i = r * 20 + k
  · rw [if_pos q, q, ix_d hk, ix_m hk, if_pos rfl, if_pos (by omega), h]
  · rw [if_neg q]
    by_cases z : i / 20 = r
    · rw [if_pos z, if_pos z]
      have : i % 20 ≠ k := by omega
      by_cases y : i % 20 < k
      · rw [if_pos y, if_pos (by omega)]
      · rw [if_neg y, if_neg (by omega)]
    · rw [if_neg z, if_neg z]
theorem wkR_md {rr : Nat → Nat} {r k : Nat} {f g : Nat → Nat} {x : Int64} (hk : k < 20) (h : x = zL ((g k : Nat) : Int)) : vp_updL (wkR rr r (mx f g (k + 1))) (r * 20 + k) x = wkR rr r (mx f g k) := by
  funext i; unfold vp_updL wkR mx
  by_cases q : i = r * 20 + k
  · rw [if_pos q, q, ix_d hk, ix_m hk, if_pos rfl, if_neg (by omega), h]
  · rw [if_neg q]
    by_cases z : i / 20 = r
    · rw [if_pos z, if_pos z]
      have : i % 20 ≠ k := by omega
      by_cases y : i % 20 < k
      · rw [if_pos y, if_pos (by omega)]
      · rw [if_neg y, if_neg (by omega)]
    · rw [if_neg z, if_neg z]
/-- one place of a register is stored anew -/
theorem wkA_up {rr : Nat → Nat} {r k v d : Nat} {x : Int64} (hk : k < 20) (h : x = zL ((d : Nat) : Int)) (hv : ∀ j, j < 20 → dg 1000000 v j = if j = k then d else dg 1000000 (rr r) j) : vp_updL (wkA rr) (r * 20 + k) x = wkA (un rr r v) := by
  funext i; unfold vp_updL wkA un
  by_cases q : i = r * 20 + k
  · rw [if_pos q, q, ix_d hk, ix_m hk, if_pos rfl, hv k hk, if_pos rfl, h]
  · rw [if_neg q]
    by_cases z : i / 20 = r
    · rw [if_pos z, hv _ (Nat.mod_lt _ (by decide)), if_neg (by omega), z]
    · rw [if_neg z]
theorem upL_same {f : Nat → Int64} {k : Nat} {x : Int64} (h : x = f k) : vp_updL f k x = f := by
  funext i; unfold vp_updL
  by_cases q : i = k
  · rw [if_pos q, h, q]
  · rw [if_neg q]
theorem un_un (f : Nat → Nat) (k u v : Nat) : un (un f k u) k v = un f k v := by
  funext j; unfold un
  by_cases q : j = k
  · rw [if_pos q, if_pos q]
  · rw [if_neg q, if_neg q, if_neg q]
theorem un_id (f : Nat → Nat) (k : Nat) : un f k (f k) = f := by
  funext j; unfold un
  by_cases q : j = k
  · rw [if_pos q, q]
  · rw [if_neg q]
theorem un_cm {f : Nat → Nat} {k l u v : Nat} (h : k ≠ l) : un (un f k u) l v = un (un f l v) k u := by
  funext j; unfold un
  by_cases q : j = l
  · rw [if_pos q]
    by_cases z : j = k
    · omega
    · rw [if_neg z, if_pos q]
  · rw [if_neg q, if_neg q]
theorem mx_e2 {b v w n : Nat} (h : v / b ^ n = w / b ^ n) : mx (dg b v) (dg b w) n = dg b v := mx_e (fun _ hj => dg_hiE h hj)
theorem mx_s2 {b v w n : Nat} (h : ∀ j, j < n → dg b v j = dg b w j) : mx (dg b v) (dg b w) n = dg b w := mx_s h
theorem dg_ad {b v k q j : Nat} (hb : 0 < b) (h : dg b v k + q < b) : dg b (v + q * b ^ k) j = if j = k then dg b v k + q else dg b v j := by
  by_cases z : j < k
  · rw [if_neg (by omega), dg_low hb z]
  · have e1 := dv_e b v k
    have e2 : (v + q * b ^ k) / b ^ k = v / b ^ k + q := dv_up hb
    have e3 : (v + q * b ^ k) / b ^ (k + 1) = v / b ^ (k + 1) := by
      rw [dv_s, e2, ← e1, Nat.add_assoc, Nat.mul_add_div hb, Nat.div_eq_of_lt h, Nat.add_zero]
    by_cases y : j = k
    · rw [if_pos y, y]
      show (v + q * b ^ k) / b ^ k % b = _
      rw [e2, ← e1, Nat.add_assoc, Nat.mul_add_mod, Nat.mod_eq_of_lt h]
    · rw [if_neg y]
      exact dg_hiE e3 (by omega)
theorem st_sb6 {r o t c i : Nat} (h : r / 1000000 ^ i + o / 1000000 ^ i + c = t / 1000000 ^ i) (hc : c ≤ 1) :
    (dg 1000000 o i + c ≤ dg 1000000 t i → dg 1000000 r i + dg 1000000 o i + c = dg 1000000 t i ∧ r / 1000000 ^ (i + 1) + o / 1000000 ^ (i + 1) + 0 = t / 1000000 ^ (i + 1)) ∧
    (dg 1000000 t i < dg 1000000 o i + c → dg 1000000 r i + dg 1000000 o i + c = dg 1000000 t i + 1000000 ∧ r / 1000000 ^ (i + 1) + o / 1000000 ^ (i + 1) + 1 = t / 1000000 ^ (i + 1)) := by
  have e1 := dv_e 1000000 r i
  have e2 := dv_e 1000000 o i
  have e3 := dv_e 1000000 t i
  have l1 := dg_lt (b := 1000000) (by decide) r i
  have l2 := dg_lt (b := 1000000) (by decide) o i
  have l3 := dg_lt (b := 1000000) (by decide) t i
  omega
theorem st_hf6 {v i : Nat} : dg 1000000 (v / 2) i = (dg 1000000 v i + v / 1000000 ^ (i + 1) % 2 * 1000000) / 2 ∧ v / 1000000 ^ i % 2 = (dg 1000000 v i + v / 1000000 ^ (i + 1) % 2 * 1000000) % 2 := by
  have e1 := dv_e 1000000 v i
  have l1 := dg_lt (b := 1000000) (by decide) v i
  have e2 : v / 2 / 1000000 ^ i = v / 1000000 ^ i / 2 := by rw [Nat.div_div_eq_div_mul, Nat.mul_comm, ← Nat.div_div_eq_div_mul]
  have e3 : dg 1000000 (v / 2) i = v / 1000000 ^ i / 2 % 1000000 := by unfold dg; rw [e2]
  rw [e3]
  omega
/-- what is left where q times o goes off, a place at a time; x is the difference at the place -/
theorem st_qb6 {r o t q c i L : Nat} (h : r / 1000000 ^ i + o / 1000000 ^ i * q + c = t / 1000000 ^ i)
    (hL : L = if dg 1000000 t i < c + dg 1000000 o i * q then (c + dg 1000000 o i * q - dg 1000000 t i + 999999) / 1000000 else 0) :
    dg 1000000 r i + (c + dg 1000000 o i * q) = dg 1000000 t i + L * 1000000 ∧ r / 1000000 ^ (i + 1) + o / 1000000 ^ (i + 1) * q + L = t / 1000000 ^ (i + 1) := by
  have e1 := dv_e 1000000 r i
  have e2 := dv_e 1000000 o i
  have e3 := dv_e 1000000 t i
  have l1 := dg_lt (b := 1000000) (by decide) r i
  have l3 := dg_lt (b := 1000000) (by decide) t i
  rw [← e2, Nat.add_mul, Nat.mul_assoc] at h
  generalize o / 1000000 ^ (i + 1) * q = P at h ⊢
  generalize dg 1000000 o i * q = K at h hL ⊢
  split at hL <;> omega
theorem dg_up {b v s k : Nat} (hb : 0 < b) : dg b (v * b ^ s) k = if s ≤ k then dg b v (k - s) else 0 := by
  by_cases q : s ≤ k
  · rw [if_pos q]
    obtain ⟨d, rfl⟩ : ∃ d, k = s + d := ⟨k - s, by omega⟩
    rw [Nat.add_sub_cancel_left, dg_sh', Nat.mul_div_cancel _ (Nat.pow_pos hb)]
  · rw [if_neg q]
    have h := dg_low (b := b) (v := 0) (k := v) (s := s) (j := k) hb (by omega)
    rw [Nat.zero_add, dg_zero] at h
    exact h
theorem mul_tp {x y : Nat} (hx : x < 1000000 ^ 20) (hy : y < 1000000 ^ 20) (h : x * y < 1000000 ^ 20) (h1 : 0 < tp x) (h2 : 0 < tp y) : tp x + tp y ≤ 21 := by
  have a1 := tp_ge h1
  have a2 := tp_ge h2
  have a3 := Nat.mul_le_mul a1 a2
  rw [← Nat.pow_add] at a3
  rcases Nat.lt_or_ge 21 (tp x + tp y) with z | z
  · have := pw_le (b := 1000000) (by decide) (show 20 ≤ tp x - 1 + (tp y - 1) by omega)
    omega
  · exact z
/-- a number that has k places of n below the places of o -/
def mN (n o k : Nat) : Nat := n % 1000000 ^ k + o / 1000000 ^ k * 1000000 ^ k
theorem mN_d (n o k j : Nat) : dg 1000000 (mN n o k) j = if j < k then dg 1000000 n j else dg 1000000 o j := by
  have hp : 0 < 1000000 ^ k := Nat.pow_pos (by decide)
  have hm := Nat.mod_lt n hp
  by_cases q : j < k
  · rw [if_pos q]
    unfold mN
    rw [dg_low (by decide) q]
    have h := dg_low (b := 1000000) (v := n % 1000000 ^ k) (k := n / 1000000 ^ k) (s := k) (j := j) (by decide) q
    rw [Nat.mul_comm, Nat.mod_add_div] at h
    exact h.symm
  · rw [if_neg q]
    refine dg_hiE (n := k) ?_ (by omega)
    unfold mN
    rw [dv_up (by decide), Nat.div_eq_of_lt hm, Nat.zero_add]
theorem mN_0 (n o : Nat) : mN n o 0 = o := by unfold mN; rw [Nat.pow_zero, Nat.mod_one, Nat.div_one, Nat.mul_one, Nat.zero_add]
theorem mN_e {n o : Nat} (hn : n < 1000000 ^ 20) (ho : o < 1000000 ^ 20) : mN n o 20 = n := by
  unfold mN; rw [Nat.mod_eq_of_lt hn, Nat.div_eq_of_lt ho, Nat.zero_mul, Nat.add_zero]
theorem mN_s (n o k j : Nat) : dg 1000000 (mN n o (k + 1)) j = if j = k then dg 1000000 n k else dg 1000000 (mN n o k) j := by
  rw [mN_d, mN_d]
  by_cases q : j = k
  · rw [if_pos q, if_pos (by omega), q]
  · rw [if_neg q]
    by_cases z : j < k
    · rw [if_pos z, if_pos (by omega)]
    · rw [if_neg z, if_neg (by omega)]
theorem st_dv {A o s : Nat} : A / (o * 1000000 ^ s) = A / (o * 1000000 ^ (s + 1)) * 1000000 + A % (o * 1000000 ^ (s + 1)) / (o * 1000000 ^ s) := by
  rw [dv_dig]
  unfold dg
  have e : ∀ k : Nat, A / (o * 1000000 ^ k) = A / o / 1000000 ^ k := fun k => by rw [Nat.div_div_eq_div_mul]
  rw [e, e, dv_s, Nat.mul_comm]
  exact (Nat.div_add_mod _ _).symm
theorem rm_top6 {t o : Nat} (ht : t < 1000000 ^ 20) (h0 : 0 < o) (ho : o < 1000000 ^ 20) : t < o * 1000000 ^ (tp t + 1 - tp o) := by
  have a1 := tp_lt ht
  have a2 := tp_ge (tp_nz ho h0).1
  have a3 := (tp_nz ho h0).1
  have a4 : 1000000 ^ tp t ≤ 1000000 ^ (tp o - 1 + (tp t + 1 - tp o)) := pw_le (by decide) (by omega)
  rw [Nat.pow_add] at a4
  have a5 := Nat.mul_le_mul_right (1000000 ^ (tp t + 1 - tp o)) a2
  omega
theorem cop_2 {y : Nat} (h : y % 2 = 1) : Nat.Coprime 2 y := by
  show Nat.gcd 2 y = 1
  rw [Nat.gcd_rec, h]
  decide
theorem gcd_h {x y : Nat} (hx : x % 2 = 0) (hy : y % 2 = 1) : Nat.gcd (x / 2) y = Nat.gcd x y := by
  have e : x = 2 * (x / 2) := by omega
  have h := Nat.Coprime.gcd_mul_left_cancel (x / 2) (cop_2 hy)
  rw [← e] at h
  exact h.symm
theorem gcd_s {x y : Nat} (h : x ≤ y) : Nat.gcd x (y - x) = Nat.gcd x y := by
  have e : y = y - x + x := by omega
  have h1 := Nat.gcd_add_self_right x (y - x)
  rw [← e] at h1
  exact h1.symm
theorem gcd_e2 (x y : Nat) : Nat.gcd (2 * x) (2 * y) = 2 * Nat.gcd x y := Nat.gcd_mul_left 2 x y
theorem st_add6 {x y z i c : Nat} (h : z / 1000000 ^ i = x / 1000000 ^ i + y / 1000000 ^ i + c) (hc : c ≤ 1) :
    (dg 1000000 x i + dg 1000000 y i + c < 1000000 → dg 1000000 z i = dg 1000000 x i + dg 1000000 y i + c ∧ z / 1000000 ^ (i + 1) = x / 1000000 ^ (i + 1) + y / 1000000 ^ (i + 1) + 0) ∧
    (1000000 ≤ dg 1000000 x i + dg 1000000 y i + c → dg 1000000 z i + 1000000 = dg 1000000 x i + dg 1000000 y i + c ∧ z / 1000000 ^ (i + 1) = x / 1000000 ^ (i + 1) + y / 1000000 ^ (i + 1) + 1) := by
  have e1 := dv_e 1000000 x i
  have e2 := dv_e 1000000 y i
  have e3 := dv_e 1000000 z i
  have l1 := dg_lt (b := 1000000) (by decide) x i
  have l2 := dg_lt (b := 1000000) (by decide) y i
  have l3 := dg_lt (b := 1000000) (by decide) z i
  omega
theorem st_mul6 {z y a b c j : Nat} (h : z / 1000000 ^ j = y / 1000000 ^ j + a * (b / 1000000 ^ j) + c) :
    dg 1000000 z j = (c + (dg 1000000 y j + a * dg 1000000 b j)) % 1000000 ∧ z / 1000000 ^ (j + 1) = y / 1000000 ^ (j + 1) + a * (b / 1000000 ^ (j + 1)) + (c + (dg 1000000 y j + a * dg 1000000 b j)) / 1000000 := by
  have e1 := dv_e 1000000 z j
  have e2 := dv_e 1000000 y j
  have e3 := dv_e 1000000 b j
  have l1 := dg_lt (b := 1000000) (by decide) z j
  have l2 := dg_lt (b := 1000000) (by decide) y j
  rw [← e3, Nat.mul_add, Nat.mul_left_comm] at h
  generalize a * (b / 1000000 ^ (j + 1)) = P at h ⊢
  generalize a * dg 1000000 b j = K at h ⊢
  omega
theorem cmp_dg6 {a c n : Nat} (hn : 0 < n) (h : a / 1000000 ^ n = c / 1000000 ^ n) (hd : dg 1000000 a (n - 1) < dg 1000000 c (n - 1)) : a < c := by
  obtain ⟨k, rfl⟩ : ∃ k, n = k + 1 := ⟨n - 1, by omega⟩
  rw [Nat.add_sub_cancel] at hd
  have e1 := dv_e 1000000 a k
  have e2 := dv_e 1000000 c k
  have h2 : a / 1000000 ^ k < c / 1000000 ^ k := by omega
  rcases Nat.lt_or_ge a c with q | q
  · exact q
  · have := Nat.div_le_div_right (c := 1000000 ^ k) q
    omega
theorem cmp_dn6 {a c n : Nat} (hn : 0 < n) (h : a / 1000000 ^ n = c / 1000000 ^ n) (hd : dg 1000000 a (n - 1) = dg 1000000 c (n - 1)) : a / 1000000 ^ (n - 1) = c / 1000000 ^ (n - 1) := by
  obtain ⟨k, rfl⟩ : ∃ k, n = k + 1 := ⟨n - 1, by omega⟩
  rw [Nat.add_sub_cancel] at hd ⊢
  have e1 := dv_e 1000000 a k
  have e2 := dv_e 1000000 c k
  omega
theorem cmp_ul6 {t o sh : Nat} (ht : t < 1000000 ^ 20) (hnz : 0 < o ∨ sh = 0) (h : tp t < tp o + sh) : t / 1000000 ^ sh < o := by
  have h1 := tp_lt ht
  rw [Nat.div_lt_iff_lt_mul (Nat.pow_pos (by decide))]
  rcases Nat.eq_zero_or_pos (tp o) with q | q
  · rcases hnz with z | z
    · have h2 : 1000000 ^ 20 ≤ o := by
        rcases Nat.lt_or_ge o (1000000 ^ 20) with y | y
        · have := (tp_0 y).mp q; omega
        · exact y
      have h3 : 0 < 1000000 ^ sh := Nat.pow_pos (by decide)
      calc t < 1000000 ^ 20 := ht
        _ ≤ o := h2
        _ ≤ o * 1000000 ^ sh := Nat.le_mul_of_pos_right _ h3
    · omega
  · have h2 := tp_ge q
    have h3 : 1000000 ^ tp t ≤ 1000000 ^ (tp o - 1 + sh) := pw_le (by decide) (by omega)
    rw [Nat.pow_add] at h3
    have h4 := Nat.mul_le_mul_right (1000000 ^ sh) h2
    omega
theorem cmp_ug6 {t o sh : Nat} (ho : o < 1000000 ^ 20) (h : tp o + sh < tp t) : o < t / 1000000 ^ sh := by
  have h1 := tp_lt ho
  have h2 := tp_ge (v := t) (by omega)
  have h3 : 1000000 ^ (tp o + sh) ≤ 1000000 ^ (tp t - 1) := pw_le (by decide) (by omega)
  rw [Nat.pow_add] at h3
  have h4 : 1000000 ^ tp o ≤ t / 1000000 ^ sh := (Nat.le_div_iff_mul_le (Nat.pow_pos (by decide))).mpr (by omega)
  omega
