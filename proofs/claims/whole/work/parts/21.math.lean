/-! numbers by their digits in a base; nothing here speaks of the machine -/
def dg (b v i : Nat) : Nat := v / b ^ i % b
theorem dg_lt {b : Nat} (hb : 0 < b) (v i : Nat) : dg b v i < b := Nat.mod_lt _ hb
theorem dv_s (b v i : Nat) : v / b ^ (i + 1) = v / b ^ i / b := by rw [Nat.pow_succ, Nat.div_div_eq_div_mul]
theorem dv_e (b v i : Nat) : b * (v / b ^ (i + 1)) + dg b v i = v / b ^ i := by rw [dv_s]; exact Nat.div_add_mod _ _
theorem dv_0 (b v : Nat) : v / b ^ 0 = v := by rw [Nat.pow_zero, Nat.div_one]
theorem dv_z {b v i : Nat} (h : v < b ^ i) : v / b ^ i = 0 := Nat.div_eq_of_lt h
theorem dg_0 {b v i : Nat} (h : v < b ^ i) : dg b v i = 0 := by unfold dg; rw [Nat.div_eq_of_lt h, Nat.zero_mod]
theorem dg_zero (b i : Nat) : dg b 0 i = 0 := by unfold dg; rw [Nat.zero_div, Nat.zero_mod]
theorem pw_le {b i j : Nat} (hb : 0 < b) (h : i ≤ j) : b ^ i ≤ b ^ j := Nat.pow_le_pow_right hb h
theorem dg_hi {b v n i : Nat} (hb : 0 < b) (h : v < b ^ n) (hi : n ≤ i) : dg b v i = 0 := dg_0 (Nat.lt_of_lt_of_le h (pw_le hb hi))
theorem dv_hi {b v n i : Nat} (hb : 0 < b) (h : v < b ^ n) (hi : n ≤ i) : v / b ^ i = 0 := dv_z (Nat.lt_of_lt_of_le h (pw_le hb hi))
/-- how many places are used, of n -/
def ul (f : Nat → Nat) : Nat → Nat
  | 0 => 0
  | n + 1 => if f n = 0 then ul f n else n + 1
theorem ul_le (f : Nat → Nat) : ∀ n, ul f n ≤ n
  | 0 => Nat.le_refl 0
  | n + 1 => by
    unfold ul
    split
    · exact Nat.le_succ_of_le (ul_le f n)
    · exact Nat.le_refl _
theorem ul_z (f : Nat → Nat) : ∀ n i, ul f n ≤ i → i < n → f i = 0
  | 0, i, _, h => absurd h (Nat.not_lt_zero i)
  | n + 1, i, h1, h2 => by
    unfold ul at h1
    split at h1
    · rename_i h
      rcases Nat.lt_or_ge i n with q | q
      · exact ul_z f n i h1 q
      · have e : i = n := by omega
        rw [e]; exact h
    · omega
theorem ul_nz (f : Nat → Nat) : ∀ n, 0 < ul f n → f (ul f n - 1) ≠ 0
  | 0, h => absurd h (Nat.lt_irrefl 0)
  | n + 1, h => by
    unfold ul at h ⊢
    split
    · rename_i q
      rw [if_pos q] at h
      exact ul_nz f n h
    · rename_i q
      exact q
theorem ul_s {f : Nat → Nat} {n : Nat} (h : f n = 0) : ul f (n + 1) = ul f n := by
  show (if f n = 0 then ul f n else n + 1) = ul f n
  rw [if_pos h]
theorem ul_e {f : Nat → Nat} : ∀ {n : Nat}, 0 < n → f (n - 1) ≠ 0 → ul f n = n
  | 0, h, _ => absurd h (Nat.lt_irrefl 0)
  | n + 1, _, h => by
    have h' : f n ≠ 0 := h
    show (if f n = 0 then ul f n else n + 1) = n + 1
    rw [if_neg h']
theorem ul_lt {b v : Nat} (hb : 0 < b) : ∀ n, v < b ^ n → v < b ^ ul (dg b v) n
  | 0, h => h
  | n + 1, h => by
    unfold ul
    split
    · rename_i q
      refine ul_lt hb n ?_
      unfold dg at q
      have h1 : v / b ^ n < b := by
        rw [Nat.div_lt_iff_lt_mul (Nat.pow_pos hb), Nat.mul_comm, ← Nat.pow_succ]
        exact h
      rw [Nat.mod_eq_of_lt h1] at q
      have hp : 0 < b ^ n := Nat.pow_pos hb
      rcases Nat.lt_or_ge v (b ^ n) with z | z
      · exact z
      · have := Nat.div_pos z hp
        omega
    · exact h
theorem ul_ge {b v n : Nat} (h : 0 < ul (dg b v) n) : b ^ (ul (dg b v) n - 1) ≤ v := by
  rcases Nat.lt_or_ge v (b ^ (ul (dg b v) n - 1)) with z | z
  · exact absurd (dg_0 z) (ul_nz _ _ h)
  · exact z
theorem ul_0 {b v n : Nat} (hb : 0 < b) (hv : v < b ^ n) : ul (dg b v) n = 0 ↔ v = 0 := by
  constructor
  · intro h
    have := ul_lt hb n hv
    rw [h, Nat.pow_zero] at this
    omega
  · intro h
    rcases Nat.eq_zero_or_pos (ul (dg b v) n) with q | q
    · exact q
    · have := ul_nz _ _ q
      rw [h, dg_zero] at this
      exact absurd rfl this
/-- the same digits: the same length -/
theorem ul_c {f g : Nat → Nat} : ∀ {n : Nat}, (∀ i, i < n → f i = g i) → ul f n = ul g n
  | 0, _ => rfl
  | n + 1, h => by
    unfold ul
    rw [h n (Nat.lt_succ_self n), ul_c (fun i hi => h i (Nat.lt_succ_of_lt hi))]
/-- a row that is f below i and g from i on -/
def mx {α : Type} (f g : Nat → α) (i : Nat) : Nat → α := fun j => if j < i then f j else g j
theorem mx_0 {α : Type} (f g : Nat → α) : mx f g 0 = g := by
  funext j; unfold mx; rw [if_neg (Nat.not_lt_zero j)]
theorem mx_lo {α : Type} {f g : Nat → α} {i j : Nat} (h : j < i) : mx f g i j = f j := by unfold mx; rw [if_pos h]
theorem mx_hi {α : Type} {f g : Nat → α} {i j : Nat} (h : i ≤ j) : mx f g i j = g j := by unfold mx; rw [if_neg (by omega)]
theorem mx_up {f g : Nat → Int32} {i : Nat} {x : Int32} (h : x = f i) : upd (mx f g i) i x = mx f g (i + 1) := by
  funext j; unfold upd mx
  rcases Nat.lt_trichotomy j i with q | q | q
  · rw [if_neg (by omega), if_pos q, if_pos (by omega)]
  · rw [if_pos q, if_pos (by omega), h, q]
  · rw [if_neg (by omega), if_neg (by omega), if_neg (by omega)]
theorem mx_dn {f g : Nat → Int32} {i : Nat} {x : Int32} (h : x = g i) : upd (mx f g (i + 1)) i x = mx f g i := by
  funext j; unfold upd mx
  rcases Nat.lt_trichotomy j i with q | q | q
  · rw [if_neg (by omega), if_pos (by omega), if_pos q]
  · rw [if_pos q, if_neg (by omega), h, q]
  · rw [if_neg (by omega), if_neg (by omega), if_neg (by omega)]
theorem mx_upL {f g : Nat → Int64} {i : Nat} {x : Int64} (h : x = f i) : vp_updL (mx f g i) i x = mx f g (i + 1) := by
  funext j; unfold vp_updL mx
  rcases Nat.lt_trichotomy j i with q | q | q
  · rw [if_neg (by omega), if_pos q, if_pos (by omega)]
  · rw [if_pos q, if_pos (by omega), h, q]
  · rw [if_neg (by omega), if_neg (by omega), if_neg (by omega)]
theorem mx_e {α : Type} {f g : Nat → α} {n : Nat} (h : ∀ j, n ≤ j → f j = g j) : mx f g n = f := by
  funext j; unfold mx
  rcases Nat.lt_or_ge j n with q | q
  · rw [if_pos q]
  · rw [if_neg (by omega), h j q]
/-! a whole number of twelve places of nine digits -/
abbrev BB : Nat := 1000000000
def wa (v : Nat) : Nat → Int32 := fun i => zI (dg 1000000000 v i : Nat)
def us (v : Nat) : Nat := ul (dg 1000000000 v) 12
abbrev T12 : Nat := 1000000000 ^ 12
theorem us_le (v : Nat) : us v ≤ 12 := ul_le _ _
theorem us_lt {v : Nat} (h : v < 1000000000 ^ 12) : v < 1000000000 ^ us v := ul_lt (by decide) 12 h
theorem us_ge {v : Nat} (h : 0 < us v) : 1000000000 ^ (us v - 1) ≤ v := ul_ge h
theorem us_0 {v : Nat} (h : v < 1000000000 ^ 12) : us v = 0 ↔ v = 0 := ul_0 (by decide) h
theorem wa_hi {v : Nat} (h : v < 1000000000 ^ 12) {i : Nat} (hi : 12 ≤ i) : wa v i = zI 0 := by
  unfold wa; rw [dg_hi (by decide) h hi]; rfl
/-! steps of the school's ways, a place at a time (base: a thousand million) -/
theorem st_add {x y z i c : Nat} (h : z / 1000000000 ^ i = x / 1000000000 ^ i + y / 1000000000 ^ i + c) (hc : c ≤ 1) :
    (dg 1000000000 x i + dg 1000000000 y i + c < 1000000000 → dg 1000000000 z i = dg 1000000000 x i + dg 1000000000 y i + c ∧ z / 1000000000 ^ (i + 1) = x / 1000000000 ^ (i + 1) + y / 1000000000 ^ (i + 1) + 0) ∧
    (1000000000 ≤ dg 1000000000 x i + dg 1000000000 y i + c → dg 1000000000 z i + 1000000000 = dg 1000000000 x i + dg 1000000000 y i + c ∧ z / 1000000000 ^ (i + 1) = x / 1000000000 ^ (i + 1) + y / 1000000000 ^ (i + 1) + 1) := by
  have e1 := dv_e 1000000000 x i
  have e2 := dv_e 1000000000 y i
  have e3 := dv_e 1000000000 z i
  have l1 := dg_lt (b := 1000000000) (by decide) x i
  have l2 := dg_lt (b := 1000000000) (by decide) y i
  have l3 := dg_lt (b := 1000000000) (by decide) z i
  omega
theorem st_sub {r o t g c i : Nat} (h : r / 1000000000 ^ i + o / 1000000000 ^ i * g + c = t / 1000000000 ^ i) :
    (c + dg 1000000000 o i * g) % 1000000000 ≤ dg 1000000000 t i → dg 1000000000 r i + (c + dg 1000000000 o i * g) % 1000000000 = dg 1000000000 t i ∧ r / 1000000000 ^ (i + 1) + o / 1000000000 ^ (i + 1) * g + (c + dg 1000000000 o i * g) / 1000000000 = t / 1000000000 ^ (i + 1) := by
  have e1 := dv_e 1000000000 r i
  have e2 := dv_e 1000000000 o i
  have e3 := dv_e 1000000000 t i
  have l1 := dg_lt (b := 1000000000) (by decide) r i
  have l3 := dg_lt (b := 1000000000) (by decide) t i
  rw [← e2, Nat.add_mul, Nat.mul_assoc] at h
  generalize o / 1000000000 ^ (i + 1) * g = P at h ⊢
  generalize dg 1000000000 o i * g = K at h ⊢
  omega
theorem st_sub' {r o t g c i : Nat} (h : r / 1000000000 ^ i + o / 1000000000 ^ i * g + c = t / 1000000000 ^ i) :
    dg 1000000000 t i < (c + dg 1000000000 o i * g) % 1000000000 → dg 1000000000 r i + (c + dg 1000000000 o i * g) % 1000000000 = dg 1000000000 t i + 1000000000 ∧ r / 1000000000 ^ (i + 1) + o / 1000000000 ^ (i + 1) * g + ((c + dg 1000000000 o i * g) / 1000000000 + 1) = t / 1000000000 ^ (i + 1) := by
  have e1 := dv_e 1000000000 r i
  have e2 := dv_e 1000000000 o i
  have e3 := dv_e 1000000000 t i
  have l1 := dg_lt (b := 1000000000) (by decide) r i
  have l3 := dg_lt (b := 1000000000) (by decide) t i
  rw [← e2, Nat.add_mul, Nat.mul_assoc] at h
  generalize o / 1000000000 ^ (i + 1) * g = P at h ⊢
  generalize dg 1000000000 o i * g = K at h ⊢
  omega
theorem st_mul {z y a b c j : Nat} (h : z / 1000000000 ^ j = y / 1000000000 ^ j + a * (b / 1000000000 ^ j) + c) :
    dg 1000000000 z j = (c + (dg 1000000000 y j + a * dg 1000000000 b j)) % 1000000000 ∧ z / 1000000000 ^ (j + 1) = y / 1000000000 ^ (j + 1) + a * (b / 1000000000 ^ (j + 1)) + (c + (dg 1000000000 y j + a * dg 1000000000 b j)) / 1000000000 := by
  have e1 := dv_e 1000000000 z j
  have e2 := dv_e 1000000000 y j
  have e3 := dv_e 1000000000 b j
  have l1 := dg_lt (b := 1000000000) (by decide) z j
  have l2 := dg_lt (b := 1000000000) (by decide) y j
  rw [← e3, Nat.mul_add, Nat.mul_left_comm] at h
  generalize a * (b / 1000000000 ^ (j + 1)) = P at h ⊢
  generalize a * dg 1000000000 b j = K at h ⊢
  omega
theorem dg_sh (b v i s : Nat) : dg b v (i + s) = dg b (v / b ^ s) i := by
  unfold dg
  rw [Nat.div_div_eq_div_mul, ← Nat.pow_add, Nat.add_comm s i]
/-- places below s don't see what is added from s on -/
theorem dg_low {b v k s j : Nat} (hb : 0 < b) (h : j < s) : dg b (v + k * b ^ s) j = dg b v j := by
  unfold dg
  obtain ⟨d, rfl⟩ : ∃ d, s = j + (d + 1) := ⟨s - j - 1, by omega⟩
  rw [Nat.pow_add, ← Nat.mul_assoc, Nat.mul_right_comm, Nat.add_mul_div_right _ _ (Nat.pow_pos hb), Nat.pow_succ, ← Nat.mul_assoc, Nat.add_mul_mod_self_right]
theorem dv_up {b v k s : Nat} (hb : 0 < b) : (v + k * b ^ s) / b ^ s = v / b ^ s + k := Nat.add_mul_div_right _ _ (Nat.pow_pos hb)
theorem pr_le {a b : Nat} (ha : a < 1000000000) (hb : b < 1000000000) : a * b ≤ 999999998000000001 := by
  have h := Nat.mul_le_mul (show a ≤ 999999999 by omega) (show b ≤ 999999999 by omega)
  omega
/-! the guess at a quotient's place -/
/-- the two leading places of d, top the number of its highest one -/
theorem gu_E {D top : Nat} (h : D < 1000000000 ^ (top + 1)) : D * 1000000000 / 1000000000 ^ top = dg 1000000000 D top * 1000000000 + (if top = 0 then 0 else dg 1000000000 D (top - 1)) := by
  have hq : D / 1000000000 ^ top < 1000000000 := by
    rw [Nat.div_lt_iff_lt_mul (Nat.pow_pos (by decide)), Nat.mul_comm, ← Nat.pow_succ]
    exact h
  have h1 : dg 1000000000 D top = D / 1000000000 ^ top := Nat.mod_eq_of_lt hq
  rcases Nat.eq_zero_or_pos top with q | q
  · subst q
    rw [h1, if_pos rfl, Nat.pow_zero, Nat.div_one, Nat.div_one, Nat.add_zero]
  · obtain ⟨t, rfl⟩ : ∃ t, top = t + 1 := ⟨top - 1, by omega⟩
    rw [if_neg (by omega), Nat.add_sub_cancel, h1, Nat.pow_succ, Nat.mul_div_mul_right _ _ (by decide)]
    have := dv_e 1000000000 D t
    rw [Nat.pow_succ] at this
    omega
/-- the three places of T that stand over them -/
theorem gu_N {T s : Nat} (h : T < 1000000000 ^ (s + 2)) : T * 1000000000 / 1000000000 ^ s = dg 1000000000 T (s + 1) * 1000000000000000000 + dg 1000000000 T s * 1000000000 + (if s = 0 then 0 else dg 1000000000 T (s - 1)) := by
  have hq : T / 1000000000 ^ (s + 1) < 1000000000 := by
    rw [Nat.div_lt_iff_lt_mul (Nat.pow_pos (by decide)), Nat.mul_comm, ← Nat.pow_succ]
    exact h
  have h1 : dg 1000000000 T (s + 1) = T / 1000000000 ^ (s + 1) := Nat.mod_eq_of_lt hq
  have e1 := dv_e 1000000000 T s
  rcases Nat.eq_zero_or_pos s with q | q
  · subst q
    rw [if_pos rfl, Nat.pow_zero, Nat.div_one]
    rw [Nat.pow_zero, Nat.div_one] at e1
    rw [← h1] at e1
    omega
  · obtain ⟨t, rfl⟩ : ∃ t, s = t + 1 := ⟨s - 1, by omega⟩
    rw [if_neg (by omega), Nat.add_sub_cancel, Nat.pow_succ, Nat.mul_div_mul_right _ _ (by decide)]
    have e2 := dv_e 1000000000 T t
    rw [← h1] at e1
    omega
theorem gu_up {T D B s k E N sc g : Nat} (hB : 0 < B) (hsc : 0 < sc) (hE : E = D * B / B ^ k) (hN : N = T * B / B ^ (k + s)) (hg : g * (E / sc + 1) ≤ N / sc) : g * (D * B ^ s) ≤ T := by
  have h1 : E < (E / sc + 1) * sc := by
    have := Nat.lt_div_mul_add (a := E) hsc
    rw [Nat.add_mul]; omega
  have h2 : g * (E + 1) ≤ N := by
    refine Nat.le_trans (Nat.mul_le_mul_left g (Nat.succ_le_of_lt h1)) ?_
    rw [← Nat.mul_assoc]
    exact Nat.le_trans (Nat.mul_le_mul_right sc hg) (Nat.div_mul_le_self N sc)
  have hp : 0 < B ^ k := Nat.pow_pos hB
  have h3 : D * B ≤ (E + 1) * B ^ k := by
    have := Nat.lt_div_mul_add (a := D * B) hp
    rw [← hE] at this
    rw [Nat.add_mul]; omega
  have h4 : N * B ^ (k + s) ≤ T * B := by rw [hN]; exact Nat.div_mul_le_self _ _
  have h5 : g * (D * B ^ s) * B ≤ T * B := by
    refine Nat.le_trans ?_ h4
    rw [Nat.pow_add]
    calc g * (D * B ^ s) * B = g * ((D * B) * B ^ s) := by simp only [Nat.mul_assoc, Nat.mul_comm, Nat.mul_left_comm]
      _ ≤ g * (((E + 1) * B ^ k) * B ^ s) := Nat.mul_le_mul_left g (Nat.mul_le_mul_right _ h3)
      _ = (g * (E + 1)) * (B ^ k * B ^ s) := by simp only [Nat.mul_assoc]
      _ ≤ N * (B ^ k * B ^ s) := Nat.mul_le_mul_right _ h2
  exact Nat.le_of_mul_le_mul_right h5 hB
theorem gu_lo {T D B s k E N sc q : Nat} (hB : 0 < B) (hsc : 0 < sc) (hE : E = D * B / B ^ k) (hN : N = T * B / B ^ (k + s)) (hq : q * (D * B ^ s) ≤ T) : q * (E / sc) ≤ N / sc := by
  have hp : 0 < B ^ (k + s) := Nat.pow_pos hB
  have h1 : E * B ^ k ≤ D * B := by rw [hE]; exact Nat.div_mul_le_self _ _
  have h2 : q * E * B ^ (k + s) ≤ T * B := by
    rw [Nat.pow_add]
    calc q * E * (B ^ k * B ^ s) = q * ((E * B ^ k) * B ^ s) := by simp only [Nat.mul_assoc]
      _ ≤ q * ((D * B) * B ^ s) := Nat.mul_le_mul_left q (Nat.mul_le_mul_right _ h1)
      _ = q * (D * B ^ s) * B := by simp only [Nat.mul_assoc, Nat.mul_comm, Nat.mul_left_comm]
      _ ≤ T * B := Nat.mul_le_mul_right _ hq
  have h3 : q * E ≤ N := by rw [hN]; exact (Nat.le_div_iff_mul_le hp).mpr h2
  refine (Nat.le_div_iff_mul_le hsc).mpr ?_
  rw [Nat.mul_assoc]
  exact Nat.le_trans (Nat.mul_le_mul_left q (Nat.div_mul_le_self E sc)) h3
theorem gu_near {q e n g : Nat} (hq : q < 1000000000) (he : 100000000 ≤ e) (h : q * e ≤ n) (hg : g = n / (e + 1)) : q ≤ g + 10 := by
  rw [hg]
  have h1 : (q - 10) * (e + 1) ≤ n := by
    refine Nat.le_trans ?_ h
    rcases Nat.lt_or_ge q 10 with z | z
    · rw [show q - 10 = 0 by omega, Nat.zero_mul]; exact Nat.zero_le _
    · obtain ⟨r, rfl⟩ : ∃ r, q = r + 10 := ⟨q - 10, by omega⟩
      rw [Nat.add_sub_cancel, Nat.mul_add, Nat.add_mul]
      omega
  have h2 := (Nat.le_div_iff_mul_le (show 0 < e + 1 by omega)).mpr h1
  omega
/-! the greatest common divisor by remainders: how many steps -/
def gJ (b s i n : Nat) : Prop := (s < 2 ^ n ∧ i + 2 * n ≤ 730) ∨ (s < b ∧ b < 2 ^ n ∧ i + 2 * n ≤ 731)
theorem gJ_step {b s i n : Nat} (h : gJ b s i n) (hs : 0 < s) : ∃ n', gJ s (b % s) (i + 1) n' := by
  have hm := Nat.mod_lt b hs
  rcases h with ⟨h1, h2⟩ | ⟨h1, h2, h3⟩
  · exact ⟨n, Or.inr ⟨hm, h1, by omega⟩⟩
  · obtain ⟨k, rfl⟩ : ∃ k, n = k + 1 := by
      rcases n with _ | k
      · rw [Nat.pow_zero] at h2; omega
      · exact ⟨k, rfl⟩
    refine ⟨k, Or.inl ⟨?_, by omega⟩⟩
    have h4 : b % s + s ≤ b := by
      have e := Nat.div_add_mod b s
      have h5 : 1 ≤ b / s := (Nat.le_div_iff_mul_le hs).mpr (by omega)
      have h6 := Nat.mul_le_mul_left s h5
      omega
    rw [Nat.pow_succ] at h2
    omega
theorem gJ_0 {b s n : Nat} (h : s < 2 ^ n) (hn : n ≤ 365) : gJ b s 0 n := Or.inl ⟨h, by omega⟩
theorem gJ_i {b s i n : Nat} (h : gJ b s i n) : i ≤ 731 := by
  rcases h with ⟨_, h2⟩ | ⟨_, _, h3⟩ <;> omega
/-! division, place by place -/
theorem dv_dig {T D B s : Nat} : T % (D * B ^ (s + 1)) / (D * B ^ s) = dg B (T / D) s := by
  rw [Nat.pow_succ, ← Nat.mul_assoc, Nat.mod_mul_right_div_self, ← Nat.div_div_eq_div_mul]
  rfl
theorem dv_rem {T D B s : Nat} : T % (D * B ^ (s + 1)) % (D * B ^ s) = T % (D * B ^ s) :=
  Nat.mod_mod_of_dvd _ ⟨B, by rw [Nat.pow_succ, Nat.mul_assoc]⟩
theorem ul_eq {b v n N : Nat} (hb : 0 < b) (h1 : v < b ^ n) (h2 : 0 < n → b ^ (n - 1) ≤ v) (hN : n ≤ N) : ul (dg b v) N = n := by
  have hl := ul_lt (b := b) (v := v) hb N (Nat.lt_of_lt_of_le h1 (pw_le hb hN))
  have hle := ul_le (dg b v) N
  rcases Nat.lt_trichotomy (ul (dg b v) N) n with q | q | q
  · have h3 := h2 (by omega)
    have h4 := pw_le (b := b) hb (show ul (dg b v) N ≤ n - 1 by omega)
    omega
  · exact q
  · have h3 := ul_ge (b := b) (v := v) (n := N) (by omega)
    have h4 := pw_le (b := b) hb (show n ≤ ul (dg b v) N - 1 by omega)
    omega
/-- how many decimal digits, 0 has one -/
def nd (v : Nat) : Nat := if v = 0 then 1 else ul (dg 10 v) 108
/-- a place that may lie beside the row -/
def lbI (v : Nat) (i : Int) : Nat := if 0 ≤ i then dg 1000000000 v i.toNat else 0
theorem lbI_in {v : Nat} {i : Int} (h : 0 ≤ i) : lbI v i = dg 1000000000 v i.toNat := if_pos h
theorem lbI_out {v : Nat} {i : Int} (hv : v < 1000000000 ^ 12) (h : i < 0 ∨ 12 ≤ i) : lbI v i = 0 := by
  unfold lbI
  split
  · exact dg_hi (by decide) hv (by omega)
  · rfl
theorem lbI_lt (v : Nat) (i : Int) : lbI v i < 1000000000 := by
  unfold lbI
  split
  · exact dg_lt (by decide) _ _
  · decide
theorem wa0 (j : Nat) : wa 0 j = zI 0 := by unfold wa; rw [dg_zero]; rfl
theorem ul_top {b v t N : Nat} (hb : 0 < b) (hv : v < b ^ t) (ht : t ≤ N) : ul (dg b v) N = ul (dg b v) t := by
  obtain ⟨d, rfl⟩ : ∃ d, N = t + d := ⟨N - t, by omega⟩
  clear ht
  induction d with
  | zero => rfl
  | succ d ih => rw [← Nat.add_assoc, ul_s (dg_hi hb hv (by omega)), ih]
theorem ul_pr {f : Nat → Nat} {n : Nat} (h0 : 0 < n) (h : f (n - 1) = 0) : ul f n = ul f (n - 1) := by
  obtain ⟨k, rfl⟩ : ∃ k, n = k + 1 := ⟨n - 1, by omega⟩
  exact ul_s h
theorem zI_c {a b : Int} (h : a = b) : zI a = zI b := h ▸ rfl
theorem zL_c {a b : Int} (h : a = b) : zL a = zL b := h ▸ rfl
theorem lbI_e {v : Nat} {i : Int} (k : Nat) (h : i = (k : Int)) : lbI v i = dg 1000000000 v k := by
  subst h
  rw [lbI_in (by omega), Int.toNat_natCast]
theorem us_1 : us 1 = 1 := by decide +kernel
theorem dg_z (b v : Nat) : dg b v 0 = v % b := by unfold dg; rw [Nat.pow_zero, Nat.div_one]
theorem one_iff {v : Nat} (hv : v < 1000000000 ^ 12) (h1 : us v = 1) (h2 : dg 1000000000 v 0 = 1) : v = 1 := by
  have h := us_lt hv
  rw [h1, Nat.pow_one] at h
  rw [dg_z] at h2
  omega
theorem long_eq {v : Nat} (hv : v < 1000000000 ^ 2) : v = dg 1000000000 v 1 * 1000000000 + dg 1000000000 v 0 := by
  unfold dg
  rw [Nat.pow_zero, Nat.pow_one, Nat.div_one]
  have : (1000000000 : Nat) ^ 2 = 1000000000000000000 := by decide
  omega
theorem mx_s {α : Type} {f g : Nat → α} {n : Nat} (h : ∀ j, j < n → f j = g j) : mx f g n = g := by
  funext j; unfold mx
  rcases Nat.lt_or_ge j n with q | q
  · rw [if_pos q, h j q]
  · rw [if_neg (by omega)]
theorem dg_hiE {b a c n j : Nat} (h : a / b ^ n = c / b ^ n) (hj : n ≤ j) : dg b a j = dg b c j := by
  obtain ⟨d, rfl⟩ : ∃ d, j = d + n := ⟨j - n, by omega⟩
  rw [dg_sh, dg_sh, h]
theorem wa_e {a c j : Nat} (h : dg 1000000000 a j = dg 1000000000 c j) : wa a j = wa c j := by unfold wa; rw [h]
theorem wa_2 {a c : Nat} (ha : a < 1000000000 ^ 12) (hc : c < 1000000000 ^ 12) : ∀ j, 12 ≤ j → wa a j = wa c j := fun j hj => by rw [wa_hi ha hj, wa_hi hc hj]
/-- -1, 0, 1 -/
def cmpN (a b : Nat) : Int := if a < b then -1 else if b < a then 1 else 0
theorem cmpN_lt {a b : Nat} (h : a < b) : cmpN a b = -1 := if_pos h
theorem cmpN_gt {a b : Nat} (h : b < a) : cmpN a b = 1 := by unfold cmpN; rw [if_neg (by omega), if_pos h]
theorem cmpN_eq {a b : Nat} (h : a = b) : cmpN a b = 0 := by unfold cmpN; rw [if_neg (by omega), if_neg (by omega)]
theorem cmpN_r (a b : Nat) : -1 ≤ cmpN a b ∧ cmpN a b ≤ 1 := by unfold cmpN; split <;> (try split) <;> omega
theorem cmp_ul {t o sh : Nat} (ht : t < 1000000000 ^ 12) (hnz : 0 < o ∨ sh = 0) (h : us t < us o + sh) : t / 1000000000 ^ sh < o := by
  have h1 := us_lt ht
  rw [Nat.div_lt_iff_lt_mul (Nat.pow_pos (by decide))]
  rcases Nat.eq_zero_or_pos (us o) with q | q
  · rcases hnz with z | z
    · have h2 : 1000000000 ^ 12 ≤ o := by
        rcases Nat.lt_or_ge o (1000000000 ^ 12) with y | y
        · have := (us_0 y).mp q; omega
        · exact y
      have h3 : 0 < 1000000000 ^ sh := Nat.pow_pos (by decide)
      calc t < 1000000000 ^ 12 := ht
        _ ≤ o := h2
        _ ≤ o * 1000000000 ^ sh := Nat.le_mul_of_pos_right _ h3
    · omega
  · have h2 := us_ge q
    have h3 : 1000000000 ^ us t ≤ 1000000000 ^ (us o - 1 + sh) := pw_le (by decide) (by omega)
    rw [Nat.pow_add] at h3
    have h4 := Nat.mul_le_mul_right (1000000000 ^ sh) h2
    omega
theorem cmp_ug {t o sh : Nat} (ho : o < 1000000000 ^ 12) (h : us o + sh < us t) : o < t / 1000000000 ^ sh := by
  have h1 := us_lt ho
  have h2 := us_ge (v := t) (by omega)
  have h3 : 1000000000 ^ (us o + sh) ≤ 1000000000 ^ (us t - 1) := pw_le (by decide) (by omega)
  rw [Nat.pow_add] at h3
  have h4 : 1000000000 ^ us o ≤ t / 1000000000 ^ sh := (Nat.le_div_iff_mul_le (Nat.pow_pos (by decide))).mpr (by omega)
  omega
theorem cmp_dg {a c n : Nat} (hn : 0 < n) (h : a / 1000000000 ^ n = c / 1000000000 ^ n) (hd : dg 1000000000 a (n - 1) < dg 1000000000 c (n - 1)) : a < c := by
  obtain ⟨k, rfl⟩ : ∃ k, n = k + 1 := ⟨n - 1, by omega⟩
  rw [Nat.add_sub_cancel] at hd
  have e1 := dv_e 1000000000 a k
  have e2 := dv_e 1000000000 c k
  have h2 : a / 1000000000 ^ k < c / 1000000000 ^ k := by omega
  rcases Nat.lt_or_ge a c with q | q
  · exact q
  · have := Nat.div_le_div_right (c := 1000000000 ^ k) q
    omega
theorem cmp_dn {a c n : Nat} (hn : 0 < n) (h : a / 1000000000 ^ n = c / 1000000000 ^ n) (hd : dg 1000000000 a (n - 1) = dg 1000000000 c (n - 1)) : a / 1000000000 ^ (n - 1) = c / 1000000000 ^ (n - 1) := by
  obtain ⟨k, rfl⟩ : ∃ k, n = k + 1 := ⟨n - 1, by omega⟩
  rw [Nat.add_sub_cancel] at hd ⊢
  have e1 := dv_e 1000000000 a k
  have e2 := dv_e 1000000000 c k
  omega
theorem dg_sh' (b v s i : Nat) : dg b v (s + i) = dg b (v / b ^ s) i := by rw [Nat.add_comm, dg_sh]
theorem dv_dv (b v s i : Nat) : v / b ^ s / b ^ i = v / b ^ (s + i) := by rw [Nat.div_div_eq_div_mul, ← Nat.pow_add]
theorem md_s (b x i : Nat) : x % b ^ (i + 1) = x % b ^ i + dg b x i * b ^ i := by
  rw [Nat.pow_succ, Nat.mod_mul]
  unfold dg
  rw [Nat.mul_comm]
theorem md_y (b x y i : Nat) : x % b ^ (i + 1) * y = x % b ^ i * y + dg b x i * y * b ^ i := by
  rw [md_s, Nat.add_mul, Nat.mul_right_comm]
theorem md_le {b x y i n : Nat} (h : x * y < n) : x % b ^ i * y < n := Nat.lt_of_le_of_lt (Nat.mul_le_mul_right y (Nat.mod_le x _)) h
theorem md_top {x : Nat} (hx : x < 1000000000 ^ 12) {i : Nat} (h : us x ≤ i) : x % 1000000000 ^ i = x := Nat.mod_eq_of_lt (Nat.lt_of_lt_of_le (us_lt hx) (pw_le (by decide) h))
/-- a decimal digit, by the limb that holds it -/
theorem dec_dig (v i : Nat) : dg 1000000000 v (i / 9) / 10 ^ (i % 9) % 10 = dg 10 v i := by
  have h9 : (10 : Nat) ^ i = 1000000000 ^ (i / 9) * 10 ^ (i % 9) := by
    rw [show (1000000000 : Nat) = 10 ^ 9 by decide, ← Nat.pow_mul, ← Nat.pow_add, Nat.div_add_mod]
  unfold dg
  rw [h9, ← Nat.div_div_eq_div_mul]
  generalize v / 1000000000 ^ (i / 9) = x
  have hr : i % 9 < 9 := Nat.mod_lt _ (by decide)
  generalize i % 9 = r at hr
  rcases (show r = 0 ∨ r = 1 ∨ r = 2 ∨ r = 3 ∨ r = 4 ∨ r = 5 ∨ r = 6 ∨ r = 7 ∨ r = 8 by omega) with h | h | h | h | h | h | h | h | h <;> subst h <;> simp only [Nat.pow_zero, Nat.reducePow] <;> omega
theorem abs_lt {n : Int} (h : -9223372036854775808 ≤ n ∧ n < 9223372036854775808) : n.natAbs < 1000000000 ^ 12 := by
  have h2 : (9223372036854775808 : Nat) < 1000000000 ^ 12 := by decide
  omega
