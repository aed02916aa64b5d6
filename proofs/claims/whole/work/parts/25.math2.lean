/-! fractions, the shelf -/
theorem nd_48 {v : Nat} (hv : v < 1000000000 ^ 12) : 48 < nd v ↔ 10 ^ 48 ≤ v := by
  unfold nd
  have h108 : (1000000000 : Nat) ^ 12 = 10 ^ 108 := by decide
  rw [h108] at hv
  split
  · rename_i h
    subst h
    have : (0 : Nat) < 10 ^ 48 := by decide
    omega
  · constructor
    · intro h
      exact Nat.le_trans (pw_le (b := 10) (by decide) (show 48 ≤ ul (dg 10 v) 108 - 1 by omega)) (ul_ge (by omega))
    · intro h
      have h2 := ul_lt (b := 10) (v := v) (by decide) 108 hv
      rcases Nat.lt_or_ge 48 (ul (dg 10 v) 108) with z | z
      · exact z
      · have := pw_le (b := 10) (by decide) z
        omega
theorem nd_r {v : Nat} (hv : v < 1000000000 ^ 12) : 1 ≤ nd v ∧ nd v ≤ 108 := by
  unfold nd
  have h108 : (1000000000 : Nat) ^ 12 = 10 ^ 108 := by decide
  rw [h108] at hv
  split
  · omega
  · rename_i h
    have h1 := ul_le (dg 10 v) 108
    have h2 := ul_0 (b := 10) (v := v) (n := 108) (by decide) hv
    omega
def cmpZ (a b : Int) : Int := if a < b then -1 else if b < a then 1 else 0
theorem cmpZ_r (a b : Int) : -1 ≤ cmpZ a b ∧ cmpZ a b ≤ 1 := by unfold cmpZ; split <;> (try split) <;> omega
/-- a row of numbers of six limbs each -/
def shA (nn : Nat → Nat) : Nat → Int32 := fun i => zI ((dg 1000000000 (nn (i / 6)) (i % 6) : Nat) : Int)
def sgA (sg : Nat → Int) : Nat → Int32 := fun i => zI (sg i)
def un (nn : Nat → Nat) (k v : Nat) : Nat → Nat := fun j => if j = k then v else nn j
def uz (sg : Nat → Int) (k : Nat) (v : Int) : Nat → Int := fun j => if j = k then v else sg j
theorem un_s (nn : Nat → Nat) (k v : Nat) : un nn k v k = v := if_pos rfl
theorem un_n {nn : Nat → Nat} {k v j : Nat} (h : j ≠ k) : un nn k v j = nn j := if_neg h
theorem uz_s (sg : Nat → Int) (k : Nat) (v : Int) : uz sg k v k = v := if_pos rfl
theorem uz_n {sg : Nat → Int} {k j : Nat} {v : Int} (h : j ≠ k) : uz sg k v j = sg j := if_neg h
theorem shA_at (nn : Nat → Nat) {k i : Nat} (h : i < 6) : shA nn (6 * k + i) = zI ((dg 1000000000 (nn k) i : Nat) : Int) := by
  unfold shA
  rw [show (6 * k + i) / 6 = k by omega, show (6 * k + i) % 6 = i by omega]
/-- the shelf's row while number k is laid, i limbs of it -/
def shM (nn : Nat → Nat) (k v i : Nat) : Nat → Int32 := fun j => if 6 * k ≤ j ∧ j < 6 * k + i then zI ((dg 1000000000 v (j - 6 * k) : Nat) : Int) else shA nn j
theorem shM_0 (nn : Nat → Nat) (k v : Nat) : shM nn k v 0 = shA nn := by
  funext j; unfold shM; rw [if_neg (by omega)]
theorem shM_s {nn : Nat → Nat} {k v i : Nat} {x : Int32} (h : x = zI ((dg 1000000000 v i : Nat) : Int)) : upd (shM nn k v i) (6 * k + i) x = shM nn k v (i + 1) := by
  funext j; unfold upd shM
  by_cases q : j = 6 * k + i
  · rw [if_pos q, if_pos (by omega), h, q, show 6 * k + i - 6 * k = i by omega]
  · rw [if_neg q]
    by_cases q2 : 6 * k ≤ j ∧ j < 6 * k + i
    · rw [if_pos q2, if_pos (by omega)]
    · rw [if_neg q2, if_neg (by omega)]
theorem shM_6 (nn : Nat → Nat) (k v : Nat) : shM nn k v 6 = shA (un nn k v) := by
  funext j; unfold shM shA un
  by_cases q : 6 * k ≤ j ∧ j < 6 * k + 6
  · rw [if_pos q, if_pos (by omega), show j - 6 * k = j % 6 by omega]
  · rw [if_neg q, if_neg (by omega)]
theorem sgA_u {sg : Nat → Int} {k : Nat} {x : Int32} {v : Int} (h : x = zI v) : upd (sgA sg) k x = sgA (uz sg k v) := by
  funext j; unfold upd sgA uz
  by_cases q : j = k
  · rw [if_pos q, if_pos q, h]
  · rw [if_neg q, if_neg q]
theorem wa6 {v : Nat} (hv : v < 1000000000 ^ 6) : ∀ j, 6 ≤ j → wa v j = wa 0 j := fun j hj => wa_e (by rw [dg_hi (by decide) hv hj, dg_zero])
theorem b612 {v : Nat} (hv : v < 1000000000 ^ 6) : v < 1000000000 ^ 12 := Nat.lt_of_lt_of_le hv (by decide)
theorem b4812 {v : Nat} (hv : v < 10 ^ 48) : v < 1000000000 ^ 12 := Nat.lt_of_lt_of_le hv (by decide)
theorem b486 {v : Nat} (hv : v < 10 ^ 48) : v < 1000000000 ^ 6 := Nat.lt_of_lt_of_le hv (by decide)
theorem mul96 {x y : Nat} (hx : x < 10 ^ 48) (hy : y < 10 ^ 48) : x * y < 10 ^ 96 := by
  rcases Nat.eq_zero_or_pos y with z | z
  · rw [z, Nat.mul_zero]; decide
  · have h1 := Nat.mul_lt_mul_of_pos_right hx z
    have h2 := Nat.mul_le_mul_left (10 ^ 48) (Nat.le_of_lt hy)
    have h3 : (10 : Nat) ^ 48 * 10 ^ 48 = 10 ^ 96 := by decide
    omega
theorem b9612 {v : Nat} (hv : v < 2 * 10 ^ 96) : v < 1000000000 ^ 12 := Nat.lt_of_lt_of_le hv (by decide)
theorem gcd_st (x y : Nat) : Nat.gcd y (x % y) = Nat.gcd x y := by rw [Nat.gcd_comm, ← Nat.gcd_rec, Nat.gcd_comm]
theorem us_2 {y : Nat} (hy : y < 1000000000 ^ 12) (h : us y ≤ 2) : y < 1000000000 ^ 2 := Nat.lt_of_lt_of_le (us_lt hy) (pw_le (by decide) h)
theorem gcd_l {a b : Nat} (h : 0 < a) : Nat.gcd a b ≤ a := Nat.le_of_dvd h (Nat.gcd_dvd_left a b)
/-- a sum with signs: its sign, its size -/
def suS (x y : Int) (P Q : Nat) : Int := if 0 ≤ x * y then (if x = 0 then y else x) else x * cmpN P Q
def suN (x y : Int) (P Q : Nat) : Nat := if 0 ≤ x * y then P + Q else if Q ≤ P then P - Q else Q - P
theorem sg_mul {x y : Int} (hx : -1 ≤ x ∧ x ≤ 1) (hy : -1 ≤ y ∧ y ≤ 1) : -1 ≤ x * y ∧ x * y ≤ 1 := by
  rcases (show x = -1 ∨ x = 0 ∨ x = 1 by omega) with h | h | h <;> subst h <;> omega
theorem suS_r {x y : Int} {P Q : Nat} (hx : -1 ≤ x ∧ x ≤ 1) (hy : -1 ≤ y ∧ y ≤ 1) : -1 ≤ suS x y P Q ∧ suS x y P Q ≤ 1 := by
  unfold suS
  split
  · split <;> omega
  · exact sg_mul hx (cmpN_r P Q)
theorem suN_le {x y : Int} {P Q N : Nat} (h : P + Q < N) : suN x y P Q < N := by
  unfold suN
  split
  · exact h
  · split <;> omega
theorem cmpZ_neg (a : Int) : -cmpZ a 0 = cmpZ (-a) 0 := by unfold cmpZ; split <;> (try split) <;> (try split) <;> (try split) <;> omega
theorem suS_0 {x y : Int} {P Q : Nat} (h : 0 ≤ x * y) (hx : x = 0) : suS x y P Q = y := by unfold suS; rw [if_pos h, if_pos hx]
theorem suS_1 {x y : Int} {P Q : Nat} (h : 0 ≤ x * y) (hx : ¬ x = 0) : suS x y P Q = x := by unfold suS; rw [if_pos h, if_neg hx]
theorem suS_n {x y : Int} {P Q : Nat} (h : x * y < 0) : suS x y P Q = x * cmpN P Q := by unfold suS; rw [if_neg (by omega)]
theorem suN_p {x y : Int} {P Q : Nat} (h : 0 ≤ x * y) : suN x y P Q = P + Q := by unfold suN; rw [if_pos h]
theorem suN_1 {x y : Int} {P Q : Nat} (h : x * y < 0) (hq : Q ≤ P) : suN x y P Q = P - Q := by unfold suN; rw [if_neg (by omega), if_pos hq]
theorem suN_2 {x y : Int} {P Q : Nat} (h : x * y < 0) (hq : P < Q) : suN x y P Q = Q - P := by unfold suN; rw [if_neg (by omega), if_neg (by omega)]
/-- whether a remainder r of z goes from 0 -/
def nfz (r z : Nat) (sg ru od : Int) : Int := if z - r < r then 1 else if r < z - r then 0 else if ru = 5 then od else if ru = 4 then b2 (0 < sg) else b2 (sg < 0)
def gfz (r z : Nat) (sg ru od : Int) : Int := if ru = 0 then b2 (sg < 0) else if ru = 1 then b2 (0 < sg) else if ru = 2 then 0 else if ru = 3 then 1 else nfz r z sg ru od
theorem nfz_r {r z : Nat} {sg ru od : Int} (ho : 0 ≤ od ∧ od ≤ 1) : 0 ≤ nfz r z sg ru od ∧ nfz r z sg ru od ≤ 1 := by
  unfold nfz
  split
  · omega
  · split
    · omega
    · split
      · exact ho
      · split <;> exact b2_r _
theorem gfz_r {r z : Nat} {sg ru od : Int} (ho : 0 ≤ od ∧ od ≤ 1) : 0 ≤ gfz r z sg ru od ∧ gfz r z sg ru od ≤ 1 := by
  unfold gfz
  split
  · exact b2_r _
  · split
    · exact b2_r _
    · split
      · omega
      · split
        · omega
        · exact nfz_r ho
theorem zI_01 {a : Int} (h : 0 ≤ a ∧ a ≤ 1) : zI a = 0 ∨ zI a = 1 := by
  rcases (show a = 0 ∨ a = 1 by omega) with h | h <;> subst h
  · exact Or.inl rfl
  · exact Or.inr rfl
def rndN (x z : Nat) (sg ru : Int) (u : Nat) : Nat := if x * u % z = 0 then x * u / z else if gfz (x * u % z) z sg ru (b2 (x * u / z % 2 = 1)) = 0 then x * u / z else x * u / z + 1
def rndS (x z : Nat) (sg ru : Int) (u : Nat) : Int := if rndN x z sg ru u = 0 then 0 else sg
theorem rndN_le {x z : Nat} {sg ru : Int} {u : Nat} : rndN x z sg ru u ≤ x * u / z + 1 := by
  unfold rndN
  split
  · omega
  · split <;> omega
/-- a fraction's whole part downward, and what is left over z -/
def spA (x z : Nat) (sg : Int) : Nat := if sg < 0 ∧ ¬ x % z = 0 then x / z + 1 else x / z
def spR (x z : Nat) (sg : Int) : Nat := if sg < 0 ∧ ¬ x % z = 0 then z - x % z else x % z
def zs (n : Nat) (sg : Int) : Int := if n = 0 then 0 else sg
theorem zs_r {n : Nat} {sg : Int} (h : -1 ≤ sg ∧ sg ≤ 1) : -1 ≤ zs n sg ∧ zs n sg ≤ 1 := by unfold zs; split <;> omega
theorem cmpN_pos {a b : Nat} (h : 0 < cmpN a b) : b < a := by
  unfold cmpN at h
  split at h
  · omega
  · split at h <;> omega
theorem cmpN_z {a b : Nat} (h : cmpN a b = 0) : a = b := by
  unfold cmpN at h
  split at h
  · omega
  · split at h <;> omega
