/-! the class's state in numbers -/
def okV (s : Int) (x z : Nat) : Prop := -1 ≤ s ∧ s ≤ 1 ∧ x < 10 ^ 48 ∧ 0 < z ∧ z < 10 ^ 48 ∧ (s = 0 ↔ x = 0)
def okVs (sg : Nat → Int) (nn : Nat → Nat) (n : Nat) : Prop := ∀ i, i < n → okV (sg i) (nn (2 * i)) (nn (2 * i + 1))
theorem okV_6 {s : Int} {x z : Nat} (h : okV s x z) : x < 1000000000 ^ 6 ∧ z < 1000000000 ^ 6 := ⟨b486 h.2.2.1, b486 h.2.2.2.2.1⟩
theorem okV_12 {s : Int} {x z : Nat} (h : okV s x z) : x < 1000000000 ^ 12 ∧ z < 1000000000 ^ 12 := ⟨b4812 h.2.2.1, b4812 h.2.2.2.2.1⟩
def eA (f : Nat → Nat) : Nat → Int32 := fun i => zI ((f i : Nat) : Int)
def wA (f : Nat → Nat) : Nat → Int64 := fun i => zL ((f i : Nat) : Int)
theorem eA_u {f : Nat → Nat} {k v : Nat} {x : Int32} (h : x = zI ((v : Nat) : Int)) : upd (eA f) k x = eA (un f k v) := by
  funext j; unfold upd eA un
  by_cases q : j = k
  · rw [if_pos q, if_pos q, h]
  · rw [if_neg q, if_neg q]
theorem wA_u {f : Nat → Nat} {k v : Nat} {x : Int64} (h : x = zL ((v : Nat) : Int)) : vp_updL (wA f) k x = wA (un f k v) := by
  funext j; unfold vp_updL wA un
  by_cases q : j = k
  · rw [if_pos q, if_pos q, h]
  · rw [if_neg q, if_neg q]
/-! a number is kept as value n, unless it is too long -/
def kpR (n x z : Nat) : Int := if x < 10 ^ 48 ∧ z < 10 ^ 48 then (n : Int) else -1
def kpC (n x z : Nat) : Nat := if x < 10 ^ 48 ∧ z < 10 ^ 48 then n + 1 else n
def kpN (nn : Nat → Nat) (n x z : Nat) : Nat → Nat := if x < 10 ^ 48 ∧ z < 10 ^ 48 then un (un nn (2 * n) x) (2 * n + 1) z else nn
def kpS (sg : Nat → Int) (n : Nat) (s : Int) (x z : Nat) : Nat → Int := if x < 10 ^ 48 ∧ z < 10 ^ 48 then uz sg n s else sg
def lwX (N D : Nat) : Nat := N / Nat.gcd D N
def lwZ (N D : Nat) : Nat := D / Nat.gcd D N
theorem lw_le (N D : Nat) : lwX N D ≤ N ∧ lwZ N D ≤ D := ⟨Nat.div_le_self _ _, Nat.div_le_self _ _⟩
theorem lwZ_pos {N D : Nat} (h : 0 < D) : 0 < lwZ N D := Nat.div_pos (gcd_l h) (Nat.gcd_pos_of_pos_left _ h)
theorem suS_rr {x y : Int} {P Q : Nat} (h1 : -1 ≤ x) (h2 : x ≤ 1) (h3 : -1 ≤ y) (h4 : y ≤ 1) : -1 ≤ suS x y P Q ∧ suS x y P Q ≤ 1 := suS_r ⟨h1, h2⟩ ⟨h3, h4⟩
theorem spA_le (x z : Nat) (sg : Int) : spA x z sg ≤ x + 1 := by
  have := Nat.div_le_self x z
  unfold spA; split <;> omega
theorem spR_le {x z : Nat} {sg : Int} (h : 0 < z) : spR x z sg ≤ z := by
  have := Nat.mod_lt x h
  unfold spR; split <;> omega
/-! weights and shares -/
def smW (f : Nat → Nat) : Nat → Nat
  | 0 => 0
  | n + 1 => smW f n + f n
def lfW (f : Nat → Nat) (wh su : Nat) : Nat → Int
  | 0 => (wh : Int)
  | n + 1 => lfW f wh su n - ((wh * f n / su : Nat) : Int)
def bfW (f : Nat → Nat) (wh su ow kx : Nat) : Nat → Nat
  | 0 => 0
  | n + 1 => bfW f wh su ow kx n + (if ow < wh * f n % su ∨ (wh * f n % su = ow ∧ n < kx) then 1 else 0)
theorem smW_b {f : Nat → Nat} {N : Nat} (h : ∀ i, i < N → f i ≤ 1000000000) : ∀ n, n ≤ N → smW f n ≤ n * 1000000000
  | 0, _ => Nat.le_refl _
  | n + 1, hn => by
    have h1 := smW_b h n (by omega)
    have h2 := h n (by omega)
    show smW f n + f n ≤ _
    omega
theorem smW_g {f : Nat → Nat} : ∀ {n i : Nat}, i < n → f i ≤ smW f n
  | 0, i, h => absurd h (Nat.not_lt_zero i)
  | n + 1, i, h => by
    show f i ≤ smW f n + f n
    rcases Nat.lt_or_ge i n with q | q
    · have := smW_g (f := f) q; omega
    · have e : i = n := by omega
      rw [e]; omega
theorem shq {f wh su : Nat} (h : f ≤ su) (hs : 0 < su) : wh * f / su ≤ wh := by
  have h1 := Nat.mul_le_mul_left wh h
  have h2 := Nat.div_le_div_right (c := su) h1
  rw [Nat.mul_div_cancel _ hs] at h2
  exact h2
theorem lfW_r {f : Nat → Nat} {wh su N : Nat} (hs : 0 < su) (h : ∀ i, i < N → f i ≤ su) : ∀ n, n ≤ N → (wh : Int) - (n * wh : Nat) ≤ lfW f wh su n ∧ lfW f wh su n ≤ (wh : Int)
  | 0, _ => by
    show (wh : Int) - ((0 * wh : Nat) : Int) ≤ (wh : Int) ∧ (wh : Int) ≤ (wh : Int)
    rw [Nat.zero_mul]; omega
  | n + 1, hn => by
    have h1 := lfW_r (wh := wh) hs h n (by omega)
    have h2 := shq (wh := wh) (h n (by omega)) hs
    show _ ≤ lfW f wh su n - ((wh * f n / su : Nat) : Int) ∧ lfW f wh su n - ((wh * f n / su : Nat) : Int) ≤ _
    rw [Nat.succ_mul]
    generalize wh * f n / su = z at h2 ⊢
    omega
theorem bfW_le {f : Nat → Nat} {wh su ow kx : Nat} : ∀ n, bfW f wh su ow kx n ≤ n
  | 0 => Nat.le_refl _
  | n + 1 => by
    have := bfW_le (f := f) (wh := wh) (su := su) (ow := ow) (kx := kx) n
    show bfW f wh su ow kx n + (if _ then 1 else 0) ≤ n + 1
    split <;> omega
theorem w18 {a b : Nat} (ha : a ≤ 1000000000) (hb : b ≤ 1000000000) : a * b ≤ 1000000000000000000 := Nat.mul_le_mul ha hb
