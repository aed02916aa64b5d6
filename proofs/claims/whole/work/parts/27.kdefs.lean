/-! the class's state in numbers -/
def okV (s : Int) (x z : Nat) : Prop := -1 ≤ s ∧ s ≤ 1 ∧ x < 10 ^ 48 ∧ 0 < z ∧ z < 10 ^ 48 ∧ (s = 0 ↔ x = 0)
def okVs (sg : Nat → Int) (nn : Nat → Nat) (n : Nat) : Prop := ∀ i, i < n → okV (sg i) (nn (2 * i)) (nn (2 * i + 1))
theorem okV_6 {s : Int} {x z : Nat} (h : okV s x z) : x < 1000000000 ^ 6 ∧ z < 1000000000 ^ 6 := ⟨b486 h.2.2.1, b486 h.2.2.2.2.1⟩
theorem okV_12 {s : Int} {x z : Nat} (h : okV s x z) : x < 1000000000 ^ 12 ∧ z < 1000000000 ^ 12 := ⟨b4812 h.2.2.1, b4812 h.2.2.2.2.1⟩
def eA (f : Nat → Nat) : Nat → Int32 := fun i => zI ((f i : Nat) : Int)
def wA (f : Nat → Nat) : Nat → Int64 := fun i => zL ((f i : Nat) : Int)
theorem eA_u {f : Nat → Nat} {k v : Nat} {x : Int32} (h : x = zI ((v : Nat) : Int)) : upd (eA f) k x = eA (un f k v) := by
  funext j; unfold upd eA un
  by_cases q : j = k
  · rw [if_pos q, if_pos q, h]
  · rw [if_neg q, if_neg q]
theorem wA_u {f : Nat → Nat} {k v : Nat} {x : Int64} (h : x = zL ((v : Nat) : Int)) : vp_updL (wA f) k x = wA (un f k v) := by
  funext j; unfold vp_updL wA un
  by_cases q : j = k
  · rw [if_pos q, if_pos q, h]
  · rw [if_neg q, if_neg q]
/-! a number is kept as value n, unless it is too long -/
def kpR (n x z : Nat) : Int := if x < 10 ^ 48 ∧ z < 10 ^ 48 then (n : Int) else -1
def kpC (n x z : Nat) : Nat := if x < 10 ^ 48 ∧ z < 10 ^ 48 then n + 1 else n
def kpN (nn : Nat → Nat) (n x z : Nat) : Nat → Nat := if x < 10 ^ 48 ∧ z < 10 ^ 48 then un (un nn (2 * n) x) (2 * n + 1) z else nn
def kpS (sg : Nat → Int) (n : Nat) (s : Int) (x z : Nat) : Nat → Int := if x < 10 ^ 48 ∧ z < 10 ^ 48 then uz sg n s else sg
def lwX (N D : Nat) : Nat := N / Nat.gcd D N
def lwZ (N D : Nat) : Nat := D / Nat.gcd D N
theorem lw_le (N D : Nat) : lwX N D ≤ N ∧ lwZ N D ≤ D := ⟨Nat.div_le_self _ _, Nat.div_le_self _ _⟩
