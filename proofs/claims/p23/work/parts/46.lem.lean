theorem CUT_mk {f : Nat → Int32} {bb by_ mk : Nat → Nat} {n w : Nat} (h : TXT f n w) (h2 : okC (gm f) bb by_ mk n n) : CUT f bb by_ mk n w := ⟨h, h2⟩
/-- the costs of all words in all tongues have a bound -/
def TOK (tb : Nat → Nat) (w z : Nat) : Prop := ∀ i t, i < w → t < z → tb (8 * i + t) ≤ 2800
def TOK2 (tb : Nat → Nat) (i z t : Nat) : Prop := ∀ j q, (j < i ∧ q < z) ∨ (j = i ∧ q < t) → q < 8 → tb (8 * j + q) ≤ 2800
theorem TOK2_0 {tb : Nat → Nat} {z : Nat} : TOK2 tb 0 z 0 := fun j q h _ => absurd h (by omega)
theorem TOK2_s {tb : Nat → Nat} {i z t v : Nat} (h : TOK2 tb i z t) (hv : v ≤ 2800) (ht : t < 8) : TOK2 (updN tb (8 * i + t) v) i z (t + 1) := fun j q hq h8 => by
  unfold updN
  split
  · exact hv
  · next hne => exact h j q (by omega) h8
theorem TOK2_n {tb : Nat → Nat} {i z t : Nat} (h : TOK2 tb i z t) (ht : z ≤ t) : TOK2 tb (i + 1) z 0 := fun j q hq h8 => h j q (by omega) h8
theorem TOK2_e {tb : Nat → Nat} {i z w : Nat} (h : TOK2 tb i z 0) (hi : w ≤ i) (hz : z ≤ 8) : TOK tb w z := fun j q hj hq => h j q (Or.inl ⟨by omega, hq⟩) (by omega)
