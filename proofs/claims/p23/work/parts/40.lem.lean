/-- a byte as it is read: 0 to 255 -/
abbrev bt (f : Nat → Int32) (j : Nat) : Nat := (f j).toBitVec.toNat % 256
/-- the signs of a row of bytes -/
def gm (f : Nat → Int32) : Nat → Nat := fun j => sgF (bt f j)
theorem gm_ok (f : Nat → Int32) (j : Nat) : sgn (gm f j) := sgF_ok _
def mst (n : Nat) : Nat := if 24 < n then 24 else n
theorem mst_le (n : Nat) : mst n ≤ 24 ∧ mst n ≤ n := by unfold mst; split <;> omega
theorem mst_min {n : Nat} (h : n < 2147483648) : (if (24 : Int32) < nI n then 24 else nI n) = nI (mst n) := by
  unfold mst
  by_cases h9 : 24 < n
  · rw [if_pos h9, if_pos (show (24 : Int32) < nI n from nI_lt (a := 24) h9 (by omega))]; rfl
  · rw [if_neg h9, if_neg (show ¬ (24 : Int32) < nI n from nI_nlt (a := 24) (b := n) (by omega) (by omega))]
/-- L letters of the list from t on are those of the text from s on, of which there are M -/
abbrev mW (f : Nat → Int32) (lt : Nat → Nat) (s M t L : Nat) : Prop := M = L ∧ ∀ k, k < L → gm f (s + k) ≤ 26 ∧ gm f (s + k) = lt (t + k)
theorem mW_s {f : Nat → Int32} {lt : Nat → Nat} {s t kk : Nat} (h : ∀ k, k < kk → gm f (s + k) ≤ 26 ∧ gm f (s + k) = lt (t + k)) (h1 : gm f (s + kk) ≤ 26) (e : gm f (s + kk) = lt (t + kk)) : ∀ k, k < kk + 1 → gm f (s + k) ≤ 26 ∧ gm f (s + k) = lt (t + k) := fun k hk => by
  rcases Nat.lt_or_ge k kk with h2 | h2
  · exact h k h2
  · rw [show k = kk by omega]; exact ⟨h1, e⟩
theorem sgF_hi {a : Nat} (h : ¬ (97 ≤ a ∧ a ≤ 122)) (h2 : ¬ (65 ≤ a ∧ a ≤ 90)) (h3 : a ≠ 39) : 26 < sgF a := by
  unfold sgF
  rw [if_neg h, if_neg h2, if_neg h3]
  split <;> omega
theorem sgF_d {a : Nat} : sgF a = 28 ↔ 48 ≤ a ∧ a ≤ 57 := by
  unfold sgF
  constructor
  · intro h
    split at h
    · omega
    · split at h
      · omega
      · split at h
        · assumption
        · split at h <;> omega
  · intro h
    rw [if_neg (by omega), if_neg (by omega), if_pos h]
theorem sgF_l {a : Nat} (h : sgF a ≤ 26) : sgF a ≠ 28 ∧ sgF a ≠ 29 := by omega
