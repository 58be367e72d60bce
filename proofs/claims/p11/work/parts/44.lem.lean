/-- a text of the model -/
def TXT (f : Nat → Int32) (n w : Nat) : Prop := n ≤ 600 ∧ w ≤ 60 ∧ w = cB (gm f) n
/-- the words of a text of the model, found -/
def CUT (f : Nat → Int32) (bb by_ mk : Nat → Nat) (n w : Nat) : Prop := TXT f n w ∧ okC (gm f) bb by_ mk n n
theorem CUT.wd {f : Nat → Int32} {bb by_ mk : Nat → Nat} {n w i : Nat} (h : CUT f bb by_ mk n w) (hi : i < w) : i < 60 ∧ bb i + by_ i ≤ n ∧ 1 ≤ by_ i ∧ n ≤ 600 ∧ mk i < 2 ∧ (mk i = 0 → ∀ k, k < by_ i → gm f (bb i + k) ≤ 26) := by
  obtain ⟨⟨h1, h2, h3⟩, h4⟩ := h
  obtain ⟨a, ha, hb, e⟩ := cB_pos (g := gm f) (n := n) i (by omega)
  obtain ⟨q1, q2, q3⟩ := h4 a ha hb (by omega)
  rw [e] at q1 q2 q3
  obtain ⟨r1, r2, r3, r4⟩ := q2
  rw [← q1] at r2 r3 q3
  refine ⟨by omega, r2, r1, h1, by rw [q3]; split <;> omega, fun hm k hk => ?_⟩
  have h10 := r3 k hk
  have h9 := gm_ok f (bb i)
  have h8 := gm_ok f (bb i + k)
  have hn : gm f (bb i) ≠ 28 := fun e9 => by rw [if_pos e9] at q3; omega
  have hb1 := hb.1
  rw [← q1] at hb1
  have hk0 : kN (gm f (bb i)) = 0 := by
    unfold kN at hb1 ⊢
    split
    · rfl
    · next hh => rw [if_neg hh] at hb1; have := h9.1; have := h9.2; omega
  rw [hk0] at h10
  unfold kN at h10
  split at h10
  · assumption
  · omega
theorem okC_one {f : Nat → Int32} {bb by_ mk : Nat → Nat} {n : Nat} (h : okC (gm f) bb by_ mk n n) (h1 : cB (gm f) n = 1) : mk 0 = 0 ↔ ∃ a, a < n ∧ bW (gm f) a ∧ gm f a ≠ 28 := by
  constructor
  · intro h0
    obtain ⟨a, ha, hb, e⟩ := cB_pos (g := gm f) (n := n) 0 (by omega)
    obtain ⟨q1, q2, q3⟩ := h a ha hb (by omega)
    rw [e] at q3
    refine ⟨a, ha, hb, fun e9 => ?_⟩
    rw [if_pos e9] at q3; omega
  · intro ⟨a, ha, hb, hn⟩
    have h2 := cB_lt hb ha
    obtain ⟨q1, q2, q3⟩ := h a ha hb (by omega)
    rw [show cB (gm f) a = 0 by omega, if_neg hn] at q3
    exact q3
theorem okC_mk {f : Nat → Int32} {bb by_ mk : Nat → Nat} {n : Nat} (h : okC (gm f) bb by_ mk n n) (h1 : cB (gm f) n = 1) : mk 0 < 2 := by
  obtain ⟨a, ha, hb, e⟩ := cB_pos (g := gm f) (n := n) 0 (by omega)
  obtain ⟨q1, q2, q3⟩ := h a ha hb (by omega)
  rw [e] at q3
  rw [q3]; split <;> omega
/-- one word, of letters, in the first n bytes -/
def oneM (f : Nat → Int32) (n : Nat) : Prop := cB (gm f) n = 1 ∧ ∃ a, a < n ∧ bW (gm f) a ∧ gm f a ≠ 28
theorem mst_in {s n z : Nat} (h : s + n ≤ z) : s + mst n ≤ z := by have := mst_le n; omega
