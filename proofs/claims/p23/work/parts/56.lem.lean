/-- one class of arrays of a kind -/
theorem K_one {D : va_G} {cl : List vw_C} {tys : List (ClassId × FieldType)} {s : State} {a b : ClassId} (hK : va_K D cl tys s) (i j : Nat) (hi : tys[i]? = some (a, .byte)) (hj : tys[j]? = some (b, .byte)) : a = b := by
  have h1 : s.vm.findClass ("[" ++ FieldType.byte.toString) = some a := (hK.2 i _ hi).2
  have h2 : s.vm.findClass ("[" ++ FieldType.byte.toString) = some b := (hK.2 j _ hj).2
  exact Option.some.inj (h1.symm.trans h2)
section TRL
variable {lt lw g sb ln : Nat → Nat} {z n w i : Nat}
theorem tln_1 (i : Nat) : 1 ≤ tln lt lw z g sb ln i := by
  induction i with
  | zero => exact Nat.le_refl _
  | succ i ih => exact Nat.le_trans ih (Nat.le_add_right _ _)
theorem tln_m {j : Nat} (h : i ≤ j) : tln lt lw z g sb ln i ≤ tln lt lw z g sb ln j := by
  induction j with
  | zero => rw [show i = 0 by omega]; exact Nat.le_refl _
  | succ j ih =>
    rcases Nat.lt_or_ge j i with h1 | h1
    · rw [show i = j + 1 by omega]; exact Nat.le_refl _
    · exact Nat.le_trans (ih h1) (Nat.le_add_right _ _)
theorem SOK.ord (h : SOK g sb ln n w) (hi : i + 1 < w) : sb i + ln i ≤ sb (i + 1) := by
  obtain ⟨h1, h2, h3, h4, h5⟩ := h
  obtain ⟨a, ha, hb, e⟩ := cB_pos (g := g) (n := n) i (by omega)
  obtain ⟨a2, ha2, hb2, e2⟩ := cB_pos (g := g) (n := n) (i + 1) (by omega)
  obtain ⟨q1, q2⟩ := h4 a ha hb
  obtain ⟨p1, -⟩ := h4 a2 ha2 hb2
  rw [e] at q1 q2
  rw [e2] at p1
  rw [q1, p1]
  obtain ⟨r1, r2, r3, r4, -⟩ := q2
  refine Nat.not_lt.mp fun hlt => ?_
  have hlt2 : a < a2 := by
    refine Nat.not_le.mp fun hle => ?_
    have := cB_mono (g := g) hle
    omega
  have hrun : run g a (a + ln i) := fun j j1 j2 => by
    have := r4 (j - a) (by omega)
    rw [show a + (j - a) = j by omega] at this
    exact this
  exact run_nb hrun hlt2 hlt hb2
theorem tln_b (h : SOK g sb ln n w) : ∀ i, i ≤ w → tln lt lw z g sb ln i ≤ 1 + (if i < w then sb i + i else 600 + i) := by
  intro i
  induction i with
  | zero => intro _; show 1 ≤ _; omega
  | succ i ih =>
    intro hi
    have h1 := ih (by omega)
    rw [if_pos (show i < w by omega)] at h1
    have h2 := h.wd (i := i) (by omega)
    have h3 : tln lt lw z g sb ln (i + 1) ≤ tln lt lw z g sb ln i + (ln i + 1) := by
      show tln lt lw z g sb ln i + _ ≤ _
      split <;> omega
    split
    · next hh => have := h.ord hh; omega
    · omega
theorem tln_le (h : SOK g sb ln n w) (hi : i ≤ w) : tln lt lw z g sb ln i ≤ 661 := by
  have h1 := tln_b (lt := lt) (lw := lw) (z := z) h i hi
  have h2 := h.2.1
  split at h1
  · next hh => have := h.wd hh; omega
  · omega
theorem tgr_lt (h : SOK g sb ln n w) : ∀ i, i ≤ w → ∀ j, tgr lt lw z g sb ln i j < 28 := by
  intro i
  induction i with
  | zero => intro _ j; show updN (fun _ => 0) 0 27 j < 28; unfold updN; split; omega; exact Nat.zero_lt_succ 27
  | succ i ih =>
    intro hi j
    by_cases hc : cnD lt lw z g sb ln i
    · rw [tgr_y hc]
      unfold updN
      split
      · omega
      · unfold va_cpy
        split
        · next hh =>
          obtain ⟨h1, h2, h3, h4, h5⟩ := h.wd (i := i) (by omega)
          have h6 := (h5 hc.1).2 (j - tln lt lw z g sb ln i) (by omega)
          first
            | (have : sb i + (j - tln lt lw z g sb ln i) = sb i + (j - tln lt lw z g sb ln i) := rfl; omega)
            | (rw [show j - tln lt lw z g sb ln i + sb i = sb i + (j - tln lt lw z g sb ln i) by omega]; omega)
            | (rw [show sb i + j - tln lt lw z g sb ln i = sb i + (j - tln lt lw z g sb ln i) by omega]; omega)
        · exact ih (by omega) j
    · rw [tgr_n hc]; exact ih (by omega) j
end TRL
