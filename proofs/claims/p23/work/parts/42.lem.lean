/-- L is the length of the whole run that begins at a -/
def RF (g : Nat → Nat) (n a L : Nat) : Prop := 1 ≤ L ∧ a + L ≤ n ∧ (∀ k, k < L → kN (g (a + k)) = kN (g a)) ∧ (a + L = n ∨ kN (g (a + L)) ≠ kN (g a))
def okC (g bb by_ mk : Nat → Nat) (n i : Nat) : Prop := ∀ a, a < i → bW g a → cB g a < 60 → bb (cB g a) = a ∧ RF g n a (by_ (cB g a)) ∧ mk (cB g a) = (if g a = 28 then 1 else 0)
def bdy (g : Nat → Nat) (n k : Nat) : Prop := k = 0 ∨ k = n ∨ kN (g (k - 1)) = 29 ∨ kN (g (k - 1)) ≠ kN (g k)
theorem okC_0 {g bb by_ mk : Nat → Nat} {n : Nat} : okC g bb by_ mk n 0 := fun a h => absurd h (Nat.not_lt_zero a)
theorem okC_n {g bb by_ mk : Nat → Nat} {n i : Nat} (h : okC g bb by_ mk n i) (hb : ¬ bW g i) : okC g bb by_ mk n (i + 1) := fun a ha hba => by
  rcases Nat.lt_or_ge a i with h1 | h1
  · exact h a h1 hba
  · rw [show a = i by omega] at hba; exact absurd hba hb
/-- no word begins within a run -/
def run (g : Nat → Nat) (a k2 : Nat) : Prop := ∀ j, a ≤ j → j < k2 → kN (g j) = kN (g a)
theorem run_0 {g : Nat → Nat} {a : Nat} : run g a a := fun j h1 h2 => absurd h2 (by omega)
theorem run_s {g : Nat → Nat} {a k : Nat} (h : run g a k) (e : kN (g k) = kN (g a)) : run g a (k + 1) := fun j h1 h2 => by
  rcases Nat.lt_or_ge j k with h3 | h3
  · exact h j h1 h3
  · rw [show j = k by omega]; exact e
theorem run_nb {g : Nat → Nat} {a k2 j : Nat} (h : run g a k2) (h1 : a < j) (h2 : j < k2) : ¬ bW g j := fun hb => by
  rcases hb.2 with e | e
  · omega
  · exact e (by rw [h (j - 1) (by omega) (by omega), h j (by omega) h2])
theorem cB_run {g : Nat → Nat} {a : Nat} (hb : bW g a) : ∀ k2, a < k2 → run g a k2 → cB g k2 = cB g a + 1 := by
  intro k2
  induction k2 with
  | zero => intro h; omega
  | succ k ih =>
    intro h hr
    rcases Nat.lt_or_ge a k with h1 | h1
    · rw [cB_n (run_nb hr h1 (by omega))]
      exact ih h1 (fun j q1 q2 => hr j q1 (by omega))
    · rw [show k = a by omega, cB_y hb]
theorem okC_y {g bb by_ mk : Nat → Nat} {n a k2 : Nat} (h : okC g bb by_ mk n a) (hr : run g a k2) {L v : Nat} (hL : RF g n a L) (hv : v = if g a = 28 then 1 else 0) : okC g (updN bb (cB g a) a) (updN by_ (cB g a) L) (updN mk (cB g a) v) n k2 := fun x hx hbx hc => by
  rcases Nat.lt_or_ge x a with h1 | h1
  · have hne : cB g x ≠ cB g a := Nat.ne_of_lt (cB_lt hbx h1)
    rw [updN_n hne, updN_n hne, updN_n hne]; exact h x h1 hbx hc
  · have e : x = a := by
      rcases Nat.lt_or_ge a x with h2 | h2
      · exact absurd hbx (run_nb hr h2 hx)
      · omega
    rw [e, updN_s, updN_s, updN_s]; exact ⟨rfl, hL, hv⟩
theorem okC_b {g bb by_ mk : Nat → Nat} {n a k2 : Nat} (h : okC g bb by_ mk n a) (hr : run g a k2) (hb : 60 ≤ cB g a) : okC g bb by_ mk n k2 := fun x hx hbx hc => by
  rcases Nat.lt_or_ge x a with h1 | h1
  · exact h x h1 hbx hc
  · have := cB_mono (g := g) h1; omega
theorem bdy_bW {g : Nat → Nat} {n k : Nat} (h : bdy g n k) (hk : k < n) (hn : kN (g k) ≠ 29) : bW g k := by
  refine ⟨hn, ?_⟩
  rcases h with h | h | h | h
  · exact Or.inl h
  · omega
  · exact Or.inr (by rw [h]; exact fun e => hn e.symm)
  · exact Or.inr h
theorem RF_mk {g : Nat → Nat} {n a k2 : Nat} (h1 : a < k2) (h2 : k2 ≤ n) (hr : run g a k2) (hx : k2 = n ∨ kN (g k2) ≠ kN (g a)) : RF g n a (k2 - a) := by
  refine ⟨by omega, by omega, fun k hk => hr (a + k) (by omega) (by omega), ?_⟩
  rw [show a + (k2 - a) = k2 by omega]; exact hx
theorem bdy_e {g : Nat → Nat} {n a k2 : Nat} (h1 : a < k2) (hr : run g a k2) (hx : k2 = n ∨ kN (g k2) ≠ kN (g a)) : bdy g n k2 := by
  rcases hx with h | h
  · exact Or.inr (Or.inl h)
  · exact Or.inr (Or.inr (Or.inr (by rw [hr (k2 - 1) (by omega) (by omega)]; exact fun e => h e.symm)))
theorem kN_28 {a : Nat} (h : a = 28) : kN a = 28 := by rw [h]; rfl
theorem kN_n28 {a : Nat} (h : a ≠ 28) : kN a ≠ 28 := by unfold kN; split <;> omega
theorem kN_0 {a : Nat} (h : a ≤ 26) : kN a = 0 := if_pos h
theorem kN_n0 {a : Nat} (h : 26 < a) : kN a = a := if_neg (by omega)
