/-- the least of the first n, and its first place -/
def lsN (f : Nat → Nat) : Nat → Nat
  | 0 => 2147483647
  | n + 1 => if f n < lsN f n then f n else lsN f n
def amN (f : Nat → Nat) : Nat → Nat
  | 0 => 0
  | n + 1 => if f n < lsN f n then n else amN f n
theorem lsN_s {f : Nat → Nat} {n : Nat} : lsN f (n + 1) = if f n < lsN f n then f n else lsN f n := rfl
theorem amN_s {f : Nat → Nat} {n : Nat} : amN f (n + 1) = if f n < lsN f n then n else amN f n := rfl
theorem lsN_max (f : Nat → Nat) : ∀ n, lsN f n ≤ 2147483647
  | 0 => Nat.le_refl _
  | n + 1 => by
    have := lsN_max f n
    rw [lsN_s]; split <;> omega
theorem lsN_le {f : Nat → Nat} {t : Nat} : ∀ n, t < n → lsN f n ≤ f t
  | 0, h => absurd h (Nat.not_lt_zero t)
  | n + 1, h => by
    rw [lsN_s]
    rcases Nat.lt_or_ge t n with h1 | h1
    · have := lsN_le (f := f) n h1
      split <;> omega
    · rw [show t = n by omega]
      split <;> omega
theorem amN_sp {f : Nat → Nat} : ∀ n, lsN f n < 2147483647 → amN f n < n ∧ f (amN f n) = lsN f n ∧ ∀ t, t < amN f n → lsN f n < f t
  | 0, h => absurd h (Nat.lt_irrefl _)
  | n + 1, h => by
    rw [lsN_s] at h ⊢
    rw [amN_s]
    by_cases hc : f n < lsN f n
    · rw [if_pos hc, if_pos hc]
      refine ⟨by omega, rfl, fun t ht => ?_⟩
      have := lsN_le (f := f) n ht
      omega
    · rw [if_neg hc] at h ⊢
      rw [if_neg hc]
      obtain ⟨h1, h2, h3⟩ := amN_sp n h
      exact ⟨by omega, h2, h3⟩
theorem amN_lt {f : Nat → Nat} {z : Nat} (h : 0 < z) (hb : ∀ t, t < z → f t < 2147483647) : amN f z < z ∧ f (amN f z) = lsN f z ∧ ∀ t, t < amN f z → lsN f z < f t :=
  amN_sp z (Nat.lt_of_le_of_lt (lsN_le z h) (hb 0 h))
theorem amN_bd (f : Nat → Nat) : ∀ n, 0 < n → amN f n < n
  | 0, h => absurd h (Nat.lt_irrefl _)
  | 1, _ => by rw [amN_s]; split <;> exact Nat.zero_lt_one
  | n + 2, _ => by
    have := amN_bd f (n + 1) (by omega)
    rw [amN_s]; split <;> omega
theorem lsN_cg {f g : Nat → Nat} : ∀ n, (∀ t, t < n → f t = g t) → lsN f n = lsN g n
  | 0, _ => rfl
  | n + 1, h => by
    rw [lsN_s, lsN_s, lsN_cg n (fun t ht => h t (by omega)), h n (by omega)]
theorem amN_cg {f g : Nat → Nat} : ∀ n, (∀ t, t < n → f t = g t) → amN f n = amN g n
  | 0, _ => rfl
  | n + 1, h => by
    rw [amN_s, amN_s, amN_cg n (fun t ht => h t (by omega)), lsN_cg n (fun t ht => h t (by omega)), h n (by omega)]
/-- the cheapest rest: from word w - 1 - k on, that word in tongue t -/
def mnN (a b : Nat) : Nat := if b < a then b else a
theorem mnN_l (a b : Nat) : mnN a b ≤ a := by unfold mnN; split <;> omega
theorem mnN_r (a b : Nat) : mnN a b ≤ b := by unfold mnN; split <;> omega
def bhS (c : Nat → Nat → Nat) (ch z w : Nat) : Nat → Nat → Nat
  | 0, t => c (w - 1) t
  | k + 1, t => c (w - 1 - (k + 1)) t + mnN (bhS c ch z w k t) (lsN (bhS c ch z w k) z + ch)
/-- costs of words in tongues, of which one word alone may be barred -/
def BD (c : Nat → Nat → Nat) (w z b : Nat) : Prop := ∀ i t, i < w → t < z → c i t ≤ 2800 + (if i = b then 268435456 else 0)
theorem bhS_bd {c : Nat → Nat → Nat} {ch z w b : Nat} (hc : BD c w z b) {t : Nat} (ht : t < z) : ∀ k, k < w → bhS c ch z w k t ≤ 2800 * (k + 1) + (if w - 1 - k ≤ b then 268435456 else 0)
  | 0, hk => by
    have h1 := hc (w - 1) t (by omega) ht
    show c (w - 1) t ≤ _
    split at h1
    · rw [if_pos (by omega)]; omega
    · omega
  | k + 1, hk => by
    have h0 := bhS_bd (ch := ch) hc ht k (by omega)
    have h1 := hc (w - 1 - (k + 1)) t (by omega) ht
    have h2 := mnN_l (bhS c ch z w k t) (lsN (bhS c ch z w k) z + ch)
    show c (w - 1 - (k + 1)) t + _ ≤ _
    by_cases h3 : w - 1 - (k + 1) = b
    · rw [if_pos h3] at h1
      rw [if_neg (by omega)] at h0
      rw [if_pos (by omega)]; omega
    · rw [if_neg h3] at h1
      by_cases h4 : w - 1 - k ≤ b
      · rw [if_pos h4] at h0
        rw [if_pos (by omega)]; omega
      · rw [if_neg h4] at h0
        omega
theorem bhS_le {c : Nat → Nat → Nat} {ch z w b : Nat} (hc : BD c w z b) (hw : w ≤ 60) {t k : Nat} (ht : t < z) (hk : k < w) : bhS c ch z w k t ≤ 268603456 := by
  have := bhS_bd (ch := ch) hc ht k hk
  split at this <;> omega
/-- what a way through the first n words costs -/
def chg (ch a b : Nat) : Nat := if a = b then 0 else ch
def cin (ch : Nat) (p : Nat → Nat) (n : Nat) (t : Nat) : Nat := if n = 0 then 0 else chg ch (p (n - 1)) t
def pfC (c : Nat → Nat → Nat) (ch : Nat) (p : Nat → Nat) : Nat → Nat
  | 0 => 0
  | n + 1 => pfC c ch p n + (c n (p n) + cin ch p n (p n))
theorem pfC_s {c : Nat → Nat → Nat} {ch : Nat} {p : Nat → Nat} {n : Nat} : pfC c ch p (n + 1) = pfC c ch p n + (c n (p n) + cin ch p n (p n)) := rfl
theorem cin_cg {ch n t : Nat} {p q : Nat → Nat} (h : ∀ j, j < n → p j = q j) : cin ch p n t = cin ch q n t := by
  unfold cin
  by_cases h0 : n = 0
  · rw [if_pos h0, if_pos h0]
  · rw [if_neg h0, if_neg h0, h (n - 1) (by omega)]
theorem pfC_cg {c : Nat → Nat → Nat} {ch : Nat} {p q : Nat → Nat} : ∀ n, (∀ j, j < n → p j = q j) → pfC c ch p n = pfC c ch q n
  | 0, _ => rfl
  | n + 1, h => by
    rw [pfC_s, pfC_s, pfC_cg n (fun j hj => h j (by omega)), h n (by omega), cin_cg (fun j hj => h j (by omega))]
theorem pfC_cc {c d : Nat → Nat → Nat} {ch z : Nat} {p : Nat → Nat} : ∀ n, (∀ j, j < n → p j < z) → (∀ i t, i < n → t < z → c i t = d i t) → pfC c ch p n = pfC d ch p n
  | 0, _, _ => rfl
  | n + 1, h, e => by
    rw [pfC_s, pfC_s, pfC_cc n (fun j hj => h j (by omega)) (fun i t hi ht => e i t (by omega) ht), e n (p n) (by omega) (h n (by omega))]
theorem cin_le {ch n t : Nat} {p : Nat → Nat} : cin ch p n t ≤ ch := by
  unfold cin chg
  split
  · omega
  · split <;> omega
theorem pfC_le {c : Nat → Nat → Nat} {ch z : Nat} {p : Nat → Nat} (hch : ch ≤ 2000) : ∀ n, (∀ j, j < n → p j < z) → (∀ i t, i < n → t < z → c i t ≤ 2800) → pfC c ch p n ≤ 4800 * n
  | 0, _, _ => Nat.le_refl _
  | n + 1, h, e => by
    have h1 := pfC_le hch n (fun j hj => h j (by omega)) (fun i t hi ht => e i t (by omega) ht)
    have h2 := e n (p n) (by omega) (h n (by omega))
    have h3 := cin_le (ch := ch) (n := n) (t := p n) (p := p)
    rw [pfC_s]; omega
/-- q is no way ahead of p -/
def lxl (p q : Nat → Nat) (n : Nat) : Prop := (∀ j, j < n → p j = q j) ∨ ∃ k, k < n ∧ (∀ j, j < k → p j = q j) ∧ p k < q k
def BET (c : Nat → Nat → Nat) (ch n : Nat) (p q : Nat → Nat) : Prop := pfC c ch p n < pfC c ch q n ∨ (pfC c ch p n = pfC c ch q n ∧ lxl p q n)
theorem lxl_r {p : Nat → Nat} {n : Nat} : lxl p p n := Or.inl fun _ _ => rfl
theorem lxl_t {p q r : Nat → Nat} {n : Nat} (h1 : lxl p q n) (h2 : lxl q r n) : lxl p r n := by
  rcases h1 with h1 | ⟨k, k1, k2, k3⟩
  · rcases h2 with h2 | ⟨m, m1, m2, m3⟩
    · exact Or.inl fun j hj => (h1 j hj).trans (h2 j hj)
    · exact Or.inr ⟨m, m1, fun j hj => (h1 j (by omega)).trans (m2 j hj), by rw [h1 m m1]; exact m3⟩
  · rcases h2 with h2 | ⟨m, m1, m2, m3⟩
    · exact Or.inr ⟨k, k1, fun j hj => (k2 j hj).trans (h2 j (by omega)), by rw [← h2 k k1]; exact k3⟩
    · rcases Nat.lt_trichotomy k m with h | h | h
      · exact Or.inr ⟨k, k1, fun j hj => (k2 j hj).trans (m2 j (by omega)), by rw [← m2 k h]; exact k3⟩
      · subst h
        exact Or.inr ⟨k, k1, fun j hj => (k2 j hj).trans (m2 j hj), Nat.lt_trans k3 m3⟩
      · exact Or.inr ⟨m, m1, fun j hj => (k2 j (by omega)).trans (m2 j hj), by rw [k2 m h]; exact m3⟩
theorem lxl_a {p q : Nat → Nat} {n : Nat} (h1 : lxl p q n) (h2 : lxl q p n) : ∀ j, j < n → p j = q j := by
  rcases h1 with h1 | ⟨k, k1, k2, k3⟩
  · exact h1
  · rcases h2 with h2 | ⟨m, m1, m2, m3⟩
    · exact fun j hj => (h2 j hj).symm
    · exfalso
      rcases Nat.lt_trichotomy k m with h | h | h
      · have := m2 k h; omega
      · subst h; omega
      · have := k2 m h; omega
theorem lxl_tot (p q : Nat → Nat) : ∀ n, lxl p q n ∨ ∃ k, k < n ∧ (∀ j, j < k → q j = p j) ∧ q k < p k
  | 0 => Or.inl (Or.inl fun j hj => absurd hj (Nat.not_lt_zero j))
  | n + 1 => by
    rcases lxl_tot p q n with h | ⟨k, k1, k2⟩
    · rcases h with h | ⟨k, k1, k2⟩
      · rcases Nat.lt_trichotomy (p n) (q n) with h3 | h3 | h3
        · exact Or.inl (Or.inr ⟨n, by omega, h, h3⟩)
        · refine Or.inl (Or.inl fun j hj => ?_)
          rcases Nat.lt_or_ge j n with h4 | h4
          · exact h j h4
          · rw [show j = n by omega]; exact h3
        · exact Or.inr ⟨n, by omega, fun j hj => (h j hj).symm, h3⟩
      · exact Or.inl (Or.inr ⟨k, by omega, k2⟩)
    · exact Or.inr ⟨k, by omega, k2⟩
theorem BET_t {c : Nat → Nat → Nat} {ch n : Nat} {p q r : Nat → Nat} (h1 : BET c ch n p q) (h2 : BET c ch n q r) : BET c ch n p r := by
  rcases h1 with h1 | ⟨h1, h3⟩
  · rcases h2 with h2 | ⟨h2, _⟩
    · exact Or.inl (by omega)
    · exact Or.inl (by omega)
  · rcases h2 with h2 | ⟨h2, h4⟩
    · exact Or.inl (by omega)
    · exact Or.inr ⟨by omega, lxl_t h3 h4⟩
theorem BET_a {c : Nat → Nat → Nat} {ch n : Nat} {p q : Nat → Nat} (h1 : BET c ch n p q) (h2 : BET c ch n q p) : pfC c ch p n = pfC c ch q n ∧ ∀ j, j < n → p j = q j := by
  rcases h1 with h1 | ⟨h1, h3⟩
  · exfalso
    rcases h2 with h2 | ⟨h2, _⟩ <;> omega
  · rcases h2 with h2 | ⟨h2, h4⟩
    · exfalso; omega
    · exact ⟨h1, lxl_a h3 h4⟩
/-- the best of the ways with a property -/
def OPS (c : Nat → Nat → Nat) (ch n : Nat) (S : (Nat → Nat) → Prop) (p : Nat → Nat) : Prop := S p ∧ ∀ q, S q → BET c ch n p q
theorem OPS_u {c : Nat → Nat → Nat} {ch n : Nat} {S : (Nat → Nat) → Prop} {p q : Nat → Nat} (h1 : OPS c ch n S p) (h2 : OPS c ch n S q) : pfC c ch p n = pfC c ch q n ∧ ∀ j, j < n → p j = q j := BET_a (h1.2 q h2.1) (h2.2 p h1.1)
def VAL (z n : Nat) (p : Nat → Nat) : Prop := ∀ j, j < n → p j < z
/-- the parting -/
def OPT (c : Nat → Nat → Nat) (ch z w : Nat) (p : Nat → Nat) : Prop := OPS c ch w (VAL z w) p
theorem OPT_cc {c d : Nat → Nat → Nat} {ch z w : Nat} {p : Nat → Nat} (h : OPT c ch z w p) (e : ∀ i t, i < w → t < z → c i t = d i t) : OPT d ch z w p ∧ pfC c ch p w = pfC d ch p w := by
  have e1 : ∀ q, VAL z w q → pfC c ch q w = pfC d ch q w := fun q hq => pfC_cc w hq e
  refine ⟨⟨h.1, fun q hq => ?_⟩, e1 p h.1⟩
  have := h.2 q hq
  unfold BET at this ⊢
  rw [← e1 p h.1, ← e1 q hq]; exact this
theorem lxl_cg {p q r : Nat → Nat} {n : Nat} (e : ∀ j, j < n → p j = q j) (h : lxl p r n) : lxl q r n := lxl_t (Or.inl fun j hj => (e j hj).symm) h
theorem OPT_cp {c : Nat → Nat → Nat} {ch z w : Nat} {p q : Nat → Nat} (h : OPT c ch z w p) (e : ∀ j, j < w → p j = q j) : OPT c ch z w q := by
  refine ⟨fun j hj => by rw [← e j hj]; exact h.1 j hj, fun r hr => ?_⟩
  have h1 := h.2 r hr
  have h2 := pfC_cg (c := c) (ch := ch) w e
  unfold BET at h1 ⊢
  rw [← h2]
  rcases h1 with h1 | ⟨h1, h3⟩
  · exact Or.inl h1
  · exact Or.inr ⟨h1, lxl_cg e h3⟩
/-- the class's choice: from the first word on, by the cheapest rests -/
def chN (c : Nat → Nat → Nat) (ch z w : Nat) : Nat → Nat
  | 0 => amN (bhS c ch z w (w - 1)) z
  | i + 1 => amN (fun t => bhS c ch z w (w - 1 - (i + 1)) t + chg ch (chN c ch z w i) t) z
/-- what the class weighs at word i -/
def wgh (c : Nat → Nat → Nat) (ch z w : Nat) (p : Nat → Nat) (i : Nat) : Nat → Nat := fun t => bhS c ch z w (w - 1 - i) t + cin ch p i t
theorem chN_w {c : Nat → Nat → Nat} {ch z w : Nat} : ∀ i, chN c ch z w i = amN (wgh c ch z w (chN c ch z w) i) z
  | 0 => rfl
  | i + 1 => rfl
theorem wgh_lt {c : Nat → Nat → Nat} {ch z w b : Nat} {p : Nat → Nat} (hc : BD c w z b) (hw : w ≤ 60) (hch : ch ≤ 2000) {i t : Nat} (hi : i < w) (ht : t < z) : wgh c ch z w p i t < 2147483647 := by
  have h1 := bhS_le (ch := ch) hc hw ht (k := w - 1 - i) (by omega)
  have h2 := cin_le (ch := ch) (n := i) (t := t) (p := p)
  unfold wgh; omega
/-- no way is cheaper than the rests say -/
theorem bh_low {c : Nat → Nat → Nat} {ch z w : Nat} {q : Nat → Nat} (hq : VAL z w q) : ∀ k i, i + k + 1 = w → pfC c ch q i + wgh c ch z w q i (q i) ≤ pfC c ch q w
  | 0, i, h => by
    rw [show w = i + 1 by omega, pfC_s]
    unfold wgh
    rw [show i + 1 - 1 - i = 0 by omega]
    show _ + (c (i + 1 - 1) (q i) + _) ≤ _
    rw [Nat.add_sub_cancel]; omega
  | k + 1, i, h => by
    have h1 := bh_low (c := c) (ch := ch) hq k (i + 1) (by omega)
    rw [pfC_s] at h1
    refine Nat.le_trans ?_ h1
    have e1 : w - 1 - (i + 1) = k := by omega
    have e2 : w - 1 - i = k + 1 := by omega
    unfold wgh
    rw [e1, e2]
    show _ + ((c (w - 1 - (k + 1)) (q i) + mnN (bhS c ch z w k (q i)) (lsN (bhS c ch z w k) z + ch)) + _) ≤ _
    rw [show w - 1 - (k + 1) = i by omega]
    have h2 := mnN_l (bhS c ch z w k (q i)) (lsN (bhS c ch z w k) z + ch)
    have h3 := mnN_r (bhS c ch z w k (q i)) (lsN (bhS c ch z w k) z + ch)
    have h4 := lsN_le (f := bhS c ch z w k) z (hq (i + 1) (by omega))
    have h5 : cin ch q (i + 1) (q (i + 1)) = chg ch (q i) (q (i + 1)) := by unfold cin; rw [if_neg (by omega)]; rfl
    rw [h5]
    unfold chg
    by_cases h6 : q i = q (i + 1)
    · rw [if_pos h6, ← h6]; omega
    · rw [if_neg h6]; omega
theorem ls_ch {f : Nat → Nat} {z a ch : Nat} (ha : a < z) (hb : ∀ t, t < z → f t + ch < 2147483647) : lsN (fun t => f t + chg ch a t) z = mnN (f a) (lsN f z + ch) := by
  have hz : 0 < z := by omega
  obtain ⟨m1, m2, m3⟩ := amN_lt (f := f) hz (fun t ht => by have := hb t ht; omega)
  have hcl : ∀ t, chg ch a t ≤ ch := fun t => by unfold chg; split <;> omega
  obtain ⟨n1, n2, n3⟩ := amN_lt (f := fun t => f t + chg ch a t) hz (fun t ht => by have := hb t ht; have := hcl t; show f t + chg ch a t < _; omega)
  have e1 : chg ch a a = 0 := if_pos rfl
  have k1 := lsN_le (f := fun t => f t + chg ch a t) z ha
  have k2 := lsN_le (f := fun t => f t + chg ch a t) z m1
  have k3 := hcl (amN f z)
  have k1' : lsN (fun t => f t + chg ch a t) z ≤ f a := by
    have k9 : lsN (fun t => f t + chg ch a t) z ≤ f a + chg ch a a := k1
    rw [e1] at k9; exact k9
  have k2' : lsN (fun t => f t + chg ch a t) z ≤ lsN f z + ch := by rw [← m2]; exact Nat.le_trans k2 (by show f (amN f z) + _ ≤ _; omega)
  apply Nat.le_antisymm
  · unfold mnN; split <;> assumption
  · rw [← n2]
    show mnN (f a) (lsN f z + ch) ≤ f (amN (fun t => f t + chg ch a t) z) + chg ch a (amN (fun t => f t + chg ch a t) z)
    generalize amN (fun t => f t + chg ch a t) z = y at n1 ⊢
    have k4 := mnN_l (f a) (lsN f z + ch)
    have k5 := mnN_r (f a) (lsN f z + ch)
    have k6 := lsN_le (f := f) z n1
    unfold chg
    by_cases h : a = y
    · rw [if_pos h, ← h]; omega
    · rw [if_neg h]; omega
theorem chN_lt {c : Nat → Nat → Nat} {ch z w : Nat} (hz : 0 < z) (i : Nat) : chN c ch z w i < z := by
  rw [chN_w]; exact amN_bd _ z hz
/-- the class's way costs what the rests say -/
theorem ch_eq {c : Nat → Nat → Nat} {ch z w b : Nat} (hc : BD c w z b) (hw : w ≤ 60) (hch : ch ≤ 2000) (hz : 0 < z) : ∀ i, i < w → pfC c ch (chN c ch z w) i + wgh c ch z w (chN c ch z w) i (chN c ch z w i) = lsN (bhS c ch z w (w - 1)) z
  | 0, hi => by
    obtain ⟨m1, m2, m3⟩ := amN_lt (f := wgh c ch z w (chN c ch z w) 0) hz (fun t ht => wgh_lt hc hw hch hi ht)
    rw [← chN_w] at m2
    show 0 + _ = _
    rw [Nat.zero_add, m2]; rfl
  | i + 1, hi => by
    have h0 := ch_eq hc hw hch hz i (by omega)
    obtain ⟨m1, m2, m3⟩ := amN_lt (f := wgh c ch z w (chN c ch z w) (i + 1)) hz (fun t ht => wgh_lt hc hw hch hi ht)
    rw [← chN_w] at m2
    rw [m2, pfC_s, ← h0]
    obtain ⟨k, hk⟩ : ∃ k, w - 1 - i = k + 1 := ⟨w - 1 - (i + 1), by omega⟩
    have e1 : w - 1 - (i + 1) = k := by omega
    have h1 : lsN (wgh c ch z w (chN c ch z w) (i + 1)) z = mnN (bhS c ch z w k (chN c ch z w i)) (lsN (bhS c ch z w k) z + ch) := by
      rw [← ls_ch (chN_lt hz i) (fun t ht => by have := bhS_le (ch := ch) hc hw ht (k := k) (by omega); omega)]
      apply lsN_cg
      intro t ht
      unfold wgh cin
      rw [e1, if_neg (by omega)]; rfl
    rw [h1]
    have e2 : wgh c ch z w (chN c ch z w) i (chN c ch z w i) = (c i (chN c ch z w i) + mnN (bhS c ch z w k (chN c ch z w i)) (lsN (bhS c ch z w k) z + ch)) + cin ch (chN c ch z w) i (chN c ch z w i) := by
      unfold wgh
      rw [hk]
      show (c (w - 1 - (k + 1)) _ + _) + _ = _
      rw [show w - 1 - (k + 1) = i by omega]
    rw [e2]; omega
theorem ch_all {c : Nat → Nat → Nat} {ch z w b : Nat} (hc : BD c w z b) (hw : w ≤ 60) (hch : ch ≤ 2000) (hz : 0 < z) (h0 : 0 < w) : pfC c ch (chN c ch z w) w = lsN (bhS c ch z w (w - 1)) z := by
  obtain ⟨i, rfl⟩ : ∃ i, w = i + 1 := ⟨w - 1, by omega⟩
  rw [← ch_eq hc hw hch hz i (by omega), pfC_s]
  unfold wgh
  rw [show i + 1 - 1 - i = 0 by omega]; rfl
/-- THE CLASS'S WAY IS THE PARTING -/
theorem ch_opt {c : Nat → Nat → Nat} {ch z w b : Nat} (hc : BD c w z b) (hw : w ≤ 60) (hch : ch ≤ 2000) (hz : 0 < z) : OPT c ch z w (chN c ch z w) := by
  refine ⟨fun j _ => chN_lt hz j, fun q hq => ?_⟩
  rcases Nat.eq_zero_or_pos w with h0 | h0
  · exact Or.inr ⟨by rw [h0]; rfl, Or.inl fun j hj => by omega⟩
  have hM := ch_all hc hw hch hz h0
  have hlow := fun i (hi : i < w) => bh_low (c := c) (ch := ch) hq (w - 1 - i) i (by omega)
  rcases Nat.lt_or_ge (pfC c ch (chN c ch z w) w) (pfC c ch q w) with h1 | h1
  · exact Or.inl h1
  have key : ∀ i, i ≤ w → lxl (chN c ch z w) q i := by
    intro i
    induction i with
    | zero => intro _; exact Or.inl fun j hj => absurd hj (Nat.not_lt_zero j)
    | succ i ih =>
      intro hi
      rcases ih (by omega) with h2 | ⟨k, k1, k2⟩
      · have h3 := hlow i (by omega)
        have h4 := ch_eq hc hw hch hz i (by omega)
        rw [← pfC_cg i h2] at h3
        have h5 : wgh c ch z w q i (q i) = wgh c ch z w (chN c ch z w) i (q i) := by unfold wgh; rw [cin_cg h2]
        rw [h5] at h3
        obtain ⟨m1, m2, m3⟩ := amN_lt (f := wgh c ch z w (chN c ch z w) i) hz (fun t ht => wgh_lt hc hw hch (by omega) ht)
        rw [← chN_w] at m1 m2 m3
        rcases Nat.lt_trichotomy (chN c ch z w i) (q i) with h6 | h6 | h6
        · exact Or.inr ⟨i, by omega, h2, h6⟩
        · refine Or.inl fun j hj => ?_
          rcases Nat.lt_or_ge j i with h7 | h7
          · exact h2 j h7
          · rw [show j = i by omega]; exact h6
        · exfalso
          have := m3 (q i) h6
          omega
      · exact Or.inr ⟨k, by omega, k2⟩
  have h8 := hlow 0 h0
  have h9 : lsN (bhS c ch z w (w - 1)) z ≤ pfC c ch q w := by
    refine Nat.le_trans (lsN_le z (hq 0 h0)) (Nat.le_trans ?_ h8)
    show _ ≤ 0 + _
    unfold wgh
    rw [Nat.sub_zero]; omega
  exact Or.inr ⟨by omega, key w (Nat.le_refl w)⟩
/-- a bar: a word may not have some tongues -/
def bar (c : Nat → Nat → Nat) (op : Nat → Nat → Bool) : Nat → Nat → Nat := fun i t => c i t + (if op i t = true then 0 else 268435456)
def OPN (z n : Nat) (op : Nat → Nat → Bool) (p : Nat → Nat) : Prop := ∀ j, j < n → p j < z ∧ op j (p j) = true
theorem bar_y {c : Nat → Nat → Nat} {op : Nat → Nat → Bool} {ch : Nat} {p : Nat → Nat} : ∀ n, (∀ j, j < n → op j (p j) = true) → pfC (bar c op) ch p n = pfC c ch p n
  | 0, _ => rfl
  | n + 1, h => by
    have e : bar c op n (p n) = c n (p n) := by unfold bar; rw [if_pos (h n (by omega))]; rfl
    rw [pfC_s, pfC_s, bar_y n (fun j hj => h j (by omega)), e]
theorem bar_n {c : Nat → Nat → Nat} {op : Nat → Nat → Bool} {ch : Nat} {p : Nat → Nat} {j : Nat} : ∀ n, j < n → ¬ op j (p j) = true → 268435456 ≤ pfC (bar c op) ch p n
  | 0, h, _ => absurd h (Nat.not_lt_zero j)
  | n + 1, h, ho => by
    rw [pfC_s]
    rcases Nat.lt_or_ge j n with h1 | h1
    · have := bar_n (c := c) (ch := ch) n h1 ho
      omega
    · have e : bar c op n (p n) = c n (p n) + 268435456 := by unfold bar; rw [if_neg (by rw [show n = j by omega]; exact ho)]
      rw [e]; omega
theorem bar_opt {c : Nat → Nat → Nat} {op : Nat → Nat → Bool} {ch z w : Nat} {p q0 : Nat → Nat} (h : OPT (bar c op) ch z w p) (hw : w ≤ 60) (hch : ch ≤ 2000) (hb : ∀ i t, i < w → t < z → c i t ≤ 2800) (h0 : OPN z w op q0) : OPS c ch w (OPN z w op) p ∧ pfC (bar c op) ch p w = pfC c ch p w := by
  have e0 := bar_y (c := c) (ch := ch) (p := q0) w (fun j hj => (h0 j hj).2)
  have l0 := pfC_le (c := c) (p := q0) hch w (fun j hj => (h0 j hj).1) hb
  have hB : ∀ j, j < w → op j (p j) = true := fun j hj => Classical.byContradiction fun hn => by
    have h1 := bar_n (c := c) (ch := ch) w hj hn
    rcases h.2 q0 (fun j hj => (h0 j hj).1) with h2 | ⟨h2, _⟩ <;> omega
  have e1 := bar_y (c := c) (ch := ch) w hB
  refine ⟨⟨fun j hj => ⟨h.1 j hj, hB j hj⟩, fun q hq => ?_⟩, e1⟩
  have e2 := bar_y (c := c) (ch := ch) (p := q) w (fun j hj => (hq j hj).2)
  have := h.2 q (fun j hj => (hq j hj).1)
  unfold BET at this ⊢
  rw [← e1, ← e2]; exact this

abbrev isOp (bw ot i t : Int32) : Prop := ¬ i = bw ∨ ¬ ((ot >>> (t &&& 31)) &&& 1) = 0
theorem nI_m1 {k : Nat} (h : 1 ≤ k) : nI k + (-1) = nI (k - 1) := nI_dec h
def opB (bw ot : Int32) (i t : Nat) : Bool := decide (isOp bw ot (nI i) (nI t))
/-- the costs as the way holds them, with its bar -/
def cst (gc : Nat → Nat) : Nat → Nat → Nat := fun i t => gc (i * 8 + t)
def cbr (gc : Nat → Nat) (bw ot : Int32) : Nat → Nat → Nat := bar (cst gc) (opB bw ot)
theorem cbr_y {gc : Nat → Nat} {bw ot : Int32} {i t : Nat} (h : isOp bw ot (nI i) (nI t)) : cbr gc bw ot i t = gc (i * 8 + t) := by
  unfold cbr bar
  rw [if_pos (show opB bw ot i t = true from decide_eq_true h)]; rfl
theorem cbr_n {gc : Nat → Nat} {bw ot : Int32} {i t : Nat} (h : ¬ isOp bw ot (nI i) (nI t)) : cbr gc bw ot i t = gc (i * 8 + t) + 268435456 := by
  unfold cbr bar
  rw [if_neg (show ¬ opB bw ot i t = true from fun h9 => h (of_decide_eq_true h9))]; rfl
/-- the costs of all words in all tongues have a bound -/
def CCB (gc : Nat → Nat) (w z : Nat) : Prop := ∀ i t, i < w → t < z → gc (i * 8 + t) ≤ 2800
theorem cbr_bd {gc : Nat → Nat} {bw ot : Int32} {w z : Nat} (hw : w ≤ 60) (h : CCB gc w z) : ∃ b, BD (cbr gc bw ot) w z b := by
  have hy : ∀ i t, i < w → t < z → ¬ nI i = bw → cbr gc bw ot i t ≤ 2800 := fun i t hi ht hn => by
    rw [cbr_y (Or.inl hn)]; exact h i t hi ht
  have ha : ∀ i t, i < w → t < z → cbr gc bw ot i t ≤ 2800 + 268435456 := fun i t hi ht => by
    have h1 := h i t hi ht
    by_cases h9 : isOp bw ot (nI i) (nI t)
    · rw [cbr_y h9]; omega
    · rw [cbr_n h9]; omega
  by_cases hb : ∃ i, i < w ∧ nI i = bw
  · obtain ⟨b, hb1, hb2⟩ := hb
    refine ⟨b, fun i t hi ht => ?_⟩
    by_cases e : i = b
    · rw [if_pos e]; exact ha i t hi ht
    · rw [if_neg e]
      exact hy i t hi ht (fun h9 => e ((nI_eq (by omega) (by omega)).mp (h9.trans hb2.symm)))
  · exact ⟨w, fun i t hi ht => by rw [if_neg (by omega)]; exact hy i t hi ht (fun h9 => hb ⟨i, hi, h9⟩)⟩
theorem mnN_I {a b : Nat} (ha : a < 2147483648) (hb : b < 2147483648) : (if nI b < nI a then nI b else nI a) = nI (mnN a b) := by
  unfold mnN
  by_cases h9 : b < a
  · rw [if_pos h9, if_pos ((nI_ltI (by omega) (by omega)).mpr h9)]
  · rw [if_neg h9, if_neg (fun h8 => h9 ((nI_ltI (by omega) (by omega)).mp h8))]
theorem bh_z {c : Nat → Nat → Nat} {ch z w k t : Nat} (e : k - 1 = w - 1) (hk : 1 ≤ k) (hw : k ≤ w) : bhS c ch z w (w - k) t = c (k - 1) t := by
  rw [show w - k = 0 by omega, e]; rfl
theorem bh_p {c : Nat → Nat → Nat} {ch z w k t : Nat} (hk : 1 ≤ k) (hw : k < w) : bhS c ch z w (w - k) t = c (k - 1) t + mnN (bhS c ch z w (w - 1 - k) t) (lsN (bhS c ch z w (w - 1 - k)) z + ch) := by
  rw [show w - k = (w - 1 - k) + 1 by omega]
  show c (w - 1 - (w - 1 - k + 1)) t + _ = _
  rw [show w - 1 - (w - 1 - k + 1) = k - 1 by omega]
def fch (p : Int32) (ch t : Nat) : Nat := if p = (-1) ∨ p = nI t then 0 else ch
/-- what the class weighs at a word, the former one's tongue as a number -/
def wF (gb : Nat → Nat) (p : Int32) (ch i : Nat) : Nat → Nat := fun t => gb (i * 8 + t) + fch p ch t
theorem wF_0 {gb : Nat → Nat} {p : Int32} {ch i k : Nat} (h : p = (-1) ∨ p = nI k) : wF gb p ch i k = gb (i * 8 + k) := by
  unfold wF fch; rw [if_pos h, Nat.add_zero]
theorem wF_1 {gb : Nat → Nat} {p : Int32} {ch i k : Nat} (h : ¬ (p = (-1) ∨ p = nI k)) : wF gb p ch i k = gb (i * 8 + k) + ch := by
  unfold wF fch; rw [if_neg h]
def fmI (p : Nat → Nat) (i : Nat) : Int32 := if i = 0 then (-1) else nI (p (i - 1))
theorem fmI_s {p : Nat → Nat} {i : Nat} : fmI p (i + 1) = nI (p i) := if_neg (Nat.succ_ne_zero i)
theorem fch_cin {p : Nat → Nat} {ch i t : Nat} (hp : ∀ j, p j < 8) (ht : t < 8) : fch (fmI p i) ch t = cin ch p i t := by
  unfold fch fmI cin chg
  by_cases h0 : i = 0
  · rw [if_pos h0, if_pos h0, if_pos (Or.inl rfl)]
  · rw [if_neg h0, if_neg h0]
    have h8 := hp (i - 1)
    by_cases e : p (i - 1) = t
    · rw [if_pos e, if_pos (Or.inr (by rw [e]))]
    · rw [if_neg e, if_neg (fun h => h.elim (nI_nm1 (by omega)) (fun h => e ((nI_eq (by omega) (by omega)).mp h)))]
theorem wk_ret {c : Nat → Nat → Nat} {ch z w b : Nat} {p : Nat → Nat} {r : Int32} (hc : BD c w z b) (hw : w ≤ 60) (hch : ch ≤ 2000) (hz : 0 < z) (hq : ∀ j, j < w → p j = chN c ch z w j) (hr : (w = 0 → r = 0) ∧ (0 < w → r = nI (lsN (bhS c ch z w (w - 1)) z))) : OPT c ch z w p ∧ r = nI (pfC c ch p w) := by
  have h1 := ch_opt hc hw hch hz
  refine ⟨OPT_cp h1 (fun j hj => (hq j hj).symm), ?_⟩
  rw [pfC_cg w hq]
  rcases Nat.eq_zero_or_pos w with h0 | h0
  · rw [hr.1 h0, h0]; rfl
  · rw [hr.2 h0, ch_all hc hw hch hz h0]
/-- how far the ways for each end are alike -/
def FXI (P : Nat → Nat → Nat) (w ee al : Nat) : Prop := al ≤ w ∧ (∀ j, j < al → ∀ e, e < ee → P e j = P 0 j) ∧ (al = w ∨ ∃ e, e < ee ∧ ¬ P e al = P 0 al)
theorem FX_0 {P : Nat → Nat → Nat} {w : Nat} : FXI P w 0 w := ⟨Nat.le_refl w, fun j _ e he => absurd he (Nat.not_lt_zero e), Or.inl rfl⟩
theorem FX_s {P : Nat → Nat → Nat} {w ee al uo : Nat} {ho : Nat → Nat} (h : FXI P w ee al) (h1 : uo ≤ al) (h2 : ∀ j, j < uo → ho j = va_up P ee ho 0 j) (h3 : uo = al ∨ ¬ ho uo = va_up P ee ho 0 uo) : FXI (va_up P ee ho) w (ee + 1) uo := by
  obtain ⟨q1, q2, q3⟩ := h
  have h0 : ∀ e, e < ee → va_up P ee ho 0 = P 0 ∧ va_up P ee ho e = P e := fun e he => ⟨va_up_ne _ _ (by omega), va_up_ne _ _ (by omega)⟩
  refine ⟨by omega, fun j hj e he => ?_, ?_⟩
  · by_cases e9 : e = ee
    · rw [e9, va_up_self]; exact h2 j hj
    · obtain ⟨a1, a2⟩ := h0 e (by omega)
      rw [a1, a2]; exact q2 j (by omega) e (by omega)
  · rcases h3 with h3 | h3
    · rcases q3 with q3 | ⟨e, q3, q4⟩
      · exact Or.inl (by omega)
      · obtain ⟨a1, a2⟩ := h0 e q3
        exact Or.inr ⟨e, by omega, by rw [a1, a2, h3]; exact q4⟩
    · exact Or.inr ⟨ee, by omega, by rw [va_up_self]; exact h3⟩
theorem FX_u {P Q : Nat → Nat → Nat} {w z al bl : Nat} (hz : 0 < z) (h : FXI P w z al) (h2 : FXI Q w z bl) (e : ∀ t, t < z → ∀ j, j < w → P t j = Q t j) : al = bl := by
  obtain ⟨a1, a2, a3⟩ := h
  obtain ⟨b1, b2, b3⟩ := h2
  rcases Nat.lt_trichotomy al bl with h9 | h9 | h9
  · exfalso
    rcases a3 with a3 | ⟨t, t1, t2⟩
    · omega
    · exact t2 (by rw [e t t1 al (by omega), e 0 hz al (by omega)]; exact b2 al h9 t t1)
  · exact h9
  · exfalso
    rcases b3 with b3 | ⟨t, t1, t2⟩
    · omega
    · exact t2 (by rw [← e t t1 bl (by omega), ← e 0 hz bl (by omega)]; exact a2 bl h9 t t1)

abbrev bS (f : Nat → Int32) (i : Nat) : Prop := i = 0 ∨ ¬ f i = f (i - 1)
/-- how many spans begin ahead of this place -/
def cS (f : Nat → Int32) : Nat → Nat
  | 0 => 0
  | n + 1 => cS f n + (if bS f n then 1 else 0)
theorem cS_y {f : Nat → Int32} {n : Nat} (h : bS f n) : cS f (n + 1) = cS f n + 1 := by show cS f n + _ = _; rw [if_pos h]
theorem cS_n {f : Nat → Int32} {n : Nat} (h : ¬ bS f n) : cS f (n + 1) = cS f n := by show cS f n + _ = _; rw [if_neg h]; rfl
theorem cS_le (f : Nat → Int32) : ∀ n, cS f n ≤ n
  | 0 => Nat.le_refl _
  | n + 1 => by
    have := cS_le f n
    show cS f n + _ ≤ _
    split <;> omega
theorem cS_cg {f g : Nat → Int32} : ∀ n, (∀ j, j < n → f j = g j) → cS f n = cS g n
  | 0, _ => rfl
  | n + 1, h => by
    have h1 := cS_cg n (fun j hj => h j (by omega))
    have h2 : bS f n ↔ bS g n := by
      unfold bS
      by_cases h0 : n = 0
      · simp [h0]
      · rw [h n (by omega), h (n - 1) (by omega)]
    by_cases h3 : bS f n
    · rw [cS_y h3, cS_y (h2.mp h3), h1]
    · rw [cS_n h3, cS_n (fun q => h3 (h2.mpr q)), h1]
/-- the greatest difference among those not taken: its word, and it -/
def gB (d tk : Nat → Int32) : Nat → Int32 × Int32
  | 0 => (-1, 0)
  | i + 1 => if tk i = 0 ∧ (gB d tk i).2 < d i then (nI i, d i) else gB d tk i
theorem gB_y {d tk : Nat → Int32} {i : Nat} (h1 : tk i = 0) (h2 : (gB d tk i).2 < d i) : gB d tk (i + 1) = (nI i, d i) := if_pos ⟨h1, h2⟩
theorem gB_n {d tk : Nat → Int32} {i : Nat} (h : ¬ (tk i = 0 ∧ (gB d tk i).2 < d i)) : gB d tk (i + 1) = gB d tk i := if_neg h
theorem gB_cg {d e tk tl : Nat → Int32} : ∀ n, (∀ j, j < n → d j = e j) → (∀ j, j < n → tk j = tl j) → gB d tk n = gB e tl n
  | 0, _, _ => rfl
  | n + 1, h, h2 => by
    have h1 := gB_cg n (fun j hj => h j (by omega)) (fun j hj => h2 j (by omega))
    show (if tk n = 0 ∧ (gB d tk n).2 < d n then (nI n, d n) else gB d tk n) = (if tl n = 0 ∧ (gB e tl n).2 < e n then (nI n, e n) else gB e tl n)
    rw [h1, h n (by omega), h2 n (by omega)]
theorem gB_or (d tk : Nat → Int32) : ∀ n, ((gB d tk n).1 = (-1) ∧ (gB d tk n).2 = 0) ∨ ∃ j, j < n ∧ (gB d tk n).1 = nI j ∧ (gB d tk n).2 = d j ∧ tk j = 0
  | 0 => Or.inl ⟨rfl, rfl⟩
  | n + 1 => by
    by_cases h : tk n = 0 ∧ (gB d tk n).2 < d n
    · rw [gB_y h.1 h.2]; exact Or.inr ⟨n, by omega, rfl, rfl, h.1⟩
    · rw [gB_n h]
      rcases gB_or d tk n with h1 | ⟨j, h1, h2⟩
      · exact Or.inl h1
      · exact Or.inr ⟨j, by omega, h2⟩
theorem gB_none {d tk : Nat → Int32} : ∀ n, (∀ j, j < n → ¬ tk j = 0) → (gB d tk n).1 = (-1)
  | 0, _ => rfl
  | n + 1, h => by rw [gB_n (fun q => h n (by omega) q.1)]; exact gB_none n (fun j hj => h j (by omega))
/-- what is taken after n rounds, and how much it tells -/
def tkS (d : Nat → Int32) (w : Nat) : Nat → Nat → Int32
  | 0 => fun _ => 0
  | n + 1 => upd (tkS d w n) (gB d (tkS d w n) w).1.toNatClampNeg 1
def smS (d : Nat → Int32) (w : Nat) : Nat → Int32
  | 0 => 0
  | n + 1 => smS d w n + (gB d (tkS d w n) w).2
theorem tk_s {d : Nat → Int32} {w n p : Nat} (h : (gB d (tkS d w n) w).1 = nI p) (hp : p < w) (hw : w ≤ 60) : tkS d w (n + 1) = upd (tkS d w n) p 1 ∧ smS d w (n + 1) = smS d w n + d p ∧ tkS d w n p = 0 := by
  have e1 : tkS d w (n + 1) = upd (tkS d w n) p 1 := by
    show upd (tkS d w n) (gB d (tkS d w n) w).1.toNatClampNeg 1 = _
    rw [h, nI_clamp (by omega)]
  rcases gB_or d (tkS d w n) w with ⟨h1, _⟩ | ⟨j, h1, h2, h3, h4⟩
  · exact absurd (h.symm.trans h1) (nI_nm1 (by omega))
  · have ej : p = j := (nI_eq (by omega) (by omega)).mp (h.symm.trans h2)
    subst ej
    refine ⟨e1, ?_, h4⟩
    show smS d w n + (gB d (tkS d w n) w).2 = _
    rw [h3]
/-- how many are taken ahead of this place -/
def cnK (tk : Nat → Int32) : Nat → Nat
  | 0 => 0
  | n + 1 => cnK tk n + (if tk n = 0 then 0 else 1)
theorem cnK_y {tk : Nat → Int32} {n : Nat} (h : ¬ tk n = 0) : cnK tk (n + 1) = cnK tk n + 1 := by show cnK tk n + _ = _; rw [if_neg h]
theorem cnK_n {tk : Nat → Int32} {n : Nat} (h : tk n = 0) : cnK tk (n + 1) = cnK tk n := by show cnK tk n + _ = _; rw [if_pos h]; rfl
theorem cnK_le (tk : Nat → Int32) : ∀ n, cnK tk n ≤ n
  | 0 => Nat.le_refl _
  | n + 1 => by
    have := cnK_le tk n
    show cnK tk n + _ ≤ _
    split <;> omega
theorem cnK_m {tk : Nat → Int32} {i : Nat} : ∀ n, i ≤ n → cnK tk i ≤ cnK tk n
  | 0, h => by rw [show i = 0 by omega]; exact Nat.le_refl _
  | n + 1, h => by
    rcases Nat.lt_or_ge n i with h1 | h1
    · rw [show i = n + 1 by omega]; exact Nat.le_refl _
    · exact Nat.le_trans (cnK_m n h1) (Nat.le_add_right _ _)
theorem cnK_lt {tk : Nat → Int32} {i n : Nat} (h : ¬ tk i = 0) (hi : i < n) : cnK tk i < cnK tk n := by
  have := cnK_m (tk := tk) (i := i + 1) n hi
  rw [cnK_y h] at this; omega
theorem cnK_cg {a b : Nat → Int32} : ∀ n, (∀ j, j < n → a j = b j) → cnK a n = cnK b n
  | 0, _ => rfl
  | n + 1, h => by
    show cnK a n + _ = cnK b n + _
    rw [cnK_cg n (fun j hj => h j (by omega)), h n (by omega)]
theorem cnK_up {tk : Nat → Int32} {p : Nat} (h : tk p = 0) : ∀ n, p < n → cnK (upd tk p 1) n = cnK tk n + 1
  | 0, hp => absurd hp (Nat.not_lt_zero p)
  | n + 1, hp => by
    by_cases e : p = n
    · subst e
      have h1 : ∀ j, j < p → upd tk p 1 j = tk j := fun j hj => if_neg (by omega)
      have h2 : ¬ upd tk p 1 p = 0 := fun h9 => by rw [show upd tk p 1 p = 1 from if_pos rfl] at h9; exact absurd h9 (by decide)
      rw [cnK_y h2, cnK_n h, cnK_cg p h1]
    · have h1 := cnK_up h n (by omega)
      have h2 : upd tk p 1 n = tk n := if_neg (fun q => e q.symm)
      show cnK (upd tk p 1) n + _ = cnK tk n + _ + 1
      rw [h1, h2]; omega
theorem cnK_f {tk : Nat → Int32} : ∀ n, cnK tk n = n → ∀ j, j < n → ¬ tk j = 0
  | 0, _, j, hj => absurd hj (Nat.not_lt_zero j)
  | n + 1, h, j, hj => by
    have h1 := cnK_le tk n
    by_cases hn : tk n = 0
    · rw [cnK_n hn] at h; omega
    · rw [cnK_y hn] at h
      rcases Nat.lt_or_ge j n with h2 | h2
      · exact cnK_f n (by omega) j h2
      · rw [show j = n by omega]; exact hn
/-- each round took one more -/
theorem tk_cnt {d : Nat → Int32} {w : Nat} (hw : w ≤ 60) : ∀ n, (∀ j, j < n → ¬ (gB d (tkS d w j) w).1 = (-1)) → cnK (tkS d w n) w = n
  | 0, _ => by
    have : ∀ n, cnK (fun _ => 0) n = 0 := fun n => by
      induction n with
      | zero => rfl
      | succ n ih => rw [cnK_n rfl, ih]
    exact this w
  | n + 1, h => by
    rcases gB_or d (tkS d w n) w with ⟨h1, _⟩ | ⟨p, h1, h2, _⟩
    · exact absurd h1 (h n (by omega))
    · obtain ⟨e1, _, e3⟩ := tk_s h2 h1 hw
      rw [e1, cnK_up e3 w h1, tk_cnt hw n (fun j hj => h j (by omega))]
theorem tk_full {d : Nat → Int32} {w : Nat} (hw : w ≤ 60) (h : ∀ j, j < w → ¬ (gB d (tkS d w j) w).1 = (-1)) : (gB d (tkS d w w) w).1 = (-1) := gB_none w (cnK_f w (tk_cnt hw w h))
theorem tk_cg {d e : Nat → Int32} {w : Nat} (h : ∀ j, j < w → d j = e j) : ∀ n, tkS d w n = tkS e w n ∧ smS d w n = smS e w n
  | 0 => ⟨rfl, rfl⟩
  | n + 1 => by
    obtain ⟨h1, h2⟩ := tk_cg h n
    have h3 : gB d (tkS d w n) w = gB e (tkS e w n) w := gB_cg w h (fun j _ => by rw [h1])
    constructor
    · show upd (tkS d w n) (gB d (tkS d w n) w).1.toNatClampNeg 1 = upd (tkS e w n) (gB e (tkS e w n) w).1.toNatClampNeg 1
      rw [h3, h1]
    · show smS d w n + (gB d (tkS d w n) w).2 = smS e w n + (gB e (tkS e w n) w).2
      rw [h3, h2]
/-- n rounds were taken, and there they ended -/
def TLN (d : Nat → Int32) (w : Nat) (gp : Int32) (n : Nat) : Prop := ∀ j, j < n → smS d w j < gp ∧ ¬ (gB d (tkS d w j) w).1 = (-1)
/-- what tells answers, and which words it keeps -/
def TLA (d : Nat → Int32) (w : Nat) (gp r : Int32) (z zo : Nat) (fr ro : Nat → Int32) : Prop :=
  ∃ n, TLN d w gp n ∧ ((r = (-2) ∧ smS d w n < gp ∧ (gB d (tkS d w n) w).1 = (-1) ∧ zo = z ∧ ro = fr) ∨ (¬ smS d w n < gp ∧ r = nI n ∧ zo = cnK (tkS d w n) w ∧ ∀ j, j < w → ¬ tkS d w n j = 0 → ro (cnK (tkS d w n) j) = nI j))
def dW (c : Nat → Nat → Nat) (tt oo i : Nat) : Int32 := nI (c i oo) - nI (c i tt)
theorem TL_u {d e : Nat → Int32} {w n m : Nat} {gp : Int32} (h : ∀ j, j < w → d j = e j) (h1 : TLN d w gp n) (h2 : TLN e w gp m) (h3 : ¬ smS d w n < gp ∨ (gB d (tkS d w n) w).1 = (-1)) (h4 : ¬ smS e w m < gp ∨ (gB e (tkS e w m) w).1 = (-1)) : n = m := by
  have hg : ∀ k, gB d (tkS d w k) w = gB e (tkS e w k) w := fun k => gB_cg w h (fun j _ => by rw [(tk_cg h k).1])
  rcases Nat.lt_trichotomy n m with h9 | h9 | h9
  · exfalso
    have q := h2 n h9
    rw [← (tk_cg h n).2, ← hg n] at q
    exact h3.elim (fun k => k q.1) (fun k => q.2 k)
  · exact h9
  · exfalso
    have q := h1 m h9
    rw [(tk_cg h m).2, hg m] at q
    exact h4.elim (fun k => k q.1) (fun k => q.2 k)
theorem cnK_ex {tk : Nat → Int32} : ∀ n k, k < cnK tk n → ∃ j, j < n ∧ ¬ tk j = 0 ∧ cnK tk j = k
  | 0, k, h => absurd h (Nat.not_lt_zero k)
  | n + 1, k, h => by
    by_cases hn : tk n = 0
    · rw [cnK_n hn] at h
      obtain ⟨j, h1, h2⟩ := cnK_ex n k h
      exact ⟨j, by omega, h2⟩
    · rw [cnK_y hn] at h
      rcases Nat.lt_or_ge k (cnK tk n) with h1 | h1
      · obtain ⟨j, h2, h3⟩ := cnK_ex n k h1
        exact ⟨j, by omega, h3⟩
      · exact ⟨n, by omega, hn, by omega⟩
/-- two sides that tell the same words -/
theorem TL_eq {d e : Nat → Int32} {w z zo z2 zo2 : Nat} {gp r r2 : Int32} {fr ro fr2 ro2 : Nat → Int32} (h : ∀ j, j < w → d j = e j) (h1 : TLA d w gp r z zo fr ro) (h2 : TLA e w gp r2 z2 zo2 fr2 ro2) (hz : z2 = z) (hf : ∀ j, j < z → fr j = fr2 j) : r = r2 ∧ zo2 = zo ∧ ∀ j, j < zo → ro j = ro2 j := by
  obtain ⟨n, n1, n2⟩ := h1
  obtain ⟨m, m1, m2⟩ := h2
  have e1 : n = m := TL_u h n1 m1 (n2.elim (fun q => Or.inr q.2.2.1) (fun q => Or.inl q.1)) (m2.elim (fun q => Or.inr q.2.2.1) (fun q => Or.inl q.1))
  subst e1
  obtain ⟨k1, k2⟩ := tk_cg h n
  rw [← k1, ← k2] at m2
  rcases n2 with ⟨a1, a2, a3, a4, a5⟩ | ⟨a1, a2, a3, a4⟩
  · rcases m2 with ⟨b1, b2, b3, b4, b5⟩ | ⟨b1, _⟩
    · refine ⟨by rw [a1, b1], by rw [a4, b4, hz], fun j hj => ?_⟩
      rw [a5, b5]; exact hf j (by omega)
    · exact absurd a2 b1
  · rcases m2 with ⟨b1, b2, _⟩ | ⟨b1, b2, b3, b4⟩
    · exact absurd b2 a1
    · refine ⟨by rw [a2, b2], by rw [a3, b3], fun j hj => ?_⟩
      rw [a3] at hj
      obtain ⟨i, i1, i2, i3⟩ := cnK_ex w j hj
      rw [← i3, a4 i i1 i2, b4 i i1 i2]
