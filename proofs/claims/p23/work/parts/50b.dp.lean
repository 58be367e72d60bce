/-- the model's ways: of n words, the last of them in tongue t -/
def PTH (z : Nat) (op : Nat → Nat → Bool) (n t : Nat) (q : Nat → Nat) : Prop := OPN z n op q ∧ q (n - 1) = t
/-- what the model holds of them: the best one's cost, or that there is none -/
def MR (c : Nat → Nat → Nat) (ch z : Nat) (op : Nat → Nat → Bool) (n t ct : Nat) (q : Nat → Nat) : Prop := (ct = 2147483647 ∧ ∀ r, ¬ PTH z op n t r) ∨ (ct ≤ 4800 * n ∧ ct = pfC c ch q n ∧ OPS c ch n (PTH z op n t) q)
/-- the best road into tongue t so far -/
def BYI (cq : Nat → Nat) (Q : Nat → Nat → Nat) (ch i t ow pq : Nat) (x : Int32) (nx : Nat) : Prop :=
  (x = (-1) ∧ nx = 2147483647 ∧ ∀ p, p < pq → cq p = 2147483647) ∨ (∃ j, j < pq ∧ x = nI j ∧ ¬ cq j = 2147483647 ∧ nx = cq j + ow + chg ch j t ∧ ∀ p, p < pq → ¬ cq p = 2147483647 → nx < cq p + ow + chg ch p t ∨ (nx = cq p + ow + chg ch p t ∧ lxl (Q j) (Q p) i))
theorem BYI_0 {cq : Nat → Nat} {Q : Nat → Nat → Nat} {ch i t ow : Nat} : BYI cq Q ch i t ow 0 (-1) 2147483647 := Or.inl ⟨rfl, rfl, fun p h => absurd h (Nat.not_lt_zero p)⟩
theorem BYI_f {cq : Nat → Nat} {Q : Nat → Nat → Nat} {ch i t ow pq : Nat} {x : Int32} {nx : Nat} (h : BYI cq Q ch i t ow pq x nx) (hf : cq pq = 2147483647) : BYI cq Q ch i t ow (pq + 1) x nx := by
  rcases h with ⟨h1, h2, h3⟩ | ⟨j, h1, h2, h3, h4, h5⟩
  · refine Or.inl ⟨h1, h2, fun p hp => ?_⟩
    rcases Nat.lt_or_ge p pq with h | h
    · exact h3 p h
    · rw [show p = pq by omega]; exact hf
  · refine Or.inr ⟨j, by omega, h2, h3, h4, fun p hp hn => ?_⟩
    rcases Nat.lt_or_ge p pq with h | h
    · exact h5 p h hn
    · rw [show p = pq by omega] at hn; exact absurd hf hn
theorem BYI_k {cq : Nat → Nat} {Q : Nat → Nat → Nat} {ch i t ow pq : Nat} {x : Int32} {nx : Nat} (h : BYI cq Q ch i t ow pq x nx) (hb : cq pq + ow + chg ch pq t < 2147483647) (hk : nx < cq pq + ow + chg ch pq t ∨ (nx = cq pq + ow + chg ch pq t ∧ ∀ j, x = nI j → j < pq → lxl (Q j) (Q pq) i)) : BYI cq Q ch i t ow (pq + 1) x nx := by
  rcases h with ⟨h1, h2, h3⟩ | ⟨j, h1, h2, h3, h4, h5⟩
  · exfalso; omega
  · refine Or.inr ⟨j, by omega, h2, h3, h4, fun p hp hn => ?_⟩
    rcases Nat.lt_or_ge p pq with h | h
    · exact h5 p h hn
    · rw [show p = pq by omega]
      rcases hk with hk | ⟨hk, hl⟩
      · exact Or.inl hk
      · exact Or.inr ⟨hk, hl j h2 h1⟩
theorem BYI_u {cq : Nat → Nat} {Q : Nat → Nat → Nat} {ch i t ow pq cv : Nat} {x : Int32} {nx : Nat} (h : BYI cq Q ch i t ow pq x nx) (hn : ¬ cq pq = 2147483647) (hc : cv = cq pq + ow + chg ch pq t) (hk : cv < nx ∨ (cv = nx ∧ ∀ j, x = nI j → j < pq → lxl (Q pq) (Q j) i)) : BYI cq Q ch i t ow (pq + 1) (nI pq) cv := by
  refine Or.inr ⟨pq, by omega, rfl, hn, hc, fun p hp hnp => ?_⟩
  rcases Nat.lt_or_ge p pq with h9 | h9
  · rcases h with ⟨h1, h2, h3⟩ | ⟨j, h1, h2, h3, h4, h5⟩
    · exact absurd (h3 p h9) hnp
    · rcases h5 p h9 hnp with h6 | ⟨h6, h7⟩
      · rcases hk with hk | ⟨hk, _⟩ <;> exact Or.inl (by omega)
      · rcases hk with hk | ⟨hk, hl⟩
        · exact Or.inl (by omega)
        · exact Or.inr ⟨by omega, lxl_t (hl j h2 h1) h7⟩
  · rw [show p = pq by omega]; exact Or.inr ⟨hc, lxl_r⟩
theorem OPN_p {z n : Nat} {op : Nat → Nat → Bool} {r : Nat → Nat} (h : OPN z (n + 1) op r) : OPN z n op r := fun j hj => h j (by omega)
theorem PTH_p {z n t : Nat} {op : Nat → Nat → Bool} {r : Nat → Nat} (h : PTH z op (n + 1) t r) (hn : 0 < n) : r n = t ∧ r (n - 1) < z ∧ PTH z op n (r (n - 1)) r := ⟨h.2, (h.1 (n - 1) (by omega)).1, OPN_p h.1, rfl⟩
theorem cin_p {ch n t : Nat} {p : Nat → Nat} (hn : 0 < n) : cin ch p n t = chg ch (p (n - 1)) t := by unfold cin; rw [if_neg (by omega)]
theorem pf_up {c : Nat → Nat → Nat} {ch i t : Nat} {q : Nat → Nat} : pfC c ch (updN q i t) (i + 1) = pfC c ch q i + (c i t + cin ch q i t) := by
  have e : ∀ j, j < i → updN q i t j = q j := fun j hj => updN_n (by omega)
  rw [pfC_s, pfC_cg i e, updN_s, cin_cg e]
/-- the model's step: the best road gives the best way -/
theorem MR_s {c : Nat → Nat → Nat} {ch z i t ow nx : Nat} {op : Nat → Nat → Bool} {cq : Nat → Nat} {Q : Nat → Nat → Nat} {x : Int32} (hQ : ∀ p, p < z → MR c ch z op i p (cq p) (Q p)) (hi : 0 < i) (hi6 : i ≤ 60) (ht : t < z) (hop : op i t = true) (how : ow = c i t) (hol : ow ≤ 2800) (hch : ch ≤ 2000) (hb : BYI cq Q ch i t ow z x nx) : (x = (-1) ∧ nx = 2147483647 ∧ ∀ r, ¬ PTH z op (i + 1) t r) ∨ ∃ j, j < z ∧ x = nI j ∧ ¬ cq j = 2147483647 ∧ MR c ch z op (i + 1) t nx (updN (Q j) i t) := by
  rcases hb with ⟨h1, h2, h3⟩ | ⟨j, h1, h2, h3, h4, h5⟩
  · refine Or.inl ⟨h1, h2, fun r hr => ?_⟩
    obtain ⟨r1, r2, r3⟩ := PTH_p hr hi
    rcases hQ _ r2 with ⟨_, q2⟩ | ⟨q1, _, _⟩
    · exact q2 r r3
    · have := h3 _ r2; omega
  · refine Or.inr ⟨j, h1, h2, h3, Or.inr ?_⟩
    rcases hQ j h1 with ⟨q1, _⟩ | ⟨q0, q1, q2⟩
    · exact absurd q1 h3
    have hcj : chg ch j t ≤ ch := by unfold chg; split <;> omega
    have eq : cin ch (Q j) i t = chg ch j t := by rw [cin_p hi, q2.1.2]
    have epf : pfC c ch (updN (Q j) i t) (i + 1) = nx := by rw [pf_up, eq, h4, q1, how]; omega
    refine ⟨by omega, epf.symm, ⟨fun k hk => ?_, ?_⟩, fun r hr => ?_⟩
    · by_cases e : k = i
      · rw [e, updN_s]; exact ⟨ht, hop⟩
      · rw [updN_n e]; exact q2.1.1 k (by omega)
    · rw [Nat.add_sub_cancel, updN_s]
    · obtain ⟨r1, r2, r3⟩ := PTH_p hr hi
      rcases hQ _ r2 with ⟨_, q5⟩ | ⟨q5, q6, q7⟩
      · exact absurd r3 (q5 r)
      have q8 := q7.2 r r3
      have h6 := h5 _ r2 (by omega)
      have er : pfC c ch r (i + 1) = pfC c ch r i + (c i t + chg ch (r (i - 1)) t) := by rw [pfC_s, cin_p hi, r1]
      unfold BET
      rw [epf, er]
      have hlex : lxl (Q j) r i → lxl (updN (Q j) i t) r (i + 1) := fun hl => by
        rcases hl with hl | ⟨k, k1, k2, k3⟩
        · refine Or.inl fun k hk => ?_
          by_cases e : k = i
          · rw [e, updN_s, r1]
          · rw [updN_n e]; exact hl k (by omega)
        · exact Or.inr ⟨k, by omega, fun m hm => by rw [updN_n (by omega)]; exact k2 m hm, by rw [updN_n (by omega)]; exact k3⟩
      rcases q8 with q8 | ⟨q8, q9⟩
      · left
        rcases h6 with h6 | ⟨h6, _⟩ <;> omega
      · rcases h6 with h6 | ⟨h6, h7⟩
        · left; omega
        · right
          exact ⟨by omega, hlex (lxl_t h7 q9)⟩
theorem MR_n {z i t : Nat} {op : Nat → Nat → Bool} (hop : op i t = false) : ∀ r, ¬ PTH z op (i + 1) t r := fun r hr => by
  have h1 := (hr.1 i (by omega)).2
  have h2 : r i = t := hr.2
  rw [h2, hop] at h1
  cases h1
theorem MR_1 {c : Nat → Nat → Nat} {ch z t ow : Nat} {op : Nat → Nat → Bool} {q : Nat → Nat} (ht : t < z) (hop : op 0 t = true) (how : ow = c 0 t) (hol : ow ≤ 2800) : MR c ch z op 1 t ow (updN q 0 t) := by
  have e : ∀ r : Nat → Nat, r 0 = t → pfC c ch r 1 = ow := fun r hr => by
    rw [pfC_s, hr]
    show 0 + (c 0 t + cin ch r 0 t) = ow
    rw [how]; unfold cin; rw [if_pos rfl]; omega
  have e1 := e (updN q 0 t) updN_s
  refine Or.inr ⟨by omega, e1.symm, ⟨fun j hj => ?_, updN_s⟩, fun r hr => Or.inr ⟨by rw [e1, e r hr.2], Or.inl fun j hj => ?_⟩⟩
  · rw [show j = 0 by omega, updN_s]; exact ⟨ht, hop⟩
  · rw [show j = 0 by omega, updN_s]; exact hr.2.symm
theorem BYI_z {cq : Nat → Nat} {Q : Nat → Nat → Nat} {ch i t ow : Nat} {x : Int32} {nx : Nat} (h : BYI cq Q ch i t ow 0 x nx) : x = (-1) ∧ nx = 2147483647 := by
  rcases h with ⟨h1, h2, _⟩ | ⟨j, h1, _⟩
  · exact ⟨h1, h2⟩
  · exact absurd h1 (Nat.not_lt_zero j)
theorem BYI_g {cq : Nat → Nat} {Q : Nat → Nat → Nat} {ch i t ow pq j : Nat} {nx : Nat} (h : BYI cq Q ch i t ow pq (nI j) nx) (hp : pq ≤ 8) (hj : j < 8) : j < pq ∧ ¬ cq j = 2147483647 := by
  rcases h with ⟨h1, _⟩ | ⟨k, h1, h2, h3, _⟩
  · exact absurd h1 (nI_nm1 (by omega))
  · have e : j = k := (nI_eq (by omega) (by omega)).mp h2
    subst e; exact ⟨h1, h3⟩
/-- what stands at word i, tongue t, when its roads were gone through -/
theorem MR_all {c : Nat → Nat → Nat} {ch z i t ow nx pq g : Nat} {op : Nat → Nat → Bool} {cq : Nat → Nat} {Q : Nat → Nat → Nat} {x : Int32} (hQ : i = 0 ∨ ∀ p, p < z → MR c ch z op i p (cq p) (Q p)) (hi6 : i ≤ 60) (ht : t < z) (how : (ow = 2147483647 ∧ op i t = false) ∨ (ow = c i t ∧ op i t = true ∧ ow ≤ 2800)) (hch : ch ≤ 2000) (hb : BYI cq Q ch i t ow pq x nx) (hq0 : i = 0 ∨ ow = 2147483647 → pq = 0) (hex : pq = z ∨ i = 0 ∨ ow = 2147483647) (hg : (i = 0 ∧ g = ow) ∨ (¬ i = 0 ∧ g = nx)) :
    ∃ jx, jx < z ∧ ((x = nI jx ∧ ¬ i = 0 ∧ ¬ cq jx = 2147483647) ∨ (x = (-1) ∧ (g = 2147483647 ∨ i = 0))) ∧ MR c ch z op (i + 1) t g (updN (Q jx) i t) := by
  rcases hg with ⟨h0, hg⟩ | ⟨h0, hg⟩
  · have e := hq0 (Or.inl h0)
    subst e
    obtain ⟨e1, _⟩ := BYI_z hb
    refine ⟨0, by omega, Or.inr ⟨e1, Or.inr h0⟩, ?_⟩
    subst h0
    subst hg
    rcases how with ⟨h8, h9⟩ | ⟨h8, h9, h7⟩
    · exact Or.inl ⟨h8, MR_n h9⟩
    · exact MR_1 ht h9 h8 h7
  · subst hg
    rcases how with ⟨h8, h9⟩ | ⟨h8, h9, h7⟩
    · have e := hq0 (Or.inr h8)
      subst e
      obtain ⟨e1, e2⟩ := BYI_z hb
      exact ⟨0, by omega, Or.inr ⟨e1, Or.inl e2⟩, Or.inl ⟨e2, MR_n h9⟩⟩
    · have e : pq = z := by rcases hex with h | h | h <;> omega
      subst e
      rcases MR_s (hQ.resolve_left h0) (by omega) hi6 ht h9 h8 h7 hch hb with ⟨q1, q2, q3⟩ | ⟨j, q1, q2, q3, q4⟩
      · exact ⟨0, by omega, Or.inr ⟨q1, Or.inl q2⟩, Or.inl ⟨q2, q3⟩⟩
      · exact ⟨j, q1, Or.inl ⟨q2, h0, q3⟩, q4⟩
/-- the best of all -/
def BST (cq : Nat → Nat) (Q : Nat → Nat → Nat) (w t b : Nat) : Prop := ∀ p, p < t → (cq p = 2147483647 ∨ (¬ cq b = 2147483647 ∧ (cq b < cq p ∨ (cq b = cq p ∧ lxl (Q b) (Q p) w))))
theorem BST_1 {cq : Nat → Nat} {Q : Nat → Nat → Nat} {w : Nat} : BST cq Q w 1 0 := fun p hp => by
  rw [show p = 0 by omega]
  by_cases h : cq 0 = 2147483647
  · exact Or.inl h
  · exact Or.inr ⟨h, Or.inr ⟨rfl, lxl_r⟩⟩
theorem BST_k {cq : Nat → Nat} {Q : Nat → Nat → Nat} {w t b : Nat} (h : BST cq Q w t b) (hl : ∀ p, p < t + 1 → cq p ≤ 2147483647) (hb : b < t) (hk : cq b < cq t ∨ (cq b = cq t ∧ (cq t = 2147483647 ∨ lxl (Q b) (Q t) w))) : BST cq Q w (t + 1) b := fun p hp => by
  rcases Nat.lt_or_ge p t with h1 | h1
  · exact h p h1
  · rw [show p = t by omega]
    have := hl t (by omega)
    rcases hk with hk | ⟨hk, hk2⟩
    · exact Or.inr ⟨by omega, Or.inl hk⟩
    · rcases hk2 with hk2 | hk2
      · exact Or.inl hk2
      · by_cases h9 : cq t = 2147483647
        · exact Or.inl h9
        · exact Or.inr ⟨by omega, Or.inr ⟨hk, hk2⟩⟩
theorem BST_u {cq : Nat → Nat} {Q : Nat → Nat → Nat} {w t b : Nat} (h : BST cq Q w t b) (hl : ∀ p, p < t + 1 → cq p ≤ 2147483647) (hb : b < t) (hk : cq t < cq b ∨ (cq t = cq b ∧ ¬ cq t = 2147483647 ∧ lxl (Q t) (Q b) w)) : BST cq Q w (t + 1) t := fun p hp => by
  have h8 := hl b (by omega)
  have hn : ¬ cq t = 2147483647 := by rcases hk with hk | ⟨_, hk, _⟩ <;> omega
  rcases Nat.lt_or_ge p t with h1 | h1
  · rcases h p h1 with h2 | ⟨h2, h3⟩
    · exact Or.inl h2
    · refine Or.inr ⟨hn, ?_⟩
      rcases hk with hk | ⟨hk, _, hk2⟩
      · exact Or.inl (by rcases h3 with h3 | ⟨h3, _⟩ <;> omega)
      · rcases h3 with h3 | ⟨h3, h4⟩
        · exact Or.inl (by omega)
        · exact Or.inr ⟨by omega, lxl_t hk2 h4⟩
  · rw [show p = t by omega]; exact Or.inr ⟨hn, Or.inr ⟨rfl, lxl_r⟩⟩
theorem BST_o {c : Nat → Nat → Nat} {ch z w b : Nat} {op : Nat → Nat → Bool} {cq : Nat → Nat} {Q : Nat → Nat → Nat} (hQ : ∀ p, p < z → MR c ch z op w p (cq p) (Q p)) (hw : 0 < w) (hw6 : w ≤ 60) (hbz : b < z) (hb : BST cq Q w z b) : (cq b = 2147483647 ∧ ∀ r, ¬ OPN z w op r) ∨ (cq b ≤ 288000 ∧ cq b = pfC c ch (Q b) w ∧ OPS c ch w (OPN z w op) (Q b)) := by
  have key : ∀ r, OPN z w op r → ¬ cq b = 2147483647 ∧ BET c ch w (Q b) r := fun r hr => by
    have hp := (hr (w - 1) (by omega)).1
    rcases hQ _ hp with ⟨_, q2⟩ | ⟨q0, q1, q2⟩
    · exact absurd ⟨hr, rfl⟩ (q2 r)
    have q3 := q2.2 r ⟨hr, rfl⟩
    rcases hb _ hp with h1 | ⟨h1, h2⟩
    · omega
    refine ⟨h1, ?_⟩
    rcases hQ b hbz with ⟨p1, _⟩ | ⟨p0, p1, p2⟩
    · exact absurd p1 h1
    unfold BET at q3 ⊢
    rw [← p1]
    rw [← q1] at q3
    rcases h2 with h2 | ⟨h2, h3⟩
    · rcases q3 with q3 | ⟨q3, _⟩ <;> exact Or.inl (by omega)
    · rcases q3 with q3 | ⟨q3, q4⟩
      · exact Or.inl (by omega)
      · exact Or.inr ⟨by omega, lxl_t h3 q4⟩
  rcases hQ b hbz with ⟨p1, _⟩ | ⟨p0, p1, p2⟩
  · exact Or.inl ⟨p1, fun r hr => (key r hr).1 p1⟩
  · exact Or.inr ⟨by omega, p1, p2.1.1, fun r hr => (key r hr).2⟩
theorem MR_le {c : Nat → Nat → Nat} {ch z n t ct : Nat} {op : Nat → Nat → Bool} {q : Nat → Nat} (h : MR c ch z op n t ct q) (hn : n ≤ 60) : ct ≤ 2147483647 := by
  rcases h with ⟨h, _⟩ | ⟨h, _⟩ <;> omega
/-- rows of bytes that are rows of naturals, and which is ahead -/
theorem ahd_y {a b : Nat → Int32} {p q : Nat → Nat} {n : Nat} (ha : ∀ k, k < n → a k = nI (p k) ∧ p k < 8) (hb : ∀ k, k < n → b k = nI (q k) ∧ q k < 8) (h : ahd a b n) : lxl p q n := by
  obtain ⟨k, k1, k2, k3⟩ := h
  have hpk := ha k k1
  have hqk := hb k k1
  refine Or.inr ⟨k, k1, fun j hj => ?_, ?_⟩
  · have h1 := ha j (by omega)
    have h2 := hb j (by omega)
    have h3 := k2 j hj
    rw [h1.1, h2.1] at h3
    exact (nI_eq (by omega) (by omega)).mp h3
  · rw [hpk.1, hqk.1] at k3
    exact (nI_ltI (by omega) (by omega)).mp k3
theorem ahd_n {a b : Nat → Int32} {p q : Nat → Nat} {n : Nat} (ha : ∀ k, k < n → a k = nI (p k) ∧ p k < 8) (hb : ∀ k, k < n → b k = nI (q k) ∧ q k < 8) (h : ¬ ahd a b n) : lxl q p n := by
  rcases lxl_tot q p n with h1 | ⟨k, k1, k2, k3⟩
  · exact h1
  · exfalso
    refine h ⟨k, k1, fun j hj => ?_, ?_⟩
    · rw [(ha j (by omega)).1, (hb j (by omega)).1, k2 j hj]
    · have h1 := ha k k1
      have h2 := hb k k1
      rw [h1.1, h2.1]
      exact (nI_ltI (by omega) (by omega)).mpr k3
/-- row t of a row of rows holds the first n of Q t -/
def RWV (fq : Nat → va_E) (kr : ClassId) (fa : Nat → Option Nat) (q : Nat → Nat) (n t : Nat) : Prop := ∃ (a : Nat) (h : Nat → Int32), fa t = some a ∧ fq a = .inl (kr, 60, .inl h) ∧ ∀ k, k < n → h k = nI (q k) ∧ q k < 8
theorem RWV_g {fq : Nat → va_E} {kr : ClassId} {fa : Nat → Option Nat} {q : Nat → Nat} {n t a : Nat} {h : Nat → Int32} (h1 : RWV fq kr fa q n t) (h2 : fa t = some a) (h3 : fq a = .inl (kr, 60, .inl h)) : ∀ k, k < n → h k = nI (q k) ∧ q k < 8 := by
  obtain ⟨b, g, q1, q2, q3⟩ := h1
  rw [h2] at q1
  cases q1
  rw [h3] at q2
  cases q2
  exact q3
theorem RWV_n {fq : Nat → va_E} {kr : ClassId} {fa : Nat → Option Nat} {q : Nat → Nat} {n t a : Nat} {e : va_E} (h1 : RWV fq kr fa q n t) (h2 : ¬ fa t = some a) : RWV (va_up fq a e) kr fa q n t := by
  obtain ⟨b, g, q1, q2, q3⟩ := h1
  refine ⟨b, g, q1, ?_, q3⟩
  have hne : b ≠ a := fun e9 => h2 (by rw [q1, e9])
  rw [va_up_ne _ _ hne]; exact q2
theorem RWV_y {fq : Nat → va_E} {kr : ClassId} {fa : Nat → Option Nat} {q : Nat → Nat} {n t a v : Nat} {h : Nat → Int32} (h2 : fa t = some a) (h3 : ∀ k, k < n → h k = nI (q k) ∧ q k < 8) (hv : v < 8) : RWV (va_up fq a (.inl (kr, 60, .inl (upd h n (nI v))))) kr fa (updN q n v) (n + 1) t := by
  refine ⟨a, upd h n (nI v), h2, by rw [va_up_self], fun k hk => ?_⟩
  by_cases e : k = n
  · rw [e, updN_s]; exact ⟨if_pos rfl, hv⟩
  · rw [updN_n e, show upd h n (nI v) k = h k from if_neg e]; exact h3 k (by omega)
/-- the sixteen rows stand apart -/
def RDS (fa fb : Nat → Option Nat) : Prop := (∀ i j a, i < 8 → j < 8 → fa i = some a → fa j = some a → i = j) ∧ (∀ i j a, i < 8 → j < 8 → fb i = some a → fb j = some a → i = j) ∧ ∀ i j a, i < 8 → j < 8 → fa i = some a → ¬ fb j = some a
theorem RDS.sw {fa fb : Nat → Option Nat} (h : RDS fa fb) : RDS fb fa := ⟨h.2.1, h.1, fun i j a hi hj h1 h2 => h.2.2 j i a hj hi h2 h1⟩
theorem RWV_0 {L : List Nat} {fq : Nat → va_E} {kr : ClassId} {Rs : List Nat} {fa : Nat → Option Nat} {q : Nat → Nat} {t : Nat} (h : ROWS L fq kr Rs) (h2 : RA fa Rs) (ht : t < 8) : RWV fq kr fa q 0 t := by
  obtain ⟨a, h3, h4⟩ := h2 t ht
  obtain ⟨_, g, h5⟩ := h a h3
  exact ⟨a, g, h4, h5, fun k hk => absurd hk (Nat.not_lt_zero k)⟩
theorem RWV_c {fq : Nat → va_E} {kr : ClassId} {fa : Nat → Option Nat} {q : Nat → Nat} {n t a : Nat} {h : Nat → Int32} {x : Int32} (h2 : fa t = some a) (h3 : ∀ k, k < n → h k = nI (q k) ∧ q k < 8) (hx : x = nI (q n)) (hv : q n < 8) : RWV (va_up fq a (.inl (kr, 60, .inl (upd h n x)))) kr fa q (n + 1) t := by
  refine ⟨a, upd h n x, h2, by rw [va_up_self], fun k hk => ?_⟩
  by_cases e : k = n
  · rw [e]; exact ⟨(if_pos rfl : upd h n x n = x).trans hx, hv⟩
  · rw [show upd h n x k = h k from if_neg e]; exact h3 k (by omega)
theorem chg_y {ch a b : Nat} (h : a = b) : chg ch a b = 0 := if_pos h
theorem chg_n {ch a b : Nat} (h : a ≠ b) : chg ch a b = ch := if_neg h
def opM (p0 p1 : Int32) : Nat → Nat → Bool := fun i t => decide (¬ (nI i = p0 ∧ nI t = p1))
theorem opM_y {p0 p1 : Int32} {i t : Nat} (h : ¬ (nI i = p0 ∧ nI t = p1)) : opM p0 p1 i t = true := decide_eq_true h
theorem opM_n {p0 p1 : Int32} {i t : Nat} (h : nI i = p0) (h2 : nI t = p1) : opM p0 p1 i t = false := decide_eq_false (fun h9 => h9 ⟨h, h2⟩)
def cs8 (tb : Nat → Nat) : Nat → Nat → Nat := fun i t => tb (8 * i + t)
theorem upd_e {h : Nat → Int32} {k v : Nat} {x : Int32} (hk : k < 2147483648) (hx : x = nI v) (hv : v < 128) : upd h (nI k).toNatClampNeg (vp_nar .byte x) = upd h k (nI v) := by
  rw [nI_clamp (by omega), hx, nar_b hv]
/-- no bar: every way is open -/
theorem op_all {i t : Nat} (hi : i < 60) : opM (-1) (-1) i t = true := opM_y (fun h => nI_nm1 (by omega) h.1)
theorem all_val {z w : Nat} (hw : w ≤ 60) (q : Nat → Nat) : OPN z w (opM (-1) (-1)) q ↔ VAL z w q := ⟨fun h j hj => (h j hj).1, fun h j hj => ⟨h j hj, op_all (by omega)⟩⟩
theorem all_eds {z w e : Nat} (hw : w ≤ 60) (q : Nat → Nat) : PTH z (opM (-1) (-1)) w e q ↔ EDS z w e q := ⟨fun h => ⟨(all_val hw q).mp h.1, h.2⟩, fun h => ⟨(all_val hw q).mpr h.1, h.2⟩⟩
/-- the model's parting -/
theorem pm_opt {tb : Nat → Nat} {c : Nat → Nat → Nat} {ch z w b : Nat} {cq : Nat → Nat} {Q : Nat → Nat → Nat} (hQ : ∀ p, p < z → MR (cs8 tb) ch z (opM (-1) (-1)) w p (cq p) (Q p)) (hw : 0 < w) (hw6 : w ≤ 60) (hbz : b < z) (hb : BST cq Q w z b) (e : ∀ i t, i < w → t < z → tb (8 * i + t) = c i t) : OPT c ch z w (Q b) ∧ cq b = pfC c ch (Q b) w ∧ cq b ≤ 288000 := by
  rcases BST_o hQ hw hw6 hbz hb with ⟨_, h2⟩ | ⟨h1, h2, h3⟩
  · exact absurd ((all_val hw6 _).mpr (fun _ _ => (by omega : 0 < z))) (h2 (fun _ => 0))
  · obtain ⟨q1, q2⟩ := OPS_cc (OPS_cg h3 (all_val hw6)) (fun _ h => h) e
    exact ⟨q1, h2.trans q2, h1⟩
theorem pm_eds {tb : Nat → Nat} {c : Nat → Nat → Nat} {ch z w : Nat} {cq : Nat → Nat} {Q : Nat → Nat → Nat} (hQ : ∀ p, p < z → MR (cs8 tb) ch z (opM (-1) (-1)) w p (cq p) (Q p)) (hw : 0 < w) (hw6 : w ≤ 60) (e : ∀ i t, i < w → t < z → tb (8 * i + t) = c i t) : ∀ p, p < z → ¬ cq p = 2147483647 ∧ OPS c ch w (EDS z w p) (Q p) := fun p hp => by
  rcases hQ p hp with ⟨_, h2⟩ | ⟨h1, h2, h3⟩
  · exact absurd ((all_eds hw6 _).mpr ⟨fun _ _ => hp, rfl⟩) (h2 (fun _ => p))
  · exact ⟨by omega, (OPS_cc (OPS_cg h3 (all_eds hw6)) (fun _ h => h.1) e).1⟩
theorem op_oth8 {a u i t : Nat} (ha : a < 60) (hi : i < 60) (hu : u < 8) (ht : t < 8) : opM (nI a) (nI u) i t = oth a u i t := by
  unfold opM oth
  apply decide_eq_decide.mpr
  constructor
  · intro h ⟨e1, e2⟩; exact h ⟨by rw [e1], by rw [e2]⟩
  · intro h ⟨e1, e2⟩; exact h ⟨(nI_eq (by omega) (by omega)).mp e1, (nI_eq (by omega) (by omega)).mp e2⟩
theorem oth_val {z w a u : Nat} (hw : w ≤ 60) (hz : z ≤ 8) (ha : a < 60) (hu : u < 8) (q : Nat → Nat) : OPN z w (opM (nI a) (nI u)) q ↔ OPN z w (oth a u) q := by
  constructor
  · intro h j hj
    obtain ⟨h1, h2⟩ := h j hj
    exact ⟨h1, by rw [← op_oth8 ha (by omega) hu (by omega)]; exact h2⟩
  · intro h j hj
    obtain ⟨h1, h2⟩ := h j hj
    exact ⟨h1, by rw [op_oth8 ha (by omega) hu (by omega)]; exact h2⟩
theorem sm_opt {tb : Nat → Nat} {c : Nat → Nat → Nat} {ch z w b a u : Nat} {cq : Nat → Nat} {Q : Nat → Nat → Nat} (hQ : ∀ p, p < z → MR (cs8 tb) ch z (opM (nI a) (nI u)) w p (cq p) (Q p)) (hw : 0 < w) (hw6 : w ≤ 60) (hz : z ≤ 8) (ha : a < 60) (hu : u < 8) (hbz : b < z) (hb : BST cq Q w z b) (e : ∀ i t, i < w → t < z → tb (8 * i + t) = c i t) : (cq b = 2147483647 ∧ ∀ q, ¬ OPN z w (oth a u) q) ∨ (cq b ≤ 288000 ∧ cq b = pfC c ch (Q b) w ∧ OPS c ch w (OPN z w (oth a u)) (Q b)) := by
  rcases BST_o hQ hw hw6 hbz hb with ⟨h1, h2⟩ | ⟨h1, h2, h3⟩
  · exact Or.inl ⟨h1, fun q hq => h2 q ((oth_val hw6 hz ha hu q).mpr hq)⟩
  · obtain ⟨q1, q2⟩ := OPS_cc (OPS_cg h3 (oth_val hw6 hz ha hu)) (fun _ h j hj => (h j hj).1) e
    exact Or.inr ⟨h1, h2.trans q2, q1⟩
/-- some way has another tongue there than the first -/
def DIF (Q : Nat → Nat → Nat) (z n : Nat) : Prop := ∃ e, e < z ∧ ¬ Q e n = Q 0 n
theorem DIF_i {Q : Nat → Nat → Nat} {z n t : Nat} (h : t < z) (h2 : ¬ Q t n = Q 0 n) : DIF Q z n := ⟨t, h, h2⟩

theorem cS_m {f : Nat → Int32} {i : Nat} : ∀ n, i ≤ n → cS f i ≤ cS f n
  | 0, h => by rw [show i = 0 by omega]; exact Nat.le_refl _
  | n + 1, h => by
    rcases Nat.lt_or_ge n i with h1 | h1
    · rw [show i = n + 1 by omega]; exact Nat.le_refl _
    · exact Nat.le_trans (cS_m n h1) (Nat.le_add_right _ _)
theorem cS_lt {f : Nat → Int32} {i n : Nat} (h : bS f i) (hi : i < n) : cS f i < cS f n := by
  have := cS_m (f := f) (i := i + 1) n hi
  rw [cS_y h] at this; omega
theorem cS_ex {f : Nat → Int32} : ∀ n k, k < cS f n → ∃ j, j < n ∧ bS f j ∧ cS f j = k
  | 0, k, h => absurd h (Nat.not_lt_zero k)
  | n + 1, k, h => by
    by_cases hn : bS f n
    · rw [cS_y hn] at h
      rcases Nat.lt_or_ge k (cS f n) with h1 | h1
      · obtain ⟨j, h2, h3⟩ := cS_ex n k h1
        exact ⟨j, by omega, h3⟩
      · exact ⟨n, by omega, hn, by omega⟩
    · rw [cS_n hn] at h
      obtain ⟨j, h1, h2⟩ := cS_ex n k h
      exact ⟨j, by omega, h2⟩
theorem cS_in {f : Nat → Int32} {i j : Nat} (hi : bS f i) (hj : bS f j) (e : cS f i = cS f j) : i = j := by
  rcases Nat.lt_trichotomy i j with h | h | h
  · have := cS_lt hi h; omega
  · exact h
  · have := cS_lt hj h; omega
/-- where the span p begins -/
def SPA (f : Nat → Int32) (tm : Nat) (p : Int32) (so : Nat) : Prop := so ≤ tm ∧ ((so < tm ∧ bS f so ∧ nI (cS f so) = p) ∨ (so = tm ∧ ∀ j, j < tm → bS f j → ¬ nI (cS f j) = p))
/-- the next span's beginning is this one's end -/
theorem SPA_n {f : Nat → Int32} {tm k so : Nat} {p : Int32} (htm : tm ≤ 60) (hk : k < tm) (hb : bS f k) (e : nI (cS f k) = p) (h : SPA f tm (p + 1) so) : k + 1 ≤ so ∧ so ≤ tm ∧ (∀ j, k < j → j < so → ¬ bS f j) ∧ (so = tm ∨ bS f so) := by
  have hc := cS_le f k
  have ep : p + 1 = nI (cS f k + 1) := by rw [← e]; exact nI_add (cS f k) 1
  rw [ep] at h
  obtain ⟨h1, h2⟩ := h
  have cb : ∀ j, k < j → bS f j → cS f k + 1 ≤ cS f j := fun j hj _ => cS_lt hb hj
  rcases h2 with ⟨h3, h4, h5⟩ | ⟨h3, h4⟩
  · have h6 := cS_le f so
    have h7 : cS f so = cS f k + 1 := (nI_eq (by omega) (by omega)).mp h5
    have h8 : k < so := Nat.not_le.mp fun h9 => by have := cS_m (f := f) k h9; omega
    refine ⟨h8, h1, fun j j1 j2 j3 => ?_, Or.inr h4⟩
    have := cb j j1 j3
    have := cS_lt j3 j2
    omega
  · refine ⟨by omega, h1, fun j j1 j2 j3 => ?_, Or.inl h3⟩
    have q1 := cb j j1 j3
    have q2 := cS_lt j3 (show j < tm by omega)
    obtain ⟨i, i1, i2, i3⟩ := cS_ex (f := f) tm (cS f k + 1) (by omega)
    exact h4 i i1 i2 (by rw [i3])
