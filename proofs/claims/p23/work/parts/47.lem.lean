/-- what was learnt, in the model -/
def LRN (lt pr pa : Nat → Nat) : Prop := (∀ j, lt j < 8) ∧ (∀ j, pr j ≤ 660) ∧ ∀ j, pa j < 784
theorem lt_upd {g : Nat → Nat} {k v b : Nat} (h : ∀ j, g j < b) (hv : v < b) : ∀ j, updN g k v j < b := fun j => by
  unfold updN; split
  · exact hv
  · exact h j
theorem le_upd {g : Nat → Nat} {k v b : Nat} (h : ∀ j, g j ≤ b) (hv : v ≤ b) : ∀ j, updN g k v j ≤ b := fun j => by
  unfold updN; split
  · exact hv
  · exact h j
theorem CUT.ord {f : Nat → Int32} {bb by_ mk : Nat → Nat} {n w i : Nat} (h : CUT f bb by_ mk n w) (hi : i + 1 < w) : bb i + by_ i ≤ bb (i + 1) := by
  obtain ⟨⟨h1, h2, h3⟩, h4⟩ := h
  obtain ⟨a, ha, hb, e⟩ := cB_pos (g := gm f) (n := n) i (by omega)
  obtain ⟨a2, ha2, hb2, e2⟩ := cB_pos (g := gm f) (n := n) (i + 1) (by omega)
  obtain ⟨q1, q2, q3⟩ := h4 a ha hb (by omega)
  obtain ⟨p1, p2, p3⟩ := h4 a2 ha2 hb2 (by omega)
  rw [e] at q1 q2
  rw [e2] at p1
  rw [q1, p1]
  obtain ⟨r1, r2, r3, r4⟩ := q2
  refine Nat.not_lt.mp fun hlt => ?_
  have hlt2 : a < a2 := by
    refine Nat.not_le.mp fun hle => ?_
    have := cB_mono (g := gm f) hle
    omega
  have hrun : run (gm f) a (a + by_ i) := fun j j1 j2 => by
    have := r3 (j - a) (by omega)
    rw [show a + (j - a) = j by omega] at this
    exact this
  exact run_nb hrun hlt2 hlt hb2
/-- so many pairs at most were put when word w begins -/
def bN (bb : Nat → Nat) (many w : Nat) : Nat := if w < many then bb w + w else 600 + w
theorem bN_0 (bb : Nat → Nat) (many : Nat) : 0 ≤ bN bb many 0 := Nat.zero_le _
theorem bN_y {bb : Nat → Nat} {many w : Nat} (h : w < many) : bN bb many w = bb w + w := if_pos h
theorem bN_n {bb : Nat → Nat} {many w : Nat} (h : many ≤ w) : bN bb many w = 600 + w := if_neg (by omega)
theorem bN_s {f : Nat → Int32} {bb by_ mk : Nat → Nat} {n many w : Nat} (h : CUT f bb by_ mk n many) (hw : w < many) : bb w + by_ w + (w + 1) ≤ bN bb many (w + 1) := by
  have h1 := h.wd (i := w) hw
  unfold bN
  split
  · next hh => have := h.ord hh; omega
  · omega
theorem WOK_add {lt lw lt2 : Nat → Nat} {z m v : Nat} (h : WOK lt lw z m) (h2 : ∀ j, sgn (lt2 j)) (hz : z < m) (hv : v ≤ 24) : WOK lt2 (updN lw z v) (z + 1) m := by
  obtain ⟨h1, -, h3⟩ := h
  refine ⟨hz, h2, fun p hp => ?_⟩
  unfold updN
  split
  · exact hv
  · exact h3 p (by omega)
theorem cB_congr {g g2 : Nat → Nat} : ∀ n, (∀ k, k < n → g k = g2 k) → cB g n = cB g2 n := by
  intro n
  induction n with
  | zero => intro _; rfl
  | succ n ih =>
    intro h
    have e := ih (fun k hk => h k (by omega))
    have hb : bW g n ↔ bW g2 n := by
      unfold bW
      rw [h n (by omega)]
      by_cases h0 : n = 0
      · simp [h0]
      · rw [h (n - 1) (by omega)]
    by_cases hw : bW g n
    · rw [cB_y hw, cB_y (hb.mp hw), e]
    · rw [cB_n hw, cB_n (fun q => hw (hb.mpr q)), e]
theorem gm_upd {f : Nat → Int32} {k : Nat} {x : Int32} {g : Nat → Int32} (h : ∀ j, j < k → gm f j = gm g j) (hx : x = g k) : ∀ j, j < k + 1 → gm (upd f k (vp_nar .byte x)) j = gm g j := fun j hj => by
  rcases Nat.lt_or_ge j k with h1 | h1
  · have e : upd f k (vp_nar .byte x) j = f j := if_neg (by omega)
    unfold gm bt
    rw [e]; exact h j h1
  · have e1 : j = k := by omega
    subst e1
    have e : upd f j (vp_nar .byte x) j = vp_nar .byte x := if_pos rfl
    unfold gm bt
    rw [e, bt_nar, hx]
theorem TXT_cp {f g : Nat → Int32} {n k : Nat} (h : ∀ j, j < k → gm f j = gm g j) (hk : n ≤ k) (hn : n ≤ 600) (hw : cB (gm g) n ≤ 60) : TXT f n (cB (gm g) n) := ⟨hn, hw, (cB_congr n (fun j hj => (h j (by omega)).symm))⟩

theorem cp_s {g v : Nat → Nat} {b k x : Nat} (h : ∀ j, j < k → g (b + j) = v j) (hx : x = v k) : ∀ j, j < k + 1 → updN g (b + k) x (b + j) = v j := fun j hj => by
  by_cases e : j = k
  · rw [e, updN_s, hx]
  · rw [updN_n (by omega)]; exact h j (by omega)
theorem cp_o {g v : Nat → Nat} {b i x : Nat} (h : ∀ j, j < b → g j = v j) (hi : b ≤ i) : ∀ j, j < b → updN g i x j = v j := fun j hj => by
  rw [updN_n (by omega)]; exact h j hj

/-- the pairs of a trail, as the model writes them -/
def PRS (pq : Nat → Nat) (b : Nat) (tg : Nat → Nat) (n : Nat) : Prop := ∀ k, k < n → pq (b + k) = 28 * tg k + tg (k + 1)
theorem PRS_s {pq tg : Nat → Nat} {b n x : Nat} (h : PRS pq b tg n) (hx : x = 28 * tg n + tg (n + 1)) : PRS (updN pq (b + n) x) b tg (n + 1) := fun k hk => by
  by_cases e : k = n
  · rw [e, updN_s, hx]
  · rw [updN_n (by omega)]; exact h k (by omega)
theorem PRS_c {pq tg tg2 : Nat → Nat} {b n : Nat} (h : PRS pq b tg n) (e : ∀ k, k ≤ n → tg2 k = tg k) : PRS pq b tg2 n := fun k hk => by
  rw [e k (by omega), e (k + 1) (by omega)]; exact h k hk
section TRM
variable {lt lw g sb ln : Nat → Nat} {z i : Nat}
theorem tgr_lo (h : cnD lt lw z g sb ln i) {k : Nat} (hk : k < tln lt lw z g sb ln i) : tgr lt lw z g sb ln (i + 1) k = tgr lt lw z g sb ln i k := by
  rw [tgr_y h, updN_n (by omega)]
  unfold va_cpy
  rw [if_neg (by omega)]
theorem tgr_in (h : cnD lt lw z g sb ln i) {k : Nat} (hk : k < ln i) : tgr lt lw z g sb ln (i + 1) (tln lt lw z g sb ln i + k) = g (sb i + k) := by
  rw [tgr_y h, updN_n (by omega)]
  unfold va_cpy
  rw [if_pos (by omega), Nat.add_sub_cancel_left]
theorem tgr_hi (h : cnD lt lw z g sb ln i) : tgr lt lw z g sb ln (i + 1) (tln lt lw z g sb ln i + ln i) = 27 := by
  rw [tgr_y h, updN_s]
theorem tgr_last : ∀ i, 1 ≤ tln lt lw z g sb ln i ∧ tgr lt lw z g sb ln i (tln lt lw z g sb ln i - 1) = 27 := by
  intro i
  induction i with
  | zero => exact ⟨Nat.le_refl _, updN_s⟩
  | succ i ih =>
    by_cases h : cnD lt lw z g sb ln i
    · rw [tln_y h]
      refine ⟨by omega, ?_⟩
      rw [show tln lt lw z g sb ln i + (ln i + 1) - 1 = tln lt lw z g sb ln i + ln i by omega]
      exact tgr_hi h
    · rw [tln_n h, tgr_n h]; exact ih
/-- the sign ahead, in the trail -/
theorem tgr_pv (h : cnD lt lw z g sb ln i) {pt k : Nat} (e : pt + 1 = tln lt lw z g sb ln i) (hk : k ≤ ln i) : tgr lt lw z g sb ln (i + 1) (pt + k) = fmr g (sb i) k := by
  unfold fmr
  by_cases h0 : k = 0
  · rw [if_pos h0, h0, Nat.add_zero, tgr_lo h (by omega)]
    have := (tgr_last (lt := lt) (lw := lw) (z := z) (g := g) (sb := sb) (ln := ln) i).2
    rwa [show tln lt lw z g sb ln i - 1 = pt by omega] at this
  · rw [if_neg h0, show pt + k = tln lt lw z g sb ln i + (k - 1) by omega, tgr_in h (by omega)]
    congr 1; omega
theorem tgr_nw (h : cnD lt lw z g sb ln i) {pt k : Nat} (e : pt + 1 = tln lt lw z g sb ln i) (hk : k < ln i) : tgr lt lw z g sb ln (i + 1) (pt + k + 1) = g (sb i + k) := by
  rw [show pt + k + 1 = tln lt lw z g sb ln i + k by omega]; exact tgr_in h hk
theorem tgr_ne (h : cnD lt lw z g sb ln i) {pt k : Nat} (e : pt + 1 = tln lt lw z g sb ln i) (hk : k = ln i) : tgr lt lw z g sb ln (i + 1) (pt + k + 1) = 27 := by
  rw [show pt + k + 1 = tln lt lw z g sb ln i + ln i by omega]; exact tgr_hi h
end TRM
/-- the counts when k pairs of a learnt text were added -/
def adF (ct : Nat → Int32) (t : Nat) (pa : Nat → Nat) (b : Nat) (x : Int32) : Nat → Nat → Int32
  | 0 => ct
  | k + 1 => upd (adF ct t pa b x k) (784 * t + pa (b + k)) (adF ct t pa b x k (784 * t + pa (b + k)) + x)
theorem i_p1m1 (x : Int32) : x + 1 - 1 = x := Int32.add_sub_cancel x 1

/-- one text and behind it another -/
def mrg (a b : Nat → Nat) (n : Nat) : Nat → Nat := fun j => if j < n then a j else b (j - n)
theorem gm_mrg {f a b : Nat → Int32} {n k : Nat} {x : Int32} (h : ∀ j, j < k → gm f j = mrg (gm a) (gm b) n j) (hx : (k < n ∧ x = a k) ∨ (n ≤ k ∧ x = b (k - n))) : ∀ j, j < k + 1 → gm (upd f k (vp_nar .byte x)) j = mrg (gm a) (gm b) n j := fun j hj => by
  rw [gm_up]
  by_cases e : j = k
  · rw [if_pos e, e]
    unfold mrg
    rcases hx with ⟨h1, h2⟩ | ⟨h1, h2⟩
    · rw [if_pos h1, h2]; rfl
    · rw [if_neg (by omega), h2]; rfl
  · rw [if_neg e]; exact h j (by omega)
