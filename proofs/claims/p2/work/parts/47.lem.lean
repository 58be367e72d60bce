/-- what was learnt, in the model -/
def LRN (lt pr pa : Nat → Nat) : Prop := (∀ j, lt j < 8) ∧ (∀ j, pr j ≤ 660) ∧ ∀ j, pa j < 784
theorem lt_upd {g : Nat → Nat} {k v b : Nat} (h : ∀ j, g j < b) (hv : v < b) : ∀ j, updN g k v j < b := fun j => by
  unfold updN; split
  · exact hv
  · exact h j
theorem le_upd {g : Nat → Nat} {k v b : Nat} (h : ∀ j, g j ≤ b) (hv : v ≤ b) : ∀ j, updN g k v j ≤ b := fun j => by
  unfold updN; split
  · exact hv
  · exact h j
theorem CUT.ord {f : Nat → Int32} {bb by_ mk : Nat → Nat} {n w i : Nat} (h : CUT f bb by_ mk n w) (hi : i + 1 < w) : bb i + by_ i ≤ bb (i + 1) := by
  obtain ⟨⟨h1, h2, h3⟩, h4⟩ := h
  obtain ⟨a, ha, hb, e⟩ := cB_pos (g := gm f) (n := n) i (by omega)
  obtain ⟨a2, ha2, hb2, e2⟩ := cB_pos (g := gm f) (n := n) (i + 1) (by omega)
  obtain ⟨q1, q2, q3⟩ := h4 a ha hb (by omega)
  obtain ⟨p1, p2, p3⟩ := h4 a2 ha2 hb2 (by omega)
  rw [e] at q1 q2
  rw [e2] at p1
  rw [q1, p1]
  obtain ⟨r1, r2, r3, r4⟩ := q2
  refine Nat.not_lt.mp fun hlt => ?_
  have hlt2 : a < a2 := by
    refine Nat.not_le.mp fun hle => ?_
    have := cB_mono (g := gm f) hle
    omega
  have hrun : run (gm f) a (a + by_ i) := fun j j1 j2 => by
    have := r3 (j - a) (by omega)
    rw [show a + (j - a) = j by omega] at this
    exact this
  exact run_nb hrun hlt2 hlt hb2
/-- so many pairs at most were put when word w begins -/
def bN (bb : Nat → Nat) (many w : Nat) : Nat := if w < many then bb w + w else 600 + w
theorem bN_0 (bb : Nat → Nat) (many : Nat) : 0 ≤ bN bb many 0 := Nat.zero_le _
theorem bN_y {bb : Nat → Nat} {many w : Nat} (h : w < many) : bN bb many w = bb w + w := if_pos h
theorem bN_n {bb : Nat → Nat} {many w : Nat} (h : many ≤ w) : bN bb many w = 600 + w := if_neg (by omega)
theorem bN_s {f : Nat → Int32} {bb by_ mk : Nat → Nat} {n many w : Nat} (h : CUT f bb by_ mk n many) (hw : w < many) : bb w + by_ w + (w + 1) ≤ bN bb many (w + 1) := by
  have h1 := h.wd (i := w) hw
  unfold bN
  split
  · next hh => have := h.ord hh; omega
  · omega
theorem WOK_add {lt lw lt2 : Nat → Nat} {z m v : Nat} (h : WOK lt lw z m) (h2 : ∀ j, sgn (lt2 j)) (hz : z < m) (hv : v ≤ 24) : WOK lt2 (updN lw z v) (z + 1) m := by
  obtain ⟨h1, -, h3⟩ := h
  refine ⟨hz, h2, fun p hp => ?_⟩
  unfold updN
  split
  · exact hv
  · exact h3 p (by omega)
theorem cB_congr {g g2 : Nat → Nat} : ∀ n, (∀ k, k < n → g k = g2 k) → cB g n = cB g2 n := by
  intro n
  induction n with
  | zero => intro _; rfl
  | succ n ih =>
    intro h
    have e := ih (fun k hk => h k (by omega))
    have hb : bW g n ↔ bW g2 n := by
      unfold bW
      rw [h n (by omega)]
      by_cases h0 : n = 0
      · simp [h0]
      · rw [h (n - 1) (by omega)]
    by_cases hw : bW g n
    · rw [cB_y hw, cB_y (hb.mp hw), e]
    · rw [cB_n hw, cB_n (fun q => hw (hb.mpr q)), e]
theorem bt_int (y : Int32) : ((y.toBitVec.toNat % 256 : Nat) : Int) = y.toInt % 256 := by
  have h : y.toInt = y.toBitVec.toInt := rfl
  rw [h, BitVec.toInt_eq_toNat_cond]
  split <;> omega
theorem bt_nar (x : Int32) : (vp_nar .byte x).toBitVec.toNat % 256 = x.toBitVec.toNat % 256 := by
  apply Int.ofNat.inj
  show (((vp_nar .byte x).toBitVec.toNat % 256 : Nat) : Int) = ((x.toBitVec.toNat % 256 : Nat) : Int)
  rw [bt_int, bt_int, vp_nar_byte, Int8.toInt_toInt32, Int32.toInt_toInt8]
  exact Int.bmod_emod ..
theorem gm_upd {f : Nat → Int32} {k : Nat} {x : Int32} {g : Nat → Int32} (h : ∀ j, j < k → gm f j = gm g j) (hx : x = g k) : ∀ j, j < k + 1 → gm (upd f k (vp_nar .byte x)) j = gm g j := fun j hj => by
  rcases Nat.lt_or_ge j k with h1 | h1
  · have e : upd f k (vp_nar .byte x) j = f j := if_neg (by omega)
    unfold gm bt
    rw [e]; exact h j h1
  · have e1 : j = k := by omega
    subst e1
    have e : upd f j (vp_nar .byte x) j = vp_nar .byte x := if_pos rfl
    unfold gm bt
    rw [e, bt_nar, hx]
theorem TXT_cp {f g : Nat → Int32} {n k : Nat} (h : ∀ j, j < k → gm f j = gm g j) (hk : n ≤ k) (hn : n ≤ 600) (hw : cB (gm g) n ≤ 60) : TXT f n (cB (gm g) n) := ⟨hn, hw, (cB_congr n (fun j hj => (h j (by omega)).symm))⟩
