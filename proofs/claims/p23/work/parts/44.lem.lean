/-- a text of the model -/
def TXT (f : Nat → Int32) (n w : Nat) : Prop := n ≤ 600 ∧ w ≤ 60 ∧ w = cB (gm f) n
/-- the words of a text of the model, found -/
def CUT (f : Nat → Int32) (bb by_ mk : Nat → Nat) (n w : Nat) : Prop := TXT f n w ∧ okC (gm f) bb by_ mk n n
theorem CUT.wd {f : Nat → Int32} {bb by_ mk : Nat → Nat} {n w i : Nat} (h : CUT f bb by_ mk n w) (hi : i < w) : i < 60 ∧ bb i + by_ i ≤ n ∧ 1 ≤ by_ i ∧ n ≤ 600 ∧ mk i < 2 ∧ (mk i = 0 → ∀ k, k < by_ i → gm f (bb i + k) ≤ 26) := by
  obtain ⟨⟨h1, h2, h3⟩, h4⟩ := h
  obtain ⟨a, ha, hb, e⟩ := cB_pos (g := gm f) (n := n) i (by omega)
  obtain ⟨q1, q2, q3⟩ := h4 a ha hb (by omega)
  rw [e] at q1 q2 q3
  obtain ⟨r1, r2, r3, r4⟩ := q2
  rw [← q1] at r2 r3 q3
  refine ⟨by omega, r2, r1, h1, by rw [q3]; split <;> omega, fun hm k hk => ?_⟩
  have h10 := r3 k hk
  have h9 := gm_ok f (bb i)
  have h8 := gm_ok f (bb i + k)
  have hn : gm f (bb i) ≠ 28 := fun e9 => by rw [if_pos e9] at q3; omega
  have hb1 := hb.1
  rw [← q1] at hb1
  have hk0 : kN (gm f (bb i)) = 0 := by
    unfold kN at hb1 ⊢
    split
    · rfl
    · next hh => rw [if_neg hh] at hb1; have := h9.1; have := h9.2; omega
  rw [hk0] at h10
  unfold kN at h10
  split at h10
  · assumption
  · omega
theorem okC_one {f : Nat → Int32} {bb by_ mk : Nat → Nat} {n : Nat} (h : okC (gm f) bb by_ mk n n) (h1 : cB (gm f) n = 1) : mk 0 = 0 ↔ ∃ a, a < n ∧ bW (gm f) a ∧ gm f a ≠ 28 := by
  constructor
  · intro h0
    obtain ⟨a, ha, hb, e⟩ := cB_pos (g := gm f) (n := n) 0 (by omega)
    obtain ⟨q1, q2, q3⟩ := h a ha hb (by omega)
    rw [e] at q3
    refine ⟨a, ha, hb, fun e9 => ?_⟩
    rw [if_pos e9] at q3; omega
  · intro ⟨a, ha, hb, hn⟩
    have h2 := cB_lt hb ha
    obtain ⟨q1, q2, q3⟩ := h a ha hb (by omega)
    rw [show cB (gm f) a = 0 by omega, if_neg hn] at q3
    exact q3
theorem okC_mk {f : Nat → Int32} {bb by_ mk : Nat → Nat} {n : Nat} (h : okC (gm f) bb by_ mk n n) (h1 : cB (gm f) n = 1) : mk 0 < 2 := by
  obtain ⟨a, ha, hb, e⟩ := cB_pos (g := gm f) (n := n) 0 (by omega)
  obtain ⟨q1, q2, q3⟩ := h a ha hb (by omega)
  rw [e] at q3
  rw [q3]; split <;> omega
/-- one word, of letters, in the first n bytes -/
def oneM (f : Nat → Int32) (n : Nat) : Prop := cB (gm f) n = 1 ∧ ∃ a, a < n ∧ bW (gm f) a ∧ gm f a ≠ 28
theorem mst_in {s n z : Nat} (h : s + n ≤ z) : s + mst n ≤ z := by have := mst_le n; omega
theorem SM_iff {lt lw g lt2 lw2 : Nat → Nat} {f : Nat → Int32} {s L M p : Nat} (eL : lw p = lw2 p) (et : ∀ k, k < lw p → lt (p * 24 + k) = lt2 (24 * p + k)) (eM : L = M) (eg : ∀ k, k < L → g (s + k) = gm f (s + k) ∧ gm f (s + k) ≤ 26) : sW lt lw g s L p ↔ mW f lt2 s M (24 * p) (lw2 p) := by
  subst eM
  constructor
  · intro ⟨h1, h2⟩
    refine ⟨by rw [← eL]; exact h1.symm, fun k hk => ?_⟩
    have hk1 : k < lw p := by omega
    have hk2 : k < L := by omega
    exact ⟨(eg k hk2).2, by rw [← (eg k hk2).1, ← h2 k hk2, et k hk1]⟩
  · intro ⟨h1, h2⟩
    refine ⟨by omega, fun k hk => ?_⟩
    have hk1 : k < lw p := by omega
    rw [et k hk1, ← (h2 k (by omega)).2, (eg k hk).1]
theorem cn_iff {lt lw : Nat → Nat} {f : Nat → Int32} {bb by_ mk : Nat → Nat} {n w z i : Nat} (h : CUT f bb by_ mk n w) (hi : i < w) (hm : mk i = 0) : cnD lt lw z (gm f) bb (fun i => mst (by_ i)) i ↔ ∀ p, p < z → ¬ mW f lt (bb i) (mst (by_ i)) (24 * p) (lw p) := by
  obtain ⟨h1, h2, h3, h4, h5, h6⟩ := h.wd hi
  have hms := mst_le (by_ i)
  have hs : ∀ p, sW lt lw (gm f) (bb i) (mst (by_ i)) p ↔ mW f lt (bb i) (mst (by_ i)) (24 * p) (lw p) := fun p => SM_iff rfl (fun k _ => by rw [Nat.mul_comm]) rfl (fun k hk => ⟨rfl, h6 hm k (by omega)⟩)
  have h0 := h6 hm 0 (by omega)
  constructor
  · intro ⟨_, h9⟩ p hp h8
    exact h9 p hp ((hs p).mpr h8)
  · intro h9
    exact ⟨by have h7 : gm f (bb i) ≤ 26 := h0; omega, fun p hp h8 => h9 p hp ((hs p).mp h8)⟩
theorem cn_mark {lt lw : Nat → Nat} {f : Nat → Int32} {bb by_ mk : Nat → Nat} {n w z i : Nat} (h : CUT f bb by_ mk n w) (hi : i < w) (hm : ¬ mk i = 0) : ¬ cnD lt lw z (gm f) bb (fun i => mst (by_ i)) i := fun h9 => by
  obtain ⟨⟨c1, c2, c3⟩, c4⟩ := h
  obtain ⟨a, ha, hb, e⟩ := cB_pos (g := gm f) (n := n) i (by omega)
  obtain ⟨q1, q2, q3⟩ := c4 a ha hb (by omega)
  rw [e] at q1 q3
  have h1 := h9.1
  rw [q1] at h1
  rw [if_neg h1] at q3
  exact hm q3
theorem sm_i {lt lw : Nat → Nat} {f : Nat → Int32} {bb by_ mk : Nat → Nat} {n w i p : Nat} (h : CUT f bb by_ mk n w) (hi : i < w) (hm : mk i = 0) : sW lt lw (gm f) (bb i) (mst (by_ i)) p ↔ mW f lt (bb i) (mst (by_ i)) (24 * p) (lw p) := by
  obtain ⟨h1, h2, h3, h4, h5, h6⟩ := h.wd hi
  have hms := mst_le (by_ i)
  exact SM_iff rfl (fun k _ => by rw [Nat.mul_comm]) rfl (fun k hk => ⟨rfl, h6 hm k (by omega)⟩)
/-- the first k of a word's pairs, the last of them with its end -/
def spP (f : Nat → Int32) (t : Nat) (g : Nat → Nat) (s M k : Nat) : Nat := if k ≤ M then spS f t g s k else spN f t g s M
theorem spP_1 {f : Nat → Int32} {t : Nat} {g : Nat → Nat} {s M k : Nat} (h : k < M) : spP f t g s M (k + 1) = spP f t g s M k + cost1 (f (ix3 t (fmr g s k) (g (s + k)))) := by
  unfold spP; rw [if_pos (by omega), if_pos (by omega)]; rfl
theorem spP_2 {f : Nat → Int32} {t : Nat} {g : Nat → Nat} {s M k : Nat} (h : k = M) : spP f t g s M (k + 1) = spP f t g s M k + cost1 (f (ix3 t (fmr g s k) 27)) := by
  subst h; unfold spP; rw [if_neg (by omega), if_pos (Nat.le_refl _)]; rfl
theorem spP_0 {f : Nat → Int32} {t : Nat} {g : Nat → Nat} {s M : Nat} : spP f t g s M 0 = 0 := if_pos (Nat.zero_le _)
theorem spP_e {f : Nat → Int32} {t : Nat} {g : Nat → Nat} {s M k : Nat} (h : M < k) : spP f t g s M k = spN f t g s M := if_neg (by omega)
theorem ix_c {t a b : Nat} : 28 * (28 * t + a) + b = ix3 t a b := by unfold ix3; omega
def ciM (kn k : Nat) (ko : Nat → Int32) (tt sp : Nat) : Nat := if k < kn then (if kBT (ko k) tt = 1 then 0 else 300 + sp) else sp
/-- the cost of word i in tongue tt, as the model counts it -/
def wcM (ln sn : Nat → Nat) (nn : Nat) (lk sk : Nat → Nat) (kn : Nat) (ko ct f : Nat → Int32) (bb by_ : Nat → Nat) (i tt : Nat) : Nat := if cnD ln sn nn (gm f) bb (fun i => mst (by_ i)) i then ciM kn (kwF lk sk (gm f) (bb i) (mst (by_ i)) kn) ko tt (spN ct tt (gm f) (bb i) (mst (by_ i))) else 0
section WCM
variable {ln sn lk sk : Nat → Nat} {nn kn : Nat} {ko ct f : Nat → Int32} {bb by_ mk : Nat → Nat} {n w i tt p : Nat}
theorem wcM_le : wcM ln sn nn lk sk kn ko ct f bb by_ i tt ≤ 2800 := by
  have h1 := spN_le ct tt (gm f) (bb i) (mst (by_ i))
  have h2 := mst_le (by_ i)
  unfold wcM ciM
  split
  · split
    · split <;> omega
    · omega
  · omega
theorem wc_m (h : CUT f bb by_ mk n w) (hi : i < w) (hm : ¬ mk i = 0) : wcM ln sn nn lk sk kn ko ct f bb by_ i tt = 0 := if_neg (cn_mark h hi hm)
theorem wc_n (h : CUT f bb by_ mk n w) (hi : i < w) (hm : mk i = 0) (hp : p < nn) (hw : mW f ln (bb i) (mst (by_ i)) (24 * p) (sn p)) : wcM ln sn nn lk sk kn ko ct f bb by_ i tt = 0 := if_neg (fun h9 => (cn_iff h hi hm).mp h9 p hp hw)
theorem wc_k (h : CUT f bb by_ mk n w) (hi : i < w) (hm : mk i = 0) (hn : ∀ p, p < nn → ¬ mW f ln (bb i) (mst (by_ i)) (24 * p) (sn p)) (hp : p < kn) (hw : mW f lk (bb i) (mst (by_ i)) (24 * p) (sk p)) (hq : ∀ q, q < p → ¬ mW f lk (bb i) (mst (by_ i)) (24 * q) (sk q)) : wcM ln sn nn lk sk kn ko ct f bb by_ i tt = if kBT (ko p) tt = 1 then 0 else 300 + spN ct tt (gm f) (bb i) (mst (by_ i)) := by
  have e := kwF_y (lt := lk) (lw := sk) (g := gm f) (s := bb i) (L := mst (by_ i)) hp ((sm_i h hi hm).mpr hw) (fun q h9 h8 => hq q h9 ((sm_i h hi hm).mp h8))
  unfold wcM
  rw [if_pos ((cn_iff h hi hm).mpr hn), e]
  exact if_pos hp
theorem wc_o (h : CUT f bb by_ mk n w) (hi : i < w) (hm : mk i = 0) (hn : ∀ p, p < nn → ¬ mW f ln (bb i) (mst (by_ i)) (24 * p) (sn p)) (hq : ∀ q, q < kn → ¬ mW f lk (bb i) (mst (by_ i)) (24 * q) (sk q)) : wcM ln sn nn lk sk kn ko ct f bb by_ i tt = 0 + spN ct tt (gm f) (bb i) (mst (by_ i)) := by
  have e := kwF_n (lt := lk) (lw := sk) (g := gm f) (s := bb i) (L := mst (by_ i)) (fun q h9 h8 => hq q h9 ((sm_i h hi hm).mp h8))
  unfold wcM
  rw [if_pos ((cn_iff h hi hm).mpr hn), e, Nat.zero_add]
  exact if_neg (Nat.lt_irrefl _)
end WCM
