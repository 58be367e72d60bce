/-- a row of naturals -/
def nR (g : Nat → Nat) : Nat → Int32 := fun j => nI (g j)
def updN (g : Nat → Nat) (k v : Nat) : Nat → Nat := fun j => if j = k then v else g j
theorem updN_s {g : Nat → Nat} {k v : Nat} : updN g k v k = v := if_pos rfl
theorem updN_n {g : Nat → Nat} {k v j : Nat} (h : j ≠ k) : updN g k v j = g j := if_neg h
theorem nR_at {g : Nat → Nat} {i : Nat} (h : i < 2147483648) : nR g (nI i).toNatClampNeg = nI (g i) := by
  rw [nI_clamp (by omega)]; rfl
theorem fR_at {f : Nat → Int32} {i : Nat} (h : i < 2147483648) : f (nI i).toNatClampNeg = f i := by
  rw [nI_clamp (by omega)]
theorem upd_at {f : Nat → Int32} {i : Nat} {x : Int32} (h : i < 2147483648) : upd f (nI i).toNatClampNeg x = upd f i x := by
  rw [nI_clamp (by omega)]
theorem upd_nR {g : Nat → Nat} {i v : Nat} (h : i < 2147483648) : upd (nR g) (nI i).toNatClampNeg (nI v) = nR (updN g i v) := by
  rw [nI_clamp (by omega)]
  funext j
  unfold nR upd updN
  by_cases e : j = i
  · rw [if_pos e, if_pos e]
  · rw [if_neg e, if_neg e]
theorem i2b_nI {v : Nat} (h : v < 128) : (nI v).toInt8.toInt32 = nI v := by
  have : ∀ v : Fin 128, (nI v.val).toInt8.toInt32 = nI v.val := by decide +kernel
  exact this ⟨v, h⟩
theorem i2s_nI {v : Nat} (h : v < 32768) : (nI v).toInt16.toInt32 = nI v := by
  apply Int32.toInt_inj.mp
  have h1 : (nI v).toInt = (v : Int) := nI_toInt (by omega)
  rw [h1, Int16.toInt_toInt32, Int32.toInt_toInt16, h1]
  exact Int.bmod_eq_of_le (by omega) (by omega)
theorem nar_b {v : Nat} (h : v < 128) : vp_nar .byte (nI v) = nI v := by rw [vp_nar_byte, i2b_nI h]
theorem nar_s {v : Nat} (h : v < 32768) : vp_nar .short (nI v) = nI v := by rw [vp_nar_short, i2s_nI h]
theorem nar_z {v : Nat} (h : v < 2) : vp_nar .boolean (nI v) = nI v := by
  rcases (show v = 0 ∨ v = 1 by omega) with rfl | rfl <;> rfl
theorem upd_nRb {g : Nat → Nat} {i v : Nat} (h : i < 2147483648) (hv : v < 128) : upd (nR g) (nI i).toNatClampNeg (vp_nar .byte (nI v)) = nR (updN g i v) := by rw [nar_b hv, upd_nR h]
theorem upd_nRs {g : Nat → Nat} {i v : Nat} (h : i < 2147483648) (hv : v < 32768) : upd (nR g) (nI i).toNatClampNeg (vp_nar .short (nI v)) = nR (updN g i v) := by rw [nar_s hv, upd_nR h]
theorem upd_nRz {g : Nat → Nat} {i v : Nat} (h : i < 2147483648) (hv : v < 2) : upd (nR g) (nI i).toNatClampNeg (vp_nar .boolean (nI v)) = nR (updN g i v) := by rw [nar_z hv, upd_nR h]
theorem cpy_nR (f g : Nat → Nat) (sp dp n : Nat) : va_cpy (nR f) (nR g) sp dp n = nR (va_cpy f g sp dp n) := by
  funext j
  unfold nR va_cpy
  split <;> rfl
theorem fit_b {g : Nat → Nat} (h : ∀ j, g j < 128) (j : Nat) : fits .byte (.int (nR g j)) = true := by
  show fits .byte (.int (nI (g j))) = true
  rw [← i2b_nI (h j)]
  exact pk_fb _
theorem nI_dec {i : Nat} (h : 1 ≤ i) : nI i + (-1) = nI (i - 1) := by
  obtain ⟨k, rfl⟩ : ∃ k, i = k + 1 := ⟨i - 1, by omega⟩
  rw [pk_m1]; rfl
theorem nI_sub20 {i : Nat} (h : 20 ≤ i) : nI i + (-20) = nI (i - 20) := by
  obtain ⟨k, rfl⟩ : ∃ k, i = k + 20 := ⟨i - 20, by omega⟩
  rw [← nI_add, Int32.add_assoc, show nI 20 + (-20) = 0 from by decide, Int32.add_zero, Nat.add_sub_cancel]
theorem in_of {p : Int32} {z : Nat} (hz : z < 2147483648) (h0 : ¬ p < 0) (h1 : ¬ nI z ≤ p) : ∃ j, j < z ∧ p = nI j := by
  rcases pk_ix p (n := z) (by omega) with h | h | h
  · exact absurd h h0
  · exact absurd h h1
  · exact h
theorem nin_lt {p : Int32} {z : Nat} (hz : z < 2147483648) (h : p < 0) : ¬ ∃ j, j < z ∧ p = nI j := fun ⟨j, hj, e⟩ => by
  rw [e] at h; exact nI_pos (n := j) (by omega) h
theorem nin_ge {p : Int32} {z : Nat} (hz : z < 2147483648) (h : nI z ≤ p) : ¬ ∃ j, j < z ∧ p = nI j := fun ⟨j, hj, e⟩ => by
  rw [e] at h; exact absurd ((nI_leI (a := z) (b := j) (by omega) (by omega)).mp h) (by omega)
theorem in_le {p : Int32} {z : Nat} (hz : z < 2147483647) (h0 : ¬ p < 0) (h1 : ¬ nI z < p) : ∃ j, j ≤ z ∧ p = nI j := by
  obtain ⟨j, hj, e⟩ := nI_of h0
  rw [e] at h1
  exact ⟨j, Nat.not_lt.mp (fun h => h1 ((nI_ltI (a := z) (b := j) (by omega) (by omega)).mpr h)), e⟩
theorem nin_lt2 {p : Int32} {z : Nat} (hz : z < 2147483647) (h : p < 0) : ¬ ∃ j, j ≤ z ∧ p = nI j := fun ⟨j, hj, e⟩ => by
  rw [e] at h; exact nI_pos (n := j) (by omega) h
theorem nin_gt {p : Int32} {z : Nat} (hz : z < 2147483647) (h : nI z < p) : ¬ ∃ j, j ≤ z ∧ p = nI j := fun ⟨j, hj, e⟩ => by
  rw [e] at h; exact absurd ((nI_ltI (a := z) (b := j) (by omega) (by omega)).mp h) (by omega)
theorem nI_nm1 {n : Nat} (h : n < 2147483648) : ¬ nI n = -1 := fun e => by
  have h1 := nI_pos (n := n) (by omega)
  rw [e] at h1
  exact h1 (by decide)

/-- the kind of a sign: letters are of one kind -/
def kN (a : Nat) : Nat := if a ≤ 26 then 0 else a
theorem kN_lt {a : Nat} (h : a < 30) : kN a < 30 := by unfold kN; split <;> omega
/-- a word begins at this place -/
abbrev bW (g : Nat → Nat) (at_ : Nat) : Prop := kN (g at_) ≠ 29 ∧ (at_ = 0 ∨ kN (g (at_ - 1)) ≠ kN (g at_))
/-- L is the length of the word that begins at at_, in a text of n signs -/
def LF (g : Nat → Nat) (n at_ L : Nat) : Prop := 1 ≤ L ∧ at_ + L ≤ n ∧ (kN (g at_) = 28 ∨ L ≤ 24) ∧ (∀ k, k < L → kN (g (at_ + k)) = kN (g at_)) ∧ (at_ + L = n ∨ (kN (g at_) ≠ 28 ∧ L = 24) ∨ kN (g (at_ + L)) ≠ kN (g at_))

/-- how far a word may go -/
def bD (g : Nat → Nat) (n at_ : Nat) : Nat := if kN (g at_) = 28 then n else if at_ + 24 < n then at_ + 24 else n
theorem bD_spec (g : Nat → Nat) {n at_ : Nat} (h : at_ < n) : bD g n at_ ≤ n ∧ at_ + 1 ≤ bD g n at_ ∧ (kN (g at_) = 28 ∨ bD g n at_ ≤ at_ + 24) ∧ (bD g n at_ = n ∨ (kN (g at_) ≠ 28 ∧ bD g n at_ = at_ + 24)) := by
  unfold bD
  split
  · next e => exact ⟨Nat.le_refl _, h, Or.inl e, Or.inl rfl⟩
  · next e =>
    split
    · exact ⟨by omega, by omega, Or.inr (Nat.le_refl _), Or.inr ⟨e, rfl⟩⟩
    · exact ⟨Nat.le_refl _, h, Or.inr (by omega), Or.inl rfl⟩
theorem bD_min (g : Nat → Nat) {n at_ : Nat} (hn : n ≤ 600) (h : at_ < n) (e : kN (g at_) ≠ 28) : (if nI (at_ + 24) < nI n then nI (at_ + 24) else nI n) = nI (bD g n at_) := by
  unfold bD
  rw [if_neg e]
  by_cases h9 : at_ + 24 < n
  · rw [if_pos h9, if_pos (nI_lt h9 (by omega))]
  · rw [if_neg h9, if_neg (nI_nlt (by omega) (by omega))]
theorem LF_0 {g : Nat → Nat} {at_ : Nat} : ∀ k, at_ + k < at_ + 1 → kN (g (at_ + k)) = kN (g at_) := fun k hk => by
  have h0 : k = 0 := by omega
  rw [h0]; rfl
theorem LF_s {g : Nat → Nat} {at_ ee : Nat} (h : ∀ k, at_ + k < ee → kN (g (at_ + k)) = kN (g at_)) (n : kN (g ee) = kN (g at_)) : ∀ k, at_ + k < ee + 1 → kN (g (at_ + k)) = kN (g at_) := fun k hk => by
  rcases Nat.lt_or_ge (at_ + k) ee with h1 | h1
  · exact h k h1
  · rw [show at_ + k = ee by omega]; exact n
theorem LF_e {g : Nat → Nat} {n at_ ee : Nat} (ha : at_ < n) (h1 : at_ + 1 ≤ ee) (h2 : ee ≤ bD g n at_) (h : ∀ k, at_ + k < ee → kN (g (at_ + k)) = kN (g at_)) (hx : bD g n at_ ≤ ee ∨ kN (g ee) ≠ kN (g at_)) : LF g n at_ (ee - at_) := by
  obtain ⟨b1, b2, b3, b4⟩ := bD_spec g ha
  refine ⟨by omega, by omega, b3.elim Or.inl (fun h => Or.inr (by omega)), fun k hk => h k (by omega), ?_⟩
  rcases hx with hx | hx
  · rcases b4 with b4 | ⟨b4, b5⟩
    · exact Or.inl (by omega)
    · exact Or.inr (Or.inl ⟨b4, by omega⟩)
  · exact Or.inr (Or.inr (by rw [show at_ + (ee - at_) = ee by omega]; exact hx))

/-- how many words begin ahead of this place -/
def cB (g : Nat → Nat) : Nat → Nat
  | 0 => 0
  | n + 1 => cB g n + (if bW g n then 1 else 0)
theorem cB_y {g : Nat → Nat} {n : Nat} (h : bW g n) : cB g (n + 1) = cB g n + 1 := by show cB g n + _ = _; rw [if_pos h]
theorem cB_n {g : Nat → Nat} {n : Nat} (h : ¬ bW g n) : cB g (n + 1) = cB g n := by show cB g n + _ = _; rw [if_neg h]; rfl
theorem cB_le (g : Nat → Nat) (i : Nat) : ∀ k, cB g i ≤ cB g (i + k)
  | 0 => Nat.le_refl _
  | k + 1 => Nat.le_trans (cB_le g i k) (Nat.le_add_right _ _)
theorem cB_mono {g : Nat → Nat} {i j : Nat} (h : i ≤ j) : cB g i ≤ cB g j := by
  have := cB_le g i (j - i)
  rwa [show i + (j - i) = j by omega] at this
theorem cB_lt {g : Nat → Nat} {i j : Nat} (hb : bW g i) (h : i < j) : cB g i < cB g j := by
  have := cB_mono (g := g) (i := i + 1) (j := j) h
  rw [cB_y hb] at this
  exact this
/-- the words' places and lengths, of those that begin ahead of i -/
def okW (g sb ln : Nat → Nat) (n i : Nat) : Prop := ∀ a, a < i → bW g a → sb (cB g a) = a ∧ LF g n a (ln (cB g a))
theorem okW_0 {g sb ln : Nat → Nat} {n : Nat} : okW g sb ln n 0 := fun a h => absurd h (Nat.not_lt_zero a)
theorem okW_n {g sb ln : Nat → Nat} {n i : Nat} (h : okW g sb ln n i) (hb : ¬ bW g i) : okW g sb ln n (i + 1) := fun a ha hba => by
  rcases Nat.lt_or_ge a i with h1 | h1
  · exact h a h1 hba
  · rw [show a = i by omega] at hba; exact absurd hba hb
theorem okW_y {g sb ln : Nat → Nat} {n i L : Nat} (h : okW g sb ln n i) (hb : bW g i) (hL : LF g n i L) : okW g (updN sb (cB g i) i) (updN ln (cB g i) L) n (i + 1) := fun a ha hba => by
  rcases Nat.lt_or_ge a i with h1 | h1
  · have hne : cB g a ≠ cB g i := Nat.ne_of_lt (cB_lt hba h1)
    rw [updN_n hne, updN_n hne]; exact h a h1 hba
  · have e : a = i := by omega
    rw [e, updN_s, updN_s]; exact ⟨rfl, hL⟩
theorem cB_pos {g : Nat → Nat} {n : Nat} : ∀ i, i < cB g n → ∃ a, a < n ∧ bW g a ∧ cB g a = i := by
  induction n with
  | zero => intro i h; exact absurd h (Nat.not_lt_zero i)
  | succ n ih =>
    intro i h
    by_cases hb : bW g n
    · rw [cB_y hb] at h
      rcases Nat.lt_or_ge i (cB g n) with h1 | h1
      · obtain ⟨a, h2, h3⟩ := ih i h1; exact ⟨a, by omega, h3⟩
      · exact ⟨n, by omega, hb, by omega⟩
    · rw [cB_n hb] at h
      obtain ⟨a, h2, h3⟩ := ih i h; exact ⟨a, by omega, h3⟩

/-- the word p of the list is the word of L signs from s on -/
abbrev sW (lt lw g : Nat → Nat) (s L p : Nat) : Prop := lw p = L ∧ ∀ k, k < L → lt (p * 24 + k) = g (s + k)
theorem sW_s {lt g : Nat → Nat} {s p kk : Nat} (h : ∀ k, k < kk → lt (p * 24 + k) = g (s + k)) (e : lt (p * 24 + kk) = g (s + kk)) : ∀ k, k < kk + 1 → lt (p * 24 + k) = g (s + k) := fun k hk => by
  rcases Nat.lt_or_ge k kk with h1 | h1
  · exact h k h1
  · rw [show k = kk by omega]; exact e

abbrev ix3 (t a b : Nat) : Nat := (t * 28 + a) * 28 + b
/-- what a pair costs that was counted x times: 100, and 20 less with each doubling -/
def cp : Nat → Nat → Int32 → Nat
  | 0, lf, _ => lf
  | k + 1, lf, x => if 0 < x ∧ 0 < lf then cp k (lf - 20) (x >>> ((1 : Int32) &&& 31)) else lf
def cost1 (x : Int32) : Nat := cp 6 100 x
theorem cp_le : ∀ (k lf : Nat) (x : Int32), cp k lf x ≤ lf
  | 0, _, _ => Nat.le_refl _
  | k + 1, lf, x => by
    unfold cp
    split
    · exact Nat.le_trans (cp_le k (lf - 20) _) (Nat.sub_le _ _)
    · exact Nat.le_refl _
theorem cost1_le (x : Int32) : cost1 x ≤ 100 := cp_le 6 100 x
theorem cp_y {k lf : Nat} {x : Int32} (h : 0 < k) (hx : ¬ x ≤ 0) (hl : 0 < lf) : cp k lf x = cp (k - 1) (lf - 20) (x >>> ((1 : Int32) &&& 31)) := by
  obtain ⟨j, rfl⟩ : ∃ j, k = j + 1 := ⟨k - 1, by omega⟩
  show (if 0 < x ∧ 0 < lf then _ else _) = _
  rw [if_pos ⟨Int32.not_le.mp hx, hl⟩]; rfl
theorem cp_n {k lf : Nat} {x : Int32} (h : x ≤ 0 ∨ lf ≤ 0) : cp k lf x = lf := by
  cases k with
  | zero => rfl
  | succ j =>
    show (if 0 < x ∧ 0 < lf then _ else _) = _
    rw [if_neg (fun q => h.elim (fun h => Int32.not_lt.mpr h q.1) (fun h => by omega))]
/-- the sign ahead of the k-th of a word -/
def fmr (g : Nat → Nat) (s k : Nat) : Nat := if k = 0 then 27 else g (s + k - 1)
/-- the cost of a word's first k pairs in tongue t -/
def spS (f : Nat → Int32) (t : Nat) (g : Nat → Nat) (s : Nat) : Nat → Nat
  | 0 => 0
  | k + 1 => spS f t g s k + cost1 (f (ix3 t (fmr g s k) (g (s + k))))
def spN (f : Nat → Int32) (t : Nat) (g : Nat → Nat) (s L : Nat) : Nat := spS f t g s L + cost1 (f (ix3 t (fmr g s L) 27))
theorem spS_le (f : Nat → Int32) (t : Nat) (g : Nat → Nat) (s : Nat) : ∀ k, spS f t g s k ≤ 100 * k
  | 0 => Nat.le_refl _
  | k + 1 => by
    have h1 := spS_le f t g s k
    have h2 := cost1_le (f (ix3 t (fmr g s k) (g (s + k))))
    show spS f t g s k + _ ≤ _
    omega
theorem spN_le (f : Nat → Int32) (t : Nat) (g : Nat → Nat) (s L : Nat) : spN f t g s L ≤ 100 * (L + 1) := by
  have h1 := spS_le f t g s L
  have h2 := cost1_le (f (ix3 t (fmr g s L) 27))
  unfold spN
  omega
theorem fmr_s {g : Nat → Nat} {s k : Nat} : fmr g s (k + 1) = g (s + k) := by
  unfold fmr; rw [if_neg (by omega)]; rfl
theorem fmr_lt {g : Nat → Nat} {s k : Nat} (h : ∀ j, j < k → g (s + j) ≤ 26) : fmr g s k < 28 := by
  unfold fmr
  split
  · omega
  · have := h (k - 1) (by omega)
    rw [show s + k - 1 = s + (k - 1) by omega]; omega
/-- the counts when a trail's first k signs were counted -/
def cT (f : Nat → Int32) (t : Nat) (gt : Nat → Nat) (st : Int32) : Nat → Nat → Int32
  | 0 => f
  | k + 1 => if k = 0 then f else upd (cT f t gt st k) (ix3 t (gt (k - 1)) (gt k)) (cT f t gt st k (ix3 t (gt (k - 1)) (gt k)) + st)
theorem cT_1 (f : Nat → Int32) (t : Nat) (gt : Nat → Nat) (st : Int32) : cT f t gt st 1 = f := rfl
theorem cT_s (f : Nat → Int32) (t : Nat) (gt : Nat → Nat) (st : Int32) {k : Nat} (h : 1 ≤ k) : cT f t gt st (k + 1) = upd (cT f t gt st k) (ix3 t (gt (k - 1)) (gt k)) (cT f t gt st k (ix3 t (gt (k - 1)) (gt k)) + st) := if_neg (by omega)

/-- -1, or a place below w -/
def oP (x : Int32) (w : Nat) : Prop := x = -1 ∨ ∃ j, j < w ∧ x = nI j
theorem oP_s {x : Int32} {w : Nat} (j : Nat) (h : j < w) (e : x = nI j) : oP x w := Or.inr ⟨j, h, e⟩

/-- a sign that a text may hold -/
abbrev sgn (a : Nat) : Prop := a < 30 ∧ a ≠ 27
abbrev inT (z : Nat) (p : Int32) : Prop := ∃ j, j < z ∧ p = nI j
abbrev onT (z : Nat) (p : Int32) : Prop := ∃ j, j ≤ z ∧ p = nI j
/-- a byte's sign -/
def sgF (a : Nat) : Nat := if 97 ≤ a ∧ a ≤ 122 then a - 97 else if 65 ≤ a ∧ a ≤ 90 then a - 65 else if 48 ≤ a ∧ a ≤ 57 then 28 else if a = 39 then 26 else 29
theorem sgF_ok (a : Nat) : sgn (sgF a) := by
  unfold sgF sgn
  split
  · omega
  · split
    · omega
    · split
      · omega
      · split <;> omega
theorem sgn_upd {g : Nat → Nat} {k v : Nat} (h : ∀ j, sgn (g j)) (hv : sgn v) : ∀ j, sgn (updN g k v j) := fun j => by
  unfold updN; split
  · exact hv
  · exact h j
theorem sgn_cpy {f g : Nat → Nat} {a b n : Nat} (hf : ∀ j, sgn (f j)) (hg : ∀ j, sgn (g j)) : ∀ j, sgn (va_cpy f g a b n j) := fun j => by
  unfold va_cpy; split
  · exact hf _
  · exact hg j
/-- a text whose words were found -/
def SOK (g sb ln : Nat → Nat) (n w : Nat) : Prop := n ≤ 600 ∧ w ≤ 60 ∧ w = cB g n ∧ okW g sb ln n n ∧ ∀ j, sgn (g j)
theorem SOK.wd {g sb ln : Nat → Nat} {n w i : Nat} (h : SOK g sb ln n w) (hi : i < w) : i < 60 ∧ sb i + ln i ≤ n ∧ 1 ≤ ln i ∧ n ≤ 600 ∧ (g (sb i) ≠ 28 → ln i ≤ 24 ∧ ∀ k, k < ln i → g (sb i + k) ≤ 26) := by
  obtain ⟨h1, h2, h3, h4, h5⟩ := h
  obtain ⟨a, ha, hb, e⟩ := cB_pos (g := g) (n := n) i (by omega)
  obtain ⟨q1, q2⟩ := h4 a ha hb
  rw [e] at q1 q2
  obtain ⟨r1, r2, r3, r4, -⟩ := q2
  refine ⟨by omega, by rw [q1]; exact r2, r1, h1, fun hn => ?_⟩
  rw [q1] at hn ⊢
  have h9 := h5 a
  have hk0 : kN (g a) = 0 := by
    have hb1 := hb.1
    unfold kN at hb1 ⊢
    split
    · rfl
    · next hh => rw [if_neg hh] at hb1; omega
  refine ⟨r3.elim (fun h => by omega) id, fun k hk => ?_⟩
  have h10 := r4 k hk
  rw [hk0] at h10
  unfold kN at h10
  split at h10 <;> omega
theorem SOK.hg {g sb ln : Nat → Nat} {n w : Nat} (h : SOK g sb ln n w) : ∀ j, g j < 30 := fun j => (h.2.2.2.2 j).1
theorem SOK_0 {g sb ln : Nat → Nat} (h : ∀ j, sgn (g j)) : SOK g sb ln 0 0 := ⟨by omega, by omega, rfl, okW_0, h⟩
/-- a list of words -/
def WOK (lt lw : Nat → Nat) (z m : Nat) : Prop := z ≤ m ∧ (∀ j, sgn (lt j)) ∧ ∀ p, p < z → lw p ≤ 24
theorem WOK.hlt {lt lw : Nat → Nat} {z m : Nat} (h : WOK lt lw z m) : ∀ j, lt j < 30 := fun j => (h.2.1 j).1

/-- eight bits of a number -/
def byN (p : Int32) (k : Nat) : Nat := p.toBitVec.toNat / 2 ^ k % 256
/-- the k-th of the twenty bytes of five numbers -/
def fdS (p0 p1 p2 p3 p4 : Int32) (k : Nat) : Int32 := if k < 4 then p0 else if k < 8 then p1 else if k < 12 then p2 else if k < 16 then p3 else p4
def fdB (p0 p1 p2 p3 p4 : Int32) (k : Nat) : Nat := byN (fdS p0 p1 p2 p3 p4 k) (24 - 8 * (k % 4))
/-- a number's four bytes put behind a tape -/
def pb4 (g : Nat → Nat) (t : Nat) (p : Int32) : Nat → Nat := updN (updN (updN (updN g t (sgF (byN p 24))) (t + 1) (sgF (byN p 16))) (t + 1 + 1) (sgF (byN p 8))) (t + 1 + 1 + 1) (sgF (byN p 0))
theorem pb4_in {g : Nat → Nat} {t : Nat} {p : Int32} {j k : Nat} (h : j = t + k) (hk : k < 4) : pb4 g t p j = sgF (byN p (24 - 8 * k)) := by
  subst h
  unfold pb4
  rcases (show k = 0 ∨ k = 1 ∨ k = 2 ∨ k = 3 by omega) with rfl | rfl | rfl | rfl
  · rw [updN_n (by omega), updN_n (by omega), updN_n (by omega)]; exact updN_s
  · rw [updN_n (by omega), updN_n (by omega)]; exact updN_s
  · rw [updN_n (by omega)]; exact updN_s
  · exact updN_s
theorem pb4_out {g : Nat → Nat} {t : Nat} {p : Int32} {j : Nat} (h : j < t ∨ t + 4 ≤ j) : pb4 g t p j = g j := by
  unfold pb4
  rw [updN_n (by omega), updN_n (by omega), updN_n (by omega), updN_n (by omega)]
theorem fd_cls (g : Nat → Nat) (t : Nat) (p0 p1 p2 p3 p4 : Int32) (j : Nat) : pb4 (pb4 (pb4 (pb4 (pb4 g t p0) (t + 1 + 1 + 1 + 1) p1) (t + 1 + 1 + 1 + 1 + 1 + 1 + 1 + 1) p2) (t + 1 + 1 + 1 + 1 + 1 + 1 + 1 + 1 + 1 + 1 + 1 + 1) p3) (t + 1 + 1 + 1 + 1 + 1 + 1 + 1 + 1 + 1 + 1 + 1 + 1 + 1 + 1 + 1 + 1) p4 j = if t ≤ j ∧ j < t + 20 then sgF (fdB p0 p1 p2 p3 p4 (j - t)) else g j := by
  by_cases h : t ≤ j ∧ j < t + 20
  · rw [if_pos h]
    obtain ⟨k, rfl⟩ : ∃ k, j = t + k := ⟨j - t, by omega⟩
    rw [Nat.add_sub_cancel_left]
    unfold fdB fdS
    rcases (show k < 4 ∨ (4 ≤ k ∧ k < 8) ∨ (8 ≤ k ∧ k < 12) ∨ (12 ≤ k ∧ k < 16) ∨ 16 ≤ k by omega) with h1 | h1 | h1 | h1 | h1
    · rw [pb4_out (by omega), pb4_out (by omega), pb4_out (by omega), pb4_out (by omega), pb4_in (k := k) rfl h1, if_pos h1, show k % 4 = k by omega]
    · rw [pb4_out (by omega), pb4_out (by omega), pb4_out (by omega), pb4_in (k := k - 4) (by omega) (by omega), if_neg (by omega), if_pos (by omega), show k % 4 = k - 4 by omega]
    · rw [pb4_out (by omega), pb4_out (by omega), pb4_in (k := k - 8) (by omega) (by omega), if_neg (by omega), if_neg (by omega), if_pos (by omega), show k % 4 = k - 8 by omega]
    · rw [pb4_out (by omega), pb4_in (k := k - 12) (by omega) (by omega), if_neg (by omega), if_neg (by omega), if_neg (by omega), if_pos (by omega), show k % 4 = k - 12 by omega]
    · rw [pb4_in (k := k - 16) (by omega) (by omega), if_neg (by omega), if_neg (by omega), if_neg (by omega), if_neg (by omega), show k % 4 = k - 16 by omega]
  · rw [if_neg h, pb4_out (by omega), pb4_out (by omega), pb4_out (by omega), pb4_out (by omega), pb4_out (by omega)]

theorem fa_ltt {a b c : Int32} (h : a < b) (h2 : b < c) : a < c := by
  rw [Int32.lt_iff_toInt_lt] at *; omega
/-- what set takes -/
def st_ok (a b : Int32) : Prop := ¬ a < 0 ∧ ¬ 2000 < a ∧ ¬ b < 1 ∧ b ≤ 5000
theorem st_nat {a b : Int32} (h : st_ok a b) : ∃ u v : Nat, a = nI u ∧ b = nI v ∧ u ≤ 2000 ∧ 1 ≤ v ∧ v ≤ 5000 := by
  obtain ⟨h1, h2, h3, h4⟩ := h
  obtain ⟨u, hu, e1⟩ := nI_of h1
  have h5 : ¬ b < 0 := fun h => h3 (fa_ltt h (by decide))
  obtain ⟨v, hv, e2⟩ := nI_of h5
  refine ⟨u, v, e1, e2, ?_, ?_, ?_⟩
  · rw [e1] at h2
    exact Nat.not_lt.mp fun h => h2 (nI_lt (a := 2000) h (by omega))
  · rw [e2] at h3
    exact Nat.not_lt.mp fun h => h3 (nI_lt (b := 1) h (by omega))
  · rw [e2] at h4
    exact (nI_leI (a := v) (b := 5000) (by omega) (by omega)).mp h4

/-- a word of the draft counts: no mark, no name -/
abbrev cnD (lt lw : Nat → Nat) (z : Nat) (g sb ln : Nat → Nat) (i : Nat) : Prop := ¬ g (sb i) = 28 ∧ ∀ p, p < z → ¬ sW lt lw g (sb i) (ln i) p
/-- the trail of the first words: how long, and its signs -/
def tln (lt lw : Nat → Nat) (z : Nat) (g sb ln : Nat → Nat) : Nat → Nat
  | 0 => 1
  | i + 1 => tln lt lw z g sb ln i + (if cnD lt lw z g sb ln i then ln i + 1 else 0)
def tgr (lt lw : Nat → Nat) (z : Nat) (g sb ln : Nat → Nat) : Nat → Nat → Nat
  | 0 => updN (fun _ => 0) 0 27
  | i + 1 => if cnD lt lw z g sb ln i then updN (va_cpy g (tgr lt lw z g sb ln i) (sb i) (tln lt lw z g sb ln i) (ln i)) (tln lt lw z g sb ln i + ln i) 27 else tgr lt lw z g sb ln i
section TRL0
variable {lt lw g sb ln : Nat → Nat} {z n w i : Nat}
theorem tln_y (h : cnD lt lw z g sb ln i) : tln lt lw z g sb ln (i + 1) = tln lt lw z g sb ln i + (ln i + 1) := by
  show tln lt lw z g sb ln i + _ = _
  rw [if_pos h]
theorem tln_n (h : ¬ cnD lt lw z g sb ln i) : tln lt lw z g sb ln (i + 1) = tln lt lw z g sb ln i := by
  show tln lt lw z g sb ln i + _ = _
  rw [if_neg h]; rfl
theorem tgr_y (h : cnD lt lw z g sb ln i) : tgr lt lw z g sb ln (i + 1) = updN (va_cpy g (tgr lt lw z g sb ln i) (sb i) (tln lt lw z g sb ln i) (ln i)) (tln lt lw z g sb ln i + ln i) 27 := if_pos h
theorem tgr_n (h : ¬ cnD lt lw z g sb ln i) : tgr lt lw z g sb ln (i + 1) = tgr lt lw z g sb ln i := if_neg h
end TRL0

/-- what count answers -/
def cntF (p x0 x1 x2 x3 x4 x5 x6 : Int32) : Int32 := if p = nI 0 then x0 else if p = nI 1 then x1 else if p = nI 2 then x2 else if p = nI 3 then x3 else if p = nI 4 then x4 else if p = nI 5 then x5 else if p = nI 6 then x6 else (-1)
theorem cntF_lt {p x0 x1 x2 x3 x4 x5 x6 : Int32} (h : p < 0) : cntF p x0 x1 x2 x3 x4 x5 x6 = (-1) := by
  have hn : ∀ k, k < 7 → ¬ p = nI k := fun k hk e => by rw [e] at h; exact nI_pos (n := k) (by omega) h
  unfold cntF
  rw [if_neg (hn 0 (by omega)), if_neg (hn 1 (by omega)), if_neg (hn 2 (by omega)), if_neg (hn 3 (by omega)), if_neg (hn 4 (by omega)), if_neg (hn 5 (by omega)), if_neg (hn 6 (by omega))]
theorem cntF_ge {p x0 x1 x2 x3 x4 x5 x6 : Int32} (h : nI 7 ≤ p) : cntF p x0 x1 x2 x3 x4 x5 x6 = (-1) := by
  have hn : ∀ k, k < 7 → ¬ p = nI k := fun k hk e => by rw [e] at h; exact absurd ((nI_leI (a := 7) (b := k) (by omega) (by omega)).mp h) (by omega)
  unfold cntF
  rw [if_neg (hn 0 (by omega)), if_neg (hn 1 (by omega)), if_neg (hn 2 (by omega)), if_neg (hn 3 (by omega)), if_neg (hn 4 (by omega)), if_neg (hn 5 (by omega)), if_neg (hn 6 (by omega))]

/-- how many bits are set, as the JDK counts them -/
def bitc (p0 : Int32) : Int32 := (((((((p0 - (((p0.toUInt32 >>> (Int32.toUInt32 1 &&& Int32.toUInt32 31)).toInt32) &&& 1431655765)) &&& 858993459) + ((((p0 - (((p0.toUInt32 >>> (Int32.toUInt32 1 &&& Int32.toUInt32 31)).toInt32) &&& 1431655765)).toUInt32 >>> (Int32.toUInt32 2 &&& Int32.toUInt32 31)).toInt32) &&& 858993459)) + (((((p0 - (((p0.toUInt32 >>> (Int32.toUInt32 1 &&& Int32.toUInt32 31)).toInt32) &&& 1431655765)) &&& 858993459) + ((((p0 - (((p0.toUInt32 >>> (Int32.toUInt32 1 &&& Int32.toUInt32 31)).toInt32) &&& 1431655765)).toUInt32 >>> (Int32.toUInt32 2 &&& Int32.toUInt32 31)).toInt32) &&& 858993459)).toUInt32 >>> (Int32.toUInt32 4 &&& Int32.toUInt32 31)).toInt32)) &&& 252645135) + (((((((p0 - (((p0.toUInt32 >>> (Int32.toUInt32 1 &&& Int32.toUInt32 31)).toInt32) &&& 1431655765)) &&& 858993459) + ((((p0 - (((p0.toUInt32 >>> (Int32.toUInt32 1 &&& Int32.toUInt32 31)).toInt32) &&& 1431655765)).toUInt32 >>> (Int32.toUInt32 2 &&& Int32.toUInt32 31)).toInt32) &&& 858993459)) + (((((p0 - (((p0.toUInt32 >>> (Int32.toUInt32 1 &&& Int32.toUInt32 31)).toInt32) &&& 1431655765)) &&& 858993459) + ((((p0 - (((p0.toUInt32 >>> (Int32.toUInt32 1 &&& Int32.toUInt32 31)).toInt32) &&& 1431655765)).toUInt32 >>> (Int32.toUInt32 2 &&& Int32.toUInt32 31)).toInt32) &&& 858993459)).toUInt32 >>> (Int32.toUInt32 4 &&& Int32.toUInt32 31)).toInt32)) &&& 252645135).toUInt32 >>> (Int32.toUInt32 8 &&& Int32.toUInt32 31)).toInt32)) + ((((((((p0 - (((p0.toUInt32 >>> (Int32.toUInt32 1 &&& Int32.toUInt32 31)).toInt32) &&& 1431655765)) &&& 858993459) + ((((p0 - (((p0.toUInt32 >>> (Int32.toUInt32 1 &&& Int32.toUInt32 31)).toInt32) &&& 1431655765)).toUInt32 >>> (Int32.toUInt32 2 &&& Int32.toUInt32 31)).toInt32) &&& 858993459)) + (((((p0 - (((p0.toUInt32 >>> (Int32.toUInt32 1 &&& Int32.toUInt32 31)).toInt32) &&& 1431655765)) &&& 858993459) + ((((p0 - (((p0.toUInt32 >>> (Int32.toUInt32 1 &&& Int32.toUInt32 31)).toInt32) &&& 1431655765)).toUInt32 >>> (Int32.toUInt32 2 &&& Int32.toUInt32 31)).toInt32) &&& 858993459)).toUInt32 >>> (Int32.toUInt32 4 &&& Int32.toUInt32 31)).toInt32)) &&& 252645135) + (((((((p0 - (((p0.toUInt32 >>> (Int32.toUInt32 1 &&& Int32.toUInt32 31)).toInt32) &&& 1431655765)) &&& 858993459) + ((((p0 - (((p0.toUInt32 >>> (Int32.toUInt32 1 &&& Int32.toUInt32 31)).toInt32) &&& 1431655765)).toUInt32 >>> (Int32.toUInt32 2 &&& Int32.toUInt32 31)).toInt32) &&& 858993459)) + (((((p0 - (((p0.toUInt32 >>> (Int32.toUInt32 1 &&& Int32.toUInt32 31)).toInt32) &&& 1431655765)) &&& 858993459) + ((((p0 - (((p0.toUInt32 >>> (Int32.toUInt32 1 &&& Int32.toUInt32 31)).toInt32) &&& 1431655765)).toUInt32 >>> (Int32.toUInt32 2 &&& Int32.toUInt32 31)).toInt32) &&& 858993459)).toUInt32 >>> (Int32.toUInt32 4 &&& Int32.toUInt32 31)).toInt32)) &&& 252645135).toUInt32 >>> (Int32.toUInt32 8 &&& Int32.toUInt32 31)).toInt32)).toUInt32 >>> (Int32.toUInt32 16 &&& Int32.toUInt32 31)).toInt32)) &&& 63
/-- the bits 0 .. k - 1 counted one by one -/
def popI (x : Int32) : Nat → Int32
  | 0 => 0
  | k + 1 => popI x k + ((x >>> (nI k &&& 31)) &&& 1)
theorem bitc_pop : ∀ v : Fin 256, bitc (nI v.val) = popI (nI v.val) 8 := by decide +kernel
def kOR (x : Int32) (j : Nat) : Int32 := x ||| ((1 : Int32) <<< (nI j &&& 31))
def kBT (x : Int32) (j : Nat) : Int32 := (x >>> (nI j &&& 31)) &&& 1
theorem kOR_v : ∀ (v : Fin 256) (j : Fin 8), kOR (nI v.val) j.val = nI (v.val ||| 2 ^ j.val) := by decide +kernel
theorem kOR_nat (v : Fin 256) (j : Fin 8) : ∃ w : Fin 256, kOR (nI v.val) j.val = nI w.val :=
  ⟨⟨v.val ||| 2 ^ j.val, Nat.or_lt_two_pow (n := 8) v.isLt (Nat.pow_lt_pow_right (by decide) j.isLt)⟩, kOR_v v j⟩
theorem kBT_01 : ∀ (v : Fin 256) (j : Fin 8), kBT (nI v.val) j.val = 0 ∨ kBT (nI v.val) j.val = 1 := by decide +kernel

theorem SOK_mk {g sb ln : Nat → Nat} {n w : Nat} (h1 : n ≤ 600) (h2 : w ≤ 60) (h3 : w = cB g n ∧ okW g sb ln n n) (h5 : ∀ j, sgn (g j)) : SOK g sb ln n w := ⟨h1, h2, h3.1, h3.2, h5⟩
/-- one word, of letters, from the tape's first k signs -/
def oneW (gt g2 : Nat → Nat) (k : Nat) : Prop := k ≤ 600 ∧ cB (va_cpy gt g2 0 0 k) k = 1 ∧ ∃ a, a < k ∧ bW (va_cpy gt g2 0 0 k) a ∧ va_cpy gt g2 0 0 k a ≠ 28
theorem oneW_st {g sb ln : Nat → Nat} {n w a : Nat} (h : SOK g sb ln n w) (h1 : w = 1) (ha : a < n) (hb : bW g a) : sb 0 = a := by
  obtain ⟨q1, q2, q3, q4, q5⟩ := h
  have h2 := cB_lt hb ha
  have e : cB g a = 0 := by omega
  have := (q4 a ha hb).1
  rw [e] at this
  exact this
theorem oneW_ex {g sb ln : Nat → Nat} {n w : Nat} (h : SOK g sb ln n w) (h1 : w = 1) (hm : g (sb 0) ≠ 28) : ∃ a, a < n ∧ bW g a ∧ g a ≠ 28 := by
  obtain ⟨a, ha, hb, e⟩ := cB_pos (g := g) (n := n) 0 (by have := h.2.2.1; omega)
  refine ⟨a, ha, hb, ?_⟩
  rw [← oneW_st h h1 ha hb]; exact hm

theorem WOK_take {lt lw g : Nat → Nat} {z m s L : Nat} (h : WOK lt lw z m) (hg : ∀ j, sgn (g j)) (hz : z < m) (hL : L ≤ 24) : WOK (va_cpy g lt s (z * 24) L) (updN lw z L) (z + 1) m := by
  obtain ⟨h1, h2, h3⟩ := h
  refine ⟨hz, sgn_cpy hg h2, fun p hp => ?_⟩
  unfold updN
  split
  · exact hL
  · exact h3 p (by omega)
