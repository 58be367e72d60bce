/-- the first of the list's words that is this one; z if there is none -/
def kwF (lt lw g : Nat → Nat) (s L : Nat) : Nat → Nat
  | 0 => 0
  | z + 1 => if kwF lt lw g s L z < z then kwF lt lw g s L z else if sW lt lw g s L z then z else z + 1
theorem kwF_sp (lt lw g : Nat → Nat) (s L : Nat) : ∀ z, (kwF lt lw g s L z = z ∧ ∀ p, p < z → ¬ sW lt lw g s L p) ∨ (kwF lt lw g s L z < z ∧ sW lt lw g s L (kwF lt lw g s L z) ∧ ∀ q, q < kwF lt lw g s L z → ¬ sW lt lw g s L q)
  | 0 => Or.inl ⟨rfl, fun p h => absurd h (Nat.not_lt_zero p)⟩
  | z + 1 => by
    have e : kwF lt lw g s L (z + 1) = if kwF lt lw g s L z < z then kwF lt lw g s L z else if sW lt lw g s L z then z else z + 1 := rfl
    rcases kwF_sp lt lw g s L z with ⟨h1, h2⟩ | ⟨h1, h2, h3⟩
    · rw [if_neg (by omega)] at e
      by_cases hs : sW lt lw g s L z
      · rw [if_pos hs] at e
        rw [e]; exact Or.inr ⟨by omega, hs, h2⟩
      · rw [if_neg hs] at e
        rw [e]
        refine Or.inl ⟨rfl, fun p hp => ?_⟩
        rcases Nat.lt_or_ge p z with h | h
        · exact h2 p h
        · rw [show p = z by omega]; exact hs
    · rw [if_pos h1] at e
      rw [e]; exact Or.inr ⟨by omega, h2, h3⟩
theorem kwF_n {lt lw g : Nat → Nat} {s L z : Nat} (h : ∀ p, p < z → ¬ sW lt lw g s L p) : kwF lt lw g s L z = z := by
  rcases kwF_sp lt lw g s L z with ⟨h1, _⟩ | ⟨h1, h2, _⟩
  · exact h1
  · exact absurd h2 (h _ h1)
theorem kwF_y {lt lw g : Nat → Nat} {s L z p : Nat} (hp : p < z) (h : sW lt lw g s L p) (hq : ∀ q, q < p → ¬ sW lt lw g s L q) : kwF lt lw g s L z = p := by
  rcases kwF_sp lt lw g s L z with ⟨_, h2⟩ | ⟨h1, h2, h3⟩
  · exact absurd h (h2 p hp)
  · rcases Nat.lt_trichotomy (kwF lt lw g s L z) p with h9 | h9 | h9
    · exact absurd h2 (hq _ h9)
    · exact h9
    · exact absurd h (h3 p h9)
/-- the tongues that have word i as a keyword, as the class holds them -/
def kpF (lt lw : Nat → Nat) (z : Nat) (lt6 lw6 : Nat → Nat) (z6 : Nat) (fk : Nat → Int32) (g sb ln : Nat → Nat) (i : Nat) : Int32 := if cnD lt lw z g sb ln i then (if kwF lt6 lw6 g (sb i) (ln i) z6 < z6 then fk (kwF lt6 lw6 g (sb i) (ln i) z6) else 0) else (-1)
def ciT (p : Int32) (tt sp : Nat) : Nat := if p = (-1) ∨ ¬ kBT p tt = 0 then 0 else if p = 0 then sp else sp + 300
/-- the cost of word i in tongue tt, as the class counts it -/
def wcC (lt lw : Nat → Nat) (z : Nat) (lt6 lw6 : Nat → Nat) (z6 : Nat) (fk f : Nat → Int32) (g sb ln : Nat → Nat) (i tt : Nat) : Nat := ciT (kpF lt lw z lt6 lw6 z6 fk g sb ln i) tt (spN f tt g (sb i) (ln i))
theorem wcC_le {lt lw : Nat → Nat} {z : Nat} {lt6 lw6 : Nat → Nat} {z6 : Nat} {fk f : Nat → Int32} {g sb ln : Nat → Nat} {n w i tt : Nat} (h : SOK g sb ln n w) (hi : i < w) : wcC lt lw z lt6 lw6 z6 fk f g sb ln i tt ≤ 2800 := by
  unfold wcC ciT
  split
  · omega
  · next hn =>
    have h1 : cnD lt lw z g sb ln i := Classical.byContradiction fun hc => hn (Or.inl (if_neg hc))
    have h2 := ((h.wd hi).2.2.2.2 h1.1).1
    have h3 := spN_le f tt g (sb i) (ln i)
    split <;> omega
/-- a sum -/
def smW (f : Nat → Nat) : Nat → Nat
  | 0 => 0
  | n + 1 => smW f n + f n
theorem smW_cg {f g : Nat → Nat} : ∀ n, (∀ j, j < n → f j = g j) → smW f n = smW g n
  | 0, _ => rfl
  | n + 1, h => by
    show smW f n + f n = smW g n + g n
    rw [smW_cg n (fun j hj => h j (by omega)), h n (by omega)]
theorem OPT_wc {gc : Nat → Nat} {ot : Int32} {c : Nat → Nat → Nat} {ch z w : Nat} {p : Nat → Nat} (h : OPT (cbr gc (-1) ot) ch z w p) (e : ∀ i t, i < w → t < z → gc (i * 8 + t) = c i t) (hw : w ≤ 60) : OPT c ch z w p ∧ pfC (cbr gc (-1) ot) ch p w = pfC c ch p w :=
  OPT_cc h (fun i t hi ht => by rw [cbr_y (Or.inl (nI_nm1 (by omega)))]; exact e i t hi ht)
theorem CCB_of {gc : Nat → Nat} {c : Nat → Nat → Nat} {w z : Nat} (e : ∀ i t, i < w → t < z → gc (i * 8 + t) = c i t) (h : ∀ i t, i < w → c i t ≤ 2800) : CCB gc w z := fun i t hi ht => by rw [e i t hi ht]; exact h i t hi
theorem OPS_cg {c : Nat → Nat → Nat} {ch n : Nat} {S T : (Nat → Nat) → Prop} {p : Nat → Nat} (h : OPS c ch n S p) (e : ∀ q, S q ↔ T q) : OPS c ch n T p := ⟨(e p).mp h.1, fun q hq => h.2 q ((e q).mpr hq)⟩
theorem OPS_cc {c d : Nat → Nat → Nat} {ch z w : Nat} {S : (Nat → Nat) → Prop} {p : Nat → Nat} (h : OPS c ch w S p) (hS : ∀ q, S q → VAL z w q) (e : ∀ i t, i < w → t < z → c i t = d i t) : OPS d ch w S p ∧ pfC c ch p w = pfC d ch p w := by
  have e1 : ∀ q, S q → pfC c ch q w = pfC d ch q w := fun q hq => pfC_cc w (hS q hq) e
  refine ⟨⟨h.1, fun q hq => ?_⟩, e1 p h.1⟩
  have := h.2 q hq
  unfold BET at this ⊢
  rw [← e1 p h.1, ← e1 q hq]; exact this
theorem msk_n : ∀ (j t : Fin 8), ((((1 : Int32) <<< (nI j.val &&& 31)) ^^^ (-1)) >>> (nI t.val &&& 31)) &&& 1 = if t = j then 0 else 1 := by decide +kernel
theorem msk_y : ∀ (j t : Fin 8), (((1 : Int32) <<< (nI j.val &&& 31)) >>> (nI t.val &&& 31)) &&& 1 = if t = j then 1 else 0 := by decide +kernel
/-- a word may have all tongues but one -/
def oth (a u : Nat) : Nat → Nat → Bool := fun i t => decide (¬ (i = a ∧ t = u))
theorem op_oth {a u i t : Nat} (ha : a < 60) (hi : i < 60) (hu : u < 8) (ht : t < 8) : opB (nI a) (((1 : Int32) <<< (nI u &&& 31)) ^^^ (-1)) i t = oth a u i t := by
  have h1 := msk_n ⟨u, hu⟩ ⟨t, ht⟩
  unfold opB oth isOp
  apply decide_eq_decide.mpr
  rw [h1]
  constructor
  · intro h ⟨e1, e2⟩
    rcases h with h | h
    · exact h (by rw [e1])
    · rw [if_pos (by simp [e2])] at h; exact h rfl
  · intro h
    by_cases e1 : i = a
    · right
      rw [if_neg (fun q => h ⟨e1, congrArg Fin.val q⟩)]; decide
    · left
      exact fun h9 => e1 ((nI_eq (by omega) (by omega)).mp h9)
theorem oth_ex {z w a u : Nat} (hz : 2 ≤ z) : OPN z w (oth a u) (fun _ => if u = 0 then 1 else 0) := fun j _ => by
  show (if u = 0 then 1 else 0) < z ∧ decide (¬ (j = a ∧ (if u = 0 then 1 else 0) = u)) = true
  by_cases h : u = 0
  · rw [if_pos h]; exact ⟨by omega, decide_eq_true (fun q => by have := q.2; omega)⟩
  · rw [if_neg h]; exact ⟨by omega, decide_eq_true (fun q => by have := q.2; omega)⟩
/-- the second way of sure -/
theorem su_ops {gc : Nat → Nat} {c : Nat → Nat → Nat} {ch z w a u : Nat} {q : Nat → Nat} (h : OPT (cbr gc (nI a) (((1 : Int32) <<< (nI u &&& 31)) ^^^ (-1))) ch z w q) (hw : w ≤ 60) (hch : ch ≤ 2000) (hz : 2 ≤ z) (hz8 : z ≤ 8) (ha : a < 60) (hu : u < 8) (e : ∀ i t, i < w → t < z → gc (i * 8 + t) = c i t) (hb : ∀ i t, i < w → c i t ≤ 2800) : OPS c ch w (OPN z w (oth a u)) q ∧ pfC (cbr gc (nI a) (((1 : Int32) <<< (nI u &&& 31)) ^^^ (-1))) ch q w = pfC c ch q w := by
  have hO : ∀ r, OPN z w (opB (nI a) (((1 : Int32) <<< (nI u &&& 31)) ^^^ (-1))) r ↔ OPN z w (oth a u) r := fun r => by
    constructor
    · intro h9 j hj
      obtain ⟨h1, h2⟩ := h9 j hj
      exact ⟨h1, by rw [← op_oth ha (by omega) hu (by omega)]; exact h2⟩
    · intro h9 j hj
      obtain ⟨h1, h2⟩ := h9 j hj
      exact ⟨h1, by rw [op_oth ha (by omega) hu (by omega)]; exact h2⟩
  obtain ⟨h1, h2⟩ := bar_opt (c := cst gc) h hw hch (fun i t hi ht => by show gc (i * 8 + t) ≤ _; rw [e i t hi ht]; exact hb i t hi) ((hO _).mpr (oth_ex (a := a) (u := u) hz))
  obtain ⟨h3, h4⟩ := OPS_cc h1 (fun r hr j hj => (hr j hj).1) e
  exact ⟨OPS_cg h3 hO, h2.trans h4⟩
/-- ways whose last word has tongue e -/
def EDS (z w e : Nat) (q : Nat → Nat) : Prop := VAL z w q ∧ q (w - 1) = e
def lst (w e : Nat) : Nat → Nat → Bool := fun i t => decide (i = w - 1 → t = e)
theorem op_lst {w e i t : Nat} (hw : w ≤ 60) (h0 : 0 < w) (hi : i < 60) (he : e < 8) (ht : t < 8) : opB (nI w - 1) ((1 : Int32) <<< (nI e &&& 31)) i t = lst w e i t := by
  have h1 := msk_y ⟨e, he⟩ ⟨t, ht⟩
  have h2 : nI w - 1 = nI (w - 1) := pk_sub (b := 1) h0
  unfold opB lst isOp
  apply decide_eq_decide.mpr
  rw [h1, h2]
  constructor
  · intro h e1
    rcases h with h | h
    · exact absurd (by rw [e1]) h
    · by_cases h9 : (⟨t, ht⟩ : Fin 8) = ⟨e, he⟩
      · exact congrArg Fin.val h9
      · rw [if_neg h9] at h; exact absurd rfl h
  · intro h
    by_cases e1 : i = w - 1
    · right
      rw [if_pos (by simp [h e1])]; decide
    · left
      exact fun h9 => e1 ((nI_eq (by omega) (by omega)).mp h9)
theorem fx_ops {gc : Nat → Nat} {c : Nat → Nat → Nat} {ch z w e : Nat} {q : Nat → Nat} (h : OPT (cbr gc (nI w - 1) ((1 : Int32) <<< (nI e &&& 31))) ch z w q) (hw : w ≤ 60) (h0 : 0 < w) (hch : ch ≤ 2000) (hz8 : z ≤ 8) (he : e < z) (ec : ∀ i t, i < w → t < z → gc (i * 8 + t) = c i t) (hb : ∀ i t, i < w → c i t ≤ 2800) : OPS c ch w (EDS z w e) q := by
  have hO : ∀ r, OPN z w (opB (nI w - 1) ((1 : Int32) <<< (nI e &&& 31))) r ↔ EDS z w e r := fun r => by
    constructor
    · intro h9
      refine ⟨fun j hj => (h9 j hj).1, ?_⟩
      obtain ⟨h1, h2⟩ := h9 (w - 1) (by omega)
      rw [op_lst hw h0 (by omega) (by omega) (by omega)] at h2
      exact of_decide_eq_true h2 rfl
    · intro h9 j hj
      have h1 := h9.1 j hj
      refine ⟨h1, ?_⟩
      rw [op_lst hw h0 (by omega) (by omega) (by omega)]
      exact decide_eq_true (fun e1 => by rw [e1]; exact h9.2)
  obtain ⟨h1, h2⟩ := bar_opt (c := cst gc) h hw hch (fun i t hi ht => by show gc (i * 8 + t) ≤ _; rw [ec i t hi ht]; exact hb i t hi) ((hO (fun _ => e)).mpr ⟨fun _ _ => he, rfl⟩)
  obtain ⟨h3, h4⟩ := OPS_cc h1 (fun r hr j hj => (hr j hj).1) ec
  exact OPS_cg h3 hO
theorem TLA_cg {d e : Nat → Int32} {w z zo : Nat} {gp r : Int32} {fr ro : Nat → Int32} (h : TLA d w gp r z zo fr ro) (he : ∀ j, j < w → d j = e j) : TLA e w gp r z zo fr ro := by
  obtain ⟨n, n1, n2⟩ := h
  have hg : ∀ k, gB d (tkS d w k) w = gB e (tkS e w k) w := fun k => gB_cg w he (fun j _ => by rw [(tk_cg he k).1])
  refine ⟨n, fun j hj => ?_, ?_⟩
  · rw [← (tk_cg he j).2, ← hg j]; exact n1 j hj
  · rw [← (tk_cg he n).2, ← hg n, ← (tk_cg he n).1]; exact n2

theorem sw_lt {p : Int32} (h : p < 0) (k : Nat) (hk : k < 3) : ¬ p = nI k := fun e => by rw [e] at h; exact nI_pos (n := k) (by omega) h
theorem sw_ge {p : Int32} (h : nI 3 ≤ p) (k : Nat) (hk : k < 3) : ¬ p = nI k := fun e => by rw [e] at h; exact absurd ((nI_leI (a := 3) (b := k) (by omega) (by omega)).mp h) (by omega)
