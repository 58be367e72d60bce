/-- the words of one text, found by the class and by the model -/
theorem LF_RF {g : Nat → Nat} {n a L R : Nat} (h1 : LF g n a L) (h2 : RF g n a R) (hk : kN (g a) ≠ 28) : L = mst R := by
  obtain ⟨l1, l2, l3, l4, l5⟩ := h1
  obtain ⟨r1, r2, r3, r4⟩ := h2
  have hle : L ≤ R := Nat.not_lt.mp fun h => by
    rcases r4 with r4 | r4
    · omega
    · exact r4 (l4 R h)
  have h24 : L ≤ 24 := l3.resolve_left hk
  unfold mst
  rcases Nat.lt_or_ge L R with h | h
  · rcases l5 with l5 | ⟨_, l5⟩ | l5
    · omega
    · rw [if_pos (by omega)]; exact l5
    · exact absurd (r3 L h) l5
  · rw [if_neg (by omega)]; omega
theorem bW_cg {g g2 : Nat → Nat} {n a : Nat} (e : ∀ j, j < n → g j = g2 j) (ha : a < n) (h : bW g a) : bW g2 a := by
  obtain ⟨h1, h2⟩ := h
  rw [e a ha] at h1
  refine ⟨h1, ?_⟩
  rcases h2 with h2 | h2
  · exact Or.inl h2
  · right
    rw [← e a ha, ← e (a - 1) (by omega)]
    exact h2
theorem RF_cg {g g2 : Nat → Nat} {n a R : Nat} (e : ∀ j, j < n → g j = g2 j) (h : RF g n a R) : RF g2 n a R := by
  obtain ⟨r1, r2, r3, r4⟩ := h
  refine ⟨r1, r2, fun k hk => ?_, ?_⟩
  · rw [← e (a + k) (by omega), ← e a (by omega)]; exact r3 k hk
  · rcases r4 with r4 | r4
    · exact Or.inl r4
    · rcases Nat.lt_or_ge (a + R) n with h9 | h9
      · right; rw [← e (a + R) h9, ← e a (by omega)]; exact r4
      · exact Or.inl (by omega)
theorem WREL {g : Nat → Nat} {f : Nat → Int32} {sb ln bb by_ mk : Nat → Nat} {n w w2 : Nat} (h : SOK g sb ln n w) (h2 : CUT f bb by_ mk n w2) (e : ∀ j, j < n → g j = gm f j) : w = w2 ∧ ∀ i, i < w → sb i = bb i ∧ (g (sb i) = 28 ↔ mk i = 1) ∧ (g (sb i) ≠ 28 → ln i = mst (by_ i)) ∧ bb i + by_ i ≤ n := by
  obtain ⟨h1, hw, h3, h4, h5⟩ := h
  obtain ⟨⟨c1, c2, c3⟩, c4⟩ := h2
  have ecb : ∀ k, k ≤ n → cB g k = cB (gm f) k := fun k hk => cB_congr k (fun j hj => e j (by omega))
  refine ⟨by rw [h3, c3, ecb n (Nat.le_refl n)], fun i hi => ?_⟩
  obtain ⟨a, ha, hb, ea⟩ := cB_pos (g := g) (n := n) i (by omega)
  have hb2 : bW (gm f) a := bW_cg e ha hb
  obtain ⟨q1, q2⟩ := h4 a ha hb
  rw [ea] at q1 q2
  have ea2 : cB (gm f) a = i := by rw [← ecb a (by omega)]; exact ea
  obtain ⟨p1, p2, p3⟩ := c4 a ha hb2 (by omega)
  rw [ea2] at p1 p2 p3
  refine ⟨by rw [q1, p1], ?_, ?_, ?_⟩
  · rw [q1, e a ha, p3]
    split
    · next hh => exact ⟨fun _ => rfl, fun _ => hh⟩
    · next hh => exact ⟨fun h9 => absurd h9 hh, fun h9 => by omega⟩
  · intro hn
    rw [q1] at hn
    exact LF_RF q2 (RF_cg (fun j hj => (e j hj).symm) p2) (kN_n28 hn)
  · rw [p1]; exact p2.2.1
/-- two lists of words are one -/
def LREL (lt lw lt2 lw2 : Nat → Nat) (z : Nat) : Prop := ∀ p, p < z → lw p = lw2 p ∧ ∀ k, k < lw p → lt (p * 24 + k) = lt2 (24 * p + k)
theorem LREL_0 {lt lw lt2 lw2 : Nat → Nat} : LREL lt lw lt2 lw2 0 := fun p h => absurd h (Nat.not_lt_zero p)
theorem cpy_lo {g h : Nat → Nat} {a n j : Nat} (hj : j < n) : va_cpy g h 0 a n (a + j) = g j := by
  unfold va_cpy
  rw [if_pos ⟨by omega, by omega⟩]
  congr 1; omega
theorem cpy0 {g h : Nat → Nat} {n j : Nat} (hj : j < n) : va_cpy g h 0 0 n j = g j := by
  have := cpy_lo (g := g) (h := h) (a := 0) hj
  rwa [Nat.zero_add] at this
theorem cpy_in {g h : Nat → Nat} {s a n j : Nat} (hj : j < n) : va_cpy g h s a n (a + j) = g (s + j) := by
  unfold va_cpy
  rw [if_pos ⟨by omega, by omega⟩]
  congr 1; omega
theorem cpy_out {g h : Nat → Nat} {s a n j : Nat} (hj : j < a ∨ a + n ≤ j) : va_cpy g h s a n j = h j := by
  unfold va_cpy
  rw [if_neg (by omega)]
theorem LREL_add {lt lw lt2 lw2 lt3 g : Nat → Nat} {f : Nat → Int32} {z s b L : Nat} (h : LREL lt lw lt2 lw2 z) (hw : ∀ p, p < z → lw p ≤ 24) (hL : L ≤ 24) (eg : ∀ k, k < L → g (s + k) = gm f (b + k)) (h1 : ∀ j, j < L → lt3 (24 * z + j) = gm f (b + j)) (h2 : ∀ j, j < 24 * z → lt3 j = lt2 j) : LREL (va_cpy g lt s (z * 24) L) (updN lw z L) lt3 (updN lw2 z L) (z + 1) := fun p hp => by
  by_cases e : p = z
  · subst e
    rw [updN_s, updN_s]
    refine ⟨rfl, fun k hk => ?_⟩
    rw [cpy_in hk, eg k hk, h1 k hk]
  · have hp2 : p < z := by omega
    obtain ⟨q1, q2⟩ := h p hp2
    have q3 := hw p hp2
    rw [updN_n e, updN_n e]
    refine ⟨q1, fun k hk => ?_⟩
    rw [cpy_out (by omega), q2 k hk, h2 _ (by omega)]
theorem one_iff {gt g2 : Nat → Nat} {ft : Nat → Int32} {ts k : Nat} (hs : ∀ j, j < ts → gt j = gm ft j) (hk : k ≤ ts) (h6 : ts ≤ 600) : oneW gt g2 k ↔ oneM ft k := by
  have e : ∀ j, j < k → va_cpy gt g2 0 0 k j = gm ft j := fun j hj => by rw [cpy0 hj, hs j (by omega)]
  have ec : cB (va_cpy gt g2 0 0 k) k = cB (gm ft) k := cB_congr k e
  constructor
  · intro ⟨h1, h2, a, h3, h4, h5⟩
    exact ⟨by rw [← ec]; exact h2, a, h3, bW_cg e h3 h4, by rw [← e a h3]; exact h5⟩
  · intro ⟨h2, a, h3, h4, h5⟩
    exact ⟨by omega, by rw [ec]; exact h2, a, h3, bW_cg (fun j hj => (e j hj).symm) h3 h4, by rw [e a h3]; exact h5⟩
theorem onT_eq {ts k k2 : Nat} {p : Int32} (h6 : ts ≤ 600) (h1 : k ≤ ts) (h2 : p = nI k) (h3 : k2 ≤ ts) (h4 : p = nI k2) : k = k2 := (nI_eq (a := k) (b := k2) (by omega) (by omega)).mp (h2.symm.trans h4)
/-- the one word of a tape, on both sides -/
theorem ONE_w {gt g2 go so lo bo yo ko : Nat → Nat} {ft : Nat → Int32} {ts k : Nat} (hs : ∀ j, j < ts → gt j = gm ft j) (hk : k ≤ ts) (h1 : SOK go so lo k 1) (h2 : go = va_cpy gt g2 0 0 k) (h3 : go (so 0) ≠ 28) (h4 : CUT ft bo yo ko k 1) : so 0 = bo 0 ∧ lo 0 = mst (yo 0) ∧ lo 0 ≤ 24 ∧ ∀ j, j < lo 0 → go (so 0 + j) = gm ft (so 0 + j) ∧ gm ft (so 0 + j) ≤ 26 := by
  have e : ∀ j, j < k → go j = gm ft j := fun j hj => by rw [h2, cpy0 hj, hs j (by omega)]
  obtain ⟨-, hw⟩ := WREL h1 h4 e
  obtain ⟨q1, q2, q3, q4⟩ := hw 0 (by omega)
  obtain ⟨w1, w2, w3, w4, w5⟩ := h1.wd (i := 0) (by omega)
  have w6 := w5 h3
  refine ⟨q1, q3 h3, w6.1, fun j hj => ?_⟩
  have w7 := w6.2 j hj
  have e9 := e (so 0 + j) (by omega)
  exact ⟨e9, by rw [← e9]; exact w7⟩
theorem RT_feed {gt go : Nat → Nat} {ft ft2 : Nat → Int32} {ts so tp so2 : Nat} {p0 p1 p2 p3 p4 : Int32} (h : ∀ j, j < ts → gt j = gm ft j) (e : tp = ts) (e2 : so2 = so) (h1 : ∀ j, go j = if ts ≤ j ∧ j < so then sgF (fdB p0 p1 p2 p3 p4 (j - ts)) else gt j) (h2 : ∀ j, gm ft2 j = if tp ≤ j ∧ j < so2 then sgF (fdB p0 p1 p2 p3 p4 (j - tp)) else gm ft j) : ∀ j, j < so → go j = gm ft2 j := fun j hj => by
  subst e
  subst e2
  rw [h1 j, h2 j]
  by_cases hc : tp ≤ j ∧ j < so2
  · rw [if_pos hc, if_pos hc]
  · rw [if_neg hc, if_neg hc]; exact h j (by omega)
theorem RT_sub {c : Prop} {gt : Nat → Nat} {ft : Nat → Int32} {ts so : Nat} (h : ∀ j, j < ts → gt j = gm ft j) (h9 : (c → so = 0) ∧ (¬ c → so = ts)) : ∀ j, j < so → gt j = gm ft j := fun j hj => by
  by_cases hc : c
  · have := h9.1 hc; omega
  · have := h9.2 hc; exact h j (by omega)
/-- text: the answers, and THE TEXT behind it -/
theorem TX_eq {ts tp no no_ wo_ sz wd : Nat} {p r vo r2 vo2 io it : Int32} {gt g2 go : Nat → Nat} {ft fx txo : Nat → Int32} (e : tp = ts) (h6 : ts ≤ 600) (hs : ∀ j, j < ts → gt j = gm ft j)
    (h1 : (r = (-1) ∧ ¬ onT ts p ∧ vo = 2) ∨ (∃ k9, k9 ≤ ts ∧ p = nI k9 ∧ ((¬ (k9 ≤ 600 ∧ cB (va_cpy gt g2 0 0 k9) (k9) ≤ 60) ∧ r = (-1) ∧ vo = 3) ∨ ((k9 ≤ 600 ∧ cB (va_cpy gt g2 0 0 k9) (k9) ≤ 60) ∧ r = nI (cB (va_cpy gt g2 0 0 k9) (k9)) ∧ vo = 0 ∧ no = k9 ∧ go = va_cpy gt g2 0 0 k9))))
    (h2 : (r2 = (-1) ∧ ¬ onT tp p ∧ vo2 = 2 ∧ txo = fx ∧ no_ = sz ∧ wo_ = wd ∧ io = it) ∨ (∃ k9, k9 ≤ tp ∧ p = nI k9 ∧ ((¬ cB (gm ft) k9 ≤ 60 ∧ r2 = (-1) ∧ vo2 = 3 ∧ txo = fx ∧ no_ = sz ∧ wo_ = wd ∧ io = it) ∨ (cB (gm ft) k9 ≤ 60 ∧ r2 = nI (cB (gm ft) k9) ∧ vo2 = 0 ∧ no_ = k9 ∧ wo_ = cB (gm ft) k9 ∧ io = 1 ∧ ∀ j, j < k9 → gm txo j = gm ft j)))) :
    r = r2 ∧ vo = vo2 ∧ ((r = (-1) ∧ txo = fx ∧ no_ = sz ∧ wo_ = wd ∧ io = it) ∨ (¬ r = (-1) ∧ no_ = no ∧ io = 1 ∧ ∀ j, j < no → go j = gm txo j)) := by
  subst e
  rcases h1 with ⟨a1, a2, a3⟩ | ⟨k, a1, a2, a3⟩
  · rcases h2 with ⟨b1, b2, b3, b4⟩ | ⟨k2, b1, b2, b3⟩
    · exact ⟨by rw [a1, b1], by rw [a3, b3], Or.inl ⟨a1, b4⟩⟩
    · exact absurd ⟨k2, b1, b2⟩ a2
  · rcases h2 with ⟨b1, b2, b3, b4⟩ | ⟨k2, b1, b2, b3⟩
    · exact absurd ⟨k, a1, a2⟩ b2
    · have ek : k2 = k := onT_eq h6 b1 b2 a1 a2
      subst ek
      have ec : cB (va_cpy gt g2 0 0 k2) k2 = cB (gm ft) k2 := cB_congr k2 (fun j hj => by rw [cpy0 hj, hs j (by omega)])
      rw [ec] at a3
      rcases a3 with ⟨c1, c2, c3⟩ | ⟨c1, c2, c3, c4, c5⟩
      · rcases b3 with ⟨d1, d2, d3, d4⟩ | ⟨d1, d2, d3, d4⟩
        · exact ⟨by rw [c2, d2], by rw [c3, d3], Or.inl ⟨c2, d4⟩⟩
        · exact absurd ⟨by omega, d1⟩ c1
      · rcases b3 with ⟨d1, d2, d3, d4⟩ | ⟨d1, d2, d3, d4, d5, d6, d7⟩
        · exact absurd c1.2 d1
        · refine ⟨by rw [c2, d2], by rw [c3, d3], Or.inr ⟨by rw [c2]; exact nI_nm1 (by omega), by rw [d4, c4], d6, fun j hj => ?_⟩⟩
          rw [c5, cpy0 (by omega), d7 j (by omega), hs j (by omega)]
/-- more: the answers, and THE TEXT behind it -/
theorem MO_eq {ts tp n1 no no_ wo_ sz wd ua ub ta sa : Nat} {p r vo r2 vo2 io it : Int32} {gt g1 g2 go : Nat → Nat} {ft fx spo : Nat → Int32} (e : tp = ts) (en : sz = n1) (h6 : ts ≤ 600) (hn6 : n1 ≤ 600) (hs : ∀ j, j < ts → gt j = gm ft j) (hx : ∀ j, j < n1 → g1 j = gm fx j)
    (h1 : (r = (-1) ∧ ¬ onT ts p ∧ vo = 2) ∨ (∃ k9, k9 ≤ ts ∧ p = nI k9 ∧ ((¬ (n1 + k9 ≤ 600 ∧ cB (va_cpy gt (va_cpy g1 g2 0 0 n1) 0 n1 k9) (n1 + k9) ≤ 60) ∧ r = (-1) ∧ vo = 3) ∨ ((n1 + k9 ≤ 600 ∧ cB (va_cpy gt (va_cpy g1 g2 0 0 n1) 0 n1 k9) (n1 + k9) ≤ 60) ∧ r = nI (cB (va_cpy gt (va_cpy g1 g2 0 0 n1) 0 n1 k9) (n1 + k9)) ∧ vo = 0 ∧ no = n1 + k9 ∧ go = va_cpy gt (va_cpy g1 g2 0 0 n1) 0 n1 k9))))
    (h2 : (r2 = (-1) ∧ ¬ onT tp p ∧ vo2 = 2 ∧ ua = ta ∧ ub = sa ∧ no_ = sz ∧ wo_ = wd ∧ io = it) ∨ (∃ k9, k9 ≤ tp ∧ p = nI k9 ∧ ((¬ (sz + k9 ≤ 600 ∧ cB (mrg (gm fx) (gm ft) sz) (sz + k9) ≤ 60) ∧ r2 = (-1) ∧ vo2 = 3 ∧ ua = ta ∧ ub = sa ∧ no_ = sz ∧ wo_ = wd ∧ io = it) ∨ ((sz + k9 ≤ 600 ∧ cB (mrg (gm fx) (gm ft) sz) (sz + k9) ≤ 60) ∧ r2 = nI (cB (mrg (gm fx) (gm ft) sz) (sz + k9)) ∧ vo2 = 0 ∧ ua = sa ∧ ub = ta ∧ no_ = sz + k9 ∧ wo_ = cB (mrg (gm fx) (gm ft) sz) (sz + k9) ∧ io = 1 ∧ ∀ j, j < sz + k9 → gm spo j = mrg (gm fx) (gm ft) sz j)))) :
    r = r2 ∧ vo = vo2 ∧ ((r = (-1) ∧ ua = ta ∧ ub = sa ∧ no_ = sz ∧ wo_ = wd ∧ io = it) ∨ (¬ r = (-1) ∧ ua = sa ∧ ub = ta ∧ no_ = no ∧ io = 1 ∧ (∀ j, j < no → go j = gm spo j) ∧ TXT spo no_ wo_)) := by
  subst e
  subst en
  rcases h1 with ⟨a1, a2, a3⟩ | ⟨k, a1, a2, a3⟩
  · rcases h2 with ⟨b1, b2, b3, b4⟩ | ⟨k2, b1, b2, b3⟩
    · exact ⟨by rw [a1, b1], by rw [a3, b3], Or.inl ⟨a1, b4⟩⟩
    · exact absurd ⟨k2, b1, b2⟩ a2
  · rcases h2 with ⟨b1, b2, b3, b4⟩ | ⟨k2, b1, b2, b3⟩
    · exact absurd ⟨k, a1, a2⟩ b2
    · have ek : k2 = k := onT_eq h6 b1 b2 a1 a2
      subst ek
      have ej : ∀ j, j < sz + k2 → va_cpy gt (va_cpy g1 g2 0 0 sz) 0 sz k2 j = mrg (gm fx) (gm ft) sz j := fun j hj => by
        unfold mrg
        rcases Nat.lt_or_ge j sz with h9 | h9
        · rw [if_pos h9, cpy_out (Or.inl h9), cpy0 h9, hx j h9]
        · obtain ⟨i, rfl⟩ : ∃ i, j = sz + i := ⟨j - sz, by omega⟩
          rw [if_neg (by omega), cpy_lo (by omega), Nat.add_sub_cancel_left, hs i (by omega)]
      have ec : cB (va_cpy gt (va_cpy g1 g2 0 0 sz) 0 sz k2) (sz + k2) = cB (mrg (gm fx) (gm ft) sz) (sz + k2) := cB_congr _ ej
      rw [ec] at a3
      rcases a3 with ⟨c1, c2, c3⟩ | ⟨c1, c2, c3, c4, c5⟩
      · rcases b3 with ⟨d1, d2, d3, d4⟩ | ⟨d1, d2, d3, d4⟩
        · exact ⟨by rw [c2, d2], by rw [c3, d3], Or.inl ⟨c2, d4⟩⟩
        · exact absurd d1 c1
      · rcases b3 with ⟨d1, d2, d3, d4⟩ | ⟨d1, d2, d3, d4, d5, d6, d7, d8, d9⟩
        · exact absurd c1 d1
        · refine ⟨by rw [c2, d2], by rw [c3, d3], Or.inr ⟨by rw [c2]; exact nI_nm1 (by have := c1.2; omega), d4, d5, by rw [d6, c4], d8, fun j hj => ?_, ?_⟩⟩
          · rw [c5, ej j (by omega), d9 j (by omega)]
          · rw [d6, d7]; exact ⟨d1.1, d1.2, (cB_congr _ d9).symm⟩
/-- name: the answers, and the names behind it -/
theorem NM_eq {ts tp z n zo zo2 : Nat} {p0 r vo r2 vo2 : Int32} {gt g2 go so lo t8 u8 to uo bo yo ko ln8 sn8 lno sno : Nat → Nat} {ft8 : Nat → Int32} (e : tp = ts) (ez : n = z) (h6 : ts ≤ 600) (hs : ∀ j, j < ts → gt j = gm ft8 j) (hW : ∀ p, p < z → u8 p ≤ 24) (hL : LREL t8 u8 ln8 sn8 z)
    (h1 : (¬ onT ts p0 ∧ r = (-1) ∧ vo = 2 ∧ zo = z ∧ to = t8 ∧ uo = u8) ∨ (∃ k9, k9 ≤ ts ∧ p0 = nI k9 ∧ ((¬ oneW gt g2 k9 ∧ r = (-1) ∧ vo = 2 ∧ zo = z ∧ to = t8 ∧ uo = u8) ∨ (oneW gt g2 k9 ∧ SOK go so lo k9 1 ∧ go = va_cpy gt g2 0 0 k9 ∧ go (so 0) ≠ 28 ∧ (((∃ p, p < z ∧ sW t8 u8 go (so 0) (lo 0) p) ∧ r = (-1) ∧ vo = 4 ∧ zo = z ∧ to = t8 ∧ uo = u8) ∨ ((∀ p, p < z → ¬ sW t8 u8 go (so 0) (lo 0) p) ∧ ((30 ≤ z ∧ r = (-1) ∧ vo = 3 ∧ zo = z ∧ to = t8 ∧ uo = u8) ∨ (z < 30 ∧ r = nI (z + 1) ∧ vo = 0 ∧ zo = z + 1 ∧ to = va_cpy go t8 (so 0) (z * 24) (lo 0) ∧ uo = updN u8 z (lo 0)))))))))
    (h2 : (¬ onT tp p0 ∧ r2 = (-1) ∧ vo2 = 2 ∧ zo2 = n ∧ lno = ln8 ∧ sno = sn8) ∨ (∃ k9, k9 ≤ tp ∧ p0 = nI k9 ∧ ((¬ oneM ft8 k9 ∧ r2 = (-1) ∧ vo2 = 2 ∧ zo2 = n ∧ lno = ln8 ∧ sno = sn8) ∨ (oneM ft8 k9 ∧ CUT ft8 bo yo ko k9 1 ∧ ko 0 = 0 ∧ (((∃ p, p < n ∧ mW ft8 ln8 (bo 0) (mst (yo 0)) (24 * p) (sn8 p)) ∧ r2 = (-1) ∧ vo2 = 4 ∧ zo2 = n ∧ lno = ln8 ∧ sno = sn8) ∨ ((∀ p, p < n → ¬ mW ft8 ln8 (bo 0) (mst (yo 0)) (24 * p) (sn8 p)) ∧ ((30 ≤ n ∧ r2 = (-1) ∧ vo2 = 3 ∧ zo2 = n ∧ lno = ln8 ∧ sno = sn8) ∨ (n < 30 ∧ r2 = nI (n + 1) ∧ vo2 = 0 ∧ zo2 = n + 1 ∧ sno = updN sn8 n (mst (yo 0)) ∧ (∀ j, j < mst (yo 0) → lno (24 * n + j) = gm ft8 (bo 0 + j)) ∧ ∀ j, j < 24 * n → lno j = ln8 j)))))))) :
    r = r2 ∧ vo = vo2 ∧ zo2 = zo ∧ LREL to uo lno sno zo := by
  subst e
  subst ez
  have same : ∀ {x y : Int32}, r = x ∧ vo = y ∧ zo = n ∧ to = t8 ∧ uo = u8 → r2 = x ∧ vo2 = y ∧ zo2 = n ∧ lno = ln8 ∧ sno = sn8 → r = r2 ∧ vo = vo2 ∧ zo2 = zo ∧ LREL to uo lno sno zo := fun ⟨q1, q2, q3, q4, q5⟩ ⟨q6, q7, q8, q9, q10⟩ => ⟨by rw [q1, q6], by rw [q2, q7], by rw [q3, q8], by rw [q3, q4, q5, q9, q10]; exact hL⟩
  rcases h1 with ⟨a1, a2⟩ | ⟨k, a1, a2, a3⟩
  · rcases h2 with ⟨b1, b2⟩ | ⟨k2, b1, b2, b3⟩
    · exact same a2 b2
    · exact absurd ⟨k2, b1, b2⟩ a1
  · rcases h2 with ⟨b1, b2⟩ | ⟨k2, b1, b2, b3⟩
    · exact absurd ⟨k, a1, a2⟩ b1
    · have ek : k2 = k := onT_eq h6 b1 b2 a1 a2
      subst ek
      rcases a3 with ⟨c1, c2⟩ | ⟨c1, c2, c3, c4, c5⟩
      · rcases b3 with ⟨d1, d2⟩ | ⟨d1, d2⟩
        · exact same c2 d2
        · exact absurd ((one_iff hs a1 h6).mpr d1) c1
      · rcases b3 with ⟨d1, d2⟩ | ⟨d1, d2, d3, d5⟩
        · exact absurd ((one_iff hs a1 h6).mp c1) d1
        · obtain ⟨w1, w2, w3, w4⟩ := ONE_w hs a1 c2 c3 c4 d2
          have ih : ∀ p, p < n → (sW t8 u8 go (so 0) (lo 0) p ↔ mW ft8 ln8 (bo 0) (mst (yo 0)) (24 * p) (sn8 p)) := fun p hp => by
            rw [← w1]; exact SM_iff (hL p hp).1 (hL p hp).2 w2 w4
          rcases c5 with ⟨⟨p, p1, p2⟩, q⟩ | ⟨c6, c7⟩
          · rcases d5 with ⟨_, q2⟩ | ⟨d6, _⟩
            · exact same q q2
            · exact absurd ((ih p p1).mp p2) (d6 p p1)
          · rcases d5 with ⟨⟨p, p1, p2⟩, _⟩ | ⟨d6, d7⟩
            · exact absurd ((ih p p1).mpr p2) (c6 p p1)
            · rcases c7 with ⟨e1, q⟩ | ⟨e1, e2, e3, e4, e5, e6⟩
              · rcases d7 with ⟨_, q2⟩ | ⟨f1, _⟩
                · exact same q q2
                · omega
              · rcases d7 with ⟨f1, _⟩ | ⟨f1, f2, f3, f4, f5, f6, f7⟩
                · omega
                · refine ⟨by rw [e2, f2], by rw [e3, f3], by rw [e4, f4], ?_⟩
                  rw [e4, e5, e6, f5, ← w2]
                  exact LREL_add (f := ft8) (b := bo 0) hL hW w3 (fun k hk => by rw [(w4 k hk).1, w1]) (fun j hj => f6 j (by rw [← w2]; exact hj)) f7
/-- the tongues that have a keyword, on both sides -/
def KREL (fk kk : Nat → Int32) (z : Nat) : Prop := (∀ p, p < z → fk p = kk p) ∧ (∀ p, z ≤ p → p < 60 → fk p = 0) ∧ ∀ p, p < 60 → ∃ v, v < 256 ∧ fk p = nI v
theorem upd_s {f : Nat → Int32} {k : Nat} {v : Int32} : upd f k v k = v := if_pos rfl
theorem upd_n {f : Nat → Int32} {k j : Nat} {v : Int32} (h : j ≠ k) : upd f k v j = f j := if_neg h
theorem kOR_n {x : Int32} {v j : Nat} (e : x = nI v) (hv : v < 256) (hj : j < 8) : ∃ w, w < 256 ∧ kOR x j = nI w := by
  subst e
  obtain ⟨w, hw⟩ := kOR_nat ⟨v, hv⟩ ⟨j, hj⟩
  exact ⟨w.val, w.isLt, hw⟩
theorem kBT_c {x : Int32} {v j : Nat} (e : x = nI v) (hv : v < 256) (hj : j < 8) : (¬ kBT x j = 0) ↔ kBT x j = 1 := by
  subst e
  rcases kBT_01 ⟨v, hv⟩ ⟨j, hj⟩ with h | h
  · constructor
    · intro h9; exact absurd h h9
    · intro h9 _; rw [show kBT (nI v) j = 0 from h] at h9; exact absurd h9 (by decide)
  · constructor
    · intro _; exact h
    · intro _ h9; rw [show kBT (nI v) j = 1 from h] at h9; exact absurd h9 (by decide)
theorem bitc_p {x : Int32} {v : Nat} (e : x = nI v) (hv : v < 256) : bitc x = popI x 8 := by
  subst e; exact bitc_pop ⟨v, hv⟩
theorem KREL_up {fk kk : Nat → Int32} {z p j : Nat} (h : KREL fk kk z) (hz : z ≤ 60) (hp : p < z) (hj : j < 8) : KREL (upd fk p (kOR (fk p) j)) (upd kk p (kOR (kk p) j)) z := by
  obtain ⟨h1, h2, h3⟩ := h
  refine ⟨fun q hq => ?_, fun q hq hq2 => ?_, fun q hq => ?_⟩
  · by_cases e : q = p
    · rw [e, upd_s, upd_s, h1 p hp]
    · rw [upd_n e, upd_n e]; exact h1 q hq
  · rw [upd_n (by omega)]; exact h2 q hq hq2
  · by_cases e : q = p
    · rw [e, upd_s]
      obtain ⟨v, hv, ev⟩ := h3 p (by omega)
      exact kOR_n ev hv hj
    · rw [upd_n e]; exact h3 q hq
theorem KREL_ad {fk kk : Nat → Int32} {z j : Nat} (h : KREL fk kk z) (hz : z < 60) (hj : j < 8) : KREL (upd fk z (kOR (fk z) j)) (upd (upd kk z 0) z (kOR ((upd kk z 0) z) j)) (z + 1) := by
  obtain ⟨h1, h2, h3⟩ := h
  have h0 := h2 z (Nat.le_refl z) hz
  refine ⟨fun q hq => ?_, fun q hq hq2 => ?_, fun q hq => ?_⟩
  · by_cases e : q = z
    · rw [e, upd_s, upd_s, upd_s, h0]
    · rw [upd_n e, upd_n e, upd_n e]; exact h1 q (by omega)
  · rw [upd_n (by omega)]; exact h2 q (by omega) hq2
  · by_cases e : q = z
    · rw [e, upd_s]
      obtain ⟨v, hv, ev⟩ := h3 z hz
      exact kOR_n ev hv hj
    · rw [upd_n e]; exact h3 q hq
/-- keyword: the answers, and the keywords behind it -/
theorem KW_eq {ts tp zt zt2 z n zo zo2 : Nat} {p0 p1 r vo r2 vo2 : Int32} {gt g2 go so lo t6 u6 to uo bo yo ko lk8 sk8 lko sko : Nat → Nat} {ft8 fk fko ko8 kko : Nat → Int32} (e : tp = ts) (et : zt2 = zt) (hzt : zt ≤ 8) (ez : n = z) (hz6 : z ≤ 60) (h6 : ts ≤ 600) (hs : ∀ j, j < ts → gt j = gm ft8 j) (hW : ∀ p, p < z → u6 p ≤ 24) (hL : LREL t6 u6 lk8 sk8 z) (hK : KREL fk ko8 z)
    (h1 : (¬ inT zt p0 ∧ r = (-1) ∧ vo = 1 ∧ zo = z ∧ to = t6 ∧ uo = u6 ∧ fko = fk) ∨ (∃ j9, j9 < zt ∧ p0 = nI j9 ∧ ((¬ onT ts p1 ∧ r = (-1) ∧ vo = 2 ∧ zo = z ∧ to = t6 ∧ uo = u6 ∧ fko = fk) ∨ (∃ k9, k9 ≤ ts ∧ p1 = nI k9 ∧ ((¬ oneW gt g2 k9 ∧ r = (-1) ∧ vo = 2 ∧ zo = z ∧ to = t6 ∧ uo = u6 ∧ fko = fk) ∨ (oneW gt g2 k9 ∧ SOK go so lo k9 1 ∧ go = va_cpy gt g2 0 0 k9 ∧ go (so 0) ≠ 28 ∧ ((∃ p, p < z ∧ sW t6 u6 go (so 0) (lo 0) p ∧ (∀ q, q < p → ¬ sW t6 u6 go (so 0) (lo 0) q) ∧ ((¬ kBT (fk p) j9 = 0 ∧ r = (-1) ∧ vo = 4 ∧ zo = z ∧ to = t6 ∧ uo = u6 ∧ fko = fk) ∨ (kBT (fk p) j9 = 0 ∧ r = bitc (kOR (fk p) j9) ∧ vo = 0 ∧ zo = z ∧ to = t6 ∧ uo = u6 ∧ fko = upd fk p (kOR (fk p) j9)))) ∨ ((∀ p, p < z → ¬ sW t6 u6 go (so 0) (lo 0) p) ∧ ((60 ≤ z ∧ r = (-1) ∧ vo = 3 ∧ zo = z ∧ to = t6 ∧ uo = u6 ∧ fko = fk) ∨ (z < 60 ∧ r = bitc (kOR (fk z) j9) ∧ vo = 0 ∧ zo = z + 1 ∧ to = va_cpy go t6 (so 0) (z * 24) (lo 0) ∧ uo = updN u6 z (lo 0) ∧ fko = upd fk z (kOR (fk z) j9)))))))))))
    (h2 : (¬ inT zt2 p0 ∧ r2 = (-1) ∧ vo2 = 1 ∧ zo2 = n ∧ lko = lk8 ∧ sko = sk8 ∧ kko = ko8) ∨ (∃ j9, j9 < zt2 ∧ p0 = nI j9 ∧ ((¬ onT tp p1 ∧ r2 = (-1) ∧ vo2 = 2 ∧ zo2 = n ∧ lko = lk8 ∧ sko = sk8 ∧ kko = ko8) ∨ (∃ k9, k9 ≤ tp ∧ p1 = nI k9 ∧ ((¬ oneM ft8 k9 ∧ r2 = (-1) ∧ vo2 = 2 ∧ zo2 = n ∧ lko = lk8 ∧ sko = sk8 ∧ kko = ko8) ∨ (oneM ft8 k9 ∧ CUT ft8 bo yo ko k9 1 ∧ ko 0 = 0 ∧ ((∃ p, p < n ∧ mW ft8 lk8 (bo 0) (mst (yo 0)) (24 * p) (sk8 p) ∧ (∀ q, q < p → ¬ mW ft8 lk8 (bo 0) (mst (yo 0)) (24 * q) (sk8 q)) ∧ ((kBT (ko8 p) j9 = 1 ∧ r2 = (-1) ∧ vo2 = 4 ∧ zo2 = n ∧ lko = lk8 ∧ sko = sk8 ∧ kko = ko8) ∨ (¬ kBT (ko8 p) j9 = 1 ∧ vo2 = 0 ∧ zo2 = n ∧ lko = lk8 ∧ sko = sk8 ∧ kko = upd ko8 p (kOR (ko8 p) j9) ∧ r2 = popI (kko p) 8))) ∨ ((∀ p, p < n → ¬ mW ft8 lk8 (bo 0) (mst (yo 0)) (24 * p) (sk8 p)) ∧ ((60 ≤ n ∧ r2 = (-1) ∧ vo2 = 3 ∧ zo2 = n ∧ lko = lk8 ∧ sko = sk8 ∧ kko = ko8) ∨ (n < 60 ∧ vo2 = 0 ∧ zo2 = n + 1 ∧ sko = updN sk8 n (mst (yo 0)) ∧ (∀ j, j < mst (yo 0) → lko (24 * n + j) = gm ft8 (bo 0 + j)) ∧ (∀ j, j < 24 * n → lko j = lk8 j) ∧ kko = upd (upd ko8 n 0) n (kOR ((upd ko8 n 0) n) j9) ∧ r2 = popI (kko n) 8)))))))))) :
    r = r2 ∧ vo = vo2 ∧ zo2 = zo ∧ LREL to uo lko sko zo ∧ KREL fko kko zo := by
  subst e
  subst et
  subst ez
  have same : ∀ {x y : Int32}, r = x ∧ vo = y ∧ zo = n ∧ to = t6 ∧ uo = u6 ∧ fko = fk → r2 = x ∧ vo2 = y ∧ zo2 = n ∧ lko = lk8 ∧ sko = sk8 ∧ kko = ko8 → r = r2 ∧ vo = vo2 ∧ zo2 = zo ∧ LREL to uo lko sko zo ∧ KREL fko kko zo := fun ⟨q1, q2, q3, q4, q5, q11⟩ ⟨q6, q7, q8, q9, q10, q12⟩ => ⟨by rw [q1, q6], by rw [q2, q7], by rw [q3, q8], by rw [q3, q4, q5, q9, q10]; exact hL, by rw [q11, q12, q3]; exact hK⟩
  rcases h1 with ⟨a1, a2⟩ | ⟨j, j1, j2, h1⟩
  · rcases h2 with ⟨b1, b2⟩ | ⟨j9, i1, i2, h2⟩
    · exact same a2 b2
    · exact absurd ⟨j9, i1, i2⟩ a1
  · rcases h2 with ⟨b1, b2⟩ | ⟨j9, i1, i2, h2⟩
    · exact absurd ⟨j, j1, j2⟩ b1
    · have ejj : j9 = j := (nI_eq (a := j9) (b := j) (by omega) (by omega)).mp (i2.symm.trans j2)
      subst ejj
      have hj8 : j9 < 8 := by omega
      rcases h1 with ⟨a1, a2⟩ | ⟨k, a1, a2, a3⟩
      · rcases h2 with ⟨b1, b2⟩ | ⟨k2, b1, b2, b3⟩
        · exact same a2 b2
        · exact absurd ⟨k2, b1, b2⟩ a1
      · rcases h2 with ⟨b1, b2⟩ | ⟨k2, b1, b2, b3⟩
        · exact absurd ⟨k, a1, a2⟩ b1
        · have ek : k2 = k := onT_eq h6 b1 b2 a1 a2
          subst ek
          rcases a3 with ⟨c1, c2⟩ | ⟨c1, c2, c3, c4, c5⟩
          · rcases b3 with ⟨d1, d2⟩ | ⟨d1, d2⟩
            · exact same c2 d2
            · exact absurd ((one_iff hs a1 h6).mpr d1) c1
          · rcases b3 with ⟨d1, d2⟩ | ⟨d1, d2, d3, d5⟩
            · exact absurd ((one_iff hs a1 h6).mp c1) d1
            · obtain ⟨w1, w2, w3, w4⟩ := ONE_w hs a1 c2 c3 c4 d2
              have ih : ∀ p, p < n → (sW t6 u6 go (so 0) (lo 0) p ↔ mW ft8 lk8 (bo 0) (mst (yo 0)) (24 * p) (sk8 p)) := fun p hp => by
                rw [← w1]; exact SM_iff (hL p hp).1 (hL p hp).2 w2 w4
              rcases c5 with ⟨p, s1, s2, s3, s4⟩ | ⟨c6, c7⟩
              · rcases d5 with ⟨p', t1, t2, t3, t4⟩ | ⟨d6, _⟩
                · have ep : p' = p := by
                    rcases Nat.lt_trichotomy p' p with h | h | h
                    · exact absurd ((ih p' t1).mpr t2) (s3 p' h)
                    · exact h
                    · exact absurd ((ih p s1).mp s2) (t3 p h)
                  subst ep
                  obtain ⟨v, hv, ev⟩ := hK.2.2 p' (by omega)
                  have ekk := hK.1 p' s1
                  rw [← ekk] at t4
                  rcases s4 with ⟨x1, x2⟩ | ⟨x1, x2, x3, x4, x5, x6, x7⟩
                  · rcases t4 with ⟨y1, y2⟩ | ⟨y1, _⟩
                    · exact same x2 y2
                    · exact absurd ((kBT_c ev hv hj8).mp x1) y1
                  · rcases t4 with ⟨y1, _⟩ | ⟨y1, y2, y3, y4, y5, y6, y7⟩
                    · exact absurd x1 ((kBT_c ev hv hj8).mpr y1)
                    · obtain ⟨w, hw, ew⟩ := kOR_n ev hv hj8
                      refine ⟨?_, by rw [x3, y2], by rw [x4, y3], by rw [x4, x5, x6, y4, y5]; exact hL, ?_⟩
                      · rw [x2, y7, y6, upd_s]; exact bitc_p ew hw
                      · rw [x7, y6, x4]
                        have := KREL_up hK hz6 s1 hj8
                        rwa [← ekk] at this
                · exact absurd ((ih p s1).mp s2) (d6 p s1)
              · rcases d5 with ⟨p, t1, t2, _⟩ | ⟨d6, d7⟩
                · exact absurd ((ih p t1).mpr t2) (c6 p t1)
                · rcases c7 with ⟨e1, q⟩ | ⟨e1, e2, e3, e4, e5, e6, e7⟩
                  · rcases d7 with ⟨_, q2⟩ | ⟨f1, _⟩
                    · exact same q q2
                    · omega
                  · rcases d7 with ⟨f1, _⟩ | ⟨f1, f3, f4, f5, f6, f7, f8, f9⟩
                    · omega
                    · obtain ⟨v, hv, ev⟩ := hK.2.2 n e1
                      obtain ⟨w, hw, ew⟩ := kOR_n ev hv hj8
                      refine ⟨?_, by rw [e3, f3], by rw [e4, f4], ?_, by rw [e7, f8, e4]; exact KREL_ad hK e1 hj8⟩
                      · rw [e2, f9, f8, upd_s, upd_s, ← hK.2.1 n (Nat.le_refl n) e1]; exact bitc_p ew hw
                      · rw [e4, e5, e6, f5, ← w2]
                        exact LREL_add (f := ft8) (b := bo 0) hL hW w3 (fun k hk => by rw [(w4 k hk).1, w1]) (fun j hj => f6 j (by rw [← w2]; exact hj)) f7
/-- how many of the first n places hold one -/
def cntH (hq : Nat → Option Nat) : Nat → Nat
  | 0 => 0
  | n + 1 => cntH hq n + (if hq n = none then 0 else 1)
theorem cntH_le (hq : Nat → Option Nat) : ∀ n, cntH hq n ≤ n
  | 0 => Nat.le_refl _
  | n + 1 => by
    have := cntH_le hq n
    show cntH hq n + _ ≤ _
    split <;> omega
theorem cntH_full {hq : Nat → Option Nat} : ∀ n, (∀ p, p < n → ¬ hq p = none) → cntH hq n = n
  | 0, _ => rfl
  | n + 1, h => by
    have h1 := cntH_full n (fun p hp => h p (by omega))
    show cntH hq n + _ = _
    rw [if_neg (h n (by omega)), h1]
theorem cntH_free {hq : Nat → Option Nat} {p : Nat} (h : hq p = none) : ∀ n, p < n → cntH hq n < n
  | 0, hp => absurd hp (Nat.not_lt_zero p)
  | n + 1, hp => by
    have h1 := cntH_le hq n
    show cntH hq n + _ < _
    by_cases e : p = n
    · rw [← e, if_pos h, e]; omega
    · have := cntH_free h n (by omega)
      split <;> omega
theorem cntH_cg {hq hq2 : Nat → Option Nat} : ∀ n, (∀ p, p < n → hq p = hq2 p) → cntH hq n = cntH hq2 n
  | 0, _ => rfl
  | n + 1, h => by
    have h1 := cntH_cg n (fun p hp => h p (by omega))
    show cntH hq n + _ = cntH hq2 n + _
    rw [h1, h n (by omega)]
theorem cntH_add {hq : Nat → Option Nat} {p a : Nat} (h : hq p = none) : ∀ n, p < n → cntH (va_up hq p (some a)) n = cntH hq n + 1
  | 0, hp => absurd hp (Nat.not_lt_zero p)
  | n + 1, hp => by
    show cntH (va_up hq p (some a)) n + _ = cntH hq n + _ + 1
    by_cases e : p = n
    · rw [← e, va_up_self, if_neg (fun h9 => nomatch h9), if_pos h, cntH_cg p (fun q hq9 => va_up_ne _ _ (by omega))]
    · rw [cntH_add h n (by omega), va_up_ne _ _ (fun h9 => e h9.symm)]; omega
theorem cntH_del {hq : Nat → Option Nat} {p : Nat} (h : ¬ hq p = none) : ∀ n, p < n → cntH (va_up hq p none) n + 1 = cntH hq n
  | 0, hp => absurd hp (Nat.not_lt_zero p)
  | n + 1, hp => by
    show cntH (va_up hq p none) n + _ + 1 = cntH hq n + _
    by_cases e : p = n
    · rw [← e, va_up_self, if_pos rfl, if_neg h, cntH_cg p (fun q hq9 => va_up_ne _ _ (by omega))]
    · have := cntH_del h n (by omega)
      rw [va_up_ne _ _ (fun h9 => e h9.symm)]; omega
/-- the same learnt text: the class's at place p, the model's i-th -/
def MTC (nu : Nat → Int32) (tg tl : Nat → Nat) (gg : Nat → Nat → Nat) (nu8 : Nat → Int32) (lt8 pr8 pa8 : Nat → Nat) (p i : Nat) : Prop := nu p = nu8 i ∧ tg p = lt8 i ∧ tl p = pr8 i + 1 ∧ PRS pa8 (660 * i) (gg p) (pr8 i)
/-- the learnt texts on both sides -/
def HREL (hq : Nat → Option Nat) (nu : Nat → Int32) (tg tl : Nat → Nat) (gg : Nat → Nat → Nat) (lr : Nat) (nu8 : Nat → Int32) (lt8 pr8 pa8 : Nat → Nat) (N : Nat) : Prop :=
  cntH hq 100 = lr ∧ (∀ p, p < 100 → ¬ hq p = none → ∃ i, i < lr ∧ MTC nu tg tl gg nu8 lt8 pr8 pa8 p i) ∧ (∀ i, i < lr → ∃ p, p < 100 ∧ ¬ hq p = none ∧ MTC nu tg tl gg nu8 lt8 pr8 pa8 p i) ∧ (∀ i, i < lr → ∃ m, m < N ∧ nu8 i = nI m) ∧ (∀ i j, i < lr → j < lr → nu8 i = nu8 j → i = j) ∧ (∀ p q, p < 100 → q < 100 → ¬ hq p = none → ¬ hq q = none → nu p = nu q → p = q)
theorem HREL_0 {nu : Nat → Int32} {tg tl : Nat → Nat} {gg : Nat → Nat → Nat} {nu8 : Nat → Int32} {lt8 pr8 pa8 : Nat → Nat} {N : Nat} : HREL (fun _ => none) nu tg tl gg 0 nu8 lt8 pr8 pa8 N :=
  ⟨by decide, fun p _ h => absurd rfl h, fun i h => absurd h (Nat.not_lt_zero i), fun i h => absurd h (Nat.not_lt_zero i), fun i _ h => absurd h (Nat.not_lt_zero i), fun p _ _ _ h => absurd rfl h⟩
theorem MTC_cg {nu nu2 : Nat → Int32} {tg tg2 tl tl2 : Nat → Nat} {gg gg2 : Nat → Nat → Nat} {nu8 nuo : Nat → Int32} {lt8 pr8 pa8 lto pro pao : Nat → Nat} {p i j : Nat} (h : MTC nu tg tl gg nu8 lt8 pr8 pa8 p i) (e1 : nu2 p = nu p) (e2 : tg2 p = tg p) (e3 : tl2 p = tl p) (e4 : gg2 p = gg p) (e5 : nuo j = nu8 i) (e6 : lto j = lt8 i) (e7 : pro j = pr8 i) (e8 : ∀ k, k < pr8 i → pao (660 * j + k) = pa8 (660 * i + k)) : MTC nu2 tg2 tl2 gg2 nuo lto pro pao p j := by
  obtain ⟨h1, h2, h3, h4⟩ := h
  refine ⟨by rw [e1, e5]; exact h1, by rw [e2, e6]; exact h2, by rw [e3, e7]; exact h3, ?_⟩
  rw [e7, e4]
  intro k hk
  rw [e8 k hk]; exact h4 k hk
theorem HREL_add {hq : Nat → Option Nat} {nu : Nat → Int32} {tg tl : Nat → Nat} {gg : Nat → Nat → Nat} {lr : Nat} {nu8 : Nat → Int32} {lt8 pr8 pa8 pao : Nat → Nat} {N pp a t n : Nat} {g : Nat → Nat} (h : HREL hq nu tg tl gg lr nu8 lt8 pr8 pa8 N) (hN : N ≤ 4000) (hp : pp < 100) (hf : hq pp = none) (hb : ∀ j, pr8 j ≤ 660) (hP : PRS pao (660 * lr) g n) (ho : ∀ j, j < 660 * lr → pao j = pa8 j) :
    HREL (va_up hq pp (some a)) (va_up nu pp (nI N)) (va_up tg pp t) (va_up tl pp (n + 1)) (va_up gg pp g) (lr + 1) (upd nu8 lr (nI N)) (updN lt8 lr t) (updN pr8 lr n) pao (N + 1) := by
  obtain ⟨h1, h2, h3, h4, h5, h6⟩ := h
  have hnew : MTC (va_up nu pp (nI N)) (va_up tg pp t) (va_up tl pp (n + 1)) (va_up gg pp g) (upd nu8 lr (nI N)) (updN lt8 lr t) (updN pr8 lr n) pao pp lr := by
    refine ⟨by rw [va_up_self, upd_s], by rw [va_up_self, updN_s], by rw [va_up_self, updN_s], ?_⟩
    rw [va_up_self, updN_s]; exact hP
  have hold : ∀ p i, p ≠ pp → i < lr → MTC nu tg tl gg nu8 lt8 pr8 pa8 p i → MTC (va_up nu pp (nI N)) (va_up tg pp t) (va_up tl pp (n + 1)) (va_up gg pp g) (upd nu8 lr (nI N)) (updN lt8 lr t) (updN pr8 lr n) pao p i := fun p i hne hi hm =>
    MTC_cg hm (va_up_ne _ _ hne) (va_up_ne _ _ hne) (va_up_ne _ _ hne) (va_up_ne _ _ hne) (upd_n (by omega)) (updN_n (by omega)) (updN_n (by omega)) (fun k hk => ho _ (by have := hb i; omega))
  have hnn : ∀ i, i < lr → nu8 i ≠ nI N := fun i hi e => by
    obtain ⟨m, hm, em⟩ := h4 i hi
    have := (nI_eq (a := m) (b := N) (by omega) (by omega)).mp (em.symm.trans e)
    omega
  have hnp : ∀ p, p < 100 → ¬ hq p = none → nu p ≠ nI N := fun p hp9 hh e => by
    obtain ⟨i, hi, hm⟩ := h2 p hp9 hh
    exact hnn i hi (hm.1.symm.trans e)
  have hne : ∀ p, ¬ hq p = none → p ≠ pp := fun p hh e => hh (by rw [e]; exact hf)
  refine ⟨by rw [cntH_add hf 100 hp, h1], fun p hp9 hh => ?_, fun i hi => ?_, fun i hi => ?_, fun i j hi hj e => ?_, fun p q hp9 hq9 hh hh2 e => ?_⟩
  · by_cases e : p = pp
    · rw [e]; exact ⟨lr, by omega, hnew⟩
    · rw [va_up_ne _ _ e] at hh
      obtain ⟨i, hi, hm⟩ := h2 p hp9 hh
      exact ⟨i, by omega, hold p i e hi hm⟩
  · by_cases e : i = lr
    · rw [e]; exact ⟨pp, hp, (by rw [va_up_self]; exact (fun h9 => nomatch h9)), hnew⟩
    · obtain ⟨p, hp9, hh, hm⟩ := h3 i (by omega)
      have hn9 := hne p hh
      exact ⟨p, hp9, by rw [va_up_ne _ _ hn9]; exact hh, hold p i hn9 (by omega) hm⟩
  · by_cases e : i = lr
    · rw [e, upd_s]; exact ⟨N, by omega, rfl⟩
    · rw [upd_n e]
      obtain ⟨m, hm, em⟩ := h4 i (by omega)
      exact ⟨m, by omega, em⟩
  · by_cases e1 : i = lr
    · by_cases e2 : j = lr
      · omega
      · rw [e1, upd_s, upd_n e2] at e
        exact absurd e.symm (hnn j (by omega))
    · by_cases e2 : j = lr
      · rw [e2, upd_s, upd_n e1] at e
        exact absurd e (hnn i (by omega))
      · rw [upd_n e1, upd_n e2] at e
        exact h5 i j (by omega) (by omega) e
  · by_cases e1 : p = pp
    · by_cases e2 : q = pp
      · omega
      · rw [va_up_ne _ _ e2] at hh2
        rw [e1, va_up_self, va_up_ne _ _ e2] at e
        exact absurd e.symm (hnp q hq9 hh2)
    · rw [va_up_ne _ _ e1] at hh
      by_cases e2 : q = pp
      · rw [e2, va_up_self, va_up_ne _ _ e1] at e
        exact absurd e (hnp p hp9 hh)
      · rw [va_up_ne _ _ e2] at hh2
        rw [va_up_ne _ _ e1, va_up_ne _ _ e2] at e
        exact h6 p q hp9 hq9 hh hh2 e
theorem HREL_del {hq : Nat → Option Nat} {nu : Nat → Int32} {tg tl : Nat → Nat} {gg : Nat → Nat → Nat} {lr : Nat} {nu8 : Nat → Int32} {lt8 pr8 pa8 pao : Nat → Nat} {N p i : Nat} (h : HREL hq nu tg tl gg lr nu8 lt8 pr8 pa8 N) (hp : p < 100) (hf : ¬ hq p = none) (hi : i < lr) (hm : MTC nu tg tl gg nu8 lt8 pr8 pa8 p i) (hb : ∀ j, pr8 j ≤ 660) (h8 : ∀ k, k < pr8 (lr - 1) → pao (660 * i + k) = pa8 (660 * (lr - 1) + k)) (h9 : ∀ j, j < 660 * i ∨ 660 * (i + 1) ≤ j → pao j = pa8 j) :
    HREL (va_up hq p none) nu tg tl gg (lr - 1) (upd nu8 i (nu8 (lr - 1))) (updN lt8 i (lt8 (lr - 1))) (updN pr8 i (pr8 (lr - 1))) pao N := by
  obtain ⟨h1, h2, h3, h4, h5, h6⟩ := h
  have hlast : ∀ q, MTC nu tg tl gg nu8 lt8 pr8 pa8 q (lr - 1) → MTC nu tg tl gg (upd nu8 i (nu8 (lr - 1))) (updN lt8 i (lt8 (lr - 1))) (updN pr8 i (pr8 (lr - 1))) pao q i := fun q hq9 => MTC_cg hq9 rfl rfl rfl rfl upd_s updN_s updN_s h8
  have hoth : ∀ q j, j ≠ i → MTC nu tg tl gg nu8 lt8 pr8 pa8 q j → MTC nu tg tl gg (upd nu8 i (nu8 (lr - 1))) (updN lt8 i (lt8 (lr - 1))) (updN pr8 i (pr8 (lr - 1))) pao q j := fun q j hj hq9 => MTC_cg hq9 rfl rfl rfl rfl (upd_n hj) (updN_n hj) (updN_n hj) (fun k hk => h9 _ (by have := hb j; omega))
  have hpe : ∀ q, q < 100 → ¬ hq q = none → MTC nu tg tl gg nu8 lt8 pr8 pa8 q i → q = p := fun q q1 q2 q3 => h6 q p q1 hp q2 hf (q3.1.trans hm.1.symm)
  refine ⟨by have := cntH_del hf 100 hp; omega, fun q hq9 hh => ?_, fun j hj => ?_, fun j hj => ?_, fun j k hj hk e => ?_, fun q q2 hq9 hq8 hh hh2 e => ?_⟩
  · have hqp : q ≠ p := fun e => hh (by rw [e, va_up_self])
    rw [va_up_ne _ _ hqp] at hh
    obtain ⟨j, hj, hmj⟩ := h2 q hq9 hh
    have hji : j ≠ i := fun e => hqp (hpe q hq9 hh (by rw [← e]; exact hmj))
    by_cases e : j = lr - 1
    · exact ⟨i, by omega, hlast q (by rw [← e]; exact hmj)⟩
    · exact ⟨j, by omega, hoth q j hji hmj⟩
  · by_cases e : j = i
    · obtain ⟨q, q1, q2, q3⟩ := h3 (lr - 1) (by omega)
      have hqp : q ≠ p := fun e9 => by
        rw [e9] at q3
        have := h5 (lr - 1) i (by omega) hi (q3.1.symm.trans hm.1)
        omega
      rw [e]
      exact ⟨q, q1, by rw [va_up_ne _ _ hqp]; exact q2, hlast q q3⟩
    · obtain ⟨q, q1, q2, q3⟩ := h3 j (by omega)
      have hqp : q ≠ p := fun e9 => by
        rw [e9] at q3
        exact e (h5 j i (by omega) hi (q3.1.symm.trans hm.1))
      exact ⟨q, q1, by rw [va_up_ne _ _ hqp]; exact q2, hoth q j e q3⟩
  · by_cases e : j = i
    · rw [e, upd_s]; exact h4 (lr - 1) (by omega)
    · rw [upd_n e]; exact h4 j (by omega)
  · by_cases e1 : j = i
    · by_cases e2 : k = i
      · omega
      · rw [e1, upd_s, upd_n e2] at e
        have := h5 (lr - 1) k (by omega) (by omega) e
        omega
    · by_cases e2 : k = i
      · rw [e2, upd_s, upd_n e1] at e
        have := h5 j (lr - 1) (by omega) (by omega) e
        omega
      · rw [upd_n e1, upd_n e2] at e
        exact h5 j k (by omega) (by omega) e
  · have hqp : q ≠ p := fun e9 => hh (by rw [e9, va_up_self])
    have hqp2 : q2 ≠ p := fun e9 => hh2 (by rw [e9, va_up_self])
    rw [va_up_ne _ _ hqp] at hh
    rw [va_up_ne _ _ hqp2] at hh2
    exact h6 q q2 hq9 hq8 hh hh2 e
/-- a trail counted, by the class and by the model -/
theorem CT_AD {f : Nat → Int32} {t b : Nat} {x : Int32} {gt pa : Nat → Nat} : ∀ n, PRS pa b gt n → cT f t gt x (n + 1) = adF f t pa b x n
  | 0, _ => cT_1 f t gt x
  | n + 1, h => by
    have h1 := CT_AD (f := f) (t := t) (x := x) n (fun k hk => h k (by omega))
    rw [cT_s f t gt x (show 1 ≤ n + 1 by omega), Nat.add_sub_cancel, h1]
    show _ = upd (adF f t pa b x n) (784 * t + pa (b + n)) (adF f t pa b x n (784 * t + pa (b + n)) + x)
    rw [h n (by omega), show ix3 t (gt n) (gt (n + 1)) = 784 * t + (28 * gt n + gt (n + 1)) by unfold ix3; omega]
/-- the trails of one text -/
theorem TR_eq {lt lw lt2 lw2 g sb ln bb by_ mk : Nat → Nat} {f : Nat → Int32} {z n w w2 : Nat} (hL : LREL lt lw lt2 lw2 z) (h : SOK g sb ln n w) (h2 : CUT f bb by_ mk n w2) (e : ∀ j, j < n → g j = gm f j) : ∀ i, i ≤ w → tln lt lw z g sb ln i = tln lt2 lw2 z (gm f) bb (fun i => mst (by_ i)) i ∧ tgr lt lw z g sb ln i = tgr lt2 lw2 z (gm f) bb (fun i => mst (by_ i)) i := by
  obtain ⟨ew, hw⟩ := WREL h h2 e
  intro i
  induction i with
  | zero => intro _; exact ⟨rfl, rfl⟩
  | succ i ih =>
    intro hi
    obtain ⟨i1, i2⟩ := ih (by omega)
    obtain ⟨q1, q2, q3, q4⟩ := hw i (by omega)
    obtain ⟨w1, w3, w4, w5, w6⟩ := h.wd (i := i) (by omega)
    have hic : cnD lt lw z g sb ln i ↔ cnD lt2 lw2 z (gm f) bb (fun i => mst (by_ i)) i := by
      have e28 : g (sb i) = gm f (bb i) := by rw [← q1]; exact e _ (by omega)
      have hs : ¬ g (sb i) = 28 → ∀ p, p < z → (sW lt lw g (sb i) (ln i) p ↔ sW lt2 lw2 (gm f) (bb i) (mst (by_ i)) p) := fun hn p hp => by
        obtain ⟨r1, r2⟩ := hL p hp
        have hl := q3 hn
        rw [← hl, ← q1]
        constructor
        · intro ⟨s1, s2⟩
          refine ⟨by rw [← r1]; exact s1, fun k hk => ?_⟩
          rw [← e (sb i + k) (by omega), ← s2 k hk, r2 k (by omega), Nat.mul_comm p 24]
        · intro ⟨s1, s2⟩
          refine ⟨by rw [r1]; exact s1, fun k hk => ?_⟩
          rw [r2 k (by omega), e (sb i + k) (by omega), ← s2 k hk, Nat.mul_comm]
      constructor
      · intro ⟨c1, c2⟩
        exact ⟨by rw [← e28]; exact c1, fun p hp h9 => c2 p hp ((hs c1 p hp).mpr h9)⟩
      · intro ⟨c1, c2⟩
        rw [← e28] at c1
        exact ⟨c1, fun p hp h9 => c2 p hp ((hs c1 p hp).mp h9)⟩
    by_cases hc : cnD lt lw z g sb ln i
    · have hl := q3 hc.1
      rw [tln_y hc, tln_y (hic.mp hc), tgr_y hc, tgr_y (hic.mp hc), i1, i2]
      refine ⟨by show _ + (ln i + 1) = _ + (mst (by_ i) + 1); rw [hl], ?_⟩
      show updN (va_cpy g _ (sb i) _ (ln i)) (_ + ln i) 27 = updN (va_cpy (gm f) _ (bb i) _ (mst (by_ i))) (_ + mst (by_ i)) 27
      rw [← hl, ← q1]
      congr 1
      funext k
      unfold va_cpy
      split
      · exact e _ (by omega)
      · rfl
    · rw [tln_n hc, tln_n (fun h9 => hc (hic.mpr h9)), tgr_n hc, tgr_n (fun h9 => hc (hic.mpr h9))]
      exact ⟨i1, i2⟩
/-- learn: the answers, and what is learnt behind it -/
theorem LR_eq {ts tp zt zt2 z n lr N lo_ no wo : Nat} {p0 p1 r vo r2 vo2 v4 v5 v4o v5o nb no_ : Int32} {gt g2 go so lo t8 u8 bo yo ko ln8 sn8 : Nat → Nat} {f fo ft8 ct8 cto : Nat → Int32} {hq hqo : Nat → Option Nat} {L Lo : List Nat} {fp fpo : Nat → va_E} {nu nuo nu8 nuo8 : Nat → Int32} {tg tr tl tgo tro tlo lt8 pr8 pa8 lto pro pao : Nat → Nat} {gg ggo : Nat → Nat → Nat}
    (e : tp = ts) (et : zt2 = zt) (hzt : zt ≤ 8) (ez : n = z) (h6 : ts ≤ 600) (hs : ∀ j, j < ts → gt j = gm ft8 j) (hL : LREL t8 u8 ln8 sn8 z) (hH : HREL hq nu tg tl gg lr nu8 lt8 pr8 pa8 N) (hN : N ≤ 4000) (e5 : v5 = nI N) (e5b : nb = nI N) (e4 : v4 = nI lr) (hb : ∀ j, pr8 j ≤ 660) (hc : ct8 = f)
    (h1 : (¬ inT zt p0 ∧ r = (-1) ∧ vo = 1 ∧ (fo = f ∧ hqo = hq ∧ Lo = L ∧ fpo = fp ∧ nuo = nu ∧ tgo = tg ∧ tro = tr ∧ tlo = tl ∧ ggo = gg ∧ v4o = v4 ∧ v5o = v5)) ∨ (inT zt p0 ∧ ¬ onT ts p1 ∧ r = (-1) ∧ vo = 2 ∧ (fo = f ∧ hqo = hq ∧ Lo = L ∧ fpo = fp ∧ nuo = nu ∧ tgo = tg ∧ tro = tr ∧ tlo = tl ∧ ggo = gg ∧ v4o = v4 ∧ v5o = v5)) ∨ (inT zt p0 ∧ (∃ k9, k9 ≤ ts ∧ p1 = nI k9 ∧ (¬ (k9 ≤ 600 ∧ cB (va_cpy gt g2 0 0 k9) k9 ≤ 60) ∨ ∀ p, p < 100 → ¬ hq p = none)) ∧ r = (-1) ∧ vo = 3 ∧ (fo = f ∧ hqo = hq ∧ Lo = L ∧ fpo = fp ∧ nuo = nu ∧ tgo = tg ∧ tro = tr ∧ tlo = tl ∧ ggo = gg ∧ v4o = v4 ∧ v5o = v5)) ∨
      (∃ j9 k9 pp, j9 < zt ∧ p0 = nI j9 ∧ k9 ≤ ts ∧ p1 = nI k9 ∧ (k9 ≤ 600 ∧ cB (va_cpy gt g2 0 0 k9) k9 ≤ 60) ∧ pp < 100 ∧ hq pp = none ∧ SOK go so lo no wo ∧ no = k9 ∧ go = va_cpy gt g2 0 0 k9 ∧ r = v5 ∧ vo = 0 ∧ v4o = v4 + 1 ∧ v5o = v5 + 1 ∧ fo = cT f j9 (tgr t8 u8 z go so lo wo) 1 (tln t8 u8 z go so lo wo) ∧ (∃ a, hqo = va_up hq pp (some a)) ∧ nuo = va_up nu pp v5 ∧ tgo = va_up tg pp j9 ∧ tlo = va_up tl pp (tln t8 u8 z go so lo wo) ∧ ggo = va_up gg pp (tgr t8 u8 z go so lo wo)))
    (h2 : (¬ inT zt2 p0 ∧ r2 = (-1) ∧ vo2 = 1 ∧ lo_ = lr ∧ no_ = nb ∧ nuo8 = nu8 ∧ lto = lt8 ∧ pro = pr8 ∧ pao = pa8 ∧ cto = ct8) ∨ (inT zt2 p0 ∧ ¬ onT tp p1 ∧ r2 = (-1) ∧ vo2 = 2 ∧ lo_ = lr ∧ no_ = nb ∧ nuo8 = nu8 ∧ lto = lt8 ∧ pro = pr8 ∧ pao = pa8 ∧ cto = ct8) ∨ (inT zt2 p0 ∧ (∃ k9, k9 ≤ tp ∧ p1 = nI k9 ∧ (lr = 100 ∨ 60 < cB (gm ft8) k9)) ∧ r2 = (-1) ∧ vo2 = 3 ∧ lo_ = lr ∧ no_ = nb ∧ nuo8 = nu8 ∧ lto = lt8 ∧ pro = pr8 ∧ pao = pa8 ∧ cto = ct8) ∨
      (∃ j9 k9, j9 < zt2 ∧ p0 = nI j9 ∧ k9 ≤ tp ∧ p1 = nI k9 ∧ lr < 100 ∧ cB (gm ft8) k9 ≤ 60 ∧ CUT ft8 bo yo ko k9 (cB (gm ft8) k9) ∧ r2 = nb ∧ vo2 = 0 ∧ lo_ = lr + 1 ∧ no_ = nb + 1 ∧ nuo8 = upd nu8 lr nb ∧ lto = updN lt8 lr j9 ∧ pro = updN pr8 lr (tln ln8 sn8 n (gm ft8) bo (fun i => mst (yo i)) (cB (gm ft8) k9) - 1) ∧ PRS pao (660 * lr) (tgr ln8 sn8 n (gm ft8) bo (fun i => mst (yo i)) (cB (gm ft8) k9)) (tln ln8 sn8 n (gm ft8) bo (fun i => mst (yo i)) (cB (gm ft8) k9) - 1) ∧ (∀ j, j < 660 * lr → pao j = pa8 j) ∧ cto = adF ct8 j9 pao (660 * lr) 1 (tln ln8 sn8 n (gm ft8) bo (fun i => mst (yo i)) (cB (gm ft8) k9) - 1))) :
    r = r2 ∧ vo = vo2 ∧ ∃ N2, N2 ≤ N + 1 ∧ v5o = nI N2 ∧ no_ = nI N2 ∧ v4o = nI lo_ ∧ HREL hqo nuo tgo tlo ggo lo_ nuo8 lto pro pao N2 ∧ cto = fo := by
  subst e
  subst et
  subst ez
  have same : ∀ {x y : Int32}, r = x ∧ vo = y ∧ (fo = f ∧ hqo = hq ∧ Lo = L ∧ fpo = fp ∧ nuo = nu ∧ tgo = tg ∧ tro = tr ∧ tlo = tl ∧ ggo = gg ∧ v4o = v4 ∧ v5o = v5) → r2 = x ∧ vo2 = y ∧ lo_ = lr ∧ no_ = nb ∧ nuo8 = nu8 ∧ lto = lt8 ∧ pro = pr8 ∧ pao = pa8 ∧ cto = ct8 → r = r2 ∧ vo = vo2 ∧ ∃ N2, N2 ≤ N + 1 ∧ v5o = nI N2 ∧ no_ = nI N2 ∧ v4o = nI lo_ ∧ HREL hqo nuo tgo tlo ggo lo_ nuo8 lto pro pao N2 ∧ cto = fo := by
    intro x y ⟨a1, a2, a3, a4, _, _, a5, a6, _, a7, a8, a9, a10⟩ ⟨b1, b2, b3, b4, b5, b6, b7, b8, b9⟩
    exact ⟨by rw [a1, b1], by rw [a2, b2], N, by omega, by rw [a10, e5], by rw [b4, e5b], by rw [a9, b3, e4], by rw [a4, a5, a6, a7, a8, b3, b5, b6, b7, b8]; exact hH, by rw [a3, b9, hc]⟩
  have efit : ∀ k, k ≤ tp → ((k ≤ 600 ∧ cB (va_cpy gt g2 0 0 k) k ≤ 60) ↔ cB (gm ft8) k ≤ 60) := fun k hk => by
    rw [cB_congr (g := va_cpy gt g2 0 0 k) (g2 := gm ft8) k (fun j hj => by rw [cpy0 hj, hs j (by omega)])]
    exact ⟨fun h => h.2, fun h => ⟨by omega, h⟩⟩
  have efree : (∀ p, p < 100 → ¬ hq p = none) ↔ lr = 100 := by
    constructor
    · intro h; rw [← hH.1]; exact cntH_full 100 h
    · intro h p hp h9
      have := cntH_free h9 100 hp
      rw [hH.1] at this; omega
  rcases h1 with ⟨a1, a2⟩ | ⟨a0, a1, a2⟩ | ⟨a0, ⟨k, a1, a2, a3⟩, a4⟩ | ⟨j, k, pp, j1, j2, k1, k2, c1, c2, c3, c4, c5, c6, c7, c8, c9, c10, c11, ⟨a, c12⟩, c13, c14, c15, c16⟩
  · rcases h2 with ⟨b1, b2⟩ | ⟨b0, b1, b2⟩ | ⟨b0, _⟩ | ⟨j9, k9, i1, i2, _⟩
    · exact same a2 b2
    · exact absurd b0 a1
    · exact absurd b0 a1
    · exact absurd ⟨j9, i1, i2⟩ a1
  · rcases h2 with ⟨b1, b2⟩ | ⟨b0, b1, b2⟩ | ⟨b0, ⟨k9, b1, b2, _⟩, _⟩ | ⟨j9, k9, i1, i2, i3, i4, _⟩
    · exact absurd a0 b1
    · exact same a2 b2
    · exact absurd ⟨k9, b1, b2⟩ a1
    · exact absurd ⟨k9, i3, i4⟩ a1
  · rcases h2 with ⟨b1, b2⟩ | ⟨b0, b1, b2⟩ | ⟨b0, ⟨k9, b1, b2, b3⟩, b4⟩ | ⟨j9, k9, i1, i2, i3, i4, i5, i6, _⟩
    · exact absurd a0 b1
    · exact absurd ⟨k, a1, a2⟩ b1
    · exact same a4 b4
    · have ek : k9 = k := onT_eq h6 i3 i4 a1 a2
      subst ek
      rcases a3 with a3 | a3
      · exact absurd ((efit k9 a1).mpr i6) a3
      · have := efree.mp a3; omega
  · rcases h2 with ⟨b1, b2⟩ | ⟨b0, b1, b2⟩ | ⟨b0, ⟨k9, b1, b2, b3⟩, b4⟩ | ⟨j9, k9, i1, i2, i3, i4, i5, i6, i7, i8, i9, i10, i11, i12, i13, i14, i15, i16, i17⟩
    · exact absurd ⟨j, j1, j2⟩ b1
    · exact absurd ⟨k, k1, k2⟩ b1
    · have ek : k9 = k := onT_eq h6 b1 b2 k1 k2
      subst ek
      rcases b3 with b3 | b3
      · exact absurd (efree.mpr b3) (fun h9 => h9 pp c2 c3)
      · have := (efit k9 k1).mp c1; omega
    · have ek : k9 = k := onT_eq h6 i3 i4 k1 k2
      have ej : j9 = j := (nI_eq (a := j9) (b := j) (by omega) (by omega)).mp (i2.symm.trans j2)
      subst ek
      subst ej
      subst c5
      have eg : ∀ j, j < no → go j = gm ft8 j := fun j hj => by rw [c6, cpy0 hj, hs j (by omega)]
      obtain ⟨ew, -⟩ := WREL c4 i7 eg
      obtain ⟨t1, t2⟩ := TR_eq hL c4 i7 eg wo (Nat.le_refl wo)
      rw [ew] at t1 t2
      have t3 := tln_1 (lt := t8) (lw := u8) (z := n) (g := go) (sb := so) (ln := lo) wo
      rw [ew] at c11 c15 c16 t3
      obtain ⟨m, em⟩ : ∃ m, tln t8 u8 n go so lo (cB (gm ft8) no) = m + 1 := ⟨_, (Nat.sub_add_cancel t3).symm⟩
      rw [← t1, em, Nat.add_sub_cancel] at i14 i15 i17
      rw [← t2] at i15
      rw [em] at c11 c15
      refine ⟨by rw [c7, i8, e5, e5b], by rw [c8, i9], N + 1, Nat.le_refl _, by rw [c10, e5]; exact nI_1 N, by rw [i11, e5b]; exact nI_1 N, by rw [c9, e4, i10]; exact nI_1 lr, ?_, ?_⟩
      · rw [c12, c13, c14, c15, c16, i10, i12, i13, i14, e5, e5b]
        exact HREL_add hH hN c2 c3 hb i15 i16
      · rw [i17, c11, hc]
        exact (CT_AD m i15).symm
/-- forget: the answers, and what is learnt behind it -/
theorem FG_eq {lr N lo_ : Nat} {p0 r vo r2 vo2 v4 v4o : Int32} {f fo ct8 cto : Nat → Int32} {hq hqo : Nat → Option Nat} {nu nu8 nuo8 : Nat → Int32} {tg tl lt8 pr8 pa8 lto pro pao : Nat → Nat} {gg : Nat → Nat → Nat}
    (hH : HREL hq nu tg tl gg lr nu8 lt8 pr8 pa8 N) (e4 : v4 = nI lr) (hb : ∀ j, pr8 j ≤ 660) (hc : ct8 = f)
    (hB : (r = 1 ∧ (∃ p, p < 100 ∧ (∃ a, hq p = some a) ∧ nu p = p0)) ∨ (r = 0 ∧ ¬ (∃ p, p < 100 ∧ (∃ a, hq p = some a) ∧ nu p = p0)))
    (h1 : (r = 1 → ∃ pp, pp < 100 ∧ (∃ a, hq pp = some a) ∧ nu pp = p0 ∧ (∀ p, p < pp → ∀ a, hq p = some a → ¬ nu p = p0) ∧ fo = cT f (tg pp) (gg pp) (-1) (tl pp) ∧ hqo = va_up hq pp none ∧ v4o = v4 - 1 ∧ vo = 0) ∧ (r = 0 → fo = f ∧ hqo = hq ∧ v4o = v4 ∧ vo = 1))
    (h2 : (r2 = 0 ∧ (∀ q, q < lr → ¬ nu8 q = p0) ∧ vo2 = 1 ∧ lo_ = lr ∧ cto = ct8 ∧ nuo8 = nu8 ∧ lto = lt8 ∧ pro = pr8 ∧ pao = pa8) ∨ (∃ i, i < lr ∧ nu8 i = p0 ∧ (∀ q, q < i → ¬ nu8 q = p0) ∧ r2 = 1 ∧ vo2 = 0 ∧ lo_ = lr - 1 ∧ cto = adF ct8 (lt8 i) pa8 (660 * i) (-1) (pr8 i) ∧ nuo8 = upd nu8 i (nu8 (lr - 1)) ∧ lto = updN lt8 i (lt8 (lr - 1)) ∧ pro = updN pr8 i (pr8 (lr - 1)) ∧ (∀ k, k < pr8 (lr - 1) → pao (660 * i + k) = pa8 (660 * (lr - 1) + k)) ∧ ∀ j, j < 660 * i ∨ 660 * (i + 1) ≤ j → pao j = pa8 j)) :
    r = r2 ∧ vo = vo2 ∧ v4o = nI lo_ ∧ HREL hqo nu tg tl gg lo_ nuo8 lto pro pao N ∧ cto = fo := by
  have hl : lr ≤ 100 := by rw [← hH.1]; exact cntH_le hq 100
  rcases hB with ⟨b1, p, b2, ⟨a, b3⟩, b4⟩ | ⟨b1, b2⟩
  · rcases h2 with ⟨_, c2, _⟩ | ⟨i, c1, c2, c3, c4, c5, c6, c7, c8, c9, c10, c11, c12⟩
    · obtain ⟨i, hi, hm⟩ := hH.2.1 p b2 (by rw [b3]; exact fun h9 => nomatch h9)
      exact absurd (hm.1.symm.trans b4) (c2 i hi)
    · obtain ⟨pp, d1, ⟨a2, d2⟩, d3, d4, d5, d6, d7, d8⟩ := h1.1 b1
      have hf : ¬ hq pp = none := by rw [d2]; exact fun h9 => nomatch h9
      obtain ⟨i2, hi2, hm2⟩ := hH.2.1 pp d1 hf
      have ei : i2 = i := hH.2.2.2.2.1 i2 i hi2 c1 (hm2.1.symm.trans (d3.trans c2.symm))
      subst ei
      refine ⟨by rw [b1, c4], by rw [d8, c5], by rw [d7, e4, c6]; exact pk_sub (a := lr) (b := 1) (by omega), ?_, ?_⟩
      · rw [d6, c6, c8, c9, c10]
        exact HREL_del hH d1 hf c1 hm2 hb c11 c12
      · rw [c7, d5, hc, hm2.2.1, hm2.2.2.1]
        exact (CT_AD _ hm2.2.2.2).symm
  · rcases h2 with ⟨c1, c2, c3, c4, c5, c6, c7, c8, c9⟩ | ⟨i, c1, c2, _⟩
    · obtain ⟨d1, d2, d3, d4⟩ := h1.2 b1
      exact ⟨by rw [b1, c1], by rw [d4, c3], by rw [d3, e4, c4], by rw [d2, c4, c6, c7, c8, c9]; exact hH, by rw [c5, d1, hc]⟩
    · obtain ⟨p, q1, q2, q3⟩ := hH.2.2.1 i c1
      refine absurd ⟨p, q1, ?_, q3.1.trans c2⟩ b2
      cases h9 : hq p with
      | none => exact absurd h9 q2
      | some a => exact ⟨a, rfl⟩
/-- pair: the answers -/
theorem PR_eq {z g : Nat} {p0 p1 p2 r r2 : Int32} {f ct8 : Nat → Int32} (e : g = z) (hc : ct8 = f) (h1 : (r = (-1) ∧ ¬ (inT z p0 ∧ inT 28 p1 ∧ inT 28 p2)) ∨ (∃ a b c, a < z ∧ p0 = nI a ∧ b < 28 ∧ p1 = nI b ∧ c < 28 ∧ p2 = nI c ∧ r = f (ix3 a b c))) (h2 : (r2 = (-1) ∧ ¬ (inT g p0 ∧ inT 28 p1 ∧ inT 28 p2)) ∨ (∃ a b c, a < g ∧ p0 = nI a ∧ b < 28 ∧ p1 = nI b ∧ c < 28 ∧ p2 = nI c ∧ r2 = ct8 (28 * (28 * a + b) + c))) (hz : z ≤ 8) : r = r2 := by
  subst e
  rcases h1 with ⟨a1, a2⟩ | ⟨a, b, c, q1, q2, q3, q4, q5, q6, q7⟩
  · rcases h2 with ⟨b1, b2⟩ | ⟨a, b, c, q1, q2, q3, q4, q5, q6, q7⟩
    · rw [a1, b1]
    · exact absurd ⟨⟨a, q1, q2⟩, ⟨b, q3, q4⟩, ⟨c, q5, q6⟩⟩ a2
  · rcases h2 with ⟨b1, b2⟩ | ⟨a', b', c', s1, s2, s3, s4, s5, s6, s7⟩
    · exact absurd ⟨⟨a, q1, q2⟩, ⟨b, q3, q4⟩, ⟨c, q5, q6⟩⟩ b2
    · have ea : a' = a := (nI_eq (a := a') (b := a) (by omega) (by omega)).mp (s2.symm.trans q2)
      have eb : b' = b := (nI_eq (a := b') (b := b) (by omega) (by omega)).mp (s4.symm.trans q4)
      have ec : c' = c := (nI_eq (a := c') (b := c) (by omega) (by omega)).mp (s6.symm.trans q6)
      subst ea eb ec
      rw [q7, s7, hc, show ix3 a' b' c' = 28 * (28 * a' + b') + c' by unfold ix3; omega]
/-- count: the answers -/
theorem CN_eq {z zt z6 z8 w1 n1 ts tg lr kn nn wd sz tp : Nat} {p0 r r2 v4 : Int32} {g1 s1 l1 : Nat → Nat} {fx : Nat → Int32} (e1 : tg = z) (e2 : v4 = nI lr) (e3 : kn = z6) (e4 : nn = z8) (e5 : sz = n1) (e6 : tp = ts) (hT : SOK g1 s1 l1 n1 w1) (hX : TXT fx sz wd) (hx : ∀ j, j < n1 → g1 j = gm fx j) (h1 : r = cntF p0 (nI z) v4 (nI z6) (nI z8) (nI w1) (nI n1) (nI ts)) (h2 : r2 = cntF p0 (nI tg) (nI lr) (nI kn) (nI nn) (nI wd) (nI sz) (nI tp)) : r = r2 := by
  have ew : wd = w1 := by
    obtain ⟨a1, a2, a3, -⟩ := hT
    obtain ⟨b1, b2, b3⟩ := hX
    rw [a3, b3, e5]
    exact (cB_congr n1 hx).symm
  rw [h1, h2, e1, e2, e3, e4, e5, e6, ew]
