/-- one value changed: read by a test that reduces at once -/
def upB {α : Type} (f : Nat → α) (k : Nat) (v : α) : Nat → α := fun j => cond (Nat.beq j k) v (f j)
theorem TS_le {c : Prop} {so ts : Nat} (h : (c → so = 0) ∧ (¬ c → so = ts)) (ht : ts ≤ 600) : so ≤ 600 := by
  by_cases hc : c
  · rw [h.1 hc]; omega
  · rw [h.2 hc]; exact ht
theorem FE_le {r : Int32} {so ts : Nat} (h : (580 < ts → r = (-1) ∧ so = ts) ∧ (ts ≤ 580 → r = nI (ts + 20) ∧ so = ts + 20)) (ht : ts ≤ 600) : so ≤ 600 := by
  rcases Nat.lt_or_ge 580 ts with h1 | h1
  · rw [(h.1 h1).2]; exact ht
  · rw [(h.2 h1).2]; omega
theorem ZO_le {r vo : Int32} {zo z : Nat} (h : (z < 8 → r = nI z ∧ zo = z + 1 ∧ vo = 0) ∧ (¬ z < 8 → r = (-1) ∧ zo = z ∧ vo = 3)) (hz : z ≤ 8) : zo ≤ 8 := by
  by_cases hc : z < 8
  · rw [(h.1 hc).2.1]; omega
  · rw [(h.2 hc).2.1]; exact hz
theorem ROWS_L {L L2 : List Nat} {f f2 : Nat → va_E} {kr : ClassId} {Rs : List Nat} (h : ROWS L f kr Rs) (h1 : ∀ x, x ∈ L → x ∈ L2) (h2 : ∀ x, x ∈ L → f2 x = f x) : ROWS L2 f2 kr Rs := fun a ha => by
  obtain ⟨q1, q2⟩ := h a ha
  exact ⟨h1 a q1, by rw [h2 a q1]; exact q2⟩
theorem FE_eq {r r2 : Int32} {so ts so2 ts2 : Nat} (h : (580 < ts → r = (-1) ∧ so = ts) ∧ (ts ≤ 580 → r = nI (ts + 20) ∧ so = ts + 20)) (h2 : (580 < ts2 → r2 = (-1) ∧ so2 = ts2) ∧ (ts2 ≤ 580 → r2 = nI (ts2 + 20) ∧ so2 = ts2 + 20)) (e : ts2 = ts) : r = r2 ∧ so2 = so := by
  subst e
  rcases Nat.lt_or_ge 580 ts2 with h1 | h1
  · rw [(h.1 h1).1, (h.1 h1).2, (h2.1 h1).1, (h2.1 h1).2]; exact ⟨rfl, rfl⟩
  · rw [(h.2 h1).1, (h.2 h1).2, (h2.2 h1).1, (h2.2 h1).2]; exact ⟨rfl, rfl⟩
theorem ZO_eq {r vo r2 vo2 : Int32} {zo z zo2 z2 : Nat} (h : (z < 8 → r = nI z ∧ zo = z + 1 ∧ vo = 0) ∧ (¬ z < 8 → r = (-1) ∧ zo = z ∧ vo = 3)) (h2 : (z2 < 8 → r2 = nI z2 ∧ zo2 = z2 + 1 ∧ vo2 = 0) ∧ (¬ z2 < 8 → r2 = (-1) ∧ zo2 = z2 ∧ vo2 = 3)) (e : z2 = z) : r = r2 ∧ zo2 = zo := by
  subst e
  by_cases hc : z2 < 8
  · rw [(h.1 hc).1, (h.1 hc).2.1, (h2.1 hc).1, (h2.1 hc).2.1]; exact ⟨rfl, rfl⟩
  · rw [(h.2 hc).1, (h.2 hc).2.1, (h2.2 hc).1, (h2.2 hc).2.1]; exact ⟨rfl, rfl⟩
theorem TS_eq {c c2 : Prop} {so ts so2 ts2 : Nat} (h : (c → so = 0) ∧ (¬ c → so = ts)) (h2 : (c2 → so2 = 0) ∧ (¬ c2 → so2 = ts2)) (e : ts2 = ts) (ec : c ↔ c2) : so2 = so := by
  by_cases hc : c
  · rw [h.1 hc, h2.1 (ec.mp hc)]
  · rw [h.2 hc, h2.2 (fun q => hc (ec.mpr q)), e]
theorem K_eq {D : va_G} {cl : List vw_C} {tys : List (ClassId × FieldType)} {s : State} {a b : ClassId} {ty : FieldType} (hK : va_K D cl tys s) (i j : Nat) (hi : tys[i]? = some (a, ty)) (hj : tys[j]? = some (b, ty)) (hp : ∀ c, va_RA s c ty → s.vm.findClass ("[" ++ ty.toString) = some c) : a = b :=
  Option.some.inj ((hp a (hK.2 i _ hi).2).symm.trans (hp b (hK.2 j _ hj).2))
theorem hd_gt {i L : Nat} (hi : i ≤ 4000) (hL : L ≤ 4000) (h : nI L - 6 < nI i) : L < i + 6 := by
  rw [Int32.lt_iff_toInt_lt, show nI L - 6 = nI L - nI 6 from rfl, pk_sub_toInt (by omega) (by omega), nI_toInt (by omega)] at h
  omega
theorem hd_le {i L : Nat} (hi : i ≤ 4000) (hL : L ≤ 4000) (h : ¬ nI L - 6 < nI i) : i + 6 ≤ L := by
  rw [Int32.lt_iff_toInt_lt, show nI L - 6 = nI L - nI 6 from rfl, pk_sub_toInt (by omega) (by omega), nI_toInt (by omega)] at h
  omega

set_option maxRecDepth 100000 in
def WLD (X0 Y0 O0 : Nat) (KB KI KH KZ KS KW KL : ClassId) (Nn : Nat → Nat) (Ii : Nat → Int32) (Gg : Nat → Nat → Nat) (Ff : Nat → Nat → Int32) (Qq : Nat → Nat → Option Nat) (Jj : Nat → Nat → Int64) : va_W :=
  [(X0, .inr (7, [.ref (Nn 0), .int (nI (Nn 1)), .ref (Nn 2), .ref (Nn 3), .int (Ii 0), .int (Ii 1), .ref (Nn 4), .ref (Nn 5), .ref (Nn 6), .int (nI (Nn 7)), .int (nI (Nn 8)), .ref (Nn 9), .ref (Nn 10), .int (Ii 2), .ref (Nn 11), .ref (Nn 12), .ref (Nn 13), .int (Ii 3)])), (Nn 0, .inl (KB, 600, .inl (nR (Gg 0)))), (Nn 2, .inr (4, [.ref (Nn 14), .int (nI (Nn 15))])), (Nn 14, .inl (KI, 6272, .inl (Ff 0))), (Nn 3, .inl (KH, 100, .inr (.inr (.inr (.inr (Qq 0)))))), (Nn 4, .inr (6, [.ref (Nn 16), .ref (Nn 17), .int (nI (Nn 18))])), (Nn 16, .inl (KB, 1440, .inl (nR (Gg 1)))), (Nn 17, .inl (KI, 60, .inl (nR (Gg 2)))), (Nn 5, .inl (KI, 60, .inl (Ff 1))), (Nn 6, .inr (6, [.ref (Nn 19), .ref (Nn 20), .int (nI (Nn 21))])), (Nn 19, .inl (KB, 720, .inl (nR (Gg 3)))), (Nn 20, .inl (KI, 30, .inl (nR (Gg 4)))), (Nn 9, .inr (2, [.ref (Nn 22), .ref (Nn 23), .ref (Nn 24), .int (nI (Nn 25)), .int (nI (Nn 26))])), (Nn 22, .inl (KB, 600, .inl (nR (Gg 5)))), (Nn 23, .inl (KI, 60, .inl (nR (Gg 6)))), (Nn 24, .inl (KI, 60, .inl (nR (Gg 7)))), (Nn 10, .inr (2, [.ref (Nn 27), .ref (Nn 28), .ref (Nn 29), .int (nI (Nn 30)), .int (nI (Nn 31))])), (Nn 27, .inl (KB, 600, .inl (nR (Gg 8)))), (Nn 28, .inl (KI, 60, .inl (nR (Gg 9)))), (Nn 29, .inl (KI, 60, .inl (nR (Gg 10)))), (Nn 11, .inr (5, [.ref (Nn 32), .ref (Nn 33), .ref (Nn 34), .ref (Nn 35), .int (nI (Nn 36)), .int (nI (Nn 37)), .int (nI (Nn 38)), .int (Ii 4), .int (Ii 5)])), (Nn 32, .inl (KI, 480, .inl (nR (Gg 11)))), (Nn 33, .inl (KI, 480, .inl (nR (Gg 12)))), (Nn 34, .inl (KI, 60, .inl (nR (Gg 13)))), (Nn 35, .inl (KI, 60, .inl (nR (Gg 14)))), (Nn 12, .inr (1, [.ref (Nn 39), .int (nI (Nn 40)), .int (Ii 6)])), (Nn 39, .inl (KI, 60, .inl (Ff 2))), (Nn 13, .inr (3, [.ref (Nn 41), .int (nI (Nn 42)), .ref (Nn 43)])), (Nn 41, .inl (KI, 60, .inl (Ff 3))), (Nn 43, .inl (KZ, 60, .inl (Ff 4))), (Y0, .inr (8, [.int (Ii 7), .int (Ii 8), .ref (Nn 44), .int (nI (Nn 45)), .ref (Nn 46), .ref (Nn 47), .ref (Nn 48), .ref (Nn 49), .ref (Nn 50), .ref (Nn 51), .ref (Nn 52), .ref (Nn 53), .int (nI (Nn 54)), .int (nI (Nn 55)), .int (nI (Nn 56)), .ref (Nn 57), .ref (Nn 58), .ref (Nn 59), .ref (Nn 60), .ref (Nn 61), .int (nI (Nn 62)), .int (Ii 9), .int (nI (Nn 63)), .int (nI (Nn 64)), .ref (Nn 65), .ref (Nn 66), .int (nI (Nn 67)), .int (nI (Nn 68)), .int (Ii 10), .ref (Nn 69), .ref (Nn 70), .ref (Nn 71), .ref (Nn 72), .ref (Nn 73), .ref (Nn 74), .int (Ii 11), .ref (Nn 75), .int (nI (Nn 76))])), (Nn 44, .inl (KB, 600, .inl (Ff 5))), (Nn 46, .inl (KI, 60, .inl (nR (Gg 15)))), (Nn 47, .inl (KI, 60, .inl (nR (Gg 16)))), (Nn 48, .inl (KZ, 60, .inl (nR (Gg 17)))), (Nn 49, .inl (KB, 1440, .inl (nR (Gg 18)))), (Nn 50, .inl (KB, 720, .inl (nR (Gg 19)))), (Nn 51, .inl (KI, 60, .inl (nR (Gg 20)))), (Nn 52, .inl (KI, 60, .inl (Ff 6))), (Nn 53, .inl (KI, 30, .inl (nR (Gg 21)))), (Nn 57, .inl (KI, 6272, .inl (Ff 7))), (Nn 58, .inl (KI, 100, .inl (Ff 8))), (Nn 59, .inl (KI, 100, .inl (nR (Gg 22)))), (Nn 60, .inl (KI, 100, .inl (nR (Gg 23)))), (Nn 61, .inl (KS, 66000, .inl (nR (Gg 24)))), (Nn 65, .inl (KB, 600, .inl (Ff 9))), (Nn 66, .inl (KB, 600, .inl (Ff 10))), (Nn 69, .inl (KI, 480, .inl (nR (Gg 25)))), (Nn 70, .inl (KI, 8, .inl (nR (Gg 26)))), (Nn 71, .inl (KI, 8, .inl (nR (Gg 27)))), (Nn 74, .inl (KB, 60, .inl (Ff 11))), (Nn 75, .inl (KI, 60, .inl (Ff 12))), (Nn 72, .inl (KW, 8, .inr (.inr (.inr (.inr (Qq 1)))))), (Nn 73, .inl (KW, 8, .inr (.inr (.inr (.inr (Qq 2)))))), (O0, .inl (KL, 1, .inr (.inl (Jj 0))))]
set_option maxRecDepth 100000 in
abbrev FCT (ii : Nat) (KB : ClassId) (Rs : List Nat) (Nn : Nat → Nat) (Ii : Nat → Int32) (Gg : Nat → Nat → Nat) (Ff : Nat → Nat → Int32) (Qq : Nat → Nat → Option Nat) (Jj : Nat → Nat → Int64) (Lp : List Nat) (fp : Nat → va_E) (nu : Nat → Int32) (tg : Nat → Nat) (tr : Nat → Nat) (tl : Nat → Nat) (gg : Nat → Nat → Nat) (Nm : Nat) : Prop :=
  ((Nn 1) ≤ 600) ∧ (∀ j, sgn ((Gg 0) j)) ∧ ((Nn 15) ≤ 8) ∧ (SOK (Gg 5) (Gg 6) (Gg 7) (Nn 25) (Nn 26)) ∧ ((Nn 30) ≤ 600 ∧ (Nn 31) ≤ 60 ∧ ∀ j, sgn ((Gg 8) j)) ∧ (WOK (Gg 1) (Gg 2) (Nn 18) 60) ∧ (WOK (Gg 3) (Gg 4) (Nn 21) 30) ∧ (HLD Lp fp Rs (Qq 0) KB nu tg tr tl gg) ∧ (∀ x, x ∈ Rs → x ∈ Lp) ∧ ((Nn 40) ≤ 60) ∧ ((Nn 42) ≤ 60) ∧ ((Nn 45) ≤ 600) ∧ ((Nn 56) ≤ 8) ∧ (TXT (Ff 9) (Nn 67) (Nn 68)) ∧ (WOK (Gg 19) (Gg 21) (Nn 55) 30) ∧ (WOK (Gg 18) (Gg 20) (Nn 54) 60) ∧ (LRN (Gg 22) (Gg 23) (Gg 24)) ∧ ((Nn 62) ≤ 100) ∧ ((Nn 63) ≤ 2000) ∧ ((Nn 64) ≤ 5000) ∧ ((Nn 76) ≤ 60) ∧ ((Ii 11) = (-1) ∨ ∃ tm, tm ≤ 60 ∧ (Ii 11) = nI tm) ∧ (ROWS Lp fp KB Rs) ∧ (RA (Qq 1) Rs) ∧ (RA (Qq 2) Rs) ∧ ((Nn 45) = (Nn 1)) ∧ ((Nn 56) = (Nn 15)) ∧ (∀ j, j < (Nn 1) → (Gg 0) j = gm (Ff 5) j) ∧ ((Nn 67) = (Nn 25)) ∧ (∀ j, j < (Nn 25) → (Gg 5) j = gm (Ff 9) j) ∧ ((Nn 55) = (Nn 21)) ∧ (LREL (Gg 3) (Gg 4) (Gg 19) (Gg 21) (Nn 21)) ∧ ((Nn 54) = (Nn 18)) ∧ (LREL (Gg 1) (Gg 2) (Gg 18) (Gg 20) (Nn 18)) ∧ (KREL (Ff 1) (Ff 6) (Nn 18)) ∧ ((Ff 7) = (Ff 0)) ∧ ((Ii 0) = nI (Nn 62)) ∧ ((Ii 1) = nI Nm) ∧ ((Ii 9) = nI Nm) ∧ (HREL (Qq 0) nu tg tl gg (Nn 62) (Ff 8) (Gg 22) (Gg 23) (Gg 24) Nm) ∧ (Nm ≤ ii) ∧ ((Ii 8) = (Ii 3)) ∧ ((Ii 10) = (Ii 2)) ∧ ((Nn 7) = (Nn 63)) ∧ ((Nn 8) = (Nn 64)) ∧ (∀ p, p < (Nn 18) → ¬ (Ff 1) p = 0) ∧ (TLD (Ii 6) (Nn 40) (Ff 2) (Ii 11) (Ff 11)) ∧ ((Nn 76) = (Nn 42) ∧ ∀ j, j < (Nn 42) → (Ff 3) j = (Ff 12) j) ∧ (RDS (Qq 1) (Qq 2))
