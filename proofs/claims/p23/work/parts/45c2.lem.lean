theorem bt_int (y : Int32) : ((y.toBitVec.toNat % 256 : Nat) : Int) = y.toInt % 256 := by
  have h : y.toInt = y.toBitVec.toInt := rfl
  rw [h, BitVec.toInt_eq_toNat_cond]
  split <;> omega
theorem bt_nar (x : Int32) : (vp_nar .byte x).toBitVec.toNat % 256 = x.toBitVec.toNat % 256 := by
  apply Int.ofNat.inj
  show (((vp_nar .byte x).toBitVec.toNat % 256 : Nat) : Int) = ((x.toBitVec.toNat % 256 : Nat) : Int)
  rw [bt_int, bt_int, vp_nar_byte, Int8.toInt_toInt32, Int32.toInt_toInt8]
  exact Int.bmod_emod ..
theorem gm_up {f : Nat → Int32} {k : Nat} {x : Int32} (j : Nat) : gm (upd f k (vp_nar .byte x)) j = if j = k then sgF (x.toBitVec.toNat % 256) else gm f j := by
  unfold gm bt
  by_cases e : j = k
  · rw [if_pos e, show upd f k (vp_nar .byte x) j = vp_nar .byte x from if_pos e, bt_nar]
  · rw [if_neg e, show upd f k (vp_nar .byte x) j = f j from if_neg e]
theorem by_shr (p : Int32) (s : Nat) (hs : s = 0 ∨ s = 8 ∨ s = 16 ∨ s = 24) : (p >>> (nI s &&& 31)).toBitVec.toNat % 256 = byN p s := by
  apply Int.ofNat.inj
  show (((p >>> (nI s &&& 31)).toBitVec.toNat % 256 : Nat) : Int) = ((byN p s : Nat) : Int)
  have hp : p.toInt = p.toBitVec.toInt := rfl
  have hN := p.toBitVec.isLt
  rw [bt_int]
  unfold byN
  rcases hs with rfl | rfl | rfl | rfl
  · rw [pk_shr p (nI 0 &&& 31) 0 (by decide), Int.shiftRight_eq_div_pow, hp, BitVec.toInt_eq_toNat_cond]
    split <;> omega
  · rw [pk_shr p (nI 8 &&& 31) 8 (by decide), Int.shiftRight_eq_div_pow, hp, BitVec.toInt_eq_toNat_cond]
    split <;> omega
  · rw [pk_shr p (nI 16 &&& 31) 16 (by decide), Int.shiftRight_eq_div_pow, hp, BitVec.toInt_eq_toNat_cond]
    split <;> omega
  · rw [pk_shr p (nI 24 &&& 31) 24 (by decide), Int.shiftRight_eq_div_pow, hp, BitVec.toInt_eq_toNat_cond]
    split <;> omega
theorem sh_ix : ∀ k : Fin 20, (24 : Int32) - 8 * (nI k.val - nI k.val / 4 * 4) = nI (24 - 8 * (k.val % 4)) := by decide +kernel
theorem fd_x {kk : Nat} {p xq xu xv : Int32} (hk : kk < 20) (exq : xq = nI kk - nI kk / 4 * 4) (exu : xu = p >>> ((24 - 8 * xq) &&& 31)) (exv : xv = xu.toInt8.toInt32) : xv.toBitVec.toNat % 256 = byN p (24 - 8 * (kk % 4)) := by
  have h1 : xv = vp_nar .byte xu := exv
  rw [h1, bt_nar, exu, exq, sh_ix ⟨kk, hk⟩]
  exact by_shr p _ (by omega)
/-- the tape when k of the twenty bytes are put -/
def fdT (f0 : Nat → Int32) (t : Nat) (p0 p1 p2 p3 p4 : Int32) (k : Nat) (f : Nat → Int32) : Prop := ∀ j, gm f j = if t ≤ j ∧ j < t + k then sgF (fdB p0 p1 p2 p3 p4 (j - t)) else gm f0 j
theorem fdT_0 {f0 : Nat → Int32} {t : Nat} {p0 p1 p2 p3 p4 : Int32} : fdT f0 t p0 p1 p2 p3 p4 0 f0 := fun j => (if_neg (by omega)).symm
theorem fdT_s {f0 f : Nat → Int32} {t tq k : Nat} {p0 p1 p2 p3 p4 x : Int32} (h : fdT f0 t p0 p1 p2 p3 p4 k f) (e : tq = t + k) (hx : x.toBitVec.toNat % 256 = byN (fdS p0 p1 p2 p3 p4 k) (24 - 8 * (k % 4))) : fdT f0 t p0 p1 p2 p3 p4 (k + 1) (upd f tq (vp_nar .byte x)) := fun j => by
  subst e
  rw [gm_up]
  by_cases e1 : j = t + k
  · rw [if_pos e1, if_pos (by omega), hx, e1, Nat.add_sub_cancel_left]; rfl
  · rw [if_neg e1, h j]
    by_cases h2 : t ≤ j ∧ j < t + k
    · rw [if_pos h2, if_pos (by omega)]
    · rw [if_neg h2, if_neg (by omega)]
theorem fdS_0 {p0 p1 p2 p3 p4 : Int32} {k : Nat} (h : k < 4) : fdS p0 p1 p2 p3 p4 k = p0 := if_pos h
theorem fdS_1 {p0 p1 p2 p3 p4 : Int32} {k : Nat} (h0 : 4 ≤ k) (h : k < 8) : fdS p0 p1 p2 p3 p4 k = p1 := by unfold fdS; rw [if_neg (by omega), if_pos h]
theorem fdS_2 {p0 p1 p2 p3 p4 : Int32} {k : Nat} (h0 : 8 ≤ k) (h : k < 12) : fdS p0 p1 p2 p3 p4 k = p2 := by unfold fdS; rw [if_neg (by omega), if_neg (by omega), if_pos h]
theorem fdS_3 {p0 p1 p2 p3 p4 : Int32} {k : Nat} (h0 : 12 ≤ k) (h : k < 16) : fdS p0 p1 p2 p3 p4 k = p3 := by unfold fdS; rw [if_neg (by omega), if_neg (by omega), if_neg (by omega), if_pos h]
theorem fdS_4 {p0 p1 p2 p3 p4 : Int32} {k : Nat} (h0 : 16 ≤ k) : fdS p0 p1 p2 p3 p4 k = p4 := by unfold fdS; rw [if_neg (by omega), if_neg (by omega), if_neg (by omega), if_neg (by omega)]
