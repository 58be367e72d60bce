set_option maxHeartbeats 4000000 in
set_option maxRecDepth 100000 in
theorem c_X8_refused (l : Launch) (dC : Nat → ClassId) (dI : Nat → Nat → Nat) (h0 : Nat) (w0 : Int32) (w1 : Int32) (m2 : Nat) (w3 : Int32) (m4 : Nat) (m5 : Nat) (m6 : Nat) (m7 : Nat) (m8 : Nat) (m9 : Nat) (m10 : Nat) (m11 : Nat) (w12 : Int32) (w13 : Int32) (w14 : Int32) (m15 : Nat) (m16 : Nat) (m17 : Nat) (m18 : Nat) (m19 : Nat) (w20 : Int32) (w21 : Int32) (w22 : Int32) (w23 : Int32) (m24 : Nat) (m25 : Nat) (w26 : Int32) (w27 : Int32) (w28 : Int32) (m29 : Nat) (m30 : Nat) (m31 : Nat) (m32 : Nat) (m33 : Nat) (m34 : Nat) (w35 : Int32) (m36 : Nat) (w37 : Int32) (p0 : Int32) (sz : Nat) : Met l yX8_refused wsX8_refused ({ frames := 0, cells := 0, slots := 0, locals := 0 }) (va_Pc [.ref h0, .int p0] (fun U => U.heap.size = sz ∧ va_P (dC, dI) vwCl [(h0, .inr (8, [.int w0, .int w1, .ref m2, .int w3, .ref m4, .ref m5, .ref m6, .ref m7, .ref m8, .ref m9, .ref m10, .ref m11, .int w12, .int w13, .int w14, .ref m15, .ref m16, .ref m17, .ref m18, .ref m19, .int w20, .int w21, .int w22, .int w23, .ref m24, .ref m25, .int w26, .int w27, .int w28, .ref m29, .ref m30, .ref m31, .ref m32, .ref m33, .ref m34, .int w35, .ref m36, .int w37]))] U.heap ∧ va_K (dC, dI) vwCl [] U ∧ va_D (fun _ => True) [(h0, .inr (8, [.int w0, .int w1, .ref m2, .int w3, .ref m4, .ref m5, .ref m6, .ref m7, .ref m8, .ref m9, .ref m10, .ref m11, .int w12, .int w13, .int w14, .ref m15, .ref m16, .ref m17, .ref m18, .ref m19, .int w20, .int w21, .int w22, .int w23, .ref m24, .ref m25, .int w26, .int w27, .int w28, .ref m29, .ref m30, .ref m31, .ref m32, .ref m33, .ref m34, .int w35, .ref m36, .int w37]))])) (va_Qi (fun (r : Int32) (_ : Unit) => r = (-1)) (fun (_ : Unit) (t : State) => va_P (dC, dI) vwCl [(h0, .inr (8, [.int w0, .int p0, .ref m2, .int w3, .ref m4, .ref m5, .ref m6, .ref m7, .ref m8, .ref m9, .ref m10, .ref m11, .int w12, .int w13, .int w14, .ref m15, .ref m16, .ref m17, .ref m18, .ref m19, .int w20, .int w21, .int w22, .int w23, .ref m24, .ref m25, .int w26, .int w27, .int w28, .ref m29, .ref m30, .ref m31, .ref m32, .ref m33, .ref m34, .int w35, .ref m36, .int w37]))] t.heap ∧ va_D (va_A [(h0, .inr (8, [.int w0, .int w1, .ref m2, .int w3, .ref m4, .ref m5, .ref m6, .ref m7, .ref m8, .ref m9, .ref m10, .ref m11, .int w12, .int w13, .int w14, .ref m15, .ref m16, .ref m17, .ref m18, .ref m19, .int w20, .int w21, .int w22, .int w23, .ref m24, .ref m25, .int w26, .int w27, .int w28, .ref m29, .ref m30, .ref m31, .ref m32, .ref m33, .ref m34, .int w35, .ref m36, .int w37]))] sz) [(h0, .inr (8, [.int w0, .int p0, .ref m2, .int w3, .ref m4, .ref m5, .ref m6, .ref m7, .ref m8, .ref m9, .ref m10, .ref m11, .int w12, .int w13, .int w14, .ref m15, .ref m16, .ref m17, .ref m18, .ref m19, .int w20, .int w21, .int w22, .int w23, .ref m24, .ref m25, .int w26, .int w27, .int w28, .ref m29, .ref m30, .ref m31, .ref m32, .ref m33, .ref m34, .int w35, .ref m36, .int w37]))]) (va_A [(h0, .inr (8, [.int w0, .int w1, .ref m2, .int w3, .ref m4, .ref m5, .ref m6, .ref m7, .ref m8, .ref m9, .ref m10, .ref m11, .int w12, .int w13, .int w14, .ref m15, .ref m16, .ref m17, .ref m18, .ref m19, .int w20, .int w21, .int w22, .int w23, .ref m24, .ref m25, .int w26, .int w27, .int w28, .ref m29, .ref m30, .ref m31, .ref m32, .ref m33, .ref m34, .int w35, .ref m36, .int w37]))] sz)) 0 0 (va_A [(h0, .inr (8, [.int w0, .int w1, .ref m2, .int w3, .ref m4, .ref m5, .ref m6, .ref m7, .ref m8, .ref m9, .ref m10, .ref m11, .int w12, .int w13, .int w14, .ref m15, .ref m16, .ref m17, .ref m18, .ref m19, .int w20, .int w21, .int w22, .int w23, .ref m24, .ref m25, .int w26, .int w27, .int w28, .ref m29, .ref m30, .ref m31, .ref m32, .ref m33, .ref m34, .int w35, .ref m36, .int w37]))] sz) := by
  refine Met.ofW (cc := cX8_refused) (maxL := 2) (ret := (some .int)) (by decide) rfl ?_
  intro p e s m args below meth c s₁ B hml hv
  obtain ⟨rfl, hsz, hP, hK, hD0⟩ := hv
  have hx := B.exec
  have hb := B.bytes
  have hr := B.returns
  have hts := atoms_spec (ws := wsX8_refused) B.pre
  have hown : s.vm.findClass RX8 = some m.cls := findClass_of_methodNamed B.named
  have hlocks := B.notSynchronized
  subst hsz
  have hD := hD0.self (sz := s.heap.size)
  generalize hAe : va_A [(h0, .inr (8, [.int w0, .int w1, .ref m2, .int w3, .ref m4, .ref m5, .ref m6, .ref m7, .ref m8, .ref m9, .ref m10, .ref m11, .int w12, .int w13, .int w14, .ref m15, .ref m16, .ref m17, .ref m18, .ref m19, .int w20, .int w21, .int w22, .int w23, .ref m24, .ref m25, .int w26, .int w27, .int w28, .ref m29, .ref m30, .ref m31, .ref m32, .ref m33, .ref m34, .int w35, .ref m36, .int w37]))] s.heap.size = A at hD ⊢
  have hA : ∀ q : Nat, s.heap.size ≤ q → A q := fun q h => by rw [← hAe]; exact Or.inr h
  have hS : va_S A s.heap s.heap [] := va_S.rf
  replace hP : va_P (dC, dI) vwCl [(h0, .inr (8, [.int w0, .int w1, .ref m2, .int w3, .ref m4, .ref m5, .ref m6, .ref m7, .ref m8, .ref m9, .ref m10, .ref m11, .int w12, .int w13, .int w14, .ref m15, .ref m16, .ref m17, .ref m18, .ref m19, .int w20, .int w21, .int w22, .int w23, .ref m24, .ref m25, .int w26, .int w27, .int w28, .ref m29, .ref m30, .ref m31, .ref m32, .ref m33, .ref m34, .int w35, .ref m36, .int w37]))] s.heap := hP
  have hl := lv_entry ([.ref h0, .int p0]) (n := 2) (Nat.le_of_ble_eq_true rfl)
  rw [lg_entry_eq]
  generalize (lg_sl ([.ref h0, .int p0]) ++ List.replicate (2 - (lg_sl ([.ref h0, .int p0])).length) Slot.unset).toArray = ls at hl ⊢
  replace hl : lv_has ls 2 [(0, .ref h0), (1, .int p0)] := hl
  have hi_X8 : ∀ w ∈ wsX80, w ∈ wsX8_refused := by decide +kernel
  have k_f100 := hts (.fieldLink RX8 100 "TongueTellerModel" "trouble" "I") (by decide +kernel)
  refine lv_aload_n hx hb dX8_refused_0 rfl (lv_at hl 0 rfl) ?_
  refine lv_iload_n hx hb dX8_refused_1 rfl (lv_at hl 1 rfl) ?_
  refine va_put (D := (dC, dI)) (ci := 8) (v := .int p0) (ty := .int) (C := RX8) (T := TX8) (N := 38) hx hb hts hi_X8 tyX8 tyX8_ok nmX8 hown hK hP hD hS 0 rfl rfl 1 (by decide) k_f100 (fun _ h9 => h9) rfl (by decide +kernel) rfl rfl (Nat.le_of_ble_eq_true rfl) dX8_refused_2 (fun H locs hP hD hS => ?_)
  replace hP : va_P (dC, dI) vwCl [(h0, .inr (8, [.int w0, .int p0, .ref m2, .int w3, .ref m4, .ref m5, .ref m6, .ref m7, .ref m8, .ref m9, .ref m10, .ref m11, .int w12, .int w13, .int w14, .ref m15, .ref m16, .ref m17, .ref m18, .ref m19, .int w20, .int w21, .int w22, .int w23, .ref m24, .ref m25, .int w26, .int w27, .int w28, .ref m29, .ref m30, .ref m31, .ref m32, .ref m33, .ref m34, .int w35, .ref m36, .int w37]))] H := hP
  replace hD : va_D A [(h0, .inr (8, [.int w0, .int p0, .ref m2, .int w3, .ref m4, .ref m5, .ref m6, .ref m7, .ref m8, .ref m9, .ref m10, .ref m11, .int w12, .int w13, .int w14, .ref m15, .ref m16, .ref m17, .ref m18, .ref m19, .int w20, .int w21, .int w22, .int w23, .ref m24, .ref m25, .int w26, .int w27, .int w28, .ref m29, .ref m30, .ref m31, .ref m32, .ref m33, .ref m34, .int w35, .ref m36, .int w37]))] := hD
  refine lv_iconst (v := (-1)) hx hb dX8_refused_5 (by decide) ?_
  have hP9 := hP.sub (ws' := [(h0, .inr (8, [.int w0, .int p0, .ref m2, .int w3, .ref m4, .ref m5, .ref m6, .ref m7, .ref m8, .ref m9, .ref m10, .ref m11, .int w12, .int w13, .int w14, .ref m15, .ref m16, .ref m17, .ref m18, .ref m19, .int w20, .int w21, .int w22, .int w23, .ref m24, .ref m25, .int w26, .int w27, .int w28, .ref m29, .ref m30, .ref m31, .ref m32, .ref m33, .ref m34, .int w35, .ref m36, .int w37]))]) [0] rfl
  have hD9 := hD.sub (ws' := [(h0, .inr (8, [.int w0, .int p0, .ref m2, .int w3, .ref m4, .ref m5, .ref m6, .ref m7, .ref m8, .ref m9, .ref m10, .ref m11, .int w12, .int w13, .int w14, .ref m15, .ref m16, .ref m17, .ref m18, .ref m19, .int w20, .int w21, .int w22, .int w23, .ref m24, .ref m25, .int w26, .int w27, .int w28, .ref m29, .ref m30, .ref m31, .ref m32, .ref m33, .ref m34, .int w35, .ref m36, .int w37]))]) [0] (by decide) rfl
  exact W.iret (v := (-1)) hx hb hr (fun t ht hW => ⟨⟨(-1), (), rfl, rfl, by rw [ht]; exact hP9, hD9⟩, hS.F ht⟩) hS.2.2 dX8_refused_6

set_option maxHeartbeats 4000000 in
set_option maxRecDepth 100000 in
theorem c_X8_done (l : Launch) (dC : Nat → ClassId) (dI : Nat → Nat → Nat) (h0 : Nat) (w0 : Int32) (w1 : Int32) (m2 : Nat) (w3 : Int32) (m4 : Nat) (m5 : Nat) (m6 : Nat) (m7 : Nat) (m8 : Nat) (m9 : Nat) (m10 : Nat) (m11 : Nat) (w12 : Int32) (w13 : Int32) (w14 : Int32) (m15 : Nat) (m16 : Nat) (m17 : Nat) (m18 : Nat) (m19 : Nat) (w20 : Int32) (w21 : Int32) (w22 : Int32) (w23 : Int32) (m24 : Nat) (m25 : Nat) (w26 : Int32) (w27 : Int32) (w28 : Int32) (m29 : Nat) (m30 : Nat) (m31 : Nat) (m32 : Nat) (m33 : Nat) (m34 : Nat) (w35 : Int32) (m36 : Nat) (w37 : Int32) (p0 : Int32) (sz : Nat) : Met l yX8_done wsX8_done ({ frames := 0, cells := 0, slots := 0, locals := 0 }) (va_Pc [.ref h0, .int p0] (fun U => U.heap.size = sz ∧ va_P (dC, dI) vwCl [(h0, .inr (8, [.int w0, .int w1, .ref m2, .int w3, .ref m4, .ref m5, .ref m6, .ref m7, .ref m8, .ref m9, .ref m10, .ref m11, .int w12, .int w13, .int w14, .ref m15, .ref m16, .ref m17, .ref m18, .ref m19, .int w20, .int w21, .int w22, .int w23, .ref m24, .ref m25, .int w26, .int w27, .int w28, .ref m29, .ref m30, .ref m31, .ref m32, .ref m33, .ref m34, .int w35, .ref m36, .int w37]))] U.heap ∧ va_K (dC, dI) vwCl [] U ∧ va_D (fun _ => True) [(h0, .inr (8, [.int w0, .int w1, .ref m2, .int w3, .ref m4, .ref m5, .ref m6, .ref m7, .ref m8, .ref m9, .ref m10, .ref m11, .int w12, .int w13, .int w14, .ref m15, .ref m16, .ref m17, .ref m18, .ref m19, .int w20, .int w21, .int w22, .int w23, .ref m24, .ref m25, .int w26, .int w27, .int w28, .ref m29, .ref m30, .ref m31, .ref m32, .ref m33, .ref m34, .int w35, .ref m36, .int w37]))])) (va_Qi (fun (r : Int32) (_ : Unit) => r = p0) (fun (_ : Unit) (t : State) => va_P (dC, dI) vwCl [(h0, .inr (8, [.int w0, .int 0, .ref m2, .int w3, .ref m4, .ref m5, .ref m6, .ref m7, .ref m8, .ref m9, .ref m10, .ref m11, .int w12, .int w13, .int w14, .ref m15, .ref m16, .ref m17, .ref m18, .ref m19, .int w20, .int w21, .int w22, .int w23, .ref m24, .ref m25, .int w26, .int w27, .int w28, .ref m29, .ref m30, .ref m31, .ref m32, .ref m33, .ref m34, .int w35, .ref m36, .int w37]))] t.heap ∧ va_D (va_A [(h0, .inr (8, [.int w0, .int w1, .ref m2, .int w3, .ref m4, .ref m5, .ref m6, .ref m7, .ref m8, .ref m9, .ref m10, .ref m11, .int w12, .int w13, .int w14, .ref m15, .ref m16, .ref m17, .ref m18, .ref m19, .int w20, .int w21, .int w22, .int w23, .ref m24, .ref m25, .int w26, .int w27, .int w28, .ref m29, .ref m30, .ref m31, .ref m32, .ref m33, .ref m34, .int w35, .ref m36, .int w37]))] sz) [(h0, .inr (8, [.int w0, .int 0, .ref m2, .int w3, .ref m4, .ref m5, .ref m6, .ref m7, .ref m8, .ref m9, .ref m10, .ref m11, .int w12, .int w13, .int w14, .ref m15, .ref m16, .ref m17, .ref m18, .ref m19, .int w20, .int w21, .int w22, .int w23, .ref m24, .ref m25, .int w26, .int w27, .int w28, .ref m29, .ref m30, .ref m31, .ref m32, .ref m33, .ref m34, .int w35, .ref m36, .int w37]))]) (va_A [(h0, .inr (8, [.int w0, .int w1, .ref m2, .int w3, .ref m4, .ref m5, .ref m6, .ref m7, .ref m8, .ref m9, .ref m10, .ref m11, .int w12, .int w13, .int w14, .ref m15, .ref m16, .ref m17, .ref m18, .ref m19, .int w20, .int w21, .int w22, .int w23, .ref m24, .ref m25, .int w26, .int w27, .int w28, .ref m29, .ref m30, .ref m31, .ref m32, .ref m33, .ref m34, .int w35, .ref m36, .int w37]))] sz)) 0 0 (va_A [(h0, .inr (8, [.int w0, .int w1, .ref m2, .int w3, .ref m4, .ref m5, .ref m6, .ref m7, .ref m8, .ref m9, .ref m10, .ref m11, .int w12, .int w13, .int w14, .ref m15, .ref m16, .ref m17, .ref m18, .ref m19, .int w20, .int w21, .int w22, .int w23, .ref m24, .ref m25, .int w26, .int w27, .int w28, .ref m29, .ref m30, .ref m31, .ref m32, .ref m33, .ref m34, .int w35, .ref m36, .int w37]))] sz) := by
  refine Met.ofW (cc := cX8_done) (maxL := 2) (ret := (some .int)) (by decide) rfl ?_
  intro p e s m args below meth c s₁ B hml hv
  obtain ⟨rfl, hsz, hP, hK, hD0⟩ := hv
  have hx := B.exec
  have hb := B.bytes
  have hr := B.returns
  have hts := atoms_spec (ws := wsX8_done) B.pre
  have hown : s.vm.findClass RX8 = some m.cls := findClass_of_methodNamed B.named
  have hlocks := B.notSynchronized
  subst hsz
  have hD := hD0.self (sz := s.heap.size)
  generalize hAe : va_A [(h0, .inr (8, [.int w0, .int w1, .ref m2, .int w3, .ref m4, .ref m5, .ref m6, .ref m7, .ref m8, .ref m9, .ref m10, .ref m11, .int w12, .int w13, .int w14, .ref m15, .ref m16, .ref m17, .ref m18, .ref m19, .int w20, .int w21, .int w22, .int w23, .ref m24, .ref m25, .int w26, .int w27, .int w28, .ref m29, .ref m30, .ref m31, .ref m32, .ref m33, .ref m34, .int w35, .ref m36, .int w37]))] s.heap.size = A at hD ⊢
  have hA : ∀ q : Nat, s.heap.size ≤ q → A q := fun q h => by rw [← hAe]; exact Or.inr h
  have hS : va_S A s.heap s.heap [] := va_S.rf
  replace hP : va_P (dC, dI) vwCl [(h0, .inr (8, [.int w0, .int w1, .ref m2, .int w3, .ref m4, .ref m5, .ref m6, .ref m7, .ref m8, .ref m9, .ref m10, .ref m11, .int w12, .int w13, .int w14, .ref m15, .ref m16, .ref m17, .ref m18, .ref m19, .int w20, .int w21, .int w22, .int w23, .ref m24, .ref m25, .int w26, .int w27, .int w28, .ref m29, .ref m30, .ref m31, .ref m32, .ref m33, .ref m34, .int w35, .ref m36, .int w37]))] s.heap := hP
  have hl := lv_entry ([.ref h0, .int p0]) (n := 2) (Nat.le_of_ble_eq_true rfl)
  rw [lg_entry_eq]
  generalize (lg_sl ([.ref h0, .int p0]) ++ List.replicate (2 - (lg_sl ([.ref h0, .int p0])).length) Slot.unset).toArray = ls at hl ⊢
  replace hl : lv_has ls 2 [(0, .ref h0), (1, .int p0)] := hl
  have hi_X8 : ∀ w ∈ wsX80, w ∈ wsX8_done := by decide +kernel
  have k_f100 := hts (.fieldLink RX8 100 "TongueTellerModel" "trouble" "I") (by decide +kernel)
  refine lv_aload_n hx hb dX8_done_0 rfl (lv_at hl 0 rfl) ?_
  refine lv_iconst (v := 0) hx hb dX8_done_1 (by decide) ?_
  refine va_put (D := (dC, dI)) (ci := 8) (v := .int 0) (ty := .int) (C := RX8) (T := TX8) (N := 38) hx hb hts hi_X8 tyX8 tyX8_ok nmX8 hown hK hP hD hS 0 rfl rfl 1 (by decide) k_f100 (fun _ h9 => h9) rfl (by decide +kernel) rfl rfl (Nat.le_of_ble_eq_true rfl) dX8_done_2 (fun H locs hP hD hS => ?_)
  replace hP : va_P (dC, dI) vwCl [(h0, .inr (8, [.int w0, .int 0, .ref m2, .int w3, .ref m4, .ref m5, .ref m6, .ref m7, .ref m8, .ref m9, .ref m10, .ref m11, .int w12, .int w13, .int w14, .ref m15, .ref m16, .ref m17, .ref m18, .ref m19, .int w20, .int w21, .int w22, .int w23, .ref m24, .ref m25, .int w26, .int w27, .int w28, .ref m29, .ref m30, .ref m31, .ref m32, .ref m33, .ref m34, .int w35, .ref m36, .int w37]))] H := hP
  replace hD : va_D A [(h0, .inr (8, [.int w0, .int 0, .ref m2, .int w3, .ref m4, .ref m5, .ref m6, .ref m7, .ref m8, .ref m9, .ref m10, .ref m11, .int w12, .int w13, .int w14, .ref m15, .ref m16, .ref m17, .ref m18, .ref m19, .int w20, .int w21, .int w22, .int w23, .ref m24, .ref m25, .int w26, .int w27, .int w28, .ref m29, .ref m30, .ref m31, .ref m32, .ref m33, .ref m34, .int w35, .ref m36, .int w37]))] := hD
  refine lv_iload_n hx hb dX8_done_5 rfl (lv_at hl 1 rfl) ?_
  have hP9 := hP.sub (ws' := [(h0, .inr (8, [.int w0, .int 0, .ref m2, .int w3, .ref m4, .ref m5, .ref m6, .ref m7, .ref m8, .ref m9, .ref m10, .ref m11, .int w12, .int w13, .int w14, .ref m15, .ref m16, .ref m17, .ref m18, .ref m19, .int w20, .int w21, .int w22, .int w23, .ref m24, .ref m25, .int w26, .int w27, .int w28, .ref m29, .ref m30, .ref m31, .ref m32, .ref m33, .ref m34, .int w35, .ref m36, .int w37]))]) [0] rfl
  have hD9 := hD.sub (ws' := [(h0, .inr (8, [.int w0, .int 0, .ref m2, .int w3, .ref m4, .ref m5, .ref m6, .ref m7, .ref m8, .ref m9, .ref m10, .ref m11, .int w12, .int w13, .int w14, .ref m15, .ref m16, .ref m17, .ref m18, .ref m19, .int w20, .int w21, .int w22, .int w23, .ref m24, .ref m25, .int w26, .int w27, .int w28, .ref m29, .ref m30, .ref m31, .ref m32, .ref m33, .ref m34, .int w35, .ref m36, .int w37]))]) [0] (by decide) rfl
  exact W.iret (v := p0) hx hb hr (fun t ht hW => ⟨⟨p0, (), rfl, rfl, by rw [ht]; exact hP9, hD9⟩, hS.F ht⟩) hS.2.2 dX8_done_6

set_option maxHeartbeats 4000000 in
set_option maxRecDepth 100000 in
theorem c_X8_isTaped (l : Launch) (dC : Nat → ClassId) (dI : Nat → Nat → Nat) (h0 : Nat) (w0 : Int32) (w1 : Int32) (m2 : Nat) (m4 : Nat) (m5 : Nat) (m6 : Nat) (m7 : Nat) (m8 : Nat) (m9 : Nat) (m10 : Nat) (m11 : Nat) (w12 : Int32) (w13 : Int32) (w14 : Int32) (m15 : Nat) (m16 : Nat) (m17 : Nat) (m18 : Nat) (m19 : Nat) (w20 : Int32) (w21 : Int32) (w22 : Int32) (w23 : Int32) (m24 : Nat) (m25 : Nat) (w26 : Int32) (w27 : Int32) (w28 : Int32) (m29 : Nat) (m30 : Nat) (m31 : Nat) (m32 : Nat) (m33 : Nat) (m34 : Nat) (w35 : Int32) (m36 : Nat) (w37 : Int32) (p0 : Int32) : Met l yX8_isTaped wsX8_isTaped ({ frames := 0, cells := 0, slots := 0, locals := 0 }) (va_Pc [.ref h0, .int p0] (fun U => va_P (dC, dI) vwCl [(h0, .inr (8, [.int w0, .int w1, .ref m2, .int 0, .ref m4, .ref m5, .ref m6, .ref m7, .ref m8, .ref m9, .ref m10, .ref m11, .int w12, .int w13, .int w14, .ref m15, .ref m16, .ref m17, .ref m18, .ref m19, .int w20, .int w21, .int w22, .int w23, .ref m24, .ref m25, .int w26, .int w27, .int w28, .ref m29, .ref m30, .ref m31, .ref m32, .ref m33, .ref m34, .int w35, .ref m36, .int w37]))] U.heap ∧ va_K (dC, dI) vwCl [] U)) (vp_Si (fun r => (r = 1 ∧ p0 = 0) ∨ (r = 0 ∧ ¬ p0 = 0))) 0 0 (fun _ => False) := by
  refine Met.ofW (cc := cX8_isTaped) (maxL := 2) (ret := (some .boolean)) (by decide) rfl ?_
  intro p e s m args below meth c s₁ B hml hv
  obtain ⟨rfl, hP, hK⟩ := hv
  have hx := B.exec
  have hb := B.bytes
  have hr := B.returns
  have hts := atoms_spec (ws := wsX8_isTaped) B.pre
  have hown : s.vm.findClass RX8 = some m.cls := findClass_of_methodNamed B.named
  have hlocks := B.notSynchronized
  replace hP : va_P (dC, dI) vwCl [(h0, .inr (8, [.int w0, .int w1, .ref m2, .int 0, .ref m4, .ref m5, .ref m6, .ref m7, .ref m8, .ref m9, .ref m10, .ref m11, .int w12, .int w13, .int w14, .ref m15, .ref m16, .ref m17, .ref m18, .ref m19, .int w20, .int w21, .int w22, .int w23, .ref m24, .ref m25, .int w26, .int w27, .int w28, .ref m29, .ref m30, .ref m31, .ref m32, .ref m33, .ref m34, .int w35, .ref m36, .int w37]))] s.heap := hP
  have hl := lv_entry ([.ref h0, .int p0]) (n := 2) (Nat.le_of_ble_eq_true rfl)
  rw [lg_entry_eq]
  generalize (lg_sl ([.ref h0, .int p0]) ++ List.replicate (2 - (lg_sl ([.ref h0, .int p0])).length) Slot.unset).toArray = ls at hl ⊢
  replace hl : lv_has ls 2 [(0, .ref h0), (1, .int p0)] := hl
  have hi_X8 : ∀ w ∈ wsX80, w ∈ wsX8_isTaped := by decide +kernel
  have k_f103 := hts (.fieldLink RX8 103 "TongueTellerModel" "taped" "I") (by decide +kernel)
  refine lv_iload_n hx hb dX8_isTaped_0 rfl (lv_at hl 1 rfl) ?_
  refine lv_if_lt (tgt := 16) hx hb dX8_isTaped_1 (by decide) (fun c_1 => ?_) (fun c_1 => ?_)
  · refine lv_iconst (v := 0) hx hb dX8_isTaped_16 (by decide) ?_
    exact W.zret (v := 0) hx hb hr (rfl) (fun t ht hW => ⟨0, rfl, Or.inr ⟨rfl, fun h => by rw [h] at c_1; exact absurd c_1 (by decide)⟩, ht⟩) (fun _ h => absurd h List.not_mem_nil) dX8_isTaped_17
  · refine lv_iload_n hx hb dX8_isTaped_4 rfl (lv_at hl 1 rfl) ?_
    refine lv_aload_n hx hb dX8_isTaped_5 rfl (lv_at hl 0 rfl) ?_
    refine va_get (D := (dC, dI)) (ci := 8) (v := .int 0) (C := RX8) (T := TX8) (N := 38) hx hb hts hi_X8 hown hK hP 0 rfl rfl 3 (by decide) k_f103 (fun _ h9 => h9) rfl dX8_isTaped_6 ?_
    refine lv_icmp_gt (tgt := 16) hx hb dX8_isTaped_9 (by decide) (fun c_9 => ?_) (fun c_9 => ?_)
    · refine lv_iconst (v := 0) hx hb dX8_isTaped_16 (by decide) ?_
      exact W.zret (v := 0) hx hb hr (rfl) (fun t ht hW => ⟨0, rfl, Or.inr ⟨rfl, fun h => by rw [h] at c_9; exact absurd c_9 (by decide)⟩, ht⟩) (fun _ h => absurd h List.not_mem_nil) dX8_isTaped_17
    · refine lv_iconst (v := 1) hx hb dX8_isTaped_12 (by decide) ?_
      refine lv_goto (tgt := 17) hx hb dX8_isTaped_13 (by decide) ?_
      exact W.zret (v := 1) hx hb hr (rfl) (fun t ht hW => ⟨1, rfl, Or.inl ⟨rfl, Int32.le_antisymm (Int32.not_lt.mp c_9) (Int32.not_lt.mp c_1)⟩, ht⟩) (fun _ h => absurd h List.not_mem_nil) dX8_isTaped_17

set_option maxHeartbeats 4000000 in
set_option maxRecDepth 100000 in
theorem c_X8_isTongue (l : Launch) (dC : Nat → ClassId) (dI : Nat → Nat → Nat) (h0 : Nat) (w0 : Int32) (w1 : Int32) (m2 : Nat) (w3 : Int32) (m4 : Nat) (m5 : Nat) (m6 : Nat) (m7 : Nat) (m8 : Nat) (m9 : Nat) (m10 : Nat) (m11 : Nat) (w12 : Int32) (w13 : Int32) (m15 : Nat) (m16 : Nat) (m17 : Nat) (m18 : Nat) (m19 : Nat) (w20 : Int32) (w21 : Int32) (w22 : Int32) (w23 : Int32) (m24 : Nat) (m25 : Nat) (w26 : Int32) (w27 : Int32) (w28 : Int32) (m29 : Nat) (m30 : Nat) (m31 : Nat) (m32 : Nat) (m33 : Nat) (m34 : Nat) (w35 : Int32) (m36 : Nat) (w37 : Int32) (p0 : Int32) : Met l yX8_isTongue wsX8_isTongue ({ frames := 0, cells := 0, slots := 0, locals := 0 }) (va_Pc [.ref h0, .int p0] (fun U => va_P (dC, dI) vwCl [(h0, .inr (8, [.int w0, .int w1, .ref m2, .int w3, .ref m4, .ref m5, .ref m6, .ref m7, .ref m8, .ref m9, .ref m10, .ref m11, .int w12, .int w13, .int 0, .ref m15, .ref m16, .ref m17, .ref m18, .ref m19, .int w20, .int w21, .int w22, .int w23, .ref m24, .ref m25, .int w26, .int w27, .int w28, .ref m29, .ref m30, .ref m31, .ref m32, .ref m33, .ref m34, .int w35, .ref m36, .int w37]))] U.heap ∧ va_K (dC, dI) vwCl [] U)) (vp_Si (fun r => r = 0)) 0 0 (fun _ => False) := by
  refine Met.ofW (cc := cX8_isTongue) (maxL := 2) (ret := (some .boolean)) (by decide) rfl ?_
  intro p e s m args below meth c s₁ B hml hv
  obtain ⟨rfl, hP, hK⟩ := hv
  have hx := B.exec
  have hb := B.bytes
  have hr := B.returns
  have hts := atoms_spec (ws := wsX8_isTongue) B.pre
  have hown : s.vm.findClass RX8 = some m.cls := findClass_of_methodNamed B.named
  have hlocks := B.notSynchronized
  replace hP : va_P (dC, dI) vwCl [(h0, .inr (8, [.int w0, .int w1, .ref m2, .int w3, .ref m4, .ref m5, .ref m6, .ref m7, .ref m8, .ref m9, .ref m10, .ref m11, .int w12, .int w13, .int 0, .ref m15, .ref m16, .ref m17, .ref m18, .ref m19, .int w20, .int w21, .int w22, .int w23, .ref m24, .ref m25, .int w26, .int w27, .int w28, .ref m29, .ref m30, .ref m31, .ref m32, .ref m33, .ref m34, .int w35, .ref m36, .int w37]))] s.heap := hP
  have hl := lv_entry ([.ref h0, .int p0]) (n := 2) (Nat.le_of_ble_eq_true rfl)
  rw [lg_entry_eq]
  generalize (lg_sl ([.ref h0, .int p0]) ++ List.replicate (2 - (lg_sl ([.ref h0, .int p0])).length) Slot.unset).toArray = ls at hl ⊢
  replace hl : lv_has ls 2 [(0, .ref h0), (1, .int p0)] := hl
  have hi_X8 : ∀ w ∈ wsX80, w ∈ wsX8_isTongue := by decide +kernel
  have k_f133 := hts (.fieldLink RX8 133 "TongueTellerModel" "tongues" "I") (by decide +kernel)
  refine lv_iload_n hx hb dX8_isTongue_0 rfl (lv_at hl 1 rfl) ?_
  refine lv_if_lt (tgt := 16) hx hb dX8_isTongue_1 (by decide) (fun c_1 => ?_) (fun c_1 => ?_)
  · refine lv_iconst (v := 0) hx hb dX8_isTongue_16 (by decide) ?_
    exact W.zret (v := 0) hx hb hr (rfl) (fun t ht hW => ⟨0, rfl, rfl, ht⟩) (fun _ h => absurd h List.not_mem_nil) dX8_isTongue_17
  · refine lv_iload_n hx hb dX8_isTongue_4 rfl (lv_at hl 1 rfl) ?_
    refine lv_aload_n hx hb dX8_isTongue_5 rfl (lv_at hl 0 rfl) ?_
    refine va_get (D := (dC, dI)) (ci := 8) (v := .int 0) (C := RX8) (T := TX8) (N := 38) hx hb hts hi_X8 hown hK hP 0 rfl rfl 14 (by decide) k_f133 (fun _ h9 => h9) rfl dX8_isTongue_6 ?_
    refine lv_icmp_ge (tgt := 16) hx hb dX8_isTongue_9 (by decide) (fun c_9 => ?_) (fun c_9 => ?_)
    rotate_left
    · exact absurd (Int32.not_lt.mp c_1) c_9
    refine lv_iconst (v := 0) hx hb dX8_isTongue_16 (by decide) ?_
    exact W.zret (v := 0) hx hb hr (rfl) (fun t ht hW => ⟨0, rfl, rfl, ht⟩) (fun _ h => absurd h List.not_mem_nil) dX8_isTongue_17

set_option maxHeartbeats 4000000 in
set_option maxRecDepth 100000 in
theorem c_X8_isAsked (l : Launch) (dC : Nat → ClassId) (dI : Nat → Nat → Nat) (h0 : Nat) (w0 : Int32) (w1 : Int32) (m2 : Nat) (w3 : Int32) (m4 : Nat) (m5 : Nat) (m6 : Nat) (m7 : Nat) (m8 : Nat) (m9 : Nat) (m10 : Nat) (m11 : Nat) (w12 : Int32) (w13 : Int32) (w14 : Int32) (m15 : Nat) (m16 : Nat) (m17 : Nat) (m18 : Nat) (m19 : Nat) (w20 : Int32) (w21 : Int32) (w22 : Int32) (w23 : Int32) (m24 : Nat) (m25 : Nat) (w26 : Int32) (w27 : Int32) (m29 : Nat) (m30 : Nat) (m31 : Nat) (m32 : Nat) (m33 : Nat) (m34 : Nat) (w35 : Int32) (m36 : Nat) (w37 : Int32) : Met l yX8_isAsked wsX8_isAsked ({ frames := 0, cells := 0, slots := 0, locals := 0 }) (va_Pc [.ref h0] (fun U => va_P (dC, dI) vwCl [(h0, .inr (8, [.int w0, .int w1, .ref m2, .int w3, .ref m4, .ref m5, .ref m6, .ref m7, .ref m8, .ref m9, .ref m10, .ref m11, .int w12, .int w13, .int w14, .ref m15, .ref m16, .ref m17, .ref m18, .ref m19, .int w20, .int w21, .int w22, .int w23, .ref m24, .ref m25, .int w26, .int w27, .int 0, .ref m29, .ref m30, .ref m31, .ref m32, .ref m33, .ref m34, .int w35, .ref m36, .int w37]))] U.heap ∧ va_K (dC, dI) vwCl [] U)) (vp_Si (fun r => r = 0)) 0 0 (fun _ => False) := by
  refine Met.ofW (cc := cX8_isAsked) (maxL := 1) (ret := (some .boolean)) (by decide) rfl ?_
  intro p e s m args below meth c s₁ B hml hv
  obtain ⟨rfl, hP, hK⟩ := hv
  have hx := B.exec
  have hb := B.bytes
  have hr := B.returns
  have hts := atoms_spec (ws := wsX8_isAsked) B.pre
  have hown : s.vm.findClass RX8 = some m.cls := findClass_of_methodNamed B.named
  have hlocks := B.notSynchronized
  replace hP : va_P (dC, dI) vwCl [(h0, .inr (8, [.int w0, .int w1, .ref m2, .int w3, .ref m4, .ref m5, .ref m6, .ref m7, .ref m8, .ref m9, .ref m10, .ref m11, .int w12, .int w13, .int w14, .ref m15, .ref m16, .ref m17, .ref m18, .ref m19, .int w20, .int w21, .int w22, .int w23, .ref m24, .ref m25, .int w26, .int w27, .int 0, .ref m29, .ref m30, .ref m31, .ref m32, .ref m33, .ref m34, .int w35, .ref m36, .int w37]))] s.heap := hP
  have hl := lv_entry ([.ref h0]) (n := 1) (Nat.le_of_ble_eq_true rfl)
  rw [lg_entry_eq]
  generalize (lg_sl ([.ref h0]) ++ List.replicate (1 - (lg_sl ([.ref h0])).length) Slot.unset).toArray = ls at hl ⊢
  replace hl : lv_has ls 1 [(0, .ref h0)] := hl
  have hi_X8 : ∀ w ∈ wsX80, w ∈ wsX8_isAsked := by decide +kernel
  have k_f178 := hts (.fieldLink RX8 178 "TongueTellerModel" "isText" "Z") (by decide +kernel)
  refine lv_aload_n hx hb dX8_isAsked_0 rfl (lv_at hl 0 rfl) ?_
  refine va_get (D := (dC, dI)) (ci := 8) (v := .int 0) (C := RX8) (T := TX8) (N := 38) hx hb hts hi_X8 hown hK hP 0 rfl rfl 28 (by decide) k_f178 (fun _ h9 => h9) rfl dX8_isAsked_1 ?_
  refine lv_if_eq (tgt := 18) hx hb dX8_isAsked_4 (by decide) (fun c_4 => ?_) (fun c_4 => ?_)
  rotate_left
  · exact absurd (by decide) c_4
  refine lv_iconst (v := 0) hx hb dX8_isAsked_18 (by decide) ?_
  exact W.zret (v := 0) hx hb hr (rfl) (fun t ht hW => ⟨0, rfl, rfl, ht⟩) (fun _ h => absurd h List.not_mem_nil) dX8_isAsked_19

set_option maxHeartbeats 4000000 in
set_option maxRecDepth 100000 in
theorem c_X8_thrown (l : Launch) (dC : Nat → ClassId) (dI : Nat → Nat → Nat) (h0 : Nat) (w0 : Int32) (w1 : Int32) (m2 : Nat) (w3 : Int32) (m4 : Nat) (m5 : Nat) (m6 : Nat) (m7 : Nat) (m8 : Nat) (m9 : Nat) (m10 : Nat) (m11 : Nat) (w12 : Int32) (w13 : Int32) (w14 : Int32) (m15 : Nat) (m16 : Nat) (m17 : Nat) (m18 : Nat) (m19 : Nat) (w20 : Int32) (w21 : Int32) (w22 : Int32) (w23 : Int32) (m24 : Nat) (m25 : Nat) (w26 : Int32) (w27 : Int32) (w28 : Int32) (m29 : Nat) (m30 : Nat) (m31 : Nat) (m32 : Nat) (m33 : Nat) (m34 : Nat) (w35 : Int32) (m36 : Nat) (w37 : Int32) : Met l yX8_thrown wsX8_thrown ({ frames := 0, cells := 0, slots := 0, locals := 0 }) (va_Pc [.ref h0] (fun U => va_P (dC, dI) vwCl [(h0, .inr (8, [.int w0, .int w1, .ref m2, .int w3, .ref m4, .ref m5, .ref m6, .ref m7, .ref m8, .ref m9, .ref m10, .ref m11, .int w12, .int w13, .int w14, .ref m15, .ref m16, .ref m17, .ref m18, .ref m19, .int w20, .int w21, .int w22, .int w23, .ref m24, .ref m25, .int w26, .int w27, .int w28, .ref m29, .ref m30, .ref m31, .ref m32, .ref m33, .ref m34, .int w35, .ref m36, .int w37]))] U.heap ∧ va_K (dC, dI) vwCl [] U)) (vp_Si (fun r => r = w0)) 0 0 (fun _ => False) := by
  refine Met.ofW (cc := cX8_thrown) (maxL := 1) (ret := (some .int)) (by decide) rfl ?_
  intro p e s m args below meth c s₁ B hml hv
  obtain ⟨rfl, hP, hK⟩ := hv
  have hx := B.exec
  have hb := B.bytes
  have hr := B.returns
  have hts := atoms_spec (ws := wsX8_thrown) B.pre
  have hown : s.vm.findClass RX8 = some m.cls := findClass_of_methodNamed B.named
  have hlocks := B.notSynchronized
  replace hP : va_P (dC, dI) vwCl [(h0, .inr (8, [.int w0, .int w1, .ref m2, .int w3, .ref m4, .ref m5, .ref m6, .ref m7, .ref m8, .ref m9, .ref m10, .ref m11, .int w12, .int w13, .int w14, .ref m15, .ref m16, .ref m17, .ref m18, .ref m19, .int w20, .int w21, .int w22, .int w23, .ref m24, .ref m25, .int w26, .int w27, .int w28, .ref m29, .ref m30, .ref m31, .ref m32, .ref m33, .ref m34, .int w35, .ref m36, .int w37]))] s.heap := hP
  have hl := lv_entry ([.ref h0]) (n := 1) (Nat.le_of_ble_eq_true rfl)
  rw [lg_entry_eq]
  generalize (lg_sl ([.ref h0]) ++ List.replicate (1 - (lg_sl ([.ref h0])).length) Slot.unset).toArray = ls at hl ⊢
  replace hl : lv_has ls 1 [(0, .ref h0)] := hl
  have hi_X8 : ∀ w ∈ wsX80, w ∈ wsX8_thrown := by decide +kernel
  have k_f97 := hts (.fieldLink RX8 97 "TongueTellerModel" "thrown" "I") (by decide +kernel)
  refine lv_aload_n hx hb dX8_thrown_0 rfl (lv_at hl 0 rfl) ?_
  refine va_get (D := (dC, dI)) (ci := 8) (v := .int w0) (C := RX8) (T := TX8) (N := 38) hx hb hts hi_X8 hown hK hP 0 rfl rfl 0 (by decide) k_f97 (fun _ h9 => h9) rfl dX8_thrown_1 ?_
  exact W.iret (v := w0) hx hb hr (fun t ht hW => ⟨w0, rfl, rfl, ht⟩) (fun _ h => absurd h List.not_mem_nil) dX8_thrown_4

set_option maxHeartbeats 4000000 in
set_option maxRecDepth 100000 in
theorem c_X8_cut_0 (l : Launch) (dC : Nat → ClassId) (dI : Nat → Nat → Nat) (h0 : Nat) (w0 : Int32) (w1 : Int32) (m2 : Nat) (w3 : Int32) (m4 : Nat) (m5 : Nat) (m6 : Nat) (m7 : Nat) (m8 : Nat) (m9 : Nat) (m10 : Nat) (m11 : Nat) (w12 : Int32) (w13 : Int32) (w14 : Int32) (m15 : Nat) (m16 : Nat) (m17 : Nat) (m18 : Nat) (m19 : Nat) (w20 : Int32) (w21 : Int32) (w22 : Int32) (w23 : Int32) (m24 : Nat) (m25 : Nat) (w26 : Int32) (w27 : Int32) (w28 : Int32) (m29 : Nat) (m30 : Nat) (m31 : Nat) (m32 : Nat) (m33 : Nat) (m34 : Nat) (w35 : Int32) (m36 : Nat) (w37 : Int32) (fr : Nat) : Met l yX8_cut wsX8_cut ({ frames := 0, cells := 0, slots := 0, locals := 0 }) (va_Pc [.ref h0, .ref fr, .int 0] (fun U => va_P (dC, dI) vwCl [(h0, .inr (8, [.int w0, .int w1, .ref m2, .int w3, .ref m4, .ref m5, .ref m6, .ref m7, .ref m8, .ref m9, .ref m10, .ref m11, .int w12, .int w13, .int w14, .ref m15, .ref m16, .ref m17, .ref m18, .ref m19, .int w20, .int w21, .int w22, .int w23, .ref m24, .ref m25, .int w26, .int w27, .int w28, .ref m29, .ref m30, .ref m31, .ref m32, .ref m33, .ref m34, .int w35, .ref m36, .int w37]))] U.heap ∧ va_K (dC, dI) vwCl [] U)) (vp_Si (fun r => r = 0)) 0 0 (fun _ => False) := by
  refine Met.ofW (cc := cX8_cut) (maxL := 8) (ret := (some .int)) (by decide) rfl ?_
  intro p e s m args below meth c s₁ B hml hv
  obtain ⟨rfl, hP, hK⟩ := hv
  have hx := B.exec
  have hb := B.bytes
  have hr := B.returns
  have hts := atoms_spec (ws := wsX8_cut) B.pre
  have hown : s.vm.findClass RX8 = some m.cls := findClass_of_methodNamed B.named
  have hlocks := B.notSynchronized
  replace hP : va_P (dC, dI) vwCl [(h0, .inr (8, [.int w0, .int w1, .ref m2, .int w3, .ref m4, .ref m5, .ref m6, .ref m7, .ref m8, .ref m9, .ref m10, .ref m11, .int w12, .int w13, .int w14, .ref m15, .ref m16, .ref m17, .ref m18, .ref m19, .int w20, .int w21, .int w22, .int w23, .ref m24, .ref m25, .int w26, .int w27, .int w28, .ref m29, .ref m30, .ref m31, .ref m32, .ref m33, .ref m34, .int w35, .ref m36, .int w37]))] s.heap := hP
  have hl := lv_entry ([.ref h0, .ref fr, .int 0]) (n := 8) (Nat.le_of_ble_eq_true rfl)
  rw [lg_entry_eq]
  generalize (lg_sl ([.ref h0, .ref fr, .int 0]) ++ List.replicate (8 - (lg_sl ([.ref h0, .ref fr, .int 0])).length) Slot.unset).toArray = ls at hl ⊢
  replace hl : lv_has ls 8 [(0, .ref h0), (1, .ref fr), (2, .int 0)] := hl
  refine lv_iconst (v := 0) hx hb dX8_cut_0 (by decide) ?_
  refine lv_istore_n (lv' := [(3, .int 0), (0, .ref h0), (1, .ref fr), (2, .int 0)]) hx hb dX8_cut_1 rfl hl (by decide) rfl (fun ls hl => ?_)
  refine lv_iconst (v := 0) hx hb dX8_cut_2 (by decide) ?_
  refine lv_istore (lv' := [(4, .int 0), (3, .int 0), (0, .ref h0), (1, .ref fr), (2, .int 0)]) hx hb dX8_cut_3 hl (by decide) rfl (fun ls hl => ?_)
  refine lv_iload hx hb dX8_cut_5 (lv_at hl 0 rfl) ?_
  refine lv_iload_n hx hb dX8_cut_7 rfl (lv_at hl 4 rfl) ?_
  refine lv_icmp_ge (tgt := 140) hx hb dX8_cut_8 (by decide) (fun c_8 => ?_) (fun c_8 => ?_)
  rotate_left
  · exact absurd (by decide) c_8
  refine lv_iload_n hx hb dX8_cut_140 rfl (lv_at hl 1 rfl) ?_
  exact W.iret (v := 0) hx hb hr (fun t ht hW => ⟨0, rfl, rfl, ht⟩) (fun _ h => absurd h List.not_mem_nil) dX8_cut_141

set_option maxHeartbeats 4000000 in
set_option maxRecDepth 100000 in
theorem c_X8_isOne_0 (l : Launch) (dC : Nat → ClassId) (dI : Nat → Nat → Nat) (h0 : Nat) (w0 : Int32) (w1 : Int32) (m2 : Nat) (w3 : Int32) (m4 : Nat) (m5 : Nat) (m6 : Nat) (m7 : Nat) (m8 : Nat) (m9 : Nat) (m10 : Nat) (m11 : Nat) (w12 : Int32) (w13 : Int32) (w14 : Int32) (m15 : Nat) (m16 : Nat) (m17 : Nat) (m18 : Nat) (m19 : Nat) (w20 : Int32) (w21 : Int32) (w22 : Int32) (w23 : Int32) (m24 : Nat) (m25 : Nat) (w26 : Int32) (w27 : Int32) (w28 : Int32) (m29 : Nat) (m30 : Nat) (m31 : Nat) (m32 : Nat) (m33 : Nat) (m34 : Nat) (w35 : Int32) (m36 : Nat) (w37 : Int32) : Met l yX8_isOne wsX8_isOne ({ frames := 1, cells := 0, slots := 0, locals := 27 }) (va_Pc [.ref h0, .int 0] (fun U => va_P (dC, dI) vwCl [(h0, .inr (8, [.int w0, .int w1, .ref m2, .int w3, .ref m4, .ref m5, .ref m6, .ref m7, .ref m8, .ref m9, .ref m10, .ref m11, .int w12, .int w13, .int w14, .ref m15, .ref m16, .ref m17, .ref m18, .ref m19, .int w20, .int w21, .int w22, .int w23, .ref m24, .ref m25, .int w26, .int w27, .int w28, .ref m29, .ref m30, .ref m31, .ref m32, .ref m33, .ref m34, .int w35, .ref m36, .int w37]))] U.heap ∧ va_K (dC, dI) vwCl [] U)) (vp_Si (fun r => r = 0)) 0 0 (fun _ => False) := by
  refine Met.ofW (cc := cX8_isOne) (maxL := 2) (ret := (some .boolean)) (by decide) rfl ?_
  intro p e s m args below meth c s₁ B hml hv
  obtain ⟨rfl, hP, hK⟩ := hv
  have hx := B.exec
  have hb := B.bytes
  have hr := B.returns
  have hts := atoms_spec (ws := wsX8_isOne) B.pre
  have hown : s.vm.findClass RX8 = some m.cls := findClass_of_methodNamed B.named
  have hlocks := B.notSynchronized
  replace hP : va_P (dC, dI) vwCl [(h0, .inr (8, [.int w0, .int w1, .ref m2, .int w3, .ref m4, .ref m5, .ref m6, .ref m7, .ref m8, .ref m9, .ref m10, .ref m11, .int w12, .int w13, .int w14, .ref m15, .ref m16, .ref m17, .ref m18, .ref m19, .int w20, .int w21, .int w22, .int w23, .ref m24, .ref m25, .int w26, .int w27, .int w28, .ref m29, .ref m30, .ref m31, .ref m32, .ref m33, .ref m34, .int w35, .ref m36, .int w37]))] s.heap := hP
  have hl := lv_entry ([.ref h0, .int 0]) (n := 2) (Nat.le_of_ble_eq_true rfl)
  rw [lg_entry_eq]
  generalize (lg_sl ([.ref h0, .int 0]) ++ List.replicate (2 - (lg_sl ([.ref h0, .int 0])).length) Slot.unset).toArray = ls at hl ⊢
  replace hl : lv_has ls 2 [(0, .ref h0), (1, .int 0)] := hl
  have hi_X8 : ∀ w ∈ wsX80, w ∈ wsX8_isOne := by decide +kernel
  have k_f11 := hts (.fieldLink RX8 11 "TongueTellerModel" "tape" "[B") (by decide +kernel)
  refine lv_aload_n hx hb dX8_isOne_0 rfl (lv_at hl 0 rfl) ?_
  refine lv_aload_n hx hb dX8_isOne_1 rfl (lv_at hl 0 rfl) ?_
  refine va_get (D := (dC, dI)) (ci := 8) (v := .ref m2) (C := RX8) (T := TX8) (N := 38) hx hb hts hi_X8 hown hK hP 0 rfl rfl 2 (by decide) k_f11 (fun _ h9 => h9) rfl dX8_isOne_2 ?_
  refine lv_iload_n hx hb dX8_isOne_5 rfl (lv_at hl 1 rfl) ?_
  have hPc := hP.sub (ws' := [(h0, .inr (8, [.int w0, .int w1, .ref m2, .int w3, .ref m4, .ref m5, .ref m6, .ref m7, .ref m8, .ref m9, .ref m10, .ref m11, .int w12, .int w13, .int w14, .ref m15, .ref m16, .ref m17, .ref m18, .ref m19, .int w20, .int w21, .int w22, .int w23, .ref m24, .ref m25, .int w26, .int w27, .int w28, .ref m29, .ref m30, .ref m31, .ref m32, .ref m33, .ref m34, .int w35, .ref m36, .int w37]))]) [0] rfl
  have hKc := hK.sub (tys' := []) [] rfl
  refine vp_callSi (W.runV (As := [.ref m2, .int 0]) (rest := []) ⟨hx, hb, hml, hown, hts⟩ (c_X8_cut_0 l dC dI h0 w0 w1 m2 w3 m4 m5 m6 m7 m8 m9 m10 m11 w12 w13 w14 m15 m16 m17 m18 m19 w20 w21 w22 w23 m24 m25 w26 w27 w28 m29 m30 m31 m32 m33 m34 w35 m36 w37 m2) (cwV 2 hts gX8_isOne_X8_cut rfl rfl rfl (by decide +kernel) ⟨Nat.le_of_ble_eq_true rfl, Nat.le_of_ble_eq_true rfl⟩) ⟨fun a U g mk q => by obtain ⟨q0, qP, qK⟩ := q; exact ⟨q0, qP, va_K.moved (u := U) (U := U.calling g mk a) (Vm.Alike.refl U.vm) qK⟩, va_recv hK hP (ci := 8) (q0 := 0) rfl rfl, fun U hU hW => ⟨rfl, by rw [hU]; exact hPc, va_K.moved hW.alike hKc⟩⟩ rfl rfl hl.1 rfl (lv_room (Nat.le_of_ble_eq_true rfl)) dX8_isOne_6 ⟨Nat.le_of_ble_eq_true rfl, Nat.le_of_ble_eq_true rfl⟩) (fun r_6 hw_6 => ?_)
  obtain rfl : 0 = r_6 := Eq.symm hw_6
  refine lv_iconst (v := 1) hx hb dX8_isOne_9 (by decide) ?_
  refine lv_icmp_ne (tgt := 26) hx hb dX8_isOne_10 (by decide) (fun c_10 => ?_) (fun c_10 => ?_)
  rotate_left
  · exact absurd c_10 (by decide)
  refine lv_iconst (v := 0) hx hb dX8_isOne_26 (by decide) ?_
  exact W.zret (v := 0) hx hb hr (rfl) (fun t ht hW => ⟨0, rfl, rfl, ht⟩) (fun _ h => absurd h List.not_mem_nil) dX8_isOne_27
