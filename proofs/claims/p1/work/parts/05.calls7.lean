set_option maxHeartbeats 4000000 in
set_option maxRecDepth 100000 in
theorem c_X7_tongue (l : Launch) (dC : Nat → ClassId) (dI : Nat → Nat → Nat) (h0 : Nat) (a0 : Nat) (v1 : Int32) (a2 : Nat) (a3 : Nat) (v4 : Int32) (v5 : Int32) (a6 : Nat) (a7 : Nat) (a8 : Nat) (v9 : Int32) (v10 : Int32) (a11 : Nat) (a12 : Nat) (v13 : Int32) (a14 : Nat) (a15 : Nat) (a16 : Nat) (v17 : Int32) (b0 : Nat) (sz : Nat) : Met l yX7_tongue wsX7_tongue ({ frames := 1, cells := 0, slots := 0, locals := 21 }) (va_Pc [.ref h0] (fun U => U.heap.size = sz ∧ va_P (dC, dI) vwCl [(h0, .inr (7, [.ref a0, .int v1, .ref a2, .ref a3, .int v4, .int v5, .ref a6, .ref a7, .ref a8, .int v9, .int v10, .ref a11, .ref a12, .int v13, .ref a14, .ref a15, .ref a16, .int v17])), (a2, .inr (4, [.ref b0, .int 0]))] U.heap ∧ va_K (dC, dI) vwCl [] U ∧ va_D (fun _ => True) [(h0, .inr (7, [.ref a0, .int v1, .ref a2, .ref a3, .int v4, .int v5, .ref a6, .ref a7, .ref a8, .int v9, .int v10, .ref a11, .ref a12, .int v13, .ref a14, .ref a15, .ref a16, .int v17])), (a2, .inr (4, [.ref b0, .int 0]))])) (va_Qi (fun (r : Int32) (_ : Unit) => r = 0) (fun (_ : Unit) (t : State) => va_P (dC, dI) vwCl [(h0, .inr (7, [.ref a0, .int v1, .ref a2, .ref a3, .int v4, .int v5, .ref a6, .ref a7, .ref a8, .int v9, .int v10, .ref a11, .ref a12, .int v13, .ref a14, .ref a15, .ref a16, .int 0])), (a2, .inr (4, [.ref b0, .int 1]))] t.heap ∧ va_D (va_A [(h0, .inr (7, [.ref a0, .int v1, .ref a2, .ref a3, .int v4, .int v5, .ref a6, .ref a7, .ref a8, .int v9, .int v10, .ref a11, .ref a12, .int v13, .ref a14, .ref a15, .ref a16, .int v17])), (a2, .inr (4, [.ref b0, .int 0]))] sz) [(h0, .inr (7, [.ref a0, .int v1, .ref a2, .ref a3, .int v4, .int v5, .ref a6, .ref a7, .ref a8, .int v9, .int v10, .ref a11, .ref a12, .int v13, .ref a14, .ref a15, .ref a16, .int 0])), (a2, .inr (4, [.ref b0, .int 1]))]) (va_A [(h0, .inr (7, [.ref a0, .int v1, .ref a2, .ref a3, .int v4, .int v5, .ref a6, .ref a7, .ref a8, .int v9, .int v10, .ref a11, .ref a12, .int v13, .ref a14, .ref a15, .ref a16, .int v17])), (a2, .inr (4, [.ref b0, .int 0]))] sz)) 0 0 (va_A [(h0, .inr (7, [.ref a0, .int v1, .ref a2, .ref a3, .int v4, .int v5, .ref a6, .ref a7, .ref a8, .int v9, .int v10, .ref a11, .ref a12, .int v13, .ref a14, .ref a15, .ref a16, .int v17])), (a2, .inr (4, [.ref b0, .int 0]))] sz) := by
  refine Met.ofW (cc := cX7_tongue) (maxL := 1) (ret := (some .int)) (by decide) rfl ?_
  intro p e s m args below meth c s₁ B hml hv
  obtain ⟨rfl, hsz, hP, hK, hD0⟩ := hv
  have hx := B.exec
  have hb := B.bytes
  have hr := B.returns
  have hts := atoms_spec (ws := wsX7_tongue) B.pre
  have hown : s.vm.findClass RX7 = some m.cls := findClass_of_methodNamed B.named
  have hlocks := B.notSynchronized
  subst hsz
  have hD := hD0.self (sz := s.heap.size)
  generalize hAe : va_A [(h0, .inr (7, [.ref a0, .int v1, .ref a2, .ref a3, .int v4, .int v5, .ref a6, .ref a7, .ref a8, .int v9, .int v10, .ref a11, .ref a12, .int v13, .ref a14, .ref a15, .ref a16, .int v17])), (a2, .inr (4, [.ref b0, .int 0]))] s.heap.size = A at hD ⊢
  have hA : ∀ q : Nat, s.heap.size ≤ q → A q := fun q h => by rw [← hAe]; exact Or.inr h
  have hS : va_S A s.heap s.heap [] := va_S.rf
  replace hP : va_P (dC, dI) vwCl [(h0, .inr (7, [.ref a0, .int v1, .ref a2, .ref a3, .int v4, .int v5, .ref a6, .ref a7, .ref a8, .int v9, .int v10, .ref a11, .ref a12, .int v13, .ref a14, .ref a15, .ref a16, .int v17])), (a2, .inr (4, [.ref b0, .int 0]))] s.heap := hP
  have hl := lv_entry ([.ref h0]) (n := 1) (Nat.le_of_ble_eq_true rfl)
  rw [lg_entry_eq]
  generalize (lg_sl ([.ref h0]) ++ List.replicate (1 - (lg_sl ([.ref h0])).length) Slot.unset).toArray = ls at hl ⊢
  replace hl : lv_has ls 1 [(0, .ref h0)] := hl
  have hi_X7 : ∀ w ∈ wsX70, w ∈ wsX7_tongue := by decide +kernel
  have k_f20 := hts (.fieldLink RX7 20 "TongueTeller" "tongues" "LTongueTeller$Tongues;") (by decide +kernel)
  have hi_X4 : ∀ w ∈ wsX40, w ∈ wsX7_tongue := by decide +kernel
  have k_f99 := hts (.fieldLink RX7 99 "TongueTeller$Tongues" "size" "I") (by decide +kernel)
  refine lv_aload_n hx hb dX7_tongue_0 rfl (lv_at hl 0 rfl) ?_
  refine va_get (D := (dC, dI)) (ci := 7) (v := .ref a2) (C := RX7) (T := TX7) (N := 18) hx hb hts hi_X7 hown hK hP 0 rfl rfl 2 (by decide) k_f20 (fun _ h9 => h9) rfl dX7_tongue_1 ?_
  refine va_get (D := (dC, dI)) (ci := 4) (v := .int 0) (C := RX4) (T := TX4) (N := 2) hx hb hts hi_X4 hown hK hP 1 rfl rfl 1 (by decide) k_f99 (fun _ h9 => h9) rfl dX7_tongue_4 ?_
  refine lv_bipush (v := 8) hx hb dX7_tongue_7 (by decide) ?_
  refine lv_icmp_lt (tgt := 18) hx hb dX7_tongue_9 (by decide) (fun c_9 => ?_) (fun c_9 => ?_)
  rotate_left
  · exact absurd (by decide) c_9
  refine lv_aload_n hx hb dX7_tongue_18 rfl (lv_at hl 0 rfl) ?_
  refine va_get (D := (dC, dI)) (ci := 7) (v := .ref a2) (C := RX7) (T := TX7) (N := 18) hx hb hts hi_X7 hown hK hP 0 rfl rfl 2 (by decide) k_f20 (fun _ h9 => h9) rfl dX7_tongue_19 ?_
  refine lv_dup hx hb dX7_tongue_22 rfl ?_
  refine va_get (D := (dC, dI)) (ci := 4) (v := .int 0) (C := RX4) (T := TX4) (N := 2) hx hb hts hi_X4 hown hK hP 1 rfl rfl 1 (by decide) k_f99 (fun _ h9 => h9) rfl dX7_tongue_23 ?_
  refine lv_iconst (v := 1) hx hb dX7_tongue_26 (by decide) ?_
  refine lv_iadd hx hb dX7_tongue_27 ?_
  refine lv_topi (fun x_27 ex_27 => ?_)
  obtain rfl : x_27 = 1 := ex_27.trans (by decide)
  refine va_put (D := (dC, dI)) (ci := 4) (v := .int 1) (ty := .int) (C := RX4) (T := TX4) (N := 2) hx hb hts hi_X4 tyX4 tyX4_ok nmX4 hown hK hP hD hS 1 rfl rfl 1 (by decide) k_f99 (fun _ h9 => h9) rfl (by decide +kernel) rfl rfl (Nat.le_of_ble_eq_true rfl) dX7_tongue_28 (fun H locs hP hD hS => ?_)
  replace hP : va_P (dC, dI) vwCl [(h0, .inr (7, [.ref a0, .int v1, .ref a2, .ref a3, .int v4, .int v5, .ref a6, .ref a7, .ref a8, .int v9, .int v10, .ref a11, .ref a12, .int v13, .ref a14, .ref a15, .ref a16, .int v17])), (a2, .inr (4, [.ref b0, .int 1]))] H := hP
  replace hD : va_D A [(h0, .inr (7, [.ref a0, .int v1, .ref a2, .ref a3, .int v4, .int v5, .ref a6, .ref a7, .ref a8, .int v9, .int v10, .ref a11, .ref a12, .int v13, .ref a14, .ref a15, .ref a16, .int v17])), (a2, .inr (4, [.ref b0, .int 1]))] := hD
  refine lv_aload_n hx hb dX7_tongue_31 rfl (lv_at hl 0 rfl) ?_
  refine lv_aload_n hx hb dX7_tongue_32 rfl (lv_at hl 0 rfl) ?_
  refine va_get (D := (dC, dI)) (ci := 7) (v := .ref a2) (C := RX7) (T := TX7) (N := 18) hx hb hts hi_X7 hown hK hP 0 rfl rfl 2 (by decide) k_f20 (fun _ h9 => h9) rfl dX7_tongue_33 ?_
  refine va_get (D := (dC, dI)) (ci := 4) (v := .int 1) (C := RX4) (T := TX4) (N := 2) hx hb hts hi_X4 hown hK hP 1 rfl rfl 1 (by decide) k_f99 (fun _ h9 => h9) rfl dX7_tongue_36 ?_
  refine lv_iconst (v := 1) hx hb dX7_tongue_39 (by decide) ?_
  refine lv_isub hx hb dX7_tongue_40 ?_
  refine lv_topi (fun x_40 ex_40 => ?_)
  obtain rfl : x_40 = 0 := ex_40.trans (by decide)
  have hPc := hP.sub (ws' := [(h0, .inr (7, [.ref a0, .int v1, .ref a2, .ref a3, .int v4, .int v5, .ref a6, .ref a7, .ref a8, .int v9, .int v10, .ref a11, .ref a12, .int v13, .ref a14, .ref a15, .ref a16, .int v17]))]) [0] rfl
  have hDc := hD.sub (ws' := [(h0, .inr (7, [.ref a0, .int v1, .ref a2, .ref a3, .int v4, .int v5, .ref a6, .ref a7, .ref a8, .int v9, .int v10, .ref a11, .ref a12, .int v13, .ref a14, .ref a15, .ref a16, .int v17]))]) [0] (by decide) rfl
  have hKc := hK.sub (tys' := []) [] rfl
  have hFc := va_free (wc := [(h0, .inr (7, [.ref a0, .int v1, .ref a2, .ref a3, .int v4, .int v5, .ref a6, .ref a7, .ref a8, .int v9, .int v10, .ref a11, .ref a12, .int v13, .ref a14, .ref a15, .ref a16, .int v17]))]) hD hS hA [0] rfl
  refine va_calli (va_runV (As := [.int 0]) (rest := []) ⟨hx, hb, hml, hown, hts⟩ (c_X7_grant l dC dI h0 a0 v1 a2 a3 v4 v5 a6 a7 a8 v9 v10 a11 a12 v13 a14 a15 a16 v17 0 H.size) (cwV 1 hts gX7_tongue_X7_grant rfl rfl rfl (by decide +kernel) ⟨Nat.le_of_ble_eq_true rfl, Nat.le_of_ble_eq_true rfl⟩) ⟨fun a U g mk q => by obtain ⟨q0, q1, qP, qK, qD⟩ := q; exact ⟨q0, q1, qP, va_K.moved (u := U) (U := U.calling g mk a) (Vm.Alike.refl U.vm) qK, qD⟩, va_recv hK hP (ci := 7) (q0 := 0) rfl rfl, fun U hU hW => ⟨rfl, by rw [hU], by rw [hU]; exact hPc, va_K.moved hW.alike hKc, hDc.weaken (fun _ _ _ _ => trivial)⟩⟩ rfl rfl hl.1 rfl (lv_room (Nat.le_of_ble_eq_true rfl)) dX7_tongue_41 ⟨Nat.le_of_ble_eq_true rfl, Nat.le_of_ble_eq_true rfl⟩) hS (fun q _ h => hFc q h) hFc (fun r_41 u t H1 locs ht hvm hw_41 hB hz1 hk1 hS => ?_)
  obtain ⟨hP1, hD1⟩ := hB
  rw [ht] at hP1
  obtain ⟨hP, hD⟩ := va_join (wr := [(a2, .inr (4, [.ref b0, .int 1]))]) (w1 := [(h0, .inr (7, [.ref a0, .int v1, .ref a2, .ref a3, .int v4, .int v5, .ref a6, .ref a7, .ref a8, .int v9, .int v10, .ref a11, .ref a12, .int v13, .ref a14, .ref a15, .ref a16, .int 0]))]) hP hD [0] [1] rfl rfl (by decide) (by decide) hk1 hFc hP1 hD1
  generalize H1 = H at hP hS ⊢
  replace hP : va_P (dC, dI) vwCl [(a2, .inr (4, [.ref b0, .int 1])), (h0, .inr (7, [.ref a0, .int v1, .ref a2, .ref a3, .int v4, .int v5, .ref a6, .ref a7, .ref a8, .int v9, .int v10, .ref a11, .ref a12, .int v13, .ref a14, .ref a15, .ref a16, .int 0]))] H := hP
  replace hD : va_D A [(a2, .inr (4, [.ref b0, .int 1])), (h0, .inr (7, [.ref a0, .int v1, .ref a2, .ref a3, .int v4, .int v5, .ref a6, .ref a7, .ref a8, .int v9, .int v10, .ref a11, .ref a12, .int v13, .ref a14, .ref a15, .ref a16, .int 0]))] := hD
  obtain rfl : 0 = r_41 := Eq.symm hw_41
  have hP9 := hP.sub (ws' := [(h0, .inr (7, [.ref a0, .int v1, .ref a2, .ref a3, .int v4, .int v5, .ref a6, .ref a7, .ref a8, .int v9, .int v10, .ref a11, .ref a12, .int v13, .ref a14, .ref a15, .ref a16, .int 0])), (a2, .inr (4, [.ref b0, .int 1]))]) [1, 0] rfl
  have hD9 := hD.sub (ws' := [(h0, .inr (7, [.ref a0, .int v1, .ref a2, .ref a3, .int v4, .int v5, .ref a6, .ref a7, .ref a8, .int v9, .int v10, .ref a11, .ref a12, .int v13, .ref a14, .ref a15, .ref a16, .int 0])), (a2, .inr (4, [.ref b0, .int 1]))]) [1, 0] (by decide) rfl
  exact W.iret (v := 0) hx hb hr (fun t ht hW => ⟨⟨0, (), rfl, rfl, by rw [ht]; exact hP9, hD9⟩, hS.F ht⟩) hS.2.2 dX7_tongue_44

set_option maxHeartbeats 4000000 in
set_option maxRecDepth 100000 in
theorem c_X7_learn (l : Launch) (dC : Nat → ClassId) (dI : Nat → Nat → Nat) (h0 : Nat) (a0 : Nat) (v1 : Int32) (a2 : Nat) (a3 : Nat) (v4 : Int32) (v5 : Int32) (a6 : Nat) (a7 : Nat) (a8 : Nat) (v9 : Int32) (v10 : Int32) (a11 : Nat) (a12 : Nat) (v13 : Int32) (a14 : Nat) (a15 : Nat) (a16 : Nat) (v17 : Int32) (b0 : Nat) (p0 : Int32) (p1 : Int32) (sz : Nat) : Met l yX7_learn wsX7_learn ({ frames := 1, cells := 0, slots := 0, locals := 21 }) (va_Pc [.ref h0, .int p0, .int p1] (fun U => U.heap.size = sz ∧ va_P (dC, dI) vwCl [(h0, .inr (7, [.ref a0, .int v1, .ref a2, .ref a3, .int v4, .int v5, .ref a6, .ref a7, .ref a8, .int v9, .int v10, .ref a11, .ref a12, .int v13, .ref a14, .ref a15, .ref a16, .int v17])), (a2, .inr (4, [.ref b0, .int 0]))] U.heap ∧ va_K (dC, dI) vwCl [] U ∧ va_D (fun _ => True) [(h0, .inr (7, [.ref a0, .int v1, .ref a2, .ref a3, .int v4, .int v5, .ref a6, .ref a7, .ref a8, .int v9, .int v10, .ref a11, .ref a12, .int v13, .ref a14, .ref a15, .ref a16, .int v17])), (a2, .inr (4, [.ref b0, .int 0]))])) (va_Qi (fun (r : Int32) (_ : Unit) => r = (-1)) (fun (_ : Unit) (t : State) => va_P (dC, dI) vwCl [(h0, .inr (7, [.ref a0, .int v1, .ref a2, .ref a3, .int v4, .int v5, .ref a6, .ref a7, .ref a8, .int v9, .int v10, .ref a11, .ref a12, .int v13, .ref a14, .ref a15, .ref a16, .int 1])), (a2, .inr (4, [.ref b0, .int 0]))] t.heap ∧ va_D (va_A [(h0, .inr (7, [.ref a0, .int v1, .ref a2, .ref a3, .int v4, .int v5, .ref a6, .ref a7, .ref a8, .int v9, .int v10, .ref a11, .ref a12, .int v13, .ref a14, .ref a15, .ref a16, .int v17])), (a2, .inr (4, [.ref b0, .int 0]))] sz) [(h0, .inr (7, [.ref a0, .int v1, .ref a2, .ref a3, .int v4, .int v5, .ref a6, .ref a7, .ref a8, .int v9, .int v10, .ref a11, .ref a12, .int v13, .ref a14, .ref a15, .ref a16, .int 1])), (a2, .inr (4, [.ref b0, .int 0]))]) (va_A [(h0, .inr (7, [.ref a0, .int v1, .ref a2, .ref a3, .int v4, .int v5, .ref a6, .ref a7, .ref a8, .int v9, .int v10, .ref a11, .ref a12, .int v13, .ref a14, .ref a15, .ref a16, .int v17])), (a2, .inr (4, [.ref b0, .int 0]))] sz)) 0 0 (va_A [(h0, .inr (7, [.ref a0, .int v1, .ref a2, .ref a3, .int v4, .int v5, .ref a6, .ref a7, .ref a8, .int v9, .int v10, .ref a11, .ref a12, .int v13, .ref a14, .ref a15, .ref a16, .int v17])), (a2, .inr (4, [.ref b0, .int 0]))] sz) := by
  refine Met.ofW (cc := cX7_learn) (maxL := 6) (ret := (some .int)) (by decide) rfl ?_
  intro p e s m args below meth c s₁ B hml hv
  obtain ⟨rfl, hsz, hP, hK, hD0⟩ := hv
  have hx := B.exec
  have hb := B.bytes
  have hr := B.returns
  have hts := atoms_spec (ws := wsX7_learn) B.pre
  have hown : s.vm.findClass RX7 = some m.cls := findClass_of_methodNamed B.named
  have hlocks := B.notSynchronized
  subst hsz
  have hD := hD0.self (sz := s.heap.size)
  generalize hAe : va_A [(h0, .inr (7, [.ref a0, .int v1, .ref a2, .ref a3, .int v4, .int v5, .ref a6, .ref a7, .ref a8, .int v9, .int v10, .ref a11, .ref a12, .int v13, .ref a14, .ref a15, .ref a16, .int v17])), (a2, .inr (4, [.ref b0, .int 0]))] s.heap.size = A at hD ⊢
  have hA : ∀ q : Nat, s.heap.size ≤ q → A q := fun q h => by rw [← hAe]; exact Or.inr h
  have hS : va_S A s.heap s.heap [] := va_S.rf
  replace hP : va_P (dC, dI) vwCl [(h0, .inr (7, [.ref a0, .int v1, .ref a2, .ref a3, .int v4, .int v5, .ref a6, .ref a7, .ref a8, .int v9, .int v10, .ref a11, .ref a12, .int v13, .ref a14, .ref a15, .ref a16, .int v17])), (a2, .inr (4, [.ref b0, .int 0]))] s.heap := hP
  have hl := lv_entry ([.ref h0, .int p0, .int p1]) (n := 6) (Nat.le_of_ble_eq_true rfl)
  rw [lg_entry_eq]
  generalize (lg_sl ([.ref h0, .int p0, .int p1]) ++ List.replicate (6 - (lg_sl ([.ref h0, .int p0, .int p1])).length) Slot.unset).toArray = ls at hl ⊢
  replace hl : lv_has ls 6 [(0, .ref h0), (1, .int p0), (2, .int p1)] := hl
  have hi_X7 : ∀ w ∈ wsX70, w ∈ wsX7_learn := by decide +kernel
  have k_f20 := hts (.fieldLink RX7 20 "TongueTeller" "tongues" "LTongueTeller$Tongues;") (by decide +kernel)
  refine lv_aload_n hx hb dX7_learn_0 rfl (lv_at hl 0 rfl) ?_
  refine va_get (D := (dC, dI)) (ci := 7) (v := .ref a2) (C := RX7) (T := TX7) (N := 18) hx hb hts hi_X7 hown hK hP 0 rfl rfl 2 (by decide) k_f20 (fun _ h9 => h9) rfl dX7_learn_1 ?_
  refine lv_iload_n hx hb dX7_learn_4 rfl (lv_at hl 1 rfl) ?_
  have hPc := hP.sub (ws' := [(a2, .inr (4, [.ref b0, .int 0]))]) [1] rfl
  have hKc := hK.sub (tys' := []) [] rfl
  refine vp_callSi (W.runV (As := [.int p0]) (rest := []) ⟨hx, hb, hml, hown, hts⟩ (c_X4_has l dC dI a2 b0 p0) (cwV 1 hts gX7_learn_X4_has rfl rfl rfl (by decide +kernel) ⟨Nat.le_of_ble_eq_true rfl, Nat.le_of_ble_eq_true rfl⟩) ⟨fun a U g mk q => by obtain ⟨q0, qP, qK⟩ := q; exact ⟨q0, qP, va_K.moved (u := U) (U := U.calling g mk a) (Vm.Alike.refl U.vm) qK⟩, va_recv hK hP (ci := 4) (q0 := 1) rfl rfl, fun U hU hW => ⟨rfl, by rw [hU]; exact hPc, va_K.moved hW.alike hKc⟩⟩ rfl rfl hl.1 rfl (lv_room (Nat.le_of_ble_eq_true rfl)) dX7_learn_5 ⟨Nat.le_of_ble_eq_true rfl, Nat.le_of_ble_eq_true rfl⟩) (fun r_5 hw_5 => ?_)
  obtain rfl : 0 = r_5 := Eq.symm hw_5
  refine lv_if_ne (tgt := 17) hx hb dX7_learn_8 (by decide) (fun c_8 => ?_) (fun c_8 => ?_)
  · exact absurd (by decide) c_8
  refine lv_aload_n hx hb dX7_learn_11 rfl (lv_at hl 0 rfl) ?_
  refine lv_iconst (v := 1) hx hb dX7_learn_12 (by decide) ?_
  have hPc := hP.sub (ws' := [(h0, .inr (7, [.ref a0, .int v1, .ref a2, .ref a3, .int v4, .int v5, .ref a6, .ref a7, .ref a8, .int v9, .int v10, .ref a11, .ref a12, .int v13, .ref a14, .ref a15, .ref a16, .int v17]))]) [0] rfl
  have hDc := hD.sub (ws' := [(h0, .inr (7, [.ref a0, .int v1, .ref a2, .ref a3, .int v4, .int v5, .ref a6, .ref a7, .ref a8, .int v9, .int v10, .ref a11, .ref a12, .int v13, .ref a14, .ref a15, .ref a16, .int v17]))]) [0] (by decide) rfl
  have hKc := hK.sub (tys' := []) [] rfl
  have hFc := va_free (wc := [(h0, .inr (7, [.ref a0, .int v1, .ref a2, .ref a3, .int v4, .int v5, .ref a6, .ref a7, .ref a8, .int v9, .int v10, .ref a11, .ref a12, .int v13, .ref a14, .ref a15, .ref a16, .int v17]))]) hD hS hA [0] rfl
  refine va_calli (va_runV (As := [.int 1]) (rest := []) ⟨hx, hb, hml, hown, hts⟩ (c_X7_refuse l dC dI h0 a0 v1 a2 a3 v4 v5 a6 a7 a8 v9 v10 a11 a12 v13 a14 a15 a16 v17 1 s.heap.size) (cwV 1 hts gX7_learn_X7_refuse rfl rfl rfl (by decide +kernel) ⟨Nat.le_of_ble_eq_true rfl, Nat.le_of_ble_eq_true rfl⟩) ⟨fun a U g mk q => by obtain ⟨q0, q1, qP, qK, qD⟩ := q; exact ⟨q0, q1, qP, va_K.moved (u := U) (U := U.calling g mk a) (Vm.Alike.refl U.vm) qK, qD⟩, va_recv hK hP (ci := 7) (q0 := 0) rfl rfl, fun U hU hW => ⟨rfl, by rw [hU], by rw [hU]; exact hPc, va_K.moved hW.alike hKc, hDc.weaken (fun _ _ _ _ => trivial)⟩⟩ rfl rfl hl.1 rfl (lv_room (Nat.le_of_ble_eq_true rfl)) dX7_learn_13 ⟨Nat.le_of_ble_eq_true rfl, Nat.le_of_ble_eq_true rfl⟩) hS (fun q _ h => hFc q h) hFc (fun r_13 u t H1 locs ht hvm hw_13 hB hz1 hk1 hS => ?_)
  obtain ⟨hP1, hD1⟩ := hB
  rw [ht] at hP1
  obtain ⟨hP, hD⟩ := va_join (wr := [(a2, .inr (4, [.ref b0, .int 0]))]) (w1 := [(h0, .inr (7, [.ref a0, .int v1, .ref a2, .ref a3, .int v4, .int v5, .ref a6, .ref a7, .ref a8, .int v9, .int v10, .ref a11, .ref a12, .int v13, .ref a14, .ref a15, .ref a16, .int 1]))]) hP hD [0] [1] rfl rfl (by decide) (by decide) hk1 hFc hP1 hD1
  generalize H1 = H at hP hS ⊢
  replace hP : va_P (dC, dI) vwCl [(a2, .inr (4, [.ref b0, .int 0])), (h0, .inr (7, [.ref a0, .int v1, .ref a2, .ref a3, .int v4, .int v5, .ref a6, .ref a7, .ref a8, .int v9, .int v10, .ref a11, .ref a12, .int v13, .ref a14, .ref a15, .ref a16, .int 1]))] H := hP
  replace hD : va_D A [(a2, .inr (4, [.ref b0, .int 0])), (h0, .inr (7, [.ref a0, .int v1, .ref a2, .ref a3, .int v4, .int v5, .ref a6, .ref a7, .ref a8, .int v9, .int v10, .ref a11, .ref a12, .int v13, .ref a14, .ref a15, .ref a16, .int 1]))] := hD
  obtain rfl : (-1) = r_13 := Eq.symm hw_13
  have hP9 := hP.sub (ws' := [(h0, .inr (7, [.ref a0, .int v1, .ref a2, .ref a3, .int v4, .int v5, .ref a6, .ref a7, .ref a8, .int v9, .int v10, .ref a11, .ref a12, .int v13, .ref a14, .ref a15, .ref a16, .int 1])), (a2, .inr (4, [.ref b0, .int 0]))]) [1, 0] rfl
  have hD9 := hD.sub (ws' := [(h0, .inr (7, [.ref a0, .int v1, .ref a2, .ref a3, .int v4, .int v5, .ref a6, .ref a7, .ref a8, .int v9, .int v10, .ref a11, .ref a12, .int v13, .ref a14, .ref a15, .ref a16, .int 1])), (a2, .inr (4, [.ref b0, .int 0]))]) [1, 0] (by decide) rfl
  exact W.iret (v := (-1)) hx hb hr (fun t ht hW => ⟨⟨(-1), (), rfl, rfl, by rw [ht]; exact hP9, hD9⟩, hS.F ht⟩) hS.2.2 dX7_learn_16

set_option maxHeartbeats 4000000 in
set_option maxRecDepth 100000 in
theorem c_X7_keyword (l : Launch) (dC : Nat → ClassId) (dI : Nat → Nat → Nat) (h0 : Nat) (a0 : Nat) (v1 : Int32) (a2 : Nat) (a3 : Nat) (v4 : Int32) (v5 : Int32) (a6 : Nat) (a7 : Nat) (a8 : Nat) (v9 : Int32) (v10 : Int32) (a11 : Nat) (a12 : Nat) (v13 : Int32) (a14 : Nat) (a15 : Nat) (a16 : Nat) (v17 : Int32) (b0 : Nat) (p0 : Int32) (p1 : Int32) (sz : Nat) : Met l yX7_keyword wsX7_keyword ({ frames := 1, cells := 0, slots := 0, locals := 21 }) (va_Pc [.ref h0, .int p0, .int p1] (fun U => U.heap.size = sz ∧ va_P (dC, dI) vwCl [(h0, .inr (7, [.ref a0, .int v1, .ref a2, .ref a3, .int v4, .int v5, .ref a6, .ref a7, .ref a8, .int v9, .int v10, .ref a11, .ref a12, .int v13, .ref a14, .ref a15, .ref a16, .int v17])), (a2, .inr (4, [.ref b0, .int 0]))] U.heap ∧ va_K (dC, dI) vwCl [] U ∧ va_D (fun _ => True) [(h0, .inr (7, [.ref a0, .int v1, .ref a2, .ref a3, .int v4, .int v5, .ref a6, .ref a7, .ref a8, .int v9, .int v10, .ref a11, .ref a12, .int v13, .ref a14, .ref a15, .ref a16, .int v17])), (a2, .inr (4, [.ref b0, .int 0]))])) (va_Qi (fun (r : Int32) (_ : Unit) => r = (-1)) (fun (_ : Unit) (t : State) => va_P (dC, dI) vwCl [(h0, .inr (7, [.ref a0, .int v1, .ref a2, .ref a3, .int v4, .int v5, .ref a6, .ref a7, .ref a8, .int v9, .int v10, .ref a11, .ref a12, .int v13, .ref a14, .ref a15, .ref a16, .int 1])), (a2, .inr (4, [.ref b0, .int 0]))] t.heap ∧ va_D (va_A [(h0, .inr (7, [.ref a0, .int v1, .ref a2, .ref a3, .int v4, .int v5, .ref a6, .ref a7, .ref a8, .int v9, .int v10, .ref a11, .ref a12, .int v13, .ref a14, .ref a15, .ref a16, .int v17])), (a2, .inr (4, [.ref b0, .int 0]))] sz) [(h0, .inr (7, [.ref a0, .int v1, .ref a2, .ref a3, .int v4, .int v5, .ref a6, .ref a7, .ref a8, .int v9, .int v10, .ref a11, .ref a12, .int v13, .ref a14, .ref a15, .ref a16, .int 1])), (a2, .inr (4, [.ref b0, .int 0]))]) (va_A [(h0, .inr (7, [.ref a0, .int v1, .ref a2, .ref a3, .int v4, .int v5, .ref a6, .ref a7, .ref a8, .int v9, .int v10, .ref a11, .ref a12, .int v13, .ref a14, .ref a15, .ref a16, .int v17])), (a2, .inr (4, [.ref b0, .int 0]))] sz)) 0 0 (va_A [(h0, .inr (7, [.ref a0, .int v1, .ref a2, .ref a3, .int v4, .int v5, .ref a6, .ref a7, .ref a8, .int v9, .int v10, .ref a11, .ref a12, .int v13, .ref a14, .ref a15, .ref a16, .int v17])), (a2, .inr (4, [.ref b0, .int 0]))] sz) := by
  refine Met.ofW (cc := cX7_keyword) (maxL := 4) (ret := (some .int)) (by decide) rfl ?_
  intro p e s m args below meth c s₁ B hml hv
  obtain ⟨rfl, hsz, hP, hK, hD0⟩ := hv
  have hx := B.exec
  have hb := B.bytes
  have hr := B.returns
  have hts := atoms_spec (ws := wsX7_keyword) B.pre
  have hown : s.vm.findClass RX7 = some m.cls := findClass_of_methodNamed B.named
  have hlocks := B.notSynchronized
  subst hsz
  have hD := hD0.self (sz := s.heap.size)
  generalize hAe : va_A [(h0, .inr (7, [.ref a0, .int v1, .ref a2, .ref a3, .int v4, .int v5, .ref a6, .ref a7, .ref a8, .int v9, .int v10, .ref a11, .ref a12, .int v13, .ref a14, .ref a15, .ref a16, .int v17])), (a2, .inr (4, [.ref b0, .int 0]))] s.heap.size = A at hD ⊢
  have hA : ∀ q : Nat, s.heap.size ≤ q → A q := fun q h => by rw [← hAe]; exact Or.inr h
  have hS : va_S A s.heap s.heap [] := va_S.rf
  replace hP : va_P (dC, dI) vwCl [(h0, .inr (7, [.ref a0, .int v1, .ref a2, .ref a3, .int v4, .int v5, .ref a6, .ref a7, .ref a8, .int v9, .int v10, .ref a11, .ref a12, .int v13, .ref a14, .ref a15, .ref a16, .int v17])), (a2, .inr (4, [.ref b0, .int 0]))] s.heap := hP
  have hl := lv_entry ([.ref h0, .int p0, .int p1]) (n := 4) (Nat.le_of_ble_eq_true rfl)
  rw [lg_entry_eq]
  generalize (lg_sl ([.ref h0, .int p0, .int p1]) ++ List.replicate (4 - (lg_sl ([.ref h0, .int p0, .int p1])).length) Slot.unset).toArray = ls at hl ⊢
  replace hl : lv_has ls 4 [(0, .ref h0), (1, .int p0), (2, .int p1)] := hl
  have hi_X7 : ∀ w ∈ wsX70, w ∈ wsX7_keyword := by decide +kernel
  have k_f20 := hts (.fieldLink RX7 20 "TongueTeller" "tongues" "LTongueTeller$Tongues;") (by decide +kernel)
  refine lv_aload_n hx hb dX7_keyword_0 rfl (lv_at hl 0 rfl) ?_
  refine va_get (D := (dC, dI)) (ci := 7) (v := .ref a2) (C := RX7) (T := TX7) (N := 18) hx hb hts hi_X7 hown hK hP 0 rfl rfl 2 (by decide) k_f20 (fun _ h9 => h9) rfl dX7_keyword_1 ?_
  refine lv_iload_n hx hb dX7_keyword_4 rfl (lv_at hl 1 rfl) ?_
  have hPc := hP.sub (ws' := [(a2, .inr (4, [.ref b0, .int 0]))]) [1] rfl
  have hKc := hK.sub (tys' := []) [] rfl
  refine vp_callSi (W.runV (As := [.int p0]) (rest := []) ⟨hx, hb, hml, hown, hts⟩ (c_X4_has l dC dI a2 b0 p0) (cwV 1 hts gX7_keyword_X4_has rfl rfl rfl (by decide +kernel) ⟨Nat.le_of_ble_eq_true rfl, Nat.le_of_ble_eq_true rfl⟩) ⟨fun a U g mk q => by obtain ⟨q0, qP, qK⟩ := q; exact ⟨q0, qP, va_K.moved (u := U) (U := U.calling g mk a) (Vm.Alike.refl U.vm) qK⟩, va_recv hK hP (ci := 4) (q0 := 1) rfl rfl, fun U hU hW => ⟨rfl, by rw [hU]; exact hPc, va_K.moved hW.alike hKc⟩⟩ rfl rfl hl.1 rfl (lv_room (Nat.le_of_ble_eq_true rfl)) dX7_keyword_5 ⟨Nat.le_of_ble_eq_true rfl, Nat.le_of_ble_eq_true rfl⟩) (fun r_5 hw_5 => ?_)
  obtain rfl : 0 = r_5 := Eq.symm hw_5
  refine lv_if_ne (tgt := 17) hx hb dX7_keyword_8 (by decide) (fun c_8 => ?_) (fun c_8 => ?_)
  · exact absurd (by decide) c_8
  refine lv_aload_n hx hb dX7_keyword_11 rfl (lv_at hl 0 rfl) ?_
  refine lv_iconst (v := 1) hx hb dX7_keyword_12 (by decide) ?_
  have hPc := hP.sub (ws' := [(h0, .inr (7, [.ref a0, .int v1, .ref a2, .ref a3, .int v4, .int v5, .ref a6, .ref a7, .ref a8, .int v9, .int v10, .ref a11, .ref a12, .int v13, .ref a14, .ref a15, .ref a16, .int v17]))]) [0] rfl
  have hDc := hD.sub (ws' := [(h0, .inr (7, [.ref a0, .int v1, .ref a2, .ref a3, .int v4, .int v5, .ref a6, .ref a7, .ref a8, .int v9, .int v10, .ref a11, .ref a12, .int v13, .ref a14, .ref a15, .ref a16, .int v17]))]) [0] (by decide) rfl
  have hKc := hK.sub (tys' := []) [] rfl
  have hFc := va_free (wc := [(h0, .inr (7, [.ref a0, .int v1, .ref a2, .ref a3, .int v4, .int v5, .ref a6, .ref a7, .ref a8, .int v9, .int v10, .ref a11, .ref a12, .int v13, .ref a14, .ref a15, .ref a16, .int v17]))]) hD hS hA [0] rfl
  refine va_calli (va_runV (As := [.int 1]) (rest := []) ⟨hx, hb, hml, hown, hts⟩ (c_X7_refuse l dC dI h0 a0 v1 a2 a3 v4 v5 a6 a7 a8 v9 v10 a11 a12 v13 a14 a15 a16 v17 1 s.heap.size) (cwV 1 hts gX7_keyword_X7_refuse rfl rfl rfl (by decide +kernel) ⟨Nat.le_of_ble_eq_true rfl, Nat.le_of_ble_eq_true rfl⟩) ⟨fun a U g mk q => by obtain ⟨q0, q1, qP, qK, qD⟩ := q; exact ⟨q0, q1, qP, va_K.moved (u := U) (U := U.calling g mk a) (Vm.Alike.refl U.vm) qK, qD⟩, va_recv hK hP (ci := 7) (q0 := 0) rfl rfl, fun U hU hW => ⟨rfl, by rw [hU], by rw [hU]; exact hPc, va_K.moved hW.alike hKc, hDc.weaken (fun _ _ _ _ => trivial)⟩⟩ rfl rfl hl.1 rfl (lv_room (Nat.le_of_ble_eq_true rfl)) dX7_keyword_13 ⟨Nat.le_of_ble_eq_true rfl, Nat.le_of_ble_eq_true rfl⟩) hS (fun q _ h => hFc q h) hFc (fun r_13 u t H1 locs ht hvm hw_13 hB hz1 hk1 hS => ?_)
  obtain ⟨hP1, hD1⟩ := hB
  rw [ht] at hP1
  obtain ⟨hP, hD⟩ := va_join (wr := [(a2, .inr (4, [.ref b0, .int 0]))]) (w1 := [(h0, .inr (7, [.ref a0, .int v1, .ref a2, .ref a3, .int v4, .int v5, .ref a6, .ref a7, .ref a8, .int v9, .int v10, .ref a11, .ref a12, .int v13, .ref a14, .ref a15, .ref a16, .int 1]))]) hP hD [0] [1] rfl rfl (by decide) (by decide) hk1 hFc hP1 hD1
  generalize H1 = H at hP hS ⊢
  replace hP : va_P (dC, dI) vwCl [(a2, .inr (4, [.ref b0, .int 0])), (h0, .inr (7, [.ref a0, .int v1, .ref a2, .ref a3, .int v4, .int v5, .ref a6, .ref a7, .ref a8, .int v9, .int v10, .ref a11, .ref a12, .int v13, .ref a14, .ref a15, .ref a16, .int 1]))] H := hP
  replace hD : va_D A [(a2, .inr (4, [.ref b0, .int 0])), (h0, .inr (7, [.ref a0, .int v1, .ref a2, .ref a3, .int v4, .int v5, .ref a6, .ref a7, .ref a8, .int v9, .int v10, .ref a11, .ref a12, .int v13, .ref a14, .ref a15, .ref a16, .int 1]))] := hD
  obtain rfl : (-1) = r_13 := Eq.symm hw_13
  have hP9 := hP.sub (ws' := [(h0, .inr (7, [.ref a0, .int v1, .ref a2, .ref a3, .int v4, .int v5, .ref a6, .ref a7, .ref a8, .int v9, .int v10, .ref a11, .ref a12, .int v13, .ref a14, .ref a15, .ref a16, .int 1])), (a2, .inr (4, [.ref b0, .int 0]))]) [1, 0] rfl
  have hD9 := hD.sub (ws' := [(h0, .inr (7, [.ref a0, .int v1, .ref a2, .ref a3, .int v4, .int v5, .ref a6, .ref a7, .ref a8, .int v9, .int v10, .ref a11, .ref a12, .int v13, .ref a14, .ref a15, .ref a16, .int 1])), (a2, .inr (4, [.ref b0, .int 0]))]) [1, 0] (by decide) rfl
  exact W.iret (v := (-1)) hx hb hr (fun t ht hW => ⟨⟨(-1), (), rfl, rfl, by rw [ht]; exact hP9, hD9⟩, hS.F ht⟩) hS.2.2 dX7_keyword_16

set_option maxHeartbeats 4000000 in
set_option maxRecDepth 100000 in
theorem c_X7_pair (l : Launch) (dC : Nat → ClassId) (dI : Nat → Nat → Nat) (h0 : Nat) (a0 : Nat) (v1 : Int32) (a2 : Nat) (a3 : Nat) (v4 : Int32) (v5 : Int32) (a6 : Nat) (a7 : Nat) (a8 : Nat) (v9 : Int32) (v10 : Int32) (a11 : Nat) (a12 : Nat) (v13 : Int32) (a14 : Nat) (a15 : Nat) (a16 : Nat) (v17 : Int32) (b0 : Nat) (p0 : Int32) (p1 : Int32) (p2 : Int32) : Met l yX7_pair wsX7_pair ({ frames := 1, cells := 0, slots := 0, locals := 21 }) (va_Pc [.ref h0, .int p0, .int p1, .int p2] (fun U => va_P (dC, dI) vwCl [(h0, .inr (7, [.ref a0, .int v1, .ref a2, .ref a3, .int v4, .int v5, .ref a6, .ref a7, .ref a8, .int v9, .int v10, .ref a11, .ref a12, .int v13, .ref a14, .ref a15, .ref a16, .int v17])), (a2, .inr (4, [.ref b0, .int 0]))] U.heap ∧ va_K (dC, dI) vwCl [] U)) (vp_Si (fun r => r = (-1))) 0 0 (fun _ => False) := by
  refine Met.ofW (cc := cX7_pair) (maxL := 4) (ret := (some .int)) (by decide) rfl ?_
  intro p e s m args below meth c s₁ B hml hv
  obtain ⟨rfl, hP, hK⟩ := hv
  have hx := B.exec
  have hb := B.bytes
  have hr := B.returns
  have hts := atoms_spec (ws := wsX7_pair) B.pre
  have hown : s.vm.findClass RX7 = some m.cls := findClass_of_methodNamed B.named
  have hlocks := B.notSynchronized
  replace hP : va_P (dC, dI) vwCl [(h0, .inr (7, [.ref a0, .int v1, .ref a2, .ref a3, .int v4, .int v5, .ref a6, .ref a7, .ref a8, .int v9, .int v10, .ref a11, .ref a12, .int v13, .ref a14, .ref a15, .ref a16, .int v17])), (a2, .inr (4, [.ref b0, .int 0]))] s.heap := hP
  have hl := lv_entry ([.ref h0, .int p0, .int p1, .int p2]) (n := 4) (Nat.le_of_ble_eq_true rfl)
  rw [lg_entry_eq]
  generalize (lg_sl ([.ref h0, .int p0, .int p1, .int p2]) ++ List.replicate (4 - (lg_sl ([.ref h0, .int p0, .int p1, .int p2])).length) Slot.unset).toArray = ls at hl ⊢
  replace hl : lv_has ls 4 [(0, .ref h0), (1, .int p0), (2, .int p1), (3, .int p2)] := hl
  have hi_X7 : ∀ w ∈ wsX70, w ∈ wsX7_pair := by decide +kernel
  have k_f20 := hts (.fieldLink RX7 20 "TongueTeller" "tongues" "LTongueTeller$Tongues;") (by decide +kernel)
  refine lv_aload_n hx hb dX7_pair_0 rfl (lv_at hl 0 rfl) ?_
  refine va_get (D := (dC, dI)) (ci := 7) (v := .ref a2) (C := RX7) (T := TX7) (N := 18) hx hb hts hi_X7 hown hK hP 0 rfl rfl 2 (by decide) k_f20 (fun _ h9 => h9) rfl dX7_pair_1 ?_
  refine lv_iload_n hx hb dX7_pair_4 rfl (lv_at hl 1 rfl) ?_
  have hPc := hP.sub (ws' := [(a2, .inr (4, [.ref b0, .int 0]))]) [1] rfl
  have hKc := hK.sub (tys' := []) [] rfl
  refine vp_callSi (W.runV (As := [.int p0]) (rest := []) ⟨hx, hb, hml, hown, hts⟩ (c_X4_has l dC dI a2 b0 p0) (cwV 1 hts gX7_pair_X4_has rfl rfl rfl (by decide +kernel) ⟨Nat.le_of_ble_eq_true rfl, Nat.le_of_ble_eq_true rfl⟩) ⟨fun a U g mk q => by obtain ⟨q0, qP, qK⟩ := q; exact ⟨q0, qP, va_K.moved (u := U) (U := U.calling g mk a) (Vm.Alike.refl U.vm) qK⟩, va_recv hK hP (ci := 4) (q0 := 1) rfl rfl, fun U hU hW => ⟨rfl, by rw [hU]; exact hPc, va_K.moved hW.alike hKc⟩⟩ rfl rfl hl.1 rfl (lv_room (Nat.le_of_ble_eq_true rfl)) dX7_pair_5 ⟨Nat.le_of_ble_eq_true rfl, Nat.le_of_ble_eq_true rfl⟩) (fun r_5 hw_5 => ?_)
  obtain rfl : 0 = r_5 := Eq.symm hw_5
  refine lv_if_eq (tgt := 25) hx hb dX7_pair_8 (by decide) (fun c_8 => ?_) (fun c_8 => ?_)
  rotate_left
  · exact absurd (by decide) c_8
  refine lv_iconst (v := (-1)) hx hb dX7_pair_25 (by decide) ?_
  exact W.iret (v := (-1)) hx hb hr (fun t ht hW => ⟨(-1), rfl, rfl, ht⟩) (fun _ h => absurd h List.not_mem_nil) dX7_pair_26

set_option maxHeartbeats 4000000 in
set_option maxRecDepth 100000 in
theorem c_X7_word (l : Launch) (dC : Nat → ClassId) (dI : Nat → Nat → Nat) (h0 : Nat) (a0 : Nat) (v1 : Int32) (a2 : Nat) (a3 : Nat) (v4 : Int32) (v5 : Int32) (a6 : Nat) (a7 : Nat) (a8 : Nat) (v9 : Int32) (v10 : Int32) (a11 : Nat) (a12 : Nat) (v13 : Int32) (a14 : Nat) (a15 : Nat) (a16 : Nat) (v17 : Int32) (t0 : Nat) (t1 : Nat) (t2 : Nat) (p0 : Int32) (p1 : Int32) : Met l yX7_word wsX7_word ({ frames := 1, cells := 0, slots := 0, locals := 21 }) (va_Pc [.ref h0, .int p0, .int p1] (fun U => va_P (dC, dI) vwCl [(h0, .inr (7, [.ref a0, .int v1, .ref a2, .ref a3, .int v4, .int v5, .ref a6, .ref a7, .ref a8, .int v9, .int v10, .ref a11, .ref a12, .int v13, .ref a14, .ref a15, .ref a16, .int v17])), (a11, .inr (2, [.ref t0, .ref t1, .ref t2, .int 0, .int 0]))] U.heap ∧ va_K (dC, dI) vwCl [] U)) (vp_Si (fun r => r = (-1))) 0 0 (fun _ => False) := by
  refine Met.ofW (cc := cX7_word) (maxL := 3) (ret := (some .int)) (by decide) rfl ?_
  intro p e s m args below meth c s₁ B hml hv
  obtain ⟨rfl, hP, hK⟩ := hv
  have hx := B.exec
  have hb := B.bytes
  have hr := B.returns
  have hts := atoms_spec (ws := wsX7_word) B.pre
  have hown : s.vm.findClass RX7 = some m.cls := findClass_of_methodNamed B.named
  have hlocks := B.notSynchronized
  replace hP : va_P (dC, dI) vwCl [(h0, .inr (7, [.ref a0, .int v1, .ref a2, .ref a3, .int v4, .int v5, .ref a6, .ref a7, .ref a8, .int v9, .int v10, .ref a11, .ref a12, .int v13, .ref a14, .ref a15, .ref a16, .int v17])), (a11, .inr (2, [.ref t0, .ref t1, .ref t2, .int 0, .int 0]))] s.heap := hP
  have hl := lv_entry ([.ref h0, .int p0, .int p1]) (n := 3) (Nat.le_of_ble_eq_true rfl)
  rw [lg_entry_eq]
  generalize (lg_sl ([.ref h0, .int p0, .int p1]) ++ List.replicate (3 - (lg_sl ([.ref h0, .int p0, .int p1])).length) Slot.unset).toArray = ls at hl ⊢
  replace hl : lv_has ls 3 [(0, .ref h0), (1, .int p0), (2, .int p1)] := hl
  refine lv_aload_n hx hb dX7_word_0 rfl (lv_at hl 0 rfl) ?_
  refine lv_iload_n hx hb dX7_word_1 rfl (lv_at hl 1 rfl) ?_
  have hPc := hP.sub (ws' := [(h0, .inr (7, [.ref a0, .int v1, .ref a2, .ref a3, .int v4, .int v5, .ref a6, .ref a7, .ref a8, .int v9, .int v10, .ref a11, .ref a12, .int v13, .ref a14, .ref a15, .ref a16, .int v17])), (a11, .inr (2, [.ref t0, .ref t1, .ref t2, .int 0, .int 0]))]) [0, 1] rfl
  have hKc := hK.sub (tys' := []) [] rfl
  refine vp_callSi (W.runV (As := [.int p0]) (rest := []) ⟨hx, hb, hml, hown, hts⟩ (c_X7_isWord l dC dI h0 a0 v1 a2 a3 v4 v5 a6 a7 a8 v9 v10 a11 a12 v13 a14 a15 a16 v17 t0 t1 t2 0 p0) (cwV 1 hts gX7_word_X7_isWord rfl rfl rfl (by decide +kernel) ⟨Nat.le_of_ble_eq_true rfl, Nat.le_of_ble_eq_true rfl⟩) ⟨fun a U g mk q => by obtain ⟨q0, qP, qK⟩ := q; exact ⟨q0, qP, va_K.moved (u := U) (U := U.calling g mk a) (Vm.Alike.refl U.vm) qK⟩, va_recv hK hP (ci := 7) (q0 := 0) rfl rfl, fun U hU hW => ⟨rfl, by rw [hU]; exact hPc, va_K.moved hW.alike hKc⟩⟩ rfl rfl hl.1 rfl (lv_room (Nat.le_of_ble_eq_true rfl)) dX7_word_2 ⟨Nat.le_of_ble_eq_true rfl, Nat.le_of_ble_eq_true rfl⟩) (fun r_2 hw_2 => ?_)
  obtain rfl : 0 = r_2 := Eq.symm hw_2
  refine lv_if_ne (tgt := 10) hx hb dX7_word_5 (by decide) (fun c_5 => ?_) (fun c_5 => ?_)
  · exact absurd (by decide) c_5
  refine lv_iconst (v := (-1)) hx hb dX7_word_8 (by decide) ?_
  exact W.iret (v := (-1)) hx hb hr (fun t ht hW => ⟨(-1), rfl, rfl, ht⟩) (fun _ h => absurd h List.not_mem_nil) dX7_word_9

set_option maxHeartbeats 4000000 in
set_option maxRecDepth 100000 in
theorem c_X7_cost (l : Launch) (dC : Nat → ClassId) (dI : Nat → Nat → Nat) (h0 : Nat) (a0 : Nat) (v1 : Int32) (a2 : Nat) (a3 : Nat) (v4 : Int32) (v5 : Int32) (a6 : Nat) (a7 : Nat) (a8 : Nat) (v9 : Int32) (v10 : Int32) (a11 : Nat) (a12 : Nat) (v13 : Int32) (a14 : Nat) (a15 : Nat) (a16 : Nat) (v17 : Int32) (t0 : Nat) (t1 : Nat) (t2 : Nat) (p0 : Int32) (p1 : Int32) : Met l yX7_cost wsX7_cost ({ frames := 1, cells := 0, slots := 0, locals := 21 }) (va_Pc [.ref h0, .int p0, .int p1] (fun U => va_P (dC, dI) vwCl [(h0, .inr (7, [.ref a0, .int v1, .ref a2, .ref a3, .int v4, .int v5, .ref a6, .ref a7, .ref a8, .int v9, .int v10, .ref a11, .ref a12, .int v13, .ref a14, .ref a15, .ref a16, .int v17])), (a11, .inr (2, [.ref t0, .ref t1, .ref t2, .int 0, .int 0]))] U.heap ∧ va_K (dC, dI) vwCl [] U)) (vp_Si (fun r => r = (-1))) 0 0 (fun _ => False) := by
  refine Met.ofW (cc := cX7_cost) (maxL := 3) (ret := (some .int)) (by decide) rfl ?_
  intro p e s m args below meth c s₁ B hml hv
  obtain ⟨rfl, hP, hK⟩ := hv
  have hx := B.exec
  have hb := B.bytes
  have hr := B.returns
  have hts := atoms_spec (ws := wsX7_cost) B.pre
  have hown : s.vm.findClass RX7 = some m.cls := findClass_of_methodNamed B.named
  have hlocks := B.notSynchronized
  replace hP : va_P (dC, dI) vwCl [(h0, .inr (7, [.ref a0, .int v1, .ref a2, .ref a3, .int v4, .int v5, .ref a6, .ref a7, .ref a8, .int v9, .int v10, .ref a11, .ref a12, .int v13, .ref a14, .ref a15, .ref a16, .int v17])), (a11, .inr (2, [.ref t0, .ref t1, .ref t2, .int 0, .int 0]))] s.heap := hP
  have hl := lv_entry ([.ref h0, .int p0, .int p1]) (n := 3) (Nat.le_of_ble_eq_true rfl)
  rw [lg_entry_eq]
  generalize (lg_sl ([.ref h0, .int p0, .int p1]) ++ List.replicate (3 - (lg_sl ([.ref h0, .int p0, .int p1])).length) Slot.unset).toArray = ls at hl ⊢
  replace hl : lv_has ls 3 [(0, .ref h0), (1, .int p0), (2, .int p1)] := hl
  refine lv_aload_n hx hb dX7_cost_0 rfl (lv_at hl 0 rfl) ?_
  refine lv_iload_n hx hb dX7_cost_1 rfl (lv_at hl 1 rfl) ?_
  have hPc := hP.sub (ws' := [(h0, .inr (7, [.ref a0, .int v1, .ref a2, .ref a3, .int v4, .int v5, .ref a6, .ref a7, .ref a8, .int v9, .int v10, .ref a11, .ref a12, .int v13, .ref a14, .ref a15, .ref a16, .int v17])), (a11, .inr (2, [.ref t0, .ref t1, .ref t2, .int 0, .int 0]))]) [0, 1] rfl
  have hKc := hK.sub (tys' := []) [] rfl
  refine vp_callSi (W.runV (As := [.int p0]) (rest := []) ⟨hx, hb, hml, hown, hts⟩ (c_X7_isWord l dC dI h0 a0 v1 a2 a3 v4 v5 a6 a7 a8 v9 v10 a11 a12 v13 a14 a15 a16 v17 t0 t1 t2 0 p0) (cwV 1 hts gX7_cost_X7_isWord rfl rfl rfl (by decide +kernel) ⟨Nat.le_of_ble_eq_true rfl, Nat.le_of_ble_eq_true rfl⟩) ⟨fun a U g mk q => by obtain ⟨q0, qP, qK⟩ := q; exact ⟨q0, qP, va_K.moved (u := U) (U := U.calling g mk a) (Vm.Alike.refl U.vm) qK⟩, va_recv hK hP (ci := 7) (q0 := 0) rfl rfl, fun U hU hW => ⟨rfl, by rw [hU]; exact hPc, va_K.moved hW.alike hKc⟩⟩ rfl rfl hl.1 rfl (lv_room (Nat.le_of_ble_eq_true rfl)) dX7_cost_2 ⟨Nat.le_of_ble_eq_true rfl, Nat.le_of_ble_eq_true rfl⟩) (fun r_2 hw_2 => ?_)
  obtain rfl : 0 = r_2 := Eq.symm hw_2
  refine lv_if_eq (tgt := 19) hx hb dX7_cost_5 (by decide) (fun c_5 => ?_) (fun c_5 => ?_)
  rotate_left
  · exact absurd (by decide) c_5
  refine lv_iconst (v := (-1)) hx hb dX7_cost_19 (by decide) ?_
  exact W.iret (v := (-1)) hx hb hr (fun t ht hW => ⟨(-1), rfl, rfl, ht⟩) (fun _ h => absurd h List.not_mem_nil) dX7_cost_20

set_option maxHeartbeats 4000000 in
set_option maxRecDepth 100000 in
theorem c_X7_part (l : Launch) (dC : Nat → ClassId) (dI : Nat → Nat → Nat) (h0 : Nat) (a0 : Nat) (v1 : Int32) (a2 : Nat) (a3 : Nat) (v4 : Int32) (v5 : Int32) (a6 : Nat) (a7 : Nat) (a8 : Nat) (v9 : Int32) (v10 : Int32) (a11 : Nat) (a12 : Nat) (a14 : Nat) (a15 : Nat) (a16 : Nat) (v17 : Int32) (sz : Nat) : Met l yX7_part wsX7_part ({ frames := 1, cells := 0, slots := 0, locals := 21 }) (va_Pc [.ref h0] (fun U => U.heap.size = sz ∧ va_P (dC, dI) vwCl [(h0, .inr (7, [.ref a0, .int v1, .ref a2, .ref a3, .int v4, .int v5, .ref a6, .ref a7, .ref a8, .int v9, .int v10, .ref a11, .ref a12, .int 0, .ref a14, .ref a15, .ref a16, .int v17]))] U.heap ∧ va_K (dC, dI) vwCl [] U ∧ va_D (fun _ => True) [(h0, .inr (7, [.ref a0, .int v1, .ref a2, .ref a3, .int v4, .int v5, .ref a6, .ref a7, .ref a8, .int v9, .int v10, .ref a11, .ref a12, .int 0, .ref a14, .ref a15, .ref a16, .int v17]))])) (va_Qi (fun (r : Int32) (_ : Unit) => r = (-1)) (fun (_ : Unit) (t : State) => va_P (dC, dI) vwCl [(h0, .inr (7, [.ref a0, .int v1, .ref a2, .ref a3, .int v4, .int v5, .ref a6, .ref a7, .ref a8, .int v9, .int v10, .ref a11, .ref a12, .int 0, .ref a14, .ref a15, .ref a16, .int 5]))] t.heap ∧ va_D (va_A [(h0, .inr (7, [.ref a0, .int v1, .ref a2, .ref a3, .int v4, .int v5, .ref a6, .ref a7, .ref a8, .int v9, .int v10, .ref a11, .ref a12, .int 0, .ref a14, .ref a15, .ref a16, .int v17]))] sz) [(h0, .inr (7, [.ref a0, .int v1, .ref a2, .ref a3, .int v4, .int v5, .ref a6, .ref a7, .ref a8, .int v9, .int v10, .ref a11, .ref a12, .int 0, .ref a14, .ref a15, .ref a16, .int 5]))]) (va_A [(h0, .inr (7, [.ref a0, .int v1, .ref a2, .ref a3, .int v4, .int v5, .ref a6, .ref a7, .ref a8, .int v9, .int v10, .ref a11, .ref a12, .int 0, .ref a14, .ref a15, .ref a16, .int v17]))] sz)) 0 0 (va_A [(h0, .inr (7, [.ref a0, .int v1, .ref a2, .ref a3, .int v4, .int v5, .ref a6, .ref a7, .ref a8, .int v9, .int v10, .ref a11, .ref a12, .int 0, .ref a14, .ref a15, .ref a16, .int v17]))] sz) := by
  refine Met.ofW (cc := cX7_part) (maxL := 2) (ret := (some .int)) (by decide) rfl ?_
  intro p e s m args below meth c s₁ B hml hv
  obtain ⟨rfl, hsz, hP, hK, hD0⟩ := hv
  have hx := B.exec
  have hb := B.bytes
  have hr := B.returns
  have hts := atoms_spec (ws := wsX7_part) B.pre
  have hown : s.vm.findClass RX7 = some m.cls := findClass_of_methodNamed B.named
  have hlocks := B.notSynchronized
  subst hsz
  have hD := hD0.self (sz := s.heap.size)
  generalize hAe : va_A [(h0, .inr (7, [.ref a0, .int v1, .ref a2, .ref a3, .int v4, .int v5, .ref a6, .ref a7, .ref a8, .int v9, .int v10, .ref a11, .ref a12, .int 0, .ref a14, .ref a15, .ref a16, .int v17]))] s.heap.size = A at hD ⊢
  have hA : ∀ q : Nat, s.heap.size ≤ q → A q := fun q h => by rw [← hAe]; exact Or.inr h
  have hS : va_S A s.heap s.heap [] := va_S.rf
  replace hP : va_P (dC, dI) vwCl [(h0, .inr (7, [.ref a0, .int v1, .ref a2, .ref a3, .int v4, .int v5, .ref a6, .ref a7, .ref a8, .int v9, .int v10, .ref a11, .ref a12, .int 0, .ref a14, .ref a15, .ref a16, .int v17]))] s.heap := hP
  have hl := lv_entry ([.ref h0]) (n := 2) (Nat.le_of_ble_eq_true rfl)
  rw [lg_entry_eq]
  generalize (lg_sl ([.ref h0]) ++ List.replicate (2 - (lg_sl ([.ref h0])).length) Slot.unset).toArray = ls at hl ⊢
  replace hl : lv_has ls 2 [(0, .ref h0)] := hl
  refine lv_aload_n hx hb dX7_part_0 rfl (lv_at hl 0 rfl) ?_
  have hPc := hP.sub (ws' := [(h0, .inr (7, [.ref a0, .int v1, .ref a2, .ref a3, .int v4, .int v5, .ref a6, .ref a7, .ref a8, .int v9, .int v10, .ref a11, .ref a12, .int 0, .ref a14, .ref a15, .ref a16, .int v17]))]) [0] rfl
  have hKc := hK.sub (tys' := []) [] rfl
  refine vp_callSi (W.runV (As := []) (rest := []) ⟨hx, hb, hml, hown, hts⟩ (c_X7_canPart l dC dI h0 a0 v1 a2 a3 v4 v5 a6 a7 a8 v9 v10 a11 a12 a14 a15 a16 v17) (cwV 0 hts gX7_part_X7_canPart rfl rfl rfl (by decide +kernel) ⟨Nat.le_of_ble_eq_true rfl, Nat.le_of_ble_eq_true rfl⟩) ⟨fun a U g mk q => by obtain ⟨q0, qP, qK⟩ := q; exact ⟨q0, qP, va_K.moved (u := U) (U := U.calling g mk a) (Vm.Alike.refl U.vm) qK⟩, va_recv hK hP (ci := 7) (q0 := 0) rfl rfl, fun U hU hW => ⟨rfl, by rw [hU]; exact hPc, va_K.moved hW.alike hKc⟩⟩ rfl rfl hl.1 rfl (lv_room (Nat.le_of_ble_eq_true rfl)) dX7_part_1 ⟨Nat.le_of_ble_eq_true rfl, Nat.le_of_ble_eq_true rfl⟩) (fun r_1 hw_1 => ?_)
  obtain rfl : 0 = r_1 := Eq.symm hw_1
  refine lv_if_ne (tgt := 13) hx hb dX7_part_4 (by decide) (fun c_4 => ?_) (fun c_4 => ?_)
  · exact absurd (by decide) c_4
  refine lv_aload_n hx hb dX7_part_7 rfl (lv_at hl 0 rfl) ?_
  refine lv_iconst (v := 5) hx hb dX7_part_8 (by decide) ?_
  have hPc := hP.sub (ws' := [(h0, .inr (7, [.ref a0, .int v1, .ref a2, .ref a3, .int v4, .int v5, .ref a6, .ref a7, .ref a8, .int v9, .int v10, .ref a11, .ref a12, .int 0, .ref a14, .ref a15, .ref a16, .int v17]))]) [0] rfl
  have hDc := hD.sub (ws' := [(h0, .inr (7, [.ref a0, .int v1, .ref a2, .ref a3, .int v4, .int v5, .ref a6, .ref a7, .ref a8, .int v9, .int v10, .ref a11, .ref a12, .int 0, .ref a14, .ref a15, .ref a16, .int v17]))]) [0] (by decide) rfl
  have hKc := hK.sub (tys' := []) [] rfl
  have hFc := va_free (wc := [(h0, .inr (7, [.ref a0, .int v1, .ref a2, .ref a3, .int v4, .int v5, .ref a6, .ref a7, .ref a8, .int v9, .int v10, .ref a11, .ref a12, .int 0, .ref a14, .ref a15, .ref a16, .int v17]))]) hD hS hA [0] rfl
  refine va_calli (va_runV (As := [.int 5]) (rest := []) ⟨hx, hb, hml, hown, hts⟩ (c_X7_refuse l dC dI h0 a0 v1 a2 a3 v4 v5 a6 a7 a8 v9 v10 a11 a12 0 a14 a15 a16 v17 5 s.heap.size) (cwV 1 hts gX7_part_X7_refuse rfl rfl rfl (by decide +kernel) ⟨Nat.le_of_ble_eq_true rfl, Nat.le_of_ble_eq_true rfl⟩) ⟨fun a U g mk q => by obtain ⟨q0, q1, qP, qK, qD⟩ := q; exact ⟨q0, q1, qP, va_K.moved (u := U) (U := U.calling g mk a) (Vm.Alike.refl U.vm) qK, qD⟩, va_recv hK hP (ci := 7) (q0 := 0) rfl rfl, fun U hU hW => ⟨rfl, by rw [hU], by rw [hU]; exact hPc, va_K.moved hW.alike hKc, hDc.weaken (fun _ _ _ _ => trivial)⟩⟩ rfl rfl hl.1 rfl (lv_room (Nat.le_of_ble_eq_true rfl)) dX7_part_9 ⟨Nat.le_of_ble_eq_true rfl, Nat.le_of_ble_eq_true rfl⟩) hS (fun q _ h => hFc q h) hFc (fun r_9 u t H1 locs ht hvm hw_9 hB hz1 hk1 hS => ?_)
  obtain ⟨hP1, hD1⟩ := hB
  rw [ht] at hP1
  obtain ⟨hP, hD⟩ := va_join (wr := []) (w1 := [(h0, .inr (7, [.ref a0, .int v1, .ref a2, .ref a3, .int v4, .int v5, .ref a6, .ref a7, .ref a8, .int v9, .int v10, .ref a11, .ref a12, .int 0, .ref a14, .ref a15, .ref a16, .int 5]))]) hP hD [0] [] rfl rfl (by decide) (by decide) hk1 hFc hP1 hD1
  generalize H1 = H at hP hS ⊢
  replace hP : va_P (dC, dI) vwCl [(h0, .inr (7, [.ref a0, .int v1, .ref a2, .ref a3, .int v4, .int v5, .ref a6, .ref a7, .ref a8, .int v9, .int v10, .ref a11, .ref a12, .int 0, .ref a14, .ref a15, .ref a16, .int 5]))] H := hP
  replace hD : va_D A [(h0, .inr (7, [.ref a0, .int v1, .ref a2, .ref a3, .int v4, .int v5, .ref a6, .ref a7, .ref a8, .int v9, .int v10, .ref a11, .ref a12, .int 0, .ref a14, .ref a15, .ref a16, .int 5]))] := hD
  obtain rfl : (-1) = r_9 := Eq.symm hw_9
  have hP9 := hP.sub (ws' := [(h0, .inr (7, [.ref a0, .int v1, .ref a2, .ref a3, .int v4, .int v5, .ref a6, .ref a7, .ref a8, .int v9, .int v10, .ref a11, .ref a12, .int 0, .ref a14, .ref a15, .ref a16, .int 5]))]) [0] rfl
  have hD9 := hD.sub (ws' := [(h0, .inr (7, [.ref a0, .int v1, .ref a2, .ref a3, .int v4, .int v5, .ref a6, .ref a7, .ref a8, .int v9, .int v10, .ref a11, .ref a12, .int 0, .ref a14, .ref a15, .ref a16, .int 5]))]) [0] (by decide) rfl
  exact W.iret (v := (-1)) hx hb hr (fun t ht hW => ⟨⟨(-1), (), rfl, rfl, by rw [ht]; exact hP9, hD9⟩, hS.F ht⟩) hS.2.2 dX7_part_12

set_option maxHeartbeats 4000000 in
set_option maxRecDepth 100000 in
theorem c_X7_sure (l : Launch) (dC : Nat → ClassId) (dI : Nat → Nat → Nat) (h0 : Nat) (a0 : Nat) (v1 : Int32) (a2 : Nat) (a3 : Nat) (v4 : Int32) (v5 : Int32) (a6 : Nat) (a7 : Nat) (a8 : Nat) (v9 : Int32) (v10 : Int32) (a11 : Nat) (a12 : Nat) (a14 : Nat) (a15 : Nat) (a16 : Nat) (v17 : Int32) (p0 : Int32) (sz : Nat) : Met l yX7_sure wsX7_sure ({ frames := 1, cells := 0, slots := 0, locals := 21 }) (va_Pc [.ref h0, .int p0] (fun U => U.heap.size = sz ∧ va_P (dC, dI) vwCl [(h0, .inr (7, [.ref a0, .int v1, .ref a2, .ref a3, .int v4, .int v5, .ref a6, .ref a7, .ref a8, .int v9, .int v10, .ref a11, .ref a12, .int 0, .ref a14, .ref a15, .ref a16, .int v17]))] U.heap ∧ va_K (dC, dI) vwCl [] U ∧ va_D (fun _ => True) [(h0, .inr (7, [.ref a0, .int v1, .ref a2, .ref a3, .int v4, .int v5, .ref a6, .ref a7, .ref a8, .int v9, .int v10, .ref a11, .ref a12, .int 0, .ref a14, .ref a15, .ref a16, .int v17]))])) (va_Qi (fun (r : Int32) (_ : Unit) => r = (-1)) (fun (_ : Unit) (t : State) => va_P (dC, dI) vwCl [(h0, .inr (7, [.ref a0, .int v1, .ref a2, .ref a3, .int v4, .int v5, .ref a6, .ref a7, .ref a8, .int v9, .int v10, .ref a11, .ref a12, .int 0, .ref a14, .ref a15, .ref a16, .int 5]))] t.heap ∧ va_D (va_A [(h0, .inr (7, [.ref a0, .int v1, .ref a2, .ref a3, .int v4, .int v5, .ref a6, .ref a7, .ref a8, .int v9, .int v10, .ref a11, .ref a12, .int 0, .ref a14, .ref a15, .ref a16, .int v17]))] sz) [(h0, .inr (7, [.ref a0, .int v1, .ref a2, .ref a3, .int v4, .int v5, .ref a6, .ref a7, .ref a8, .int v9, .int v10, .ref a11, .ref a12, .int 0, .ref a14, .ref a15, .ref a16, .int 5]))]) (va_A [(h0, .inr (7, [.ref a0, .int v1, .ref a2, .ref a3, .int v4, .int v5, .ref a6, .ref a7, .ref a8, .int v9, .int v10, .ref a11, .ref a12, .int 0, .ref a14, .ref a15, .ref a16, .int v17]))] sz)) 0 0 (va_A [(h0, .inr (7, [.ref a0, .int v1, .ref a2, .ref a3, .int v4, .int v5, .ref a6, .ref a7, .ref a8, .int v9, .int v10, .ref a11, .ref a12, .int 0, .ref a14, .ref a15, .ref a16, .int v17]))] sz) := by
  refine Met.ofW (cc := cX7_sure) (maxL := 3) (ret := (some .int)) (by decide) rfl ?_
  intro p e s m args below meth c s₁ B hml hv
  obtain ⟨rfl, hsz, hP, hK, hD0⟩ := hv
  have hx := B.exec
  have hb := B.bytes
  have hr := B.returns
  have hts := atoms_spec (ws := wsX7_sure) B.pre
  have hown : s.vm.findClass RX7 = some m.cls := findClass_of_methodNamed B.named
  have hlocks := B.notSynchronized
  subst hsz
  have hD := hD0.self (sz := s.heap.size)
  generalize hAe : va_A [(h0, .inr (7, [.ref a0, .int v1, .ref a2, .ref a3, .int v4, .int v5, .ref a6, .ref a7, .ref a8, .int v9, .int v10, .ref a11, .ref a12, .int 0, .ref a14, .ref a15, .ref a16, .int v17]))] s.heap.size = A at hD ⊢
  have hA : ∀ q : Nat, s.heap.size ≤ q → A q := fun q h => by rw [← hAe]; exact Or.inr h
  have hS : va_S A s.heap s.heap [] := va_S.rf
  replace hP : va_P (dC, dI) vwCl [(h0, .inr (7, [.ref a0, .int v1, .ref a2, .ref a3, .int v4, .int v5, .ref a6, .ref a7, .ref a8, .int v9, .int v10, .ref a11, .ref a12, .int 0, .ref a14, .ref a15, .ref a16, .int v17]))] s.heap := hP
  have hl := lv_entry ([.ref h0, .int p0]) (n := 3) (Nat.le_of_ble_eq_true rfl)
  rw [lg_entry_eq]
  generalize (lg_sl ([.ref h0, .int p0]) ++ List.replicate (3 - (lg_sl ([.ref h0, .int p0])).length) Slot.unset).toArray = ls at hl ⊢
  replace hl : lv_has ls 3 [(0, .ref h0), (1, .int p0)] := hl
  refine lv_aload_n hx hb dX7_sure_0 rfl (lv_at hl 0 rfl) ?_
  have hPc := hP.sub (ws' := [(h0, .inr (7, [.ref a0, .int v1, .ref a2, .ref a3, .int v4, .int v5, .ref a6, .ref a7, .ref a8, .int v9, .int v10, .ref a11, .ref a12, .int 0, .ref a14, .ref a15, .ref a16, .int v17]))]) [0] rfl
  have hKc := hK.sub (tys' := []) [] rfl
  refine vp_callSi (W.runV (As := []) (rest := []) ⟨hx, hb, hml, hown, hts⟩ (c_X7_canPart l dC dI h0 a0 v1 a2 a3 v4 v5 a6 a7 a8 v9 v10 a11 a12 a14 a15 a16 v17) (cwV 0 hts gX7_sure_X7_canPart rfl rfl rfl (by decide +kernel) ⟨Nat.le_of_ble_eq_true rfl, Nat.le_of_ble_eq_true rfl⟩) ⟨fun a U g mk q => by obtain ⟨q0, qP, qK⟩ := q; exact ⟨q0, qP, va_K.moved (u := U) (U := U.calling g mk a) (Vm.Alike.refl U.vm) qK⟩, va_recv hK hP (ci := 7) (q0 := 0) rfl rfl, fun U hU hW => ⟨rfl, by rw [hU]; exact hPc, va_K.moved hW.alike hKc⟩⟩ rfl rfl hl.1 rfl (lv_room (Nat.le_of_ble_eq_true rfl)) dX7_sure_1 ⟨Nat.le_of_ble_eq_true rfl, Nat.le_of_ble_eq_true rfl⟩) (fun r_1 hw_1 => ?_)
  obtain rfl : 0 = r_1 := Eq.symm hw_1
  refine lv_if_ne (tgt := 13) hx hb dX7_sure_4 (by decide) (fun c_4 => ?_) (fun c_4 => ?_)
  · exact absurd (by decide) c_4
  refine lv_aload_n hx hb dX7_sure_7 rfl (lv_at hl 0 rfl) ?_
  refine lv_iconst (v := 5) hx hb dX7_sure_8 (by decide) ?_
  have hPc := hP.sub (ws' := [(h0, .inr (7, [.ref a0, .int v1, .ref a2, .ref a3, .int v4, .int v5, .ref a6, .ref a7, .ref a8, .int v9, .int v10, .ref a11, .ref a12, .int 0, .ref a14, .ref a15, .ref a16, .int v17]))]) [0] rfl
  have hDc := hD.sub (ws' := [(h0, .inr (7, [.ref a0, .int v1, .ref a2, .ref a3, .int v4, .int v5, .ref a6, .ref a7, .ref a8, .int v9, .int v10, .ref a11, .ref a12, .int 0, .ref a14, .ref a15, .ref a16, .int v17]))]) [0] (by decide) rfl
  have hKc := hK.sub (tys' := []) [] rfl
  have hFc := va_free (wc := [(h0, .inr (7, [.ref a0, .int v1, .ref a2, .ref a3, .int v4, .int v5, .ref a6, .ref a7, .ref a8, .int v9, .int v10, .ref a11, .ref a12, .int 0, .ref a14, .ref a15, .ref a16, .int v17]))]) hD hS hA [0] rfl
  refine va_calli (va_runV (As := [.int 5]) (rest := []) ⟨hx, hb, hml, hown, hts⟩ (c_X7_refuse l dC dI h0 a0 v1 a2 a3 v4 v5 a6 a7 a8 v9 v10 a11 a12 0 a14 a15 a16 v17 5 s.heap.size) (cwV 1 hts gX7_sure_X7_refuse rfl rfl rfl (by decide +kernel) ⟨Nat.le_of_ble_eq_true rfl, Nat.le_of_ble_eq_true rfl⟩) ⟨fun a U g mk q => by obtain ⟨q0, q1, qP, qK, qD⟩ := q; exact ⟨q0, q1, qP, va_K.moved (u := U) (U := U.calling g mk a) (Vm.Alike.refl U.vm) qK, qD⟩, va_recv hK hP (ci := 7) (q0 := 0) rfl rfl, fun U hU hW => ⟨rfl, by rw [hU], by rw [hU]; exact hPc, va_K.moved hW.alike hKc, hDc.weaken (fun _ _ _ _ => trivial)⟩⟩ rfl rfl hl.1 rfl (lv_room (Nat.le_of_ble_eq_true rfl)) dX7_sure_9 ⟨Nat.le_of_ble_eq_true rfl, Nat.le_of_ble_eq_true rfl⟩) hS (fun q _ h => hFc q h) hFc (fun r_9 u t H1 locs ht hvm hw_9 hB hz1 hk1 hS => ?_)
  obtain ⟨hP1, hD1⟩ := hB
  rw [ht] at hP1
  obtain ⟨hP, hD⟩ := va_join (wr := []) (w1 := [(h0, .inr (7, [.ref a0, .int v1, .ref a2, .ref a3, .int v4, .int v5, .ref a6, .ref a7, .ref a8, .int v9, .int v10, .ref a11, .ref a12, .int 0, .ref a14, .ref a15, .ref a16, .int 5]))]) hP hD [0] [] rfl rfl (by decide) (by decide) hk1 hFc hP1 hD1
  generalize H1 = H at hP hS ⊢
  replace hP : va_P (dC, dI) vwCl [(h0, .inr (7, [.ref a0, .int v1, .ref a2, .ref a3, .int v4, .int v5, .ref a6, .ref a7, .ref a8, .int v9, .int v10, .ref a11, .ref a12, .int 0, .ref a14, .ref a15, .ref a16, .int 5]))] H := hP
  replace hD : va_D A [(h0, .inr (7, [.ref a0, .int v1, .ref a2, .ref a3, .int v4, .int v5, .ref a6, .ref a7, .ref a8, .int v9, .int v10, .ref a11, .ref a12, .int 0, .ref a14, .ref a15, .ref a16, .int 5]))] := hD
  obtain rfl : (-1) = r_9 := Eq.symm hw_9
  have hP9 := hP.sub (ws' := [(h0, .inr (7, [.ref a0, .int v1, .ref a2, .ref a3, .int v4, .int v5, .ref a6, .ref a7, .ref a8, .int v9, .int v10, .ref a11, .ref a12, .int 0, .ref a14, .ref a15, .ref a16, .int 5]))]) [0] rfl
  have hD9 := hD.sub (ws' := [(h0, .inr (7, [.ref a0, .int v1, .ref a2, .ref a3, .int v4, .int v5, .ref a6, .ref a7, .ref a8, .int v9, .int v10, .ref a11, .ref a12, .int 0, .ref a14, .ref a15, .ref a16, .int 5]))]) [0] (by decide) rfl
  exact W.iret (v := (-1)) hx hb hr (fun t ht hW => ⟨⟨(-1), (), rfl, rfl, by rw [ht]; exact hP9, hD9⟩, hS.F ht⟩) hS.2.2 dX7_sure_12

set_option maxHeartbeats 4000000 in
set_option maxRecDepth 100000 in
theorem c_X7_fixed (l : Launch) (dC : Nat → ClassId) (dI : Nat → Nat → Nat) (h0 : Nat) (a0 : Nat) (v1 : Int32) (a2 : Nat) (a3 : Nat) (v4 : Int32) (v5 : Int32) (a6 : Nat) (a7 : Nat) (a8 : Nat) (v9 : Int32) (v10 : Int32) (a11 : Nat) (a12 : Nat) (a14 : Nat) (a15 : Nat) (a16 : Nat) (v17 : Int32) (sz : Nat) : Met l yX7_fixed wsX7_fixed ({ frames := 1, cells := 0, slots := 0, locals := 21 }) (va_Pc [.ref h0] (fun U => U.heap.size = sz ∧ va_P (dC, dI) vwCl [(h0, .inr (7, [.ref a0, .int v1, .ref a2, .ref a3, .int v4, .int v5, .ref a6, .ref a7, .ref a8, .int v9, .int v10, .ref a11, .ref a12, .int 0, .ref a14, .ref a15, .ref a16, .int v17]))] U.heap ∧ va_K (dC, dI) vwCl [] U ∧ va_D (fun _ => True) [(h0, .inr (7, [.ref a0, .int v1, .ref a2, .ref a3, .int v4, .int v5, .ref a6, .ref a7, .ref a8, .int v9, .int v10, .ref a11, .ref a12, .int 0, .ref a14, .ref a15, .ref a16, .int v17]))])) (va_Qi (fun (r : Int32) (_ : Unit) => r = (-1)) (fun (_ : Unit) (t : State) => va_P (dC, dI) vwCl [(h0, .inr (7, [.ref a0, .int v1, .ref a2, .ref a3, .int v4, .int v5, .ref a6, .ref a7, .ref a8, .int v9, .int v10, .ref a11, .ref a12, .int 0, .ref a14, .ref a15, .ref a16, .int 5]))] t.heap ∧ va_D (va_A [(h0, .inr (7, [.ref a0, .int v1, .ref a2, .ref a3, .int v4, .int v5, .ref a6, .ref a7, .ref a8, .int v9, .int v10, .ref a11, .ref a12, .int 0, .ref a14, .ref a15, .ref a16, .int v17]))] sz) [(h0, .inr (7, [.ref a0, .int v1, .ref a2, .ref a3, .int v4, .int v5, .ref a6, .ref a7, .ref a8, .int v9, .int v10, .ref a11, .ref a12, .int 0, .ref a14, .ref a15, .ref a16, .int 5]))]) (va_A [(h0, .inr (7, [.ref a0, .int v1, .ref a2, .ref a3, .int v4, .int v5, .ref a6, .ref a7, .ref a8, .int v9, .int v10, .ref a11, .ref a12, .int 0, .ref a14, .ref a15, .ref a16, .int v17]))] sz)) 0 0 (va_A [(h0, .inr (7, [.ref a0, .int v1, .ref a2, .ref a3, .int v4, .int v5, .ref a6, .ref a7, .ref a8, .int v9, .int v10, .ref a11, .ref a12, .int 0, .ref a14, .ref a15, .ref a16, .int v17]))] sz) := by
  refine Met.ofW (cc := cX7_fixed) (maxL := 1) (ret := (some .int)) (by decide) rfl ?_
  intro p e s m args below meth c s₁ B hml hv
  obtain ⟨rfl, hsz, hP, hK, hD0⟩ := hv
  have hx := B.exec
  have hb := B.bytes
  have hr := B.returns
  have hts := atoms_spec (ws := wsX7_fixed) B.pre
  have hown : s.vm.findClass RX7 = some m.cls := findClass_of_methodNamed B.named
  have hlocks := B.notSynchronized
  subst hsz
  have hD := hD0.self (sz := s.heap.size)
  generalize hAe : va_A [(h0, .inr (7, [.ref a0, .int v1, .ref a2, .ref a3, .int v4, .int v5, .ref a6, .ref a7, .ref a8, .int v9, .int v10, .ref a11, .ref a12, .int 0, .ref a14, .ref a15, .ref a16, .int v17]))] s.heap.size = A at hD ⊢
  have hA : ∀ q : Nat, s.heap.size ≤ q → A q := fun q h => by rw [← hAe]; exact Or.inr h
  have hS : va_S A s.heap s.heap [] := va_S.rf
  replace hP : va_P (dC, dI) vwCl [(h0, .inr (7, [.ref a0, .int v1, .ref a2, .ref a3, .int v4, .int v5, .ref a6, .ref a7, .ref a8, .int v9, .int v10, .ref a11, .ref a12, .int 0, .ref a14, .ref a15, .ref a16, .int v17]))] s.heap := hP
  have hl := lv_entry ([.ref h0]) (n := 1) (Nat.le_of_ble_eq_true rfl)
  rw [lg_entry_eq]
  generalize (lg_sl ([.ref h0]) ++ List.replicate (1 - (lg_sl ([.ref h0])).length) Slot.unset).toArray = ls at hl ⊢
  replace hl : lv_has ls 1 [(0, .ref h0)] := hl
  refine lv_aload_n hx hb dX7_fixed_0 rfl (lv_at hl 0 rfl) ?_
  have hPc := hP.sub (ws' := [(h0, .inr (7, [.ref a0, .int v1, .ref a2, .ref a3, .int v4, .int v5, .ref a6, .ref a7, .ref a8, .int v9, .int v10, .ref a11, .ref a12, .int 0, .ref a14, .ref a15, .ref a16, .int v17]))]) [0] rfl
  have hKc := hK.sub (tys' := []) [] rfl
  refine vp_callSi (W.runV (As := []) (rest := []) ⟨hx, hb, hml, hown, hts⟩ (c_X7_canPart l dC dI h0 a0 v1 a2 a3 v4 v5 a6 a7 a8 v9 v10 a11 a12 a14 a15 a16 v17) (cwV 0 hts gX7_fixed_X7_canPart rfl rfl rfl (by decide +kernel) ⟨Nat.le_of_ble_eq_true rfl, Nat.le_of_ble_eq_true rfl⟩) ⟨fun a U g mk q => by obtain ⟨q0, qP, qK⟩ := q; exact ⟨q0, qP, va_K.moved (u := U) (U := U.calling g mk a) (Vm.Alike.refl U.vm) qK⟩, va_recv hK hP (ci := 7) (q0 := 0) rfl rfl, fun U hU hW => ⟨rfl, by rw [hU]; exact hPc, va_K.moved hW.alike hKc⟩⟩ rfl rfl hl.1 rfl (lv_room (Nat.le_of_ble_eq_true rfl)) dX7_fixed_1 ⟨Nat.le_of_ble_eq_true rfl, Nat.le_of_ble_eq_true rfl⟩) (fun r_1 hw_1 => ?_)
  obtain rfl : 0 = r_1 := Eq.symm hw_1
  refine lv_if_ne (tgt := 13) hx hb dX7_fixed_4 (by decide) (fun c_4 => ?_) (fun c_4 => ?_)
  · exact absurd (by decide) c_4
  refine lv_aload_n hx hb dX7_fixed_7 rfl (lv_at hl 0 rfl) ?_
  refine lv_iconst (v := 5) hx hb dX7_fixed_8 (by decide) ?_
  have hPc := hP.sub (ws' := [(h0, .inr (7, [.ref a0, .int v1, .ref a2, .ref a3, .int v4, .int v5, .ref a6, .ref a7, .ref a8, .int v9, .int v10, .ref a11, .ref a12, .int 0, .ref a14, .ref a15, .ref a16, .int v17]))]) [0] rfl
  have hDc := hD.sub (ws' := [(h0, .inr (7, [.ref a0, .int v1, .ref a2, .ref a3, .int v4, .int v5, .ref a6, .ref a7, .ref a8, .int v9, .int v10, .ref a11, .ref a12, .int 0, .ref a14, .ref a15, .ref a16, .int v17]))]) [0] (by decide) rfl
  have hKc := hK.sub (tys' := []) [] rfl
  have hFc := va_free (wc := [(h0, .inr (7, [.ref a0, .int v1, .ref a2, .ref a3, .int v4, .int v5, .ref a6, .ref a7, .ref a8, .int v9, .int v10, .ref a11, .ref a12, .int 0, .ref a14, .ref a15, .ref a16, .int v17]))]) hD hS hA [0] rfl
  refine va_calli (va_runV (As := [.int 5]) (rest := []) ⟨hx, hb, hml, hown, hts⟩ (c_X7_refuse l dC dI h0 a0 v1 a2 a3 v4 v5 a6 a7 a8 v9 v10 a11 a12 0 a14 a15 a16 v17 5 s.heap.size) (cwV 1 hts gX7_fixed_X7_refuse rfl rfl rfl (by decide +kernel) ⟨Nat.le_of_ble_eq_true rfl, Nat.le_of_ble_eq_true rfl⟩) ⟨fun a U g mk q => by obtain ⟨q0, q1, qP, qK, qD⟩ := q; exact ⟨q0, q1, qP, va_K.moved (u := U) (U := U.calling g mk a) (Vm.Alike.refl U.vm) qK, qD⟩, va_recv hK hP (ci := 7) (q0 := 0) rfl rfl, fun U hU hW => ⟨rfl, by rw [hU], by rw [hU]; exact hPc, va_K.moved hW.alike hKc, hDc.weaken (fun _ _ _ _ => trivial)⟩⟩ rfl rfl hl.1 rfl (lv_room (Nat.le_of_ble_eq_true rfl)) dX7_fixed_9 ⟨Nat.le_of_ble_eq_true rfl, Nat.le_of_ble_eq_true rfl⟩) hS (fun q _ h => hFc q h) hFc (fun r_9 u t H1 locs ht hvm hw_9 hB hz1 hk1 hS => ?_)
  obtain ⟨hP1, hD1⟩ := hB
  rw [ht] at hP1
  obtain ⟨hP, hD⟩ := va_join (wr := []) (w1 := [(h0, .inr (7, [.ref a0, .int v1, .ref a2, .ref a3, .int v4, .int v5, .ref a6, .ref a7, .ref a8, .int v9, .int v10, .ref a11, .ref a12, .int 0, .ref a14, .ref a15, .ref a16, .int 5]))]) hP hD [0] [] rfl rfl (by decide) (by decide) hk1 hFc hP1 hD1
  generalize H1 = H at hP hS ⊢
  replace hP : va_P (dC, dI) vwCl [(h0, .inr (7, [.ref a0, .int v1, .ref a2, .ref a3, .int v4, .int v5, .ref a6, .ref a7, .ref a8, .int v9, .int v10, .ref a11, .ref a12, .int 0, .ref a14, .ref a15, .ref a16, .int 5]))] H := hP
  replace hD : va_D A [(h0, .inr (7, [.ref a0, .int v1, .ref a2, .ref a3, .int v4, .int v5, .ref a6, .ref a7, .ref a8, .int v9, .int v10, .ref a11, .ref a12, .int 0, .ref a14, .ref a15, .ref a16, .int 5]))] := hD
  obtain rfl : (-1) = r_9 := Eq.symm hw_9
  have hP9 := hP.sub (ws' := [(h0, .inr (7, [.ref a0, .int v1, .ref a2, .ref a3, .int v4, .int v5, .ref a6, .ref a7, .ref a8, .int v9, .int v10, .ref a11, .ref a12, .int 0, .ref a14, .ref a15, .ref a16, .int 5]))]) [0] rfl
  have hD9 := hD.sub (ws' := [(h0, .inr (7, [.ref a0, .int v1, .ref a2, .ref a3, .int v4, .int v5, .ref a6, .ref a7, .ref a8, .int v9, .int v10, .ref a11, .ref a12, .int 0, .ref a14, .ref a15, .ref a16, .int 5]))]) [0] (by decide) rfl
  exact W.iret (v := (-1)) hx hb hr (fun t ht hW => ⟨⟨(-1), (), rfl, rfl, by rw [ht]; exact hP9, hD9⟩, hS.F ht⟩) hS.2.2 dX7_fixed_12

set_option maxHeartbeats 4000000 in
set_option maxRecDepth 100000 in
theorem c_X7_whole (l : Launch) (dC : Nat → ClassId) (dI : Nat → Nat → Nat) (h0 : Nat) (a0 : Nat) (v1 : Int32) (a2 : Nat) (a3 : Nat) (v4 : Int32) (v5 : Int32) (a6 : Nat) (a7 : Nat) (a8 : Nat) (v9 : Int32) (v10 : Int32) (a11 : Nat) (a12 : Nat) (a14 : Nat) (a15 : Nat) (a16 : Nat) (v17 : Int32) (p0 : Int32) (sz : Nat) : Met l yX7_whole wsX7_whole ({ frames := 1, cells := 0, slots := 0, locals := 21 }) (va_Pc [.ref h0, .int p0] (fun U => U.heap.size = sz ∧ va_P (dC, dI) vwCl [(h0, .inr (7, [.ref a0, .int v1, .ref a2, .ref a3, .int v4, .int v5, .ref a6, .ref a7, .ref a8, .int v9, .int v10, .ref a11, .ref a12, .int 0, .ref a14, .ref a15, .ref a16, .int v17]))] U.heap ∧ va_K (dC, dI) vwCl [] U ∧ va_D (fun _ => True) [(h0, .inr (7, [.ref a0, .int v1, .ref a2, .ref a3, .int v4, .int v5, .ref a6, .ref a7, .ref a8, .int v9, .int v10, .ref a11, .ref a12, .int 0, .ref a14, .ref a15, .ref a16, .int v17]))])) (va_Qi (fun (r : Int32) (_ : Unit) => r = (-1)) (fun (_ : Unit) (t : State) => va_P (dC, dI) vwCl [(h0, .inr (7, [.ref a0, .int v1, .ref a2, .ref a3, .int v4, .int v5, .ref a6, .ref a7, .ref a8, .int v9, .int v10, .ref a11, .ref a12, .int 0, .ref a14, .ref a15, .ref a16, .int 5]))] t.heap ∧ va_D (va_A [(h0, .inr (7, [.ref a0, .int v1, .ref a2, .ref a3, .int v4, .int v5, .ref a6, .ref a7, .ref a8, .int v9, .int v10, .ref a11, .ref a12, .int 0, .ref a14, .ref a15, .ref a16, .int v17]))] sz) [(h0, .inr (7, [.ref a0, .int v1, .ref a2, .ref a3, .int v4, .int v5, .ref a6, .ref a7, .ref a8, .int v9, .int v10, .ref a11, .ref a12, .int 0, .ref a14, .ref a15, .ref a16, .int 5]))]) (va_A [(h0, .inr (7, [.ref a0, .int v1, .ref a2, .ref a3, .int v4, .int v5, .ref a6, .ref a7, .ref a8, .int v9, .int v10, .ref a11, .ref a12, .int 0, .ref a14, .ref a15, .ref a16, .int v17]))] sz)) 0 0 (va_A [(h0, .inr (7, [.ref a0, .int v1, .ref a2, .ref a3, .int v4, .int v5, .ref a6, .ref a7, .ref a8, .int v9, .int v10, .ref a11, .ref a12, .int 0, .ref a14, .ref a15, .ref a16, .int v17]))] sz) := by
  refine Met.ofW (cc := cX7_whole) (maxL := 4) (ret := (some .int)) (by decide) rfl ?_
  intro p e s m args below meth c s₁ B hml hv
  obtain ⟨rfl, hsz, hP, hK, hD0⟩ := hv
  have hx := B.exec
  have hb := B.bytes
  have hr := B.returns
  have hts := atoms_spec (ws := wsX7_whole) B.pre
  have hown : s.vm.findClass RX7 = some m.cls := findClass_of_methodNamed B.named
  have hlocks := B.notSynchronized
  subst hsz
  have hD := hD0.self (sz := s.heap.size)
  generalize hAe : va_A [(h0, .inr (7, [.ref a0, .int v1, .ref a2, .ref a3, .int v4, .int v5, .ref a6, .ref a7, .ref a8, .int v9, .int v10, .ref a11, .ref a12, .int 0, .ref a14, .ref a15, .ref a16, .int v17]))] s.heap.size = A at hD ⊢
  have hA : ∀ q : Nat, s.heap.size ≤ q → A q := fun q h => by rw [← hAe]; exact Or.inr h
  have hS : va_S A s.heap s.heap [] := va_S.rf
  replace hP : va_P (dC, dI) vwCl [(h0, .inr (7, [.ref a0, .int v1, .ref a2, .ref a3, .int v4, .int v5, .ref a6, .ref a7, .ref a8, .int v9, .int v10, .ref a11, .ref a12, .int 0, .ref a14, .ref a15, .ref a16, .int v17]))] s.heap := hP
  have hl := lv_entry ([.ref h0, .int p0]) (n := 4) (Nat.le_of_ble_eq_true rfl)
  rw [lg_entry_eq]
  generalize (lg_sl ([.ref h0, .int p0]) ++ List.replicate (4 - (lg_sl ([.ref h0, .int p0])).length) Slot.unset).toArray = ls at hl ⊢
  replace hl : lv_has ls 4 [(0, .ref h0), (1, .int p0)] := hl
  refine lv_aload_n hx hb dX7_whole_0 rfl (lv_at hl 0 rfl) ?_
  have hPc := hP.sub (ws' := [(h0, .inr (7, [.ref a0, .int v1, .ref a2, .ref a3, .int v4, .int v5, .ref a6, .ref a7, .ref a8, .int v9, .int v10, .ref a11, .ref a12, .int 0, .ref a14, .ref a15, .ref a16, .int v17]))]) [0] rfl
  have hKc := hK.sub (tys' := []) [] rfl
  refine vp_callSi (W.runV (As := []) (rest := []) ⟨hx, hb, hml, hown, hts⟩ (c_X7_canPart l dC dI h0 a0 v1 a2 a3 v4 v5 a6 a7 a8 v9 v10 a11 a12 a14 a15 a16 v17) (cwV 0 hts gX7_whole_X7_canPart rfl rfl rfl (by decide +kernel) ⟨Nat.le_of_ble_eq_true rfl, Nat.le_of_ble_eq_true rfl⟩) ⟨fun a U g mk q => by obtain ⟨q0, qP, qK⟩ := q; exact ⟨q0, qP, va_K.moved (u := U) (U := U.calling g mk a) (Vm.Alike.refl U.vm) qK⟩, va_recv hK hP (ci := 7) (q0 := 0) rfl rfl, fun U hU hW => ⟨rfl, by rw [hU]; exact hPc, va_K.moved hW.alike hKc⟩⟩ rfl rfl hl.1 rfl (lv_room (Nat.le_of_ble_eq_true rfl)) dX7_whole_1 ⟨Nat.le_of_ble_eq_true rfl, Nat.le_of_ble_eq_true rfl⟩) (fun r_1 hw_1 => ?_)
  obtain rfl : 0 = r_1 := Eq.symm hw_1
  refine lv_if_ne (tgt := 13) hx hb dX7_whole_4 (by decide) (fun c_4 => ?_) (fun c_4 => ?_)
  · exact absurd (by decide) c_4
  refine lv_aload_n hx hb dX7_whole_7 rfl (lv_at hl 0 rfl) ?_
  refine lv_iconst (v := 5) hx hb dX7_whole_8 (by decide) ?_
  have hPc := hP.sub (ws' := [(h0, .inr (7, [.ref a0, .int v1, .ref a2, .ref a3, .int v4, .int v5, .ref a6, .ref a7, .ref a8, .int v9, .int v10, .ref a11, .ref a12, .int 0, .ref a14, .ref a15, .ref a16, .int v17]))]) [0] rfl
  have hDc := hD.sub (ws' := [(h0, .inr (7, [.ref a0, .int v1, .ref a2, .ref a3, .int v4, .int v5, .ref a6, .ref a7, .ref a8, .int v9, .int v10, .ref a11, .ref a12, .int 0, .ref a14, .ref a15, .ref a16, .int v17]))]) [0] (by decide) rfl
  have hKc := hK.sub (tys' := []) [] rfl
  have hFc := va_free (wc := [(h0, .inr (7, [.ref a0, .int v1, .ref a2, .ref a3, .int v4, .int v5, .ref a6, .ref a7, .ref a8, .int v9, .int v10, .ref a11, .ref a12, .int 0, .ref a14, .ref a15, .ref a16, .int v17]))]) hD hS hA [0] rfl
  refine va_calli (va_runV (As := [.int 5]) (rest := []) ⟨hx, hb, hml, hown, hts⟩ (c_X7_refuse l dC dI h0 a0 v1 a2 a3 v4 v5 a6 a7 a8 v9 v10 a11 a12 0 a14 a15 a16 v17 5 s.heap.size) (cwV 1 hts gX7_whole_X7_refuse rfl rfl rfl (by decide +kernel) ⟨Nat.le_of_ble_eq_true rfl, Nat.le_of_ble_eq_true rfl⟩) ⟨fun a U g mk q => by obtain ⟨q0, q1, qP, qK, qD⟩ := q; exact ⟨q0, q1, qP, va_K.moved (u := U) (U := U.calling g mk a) (Vm.Alike.refl U.vm) qK, qD⟩, va_recv hK hP (ci := 7) (q0 := 0) rfl rfl, fun U hU hW => ⟨rfl, by rw [hU], by rw [hU]; exact hPc, va_K.moved hW.alike hKc, hDc.weaken (fun _ _ _ _ => trivial)⟩⟩ rfl rfl hl.1 rfl (lv_room (Nat.le_of_ble_eq_true rfl)) dX7_whole_9 ⟨Nat.le_of_ble_eq_true rfl, Nat.le_of_ble_eq_true rfl⟩) hS (fun q _ h => hFc q h) hFc (fun r_9 u t H1 locs ht hvm hw_9 hB hz1 hk1 hS => ?_)
  obtain ⟨hP1, hD1⟩ := hB
  rw [ht] at hP1
  obtain ⟨hP, hD⟩ := va_join (wr := []) (w1 := [(h0, .inr (7, [.ref a0, .int v1, .ref a2, .ref a3, .int v4, .int v5, .ref a6, .ref a7, .ref a8, .int v9, .int v10, .ref a11, .ref a12, .int 0, .ref a14, .ref a15, .ref a16, .int 5]))]) hP hD [0] [] rfl rfl (by decide) (by decide) hk1 hFc hP1 hD1
  generalize H1 = H at hP hS ⊢
  replace hP : va_P (dC, dI) vwCl [(h0, .inr (7, [.ref a0, .int v1, .ref a2, .ref a3, .int v4, .int v5, .ref a6, .ref a7, .ref a8, .int v9, .int v10, .ref a11, .ref a12, .int 0, .ref a14, .ref a15, .ref a16, .int 5]))] H := hP
  replace hD : va_D A [(h0, .inr (7, [.ref a0, .int v1, .ref a2, .ref a3, .int v4, .int v5, .ref a6, .ref a7, .ref a8, .int v9, .int v10, .ref a11, .ref a12, .int 0, .ref a14, .ref a15, .ref a16, .int 5]))] := hD
  obtain rfl : (-1) = r_9 := Eq.symm hw_9
  have hP9 := hP.sub (ws' := [(h0, .inr (7, [.ref a0, .int v1, .ref a2, .ref a3, .int v4, .int v5, .ref a6, .ref a7, .ref a8, .int v9, .int v10, .ref a11, .ref a12, .int 0, .ref a14, .ref a15, .ref a16, .int 5]))]) [0] rfl
  have hD9 := hD.sub (ws' := [(h0, .inr (7, [.ref a0, .int v1, .ref a2, .ref a3, .int v4, .int v5, .ref a6, .ref a7, .ref a8, .int v9, .int v10, .ref a11, .ref a12, .int 0, .ref a14, .ref a15, .ref a16, .int 5]))]) [0] (by decide) rfl
  exact W.iret (v := (-1)) hx hb hr (fun t ht hW => ⟨⟨(-1), (), rfl, rfl, by rw [ht]; exact hP9, hD9⟩, hS.F ht⟩) hS.2.2 dX7_whole_12

set_option maxHeartbeats 4000000 in
set_option maxRecDepth 100000 in
theorem c_X7_tells (l : Launch) (dC : Nat → ClassId) (dI : Nat → Nat → Nat) (h0 : Nat) (a0 : Nat) (v1 : Int32) (a2 : Nat) (a3 : Nat) (v4 : Int32) (v5 : Int32) (a6 : Nat) (a7 : Nat) (a8 : Nat) (v9 : Int32) (v10 : Int32) (a11 : Nat) (a12 : Nat) (a14 : Nat) (a15 : Nat) (a16 : Nat) (v17 : Int32) (p0 : Int32) (p1 : Int32) (sz : Nat) : Met l yX7_tells wsX7_tells ({ frames := 1, cells := 0, slots := 0, locals := 21 }) (va_Pc [.ref h0, .int p0, .int p1] (fun U => U.heap.size = sz ∧ va_P (dC, dI) vwCl [(h0, .inr (7, [.ref a0, .int v1, .ref a2, .ref a3, .int v4, .int v5, .ref a6, .ref a7, .ref a8, .int v9, .int v10, .ref a11, .ref a12, .int 0, .ref a14, .ref a15, .ref a16, .int v17]))] U.heap ∧ va_K (dC, dI) vwCl [] U ∧ va_D (fun _ => True) [(h0, .inr (7, [.ref a0, .int v1, .ref a2, .ref a3, .int v4, .int v5, .ref a6, .ref a7, .ref a8, .int v9, .int v10, .ref a11, .ref a12, .int 0, .ref a14, .ref a15, .ref a16, .int v17]))])) (va_Qi (fun (r : Int32) (_ : Unit) => r = (-1)) (fun (_ : Unit) (t : State) => va_P (dC, dI) vwCl [(h0, .inr (7, [.ref a0, .int v1, .ref a2, .ref a3, .int v4, .int v5, .ref a6, .ref a7, .ref a8, .int v9, .int v10, .ref a11, .ref a12, .int 0, .ref a14, .ref a15, .ref a16, .int 5]))] t.heap ∧ va_D (va_A [(h0, .inr (7, [.ref a0, .int v1, .ref a2, .ref a3, .int v4, .int v5, .ref a6, .ref a7, .ref a8, .int v9, .int v10, .ref a11, .ref a12, .int 0, .ref a14, .ref a15, .ref a16, .int v17]))] sz) [(h0, .inr (7, [.ref a0, .int v1, .ref a2, .ref a3, .int v4, .int v5, .ref a6, .ref a7, .ref a8, .int v9, .int v10, .ref a11, .ref a12, .int 0, .ref a14, .ref a15, .ref a16, .int 5]))]) (va_A [(h0, .inr (7, [.ref a0, .int v1, .ref a2, .ref a3, .int v4, .int v5, .ref a6, .ref a7, .ref a8, .int v9, .int v10, .ref a11, .ref a12, .int 0, .ref a14, .ref a15, .ref a16, .int v17]))] sz)) 0 0 (va_A [(h0, .inr (7, [.ref a0, .int v1, .ref a2, .ref a3, .int v4, .int v5, .ref a6, .ref a7, .ref a8, .int v9, .int v10, .ref a11, .ref a12, .int 0, .ref a14, .ref a15, .ref a16, .int v17]))] sz) := by
  refine Met.ofW (cc := cX7_tells) (maxL := 3) (ret := (some .int)) (by decide) rfl ?_
  intro p e s m args below meth c s₁ B hml hv
  obtain ⟨rfl, hsz, hP, hK, hD0⟩ := hv
  have hx := B.exec
  have hb := B.bytes
  have hr := B.returns
  have hts := atoms_spec (ws := wsX7_tells) B.pre
  have hown : s.vm.findClass RX7 = some m.cls := findClass_of_methodNamed B.named
  have hlocks := B.notSynchronized
  subst hsz
  have hD := hD0.self (sz := s.heap.size)
  generalize hAe : va_A [(h0, .inr (7, [.ref a0, .int v1, .ref a2, .ref a3, .int v4, .int v5, .ref a6, .ref a7, .ref a8, .int v9, .int v10, .ref a11, .ref a12, .int 0, .ref a14, .ref a15, .ref a16, .int v17]))] s.heap.size = A at hD ⊢
  have hA : ∀ q : Nat, s.heap.size ≤ q → A q := fun q h => by rw [← hAe]; exact Or.inr h
  have hS : va_S A s.heap s.heap [] := va_S.rf
  replace hP : va_P (dC, dI) vwCl [(h0, .inr (7, [.ref a0, .int v1, .ref a2, .ref a3, .int v4, .int v5, .ref a6, .ref a7, .ref a8, .int v9, .int v10, .ref a11, .ref a12, .int 0, .ref a14, .ref a15, .ref a16, .int v17]))] s.heap := hP
  have hl := lv_entry ([.ref h0, .int p0, .int p1]) (n := 3) (Nat.le_of_ble_eq_true rfl)
  rw [lg_entry_eq]
  generalize (lg_sl ([.ref h0, .int p0, .int p1]) ++ List.replicate (3 - (lg_sl ([.ref h0, .int p0, .int p1])).length) Slot.unset).toArray = ls at hl ⊢
  replace hl : lv_has ls 3 [(0, .ref h0), (1, .int p0), (2, .int p1)] := hl
  refine lv_aload_n hx hb dX7_tells_0 rfl (lv_at hl 0 rfl) ?_
  have hPc := hP.sub (ws' := [(h0, .inr (7, [.ref a0, .int v1, .ref a2, .ref a3, .int v4, .int v5, .ref a6, .ref a7, .ref a8, .int v9, .int v10, .ref a11, .ref a12, .int 0, .ref a14, .ref a15, .ref a16, .int v17]))]) [0] rfl
  have hKc := hK.sub (tys' := []) [] rfl
  refine vp_callSi (W.runV (As := []) (rest := []) ⟨hx, hb, hml, hown, hts⟩ (c_X7_canPart l dC dI h0 a0 v1 a2 a3 v4 v5 a6 a7 a8 v9 v10 a11 a12 a14 a15 a16 v17) (cwV 0 hts gX7_tells_X7_canPart rfl rfl rfl (by decide +kernel) ⟨Nat.le_of_ble_eq_true rfl, Nat.le_of_ble_eq_true rfl⟩) ⟨fun a U g mk q => by obtain ⟨q0, qP, qK⟩ := q; exact ⟨q0, qP, va_K.moved (u := U) (U := U.calling g mk a) (Vm.Alike.refl U.vm) qK⟩, va_recv hK hP (ci := 7) (q0 := 0) rfl rfl, fun U hU hW => ⟨rfl, by rw [hU]; exact hPc, va_K.moved hW.alike hKc⟩⟩ rfl rfl hl.1 rfl (lv_room (Nat.le_of_ble_eq_true rfl)) dX7_tells_1 ⟨Nat.le_of_ble_eq_true rfl, Nat.le_of_ble_eq_true rfl⟩) (fun r_1 hw_1 => ?_)
  obtain rfl : 0 = r_1 := Eq.symm hw_1
  refine lv_if_ne (tgt := 13) hx hb dX7_tells_4 (by decide) (fun c_4 => ?_) (fun c_4 => ?_)
  · exact absurd (by decide) c_4
  refine lv_aload_n hx hb dX7_tells_7 rfl (lv_at hl 0 rfl) ?_
  refine lv_iconst (v := 5) hx hb dX7_tells_8 (by decide) ?_
  have hPc := hP.sub (ws' := [(h0, .inr (7, [.ref a0, .int v1, .ref a2, .ref a3, .int v4, .int v5, .ref a6, .ref a7, .ref a8, .int v9, .int v10, .ref a11, .ref a12, .int 0, .ref a14, .ref a15, .ref a16, .int v17]))]) [0] rfl
  have hDc := hD.sub (ws' := [(h0, .inr (7, [.ref a0, .int v1, .ref a2, .ref a3, .int v4, .int v5, .ref a6, .ref a7, .ref a8, .int v9, .int v10, .ref a11, .ref a12, .int 0, .ref a14, .ref a15, .ref a16, .int v17]))]) [0] (by decide) rfl
  have hKc := hK.sub (tys' := []) [] rfl
  have hFc := va_free (wc := [(h0, .inr (7, [.ref a0, .int v1, .ref a2, .ref a3, .int v4, .int v5, .ref a6, .ref a7, .ref a8, .int v9, .int v10, .ref a11, .ref a12, .int 0, .ref a14, .ref a15, .ref a16, .int v17]))]) hD hS hA [0] rfl
  refine va_calli (va_runV (As := [.int 5]) (rest := []) ⟨hx, hb, hml, hown, hts⟩ (c_X7_refuse l dC dI h0 a0 v1 a2 a3 v4 v5 a6 a7 a8 v9 v10 a11 a12 0 a14 a15 a16 v17 5 s.heap.size) (cwV 1 hts gX7_tells_X7_refuse rfl rfl rfl (by decide +kernel) ⟨Nat.le_of_ble_eq_true rfl, Nat.le_of_ble_eq_true rfl⟩) ⟨fun a U g mk q => by obtain ⟨q0, q1, qP, qK, qD⟩ := q; exact ⟨q0, q1, qP, va_K.moved (u := U) (U := U.calling g mk a) (Vm.Alike.refl U.vm) qK, qD⟩, va_recv hK hP (ci := 7) (q0 := 0) rfl rfl, fun U hU hW => ⟨rfl, by rw [hU], by rw [hU]; exact hPc, va_K.moved hW.alike hKc, hDc.weaken (fun _ _ _ _ => trivial)⟩⟩ rfl rfl hl.1 rfl (lv_room (Nat.le_of_ble_eq_true rfl)) dX7_tells_9 ⟨Nat.le_of_ble_eq_true rfl, Nat.le_of_ble_eq_true rfl⟩) hS (fun q _ h => hFc q h) hFc (fun r_9 u t H1 locs ht hvm hw_9 hB hz1 hk1 hS => ?_)
  obtain ⟨hP1, hD1⟩ := hB
  rw [ht] at hP1
  obtain ⟨hP, hD⟩ := va_join (wr := []) (w1 := [(h0, .inr (7, [.ref a0, .int v1, .ref a2, .ref a3, .int v4, .int v5, .ref a6, .ref a7, .ref a8, .int v9, .int v10, .ref a11, .ref a12, .int 0, .ref a14, .ref a15, .ref a16, .int 5]))]) hP hD [0] [] rfl rfl (by decide) (by decide) hk1 hFc hP1 hD1
  generalize H1 = H at hP hS ⊢
  replace hP : va_P (dC, dI) vwCl [(h0, .inr (7, [.ref a0, .int v1, .ref a2, .ref a3, .int v4, .int v5, .ref a6, .ref a7, .ref a8, .int v9, .int v10, .ref a11, .ref a12, .int 0, .ref a14, .ref a15, .ref a16, .int 5]))] H := hP
  replace hD : va_D A [(h0, .inr (7, [.ref a0, .int v1, .ref a2, .ref a3, .int v4, .int v5, .ref a6, .ref a7, .ref a8, .int v9, .int v10, .ref a11, .ref a12, .int 0, .ref a14, .ref a15, .ref a16, .int 5]))] := hD
  obtain rfl : (-1) = r_9 := Eq.symm hw_9
  have hP9 := hP.sub (ws' := [(h0, .inr (7, [.ref a0, .int v1, .ref a2, .ref a3, .int v4, .int v5, .ref a6, .ref a7, .ref a8, .int v9, .int v10, .ref a11, .ref a12, .int 0, .ref a14, .ref a15, .ref a16, .int 5]))]) [0] rfl
  have hD9 := hD.sub (ws' := [(h0, .inr (7, [.ref a0, .int v1, .ref a2, .ref a3, .int v4, .int v5, .ref a6, .ref a7, .ref a8, .int v9, .int v10, .ref a11, .ref a12, .int 0, .ref a14, .ref a15, .ref a16, .int 5]))]) [0] (by decide) rfl
  exact W.iret (v := (-1)) hx hb hr (fun t ht hW => ⟨⟨(-1), (), rfl, rfl, by rw [ht]; exact hP9, hD9⟩, hS.F ht⟩) hS.2.2 dX7_tells_12

set_option maxHeartbeats 4000000 in
set_option maxRecDepth 100000 in
theorem c_X7_told (l : Launch) (dC : Nat → ClassId) (dI : Nat → Nat → Nat) (h0 : Nat) (a0 : Nat) (v1 : Int32) (a2 : Nat) (a3 : Nat) (v4 : Int32) (v5 : Int32) (a6 : Nat) (a7 : Nat) (a8 : Nat) (v9 : Int32) (v10 : Int32) (a11 : Nat) (a12 : Nat) (v13 : Int32) (a14 : Nat) (a15 : Nat) (a16 : Nat) (v17 : Int32) (b0 : Nat) (p0 : Int32) : Met l yX7_told wsX7_told ({ frames := 0, cells := 0, slots := 0, locals := 0 }) (va_Pc [.ref h0, .int p0] (fun U => va_P (dC, dI) vwCl [(h0, .inr (7, [.ref a0, .int v1, .ref a2, .ref a3, .int v4, .int v5, .ref a6, .ref a7, .ref a8, .int v9, .int v10, .ref a11, .ref a12, .int v13, .ref a14, .ref a15, .ref a16, .int v17])), (a15, .inr (1, [.ref b0, .int 0, .int 0]))] U.heap ∧ va_K (dC, dI) vwCl [] U)) (vp_Si (fun r => r = (-1))) 0 0 (fun _ => False) := by
  refine Met.ofW (cc := cX7_told) (maxL := 2) (ret := (some .int)) (by decide) rfl ?_
  intro p e s m args below meth c s₁ B hml hv
  obtain ⟨rfl, hP, hK⟩ := hv
  have hx := B.exec
  have hb := B.bytes
  have hr := B.returns
  have hts := atoms_spec (ws := wsX7_told) B.pre
  have hown : s.vm.findClass RX7 = some m.cls := findClass_of_methodNamed B.named
  have hlocks := B.notSynchronized
  replace hP : va_P (dC, dI) vwCl [(h0, .inr (7, [.ref a0, .int v1, .ref a2, .ref a3, .int v4, .int v5, .ref a6, .ref a7, .ref a8, .int v9, .int v10, .ref a11, .ref a12, .int v13, .ref a14, .ref a15, .ref a16, .int v17])), (a15, .inr (1, [.ref b0, .int 0, .int 0]))] s.heap := hP
  have hl := lv_entry ([.ref h0, .int p0]) (n := 2) (Nat.le_of_ble_eq_true rfl)
  rw [lg_entry_eq]
  generalize (lg_sl ([.ref h0, .int p0]) ++ List.replicate (2 - (lg_sl ([.ref h0, .int p0])).length) Slot.unset).toArray = ls at hl ⊢
  replace hl : lv_has ls 2 [(0, .ref h0), (1, .int p0)] := hl
  have hi_X7 : ∀ w ∈ wsX70, w ∈ wsX7_told := by decide +kernel
  have k_f82 := hts (.fieldLink RX7 82 "TongueTeller" "latest" "LTongueTeller$Parting;") (by decide +kernel)
  have hi_X1 : ∀ w ∈ wsX10, w ∈ wsX7_told := by decide +kernel
  have k_f223 := hts (.fieldLink RX7 223 "TongueTeller$Parting" "size" "I") (by decide +kernel)
  refine lv_iload_n hx hb dX7_told_0 rfl (lv_at hl 1 rfl) ?_
  refine lv_if_lt (tgt := 27) hx hb dX7_told_1 (by decide) (fun c_1 => ?_) (fun c_1 => ?_)
  · refine lv_iconst (v := (-1)) hx hb dX7_told_27 (by decide) ?_
    exact W.iret (v := (-1)) hx hb hr (fun t ht hW => ⟨(-1), rfl, rfl, ht⟩) (fun _ h => absurd h List.not_mem_nil) dX7_told_28
  · refine lv_iload_n hx hb dX7_told_4 rfl (lv_at hl 1 rfl) ?_
    refine lv_aload_n hx hb dX7_told_5 rfl (lv_at hl 0 rfl) ?_
    refine va_get (D := (dC, dI)) (ci := 7) (v := .ref a15) (C := RX7) (T := TX7) (N := 18) hx hb hts hi_X7 hown hK hP 0 rfl rfl 15 (by decide) k_f82 (fun _ h9 => h9) rfl dX7_told_6 ?_
    refine va_get (D := (dC, dI)) (ci := 1) (v := .int 0) (C := RX1) (T := TX1) (N := 3) hx hb hts hi_X1 hown hK hP 1 rfl rfl 1 (by decide) k_f223 (fun _ h9 => h9) rfl dX7_told_9 ?_
    refine lv_icmp_ge (tgt := 27) hx hb dX7_told_12 (by decide) (fun c_12 => ?_) (fun c_12 => ?_)
    rotate_left
    · exact absurd (Int32.not_lt.mp c_1) c_12
    refine lv_iconst (v := (-1)) hx hb dX7_told_27 (by decide) ?_
    exact W.iret (v := (-1)) hx hb hr (fun t ht hW => ⟨(-1), rfl, rfl, ht⟩) (fun _ h => absurd h List.not_mem_nil) dX7_told_28

set_option maxHeartbeats 4000000 in
set_option maxRecDepth 100000 in
theorem c_X7_spans (l : Launch) (dC : Nat → ClassId) (dI : Nat → Nat → Nat) (h0 : Nat) (a0 : Nat) (v1 : Int32) (a2 : Nat) (a3 : Nat) (v4 : Int32) (v5 : Int32) (a6 : Nat) (a7 : Nat) (a8 : Nat) (v9 : Int32) (v10 : Int32) (a11 : Nat) (a12 : Nat) (v13 : Int32) (a14 : Nat) (a15 : Nat) (a16 : Nat) (v17 : Int32) (b0 : Nat) : Met l yX7_spans wsX7_spans ({ frames := 0, cells := 0, slots := 0, locals := 0 }) (va_Pc [.ref h0] (fun U => va_P (dC, dI) vwCl [(h0, .inr (7, [.ref a0, .int v1, .ref a2, .ref a3, .int v4, .int v5, .ref a6, .ref a7, .ref a8, .int v9, .int v10, .ref a11, .ref a12, .int v13, .ref a14, .ref a15, .ref a16, .int v17])), (a15, .inr (1, [.ref b0, .int 0, .int 0]))] U.heap ∧ va_K (dC, dI) vwCl [] U)) (vp_Si (fun r => r = (-1))) 0 0 (fun _ => False) := by
  refine Met.ofW (cc := cX7_spans) (maxL := 1) (ret := (some .int)) (by decide) rfl ?_
  intro p e s m args below meth c s₁ B hml hv
  obtain ⟨rfl, hP, hK⟩ := hv
  have hx := B.exec
  have hb := B.bytes
  have hr := B.returns
  have hts := atoms_spec (ws := wsX7_spans) B.pre
  have hown : s.vm.findClass RX7 = some m.cls := findClass_of_methodNamed B.named
  have hlocks := B.notSynchronized
  replace hP : va_P (dC, dI) vwCl [(h0, .inr (7, [.ref a0, .int v1, .ref a2, .ref a3, .int v4, .int v5, .ref a6, .ref a7, .ref a8, .int v9, .int v10, .ref a11, .ref a12, .int v13, .ref a14, .ref a15, .ref a16, .int v17])), (a15, .inr (1, [.ref b0, .int 0, .int 0]))] s.heap := hP
  have hl := lv_entry ([.ref h0]) (n := 1) (Nat.le_of_ble_eq_true rfl)
  rw [lg_entry_eq]
  generalize (lg_sl ([.ref h0]) ++ List.replicate (1 - (lg_sl ([.ref h0])).length) Slot.unset).toArray = ls at hl ⊢
  replace hl : lv_has ls 1 [(0, .ref h0)] := hl
  have hi_X7 : ∀ w ∈ wsX70, w ∈ wsX7_spans := by decide +kernel
  have k_f82 := hts (.fieldLink RX7 82 "TongueTeller" "latest" "LTongueTeller$Parting;") (by decide +kernel)
  have hi_X1 : ∀ w ∈ wsX10, w ∈ wsX7_spans := by decide +kernel
  have k_f227 := hts (.fieldLink RX7 227 "TongueTeller$Parting" "made" "Z") (by decide +kernel)
  refine lv_aload_n hx hb dX7_spans_0 rfl (lv_at hl 0 rfl) ?_
  refine va_get (D := (dC, dI)) (ci := 7) (v := .ref a15) (C := RX7) (T := TX7) (N := 18) hx hb hts hi_X7 hown hK hP 0 rfl rfl 15 (by decide) k_f82 (fun _ h9 => h9) rfl dX7_spans_1 ?_
  refine va_get (D := (dC, dI)) (ci := 1) (v := .int 0) (C := RX1) (T := TX1) (N := 3) hx hb hts hi_X1 hown hK hP 1 rfl rfl 2 (by decide) k_f227 (fun _ h9 => h9) rfl dX7_spans_4 ?_
  refine lv_if_eq (tgt := 20) hx hb dX7_spans_7 (by decide) (fun c_7 => ?_) (fun c_7 => ?_)
  rotate_left
  · exact absurd (by decide) c_7
  refine lv_iconst (v := (-1)) hx hb dX7_spans_20 (by decide) ?_
  exact W.iret (v := (-1)) hx hb hr (fun t ht hW => ⟨(-1), rfl, rfl, ht⟩) (fun _ h => absurd h List.not_mem_nil) dX7_spans_21

set_option maxHeartbeats 4000000 in
set_option maxRecDepth 100000 in
theorem c_X7_span (l : Launch) (dC : Nat → ClassId) (dI : Nat → Nat → Nat) (h0 : Nat) (a0 : Nat) (v1 : Int32) (a2 : Nat) (a3 : Nat) (v4 : Int32) (v5 : Int32) (a6 : Nat) (a7 : Nat) (a8 : Nat) (v9 : Int32) (v10 : Int32) (a11 : Nat) (a12 : Nat) (v13 : Int32) (a14 : Nat) (a15 : Nat) (a16 : Nat) (v17 : Int32) (b0 : Nat) (p0 : Int32) (p1 : Int32) : Met l yX7_span wsX7_span ({ frames := 1, cells := 0, slots := 0, locals := 23 }) (va_Pc [.ref h0, .int p0, .int p1] (fun U => va_P (dC, dI) vwCl [(h0, .inr (7, [.ref a0, .int v1, .ref a2, .ref a3, .int v4, .int v5, .ref a6, .ref a7, .ref a8, .int v9, .int v10, .ref a11, .ref a12, .int v13, .ref a14, .ref a15, .ref a16, .int v17])), (a15, .inr (1, [.ref b0, .int 0, .int 0]))] U.heap ∧ va_K (dC, dI) vwCl [] U)) (vp_Si (fun r => r = (-1))) 0 0 (fun _ => False) := by
  refine Met.ofW (cc := cX7_span) (maxL := 4) (ret := (some .int)) (by decide) rfl ?_
  intro p e s m args below meth c s₁ B hml hv
  obtain ⟨rfl, hP, hK⟩ := hv
  have hx := B.exec
  have hb := B.bytes
  have hr := B.returns
  have hts := atoms_spec (ws := wsX7_span) B.pre
  have hown : s.vm.findClass RX7 = some m.cls := findClass_of_methodNamed B.named
  have hlocks := B.notSynchronized
  replace hP : va_P (dC, dI) vwCl [(h0, .inr (7, [.ref a0, .int v1, .ref a2, .ref a3, .int v4, .int v5, .ref a6, .ref a7, .ref a8, .int v9, .int v10, .ref a11, .ref a12, .int v13, .ref a14, .ref a15, .ref a16, .int v17])), (a15, .inr (1, [.ref b0, .int 0, .int 0]))] s.heap := hP
  have hl := lv_entry ([.ref h0, .int p0, .int p1]) (n := 4) (Nat.le_of_ble_eq_true rfl)
  rw [lg_entry_eq]
  generalize (lg_sl ([.ref h0, .int p0, .int p1]) ++ List.replicate (4 - (lg_sl ([.ref h0, .int p0, .int p1])).length) Slot.unset).toArray = ls at hl ⊢
  replace hl : lv_has ls 4 [(0, .ref h0), (1, .int p0), (2, .int p1)] := hl
  have hi_X7 : ∀ w ∈ wsX70, w ∈ wsX7_span := by decide +kernel
  have k_f82 := hts (.fieldLink RX7 82 "TongueTeller" "latest" "LTongueTeller$Parting;") (by decide +kernel)
  refine lv_aload_n hx hb dX7_span_0 rfl (lv_at hl 0 rfl) ?_
  refine va_get (D := (dC, dI)) (ci := 7) (v := .ref a15) (C := RX7) (T := TX7) (N := 18) hx hb hts hi_X7 hown hK hP 0 rfl rfl 15 (by decide) k_f82 (fun _ h9 => h9) rfl dX7_span_1 ?_
  refine lv_iload_n hx hb dX7_span_4 rfl (lv_at hl 1 rfl) ?_
  have hPc := hP.sub (ws' := [(a15, .inr (1, [.ref b0, .int 0, .int 0]))]) [1] rfl
  have hKc := hK.sub (tys' := []) [] rfl
  refine vp_callSi (W.runV (As := [.int p0]) (rest := []) ⟨hx, hb, hml, hown, hts⟩ (c_X1_firstOfSpan l dC dI a15 b0 p0) (cwV 1 hts gX7_span_X1_firstOfSpan rfl rfl rfl (by decide +kernel) ⟨Nat.le_of_ble_eq_true rfl, Nat.le_of_ble_eq_true rfl⟩) ⟨fun a U g mk q => by obtain ⟨q0, qP, qK⟩ := q; exact ⟨q0, qP, va_K.moved (u := U) (U := U.calling g mk a) (Vm.Alike.refl U.vm) qK⟩, va_recv hK hP (ci := 1) (q0 := 1) rfl rfl, fun U hU hW => ⟨rfl, by rw [hU]; exact hPc, va_K.moved hW.alike hKc⟩⟩ rfl rfl hl.1 rfl (lv_room (Nat.le_of_ble_eq_true rfl)) dX7_span_5 ⟨Nat.le_of_ble_eq_true rfl, Nat.le_of_ble_eq_true rfl⟩) (fun r_5 hw_5 => ?_)
  obtain rfl : (-1) = r_5 := Eq.symm hw_5
  refine lv_istore_n (lv' := [(3, .int (-1)), (0, .ref h0), (1, .int p0), (2, .int p1)]) hx hb dX7_span_8 rfl hl (by decide) rfl (fun ls hl => ?_)
  refine lv_iload_n hx hb dX7_span_9 rfl (lv_at hl 0 rfl) ?_
  refine lv_iconst (v := (-1)) hx hb dX7_span_10 (by decide) ?_
  refine lv_icmp_ne (tgt := 16) hx hb dX7_span_11 (by decide) (fun c_11 => ?_) (fun c_11 => ?_)
  · exact absurd (by decide) c_11
  refine lv_iconst (v := (-1)) hx hb dX7_span_14 (by decide) ?_
  exact W.iret (v := (-1)) hx hb hr (fun t ht hW => ⟨(-1), rfl, rfl, ht⟩) (fun _ h => absurd h List.not_mem_nil) dX7_span_15

set_option maxHeartbeats 4000000 in
set_option maxRecDepth 100000 in
theorem c_X7_trouble (l : Launch) (dC : Nat → ClassId) (dI : Nat → Nat → Nat) (h0 : Nat) (a0 : Nat) (v1 : Int32) (a2 : Nat) (a3 : Nat) (v4 : Int32) (v5 : Int32) (a6 : Nat) (a7 : Nat) (a8 : Nat) (v9 : Int32) (v10 : Int32) (a11 : Nat) (a12 : Nat) (v13 : Int32) (a14 : Nat) (a15 : Nat) (a16 : Nat) (v17 : Int32) : Met l yX7_trouble wsX7_trouble ({ frames := 0, cells := 0, slots := 0, locals := 0 }) (va_Pc [.ref h0] (fun U => va_P (dC, dI) vwCl [(h0, .inr (7, [.ref a0, .int v1, .ref a2, .ref a3, .int v4, .int v5, .ref a6, .ref a7, .ref a8, .int v9, .int v10, .ref a11, .ref a12, .int v13, .ref a14, .ref a15, .ref a16, .int v17]))] U.heap ∧ va_K (dC, dI) vwCl [] U)) (vp_Si (fun r => r = v17)) 0 0 (fun _ => False) := by
  refine Met.ofW (cc := cX7_trouble) (maxL := 1) (ret := (some .int)) (by decide) rfl ?_
  intro p e s m args below meth c s₁ B hml hv
  obtain ⟨rfl, hP, hK⟩ := hv
  have hx := B.exec
  have hb := B.bytes
  have hr := B.returns
  have hts := atoms_spec (ws := wsX7_trouble) B.pre
  have hown : s.vm.findClass RX7 = some m.cls := findClass_of_methodNamed B.named
  have hlocks := B.notSynchronized
  replace hP : va_P (dC, dI) vwCl [(h0, .inr (7, [.ref a0, .int v1, .ref a2, .ref a3, .int v4, .int v5, .ref a6, .ref a7, .ref a8, .int v9, .int v10, .ref a11, .ref a12, .int v13, .ref a14, .ref a15, .ref a16, .int v17]))] s.heap := hP
  have hl := lv_entry ([.ref h0]) (n := 1) (Nat.le_of_ble_eq_true rfl)
  rw [lg_entry_eq]
  generalize (lg_sl ([.ref h0]) ++ List.replicate (1 - (lg_sl ([.ref h0])).length) Slot.unset).toArray = ls at hl ⊢
  replace hl : lv_has ls 1 [(0, .ref h0)] := hl
  have hi_X7 : ∀ w ∈ wsX70, w ∈ wsX7_trouble := by decide +kernel
  have k_f93 := hts (.fieldLink RX7 93 "TongueTeller" "latestTrouble" "I") (by decide +kernel)
  refine lv_aload_n hx hb dX7_trouble_0 rfl (lv_at hl 0 rfl) ?_
  refine va_get (D := (dC, dI)) (ci := 7) (v := .int v17) (C := RX7) (T := TX7) (N := 18) hx hb hts hi_X7 hown hK hP 0 rfl rfl 17 (by decide) k_f93 (fun _ h9 => h9) rfl dX7_trouble_1 ?_
  exact W.iret (v := v17) hx hb hr (fun t ht hW => ⟨v17, rfl, rfl, ht⟩) (fun _ h => absurd h List.not_mem_nil) dX7_trouble_4

set_option maxHeartbeats 4000000 in
set_option maxRecDepth 100000 in
theorem c_X7_set (l : Launch) (dC : Nat → ClassId) (dI : Nat → Nat → Nat) (h0 : Nat) (a0 : Nat) (v1 : Int32) (a2 : Nat) (a3 : Nat) (v4 : Int32) (v5 : Int32) (a6 : Nat) (a7 : Nat) (a8 : Nat) (v9 : Int32) (v10 : Int32) (a11 : Nat) (a12 : Nat) (v13 : Int32) (a14 : Nat) (a15 : Nat) (a16 : Nat) (v17 : Int32) (p0 : Int32) (p1 : Int32) (sz : Nat) : Met l yX7_set wsX7_set ({ frames := 1, cells := 0, slots := 0, locals := 21 }) (va_Pc [.ref h0, .int p0, .int p1] (fun U => U.heap.size = sz ∧ va_P (dC, dI) vwCl [(h0, .inr (7, [.ref a0, .int v1, .ref a2, .ref a3, .int v4, .int v5, .ref a6, .ref a7, .ref a8, .int v9, .int v10, .ref a11, .ref a12, .int v13, .ref a14, .ref a15, .ref a16, .int v17]))] U.heap ∧ va_K (dC, dI) vwCl [] U ∧ va_D (fun _ => True) [(h0, .inr (7, [.ref a0, .int v1, .ref a2, .ref a3, .int v4, .int v5, .ref a6, .ref a7, .ref a8, .int v9, .int v10, .ref a11, .ref a12, .int v13, .ref a14, .ref a15, .ref a16, .int v17]))])) (va_Qi (fun (r : Int32) (u : Int32 × Int32 × Int32) => match u with | (u1, u2, u3) => (r = 1 ∧ st_ok p0 p1) ∨ (r = 0 ∧ ¬ st_ok p0 p1)) (fun (u : Int32 × Int32 × Int32) (t : State) => match u with | (u1, u2, u3) => va_P (dC, dI) vwCl [(h0, .inr (7, [.ref a0, .int v1, .ref a2, .ref a3, .int v4, .int v5, .ref a6, .ref a7, .ref a8, .int u1, .int u2, .ref a11, .ref a12, .int v13, .ref a14, .ref a15, .ref a16, .int u3]))] t.heap ∧ va_D (va_A [(h0, .inr (7, [.ref a0, .int v1, .ref a2, .ref a3, .int v4, .int v5, .ref a6, .ref a7, .ref a8, .int v9, .int v10, .ref a11, .ref a12, .int v13, .ref a14, .ref a15, .ref a16, .int v17]))] sz) [(h0, .inr (7, [.ref a0, .int v1, .ref a2, .ref a3, .int v4, .int v5, .ref a6, .ref a7, .ref a8, .int u1, .int u2, .ref a11, .ref a12, .int v13, .ref a14, .ref a15, .ref a16, .int u3]))]) (va_A [(h0, .inr (7, [.ref a0, .int v1, .ref a2, .ref a3, .int v4, .int v5, .ref a6, .ref a7, .ref a8, .int v9, .int v10, .ref a11, .ref a12, .int v13, .ref a14, .ref a15, .ref a16, .int v17]))] sz)) 0 0 (va_A [(h0, .inr (7, [.ref a0, .int v1, .ref a2, .ref a3, .int v4, .int v5, .ref a6, .ref a7, .ref a8, .int v9, .int v10, .ref a11, .ref a12, .int v13, .ref a14, .ref a15, .ref a16, .int v17]))] sz) := by
  refine Met.ofW (cc := cX7_set) (maxL := 3) (ret := (some .boolean)) (by decide) rfl ?_
  intro p e s m args below meth c s₁ B hml hv
  obtain ⟨rfl, hsz, hP, hK, hD0⟩ := hv
  have hx := B.exec
  have hb := B.bytes
  have hr := B.returns
  have hts := atoms_spec (ws := wsX7_set) B.pre
  have hown : s.vm.findClass RX7 = some m.cls := findClass_of_methodNamed B.named
  have hlocks := B.notSynchronized
  subst hsz
  have hD := hD0.self (sz := s.heap.size)
  generalize hAe : va_A [(h0, .inr (7, [.ref a0, .int v1, .ref a2, .ref a3, .int v4, .int v5, .ref a6, .ref a7, .ref a8, .int v9, .int v10, .ref a11, .ref a12, .int v13, .ref a14, .ref a15, .ref a16, .int v17]))] s.heap.size = A at hD ⊢
  have hA : ∀ q : Nat, s.heap.size ≤ q → A q := fun q h => by rw [← hAe]; exact Or.inr h
  have hS : va_S A s.heap s.heap [] := va_S.rf
  replace hP : va_P (dC, dI) vwCl [(h0, .inr (7, [.ref a0, .int v1, .ref a2, .ref a3, .int v4, .int v5, .ref a6, .ref a7, .ref a8, .int v9, .int v10, .ref a11, .ref a12, .int v13, .ref a14, .ref a15, .ref a16, .int v17]))] s.heap := hP
  have hl := lv_entry ([.ref h0, .int p0, .int p1]) (n := 3) (Nat.le_of_ble_eq_true rfl)
  rw [lg_entry_eq]
  generalize (lg_sl ([.ref h0, .int p0, .int p1]) ++ List.replicate (3 - (lg_sl ([.ref h0, .int p0, .int p1])).length) Slot.unset).toArray = ls at hl ⊢
  replace hl : lv_has ls 3 [(0, .ref h0), (1, .int p0), (2, .int p1)] := hl
  have hi_X7 : ∀ w ∈ wsX70, w ∈ wsX7_set := by decide +kernel
  have k_f52 := hts (.fieldLink RX7 52 "TongueTeller" "change" "I") (by decide +kernel)
  have k_f55 := hts (.fieldLink RX7 55 "TongueTeller" "gap" "I") (by decide +kernel)
  refine lv_iload_n hx hb dX7_set_0 rfl (lv_at hl 1 rfl) ?_
  refine lv_if_lt (tgt := 23) hx hb dX7_set_1 (by decide) (fun c_1 => ?_) (fun c_1 => ?_)
  · refine lv_aload_n hx hb dX7_set_23 rfl (lv_at hl 0 rfl) ?_
    refine lv_iconst (v := 2) hx hb dX7_set_24 (by decide) ?_
    have hPc := hP.sub (ws' := [(h0, .inr (7, [.ref a0, .int v1, .ref a2, .ref a3, .int v4, .int v5, .ref a6, .ref a7, .ref a8, .int v9, .int v10, .ref a11, .ref a12, .int v13, .ref a14, .ref a15, .ref a16, .int v17]))]) [0] rfl
    have hDc := hD.sub (ws' := [(h0, .inr (7, [.ref a0, .int v1, .ref a2, .ref a3, .int v4, .int v5, .ref a6, .ref a7, .ref a8, .int v9, .int v10, .ref a11, .ref a12, .int v13, .ref a14, .ref a15, .ref a16, .int v17]))]) [0] (by decide) rfl
    have hKc := hK.sub (tys' := []) [] rfl
    have hFc := va_free (wc := [(h0, .inr (7, [.ref a0, .int v1, .ref a2, .ref a3, .int v4, .int v5, .ref a6, .ref a7, .ref a8, .int v9, .int v10, .ref a11, .ref a12, .int v13, .ref a14, .ref a15, .ref a16, .int v17]))]) hD hS hA [0] rfl
    refine va_calli (va_runV (As := [.int 2]) (rest := []) ⟨hx, hb, hml, hown, hts⟩ (c_X7_refuse l dC dI h0 a0 v1 a2 a3 v4 v5 a6 a7 a8 v9 v10 a11 a12 v13 a14 a15 a16 v17 2 s.heap.size) (cwV 1 hts gX7_set_X7_refuse rfl rfl rfl (by decide +kernel) ⟨Nat.le_of_ble_eq_true rfl, Nat.le_of_ble_eq_true rfl⟩) ⟨fun a U g mk q => by obtain ⟨q0, q1, qP, qK, qD⟩ := q; exact ⟨q0, q1, qP, va_K.moved (u := U) (U := U.calling g mk a) (Vm.Alike.refl U.vm) qK, qD⟩, va_recv hK hP (ci := 7) (q0 := 0) rfl rfl, fun U hU hW => ⟨rfl, by rw [hU], by rw [hU]; exact hPc, va_K.moved hW.alike hKc, hDc.weaken (fun _ _ _ _ => trivial)⟩⟩ rfl rfl hl.1 rfl (lv_room (Nat.le_of_ble_eq_true rfl)) dX7_set_25 ⟨Nat.le_of_ble_eq_true rfl, Nat.le_of_ble_eq_true rfl⟩) hS (fun q _ h => hFc q h) hFc (fun r_25 u t H1 locs ht hvm hw_25 hB hz1 hk1 hS => ?_)
    obtain ⟨hP1, hD1⟩ := hB
    rw [ht] at hP1
    obtain ⟨hP, hD⟩ := va_join (wr := []) (w1 := [(h0, .inr (7, [.ref a0, .int v1, .ref a2, .ref a3, .int v4, .int v5, .ref a6, .ref a7, .ref a8, .int v9, .int v10, .ref a11, .ref a12, .int v13, .ref a14, .ref a15, .ref a16, .int 2]))]) hP hD [0] [] rfl rfl (by decide) (by decide) hk1 hFc hP1 hD1
    generalize H1 = H at hP hS ⊢
    replace hP : va_P (dC, dI) vwCl [(h0, .inr (7, [.ref a0, .int v1, .ref a2, .ref a3, .int v4, .int v5, .ref a6, .ref a7, .ref a8, .int v9, .int v10, .ref a11, .ref a12, .int v13, .ref a14, .ref a15, .ref a16, .int 2]))] H := hP
    replace hD : va_D A [(h0, .inr (7, [.ref a0, .int v1, .ref a2, .ref a3, .int v4, .int v5, .ref a6, .ref a7, .ref a8, .int v9, .int v10, .ref a11, .ref a12, .int v13, .ref a14, .ref a15, .ref a16, .int 2]))] := hD
    obtain rfl : (-1) = r_25 := Eq.symm hw_25
    refine lv_pop hx hb dX7_set_28 rfl ?_
    refine lv_iconst (v := 0) hx hb dX7_set_29 (by decide) ?_
    have hP9 := hP.sub (ws' := [(h0, .inr (7, [.ref a0, .int v1, .ref a2, .ref a3, .int v4, .int v5, .ref a6, .ref a7, .ref a8, .int v9, .int v10, .ref a11, .ref a12, .int v13, .ref a14, .ref a15, .ref a16, .int 2]))]) [0] rfl
    have hD9 := hD.sub (ws' := [(h0, .inr (7, [.ref a0, .int v1, .ref a2, .ref a3, .int v4, .int v5, .ref a6, .ref a7, .ref a8, .int v9, .int v10, .ref a11, .ref a12, .int v13, .ref a14, .ref a15, .ref a16, .int 2]))]) [0] (by decide) rfl
    exact W.zret (v := 0) hx hb hr (rfl) (fun t ht hW => ⟨⟨0, (v9, v10, 2), rfl, Or.inr ⟨rfl, fun h => h.1 c_1⟩, by rw [ht]; exact hP9, hD9⟩, hS.F ht⟩) hS.2.2 dX7_set_30
  · refine lv_iload_n hx hb dX7_set_4 rfl (lv_at hl 1 rfl) ?_
    refine lv_sipush (v := 2000) hx hb dX7_set_5 (by decide) ?_
    refine lv_icmp_gt (tgt := 23) hx hb dX7_set_8 (by decide) (fun c_8 => ?_) (fun c_8 => ?_)
    · refine lv_aload_n hx hb dX7_set_23 rfl (lv_at hl 0 rfl) ?_
      refine lv_iconst (v := 2) hx hb dX7_set_24 (by decide) ?_
      have hPc := hP.sub (ws' := [(h0, .inr (7, [.ref a0, .int v1, .ref a2, .ref a3, .int v4, .int v5, .ref a6, .ref a7, .ref a8, .int v9, .int v10, .ref a11, .ref a12, .int v13, .ref a14, .ref a15, .ref a16, .int v17]))]) [0] rfl
      have hDc := hD.sub (ws' := [(h0, .inr (7, [.ref a0, .int v1, .ref a2, .ref a3, .int v4, .int v5, .ref a6, .ref a7, .ref a8, .int v9, .int v10, .ref a11, .ref a12, .int v13, .ref a14, .ref a15, .ref a16, .int v17]))]) [0] (by decide) rfl
      have hKc := hK.sub (tys' := []) [] rfl
      have hFc := va_free (wc := [(h0, .inr (7, [.ref a0, .int v1, .ref a2, .ref a3, .int v4, .int v5, .ref a6, .ref a7, .ref a8, .int v9, .int v10, .ref a11, .ref a12, .int v13, .ref a14, .ref a15, .ref a16, .int v17]))]) hD hS hA [0] rfl
      refine va_calli (va_runV (As := [.int 2]) (rest := []) ⟨hx, hb, hml, hown, hts⟩ (c_X7_refuse l dC dI h0 a0 v1 a2 a3 v4 v5 a6 a7 a8 v9 v10 a11 a12 v13 a14 a15 a16 v17 2 s.heap.size) (cwV 1 hts gX7_set_X7_refuse rfl rfl rfl (by decide +kernel) ⟨Nat.le_of_ble_eq_true rfl, Nat.le_of_ble_eq_true rfl⟩) ⟨fun a U g mk q => by obtain ⟨q0, q1, qP, qK, qD⟩ := q; exact ⟨q0, q1, qP, va_K.moved (u := U) (U := U.calling g mk a) (Vm.Alike.refl U.vm) qK, qD⟩, va_recv hK hP (ci := 7) (q0 := 0) rfl rfl, fun U hU hW => ⟨rfl, by rw [hU], by rw [hU]; exact hPc, va_K.moved hW.alike hKc, hDc.weaken (fun _ _ _ _ => trivial)⟩⟩ rfl rfl hl.1 rfl (lv_room (Nat.le_of_ble_eq_true rfl)) dX7_set_25 ⟨Nat.le_of_ble_eq_true rfl, Nat.le_of_ble_eq_true rfl⟩) hS (fun q _ h => hFc q h) hFc (fun r_25 u t H1 locs ht hvm hw_25 hB hz1 hk1 hS => ?_)
      obtain ⟨hP1, hD1⟩ := hB
      rw [ht] at hP1
      obtain ⟨hP, hD⟩ := va_join (wr := []) (w1 := [(h0, .inr (7, [.ref a0, .int v1, .ref a2, .ref a3, .int v4, .int v5, .ref a6, .ref a7, .ref a8, .int v9, .int v10, .ref a11, .ref a12, .int v13, .ref a14, .ref a15, .ref a16, .int 2]))]) hP hD [0] [] rfl rfl (by decide) (by decide) hk1 hFc hP1 hD1
      generalize H1 = H at hP hS ⊢
      replace hP : va_P (dC, dI) vwCl [(h0, .inr (7, [.ref a0, .int v1, .ref a2, .ref a3, .int v4, .int v5, .ref a6, .ref a7, .ref a8, .int v9, .int v10, .ref a11, .ref a12, .int v13, .ref a14, .ref a15, .ref a16, .int 2]))] H := hP
      replace hD : va_D A [(h0, .inr (7, [.ref a0, .int v1, .ref a2, .ref a3, .int v4, .int v5, .ref a6, .ref a7, .ref a8, .int v9, .int v10, .ref a11, .ref a12, .int v13, .ref a14, .ref a15, .ref a16, .int 2]))] := hD
      obtain rfl : (-1) = r_25 := Eq.symm hw_25
      refine lv_pop hx hb dX7_set_28 rfl ?_
      refine lv_iconst (v := 0) hx hb dX7_set_29 (by decide) ?_
      have hP9 := hP.sub (ws' := [(h0, .inr (7, [.ref a0, .int v1, .ref a2, .ref a3, .int v4, .int v5, .ref a6, .ref a7, .ref a8, .int v9, .int v10, .ref a11, .ref a12, .int v13, .ref a14, .ref a15, .ref a16, .int 2]))]) [0] rfl
      have hD9 := hD.sub (ws' := [(h0, .inr (7, [.ref a0, .int v1, .ref a2, .ref a3, .int v4, .int v5, .ref a6, .ref a7, .ref a8, .int v9, .int v10, .ref a11, .ref a12, .int v13, .ref a14, .ref a15, .ref a16, .int 2]))]) [0] (by decide) rfl
      exact W.zret (v := 0) hx hb hr (rfl) (fun t ht hW => ⟨⟨0, (v9, v10, 2), rfl, Or.inr ⟨rfl, fun h => h.2.1 c_8⟩, by rw [ht]; exact hP9, hD9⟩, hS.F ht⟩) hS.2.2 dX7_set_30
    · refine lv_iload_n hx hb dX7_set_11 rfl (lv_at hl 2 rfl) ?_
      refine lv_iconst (v := 1) hx hb dX7_set_12 (by decide) ?_
      refine lv_icmp_lt (tgt := 23) hx hb dX7_set_13 (by decide) (fun c_13 => ?_) (fun c_13 => ?_)
      · refine lv_aload_n hx hb dX7_set_23 rfl (lv_at hl 0 rfl) ?_
        refine lv_iconst (v := 2) hx hb dX7_set_24 (by decide) ?_
        have hPc := hP.sub (ws' := [(h0, .inr (7, [.ref a0, .int v1, .ref a2, .ref a3, .int v4, .int v5, .ref a6, .ref a7, .ref a8, .int v9, .int v10, .ref a11, .ref a12, .int v13, .ref a14, .ref a15, .ref a16, .int v17]))]) [0] rfl
        have hDc := hD.sub (ws' := [(h0, .inr (7, [.ref a0, .int v1, .ref a2, .ref a3, .int v4, .int v5, .ref a6, .ref a7, .ref a8, .int v9, .int v10, .ref a11, .ref a12, .int v13, .ref a14, .ref a15, .ref a16, .int v17]))]) [0] (by decide) rfl
        have hKc := hK.sub (tys' := []) [] rfl
        have hFc := va_free (wc := [(h0, .inr (7, [.ref a0, .int v1, .ref a2, .ref a3, .int v4, .int v5, .ref a6, .ref a7, .ref a8, .int v9, .int v10, .ref a11, .ref a12, .int v13, .ref a14, .ref a15, .ref a16, .int v17]))]) hD hS hA [0] rfl
        refine va_calli (va_runV (As := [.int 2]) (rest := []) ⟨hx, hb, hml, hown, hts⟩ (c_X7_refuse l dC dI h0 a0 v1 a2 a3 v4 v5 a6 a7 a8 v9 v10 a11 a12 v13 a14 a15 a16 v17 2 s.heap.size) (cwV 1 hts gX7_set_X7_refuse rfl rfl rfl (by decide +kernel) ⟨Nat.le_of_ble_eq_true rfl, Nat.le_of_ble_eq_true rfl⟩) ⟨fun a U g mk q => by obtain ⟨q0, q1, qP, qK, qD⟩ := q; exact ⟨q0, q1, qP, va_K.moved (u := U) (U := U.calling g mk a) (Vm.Alike.refl U.vm) qK, qD⟩, va_recv hK hP (ci := 7) (q0 := 0) rfl rfl, fun U hU hW => ⟨rfl, by rw [hU], by rw [hU]; exact hPc, va_K.moved hW.alike hKc, hDc.weaken (fun _ _ _ _ => trivial)⟩⟩ rfl rfl hl.1 rfl (lv_room (Nat.le_of_ble_eq_true rfl)) dX7_set_25 ⟨Nat.le_of_ble_eq_true rfl, Nat.le_of_ble_eq_true rfl⟩) hS (fun q _ h => hFc q h) hFc (fun r_25 u t H1 locs ht hvm hw_25 hB hz1 hk1 hS => ?_)
        obtain ⟨hP1, hD1⟩ := hB
        rw [ht] at hP1
        obtain ⟨hP, hD⟩ := va_join (wr := []) (w1 := [(h0, .inr (7, [.ref a0, .int v1, .ref a2, .ref a3, .int v4, .int v5, .ref a6, .ref a7, .ref a8, .int v9, .int v10, .ref a11, .ref a12, .int v13, .ref a14, .ref a15, .ref a16, .int 2]))]) hP hD [0] [] rfl rfl (by decide) (by decide) hk1 hFc hP1 hD1
        generalize H1 = H at hP hS ⊢
        replace hP : va_P (dC, dI) vwCl [(h0, .inr (7, [.ref a0, .int v1, .ref a2, .ref a3, .int v4, .int v5, .ref a6, .ref a7, .ref a8, .int v9, .int v10, .ref a11, .ref a12, .int v13, .ref a14, .ref a15, .ref a16, .int 2]))] H := hP
        replace hD : va_D A [(h0, .inr (7, [.ref a0, .int v1, .ref a2, .ref a3, .int v4, .int v5, .ref a6, .ref a7, .ref a8, .int v9, .int v10, .ref a11, .ref a12, .int v13, .ref a14, .ref a15, .ref a16, .int 2]))] := hD
        obtain rfl : (-1) = r_25 := Eq.symm hw_25
        refine lv_pop hx hb dX7_set_28 rfl ?_
        refine lv_iconst (v := 0) hx hb dX7_set_29 (by decide) ?_
        have hP9 := hP.sub (ws' := [(h0, .inr (7, [.ref a0, .int v1, .ref a2, .ref a3, .int v4, .int v5, .ref a6, .ref a7, .ref a8, .int v9, .int v10, .ref a11, .ref a12, .int v13, .ref a14, .ref a15, .ref a16, .int 2]))]) [0] rfl
        have hD9 := hD.sub (ws' := [(h0, .inr (7, [.ref a0, .int v1, .ref a2, .ref a3, .int v4, .int v5, .ref a6, .ref a7, .ref a8, .int v9, .int v10, .ref a11, .ref a12, .int v13, .ref a14, .ref a15, .ref a16, .int 2]))]) [0] (by decide) rfl
        exact W.zret (v := 0) hx hb hr (rfl) (fun t ht hW => ⟨⟨0, (v9, v10, 2), rfl, Or.inr ⟨rfl, fun h => h.2.2.1 c_13⟩, by rw [ht]; exact hP9, hD9⟩, hS.F ht⟩) hS.2.2 dX7_set_30
      · refine lv_iload_n hx hb dX7_set_16 rfl (lv_at hl 2 rfl) ?_
        refine lv_sipush (v := 5000) hx hb dX7_set_17 (by decide) ?_
        refine lv_icmp_le (tgt := 31) hx hb dX7_set_20 (by decide) (fun c_20 => ?_) (fun c_20 => ?_)
        · refine lv_aload_n hx hb dX7_set_31 rfl (lv_at hl 0 rfl) ?_
          refine lv_iload_n hx hb dX7_set_32 rfl (lv_at hl 1 rfl) ?_
          refine va_put (D := (dC, dI)) (ci := 7) (v := .int p0) (ty := .int) (C := RX7) (T := TX7) (N := 18) hx hb hts hi_X7 tyX7 tyX7_ok nmX7 hown hK hP hD hS 0 rfl rfl 9 (by decide) k_f52 (fun _ h9 => h9) rfl (by decide +kernel) rfl rfl (Nat.le_of_ble_eq_true rfl) dX7_set_33 (fun H locs hP hD hS => ?_)
          replace hP : va_P (dC, dI) vwCl [(h0, .inr (7, [.ref a0, .int v1, .ref a2, .ref a3, .int v4, .int v5, .ref a6, .ref a7, .ref a8, .int p0, .int v10, .ref a11, .ref a12, .int v13, .ref a14, .ref a15, .ref a16, .int v17]))] H := hP
          replace hD : va_D A [(h0, .inr (7, [.ref a0, .int v1, .ref a2, .ref a3, .int v4, .int v5, .ref a6, .ref a7, .ref a8, .int p0, .int v10, .ref a11, .ref a12, .int v13, .ref a14, .ref a15, .ref a16, .int v17]))] := hD
          refine lv_aload_n hx hb dX7_set_36 rfl (lv_at hl 0 rfl) ?_
          refine lv_iload_n hx hb dX7_set_37 rfl (lv_at hl 2 rfl) ?_
          refine va_put (D := (dC, dI)) (ci := 7) (v := .int p1) (ty := .int) (C := RX7) (T := TX7) (N := 18) hx hb hts hi_X7 tyX7 tyX7_ok nmX7 hown hK hP hD hS 0 rfl rfl 10 (by decide) k_f55 (fun _ h9 => h9) rfl (by decide +kernel) rfl rfl (Nat.le_of_ble_eq_true rfl) dX7_set_38 (fun H locs hP hD hS => ?_)
          replace hP : va_P (dC, dI) vwCl [(h0, .inr (7, [.ref a0, .int v1, .ref a2, .ref a3, .int v4, .int v5, .ref a6, .ref a7, .ref a8, .int p0, .int p1, .ref a11, .ref a12, .int v13, .ref a14, .ref a15, .ref a16, .int v17]))] H := hP
          replace hD : va_D A [(h0, .inr (7, [.ref a0, .int v1, .ref a2, .ref a3, .int v4, .int v5, .ref a6, .ref a7, .ref a8, .int p0, .int p1, .ref a11, .ref a12, .int v13, .ref a14, .ref a15, .ref a16, .int v17]))] := hD
          refine lv_aload_n hx hb dX7_set_41 rfl (lv_at hl 0 rfl) ?_
          refine lv_iconst (v := 0) hx hb dX7_set_42 (by decide) ?_
          have hPc := hP.sub (ws' := [(h0, .inr (7, [.ref a0, .int v1, .ref a2, .ref a3, .int v4, .int v5, .ref a6, .ref a7, .ref a8, .int p0, .int p1, .ref a11, .ref a12, .int v13, .ref a14, .ref a15, .ref a16, .int v17]))]) [0] rfl
          have hDc := hD.sub (ws' := [(h0, .inr (7, [.ref a0, .int v1, .ref a2, .ref a3, .int v4, .int v5, .ref a6, .ref a7, .ref a8, .int p0, .int p1, .ref a11, .ref a12, .int v13, .ref a14, .ref a15, .ref a16, .int v17]))]) [0] (by decide) rfl
          have hKc := hK.sub (tys' := []) [] rfl
          have hFc := va_free (wc := [(h0, .inr (7, [.ref a0, .int v1, .ref a2, .ref a3, .int v4, .int v5, .ref a6, .ref a7, .ref a8, .int p0, .int p1, .ref a11, .ref a12, .int v13, .ref a14, .ref a15, .ref a16, .int v17]))]) hD hS hA [0] rfl
          refine va_calli (va_runV (As := [.int 0]) (rest := []) ⟨hx, hb, hml, hown, hts⟩ (c_X7_grant l dC dI h0 a0 v1 a2 a3 v4 v5 a6 a7 a8 p0 p1 a11 a12 v13 a14 a15 a16 v17 0 H.size) (cwV 1 hts gX7_set_X7_grant rfl rfl rfl (by decide +kernel) ⟨Nat.le_of_ble_eq_true rfl, Nat.le_of_ble_eq_true rfl⟩) ⟨fun a U g mk q => by obtain ⟨q0, q1, qP, qK, qD⟩ := q; exact ⟨q0, q1, qP, va_K.moved (u := U) (U := U.calling g mk a) (Vm.Alike.refl U.vm) qK, qD⟩, va_recv hK hP (ci := 7) (q0 := 0) rfl rfl, fun U hU hW => ⟨rfl, by rw [hU], by rw [hU]; exact hPc, va_K.moved hW.alike hKc, hDc.weaken (fun _ _ _ _ => trivial)⟩⟩ rfl rfl hl.1 rfl (lv_room (Nat.le_of_ble_eq_true rfl)) dX7_set_43 ⟨Nat.le_of_ble_eq_true rfl, Nat.le_of_ble_eq_true rfl⟩) hS (fun q _ h => hFc q h) hFc (fun r_43 u t H1 locs ht hvm hw_43 hB hz1 hk1 hS => ?_)
          obtain ⟨hP1, hD1⟩ := hB
          rw [ht] at hP1
          obtain ⟨hP, hD⟩ := va_join (wr := []) (w1 := [(h0, .inr (7, [.ref a0, .int v1, .ref a2, .ref a3, .int v4, .int v5, .ref a6, .ref a7, .ref a8, .int p0, .int p1, .ref a11, .ref a12, .int v13, .ref a14, .ref a15, .ref a16, .int 0]))]) hP hD [0] [] rfl rfl (by decide) (by decide) hk1 hFc hP1 hD1
          generalize H1 = H at hP hS ⊢
          replace hP : va_P (dC, dI) vwCl [(h0, .inr (7, [.ref a0, .int v1, .ref a2, .ref a3, .int v4, .int v5, .ref a6, .ref a7, .ref a8, .int p0, .int p1, .ref a11, .ref a12, .int v13, .ref a14, .ref a15, .ref a16, .int 0]))] H := hP
          replace hD : va_D A [(h0, .inr (7, [.ref a0, .int v1, .ref a2, .ref a3, .int v4, .int v5, .ref a6, .ref a7, .ref a8, .int p0, .int p1, .ref a11, .ref a12, .int v13, .ref a14, .ref a15, .ref a16, .int 0]))] := hD
          obtain rfl : 0 = r_43 := Eq.symm hw_43
          refine lv_pop hx hb dX7_set_46 rfl ?_
          refine lv_iconst (v := 1) hx hb dX7_set_47 (by decide) ?_
          have hP9 := hP.sub (ws' := [(h0, .inr (7, [.ref a0, .int v1, .ref a2, .ref a3, .int v4, .int v5, .ref a6, .ref a7, .ref a8, .int p0, .int p1, .ref a11, .ref a12, .int v13, .ref a14, .ref a15, .ref a16, .int 0]))]) [0] rfl
          have hD9 := hD.sub (ws' := [(h0, .inr (7, [.ref a0, .int v1, .ref a2, .ref a3, .int v4, .int v5, .ref a6, .ref a7, .ref a8, .int p0, .int p1, .ref a11, .ref a12, .int v13, .ref a14, .ref a15, .ref a16, .int 0]))]) [0] (by decide) rfl
          exact W.zret (v := 1) hx hb hr (rfl) (fun t ht hW => ⟨⟨1, (p0, p1, 0), rfl, Or.inl ⟨rfl, c_1, c_8, c_13, c_20⟩, by rw [ht]; exact hP9, hD9⟩, hS.F ht⟩) hS.2.2 dX7_set_48
        · refine lv_aload_n hx hb dX7_set_23 rfl (lv_at hl 0 rfl) ?_
          refine lv_iconst (v := 2) hx hb dX7_set_24 (by decide) ?_
          have hPc := hP.sub (ws' := [(h0, .inr (7, [.ref a0, .int v1, .ref a2, .ref a3, .int v4, .int v5, .ref a6, .ref a7, .ref a8, .int v9, .int v10, .ref a11, .ref a12, .int v13, .ref a14, .ref a15, .ref a16, .int v17]))]) [0] rfl
          have hDc := hD.sub (ws' := [(h0, .inr (7, [.ref a0, .int v1, .ref a2, .ref a3, .int v4, .int v5, .ref a6, .ref a7, .ref a8, .int v9, .int v10, .ref a11, .ref a12, .int v13, .ref a14, .ref a15, .ref a16, .int v17]))]) [0] (by decide) rfl
          have hKc := hK.sub (tys' := []) [] rfl
          have hFc := va_free (wc := [(h0, .inr (7, [.ref a0, .int v1, .ref a2, .ref a3, .int v4, .int v5, .ref a6, .ref a7, .ref a8, .int v9, .int v10, .ref a11, .ref a12, .int v13, .ref a14, .ref a15, .ref a16, .int v17]))]) hD hS hA [0] rfl
          refine va_calli (va_runV (As := [.int 2]) (rest := []) ⟨hx, hb, hml, hown, hts⟩ (c_X7_refuse l dC dI h0 a0 v1 a2 a3 v4 v5 a6 a7 a8 v9 v10 a11 a12 v13 a14 a15 a16 v17 2 s.heap.size) (cwV 1 hts gX7_set_X7_refuse rfl rfl rfl (by decide +kernel) ⟨Nat.le_of_ble_eq_true rfl, Nat.le_of_ble_eq_true rfl⟩) ⟨fun a U g mk q => by obtain ⟨q0, q1, qP, qK, qD⟩ := q; exact ⟨q0, q1, qP, va_K.moved (u := U) (U := U.calling g mk a) (Vm.Alike.refl U.vm) qK, qD⟩, va_recv hK hP (ci := 7) (q0 := 0) rfl rfl, fun U hU hW => ⟨rfl, by rw [hU], by rw [hU]; exact hPc, va_K.moved hW.alike hKc, hDc.weaken (fun _ _ _ _ => trivial)⟩⟩ rfl rfl hl.1 rfl (lv_room (Nat.le_of_ble_eq_true rfl)) dX7_set_25 ⟨Nat.le_of_ble_eq_true rfl, Nat.le_of_ble_eq_true rfl⟩) hS (fun q _ h => hFc q h) hFc (fun r_25 u t H1 locs ht hvm hw_25 hB hz1 hk1 hS => ?_)
          obtain ⟨hP1, hD1⟩ := hB
          rw [ht] at hP1
          obtain ⟨hP, hD⟩ := va_join (wr := []) (w1 := [(h0, .inr (7, [.ref a0, .int v1, .ref a2, .ref a3, .int v4, .int v5, .ref a6, .ref a7, .ref a8, .int v9, .int v10, .ref a11, .ref a12, .int v13, .ref a14, .ref a15, .ref a16, .int 2]))]) hP hD [0] [] rfl rfl (by decide) (by decide) hk1 hFc hP1 hD1
          generalize H1 = H at hP hS ⊢
          replace hP : va_P (dC, dI) vwCl [(h0, .inr (7, [.ref a0, .int v1, .ref a2, .ref a3, .int v4, .int v5, .ref a6, .ref a7, .ref a8, .int v9, .int v10, .ref a11, .ref a12, .int v13, .ref a14, .ref a15, .ref a16, .int 2]))] H := hP
          replace hD : va_D A [(h0, .inr (7, [.ref a0, .int v1, .ref a2, .ref a3, .int v4, .int v5, .ref a6, .ref a7, .ref a8, .int v9, .int v10, .ref a11, .ref a12, .int v13, .ref a14, .ref a15, .ref a16, .int 2]))] := hD
          obtain rfl : (-1) = r_25 := Eq.symm hw_25
          refine lv_pop hx hb dX7_set_28 rfl ?_
          refine lv_iconst (v := 0) hx hb dX7_set_29 (by decide) ?_
          have hP9 := hP.sub (ws' := [(h0, .inr (7, [.ref a0, .int v1, .ref a2, .ref a3, .int v4, .int v5, .ref a6, .ref a7, .ref a8, .int v9, .int v10, .ref a11, .ref a12, .int v13, .ref a14, .ref a15, .ref a16, .int 2]))]) [0] rfl
          have hD9 := hD.sub (ws' := [(h0, .inr (7, [.ref a0, .int v1, .ref a2, .ref a3, .int v4, .int v5, .ref a6, .ref a7, .ref a8, .int v9, .int v10, .ref a11, .ref a12, .int v13, .ref a14, .ref a15, .ref a16, .int 2]))]) [0] (by decide) rfl
          exact W.zret (v := 0) hx hb hr (rfl) (fun t ht hW => ⟨⟨0, (v9, v10, 2), rfl, Or.inr ⟨rfl, fun h => c_20 h.2.2.2⟩, by rw [ht]; exact hP9, hD9⟩, hS.F ht⟩) hS.2.2 dX7_set_30

set_option maxHeartbeats 4000000 in
set_option maxRecDepth 100000 in
theorem c_X7_forget (l : Launch) (dC : Nat → ClassId) (dI : Nat → Nat → Nat) (h0 : Nat) (a0 : Nat) (v1 : Int32) (a2 : Nat) (a3 : Nat) (v4 : Int32) (v5 : Int32) (a6 : Nat) (a7 : Nat) (a8 : Nat) (v9 : Int32) (v10 : Int32) (a11 : Nat) (a12 : Nat) (v13 : Int32) (a14 : Nat) (a15 : Nat) (a16 : Nat) (v17 : Int32) (kh : ClassId) (p0 : Int32) (sz : Nat) : Met l yX7_forget wsX7_forget ({ frames := 1, cells := 0, slots := 0, locals := 23 }) (va_Pc [.ref h0, .int p0] (fun U => U.heap.size = sz ∧ va_P (dC, dI) vwCl [(h0, .inr (7, [.ref a0, .int v1, .ref a2, .ref a3, .int v4, .int v5, .ref a6, .ref a7, .ref a8, .int v9, .int v10, .ref a11, .ref a12, .int v13, .ref a14, .ref a15, .ref a16, .int v17])), (a3, .inl (kh, 100, .inr (.inr (.inr (.inr (fun _ => none))))))] U.heap ∧ va_K (dC, dI) vwCl [(kh, .object "TongueTeller$Learnt")] U ∧ va_D (fun _ => True) [(h0, .inr (7, [.ref a0, .int v1, .ref a2, .ref a3, .int v4, .int v5, .ref a6, .ref a7, .ref a8, .int v9, .int v10, .ref a11, .ref a12, .int v13, .ref a14, .ref a15, .ref a16, .int v17])), (a3, .inl (kh, 100, .inr (.inr (.inr (.inr (fun _ => none))))))])) (va_Qi (fun (r : Int32) (_ : Unit) => r = 0) (fun (_ : Unit) (t : State) => va_P (dC, dI) vwCl [(h0, .inr (7, [.ref a0, .int v1, .ref a2, .ref a3, .int v4, .int v5, .ref a6, .ref a7, .ref a8, .int v9, .int v10, .ref a11, .ref a12, .int v13, .ref a14, .ref a15, .ref a16, .int 1])), (a3, .inl (kh, 100, .inr (.inr (.inr (.inr (fun _ => none))))))] t.heap ∧ va_D (va_A [(h0, .inr (7, [.ref a0, .int v1, .ref a2, .ref a3, .int v4, .int v5, .ref a6, .ref a7, .ref a8, .int v9, .int v10, .ref a11, .ref a12, .int v13, .ref a14, .ref a15, .ref a16, .int v17])), (a3, .inl (kh, 100, .inr (.inr (.inr (.inr (fun _ => none))))))] sz) [(h0, .inr (7, [.ref a0, .int v1, .ref a2, .ref a3, .int v4, .int v5, .ref a6, .ref a7, .ref a8, .int v9, .int v10, .ref a11, .ref a12, .int v13, .ref a14, .ref a15, .ref a16, .int 1])), (a3, .inl (kh, 100, .inr (.inr (.inr (.inr (fun _ => none))))))]) (va_A [(h0, .inr (7, [.ref a0, .int v1, .ref a2, .ref a3, .int v4, .int v5, .ref a6, .ref a7, .ref a8, .int v9, .int v10, .ref a11, .ref a12, .int v13, .ref a14, .ref a15, .ref a16, .int v17])), (a3, .inl (kh, 100, .inr (.inr (.inr (.inr (fun _ => none))))))] sz)) 0 0 (va_A [(h0, .inr (7, [.ref a0, .int v1, .ref a2, .ref a3, .int v4, .int v5, .ref a6, .ref a7, .ref a8, .int v9, .int v10, .ref a11, .ref a12, .int v13, .ref a14, .ref a15, .ref a16, .int v17])), (a3, .inl (kh, 100, .inr (.inr (.inr (.inr (fun _ => none))))))] sz) := by
  refine Met.ofW (cc := cX7_forget) (maxL := 4) (ret := (some .boolean)) (by decide) rfl ?_
  intro p e s m args below meth c s₁ B hml hv
  obtain ⟨rfl, hsz, hP, hK, hD0⟩ := hv
  have hx := B.exec
  have hb := B.bytes
  have hr := B.returns
  have hts := atoms_spec (ws := wsX7_forget) B.pre
  have hown : s.vm.findClass RX7 = some m.cls := findClass_of_methodNamed B.named
  have hlocks := B.notSynchronized
  subst hsz
  have hD := hD0.self (sz := s.heap.size)
  generalize hAe : va_A [(h0, .inr (7, [.ref a0, .int v1, .ref a2, .ref a3, .int v4, .int v5, .ref a6, .ref a7, .ref a8, .int v9, .int v10, .ref a11, .ref a12, .int v13, .ref a14, .ref a15, .ref a16, .int v17])), (a3, .inl (kh, 100, .inr (.inr (.inr (.inr (fun _ => none))))))] s.heap.size = A at hD ⊢
  have hA : ∀ q : Nat, s.heap.size ≤ q → A q := fun q h => by rw [← hAe]; exact Or.inr h
  have hS : va_S A s.heap s.heap [] := va_S.rf
  replace hP : va_P (dC, dI) vwCl [(h0, .inr (7, [.ref a0, .int v1, .ref a2, .ref a3, .int v4, .int v5, .ref a6, .ref a7, .ref a8, .int v9, .int v10, .ref a11, .ref a12, .int v13, .ref a14, .ref a15, .ref a16, .int v17])), (a3, .inl (kh, 100, .inr (.inr (.inr (.inr (fun _ => none))))))] s.heap := hP
  have hl := lv_entry ([.ref h0, .int p0]) (n := 4) (Nat.le_of_ble_eq_true rfl)
  rw [lg_entry_eq]
  generalize (lg_sl ([.ref h0, .int p0]) ++ List.replicate (4 - (lg_sl ([.ref h0, .int p0])).length) Slot.unset).toArray = ls at hl ⊢
  replace hl : lv_has ls 4 [(0, .ref h0), (1, .int p0)] := hl
  refine lv_aload_n hx hb dX7_forget_0 rfl (lv_at hl 0 rfl) ?_
  refine lv_iload_n hx hb dX7_forget_1 rfl (lv_at hl 1 rfl) ?_
  have hPc := hP.sub (ws' := [(h0, .inr (7, [.ref a0, .int v1, .ref a2, .ref a3, .int v4, .int v5, .ref a6, .ref a7, .ref a8, .int v9, .int v10, .ref a11, .ref a12, .int v13, .ref a14, .ref a15, .ref a16, .int v17])), (a3, .inl (kh, 100, .inr (.inr (.inr (.inr (fun _ => none))))))]) [0, 1] rfl
  have hKc := hK.sub (tys' := [(kh, .object "TongueTeller$Learnt")]) [0] rfl
  refine vp_callSi (W.runV (As := [.int p0]) (rest := []) ⟨hx, hb, hml, hown, hts⟩ (c_X7_placeOf l dC dI h0 a0 v1 a2 a3 v4 v5 a6 a7 a8 v9 v10 a11 a12 v13 a14 a15 a16 v17 kh p0) (cwV 1 hts gX7_forget_X7_placeOf rfl rfl rfl (by decide +kernel) ⟨Nat.le_of_ble_eq_true rfl, Nat.le_of_ble_eq_true rfl⟩) ⟨fun a U g mk q => by obtain ⟨q0, qP, qK⟩ := q; exact ⟨q0, qP, va_K.moved (u := U) (U := U.calling g mk a) (Vm.Alike.refl U.vm) qK⟩, va_recv hK hP (ci := 7) (q0 := 0) rfl rfl, fun U hU hW => ⟨rfl, by rw [hU]; exact hPc, va_K.moved hW.alike hKc⟩⟩ rfl rfl hl.1 rfl (lv_room (Nat.le_of_ble_eq_true rfl)) dX7_forget_2 ⟨Nat.le_of_ble_eq_true rfl, Nat.le_of_ble_eq_true rfl⟩) (fun r_2 hw_2 => ?_)
  obtain rfl : (-1) = r_2 := Eq.symm hw_2
  refine lv_istore_n (lv' := [(2, .int (-1)), (0, .ref h0), (1, .int p0)]) hx hb dX7_forget_5 rfl hl (by decide) rfl (fun ls hl => ?_)
  refine lv_iload_n hx hb dX7_forget_6 rfl (lv_at hl 0 rfl) ?_
  refine lv_iconst (v := (-1)) hx hb dX7_forget_7 (by decide) ?_
  refine lv_icmp_ne (tgt := 15) hx hb dX7_forget_8 (by decide) (fun c_8 => ?_) (fun c_8 => ?_)
  · exact absurd (by decide) c_8
  refine lv_null hx hb dX7_forget_11 ?_
  refine lv_goto (tgt := 21) hx hb dX7_forget_12 (by decide) ?_
  refine lv_astore_nN (lv' := [(3, .null), (2, .int (-1)), (0, .ref h0), (1, .int p0)]) hx hb dX7_forget_21 rfl hl (by decide) rfl (fun ls hl => ?_)
  refine lv_aload_nN hx hb dX7_forget_22 rfl (lv_at hl 0 rfl) ?_
  refine lv_ifnonnullN hx hb dX7_forget_23 ?_
  refine lv_aload_n hx hb dX7_forget_26 rfl (lv_at hl 2 rfl) ?_
  refine lv_iconst (v := 1) hx hb dX7_forget_27 (by decide) ?_
  have hPc := hP.sub (ws' := [(h0, .inr (7, [.ref a0, .int v1, .ref a2, .ref a3, .int v4, .int v5, .ref a6, .ref a7, .ref a8, .int v9, .int v10, .ref a11, .ref a12, .int v13, .ref a14, .ref a15, .ref a16, .int v17]))]) [0] rfl
  have hDc := hD.sub (ws' := [(h0, .inr (7, [.ref a0, .int v1, .ref a2, .ref a3, .int v4, .int v5, .ref a6, .ref a7, .ref a8, .int v9, .int v10, .ref a11, .ref a12, .int v13, .ref a14, .ref a15, .ref a16, .int v17]))]) [0] (by decide) rfl
  have hKc := hK.sub (tys' := []) [] rfl
  have hFc := va_free (wc := [(h0, .inr (7, [.ref a0, .int v1, .ref a2, .ref a3, .int v4, .int v5, .ref a6, .ref a7, .ref a8, .int v9, .int v10, .ref a11, .ref a12, .int v13, .ref a14, .ref a15, .ref a16, .int v17]))]) hD hS hA [0] rfl
  refine va_calli (va_runV (As := [.int 1]) (rest := []) ⟨hx, hb, hml, hown, hts⟩ (c_X7_refuse l dC dI h0 a0 v1 a2 a3 v4 v5 a6 a7 a8 v9 v10 a11 a12 v13 a14 a15 a16 v17 1 s.heap.size) (cwV 1 hts gX7_forget_X7_refuse rfl rfl rfl (by decide +kernel) ⟨Nat.le_of_ble_eq_true rfl, Nat.le_of_ble_eq_true rfl⟩) ⟨fun a U g mk q => by obtain ⟨q0, q1, qP, qK, qD⟩ := q; exact ⟨q0, q1, qP, va_K.moved (u := U) (U := U.calling g mk a) (Vm.Alike.refl U.vm) qK, qD⟩, va_recv hK hP (ci := 7) (q0 := 0) rfl rfl, fun U hU hW => ⟨rfl, by rw [hU], by rw [hU]; exact hPc, va_K.moved hW.alike hKc, hDc.weaken (fun _ _ _ _ => trivial)⟩⟩ rfl rfl hl.1 rfl (lv_room (Nat.le_of_ble_eq_true rfl)) dX7_forget_28 ⟨Nat.le_of_ble_eq_true rfl, Nat.le_of_ble_eq_true rfl⟩) hS (fun q _ h => hFc q h) hFc (fun r_28 u t H1 locs ht hvm hw_28 hB hz1 hk1 hS => ?_)
  obtain ⟨hP1, hD1⟩ := hB
  rw [ht] at hP1
  obtain ⟨hP, hD⟩ := va_join (wr := [(a3, .inl (kh, 100, .inr (.inr (.inr (.inr (fun _ => none))))))]) (w1 := [(h0, .inr (7, [.ref a0, .int v1, .ref a2, .ref a3, .int v4, .int v5, .ref a6, .ref a7, .ref a8, .int v9, .int v10, .ref a11, .ref a12, .int v13, .ref a14, .ref a15, .ref a16, .int 1]))]) hP hD [0] [1] rfl rfl (by decide) (by decide) hk1 hFc hP1 hD1
  generalize H1 = H at hP hS ⊢
  replace hP : va_P (dC, dI) vwCl [(a3, .inl (kh, 100, .inr (.inr (.inr (.inr (fun _ => none)))))), (h0, .inr (7, [.ref a0, .int v1, .ref a2, .ref a3, .int v4, .int v5, .ref a6, .ref a7, .ref a8, .int v9, .int v10, .ref a11, .ref a12, .int v13, .ref a14, .ref a15, .ref a16, .int 1]))] H := hP
  replace hD : va_D A [(a3, .inl (kh, 100, .inr (.inr (.inr (.inr (fun _ => none)))))), (h0, .inr (7, [.ref a0, .int v1, .ref a2, .ref a3, .int v4, .int v5, .ref a6, .ref a7, .ref a8, .int v9, .int v10, .ref a11, .ref a12, .int v13, .ref a14, .ref a15, .ref a16, .int 1]))] := hD
  obtain rfl : (-1) = r_28 := Eq.symm hw_28
  refine lv_pop hx hb dX7_forget_31 rfl ?_
  refine lv_iconst (v := 0) hx hb dX7_forget_32 (by decide) ?_
  have hP9 := hP.sub (ws' := [(h0, .inr (7, [.ref a0, .int v1, .ref a2, .ref a3, .int v4, .int v5, .ref a6, .ref a7, .ref a8, .int v9, .int v10, .ref a11, .ref a12, .int v13, .ref a14, .ref a15, .ref a16, .int 1])), (a3, .inl (kh, 100, .inr (.inr (.inr (.inr (fun _ => none))))))]) [1, 0] rfl
  have hD9 := hD.sub (ws' := [(h0, .inr (7, [.ref a0, .int v1, .ref a2, .ref a3, .int v4, .int v5, .ref a6, .ref a7, .ref a8, .int v9, .int v10, .ref a11, .ref a12, .int v13, .ref a14, .ref a15, .ref a16, .int 1])), (a3, .inl (kh, 100, .inr (.inr (.inr (.inr (fun _ => none))))))]) [1, 0] (by decide) rfl
  exact W.zret (v := 0) hx hb hr (rfl) (fun t ht hW => ⟨⟨0, (), rfl, rfl, by rw [ht]; exact hP9, hD9⟩, hS.F ht⟩) hS.2.2 dX7_forget_33

set_option maxHeartbeats 4000000 in
set_option maxRecDepth 100000 in
theorem c_X7_tapeBehindDraft_0 (l : Launch) (dC : Nat → ClassId) (dI : Nat → Nat → Nat) (h0 : Nat) (a0 : Nat) (v1 : Int32) (a2 : Nat) (a3 : Nat) (v4 : Int32) (v5 : Int32) (a6 : Nat) (a7 : Nat) (a8 : Nat) (v9 : Int32) (v10 : Int32) (a11 : Nat) (a12 : Nat) (v13 : Int32) (a14 : Nat) (a15 : Nat) (a16 : Nat) (v17 : Int32) (d0 : Nat) (d1 : Nat) (d2 : Nat) (kd : ClassId) (kt : ClassId) (fd : Nat → Int32) (ft : Nat → Int32) (sz : Nat) : Met l yX7_tapeBehindDraft wsX7_tapeBehindDraft ({ frames := 2, cells := 0, slots := 0, locals := 40 }) (va_Pc [.ref h0, .int 0] (fun U => U.heap.size = sz ∧ va_P (dC, dI) vwCl [(h0, .inr (7, [.ref a0, .int v1, .ref a2, .ref a3, .int v4, .int v5, .ref a6, .ref a7, .ref a8, .int v9, .int v10, .ref a11, .ref a12, .int v13, .ref a14, .ref a15, .ref a16, .int v17])), (a12, .inr (2, [.ref d0, .ref d1, .ref d2, .int 0, .int 0])), (d0, .inl (kd, 600, .inl fd)), (a0, .inl (kt, 600, .inl ft))] U.heap ∧ va_K (dC, dI) vwCl [(kd, .byte), (kt, .byte)] U ∧ va_D (fun _ => True) [(h0, .inr (7, [.ref a0, .int v1, .ref a2, .ref a3, .int v4, .int v5, .ref a6, .ref a7, .ref a8, .int v9, .int v10, .ref a11, .ref a12, .int v13, .ref a14, .ref a15, .ref a16, .int v17])), (a12, .inr (2, [.ref d0, .ref d1, .ref d2, .int 0, .int 0])), (d0, .inl (kd, 600, .inl fd)), (a0, .inl (kt, 600, .inl ft))])) (va_Qi (fun (r : Int32) (u : Nat → Int32) => match u with | fo => r = 1) (fun (u : Nat → Int32) (t : State) => match u with | fo => va_P (dC, dI) vwCl [(h0, .inr (7, [.ref a0, .int 0, .ref a2, .ref a3, .int v4, .int v5, .ref a6, .ref a7, .ref a8, .int v9, .int v10, .ref a11, .ref a12, .int v13, .ref a14, .ref a15, .ref a16, .int v17])), (a12, .inr (2, [.ref d0, .ref d1, .ref d2, .int 0, .int 0])), (d0, .inl (kd, 600, .inl fo)), (a0, .inl (kt, 600, .inl ft))] t.heap ∧ va_D (va_A [(h0, .inr (7, [.ref a0, .int v1, .ref a2, .ref a3, .int v4, .int v5, .ref a6, .ref a7, .ref a8, .int v9, .int v10, .ref a11, .ref a12, .int v13, .ref a14, .ref a15, .ref a16, .int v17])), (a12, .inr (2, [.ref d0, .ref d1, .ref d2, .int 0, .int 0])), (d0, .inl (kd, 600, .inl fd)), (a0, .inl (kt, 600, .inl ft))] sz) [(h0, .inr (7, [.ref a0, .int 0, .ref a2, .ref a3, .int v4, .int v5, .ref a6, .ref a7, .ref a8, .int v9, .int v10, .ref a11, .ref a12, .int v13, .ref a14, .ref a15, .ref a16, .int v17])), (a12, .inr (2, [.ref d0, .ref d1, .ref d2, .int 0, .int 0])), (d0, .inl (kd, 600, .inl fo)), (a0, .inl (kt, 600, .inl ft))]) (va_A [(h0, .inr (7, [.ref a0, .int v1, .ref a2, .ref a3, .int v4, .int v5, .ref a6, .ref a7, .ref a8, .int v9, .int v10, .ref a11, .ref a12, .int v13, .ref a14, .ref a15, .ref a16, .int v17])), (a12, .inr (2, [.ref d0, .ref d1, .ref d2, .int 0, .int 0])), (d0, .inl (kd, 600, .inl fd)), (a0, .inl (kt, 600, .inl ft))] sz)) 0 0 (va_A [(h0, .inr (7, [.ref a0, .int v1, .ref a2, .ref a3, .int v4, .int v5, .ref a6, .ref a7, .ref a8, .int v9, .int v10, .ref a11, .ref a12, .int v13, .ref a14, .ref a15, .ref a16, .int v17])), (a12, .inr (2, [.ref d0, .ref d1, .ref d2, .int 0, .int 0])), (d0, .inl (kd, 600, .inl fd)), (a0, .inl (kt, 600, .inl ft))] sz) := by
  refine Met.ofW (cc := cX7_tapeBehindDraft) (maxL := 2) (ret := (some .boolean)) (by decide) rfl ?_
  intro p e s m args below meth c s₁ B hml hv
  obtain ⟨rfl, hsz, hP, hK, hD0⟩ := hv
  have hx := B.exec
  have hb := B.bytes
  have hr := B.returns
  have hts := atoms_spec (ws := wsX7_tapeBehindDraft) B.pre
  have hown : s.vm.findClass RX7 = some m.cls := findClass_of_methodNamed B.named
  have hlocks := B.notSynchronized
  subst hsz
  have hD := hD0.self (sz := s.heap.size)
  generalize hAe : va_A [(h0, .inr (7, [.ref a0, .int v1, .ref a2, .ref a3, .int v4, .int v5, .ref a6, .ref a7, .ref a8, .int v9, .int v10, .ref a11, .ref a12, .int v13, .ref a14, .ref a15, .ref a16, .int v17])), (a12, .inr (2, [.ref d0, .ref d1, .ref d2, .int 0, .int 0])), (d0, .inl (kd, 600, .inl fd)), (a0, .inl (kt, 600, .inl ft))] s.heap.size = A at hD ⊢
  have hA : ∀ q : Nat, s.heap.size ≤ q → A q := fun q h => by rw [← hAe]; exact Or.inr h
  have hS : va_S A s.heap s.heap [] := va_S.rf
  replace hP : va_P (dC, dI) vwCl [(h0, .inr (7, [.ref a0, .int v1, .ref a2, .ref a3, .int v4, .int v5, .ref a6, .ref a7, .ref a8, .int v9, .int v10, .ref a11, .ref a12, .int v13, .ref a14, .ref a15, .ref a16, .int v17])), (a12, .inr (2, [.ref d0, .ref d1, .ref d2, .int 0, .int 0])), (d0, .inl (kd, 600, .inl fd)), (a0, .inl (kt, 600, .inl ft))] s.heap := hP
  have hl := lv_entry ([.ref h0, .int 0]) (n := 2) (Nat.le_of_ble_eq_true rfl)
  rw [lg_entry_eq]
  generalize (lg_sl ([.ref h0, .int 0]) ++ List.replicate (2 - (lg_sl ([.ref h0, .int 0])).length) Slot.unset).toArray = ls at hl ⊢
  replace hl : lv_has ls 2 [(0, .ref h0), (1, .int 0)] := hl
  have hi_X7 : ∀ w ∈ wsX70, w ∈ wsX7_tapeBehindDraft := by decide +kernel
  have k_f13 := hts (.fieldLink RX7 13 "TongueTeller" "tapeSize" "I") (by decide +kernel)
  have k_f65 := hts (.fieldLink RX7 65 "TongueTeller" "draft" "LTongueTeller$Script;") (by decide +kernel)
  have k_f9 := hts (.fieldLink RX7 9 "TongueTeller" "tape" "[B") (by decide +kernel)
  refine lv_aload_n hx hb dX7_tapeBehindDraft_0 rfl (lv_at hl 0 rfl) ?_
  refine lv_iconst (v := 0) hx hb dX7_tapeBehindDraft_1 (by decide) ?_
  refine va_put (D := (dC, dI)) (ci := 7) (v := .int 0) (ty := .int) (C := RX7) (T := TX7) (N := 18) hx hb hts hi_X7 tyX7 tyX7_ok nmX7 hown hK hP hD hS 0 rfl rfl 1 (by decide) k_f13 (fun _ h9 => h9) rfl (by decide +kernel) rfl rfl (Nat.le_of_ble_eq_true rfl) dX7_tapeBehindDraft_2 (fun H locs hP hD hS => ?_)
  replace hP : va_P (dC, dI) vwCl [(h0, .inr (7, [.ref a0, .int 0, .ref a2, .ref a3, .int v4, .int v5, .ref a6, .ref a7, .ref a8, .int v9, .int v10, .ref a11, .ref a12, .int v13, .ref a14, .ref a15, .ref a16, .int v17])), (a12, .inr (2, [.ref d0, .ref d1, .ref d2, .int 0, .int 0])), (d0, .inl (kd, 600, .inl fd)), (a0, .inl (kt, 600, .inl ft))] H := hP
  replace hD : va_D A [(h0, .inr (7, [.ref a0, .int 0, .ref a2, .ref a3, .int v4, .int v5, .ref a6, .ref a7, .ref a8, .int v9, .int v10, .ref a11, .ref a12, .int v13, .ref a14, .ref a15, .ref a16, .int v17])), (a12, .inr (2, [.ref d0, .ref d1, .ref d2, .int 0, .int 0])), (d0, .inl (kd, 600, .inl fd)), (a0, .inl (kt, 600, .inl ft))] := hD
  refine lv_aload_n hx hb dX7_tapeBehindDraft_5 rfl (lv_at hl 0 rfl) ?_
  refine va_get (D := (dC, dI)) (ci := 7) (v := .ref a12) (C := RX7) (T := TX7) (N := 18) hx hb hts hi_X7 hown hK hP 0 rfl rfl 12 (by decide) k_f65 (fun _ h9 => h9) rfl dX7_tapeBehindDraft_6 ?_
  refine lv_aload_n hx hb dX7_tapeBehindDraft_9 rfl (lv_at hl 0 rfl) ?_
  refine va_get (D := (dC, dI)) (ci := 7) (v := .ref a0) (C := RX7) (T := TX7) (N := 18) hx hb hts hi_X7 hown hK hP 0 rfl rfl 0 (by decide) k_f9 (fun _ h9 => h9) rfl dX7_tapeBehindDraft_10 ?_
  refine lv_iload_n hx hb dX7_tapeBehindDraft_13 rfl (lv_at hl 1 rfl) ?_
  have hPc := hP.sub (ws' := [(a12, .inr (2, [.ref d0, .ref d1, .ref d2, .int 0, .int 0])), (d0, .inl (kd, 600, .inl fd)), (a0, .inl (kt, 600, .inl ft))]) [1, 2, 3] rfl
  have hDc := hD.sub (ws' := [(a12, .inr (2, [.ref d0, .ref d1, .ref d2, .int 0, .int 0])), (d0, .inl (kd, 600, .inl fd)), (a0, .inl (kt, 600, .inl ft))]) [1, 2, 3] (by decide) rfl
  have hKc := hK.sub (tys' := [(kd, .byte), (kt, .byte)]) [0, 1] rfl
  have hFc := va_free (wc := [(a12, .inr (2, [.ref d0, .ref d1, .ref d2, .int 0, .int 0])), (d0, .inl (kd, 600, .inl fd)), (a0, .inl (kt, 600, .inl ft))]) hD hS hA [1, 2, 3] rfl
  refine va_calli (va_runV (As := [.ref a0, .int 0]) (rest := []) ⟨hx, hb, hml, hown, hts⟩ (c_X2_append_0 l dC dI a12 d0 d1 d2 0 a0 kd kt fd ft H.size) (cwV 2 hts gX7_tapeBehindDraft_X2_append rfl rfl rfl (by decide +kernel) ⟨Nat.le_of_ble_eq_true rfl, Nat.le_of_ble_eq_true rfl⟩) ⟨fun a U g mk q => by obtain ⟨q0, q1, qP, qK, qD⟩ := q; exact ⟨q0, q1, qP, va_K.moved (u := U) (U := U.calling g mk a) (Vm.Alike.refl U.vm) qK, qD⟩, va_recv hK hP (ci := 2) (q0 := 1) rfl rfl, fun U hU hW => ⟨rfl, by rw [hU], by rw [hU]; exact hPc, va_K.moved hW.alike hKc, hDc.weaken (fun _ _ _ _ => trivial)⟩⟩ rfl rfl hl.1 rfl (lv_room (Nat.le_of_ble_eq_true rfl)) dX7_tapeBehindDraft_14 ⟨Nat.le_of_ble_eq_true rfl, Nat.le_of_ble_eq_true rfl⟩) hS (fun q _ h => hFc q h) hFc (fun r_14 u t H1 locs ht hvm hw_14 hB hz1 hk1 hS => ?_)
  obtain ⟨fo_14, rfl⟩ : ∃ z, z = u := ⟨_, rfl⟩
  try dsimp only at hw_14 hB
  obtain ⟨hP1, hD1⟩ := hB
  rw [ht] at hP1
  obtain ⟨hP, hD⟩ := va_join (wr := [(h0, .inr (7, [.ref a0, .int 0, .ref a2, .ref a3, .int v4, .int v5, .ref a6, .ref a7, .ref a8, .int v9, .int v10, .ref a11, .ref a12, .int v13, .ref a14, .ref a15, .ref a16, .int v17]))]) (w1 := [(a12, .inr (2, [.ref d0, .ref d1, .ref d2, .int 0, .int 0])), (d0, .inl (kd, 600, .inl fo_14)), (a0, .inl (kt, 600, .inl ft))]) hP hD [1, 2, 3] [0] rfl rfl (by decide) (by decide) hk1 hFc hP1 hD1
  generalize H1 = H at hP hS ⊢
  replace hP : va_P (dC, dI) vwCl [(h0, .inr (7, [.ref a0, .int 0, .ref a2, .ref a3, .int v4, .int v5, .ref a6, .ref a7, .ref a8, .int v9, .int v10, .ref a11, .ref a12, .int v13, .ref a14, .ref a15, .ref a16, .int v17])), (a12, .inr (2, [.ref d0, .ref d1, .ref d2, .int 0, .int 0])), (d0, .inl (kd, 600, .inl fo_14)), (a0, .inl (kt, 600, .inl ft))] H := hP
  replace hD : va_D A [(h0, .inr (7, [.ref a0, .int 0, .ref a2, .ref a3, .int v4, .int v5, .ref a6, .ref a7, .ref a8, .int v9, .int v10, .ref a11, .ref a12, .int v13, .ref a14, .ref a15, .ref a16, .int v17])), (a12, .inr (2, [.ref d0, .ref d1, .ref d2, .int 0, .int 0])), (d0, .inl (kd, 600, .inl fo_14)), (a0, .inl (kt, 600, .inl ft))] := hD
  obtain rfl : 1 = r_14 := Eq.symm hw_14
  refine lv_if_eq (tgt := 34) hx hb dX7_tapeBehindDraft_17 (by decide) (fun c_17 => ?_) (fun c_17 => ?_)
  · exact absurd c_17 (by decide)
  refine lv_aload_n hx hb dX7_tapeBehindDraft_20 rfl (lv_at hl 0 rfl) ?_
  refine va_get (D := (dC, dI)) (ci := 7) (v := .ref a12) (C := RX7) (T := TX7) (N := 18) hx hb hts hi_X7 hown hK hP 0 rfl rfl 12 (by decide) k_f65 (fun _ h9 => h9) rfl dX7_tapeBehindDraft_21 ?_
  have hPc := hP.sub (ws' := [(a12, .inr (2, [.ref d0, .ref d1, .ref d2, .int 0, .int 0]))]) [1] rfl
  have hDc := hD.sub (ws' := [(a12, .inr (2, [.ref d0, .ref d1, .ref d2, .int 0, .int 0]))]) [1] (by decide) rfl
  have hKc := hK.sub (tys' := []) [] rfl
  have hFc := va_free (wc := [(a12, .inr (2, [.ref d0, .ref d1, .ref d2, .int 0, .int 0]))]) hD hS hA [1] rfl
  refine va_calli (va_runV (As := []) (rest := []) ⟨hx, hb, hml, hown, hts⟩ (c_X2_findWords_0 l dC dI a12 d0 d1 d2 0 H.size) (cwV 0 hts gX7_tapeBehindDraft_X2_findWords rfl rfl rfl (by decide +kernel) ⟨Nat.le_of_ble_eq_true rfl, Nat.le_of_ble_eq_true rfl⟩) ⟨fun a U g mk q => by obtain ⟨q0, q1, qP, qK, qD⟩ := q; exact ⟨q0, q1, qP, va_K.moved (u := U) (U := U.calling g mk a) (Vm.Alike.refl U.vm) qK, qD⟩, va_recv hK hP (ci := 2) (q0 := 1) rfl rfl, fun U hU hW => ⟨rfl, by rw [hU], by rw [hU]; exact hPc, va_K.moved hW.alike hKc, hDc.weaken (fun _ _ _ _ => trivial)⟩⟩ rfl rfl hl.1 rfl (lv_room (Nat.le_of_ble_eq_true rfl)) dX7_tapeBehindDraft_24 ⟨Nat.le_of_ble_eq_true rfl, Nat.le_of_ble_eq_true rfl⟩) hS (fun q _ h => hFc q h) hFc (fun r_24 u t H1 locs ht hvm hw_24 hB hz1 hk1 hS => ?_)
  obtain ⟨hP1, hD1⟩ := hB
  rw [ht] at hP1
  obtain ⟨hP, hD⟩ := va_join (wr := [(h0, .inr (7, [.ref a0, .int 0, .ref a2, .ref a3, .int v4, .int v5, .ref a6, .ref a7, .ref a8, .int v9, .int v10, .ref a11, .ref a12, .int v13, .ref a14, .ref a15, .ref a16, .int v17])), (d0, .inl (kd, 600, .inl fo_14)), (a0, .inl (kt, 600, .inl ft))]) (w1 := [(a12, .inr (2, [.ref d0, .ref d1, .ref d2, .int 0, .int 0]))]) hP hD [1] [0, 2, 3] rfl rfl (by decide) (by decide) hk1 hFc hP1 hD1
  generalize H1 = H at hP hS ⊢
  replace hP : va_P (dC, dI) vwCl [(h0, .inr (7, [.ref a0, .int 0, .ref a2, .ref a3, .int v4, .int v5, .ref a6, .ref a7, .ref a8, .int v9, .int v10, .ref a11, .ref a12, .int v13, .ref a14, .ref a15, .ref a16, .int v17])), (d0, .inl (kd, 600, .inl fo_14)), (a0, .inl (kt, 600, .inl ft)), (a12, .inr (2, [.ref d0, .ref d1, .ref d2, .int 0, .int 0]))] H := hP
  replace hD : va_D A [(h0, .inr (7, [.ref a0, .int 0, .ref a2, .ref a3, .int v4, .int v5, .ref a6, .ref a7, .ref a8, .int v9, .int v10, .ref a11, .ref a12, .int v13, .ref a14, .ref a15, .ref a16, .int v17])), (d0, .inl (kd, 600, .inl fo_14)), (a0, .inl (kt, 600, .inl ft)), (a12, .inr (2, [.ref d0, .ref d1, .ref d2, .int 0, .int 0]))] := hD
  obtain rfl : 1 = r_24 := Eq.symm hw_24
  refine lv_if_eq (tgt := 34) hx hb dX7_tapeBehindDraft_27 (by decide) (fun c_27 => ?_) (fun c_27 => ?_)
  · exact absurd c_27 (by decide)
  refine lv_iconst (v := 1) hx hb dX7_tapeBehindDraft_30 (by decide) ?_
  refine lv_goto (tgt := 35) hx hb dX7_tapeBehindDraft_31 (by decide) ?_
  have hP9 := hP.sub (ws' := [(h0, .inr (7, [.ref a0, .int 0, .ref a2, .ref a3, .int v4, .int v5, .ref a6, .ref a7, .ref a8, .int v9, .int v10, .ref a11, .ref a12, .int v13, .ref a14, .ref a15, .ref a16, .int v17])), (a12, .inr (2, [.ref d0, .ref d1, .ref d2, .int 0, .int 0])), (d0, .inl (kd, 600, .inl fo_14)), (a0, .inl (kt, 600, .inl ft))]) [0, 3, 1, 2] rfl
  have hD9 := hD.sub (ws' := [(h0, .inr (7, [.ref a0, .int 0, .ref a2, .ref a3, .int v4, .int v5, .ref a6, .ref a7, .ref a8, .int v9, .int v10, .ref a11, .ref a12, .int v13, .ref a14, .ref a15, .ref a16, .int v17])), (a12, .inr (2, [.ref d0, .ref d1, .ref d2, .int 0, .int 0])), (d0, .inl (kd, 600, .inl fo_14)), (a0, .inl (kt, 600, .inl ft))]) [0, 3, 1, 2] (by decide) rfl
  exact W.zret (v := 1) hx hb hr (rfl) (fun t ht hW => ⟨⟨1, fo_14, rfl, rfl, by rw [ht]; exact hP9, hD9⟩, hS.F ht⟩) hS.2.2 dX7_tapeBehindDraft_35

set_option maxHeartbeats 4000000 in
set_option maxRecDepth 100000 in
theorem c_X7_draftFromTape_0 (l : Launch) (dC : Nat → ClassId) (dI : Nat → Nat → Nat) (h0 : Nat) (a0 : Nat) (v1 : Int32) (a2 : Nat) (a3 : Nat) (v4 : Int32) (v5 : Int32) (a6 : Nat) (a7 : Nat) (a8 : Nat) (v9 : Int32) (v10 : Int32) (a11 : Nat) (a12 : Nat) (v13 : Int32) (a14 : Nat) (a15 : Nat) (a16 : Nat) (v17 : Int32) (d0 : Nat) (d1 : Nat) (d2 : Nat) (kd : ClassId) (kt : ClassId) (fd : Nat → Int32) (ft : Nat → Int32) (sz : Nat) : Met l yX7_draftFromTape wsX7_draftFromTape ({ frames := 3, cells := 0, slots := 0, locals := 61 }) (va_Pc [.ref h0, .int 0] (fun U => U.heap.size = sz ∧ va_P (dC, dI) vwCl [(h0, .inr (7, [.ref a0, .int v1, .ref a2, .ref a3, .int v4, .int v5, .ref a6, .ref a7, .ref a8, .int v9, .int v10, .ref a11, .ref a12, .int v13, .ref a14, .ref a15, .ref a16, .int v17])), (a12, .inr (2, [.ref d0, .ref d1, .ref d2, .int 0, .int 0])), (d0, .inl (kd, 600, .inl fd)), (a0, .inl (kt, 600, .inl ft))] U.heap ∧ va_K (dC, dI) vwCl [(kd, .byte), (kt, .byte)] U ∧ va_D (fun _ => True) [(h0, .inr (7, [.ref a0, .int v1, .ref a2, .ref a3, .int v4, .int v5, .ref a6, .ref a7, .ref a8, .int v9, .int v10, .ref a11, .ref a12, .int v13, .ref a14, .ref a15, .ref a16, .int v17])), (a12, .inr (2, [.ref d0, .ref d1, .ref d2, .int 0, .int 0])), (d0, .inl (kd, 600, .inl fd)), (a0, .inl (kt, 600, .inl ft))])) (va_Qi (fun (r : Int32) (u : Nat → Int32) => match u with | fo => r = 1) (fun (u : Nat → Int32) (t : State) => match u with | fo => va_P (dC, dI) vwCl [(h0, .inr (7, [.ref a0, .int 0, .ref a2, .ref a3, .int v4, .int v5, .ref a6, .ref a7, .ref a8, .int v9, .int v10, .ref a11, .ref a12, .int v13, .ref a14, .ref a15, .ref a16, .int v17])), (a12, .inr (2, [.ref d0, .ref d1, .ref d2, .int 0, .int 0])), (d0, .inl (kd, 600, .inl fo)), (a0, .inl (kt, 600, .inl ft))] t.heap ∧ va_D (va_A [(h0, .inr (7, [.ref a0, .int v1, .ref a2, .ref a3, .int v4, .int v5, .ref a6, .ref a7, .ref a8, .int v9, .int v10, .ref a11, .ref a12, .int v13, .ref a14, .ref a15, .ref a16, .int v17])), (a12, .inr (2, [.ref d0, .ref d1, .ref d2, .int 0, .int 0])), (d0, .inl (kd, 600, .inl fd)), (a0, .inl (kt, 600, .inl ft))] sz) [(h0, .inr (7, [.ref a0, .int 0, .ref a2, .ref a3, .int v4, .int v5, .ref a6, .ref a7, .ref a8, .int v9, .int v10, .ref a11, .ref a12, .int v13, .ref a14, .ref a15, .ref a16, .int v17])), (a12, .inr (2, [.ref d0, .ref d1, .ref d2, .int 0, .int 0])), (d0, .inl (kd, 600, .inl fo)), (a0, .inl (kt, 600, .inl ft))]) (va_A [(h0, .inr (7, [.ref a0, .int v1, .ref a2, .ref a3, .int v4, .int v5, .ref a6, .ref a7, .ref a8, .int v9, .int v10, .ref a11, .ref a12, .int v13, .ref a14, .ref a15, .ref a16, .int v17])), (a12, .inr (2, [.ref d0, .ref d1, .ref d2, .int 0, .int 0])), (d0, .inl (kd, 600, .inl fd)), (a0, .inl (kt, 600, .inl ft))] sz)) 0 0 (va_A [(h0, .inr (7, [.ref a0, .int v1, .ref a2, .ref a3, .int v4, .int v5, .ref a6, .ref a7, .ref a8, .int v9, .int v10, .ref a11, .ref a12, .int v13, .ref a14, .ref a15, .ref a16, .int v17])), (a12, .inr (2, [.ref d0, .ref d1, .ref d2, .int 0, .int 0])), (d0, .inl (kd, 600, .inl fd)), (a0, .inl (kt, 600, .inl ft))] sz) := by
  refine Met.ofW (cc := cX7_draftFromTape) (maxL := 2) (ret := (some .boolean)) (by decide) rfl ?_
  intro p e s m args below meth c s₁ B hml hv
  obtain ⟨rfl, hsz, hP, hK, hD0⟩ := hv
  have hx := B.exec
  have hb := B.bytes
  have hr := B.returns
  have hts := atoms_spec (ws := wsX7_draftFromTape) B.pre
  have hown : s.vm.findClass RX7 = some m.cls := findClass_of_methodNamed B.named
  have hlocks := B.notSynchronized
  subst hsz
  have hD := hD0.self (sz := s.heap.size)
  generalize hAe : va_A [(h0, .inr (7, [.ref a0, .int v1, .ref a2, .ref a3, .int v4, .int v5, .ref a6, .ref a7, .ref a8, .int v9, .int v10, .ref a11, .ref a12, .int v13, .ref a14, .ref a15, .ref a16, .int v17])), (a12, .inr (2, [.ref d0, .ref d1, .ref d2, .int 0, .int 0])), (d0, .inl (kd, 600, .inl fd)), (a0, .inl (kt, 600, .inl ft))] s.heap.size = A at hD ⊢
  have hA : ∀ q : Nat, s.heap.size ≤ q → A q := fun q h => by rw [← hAe]; exact Or.inr h
  have hS : va_S A s.heap s.heap [] := va_S.rf
  replace hP : va_P (dC, dI) vwCl [(h0, .inr (7, [.ref a0, .int v1, .ref a2, .ref a3, .int v4, .int v5, .ref a6, .ref a7, .ref a8, .int v9, .int v10, .ref a11, .ref a12, .int v13, .ref a14, .ref a15, .ref a16, .int v17])), (a12, .inr (2, [.ref d0, .ref d1, .ref d2, .int 0, .int 0])), (d0, .inl (kd, 600, .inl fd)), (a0, .inl (kt, 600, .inl ft))] s.heap := hP
  have hl := lv_entry ([.ref h0, .int 0]) (n := 2) (Nat.le_of_ble_eq_true rfl)
  rw [lg_entry_eq]
  generalize (lg_sl ([.ref h0, .int 0]) ++ List.replicate (2 - (lg_sl ([.ref h0, .int 0])).length) Slot.unset).toArray = ls at hl ⊢
  replace hl : lv_has ls 2 [(0, .ref h0), (1, .int 0)] := hl
  have hi_X7 : ∀ w ∈ wsX70, w ∈ wsX7_draftFromTape := by decide +kernel
  have k_f65 := hts (.fieldLink RX7 65 "TongueTeller" "draft" "LTongueTeller$Script;") (by decide +kernel)
  refine lv_aload_n hx hb dX7_draftFromTape_0 rfl (lv_at hl 0 rfl) ?_
  refine va_get (D := (dC, dI)) (ci := 7) (v := .ref a12) (C := RX7) (T := TX7) (N := 18) hx hb hts hi_X7 hown hK hP 0 rfl rfl 12 (by decide) k_f65 (fun _ h9 => h9) rfl dX7_draftFromTape_1 ?_
  have hPc := hP.sub (ws' := [(a12, .inr (2, [.ref d0, .ref d1, .ref d2, .int 0, .int 0]))]) [1] rfl
  have hDc := hD.sub (ws' := [(a12, .inr (2, [.ref d0, .ref d1, .ref d2, .int 0, .int 0]))]) [1] (by decide) rfl
  have hKc := hK.sub (tys' := []) [] rfl
  have hFc := va_free (wc := [(a12, .inr (2, [.ref d0, .ref d1, .ref d2, .int 0, .int 0]))]) hD hS hA [1] rfl
  refine va_callv (va_runV (As := []) (rest := []) ⟨hx, hb, hml, hown, hts⟩ (c_X2_empty l dC dI a12 d0 d1 d2 0 0 s.heap.size) (cwV 0 hts gX7_draftFromTape_X2_empty rfl rfl rfl (by decide +kernel) ⟨Nat.le_of_ble_eq_true rfl, Nat.le_of_ble_eq_true rfl⟩) ⟨fun a U g mk q => by obtain ⟨q0, q1, qP, qK, qD⟩ := q; exact ⟨q0, q1, qP, va_K.moved (u := U) (U := U.calling g mk a) (Vm.Alike.refl U.vm) qK, qD⟩, va_recv hK hP (ci := 2) (q0 := 1) rfl rfl, fun U hU hW => ⟨rfl, by rw [hU], by rw [hU]; exact hPc, va_K.moved hW.alike hKc, hDc.weaken (fun _ _ _ _ => trivial)⟩⟩ rfl rfl hl.1 rfl (lv_room (Nat.le_of_ble_eq_true rfl)) dX7_draftFromTape_4 ⟨Nat.le_of_ble_eq_true rfl, Nat.le_of_ble_eq_true rfl⟩) hS (fun q _ h => hFc q h) hFc (fun u t H1 locs ht hvm hw_4 hB hz1 hk1 hS => ?_)
  obtain ⟨hP1, hD1⟩ := hB
  rw [ht] at hP1
  obtain ⟨hP, hD⟩ := va_join (wr := [(h0, .inr (7, [.ref a0, .int v1, .ref a2, .ref a3, .int v4, .int v5, .ref a6, .ref a7, .ref a8, .int v9, .int v10, .ref a11, .ref a12, .int v13, .ref a14, .ref a15, .ref a16, .int v17])), (d0, .inl (kd, 600, .inl fd)), (a0, .inl (kt, 600, .inl ft))]) (w1 := [(a12, .inr (2, [.ref d0, .ref d1, .ref d2, .int 0, .int 0]))]) hP hD [1] [0, 2, 3] rfl rfl (by decide) (by decide) hk1 hFc hP1 hD1
  generalize H1 = H at hP hS ⊢
  replace hP : va_P (dC, dI) vwCl [(h0, .inr (7, [.ref a0, .int v1, .ref a2, .ref a3, .int v4, .int v5, .ref a6, .ref a7, .ref a8, .int v9, .int v10, .ref a11, .ref a12, .int v13, .ref a14, .ref a15, .ref a16, .int v17])), (d0, .inl (kd, 600, .inl fd)), (a0, .inl (kt, 600, .inl ft)), (a12, .inr (2, [.ref d0, .ref d1, .ref d2, .int 0, .int 0]))] H := hP
  replace hD : va_D A [(h0, .inr (7, [.ref a0, .int v1, .ref a2, .ref a3, .int v4, .int v5, .ref a6, .ref a7, .ref a8, .int v9, .int v10, .ref a11, .ref a12, .int v13, .ref a14, .ref a15, .ref a16, .int v17])), (d0, .inl (kd, 600, .inl fd)), (a0, .inl (kt, 600, .inl ft)), (a12, .inr (2, [.ref d0, .ref d1, .ref d2, .int 0, .int 0]))] := hD
  refine lv_aload_n hx hb dX7_draftFromTape_7 rfl (lv_at hl 0 rfl) ?_
  refine lv_iload_n hx hb dX7_draftFromTape_8 rfl (lv_at hl 1 rfl) ?_
  have hPc := hP.sub (ws' := [(h0, .inr (7, [.ref a0, .int v1, .ref a2, .ref a3, .int v4, .int v5, .ref a6, .ref a7, .ref a8, .int v9, .int v10, .ref a11, .ref a12, .int v13, .ref a14, .ref a15, .ref a16, .int v17])), (a12, .inr (2, [.ref d0, .ref d1, .ref d2, .int 0, .int 0])), (d0, .inl (kd, 600, .inl fd)), (a0, .inl (kt, 600, .inl ft))]) [0, 3, 1, 2] rfl
  have hDc := hD.sub (ws' := [(h0, .inr (7, [.ref a0, .int v1, .ref a2, .ref a3, .int v4, .int v5, .ref a6, .ref a7, .ref a8, .int v9, .int v10, .ref a11, .ref a12, .int v13, .ref a14, .ref a15, .ref a16, .int v17])), (a12, .inr (2, [.ref d0, .ref d1, .ref d2, .int 0, .int 0])), (d0, .inl (kd, 600, .inl fd)), (a0, .inl (kt, 600, .inl ft))]) [0, 3, 1, 2] (by decide) rfl
  have hKc := hK.sub (tys' := [(kd, .byte), (kt, .byte)]) [0, 1] rfl
  have hFc := va_free (wc := [(h0, .inr (7, [.ref a0, .int v1, .ref a2, .ref a3, .int v4, .int v5, .ref a6, .ref a7, .ref a8, .int v9, .int v10, .ref a11, .ref a12, .int v13, .ref a14, .ref a15, .ref a16, .int v17])), (a12, .inr (2, [.ref d0, .ref d1, .ref d2, .int 0, .int 0])), (d0, .inl (kd, 600, .inl fd)), (a0, .inl (kt, 600, .inl ft))]) hD hS hA [0, 3, 1, 2] rfl
  refine va_calli (va_runV (As := [.int 0]) (rest := []) ⟨hx, hb, hml, hown, hts⟩ (c_X7_tapeBehindDraft_0 l dC dI h0 a0 v1 a2 a3 v4 v5 a6 a7 a8 v9 v10 a11 a12 v13 a14 a15 a16 v17 d0 d1 d2 kd kt fd ft H.size) (cwV 1 hts gX7_draftFromTape_X7_tapeBehindDraft rfl rfl rfl (by decide +kernel) ⟨Nat.le_of_ble_eq_true rfl, Nat.le_of_ble_eq_true rfl⟩) ⟨fun a U g mk q => by obtain ⟨q0, q1, qP, qK, qD⟩ := q; exact ⟨q0, q1, qP, va_K.moved (u := U) (U := U.calling g mk a) (Vm.Alike.refl U.vm) qK, qD⟩, va_recv hK hP (ci := 7) (q0 := 0) rfl rfl, fun U hU hW => ⟨rfl, by rw [hU], by rw [hU]; exact hPc, va_K.moved hW.alike hKc, hDc.weaken (fun _ _ _ _ => trivial)⟩⟩ rfl rfl hl.1 rfl (lv_room (Nat.le_of_ble_eq_true rfl)) dX7_draftFromTape_9 ⟨Nat.le_of_ble_eq_true rfl, Nat.le_of_ble_eq_true rfl⟩) hS (fun q _ h => hFc q h) hFc (fun r_9 u t H1 locs ht hvm hw_9 hB hz1 hk1 hS => ?_)
  obtain ⟨fo_9, rfl⟩ : ∃ z, z = u := ⟨_, rfl⟩
  try dsimp only at hw_9 hB
  obtain ⟨hP1, hD1⟩ := hB
  rw [ht] at hP1
  obtain ⟨hP, hD⟩ := va_join (wr := []) (w1 := [(h0, .inr (7, [.ref a0, .int 0, .ref a2, .ref a3, .int v4, .int v5, .ref a6, .ref a7, .ref a8, .int v9, .int v10, .ref a11, .ref a12, .int v13, .ref a14, .ref a15, .ref a16, .int v17])), (a12, .inr (2, [.ref d0, .ref d1, .ref d2, .int 0, .int 0])), (d0, .inl (kd, 600, .inl fo_9)), (a0, .inl (kt, 600, .inl ft))]) hP hD [0, 3, 1, 2] [] rfl rfl (by decide) (by decide) hk1 hFc hP1 hD1
  generalize H1 = H at hP hS ⊢
  replace hP : va_P (dC, dI) vwCl [(h0, .inr (7, [.ref a0, .int 0, .ref a2, .ref a3, .int v4, .int v5, .ref a6, .ref a7, .ref a8, .int v9, .int v10, .ref a11, .ref a12, .int v13, .ref a14, .ref a15, .ref a16, .int v17])), (a12, .inr (2, [.ref d0, .ref d1, .ref d2, .int 0, .int 0])), (d0, .inl (kd, 600, .inl fo_9)), (a0, .inl (kt, 600, .inl ft))] H := hP
  replace hD : va_D A [(h0, .inr (7, [.ref a0, .int 0, .ref a2, .ref a3, .int v4, .int v5, .ref a6, .ref a7, .ref a8, .int v9, .int v10, .ref a11, .ref a12, .int v13, .ref a14, .ref a15, .ref a16, .int v17])), (a12, .inr (2, [.ref d0, .ref d1, .ref d2, .int 0, .int 0])), (d0, .inl (kd, 600, .inl fo_9)), (a0, .inl (kt, 600, .inl ft))] := hD
  obtain rfl : 1 = r_9 := Eq.symm hw_9
  have hP9 := hP.sub (ws' := [(h0, .inr (7, [.ref a0, .int 0, .ref a2, .ref a3, .int v4, .int v5, .ref a6, .ref a7, .ref a8, .int v9, .int v10, .ref a11, .ref a12, .int v13, .ref a14, .ref a15, .ref a16, .int v17])), (a12, .inr (2, [.ref d0, .ref d1, .ref d2, .int 0, .int 0])), (d0, .inl (kd, 600, .inl fo_9)), (a0, .inl (kt, 600, .inl ft))]) [0, 1, 2, 3] rfl
  have hD9 := hD.sub (ws' := [(h0, .inr (7, [.ref a0, .int 0, .ref a2, .ref a3, .int v4, .int v5, .ref a6, .ref a7, .ref a8, .int v9, .int v10, .ref a11, .ref a12, .int v13, .ref a14, .ref a15, .ref a16, .int v17])), (a12, .inr (2, [.ref d0, .ref d1, .ref d2, .int 0, .int 0])), (d0, .inl (kd, 600, .inl fo_9)), (a0, .inl (kt, 600, .inl ft))]) [0, 1, 2, 3] (by decide) rfl
  exact W.zret (v := 1) hx hb hr (rfl) (fun t ht hW => ⟨⟨1, fo_9, rfl, rfl, by rw [ht]; exact hP9, hD9⟩, hS.F ht⟩) hS.2.2 dX7_draftFromTape_12

set_option maxHeartbeats 4000000 in
set_option maxRecDepth 100000 in
theorem c_X7_draftIsOneWord_0 (l : Launch) (dC : Nat → ClassId) (dI : Nat → Nat → Nat) (h0 : Nat) (a0 : Nat) (v1 : Int32) (a2 : Nat) (a3 : Nat) (v4 : Int32) (v5 : Int32) (a6 : Nat) (a7 : Nat) (a8 : Nat) (v9 : Int32) (v10 : Int32) (a11 : Nat) (a12 : Nat) (v13 : Int32) (a14 : Nat) (a15 : Nat) (a16 : Nat) (v17 : Int32) (d0 : Nat) (d1 : Nat) (d2 : Nat) (kd : ClassId) (kt : ClassId) (fd : Nat → Int32) (ft : Nat → Int32) (sz : Nat) : Met l yX7_draftIsOneWord wsX7_draftIsOneWord ({ frames := 4, cells := 0, slots := 0, locals := 82 }) (va_Pc [.ref h0, .int 0] (fun U => U.heap.size = sz ∧ va_P (dC, dI) vwCl [(h0, .inr (7, [.ref a0, .int v1, .ref a2, .ref a3, .int v4, .int v5, .ref a6, .ref a7, .ref a8, .int v9, .int v10, .ref a11, .ref a12, .int v13, .ref a14, .ref a15, .ref a16, .int v17])), (a12, .inr (2, [.ref d0, .ref d1, .ref d2, .int 0, .int 0])), (d0, .inl (kd, 600, .inl fd)), (a0, .inl (kt, 600, .inl ft))] U.heap ∧ va_K (dC, dI) vwCl [(kd, .byte), (kt, .byte)] U ∧ va_D (fun _ => True) [(h0, .inr (7, [.ref a0, .int v1, .ref a2, .ref a3, .int v4, .int v5, .ref a6, .ref a7, .ref a8, .int v9, .int v10, .ref a11, .ref a12, .int v13, .ref a14, .ref a15, .ref a16, .int v17])), (a12, .inr (2, [.ref d0, .ref d1, .ref d2, .int 0, .int 0])), (d0, .inl (kd, 600, .inl fd)), (a0, .inl (kt, 600, .inl ft))])) (va_Qi (fun (r : Int32) (u : Nat → Int32) => match u with | fo => r = 0) (fun (u : Nat → Int32) (t : State) => match u with | fo => va_P (dC, dI) vwCl [(h0, .inr (7, [.ref a0, .int 0, .ref a2, .ref a3, .int v4, .int v5, .ref a6, .ref a7, .ref a8, .int v9, .int v10, .ref a11, .ref a12, .int v13, .ref a14, .ref a15, .ref a16, .int v17])), (a12, .inr (2, [.ref d0, .ref d1, .ref d2, .int 0, .int 0])), (d0, .inl (kd, 600, .inl fo)), (a0, .inl (kt, 600, .inl ft))] t.heap ∧ va_D (va_A [(h0, .inr (7, [.ref a0, .int v1, .ref a2, .ref a3, .int v4, .int v5, .ref a6, .ref a7, .ref a8, .int v9, .int v10, .ref a11, .ref a12, .int v13, .ref a14, .ref a15, .ref a16, .int v17])), (a12, .inr (2, [.ref d0, .ref d1, .ref d2, .int 0, .int 0])), (d0, .inl (kd, 600, .inl fd)), (a0, .inl (kt, 600, .inl ft))] sz) [(h0, .inr (7, [.ref a0, .int 0, .ref a2, .ref a3, .int v4, .int v5, .ref a6, .ref a7, .ref a8, .int v9, .int v10, .ref a11, .ref a12, .int v13, .ref a14, .ref a15, .ref a16, .int v17])), (a12, .inr (2, [.ref d0, .ref d1, .ref d2, .int 0, .int 0])), (d0, .inl (kd, 600, .inl fo)), (a0, .inl (kt, 600, .inl ft))]) (va_A [(h0, .inr (7, [.ref a0, .int v1, .ref a2, .ref a3, .int v4, .int v5, .ref a6, .ref a7, .ref a8, .int v9, .int v10, .ref a11, .ref a12, .int v13, .ref a14, .ref a15, .ref a16, .int v17])), (a12, .inr (2, [.ref d0, .ref d1, .ref d2, .int 0, .int 0])), (d0, .inl (kd, 600, .inl fd)), (a0, .inl (kt, 600, .inl ft))] sz)) 0 0 (va_A [(h0, .inr (7, [.ref a0, .int v1, .ref a2, .ref a3, .int v4, .int v5, .ref a6, .ref a7, .ref a8, .int v9, .int v10, .ref a11, .ref a12, .int v13, .ref a14, .ref a15, .ref a16, .int v17])), (a12, .inr (2, [.ref d0, .ref d1, .ref d2, .int 0, .int 0])), (d0, .inl (kd, 600, .inl fd)), (a0, .inl (kt, 600, .inl ft))] sz) := by
  refine Met.ofW (cc := cX7_draftIsOneWord) (maxL := 2) (ret := (some .boolean)) (by decide) rfl ?_
  intro p e s m args below meth c s₁ B hml hv
  obtain ⟨rfl, hsz, hP, hK, hD0⟩ := hv
  have hx := B.exec
  have hb := B.bytes
  have hr := B.returns
  have hts := atoms_spec (ws := wsX7_draftIsOneWord) B.pre
  have hown : s.vm.findClass RX7 = some m.cls := findClass_of_methodNamed B.named
  have hlocks := B.notSynchronized
  subst hsz
  have hD := hD0.self (sz := s.heap.size)
  generalize hAe : va_A [(h0, .inr (7, [.ref a0, .int v1, .ref a2, .ref a3, .int v4, .int v5, .ref a6, .ref a7, .ref a8, .int v9, .int v10, .ref a11, .ref a12, .int v13, .ref a14, .ref a15, .ref a16, .int v17])), (a12, .inr (2, [.ref d0, .ref d1, .ref d2, .int 0, .int 0])), (d0, .inl (kd, 600, .inl fd)), (a0, .inl (kt, 600, .inl ft))] s.heap.size = A at hD ⊢
  have hA : ∀ q : Nat, s.heap.size ≤ q → A q := fun q h => by rw [← hAe]; exact Or.inr h
  have hS : va_S A s.heap s.heap [] := va_S.rf
  replace hP : va_P (dC, dI) vwCl [(h0, .inr (7, [.ref a0, .int v1, .ref a2, .ref a3, .int v4, .int v5, .ref a6, .ref a7, .ref a8, .int v9, .int v10, .ref a11, .ref a12, .int v13, .ref a14, .ref a15, .ref a16, .int v17])), (a12, .inr (2, [.ref d0, .ref d1, .ref d2, .int 0, .int 0])), (d0, .inl (kd, 600, .inl fd)), (a0, .inl (kt, 600, .inl ft))] s.heap := hP
  have hl := lv_entry ([.ref h0, .int 0]) (n := 2) (Nat.le_of_ble_eq_true rfl)
  rw [lg_entry_eq]
  generalize (lg_sl ([.ref h0, .int 0]) ++ List.replicate (2 - (lg_sl ([.ref h0, .int 0])).length) Slot.unset).toArray = ls at hl ⊢
  replace hl : lv_has ls 2 [(0, .ref h0), (1, .int 0)] := hl
  have hi_X7 : ∀ w ∈ wsX70, w ∈ wsX7_draftIsOneWord := by decide +kernel
  have k_f65 := hts (.fieldLink RX7 65 "TongueTeller" "draft" "LTongueTeller$Script;") (by decide +kernel)
  have hi_X2 : ∀ w ∈ wsX20, w ∈ wsX7_draftIsOneWord := by decide +kernel
  have k_f247 := hts (.fieldLink RX7 247 "TongueTeller$Script" "words" "I") (by decide +kernel)
  refine lv_aload_n hx hb dX7_draftIsOneWord_0 rfl (lv_at hl 0 rfl) ?_
  refine lv_iload_n hx hb dX7_draftIsOneWord_1 rfl (lv_at hl 1 rfl) ?_
  have hPc := hP.sub (ws' := [(h0, .inr (7, [.ref a0, .int v1, .ref a2, .ref a3, .int v4, .int v5, .ref a6, .ref a7, .ref a8, .int v9, .int v10, .ref a11, .ref a12, .int v13, .ref a14, .ref a15, .ref a16, .int v17])), (a12, .inr (2, [.ref d0, .ref d1, .ref d2, .int 0, .int 0])), (d0, .inl (kd, 600, .inl fd)), (a0, .inl (kt, 600, .inl ft))]) [0, 1, 2, 3] rfl
  have hDc := hD.sub (ws' := [(h0, .inr (7, [.ref a0, .int v1, .ref a2, .ref a3, .int v4, .int v5, .ref a6, .ref a7, .ref a8, .int v9, .int v10, .ref a11, .ref a12, .int v13, .ref a14, .ref a15, .ref a16, .int v17])), (a12, .inr (2, [.ref d0, .ref d1, .ref d2, .int 0, .int 0])), (d0, .inl (kd, 600, .inl fd)), (a0, .inl (kt, 600, .inl ft))]) [0, 1, 2, 3] (by decide) rfl
  have hKc := hK.sub (tys' := [(kd, .byte), (kt, .byte)]) [0, 1] rfl
  have hFc := va_free (wc := [(h0, .inr (7, [.ref a0, .int v1, .ref a2, .ref a3, .int v4, .int v5, .ref a6, .ref a7, .ref a8, .int v9, .int v10, .ref a11, .ref a12, .int v13, .ref a14, .ref a15, .ref a16, .int v17])), (a12, .inr (2, [.ref d0, .ref d1, .ref d2, .int 0, .int 0])), (d0, .inl (kd, 600, .inl fd)), (a0, .inl (kt, 600, .inl ft))]) hD hS hA [0, 1, 2, 3] rfl
  refine va_calli (va_runV (As := [.int 0]) (rest := []) ⟨hx, hb, hml, hown, hts⟩ (c_X7_draftFromTape_0 l dC dI h0 a0 v1 a2 a3 v4 v5 a6 a7 a8 v9 v10 a11 a12 v13 a14 a15 a16 v17 d0 d1 d2 kd kt fd ft s.heap.size) (cwV 1 hts gX7_draftIsOneWord_X7_draftFromTape rfl rfl rfl (by decide +kernel) ⟨Nat.le_of_ble_eq_true rfl, Nat.le_of_ble_eq_true rfl⟩) ⟨fun a U g mk q => by obtain ⟨q0, q1, qP, qK, qD⟩ := q; exact ⟨q0, q1, qP, va_K.moved (u := U) (U := U.calling g mk a) (Vm.Alike.refl U.vm) qK, qD⟩, va_recv hK hP (ci := 7) (q0 := 0) rfl rfl, fun U hU hW => ⟨rfl, by rw [hU], by rw [hU]; exact hPc, va_K.moved hW.alike hKc, hDc.weaken (fun _ _ _ _ => trivial)⟩⟩ rfl rfl hl.1 rfl (lv_room (Nat.le_of_ble_eq_true rfl)) dX7_draftIsOneWord_2 ⟨Nat.le_of_ble_eq_true rfl, Nat.le_of_ble_eq_true rfl⟩) hS (fun q _ h => hFc q h) hFc (fun r_2 u t H1 locs ht hvm hw_2 hB hz1 hk1 hS => ?_)
  obtain ⟨fo_2, rfl⟩ : ∃ z, z = u := ⟨_, rfl⟩
  try dsimp only at hw_2 hB
  obtain ⟨hP1, hD1⟩ := hB
  rw [ht] at hP1
  obtain ⟨hP, hD⟩ := va_join (wr := []) (w1 := [(h0, .inr (7, [.ref a0, .int 0, .ref a2, .ref a3, .int v4, .int v5, .ref a6, .ref a7, .ref a8, .int v9, .int v10, .ref a11, .ref a12, .int v13, .ref a14, .ref a15, .ref a16, .int v17])), (a12, .inr (2, [.ref d0, .ref d1, .ref d2, .int 0, .int 0])), (d0, .inl (kd, 600, .inl fo_2)), (a0, .inl (kt, 600, .inl ft))]) hP hD [0, 1, 2, 3] [] rfl rfl (by decide) (by decide) hk1 hFc hP1 hD1
  generalize H1 = H at hP hS ⊢
  replace hP : va_P (dC, dI) vwCl [(h0, .inr (7, [.ref a0, .int 0, .ref a2, .ref a3, .int v4, .int v5, .ref a6, .ref a7, .ref a8, .int v9, .int v10, .ref a11, .ref a12, .int v13, .ref a14, .ref a15, .ref a16, .int v17])), (a12, .inr (2, [.ref d0, .ref d1, .ref d2, .int 0, .int 0])), (d0, .inl (kd, 600, .inl fo_2)), (a0, .inl (kt, 600, .inl ft))] H := hP
  replace hD : va_D A [(h0, .inr (7, [.ref a0, .int 0, .ref a2, .ref a3, .int v4, .int v5, .ref a6, .ref a7, .ref a8, .int v9, .int v10, .ref a11, .ref a12, .int v13, .ref a14, .ref a15, .ref a16, .int v17])), (a12, .inr (2, [.ref d0, .ref d1, .ref d2, .int 0, .int 0])), (d0, .inl (kd, 600, .inl fo_2)), (a0, .inl (kt, 600, .inl ft))] := hD
  obtain rfl : 1 = r_2 := Eq.symm hw_2
  refine lv_if_eq (tgt := 34) hx hb dX7_draftIsOneWord_5 (by decide) (fun c_5 => ?_) (fun c_5 => ?_)
  · exact absurd c_5 (by decide)
  refine lv_aload_n hx hb dX7_draftIsOneWord_8 rfl (lv_at hl 0 rfl) ?_
  refine va_get (D := (dC, dI)) (ci := 7) (v := .ref a12) (C := RX7) (T := TX7) (N := 18) hx hb hts hi_X7 hown hK hP 0 rfl rfl 12 (by decide) k_f65 (fun _ h9 => h9) rfl dX7_draftIsOneWord_9 ?_
  refine va_get (D := (dC, dI)) (ci := 2) (v := .int 0) (C := RX2) (T := TX2) (N := 5) hx hb hts hi_X2 hown hK hP 1 rfl rfl 4 (by decide) k_f247 (fun _ h9 => h9) rfl dX7_draftIsOneWord_12 ?_
  refine lv_iconst (v := 1) hx hb dX7_draftIsOneWord_15 (by decide) ?_
  refine lv_icmp_ne (tgt := 34) hx hb dX7_draftIsOneWord_16 (by decide) (fun c_16 => ?_) (fun c_16 => ?_)
  rotate_left
  · exact absurd c_16 (by decide)
  refine lv_iconst (v := 0) hx hb dX7_draftIsOneWord_34 (by decide) ?_
  have hP9 := hP.sub (ws' := [(h0, .inr (7, [.ref a0, .int 0, .ref a2, .ref a3, .int v4, .int v5, .ref a6, .ref a7, .ref a8, .int v9, .int v10, .ref a11, .ref a12, .int v13, .ref a14, .ref a15, .ref a16, .int v17])), (a12, .inr (2, [.ref d0, .ref d1, .ref d2, .int 0, .int 0])), (d0, .inl (kd, 600, .inl fo_2)), (a0, .inl (kt, 600, .inl ft))]) [0, 1, 2, 3] rfl
  have hD9 := hD.sub (ws' := [(h0, .inr (7, [.ref a0, .int 0, .ref a2, .ref a3, .int v4, .int v5, .ref a6, .ref a7, .ref a8, .int v9, .int v10, .ref a11, .ref a12, .int v13, .ref a14, .ref a15, .ref a16, .int v17])), (a12, .inr (2, [.ref d0, .ref d1, .ref d2, .int 0, .int 0])), (d0, .inl (kd, 600, .inl fo_2)), (a0, .inl (kt, 600, .inl ft))]) [0, 1, 2, 3] (by decide) rfl
  exact W.zret (v := 0) hx hb hr (rfl) (fun t ht hW => ⟨⟨0, fo_2, rfl, rfl, by rw [ht]; exact hP9, hD9⟩, hS.F ht⟩) hS.2.2 dX7_draftIsOneWord_35

set_option maxHeartbeats 4000000 in
set_option maxRecDepth 100000 in
theorem c_X7_draftBecomesText (l : Launch) (dC : Nat → ClassId) (dI : Nat → Nat → Nat) (h0 : Nat) (a0 : Nat) (v1 : Int32) (a2 : Nat) (a3 : Nat) (v4 : Int32) (v5 : Int32) (a6 : Nat) (a7 : Nat) (a8 : Nat) (v9 : Int32) (v10 : Int32) (a11 : Nat) (a12 : Nat) (v13 : Int32) (a14 : Nat) (a15 : Nat) (a16 : Nat) (v17 : Int32) (d0 : Nat) (d1 : Nat) (d2 : Nat) (d3 : Int32) (d4 : Int32) (sz : Nat) : Met l yX7_draftBecomesText wsX7_draftBecomesText ({ frames := 1, cells := 0, slots := 0, locals := 21 }) (va_Pc [.ref h0] (fun U => U.heap.size = sz ∧ va_P (dC, dI) vwCl [(h0, .inr (7, [.ref a0, .int v1, .ref a2, .ref a3, .int v4, .int v5, .ref a6, .ref a7, .ref a8, .int v9, .int v10, .ref a11, .ref a12, .int v13, .ref a14, .ref a15, .ref a16, .int v17])), (a12, .inr (2, [.ref d0, .ref d1, .ref d2, .int d3, .int d4]))] U.heap ∧ va_K (dC, dI) vwCl [] U ∧ va_D (fun _ => True) [(h0, .inr (7, [.ref a0, .int v1, .ref a2, .ref a3, .int v4, .int v5, .ref a6, .ref a7, .ref a8, .int v9, .int v10, .ref a11, .ref a12, .int v13, .ref a14, .ref a15, .ref a16, .int v17])), (a12, .inr (2, [.ref d0, .ref d1, .ref d2, .int d3, .int d4]))])) (va_Qi (fun (r : Int32) (_ : Unit) => r = d4) (fun (_ : Unit) (t : State) => va_P (dC, dI) vwCl [(h0, .inr (7, [.ref a0, .int v1, .ref a2, .ref a3, .int v4, .int v5, .ref a6, .ref a7, .ref a8, .int v9, .int v10, .ref a12, .ref a11, .int 1, .ref a14, .ref a15, .ref a16, .int 0])), (a12, .inr (2, [.ref d0, .ref d1, .ref d2, .int d3, .int d4]))] t.heap ∧ va_D (va_A [(h0, .inr (7, [.ref a0, .int v1, .ref a2, .ref a3, .int v4, .int v5, .ref a6, .ref a7, .ref a8, .int v9, .int v10, .ref a11, .ref a12, .int v13, .ref a14, .ref a15, .ref a16, .int v17])), (a12, .inr (2, [.ref d0, .ref d1, .ref d2, .int d3, .int d4]))] sz) [(h0, .inr (7, [.ref a0, .int v1, .ref a2, .ref a3, .int v4, .int v5, .ref a6, .ref a7, .ref a8, .int v9, .int v10, .ref a12, .ref a11, .int 1, .ref a14, .ref a15, .ref a16, .int 0])), (a12, .inr (2, [.ref d0, .ref d1, .ref d2, .int d3, .int d4]))]) (va_A [(h0, .inr (7, [.ref a0, .int v1, .ref a2, .ref a3, .int v4, .int v5, .ref a6, .ref a7, .ref a8, .int v9, .int v10, .ref a11, .ref a12, .int v13, .ref a14, .ref a15, .ref a16, .int v17])), (a12, .inr (2, [.ref d0, .ref d1, .ref d2, .int d3, .int d4]))] sz)) 0 0 (va_A [(h0, .inr (7, [.ref a0, .int v1, .ref a2, .ref a3, .int v4, .int v5, .ref a6, .ref a7, .ref a8, .int v9, .int v10, .ref a11, .ref a12, .int v13, .ref a14, .ref a15, .ref a16, .int v17])), (a12, .inr (2, [.ref d0, .ref d1, .ref d2, .int d3, .int d4]))] sz) := by
  refine Met.ofW (cc := cX7_draftBecomesText) (maxL := 2) (ret := (some .int)) (by decide) rfl ?_
  intro p e s m args below meth c s₁ B hml hv
  obtain ⟨rfl, hsz, hP, hK, hD0⟩ := hv
  have hx := B.exec
  have hb := B.bytes
  have hr := B.returns
  have hts := atoms_spec (ws := wsX7_draftBecomesText) B.pre
  have hown : s.vm.findClass RX7 = some m.cls := findClass_of_methodNamed B.named
  have hlocks := B.notSynchronized
  subst hsz
  have hD := hD0.self (sz := s.heap.size)
  generalize hAe : va_A [(h0, .inr (7, [.ref a0, .int v1, .ref a2, .ref a3, .int v4, .int v5, .ref a6, .ref a7, .ref a8, .int v9, .int v10, .ref a11, .ref a12, .int v13, .ref a14, .ref a15, .ref a16, .int v17])), (a12, .inr (2, [.ref d0, .ref d1, .ref d2, .int d3, .int d4]))] s.heap.size = A at hD ⊢
  have hA : ∀ q : Nat, s.heap.size ≤ q → A q := fun q h => by rw [← hAe]; exact Or.inr h
  have hS : va_S A s.heap s.heap [] := va_S.rf
  replace hP : va_P (dC, dI) vwCl [(h0, .inr (7, [.ref a0, .int v1, .ref a2, .ref a3, .int v4, .int v5, .ref a6, .ref a7, .ref a8, .int v9, .int v10, .ref a11, .ref a12, .int v13, .ref a14, .ref a15, .ref a16, .int v17])), (a12, .inr (2, [.ref d0, .ref d1, .ref d2, .int d3, .int d4]))] s.heap := hP
  have hl := lv_entry ([.ref h0]) (n := 2) (Nat.le_of_ble_eq_true rfl)
  rw [lg_entry_eq]
  generalize (lg_sl ([.ref h0]) ++ List.replicate (2 - (lg_sl ([.ref h0])).length) Slot.unset).toArray = ls at hl ⊢
  replace hl : lv_has ls 2 [(0, .ref h0)] := hl
  have hi_X7 : ∀ w ∈ wsX70, w ∈ wsX7_draftBecomesText := by decide +kernel
  have k_f61 := hts (.fieldLink RX7 61 "TongueTeller" "theText" "LTongueTeller$Script;") (by decide +kernel)
  have k_f65 := hts (.fieldLink RX7 65 "TongueTeller" "draft" "LTongueTeller$Script;") (by decide +kernel)
  have k_f68 := hts (.fieldLink RX7 68 "TongueTeller" "hasText" "Z") (by decide +kernel)
  have hi_X2 : ∀ w ∈ wsX20, w ∈ wsX7_draftBecomesText := by decide +kernel
  have k_f247 := hts (.fieldLink RX7 247 "TongueTeller$Script" "words" "I") (by decide +kernel)
  refine lv_aload_n hx hb dX7_draftBecomesText_0 rfl (lv_at hl 0 rfl) ?_
  refine va_get (D := (dC, dI)) (ci := 7) (v := .ref a11) (C := RX7) (T := TX7) (N := 18) hx hb hts hi_X7 hown hK hP 0 rfl rfl 11 (by decide) k_f61 (fun _ h9 => h9) rfl dX7_draftBecomesText_1 ?_
  refine lv_astore_n (lv' := [(1, .ref a11), (0, .ref h0)]) hx hb dX7_draftBecomesText_4 rfl hl (by decide) rfl (fun ls hl => ?_)
  refine lv_aload_n hx hb dX7_draftBecomesText_5 rfl (lv_at hl 1 rfl) ?_
  refine lv_aload_n hx hb dX7_draftBecomesText_6 rfl (lv_at hl 1 rfl) ?_
  refine va_get (D := (dC, dI)) (ci := 7) (v := .ref a12) (C := RX7) (T := TX7) (N := 18) hx hb hts hi_X7 hown hK hP 0 rfl rfl 12 (by decide) k_f65 (fun _ h9 => h9) rfl dX7_draftBecomesText_7 ?_
  refine va_put (D := (dC, dI)) (ci := 7) (v := .ref a12) (ty := .object "TongueTeller$Script") (C := RX7) (T := TX7) (N := 18) hx hb hts hi_X7 tyX7 tyX7_ok nmX7 hown hK hP hD hS 0 rfl rfl 11 (by decide) k_f61 (fun _ h9 => h9) rfl (by decide +kernel) rfl rfl (Nat.le_of_ble_eq_true rfl) dX7_draftBecomesText_10 (fun H locs hP hD hS => ?_)
  replace hP : va_P (dC, dI) vwCl [(h0, .inr (7, [.ref a0, .int v1, .ref a2, .ref a3, .int v4, .int v5, .ref a6, .ref a7, .ref a8, .int v9, .int v10, .ref a12, .ref a12, .int v13, .ref a14, .ref a15, .ref a16, .int v17])), (a12, .inr (2, [.ref d0, .ref d1, .ref d2, .int d3, .int d4]))] H := hP
  replace hD : va_D A [(h0, .inr (7, [.ref a0, .int v1, .ref a2, .ref a3, .int v4, .int v5, .ref a6, .ref a7, .ref a8, .int v9, .int v10, .ref a12, .ref a12, .int v13, .ref a14, .ref a15, .ref a16, .int v17])), (a12, .inr (2, [.ref d0, .ref d1, .ref d2, .int d3, .int d4]))] := hD
  refine lv_aload_n hx hb dX7_draftBecomesText_13 rfl (lv_at hl 1 rfl) ?_
  refine lv_aload_n hx hb dX7_draftBecomesText_14 rfl (lv_at hl 0 rfl) ?_
  refine va_put (D := (dC, dI)) (ci := 7) (v := .ref a11) (ty := .object "TongueTeller$Script") (C := RX7) (T := TX7) (N := 18) hx hb hts hi_X7 tyX7 tyX7_ok nmX7 hown hK hP hD hS 0 rfl rfl 12 (by decide) k_f65 (fun _ h9 => h9) rfl (by decide +kernel) rfl rfl (Nat.le_of_ble_eq_true rfl) dX7_draftBecomesText_15 (fun H locs hP hD hS => ?_)
  replace hP : va_P (dC, dI) vwCl [(h0, .inr (7, [.ref a0, .int v1, .ref a2, .ref a3, .int v4, .int v5, .ref a6, .ref a7, .ref a8, .int v9, .int v10, .ref a12, .ref a11, .int v13, .ref a14, .ref a15, .ref a16, .int v17])), (a12, .inr (2, [.ref d0, .ref d1, .ref d2, .int d3, .int d4]))] H := hP
  replace hD : va_D A [(h0, .inr (7, [.ref a0, .int v1, .ref a2, .ref a3, .int v4, .int v5, .ref a6, .ref a7, .ref a8, .int v9, .int v10, .ref a12, .ref a11, .int v13, .ref a14, .ref a15, .ref a16, .int v17])), (a12, .inr (2, [.ref d0, .ref d1, .ref d2, .int d3, .int d4]))] := hD
  refine lv_aload_n hx hb dX7_draftBecomesText_18 rfl (lv_at hl 1 rfl) ?_
  refine lv_iconst (v := 1) hx hb dX7_draftBecomesText_19 (by decide) ?_
  refine va_put (D := (dC, dI)) (ci := 7) (v := .int 1) (ty := .boolean) (C := RX7) (T := TX7) (N := 18) hx hb hts hi_X7 tyX7 tyX7_ok nmX7 hown hK hP hD hS 0 rfl rfl 13 (by decide) k_f68 (fun _ h9 => h9) rfl (by decide +kernel) rfl rfl (Nat.le_of_ble_eq_true rfl) dX7_draftBecomesText_20 (fun H locs hP hD hS => ?_)
  replace hP : va_P (dC, dI) vwCl [(h0, .inr (7, [.ref a0, .int v1, .ref a2, .ref a3, .int v4, .int v5, .ref a6, .ref a7, .ref a8, .int v9, .int v10, .ref a12, .ref a11, .int 1, .ref a14, .ref a15, .ref a16, .int v17])), (a12, .inr (2, [.ref d0, .ref d1, .ref d2, .int d3, .int d4]))] H := hP
  replace hD : va_D A [(h0, .inr (7, [.ref a0, .int v1, .ref a2, .ref a3, .int v4, .int v5, .ref a6, .ref a7, .ref a8, .int v9, .int v10, .ref a12, .ref a11, .int 1, .ref a14, .ref a15, .ref a16, .int v17])), (a12, .inr (2, [.ref d0, .ref d1, .ref d2, .int d3, .int d4]))] := hD
  refine lv_aload_n hx hb dX7_draftBecomesText_23 rfl (lv_at hl 1 rfl) ?_
  refine lv_aload_n hx hb dX7_draftBecomesText_24 rfl (lv_at hl 1 rfl) ?_
  refine va_get (D := (dC, dI)) (ci := 7) (v := .ref a12) (C := RX7) (T := TX7) (N := 18) hx hb hts hi_X7 hown hK hP 0 rfl rfl 11 (by decide) k_f61 (fun _ h9 => h9) rfl dX7_draftBecomesText_25 ?_
  refine va_get (D := (dC, dI)) (ci := 2) (v := .int d4) (C := RX2) (T := TX2) (N := 5) hx hb hts hi_X2 hown hK hP 1 rfl rfl 4 (by decide) k_f247 (fun _ h9 => h9) rfl dX7_draftBecomesText_28 ?_
  have hPc := hP.sub (ws' := [(h0, .inr (7, [.ref a0, .int v1, .ref a2, .ref a3, .int v4, .int v5, .ref a6, .ref a7, .ref a8, .int v9, .int v10, .ref a12, .ref a11, .int 1, .ref a14, .ref a15, .ref a16, .int v17]))]) [0] rfl
  have hDc := hD.sub (ws' := [(h0, .inr (7, [.ref a0, .int v1, .ref a2, .ref a3, .int v4, .int v5, .ref a6, .ref a7, .ref a8, .int v9, .int v10, .ref a12, .ref a11, .int 1, .ref a14, .ref a15, .ref a16, .int v17]))]) [0] (by decide) rfl
  have hKc := hK.sub (tys' := []) [] rfl
  have hFc := va_free (wc := [(h0, .inr (7, [.ref a0, .int v1, .ref a2, .ref a3, .int v4, .int v5, .ref a6, .ref a7, .ref a8, .int v9, .int v10, .ref a12, .ref a11, .int 1, .ref a14, .ref a15, .ref a16, .int v17]))]) hD hS hA [0] rfl
  refine va_calli (va_runV (As := [.int d4]) (rest := []) ⟨hx, hb, hml, hown, hts⟩ (c_X7_grant l dC dI h0 a0 v1 a2 a3 v4 v5 a6 a7 a8 v9 v10 a12 a11 1 a14 a15 a16 v17 d4 H.size) (cwV 1 hts gX7_draftBecomesText_X7_grant rfl rfl rfl (by decide +kernel) ⟨Nat.le_of_ble_eq_true rfl, Nat.le_of_ble_eq_true rfl⟩) ⟨fun a U g mk q => by obtain ⟨q0, q1, qP, qK, qD⟩ := q; exact ⟨q0, q1, qP, va_K.moved (u := U) (U := U.calling g mk a) (Vm.Alike.refl U.vm) qK, qD⟩, va_recv hK hP (ci := 7) (q0 := 0) rfl rfl, fun U hU hW => ⟨rfl, by rw [hU], by rw [hU]; exact hPc, va_K.moved hW.alike hKc, hDc.weaken (fun _ _ _ _ => trivial)⟩⟩ rfl rfl hl.1 rfl (lv_room (Nat.le_of_ble_eq_true rfl)) dX7_draftBecomesText_31 ⟨Nat.le_of_ble_eq_true rfl, Nat.le_of_ble_eq_true rfl⟩) hS (fun q _ h => hFc q h) hFc (fun r_31 u t H1 locs ht hvm hw_31 hB hz1 hk1 hS => ?_)
  obtain ⟨hP1, hD1⟩ := hB
  rw [ht] at hP1
  obtain ⟨hP, hD⟩ := va_join (wr := [(a12, .inr (2, [.ref d0, .ref d1, .ref d2, .int d3, .int d4]))]) (w1 := [(h0, .inr (7, [.ref a0, .int v1, .ref a2, .ref a3, .int v4, .int v5, .ref a6, .ref a7, .ref a8, .int v9, .int v10, .ref a12, .ref a11, .int 1, .ref a14, .ref a15, .ref a16, .int 0]))]) hP hD [0] [1] rfl rfl (by decide) (by decide) hk1 hFc hP1 hD1
  generalize H1 = H at hP hS ⊢
  replace hP : va_P (dC, dI) vwCl [(a12, .inr (2, [.ref d0, .ref d1, .ref d2, .int d3, .int d4])), (h0, .inr (7, [.ref a0, .int v1, .ref a2, .ref a3, .int v4, .int v5, .ref a6, .ref a7, .ref a8, .int v9, .int v10, .ref a12, .ref a11, .int 1, .ref a14, .ref a15, .ref a16, .int 0]))] H := hP
  replace hD : va_D A [(a12, .inr (2, [.ref d0, .ref d1, .ref d2, .int d3, .int d4])), (h0, .inr (7, [.ref a0, .int v1, .ref a2, .ref a3, .int v4, .int v5, .ref a6, .ref a7, .ref a8, .int v9, .int v10, .ref a12, .ref a11, .int 1, .ref a14, .ref a15, .ref a16, .int 0]))] := hD
  obtain rfl : d4 = r_31 := Eq.symm hw_31
  have hP9 := hP.sub (ws' := [(h0, .inr (7, [.ref a0, .int v1, .ref a2, .ref a3, .int v4, .int v5, .ref a6, .ref a7, .ref a8, .int v9, .int v10, .ref a12, .ref a11, .int 1, .ref a14, .ref a15, .ref a16, .int 0])), (a12, .inr (2, [.ref d0, .ref d1, .ref d2, .int d3, .int d4]))]) [1, 0] rfl
  have hD9 := hD.sub (ws' := [(h0, .inr (7, [.ref a0, .int v1, .ref a2, .ref a3, .int v4, .int v5, .ref a6, .ref a7, .ref a8, .int v9, .int v10, .ref a12, .ref a11, .int 1, .ref a14, .ref a15, .ref a16, .int 0])), (a12, .inr (2, [.ref d0, .ref d1, .ref d2, .int d3, .int d4]))]) [1, 0] (by decide) rfl
  exact W.iret (v := d4) hx hb hr (fun t ht hW => ⟨⟨d4, (), rfl, rfl, by rw [ht]; exact hP9, hD9⟩, hS.F ht⟩) hS.2.2 dX7_draftBecomesText_34

set_option maxHeartbeats 4000000 in
set_option maxRecDepth 100000 in
theorem c_X7_name (l : Launch) (dC : Nat → ClassId) (dI : Nat → Nat → Nat) (h0 : Nat) (a0 : Nat) (a2 : Nat) (a3 : Nat) (v4 : Int32) (v5 : Int32) (a6 : Nat) (a7 : Nat) (a8 : Nat) (v9 : Int32) (v10 : Int32) (a11 : Nat) (a12 : Nat) (v13 : Int32) (a14 : Nat) (a15 : Nat) (a16 : Nat) (v17 : Int32) (d0 : Nat) (d1 : Nat) (d2 : Nat) (kd : ClassId) (kt : ClassId) (fd : Nat → Int32) (ft : Nat → Int32) (p0 : Int32) (sz : Nat) : Met l yX7_name wsX7_name ({ frames := 5, cells := 0, slots := 0, locals := 103 }) (va_Pc [.ref h0, .int p0] (fun U => U.heap.size = sz ∧ va_P (dC, dI) vwCl [(h0, .inr (7, [.ref a0, .int 0, .ref a2, .ref a3, .int v4, .int v5, .ref a6, .ref a7, .ref a8, .int v9, .int v10, .ref a11, .ref a12, .int v13, .ref a14, .ref a15, .ref a16, .int v17])), (a12, .inr (2, [.ref d0, .ref d1, .ref d2, .int 0, .int 0])), (d0, .inl (kd, 600, .inl fd)), (a0, .inl (kt, 600, .inl ft))] U.heap ∧ va_K (dC, dI) vwCl [(kd, .byte), (kt, .byte)] U ∧ va_D (fun _ => True) [(h0, .inr (7, [.ref a0, .int 0, .ref a2, .ref a3, .int v4, .int v5, .ref a6, .ref a7, .ref a8, .int v9, .int v10, .ref a11, .ref a12, .int v13, .ref a14, .ref a15, .ref a16, .int v17])), (a12, .inr (2, [.ref d0, .ref d1, .ref d2, .int 0, .int 0])), (d0, .inl (kd, 600, .inl fd)), (a0, .inl (kt, 600, .inl ft))])) (va_Qi (fun (r : Int32) (u : Nat → Int32) => match u with | fo => r = (-1)) (fun (u : Nat → Int32) (t : State) => match u with | fo => va_P (dC, dI) vwCl [(h0, .inr (7, [.ref a0, .int 0, .ref a2, .ref a3, .int v4, .int v5, .ref a6, .ref a7, .ref a8, .int v9, .int v10, .ref a11, .ref a12, .int v13, .ref a14, .ref a15, .ref a16, .int 2])), (a12, .inr (2, [.ref d0, .ref d1, .ref d2, .int 0, .int 0])), (d0, .inl (kd, 600, .inl fo)), (a0, .inl (kt, 600, .inl ft))] t.heap ∧ va_D (va_A [(h0, .inr (7, [.ref a0, .int 0, .ref a2, .ref a3, .int v4, .int v5, .ref a6, .ref a7, .ref a8, .int v9, .int v10, .ref a11, .ref a12, .int v13, .ref a14, .ref a15, .ref a16, .int v17])), (a12, .inr (2, [.ref d0, .ref d1, .ref d2, .int 0, .int 0])), (d0, .inl (kd, 600, .inl fd)), (a0, .inl (kt, 600, .inl ft))] sz) [(h0, .inr (7, [.ref a0, .int 0, .ref a2, .ref a3, .int v4, .int v5, .ref a6, .ref a7, .ref a8, .int v9, .int v10, .ref a11, .ref a12, .int v13, .ref a14, .ref a15, .ref a16, .int 2])), (a12, .inr (2, [.ref d0, .ref d1, .ref d2, .int 0, .int 0])), (d0, .inl (kd, 600, .inl fo)), (a0, .inl (kt, 600, .inl ft))]) (va_A [(h0, .inr (7, [.ref a0, .int 0, .ref a2, .ref a3, .int v4, .int v5, .ref a6, .ref a7, .ref a8, .int v9, .int v10, .ref a11, .ref a12, .int v13, .ref a14, .ref a15, .ref a16, .int v17])), (a12, .inr (2, [.ref d0, .ref d1, .ref d2, .int 0, .int 0])), (d0, .inl (kd, 600, .inl fd)), (a0, .inl (kt, 600, .inl ft))] sz)) 0 0 (va_A [(h0, .inr (7, [.ref a0, .int 0, .ref a2, .ref a3, .int v4, .int v5, .ref a6, .ref a7, .ref a8, .int v9, .int v10, .ref a11, .ref a12, .int v13, .ref a14, .ref a15, .ref a16, .int v17])), (a12, .inr (2, [.ref d0, .ref d1, .ref d2, .int 0, .int 0])), (d0, .inl (kd, 600, .inl fd)), (a0, .inl (kt, 600, .inl ft))] sz) := by
  refine Met.ofW (cc := cX7_name) (maxL := 2) (ret := (some .int)) (by decide) rfl ?_
  intro p e s m args below meth c s₁ B hml hv
  obtain ⟨rfl, hsz, hP, hK, hD0⟩ := hv
  have hx := B.exec
  have hb := B.bytes
  have hr := B.returns
  have hts := atoms_spec (ws := wsX7_name) B.pre
  have hown : s.vm.findClass RX7 = some m.cls := findClass_of_methodNamed B.named
  have hlocks := B.notSynchronized
  subst hsz
  have hD := hD0.self (sz := s.heap.size)
  generalize hAe : va_A [(h0, .inr (7, [.ref a0, .int 0, .ref a2, .ref a3, .int v4, .int v5, .ref a6, .ref a7, .ref a8, .int v9, .int v10, .ref a11, .ref a12, .int v13, .ref a14, .ref a15, .ref a16, .int v17])), (a12, .inr (2, [.ref d0, .ref d1, .ref d2, .int 0, .int 0])), (d0, .inl (kd, 600, .inl fd)), (a0, .inl (kt, 600, .inl ft))] s.heap.size = A at hD ⊢
  have hA : ∀ q : Nat, s.heap.size ≤ q → A q := fun q h => by rw [← hAe]; exact Or.inr h
  have hS : va_S A s.heap s.heap [] := va_S.rf
  replace hP : va_P (dC, dI) vwCl [(h0, .inr (7, [.ref a0, .int 0, .ref a2, .ref a3, .int v4, .int v5, .ref a6, .ref a7, .ref a8, .int v9, .int v10, .ref a11, .ref a12, .int v13, .ref a14, .ref a15, .ref a16, .int v17])), (a12, .inr (2, [.ref d0, .ref d1, .ref d2, .int 0, .int 0])), (d0, .inl (kd, 600, .inl fd)), (a0, .inl (kt, 600, .inl ft))] s.heap := hP
  have hl := lv_entry ([.ref h0, .int p0]) (n := 2) (Nat.le_of_ble_eq_true rfl)
  rw [lg_entry_eq]
  generalize (lg_sl ([.ref h0, .int p0]) ++ List.replicate (2 - (lg_sl ([.ref h0, .int p0])).length) Slot.unset).toArray = ls at hl ⊢
  replace hl : lv_has ls 2 [(0, .ref h0), (1, .int p0)] := hl
  refine lv_aload_n hx hb dX7_name_0 rfl (lv_at hl 0 rfl) ?_
  refine lv_iload_n hx hb dX7_name_1 rfl (lv_at hl 1 rfl) ?_
  have hPc := hP.sub (ws' := [(h0, .inr (7, [.ref a0, .int 0, .ref a2, .ref a3, .int v4, .int v5, .ref a6, .ref a7, .ref a8, .int v9, .int v10, .ref a11, .ref a12, .int v13, .ref a14, .ref a15, .ref a16, .int v17]))]) [0] rfl
  have hKc := hK.sub (tys' := []) [] rfl
  refine vp_callSi (W.runV (As := [.int p0]) (rest := []) ⟨hx, hb, hml, hown, hts⟩ (c_X7_isOnTape l dC dI h0 a0 a2 a3 v4 v5 a6 a7 a8 v9 v10 a11 a12 v13 a14 a15 a16 v17 p0) (cwV 1 hts gX7_name_X7_isOnTape rfl rfl rfl (by decide +kernel) ⟨Nat.le_of_ble_eq_true rfl, Nat.le_of_ble_eq_true rfl⟩) ⟨fun a U g mk q => by obtain ⟨q0, qP, qK⟩ := q; exact ⟨q0, qP, va_K.moved (u := U) (U := U.calling g mk a) (Vm.Alike.refl U.vm) qK⟩, va_recv hK hP (ci := 7) (q0 := 0) rfl rfl, fun U hU hW => ⟨rfl, by rw [hU]; exact hPc, va_K.moved hW.alike hKc⟩⟩ rfl rfl hl.1 rfl (lv_room (Nat.le_of_ble_eq_true rfl)) dX7_name_2 ⟨Nat.le_of_ble_eq_true rfl, Nat.le_of_ble_eq_true rfl⟩) (fun r_2 hw_2 => ?_)
  rcases hw_2 with ⟨hr0, hp0⟩ | ⟨hr0, hp0⟩
  · subst hr0
    subst hp0
    refine lv_if_eq (tgt := 16) hx hb dX7_name_5 (by decide) (fun c_5 => ?_) (fun c_5 => ?_)
    · exact absurd c_5 (by decide)
    refine lv_aload_n hx hb dX7_name_8 rfl (lv_at hl 0 rfl) ?_
    refine lv_iload_n hx hb dX7_name_9 rfl (lv_at hl 1 rfl) ?_
    have hPc := hP.sub (ws' := [(h0, .inr (7, [.ref a0, .int 0, .ref a2, .ref a3, .int v4, .int v5, .ref a6, .ref a7, .ref a8, .int v9, .int v10, .ref a11, .ref a12, .int v13, .ref a14, .ref a15, .ref a16, .int v17])), (a12, .inr (2, [.ref d0, .ref d1, .ref d2, .int 0, .int 0])), (d0, .inl (kd, 600, .inl fd)), (a0, .inl (kt, 600, .inl ft))]) [0, 1, 2, 3] rfl
    have hDc := hD.sub (ws' := [(h0, .inr (7, [.ref a0, .int 0, .ref a2, .ref a3, .int v4, .int v5, .ref a6, .ref a7, .ref a8, .int v9, .int v10, .ref a11, .ref a12, .int v13, .ref a14, .ref a15, .ref a16, .int v17])), (a12, .inr (2, [.ref d0, .ref d1, .ref d2, .int 0, .int 0])), (d0, .inl (kd, 600, .inl fd)), (a0, .inl (kt, 600, .inl ft))]) [0, 1, 2, 3] (by decide) rfl
    have hKc := hK.sub (tys' := [(kd, .byte), (kt, .byte)]) [0, 1] rfl
    have hFc := va_free (wc := [(h0, .inr (7, [.ref a0, .int 0, .ref a2, .ref a3, .int v4, .int v5, .ref a6, .ref a7, .ref a8, .int v9, .int v10, .ref a11, .ref a12, .int v13, .ref a14, .ref a15, .ref a16, .int v17])), (a12, .inr (2, [.ref d0, .ref d1, .ref d2, .int 0, .int 0])), (d0, .inl (kd, 600, .inl fd)), (a0, .inl (kt, 600, .inl ft))]) hD hS hA [0, 1, 2, 3] rfl
    refine va_calli (va_runV (As := [.int 0]) (rest := []) ⟨hx, hb, hml, hown, hts⟩ (c_X7_draftIsOneWord_0 l dC dI h0 a0 0 a2 a3 v4 v5 a6 a7 a8 v9 v10 a11 a12 v13 a14 a15 a16 v17 d0 d1 d2 kd kt fd ft s.heap.size) (cwV 1 hts gX7_name_X7_draftIsOneWord rfl rfl rfl (by decide +kernel) ⟨Nat.le_of_ble_eq_true rfl, Nat.le_of_ble_eq_true rfl⟩) ⟨fun a U g mk q => by obtain ⟨q0, q1, qP, qK, qD⟩ := q; exact ⟨q0, q1, qP, va_K.moved (u := U) (U := U.calling g mk a) (Vm.Alike.refl U.vm) qK, qD⟩, va_recv hK hP (ci := 7) (q0 := 0) rfl rfl, fun U hU hW => ⟨rfl, by rw [hU], by rw [hU]; exact hPc, va_K.moved hW.alike hKc, hDc.weaken (fun _ _ _ _ => trivial)⟩⟩ rfl rfl hl.1 rfl (lv_room (Nat.le_of_ble_eq_true rfl)) dX7_name_10 ⟨Nat.le_of_ble_eq_true rfl, Nat.le_of_ble_eq_true rfl⟩) hS (fun q _ h => hFc q h) hFc (fun r_10 u t H1 locs ht hvm hw_10 hB hz1 hk1 hS => ?_)
    obtain ⟨fo_10, rfl⟩ : ∃ z, z = u := ⟨_, rfl⟩
    try dsimp only at hw_10 hB
    obtain ⟨hP1, hD1⟩ := hB
    rw [ht] at hP1
    obtain ⟨hP, hD⟩ := va_join (wr := []) (w1 := [(h0, .inr (7, [.ref a0, .int 0, .ref a2, .ref a3, .int v4, .int v5, .ref a6, .ref a7, .ref a8, .int v9, .int v10, .ref a11, .ref a12, .int v13, .ref a14, .ref a15, .ref a16, .int v17])), (a12, .inr (2, [.ref d0, .ref d1, .ref d2, .int 0, .int 0])), (d0, .inl (kd, 600, .inl fo_10)), (a0, .inl (kt, 600, .inl ft))]) hP hD [0, 1, 2, 3] [] rfl rfl (by decide) (by decide) hk1 hFc hP1 hD1
    generalize H1 = H at hP hS ⊢
    replace hP : va_P (dC, dI) vwCl [(h0, .inr (7, [.ref a0, .int 0, .ref a2, .ref a3, .int v4, .int v5, .ref a6, .ref a7, .ref a8, .int v9, .int v10, .ref a11, .ref a12, .int v13, .ref a14, .ref a15, .ref a16, .int v17])), (a12, .inr (2, [.ref d0, .ref d1, .ref d2, .int 0, .int 0])), (d0, .inl (kd, 600, .inl fo_10)), (a0, .inl (kt, 600, .inl ft))] H := hP
    replace hD : va_D A [(h0, .inr (7, [.ref a0, .int 0, .ref a2, .ref a3, .int v4, .int v5, .ref a6, .ref a7, .ref a8, .int v9, .int v10, .ref a11, .ref a12, .int v13, .ref a14, .ref a15, .ref a16, .int v17])), (a12, .inr (2, [.ref d0, .ref d1, .ref d2, .int 0, .int 0])), (d0, .inl (kd, 600, .inl fo_10)), (a0, .inl (kt, 600, .inl ft))] := hD
    obtain rfl : 0 = r_10 := Eq.symm hw_10
    refine lv_if_ne (tgt := 22) hx hb dX7_name_13 (by decide) (fun c_13 => ?_) (fun c_13 => ?_)
    · exact absurd (by decide) c_13
    refine lv_aload_n hx hb dX7_name_16 rfl (lv_at hl 0 rfl) ?_
    refine lv_iconst (v := 2) hx hb dX7_name_17 (by decide) ?_
    have hPc := hP.sub (ws' := [(h0, .inr (7, [.ref a0, .int 0, .ref a2, .ref a3, .int v4, .int v5, .ref a6, .ref a7, .ref a8, .int v9, .int v10, .ref a11, .ref a12, .int v13, .ref a14, .ref a15, .ref a16, .int v17]))]) [0] rfl
    have hDc := hD.sub (ws' := [(h0, .inr (7, [.ref a0, .int 0, .ref a2, .ref a3, .int v4, .int v5, .ref a6, .ref a7, .ref a8, .int v9, .int v10, .ref a11, .ref a12, .int v13, .ref a14, .ref a15, .ref a16, .int v17]))]) [0] (by decide) rfl
    have hKc := hK.sub (tys' := []) [] rfl
    have hFc := va_free (wc := [(h0, .inr (7, [.ref a0, .int 0, .ref a2, .ref a3, .int v4, .int v5, .ref a6, .ref a7, .ref a8, .int v9, .int v10, .ref a11, .ref a12, .int v13, .ref a14, .ref a15, .ref a16, .int v17]))]) hD hS hA [0] rfl
    refine va_calli (va_runV (As := [.int 2]) (rest := []) ⟨hx, hb, hml, hown, hts⟩ (c_X7_refuse l dC dI h0 a0 0 a2 a3 v4 v5 a6 a7 a8 v9 v10 a11 a12 v13 a14 a15 a16 v17 2 H.size) (cwV 1 hts gX7_name_X7_refuse rfl rfl rfl (by decide +kernel) ⟨Nat.le_of_ble_eq_true rfl, Nat.le_of_ble_eq_true rfl⟩) ⟨fun a U g mk q => by obtain ⟨q0, q1, qP, qK, qD⟩ := q; exact ⟨q0, q1, qP, va_K.moved (u := U) (U := U.calling g mk a) (Vm.Alike.refl U.vm) qK, qD⟩, va_recv hK hP (ci := 7) (q0 := 0) rfl rfl, fun U hU hW => ⟨rfl, by rw [hU], by rw [hU]; exact hPc, va_K.moved hW.alike hKc, hDc.weaken (fun _ _ _ _ => trivial)⟩⟩ rfl rfl hl.1 rfl (lv_room (Nat.le_of_ble_eq_true rfl)) dX7_name_18 ⟨Nat.le_of_ble_eq_true rfl, Nat.le_of_ble_eq_true rfl⟩) hS (fun q _ h => hFc q h) hFc (fun r_18 u t H1 locs ht hvm hw_18 hB hz1 hk1 hS => ?_)
    obtain ⟨hP1, hD1⟩ := hB
    rw [ht] at hP1
    obtain ⟨hP, hD⟩ := va_join (wr := [(a12, .inr (2, [.ref d0, .ref d1, .ref d2, .int 0, .int 0])), (d0, .inl (kd, 600, .inl fo_10)), (a0, .inl (kt, 600, .inl ft))]) (w1 := [(h0, .inr (7, [.ref a0, .int 0, .ref a2, .ref a3, .int v4, .int v5, .ref a6, .ref a7, .ref a8, .int v9, .int v10, .ref a11, .ref a12, .int v13, .ref a14, .ref a15, .ref a16, .int 2]))]) hP hD [0] [1, 2, 3] rfl rfl (by decide) (by decide) hk1 hFc hP1 hD1
    generalize H1 = H at hP hS ⊢
    replace hP : va_P (dC, dI) vwCl [(a12, .inr (2, [.ref d0, .ref d1, .ref d2, .int 0, .int 0])), (d0, .inl (kd, 600, .inl fo_10)), (a0, .inl (kt, 600, .inl ft)), (h0, .inr (7, [.ref a0, .int 0, .ref a2, .ref a3, .int v4, .int v5, .ref a6, .ref a7, .ref a8, .int v9, .int v10, .ref a11, .ref a12, .int v13, .ref a14, .ref a15, .ref a16, .int 2]))] H := hP
    replace hD : va_D A [(a12, .inr (2, [.ref d0, .ref d1, .ref d2, .int 0, .int 0])), (d0, .inl (kd, 600, .inl fo_10)), (a0, .inl (kt, 600, .inl ft)), (h0, .inr (7, [.ref a0, .int 0, .ref a2, .ref a3, .int v4, .int v5, .ref a6, .ref a7, .ref a8, .int v9, .int v10, .ref a11, .ref a12, .int v13, .ref a14, .ref a15, .ref a16, .int 2]))] := hD
    obtain rfl : (-1) = r_18 := Eq.symm hw_18
    have hP9 := hP.sub (ws' := [(h0, .inr (7, [.ref a0, .int 0, .ref a2, .ref a3, .int v4, .int v5, .ref a6, .ref a7, .ref a8, .int v9, .int v10, .ref a11, .ref a12, .int v13, .ref a14, .ref a15, .ref a16, .int 2])), (a12, .inr (2, [.ref d0, .ref d1, .ref d2, .int 0, .int 0])), (d0, .inl (kd, 600, .inl fo_10)), (a0, .inl (kt, 600, .inl ft))]) [3, 0, 1, 2] rfl
    have hD9 := hD.sub (ws' := [(h0, .inr (7, [.ref a0, .int 0, .ref a2, .ref a3, .int v4, .int v5, .ref a6, .ref a7, .ref a8, .int v9, .int v10, .ref a11, .ref a12, .int v13, .ref a14, .ref a15, .ref a16, .int 2])), (a12, .inr (2, [.ref d0, .ref d1, .ref d2, .int 0, .int 0])), (d0, .inl (kd, 600, .inl fo_10)), (a0, .inl (kt, 600, .inl ft))]) [3, 0, 1, 2] (by decide) rfl
    exact W.iret (v := (-1)) hx hb hr (fun t ht hW => ⟨⟨(-1), fo_10, rfl, rfl, by rw [ht]; exact hP9, hD9⟩, hS.F ht⟩) hS.2.2 dX7_name_21
  · subst hr0
    refine lv_if_eq (tgt := 16) hx hb dX7_name_5 (by decide) (fun c_5 => ?_) (fun c_5 => ?_)
    rotate_left
    · exact absurd (by decide) c_5
    refine lv_aload_n hx hb dX7_name_16 rfl (lv_at hl 0 rfl) ?_
    refine lv_iconst (v := 2) hx hb dX7_name_17 (by decide) ?_
    have hPc := hP.sub (ws' := [(h0, .inr (7, [.ref a0, .int 0, .ref a2, .ref a3, .int v4, .int v5, .ref a6, .ref a7, .ref a8, .int v9, .int v10, .ref a11, .ref a12, .int v13, .ref a14, .ref a15, .ref a16, .int v17]))]) [0] rfl
    have hDc := hD.sub (ws' := [(h0, .inr (7, [.ref a0, .int 0, .ref a2, .ref a3, .int v4, .int v5, .ref a6, .ref a7, .ref a8, .int v9, .int v10, .ref a11, .ref a12, .int v13, .ref a14, .ref a15, .ref a16, .int v17]))]) [0] (by decide) rfl
    have hKc := hK.sub (tys' := []) [] rfl
    have hFc := va_free (wc := [(h0, .inr (7, [.ref a0, .int 0, .ref a2, .ref a3, .int v4, .int v5, .ref a6, .ref a7, .ref a8, .int v9, .int v10, .ref a11, .ref a12, .int v13, .ref a14, .ref a15, .ref a16, .int v17]))]) hD hS hA [0] rfl
    refine va_calli (va_runV (As := [.int 2]) (rest := []) ⟨hx, hb, hml, hown, hts⟩ (c_X7_refuse l dC dI h0 a0 0 a2 a3 v4 v5 a6 a7 a8 v9 v10 a11 a12 v13 a14 a15 a16 v17 2 s.heap.size) (cwV 1 hts gX7_name_X7_refuse rfl rfl rfl (by decide +kernel) ⟨Nat.le_of_ble_eq_true rfl, Nat.le_of_ble_eq_true rfl⟩) ⟨fun a U g mk q => by obtain ⟨q0, q1, qP, qK, qD⟩ := q; exact ⟨q0, q1, qP, va_K.moved (u := U) (U := U.calling g mk a) (Vm.Alike.refl U.vm) qK, qD⟩, va_recv hK hP (ci := 7) (q0 := 0) rfl rfl, fun U hU hW => ⟨rfl, by rw [hU], by rw [hU]; exact hPc, va_K.moved hW.alike hKc, hDc.weaken (fun _ _ _ _ => trivial)⟩⟩ rfl rfl hl.1 rfl (lv_room (Nat.le_of_ble_eq_true rfl)) dX7_name_18 ⟨Nat.le_of_ble_eq_true rfl, Nat.le_of_ble_eq_true rfl⟩) hS (fun q _ h => hFc q h) hFc (fun r_18 u t H1 locs ht hvm hw_18 hB hz1 hk1 hS => ?_)
    obtain ⟨hP1, hD1⟩ := hB
    rw [ht] at hP1
    obtain ⟨hP, hD⟩ := va_join (wr := [(a12, .inr (2, [.ref d0, .ref d1, .ref d2, .int 0, .int 0])), (d0, .inl (kd, 600, .inl fd)), (a0, .inl (kt, 600, .inl ft))]) (w1 := [(h0, .inr (7, [.ref a0, .int 0, .ref a2, .ref a3, .int v4, .int v5, .ref a6, .ref a7, .ref a8, .int v9, .int v10, .ref a11, .ref a12, .int v13, .ref a14, .ref a15, .ref a16, .int 2]))]) hP hD [0] [1, 2, 3] rfl rfl (by decide) (by decide) hk1 hFc hP1 hD1
    generalize H1 = H at hP hS ⊢
    replace hP : va_P (dC, dI) vwCl [(a12, .inr (2, [.ref d0, .ref d1, .ref d2, .int 0, .int 0])), (d0, .inl (kd, 600, .inl fd)), (a0, .inl (kt, 600, .inl ft)), (h0, .inr (7, [.ref a0, .int 0, .ref a2, .ref a3, .int v4, .int v5, .ref a6, .ref a7, .ref a8, .int v9, .int v10, .ref a11, .ref a12, .int v13, .ref a14, .ref a15, .ref a16, .int 2]))] H := hP
    replace hD : va_D A [(a12, .inr (2, [.ref d0, .ref d1, .ref d2, .int 0, .int 0])), (d0, .inl (kd, 600, .inl fd)), (a0, .inl (kt, 600, .inl ft)), (h0, .inr (7, [.ref a0, .int 0, .ref a2, .ref a3, .int v4, .int v5, .ref a6, .ref a7, .ref a8, .int v9, .int v10, .ref a11, .ref a12, .int v13, .ref a14, .ref a15, .ref a16, .int 2]))] := hD
    obtain rfl : (-1) = r_18 := Eq.symm hw_18
    have hP9 := hP.sub (ws' := [(h0, .inr (7, [.ref a0, .int 0, .ref a2, .ref a3, .int v4, .int v5, .ref a6, .ref a7, .ref a8, .int v9, .int v10, .ref a11, .ref a12, .int v13, .ref a14, .ref a15, .ref a16, .int 2])), (a12, .inr (2, [.ref d0, .ref d1, .ref d2, .int 0, .int 0])), (d0, .inl (kd, 600, .inl fd)), (a0, .inl (kt, 600, .inl ft))]) [3, 0, 1, 2] rfl
    have hD9 := hD.sub (ws' := [(h0, .inr (7, [.ref a0, .int 0, .ref a2, .ref a3, .int v4, .int v5, .ref a6, .ref a7, .ref a8, .int v9, .int v10, .ref a11, .ref a12, .int v13, .ref a14, .ref a15, .ref a16, .int 2])), (a12, .inr (2, [.ref d0, .ref d1, .ref d2, .int 0, .int 0])), (d0, .inl (kd, 600, .inl fd)), (a0, .inl (kt, 600, .inl ft))]) [3, 0, 1, 2] (by decide) rfl
    exact W.iret (v := (-1)) hx hb hr (fun t ht hW => ⟨⟨(-1), fd, rfl, rfl, by rw [ht]; exact hP9, hD9⟩, hS.F ht⟩) hS.2.2 dX7_name_21

set_option maxHeartbeats 4000000 in
set_option maxRecDepth 100000 in
theorem c_X7_text (l : Launch) (dC : Nat → ClassId) (dI : Nat → Nat → Nat) (h0 : Nat) (a0 : Nat) (a2 : Nat) (a3 : Nat) (v4 : Int32) (v5 : Int32) (a6 : Nat) (a7 : Nat) (a8 : Nat) (v9 : Int32) (v10 : Int32) (a11 : Nat) (a12 : Nat) (v13 : Int32) (a14 : Nat) (a15 : Nat) (a16 : Nat) (v17 : Int32) (d0 : Nat) (d1 : Nat) (d2 : Nat) (kd : ClassId) (kt : ClassId) (fd : Nat → Int32) (ft : Nat → Int32) (p0 : Int32) (sz : Nat) : Met l yX7_text wsX7_text ({ frames := 4, cells := 0, slots := 0, locals := 82 }) (va_Pc [.ref h0, .int p0] (fun U => U.heap.size = sz ∧ va_P (dC, dI) vwCl [(h0, .inr (7, [.ref a0, .int 0, .ref a2, .ref a3, .int v4, .int v5, .ref a6, .ref a7, .ref a8, .int v9, .int v10, .ref a11, .ref a12, .int v13, .ref a14, .ref a15, .ref a16, .int v17])), (a12, .inr (2, [.ref d0, .ref d1, .ref d2, .int 0, .int 0])), (d0, .inl (kd, 600, .inl fd)), (a0, .inl (kt, 600, .inl ft))] U.heap ∧ va_K (dC, dI) vwCl [(kd, .byte), (kt, .byte)] U ∧ va_D (fun _ => True) [(h0, .inr (7, [.ref a0, .int 0, .ref a2, .ref a3, .int v4, .int v5, .ref a6, .ref a7, .ref a8, .int v9, .int v10, .ref a11, .ref a12, .int v13, .ref a14, .ref a15, .ref a16, .int v17])), (a12, .inr (2, [.ref d0, .ref d1, .ref d2, .int 0, .int 0])), (d0, .inl (kd, 600, .inl fd)), (a0, .inl (kt, 600, .inl ft))])) (va_Qi (fun (r : Int32) (u : Nat × Nat × Int32 × Int32 × (Nat → Int32)) => match u with | (ua, ub, uc, ud, fo) => (r = 0 ∧ p0 = 0) ∨ (r = (-1) ∧ ¬ p0 = 0)) (fun (u : Nat × Nat × Int32 × Int32 × (Nat → Int32)) (t : State) => match u with | (ua, ub, uc, ud, fo) => va_P (dC, dI) vwCl [(h0, .inr (7, [.ref a0, .int 0, .ref a2, .ref a3, .int v4, .int v5, .ref a6, .ref a7, .ref a8, .int v9, .int v10, .ref ua, .ref ub, .int uc, .ref a14, .ref a15, .ref a16, .int ud])), (a12, .inr (2, [.ref d0, .ref d1, .ref d2, .int 0, .int 0])), (d0, .inl (kd, 600, .inl fo)), (a0, .inl (kt, 600, .inl ft))] t.heap ∧ va_D (va_A [(h0, .inr (7, [.ref a0, .int 0, .ref a2, .ref a3, .int v4, .int v5, .ref a6, .ref a7, .ref a8, .int v9, .int v10, .ref a11, .ref a12, .int v13, .ref a14, .ref a15, .ref a16, .int v17])), (a12, .inr (2, [.ref d0, .ref d1, .ref d2, .int 0, .int 0])), (d0, .inl (kd, 600, .inl fd)), (a0, .inl (kt, 600, .inl ft))] sz) [(h0, .inr (7, [.ref a0, .int 0, .ref a2, .ref a3, .int v4, .int v5, .ref a6, .ref a7, .ref a8, .int v9, .int v10, .ref ua, .ref ub, .int uc, .ref a14, .ref a15, .ref a16, .int ud])), (a12, .inr (2, [.ref d0, .ref d1, .ref d2, .int 0, .int 0])), (d0, .inl (kd, 600, .inl fo)), (a0, .inl (kt, 600, .inl ft))]) (va_A [(h0, .inr (7, [.ref a0, .int 0, .ref a2, .ref a3, .int v4, .int v5, .ref a6, .ref a7, .ref a8, .int v9, .int v10, .ref a11, .ref a12, .int v13, .ref a14, .ref a15, .ref a16, .int v17])), (a12, .inr (2, [.ref d0, .ref d1, .ref d2, .int 0, .int 0])), (d0, .inl (kd, 600, .inl fd)), (a0, .inl (kt, 600, .inl ft))] sz)) 0 0 (va_A [(h0, .inr (7, [.ref a0, .int 0, .ref a2, .ref a3, .int v4, .int v5, .ref a6, .ref a7, .ref a8, .int v9, .int v10, .ref a11, .ref a12, .int v13, .ref a14, .ref a15, .ref a16, .int v17])), (a12, .inr (2, [.ref d0, .ref d1, .ref d2, .int 0, .int 0])), (d0, .inl (kd, 600, .inl fd)), (a0, .inl (kt, 600, .inl ft))] sz) := by
  refine Met.ofW (cc := cX7_text) (maxL := 2) (ret := (some .int)) (by decide) rfl ?_
  intro p e s m args below meth c s₁ B hml hv
  obtain ⟨rfl, hsz, hP, hK, hD0⟩ := hv
  have hx := B.exec
  have hb := B.bytes
  have hr := B.returns
  have hts := atoms_spec (ws := wsX7_text) B.pre
  have hown : s.vm.findClass RX7 = some m.cls := findClass_of_methodNamed B.named
  have hlocks := B.notSynchronized
  subst hsz
  have hD := hD0.self (sz := s.heap.size)
  generalize hAe : va_A [(h0, .inr (7, [.ref a0, .int 0, .ref a2, .ref a3, .int v4, .int v5, .ref a6, .ref a7, .ref a8, .int v9, .int v10, .ref a11, .ref a12, .int v13, .ref a14, .ref a15, .ref a16, .int v17])), (a12, .inr (2, [.ref d0, .ref d1, .ref d2, .int 0, .int 0])), (d0, .inl (kd, 600, .inl fd)), (a0, .inl (kt, 600, .inl ft))] s.heap.size = A at hD ⊢
  have hA : ∀ q : Nat, s.heap.size ≤ q → A q := fun q h => by rw [← hAe]; exact Or.inr h
  have hS : va_S A s.heap s.heap [] := va_S.rf
  replace hP : va_P (dC, dI) vwCl [(h0, .inr (7, [.ref a0, .int 0, .ref a2, .ref a3, .int v4, .int v5, .ref a6, .ref a7, .ref a8, .int v9, .int v10, .ref a11, .ref a12, .int v13, .ref a14, .ref a15, .ref a16, .int v17])), (a12, .inr (2, [.ref d0, .ref d1, .ref d2, .int 0, .int 0])), (d0, .inl (kd, 600, .inl fd)), (a0, .inl (kt, 600, .inl ft))] s.heap := hP
  have hl := lv_entry ([.ref h0, .int p0]) (n := 2) (Nat.le_of_ble_eq_true rfl)
  rw [lg_entry_eq]
  generalize (lg_sl ([.ref h0, .int p0]) ++ List.replicate (2 - (lg_sl ([.ref h0, .int p0])).length) Slot.unset).toArray = ls at hl ⊢
  replace hl : lv_has ls 2 [(0, .ref h0), (1, .int p0)] := hl
  refine lv_aload_n hx hb dX7_text_0 rfl (lv_at hl 0 rfl) ?_
  refine lv_iload_n hx hb dX7_text_1 rfl (lv_at hl 1 rfl) ?_
  have hPc := hP.sub (ws' := [(h0, .inr (7, [.ref a0, .int 0, .ref a2, .ref a3, .int v4, .int v5, .ref a6, .ref a7, .ref a8, .int v9, .int v10, .ref a11, .ref a12, .int v13, .ref a14, .ref a15, .ref a16, .int v17]))]) [0] rfl
  have hKc := hK.sub (tys' := []) [] rfl
  refine vp_callSi (W.runV (As := [.int p0]) (rest := []) ⟨hx, hb, hml, hown, hts⟩ (c_X7_isOnTape l dC dI h0 a0 a2 a3 v4 v5 a6 a7 a8 v9 v10 a11 a12 v13 a14 a15 a16 v17 p0) (cwV 1 hts gX7_text_X7_isOnTape rfl rfl rfl (by decide +kernel) ⟨Nat.le_of_ble_eq_true rfl, Nat.le_of_ble_eq_true rfl⟩) ⟨fun a U g mk q => by obtain ⟨q0, qP, qK⟩ := q; exact ⟨q0, qP, va_K.moved (u := U) (U := U.calling g mk a) (Vm.Alike.refl U.vm) qK⟩, va_recv hK hP (ci := 7) (q0 := 0) rfl rfl, fun U hU hW => ⟨rfl, by rw [hU]; exact hPc, va_K.moved hW.alike hKc⟩⟩ rfl rfl hl.1 rfl (lv_room (Nat.le_of_ble_eq_true rfl)) dX7_text_2 ⟨Nat.le_of_ble_eq_true rfl, Nat.le_of_ble_eq_true rfl⟩) (fun r_2 hw_2 => ?_)
  rcases hw_2 with ⟨hr0, hp0⟩ | ⟨hr0, hp0⟩
  · subst hr0
    subst hp0
    refine lv_if_ne (tgt := 14) hx hb dX7_text_5 (by decide) (fun c_5 => ?_) (fun c_5 => ?_)
    rotate_left
    · exact absurd c_5 (by decide)
    refine lv_aload_n hx hb dX7_text_14 rfl (lv_at hl 0 rfl) ?_
    refine lv_iload_n hx hb dX7_text_15 rfl (lv_at hl 1 rfl) ?_
    have hPc := hP.sub (ws' := [(h0, .inr (7, [.ref a0, .int 0, .ref a2, .ref a3, .int v4, .int v5, .ref a6, .ref a7, .ref a8, .int v9, .int v10, .ref a11, .ref a12, .int v13, .ref a14, .ref a15, .ref a16, .int v17])), (a12, .inr (2, [.ref d0, .ref d1, .ref d2, .int 0, .int 0])), (d0, .inl (kd, 600, .inl fd)), (a0, .inl (kt, 600, .inl ft))]) [0, 1, 2, 3] rfl
    have hDc := hD.sub (ws' := [(h0, .inr (7, [.ref a0, .int 0, .ref a2, .ref a3, .int v4, .int v5, .ref a6, .ref a7, .ref a8, .int v9, .int v10, .ref a11, .ref a12, .int v13, .ref a14, .ref a15, .ref a16, .int v17])), (a12, .inr (2, [.ref d0, .ref d1, .ref d2, .int 0, .int 0])), (d0, .inl (kd, 600, .inl fd)), (a0, .inl (kt, 600, .inl ft))]) [0, 1, 2, 3] (by decide) rfl
    have hKc := hK.sub (tys' := [(kd, .byte), (kt, .byte)]) [0, 1] rfl
    have hFc := va_free (wc := [(h0, .inr (7, [.ref a0, .int 0, .ref a2, .ref a3, .int v4, .int v5, .ref a6, .ref a7, .ref a8, .int v9, .int v10, .ref a11, .ref a12, .int v13, .ref a14, .ref a15, .ref a16, .int v17])), (a12, .inr (2, [.ref d0, .ref d1, .ref d2, .int 0, .int 0])), (d0, .inl (kd, 600, .inl fd)), (a0, .inl (kt, 600, .inl ft))]) hD hS hA [0, 1, 2, 3] rfl
    refine va_calli (va_runV (As := [.int 0]) (rest := []) ⟨hx, hb, hml, hown, hts⟩ (c_X7_draftFromTape_0 l dC dI h0 a0 0 a2 a3 v4 v5 a6 a7 a8 v9 v10 a11 a12 v13 a14 a15 a16 v17 d0 d1 d2 kd kt fd ft s.heap.size) (cwV 1 hts gX7_text_X7_draftFromTape rfl rfl rfl (by decide +kernel) ⟨Nat.le_of_ble_eq_true rfl, Nat.le_of_ble_eq_true rfl⟩) ⟨fun a U g mk q => by obtain ⟨q0, q1, qP, qK, qD⟩ := q; exact ⟨q0, q1, qP, va_K.moved (u := U) (U := U.calling g mk a) (Vm.Alike.refl U.vm) qK, qD⟩, va_recv hK hP (ci := 7) (q0 := 0) rfl rfl, fun U hU hW => ⟨rfl, by rw [hU], by rw [hU]; exact hPc, va_K.moved hW.alike hKc, hDc.weaken (fun _ _ _ _ => trivial)⟩⟩ rfl rfl hl.1 rfl (lv_room (Nat.le_of_ble_eq_true rfl)) dX7_text_16 ⟨Nat.le_of_ble_eq_true rfl, Nat.le_of_ble_eq_true rfl⟩) hS (fun q _ h => hFc q h) hFc (fun r_16 u t H1 locs ht hvm hw_16 hB hz1 hk1 hS => ?_)
    obtain ⟨fo_16, rfl⟩ : ∃ z, z = u := ⟨_, rfl⟩
    try dsimp only at hw_16 hB
    obtain ⟨hP1, hD1⟩ := hB
    rw [ht] at hP1
    obtain ⟨hP, hD⟩ := va_join (wr := []) (w1 := [(h0, .inr (7, [.ref a0, .int 0, .ref a2, .ref a3, .int v4, .int v5, .ref a6, .ref a7, .ref a8, .int v9, .int v10, .ref a11, .ref a12, .int v13, .ref a14, .ref a15, .ref a16, .int v17])), (a12, .inr (2, [.ref d0, .ref d1, .ref d2, .int 0, .int 0])), (d0, .inl (kd, 600, .inl fo_16)), (a0, .inl (kt, 600, .inl ft))]) hP hD [0, 1, 2, 3] [] rfl rfl (by decide) (by decide) hk1 hFc hP1 hD1
    generalize H1 = H at hP hS ⊢
    replace hP : va_P (dC, dI) vwCl [(h0, .inr (7, [.ref a0, .int 0, .ref a2, .ref a3, .int v4, .int v5, .ref a6, .ref a7, .ref a8, .int v9, .int v10, .ref a11, .ref a12, .int v13, .ref a14, .ref a15, .ref a16, .int v17])), (a12, .inr (2, [.ref d0, .ref d1, .ref d2, .int 0, .int 0])), (d0, .inl (kd, 600, .inl fo_16)), (a0, .inl (kt, 600, .inl ft))] H := hP
    replace hD : va_D A [(h0, .inr (7, [.ref a0, .int 0, .ref a2, .ref a3, .int v4, .int v5, .ref a6, .ref a7, .ref a8, .int v9, .int v10, .ref a11, .ref a12, .int v13, .ref a14, .ref a15, .ref a16, .int v17])), (a12, .inr (2, [.ref d0, .ref d1, .ref d2, .int 0, .int 0])), (d0, .inl (kd, 600, .inl fo_16)), (a0, .inl (kt, 600, .inl ft))] := hD
    obtain rfl : 1 = r_16 := Eq.symm hw_16
    refine lv_if_eq (tgt := 29) hx hb dX7_text_19 (by decide) (fun c_19 => ?_) (fun c_19 => ?_)
    · exact absurd c_19 (by decide)
    refine lv_aload_n hx hb dX7_text_22 rfl (lv_at hl 0 rfl) ?_
    have hPc := hP.sub (ws' := [(h0, .inr (7, [.ref a0, .int 0, .ref a2, .ref a3, .int v4, .int v5, .ref a6, .ref a7, .ref a8, .int v9, .int v10, .ref a11, .ref a12, .int v13, .ref a14, .ref a15, .ref a16, .int v17])), (a12, .inr (2, [.ref d0, .ref d1, .ref d2, .int 0, .int 0]))]) [0, 1] rfl
    have hDc := hD.sub (ws' := [(h0, .inr (7, [.ref a0, .int 0, .ref a2, .ref a3, .int v4, .int v5, .ref a6, .ref a7, .ref a8, .int v9, .int v10, .ref a11, .ref a12, .int v13, .ref a14, .ref a15, .ref a16, .int v17])), (a12, .inr (2, [.ref d0, .ref d1, .ref d2, .int 0, .int 0]))]) [0, 1] (by decide) rfl
    have hKc := hK.sub (tys' := []) [] rfl
    have hFc := va_free (wc := [(h0, .inr (7, [.ref a0, .int 0, .ref a2, .ref a3, .int v4, .int v5, .ref a6, .ref a7, .ref a8, .int v9, .int v10, .ref a11, .ref a12, .int v13, .ref a14, .ref a15, .ref a16, .int v17])), (a12, .inr (2, [.ref d0, .ref d1, .ref d2, .int 0, .int 0]))]) hD hS hA [0, 1] rfl
    refine va_calli (va_runV (As := []) (rest := []) ⟨hx, hb, hml, hown, hts⟩ (c_X7_draftBecomesText l dC dI h0 a0 0 a2 a3 v4 v5 a6 a7 a8 v9 v10 a11 a12 v13 a14 a15 a16 v17 d0 d1 d2 0 0 H.size) (cwV 0 hts gX7_text_X7_draftBecomesText rfl rfl rfl (by decide +kernel) ⟨Nat.le_of_ble_eq_true rfl, Nat.le_of_ble_eq_true rfl⟩) ⟨fun a U g mk q => by obtain ⟨q0, q1, qP, qK, qD⟩ := q; exact ⟨q0, q1, qP, va_K.moved (u := U) (U := U.calling g mk a) (Vm.Alike.refl U.vm) qK, qD⟩, va_recv hK hP (ci := 7) (q0 := 0) rfl rfl, fun U hU hW => ⟨rfl, by rw [hU], by rw [hU]; exact hPc, va_K.moved hW.alike hKc, hDc.weaken (fun _ _ _ _ => trivial)⟩⟩ rfl rfl hl.1 rfl (lv_room (Nat.le_of_ble_eq_true rfl)) dX7_text_23 ⟨Nat.le_of_ble_eq_true rfl, Nat.le_of_ble_eq_true rfl⟩) hS (fun q _ h => hFc q h) hFc (fun r_23 u t H1 locs ht hvm hw_23 hB hz1 hk1 hS => ?_)
    obtain ⟨hP1, hD1⟩ := hB
    rw [ht] at hP1
    obtain ⟨hP, hD⟩ := va_join (wr := [(d0, .inl (kd, 600, .inl fo_16)), (a0, .inl (kt, 600, .inl ft))]) (w1 := [(h0, .inr (7, [.ref a0, .int 0, .ref a2, .ref a3, .int v4, .int v5, .ref a6, .ref a7, .ref a8, .int v9, .int v10, .ref a12, .ref a11, .int 1, .ref a14, .ref a15, .ref a16, .int 0])), (a12, .inr (2, [.ref d0, .ref d1, .ref d2, .int 0, .int 0]))]) hP hD [0, 1] [2, 3] rfl rfl (by decide) (by decide) hk1 hFc hP1 hD1
    generalize H1 = H at hP hS ⊢
    replace hP : va_P (dC, dI) vwCl [(d0, .inl (kd, 600, .inl fo_16)), (a0, .inl (kt, 600, .inl ft)), (h0, .inr (7, [.ref a0, .int 0, .ref a2, .ref a3, .int v4, .int v5, .ref a6, .ref a7, .ref a8, .int v9, .int v10, .ref a12, .ref a11, .int 1, .ref a14, .ref a15, .ref a16, .int 0])), (a12, .inr (2, [.ref d0, .ref d1, .ref d2, .int 0, .int 0]))] H := hP
    replace hD : va_D A [(d0, .inl (kd, 600, .inl fo_16)), (a0, .inl (kt, 600, .inl ft)), (h0, .inr (7, [.ref a0, .int 0, .ref a2, .ref a3, .int v4, .int v5, .ref a6, .ref a7, .ref a8, .int v9, .int v10, .ref a12, .ref a11, .int 1, .ref a14, .ref a15, .ref a16, .int 0])), (a12, .inr (2, [.ref d0, .ref d1, .ref d2, .int 0, .int 0]))] := hD
    obtain rfl : 0 = r_23 := Eq.symm hw_23
    refine lv_goto (tgt := 34) hx hb dX7_text_26 (by decide) ?_
    have hP9 := hP.sub (ws' := [(h0, .inr (7, [.ref a0, .int 0, .ref a2, .ref a3, .int v4, .int v5, .ref a6, .ref a7, .ref a8, .int v9, .int v10, .ref a12, .ref a11, .int 1, .ref a14, .ref a15, .ref a16, .int 0])), (a12, .inr (2, [.ref d0, .ref d1, .ref d2, .int 0, .int 0])), (d0, .inl (kd, 600, .inl fo_16)), (a0, .inl (kt, 600, .inl ft))]) [2, 3, 0, 1] rfl
    have hD9 := hD.sub (ws' := [(h0, .inr (7, [.ref a0, .int 0, .ref a2, .ref a3, .int v4, .int v5, .ref a6, .ref a7, .ref a8, .int v9, .int v10, .ref a12, .ref a11, .int 1, .ref a14, .ref a15, .ref a16, .int 0])), (a12, .inr (2, [.ref d0, .ref d1, .ref d2, .int 0, .int 0])), (d0, .inl (kd, 600, .inl fo_16)), (a0, .inl (kt, 600, .inl ft))]) [2, 3, 0, 1] (by decide) rfl
    exact W.iret (v := 0) hx hb hr (fun t ht hW => ⟨⟨0, (a12, a11, 1, 0, fo_16), rfl, Or.inl ⟨rfl, rfl⟩, by rw [ht]; exact hP9, hD9⟩, hS.F ht⟩) hS.2.2 dX7_text_34
  · subst hr0
    refine lv_if_ne (tgt := 14) hx hb dX7_text_5 (by decide) (fun c_5 => ?_) (fun c_5 => ?_)
    · exact absurd (by decide) c_5
    refine lv_aload_n hx hb dX7_text_8 rfl (lv_at hl 0 rfl) ?_
    refine lv_iconst (v := 2) hx hb dX7_text_9 (by decide) ?_
    have hPc := hP.sub (ws' := [(h0, .inr (7, [.ref a0, .int 0, .ref a2, .ref a3, .int v4, .int v5, .ref a6, .ref a7, .ref a8, .int v9, .int v10, .ref a11, .ref a12, .int v13, .ref a14, .ref a15, .ref a16, .int v17]))]) [0] rfl
    have hDc := hD.sub (ws' := [(h0, .inr (7, [.ref a0, .int 0, .ref a2, .ref a3, .int v4, .int v5, .ref a6, .ref a7, .ref a8, .int v9, .int v10, .ref a11, .ref a12, .int v13, .ref a14, .ref a15, .ref a16, .int v17]))]) [0] (by decide) rfl
    have hKc := hK.sub (tys' := []) [] rfl
    have hFc := va_free (wc := [(h0, .inr (7, [.ref a0, .int 0, .ref a2, .ref a3, .int v4, .int v5, .ref a6, .ref a7, .ref a8, .int v9, .int v10, .ref a11, .ref a12, .int v13, .ref a14, .ref a15, .ref a16, .int v17]))]) hD hS hA [0] rfl
    refine va_calli (va_runV (As := [.int 2]) (rest := []) ⟨hx, hb, hml, hown, hts⟩ (c_X7_refuse l dC dI h0 a0 0 a2 a3 v4 v5 a6 a7 a8 v9 v10 a11 a12 v13 a14 a15 a16 v17 2 s.heap.size) (cwV 1 hts gX7_text_X7_refuse rfl rfl rfl (by decide +kernel) ⟨Nat.le_of_ble_eq_true rfl, Nat.le_of_ble_eq_true rfl⟩) ⟨fun a U g mk q => by obtain ⟨q0, q1, qP, qK, qD⟩ := q; exact ⟨q0, q1, qP, va_K.moved (u := U) (U := U.calling g mk a) (Vm.Alike.refl U.vm) qK, qD⟩, va_recv hK hP (ci := 7) (q0 := 0) rfl rfl, fun U hU hW => ⟨rfl, by rw [hU], by rw [hU]; exact hPc, va_K.moved hW.alike hKc, hDc.weaken (fun _ _ _ _ => trivial)⟩⟩ rfl rfl hl.1 rfl (lv_room (Nat.le_of_ble_eq_true rfl)) dX7_text_10 ⟨Nat.le_of_ble_eq_true rfl, Nat.le_of_ble_eq_true rfl⟩) hS (fun q _ h => hFc q h) hFc (fun r_10 u t H1 locs ht hvm hw_10 hB hz1 hk1 hS => ?_)
    obtain ⟨hP1, hD1⟩ := hB
    rw [ht] at hP1
    obtain ⟨hP, hD⟩ := va_join (wr := [(a12, .inr (2, [.ref d0, .ref d1, .ref d2, .int 0, .int 0])), (d0, .inl (kd, 600, .inl fd)), (a0, .inl (kt, 600, .inl ft))]) (w1 := [(h0, .inr (7, [.ref a0, .int 0, .ref a2, .ref a3, .int v4, .int v5, .ref a6, .ref a7, .ref a8, .int v9, .int v10, .ref a11, .ref a12, .int v13, .ref a14, .ref a15, .ref a16, .int 2]))]) hP hD [0] [1, 2, 3] rfl rfl (by decide) (by decide) hk1 hFc hP1 hD1
    generalize H1 = H at hP hS ⊢
    replace hP : va_P (dC, dI) vwCl [(a12, .inr (2, [.ref d0, .ref d1, .ref d2, .int 0, .int 0])), (d0, .inl (kd, 600, .inl fd)), (a0, .inl (kt, 600, .inl ft)), (h0, .inr (7, [.ref a0, .int 0, .ref a2, .ref a3, .int v4, .int v5, .ref a6, .ref a7, .ref a8, .int v9, .int v10, .ref a11, .ref a12, .int v13, .ref a14, .ref a15, .ref a16, .int 2]))] H := hP
    replace hD : va_D A [(a12, .inr (2, [.ref d0, .ref d1, .ref d2, .int 0, .int 0])), (d0, .inl (kd, 600, .inl fd)), (a0, .inl (kt, 600, .inl ft)), (h0, .inr (7, [.ref a0, .int 0, .ref a2, .ref a3, .int v4, .int v5, .ref a6, .ref a7, .ref a8, .int v9, .int v10, .ref a11, .ref a12, .int v13, .ref a14, .ref a15, .ref a16, .int 2]))] := hD
    obtain rfl : (-1) = r_10 := Eq.symm hw_10
    have hP9 := hP.sub (ws' := [(h0, .inr (7, [.ref a0, .int 0, .ref a2, .ref a3, .int v4, .int v5, .ref a6, .ref a7, .ref a8, .int v9, .int v10, .ref a11, .ref a12, .int v13, .ref a14, .ref a15, .ref a16, .int 2])), (a12, .inr (2, [.ref d0, .ref d1, .ref d2, .int 0, .int 0])), (d0, .inl (kd, 600, .inl fd)), (a0, .inl (kt, 600, .inl ft))]) [3, 0, 1, 2] rfl
    have hD9 := hD.sub (ws' := [(h0, .inr (7, [.ref a0, .int 0, .ref a2, .ref a3, .int v4, .int v5, .ref a6, .ref a7, .ref a8, .int v9, .int v10, .ref a11, .ref a12, .int v13, .ref a14, .ref a15, .ref a16, .int 2])), (a12, .inr (2, [.ref d0, .ref d1, .ref d2, .int 0, .int 0])), (d0, .inl (kd, 600, .inl fd)), (a0, .inl (kt, 600, .inl ft))]) [3, 0, 1, 2] (by decide) rfl
    exact W.iret (v := (-1)) hx hb hr (fun t ht hW => ⟨⟨(-1), (a11, a12, v13, 2, fd), rfl, Or.inr ⟨rfl, hp0⟩, by rw [ht]; exact hP9, hD9⟩, hS.F ht⟩) hS.2.2 dX7_text_13

set_option maxHeartbeats 4000000 in
set_option maxRecDepth 100000 in
theorem c_X7_more (l : Launch) (dC : Nat → ClassId) (dI : Nat → Nat → Nat) (h0 : Nat) (a0 : Nat) (a2 : Nat) (a3 : Nat) (v4 : Int32) (v5 : Int32) (a6 : Nat) (a7 : Nat) (a8 : Nat) (v9 : Int32) (v10 : Int32) (a11 : Nat) (a12 : Nat) (v13 : Int32) (a14 : Nat) (a15 : Nat) (a16 : Nat) (v17 : Int32) (d0 : Nat) (d1 : Nat) (d2 : Nat) (kd : ClassId) (kt : ClassId) (fd : Nat → Int32) (ft : Nat → Int32) (t0 : Nat) (t1 : Nat) (t2 : Nat) (kq : ClassId) (fq : Nat → Int32) (p0 : Int32) (sz : Nat) : Met l yX7_more wsX7_more ({ frames := 3, cells := 0, slots := 0, locals := 61 }) (va_Pc [.ref h0, .int p0] (fun U => U.heap.size = sz ∧ va_P (dC, dI) vwCl [(h0, .inr (7, [.ref a0, .int 0, .ref a2, .ref a3, .int v4, .int v5, .ref a6, .ref a7, .ref a8, .int v9, .int v10, .ref a11, .ref a12, .int v13, .ref a14, .ref a15, .ref a16, .int v17])), (a12, .inr (2, [.ref d0, .ref d1, .ref d2, .int 0, .int 0])), (d0, .inl (kd, 600, .inl fd)), (a0, .inl (kt, 600, .inl ft)), (a11, .inr (2, [.ref t0, .ref t1, .ref t2, .int 0, .int 0])), (t0, .inl (kq, 600, .inl fq))] U.heap ∧ va_K (dC, dI) vwCl [(kd, .byte), (kt, .byte), (kq, .byte)] U ∧ va_D (fun _ => True) [(h0, .inr (7, [.ref a0, .int 0, .ref a2, .ref a3, .int v4, .int v5, .ref a6, .ref a7, .ref a8, .int v9, .int v10, .ref a11, .ref a12, .int v13, .ref a14, .ref a15, .ref a16, .int v17])), (a12, .inr (2, [.ref d0, .ref d1, .ref d2, .int 0, .int 0])), (d0, .inl (kd, 600, .inl fd)), (a0, .inl (kt, 600, .inl ft)), (a11, .inr (2, [.ref t0, .ref t1, .ref t2, .int 0, .int 0])), (t0, .inl (kq, 600, .inl fq))])) (va_Qi (fun (r : Int32) (u : Nat × Nat × Int32 × Int32 × (Nat → Int32)) => match u with | (ua, ub, uc, ud, fo) => (r = 0 ∧ p0 = 0) ∨ (r = (-1) ∧ ¬ p0 = 0)) (fun (u : Nat × Nat × Int32 × Int32 × (Nat → Int32)) (t : State) => match u with | (ua, ub, uc, ud, fo) => va_P (dC, dI) vwCl [(h0, .inr (7, [.ref a0, .int 0, .ref a2, .ref a3, .int v4, .int v5, .ref a6, .ref a7, .ref a8, .int v9, .int v10, .ref ua, .ref ub, .int uc, .ref a14, .ref a15, .ref a16, .int ud])), (a12, .inr (2, [.ref d0, .ref d1, .ref d2, .int 0, .int 0])), (d0, .inl (kd, 600, .inl fo)), (a0, .inl (kt, 600, .inl ft)), (a11, .inr (2, [.ref t0, .ref t1, .ref t2, .int 0, .int 0])), (t0, .inl (kq, 600, .inl fq))] t.heap ∧ va_D (va_A [(h0, .inr (7, [.ref a0, .int 0, .ref a2, .ref a3, .int v4, .int v5, .ref a6, .ref a7, .ref a8, .int v9, .int v10, .ref a11, .ref a12, .int v13, .ref a14, .ref a15, .ref a16, .int v17])), (a12, .inr (2, [.ref d0, .ref d1, .ref d2, .int 0, .int 0])), (d0, .inl (kd, 600, .inl fd)), (a0, .inl (kt, 600, .inl ft)), (a11, .inr (2, [.ref t0, .ref t1, .ref t2, .int 0, .int 0])), (t0, .inl (kq, 600, .inl fq))] sz) [(h0, .inr (7, [.ref a0, .int 0, .ref a2, .ref a3, .int v4, .int v5, .ref a6, .ref a7, .ref a8, .int v9, .int v10, .ref ua, .ref ub, .int uc, .ref a14, .ref a15, .ref a16, .int ud])), (a12, .inr (2, [.ref d0, .ref d1, .ref d2, .int 0, .int 0])), (d0, .inl (kd, 600, .inl fo)), (a0, .inl (kt, 600, .inl ft)), (a11, .inr (2, [.ref t0, .ref t1, .ref t2, .int 0, .int 0])), (t0, .inl (kq, 600, .inl fq))]) (va_A [(h0, .inr (7, [.ref a0, .int 0, .ref a2, .ref a3, .int v4, .int v5, .ref a6, .ref a7, .ref a8, .int v9, .int v10, .ref a11, .ref a12, .int v13, .ref a14, .ref a15, .ref a16, .int v17])), (a12, .inr (2, [.ref d0, .ref d1, .ref d2, .int 0, .int 0])), (d0, .inl (kd, 600, .inl fd)), (a0, .inl (kt, 600, .inl ft)), (a11, .inr (2, [.ref t0, .ref t1, .ref t2, .int 0, .int 0])), (t0, .inl (kq, 600, .inl fq))] sz)) 0 0 (va_A [(h0, .inr (7, [.ref a0, .int 0, .ref a2, .ref a3, .int v4, .int v5, .ref a6, .ref a7, .ref a8, .int v9, .int v10, .ref a11, .ref a12, .int v13, .ref a14, .ref a15, .ref a16, .int v17])), (a12, .inr (2, [.ref d0, .ref d1, .ref d2, .int 0, .int 0])), (d0, .inl (kd, 600, .inl fd)), (a0, .inl (kt, 600, .inl ft)), (a11, .inr (2, [.ref t0, .ref t1, .ref t2, .int 0, .int 0])), (t0, .inl (kq, 600, .inl fq))] sz) := by
  refine Met.ofW (cc := cX7_more) (maxL := 2) (ret := (some .int)) (by decide) rfl ?_
  intro p e s m args below meth c s₁ B hml hv
  obtain ⟨rfl, hsz, hP, hK, hD0⟩ := hv
  have hx := B.exec
  have hb := B.bytes
  have hr := B.returns
  have hts := atoms_spec (ws := wsX7_more) B.pre
  have hown : s.vm.findClass RX7 = some m.cls := findClass_of_methodNamed B.named
  have hlocks := B.notSynchronized
  subst hsz
  have hD := hD0.self (sz := s.heap.size)
  generalize hAe : va_A [(h0, .inr (7, [.ref a0, .int 0, .ref a2, .ref a3, .int v4, .int v5, .ref a6, .ref a7, .ref a8, .int v9, .int v10, .ref a11, .ref a12, .int v13, .ref a14, .ref a15, .ref a16, .int v17])), (a12, .inr (2, [.ref d0, .ref d1, .ref d2, .int 0, .int 0])), (d0, .inl (kd, 600, .inl fd)), (a0, .inl (kt, 600, .inl ft)), (a11, .inr (2, [.ref t0, .ref t1, .ref t2, .int 0, .int 0])), (t0, .inl (kq, 600, .inl fq))] s.heap.size = A at hD ⊢
  have hA : ∀ q : Nat, s.heap.size ≤ q → A q := fun q h => by rw [← hAe]; exact Or.inr h
  have hS : va_S A s.heap s.heap [] := va_S.rf
  replace hP : va_P (dC, dI) vwCl [(h0, .inr (7, [.ref a0, .int 0, .ref a2, .ref a3, .int v4, .int v5, .ref a6, .ref a7, .ref a8, .int v9, .int v10, .ref a11, .ref a12, .int v13, .ref a14, .ref a15, .ref a16, .int v17])), (a12, .inr (2, [.ref d0, .ref d1, .ref d2, .int 0, .int 0])), (d0, .inl (kd, 600, .inl fd)), (a0, .inl (kt, 600, .inl ft)), (a11, .inr (2, [.ref t0, .ref t1, .ref t2, .int 0, .int 0])), (t0, .inl (kq, 600, .inl fq))] s.heap := hP
  have hl := lv_entry ([.ref h0, .int p0]) (n := 2) (Nat.le_of_ble_eq_true rfl)
  rw [lg_entry_eq]
  generalize (lg_sl ([.ref h0, .int p0]) ++ List.replicate (2 - (lg_sl ([.ref h0, .int p0])).length) Slot.unset).toArray = ls at hl ⊢
  replace hl : lv_has ls 2 [(0, .ref h0), (1, .int p0)] := hl
  have hi_X7 : ∀ w ∈ wsX70, w ∈ wsX7_more := by decide +kernel
  have k_f65 := hts (.fieldLink RX7 65 "TongueTeller" "draft" "LTongueTeller$Script;") (by decide +kernel)
  have k_f61 := hts (.fieldLink RX7 61 "TongueTeller" "theText" "LTongueTeller$Script;") (by decide +kernel)
  have hi_X2 : ∀ w ∈ wsX20, w ∈ wsX7_more := by decide +kernel
  have k_f174 := hts (.fieldLink RX7 174 "TongueTeller$Script" "signs" "[B") (by decide +kernel)
  have k_f177 := hts (.fieldLink RX7 177 "TongueTeller$Script" "size" "I") (by decide +kernel)
  refine lv_aload_n hx hb dX7_more_0 rfl (lv_at hl 0 rfl) ?_
  refine lv_iload_n hx hb dX7_more_1 rfl (lv_at hl 1 rfl) ?_
  have hPc := hP.sub (ws' := [(h0, .inr (7, [.ref a0, .int 0, .ref a2, .ref a3, .int v4, .int v5, .ref a6, .ref a7, .ref a8, .int v9, .int v10, .ref a11, .ref a12, .int v13, .ref a14, .ref a15, .ref a16, .int v17]))]) [0] rfl
  have hKc := hK.sub (tys' := []) [] rfl
  refine vp_callSi (W.runV (As := [.int p0]) (rest := []) ⟨hx, hb, hml, hown, hts⟩ (c_X7_isOnTape l dC dI h0 a0 a2 a3 v4 v5 a6 a7 a8 v9 v10 a11 a12 v13 a14 a15 a16 v17 p0) (cwV 1 hts gX7_more_X7_isOnTape rfl rfl rfl (by decide +kernel) ⟨Nat.le_of_ble_eq_true rfl, Nat.le_of_ble_eq_true rfl⟩) ⟨fun a U g mk q => by obtain ⟨q0, qP, qK⟩ := q; exact ⟨q0, qP, va_K.moved (u := U) (U := U.calling g mk a) (Vm.Alike.refl U.vm) qK⟩, va_recv hK hP (ci := 7) (q0 := 0) rfl rfl, fun U hU hW => ⟨rfl, by rw [hU]; exact hPc, va_K.moved hW.alike hKc⟩⟩ rfl rfl hl.1 rfl (lv_room (Nat.le_of_ble_eq_true rfl)) dX7_more_2 ⟨Nat.le_of_ble_eq_true rfl, Nat.le_of_ble_eq_true rfl⟩) (fun r_2 hw_2 => ?_)
  rcases hw_2 with ⟨hr0, hp0⟩ | ⟨hr0, hp0⟩
  · subst hr0
    subst hp0
    refine lv_if_ne (tgt := 14) hx hb dX7_more_5 (by decide) (fun c_5 => ?_) (fun c_5 => ?_)
    rotate_left
    · exact absurd c_5 (by decide)
    refine lv_aload_n hx hb dX7_more_14 rfl (lv_at hl 0 rfl) ?_
    refine va_get (D := (dC, dI)) (ci := 7) (v := .ref a12) (C := RX7) (T := TX7) (N := 18) hx hb hts hi_X7 hown hK hP 0 rfl rfl 12 (by decide) k_f65 (fun _ h9 => h9) rfl dX7_more_15 ?_
    have hPc := hP.sub (ws' := [(a12, .inr (2, [.ref d0, .ref d1, .ref d2, .int 0, .int 0]))]) [1] rfl
    have hDc := hD.sub (ws' := [(a12, .inr (2, [.ref d0, .ref d1, .ref d2, .int 0, .int 0]))]) [1] (by decide) rfl
    have hKc := hK.sub (tys' := []) [] rfl
    have hFc := va_free (wc := [(a12, .inr (2, [.ref d0, .ref d1, .ref d2, .int 0, .int 0]))]) hD hS hA [1] rfl
    refine va_callv (va_runV (As := []) (rest := []) ⟨hx, hb, hml, hown, hts⟩ (c_X2_empty l dC dI a12 d0 d1 d2 0 0 s.heap.size) (cwV 0 hts gX7_more_X2_empty rfl rfl rfl (by decide +kernel) ⟨Nat.le_of_ble_eq_true rfl, Nat.le_of_ble_eq_true rfl⟩) ⟨fun a U g mk q => by obtain ⟨q0, q1, qP, qK, qD⟩ := q; exact ⟨q0, q1, qP, va_K.moved (u := U) (U := U.calling g mk a) (Vm.Alike.refl U.vm) qK, qD⟩, va_recv hK hP (ci := 2) (q0 := 1) rfl rfl, fun U hU hW => ⟨rfl, by rw [hU], by rw [hU]; exact hPc, va_K.moved hW.alike hKc, hDc.weaken (fun _ _ _ _ => trivial)⟩⟩ rfl rfl hl.1 rfl (lv_room (Nat.le_of_ble_eq_true rfl)) dX7_more_18 ⟨Nat.le_of_ble_eq_true rfl, Nat.le_of_ble_eq_true rfl⟩) hS (fun q _ h => hFc q h) hFc (fun u t H1 locs ht hvm hw_18 hB hz1 hk1 hS => ?_)
    obtain ⟨hP1, hD1⟩ := hB
    rw [ht] at hP1
    obtain ⟨hP, hD⟩ := va_join (wr := [(h0, .inr (7, [.ref a0, .int 0, .ref a2, .ref a3, .int v4, .int v5, .ref a6, .ref a7, .ref a8, .int v9, .int v10, .ref a11, .ref a12, .int v13, .ref a14, .ref a15, .ref a16, .int v17])), (d0, .inl (kd, 600, .inl fd)), (a0, .inl (kt, 600, .inl ft)), (a11, .inr (2, [.ref t0, .ref t1, .ref t2, .int 0, .int 0])), (t0, .inl (kq, 600, .inl fq))]) (w1 := [(a12, .inr (2, [.ref d0, .ref d1, .ref d2, .int 0, .int 0]))]) hP hD [1] [0, 2, 3, 4, 5] rfl rfl (by decide) (by decide) hk1 hFc hP1 hD1
    generalize H1 = H at hP hS ⊢
    replace hP : va_P (dC, dI) vwCl [(h0, .inr (7, [.ref a0, .int 0, .ref a2, .ref a3, .int v4, .int v5, .ref a6, .ref a7, .ref a8, .int v9, .int v10, .ref a11, .ref a12, .int v13, .ref a14, .ref a15, .ref a16, .int v17])), (d0, .inl (kd, 600, .inl fd)), (a0, .inl (kt, 600, .inl ft)), (a11, .inr (2, [.ref t0, .ref t1, .ref t2, .int 0, .int 0])), (t0, .inl (kq, 600, .inl fq)), (a12, .inr (2, [.ref d0, .ref d1, .ref d2, .int 0, .int 0]))] H := hP
    replace hD : va_D A [(h0, .inr (7, [.ref a0, .int 0, .ref a2, .ref a3, .int v4, .int v5, .ref a6, .ref a7, .ref a8, .int v9, .int v10, .ref a11, .ref a12, .int v13, .ref a14, .ref a15, .ref a16, .int v17])), (d0, .inl (kd, 600, .inl fd)), (a0, .inl (kt, 600, .inl ft)), (a11, .inr (2, [.ref t0, .ref t1, .ref t2, .int 0, .int 0])), (t0, .inl (kq, 600, .inl fq)), (a12, .inr (2, [.ref d0, .ref d1, .ref d2, .int 0, .int 0]))] := hD
    refine lv_aload_n hx hb dX7_more_21 rfl (lv_at hl 0 rfl) ?_
    refine va_get (D := (dC, dI)) (ci := 7) (v := .ref a12) (C := RX7) (T := TX7) (N := 18) hx hb hts hi_X7 hown hK hP 0 rfl rfl 12 (by decide) k_f65 (fun _ h9 => h9) rfl dX7_more_22 ?_
    refine lv_aload_n hx hb dX7_more_25 rfl (lv_at hl 0 rfl) ?_
    refine va_get (D := (dC, dI)) (ci := 7) (v := .ref a11) (C := RX7) (T := TX7) (N := 18) hx hb hts hi_X7 hown hK hP 0 rfl rfl 11 (by decide) k_f61 (fun _ h9 => h9) rfl dX7_more_26 ?_
    refine va_get (D := (dC, dI)) (ci := 2) (v := .ref t0) (C := RX2) (T := TX2) (N := 5) hx hb hts hi_X2 hown hK hP 3 rfl rfl 0 (by decide) k_f174 (fun _ h9 => h9) rfl dX7_more_29 ?_
    refine lv_aload_n hx hb dX7_more_32 rfl (lv_at hl 0 rfl) ?_
    refine va_get (D := (dC, dI)) (ci := 7) (v := .ref a11) (C := RX7) (T := TX7) (N := 18) hx hb hts hi_X7 hown hK hP 0 rfl rfl 11 (by decide) k_f61 (fun _ h9 => h9) rfl dX7_more_33 ?_
    refine va_get (D := (dC, dI)) (ci := 2) (v := .int 0) (C := RX2) (T := TX2) (N := 5) hx hb hts hi_X2 hown hK hP 3 rfl rfl 3 (by decide) k_f177 (fun _ h9 => h9) rfl dX7_more_36 ?_
    have hPc := hP.sub (ws' := [(a12, .inr (2, [.ref d0, .ref d1, .ref d2, .int 0, .int 0])), (d0, .inl (kd, 600, .inl fd)), (t0, .inl (kq, 600, .inl fq))]) [5, 1, 4] rfl
    have hDc := hD.sub (ws' := [(a12, .inr (2, [.ref d0, .ref d1, .ref d2, .int 0, .int 0])), (d0, .inl (kd, 600, .inl fd)), (t0, .inl (kq, 600, .inl fq))]) [5, 1, 4] (by decide) rfl
    have hKc := hK.sub (tys' := [(kd, .byte), (kq, .byte)]) [0, 2] rfl
    have hFc := va_free (wc := [(a12, .inr (2, [.ref d0, .ref d1, .ref d2, .int 0, .int 0])), (d0, .inl (kd, 600, .inl fd)), (t0, .inl (kq, 600, .inl fq))]) hD hS hA [5, 1, 4] rfl
    refine va_calli (va_runV (As := [.ref t0, .int 0]) (rest := []) ⟨hx, hb, hml, hown, hts⟩ (c_X2_append_0 l dC dI a12 d0 d1 d2 0 t0 kd kq fd fq H.size) (cwV 2 hts gX7_more_X2_append rfl rfl rfl (by decide +kernel) ⟨Nat.le_of_ble_eq_true rfl, Nat.le_of_ble_eq_true rfl⟩) ⟨fun a U g mk q => by obtain ⟨q0, q1, qP, qK, qD⟩ := q; exact ⟨q0, q1, qP, va_K.moved (u := U) (U := U.calling g mk a) (Vm.Alike.refl U.vm) qK, qD⟩, va_recv hK hP (ci := 2) (q0 := 5) rfl rfl, fun U hU hW => ⟨rfl, by rw [hU], by rw [hU]; exact hPc, va_K.moved hW.alike hKc, hDc.weaken (fun _ _ _ _ => trivial)⟩⟩ rfl rfl hl.1 rfl (lv_room (Nat.le_of_ble_eq_true rfl)) dX7_more_39 ⟨Nat.le_of_ble_eq_true rfl, Nat.le_of_ble_eq_true rfl⟩) hS (fun q _ h => hFc q h) hFc (fun r_39 u t H1 locs ht hvm hw_39 hB hz1 hk1 hS => ?_)
    obtain ⟨fo_39, rfl⟩ : ∃ z, z = u := ⟨_, rfl⟩
    try dsimp only at hw_39 hB
    obtain ⟨hP1, hD1⟩ := hB
    rw [ht] at hP1
    obtain ⟨hP, hD⟩ := va_join (wr := [(h0, .inr (7, [.ref a0, .int 0, .ref a2, .ref a3, .int v4, .int v5, .ref a6, .ref a7, .ref a8, .int v9, .int v10, .ref a11, .ref a12, .int v13, .ref a14, .ref a15, .ref a16, .int v17])), (a0, .inl (kt, 600, .inl ft)), (a11, .inr (2, [.ref t0, .ref t1, .ref t2, .int 0, .int 0]))]) (w1 := [(a12, .inr (2, [.ref d0, .ref d1, .ref d2, .int 0, .int 0])), (d0, .inl (kd, 600, .inl fo_39)), (t0, .inl (kq, 600, .inl fq))]) hP hD [5, 1, 4] [0, 2, 3] rfl rfl (by decide) (by decide) hk1 hFc hP1 hD1
    generalize H1 = H at hP hS ⊢
    replace hP : va_P (dC, dI) vwCl [(h0, .inr (7, [.ref a0, .int 0, .ref a2, .ref a3, .int v4, .int v5, .ref a6, .ref a7, .ref a8, .int v9, .int v10, .ref a11, .ref a12, .int v13, .ref a14, .ref a15, .ref a16, .int v17])), (a0, .inl (kt, 600, .inl ft)), (a11, .inr (2, [.ref t0, .ref t1, .ref t2, .int 0, .int 0])), (a12, .inr (2, [.ref d0, .ref d1, .ref d2, .int 0, .int 0])), (d0, .inl (kd, 600, .inl fo_39)), (t0, .inl (kq, 600, .inl fq))] H := hP
    replace hD : va_D A [(h0, .inr (7, [.ref a0, .int 0, .ref a2, .ref a3, .int v4, .int v5, .ref a6, .ref a7, .ref a8, .int v9, .int v10, .ref a11, .ref a12, .int v13, .ref a14, .ref a15, .ref a16, .int v17])), (a0, .inl (kt, 600, .inl ft)), (a11, .inr (2, [.ref t0, .ref t1, .ref t2, .int 0, .int 0])), (a12, .inr (2, [.ref d0, .ref d1, .ref d2, .int 0, .int 0])), (d0, .inl (kd, 600, .inl fo_39)), (t0, .inl (kq, 600, .inl fq))] := hD
    obtain rfl : 1 = r_39 := Eq.symm hw_39
    refine lv_pop hx hb dX7_more_42 rfl ?_
    refine lv_aload_n hx hb dX7_more_43 rfl (lv_at hl 0 rfl) ?_
    refine lv_iload_n hx hb dX7_more_44 rfl (lv_at hl 1 rfl) ?_
    have hPc := hP.sub (ws' := [(h0, .inr (7, [.ref a0, .int 0, .ref a2, .ref a3, .int v4, .int v5, .ref a6, .ref a7, .ref a8, .int v9, .int v10, .ref a11, .ref a12, .int v13, .ref a14, .ref a15, .ref a16, .int v17])), (a12, .inr (2, [.ref d0, .ref d1, .ref d2, .int 0, .int 0])), (d0, .inl (kd, 600, .inl fo_39)), (a0, .inl (kt, 600, .inl ft))]) [0, 3, 4, 1] rfl
    have hDc := hD.sub (ws' := [(h0, .inr (7, [.ref a0, .int 0, .ref a2, .ref a3, .int v4, .int v5, .ref a6, .ref a7, .ref a8, .int v9, .int v10, .ref a11, .ref a12, .int v13, .ref a14, .ref a15, .ref a16, .int v17])), (a12, .inr (2, [.ref d0, .ref d1, .ref d2, .int 0, .int 0])), (d0, .inl (kd, 600, .inl fo_39)), (a0, .inl (kt, 600, .inl ft))]) [0, 3, 4, 1] (by decide) rfl
    have hKc := hK.sub (tys' := [(kd, .byte), (kt, .byte)]) [0, 1] rfl
    have hFc := va_free (wc := [(h0, .inr (7, [.ref a0, .int 0, .ref a2, .ref a3, .int v4, .int v5, .ref a6, .ref a7, .ref a8, .int v9, .int v10, .ref a11, .ref a12, .int v13, .ref a14, .ref a15, .ref a16, .int v17])), (a12, .inr (2, [.ref d0, .ref d1, .ref d2, .int 0, .int 0])), (d0, .inl (kd, 600, .inl fo_39)), (a0, .inl (kt, 600, .inl ft))]) hD hS hA [0, 3, 4, 1] rfl
    refine va_calli (va_runV (As := [.int 0]) (rest := []) ⟨hx, hb, hml, hown, hts⟩ (c_X7_tapeBehindDraft_0 l dC dI h0 a0 0 a2 a3 v4 v5 a6 a7 a8 v9 v10 a11 a12 v13 a14 a15 a16 v17 d0 d1 d2 kd kt fo_39 ft H.size) (cwV 1 hts gX7_more_X7_tapeBehindDraft rfl rfl rfl (by decide +kernel) ⟨Nat.le_of_ble_eq_true rfl, Nat.le_of_ble_eq_true rfl⟩) ⟨fun a U g mk q => by obtain ⟨q0, q1, qP, qK, qD⟩ := q; exact ⟨q0, q1, qP, va_K.moved (u := U) (U := U.calling g mk a) (Vm.Alike.refl U.vm) qK, qD⟩, va_recv hK hP (ci := 7) (q0 := 0) rfl rfl, fun U hU hW => ⟨rfl, by rw [hU], by rw [hU]; exact hPc, va_K.moved hW.alike hKc, hDc.weaken (fun _ _ _ _ => trivial)⟩⟩ rfl rfl hl.1 rfl (lv_room (Nat.le_of_ble_eq_true rfl)) dX7_more_45 ⟨Nat.le_of_ble_eq_true rfl, Nat.le_of_ble_eq_true rfl⟩) hS (fun q _ h => hFc q h) hFc (fun r_45 u t H1 locs ht hvm hw_45 hB hz1 hk1 hS => ?_)
    obtain ⟨fo_45, rfl⟩ : ∃ z, z = u := ⟨_, rfl⟩
    try dsimp only at hw_45 hB
    obtain ⟨hP1, hD1⟩ := hB
    rw [ht] at hP1
    obtain ⟨hP, hD⟩ := va_join (wr := [(a11, .inr (2, [.ref t0, .ref t1, .ref t2, .int 0, .int 0])), (t0, .inl (kq, 600, .inl fq))]) (w1 := [(h0, .inr (7, [.ref a0, .int 0, .ref a2, .ref a3, .int v4, .int v5, .ref a6, .ref a7, .ref a8, .int v9, .int v10, .ref a11, .ref a12, .int v13, .ref a14, .ref a15, .ref a16, .int v17])), (a12, .inr (2, [.ref d0, .ref d1, .ref d2, .int 0, .int 0])), (d0, .inl (kd, 600, .inl fo_45)), (a0, .inl (kt, 600, .inl ft))]) hP hD [0, 3, 4, 1] [2, 5] rfl rfl (by decide) (by decide) hk1 hFc hP1 hD1
    generalize H1 = H at hP hS ⊢
    replace hP : va_P (dC, dI) vwCl [(a11, .inr (2, [.ref t0, .ref t1, .ref t2, .int 0, .int 0])), (t0, .inl (kq, 600, .inl fq)), (h0, .inr (7, [.ref a0, .int 0, .ref a2, .ref a3, .int v4, .int v5, .ref a6, .ref a7, .ref a8, .int v9, .int v10, .ref a11, .ref a12, .int v13, .ref a14, .ref a15, .ref a16, .int v17])), (a12, .inr (2, [.ref d0, .ref d1, .ref d2, .int 0, .int 0])), (d0, .inl (kd, 600, .inl fo_45)), (a0, .inl (kt, 600, .inl ft))] H := hP
    replace hD : va_D A [(a11, .inr (2, [.ref t0, .ref t1, .ref t2, .int 0, .int 0])), (t0, .inl (kq, 600, .inl fq)), (h0, .inr (7, [.ref a0, .int 0, .ref a2, .ref a3, .int v4, .int v5, .ref a6, .ref a7, .ref a8, .int v9, .int v10, .ref a11, .ref a12, .int v13, .ref a14, .ref a15, .ref a16, .int v17])), (a12, .inr (2, [.ref d0, .ref d1, .ref d2, .int 0, .int 0])), (d0, .inl (kd, 600, .inl fo_45)), (a0, .inl (kt, 600, .inl ft))] := hD
    obtain rfl : 1 = r_45 := Eq.symm hw_45
    refine lv_if_eq (tgt := 58) hx hb dX7_more_48 (by decide) (fun c_48 => ?_) (fun c_48 => ?_)
    · exact absurd c_48 (by decide)
    refine lv_aload_n hx hb dX7_more_51 rfl (lv_at hl 0 rfl) ?_
    have hPc := hP.sub (ws' := [(h0, .inr (7, [.ref a0, .int 0, .ref a2, .ref a3, .int v4, .int v5, .ref a6, .ref a7, .ref a8, .int v9, .int v10, .ref a11, .ref a12, .int v13, .ref a14, .ref a15, .ref a16, .int v17])), (a12, .inr (2, [.ref d0, .ref d1, .ref d2, .int 0, .int 0]))]) [2, 3] rfl
    have hDc := hD.sub (ws' := [(h0, .inr (7, [.ref a0, .int 0, .ref a2, .ref a3, .int v4, .int v5, .ref a6, .ref a7, .ref a8, .int v9, .int v10, .ref a11, .ref a12, .int v13, .ref a14, .ref a15, .ref a16, .int v17])), (a12, .inr (2, [.ref d0, .ref d1, .ref d2, .int 0, .int 0]))]) [2, 3] (by decide) rfl
    have hKc := hK.sub (tys' := []) [] rfl
    have hFc := va_free (wc := [(h0, .inr (7, [.ref a0, .int 0, .ref a2, .ref a3, .int v4, .int v5, .ref a6, .ref a7, .ref a8, .int v9, .int v10, .ref a11, .ref a12, .int v13, .ref a14, .ref a15, .ref a16, .int v17])), (a12, .inr (2, [.ref d0, .ref d1, .ref d2, .int 0, .int 0]))]) hD hS hA [2, 3] rfl
    refine va_calli (va_runV (As := []) (rest := []) ⟨hx, hb, hml, hown, hts⟩ (c_X7_draftBecomesText l dC dI h0 a0 0 a2 a3 v4 v5 a6 a7 a8 v9 v10 a11 a12 v13 a14 a15 a16 v17 d0 d1 d2 0 0 H.size) (cwV 0 hts gX7_more_X7_draftBecomesText rfl rfl rfl (by decide +kernel) ⟨Nat.le_of_ble_eq_true rfl, Nat.le_of_ble_eq_true rfl⟩) ⟨fun a U g mk q => by obtain ⟨q0, q1, qP, qK, qD⟩ := q; exact ⟨q0, q1, qP, va_K.moved (u := U) (U := U.calling g mk a) (Vm.Alike.refl U.vm) qK, qD⟩, va_recv hK hP (ci := 7) (q0 := 2) rfl rfl, fun U hU hW => ⟨rfl, by rw [hU], by rw [hU]; exact hPc, va_K.moved hW.alike hKc, hDc.weaken (fun _ _ _ _ => trivial)⟩⟩ rfl rfl hl.1 rfl (lv_room (Nat.le_of_ble_eq_true rfl)) dX7_more_52 ⟨Nat.le_of_ble_eq_true rfl, Nat.le_of_ble_eq_true rfl⟩) hS (fun q _ h => hFc q h) hFc (fun r_52 u t H1 locs ht hvm hw_52 hB hz1 hk1 hS => ?_)
    obtain ⟨hP1, hD1⟩ := hB
    rw [ht] at hP1
    obtain ⟨hP, hD⟩ := va_join (wr := [(a11, .inr (2, [.ref t0, .ref t1, .ref t2, .int 0, .int 0])), (t0, .inl (kq, 600, .inl fq)), (d0, .inl (kd, 600, .inl fo_45)), (a0, .inl (kt, 600, .inl ft))]) (w1 := [(h0, .inr (7, [.ref a0, .int 0, .ref a2, .ref a3, .int v4, .int v5, .ref a6, .ref a7, .ref a8, .int v9, .int v10, .ref a12, .ref a11, .int 1, .ref a14, .ref a15, .ref a16, .int 0])), (a12, .inr (2, [.ref d0, .ref d1, .ref d2, .int 0, .int 0]))]) hP hD [2, 3] [0, 1, 4, 5] rfl rfl (by decide) (by decide) hk1 hFc hP1 hD1
    generalize H1 = H at hP hS ⊢
    replace hP : va_P (dC, dI) vwCl [(a11, .inr (2, [.ref t0, .ref t1, .ref t2, .int 0, .int 0])), (t0, .inl (kq, 600, .inl fq)), (d0, .inl (kd, 600, .inl fo_45)), (a0, .inl (kt, 600, .inl ft)), (h0, .inr (7, [.ref a0, .int 0, .ref a2, .ref a3, .int v4, .int v5, .ref a6, .ref a7, .ref a8, .int v9, .int v10, .ref a12, .ref a11, .int 1, .ref a14, .ref a15, .ref a16, .int 0])), (a12, .inr (2, [.ref d0, .ref d1, .ref d2, .int 0, .int 0]))] H := hP
    replace hD : va_D A [(a11, .inr (2, [.ref t0, .ref t1, .ref t2, .int 0, .int 0])), (t0, .inl (kq, 600, .inl fq)), (d0, .inl (kd, 600, .inl fo_45)), (a0, .inl (kt, 600, .inl ft)), (h0, .inr (7, [.ref a0, .int 0, .ref a2, .ref a3, .int v4, .int v5, .ref a6, .ref a7, .ref a8, .int v9, .int v10, .ref a12, .ref a11, .int 1, .ref a14, .ref a15, .ref a16, .int 0])), (a12, .inr (2, [.ref d0, .ref d1, .ref d2, .int 0, .int 0]))] := hD
    obtain rfl : 0 = r_52 := Eq.symm hw_52
    refine lv_goto (tgt := 63) hx hb dX7_more_55 (by decide) ?_
    have hP9 := hP.sub (ws' := [(h0, .inr (7, [.ref a0, .int 0, .ref a2, .ref a3, .int v4, .int v5, .ref a6, .ref a7, .ref a8, .int v9, .int v10, .ref a12, .ref a11, .int 1, .ref a14, .ref a15, .ref a16, .int 0])), (a12, .inr (2, [.ref d0, .ref d1, .ref d2, .int 0, .int 0])), (d0, .inl (kd, 600, .inl fo_45)), (a0, .inl (kt, 600, .inl ft)), (a11, .inr (2, [.ref t0, .ref t1, .ref t2, .int 0, .int 0])), (t0, .inl (kq, 600, .inl fq))]) [4, 5, 2, 3, 0, 1] rfl
    have hD9 := hD.sub (ws' := [(h0, .inr (7, [.ref a0, .int 0, .ref a2, .ref a3, .int v4, .int v5, .ref a6, .ref a7, .ref a8, .int v9, .int v10, .ref a12, .ref a11, .int 1, .ref a14, .ref a15, .ref a16, .int 0])), (a12, .inr (2, [.ref d0, .ref d1, .ref d2, .int 0, .int 0])), (d0, .inl (kd, 600, .inl fo_45)), (a0, .inl (kt, 600, .inl ft)), (a11, .inr (2, [.ref t0, .ref t1, .ref t2, .int 0, .int 0])), (t0, .inl (kq, 600, .inl fq))]) [4, 5, 2, 3, 0, 1] (by decide) rfl
    exact W.iret (v := 0) hx hb hr (fun t ht hW => ⟨⟨0, (a12, a11, 1, 0, fo_45), rfl, Or.inl ⟨rfl, rfl⟩, by rw [ht]; exact hP9, hD9⟩, hS.F ht⟩) hS.2.2 dX7_more_63
  · subst hr0
    refine lv_if_ne (tgt := 14) hx hb dX7_more_5 (by decide) (fun c_5 => ?_) (fun c_5 => ?_)
    · exact absurd (by decide) c_5
    refine lv_aload_n hx hb dX7_more_8 rfl (lv_at hl 0 rfl) ?_
    refine lv_iconst (v := 2) hx hb dX7_more_9 (by decide) ?_
    have hPc := hP.sub (ws' := [(h0, .inr (7, [.ref a0, .int 0, .ref a2, .ref a3, .int v4, .int v5, .ref a6, .ref a7, .ref a8, .int v9, .int v10, .ref a11, .ref a12, .int v13, .ref a14, .ref a15, .ref a16, .int v17]))]) [0] rfl
    have hDc := hD.sub (ws' := [(h0, .inr (7, [.ref a0, .int 0, .ref a2, .ref a3, .int v4, .int v5, .ref a6, .ref a7, .ref a8, .int v9, .int v10, .ref a11, .ref a12, .int v13, .ref a14, .ref a15, .ref a16, .int v17]))]) [0] (by decide) rfl
    have hKc := hK.sub (tys' := []) [] rfl
    have hFc := va_free (wc := [(h0, .inr (7, [.ref a0, .int 0, .ref a2, .ref a3, .int v4, .int v5, .ref a6, .ref a7, .ref a8, .int v9, .int v10, .ref a11, .ref a12, .int v13, .ref a14, .ref a15, .ref a16, .int v17]))]) hD hS hA [0] rfl
    refine va_calli (va_runV (As := [.int 2]) (rest := []) ⟨hx, hb, hml, hown, hts⟩ (c_X7_refuse l dC dI h0 a0 0 a2 a3 v4 v5 a6 a7 a8 v9 v10 a11 a12 v13 a14 a15 a16 v17 2 s.heap.size) (cwV 1 hts gX7_more_X7_refuse rfl rfl rfl (by decide +kernel) ⟨Nat.le_of_ble_eq_true rfl, Nat.le_of_ble_eq_true rfl⟩) ⟨fun a U g mk q => by obtain ⟨q0, q1, qP, qK, qD⟩ := q; exact ⟨q0, q1, qP, va_K.moved (u := U) (U := U.calling g mk a) (Vm.Alike.refl U.vm) qK, qD⟩, va_recv hK hP (ci := 7) (q0 := 0) rfl rfl, fun U hU hW => ⟨rfl, by rw [hU], by rw [hU]; exact hPc, va_K.moved hW.alike hKc, hDc.weaken (fun _ _ _ _ => trivial)⟩⟩ rfl rfl hl.1 rfl (lv_room (Nat.le_of_ble_eq_true rfl)) dX7_more_10 ⟨Nat.le_of_ble_eq_true rfl, Nat.le_of_ble_eq_true rfl⟩) hS (fun q _ h => hFc q h) hFc (fun r_10 u t H1 locs ht hvm hw_10 hB hz1 hk1 hS => ?_)
    obtain ⟨hP1, hD1⟩ := hB
    rw [ht] at hP1
    obtain ⟨hP, hD⟩ := va_join (wr := [(a12, .inr (2, [.ref d0, .ref d1, .ref d2, .int 0, .int 0])), (d0, .inl (kd, 600, .inl fd)), (a0, .inl (kt, 600, .inl ft)), (a11, .inr (2, [.ref t0, .ref t1, .ref t2, .int 0, .int 0])), (t0, .inl (kq, 600, .inl fq))]) (w1 := [(h0, .inr (7, [.ref a0, .int 0, .ref a2, .ref a3, .int v4, .int v5, .ref a6, .ref a7, .ref a8, .int v9, .int v10, .ref a11, .ref a12, .int v13, .ref a14, .ref a15, .ref a16, .int 2]))]) hP hD [0] [1, 2, 3, 4, 5] rfl rfl (by decide) (by decide) hk1 hFc hP1 hD1
    generalize H1 = H at hP hS ⊢
    replace hP : va_P (dC, dI) vwCl [(a12, .inr (2, [.ref d0, .ref d1, .ref d2, .int 0, .int 0])), (d0, .inl (kd, 600, .inl fd)), (a0, .inl (kt, 600, .inl ft)), (a11, .inr (2, [.ref t0, .ref t1, .ref t2, .int 0, .int 0])), (t0, .inl (kq, 600, .inl fq)), (h0, .inr (7, [.ref a0, .int 0, .ref a2, .ref a3, .int v4, .int v5, .ref a6, .ref a7, .ref a8, .int v9, .int v10, .ref a11, .ref a12, .int v13, .ref a14, .ref a15, .ref a16, .int 2]))] H := hP
    replace hD : va_D A [(a12, .inr (2, [.ref d0, .ref d1, .ref d2, .int 0, .int 0])), (d0, .inl (kd, 600, .inl fd)), (a0, .inl (kt, 600, .inl ft)), (a11, .inr (2, [.ref t0, .ref t1, .ref t2, .int 0, .int 0])), (t0, .inl (kq, 600, .inl fq)), (h0, .inr (7, [.ref a0, .int 0, .ref a2, .ref a3, .int v4, .int v5, .ref a6, .ref a7, .ref a8, .int v9, .int v10, .ref a11, .ref a12, .int v13, .ref a14, .ref a15, .ref a16, .int 2]))] := hD
    obtain rfl : (-1) = r_10 := Eq.symm hw_10
    have hP9 := hP.sub (ws' := [(h0, .inr (7, [.ref a0, .int 0, .ref a2, .ref a3, .int v4, .int v5, .ref a6, .ref a7, .ref a8, .int v9, .int v10, .ref a11, .ref a12, .int v13, .ref a14, .ref a15, .ref a16, .int 2])), (a12, .inr (2, [.ref d0, .ref d1, .ref d2, .int 0, .int 0])), (d0, .inl (kd, 600, .inl fd)), (a0, .inl (kt, 600, .inl ft)), (a11, .inr (2, [.ref t0, .ref t1, .ref t2, .int 0, .int 0])), (t0, .inl (kq, 600, .inl fq))]) [5, 0, 1, 2, 3, 4] rfl
    have hD9 := hD.sub (ws' := [(h0, .inr (7, [.ref a0, .int 0, .ref a2, .ref a3, .int v4, .int v5, .ref a6, .ref a7, .ref a8, .int v9, .int v10, .ref a11, .ref a12, .int v13, .ref a14, .ref a15, .ref a16, .int 2])), (a12, .inr (2, [.ref d0, .ref d1, .ref d2, .int 0, .int 0])), (d0, .inl (kd, 600, .inl fd)), (a0, .inl (kt, 600, .inl ft)), (a11, .inr (2, [.ref t0, .ref t1, .ref t2, .int 0, .int 0])), (t0, .inl (kq, 600, .inl fq))]) [5, 0, 1, 2, 3, 4] (by decide) rfl
    exact W.iret (v := (-1)) hx hb hr (fun t ht hW => ⟨⟨(-1), (a11, a12, v13, 2, fd), rfl, Or.inr ⟨rfl, hp0⟩, by rw [ht]; exact hP9, hD9⟩, hS.F ht⟩) hS.2.2 dX7_more_13

set_option maxHeartbeats 4000000 in
set_option maxRecDepth 100000 in
theorem c_X7_count (l : Launch) (dC : Nat → ClassId) (dI : Nat → Nat → Nat) (h0 : Nat) (a0 : Nat) (a2 : Nat) (a3 : Nat) (v5 : Int32) (a6 : Nat) (a7 : Nat) (a8 : Nat) (v9 : Int32) (v10 : Int32) (a11 : Nat) (a12 : Nat) (v13 : Int32) (a14 : Nat) (a15 : Nat) (a16 : Nat) (v17 : Int32) (b0 : Nat) (t0 : Nat) (t1 : Nat) (t2 : Nat) (y0 : Nat) (y1 : Nat) (z0 : Nat) (z1 : Nat) (p0 : Int32) : Met l yX7_count wsX7_count ({ frames := 0, cells := 0, slots := 0, locals := 0 }) (va_Pc [.ref h0, .int p0] (fun U => va_P (dC, dI) vwCl [(h0, .inr (7, [.ref a0, .int 0, .ref a2, .ref a3, .int 0, .int v5, .ref a6, .ref a7, .ref a8, .int v9, .int v10, .ref a11, .ref a12, .int v13, .ref a14, .ref a15, .ref a16, .int v17])), (a2, .inr (4, [.ref b0, .int 0])), (a6, .inr (6, [.ref y0, .ref y1, .int 0])), (a8, .inr (6, [.ref z0, .ref z1, .int 0])), (a11, .inr (2, [.ref t0, .ref t1, .ref t2, .int 0, .int 0]))] U.heap ∧ va_K (dC, dI) vwCl [] U)) (vp_Si (fun r => (r = 0 ∧ 0 ≤ p0 ∧ p0 < 7) ∨ (r = (-1) ∧ ¬ (0 ≤ p0 ∧ p0 < 7)))) 0 0 (fun _ => False) := by
  refine Met.ofW (cc := cX7_count) (maxL := 2) (ret := (some .int)) (by decide) rfl ?_
  intro p e s m args below meth c s₁ B hml hv
  obtain ⟨rfl, hP, hK⟩ := hv
  have hx := B.exec
  have hb := B.bytes
  have hr := B.returns
  have hts := atoms_spec (ws := wsX7_count) B.pre
  have hown : s.vm.findClass RX7 = some m.cls := findClass_of_methodNamed B.named
  have hlocks := B.notSynchronized
  replace hP : va_P (dC, dI) vwCl [(h0, .inr (7, [.ref a0, .int 0, .ref a2, .ref a3, .int 0, .int v5, .ref a6, .ref a7, .ref a8, .int v9, .int v10, .ref a11, .ref a12, .int v13, .ref a14, .ref a15, .ref a16, .int v17])), (a2, .inr (4, [.ref b0, .int 0])), (a6, .inr (6, [.ref y0, .ref y1, .int 0])), (a8, .inr (6, [.ref z0, .ref z1, .int 0])), (a11, .inr (2, [.ref t0, .ref t1, .ref t2, .int 0, .int 0]))] s.heap := hP
  have hl := lv_entry ([.ref h0, .int p0]) (n := 2) (Nat.le_of_ble_eq_true rfl)
  rw [lg_entry_eq]
  generalize (lg_sl ([.ref h0, .int p0]) ++ List.replicate (2 - (lg_sl ([.ref h0, .int p0])).length) Slot.unset).toArray = ls at hl ⊢
  replace hl : lv_has ls 2 [(0, .ref h0), (1, .int p0)] := hl
  have hi_X7 : ∀ w ∈ wsX70, w ∈ wsX7_count := by decide +kernel
  have k_f20 := hts (.fieldLink RX7 20 "TongueTeller" "tongues" "LTongueTeller$Tongues;") (by decide +kernel)
  have hi_X4 : ∀ w ∈ wsX40, w ∈ wsX7_count := by decide +kernel
  have k_f99 := hts (.fieldLink RX7 99 "TongueTeller$Tongues" "size" "I") (by decide +kernel)
  have k_f30 := hts (.fieldLink RX7 30 "TongueTeller" "heldCount" "I") (by decide +kernel)
  have k_f41 := hts (.fieldLink RX7 41 "TongueTeller" "keywords" "LTongueTeller$WordList;") (by decide +kernel)
  have hi_X6 : ∀ w ∈ wsX60, w ∈ wsX7_count := by decide +kernel
  have k_f160 := hts (.fieldLink RX7 160 "TongueTeller$WordList" "size" "I") (by decide +kernel)
  have k_f49 := hts (.fieldLink RX7 49 "TongueTeller" "names" "LTongueTeller$WordList;") (by decide +kernel)
  have k_f61 := hts (.fieldLink RX7 61 "TongueTeller" "theText" "LTongueTeller$Script;") (by decide +kernel)
  have hi_X2 : ∀ w ∈ wsX20, w ∈ wsX7_count := by decide +kernel
  have k_f247 := hts (.fieldLink RX7 247 "TongueTeller$Script" "words" "I") (by decide +kernel)
  have k_f177 := hts (.fieldLink RX7 177 "TongueTeller$Script" "size" "I") (by decide +kernel)
  have k_f13 := hts (.fieldLink RX7 13 "TongueTeller" "tapeSize" "I") (by decide +kernel)
  refine lv_iload_n hx hb dX7_count_0 rfl (lv_at hl 1 rfl) ?_
  rcases pk_ix p0 (n := 7) (by decide) with hsw | hsw | ⟨jsw, hjsw, hsw⟩
  · refine lv_tableOut (tgt := 94) hx hb dX7_count_1 (Or.inl (Int32.lt_iff_toInt_lt.mp hsw)) (by decide) ?_
    refine lv_iconst (v := (-1)) hx hb dX7_count_94 (by decide) ?_
    exact W.iret (v := (-1)) hx hb hr (fun t ht hW => ⟨(-1), rfl, Or.inr ⟨rfl, fun h => absurd hsw (Int32.not_lt.mpr h.1)⟩, ht⟩) (fun _ h => absurd h List.not_mem_nil) dX7_count_95
  · refine lv_tableOut (tgt := 94) hx hb dX7_count_1 (Or.inr (by have h9 := Int32.le_iff_toInt_le.mp hsw; rw [nI_toInt (by decide)] at h9; omega)) (by decide) ?_
    refine lv_iconst (v := (-1)) hx hb dX7_count_94 (by decide) ?_
    exact W.iret (v := (-1)) hx hb hr (fun t ht hW => ⟨(-1), rfl, Or.inr ⟨rfl, fun h => absurd h.2 (Int32.not_lt.mpr hsw)⟩, ht⟩) (fun _ h => absurd h List.not_mem_nil) dX7_count_95
  · match jsw, hjsw, hsw with
    | 0, _, hsw =>
      refine lv_topi (fun xj exj => ?_)
      rw [hsw] at exj
      subst exj
      refine lv_tableIn (off := 43) (tgt := 44) hx hb dX7_count_1 (by decide) (by decide) (by decide) (by decide) ?_
      refine lv_aload_n hx hb dX7_count_44 rfl (lv_at hl 0 rfl) ?_
      refine va_get (D := (dC, dI)) (ci := 7) (v := .ref a2) (C := RX7) (T := TX7) (N := 18) hx hb hts hi_X7 hown hK hP 0 rfl rfl 2 (by decide) k_f20 (fun _ h9 => h9) rfl dX7_count_45 ?_
      refine va_get (D := (dC, dI)) (ci := 4) (v := .int 0) (C := RX4) (T := TX4) (N := 2) hx hb hts hi_X4 hown hK hP 1 rfl rfl 1 (by decide) k_f99 (fun _ h9 => h9) rfl dX7_count_48 ?_
      exact W.iret (v := 0) hx hb hr (fun t ht hW => ⟨0, rfl, Or.inl ⟨rfl, by rw [hsw]; decide, by rw [hsw]; decide⟩, ht⟩) (fun _ h => absurd h List.not_mem_nil) dX7_count_51
    | 1, _, hsw =>
      refine lv_topi (fun xj exj => ?_)
      rw [hsw] at exj
      subst exj
      refine lv_tableIn (off := 51) (tgt := 52) hx hb dX7_count_1 (by decide) (by decide) (by decide) (by decide) ?_
      refine lv_aload_n hx hb dX7_count_52 rfl (lv_at hl 0 rfl) ?_
      refine va_get (D := (dC, dI)) (ci := 7) (v := .int 0) (C := RX7) (T := TX7) (N := 18) hx hb hts hi_X7 hown hK hP 0 rfl rfl 4 (by decide) k_f30 (fun _ h9 => h9) rfl dX7_count_53 ?_
      exact W.iret (v := 0) hx hb hr (fun t ht hW => ⟨0, rfl, Or.inl ⟨rfl, by rw [hsw]; decide, by rw [hsw]; decide⟩, ht⟩) (fun _ h => absurd h List.not_mem_nil) dX7_count_56
    | 2, _, hsw =>
      refine lv_topi (fun xj exj => ?_)
      rw [hsw] at exj
      subst exj
      refine lv_tableIn (off := 56) (tgt := 57) hx hb dX7_count_1 (by decide) (by decide) (by decide) (by decide) ?_
      refine lv_aload_n hx hb dX7_count_57 rfl (lv_at hl 0 rfl) ?_
      refine va_get (D := (dC, dI)) (ci := 7) (v := .ref a6) (C := RX7) (T := TX7) (N := 18) hx hb hts hi_X7 hown hK hP 0 rfl rfl 6 (by decide) k_f41 (fun _ h9 => h9) rfl dX7_count_58 ?_
      refine va_get (D := (dC, dI)) (ci := 6) (v := .int 0) (C := RX6) (T := TX6) (N := 3) hx hb hts hi_X6 hown hK hP 2 rfl rfl 2 (by decide) k_f160 (fun _ h9 => h9) rfl dX7_count_61 ?_
      exact W.iret (v := 0) hx hb hr (fun t ht hW => ⟨0, rfl, Or.inl ⟨rfl, by rw [hsw]; decide, by rw [hsw]; decide⟩, ht⟩) (fun _ h => absurd h List.not_mem_nil) dX7_count_64
    | 3, _, hsw =>
      refine lv_topi (fun xj exj => ?_)
      rw [hsw] at exj
      subst exj
      refine lv_tableIn (off := 64) (tgt := 65) hx hb dX7_count_1 (by decide) (by decide) (by decide) (by decide) ?_
      refine lv_aload_n hx hb dX7_count_65 rfl (lv_at hl 0 rfl) ?_
      refine va_get (D := (dC, dI)) (ci := 7) (v := .ref a8) (C := RX7) (T := TX7) (N := 18) hx hb hts hi_X7 hown hK hP 0 rfl rfl 8 (by decide) k_f49 (fun _ h9 => h9) rfl dX7_count_66 ?_
      refine va_get (D := (dC, dI)) (ci := 6) (v := .int 0) (C := RX6) (T := TX6) (N := 3) hx hb hts hi_X6 hown hK hP 3 rfl rfl 2 (by decide) k_f160 (fun _ h9 => h9) rfl dX7_count_69 ?_
      exact W.iret (v := 0) hx hb hr (fun t ht hW => ⟨0, rfl, Or.inl ⟨rfl, by rw [hsw]; decide, by rw [hsw]; decide⟩, ht⟩) (fun _ h => absurd h List.not_mem_nil) dX7_count_72
    | 4, _, hsw =>
      refine lv_topi (fun xj exj => ?_)
      rw [hsw] at exj
      subst exj
      refine lv_tableIn (off := 72) (tgt := 73) hx hb dX7_count_1 (by decide) (by decide) (by decide) (by decide) ?_
      refine lv_aload_n hx hb dX7_count_73 rfl (lv_at hl 0 rfl) ?_
      refine va_get (D := (dC, dI)) (ci := 7) (v := .ref a11) (C := RX7) (T := TX7) (N := 18) hx hb hts hi_X7 hown hK hP 0 rfl rfl 11 (by decide) k_f61 (fun _ h9 => h9) rfl dX7_count_74 ?_
      refine va_get (D := (dC, dI)) (ci := 2) (v := .int 0) (C := RX2) (T := TX2) (N := 5) hx hb hts hi_X2 hown hK hP 4 rfl rfl 4 (by decide) k_f247 (fun _ h9 => h9) rfl dX7_count_77 ?_
      exact W.iret (v := 0) hx hb hr (fun t ht hW => ⟨0, rfl, Or.inl ⟨rfl, by rw [hsw]; decide, by rw [hsw]; decide⟩, ht⟩) (fun _ h => absurd h List.not_mem_nil) dX7_count_80
    | 5, _, hsw =>
      refine lv_topi (fun xj exj => ?_)
      rw [hsw] at exj
      subst exj
      refine lv_tableIn (off := 80) (tgt := 81) hx hb dX7_count_1 (by decide) (by decide) (by decide) (by decide) ?_
      refine lv_aload_n hx hb dX7_count_81 rfl (lv_at hl 0 rfl) ?_
      refine va_get (D := (dC, dI)) (ci := 7) (v := .ref a11) (C := RX7) (T := TX7) (N := 18) hx hb hts hi_X7 hown hK hP 0 rfl rfl 11 (by decide) k_f61 (fun _ h9 => h9) rfl dX7_count_82 ?_
      refine va_get (D := (dC, dI)) (ci := 2) (v := .int 0) (C := RX2) (T := TX2) (N := 5) hx hb hts hi_X2 hown hK hP 4 rfl rfl 3 (by decide) k_f177 (fun _ h9 => h9) rfl dX7_count_85 ?_
      exact W.iret (v := 0) hx hb hr (fun t ht hW => ⟨0, rfl, Or.inl ⟨rfl, by rw [hsw]; decide, by rw [hsw]; decide⟩, ht⟩) (fun _ h => absurd h List.not_mem_nil) dX7_count_88
    | 6, _, hsw =>
      refine lv_topi (fun xj exj => ?_)
      rw [hsw] at exj
      subst exj
      refine lv_tableIn (off := 88) (tgt := 89) hx hb dX7_count_1 (by decide) (by decide) (by decide) (by decide) ?_
      refine lv_aload_n hx hb dX7_count_89 rfl (lv_at hl 0 rfl) ?_
      refine va_get (D := (dC, dI)) (ci := 7) (v := .int 0) (C := RX7) (T := TX7) (N := 18) hx hb hts hi_X7 hown hK hP 0 rfl rfl 1 (by decide) k_f13 (fun _ h9 => h9) rfl dX7_count_90 ?_
      exact W.iret (v := 0) hx hb hr (fun t ht hW => ⟨0, rfl, Or.inl ⟨rfl, by rw [hsw]; decide, by rw [hsw]; decide⟩, ht⟩) (fun _ h => absurd h List.not_mem_nil) dX7_count_93
    | k + 7, h, _ => omega

set_option maxHeartbeats 4000000 in
set_option maxRecDepth 100000 in
theorem c_X7_feed (l : Launch) (dC : Nat → ClassId) (dI : Nat → Nat → Nat) (h0 : Nat) (a0 : Nat) (a2 : Nat) (a3 : Nat) (v4 : Int32) (v5 : Int32) (a6 : Nat) (a7 : Nat) (a8 : Nat) (v9 : Int32) (v10 : Int32) (a11 : Nat) (a12 : Nat) (v13 : Int32) (a14 : Nat) (a15 : Nat) (a16 : Nat) (v17 : Int32) (kt : ClassId) (ft : Nat → Int32) (p0 : Int32) (p1 : Int32) (p2 : Int32) (p3 : Int32) (p4 : Int32) (sz : Nat) : Met l yX7_feed wsX7_feed ({ frames := 2, cells := 0, slots := 0, locals := 42 }) (va_Pc [.ref h0, .int p0, .int p1, .int p2, .int p3, .int p4] (fun U => U.heap.size = sz ∧ va_P (dC, dI) vwCl [(h0, .inr (7, [.ref a0, .int 0, .ref a2, .ref a3, .int v4, .int v5, .ref a6, .ref a7, .ref a8, .int v9, .int v10, .ref a11, .ref a12, .int v13, .ref a14, .ref a15, .ref a16, .int v17])), (a0, .inl (kt, 600, .inl ft))] U.heap ∧ va_K (dC, dI) vwCl [(kt, .byte)] U ∧ va_D (fun _ => True) [(h0, .inr (7, [.ref a0, .int 0, .ref a2, .ref a3, .int v4, .int v5, .ref a6, .ref a7, .ref a8, .int v9, .int v10, .ref a11, .ref a12, .int v13, .ref a14, .ref a15, .ref a16, .int v17])), (a0, .inl (kt, 600, .inl ft))])) (va_Qi (fun (r : Int32) (u : Nat → Int32) => match u with | fo => r = 20) (fun (u : Nat → Int32) (t : State) => match u with | fo => va_P (dC, dI) vwCl [(h0, .inr (7, [.ref a0, .int (nI (0 + 1 + 1 + 1 + 1 + 1 + 1 + 1 + 1 + 1 + 1 + 1 + 1 + 1 + 1 + 1 + 1 + 1 + 1 + 1 + 1)), .ref a2, .ref a3, .int v4, .int v5, .ref a6, .ref a7, .ref a8, .int v9, .int v10, .ref a11, .ref a12, .int v13, .ref a14, .ref a15, .ref a16, .int v17])), (a0, .inl (kt, 600, .inl fo))] t.heap ∧ va_D (va_A [(h0, .inr (7, [.ref a0, .int 0, .ref a2, .ref a3, .int v4, .int v5, .ref a6, .ref a7, .ref a8, .int v9, .int v10, .ref a11, .ref a12, .int v13, .ref a14, .ref a15, .ref a16, .int v17])), (a0, .inl (kt, 600, .inl ft))] sz) [(h0, .inr (7, [.ref a0, .int (nI (0 + 1 + 1 + 1 + 1 + 1 + 1 + 1 + 1 + 1 + 1 + 1 + 1 + 1 + 1 + 1 + 1 + 1 + 1 + 1 + 1)), .ref a2, .ref a3, .int v4, .int v5, .ref a6, .ref a7, .ref a8, .int v9, .int v10, .ref a11, .ref a12, .int v13, .ref a14, .ref a15, .ref a16, .int v17])), (a0, .inl (kt, 600, .inl fo))]) (va_A [(h0, .inr (7, [.ref a0, .int 0, .ref a2, .ref a3, .int v4, .int v5, .ref a6, .ref a7, .ref a8, .int v9, .int v10, .ref a11, .ref a12, .int v13, .ref a14, .ref a15, .ref a16, .int v17])), (a0, .inl (kt, 600, .inl ft))] sz)) 0 0 (va_A [(h0, .inr (7, [.ref a0, .int 0, .ref a2, .ref a3, .int v4, .int v5, .ref a6, .ref a7, .ref a8, .int v9, .int v10, .ref a11, .ref a12, .int v13, .ref a14, .ref a15, .ref a16, .int v17])), (a0, .inl (kt, 600, .inl ft))] sz) := by
  refine Met.ofW (cc := cX7_feed) (maxL := 6) (ret := (some .int)) (by decide) rfl ?_
  intro p e s m args below meth c s₁ B hml hv
  obtain ⟨rfl, hsz, hP, hK, hD0⟩ := hv
  have hx := B.exec
  have hb := B.bytes
  have hr := B.returns
  have hts := atoms_spec (ws := wsX7_feed) B.pre
  have hown : s.vm.findClass RX7 = some m.cls := findClass_of_methodNamed B.named
  have hlocks := B.notSynchronized
  subst hsz
  have hD := hD0.self (sz := s.heap.size)
  generalize hAe : va_A [(h0, .inr (7, [.ref a0, .int 0, .ref a2, .ref a3, .int v4, .int v5, .ref a6, .ref a7, .ref a8, .int v9, .int v10, .ref a11, .ref a12, .int v13, .ref a14, .ref a15, .ref a16, .int v17])), (a0, .inl (kt, 600, .inl ft))] s.heap.size = A at hD ⊢
  have hA : ∀ q : Nat, s.heap.size ≤ q → A q := fun q h => by rw [← hAe]; exact Or.inr h
  have hS : va_S A s.heap s.heap [] := va_S.rf
  replace hP : va_P (dC, dI) vwCl [(h0, .inr (7, [.ref a0, .int 0, .ref a2, .ref a3, .int v4, .int v5, .ref a6, .ref a7, .ref a8, .int v9, .int v10, .ref a11, .ref a12, .int v13, .ref a14, .ref a15, .ref a16, .int v17])), (a0, .inl (kt, 600, .inl ft))] s.heap := hP
  have hl := lv_entry ([.ref h0, .int p0, .int p1, .int p2, .int p3, .int p4]) (n := 6) (Nat.le_of_ble_eq_true rfl)
  rw [lg_entry_eq]
  generalize (lg_sl ([.ref h0, .int p0, .int p1, .int p2, .int p3, .int p4]) ++ List.replicate (6 - (lg_sl ([.ref h0, .int p0, .int p1, .int p2, .int p3, .int p4])).length) Slot.unset).toArray = ls at hl ⊢
  replace hl : lv_has ls 6 [(0, .ref h0), (1, .int p0), (2, .int p1), (3, .int p2), (4, .int p3), (5, .int p4)] := hl
  have hi_X7 : ∀ w ∈ wsX70, w ∈ wsX7_feed := by decide +kernel
  have k_f13 := hts (.fieldLink RX7 13 "TongueTeller" "tapeSize" "I") (by decide +kernel)
  refine lv_aload_n hx hb dX7_feed_0 rfl (lv_at hl 0 rfl) ?_
  refine va_get (D := (dC, dI)) (ci := 7) (v := .int 0) (C := RX7) (T := TX7) (N := 18) hx hb hts hi_X7 hown hK hP 0 rfl rfl 1 (by decide) k_f13 (fun _ h9 => h9) rfl dX7_feed_1 ?_
  refine lv_sipush (v := 580) hx hb dX7_feed_4 (by decide) ?_
  refine lv_icmp_le (tgt := 12) hx hb dX7_feed_7 (by decide) (fun c_7 => ?_) (fun c_7 => ?_)
  rotate_left
  · exact absurd (by decide) c_7
  refine lv_aload_n hx hb dX7_feed_12 rfl (lv_at hl 0 rfl) ?_
  refine lv_iload_n hx hb dX7_feed_13 rfl (lv_at hl 1 rfl) ?_
  have hPc := hP.sub (ws' := [(h0, .inr (7, [.ref a0, .int 0, .ref a2, .ref a3, .int v4, .int v5, .ref a6, .ref a7, .ref a8, .int v9, .int v10, .ref a11, .ref a12, .int v13, .ref a14, .ref a15, .ref a16, .int v17])), (a0, .inl (kt, 600, .inl ft))]) [0, 1] rfl
  have hDc := hD.sub (ws' := [(h0, .inr (7, [.ref a0, .int 0, .ref a2, .ref a3, .int v4, .int v5, .ref a6, .ref a7, .ref a8, .int v9, .int v10, .ref a11, .ref a12, .int v13, .ref a14, .ref a15, .ref a16, .int v17])), (a0, .inl (kt, 600, .inl ft))]) [0, 1] (by decide) rfl
  have hKc := hK.sub (tys' := [(kt, .byte)]) [0] rfl
  have hFc := va_free (wc := [(h0, .inr (7, [.ref a0, .int 0, .ref a2, .ref a3, .int v4, .int v5, .ref a6, .ref a7, .ref a8, .int v9, .int v10, .ref a11, .ref a12, .int v13, .ref a14, .ref a15, .ref a16, .int v17])), (a0, .inl (kt, 600, .inl ft))]) hD hS hA [0, 1] rfl
  refine va_callv (va_runV (As := [.int p0]) (rest := []) ⟨hx, hb, hml, hown, hts⟩ (c_X7_putBytes l dC dI h0 a0 a2 a3 v4 v5 a6 a7 a8 v9 v10 a11 a12 v13 a14 a15 a16 v17 kt ft 0 p0 0 s.heap.size (by omega) (nI_0.symm)) (cwV 1 hts gX7_feed_X7_putBytes rfl rfl rfl (by decide +kernel) ⟨Nat.le_of_ble_eq_true rfl, Nat.le_of_ble_eq_true rfl⟩) ⟨fun a U g mk q => by obtain ⟨q0, q1, qP, qK, qD⟩ := q; exact ⟨q0, q1, qP, va_K.moved (u := U) (U := U.calling g mk a) (Vm.Alike.refl U.vm) qK, qD⟩, va_recv hK hP (ci := 7) (q0 := 0) rfl rfl, fun U hU hW => ⟨rfl, by rw [hU], by rw [hU]; exact hPc, va_K.moved hW.alike hKc, hDc.weaken (fun _ _ _ _ => trivial)⟩⟩ rfl rfl hl.1 rfl (lv_room (Nat.le_of_ble_eq_true rfl)) dX7_feed_14 ⟨Nat.le_of_ble_eq_true rfl, Nat.le_of_ble_eq_true rfl⟩) hS (fun q _ h => hFc q h) hFc (fun u t H1 locs ht hvm hw_14 hB hz1 hk1 hS => ?_)
  obtain ⟨fo_14, rfl⟩ : ∃ z, z = u := ⟨_, rfl⟩
  try dsimp only at hw_14 hB
  obtain ⟨hP1, hD1⟩ := hB
  rw [ht] at hP1
  obtain ⟨hP, hD⟩ := va_join (wr := []) (w1 := [(h0, .inr (7, [.ref a0, .int (nI (0 + 1 + 1 + 1 + 1)), .ref a2, .ref a3, .int v4, .int v5, .ref a6, .ref a7, .ref a8, .int v9, .int v10, .ref a11, .ref a12, .int v13, .ref a14, .ref a15, .ref a16, .int v17])), (a0, .inl (kt, 600, .inl fo_14))]) hP hD [0, 1] [] rfl rfl (by decide) (by decide) hk1 hFc hP1 hD1
  generalize H1 = H at hP hS ⊢
  replace hP : va_P (dC, dI) vwCl [(h0, .inr (7, [.ref a0, .int (nI (0 + 1 + 1 + 1 + 1)), .ref a2, .ref a3, .int v4, .int v5, .ref a6, .ref a7, .ref a8, .int v9, .int v10, .ref a11, .ref a12, .int v13, .ref a14, .ref a15, .ref a16, .int v17])), (a0, .inl (kt, 600, .inl fo_14))] H := hP
  replace hD : va_D A [(h0, .inr (7, [.ref a0, .int (nI (0 + 1 + 1 + 1 + 1)), .ref a2, .ref a3, .int v4, .int v5, .ref a6, .ref a7, .ref a8, .int v9, .int v10, .ref a11, .ref a12, .int v13, .ref a14, .ref a15, .ref a16, .int v17])), (a0, .inl (kt, 600, .inl fo_14))] := hD
  refine lv_aload_n hx hb dX7_feed_17 rfl (lv_at hl 0 rfl) ?_
  refine lv_iload_n hx hb dX7_feed_18 rfl (lv_at hl 2 rfl) ?_
  have hPc := hP.sub (ws' := [(h0, .inr (7, [.ref a0, .int (nI (0 + 1 + 1 + 1 + 1)), .ref a2, .ref a3, .int v4, .int v5, .ref a6, .ref a7, .ref a8, .int v9, .int v10, .ref a11, .ref a12, .int v13, .ref a14, .ref a15, .ref a16, .int v17])), (a0, .inl (kt, 600, .inl fo_14))]) [0, 1] rfl
  have hDc := hD.sub (ws' := [(h0, .inr (7, [.ref a0, .int (nI (0 + 1 + 1 + 1 + 1)), .ref a2, .ref a3, .int v4, .int v5, .ref a6, .ref a7, .ref a8, .int v9, .int v10, .ref a11, .ref a12, .int v13, .ref a14, .ref a15, .ref a16, .int v17])), (a0, .inl (kt, 600, .inl fo_14))]) [0, 1] (by decide) rfl
  have hKc := hK.sub (tys' := [(kt, .byte)]) [0] rfl
  have hFc := va_free (wc := [(h0, .inr (7, [.ref a0, .int (nI (0 + 1 + 1 + 1 + 1)), .ref a2, .ref a3, .int v4, .int v5, .ref a6, .ref a7, .ref a8, .int v9, .int v10, .ref a11, .ref a12, .int v13, .ref a14, .ref a15, .ref a16, .int v17])), (a0, .inl (kt, 600, .inl fo_14))]) hD hS hA [0, 1] rfl
  refine va_callv (va_runV (As := [.int p1]) (rest := []) ⟨hx, hb, hml, hown, hts⟩ (c_X7_putBytes l dC dI h0 a0 a2 a3 v4 v5 a6 a7 a8 v9 v10 a11 a12 v13 a14 a15 a16 v17 kt fo_14 (0 + 1 + 1 + 1 + 1) p1 (nI (0 + 1 + 1 + 1 + 1)) H.size (by omega) (rfl)) (cwV 1 hts gX7_feed_X7_putBytes rfl rfl rfl (by decide +kernel) ⟨Nat.le_of_ble_eq_true rfl, Nat.le_of_ble_eq_true rfl⟩) ⟨fun a U g mk q => by obtain ⟨q0, q1, qP, qK, qD⟩ := q; exact ⟨q0, q1, qP, va_K.moved (u := U) (U := U.calling g mk a) (Vm.Alike.refl U.vm) qK, qD⟩, va_recv hK hP (ci := 7) (q0 := 0) rfl rfl, fun U hU hW => ⟨rfl, by rw [hU], by rw [hU]; exact hPc, va_K.moved hW.alike hKc, hDc.weaken (fun _ _ _ _ => trivial)⟩⟩ rfl rfl hl.1 rfl (lv_room (Nat.le_of_ble_eq_true rfl)) dX7_feed_19 ⟨Nat.le_of_ble_eq_true rfl, Nat.le_of_ble_eq_true rfl⟩) hS (fun q _ h => hFc q h) hFc (fun u t H1 locs ht hvm hw_19 hB hz1 hk1 hS => ?_)
  obtain ⟨fo_19, rfl⟩ : ∃ z, z = u := ⟨_, rfl⟩
  try dsimp only at hw_19 hB
  obtain ⟨hP1, hD1⟩ := hB
  rw [ht] at hP1
  obtain ⟨hP, hD⟩ := va_join (wr := []) (w1 := [(h0, .inr (7, [.ref a0, .int (nI ((0 + 1 + 1 + 1 + 1) + 1 + 1 + 1 + 1)), .ref a2, .ref a3, .int v4, .int v5, .ref a6, .ref a7, .ref a8, .int v9, .int v10, .ref a11, .ref a12, .int v13, .ref a14, .ref a15, .ref a16, .int v17])), (a0, .inl (kt, 600, .inl fo_19))]) hP hD [0, 1] [] rfl rfl (by decide) (by decide) hk1 hFc hP1 hD1
  generalize H1 = H at hP hS ⊢
  replace hP : va_P (dC, dI) vwCl [(h0, .inr (7, [.ref a0, .int (nI ((0 + 1 + 1 + 1 + 1) + 1 + 1 + 1 + 1)), .ref a2, .ref a3, .int v4, .int v5, .ref a6, .ref a7, .ref a8, .int v9, .int v10, .ref a11, .ref a12, .int v13, .ref a14, .ref a15, .ref a16, .int v17])), (a0, .inl (kt, 600, .inl fo_19))] H := hP
  replace hD : va_D A [(h0, .inr (7, [.ref a0, .int (nI ((0 + 1 + 1 + 1 + 1) + 1 + 1 + 1 + 1)), .ref a2, .ref a3, .int v4, .int v5, .ref a6, .ref a7, .ref a8, .int v9, .int v10, .ref a11, .ref a12, .int v13, .ref a14, .ref a15, .ref a16, .int v17])), (a0, .inl (kt, 600, .inl fo_19))] := hD
  refine lv_aload_n hx hb dX7_feed_22 rfl (lv_at hl 0 rfl) ?_
  refine lv_iload_n hx hb dX7_feed_23 rfl (lv_at hl 3 rfl) ?_
  have hPc := hP.sub (ws' := [(h0, .inr (7, [.ref a0, .int (nI ((0 + 1 + 1 + 1 + 1) + 1 + 1 + 1 + 1)), .ref a2, .ref a3, .int v4, .int v5, .ref a6, .ref a7, .ref a8, .int v9, .int v10, .ref a11, .ref a12, .int v13, .ref a14, .ref a15, .ref a16, .int v17])), (a0, .inl (kt, 600, .inl fo_19))]) [0, 1] rfl
  have hDc := hD.sub (ws' := [(h0, .inr (7, [.ref a0, .int (nI ((0 + 1 + 1 + 1 + 1) + 1 + 1 + 1 + 1)), .ref a2, .ref a3, .int v4, .int v5, .ref a6, .ref a7, .ref a8, .int v9, .int v10, .ref a11, .ref a12, .int v13, .ref a14, .ref a15, .ref a16, .int v17])), (a0, .inl (kt, 600, .inl fo_19))]) [0, 1] (by decide) rfl
  have hKc := hK.sub (tys' := [(kt, .byte)]) [0] rfl
  have hFc := va_free (wc := [(h0, .inr (7, [.ref a0, .int (nI ((0 + 1 + 1 + 1 + 1) + 1 + 1 + 1 + 1)), .ref a2, .ref a3, .int v4, .int v5, .ref a6, .ref a7, .ref a8, .int v9, .int v10, .ref a11, .ref a12, .int v13, .ref a14, .ref a15, .ref a16, .int v17])), (a0, .inl (kt, 600, .inl fo_19))]) hD hS hA [0, 1] rfl
  refine va_callv (va_runV (As := [.int p2]) (rest := []) ⟨hx, hb, hml, hown, hts⟩ (c_X7_putBytes l dC dI h0 a0 a2 a3 v4 v5 a6 a7 a8 v9 v10 a11 a12 v13 a14 a15 a16 v17 kt fo_19 (0 + 1 + 1 + 1 + 1 + 1 + 1 + 1 + 1) p2 (nI ((0 + 1 + 1 + 1 + 1) + 1 + 1 + 1 + 1)) H.size (by omega) (rfl)) (cwV 1 hts gX7_feed_X7_putBytes rfl rfl rfl (by decide +kernel) ⟨Nat.le_of_ble_eq_true rfl, Nat.le_of_ble_eq_true rfl⟩) ⟨fun a U g mk q => by obtain ⟨q0, q1, qP, qK, qD⟩ := q; exact ⟨q0, q1, qP, va_K.moved (u := U) (U := U.calling g mk a) (Vm.Alike.refl U.vm) qK, qD⟩, va_recv hK hP (ci := 7) (q0 := 0) rfl rfl, fun U hU hW => ⟨rfl, by rw [hU], by rw [hU]; exact hPc, va_K.moved hW.alike hKc, hDc.weaken (fun _ _ _ _ => trivial)⟩⟩ rfl rfl hl.1 rfl (lv_room (Nat.le_of_ble_eq_true rfl)) dX7_feed_24 ⟨Nat.le_of_ble_eq_true rfl, Nat.le_of_ble_eq_true rfl⟩) hS (fun q _ h => hFc q h) hFc (fun u t H1 locs ht hvm hw_24 hB hz1 hk1 hS => ?_)
  obtain ⟨fo_24, rfl⟩ : ∃ z, z = u := ⟨_, rfl⟩
  try dsimp only at hw_24 hB
  obtain ⟨hP1, hD1⟩ := hB
  rw [ht] at hP1
  obtain ⟨hP, hD⟩ := va_join (wr := []) (w1 := [(h0, .inr (7, [.ref a0, .int (nI ((0 + 1 + 1 + 1 + 1 + 1 + 1 + 1 + 1) + 1 + 1 + 1 + 1)), .ref a2, .ref a3, .int v4, .int v5, .ref a6, .ref a7, .ref a8, .int v9, .int v10, .ref a11, .ref a12, .int v13, .ref a14, .ref a15, .ref a16, .int v17])), (a0, .inl (kt, 600, .inl fo_24))]) hP hD [0, 1] [] rfl rfl (by decide) (by decide) hk1 hFc hP1 hD1
  generalize H1 = H at hP hS ⊢
  replace hP : va_P (dC, dI) vwCl [(h0, .inr (7, [.ref a0, .int (nI ((0 + 1 + 1 + 1 + 1 + 1 + 1 + 1 + 1) + 1 + 1 + 1 + 1)), .ref a2, .ref a3, .int v4, .int v5, .ref a6, .ref a7, .ref a8, .int v9, .int v10, .ref a11, .ref a12, .int v13, .ref a14, .ref a15, .ref a16, .int v17])), (a0, .inl (kt, 600, .inl fo_24))] H := hP
  replace hD : va_D A [(h0, .inr (7, [.ref a0, .int (nI ((0 + 1 + 1 + 1 + 1 + 1 + 1 + 1 + 1) + 1 + 1 + 1 + 1)), .ref a2, .ref a3, .int v4, .int v5, .ref a6, .ref a7, .ref a8, .int v9, .int v10, .ref a11, .ref a12, .int v13, .ref a14, .ref a15, .ref a16, .int v17])), (a0, .inl (kt, 600, .inl fo_24))] := hD
  refine lv_aload_n hx hb dX7_feed_27 rfl (lv_at hl 0 rfl) ?_
  refine lv_iload hx hb dX7_feed_28 (lv_at hl 4 rfl) ?_
  have hPc := hP.sub (ws' := [(h0, .inr (7, [.ref a0, .int (nI ((0 + 1 + 1 + 1 + 1 + 1 + 1 + 1 + 1) + 1 + 1 + 1 + 1)), .ref a2, .ref a3, .int v4, .int v5, .ref a6, .ref a7, .ref a8, .int v9, .int v10, .ref a11, .ref a12, .int v13, .ref a14, .ref a15, .ref a16, .int v17])), (a0, .inl (kt, 600, .inl fo_24))]) [0, 1] rfl
  have hDc := hD.sub (ws' := [(h0, .inr (7, [.ref a0, .int (nI ((0 + 1 + 1 + 1 + 1 + 1 + 1 + 1 + 1) + 1 + 1 + 1 + 1)), .ref a2, .ref a3, .int v4, .int v5, .ref a6, .ref a7, .ref a8, .int v9, .int v10, .ref a11, .ref a12, .int v13, .ref a14, .ref a15, .ref a16, .int v17])), (a0, .inl (kt, 600, .inl fo_24))]) [0, 1] (by decide) rfl
  have hKc := hK.sub (tys' := [(kt, .byte)]) [0] rfl
  have hFc := va_free (wc := [(h0, .inr (7, [.ref a0, .int (nI ((0 + 1 + 1 + 1 + 1 + 1 + 1 + 1 + 1) + 1 + 1 + 1 + 1)), .ref a2, .ref a3, .int v4, .int v5, .ref a6, .ref a7, .ref a8, .int v9, .int v10, .ref a11, .ref a12, .int v13, .ref a14, .ref a15, .ref a16, .int v17])), (a0, .inl (kt, 600, .inl fo_24))]) hD hS hA [0, 1] rfl
  refine va_callv (va_runV (As := [.int p3]) (rest := []) ⟨hx, hb, hml, hown, hts⟩ (c_X7_putBytes l dC dI h0 a0 a2 a3 v4 v5 a6 a7 a8 v9 v10 a11 a12 v13 a14 a15 a16 v17 kt fo_24 (0 + 1 + 1 + 1 + 1 + 1 + 1 + 1 + 1 + 1 + 1 + 1 + 1) p3 (nI ((0 + 1 + 1 + 1 + 1 + 1 + 1 + 1 + 1) + 1 + 1 + 1 + 1)) H.size (by omega) (rfl)) (cwV 1 hts gX7_feed_X7_putBytes rfl rfl rfl (by decide +kernel) ⟨Nat.le_of_ble_eq_true rfl, Nat.le_of_ble_eq_true rfl⟩) ⟨fun a U g mk q => by obtain ⟨q0, q1, qP, qK, qD⟩ := q; exact ⟨q0, q1, qP, va_K.moved (u := U) (U := U.calling g mk a) (Vm.Alike.refl U.vm) qK, qD⟩, va_recv hK hP (ci := 7) (q0 := 0) rfl rfl, fun U hU hW => ⟨rfl, by rw [hU], by rw [hU]; exact hPc, va_K.moved hW.alike hKc, hDc.weaken (fun _ _ _ _ => trivial)⟩⟩ rfl rfl hl.1 rfl (lv_room (Nat.le_of_ble_eq_true rfl)) dX7_feed_30 ⟨Nat.le_of_ble_eq_true rfl, Nat.le_of_ble_eq_true rfl⟩) hS (fun q _ h => hFc q h) hFc (fun u t H1 locs ht hvm hw_30 hB hz1 hk1 hS => ?_)
  obtain ⟨fo_30, rfl⟩ : ∃ z, z = u := ⟨_, rfl⟩
  try dsimp only at hw_30 hB
  obtain ⟨hP1, hD1⟩ := hB
  rw [ht] at hP1
  obtain ⟨hP, hD⟩ := va_join (wr := []) (w1 := [(h0, .inr (7, [.ref a0, .int (nI ((0 + 1 + 1 + 1 + 1 + 1 + 1 + 1 + 1 + 1 + 1 + 1 + 1) + 1 + 1 + 1 + 1)), .ref a2, .ref a3, .int v4, .int v5, .ref a6, .ref a7, .ref a8, .int v9, .int v10, .ref a11, .ref a12, .int v13, .ref a14, .ref a15, .ref a16, .int v17])), (a0, .inl (kt, 600, .inl fo_30))]) hP hD [0, 1] [] rfl rfl (by decide) (by decide) hk1 hFc hP1 hD1
  generalize H1 = H at hP hS ⊢
  replace hP : va_P (dC, dI) vwCl [(h0, .inr (7, [.ref a0, .int (nI ((0 + 1 + 1 + 1 + 1 + 1 + 1 + 1 + 1 + 1 + 1 + 1 + 1) + 1 + 1 + 1 + 1)), .ref a2, .ref a3, .int v4, .int v5, .ref a6, .ref a7, .ref a8, .int v9, .int v10, .ref a11, .ref a12, .int v13, .ref a14, .ref a15, .ref a16, .int v17])), (a0, .inl (kt, 600, .inl fo_30))] H := hP
  replace hD : va_D A [(h0, .inr (7, [.ref a0, .int (nI ((0 + 1 + 1 + 1 + 1 + 1 + 1 + 1 + 1 + 1 + 1 + 1 + 1) + 1 + 1 + 1 + 1)), .ref a2, .ref a3, .int v4, .int v5, .ref a6, .ref a7, .ref a8, .int v9, .int v10, .ref a11, .ref a12, .int v13, .ref a14, .ref a15, .ref a16, .int v17])), (a0, .inl (kt, 600, .inl fo_30))] := hD
  refine lv_aload_n hx hb dX7_feed_33 rfl (lv_at hl 0 rfl) ?_
  refine lv_iload hx hb dX7_feed_34 (lv_at hl 5 rfl) ?_
  have hPc := hP.sub (ws' := [(h0, .inr (7, [.ref a0, .int (nI ((0 + 1 + 1 + 1 + 1 + 1 + 1 + 1 + 1 + 1 + 1 + 1 + 1) + 1 + 1 + 1 + 1)), .ref a2, .ref a3, .int v4, .int v5, .ref a6, .ref a7, .ref a8, .int v9, .int v10, .ref a11, .ref a12, .int v13, .ref a14, .ref a15, .ref a16, .int v17])), (a0, .inl (kt, 600, .inl fo_30))]) [0, 1] rfl
  have hDc := hD.sub (ws' := [(h0, .inr (7, [.ref a0, .int (nI ((0 + 1 + 1 + 1 + 1 + 1 + 1 + 1 + 1 + 1 + 1 + 1 + 1) + 1 + 1 + 1 + 1)), .ref a2, .ref a3, .int v4, .int v5, .ref a6, .ref a7, .ref a8, .int v9, .int v10, .ref a11, .ref a12, .int v13, .ref a14, .ref a15, .ref a16, .int v17])), (a0, .inl (kt, 600, .inl fo_30))]) [0, 1] (by decide) rfl
  have hKc := hK.sub (tys' := [(kt, .byte)]) [0] rfl
  have hFc := va_free (wc := [(h0, .inr (7, [.ref a0, .int (nI ((0 + 1 + 1 + 1 + 1 + 1 + 1 + 1 + 1 + 1 + 1 + 1 + 1) + 1 + 1 + 1 + 1)), .ref a2, .ref a3, .int v4, .int v5, .ref a6, .ref a7, .ref a8, .int v9, .int v10, .ref a11, .ref a12, .int v13, .ref a14, .ref a15, .ref a16, .int v17])), (a0, .inl (kt, 600, .inl fo_30))]) hD hS hA [0, 1] rfl
  refine va_callv (va_runV (As := [.int p4]) (rest := []) ⟨hx, hb, hml, hown, hts⟩ (c_X7_putBytes l dC dI h0 a0 a2 a3 v4 v5 a6 a7 a8 v9 v10 a11 a12 v13 a14 a15 a16 v17 kt fo_30 (0 + 1 + 1 + 1 + 1 + 1 + 1 + 1 + 1 + 1 + 1 + 1 + 1 + 1 + 1 + 1 + 1) p4 (nI ((0 + 1 + 1 + 1 + 1 + 1 + 1 + 1 + 1 + 1 + 1 + 1 + 1) + 1 + 1 + 1 + 1)) H.size (by omega) (rfl)) (cwV 1 hts gX7_feed_X7_putBytes rfl rfl rfl (by decide +kernel) ⟨Nat.le_of_ble_eq_true rfl, Nat.le_of_ble_eq_true rfl⟩) ⟨fun a U g mk q => by obtain ⟨q0, q1, qP, qK, qD⟩ := q; exact ⟨q0, q1, qP, va_K.moved (u := U) (U := U.calling g mk a) (Vm.Alike.refl U.vm) qK, qD⟩, va_recv hK hP (ci := 7) (q0 := 0) rfl rfl, fun U hU hW => ⟨rfl, by rw [hU], by rw [hU]; exact hPc, va_K.moved hW.alike hKc, hDc.weaken (fun _ _ _ _ => trivial)⟩⟩ rfl rfl hl.1 rfl (lv_room (Nat.le_of_ble_eq_true rfl)) dX7_feed_36 ⟨Nat.le_of_ble_eq_true rfl, Nat.le_of_ble_eq_true rfl⟩) hS (fun q _ h => hFc q h) hFc (fun u t H1 locs ht hvm hw_36 hB hz1 hk1 hS => ?_)
  obtain ⟨fo_36, rfl⟩ : ∃ z, z = u := ⟨_, rfl⟩
  try dsimp only at hw_36 hB
  obtain ⟨hP1, hD1⟩ := hB
  rw [ht] at hP1
  obtain ⟨hP, hD⟩ := va_join (wr := []) (w1 := [(h0, .inr (7, [.ref a0, .int (nI ((0 + 1 + 1 + 1 + 1 + 1 + 1 + 1 + 1 + 1 + 1 + 1 + 1 + 1 + 1 + 1 + 1) + 1 + 1 + 1 + 1)), .ref a2, .ref a3, .int v4, .int v5, .ref a6, .ref a7, .ref a8, .int v9, .int v10, .ref a11, .ref a12, .int v13, .ref a14, .ref a15, .ref a16, .int v17])), (a0, .inl (kt, 600, .inl fo_36))]) hP hD [0, 1] [] rfl rfl (by decide) (by decide) hk1 hFc hP1 hD1
  generalize H1 = H at hP hS ⊢
  replace hP : va_P (dC, dI) vwCl [(h0, .inr (7, [.ref a0, .int (nI ((0 + 1 + 1 + 1 + 1 + 1 + 1 + 1 + 1 + 1 + 1 + 1 + 1 + 1 + 1 + 1 + 1) + 1 + 1 + 1 + 1)), .ref a2, .ref a3, .int v4, .int v5, .ref a6, .ref a7, .ref a8, .int v9, .int v10, .ref a11, .ref a12, .int v13, .ref a14, .ref a15, .ref a16, .int v17])), (a0, .inl (kt, 600, .inl fo_36))] H := hP
  replace hD : va_D A [(h0, .inr (7, [.ref a0, .int (nI ((0 + 1 + 1 + 1 + 1 + 1 + 1 + 1 + 1 + 1 + 1 + 1 + 1 + 1 + 1 + 1 + 1) + 1 + 1 + 1 + 1)), .ref a2, .ref a3, .int v4, .int v5, .ref a6, .ref a7, .ref a8, .int v9, .int v10, .ref a11, .ref a12, .int v13, .ref a14, .ref a15, .ref a16, .int v17])), (a0, .inl (kt, 600, .inl fo_36))] := hD
  refine lv_aload_n hx hb dX7_feed_39 rfl (lv_at hl 0 rfl) ?_
  refine va_get (D := (dC, dI)) (ci := 7) (v := .int (nI ((0 + 1 + 1 + 1 + 1 + 1 + 1 + 1 + 1 + 1 + 1 + 1 + 1 + 1 + 1 + 1 + 1) + 1 + 1 + 1 + 1))) (C := RX7) (T := TX7) (N := 18) hx hb hts hi_X7 hown hK hP 0 rfl rfl 1 (by decide) k_f13 (fun _ h9 => h9) rfl dX7_feed_40 ?_
  have hP9 := hP.sub (ws' := [(h0, .inr (7, [.ref a0, .int (nI ((0 + 1 + 1 + 1 + 1 + 1 + 1 + 1 + 1 + 1 + 1 + 1 + 1 + 1 + 1 + 1 + 1) + 1 + 1 + 1 + 1)), .ref a2, .ref a3, .int v4, .int v5, .ref a6, .ref a7, .ref a8, .int v9, .int v10, .ref a11, .ref a12, .int v13, .ref a14, .ref a15, .ref a16, .int v17])), (a0, .inl (kt, 600, .inl fo_36))]) [0, 1] rfl
  have hD9 := hD.sub (ws' := [(h0, .inr (7, [.ref a0, .int (nI ((0 + 1 + 1 + 1 + 1 + 1 + 1 + 1 + 1 + 1 + 1 + 1 + 1 + 1 + 1 + 1 + 1) + 1 + 1 + 1 + 1)), .ref a2, .ref a3, .int v4, .int v5, .ref a6, .ref a7, .ref a8, .int v9, .int v10, .ref a11, .ref a12, .int v13, .ref a14, .ref a15, .ref a16, .int v17])), (a0, .inl (kt, 600, .inl fo_36))]) [0, 1] (by decide) rfl
  exact W.iret (v := nI ((0 + 1 + 1 + 1 + 1 + 1 + 1 + 1 + 1 + 1 + 1 + 1 + 1 + 1 + 1 + 1 + 1) + 1 + 1 + 1 + 1)) hx hb hr (fun t ht hW => ⟨⟨nI ((0 + 1 + 1 + 1 + 1 + 1 + 1 + 1 + 1 + 1 + 1 + 1 + 1 + 1 + 1 + 1 + 1) + 1 + 1 + 1 + 1), fo_36, rfl, (by decide : nI (0 + 1 + 1 + 1 + 1 + 1 + 1 + 1 + 1 + 1 + 1 + 1 + 1 + 1 + 1 + 1 + 1 + 1 + 1 + 1 + 1) = 20), by rw [ht]; exact hP9, hD9⟩, hS.F ht⟩) hS.2.2 dX7_feed_43
