set_option maxHeartbeats 4000000 in
set_option maxRecDepth 100000 in
theorem g_X8_pair (l : Launch) (dC : Nat → ClassId) (dI : Nat → Nat → Nat) (h0 : Nat) (x0 : Int32) (x1 : Int32) (m2 : Nat) (c3 : Nat) (m4 : Nat) (m5 : Nat) (m6 : Nat) (m7 : Nat) (m8 : Nat) (m9 : Nat) (m10 : Nat) (m11 : Nat) (c12 : Nat) (c13 : Nat) (c14 : Nat) (m15 : Nat) (m16 : Nat) (m17 : Nat) (m18 : Nat) (m19 : Nat) (c20 : Nat) (x21 : Int32) (c22 : Nat) (c23 : Nat) (m24 : Nat) (m25 : Nat) (c26 : Nat) (c27 : Nat) (x28 : Int32) (m29 : Nat) (m30 : Nat) (m31 : Nat) (m32 : Nat) (m33 : Nat) (m34 : Nat) (x35 : Int32) (m36 : Nat) (c37 : Nat) (kct : ClassId) (ct8 : Nat → Int32) (p0 : Int32) (p1 : Int32) (p2 : Int32) (sz : Nat) (htg : c14 ≤ 8) : Met l yX8_pair wsX8_pair ({ frames := 1, cells := 0, slots := 0, locals := 21 }) (va_Pc [.ref h0, .int p0, .int p1, .int p2] (fun U => U.heap.size = sz ∧ va_P (dC, dI) vwCl [(h0, .inr (8, [.int x0, .int x1, .ref m2, .int (nI c3), .ref m4, .ref m5, .ref m6, .ref m7, .ref m8, .ref m9, .ref m10, .ref m11, .int (nI c12), .int (nI c13), .int (nI c14), .ref m15, .ref m16, .ref m17, .ref m18, .ref m19, .int (nI c20), .int x21, .int (nI c22), .int (nI c23), .ref m24, .ref m25, .int (nI c26), .int (nI c27), .int x28, .ref m29, .ref m30, .ref m31, .ref m32, .ref m33, .ref m34, .int x35, .ref m36, .int (nI c37)])), (m15, .inl (kct, 6272, .inl ct8))] U.heap ∧ va_K (dC, dI) vwCl [(kct, .int)] U ∧ va_D (fun _ => True) [(h0, .inr (8, [.int x0, .int x1, .ref m2, .int (nI c3), .ref m4, .ref m5, .ref m6, .ref m7, .ref m8, .ref m9, .ref m10, .ref m11, .int (nI c12), .int (nI c13), .int (nI c14), .ref m15, .ref m16, .ref m17, .ref m18, .ref m19, .int (nI c20), .int x21, .int (nI c22), .int (nI c23), .ref m24, .ref m25, .int (nI c26), .int (nI c27), .int x28, .ref m29, .ref m30, .ref m31, .ref m32, .ref m33, .ref m34, .int x35, .ref m36, .int (nI c37)])), (m15, .inl (kct, 6272, .inl ct8))])) (va_Qi (fun (r : Int32) (_ : Unit) => ((r = (-1) ∧ ¬ (inT c14 p0 ∧ inT 28 p1 ∧ inT 28 p2)) ∨ (∃ a b c, a < c14 ∧ p0 = nI a ∧ b < 28 ∧ p1 = nI b ∧ c < 28 ∧ p2 = nI c ∧ r = ct8 (28 * (28 * a + b) + c)))) (fun (_ : Unit) (t : State) => va_P (dC, dI) vwCl [(h0, .inr (8, [.int 0, .int x1, .ref m2, .int (nI c3), .ref m4, .ref m5, .ref m6, .ref m7, .ref m8, .ref m9, .ref m10, .ref m11, .int (nI c12), .int (nI c13), .int (nI c14), .ref m15, .ref m16, .ref m17, .ref m18, .ref m19, .int (nI c20), .int x21, .int (nI c22), .int (nI c23), .ref m24, .ref m25, .int (nI c26), .int (nI c27), .int x28, .ref m29, .ref m30, .ref m31, .ref m32, .ref m33, .ref m34, .int x35, .ref m36, .int (nI c37)])), (m15, .inl (kct, 6272, .inl ct8))] t.heap ∧ va_D (va_A [(h0, .inr (8, [.int x0, .int x1, .ref m2, .int (nI c3), .ref m4, .ref m5, .ref m6, .ref m7, .ref m8, .ref m9, .ref m10, .ref m11, .int (nI c12), .int (nI c13), .int (nI c14), .ref m15, .ref m16, .ref m17, .ref m18, .ref m19, .int (nI c20), .int x21, .int (nI c22), .int (nI c23), .ref m24, .ref m25, .int (nI c26), .int (nI c27), .int x28, .ref m29, .ref m30, .ref m31, .ref m32, .ref m33, .ref m34, .int x35, .ref m36, .int (nI c37)])), (m15, .inl (kct, 6272, .inl ct8))] sz) [(h0, .inr (8, [.int 0, .int x1, .ref m2, .int (nI c3), .ref m4, .ref m5, .ref m6, .ref m7, .ref m8, .ref m9, .ref m10, .ref m11, .int (nI c12), .int (nI c13), .int (nI c14), .ref m15, .ref m16, .ref m17, .ref m18, .ref m19, .int (nI c20), .int x21, .int (nI c22), .int (nI c23), .ref m24, .ref m25, .int (nI c26), .int (nI c27), .int x28, .ref m29, .ref m30, .ref m31, .ref m32, .ref m33, .ref m34, .int x35, .ref m36, .int (nI c37)])), (m15, .inl (kct, 6272, .inl ct8))]) (va_A [(h0, .inr (8, [.int x0, .int x1, .ref m2, .int (nI c3), .ref m4, .ref m5, .ref m6, .ref m7, .ref m8, .ref m9, .ref m10, .ref m11, .int (nI c12), .int (nI c13), .int (nI c14), .ref m15, .ref m16, .ref m17, .ref m18, .ref m19, .int (nI c20), .int x21, .int (nI c22), .int (nI c23), .ref m24, .ref m25, .int (nI c26), .int (nI c27), .int x28, .ref m29, .ref m30, .ref m31, .ref m32, .ref m33, .ref m34, .int x35, .ref m36, .int (nI c37)])), (m15, .inl (kct, 6272, .inl ct8))] sz)) 0 0 (va_A [(h0, .inr (8, [.int x0, .int x1, .ref m2, .int (nI c3), .ref m4, .ref m5, .ref m6, .ref m7, .ref m8, .ref m9, .ref m10, .ref m11, .int (nI c12), .int (nI c13), .int (nI c14), .ref m15, .ref m16, .ref m17, .ref m18, .ref m19, .int (nI c20), .int x21, .int (nI c22), .int (nI c23), .ref m24, .ref m25, .int (nI c26), .int (nI c27), .int x28, .ref m29, .ref m30, .ref m31, .ref m32, .ref m33, .ref m34, .int x35, .ref m36, .int (nI c37)])), (m15, .inl (kct, 6272, .inl ct8))] sz) := by
  refine Met.ofW (cc := cX8_pair) (maxL := 4) (ret := (some .int)) (by decide) rfl ?_
  intro p e s m args below meth c s₁ B hml hv
  obtain ⟨rfl, hsz, hP, hK, hD0⟩ := hv
  have hx := B.exec
  have hb := B.bytes
  have hr := B.returns
  have hts := atoms_spec (ws := wsX8_pair) B.pre
  have hown : s.vm.findClass RX8 = some m.cls := findClass_of_methodNamed B.named
  have hlocks := B.notSynchronized
  subst hsz
  have hD := hD0.self (sz := s.heap.size)
  clear hD0
  generalize hAe : va_A [(h0, .inr (8, [.int x0, .int x1, .ref m2, .int (nI c3), .ref m4, .ref m5, .ref m6, .ref m7, .ref m8, .ref m9, .ref m10, .ref m11, .int (nI c12), .int (nI c13), .int (nI c14), .ref m15, .ref m16, .ref m17, .ref m18, .ref m19, .int (nI c20), .int x21, .int (nI c22), .int (nI c23), .ref m24, .ref m25, .int (nI c26), .int (nI c27), .int x28, .ref m29, .ref m30, .ref m31, .ref m32, .ref m33, .ref m34, .int x35, .ref m36, .int (nI c37)])), (m15, .inl (kct, 6272, .inl ct8))] s.heap.size = A at hD ⊢
  have hA : ∀ q : Nat, s.heap.size ≤ q → A q := fun q h => by rw [← hAe]; exact Or.inr h
  clear hAe
  have hS : va_S A s.heap s.heap [] := va_S.rf
  replace hP : va_P (dC, dI) vwCl [(h0, .inr (8, [.int x0, .int x1, .ref m2, .int (nI c3), .ref m4, .ref m5, .ref m6, .ref m7, .ref m8, .ref m9, .ref m10, .ref m11, .int (nI c12), .int (nI c13), .int (nI c14), .ref m15, .ref m16, .ref m17, .ref m18, .ref m19, .int (nI c20), .int x21, .int (nI c22), .int (nI c23), .ref m24, .ref m25, .int (nI c26), .int (nI c27), .int x28, .ref m29, .ref m30, .ref m31, .ref m32, .ref m33, .ref m34, .int x35, .ref m36, .int (nI c37)])), (m15, .inl (kct, 6272, .inl ct8))] s.heap := hP
  have hl := lv_entry ([.ref h0, .int p0, .int p1, .int p2]) (n := 4) (Nat.le_of_ble_eq_true rfl)
  rw [lg_entry_eq]
  generalize (lg_sl ([.ref h0, .int p0, .int p1, .int p2]) ++ List.replicate (4 - (lg_sl ([.ref h0, .int p0, .int p1, .int p2])).length) Slot.unset).toArray = ls at hl ⊢
  replace hl : lv_has ls 4 [(0, .ref h0), (1, .int p0), (2, .int p1), (3, .int p2)] := hl
  have hi_X8 : ∀ w ∈ wsX80, w ∈ wsX8_pair := by decide +kernel
  have k_f97 := hts (.fieldLink RX8 97 "TongueTellerModel" "thrown" "I") (by decide +kernel)
  have k_f41 := hts (.fieldLink RX8 41 "TongueTellerModel" "count" "[I") (by decide +kernel)
  refine lv_aload_n hx hb dX8_pair_0 rfl (lv_at hl 0 rfl) ?_
  refine lv_iconst (v := 0) hx hb dX8_pair_1 (by decide) ?_
  refine va_put (D := (dC, dI)) (ci := 8) (v := .int 0) (ty := .int) (C := RX8) (T := TX8) (N := 38) hx hb hts hi_X8 tyX8 tyX8_ok nmX8 hown hK hP hD hS 0 rfl rfl 0 (by decide) k_f97 (fun _ h9 => h9) rfl (by decide +kernel) rfl rfl (Nat.le_of_ble_eq_true rfl) dX8_pair_2 (fun H locs hP hD hS => ?_)
  replace hP : va_P (dC, dI) vwCl [(h0, .inr (8, [.int 0, .int x1, .ref m2, .int (nI c3), .ref m4, .ref m5, .ref m6, .ref m7, .ref m8, .ref m9, .ref m10, .ref m11, .int (nI c12), .int (nI c13), .int (nI c14), .ref m15, .ref m16, .ref m17, .ref m18, .ref m19, .int (nI c20), .int x21, .int (nI c22), .int (nI c23), .ref m24, .ref m25, .int (nI c26), .int (nI c27), .int x28, .ref m29, .ref m30, .ref m31, .ref m32, .ref m33, .ref m34, .int x35, .ref m36, .int (nI c37)])), (m15, .inl (kct, 6272, .inl ct8))] H := hP
  replace hD : va_D A [(h0, .inr (8, [.int 0, .int x1, .ref m2, .int (nI c3), .ref m4, .ref m5, .ref m6, .ref m7, .ref m8, .ref m9, .ref m10, .ref m11, .int (nI c12), .int (nI c13), .int (nI c14), .ref m15, .ref m16, .ref m17, .ref m18, .ref m19, .int (nI c20), .int x21, .int (nI c22), .int (nI c23), .ref m24, .ref m25, .int (nI c26), .int (nI c27), .int x28, .ref m29, .ref m30, .ref m31, .ref m32, .ref m33, .ref m34, .int x35, .ref m36, .int (nI c37)])), (m15, .inl (kct, 6272, .inl ct8))] := hD
  refine lv_aload_n hx hb dX8_pair_5 rfl (lv_at hl 0 rfl) ?_
  refine lv_iload_n hx hb dX8_pair_6 rfl (lv_at hl 1 rfl) ?_
  have hPc := hP.sub (ws' := [(h0, .inr (8, [.int 0, .int x1, .ref m2, .int (nI c3), .ref m4, .ref m5, .ref m6, .ref m7, .ref m8, .ref m9, .ref m10, .ref m11, .int (nI c12), .int (nI c13), .int (nI c14), .ref m15, .ref m16, .ref m17, .ref m18, .ref m19, .int (nI c20), .int x21, .int (nI c22), .int (nI c23), .ref m24, .ref m25, .int (nI c26), .int (nI c27), .int x28, .ref m29, .ref m30, .ref m31, .ref m32, .ref m33, .ref m34, .int x35, .ref m36, .int (nI c37)]))]) [0] rfl
  have hKc := hK.sub (tys' := []) [] rfl
  refine vp_callSi (W.runV (As := [.int p0]) (rest := []) ⟨hx, hb, hml, hown, hts⟩ (g_X8_isTongue l dC dI h0 0 x1 m2 c3 m4 m5 m6 m7 m8 m9 m10 m11 c12 c13 c14 m15 m16 m17 m18 m19 c20 x21 c22 c23 m24 m25 c26 c27 x28 m29 m30 m31 m32 m33 m34 x35 m36 c37 p0 (by first | assumption | omega)) (cwV 1 hts gX8_pair_X8_isTongue rfl rfl rfl (by decide +kernel) ⟨Nat.le_of_ble_eq_true rfl, Nat.le_of_ble_eq_true rfl⟩) ⟨fun a U g mk q => by obtain ⟨q0, qP, qK⟩ := q; exact ⟨q0, qP, va_K.moved (u := U) (U := U.calling g mk a) (Vm.Alike.refl U.vm) qK⟩, va_recv hK hP (ci := 8) (q0 := 0) rfl rfl, fun U hU hW => ⟨rfl, by rw [hU]; exact hPc, va_K.moved hW.alike hKc⟩⟩ rfl rfl hl.1 rfl (lv_room (Nat.le_of_ble_eq_true rfl)) dX8_pair_7 ⟨Nat.le_of_ble_eq_true rfl, Nat.le_of_ble_eq_true rfl⟩) (fun r_7 hw_7 => ?_)
  clear hPc
  rcases hw_7 with ⟨hr_7, hb_7⟩ | ⟨hr_7, hb_7⟩
  · subst hr_7
    obtain ⟨j0, hj0, ep_j0⟩ := hb_7
    subst ep_j0
    refine lv_if_eq (tgt := 33) hx hb dX8_pair_10 (by decide) (fun c_10 => ?_) (fun c_10 => ?_)
    · exact absurd c_10 (by decide)
    refine lv_iload_n hx hb dX8_pair_13 rfl (lv_at hl 2 rfl) ?_
    refine lv_if_lt (tgt := 33) hx hb dX8_pair_14 (by decide) (fun c_14 => ?_) (fun c_14 => ?_)
    · refine lv_iconst (v := (-1)) hx hb dX8_pair_33 (by decide) ?_
      have hP9 := hP.sub (ws' := [(h0, .inr (8, [.int 0, .int x1, .ref m2, .int (nI c3), .ref m4, .ref m5, .ref m6, .ref m7, .ref m8, .ref m9, .ref m10, .ref m11, .int (nI c12), .int (nI c13), .int (nI c14), .ref m15, .ref m16, .ref m17, .ref m18, .ref m19, .int (nI c20), .int x21, .int (nI c22), .int (nI c23), .ref m24, .ref m25, .int (nI c26), .int (nI c27), .int x28, .ref m29, .ref m30, .ref m31, .ref m32, .ref m33, .ref m34, .int x35, .ref m36, .int (nI c37)])), (m15, .inl (kct, 6272, .inl ct8))]) [0, 1] rfl
      have hD9 := hD.sub (ws' := [(h0, .inr (8, [.int 0, .int x1, .ref m2, .int (nI c3), .ref m4, .ref m5, .ref m6, .ref m7, .ref m8, .ref m9, .ref m10, .ref m11, .int (nI c12), .int (nI c13), .int (nI c14), .ref m15, .ref m16, .ref m17, .ref m18, .ref m19, .int (nI c20), .int x21, .int (nI c22), .int (nI c23), .ref m24, .ref m25, .int (nI c26), .int (nI c27), .int x28, .ref m29, .ref m30, .ref m31, .ref m32, .ref m33, .ref m34, .int x35, .ref m36, .int (nI c37)])), (m15, .inl (kct, 6272, .inl ct8))]) [0, 1] (by decide) rfl
      exact W.iret (v := (-1)) hx hb hr (fun t ht hW => ⟨⟨(-1), (), rfl, by exact Or.inl ⟨rfl, fun h9 => nin_lt (z := 28) (by omega) c_14 h9.2.1⟩, by rw [ht]; exact hP9, hD9⟩, hS.F ht⟩) hS.2.2 dX8_pair_34
    · refine lv_iload_n hx hb dX8_pair_17 rfl (lv_at hl 2 rfl) ?_
      refine lv_bipush (v := 28) hx hb dX8_pair_18 (by decide) ?_
      refine lv_icmp_ge (tgt := 33) hx hb dX8_pair_20 (by decide) (fun c_20 => ?_) (fun c_20 => ?_)
      · refine lv_iconst (v := (-1)) hx hb dX8_pair_33 (by decide) ?_
        have hP9 := hP.sub (ws' := [(h0, .inr (8, [.int 0, .int x1, .ref m2, .int (nI c3), .ref m4, .ref m5, .ref m6, .ref m7, .ref m8, .ref m9, .ref m10, .ref m11, .int (nI c12), .int (nI c13), .int (nI c14), .ref m15, .ref m16, .ref m17, .ref m18, .ref m19, .int (nI c20), .int x21, .int (nI c22), .int (nI c23), .ref m24, .ref m25, .int (nI c26), .int (nI c27), .int x28, .ref m29, .ref m30, .ref m31, .ref m32, .ref m33, .ref m34, .int x35, .ref m36, .int (nI c37)])), (m15, .inl (kct, 6272, .inl ct8))]) [0, 1] rfl
        have hD9 := hD.sub (ws' := [(h0, .inr (8, [.int 0, .int x1, .ref m2, .int (nI c3), .ref m4, .ref m5, .ref m6, .ref m7, .ref m8, .ref m9, .ref m10, .ref m11, .int (nI c12), .int (nI c13), .int (nI c14), .ref m15, .ref m16, .ref m17, .ref m18, .ref m19, .int (nI c20), .int x21, .int (nI c22), .int (nI c23), .ref m24, .ref m25, .int (nI c26), .int (nI c27), .int x28, .ref m29, .ref m30, .ref m31, .ref m32, .ref m33, .ref m34, .int x35, .ref m36, .int (nI c37)])), (m15, .inl (kct, 6272, .inl ct8))]) [0, 1] (by decide) rfl
        exact W.iret (v := (-1)) hx hb hr (fun t ht hW => ⟨⟨(-1), (), rfl, by exact Or.inl ⟨rfl, fun h9 => nin_ge (z := 28) (by omega) c_20 h9.2.1⟩, by rw [ht]; exact hP9, hD9⟩, hS.F ht⟩) hS.2.2 dX8_pair_34
      · obtain ⟨j1, hj1, ep_j1⟩ := in_of (z := 28) (by omega) c_14 (c_20)
        subst ep_j1
        refine lv_iload_n hx hb dX8_pair_23 rfl (lv_at hl 3 rfl) ?_
        refine lv_if_lt (tgt := 33) hx hb dX8_pair_24 (by decide) (fun c_24 => ?_) (fun c_24 => ?_)
        · refine lv_iconst (v := (-1)) hx hb dX8_pair_33 (by decide) ?_
          have hP9 := hP.sub (ws' := [(h0, .inr (8, [.int 0, .int x1, .ref m2, .int (nI c3), .ref m4, .ref m5, .ref m6, .ref m7, .ref m8, .ref m9, .ref m10, .ref m11, .int (nI c12), .int (nI c13), .int (nI c14), .ref m15, .ref m16, .ref m17, .ref m18, .ref m19, .int (nI c20), .int x21, .int (nI c22), .int (nI c23), .ref m24, .ref m25, .int (nI c26), .int (nI c27), .int x28, .ref m29, .ref m30, .ref m31, .ref m32, .ref m33, .ref m34, .int x35, .ref m36, .int (nI c37)])), (m15, .inl (kct, 6272, .inl ct8))]) [0, 1] rfl
          have hD9 := hD.sub (ws' := [(h0, .inr (8, [.int 0, .int x1, .ref m2, .int (nI c3), .ref m4, .ref m5, .ref m6, .ref m7, .ref m8, .ref m9, .ref m10, .ref m11, .int (nI c12), .int (nI c13), .int (nI c14), .ref m15, .ref m16, .ref m17, .ref m18, .ref m19, .int (nI c20), .int x21, .int (nI c22), .int (nI c23), .ref m24, .ref m25, .int (nI c26), .int (nI c27), .int x28, .ref m29, .ref m30, .ref m31, .ref m32, .ref m33, .ref m34, .int x35, .ref m36, .int (nI c37)])), (m15, .inl (kct, 6272, .inl ct8))]) [0, 1] (by decide) rfl
          exact W.iret (v := (-1)) hx hb hr (fun t ht hW => ⟨⟨(-1), (), rfl, by exact Or.inl ⟨rfl, fun h9 => nin_lt (z := 28) (by omega) c_24 h9.2.2⟩, by rw [ht]; exact hP9, hD9⟩, hS.F ht⟩) hS.2.2 dX8_pair_34
        · refine lv_iload_n hx hb dX8_pair_27 rfl (lv_at hl 3 rfl) ?_
          refine lv_bipush (v := 28) hx hb dX8_pair_28 (by decide) ?_
          refine lv_icmp_lt (tgt := 35) hx hb dX8_pair_30 (by decide) (fun c_30 => ?_) (fun c_30 => ?_)
          · obtain ⟨j2, hj2, ep_j2⟩ := in_of (z := 28) (by omega) c_24 (Int32.not_le.mpr c_30)
            subst ep_j2
            refine lv_aload_n hx hb dX8_pair_35 rfl (lv_at hl 0 rfl) ?_
            refine va_get (D := (dC, dI)) (ci := 8) (v := .ref m15) (C := RX8) (T := TX8) (N := 38) hx hb hts hi_X8 hown hK hP 0 rfl rfl 15 (by decide) k_f41 (fun _ h9 => h9) rfl dX8_pair_36 ?_
            refine lv_bipush (v := 28) hx hb dX8_pair_39 (by decide) ?_
            refine lv_bipush (v := 28) hx hb dX8_pair_41 (by decide) ?_
            refine lv_iload_n hx hb dX8_pair_43 rfl (lv_at hl 1 rfl) ?_
            refine lv_imul hx hb dX8_pair_44 ?_
            refine lv_topi (fun x_44 ex_44 => ?_)
            obtain rfl : nI (28 * j0) = x_44 := Eq.symm (ex_44.trans (pk_mul 28 j0))
            refine lv_iload_n hx hb dX8_pair_45 rfl (lv_at hl 2 rfl) ?_
            refine lv_iadd hx hb dX8_pair_46 ?_
            refine lv_topi (fun x_46 ex_46 => ?_)
            obtain rfl : nI (28 * j0 + j1) = x_46 := Eq.symm (ex_46.trans (nI_add (28 * j0) j1))
            refine lv_imul hx hb dX8_pair_47 ?_
            refine lv_topi (fun x_47 ex_47 => ?_)
            obtain rfl : nI (28 * (28 * j0 + j1)) = x_47 := Eq.symm (ex_47.trans (pk_mul 28 (28 * j0 + j1)))
            refine lv_iload_n hx hb dX8_pair_48 rfl (lv_at hl 3 rfl) ?_
            refine lv_iadd hx hb dX8_pair_49 ?_
            refine lv_topi (fun x_49 ex_49 => ?_)
            obtain rfl : nI (28 * (28 * j0 + j1) + j2) = x_49 := Eq.symm (ex_49.trans (nI_add (28 * (28 * j0 + j1)) j2))
            refine va_iald hx hb hK hP 1 0 rfl rfl (i := nI (28 * (28 * j0 + j1) + j2)) (vp_in_nI (by omega) (by omega)) dX8_pair_50 ?_
            refine lv_topi (fun x_50 ex_50 => ?_)
            obtain rfl : ct8 (28 * (28 * j0 + j1) + j2) = x_50 := Eq.symm (ex_50.trans (fR_at (by omega)))
            have hP9 := hP.sub (ws' := [(h0, .inr (8, [.int 0, .int x1, .ref m2, .int (nI c3), .ref m4, .ref m5, .ref m6, .ref m7, .ref m8, .ref m9, .ref m10, .ref m11, .int (nI c12), .int (nI c13), .int (nI c14), .ref m15, .ref m16, .ref m17, .ref m18, .ref m19, .int (nI c20), .int x21, .int (nI c22), .int (nI c23), .ref m24, .ref m25, .int (nI c26), .int (nI c27), .int x28, .ref m29, .ref m30, .ref m31, .ref m32, .ref m33, .ref m34, .int x35, .ref m36, .int (nI c37)])), (m15, .inl (kct, 6272, .inl ct8))]) [0, 1] rfl
            have hD9 := hD.sub (ws' := [(h0, .inr (8, [.int 0, .int x1, .ref m2, .int (nI c3), .ref m4, .ref m5, .ref m6, .ref m7, .ref m8, .ref m9, .ref m10, .ref m11, .int (nI c12), .int (nI c13), .int (nI c14), .ref m15, .ref m16, .ref m17, .ref m18, .ref m19, .int (nI c20), .int x21, .int (nI c22), .int (nI c23), .ref m24, .ref m25, .int (nI c26), .int (nI c27), .int x28, .ref m29, .ref m30, .ref m31, .ref m32, .ref m33, .ref m34, .int x35, .ref m36, .int (nI c37)])), (m15, .inl (kct, 6272, .inl ct8))]) [0, 1] (by decide) rfl
            exact W.iret (v := ct8 (28 * (28 * j0 + j1) + j2)) hx hb hr (fun t ht hW => ⟨⟨ct8 (28 * (28 * j0 + j1) + j2), (), rfl, by exact Or.inr ⟨j0, j1, j2, hj0, rfl, hj1, rfl, hj2, rfl, rfl⟩, by rw [ht]; exact hP9, hD9⟩, hS.F ht⟩) hS.2.2 dX8_pair_51
          · refine lv_iconst (v := (-1)) hx hb dX8_pair_33 (by decide) ?_
            have hP9 := hP.sub (ws' := [(h0, .inr (8, [.int 0, .int x1, .ref m2, .int (nI c3), .ref m4, .ref m5, .ref m6, .ref m7, .ref m8, .ref m9, .ref m10, .ref m11, .int (nI c12), .int (nI c13), .int (nI c14), .ref m15, .ref m16, .ref m17, .ref m18, .ref m19, .int (nI c20), .int x21, .int (nI c22), .int (nI c23), .ref m24, .ref m25, .int (nI c26), .int (nI c27), .int x28, .ref m29, .ref m30, .ref m31, .ref m32, .ref m33, .ref m34, .int x35, .ref m36, .int (nI c37)])), (m15, .inl (kct, 6272, .inl ct8))]) [0, 1] rfl
            have hD9 := hD.sub (ws' := [(h0, .inr (8, [.int 0, .int x1, .ref m2, .int (nI c3), .ref m4, .ref m5, .ref m6, .ref m7, .ref m8, .ref m9, .ref m10, .ref m11, .int (nI c12), .int (nI c13), .int (nI c14), .ref m15, .ref m16, .ref m17, .ref m18, .ref m19, .int (nI c20), .int x21, .int (nI c22), .int (nI c23), .ref m24, .ref m25, .int (nI c26), .int (nI c27), .int x28, .ref m29, .ref m30, .ref m31, .ref m32, .ref m33, .ref m34, .int x35, .ref m36, .int (nI c37)])), (m15, .inl (kct, 6272, .inl ct8))]) [0, 1] (by decide) rfl
            exact W.iret (v := (-1)) hx hb hr (fun t ht hW => ⟨⟨(-1), (), rfl, by exact Or.inl ⟨rfl, fun h9 => nin_ge (z := 28) (by omega) (Int32.not_lt.mp c_30) h9.2.2⟩, by rw [ht]; exact hP9, hD9⟩, hS.F ht⟩) hS.2.2 dX8_pair_34
  · subst hr_7
    refine lv_if_eq (tgt := 33) hx hb dX8_pair_10 (by decide) (fun c_10 => ?_) (fun c_10 => ?_)
    rotate_left
    · exact absurd (by decide) c_10
    refine lv_iconst (v := (-1)) hx hb dX8_pair_33 (by decide) ?_
    have hP9 := hP.sub (ws' := [(h0, .inr (8, [.int 0, .int x1, .ref m2, .int (nI c3), .ref m4, .ref m5, .ref m6, .ref m7, .ref m8, .ref m9, .ref m10, .ref m11, .int (nI c12), .int (nI c13), .int (nI c14), .ref m15, .ref m16, .ref m17, .ref m18, .ref m19, .int (nI c20), .int x21, .int (nI c22), .int (nI c23), .ref m24, .ref m25, .int (nI c26), .int (nI c27), .int x28, .ref m29, .ref m30, .ref m31, .ref m32, .ref m33, .ref m34, .int x35, .ref m36, .int (nI c37)])), (m15, .inl (kct, 6272, .inl ct8))]) [0, 1] rfl
    have hD9 := hD.sub (ws' := [(h0, .inr (8, [.int 0, .int x1, .ref m2, .int (nI c3), .ref m4, .ref m5, .ref m6, .ref m7, .ref m8, .ref m9, .ref m10, .ref m11, .int (nI c12), .int (nI c13), .int (nI c14), .ref m15, .ref m16, .ref m17, .ref m18, .ref m19, .int (nI c20), .int x21, .int (nI c22), .int (nI c23), .ref m24, .ref m25, .int (nI c26), .int (nI c27), .int x28, .ref m29, .ref m30, .ref m31, .ref m32, .ref m33, .ref m34, .int x35, .ref m36, .int (nI c37)])), (m15, .inl (kct, 6272, .inl ct8))]) [0, 1] (by decide) rfl
    exact W.iret (v := (-1)) hx hb hr (fun t ht hW => ⟨⟨(-1), (), rfl, by exact Or.inl ⟨rfl, fun h9 => hb_7 h9.1⟩, by rw [ht]; exact hP9, hD9⟩, hS.F ht⟩) hS.2.2 dX8_pair_34
