set_option maxHeartbeats 4000000 in
set_option maxRecDepth 100000 in
theorem g_X8_isOne (l : Launch) (dC : Nat → ClassId) (dI : Nat → Nat → Nat) (h0 : Nat) (x0 : Int32) (x1 : Int32) (m2 : Nat) (c3 : Nat) (m4 : Nat) (m5 : Nat) (m6 : Nat) (m7 : Nat) (m8 : Nat) (m9 : Nat) (m10 : Nat) (m11 : Nat) (c12 : Nat) (c13 : Nat) (c14 : Nat) (m15 : Nat) (m16 : Nat) (m17 : Nat) (m18 : Nat) (m19 : Nat) (c20 : Nat) (x21 : Int32) (c22 : Nat) (c23 : Nat) (m24 : Nat) (m25 : Nat) (c26 : Nat) (c27 : Nat) (x28 : Int32) (m29 : Nat) (m30 : Nat) (m31 : Nat) (m32 : Nat) (m33 : Nat) (m34 : Nat) (x35 : Int32) (m36 : Nat) (c37 : Nat) (ktp : ClassId) (kbg : ClassId) (kby : ClassId) (kmk : ClassId) (ft8 : Nat → Int32) (bb : Nat → Nat) (by_ : Nat → Nat) (mk : Nat → Nat) (zz : Nat) (sz : Nat) (hsz : zz ≤ 600) : Met l yX8_isOne wsX8_isOne ({ frames := 2, cells := 0, slots := 0, locals := 47 }) (va_Pc [.ref h0, .int (nI zz)] (fun U => U.heap.size = sz ∧ va_P (dC, dI) vwCl [(h0, .inr (8, [.int x0, .int x1, .ref m2, .int (nI c3), .ref m4, .ref m5, .ref m6, .ref m7, .ref m8, .ref m9, .ref m10, .ref m11, .int (nI c12), .int (nI c13), .int (nI c14), .ref m15, .ref m16, .ref m17, .ref m18, .ref m19, .int (nI c20), .int x21, .int (nI c22), .int (nI c23), .ref m24, .ref m25, .int (nI c26), .int (nI c27), .int x28, .ref m29, .ref m30, .ref m31, .ref m32, .ref m33, .ref m34, .int x35, .ref m36, .int (nI c37)])), (m2, .inl (ktp, 600, .inl ft8)), (m4, .inl (kbg, 60, .inl (nR bb))), (m5, .inl (kby, 60, .inl (nR by_))), (m6, .inl (kmk, 60, .inl (nR mk)))] U.heap ∧ va_K (dC, dI) vwCl [(ktp, .byte), (kbg, .int), (kby, .int), (kmk, .boolean)] U ∧ va_D (fun _ => True) [(h0, .inr (8, [.int x0, .int x1, .ref m2, .int (nI c3), .ref m4, .ref m5, .ref m6, .ref m7, .ref m8, .ref m9, .ref m10, .ref m11, .int (nI c12), .int (nI c13), .int (nI c14), .ref m15, .ref m16, .ref m17, .ref m18, .ref m19, .int (nI c20), .int x21, .int (nI c22), .int (nI c23), .ref m24, .ref m25, .int (nI c26), .int (nI c27), .int x28, .ref m29, .ref m30, .ref m31, .ref m32, .ref m33, .ref m34, .int x35, .ref m36, .int (nI c37)])), (m2, .inl (ktp, 600, .inl ft8)), (m4, .inl (kbg, 60, .inl (nR bb))), (m5, .inl (kby, 60, .inl (nR by_))), (m6, .inl (kmk, 60, .inl (nR mk)))])) (va_Qi (fun (r : Int32) (u : (Nat → Nat) × (Nat → Nat) × (Nat → Nat)) => match u with | (bo, yo, ko) => ((r = 1 ∧ (oneM ft8 zz)) ∨ (r = 0 ∧ ¬ (oneM ft8 zz))) ∧ (okC (gm ft8) bo yo ko zz zz)) (fun (u : (Nat → Nat) × (Nat → Nat) × (Nat → Nat)) (t : State) => match u with | (bo, yo, ko) => va_P (dC, dI) vwCl [(h0, .inr (8, [.int x0, .int x1, .ref m2, .int (nI c3), .ref m4, .ref m5, .ref m6, .ref m7, .ref m8, .ref m9, .ref m10, .ref m11, .int (nI c12), .int (nI c13), .int (nI c14), .ref m15, .ref m16, .ref m17, .ref m18, .ref m19, .int (nI c20), .int x21, .int (nI c22), .int (nI c23), .ref m24, .ref m25, .int (nI c26), .int (nI c27), .int x28, .ref m29, .ref m30, .ref m31, .ref m32, .ref m33, .ref m34, .int x35, .ref m36, .int (nI c37)])), (m2, .inl (ktp, 600, .inl ft8)), (m4, .inl (kbg, 60, .inl (nR bo))), (m5, .inl (kby, 60, .inl (nR yo))), (m6, .inl (kmk, 60, .inl (nR ko)))] t.heap ∧ va_D (va_A [(h0, .inr (8, [.int x0, .int x1, .ref m2, .int (nI c3), .ref m4, .ref m5, .ref m6, .ref m7, .ref m8, .ref m9, .ref m10, .ref m11, .int (nI c12), .int (nI c13), .int (nI c14), .ref m15, .ref m16, .ref m17, .ref m18, .ref m19, .int (nI c20), .int x21, .int (nI c22), .int (nI c23), .ref m24, .ref m25, .int (nI c26), .int (nI c27), .int x28, .ref m29, .ref m30, .ref m31, .ref m32, .ref m33, .ref m34, .int x35, .ref m36, .int (nI c37)])), (m2, .inl (ktp, 600, .inl ft8)), (m4, .inl (kbg, 60, .inl (nR bb))), (m5, .inl (kby, 60, .inl (nR by_))), (m6, .inl (kmk, 60, .inl (nR mk)))] sz) [(h0, .inr (8, [.int x0, .int x1, .ref m2, .int (nI c3), .ref m4, .ref m5, .ref m6, .ref m7, .ref m8, .ref m9, .ref m10, .ref m11, .int (nI c12), .int (nI c13), .int (nI c14), .ref m15, .ref m16, .ref m17, .ref m18, .ref m19, .int (nI c20), .int x21, .int (nI c22), .int (nI c23), .ref m24, .ref m25, .int (nI c26), .int (nI c27), .int x28, .ref m29, .ref m30, .ref m31, .ref m32, .ref m33, .ref m34, .int x35, .ref m36, .int (nI c37)])), (m2, .inl (ktp, 600, .inl ft8)), (m4, .inl (kbg, 60, .inl (nR bo))), (m5, .inl (kby, 60, .inl (nR yo))), (m6, .inl (kmk, 60, .inl (nR ko)))]) (va_A [(h0, .inr (8, [.int x0, .int x1, .ref m2, .int (nI c3), .ref m4, .ref m5, .ref m6, .ref m7, .ref m8, .ref m9, .ref m10, .ref m11, .int (nI c12), .int (nI c13), .int (nI c14), .ref m15, .ref m16, .ref m17, .ref m18, .ref m19, .int (nI c20), .int x21, .int (nI c22), .int (nI c23), .ref m24, .ref m25, .int (nI c26), .int (nI c27), .int x28, .ref m29, .ref m30, .ref m31, .ref m32, .ref m33, .ref m34, .int x35, .ref m36, .int (nI c37)])), (m2, .inl (ktp, 600, .inl ft8)), (m4, .inl (kbg, 60, .inl (nR bb))), (m5, .inl (kby, 60, .inl (nR by_))), (m6, .inl (kmk, 60, .inl (nR mk)))] sz)) 0 0 (va_A [(h0, .inr (8, [.int x0, .int x1, .ref m2, .int (nI c3), .ref m4, .ref m5, .ref m6, .ref m7, .ref m8, .ref m9, .ref m10, .ref m11, .int (nI c12), .int (nI c13), .int (nI c14), .ref m15, .ref m16, .ref m17, .ref m18, .ref m19, .int (nI c20), .int x21, .int (nI c22), .int (nI c23), .ref m24, .ref m25, .int (nI c26), .int (nI c27), .int x28, .ref m29, .ref m30, .ref m31, .ref m32, .ref m33, .ref m34, .int x35, .ref m36, .int (nI c37)])), (m2, .inl (ktp, 600, .inl ft8)), (m4, .inl (kbg, 60, .inl (nR bb))), (m5, .inl (kby, 60, .inl (nR by_))), (m6, .inl (kmk, 60, .inl (nR mk)))] sz) := by
  refine Met.ofW (cc := cX8_isOne) (maxL := 2) (ret := (some .boolean)) (by decide) rfl ?_
  intro p e s m args below meth c s₁ B hml hv
  obtain ⟨rfl, hsz, hP, hK, hD0⟩ := hv
  have hx := B.exec
  have hb := B.bytes
  have hr := B.returns
  have hts := atoms_spec (ws := wsX8_isOne) B.pre
  have hown : s.vm.findClass RX8 = some m.cls := findClass_of_methodNamed B.named
  have hlocks := B.notSynchronized
  subst hsz
  have hD := hD0.self (sz := s.heap.size)
  clear hD0
  generalize hAe : va_A [(h0, .inr (8, [.int x0, .int x1, .ref m2, .int (nI c3), .ref m4, .ref m5, .ref m6, .ref m7, .ref m8, .ref m9, .ref m10, .ref m11, .int (nI c12), .int (nI c13), .int (nI c14), .ref m15, .ref m16, .ref m17, .ref m18, .ref m19, .int (nI c20), .int x21, .int (nI c22), .int (nI c23), .ref m24, .ref m25, .int (nI c26), .int (nI c27), .int x28, .ref m29, .ref m30, .ref m31, .ref m32, .ref m33, .ref m34, .int x35, .ref m36, .int (nI c37)])), (m2, .inl (ktp, 600, .inl ft8)), (m4, .inl (kbg, 60, .inl (nR bb))), (m5, .inl (kby, 60, .inl (nR by_))), (m6, .inl (kmk, 60, .inl (nR mk)))] s.heap.size = A at hD ⊢
  have hA : ∀ q : Nat, s.heap.size ≤ q → A q := fun q h => by rw [← hAe]; exact Or.inr h
  clear hAe
  have hS : va_S A s.heap s.heap [] := va_S.rf
  replace hP : va_P (dC, dI) vwCl [(h0, .inr (8, [.int x0, .int x1, .ref m2, .int (nI c3), .ref m4, .ref m5, .ref m6, .ref m7, .ref m8, .ref m9, .ref m10, .ref m11, .int (nI c12), .int (nI c13), .int (nI c14), .ref m15, .ref m16, .ref m17, .ref m18, .ref m19, .int (nI c20), .int x21, .int (nI c22), .int (nI c23), .ref m24, .ref m25, .int (nI c26), .int (nI c27), .int x28, .ref m29, .ref m30, .ref m31, .ref m32, .ref m33, .ref m34, .int x35, .ref m36, .int (nI c37)])), (m2, .inl (ktp, 600, .inl ft8)), (m4, .inl (kbg, 60, .inl (nR bb))), (m5, .inl (kby, 60, .inl (nR by_))), (m6, .inl (kmk, 60, .inl (nR mk)))] s.heap := hP
  have hl := lv_entry ([.ref h0, .int (nI zz)]) (n := 2) (Nat.le_of_ble_eq_true rfl)
  rw [lg_entry_eq]
  generalize (lg_sl ([.ref h0, .int (nI zz)]) ++ List.replicate (2 - (lg_sl ([.ref h0, .int (nI zz)])).length) Slot.unset).toArray = ls at hl ⊢
  replace hl : lv_has ls 2 [(0, .ref h0), (1, .int (nI zz))] := hl
  have hi_X8 : ∀ w ∈ wsX80, w ∈ wsX8_isOne := by decide +kernel
  have k_f11 := hts (.fieldLink RX8 11 "TongueTellerModel" "tape" "[B") (by decide +kernel)
  have k_f22 := hts (.fieldLink RX8 22 "TongueTellerModel" "mark" "[Z") (by decide +kernel)
  refine lv_aload_n hx hb dX8_isOne_0 rfl (lv_at hl 0 rfl) ?_
  refine lv_aload_n hx hb dX8_isOne_1 rfl (lv_at hl 0 rfl) ?_
  refine va_get (D := (dC, dI)) (ci := 8) (v := .ref m2) (C := RX8) (T := TX8) (N := 38) hx hb hts hi_X8 hown hK hP 0 rfl rfl 2 (by decide) k_f11 (fun _ h9 => h9) rfl dX8_isOne_2 ?_
  refine lv_iload_n hx hb dX8_isOne_5 rfl (lv_at hl 1 rfl) ?_
  have hPc := hP.sub (ws' := [(h0, .inr (8, [.int x0, .int x1, .ref m2, .int (nI c3), .ref m4, .ref m5, .ref m6, .ref m7, .ref m8, .ref m9, .ref m10, .ref m11, .int (nI c12), .int (nI c13), .int (nI c14), .ref m15, .ref m16, .ref m17, .ref m18, .ref m19, .int (nI c20), .int x21, .int (nI c22), .int (nI c23), .ref m24, .ref m25, .int (nI c26), .int (nI c27), .int x28, .ref m29, .ref m30, .ref m31, .ref m32, .ref m33, .ref m34, .int x35, .ref m36, .int (nI c37)])), (m2, .inl (ktp, 600, .inl ft8)), (m4, .inl (kbg, 60, .inl (nR bb))), (m5, .inl (kby, 60, .inl (nR by_))), (m6, .inl (kmk, 60, .inl (nR mk)))]) [0, 1, 2, 3, 4] rfl
  have hDc := hD.sub (ws' := [(h0, .inr (8, [.int x0, .int x1, .ref m2, .int (nI c3), .ref m4, .ref m5, .ref m6, .ref m7, .ref m8, .ref m9, .ref m10, .ref m11, .int (nI c12), .int (nI c13), .int (nI c14), .ref m15, .ref m16, .ref m17, .ref m18, .ref m19, .int (nI c20), .int x21, .int (nI c22), .int (nI c23), .ref m24, .ref m25, .int (nI c26), .int (nI c27), .int x28, .ref m29, .ref m30, .ref m31, .ref m32, .ref m33, .ref m34, .int x35, .ref m36, .int (nI c37)])), (m2, .inl (ktp, 600, .inl ft8)), (m4, .inl (kbg, 60, .inl (nR bb))), (m5, .inl (kby, 60, .inl (nR by_))), (m6, .inl (kmk, 60, .inl (nR mk)))]) [0, 1, 2, 3, 4] (by decide) rfl
  have hKc := hK.sub (tys' := [(ktp, .byte), (kbg, .int), (kby, .int), (kmk, .boolean)]) [0, 1, 2, 3] rfl
  have hFc := va_free (wc := [(h0, .inr (8, [.int x0, .int x1, .ref m2, .int (nI c3), .ref m4, .ref m5, .ref m6, .ref m7, .ref m8, .ref m9, .ref m10, .ref m11, .int (nI c12), .int (nI c13), .int (nI c14), .ref m15, .ref m16, .ref m17, .ref m18, .ref m19, .int (nI c20), .int x21, .int (nI c22), .int (nI c23), .ref m24, .ref m25, .int (nI c26), .int (nI c27), .int x28, .ref m29, .ref m30, .ref m31, .ref m32, .ref m33, .ref m34, .int x35, .ref m36, .int (nI c37)])), (m2, .inl (ktp, 600, .inl ft8)), (m4, .inl (kbg, 60, .inl (nR bb))), (m5, .inl (kby, 60, .inl (nR by_))), (m6, .inl (kmk, 60, .inl (nR mk)))]) hD hS hA [0, 1, 2, 3, 4] rfl
  refine va_calli (va_runV (As := [.ref m2, .int (nI zz)]) (rest := []) ⟨hx, hb, hml, hown, hts⟩ (g_X8_cut l dC dI h0 x0 x1 m2 c3 m4 m5 m6 m7 m8 m9 m10 m11 c12 c13 c14 m15 m16 m17 m18 m19 c20 x21 c22 c23 m24 m25 c26 c27 x28 m29 m30 m31 m32 m33 m34 x35 m36 c37 m2 ktp kbg kby kmk ft8 bb by_ mk zz s.heap.size (by first | assumption | omega)) (cwV 2 hts gX8_isOne_X8_cut rfl rfl rfl (by decide +kernel) ⟨Nat.le_of_ble_eq_true rfl, Nat.le_of_ble_eq_true rfl⟩) ⟨fun a U g mk q => by obtain ⟨q0, q1, qP, qK, qD⟩ := q; exact ⟨q0, q1, qP, va_K.moved (u := U) (U := U.calling g mk a) (Vm.Alike.refl U.vm) qK, qD⟩, va_recv hK hP (ci := 8) (q0 := 0) rfl rfl, fun U hU hW => ⟨rfl, by rw [hU], by rw [hU]; exact hPc, va_K.moved hW.alike hKc, hDc.weaken (fun _ _ _ _ => trivial)⟩⟩ rfl rfl hl.1 rfl (lv_room (Nat.le_of_ble_eq_true rfl)) dX8_isOne_6 ⟨Nat.le_of_ble_eq_true rfl, Nat.le_of_ble_eq_true rfl⟩) hS (fun q _ h => hFc q h) hFc (fun r_6 u t H1 locs ht hvm hw_6 hB hz1 hk1 hS => ?_)
  obtain ⟨bo_6, yo_6, ko_6⟩ := u
  try dsimp only at hw_6 hB
  obtain ⟨hP1, hD1⟩ := hB
  rw [ht] at hP1
  obtain ⟨hP, hD⟩ := va_join (wr := []) (w1 := [(h0, .inr (8, [.int x0, .int x1, .ref m2, .int (nI c3), .ref m4, .ref m5, .ref m6, .ref m7, .ref m8, .ref m9, .ref m10, .ref m11, .int (nI c12), .int (nI c13), .int (nI c14), .ref m15, .ref m16, .ref m17, .ref m18, .ref m19, .int (nI c20), .int x21, .int (nI c22), .int (nI c23), .ref m24, .ref m25, .int (nI c26), .int (nI c27), .int x28, .ref m29, .ref m30, .ref m31, .ref m32, .ref m33, .ref m34, .int x35, .ref m36, .int (nI c37)])), (m2, .inl (ktp, 600, .inl ft8)), (m4, .inl (kbg, 60, .inl (nR bo_6))), (m5, .inl (kby, 60, .inl (nR yo_6))), (m6, .inl (kmk, 60, .inl (nR ko_6)))]) hP hD [0, 1, 2, 3, 4] [] rfl rfl (by decide) (by decide) hk1 hFc hP1 hD1
  generalize H1 = H at hP hS ⊢
  replace hP : va_P (dC, dI) vwCl [(h0, .inr (8, [.int x0, .int x1, .ref m2, .int (nI c3), .ref m4, .ref m5, .ref m6, .ref m7, .ref m8, .ref m9, .ref m10, .ref m11, .int (nI c12), .int (nI c13), .int (nI c14), .ref m15, .ref m16, .ref m17, .ref m18, .ref m19, .int (nI c20), .int x21, .int (nI c22), .int (nI c23), .ref m24, .ref m25, .int (nI c26), .int (nI c27), .int x28, .ref m29, .ref m30, .ref m31, .ref m32, .ref m33, .ref m34, .int x35, .ref m36, .int (nI c37)])), (m2, .inl (ktp, 600, .inl ft8)), (m4, .inl (kbg, 60, .inl (nR bo_6))), (m5, .inl (kby, 60, .inl (nR yo_6))), (m6, .inl (kmk, 60, .inl (nR ko_6)))] H := hP
  replace hD : va_D A [(h0, .inr (8, [.int x0, .int x1, .ref m2, .int (nI c3), .ref m4, .ref m5, .ref m6, .ref m7, .ref m8, .ref m9, .ref m10, .ref m11, .int (nI c12), .int (nI c13), .int (nI c14), .ref m15, .ref m16, .ref m17, .ref m18, .ref m19, .int (nI c20), .int x21, .int (nI c22), .int (nI c23), .ref m24, .ref m25, .int (nI c26), .int (nI c27), .int x28, .ref m29, .ref m30, .ref m31, .ref m32, .ref m33, .ref m34, .int x35, .ref m36, .int (nI c37)])), (m2, .inl (ktp, 600, .inl ft8)), (m4, .inl (kbg, 60, .inl (nR bo_6))), (m5, .inl (kby, 60, .inl (nR yo_6))), (m6, .inl (kmk, 60, .inl (nR ko_6)))] := hD
  obtain ⟨hr_6, hct_6, hcz_6⟩ := hw_6
  obtain rfl : nI (cB (gm ft8) zz) = r_6 := Eq.symm hr_6
  refine lv_iconst (v := 1) hx hb dX8_isOne_9 (by decide) ?_
  refine lv_icmp_ne (tgt := 26) hx hb dX8_isOne_10 (by decide) (fun c_10 => ?_) (fun c_10 => ?_)
  · have n_10 : (cB (gm ft8) zz) ≠ 1 := fun h9 => c_10 ((nI_eq (a := (cB (gm ft8) zz)) (b := 1) (by omega) (by omega)).mpr h9)
    refine lv_iconst (v := 0) hx hb dX8_isOne_26 (by decide) ?_
    have hP9 := hP.sub (ws' := [(h0, .inr (8, [.int x0, .int x1, .ref m2, .int (nI c3), .ref m4, .ref m5, .ref m6, .ref m7, .ref m8, .ref m9, .ref m10, .ref m11, .int (nI c12), .int (nI c13), .int (nI c14), .ref m15, .ref m16, .ref m17, .ref m18, .ref m19, .int (nI c20), .int x21, .int (nI c22), .int (nI c23), .ref m24, .ref m25, .int (nI c26), .int (nI c27), .int x28, .ref m29, .ref m30, .ref m31, .ref m32, .ref m33, .ref m34, .int x35, .ref m36, .int (nI c37)])), (m2, .inl (ktp, 600, .inl ft8)), (m4, .inl (kbg, 60, .inl (nR bo_6))), (m5, .inl (kby, 60, .inl (nR yo_6))), (m6, .inl (kmk, 60, .inl (nR ko_6)))]) [0, 1, 2, 3, 4] rfl
    have hD9 := hD.sub (ws' := [(h0, .inr (8, [.int x0, .int x1, .ref m2, .int (nI c3), .ref m4, .ref m5, .ref m6, .ref m7, .ref m8, .ref m9, .ref m10, .ref m11, .int (nI c12), .int (nI c13), .int (nI c14), .ref m15, .ref m16, .ref m17, .ref m18, .ref m19, .int (nI c20), .int x21, .int (nI c22), .int (nI c23), .ref m24, .ref m25, .int (nI c26), .int (nI c27), .int x28, .ref m29, .ref m30, .ref m31, .ref m32, .ref m33, .ref m34, .int x35, .ref m36, .int (nI c37)])), (m2, .inl (ktp, 600, .inl ft8)), (m4, .inl (kbg, 60, .inl (nR bo_6))), (m5, .inl (kby, 60, .inl (nR yo_6))), (m6, .inl (kmk, 60, .inl (nR ko_6)))]) [0, 1, 2, 3, 4] (by decide) rfl
    exact W.zret (v := 0) hx hb hr (rfl) (fun t ht hW => ⟨⟨0, (bo_6, yo_6, ko_6), rfl, ⟨Or.inr ⟨rfl, by exact fun h => n_10 h.1⟩, by exact hct_6⟩, by rw [ht]; exact hP9, hD9⟩, hS.F ht⟩) hS.2.2 dX8_isOne_27
  · have n_10 : (cB (gm ft8) zz) = 1 := (nI_eq (a := (cB (gm ft8) zz)) (b := 1) (by omega) (by omega)).mp c_10
    have hm2 := okC_mk hct_6 n_10
    refine lv_aload_n hx hb dX8_isOne_13 rfl (lv_at hl 0 rfl) ?_
    refine va_get (D := (dC, dI)) (ci := 8) (v := .ref m6) (C := RX8) (T := TX8) (N := 38) hx hb hts hi_X8 hown hK hP 0 rfl rfl 6 (by decide) k_f22 (fun _ h9 => h9) rfl dX8_isOne_14 ?_
    refine lv_iconst (v := 0) hx hb dX8_isOne_17 (by decide) ?_
    refine va_zald hx hb hK hP 4 3 rfl rfl (i := 0) (by unfold vp_in; decide) dX8_isOne_18 ?_
    refine lv_topi (fun x_18 ex_18 => ?_)
    obtain rfl : nI (ko_6 0) = x_18 := Eq.symm (ex_18.trans (nR_at (i := 0) (by omega)))
    refine lv_if_ne (tgt := 26) hx hb dX8_isOne_19 (by decide) (fun c_19 => ?_) (fun c_19 => ?_)
    · have n_19 : (ko_6 0) ≠ 0 := fun h9 => c_19 ((nI_eq (a := (ko_6 0)) (b := 0) (by omega) (by omega)).mpr h9)
      refine lv_iconst (v := 0) hx hb dX8_isOne_26 (by decide) ?_
      have hP9 := hP.sub (ws' := [(h0, .inr (8, [.int x0, .int x1, .ref m2, .int (nI c3), .ref m4, .ref m5, .ref m6, .ref m7, .ref m8, .ref m9, .ref m10, .ref m11, .int (nI c12), .int (nI c13), .int (nI c14), .ref m15, .ref m16, .ref m17, .ref m18, .ref m19, .int (nI c20), .int x21, .int (nI c22), .int (nI c23), .ref m24, .ref m25, .int (nI c26), .int (nI c27), .int x28, .ref m29, .ref m30, .ref m31, .ref m32, .ref m33, .ref m34, .int x35, .ref m36, .int (nI c37)])), (m2, .inl (ktp, 600, .inl ft8)), (m4, .inl (kbg, 60, .inl (nR bo_6))), (m5, .inl (kby, 60, .inl (nR yo_6))), (m6, .inl (kmk, 60, .inl (nR ko_6)))]) [0, 1, 2, 3, 4] rfl
      have hD9 := hD.sub (ws' := [(h0, .inr (8, [.int x0, .int x1, .ref m2, .int (nI c3), .ref m4, .ref m5, .ref m6, .ref m7, .ref m8, .ref m9, .ref m10, .ref m11, .int (nI c12), .int (nI c13), .int (nI c14), .ref m15, .ref m16, .ref m17, .ref m18, .ref m19, .int (nI c20), .int x21, .int (nI c22), .int (nI c23), .ref m24, .ref m25, .int (nI c26), .int (nI c27), .int x28, .ref m29, .ref m30, .ref m31, .ref m32, .ref m33, .ref m34, .int x35, .ref m36, .int (nI c37)])), (m2, .inl (ktp, 600, .inl ft8)), (m4, .inl (kbg, 60, .inl (nR bo_6))), (m5, .inl (kby, 60, .inl (nR yo_6))), (m6, .inl (kmk, 60, .inl (nR ko_6)))]) [0, 1, 2, 3, 4] (by decide) rfl
      exact W.zret (v := 0) hx hb hr (rfl) (fun t ht hW => ⟨⟨0, (bo_6, yo_6, ko_6), rfl, ⟨Or.inr ⟨rfl, by exact fun h => n_19 ((okC_one hct_6 n_10).mpr h.2)⟩, by exact hct_6⟩, by rw [ht]; exact hP9, hD9⟩, hS.F ht⟩) hS.2.2 dX8_isOne_27
    · have n_19 : (ko_6 0) = 0 := (nI_eq (a := (ko_6 0)) (b := 0) (by omega) (by omega)).mp c_19
      refine lv_iconst (v := 1) hx hb dX8_isOne_22 (by decide) ?_
      refine lv_goto (tgt := 27) hx hb dX8_isOne_23 (by decide) ?_
      have hP9 := hP.sub (ws' := [(h0, .inr (8, [.int x0, .int x1, .ref m2, .int (nI c3), .ref m4, .ref m5, .ref m6, .ref m7, .ref m8, .ref m9, .ref m10, .ref m11, .int (nI c12), .int (nI c13), .int (nI c14), .ref m15, .ref m16, .ref m17, .ref m18, .ref m19, .int (nI c20), .int x21, .int (nI c22), .int (nI c23), .ref m24, .ref m25, .int (nI c26), .int (nI c27), .int x28, .ref m29, .ref m30, .ref m31, .ref m32, .ref m33, .ref m34, .int x35, .ref m36, .int (nI c37)])), (m2, .inl (ktp, 600, .inl ft8)), (m4, .inl (kbg, 60, .inl (nR bo_6))), (m5, .inl (kby, 60, .inl (nR yo_6))), (m6, .inl (kmk, 60, .inl (nR ko_6)))]) [0, 1, 2, 3, 4] rfl
      have hD9 := hD.sub (ws' := [(h0, .inr (8, [.int x0, .int x1, .ref m2, .int (nI c3), .ref m4, .ref m5, .ref m6, .ref m7, .ref m8, .ref m9, .ref m10, .ref m11, .int (nI c12), .int (nI c13), .int (nI c14), .ref m15, .ref m16, .ref m17, .ref m18, .ref m19, .int (nI c20), .int x21, .int (nI c22), .int (nI c23), .ref m24, .ref m25, .int (nI c26), .int (nI c27), .int x28, .ref m29, .ref m30, .ref m31, .ref m32, .ref m33, .ref m34, .int x35, .ref m36, .int (nI c37)])), (m2, .inl (ktp, 600, .inl ft8)), (m4, .inl (kbg, 60, .inl (nR bo_6))), (m5, .inl (kby, 60, .inl (nR yo_6))), (m6, .inl (kmk, 60, .inl (nR ko_6)))]) [0, 1, 2, 3, 4] (by decide) rfl
      exact W.zret (v := 1) hx hb hr (rfl) (fun t ht hW => ⟨⟨1, (bo_6, yo_6, ko_6), rfl, ⟨Or.inl ⟨rfl, by exact ⟨n_10, (okC_one hct_6 n_10).mp n_19⟩⟩, by exact hct_6⟩, by rw [ht]; exact hP9, hD9⟩, hS.F ht⟩) hS.2.2 dX8_isOne_27

set_option maxHeartbeats 4000000 in
set_option maxRecDepth 100000 in
theorem g_X8_nameOf (l : Launch) (dC : Nat → ClassId) (dI : Nat → Nat → Nat) (h0 : Nat) (x0 : Int32) (x1 : Int32) (m2 : Nat) (c3 : Nat) (m4 : Nat) (m5 : Nat) (m6 : Nat) (m7 : Nat) (m8 : Nat) (m9 : Nat) (m10 : Nat) (m11 : Nat) (c12 : Nat) (c13 : Nat) (c14 : Nat) (m15 : Nat) (m16 : Nat) (m17 : Nat) (m18 : Nat) (m19 : Nat) (c20 : Nat) (x21 : Int32) (c22 : Nat) (c23 : Nat) (m24 : Nat) (m25 : Nat) (c26 : Nat) (c27 : Nat) (x28 : Int32) (m29 : Nat) (m30 : Nat) (m31 : Nat) (m32 : Nat) (m33 : Nat) (m34 : Nat) (x35 : Int32) (m36 : Nat) (c37 : Nat) (tx : Nat) (s0 : Nat) (mm : Nat) (ktx : ClassId) (kll : ClassId) (klw : ClassId) (f : Nat → Int32) (lt : Nat → Nat) (lw : Nat → Nat) (hW : WOK lt lw c13 30) (hs : s0 + mm ≤ 600) : Met l yX8_nameOf wsX8_nameOf ({ frames := 2, cells := 0, slots := 0, locals := 47 }) (va_Pc [.ref h0, .ref tx, .int (nI s0), .int (nI mm)] (fun U => va_P (dC, dI) vwCl [(h0, .inr (8, [.int x0, .int x1, .ref m2, .int (nI c3), .ref m4, .ref m5, .ref m6, .ref m7, .ref m8, .ref m9, .ref m10, .ref m11, .int (nI c12), .int (nI c13), .int (nI c14), .ref m15, .ref m16, .ref m17, .ref m18, .ref m19, .int (nI c20), .int x21, .int (nI c22), .int (nI c23), .ref m24, .ref m25, .int (nI c26), .int (nI c27), .int x28, .ref m29, .ref m30, .ref m31, .ref m32, .ref m33, .ref m34, .int x35, .ref m36, .int (nI c37)])), (tx, .inl (ktx, 600, .inl f)), (m8, .inl (kll, 720, .inl (nR lt))), (m11, .inl (klw, 30, .inl (nR lw)))] U.heap ∧ va_K (dC, dI) vwCl [(ktx, .byte), (kll, .byte), (klw, .int)] U)) (vp_Si (fun r => ((r = (-1) ∧ (∀ p, p < c13 → ¬ mW f lt s0 (mst mm) (24 * p) (lw p))) ∨ (∃ pp : Nat, r = nI pp ∧ (pp < c13 ∧ mW f lt s0 (mst mm) (24 * pp) (lw pp) ∧ ∀ p, p < pp → ¬ mW f lt s0 (mst mm) (24 * p) (lw p)))))) 0 0 (fun _ => False) := by
  refine Met.ofW (cc := cX8_nameOf) (maxL := 5) (ret := (some .int)) (by decide) rfl ?_
  intro p e s m args below meth c s₁ B hml hv
  obtain ⟨rfl, hP, hK⟩ := hv
  have hx := B.exec
  have hb := B.bytes
  have hr := B.returns
  have hts := atoms_spec (ws := wsX8_nameOf) B.pre
  have hown : s.vm.findClass RX8 = some m.cls := findClass_of_methodNamed B.named
  have hlocks := B.notSynchronized
  replace hP : va_P (dC, dI) vwCl [(h0, .inr (8, [.int x0, .int x1, .ref m2, .int (nI c3), .ref m4, .ref m5, .ref m6, .ref m7, .ref m8, .ref m9, .ref m10, .ref m11, .int (nI c12), .int (nI c13), .int (nI c14), .ref m15, .ref m16, .ref m17, .ref m18, .ref m19, .int (nI c20), .int x21, .int (nI c22), .int (nI c23), .ref m24, .ref m25, .int (nI c26), .int (nI c27), .int x28, .ref m29, .ref m30, .ref m31, .ref m32, .ref m33, .ref m34, .int x35, .ref m36, .int (nI c37)])), (tx, .inl (ktx, 600, .inl f)), (m8, .inl (kll, 720, .inl (nR lt))), (m11, .inl (klw, 30, .inl (nR lw)))] s.heap := hP
  have hl := lv_entry ([.ref h0, .ref tx, .int (nI s0), .int (nI mm)]) (n := 5) (Nat.le_of_ble_eq_true rfl)
  rw [lg_entry_eq]
  generalize (lg_sl ([.ref h0, .ref tx, .int (nI s0), .int (nI mm)]) ++ List.replicate (5 - (lg_sl ([.ref h0, .ref tx, .int (nI s0), .int (nI mm)])).length) Slot.unset).toArray = ls at hl ⊢
  replace hl : lv_has ls 5 [(0, .ref h0), (1, .ref tx), (2, .int (nI s0)), (3, .int (nI mm))] := hl
  have hi_X8 : ∀ w ∈ wsX80, w ∈ wsX8_nameOf := by decide +kernel
  have k_f120 := hts (.fieldLink RX8 120 "TongueTellerModel" "names" "I") (by decide +kernel)
  have k_f29 := hts (.fieldLink RX8 29 "TongueTellerModel" "name" "[B") (by decide +kernel)
  have k_f38 := hts (.fieldLink RX8 38 "TongueTellerModel" "nameSize" "[I") (by decide +kernel)
  have hz9 := hW.1
  refine lv_iconst (v := 0) hx hb dX8_nameOf_0 (by decide) ?_
  refine lv_istore (lv' := [(4, .int 0), (0, .ref h0), (1, .ref tx), (2, .int (nI s0)), (3, .int (nI mm))]) hx hb dX8_nameOf_1 hl (by decide) rfl (fun ls hl => ?_)
  obtain ⟨kk, e_kk⟩ : ∃ y : Nat, y = 0 := ⟨_, rfl⟩
  replace hl : lv_has ls 5 [(0, .ref h0), (1, .ref tx), (2, .int (nI s0)), (3, .int (nI mm)), (4, .int (nI kk))] := by subst e_kk; exact lv_sub hl [1, 2, 3, 4, 0] rfl
  have hp1 : kk ≤ c13 := by subst e_kk; exact Nat.zero_le _
  have hp2 : ∀ p, p < kk → ¬ mW f lt s0 (mst mm) (24 * p) (lw p) := by subst e_kk; exact fun p hp => absurd hp (Nat.not_lt_zero p)
  clear e_kk
  obtain ⟨nn3, hnn3⟩ : ∃ q : Nat, c13 - kk < q := ⟨_, Nat.lt_succ_self _⟩
  induction nn3 generalizing kk ls with
  | zero => exact absurd hnn3 (Nat.not_lt_zero _)
  | succ nn3 ih3 =>
    refine lv_iload hx hb dX8_nameOf_3 (lv_at hl 4 rfl) ?_
    refine lv_aload_n hx hb dX8_nameOf_5 rfl (lv_at hl 0 rfl) ?_
    refine va_get (D := (dC, dI)) (ci := 8) (v := .int (nI c13)) (C := RX8) (T := TX8) (N := 38) hx hb hts hi_X8 hown hK hP 0 rfl rfl 13 (by decide) k_f120 (fun _ h9 => h9) rfl dX8_nameOf_6 ?_
    refine lv_icmp_ge (tgt := 46) hx hb dX8_nameOf_9 (by decide) (fun c_9 => ?_) (fun c_9 => ?_)
    · have n_9 : c13 ≤ kk := (nI_leI (a := c13) (b := kk) (by omega) (by omega)).mp c_9
      refine lv_iload hx hb dX8_nameOf_46 (lv_at hl 4 rfl) ?_
      refine lv_aload_n hx hb dX8_nameOf_48 rfl (lv_at hl 0 rfl) ?_
      refine va_get (D := (dC, dI)) (ci := 8) (v := .int (nI c13)) (C := RX8) (T := TX8) (N := 38) hx hb hts hi_X8 hown hK hP 0 rfl rfl 13 (by decide) k_f120 (fun _ h9 => h9) rfl dX8_nameOf_49 ?_
      refine lv_icmp_ge (tgt := 60) hx hb dX8_nameOf_52 (by decide) (fun c_52 => ?_) (fun c_52 => ?_)
      · have n_52 : c13 ≤ kk := (nI_leI (a := c13) (b := kk) (by omega) (by omega)).mp c_52
        refine lv_iconst (v := (-1)) hx hb dX8_nameOf_60 (by decide) ?_
        exact W.iret (v := (-1)) hx hb hr (fun t ht hW => ⟨(-1), rfl, Or.inl ⟨rfl, by first | (exfalso; omega) | exact fun p hp => hp2 p (by omega)⟩, ht⟩) (fun _ h => absurd h List.not_mem_nil) dX8_nameOf_61
      · have n_52 : kk < c13 := Nat.not_le.mp (fun h9 => c_52 ((nI_leI (a := c13) (b := kk) (by omega) (by omega)).mpr h9))
        refine lv_iload hx hb dX8_nameOf_55 (lv_at hl 4 rfl) ?_
        refine lv_goto (tgt := 61) hx hb dX8_nameOf_57 (by decide) ?_
        exact W.iret (v := nI kk) hx hb hr (fun t ht hW => ⟨nI kk, rfl, Or.inr ⟨kk, rfl, by first | (exfalso; omega) | exact ⟨n_9, hb_34, hp2⟩⟩, ht⟩) (fun _ h => absurd h List.not_mem_nil) dX8_nameOf_61
    · have n_9 : kk < c13 := Nat.not_le.mp (fun h9 => c_9 ((nI_leI (a := c13) (b := kk) (by omega) (by omega)).mpr h9))
      have hl24 := hW.2.2 kk (by omega)
      have hmst := mst_le mm
      refine lv_aload_n hx hb dX8_nameOf_12 rfl (lv_at hl 1 rfl) ?_
      refine lv_iload_n hx hb dX8_nameOf_13 rfl (lv_at hl 2 rfl) ?_
      refine lv_iload_n hx hb dX8_nameOf_14 rfl (lv_at hl 3 rfl) ?_
      refine vp_callSi (W.runS (As := [.int (nI mm)]) (rest := [.int (nI s0), .ref tx]) ⟨hx, hb, hml, hown, hts⟩ (g_X8_most l dC dI mm (by first | assumption | omega)) (va_cwS 1 hts gX8_nameOf_X8_most rfl rfl rfl (by decide +kernel) ⟨Nat.le_of_ble_eq_true rfl, Nat.le_of_ble_eq_true rfl⟩) ⟨fun a U g mk q => q, fun U hU hW => ⟨rfl, trivial⟩⟩ rfl rfl hl.1 rfl (lv_room (Nat.le_of_ble_eq_true rfl)) dX8_nameOf_15 ⟨Nat.le_of_ble_eq_true rfl, Nat.le_of_ble_eq_true rfl⟩) (fun r_15 hw_15 => ?_)
      have hr_15 := hw_15
      obtain rfl : nI (mst mm) = r_15 := Eq.symm hr_15
      refine lv_aload_n hx hb dX8_nameOf_18 rfl (lv_at hl 0 rfl) ?_
      refine va_get (D := (dC, dI)) (ci := 8) (v := .ref m8) (C := RX8) (T := TX8) (N := 38) hx hb hts hi_X8 hown hK hP 0 rfl rfl 8 (by decide) k_f29 (fun _ h9 => h9) rfl dX8_nameOf_19 ?_
      refine lv_bipush (v := 24) hx hb dX8_nameOf_22 (by decide) ?_
      refine lv_iload hx hb dX8_nameOf_24 (lv_at hl 4 rfl) ?_
      refine lv_imul hx hb dX8_nameOf_26 ?_
      refine lv_topi (fun x_26 ex_26 => ?_)
      obtain rfl : nI (24 * kk) = x_26 := Eq.symm (ex_26.trans (pk_mul 24 kk))
      refine lv_aload_n hx hb dX8_nameOf_27 rfl (lv_at hl 0 rfl) ?_
      refine va_get (D := (dC, dI)) (ci := 8) (v := .ref m11) (C := RX8) (T := TX8) (N := 38) hx hb hts hi_X8 hown hK hP 0 rfl rfl 11 (by decide) k_f38 (fun _ h9 => h9) rfl dX8_nameOf_28 ?_
      refine lv_iload hx hb dX8_nameOf_31 (lv_at hl 4 rfl) ?_
      refine va_iald hx hb hK hP 3 2 rfl rfl (i := nI kk) (vp_in_nI (by omega) (by omega)) dX8_nameOf_33 ?_
      refine lv_topi (fun x_33 ex_33 => ?_)
      obtain rfl : nI (lw kk) = x_33 := Eq.symm (ex_33.trans (nR_at (by omega)))
      have hPc := hP.sub (ws' := [(tx, .inl (ktx, 600, .inl f)), (m8, .inl (kll, 720, .inl (nR lt)))]) [1, 2] rfl
      have hKc := hK.sub (tys' := [(ktx, .byte), (kll, .byte)]) [0, 1] rfl
      refine vp_callSi (W.runS (As := [.ref tx, .int (nI s0), .int (nI (mst mm)), .ref m8, .int (nI (24 * kk)), .int (nI (lw kk))]) (rest := []) ⟨hx, hb, hml, hown, hts⟩ (g_X8_isSame l dC dI tx m8 s0 (mst mm) (24 * kk) (lw kk) 720 ktx kll f lt (by omega) (by omega) (hW.hlt)) (va_cwS 6 hts gX8_nameOf_X8_isSame rfl rfl rfl (by decide +kernel) ⟨Nat.le_of_ble_eq_true rfl, Nat.le_of_ble_eq_true rfl⟩) ⟨fun a U g mk q => by obtain ⟨q0, qP, qK⟩ := q; exact ⟨q0, qP, va_K.moved (u := U) (U := U.calling g mk a) (Vm.Alike.refl U.vm) qK⟩, fun U hU hW => ⟨rfl, by rw [hU]; exact hPc, va_K.moved hW.alike hKc⟩⟩ rfl rfl hl.1 rfl (lv_room (Nat.le_of_ble_eq_true rfl)) dX8_nameOf_34 ⟨Nat.le_of_ble_eq_true rfl, Nat.le_of_ble_eq_true rfl⟩) (fun r_34 hw_34 => ?_)
      clear hPc
      rcases hw_34 with ⟨hr_34, hb_34⟩ | ⟨hr_34, hb_34⟩
      · subst hr_34
        refine lv_if_ne (tgt := 46) hx hb dX8_nameOf_37 (by decide) (fun c_37 => ?_) (fun c_37 => ?_)
        rotate_left
        · exact absurd c_37 (by decide)
        refine lv_iload hx hb dX8_nameOf_46 (lv_at hl 4 rfl) ?_
        refine lv_aload_n hx hb dX8_nameOf_48 rfl (lv_at hl 0 rfl) ?_
        refine va_get (D := (dC, dI)) (ci := 8) (v := .int (nI c13)) (C := RX8) (T := TX8) (N := 38) hx hb hts hi_X8 hown hK hP 0 rfl rfl 13 (by decide) k_f120 (fun _ h9 => h9) rfl dX8_nameOf_49 ?_
        refine lv_icmp_ge (tgt := 60) hx hb dX8_nameOf_52 (by decide) (fun c_52 => ?_) (fun c_52 => ?_)
        · have n_52 : c13 ≤ kk := (nI_leI (a := c13) (b := kk) (by omega) (by omega)).mp c_52
          refine lv_iconst (v := (-1)) hx hb dX8_nameOf_60 (by decide) ?_
          exact W.iret (v := (-1)) hx hb hr (fun t ht hW => ⟨(-1), rfl, Or.inl ⟨rfl, by first | (exfalso; omega) | exact fun p hp => hp2 p (by omega)⟩, ht⟩) (fun _ h => absurd h List.not_mem_nil) dX8_nameOf_61
        · have n_52 : kk < c13 := Nat.not_le.mp (fun h9 => c_52 ((nI_leI (a := c13) (b := kk) (by omega) (by omega)).mpr h9))
          refine lv_iload hx hb dX8_nameOf_55 (lv_at hl 4 rfl) ?_
          refine lv_goto (tgt := 61) hx hb dX8_nameOf_57 (by decide) ?_
          exact W.iret (v := nI kk) hx hb hr (fun t ht hW => ⟨nI kk, rfl, Or.inr ⟨kk, rfl, by first | (exfalso; omega) | exact ⟨n_9, hb_34, hp2⟩⟩, ht⟩) (fun _ h => absurd h List.not_mem_nil) dX8_nameOf_61
      · subst hr_34
        refine lv_if_ne (tgt := 46) hx hb dX8_nameOf_37 (by decide) (fun c_37 => ?_) (fun c_37 => ?_)
        · exact absurd (by decide) c_37
        refine lv_iinc (v := nI (kk + 1)) (lv' := [(4, .int (nI (kk + 1))), (0, .ref h0), (1, .ref tx), (2, .int (nI s0)), (3, .int (nI mm))]) hx hb dX8_nameOf_40 hl (k := 4) rfl (nI_1 _) (by decide) rfl (fun ls hl => ?_)
        refine lv_goto (tgt := 3) hx hb dX8_nameOf_43 (by decide) ?_
        replace hl : lv_has ls 5 [(0, .ref h0), (1, .ref tx), (2, .int (nI s0)), (3, .int (nI mm)), (4, .int (nI (kk + 1)))] := lv_sub hl [1, 2, 3, 4, 0] rfl
        have hp29 : ∀ p, p < (kk + 1) → ¬ mW f lt s0 (mst mm) (24 * p) (lw p) := lt_s hp2 hb_34
        apply ih3 (kk := kk + 1) <;> first | assumption | omega

set_option maxHeartbeats 4000000 in
set_option maxRecDepth 100000 in
theorem g_X8_keywordAt (l : Launch) (dC : Nat → ClassId) (dI : Nat → Nat → Nat) (h0 : Nat) (x0 : Int32) (x1 : Int32) (m2 : Nat) (c3 : Nat) (m4 : Nat) (m5 : Nat) (m6 : Nat) (m7 : Nat) (m8 : Nat) (m9 : Nat) (m10 : Nat) (m11 : Nat) (c12 : Nat) (c13 : Nat) (c14 : Nat) (m15 : Nat) (m16 : Nat) (m17 : Nat) (m18 : Nat) (m19 : Nat) (c20 : Nat) (x21 : Int32) (c22 : Nat) (c23 : Nat) (m24 : Nat) (m25 : Nat) (c26 : Nat) (c27 : Nat) (x28 : Int32) (m29 : Nat) (m30 : Nat) (m31 : Nat) (m32 : Nat) (m33 : Nat) (m34 : Nat) (x35 : Int32) (m36 : Nat) (c37 : Nat) (tx : Nat) (s0 : Nat) (mm : Nat) (ktx : ClassId) (kll : ClassId) (klw : ClassId) (f : Nat → Int32) (lt : Nat → Nat) (lw : Nat → Nat) (hW : WOK lt lw c12 60) (hs : s0 + mm ≤ 600) : Met l yX8_keywordAt wsX8_keywordAt ({ frames := 2, cells := 0, slots := 0, locals := 47 }) (va_Pc [.ref h0, .ref tx, .int (nI s0), .int (nI mm)] (fun U => va_P (dC, dI) vwCl [(h0, .inr (8, [.int x0, .int x1, .ref m2, .int (nI c3), .ref m4, .ref m5, .ref m6, .ref m7, .ref m8, .ref m9, .ref m10, .ref m11, .int (nI c12), .int (nI c13), .int (nI c14), .ref m15, .ref m16, .ref m17, .ref m18, .ref m19, .int (nI c20), .int x21, .int (nI c22), .int (nI c23), .ref m24, .ref m25, .int (nI c26), .int (nI c27), .int x28, .ref m29, .ref m30, .ref m31, .ref m32, .ref m33, .ref m34, .int x35, .ref m36, .int (nI c37)])), (tx, .inl (ktx, 600, .inl f)), (m7, .inl (kll, 1440, .inl (nR lt))), (m9, .inl (klw, 60, .inl (nR lw)))] U.heap ∧ va_K (dC, dI) vwCl [(ktx, .byte), (kll, .byte), (klw, .int)] U)) (vp_Si (fun r => ((r = (-1) ∧ (∀ p, p < c12 → ¬ mW f lt s0 (mst mm) (24 * p) (lw p))) ∨ (∃ pp : Nat, r = nI pp ∧ (pp < c12 ∧ mW f lt s0 (mst mm) (24 * pp) (lw pp) ∧ ∀ p, p < pp → ¬ mW f lt s0 (mst mm) (24 * p) (lw p)))))) 0 0 (fun _ => False) := by
  refine Met.ofW (cc := cX8_keywordAt) (maxL := 5) (ret := (some .int)) (by decide) rfl ?_
  intro p e s m args below meth c s₁ B hml hv
  obtain ⟨rfl, hP, hK⟩ := hv
  have hx := B.exec
  have hb := B.bytes
  have hr := B.returns
  have hts := atoms_spec (ws := wsX8_keywordAt) B.pre
  have hown : s.vm.findClass RX8 = some m.cls := findClass_of_methodNamed B.named
  have hlocks := B.notSynchronized
  replace hP : va_P (dC, dI) vwCl [(h0, .inr (8, [.int x0, .int x1, .ref m2, .int (nI c3), .ref m4, .ref m5, .ref m6, .ref m7, .ref m8, .ref m9, .ref m10, .ref m11, .int (nI c12), .int (nI c13), .int (nI c14), .ref m15, .ref m16, .ref m17, .ref m18, .ref m19, .int (nI c20), .int x21, .int (nI c22), .int (nI c23), .ref m24, .ref m25, .int (nI c26), .int (nI c27), .int x28, .ref m29, .ref m30, .ref m31, .ref m32, .ref m33, .ref m34, .int x35, .ref m36, .int (nI c37)])), (tx, .inl (ktx, 600, .inl f)), (m7, .inl (kll, 1440, .inl (nR lt))), (m9, .inl (klw, 60, .inl (nR lw)))] s.heap := hP
  have hl := lv_entry ([.ref h0, .ref tx, .int (nI s0), .int (nI mm)]) (n := 5) (Nat.le_of_ble_eq_true rfl)
  rw [lg_entry_eq]
  generalize (lg_sl ([.ref h0, .ref tx, .int (nI s0), .int (nI mm)]) ++ List.replicate (5 - (lg_sl ([.ref h0, .ref tx, .int (nI s0), .int (nI mm)])).length) Slot.unset).toArray = ls at hl ⊢
  replace hl : lv_has ls 5 [(0, .ref h0), (1, .ref tx), (2, .int (nI s0)), (3, .int (nI mm))] := hl
  have hi_X8 : ∀ w ∈ wsX80, w ∈ wsX8_keywordAt := by decide +kernel
  have k_f130 := hts (.fieldLink RX8 130 "TongueTellerModel" "keywords" "I") (by decide +kernel)
  have k_f26 := hts (.fieldLink RX8 26 "TongueTellerModel" "keyword" "[B") (by decide +kernel)
  have k_f32 := hts (.fieldLink RX8 32 "TongueTellerModel" "keywordSize" "[I") (by decide +kernel)
  have hz9 := hW.1
  refine lv_iconst (v := 0) hx hb dX8_keywordAt_0 (by decide) ?_
  refine lv_istore (lv' := [(4, .int 0), (0, .ref h0), (1, .ref tx), (2, .int (nI s0)), (3, .int (nI mm))]) hx hb dX8_keywordAt_1 hl (by decide) rfl (fun ls hl => ?_)
  obtain ⟨kk, e_kk⟩ : ∃ y : Nat, y = 0 := ⟨_, rfl⟩
  replace hl : lv_has ls 5 [(0, .ref h0), (1, .ref tx), (2, .int (nI s0)), (3, .int (nI mm)), (4, .int (nI kk))] := by subst e_kk; exact lv_sub hl [1, 2, 3, 4, 0] rfl
  have hp1 : kk ≤ c12 := by subst e_kk; exact Nat.zero_le _
  have hp2 : ∀ p, p < kk → ¬ mW f lt s0 (mst mm) (24 * p) (lw p) := by subst e_kk; exact fun p hp => absurd hp (Nat.not_lt_zero p)
  clear e_kk
  obtain ⟨nn3, hnn3⟩ : ∃ q : Nat, c12 - kk < q := ⟨_, Nat.lt_succ_self _⟩
  induction nn3 generalizing kk ls with
  | zero => exact absurd hnn3 (Nat.not_lt_zero _)
  | succ nn3 ih3 =>
    refine lv_iload hx hb dX8_keywordAt_3 (lv_at hl 4 rfl) ?_
    refine lv_aload_n hx hb dX8_keywordAt_5 rfl (lv_at hl 0 rfl) ?_
    refine va_get (D := (dC, dI)) (ci := 8) (v := .int (nI c12)) (C := RX8) (T := TX8) (N := 38) hx hb hts hi_X8 hown hK hP 0 rfl rfl 12 (by decide) k_f130 (fun _ h9 => h9) rfl dX8_keywordAt_6 ?_
    refine lv_icmp_ge (tgt := 46) hx hb dX8_keywordAt_9 (by decide) (fun c_9 => ?_) (fun c_9 => ?_)
    · have n_9 : c12 ≤ kk := (nI_leI (a := c12) (b := kk) (by omega) (by omega)).mp c_9
      refine lv_iload hx hb dX8_keywordAt_46 (lv_at hl 4 rfl) ?_
      refine lv_aload_n hx hb dX8_keywordAt_48 rfl (lv_at hl 0 rfl) ?_
      refine va_get (D := (dC, dI)) (ci := 8) (v := .int (nI c12)) (C := RX8) (T := TX8) (N := 38) hx hb hts hi_X8 hown hK hP 0 rfl rfl 12 (by decide) k_f130 (fun _ h9 => h9) rfl dX8_keywordAt_49 ?_
      refine lv_icmp_ge (tgt := 60) hx hb dX8_keywordAt_52 (by decide) (fun c_52 => ?_) (fun c_52 => ?_)
      · have n_52 : c12 ≤ kk := (nI_leI (a := c12) (b := kk) (by omega) (by omega)).mp c_52
        refine lv_iconst (v := (-1)) hx hb dX8_keywordAt_60 (by decide) ?_
        exact W.iret (v := (-1)) hx hb hr (fun t ht hW => ⟨(-1), rfl, Or.inl ⟨rfl, by first | (exfalso; omega) | exact fun p hp => hp2 p (by omega)⟩, ht⟩) (fun _ h => absurd h List.not_mem_nil) dX8_keywordAt_61
      · have n_52 : kk < c12 := Nat.not_le.mp (fun h9 => c_52 ((nI_leI (a := c12) (b := kk) (by omega) (by omega)).mpr h9))
        refine lv_iload hx hb dX8_keywordAt_55 (lv_at hl 4 rfl) ?_
        refine lv_goto (tgt := 61) hx hb dX8_keywordAt_57 (by decide) ?_
        exact W.iret (v := nI kk) hx hb hr (fun t ht hW => ⟨nI kk, rfl, Or.inr ⟨kk, rfl, by first | (exfalso; omega) | exact ⟨n_9, hb_34, hp2⟩⟩, ht⟩) (fun _ h => absurd h List.not_mem_nil) dX8_keywordAt_61
    · have n_9 : kk < c12 := Nat.not_le.mp (fun h9 => c_9 ((nI_leI (a := c12) (b := kk) (by omega) (by omega)).mpr h9))
      have hl24 := hW.2.2 kk (by omega)
      have hmst := mst_le mm
      refine lv_aload_n hx hb dX8_keywordAt_12 rfl (lv_at hl 1 rfl) ?_
      refine lv_iload_n hx hb dX8_keywordAt_13 rfl (lv_at hl 2 rfl) ?_
      refine lv_iload_n hx hb dX8_keywordAt_14 rfl (lv_at hl 3 rfl) ?_
      refine vp_callSi (W.runS (As := [.int (nI mm)]) (rest := [.int (nI s0), .ref tx]) ⟨hx, hb, hml, hown, hts⟩ (g_X8_most l dC dI mm (by first | assumption | omega)) (va_cwS 1 hts gX8_keywordAt_X8_most rfl rfl rfl (by decide +kernel) ⟨Nat.le_of_ble_eq_true rfl, Nat.le_of_ble_eq_true rfl⟩) ⟨fun a U g mk q => q, fun U hU hW => ⟨rfl, trivial⟩⟩ rfl rfl hl.1 rfl (lv_room (Nat.le_of_ble_eq_true rfl)) dX8_keywordAt_15 ⟨Nat.le_of_ble_eq_true rfl, Nat.le_of_ble_eq_true rfl⟩) (fun r_15 hw_15 => ?_)
      have hr_15 := hw_15
      obtain rfl : nI (mst mm) = r_15 := Eq.symm hr_15
      refine lv_aload_n hx hb dX8_keywordAt_18 rfl (lv_at hl 0 rfl) ?_
      refine va_get (D := (dC, dI)) (ci := 8) (v := .ref m7) (C := RX8) (T := TX8) (N := 38) hx hb hts hi_X8 hown hK hP 0 rfl rfl 7 (by decide) k_f26 (fun _ h9 => h9) rfl dX8_keywordAt_19 ?_
      refine lv_bipush (v := 24) hx hb dX8_keywordAt_22 (by decide) ?_
      refine lv_iload hx hb dX8_keywordAt_24 (lv_at hl 4 rfl) ?_
      refine lv_imul hx hb dX8_keywordAt_26 ?_
      refine lv_topi (fun x_26 ex_26 => ?_)
      obtain rfl : nI (24 * kk) = x_26 := Eq.symm (ex_26.trans (pk_mul 24 kk))
      refine lv_aload_n hx hb dX8_keywordAt_27 rfl (lv_at hl 0 rfl) ?_
      refine va_get (D := (dC, dI)) (ci := 8) (v := .ref m9) (C := RX8) (T := TX8) (N := 38) hx hb hts hi_X8 hown hK hP 0 rfl rfl 9 (by decide) k_f32 (fun _ h9 => h9) rfl dX8_keywordAt_28 ?_
      refine lv_iload hx hb dX8_keywordAt_31 (lv_at hl 4 rfl) ?_
      refine va_iald hx hb hK hP 3 2 rfl rfl (i := nI kk) (vp_in_nI (by omega) (by omega)) dX8_keywordAt_33 ?_
      refine lv_topi (fun x_33 ex_33 => ?_)
      obtain rfl : nI (lw kk) = x_33 := Eq.symm (ex_33.trans (nR_at (by omega)))
      have hPc := hP.sub (ws' := [(tx, .inl (ktx, 600, .inl f)), (m7, .inl (kll, 1440, .inl (nR lt)))]) [1, 2] rfl
      have hKc := hK.sub (tys' := [(ktx, .byte), (kll, .byte)]) [0, 1] rfl
      refine vp_callSi (W.runS (As := [.ref tx, .int (nI s0), .int (nI (mst mm)), .ref m7, .int (nI (24 * kk)), .int (nI (lw kk))]) (rest := []) ⟨hx, hb, hml, hown, hts⟩ (g_X8_isSame l dC dI tx m7 s0 (mst mm) (24 * kk) (lw kk) 1440 ktx kll f lt (by omega) (by omega) (hW.hlt)) (va_cwS 6 hts gX8_keywordAt_X8_isSame rfl rfl rfl (by decide +kernel) ⟨Nat.le_of_ble_eq_true rfl, Nat.le_of_ble_eq_true rfl⟩) ⟨fun a U g mk q => by obtain ⟨q0, qP, qK⟩ := q; exact ⟨q0, qP, va_K.moved (u := U) (U := U.calling g mk a) (Vm.Alike.refl U.vm) qK⟩, fun U hU hW => ⟨rfl, by rw [hU]; exact hPc, va_K.moved hW.alike hKc⟩⟩ rfl rfl hl.1 rfl (lv_room (Nat.le_of_ble_eq_true rfl)) dX8_keywordAt_34 ⟨Nat.le_of_ble_eq_true rfl, Nat.le_of_ble_eq_true rfl⟩) (fun r_34 hw_34 => ?_)
      clear hPc
      rcases hw_34 with ⟨hr_34, hb_34⟩ | ⟨hr_34, hb_34⟩
      · subst hr_34
        refine lv_if_ne (tgt := 46) hx hb dX8_keywordAt_37 (by decide) (fun c_37 => ?_) (fun c_37 => ?_)
        rotate_left
        · exact absurd c_37 (by decide)
        refine lv_iload hx hb dX8_keywordAt_46 (lv_at hl 4 rfl) ?_
        refine lv_aload_n hx hb dX8_keywordAt_48 rfl (lv_at hl 0 rfl) ?_
        refine va_get (D := (dC, dI)) (ci := 8) (v := .int (nI c12)) (C := RX8) (T := TX8) (N := 38) hx hb hts hi_X8 hown hK hP 0 rfl rfl 12 (by decide) k_f130 (fun _ h9 => h9) rfl dX8_keywordAt_49 ?_
        refine lv_icmp_ge (tgt := 60) hx hb dX8_keywordAt_52 (by decide) (fun c_52 => ?_) (fun c_52 => ?_)
        · have n_52 : c12 ≤ kk := (nI_leI (a := c12) (b := kk) (by omega) (by omega)).mp c_52
          refine lv_iconst (v := (-1)) hx hb dX8_keywordAt_60 (by decide) ?_
          exact W.iret (v := (-1)) hx hb hr (fun t ht hW => ⟨(-1), rfl, Or.inl ⟨rfl, by first | (exfalso; omega) | exact fun p hp => hp2 p (by omega)⟩, ht⟩) (fun _ h => absurd h List.not_mem_nil) dX8_keywordAt_61
        · have n_52 : kk < c12 := Nat.not_le.mp (fun h9 => c_52 ((nI_leI (a := c12) (b := kk) (by omega) (by omega)).mpr h9))
          refine lv_iload hx hb dX8_keywordAt_55 (lv_at hl 4 rfl) ?_
          refine lv_goto (tgt := 61) hx hb dX8_keywordAt_57 (by decide) ?_
          exact W.iret (v := nI kk) hx hb hr (fun t ht hW => ⟨nI kk, rfl, Or.inr ⟨kk, rfl, by first | (exfalso; omega) | exact ⟨n_9, hb_34, hp2⟩⟩, ht⟩) (fun _ h => absurd h List.not_mem_nil) dX8_keywordAt_61
      · subst hr_34
        refine lv_if_ne (tgt := 46) hx hb dX8_keywordAt_37 (by decide) (fun c_37 => ?_) (fun c_37 => ?_)
        · exact absurd (by decide) c_37
        refine lv_iinc (v := nI (kk + 1)) (lv' := [(4, .int (nI (kk + 1))), (0, .ref h0), (1, .ref tx), (2, .int (nI s0)), (3, .int (nI mm))]) hx hb dX8_keywordAt_40 hl (k := 4) rfl (nI_1 _) (by decide) rfl (fun ls hl => ?_)
        refine lv_goto (tgt := 3) hx hb dX8_keywordAt_43 (by decide) ?_
        replace hl : lv_has ls 5 [(0, .ref h0), (1, .ref tx), (2, .int (nI s0)), (3, .int (nI mm)), (4, .int (nI (kk + 1)))] := lv_sub hl [1, 2, 3, 4, 0] rfl
        have hp29 : ∀ p, p < (kk + 1) → ¬ mW f lt s0 (mst mm) (24 * p) (lw p) := lt_s hp2 hb_34
        apply ih3 (kk := kk + 1) <;> first | assumption | omega

set_option maxHeartbeats 4000000 in
set_option maxRecDepth 100000 in
theorem g_X8_costOf (l : Launch) (dC : Nat → ClassId) (dI : Nat → Nat → Nat) (p0 : Int32) : Met l yX8_costOf wsX8_costOf ({ frames := 0, cells := 0, slots := 0, locals := 0 }) (va_Pc [.int p0] (fun _ => True)) (vp_Si (fun r => r = nI (cost1 p0))) 0 0 (fun _ => False) := by
  refine Met.ofW (cc := cX8_costOf) (maxL := 3) (ret := (some .int)) (by decide) rfl ?_
  intro p e s m args below meth c s₁ B hml hv
  obtain ⟨rfl, -⟩ := hv
  have hx := B.exec
  have hb := B.bytes
  have hr := B.returns
  have hts := atoms_spec (ws := wsX8_costOf) B.pre
  have hown : s.vm.findClass RX8 = some m.cls := findClass_of_methodNamed B.named
  have hlocks := B.notSynchronized
  have hl := lv_entry ([.int p0]) (n := 3) (Nat.le_of_ble_eq_true rfl)
  rw [lg_entry_eq]
  generalize (lg_sl ([.int p0]) ++ List.replicate (3 - (lg_sl ([.int p0])).length) Slot.unset).toArray = ls at hl ⊢
  replace hl : lv_has ls 3 [(0, .int p0)] := hl
  refine lv_bipush (v := 100) hx hb dX8_costOf_0 (by decide) ?_
  refine lv_istore_n (lv' := [(1, .int 100), (0, .int p0)]) hx hb dX8_costOf_2 rfl hl (by decide) rfl (fun ls hl => ?_)
  refine lv_iload_n hx hb dX8_costOf_3 rfl (lv_at hl 1 rfl) ?_
  refine lv_istore_n (lv' := [(2, .int p0), (1, .int 100), (0, .int p0)]) hx hb dX8_costOf_4 rfl hl (by decide) rfl (fun ls hl => ?_)
  obtain ⟨fu, e_fu⟩ : ∃ y : Nat, y = 6 := ⟨_, rfl⟩
  obtain ⟨lf, e_lf⟩ : ∃ y : Nat, y = 100 := ⟨_, rfl⟩
  obtain ⟨xx, e_xx⟩ : ∃ y : Int32, y = p0 := ⟨_, rfl⟩
  replace hl : lv_has ls 3 [(1, .int (nI lf)), (2, .int xx)] := by subst e_fu; subst e_lf; subst e_xx; exact lv_sub hl [1, 0] rfl
  have hf1 : lf + 20 ≤ 20 * fu := by subst e_fu; subst e_lf; subst e_xx; omega
  have hf2 : lf ≤ 100 := by subst e_fu; subst e_lf; subst e_xx; omega
  have hf4 : lf % 20 = 0 := by subst e_fu; subst e_lf; subst e_xx; rfl
  have hf3 : cp fu lf xx = cost1 p0 := by subst e_fu; subst e_lf; subst e_xx; rfl
  clear e_fu e_lf e_xx
  obtain ⟨nn5, hnn5⟩ : ∃ q : Nat, fu < q := ⟨_, Nat.lt_succ_self _⟩
  induction nn5 generalizing fu lf xx ls with
  | zero => exact absurd hnn5 (Nat.not_lt_zero _)
  | succ nn5 ih5 =>
    refine lv_iload_n hx hb dX8_costOf_5 rfl (lv_at hl 1 rfl) ?_
    refine lv_if_le (tgt := 23) hx hb dX8_costOf_6 (by decide) (fun c_6 => ?_) (fun c_6 => ?_)
    · refine lv_iload_n hx hb dX8_costOf_23 rfl (lv_at hl 0 rfl) ?_
      exact W.iret (v := nI lf) hx hb hr (fun t ht hW => ⟨nI lf, rfl, by rw [← hf3, cp_n (Or.inl c_6)], ht⟩) (fun _ h => absurd h List.not_mem_nil) dX8_costOf_24
    · refine lv_iload_n hx hb dX8_costOf_9 rfl (lv_at hl 0 rfl) ?_
      refine lv_if_le (tgt := 23) hx hb dX8_costOf_10 (by decide) (fun c_10 => ?_) (fun c_10 => ?_)
      · have n_10 : lf ≤ 0 := (nI_leI (a := lf) (b := 0) (by omega) (by omega)).mp c_10
        refine lv_iload_n hx hb dX8_costOf_23 rfl (lv_at hl 0 rfl) ?_
        exact W.iret (v := nI lf) hx hb hr (fun t ht hW => ⟨nI lf, rfl, by rw [← hf3, cp_n (Or.inr n_10)], ht⟩) (fun _ h => absurd h List.not_mem_nil) dX8_costOf_24
      · have n_10 : 0 < lf := Nat.not_le.mp (fun h9 => c_10 ((nI_leI (a := lf) (b := 0) (by omega) (by omega)).mpr h9))
        refine lv_iinc (v := nI (lf - 20)) (lv' := [(1, .int (nI (lf - 20))), (2, .int xx)]) hx hb dX8_costOf_13 hl (k := 0) rfl (nI_sub20 (by omega)) (by decide) rfl (fun ls hl => ?_)
        refine lv_iload_n hx hb dX8_costOf_16 rfl (lv_at hl 1 rfl) ?_
        refine lv_iconst (v := 1) hx hb dX8_costOf_17 (by decide) ?_
        refine lv_ishr hx hb dX8_costOf_18 ?_
        refine lv_istore_n (lv' := [(2, .int (xx >>> (1 &&& 31))), (1, .int (nI (lf - 20)))]) hx hb dX8_costOf_19 rfl hl (by decide) rfl (fun ls hl => ?_)
        refine lv_goto (tgt := 5) hx hb dX8_costOf_20 (by decide) ?_
        replace hl : lv_has ls 3 [(1, .int (nI (lf - 20))), (2, .int (xx >>> (1 &&& 31)))] := lv_sub hl [1, 0] rfl
        have hf39 : cp (fu - 1) (lf - 20) (xx >>> (1 &&& 31)) = cost1 p0 := (cp_y (by omega) c_6 n_10).symm.trans hf3
        apply ih5 (fu := fu - 1) (lf := lf - 20) (xx := xx >>> (1 &&& 31)) <;> first | assumption | omega

set_option maxHeartbeats 4000000 in
set_option maxRecDepth 100000 in
theorem g_X8_cuts (l : Launch) (dC : Nat → ClassId) (dI : Nat → Nat → Nat) (h0 : Nat) (x0 : Int32) (x1 : Int32) (m2 : Nat) (c3 : Nat) (m4 : Nat) (m5 : Nat) (m6 : Nat) (m7 : Nat) (m8 : Nat) (m9 : Nat) (m10 : Nat) (m11 : Nat) (c12 : Nat) (c13 : Nat) (c14 : Nat) (m15 : Nat) (m16 : Nat) (m17 : Nat) (m18 : Nat) (m19 : Nat) (c20 : Nat) (x21 : Int32) (c22 : Nat) (c23 : Nat) (m24 : Nat) (m25 : Nat) (c26 : Nat) (c27 : Nat) (x28 : Int32) (m29 : Nat) (m30 : Nat) (m31 : Nat) (m32 : Nat) (m33 : Nat) (m34 : Nat) (x35 : Int32) (m36 : Nat) (c37 : Nat) (ktx : ClassId) (kbg : ClassId) (kby : ClassId) (kmk : ClassId) (fx8 : Nat → Int32) (bb : Nat → Nat) (by_ : Nat → Nat) (mk : Nat → Nat) (sz : Nat) (hsz : c26 ≤ 600) : Met l yX8_cuts wsX8_cuts ({ frames := 2, cells := 0, slots := 0, locals := 47 }) (va_Pc [.ref h0] (fun U => U.heap.size = sz ∧ va_P (dC, dI) vwCl [(h0, .inr (8, [.int x0, .int x1, .ref m2, .int (nI c3), .ref m4, .ref m5, .ref m6, .ref m7, .ref m8, .ref m9, .ref m10, .ref m11, .int (nI c12), .int (nI c13), .int (nI c14), .ref m15, .ref m16, .ref m17, .ref m18, .ref m19, .int (nI c20), .int x21, .int (nI c22), .int (nI c23), .ref m24, .ref m25, .int (nI c26), .int (nI c27), .int x28, .ref m29, .ref m30, .ref m31, .ref m32, .ref m33, .ref m34, .int x35, .ref m36, .int (nI c37)])), (m24, .inl (ktx, 600, .inl fx8)), (m4, .inl (kbg, 60, .inl (nR bb))), (m5, .inl (kby, 60, .inl (nR by_))), (m6, .inl (kmk, 60, .inl (nR mk)))] U.heap ∧ va_K (dC, dI) vwCl [(ktx, .byte), (kbg, .int), (kby, .int), (kmk, .boolean)] U ∧ va_D (fun _ => True) [(h0, .inr (8, [.int x0, .int x1, .ref m2, .int (nI c3), .ref m4, .ref m5, .ref m6, .ref m7, .ref m8, .ref m9, .ref m10, .ref m11, .int (nI c12), .int (nI c13), .int (nI c14), .ref m15, .ref m16, .ref m17, .ref m18, .ref m19, .int (nI c20), .int x21, .int (nI c22), .int (nI c23), .ref m24, .ref m25, .int (nI c26), .int (nI c27), .int x28, .ref m29, .ref m30, .ref m31, .ref m32, .ref m33, .ref m34, .int x35, .ref m36, .int (nI c37)])), (m24, .inl (ktx, 600, .inl fx8)), (m4, .inl (kbg, 60, .inl (nR bb))), (m5, .inl (kby, 60, .inl (nR by_))), (m6, .inl (kmk, 60, .inl (nR mk)))])) (va_Qv (fun (u : (Nat → Nat) × (Nat → Nat) × (Nat → Nat)) => match u with | (bo, yo, ko) => (okC (gm fx8) bo yo ko c26 c26)) (fun (u : (Nat → Nat) × (Nat → Nat) × (Nat → Nat)) (t : State) => match u with | (bo, yo, ko) => va_P (dC, dI) vwCl [(h0, .inr (8, [.int x0, .int x1, .ref m2, .int (nI c3), .ref m4, .ref m5, .ref m6, .ref m7, .ref m8, .ref m9, .ref m10, .ref m11, .int (nI c12), .int (nI c13), .int (nI c14), .ref m15, .ref m16, .ref m17, .ref m18, .ref m19, .int (nI c20), .int x21, .int (nI c22), .int (nI c23), .ref m24, .ref m25, .int (nI c26), .int (nI c27), .int x28, .ref m29, .ref m30, .ref m31, .ref m32, .ref m33, .ref m34, .int x35, .ref m36, .int (nI c37)])), (m24, .inl (ktx, 600, .inl fx8)), (m4, .inl (kbg, 60, .inl (nR bo))), (m5, .inl (kby, 60, .inl (nR yo))), (m6, .inl (kmk, 60, .inl (nR ko)))] t.heap ∧ va_D (va_A [(h0, .inr (8, [.int x0, .int x1, .ref m2, .int (nI c3), .ref m4, .ref m5, .ref m6, .ref m7, .ref m8, .ref m9, .ref m10, .ref m11, .int (nI c12), .int (nI c13), .int (nI c14), .ref m15, .ref m16, .ref m17, .ref m18, .ref m19, .int (nI c20), .int x21, .int (nI c22), .int (nI c23), .ref m24, .ref m25, .int (nI c26), .int (nI c27), .int x28, .ref m29, .ref m30, .ref m31, .ref m32, .ref m33, .ref m34, .int x35, .ref m36, .int (nI c37)])), (m24, .inl (ktx, 600, .inl fx8)), (m4, .inl (kbg, 60, .inl (nR bb))), (m5, .inl (kby, 60, .inl (nR by_))), (m6, .inl (kmk, 60, .inl (nR mk)))] sz) [(h0, .inr (8, [.int x0, .int x1, .ref m2, .int (nI c3), .ref m4, .ref m5, .ref m6, .ref m7, .ref m8, .ref m9, .ref m10, .ref m11, .int (nI c12), .int (nI c13), .int (nI c14), .ref m15, .ref m16, .ref m17, .ref m18, .ref m19, .int (nI c20), .int x21, .int (nI c22), .int (nI c23), .ref m24, .ref m25, .int (nI c26), .int (nI c27), .int x28, .ref m29, .ref m30, .ref m31, .ref m32, .ref m33, .ref m34, .int x35, .ref m36, .int (nI c37)])), (m24, .inl (ktx, 600, .inl fx8)), (m4, .inl (kbg, 60, .inl (nR bo))), (m5, .inl (kby, 60, .inl (nR yo))), (m6, .inl (kmk, 60, .inl (nR ko)))]) (va_A [(h0, .inr (8, [.int x0, .int x1, .ref m2, .int (nI c3), .ref m4, .ref m5, .ref m6, .ref m7, .ref m8, .ref m9, .ref m10, .ref m11, .int (nI c12), .int (nI c13), .int (nI c14), .ref m15, .ref m16, .ref m17, .ref m18, .ref m19, .int (nI c20), .int x21, .int (nI c22), .int (nI c23), .ref m24, .ref m25, .int (nI c26), .int (nI c27), .int x28, .ref m29, .ref m30, .ref m31, .ref m32, .ref m33, .ref m34, .int x35, .ref m36, .int (nI c37)])), (m24, .inl (ktx, 600, .inl fx8)), (m4, .inl (kbg, 60, .inl (nR bb))), (m5, .inl (kby, 60, .inl (nR by_))), (m6, .inl (kmk, 60, .inl (nR mk)))] sz)) 0 0 (va_A [(h0, .inr (8, [.int x0, .int x1, .ref m2, .int (nI c3), .ref m4, .ref m5, .ref m6, .ref m7, .ref m8, .ref m9, .ref m10, .ref m11, .int (nI c12), .int (nI c13), .int (nI c14), .ref m15, .ref m16, .ref m17, .ref m18, .ref m19, .int (nI c20), .int x21, .int (nI c22), .int (nI c23), .ref m24, .ref m25, .int (nI c26), .int (nI c27), .int x28, .ref m29, .ref m30, .ref m31, .ref m32, .ref m33, .ref m34, .int x35, .ref m36, .int (nI c37)])), (m24, .inl (ktx, 600, .inl fx8)), (m4, .inl (kbg, 60, .inl (nR bb))), (m5, .inl (kby, 60, .inl (nR by_))), (m6, .inl (kmk, 60, .inl (nR mk)))] sz) := by
  refine Met.ofW (cc := cX8_cuts) (maxL := 2) (ret := none) (by decide) rfl ?_
  intro p e s m args below meth c s₁ B hml hv
  obtain ⟨rfl, hsz, hP, hK, hD0⟩ := hv
  have hx := B.exec
  have hb := B.bytes
  have hr := B.returns
  have hts := atoms_spec (ws := wsX8_cuts) B.pre
  have hown : s.vm.findClass RX8 = some m.cls := findClass_of_methodNamed B.named
  have hlocks := B.notSynchronized
  subst hsz
  have hD := hD0.self (sz := s.heap.size)
  clear hD0
  generalize hAe : va_A [(h0, .inr (8, [.int x0, .int x1, .ref m2, .int (nI c3), .ref m4, .ref m5, .ref m6, .ref m7, .ref m8, .ref m9, .ref m10, .ref m11, .int (nI c12), .int (nI c13), .int (nI c14), .ref m15, .ref m16, .ref m17, .ref m18, .ref m19, .int (nI c20), .int x21, .int (nI c22), .int (nI c23), .ref m24, .ref m25, .int (nI c26), .int (nI c27), .int x28, .ref m29, .ref m30, .ref m31, .ref m32, .ref m33, .ref m34, .int x35, .ref m36, .int (nI c37)])), (m24, .inl (ktx, 600, .inl fx8)), (m4, .inl (kbg, 60, .inl (nR bb))), (m5, .inl (kby, 60, .inl (nR by_))), (m6, .inl (kmk, 60, .inl (nR mk)))] s.heap.size = A at hD ⊢
  have hA : ∀ q : Nat, s.heap.size ≤ q → A q := fun q h => by rw [← hAe]; exact Or.inr h
  clear hAe
  have hS : va_S A s.heap s.heap [] := va_S.rf
  replace hP : va_P (dC, dI) vwCl [(h0, .inr (8, [.int x0, .int x1, .ref m2, .int (nI c3), .ref m4, .ref m5, .ref m6, .ref m7, .ref m8, .ref m9, .ref m10, .ref m11, .int (nI c12), .int (nI c13), .int (nI c14), .ref m15, .ref m16, .ref m17, .ref m18, .ref m19, .int (nI c20), .int x21, .int (nI c22), .int (nI c23), .ref m24, .ref m25, .int (nI c26), .int (nI c27), .int x28, .ref m29, .ref m30, .ref m31, .ref m32, .ref m33, .ref m34, .int x35, .ref m36, .int (nI c37)])), (m24, .inl (ktx, 600, .inl fx8)), (m4, .inl (kbg, 60, .inl (nR bb))), (m5, .inl (kby, 60, .inl (nR by_))), (m6, .inl (kmk, 60, .inl (nR mk)))] s.heap := hP
  have hl := lv_entry ([.ref h0]) (n := 2) (Nat.le_of_ble_eq_true rfl)
  rw [lg_entry_eq]
  generalize (lg_sl ([.ref h0]) ++ List.replicate (2 - (lg_sl ([.ref h0])).length) Slot.unset).toArray = ls at hl ⊢
  replace hl : lv_has ls 2 [(0, .ref h0)] := hl
  have hi_X8 : ∀ w ∈ wsX80, w ∈ wsX8_cuts := by decide +kernel
  have k_f65 := hts (.fieldLink RX8 65 "TongueTellerModel" "text" "[B") (by decide +kernel)
  have k_f172 := hts (.fieldLink RX8 172 "TongueTellerModel" "size" "I") (by decide +kernel)
  refine lv_aload_n hx hb dX8_cuts_0 rfl (lv_at hl 0 rfl) ?_
  refine lv_aload_n hx hb dX8_cuts_1 rfl (lv_at hl 0 rfl) ?_
  refine va_get (D := (dC, dI)) (ci := 8) (v := .ref m24) (C := RX8) (T := TX8) (N := 38) hx hb hts hi_X8 hown hK hP 0 rfl rfl 24 (by decide) k_f65 (fun _ h9 => h9) rfl dX8_cuts_2 ?_
  refine lv_aload_n hx hb dX8_cuts_5 rfl (lv_at hl 0 rfl) ?_
  refine va_get (D := (dC, dI)) (ci := 8) (v := .int (nI c26)) (C := RX8) (T := TX8) (N := 38) hx hb hts hi_X8 hown hK hP 0 rfl rfl 26 (by decide) k_f172 (fun _ h9 => h9) rfl dX8_cuts_6 ?_
  have hPc := hP.sub (ws' := [(h0, .inr (8, [.int x0, .int x1, .ref m2, .int (nI c3), .ref m4, .ref m5, .ref m6, .ref m7, .ref m8, .ref m9, .ref m10, .ref m11, .int (nI c12), .int (nI c13), .int (nI c14), .ref m15, .ref m16, .ref m17, .ref m18, .ref m19, .int (nI c20), .int x21, .int (nI c22), .int (nI c23), .ref m24, .ref m25, .int (nI c26), .int (nI c27), .int x28, .ref m29, .ref m30, .ref m31, .ref m32, .ref m33, .ref m34, .int x35, .ref m36, .int (nI c37)])), (m24, .inl (ktx, 600, .inl fx8)), (m4, .inl (kbg, 60, .inl (nR bb))), (m5, .inl (kby, 60, .inl (nR by_))), (m6, .inl (kmk, 60, .inl (nR mk)))]) [0, 1, 2, 3, 4] rfl
  have hDc := hD.sub (ws' := [(h0, .inr (8, [.int x0, .int x1, .ref m2, .int (nI c3), .ref m4, .ref m5, .ref m6, .ref m7, .ref m8, .ref m9, .ref m10, .ref m11, .int (nI c12), .int (nI c13), .int (nI c14), .ref m15, .ref m16, .ref m17, .ref m18, .ref m19, .int (nI c20), .int x21, .int (nI c22), .int (nI c23), .ref m24, .ref m25, .int (nI c26), .int (nI c27), .int x28, .ref m29, .ref m30, .ref m31, .ref m32, .ref m33, .ref m34, .int x35, .ref m36, .int (nI c37)])), (m24, .inl (ktx, 600, .inl fx8)), (m4, .inl (kbg, 60, .inl (nR bb))), (m5, .inl (kby, 60, .inl (nR by_))), (m6, .inl (kmk, 60, .inl (nR mk)))]) [0, 1, 2, 3, 4] (by decide) rfl
  have hKc := hK.sub (tys' := [(ktx, .byte), (kbg, .int), (kby, .int), (kmk, .boolean)]) [0, 1, 2, 3] rfl
  have hFc := va_free (wc := [(h0, .inr (8, [.int x0, .int x1, .ref m2, .int (nI c3), .ref m4, .ref m5, .ref m6, .ref m7, .ref m8, .ref m9, .ref m10, .ref m11, .int (nI c12), .int (nI c13), .int (nI c14), .ref m15, .ref m16, .ref m17, .ref m18, .ref m19, .int (nI c20), .int x21, .int (nI c22), .int (nI c23), .ref m24, .ref m25, .int (nI c26), .int (nI c27), .int x28, .ref m29, .ref m30, .ref m31, .ref m32, .ref m33, .ref m34, .int x35, .ref m36, .int (nI c37)])), (m24, .inl (ktx, 600, .inl fx8)), (m4, .inl (kbg, 60, .inl (nR bb))), (m5, .inl (kby, 60, .inl (nR by_))), (m6, .inl (kmk, 60, .inl (nR mk)))]) hD hS hA [0, 1, 2, 3, 4] rfl
  refine va_calli (va_runV (As := [.ref m24, .int (nI c26)]) (rest := []) ⟨hx, hb, hml, hown, hts⟩ (g_X8_cut l dC dI h0 x0 x1 m2 c3 m4 m5 m6 m7 m8 m9 m10 m11 c12 c13 c14 m15 m16 m17 m18 m19 c20 x21 c22 c23 m24 m25 c26 c27 x28 m29 m30 m31 m32 m33 m34 x35 m36 c37 m24 ktx kbg kby kmk fx8 bb by_ mk c26 s.heap.size (by first | assumption | omega)) (cwV 2 hts gX8_cuts_X8_cut rfl rfl rfl (by decide +kernel) ⟨Nat.le_of_ble_eq_true rfl, Nat.le_of_ble_eq_true rfl⟩) ⟨fun a U g mk q => by obtain ⟨q0, q1, qP, qK, qD⟩ := q; exact ⟨q0, q1, qP, va_K.moved (u := U) (U := U.calling g mk a) (Vm.Alike.refl U.vm) qK, qD⟩, va_recv hK hP (ci := 8) (q0 := 0) rfl rfl, fun U hU hW => ⟨rfl, by rw [hU], by rw [hU]; exact hPc, va_K.moved hW.alike hKc, hDc.weaken (fun _ _ _ _ => trivial)⟩⟩ rfl rfl hl.1 rfl (lv_room (Nat.le_of_ble_eq_true rfl)) dX8_cuts_9 ⟨Nat.le_of_ble_eq_true rfl, Nat.le_of_ble_eq_true rfl⟩) hS (fun q _ h => hFc q h) hFc (fun r_9 u t H1 locs ht hvm hw_9 hB hz1 hk1 hS => ?_)
  obtain ⟨bo_9, yo_9, ko_9⟩ := u
  try dsimp only at hw_9 hB
  obtain ⟨hP1, hD1⟩ := hB
  rw [ht] at hP1
  obtain ⟨hP, hD⟩ := va_join (wr := []) (w1 := [(h0, .inr (8, [.int x0, .int x1, .ref m2, .int (nI c3), .ref m4, .ref m5, .ref m6, .ref m7, .ref m8, .ref m9, .ref m10, .ref m11, .int (nI c12), .int (nI c13), .int (nI c14), .ref m15, .ref m16, .ref m17, .ref m18, .ref m19, .int (nI c20), .int x21, .int (nI c22), .int (nI c23), .ref m24, .ref m25, .int (nI c26), .int (nI c27), .int x28, .ref m29, .ref m30, .ref m31, .ref m32, .ref m33, .ref m34, .int x35, .ref m36, .int (nI c37)])), (m24, .inl (ktx, 600, .inl fx8)), (m4, .inl (kbg, 60, .inl (nR bo_9))), (m5, .inl (kby, 60, .inl (nR yo_9))), (m6, .inl (kmk, 60, .inl (nR ko_9)))]) hP hD [0, 1, 2, 3, 4] [] rfl rfl (by decide) (by decide) hk1 hFc hP1 hD1
  generalize H1 = H at hP hS ⊢
  replace hP : va_P (dC, dI) vwCl [(h0, .inr (8, [.int x0, .int x1, .ref m2, .int (nI c3), .ref m4, .ref m5, .ref m6, .ref m7, .ref m8, .ref m9, .ref m10, .ref m11, .int (nI c12), .int (nI c13), .int (nI c14), .ref m15, .ref m16, .ref m17, .ref m18, .ref m19, .int (nI c20), .int x21, .int (nI c22), .int (nI c23), .ref m24, .ref m25, .int (nI c26), .int (nI c27), .int x28, .ref m29, .ref m30, .ref m31, .ref m32, .ref m33, .ref m34, .int x35, .ref m36, .int (nI c37)])), (m24, .inl (ktx, 600, .inl fx8)), (m4, .inl (kbg, 60, .inl (nR bo_9))), (m5, .inl (kby, 60, .inl (nR yo_9))), (m6, .inl (kmk, 60, .inl (nR ko_9)))] H := hP
  replace hD : va_D A [(h0, .inr (8, [.int x0, .int x1, .ref m2, .int (nI c3), .ref m4, .ref m5, .ref m6, .ref m7, .ref m8, .ref m9, .ref m10, .ref m11, .int (nI c12), .int (nI c13), .int (nI c14), .ref m15, .ref m16, .ref m17, .ref m18, .ref m19, .int (nI c20), .int x21, .int (nI c22), .int (nI c23), .ref m24, .ref m25, .int (nI c26), .int (nI c27), .int x28, .ref m29, .ref m30, .ref m31, .ref m32, .ref m33, .ref m34, .int x35, .ref m36, .int (nI c37)])), (m24, .inl (ktx, 600, .inl fx8)), (m4, .inl (kbg, 60, .inl (nR bo_9))), (m5, .inl (kby, 60, .inl (nR yo_9))), (m6, .inl (kmk, 60, .inl (nR ko_9)))] := hD
  obtain ⟨hr_9, hct_9, hcz_9⟩ := hw_9
  obtain rfl : nI (cB (gm fx8) c26) = r_9 := Eq.symm hr_9
  refine lv_istore_n (lv' := [(1, .int (nI (cB (gm fx8) c26))), (0, .ref h0)]) hx hb dX8_cuts_12 rfl hl (by decide) rfl (fun ls hl => ?_)
  have hP9 := hP.sub (ws' := [(h0, .inr (8, [.int x0, .int x1, .ref m2, .int (nI c3), .ref m4, .ref m5, .ref m6, .ref m7, .ref m8, .ref m9, .ref m10, .ref m11, .int (nI c12), .int (nI c13), .int (nI c14), .ref m15, .ref m16, .ref m17, .ref m18, .ref m19, .int (nI c20), .int x21, .int (nI c22), .int (nI c23), .ref m24, .ref m25, .int (nI c26), .int (nI c27), .int x28, .ref m29, .ref m30, .ref m31, .ref m32, .ref m33, .ref m34, .int x35, .ref m36, .int (nI c37)])), (m24, .inl (ktx, 600, .inl fx8)), (m4, .inl (kbg, 60, .inl (nR bo_9))), (m5, .inl (kby, 60, .inl (nR yo_9))), (m6, .inl (kmk, 60, .inl (nR ko_9)))]) [0, 1, 2, 3, 4] rfl
  have hD9 := hD.sub (ws' := [(h0, .inr (8, [.int x0, .int x1, .ref m2, .int (nI c3), .ref m4, .ref m5, .ref m6, .ref m7, .ref m8, .ref m9, .ref m10, .ref m11, .int (nI c12), .int (nI c13), .int (nI c14), .ref m15, .ref m16, .ref m17, .ref m18, .ref m19, .int (nI c20), .int x21, .int (nI c22), .int (nI c23), .ref m24, .ref m25, .int (nI c26), .int (nI c27), .int x28, .ref m29, .ref m30, .ref m31, .ref m32, .ref m33, .ref m34, .int x35, .ref m36, .int (nI c37)])), (m24, .inl (ktx, 600, .inl fx8)), (m4, .inl (kbg, 60, .inl (nR bo_9))), (m5, .inl (kby, 60, .inl (nR yo_9))), (m6, .inl (kmk, 60, .inl (nR ko_9)))]) [0, 1, 2, 3, 4] (by decide) rfl
  exact W.vret hx hb hr (fun t ht hW => ⟨⟨(bo_9, yo_9, ko_9), rfl, by exact hct_9, by rw [ht]; exact hP9, hD9⟩, hS.F ht⟩) hS.2.2 dX8_cuts_13
