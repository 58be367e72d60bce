set_option maxHeartbeats 4000000 in
set_option maxRecDepth 100000 in
theorem g_X8_cut (l : Launch) (dC : Nat → ClassId) (dI : Nat → Nat → Nat) (h0 : Nat) (x0 : Int32) (x1 : Int32) (m2 : Nat) (c3 : Nat) (m4 : Nat) (m5 : Nat) (m6 : Nat) (m7 : Nat) (m8 : Nat) (m9 : Nat) (m10 : Nat) (m11 : Nat) (c12 : Nat) (c13 : Nat) (c14 : Nat) (m15 : Nat) (m16 : Nat) (m17 : Nat) (m18 : Nat) (m19 : Nat) (c20 : Nat) (x21 : Int32) (c22 : Nat) (c23 : Nat) (m24 : Nat) (m25 : Nat) (c26 : Nat) (c27 : Nat) (x28 : Int32) (m29 : Nat) (m30 : Nat) (m31 : Nat) (m32 : Nat) (m33 : Nat) (m34 : Nat) (x35 : Int32) (m36 : Nat) (c37 : Nat) (tx : Nat) (ktx : ClassId) (kbg : ClassId) (kby : ClassId) (kmk : ClassId) (f : Nat → Int32) (bb : Nat → Nat) (by_ : Nat → Nat) (mk : Nat → Nat) (zz : Nat) (sz : Nat) (hsz : zz ≤ 600) : Met l yX8_cut wsX8_cut ({ frames := 1, cells := 0, slots := 0, locals := 20 }) (va_Pc [.ref h0, .ref tx, .int (nI zz)] (fun U => U.heap.size = sz ∧ va_P (dC, dI) vwCl [(h0, .inr (8, [.int x0, .int x1, .ref m2, .int (nI c3), .ref m4, .ref m5, .ref m6, .ref m7, .ref m8, .ref m9, .ref m10, .ref m11, .int (nI c12), .int (nI c13), .int (nI c14), .ref m15, .ref m16, .ref m17, .ref m18, .ref m19, .int (nI c20), .int x21, .int (nI c22), .int (nI c23), .ref m24, .ref m25, .int (nI c26), .int (nI c27), .int x28, .ref m29, .ref m30, .ref m31, .ref m32, .ref m33, .ref m34, .int x35, .ref m36, .int (nI c37)])), (tx, .inl (ktx, 600, .inl f)), (m4, .inl (kbg, 60, .inl (nR bb))), (m5, .inl (kby, 60, .inl (nR by_))), (m6, .inl (kmk, 60, .inl (nR mk)))] U.heap ∧ va_K (dC, dI) vwCl [(ktx, .byte), (kbg, .int), (kby, .int), (kmk, .boolean)] U ∧ va_D (fun _ => True) [(h0, .inr (8, [.int x0, .int x1, .ref m2, .int (nI c3), .ref m4, .ref m5, .ref m6, .ref m7, .ref m8, .ref m9, .ref m10, .ref m11, .int (nI c12), .int (nI c13), .int (nI c14), .ref m15, .ref m16, .ref m17, .ref m18, .ref m19, .int (nI c20), .int x21, .int (nI c22), .int (nI c23), .ref m24, .ref m25, .int (nI c26), .int (nI c27), .int x28, .ref m29, .ref m30, .ref m31, .ref m32, .ref m33, .ref m34, .int x35, .ref m36, .int (nI c37)])), (tx, .inl (ktx, 600, .inl f)), (m4, .inl (kbg, 60, .inl (nR bb))), (m5, .inl (kby, 60, .inl (nR by_))), (m6, .inl (kmk, 60, .inl (nR mk)))])) (va_Qi (fun (r : Int32) (u : (Nat → Nat) × (Nat → Nat) × (Nat → Nat)) => match u with | (bo, yo, ko) => r = nI (cB (gm f) zz) ∧ (okC (gm f) bo yo ko zz zz) ∧ (cB (gm f) zz ≤ 600)) (fun (u : (Nat → Nat) × (Nat → Nat) × (Nat → Nat)) (t : State) => match u with | (bo, yo, ko) => va_P (dC, dI) vwCl [(h0, .inr (8, [.int x0, .int x1, .ref m2, .int (nI c3), .ref m4, .ref m5, .ref m6, .ref m7, .ref m8, .ref m9, .ref m10, .ref m11, .int (nI c12), .int (nI c13), .int (nI c14), .ref m15, .ref m16, .ref m17, .ref m18, .ref m19, .int (nI c20), .int x21, .int (nI c22), .int (nI c23), .ref m24, .ref m25, .int (nI c26), .int (nI c27), .int x28, .ref m29, .ref m30, .ref m31, .ref m32, .ref m33, .ref m34, .int x35, .ref m36, .int (nI c37)])), (tx, .inl (ktx, 600, .inl f)), (m4, .inl (kbg, 60, .inl (nR bo))), (m5, .inl (kby, 60, .inl (nR yo))), (m6, .inl (kmk, 60, .inl (nR ko)))] t.heap ∧ va_D (va_A [(h0, .inr (8, [.int x0, .int x1, .ref m2, .int (nI c3), .ref m4, .ref m5, .ref m6, .ref m7, .ref m8, .ref m9, .ref m10, .ref m11, .int (nI c12), .int (nI c13), .int (nI c14), .ref m15, .ref m16, .ref m17, .ref m18, .ref m19, .int (nI c20), .int x21, .int (nI c22), .int (nI c23), .ref m24, .ref m25, .int (nI c26), .int (nI c27), .int x28, .ref m29, .ref m30, .ref m31, .ref m32, .ref m33, .ref m34, .int x35, .ref m36, .int (nI c37)])), (tx, .inl (ktx, 600, .inl f)), (m4, .inl (kbg, 60, .inl (nR bb))), (m5, .inl (kby, 60, .inl (nR by_))), (m6, .inl (kmk, 60, .inl (nR mk)))] sz) [(h0, .inr (8, [.int x0, .int x1, .ref m2, .int (nI c3), .ref m4, .ref m5, .ref m6, .ref m7, .ref m8, .ref m9, .ref m10, .ref m11, .int (nI c12), .int (nI c13), .int (nI c14), .ref m15, .ref m16, .ref m17, .ref m18, .ref m19, .int (nI c20), .int x21, .int (nI c22), .int (nI c23), .ref m24, .ref m25, .int (nI c26), .int (nI c27), .int x28, .ref m29, .ref m30, .ref m31, .ref m32, .ref m33, .ref m34, .int x35, .ref m36, .int (nI c37)])), (tx, .inl (ktx, 600, .inl f)), (m4, .inl (kbg, 60, .inl (nR bo))), (m5, .inl (kby, 60, .inl (nR yo))), (m6, .inl (kmk, 60, .inl (nR ko)))]) (va_A [(h0, .inr (8, [.int x0, .int x1, .ref m2, .int (nI c3), .ref m4, .ref m5, .ref m6, .ref m7, .ref m8, .ref m9, .ref m10, .ref m11, .int (nI c12), .int (nI c13), .int (nI c14), .ref m15, .ref m16, .ref m17, .ref m18, .ref m19, .int (nI c20), .int x21, .int (nI c22), .int (nI c23), .ref m24, .ref m25, .int (nI c26), .int (nI c27), .int x28, .ref m29, .ref m30, .ref m31, .ref m32, .ref m33, .ref m34, .int x35, .ref m36, .int (nI c37)])), (tx, .inl (ktx, 600, .inl f)), (m4, .inl (kbg, 60, .inl (nR bb))), (m5, .inl (kby, 60, .inl (nR by_))), (m6, .inl (kmk, 60, .inl (nR mk)))] sz)) 0 0 (va_A [(h0, .inr (8, [.int x0, .int x1, .ref m2, .int (nI c3), .ref m4, .ref m5, .ref m6, .ref m7, .ref m8, .ref m9, .ref m10, .ref m11, .int (nI c12), .int (nI c13), .int (nI c14), .ref m15, .ref m16, .ref m17, .ref m18, .ref m19, .int (nI c20), .int x21, .int (nI c22), .int (nI c23), .ref m24, .ref m25, .int (nI c26), .int (nI c27), .int x28, .ref m29, .ref m30, .ref m31, .ref m32, .ref m33, .ref m34, .int x35, .ref m36, .int (nI c37)])), (tx, .inl (ktx, 600, .inl f)), (m4, .inl (kbg, 60, .inl (nR bb))), (m5, .inl (kby, 60, .inl (nR by_))), (m6, .inl (kmk, 60, .inl (nR mk)))] sz) := by
  refine Met.ofW (cc := cX8_cut) (maxL := 8) (ret := (some .int)) (by decide) rfl ?_
  intro p e s m args below meth c s₁ B hml hv
  obtain ⟨rfl, hsz, hP, hK, hD0⟩ := hv
  have hx := B.exec
  have hb := B.bytes
  have hr := B.returns
  have hts := atoms_spec (ws := wsX8_cut) B.pre
  have hown : s.vm.findClass RX8 = some m.cls := findClass_of_methodNamed B.named
  have hlocks := B.notSynchronized
  subst hsz
  have hD := hD0.self (sz := s.heap.size)
  clear hD0
  generalize hAe : va_A [(h0, .inr (8, [.int x0, .int x1, .ref m2, .int (nI c3), .ref m4, .ref m5, .ref m6, .ref m7, .ref m8, .ref m9, .ref m10, .ref m11, .int (nI c12), .int (nI c13), .int (nI c14), .ref m15, .ref m16, .ref m17, .ref m18, .ref m19, .int (nI c20), .int x21, .int (nI c22), .int (nI c23), .ref m24, .ref m25, .int (nI c26), .int (nI c27), .int x28, .ref m29, .ref m30, .ref m31, .ref m32, .ref m33, .ref m34, .int x35, .ref m36, .int (nI c37)])), (tx, .inl (ktx, 600, .inl f)), (m4, .inl (kbg, 60, .inl (nR bb))), (m5, .inl (kby, 60, .inl (nR by_))), (m6, .inl (kmk, 60, .inl (nR mk)))] s.heap.size = A at hD ⊢
  have hA : ∀ q : Nat, s.heap.size ≤ q → A q := fun q h => by rw [← hAe]; exact Or.inr h
  clear hAe
  have hS : va_S A s.heap s.heap [] := va_S.rf
  replace hP : va_P (dC, dI) vwCl [(h0, .inr (8, [.int x0, .int x1, .ref m2, .int (nI c3), .ref m4, .ref m5, .ref m6, .ref m7, .ref m8, .ref m9, .ref m10, .ref m11, .int (nI c12), .int (nI c13), .int (nI c14), .ref m15, .ref m16, .ref m17, .ref m18, .ref m19, .int (nI c20), .int x21, .int (nI c22), .int (nI c23), .ref m24, .ref m25, .int (nI c26), .int (nI c27), .int x28, .ref m29, .ref m30, .ref m31, .ref m32, .ref m33, .ref m34, .int x35, .ref m36, .int (nI c37)])), (tx, .inl (ktx, 600, .inl f)), (m4, .inl (kbg, 60, .inl (nR bb))), (m5, .inl (kby, 60, .inl (nR by_))), (m6, .inl (kmk, 60, .inl (nR mk)))] s.heap := hP
  have hl := lv_entry ([.ref h0, .ref tx, .int (nI zz)]) (n := 8) (Nat.le_of_ble_eq_true rfl)
  rw [lg_entry_eq]
  generalize (lg_sl ([.ref h0, .ref tx, .int (nI zz)]) ++ List.replicate (8 - (lg_sl ([.ref h0, .ref tx, .int (nI zz)])).length) Slot.unset).toArray = ls at hl ⊢
  replace hl : lv_has ls 8 [(0, .ref h0), (1, .ref tx), (2, .int (nI zz))] := hl
  have hi_X8 : ∀ w ∈ wsX80, w ∈ wsX8_cut := by decide +kernel
  have k_f15 := hts (.fieldLink RX8 15 "TongueTellerModel" "begins" "[I") (by decide +kernel)
  have k_f19 := hts (.fieldLink RX8 19 "TongueTellerModel" "bytes" "[I") (by decide +kernel)
  have k_f22 := hts (.fieldLink RX8 22 "TongueTellerModel" "mark" "[Z") (by decide +kernel)
  refine lv_iconst (v := 0) hx hb dX8_cut_0 (by decide) ?_
  refine lv_istore_n (lv' := [(3, .int 0), (0, .ref h0), (1, .ref tx), (2, .int (nI zz))]) hx hb dX8_cut_1 rfl hl (by decide) rfl (fun ls hl => ?_)
  refine lv_iconst (v := 0) hx hb dX8_cut_2 (by decide) ?_
  refine lv_istore (lv' := [(4, .int 0), (3, .int 0), (0, .ref h0), (1, .ref tx), (2, .int (nI zz))]) hx hb dX8_cut_3 hl (by decide) rfl (fun ls hl => ?_)
  obtain ⟨locs, hlo⟩ : ∃ q : List Loc, q = [] := ⟨_, rfl⟩
  obtain ⟨H, hH⟩ : ∃ q : Heap, q = s.heap := ⟨_, rfl⟩
  rw [← hH, ← hlo]
  replace hS : va_S A s.heap H locs := by rw [hH, hlo]; exact hS
  replace hP : va_P (dC, dI) vwCl [(h0, .inr (8, [.int x0, .int x1, .ref m2, .int (nI c3), .ref m4, .ref m5, .ref m6, .ref m7, .ref m8, .ref m9, .ref m10, .ref m11, .int (nI c12), .int (nI c13), .int (nI c14), .ref m15, .ref m16, .ref m17, .ref m18, .ref m19, .int (nI c20), .int x21, .int (nI c22), .int (nI c23), .ref m24, .ref m25, .int (nI c26), .int (nI c27), .int x28, .ref m29, .ref m30, .ref m31, .ref m32, .ref m33, .ref m34, .int x35, .ref m36, .int (nI c37)])), (tx, .inl (ktx, 600, .inl f)), (m4, .inl (kbg, 60, .inl (nR bb))), (m5, .inl (kby, 60, .inl (nR by_))), (m6, .inl (kmk, 60, .inl (nR mk)))] H := by rw [hH]; exact hP
  clear hH hlo
  obtain ⟨k, e_k⟩ : ∃ y : Nat, y = 0 := ⟨_, rfl⟩
  obtain ⟨bq9, e_bq9⟩ : ∃ y : Nat → Nat, y = bb := ⟨_, rfl⟩
  obtain ⟨yq9, e_yq9⟩ : ∃ y : Nat → Nat, y = by_ := ⟨_, rfl⟩
  obtain ⟨mq9, e_mq9⟩ : ∃ y : Nat → Nat, y = mk := ⟨_, rfl⟩
  replace hl : lv_has ls 8 [(0, .ref h0), (1, .ref tx), (2, .int (nI zz)), (3, .int (nI (cB (gm f) k))), (4, .int (nI k))] := by subst e_k; subst e_bq9; subst e_yq9; subst e_mq9; exact lv_sub hl [2, 3, 4, 1, 0] rfl
  replace hP : va_P (dC, dI) vwCl [(h0, .inr (8, [.int x0, .int x1, .ref m2, .int (nI c3), .ref m4, .ref m5, .ref m6, .ref m7, .ref m8, .ref m9, .ref m10, .ref m11, .int (nI c12), .int (nI c13), .int (nI c14), .ref m15, .ref m16, .ref m17, .ref m18, .ref m19, .int (nI c20), .int x21, .int (nI c22), .int (nI c23), .ref m24, .ref m25, .int (nI c26), .int (nI c27), .int x28, .ref m29, .ref m30, .ref m31, .ref m32, .ref m33, .ref m34, .int x35, .ref m36, .int (nI c37)])), (tx, .inl (ktx, 600, .inl f)), (m4, .inl (kbg, 60, .inl (nR bq9))), (m5, .inl (kby, 60, .inl (nR yq9))), (m6, .inl (kmk, 60, .inl (nR mq9)))] H := by subst e_k; subst e_bq9; subst e_yq9; subst e_mq9; exact hP
  replace hD : va_D A [(h0, .inr (8, [.int x0, .int x1, .ref m2, .int (nI c3), .ref m4, .ref m5, .ref m6, .ref m7, .ref m8, .ref m9, .ref m10, .ref m11, .int (nI c12), .int (nI c13), .int (nI c14), .ref m15, .ref m16, .ref m17, .ref m18, .ref m19, .int (nI c20), .int x21, .int (nI c22), .int (nI c23), .ref m24, .ref m25, .int (nI c26), .int (nI c27), .int x28, .ref m29, .ref m30, .ref m31, .ref m32, .ref m33, .ref m34, .int x35, .ref m36, .int (nI c37)])), (tx, .inl (ktx, 600, .inl f)), (m4, .inl (kbg, 60, .inl (nR bq9))), (m5, .inl (kby, 60, .inl (nR yq9))), (m6, .inl (kmk, 60, .inl (nR mq9)))] := by subst e_k; subst e_bq9; subst e_yq9; subst e_mq9; exact hD
  have hk1 : k ≤ zz := by subst e_k; subst e_bq9; subst e_yq9; subst e_mq9; omega
  have hcb : cB (gm f) k ≤ k := by subst e_k; subst e_bq9; subst e_yq9; subst e_mq9; exact Nat.le_refl _
  have hbd : bdy (gm f) zz k := by subst e_k; subst e_bq9; subst e_yq9; subst e_mq9; exact Or.inl rfl
  have hok : okC (gm f) bq9 yq9 mq9 zz k := by subst e_k; subst e_bq9; subst e_yq9; subst e_mq9; exact okC_0
  clear e_k e_bq9 e_yq9 e_mq9
  obtain ⟨nn5, hnn5⟩ : ∃ q : Nat, zz - k < q := ⟨_, Nat.lt_succ_self _⟩
  induction nn5 generalizing k bq9 yq9 mq9 H locs ls with
  | zero => exact absurd hnn5 (Nat.not_lt_zero _)
  | succ nn5 ih5 =>
    refine lv_iload hx hb dX8_cut_5 (lv_at hl 4 rfl) ?_
    refine lv_iload_n hx hb dX8_cut_7 rfl (lv_at hl 2 rfl) ?_
    refine lv_icmp_ge (tgt := 140) hx hb dX8_cut_8 (by decide) (fun c_8 => ?_) (fun c_8 => ?_)
    · have n_8 : zz ≤ k := (nI_leI (a := zz) (b := k) (by omega) (by omega)).mp c_8
      refine lv_iload_n hx hb dX8_cut_140 rfl (lv_at hl 3 rfl) ?_
      have hP9 := hP.sub (ws' := [(h0, .inr (8, [.int x0, .int x1, .ref m2, .int (nI c3), .ref m4, .ref m5, .ref m6, .ref m7, .ref m8, .ref m9, .ref m10, .ref m11, .int (nI c12), .int (nI c13), .int (nI c14), .ref m15, .ref m16, .ref m17, .ref m18, .ref m19, .int (nI c20), .int x21, .int (nI c22), .int (nI c23), .ref m24, .ref m25, .int (nI c26), .int (nI c27), .int x28, .ref m29, .ref m30, .ref m31, .ref m32, .ref m33, .ref m34, .int x35, .ref m36, .int (nI c37)])), (tx, .inl (ktx, 600, .inl f)), (m4, .inl (kbg, 60, .inl (nR bq9))), (m5, .inl (kby, 60, .inl (nR yq9))), (m6, .inl (kmk, 60, .inl (nR mq9)))]) [0, 1, 2, 3, 4] rfl
      have hD9 := hD.sub (ws' := [(h0, .inr (8, [.int x0, .int x1, .ref m2, .int (nI c3), .ref m4, .ref m5, .ref m6, .ref m7, .ref m8, .ref m9, .ref m10, .ref m11, .int (nI c12), .int (nI c13), .int (nI c14), .ref m15, .ref m16, .ref m17, .ref m18, .ref m19, .int (nI c20), .int x21, .int (nI c22), .int (nI c23), .ref m24, .ref m25, .int (nI c26), .int (nI c27), .int x28, .ref m29, .ref m30, .ref m31, .ref m32, .ref m33, .ref m34, .int x35, .ref m36, .int (nI c37)])), (tx, .inl (ktx, 600, .inl f)), (m4, .inl (kbg, 60, .inl (nR bq9))), (m5, .inl (kby, 60, .inl (nR yq9))), (m6, .inl (kmk, 60, .inl (nR mq9)))]) [0, 1, 2, 3, 4] (by decide) rfl
      exact W.iret (v := nI (cB (gm f) k)) hx hb hr (fun t ht hW => ⟨⟨nI (cB (gm f) k), (bq9, yq9, mq9), rfl, ⟨by rw [show zz = k by omega], by rw [show zz = k by omega] at hok ⊢; exact hok, by rw [show zz = k by omega]; omega⟩, by rw [ht]; exact hP9, hD9⟩, hS.F ht⟩) hS.2.2 dX8_cut_141
    · have n_8 : k < zz := Nat.not_le.mp (fun h9 => c_8 ((nI_leI (a := zz) (b := k) (by omega) (by omega)).mpr h9))
      refine lv_aload_n hx hb dX8_cut_11 rfl (lv_at hl 1 rfl) ?_
      refine lv_iload hx hb dX8_cut_12 (lv_at hl 4 rfl) ?_
      refine va_bald hx hb hK hP 1 0 rfl rfl (i := nI k) (vp_in_nI (by omega) (by omega)) dX8_cut_14 ?_
      refine lv_topi (fun x_14 ex_14 => ?_)
      obtain rfl : f k = x_14 := Eq.symm (ex_14.trans (fR_at (by omega)))
      refine lv_sipush (v := 255) hx hb dX8_cut_15 (by decide) ?_
      refine lv_iand hx hb dX8_cut_18 ?_
      refine lv_topi (fun x_18 ex_18 => ?_)
      obtain rfl : nI ((f k).toBitVec.toNat % 256) = x_18 := Eq.symm (ex_18.trans (pk_and _ 8 (by decide)))
      refine lv_istore (lv' := [(5, .int (nI ((f k).toBitVec.toNat % 256))), (0, .ref h0), (1, .ref tx), (2, .int (nI zz)), (3, .int (nI (cB (gm f) k))), (4, .int (nI k))]) hx hb dX8_cut_19 hl (by decide) rfl (fun ls hl => ?_)
      refine lv_iload hx hb dX8_cut_21 (lv_at hl 0 rfl) ?_
      refine vp_callSi (W.runS (As := [.int (nI ((f k).toBitVec.toNat % 256))]) (rest := []) ⟨hx, hb, hml, hown, hts⟩ (g_X8_isDigit l dC dI ((f k).toBitVec.toNat % 256) (Nat.mod_lt _ (by decide))) (va_cwS 1 hts gX8_cut_X8_isDigit rfl rfl rfl (by decide +kernel) ⟨Nat.le_of_ble_eq_true rfl, Nat.le_of_ble_eq_true rfl⟩) ⟨fun a U g mk q => q, fun U hU hW => ⟨rfl, trivial⟩⟩ rfl rfl hl.1 rfl (lv_room (Nat.le_of_ble_eq_true rfl)) dX8_cut_23 ⟨Nat.le_of_ble_eq_true rfl, Nat.le_of_ble_eq_true rfl⟩) (fun r_23 hw_23 => ?_)
      rcases hw_23 with ⟨hr_23, hb_23⟩ | ⟨hr_23, hb_23⟩
      · subst hr_23
        refine lv_istore (lv' := [(6, .int 1), (5, .int (nI ((f k).toBitVec.toNat % 256))), (0, .ref h0), (1, .ref tx), (2, .int (nI zz)), (3, .int (nI (cB (gm f) k))), (4, .int (nI k))]) hx hb dX8_cut_26 hl (by decide) rfl (fun ls hl => ?_)
        refine lv_iload hx hb dX8_cut_28 (lv_at hl 0 rfl) ?_
        refine lv_if_ne (tgt := 48) hx hb dX8_cut_30 (by decide) (fun c_30 => ?_) (fun c_30 => ?_)
        rotate_left
        · exact absurd c_30 (by decide)
        have hdg : gm f k = 28 := hb_23
        have hbw := bdy_bW hbd n_8 (by rw [kN_28 hdg]; decide)
        have hmv : 1 = (if gm f k = 28 then 1 else 0) := by rw [if_pos hdg]
        refine lv_iload hx hb dX8_cut_48 (lv_at hl 6 rfl) ?_
        refine lv_istore (lv' := [(7, .int (nI k)), (6, .int 1), (5, .int (nI ((f k).toBitVec.toNat % 256))), (0, .ref h0), (1, .ref tx), (2, .int (nI zz)), (3, .int (nI (cB (gm f) k))), (4, .int (nI k))]) hx hb dX8_cut_50 hl (by decide) rfl (fun ls hl => ?_)
        obtain ⟨k2, e_k2⟩ : ∃ y : Nat, y = k := ⟨_, rfl⟩
        replace hl : lv_has ls 8 [(0, .ref h0), (1, .ref tx), (2, .int (nI zz)), (3, .int (nI (cB (gm f) k))), (4, .int (nI k2)), (6, .int 1), (7, .int (nI k))] := by subst e_k2; exact lv_sub hl [3, 4, 5, 6, 7, 1, 0] rfl
        have hk3 : k2 ≤ zz := by subst e_k2; omega
        have hk4 : k ≤ k2 := by subst e_k2; omega
        have hrun : run (gm f) k k2 := by subst e_k2; exact run_0
        clear e_k2
        obtain ⟨nn52, hnn52⟩ : ∃ q : Nat, zz - k2 < q := ⟨_, Nat.lt_succ_self _⟩
        induction nn52 generalizing k2 ls with
        | zero => exact absurd hnn52 (Nat.not_lt_zero _)
        | succ nn52 ih52 =>
          refine lv_iload hx hb dX8_cut_52 (lv_at hl 4 rfl) ?_
          refine lv_iload_n hx hb dX8_cut_54 rfl (lv_at hl 2 rfl) ?_
          refine lv_icmp_ge (tgt := 101) hx hb dX8_cut_55 (by decide) (fun c_55 => ?_) (fun c_55 => ?_)
          · have n_55 : zz ≤ k2 := (nI_leI (a := zz) (b := k2) (by omega) (by omega)).mp c_55
            have hx2 : k2 = zz ∨ kN (gm f k2) ≠ kN (gm f k) := Or.inl (by omega)
            have hk2 : k < k2 := by rcases hx2 with h | h; omega; exact Nat.lt_of_le_of_ne hk4 (fun e => h (by rw [e]))
            refine lv_iload_n hx hb dX8_cut_101 rfl (lv_at hl 3 rfl) ?_
            refine lv_bipush (v := 60) hx hb dX8_cut_102 (by decide) ?_
            refine lv_icmp_ge (tgt := 134) hx hb dX8_cut_104 (by decide) (fun c_104 => ?_) (fun c_104 => ?_)
            · have n_104 : 60 ≤ (cB (gm f) k) := (nI_leI (a := 60) (b := (cB (gm f) k)) (by omega) (by omega)).mp c_104
              have ecb := cB_run hbw k2 hk2 hrun
              refine lv_iinc (v := nI (cB (gm f) k + 1)) (lv' := [(3, .int (nI (cB (gm f) k + 1))), (0, .ref h0), (1, .ref tx), (2, .int (nI zz)), (4, .int (nI k2)), (6, .int 1), (7, .int (nI k))]) hx hb dX8_cut_134 hl (k := 3) rfl (nI_1 _) (by decide) rfl (fun ls hl => ?_)
              replace hl : lv_has ls 8 [(3, .int (nI (cB (gm f) k2))), (0, .ref h0), (1, .ref tx), (2, .int (nI zz)), (4, .int (nI k2)), (6, .int 1), (7, .int (nI k))] := by rw [ecb]; exact hl
              have hcb2 : cB (gm f) k2 ≤ k2 := by omega
              refine lv_goto (tgt := 5) hx hb dX8_cut_137 (by decide) ?_
              replace hl : lv_has ls 8 [(0, .ref h0), (1, .ref tx), (2, .int (nI zz)), (3, .int (nI (cB (gm f) k2))), (4, .int (nI k2))] := lv_sub hl [1, 2, 3, 0, 4] rfl
              replace hP : va_P (dC, dI) vwCl [(h0, .inr (8, [.int x0, .int x1, .ref m2, .int (nI c3), .ref m4, .ref m5, .ref m6, .ref m7, .ref m8, .ref m9, .ref m10, .ref m11, .int (nI c12), .int (nI c13), .int (nI c14), .ref m15, .ref m16, .ref m17, .ref m18, .ref m19, .int (nI c20), .int x21, .int (nI c22), .int (nI c23), .ref m24, .ref m25, .int (nI c26), .int (nI c27), .int x28, .ref m29, .ref m30, .ref m31, .ref m32, .ref m33, .ref m34, .int x35, .ref m36, .int (nI c37)])), (tx, .inl (ktx, 600, .inl f)), (m4, .inl (kbg, 60, .inl (nR bq9))), (m5, .inl (kby, 60, .inl (nR yq9))), (m6, .inl (kmk, 60, .inl (nR mq9)))] H := hP
              replace hD : va_D A [(h0, .inr (8, [.int x0, .int x1, .ref m2, .int (nI c3), .ref m4, .ref m5, .ref m6, .ref m7, .ref m8, .ref m9, .ref m10, .ref m11, .int (nI c12), .int (nI c13), .int (nI c14), .ref m15, .ref m16, .ref m17, .ref m18, .ref m19, .int (nI c20), .int x21, .int (nI c22), .int (nI c23), .ref m24, .ref m25, .int (nI c26), .int (nI c27), .int x28, .ref m29, .ref m30, .ref m31, .ref m32, .ref m33, .ref m34, .int x35, .ref m36, .int (nI c37)])), (tx, .inl (ktx, 600, .inl f)), (m4, .inl (kbg, 60, .inl (nR bq9))), (m5, .inl (kby, 60, .inl (nR yq9))), (m6, .inl (kmk, 60, .inl (nR mq9)))] := hD
              have hbd9 : bdy (gm f) zz k2 := bdy_e hk2 hrun hx2
              have hok9 : okC (gm f) bq9 yq9 mq9 zz k2 := okC_b hok hrun n_104
              apply ih5 (k := k2) (bq9 := bq9) (yq9 := yq9) (mq9 := mq9) <;> first | assumption | omega
            · have n_104 : (cB (gm f) k) < 60 := Nat.not_le.mp (fun h9 => c_104 ((nI_leI (a := 60) (b := (cB (gm f) k)) (by omega) (by omega)).mpr h9))
              refine lv_aload_n hx hb dX8_cut_107 rfl (lv_at hl 0 rfl) ?_
              refine va_get (D := (dC, dI)) (ci := 8) (v := .ref m4) (C := RX8) (T := TX8) (N := 38) hx hb hts hi_X8 hown hK hP 0 rfl rfl 4 (by decide) k_f15 (fun _ h9 => h9) rfl dX8_cut_108 ?_
              refine lv_iload_n hx hb dX8_cut_111 rfl (lv_at hl 3 rfl) ?_
              refine lv_iload hx hb dX8_cut_112 (lv_at hl 6 rfl) ?_
              refine va_iast hx hb hK hP hD hS 2 1 rfl rfl (i := nI (cB (gm f) k)) (x := nI k) (vp_in_nI (by omega) (by omega)) dX8_cut_114 (fun H locs hP hD hS => ?_)
              have er_114 : upd (nR bq9) (nI (cB (gm f) k) : Int32).toNatClampNeg (nI k) = nR (updN bq9 (cB (gm f) k) k) := upd_nR (g := bq9) (i := cB (gm f) k) (v := k) (by omega)
              replace hP : va_P (dC, dI) vwCl [(h0, .inr (8, [.int x0, .int x1, .ref m2, .int (nI c3), .ref m4, .ref m5, .ref m6, .ref m7, .ref m8, .ref m9, .ref m10, .ref m11, .int (nI c12), .int (nI c13), .int (nI c14), .ref m15, .ref m16, .ref m17, .ref m18, .ref m19, .int (nI c20), .int x21, .int (nI c22), .int (nI c23), .ref m24, .ref m25, .int (nI c26), .int (nI c27), .int x28, .ref m29, .ref m30, .ref m31, .ref m32, .ref m33, .ref m34, .int x35, .ref m36, .int (nI c37)])), (tx, .inl (ktx, 600, .inl f)), (m4, .inl (kbg, 60, .inl (nR (updN bq9 (cB (gm f) k) k)))), (m5, .inl (kby, 60, .inl (nR yq9))), (m6, .inl (kmk, 60, .inl (nR mq9)))] H := by rw [← er_114]; exact hP
              replace hD : va_D A [(h0, .inr (8, [.int x0, .int x1, .ref m2, .int (nI c3), .ref m4, .ref m5, .ref m6, .ref m7, .ref m8, .ref m9, .ref m10, .ref m11, .int (nI c12), .int (nI c13), .int (nI c14), .ref m15, .ref m16, .ref m17, .ref m18, .ref m19, .int (nI c20), .int x21, .int (nI c22), .int (nI c23), .ref m24, .ref m25, .int (nI c26), .int (nI c27), .int x28, .ref m29, .ref m30, .ref m31, .ref m32, .ref m33, .ref m34, .int x35, .ref m36, .int (nI c37)])), (tx, .inl (ktx, 600, .inl f)), (m4, .inl (kbg, 60, .inl (nR (updN bq9 (cB (gm f) k) k)))), (m5, .inl (kby, 60, .inl (nR yq9))), (m6, .inl (kmk, 60, .inl (nR mq9)))] := by rw [← er_114]; exact hD
              refine lv_aload_n hx hb dX8_cut_115 rfl (lv_at hl 0 rfl) ?_
              refine va_get (D := (dC, dI)) (ci := 8) (v := .ref m5) (C := RX8) (T := TX8) (N := 38) hx hb hts hi_X8 hown hK hP 0 rfl rfl 5 (by decide) k_f19 (fun _ h9 => h9) rfl dX8_cut_116 ?_
              refine lv_iload_n hx hb dX8_cut_119 rfl (lv_at hl 3 rfl) ?_
              refine lv_iload hx hb dX8_cut_120 (lv_at hl 4 rfl) ?_
              refine lv_iload hx hb dX8_cut_122 (lv_at hl 6 rfl) ?_
              refine lv_isub hx hb dX8_cut_124 ?_
              refine lv_topi (fun x_124 ex_124 => ?_)
              obtain rfl : nI (k2 - k) = x_124 := Eq.symm (ex_124.trans (pk_sub (a := k2) (b := k) (by omega)))
              refine va_iast hx hb hK hP hD hS 3 2 rfl rfl (i := nI (cB (gm f) k)) (x := nI (k2 - k)) (vp_in_nI (by omega) (by omega)) dX8_cut_125 (fun H locs hP hD hS => ?_)
              have er_125 : upd (nR yq9) (nI (cB (gm f) k) : Int32).toNatClampNeg (nI (k2 - k)) = nR (updN yq9 (cB (gm f) k) (k2 - k)) := upd_nR (g := yq9) (i := cB (gm f) k) (v := k2 - k) (by omega)
              replace hP : va_P (dC, dI) vwCl [(h0, .inr (8, [.int x0, .int x1, .ref m2, .int (nI c3), .ref m4, .ref m5, .ref m6, .ref m7, .ref m8, .ref m9, .ref m10, .ref m11, .int (nI c12), .int (nI c13), .int (nI c14), .ref m15, .ref m16, .ref m17, .ref m18, .ref m19, .int (nI c20), .int x21, .int (nI c22), .int (nI c23), .ref m24, .ref m25, .int (nI c26), .int (nI c27), .int x28, .ref m29, .ref m30, .ref m31, .ref m32, .ref m33, .ref m34, .int x35, .ref m36, .int (nI c37)])), (tx, .inl (ktx, 600, .inl f)), (m4, .inl (kbg, 60, .inl (nR (updN bq9 (cB (gm f) k) k)))), (m5, .inl (kby, 60, .inl (nR (updN yq9 (cB (gm f) k) (k2 - k))))), (m6, .inl (kmk, 60, .inl (nR mq9)))] H := by rw [← er_125]; exact hP
              replace hD : va_D A [(h0, .inr (8, [.int x0, .int x1, .ref m2, .int (nI c3), .ref m4, .ref m5, .ref m6, .ref m7, .ref m8, .ref m9, .ref m10, .ref m11, .int (nI c12), .int (nI c13), .int (nI c14), .ref m15, .ref m16, .ref m17, .ref m18, .ref m19, .int (nI c20), .int x21, .int (nI c22), .int (nI c23), .ref m24, .ref m25, .int (nI c26), .int (nI c27), .int x28, .ref m29, .ref m30, .ref m31, .ref m32, .ref m33, .ref m34, .int x35, .ref m36, .int (nI c37)])), (tx, .inl (ktx, 600, .inl f)), (m4, .inl (kbg, 60, .inl (nR (updN bq9 (cB (gm f) k) k)))), (m5, .inl (kby, 60, .inl (nR (updN yq9 (cB (gm f) k) (k2 - k))))), (m6, .inl (kmk, 60, .inl (nR mq9)))] := by rw [← er_125]; exact hD
              refine lv_aload_n hx hb dX8_cut_126 rfl (lv_at hl 0 rfl) ?_
              refine va_get (D := (dC, dI)) (ci := 8) (v := .ref m6) (C := RX8) (T := TX8) (N := 38) hx hb hts hi_X8 hown hK hP 0 rfl rfl 6 (by decide) k_f22 (fun _ h9 => h9) rfl dX8_cut_127 ?_
              refine lv_iload_n hx hb dX8_cut_130 rfl (lv_at hl 3 rfl) ?_
              refine lv_iload hx hb dX8_cut_131 (lv_at hl 5 rfl) ?_
              refine va_zast hx hb hK hP hD hS 4 3 rfl rfl (i := nI (cB (gm f) k)) (x := 1) (vp_in_nI (by omega) (by omega)) dX8_cut_133 (fun H locs hP hD hS => ?_)
              have er_133 : upd (nR mq9) (nI (cB (gm f) k) : Int32).toNatClampNeg (vp_nar .boolean 1) = nR (updN mq9 (cB (gm f) k) 1) := upd_nRz (g := mq9) (i := cB (gm f) k) (v := 1) (by omega) (by omega)
              replace hP : va_P (dC, dI) vwCl [(h0, .inr (8, [.int x0, .int x1, .ref m2, .int (nI c3), .ref m4, .ref m5, .ref m6, .ref m7, .ref m8, .ref m9, .ref m10, .ref m11, .int (nI c12), .int (nI c13), .int (nI c14), .ref m15, .ref m16, .ref m17, .ref m18, .ref m19, .int (nI c20), .int x21, .int (nI c22), .int (nI c23), .ref m24, .ref m25, .int (nI c26), .int (nI c27), .int x28, .ref m29, .ref m30, .ref m31, .ref m32, .ref m33, .ref m34, .int x35, .ref m36, .int (nI c37)])), (tx, .inl (ktx, 600, .inl f)), (m4, .inl (kbg, 60, .inl (nR (updN bq9 (cB (gm f) k) k)))), (m5, .inl (kby, 60, .inl (nR (updN yq9 (cB (gm f) k) (k2 - k))))), (m6, .inl (kmk, 60, .inl (nR (updN mq9 (cB (gm f) k) 1))))] H := by rw [← er_133]; exact hP
              replace hD : va_D A [(h0, .inr (8, [.int x0, .int x1, .ref m2, .int (nI c3), .ref m4, .ref m5, .ref m6, .ref m7, .ref m8, .ref m9, .ref m10, .ref m11, .int (nI c12), .int (nI c13), .int (nI c14), .ref m15, .ref m16, .ref m17, .ref m18, .ref m19, .int (nI c20), .int x21, .int (nI c22), .int (nI c23), .ref m24, .ref m25, .int (nI c26), .int (nI c27), .int x28, .ref m29, .ref m30, .ref m31, .ref m32, .ref m33, .ref m34, .int x35, .ref m36, .int (nI c37)])), (tx, .inl (ktx, 600, .inl f)), (m4, .inl (kbg, 60, .inl (nR (updN bq9 (cB (gm f) k) k)))), (m5, .inl (kby, 60, .inl (nR (updN yq9 (cB (gm f) k) (k2 - k))))), (m6, .inl (kmk, 60, .inl (nR (updN mq9 (cB (gm f) k) 1))))] := by rw [← er_133]; exact hD
              have ecb := cB_run hbw k2 hk2 hrun
              refine lv_iinc (v := nI (cB (gm f) k + 1)) (lv' := [(3, .int (nI (cB (gm f) k + 1))), (0, .ref h0), (1, .ref tx), (2, .int (nI zz)), (4, .int (nI k2)), (6, .int 1), (7, .int (nI k))]) hx hb dX8_cut_134 hl (k := 3) rfl (nI_1 _) (by decide) rfl (fun ls hl => ?_)
              replace hl : lv_has ls 8 [(3, .int (nI (cB (gm f) k2))), (0, .ref h0), (1, .ref tx), (2, .int (nI zz)), (4, .int (nI k2)), (6, .int 1), (7, .int (nI k))] := by rw [ecb]; exact hl
              have hcb2 : cB (gm f) k2 ≤ k2 := by omega
              refine lv_goto (tgt := 5) hx hb dX8_cut_137 (by decide) ?_
              replace hl : lv_has ls 8 [(0, .ref h0), (1, .ref tx), (2, .int (nI zz)), (3, .int (nI (cB (gm f) k2))), (4, .int (nI k2))] := lv_sub hl [1, 2, 3, 0, 4] rfl
              replace hP : va_P (dC, dI) vwCl [(h0, .inr (8, [.int x0, .int x1, .ref m2, .int (nI c3), .ref m4, .ref m5, .ref m6, .ref m7, .ref m8, .ref m9, .ref m10, .ref m11, .int (nI c12), .int (nI c13), .int (nI c14), .ref m15, .ref m16, .ref m17, .ref m18, .ref m19, .int (nI c20), .int x21, .int (nI c22), .int (nI c23), .ref m24, .ref m25, .int (nI c26), .int (nI c27), .int x28, .ref m29, .ref m30, .ref m31, .ref m32, .ref m33, .ref m34, .int x35, .ref m36, .int (nI c37)])), (tx, .inl (ktx, 600, .inl f)), (m4, .inl (kbg, 60, .inl (nR (updN bq9 (cB (gm f) k) k)))), (m5, .inl (kby, 60, .inl (nR (updN yq9 (cB (gm f) k) (k2 - k))))), (m6, .inl (kmk, 60, .inl (nR (updN mq9 (cB (gm f) k) 1))))] H := hP
              replace hD : va_D A [(h0, .inr (8, [.int x0, .int x1, .ref m2, .int (nI c3), .ref m4, .ref m5, .ref m6, .ref m7, .ref m8, .ref m9, .ref m10, .ref m11, .int (nI c12), .int (nI c13), .int (nI c14), .ref m15, .ref m16, .ref m17, .ref m18, .ref m19, .int (nI c20), .int x21, .int (nI c22), .int (nI c23), .ref m24, .ref m25, .int (nI c26), .int (nI c27), .int x28, .ref m29, .ref m30, .ref m31, .ref m32, .ref m33, .ref m34, .int x35, .ref m36, .int (nI c37)])), (tx, .inl (ktx, 600, .inl f)), (m4, .inl (kbg, 60, .inl (nR (updN bq9 (cB (gm f) k) k)))), (m5, .inl (kby, 60, .inl (nR (updN yq9 (cB (gm f) k) (k2 - k))))), (m6, .inl (kmk, 60, .inl (nR (updN mq9 (cB (gm f) k) 1))))] := hD
              have hbd9 : bdy (gm f) zz k2 := bdy_e hk2 hrun hx2
              have hok9 : okC (gm f) (updN bq9 (cB (gm f) k) k) (updN yq9 (cB (gm f) k) (k2 - k)) (updN mq9 (cB (gm f) k) 1) zz k2 := okC_y hok hrun (RF_mk hk2 hk3 hrun hx2) hmv
              apply ih5 (k := k2) (bq9 := updN bq9 (cB (gm f) k) k) (yq9 := updN yq9 (cB (gm f) k) (k2 - k)) (mq9 := updN mq9 (cB (gm f) k) 1) <;> first | assumption | omega
          · have n_55 : k2 < zz := Nat.not_le.mp (fun h9 => c_55 ((nI_leI (a := zz) (b := k2) (by omega) (by omega)).mpr h9))
            refine lv_iload hx hb dX8_cut_58 (lv_at hl 5 rfl) ?_
            refine lv_if_eq (tgt := 80) hx hb dX8_cut_60 (by decide) (fun c_60 => ?_) (fun c_60 => ?_)
            · exact absurd c_60 (by decide)
            refine lv_aload_n hx hb dX8_cut_63 rfl (lv_at hl 1 rfl) ?_
            refine lv_iload hx hb dX8_cut_64 (lv_at hl 4 rfl) ?_
            refine va_bald hx hb hK hP 1 0 rfl rfl (i := nI k2) (vp_in_nI (by omega) (by omega)) dX8_cut_66 ?_
            refine lv_topi (fun x_66 ex_66 => ?_)
            obtain rfl : f k2 = x_66 := Eq.symm (ex_66.trans (fR_at (by omega)))
            refine lv_sipush (v := 255) hx hb dX8_cut_67 (by decide) ?_
            refine lv_iand hx hb dX8_cut_70 ?_
            refine lv_topi (fun x_70 ex_70 => ?_)
            obtain rfl : nI ((f k2).toBitVec.toNat % 256) = x_70 := Eq.symm (ex_70.trans (pk_and _ 8 (by decide)))
            refine vp_callSi (W.runS (As := [.int (nI ((f k2).toBitVec.toNat % 256))]) (rest := []) ⟨hx, hb, hml, hown, hts⟩ (g_X8_isDigit l dC dI ((f k2).toBitVec.toNat % 256) (Nat.mod_lt _ (by decide))) (va_cwS 1 hts gX8_cut_X8_isDigit rfl rfl rfl (by decide +kernel) ⟨Nat.le_of_ble_eq_true rfl, Nat.le_of_ble_eq_true rfl⟩) ⟨fun a U g mk q => q, fun U hU hW => ⟨rfl, trivial⟩⟩ rfl rfl hl.1 rfl (lv_room (Nat.le_of_ble_eq_true rfl)) dX8_cut_71 ⟨Nat.le_of_ble_eq_true rfl, Nat.le_of_ble_eq_true rfl⟩) (fun r_71 hw_71 => ?_)
            rcases hw_71 with ⟨hr_71, hb_71⟩ | ⟨hr_71, hb_71⟩
            · subst hr_71
              have hb71 : gm f k2 = 28 := hb_71
              refine lv_if_eq (tgt := 101) hx hb dX8_cut_74 (by decide) (fun c_74 => ?_) (fun c_74 => ?_)
              · exact absurd c_74 (by decide)
              refine lv_goto (tgt := 95) hx hb dX8_cut_77 (by decide) ?_
              refine lv_iinc (v := nI (k2 + 1)) (lv' := [(4, .int (nI (k2 + 1))), (0, .ref h0), (1, .ref tx), (2, .int (nI zz)), (3, .int (nI (cB (gm f) k))), (6, .int 1), (7, .int (nI k))]) hx hb dX8_cut_95 hl (k := 4) rfl (nI_1 _) (by decide) rfl (fun ls hl => ?_)
              refine lv_goto (tgt := 52) hx hb dX8_cut_98 (by decide) ?_
              replace hl : lv_has ls 8 [(0, .ref h0), (1, .ref tx), (2, .int (nI zz)), (3, .int (nI (cB (gm f) k))), (4, .int (nI (k2 + 1))), (6, .int 1), (7, .int (nI k))] := lv_sub hl [1, 2, 3, 4, 0, 5, 6] rfl
              have hrun9 : run (gm f) k (k2 + 1) := run_s hrun ((kN_28 hb71).trans (kN_28 hdg).symm)
              apply ih52 (k2 := k2 + 1) <;> first | assumption | omega
            · subst hr_71
              refine lv_if_eq (tgt := 101) hx hb dX8_cut_74 (by decide) (fun c_74 => ?_) (fun c_74 => ?_)
              rotate_left
              · exact absurd (by decide) c_74
              have hx2 : k2 = zz ∨ kN (gm f k2) ≠ kN (gm f k) := Or.inr (by rw [kN_28 hdg]; exact kN_n28 hb_71)
              have hk2 : k < k2 := by rcases hx2 with h | h; omega; exact Nat.lt_of_le_of_ne hk4 (fun e => h (by rw [e]))
              refine lv_iload_n hx hb dX8_cut_101 rfl (lv_at hl 3 rfl) ?_
              refine lv_bipush (v := 60) hx hb dX8_cut_102 (by decide) ?_
              refine lv_icmp_ge (tgt := 134) hx hb dX8_cut_104 (by decide) (fun c_104 => ?_) (fun c_104 => ?_)
              · have n_104 : 60 ≤ (cB (gm f) k) := (nI_leI (a := 60) (b := (cB (gm f) k)) (by omega) (by omega)).mp c_104
                have ecb := cB_run hbw k2 hk2 hrun
                refine lv_iinc (v := nI (cB (gm f) k + 1)) (lv' := [(3, .int (nI (cB (gm f) k + 1))), (0, .ref h0), (1, .ref tx), (2, .int (nI zz)), (4, .int (nI k2)), (6, .int 1), (7, .int (nI k))]) hx hb dX8_cut_134 hl (k := 3) rfl (nI_1 _) (by decide) rfl (fun ls hl => ?_)
                replace hl : lv_has ls 8 [(3, .int (nI (cB (gm f) k2))), (0, .ref h0), (1, .ref tx), (2, .int (nI zz)), (4, .int (nI k2)), (6, .int 1), (7, .int (nI k))] := by rw [ecb]; exact hl
                have hcb2 : cB (gm f) k2 ≤ k2 := by omega
                refine lv_goto (tgt := 5) hx hb dX8_cut_137 (by decide) ?_
                replace hl : lv_has ls 8 [(0, .ref h0), (1, .ref tx), (2, .int (nI zz)), (3, .int (nI (cB (gm f) k2))), (4, .int (nI k2))] := lv_sub hl [1, 2, 3, 0, 4] rfl
                replace hP : va_P (dC, dI) vwCl [(h0, .inr (8, [.int x0, .int x1, .ref m2, .int (nI c3), .ref m4, .ref m5, .ref m6, .ref m7, .ref m8, .ref m9, .ref m10, .ref m11, .int (nI c12), .int (nI c13), .int (nI c14), .ref m15, .ref m16, .ref m17, .ref m18, .ref m19, .int (nI c20), .int x21, .int (nI c22), .int (nI c23), .ref m24, .ref m25, .int (nI c26), .int (nI c27), .int x28, .ref m29, .ref m30, .ref m31, .ref m32, .ref m33, .ref m34, .int x35, .ref m36, .int (nI c37)])), (tx, .inl (ktx, 600, .inl f)), (m4, .inl (kbg, 60, .inl (nR bq9))), (m5, .inl (kby, 60, .inl (nR yq9))), (m6, .inl (kmk, 60, .inl (nR mq9)))] H := hP
                replace hD : va_D A [(h0, .inr (8, [.int x0, .int x1, .ref m2, .int (nI c3), .ref m4, .ref m5, .ref m6, .ref m7, .ref m8, .ref m9, .ref m10, .ref m11, .int (nI c12), .int (nI c13), .int (nI c14), .ref m15, .ref m16, .ref m17, .ref m18, .ref m19, .int (nI c20), .int x21, .int (nI c22), .int (nI c23), .ref m24, .ref m25, .int (nI c26), .int (nI c27), .int x28, .ref m29, .ref m30, .ref m31, .ref m32, .ref m33, .ref m34, .int x35, .ref m36, .int (nI c37)])), (tx, .inl (ktx, 600, .inl f)), (m4, .inl (kbg, 60, .inl (nR bq9))), (m5, .inl (kby, 60, .inl (nR yq9))), (m6, .inl (kmk, 60, .inl (nR mq9)))] := hD
                have hbd9 : bdy (gm f) zz k2 := bdy_e hk2 hrun hx2
                have hok9 : okC (gm f) bq9 yq9 mq9 zz k2 := okC_b hok hrun n_104
                apply ih5 (k := k2) (bq9 := bq9) (yq9 := yq9) (mq9 := mq9) <;> first | assumption | omega
              · have n_104 : (cB (gm f) k) < 60 := Nat.not_le.mp (fun h9 => c_104 ((nI_leI (a := 60) (b := (cB (gm f) k)) (by omega) (by omega)).mpr h9))
                refine lv_aload_n hx hb dX8_cut_107 rfl (lv_at hl 0 rfl) ?_
                refine va_get (D := (dC, dI)) (ci := 8) (v := .ref m4) (C := RX8) (T := TX8) (N := 38) hx hb hts hi_X8 hown hK hP 0 rfl rfl 4 (by decide) k_f15 (fun _ h9 => h9) rfl dX8_cut_108 ?_
                refine lv_iload_n hx hb dX8_cut_111 rfl (lv_at hl 3 rfl) ?_
                refine lv_iload hx hb dX8_cut_112 (lv_at hl 6 rfl) ?_
                refine va_iast hx hb hK hP hD hS 2 1 rfl rfl (i := nI (cB (gm f) k)) (x := nI k) (vp_in_nI (by omega) (by omega)) dX8_cut_114 (fun H locs hP hD hS => ?_)
                have er_114 : upd (nR bq9) (nI (cB (gm f) k) : Int32).toNatClampNeg (nI k) = nR (updN bq9 (cB (gm f) k) k) := upd_nR (g := bq9) (i := cB (gm f) k) (v := k) (by omega)
                replace hP : va_P (dC, dI) vwCl [(h0, .inr (8, [.int x0, .int x1, .ref m2, .int (nI c3), .ref m4, .ref m5, .ref m6, .ref m7, .ref m8, .ref m9, .ref m10, .ref m11, .int (nI c12), .int (nI c13), .int (nI c14), .ref m15, .ref m16, .ref m17, .ref m18, .ref m19, .int (nI c20), .int x21, .int (nI c22), .int (nI c23), .ref m24, .ref m25, .int (nI c26), .int (nI c27), .int x28, .ref m29, .ref m30, .ref m31, .ref m32, .ref m33, .ref m34, .int x35, .ref m36, .int (nI c37)])), (tx, .inl (ktx, 600, .inl f)), (m4, .inl (kbg, 60, .inl (nR (updN bq9 (cB (gm f) k) k)))), (m5, .inl (kby, 60, .inl (nR yq9))), (m6, .inl (kmk, 60, .inl (nR mq9)))] H := by rw [← er_114]; exact hP
                replace hD : va_D A [(h0, .inr (8, [.int x0, .int x1, .ref m2, .int (nI c3), .ref m4, .ref m5, .ref m6, .ref m7, .ref m8, .ref m9, .ref m10, .ref m11, .int (nI c12), .int (nI c13), .int (nI c14), .ref m15, .ref m16, .ref m17, .ref m18, .ref m19, .int (nI c20), .int x21, .int (nI c22), .int (nI c23), .ref m24, .ref m25, .int (nI c26), .int (nI c27), .int x28, .ref m29, .ref m30, .ref m31, .ref m32, .ref m33, .ref m34, .int x35, .ref m36, .int (nI c37)])), (tx, .inl (ktx, 600, .inl f)), (m4, .inl (kbg, 60, .inl (nR (updN bq9 (cB (gm f) k) k)))), (m5, .inl (kby, 60, .inl (nR yq9))), (m6, .inl (kmk, 60, .inl (nR mq9)))] := by rw [← er_114]; exact hD
                refine lv_aload_n hx hb dX8_cut_115 rfl (lv_at hl 0 rfl) ?_
                refine va_get (D := (dC, dI)) (ci := 8) (v := .ref m5) (C := RX8) (T := TX8) (N := 38) hx hb hts hi_X8 hown hK hP 0 rfl rfl 5 (by decide) k_f19 (fun _ h9 => h9) rfl dX8_cut_116 ?_
                refine lv_iload_n hx hb dX8_cut_119 rfl (lv_at hl 3 rfl) ?_
                refine lv_iload hx hb dX8_cut_120 (lv_at hl 4 rfl) ?_
                refine lv_iload hx hb dX8_cut_122 (lv_at hl 6 rfl) ?_
                refine lv_isub hx hb dX8_cut_124 ?_
                refine lv_topi (fun x_124 ex_124 => ?_)
                obtain rfl : nI (k2 - k) = x_124 := Eq.symm (ex_124.trans (pk_sub (a := k2) (b := k) (by omega)))
                refine va_iast hx hb hK hP hD hS 3 2 rfl rfl (i := nI (cB (gm f) k)) (x := nI (k2 - k)) (vp_in_nI (by omega) (by omega)) dX8_cut_125 (fun H locs hP hD hS => ?_)
                have er_125 : upd (nR yq9) (nI (cB (gm f) k) : Int32).toNatClampNeg (nI (k2 - k)) = nR (updN yq9 (cB (gm f) k) (k2 - k)) := upd_nR (g := yq9) (i := cB (gm f) k) (v := k2 - k) (by omega)
                replace hP : va_P (dC, dI) vwCl [(h0, .inr (8, [.int x0, .int x1, .ref m2, .int (nI c3), .ref m4, .ref m5, .ref m6, .ref m7, .ref m8, .ref m9, .ref m10, .ref m11, .int (nI c12), .int (nI c13), .int (nI c14), .ref m15, .ref m16, .ref m17, .ref m18, .ref m19, .int (nI c20), .int x21, .int (nI c22), .int (nI c23), .ref m24, .ref m25, .int (nI c26), .int (nI c27), .int x28, .ref m29, .ref m30, .ref m31, .ref m32, .ref m33, .ref m34, .int x35, .ref m36, .int (nI c37)])), (tx, .inl (ktx, 600, .inl f)), (m4, .inl (kbg, 60, .inl (nR (updN bq9 (cB (gm f) k) k)))), (m5, .inl (kby, 60, .inl (nR (updN yq9 (cB (gm f) k) (k2 - k))))), (m6, .inl (kmk, 60, .inl (nR mq9)))] H := by rw [← er_125]; exact hP
                replace hD : va_D A [(h0, .inr (8, [.int x0, .int x1, .ref m2, .int (nI c3), .ref m4, .ref m5, .ref m6, .ref m7, .ref m8, .ref m9, .ref m10, .ref m11, .int (nI c12), .int (nI c13), .int (nI c14), .ref m15, .ref m16, .ref m17, .ref m18, .ref m19, .int (nI c20), .int x21, .int (nI c22), .int (nI c23), .ref m24, .ref m25, .int (nI c26), .int (nI c27), .int x28, .ref m29, .ref m30, .ref m31, .ref m32, .ref m33, .ref m34, .int x35, .ref m36, .int (nI c37)])), (tx, .inl (ktx, 600, .inl f)), (m4, .inl (kbg, 60, .inl (nR (updN bq9 (cB (gm f) k) k)))), (m5, .inl (kby, 60, .inl (nR (updN yq9 (cB (gm f) k) (k2 - k))))), (m6, .inl (kmk, 60, .inl (nR mq9)))] := by rw [← er_125]; exact hD
                refine lv_aload_n hx hb dX8_cut_126 rfl (lv_at hl 0 rfl) ?_
                refine va_get (D := (dC, dI)) (ci := 8) (v := .ref m6) (C := RX8) (T := TX8) (N := 38) hx hb hts hi_X8 hown hK hP 0 rfl rfl 6 (by decide) k_f22 (fun _ h9 => h9) rfl dX8_cut_127 ?_
                refine lv_iload_n hx hb dX8_cut_130 rfl (lv_at hl 3 rfl) ?_
                refine lv_iload hx hb dX8_cut_131 (lv_at hl 5 rfl) ?_
                refine va_zast hx hb hK hP hD hS 4 3 rfl rfl (i := nI (cB (gm f) k)) (x := 1) (vp_in_nI (by omega) (by omega)) dX8_cut_133 (fun H locs hP hD hS => ?_)
                have er_133 : upd (nR mq9) (nI (cB (gm f) k) : Int32).toNatClampNeg (vp_nar .boolean 1) = nR (updN mq9 (cB (gm f) k) 1) := upd_nRz (g := mq9) (i := cB (gm f) k) (v := 1) (by omega) (by omega)
                replace hP : va_P (dC, dI) vwCl [(h0, .inr (8, [.int x0, .int x1, .ref m2, .int (nI c3), .ref m4, .ref m5, .ref m6, .ref m7, .ref m8, .ref m9, .ref m10, .ref m11, .int (nI c12), .int (nI c13), .int (nI c14), .ref m15, .ref m16, .ref m17, .ref m18, .ref m19, .int (nI c20), .int x21, .int (nI c22), .int (nI c23), .ref m24, .ref m25, .int (nI c26), .int (nI c27), .int x28, .ref m29, .ref m30, .ref m31, .ref m32, .ref m33, .ref m34, .int x35, .ref m36, .int (nI c37)])), (tx, .inl (ktx, 600, .inl f)), (m4, .inl (kbg, 60, .inl (nR (updN bq9 (cB (gm f) k) k)))), (m5, .inl (kby, 60, .inl (nR (updN yq9 (cB (gm f) k) (k2 - k))))), (m6, .inl (kmk, 60, .inl (nR (updN mq9 (cB (gm f) k) 1))))] H := by rw [← er_133]; exact hP
                replace hD : va_D A [(h0, .inr (8, [.int x0, .int x1, .ref m2, .int (nI c3), .ref m4, .ref m5, .ref m6, .ref m7, .ref m8, .ref m9, .ref m10, .ref m11, .int (nI c12), .int (nI c13), .int (nI c14), .ref m15, .ref m16, .ref m17, .ref m18, .ref m19, .int (nI c20), .int x21, .int (nI c22), .int (nI c23), .ref m24, .ref m25, .int (nI c26), .int (nI c27), .int x28, .ref m29, .ref m30, .ref m31, .ref m32, .ref m33, .ref m34, .int x35, .ref m36, .int (nI c37)])), (tx, .inl (ktx, 600, .inl f)), (m4, .inl (kbg, 60, .inl (nR (updN bq9 (cB (gm f) k) k)))), (m5, .inl (kby, 60, .inl (nR (updN yq9 (cB (gm f) k) (k2 - k))))), (m6, .inl (kmk, 60, .inl (nR (updN mq9 (cB (gm f) k) 1))))] := by rw [← er_133]; exact hD
                have ecb := cB_run hbw k2 hk2 hrun
                refine lv_iinc (v := nI (cB (gm f) k + 1)) (lv' := [(3, .int (nI (cB (gm f) k + 1))), (0, .ref h0), (1, .ref tx), (2, .int (nI zz)), (4, .int (nI k2)), (6, .int 1), (7, .int (nI k))]) hx hb dX8_cut_134 hl (k := 3) rfl (nI_1 _) (by decide) rfl (fun ls hl => ?_)
                replace hl : lv_has ls 8 [(3, .int (nI (cB (gm f) k2))), (0, .ref h0), (1, .ref tx), (2, .int (nI zz)), (4, .int (nI k2)), (6, .int 1), (7, .int (nI k))] := by rw [ecb]; exact hl
                have hcb2 : cB (gm f) k2 ≤ k2 := by omega
                refine lv_goto (tgt := 5) hx hb dX8_cut_137 (by decide) ?_
                replace hl : lv_has ls 8 [(0, .ref h0), (1, .ref tx), (2, .int (nI zz)), (3, .int (nI (cB (gm f) k2))), (4, .int (nI k2))] := lv_sub hl [1, 2, 3, 0, 4] rfl
                replace hP : va_P (dC, dI) vwCl [(h0, .inr (8, [.int x0, .int x1, .ref m2, .int (nI c3), .ref m4, .ref m5, .ref m6, .ref m7, .ref m8, .ref m9, .ref m10, .ref m11, .int (nI c12), .int (nI c13), .int (nI c14), .ref m15, .ref m16, .ref m17, .ref m18, .ref m19, .int (nI c20), .int x21, .int (nI c22), .int (nI c23), .ref m24, .ref m25, .int (nI c26), .int (nI c27), .int x28, .ref m29, .ref m30, .ref m31, .ref m32, .ref m33, .ref m34, .int x35, .ref m36, .int (nI c37)])), (tx, .inl (ktx, 600, .inl f)), (m4, .inl (kbg, 60, .inl (nR (updN bq9 (cB (gm f) k) k)))), (m5, .inl (kby, 60, .inl (nR (updN yq9 (cB (gm f) k) (k2 - k))))), (m6, .inl (kmk, 60, .inl (nR (updN mq9 (cB (gm f) k) 1))))] H := hP
                replace hD : va_D A [(h0, .inr (8, [.int x0, .int x1, .ref m2, .int (nI c3), .ref m4, .ref m5, .ref m6, .ref m7, .ref m8, .ref m9, .ref m10, .ref m11, .int (nI c12), .int (nI c13), .int (nI c14), .ref m15, .ref m16, .ref m17, .ref m18, .ref m19, .int (nI c20), .int x21, .int (nI c22), .int (nI c23), .ref m24, .ref m25, .int (nI c26), .int (nI c27), .int x28, .ref m29, .ref m30, .ref m31, .ref m32, .ref m33, .ref m34, .int x35, .ref m36, .int (nI c37)])), (tx, .inl (ktx, 600, .inl f)), (m4, .inl (kbg, 60, .inl (nR (updN bq9 (cB (gm f) k) k)))), (m5, .inl (kby, 60, .inl (nR (updN yq9 (cB (gm f) k) (k2 - k))))), (m6, .inl (kmk, 60, .inl (nR (updN mq9 (cB (gm f) k) 1))))] := hD
                have hbd9 : bdy (gm f) zz k2 := bdy_e hk2 hrun hx2
                have hok9 : okC (gm f) (updN bq9 (cB (gm f) k) k) (updN yq9 (cB (gm f) k) (k2 - k)) (updN mq9 (cB (gm f) k) 1) zz k2 := okC_y hok hrun (RF_mk hk2 hk3 hrun hx2) hmv
                apply ih5 (k := k2) (bq9 := updN bq9 (cB (gm f) k) k) (yq9 := updN yq9 (cB (gm f) k) (k2 - k)) (mq9 := updN mq9 (cB (gm f) k) 1) <;> first | assumption | omega
      · subst hr_23
        refine lv_istore (lv' := [(6, .int 0), (5, .int (nI ((f k).toBitVec.toNat % 256))), (0, .ref h0), (1, .ref tx), (2, .int (nI zz)), (3, .int (nI (cB (gm f) k))), (4, .int (nI k))]) hx hb dX8_cut_26 hl (by decide) rfl (fun ls hl => ?_)
        refine lv_iload hx hb dX8_cut_28 (lv_at hl 0 rfl) ?_
        refine lv_if_ne (tgt := 48) hx hb dX8_cut_30 (by decide) (fun c_30 => ?_) (fun c_30 => ?_)
        · exact absurd (by decide) c_30
        refine lv_iload hx hb dX8_cut_33 (lv_at hl 1 rfl) ?_
        refine vp_callSi (W.runS (As := [.int (nI ((f k).toBitVec.toNat % 256))]) (rest := []) ⟨hx, hb, hml, hown, hts⟩ (g_X8_signOf l dC dI ((f k).toBitVec.toNat % 256) (Nat.mod_lt _ (by decide))) (va_cwS 1 hts gX8_cut_X8_signOf rfl rfl rfl (by decide +kernel) ⟨Nat.le_of_ble_eq_true rfl, Nat.le_of_ble_eq_true rfl⟩) ⟨fun a U g mk q => q, fun U hU hW => ⟨rfl, trivial⟩⟩ rfl rfl hl.1 rfl (lv_room (Nat.le_of_ble_eq_true rfl)) dX8_cut_35 ⟨Nat.le_of_ble_eq_true rfl, Nat.le_of_ble_eq_true rfl⟩) (fun r_35 hw_35 => ?_)
        rcases hw_35 with ⟨hr_35, hb_35⟩ | ⟨pp_35, hr_35, hb_35⟩
        · subst hr_35
          refine lv_iconst (v := (-1)) hx hb dX8_cut_38 (by decide) ?_
          refine lv_icmp_ne (tgt := 48) hx hb dX8_cut_39 (by decide) (fun c_39 => ?_) (fun c_39 => ?_)
          · exact absurd (by decide) c_39
          have hk29 : kN (gm f k) = 29 := by have h9 : 26 < gm f k := hb_35; have h10 := gm_ok f k; have h11 : ¬ gm f k = 28 := hb_23; rw [kN_n0 h9]; omega
          refine lv_iinc (v := nI (k + 1)) (lv' := [(4, .int (nI (k + 1))), (6, .int 0), (5, .int (nI ((f k).toBitVec.toNat % 256))), (0, .ref h0), (1, .ref tx), (2, .int (nI zz)), (3, .int (nI (cB (gm f) k)))]) hx hb dX8_cut_42 hl (k := 6) rfl (nI_1 _) (by decide) rfl (fun ls hl => ?_)
          have ecn : cB (gm f) (k + 1) = cB (gm f) k := cB_n (fun h => h.1 hk29)
          replace hl : lv_has ls 8 [(4, .int (nI (k + 1))), (6, .int 0), (5, .int (nI ((f k).toBitVec.toNat % 256))), (0, .ref h0), (1, .ref tx), (2, .int (nI zz)), (3, .int (nI (cB (gm f) (k + 1))))] := by rw [ecn]; exact hl
          have hcb2 : cB (gm f) (k + 1) ≤ k + 1 := by omega
          refine lv_goto (tgt := 5) hx hb dX8_cut_45 (by decide) ?_
          replace hl : lv_has ls 8 [(0, .ref h0), (1, .ref tx), (2, .int (nI zz)), (3, .int (nI (cB (gm f) (k + 1)))), (4, .int (nI (k + 1)))] := lv_sub hl [3, 4, 5, 6, 0] rfl
          replace hP : va_P (dC, dI) vwCl [(h0, .inr (8, [.int x0, .int x1, .ref m2, .int (nI c3), .ref m4, .ref m5, .ref m6, .ref m7, .ref m8, .ref m9, .ref m10, .ref m11, .int (nI c12), .int (nI c13), .int (nI c14), .ref m15, .ref m16, .ref m17, .ref m18, .ref m19, .int (nI c20), .int x21, .int (nI c22), .int (nI c23), .ref m24, .ref m25, .int (nI c26), .int (nI c27), .int x28, .ref m29, .ref m30, .ref m31, .ref m32, .ref m33, .ref m34, .int x35, .ref m36, .int (nI c37)])), (tx, .inl (ktx, 600, .inl f)), (m4, .inl (kbg, 60, .inl (nR bq9))), (m5, .inl (kby, 60, .inl (nR yq9))), (m6, .inl (kmk, 60, .inl (nR mq9)))] H := hP
          replace hD : va_D A [(h0, .inr (8, [.int x0, .int x1, .ref m2, .int (nI c3), .ref m4, .ref m5, .ref m6, .ref m7, .ref m8, .ref m9, .ref m10, .ref m11, .int (nI c12), .int (nI c13), .int (nI c14), .ref m15, .ref m16, .ref m17, .ref m18, .ref m19, .int (nI c20), .int x21, .int (nI c22), .int (nI c23), .ref m24, .ref m25, .int (nI c26), .int (nI c27), .int x28, .ref m29, .ref m30, .ref m31, .ref m32, .ref m33, .ref m34, .int x35, .ref m36, .int (nI c37)])), (tx, .inl (ktx, 600, .inl f)), (m4, .inl (kbg, 60, .inl (nR bq9))), (m5, .inl (kby, 60, .inl (nR yq9))), (m6, .inl (kmk, 60, .inl (nR mq9)))] := hD
          have hbd9 : bdy (gm f) zz (k + 1) := Or.inr (Or.inr (Or.inl (by rw [Nat.add_sub_cancel]; exact hk29)))
          have hok9 : okC (gm f) bq9 yq9 mq9 zz (k + 1) := okC_n hok (fun h => h.1 hk29)
          apply ih5 (k := k + 1) (bq9 := bq9) (yq9 := yq9) (mq9 := mq9) <;> first | assumption | omega
        · subst hr_35
          refine lv_iconst (v := (-1)) hx hb dX8_cut_38 (by decide) ?_
          refine lv_icmp_ne (tgt := 48) hx hb dX8_cut_39 (by decide) (fun c_39 => ?_) (fun c_39 => ?_)
          rotate_left
          · exact absurd c_39 (nI_nm1 (by omega))
          have hdg : gm f k ≤ 26 := by have h9 : pp_35 = gm f k ∧ pp_35 ≤ 26 := hb_35; omega
          have hbw := bdy_bW hbd n_8 (by rw [kN_0 hdg]; decide)
          have hmv : 0 = (if gm f k = 28 then 1 else 0) := by rw [if_neg (by omega)]
          refine lv_iload hx hb dX8_cut_48 (lv_at hl 6 rfl) ?_
          refine lv_istore (lv' := [(7, .int (nI k)), (6, .int 0), (5, .int (nI ((f k).toBitVec.toNat % 256))), (0, .ref h0), (1, .ref tx), (2, .int (nI zz)), (3, .int (nI (cB (gm f) k))), (4, .int (nI k))]) hx hb dX8_cut_50 hl (by decide) rfl (fun ls hl => ?_)
          obtain ⟨k2, e_k2⟩ : ∃ y : Nat, y = k := ⟨_, rfl⟩
          replace hl : lv_has ls 8 [(0, .ref h0), (1, .ref tx), (2, .int (nI zz)), (3, .int (nI (cB (gm f) k))), (4, .int (nI k2)), (6, .int 0), (7, .int (nI k))] := by subst e_k2; exact lv_sub hl [3, 4, 5, 6, 7, 1, 0] rfl
          have hk3 : k2 ≤ zz := by subst e_k2; omega
          have hk4 : k ≤ k2 := by subst e_k2; omega
          have hrun : run (gm f) k k2 := by subst e_k2; exact run_0
          clear e_k2
          obtain ⟨nn52, hnn52⟩ : ∃ q : Nat, zz - k2 < q := ⟨_, Nat.lt_succ_self _⟩
          induction nn52 generalizing k2 ls with
          | zero => exact absurd hnn52 (Nat.not_lt_zero _)
          | succ nn52 ih52 =>
            refine lv_iload hx hb dX8_cut_52 (lv_at hl 4 rfl) ?_
            refine lv_iload_n hx hb dX8_cut_54 rfl (lv_at hl 2 rfl) ?_
            refine lv_icmp_ge (tgt := 101) hx hb dX8_cut_55 (by decide) (fun c_55 => ?_) (fun c_55 => ?_)
            · have n_55 : zz ≤ k2 := (nI_leI (a := zz) (b := k2) (by omega) (by omega)).mp c_55
              have hx2 : k2 = zz ∨ kN (gm f k2) ≠ kN (gm f k) := Or.inl (by omega)
              have hk2 : k < k2 := by rcases hx2 with h | h; omega; exact Nat.lt_of_le_of_ne hk4 (fun e => h (by rw [e]))
              refine lv_iload_n hx hb dX8_cut_101 rfl (lv_at hl 3 rfl) ?_
              refine lv_bipush (v := 60) hx hb dX8_cut_102 (by decide) ?_
              refine lv_icmp_ge (tgt := 134) hx hb dX8_cut_104 (by decide) (fun c_104 => ?_) (fun c_104 => ?_)
              · have n_104 : 60 ≤ (cB (gm f) k) := (nI_leI (a := 60) (b := (cB (gm f) k)) (by omega) (by omega)).mp c_104
                have ecb := cB_run hbw k2 hk2 hrun
                refine lv_iinc (v := nI (cB (gm f) k + 1)) (lv' := [(3, .int (nI (cB (gm f) k + 1))), (0, .ref h0), (1, .ref tx), (2, .int (nI zz)), (4, .int (nI k2)), (6, .int 0), (7, .int (nI k))]) hx hb dX8_cut_134 hl (k := 3) rfl (nI_1 _) (by decide) rfl (fun ls hl => ?_)
                replace hl : lv_has ls 8 [(3, .int (nI (cB (gm f) k2))), (0, .ref h0), (1, .ref tx), (2, .int (nI zz)), (4, .int (nI k2)), (6, .int 0), (7, .int (nI k))] := by rw [ecb]; exact hl
                have hcb2 : cB (gm f) k2 ≤ k2 := by omega
                refine lv_goto (tgt := 5) hx hb dX8_cut_137 (by decide) ?_
                replace hl : lv_has ls 8 [(0, .ref h0), (1, .ref tx), (2, .int (nI zz)), (3, .int (nI (cB (gm f) k2))), (4, .int (nI k2))] := lv_sub hl [1, 2, 3, 0, 4] rfl
                replace hP : va_P (dC, dI) vwCl [(h0, .inr (8, [.int x0, .int x1, .ref m2, .int (nI c3), .ref m4, .ref m5, .ref m6, .ref m7, .ref m8, .ref m9, .ref m10, .ref m11, .int (nI c12), .int (nI c13), .int (nI c14), .ref m15, .ref m16, .ref m17, .ref m18, .ref m19, .int (nI c20), .int x21, .int (nI c22), .int (nI c23), .ref m24, .ref m25, .int (nI c26), .int (nI c27), .int x28, .ref m29, .ref m30, .ref m31, .ref m32, .ref m33, .ref m34, .int x35, .ref m36, .int (nI c37)])), (tx, .inl (ktx, 600, .inl f)), (m4, .inl (kbg, 60, .inl (nR bq9))), (m5, .inl (kby, 60, .inl (nR yq9))), (m6, .inl (kmk, 60, .inl (nR mq9)))] H := hP
                replace hD : va_D A [(h0, .inr (8, [.int x0, .int x1, .ref m2, .int (nI c3), .ref m4, .ref m5, .ref m6, .ref m7, .ref m8, .ref m9, .ref m10, .ref m11, .int (nI c12), .int (nI c13), .int (nI c14), .ref m15, .ref m16, .ref m17, .ref m18, .ref m19, .int (nI c20), .int x21, .int (nI c22), .int (nI c23), .ref m24, .ref m25, .int (nI c26), .int (nI c27), .int x28, .ref m29, .ref m30, .ref m31, .ref m32, .ref m33, .ref m34, .int x35, .ref m36, .int (nI c37)])), (tx, .inl (ktx, 600, .inl f)), (m4, .inl (kbg, 60, .inl (nR bq9))), (m5, .inl (kby, 60, .inl (nR yq9))), (m6, .inl (kmk, 60, .inl (nR mq9)))] := hD
                have hbd9 : bdy (gm f) zz k2 := bdy_e hk2 hrun hx2
                have hok9 : okC (gm f) bq9 yq9 mq9 zz k2 := okC_b hok hrun n_104
                apply ih5 (k := k2) (bq9 := bq9) (yq9 := yq9) (mq9 := mq9) <;> first | assumption | omega
              · have n_104 : (cB (gm f) k) < 60 := Nat.not_le.mp (fun h9 => c_104 ((nI_leI (a := 60) (b := (cB (gm f) k)) (by omega) (by omega)).mpr h9))
                refine lv_aload_n hx hb dX8_cut_107 rfl (lv_at hl 0 rfl) ?_
                refine va_get (D := (dC, dI)) (ci := 8) (v := .ref m4) (C := RX8) (T := TX8) (N := 38) hx hb hts hi_X8 hown hK hP 0 rfl rfl 4 (by decide) k_f15 (fun _ h9 => h9) rfl dX8_cut_108 ?_
                refine lv_iload_n hx hb dX8_cut_111 rfl (lv_at hl 3 rfl) ?_
                refine lv_iload hx hb dX8_cut_112 (lv_at hl 6 rfl) ?_
                refine va_iast hx hb hK hP hD hS 2 1 rfl rfl (i := nI (cB (gm f) k)) (x := nI k) (vp_in_nI (by omega) (by omega)) dX8_cut_114 (fun H locs hP hD hS => ?_)
                have er_114 : upd (nR bq9) (nI (cB (gm f) k) : Int32).toNatClampNeg (nI k) = nR (updN bq9 (cB (gm f) k) k) := upd_nR (g := bq9) (i := cB (gm f) k) (v := k) (by omega)
                replace hP : va_P (dC, dI) vwCl [(h0, .inr (8, [.int x0, .int x1, .ref m2, .int (nI c3), .ref m4, .ref m5, .ref m6, .ref m7, .ref m8, .ref m9, .ref m10, .ref m11, .int (nI c12), .int (nI c13), .int (nI c14), .ref m15, .ref m16, .ref m17, .ref m18, .ref m19, .int (nI c20), .int x21, .int (nI c22), .int (nI c23), .ref m24, .ref m25, .int (nI c26), .int (nI c27), .int x28, .ref m29, .ref m30, .ref m31, .ref m32, .ref m33, .ref m34, .int x35, .ref m36, .int (nI c37)])), (tx, .inl (ktx, 600, .inl f)), (m4, .inl (kbg, 60, .inl (nR (updN bq9 (cB (gm f) k) k)))), (m5, .inl (kby, 60, .inl (nR yq9))), (m6, .inl (kmk, 60, .inl (nR mq9)))] H := by rw [← er_114]; exact hP
                replace hD : va_D A [(h0, .inr (8, [.int x0, .int x1, .ref m2, .int (nI c3), .ref m4, .ref m5, .ref m6, .ref m7, .ref m8, .ref m9, .ref m10, .ref m11, .int (nI c12), .int (nI c13), .int (nI c14), .ref m15, .ref m16, .ref m17, .ref m18, .ref m19, .int (nI c20), .int x21, .int (nI c22), .int (nI c23), .ref m24, .ref m25, .int (nI c26), .int (nI c27), .int x28, .ref m29, .ref m30, .ref m31, .ref m32, .ref m33, .ref m34, .int x35, .ref m36, .int (nI c37)])), (tx, .inl (ktx, 600, .inl f)), (m4, .inl (kbg, 60, .inl (nR (updN bq9 (cB (gm f) k) k)))), (m5, .inl (kby, 60, .inl (nR yq9))), (m6, .inl (kmk, 60, .inl (nR mq9)))] := by rw [← er_114]; exact hD
                refine lv_aload_n hx hb dX8_cut_115 rfl (lv_at hl 0 rfl) ?_
                refine va_get (D := (dC, dI)) (ci := 8) (v := .ref m5) (C := RX8) (T := TX8) (N := 38) hx hb hts hi_X8 hown hK hP 0 rfl rfl 5 (by decide) k_f19 (fun _ h9 => h9) rfl dX8_cut_116 ?_
                refine lv_iload_n hx hb dX8_cut_119 rfl (lv_at hl 3 rfl) ?_
                refine lv_iload hx hb dX8_cut_120 (lv_at hl 4 rfl) ?_
                refine lv_iload hx hb dX8_cut_122 (lv_at hl 6 rfl) ?_
                refine lv_isub hx hb dX8_cut_124 ?_
                refine lv_topi (fun x_124 ex_124 => ?_)
                obtain rfl : nI (k2 - k) = x_124 := Eq.symm (ex_124.trans (pk_sub (a := k2) (b := k) (by omega)))
                refine va_iast hx hb hK hP hD hS 3 2 rfl rfl (i := nI (cB (gm f) k)) (x := nI (k2 - k)) (vp_in_nI (by omega) (by omega)) dX8_cut_125 (fun H locs hP hD hS => ?_)
                have er_125 : upd (nR yq9) (nI (cB (gm f) k) : Int32).toNatClampNeg (nI (k2 - k)) = nR (updN yq9 (cB (gm f) k) (k2 - k)) := upd_nR (g := yq9) (i := cB (gm f) k) (v := k2 - k) (by omega)
                replace hP : va_P (dC, dI) vwCl [(h0, .inr (8, [.int x0, .int x1, .ref m2, .int (nI c3), .ref m4, .ref m5, .ref m6, .ref m7, .ref m8, .ref m9, .ref m10, .ref m11, .int (nI c12), .int (nI c13), .int (nI c14), .ref m15, .ref m16, .ref m17, .ref m18, .ref m19, .int (nI c20), .int x21, .int (nI c22), .int (nI c23), .ref m24, .ref m25, .int (nI c26), .int (nI c27), .int x28, .ref m29, .ref m30, .ref m31, .ref m32, .ref m33, .ref m34, .int x35, .ref m36, .int (nI c37)])), (tx, .inl (ktx, 600, .inl f)), (m4, .inl (kbg, 60, .inl (nR (updN bq9 (cB (gm f) k) k)))), (m5, .inl (kby, 60, .inl (nR (updN yq9 (cB (gm f) k) (k2 - k))))), (m6, .inl (kmk, 60, .inl (nR mq9)))] H := by rw [← er_125]; exact hP
                replace hD : va_D A [(h0, .inr (8, [.int x0, .int x1, .ref m2, .int (nI c3), .ref m4, .ref m5, .ref m6, .ref m7, .ref m8, .ref m9, .ref m10, .ref m11, .int (nI c12), .int (nI c13), .int (nI c14), .ref m15, .ref m16, .ref m17, .ref m18, .ref m19, .int (nI c20), .int x21, .int (nI c22), .int (nI c23), .ref m24, .ref m25, .int (nI c26), .int (nI c27), .int x28, .ref m29, .ref m30, .ref m31, .ref m32, .ref m33, .ref m34, .int x35, .ref m36, .int (nI c37)])), (tx, .inl (ktx, 600, .inl f)), (m4, .inl (kbg, 60, .inl (nR (updN bq9 (cB (gm f) k) k)))), (m5, .inl (kby, 60, .inl (nR (updN yq9 (cB (gm f) k) (k2 - k))))), (m6, .inl (kmk, 60, .inl (nR mq9)))] := by rw [← er_125]; exact hD
                refine lv_aload_n hx hb dX8_cut_126 rfl (lv_at hl 0 rfl) ?_
                refine va_get (D := (dC, dI)) (ci := 8) (v := .ref m6) (C := RX8) (T := TX8) (N := 38) hx hb hts hi_X8 hown hK hP 0 rfl rfl 6 (by decide) k_f22 (fun _ h9 => h9) rfl dX8_cut_127 ?_
                refine lv_iload_n hx hb dX8_cut_130 rfl (lv_at hl 3 rfl) ?_
                refine lv_iload hx hb dX8_cut_131 (lv_at hl 5 rfl) ?_
                refine va_zast hx hb hK hP hD hS 4 3 rfl rfl (i := nI (cB (gm f) k)) (x := 0) (vp_in_nI (by omega) (by omega)) dX8_cut_133 (fun H locs hP hD hS => ?_)
                have er_133 : upd (nR mq9) (nI (cB (gm f) k) : Int32).toNatClampNeg (vp_nar .boolean 0) = nR (updN mq9 (cB (gm f) k) 0) := upd_nRz (g := mq9) (i := cB (gm f) k) (v := 0) (by omega) (by omega)
                replace hP : va_P (dC, dI) vwCl [(h0, .inr (8, [.int x0, .int x1, .ref m2, .int (nI c3), .ref m4, .ref m5, .ref m6, .ref m7, .ref m8, .ref m9, .ref m10, .ref m11, .int (nI c12), .int (nI c13), .int (nI c14), .ref m15, .ref m16, .ref m17, .ref m18, .ref m19, .int (nI c20), .int x21, .int (nI c22), .int (nI c23), .ref m24, .ref m25, .int (nI c26), .int (nI c27), .int x28, .ref m29, .ref m30, .ref m31, .ref m32, .ref m33, .ref m34, .int x35, .ref m36, .int (nI c37)])), (tx, .inl (ktx, 600, .inl f)), (m4, .inl (kbg, 60, .inl (nR (updN bq9 (cB (gm f) k) k)))), (m5, .inl (kby, 60, .inl (nR (updN yq9 (cB (gm f) k) (k2 - k))))), (m6, .inl (kmk, 60, .inl (nR (updN mq9 (cB (gm f) k) 0))))] H := by rw [← er_133]; exact hP
                replace hD : va_D A [(h0, .inr (8, [.int x0, .int x1, .ref m2, .int (nI c3), .ref m4, .ref m5, .ref m6, .ref m7, .ref m8, .ref m9, .ref m10, .ref m11, .int (nI c12), .int (nI c13), .int (nI c14), .ref m15, .ref m16, .ref m17, .ref m18, .ref m19, .int (nI c20), .int x21, .int (nI c22), .int (nI c23), .ref m24, .ref m25, .int (nI c26), .int (nI c27), .int x28, .ref m29, .ref m30, .ref m31, .ref m32, .ref m33, .ref m34, .int x35, .ref m36, .int (nI c37)])), (tx, .inl (ktx, 600, .inl f)), (m4, .inl (kbg, 60, .inl (nR (updN bq9 (cB (gm f) k) k)))), (m5, .inl (kby, 60, .inl (nR (updN yq9 (cB (gm f) k) (k2 - k))))), (m6, .inl (kmk, 60, .inl (nR (updN mq9 (cB (gm f) k) 0))))] := by rw [← er_133]; exact hD
                have ecb := cB_run hbw k2 hk2 hrun
                refine lv_iinc (v := nI (cB (gm f) k + 1)) (lv' := [(3, .int (nI (cB (gm f) k + 1))), (0, .ref h0), (1, .ref tx), (2, .int (nI zz)), (4, .int (nI k2)), (6, .int 0), (7, .int (nI k))]) hx hb dX8_cut_134 hl (k := 3) rfl (nI_1 _) (by decide) rfl (fun ls hl => ?_)
                replace hl : lv_has ls 8 [(3, .int (nI (cB (gm f) k2))), (0, .ref h0), (1, .ref tx), (2, .int (nI zz)), (4, .int (nI k2)), (6, .int 0), (7, .int (nI k))] := by rw [ecb]; exact hl
                have hcb2 : cB (gm f) k2 ≤ k2 := by omega
                refine lv_goto (tgt := 5) hx hb dX8_cut_137 (by decide) ?_
                replace hl : lv_has ls 8 [(0, .ref h0), (1, .ref tx), (2, .int (nI zz)), (3, .int (nI (cB (gm f) k2))), (4, .int (nI k2))] := lv_sub hl [1, 2, 3, 0, 4] rfl
                replace hP : va_P (dC, dI) vwCl [(h0, .inr (8, [.int x0, .int x1, .ref m2, .int (nI c3), .ref m4, .ref m5, .ref m6, .ref m7, .ref m8, .ref m9, .ref m10, .ref m11, .int (nI c12), .int (nI c13), .int (nI c14), .ref m15, .ref m16, .ref m17, .ref m18, .ref m19, .int (nI c20), .int x21, .int (nI c22), .int (nI c23), .ref m24, .ref m25, .int (nI c26), .int (nI c27), .int x28, .ref m29, .ref m30, .ref m31, .ref m32, .ref m33, .ref m34, .int x35, .ref m36, .int (nI c37)])), (tx, .inl (ktx, 600, .inl f)), (m4, .inl (kbg, 60, .inl (nR (updN bq9 (cB (gm f) k) k)))), (m5, .inl (kby, 60, .inl (nR (updN yq9 (cB (gm f) k) (k2 - k))))), (m6, .inl (kmk, 60, .inl (nR (updN mq9 (cB (gm f) k) 0))))] H := hP
                replace hD : va_D A [(h0, .inr (8, [.int x0, .int x1, .ref m2, .int (nI c3), .ref m4, .ref m5, .ref m6, .ref m7, .ref m8, .ref m9, .ref m10, .ref m11, .int (nI c12), .int (nI c13), .int (nI c14), .ref m15, .ref m16, .ref m17, .ref m18, .ref m19, .int (nI c20), .int x21, .int (nI c22), .int (nI c23), .ref m24, .ref m25, .int (nI c26), .int (nI c27), .int x28, .ref m29, .ref m30, .ref m31, .ref m32, .ref m33, .ref m34, .int x35, .ref m36, .int (nI c37)])), (tx, .inl (ktx, 600, .inl f)), (m4, .inl (kbg, 60, .inl (nR (updN bq9 (cB (gm f) k) k)))), (m5, .inl (kby, 60, .inl (nR (updN yq9 (cB (gm f) k) (k2 - k))))), (m6, .inl (kmk, 60, .inl (nR (updN mq9 (cB (gm f) k) 0))))] := hD
                have hbd9 : bdy (gm f) zz k2 := bdy_e hk2 hrun hx2
                have hok9 : okC (gm f) (updN bq9 (cB (gm f) k) k) (updN yq9 (cB (gm f) k) (k2 - k)) (updN mq9 (cB (gm f) k) 0) zz k2 := okC_y hok hrun (RF_mk hk2 hk3 hrun hx2) hmv
                apply ih5 (k := k2) (bq9 := updN bq9 (cB (gm f) k) k) (yq9 := updN yq9 (cB (gm f) k) (k2 - k)) (mq9 := updN mq9 (cB (gm f) k) 0) <;> first | assumption | omega
            · have n_55 : k2 < zz := Nat.not_le.mp (fun h9 => c_55 ((nI_leI (a := zz) (b := k2) (by omega) (by omega)).mpr h9))
              refine lv_iload hx hb dX8_cut_58 (lv_at hl 5 rfl) ?_
              refine lv_if_eq (tgt := 80) hx hb dX8_cut_60 (by decide) (fun c_60 => ?_) (fun c_60 => ?_)
              rotate_left
              · exact absurd (by decide) c_60
              refine lv_aload_n hx hb dX8_cut_80 rfl (lv_at hl 1 rfl) ?_
              refine lv_iload hx hb dX8_cut_81 (lv_at hl 4 rfl) ?_
              refine va_bald hx hb hK hP 1 0 rfl rfl (i := nI k2) (vp_in_nI (by omega) (by omega)) dX8_cut_83 ?_
              refine lv_topi (fun x_83 ex_83 => ?_)
              obtain rfl : f k2 = x_83 := Eq.symm (ex_83.trans (fR_at (by omega)))
              refine lv_sipush (v := 255) hx hb dX8_cut_84 (by decide) ?_
              refine lv_iand hx hb dX8_cut_87 ?_
              refine lv_topi (fun x_87 ex_87 => ?_)
              obtain rfl : nI ((f k2).toBitVec.toNat % 256) = x_87 := Eq.symm (ex_87.trans (pk_and _ 8 (by decide)))
              refine vp_callSi (W.runS (As := [.int (nI ((f k2).toBitVec.toNat % 256))]) (rest := []) ⟨hx, hb, hml, hown, hts⟩ (g_X8_signOf l dC dI ((f k2).toBitVec.toNat % 256) (Nat.mod_lt _ (by decide))) (va_cwS 1 hts gX8_cut_X8_signOf rfl rfl rfl (by decide +kernel) ⟨Nat.le_of_ble_eq_true rfl, Nat.le_of_ble_eq_true rfl⟩) ⟨fun a U g mk q => q, fun U hU hW => ⟨rfl, trivial⟩⟩ rfl rfl hl.1 rfl (lv_room (Nat.le_of_ble_eq_true rfl)) dX8_cut_88 ⟨Nat.le_of_ble_eq_true rfl, Nat.le_of_ble_eq_true rfl⟩) (fun r_88 hw_88 => ?_)
              rcases hw_88 with ⟨hr_88, hb_88⟩ | ⟨pp_88, hr_88, hb_88⟩
              · subst hr_88
                refine lv_iconst (v := (-1)) hx hb dX8_cut_91 (by decide) ?_
                refine lv_icmp_eq (tgt := 101) hx hb dX8_cut_92 (by decide) (fun c_92 => ?_) (fun c_92 => ?_)
                rotate_left
                · exact absurd (by decide) c_92
                have hx2 : k2 = zz ∨ kN (gm f k2) ≠ kN (gm f k) := Or.inr (by rw [kN_0 hdg]; have h9 : 26 < gm f k2 := hb_88; rw [kN_n0 h9]; omega)
                have hk2 : k < k2 := by rcases hx2 with h | h; omega; exact Nat.lt_of_le_of_ne hk4 (fun e => h (by rw [e]))
                refine lv_iload_n hx hb dX8_cut_101 rfl (lv_at hl 3 rfl) ?_
                refine lv_bipush (v := 60) hx hb dX8_cut_102 (by decide) ?_
                refine lv_icmp_ge (tgt := 134) hx hb dX8_cut_104 (by decide) (fun c_104 => ?_) (fun c_104 => ?_)
                · have n_104 : 60 ≤ (cB (gm f) k) := (nI_leI (a := 60) (b := (cB (gm f) k)) (by omega) (by omega)).mp c_104
                  have ecb := cB_run hbw k2 hk2 hrun
                  refine lv_iinc (v := nI (cB (gm f) k + 1)) (lv' := [(3, .int (nI (cB (gm f) k + 1))), (0, .ref h0), (1, .ref tx), (2, .int (nI zz)), (4, .int (nI k2)), (6, .int 0), (7, .int (nI k))]) hx hb dX8_cut_134 hl (k := 3) rfl (nI_1 _) (by decide) rfl (fun ls hl => ?_)
                  replace hl : lv_has ls 8 [(3, .int (nI (cB (gm f) k2))), (0, .ref h0), (1, .ref tx), (2, .int (nI zz)), (4, .int (nI k2)), (6, .int 0), (7, .int (nI k))] := by rw [ecb]; exact hl
                  have hcb2 : cB (gm f) k2 ≤ k2 := by omega
                  refine lv_goto (tgt := 5) hx hb dX8_cut_137 (by decide) ?_
                  replace hl : lv_has ls 8 [(0, .ref h0), (1, .ref tx), (2, .int (nI zz)), (3, .int (nI (cB (gm f) k2))), (4, .int (nI k2))] := lv_sub hl [1, 2, 3, 0, 4] rfl
                  replace hP : va_P (dC, dI) vwCl [(h0, .inr (8, [.int x0, .int x1, .ref m2, .int (nI c3), .ref m4, .ref m5, .ref m6, .ref m7, .ref m8, .ref m9, .ref m10, .ref m11, .int (nI c12), .int (nI c13), .int (nI c14), .ref m15, .ref m16, .ref m17, .ref m18, .ref m19, .int (nI c20), .int x21, .int (nI c22), .int (nI c23), .ref m24, .ref m25, .int (nI c26), .int (nI c27), .int x28, .ref m29, .ref m30, .ref m31, .ref m32, .ref m33, .ref m34, .int x35, .ref m36, .int (nI c37)])), (tx, .inl (ktx, 600, .inl f)), (m4, .inl (kbg, 60, .inl (nR bq9))), (m5, .inl (kby, 60, .inl (nR yq9))), (m6, .inl (kmk, 60, .inl (nR mq9)))] H := hP
                  replace hD : va_D A [(h0, .inr (8, [.int x0, .int x1, .ref m2, .int (nI c3), .ref m4, .ref m5, .ref m6, .ref m7, .ref m8, .ref m9, .ref m10, .ref m11, .int (nI c12), .int (nI c13), .int (nI c14), .ref m15, .ref m16, .ref m17, .ref m18, .ref m19, .int (nI c20), .int x21, .int (nI c22), .int (nI c23), .ref m24, .ref m25, .int (nI c26), .int (nI c27), .int x28, .ref m29, .ref m30, .ref m31, .ref m32, .ref m33, .ref m34, .int x35, .ref m36, .int (nI c37)])), (tx, .inl (ktx, 600, .inl f)), (m4, .inl (kbg, 60, .inl (nR bq9))), (m5, .inl (kby, 60, .inl (nR yq9))), (m6, .inl (kmk, 60, .inl (nR mq9)))] := hD
                  have hbd9 : bdy (gm f) zz k2 := bdy_e hk2 hrun hx2
                  have hok9 : okC (gm f) bq9 yq9 mq9 zz k2 := okC_b hok hrun n_104
                  apply ih5 (k := k2) (bq9 := bq9) (yq9 := yq9) (mq9 := mq9) <;> first | assumption | omega
                · have n_104 : (cB (gm f) k) < 60 := Nat.not_le.mp (fun h9 => c_104 ((nI_leI (a := 60) (b := (cB (gm f) k)) (by omega) (by omega)).mpr h9))
                  refine lv_aload_n hx hb dX8_cut_107 rfl (lv_at hl 0 rfl) ?_
                  refine va_get (D := (dC, dI)) (ci := 8) (v := .ref m4) (C := RX8) (T := TX8) (N := 38) hx hb hts hi_X8 hown hK hP 0 rfl rfl 4 (by decide) k_f15 (fun _ h9 => h9) rfl dX8_cut_108 ?_
                  refine lv_iload_n hx hb dX8_cut_111 rfl (lv_at hl 3 rfl) ?_
                  refine lv_iload hx hb dX8_cut_112 (lv_at hl 6 rfl) ?_
                  refine va_iast hx hb hK hP hD hS 2 1 rfl rfl (i := nI (cB (gm f) k)) (x := nI k) (vp_in_nI (by omega) (by omega)) dX8_cut_114 (fun H locs hP hD hS => ?_)
                  have er_114 : upd (nR bq9) (nI (cB (gm f) k) : Int32).toNatClampNeg (nI k) = nR (updN bq9 (cB (gm f) k) k) := upd_nR (g := bq9) (i := cB (gm f) k) (v := k) (by omega)
                  replace hP : va_P (dC, dI) vwCl [(h0, .inr (8, [.int x0, .int x1, .ref m2, .int (nI c3), .ref m4, .ref m5, .ref m6, .ref m7, .ref m8, .ref m9, .ref m10, .ref m11, .int (nI c12), .int (nI c13), .int (nI c14), .ref m15, .ref m16, .ref m17, .ref m18, .ref m19, .int (nI c20), .int x21, .int (nI c22), .int (nI c23), .ref m24, .ref m25, .int (nI c26), .int (nI c27), .int x28, .ref m29, .ref m30, .ref m31, .ref m32, .ref m33, .ref m34, .int x35, .ref m36, .int (nI c37)])), (tx, .inl (ktx, 600, .inl f)), (m4, .inl (kbg, 60, .inl (nR (updN bq9 (cB (gm f) k) k)))), (m5, .inl (kby, 60, .inl (nR yq9))), (m6, .inl (kmk, 60, .inl (nR mq9)))] H := by rw [← er_114]; exact hP
                  replace hD : va_D A [(h0, .inr (8, [.int x0, .int x1, .ref m2, .int (nI c3), .ref m4, .ref m5, .ref m6, .ref m7, .ref m8, .ref m9, .ref m10, .ref m11, .int (nI c12), .int (nI c13), .int (nI c14), .ref m15, .ref m16, .ref m17, .ref m18, .ref m19, .int (nI c20), .int x21, .int (nI c22), .int (nI c23), .ref m24, .ref m25, .int (nI c26), .int (nI c27), .int x28, .ref m29, .ref m30, .ref m31, .ref m32, .ref m33, .ref m34, .int x35, .ref m36, .int (nI c37)])), (tx, .inl (ktx, 600, .inl f)), (m4, .inl (kbg, 60, .inl (nR (updN bq9 (cB (gm f) k) k)))), (m5, .inl (kby, 60, .inl (nR yq9))), (m6, .inl (kmk, 60, .inl (nR mq9)))] := by rw [← er_114]; exact hD
                  refine lv_aload_n hx hb dX8_cut_115 rfl (lv_at hl 0 rfl) ?_
                  refine va_get (D := (dC, dI)) (ci := 8) (v := .ref m5) (C := RX8) (T := TX8) (N := 38) hx hb hts hi_X8 hown hK hP 0 rfl rfl 5 (by decide) k_f19 (fun _ h9 => h9) rfl dX8_cut_116 ?_
                  refine lv_iload_n hx hb dX8_cut_119 rfl (lv_at hl 3 rfl) ?_
                  refine lv_iload hx hb dX8_cut_120 (lv_at hl 4 rfl) ?_
                  refine lv_iload hx hb dX8_cut_122 (lv_at hl 6 rfl) ?_
                  refine lv_isub hx hb dX8_cut_124 ?_
                  refine lv_topi (fun x_124 ex_124 => ?_)
                  obtain rfl : nI (k2 - k) = x_124 := Eq.symm (ex_124.trans (pk_sub (a := k2) (b := k) (by omega)))
                  refine va_iast hx hb hK hP hD hS 3 2 rfl rfl (i := nI (cB (gm f) k)) (x := nI (k2 - k)) (vp_in_nI (by omega) (by omega)) dX8_cut_125 (fun H locs hP hD hS => ?_)
                  have er_125 : upd (nR yq9) (nI (cB (gm f) k) : Int32).toNatClampNeg (nI (k2 - k)) = nR (updN yq9 (cB (gm f) k) (k2 - k)) := upd_nR (g := yq9) (i := cB (gm f) k) (v := k2 - k) (by omega)
                  replace hP : va_P (dC, dI) vwCl [(h0, .inr (8, [.int x0, .int x1, .ref m2, .int (nI c3), .ref m4, .ref m5, .ref m6, .ref m7, .ref m8, .ref m9, .ref m10, .ref m11, .int (nI c12), .int (nI c13), .int (nI c14), .ref m15, .ref m16, .ref m17, .ref m18, .ref m19, .int (nI c20), .int x21, .int (nI c22), .int (nI c23), .ref m24, .ref m25, .int (nI c26), .int (nI c27), .int x28, .ref m29, .ref m30, .ref m31, .ref m32, .ref m33, .ref m34, .int x35, .ref m36, .int (nI c37)])), (tx, .inl (ktx, 600, .inl f)), (m4, .inl (kbg, 60, .inl (nR (updN bq9 (cB (gm f) k) k)))), (m5, .inl (kby, 60, .inl (nR (updN yq9 (cB (gm f) k) (k2 - k))))), (m6, .inl (kmk, 60, .inl (nR mq9)))] H := by rw [← er_125]; exact hP
                  replace hD : va_D A [(h0, .inr (8, [.int x0, .int x1, .ref m2, .int (nI c3), .ref m4, .ref m5, .ref m6, .ref m7, .ref m8, .ref m9, .ref m10, .ref m11, .int (nI c12), .int (nI c13), .int (nI c14), .ref m15, .ref m16, .ref m17, .ref m18, .ref m19, .int (nI c20), .int x21, .int (nI c22), .int (nI c23), .ref m24, .ref m25, .int (nI c26), .int (nI c27), .int x28, .ref m29, .ref m30, .ref m31, .ref m32, .ref m33, .ref m34, .int x35, .ref m36, .int (nI c37)])), (tx, .inl (ktx, 600, .inl f)), (m4, .inl (kbg, 60, .inl (nR (updN bq9 (cB (gm f) k) k)))), (m5, .inl (kby, 60, .inl (nR (updN yq9 (cB (gm f) k) (k2 - k))))), (m6, .inl (kmk, 60, .inl (nR mq9)))] := by rw [← er_125]; exact hD
                  refine lv_aload_n hx hb dX8_cut_126 rfl (lv_at hl 0 rfl) ?_
                  refine va_get (D := (dC, dI)) (ci := 8) (v := .ref m6) (C := RX8) (T := TX8) (N := 38) hx hb hts hi_X8 hown hK hP 0 rfl rfl 6 (by decide) k_f22 (fun _ h9 => h9) rfl dX8_cut_127 ?_
                  refine lv_iload_n hx hb dX8_cut_130 rfl (lv_at hl 3 rfl) ?_
                  refine lv_iload hx hb dX8_cut_131 (lv_at hl 5 rfl) ?_
                  refine va_zast hx hb hK hP hD hS 4 3 rfl rfl (i := nI (cB (gm f) k)) (x := 0) (vp_in_nI (by omega) (by omega)) dX8_cut_133 (fun H locs hP hD hS => ?_)
                  have er_133 : upd (nR mq9) (nI (cB (gm f) k) : Int32).toNatClampNeg (vp_nar .boolean 0) = nR (updN mq9 (cB (gm f) k) 0) := upd_nRz (g := mq9) (i := cB (gm f) k) (v := 0) (by omega) (by omega)
                  replace hP : va_P (dC, dI) vwCl [(h0, .inr (8, [.int x0, .int x1, .ref m2, .int (nI c3), .ref m4, .ref m5, .ref m6, .ref m7, .ref m8, .ref m9, .ref m10, .ref m11, .int (nI c12), .int (nI c13), .int (nI c14), .ref m15, .ref m16, .ref m17, .ref m18, .ref m19, .int (nI c20), .int x21, .int (nI c22), .int (nI c23), .ref m24, .ref m25, .int (nI c26), .int (nI c27), .int x28, .ref m29, .ref m30, .ref m31, .ref m32, .ref m33, .ref m34, .int x35, .ref m36, .int (nI c37)])), (tx, .inl (ktx, 600, .inl f)), (m4, .inl (kbg, 60, .inl (nR (updN bq9 (cB (gm f) k) k)))), (m5, .inl (kby, 60, .inl (nR (updN yq9 (cB (gm f) k) (k2 - k))))), (m6, .inl (kmk, 60, .inl (nR (updN mq9 (cB (gm f) k) 0))))] H := by rw [← er_133]; exact hP
                  replace hD : va_D A [(h0, .inr (8, [.int x0, .int x1, .ref m2, .int (nI c3), .ref m4, .ref m5, .ref m6, .ref m7, .ref m8, .ref m9, .ref m10, .ref m11, .int (nI c12), .int (nI c13), .int (nI c14), .ref m15, .ref m16, .ref m17, .ref m18, .ref m19, .int (nI c20), .int x21, .int (nI c22), .int (nI c23), .ref m24, .ref m25, .int (nI c26), .int (nI c27), .int x28, .ref m29, .ref m30, .ref m31, .ref m32, .ref m33, .ref m34, .int x35, .ref m36, .int (nI c37)])), (tx, .inl (ktx, 600, .inl f)), (m4, .inl (kbg, 60, .inl (nR (updN bq9 (cB (gm f) k) k)))), (m5, .inl (kby, 60, .inl (nR (updN yq9 (cB (gm f) k) (k2 - k))))), (m6, .inl (kmk, 60, .inl (nR (updN mq9 (cB (gm f) k) 0))))] := by rw [← er_133]; exact hD
                  have ecb := cB_run hbw k2 hk2 hrun
                  refine lv_iinc (v := nI (cB (gm f) k + 1)) (lv' := [(3, .int (nI (cB (gm f) k + 1))), (0, .ref h0), (1, .ref tx), (2, .int (nI zz)), (4, .int (nI k2)), (6, .int 0), (7, .int (nI k))]) hx hb dX8_cut_134 hl (k := 3) rfl (nI_1 _) (by decide) rfl (fun ls hl => ?_)
                  replace hl : lv_has ls 8 [(3, .int (nI (cB (gm f) k2))), (0, .ref h0), (1, .ref tx), (2, .int (nI zz)), (4, .int (nI k2)), (6, .int 0), (7, .int (nI k))] := by rw [ecb]; exact hl
                  have hcb2 : cB (gm f) k2 ≤ k2 := by omega
                  refine lv_goto (tgt := 5) hx hb dX8_cut_137 (by decide) ?_
                  replace hl : lv_has ls 8 [(0, .ref h0), (1, .ref tx), (2, .int (nI zz)), (3, .int (nI (cB (gm f) k2))), (4, .int (nI k2))] := lv_sub hl [1, 2, 3, 0, 4] rfl
                  replace hP : va_P (dC, dI) vwCl [(h0, .inr (8, [.int x0, .int x1, .ref m2, .int (nI c3), .ref m4, .ref m5, .ref m6, .ref m7, .ref m8, .ref m9, .ref m10, .ref m11, .int (nI c12), .int (nI c13), .int (nI c14), .ref m15, .ref m16, .ref m17, .ref m18, .ref m19, .int (nI c20), .int x21, .int (nI c22), .int (nI c23), .ref m24, .ref m25, .int (nI c26), .int (nI c27), .int x28, .ref m29, .ref m30, .ref m31, .ref m32, .ref m33, .ref m34, .int x35, .ref m36, .int (nI c37)])), (tx, .inl (ktx, 600, .inl f)), (m4, .inl (kbg, 60, .inl (nR (updN bq9 (cB (gm f) k) k)))), (m5, .inl (kby, 60, .inl (nR (updN yq9 (cB (gm f) k) (k2 - k))))), (m6, .inl (kmk, 60, .inl (nR (updN mq9 (cB (gm f) k) 0))))] H := hP
                  replace hD : va_D A [(h0, .inr (8, [.int x0, .int x1, .ref m2, .int (nI c3), .ref m4, .ref m5, .ref m6, .ref m7, .ref m8, .ref m9, .ref m10, .ref m11, .int (nI c12), .int (nI c13), .int (nI c14), .ref m15, .ref m16, .ref m17, .ref m18, .ref m19, .int (nI c20), .int x21, .int (nI c22), .int (nI c23), .ref m24, .ref m25, .int (nI c26), .int (nI c27), .int x28, .ref m29, .ref m30, .ref m31, .ref m32, .ref m33, .ref m34, .int x35, .ref m36, .int (nI c37)])), (tx, .inl (ktx, 600, .inl f)), (m4, .inl (kbg, 60, .inl (nR (updN bq9 (cB (gm f) k) k)))), (m5, .inl (kby, 60, .inl (nR (updN yq9 (cB (gm f) k) (k2 - k))))), (m6, .inl (kmk, 60, .inl (nR (updN mq9 (cB (gm f) k) 0))))] := hD
                  have hbd9 : bdy (gm f) zz k2 := bdy_e hk2 hrun hx2
                  have hok9 : okC (gm f) (updN bq9 (cB (gm f) k) k) (updN yq9 (cB (gm f) k) (k2 - k)) (updN mq9 (cB (gm f) k) 0) zz k2 := okC_y hok hrun (RF_mk hk2 hk3 hrun hx2) hmv
                  apply ih5 (k := k2) (bq9 := updN bq9 (cB (gm f) k) k) (yq9 := updN yq9 (cB (gm f) k) (k2 - k)) (mq9 := updN mq9 (cB (gm f) k) 0) <;> first | assumption | omega
              · subst hr_88
                have hb88 : pp_88 = gm f k2 ∧ gm f k2 ≤ 26 := (fun (h9 : pp_88 = gm f k2 ∧ pp_88 ≤ 26) => ⟨h9.1, by omega⟩) hb_88
                refine lv_iconst (v := (-1)) hx hb dX8_cut_91 (by decide) ?_
                refine lv_icmp_eq (tgt := 101) hx hb dX8_cut_92 (by decide) (fun c_92 => ?_) (fun c_92 => ?_)
                · exact absurd c_92 (nI_nm1 (by omega))
                refine lv_iinc (v := nI (k2 + 1)) (lv' := [(4, .int (nI (k2 + 1))), (0, .ref h0), (1, .ref tx), (2, .int (nI zz)), (3, .int (nI (cB (gm f) k))), (6, .int 0), (7, .int (nI k))]) hx hb dX8_cut_95 hl (k := 4) rfl (nI_1 _) (by decide) rfl (fun ls hl => ?_)
                refine lv_goto (tgt := 52) hx hb dX8_cut_98 (by decide) ?_
                replace hl : lv_has ls 8 [(0, .ref h0), (1, .ref tx), (2, .int (nI zz)), (3, .int (nI (cB (gm f) k))), (4, .int (nI (k2 + 1))), (6, .int 0), (7, .int (nI k))] := lv_sub hl [1, 2, 3, 4, 0, 5, 6] rfl
                have hrun9 : run (gm f) k (k2 + 1) := run_s hrun ((kN_0 hb88.2).trans (kN_0 hdg).symm)
                apply ih52 (k2 := k2 + 1) <;> first | assumption | omega
