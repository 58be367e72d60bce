set_option maxHeartbeats 4000000 in
set_option maxRecDepth 100000 in
theorem g_X7_kindOfWord (l : Launch) (dC : Nat → ClassId) (dI : Nat → Nat → Nat) (h0 : Nat) (a0 : Nat) (ts : Nat) (a2 : Nat) (a3 : Nat) (v4 : Int32) (v5 : Int32) (a6 : Nat) (a7 : Nat) (a8 : Nat) (v9 : Nat) (v10 : Nat) (a11 : Nat) (a12 : Nat) (v13 : Int32) (a14 : Nat) (a15 : Nat) (a16 : Nat) (v17 : Int32) (e1_0 : Nat) (e1_1 : Nat) (e1_2 : Nat) (ke1_0 : ClassId) (ke1_1 : ClassId) (ke1_2 : ClassId) (n1 : Nat) (w1 : Nat) (g1 : Nat → Nat) (s1 : Nat → Nat) (l1 : Nat → Nat) (y8_0 : Nat) (y8_1 : Nat) (ky8_0 : ClassId) (ky8_1 : ClassId) (z8 : Nat) (t8 : Nat → Nat) (u8 : Nat → Nat) (y6_0 : Nat) (y6_1 : Nat) (ky6_0 : ClassId) (ky6_1 : ClassId) (z6 : Nat) (t6 : Nat → Nat) (u6 : Nat → Nat) (i : Nat) (hT : SOK g1 s1 l1 n1 w1) (hNM : WOK t8 u8 z8 30) (hKW : WOK t6 u6 z6 60) (hi : i < w1) : Met l yX7_kindOfWord wsX7_kindOfWord ({ frames := 2, cells := 0, slots := 0, locals := 49 }) (va_Pc [.ref h0, .int (nI i)] (fun U => va_P (dC, dI) vwCl [(h0, .inr (7, [.ref a0, .int (nI ts), .ref a2, .ref a3, .int v4, .int v5, .ref a6, .ref a7, .ref a8, .int (nI v9), .int (nI v10), .ref a11, .ref a12, .int v13, .ref a14, .ref a15, .ref a16, .int v17])), (a11, .inr (2, [.ref e1_0, .ref e1_1, .ref e1_2, .int (nI n1), .int (nI w1)])), (e1_0, .inl (ke1_0, 600, .inl (nR g1))), (e1_1, .inl (ke1_1, 60, .inl (nR s1))), (e1_2, .inl (ke1_2, 60, .inl (nR l1))), (a8, .inr (6, [.ref y8_0, .ref y8_1, .int (nI z8)])), (y8_0, .inl (ky8_0, 720, .inl (nR t8))), (y8_1, .inl (ky8_1, 30, .inl (nR u8))), (a6, .inr (6, [.ref y6_0, .ref y6_1, .int (nI z6)])), (y6_0, .inl (ky6_0, 1440, .inl (nR t6))), (y6_1, .inl (ky6_1, 60, .inl (nR u6)))] U.heap ∧ va_K (dC, dI) vwCl [(ke1_0, .byte), (ke1_1, .int), (ke1_2, .int), (ky8_0, .byte), (ky8_1, .int), (ky6_0, .byte), (ky6_1, .int)] U)) (vp_Si (fun r => True)) 0 0 (fun _ => False) := by
  refine Met.ofW (cc := cX7_kindOfWord) (maxL := 2) (ret := (some .int)) (by decide) rfl ?_
  intro p e s m args below meth c s₁ B hml hv
  obtain ⟨rfl, hP, hK⟩ := hv
  have hx := B.exec
  have hb := B.bytes
  have hr := B.returns
  have hts := atoms_spec (ws := wsX7_kindOfWord) B.pre
  have hown : s.vm.findClass RX7 = some m.cls := findClass_of_methodNamed B.named
  have hlocks := B.notSynchronized
  replace hP : va_P (dC, dI) vwCl [(h0, .inr (7, [.ref a0, .int (nI ts), .ref a2, .ref a3, .int v4, .int v5, .ref a6, .ref a7, .ref a8, .int (nI v9), .int (nI v10), .ref a11, .ref a12, .int v13, .ref a14, .ref a15, .ref a16, .int v17])), (a11, .inr (2, [.ref e1_0, .ref e1_1, .ref e1_2, .int (nI n1), .int (nI w1)])), (e1_0, .inl (ke1_0, 600, .inl (nR g1))), (e1_1, .inl (ke1_1, 60, .inl (nR s1))), (e1_2, .inl (ke1_2, 60, .inl (nR l1))), (a8, .inr (6, [.ref y8_0, .ref y8_1, .int (nI z8)])), (y8_0, .inl (ky8_0, 720, .inl (nR t8))), (y8_1, .inl (ky8_1, 30, .inl (nR u8))), (a6, .inr (6, [.ref y6_0, .ref y6_1, .int (nI z6)])), (y6_0, .inl (ky6_0, 1440, .inl (nR t6))), (y6_1, .inl (ky6_1, 60, .inl (nR u6)))] s.heap := hP
  have hl := lv_entry ([.ref h0, .int (nI i)]) (n := 2) (Nat.le_of_ble_eq_true rfl)
  rw [lg_entry_eq]
  generalize (lg_sl ([.ref h0, .int (nI i)]) ++ List.replicate (2 - (lg_sl ([.ref h0, .int (nI i)])).length) Slot.unset).toArray = ls at hl ⊢
  replace hl : lv_has ls 2 [(0, .ref h0), (1, .int (nI i))] := hl
  have hi_X7 : ∀ w ∈ wsX70, w ∈ wsX7_kindOfWord := by decide +kernel
  have k_f61 := hts (.fieldLink RX7 61 "TongueTeller" "theText" "LTongueTeller$Script;") (by decide +kernel)
  have k_f49 := hts (.fieldLink RX7 49 "TongueTeller" "names" "LTongueTeller$WordList;") (by decide +kernel)
  have k_f41 := hts (.fieldLink RX7 41 "TongueTeller" "keywords" "LTongueTeller$WordList;") (by decide +kernel)
  try have hkz := hKW.1
  try have hnz := hNM.1
  have hwd := hT.wd (i := i) (by omega)
  obtain ⟨hwa, hwb, hwc, hwe, hwf⟩ := hwd
  refine lv_aload_n hx hb dX7_kindOfWord_0 rfl (lv_at hl 0 rfl) ?_
  refine va_get (D := (dC, dI)) (ci := 7) (v := .ref a11) (C := RX7) (T := TX7) (N := 18) hx hb hts hi_X7 hown hK hP 0 rfl rfl 11 (by decide) k_f61 (fun _ h9 => h9) rfl dX7_kindOfWord_1 ?_
  refine lv_iload_n hx hb dX7_kindOfWord_4 rfl (lv_at hl 1 rfl) ?_
  have hPc := hP.sub (ws' := [(a11, .inr (2, [.ref e1_0, .ref e1_1, .ref e1_2, .int (nI n1), .int (nI w1)])), (e1_0, .inl (ke1_0, 600, .inl (nR g1))), (e1_1, .inl (ke1_1, 60, .inl (nR s1)))]) [1, 2, 3] rfl
  have hKc := hK.sub (tys' := [(ke1_0, .byte), (ke1_1, .int)]) [0, 1] rfl
  refine vp_callSi (W.runV (As := [.int (nI i)]) (rest := []) ⟨hx, hb, hml, hown, hts⟩ (g_X2_isMark l dC dI a11 e1_0 e1_1 e1_2 ke1_0 ke1_1 n1 w1 i g1 s1 (hwa) (hT.hg) (by omega)) (cwV 1 hts gX7_kindOfWord_X2_isMark rfl rfl rfl (by decide +kernel) ⟨Nat.le_of_ble_eq_true rfl, Nat.le_of_ble_eq_true rfl⟩) ⟨fun a U g mk q => by obtain ⟨q0, qP, qK⟩ := q; exact ⟨q0, qP, va_K.moved (u := U) (U := U.calling g mk a) (Vm.Alike.refl U.vm) qK⟩, va_recv hK hP (ci := 2) (q0 := 1) rfl rfl, fun U hU hW => ⟨rfl, by rw [hU]; exact hPc, va_K.moved hW.alike hKc⟩⟩ rfl rfl hl.1 rfl (lv_room (Nat.le_of_ble_eq_true rfl)) dX7_kindOfWord_5 ⟨Nat.le_of_ble_eq_true rfl, Nat.le_of_ble_eq_true rfl⟩) (fun r_5 hw_5 => ?_)
  clear hPc
  rcases hw_5 with ⟨hr_5, hb_5⟩ | ⟨hr_5, hb_5⟩
  · subst hr_5
    refine lv_if_eq (tgt := 13) hx hb dX7_kindOfWord_8 (by decide) (fun c_8 => ?_) (fun c_8 => ?_)
    · exact absurd c_8 (by decide)
    refine lv_iconst (v := 1) hx hb dX7_kindOfWord_11 (by decide) ?_
    exact W.iret (v := 1) hx hb hr (fun t ht hW => ⟨1, rfl, trivial, ht⟩) (fun _ h => absurd h List.not_mem_nil) dX7_kindOfWord_12
  · subst hr_5
    refine lv_if_eq (tgt := 13) hx hb dX7_kindOfWord_8 (by decide) (fun c_8 => ?_) (fun c_8 => ?_)
    rotate_left
    · exact absurd (by decide) c_8
    refine lv_aload_n hx hb dX7_kindOfWord_13 rfl (lv_at hl 0 rfl) ?_
    refine va_get (D := (dC, dI)) (ci := 7) (v := .ref a8) (C := RX7) (T := TX7) (N := 18) hx hb hts hi_X7 hown hK hP 0 rfl rfl 8 (by decide) k_f49 (fun _ h9 => h9) rfl dX7_kindOfWord_14 ?_
    refine lv_aload_n hx hb dX7_kindOfWord_17 rfl (lv_at hl 0 rfl) ?_
    refine va_get (D := (dC, dI)) (ci := 7) (v := .ref a11) (C := RX7) (T := TX7) (N := 18) hx hb hts hi_X7 hown hK hP 0 rfl rfl 11 (by decide) k_f61 (fun _ h9 => h9) rfl dX7_kindOfWord_18 ?_
    refine lv_iload_n hx hb dX7_kindOfWord_21 rfl (lv_at hl 1 rfl) ?_
    have hPc := hP.sub (ws' := [(a8, .inr (6, [.ref y8_0, .ref y8_1, .int (nI z8)])), (y8_0, .inl (ky8_0, 720, .inl (nR t8))), (y8_1, .inl (ky8_1, 30, .inl (nR u8))), (a11, .inr (2, [.ref e1_0, .ref e1_1, .ref e1_2, .int (nI n1), .int (nI w1)])), (e1_0, .inl (ke1_0, 600, .inl (nR g1))), (e1_1, .inl (ke1_1, 60, .inl (nR s1))), (e1_2, .inl (ke1_2, 60, .inl (nR l1)))]) [5, 6, 7, 1, 2, 3, 4] rfl
    have hKc := hK.sub (tys' := [(ky8_0, .byte), (ky8_1, .int), (ke1_0, .byte), (ke1_1, .int), (ke1_2, .int)]) [3, 4, 0, 1, 2] rfl
    refine vp_callSi (W.runV (As := [.ref a11, .int (nI i)]) (rest := []) ⟨hx, hb, hml, hown, hts⟩ (g_X6_placeOf l dC dI a8 y8_0 y8_1 z8 30 720 ky8_0 ky8_1 t8 u8 a11 e1_0 e1_1 e1_2 n1 w1 ke1_0 ke1_1 ke1_2 g1 s1 l1 i (by omega) (by omega) (hNM.hlt) (by omega) (by omega) (hT.hg) (hNM.1) (hNM.2.2)) (cwV 2 hts gX7_kindOfWord_X6_placeOf rfl rfl rfl (by decide +kernel) ⟨Nat.le_of_ble_eq_true rfl, Nat.le_of_ble_eq_true rfl⟩) ⟨fun a U g mk q => by obtain ⟨q0, qP, qK⟩ := q; exact ⟨q0, qP, va_K.moved (u := U) (U := U.calling g mk a) (Vm.Alike.refl U.vm) qK⟩, va_recv hK hP (ci := 6) (q0 := 5) rfl rfl, fun U hU hW => ⟨rfl, by rw [hU]; exact hPc, va_K.moved hW.alike hKc⟩⟩ rfl rfl hl.1 rfl (lv_room (Nat.le_of_ble_eq_true rfl)) dX7_kindOfWord_22 ⟨Nat.le_of_ble_eq_true rfl, Nat.le_of_ble_eq_true rfl⟩) (fun r_22 hw_22 => ?_)
    clear hPc
    rcases hw_22 with ⟨hr_22, hb_22⟩ | ⟨pp_22, hr_22, hb_22⟩
    · subst hr_22
      refine lv_iconst (v := (-1)) hx hb dX7_kindOfWord_25 (by decide) ?_
      refine lv_icmp_eq (tgt := 31) hx hb dX7_kindOfWord_26 (by decide) (fun c_26 => ?_) (fun c_26 => ?_)
      rotate_left
      · exact absurd (by decide) c_26
      refine lv_aload_n hx hb dX7_kindOfWord_31 rfl (lv_at hl 0 rfl) ?_
      refine va_get (D := (dC, dI)) (ci := 7) (v := .ref a6) (C := RX7) (T := TX7) (N := 18) hx hb hts hi_X7 hown hK hP 0 rfl rfl 6 (by decide) k_f41 (fun _ h9 => h9) rfl dX7_kindOfWord_32 ?_
      refine lv_aload_n hx hb dX7_kindOfWord_35 rfl (lv_at hl 0 rfl) ?_
      refine va_get (D := (dC, dI)) (ci := 7) (v := .ref a11) (C := RX7) (T := TX7) (N := 18) hx hb hts hi_X7 hown hK hP 0 rfl rfl 11 (by decide) k_f61 (fun _ h9 => h9) rfl dX7_kindOfWord_36 ?_
      refine lv_iload_n hx hb dX7_kindOfWord_39 rfl (lv_at hl 1 rfl) ?_
      have hPc := hP.sub (ws' := [(a6, .inr (6, [.ref y6_0, .ref y6_1, .int (nI z6)])), (y6_0, .inl (ky6_0, 1440, .inl (nR t6))), (y6_1, .inl (ky6_1, 60, .inl (nR u6))), (a11, .inr (2, [.ref e1_0, .ref e1_1, .ref e1_2, .int (nI n1), .int (nI w1)])), (e1_0, .inl (ke1_0, 600, .inl (nR g1))), (e1_1, .inl (ke1_1, 60, .inl (nR s1))), (e1_2, .inl (ke1_2, 60, .inl (nR l1)))]) [8, 9, 10, 1, 2, 3, 4] rfl
      have hKc := hK.sub (tys' := [(ky6_0, .byte), (ky6_1, .int), (ke1_0, .byte), (ke1_1, .int), (ke1_2, .int)]) [5, 6, 0, 1, 2] rfl
      refine vp_callSi (W.runV (As := [.ref a11, .int (nI i)]) (rest := []) ⟨hx, hb, hml, hown, hts⟩ (g_X6_placeOf l dC dI a6 y6_0 y6_1 z6 60 1440 ky6_0 ky6_1 t6 u6 a11 e1_0 e1_1 e1_2 n1 w1 ke1_0 ke1_1 ke1_2 g1 s1 l1 i (by omega) (by omega) (hKW.hlt) (by omega) (by omega) (hT.hg) (hKW.1) (hKW.2.2)) (cwV 2 hts gX7_kindOfWord_X6_placeOf rfl rfl rfl (by decide +kernel) ⟨Nat.le_of_ble_eq_true rfl, Nat.le_of_ble_eq_true rfl⟩) ⟨fun a U g mk q => by obtain ⟨q0, qP, qK⟩ := q; exact ⟨q0, qP, va_K.moved (u := U) (U := U.calling g mk a) (Vm.Alike.refl U.vm) qK⟩, va_recv hK hP (ci := 6) (q0 := 8) rfl rfl, fun U hU hW => ⟨rfl, by rw [hU]; exact hPc, va_K.moved hW.alike hKc⟩⟩ rfl rfl hl.1 rfl (lv_room (Nat.le_of_ble_eq_true rfl)) dX7_kindOfWord_40 ⟨Nat.le_of_ble_eq_true rfl, Nat.le_of_ble_eq_true rfl⟩) (fun r_40 hw_40 => ?_)
      clear hPc
      rcases hw_40 with ⟨hr_40, hb_40⟩ | ⟨pp_40, hr_40, hb_40⟩
      · subst hr_40
        refine lv_iconst (v := (-1)) hx hb dX7_kindOfWord_43 (by decide) ?_
        refine lv_icmp_eq (tgt := 51) hx hb dX7_kindOfWord_44 (by decide) (fun c_44 => ?_) (fun c_44 => ?_)
        rotate_left
        · exact absurd (by decide) c_44
        refine lv_iconst (v := 0) hx hb dX7_kindOfWord_51 (by decide) ?_
        exact W.iret (v := 0) hx hb hr (fun t ht hW => ⟨0, rfl, trivial, ht⟩) (fun _ h => absurd h List.not_mem_nil) dX7_kindOfWord_52
      · subst hr_40
        refine lv_iconst (v := (-1)) hx hb dX7_kindOfWord_43 (by decide) ?_
        refine lv_icmp_eq (tgt := 51) hx hb dX7_kindOfWord_44 (by decide) (fun c_44 => ?_) (fun c_44 => ?_)
        · exact absurd c_44 (nI_nm1 (by omega))
        refine lv_iconst (v := 3) hx hb dX7_kindOfWord_47 (by decide) ?_
        refine lv_goto (tgt := 52) hx hb dX7_kindOfWord_48 (by decide) ?_
        exact W.iret (v := 3) hx hb hr (fun t ht hW => ⟨3, rfl, trivial, ht⟩) (fun _ h => absurd h List.not_mem_nil) dX7_kindOfWord_52
    · subst hr_22
      refine lv_iconst (v := (-1)) hx hb dX7_kindOfWord_25 (by decide) ?_
      refine lv_icmp_eq (tgt := 31) hx hb dX7_kindOfWord_26 (by decide) (fun c_26 => ?_) (fun c_26 => ?_)
      · exact absurd c_26 (nI_nm1 (by omega))
      refine lv_iconst (v := 2) hx hb dX7_kindOfWord_29 (by decide) ?_
      exact W.iret (v := 2) hx hb hr (fun t ht hW => ⟨2, rfl, trivial, ht⟩) (fun _ h => absurd h List.not_mem_nil) dX7_kindOfWord_30

set_option maxHeartbeats 4000000 in
set_option maxRecDepth 100000 in
theorem g_X7_keepersOf (l : Launch) (dC : Nat → ClassId) (dI : Nat → Nat → Nat) (h0 : Nat) (a0 : Nat) (ts : Nat) (a2 : Nat) (a3 : Nat) (v4 : Int32) (v5 : Int32) (a6 : Nat) (a7 : Nat) (a8 : Nat) (v9 : Nat) (v10 : Nat) (a11 : Nat) (a12 : Nat) (v13 : Int32) (a14 : Nat) (a15 : Nat) (a16 : Nat) (v17 : Int32) (e1_0 : Nat) (e1_1 : Nat) (e1_2 : Nat) (ke1_0 : ClassId) (ke1_1 : ClassId) (ke1_2 : ClassId) (n1 : Nat) (w1 : Nat) (g1 : Nat → Nat) (s1 : Nat → Nat) (l1 : Nat → Nat) (y8_0 : Nat) (y8_1 : Nat) (ky8_0 : ClassId) (ky8_1 : ClassId) (z8 : Nat) (t8 : Nat → Nat) (u8 : Nat → Nat) (y6_0 : Nat) (y6_1 : Nat) (ky6_0 : ClassId) (ky6_1 : ClassId) (z6 : Nat) (t6 : Nat → Nat) (u6 : Nat → Nat) (kp : ClassId) (fk : Nat → Int32) (i : Nat) (hT : SOK g1 s1 l1 n1 w1) (hNM : WOK t8 u8 z8 30) (hKW : WOK t6 u6 z6 60) (hi : i < w1) : Met l yX7_keepersOf wsX7_keepersOf ({ frames := 2, cells := 0, slots := 0, locals := 49 }) (va_Pc [.ref h0, .int (nI i)] (fun U => va_P (dC, dI) vwCl [(h0, .inr (7, [.ref a0, .int (nI ts), .ref a2, .ref a3, .int v4, .int v5, .ref a6, .ref a7, .ref a8, .int (nI v9), .int (nI v10), .ref a11, .ref a12, .int v13, .ref a14, .ref a15, .ref a16, .int v17])), (a11, .inr (2, [.ref e1_0, .ref e1_1, .ref e1_2, .int (nI n1), .int (nI w1)])), (e1_0, .inl (ke1_0, 600, .inl (nR g1))), (e1_1, .inl (ke1_1, 60, .inl (nR s1))), (e1_2, .inl (ke1_2, 60, .inl (nR l1))), (a8, .inr (6, [.ref y8_0, .ref y8_1, .int (nI z8)])), (y8_0, .inl (ky8_0, 720, .inl (nR t8))), (y8_1, .inl (ky8_1, 30, .inl (nR u8))), (a6, .inr (6, [.ref y6_0, .ref y6_1, .int (nI z6)])), (y6_0, .inl (ky6_0, 1440, .inl (nR t6))), (y6_1, .inl (ky6_1, 60, .inl (nR u6))), (a7, .inl (kp, 60, .inl fk))] U.heap ∧ va_K (dC, dI) vwCl [(ke1_0, .byte), (ke1_1, .int), (ke1_2, .int), (ky8_0, .byte), (ky8_1, .int), (ky6_0, .byte), (ky6_1, .int), (kp, .int)] U)) (vp_Si (fun r => r = kpF t8 u8 z8 t6 u6 z6 fk g1 s1 l1 i ∧ (r = (-1) ∨ g1 (s1 i) ≠ 28))) 0 0 (fun _ => False) := by
  refine Met.ofW (cc := cX7_keepersOf) (maxL := 3) (ret := (some .int)) (by decide) rfl ?_
  intro p e s m args below meth c s₁ B hml hv
  obtain ⟨rfl, hP, hK⟩ := hv
  have hx := B.exec
  have hb := B.bytes
  have hr := B.returns
  have hts := atoms_spec (ws := wsX7_keepersOf) B.pre
  have hown : s.vm.findClass RX7 = some m.cls := findClass_of_methodNamed B.named
  have hlocks := B.notSynchronized
  replace hP : va_P (dC, dI) vwCl [(h0, .inr (7, [.ref a0, .int (nI ts), .ref a2, .ref a3, .int v4, .int v5, .ref a6, .ref a7, .ref a8, .int (nI v9), .int (nI v10), .ref a11, .ref a12, .int v13, .ref a14, .ref a15, .ref a16, .int v17])), (a11, .inr (2, [.ref e1_0, .ref e1_1, .ref e1_2, .int (nI n1), .int (nI w1)])), (e1_0, .inl (ke1_0, 600, .inl (nR g1))), (e1_1, .inl (ke1_1, 60, .inl (nR s1))), (e1_2, .inl (ke1_2, 60, .inl (nR l1))), (a8, .inr (6, [.ref y8_0, .ref y8_1, .int (nI z8)])), (y8_0, .inl (ky8_0, 720, .inl (nR t8))), (y8_1, .inl (ky8_1, 30, .inl (nR u8))), (a6, .inr (6, [.ref y6_0, .ref y6_1, .int (nI z6)])), (y6_0, .inl (ky6_0, 1440, .inl (nR t6))), (y6_1, .inl (ky6_1, 60, .inl (nR u6))), (a7, .inl (kp, 60, .inl fk))] s.heap := hP
  have hl := lv_entry ([.ref h0, .int (nI i)]) (n := 3) (Nat.le_of_ble_eq_true rfl)
  rw [lg_entry_eq]
  generalize (lg_sl ([.ref h0, .int (nI i)]) ++ List.replicate (3 - (lg_sl ([.ref h0, .int (nI i)])).length) Slot.unset).toArray = ls at hl ⊢
  replace hl : lv_has ls 3 [(0, .ref h0), (1, .int (nI i))] := hl
  have hi_X7 : ∀ w ∈ wsX70, w ∈ wsX7_keepersOf := by decide +kernel
  have k_f61 := hts (.fieldLink RX7 61 "TongueTeller" "theText" "LTongueTeller$Script;") (by decide +kernel)
  have k_f49 := hts (.fieldLink RX7 49 "TongueTeller" "names" "LTongueTeller$WordList;") (by decide +kernel)
  have k_f41 := hts (.fieldLink RX7 41 "TongueTeller" "keywords" "LTongueTeller$WordList;") (by decide +kernel)
  have k_f45 := hts (.fieldLink RX7 45 "TongueTeller" "keepers" "[I") (by decide +kernel)
  try have hkz := hKW.1
  try have hnz := hNM.1
  have hwd := hT.wd (i := i) (by omega)
  obtain ⟨hwa, hwb, hwc, hwe, hwf⟩ := hwd
  refine lv_aload_n hx hb dX7_keepersOf_0 rfl (lv_at hl 0 rfl) ?_
  refine va_get (D := (dC, dI)) (ci := 7) (v := .ref a11) (C := RX7) (T := TX7) (N := 18) hx hb hts hi_X7 hown hK hP 0 rfl rfl 11 (by decide) k_f61 (fun _ h9 => h9) rfl dX7_keepersOf_1 ?_
  refine lv_iload_n hx hb dX7_keepersOf_4 rfl (lv_at hl 1 rfl) ?_
  have hPc := hP.sub (ws' := [(a11, .inr (2, [.ref e1_0, .ref e1_1, .ref e1_2, .int (nI n1), .int (nI w1)])), (e1_0, .inl (ke1_0, 600, .inl (nR g1))), (e1_1, .inl (ke1_1, 60, .inl (nR s1)))]) [1, 2, 3] rfl
  have hKc := hK.sub (tys' := [(ke1_0, .byte), (ke1_1, .int)]) [0, 1] rfl
  refine vp_callSi (W.runV (As := [.int (nI i)]) (rest := []) ⟨hx, hb, hml, hown, hts⟩ (g_X2_isMark l dC dI a11 e1_0 e1_1 e1_2 ke1_0 ke1_1 n1 w1 i g1 s1 (hwa) (hT.hg) (by omega)) (cwV 1 hts gX7_keepersOf_X2_isMark rfl rfl rfl (by decide +kernel) ⟨Nat.le_of_ble_eq_true rfl, Nat.le_of_ble_eq_true rfl⟩) ⟨fun a U g mk q => by obtain ⟨q0, qP, qK⟩ := q; exact ⟨q0, qP, va_K.moved (u := U) (U := U.calling g mk a) (Vm.Alike.refl U.vm) qK⟩, va_recv hK hP (ci := 2) (q0 := 1) rfl rfl, fun U hU hW => ⟨rfl, by rw [hU]; exact hPc, va_K.moved hW.alike hKc⟩⟩ rfl rfl hl.1 rfl (lv_room (Nat.le_of_ble_eq_true rfl)) dX7_keepersOf_5 ⟨Nat.le_of_ble_eq_true rfl, Nat.le_of_ble_eq_true rfl⟩) (fun r_5 hw_5 => ?_)
  clear hPc
  rcases hw_5 with ⟨hr_5, hb_5⟩ | ⟨hr_5, hb_5⟩
  · subst hr_5
    refine lv_if_ne (tgt := 27) hx hb dX7_keepersOf_8 (by decide) (fun c_8 => ?_) (fun c_8 => ?_)
    rotate_left
    · exact absurd c_8 (by decide)
    refine lv_iconst (v := (-1)) hx hb dX7_keepersOf_27 (by decide) ?_
    exact W.iret (v := (-1)) hx hb hr (fun t ht hW => ⟨(-1), rfl, ⟨(if_neg (fun h9 => h9.1 hb_5)).symm, Or.inl rfl⟩, ht⟩) (fun _ h => absurd h List.not_mem_nil) dX7_keepersOf_28
  · subst hr_5
    refine lv_if_ne (tgt := 27) hx hb dX7_keepersOf_8 (by decide) (fun c_8 => ?_) (fun c_8 => ?_)
    · exact absurd (by decide) c_8
    refine lv_aload_n hx hb dX7_keepersOf_11 rfl (lv_at hl 0 rfl) ?_
    refine va_get (D := (dC, dI)) (ci := 7) (v := .ref a8) (C := RX7) (T := TX7) (N := 18) hx hb hts hi_X7 hown hK hP 0 rfl rfl 8 (by decide) k_f49 (fun _ h9 => h9) rfl dX7_keepersOf_12 ?_
    refine lv_aload_n hx hb dX7_keepersOf_15 rfl (lv_at hl 0 rfl) ?_
    refine va_get (D := (dC, dI)) (ci := 7) (v := .ref a11) (C := RX7) (T := TX7) (N := 18) hx hb hts hi_X7 hown hK hP 0 rfl rfl 11 (by decide) k_f61 (fun _ h9 => h9) rfl dX7_keepersOf_16 ?_
    refine lv_iload_n hx hb dX7_keepersOf_19 rfl (lv_at hl 1 rfl) ?_
    have hPc := hP.sub (ws' := [(a8, .inr (6, [.ref y8_0, .ref y8_1, .int (nI z8)])), (y8_0, .inl (ky8_0, 720, .inl (nR t8))), (y8_1, .inl (ky8_1, 30, .inl (nR u8))), (a11, .inr (2, [.ref e1_0, .ref e1_1, .ref e1_2, .int (nI n1), .int (nI w1)])), (e1_0, .inl (ke1_0, 600, .inl (nR g1))), (e1_1, .inl (ke1_1, 60, .inl (nR s1))), (e1_2, .inl (ke1_2, 60, .inl (nR l1)))]) [5, 6, 7, 1, 2, 3, 4] rfl
    have hKc := hK.sub (tys' := [(ky8_0, .byte), (ky8_1, .int), (ke1_0, .byte), (ke1_1, .int), (ke1_2, .int)]) [3, 4, 0, 1, 2] rfl
    refine vp_callSi (W.runV (As := [.ref a11, .int (nI i)]) (rest := []) ⟨hx, hb, hml, hown, hts⟩ (g_X6_placeOf l dC dI a8 y8_0 y8_1 z8 30 720 ky8_0 ky8_1 t8 u8 a11 e1_0 e1_1 e1_2 n1 w1 ke1_0 ke1_1 ke1_2 g1 s1 l1 i (by omega) (by omega) (hNM.hlt) (by omega) (by omega) (hT.hg) (hNM.1) (hNM.2.2)) (cwV 2 hts gX7_keepersOf_X6_placeOf rfl rfl rfl (by decide +kernel) ⟨Nat.le_of_ble_eq_true rfl, Nat.le_of_ble_eq_true rfl⟩) ⟨fun a U g mk q => by obtain ⟨q0, qP, qK⟩ := q; exact ⟨q0, qP, va_K.moved (u := U) (U := U.calling g mk a) (Vm.Alike.refl U.vm) qK⟩, va_recv hK hP (ci := 6) (q0 := 5) rfl rfl, fun U hU hW => ⟨rfl, by rw [hU]; exact hPc, va_K.moved hW.alike hKc⟩⟩ rfl rfl hl.1 rfl (lv_room (Nat.le_of_ble_eq_true rfl)) dX7_keepersOf_20 ⟨Nat.le_of_ble_eq_true rfl, Nat.le_of_ble_eq_true rfl⟩) (fun r_20 hw_20 => ?_)
    clear hPc
    rcases hw_20 with ⟨hr_20, hb_20⟩ | ⟨pp_20, hr_20, hb_20⟩
    · subst hr_20
      refine lv_iconst (v := (-1)) hx hb dX7_keepersOf_23 (by decide) ?_
      refine lv_icmp_eq (tgt := 29) hx hb dX7_keepersOf_24 (by decide) (fun c_24 => ?_) (fun c_24 => ?_)
      rotate_left
      · exact absurd (by decide) c_24
      refine lv_aload_n hx hb dX7_keepersOf_29 rfl (lv_at hl 0 rfl) ?_
      refine va_get (D := (dC, dI)) (ci := 7) (v := .ref a6) (C := RX7) (T := TX7) (N := 18) hx hb hts hi_X7 hown hK hP 0 rfl rfl 6 (by decide) k_f41 (fun _ h9 => h9) rfl dX7_keepersOf_30 ?_
      refine lv_aload_n hx hb dX7_keepersOf_33 rfl (lv_at hl 0 rfl) ?_
      refine va_get (D := (dC, dI)) (ci := 7) (v := .ref a11) (C := RX7) (T := TX7) (N := 18) hx hb hts hi_X7 hown hK hP 0 rfl rfl 11 (by decide) k_f61 (fun _ h9 => h9) rfl dX7_keepersOf_34 ?_
      refine lv_iload_n hx hb dX7_keepersOf_37 rfl (lv_at hl 1 rfl) ?_
      have hPc := hP.sub (ws' := [(a6, .inr (6, [.ref y6_0, .ref y6_1, .int (nI z6)])), (y6_0, .inl (ky6_0, 1440, .inl (nR t6))), (y6_1, .inl (ky6_1, 60, .inl (nR u6))), (a11, .inr (2, [.ref e1_0, .ref e1_1, .ref e1_2, .int (nI n1), .int (nI w1)])), (e1_0, .inl (ke1_0, 600, .inl (nR g1))), (e1_1, .inl (ke1_1, 60, .inl (nR s1))), (e1_2, .inl (ke1_2, 60, .inl (nR l1)))]) [8, 9, 10, 1, 2, 3, 4] rfl
      have hKc := hK.sub (tys' := [(ky6_0, .byte), (ky6_1, .int), (ke1_0, .byte), (ke1_1, .int), (ke1_2, .int)]) [5, 6, 0, 1, 2] rfl
      refine vp_callSi (W.runV (As := [.ref a11, .int (nI i)]) (rest := []) ⟨hx, hb, hml, hown, hts⟩ (g_X6_placeOf l dC dI a6 y6_0 y6_1 z6 60 1440 ky6_0 ky6_1 t6 u6 a11 e1_0 e1_1 e1_2 n1 w1 ke1_0 ke1_1 ke1_2 g1 s1 l1 i (by omega) (by omega) (hKW.hlt) (by omega) (by omega) (hT.hg) (hKW.1) (hKW.2.2)) (cwV 2 hts gX7_keepersOf_X6_placeOf rfl rfl rfl (by decide +kernel) ⟨Nat.le_of_ble_eq_true rfl, Nat.le_of_ble_eq_true rfl⟩) ⟨fun a U g mk q => by obtain ⟨q0, qP, qK⟩ := q; exact ⟨q0, qP, va_K.moved (u := U) (U := U.calling g mk a) (Vm.Alike.refl U.vm) qK⟩, va_recv hK hP (ci := 6) (q0 := 8) rfl rfl, fun U hU hW => ⟨rfl, by rw [hU]; exact hPc, va_K.moved hW.alike hKc⟩⟩ rfl rfl hl.1 rfl (lv_room (Nat.le_of_ble_eq_true rfl)) dX7_keepersOf_38 ⟨Nat.le_of_ble_eq_true rfl, Nat.le_of_ble_eq_true rfl⟩) (fun r_38 hw_38 => ?_)
      clear hPc
      rcases hw_38 with ⟨hr_38, hb_38⟩ | ⟨pp_38, hr_38, hb_38⟩
      · subst hr_38
        refine lv_istore_n (lv' := [(2, .int (-1)), (0, .ref h0), (1, .int (nI i))]) hx hb dX7_keepersOf_41 rfl hl (by decide) rfl (fun ls hl => ?_)
        refine lv_iload_n hx hb dX7_keepersOf_42 rfl (lv_at hl 0 rfl) ?_
        refine lv_iconst (v := (-1)) hx hb dX7_keepersOf_43 (by decide) ?_
        refine lv_icmp_ne (tgt := 51) hx hb dX7_keepersOf_44 (by decide) (fun c_44 => ?_) (fun c_44 => ?_)
        · exact absurd (by decide) c_44
        refine lv_iconst (v := 0) hx hb dX7_keepersOf_47 (by decide) ?_
        refine lv_goto (tgt := 57) hx hb dX7_keepersOf_48 (by decide) ?_
        exact W.iret (v := 0) hx hb hr (fun t ht hW => ⟨0, rfl, ⟨by show _ = kpF t8 u8 z8 t6 u6 z6 fk g1 s1 l1 i; unfold kpF; rw [if_pos ⟨hb_5, hb_20⟩, kwF_n hb_38, if_neg (Nat.lt_irrefl _)], Or.inr hb_5⟩, ht⟩) (fun _ h => absurd h List.not_mem_nil) dX7_keepersOf_57
      · subst hr_38
        have hpk := hKW.1
        refine lv_istore_n (lv' := [(2, .int (nI pp_38)), (0, .ref h0), (1, .int (nI i))]) hx hb dX7_keepersOf_41 rfl hl (by decide) rfl (fun ls hl => ?_)
        refine lv_iload_n hx hb dX7_keepersOf_42 rfl (lv_at hl 0 rfl) ?_
        refine lv_iconst (v := (-1)) hx hb dX7_keepersOf_43 (by decide) ?_
        refine lv_icmp_ne (tgt := 51) hx hb dX7_keepersOf_44 (by decide) (fun c_44 => ?_) (fun c_44 => ?_)
        rotate_left
        · exact absurd c_44 (nI_nm1 (by omega))
        refine lv_aload_n hx hb dX7_keepersOf_51 rfl (lv_at hl 1 rfl) ?_
        refine va_get (D := (dC, dI)) (ci := 7) (v := .ref a7) (C := RX7) (T := TX7) (N := 18) hx hb hts hi_X7 hown hK hP 0 rfl rfl 7 (by decide) k_f45 (fun _ h9 => h9) rfl dX7_keepersOf_52 ?_
        refine lv_iload_n hx hb dX7_keepersOf_55 rfl (lv_at hl 0 rfl) ?_
        refine va_iald hx hb hK hP 11 7 rfl rfl (i := nI pp_38) (vp_in_nI (by omega) (by omega)) dX7_keepersOf_56 ?_
        refine lv_topi (fun x_56 ex_56 => ?_)
        obtain rfl : fk pp_38 = x_56 := Eq.symm (ex_56.trans (fR_at (by omega)))
        exact W.iret (v := fk pp_38) hx hb hr (fun t ht hW => ⟨fk pp_38, rfl, ⟨by show _ = kpF t8 u8 z8 t6 u6 z6 fk g1 s1 l1 i; unfold kpF; rw [if_pos ⟨hb_5, hb_20⟩, kwF_y hb_38.1 hb_38.2.1 hb_38.2.2, if_pos hb_38.1], Or.inr hb_5⟩, ht⟩) (fun _ h => absurd h List.not_mem_nil) dX7_keepersOf_57
    · subst hr_20
      refine lv_iconst (v := (-1)) hx hb dX7_keepersOf_23 (by decide) ?_
      refine lv_icmp_eq (tgt := 29) hx hb dX7_keepersOf_24 (by decide) (fun c_24 => ?_) (fun c_24 => ?_)
      · exact absurd c_24 (nI_nm1 (by omega))
      refine lv_iconst (v := (-1)) hx hb dX7_keepersOf_27 (by decide) ?_
      exact W.iret (v := (-1)) hx hb hr (fun t ht hW => ⟨(-1), rfl, ⟨(if_neg (fun h9 => h9.2 _ hb_20.1 hb_20.2.1)).symm, Or.inl rfl⟩, ht⟩) (fun _ h => absurd h List.not_mem_nil) dX7_keepersOf_28

set_option maxHeartbeats 4000000 in
set_option maxRecDepth 100000 in
theorem g_X7_costInTongue (l : Launch) (dC : Nat → ClassId) (dI : Nat → Nat → Nat) (h0 : Nat) (a0 : Nat) (ts : Nat) (a2 : Nat) (a3 : Nat) (v4 : Int32) (v5 : Int32) (a6 : Nat) (a7 : Nat) (a8 : Nat) (v9 : Nat) (v10 : Nat) (a11 : Nat) (a12 : Nat) (v13 : Int32) (a14 : Nat) (a15 : Nat) (a16 : Nat) (v17 : Int32) (b0 : Nat) (z : Nat) (kc : ClassId) (f : Nat → Int32) (e1_0 : Nat) (e1_1 : Nat) (e1_2 : Nat) (ke1_0 : ClassId) (ke1_1 : ClassId) (ke1_2 : ClassId) (n1 : Nat) (w1 : Nat) (g1 : Nat → Nat) (s1 : Nat → Nat) (l1 : Nat → Nat) (i : Nat) (tt : Nat) (p2 : Int32) (hz : z ≤ 8) (hT : SOK g1 s1 l1 n1 w1) (hi : i < w1) (ht : tt < z) (hp2 : p2 = (-1) ∨ g1 (s1 i) ≠ 28) : Met l yX7_costInTongue wsX7_costInTongue ({ frames := 3, cells := 0, slots := 0, locals := 75 }) (va_Pc [.ref h0, .int (nI i), .int (nI tt), .int p2] (fun U => va_P (dC, dI) vwCl [(h0, .inr (7, [.ref a0, .int (nI ts), .ref a2, .ref a3, .int v4, .int v5, .ref a6, .ref a7, .ref a8, .int (nI v9), .int (nI v10), .ref a11, .ref a12, .int v13, .ref a14, .ref a15, .ref a16, .int v17])), (a2, .inr (4, [.ref b0, .int (nI z)])), (b0, .inl (kc, 6272, .inl f)), (a11, .inr (2, [.ref e1_0, .ref e1_1, .ref e1_2, .int (nI n1), .int (nI w1)])), (e1_0, .inl (ke1_0, 600, .inl (nR g1))), (e1_1, .inl (ke1_1, 60, .inl (nR s1))), (e1_2, .inl (ke1_2, 60, .inl (nR l1)))] U.heap ∧ va_K (dC, dI) vwCl [(kc, .int), (ke1_0, .byte), (ke1_1, .int), (ke1_2, .int)] U)) (vp_Si (fun r => r = nI (ciT p2 tt (spN f tt g1 (s1 i) (l1 i))))) 0 0 (fun _ => False) := by
  refine Met.ofW (cc := cX7_costInTongue) (maxL := 5) (ret := (some .int)) (by decide) rfl ?_
  intro p e s m args below meth c s₁ B hml hv
  obtain ⟨rfl, hP, hK⟩ := hv
  have hx := B.exec
  have hb := B.bytes
  have hr := B.returns
  have hts := atoms_spec (ws := wsX7_costInTongue) B.pre
  have hown : s.vm.findClass RX7 = some m.cls := findClass_of_methodNamed B.named
  have hlocks := B.notSynchronized
  replace hP : va_P (dC, dI) vwCl [(h0, .inr (7, [.ref a0, .int (nI ts), .ref a2, .ref a3, .int v4, .int v5, .ref a6, .ref a7, .ref a8, .int (nI v9), .int (nI v10), .ref a11, .ref a12, .int v13, .ref a14, .ref a15, .ref a16, .int v17])), (a2, .inr (4, [.ref b0, .int (nI z)])), (b0, .inl (kc, 6272, .inl f)), (a11, .inr (2, [.ref e1_0, .ref e1_1, .ref e1_2, .int (nI n1), .int (nI w1)])), (e1_0, .inl (ke1_0, 600, .inl (nR g1))), (e1_1, .inl (ke1_1, 60, .inl (nR s1))), (e1_2, .inl (ke1_2, 60, .inl (nR l1)))] s.heap := hP
  have hl := lv_entry ([.ref h0, .int (nI i), .int (nI tt), .int p2]) (n := 5) (Nat.le_of_ble_eq_true rfl)
  rw [lg_entry_eq]
  generalize (lg_sl ([.ref h0, .int (nI i), .int (nI tt), .int p2]) ++ List.replicate (5 - (lg_sl ([.ref h0, .int (nI i), .int (nI tt), .int p2])).length) Slot.unset).toArray = ls at hl ⊢
  replace hl : lv_has ls 5 [(0, .ref h0), (1, .int (nI i)), (2, .int (nI tt)), (3, .int p2)] := hl
  have hi_X7 : ∀ w ∈ wsX70, w ∈ wsX7_costInTongue := by decide +kernel
  have k_f20 := hts (.fieldLink RX7 20 "TongueTeller" "tongues" "LTongueTeller$Tongues;") (by decide +kernel)
  have k_f61 := hts (.fieldLink RX7 61 "TongueTeller" "theText" "LTongueTeller$Script;") (by decide +kernel)
  try have hkz := hKW.1
  try have hnz := hNM.1
  have hwd := hT.wd (i := i) (by omega)
  obtain ⟨hwa, hwb, hwc, hwe, hwf⟩ := hwd
  refine lv_iload_n hx hb dX7_costInTongue_0 rfl (lv_at hl 3 rfl) ?_
  refine lv_iconst (v := (-1)) hx hb dX7_costInTongue_1 (by decide) ?_
  refine lv_icmp_eq (tgt := 13) hx hb dX7_costInTongue_2 (by decide) (fun c_2 => ?_) (fun c_2 => ?_)
  · refine lv_iconst (v := 0) hx hb dX7_costInTongue_13 (by decide) ?_
    exact W.iret (v := 0) hx hb hr (fun t ht hW => ⟨0, rfl, congrArg nI (show ciT p2 tt (spN f tt g1 (s1 i) (l1 i)) = 0 from if_pos (Or.inl c_2)).symm, ht⟩) (fun _ h => absurd h List.not_mem_nil) dX7_costInTongue_14
  · refine lv_iload_n hx hb dX7_costInTongue_5 rfl (lv_at hl 3 rfl) ?_
    refine lv_iload_n hx hb dX7_costInTongue_6 rfl (lv_at hl 2 rfl) ?_
    refine lv_ishr hx hb dX7_costInTongue_7 ?_
    refine lv_iconst (v := 1) hx hb dX7_costInTongue_8 (by decide) ?_
    refine lv_iand hx hb dX7_costInTongue_9 ?_
    refine lv_if_eq (tgt := 15) hx hb dX7_costInTongue_10 (by decide) (fun c_10 => ?_) (fun c_10 => ?_)
    · have hlet := hwf (hp2.resolve_left c_2)
      refine lv_aload_n hx hb dX7_costInTongue_15 rfl (lv_at hl 0 rfl) ?_
      refine va_get (D := (dC, dI)) (ci := 7) (v := .ref a2) (C := RX7) (T := TX7) (N := 18) hx hb hts hi_X7 hown hK hP 0 rfl rfl 2 (by decide) k_f20 (fun _ h9 => h9) rfl dX7_costInTongue_16 ?_
      refine lv_iload_n hx hb dX7_costInTongue_19 rfl (lv_at hl 2 rfl) ?_
      refine lv_aload_n hx hb dX7_costInTongue_20 rfl (lv_at hl 0 rfl) ?_
      refine va_get (D := (dC, dI)) (ci := 7) (v := .ref a11) (C := RX7) (T := TX7) (N := 18) hx hb hts hi_X7 hown hK hP 0 rfl rfl 11 (by decide) k_f61 (fun _ h9 => h9) rfl dX7_costInTongue_21 ?_
      refine lv_iload_n hx hb dX7_costInTongue_24 rfl (lv_at hl 1 rfl) ?_
      have hPc := hP.sub (ws' := [(a2, .inr (4, [.ref b0, .int (nI z)])), (b0, .inl (kc, 6272, .inl f)), (a11, .inr (2, [.ref e1_0, .ref e1_1, .ref e1_2, .int (nI n1), .int (nI w1)])), (e1_0, .inl (ke1_0, 600, .inl (nR g1))), (e1_1, .inl (ke1_1, 60, .inl (nR s1))), (e1_2, .inl (ke1_2, 60, .inl (nR l1)))]) [1, 2, 3, 4, 5, 6] rfl
      have hKc := hK.sub (tys' := [(kc, .int), (ke1_0, .byte), (ke1_1, .int), (ke1_2, .int)]) [0, 1, 2, 3] rfl
      refine vp_callSi (W.runV (As := [.int (nI tt), .ref a11, .int (nI i)]) (rest := []) ⟨hx, hb, hml, hown, hts⟩ (g_X4_costOfSpelling l dC dI a2 b0 z kc f a11 e1_0 e1_1 e1_2 n1 w1 ke1_0 ke1_1 ke1_2 g1 s1 l1 tt i (by omega) (hwa) (by omega) (hT.hg) (hlet.2) (hlet.1)) (cwV 3 hts gX7_costInTongue_X4_costOfSpelling rfl rfl rfl (by decide +kernel) ⟨Nat.le_of_ble_eq_true rfl, Nat.le_of_ble_eq_true rfl⟩) ⟨fun a U g mk q => by obtain ⟨q0, qP, qK⟩ := q; exact ⟨q0, qP, va_K.moved (u := U) (U := U.calling g mk a) (Vm.Alike.refl U.vm) qK⟩, va_recv hK hP (ci := 4) (q0 := 1) rfl rfl, fun U hU hW => ⟨rfl, by rw [hU]; exact hPc, va_K.moved hW.alike hKc⟩⟩ rfl rfl hl.1 rfl (lv_room (Nat.le_of_ble_eq_true rfl)) dX7_costInTongue_25 ⟨Nat.le_of_ble_eq_true rfl, Nat.le_of_ble_eq_true rfl⟩) (fun r_25 hw_25 => ?_)
      clear hPc
      have hr_25 := hw_25
      obtain rfl : nI (spN f tt g1 (s1 i) (l1 i)) = r_25 := Eq.symm hr_25
      have hsp := spN_le f tt g1 (s1 i) (l1 i)
      refine lv_istore (lv' := [(4, .int (nI (spN f tt g1 (s1 i) (l1 i)))), (0, .ref h0), (1, .int (nI i)), (2, .int (nI tt)), (3, .int p2)]) hx hb dX7_costInTongue_28 hl (by decide) rfl (fun ls hl => ?_)
      refine lv_iload_n hx hb dX7_costInTongue_30 rfl (lv_at hl 4 rfl) ?_
      refine lv_if_ne (tgt := 39) hx hb dX7_costInTongue_31 (by decide) (fun c_31 => ?_) (fun c_31 => ?_)
      · refine lv_iload hx hb dX7_costInTongue_39 (lv_at hl 0 rfl) ?_
        refine lv_sipush (v := 300) hx hb dX7_costInTongue_41 (by decide) ?_
        refine lv_iadd hx hb dX7_costInTongue_44 ?_
        refine lv_topi (fun x_44 ex_44 => ?_)
        obtain rfl : nI (spN f tt g1 (s1 i) (l1 i) + 300) = x_44 := Eq.symm (ex_44.trans (nI_add (spN f tt g1 (s1 i) (l1 i)) 300))
        exact W.iret (v := nI (spN f tt g1 (s1 i) (l1 i) + 300)) hx hb hr (fun t ht hW => ⟨nI (spN f tt g1 (s1 i) (l1 i) + 300), rfl, congrArg nI (((if_neg (fun h9 => h9.elim c_2 (fun h8 => h8 c_10))) : ciT p2 tt (spN f tt g1 (s1 i) (l1 i)) = _).trans (if_neg c_31)).symm, ht⟩) (fun _ h => absurd h List.not_mem_nil) dX7_costInTongue_45
      · refine lv_iload hx hb dX7_costInTongue_34 (lv_at hl 0 rfl) ?_
        refine lv_goto (tgt := 45) hx hb dX7_costInTongue_36 (by decide) ?_
        exact W.iret (v := nI (spN f tt g1 (s1 i) (l1 i))) hx hb hr (fun t ht hW => ⟨nI (spN f tt g1 (s1 i) (l1 i)), rfl, congrArg nI (((if_neg (fun h9 => h9.elim c_2 (fun h8 => h8 c_10))) : ciT p2 tt (spN f tt g1 (s1 i) (l1 i)) = _).trans (if_pos c_31)).symm, ht⟩) (fun _ h => absurd h List.not_mem_nil) dX7_costInTongue_45
    · refine lv_iconst (v := 0) hx hb dX7_costInTongue_13 (by decide) ?_
      exact W.iret (v := 0) hx hb hr (fun t ht hW => ⟨0, rfl, congrArg nI (show ciT p2 tt (spN f tt g1 (s1 i) (l1 i)) = 0 from if_pos (Or.inr c_10)).symm, ht⟩) (fun _ h => absurd h List.not_mem_nil) dX7_costInTongue_14

set_option maxHeartbeats 4000000 in
set_option maxRecDepth 100000 in
theorem g_X7_weighText (l : Launch) (dC : Nat → ClassId) (dI : Nat → Nat → Nat) (h0 : Nat) (a0 : Nat) (ts : Nat) (a2 : Nat) (a3 : Nat) (v4 : Int32) (v5 : Int32) (a6 : Nat) (a7 : Nat) (a8 : Nat) (v9 : Nat) (v10 : Nat) (a11 : Nat) (a12 : Nat) (v13 : Int32) (a14 : Nat) (a15 : Nat) (a16 : Nat) (v17 : Int32) (b0 : Nat) (z : Nat) (kc : ClassId) (f : Nat → Int32) (e1_0 : Nat) (e1_1 : Nat) (e1_2 : Nat) (ke1_0 : ClassId) (ke1_1 : ClassId) (ke1_2 : ClassId) (n1 : Nat) (w1 : Nat) (g1 : Nat → Nat) (s1 : Nat → Nat) (l1 : Nat → Nat) (y8_0 : Nat) (y8_1 : Nat) (ky8_0 : ClassId) (ky8_1 : ClassId) (z8 : Nat) (t8 : Nat → Nat) (u8 : Nat → Nat) (y6_0 : Nat) (y6_1 : Nat) (ky6_0 : ClassId) (ky6_1 : ClassId) (z6 : Nat) (t6 : Nat → Nat) (u6 : Nat → Nat) (kp : ClassId) (fk : Nat → Int32) (wc : Nat) (wb : Nat) (wh : Nat) (wm : Nat) (wn : Nat) (wz : Nat) (wch : Nat) (wbw : Int32) (wot : Int32) (kwc : ClassId) (kwb : ClassId) (kwh : ClassId) (kwm : ClassId) (gwc : Nat → Nat) (gwb : Nat → Nat) (gwh : Nat → Nat) (gwm : Nat → Nat) (sz : Nat) (hz : z ≤ 8) (hT : SOK g1 s1 l1 n1 w1) (hNM : WOK t8 u8 z8 30) (hKW : WOK t6 u6 z6 60) : Met l yX7_weighText wsX7_weighText ({ frames := 4, cells := 0, slots := 0, locals := 99 }) (va_Pc [.ref h0] (fun U => U.heap.size = sz ∧ va_P (dC, dI) vwCl [(h0, .inr (7, [.ref a0, .int (nI ts), .ref a2, .ref a3, .int v4, .int v5, .ref a6, .ref a7, .ref a8, .int (nI v9), .int (nI v10), .ref a11, .ref a12, .int v13, .ref a14, .ref a15, .ref a16, .int v17])), (a2, .inr (4, [.ref b0, .int (nI z)])), (b0, .inl (kc, 6272, .inl f)), (a11, .inr (2, [.ref e1_0, .ref e1_1, .ref e1_2, .int (nI n1), .int (nI w1)])), (e1_0, .inl (ke1_0, 600, .inl (nR g1))), (e1_1, .inl (ke1_1, 60, .inl (nR s1))), (e1_2, .inl (ke1_2, 60, .inl (nR l1))), (a8, .inr (6, [.ref y8_0, .ref y8_1, .int (nI z8)])), (y8_0, .inl (ky8_0, 720, .inl (nR t8))), (y8_1, .inl (ky8_1, 30, .inl (nR u8))), (a6, .inr (6, [.ref y6_0, .ref y6_1, .int (nI z6)])), (y6_0, .inl (ky6_0, 1440, .inl (nR t6))), (y6_1, .inl (ky6_1, 60, .inl (nR u6))), (a7, .inl (kp, 60, .inl fk)), (a14, .inr (5, [.ref wc, .ref wb, .ref wh, .ref wm, .int (nI wn), .int (nI wz), .int (nI wch), .int wbw, .int wot])), (wc, .inl (kwc, 480, .inl (nR gwc))), (wb, .inl (kwb, 480, .inl (nR gwb))), (wh, .inl (kwh, 60, .inl (nR gwh))), (wm, .inl (kwm, 60, .inl (nR gwm)))] U.heap ∧ va_K (dC, dI) vwCl [(kc, .int), (ke1_0, .byte), (ke1_1, .int), (ke1_2, .int), (ky8_0, .byte), (ky8_1, .int), (ky6_0, .byte), (ky6_1, .int), (kp, .int), (kwc, .int), (kwb, .int), (kwh, .int), (kwm, .int)] U ∧ va_D (fun _ => True) [(h0, .inr (7, [.ref a0, .int (nI ts), .ref a2, .ref a3, .int v4, .int v5, .ref a6, .ref a7, .ref a8, .int (nI v9), .int (nI v10), .ref a11, .ref a12, .int v13, .ref a14, .ref a15, .ref a16, .int v17])), (a2, .inr (4, [.ref b0, .int (nI z)])), (b0, .inl (kc, 6272, .inl f)), (a11, .inr (2, [.ref e1_0, .ref e1_1, .ref e1_2, .int (nI n1), .int (nI w1)])), (e1_0, .inl (ke1_0, 600, .inl (nR g1))), (e1_1, .inl (ke1_1, 60, .inl (nR s1))), (e1_2, .inl (ke1_2, 60, .inl (nR l1))), (a8, .inr (6, [.ref y8_0, .ref y8_1, .int (nI z8)])), (y8_0, .inl (ky8_0, 720, .inl (nR t8))), (y8_1, .inl (ky8_1, 30, .inl (nR u8))), (a6, .inr (6, [.ref y6_0, .ref y6_1, .int (nI z6)])), (y6_0, .inl (ky6_0, 1440, .inl (nR t6))), (y6_1, .inl (ky6_1, 60, .inl (nR u6))), (a7, .inl (kp, 60, .inl fk)), (a14, .inr (5, [.ref wc, .ref wb, .ref wh, .ref wm, .int (nI wn), .int (nI wz), .int (nI wch), .int wbw, .int wot])), (wc, .inl (kwc, 480, .inl (nR gwc))), (wb, .inl (kwb, 480, .inl (nR gwb))), (wh, .inl (kwh, 60, .inl (nR gwh))), (wm, .inl (kwm, 60, .inl (nR gwm)))])) (va_Qv (fun (u : Nat → Nat) => match u with | co => (∀ j t, j < w1 → t < z → co (j * 8 + t) = wcC t8 u8 z8 t6 u6 z6 fk f g1 s1 l1 j t)) (fun (u : Nat → Nat) (t : State) => match u with | co => va_P (dC, dI) vwCl [(h0, .inr (7, [.ref a0, .int (nI ts), .ref a2, .ref a3, .int v4, .int v5, .ref a6, .ref a7, .ref a8, .int (nI v9), .int (nI v10), .ref a11, .ref a12, .int v13, .ref a14, .ref a15, .ref a16, .int v17])), (a2, .inr (4, [.ref b0, .int (nI z)])), (b0, .inl (kc, 6272, .inl f)), (a11, .inr (2, [.ref e1_0, .ref e1_1, .ref e1_2, .int (nI n1), .int (nI w1)])), (e1_0, .inl (ke1_0, 600, .inl (nR g1))), (e1_1, .inl (ke1_1, 60, .inl (nR s1))), (e1_2, .inl (ke1_2, 60, .inl (nR l1))), (a8, .inr (6, [.ref y8_0, .ref y8_1, .int (nI z8)])), (y8_0, .inl (ky8_0, 720, .inl (nR t8))), (y8_1, .inl (ky8_1, 30, .inl (nR u8))), (a6, .inr (6, [.ref y6_0, .ref y6_1, .int (nI z6)])), (y6_0, .inl (ky6_0, 1440, .inl (nR t6))), (y6_1, .inl (ky6_1, 60, .inl (nR u6))), (a7, .inl (kp, 60, .inl fk)), (a14, .inr (5, [.ref wc, .ref wb, .ref wh, .ref wm, .int (nI w1), .int (nI z), .int (nI v9), .int (-1), .int wot])), (wc, .inl (kwc, 480, .inl (nR co))), (wb, .inl (kwb, 480, .inl (nR gwb))), (wh, .inl (kwh, 60, .inl (nR gwh))), (wm, .inl (kwm, 60, .inl (nR gwm)))] t.heap ∧ va_D (va_A [(h0, .inr (7, [.ref a0, .int (nI ts), .ref a2, .ref a3, .int v4, .int v5, .ref a6, .ref a7, .ref a8, .int (nI v9), .int (nI v10), .ref a11, .ref a12, .int v13, .ref a14, .ref a15, .ref a16, .int v17])), (a2, .inr (4, [.ref b0, .int (nI z)])), (b0, .inl (kc, 6272, .inl f)), (a11, .inr (2, [.ref e1_0, .ref e1_1, .ref e1_2, .int (nI n1), .int (nI w1)])), (e1_0, .inl (ke1_0, 600, .inl (nR g1))), (e1_1, .inl (ke1_1, 60, .inl (nR s1))), (e1_2, .inl (ke1_2, 60, .inl (nR l1))), (a8, .inr (6, [.ref y8_0, .ref y8_1, .int (nI z8)])), (y8_0, .inl (ky8_0, 720, .inl (nR t8))), (y8_1, .inl (ky8_1, 30, .inl (nR u8))), (a6, .inr (6, [.ref y6_0, .ref y6_1, .int (nI z6)])), (y6_0, .inl (ky6_0, 1440, .inl (nR t6))), (y6_1, .inl (ky6_1, 60, .inl (nR u6))), (a7, .inl (kp, 60, .inl fk)), (a14, .inr (5, [.ref wc, .ref wb, .ref wh, .ref wm, .int (nI wn), .int (nI wz), .int (nI wch), .int wbw, .int wot])), (wc, .inl (kwc, 480, .inl (nR gwc))), (wb, .inl (kwb, 480, .inl (nR gwb))), (wh, .inl (kwh, 60, .inl (nR gwh))), (wm, .inl (kwm, 60, .inl (nR gwm)))] sz) [(h0, .inr (7, [.ref a0, .int (nI ts), .ref a2, .ref a3, .int v4, .int v5, .ref a6, .ref a7, .ref a8, .int (nI v9), .int (nI v10), .ref a11, .ref a12, .int v13, .ref a14, .ref a15, .ref a16, .int v17])), (a2, .inr (4, [.ref b0, .int (nI z)])), (b0, .inl (kc, 6272, .inl f)), (a11, .inr (2, [.ref e1_0, .ref e1_1, .ref e1_2, .int (nI n1), .int (nI w1)])), (e1_0, .inl (ke1_0, 600, .inl (nR g1))), (e1_1, .inl (ke1_1, 60, .inl (nR s1))), (e1_2, .inl (ke1_2, 60, .inl (nR l1))), (a8, .inr (6, [.ref y8_0, .ref y8_1, .int (nI z8)])), (y8_0, .inl (ky8_0, 720, .inl (nR t8))), (y8_1, .inl (ky8_1, 30, .inl (nR u8))), (a6, .inr (6, [.ref y6_0, .ref y6_1, .int (nI z6)])), (y6_0, .inl (ky6_0, 1440, .inl (nR t6))), (y6_1, .inl (ky6_1, 60, .inl (nR u6))), (a7, .inl (kp, 60, .inl fk)), (a14, .inr (5, [.ref wc, .ref wb, .ref wh, .ref wm, .int (nI w1), .int (nI z), .int (nI v9), .int (-1), .int wot])), (wc, .inl (kwc, 480, .inl (nR co))), (wb, .inl (kwb, 480, .inl (nR gwb))), (wh, .inl (kwh, 60, .inl (nR gwh))), (wm, .inl (kwm, 60, .inl (nR gwm)))]) (va_A [(h0, .inr (7, [.ref a0, .int (nI ts), .ref a2, .ref a3, .int v4, .int v5, .ref a6, .ref a7, .ref a8, .int (nI v9), .int (nI v10), .ref a11, .ref a12, .int v13, .ref a14, .ref a15, .ref a16, .int v17])), (a2, .inr (4, [.ref b0, .int (nI z)])), (b0, .inl (kc, 6272, .inl f)), (a11, .inr (2, [.ref e1_0, .ref e1_1, .ref e1_2, .int (nI n1), .int (nI w1)])), (e1_0, .inl (ke1_0, 600, .inl (nR g1))), (e1_1, .inl (ke1_1, 60, .inl (nR s1))), (e1_2, .inl (ke1_2, 60, .inl (nR l1))), (a8, .inr (6, [.ref y8_0, .ref y8_1, .int (nI z8)])), (y8_0, .inl (ky8_0, 720, .inl (nR t8))), (y8_1, .inl (ky8_1, 30, .inl (nR u8))), (a6, .inr (6, [.ref y6_0, .ref y6_1, .int (nI z6)])), (y6_0, .inl (ky6_0, 1440, .inl (nR t6))), (y6_1, .inl (ky6_1, 60, .inl (nR u6))), (a7, .inl (kp, 60, .inl fk)), (a14, .inr (5, [.ref wc, .ref wb, .ref wh, .ref wm, .int (nI wn), .int (nI wz), .int (nI wch), .int wbw, .int wot])), (wc, .inl (kwc, 480, .inl (nR gwc))), (wb, .inl (kwb, 480, .inl (nR gwb))), (wh, .inl (kwh, 60, .inl (nR gwh))), (wm, .inl (kwm, 60, .inl (nR gwm)))] sz)) 0 0 (va_A [(h0, .inr (7, [.ref a0, .int (nI ts), .ref a2, .ref a3, .int v4, .int v5, .ref a6, .ref a7, .ref a8, .int (nI v9), .int (nI v10), .ref a11, .ref a12, .int v13, .ref a14, .ref a15, .ref a16, .int v17])), (a2, .inr (4, [.ref b0, .int (nI z)])), (b0, .inl (kc, 6272, .inl f)), (a11, .inr (2, [.ref e1_0, .ref e1_1, .ref e1_2, .int (nI n1), .int (nI w1)])), (e1_0, .inl (ke1_0, 600, .inl (nR g1))), (e1_1, .inl (ke1_1, 60, .inl (nR s1))), (e1_2, .inl (ke1_2, 60, .inl (nR l1))), (a8, .inr (6, [.ref y8_0, .ref y8_1, .int (nI z8)])), (y8_0, .inl (ky8_0, 720, .inl (nR t8))), (y8_1, .inl (ky8_1, 30, .inl (nR u8))), (a6, .inr (6, [.ref y6_0, .ref y6_1, .int (nI z6)])), (y6_0, .inl (ky6_0, 1440, .inl (nR t6))), (y6_1, .inl (ky6_1, 60, .inl (nR u6))), (a7, .inl (kp, 60, .inl fk)), (a14, .inr (5, [.ref wc, .ref wb, .ref wh, .ref wm, .int (nI wn), .int (nI wz), .int (nI wch), .int wbw, .int wot])), (wc, .inl (kwc, 480, .inl (nR gwc))), (wb, .inl (kwb, 480, .inl (nR gwb))), (wh, .inl (kwh, 60, .inl (nR gwh))), (wm, .inl (kwm, 60, .inl (nR gwm)))] sz) := by
  refine Met.ofW (cc := cX7_weighText) (maxL := 4) (ret := none) (by decide) rfl ?_
  intro p e s m args below meth c s₁ B hml hv
  obtain ⟨rfl, hsz, hP, hK, hD0⟩ := hv
  have hx := B.exec
  have hb := B.bytes
  have hr := B.returns
  have hts := atoms_spec (ws := wsX7_weighText) B.pre
  have hown : s.vm.findClass RX7 = some m.cls := findClass_of_methodNamed B.named
  have hlocks := B.notSynchronized
  subst hsz
  have hD := hD0.self (sz := s.heap.size)
  clear hD0
  generalize hAe : va_A [(h0, .inr (7, [.ref a0, .int (nI ts), .ref a2, .ref a3, .int v4, .int v5, .ref a6, .ref a7, .ref a8, .int (nI v9), .int (nI v10), .ref a11, .ref a12, .int v13, .ref a14, .ref a15, .ref a16, .int v17])), (a2, .inr (4, [.ref b0, .int (nI z)])), (b0, .inl (kc, 6272, .inl f)), (a11, .inr (2, [.ref e1_0, .ref e1_1, .ref e1_2, .int (nI n1), .int (nI w1)])), (e1_0, .inl (ke1_0, 600, .inl (nR g1))), (e1_1, .inl (ke1_1, 60, .inl (nR s1))), (e1_2, .inl (ke1_2, 60, .inl (nR l1))), (a8, .inr (6, [.ref y8_0, .ref y8_1, .int (nI z8)])), (y8_0, .inl (ky8_0, 720, .inl (nR t8))), (y8_1, .inl (ky8_1, 30, .inl (nR u8))), (a6, .inr (6, [.ref y6_0, .ref y6_1, .int (nI z6)])), (y6_0, .inl (ky6_0, 1440, .inl (nR t6))), (y6_1, .inl (ky6_1, 60, .inl (nR u6))), (a7, .inl (kp, 60, .inl fk)), (a14, .inr (5, [.ref wc, .ref wb, .ref wh, .ref wm, .int (nI wn), .int (nI wz), .int (nI wch), .int wbw, .int wot])), (wc, .inl (kwc, 480, .inl (nR gwc))), (wb, .inl (kwb, 480, .inl (nR gwb))), (wh, .inl (kwh, 60, .inl (nR gwh))), (wm, .inl (kwm, 60, .inl (nR gwm)))] s.heap.size = A at hD ⊢
  have hA : ∀ q : Nat, s.heap.size ≤ q → A q := fun q h => by rw [← hAe]; exact Or.inr h
  clear hAe
  have hS : va_S A s.heap s.heap [] := va_S.rf
  replace hP : va_P (dC, dI) vwCl [(h0, .inr (7, [.ref a0, .int (nI ts), .ref a2, .ref a3, .int v4, .int v5, .ref a6, .ref a7, .ref a8, .int (nI v9), .int (nI v10), .ref a11, .ref a12, .int v13, .ref a14, .ref a15, .ref a16, .int v17])), (a2, .inr (4, [.ref b0, .int (nI z)])), (b0, .inl (kc, 6272, .inl f)), (a11, .inr (2, [.ref e1_0, .ref e1_1, .ref e1_2, .int (nI n1), .int (nI w1)])), (e1_0, .inl (ke1_0, 600, .inl (nR g1))), (e1_1, .inl (ke1_1, 60, .inl (nR s1))), (e1_2, .inl (ke1_2, 60, .inl (nR l1))), (a8, .inr (6, [.ref y8_0, .ref y8_1, .int (nI z8)])), (y8_0, .inl (ky8_0, 720, .inl (nR t8))), (y8_1, .inl (ky8_1, 30, .inl (nR u8))), (a6, .inr (6, [.ref y6_0, .ref y6_1, .int (nI z6)])), (y6_0, .inl (ky6_0, 1440, .inl (nR t6))), (y6_1, .inl (ky6_1, 60, .inl (nR u6))), (a7, .inl (kp, 60, .inl fk)), (a14, .inr (5, [.ref wc, .ref wb, .ref wh, .ref wm, .int (nI wn), .int (nI wz), .int (nI wch), .int wbw, .int wot])), (wc, .inl (kwc, 480, .inl (nR gwc))), (wb, .inl (kwb, 480, .inl (nR gwb))), (wh, .inl (kwh, 60, .inl (nR gwh))), (wm, .inl (kwm, 60, .inl (nR gwm)))] s.heap := hP
  have hl := lv_entry ([.ref h0]) (n := 4) (Nat.le_of_ble_eq_true rfl)
  rw [lg_entry_eq]
  generalize (lg_sl ([.ref h0]) ++ List.replicate (4 - (lg_sl ([.ref h0])).length) Slot.unset).toArray = ls at hl ⊢
  replace hl : lv_has ls 4 [(0, .ref h0)] := hl
  have hi_X7 : ∀ w ∈ wsX70, w ∈ wsX7_weighText := by decide +kernel
  have k_f75 := hts (.fieldLink RX7 75 "TongueTeller" "way" "LTongueTeller$Way;") (by decide +kernel)
  have k_f61 := hts (.fieldLink RX7 61 "TongueTeller" "theText" "LTongueTeller$Script;") (by decide +kernel)
  have hi_X2 : ∀ w ∈ wsX20, w ∈ wsX7_weighText := by decide +kernel
  have k_f247 := hts (.fieldLink RX7 247 "TongueTeller$Script" "words" "I") (by decide +kernel)
  have k_f20 := hts (.fieldLink RX7 20 "TongueTeller" "tongues" "LTongueTeller$Tongues;") (by decide +kernel)
  have hi_X4 : ∀ w ∈ wsX40, w ∈ wsX7_weighText := by decide +kernel
  have k_f99 := hts (.fieldLink RX7 99 "TongueTeller$Tongues" "size" "I") (by decide +kernel)
  have k_f52 := hts (.fieldLink RX7 52 "TongueTeller" "change" "I") (by decide +kernel)
  have hi_X5 : ∀ w ∈ wsX50, w ∈ wsX7_weighText := by decide +kernel
  have k_f283 := hts (.fieldLink RX7 283 "TongueTeller$Way" "costs" "[I") (by decide +kernel)
  have hT60 := hT.2.1
  refine lv_aload_n hx hb dX7_weighText_0 rfl (lv_at hl 0 rfl) ?_
  refine va_get (D := (dC, dI)) (ci := 7) (v := .ref a14) (C := RX7) (T := TX7) (N := 18) hx hb hts hi_X7 hown hK hP 0 rfl rfl 14 (by decide) k_f75 (fun _ h9 => h9) rfl dX7_weighText_1 ?_
  refine lv_aload_n hx hb dX7_weighText_4 rfl (lv_at hl 0 rfl) ?_
  refine va_get (D := (dC, dI)) (ci := 7) (v := .ref a11) (C := RX7) (T := TX7) (N := 18) hx hb hts hi_X7 hown hK hP 0 rfl rfl 11 (by decide) k_f61 (fun _ h9 => h9) rfl dX7_weighText_5 ?_
  refine va_get (D := (dC, dI)) (ci := 2) (v := .int (nI w1)) (C := RX2) (T := TX2) (N := 5) hx hb hts hi_X2 hown hK hP 3 rfl rfl 4 (by decide) k_f247 (fun _ h9 => h9) rfl dX7_weighText_8 ?_
  refine lv_aload_n hx hb dX7_weighText_11 rfl (lv_at hl 0 rfl) ?_
  refine va_get (D := (dC, dI)) (ci := 7) (v := .ref a2) (C := RX7) (T := TX7) (N := 18) hx hb hts hi_X7 hown hK hP 0 rfl rfl 2 (by decide) k_f20 (fun _ h9 => h9) rfl dX7_weighText_12 ?_
  refine va_get (D := (dC, dI)) (ci := 4) (v := .int (nI z)) (C := RX4) (T := TX4) (N := 2) hx hb hts hi_X4 hown hK hP 1 rfl rfl 1 (by decide) k_f99 (fun _ h9 => h9) rfl dX7_weighText_15 ?_
  refine lv_aload_n hx hb dX7_weighText_18 rfl (lv_at hl 0 rfl) ?_
  refine va_get (D := (dC, dI)) (ci := 7) (v := .int (nI v9)) (C := RX7) (T := TX7) (N := 18) hx hb hts hi_X7 hown hK hP 0 rfl rfl 9 (by decide) k_f52 (fun _ h9 => h9) rfl dX7_weighText_19 ?_
  have hPc := hP.sub (ws' := [(a14, .inr (5, [.ref wc, .ref wb, .ref wh, .ref wm, .int (nI wn), .int (nI wz), .int (nI wch), .int wbw, .int wot]))]) [14] rfl
  have hDc := hD.sub (ws' := [(a14, .inr (5, [.ref wc, .ref wb, .ref wh, .ref wm, .int (nI wn), .int (nI wz), .int (nI wch), .int wbw, .int wot]))]) [14] (by decide) rfl
  have hKc := hK.sub (tys' := []) [] rfl
  have hFc := va_free (wc := [(a14, .inr (5, [.ref wc, .ref wb, .ref wh, .ref wm, .int (nI wn), .int (nI wz), .int (nI wch), .int wbw, .int wot]))]) hD hS hA [14] rfl
  refine va_callv (va_runV (As := [.int (nI w1), .int (nI z), .int (nI v9)]) (rest := []) ⟨hx, hb, hml, hown, hts⟩ (g_X5_begin l dC dI a14 wc wb wh wm wn wz wch wbw wot w1 z v9 s.heap.size) (cwV 3 hts gX7_weighText_X5_begin rfl rfl rfl (by decide +kernel) ⟨Nat.le_of_ble_eq_true rfl, Nat.le_of_ble_eq_true rfl⟩) ⟨fun a U g mk q => by obtain ⟨q0, q1, qP, qK, qD⟩ := q; exact ⟨q0, q1, qP, va_K.moved (u := U) (U := U.calling g mk a) (Vm.Alike.refl U.vm) qK, qD⟩, va_recv hK hP (ci := 5) (q0 := 14) rfl rfl, fun U hU hW => ⟨rfl, by rw [hU], by rw [hU]; exact hPc, va_K.moved hW.alike hKc, hDc.weaken (fun _ _ _ _ => trivial)⟩⟩ rfl rfl hl.1 rfl (lv_room (Nat.le_of_ble_eq_true rfl)) dX7_weighText_22 ⟨Nat.le_of_ble_eq_true rfl, Nat.le_of_ble_eq_true rfl⟩) hS (fun q _ h => hFc q h) hFc (fun u t H1 locs ht hvm hw_22 hB hz1 hk1 hS => ?_)
  obtain ⟨hP1, hD1⟩ := hB
  rw [ht] at hP1
  obtain ⟨hP, hD⟩ := va_join (wr := [(h0, .inr (7, [.ref a0, .int (nI ts), .ref a2, .ref a3, .int v4, .int v5, .ref a6, .ref a7, .ref a8, .int (nI v9), .int (nI v10), .ref a11, .ref a12, .int v13, .ref a14, .ref a15, .ref a16, .int v17])), (a2, .inr (4, [.ref b0, .int (nI z)])), (b0, .inl (kc, 6272, .inl f)), (a11, .inr (2, [.ref e1_0, .ref e1_1, .ref e1_2, .int (nI n1), .int (nI w1)])), (e1_0, .inl (ke1_0, 600, .inl (nR g1))), (e1_1, .inl (ke1_1, 60, .inl (nR s1))), (e1_2, .inl (ke1_2, 60, .inl (nR l1))), (a8, .inr (6, [.ref y8_0, .ref y8_1, .int (nI z8)])), (y8_0, .inl (ky8_0, 720, .inl (nR t8))), (y8_1, .inl (ky8_1, 30, .inl (nR u8))), (a6, .inr (6, [.ref y6_0, .ref y6_1, .int (nI z6)])), (y6_0, .inl (ky6_0, 1440, .inl (nR t6))), (y6_1, .inl (ky6_1, 60, .inl (nR u6))), (a7, .inl (kp, 60, .inl fk)), (wc, .inl (kwc, 480, .inl (nR gwc))), (wb, .inl (kwb, 480, .inl (nR gwb))), (wh, .inl (kwh, 60, .inl (nR gwh))), (wm, .inl (kwm, 60, .inl (nR gwm)))]) (w1 := [(a14, .inr (5, [.ref wc, .ref wb, .ref wh, .ref wm, .int (nI w1), .int (nI z), .int (nI v9), .int (-1), .int wot]))]) hP hD [14] [0, 1, 2, 3, 4, 5, 6, 7, 8, 9, 10, 11, 12, 13, 15, 16, 17, 18] rfl rfl (by decide) (by decide) hk1 hFc hP1 hD1
  generalize H1 = H at hP hS ⊢
  replace hP : va_P (dC, dI) vwCl [(h0, .inr (7, [.ref a0, .int (nI ts), .ref a2, .ref a3, .int v4, .int v5, .ref a6, .ref a7, .ref a8, .int (nI v9), .int (nI v10), .ref a11, .ref a12, .int v13, .ref a14, .ref a15, .ref a16, .int v17])), (a2, .inr (4, [.ref b0, .int (nI z)])), (b0, .inl (kc, 6272, .inl f)), (a11, .inr (2, [.ref e1_0, .ref e1_1, .ref e1_2, .int (nI n1), .int (nI w1)])), (e1_0, .inl (ke1_0, 600, .inl (nR g1))), (e1_1, .inl (ke1_1, 60, .inl (nR s1))), (e1_2, .inl (ke1_2, 60, .inl (nR l1))), (a8, .inr (6, [.ref y8_0, .ref y8_1, .int (nI z8)])), (y8_0, .inl (ky8_0, 720, .inl (nR t8))), (y8_1, .inl (ky8_1, 30, .inl (nR u8))), (a6, .inr (6, [.ref y6_0, .ref y6_1, .int (nI z6)])), (y6_0, .inl (ky6_0, 1440, .inl (nR t6))), (y6_1, .inl (ky6_1, 60, .inl (nR u6))), (a7, .inl (kp, 60, .inl fk)), (wc, .inl (kwc, 480, .inl (nR gwc))), (wb, .inl (kwb, 480, .inl (nR gwb))), (wh, .inl (kwh, 60, .inl (nR gwh))), (wm, .inl (kwm, 60, .inl (nR gwm))), (a14, .inr (5, [.ref wc, .ref wb, .ref wh, .ref wm, .int (nI w1), .int (nI z), .int (nI v9), .int (-1), .int wot]))] H := hP
  replace hD : va_D A [(h0, .inr (7, [.ref a0, .int (nI ts), .ref a2, .ref a3, .int v4, .int v5, .ref a6, .ref a7, .ref a8, .int (nI v9), .int (nI v10), .ref a11, .ref a12, .int v13, .ref a14, .ref a15, .ref a16, .int v17])), (a2, .inr (4, [.ref b0, .int (nI z)])), (b0, .inl (kc, 6272, .inl f)), (a11, .inr (2, [.ref e1_0, .ref e1_1, .ref e1_2, .int (nI n1), .int (nI w1)])), (e1_0, .inl (ke1_0, 600, .inl (nR g1))), (e1_1, .inl (ke1_1, 60, .inl (nR s1))), (e1_2, .inl (ke1_2, 60, .inl (nR l1))), (a8, .inr (6, [.ref y8_0, .ref y8_1, .int (nI z8)])), (y8_0, .inl (ky8_0, 720, .inl (nR t8))), (y8_1, .inl (ky8_1, 30, .inl (nR u8))), (a6, .inr (6, [.ref y6_0, .ref y6_1, .int (nI z6)])), (y6_0, .inl (ky6_0, 1440, .inl (nR t6))), (y6_1, .inl (ky6_1, 60, .inl (nR u6))), (a7, .inl (kp, 60, .inl fk)), (wc, .inl (kwc, 480, .inl (nR gwc))), (wb, .inl (kwb, 480, .inl (nR gwb))), (wh, .inl (kwh, 60, .inl (nR gwh))), (wm, .inl (kwm, 60, .inl (nR gwm))), (a14, .inr (5, [.ref wc, .ref wb, .ref wh, .ref wm, .int (nI w1), .int (nI z), .int (nI v9), .int (-1), .int wot]))] := hD
  refine lv_iconst (v := 0) hx hb dX7_weighText_25 (by decide) ?_
  refine lv_istore_n (lv' := [(1, .int 0), (0, .ref h0)]) hx hb dX7_weighText_26 rfl hl (by decide) rfl (fun ls hl => ?_)
  obtain ⟨i, e_i⟩ : ∃ y : Nat, y = 0 := ⟨_, rfl⟩
  obtain ⟨gq, e_gq⟩ : ∃ y : Nat → Nat, y = gwc := ⟨_, rfl⟩
  replace hl : lv_has ls 4 [(0, .ref h0), (1, .int (nI i))] := by subst e_i; subst e_gq; exact lv_sub hl [1, 0] rfl
  replace hP : va_P (dC, dI) vwCl [(h0, .inr (7, [.ref a0, .int (nI ts), .ref a2, .ref a3, .int v4, .int v5, .ref a6, .ref a7, .ref a8, .int (nI v9), .int (nI v10), .ref a11, .ref a12, .int v13, .ref a14, .ref a15, .ref a16, .int v17])), (a2, .inr (4, [.ref b0, .int (nI z)])), (b0, .inl (kc, 6272, .inl f)), (a11, .inr (2, [.ref e1_0, .ref e1_1, .ref e1_2, .int (nI n1), .int (nI w1)])), (e1_0, .inl (ke1_0, 600, .inl (nR g1))), (e1_1, .inl (ke1_1, 60, .inl (nR s1))), (e1_2, .inl (ke1_2, 60, .inl (nR l1))), (a8, .inr (6, [.ref y8_0, .ref y8_1, .int (nI z8)])), (y8_0, .inl (ky8_0, 720, .inl (nR t8))), (y8_1, .inl (ky8_1, 30, .inl (nR u8))), (a6, .inr (6, [.ref y6_0, .ref y6_1, .int (nI z6)])), (y6_0, .inl (ky6_0, 1440, .inl (nR t6))), (y6_1, .inl (ky6_1, 60, .inl (nR u6))), (a7, .inl (kp, 60, .inl fk)), (wc, .inl (kwc, 480, .inl (nR gq))), (wb, .inl (kwb, 480, .inl (nR gwb))), (wh, .inl (kwh, 60, .inl (nR gwh))), (wm, .inl (kwm, 60, .inl (nR gwm))), (a14, .inr (5, [.ref wc, .ref wb, .ref wh, .ref wm, .int (nI w1), .int (nI z), .int (nI v9), .int (-1), .int wot]))] H := by subst e_i; subst e_gq; exact hP
  replace hD : va_D A [(h0, .inr (7, [.ref a0, .int (nI ts), .ref a2, .ref a3, .int v4, .int v5, .ref a6, .ref a7, .ref a8, .int (nI v9), .int (nI v10), .ref a11, .ref a12, .int v13, .ref a14, .ref a15, .ref a16, .int v17])), (a2, .inr (4, [.ref b0, .int (nI z)])), (b0, .inl (kc, 6272, .inl f)), (a11, .inr (2, [.ref e1_0, .ref e1_1, .ref e1_2, .int (nI n1), .int (nI w1)])), (e1_0, .inl (ke1_0, 600, .inl (nR g1))), (e1_1, .inl (ke1_1, 60, .inl (nR s1))), (e1_2, .inl (ke1_2, 60, .inl (nR l1))), (a8, .inr (6, [.ref y8_0, .ref y8_1, .int (nI z8)])), (y8_0, .inl (ky8_0, 720, .inl (nR t8))), (y8_1, .inl (ky8_1, 30, .inl (nR u8))), (a6, .inr (6, [.ref y6_0, .ref y6_1, .int (nI z6)])), (y6_0, .inl (ky6_0, 1440, .inl (nR t6))), (y6_1, .inl (ky6_1, 60, .inl (nR u6))), (a7, .inl (kp, 60, .inl fk)), (wc, .inl (kwc, 480, .inl (nR gq))), (wb, .inl (kwb, 480, .inl (nR gwb))), (wh, .inl (kwh, 60, .inl (nR gwh))), (wm, .inl (kwm, 60, .inl (nR gwm))), (a14, .inr (5, [.ref wc, .ref wb, .ref wh, .ref wm, .int (nI w1), .int (nI z), .int (nI v9), .int (-1), .int wot]))] := by subst e_i; subst e_gq; exact hD
  have hi1 : i ≤ w1 := by subst e_i; subst e_gq; omega
  have hi2 : ∀ j t, j < i → t < z → gq (j * 8 + t) = wcC t8 u8 z8 t6 u6 z6 fk f g1 s1 l1 j t := by subst e_i; subst e_gq; exact fun j t hj => absurd hj (Nat.not_lt_zero j)
  clear e_i e_gq
  obtain ⟨nn27, hnn27⟩ : ∃ q : Nat, w1 - i < q := ⟨_, Nat.lt_succ_self _⟩
  induction nn27 generalizing i gq H locs ls with
  | zero => exact absurd hnn27 (Nat.not_lt_zero _)
  | succ nn27 ih27 =>
    refine lv_iload_n hx hb dX7_weighText_27 rfl (lv_at hl 1 rfl) ?_
    refine lv_aload_n hx hb dX7_weighText_28 rfl (lv_at hl 0 rfl) ?_
    refine va_get (D := (dC, dI)) (ci := 7) (v := .ref a11) (C := RX7) (T := TX7) (N := 18) hx hb hts hi_X7 hown hK hP 0 rfl rfl 11 (by decide) k_f61 (fun _ h9 => h9) rfl dX7_weighText_29 ?_
    refine va_get (D := (dC, dI)) (ci := 2) (v := .int (nI w1)) (C := RX2) (T := TX2) (N := 5) hx hb hts hi_X2 hown hK hP 3 rfl rfl 4 (by decide) k_f247 (fun _ h9 => h9) rfl dX7_weighText_32 ?_
    refine lv_icmp_ge (tgt := 90) hx hb dX7_weighText_35 (by decide) (fun c_35 => ?_) (fun c_35 => ?_)
    · have n_35 : w1 ≤ i := (nI_leI (a := w1) (b := i) (by omega) (by omega)).mp c_35
      have hP9 := hP.sub (ws' := [(h0, .inr (7, [.ref a0, .int (nI ts), .ref a2, .ref a3, .int v4, .int v5, .ref a6, .ref a7, .ref a8, .int (nI v9), .int (nI v10), .ref a11, .ref a12, .int v13, .ref a14, .ref a15, .ref a16, .int v17])), (a2, .inr (4, [.ref b0, .int (nI z)])), (b0, .inl (kc, 6272, .inl f)), (a11, .inr (2, [.ref e1_0, .ref e1_1, .ref e1_2, .int (nI n1), .int (nI w1)])), (e1_0, .inl (ke1_0, 600, .inl (nR g1))), (e1_1, .inl (ke1_1, 60, .inl (nR s1))), (e1_2, .inl (ke1_2, 60, .inl (nR l1))), (a8, .inr (6, [.ref y8_0, .ref y8_1, .int (nI z8)])), (y8_0, .inl (ky8_0, 720, .inl (nR t8))), (y8_1, .inl (ky8_1, 30, .inl (nR u8))), (a6, .inr (6, [.ref y6_0, .ref y6_1, .int (nI z6)])), (y6_0, .inl (ky6_0, 1440, .inl (nR t6))), (y6_1, .inl (ky6_1, 60, .inl (nR u6))), (a7, .inl (kp, 60, .inl fk)), (a14, .inr (5, [.ref wc, .ref wb, .ref wh, .ref wm, .int (nI w1), .int (nI z), .int (nI v9), .int (-1), .int wot])), (wc, .inl (kwc, 480, .inl (nR gq))), (wb, .inl (kwb, 480, .inl (nR gwb))), (wh, .inl (kwh, 60, .inl (nR gwh))), (wm, .inl (kwm, 60, .inl (nR gwm)))]) [0, 1, 2, 3, 4, 5, 6, 7, 8, 9, 10, 11, 12, 13, 18, 14, 15, 16, 17] rfl
      have hD9 := hD.sub (ws' := [(h0, .inr (7, [.ref a0, .int (nI ts), .ref a2, .ref a3, .int v4, .int v5, .ref a6, .ref a7, .ref a8, .int (nI v9), .int (nI v10), .ref a11, .ref a12, .int v13, .ref a14, .ref a15, .ref a16, .int v17])), (a2, .inr (4, [.ref b0, .int (nI z)])), (b0, .inl (kc, 6272, .inl f)), (a11, .inr (2, [.ref e1_0, .ref e1_1, .ref e1_2, .int (nI n1), .int (nI w1)])), (e1_0, .inl (ke1_0, 600, .inl (nR g1))), (e1_1, .inl (ke1_1, 60, .inl (nR s1))), (e1_2, .inl (ke1_2, 60, .inl (nR l1))), (a8, .inr (6, [.ref y8_0, .ref y8_1, .int (nI z8)])), (y8_0, .inl (ky8_0, 720, .inl (nR t8))), (y8_1, .inl (ky8_1, 30, .inl (nR u8))), (a6, .inr (6, [.ref y6_0, .ref y6_1, .int (nI z6)])), (y6_0, .inl (ky6_0, 1440, .inl (nR t6))), (y6_1, .inl (ky6_1, 60, .inl (nR u6))), (a7, .inl (kp, 60, .inl fk)), (a14, .inr (5, [.ref wc, .ref wb, .ref wh, .ref wm, .int (nI w1), .int (nI z), .int (nI v9), .int (-1), .int wot])), (wc, .inl (kwc, 480, .inl (nR gq))), (wb, .inl (kwb, 480, .inl (nR gwb))), (wh, .inl (kwh, 60, .inl (nR gwh))), (wm, .inl (kwm, 60, .inl (nR gwm)))]) [0, 1, 2, 3, 4, 5, 6, 7, 8, 9, 10, 11, 12, 13, 18, 14, 15, 16, 17] (by decide) rfl
      exact W.vret hx hb hr (fun t ht hW => ⟨⟨gq, rfl, by exact fun j t hj ht => hi2 j t (by omega) ht, by rw [ht]; exact hP9, hD9⟩, hS.F ht⟩) hS.2.2 dX7_weighText_90
    · have n_35 : i < w1 := Nat.not_le.mp (fun h9 => c_35 ((nI_leI (a := w1) (b := i) (by omega) (by omega)).mpr h9))
      refine lv_aload_n hx hb dX7_weighText_38 rfl (lv_at hl 0 rfl) ?_
      refine lv_iload_n hx hb dX7_weighText_39 rfl (lv_at hl 1 rfl) ?_
      have hPc := hP.sub (ws' := [(h0, .inr (7, [.ref a0, .int (nI ts), .ref a2, .ref a3, .int v4, .int v5, .ref a6, .ref a7, .ref a8, .int (nI v9), .int (nI v10), .ref a11, .ref a12, .int v13, .ref a14, .ref a15, .ref a16, .int v17])), (a11, .inr (2, [.ref e1_0, .ref e1_1, .ref e1_2, .int (nI n1), .int (nI w1)])), (e1_0, .inl (ke1_0, 600, .inl (nR g1))), (e1_1, .inl (ke1_1, 60, .inl (nR s1))), (e1_2, .inl (ke1_2, 60, .inl (nR l1))), (a8, .inr (6, [.ref y8_0, .ref y8_1, .int (nI z8)])), (y8_0, .inl (ky8_0, 720, .inl (nR t8))), (y8_1, .inl (ky8_1, 30, .inl (nR u8))), (a6, .inr (6, [.ref y6_0, .ref y6_1, .int (nI z6)])), (y6_0, .inl (ky6_0, 1440, .inl (nR t6))), (y6_1, .inl (ky6_1, 60, .inl (nR u6))), (a7, .inl (kp, 60, .inl fk))]) [0, 3, 4, 5, 6, 7, 8, 9, 10, 11, 12, 13] rfl
      have hKc := hK.sub (tys' := [(ke1_0, .byte), (ke1_1, .int), (ke1_2, .int), (ky8_0, .byte), (ky8_1, .int), (ky6_0, .byte), (ky6_1, .int), (kp, .int)]) [1, 2, 3, 4, 5, 6, 7, 8] rfl
      refine vp_callSi (W.runV (As := [.int (nI i)]) (rest := []) ⟨hx, hb, hml, hown, hts⟩ (g_X7_keepersOf l dC dI h0 a0 ts a2 a3 v4 v5 a6 a7 a8 v9 v10 a11 a12 v13 a14 a15 a16 v17 e1_0 e1_1 e1_2 ke1_0 ke1_1 ke1_2 n1 w1 g1 s1 l1 y8_0 y8_1 ky8_0 ky8_1 z8 t8 u8 y6_0 y6_1 ky6_0 ky6_1 z6 t6 u6 kp fk i (hT) (hNM) (hKW) (n_35)) (cwV 1 hts gX7_weighText_X7_keepersOf rfl rfl rfl (by decide +kernel) ⟨Nat.le_of_ble_eq_true rfl, Nat.le_of_ble_eq_true rfl⟩) ⟨fun a U g mk q => by obtain ⟨q0, qP, qK⟩ := q; exact ⟨q0, qP, va_K.moved (u := U) (U := U.calling g mk a) (Vm.Alike.refl U.vm) qK⟩, va_recv hK hP (ci := 7) (q0 := 0) rfl rfl, fun U hU hW => ⟨rfl, by rw [hU]; exact hPc, va_K.moved hW.alike hKc⟩⟩ rfl rfl hl.1 rfl (lv_room (Nat.le_of_ble_eq_true rfl)) dX7_weighText_40 ⟨Nat.le_of_ble_eq_true rfl, Nat.le_of_ble_eq_true rfl⟩) (fun r_40 hw_40 => ?_)
      clear hPc
      obtain ⟨hr_40, hkp_40⟩ := hw_40
      obtain rfl : kpF t8 u8 z8 t6 u6 z6 fk g1 s1 l1 i = r_40 := Eq.symm hr_40
      refine lv_istore_n (lv' := [(2, .int (kpF t8 u8 z8 t6 u6 z6 fk g1 s1 l1 i)), (0, .ref h0), (1, .int (nI i))]) hx hb dX7_weighText_43 rfl hl (by decide) rfl (fun ls hl => ?_)
      refine lv_iconst (v := 0) hx hb dX7_weighText_44 (by decide) ?_
      refine lv_istore_n (lv' := [(3, .int 0), (2, .int (kpF t8 u8 z8 t6 u6 z6 fk g1 s1 l1 i)), (0, .ref h0), (1, .int (nI i))]) hx hb dX7_weighText_45 rfl hl (by decide) rfl (fun ls hl => ?_)
      obtain ⟨k, e_k⟩ : ∃ y : Nat, y = 0 := ⟨_, rfl⟩
      obtain ⟨gr, e_gr⟩ : ∃ y : Nat → Nat, y = gq := ⟨_, rfl⟩
      replace hl : lv_has ls 4 [(0, .ref h0), (1, .int (nI i)), (2, .int (kpF t8 u8 z8 t6 u6 z6 fk g1 s1 l1 i)), (3, .int (nI k))] := by subst e_k; subst e_gr; exact lv_sub hl [2, 3, 1, 0] rfl
      replace hP : va_P (dC, dI) vwCl [(h0, .inr (7, [.ref a0, .int (nI ts), .ref a2, .ref a3, .int v4, .int v5, .ref a6, .ref a7, .ref a8, .int (nI v9), .int (nI v10), .ref a11, .ref a12, .int v13, .ref a14, .ref a15, .ref a16, .int v17])), (a2, .inr (4, [.ref b0, .int (nI z)])), (b0, .inl (kc, 6272, .inl f)), (a11, .inr (2, [.ref e1_0, .ref e1_1, .ref e1_2, .int (nI n1), .int (nI w1)])), (e1_0, .inl (ke1_0, 600, .inl (nR g1))), (e1_1, .inl (ke1_1, 60, .inl (nR s1))), (e1_2, .inl (ke1_2, 60, .inl (nR l1))), (a8, .inr (6, [.ref y8_0, .ref y8_1, .int (nI z8)])), (y8_0, .inl (ky8_0, 720, .inl (nR t8))), (y8_1, .inl (ky8_1, 30, .inl (nR u8))), (a6, .inr (6, [.ref y6_0, .ref y6_1, .int (nI z6)])), (y6_0, .inl (ky6_0, 1440, .inl (nR t6))), (y6_1, .inl (ky6_1, 60, .inl (nR u6))), (a7, .inl (kp, 60, .inl fk)), (wc, .inl (kwc, 480, .inl (nR gr))), (wb, .inl (kwb, 480, .inl (nR gwb))), (wh, .inl (kwh, 60, .inl (nR gwh))), (wm, .inl (kwm, 60, .inl (nR gwm))), (a14, .inr (5, [.ref wc, .ref wb, .ref wh, .ref wm, .int (nI w1), .int (nI z), .int (nI v9), .int (-1), .int wot]))] H := by subst e_k; subst e_gr; exact hP
      replace hD : va_D A [(h0, .inr (7, [.ref a0, .int (nI ts), .ref a2, .ref a3, .int v4, .int v5, .ref a6, .ref a7, .ref a8, .int (nI v9), .int (nI v10), .ref a11, .ref a12, .int v13, .ref a14, .ref a15, .ref a16, .int v17])), (a2, .inr (4, [.ref b0, .int (nI z)])), (b0, .inl (kc, 6272, .inl f)), (a11, .inr (2, [.ref e1_0, .ref e1_1, .ref e1_2, .int (nI n1), .int (nI w1)])), (e1_0, .inl (ke1_0, 600, .inl (nR g1))), (e1_1, .inl (ke1_1, 60, .inl (nR s1))), (e1_2, .inl (ke1_2, 60, .inl (nR l1))), (a8, .inr (6, [.ref y8_0, .ref y8_1, .int (nI z8)])), (y8_0, .inl (ky8_0, 720, .inl (nR t8))), (y8_1, .inl (ky8_1, 30, .inl (nR u8))), (a6, .inr (6, [.ref y6_0, .ref y6_1, .int (nI z6)])), (y6_0, .inl (ky6_0, 1440, .inl (nR t6))), (y6_1, .inl (ky6_1, 60, .inl (nR u6))), (a7, .inl (kp, 60, .inl fk)), (wc, .inl (kwc, 480, .inl (nR gr))), (wb, .inl (kwb, 480, .inl (nR gwb))), (wh, .inl (kwh, 60, .inl (nR gwh))), (wm, .inl (kwm, 60, .inl (nR gwm))), (a14, .inr (5, [.ref wc, .ref wb, .ref wh, .ref wm, .int (nI w1), .int (nI z), .int (nI v9), .int (-1), .int wot]))] := by subst e_k; subst e_gr; exact hD
      have hk1 : k ≤ z := by subst e_k; subst e_gr; omega
      have hk2 : ∀ t, t < k → gr (i * 8 + t) = wcC t8 u8 z8 t6 u6 z6 fk f g1 s1 l1 i t := by subst e_k; subst e_gr; exact fun t ht => absurd ht (Nat.not_lt_zero t)
      have hk3 : ∀ j t, j < i → t < z → gr (j * 8 + t) = wcC t8 u8 z8 t6 u6 z6 fk f g1 s1 l1 j t := by subst e_k; subst e_gr; exact hi2
      clear e_k e_gr
      obtain ⟨nn46, hnn46⟩ : ∃ q : Nat, z - k < q := ⟨_, Nat.lt_succ_self _⟩
      induction nn46 generalizing k gr H locs ls with
      | zero => exact absurd hnn46 (Nat.not_lt_zero _)
      | succ nn46 ih46 =>
        refine lv_iload_n hx hb dX7_weighText_46 rfl (lv_at hl 3 rfl) ?_
        refine lv_aload_n hx hb dX7_weighText_47 rfl (lv_at hl 0 rfl) ?_
        refine va_get (D := (dC, dI)) (ci := 7) (v := .ref a2) (C := RX7) (T := TX7) (N := 18) hx hb hts hi_X7 hown hK hP 0 rfl rfl 2 (by decide) k_f20 (fun _ h9 => h9) rfl dX7_weighText_48 ?_
        refine va_get (D := (dC, dI)) (ci := 4) (v := .int (nI z)) (C := RX4) (T := TX4) (N := 2) hx hb hts hi_X4 hown hK hP 1 rfl rfl 1 (by decide) k_f99 (fun _ h9 => h9) rfl dX7_weighText_51 ?_
        refine lv_icmp_ge (tgt := 84) hx hb dX7_weighText_54 (by decide) (fun c_54 => ?_) (fun c_54 => ?_)
        · have n_54 : z ≤ k := (nI_leI (a := z) (b := k) (by omega) (by omega)).mp c_54
          refine lv_iinc (v := nI (i + 1)) (lv' := [(1, .int (nI (i + 1))), (0, .ref h0), (2, .int (kpF t8 u8 z8 t6 u6 z6 fk g1 s1 l1 i)), (3, .int (nI k))]) hx hb dX7_weighText_84 hl (k := 1) rfl (nI_1 _) (by decide) rfl (fun ls hl => ?_)
          refine lv_goto (tgt := 27) hx hb dX7_weighText_87 (by decide) ?_
          replace hl : lv_has ls 4 [(0, .ref h0), (1, .int (nI (i + 1)))] := lv_sub hl [1, 0] rfl
          replace hP : va_P (dC, dI) vwCl [(h0, .inr (7, [.ref a0, .int (nI ts), .ref a2, .ref a3, .int v4, .int v5, .ref a6, .ref a7, .ref a8, .int (nI v9), .int (nI v10), .ref a11, .ref a12, .int v13, .ref a14, .ref a15, .ref a16, .int v17])), (a2, .inr (4, [.ref b0, .int (nI z)])), (b0, .inl (kc, 6272, .inl f)), (a11, .inr (2, [.ref e1_0, .ref e1_1, .ref e1_2, .int (nI n1), .int (nI w1)])), (e1_0, .inl (ke1_0, 600, .inl (nR g1))), (e1_1, .inl (ke1_1, 60, .inl (nR s1))), (e1_2, .inl (ke1_2, 60, .inl (nR l1))), (a8, .inr (6, [.ref y8_0, .ref y8_1, .int (nI z8)])), (y8_0, .inl (ky8_0, 720, .inl (nR t8))), (y8_1, .inl (ky8_1, 30, .inl (nR u8))), (a6, .inr (6, [.ref y6_0, .ref y6_1, .int (nI z6)])), (y6_0, .inl (ky6_0, 1440, .inl (nR t6))), (y6_1, .inl (ky6_1, 60, .inl (nR u6))), (a7, .inl (kp, 60, .inl fk)), (wc, .inl (kwc, 480, .inl (nR gr))), (wb, .inl (kwb, 480, .inl (nR gwb))), (wh, .inl (kwh, 60, .inl (nR gwh))), (wm, .inl (kwm, 60, .inl (nR gwm))), (a14, .inr (5, [.ref wc, .ref wb, .ref wh, .ref wm, .int (nI w1), .int (nI z), .int (nI v9), .int (-1), .int wot]))] H := hP
          replace hD : va_D A [(h0, .inr (7, [.ref a0, .int (nI ts), .ref a2, .ref a3, .int v4, .int v5, .ref a6, .ref a7, .ref a8, .int (nI v9), .int (nI v10), .ref a11, .ref a12, .int v13, .ref a14, .ref a15, .ref a16, .int v17])), (a2, .inr (4, [.ref b0, .int (nI z)])), (b0, .inl (kc, 6272, .inl f)), (a11, .inr (2, [.ref e1_0, .ref e1_1, .ref e1_2, .int (nI n1), .int (nI w1)])), (e1_0, .inl (ke1_0, 600, .inl (nR g1))), (e1_1, .inl (ke1_1, 60, .inl (nR s1))), (e1_2, .inl (ke1_2, 60, .inl (nR l1))), (a8, .inr (6, [.ref y8_0, .ref y8_1, .int (nI z8)])), (y8_0, .inl (ky8_0, 720, .inl (nR t8))), (y8_1, .inl (ky8_1, 30, .inl (nR u8))), (a6, .inr (6, [.ref y6_0, .ref y6_1, .int (nI z6)])), (y6_0, .inl (ky6_0, 1440, .inl (nR t6))), (y6_1, .inl (ky6_1, 60, .inl (nR u6))), (a7, .inl (kp, 60, .inl fk)), (wc, .inl (kwc, 480, .inl (nR gr))), (wb, .inl (kwb, 480, .inl (nR gwb))), (wh, .inl (kwh, 60, .inl (nR gwh))), (wm, .inl (kwm, 60, .inl (nR gwm))), (a14, .inr (5, [.ref wc, .ref wb, .ref wh, .ref wm, .int (nI w1), .int (nI z), .int (nI v9), .int (-1), .int wot]))] := hD
          have hi29 : ∀ j t, j < (i + 1) → t < z → gr (j * 8 + t) = wcC t8 u8 z8 t6 u6 z6 fk f g1 s1 l1 j t := (fun j t hj ht => by by_cases e9 : j = i; (rw [e9]; exact hk2 t (by omega)); (exact hk3 j t (by omega) ht))
          apply ih27 (i := i + 1) (gq := gr) <;> first | assumption | omega
        · have n_54 : k < z := Nat.not_le.mp (fun h9 => c_54 ((nI_leI (a := z) (b := k) (by omega) (by omega)).mpr h9))
          refine lv_aload_n hx hb dX7_weighText_57 rfl (lv_at hl 0 rfl) ?_
          refine va_get (D := (dC, dI)) (ci := 7) (v := .ref a14) (C := RX7) (T := TX7) (N := 18) hx hb hts hi_X7 hown hK hP 0 rfl rfl 14 (by decide) k_f75 (fun _ h9 => h9) rfl dX7_weighText_58 ?_
          refine va_get (D := (dC, dI)) (ci := 5) (v := .ref wc) (C := RX5) (T := TX5) (N := 9) hx hb hts hi_X5 hown hK hP 18 rfl rfl 0 (by decide) k_f283 (fun _ h9 => h9) rfl dX7_weighText_61 ?_
          refine lv_iload_n hx hb dX7_weighText_64 rfl (lv_at hl 1 rfl) ?_
          refine lv_bipush (v := 8) hx hb dX7_weighText_65 (by decide) ?_
          refine lv_imul hx hb dX7_weighText_67 ?_
          refine lv_topi (fun x_67 ex_67 => ?_)
          obtain rfl : nI (i * 8) = x_67 := Eq.symm (ex_67.trans (pk_mul i 8))
          refine lv_iload_n hx hb dX7_weighText_68 rfl (lv_at hl 3 rfl) ?_
          refine lv_iadd hx hb dX7_weighText_69 ?_
          refine lv_topi (fun x_69 ex_69 => ?_)
          obtain rfl : nI (i * 8 + k) = x_69 := Eq.symm (ex_69.trans (nI_add (i * 8) k))
          refine lv_aload_n hx hb dX7_weighText_70 rfl (lv_at hl 0 rfl) ?_
          refine lv_iload_n hx hb dX7_weighText_71 rfl (lv_at hl 1 rfl) ?_
          refine lv_iload_n hx hb dX7_weighText_72 rfl (lv_at hl 3 rfl) ?_
          refine lv_iload_n hx hb dX7_weighText_73 rfl (lv_at hl 2 rfl) ?_
          have hPc := hP.sub (ws' := [(h0, .inr (7, [.ref a0, .int (nI ts), .ref a2, .ref a3, .int v4, .int v5, .ref a6, .ref a7, .ref a8, .int (nI v9), .int (nI v10), .ref a11, .ref a12, .int v13, .ref a14, .ref a15, .ref a16, .int v17])), (a2, .inr (4, [.ref b0, .int (nI z)])), (b0, .inl (kc, 6272, .inl f)), (a11, .inr (2, [.ref e1_0, .ref e1_1, .ref e1_2, .int (nI n1), .int (nI w1)])), (e1_0, .inl (ke1_0, 600, .inl (nR g1))), (e1_1, .inl (ke1_1, 60, .inl (nR s1))), (e1_2, .inl (ke1_2, 60, .inl (nR l1)))]) [0, 1, 2, 3, 4, 5, 6] rfl
          have hKc := hK.sub (tys' := [(kc, .int), (ke1_0, .byte), (ke1_1, .int), (ke1_2, .int)]) [0, 1, 2, 3] rfl
          refine vp_callSi (W.runV (As := [.int (nI i), .int (nI k), .int (kpF t8 u8 z8 t6 u6 z6 fk g1 s1 l1 i)]) (rest := [.int (nI (i * 8 + k)), .ref wc]) ⟨hx, hb, hml, hown, hts⟩ (g_X7_costInTongue l dC dI h0 a0 ts a2 a3 v4 v5 a6 a7 a8 v9 v10 a11 a12 v13 a14 a15 a16 v17 b0 z kc f e1_0 e1_1 e1_2 ke1_0 ke1_1 ke1_2 n1 w1 g1 s1 l1 i k (kpF t8 u8 z8 t6 u6 z6 fk g1 s1 l1 i) (hz) (hT) (by omega) (by omega) (hkp_40)) (cwV 3 hts gX7_weighText_X7_costInTongue rfl rfl rfl (by decide +kernel) ⟨Nat.le_of_ble_eq_true rfl, Nat.le_of_ble_eq_true rfl⟩) ⟨fun a U g mk q => by obtain ⟨q0, qP, qK⟩ := q; exact ⟨q0, qP, va_K.moved (u := U) (U := U.calling g mk a) (Vm.Alike.refl U.vm) qK⟩, va_recv hK hP (ci := 7) (q0 := 0) rfl rfl, fun U hU hW => ⟨rfl, by rw [hU]; exact hPc, va_K.moved hW.alike hKc⟩⟩ rfl rfl hl.1 rfl (lv_room (Nat.le_of_ble_eq_true rfl)) dX7_weighText_74 ⟨Nat.le_of_ble_eq_true rfl, Nat.le_of_ble_eq_true rfl⟩) (fun r_74 hw_74 => ?_)
          clear hPc
          have hr_74 := hw_74
          obtain rfl : nI (ciT (kpF t8 u8 z8 t6 u6 z6 fk g1 s1 l1 i) k (spN f k g1 (s1 i) (l1 i))) = r_74 := Eq.symm hr_74
          refine va_iast hx hb hK hP hD hS 14 9 rfl rfl (i := nI (i * 8 + k)) (x := nI (ciT (kpF t8 u8 z8 t6 u6 z6 fk g1 s1 l1 i) k (spN f k g1 (s1 i) (l1 i)))) (vp_in_nI (by omega) (by omega)) dX7_weighText_77 (fun H locs hP hD hS => ?_)
          have er_77 : upd (nR gr) (nI (i * 8 + k) : Int32).toNatClampNeg (nI (ciT (kpF t8 u8 z8 t6 u6 z6 fk g1 s1 l1 i) k (spN f k g1 (s1 i) (l1 i)))) = nR (updN gr (i * 8 + k) (ciT (kpF t8 u8 z8 t6 u6 z6 fk g1 s1 l1 i) k (spN f k g1 (s1 i) (l1 i)))) := upd_nR (by omega)
          replace hP : va_P (dC, dI) vwCl [(h0, .inr (7, [.ref a0, .int (nI ts), .ref a2, .ref a3, .int v4, .int v5, .ref a6, .ref a7, .ref a8, .int (nI v9), .int (nI v10), .ref a11, .ref a12, .int v13, .ref a14, .ref a15, .ref a16, .int v17])), (a2, .inr (4, [.ref b0, .int (nI z)])), (b0, .inl (kc, 6272, .inl f)), (a11, .inr (2, [.ref e1_0, .ref e1_1, .ref e1_2, .int (nI n1), .int (nI w1)])), (e1_0, .inl (ke1_0, 600, .inl (nR g1))), (e1_1, .inl (ke1_1, 60, .inl (nR s1))), (e1_2, .inl (ke1_2, 60, .inl (nR l1))), (a8, .inr (6, [.ref y8_0, .ref y8_1, .int (nI z8)])), (y8_0, .inl (ky8_0, 720, .inl (nR t8))), (y8_1, .inl (ky8_1, 30, .inl (nR u8))), (a6, .inr (6, [.ref y6_0, .ref y6_1, .int (nI z6)])), (y6_0, .inl (ky6_0, 1440, .inl (nR t6))), (y6_1, .inl (ky6_1, 60, .inl (nR u6))), (a7, .inl (kp, 60, .inl fk)), (wc, .inl (kwc, 480, .inl (nR (updN gr (i * 8 + k) (ciT (kpF t8 u8 z8 t6 u6 z6 fk g1 s1 l1 i) k (spN f k g1 (s1 i) (l1 i))))))), (wb, .inl (kwb, 480, .inl (nR gwb))), (wh, .inl (kwh, 60, .inl (nR gwh))), (wm, .inl (kwm, 60, .inl (nR gwm))), (a14, .inr (5, [.ref wc, .ref wb, .ref wh, .ref wm, .int (nI w1), .int (nI z), .int (nI v9), .int (-1), .int wot]))] H := by rw [← er_77]; exact hP
          replace hD : va_D A [(h0, .inr (7, [.ref a0, .int (nI ts), .ref a2, .ref a3, .int v4, .int v5, .ref a6, .ref a7, .ref a8, .int (nI v9), .int (nI v10), .ref a11, .ref a12, .int v13, .ref a14, .ref a15, .ref a16, .int v17])), (a2, .inr (4, [.ref b0, .int (nI z)])), (b0, .inl (kc, 6272, .inl f)), (a11, .inr (2, [.ref e1_0, .ref e1_1, .ref e1_2, .int (nI n1), .int (nI w1)])), (e1_0, .inl (ke1_0, 600, .inl (nR g1))), (e1_1, .inl (ke1_1, 60, .inl (nR s1))), (e1_2, .inl (ke1_2, 60, .inl (nR l1))), (a8, .inr (6, [.ref y8_0, .ref y8_1, .int (nI z8)])), (y8_0, .inl (ky8_0, 720, .inl (nR t8))), (y8_1, .inl (ky8_1, 30, .inl (nR u8))), (a6, .inr (6, [.ref y6_0, .ref y6_1, .int (nI z6)])), (y6_0, .inl (ky6_0, 1440, .inl (nR t6))), (y6_1, .inl (ky6_1, 60, .inl (nR u6))), (a7, .inl (kp, 60, .inl fk)), (wc, .inl (kwc, 480, .inl (nR (updN gr (i * 8 + k) (ciT (kpF t8 u8 z8 t6 u6 z6 fk g1 s1 l1 i) k (spN f k g1 (s1 i) (l1 i))))))), (wb, .inl (kwb, 480, .inl (nR gwb))), (wh, .inl (kwh, 60, .inl (nR gwh))), (wm, .inl (kwm, 60, .inl (nR gwm))), (a14, .inr (5, [.ref wc, .ref wb, .ref wh, .ref wm, .int (nI w1), .int (nI z), .int (nI v9), .int (-1), .int wot]))] := by rw [← er_77]; exact hD
          refine lv_iinc (v := nI (k + 1)) (lv' := [(3, .int (nI (k + 1))), (0, .ref h0), (1, .int (nI i)), (2, .int (kpF t8 u8 z8 t6 u6 z6 fk g1 s1 l1 i))]) hx hb dX7_weighText_78 hl (k := 3) rfl (nI_1 _) (by decide) rfl (fun ls hl => ?_)
          refine lv_goto (tgt := 46) hx hb dX7_weighText_81 (by decide) ?_
          replace hl : lv_has ls 4 [(0, .ref h0), (1, .int (nI i)), (2, .int (kpF t8 u8 z8 t6 u6 z6 fk g1 s1 l1 i)), (3, .int (nI (k + 1)))] := lv_sub hl [1, 2, 3, 0] rfl
          replace hP : va_P (dC, dI) vwCl [(h0, .inr (7, [.ref a0, .int (nI ts), .ref a2, .ref a3, .int v4, .int v5, .ref a6, .ref a7, .ref a8, .int (nI v9), .int (nI v10), .ref a11, .ref a12, .int v13, .ref a14, .ref a15, .ref a16, .int v17])), (a2, .inr (4, [.ref b0, .int (nI z)])), (b0, .inl (kc, 6272, .inl f)), (a11, .inr (2, [.ref e1_0, .ref e1_1, .ref e1_2, .int (nI n1), .int (nI w1)])), (e1_0, .inl (ke1_0, 600, .inl (nR g1))), (e1_1, .inl (ke1_1, 60, .inl (nR s1))), (e1_2, .inl (ke1_2, 60, .inl (nR l1))), (a8, .inr (6, [.ref y8_0, .ref y8_1, .int (nI z8)])), (y8_0, .inl (ky8_0, 720, .inl (nR t8))), (y8_1, .inl (ky8_1, 30, .inl (nR u8))), (a6, .inr (6, [.ref y6_0, .ref y6_1, .int (nI z6)])), (y6_0, .inl (ky6_0, 1440, .inl (nR t6))), (y6_1, .inl (ky6_1, 60, .inl (nR u6))), (a7, .inl (kp, 60, .inl fk)), (wc, .inl (kwc, 480, .inl (nR (updN gr (i * 8 + k) (ciT (kpF t8 u8 z8 t6 u6 z6 fk g1 s1 l1 i) k (spN f k g1 (s1 i) (l1 i))))))), (wb, .inl (kwb, 480, .inl (nR gwb))), (wh, .inl (kwh, 60, .inl (nR gwh))), (wm, .inl (kwm, 60, .inl (nR gwm))), (a14, .inr (5, [.ref wc, .ref wb, .ref wh, .ref wm, .int (nI w1), .int (nI z), .int (nI v9), .int (-1), .int wot]))] H := hP
          replace hD : va_D A [(h0, .inr (7, [.ref a0, .int (nI ts), .ref a2, .ref a3, .int v4, .int v5, .ref a6, .ref a7, .ref a8, .int (nI v9), .int (nI v10), .ref a11, .ref a12, .int v13, .ref a14, .ref a15, .ref a16, .int v17])), (a2, .inr (4, [.ref b0, .int (nI z)])), (b0, .inl (kc, 6272, .inl f)), (a11, .inr (2, [.ref e1_0, .ref e1_1, .ref e1_2, .int (nI n1), .int (nI w1)])), (e1_0, .inl (ke1_0, 600, .inl (nR g1))), (e1_1, .inl (ke1_1, 60, .inl (nR s1))), (e1_2, .inl (ke1_2, 60, .inl (nR l1))), (a8, .inr (6, [.ref y8_0, .ref y8_1, .int (nI z8)])), (y8_0, .inl (ky8_0, 720, .inl (nR t8))), (y8_1, .inl (ky8_1, 30, .inl (nR u8))), (a6, .inr (6, [.ref y6_0, .ref y6_1, .int (nI z6)])), (y6_0, .inl (ky6_0, 1440, .inl (nR t6))), (y6_1, .inl (ky6_1, 60, .inl (nR u6))), (a7, .inl (kp, 60, .inl fk)), (wc, .inl (kwc, 480, .inl (nR (updN gr (i * 8 + k) (ciT (kpF t8 u8 z8 t6 u6 z6 fk g1 s1 l1 i) k (spN f k g1 (s1 i) (l1 i))))))), (wb, .inl (kwb, 480, .inl (nR gwb))), (wh, .inl (kwh, 60, .inl (nR gwh))), (wm, .inl (kwm, 60, .inl (nR gwm))), (a14, .inr (5, [.ref wc, .ref wb, .ref wh, .ref wm, .int (nI w1), .int (nI z), .int (nI v9), .int (-1), .int wot]))] := hD
          have hk29 : ∀ t, t < (k + 1) → (updN gr (i * 8 + k) (ciT (kpF t8 u8 z8 t6 u6 z6 fk g1 s1 l1 i) k (spN f k g1 (s1 i) (l1 i)))) (i * 8 + t) = wcC t8 u8 z8 t6 u6 z6 fk f g1 s1 l1 i t := (fun t ht => by by_cases e9 : t = k; (rw [e9, updN_s]; rfl); (rw [updN_n (by omega)]; exact hk2 t (by omega)))
          have hk39 : ∀ j t, j < i → t < z → (updN gr (i * 8 + k) (ciT (kpF t8 u8 z8 t6 u6 z6 fk g1 s1 l1 i) k (spN f k g1 (s1 i) (l1 i)))) (j * 8 + t) = wcC t8 u8 z8 t6 u6 z6 fk f g1 s1 l1 j t := (fun j t hj ht => by rw [updN_n (by omega)]; exact hk3 j t hj ht)
          apply ih46 (k := k + 1) (gr := updN gr (i * 8 + k) (ciT (kpF t8 u8 z8 t6 u6 z6 fk g1 s1 l1 i) k (spN f k g1 (s1 i) (l1 i)))) <;> first | assumption | omega
