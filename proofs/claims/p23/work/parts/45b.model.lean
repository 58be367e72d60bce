set_option maxHeartbeats 4000000 in
set_option maxRecDepth 100000 in
theorem g_X8_wordCost (l : Launch) (dC : Nat → ClassId) (dI : Nat → Nat → Nat) (h0 : Nat) (x0 : Int32) (x1 : Int32) (m2 : Nat) (c3 : Nat) (m4 : Nat) (m5 : Nat) (m6 : Nat) (m7 : Nat) (m8 : Nat) (m9 : Nat) (m10 : Nat) (m11 : Nat) (c12 : Nat) (c13 : Nat) (c14 : Nat) (m15 : Nat) (m16 : Nat) (m17 : Nat) (m18 : Nat) (m19 : Nat) (c20 : Nat) (x21 : Int32) (c22 : Nat) (c23 : Nat) (m24 : Nat) (m25 : Nat) (c26 : Nat) (c27 : Nat) (x28 : Int32) (m29 : Nat) (m30 : Nat) (m31 : Nat) (m32 : Nat) (m33 : Nat) (m34 : Nat) (x35 : Int32) (m36 : Nat) (c37 : Nat) (ktx : ClassId) (kbg : ClassId) (kby : ClassId) (kmk : ClassId) (knm : ClassId) (kns : ClassId) (kkw : ClassId) (kks : ClassId) (kko : ClassId) (kct : ClassId) (fx8 : Nat → Int32) (bb : Nat → Nat) (by_ : Nat → Nat) (mk : Nat → Nat) (ln8 : Nat → Nat) (sn8 : Nat → Nat) (lk8 : Nat → Nat) (sk8 : Nat → Nat) (ko8 : Nat → Int32) (ct8 : Nat → Int32) (i : Nat) (tt : Nat) (hC : CUT fx8 bb by_ mk c26 c27) (hN8 : WOK ln8 sn8 c13 30) (hK8 : WOK lk8 sk8 c12 60) (hi : i < c27) (htt : tt < 8) : Met l yX8_wordCost wsX8_wordCost ({ frames := 3, cells := 0, slots := 0, locals := 71 }) (va_Pc [.ref h0, .int (nI i), .int (nI tt)] (fun U => va_P (dC, dI) vwCl [(h0, .inr (8, [.int x0, .int x1, .ref m2, .int (nI c3), .ref m4, .ref m5, .ref m6, .ref m7, .ref m8, .ref m9, .ref m10, .ref m11, .int (nI c12), .int (nI c13), .int (nI c14), .ref m15, .ref m16, .ref m17, .ref m18, .ref m19, .int (nI c20), .int x21, .int (nI c22), .int (nI c23), .ref m24, .ref m25, .int (nI c26), .int (nI c27), .int x28, .ref m29, .ref m30, .ref m31, .ref m32, .ref m33, .ref m34, .int x35, .ref m36, .int (nI c37)])), (m24, .inl (ktx, 600, .inl fx8)), (m4, .inl (kbg, 60, .inl (nR bb))), (m5, .inl (kby, 60, .inl (nR by_))), (m6, .inl (kmk, 60, .inl (nR mk))), (m8, .inl (knm, 720, .inl (nR ln8))), (m11, .inl (kns, 30, .inl (nR sn8))), (m7, .inl (kkw, 1440, .inl (nR lk8))), (m9, .inl (kks, 60, .inl (nR sk8))), (m10, .inl (kko, 60, .inl ko8)), (m15, .inl (kct, 6272, .inl ct8))] U.heap ∧ va_K (dC, dI) vwCl [(ktx, .byte), (kbg, .int), (kby, .int), (kmk, .boolean), (knm, .byte), (kns, .int), (kkw, .byte), (kks, .int), (kko, .int), (kct, .int)] U)) (vp_Si (fun r => r = nI (wcM ln8 sn8 c13 lk8 sk8 c12 ko8 ct8 fx8 bb by_ i tt) ∧ (wcM ln8 sn8 c13 lk8 sk8 c12 ko8 ct8 fx8 bb by_ i tt ≤ 2800))) 0 0 (fun _ => False) := by
  refine Met.ofW (cc := cX8_wordCost) (maxL := 8) (ret := (some .int)) (by decide) rfl ?_
  intro p e s m args below meth c s₁ B hml hv
  obtain ⟨rfl, hP, hK⟩ := hv
  have hx := B.exec
  have hb := B.bytes
  have hr := B.returns
  have hts := atoms_spec (ws := wsX8_wordCost) B.pre
  have hown : s.vm.findClass RX8 = some m.cls := findClass_of_methodNamed B.named
  have hlocks := B.notSynchronized
  replace hP : va_P (dC, dI) vwCl [(h0, .inr (8, [.int x0, .int x1, .ref m2, .int (nI c3), .ref m4, .ref m5, .ref m6, .ref m7, .ref m8, .ref m9, .ref m10, .ref m11, .int (nI c12), .int (nI c13), .int (nI c14), .ref m15, .ref m16, .ref m17, .ref m18, .ref m19, .int (nI c20), .int x21, .int (nI c22), .int (nI c23), .ref m24, .ref m25, .int (nI c26), .int (nI c27), .int x28, .ref m29, .ref m30, .ref m31, .ref m32, .ref m33, .ref m34, .int x35, .ref m36, .int (nI c37)])), (m24, .inl (ktx, 600, .inl fx8)), (m4, .inl (kbg, 60, .inl (nR bb))), (m5, .inl (kby, 60, .inl (nR by_))), (m6, .inl (kmk, 60, .inl (nR mk))), (m8, .inl (knm, 720, .inl (nR ln8))), (m11, .inl (kns, 30, .inl (nR sn8))), (m7, .inl (kkw, 1440, .inl (nR lk8))), (m9, .inl (kks, 60, .inl (nR sk8))), (m10, .inl (kko, 60, .inl ko8)), (m15, .inl (kct, 6272, .inl ct8))] s.heap := hP
  have hl := lv_entry ([.ref h0, .int (nI i), .int (nI tt)]) (n := 8) (Nat.le_of_ble_eq_true rfl)
  rw [lg_entry_eq]
  generalize (lg_sl ([.ref h0, .int (nI i), .int (nI tt)]) ++ List.replicate (8 - (lg_sl ([.ref h0, .int (nI i), .int (nI tt)])).length) Slot.unset).toArray = ls at hl ⊢
  replace hl : lv_has ls 8 [(0, .ref h0), (1, .int (nI i)), (2, .int (nI tt))] := hl
  have hi_X8 : ∀ w ∈ wsX80, w ∈ wsX8_wordCost := by decide +kernel
  have k_f22 := hts (.fieldLink RX8 22 "TongueTellerModel" "mark" "[Z") (by decide +kernel)
  have k_f65 := hts (.fieldLink RX8 65 "TongueTellerModel" "text" "[B") (by decide +kernel)
  have k_f15 := hts (.fieldLink RX8 15 "TongueTellerModel" "begins" "[I") (by decide +kernel)
  have k_f19 := hts (.fieldLink RX8 19 "TongueTellerModel" "bytes" "[I") (by decide +kernel)
  have k_f41 := hts (.fieldLink RX8 41 "TongueTellerModel" "count" "[I") (by decide +kernel)
  have k_f35 := hts (.fieldLink RX8 35 "TongueTellerModel" "keywordOf" "[I") (by decide +kernel)
  obtain ⟨hwa, hwb, hwc, hwe, hwm, hwl⟩ := hC.wd (i := i) (by omega)
  have hnz := hN8.1
  have hkz := hK8.1
  refine lv_aload_n hx hb dX8_wordCost_0 rfl (lv_at hl 0 rfl) ?_
  refine va_get (D := (dC, dI)) (ci := 8) (v := .ref m6) (C := RX8) (T := TX8) (N := 38) hx hb hts hi_X8 hown hK hP 0 rfl rfl 6 (by decide) k_f22 (fun _ h9 => h9) rfl dX8_wordCost_1 ?_
  refine lv_iload_n hx hb dX8_wordCost_4 rfl (lv_at hl 1 rfl) ?_
  refine va_zald hx hb hK hP 4 3 rfl rfl (i := nI i) (vp_in_nI (by omega) (by omega)) dX8_wordCost_5 ?_
  refine lv_topi (fun x_5 ex_5 => ?_)
  obtain rfl : nI (mk i) = x_5 := Eq.symm (ex_5.trans (nR_at (by omega)))
  refine lv_if_ne (tgt := 33) hx hb dX8_wordCost_6 (by decide) (fun c_6 => ?_) (fun c_6 => ?_)
  · have n_6 : (mk i) ≠ 0 := fun h9 => c_6 ((nI_eq (a := (mk i)) (b := 0) (by omega) (by omega)).mpr h9)
    refine lv_iconst (v := 0) hx hb dX8_wordCost_33 (by decide) ?_
    exact W.iret (v := 0) hx hb hr (fun t ht hW => ⟨0, rfl, ⟨congrArg nI (wc_m hC hi n_6).symm, wcM_le⟩, ht⟩) (fun _ h => absurd h List.not_mem_nil) dX8_wordCost_34
  · have n_6 : (mk i) = 0 := (nI_eq (a := (mk i)) (b := 0) (by omega) (by omega)).mp c_6
    have hmk0 : mk i = 0 := by omega
    have hms := mst_le (by_ i)
    refine lv_aload_n hx hb dX8_wordCost_9 rfl (lv_at hl 0 rfl) ?_
    refine lv_aload_n hx hb dX8_wordCost_10 rfl (lv_at hl 0 rfl) ?_
    refine va_get (D := (dC, dI)) (ci := 8) (v := .ref m24) (C := RX8) (T := TX8) (N := 38) hx hb hts hi_X8 hown hK hP 0 rfl rfl 24 (by decide) k_f65 (fun _ h9 => h9) rfl dX8_wordCost_11 ?_
    refine lv_aload_n hx hb dX8_wordCost_14 rfl (lv_at hl 0 rfl) ?_
    refine va_get (D := (dC, dI)) (ci := 8) (v := .ref m4) (C := RX8) (T := TX8) (N := 38) hx hb hts hi_X8 hown hK hP 0 rfl rfl 4 (by decide) k_f15 (fun _ h9 => h9) rfl dX8_wordCost_15 ?_
    refine lv_iload_n hx hb dX8_wordCost_18 rfl (lv_at hl 1 rfl) ?_
    refine va_iald hx hb hK hP 2 1 rfl rfl (i := nI i) (vp_in_nI (by omega) (by omega)) dX8_wordCost_19 ?_
    refine lv_topi (fun x_19 ex_19 => ?_)
    obtain rfl : nI (bb i) = x_19 := Eq.symm (ex_19.trans (nR_at (by omega)))
    refine lv_aload_n hx hb dX8_wordCost_20 rfl (lv_at hl 0 rfl) ?_
    refine va_get (D := (dC, dI)) (ci := 8) (v := .ref m5) (C := RX8) (T := TX8) (N := 38) hx hb hts hi_X8 hown hK hP 0 rfl rfl 5 (by decide) k_f19 (fun _ h9 => h9) rfl dX8_wordCost_21 ?_
    refine lv_iload_n hx hb dX8_wordCost_24 rfl (lv_at hl 1 rfl) ?_
    refine va_iald hx hb hK hP 3 2 rfl rfl (i := nI i) (vp_in_nI (by omega) (by omega)) dX8_wordCost_25 ?_
    refine lv_topi (fun x_25 ex_25 => ?_)
    obtain rfl : nI (by_ i) = x_25 := Eq.symm (ex_25.trans (nR_at (by omega)))
    have hPc := hP.sub (ws' := [(h0, .inr (8, [.int x0, .int x1, .ref m2, .int (nI c3), .ref m4, .ref m5, .ref m6, .ref m7, .ref m8, .ref m9, .ref m10, .ref m11, .int (nI c12), .int (nI c13), .int (nI c14), .ref m15, .ref m16, .ref m17, .ref m18, .ref m19, .int (nI c20), .int x21, .int (nI c22), .int (nI c23), .ref m24, .ref m25, .int (nI c26), .int (nI c27), .int x28, .ref m29, .ref m30, .ref m31, .ref m32, .ref m33, .ref m34, .int x35, .ref m36, .int (nI c37)])), (m24, .inl (ktx, 600, .inl fx8)), (m8, .inl (knm, 720, .inl (nR ln8))), (m11, .inl (kns, 30, .inl (nR sn8)))]) [0, 1, 5, 6] rfl
    have hKc := hK.sub (tys' := [(ktx, .byte), (knm, .byte), (kns, .int)]) [0, 4, 5] rfl
    refine vp_callSi (W.runV (As := [.ref m24, .int (nI (bb i)), .int (nI (by_ i))]) (rest := []) ⟨hx, hb, hml, hown, hts⟩ (g_X8_nameOf l dC dI h0 x0 x1 m2 c3 m4 m5 m6 m7 m8 m9 m10 m11 c12 c13 c14 m15 m16 m17 m18 m19 c20 x21 c22 c23 m24 m25 c26 c27 x28 m29 m30 m31 m32 m33 m34 x35 m36 c37 m24 (bb i) (by_ i) ktx knm kns fx8 ln8 sn8 (hN8) (by omega)) (cwV 3 hts gX8_wordCost_X8_nameOf rfl rfl rfl (by decide +kernel) ⟨Nat.le_of_ble_eq_true rfl, Nat.le_of_ble_eq_true rfl⟩) ⟨fun a U g mk q => by obtain ⟨q0, qP, qK⟩ := q; exact ⟨q0, qP, va_K.moved (u := U) (U := U.calling g mk a) (Vm.Alike.refl U.vm) qK⟩, va_recv hK hP (ci := 8) (q0 := 0) rfl rfl, fun U hU hW => ⟨rfl, by rw [hU]; exact hPc, va_K.moved hW.alike hKc⟩⟩ rfl rfl hl.1 rfl (lv_room (Nat.le_of_ble_eq_true rfl)) dX8_wordCost_26 ⟨Nat.le_of_ble_eq_true rfl, Nat.le_of_ble_eq_true rfl⟩) (fun r_26 hw_26 => ?_)
    clear hPc
    rcases hw_26 with ⟨hr_26, hb_26⟩ | ⟨pp_26, hr_26, hb_26⟩
    · subst hr_26
      refine lv_iconst (v := (-1)) hx hb dX8_wordCost_29 (by decide) ?_
      refine lv_icmp_eq (tgt := 35) hx hb dX8_wordCost_30 (by decide) (fun c_30 => ?_) (fun c_30 => ?_)
      rotate_left
      · exact absurd (by decide) c_30
      refine lv_aload_n hx hb dX8_wordCost_35 rfl (lv_at hl 0 rfl) ?_
      refine lv_aload_n hx hb dX8_wordCost_36 rfl (lv_at hl 0 rfl) ?_
      refine va_get (D := (dC, dI)) (ci := 8) (v := .ref m24) (C := RX8) (T := TX8) (N := 38) hx hb hts hi_X8 hown hK hP 0 rfl rfl 24 (by decide) k_f65 (fun _ h9 => h9) rfl dX8_wordCost_37 ?_
      refine lv_aload_n hx hb dX8_wordCost_40 rfl (lv_at hl 0 rfl) ?_
      refine va_get (D := (dC, dI)) (ci := 8) (v := .ref m4) (C := RX8) (T := TX8) (N := 38) hx hb hts hi_X8 hown hK hP 0 rfl rfl 4 (by decide) k_f15 (fun _ h9 => h9) rfl dX8_wordCost_41 ?_
      refine lv_iload_n hx hb dX8_wordCost_44 rfl (lv_at hl 1 rfl) ?_
      refine va_iald hx hb hK hP 2 1 rfl rfl (i := nI i) (vp_in_nI (by omega) (by omega)) dX8_wordCost_45 ?_
      refine lv_topi (fun x_45 ex_45 => ?_)
      obtain rfl : nI (bb i) = x_45 := Eq.symm (ex_45.trans (nR_at (by omega)))
      refine lv_aload_n hx hb dX8_wordCost_46 rfl (lv_at hl 0 rfl) ?_
      refine va_get (D := (dC, dI)) (ci := 8) (v := .ref m5) (C := RX8) (T := TX8) (N := 38) hx hb hts hi_X8 hown hK hP 0 rfl rfl 5 (by decide) k_f19 (fun _ h9 => h9) rfl dX8_wordCost_47 ?_
      refine lv_iload_n hx hb dX8_wordCost_50 rfl (lv_at hl 1 rfl) ?_
      refine va_iald hx hb hK hP 3 2 rfl rfl (i := nI i) (vp_in_nI (by omega) (by omega)) dX8_wordCost_51 ?_
      refine lv_topi (fun x_51 ex_51 => ?_)
      obtain rfl : nI (by_ i) = x_51 := Eq.symm (ex_51.trans (nR_at (by omega)))
      have hPc := hP.sub (ws' := [(h0, .inr (8, [.int x0, .int x1, .ref m2, .int (nI c3), .ref m4, .ref m5, .ref m6, .ref m7, .ref m8, .ref m9, .ref m10, .ref m11, .int (nI c12), .int (nI c13), .int (nI c14), .ref m15, .ref m16, .ref m17, .ref m18, .ref m19, .int (nI c20), .int x21, .int (nI c22), .int (nI c23), .ref m24, .ref m25, .int (nI c26), .int (nI c27), .int x28, .ref m29, .ref m30, .ref m31, .ref m32, .ref m33, .ref m34, .int x35, .ref m36, .int (nI c37)])), (m24, .inl (ktx, 600, .inl fx8)), (m7, .inl (kkw, 1440, .inl (nR lk8))), (m9, .inl (kks, 60, .inl (nR sk8)))]) [0, 1, 7, 8] rfl
      have hKc := hK.sub (tys' := [(ktx, .byte), (kkw, .byte), (kks, .int)]) [0, 6, 7] rfl
      refine vp_callSi (W.runV (As := [.ref m24, .int (nI (bb i)), .int (nI (by_ i))]) (rest := []) ⟨hx, hb, hml, hown, hts⟩ (g_X8_keywordAt l dC dI h0 x0 x1 m2 c3 m4 m5 m6 m7 m8 m9 m10 m11 c12 c13 c14 m15 m16 m17 m18 m19 c20 x21 c22 c23 m24 m25 c26 c27 x28 m29 m30 m31 m32 m33 m34 x35 m36 c37 m24 (bb i) (by_ i) ktx kkw kks fx8 lk8 sk8 (hK8) (by omega)) (cwV 3 hts gX8_wordCost_X8_keywordAt rfl rfl rfl (by decide +kernel) ⟨Nat.le_of_ble_eq_true rfl, Nat.le_of_ble_eq_true rfl⟩) ⟨fun a U g mk q => by obtain ⟨q0, qP, qK⟩ := q; exact ⟨q0, qP, va_K.moved (u := U) (U := U.calling g mk a) (Vm.Alike.refl U.vm) qK⟩, va_recv hK hP (ci := 8) (q0 := 0) rfl rfl, fun U hU hW => ⟨rfl, by rw [hU]; exact hPc, va_K.moved hW.alike hKc⟩⟩ rfl rfl hl.1 rfl (lv_room (Nat.le_of_ble_eq_true rfl)) dX8_wordCost_52 ⟨Nat.le_of_ble_eq_true rfl, Nat.le_of_ble_eq_true rfl⟩) (fun r_52 hw_52 => ?_)
      clear hPc
      rcases hw_52 with ⟨hr_52, hb_52⟩ | ⟨pp_52, hr_52, hb_52⟩
      · subst hr_52
        refine lv_istore_n (lv' := [(3, .int (-1)), (0, .ref h0), (1, .int (nI i)), (2, .int (nI tt))]) hx hb dX8_wordCost_55 rfl hl (by decide) rfl (fun ls hl => ?_)
        refine lv_iload_n hx hb dX8_wordCost_56 rfl (lv_at hl 0 rfl) ?_
        refine lv_iconst (v := (-1)) hx hb dX8_wordCost_57 (by decide) ?_
        refine lv_icmp_eq (tgt := 77) hx hb dX8_wordCost_58 (by decide) (fun c_58 => ?_) (fun c_58 => ?_)
        rotate_left
        · exact absurd (by decide) c_58
        refine lv_iload_n hx hb dX8_wordCost_77 rfl (lv_at hl 0 rfl) ?_
        refine lv_iconst (v := (-1)) hx hb dX8_wordCost_78 (by decide) ?_
        refine lv_icmp_eq (tgt := 88) hx hb dX8_wordCost_79 (by decide) (fun c_79 => ?_) (fun c_79 => ?_)
        rotate_left
        · exact absurd (by decide) c_79
        refine lv_iconst (v := 0) hx hb dX8_wordCost_88 (by decide) ?_
        refine lv_istore (lv' := [(4, .int 0), (3, .int (-1)), (0, .ref h0), (1, .int (nI i)), (2, .int (nI tt))]) hx hb dX8_wordCost_89 hl (by decide) rfl (fun ls hl => ?_)
        refine lv_bipush (v := 27) hx hb dX8_wordCost_91 (by decide) ?_
        refine lv_istore (lv' := [(5, .int 27), (4, .int 0), (3, .int (-1)), (0, .ref h0), (1, .int (nI i)), (2, .int (nI tt))]) hx hb dX8_wordCost_93 hl (by decide) rfl (fun ls hl => ?_)
        refine lv_iconst (v := 0) hx hb dX8_wordCost_95 (by decide) ?_
        refine lv_istore (lv' := [(6, .int 0), (5, .int 27), (4, .int 0), (3, .int (-1)), (0, .ref h0), (1, .int (nI i)), (2, .int (nI tt))]) hx hb dX8_wordCost_96 hl (by decide) rfl (fun ls hl => ?_)
        obtain ⟨kk, e_kk⟩ : ∃ y : Nat, y = 0 := ⟨_, rfl⟩
        obtain ⟨cv, e_cv⟩ : ∃ y : Nat, y = 0 := ⟨_, rfl⟩
        obtain ⟨pv, e_pv⟩ : ∃ y : Nat, y = 27 := ⟨_, rfl⟩
        replace hl : lv_has ls 8 [(0, .ref h0), (1, .int (nI i)), (2, .int (nI tt)), (4, .int (nI cv)), (5, .int (nI pv)), (6, .int (nI kk))] := by subst e_kk; subst e_cv; subst e_pv; exact lv_sub hl [4, 5, 6, 2, 1, 0] rfl
        have hk1 : kk ≤ mst (by_ i) + 1 := by subst e_kk; subst e_cv; subst e_pv; omega
        have hk2 : cv ≤ 300 + 100 * kk := by subst e_kk; subst e_cv; subst e_pv; omega
        have hk3 : pv < 28 := by subst e_kk; subst e_cv; subst e_pv; omega
        have hk4 : cv = 0 + spP ct8 tt (gm fx8) (bb i) (mst (by_ i)) kk := by subst e_kk; subst e_cv; subst e_pv; exact congrArg (0 + ·) spP_0.symm
        have hk5 : kk ≤ mst (by_ i) → pv = fmr (gm fx8) (bb i) kk := by subst e_kk; subst e_cv; subst e_pv; exact fun _ => rfl
        clear e_kk e_cv e_pv
        obtain ⟨nn98, hnn98⟩ : ∃ q : Nat, mst (by_ i) + 1 - kk < q := ⟨_, Nat.lt_succ_self _⟩
        induction nn98 generalizing kk cv pv ls with
        | zero => exact absurd hnn98 (Nat.not_lt_zero _)
        | succ nn98 ih98 =>
          refine lv_iload hx hb dX8_wordCost_98 (lv_at hl 5 rfl) ?_
          refine lv_aload_n hx hb dX8_wordCost_100 rfl (lv_at hl 0 rfl) ?_
          refine va_get (D := (dC, dI)) (ci := 8) (v := .ref m5) (C := RX8) (T := TX8) (N := 38) hx hb hts hi_X8 hown hK hP 0 rfl rfl 5 (by decide) k_f19 (fun _ h9 => h9) rfl dX8_wordCost_101 ?_
          refine lv_iload_n hx hb dX8_wordCost_104 rfl (lv_at hl 1 rfl) ?_
          refine va_iald hx hb hK hP 3 2 rfl rfl (i := nI i) (vp_in_nI (by omega) (by omega)) dX8_wordCost_105 ?_
          refine lv_topi (fun x_105 ex_105 => ?_)
          obtain rfl : nI (by_ i) = x_105 := Eq.symm (ex_105.trans (nR_at (by omega)))
          refine vp_callSi (W.runS (As := [.int (nI (by_ i))]) (rest := [.int (nI kk)]) ⟨hx, hb, hml, hown, hts⟩ (g_X8_most l dC dI (by_ i) (by first | assumption | omega)) (va_cwS 1 hts gX8_wordCost_X8_most rfl rfl rfl (by decide +kernel) ⟨Nat.le_of_ble_eq_true rfl, Nat.le_of_ble_eq_true rfl⟩) ⟨fun a U g mk q => q, fun U hU hW => ⟨rfl, trivial⟩⟩ rfl rfl hl.1 rfl (lv_room (Nat.le_of_ble_eq_true rfl)) dX8_wordCost_106 ⟨Nat.le_of_ble_eq_true rfl, Nat.le_of_ble_eq_true rfl⟩) (fun r_106 hw_106 => ?_)
          have hr_106 := hw_106
          obtain rfl : nI (mst (by_ i)) = r_106 := Eq.symm hr_106
          refine lv_icmp_gt (tgt := 190) hx hb dX8_wordCost_109 (by decide) (fun c_109 => ?_) (fun c_109 => ?_)
          · have n_109 : (mst (by_ i)) < kk := (nI_ltI (a := (mst (by_ i))) (b := kk) (by omega) (by omega)).mp c_109
            refine lv_iload hx hb dX8_wordCost_190 (lv_at hl 3 rfl) ?_
            exact W.iret (v := nI cv) hx hb hr (fun t ht hW => ⟨nI cv, rfl, ⟨congrArg nI ((hk4.trans (congrArg (0 + ·) (spP_e n_109))).trans (wc_o hC hi hmk0 hb_26 hb_52).symm), wcM_le⟩, ht⟩) (fun _ h => absurd h List.not_mem_nil) dX8_wordCost_192
          · have n_109 : kk ≤ (mst (by_ i)) := Nat.not_lt.mp (fun h9 => c_109 ((nI_ltI (a := (mst (by_ i))) (b := kk) (by omega) (by omega)).mpr h9))
            refine lv_iload hx hb dX8_wordCost_112 (lv_at hl 5 rfl) ?_
            refine lv_aload_n hx hb dX8_wordCost_114 rfl (lv_at hl 0 rfl) ?_
            refine va_get (D := (dC, dI)) (ci := 8) (v := .ref m5) (C := RX8) (T := TX8) (N := 38) hx hb hts hi_X8 hown hK hP 0 rfl rfl 5 (by decide) k_f19 (fun _ h9 => h9) rfl dX8_wordCost_115 ?_
            refine lv_iload_n hx hb dX8_wordCost_118 rfl (lv_at hl 1 rfl) ?_
            refine va_iald hx hb hK hP 3 2 rfl rfl (i := nI i) (vp_in_nI (by omega) (by omega)) dX8_wordCost_119 ?_
            refine lv_topi (fun x_119 ex_119 => ?_)
            obtain rfl : nI (by_ i) = x_119 := Eq.symm (ex_119.trans (nR_at (by omega)))
            refine vp_callSi (W.runS (As := [.int (nI (by_ i))]) (rest := [.int (nI kk)]) ⟨hx, hb, hml, hown, hts⟩ (g_X8_most l dC dI (by_ i) (by first | assumption | omega)) (va_cwS 1 hts gX8_wordCost_X8_most rfl rfl rfl (by decide +kernel) ⟨Nat.le_of_ble_eq_true rfl, Nat.le_of_ble_eq_true rfl⟩) ⟨fun a U g mk q => q, fun U hU hW => ⟨rfl, trivial⟩⟩ rfl rfl hl.1 rfl (lv_room (Nat.le_of_ble_eq_true rfl)) dX8_wordCost_120 ⟨Nat.le_of_ble_eq_true rfl, Nat.le_of_ble_eq_true rfl⟩) (fun r_120 hw_120 => ?_)
            have hr_120 := hw_120
            obtain rfl : nI (mst (by_ i)) = r_120 := Eq.symm hr_120
            refine lv_icmp_ne (tgt := 131) hx hb dX8_wordCost_123 (by decide) (fun c_123 => ?_) (fun c_123 => ?_)
            · have n_123 : kk ≠ (mst (by_ i)) := fun h9 => c_123 ((nI_eq (a := kk) (b := (mst (by_ i))) (by omega) (by omega)).mpr h9)
              refine lv_aload_n hx hb dX8_wordCost_131 rfl (lv_at hl 0 rfl) ?_
              refine va_get (D := (dC, dI)) (ci := 8) (v := .ref m24) (C := RX8) (T := TX8) (N := 38) hx hb hts hi_X8 hown hK hP 0 rfl rfl 24 (by decide) k_f65 (fun _ h9 => h9) rfl dX8_wordCost_132 ?_
              refine lv_aload_n hx hb dX8_wordCost_135 rfl (lv_at hl 0 rfl) ?_
              refine va_get (D := (dC, dI)) (ci := 8) (v := .ref m4) (C := RX8) (T := TX8) (N := 38) hx hb hts hi_X8 hown hK hP 0 rfl rfl 4 (by decide) k_f15 (fun _ h9 => h9) rfl dX8_wordCost_136 ?_
              refine lv_iload_n hx hb dX8_wordCost_139 rfl (lv_at hl 1 rfl) ?_
              refine va_iald hx hb hK hP 2 1 rfl rfl (i := nI i) (vp_in_nI (by omega) (by omega)) dX8_wordCost_140 ?_
              refine lv_topi (fun x_140 ex_140 => ?_)
              obtain rfl : nI (bb i) = x_140 := Eq.symm (ex_140.trans (nR_at (by omega)))
              refine lv_iload hx hb dX8_wordCost_141 (lv_at hl 5 rfl) ?_
              refine lv_iadd hx hb dX8_wordCost_143 ?_
              refine lv_topi (fun x_143 ex_143 => ?_)
              obtain rfl : nI (bb i + kk) = x_143 := Eq.symm (ex_143.trans (nI_add (bb i) kk))
              refine va_bald hx hb hK hP 1 0 rfl rfl (i := nI (bb i + kk)) (vp_in_nI (by omega) (by omega)) dX8_wordCost_144 ?_
              refine lv_topi (fun x_144 ex_144 => ?_)
              obtain rfl : fx8 (bb i + kk) = x_144 := Eq.symm (ex_144.trans (fR_at (by omega)))
              refine lv_sipush (v := 255) hx hb dX8_wordCost_145 (by decide) ?_
              refine lv_iand hx hb dX8_wordCost_148 ?_
              refine lv_topi (fun x_148 ex_148 => ?_)
              obtain rfl : nI ((fx8 (bb i + kk)).toBitVec.toNat % 256) = x_148 := Eq.symm (ex_148.trans (pk_and _ 8 (by decide)))
              refine vp_callSi (W.runS (As := [.int (nI ((fx8 (bb i + kk)).toBitVec.toNat % 256))]) (rest := []) ⟨hx, hb, hml, hown, hts⟩ (g_X8_signOf l dC dI ((fx8 (bb i + kk)).toBitVec.toNat % 256) (Nat.mod_lt _ (by decide))) (va_cwS 1 hts gX8_wordCost_X8_signOf rfl rfl rfl (by decide +kernel) ⟨Nat.le_of_ble_eq_true rfl, Nat.le_of_ble_eq_true rfl⟩) ⟨fun a U g mk q => q, fun U hU hW => ⟨rfl, trivial⟩⟩ rfl rfl hl.1 rfl (lv_room (Nat.le_of_ble_eq_true rfl)) dX8_wordCost_149 ⟨Nat.le_of_ble_eq_true rfl, Nat.le_of_ble_eq_true rfl⟩) (fun r_149 hw_149 => ?_)
              rcases hw_149 with ⟨hr_149, hb_149⟩ | ⟨pp_149, hr_149, hb_149⟩
              · subst hr_149
                exact absurd (hwl hmk0 kk (by omega)) (Nat.not_le.mpr hb_149)
              · subst hr_149
                have hp26 := hb_149.2
                have h149 : pp_149 = gm fx8 (bb i + kk) := hb_149.1
                refine lv_istore (lv' := [(7, .int (nI pp_149)), (0, .ref h0), (1, .int (nI i)), (2, .int (nI tt)), (4, .int (nI cv)), (5, .int (nI pv)), (6, .int (nI kk))]) hx hb dX8_wordCost_152 hl (by decide) rfl (fun ls hl => ?_)
                refine lv_iload hx hb dX8_wordCost_154 (lv_at hl 4 rfl) ?_
                refine lv_aload_n hx hb dX8_wordCost_156 rfl (lv_at hl 1 rfl) ?_
                refine va_get (D := (dC, dI)) (ci := 8) (v := .ref m15) (C := RX8) (T := TX8) (N := 38) hx hb hts hi_X8 hown hK hP 0 rfl rfl 15 (by decide) k_f41 (fun _ h9 => h9) rfl dX8_wordCost_157 ?_
                refine lv_bipush (v := 28) hx hb dX8_wordCost_160 (by decide) ?_
                refine lv_bipush (v := 28) hx hb dX8_wordCost_162 (by decide) ?_
                refine lv_iload_n hx hb dX8_wordCost_164 rfl (lv_at hl 3 rfl) ?_
                refine lv_imul hx hb dX8_wordCost_165 ?_
                refine lv_topi (fun x_165 ex_165 => ?_)
                obtain rfl : nI (28 * tt) = x_165 := Eq.symm (ex_165.trans (pk_mul 28 tt))
                refine lv_iload hx hb dX8_wordCost_166 (lv_at hl 5 rfl) ?_
                refine lv_iadd hx hb dX8_wordCost_168 ?_
                refine lv_topi (fun x_168 ex_168 => ?_)
                obtain rfl : nI (28 * tt + pv) = x_168 := Eq.symm (ex_168.trans (nI_add (28 * tt) pv))
                refine lv_imul hx hb dX8_wordCost_169 ?_
                refine lv_topi (fun x_169 ex_169 => ?_)
                obtain rfl : nI (28 * (28 * tt + pv)) = x_169 := Eq.symm (ex_169.trans (pk_mul 28 (28 * tt + pv)))
                refine lv_iload hx hb dX8_wordCost_170 (lv_at hl 0 rfl) ?_
                refine lv_iadd hx hb dX8_wordCost_172 ?_
                refine lv_topi (fun x_172 ex_172 => ?_)
                obtain rfl : nI (28 * (28 * tt + pv) + pp_149) = x_172 := Eq.symm (ex_172.trans (nI_add (28 * (28 * tt + pv)) pp_149))
                refine va_iald hx hb hK hP 10 9 rfl rfl (i := nI (28 * (28 * tt + pv) + pp_149)) (vp_in_nI (by omega) (by omega)) dX8_wordCost_173 ?_
                refine lv_topi (fun x_173 ex_173 => ?_)
                obtain rfl : ct8 (28 * (28 * tt + pv) + pp_149) = x_173 := Eq.symm (ex_173.trans (fR_at (by omega)))
                refine vp_callSi (W.runS (As := [.int (ct8 (28 * (28 * tt + pv) + pp_149))]) (rest := [.int (nI cv)]) ⟨hx, hb, hml, hown, hts⟩ (g_X8_costOf l dC dI (ct8 (28 * (28 * tt + pv) + pp_149))) (va_cwS 1 hts gX8_wordCost_X8_costOf rfl rfl rfl (by decide +kernel) ⟨Nat.le_of_ble_eq_true rfl, Nat.le_of_ble_eq_true rfl⟩) ⟨fun a U g mk q => q, fun U hU hW => ⟨rfl, trivial⟩⟩ rfl rfl hl.1 rfl (lv_room (Nat.le_of_ble_eq_true rfl)) dX8_wordCost_174 ⟨Nat.le_of_ble_eq_true rfl, Nat.le_of_ble_eq_true rfl⟩) (fun r_174 hw_174 => ?_)
                have hr_174 := hw_174
                obtain rfl : nI (cost1 (ct8 (28 * (28 * tt + pv) + pp_149))) = r_174 := Eq.symm hr_174
                have hc1 := cost1_le (ct8 (28 * (28 * tt + pv) + pp_149))
                refine lv_iadd hx hb dX8_wordCost_177 ?_
                refine lv_topi (fun x_177 ex_177 => ?_)
                obtain rfl : nI (cv + (cost1 (ct8 (28 * (28 * tt + pv) + pp_149)))) = x_177 := Eq.symm (ex_177.trans (nI_add cv (cost1 (ct8 (28 * (28 * tt + pv) + pp_149)))))
                refine lv_istore (lv' := [(4, .int (nI (cv + (cost1 (ct8 (28 * (28 * tt + pv) + pp_149)))))), (7, .int (nI pp_149)), (0, .ref h0), (1, .int (nI i)), (2, .int (nI tt)), (5, .int (nI pv)), (6, .int (nI kk))]) hx hb dX8_wordCost_178 hl (by decide) rfl (fun ls hl => ?_)
                refine lv_iload hx hb dX8_wordCost_180 (lv_at hl 1 rfl) ?_
                refine lv_istore (lv' := [(5, .int (nI pp_149)), (4, .int (nI (cv + (cost1 (ct8 (28 * (28 * tt + pv) + pp_149)))))), (7, .int (nI pp_149)), (0, .ref h0), (1, .int (nI i)), (2, .int (nI tt)), (6, .int (nI kk))]) hx hb dX8_wordCost_182 hl (by decide) rfl (fun ls hl => ?_)
                refine lv_iinc (v := nI (kk + 1)) (lv' := [(6, .int (nI (kk + 1))), (5, .int (nI pp_149)), (4, .int (nI (cv + (cost1 (ct8 (28 * (28 * tt + pv) + pp_149)))))), (7, .int (nI pp_149)), (0, .ref h0), (1, .int (nI i)), (2, .int (nI tt))]) hx hb dX8_wordCost_184 hl (k := 6) rfl (nI_1 _) (by decide) rfl (fun ls hl => ?_)
                refine lv_goto (tgt := 98) hx hb dX8_wordCost_187 (by decide) ?_
                replace hl : lv_has ls 8 [(0, .ref h0), (1, .int (nI i)), (2, .int (nI tt)), (4, .int (nI (cv + (cost1 (ct8 (28 * (28 * tt + pv) + pp_149)))))), (5, .int (nI pp_149)), (6, .int (nI (kk + 1)))] := lv_sub hl [4, 5, 6, 2, 1, 0] rfl
                have hk49 : (cv + (cost1 (ct8 (28 * (28 * tt + pv) + pp_149)))) = 0 + spP ct8 tt (gm fx8) (bb i) (mst (by_ i)) (kk + 1) := (by rw [spP_1 (by omega), hk4, hk5 (by omega), h149, ix_c]; omega)
                have hk59 : (kk + 1) ≤ mst (by_ i) → pp_149 = fmr (gm fx8) (bb i) (kk + 1) := (fun _ => by rw [fmr_s]; exact h149)
                apply ih98 (kk := kk + 1) (cv := cv + (cost1 (ct8 (28 * (28 * tt + pv) + pp_149)))) (pv := pp_149) <;> first | assumption | omega
            · have n_123 : kk = (mst (by_ i)) := (nI_eq (a := kk) (b := (mst (by_ i))) (by omega) (by omega)).mp c_123
              refine lv_bipush (v := 27) hx hb dX8_wordCost_126 (by decide) ?_
              refine lv_goto (tgt := 152) hx hb dX8_wordCost_128 (by decide) ?_
              refine lv_istore (lv' := [(7, .int 27), (0, .ref h0), (1, .int (nI i)), (2, .int (nI tt)), (4, .int (nI cv)), (5, .int (nI pv)), (6, .int (nI kk))]) hx hb dX8_wordCost_152 hl (by decide) rfl (fun ls hl => ?_)
              refine lv_iload hx hb dX8_wordCost_154 (lv_at hl 4 rfl) ?_
              refine lv_aload_n hx hb dX8_wordCost_156 rfl (lv_at hl 1 rfl) ?_
              refine va_get (D := (dC, dI)) (ci := 8) (v := .ref m15) (C := RX8) (T := TX8) (N := 38) hx hb hts hi_X8 hown hK hP 0 rfl rfl 15 (by decide) k_f41 (fun _ h9 => h9) rfl dX8_wordCost_157 ?_
              refine lv_bipush (v := 28) hx hb dX8_wordCost_160 (by decide) ?_
              refine lv_bipush (v := 28) hx hb dX8_wordCost_162 (by decide) ?_
              refine lv_iload_n hx hb dX8_wordCost_164 rfl (lv_at hl 3 rfl) ?_
              refine lv_imul hx hb dX8_wordCost_165 ?_
              refine lv_topi (fun x_165 ex_165 => ?_)
              obtain rfl : nI (28 * tt) = x_165 := Eq.symm (ex_165.trans (pk_mul 28 tt))
              refine lv_iload hx hb dX8_wordCost_166 (lv_at hl 5 rfl) ?_
              refine lv_iadd hx hb dX8_wordCost_168 ?_
              refine lv_topi (fun x_168 ex_168 => ?_)
              obtain rfl : nI (28 * tt + pv) = x_168 := Eq.symm (ex_168.trans (nI_add (28 * tt) pv))
              refine lv_imul hx hb dX8_wordCost_169 ?_
              refine lv_topi (fun x_169 ex_169 => ?_)
              obtain rfl : nI (28 * (28 * tt + pv)) = x_169 := Eq.symm (ex_169.trans (pk_mul 28 (28 * tt + pv)))
              refine lv_iload hx hb dX8_wordCost_170 (lv_at hl 0 rfl) ?_
              refine lv_iadd hx hb dX8_wordCost_172 ?_
              refine lv_topi (fun x_172 ex_172 => ?_)
              obtain rfl : nI (28 * (28 * tt + pv) + 27) = x_172 := Eq.symm (ex_172.trans (nI_add (28 * (28 * tt + pv)) 27))
              refine va_iald hx hb hK hP 10 9 rfl rfl (i := nI (28 * (28 * tt + pv) + 27)) (vp_in_nI (by omega) (by omega)) dX8_wordCost_173 ?_
              refine lv_topi (fun x_173 ex_173 => ?_)
              obtain rfl : ct8 (28 * (28 * tt + pv) + 27) = x_173 := Eq.symm (ex_173.trans (fR_at (by omega)))
              refine vp_callSi (W.runS (As := [.int (ct8 (28 * (28 * tt + pv) + 27))]) (rest := [.int (nI cv)]) ⟨hx, hb, hml, hown, hts⟩ (g_X8_costOf l dC dI (ct8 (28 * (28 * tt + pv) + 27))) (va_cwS 1 hts gX8_wordCost_X8_costOf rfl rfl rfl (by decide +kernel) ⟨Nat.le_of_ble_eq_true rfl, Nat.le_of_ble_eq_true rfl⟩) ⟨fun a U g mk q => q, fun U hU hW => ⟨rfl, trivial⟩⟩ rfl rfl hl.1 rfl (lv_room (Nat.le_of_ble_eq_true rfl)) dX8_wordCost_174 ⟨Nat.le_of_ble_eq_true rfl, Nat.le_of_ble_eq_true rfl⟩) (fun r_174 hw_174 => ?_)
              have hr_174 := hw_174
              obtain rfl : nI (cost1 (ct8 (28 * (28 * tt + pv) + 27))) = r_174 := Eq.symm hr_174
              have hc1 := cost1_le (ct8 (28 * (28 * tt + pv) + 27))
              refine lv_iadd hx hb dX8_wordCost_177 ?_
              refine lv_topi (fun x_177 ex_177 => ?_)
              obtain rfl : nI (cv + (cost1 (ct8 (28 * (28 * tt + pv) + 27)))) = x_177 := Eq.symm (ex_177.trans (nI_add cv (cost1 (ct8 (28 * (28 * tt + pv) + 27)))))
              refine lv_istore (lv' := [(4, .int (nI (cv + (cost1 (ct8 (28 * (28 * tt + pv) + 27)))))), (7, .int 27), (0, .ref h0), (1, .int (nI i)), (2, .int (nI tt)), (5, .int (nI pv)), (6, .int (nI kk))]) hx hb dX8_wordCost_178 hl (by decide) rfl (fun ls hl => ?_)
              refine lv_iload hx hb dX8_wordCost_180 (lv_at hl 1 rfl) ?_
              refine lv_istore (lv' := [(5, .int 27), (4, .int (nI (cv + (cost1 (ct8 (28 * (28 * tt + pv) + 27)))))), (7, .int 27), (0, .ref h0), (1, .int (nI i)), (2, .int (nI tt)), (6, .int (nI kk))]) hx hb dX8_wordCost_182 hl (by decide) rfl (fun ls hl => ?_)
              refine lv_iinc (v := nI (kk + 1)) (lv' := [(6, .int (nI (kk + 1))), (5, .int 27), (4, .int (nI (cv + (cost1 (ct8 (28 * (28 * tt + pv) + 27)))))), (7, .int 27), (0, .ref h0), (1, .int (nI i)), (2, .int (nI tt))]) hx hb dX8_wordCost_184 hl (k := 6) rfl (nI_1 _) (by decide) rfl (fun ls hl => ?_)
              refine lv_goto (tgt := 98) hx hb dX8_wordCost_187 (by decide) ?_
              replace hl : lv_has ls 8 [(0, .ref h0), (1, .int (nI i)), (2, .int (nI tt)), (4, .int (nI (cv + (cost1 (ct8 (28 * (28 * tt + pv) + 27)))))), (5, .int 27), (6, .int (nI (kk + 1)))] := lv_sub hl [4, 5, 6, 2, 1, 0] rfl
              have hk49 : (cv + (cost1 (ct8 (28 * (28 * tt + pv) + 27)))) = 0 + spP ct8 tt (gm fx8) (bb i) (mst (by_ i)) (kk + 1) := (by rw [spP_2 n_123, hk4, hk5 (by omega), ix_c]; omega)
              have hk59 : (kk + 1) ≤ mst (by_ i) → 27 = fmr (gm fx8) (bb i) (kk + 1) := (fun h9 => absurd h9 (by omega))
              apply ih98 (kk := kk + 1) (cv := cv + (cost1 (ct8 (28 * (28 * tt + pv) + 27)))) (pv := 27) <;> first | assumption | omega
      · subst hr_52
        refine lv_istore_n (lv' := [(3, .int (nI pp_52)), (0, .ref h0), (1, .int (nI i)), (2, .int (nI tt))]) hx hb dX8_wordCost_55 rfl hl (by decide) rfl (fun ls hl => ?_)
        refine lv_iload_n hx hb dX8_wordCost_56 rfl (lv_at hl 0 rfl) ?_
        refine lv_iconst (v := (-1)) hx hb dX8_wordCost_57 (by decide) ?_
        refine lv_icmp_eq (tgt := 77) hx hb dX8_wordCost_58 (by decide) (fun c_58 => ?_) (fun c_58 => ?_)
        · exact absurd c_58 (nI_nm1 (by omega))
        refine lv_aload_n hx hb dX8_wordCost_61 rfl (lv_at hl 1 rfl) ?_
        refine va_get (D := (dC, dI)) (ci := 8) (v := .ref m10) (C := RX8) (T := TX8) (N := 38) hx hb hts hi_X8 hown hK hP 0 rfl rfl 10 (by decide) k_f35 (fun _ h9 => h9) rfl dX8_wordCost_62 ?_
        refine lv_iload_n hx hb dX8_wordCost_65 rfl (lv_at hl 0 rfl) ?_
        refine va_iald hx hb hK hP 9 8 rfl rfl (i := nI pp_52) (vp_in_nI (by omega) (by omega)) dX8_wordCost_66 ?_
        refine lv_topi (fun x_66 ex_66 => ?_)
        obtain rfl : ko8 pp_52 = x_66 := Eq.symm (ex_66.trans (fR_at (by omega)))
        refine lv_iload_n hx hb dX8_wordCost_67 rfl (lv_at hl 3 rfl) ?_
        refine lv_ishr hx hb dX8_wordCost_68 ?_
        refine lv_iconst (v := 1) hx hb dX8_wordCost_69 (by decide) ?_
        refine lv_iand hx hb dX8_wordCost_70 ?_
        refine lv_iconst (v := 1) hx hb dX8_wordCost_71 (by decide) ?_
        refine lv_icmp_ne (tgt := 77) hx hb dX8_wordCost_72 (by decide) (fun c_72 => ?_) (fun c_72 => ?_)
        · refine lv_iload_n hx hb dX8_wordCost_77 rfl (lv_at hl 0 rfl) ?_
          refine lv_iconst (v := (-1)) hx hb dX8_wordCost_78 (by decide) ?_
          refine lv_icmp_eq (tgt := 88) hx hb dX8_wordCost_79 (by decide) (fun c_79 => ?_) (fun c_79 => ?_)
          · exact absurd c_79 (nI_nm1 (by omega))
          refine lv_sipush (v := 300) hx hb dX8_wordCost_82 (by decide) ?_
          refine lv_goto (tgt := 89) hx hb dX8_wordCost_85 (by decide) ?_
          refine lv_istore (lv' := [(4, .int 300), (3, .int (nI pp_52)), (0, .ref h0), (1, .int (nI i)), (2, .int (nI tt))]) hx hb dX8_wordCost_89 hl (by decide) rfl (fun ls hl => ?_)
          refine lv_bipush (v := 27) hx hb dX8_wordCost_91 (by decide) ?_
          refine lv_istore (lv' := [(5, .int 27), (4, .int 300), (3, .int (nI pp_52)), (0, .ref h0), (1, .int (nI i)), (2, .int (nI tt))]) hx hb dX8_wordCost_93 hl (by decide) rfl (fun ls hl => ?_)
          refine lv_iconst (v := 0) hx hb dX8_wordCost_95 (by decide) ?_
          refine lv_istore (lv' := [(6, .int 0), (5, .int 27), (4, .int 300), (3, .int (nI pp_52)), (0, .ref h0), (1, .int (nI i)), (2, .int (nI tt))]) hx hb dX8_wordCost_96 hl (by decide) rfl (fun ls hl => ?_)
          obtain ⟨kk, e_kk⟩ : ∃ y : Nat, y = 0 := ⟨_, rfl⟩
          obtain ⟨cv, e_cv⟩ : ∃ y : Nat, y = 300 := ⟨_, rfl⟩
          obtain ⟨pv, e_pv⟩ : ∃ y : Nat, y = 27 := ⟨_, rfl⟩
          replace hl : lv_has ls 8 [(0, .ref h0), (1, .int (nI i)), (2, .int (nI tt)), (4, .int (nI cv)), (5, .int (nI pv)), (6, .int (nI kk))] := by subst e_kk; subst e_cv; subst e_pv; exact lv_sub hl [4, 5, 6, 2, 1, 0] rfl
          have hk1 : kk ≤ mst (by_ i) + 1 := by subst e_kk; subst e_cv; subst e_pv; omega
          have hk2 : cv ≤ 300 + 100 * kk := by subst e_kk; subst e_cv; subst e_pv; omega
          have hk3 : pv < 28 := by subst e_kk; subst e_cv; subst e_pv; omega
          have hk4 : cv = 300 + spP ct8 tt (gm fx8) (bb i) (mst (by_ i)) kk := by subst e_kk; subst e_cv; subst e_pv; exact congrArg (300 + ·) spP_0.symm
          have hk5 : kk ≤ mst (by_ i) → pv = fmr (gm fx8) (bb i) kk := by subst e_kk; subst e_cv; subst e_pv; exact fun _ => rfl
          clear e_kk e_cv e_pv
          obtain ⟨nn98, hnn98⟩ : ∃ q : Nat, mst (by_ i) + 1 - kk < q := ⟨_, Nat.lt_succ_self _⟩
          induction nn98 generalizing kk cv pv ls with
          | zero => exact absurd hnn98 (Nat.not_lt_zero _)
          | succ nn98 ih98 =>
            refine lv_iload hx hb dX8_wordCost_98 (lv_at hl 5 rfl) ?_
            refine lv_aload_n hx hb dX8_wordCost_100 rfl (lv_at hl 0 rfl) ?_
            refine va_get (D := (dC, dI)) (ci := 8) (v := .ref m5) (C := RX8) (T := TX8) (N := 38) hx hb hts hi_X8 hown hK hP 0 rfl rfl 5 (by decide) k_f19 (fun _ h9 => h9) rfl dX8_wordCost_101 ?_
            refine lv_iload_n hx hb dX8_wordCost_104 rfl (lv_at hl 1 rfl) ?_
            refine va_iald hx hb hK hP 3 2 rfl rfl (i := nI i) (vp_in_nI (by omega) (by omega)) dX8_wordCost_105 ?_
            refine lv_topi (fun x_105 ex_105 => ?_)
            obtain rfl : nI (by_ i) = x_105 := Eq.symm (ex_105.trans (nR_at (by omega)))
            refine vp_callSi (W.runS (As := [.int (nI (by_ i))]) (rest := [.int (nI kk)]) ⟨hx, hb, hml, hown, hts⟩ (g_X8_most l dC dI (by_ i) (by first | assumption | omega)) (va_cwS 1 hts gX8_wordCost_X8_most rfl rfl rfl (by decide +kernel) ⟨Nat.le_of_ble_eq_true rfl, Nat.le_of_ble_eq_true rfl⟩) ⟨fun a U g mk q => q, fun U hU hW => ⟨rfl, trivial⟩⟩ rfl rfl hl.1 rfl (lv_room (Nat.le_of_ble_eq_true rfl)) dX8_wordCost_106 ⟨Nat.le_of_ble_eq_true rfl, Nat.le_of_ble_eq_true rfl⟩) (fun r_106 hw_106 => ?_)
            have hr_106 := hw_106
            obtain rfl : nI (mst (by_ i)) = r_106 := Eq.symm hr_106
            refine lv_icmp_gt (tgt := 190) hx hb dX8_wordCost_109 (by decide) (fun c_109 => ?_) (fun c_109 => ?_)
            · have n_109 : (mst (by_ i)) < kk := (nI_ltI (a := (mst (by_ i))) (b := kk) (by omega) (by omega)).mp c_109
              refine lv_iload hx hb dX8_wordCost_190 (lv_at hl 3 rfl) ?_
              exact W.iret (v := nI cv) hx hb hr (fun t ht hW => ⟨nI cv, rfl, ⟨congrArg nI ((hk4.trans (congrArg (300 + ·) (spP_e n_109))).trans ((wc_k hC hi hmk0 hb_26 hb_52.1 hb_52.2.1 hb_52.2.2).trans (if_neg c_72)).symm), wcM_le⟩, ht⟩) (fun _ h => absurd h List.not_mem_nil) dX8_wordCost_192
            · have n_109 : kk ≤ (mst (by_ i)) := Nat.not_lt.mp (fun h9 => c_109 ((nI_ltI (a := (mst (by_ i))) (b := kk) (by omega) (by omega)).mpr h9))
              refine lv_iload hx hb dX8_wordCost_112 (lv_at hl 5 rfl) ?_
              refine lv_aload_n hx hb dX8_wordCost_114 rfl (lv_at hl 0 rfl) ?_
              refine va_get (D := (dC, dI)) (ci := 8) (v := .ref m5) (C := RX8) (T := TX8) (N := 38) hx hb hts hi_X8 hown hK hP 0 rfl rfl 5 (by decide) k_f19 (fun _ h9 => h9) rfl dX8_wordCost_115 ?_
              refine lv_iload_n hx hb dX8_wordCost_118 rfl (lv_at hl 1 rfl) ?_
              refine va_iald hx hb hK hP 3 2 rfl rfl (i := nI i) (vp_in_nI (by omega) (by omega)) dX8_wordCost_119 ?_
              refine lv_topi (fun x_119 ex_119 => ?_)
              obtain rfl : nI (by_ i) = x_119 := Eq.symm (ex_119.trans (nR_at (by omega)))
              refine vp_callSi (W.runS (As := [.int (nI (by_ i))]) (rest := [.int (nI kk)]) ⟨hx, hb, hml, hown, hts⟩ (g_X8_most l dC dI (by_ i) (by first | assumption | omega)) (va_cwS 1 hts gX8_wordCost_X8_most rfl rfl rfl (by decide +kernel) ⟨Nat.le_of_ble_eq_true rfl, Nat.le_of_ble_eq_true rfl⟩) ⟨fun a U g mk q => q, fun U hU hW => ⟨rfl, trivial⟩⟩ rfl rfl hl.1 rfl (lv_room (Nat.le_of_ble_eq_true rfl)) dX8_wordCost_120 ⟨Nat.le_of_ble_eq_true rfl, Nat.le_of_ble_eq_true rfl⟩) (fun r_120 hw_120 => ?_)
              have hr_120 := hw_120
              obtain rfl : nI (mst (by_ i)) = r_120 := Eq.symm hr_120
              refine lv_icmp_ne (tgt := 131) hx hb dX8_wordCost_123 (by decide) (fun c_123 => ?_) (fun c_123 => ?_)
              · have n_123 : kk ≠ (mst (by_ i)) := fun h9 => c_123 ((nI_eq (a := kk) (b := (mst (by_ i))) (by omega) (by omega)).mpr h9)
                refine lv_aload_n hx hb dX8_wordCost_131 rfl (lv_at hl 0 rfl) ?_
                refine va_get (D := (dC, dI)) (ci := 8) (v := .ref m24) (C := RX8) (T := TX8) (N := 38) hx hb hts hi_X8 hown hK hP 0 rfl rfl 24 (by decide) k_f65 (fun _ h9 => h9) rfl dX8_wordCost_132 ?_
                refine lv_aload_n hx hb dX8_wordCost_135 rfl (lv_at hl 0 rfl) ?_
                refine va_get (D := (dC, dI)) (ci := 8) (v := .ref m4) (C := RX8) (T := TX8) (N := 38) hx hb hts hi_X8 hown hK hP 0 rfl rfl 4 (by decide) k_f15 (fun _ h9 => h9) rfl dX8_wordCost_136 ?_
                refine lv_iload_n hx hb dX8_wordCost_139 rfl (lv_at hl 1 rfl) ?_
                refine va_iald hx hb hK hP 2 1 rfl rfl (i := nI i) (vp_in_nI (by omega) (by omega)) dX8_wordCost_140 ?_
                refine lv_topi (fun x_140 ex_140 => ?_)
                obtain rfl : nI (bb i) = x_140 := Eq.symm (ex_140.trans (nR_at (by omega)))
                refine lv_iload hx hb dX8_wordCost_141 (lv_at hl 5 rfl) ?_
                refine lv_iadd hx hb dX8_wordCost_143 ?_
                refine lv_topi (fun x_143 ex_143 => ?_)
                obtain rfl : nI (bb i + kk) = x_143 := Eq.symm (ex_143.trans (nI_add (bb i) kk))
                refine va_bald hx hb hK hP 1 0 rfl rfl (i := nI (bb i + kk)) (vp_in_nI (by omega) (by omega)) dX8_wordCost_144 ?_
                refine lv_topi (fun x_144 ex_144 => ?_)
                obtain rfl : fx8 (bb i + kk) = x_144 := Eq.symm (ex_144.trans (fR_at (by omega)))
                refine lv_sipush (v := 255) hx hb dX8_wordCost_145 (by decide) ?_
                refine lv_iand hx hb dX8_wordCost_148 ?_
                refine lv_topi (fun x_148 ex_148 => ?_)
                obtain rfl : nI ((fx8 (bb i + kk)).toBitVec.toNat % 256) = x_148 := Eq.symm (ex_148.trans (pk_and _ 8 (by decide)))
                refine vp_callSi (W.runS (As := [.int (nI ((fx8 (bb i + kk)).toBitVec.toNat % 256))]) (rest := []) ⟨hx, hb, hml, hown, hts⟩ (g_X8_signOf l dC dI ((fx8 (bb i + kk)).toBitVec.toNat % 256) (Nat.mod_lt _ (by decide))) (va_cwS 1 hts gX8_wordCost_X8_signOf rfl rfl rfl (by decide +kernel) ⟨Nat.le_of_ble_eq_true rfl, Nat.le_of_ble_eq_true rfl⟩) ⟨fun a U g mk q => q, fun U hU hW => ⟨rfl, trivial⟩⟩ rfl rfl hl.1 rfl (lv_room (Nat.le_of_ble_eq_true rfl)) dX8_wordCost_149 ⟨Nat.le_of_ble_eq_true rfl, Nat.le_of_ble_eq_true rfl⟩) (fun r_149 hw_149 => ?_)
                rcases hw_149 with ⟨hr_149, hb_149⟩ | ⟨pp_149, hr_149, hb_149⟩
                · subst hr_149
                  exact absurd (hwl hmk0 kk (by omega)) (Nat.not_le.mpr hb_149)
                · subst hr_149
                  have hp26 := hb_149.2
                  have h149 : pp_149 = gm fx8 (bb i + kk) := hb_149.1
                  refine lv_istore (lv' := [(7, .int (nI pp_149)), (0, .ref h0), (1, .int (nI i)), (2, .int (nI tt)), (4, .int (nI cv)), (5, .int (nI pv)), (6, .int (nI kk))]) hx hb dX8_wordCost_152 hl (by decide) rfl (fun ls hl => ?_)
                  refine lv_iload hx hb dX8_wordCost_154 (lv_at hl 4 rfl) ?_
                  refine lv_aload_n hx hb dX8_wordCost_156 rfl (lv_at hl 1 rfl) ?_
                  refine va_get (D := (dC, dI)) (ci := 8) (v := .ref m15) (C := RX8) (T := TX8) (N := 38) hx hb hts hi_X8 hown hK hP 0 rfl rfl 15 (by decide) k_f41 (fun _ h9 => h9) rfl dX8_wordCost_157 ?_
                  refine lv_bipush (v := 28) hx hb dX8_wordCost_160 (by decide) ?_
                  refine lv_bipush (v := 28) hx hb dX8_wordCost_162 (by decide) ?_
                  refine lv_iload_n hx hb dX8_wordCost_164 rfl (lv_at hl 3 rfl) ?_
                  refine lv_imul hx hb dX8_wordCost_165 ?_
                  refine lv_topi (fun x_165 ex_165 => ?_)
                  obtain rfl : nI (28 * tt) = x_165 := Eq.symm (ex_165.trans (pk_mul 28 tt))
                  refine lv_iload hx hb dX8_wordCost_166 (lv_at hl 5 rfl) ?_
                  refine lv_iadd hx hb dX8_wordCost_168 ?_
                  refine lv_topi (fun x_168 ex_168 => ?_)
                  obtain rfl : nI (28 * tt + pv) = x_168 := Eq.symm (ex_168.trans (nI_add (28 * tt) pv))
                  refine lv_imul hx hb dX8_wordCost_169 ?_
                  refine lv_topi (fun x_169 ex_169 => ?_)
                  obtain rfl : nI (28 * (28 * tt + pv)) = x_169 := Eq.symm (ex_169.trans (pk_mul 28 (28 * tt + pv)))
                  refine lv_iload hx hb dX8_wordCost_170 (lv_at hl 0 rfl) ?_
                  refine lv_iadd hx hb dX8_wordCost_172 ?_
                  refine lv_topi (fun x_172 ex_172 => ?_)
                  obtain rfl : nI (28 * (28 * tt + pv) + pp_149) = x_172 := Eq.symm (ex_172.trans (nI_add (28 * (28 * tt + pv)) pp_149))
                  refine va_iald hx hb hK hP 10 9 rfl rfl (i := nI (28 * (28 * tt + pv) + pp_149)) (vp_in_nI (by omega) (by omega)) dX8_wordCost_173 ?_
                  refine lv_topi (fun x_173 ex_173 => ?_)
                  obtain rfl : ct8 (28 * (28 * tt + pv) + pp_149) = x_173 := Eq.symm (ex_173.trans (fR_at (by omega)))
                  refine vp_callSi (W.runS (As := [.int (ct8 (28 * (28 * tt + pv) + pp_149))]) (rest := [.int (nI cv)]) ⟨hx, hb, hml, hown, hts⟩ (g_X8_costOf l dC dI (ct8 (28 * (28 * tt + pv) + pp_149))) (va_cwS 1 hts gX8_wordCost_X8_costOf rfl rfl rfl (by decide +kernel) ⟨Nat.le_of_ble_eq_true rfl, Nat.le_of_ble_eq_true rfl⟩) ⟨fun a U g mk q => q, fun U hU hW => ⟨rfl, trivial⟩⟩ rfl rfl hl.1 rfl (lv_room (Nat.le_of_ble_eq_true rfl)) dX8_wordCost_174 ⟨Nat.le_of_ble_eq_true rfl, Nat.le_of_ble_eq_true rfl⟩) (fun r_174 hw_174 => ?_)
                  have hr_174 := hw_174
                  obtain rfl : nI (cost1 (ct8 (28 * (28 * tt + pv) + pp_149))) = r_174 := Eq.symm hr_174
                  have hc1 := cost1_le (ct8 (28 * (28 * tt + pv) + pp_149))
                  refine lv_iadd hx hb dX8_wordCost_177 ?_
                  refine lv_topi (fun x_177 ex_177 => ?_)
                  obtain rfl : nI (cv + (cost1 (ct8 (28 * (28 * tt + pv) + pp_149)))) = x_177 := Eq.symm (ex_177.trans (nI_add cv (cost1 (ct8 (28 * (28 * tt + pv) + pp_149)))))
                  refine lv_istore (lv' := [(4, .int (nI (cv + (cost1 (ct8 (28 * (28 * tt + pv) + pp_149)))))), (7, .int (nI pp_149)), (0, .ref h0), (1, .int (nI i)), (2, .int (nI tt)), (5, .int (nI pv)), (6, .int (nI kk))]) hx hb dX8_wordCost_178 hl (by decide) rfl (fun ls hl => ?_)
                  refine lv_iload hx hb dX8_wordCost_180 (lv_at hl 1 rfl) ?_
                  refine lv_istore (lv' := [(5, .int (nI pp_149)), (4, .int (nI (cv + (cost1 (ct8 (28 * (28 * tt + pv) + pp_149)))))), (7, .int (nI pp_149)), (0, .ref h0), (1, .int (nI i)), (2, .int (nI tt)), (6, .int (nI kk))]) hx hb dX8_wordCost_182 hl (by decide) rfl (fun ls hl => ?_)
                  refine lv_iinc (v := nI (kk + 1)) (lv' := [(6, .int (nI (kk + 1))), (5, .int (nI pp_149)), (4, .int (nI (cv + (cost1 (ct8 (28 * (28 * tt + pv) + pp_149)))))), (7, .int (nI pp_149)), (0, .ref h0), (1, .int (nI i)), (2, .int (nI tt))]) hx hb dX8_wordCost_184 hl (k := 6) rfl (nI_1 _) (by decide) rfl (fun ls hl => ?_)
                  refine lv_goto (tgt := 98) hx hb dX8_wordCost_187 (by decide) ?_
                  replace hl : lv_has ls 8 [(0, .ref h0), (1, .int (nI i)), (2, .int (nI tt)), (4, .int (nI (cv + (cost1 (ct8 (28 * (28 * tt + pv) + pp_149)))))), (5, .int (nI pp_149)), (6, .int (nI (kk + 1)))] := lv_sub hl [4, 5, 6, 2, 1, 0] rfl
                  have hk49 : (cv + (cost1 (ct8 (28 * (28 * tt + pv) + pp_149)))) = 300 + spP ct8 tt (gm fx8) (bb i) (mst (by_ i)) (kk + 1) := (by rw [spP_1 (by omega), hk4, hk5 (by omega), h149, ix_c]; omega)
                  have hk59 : (kk + 1) ≤ mst (by_ i) → pp_149 = fmr (gm fx8) (bb i) (kk + 1) := (fun _ => by rw [fmr_s]; exact h149)
                  apply ih98 (kk := kk + 1) (cv := cv + (cost1 (ct8 (28 * (28 * tt + pv) + pp_149)))) (pv := pp_149) <;> first | assumption | omega
              · have n_123 : kk = (mst (by_ i)) := (nI_eq (a := kk) (b := (mst (by_ i))) (by omega) (by omega)).mp c_123
                refine lv_bipush (v := 27) hx hb dX8_wordCost_126 (by decide) ?_
                refine lv_goto (tgt := 152) hx hb dX8_wordCost_128 (by decide) ?_
                refine lv_istore (lv' := [(7, .int 27), (0, .ref h0), (1, .int (nI i)), (2, .int (nI tt)), (4, .int (nI cv)), (5, .int (nI pv)), (6, .int (nI kk))]) hx hb dX8_wordCost_152 hl (by decide) rfl (fun ls hl => ?_)
                refine lv_iload hx hb dX8_wordCost_154 (lv_at hl 4 rfl) ?_
                refine lv_aload_n hx hb dX8_wordCost_156 rfl (lv_at hl 1 rfl) ?_
                refine va_get (D := (dC, dI)) (ci := 8) (v := .ref m15) (C := RX8) (T := TX8) (N := 38) hx hb hts hi_X8 hown hK hP 0 rfl rfl 15 (by decide) k_f41 (fun _ h9 => h9) rfl dX8_wordCost_157 ?_
                refine lv_bipush (v := 28) hx hb dX8_wordCost_160 (by decide) ?_
                refine lv_bipush (v := 28) hx hb dX8_wordCost_162 (by decide) ?_
                refine lv_iload_n hx hb dX8_wordCost_164 rfl (lv_at hl 3 rfl) ?_
                refine lv_imul hx hb dX8_wordCost_165 ?_
                refine lv_topi (fun x_165 ex_165 => ?_)
                obtain rfl : nI (28 * tt) = x_165 := Eq.symm (ex_165.trans (pk_mul 28 tt))
                refine lv_iload hx hb dX8_wordCost_166 (lv_at hl 5 rfl) ?_
                refine lv_iadd hx hb dX8_wordCost_168 ?_
                refine lv_topi (fun x_168 ex_168 => ?_)
                obtain rfl : nI (28 * tt + pv) = x_168 := Eq.symm (ex_168.trans (nI_add (28 * tt) pv))
                refine lv_imul hx hb dX8_wordCost_169 ?_
                refine lv_topi (fun x_169 ex_169 => ?_)
                obtain rfl : nI (28 * (28 * tt + pv)) = x_169 := Eq.symm (ex_169.trans (pk_mul 28 (28 * tt + pv)))
                refine lv_iload hx hb dX8_wordCost_170 (lv_at hl 0 rfl) ?_
                refine lv_iadd hx hb dX8_wordCost_172 ?_
                refine lv_topi (fun x_172 ex_172 => ?_)
                obtain rfl : nI (28 * (28 * tt + pv) + 27) = x_172 := Eq.symm (ex_172.trans (nI_add (28 * (28 * tt + pv)) 27))
                refine va_iald hx hb hK hP 10 9 rfl rfl (i := nI (28 * (28 * tt + pv) + 27)) (vp_in_nI (by omega) (by omega)) dX8_wordCost_173 ?_
                refine lv_topi (fun x_173 ex_173 => ?_)
                obtain rfl : ct8 (28 * (28 * tt + pv) + 27) = x_173 := Eq.symm (ex_173.trans (fR_at (by omega)))
                refine vp_callSi (W.runS (As := [.int (ct8 (28 * (28 * tt + pv) + 27))]) (rest := [.int (nI cv)]) ⟨hx, hb, hml, hown, hts⟩ (g_X8_costOf l dC dI (ct8 (28 * (28 * tt + pv) + 27))) (va_cwS 1 hts gX8_wordCost_X8_costOf rfl rfl rfl (by decide +kernel) ⟨Nat.le_of_ble_eq_true rfl, Nat.le_of_ble_eq_true rfl⟩) ⟨fun a U g mk q => q, fun U hU hW => ⟨rfl, trivial⟩⟩ rfl rfl hl.1 rfl (lv_room (Nat.le_of_ble_eq_true rfl)) dX8_wordCost_174 ⟨Nat.le_of_ble_eq_true rfl, Nat.le_of_ble_eq_true rfl⟩) (fun r_174 hw_174 => ?_)
                have hr_174 := hw_174
                obtain rfl : nI (cost1 (ct8 (28 * (28 * tt + pv) + 27))) = r_174 := Eq.symm hr_174
                have hc1 := cost1_le (ct8 (28 * (28 * tt + pv) + 27))
                refine lv_iadd hx hb dX8_wordCost_177 ?_
                refine lv_topi (fun x_177 ex_177 => ?_)
                obtain rfl : nI (cv + (cost1 (ct8 (28 * (28 * tt + pv) + 27)))) = x_177 := Eq.symm (ex_177.trans (nI_add cv (cost1 (ct8 (28 * (28 * tt + pv) + 27)))))
                refine lv_istore (lv' := [(4, .int (nI (cv + (cost1 (ct8 (28 * (28 * tt + pv) + 27)))))), (7, .int 27), (0, .ref h0), (1, .int (nI i)), (2, .int (nI tt)), (5, .int (nI pv)), (6, .int (nI kk))]) hx hb dX8_wordCost_178 hl (by decide) rfl (fun ls hl => ?_)
                refine lv_iload hx hb dX8_wordCost_180 (lv_at hl 1 rfl) ?_
                refine lv_istore (lv' := [(5, .int 27), (4, .int (nI (cv + (cost1 (ct8 (28 * (28 * tt + pv) + 27)))))), (7, .int 27), (0, .ref h0), (1, .int (nI i)), (2, .int (nI tt)), (6, .int (nI kk))]) hx hb dX8_wordCost_182 hl (by decide) rfl (fun ls hl => ?_)
                refine lv_iinc (v := nI (kk + 1)) (lv' := [(6, .int (nI (kk + 1))), (5, .int 27), (4, .int (nI (cv + (cost1 (ct8 (28 * (28 * tt + pv) + 27)))))), (7, .int 27), (0, .ref h0), (1, .int (nI i)), (2, .int (nI tt))]) hx hb dX8_wordCost_184 hl (k := 6) rfl (nI_1 _) (by decide) rfl (fun ls hl => ?_)
                refine lv_goto (tgt := 98) hx hb dX8_wordCost_187 (by decide) ?_
                replace hl : lv_has ls 8 [(0, .ref h0), (1, .int (nI i)), (2, .int (nI tt)), (4, .int (nI (cv + (cost1 (ct8 (28 * (28 * tt + pv) + 27)))))), (5, .int 27), (6, .int (nI (kk + 1)))] := lv_sub hl [4, 5, 6, 2, 1, 0] rfl
                have hk49 : (cv + (cost1 (ct8 (28 * (28 * tt + pv) + 27)))) = 300 + spP ct8 tt (gm fx8) (bb i) (mst (by_ i)) (kk + 1) := (by rw [spP_2 n_123, hk4, hk5 (by omega), ix_c]; omega)
                have hk59 : (kk + 1) ≤ mst (by_ i) → 27 = fmr (gm fx8) (bb i) (kk + 1) := (fun h9 => absurd h9 (by omega))
                apply ih98 (kk := kk + 1) (cv := cv + (cost1 (ct8 (28 * (28 * tt + pv) + 27)))) (pv := 27) <;> first | assumption | omega
        · refine lv_iconst (v := 0) hx hb dX8_wordCost_75 (by decide) ?_
          exact W.iret (v := 0) hx hb hr (fun t ht hW => ⟨0, rfl, ⟨congrArg nI ((wc_k hC hi hmk0 hb_26 hb_52.1 hb_52.2.1 hb_52.2.2).trans (if_pos c_72)).symm, wcM_le⟩, ht⟩) (fun _ h => absurd h List.not_mem_nil) dX8_wordCost_76
    · subst hr_26
      refine lv_iconst (v := (-1)) hx hb dX8_wordCost_29 (by decide) ?_
      refine lv_icmp_eq (tgt := 35) hx hb dX8_wordCost_30 (by decide) (fun c_30 => ?_) (fun c_30 => ?_)
      · exact absurd c_30 (nI_nm1 (by omega))
      refine lv_iconst (v := 0) hx hb dX8_wordCost_33 (by decide) ?_
      exact W.iret (v := 0) hx hb hr (fun t ht hW => ⟨0, rfl, ⟨congrArg nI (wc_n hC hi hmk0 hb_26.1 hb_26.2.1).symm, wcM_le⟩, ht⟩) (fun _ h => absurd h List.not_mem_nil) dX8_wordCost_34
