set_option maxHeartbeats 4000000 in
set_option maxRecDepth 100000 in
theorem g_X8_best (l : Launch) (dC : Nat → ClassId) (dI : Nat → Nat → Nat) (h0 : Nat) (x0 : Int32) (x1 : Int32) (m2 : Nat) (c3 : Nat) (m4 : Nat) (m5 : Nat) (m6 : Nat) (m7 : Nat) (m8 : Nat) (m9 : Nat) (m10 : Nat) (m11 : Nat) (c12 : Nat) (c13 : Nat) (c14 : Nat) (m15 : Nat) (m16 : Nat) (m17 : Nat) (m18 : Nat) (m19 : Nat) (c20 : Nat) (x21 : Int32) (c22 : Nat) (c23 : Nat) (m24 : Nat) (m25 : Nat) (c26 : Nat) (c27 : Nat) (x28 : Int32) (m29 : Nat) (m30 : Nat) (m31 : Nat) (m32 : Nat) (m33 : Nat) (m34 : Nat) (x35 : Int32) (m36 : Nat) (c37 : Nat) (kch : ClassId) (ch8 : Nat → Nat) (krw : ClassId) (krb : ClassId) (fr1 : Nat → Option Nat) (L : List Nat) (fp : Nat → va_E) (Rs : List Nat) (Q : Nat → Nat → Nat) (hw60 : c27 ≤ 60) (htg : 0 < c14 ∧ c14 ≤ 8) (hCB : CHB ch8 c14 288000) (hRW : ROWS L fp krb Rs) (hR1 : RA fr1 Rs) (hQr : ∀ t, t < c14 → ¬ ch8 t = 2147483647 → RWV fp krb fr1 (Q t) c27 t) : Met l yX8_best wsX8_best ({ frames := 1, cells := 0, slots := 0, locals := 23 }) (va_Pc [.ref h0] (fun U => va_P (dC, dI) vwCl (vpl [(h0, .inr (8, [.int x0, .int x1, .ref m2, .int (nI c3), .ref m4, .ref m5, .ref m6, .ref m7, .ref m8, .ref m9, .ref m10, .ref m11, .int (nI c12), .int (nI c13), .int (nI c14), .ref m15, .ref m16, .ref m17, .ref m18, .ref m19, .int (nI c20), .int x21, .int (nI c22), .int (nI c23), .ref m24, .ref m25, .int (nI c26), .int (nI c27), .int x28, .ref m29, .ref m30, .ref m31, .ref m32, .ref m33, .ref m34, .int x35, .ref m36, .int (nI c37)])), (m30, .inl (kch, 8, .inl (nR ch8))), (m32, .inl (krw, 8, .inr (.inr (.inr (.inr fr1)))))] L fp) U.heap ∧ va_K (dC, dI) vwCl [(kch, .int), (krw, .array .byte), (krb, .byte)] U)) (vp_Si (fun r => ∃ (bo : Nat), r = nI bo ∧ (bo < c14) ∧ (BST ch8 Q c27 c14 bo))) 0 0 (fun _ => False) := by
  refine Met.ofW (cc := cX8_best) (maxL := 3) (ret := (some .int)) (by decide) rfl ?_
  intro p e s m args below meth c s₁ B hml hv
  obtain ⟨rfl, hP, hK⟩ := hv
  have hx := B.exec
  have hb := B.bytes
  have hr := B.returns
  have hts := atoms_spec (ws := wsX8_best) B.pre
  have hown : s.vm.findClass RX8 = some m.cls := findClass_of_methodNamed B.named
  have hlocks := B.notSynchronized
  replace hP : va_P (dC, dI) vwCl (vpl [(h0, .inr (8, [.int x0, .int x1, .ref m2, .int (nI c3), .ref m4, .ref m5, .ref m6, .ref m7, .ref m8, .ref m9, .ref m10, .ref m11, .int (nI c12), .int (nI c13), .int (nI c14), .ref m15, .ref m16, .ref m17, .ref m18, .ref m19, .int (nI c20), .int x21, .int (nI c22), .int (nI c23), .ref m24, .ref m25, .int (nI c26), .int (nI c27), .int x28, .ref m29, .ref m30, .ref m31, .ref m32, .ref m33, .ref m34, .int x35, .ref m36, .int (nI c37)])), (m30, .inl (kch, 8, .inl (nR ch8))), (m32, .inl (krw, 8, .inr (.inr (.inr (.inr fr1)))))] L fp) s.heap := hP
  have hl := lv_entry ([.ref h0]) (n := 3) (Nat.le_of_ble_eq_true rfl)
  rw [lg_entry_eq]
  generalize (lg_sl ([.ref h0]) ++ List.replicate (3 - (lg_sl ([.ref h0])).length) Slot.unset).toArray = ls at hl ⊢
  replace hl : lv_has ls 3 [(0, .ref h0)] := hl
  have hi_X8 : ∀ w ∈ wsX80, w ∈ wsX8_best := by decide +kernel
  have k_f133 := hts (.fieldLink RX8 133 "TongueTellerModel" "tongues" "I") (by decide +kernel)
  have k_f74 := hts (.fieldLink RX8 74 "TongueTellerModel" "cheap" "[I") (by decide +kernel)
  have k_f82 := hts (.fieldLink RX8 82 "TongueTellerModel" "rows" "[[B") (by decide +kernel)
  have k_f175 := hts (.fieldLink RX8 175 "TongueTellerModel" "words" "I") (by decide +kernel)
  refine lv_iconst (v := 0) hx hb dX8_best_0 (by decide) ?_
  refine lv_istore_n (lv' := [(1, .int 0), (0, .ref h0)]) hx hb dX8_best_1 rfl hl (by decide) rfl (fun ls hl => ?_)
  refine lv_iconst (v := 1) hx hb dX8_best_2 (by decide) ?_
  refine lv_istore_n (lv' := [(2, .int 1), (1, .int 0), (0, .ref h0)]) hx hb dX8_best_3 rfl hl (by decide) rfl (fun ls hl => ?_)
  obtain ⟨t, e_t⟩ : ∃ y : Nat, y = 1 := ⟨_, rfl⟩
  obtain ⟨bs, e_bs⟩ : ∃ y : Nat, y = 0 := ⟨_, rfl⟩
  replace hl : lv_has ls 3 [(0, .ref h0), (1, .int (nI bs)), (2, .int (nI t))] := by (try rewrite [e_t]); (try rewrite [e_bs]); exact lv_sub hl [2, 1, 0] rfl
  have ht1 : t ≤ c14 := by (try rewrite [e_t]); (try rewrite [e_bs]); omega
  have hb1 : bs < c14 := by (try rewrite [e_t]); (try rewrite [e_bs]); omega
  have hbt : bs < t := by (try rewrite [e_t]); (try rewrite [e_bs]); omega
  have hB : BST ch8 Q c27 t bs := by (try rewrite [e_t]); (try rewrite [e_bs]); exact BST_1
  clear e_t e_bs
  obtain ⟨nn4, hnn4⟩ : ∃ q : Nat, 8 - t < q := ⟨_, Nat.lt_succ_self _⟩
  induction nn4 generalizing t bs ls with
  | zero => exact absurd hnn4 (Nat.not_lt_zero _)
  | succ nn4 ih4 =>
    refine lv_iload_n hx hb dX8_best_4 rfl (lv_at hl 2 rfl) ?_
    refine lv_aload_n hx hb dX8_best_5 rfl (lv_at hl 0 rfl) ?_
    refine va_get (D := (dC, dI)) (ci := 8) (v := .int (nI c14)) (C := RX8) (T := TX8) (N := 38) hx hb hts hi_X8 hown hK hP 0 rfl rfl 14 (by decide) k_f133 (fun _ h9 => h9) rfl dX8_best_6 ?_
    refine lv_icmp_ge (tgt := 83) hx hb dX8_best_9 (by decide) (fun c_9 => ?_) (fun c_9 => ?_)
    · have n_9 : c14 ≤ t := (nI_leI (a := c14) (b := t) (by omega) (by omega)).mp c_9
      have hBz : BST ch8 Q c27 c14 bs := by rw [show c14 = t by omega]; exact hB
      refine lv_iload_n hx hb dX8_best_83 rfl (lv_at hl 1 rfl) ?_
      exact W.iret (v := nI bs) hx hb hr (fun t ht hW => ⟨nI bs, rfl, ⟨bs, rfl, by first | assumption | omega, by exact hBz⟩, ht⟩) (fun _ h => absurd h List.not_mem_nil) dX8_best_84
    · have n_9 : t < c14 := Nat.not_le.mp (fun h9 => c_9 ((nI_leI (a := c14) (b := t) (by omega) (by omega)).mpr h9))
      have hc1 := hCB t (by omega)
      have hc2 := hCB bs hb1
      refine lv_aload_n hx hb dX8_best_12 rfl (lv_at hl 0 rfl) ?_
      refine va_get (D := (dC, dI)) (ci := 8) (v := .ref m30) (C := RX8) (T := TX8) (N := 38) hx hb hts hi_X8 hown hK hP 0 rfl rfl 30 (by decide) k_f74 (fun _ h9 => h9) rfl dX8_best_13 ?_
      refine lv_iload_n hx hb dX8_best_16 rfl (lv_at hl 2 rfl) ?_
      refine va_iald hx hb hK hP 1 0 rfl rfl (i := nI t) (vp_in_nI (by omega) (by omega)) dX8_best_17 ?_
      refine lv_topi (fun x_17 ex_17 => ?_)
      obtain rfl : nI (ch8 t) = x_17 := Eq.symm (ex_17.trans (nR_at (by omega)))
      refine lv_aload_n hx hb dX8_best_18 rfl (lv_at hl 0 rfl) ?_
      refine va_get (D := (dC, dI)) (ci := 8) (v := .ref m30) (C := RX8) (T := TX8) (N := 38) hx hb hts hi_X8 hown hK hP 0 rfl rfl 30 (by decide) k_f74 (fun _ h9 => h9) rfl dX8_best_19 ?_
      refine lv_iload_n hx hb dX8_best_22 rfl (lv_at hl 1 rfl) ?_
      refine va_iald hx hb hK hP 1 0 rfl rfl (i := nI bs) (vp_in_nI (by omega) (by omega)) dX8_best_23 ?_
      refine lv_topi (fun x_23 ex_23 => ?_)
      obtain rfl : nI (ch8 bs) = x_23 := Eq.symm (ex_23.trans (nR_at (by omega)))
      refine lv_icmp_lt (tgt := 75) hx hb dX8_best_24 (by decide) (fun c_24 => ?_) (fun c_24 => ?_)
      · have n_24 : (ch8 t) < (ch8 bs) := (nI_ltI (a := (ch8 t)) (b := (ch8 bs)) (by omega) (by omega)).mp c_24
        refine lv_iload_n hx hb dX8_best_75 rfl (lv_at hl 2 rfl) ?_
        refine lv_istore_n (lv' := [(1, .int (nI t)), (0, .ref h0), (2, .int (nI t))]) hx hb dX8_best_76 rfl hl (by decide) rfl (fun ls hl => ?_)
        refine lv_iinc (v := nI (t + 1)) (lv' := [(2, .int (nI (t + 1))), (1, .int (nI t)), (0, .ref h0)]) hx hb dX8_best_77 hl (k := 2) rfl (nI_1 _) (by decide) rfl (fun ls hl => ?_)
        refine lv_goto (tgt := 4) hx hb dX8_best_80 (by decide) ?_
        replace hl : lv_has ls 3 [(0, .ref h0), (1, .int (nI t)), (2, .int (nI (t + 1)))] := lv_sub hl [2, 1, 0] rfl
        have hB9 : BST ch8 Q c27 (t + 1) t := BST_u hB (fun p hp => by have h9 := hCB p (by omega); omega) hbt (Or.inl n_24)
        apply ih4 (t := t + 1) (bs := t) <;> first | assumption | omega
      · have n_24 : (ch8 bs) ≤ (ch8 t) := Nat.not_lt.mp (fun h9 => c_24 ((nI_ltI (a := (ch8 t)) (b := (ch8 bs)) (by omega) (by omega)).mpr h9))
        refine lv_aload_n hx hb dX8_best_27 rfl (lv_at hl 0 rfl) ?_
        refine va_get (D := (dC, dI)) (ci := 8) (v := .ref m30) (C := RX8) (T := TX8) (N := 38) hx hb hts hi_X8 hown hK hP 0 rfl rfl 30 (by decide) k_f74 (fun _ h9 => h9) rfl dX8_best_28 ?_
        refine lv_iload_n hx hb dX8_best_31 rfl (lv_at hl 2 rfl) ?_
        refine va_iald hx hb hK hP 1 0 rfl rfl (i := nI t) (vp_in_nI (by omega) (by omega)) dX8_best_32 ?_
        refine lv_topi (fun x_32 ex_32 => ?_)
        obtain rfl : nI (ch8 t) = x_32 := Eq.symm (ex_32.trans (nR_at (by omega)))
        refine lv_aload_n hx hb dX8_best_33 rfl (lv_at hl 0 rfl) ?_
        refine va_get (D := (dC, dI)) (ci := 8) (v := .ref m30) (C := RX8) (T := TX8) (N := 38) hx hb hts hi_X8 hown hK hP 0 rfl rfl 30 (by decide) k_f74 (fun _ h9 => h9) rfl dX8_best_34 ?_
        refine lv_iload_n hx hb dX8_best_37 rfl (lv_at hl 1 rfl) ?_
        refine va_iald hx hb hK hP 1 0 rfl rfl (i := nI bs) (vp_in_nI (by omega) (by omega)) dX8_best_38 ?_
        refine lv_topi (fun x_38 ex_38 => ?_)
        obtain rfl : nI (ch8 bs) = x_38 := Eq.symm (ex_38.trans (nR_at (by omega)))
        refine lv_icmp_ne (tgt := 77) hx hb dX8_best_39 (by decide) (fun c_39 => ?_) (fun c_39 => ?_)
        · have n_39 : (ch8 t) ≠ (ch8 bs) := fun h9 => c_39 ((nI_eq (a := (ch8 t)) (b := (ch8 bs)) (by omega) (by omega)).mpr h9)
          refine lv_iinc (v := nI (t + 1)) (lv' := [(2, .int (nI (t + 1))), (0, .ref h0), (1, .int (nI bs))]) hx hb dX8_best_77 hl (k := 2) rfl (nI_1 _) (by decide) rfl (fun ls hl => ?_)
          refine lv_goto (tgt := 4) hx hb dX8_best_80 (by decide) ?_
          replace hl : lv_has ls 3 [(0, .ref h0), (1, .int (nI bs)), (2, .int (nI (t + 1)))] := lv_sub hl [1, 2, 0] rfl
          have hB9 : BST ch8 Q c27 (t + 1) bs := BST_k hB (fun p hp => by have h9 := hCB p (by omega); omega) hbt (Or.inl (by omega))
          apply ih4 (t := t + 1) (bs := bs) <;> first | assumption | omega
        · have n_39 : (ch8 t) = (ch8 bs) := (nI_eq (a := (ch8 t)) (b := (ch8 bs)) (by omega) (by omega)).mp c_39
          refine lv_aload_n hx hb dX8_best_42 rfl (lv_at hl 0 rfl) ?_
          refine va_get (D := (dC, dI)) (ci := 8) (v := .ref m30) (C := RX8) (T := TX8) (N := 38) hx hb hts hi_X8 hown hK hP 0 rfl rfl 30 (by decide) k_f74 (fun _ h9 => h9) rfl dX8_best_43 ?_
          refine lv_iload_n hx hb dX8_best_46 rfl (lv_at hl 2 rfl) ?_
          refine va_iald hx hb hK hP 1 0 rfl rfl (i := nI t) (vp_in_nI (by omega) (by omega)) dX8_best_47 ?_
          refine lv_topi (fun x_47 ex_47 => ?_)
          obtain rfl : nI (ch8 t) = x_47 := Eq.symm (ex_47.trans (nR_at (by omega)))
          refine lv_ldc hx hb hown (hts (.constant RX8 191 (2147483647)) (by decide +kernel)) dX8_best_48 ?_
          refine lv_icmp_eq (tgt := 77) hx hb dX8_best_50 (by decide) (fun c_50 => ?_) (fun c_50 => ?_)
          · have n_50 : (ch8 t) = 2147483647 := (nI_eq (a := (ch8 t)) (b := 2147483647) (by omega) (by omega)).mp c_50
            refine lv_iinc (v := nI (t + 1)) (lv' := [(2, .int (nI (t + 1))), (0, .ref h0), (1, .int (nI bs))]) hx hb dX8_best_77 hl (k := 2) rfl (nI_1 _) (by decide) rfl (fun ls hl => ?_)
            refine lv_goto (tgt := 4) hx hb dX8_best_80 (by decide) ?_
            replace hl : lv_has ls 3 [(0, .ref h0), (1, .int (nI bs)), (2, .int (nI (t + 1)))] := lv_sub hl [1, 2, 0] rfl
            have hB9 : BST ch8 Q c27 (t + 1) bs := BST_k hB (fun p hp => by have h9 := hCB p (by omega); omega) hbt (Or.inr ⟨by omega, Or.inl n_50⟩)
            apply ih4 (t := t + 1) (bs := bs) <;> first | assumption | omega
          · have n_50 : (ch8 t) ≠ 2147483647 := fun h9 => c_50 ((nI_eq (a := (ch8 t)) (b := 2147483647) (by omega) (by omega)).mpr h9)
            refine lv_aload_n hx hb dX8_best_53 rfl (lv_at hl 0 rfl) ?_
            refine va_get (D := (dC, dI)) (ci := 8) (v := .ref m32) (C := RX8) (T := TX8) (N := 38) hx hb hts hi_X8 hown hK hP 0 rfl rfl 32 (by decide) k_f82 (fun _ h9 => h9) rfl dX8_best_54 ?_
            refine lv_iload_n hx hb dX8_best_57 rfl (lv_at hl 2 rfl) ?_
            refine va_ald2 hx hb hK hP 2 1 rfl rfl (i := nI t) (vp_in_nI (by omega) (by omega)) dX8_best_58 ?_
            obtain ⟨a_58, ha_58, hf_58⟩ := hR1 t (by omega)
            rw [show (fr1 (nI t).toNatClampNeg) = some a_58 from by rw [nI_clamp (by omega)]; exact hf_58]
            obtain ⟨hm_58, h_58, hh_58⟩ := hRW a_58 ha_58
            have hx_58 := pl_one hP hm_58 hh_58
            refine lv_aload_n hx hb dX8_best_59 rfl (lv_at hl 0 rfl) ?_
            refine va_get (D := (dC, dI)) (ci := 8) (v := .ref m32) (C := RX8) (T := TX8) (N := 38) hx hb hts hi_X8 hown hK hP 0 rfl rfl 32 (by decide) k_f82 (fun _ h9 => h9) rfl dX8_best_60 ?_
            refine lv_iload_n hx hb dX8_best_63 rfl (lv_at hl 1 rfl) ?_
            refine va_ald2 hx hb hK hP 2 1 rfl rfl (i := nI bs) (vp_in_nI (by omega) (by omega)) dX8_best_64 ?_
            obtain ⟨a_64, ha_64, hf_64⟩ := hR1 bs (by omega)
            rw [show (fr1 (nI bs).toNatClampNeg) = some a_64 from by rw [nI_clamp (by omega)]; exact hf_64]
            obtain ⟨hm_64, h_64, hh_64⟩ := hRW a_64 ha_64
            have hx_64 := pl_one hP hm_64 hh_64
            refine lv_aload_n hx hb dX8_best_65 rfl (lv_at hl 0 rfl) ?_
            refine va_get (D := (dC, dI)) (ci := 8) (v := .int (nI c27)) (C := RX8) (T := TX8) (N := 38) hx hb hts hi_X8 hown hK hP 0 rfl rfl 27 (by decide) k_f175 (fun _ h9 => h9) rfl dX8_best_66 ?_
            have hPc : va_P (dC, dI) vwCl [(a_58, .inl (krb, 60, .inl h_58)), (a_64, .inl (krb, 60, .inl h_64))] s.heap := va_P.app (hx_58) hx_64
            have hKc := hK.sub (tys' := [(krb, .byte), (krb, .byte)]) [2, 2] rfl
            refine vp_callSi (W.runS (As := [.ref a_58, .ref a_64, .int (nI c27)]) (rest := []) ⟨hx, hb, hml, hown, hts⟩ (g_X8_isAhead l dC dI a_58 a_64 c27 krb krb h_58 h_64 (by omega)) (va_cwS 3 hts gX8_best_X8_isAhead rfl rfl rfl (by decide +kernel) ⟨Nat.le_of_ble_eq_true rfl, Nat.le_of_ble_eq_true rfl⟩) ⟨fun a U g mk q => by obtain ⟨q0, qP, qK⟩ := q; exact ⟨q0, qP, va_K.moved (u := U) (U := U.calling g mk a) (Vm.Alike.refl U.vm) qK⟩, fun U hU hW => ⟨rfl, by rw [hU]; exact hPc, va_K.moved hW.alike hKc⟩⟩ rfl rfl hl.1 rfl (lv_room (Nat.le_of_ble_eq_true rfl)) dX8_best_69 ⟨Nat.le_of_ble_eq_true rfl, Nat.le_of_ble_eq_true rfl⟩) (fun r_69 hw_69 => ?_)
            clear hPc
            rcases hw_69 with ⟨hr_69, hb_69⟩ | ⟨hr_69, hb_69⟩
            · subst hr_69
              have hg58 := RWV_g (hQr t (by omega) n_50) hf_58 hh_58
              have hg64 := RWV_g (hQr bs hb1 (by omega)) hf_64 hh_64
              refine lv_if_eq (tgt := 77) hx hb dX8_best_72 (by decide) (fun c_72 => ?_) (fun c_72 => ?_)
              · exact absurd c_72 (by decide)
              refine lv_iload_n hx hb dX8_best_75 rfl (lv_at hl 2 rfl) ?_
              refine lv_istore_n (lv' := [(1, .int (nI t)), (0, .ref h0), (2, .int (nI t))]) hx hb dX8_best_76 rfl hl (by decide) rfl (fun ls hl => ?_)
              refine lv_iinc (v := nI (t + 1)) (lv' := [(2, .int (nI (t + 1))), (1, .int (nI t)), (0, .ref h0)]) hx hb dX8_best_77 hl (k := 2) rfl (nI_1 _) (by decide) rfl (fun ls hl => ?_)
              refine lv_goto (tgt := 4) hx hb dX8_best_80 (by decide) ?_
              replace hl : lv_has ls 3 [(0, .ref h0), (1, .int (nI t)), (2, .int (nI (t + 1)))] := lv_sub hl [2, 1, 0] rfl
              have hB9 : BST ch8 Q c27 (t + 1) t := BST_u hB (fun p hp => by have h9 := hCB p (by omega); omega) hbt (Or.inr ⟨n_39, n_50, ahd_y hg58 hg64 hb_69⟩)
              apply ih4 (t := t + 1) (bs := t) <;> first | assumption | omega
            · subst hr_69
              have hg58 := RWV_g (hQr t (by omega) n_50) hf_58 hh_58
              have hg64 := RWV_g (hQr bs hb1 (by omega)) hf_64 hh_64
              refine lv_if_eq (tgt := 77) hx hb dX8_best_72 (by decide) (fun c_72 => ?_) (fun c_72 => ?_)
              rotate_left
              · exact absurd (by decide) c_72
              refine lv_iinc (v := nI (t + 1)) (lv' := [(2, .int (nI (t + 1))), (0, .ref h0), (1, .int (nI bs))]) hx hb dX8_best_77 hl (k := 2) rfl (nI_1 _) (by decide) rfl (fun ls hl => ?_)
              refine lv_goto (tgt := 4) hx hb dX8_best_80 (by decide) ?_
              replace hl : lv_has ls 3 [(0, .ref h0), (1, .int (nI bs)), (2, .int (nI (t + 1)))] := lv_sub hl [1, 2, 0] rfl
              have hB9 : BST ch8 Q c27 (t + 1) bs := BST_k hB (fun p hp => by have h9 := hCB p (by omega); omega) hbt (Or.inr ⟨by omega, Or.inr (ahd_n hg58 hg64 hb_69)⟩)
              apply ih4 (t := t + 1) (bs := bs) <;> first | assumption | omega

set_option maxHeartbeats 4000000 in
set_option maxRecDepth 100000 in
theorem g_X8_told (l : Launch) (dC : Nat → ClassId) (dI : Nat → Nat → Nat) (h0 : Nat) (x0 : Int32) (x1 : Int32) (m2 : Nat) (c3 : Nat) (m4 : Nat) (m5 : Nat) (m6 : Nat) (m7 : Nat) (m8 : Nat) (m9 : Nat) (m10 : Nat) (m11 : Nat) (c12 : Nat) (c13 : Nat) (c14 : Nat) (m15 : Nat) (m16 : Nat) (m17 : Nat) (m18 : Nat) (m19 : Nat) (c20 : Nat) (x21 : Int32) (c22 : Nat) (c23 : Nat) (m24 : Nat) (m25 : Nat) (c26 : Nat) (c27 : Nat) (x28 : Int32) (m29 : Nat) (m30 : Nat) (m31 : Nat) (m32 : Nat) (m33 : Nat) (m34 : Nat) (x35 : Int32) (m36 : Nat) (c37 : Nat) (kto : ClassId) (to8 : Nat → Int32) (p0 : Int32) (sz : Nat) (hTM : x35 = (-1) ∨ ∃ tm, tm ≤ 60 ∧ x35 = nI tm) : Met l yX8_told wsX8_told ({ frames := 0, cells := 0, slots := 0, locals := 0 }) (va_Pc [.ref h0, .int p0] (fun U => U.heap.size = sz ∧ va_P (dC, dI) vwCl [(h0, .inr (8, [.int x0, .int x1, .ref m2, .int (nI c3), .ref m4, .ref m5, .ref m6, .ref m7, .ref m8, .ref m9, .ref m10, .ref m11, .int (nI c12), .int (nI c13), .int (nI c14), .ref m15, .ref m16, .ref m17, .ref m18, .ref m19, .int (nI c20), .int x21, .int (nI c22), .int (nI c23), .ref m24, .ref m25, .int (nI c26), .int (nI c27), .int x28, .ref m29, .ref m30, .ref m31, .ref m32, .ref m33, .ref m34, .int x35, .ref m36, .int (nI c37)])), (m34, .inl (kto, 60, .inl to8))] U.heap ∧ va_K (dC, dI) vwCl [(kto, .byte)] U ∧ va_D (fun _ => True) [(h0, .inr (8, [.int x0, .int x1, .ref m2, .int (nI c3), .ref m4, .ref m5, .ref m6, .ref m7, .ref m8, .ref m9, .ref m10, .ref m11, .int (nI c12), .int (nI c13), .int (nI c14), .ref m15, .ref m16, .ref m17, .ref m18, .ref m19, .int (nI c20), .int x21, .int (nI c22), .int (nI c23), .ref m24, .ref m25, .int (nI c26), .int (nI c27), .int x28, .ref m29, .ref m30, .ref m31, .ref m32, .ref m33, .ref m34, .int x35, .ref m36, .int (nI c37)])), (m34, .inl (kto, 60, .inl to8))])) (va_Qi (fun (r : Int32) (_ : Unit) => ((r = (-1) ∧ ¬ (∃ tm, tm ≤ 60 ∧ x35 = nI tm ∧ inT tm p0)) ∨ (∃ tm a, tm ≤ 60 ∧ x35 = nI tm ∧ a < tm ∧ p0 = nI a ∧ r = to8 a))) (fun (_ : Unit) (t : State) => va_P (dC, dI) vwCl [(h0, .inr (8, [.int 0, .int x1, .ref m2, .int (nI c3), .ref m4, .ref m5, .ref m6, .ref m7, .ref m8, .ref m9, .ref m10, .ref m11, .int (nI c12), .int (nI c13), .int (nI c14), .ref m15, .ref m16, .ref m17, .ref m18, .ref m19, .int (nI c20), .int x21, .int (nI c22), .int (nI c23), .ref m24, .ref m25, .int (nI c26), .int (nI c27), .int x28, .ref m29, .ref m30, .ref m31, .ref m32, .ref m33, .ref m34, .int x35, .ref m36, .int (nI c37)])), (m34, .inl (kto, 60, .inl to8))] t.heap ∧ va_D (va_A [(h0, .inr (8, [.int x0, .int x1, .ref m2, .int (nI c3), .ref m4, .ref m5, .ref m6, .ref m7, .ref m8, .ref m9, .ref m10, .ref m11, .int (nI c12), .int (nI c13), .int (nI c14), .ref m15, .ref m16, .ref m17, .ref m18, .ref m19, .int (nI c20), .int x21, .int (nI c22), .int (nI c23), .ref m24, .ref m25, .int (nI c26), .int (nI c27), .int x28, .ref m29, .ref m30, .ref m31, .ref m32, .ref m33, .ref m34, .int x35, .ref m36, .int (nI c37)])), (m34, .inl (kto, 60, .inl to8))] sz) [(h0, .inr (8, [.int 0, .int x1, .ref m2, .int (nI c3), .ref m4, .ref m5, .ref m6, .ref m7, .ref m8, .ref m9, .ref m10, .ref m11, .int (nI c12), .int (nI c13), .int (nI c14), .ref m15, .ref m16, .ref m17, .ref m18, .ref m19, .int (nI c20), .int x21, .int (nI c22), .int (nI c23), .ref m24, .ref m25, .int (nI c26), .int (nI c27), .int x28, .ref m29, .ref m30, .ref m31, .ref m32, .ref m33, .ref m34, .int x35, .ref m36, .int (nI c37)])), (m34, .inl (kto, 60, .inl to8))]) (va_A [(h0, .inr (8, [.int x0, .int x1, .ref m2, .int (nI c3), .ref m4, .ref m5, .ref m6, .ref m7, .ref m8, .ref m9, .ref m10, .ref m11, .int (nI c12), .int (nI c13), .int (nI c14), .ref m15, .ref m16, .ref m17, .ref m18, .ref m19, .int (nI c20), .int x21, .int (nI c22), .int (nI c23), .ref m24, .ref m25, .int (nI c26), .int (nI c27), .int x28, .ref m29, .ref m30, .ref m31, .ref m32, .ref m33, .ref m34, .int x35, .ref m36, .int (nI c37)])), (m34, .inl (kto, 60, .inl to8))] sz)) 0 0 (va_A [(h0, .inr (8, [.int x0, .int x1, .ref m2, .int (nI c3), .ref m4, .ref m5, .ref m6, .ref m7, .ref m8, .ref m9, .ref m10, .ref m11, .int (nI c12), .int (nI c13), .int (nI c14), .ref m15, .ref m16, .ref m17, .ref m18, .ref m19, .int (nI c20), .int x21, .int (nI c22), .int (nI c23), .ref m24, .ref m25, .int (nI c26), .int (nI c27), .int x28, .ref m29, .ref m30, .ref m31, .ref m32, .ref m33, .ref m34, .int x35, .ref m36, .int (nI c37)])), (m34, .inl (kto, 60, .inl to8))] sz) := by
  refine Met.ofW (cc := cX8_told) (maxL := 2) (ret := (some .int)) (by decide) rfl ?_
  intro p e s m args below meth c s₁ B hml hv
  obtain ⟨rfl, hsz, hP, hK, hD0⟩ := hv
  have hx := B.exec
  have hb := B.bytes
  have hr := B.returns
  have hts := atoms_spec (ws := wsX8_told) B.pre
  have hown : s.vm.findClass RX8 = some m.cls := findClass_of_methodNamed B.named
  have hlocks := B.notSynchronized
  subst hsz
  have hD := hD0.self (sz := s.heap.size)
  clear hD0
  generalize hAe : va_A [(h0, .inr (8, [.int x0, .int x1, .ref m2, .int (nI c3), .ref m4, .ref m5, .ref m6, .ref m7, .ref m8, .ref m9, .ref m10, .ref m11, .int (nI c12), .int (nI c13), .int (nI c14), .ref m15, .ref m16, .ref m17, .ref m18, .ref m19, .int (nI c20), .int x21, .int (nI c22), .int (nI c23), .ref m24, .ref m25, .int (nI c26), .int (nI c27), .int x28, .ref m29, .ref m30, .ref m31, .ref m32, .ref m33, .ref m34, .int x35, .ref m36, .int (nI c37)])), (m34, .inl (kto, 60, .inl to8))] s.heap.size = A at hD ⊢
  have hA : ∀ q : Nat, s.heap.size ≤ q → A q := fun q h => by rw [← hAe]; exact Or.inr h
  clear hAe
  have hS : va_S A s.heap s.heap [] := va_S.rf
  replace hP : va_P (dC, dI) vwCl [(h0, .inr (8, [.int x0, .int x1, .ref m2, .int (nI c3), .ref m4, .ref m5, .ref m6, .ref m7, .ref m8, .ref m9, .ref m10, .ref m11, .int (nI c12), .int (nI c13), .int (nI c14), .ref m15, .ref m16, .ref m17, .ref m18, .ref m19, .int (nI c20), .int x21, .int (nI c22), .int (nI c23), .ref m24, .ref m25, .int (nI c26), .int (nI c27), .int x28, .ref m29, .ref m30, .ref m31, .ref m32, .ref m33, .ref m34, .int x35, .ref m36, .int (nI c37)])), (m34, .inl (kto, 60, .inl to8))] s.heap := hP
  have hl := lv_entry ([.ref h0, .int p0]) (n := 2) (Nat.le_of_ble_eq_true rfl)
  rw [lg_entry_eq]
  generalize (lg_sl ([.ref h0, .int p0]) ++ List.replicate (2 - (lg_sl ([.ref h0, .int p0])).length) Slot.unset).toArray = ls at hl ⊢
  replace hl : lv_has ls 2 [(0, .ref h0), (1, .int p0)] := hl
  have hi_X8 : ∀ w ∈ wsX80, w ∈ wsX8_told := by decide +kernel
  have k_f97 := hts (.fieldLink RX8 97 "TongueTellerModel" "thrown" "I") (by decide +kernel)
  have k_f91 := hts (.fieldLink RX8 91 "TongueTellerModel" "toldMany" "I") (by decide +kernel)
  have k_f88 := hts (.fieldLink RX8 88 "TongueTellerModel" "told" "[B") (by decide +kernel)
  rcases hTM with eT | ⟨tm, hTm, eT⟩
  · subst eT
    refine lv_aload_n hx hb dX8_told_0 rfl (lv_at hl 0 rfl) ?_
    refine lv_iconst (v := 0) hx hb dX8_told_1 (by decide) ?_
    refine va_put (D := (dC, dI)) (ci := 8) (v := .int 0) (ty := .int) (C := RX8) (T := TX8) (N := 38) hx hb hts hi_X8 tyX8 tyX8_ok nmX8 hown hK hP hD hS 0 rfl rfl 0 (by decide) k_f97 (fun _ h9 => h9) rfl (by decide +kernel) rfl rfl (Nat.le_of_ble_eq_true rfl) dX8_told_2 (fun H locs hP hD hS => ?_)
    replace hP : va_P (dC, dI) vwCl [(h0, .inr (8, [.int 0, .int x1, .ref m2, .int (nI c3), .ref m4, .ref m5, .ref m6, .ref m7, .ref m8, .ref m9, .ref m10, .ref m11, .int (nI c12), .int (nI c13), .int (nI c14), .ref m15, .ref m16, .ref m17, .ref m18, .ref m19, .int (nI c20), .int x21, .int (nI c22), .int (nI c23), .ref m24, .ref m25, .int (nI c26), .int (nI c27), .int x28, .ref m29, .ref m30, .ref m31, .ref m32, .ref m33, .ref m34, .int (-1), .ref m36, .int (nI c37)])), (m34, .inl (kto, 60, .inl to8))] H := hP
    replace hD : va_D A [(h0, .inr (8, [.int 0, .int x1, .ref m2, .int (nI c3), .ref m4, .ref m5, .ref m6, .ref m7, .ref m8, .ref m9, .ref m10, .ref m11, .int (nI c12), .int (nI c13), .int (nI c14), .ref m15, .ref m16, .ref m17, .ref m18, .ref m19, .int (nI c20), .int x21, .int (nI c22), .int (nI c23), .ref m24, .ref m25, .int (nI c26), .int (nI c27), .int x28, .ref m29, .ref m30, .ref m31, .ref m32, .ref m33, .ref m34, .int (-1), .ref m36, .int (nI c37)])), (m34, .inl (kto, 60, .inl to8))] := hD
    refine lv_iload_n hx hb dX8_told_5 rfl (lv_at hl 1 rfl) ?_
    refine lv_if_lt (tgt := 26) hx hb dX8_told_6 (by decide) (fun c_6 => ?_) (fun c_6 => ?_)
    · refine lv_iconst (v := (-1)) hx hb dX8_told_26 (by decide) ?_
      have hP9 := hP.sub (ws' := [(h0, .inr (8, [.int 0, .int x1, .ref m2, .int (nI c3), .ref m4, .ref m5, .ref m6, .ref m7, .ref m8, .ref m9, .ref m10, .ref m11, .int (nI c12), .int (nI c13), .int (nI c14), .ref m15, .ref m16, .ref m17, .ref m18, .ref m19, .int (nI c20), .int x21, .int (nI c22), .int (nI c23), .ref m24, .ref m25, .int (nI c26), .int (nI c27), .int x28, .ref m29, .ref m30, .ref m31, .ref m32, .ref m33, .ref m34, .int (-1), .ref m36, .int (nI c37)])), (m34, .inl (kto, 60, .inl to8))]) [0, 1] rfl
      have hD9 := hD.sub (ws' := [(h0, .inr (8, [.int 0, .int x1, .ref m2, .int (nI c3), .ref m4, .ref m5, .ref m6, .ref m7, .ref m8, .ref m9, .ref m10, .ref m11, .int (nI c12), .int (nI c13), .int (nI c14), .ref m15, .ref m16, .ref m17, .ref m18, .ref m19, .int (nI c20), .int x21, .int (nI c22), .int (nI c23), .ref m24, .ref m25, .int (nI c26), .int (nI c27), .int x28, .ref m29, .ref m30, .ref m31, .ref m32, .ref m33, .ref m34, .int (-1), .ref m36, .int (nI c37)])), (m34, .inl (kto, 60, .inl to8))]) [0, 1] (by decide) rfl
      exact W.iret (v := (-1)) hx hb hr (fun t ht hW => ⟨⟨(-1), (), rfl, by exact Or.inl ⟨rfl, fun ⟨tm, h1, h2, _⟩ => nI_nm1 (by omega) h2.symm⟩, by rw [ht]; exact hP9, hD9⟩, hS.F ht⟩) hS.2.2 dX8_told_27
    · refine lv_iload_n hx hb dX8_told_9 rfl (lv_at hl 1 rfl) ?_
      refine lv_aload_n hx hb dX8_told_10 rfl (lv_at hl 0 rfl) ?_
      refine va_get (D := (dC, dI)) (ci := 8) (v := .int (-1)) (C := RX8) (T := TX8) (N := 38) hx hb hts hi_X8 hown hK hP 0 rfl rfl 35 (by decide) k_f91 (fun _ h9 => h9) rfl dX8_told_11 ?_
      refine lv_icmp_ge (tgt := 26) hx hb dX8_told_14 (by decide) (fun c_14 => ?_) (fun c_14 => ?_)
      rotate_left
      · exact absurd (Int32.le_trans (by decide) (Int32.not_lt.mp c_6)) c_14
      refine lv_iconst (v := (-1)) hx hb dX8_told_26 (by decide) ?_
      have hP9 := hP.sub (ws' := [(h0, .inr (8, [.int 0, .int x1, .ref m2, .int (nI c3), .ref m4, .ref m5, .ref m6, .ref m7, .ref m8, .ref m9, .ref m10, .ref m11, .int (nI c12), .int (nI c13), .int (nI c14), .ref m15, .ref m16, .ref m17, .ref m18, .ref m19, .int (nI c20), .int x21, .int (nI c22), .int (nI c23), .ref m24, .ref m25, .int (nI c26), .int (nI c27), .int x28, .ref m29, .ref m30, .ref m31, .ref m32, .ref m33, .ref m34, .int (-1), .ref m36, .int (nI c37)])), (m34, .inl (kto, 60, .inl to8))]) [0, 1] rfl
      have hD9 := hD.sub (ws' := [(h0, .inr (8, [.int 0, .int x1, .ref m2, .int (nI c3), .ref m4, .ref m5, .ref m6, .ref m7, .ref m8, .ref m9, .ref m10, .ref m11, .int (nI c12), .int (nI c13), .int (nI c14), .ref m15, .ref m16, .ref m17, .ref m18, .ref m19, .int (nI c20), .int x21, .int (nI c22), .int (nI c23), .ref m24, .ref m25, .int (nI c26), .int (nI c27), .int x28, .ref m29, .ref m30, .ref m31, .ref m32, .ref m33, .ref m34, .int (-1), .ref m36, .int (nI c37)])), (m34, .inl (kto, 60, .inl to8))]) [0, 1] (by decide) rfl
      exact W.iret (v := (-1)) hx hb hr (fun t ht hW => ⟨⟨(-1), (), rfl, by exact Or.inl ⟨rfl, fun ⟨tm, h1, h2, _⟩ => nI_nm1 (by omega) h2.symm⟩, by rw [ht]; exact hP9, hD9⟩, hS.F ht⟩) hS.2.2 dX8_told_27
  · subst eT
    refine lv_aload_n hx hb dX8_told_0 rfl (lv_at hl 0 rfl) ?_
    refine lv_iconst (v := 0) hx hb dX8_told_1 (by decide) ?_
    refine va_put (D := (dC, dI)) (ci := 8) (v := .int 0) (ty := .int) (C := RX8) (T := TX8) (N := 38) hx hb hts hi_X8 tyX8 tyX8_ok nmX8 hown hK hP hD hS 0 rfl rfl 0 (by decide) k_f97 (fun _ h9 => h9) rfl (by decide +kernel) rfl rfl (Nat.le_of_ble_eq_true rfl) dX8_told_2 (fun H locs hP hD hS => ?_)
    replace hP : va_P (dC, dI) vwCl [(h0, .inr (8, [.int 0, .int x1, .ref m2, .int (nI c3), .ref m4, .ref m5, .ref m6, .ref m7, .ref m8, .ref m9, .ref m10, .ref m11, .int (nI c12), .int (nI c13), .int (nI c14), .ref m15, .ref m16, .ref m17, .ref m18, .ref m19, .int (nI c20), .int x21, .int (nI c22), .int (nI c23), .ref m24, .ref m25, .int (nI c26), .int (nI c27), .int x28, .ref m29, .ref m30, .ref m31, .ref m32, .ref m33, .ref m34, .int (nI tm), .ref m36, .int (nI c37)])), (m34, .inl (kto, 60, .inl to8))] H := hP
    replace hD : va_D A [(h0, .inr (8, [.int 0, .int x1, .ref m2, .int (nI c3), .ref m4, .ref m5, .ref m6, .ref m7, .ref m8, .ref m9, .ref m10, .ref m11, .int (nI c12), .int (nI c13), .int (nI c14), .ref m15, .ref m16, .ref m17, .ref m18, .ref m19, .int (nI c20), .int x21, .int (nI c22), .int (nI c23), .ref m24, .ref m25, .int (nI c26), .int (nI c27), .int x28, .ref m29, .ref m30, .ref m31, .ref m32, .ref m33, .ref m34, .int (nI tm), .ref m36, .int (nI c37)])), (m34, .inl (kto, 60, .inl to8))] := hD
    refine lv_iload_n hx hb dX8_told_5 rfl (lv_at hl 1 rfl) ?_
    refine lv_if_lt (tgt := 26) hx hb dX8_told_6 (by decide) (fun c_6 => ?_) (fun c_6 => ?_)
    · refine lv_iconst (v := (-1)) hx hb dX8_told_26 (by decide) ?_
      have hP9 := hP.sub (ws' := [(h0, .inr (8, [.int 0, .int x1, .ref m2, .int (nI c3), .ref m4, .ref m5, .ref m6, .ref m7, .ref m8, .ref m9, .ref m10, .ref m11, .int (nI c12), .int (nI c13), .int (nI c14), .ref m15, .ref m16, .ref m17, .ref m18, .ref m19, .int (nI c20), .int x21, .int (nI c22), .int (nI c23), .ref m24, .ref m25, .int (nI c26), .int (nI c27), .int x28, .ref m29, .ref m30, .ref m31, .ref m32, .ref m33, .ref m34, .int (nI tm), .ref m36, .int (nI c37)])), (m34, .inl (kto, 60, .inl to8))]) [0, 1] rfl
      have hD9 := hD.sub (ws' := [(h0, .inr (8, [.int 0, .int x1, .ref m2, .int (nI c3), .ref m4, .ref m5, .ref m6, .ref m7, .ref m8, .ref m9, .ref m10, .ref m11, .int (nI c12), .int (nI c13), .int (nI c14), .ref m15, .ref m16, .ref m17, .ref m18, .ref m19, .int (nI c20), .int x21, .int (nI c22), .int (nI c23), .ref m24, .ref m25, .int (nI c26), .int (nI c27), .int x28, .ref m29, .ref m30, .ref m31, .ref m32, .ref m33, .ref m34, .int (nI tm), .ref m36, .int (nI c37)])), (m34, .inl (kto, 60, .inl to8))]) [0, 1] (by decide) rfl
      exact W.iret (v := (-1)) hx hb hr (fun t ht hW => ⟨⟨(-1), (), rfl, by exact Or.inl ⟨rfl, fun ⟨tm2, h1, h2, h3⟩ => nin_lt (by omega) c_6 h3⟩, by rw [ht]; exact hP9, hD9⟩, hS.F ht⟩) hS.2.2 dX8_told_27
    · refine lv_iload_n hx hb dX8_told_9 rfl (lv_at hl 1 rfl) ?_
      refine lv_aload_n hx hb dX8_told_10 rfl (lv_at hl 0 rfl) ?_
      refine va_get (D := (dC, dI)) (ci := 8) (v := .int (nI tm)) (C := RX8) (T := TX8) (N := 38) hx hb hts hi_X8 hown hK hP 0 rfl rfl 35 (by decide) k_f91 (fun _ h9 => h9) rfl dX8_told_11 ?_
      refine lv_icmp_ge (tgt := 26) hx hb dX8_told_14 (by decide) (fun c_14 => ?_) (fun c_14 => ?_)
      · refine lv_iconst (v := (-1)) hx hb dX8_told_26 (by decide) ?_
        have hP9 := hP.sub (ws' := [(h0, .inr (8, [.int 0, .int x1, .ref m2, .int (nI c3), .ref m4, .ref m5, .ref m6, .ref m7, .ref m8, .ref m9, .ref m10, .ref m11, .int (nI c12), .int (nI c13), .int (nI c14), .ref m15, .ref m16, .ref m17, .ref m18, .ref m19, .int (nI c20), .int x21, .int (nI c22), .int (nI c23), .ref m24, .ref m25, .int (nI c26), .int (nI c27), .int x28, .ref m29, .ref m30, .ref m31, .ref m32, .ref m33, .ref m34, .int (nI tm), .ref m36, .int (nI c37)])), (m34, .inl (kto, 60, .inl to8))]) [0, 1] rfl
        have hD9 := hD.sub (ws' := [(h0, .inr (8, [.int 0, .int x1, .ref m2, .int (nI c3), .ref m4, .ref m5, .ref m6, .ref m7, .ref m8, .ref m9, .ref m10, .ref m11, .int (nI c12), .int (nI c13), .int (nI c14), .ref m15, .ref m16, .ref m17, .ref m18, .ref m19, .int (nI c20), .int x21, .int (nI c22), .int (nI c23), .ref m24, .ref m25, .int (nI c26), .int (nI c27), .int x28, .ref m29, .ref m30, .ref m31, .ref m32, .ref m33, .ref m34, .int (nI tm), .ref m36, .int (nI c37)])), (m34, .inl (kto, 60, .inl to8))]) [0, 1] (by decide) rfl
        exact W.iret (v := (-1)) hx hb hr (fun t ht hW => ⟨⟨(-1), (), rfl, by exact Or.inl ⟨rfl, fun ⟨tm2, h1, h2, h3⟩ => nin_ge (z := tm) (by omega) c_14 (by rw [((nI_eq (a := tm) (b := tm2) (by omega) (by omega)).mp h2)]; exact h3)⟩, by rw [ht]; exact hP9, hD9⟩, hS.F ht⟩) hS.2.2 dX8_told_27
      · obtain ⟨j0, hj0, ep_j0⟩ := in_of (z := tm) (by omega) c_6 (c_14)
        subst ep_j0
        refine lv_aload_n hx hb dX8_told_17 rfl (lv_at hl 0 rfl) ?_
        refine va_get (D := (dC, dI)) (ci := 8) (v := .ref m34) (C := RX8) (T := TX8) (N := 38) hx hb hts hi_X8 hown hK hP 0 rfl rfl 34 (by decide) k_f88 (fun _ h9 => h9) rfl dX8_told_18 ?_
        refine lv_iload_n hx hb dX8_told_21 rfl (lv_at hl 1 rfl) ?_
        refine va_bald hx hb hK hP 1 0 rfl rfl (i := nI j0) (vp_in_nI (by omega) (by omega)) dX8_told_22 ?_
        refine lv_topi (fun x_22 ex_22 => ?_)
        obtain rfl : to8 j0 = x_22 := Eq.symm (ex_22.trans (fR_at (by omega)))
        refine lv_goto (tgt := 27) hx hb dX8_told_23 (by decide) ?_
        have hP9 := hP.sub (ws' := [(h0, .inr (8, [.int 0, .int x1, .ref m2, .int (nI c3), .ref m4, .ref m5, .ref m6, .ref m7, .ref m8, .ref m9, .ref m10, .ref m11, .int (nI c12), .int (nI c13), .int (nI c14), .ref m15, .ref m16, .ref m17, .ref m18, .ref m19, .int (nI c20), .int x21, .int (nI c22), .int (nI c23), .ref m24, .ref m25, .int (nI c26), .int (nI c27), .int x28, .ref m29, .ref m30, .ref m31, .ref m32, .ref m33, .ref m34, .int (nI tm), .ref m36, .int (nI c37)])), (m34, .inl (kto, 60, .inl to8))]) [0, 1] rfl
        have hD9 := hD.sub (ws' := [(h0, .inr (8, [.int 0, .int x1, .ref m2, .int (nI c3), .ref m4, .ref m5, .ref m6, .ref m7, .ref m8, .ref m9, .ref m10, .ref m11, .int (nI c12), .int (nI c13), .int (nI c14), .ref m15, .ref m16, .ref m17, .ref m18, .ref m19, .int (nI c20), .int x21, .int (nI c22), .int (nI c23), .ref m24, .ref m25, .int (nI c26), .int (nI c27), .int x28, .ref m29, .ref m30, .ref m31, .ref m32, .ref m33, .ref m34, .int (nI tm), .ref m36, .int (nI c37)])), (m34, .inl (kto, 60, .inl to8))]) [0, 1] (by decide) rfl
        exact W.iret (v := to8 j0) hx hb hr (fun t ht hW => ⟨⟨to8 j0, (), rfl, by exact Or.inr ⟨tm, j0, hTm, rfl, hj0, rfl, rfl⟩, by rw [ht]; exact hP9, hD9⟩, hS.F ht⟩) hS.2.2 dX8_told_27

set_option maxHeartbeats 4000000 in
set_option maxRecDepth 100000 in
theorem g_X8_spanAt (l : Launch) (dC : Nat → ClassId) (dI : Nat → Nat → Nat) (h0 : Nat) (x0 : Int32) (x1 : Int32) (m2 : Nat) (c3 : Nat) (m4 : Nat) (m5 : Nat) (m6 : Nat) (m7 : Nat) (m8 : Nat) (m9 : Nat) (m10 : Nat) (m11 : Nat) (c12 : Nat) (c13 : Nat) (c14 : Nat) (m15 : Nat) (m16 : Nat) (m17 : Nat) (m18 : Nat) (m19 : Nat) (c20 : Nat) (x21 : Int32) (c22 : Nat) (c23 : Nat) (m24 : Nat) (m25 : Nat) (c26 : Nat) (c27 : Nat) (x28 : Int32) (m29 : Nat) (m30 : Nat) (m31 : Nat) (m32 : Nat) (m33 : Nat) (m34 : Nat) (m36 : Nat) (c37 : Nat) (tm : Nat) (kto : ClassId) (to8 : Nat → Int32) (p0 : Int32) (htm : tm ≤ 60) : Met l yX8_spanAt wsX8_spanAt ({ frames := 0, cells := 0, slots := 0, locals := 0 }) (va_Pc [.ref h0, .int p0] (fun U => va_P (dC, dI) vwCl [(h0, .inr (8, [.int x0, .int x1, .ref m2, .int (nI c3), .ref m4, .ref m5, .ref m6, .ref m7, .ref m8, .ref m9, .ref m10, .ref m11, .int (nI c12), .int (nI c13), .int (nI c14), .ref m15, .ref m16, .ref m17, .ref m18, .ref m19, .int (nI c20), .int x21, .int (nI c22), .int (nI c23), .ref m24, .ref m25, .int (nI c26), .int (nI c27), .int x28, .ref m29, .ref m30, .ref m31, .ref m32, .ref m33, .ref m34, .int (nI tm), .ref m36, .int (nI c37)])), (m34, .inl (kto, 60, .inl to8))] U.heap ∧ va_K (dC, dI) vwCl [(kto, .byte)] U)) (vp_Si (fun r => ∃ (so : Nat), r = nI so ∧ (SPA to8 tm p0 so))) 0 0 (fun _ => False) := by
  refine Met.ofW (cc := cX8_spanAt) (maxL := 4) (ret := (some .int)) (by decide) rfl ?_
  intro p e s m args below meth c s₁ B hml hv
  obtain ⟨rfl, hP, hK⟩ := hv
  have hx := B.exec
  have hb := B.bytes
  have hr := B.returns
  have hts := atoms_spec (ws := wsX8_spanAt) B.pre
  have hown : s.vm.findClass RX8 = some m.cls := findClass_of_methodNamed B.named
  have hlocks := B.notSynchronized
  replace hP : va_P (dC, dI) vwCl [(h0, .inr (8, [.int x0, .int x1, .ref m2, .int (nI c3), .ref m4, .ref m5, .ref m6, .ref m7, .ref m8, .ref m9, .ref m10, .ref m11, .int (nI c12), .int (nI c13), .int (nI c14), .ref m15, .ref m16, .ref m17, .ref m18, .ref m19, .int (nI c20), .int x21, .int (nI c22), .int (nI c23), .ref m24, .ref m25, .int (nI c26), .int (nI c27), .int x28, .ref m29, .ref m30, .ref m31, .ref m32, .ref m33, .ref m34, .int (nI tm), .ref m36, .int (nI c37)])), (m34, .inl (kto, 60, .inl to8))] s.heap := hP
  have hl := lv_entry ([.ref h0, .int p0]) (n := 4) (Nat.le_of_ble_eq_true rfl)
  rw [lg_entry_eq]
  generalize (lg_sl ([.ref h0, .int p0]) ++ List.replicate (4 - (lg_sl ([.ref h0, .int p0])).length) Slot.unset).toArray = ls at hl ⊢
  replace hl : lv_has ls 4 [(0, .ref h0), (1, .int p0)] := hl
  have hi_X8 : ∀ w ∈ wsX80, w ∈ wsX8_spanAt := by decide +kernel
  have k_f91 := hts (.fieldLink RX8 91 "TongueTellerModel" "toldMany" "I") (by decide +kernel)
  have k_f88 := hts (.fieldLink RX8 88 "TongueTellerModel" "told" "[B") (by decide +kernel)
  refine lv_iconst (v := 0) hx hb dX8_spanAt_0 (by decide) ?_
  refine lv_istore_n (lv' := [(2, .int 0), (0, .ref h0), (1, .int p0)]) hx hb dX8_spanAt_1 rfl hl (by decide) rfl (fun ls hl => ?_)
  refine lv_iconst (v := 0) hx hb dX8_spanAt_2 (by decide) ?_
  refine lv_istore_n (lv' := [(3, .int 0), (2, .int 0), (0, .ref h0), (1, .int p0)]) hx hb dX8_spanAt_3 rfl hl (by decide) rfl (fun ls hl => ?_)
  obtain ⟨k, e_k⟩ : ∃ y : Nat, y = 0 := ⟨_, rfl⟩
  replace hl : lv_has ls 4 [(0, .ref h0), (1, .int p0), (2, .int (nI (cS to8 k))), (3, .int (nI k))] := by (try rewrite [e_k]); exact lv_sub hl [2, 3, 1, 0] rfl
  have hk1 : k ≤ tm := by (try rewrite [e_k]); omega
  have hk2 : ∀ j, j < k → bS to8 j → ¬ nI (cS to8 j) = p0 := by (try rewrite [e_k]); exact fun j hj => absurd hj (Nat.not_lt_zero j)
  clear e_k
  obtain ⟨nn4, hnn4⟩ : ∃ q : Nat, tm - k < q := ⟨_, Nat.lt_succ_self _⟩
  induction nn4 generalizing k ls with
  | zero => exact absurd hnn4 (Nat.not_lt_zero _)
  | succ nn4 ih4 =>
    refine lv_iload_n hx hb dX8_spanAt_4 rfl (lv_at hl 3 rfl) ?_
    refine lv_aload_n hx hb dX8_spanAt_5 rfl (lv_at hl 0 rfl) ?_
    refine va_get (D := (dC, dI)) (ci := 8) (v := .int (nI tm)) (C := RX8) (T := TX8) (N := 38) hx hb hts hi_X8 hown hK hP 0 rfl rfl 35 (by decide) k_f91 (fun _ h9 => h9) rfl dX8_spanAt_6 ?_
    refine lv_icmp_ge (tgt := 52) hx hb dX8_spanAt_9 (by decide) (fun c_9 => ?_) (fun c_9 => ?_)
    · have n_9 : tm ≤ k := (nI_leI (a := tm) (b := k) (by omega) (by omega)).mp c_9
      refine lv_iload_n hx hb dX8_spanAt_52 rfl (lv_at hl 3 rfl) ?_
      exact W.iret (v := nI k) hx hb hr (fun t ht hW => ⟨nI k, rfl, ⟨k, rfl, by exact ⟨hk1, Or.inr ⟨by omega, fun j hj => hk2 j (by omega)⟩⟩⟩, ht⟩) (fun _ h => absurd h List.not_mem_nil) dX8_spanAt_53
    · have n_9 : k < tm := Nat.not_le.mp (fun h9 => c_9 ((nI_leI (a := tm) (b := k) (by omega) (by omega)).mpr h9))
      refine lv_iload_n hx hb dX8_spanAt_12 rfl (lv_at hl 3 rfl) ?_
      refine lv_if_le (tgt := 36) hx hb dX8_spanAt_13 (by decide) (fun c_13 => ?_) (fun c_13 => ?_)
      · have n_13 : k ≤ 0 := (nI_leI (a := k) (b := 0) (by omega) (by omega)).mp c_13
        refine lv_iload_n hx hb dX8_spanAt_36 rfl (lv_at hl 2 rfl) ?_
        refine lv_iload_n hx hb dX8_spanAt_37 rfl (lv_at hl 1 rfl) ?_
        refine lv_icmp_ne (tgt := 43) hx hb dX8_spanAt_38 (by decide) (fun c_38 => ?_) (fun c_38 => ?_)
        · refine lv_iinc (v := nI (cS to8 k + 1)) (lv' := [(2, .int (nI (cS to8 k + 1))), (0, .ref h0), (1, .int p0), (3, .int (nI k))]) hx hb dX8_spanAt_43 hl (k := 2) rfl (nI_1 _) (by decide) rfl (fun ls hl => ?_)
          have hyb : bS to8 k := Or.inl (by omega)
          replace hl : lv_has ls 4 [(2, .int (nI (cS to8 (k + 1)))), (0, .ref h0), (1, .int p0), (3, .int (nI k))] := by rw [cS_y hyb]; exact hl
          refine lv_iinc (v := nI (k + 1)) (lv' := [(3, .int (nI (k + 1))), (2, .int (nI (cS to8 (k + 1)))), (0, .ref h0), (1, .int p0)]) hx hb dX8_spanAt_46 hl (k := 3) rfl (nI_1 _) (by decide) rfl (fun ls hl => ?_)
          refine lv_goto (tgt := 4) hx hb dX8_spanAt_49 (by decide) ?_
          replace hl : lv_has ls 4 [(0, .ref h0), (1, .int p0), (2, .int (nI (cS to8 (k + 1)))), (3, .int (nI (k + 1)))] := lv_sub hl [2, 3, 1, 0] rfl
          have hk29 : ∀ j, j < (k + 1) → bS to8 j → ¬ nI (cS to8 j) = p0 := lt_s hk2 (fun h9 => c_38)
          apply ih4 (k := k + 1) <;> first | assumption | omega
        · refine lv_iload_n hx hb dX8_spanAt_41 rfl (lv_at hl 3 rfl) ?_
          exact W.iret (v := nI k) hx hb hr (fun t ht hW => ⟨nI k, rfl, ⟨k, rfl, by exact ⟨hk1, Or.inl ⟨n_9, Or.inl (by omega), c_38⟩⟩⟩, ht⟩) (fun _ h => absurd h List.not_mem_nil) dX8_spanAt_42
      · have n_13 : 0 < k := Nat.not_le.mp (fun h9 => c_13 ((nI_leI (a := k) (b := 0) (by omega) (by omega)).mpr h9))
        refine lv_aload_n hx hb dX8_spanAt_16 rfl (lv_at hl 0 rfl) ?_
        refine va_get (D := (dC, dI)) (ci := 8) (v := .ref m34) (C := RX8) (T := TX8) (N := 38) hx hb hts hi_X8 hown hK hP 0 rfl rfl 34 (by decide) k_f88 (fun _ h9 => h9) rfl dX8_spanAt_17 ?_
        refine lv_iload_n hx hb dX8_spanAt_20 rfl (lv_at hl 3 rfl) ?_
        refine va_bald hx hb hK hP 1 0 rfl rfl (i := nI k) (vp_in_nI (by omega) (by omega)) dX8_spanAt_21 ?_
        refine lv_topi (fun x_21 ex_21 => ?_)
        obtain rfl : to8 k = x_21 := Eq.symm (ex_21.trans (fR_at (by omega)))
        refine lv_aload_n hx hb dX8_spanAt_22 rfl (lv_at hl 0 rfl) ?_
        refine va_get (D := (dC, dI)) (ci := 8) (v := .ref m34) (C := RX8) (T := TX8) (N := 38) hx hb hts hi_X8 hown hK hP 0 rfl rfl 34 (by decide) k_f88 (fun _ h9 => h9) rfl dX8_spanAt_23 ?_
        refine lv_iload_n hx hb dX8_spanAt_26 rfl (lv_at hl 3 rfl) ?_
        refine lv_iconst (v := 1) hx hb dX8_spanAt_27 (by decide) ?_
        refine lv_isub hx hb dX8_spanAt_28 ?_
        refine lv_topi (fun x_28 ex_28 => ?_)
        obtain rfl : nI (k - 1) = x_28 := Eq.symm (ex_28.trans (pk_sub (a := k) (b := 1) (by omega)))
        refine va_bald hx hb hK hP 1 0 rfl rfl (i := nI (k - 1)) (vp_in_nI (by omega) (by omega)) dX8_spanAt_29 ?_
        refine lv_topi (fun x_29 ex_29 => ?_)
        obtain rfl : to8 (k - 1) = x_29 := Eq.symm (ex_29.trans (fR_at (by omega)))
        refine lv_icmp_ne (tgt := 36) hx hb dX8_spanAt_30 (by decide) (fun c_30 => ?_) (fun c_30 => ?_)
        · refine lv_iload_n hx hb dX8_spanAt_36 rfl (lv_at hl 2 rfl) ?_
          refine lv_iload_n hx hb dX8_spanAt_37 rfl (lv_at hl 1 rfl) ?_
          refine lv_icmp_ne (tgt := 43) hx hb dX8_spanAt_38 (by decide) (fun c_38 => ?_) (fun c_38 => ?_)
          · refine lv_iinc (v := nI (cS to8 k + 1)) (lv' := [(2, .int (nI (cS to8 k + 1))), (0, .ref h0), (1, .int p0), (3, .int (nI k))]) hx hb dX8_spanAt_43 hl (k := 2) rfl (nI_1 _) (by decide) rfl (fun ls hl => ?_)
            have hyb : bS to8 k := Or.inr c_30
            replace hl : lv_has ls 4 [(2, .int (nI (cS to8 (k + 1)))), (0, .ref h0), (1, .int p0), (3, .int (nI k))] := by rw [cS_y hyb]; exact hl
            refine lv_iinc (v := nI (k + 1)) (lv' := [(3, .int (nI (k + 1))), (2, .int (nI (cS to8 (k + 1)))), (0, .ref h0), (1, .int p0)]) hx hb dX8_spanAt_46 hl (k := 3) rfl (nI_1 _) (by decide) rfl (fun ls hl => ?_)
            refine lv_goto (tgt := 4) hx hb dX8_spanAt_49 (by decide) ?_
            replace hl : lv_has ls 4 [(0, .ref h0), (1, .int p0), (2, .int (nI (cS to8 (k + 1)))), (3, .int (nI (k + 1)))] := lv_sub hl [2, 3, 1, 0] rfl
            have hk29 : ∀ j, j < (k + 1) → bS to8 j → ¬ nI (cS to8 j) = p0 := lt_s hk2 (fun h9 => c_38)
            apply ih4 (k := k + 1) <;> first | assumption | omega
          · refine lv_iload_n hx hb dX8_spanAt_41 rfl (lv_at hl 3 rfl) ?_
            exact W.iret (v := nI k) hx hb hr (fun t ht hW => ⟨nI k, rfl, ⟨k, rfl, by exact ⟨hk1, Or.inl ⟨n_9, Or.inr c_30, c_38⟩⟩⟩, ht⟩) (fun _ h => absurd h List.not_mem_nil) dX8_spanAt_42
        · refine lv_goto (tgt := 46) hx hb dX8_spanAt_33 (by decide) ?_
          have hnb : ¬ bS to8 k := fun h9 => h9.elim (fun h8 => by omega) (fun h8 => h8 c_30)
          replace hl : lv_has ls 4 [(0, .ref h0), (1, .int p0), (2, .int (nI (cS to8 (k + 1)))), (3, .int (nI k))] := by rw [cS_n hnb]; exact hl
          refine lv_iinc (v := nI (k + 1)) (lv' := [(3, .int (nI (k + 1))), (0, .ref h0), (1, .int p0), (2, .int (nI (cS to8 (k + 1))))]) hx hb dX8_spanAt_46 hl (k := 3) rfl (nI_1 _) (by decide) rfl (fun ls hl => ?_)
          refine lv_goto (tgt := 4) hx hb dX8_spanAt_49 (by decide) ?_
          replace hl : lv_has ls 4 [(0, .ref h0), (1, .int p0), (2, .int (nI (cS to8 (k + 1)))), (3, .int (nI (k + 1)))] := lv_sub hl [1, 2, 3, 0] rfl
          have hk29 : ∀ j, j < (k + 1) → bS to8 j → ¬ nI (cS to8 j) = p0 := lt_s hk2 (fun h9 => absurd h9 hnb)
          apply ih4 (k := k + 1) <;> first | assumption | omega

set_option maxHeartbeats 4000000 in
set_option maxRecDepth 100000 in
theorem g_X8_spans (l : Launch) (dC : Nat → ClassId) (dI : Nat → Nat → Nat) (h0 : Nat) (x0 : Int32) (x1 : Int32) (m2 : Nat) (c3 : Nat) (m4 : Nat) (m5 : Nat) (m6 : Nat) (m7 : Nat) (m8 : Nat) (m9 : Nat) (m10 : Nat) (m11 : Nat) (c12 : Nat) (c13 : Nat) (c14 : Nat) (m15 : Nat) (m16 : Nat) (m17 : Nat) (m18 : Nat) (m19 : Nat) (c20 : Nat) (x21 : Int32) (c22 : Nat) (c23 : Nat) (m24 : Nat) (m25 : Nat) (c26 : Nat) (c27 : Nat) (x28 : Int32) (m29 : Nat) (m30 : Nat) (m31 : Nat) (m32 : Nat) (m33 : Nat) (m34 : Nat) (x35 : Int32) (m36 : Nat) (c37 : Nat) (kto : ClassId) (to8 : Nat → Int32) (sz : Nat) (hTM : x35 = (-1) ∨ ∃ tm, tm ≤ 60 ∧ x35 = nI tm) : Met l yX8_spans wsX8_spans ({ frames := 1, cells := 0, slots := 0, locals := 23 }) (va_Pc [.ref h0] (fun U => U.heap.size = sz ∧ va_P (dC, dI) vwCl [(h0, .inr (8, [.int x0, .int x1, .ref m2, .int (nI c3), .ref m4, .ref m5, .ref m6, .ref m7, .ref m8, .ref m9, .ref m10, .ref m11, .int (nI c12), .int (nI c13), .int (nI c14), .ref m15, .ref m16, .ref m17, .ref m18, .ref m19, .int (nI c20), .int x21, .int (nI c22), .int (nI c23), .ref m24, .ref m25, .int (nI c26), .int (nI c27), .int x28, .ref m29, .ref m30, .ref m31, .ref m32, .ref m33, .ref m34, .int x35, .ref m36, .int (nI c37)])), (m34, .inl (kto, 60, .inl to8))] U.heap ∧ va_K (dC, dI) vwCl [(kto, .byte)] U ∧ va_D (fun _ => True) [(h0, .inr (8, [.int x0, .int x1, .ref m2, .int (nI c3), .ref m4, .ref m5, .ref m6, .ref m7, .ref m8, .ref m9, .ref m10, .ref m11, .int (nI c12), .int (nI c13), .int (nI c14), .ref m15, .ref m16, .ref m17, .ref m18, .ref m19, .int (nI c20), .int x21, .int (nI c22), .int (nI c23), .ref m24, .ref m25, .int (nI c26), .int (nI c27), .int x28, .ref m29, .ref m30, .ref m31, .ref m32, .ref m33, .ref m34, .int x35, .ref m36, .int (nI c37)])), (m34, .inl (kto, 60, .inl to8))])) (va_Qi (fun (r : Int32) (_ : Unit) => ((x35 = (-1) ∧ r = (-1)) ∨ (∃ tm, tm ≤ 60 ∧ x35 = nI tm ∧ r = nI (cS to8 tm)))) (fun (_ : Unit) (t : State) => va_P (dC, dI) vwCl [(h0, .inr (8, [.int 0, .int x1, .ref m2, .int (nI c3), .ref m4, .ref m5, .ref m6, .ref m7, .ref m8, .ref m9, .ref m10, .ref m11, .int (nI c12), .int (nI c13), .int (nI c14), .ref m15, .ref m16, .ref m17, .ref m18, .ref m19, .int (nI c20), .int x21, .int (nI c22), .int (nI c23), .ref m24, .ref m25, .int (nI c26), .int (nI c27), .int x28, .ref m29, .ref m30, .ref m31, .ref m32, .ref m33, .ref m34, .int x35, .ref m36, .int (nI c37)])), (m34, .inl (kto, 60, .inl to8))] t.heap ∧ va_D (va_A [(h0, .inr (8, [.int x0, .int x1, .ref m2, .int (nI c3), .ref m4, .ref m5, .ref m6, .ref m7, .ref m8, .ref m9, .ref m10, .ref m11, .int (nI c12), .int (nI c13), .int (nI c14), .ref m15, .ref m16, .ref m17, .ref m18, .ref m19, .int (nI c20), .int x21, .int (nI c22), .int (nI c23), .ref m24, .ref m25, .int (nI c26), .int (nI c27), .int x28, .ref m29, .ref m30, .ref m31, .ref m32, .ref m33, .ref m34, .int x35, .ref m36, .int (nI c37)])), (m34, .inl (kto, 60, .inl to8))] sz) [(h0, .inr (8, [.int 0, .int x1, .ref m2, .int (nI c3), .ref m4, .ref m5, .ref m6, .ref m7, .ref m8, .ref m9, .ref m10, .ref m11, .int (nI c12), .int (nI c13), .int (nI c14), .ref m15, .ref m16, .ref m17, .ref m18, .ref m19, .int (nI c20), .int x21, .int (nI c22), .int (nI c23), .ref m24, .ref m25, .int (nI c26), .int (nI c27), .int x28, .ref m29, .ref m30, .ref m31, .ref m32, .ref m33, .ref m34, .int x35, .ref m36, .int (nI c37)])), (m34, .inl (kto, 60, .inl to8))]) (va_A [(h0, .inr (8, [.int x0, .int x1, .ref m2, .int (nI c3), .ref m4, .ref m5, .ref m6, .ref m7, .ref m8, .ref m9, .ref m10, .ref m11, .int (nI c12), .int (nI c13), .int (nI c14), .ref m15, .ref m16, .ref m17, .ref m18, .ref m19, .int (nI c20), .int x21, .int (nI c22), .int (nI c23), .ref m24, .ref m25, .int (nI c26), .int (nI c27), .int x28, .ref m29, .ref m30, .ref m31, .ref m32, .ref m33, .ref m34, .int x35, .ref m36, .int (nI c37)])), (m34, .inl (kto, 60, .inl to8))] sz)) 0 0 (va_A [(h0, .inr (8, [.int x0, .int x1, .ref m2, .int (nI c3), .ref m4, .ref m5, .ref m6, .ref m7, .ref m8, .ref m9, .ref m10, .ref m11, .int (nI c12), .int (nI c13), .int (nI c14), .ref m15, .ref m16, .ref m17, .ref m18, .ref m19, .int (nI c20), .int x21, .int (nI c22), .int (nI c23), .ref m24, .ref m25, .int (nI c26), .int (nI c27), .int x28, .ref m29, .ref m30, .ref m31, .ref m32, .ref m33, .ref m34, .int x35, .ref m36, .int (nI c37)])), (m34, .inl (kto, 60, .inl to8))] sz) := by
  refine Met.ofW (cc := cX8_spans) (maxL := 2) (ret := (some .int)) (by decide) rfl ?_
  intro p e s m args below meth c s₁ B hml hv
  obtain ⟨rfl, hsz, hP, hK, hD0⟩ := hv
  have hx := B.exec
  have hb := B.bytes
  have hr := B.returns
  have hts := atoms_spec (ws := wsX8_spans) B.pre
  have hown : s.vm.findClass RX8 = some m.cls := findClass_of_methodNamed B.named
  have hlocks := B.notSynchronized
  subst hsz
  have hD := hD0.self (sz := s.heap.size)
  clear hD0
  generalize hAe : va_A [(h0, .inr (8, [.int x0, .int x1, .ref m2, .int (nI c3), .ref m4, .ref m5, .ref m6, .ref m7, .ref m8, .ref m9, .ref m10, .ref m11, .int (nI c12), .int (nI c13), .int (nI c14), .ref m15, .ref m16, .ref m17, .ref m18, .ref m19, .int (nI c20), .int x21, .int (nI c22), .int (nI c23), .ref m24, .ref m25, .int (nI c26), .int (nI c27), .int x28, .ref m29, .ref m30, .ref m31, .ref m32, .ref m33, .ref m34, .int x35, .ref m36, .int (nI c37)])), (m34, .inl (kto, 60, .inl to8))] s.heap.size = A at hD ⊢
  have hA : ∀ q : Nat, s.heap.size ≤ q → A q := fun q h => by rw [← hAe]; exact Or.inr h
  clear hAe
  have hS : va_S A s.heap s.heap [] := va_S.rf
  replace hP : va_P (dC, dI) vwCl [(h0, .inr (8, [.int x0, .int x1, .ref m2, .int (nI c3), .ref m4, .ref m5, .ref m6, .ref m7, .ref m8, .ref m9, .ref m10, .ref m11, .int (nI c12), .int (nI c13), .int (nI c14), .ref m15, .ref m16, .ref m17, .ref m18, .ref m19, .int (nI c20), .int x21, .int (nI c22), .int (nI c23), .ref m24, .ref m25, .int (nI c26), .int (nI c27), .int x28, .ref m29, .ref m30, .ref m31, .ref m32, .ref m33, .ref m34, .int x35, .ref m36, .int (nI c37)])), (m34, .inl (kto, 60, .inl to8))] s.heap := hP
  have hl := lv_entry ([.ref h0]) (n := 2) (Nat.le_of_ble_eq_true rfl)
  rw [lg_entry_eq]
  generalize (lg_sl ([.ref h0]) ++ List.replicate (2 - (lg_sl ([.ref h0])).length) Slot.unset).toArray = ls at hl ⊢
  replace hl : lv_has ls 2 [(0, .ref h0)] := hl
  have hi_X8 : ∀ w ∈ wsX80, w ∈ wsX8_spans := by decide +kernel
  have k_f97 := hts (.fieldLink RX8 97 "TongueTellerModel" "thrown" "I") (by decide +kernel)
  have k_f91 := hts (.fieldLink RX8 91 "TongueTellerModel" "toldMany" "I") (by decide +kernel)
  rcases hTM with eT | ⟨tm, hTm, eT⟩
  · subst eT
    refine lv_aload_n hx hb dX8_spans_0 rfl (lv_at hl 0 rfl) ?_
    refine lv_iconst (v := 0) hx hb dX8_spans_1 (by decide) ?_
    refine va_put (D := (dC, dI)) (ci := 8) (v := .int 0) (ty := .int) (C := RX8) (T := TX8) (N := 38) hx hb hts hi_X8 tyX8 tyX8_ok nmX8 hown hK hP hD hS 0 rfl rfl 0 (by decide) k_f97 (fun _ h9 => h9) rfl (by decide +kernel) rfl rfl (Nat.le_of_ble_eq_true rfl) dX8_spans_2 (fun H locs hP hD hS => ?_)
    replace hP : va_P (dC, dI) vwCl [(h0, .inr (8, [.int 0, .int x1, .ref m2, .int (nI c3), .ref m4, .ref m5, .ref m6, .ref m7, .ref m8, .ref m9, .ref m10, .ref m11, .int (nI c12), .int (nI c13), .int (nI c14), .ref m15, .ref m16, .ref m17, .ref m18, .ref m19, .int (nI c20), .int x21, .int (nI c22), .int (nI c23), .ref m24, .ref m25, .int (nI c26), .int (nI c27), .int x28, .ref m29, .ref m30, .ref m31, .ref m32, .ref m33, .ref m34, .int (-1), .ref m36, .int (nI c37)])), (m34, .inl (kto, 60, .inl to8))] H := hP
    replace hD : va_D A [(h0, .inr (8, [.int 0, .int x1, .ref m2, .int (nI c3), .ref m4, .ref m5, .ref m6, .ref m7, .ref m8, .ref m9, .ref m10, .ref m11, .int (nI c12), .int (nI c13), .int (nI c14), .ref m15, .ref m16, .ref m17, .ref m18, .ref m19, .int (nI c20), .int x21, .int (nI c22), .int (nI c23), .ref m24, .ref m25, .int (nI c26), .int (nI c27), .int x28, .ref m29, .ref m30, .ref m31, .ref m32, .ref m33, .ref m34, .int (-1), .ref m36, .int (nI c37)])), (m34, .inl (kto, 60, .inl to8))] := hD
    refine lv_aload_n hx hb dX8_spans_5 rfl (lv_at hl 0 rfl) ?_
    refine va_get (D := (dC, dI)) (ci := 8) (v := .int (-1)) (C := RX8) (T := TX8) (N := 38) hx hb hts hi_X8 hown hK hP 0 rfl rfl 35 (by decide) k_f91 (fun _ h9 => h9) rfl dX8_spans_6 ?_
    refine lv_iconst (v := (-1)) hx hb dX8_spans_9 (by decide) ?_
    refine lv_icmp_ne (tgt := 15) hx hb dX8_spans_10 (by decide) (fun c_10 => ?_) (fun c_10 => ?_)
    · exact absurd (by decide) c_10
    refine lv_iconst (v := (-1)) hx hb dX8_spans_13 (by decide) ?_
    have hP9 := hP.sub (ws' := [(h0, .inr (8, [.int 0, .int x1, .ref m2, .int (nI c3), .ref m4, .ref m5, .ref m6, .ref m7, .ref m8, .ref m9, .ref m10, .ref m11, .int (nI c12), .int (nI c13), .int (nI c14), .ref m15, .ref m16, .ref m17, .ref m18, .ref m19, .int (nI c20), .int x21, .int (nI c22), .int (nI c23), .ref m24, .ref m25, .int (nI c26), .int (nI c27), .int x28, .ref m29, .ref m30, .ref m31, .ref m32, .ref m33, .ref m34, .int (-1), .ref m36, .int (nI c37)])), (m34, .inl (kto, 60, .inl to8))]) [0, 1] rfl
    have hD9 := hD.sub (ws' := [(h0, .inr (8, [.int 0, .int x1, .ref m2, .int (nI c3), .ref m4, .ref m5, .ref m6, .ref m7, .ref m8, .ref m9, .ref m10, .ref m11, .int (nI c12), .int (nI c13), .int (nI c14), .ref m15, .ref m16, .ref m17, .ref m18, .ref m19, .int (nI c20), .int x21, .int (nI c22), .int (nI c23), .ref m24, .ref m25, .int (nI c26), .int (nI c27), .int x28, .ref m29, .ref m30, .ref m31, .ref m32, .ref m33, .ref m34, .int (-1), .ref m36, .int (nI c37)])), (m34, .inl (kto, 60, .inl to8))]) [0, 1] (by decide) rfl
    exact W.iret (v := (-1)) hx hb hr (fun t ht hW => ⟨⟨(-1), (), rfl, by exact Or.inl ⟨rfl, rfl⟩, by rw [ht]; exact hP9, hD9⟩, hS.F ht⟩) hS.2.2 dX8_spans_14
  · subst eT
    refine lv_aload_n hx hb dX8_spans_0 rfl (lv_at hl 0 rfl) ?_
    refine lv_iconst (v := 0) hx hb dX8_spans_1 (by decide) ?_
    refine va_put (D := (dC, dI)) (ci := 8) (v := .int 0) (ty := .int) (C := RX8) (T := TX8) (N := 38) hx hb hts hi_X8 tyX8 tyX8_ok nmX8 hown hK hP hD hS 0 rfl rfl 0 (by decide) k_f97 (fun _ h9 => h9) rfl (by decide +kernel) rfl rfl (Nat.le_of_ble_eq_true rfl) dX8_spans_2 (fun H locs hP hD hS => ?_)
    replace hP : va_P (dC, dI) vwCl [(h0, .inr (8, [.int 0, .int x1, .ref m2, .int (nI c3), .ref m4, .ref m5, .ref m6, .ref m7, .ref m8, .ref m9, .ref m10, .ref m11, .int (nI c12), .int (nI c13), .int (nI c14), .ref m15, .ref m16, .ref m17, .ref m18, .ref m19, .int (nI c20), .int x21, .int (nI c22), .int (nI c23), .ref m24, .ref m25, .int (nI c26), .int (nI c27), .int x28, .ref m29, .ref m30, .ref m31, .ref m32, .ref m33, .ref m34, .int (nI tm), .ref m36, .int (nI c37)])), (m34, .inl (kto, 60, .inl to8))] H := hP
    replace hD : va_D A [(h0, .inr (8, [.int 0, .int x1, .ref m2, .int (nI c3), .ref m4, .ref m5, .ref m6, .ref m7, .ref m8, .ref m9, .ref m10, .ref m11, .int (nI c12), .int (nI c13), .int (nI c14), .ref m15, .ref m16, .ref m17, .ref m18, .ref m19, .int (nI c20), .int x21, .int (nI c22), .int (nI c23), .ref m24, .ref m25, .int (nI c26), .int (nI c27), .int x28, .ref m29, .ref m30, .ref m31, .ref m32, .ref m33, .ref m34, .int (nI tm), .ref m36, .int (nI c37)])), (m34, .inl (kto, 60, .inl to8))] := hD
    refine lv_aload_n hx hb dX8_spans_5 rfl (lv_at hl 0 rfl) ?_
    refine va_get (D := (dC, dI)) (ci := 8) (v := .int (nI tm)) (C := RX8) (T := TX8) (N := 38) hx hb hts hi_X8 hown hK hP 0 rfl rfl 35 (by decide) k_f91 (fun _ h9 => h9) rfl dX8_spans_6 ?_
    refine lv_iconst (v := (-1)) hx hb dX8_spans_9 (by decide) ?_
    refine lv_icmp_ne (tgt := 15) hx hb dX8_spans_10 (by decide) (fun c_10 => ?_) (fun c_10 => ?_)
    rotate_left
    · exact absurd c_10 (nI_nm1 (by omega))
    refine lv_iconst (v := 0) hx hb dX8_spans_15 (by decide) ?_
    refine lv_istore_n (lv' := [(1, .int 0), (0, .ref h0)]) hx hb dX8_spans_16 rfl hl (by decide) rfl (fun ls hl => ?_)
    obtain ⟨n2, e_n2⟩ : ∃ y : Nat, y = 0 := ⟨_, rfl⟩
    replace hl : lv_has ls 2 [(0, .ref h0), (1, .int (nI n2))] := by (try rewrite [e_n2]); exact lv_sub hl [1, 0] rfl
    have hn1 : n2 ≤ cS to8 tm := by (try rewrite [e_n2]); exact Nat.zero_le _
    clear e_n2
    obtain ⟨nn17, hnn17⟩ : ∃ q : Nat, 61 - n2 < q := ⟨_, Nat.lt_succ_self _⟩
    induction nn17 generalizing n2 ls with
    | zero => exact absurd hnn17 (Nat.not_lt_zero _)
    | succ nn17 ih17 =>
      refine lv_aload_n hx hb dX8_spans_17 rfl (lv_at hl 0 rfl) ?_
      refine lv_iload_n hx hb dX8_spans_18 rfl (lv_at hl 1 rfl) ?_
      have hPc := hP.sub (ws' := [(h0, .inr (8, [.int 0, .int x1, .ref m2, .int (nI c3), .ref m4, .ref m5, .ref m6, .ref m7, .ref m8, .ref m9, .ref m10, .ref m11, .int (nI c12), .int (nI c13), .int (nI c14), .ref m15, .ref m16, .ref m17, .ref m18, .ref m19, .int (nI c20), .int x21, .int (nI c22), .int (nI c23), .ref m24, .ref m25, .int (nI c26), .int (nI c27), .int x28, .ref m29, .ref m30, .ref m31, .ref m32, .ref m33, .ref m34, .int (nI tm), .ref m36, .int (nI c37)])), (m34, .inl (kto, 60, .inl to8))]) [0, 1] rfl
      have hKc := hK.sub (tys' := [(kto, .byte)]) [0] rfl
      refine vp_callSi (W.runV (As := [.int (nI n2)]) (rest := []) ⟨hx, hb, hml, hown, hts⟩ (g_X8_spanAt l dC dI h0 0 x1 m2 c3 m4 m5 m6 m7 m8 m9 m10 m11 c12 c13 c14 m15 m16 m17 m18 m19 c20 x21 c22 c23 m24 m25 c26 c27 x28 m29 m30 m31 m32 m33 m34 m36 c37 tm kto to8 (nI n2) (by omega)) (cwV 1 hts gX8_spans_X8_spanAt rfl rfl rfl (by decide +kernel) ⟨Nat.le_of_ble_eq_true rfl, Nat.le_of_ble_eq_true rfl⟩) ⟨fun a U g mk q => by obtain ⟨q0, qP, qK⟩ := q; exact ⟨q0, qP, va_K.moved (u := U) (U := U.calling g mk a) (Vm.Alike.refl U.vm) qK⟩, va_recv hK hP (ci := 8) (q0 := 0) rfl rfl, fun U hU hW => ⟨rfl, by rw [hU]; exact hPc, va_K.moved hW.alike hKc⟩⟩ rfl rfl hl.1 rfl (lv_room (Nat.le_of_ble_eq_true rfl)) dX8_spans_19 ⟨Nat.le_of_ble_eq_true rfl, Nat.le_of_ble_eq_true rfl⟩) (fun r_19 hw_19 => ?_)
      clear hPc
      obtain ⟨so_19, hr_19, hso_19⟩ := hw_19
      obtain rfl : nI so_19 = r_19 := Eq.symm hr_19
      have hcs := cS_le to8 tm
      have hsa := hso_19.1
      refine lv_aload_n hx hb dX8_spans_22 rfl (lv_at hl 0 rfl) ?_
      refine va_get (D := (dC, dI)) (ci := 8) (v := .int (nI tm)) (C := RX8) (T := TX8) (N := 38) hx hb hts hi_X8 hown hK hP 0 rfl rfl 35 (by decide) k_f91 (fun _ h9 => h9) rfl dX8_spans_23 ?_
      refine lv_icmp_ge (tgt := 35) hx hb dX8_spans_26 (by decide) (fun c_26 => ?_) (fun c_26 => ?_)
      · have n_26 : tm ≤ so_19 := (nI_leI (a := tm) (b := so_19) (by omega) (by omega)).mp c_26
        refine lv_iload_n hx hb dX8_spans_35 rfl (lv_at hl 1 rfl) ?_
        have hP9 := hP.sub (ws' := [(h0, .inr (8, [.int 0, .int x1, .ref m2, .int (nI c3), .ref m4, .ref m5, .ref m6, .ref m7, .ref m8, .ref m9, .ref m10, .ref m11, .int (nI c12), .int (nI c13), .int (nI c14), .ref m15, .ref m16, .ref m17, .ref m18, .ref m19, .int (nI c20), .int x21, .int (nI c22), .int (nI c23), .ref m24, .ref m25, .int (nI c26), .int (nI c27), .int x28, .ref m29, .ref m30, .ref m31, .ref m32, .ref m33, .ref m34, .int (nI tm), .ref m36, .int (nI c37)])), (m34, .inl (kto, 60, .inl to8))]) [0, 1] rfl
        have hD9 := hD.sub (ws' := [(h0, .inr (8, [.int 0, .int x1, .ref m2, .int (nI c3), .ref m4, .ref m5, .ref m6, .ref m7, .ref m8, .ref m9, .ref m10, .ref m11, .int (nI c12), .int (nI c13), .int (nI c14), .ref m15, .ref m16, .ref m17, .ref m18, .ref m19, .int (nI c20), .int x21, .int (nI c22), .int (nI c23), .ref m24, .ref m25, .int (nI c26), .int (nI c27), .int x28, .ref m29, .ref m30, .ref m31, .ref m32, .ref m33, .ref m34, .int (nI tm), .ref m36, .int (nI c37)])), (m34, .inl (kto, 60, .inl to8))]) [0, 1] (by decide) rfl
        exact W.iret (v := nI n2) hx hb hr (fun t ht hW => ⟨⟨nI n2, (), rfl, by exact Or.inr ⟨tm, hTm, rfl, by rcases hso_19.2 with ⟨h9, _⟩ | ⟨_, h9⟩; (exfalso; omega); exact congrArg nI (Nat.le_antisymm hn1 (Nat.not_lt.mp fun h8 => by obtain ⟨i, i1, i2, i3⟩ := cS_ex tm n2 h8; exact h9 i i1 i2 (by rw [i3])))⟩, by rw [ht]; exact hP9, hD9⟩, hS.F ht⟩) hS.2.2 dX8_spans_36
      · have n_26 : so_19 < tm := Nat.not_le.mp (fun h9 => c_26 ((nI_leI (a := tm) (b := so_19) (by omega) (by omega)).mpr h9))
        obtain ⟨h1, h2, h3⟩ := hso_19.2.resolve_right (fun h9 => by have := h9.1; omega)
        have hc2 := cS_le to8 so_19
        have en8 := (nI_eq (a := cS to8 so_19) (b := n2) (by omega) (by omega)).mp h3
        have hc3 := cS_lt h2 h1
        have hn9 : n2 + 1 ≤ cS to8 tm := by omega
        refine lv_iinc (v := nI (n2 + 1)) (lv' := [(1, .int (nI (n2 + 1))), (0, .ref h0)]) hx hb dX8_spans_29 hl (k := 1) rfl (nI_1 _) (by decide) rfl (fun ls hl => ?_)
        refine lv_goto (tgt := 17) hx hb dX8_spans_32 (by decide) ?_
        replace hl : lv_has ls 2 [(0, .ref h0), (1, .int (nI (n2 + 1)))] := lv_sub hl [1, 0] rfl
        have hn19 : (n2 + 1) ≤ cS to8 tm := hn9
        apply ih17 (n2 := n2 + 1) <;> first | assumption | omega

set_option maxHeartbeats 4000000 in
set_option maxRecDepth 100000 in
theorem g_X8_span (l : Launch) (dC : Nat → ClassId) (dI : Nat → Nat → Nat) (h0 : Nat) (x0 : Int32) (x1 : Int32) (m2 : Nat) (c3 : Nat) (m4 : Nat) (m5 : Nat) (m6 : Nat) (m7 : Nat) (m8 : Nat) (m9 : Nat) (m10 : Nat) (m11 : Nat) (c12 : Nat) (c13 : Nat) (c14 : Nat) (m15 : Nat) (m16 : Nat) (m17 : Nat) (m18 : Nat) (m19 : Nat) (c20 : Nat) (x21 : Int32) (c22 : Nat) (c23 : Nat) (m24 : Nat) (m25 : Nat) (c26 : Nat) (c27 : Nat) (x28 : Int32) (m29 : Nat) (m30 : Nat) (m31 : Nat) (m32 : Nat) (m33 : Nat) (m34 : Nat) (x35 : Int32) (m36 : Nat) (c37 : Nat) (kto : ClassId) (to8 : Nat → Int32) (p0 : Int32) (p1 : Int32) (sz : Nat) (hTM : x35 = (-1) ∨ ∃ tm, tm ≤ 60 ∧ x35 = nI tm) : Met l yX8_span wsX8_span ({ frames := 1, cells := 0, slots := 0, locals := 23 }) (va_Pc [.ref h0, .int p0, .int p1] (fun U => U.heap.size = sz ∧ va_P (dC, dI) vwCl [(h0, .inr (8, [.int x0, .int x1, .ref m2, .int (nI c3), .ref m4, .ref m5, .ref m6, .ref m7, .ref m8, .ref m9, .ref m10, .ref m11, .int (nI c12), .int (nI c13), .int (nI c14), .ref m15, .ref m16, .ref m17, .ref m18, .ref m19, .int (nI c20), .int x21, .int (nI c22), .int (nI c23), .ref m24, .ref m25, .int (nI c26), .int (nI c27), .int x28, .ref m29, .ref m30, .ref m31, .ref m32, .ref m33, .ref m34, .int x35, .ref m36, .int (nI c37)])), (m34, .inl (kto, 60, .inl to8))] U.heap ∧ va_K (dC, dI) vwCl [(kto, .byte)] U ∧ va_D (fun _ => True) [(h0, .inr (8, [.int x0, .int x1, .ref m2, .int (nI c3), .ref m4, .ref m5, .ref m6, .ref m7, .ref m8, .ref m9, .ref m10, .ref m11, .int (nI c12), .int (nI c13), .int (nI c14), .ref m15, .ref m16, .ref m17, .ref m18, .ref m19, .int (nI c20), .int x21, .int (nI c22), .int (nI c23), .ref m24, .ref m25, .int (nI c26), .int (nI c27), .int x28, .ref m29, .ref m30, .ref m31, .ref m32, .ref m33, .ref m34, .int x35, .ref m36, .int (nI c37)])), (m34, .inl (kto, 60, .inl to8))])) (va_Qi (fun (r : Int32) (_ : Unit) => ((r = (-1) ∧ ∀ tm, tm ≤ 60 → x35 = nI tm → ∀ j, j < tm → bS to8 j → ¬ nI (cS to8 j) = p0) ∨ (∃ tm k, tm ≤ 60 ∧ x35 = nI tm ∧ k < tm ∧ bS to8 k ∧ nI (cS to8 k) = p0 ∧ ((p1 = nI 0 ∧ r = nI k) ∨ (p1 = nI 1 ∧ ∃ e, k + 1 ≤ e ∧ e ≤ tm ∧ (∀ j, k < j → j < e → ¬ bS to8 j) ∧ (e = tm ∨ bS to8 e) ∧ r = nI (e - k)) ∨ (p1 = nI 2 ∧ r = to8 k) ∨ (¬ p1 = nI 0 ∧ ¬ p1 = nI 1 ∧ ¬ p1 = nI 2 ∧ r = (-1)))))) (fun (_ : Unit) (t : State) => va_P (dC, dI) vwCl [(h0, .inr (8, [.int 0, .int x1, .ref m2, .int (nI c3), .ref m4, .ref m5, .ref m6, .ref m7, .ref m8, .ref m9, .ref m10, .ref m11, .int (nI c12), .int (nI c13), .int (nI c14), .ref m15, .ref m16, .ref m17, .ref m18, .ref m19, .int (nI c20), .int x21, .int (nI c22), .int (nI c23), .ref m24, .ref m25, .int (nI c26), .int (nI c27), .int x28, .ref m29, .ref m30, .ref m31, .ref m32, .ref m33, .ref m34, .int x35, .ref m36, .int (nI c37)])), (m34, .inl (kto, 60, .inl to8))] t.heap ∧ va_D (va_A [(h0, .inr (8, [.int x0, .int x1, .ref m2, .int (nI c3), .ref m4, .ref m5, .ref m6, .ref m7, .ref m8, .ref m9, .ref m10, .ref m11, .int (nI c12), .int (nI c13), .int (nI c14), .ref m15, .ref m16, .ref m17, .ref m18, .ref m19, .int (nI c20), .int x21, .int (nI c22), .int (nI c23), .ref m24, .ref m25, .int (nI c26), .int (nI c27), .int x28, .ref m29, .ref m30, .ref m31, .ref m32, .ref m33, .ref m34, .int x35, .ref m36, .int (nI c37)])), (m34, .inl (kto, 60, .inl to8))] sz) [(h0, .inr (8, [.int 0, .int x1, .ref m2, .int (nI c3), .ref m4, .ref m5, .ref m6, .ref m7, .ref m8, .ref m9, .ref m10, .ref m11, .int (nI c12), .int (nI c13), .int (nI c14), .ref m15, .ref m16, .ref m17, .ref m18, .ref m19, .int (nI c20), .int x21, .int (nI c22), .int (nI c23), .ref m24, .ref m25, .int (nI c26), .int (nI c27), .int x28, .ref m29, .ref m30, .ref m31, .ref m32, .ref m33, .ref m34, .int x35, .ref m36, .int (nI c37)])), (m34, .inl (kto, 60, .inl to8))]) (va_A [(h0, .inr (8, [.int x0, .int x1, .ref m2, .int (nI c3), .ref m4, .ref m5, .ref m6, .ref m7, .ref m8, .ref m9, .ref m10, .ref m11, .int (nI c12), .int (nI c13), .int (nI c14), .ref m15, .ref m16, .ref m17, .ref m18, .ref m19, .int (nI c20), .int x21, .int (nI c22), .int (nI c23), .ref m24, .ref m25, .int (nI c26), .int (nI c27), .int x28, .ref m29, .ref m30, .ref m31, .ref m32, .ref m33, .ref m34, .int x35, .ref m36, .int (nI c37)])), (m34, .inl (kto, 60, .inl to8))] sz)) 0 0 (va_A [(h0, .inr (8, [.int x0, .int x1, .ref m2, .int (nI c3), .ref m4, .ref m5, .ref m6, .ref m7, .ref m8, .ref m9, .ref m10, .ref m11, .int (nI c12), .int (nI c13), .int (nI c14), .ref m15, .ref m16, .ref m17, .ref m18, .ref m19, .int (nI c20), .int x21, .int (nI c22), .int (nI c23), .ref m24, .ref m25, .int (nI c26), .int (nI c27), .int x28, .ref m29, .ref m30, .ref m31, .ref m32, .ref m33, .ref m34, .int x35, .ref m36, .int (nI c37)])), (m34, .inl (kto, 60, .inl to8))] sz) := by
  refine Met.ofW (cc := cX8_span) (maxL := 4) (ret := (some .int)) (by decide) rfl ?_
  intro p e s m args below meth c s₁ B hml hv
  obtain ⟨rfl, hsz, hP, hK, hD0⟩ := hv
  have hx := B.exec
  have hb := B.bytes
  have hr := B.returns
  have hts := atoms_spec (ws := wsX8_span) B.pre
  have hown : s.vm.findClass RX8 = some m.cls := findClass_of_methodNamed B.named
  have hlocks := B.notSynchronized
  subst hsz
  have hD := hD0.self (sz := s.heap.size)
  clear hD0
  generalize hAe : va_A [(h0, .inr (8, [.int x0, .int x1, .ref m2, .int (nI c3), .ref m4, .ref m5, .ref m6, .ref m7, .ref m8, .ref m9, .ref m10, .ref m11, .int (nI c12), .int (nI c13), .int (nI c14), .ref m15, .ref m16, .ref m17, .ref m18, .ref m19, .int (nI c20), .int x21, .int (nI c22), .int (nI c23), .ref m24, .ref m25, .int (nI c26), .int (nI c27), .int x28, .ref m29, .ref m30, .ref m31, .ref m32, .ref m33, .ref m34, .int x35, .ref m36, .int (nI c37)])), (m34, .inl (kto, 60, .inl to8))] s.heap.size = A at hD ⊢
  have hA : ∀ q : Nat, s.heap.size ≤ q → A q := fun q h => by rw [← hAe]; exact Or.inr h
  clear hAe
  have hS : va_S A s.heap s.heap [] := va_S.rf
  replace hP : va_P (dC, dI) vwCl [(h0, .inr (8, [.int x0, .int x1, .ref m2, .int (nI c3), .ref m4, .ref m5, .ref m6, .ref m7, .ref m8, .ref m9, .ref m10, .ref m11, .int (nI c12), .int (nI c13), .int (nI c14), .ref m15, .ref m16, .ref m17, .ref m18, .ref m19, .int (nI c20), .int x21, .int (nI c22), .int (nI c23), .ref m24, .ref m25, .int (nI c26), .int (nI c27), .int x28, .ref m29, .ref m30, .ref m31, .ref m32, .ref m33, .ref m34, .int x35, .ref m36, .int (nI c37)])), (m34, .inl (kto, 60, .inl to8))] s.heap := hP
  have hl := lv_entry ([.ref h0, .int p0, .int p1]) (n := 4) (Nat.le_of_ble_eq_true rfl)
  rw [lg_entry_eq]
  generalize (lg_sl ([.ref h0, .int p0, .int p1]) ++ List.replicate (4 - (lg_sl ([.ref h0, .int p0, .int p1])).length) Slot.unset).toArray = ls at hl ⊢
  replace hl : lv_has ls 4 [(0, .ref h0), (1, .int p0), (2, .int p1)] := hl
  have hi_X8 : ∀ w ∈ wsX80, w ∈ wsX8_span := by decide +kernel
  have k_f97 := hts (.fieldLink RX8 97 "TongueTellerModel" "thrown" "I") (by decide +kernel)
  have k_f91 := hts (.fieldLink RX8 91 "TongueTellerModel" "toldMany" "I") (by decide +kernel)
  have k_f88 := hts (.fieldLink RX8 88 "TongueTellerModel" "told" "[B") (by decide +kernel)
  rcases hTM with eT | ⟨tm, hTm, eT⟩
  · subst eT
    refine lv_aload_n hx hb dX8_span_0 rfl (lv_at hl 0 rfl) ?_
    refine lv_iconst (v := 0) hx hb dX8_span_1 (by decide) ?_
    refine va_put (D := (dC, dI)) (ci := 8) (v := .int 0) (ty := .int) (C := RX8) (T := TX8) (N := 38) hx hb hts hi_X8 tyX8 tyX8_ok nmX8 hown hK hP hD hS 0 rfl rfl 0 (by decide) k_f97 (fun _ h9 => h9) rfl (by decide +kernel) rfl rfl (Nat.le_of_ble_eq_true rfl) dX8_span_2 (fun H locs hP hD hS => ?_)
    replace hP : va_P (dC, dI) vwCl [(h0, .inr (8, [.int 0, .int x1, .ref m2, .int (nI c3), .ref m4, .ref m5, .ref m6, .ref m7, .ref m8, .ref m9, .ref m10, .ref m11, .int (nI c12), .int (nI c13), .int (nI c14), .ref m15, .ref m16, .ref m17, .ref m18, .ref m19, .int (nI c20), .int x21, .int (nI c22), .int (nI c23), .ref m24, .ref m25, .int (nI c26), .int (nI c27), .int x28, .ref m29, .ref m30, .ref m31, .ref m32, .ref m33, .ref m34, .int (-1), .ref m36, .int (nI c37)])), (m34, .inl (kto, 60, .inl to8))] H := hP
    replace hD : va_D A [(h0, .inr (8, [.int 0, .int x1, .ref m2, .int (nI c3), .ref m4, .ref m5, .ref m6, .ref m7, .ref m8, .ref m9, .ref m10, .ref m11, .int (nI c12), .int (nI c13), .int (nI c14), .ref m15, .ref m16, .ref m17, .ref m18, .ref m19, .int (nI c20), .int x21, .int (nI c22), .int (nI c23), .ref m24, .ref m25, .int (nI c26), .int (nI c27), .int x28, .ref m29, .ref m30, .ref m31, .ref m32, .ref m33, .ref m34, .int (-1), .ref m36, .int (nI c37)])), (m34, .inl (kto, 60, .inl to8))] := hD
    refine lv_iload_n hx hb dX8_span_5 rfl (lv_at hl 1 rfl) ?_
    refine lv_if_lt (tgt := 29) hx hb dX8_span_6 (by decide) (fun c_6 => ?_) (fun c_6 => ?_)
    · refine lv_iconst (v := (-1)) hx hb dX8_span_29 (by decide) ?_
      have hP9 := hP.sub (ws' := [(h0, .inr (8, [.int 0, .int x1, .ref m2, .int (nI c3), .ref m4, .ref m5, .ref m6, .ref m7, .ref m8, .ref m9, .ref m10, .ref m11, .int (nI c12), .int (nI c13), .int (nI c14), .ref m15, .ref m16, .ref m17, .ref m18, .ref m19, .int (nI c20), .int x21, .int (nI c22), .int (nI c23), .ref m24, .ref m25, .int (nI c26), .int (nI c27), .int x28, .ref m29, .ref m30, .ref m31, .ref m32, .ref m33, .ref m34, .int (-1), .ref m36, .int (nI c37)])), (m34, .inl (kto, 60, .inl to8))]) [0, 1] rfl
      have hD9 := hD.sub (ws' := [(h0, .inr (8, [.int 0, .int x1, .ref m2, .int (nI c3), .ref m4, .ref m5, .ref m6, .ref m7, .ref m8, .ref m9, .ref m10, .ref m11, .int (nI c12), .int (nI c13), .int (nI c14), .ref m15, .ref m16, .ref m17, .ref m18, .ref m19, .int (nI c20), .int x21, .int (nI c22), .int (nI c23), .ref m24, .ref m25, .int (nI c26), .int (nI c27), .int x28, .ref m29, .ref m30, .ref m31, .ref m32, .ref m33, .ref m34, .int (-1), .ref m36, .int (nI c37)])), (m34, .inl (kto, 60, .inl to8))]) [0, 1] (by decide) rfl
      exact W.iret (v := (-1)) hx hb hr (fun t ht hW => ⟨⟨(-1), (), rfl, by exact Or.inl ⟨rfl, fun tm h1 h2 => absurd h2.symm (nI_nm1 (by omega))⟩, by rw [ht]; exact hP9, hD9⟩, hS.F ht⟩) hS.2.2 dX8_span_30
    · refine lv_aload_n hx hb dX8_span_9 rfl (lv_at hl 0 rfl) ?_
      refine va_get (D := (dC, dI)) (ci := 8) (v := .int (-1)) (C := RX8) (T := TX8) (N := 38) hx hb hts hi_X8 hown hK hP 0 rfl rfl 35 (by decide) k_f91 (fun _ h9 => h9) rfl dX8_span_10 ?_
      refine lv_iconst (v := (-1)) hx hb dX8_span_13 (by decide) ?_
      refine lv_icmp_eq (tgt := 29) hx hb dX8_span_14 (by decide) (fun c_14 => ?_) (fun c_14 => ?_)
      rotate_left
      · exact absurd (by decide) c_14
      refine lv_iconst (v := (-1)) hx hb dX8_span_29 (by decide) ?_
      have hP9 := hP.sub (ws' := [(h0, .inr (8, [.int 0, .int x1, .ref m2, .int (nI c3), .ref m4, .ref m5, .ref m6, .ref m7, .ref m8, .ref m9, .ref m10, .ref m11, .int (nI c12), .int (nI c13), .int (nI c14), .ref m15, .ref m16, .ref m17, .ref m18, .ref m19, .int (nI c20), .int x21, .int (nI c22), .int (nI c23), .ref m24, .ref m25, .int (nI c26), .int (nI c27), .int x28, .ref m29, .ref m30, .ref m31, .ref m32, .ref m33, .ref m34, .int (-1), .ref m36, .int (nI c37)])), (m34, .inl (kto, 60, .inl to8))]) [0, 1] rfl
      have hD9 := hD.sub (ws' := [(h0, .inr (8, [.int 0, .int x1, .ref m2, .int (nI c3), .ref m4, .ref m5, .ref m6, .ref m7, .ref m8, .ref m9, .ref m10, .ref m11, .int (nI c12), .int (nI c13), .int (nI c14), .ref m15, .ref m16, .ref m17, .ref m18, .ref m19, .int (nI c20), .int x21, .int (nI c22), .int (nI c23), .ref m24, .ref m25, .int (nI c26), .int (nI c27), .int x28, .ref m29, .ref m30, .ref m31, .ref m32, .ref m33, .ref m34, .int (-1), .ref m36, .int (nI c37)])), (m34, .inl (kto, 60, .inl to8))]) [0, 1] (by decide) rfl
      exact W.iret (v := (-1)) hx hb hr (fun t ht hW => ⟨⟨(-1), (), rfl, by exact Or.inl ⟨rfl, fun tm h1 h2 => absurd h2.symm (nI_nm1 (by omega))⟩, by rw [ht]; exact hP9, hD9⟩, hS.F ht⟩) hS.2.2 dX8_span_30
  · subst eT
    refine lv_aload_n hx hb dX8_span_0 rfl (lv_at hl 0 rfl) ?_
    refine lv_iconst (v := 0) hx hb dX8_span_1 (by decide) ?_
    refine va_put (D := (dC, dI)) (ci := 8) (v := .int 0) (ty := .int) (C := RX8) (T := TX8) (N := 38) hx hb hts hi_X8 tyX8 tyX8_ok nmX8 hown hK hP hD hS 0 rfl rfl 0 (by decide) k_f97 (fun _ h9 => h9) rfl (by decide +kernel) rfl rfl (Nat.le_of_ble_eq_true rfl) dX8_span_2 (fun H locs hP hD hS => ?_)
    replace hP : va_P (dC, dI) vwCl [(h0, .inr (8, [.int 0, .int x1, .ref m2, .int (nI c3), .ref m4, .ref m5, .ref m6, .ref m7, .ref m8, .ref m9, .ref m10, .ref m11, .int (nI c12), .int (nI c13), .int (nI c14), .ref m15, .ref m16, .ref m17, .ref m18, .ref m19, .int (nI c20), .int x21, .int (nI c22), .int (nI c23), .ref m24, .ref m25, .int (nI c26), .int (nI c27), .int x28, .ref m29, .ref m30, .ref m31, .ref m32, .ref m33, .ref m34, .int (nI tm), .ref m36, .int (nI c37)])), (m34, .inl (kto, 60, .inl to8))] H := hP
    replace hD : va_D A [(h0, .inr (8, [.int 0, .int x1, .ref m2, .int (nI c3), .ref m4, .ref m5, .ref m6, .ref m7, .ref m8, .ref m9, .ref m10, .ref m11, .int (nI c12), .int (nI c13), .int (nI c14), .ref m15, .ref m16, .ref m17, .ref m18, .ref m19, .int (nI c20), .int x21, .int (nI c22), .int (nI c23), .ref m24, .ref m25, .int (nI c26), .int (nI c27), .int x28, .ref m29, .ref m30, .ref m31, .ref m32, .ref m33, .ref m34, .int (nI tm), .ref m36, .int (nI c37)])), (m34, .inl (kto, 60, .inl to8))] := hD
    refine lv_iload_n hx hb dX8_span_5 rfl (lv_at hl 1 rfl) ?_
    refine lv_if_lt (tgt := 29) hx hb dX8_span_6 (by decide) (fun c_6 => ?_) (fun c_6 => ?_)
    · refine lv_iconst (v := (-1)) hx hb dX8_span_29 (by decide) ?_
      have hP9 := hP.sub (ws' := [(h0, .inr (8, [.int 0, .int x1, .ref m2, .int (nI c3), .ref m4, .ref m5, .ref m6, .ref m7, .ref m8, .ref m9, .ref m10, .ref m11, .int (nI c12), .int (nI c13), .int (nI c14), .ref m15, .ref m16, .ref m17, .ref m18, .ref m19, .int (nI c20), .int x21, .int (nI c22), .int (nI c23), .ref m24, .ref m25, .int (nI c26), .int (nI c27), .int x28, .ref m29, .ref m30, .ref m31, .ref m32, .ref m33, .ref m34, .int (nI tm), .ref m36, .int (nI c37)])), (m34, .inl (kto, 60, .inl to8))]) [0, 1] rfl
      have hD9 := hD.sub (ws' := [(h0, .inr (8, [.int 0, .int x1, .ref m2, .int (nI c3), .ref m4, .ref m5, .ref m6, .ref m7, .ref m8, .ref m9, .ref m10, .ref m11, .int (nI c12), .int (nI c13), .int (nI c14), .ref m15, .ref m16, .ref m17, .ref m18, .ref m19, .int (nI c20), .int x21, .int (nI c22), .int (nI c23), .ref m24, .ref m25, .int (nI c26), .int (nI c27), .int x28, .ref m29, .ref m30, .ref m31, .ref m32, .ref m33, .ref m34, .int (nI tm), .ref m36, .int (nI c37)])), (m34, .inl (kto, 60, .inl to8))]) [0, 1] (by decide) rfl
      exact W.iret (v := (-1)) hx hb hr (fun t ht hW => ⟨⟨(-1), (), rfl, by exact Or.inl ⟨rfl, fun tm2 h1 h2 j hj hb h9 => by rw [← h9] at c_6; exact nI_pos (by have := cS_le to8 j; omega) c_6⟩, by rw [ht]; exact hP9, hD9⟩, hS.F ht⟩) hS.2.2 dX8_span_30
    · refine lv_aload_n hx hb dX8_span_9 rfl (lv_at hl 0 rfl) ?_
      refine va_get (D := (dC, dI)) (ci := 8) (v := .int (nI tm)) (C := RX8) (T := TX8) (N := 38) hx hb hts hi_X8 hown hK hP 0 rfl rfl 35 (by decide) k_f91 (fun _ h9 => h9) rfl dX8_span_10 ?_
      refine lv_iconst (v := (-1)) hx hb dX8_span_13 (by decide) ?_
      refine lv_icmp_eq (tgt := 29) hx hb dX8_span_14 (by decide) (fun c_14 => ?_) (fun c_14 => ?_)
      · exact absurd c_14 (nI_nm1 (by omega))
      refine lv_aload_n hx hb dX8_span_17 rfl (lv_at hl 0 rfl) ?_
      refine lv_iload_n hx hb dX8_span_18 rfl (lv_at hl 1 rfl) ?_
      have hPc := hP.sub (ws' := [(h0, .inr (8, [.int 0, .int x1, .ref m2, .int (nI c3), .ref m4, .ref m5, .ref m6, .ref m7, .ref m8, .ref m9, .ref m10, .ref m11, .int (nI c12), .int (nI c13), .int (nI c14), .ref m15, .ref m16, .ref m17, .ref m18, .ref m19, .int (nI c20), .int x21, .int (nI c22), .int (nI c23), .ref m24, .ref m25, .int (nI c26), .int (nI c27), .int x28, .ref m29, .ref m30, .ref m31, .ref m32, .ref m33, .ref m34, .int (nI tm), .ref m36, .int (nI c37)])), (m34, .inl (kto, 60, .inl to8))]) [0, 1] rfl
      have hKc := hK.sub (tys' := [(kto, .byte)]) [0] rfl
      refine vp_callSi (W.runV (As := [.int p0]) (rest := []) ⟨hx, hb, hml, hown, hts⟩ (g_X8_spanAt l dC dI h0 0 x1 m2 c3 m4 m5 m6 m7 m8 m9 m10 m11 c12 c13 c14 m15 m16 m17 m18 m19 c20 x21 c22 c23 m24 m25 c26 c27 x28 m29 m30 m31 m32 m33 m34 m36 c37 tm kto to8 p0 (by omega)) (cwV 1 hts gX8_span_X8_spanAt rfl rfl rfl (by decide +kernel) ⟨Nat.le_of_ble_eq_true rfl, Nat.le_of_ble_eq_true rfl⟩) ⟨fun a U g mk q => by obtain ⟨q0, qP, qK⟩ := q; exact ⟨q0, qP, va_K.moved (u := U) (U := U.calling g mk a) (Vm.Alike.refl U.vm) qK⟩, va_recv hK hP (ci := 8) (q0 := 0) rfl rfl, fun U hU hW => ⟨rfl, by rw [hU]; exact hPc, va_K.moved hW.alike hKc⟩⟩ rfl rfl hl.1 rfl (lv_room (Nat.le_of_ble_eq_true rfl)) dX8_span_19 ⟨Nat.le_of_ble_eq_true rfl, Nat.le_of_ble_eq_true rfl⟩) (fun r_19 hw_19 => ?_)
      clear hPc
      obtain ⟨so_19, hr_19, hso_19⟩ := hw_19
      obtain rfl : nI so_19 = r_19 := Eq.symm hr_19
      have hsa := hso_19.1
      refine lv_aload_n hx hb dX8_span_22 rfl (lv_at hl 0 rfl) ?_
      refine va_get (D := (dC, dI)) (ci := 8) (v := .int (nI tm)) (C := RX8) (T := TX8) (N := 38) hx hb hts hi_X8 hown hK hP 0 rfl rfl 35 (by decide) k_f91 (fun _ h9 => h9) rfl dX8_span_23 ?_
      refine lv_icmp_lt (tgt := 31) hx hb dX8_span_26 (by decide) (fun c_26 => ?_) (fun c_26 => ?_)
      · have n_26 : so_19 < tm := (nI_ltI (a := so_19) (b := tm) (by omega) (by omega)).mp c_26
        refine lv_aload_n hx hb dX8_span_31 rfl (lv_at hl 0 rfl) ?_
        refine lv_iload_n hx hb dX8_span_32 rfl (lv_at hl 1 rfl) ?_
        have hPc := hP.sub (ws' := [(h0, .inr (8, [.int 0, .int x1, .ref m2, .int (nI c3), .ref m4, .ref m5, .ref m6, .ref m7, .ref m8, .ref m9, .ref m10, .ref m11, .int (nI c12), .int (nI c13), .int (nI c14), .ref m15, .ref m16, .ref m17, .ref m18, .ref m19, .int (nI c20), .int x21, .int (nI c22), .int (nI c23), .ref m24, .ref m25, .int (nI c26), .int (nI c27), .int x28, .ref m29, .ref m30, .ref m31, .ref m32, .ref m33, .ref m34, .int (nI tm), .ref m36, .int (nI c37)])), (m34, .inl (kto, 60, .inl to8))]) [0, 1] rfl
        have hKc := hK.sub (tys' := [(kto, .byte)]) [0] rfl
        refine vp_callSi (W.runV (As := [.int p0]) (rest := []) ⟨hx, hb, hml, hown, hts⟩ (g_X8_spanAt l dC dI h0 0 x1 m2 c3 m4 m5 m6 m7 m8 m9 m10 m11 c12 c13 c14 m15 m16 m17 m18 m19 c20 x21 c22 c23 m24 m25 c26 c27 x28 m29 m30 m31 m32 m33 m34 m36 c37 tm kto to8 p0 (by omega)) (cwV 1 hts gX8_span_X8_spanAt rfl rfl rfl (by decide +kernel) ⟨Nat.le_of_ble_eq_true rfl, Nat.le_of_ble_eq_true rfl⟩) ⟨fun a U g mk q => by obtain ⟨q0, qP, qK⟩ := q; exact ⟨q0, qP, va_K.moved (u := U) (U := U.calling g mk a) (Vm.Alike.refl U.vm) qK⟩, va_recv hK hP (ci := 8) (q0 := 0) rfl rfl, fun U hU hW => ⟨rfl, by rw [hU]; exact hPc, va_K.moved hW.alike hKc⟩⟩ rfl rfl hl.1 rfl (lv_room (Nat.le_of_ble_eq_true rfl)) dX8_span_33 ⟨Nat.le_of_ble_eq_true rfl, Nat.le_of_ble_eq_true rfl⟩) (fun r_33 hw_33 => ?_)
        clear hPc
        obtain ⟨so_33, hr_33, hso_33⟩ := hw_33
        obtain rfl : nI so_33 = r_33 := Eq.symm hr_33
        obtain ⟨h1, h2, h3⟩ := hso_33.2.resolve_right (fun h9 => by rcases hso_19.2 with ⟨q1, q2, q3⟩ | ⟨q1, _⟩; exact h9.2 so_19 q1 q2 q3; omega)
        have hsb := hso_33.1
        refine lv_istore_n (lv' := [(3, .int (nI so_33)), (0, .ref h0), (1, .int p0), (2, .int p1)]) hx hb dX8_span_36 rfl hl (by decide) rfl (fun ls hl => ?_)
        refine lv_iload_n hx hb dX8_span_37 rfl (lv_at hl 3 rfl) ?_
        refine lv_if_ne (tgt := 45) hx hb dX8_span_38 (by decide) (fun c_38 => ?_) (fun c_38 => ?_)
        · refine lv_iload_n hx hb dX8_span_45 rfl (lv_at hl 3 rfl) ?_
          refine lv_iconst (v := 1) hx hb dX8_span_46 (by decide) ?_
          refine lv_icmp_ne (tgt := 62) hx hb dX8_span_47 (by decide) (fun c_47 => ?_) (fun c_47 => ?_)
          · refine lv_iload_n hx hb dX8_span_62 rfl (lv_at hl 3 rfl) ?_
            refine lv_iconst (v := 2) hx hb dX8_span_63 (by decide) ?_
            refine lv_icmp_ne (tgt := 76) hx hb dX8_span_64 (by decide) (fun c_64 => ?_) (fun c_64 => ?_)
            · refine lv_iconst (v := (-1)) hx hb dX8_span_76 (by decide) ?_
              have hP9 := hP.sub (ws' := [(h0, .inr (8, [.int 0, .int x1, .ref m2, .int (nI c3), .ref m4, .ref m5, .ref m6, .ref m7, .ref m8, .ref m9, .ref m10, .ref m11, .int (nI c12), .int (nI c13), .int (nI c14), .ref m15, .ref m16, .ref m17, .ref m18, .ref m19, .int (nI c20), .int x21, .int (nI c22), .int (nI c23), .ref m24, .ref m25, .int (nI c26), .int (nI c27), .int x28, .ref m29, .ref m30, .ref m31, .ref m32, .ref m33, .ref m34, .int (nI tm), .ref m36, .int (nI c37)])), (m34, .inl (kto, 60, .inl to8))]) [0, 1] rfl
              have hD9 := hD.sub (ws' := [(h0, .inr (8, [.int 0, .int x1, .ref m2, .int (nI c3), .ref m4, .ref m5, .ref m6, .ref m7, .ref m8, .ref m9, .ref m10, .ref m11, .int (nI c12), .int (nI c13), .int (nI c14), .ref m15, .ref m16, .ref m17, .ref m18, .ref m19, .int (nI c20), .int x21, .int (nI c22), .int (nI c23), .ref m24, .ref m25, .int (nI c26), .int (nI c27), .int x28, .ref m29, .ref m30, .ref m31, .ref m32, .ref m33, .ref m34, .int (nI tm), .ref m36, .int (nI c37)])), (m34, .inl (kto, 60, .inl to8))]) [0, 1] (by decide) rfl
              exact W.iret (v := (-1)) hx hb hr (fun t ht hW => ⟨⟨(-1), (), rfl, by exact Or.inr ⟨tm, so_33, hTm, rfl, h1, h2, h3, Or.inr (Or.inr (Or.inr ⟨c_38, c_47, c_64, rfl⟩))⟩, by rw [ht]; exact hP9, hD9⟩, hS.F ht⟩) hS.2.2 dX8_span_77
            · refine lv_aload_n hx hb dX8_span_67 rfl (lv_at hl 1 rfl) ?_
              refine va_get (D := (dC, dI)) (ci := 8) (v := .ref m34) (C := RX8) (T := TX8) (N := 38) hx hb hts hi_X8 hown hK hP 0 rfl rfl 34 (by decide) k_f88 (fun _ h9 => h9) rfl dX8_span_68 ?_
              refine lv_iload_n hx hb dX8_span_71 rfl (lv_at hl 0 rfl) ?_
              refine va_bald hx hb hK hP 1 0 rfl rfl (i := nI so_33) (vp_in_nI (by omega) (by omega)) dX8_span_72 ?_
              refine lv_topi (fun x_72 ex_72 => ?_)
              obtain rfl : to8 so_33 = x_72 := Eq.symm (ex_72.trans (fR_at (by omega)))
              refine lv_goto (tgt := 77) hx hb dX8_span_73 (by decide) ?_
              have hP9 := hP.sub (ws' := [(h0, .inr (8, [.int 0, .int x1, .ref m2, .int (nI c3), .ref m4, .ref m5, .ref m6, .ref m7, .ref m8, .ref m9, .ref m10, .ref m11, .int (nI c12), .int (nI c13), .int (nI c14), .ref m15, .ref m16, .ref m17, .ref m18, .ref m19, .int (nI c20), .int x21, .int (nI c22), .int (nI c23), .ref m24, .ref m25, .int (nI c26), .int (nI c27), .int x28, .ref m29, .ref m30, .ref m31, .ref m32, .ref m33, .ref m34, .int (nI tm), .ref m36, .int (nI c37)])), (m34, .inl (kto, 60, .inl to8))]) [0, 1] rfl
              have hD9 := hD.sub (ws' := [(h0, .inr (8, [.int 0, .int x1, .ref m2, .int (nI c3), .ref m4, .ref m5, .ref m6, .ref m7, .ref m8, .ref m9, .ref m10, .ref m11, .int (nI c12), .int (nI c13), .int (nI c14), .ref m15, .ref m16, .ref m17, .ref m18, .ref m19, .int (nI c20), .int x21, .int (nI c22), .int (nI c23), .ref m24, .ref m25, .int (nI c26), .int (nI c27), .int x28, .ref m29, .ref m30, .ref m31, .ref m32, .ref m33, .ref m34, .int (nI tm), .ref m36, .int (nI c37)])), (m34, .inl (kto, 60, .inl to8))]) [0, 1] (by decide) rfl
              exact W.iret (v := to8 so_33) hx hb hr (fun t ht hW => ⟨⟨to8 so_33, (), rfl, by exact Or.inr ⟨tm, so_33, hTm, rfl, h1, h2, h3, Or.inr (Or.inr (Or.inl ⟨c_64, rfl⟩))⟩, by rw [ht]; exact hP9, hD9⟩, hS.F ht⟩) hS.2.2 dX8_span_77
          · refine lv_aload_n hx hb dX8_span_50 rfl (lv_at hl 1 rfl) ?_
            refine lv_iload_n hx hb dX8_span_51 rfl (lv_at hl 2 rfl) ?_
            refine lv_iconst (v := 1) hx hb dX8_span_52 (by decide) ?_
            refine lv_iadd hx hb dX8_span_53 ?_
            have hPc := hP.sub (ws' := [(h0, .inr (8, [.int 0, .int x1, .ref m2, .int (nI c3), .ref m4, .ref m5, .ref m6, .ref m7, .ref m8, .ref m9, .ref m10, .ref m11, .int (nI c12), .int (nI c13), .int (nI c14), .ref m15, .ref m16, .ref m17, .ref m18, .ref m19, .int (nI c20), .int x21, .int (nI c22), .int (nI c23), .ref m24, .ref m25, .int (nI c26), .int (nI c27), .int x28, .ref m29, .ref m30, .ref m31, .ref m32, .ref m33, .ref m34, .int (nI tm), .ref m36, .int (nI c37)])), (m34, .inl (kto, 60, .inl to8))]) [0, 1] rfl
            have hKc := hK.sub (tys' := [(kto, .byte)]) [0] rfl
            refine vp_callSi (W.runV (As := [.int (p0 + 1)]) (rest := []) ⟨hx, hb, hml, hown, hts⟩ (g_X8_spanAt l dC dI h0 0 x1 m2 c3 m4 m5 m6 m7 m8 m9 m10 m11 c12 c13 c14 m15 m16 m17 m18 m19 c20 x21 c22 c23 m24 m25 c26 c27 x28 m29 m30 m31 m32 m33 m34 m36 c37 tm kto to8 (p0 + 1) (by omega)) (cwV 1 hts gX8_span_X8_spanAt rfl rfl rfl (by decide +kernel) ⟨Nat.le_of_ble_eq_true rfl, Nat.le_of_ble_eq_true rfl⟩) ⟨fun a U g mk q => by obtain ⟨q0, qP, qK⟩ := q; exact ⟨q0, qP, va_K.moved (u := U) (U := U.calling g mk a) (Vm.Alike.refl U.vm) qK⟩, va_recv hK hP (ci := 8) (q0 := 0) rfl rfl, fun U hU hW => ⟨rfl, by rw [hU]; exact hPc, va_K.moved hW.alike hKc⟩⟩ rfl rfl hl.1 rfl (lv_room (Nat.le_of_ble_eq_true rfl)) dX8_span_54 ⟨Nat.le_of_ble_eq_true rfl, Nat.le_of_ble_eq_true rfl⟩) (fun r_54 hw_54 => ?_)
            clear hPc
            obtain ⟨so_54, hr_54, hso_54⟩ := hw_54
            obtain rfl : nI so_54 = r_54 := Eq.symm hr_54
            obtain ⟨k1, k2, k3, k4⟩ := SPA_n hTm h1 h2 h3 hso_54
            have k5 : nI so_54 - nI so_33 = nI (so_54 - so_33) := pk_sub (by omega)
            refine lv_iload_n hx hb dX8_span_57 rfl (lv_at hl 0 rfl) ?_
            refine lv_isub hx hb dX8_span_58 ?_
            refine lv_goto (tgt := 77) hx hb dX8_span_59 (by decide) ?_
            have hP9 := hP.sub (ws' := [(h0, .inr (8, [.int 0, .int x1, .ref m2, .int (nI c3), .ref m4, .ref m5, .ref m6, .ref m7, .ref m8, .ref m9, .ref m10, .ref m11, .int (nI c12), .int (nI c13), .int (nI c14), .ref m15, .ref m16, .ref m17, .ref m18, .ref m19, .int (nI c20), .int x21, .int (nI c22), .int (nI c23), .ref m24, .ref m25, .int (nI c26), .int (nI c27), .int x28, .ref m29, .ref m30, .ref m31, .ref m32, .ref m33, .ref m34, .int (nI tm), .ref m36, .int (nI c37)])), (m34, .inl (kto, 60, .inl to8))]) [0, 1] rfl
            have hD9 := hD.sub (ws' := [(h0, .inr (8, [.int 0, .int x1, .ref m2, .int (nI c3), .ref m4, .ref m5, .ref m6, .ref m7, .ref m8, .ref m9, .ref m10, .ref m11, .int (nI c12), .int (nI c13), .int (nI c14), .ref m15, .ref m16, .ref m17, .ref m18, .ref m19, .int (nI c20), .int x21, .int (nI c22), .int (nI c23), .ref m24, .ref m25, .int (nI c26), .int (nI c27), .int x28, .ref m29, .ref m30, .ref m31, .ref m32, .ref m33, .ref m34, .int (nI tm), .ref m36, .int (nI c37)])), (m34, .inl (kto, 60, .inl to8))]) [0, 1] (by decide) rfl
            exact W.iret (v := (nI so_54) - (nI so_33)) hx hb hr (fun t ht hW => ⟨⟨(nI so_54) - (nI so_33), (), rfl, by exact Or.inr ⟨tm, so_33, hTm, rfl, h1, h2, h3, Or.inr (Or.inl ⟨c_47, so_54, k1, k2, k3, k4, k5⟩)⟩, by rw [ht]; exact hP9, hD9⟩, hS.F ht⟩) hS.2.2 dX8_span_77
        · refine lv_iload_n hx hb dX8_span_41 rfl (lv_at hl 0 rfl) ?_
          refine lv_goto (tgt := 77) hx hb dX8_span_42 (by decide) ?_
          have hP9 := hP.sub (ws' := [(h0, .inr (8, [.int 0, .int x1, .ref m2, .int (nI c3), .ref m4, .ref m5, .ref m6, .ref m7, .ref m8, .ref m9, .ref m10, .ref m11, .int (nI c12), .int (nI c13), .int (nI c14), .ref m15, .ref m16, .ref m17, .ref m18, .ref m19, .int (nI c20), .int x21, .int (nI c22), .int (nI c23), .ref m24, .ref m25, .int (nI c26), .int (nI c27), .int x28, .ref m29, .ref m30, .ref m31, .ref m32, .ref m33, .ref m34, .int (nI tm), .ref m36, .int (nI c37)])), (m34, .inl (kto, 60, .inl to8))]) [0, 1] rfl
          have hD9 := hD.sub (ws' := [(h0, .inr (8, [.int 0, .int x1, .ref m2, .int (nI c3), .ref m4, .ref m5, .ref m6, .ref m7, .ref m8, .ref m9, .ref m10, .ref m11, .int (nI c12), .int (nI c13), .int (nI c14), .ref m15, .ref m16, .ref m17, .ref m18, .ref m19, .int (nI c20), .int x21, .int (nI c22), .int (nI c23), .ref m24, .ref m25, .int (nI c26), .int (nI c27), .int x28, .ref m29, .ref m30, .ref m31, .ref m32, .ref m33, .ref m34, .int (nI tm), .ref m36, .int (nI c37)])), (m34, .inl (kto, 60, .inl to8))]) [0, 1] (by decide) rfl
          exact W.iret (v := nI so_33) hx hb hr (fun t ht hW => ⟨⟨nI so_33, (), rfl, by exact Or.inr ⟨tm, so_33, hTm, rfl, h1, h2, h3, Or.inl ⟨c_38, rfl⟩⟩, by rw [ht]; exact hP9, hD9⟩, hS.F ht⟩) hS.2.2 dX8_span_77
      · have n_26 : tm ≤ so_19 := Nat.not_lt.mp (fun h9 => c_26 ((nI_ltI (a := so_19) (b := tm) (by omega) (by omega)).mpr h9))
        refine lv_iconst (v := (-1)) hx hb dX8_span_29 (by decide) ?_
        have hP9 := hP.sub (ws' := [(h0, .inr (8, [.int 0, .int x1, .ref m2, .int (nI c3), .ref m4, .ref m5, .ref m6, .ref m7, .ref m8, .ref m9, .ref m10, .ref m11, .int (nI c12), .int (nI c13), .int (nI c14), .ref m15, .ref m16, .ref m17, .ref m18, .ref m19, .int (nI c20), .int x21, .int (nI c22), .int (nI c23), .ref m24, .ref m25, .int (nI c26), .int (nI c27), .int x28, .ref m29, .ref m30, .ref m31, .ref m32, .ref m33, .ref m34, .int (nI tm), .ref m36, .int (nI c37)])), (m34, .inl (kto, 60, .inl to8))]) [0, 1] rfl
        have hD9 := hD.sub (ws' := [(h0, .inr (8, [.int 0, .int x1, .ref m2, .int (nI c3), .ref m4, .ref m5, .ref m6, .ref m7, .ref m8, .ref m9, .ref m10, .ref m11, .int (nI c12), .int (nI c13), .int (nI c14), .ref m15, .ref m16, .ref m17, .ref m18, .ref m19, .int (nI c20), .int x21, .int (nI c22), .int (nI c23), .ref m24, .ref m25, .int (nI c26), .int (nI c27), .int x28, .ref m29, .ref m30, .ref m31, .ref m32, .ref m33, .ref m34, .int (nI tm), .ref m36, .int (nI c37)])), (m34, .inl (kto, 60, .inl to8))]) [0, 1] (by decide) rfl
        exact W.iret (v := (-1)) hx hb hr (fun t ht hW => ⟨⟨(-1), (), rfl, by exact Or.inl ⟨rfl, fun tm2 h1 h2 => by have e9 := (nI_eq (a := tm) (b := tm2) (by omega) (by omega)).mp h2; subst e9; rcases hso_19.2 with ⟨q1, _⟩ | ⟨_, q1⟩; (exfalso; omega); exact q1⟩, by rw [ht]; exact hP9, hD9⟩, hS.F ht⟩) hS.2.2 dX8_span_30

set_option maxHeartbeats 4000000 in
set_option maxRecDepth 100000 in
theorem g_X8_telling (l : Launch) (dC : Nat → ClassId) (dI : Nat → Nat → Nat) (h0 : Nat) (x0 : Int32) (x1 : Int32) (m2 : Nat) (c3 : Nat) (m4 : Nat) (m5 : Nat) (m6 : Nat) (m7 : Nat) (m8 : Nat) (m9 : Nat) (m10 : Nat) (m11 : Nat) (c12 : Nat) (c13 : Nat) (c14 : Nat) (m15 : Nat) (m16 : Nat) (m17 : Nat) (m18 : Nat) (m19 : Nat) (c20 : Nat) (x21 : Int32) (c22 : Nat) (c23 : Nat) (m24 : Nat) (m25 : Nat) (c26 : Nat) (c27 : Nat) (x28 : Int32) (m29 : Nat) (m30 : Nat) (m31 : Nat) (m32 : Nat) (m33 : Nat) (m34 : Nat) (x35 : Int32) (m36 : Nat) (c37 : Nat) (kte : ClassId) (te8 : Nat → Int32) (p0 : Int32) (sz : Nat) (htl : c37 ≤ 60) : Met l yX8_telling wsX8_telling ({ frames := 0, cells := 0, slots := 0, locals := 0 }) (va_Pc [.ref h0, .int p0] (fun U => U.heap.size = sz ∧ va_P (dC, dI) vwCl [(h0, .inr (8, [.int x0, .int x1, .ref m2, .int (nI c3), .ref m4, .ref m5, .ref m6, .ref m7, .ref m8, .ref m9, .ref m10, .ref m11, .int (nI c12), .int (nI c13), .int (nI c14), .ref m15, .ref m16, .ref m17, .ref m18, .ref m19, .int (nI c20), .int x21, .int (nI c22), .int (nI c23), .ref m24, .ref m25, .int (nI c26), .int (nI c27), .int x28, .ref m29, .ref m30, .ref m31, .ref m32, .ref m33, .ref m34, .int x35, .ref m36, .int (nI c37)])), (m36, .inl (kte, 60, .inl te8))] U.heap ∧ va_K (dC, dI) vwCl [(kte, .int)] U ∧ va_D (fun _ => True) [(h0, .inr (8, [.int x0, .int x1, .ref m2, .int (nI c3), .ref m4, .ref m5, .ref m6, .ref m7, .ref m8, .ref m9, .ref m10, .ref m11, .int (nI c12), .int (nI c13), .int (nI c14), .ref m15, .ref m16, .ref m17, .ref m18, .ref m19, .int (nI c20), .int x21, .int (nI c22), .int (nI c23), .ref m24, .ref m25, .int (nI c26), .int (nI c27), .int x28, .ref m29, .ref m30, .ref m31, .ref m32, .ref m33, .ref m34, .int x35, .ref m36, .int (nI c37)])), (m36, .inl (kte, 60, .inl te8))])) (va_Qi (fun (r : Int32) (u : Int32) => match u with | to_ => ((¬ inT c37 p0 ∧ to_ = 1 ∧ r = 0) ∨ (∃ a, a < c37 ∧ p0 = nI a ∧ to_ = 0 ∧ r = te8 a))) (fun (u : Int32) (t : State) => match u with | to_ => va_P (dC, dI) vwCl [(h0, .inr (8, [.int to_, .int x1, .ref m2, .int (nI c3), .ref m4, .ref m5, .ref m6, .ref m7, .ref m8, .ref m9, .ref m10, .ref m11, .int (nI c12), .int (nI c13), .int (nI c14), .ref m15, .ref m16, .ref m17, .ref m18, .ref m19, .int (nI c20), .int x21, .int (nI c22), .int (nI c23), .ref m24, .ref m25, .int (nI c26), .int (nI c27), .int x28, .ref m29, .ref m30, .ref m31, .ref m32, .ref m33, .ref m34, .int x35, .ref m36, .int (nI c37)])), (m36, .inl (kte, 60, .inl te8))] t.heap ∧ va_D (va_A [(h0, .inr (8, [.int x0, .int x1, .ref m2, .int (nI c3), .ref m4, .ref m5, .ref m6, .ref m7, .ref m8, .ref m9, .ref m10, .ref m11, .int (nI c12), .int (nI c13), .int (nI c14), .ref m15, .ref m16, .ref m17, .ref m18, .ref m19, .int (nI c20), .int x21, .int (nI c22), .int (nI c23), .ref m24, .ref m25, .int (nI c26), .int (nI c27), .int x28, .ref m29, .ref m30, .ref m31, .ref m32, .ref m33, .ref m34, .int x35, .ref m36, .int (nI c37)])), (m36, .inl (kte, 60, .inl te8))] sz) [(h0, .inr (8, [.int to_, .int x1, .ref m2, .int (nI c3), .ref m4, .ref m5, .ref m6, .ref m7, .ref m8, .ref m9, .ref m10, .ref m11, .int (nI c12), .int (nI c13), .int (nI c14), .ref m15, .ref m16, .ref m17, .ref m18, .ref m19, .int (nI c20), .int x21, .int (nI c22), .int (nI c23), .ref m24, .ref m25, .int (nI c26), .int (nI c27), .int x28, .ref m29, .ref m30, .ref m31, .ref m32, .ref m33, .ref m34, .int x35, .ref m36, .int (nI c37)])), (m36, .inl (kte, 60, .inl te8))]) (va_A [(h0, .inr (8, [.int x0, .int x1, .ref m2, .int (nI c3), .ref m4, .ref m5, .ref m6, .ref m7, .ref m8, .ref m9, .ref m10, .ref m11, .int (nI c12), .int (nI c13), .int (nI c14), .ref m15, .ref m16, .ref m17, .ref m18, .ref m19, .int (nI c20), .int x21, .int (nI c22), .int (nI c23), .ref m24, .ref m25, .int (nI c26), .int (nI c27), .int x28, .ref m29, .ref m30, .ref m31, .ref m32, .ref m33, .ref m34, .int x35, .ref m36, .int (nI c37)])), (m36, .inl (kte, 60, .inl te8))] sz)) 0 0 (va_A [(h0, .inr (8, [.int x0, .int x1, .ref m2, .int (nI c3), .ref m4, .ref m5, .ref m6, .ref m7, .ref m8, .ref m9, .ref m10, .ref m11, .int (nI c12), .int (nI c13), .int (nI c14), .ref m15, .ref m16, .ref m17, .ref m18, .ref m19, .int (nI c20), .int x21, .int (nI c22), .int (nI c23), .ref m24, .ref m25, .int (nI c26), .int (nI c27), .int x28, .ref m29, .ref m30, .ref m31, .ref m32, .ref m33, .ref m34, .int x35, .ref m36, .int (nI c37)])), (m36, .inl (kte, 60, .inl te8))] sz) := by
  refine Met.ofW (cc := cX8_telling) (maxL := 2) (ret := (some .int)) (by decide) rfl ?_
  intro p e s m args below meth c s₁ B hml hv
  obtain ⟨rfl, hsz, hP, hK, hD0⟩ := hv
  have hx := B.exec
  have hb := B.bytes
  have hr := B.returns
  have hts := atoms_spec (ws := wsX8_telling) B.pre
  have hown : s.vm.findClass RX8 = some m.cls := findClass_of_methodNamed B.named
  have hlocks := B.notSynchronized
  subst hsz
  have hD := hD0.self (sz := s.heap.size)
  clear hD0
  generalize hAe : va_A [(h0, .inr (8, [.int x0, .int x1, .ref m2, .int (nI c3), .ref m4, .ref m5, .ref m6, .ref m7, .ref m8, .ref m9, .ref m10, .ref m11, .int (nI c12), .int (nI c13), .int (nI c14), .ref m15, .ref m16, .ref m17, .ref m18, .ref m19, .int (nI c20), .int x21, .int (nI c22), .int (nI c23), .ref m24, .ref m25, .int (nI c26), .int (nI c27), .int x28, .ref m29, .ref m30, .ref m31, .ref m32, .ref m33, .ref m34, .int x35, .ref m36, .int (nI c37)])), (m36, .inl (kte, 60, .inl te8))] s.heap.size = A at hD ⊢
  have hA : ∀ q : Nat, s.heap.size ≤ q → A q := fun q h => by rw [← hAe]; exact Or.inr h
  clear hAe
  have hS : va_S A s.heap s.heap [] := va_S.rf
  replace hP : va_P (dC, dI) vwCl [(h0, .inr (8, [.int x0, .int x1, .ref m2, .int (nI c3), .ref m4, .ref m5, .ref m6, .ref m7, .ref m8, .ref m9, .ref m10, .ref m11, .int (nI c12), .int (nI c13), .int (nI c14), .ref m15, .ref m16, .ref m17, .ref m18, .ref m19, .int (nI c20), .int x21, .int (nI c22), .int (nI c23), .ref m24, .ref m25, .int (nI c26), .int (nI c27), .int x28, .ref m29, .ref m30, .ref m31, .ref m32, .ref m33, .ref m34, .int x35, .ref m36, .int (nI c37)])), (m36, .inl (kte, 60, .inl te8))] s.heap := hP
  have hl := lv_entry ([.ref h0, .int p0]) (n := 2) (Nat.le_of_ble_eq_true rfl)
  rw [lg_entry_eq]
  generalize (lg_sl ([.ref h0, .int p0]) ++ List.replicate (2 - (lg_sl ([.ref h0, .int p0])).length) Slot.unset).toArray = ls at hl ⊢
  replace hl : lv_has ls 2 [(0, .ref h0), (1, .int p0)] := hl
  have hi_X8 : ∀ w ∈ wsX80, w ∈ wsX8_telling := by decide +kernel
  have k_f97 := hts (.fieldLink RX8 97 "TongueTellerModel" "thrown" "I") (by decide +kernel)
  have k_f213 := hts (.fieldLink RX8 213 "TongueTellerModel" "tellings" "I") (by decide +kernel)
  have k_f94 := hts (.fieldLink RX8 94 "TongueTellerModel" "telling" "[I") (by decide +kernel)
  refine lv_aload_n hx hb dX8_telling_0 rfl (lv_at hl 0 rfl) ?_
  refine lv_iload_n hx hb dX8_telling_1 rfl (lv_at hl 1 rfl) ?_
  refine lv_if_lt (tgt := 13) hx hb dX8_telling_2 (by decide) (fun c_2 => ?_) (fun c_2 => ?_)
  · refine lv_iconst (v := 1) hx hb dX8_telling_13 (by decide) ?_
    refine lv_goto (tgt := 18) hx hb dX8_telling_14 (by decide) ?_
    refine va_put (D := (dC, dI)) (ci := 8) (v := .int 1) (ty := .int) (C := RX8) (T := TX8) (N := 38) hx hb hts hi_X8 tyX8 tyX8_ok nmX8 hown hK hP hD hS 0 rfl rfl 0 (by decide) k_f97 (fun _ h9 => h9) rfl (by decide +kernel) rfl rfl (Nat.le_of_ble_eq_true rfl) dX8_telling_18 (fun H locs hP hD hS => ?_)
    replace hP : va_P (dC, dI) vwCl [(h0, .inr (8, [.int 1, .int x1, .ref m2, .int (nI c3), .ref m4, .ref m5, .ref m6, .ref m7, .ref m8, .ref m9, .ref m10, .ref m11, .int (nI c12), .int (nI c13), .int (nI c14), .ref m15, .ref m16, .ref m17, .ref m18, .ref m19, .int (nI c20), .int x21, .int (nI c22), .int (nI c23), .ref m24, .ref m25, .int (nI c26), .int (nI c27), .int x28, .ref m29, .ref m30, .ref m31, .ref m32, .ref m33, .ref m34, .int x35, .ref m36, .int (nI c37)])), (m36, .inl (kte, 60, .inl te8))] H := hP
    replace hD : va_D A [(h0, .inr (8, [.int 1, .int x1, .ref m2, .int (nI c3), .ref m4, .ref m5, .ref m6, .ref m7, .ref m8, .ref m9, .ref m10, .ref m11, .int (nI c12), .int (nI c13), .int (nI c14), .ref m15, .ref m16, .ref m17, .ref m18, .ref m19, .int (nI c20), .int x21, .int (nI c22), .int (nI c23), .ref m24, .ref m25, .int (nI c26), .int (nI c27), .int x28, .ref m29, .ref m30, .ref m31, .ref m32, .ref m33, .ref m34, .int x35, .ref m36, .int (nI c37)])), (m36, .inl (kte, 60, .inl te8))] := hD
    refine lv_aload_n hx hb dX8_telling_21 rfl (lv_at hl 0 rfl) ?_
    refine va_get (D := (dC, dI)) (ci := 8) (v := .int 1) (C := RX8) (T := TX8) (N := 38) hx hb hts hi_X8 hown hK hP 0 rfl rfl 0 (by decide) k_f97 (fun _ h9 => h9) rfl dX8_telling_22 ?_
    refine lv_if_le (tgt := 32) hx hb dX8_telling_25 (by decide) (fun c_25 => ?_) (fun c_25 => ?_)
    · exact absurd c_25 (by decide)
    refine lv_iconst (v := 0) hx hb dX8_telling_28 (by decide) ?_
    refine lv_goto (tgt := 38) hx hb dX8_telling_29 (by decide) ?_
    have hP9 := hP.sub (ws' := [(h0, .inr (8, [.int 1, .int x1, .ref m2, .int (nI c3), .ref m4, .ref m5, .ref m6, .ref m7, .ref m8, .ref m9, .ref m10, .ref m11, .int (nI c12), .int (nI c13), .int (nI c14), .ref m15, .ref m16, .ref m17, .ref m18, .ref m19, .int (nI c20), .int x21, .int (nI c22), .int (nI c23), .ref m24, .ref m25, .int (nI c26), .int (nI c27), .int x28, .ref m29, .ref m30, .ref m31, .ref m32, .ref m33, .ref m34, .int x35, .ref m36, .int (nI c37)])), (m36, .inl (kte, 60, .inl te8))]) [0, 1] rfl
    have hD9 := hD.sub (ws' := [(h0, .inr (8, [.int 1, .int x1, .ref m2, .int (nI c3), .ref m4, .ref m5, .ref m6, .ref m7, .ref m8, .ref m9, .ref m10, .ref m11, .int (nI c12), .int (nI c13), .int (nI c14), .ref m15, .ref m16, .ref m17, .ref m18, .ref m19, .int (nI c20), .int x21, .int (nI c22), .int (nI c23), .ref m24, .ref m25, .int (nI c26), .int (nI c27), .int x28, .ref m29, .ref m30, .ref m31, .ref m32, .ref m33, .ref m34, .int x35, .ref m36, .int (nI c37)])), (m36, .inl (kte, 60, .inl te8))]) [0, 1] (by decide) rfl
    exact W.iret (v := 0) hx hb hr (fun t ht hW => ⟨⟨0, 1, rfl, by exact Or.inl ⟨nin_lt (by omega) c_2, rfl, rfl⟩, by rw [ht]; exact hP9, hD9⟩, hS.F ht⟩) hS.2.2 dX8_telling_38
  · refine lv_iload_n hx hb dX8_telling_5 rfl (lv_at hl 1 rfl) ?_
    refine lv_aload_n hx hb dX8_telling_6 rfl (lv_at hl 0 rfl) ?_
    refine va_get (D := (dC, dI)) (ci := 8) (v := .int (nI c37)) (C := RX8) (T := TX8) (N := 38) hx hb hts hi_X8 hown hK hP 0 rfl rfl 37 (by decide) k_f213 (fun _ h9 => h9) rfl dX8_telling_7 ?_
    refine lv_icmp_lt (tgt := 17) hx hb dX8_telling_10 (by decide) (fun c_10 => ?_) (fun c_10 => ?_)
    · refine lv_iconst (v := 0) hx hb dX8_telling_17 (by decide) ?_
      refine va_put (D := (dC, dI)) (ci := 8) (v := .int 0) (ty := .int) (C := RX8) (T := TX8) (N := 38) hx hb hts hi_X8 tyX8 tyX8_ok nmX8 hown hK hP hD hS 0 rfl rfl 0 (by decide) k_f97 (fun _ h9 => h9) rfl (by decide +kernel) rfl rfl (Nat.le_of_ble_eq_true rfl) dX8_telling_18 (fun H locs hP hD hS => ?_)
      replace hP : va_P (dC, dI) vwCl [(h0, .inr (8, [.int 0, .int x1, .ref m2, .int (nI c3), .ref m4, .ref m5, .ref m6, .ref m7, .ref m8, .ref m9, .ref m10, .ref m11, .int (nI c12), .int (nI c13), .int (nI c14), .ref m15, .ref m16, .ref m17, .ref m18, .ref m19, .int (nI c20), .int x21, .int (nI c22), .int (nI c23), .ref m24, .ref m25, .int (nI c26), .int (nI c27), .int x28, .ref m29, .ref m30, .ref m31, .ref m32, .ref m33, .ref m34, .int x35, .ref m36, .int (nI c37)])), (m36, .inl (kte, 60, .inl te8))] H := hP
      replace hD : va_D A [(h0, .inr (8, [.int 0, .int x1, .ref m2, .int (nI c3), .ref m4, .ref m5, .ref m6, .ref m7, .ref m8, .ref m9, .ref m10, .ref m11, .int (nI c12), .int (nI c13), .int (nI c14), .ref m15, .ref m16, .ref m17, .ref m18, .ref m19, .int (nI c20), .int x21, .int (nI c22), .int (nI c23), .ref m24, .ref m25, .int (nI c26), .int (nI c27), .int x28, .ref m29, .ref m30, .ref m31, .ref m32, .ref m33, .ref m34, .int x35, .ref m36, .int (nI c37)])), (m36, .inl (kte, 60, .inl te8))] := hD
      refine lv_aload_n hx hb dX8_telling_21 rfl (lv_at hl 0 rfl) ?_
      refine va_get (D := (dC, dI)) (ci := 8) (v := .int 0) (C := RX8) (T := TX8) (N := 38) hx hb hts hi_X8 hown hK hP 0 rfl rfl 0 (by decide) k_f97 (fun _ h9 => h9) rfl dX8_telling_22 ?_
      refine lv_if_le (tgt := 32) hx hb dX8_telling_25 (by decide) (fun c_25 => ?_) (fun c_25 => ?_)
      rotate_left
      · exact absurd (by decide) c_25
      obtain ⟨j0, hj0, ep_j0⟩ := in_of (z := c37) (by omega) c_2 (Int32.not_le.mpr c_10)
      subst ep_j0
      refine lv_aload_n hx hb dX8_telling_32 rfl (lv_at hl 0 rfl) ?_
      refine va_get (D := (dC, dI)) (ci := 8) (v := .ref m36) (C := RX8) (T := TX8) (N := 38) hx hb hts hi_X8 hown hK hP 0 rfl rfl 36 (by decide) k_f94 (fun _ h9 => h9) rfl dX8_telling_33 ?_
      refine lv_iload_n hx hb dX8_telling_36 rfl (lv_at hl 1 rfl) ?_
      refine va_iald hx hb hK hP 1 0 rfl rfl (i := nI j0) (vp_in_nI (by omega) (by omega)) dX8_telling_37 ?_
      refine lv_topi (fun x_37 ex_37 => ?_)
      obtain rfl : te8 j0 = x_37 := Eq.symm (ex_37.trans (fR_at (by omega)))
      have hP9 := hP.sub (ws' := [(h0, .inr (8, [.int 0, .int x1, .ref m2, .int (nI c3), .ref m4, .ref m5, .ref m6, .ref m7, .ref m8, .ref m9, .ref m10, .ref m11, .int (nI c12), .int (nI c13), .int (nI c14), .ref m15, .ref m16, .ref m17, .ref m18, .ref m19, .int (nI c20), .int x21, .int (nI c22), .int (nI c23), .ref m24, .ref m25, .int (nI c26), .int (nI c27), .int x28, .ref m29, .ref m30, .ref m31, .ref m32, .ref m33, .ref m34, .int x35, .ref m36, .int (nI c37)])), (m36, .inl (kte, 60, .inl te8))]) [0, 1] rfl
      have hD9 := hD.sub (ws' := [(h0, .inr (8, [.int 0, .int x1, .ref m2, .int (nI c3), .ref m4, .ref m5, .ref m6, .ref m7, .ref m8, .ref m9, .ref m10, .ref m11, .int (nI c12), .int (nI c13), .int (nI c14), .ref m15, .ref m16, .ref m17, .ref m18, .ref m19, .int (nI c20), .int x21, .int (nI c22), .int (nI c23), .ref m24, .ref m25, .int (nI c26), .int (nI c27), .int x28, .ref m29, .ref m30, .ref m31, .ref m32, .ref m33, .ref m34, .int x35, .ref m36, .int (nI c37)])), (m36, .inl (kte, 60, .inl te8))]) [0, 1] (by decide) rfl
      exact W.iret (v := te8 j0) hx hb hr (fun t ht hW => ⟨⟨te8 j0, 0, rfl, by exact Or.inr ⟨j0, hj0, rfl, rfl, rfl⟩, by rw [ht]; exact hP9, hD9⟩, hS.F ht⟩) hS.2.2 dX8_telling_38
    · refine lv_iconst (v := 1) hx hb dX8_telling_13 (by decide) ?_
      refine lv_goto (tgt := 18) hx hb dX8_telling_14 (by decide) ?_
      refine va_put (D := (dC, dI)) (ci := 8) (v := .int 1) (ty := .int) (C := RX8) (T := TX8) (N := 38) hx hb hts hi_X8 tyX8 tyX8_ok nmX8 hown hK hP hD hS 0 rfl rfl 0 (by decide) k_f97 (fun _ h9 => h9) rfl (by decide +kernel) rfl rfl (Nat.le_of_ble_eq_true rfl) dX8_telling_18 (fun H locs hP hD hS => ?_)
      replace hP : va_P (dC, dI) vwCl [(h0, .inr (8, [.int 1, .int x1, .ref m2, .int (nI c3), .ref m4, .ref m5, .ref m6, .ref m7, .ref m8, .ref m9, .ref m10, .ref m11, .int (nI c12), .int (nI c13), .int (nI c14), .ref m15, .ref m16, .ref m17, .ref m18, .ref m19, .int (nI c20), .int x21, .int (nI c22), .int (nI c23), .ref m24, .ref m25, .int (nI c26), .int (nI c27), .int x28, .ref m29, .ref m30, .ref m31, .ref m32, .ref m33, .ref m34, .int x35, .ref m36, .int (nI c37)])), (m36, .inl (kte, 60, .inl te8))] H := hP
      replace hD : va_D A [(h0, .inr (8, [.int 1, .int x1, .ref m2, .int (nI c3), .ref m4, .ref m5, .ref m6, .ref m7, .ref m8, .ref m9, .ref m10, .ref m11, .int (nI c12), .int (nI c13), .int (nI c14), .ref m15, .ref m16, .ref m17, .ref m18, .ref m19, .int (nI c20), .int x21, .int (nI c22), .int (nI c23), .ref m24, .ref m25, .int (nI c26), .int (nI c27), .int x28, .ref m29, .ref m30, .ref m31, .ref m32, .ref m33, .ref m34, .int x35, .ref m36, .int (nI c37)])), (m36, .inl (kte, 60, .inl te8))] := hD
      refine lv_aload_n hx hb dX8_telling_21 rfl (lv_at hl 0 rfl) ?_
      refine va_get (D := (dC, dI)) (ci := 8) (v := .int 1) (C := RX8) (T := TX8) (N := 38) hx hb hts hi_X8 hown hK hP 0 rfl rfl 0 (by decide) k_f97 (fun _ h9 => h9) rfl dX8_telling_22 ?_
      refine lv_if_le (tgt := 32) hx hb dX8_telling_25 (by decide) (fun c_25 => ?_) (fun c_25 => ?_)
      · exact absurd c_25 (by decide)
      refine lv_iconst (v := 0) hx hb dX8_telling_28 (by decide) ?_
      refine lv_goto (tgt := 38) hx hb dX8_telling_29 (by decide) ?_
      have hP9 := hP.sub (ws' := [(h0, .inr (8, [.int 1, .int x1, .ref m2, .int (nI c3), .ref m4, .ref m5, .ref m6, .ref m7, .ref m8, .ref m9, .ref m10, .ref m11, .int (nI c12), .int (nI c13), .int (nI c14), .ref m15, .ref m16, .ref m17, .ref m18, .ref m19, .int (nI c20), .int x21, .int (nI c22), .int (nI c23), .ref m24, .ref m25, .int (nI c26), .int (nI c27), .int x28, .ref m29, .ref m30, .ref m31, .ref m32, .ref m33, .ref m34, .int x35, .ref m36, .int (nI c37)])), (m36, .inl (kte, 60, .inl te8))]) [0, 1] rfl
      have hD9 := hD.sub (ws' := [(h0, .inr (8, [.int 1, .int x1, .ref m2, .int (nI c3), .ref m4, .ref m5, .ref m6, .ref m7, .ref m8, .ref m9, .ref m10, .ref m11, .int (nI c12), .int (nI c13), .int (nI c14), .ref m15, .ref m16, .ref m17, .ref m18, .ref m19, .int (nI c20), .int x21, .int (nI c22), .int (nI c23), .ref m24, .ref m25, .int (nI c26), .int (nI c27), .int x28, .ref m29, .ref m30, .ref m31, .ref m32, .ref m33, .ref m34, .int x35, .ref m36, .int (nI c37)])), (m36, .inl (kte, 60, .inl te8))]) [0, 1] (by decide) rfl
      exact W.iret (v := 0) hx hb hr (fun t ht hW => ⟨⟨0, 1, rfl, by exact Or.inl ⟨nin_ge (by omega) (Int32.not_lt.mp c_10), rfl, rfl⟩, by rw [ht]; exact hP9, hD9⟩, hS.F ht⟩) hS.2.2 dX8_telling_38
