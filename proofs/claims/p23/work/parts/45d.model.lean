set_option maxHeartbeats 4000000 in
set_option maxRecDepth 100000 in
theorem g_X8_feed (l : Launch) (dC : Nat → ClassId) (dI : Nat → Nat → Nat) (h0 : Nat) (x0 : Int32) (x1 : Int32) (m2 : Nat) (c3 : Nat) (m4 : Nat) (m5 : Nat) (m6 : Nat) (m7 : Nat) (m8 : Nat) (m9 : Nat) (m10 : Nat) (m11 : Nat) (c12 : Nat) (c13 : Nat) (c14 : Nat) (m15 : Nat) (m16 : Nat) (m17 : Nat) (m18 : Nat) (m19 : Nat) (c20 : Nat) (x21 : Int32) (c22 : Nat) (c23 : Nat) (m24 : Nat) (m25 : Nat) (c26 : Nat) (c27 : Nat) (x28 : Int32) (m29 : Nat) (m30 : Nat) (m31 : Nat) (m32 : Nat) (m33 : Nat) (m34 : Nat) (x35 : Int32) (m36 : Nat) (c37 : Nat) (ktp : ClassId) (ft8 : Nat → Int32) (p0 : Int32) (p1 : Int32) (p2 : Int32) (p3 : Int32) (p4 : Int32) (sz : Nat) (htp : c3 ≤ 600) : Met l yX8_feed wsX8_feed ({ frames := 0, cells := 0, slots := 0, locals := 0 }) (va_Pc [.ref h0, .int p0, .int p1, .int p2, .int p3, .int p4] (fun U => U.heap.size = sz ∧ va_P (dC, dI) vwCl [(h0, .inr (8, [.int x0, .int x1, .ref m2, .int (nI c3), .ref m4, .ref m5, .ref m6, .ref m7, .ref m8, .ref m9, .ref m10, .ref m11, .int (nI c12), .int (nI c13), .int (nI c14), .ref m15, .ref m16, .ref m17, .ref m18, .ref m19, .int (nI c20), .int x21, .int (nI c22), .int (nI c23), .ref m24, .ref m25, .int (nI c26), .int (nI c27), .int x28, .ref m29, .ref m30, .ref m31, .ref m32, .ref m33, .ref m34, .int x35, .ref m36, .int (nI c37)])), (m2, .inl (ktp, 600, .inl ft8))] U.heap ∧ va_K (dC, dI) vwCl [(ktp, .byte)] U ∧ va_D (fun _ => True) [(h0, .inr (8, [.int x0, .int x1, .ref m2, .int (nI c3), .ref m4, .ref m5, .ref m6, .ref m7, .ref m8, .ref m9, .ref m10, .ref m11, .int (nI c12), .int (nI c13), .int (nI c14), .ref m15, .ref m16, .ref m17, .ref m18, .ref m19, .int (nI c20), .int x21, .int (nI c22), .int (nI c23), .ref m24, .ref m25, .int (nI c26), .int (nI c27), .int x28, .ref m29, .ref m30, .ref m31, .ref m32, .ref m33, .ref m34, .int x35, .ref m36, .int (nI c37)])), (m2, .inl (ktp, 600, .inl ft8))])) (va_Qi (fun (r : Int32) (u : Nat × (Nat → Int32)) => match u with | (so, go) => ((580 < c3 → r = (-1) ∧ so = c3) ∧ (c3 ≤ 580 → r = nI (c3 + 20) ∧ so = c3 + 20)) ∧ (∀ j, gm go j = if c3 ≤ j ∧ j < so then sgF (fdB p0 p1 p2 p3 p4 (j - c3)) else gm ft8 j)) (fun (u : Nat × (Nat → Int32)) (t : State) => match u with | (so, go) => va_P (dC, dI) vwCl [(h0, .inr (8, [.int 0, .int x1, .ref m2, .int (nI so), .ref m4, .ref m5, .ref m6, .ref m7, .ref m8, .ref m9, .ref m10, .ref m11, .int (nI c12), .int (nI c13), .int (nI c14), .ref m15, .ref m16, .ref m17, .ref m18, .ref m19, .int (nI c20), .int x21, .int (nI c22), .int (nI c23), .ref m24, .ref m25, .int (nI c26), .int (nI c27), .int x28, .ref m29, .ref m30, .ref m31, .ref m32, .ref m33, .ref m34, .int x35, .ref m36, .int (nI c37)])), (m2, .inl (ktp, 600, .inl go))] t.heap ∧ va_D (va_A [(h0, .inr (8, [.int x0, .int x1, .ref m2, .int (nI c3), .ref m4, .ref m5, .ref m6, .ref m7, .ref m8, .ref m9, .ref m10, .ref m11, .int (nI c12), .int (nI c13), .int (nI c14), .ref m15, .ref m16, .ref m17, .ref m18, .ref m19, .int (nI c20), .int x21, .int (nI c22), .int (nI c23), .ref m24, .ref m25, .int (nI c26), .int (nI c27), .int x28, .ref m29, .ref m30, .ref m31, .ref m32, .ref m33, .ref m34, .int x35, .ref m36, .int (nI c37)])), (m2, .inl (ktp, 600, .inl ft8))] sz) [(h0, .inr (8, [.int 0, .int x1, .ref m2, .int (nI so), .ref m4, .ref m5, .ref m6, .ref m7, .ref m8, .ref m9, .ref m10, .ref m11, .int (nI c12), .int (nI c13), .int (nI c14), .ref m15, .ref m16, .ref m17, .ref m18, .ref m19, .int (nI c20), .int x21, .int (nI c22), .int (nI c23), .ref m24, .ref m25, .int (nI c26), .int (nI c27), .int x28, .ref m29, .ref m30, .ref m31, .ref m32, .ref m33, .ref m34, .int x35, .ref m36, .int (nI c37)])), (m2, .inl (ktp, 600, .inl go))]) (va_A [(h0, .inr (8, [.int x0, .int x1, .ref m2, .int (nI c3), .ref m4, .ref m5, .ref m6, .ref m7, .ref m8, .ref m9, .ref m10, .ref m11, .int (nI c12), .int (nI c13), .int (nI c14), .ref m15, .ref m16, .ref m17, .ref m18, .ref m19, .int (nI c20), .int x21, .int (nI c22), .int (nI c23), .ref m24, .ref m25, .int (nI c26), .int (nI c27), .int x28, .ref m29, .ref m30, .ref m31, .ref m32, .ref m33, .ref m34, .int x35, .ref m36, .int (nI c37)])), (m2, .inl (ktp, 600, .inl ft8))] sz)) 0 0 (va_A [(h0, .inr (8, [.int x0, .int x1, .ref m2, .int (nI c3), .ref m4, .ref m5, .ref m6, .ref m7, .ref m8, .ref m9, .ref m10, .ref m11, .int (nI c12), .int (nI c13), .int (nI c14), .ref m15, .ref m16, .ref m17, .ref m18, .ref m19, .int (nI c20), .int x21, .int (nI c22), .int (nI c23), .ref m24, .ref m25, .int (nI c26), .int (nI c27), .int x28, .ref m29, .ref m30, .ref m31, .ref m32, .ref m33, .ref m34, .int x35, .ref m36, .int (nI c37)])), (m2, .inl (ktp, 600, .inl ft8))] sz) := by
  refine Met.ofW (cc := cX8_feed) (maxL := 8) (ret := (some .int)) (by decide) rfl ?_
  intro p e s m args below meth c s₁ B hml hv
  obtain ⟨rfl, hsz, hP, hK, hD0⟩ := hv
  have hx := B.exec
  have hb := B.bytes
  have hr := B.returns
  have hts := atoms_spec (ws := wsX8_feed) B.pre
  have hown : s.vm.findClass RX8 = some m.cls := findClass_of_methodNamed B.named
  have hlocks := B.notSynchronized
  subst hsz
  have hD := hD0.self (sz := s.heap.size)
  clear hD0
  generalize hAe : va_A [(h0, .inr (8, [.int x0, .int x1, .ref m2, .int (nI c3), .ref m4, .ref m5, .ref m6, .ref m7, .ref m8, .ref m9, .ref m10, .ref m11, .int (nI c12), .int (nI c13), .int (nI c14), .ref m15, .ref m16, .ref m17, .ref m18, .ref m19, .int (nI c20), .int x21, .int (nI c22), .int (nI c23), .ref m24, .ref m25, .int (nI c26), .int (nI c27), .int x28, .ref m29, .ref m30, .ref m31, .ref m32, .ref m33, .ref m34, .int x35, .ref m36, .int (nI c37)])), (m2, .inl (ktp, 600, .inl ft8))] s.heap.size = A at hD ⊢
  have hA : ∀ q : Nat, s.heap.size ≤ q → A q := fun q h => by rw [← hAe]; exact Or.inr h
  clear hAe
  have hS : va_S A s.heap s.heap [] := va_S.rf
  replace hP : va_P (dC, dI) vwCl [(h0, .inr (8, [.int x0, .int x1, .ref m2, .int (nI c3), .ref m4, .ref m5, .ref m6, .ref m7, .ref m8, .ref m9, .ref m10, .ref m11, .int (nI c12), .int (nI c13), .int (nI c14), .ref m15, .ref m16, .ref m17, .ref m18, .ref m19, .int (nI c20), .int x21, .int (nI c22), .int (nI c23), .ref m24, .ref m25, .int (nI c26), .int (nI c27), .int x28, .ref m29, .ref m30, .ref m31, .ref m32, .ref m33, .ref m34, .int x35, .ref m36, .int (nI c37)])), (m2, .inl (ktp, 600, .inl ft8))] s.heap := hP
  have hl := lv_entry ([.ref h0, .int p0, .int p1, .int p2, .int p3, .int p4]) (n := 8) (Nat.le_of_ble_eq_true rfl)
  rw [lg_entry_eq]
  generalize (lg_sl ([.ref h0, .int p0, .int p1, .int p2, .int p3, .int p4]) ++ List.replicate (8 - (lg_sl ([.ref h0, .int p0, .int p1, .int p2, .int p3, .int p4])).length) Slot.unset).toArray = ls at hl ⊢
  replace hl : lv_has ls 8 [(0, .ref h0), (1, .int p0), (2, .int p1), (3, .int p2), (4, .int p3), (5, .int p4)] := hl
  have hi_X8 : ∀ w ∈ wsX80, w ∈ wsX8_feed := by decide +kernel
  have k_f97 := hts (.fieldLink RX8 97 "TongueTellerModel" "thrown" "I") (by decide +kernel)
  have k_f103 := hts (.fieldLink RX8 103 "TongueTellerModel" "taped" "I") (by decide +kernel)
  have k_f11 := hts (.fieldLink RX8 11 "TongueTellerModel" "tape" "[B") (by decide +kernel)
  refine lv_aload_n hx hb dX8_feed_0 rfl (lv_at hl 0 rfl) ?_
  refine lv_iconst (v := 0) hx hb dX8_feed_1 (by decide) ?_
  refine va_put (D := (dC, dI)) (ci := 8) (v := .int 0) (ty := .int) (C := RX8) (T := TX8) (N := 38) hx hb hts hi_X8 tyX8 tyX8_ok nmX8 hown hK hP hD hS 0 rfl rfl 0 (by decide) k_f97 (fun _ h9 => h9) rfl (by decide +kernel) rfl rfl (Nat.le_of_ble_eq_true rfl) dX8_feed_2 (fun H locs hP hD hS => ?_)
  replace hP : va_P (dC, dI) vwCl [(h0, .inr (8, [.int 0, .int x1, .ref m2, .int (nI c3), .ref m4, .ref m5, .ref m6, .ref m7, .ref m8, .ref m9, .ref m10, .ref m11, .int (nI c12), .int (nI c13), .int (nI c14), .ref m15, .ref m16, .ref m17, .ref m18, .ref m19, .int (nI c20), .int x21, .int (nI c22), .int (nI c23), .ref m24, .ref m25, .int (nI c26), .int (nI c27), .int x28, .ref m29, .ref m30, .ref m31, .ref m32, .ref m33, .ref m34, .int x35, .ref m36, .int (nI c37)])), (m2, .inl (ktp, 600, .inl ft8))] H := hP
  replace hD : va_D A [(h0, .inr (8, [.int 0, .int x1, .ref m2, .int (nI c3), .ref m4, .ref m5, .ref m6, .ref m7, .ref m8, .ref m9, .ref m10, .ref m11, .int (nI c12), .int (nI c13), .int (nI c14), .ref m15, .ref m16, .ref m17, .ref m18, .ref m19, .int (nI c20), .int x21, .int (nI c22), .int (nI c23), .ref m24, .ref m25, .int (nI c26), .int (nI c27), .int x28, .ref m29, .ref m30, .ref m31, .ref m32, .ref m33, .ref m34, .int x35, .ref m36, .int (nI c37)])), (m2, .inl (ktp, 600, .inl ft8))] := hD
  refine lv_aload_n hx hb dX8_feed_5 rfl (lv_at hl 0 rfl) ?_
  refine va_get (D := (dC, dI)) (ci := 8) (v := .int (nI c3)) (C := RX8) (T := TX8) (N := 38) hx hb hts hi_X8 hown hK hP 0 rfl rfl 3 (by decide) k_f103 (fun _ h9 => h9) rfl dX8_feed_6 ?_
  refine lv_bipush (v := 20) hx hb dX8_feed_9 (by decide) ?_
  refine lv_iadd hx hb dX8_feed_11 ?_
  refine lv_topi (fun x_11 ex_11 => ?_)
  obtain rfl : nI (c3 + 20) = x_11 := Eq.symm (ex_11.trans (nI_add c3 20))
  refine lv_sipush (v := 600) hx hb dX8_feed_12 (by decide) ?_
  refine lv_icmp_le (tgt := 20) hx hb dX8_feed_15 (by decide) (fun c_15 => ?_) (fun c_15 => ?_)
  · have n_15 : (c3 + 20) ≤ 600 := (nI_leI (a := (c3 + 20)) (b := 600) (by omega) (by omega)).mp c_15
    refine lv_iconst (v := 0) hx hb dX8_feed_20 (by decide) ?_
    refine lv_istore (lv' := [(6, .int 0), (0, .ref h0), (1, .int p0), (2, .int p1), (3, .int p2), (4, .int p3), (5, .int p4)]) hx hb dX8_feed_21 hl (by decide) rfl (fun ls hl => ?_)
    obtain ⟨kk, e_kk⟩ : ∃ y : Nat, y = 0 := ⟨_, rfl⟩
    obtain ⟨tq, e_tq⟩ : ∃ y : Nat, y = c3 := ⟨_, rfl⟩
    obtain ⟨fq, e_fq⟩ : ∃ y : Nat → Int32, y = ft8 := ⟨_, rfl⟩
    replace hl : lv_has ls 8 [(0, .ref h0), (1, .int p0), (2, .int p1), (3, .int p2), (4, .int p3), (5, .int p4), (6, .int (nI kk))] := by (try rewrite [e_kk]); (try rewrite [e_tq]); (try rewrite [e_fq]); exact lv_sub hl [1, 2, 3, 4, 5, 6, 0] rfl
    replace hP : va_P (dC, dI) vwCl [(h0, .inr (8, [.int 0, .int x1, .ref m2, .int (nI tq), .ref m4, .ref m5, .ref m6, .ref m7, .ref m8, .ref m9, .ref m10, .ref m11, .int (nI c12), .int (nI c13), .int (nI c14), .ref m15, .ref m16, .ref m17, .ref m18, .ref m19, .int (nI c20), .int x21, .int (nI c22), .int (nI c23), .ref m24, .ref m25, .int (nI c26), .int (nI c27), .int x28, .ref m29, .ref m30, .ref m31, .ref m32, .ref m33, .ref m34, .int x35, .ref m36, .int (nI c37)])), (m2, .inl (ktp, 600, .inl fq))] H := by (try rewrite [e_kk]); (try rewrite [e_tq]); (try rewrite [e_fq]); exact hP
    replace hD : va_D A [(h0, .inr (8, [.int 0, .int x1, .ref m2, .int (nI tq), .ref m4, .ref m5, .ref m6, .ref m7, .ref m8, .ref m9, .ref m10, .ref m11, .int (nI c12), .int (nI c13), .int (nI c14), .ref m15, .ref m16, .ref m17, .ref m18, .ref m19, .int (nI c20), .int x21, .int (nI c22), .int (nI c23), .ref m24, .ref m25, .int (nI c26), .int (nI c27), .int x28, .ref m29, .ref m30, .ref m31, .ref m32, .ref m33, .ref m34, .int x35, .ref m36, .int (nI c37)])), (m2, .inl (ktp, 600, .inl fq))] := by (try rewrite [e_kk]); (try rewrite [e_tq]); (try rewrite [e_fq]); exact hD
    have hk1 : kk ≤ 20 := by (try rewrite [e_kk]); (try rewrite [e_tq]); (try rewrite [e_fq]); omega
    have hk2 : tq = c3 + kk := by (try rewrite [e_kk]); (try rewrite [e_tq]); (try rewrite [e_fq]); omega
    have hk4 : fdT ft8 c3 p0 p1 p2 p3 p4 kk fq := by (try rewrite [e_kk]); (try rewrite [e_tq]); (try rewrite [e_fq]); exact fdT_0
    clear e_kk e_tq e_fq
    obtain ⟨nn23, hnn23⟩ : ∃ q : Nat, 20 - kk < q := ⟨_, Nat.lt_succ_self _⟩
    induction nn23 generalizing kk tq fq H locs ls with
    | zero => exact absurd hnn23 (Nat.not_lt_zero _)
    | succ nn23 ih23 =>
      refine lv_iload hx hb dX8_feed_23 (lv_at hl 6 rfl) ?_
      refine lv_bipush (v := 20) hx hb dX8_feed_25 (by decide) ?_
      refine lv_icmp_ge (tgt := 117) hx hb dX8_feed_27 (by decide) (fun c_27 => ?_) (fun c_27 => ?_)
      · have n_27 : 20 ≤ kk := (nI_leI (a := 20) (b := kk) (by omega) (by omega)).mp c_27
        refine lv_aload_n hx hb dX8_feed_117 rfl (lv_at hl 0 rfl) ?_
        refine va_get (D := (dC, dI)) (ci := 8) (v := .int (nI tq)) (C := RX8) (T := TX8) (N := 38) hx hb hts hi_X8 hown hK hP 0 rfl rfl 3 (by decide) k_f103 (fun _ h9 => h9) rfl dX8_feed_118 ?_
        have hP9 := hP.sub (ws' := [(h0, .inr (8, [.int 0, .int x1, .ref m2, .int (nI tq), .ref m4, .ref m5, .ref m6, .ref m7, .ref m8, .ref m9, .ref m10, .ref m11, .int (nI c12), .int (nI c13), .int (nI c14), .ref m15, .ref m16, .ref m17, .ref m18, .ref m19, .int (nI c20), .int x21, .int (nI c22), .int (nI c23), .ref m24, .ref m25, .int (nI c26), .int (nI c27), .int x28, .ref m29, .ref m30, .ref m31, .ref m32, .ref m33, .ref m34, .int x35, .ref m36, .int (nI c37)])), (m2, .inl (ktp, 600, .inl fq))]) [0, 1] rfl
        have hD9 := hD.sub (ws' := [(h0, .inr (8, [.int 0, .int x1, .ref m2, .int (nI tq), .ref m4, .ref m5, .ref m6, .ref m7, .ref m8, .ref m9, .ref m10, .ref m11, .int (nI c12), .int (nI c13), .int (nI c14), .ref m15, .ref m16, .ref m17, .ref m18, .ref m19, .int (nI c20), .int x21, .int (nI c22), .int (nI c23), .ref m24, .ref m25, .int (nI c26), .int (nI c27), .int x28, .ref m29, .ref m30, .ref m31, .ref m32, .ref m33, .ref m34, .int x35, .ref m36, .int (nI c37)])), (m2, .inl (ktp, 600, .inl fq))]) [0, 1] (by decide) rfl
        exact W.iret (v := nI tq) hx hb hr (fun t ht hW => ⟨⟨nI tq, (tq, fq), rfl, ⟨by exact ⟨fun h => absurd h (by omega), fun _ => ⟨by rw [show c3 + 20 = tq by omega], by omega⟩⟩, by exact fun j => by rw [hk4 j, show tq = c3 + kk by omega]⟩, by rw [ht]; exact hP9, hD9⟩, hS.F ht⟩) hS.2.2 dX8_feed_121
      · have n_27 : kk < 20 := Nat.not_le.mp (fun h9 => c_27 ((nI_leI (a := 20) (b := kk) (by omega) (by omega)).mpr h9))
        refine lv_iload hx hb dX8_feed_30 (lv_at hl 6 rfl) ?_
        refine lv_iconst (v := 4) hx hb dX8_feed_32 (by decide) ?_
        refine lv_icmp_ge (tgt := 40) hx hb dX8_feed_33 (by decide) (fun c_33 => ?_) (fun c_33 => ?_)
        · have n_33 : 4 ≤ kk := (nI_leI (a := 4) (b := kk) (by omega) (by omega)).mp c_33
          refine lv_iload hx hb dX8_feed_40 (lv_at hl 6 rfl) ?_
          refine lv_bipush (v := 8) hx hb dX8_feed_42 (by decide) ?_
          refine lv_icmp_ge (tgt := 51) hx hb dX8_feed_44 (by decide) (fun c_44 => ?_) (fun c_44 => ?_)
          · have n_44 : 8 ≤ kk := (nI_leI (a := 8) (b := kk) (by omega) (by omega)).mp c_44
            refine lv_iload hx hb dX8_feed_51 (lv_at hl 6 rfl) ?_
            refine lv_bipush (v := 12) hx hb dX8_feed_53 (by decide) ?_
            refine lv_icmp_ge (tgt := 62) hx hb dX8_feed_55 (by decide) (fun c_55 => ?_) (fun c_55 => ?_)
            · have n_55 : 12 ≤ kk := (nI_leI (a := 12) (b := kk) (by omega) (by omega)).mp c_55
              refine lv_iload hx hb dX8_feed_62 (lv_at hl 6 rfl) ?_
              refine lv_bipush (v := 16) hx hb dX8_feed_64 (by decide) ?_
              refine lv_icmp_ge (tgt := 74) hx hb dX8_feed_66 (by decide) (fun c_66 => ?_) (fun c_66 => ?_)
              · have n_66 : 16 ≤ kk := (nI_leI (a := 16) (b := kk) (by omega) (by omega)).mp c_66
                refine lv_iload hx hb dX8_feed_74 (lv_at hl 5 rfl) ?_
                refine lv_istore (lv' := [(7, .int p4), (0, .ref h0), (1, .int p0), (2, .int p1), (3, .int p2), (4, .int p3), (5, .int p4), (6, .int (nI kk))]) hx hb dX8_feed_76 hl (by decide) rfl (fun ls hl => ?_)
                refine lv_aload_n hx hb dX8_feed_78 rfl (lv_at hl 1 rfl) ?_
                refine va_get (D := (dC, dI)) (ci := 8) (v := .ref m2) (C := RX8) (T := TX8) (N := 38) hx hb hts hi_X8 hown hK hP 0 rfl rfl 2 (by decide) k_f11 (fun _ h9 => h9) rfl dX8_feed_79 ?_
                refine lv_aload_n hx hb dX8_feed_82 rfl (lv_at hl 1 rfl) ?_
                refine va_get (D := (dC, dI)) (ci := 8) (v := .int (nI tq)) (C := RX8) (T := TX8) (N := 38) hx hb hts hi_X8 hown hK hP 0 rfl rfl 3 (by decide) k_f103 (fun _ h9 => h9) rfl dX8_feed_83 ?_
                refine lv_iload hx hb dX8_feed_86 (lv_at hl 0 rfl) ?_
                refine lv_bipush (v := 24) hx hb dX8_feed_88 (by decide) ?_
                refine lv_bipush (v := 8) hx hb dX8_feed_90 (by decide) ?_
                refine lv_iload hx hb dX8_feed_92 (lv_at hl 7 rfl) ?_
                refine lv_iconst (v := 4) hx hb dX8_feed_94 (by decide) ?_
                refine lv_irem hx hb dX8_feed_95 (by decide) ?_
                refine lv_topi (fun xq exq => ?_)
                refine lv_imul hx hb dX8_feed_96 ?_
                refine lv_isub hx hb dX8_feed_97 ?_
                refine lv_ishr hx hb dX8_feed_98 ?_
                refine lv_topi (fun xu exu => ?_)
                refine lv_i2b hx hb dX8_feed_99 rfl ?_
                refine lv_topi (fun xv exv => ?_)
                refine va_bast hx hb hK hP hD hS 1 0 rfl rfl (i := nI tq) (x := xv) (vp_in_nI (by omega) (by omega)) dX8_feed_100 (fun H locs hP hD hS => ?_)
                have er_100 : upd fq (nI tq : Int32).toNatClampNeg (vp_nar .byte xv) = upd fq tq (vp_nar .byte xv) := upd_at (by omega)
                replace hP : va_P (dC, dI) vwCl [(h0, .inr (8, [.int 0, .int x1, .ref m2, .int (nI tq), .ref m4, .ref m5, .ref m6, .ref m7, .ref m8, .ref m9, .ref m10, .ref m11, .int (nI c12), .int (nI c13), .int (nI c14), .ref m15, .ref m16, .ref m17, .ref m18, .ref m19, .int (nI c20), .int x21, .int (nI c22), .int (nI c23), .ref m24, .ref m25, .int (nI c26), .int (nI c27), .int x28, .ref m29, .ref m30, .ref m31, .ref m32, .ref m33, .ref m34, .int x35, .ref m36, .int (nI c37)])), (m2, .inl (ktp, 600, .inl (upd fq tq (vp_nar .byte xv))))] H := by rw [← er_100]; exact hP
                replace hD : va_D A [(h0, .inr (8, [.int 0, .int x1, .ref m2, .int (nI tq), .ref m4, .ref m5, .ref m6, .ref m7, .ref m8, .ref m9, .ref m10, .ref m11, .int (nI c12), .int (nI c13), .int (nI c14), .ref m15, .ref m16, .ref m17, .ref m18, .ref m19, .int (nI c20), .int x21, .int (nI c22), .int (nI c23), .ref m24, .ref m25, .int (nI c26), .int (nI c27), .int x28, .ref m29, .ref m30, .ref m31, .ref m32, .ref m33, .ref m34, .int x35, .ref m36, .int (nI c37)])), (m2, .inl (ktp, 600, .inl (upd fq tq (vp_nar .byte xv))))] := by rw [← er_100]; exact hD
                refine lv_aload_n hx hb dX8_feed_101 rfl (lv_at hl 1 rfl) ?_
                refine lv_dup hx hb dX8_feed_102 rfl ?_
                refine va_get (D := (dC, dI)) (ci := 8) (v := .int (nI tq)) (C := RX8) (T := TX8) (N := 38) hx hb hts hi_X8 hown hK hP 0 rfl rfl 3 (by decide) k_f103 (fun _ h9 => h9) rfl dX8_feed_103 ?_
                refine lv_iconst (v := 1) hx hb dX8_feed_106 (by decide) ?_
                refine lv_iadd hx hb dX8_feed_107 ?_
                refine lv_topi (fun x_107 ex_107 => ?_)
                obtain rfl : nI (tq + 1) = x_107 := Eq.symm (ex_107.trans (nI_add tq 1))
                refine va_put (D := (dC, dI)) (ci := 8) (v := .int (nI (tq + 1))) (ty := .int) (C := RX8) (T := TX8) (N := 38) hx hb hts hi_X8 tyX8 tyX8_ok nmX8 hown hK hP hD hS 0 rfl rfl 3 (by decide) k_f103 (fun _ h9 => h9) rfl (by decide +kernel) rfl rfl (Nat.le_of_ble_eq_true rfl) dX8_feed_108 (fun H locs hP hD hS => ?_)
                replace hP : va_P (dC, dI) vwCl [(h0, .inr (8, [.int 0, .int x1, .ref m2, .int (nI (tq + 1)), .ref m4, .ref m5, .ref m6, .ref m7, .ref m8, .ref m9, .ref m10, .ref m11, .int (nI c12), .int (nI c13), .int (nI c14), .ref m15, .ref m16, .ref m17, .ref m18, .ref m19, .int (nI c20), .int x21, .int (nI c22), .int (nI c23), .ref m24, .ref m25, .int (nI c26), .int (nI c27), .int x28, .ref m29, .ref m30, .ref m31, .ref m32, .ref m33, .ref m34, .int x35, .ref m36, .int (nI c37)])), (m2, .inl (ktp, 600, .inl (upd fq tq (vp_nar .byte xv))))] H := hP
                replace hD : va_D A [(h0, .inr (8, [.int 0, .int x1, .ref m2, .int (nI (tq + 1)), .ref m4, .ref m5, .ref m6, .ref m7, .ref m8, .ref m9, .ref m10, .ref m11, .int (nI c12), .int (nI c13), .int (nI c14), .ref m15, .ref m16, .ref m17, .ref m18, .ref m19, .int (nI c20), .int x21, .int (nI c22), .int (nI c23), .ref m24, .ref m25, .int (nI c26), .int (nI c27), .int x28, .ref m29, .ref m30, .ref m31, .ref m32, .ref m33, .ref m34, .int x35, .ref m36, .int (nI c37)])), (m2, .inl (ktp, 600, .inl (upd fq tq (vp_nar .byte xv))))] := hD
                refine lv_iinc (v := nI (kk + 1)) (lv' := [(6, .int (nI (kk + 1))), (7, .int p4), (0, .ref h0), (1, .int p0), (2, .int p1), (3, .int p2), (4, .int p3), (5, .int p4)]) hx hb dX8_feed_111 hl (k := 7) rfl (nI_1 _) (by decide) rfl (fun ls hl => ?_)
                refine lv_goto (tgt := 23) hx hb dX8_feed_114 (by decide) ?_
                replace hl : lv_has ls 8 [(0, .ref h0), (1, .int p0), (2, .int p1), (3, .int p2), (4, .int p3), (5, .int p4), (6, .int (nI (kk + 1)))] := lv_sub hl [2, 3, 4, 5, 6, 7, 0] rfl
                replace hP : va_P (dC, dI) vwCl [(h0, .inr (8, [.int 0, .int x1, .ref m2, .int (nI (tq + 1)), .ref m4, .ref m5, .ref m6, .ref m7, .ref m8, .ref m9, .ref m10, .ref m11, .int (nI c12), .int (nI c13), .int (nI c14), .ref m15, .ref m16, .ref m17, .ref m18, .ref m19, .int (nI c20), .int x21, .int (nI c22), .int (nI c23), .ref m24, .ref m25, .int (nI c26), .int (nI c27), .int x28, .ref m29, .ref m30, .ref m31, .ref m32, .ref m33, .ref m34, .int x35, .ref m36, .int (nI c37)])), (m2, .inl (ktp, 600, .inl (upd fq tq (vp_nar .byte xv))))] H := hP
                replace hD : va_D A [(h0, .inr (8, [.int 0, .int x1, .ref m2, .int (nI (tq + 1)), .ref m4, .ref m5, .ref m6, .ref m7, .ref m8, .ref m9, .ref m10, .ref m11, .int (nI c12), .int (nI c13), .int (nI c14), .ref m15, .ref m16, .ref m17, .ref m18, .ref m19, .int (nI c20), .int x21, .int (nI c22), .int (nI c23), .ref m24, .ref m25, .int (nI c26), .int (nI c27), .int x28, .ref m29, .ref m30, .ref m31, .ref m32, .ref m33, .ref m34, .int x35, .ref m36, .int (nI c37)])), (m2, .inl (ktp, 600, .inl (upd fq tq (vp_nar .byte xv))))] := hD
                have hk49 : fdT ft8 c3 p0 p1 p2 p3 p4 (kk + 1) (upd fq tq (vp_nar .byte xv)) := fdT_s hk4 hk2 (by rw [fdS_4 n_66]; exact fd_x (by omega) exq exu exv)
                apply ih23 (kk := kk + 1) (tq := tq + 1) (fq := upd fq tq (vp_nar .byte xv)) <;> first | assumption | omega
              · have n_66 : kk < 16 := Nat.not_le.mp (fun h9 => c_66 ((nI_leI (a := 16) (b := kk) (by omega) (by omega)).mpr h9))
                refine lv_iload hx hb dX8_feed_69 (lv_at hl 4 rfl) ?_
                refine lv_goto (tgt := 76) hx hb dX8_feed_71 (by decide) ?_
                refine lv_istore (lv' := [(7, .int p3), (0, .ref h0), (1, .int p0), (2, .int p1), (3, .int p2), (4, .int p3), (5, .int p4), (6, .int (nI kk))]) hx hb dX8_feed_76 hl (by decide) rfl (fun ls hl => ?_)
                refine lv_aload_n hx hb dX8_feed_78 rfl (lv_at hl 1 rfl) ?_
                refine va_get (D := (dC, dI)) (ci := 8) (v := .ref m2) (C := RX8) (T := TX8) (N := 38) hx hb hts hi_X8 hown hK hP 0 rfl rfl 2 (by decide) k_f11 (fun _ h9 => h9) rfl dX8_feed_79 ?_
                refine lv_aload_n hx hb dX8_feed_82 rfl (lv_at hl 1 rfl) ?_
                refine va_get (D := (dC, dI)) (ci := 8) (v := .int (nI tq)) (C := RX8) (T := TX8) (N := 38) hx hb hts hi_X8 hown hK hP 0 rfl rfl 3 (by decide) k_f103 (fun _ h9 => h9) rfl dX8_feed_83 ?_
                refine lv_iload hx hb dX8_feed_86 (lv_at hl 0 rfl) ?_
                refine lv_bipush (v := 24) hx hb dX8_feed_88 (by decide) ?_
                refine lv_bipush (v := 8) hx hb dX8_feed_90 (by decide) ?_
                refine lv_iload hx hb dX8_feed_92 (lv_at hl 7 rfl) ?_
                refine lv_iconst (v := 4) hx hb dX8_feed_94 (by decide) ?_
                refine lv_irem hx hb dX8_feed_95 (by decide) ?_
                refine lv_topi (fun xq exq => ?_)
                refine lv_imul hx hb dX8_feed_96 ?_
                refine lv_isub hx hb dX8_feed_97 ?_
                refine lv_ishr hx hb dX8_feed_98 ?_
                refine lv_topi (fun xu exu => ?_)
                refine lv_i2b hx hb dX8_feed_99 rfl ?_
                refine lv_topi (fun xv exv => ?_)
                refine va_bast hx hb hK hP hD hS 1 0 rfl rfl (i := nI tq) (x := xv) (vp_in_nI (by omega) (by omega)) dX8_feed_100 (fun H locs hP hD hS => ?_)
                have er_100 : upd fq (nI tq : Int32).toNatClampNeg (vp_nar .byte xv) = upd fq tq (vp_nar .byte xv) := upd_at (by omega)
                replace hP : va_P (dC, dI) vwCl [(h0, .inr (8, [.int 0, .int x1, .ref m2, .int (nI tq), .ref m4, .ref m5, .ref m6, .ref m7, .ref m8, .ref m9, .ref m10, .ref m11, .int (nI c12), .int (nI c13), .int (nI c14), .ref m15, .ref m16, .ref m17, .ref m18, .ref m19, .int (nI c20), .int x21, .int (nI c22), .int (nI c23), .ref m24, .ref m25, .int (nI c26), .int (nI c27), .int x28, .ref m29, .ref m30, .ref m31, .ref m32, .ref m33, .ref m34, .int x35, .ref m36, .int (nI c37)])), (m2, .inl (ktp, 600, .inl (upd fq tq (vp_nar .byte xv))))] H := by rw [← er_100]; exact hP
                replace hD : va_D A [(h0, .inr (8, [.int 0, .int x1, .ref m2, .int (nI tq), .ref m4, .ref m5, .ref m6, .ref m7, .ref m8, .ref m9, .ref m10, .ref m11, .int (nI c12), .int (nI c13), .int (nI c14), .ref m15, .ref m16, .ref m17, .ref m18, .ref m19, .int (nI c20), .int x21, .int (nI c22), .int (nI c23), .ref m24, .ref m25, .int (nI c26), .int (nI c27), .int x28, .ref m29, .ref m30, .ref m31, .ref m32, .ref m33, .ref m34, .int x35, .ref m36, .int (nI c37)])), (m2, .inl (ktp, 600, .inl (upd fq tq (vp_nar .byte xv))))] := by rw [← er_100]; exact hD
                refine lv_aload_n hx hb dX8_feed_101 rfl (lv_at hl 1 rfl) ?_
                refine lv_dup hx hb dX8_feed_102 rfl ?_
                refine va_get (D := (dC, dI)) (ci := 8) (v := .int (nI tq)) (C := RX8) (T := TX8) (N := 38) hx hb hts hi_X8 hown hK hP 0 rfl rfl 3 (by decide) k_f103 (fun _ h9 => h9) rfl dX8_feed_103 ?_
                refine lv_iconst (v := 1) hx hb dX8_feed_106 (by decide) ?_
                refine lv_iadd hx hb dX8_feed_107 ?_
                refine lv_topi (fun x_107 ex_107 => ?_)
                obtain rfl : nI (tq + 1) = x_107 := Eq.symm (ex_107.trans (nI_add tq 1))
                refine va_put (D := (dC, dI)) (ci := 8) (v := .int (nI (tq + 1))) (ty := .int) (C := RX8) (T := TX8) (N := 38) hx hb hts hi_X8 tyX8 tyX8_ok nmX8 hown hK hP hD hS 0 rfl rfl 3 (by decide) k_f103 (fun _ h9 => h9) rfl (by decide +kernel) rfl rfl (Nat.le_of_ble_eq_true rfl) dX8_feed_108 (fun H locs hP hD hS => ?_)
                replace hP : va_P (dC, dI) vwCl [(h0, .inr (8, [.int 0, .int x1, .ref m2, .int (nI (tq + 1)), .ref m4, .ref m5, .ref m6, .ref m7, .ref m8, .ref m9, .ref m10, .ref m11, .int (nI c12), .int (nI c13), .int (nI c14), .ref m15, .ref m16, .ref m17, .ref m18, .ref m19, .int (nI c20), .int x21, .int (nI c22), .int (nI c23), .ref m24, .ref m25, .int (nI c26), .int (nI c27), .int x28, .ref m29, .ref m30, .ref m31, .ref m32, .ref m33, .ref m34, .int x35, .ref m36, .int (nI c37)])), (m2, .inl (ktp, 600, .inl (upd fq tq (vp_nar .byte xv))))] H := hP
                replace hD : va_D A [(h0, .inr (8, [.int 0, .int x1, .ref m2, .int (nI (tq + 1)), .ref m4, .ref m5, .ref m6, .ref m7, .ref m8, .ref m9, .ref m10, .ref m11, .int (nI c12), .int (nI c13), .int (nI c14), .ref m15, .ref m16, .ref m17, .ref m18, .ref m19, .int (nI c20), .int x21, .int (nI c22), .int (nI c23), .ref m24, .ref m25, .int (nI c26), .int (nI c27), .int x28, .ref m29, .ref m30, .ref m31, .ref m32, .ref m33, .ref m34, .int x35, .ref m36, .int (nI c37)])), (m2, .inl (ktp, 600, .inl (upd fq tq (vp_nar .byte xv))))] := hD
                refine lv_iinc (v := nI (kk + 1)) (lv' := [(6, .int (nI (kk + 1))), (7, .int p3), (0, .ref h0), (1, .int p0), (2, .int p1), (3, .int p2), (4, .int p3), (5, .int p4)]) hx hb dX8_feed_111 hl (k := 7) rfl (nI_1 _) (by decide) rfl (fun ls hl => ?_)
                refine lv_goto (tgt := 23) hx hb dX8_feed_114 (by decide) ?_
                replace hl : lv_has ls 8 [(0, .ref h0), (1, .int p0), (2, .int p1), (3, .int p2), (4, .int p3), (5, .int p4), (6, .int (nI (kk + 1)))] := lv_sub hl [2, 3, 4, 5, 6, 7, 0] rfl
                replace hP : va_P (dC, dI) vwCl [(h0, .inr (8, [.int 0, .int x1, .ref m2, .int (nI (tq + 1)), .ref m4, .ref m5, .ref m6, .ref m7, .ref m8, .ref m9, .ref m10, .ref m11, .int (nI c12), .int (nI c13), .int (nI c14), .ref m15, .ref m16, .ref m17, .ref m18, .ref m19, .int (nI c20), .int x21, .int (nI c22), .int (nI c23), .ref m24, .ref m25, .int (nI c26), .int (nI c27), .int x28, .ref m29, .ref m30, .ref m31, .ref m32, .ref m33, .ref m34, .int x35, .ref m36, .int (nI c37)])), (m2, .inl (ktp, 600, .inl (upd fq tq (vp_nar .byte xv))))] H := hP
                replace hD : va_D A [(h0, .inr (8, [.int 0, .int x1, .ref m2, .int (nI (tq + 1)), .ref m4, .ref m5, .ref m6, .ref m7, .ref m8, .ref m9, .ref m10, .ref m11, .int (nI c12), .int (nI c13), .int (nI c14), .ref m15, .ref m16, .ref m17, .ref m18, .ref m19, .int (nI c20), .int x21, .int (nI c22), .int (nI c23), .ref m24, .ref m25, .int (nI c26), .int (nI c27), .int x28, .ref m29, .ref m30, .ref m31, .ref m32, .ref m33, .ref m34, .int x35, .ref m36, .int (nI c37)])), (m2, .inl (ktp, 600, .inl (upd fq tq (vp_nar .byte xv))))] := hD
                have hk49 : fdT ft8 c3 p0 p1 p2 p3 p4 (kk + 1) (upd fq tq (vp_nar .byte xv)) := fdT_s hk4 hk2 (by rw [fdS_3 n_55 n_66]; exact fd_x (by omega) exq exu exv)
                apply ih23 (kk := kk + 1) (tq := tq + 1) (fq := upd fq tq (vp_nar .byte xv)) <;> first | assumption | omega
            · have n_55 : kk < 12 := Nat.not_le.mp (fun h9 => c_55 ((nI_leI (a := 12) (b := kk) (by omega) (by omega)).mpr h9))
              refine lv_iload_n hx hb dX8_feed_58 rfl (lv_at hl 3 rfl) ?_
              refine lv_goto (tgt := 76) hx hb dX8_feed_59 (by decide) ?_
              refine lv_istore (lv' := [(7, .int p2), (0, .ref h0), (1, .int p0), (2, .int p1), (3, .int p2), (4, .int p3), (5, .int p4), (6, .int (nI kk))]) hx hb dX8_feed_76 hl (by decide) rfl (fun ls hl => ?_)
              refine lv_aload_n hx hb dX8_feed_78 rfl (lv_at hl 1 rfl) ?_
              refine va_get (D := (dC, dI)) (ci := 8) (v := .ref m2) (C := RX8) (T := TX8) (N := 38) hx hb hts hi_X8 hown hK hP 0 rfl rfl 2 (by decide) k_f11 (fun _ h9 => h9) rfl dX8_feed_79 ?_
              refine lv_aload_n hx hb dX8_feed_82 rfl (lv_at hl 1 rfl) ?_
              refine va_get (D := (dC, dI)) (ci := 8) (v := .int (nI tq)) (C := RX8) (T := TX8) (N := 38) hx hb hts hi_X8 hown hK hP 0 rfl rfl 3 (by decide) k_f103 (fun _ h9 => h9) rfl dX8_feed_83 ?_
              refine lv_iload hx hb dX8_feed_86 (lv_at hl 0 rfl) ?_
              refine lv_bipush (v := 24) hx hb dX8_feed_88 (by decide) ?_
              refine lv_bipush (v := 8) hx hb dX8_feed_90 (by decide) ?_
              refine lv_iload hx hb dX8_feed_92 (lv_at hl 7 rfl) ?_
              refine lv_iconst (v := 4) hx hb dX8_feed_94 (by decide) ?_
              refine lv_irem hx hb dX8_feed_95 (by decide) ?_
              refine lv_topi (fun xq exq => ?_)
              refine lv_imul hx hb dX8_feed_96 ?_
              refine lv_isub hx hb dX8_feed_97 ?_
              refine lv_ishr hx hb dX8_feed_98 ?_
              refine lv_topi (fun xu exu => ?_)
              refine lv_i2b hx hb dX8_feed_99 rfl ?_
              refine lv_topi (fun xv exv => ?_)
              refine va_bast hx hb hK hP hD hS 1 0 rfl rfl (i := nI tq) (x := xv) (vp_in_nI (by omega) (by omega)) dX8_feed_100 (fun H locs hP hD hS => ?_)
              have er_100 : upd fq (nI tq : Int32).toNatClampNeg (vp_nar .byte xv) = upd fq tq (vp_nar .byte xv) := upd_at (by omega)
              replace hP : va_P (dC, dI) vwCl [(h0, .inr (8, [.int 0, .int x1, .ref m2, .int (nI tq), .ref m4, .ref m5, .ref m6, .ref m7, .ref m8, .ref m9, .ref m10, .ref m11, .int (nI c12), .int (nI c13), .int (nI c14), .ref m15, .ref m16, .ref m17, .ref m18, .ref m19, .int (nI c20), .int x21, .int (nI c22), .int (nI c23), .ref m24, .ref m25, .int (nI c26), .int (nI c27), .int x28, .ref m29, .ref m30, .ref m31, .ref m32, .ref m33, .ref m34, .int x35, .ref m36, .int (nI c37)])), (m2, .inl (ktp, 600, .inl (upd fq tq (vp_nar .byte xv))))] H := by rw [← er_100]; exact hP
              replace hD : va_D A [(h0, .inr (8, [.int 0, .int x1, .ref m2, .int (nI tq), .ref m4, .ref m5, .ref m6, .ref m7, .ref m8, .ref m9, .ref m10, .ref m11, .int (nI c12), .int (nI c13), .int (nI c14), .ref m15, .ref m16, .ref m17, .ref m18, .ref m19, .int (nI c20), .int x21, .int (nI c22), .int (nI c23), .ref m24, .ref m25, .int (nI c26), .int (nI c27), .int x28, .ref m29, .ref m30, .ref m31, .ref m32, .ref m33, .ref m34, .int x35, .ref m36, .int (nI c37)])), (m2, .inl (ktp, 600, .inl (upd fq tq (vp_nar .byte xv))))] := by rw [← er_100]; exact hD
              refine lv_aload_n hx hb dX8_feed_101 rfl (lv_at hl 1 rfl) ?_
              refine lv_dup hx hb dX8_feed_102 rfl ?_
              refine va_get (D := (dC, dI)) (ci := 8) (v := .int (nI tq)) (C := RX8) (T := TX8) (N := 38) hx hb hts hi_X8 hown hK hP 0 rfl rfl 3 (by decide) k_f103 (fun _ h9 => h9) rfl dX8_feed_103 ?_
              refine lv_iconst (v := 1) hx hb dX8_feed_106 (by decide) ?_
              refine lv_iadd hx hb dX8_feed_107 ?_
              refine lv_topi (fun x_107 ex_107 => ?_)
              obtain rfl : nI (tq + 1) = x_107 := Eq.symm (ex_107.trans (nI_add tq 1))
              refine va_put (D := (dC, dI)) (ci := 8) (v := .int (nI (tq + 1))) (ty := .int) (C := RX8) (T := TX8) (N := 38) hx hb hts hi_X8 tyX8 tyX8_ok nmX8 hown hK hP hD hS 0 rfl rfl 3 (by decide) k_f103 (fun _ h9 => h9) rfl (by decide +kernel) rfl rfl (Nat.le_of_ble_eq_true rfl) dX8_feed_108 (fun H locs hP hD hS => ?_)
              replace hP : va_P (dC, dI) vwCl [(h0, .inr (8, [.int 0, .int x1, .ref m2, .int (nI (tq + 1)), .ref m4, .ref m5, .ref m6, .ref m7, .ref m8, .ref m9, .ref m10, .ref m11, .int (nI c12), .int (nI c13), .int (nI c14), .ref m15, .ref m16, .ref m17, .ref m18, .ref m19, .int (nI c20), .int x21, .int (nI c22), .int (nI c23), .ref m24, .ref m25, .int (nI c26), .int (nI c27), .int x28, .ref m29, .ref m30, .ref m31, .ref m32, .ref m33, .ref m34, .int x35, .ref m36, .int (nI c37)])), (m2, .inl (ktp, 600, .inl (upd fq tq (vp_nar .byte xv))))] H := hP
              replace hD : va_D A [(h0, .inr (8, [.int 0, .int x1, .ref m2, .int (nI (tq + 1)), .ref m4, .ref m5, .ref m6, .ref m7, .ref m8, .ref m9, .ref m10, .ref m11, .int (nI c12), .int (nI c13), .int (nI c14), .ref m15, .ref m16, .ref m17, .ref m18, .ref m19, .int (nI c20), .int x21, .int (nI c22), .int (nI c23), .ref m24, .ref m25, .int (nI c26), .int (nI c27), .int x28, .ref m29, .ref m30, .ref m31, .ref m32, .ref m33, .ref m34, .int x35, .ref m36, .int (nI c37)])), (m2, .inl (ktp, 600, .inl (upd fq tq (vp_nar .byte xv))))] := hD
              refine lv_iinc (v := nI (kk + 1)) (lv' := [(6, .int (nI (kk + 1))), (7, .int p2), (0, .ref h0), (1, .int p0), (2, .int p1), (3, .int p2), (4, .int p3), (5, .int p4)]) hx hb dX8_feed_111 hl (k := 7) rfl (nI_1 _) (by decide) rfl (fun ls hl => ?_)
              refine lv_goto (tgt := 23) hx hb dX8_feed_114 (by decide) ?_
              replace hl : lv_has ls 8 [(0, .ref h0), (1, .int p0), (2, .int p1), (3, .int p2), (4, .int p3), (5, .int p4), (6, .int (nI (kk + 1)))] := lv_sub hl [2, 3, 4, 5, 6, 7, 0] rfl
              replace hP : va_P (dC, dI) vwCl [(h0, .inr (8, [.int 0, .int x1, .ref m2, .int (nI (tq + 1)), .ref m4, .ref m5, .ref m6, .ref m7, .ref m8, .ref m9, .ref m10, .ref m11, .int (nI c12), .int (nI c13), .int (nI c14), .ref m15, .ref m16, .ref m17, .ref m18, .ref m19, .int (nI c20), .int x21, .int (nI c22), .int (nI c23), .ref m24, .ref m25, .int (nI c26), .int (nI c27), .int x28, .ref m29, .ref m30, .ref m31, .ref m32, .ref m33, .ref m34, .int x35, .ref m36, .int (nI c37)])), (m2, .inl (ktp, 600, .inl (upd fq tq (vp_nar .byte xv))))] H := hP
              replace hD : va_D A [(h0, .inr (8, [.int 0, .int x1, .ref m2, .int (nI (tq + 1)), .ref m4, .ref m5, .ref m6, .ref m7, .ref m8, .ref m9, .ref m10, .ref m11, .int (nI c12), .int (nI c13), .int (nI c14), .ref m15, .ref m16, .ref m17, .ref m18, .ref m19, .int (nI c20), .int x21, .int (nI c22), .int (nI c23), .ref m24, .ref m25, .int (nI c26), .int (nI c27), .int x28, .ref m29, .ref m30, .ref m31, .ref m32, .ref m33, .ref m34, .int x35, .ref m36, .int (nI c37)])), (m2, .inl (ktp, 600, .inl (upd fq tq (vp_nar .byte xv))))] := hD
              have hk49 : fdT ft8 c3 p0 p1 p2 p3 p4 (kk + 1) (upd fq tq (vp_nar .byte xv)) := fdT_s hk4 hk2 (by rw [fdS_2 n_44 n_55]; exact fd_x (by omega) exq exu exv)
              apply ih23 (kk := kk + 1) (tq := tq + 1) (fq := upd fq tq (vp_nar .byte xv)) <;> first | assumption | omega
          · have n_44 : kk < 8 := Nat.not_le.mp (fun h9 => c_44 ((nI_leI (a := 8) (b := kk) (by omega) (by omega)).mpr h9))
            refine lv_iload_n hx hb dX8_feed_47 rfl (lv_at hl 2 rfl) ?_
            refine lv_goto (tgt := 76) hx hb dX8_feed_48 (by decide) ?_
            refine lv_istore (lv' := [(7, .int p1), (0, .ref h0), (1, .int p0), (2, .int p1), (3, .int p2), (4, .int p3), (5, .int p4), (6, .int (nI kk))]) hx hb dX8_feed_76 hl (by decide) rfl (fun ls hl => ?_)
            refine lv_aload_n hx hb dX8_feed_78 rfl (lv_at hl 1 rfl) ?_
            refine va_get (D := (dC, dI)) (ci := 8) (v := .ref m2) (C := RX8) (T := TX8) (N := 38) hx hb hts hi_X8 hown hK hP 0 rfl rfl 2 (by decide) k_f11 (fun _ h9 => h9) rfl dX8_feed_79 ?_
            refine lv_aload_n hx hb dX8_feed_82 rfl (lv_at hl 1 rfl) ?_
            refine va_get (D := (dC, dI)) (ci := 8) (v := .int (nI tq)) (C := RX8) (T := TX8) (N := 38) hx hb hts hi_X8 hown hK hP 0 rfl rfl 3 (by decide) k_f103 (fun _ h9 => h9) rfl dX8_feed_83 ?_
            refine lv_iload hx hb dX8_feed_86 (lv_at hl 0 rfl) ?_
            refine lv_bipush (v := 24) hx hb dX8_feed_88 (by decide) ?_
            refine lv_bipush (v := 8) hx hb dX8_feed_90 (by decide) ?_
            refine lv_iload hx hb dX8_feed_92 (lv_at hl 7 rfl) ?_
            refine lv_iconst (v := 4) hx hb dX8_feed_94 (by decide) ?_
            refine lv_irem hx hb dX8_feed_95 (by decide) ?_
            refine lv_topi (fun xq exq => ?_)
            refine lv_imul hx hb dX8_feed_96 ?_
            refine lv_isub hx hb dX8_feed_97 ?_
            refine lv_ishr hx hb dX8_feed_98 ?_
            refine lv_topi (fun xu exu => ?_)
            refine lv_i2b hx hb dX8_feed_99 rfl ?_
            refine lv_topi (fun xv exv => ?_)
            refine va_bast hx hb hK hP hD hS 1 0 rfl rfl (i := nI tq) (x := xv) (vp_in_nI (by omega) (by omega)) dX8_feed_100 (fun H locs hP hD hS => ?_)
            have er_100 : upd fq (nI tq : Int32).toNatClampNeg (vp_nar .byte xv) = upd fq tq (vp_nar .byte xv) := upd_at (by omega)
            replace hP : va_P (dC, dI) vwCl [(h0, .inr (8, [.int 0, .int x1, .ref m2, .int (nI tq), .ref m4, .ref m5, .ref m6, .ref m7, .ref m8, .ref m9, .ref m10, .ref m11, .int (nI c12), .int (nI c13), .int (nI c14), .ref m15, .ref m16, .ref m17, .ref m18, .ref m19, .int (nI c20), .int x21, .int (nI c22), .int (nI c23), .ref m24, .ref m25, .int (nI c26), .int (nI c27), .int x28, .ref m29, .ref m30, .ref m31, .ref m32, .ref m33, .ref m34, .int x35, .ref m36, .int (nI c37)])), (m2, .inl (ktp, 600, .inl (upd fq tq (vp_nar .byte xv))))] H := by rw [← er_100]; exact hP
            replace hD : va_D A [(h0, .inr (8, [.int 0, .int x1, .ref m2, .int (nI tq), .ref m4, .ref m5, .ref m6, .ref m7, .ref m8, .ref m9, .ref m10, .ref m11, .int (nI c12), .int (nI c13), .int (nI c14), .ref m15, .ref m16, .ref m17, .ref m18, .ref m19, .int (nI c20), .int x21, .int (nI c22), .int (nI c23), .ref m24, .ref m25, .int (nI c26), .int (nI c27), .int x28, .ref m29, .ref m30, .ref m31, .ref m32, .ref m33, .ref m34, .int x35, .ref m36, .int (nI c37)])), (m2, .inl (ktp, 600, .inl (upd fq tq (vp_nar .byte xv))))] := by rw [← er_100]; exact hD
            refine lv_aload_n hx hb dX8_feed_101 rfl (lv_at hl 1 rfl) ?_
            refine lv_dup hx hb dX8_feed_102 rfl ?_
            refine va_get (D := (dC, dI)) (ci := 8) (v := .int (nI tq)) (C := RX8) (T := TX8) (N := 38) hx hb hts hi_X8 hown hK hP 0 rfl rfl 3 (by decide) k_f103 (fun _ h9 => h9) rfl dX8_feed_103 ?_
            refine lv_iconst (v := 1) hx hb dX8_feed_106 (by decide) ?_
            refine lv_iadd hx hb dX8_feed_107 ?_
            refine lv_topi (fun x_107 ex_107 => ?_)
            obtain rfl : nI (tq + 1) = x_107 := Eq.symm (ex_107.trans (nI_add tq 1))
            refine va_put (D := (dC, dI)) (ci := 8) (v := .int (nI (tq + 1))) (ty := .int) (C := RX8) (T := TX8) (N := 38) hx hb hts hi_X8 tyX8 tyX8_ok nmX8 hown hK hP hD hS 0 rfl rfl 3 (by decide) k_f103 (fun _ h9 => h9) rfl (by decide +kernel) rfl rfl (Nat.le_of_ble_eq_true rfl) dX8_feed_108 (fun H locs hP hD hS => ?_)
            replace hP : va_P (dC, dI) vwCl [(h0, .inr (8, [.int 0, .int x1, .ref m2, .int (nI (tq + 1)), .ref m4, .ref m5, .ref m6, .ref m7, .ref m8, .ref m9, .ref m10, .ref m11, .int (nI c12), .int (nI c13), .int (nI c14), .ref m15, .ref m16, .ref m17, .ref m18, .ref m19, .int (nI c20), .int x21, .int (nI c22), .int (nI c23), .ref m24, .ref m25, .int (nI c26), .int (nI c27), .int x28, .ref m29, .ref m30, .ref m31, .ref m32, .ref m33, .ref m34, .int x35, .ref m36, .int (nI c37)])), (m2, .inl (ktp, 600, .inl (upd fq tq (vp_nar .byte xv))))] H := hP
            replace hD : va_D A [(h0, .inr (8, [.int 0, .int x1, .ref m2, .int (nI (tq + 1)), .ref m4, .ref m5, .ref m6, .ref m7, .ref m8, .ref m9, .ref m10, .ref m11, .int (nI c12), .int (nI c13), .int (nI c14), .ref m15, .ref m16, .ref m17, .ref m18, .ref m19, .int (nI c20), .int x21, .int (nI c22), .int (nI c23), .ref m24, .ref m25, .int (nI c26), .int (nI c27), .int x28, .ref m29, .ref m30, .ref m31, .ref m32, .ref m33, .ref m34, .int x35, .ref m36, .int (nI c37)])), (m2, .inl (ktp, 600, .inl (upd fq tq (vp_nar .byte xv))))] := hD
            refine lv_iinc (v := nI (kk + 1)) (lv' := [(6, .int (nI (kk + 1))), (7, .int p1), (0, .ref h0), (1, .int p0), (2, .int p1), (3, .int p2), (4, .int p3), (5, .int p4)]) hx hb dX8_feed_111 hl (k := 7) rfl (nI_1 _) (by decide) rfl (fun ls hl => ?_)
            refine lv_goto (tgt := 23) hx hb dX8_feed_114 (by decide) ?_
            replace hl : lv_has ls 8 [(0, .ref h0), (1, .int p0), (2, .int p1), (3, .int p2), (4, .int p3), (5, .int p4), (6, .int (nI (kk + 1)))] := lv_sub hl [2, 3, 4, 5, 6, 7, 0] rfl
            replace hP : va_P (dC, dI) vwCl [(h0, .inr (8, [.int 0, .int x1, .ref m2, .int (nI (tq + 1)), .ref m4, .ref m5, .ref m6, .ref m7, .ref m8, .ref m9, .ref m10, .ref m11, .int (nI c12), .int (nI c13), .int (nI c14), .ref m15, .ref m16, .ref m17, .ref m18, .ref m19, .int (nI c20), .int x21, .int (nI c22), .int (nI c23), .ref m24, .ref m25, .int (nI c26), .int (nI c27), .int x28, .ref m29, .ref m30, .ref m31, .ref m32, .ref m33, .ref m34, .int x35, .ref m36, .int (nI c37)])), (m2, .inl (ktp, 600, .inl (upd fq tq (vp_nar .byte xv))))] H := hP
            replace hD : va_D A [(h0, .inr (8, [.int 0, .int x1, .ref m2, .int (nI (tq + 1)), .ref m4, .ref m5, .ref m6, .ref m7, .ref m8, .ref m9, .ref m10, .ref m11, .int (nI c12), .int (nI c13), .int (nI c14), .ref m15, .ref m16, .ref m17, .ref m18, .ref m19, .int (nI c20), .int x21, .int (nI c22), .int (nI c23), .ref m24, .ref m25, .int (nI c26), .int (nI c27), .int x28, .ref m29, .ref m30, .ref m31, .ref m32, .ref m33, .ref m34, .int x35, .ref m36, .int (nI c37)])), (m2, .inl (ktp, 600, .inl (upd fq tq (vp_nar .byte xv))))] := hD
            have hk49 : fdT ft8 c3 p0 p1 p2 p3 p4 (kk + 1) (upd fq tq (vp_nar .byte xv)) := fdT_s hk4 hk2 (by rw [fdS_1 n_33 n_44]; exact fd_x (by omega) exq exu exv)
            apply ih23 (kk := kk + 1) (tq := tq + 1) (fq := upd fq tq (vp_nar .byte xv)) <;> first | assumption | omega
        · have n_33 : kk < 4 := Nat.not_le.mp (fun h9 => c_33 ((nI_leI (a := 4) (b := kk) (by omega) (by omega)).mpr h9))
          refine lv_iload_n hx hb dX8_feed_36 rfl (lv_at hl 1 rfl) ?_
          refine lv_goto (tgt := 76) hx hb dX8_feed_37 (by decide) ?_
          refine lv_istore (lv' := [(7, .int p0), (0, .ref h0), (1, .int p0), (2, .int p1), (3, .int p2), (4, .int p3), (5, .int p4), (6, .int (nI kk))]) hx hb dX8_feed_76 hl (by decide) rfl (fun ls hl => ?_)
          refine lv_aload_n hx hb dX8_feed_78 rfl (lv_at hl 1 rfl) ?_
          refine va_get (D := (dC, dI)) (ci := 8) (v := .ref m2) (C := RX8) (T := TX8) (N := 38) hx hb hts hi_X8 hown hK hP 0 rfl rfl 2 (by decide) k_f11 (fun _ h9 => h9) rfl dX8_feed_79 ?_
          refine lv_aload_n hx hb dX8_feed_82 rfl (lv_at hl 1 rfl) ?_
          refine va_get (D := (dC, dI)) (ci := 8) (v := .int (nI tq)) (C := RX8) (T := TX8) (N := 38) hx hb hts hi_X8 hown hK hP 0 rfl rfl 3 (by decide) k_f103 (fun _ h9 => h9) rfl dX8_feed_83 ?_
          refine lv_iload hx hb dX8_feed_86 (lv_at hl 0 rfl) ?_
          refine lv_bipush (v := 24) hx hb dX8_feed_88 (by decide) ?_
          refine lv_bipush (v := 8) hx hb dX8_feed_90 (by decide) ?_
          refine lv_iload hx hb dX8_feed_92 (lv_at hl 7 rfl) ?_
          refine lv_iconst (v := 4) hx hb dX8_feed_94 (by decide) ?_
          refine lv_irem hx hb dX8_feed_95 (by decide) ?_
          refine lv_topi (fun xq exq => ?_)
          refine lv_imul hx hb dX8_feed_96 ?_
          refine lv_isub hx hb dX8_feed_97 ?_
          refine lv_ishr hx hb dX8_feed_98 ?_
          refine lv_topi (fun xu exu => ?_)
          refine lv_i2b hx hb dX8_feed_99 rfl ?_
          refine lv_topi (fun xv exv => ?_)
          refine va_bast hx hb hK hP hD hS 1 0 rfl rfl (i := nI tq) (x := xv) (vp_in_nI (by omega) (by omega)) dX8_feed_100 (fun H locs hP hD hS => ?_)
          have er_100 : upd fq (nI tq : Int32).toNatClampNeg (vp_nar .byte xv) = upd fq tq (vp_nar .byte xv) := upd_at (by omega)
          replace hP : va_P (dC, dI) vwCl [(h0, .inr (8, [.int 0, .int x1, .ref m2, .int (nI tq), .ref m4, .ref m5, .ref m6, .ref m7, .ref m8, .ref m9, .ref m10, .ref m11, .int (nI c12), .int (nI c13), .int (nI c14), .ref m15, .ref m16, .ref m17, .ref m18, .ref m19, .int (nI c20), .int x21, .int (nI c22), .int (nI c23), .ref m24, .ref m25, .int (nI c26), .int (nI c27), .int x28, .ref m29, .ref m30, .ref m31, .ref m32, .ref m33, .ref m34, .int x35, .ref m36, .int (nI c37)])), (m2, .inl (ktp, 600, .inl (upd fq tq (vp_nar .byte xv))))] H := by rw [← er_100]; exact hP
          replace hD : va_D A [(h0, .inr (8, [.int 0, .int x1, .ref m2, .int (nI tq), .ref m4, .ref m5, .ref m6, .ref m7, .ref m8, .ref m9, .ref m10, .ref m11, .int (nI c12), .int (nI c13), .int (nI c14), .ref m15, .ref m16, .ref m17, .ref m18, .ref m19, .int (nI c20), .int x21, .int (nI c22), .int (nI c23), .ref m24, .ref m25, .int (nI c26), .int (nI c27), .int x28, .ref m29, .ref m30, .ref m31, .ref m32, .ref m33, .ref m34, .int x35, .ref m36, .int (nI c37)])), (m2, .inl (ktp, 600, .inl (upd fq tq (vp_nar .byte xv))))] := by rw [← er_100]; exact hD
          refine lv_aload_n hx hb dX8_feed_101 rfl (lv_at hl 1 rfl) ?_
          refine lv_dup hx hb dX8_feed_102 rfl ?_
          refine va_get (D := (dC, dI)) (ci := 8) (v := .int (nI tq)) (C := RX8) (T := TX8) (N := 38) hx hb hts hi_X8 hown hK hP 0 rfl rfl 3 (by decide) k_f103 (fun _ h9 => h9) rfl dX8_feed_103 ?_
          refine lv_iconst (v := 1) hx hb dX8_feed_106 (by decide) ?_
          refine lv_iadd hx hb dX8_feed_107 ?_
          refine lv_topi (fun x_107 ex_107 => ?_)
          obtain rfl : nI (tq + 1) = x_107 := Eq.symm (ex_107.trans (nI_add tq 1))
          refine va_put (D := (dC, dI)) (ci := 8) (v := .int (nI (tq + 1))) (ty := .int) (C := RX8) (T := TX8) (N := 38) hx hb hts hi_X8 tyX8 tyX8_ok nmX8 hown hK hP hD hS 0 rfl rfl 3 (by decide) k_f103 (fun _ h9 => h9) rfl (by decide +kernel) rfl rfl (Nat.le_of_ble_eq_true rfl) dX8_feed_108 (fun H locs hP hD hS => ?_)
          replace hP : va_P (dC, dI) vwCl [(h0, .inr (8, [.int 0, .int x1, .ref m2, .int (nI (tq + 1)), .ref m4, .ref m5, .ref m6, .ref m7, .ref m8, .ref m9, .ref m10, .ref m11, .int (nI c12), .int (nI c13), .int (nI c14), .ref m15, .ref m16, .ref m17, .ref m18, .ref m19, .int (nI c20), .int x21, .int (nI c22), .int (nI c23), .ref m24, .ref m25, .int (nI c26), .int (nI c27), .int x28, .ref m29, .ref m30, .ref m31, .ref m32, .ref m33, .ref m34, .int x35, .ref m36, .int (nI c37)])), (m2, .inl (ktp, 600, .inl (upd fq tq (vp_nar .byte xv))))] H := hP
          replace hD : va_D A [(h0, .inr (8, [.int 0, .int x1, .ref m2, .int (nI (tq + 1)), .ref m4, .ref m5, .ref m6, .ref m7, .ref m8, .ref m9, .ref m10, .ref m11, .int (nI c12), .int (nI c13), .int (nI c14), .ref m15, .ref m16, .ref m17, .ref m18, .ref m19, .int (nI c20), .int x21, .int (nI c22), .int (nI c23), .ref m24, .ref m25, .int (nI c26), .int (nI c27), .int x28, .ref m29, .ref m30, .ref m31, .ref m32, .ref m33, .ref m34, .int x35, .ref m36, .int (nI c37)])), (m2, .inl (ktp, 600, .inl (upd fq tq (vp_nar .byte xv))))] := hD
          refine lv_iinc (v := nI (kk + 1)) (lv' := [(6, .int (nI (kk + 1))), (7, .int p0), (0, .ref h0), (1, .int p0), (2, .int p1), (3, .int p2), (4, .int p3), (5, .int p4)]) hx hb dX8_feed_111 hl (k := 7) rfl (nI_1 _) (by decide) rfl (fun ls hl => ?_)
          refine lv_goto (tgt := 23) hx hb dX8_feed_114 (by decide) ?_
          replace hl : lv_has ls 8 [(0, .ref h0), (1, .int p0), (2, .int p1), (3, .int p2), (4, .int p3), (5, .int p4), (6, .int (nI (kk + 1)))] := lv_sub hl [2, 3, 4, 5, 6, 7, 0] rfl
          replace hP : va_P (dC, dI) vwCl [(h0, .inr (8, [.int 0, .int x1, .ref m2, .int (nI (tq + 1)), .ref m4, .ref m5, .ref m6, .ref m7, .ref m8, .ref m9, .ref m10, .ref m11, .int (nI c12), .int (nI c13), .int (nI c14), .ref m15, .ref m16, .ref m17, .ref m18, .ref m19, .int (nI c20), .int x21, .int (nI c22), .int (nI c23), .ref m24, .ref m25, .int (nI c26), .int (nI c27), .int x28, .ref m29, .ref m30, .ref m31, .ref m32, .ref m33, .ref m34, .int x35, .ref m36, .int (nI c37)])), (m2, .inl (ktp, 600, .inl (upd fq tq (vp_nar .byte xv))))] H := hP
          replace hD : va_D A [(h0, .inr (8, [.int 0, .int x1, .ref m2, .int (nI (tq + 1)), .ref m4, .ref m5, .ref m6, .ref m7, .ref m8, .ref m9, .ref m10, .ref m11, .int (nI c12), .int (nI c13), .int (nI c14), .ref m15, .ref m16, .ref m17, .ref m18, .ref m19, .int (nI c20), .int x21, .int (nI c22), .int (nI c23), .ref m24, .ref m25, .int (nI c26), .int (nI c27), .int x28, .ref m29, .ref m30, .ref m31, .ref m32, .ref m33, .ref m34, .int x35, .ref m36, .int (nI c37)])), (m2, .inl (ktp, 600, .inl (upd fq tq (vp_nar .byte xv))))] := hD
          have hk49 : fdT ft8 c3 p0 p1 p2 p3 p4 (kk + 1) (upd fq tq (vp_nar .byte xv)) := fdT_s hk4 hk2 (by rw [fdS_0 n_33]; exact fd_x (by omega) exq exu exv)
          apply ih23 (kk := kk + 1) (tq := tq + 1) (fq := upd fq tq (vp_nar .byte xv)) <;> first | assumption | omega
  · have n_15 : 600 < (c3 + 20) := Nat.not_le.mp (fun h9 => c_15 ((nI_leI (a := (c3 + 20)) (b := 600) (by omega) (by omega)).mpr h9))
    refine lv_iconst (v := (-1)) hx hb dX8_feed_18 (by decide) ?_
    have hP9 := hP.sub (ws' := [(h0, .inr (8, [.int 0, .int x1, .ref m2, .int (nI c3), .ref m4, .ref m5, .ref m6, .ref m7, .ref m8, .ref m9, .ref m10, .ref m11, .int (nI c12), .int (nI c13), .int (nI c14), .ref m15, .ref m16, .ref m17, .ref m18, .ref m19, .int (nI c20), .int x21, .int (nI c22), .int (nI c23), .ref m24, .ref m25, .int (nI c26), .int (nI c27), .int x28, .ref m29, .ref m30, .ref m31, .ref m32, .ref m33, .ref m34, .int x35, .ref m36, .int (nI c37)])), (m2, .inl (ktp, 600, .inl ft8))]) [0, 1] rfl
    have hD9 := hD.sub (ws' := [(h0, .inr (8, [.int 0, .int x1, .ref m2, .int (nI c3), .ref m4, .ref m5, .ref m6, .ref m7, .ref m8, .ref m9, .ref m10, .ref m11, .int (nI c12), .int (nI c13), .int (nI c14), .ref m15, .ref m16, .ref m17, .ref m18, .ref m19, .int (nI c20), .int x21, .int (nI c22), .int (nI c23), .ref m24, .ref m25, .int (nI c26), .int (nI c27), .int x28, .ref m29, .ref m30, .ref m31, .ref m32, .ref m33, .ref m34, .int x35, .ref m36, .int (nI c37)])), (m2, .inl (ktp, 600, .inl ft8))]) [0, 1] (by decide) rfl
    exact W.iret (v := (-1)) hx hb hr (fun t ht hW => ⟨⟨(-1), (c3, ft8), rfl, ⟨by exact ⟨fun _ => ⟨rfl, rfl⟩, fun h => absurd h (by omega)⟩, by exact fun j => (if_neg (by omega)).symm⟩, by rw [ht]; exact hP9, hD9⟩, hS.F ht⟩) hS.2.2 dX8_feed_19
