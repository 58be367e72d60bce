set_option maxHeartbeats 4000000 in
set_option maxRecDepth 100000 in
theorem c_X8_feed (l : Launch) (dC : Nat → ClassId) (dI : Nat → Nat → Nat) (h0 : Nat) (w0 : Int32) (w1 : Int32) (m2 : Nat) (m4 : Nat) (m5 : Nat) (m6 : Nat) (m7 : Nat) (m8 : Nat) (m9 : Nat) (m10 : Nat) (m11 : Nat) (w12 : Int32) (w13 : Int32) (w14 : Int32) (m15 : Nat) (m16 : Nat) (m17 : Nat) (m18 : Nat) (m19 : Nat) (w20 : Int32) (w21 : Int32) (w22 : Int32) (w23 : Int32) (m24 : Nat) (m25 : Nat) (w26 : Int32) (w27 : Int32) (w28 : Int32) (m29 : Nat) (m30 : Nat) (m31 : Nat) (m32 : Nat) (m33 : Nat) (m34 : Nat) (w35 : Int32) (m36 : Nat) (w37 : Int32) (kt : ClassId) (ft : Nat → Int32) (tt : Nat) (p0 : Int32) (p1 : Int32) (p2 : Int32) (p3 : Int32) (p4 : Int32) (wt : Int32) (sz : Nat) (ht_ : tt ≤ 580) (e1 : wt = nI tt) : Met l yX8_feed wsX8_feed ({ frames := 0, cells := 0, slots := 0, locals := 0 }) (va_Pc [.ref h0, .int p0, .int p1, .int p2, .int p3, .int p4] (fun U => U.heap.size = sz ∧ va_P (dC, dI) vwCl [(h0, .inr (8, [.int w0, .int w1, .ref m2, .int wt, .ref m4, .ref m5, .ref m6, .ref m7, .ref m8, .ref m9, .ref m10, .ref m11, .int w12, .int w13, .int w14, .ref m15, .ref m16, .ref m17, .ref m18, .ref m19, .int w20, .int w21, .int w22, .int w23, .ref m24, .ref m25, .int w26, .int w27, .int w28, .ref m29, .ref m30, .ref m31, .ref m32, .ref m33, .ref m34, .int w35, .ref m36, .int w37])), (m2, .inl (kt, 600, .inl ft))] U.heap ∧ va_K (dC, dI) vwCl [(kt, .byte)] U ∧ va_D (fun _ => True) [(h0, .inr (8, [.int w0, .int w1, .ref m2, .int wt, .ref m4, .ref m5, .ref m6, .ref m7, .ref m8, .ref m9, .ref m10, .ref m11, .int w12, .int w13, .int w14, .ref m15, .ref m16, .ref m17, .ref m18, .ref m19, .int w20, .int w21, .int w22, .int w23, .ref m24, .ref m25, .int w26, .int w27, .int w28, .ref m29, .ref m30, .ref m31, .ref m32, .ref m33, .ref m34, .int w35, .ref m36, .int w37])), (m2, .inl (kt, 600, .inl ft))])) (va_Qi (fun (r : Int32) (u : Nat → Int32) => match u with | fo => r = nI (tt + 20)) (fun (u : Nat → Int32) (t : State) => match u with | fo => va_P (dC, dI) vwCl [(h0, .inr (8, [.int 0, .int w1, .ref m2, .int (nI (tt + 20)), .ref m4, .ref m5, .ref m6, .ref m7, .ref m8, .ref m9, .ref m10, .ref m11, .int w12, .int w13, .int w14, .ref m15, .ref m16, .ref m17, .ref m18, .ref m19, .int w20, .int w21, .int w22, .int w23, .ref m24, .ref m25, .int w26, .int w27, .int w28, .ref m29, .ref m30, .ref m31, .ref m32, .ref m33, .ref m34, .int w35, .ref m36, .int w37])), (m2, .inl (kt, 600, .inl fo))] t.heap ∧ va_D (va_A [(h0, .inr (8, [.int w0, .int w1, .ref m2, .int wt, .ref m4, .ref m5, .ref m6, .ref m7, .ref m8, .ref m9, .ref m10, .ref m11, .int w12, .int w13, .int w14, .ref m15, .ref m16, .ref m17, .ref m18, .ref m19, .int w20, .int w21, .int w22, .int w23, .ref m24, .ref m25, .int w26, .int w27, .int w28, .ref m29, .ref m30, .ref m31, .ref m32, .ref m33, .ref m34, .int w35, .ref m36, .int w37])), (m2, .inl (kt, 600, .inl ft))] sz) [(h0, .inr (8, [.int 0, .int w1, .ref m2, .int (nI (tt + 20)), .ref m4, .ref m5, .ref m6, .ref m7, .ref m8, .ref m9, .ref m10, .ref m11, .int w12, .int w13, .int w14, .ref m15, .ref m16, .ref m17, .ref m18, .ref m19, .int w20, .int w21, .int w22, .int w23, .ref m24, .ref m25, .int w26, .int w27, .int w28, .ref m29, .ref m30, .ref m31, .ref m32, .ref m33, .ref m34, .int w35, .ref m36, .int w37])), (m2, .inl (kt, 600, .inl fo))]) (va_A [(h0, .inr (8, [.int w0, .int w1, .ref m2, .int wt, .ref m4, .ref m5, .ref m6, .ref m7, .ref m8, .ref m9, .ref m10, .ref m11, .int w12, .int w13, .int w14, .ref m15, .ref m16, .ref m17, .ref m18, .ref m19, .int w20, .int w21, .int w22, .int w23, .ref m24, .ref m25, .int w26, .int w27, .int w28, .ref m29, .ref m30, .ref m31, .ref m32, .ref m33, .ref m34, .int w35, .ref m36, .int w37])), (m2, .inl (kt, 600, .inl ft))] sz)) 0 0 (va_A [(h0, .inr (8, [.int w0, .int w1, .ref m2, .int wt, .ref m4, .ref m5, .ref m6, .ref m7, .ref m8, .ref m9, .ref m10, .ref m11, .int w12, .int w13, .int w14, .ref m15, .ref m16, .ref m17, .ref m18, .ref m19, .int w20, .int w21, .int w22, .int w23, .ref m24, .ref m25, .int w26, .int w27, .int w28, .ref m29, .ref m30, .ref m31, .ref m32, .ref m33, .ref m34, .int w35, .ref m36, .int w37])), (m2, .inl (kt, 600, .inl ft))] sz) := by
  refine Met.ofW (cc := cX8_feed) (maxL := 8) (ret := (some .int)) (by decide) rfl ?_
  intro p e s m args below meth c s₁ B hml hv
  obtain ⟨rfl, hsz, hP, hK, hD0⟩ := hv
  have hx := B.exec
  have hb := B.bytes
  have hr := B.returns
  have hts := atoms_spec (ws := wsX8_feed) B.pre
  have hown : s.vm.findClass RX8 = some m.cls := findClass_of_methodNamed B.named
  have hlocks := B.notSynchronized
  subst hsz
  have hD := hD0.self (sz := s.heap.size)
  generalize hAe : va_A [(h0, .inr (8, [.int w0, .int w1, .ref m2, .int wt, .ref m4, .ref m5, .ref m6, .ref m7, .ref m8, .ref m9, .ref m10, .ref m11, .int w12, .int w13, .int w14, .ref m15, .ref m16, .ref m17, .ref m18, .ref m19, .int w20, .int w21, .int w22, .int w23, .ref m24, .ref m25, .int w26, .int w27, .int w28, .ref m29, .ref m30, .ref m31, .ref m32, .ref m33, .ref m34, .int w35, .ref m36, .int w37])), (m2, .inl (kt, 600, .inl ft))] s.heap.size = A at hD ⊢
  have hA : ∀ q : Nat, s.heap.size ≤ q → A q := fun q h => by rw [← hAe]; exact Or.inr h
  have hS : va_S A s.heap s.heap [] := va_S.rf
  replace hP : va_P (dC, dI) vwCl [(h0, .inr (8, [.int w0, .int w1, .ref m2, .int wt, .ref m4, .ref m5, .ref m6, .ref m7, .ref m8, .ref m9, .ref m10, .ref m11, .int w12, .int w13, .int w14, .ref m15, .ref m16, .ref m17, .ref m18, .ref m19, .int w20, .int w21, .int w22, .int w23, .ref m24, .ref m25, .int w26, .int w27, .int w28, .ref m29, .ref m30, .ref m31, .ref m32, .ref m33, .ref m34, .int w35, .ref m36, .int w37])), (m2, .inl (kt, 600, .inl ft))] s.heap := hP
  have hl := lv_entry ([.ref h0, .int p0, .int p1, .int p2, .int p3, .int p4]) (n := 8) (Nat.le_of_ble_eq_true rfl)
  rw [lg_entry_eq]
  generalize (lg_sl ([.ref h0, .int p0, .int p1, .int p2, .int p3, .int p4]) ++ List.replicate (8 - (lg_sl ([.ref h0, .int p0, .int p1, .int p2, .int p3, .int p4])).length) Slot.unset).toArray = ls at hl ⊢
  replace hl : lv_has ls 8 [(0, .ref h0), (1, .int p0), (2, .int p1), (3, .int p2), (4, .int p3), (5, .int p4)] := hl
  subst e1
  have hi_X8 : ∀ w ∈ wsX80, w ∈ wsX8_feed := by decide +kernel
  have k_f97 := hts (.fieldLink RX8 97 "TongueTellerModel" "thrown" "I") (by decide +kernel)
  have k_f103 := hts (.fieldLink RX8 103 "TongueTellerModel" "taped" "I") (by decide +kernel)
  have k_f11 := hts (.fieldLink RX8 11 "TongueTellerModel" "tape" "[B") (by decide +kernel)
  refine lv_aload_n hx hb dX8_feed_0 rfl (lv_at hl 0 rfl) ?_
  refine lv_iconst (v := 0) hx hb dX8_feed_1 (by decide) ?_
  refine va_put (D := (dC, dI)) (ci := 8) (v := .int 0) (ty := .int) (C := RX8) (T := TX8) (N := 38) hx hb hts hi_X8 tyX8 tyX8_ok nmX8 hown hK hP hD hS 0 rfl rfl 0 (by decide) k_f97 (fun _ h9 => h9) rfl (by decide +kernel) rfl rfl (Nat.le_of_ble_eq_true rfl) dX8_feed_2 (fun H locs hP hD hS => ?_)
  replace hP : va_P (dC, dI) vwCl [(h0, .inr (8, [.int 0, .int w1, .ref m2, .int (nI tt), .ref m4, .ref m5, .ref m6, .ref m7, .ref m8, .ref m9, .ref m10, .ref m11, .int w12, .int w13, .int w14, .ref m15, .ref m16, .ref m17, .ref m18, .ref m19, .int w20, .int w21, .int w22, .int w23, .ref m24, .ref m25, .int w26, .int w27, .int w28, .ref m29, .ref m30, .ref m31, .ref m32, .ref m33, .ref m34, .int w35, .ref m36, .int w37])), (m2, .inl (kt, 600, .inl ft))] H := hP
  replace hD : va_D A [(h0, .inr (8, [.int 0, .int w1, .ref m2, .int (nI tt), .ref m4, .ref m5, .ref m6, .ref m7, .ref m8, .ref m9, .ref m10, .ref m11, .int w12, .int w13, .int w14, .ref m15, .ref m16, .ref m17, .ref m18, .ref m19, .int w20, .int w21, .int w22, .int w23, .ref m24, .ref m25, .int w26, .int w27, .int w28, .ref m29, .ref m30, .ref m31, .ref m32, .ref m33, .ref m34, .int w35, .ref m36, .int w37])), (m2, .inl (kt, 600, .inl ft))] := hD
  refine lv_aload_n hx hb dX8_feed_5 rfl (lv_at hl 0 rfl) ?_
  refine va_get (D := (dC, dI)) (ci := 8) (v := .int (nI tt)) (C := RX8) (T := TX8) (N := 38) hx hb hts hi_X8 hown hK hP 0 rfl rfl 3 (by decide) k_f103 (fun _ h9 => h9) rfl dX8_feed_6 ?_
  refine lv_bipush (v := 20) hx hb dX8_feed_9 (by decide) ?_
  refine lv_iadd hx hb dX8_feed_11 ?_
  refine lv_topi (fun x_11 ex_11 => ?_)
  obtain rfl : x_11 = nI (tt + 20) := ex_11.trans (nI_add _ _)
  refine lv_sipush (v := 600) hx hb dX8_feed_12 (by decide) ?_
  refine lv_icmp_le (tgt := 20) hx hb dX8_feed_15 (by decide) (fun c_15 => ?_) (fun c_15 => ?_)
  rotate_left
  · exact absurd (nI_le (b := 600) (by omega) (by omega)) c_15
  refine lv_iconst (v := 0) hx hb dX8_feed_20 (by decide) ?_
  refine lv_istore (lv' := [(6, .int 0), (0, .ref h0), (1, .int p0), (2, .int p1), (3, .int p2), (4, .int p3), (5, .int p4)]) hx hb dX8_feed_21 hl (by decide) rfl (fun ls hl => ?_)
  obtain ⟨k, hk⟩ : ∃ k : Nat, k = 0 := ⟨0, rfl⟩
  obtain ⟨g, hg⟩ : ∃ g : Nat → Int32, g = ft := ⟨_, rfl⟩
  replace hl : lv_has ls 8 [(0, .ref h0), (1, .int p0), (2, .int p1), (3, .int p2), (4, .int p3), (5, .int p4), (6, .int (nI k))] := by rw [hk, nI_0]; exact lv_sub hl [1, 2, 3, 4, 5, 6, 0] rfl
  replace hP : va_P (dC, dI) vwCl [(h0, .inr (8, [.int 0, .int w1, .ref m2, .int (nI (tt + k)), .ref m4, .ref m5, .ref m6, .ref m7, .ref m8, .ref m9, .ref m10, .ref m11, .int w12, .int w13, .int w14, .ref m15, .ref m16, .ref m17, .ref m18, .ref m19, .int w20, .int w21, .int w22, .int w23, .ref m24, .ref m25, .int w26, .int w27, .int w28, .ref m29, .ref m30, .ref m31, .ref m32, .ref m33, .ref m34, .int w35, .ref m36, .int w37])), (m2, .inl (kt, 600, .inl g))] H := by rw [hk, hg]; exact hP
  replace hD : va_D A [(h0, .inr (8, [.int 0, .int w1, .ref m2, .int (nI (tt + k)), .ref m4, .ref m5, .ref m6, .ref m7, .ref m8, .ref m9, .ref m10, .ref m11, .int w12, .int w13, .int w14, .ref m15, .ref m16, .ref m17, .ref m18, .ref m19, .int w20, .int w21, .int w22, .int w23, .ref m24, .ref m25, .int w26, .int w27, .int w28, .ref m29, .ref m30, .ref m31, .ref m32, .ref m33, .ref m34, .int w35, .ref m36, .int w37])), (m2, .inl (kt, 600, .inl g))] := by rw [hk, hg]; exact hD
  have hk0 : k ≤ 20 := by omega
  obtain ⟨n, hn⟩ : ∃ n : Nat, 20 < k + n := ⟨21, by omega⟩
  clear hk hg
  induction n generalizing k g H locs ls with
  | zero => omega
  | succ n ih =>
    refine lv_iload hx hb dX8_feed_23 (lv_at hl 6 rfl) ?_
    refine lv_bipush (v := 20) hx hb dX8_feed_25 (by decide) ?_
    refine lv_icmp_ge (tgt := 117) hx hb dX8_feed_27 (by decide) (fun c_27 => ?_) (fun c_27 => ?_)
    · obtain rfl : k = 20 := by have := (nI_leI (a := 20) (by omega) (by omega)).mp c_27; omega
      refine lv_aload_n hx hb dX8_feed_117 rfl (lv_at hl 0 rfl) ?_
      refine va_get (D := (dC, dI)) (ci := 8) (v := .int (nI (tt + 20))) (C := RX8) (T := TX8) (N := 38) hx hb hts hi_X8 hown hK hP 0 rfl rfl 3 (by decide) k_f103 (fun _ h9 => h9) rfl dX8_feed_118 ?_
      have hP9 := hP.sub (ws' := [(h0, .inr (8, [.int 0, .int w1, .ref m2, .int (nI (tt + 20)), .ref m4, .ref m5, .ref m6, .ref m7, .ref m8, .ref m9, .ref m10, .ref m11, .int w12, .int w13, .int w14, .ref m15, .ref m16, .ref m17, .ref m18, .ref m19, .int w20, .int w21, .int w22, .int w23, .ref m24, .ref m25, .int w26, .int w27, .int w28, .ref m29, .ref m30, .ref m31, .ref m32, .ref m33, .ref m34, .int w35, .ref m36, .int w37])), (m2, .inl (kt, 600, .inl g))]) [0, 1] rfl
      have hD9 := hD.sub (ws' := [(h0, .inr (8, [.int 0, .int w1, .ref m2, .int (nI (tt + 20)), .ref m4, .ref m5, .ref m6, .ref m7, .ref m8, .ref m9, .ref m10, .ref m11, .int w12, .int w13, .int w14, .ref m15, .ref m16, .ref m17, .ref m18, .ref m19, .int w20, .int w21, .int w22, .int w23, .ref m24, .ref m25, .int w26, .int w27, .int w28, .ref m29, .ref m30, .ref m31, .ref m32, .ref m33, .ref m34, .int w35, .ref m36, .int w37])), (m2, .inl (kt, 600, .inl g))]) [0, 1] (by decide) rfl
      exact W.iret (v := nI (tt + 20)) hx hb hr (fun t ht hW => ⟨⟨nI (tt + 20), g, rfl, rfl, by rw [ht]; exact hP9, hD9⟩, hS.F ht⟩) hS.2.2 dX8_feed_121
    · have hk1 : k < 20 := by rcases Nat.lt_or_ge k 20 with h | h; exact h; exact absurd (nI_le (a := 20) h (by omega)) c_27
      refine lv_iload hx hb dX8_feed_30 (lv_at hl 6 rfl) ?_
      refine lv_iconst (v := 4) hx hb dX8_feed_32 (by decide) ?_
      refine lv_icmp_ge (tgt := 40) hx hb dX8_feed_33 (by decide) (fun c_33 => ?_) (fun c_33 => ?_)
      · refine lv_iload hx hb dX8_feed_40 (lv_at hl 6 rfl) ?_
        refine lv_bipush (v := 8) hx hb dX8_feed_42 (by decide) ?_
        refine lv_icmp_ge (tgt := 51) hx hb dX8_feed_44 (by decide) (fun c_44 => ?_) (fun c_44 => ?_)
        · refine lv_iload hx hb dX8_feed_51 (lv_at hl 6 rfl) ?_
          refine lv_bipush (v := 12) hx hb dX8_feed_53 (by decide) ?_
          refine lv_icmp_ge (tgt := 62) hx hb dX8_feed_55 (by decide) (fun c_55 => ?_) (fun c_55 => ?_)
          · refine lv_iload hx hb dX8_feed_62 (lv_at hl 6 rfl) ?_
            refine lv_bipush (v := 16) hx hb dX8_feed_64 (by decide) ?_
            refine lv_icmp_ge (tgt := 74) hx hb dX8_feed_66 (by decide) (fun c_66 => ?_) (fun c_66 => ?_)
            · refine lv_iload hx hb dX8_feed_74 (lv_at hl 5 rfl) ?_
              refine lv_istore (lv' := [(7, .int p4), (0, .ref h0), (1, .int p0), (2, .int p1), (3, .int p2), (4, .int p3), (5, .int p4), (6, .int (nI k))]) hx hb dX8_feed_76 hl (by decide) rfl (fun ls hl => ?_)
              refine lv_aload_n hx hb dX8_feed_78 rfl (lv_at hl 1 rfl) ?_
              refine va_get (D := (dC, dI)) (ci := 8) (v := .ref m2) (C := RX8) (T := TX8) (N := 38) hx hb hts hi_X8 hown hK hP 0 rfl rfl 2 (by decide) k_f11 (fun _ h9 => h9) rfl dX8_feed_79 ?_
              refine lv_aload_n hx hb dX8_feed_82 rfl (lv_at hl 1 rfl) ?_
              refine va_get (D := (dC, dI)) (ci := 8) (v := .int (nI (tt + k))) (C := RX8) (T := TX8) (N := 38) hx hb hts hi_X8 hown hK hP 0 rfl rfl 3 (by decide) k_f103 (fun _ h9 => h9) rfl dX8_feed_83 ?_
              refine lv_iload hx hb dX8_feed_86 (lv_at hl 0 rfl) ?_
              refine lv_bipush (v := 24) hx hb dX8_feed_88 (by decide) ?_
              refine lv_bipush (v := 8) hx hb dX8_feed_90 (by decide) ?_
              refine lv_iload hx hb dX8_feed_92 (lv_at hl 7 rfl) ?_
              refine lv_iconst (v := 4) hx hb dX8_feed_94 (by decide) ?_
              refine lv_irem hx hb dX8_feed_95 (by decide) ?_
              refine lv_imul hx hb dX8_feed_96 ?_
              refine lv_isub hx hb dX8_feed_97 ?_
              refine lv_ishr hx hb dX8_feed_98 ?_
              refine lv_i2b hx hb dX8_feed_99 rfl ?_
              refine va_bast hx hb hK hP hD hS 1 0 rfl rfl (i := nI (tt + k)) (x := (p4 >>> ((24 - (8 * ((nI k) - (nI k) / 4 * 4))) &&& 31)).toInt8.toInt32) (vp_in_nI (by omega) (by omega)) dX8_feed_100 (fun H locs hP hD hS => ?_)
              replace hP : va_P (dC, dI) vwCl [(h0, .inr (8, [.int 0, .int w1, .ref m2, .int (nI (tt + k)), .ref m4, .ref m5, .ref m6, .ref m7, .ref m8, .ref m9, .ref m10, .ref m11, .int w12, .int w13, .int w14, .ref m15, .ref m16, .ref m17, .ref m18, .ref m19, .int w20, .int w21, .int w22, .int w23, .ref m24, .ref m25, .int w26, .int w27, .int w28, .ref m29, .ref m30, .ref m31, .ref m32, .ref m33, .ref m34, .int w35, .ref m36, .int w37])), (m2, .inl (kt, 600, .inl (upd g (nI (tt + k) : Int32).toNatClampNeg (vp_nar .byte ((p4 >>> ((24 - (8 * ((nI k) - (nI k) / 4 * 4))) &&& 31)).toInt8.toInt32)))))] H := hP
              replace hD : va_D A [(h0, .inr (8, [.int 0, .int w1, .ref m2, .int (nI (tt + k)), .ref m4, .ref m5, .ref m6, .ref m7, .ref m8, .ref m9, .ref m10, .ref m11, .int w12, .int w13, .int w14, .ref m15, .ref m16, .ref m17, .ref m18, .ref m19, .int w20, .int w21, .int w22, .int w23, .ref m24, .ref m25, .int w26, .int w27, .int w28, .ref m29, .ref m30, .ref m31, .ref m32, .ref m33, .ref m34, .int w35, .ref m36, .int w37])), (m2, .inl (kt, 600, .inl (upd g (nI (tt + k) : Int32).toNatClampNeg (vp_nar .byte ((p4 >>> ((24 - (8 * ((nI k) - (nI k) / 4 * 4))) &&& 31)).toInt8.toInt32)))))] := hD
              obtain ⟨g1, eg1⟩ : ∃ y : Nat → Int32, y = upd g (nI (tt + k) : Int32).toNatClampNeg (vp_nar .byte ((p4 >>> ((24 - (8 * ((nI k) - (nI k) / 4 * 4))) &&& 31)).toInt8.toInt32)) := ⟨_, rfl⟩
              replace hP : va_P (dC, dI) vwCl [(h0, .inr (8, [.int 0, .int w1, .ref m2, .int (nI (tt + k)), .ref m4, .ref m5, .ref m6, .ref m7, .ref m8, .ref m9, .ref m10, .ref m11, .int w12, .int w13, .int w14, .ref m15, .ref m16, .ref m17, .ref m18, .ref m19, .int w20, .int w21, .int w22, .int w23, .ref m24, .ref m25, .int w26, .int w27, .int w28, .ref m29, .ref m30, .ref m31, .ref m32, .ref m33, .ref m34, .int w35, .ref m36, .int w37])), (m2, .inl (kt, 600, .inl g1))] H := by rw [eg1]; exact hP
              replace hD : va_D A [(h0, .inr (8, [.int 0, .int w1, .ref m2, .int (nI (tt + k)), .ref m4, .ref m5, .ref m6, .ref m7, .ref m8, .ref m9, .ref m10, .ref m11, .int w12, .int w13, .int w14, .ref m15, .ref m16, .ref m17, .ref m18, .ref m19, .int w20, .int w21, .int w22, .int w23, .ref m24, .ref m25, .int w26, .int w27, .int w28, .ref m29, .ref m30, .ref m31, .ref m32, .ref m33, .ref m34, .int w35, .ref m36, .int w37])), (m2, .inl (kt, 600, .inl g1))] := by rw [eg1]; exact hD
              refine lv_aload_n hx hb dX8_feed_101 rfl (lv_at hl 1 rfl) ?_
              refine lv_dup hx hb dX8_feed_102 rfl ?_
              refine va_get (D := (dC, dI)) (ci := 8) (v := .int (nI (tt + k))) (C := RX8) (T := TX8) (N := 38) hx hb hts hi_X8 hown hK hP 0 rfl rfl 3 (by decide) k_f103 (fun _ h9 => h9) rfl dX8_feed_103 ?_
              refine lv_iconst (v := 1) hx hb dX8_feed_106 (by decide) ?_
              refine lv_iadd hx hb dX8_feed_107 ?_
              refine va_put (D := (dC, dI)) (ci := 8) (v := .int ((nI (tt + k)) + 1)) (ty := .int) (C := RX8) (T := TX8) (N := 38) hx hb hts hi_X8 tyX8 tyX8_ok nmX8 hown hK hP hD hS 0 rfl rfl 3 (by decide) k_f103 (fun _ h9 => h9) rfl (by decide +kernel) rfl rfl (Nat.le_of_ble_eq_true rfl) dX8_feed_108 (fun H locs hP hD hS => ?_)
              replace hP : va_P (dC, dI) vwCl [(h0, .inr (8, [.int 0, .int w1, .ref m2, .int ((nI (tt + k)) + 1), .ref m4, .ref m5, .ref m6, .ref m7, .ref m8, .ref m9, .ref m10, .ref m11, .int w12, .int w13, .int w14, .ref m15, .ref m16, .ref m17, .ref m18, .ref m19, .int w20, .int w21, .int w22, .int w23, .ref m24, .ref m25, .int w26, .int w27, .int w28, .ref m29, .ref m30, .ref m31, .ref m32, .ref m33, .ref m34, .int w35, .ref m36, .int w37])), (m2, .inl (kt, 600, .inl g1))] H := hP
              replace hD : va_D A [(h0, .inr (8, [.int 0, .int w1, .ref m2, .int ((nI (tt + k)) + 1), .ref m4, .ref m5, .ref m6, .ref m7, .ref m8, .ref m9, .ref m10, .ref m11, .int w12, .int w13, .int w14, .ref m15, .ref m16, .ref m17, .ref m18, .ref m19, .int w20, .int w21, .int w22, .int w23, .ref m24, .ref m25, .int w26, .int w27, .int w28, .ref m29, .ref m30, .ref m31, .ref m32, .ref m33, .ref m34, .int w35, .ref m36, .int w37])), (m2, .inl (kt, 600, .inl g1))] := hD
              refine lv_iinc (v := (nI k) + 1) (lv' := [(6, .int ((nI k) + 1)), (7, .int p4), (0, .ref h0), (1, .int p0), (2, .int p1), (3, .int p2), (4, .int p3), (5, .int p4)]) hx hb dX8_feed_111 hl (k := 7) rfl rfl (by decide) rfl (fun ls hl => ?_)
              refine lv_goto (tgt := 23) hx hb dX8_feed_114 (by decide) ?_
              replace hl : lv_has ls 8 [(0, .ref h0), (1, .int p0), (2, .int p1), (3, .int p2), (4, .int p3), (5, .int p4), (6, .int (nI (k + 1)))] := by rw [← nI_1]; exact lv_sub hl [2, 3, 4, 5, 6, 7, 0] rfl
              have e9 : nI (tt + (k + 1)) = nI (tt + k) + 1 := (nI_1 _).symm
              replace hP : va_P (dC, dI) vwCl [(h0, .inr (8, [.int 0, .int w1, .ref m2, .int (nI (tt + (k + 1))), .ref m4, .ref m5, .ref m6, .ref m7, .ref m8, .ref m9, .ref m10, .ref m11, .int w12, .int w13, .int w14, .ref m15, .ref m16, .ref m17, .ref m18, .ref m19, .int w20, .int w21, .int w22, .int w23, .ref m24, .ref m25, .int w26, .int w27, .int w28, .ref m29, .ref m30, .ref m31, .ref m32, .ref m33, .ref m34, .int w35, .ref m36, .int w37])), (m2, .inl (kt, 600, .inl g1))] H := by rw [e9]; exact hP
              replace hD : va_D A [(h0, .inr (8, [.int 0, .int w1, .ref m2, .int (nI (tt + (k + 1))), .ref m4, .ref m5, .ref m6, .ref m7, .ref m8, .ref m9, .ref m10, .ref m11, .int w12, .int w13, .int w14, .ref m15, .ref m16, .ref m17, .ref m18, .ref m19, .int w20, .int w21, .int w22, .int w23, .ref m24, .ref m25, .int w26, .int w27, .int w28, .ref m29, .ref m30, .ref m31, .ref m32, .ref m33, .ref m34, .int w35, .ref m36, .int w37])), (m2, .inl (kt, 600, .inl g1))] := by rw [e9]; exact hD
              apply ih (k := k + 1) <;> first | assumption | omega
            · refine lv_iload hx hb dX8_feed_69 (lv_at hl 4 rfl) ?_
              refine lv_goto (tgt := 76) hx hb dX8_feed_71 (by decide) ?_
              refine lv_istore (lv' := [(7, .int p3), (0, .ref h0), (1, .int p0), (2, .int p1), (3, .int p2), (4, .int p3), (5, .int p4), (6, .int (nI k))]) hx hb dX8_feed_76 hl (by decide) rfl (fun ls hl => ?_)
              refine lv_aload_n hx hb dX8_feed_78 rfl (lv_at hl 1 rfl) ?_
              refine va_get (D := (dC, dI)) (ci := 8) (v := .ref m2) (C := RX8) (T := TX8) (N := 38) hx hb hts hi_X8 hown hK hP 0 rfl rfl 2 (by decide) k_f11 (fun _ h9 => h9) rfl dX8_feed_79 ?_
              refine lv_aload_n hx hb dX8_feed_82 rfl (lv_at hl 1 rfl) ?_
              refine va_get (D := (dC, dI)) (ci := 8) (v := .int (nI (tt + k))) (C := RX8) (T := TX8) (N := 38) hx hb hts hi_X8 hown hK hP 0 rfl rfl 3 (by decide) k_f103 (fun _ h9 => h9) rfl dX8_feed_83 ?_
              refine lv_iload hx hb dX8_feed_86 (lv_at hl 0 rfl) ?_
              refine lv_bipush (v := 24) hx hb dX8_feed_88 (by decide) ?_
              refine lv_bipush (v := 8) hx hb dX8_feed_90 (by decide) ?_
              refine lv_iload hx hb dX8_feed_92 (lv_at hl 7 rfl) ?_
              refine lv_iconst (v := 4) hx hb dX8_feed_94 (by decide) ?_
              refine lv_irem hx hb dX8_feed_95 (by decide) ?_
              refine lv_imul hx hb dX8_feed_96 ?_
              refine lv_isub hx hb dX8_feed_97 ?_
              refine lv_ishr hx hb dX8_feed_98 ?_
              refine lv_i2b hx hb dX8_feed_99 rfl ?_
              refine va_bast hx hb hK hP hD hS 1 0 rfl rfl (i := nI (tt + k)) (x := (p3 >>> ((24 - (8 * ((nI k) - (nI k) / 4 * 4))) &&& 31)).toInt8.toInt32) (vp_in_nI (by omega) (by omega)) dX8_feed_100 (fun H locs hP hD hS => ?_)
              replace hP : va_P (dC, dI) vwCl [(h0, .inr (8, [.int 0, .int w1, .ref m2, .int (nI (tt + k)), .ref m4, .ref m5, .ref m6, .ref m7, .ref m8, .ref m9, .ref m10, .ref m11, .int w12, .int w13, .int w14, .ref m15, .ref m16, .ref m17, .ref m18, .ref m19, .int w20, .int w21, .int w22, .int w23, .ref m24, .ref m25, .int w26, .int w27, .int w28, .ref m29, .ref m30, .ref m31, .ref m32, .ref m33, .ref m34, .int w35, .ref m36, .int w37])), (m2, .inl (kt, 600, .inl (upd g (nI (tt + k) : Int32).toNatClampNeg (vp_nar .byte ((p3 >>> ((24 - (8 * ((nI k) - (nI k) / 4 * 4))) &&& 31)).toInt8.toInt32)))))] H := hP
              replace hD : va_D A [(h0, .inr (8, [.int 0, .int w1, .ref m2, .int (nI (tt + k)), .ref m4, .ref m5, .ref m6, .ref m7, .ref m8, .ref m9, .ref m10, .ref m11, .int w12, .int w13, .int w14, .ref m15, .ref m16, .ref m17, .ref m18, .ref m19, .int w20, .int w21, .int w22, .int w23, .ref m24, .ref m25, .int w26, .int w27, .int w28, .ref m29, .ref m30, .ref m31, .ref m32, .ref m33, .ref m34, .int w35, .ref m36, .int w37])), (m2, .inl (kt, 600, .inl (upd g (nI (tt + k) : Int32).toNatClampNeg (vp_nar .byte ((p3 >>> ((24 - (8 * ((nI k) - (nI k) / 4 * 4))) &&& 31)).toInt8.toInt32)))))] := hD
              obtain ⟨g1, eg1⟩ : ∃ y : Nat → Int32, y = upd g (nI (tt + k) : Int32).toNatClampNeg (vp_nar .byte ((p3 >>> ((24 - (8 * ((nI k) - (nI k) / 4 * 4))) &&& 31)).toInt8.toInt32)) := ⟨_, rfl⟩
              replace hP : va_P (dC, dI) vwCl [(h0, .inr (8, [.int 0, .int w1, .ref m2, .int (nI (tt + k)), .ref m4, .ref m5, .ref m6, .ref m7, .ref m8, .ref m9, .ref m10, .ref m11, .int w12, .int w13, .int w14, .ref m15, .ref m16, .ref m17, .ref m18, .ref m19, .int w20, .int w21, .int w22, .int w23, .ref m24, .ref m25, .int w26, .int w27, .int w28, .ref m29, .ref m30, .ref m31, .ref m32, .ref m33, .ref m34, .int w35, .ref m36, .int w37])), (m2, .inl (kt, 600, .inl g1))] H := by rw [eg1]; exact hP
              replace hD : va_D A [(h0, .inr (8, [.int 0, .int w1, .ref m2, .int (nI (tt + k)), .ref m4, .ref m5, .ref m6, .ref m7, .ref m8, .ref m9, .ref m10, .ref m11, .int w12, .int w13, .int w14, .ref m15, .ref m16, .ref m17, .ref m18, .ref m19, .int w20, .int w21, .int w22, .int w23, .ref m24, .ref m25, .int w26, .int w27, .int w28, .ref m29, .ref m30, .ref m31, .ref m32, .ref m33, .ref m34, .int w35, .ref m36, .int w37])), (m2, .inl (kt, 600, .inl g1))] := by rw [eg1]; exact hD
              refine lv_aload_n hx hb dX8_feed_101 rfl (lv_at hl 1 rfl) ?_
              refine lv_dup hx hb dX8_feed_102 rfl ?_
              refine va_get (D := (dC, dI)) (ci := 8) (v := .int (nI (tt + k))) (C := RX8) (T := TX8) (N := 38) hx hb hts hi_X8 hown hK hP 0 rfl rfl 3 (by decide) k_f103 (fun _ h9 => h9) rfl dX8_feed_103 ?_
              refine lv_iconst (v := 1) hx hb dX8_feed_106 (by decide) ?_
              refine lv_iadd hx hb dX8_feed_107 ?_
              refine va_put (D := (dC, dI)) (ci := 8) (v := .int ((nI (tt + k)) + 1)) (ty := .int) (C := RX8) (T := TX8) (N := 38) hx hb hts hi_X8 tyX8 tyX8_ok nmX8 hown hK hP hD hS 0 rfl rfl 3 (by decide) k_f103 (fun _ h9 => h9) rfl (by decide +kernel) rfl rfl (Nat.le_of_ble_eq_true rfl) dX8_feed_108 (fun H locs hP hD hS => ?_)
              replace hP : va_P (dC, dI) vwCl [(h0, .inr (8, [.int 0, .int w1, .ref m2, .int ((nI (tt + k)) + 1), .ref m4, .ref m5, .ref m6, .ref m7, .ref m8, .ref m9, .ref m10, .ref m11, .int w12, .int w13, .int w14, .ref m15, .ref m16, .ref m17, .ref m18, .ref m19, .int w20, .int w21, .int w22, .int w23, .ref m24, .ref m25, .int w26, .int w27, .int w28, .ref m29, .ref m30, .ref m31, .ref m32, .ref m33, .ref m34, .int w35, .ref m36, .int w37])), (m2, .inl (kt, 600, .inl g1))] H := hP
              replace hD : va_D A [(h0, .inr (8, [.int 0, .int w1, .ref m2, .int ((nI (tt + k)) + 1), .ref m4, .ref m5, .ref m6, .ref m7, .ref m8, .ref m9, .ref m10, .ref m11, .int w12, .int w13, .int w14, .ref m15, .ref m16, .ref m17, .ref m18, .ref m19, .int w20, .int w21, .int w22, .int w23, .ref m24, .ref m25, .int w26, .int w27, .int w28, .ref m29, .ref m30, .ref m31, .ref m32, .ref m33, .ref m34, .int w35, .ref m36, .int w37])), (m2, .inl (kt, 600, .inl g1))] := hD
              refine lv_iinc (v := (nI k) + 1) (lv' := [(6, .int ((nI k) + 1)), (7, .int p3), (0, .ref h0), (1, .int p0), (2, .int p1), (3, .int p2), (4, .int p3), (5, .int p4)]) hx hb dX8_feed_111 hl (k := 7) rfl rfl (by decide) rfl (fun ls hl => ?_)
              refine lv_goto (tgt := 23) hx hb dX8_feed_114 (by decide) ?_
              replace hl : lv_has ls 8 [(0, .ref h0), (1, .int p0), (2, .int p1), (3, .int p2), (4, .int p3), (5, .int p4), (6, .int (nI (k + 1)))] := by rw [← nI_1]; exact lv_sub hl [2, 3, 4, 5, 6, 7, 0] rfl
              have e9 : nI (tt + (k + 1)) = nI (tt + k) + 1 := (nI_1 _).symm
              replace hP : va_P (dC, dI) vwCl [(h0, .inr (8, [.int 0, .int w1, .ref m2, .int (nI (tt + (k + 1))), .ref m4, .ref m5, .ref m6, .ref m7, .ref m8, .ref m9, .ref m10, .ref m11, .int w12, .int w13, .int w14, .ref m15, .ref m16, .ref m17, .ref m18, .ref m19, .int w20, .int w21, .int w22, .int w23, .ref m24, .ref m25, .int w26, .int w27, .int w28, .ref m29, .ref m30, .ref m31, .ref m32, .ref m33, .ref m34, .int w35, .ref m36, .int w37])), (m2, .inl (kt, 600, .inl g1))] H := by rw [e9]; exact hP
              replace hD : va_D A [(h0, .inr (8, [.int 0, .int w1, .ref m2, .int (nI (tt + (k + 1))), .ref m4, .ref m5, .ref m6, .ref m7, .ref m8, .ref m9, .ref m10, .ref m11, .int w12, .int w13, .int w14, .ref m15, .ref m16, .ref m17, .ref m18, .ref m19, .int w20, .int w21, .int w22, .int w23, .ref m24, .ref m25, .int w26, .int w27, .int w28, .ref m29, .ref m30, .ref m31, .ref m32, .ref m33, .ref m34, .int w35, .ref m36, .int w37])), (m2, .inl (kt, 600, .inl g1))] := by rw [e9]; exact hD
              apply ih (k := k + 1) <;> first | assumption | omega
          · refine lv_iload_n hx hb dX8_feed_58 rfl (lv_at hl 3 rfl) ?_
            refine lv_goto (tgt := 76) hx hb dX8_feed_59 (by decide) ?_
            refine lv_istore (lv' := [(7, .int p2), (0, .ref h0), (1, .int p0), (2, .int p1), (3, .int p2), (4, .int p3), (5, .int p4), (6, .int (nI k))]) hx hb dX8_feed_76 hl (by decide) rfl (fun ls hl => ?_)
            refine lv_aload_n hx hb dX8_feed_78 rfl (lv_at hl 1 rfl) ?_
            refine va_get (D := (dC, dI)) (ci := 8) (v := .ref m2) (C := RX8) (T := TX8) (N := 38) hx hb hts hi_X8 hown hK hP 0 rfl rfl 2 (by decide) k_f11 (fun _ h9 => h9) rfl dX8_feed_79 ?_
            refine lv_aload_n hx hb dX8_feed_82 rfl (lv_at hl 1 rfl) ?_
            refine va_get (D := (dC, dI)) (ci := 8) (v := .int (nI (tt + k))) (C := RX8) (T := TX8) (N := 38) hx hb hts hi_X8 hown hK hP 0 rfl rfl 3 (by decide) k_f103 (fun _ h9 => h9) rfl dX8_feed_83 ?_
            refine lv_iload hx hb dX8_feed_86 (lv_at hl 0 rfl) ?_
            refine lv_bipush (v := 24) hx hb dX8_feed_88 (by decide) ?_
            refine lv_bipush (v := 8) hx hb dX8_feed_90 (by decide) ?_
            refine lv_iload hx hb dX8_feed_92 (lv_at hl 7 rfl) ?_
            refine lv_iconst (v := 4) hx hb dX8_feed_94 (by decide) ?_
            refine lv_irem hx hb dX8_feed_95 (by decide) ?_
            refine lv_imul hx hb dX8_feed_96 ?_
            refine lv_isub hx hb dX8_feed_97 ?_
            refine lv_ishr hx hb dX8_feed_98 ?_
            refine lv_i2b hx hb dX8_feed_99 rfl ?_
            refine va_bast hx hb hK hP hD hS 1 0 rfl rfl (i := nI (tt + k)) (x := (p2 >>> ((24 - (8 * ((nI k) - (nI k) / 4 * 4))) &&& 31)).toInt8.toInt32) (vp_in_nI (by omega) (by omega)) dX8_feed_100 (fun H locs hP hD hS => ?_)
            replace hP : va_P (dC, dI) vwCl [(h0, .inr (8, [.int 0, .int w1, .ref m2, .int (nI (tt + k)), .ref m4, .ref m5, .ref m6, .ref m7, .ref m8, .ref m9, .ref m10, .ref m11, .int w12, .int w13, .int w14, .ref m15, .ref m16, .ref m17, .ref m18, .ref m19, .int w20, .int w21, .int w22, .int w23, .ref m24, .ref m25, .int w26, .int w27, .int w28, .ref m29, .ref m30, .ref m31, .ref m32, .ref m33, .ref m34, .int w35, .ref m36, .int w37])), (m2, .inl (kt, 600, .inl (upd g (nI (tt + k) : Int32).toNatClampNeg (vp_nar .byte ((p2 >>> ((24 - (8 * ((nI k) - (nI k) / 4 * 4))) &&& 31)).toInt8.toInt32)))))] H := hP
            replace hD : va_D A [(h0, .inr (8, [.int 0, .int w1, .ref m2, .int (nI (tt + k)), .ref m4, .ref m5, .ref m6, .ref m7, .ref m8, .ref m9, .ref m10, .ref m11, .int w12, .int w13, .int w14, .ref m15, .ref m16, .ref m17, .ref m18, .ref m19, .int w20, .int w21, .int w22, .int w23, .ref m24, .ref m25, .int w26, .int w27, .int w28, .ref m29, .ref m30, .ref m31, .ref m32, .ref m33, .ref m34, .int w35, .ref m36, .int w37])), (m2, .inl (kt, 600, .inl (upd g (nI (tt + k) : Int32).toNatClampNeg (vp_nar .byte ((p2 >>> ((24 - (8 * ((nI k) - (nI k) / 4 * 4))) &&& 31)).toInt8.toInt32)))))] := hD
            obtain ⟨g1, eg1⟩ : ∃ y : Nat → Int32, y = upd g (nI (tt + k) : Int32).toNatClampNeg (vp_nar .byte ((p2 >>> ((24 - (8 * ((nI k) - (nI k) / 4 * 4))) &&& 31)).toInt8.toInt32)) := ⟨_, rfl⟩
            replace hP : va_P (dC, dI) vwCl [(h0, .inr (8, [.int 0, .int w1, .ref m2, .int (nI (tt + k)), .ref m4, .ref m5, .ref m6, .ref m7, .ref m8, .ref m9, .ref m10, .ref m11, .int w12, .int w13, .int w14, .ref m15, .ref m16, .ref m17, .ref m18, .ref m19, .int w20, .int w21, .int w22, .int w23, .ref m24, .ref m25, .int w26, .int w27, .int w28, .ref m29, .ref m30, .ref m31, .ref m32, .ref m33, .ref m34, .int w35, .ref m36, .int w37])), (m2, .inl (kt, 600, .inl g1))] H := by rw [eg1]; exact hP
            replace hD : va_D A [(h0, .inr (8, [.int 0, .int w1, .ref m2, .int (nI (tt + k)), .ref m4, .ref m5, .ref m6, .ref m7, .ref m8, .ref m9, .ref m10, .ref m11, .int w12, .int w13, .int w14, .ref m15, .ref m16, .ref m17, .ref m18, .ref m19, .int w20, .int w21, .int w22, .int w23, .ref m24, .ref m25, .int w26, .int w27, .int w28, .ref m29, .ref m30, .ref m31, .ref m32, .ref m33, .ref m34, .int w35, .ref m36, .int w37])), (m2, .inl (kt, 600, .inl g1))] := by rw [eg1]; exact hD
            refine lv_aload_n hx hb dX8_feed_101 rfl (lv_at hl 1 rfl) ?_
            refine lv_dup hx hb dX8_feed_102 rfl ?_
            refine va_get (D := (dC, dI)) (ci := 8) (v := .int (nI (tt + k))) (C := RX8) (T := TX8) (N := 38) hx hb hts hi_X8 hown hK hP 0 rfl rfl 3 (by decide) k_f103 (fun _ h9 => h9) rfl dX8_feed_103 ?_
            refine lv_iconst (v := 1) hx hb dX8_feed_106 (by decide) ?_
            refine lv_iadd hx hb dX8_feed_107 ?_
            refine va_put (D := (dC, dI)) (ci := 8) (v := .int ((nI (tt + k)) + 1)) (ty := .int) (C := RX8) (T := TX8) (N := 38) hx hb hts hi_X8 tyX8 tyX8_ok nmX8 hown hK hP hD hS 0 rfl rfl 3 (by decide) k_f103 (fun _ h9 => h9) rfl (by decide +kernel) rfl rfl (Nat.le_of_ble_eq_true rfl) dX8_feed_108 (fun H locs hP hD hS => ?_)
            replace hP : va_P (dC, dI) vwCl [(h0, .inr (8, [.int 0, .int w1, .ref m2, .int ((nI (tt + k)) + 1), .ref m4, .ref m5, .ref m6, .ref m7, .ref m8, .ref m9, .ref m10, .ref m11, .int w12, .int w13, .int w14, .ref m15, .ref m16, .ref m17, .ref m18, .ref m19, .int w20, .int w21, .int w22, .int w23, .ref m24, .ref m25, .int w26, .int w27, .int w28, .ref m29, .ref m30, .ref m31, .ref m32, .ref m33, .ref m34, .int w35, .ref m36, .int w37])), (m2, .inl (kt, 600, .inl g1))] H := hP
            replace hD : va_D A [(h0, .inr (8, [.int 0, .int w1, .ref m2, .int ((nI (tt + k)) + 1), .ref m4, .ref m5, .ref m6, .ref m7, .ref m8, .ref m9, .ref m10, .ref m11, .int w12, .int w13, .int w14, .ref m15, .ref m16, .ref m17, .ref m18, .ref m19, .int w20, .int w21, .int w22, .int w23, .ref m24, .ref m25, .int w26, .int w27, .int w28, .ref m29, .ref m30, .ref m31, .ref m32, .ref m33, .ref m34, .int w35, .ref m36, .int w37])), (m2, .inl (kt, 600, .inl g1))] := hD
            refine lv_iinc (v := (nI k) + 1) (lv' := [(6, .int ((nI k) + 1)), (7, .int p2), (0, .ref h0), (1, .int p0), (2, .int p1), (3, .int p2), (4, .int p3), (5, .int p4)]) hx hb dX8_feed_111 hl (k := 7) rfl rfl (by decide) rfl (fun ls hl => ?_)
            refine lv_goto (tgt := 23) hx hb dX8_feed_114 (by decide) ?_
            replace hl : lv_has ls 8 [(0, .ref h0), (1, .int p0), (2, .int p1), (3, .int p2), (4, .int p3), (5, .int p4), (6, .int (nI (k + 1)))] := by rw [← nI_1]; exact lv_sub hl [2, 3, 4, 5, 6, 7, 0] rfl
            have e9 : nI (tt + (k + 1)) = nI (tt + k) + 1 := (nI_1 _).symm
            replace hP : va_P (dC, dI) vwCl [(h0, .inr (8, [.int 0, .int w1, .ref m2, .int (nI (tt + (k + 1))), .ref m4, .ref m5, .ref m6, .ref m7, .ref m8, .ref m9, .ref m10, .ref m11, .int w12, .int w13, .int w14, .ref m15, .ref m16, .ref m17, .ref m18, .ref m19, .int w20, .int w21, .int w22, .int w23, .ref m24, .ref m25, .int w26, .int w27, .int w28, .ref m29, .ref m30, .ref m31, .ref m32, .ref m33, .ref m34, .int w35, .ref m36, .int w37])), (m2, .inl (kt, 600, .inl g1))] H := by rw [e9]; exact hP
            replace hD : va_D A [(h0, .inr (8, [.int 0, .int w1, .ref m2, .int (nI (tt + (k + 1))), .ref m4, .ref m5, .ref m6, .ref m7, .ref m8, .ref m9, .ref m10, .ref m11, .int w12, .int w13, .int w14, .ref m15, .ref m16, .ref m17, .ref m18, .ref m19, .int w20, .int w21, .int w22, .int w23, .ref m24, .ref m25, .int w26, .int w27, .int w28, .ref m29, .ref m30, .ref m31, .ref m32, .ref m33, .ref m34, .int w35, .ref m36, .int w37])), (m2, .inl (kt, 600, .inl g1))] := by rw [e9]; exact hD
            apply ih (k := k + 1) <;> first | assumption | omega
        · refine lv_iload_n hx hb dX8_feed_47 rfl (lv_at hl 2 rfl) ?_
          refine lv_goto (tgt := 76) hx hb dX8_feed_48 (by decide) ?_
          refine lv_istore (lv' := [(7, .int p1), (0, .ref h0), (1, .int p0), (2, .int p1), (3, .int p2), (4, .int p3), (5, .int p4), (6, .int (nI k))]) hx hb dX8_feed_76 hl (by decide) rfl (fun ls hl => ?_)
          refine lv_aload_n hx hb dX8_feed_78 rfl (lv_at hl 1 rfl) ?_
          refine va_get (D := (dC, dI)) (ci := 8) (v := .ref m2) (C := RX8) (T := TX8) (N := 38) hx hb hts hi_X8 hown hK hP 0 rfl rfl 2 (by decide) k_f11 (fun _ h9 => h9) rfl dX8_feed_79 ?_
          refine lv_aload_n hx hb dX8_feed_82 rfl (lv_at hl 1 rfl) ?_
          refine va_get (D := (dC, dI)) (ci := 8) (v := .int (nI (tt + k))) (C := RX8) (T := TX8) (N := 38) hx hb hts hi_X8 hown hK hP 0 rfl rfl 3 (by decide) k_f103 (fun _ h9 => h9) rfl dX8_feed_83 ?_
          refine lv_iload hx hb dX8_feed_86 (lv_at hl 0 rfl) ?_
          refine lv_bipush (v := 24) hx hb dX8_feed_88 (by decide) ?_
          refine lv_bipush (v := 8) hx hb dX8_feed_90 (by decide) ?_
          refine lv_iload hx hb dX8_feed_92 (lv_at hl 7 rfl) ?_
          refine lv_iconst (v := 4) hx hb dX8_feed_94 (by decide) ?_
          refine lv_irem hx hb dX8_feed_95 (by decide) ?_
          refine lv_imul hx hb dX8_feed_96 ?_
          refine lv_isub hx hb dX8_feed_97 ?_
          refine lv_ishr hx hb dX8_feed_98 ?_
          refine lv_i2b hx hb dX8_feed_99 rfl ?_
          refine va_bast hx hb hK hP hD hS 1 0 rfl rfl (i := nI (tt + k)) (x := (p1 >>> ((24 - (8 * ((nI k) - (nI k) / 4 * 4))) &&& 31)).toInt8.toInt32) (vp_in_nI (by omega) (by omega)) dX8_feed_100 (fun H locs hP hD hS => ?_)
          replace hP : va_P (dC, dI) vwCl [(h0, .inr (8, [.int 0, .int w1, .ref m2, .int (nI (tt + k)), .ref m4, .ref m5, .ref m6, .ref m7, .ref m8, .ref m9, .ref m10, .ref m11, .int w12, .int w13, .int w14, .ref m15, .ref m16, .ref m17, .ref m18, .ref m19, .int w20, .int w21, .int w22, .int w23, .ref m24, .ref m25, .int w26, .int w27, .int w28, .ref m29, .ref m30, .ref m31, .ref m32, .ref m33, .ref m34, .int w35, .ref m36, .int w37])), (m2, .inl (kt, 600, .inl (upd g (nI (tt + k) : Int32).toNatClampNeg (vp_nar .byte ((p1 >>> ((24 - (8 * ((nI k) - (nI k) / 4 * 4))) &&& 31)).toInt8.toInt32)))))] H := hP
          replace hD : va_D A [(h0, .inr (8, [.int 0, .int w1, .ref m2, .int (nI (tt + k)), .ref m4, .ref m5, .ref m6, .ref m7, .ref m8, .ref m9, .ref m10, .ref m11, .int w12, .int w13, .int w14, .ref m15, .ref m16, .ref m17, .ref m18, .ref m19, .int w20, .int w21, .int w22, .int w23, .ref m24, .ref m25, .int w26, .int w27, .int w28, .ref m29, .ref m30, .ref m31, .ref m32, .ref m33, .ref m34, .int w35, .ref m36, .int w37])), (m2, .inl (kt, 600, .inl (upd g (nI (tt + k) : Int32).toNatClampNeg (vp_nar .byte ((p1 >>> ((24 - (8 * ((nI k) - (nI k) / 4 * 4))) &&& 31)).toInt8.toInt32)))))] := hD
          obtain ⟨g1, eg1⟩ : ∃ y : Nat → Int32, y = upd g (nI (tt + k) : Int32).toNatClampNeg (vp_nar .byte ((p1 >>> ((24 - (8 * ((nI k) - (nI k) / 4 * 4))) &&& 31)).toInt8.toInt32)) := ⟨_, rfl⟩
          replace hP : va_P (dC, dI) vwCl [(h0, .inr (8, [.int 0, .int w1, .ref m2, .int (nI (tt + k)), .ref m4, .ref m5, .ref m6, .ref m7, .ref m8, .ref m9, .ref m10, .ref m11, .int w12, .int w13, .int w14, .ref m15, .ref m16, .ref m17, .ref m18, .ref m19, .int w20, .int w21, .int w22, .int w23, .ref m24, .ref m25, .int w26, .int w27, .int w28, .ref m29, .ref m30, .ref m31, .ref m32, .ref m33, .ref m34, .int w35, .ref m36, .int w37])), (m2, .inl (kt, 600, .inl g1))] H := by rw [eg1]; exact hP
          replace hD : va_D A [(h0, .inr (8, [.int 0, .int w1, .ref m2, .int (nI (tt + k)), .ref m4, .ref m5, .ref m6, .ref m7, .ref m8, .ref m9, .ref m10, .ref m11, .int w12, .int w13, .int w14, .ref m15, .ref m16, .ref m17, .ref m18, .ref m19, .int w20, .int w21, .int w22, .int w23, .ref m24, .ref m25, .int w26, .int w27, .int w28, .ref m29, .ref m30, .ref m31, .ref m32, .ref m33, .ref m34, .int w35, .ref m36, .int w37])), (m2, .inl (kt, 600, .inl g1))] := by rw [eg1]; exact hD
          refine lv_aload_n hx hb dX8_feed_101 rfl (lv_at hl 1 rfl) ?_
          refine lv_dup hx hb dX8_feed_102 rfl ?_
          refine va_get (D := (dC, dI)) (ci := 8) (v := .int (nI (tt + k))) (C := RX8) (T := TX8) (N := 38) hx hb hts hi_X8 hown hK hP 0 rfl rfl 3 (by decide) k_f103 (fun _ h9 => h9) rfl dX8_feed_103 ?_
          refine lv_iconst (v := 1) hx hb dX8_feed_106 (by decide) ?_
          refine lv_iadd hx hb dX8_feed_107 ?_
          refine va_put (D := (dC, dI)) (ci := 8) (v := .int ((nI (tt + k)) + 1)) (ty := .int) (C := RX8) (T := TX8) (N := 38) hx hb hts hi_X8 tyX8 tyX8_ok nmX8 hown hK hP hD hS 0 rfl rfl 3 (by decide) k_f103 (fun _ h9 => h9) rfl (by decide +kernel) rfl rfl (Nat.le_of_ble_eq_true rfl) dX8_feed_108 (fun H locs hP hD hS => ?_)
          replace hP : va_P (dC, dI) vwCl [(h0, .inr (8, [.int 0, .int w1, .ref m2, .int ((nI (tt + k)) + 1), .ref m4, .ref m5, .ref m6, .ref m7, .ref m8, .ref m9, .ref m10, .ref m11, .int w12, .int w13, .int w14, .ref m15, .ref m16, .ref m17, .ref m18, .ref m19, .int w20, .int w21, .int w22, .int w23, .ref m24, .ref m25, .int w26, .int w27, .int w28, .ref m29, .ref m30, .ref m31, .ref m32, .ref m33, .ref m34, .int w35, .ref m36, .int w37])), (m2, .inl (kt, 600, .inl g1))] H := hP
          replace hD : va_D A [(h0, .inr (8, [.int 0, .int w1, .ref m2, .int ((nI (tt + k)) + 1), .ref m4, .ref m5, .ref m6, .ref m7, .ref m8, .ref m9, .ref m10, .ref m11, .int w12, .int w13, .int w14, .ref m15, .ref m16, .ref m17, .ref m18, .ref m19, .int w20, .int w21, .int w22, .int w23, .ref m24, .ref m25, .int w26, .int w27, .int w28, .ref m29, .ref m30, .ref m31, .ref m32, .ref m33, .ref m34, .int w35, .ref m36, .int w37])), (m2, .inl (kt, 600, .inl g1))] := hD
          refine lv_iinc (v := (nI k) + 1) (lv' := [(6, .int ((nI k) + 1)), (7, .int p1), (0, .ref h0), (1, .int p0), (2, .int p1), (3, .int p2), (4, .int p3), (5, .int p4)]) hx hb dX8_feed_111 hl (k := 7) rfl rfl (by decide) rfl (fun ls hl => ?_)
          refine lv_goto (tgt := 23) hx hb dX8_feed_114 (by decide) ?_
          replace hl : lv_has ls 8 [(0, .ref h0), (1, .int p0), (2, .int p1), (3, .int p2), (4, .int p3), (5, .int p4), (6, .int (nI (k + 1)))] := by rw [← nI_1]; exact lv_sub hl [2, 3, 4, 5, 6, 7, 0] rfl
          have e9 : nI (tt + (k + 1)) = nI (tt + k) + 1 := (nI_1 _).symm
          replace hP : va_P (dC, dI) vwCl [(h0, .inr (8, [.int 0, .int w1, .ref m2, .int (nI (tt + (k + 1))), .ref m4, .ref m5, .ref m6, .ref m7, .ref m8, .ref m9, .ref m10, .ref m11, .int w12, .int w13, .int w14, .ref m15, .ref m16, .ref m17, .ref m18, .ref m19, .int w20, .int w21, .int w22, .int w23, .ref m24, .ref m25, .int w26, .int w27, .int w28, .ref m29, .ref m30, .ref m31, .ref m32, .ref m33, .ref m34, .int w35, .ref m36, .int w37])), (m2, .inl (kt, 600, .inl g1))] H := by rw [e9]; exact hP
          replace hD : va_D A [(h0, .inr (8, [.int 0, .int w1, .ref m2, .int (nI (tt + (k + 1))), .ref m4, .ref m5, .ref m6, .ref m7, .ref m8, .ref m9, .ref m10, .ref m11, .int w12, .int w13, .int w14, .ref m15, .ref m16, .ref m17, .ref m18, .ref m19, .int w20, .int w21, .int w22, .int w23, .ref m24, .ref m25, .int w26, .int w27, .int w28, .ref m29, .ref m30, .ref m31, .ref m32, .ref m33, .ref m34, .int w35, .ref m36, .int w37])), (m2, .inl (kt, 600, .inl g1))] := by rw [e9]; exact hD
          apply ih (k := k + 1) <;> first | assumption | omega
      · refine lv_iload_n hx hb dX8_feed_36 rfl (lv_at hl 1 rfl) ?_
        refine lv_goto (tgt := 76) hx hb dX8_feed_37 (by decide) ?_
        refine lv_istore (lv' := [(7, .int p0), (0, .ref h0), (1, .int p0), (2, .int p1), (3, .int p2), (4, .int p3), (5, .int p4), (6, .int (nI k))]) hx hb dX8_feed_76 hl (by decide) rfl (fun ls hl => ?_)
        refine lv_aload_n hx hb dX8_feed_78 rfl (lv_at hl 1 rfl) ?_
        refine va_get (D := (dC, dI)) (ci := 8) (v := .ref m2) (C := RX8) (T := TX8) (N := 38) hx hb hts hi_X8 hown hK hP 0 rfl rfl 2 (by decide) k_f11 (fun _ h9 => h9) rfl dX8_feed_79 ?_
        refine lv_aload_n hx hb dX8_feed_82 rfl (lv_at hl 1 rfl) ?_
        refine va_get (D := (dC, dI)) (ci := 8) (v := .int (nI (tt + k))) (C := RX8) (T := TX8) (N := 38) hx hb hts hi_X8 hown hK hP 0 rfl rfl 3 (by decide) k_f103 (fun _ h9 => h9) rfl dX8_feed_83 ?_
        refine lv_iload hx hb dX8_feed_86 (lv_at hl 0 rfl) ?_
        refine lv_bipush (v := 24) hx hb dX8_feed_88 (by decide) ?_
        refine lv_bipush (v := 8) hx hb dX8_feed_90 (by decide) ?_
        refine lv_iload hx hb dX8_feed_92 (lv_at hl 7 rfl) ?_
        refine lv_iconst (v := 4) hx hb dX8_feed_94 (by decide) ?_
        refine lv_irem hx hb dX8_feed_95 (by decide) ?_
        refine lv_imul hx hb dX8_feed_96 ?_
        refine lv_isub hx hb dX8_feed_97 ?_
        refine lv_ishr hx hb dX8_feed_98 ?_
        refine lv_i2b hx hb dX8_feed_99 rfl ?_
        refine va_bast hx hb hK hP hD hS 1 0 rfl rfl (i := nI (tt + k)) (x := (p0 >>> ((24 - (8 * ((nI k) - (nI k) / 4 * 4))) &&& 31)).toInt8.toInt32) (vp_in_nI (by omega) (by omega)) dX8_feed_100 (fun H locs hP hD hS => ?_)
        replace hP : va_P (dC, dI) vwCl [(h0, .inr (8, [.int 0, .int w1, .ref m2, .int (nI (tt + k)), .ref m4, .ref m5, .ref m6, .ref m7, .ref m8, .ref m9, .ref m10, .ref m11, .int w12, .int w13, .int w14, .ref m15, .ref m16, .ref m17, .ref m18, .ref m19, .int w20, .int w21, .int w22, .int w23, .ref m24, .ref m25, .int w26, .int w27, .int w28, .ref m29, .ref m30, .ref m31, .ref m32, .ref m33, .ref m34, .int w35, .ref m36, .int w37])), (m2, .inl (kt, 600, .inl (upd g (nI (tt + k) : Int32).toNatClampNeg (vp_nar .byte ((p0 >>> ((24 - (8 * ((nI k) - (nI k) / 4 * 4))) &&& 31)).toInt8.toInt32)))))] H := hP
        replace hD : va_D A [(h0, .inr (8, [.int 0, .int w1, .ref m2, .int (nI (tt + k)), .ref m4, .ref m5, .ref m6, .ref m7, .ref m8, .ref m9, .ref m10, .ref m11, .int w12, .int w13, .int w14, .ref m15, .ref m16, .ref m17, .ref m18, .ref m19, .int w20, .int w21, .int w22, .int w23, .ref m24, .ref m25, .int w26, .int w27, .int w28, .ref m29, .ref m30, .ref m31, .ref m32, .ref m33, .ref m34, .int w35, .ref m36, .int w37])), (m2, .inl (kt, 600, .inl (upd g (nI (tt + k) : Int32).toNatClampNeg (vp_nar .byte ((p0 >>> ((24 - (8 * ((nI k) - (nI k) / 4 * 4))) &&& 31)).toInt8.toInt32)))))] := hD
        obtain ⟨g1, eg1⟩ : ∃ y : Nat → Int32, y = upd g (nI (tt + k) : Int32).toNatClampNeg (vp_nar .byte ((p0 >>> ((24 - (8 * ((nI k) - (nI k) / 4 * 4))) &&& 31)).toInt8.toInt32)) := ⟨_, rfl⟩
        replace hP : va_P (dC, dI) vwCl [(h0, .inr (8, [.int 0, .int w1, .ref m2, .int (nI (tt + k)), .ref m4, .ref m5, .ref m6, .ref m7, .ref m8, .ref m9, .ref m10, .ref m11, .int w12, .int w13, .int w14, .ref m15, .ref m16, .ref m17, .ref m18, .ref m19, .int w20, .int w21, .int w22, .int w23, .ref m24, .ref m25, .int w26, .int w27, .int w28, .ref m29, .ref m30, .ref m31, .ref m32, .ref m33, .ref m34, .int w35, .ref m36, .int w37])), (m2, .inl (kt, 600, .inl g1))] H := by rw [eg1]; exact hP
        replace hD : va_D A [(h0, .inr (8, [.int 0, .int w1, .ref m2, .int (nI (tt + k)), .ref m4, .ref m5, .ref m6, .ref m7, .ref m8, .ref m9, .ref m10, .ref m11, .int w12, .int w13, .int w14, .ref m15, .ref m16, .ref m17, .ref m18, .ref m19, .int w20, .int w21, .int w22, .int w23, .ref m24, .ref m25, .int w26, .int w27, .int w28, .ref m29, .ref m30, .ref m31, .ref m32, .ref m33, .ref m34, .int w35, .ref m36, .int w37])), (m2, .inl (kt, 600, .inl g1))] := by rw [eg1]; exact hD
        refine lv_aload_n hx hb dX8_feed_101 rfl (lv_at hl 1 rfl) ?_
        refine lv_dup hx hb dX8_feed_102 rfl ?_
        refine va_get (D := (dC, dI)) (ci := 8) (v := .int (nI (tt + k))) (C := RX8) (T := TX8) (N := 38) hx hb hts hi_X8 hown hK hP 0 rfl rfl 3 (by decide) k_f103 (fun _ h9 => h9) rfl dX8_feed_103 ?_
        refine lv_iconst (v := 1) hx hb dX8_feed_106 (by decide) ?_
        refine lv_iadd hx hb dX8_feed_107 ?_
        refine va_put (D := (dC, dI)) (ci := 8) (v := .int ((nI (tt + k)) + 1)) (ty := .int) (C := RX8) (T := TX8) (N := 38) hx hb hts hi_X8 tyX8 tyX8_ok nmX8 hown hK hP hD hS 0 rfl rfl 3 (by decide) k_f103 (fun _ h9 => h9) rfl (by decide +kernel) rfl rfl (Nat.le_of_ble_eq_true rfl) dX8_feed_108 (fun H locs hP hD hS => ?_)
        replace hP : va_P (dC, dI) vwCl [(h0, .inr (8, [.int 0, .int w1, .ref m2, .int ((nI (tt + k)) + 1), .ref m4, .ref m5, .ref m6, .ref m7, .ref m8, .ref m9, .ref m10, .ref m11, .int w12, .int w13, .int w14, .ref m15, .ref m16, .ref m17, .ref m18, .ref m19, .int w20, .int w21, .int w22, .int w23, .ref m24, .ref m25, .int w26, .int w27, .int w28, .ref m29, .ref m30, .ref m31, .ref m32, .ref m33, .ref m34, .int w35, .ref m36, .int w37])), (m2, .inl (kt, 600, .inl g1))] H := hP
        replace hD : va_D A [(h0, .inr (8, [.int 0, .int w1, .ref m2, .int ((nI (tt + k)) + 1), .ref m4, .ref m5, .ref m6, .ref m7, .ref m8, .ref m9, .ref m10, .ref m11, .int w12, .int w13, .int w14, .ref m15, .ref m16, .ref m17, .ref m18, .ref m19, .int w20, .int w21, .int w22, .int w23, .ref m24, .ref m25, .int w26, .int w27, .int w28, .ref m29, .ref m30, .ref m31, .ref m32, .ref m33, .ref m34, .int w35, .ref m36, .int w37])), (m2, .inl (kt, 600, .inl g1))] := hD
        refine lv_iinc (v := (nI k) + 1) (lv' := [(6, .int ((nI k) + 1)), (7, .int p0), (0, .ref h0), (1, .int p0), (2, .int p1), (3, .int p2), (4, .int p3), (5, .int p4)]) hx hb dX8_feed_111 hl (k := 7) rfl rfl (by decide) rfl (fun ls hl => ?_)
        refine lv_goto (tgt := 23) hx hb dX8_feed_114 (by decide) ?_
        replace hl : lv_has ls 8 [(0, .ref h0), (1, .int p0), (2, .int p1), (3, .int p2), (4, .int p3), (5, .int p4), (6, .int (nI (k + 1)))] := by rw [← nI_1]; exact lv_sub hl [2, 3, 4, 5, 6, 7, 0] rfl
        have e9 : nI (tt + (k + 1)) = nI (tt + k) + 1 := (nI_1 _).symm
        replace hP : va_P (dC, dI) vwCl [(h0, .inr (8, [.int 0, .int w1, .ref m2, .int (nI (tt + (k + 1))), .ref m4, .ref m5, .ref m6, .ref m7, .ref m8, .ref m9, .ref m10, .ref m11, .int w12, .int w13, .int w14, .ref m15, .ref m16, .ref m17, .ref m18, .ref m19, .int w20, .int w21, .int w22, .int w23, .ref m24, .ref m25, .int w26, .int w27, .int w28, .ref m29, .ref m30, .ref m31, .ref m32, .ref m33, .ref m34, .int w35, .ref m36, .int w37])), (m2, .inl (kt, 600, .inl g1))] H := by rw [e9]; exact hP
        replace hD : va_D A [(h0, .inr (8, [.int 0, .int w1, .ref m2, .int (nI (tt + (k + 1))), .ref m4, .ref m5, .ref m6, .ref m7, .ref m8, .ref m9, .ref m10, .ref m11, .int w12, .int w13, .int w14, .ref m15, .ref m16, .ref m17, .ref m18, .ref m19, .int w20, .int w21, .int w22, .int w23, .ref m24, .ref m25, .int w26, .int w27, .int w28, .ref m29, .ref m30, .ref m31, .ref m32, .ref m33, .ref m34, .int w35, .ref m36, .int w37])), (m2, .inl (kt, 600, .inl g1))] := by rw [e9]; exact hD
        apply ih (k := k + 1) <;> first | assumption | omega
