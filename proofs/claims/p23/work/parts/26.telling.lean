set_option maxHeartbeats 4000000 in
set_option maxRecDepth 100000 in
theorem g_X3_lessIn (l : Launch) (dC : Nat → ClassId) (dI : Nat → Nat → Nat) (w0 : Nat) (c0 : Nat) (b0 : Nat) (h1 : Nat) (m1 : Nat) (w : Nat) (zt : Nat) (ch : Nat) (bw : Int32) (ot : Int32) (kc : ClassId) (gc : Nat → Nat) (tt : Nat) (oo : Nat) (i : Nat) (ht : tt < 8) (ho : oo < 8) (hi : i < 60) : Met l yX3_lessIn wsX3_lessIn ({ frames := 0, cells := 0, slots := 0, locals := 0 }) (va_Pc [.ref w0, .int (nI tt), .int (nI oo), .int (nI i)] (fun U => va_P (dC, dI) vwCl [(w0, .inr (5, [.ref c0, .ref b0, .ref h1, .ref m1, .int (nI w), .int (nI zt), .int (nI ch), .int bw, .int ot])), (c0, .inl (kc, 480, .inl (nR gc)))] U.heap ∧ va_K (dC, dI) vwCl [(kc, .int)] U)) (vp_Si (fun r => r = dW (cst gc) tt oo i)) 0 0 (fun _ => False) := by
  refine Met.ofW (cc := cX3_lessIn) (maxL := 4) (ret := (some .int)) (by decide) rfl ?_
  intro p e s m args below meth c s₁ B hml hv
  obtain ⟨rfl, hP, hK⟩ := hv
  have hx := B.exec
  have hb := B.bytes
  have hr := B.returns
  have hts := atoms_spec (ws := wsX3_lessIn) B.pre
  have hown : s.vm.findClass RX3 = some m.cls := findClass_of_methodNamed B.named
  have hlocks := B.notSynchronized
  replace hP : va_P (dC, dI) vwCl [(w0, .inr (5, [.ref c0, .ref b0, .ref h1, .ref m1, .int (nI w), .int (nI zt), .int (nI ch), .int bw, .int ot])), (c0, .inl (kc, 480, .inl (nR gc)))] s.heap := hP
  have hl := lv_entry ([.ref w0, .int (nI tt), .int (nI oo), .int (nI i)]) (n := 4) (Nat.le_of_ble_eq_true rfl)
  rw [lg_entry_eq]
  generalize (lg_sl ([.ref w0, .int (nI tt), .int (nI oo), .int (nI i)]) ++ List.replicate (4 - (lg_sl ([.ref w0, .int (nI tt), .int (nI oo), .int (nI i)])).length) Slot.unset).toArray = ls at hl ⊢
  replace hl : lv_has ls 4 [(0, .ref w0), (1, .int (nI tt)), (2, .int (nI oo)), (3, .int (nI i))] := hl
  have hi_X5 : ∀ w ∈ wsX50, w ∈ wsX3_lessIn := by decide +kernel
  have k_f40 := hts (.fieldLink RX3 40 "TongueTeller$Way" "costs" "[I") (by decide +kernel)
  refine lv_aload_n hx hb dX3_lessIn_0 rfl (lv_at hl 0 rfl) ?_
  refine va_get (D := (dC, dI)) (ci := 5) (v := .ref c0) (C := RX5) (T := TX5) (N := 9) hx hb hts hi_X5 hown hK hP 0 rfl rfl 0 (by decide) k_f40 (fun _ h9 => h9) rfl dX3_lessIn_1 ?_
  refine lv_iload_n hx hb dX3_lessIn_4 rfl (lv_at hl 3 rfl) ?_
  refine lv_bipush (v := 8) hx hb dX3_lessIn_5 (by decide) ?_
  refine lv_imul hx hb dX3_lessIn_7 ?_
  refine lv_topi (fun x_7 ex_7 => ?_)
  obtain rfl : nI (i * 8) = x_7 := Eq.symm (ex_7.trans (pk_mul i 8))
  refine lv_iload_n hx hb dX3_lessIn_8 rfl (lv_at hl 2 rfl) ?_
  refine lv_iadd hx hb dX3_lessIn_9 ?_
  refine lv_topi (fun x_9 ex_9 => ?_)
  obtain rfl : nI (i * 8 + oo) = x_9 := Eq.symm (ex_9.trans (nI_add (i * 8) oo))
  refine va_iald hx hb hK hP 1 0 rfl rfl (i := nI (i * 8 + oo)) (vp_in_nI (by omega) (by omega)) dX3_lessIn_10 ?_
  refine lv_topi (fun x_10 ex_10 => ?_)
  obtain rfl : nI (gc (i * 8 + oo)) = x_10 := Eq.symm (ex_10.trans (nR_at (by omega)))
  refine lv_aload_n hx hb dX3_lessIn_11 rfl (lv_at hl 0 rfl) ?_
  refine va_get (D := (dC, dI)) (ci := 5) (v := .ref c0) (C := RX5) (T := TX5) (N := 9) hx hb hts hi_X5 hown hK hP 0 rfl rfl 0 (by decide) k_f40 (fun _ h9 => h9) rfl dX3_lessIn_12 ?_
  refine lv_iload_n hx hb dX3_lessIn_15 rfl (lv_at hl 3 rfl) ?_
  refine lv_bipush (v := 8) hx hb dX3_lessIn_16 (by decide) ?_
  refine lv_imul hx hb dX3_lessIn_18 ?_
  refine lv_topi (fun x_18 ex_18 => ?_)
  obtain rfl : nI (i * 8) = x_18 := Eq.symm (ex_18.trans (pk_mul i 8))
  refine lv_iload_n hx hb dX3_lessIn_19 rfl (lv_at hl 1 rfl) ?_
  refine lv_iadd hx hb dX3_lessIn_20 ?_
  refine lv_topi (fun x_20 ex_20 => ?_)
  obtain rfl : nI (i * 8 + tt) = x_20 := Eq.symm (ex_20.trans (nI_add (i * 8) tt))
  refine va_iald hx hb hK hP 1 0 rfl rfl (i := nI (i * 8 + tt)) (vp_in_nI (by omega) (by omega)) dX3_lessIn_21 ?_
  refine lv_topi (fun x_21 ex_21 => ?_)
  obtain rfl : nI (gc (i * 8 + tt)) = x_21 := Eq.symm (ex_21.trans (nR_at (by omega)))
  refine lv_isub hx hb dX3_lessIn_22 ?_
  exact W.iret (v := (nI (gc (i * 8 + oo))) - (nI (gc (i * 8 + tt)))) hx hb hr (fun t ht hW => ⟨(nI (gc (i * 8 + oo))) - (nI (gc (i * 8 + tt))), rfl, rfl, ht⟩) (fun _ h => absurd h List.not_mem_nil) dX3_lessIn_23

set_option maxHeartbeats 4000000 in
set_option maxRecDepth 100000 in
theorem g_X3_greatestLeft (l : Launch) (dC : Nat → ClassId) (dI : Nat → Nat → Nat) (h0 : Nat) (r0 : Nat) (z : Nat) (t0 : Nat) (kr : ClassId) (kz : ClassId) (fr : Nat → Int32) (fz : Nat → Int32) (w0 : Nat) (c0 : Nat) (b0 : Nat) (h1 : Nat) (m1 : Nat) (w : Nat) (zt : Nat) (ch : Nat) (bw : Int32) (ot : Int32) (kc : ClassId) (gc : Nat → Nat) (tt : Nat) (oo : Nat) (ht : tt < 8) (ho : oo < 8) (hw : w ≤ 60) : Met l yX3_greatestLeft wsX3_greatestLeft ({ frames := 1, cells := 0, slots := 0, locals := 23 }) (va_Pc [.ref h0, .ref w0, .int (nI tt), .int (nI oo)] (fun U => va_P (dC, dI) vwCl [(h0, .inr (3, [.ref r0, .int (nI z), .ref t0])), (r0, .inl (kr, 60, .inl fr)), (t0, .inl (kz, 60, .inl fz)), (w0, .inr (5, [.ref c0, .ref b0, .ref h1, .ref m1, .int (nI w), .int (nI zt), .int (nI ch), .int bw, .int ot])), (c0, .inl (kc, 480, .inl (nR gc)))] U.heap ∧ va_K (dC, dI) vwCl [(kr, .int), (kz, .boolean), (kc, .int)] U)) (vp_Si (fun r => ((r = (-1) ∧ ((gB (dW (cst gc) tt oo) fz w).1 = (-1))) ∨ (∃ pp : Nat, r = nI pp ∧ (pp < w ∧ (gB (dW (cst gc) tt oo) fz w).1 = nI pp))))) 0 0 (fun _ => False) := by
  refine Met.ofW (cc := cX3_greatestLeft) (maxL := 8) (ret := (some .int)) (by decide) rfl ?_
  intro p e s m args below meth c s₁ B hml hv
  obtain ⟨rfl, hP, hK⟩ := hv
  have hx := B.exec
  have hb := B.bytes
  have hr := B.returns
  have hts := atoms_spec (ws := wsX3_greatestLeft) B.pre
  have hown : s.vm.findClass RX3 = some m.cls := findClass_of_methodNamed B.named
  have hlocks := B.notSynchronized
  replace hP : va_P (dC, dI) vwCl [(h0, .inr (3, [.ref r0, .int (nI z), .ref t0])), (r0, .inl (kr, 60, .inl fr)), (t0, .inl (kz, 60, .inl fz)), (w0, .inr (5, [.ref c0, .ref b0, .ref h1, .ref m1, .int (nI w), .int (nI zt), .int (nI ch), .int bw, .int ot])), (c0, .inl (kc, 480, .inl (nR gc)))] s.heap := hP
  have hl := lv_entry ([.ref h0, .ref w0, .int (nI tt), .int (nI oo)]) (n := 8) (Nat.le_of_ble_eq_true rfl)
  rw [lg_entry_eq]
  generalize (lg_sl ([.ref h0, .ref w0, .int (nI tt), .int (nI oo)]) ++ List.replicate (8 - (lg_sl ([.ref h0, .ref w0, .int (nI tt), .int (nI oo)])).length) Slot.unset).toArray = ls at hl ⊢
  replace hl : lv_has ls 8 [(0, .ref h0), (1, .ref w0), (2, .int (nI tt)), (3, .int (nI oo))] := hl
  have hi_X5 : ∀ w ∈ wsX50, w ∈ wsX3_greatestLeft := by decide +kernel
  have k_f23 := hts (.fieldLink RX3 23 "TongueTeller$Way" "words" "I") (by decide +kernel)
  have hi_X3 : ∀ w ∈ wsX30, w ∈ wsX3_greatestLeft := by decide +kernel
  have k_f19 := hts (.fieldLink RX3 19 "TongueTeller$Telling" "taken" "[Z") (by decide +kernel)
  refine lv_iconst (v := (-1)) hx hb dX3_greatestLeft_0 (by decide) ?_
  refine lv_istore (lv' := [(4, .int (-1)), (0, .ref h0), (1, .ref w0), (2, .int (nI tt)), (3, .int (nI oo))]) hx hb dX3_greatestLeft_1 hl (by decide) rfl (fun ls hl => ?_)
  refine lv_iconst (v := 0) hx hb dX3_greatestLeft_3 (by decide) ?_
  refine lv_istore (lv' := [(5, .int 0), (4, .int (-1)), (0, .ref h0), (1, .ref w0), (2, .int (nI tt)), (3, .int (nI oo))]) hx hb dX3_greatestLeft_4 hl (by decide) rfl (fun ls hl => ?_)
  refine lv_iconst (v := 0) hx hb dX3_greatestLeft_6 (by decide) ?_
  refine lv_istore (lv' := [(6, .int 0), (5, .int 0), (4, .int (-1)), (0, .ref h0), (1, .ref w0), (2, .int (nI tt)), (3, .int (nI oo))]) hx hb dX3_greatestLeft_7 hl (by decide) rfl (fun ls hl => ?_)
  obtain ⟨i, e_i⟩ : ∃ y : Nat, y = 0 := ⟨_, rfl⟩
  replace hl : lv_has ls 8 [(0, .ref h0), (1, .ref w0), (2, .int (nI tt)), (3, .int (nI oo)), (4, .int ((gB (dW (cst gc) tt oo) fz i).1)), (5, .int ((gB (dW (cst gc) tt oo) fz i).2)), (6, .int (nI i))] := by subst e_i; exact lv_sub hl [3, 4, 5, 6, 2, 1, 0] rfl
  have hi1 : i ≤ w := by subst e_i; omega
  clear e_i
  obtain ⟨nn9, hnn9⟩ : ∃ q : Nat, w - i < q := ⟨_, Nat.lt_succ_self _⟩
  induction nn9 generalizing i ls with
  | zero => exact absurd hnn9 (Nat.not_lt_zero _)
  | succ nn9 ih9 =>
    refine lv_iload hx hb dX3_greatestLeft_9 (lv_at hl 6 rfl) ?_
    refine lv_aload_n hx hb dX3_greatestLeft_11 rfl (lv_at hl 1 rfl) ?_
    refine va_get (D := (dC, dI)) (ci := 5) (v := .int (nI w)) (C := RX5) (T := TX5) (N := 9) hx hb hts hi_X5 hown hK hP 3 rfl rfl 4 (by decide) k_f23 (fun _ h9 => h9) rfl dX3_greatestLeft_12 ?_
    refine lv_icmp_ge (tgt := 59) hx hb dX3_greatestLeft_15 (by decide) (fun c_15 => ?_) (fun c_15 => ?_)
    · have n_15 : w ≤ i := (nI_leI (a := w) (b := i) (by omega) (by omega)).mp c_15
      refine lv_iload hx hb dX3_greatestLeft_59 (lv_at hl 4 rfl) ?_
      exact W.iret (v := (gB (dW (cst gc) tt oo) fz i).1) hx hb hr (fun t ht hW => ⟨(gB (dW (cst gc) tt oo) fz i).1, rfl, by rw [show w = i by omega]; rcases gB_or (dW (cst gc) tt oo) fz i with h | ⟨j, h1, h2, _⟩; exact Or.inl ⟨h.1, h.1⟩; exact Or.inr ⟨j, h2, h1, h2⟩, ht⟩) (fun _ h => absurd h List.not_mem_nil) dX3_greatestLeft_61
    · have n_15 : i < w := Nat.not_le.mp (fun h9 => c_15 ((nI_leI (a := w) (b := i) (by omega) (by omega)).mpr h9))
      refine lv_aload_n hx hb dX3_greatestLeft_18 rfl (lv_at hl 1 rfl) ?_
      refine lv_iload_n hx hb dX3_greatestLeft_19 rfl (lv_at hl 2 rfl) ?_
      refine lv_iload_n hx hb dX3_greatestLeft_20 rfl (lv_at hl 3 rfl) ?_
      refine lv_iload hx hb dX3_greatestLeft_21 (lv_at hl 6 rfl) ?_
      have hPc := hP.sub (ws' := [(w0, .inr (5, [.ref c0, .ref b0, .ref h1, .ref m1, .int (nI w), .int (nI zt), .int (nI ch), .int bw, .int ot])), (c0, .inl (kc, 480, .inl (nR gc)))]) [3, 4] rfl
      have hKc := hK.sub (tys' := [(kc, .int)]) [2] rfl
      refine vp_callSi (W.runS (As := [.ref w0, .int (nI tt), .int (nI oo), .int (nI i)]) (rest := []) ⟨hx, hb, hml, hown, hts⟩ (g_X3_lessIn l dC dI w0 c0 b0 h1 m1 w zt ch bw ot kc gc tt oo i (by first | assumption | omega) (by first | assumption | omega) (by first | assumption | omega)) (va_cwS 4 hts gX3_greatestLeft_X3_lessIn rfl rfl rfl (by decide +kernel) ⟨Nat.le_of_ble_eq_true rfl, Nat.le_of_ble_eq_true rfl⟩) ⟨fun a U g mk q => by obtain ⟨q0, qP, qK⟩ := q; exact ⟨q0, qP, va_K.moved (u := U) (U := U.calling g mk a) (Vm.Alike.refl U.vm) qK⟩, fun U hU hW => ⟨rfl, by rw [hU]; exact hPc, va_K.moved hW.alike hKc⟩⟩ rfl rfl hl.1 rfl (lv_room (Nat.le_of_ble_eq_true rfl)) dX3_greatestLeft_23 ⟨Nat.le_of_ble_eq_true rfl, Nat.le_of_ble_eq_true rfl⟩) (fun r_23 hw_23 => ?_)
      clear hPc
      obtain rfl : dW (cst gc) tt oo i = r_23 := Eq.symm hw_23
      refine lv_istore (lv' := [(7, .int (dW (cst gc) tt oo i)), (0, .ref h0), (1, .ref w0), (2, .int (nI tt)), (3, .int (nI oo)), (4, .int ((gB (dW (cst gc) tt oo) fz i).1)), (5, .int ((gB (dW (cst gc) tt oo) fz i).2)), (6, .int (nI i))]) hx hb dX3_greatestLeft_26 hl (by decide) rfl (fun ls hl => ?_)
      refine lv_aload_n hx hb dX3_greatestLeft_28 rfl (lv_at hl 1 rfl) ?_
      refine va_get (D := (dC, dI)) (ci := 3) (v := .ref t0) (C := RX3) (T := TX3) (N := 3) hx hb hts hi_X3 hown hK hP 0 rfl rfl 2 (by decide) k_f19 (fun _ h9 => h9) rfl dX3_greatestLeft_29 ?_
      refine lv_iload hx hb dX3_greatestLeft_32 (lv_at hl 7 rfl) ?_
      refine va_zald hx hb hK hP 2 1 rfl rfl (i := nI i) (vp_in_nI (by omega) (by omega)) dX3_greatestLeft_34 ?_
      refine lv_topi (fun x_34 ex_34 => ?_)
      obtain rfl : fz i = x_34 := Eq.symm (ex_34.trans (fR_at (by omega)))
      refine lv_if_ne (tgt := 53) hx hb dX3_greatestLeft_35 (by decide) (fun c_35 => ?_) (fun c_35 => ?_)
      · have eg : gB (dW (cst gc) tt oo) fz (i + 1) = gB (dW (cst gc) tt oo) fz i := gB_n (fun h9 => c_35 h9.1)
        replace hl : lv_has ls 8 [(7, .int (dW (cst gc) tt oo i)), (0, .ref h0), (1, .ref w0), (2, .int (nI tt)), (3, .int (nI oo)), (4, .int ((gB (dW (cst gc) tt oo) fz (i + 1)).1)), (5, .int ((gB (dW (cst gc) tt oo) fz (i + 1)).2)), (6, .int (nI i))] := by rw [eg]; exact hl
        refine lv_iinc (v := nI (i + 1)) (lv' := [(6, .int (nI (i + 1))), (7, .int (dW (cst gc) tt oo i)), (0, .ref h0), (1, .ref w0), (2, .int (nI tt)), (3, .int (nI oo)), (4, .int ((gB (dW (cst gc) tt oo) fz (i + 1)).1)), (5, .int ((gB (dW (cst gc) tt oo) fz (i + 1)).2))]) hx hb dX3_greatestLeft_53 hl (k := 7) rfl (nI_1 _) (by decide) rfl (fun ls hl => ?_)
        refine lv_goto (tgt := 9) hx hb dX3_greatestLeft_56 (by decide) ?_
        replace hl : lv_has ls 8 [(0, .ref h0), (1, .ref w0), (2, .int (nI tt)), (3, .int (nI oo)), (4, .int ((gB (dW (cst gc) tt oo) fz (i + 1)).1)), (5, .int ((gB (dW (cst gc) tt oo) fz (i + 1)).2)), (6, .int (nI (i + 1)))] := lv_sub hl [2, 3, 4, 5, 6, 7, 0] rfl
        apply ih9 (i := i + 1) <;> first | assumption | omega
      · refine lv_iload hx hb dX3_greatestLeft_38 (lv_at hl 0 rfl) ?_
        refine lv_iload hx hb dX3_greatestLeft_40 (lv_at hl 6 rfl) ?_
        refine lv_icmp_le (tgt := 53) hx hb dX3_greatestLeft_42 (by decide) (fun c_42 => ?_) (fun c_42 => ?_)
        · have eg : gB (dW (cst gc) tt oo) fz (i + 1) = gB (dW (cst gc) tt oo) fz i := gB_n (fun h9 => Int32.not_le.mpr h9.2 c_42)
          replace hl : lv_has ls 8 [(7, .int (dW (cst gc) tt oo i)), (0, .ref h0), (1, .ref w0), (2, .int (nI tt)), (3, .int (nI oo)), (4, .int ((gB (dW (cst gc) tt oo) fz (i + 1)).1)), (5, .int ((gB (dW (cst gc) tt oo) fz (i + 1)).2)), (6, .int (nI i))] := by rw [eg]; exact hl
          refine lv_iinc (v := nI (i + 1)) (lv' := [(6, .int (nI (i + 1))), (7, .int (dW (cst gc) tt oo i)), (0, .ref h0), (1, .ref w0), (2, .int (nI tt)), (3, .int (nI oo)), (4, .int ((gB (dW (cst gc) tt oo) fz (i + 1)).1)), (5, .int ((gB (dW (cst gc) tt oo) fz (i + 1)).2))]) hx hb dX3_greatestLeft_53 hl (k := 7) rfl (nI_1 _) (by decide) rfl (fun ls hl => ?_)
          refine lv_goto (tgt := 9) hx hb dX3_greatestLeft_56 (by decide) ?_
          replace hl : lv_has ls 8 [(0, .ref h0), (1, .ref w0), (2, .int (nI tt)), (3, .int (nI oo)), (4, .int ((gB (dW (cst gc) tt oo) fz (i + 1)).1)), (5, .int ((gB (dW (cst gc) tt oo) fz (i + 1)).2)), (6, .int (nI (i + 1)))] := lv_sub hl [2, 3, 4, 5, 6, 7, 0] rfl
          apply ih9 (i := i + 1) <;> first | assumption | omega
        · refine lv_iload hx hb dX3_greatestLeft_45 (lv_at hl 0 rfl) ?_
          refine lv_istore (lv' := [(5, .int (dW (cst gc) tt oo i)), (7, .int (dW (cst gc) tt oo i)), (0, .ref h0), (1, .ref w0), (2, .int (nI tt)), (3, .int (nI oo)), (4, .int ((gB (dW (cst gc) tt oo) fz i).1)), (6, .int (nI i))]) hx hb dX3_greatestLeft_47 hl (by decide) rfl (fun ls hl => ?_)
          refine lv_iload hx hb dX3_greatestLeft_49 (lv_at hl 7 rfl) ?_
          refine lv_istore (lv' := [(4, .int (nI i)), (5, .int (dW (cst gc) tt oo i)), (7, .int (dW (cst gc) tt oo i)), (0, .ref h0), (1, .ref w0), (2, .int (nI tt)), (3, .int (nI oo)), (6, .int (nI i))]) hx hb dX3_greatestLeft_51 hl (by decide) rfl (fun ls hl => ?_)
          have eg : gB (dW (cst gc) tt oo) fz (i + 1) = (nI i, dW (cst gc) tt oo i) := gB_y c_35 (Int32.not_le.mp c_42)
          replace hl : lv_has ls 8 [(4, .int ((gB (dW (cst gc) tt oo) fz (i + 1)).1)), (5, .int ((gB (dW (cst gc) tt oo) fz (i + 1)).2)), (7, .int (dW (cst gc) tt oo i)), (0, .ref h0), (1, .ref w0), (2, .int (nI tt)), (3, .int (nI oo)), (6, .int (nI i))] := by rw [eg]; exact hl
          refine lv_iinc (v := nI (i + 1)) (lv' := [(6, .int (nI (i + 1))), (4, .int ((gB (dW (cst gc) tt oo) fz (i + 1)).1)), (5, .int ((gB (dW (cst gc) tt oo) fz (i + 1)).2)), (7, .int (dW (cst gc) tt oo i)), (0, .ref h0), (1, .ref w0), (2, .int (nI tt)), (3, .int (nI oo))]) hx hb dX3_greatestLeft_53 hl (k := 7) rfl (nI_1 _) (by decide) rfl (fun ls hl => ?_)
          refine lv_goto (tgt := 9) hx hb dX3_greatestLeft_56 (by decide) ?_
          replace hl : lv_has ls 8 [(0, .ref h0), (1, .ref w0), (2, .int (nI tt)), (3, .int (nI oo)), (4, .int ((gB (dW (cst gc) tt oo) fz (i + 1)).1)), (5, .int ((gB (dW (cst gc) tt oo) fz (i + 1)).2)), (6, .int (nI (i + 1)))] := lv_sub hl [4, 5, 6, 7, 1, 2, 0] rfl
          apply ih9 (i := i + 1) <;> first | assumption | omega

set_option maxHeartbeats 4000000 in
set_option maxRecDepth 100000 in
theorem g_X3_keepTaken (l : Launch) (dC : Nat → ClassId) (dI : Nat → Nat → Nat) (h0 : Nat) (r0 : Nat) (z : Nat) (t0 : Nat) (kr : ClassId) (kz : ClassId) (fr : Nat → Int32) (fz : Nat → Int32) (w : Nat) (sz : Nat) (hw : w ≤ 60) : Met l yX3_keepTaken wsX3_keepTaken ({ frames := 0, cells := 0, slots := 0, locals := 0 }) (va_Pc [.ref h0, .int (nI w)] (fun U => U.heap.size = sz ∧ va_P (dC, dI) vwCl [(h0, .inr (3, [.ref r0, .int (nI z), .ref t0])), (r0, .inl (kr, 60, .inl fr)), (t0, .inl (kz, 60, .inl fz))] U.heap ∧ va_K (dC, dI) vwCl [(kr, .int), (kz, .boolean)] U ∧ va_D (fun _ => True) [(h0, .inr (3, [.ref r0, .int (nI z), .ref t0])), (r0, .inl (kr, 60, .inl fr)), (t0, .inl (kz, 60, .inl fz))])) (va_Qv (fun (u : Nat × (Nat → Int32)) => match u with | (zo, ro) => (zo = cnK fz w ∧ ∀ j, j < w → ¬ fz j = 0 → ro (cnK fz j) = nI j)) (fun (u : Nat × (Nat → Int32)) (t : State) => match u with | (zo, ro) => va_P (dC, dI) vwCl [(h0, .inr (3, [.ref r0, .int (nI zo), .ref t0])), (r0, .inl (kr, 60, .inl ro)), (t0, .inl (kz, 60, .inl fz))] t.heap ∧ va_D (va_A [(h0, .inr (3, [.ref r0, .int (nI z), .ref t0])), (r0, .inl (kr, 60, .inl fr)), (t0, .inl (kz, 60, .inl fz))] sz) [(h0, .inr (3, [.ref r0, .int (nI zo), .ref t0])), (r0, .inl (kr, 60, .inl ro)), (t0, .inl (kz, 60, .inl fz))]) (va_A [(h0, .inr (3, [.ref r0, .int (nI z), .ref t0])), (r0, .inl (kr, 60, .inl fr)), (t0, .inl (kz, 60, .inl fz))] sz)) 0 0 (va_A [(h0, .inr (3, [.ref r0, .int (nI z), .ref t0])), (r0, .inl (kr, 60, .inl fr)), (t0, .inl (kz, 60, .inl fz))] sz) := by
  refine Met.ofW (cc := cX3_keepTaken) (maxL := 3) (ret := none) (by decide) rfl ?_
  intro p e s m args below meth c s₁ B hml hv
  obtain ⟨rfl, hsz, hP, hK, hD0⟩ := hv
  have hx := B.exec
  have hb := B.bytes
  have hr := B.returns
  have hts := atoms_spec (ws := wsX3_keepTaken) B.pre
  have hown : s.vm.findClass RX3 = some m.cls := findClass_of_methodNamed B.named
  have hlocks := B.notSynchronized
  subst hsz
  have hD := hD0.self (sz := s.heap.size)
  clear hD0
  generalize hAe : va_A [(h0, .inr (3, [.ref r0, .int (nI z), .ref t0])), (r0, .inl (kr, 60, .inl fr)), (t0, .inl (kz, 60, .inl fz))] s.heap.size = A at hD ⊢
  have hA : ∀ q : Nat, s.heap.size ≤ q → A q := fun q h => by rw [← hAe]; exact Or.inr h
  clear hAe
  have hS : va_S A s.heap s.heap [] := va_S.rf
  replace hP : va_P (dC, dI) vwCl [(h0, .inr (3, [.ref r0, .int (nI z), .ref t0])), (r0, .inl (kr, 60, .inl fr)), (t0, .inl (kz, 60, .inl fz))] s.heap := hP
  have hl := lv_entry ([.ref h0, .int (nI w)]) (n := 3) (Nat.le_of_ble_eq_true rfl)
  rw [lg_entry_eq]
  generalize (lg_sl ([.ref h0, .int (nI w)]) ++ List.replicate (3 - (lg_sl ([.ref h0, .int (nI w)])).length) Slot.unset).toArray = ls at hl ⊢
  replace hl : lv_has ls 3 [(0, .ref h0), (1, .int (nI w))] := hl
  have hi_X3 : ∀ w ∈ wsX30, w ∈ wsX3_keepTaken := by decide +kernel
  have k_f15 := hts (.fieldLink RX3 15 "TongueTeller$Telling" "size" "I") (by decide +kernel)
  have k_f19 := hts (.fieldLink RX3 19 "TongueTeller$Telling" "taken" "[Z") (by decide +kernel)
  have k_f9 := hts (.fieldLink RX3 9 "TongueTeller$Telling" "row" "[I") (by decide +kernel)
  refine lv_aload_n hx hb dX3_keepTaken_0 rfl (lv_at hl 0 rfl) ?_
  refine lv_iconst (v := 0) hx hb dX3_keepTaken_1 (by decide) ?_
  refine va_put (D := (dC, dI)) (ci := 3) (v := .int 0) (ty := .int) (C := RX3) (T := TX3) (N := 3) hx hb hts hi_X3 tyX3 tyX3_ok nmX3 hown hK hP hD hS 0 rfl rfl 1 (by decide) k_f15 (fun _ h9 => h9) rfl (by decide +kernel) rfl rfl (Nat.le_of_ble_eq_true rfl) dX3_keepTaken_2 (fun H locs hP hD hS => ?_)
  replace hP : va_P (dC, dI) vwCl [(h0, .inr (3, [.ref r0, .int 0, .ref t0])), (r0, .inl (kr, 60, .inl fr)), (t0, .inl (kz, 60, .inl fz))] H := hP
  replace hD : va_D A [(h0, .inr (3, [.ref r0, .int 0, .ref t0])), (r0, .inl (kr, 60, .inl fr)), (t0, .inl (kz, 60, .inl fz))] := hD
  refine lv_iconst (v := 0) hx hb dX3_keepTaken_5 (by decide) ?_
  refine lv_istore_n (lv' := [(2, .int 0), (0, .ref h0), (1, .int (nI w))]) hx hb dX3_keepTaken_6 rfl hl (by decide) rfl (fun ls hl => ?_)
  obtain ⟨i, e_i⟩ : ∃ y : Nat, y = 0 := ⟨_, rfl⟩
  obtain ⟨fq, e_fq⟩ : ∃ y : Nat → Int32, y = fr := ⟨_, rfl⟩
  replace hl : lv_has ls 3 [(0, .ref h0), (1, .int (nI w)), (2, .int (nI i))] := by subst e_i; subst e_fq; exact lv_sub hl [1, 2, 0] rfl
  replace hP : va_P (dC, dI) vwCl [(h0, .inr (3, [.ref r0, .int (nI (cnK fz i)), .ref t0])), (r0, .inl (kr, 60, .inl fq)), (t0, .inl (kz, 60, .inl fz))] H := by subst e_i; subst e_fq; exact hP
  replace hD : va_D A [(h0, .inr (3, [.ref r0, .int (nI (cnK fz i)), .ref t0])), (r0, .inl (kr, 60, .inl fq)), (t0, .inl (kz, 60, .inl fz))] := by subst e_i; subst e_fq; exact hD
  have hi1 : i ≤ w := by subst e_i; subst e_fq; omega
  have hro : ∀ j, j < i → ¬ fz j = 0 → fq (cnK fz j) = nI j := by subst e_i; subst e_fq; exact fun j hj => absurd hj (Nat.not_lt_zero j)
  clear e_i e_fq
  obtain ⟨nn7, hnn7⟩ : ∃ q : Nat, w - i < q := ⟨_, Nat.lt_succ_self _⟩
  induction nn7 generalizing i fq H locs ls with
  | zero => exact absurd hnn7 (Nat.not_lt_zero _)
  | succ nn7 ih7 =>
    refine lv_iload_n hx hb dX3_keepTaken_7 rfl (lv_at hl 2 rfl) ?_
    refine lv_iload_n hx hb dX3_keepTaken_8 rfl (lv_at hl 1 rfl) ?_
    refine lv_icmp_ge (tgt := 47) hx hb dX3_keepTaken_9 (by decide) (fun c_9 => ?_) (fun c_9 => ?_)
    · have n_9 : w ≤ i := (nI_leI (a := w) (b := i) (by omega) (by omega)).mp c_9
      have hP9 := hP.sub (ws' := [(h0, .inr (3, [.ref r0, .int (nI (cnK fz i)), .ref t0])), (r0, .inl (kr, 60, .inl fq)), (t0, .inl (kz, 60, .inl fz))]) [0, 1, 2] rfl
      have hD9 := hD.sub (ws' := [(h0, .inr (3, [.ref r0, .int (nI (cnK fz i)), .ref t0])), (r0, .inl (kr, 60, .inl fq)), (t0, .inl (kz, 60, .inl fz))]) [0, 1, 2] (by decide) rfl
      exact W.vret hx hb hr (fun t ht hW => ⟨⟨((cnK fz i), fq), rfl, by exact ⟨by rw [show i = w by omega], fun j hj => hro j (by omega)⟩, by rw [ht]; exact hP9, hD9⟩, hS.F ht⟩) hS.2.2 dX3_keepTaken_47
    · have n_9 : i < w := Nat.not_le.mp (fun h9 => c_9 ((nI_leI (a := w) (b := i) (by omega) (by omega)).mpr h9))
      have hcn := cnK_le fz i
      refine lv_aload_n hx hb dX3_keepTaken_12 rfl (lv_at hl 0 rfl) ?_
      refine va_get (D := (dC, dI)) (ci := 3) (v := .ref t0) (C := RX3) (T := TX3) (N := 3) hx hb hts hi_X3 hown hK hP 0 rfl rfl 2 (by decide) k_f19 (fun _ h9 => h9) rfl dX3_keepTaken_13 ?_
      refine lv_iload_n hx hb dX3_keepTaken_16 rfl (lv_at hl 2 rfl) ?_
      refine va_zald hx hb hK hP 2 1 rfl rfl (i := nI i) (vp_in_nI (by omega) (by omega)) dX3_keepTaken_17 ?_
      refine lv_topi (fun x_17 ex_17 => ?_)
      obtain rfl : fz i = x_17 := Eq.symm (ex_17.trans (fR_at (by omega)))
      refine lv_if_eq (tgt := 41) hx hb dX3_keepTaken_18 (by decide) (fun c_18 => ?_) (fun c_18 => ?_)
      · have ecb : cnK fz (i + 1) = cnK fz i := cnK_n c_18
        replace hP : va_P (dC, dI) vwCl [(h0, .inr (3, [.ref r0, .int (nI (cnK fz (i + 1))), .ref t0])), (r0, .inl (kr, 60, .inl fq)), (t0, .inl (kz, 60, .inl fz))] H := by rw [ecb]; exact hP
        replace hD : va_D A [(h0, .inr (3, [.ref r0, .int (nI (cnK fz (i + 1))), .ref t0])), (r0, .inl (kr, 60, .inl fq)), (t0, .inl (kz, 60, .inl fz))] := by rw [ecb]; exact hD
        refine lv_iinc (v := nI (i + 1)) (lv' := [(2, .int (nI (i + 1))), (0, .ref h0), (1, .int (nI w))]) hx hb dX3_keepTaken_41 hl (k := 2) rfl (nI_1 _) (by decide) rfl (fun ls hl => ?_)
        refine lv_goto (tgt := 7) hx hb dX3_keepTaken_44 (by decide) ?_
        replace hl : lv_has ls 3 [(0, .ref h0), (1, .int (nI w)), (2, .int (nI (i + 1)))] := lv_sub hl [1, 2, 0] rfl
        replace hP : va_P (dC, dI) vwCl [(h0, .inr (3, [.ref r0, .int (nI (cnK fz (i + 1))), .ref t0])), (r0, .inl (kr, 60, .inl fq)), (t0, .inl (kz, 60, .inl fz))] H := hP
        replace hD : va_D A [(h0, .inr (3, [.ref r0, .int (nI (cnK fz (i + 1))), .ref t0])), (r0, .inl (kr, 60, .inl fq)), (t0, .inl (kz, 60, .inl fz))] := hD
        have hro9 : ∀ j, j < (i + 1) → ¬ fz j = 0 → fq (cnK fz j) = nI j := (fun j hj hn => by by_cases e9 : j = i; (exact absurd (by rw [e9]; exact c_18) hn); (exact hro j (by omega) hn))
        apply ih7 (i := i + 1) (fq := fq) <;> first | assumption | omega
      · refine lv_aload_n hx hb dX3_keepTaken_21 rfl (lv_at hl 0 rfl) ?_
        refine va_get (D := (dC, dI)) (ci := 3) (v := .ref r0) (C := RX3) (T := TX3) (N := 3) hx hb hts hi_X3 hown hK hP 0 rfl rfl 0 (by decide) k_f9 (fun _ h9 => h9) rfl dX3_keepTaken_22 ?_
        refine lv_aload_n hx hb dX3_keepTaken_25 rfl (lv_at hl 0 rfl) ?_
        refine va_get (D := (dC, dI)) (ci := 3) (v := .int (nI (cnK fz i))) (C := RX3) (T := TX3) (N := 3) hx hb hts hi_X3 hown hK hP 0 rfl rfl 1 (by decide) k_f15 (fun _ h9 => h9) rfl dX3_keepTaken_26 ?_
        refine lv_iload_n hx hb dX3_keepTaken_29 rfl (lv_at hl 2 rfl) ?_
        refine va_iast hx hb hK hP hD hS 1 0 rfl rfl (i := nI (cnK fz i)) (x := nI i) (vp_in_nI (by omega) (by omega)) dX3_keepTaken_30 (fun H locs hP hD hS => ?_)
        have er_30 : upd fq (nI (cnK fz i) : Int32).toNatClampNeg (nI i) = upd fq (cnK fz i) (nI i) := upd_at (by omega)
        replace hP : va_P (dC, dI) vwCl [(h0, .inr (3, [.ref r0, .int (nI (cnK fz i)), .ref t0])), (r0, .inl (kr, 60, .inl (upd fq (cnK fz i) (nI i)))), (t0, .inl (kz, 60, .inl fz))] H := by rw [← er_30]; exact hP
        replace hD : va_D A [(h0, .inr (3, [.ref r0, .int (nI (cnK fz i)), .ref t0])), (r0, .inl (kr, 60, .inl (upd fq (cnK fz i) (nI i)))), (t0, .inl (kz, 60, .inl fz))] := by rw [← er_30]; exact hD
        refine lv_aload_n hx hb dX3_keepTaken_31 rfl (lv_at hl 0 rfl) ?_
        refine lv_dup hx hb dX3_keepTaken_32 rfl ?_
        refine va_get (D := (dC, dI)) (ci := 3) (v := .int (nI (cnK fz i))) (C := RX3) (T := TX3) (N := 3) hx hb hts hi_X3 hown hK hP 0 rfl rfl 1 (by decide) k_f15 (fun _ h9 => h9) rfl dX3_keepTaken_33 ?_
        refine lv_iconst (v := 1) hx hb dX3_keepTaken_36 (by decide) ?_
        refine lv_iadd hx hb dX3_keepTaken_37 ?_
        refine lv_topi (fun x_37 ex_37 => ?_)
        obtain rfl : nI (cnK fz i + 1) = x_37 := Eq.symm (ex_37.trans (nI_add (cnK fz i) 1))
        refine va_put (D := (dC, dI)) (ci := 3) (v := .int (nI (cnK fz i + 1))) (ty := .int) (C := RX3) (T := TX3) (N := 3) hx hb hts hi_X3 tyX3 tyX3_ok nmX3 hown hK hP hD hS 0 rfl rfl 1 (by decide) k_f15 (fun _ h9 => h9) rfl (by decide +kernel) rfl rfl (Nat.le_of_ble_eq_true rfl) dX3_keepTaken_38 (fun H locs hP hD hS => ?_)
        replace hP : va_P (dC, dI) vwCl [(h0, .inr (3, [.ref r0, .int (nI (cnK fz i + 1)), .ref t0])), (r0, .inl (kr, 60, .inl (upd fq (cnK fz i) (nI i)))), (t0, .inl (kz, 60, .inl fz))] H := hP
        replace hD : va_D A [(h0, .inr (3, [.ref r0, .int (nI (cnK fz i + 1)), .ref t0])), (r0, .inl (kr, 60, .inl (upd fq (cnK fz i) (nI i)))), (t0, .inl (kz, 60, .inl fz))] := hD
        have ecb : cnK fz (i + 1) = cnK fz i + 1 := cnK_y c_18
        replace hP : va_P (dC, dI) vwCl [(h0, .inr (3, [.ref r0, .int (nI (cnK fz (i + 1))), .ref t0])), (r0, .inl (kr, 60, .inl (upd fq (cnK fz i) (nI i)))), (t0, .inl (kz, 60, .inl fz))] H := by rw [ecb]; exact hP
        replace hD : va_D A [(h0, .inr (3, [.ref r0, .int (nI (cnK fz (i + 1))), .ref t0])), (r0, .inl (kr, 60, .inl (upd fq (cnK fz i) (nI i)))), (t0, .inl (kz, 60, .inl fz))] := by rw [ecb]; exact hD
        refine lv_iinc (v := nI (i + 1)) (lv' := [(2, .int (nI (i + 1))), (0, .ref h0), (1, .int (nI w))]) hx hb dX3_keepTaken_41 hl (k := 2) rfl (nI_1 _) (by decide) rfl (fun ls hl => ?_)
        refine lv_goto (tgt := 7) hx hb dX3_keepTaken_44 (by decide) ?_
        replace hl : lv_has ls 3 [(0, .ref h0), (1, .int (nI w)), (2, .int (nI (i + 1)))] := lv_sub hl [1, 2, 0] rfl
        replace hP : va_P (dC, dI) vwCl [(h0, .inr (3, [.ref r0, .int (nI (cnK fz (i + 1))), .ref t0])), (r0, .inl (kr, 60, .inl (upd fq (cnK fz i) (nI i)))), (t0, .inl (kz, 60, .inl fz))] H := hP
        replace hD : va_D A [(h0, .inr (3, [.ref r0, .int (nI (cnK fz (i + 1))), .ref t0])), (r0, .inl (kr, 60, .inl (upd fq (cnK fz i) (nI i)))), (t0, .inl (kz, 60, .inl fz))] := hD
        have hro9 : ∀ j, j < (i + 1) → ¬ fz j = 0 → (upd fq (cnK fz i) (nI i)) (cnK fz j) = nI j := (fun j hj hn => by by_cases e9 : j = i; (rw [e9]; exact if_pos rfl); (exact (if_neg (Nat.ne_of_lt (cnK_lt hn (by omega)))).trans (hro j (by omega) hn)))
        apply ih7 (i := i + 1) (fq := upd fq (cnK fz i) (nI i)) <;> first | assumption | omega

set_option maxHeartbeats 4000000 in
set_option maxRecDepth 100000 in
theorem g_X3_choose (l : Launch) (dC : Nat → ClassId) (dI : Nat → Nat → Nat) (h0 : Nat) (r0 : Nat) (z : Nat) (t0 : Nat) (kr : ClassId) (kz : ClassId) (fr : Nat → Int32) (fz : Nat → Int32) (w0 : Nat) (c0 : Nat) (b0 : Nat) (h1 : Nat) (m1 : Nat) (w : Nat) (zt : Nat) (ch : Nat) (bw : Int32) (ot : Int32) (kc : ClassId) (gc : Nat → Nat) (tt : Nat) (oo : Nat) (p3 : Int32) (sz : Nat) (ht : tt < 8) (ho : oo < 8) (hw : w ≤ 60) (hz : z ≤ 60) : Met l yX3_choose wsX3_choose ({ frames := 2, cells := 0, slots := 0, locals := 50 }) (va_Pc [.ref h0, .ref w0, .int (nI tt), .int (nI oo), .int p3] (fun U => U.heap.size = sz ∧ va_P (dC, dI) vwCl [(h0, .inr (3, [.ref r0, .int (nI z), .ref t0])), (r0, .inl (kr, 60, .inl fr)), (t0, .inl (kz, 60, .inl fz)), (w0, .inr (5, [.ref c0, .ref b0, .ref h1, .ref m1, .int (nI w), .int (nI zt), .int (nI ch), .int bw, .int ot])), (c0, .inl (kc, 480, .inl (nR gc)))] U.heap ∧ va_K (dC, dI) vwCl [(kr, .int), (kz, .boolean), (kc, .int)] U ∧ va_D (fun _ => True) [(h0, .inr (3, [.ref r0, .int (nI z), .ref t0])), (r0, .inl (kr, 60, .inl fr)), (t0, .inl (kz, 60, .inl fz)), (w0, .inr (5, [.ref c0, .ref b0, .ref h1, .ref m1, .int (nI w), .int (nI zt), .int (nI ch), .int bw, .int ot])), (c0, .inl (kc, 480, .inl (nR gc)))])) (va_Qi (fun (r : Int32) (u : Nat × (Nat → Int32) × (Nat → Int32)) => match u with | (zo, ro, yo) => (zo ≤ 60) ∧ (TLA (dW (cst gc) tt oo) w p3 r z zo fr ro)) (fun (u : Nat × (Nat → Int32) × (Nat → Int32)) (t : State) => match u with | (zo, ro, yo) => va_P (dC, dI) vwCl [(h0, .inr (3, [.ref r0, .int (nI zo), .ref t0])), (r0, .inl (kr, 60, .inl ro)), (t0, .inl (kz, 60, .inl yo)), (w0, .inr (5, [.ref c0, .ref b0, .ref h1, .ref m1, .int (nI w), .int (nI zt), .int (nI ch), .int bw, .int ot])), (c0, .inl (kc, 480, .inl (nR gc)))] t.heap ∧ va_D (va_A [(h0, .inr (3, [.ref r0, .int (nI z), .ref t0])), (r0, .inl (kr, 60, .inl fr)), (t0, .inl (kz, 60, .inl fz)), (w0, .inr (5, [.ref c0, .ref b0, .ref h1, .ref m1, .int (nI w), .int (nI zt), .int (nI ch), .int bw, .int ot])), (c0, .inl (kc, 480, .inl (nR gc)))] sz) [(h0, .inr (3, [.ref r0, .int (nI zo), .ref t0])), (r0, .inl (kr, 60, .inl ro)), (t0, .inl (kz, 60, .inl yo)), (w0, .inr (5, [.ref c0, .ref b0, .ref h1, .ref m1, .int (nI w), .int (nI zt), .int (nI ch), .int bw, .int ot])), (c0, .inl (kc, 480, .inl (nR gc)))]) (va_A [(h0, .inr (3, [.ref r0, .int (nI z), .ref t0])), (r0, .inl (kr, 60, .inl fr)), (t0, .inl (kz, 60, .inl fz)), (w0, .inr (5, [.ref c0, .ref b0, .ref h1, .ref m1, .int (nI w), .int (nI zt), .int (nI ch), .int bw, .int ot])), (c0, .inl (kc, 480, .inl (nR gc)))] sz)) 0 0 (va_A [(h0, .inr (3, [.ref r0, .int (nI z), .ref t0])), (r0, .inl (kr, 60, .inl fr)), (t0, .inl (kz, 60, .inl fz)), (w0, .inr (5, [.ref c0, .ref b0, .ref h1, .ref m1, .int (nI w), .int (nI zt), .int (nI ch), .int bw, .int ot])), (c0, .inl (kc, 480, .inl (nR gc)))] sz) := by
  refine Met.ofW (cc := cX3_choose) (maxL := 8) (ret := (some .int)) (by decide) rfl ?_
  intro p e s m args below meth c s₁ B hml hv
  obtain ⟨rfl, hsz, hP, hK, hD0⟩ := hv
  have hx := B.exec
  have hb := B.bytes
  have hr := B.returns
  have hts := atoms_spec (ws := wsX3_choose) B.pre
  have hown : s.vm.findClass RX3 = some m.cls := findClass_of_methodNamed B.named
  have hlocks := B.notSynchronized
  subst hsz
  have hD := hD0.self (sz := s.heap.size)
  clear hD0
  generalize hAe : va_A [(h0, .inr (3, [.ref r0, .int (nI z), .ref t0])), (r0, .inl (kr, 60, .inl fr)), (t0, .inl (kz, 60, .inl fz)), (w0, .inr (5, [.ref c0, .ref b0, .ref h1, .ref m1, .int (nI w), .int (nI zt), .int (nI ch), .int bw, .int ot])), (c0, .inl (kc, 480, .inl (nR gc)))] s.heap.size = A at hD ⊢
  have hA : ∀ q : Nat, s.heap.size ≤ q → A q := fun q h => by rw [← hAe]; exact Or.inr h
  clear hAe
  have hS : va_S A s.heap s.heap [] := va_S.rf
  replace hP : va_P (dC, dI) vwCl [(h0, .inr (3, [.ref r0, .int (nI z), .ref t0])), (r0, .inl (kr, 60, .inl fr)), (t0, .inl (kz, 60, .inl fz)), (w0, .inr (5, [.ref c0, .ref b0, .ref h1, .ref m1, .int (nI w), .int (nI zt), .int (nI ch), .int bw, .int ot])), (c0, .inl (kc, 480, .inl (nR gc)))] s.heap := hP
  have hl := lv_entry ([.ref h0, .ref w0, .int (nI tt), .int (nI oo), .int p3]) (n := 8) (Nat.le_of_ble_eq_true rfl)
  rw [lg_entry_eq]
  generalize (lg_sl ([.ref h0, .ref w0, .int (nI tt), .int (nI oo), .int p3]) ++ List.replicate (8 - (lg_sl ([.ref h0, .ref w0, .int (nI tt), .int (nI oo), .int p3])).length) Slot.unset).toArray = ls at hl ⊢
  replace hl : lv_has ls 8 [(0, .ref h0), (1, .ref w0), (2, .int (nI tt)), (3, .int (nI oo)), (4, .int p3)] := hl
  have hi_X5 : ∀ w ∈ wsX50, w ∈ wsX3_choose := by decide +kernel
  have k_f23 := hts (.fieldLink RX3 23 "TongueTeller$Way" "words" "I") (by decide +kernel)
  have hi_X3 : ∀ w ∈ wsX30, w ∈ wsX3_choose := by decide +kernel
  have k_f19 := hts (.fieldLink RX3 19 "TongueTeller$Telling" "taken" "[Z") (by decide +kernel)
  refine lv_iconst (v := 0) hx hb dX3_choose_0 (by decide) ?_
  refine lv_istore (lv' := [(5, .int 0), (0, .ref h0), (1, .ref w0), (2, .int (nI tt)), (3, .int (nI oo)), (4, .int p3)]) hx hb dX3_choose_1 hl (by decide) rfl (fun ls hl => ?_)
  obtain ⟨locs, hlo⟩ : ∃ q : List Loc, q = [] := ⟨_, rfl⟩
  obtain ⟨H, hH⟩ : ∃ q : Heap, q = s.heap := ⟨_, rfl⟩
  rw [← hH, ← hlo]
  replace hS : va_S A s.heap H locs := by rw [hH, hlo]; exact hS
  replace hP : va_P (dC, dI) vwCl [(h0, .inr (3, [.ref r0, .int (nI z), .ref t0])), (r0, .inl (kr, 60, .inl fr)), (t0, .inl (kz, 60, .inl fz)), (w0, .inr (5, [.ref c0, .ref b0, .ref h1, .ref m1, .int (nI w), .int (nI zt), .int (nI ch), .int bw, .int ot])), (c0, .inl (kc, 480, .inl (nR gc)))] H := by rw [hH]; exact hP
  clear hH hlo
  obtain ⟨i, e_i⟩ : ∃ y : Nat, y = 0 := ⟨_, rfl⟩
  obtain ⟨fy, e_fy⟩ : ∃ y : Nat → Int32, y = fz := ⟨_, rfl⟩
  replace hl : lv_has ls 8 [(0, .ref h0), (1, .ref w0), (2, .int (nI tt)), (3, .int (nI oo)), (4, .int p3), (5, .int (nI i))] := by subst e_i; subst e_fy; exact lv_sub hl [1, 2, 3, 4, 5, 0] rfl
  replace hP : va_P (dC, dI) vwCl [(h0, .inr (3, [.ref r0, .int (nI z), .ref t0])), (r0, .inl (kr, 60, .inl fr)), (t0, .inl (kz, 60, .inl fy)), (w0, .inr (5, [.ref c0, .ref b0, .ref h1, .ref m1, .int (nI w), .int (nI zt), .int (nI ch), .int bw, .int ot])), (c0, .inl (kc, 480, .inl (nR gc)))] H := by subst e_i; subst e_fy; exact hP
  replace hD : va_D A [(h0, .inr (3, [.ref r0, .int (nI z), .ref t0])), (r0, .inl (kr, 60, .inl fr)), (t0, .inl (kz, 60, .inl fy)), (w0, .inr (5, [.ref c0, .ref b0, .ref h1, .ref m1, .int (nI w), .int (nI zt), .int (nI ch), .int bw, .int ot])), (c0, .inl (kc, 480, .inl (nR gc)))] := by subst e_i; subst e_fy; exact hD
  have hi1 : i ≤ w := by subst e_i; subst e_fy; omega
  have hf0 : ∀ j, j < i → fy j = 0 := by subst e_i; subst e_fy; exact fun j hj => absurd hj (Nat.not_lt_zero j)
  clear e_i e_fy
  obtain ⟨nn3, hnn3⟩ : ∃ q : Nat, w - i < q := ⟨_, Nat.lt_succ_self _⟩
  induction nn3 generalizing i fy H locs ls with
  | zero => exact absurd hnn3 (Nat.not_lt_zero _)
  | succ nn3 ih3 =>
    refine lv_iload hx hb dX3_choose_3 (lv_at hl 5 rfl) ?_
    refine lv_aload_n hx hb dX3_choose_5 rfl (lv_at hl 1 rfl) ?_
    refine va_get (D := (dC, dI)) (ci := 5) (v := .int (nI w)) (C := RX5) (T := TX5) (N := 9) hx hb hts hi_X5 hown hK hP 3 rfl rfl 4 (by decide) k_f23 (fun _ h9 => h9) rfl dX3_choose_6 ?_
    refine lv_icmp_ge (tgt := 26) hx hb dX3_choose_9 (by decide) (fun c_9 => ?_) (fun c_9 => ?_)
    · have n_9 : w ≤ i := (nI_leI (a := w) (b := i) (by omega) (by omega)).mp c_9
      refine lv_iconst (v := 0) hx hb dX3_choose_26 (by decide) ?_
      refine lv_istore (lv' := [(5, .int 0), (0, .ref h0), (1, .ref w0), (2, .int (nI tt)), (3, .int (nI oo)), (4, .int p3)]) hx hb dX3_choose_27 hl (by decide) rfl (fun ls hl => ?_)
      refine lv_iconst (v := 0) hx hb dX3_choose_29 (by decide) ?_
      refine lv_istore (lv' := [(6, .int 0), (5, .int 0), (0, .ref h0), (1, .ref w0), (2, .int (nI tt)), (3, .int (nI oo)), (4, .int p3)]) hx hb dX3_choose_30 hl (by decide) rfl (fun ls hl => ?_)
      obtain ⟨to, e_to⟩ : ∃ y : Nat, y = 0 := ⟨_, rfl⟩
      obtain ⟨x6, e_x6⟩ : ∃ y : Int32, y = 0 := ⟨_, rfl⟩
      obtain ⟨fx, e_fx⟩ : ∃ y : Nat → Int32, y = fy := ⟨_, rfl⟩
      replace hl : lv_has ls 8 [(0, .ref h0), (1, .ref w0), (2, .int (nI tt)), (3, .int (nI oo)), (4, .int p3), (5, .int (nI to)), (6, .int x6)] := by subst e_to; subst e_x6; subst e_fx; exact lv_sub hl [2, 3, 4, 5, 6, 1, 0] rfl
      replace hP : va_P (dC, dI) vwCl [(h0, .inr (3, [.ref r0, .int (nI z), .ref t0])), (r0, .inl (kr, 60, .inl fr)), (t0, .inl (kz, 60, .inl fx)), (w0, .inr (5, [.ref c0, .ref b0, .ref h1, .ref m1, .int (nI w), .int (nI zt), .int (nI ch), .int bw, .int ot])), (c0, .inl (kc, 480, .inl (nR gc)))] H := by subst e_to; subst e_x6; subst e_fx; exact hP
      replace hD : va_D A [(h0, .inr (3, [.ref r0, .int (nI z), .ref t0])), (r0, .inl (kr, 60, .inl fr)), (t0, .inl (kz, 60, .inl fx)), (w0, .inr (5, [.ref c0, .ref b0, .ref h1, .ref m1, .int (nI w), .int (nI zt), .int (nI ch), .int bw, .int ot])), (c0, .inl (kc, 480, .inl (nR gc)))] := by subst e_to; subst e_x6; subst e_fx; exact hD
      have hto : to ≤ w := by subst e_to; subst e_x6; subst e_fx; omega
      have hag : ∀ j, j < w → fx j = tkS (dW (cst gc) tt oo) w to j := by subst e_to; subst e_x6; subst e_fx; exact fun j hj => hf0 j (by omega)
      have hsm : x6 = smS (dW (cst gc) tt oo) w to := by subst e_to; subst e_x6; subst e_fx; rfl
      have hst : TLN (dW (cst gc) tt oo) w p3 to := by subst e_to; subst e_x6; subst e_fx; exact fun j hj => absurd hj (Nat.not_lt_zero j)
      clear e_to e_x6 e_fx
      obtain ⟨nn32, hnn32⟩ : ∃ q : Nat, w - to < q := ⟨_, Nat.lt_succ_self _⟩
      induction nn32 generalizing to x6 fx H locs ls with
      | zero => exact absurd hnn32 (Nat.not_lt_zero _)
      | succ nn32 ih32 =>
        refine lv_iload hx hb dX3_choose_32 (lv_at hl 6 rfl) ?_
        refine lv_iload hx hb dX3_choose_34 (lv_at hl 4 rfl) ?_
        refine lv_icmp_ge (tgt := 93) hx hb dX3_choose_36 (by decide) (fun c_36 => ?_) (fun c_36 => ?_)
        · refine lv_iload hx hb dX3_choose_93 (lv_at hl 6 rfl) ?_
          refine lv_iload hx hb dX3_choose_95 (lv_at hl 4 rfl) ?_
          refine lv_icmp_ge (tgt := 103) hx hb dX3_choose_97 (by decide) (fun c_97 => ?_) (fun c_97 => ?_)
          · refine lv_aload_n hx hb dX3_choose_103 rfl (lv_at hl 0 rfl) ?_
            refine lv_aload_n hx hb dX3_choose_104 rfl (lv_at hl 1 rfl) ?_
            refine va_get (D := (dC, dI)) (ci := 5) (v := .int (nI w)) (C := RX5) (T := TX5) (N := 9) hx hb hts hi_X5 hown hK hP 3 rfl rfl 4 (by decide) k_f23 (fun _ h9 => h9) rfl dX3_choose_105 ?_
            have hPc := hP.sub (ws' := [(h0, .inr (3, [.ref r0, .int (nI z), .ref t0])), (r0, .inl (kr, 60, .inl fr)), (t0, .inl (kz, 60, .inl fx))]) [0, 1, 2] rfl
            have hDc := hD.sub (ws' := [(h0, .inr (3, [.ref r0, .int (nI z), .ref t0])), (r0, .inl (kr, 60, .inl fr)), (t0, .inl (kz, 60, .inl fx))]) [0, 1, 2] (by decide) rfl
            have hKc := hK.sub (tys' := [(kr, .int), (kz, .boolean)]) [0, 1] rfl
            have hFc := va_free (wc := [(h0, .inr (3, [.ref r0, .int (nI z), .ref t0])), (r0, .inl (kr, 60, .inl fr)), (t0, .inl (kz, 60, .inl fx))]) hD hS hA [0, 1, 2] rfl
            refine va_callv (va_runV (As := [.int (nI w)]) (rest := []) ⟨hx, hb, hml, hown, hts⟩ (g_X3_keepTaken l dC dI h0 r0 z t0 kr kz fr fx w H.size (by first | assumption | omega)) (cwV 1 hts gX3_choose_X3_keepTaken rfl rfl rfl (by decide +kernel) ⟨Nat.le_of_ble_eq_true rfl, Nat.le_of_ble_eq_true rfl⟩) ⟨fun a U g mk q => by obtain ⟨q0, q1, qP, qK, qD⟩ := q; exact ⟨q0, q1, qP, va_K.moved (u := U) (U := U.calling g mk a) (Vm.Alike.refl U.vm) qK, qD⟩, va_recv hK hP (ci := 3) (q0 := 0) rfl rfl, fun U hU hW => ⟨rfl, by rw [hU], by rw [hU]; exact hPc, va_K.moved hW.alike hKc, hDc.weaken (fun _ _ _ _ => trivial)⟩⟩ rfl rfl hl.1 rfl (lv_room (Nat.le_of_ble_eq_true rfl)) dX3_choose_108 ⟨Nat.le_of_ble_eq_true rfl, Nat.le_of_ble_eq_true rfl⟩) hS (fun q _ h => hFc q h) hFc (fun u t H1 locs ht hvm hw_108 hB hz1 hk1 hS => ?_)
            obtain ⟨zo_108, ro_108⟩ := u
            try dsimp only at hw_108 hB
            obtain ⟨hP1, hD1⟩ := hB
            rw [ht] at hP1
            obtain ⟨hP, hD⟩ := va_join (wr := [(w0, .inr (5, [.ref c0, .ref b0, .ref h1, .ref m1, .int (nI w), .int (nI zt), .int (nI ch), .int bw, .int ot])), (c0, .inl (kc, 480, .inl (nR gc)))]) (w1 := [(h0, .inr (3, [.ref r0, .int (nI zo_108), .ref t0])), (r0, .inl (kr, 60, .inl ro_108)), (t0, .inl (kz, 60, .inl fx))]) hP hD [0, 1, 2] [3, 4] rfl rfl (by decide) (by decide) hk1 hFc hP1 hD1
            generalize H1 = H at hP hS ⊢
            replace hP : va_P (dC, dI) vwCl [(w0, .inr (5, [.ref c0, .ref b0, .ref h1, .ref m1, .int (nI w), .int (nI zt), .int (nI ch), .int bw, .int ot])), (c0, .inl (kc, 480, .inl (nR gc))), (h0, .inr (3, [.ref r0, .int (nI zo_108), .ref t0])), (r0, .inl (kr, 60, .inl ro_108)), (t0, .inl (kz, 60, .inl fx))] H := hP
            replace hD : va_D A [(w0, .inr (5, [.ref c0, .ref b0, .ref h1, .ref m1, .int (nI w), .int (nI zt), .int (nI ch), .int bw, .int ot])), (c0, .inl (kc, 480, .inl (nR gc))), (h0, .inr (3, [.ref r0, .int (nI zo_108), .ref t0])), (r0, .inl (kr, 60, .inl ro_108)), (t0, .inl (kz, 60, .inl fx))] := hD
            have hkt_108 := hw_108
            refine lv_iload hx hb dX3_choose_111 (lv_at hl 5 rfl) ?_
            have hP9 := hP.sub (ws' := [(h0, .inr (3, [.ref r0, .int (nI zo_108), .ref t0])), (r0, .inl (kr, 60, .inl ro_108)), (t0, .inl (kz, 60, .inl fx)), (w0, .inr (5, [.ref c0, .ref b0, .ref h1, .ref m1, .int (nI w), .int (nI zt), .int (nI ch), .int bw, .int ot])), (c0, .inl (kc, 480, .inl (nR gc)))]) [2, 3, 4, 0, 1] rfl
            have hD9 := hD.sub (ws' := [(h0, .inr (3, [.ref r0, .int (nI zo_108), .ref t0])), (r0, .inl (kr, 60, .inl ro_108)), (t0, .inl (kz, 60, .inl fx)), (w0, .inr (5, [.ref c0, .ref b0, .ref h1, .ref m1, .int (nI w), .int (nI zt), .int (nI ch), .int bw, .int ot])), (c0, .inl (kc, 480, .inl (nR gc)))]) [2, 3, 4, 0, 1] (by decide) rfl
            exact W.iret (v := nI to) hx hb hr (fun t ht hW => ⟨⟨nI to, (zo_108, ro_108, fx), rfl, ⟨by rw [hkt_108.1]; exact Nat.le_trans (cnK_le _ _) hw, by exact ⟨to, hst, Or.inr ⟨by rw [← hsm]; exact Int32.not_lt.mpr c_97, rfl, by rw [hkt_108.1]; exact cnK_cg w hag, fun j hj hn => by rw [← cnK_cg j (fun k hk => hag k (by omega))]; exact hkt_108.2 j hj (by rw [hag j hj]; exact hn)⟩⟩⟩, by rw [ht]; exact hP9, hD9⟩, hS.F ht⟩) hS.2.2 dX3_choose_113
          · refine lv_bipush (v := (-2)) hx hb dX3_choose_100 (by decide) ?_
            have hP9 := hP.sub (ws' := [(h0, .inr (3, [.ref r0, .int (nI z), .ref t0])), (r0, .inl (kr, 60, .inl fr)), (t0, .inl (kz, 60, .inl fx)), (w0, .inr (5, [.ref c0, .ref b0, .ref h1, .ref m1, .int (nI w), .int (nI zt), .int (nI ch), .int bw, .int ot])), (c0, .inl (kc, 480, .inl (nR gc)))]) [0, 1, 2, 3, 4] rfl
            have hD9 := hD.sub (ws' := [(h0, .inr (3, [.ref r0, .int (nI z), .ref t0])), (r0, .inl (kr, 60, .inl fr)), (t0, .inl (kz, 60, .inl fx)), (w0, .inr (5, [.ref c0, .ref b0, .ref h1, .ref m1, .int (nI w), .int (nI zt), .int (nI ch), .int bw, .int ot])), (c0, .inl (kc, 480, .inl (nR gc)))]) [0, 1, 2, 3, 4] (by decide) rfl
            exact W.iret (v := (-2)) hx hb hr (fun t ht hW => ⟨⟨(-2), (z, fr, fx), rfl, ⟨by exact hz, by exact absurd c_36 c_97⟩, by rw [ht]; exact hP9, hD9⟩, hS.F ht⟩) hS.2.2 dX3_choose_102
        · refine lv_iload hx hb dX3_choose_39 (lv_at hl 5 rfl) ?_
          refine lv_aload_n hx hb dX3_choose_41 rfl (lv_at hl 1 rfl) ?_
          refine va_get (D := (dC, dI)) (ci := 5) (v := .int (nI w)) (C := RX5) (T := TX5) (N := 9) hx hb hts hi_X5 hown hK hP 3 rfl rfl 4 (by decide) k_f23 (fun _ h9 => h9) rfl dX3_choose_42 ?_
          refine lv_icmp_ge (tgt := 93) hx hb dX3_choose_45 (by decide) (fun c_45 => ?_) (fun c_45 => ?_)
          · have n_45 : w ≤ to := (nI_leI (a := w) (b := to) (by omega) (by omega)).mp c_45
            refine lv_iload hx hb dX3_choose_93 (lv_at hl 6 rfl) ?_
            refine lv_iload hx hb dX3_choose_95 (lv_at hl 4 rfl) ?_
            refine lv_icmp_ge (tgt := 103) hx hb dX3_choose_97 (by decide) (fun c_97 => ?_) (fun c_97 => ?_)
            · refine lv_aload_n hx hb dX3_choose_103 rfl (lv_at hl 0 rfl) ?_
              refine lv_aload_n hx hb dX3_choose_104 rfl (lv_at hl 1 rfl) ?_
              refine va_get (D := (dC, dI)) (ci := 5) (v := .int (nI w)) (C := RX5) (T := TX5) (N := 9) hx hb hts hi_X5 hown hK hP 3 rfl rfl 4 (by decide) k_f23 (fun _ h9 => h9) rfl dX3_choose_105 ?_
              have hPc := hP.sub (ws' := [(h0, .inr (3, [.ref r0, .int (nI z), .ref t0])), (r0, .inl (kr, 60, .inl fr)), (t0, .inl (kz, 60, .inl fx))]) [0, 1, 2] rfl
              have hDc := hD.sub (ws' := [(h0, .inr (3, [.ref r0, .int (nI z), .ref t0])), (r0, .inl (kr, 60, .inl fr)), (t0, .inl (kz, 60, .inl fx))]) [0, 1, 2] (by decide) rfl
              have hKc := hK.sub (tys' := [(kr, .int), (kz, .boolean)]) [0, 1] rfl
              have hFc := va_free (wc := [(h0, .inr (3, [.ref r0, .int (nI z), .ref t0])), (r0, .inl (kr, 60, .inl fr)), (t0, .inl (kz, 60, .inl fx))]) hD hS hA [0, 1, 2] rfl
              refine va_callv (va_runV (As := [.int (nI w)]) (rest := []) ⟨hx, hb, hml, hown, hts⟩ (g_X3_keepTaken l dC dI h0 r0 z t0 kr kz fr fx w H.size (by first | assumption | omega)) (cwV 1 hts gX3_choose_X3_keepTaken rfl rfl rfl (by decide +kernel) ⟨Nat.le_of_ble_eq_true rfl, Nat.le_of_ble_eq_true rfl⟩) ⟨fun a U g mk q => by obtain ⟨q0, q1, qP, qK, qD⟩ := q; exact ⟨q0, q1, qP, va_K.moved (u := U) (U := U.calling g mk a) (Vm.Alike.refl U.vm) qK, qD⟩, va_recv hK hP (ci := 3) (q0 := 0) rfl rfl, fun U hU hW => ⟨rfl, by rw [hU], by rw [hU]; exact hPc, va_K.moved hW.alike hKc, hDc.weaken (fun _ _ _ _ => trivial)⟩⟩ rfl rfl hl.1 rfl (lv_room (Nat.le_of_ble_eq_true rfl)) dX3_choose_108 ⟨Nat.le_of_ble_eq_true rfl, Nat.le_of_ble_eq_true rfl⟩) hS (fun q _ h => hFc q h) hFc (fun u t H1 locs ht hvm hw_108 hB hz1 hk1 hS => ?_)
              obtain ⟨zo_108, ro_108⟩ := u
              try dsimp only at hw_108 hB
              obtain ⟨hP1, hD1⟩ := hB
              rw [ht] at hP1
              obtain ⟨hP, hD⟩ := va_join (wr := [(w0, .inr (5, [.ref c0, .ref b0, .ref h1, .ref m1, .int (nI w), .int (nI zt), .int (nI ch), .int bw, .int ot])), (c0, .inl (kc, 480, .inl (nR gc)))]) (w1 := [(h0, .inr (3, [.ref r0, .int (nI zo_108), .ref t0])), (r0, .inl (kr, 60, .inl ro_108)), (t0, .inl (kz, 60, .inl fx))]) hP hD [0, 1, 2] [3, 4] rfl rfl (by decide) (by decide) hk1 hFc hP1 hD1
              generalize H1 = H at hP hS ⊢
              replace hP : va_P (dC, dI) vwCl [(w0, .inr (5, [.ref c0, .ref b0, .ref h1, .ref m1, .int (nI w), .int (nI zt), .int (nI ch), .int bw, .int ot])), (c0, .inl (kc, 480, .inl (nR gc))), (h0, .inr (3, [.ref r0, .int (nI zo_108), .ref t0])), (r0, .inl (kr, 60, .inl ro_108)), (t0, .inl (kz, 60, .inl fx))] H := hP
              replace hD : va_D A [(w0, .inr (5, [.ref c0, .ref b0, .ref h1, .ref m1, .int (nI w), .int (nI zt), .int (nI ch), .int bw, .int ot])), (c0, .inl (kc, 480, .inl (nR gc))), (h0, .inr (3, [.ref r0, .int (nI zo_108), .ref t0])), (r0, .inl (kr, 60, .inl ro_108)), (t0, .inl (kz, 60, .inl fx))] := hD
              have hkt_108 := hw_108
              refine lv_iload hx hb dX3_choose_111 (lv_at hl 5 rfl) ?_
              have hP9 := hP.sub (ws' := [(h0, .inr (3, [.ref r0, .int (nI zo_108), .ref t0])), (r0, .inl (kr, 60, .inl ro_108)), (t0, .inl (kz, 60, .inl fx)), (w0, .inr (5, [.ref c0, .ref b0, .ref h1, .ref m1, .int (nI w), .int (nI zt), .int (nI ch), .int bw, .int ot])), (c0, .inl (kc, 480, .inl (nR gc)))]) [2, 3, 4, 0, 1] rfl
              have hD9 := hD.sub (ws' := [(h0, .inr (3, [.ref r0, .int (nI zo_108), .ref t0])), (r0, .inl (kr, 60, .inl ro_108)), (t0, .inl (kz, 60, .inl fx)), (w0, .inr (5, [.ref c0, .ref b0, .ref h1, .ref m1, .int (nI w), .int (nI zt), .int (nI ch), .int bw, .int ot])), (c0, .inl (kc, 480, .inl (nR gc)))]) [2, 3, 4, 0, 1] (by decide) rfl
              exact W.iret (v := nI to) hx hb hr (fun t ht hW => ⟨⟨nI to, (zo_108, ro_108, fx), rfl, ⟨by rw [hkt_108.1]; exact Nat.le_trans (cnK_le _ _) hw, by exact ⟨to, hst, Or.inr ⟨by rw [← hsm]; exact Int32.not_lt.mpr c_97, rfl, by rw [hkt_108.1]; exact cnK_cg w hag, fun j hj hn => by rw [← cnK_cg j (fun k hk => hag k (by omega))]; exact hkt_108.2 j hj (by rw [hag j hj]; exact hn)⟩⟩⟩, by rw [ht]; exact hP9, hD9⟩, hS.F ht⟩) hS.2.2 dX3_choose_113
            · refine lv_bipush (v := (-2)) hx hb dX3_choose_100 (by decide) ?_
              have hP9 := hP.sub (ws' := [(h0, .inr (3, [.ref r0, .int (nI z), .ref t0])), (r0, .inl (kr, 60, .inl fr)), (t0, .inl (kz, 60, .inl fx)), (w0, .inr (5, [.ref c0, .ref b0, .ref h1, .ref m1, .int (nI w), .int (nI zt), .int (nI ch), .int bw, .int ot])), (c0, .inl (kc, 480, .inl (nR gc)))]) [0, 1, 2, 3, 4] rfl
              have hD9 := hD.sub (ws' := [(h0, .inr (3, [.ref r0, .int (nI z), .ref t0])), (r0, .inl (kr, 60, .inl fr)), (t0, .inl (kz, 60, .inl fx)), (w0, .inr (5, [.ref c0, .ref b0, .ref h1, .ref m1, .int (nI w), .int (nI zt), .int (nI ch), .int bw, .int ot])), (c0, .inl (kc, 480, .inl (nR gc)))]) [0, 1, 2, 3, 4] (by decide) rfl
              exact W.iret (v := (-2)) hx hb hr (fun t ht hW => ⟨⟨(-2), (z, fr, fx), rfl, ⟨by exact hz, by exact ⟨to, hst, Or.inl ⟨rfl, by rw [← hsm]; exact Int32.not_le.mp c_97, by rw [show to = w by omega] at hst ⊢; exact tk_full hw (fun j hj => (hst j hj).2), rfl, rfl⟩⟩⟩, by rw [ht]; exact hP9, hD9⟩, hS.F ht⟩) hS.2.2 dX3_choose_102
          · have n_45 : to < w := Nat.not_le.mp (fun h9 => c_45 ((nI_leI (a := w) (b := to) (by omega) (by omega)).mpr h9))
            refine lv_aload_n hx hb dX3_choose_48 rfl (lv_at hl 0 rfl) ?_
            refine lv_aload_n hx hb dX3_choose_49 rfl (lv_at hl 1 rfl) ?_
            refine lv_iload_n hx hb dX3_choose_50 rfl (lv_at hl 2 rfl) ?_
            refine lv_iload_n hx hb dX3_choose_51 rfl (lv_at hl 3 rfl) ?_
            have hPc := hP.sub (ws' := [(h0, .inr (3, [.ref r0, .int (nI z), .ref t0])), (r0, .inl (kr, 60, .inl fr)), (t0, .inl (kz, 60, .inl fx)), (w0, .inr (5, [.ref c0, .ref b0, .ref h1, .ref m1, .int (nI w), .int (nI zt), .int (nI ch), .int bw, .int ot])), (c0, .inl (kc, 480, .inl (nR gc)))]) [0, 1, 2, 3, 4] rfl
            have hKc := hK.sub (tys' := [(kr, .int), (kz, .boolean), (kc, .int)]) [0, 1, 2] rfl
            refine vp_callSi (W.runV (As := [.ref w0, .int (nI tt), .int (nI oo)]) (rest := []) ⟨hx, hb, hml, hown, hts⟩ (g_X3_greatestLeft l dC dI h0 r0 z t0 kr kz fr fx w0 c0 b0 h1 m1 w zt ch bw ot kc gc tt oo (by first | assumption | omega) (by first | assumption | omega) (by first | assumption | omega)) (cwV 3 hts gX3_choose_X3_greatestLeft rfl rfl rfl (by decide +kernel) ⟨Nat.le_of_ble_eq_true rfl, Nat.le_of_ble_eq_true rfl⟩) ⟨fun a U g mk q => by obtain ⟨q0, qP, qK⟩ := q; exact ⟨q0, qP, va_K.moved (u := U) (U := U.calling g mk a) (Vm.Alike.refl U.vm) qK⟩, va_recv hK hP (ci := 3) (q0 := 0) rfl rfl, fun U hU hW => ⟨rfl, by rw [hU]; exact hPc, va_K.moved hW.alike hKc⟩⟩ rfl rfl hl.1 rfl (lv_room (Nat.le_of_ble_eq_true rfl)) dX3_choose_52 ⟨Nat.le_of_ble_eq_true rfl, Nat.le_of_ble_eq_true rfl⟩) (fun r_52 hw_52 => ?_)
            clear hPc
            rcases hw_52 with ⟨hr_52, hb_52⟩ | ⟨pp_52, hr_52, hb_52⟩
            · subst hr_52
              have eg52 := gB_cg (d := (dW (cst gc) tt oo)) w (fun _ _ => rfl) hag
              refine lv_istore (lv' := [(7, .int (-1)), (0, .ref h0), (1, .ref w0), (2, .int (nI tt)), (3, .int (nI oo)), (4, .int p3), (5, .int (nI to)), (6, .int x6)]) hx hb dX3_choose_55 hl (by decide) rfl (fun ls hl => ?_)
              refine lv_iload hx hb dX3_choose_57 (lv_at hl 0 rfl) ?_
              refine lv_iconst (v := (-1)) hx hb dX3_choose_59 (by decide) ?_
              refine lv_icmp_ne (tgt := 66) hx hb dX3_choose_60 (by decide) (fun c_60 => ?_) (fun c_60 => ?_)
              · exact absurd (by decide) c_60
              refine lv_bipush (v := (-2)) hx hb dX3_choose_63 (by decide) ?_
              have hP9 := hP.sub (ws' := [(h0, .inr (3, [.ref r0, .int (nI z), .ref t0])), (r0, .inl (kr, 60, .inl fr)), (t0, .inl (kz, 60, .inl fx)), (w0, .inr (5, [.ref c0, .ref b0, .ref h1, .ref m1, .int (nI w), .int (nI zt), .int (nI ch), .int bw, .int ot])), (c0, .inl (kc, 480, .inl (nR gc)))]) [0, 1, 2, 3, 4] rfl
              have hD9 := hD.sub (ws' := [(h0, .inr (3, [.ref r0, .int (nI z), .ref t0])), (r0, .inl (kr, 60, .inl fr)), (t0, .inl (kz, 60, .inl fx)), (w0, .inr (5, [.ref c0, .ref b0, .ref h1, .ref m1, .int (nI w), .int (nI zt), .int (nI ch), .int bw, .int ot])), (c0, .inl (kc, 480, .inl (nR gc)))]) [0, 1, 2, 3, 4] (by decide) rfl
              exact W.iret (v := (-2)) hx hb hr (fun t ht hW => ⟨⟨(-2), (z, fr, fx), rfl, ⟨by exact hz, by exact ⟨to, hst, Or.inl ⟨rfl, by rw [← hsm]; exact Int32.not_le.mp c_36, by rw [← eg52]; exact hb_52, rfl, rfl⟩⟩⟩, by rw [ht]; exact hP9, hD9⟩, hS.F ht⟩) hS.2.2 dX3_choose_65
            · subst hr_52
              have eg52 := gB_cg (d := (dW (cst gc) tt oo)) w (fun _ _ => rfl) hag
              have hpp := hb_52.1
              have hT9 := tk_s (by rw [← eg52]; exact hb_52.2) hb_52.1 hw
              refine lv_istore (lv' := [(7, .int (nI pp_52)), (0, .ref h0), (1, .ref w0), (2, .int (nI tt)), (3, .int (nI oo)), (4, .int p3), (5, .int (nI to)), (6, .int x6)]) hx hb dX3_choose_55 hl (by decide) rfl (fun ls hl => ?_)
              refine lv_iload hx hb dX3_choose_57 (lv_at hl 0 rfl) ?_
              refine lv_iconst (v := (-1)) hx hb dX3_choose_59 (by decide) ?_
              refine lv_icmp_ne (tgt := 66) hx hb dX3_choose_60 (by decide) (fun c_60 => ?_) (fun c_60 => ?_)
              rotate_left
              · exact absurd c_60 (nI_nm1 (by omega))
              refine lv_aload_n hx hb dX3_choose_66 rfl (lv_at hl 1 rfl) ?_
              refine va_get (D := (dC, dI)) (ci := 3) (v := .ref t0) (C := RX3) (T := TX3) (N := 3) hx hb hts hi_X3 hown hK hP 0 rfl rfl 2 (by decide) k_f19 (fun _ h9 => h9) rfl dX3_choose_67 ?_
              refine lv_iload hx hb dX3_choose_70 (lv_at hl 0 rfl) ?_
              refine lv_iconst (v := 1) hx hb dX3_choose_72 (by decide) ?_
              refine va_zast hx hb hK hP hD hS 2 1 rfl rfl (i := nI pp_52) (x := 1) (vp_in_nI (by omega) (by omega)) dX3_choose_73 (fun H locs hP hD hS => ?_)
              have er_73 : upd fx (nI pp_52 : Int32).toNatClampNeg (vp_nar .boolean 1) = upd fx pp_52 (vp_nar .boolean 1) := upd_at (by omega)
              replace hP : va_P (dC, dI) vwCl [(h0, .inr (3, [.ref r0, .int (nI z), .ref t0])), (r0, .inl (kr, 60, .inl fr)), (t0, .inl (kz, 60, .inl (upd fx pp_52 (vp_nar .boolean 1)))), (w0, .inr (5, [.ref c0, .ref b0, .ref h1, .ref m1, .int (nI w), .int (nI zt), .int (nI ch), .int bw, .int ot])), (c0, .inl (kc, 480, .inl (nR gc)))] H := by rw [← er_73]; exact hP
              replace hD : va_D A [(h0, .inr (3, [.ref r0, .int (nI z), .ref t0])), (r0, .inl (kr, 60, .inl fr)), (t0, .inl (kz, 60, .inl (upd fx pp_52 (vp_nar .boolean 1)))), (w0, .inr (5, [.ref c0, .ref b0, .ref h1, .ref m1, .int (nI w), .int (nI zt), .int (nI ch), .int bw, .int ot])), (c0, .inl (kc, 480, .inl (nR gc)))] := by rw [← er_73]; exact hD
              refine lv_iload hx hb dX3_choose_74 (lv_at hl 7 rfl) ?_
              refine lv_aload_n hx hb dX3_choose_76 rfl (lv_at hl 2 rfl) ?_
              refine lv_iload_n hx hb dX3_choose_77 rfl (lv_at hl 3 rfl) ?_
              refine lv_iload_n hx hb dX3_choose_78 rfl (lv_at hl 4 rfl) ?_
              refine lv_iload hx hb dX3_choose_79 (lv_at hl 0 rfl) ?_
              have hPc := hP.sub (ws' := [(w0, .inr (5, [.ref c0, .ref b0, .ref h1, .ref m1, .int (nI w), .int (nI zt), .int (nI ch), .int bw, .int ot])), (c0, .inl (kc, 480, .inl (nR gc)))]) [3, 4] rfl
              have hKc := hK.sub (tys' := [(kc, .int)]) [2] rfl
              refine vp_callSi (W.runS (As := [.ref w0, .int (nI tt), .int (nI oo), .int (nI pp_52)]) (rest := [.int x6]) ⟨hx, hb, hml, hown, hts⟩ (g_X3_lessIn l dC dI w0 c0 b0 h1 m1 w zt ch bw ot kc gc tt oo pp_52 (by first | assumption | omega) (by first | assumption | omega) (by first | assumption | omega)) (va_cwS 4 hts gX3_choose_X3_lessIn rfl rfl rfl (by decide +kernel) ⟨Nat.le_of_ble_eq_true rfl, Nat.le_of_ble_eq_true rfl⟩) ⟨fun a U g mk q => by obtain ⟨q0, qP, qK⟩ := q; exact ⟨q0, qP, va_K.moved (u := U) (U := U.calling g mk a) (Vm.Alike.refl U.vm) qK⟩, fun U hU hW => ⟨rfl, by rw [hU]; exact hPc, va_K.moved hW.alike hKc⟩⟩ rfl rfl hl.1 rfl (lv_room (Nat.le_of_ble_eq_true rfl)) dX3_choose_81 ⟨Nat.le_of_ble_eq_true rfl, Nat.le_of_ble_eq_true rfl⟩) (fun r_81 hw_81 => ?_)
              clear hPc
              obtain rfl : dW (cst gc) tt oo pp_52 = r_81 := Eq.symm hw_81
              refine lv_iadd hx hb dX3_choose_84 ?_
              refine lv_istore (lv' := [(6, .int (x6 + (dW (cst gc) tt oo pp_52))), (7, .int (nI pp_52)), (0, .ref h0), (1, .ref w0), (2, .int (nI tt)), (3, .int (nI oo)), (4, .int p3), (5, .int (nI to))]) hx hb dX3_choose_85 hl (by decide) rfl (fun ls hl => ?_)
              refine lv_iinc (v := nI (to + 1)) (lv' := [(5, .int (nI (to + 1))), (6, .int (x6 + (dW (cst gc) tt oo pp_52))), (7, .int (nI pp_52)), (0, .ref h0), (1, .ref w0), (2, .int (nI tt)), (3, .int (nI oo)), (4, .int p3)]) hx hb dX3_choose_87 hl (k := 7) rfl (nI_1 _) (by decide) rfl (fun ls hl => ?_)
              refine lv_goto (tgt := 32) hx hb dX3_choose_90 (by decide) ?_
              replace hl : lv_has ls 8 [(0, .ref h0), (1, .ref w0), (2, .int (nI tt)), (3, .int (nI oo)), (4, .int p3), (5, .int (nI (to + 1))), (6, .int (x6 + (dW (cst gc) tt oo pp_52)))] := lv_sub hl [3, 4, 5, 6, 7, 0, 1] rfl
              replace hP : va_P (dC, dI) vwCl [(h0, .inr (3, [.ref r0, .int (nI z), .ref t0])), (r0, .inl (kr, 60, .inl fr)), (t0, .inl (kz, 60, .inl (upd fx pp_52 (vp_nar .boolean 1)))), (w0, .inr (5, [.ref c0, .ref b0, .ref h1, .ref m1, .int (nI w), .int (nI zt), .int (nI ch), .int bw, .int ot])), (c0, .inl (kc, 480, .inl (nR gc)))] H := hP
              replace hD : va_D A [(h0, .inr (3, [.ref r0, .int (nI z), .ref t0])), (r0, .inl (kr, 60, .inl fr)), (t0, .inl (kz, 60, .inl (upd fx pp_52 (vp_nar .boolean 1)))), (w0, .inr (5, [.ref c0, .ref b0, .ref h1, .ref m1, .int (nI w), .int (nI zt), .int (nI ch), .int bw, .int ot])), (c0, .inl (kc, 480, .inl (nR gc)))] := hD
              have hag9 : ∀ j, j < w → (upd fx pp_52 (vp_nar .boolean 1)) j = tkS (dW (cst gc) tt oo) w (to + 1) j := (fun j hj => by rw [hT9.1]; by_cases e9 : j = pp_52; (rw [e9]; exact (if_pos rfl).trans ((show vp_nar .boolean 1 = 1 from rfl).trans (if_pos rfl).symm)); (exact (if_neg e9).trans ((hag j hj).trans (if_neg e9).symm)))
              have hsm9 : (x6 + (dW (cst gc) tt oo pp_52)) = smS (dW (cst gc) tt oo) w (to + 1) := (by rw [hT9.2.1, hsm])
              have hst9 : TLN (dW (cst gc) tt oo) w p3 (to + 1) := (fun j hj => by by_cases e9 : j = to; (rw [e9]; exact ⟨by rw [← hsm]; exact Int32.not_le.mp c_36, by rw [← eg52, hb_52.2]; exact nI_nm1 (by omega)⟩); (exact hst j (by omega)))
              apply ih32 (to := to + 1) (x6 := x6 + (dW (cst gc) tt oo pp_52)) (fx := upd fx pp_52 (vp_nar .boolean 1)) <;> first | assumption | omega
    · have n_9 : i < w := Nat.not_le.mp (fun h9 => c_9 ((nI_leI (a := w) (b := i) (by omega) (by omega)).mpr h9))
      refine lv_aload_n hx hb dX3_choose_12 rfl (lv_at hl 0 rfl) ?_
      refine va_get (D := (dC, dI)) (ci := 3) (v := .ref t0) (C := RX3) (T := TX3) (N := 3) hx hb hts hi_X3 hown hK hP 0 rfl rfl 2 (by decide) k_f19 (fun _ h9 => h9) rfl dX3_choose_13 ?_
      refine lv_iload hx hb dX3_choose_16 (lv_at hl 5 rfl) ?_
      refine lv_iconst (v := 0) hx hb dX3_choose_18 (by decide) ?_
      refine va_zast hx hb hK hP hD hS 2 1 rfl rfl (i := nI i) (x := 0) (vp_in_nI (by omega) (by omega)) dX3_choose_19 (fun H locs hP hD hS => ?_)
      have er_19 : upd fy (nI i : Int32).toNatClampNeg (vp_nar .boolean 0) = upd fy i (vp_nar .boolean 0) := upd_at (by omega)
      replace hP : va_P (dC, dI) vwCl [(h0, .inr (3, [.ref r0, .int (nI z), .ref t0])), (r0, .inl (kr, 60, .inl fr)), (t0, .inl (kz, 60, .inl (upd fy i (vp_nar .boolean 0)))), (w0, .inr (5, [.ref c0, .ref b0, .ref h1, .ref m1, .int (nI w), .int (nI zt), .int (nI ch), .int bw, .int ot])), (c0, .inl (kc, 480, .inl (nR gc)))] H := by rw [← er_19]; exact hP
      replace hD : va_D A [(h0, .inr (3, [.ref r0, .int (nI z), .ref t0])), (r0, .inl (kr, 60, .inl fr)), (t0, .inl (kz, 60, .inl (upd fy i (vp_nar .boolean 0)))), (w0, .inr (5, [.ref c0, .ref b0, .ref h1, .ref m1, .int (nI w), .int (nI zt), .int (nI ch), .int bw, .int ot])), (c0, .inl (kc, 480, .inl (nR gc)))] := by rw [← er_19]; exact hD
      refine lv_iinc (v := nI (i + 1)) (lv' := [(5, .int (nI (i + 1))), (0, .ref h0), (1, .ref w0), (2, .int (nI tt)), (3, .int (nI oo)), (4, .int p3)]) hx hb dX3_choose_20 hl (k := 5) rfl (nI_1 _) (by decide) rfl (fun ls hl => ?_)
      refine lv_goto (tgt := 3) hx hb dX3_choose_23 (by decide) ?_
      replace hl : lv_has ls 8 [(0, .ref h0), (1, .ref w0), (2, .int (nI tt)), (3, .int (nI oo)), (4, .int p3), (5, .int (nI (i + 1)))] := lv_sub hl [1, 2, 3, 4, 5, 0] rfl
      replace hP : va_P (dC, dI) vwCl [(h0, .inr (3, [.ref r0, .int (nI z), .ref t0])), (r0, .inl (kr, 60, .inl fr)), (t0, .inl (kz, 60, .inl (upd fy i (vp_nar .boolean 0)))), (w0, .inr (5, [.ref c0, .ref b0, .ref h1, .ref m1, .int (nI w), .int (nI zt), .int (nI ch), .int bw, .int ot])), (c0, .inl (kc, 480, .inl (nR gc)))] H := hP
      replace hD : va_D A [(h0, .inr (3, [.ref r0, .int (nI z), .ref t0])), (r0, .inl (kr, 60, .inl fr)), (t0, .inl (kz, 60, .inl (upd fy i (vp_nar .boolean 0)))), (w0, .inr (5, [.ref c0, .ref b0, .ref h1, .ref m1, .int (nI w), .int (nI zt), .int (nI ch), .int bw, .int ot])), (c0, .inl (kc, 480, .inl (nR gc)))] := hD
      have hf09 : ∀ j, j < (i + 1) → (upd fy i (vp_nar .boolean 0)) j = 0 := (fun j hj => by by_cases e9 : j = i; (rw [e9]; exact (if_pos rfl).trans (show vp_nar .boolean 0 = 0 from rfl)); (exact (if_neg e9).trans (hf0 j (by omega))))
      apply ih3 (i := i + 1) (fy := upd fy i (vp_nar .boolean 0)) <;> first | assumption | omega
