set_option maxHeartbeats 4000000 in
set_option maxRecDepth 100000 in
theorem g_X4_has (l : Launch) (dC : Nat → ClassId) (dI : Nat → Nat → Nat) (h0 : Nat) (b0 : Nat) (z : Nat) (p0 : Int32) (hz : z ≤ 8) : Met l yX4_has wsX4_has ({ frames := 0, cells := 0, slots := 0, locals := 0 }) (va_Pc [.ref h0, .int p0] (fun U => va_P (dC, dI) vwCl [(h0, .inr (4, [.ref b0, .int (nI z)]))] U.heap ∧ va_K (dC, dI) vwCl [] U)) (vp_Si (fun r => ((r = 1 ∧ (∃ j, j < z ∧ p0 = nI j)) ∨ (r = 0 ∧ ¬ (∃ j, j < z ∧ p0 = nI j))))) 0 0 (fun _ => False) := by
  refine Met.ofW (cc := cX4_has) (maxL := 2) (ret := (some .boolean)) (by decide) rfl ?_
  intro p e s m args below meth c s₁ B hml hv
  obtain ⟨rfl, hP, hK⟩ := hv
  have hx := B.exec
  have hb := B.bytes
  have hr := B.returns
  have hts := atoms_spec (ws := wsX4_has) B.pre
  have hown : s.vm.findClass RX4 = some m.cls := findClass_of_methodNamed B.named
  have hlocks := B.notSynchronized
  replace hP : va_P (dC, dI) vwCl [(h0, .inr (4, [.ref b0, .int (nI z)]))] s.heap := hP
  have hl := lv_entry ([.ref h0, .int p0]) (n := 2) (Nat.le_of_ble_eq_true rfl)
  rw [lg_entry_eq]
  generalize (lg_sl ([.ref h0, .int p0]) ++ List.replicate (2 - (lg_sl ([.ref h0, .int p0])).length) Slot.unset).toArray = ls at hl ⊢
  replace hl : lv_has ls 2 [(0, .ref h0), (1, .int p0)] := hl
  have hi_X4 : ∀ w ∈ wsX40, w ∈ wsX4_has := by decide +kernel
  have k_f15 := hts (.fieldLink RX4 15 "TongueTeller$Tongues" "size" "I") (by decide +kernel)
  refine lv_iload_n hx hb dX4_has_0 rfl (lv_at hl 1 rfl) ?_
  refine lv_if_lt (tgt := 16) hx hb dX4_has_1 (by decide) (fun c_1 => ?_) (fun c_1 => ?_)
  · refine lv_iconst (v := 0) hx hb dX4_has_16 (by decide) ?_
    exact W.zret (v := 0) hx hb hr (rfl) (fun t ht hW => ⟨0, rfl, Or.inr ⟨rfl, by exact nin_lt (by omega) c_1⟩, ht⟩) (fun _ h => absurd h List.not_mem_nil) dX4_has_17
  · refine lv_iload_n hx hb dX4_has_4 rfl (lv_at hl 1 rfl) ?_
    refine lv_aload_n hx hb dX4_has_5 rfl (lv_at hl 0 rfl) ?_
    refine va_get (D := (dC, dI)) (ci := 4) (v := .int (nI z)) (C := RX4) (T := TX4) (N := 2) hx hb hts hi_X4 hown hK hP 0 rfl rfl 1 (by decide) k_f15 (fun _ h9 => h9) rfl dX4_has_6 ?_
    refine lv_icmp_ge (tgt := 16) hx hb dX4_has_9 (by decide) (fun c_9 => ?_) (fun c_9 => ?_)
    · refine lv_iconst (v := 0) hx hb dX4_has_16 (by decide) ?_
      exact W.zret (v := 0) hx hb hr (rfl) (fun t ht hW => ⟨0, rfl, Or.inr ⟨rfl, by exact nin_ge (by omega) c_9⟩, ht⟩) (fun _ h => absurd h List.not_mem_nil) dX4_has_17
    · refine lv_iconst (v := 1) hx hb dX4_has_12 (by decide) ?_
      refine lv_goto (tgt := 17) hx hb dX4_has_13 (by decide) ?_
      exact W.zret (v := 1) hx hb hr (rfl) (fun t ht hW => ⟨1, rfl, Or.inl ⟨rfl, by exact in_of (by omega) c_1 c_9⟩, ht⟩) (fun _ h => absurd h List.not_mem_nil) dX4_has_17

set_option maxHeartbeats 4000000 in
set_option maxRecDepth 100000 in
theorem g_X4_counted (l : Launch) (dC : Nat → ClassId) (dI : Nat → Nat → Nat) (h0 : Nat) (b0 : Nat) (z : Nat) (kc : ClassId) (f : Nat → Int32) (tt : Nat) (aa : Nat) (bb : Nat) (ht : tt < 8) (ha : aa < 28) (hb_ : bb < 28) : Met l yX4_counted wsX4_counted ({ frames := 0, cells := 0, slots := 0, locals := 0 }) (va_Pc [.ref h0, .int (nI tt), .int (nI aa), .int (nI bb)] (fun U => va_P (dC, dI) vwCl [(h0, .inr (4, [.ref b0, .int (nI z)])), (b0, .inl (kc, 6272, .inl f))] U.heap ∧ va_K (dC, dI) vwCl [(kc, .int)] U)) (vp_Si (fun r => r = f (ix3 tt aa bb))) 0 0 (fun _ => False) := by
  refine Met.ofW (cc := cX4_counted) (maxL := 4) (ret := (some .int)) (by decide) rfl ?_
  intro p e s m args below meth c s₁ B hml hv
  obtain ⟨rfl, hP, hK⟩ := hv
  have hx := B.exec
  have hb := B.bytes
  have hr := B.returns
  have hts := atoms_spec (ws := wsX4_counted) B.pre
  have hown : s.vm.findClass RX4 = some m.cls := findClass_of_methodNamed B.named
  have hlocks := B.notSynchronized
  replace hP : va_P (dC, dI) vwCl [(h0, .inr (4, [.ref b0, .int (nI z)])), (b0, .inl (kc, 6272, .inl f))] s.heap := hP
  have hl := lv_entry ([.ref h0, .int (nI tt), .int (nI aa), .int (nI bb)]) (n := 4) (Nat.le_of_ble_eq_true rfl)
  rw [lg_entry_eq]
  generalize (lg_sl ([.ref h0, .int (nI tt), .int (nI aa), .int (nI bb)]) ++ List.replicate (4 - (lg_sl ([.ref h0, .int (nI tt), .int (nI aa), .int (nI bb)])).length) Slot.unset).toArray = ls at hl ⊢
  replace hl : lv_has ls 4 [(0, .ref h0), (1, .int (nI tt)), (2, .int (nI aa)), (3, .int (nI bb))] := hl
  have hi_X4 : ∀ w ∈ wsX40, w ∈ wsX4_counted := by decide +kernel
  have k_f9 := hts (.fieldLink RX4 9 "TongueTeller$Tongues" "counts" "[I") (by decide +kernel)
  refine lv_aload_n hx hb dX4_counted_0 rfl (lv_at hl 0 rfl) ?_
  refine va_get (D := (dC, dI)) (ci := 4) (v := .ref b0) (C := RX4) (T := TX4) (N := 2) hx hb hts hi_X4 hown hK hP 0 rfl rfl 0 (by decide) k_f9 (fun _ h9 => h9) rfl dX4_counted_1 ?_
  refine lv_iload_n hx hb dX4_counted_4 rfl (lv_at hl 1 rfl) ?_
  refine lv_bipush (v := 28) hx hb dX4_counted_5 (by decide) ?_
  refine lv_imul hx hb dX4_counted_7 ?_
  refine lv_topi (fun x_7 ex_7 => ?_)
  obtain rfl : nI (tt * 28) = x_7 := Eq.symm (ex_7.trans (pk_mul tt 28))
  refine lv_iload_n hx hb dX4_counted_8 rfl (lv_at hl 2 rfl) ?_
  refine lv_iadd hx hb dX4_counted_9 ?_
  refine lv_topi (fun x_9 ex_9 => ?_)
  obtain rfl : nI (tt * 28 + aa) = x_9 := Eq.symm (ex_9.trans (nI_add (tt * 28) aa))
  refine lv_bipush (v := 28) hx hb dX4_counted_10 (by decide) ?_
  refine lv_imul hx hb dX4_counted_12 ?_
  refine lv_topi (fun x_12 ex_12 => ?_)
  obtain rfl : nI ((tt * 28 + aa) * 28) = x_12 := Eq.symm (ex_12.trans (pk_mul (tt * 28 + aa) 28))
  refine lv_iload_n hx hb dX4_counted_13 rfl (lv_at hl 3 rfl) ?_
  refine lv_iadd hx hb dX4_counted_14 ?_
  refine lv_topi (fun x_14 ex_14 => ?_)
  obtain rfl : nI ((tt * 28 + aa) * 28 + bb) = x_14 := Eq.symm (ex_14.trans (nI_add ((tt * 28 + aa) * 28) bb))
  refine va_iald hx hb hK hP 1 0 rfl rfl (i := nI ((tt * 28 + aa) * 28 + bb)) (vp_in_nI (by omega) (by omega)) dX4_counted_15 ?_
  refine lv_topi (fun x_15 ex_15 => ?_)
  obtain rfl : f ((tt * 28 + aa) * 28 + bb) = x_15 := Eq.symm (ex_15.trans (fR_at (by omega)))
  exact W.iret (v := f ((tt * 28 + aa) * 28 + bb)) hx hb hr (fun t ht hW => ⟨f ((tt * 28 + aa) * 28 + bb), rfl, rfl, ht⟩) (fun _ h => absurd h List.not_mem_nil) dX4_counted_16

set_option maxHeartbeats 4000000 in
set_option maxRecDepth 100000 in
theorem g_X4_costOfPair (l : Launch) (dC : Nat → ClassId) (dI : Nat → Nat → Nat) (h0 : Nat) (b0 : Nat) (z : Nat) (kc : ClassId) (f : Nat → Int32) (tt : Nat) (aa : Nat) (bb : Nat) (ht : tt < 8) (ha : aa < 28) (hb_ : bb < 28) : Met l yX4_costOfPair wsX4_costOfPair ({ frames := 1, cells := 0, slots := 0, locals := 23 }) (va_Pc [.ref h0, .int (nI tt), .int (nI aa), .int (nI bb)] (fun U => va_P (dC, dI) vwCl [(h0, .inr (4, [.ref b0, .int (nI z)])), (b0, .inl (kc, 6272, .inl f))] U.heap ∧ va_K (dC, dI) vwCl [(kc, .int)] U)) (vp_Si (fun r => r = nI (cost1 (f (ix3 tt aa bb))))) 0 0 (fun _ => False) := by
  refine Met.ofW (cc := cX4_costOfPair) (maxL := 6) (ret := (some .int)) (by decide) rfl ?_
  intro p e s m args below meth c s₁ B hml hv
  obtain ⟨rfl, hP, hK⟩ := hv
  have hx := B.exec
  have hb := B.bytes
  have hr := B.returns
  have hts := atoms_spec (ws := wsX4_costOfPair) B.pre
  have hown : s.vm.findClass RX4 = some m.cls := findClass_of_methodNamed B.named
  have hlocks := B.notSynchronized
  replace hP : va_P (dC, dI) vwCl [(h0, .inr (4, [.ref b0, .int (nI z)])), (b0, .inl (kc, 6272, .inl f))] s.heap := hP
  have hl := lv_entry ([.ref h0, .int (nI tt), .int (nI aa), .int (nI bb)]) (n := 6) (Nat.le_of_ble_eq_true rfl)
  rw [lg_entry_eq]
  generalize (lg_sl ([.ref h0, .int (nI tt), .int (nI aa), .int (nI bb)]) ++ List.replicate (6 - (lg_sl ([.ref h0, .int (nI tt), .int (nI aa), .int (nI bb)])).length) Slot.unset).toArray = ls at hl ⊢
  replace hl : lv_has ls 6 [(0, .ref h0), (1, .int (nI tt)), (2, .int (nI aa)), (3, .int (nI bb))] := hl
  refine lv_bipush (v := 100) hx hb dX4_costOfPair_0 (by decide) ?_
  refine lv_istore (lv' := [(4, .int 100), (0, .ref h0), (1, .int (nI tt)), (2, .int (nI aa)), (3, .int (nI bb))]) hx hb dX4_costOfPair_2 hl (by decide) rfl (fun ls hl => ?_)
  refine lv_aload_n hx hb dX4_costOfPair_4 rfl (lv_at hl 1 rfl) ?_
  refine lv_iload_n hx hb dX4_costOfPair_5 rfl (lv_at hl 2 rfl) ?_
  refine lv_iload_n hx hb dX4_costOfPair_6 rfl (lv_at hl 3 rfl) ?_
  refine lv_iload_n hx hb dX4_costOfPair_7 rfl (lv_at hl 4 rfl) ?_
  have hPc := hP.sub (ws' := [(h0, .inr (4, [.ref b0, .int (nI z)])), (b0, .inl (kc, 6272, .inl f))]) [0, 1] rfl
  have hKc := hK.sub (tys' := [(kc, .int)]) [0] rfl
  refine vp_callSi (W.runV (As := [.int (nI tt), .int (nI aa), .int (nI bb)]) (rest := []) ⟨hx, hb, hml, hown, hts⟩ (g_X4_counted l dC dI h0 b0 z kc f tt aa bb (by first | assumption | omega) (by first | assumption | omega) (by first | assumption | omega)) (cwV 3 hts gX4_costOfPair_X4_counted rfl rfl rfl (by decide +kernel) ⟨Nat.le_of_ble_eq_true rfl, Nat.le_of_ble_eq_true rfl⟩) ⟨fun a U g mk q => by obtain ⟨q0, qP, qK⟩ := q; exact ⟨q0, qP, va_K.moved (u := U) (U := U.calling g mk a) (Vm.Alike.refl U.vm) qK⟩, va_recv hK hP (ci := 4) (q0 := 0) rfl rfl, fun U hU hW => ⟨rfl, by rw [hU]; exact hPc, va_K.moved hW.alike hKc⟩⟩ rfl rfl hl.1 rfl (lv_room (Nat.le_of_ble_eq_true rfl)) dX4_costOfPair_8 ⟨Nat.le_of_ble_eq_true rfl, Nat.le_of_ble_eq_true rfl⟩) (fun r_8 hw_8 => ?_)
  clear hPc
  obtain rfl : f (ix3 tt aa bb) = r_8 := Eq.symm hw_8
  refine lv_istore (lv' := [(5, .int (f (ix3 tt aa bb))), (4, .int 100), (0, .ref h0), (1, .int (nI tt)), (2, .int (nI aa)), (3, .int (nI bb))]) hx hb dX4_costOfPair_11 hl (by decide) rfl (fun ls hl => ?_)
  obtain ⟨fu, e_fu⟩ : ∃ y : Nat, y = 6 := ⟨_, rfl⟩
  obtain ⟨lf, e_lf⟩ : ∃ y : Nat, y = 100 := ⟨_, rfl⟩
  obtain ⟨xx, e_xx⟩ : ∃ y : Int32, y = f (ix3 tt aa bb) := ⟨_, rfl⟩
  replace hl : lv_has ls 6 [(4, .int (nI lf)), (5, .int xx)] := by subst e_fu; subst e_lf; subst e_xx; exact lv_sub hl [1, 0] rfl
  have hf1 : lf + 20 ≤ 20 * fu := by subst e_fu; subst e_lf; subst e_xx; omega
  have hf2 : lf ≤ 100 := by subst e_fu; subst e_lf; subst e_xx; omega
  have hf4 : lf % 20 = 0 := by subst e_fu; subst e_lf; subst e_xx; rfl
  have hf3 : cp fu lf xx = cost1 (f (ix3 tt aa bb)) := by subst e_fu; subst e_lf; subst e_xx; rfl
  clear e_fu e_lf e_xx
  obtain ⟨nn13, hnn13⟩ : ∃ q : Nat, fu < q := ⟨_, Nat.lt_succ_self _⟩
  induction nn13 generalizing fu lf xx ls with
  | zero => exact absurd hnn13 (Nat.not_lt_zero _)
  | succ nn13 ih13 =>
    refine lv_iload hx hb dX4_costOfPair_13 (lv_at hl 1 rfl) ?_
    refine lv_if_le (tgt := 35) hx hb dX4_costOfPair_15 (by decide) (fun c_15 => ?_) (fun c_15 => ?_)
    · refine lv_iload hx hb dX4_costOfPair_35 (lv_at hl 0 rfl) ?_
      exact W.iret (v := nI lf) hx hb hr (fun t ht hW => ⟨nI lf, rfl, by rw [← hf3, cp_n (Or.inl c_15)], ht⟩) (fun _ h => absurd h List.not_mem_nil) dX4_costOfPair_37
    · refine lv_iload hx hb dX4_costOfPair_18 (lv_at hl 0 rfl) ?_
      refine lv_if_le (tgt := 35) hx hb dX4_costOfPair_20 (by decide) (fun c_20 => ?_) (fun c_20 => ?_)
      · have n_20 : lf ≤ 0 := (nI_leI (a := lf) (b := 0) (by omega) (by omega)).mp c_20
        refine lv_iload hx hb dX4_costOfPair_35 (lv_at hl 0 rfl) ?_
        exact W.iret (v := nI lf) hx hb hr (fun t ht hW => ⟨nI lf, rfl, by rw [← hf3, cp_n (Or.inr n_20)], ht⟩) (fun _ h => absurd h List.not_mem_nil) dX4_costOfPair_37
      · have n_20 : 0 < lf := Nat.not_le.mp (fun h9 => c_20 ((nI_leI (a := lf) (b := 0) (by omega) (by omega)).mpr h9))
        refine lv_iinc (v := nI (lf - 20)) (lv' := [(4, .int (nI (lf - 20))), (5, .int xx)]) hx hb dX4_costOfPair_23 hl (k := 0) rfl (nI_sub20 (by omega)) (by decide) rfl (fun ls hl => ?_)
        refine lv_iload hx hb dX4_costOfPair_26 (lv_at hl 1 rfl) ?_
        refine lv_iconst (v := 1) hx hb dX4_costOfPair_28 (by decide) ?_
        refine lv_ishr hx hb dX4_costOfPair_29 ?_
        refine lv_istore (lv' := [(5, .int (xx >>> (1 &&& 31))), (4, .int (nI (lf - 20)))]) hx hb dX4_costOfPair_30 hl (by decide) rfl (fun ls hl => ?_)
        refine lv_goto (tgt := 13) hx hb dX4_costOfPair_32 (by decide) ?_
        replace hl : lv_has ls 6 [(4, .int (nI (lf - 20))), (5, .int (xx >>> (1 &&& 31)))] := lv_sub hl [1, 0] rfl
        have hf39 : cp (fu - 1) (lf - 20) (xx >>> (1 &&& 31)) = cost1 (f (ix3 tt aa bb)) := (cp_y (by omega) c_15 n_20).symm.trans hf3
        apply ih13 (fu := fu - 1) (lf := lf - 20) (xx := xx >>> (1 &&& 31)) <;> first | assumption | omega

set_option maxHeartbeats 4000000 in
set_option maxRecDepth 100000 in
theorem g_X4_costOfSpelling (l : Launch) (dC : Nat → ClassId) (dI : Nat → Nat → Nat) (h0 : Nat) (b0 : Nat) (z : Nat) (kc : ClassId) (f : Nat → Int32) (s0 : Nat) (d0 : Nat) (d1 : Nat) (d2 : Nat) (n : Nat) (w : Nat) (kd : ClassId) (kb : ClassId) (kl : ClassId) (g : Nat → Nat) (sb : Nat → Nat) (ln : Nat → Nat) (tt : Nat) (i : Nat) (ht : tt < 8) (hi : i < 60) (hsl : sb i + ln i ≤ 600) (hg : ∀ j, g j < 30) (hlr : ∀ k, k < ln i → g (sb i + k) ≤ 26) (hl24 : ln i ≤ 24) : Met l yX4_costOfSpelling wsX4_costOfSpelling ({ frames := 2, cells := 0, slots := 0, locals := 48 }) (va_Pc [.ref h0, .int (nI tt), .ref s0, .int (nI i)] (fun U => va_P (dC, dI) vwCl [(h0, .inr (4, [.ref b0, .int (nI z)])), (b0, .inl (kc, 6272, .inl f)), (s0, .inr (2, [.ref d0, .ref d1, .ref d2, .int (nI n), .int (nI w)])), (d0, .inl (kd, 600, .inl (nR g))), (d1, .inl (kb, 60, .inl (nR sb))), (d2, .inl (kl, 60, .inl (nR ln)))] U.heap ∧ va_K (dC, dI) vwCl [(kc, .int), (kd, .byte), (kb, .int), (kl, .int)] U)) (vp_Si (fun r => r = nI (spN f tt g (sb i) (ln i)))) 0 0 (fun _ => False) := by
  refine Met.ofW (cc := cX4_costOfSpelling) (maxL := 8) (ret := (some .int)) (by decide) rfl ?_
  intro p e s m args below meth c s₁ B hml hv
  obtain ⟨rfl, hP, hK⟩ := hv
  have hx := B.exec
  have hb := B.bytes
  have hr := B.returns
  have hts := atoms_spec (ws := wsX4_costOfSpelling) B.pre
  have hown : s.vm.findClass RX4 = some m.cls := findClass_of_methodNamed B.named
  have hlocks := B.notSynchronized
  replace hP : va_P (dC, dI) vwCl [(h0, .inr (4, [.ref b0, .int (nI z)])), (b0, .inl (kc, 6272, .inl f)), (s0, .inr (2, [.ref d0, .ref d1, .ref d2, .int (nI n), .int (nI w)])), (d0, .inl (kd, 600, .inl (nR g))), (d1, .inl (kb, 60, .inl (nR sb))), (d2, .inl (kl, 60, .inl (nR ln)))] s.heap := hP
  have hl := lv_entry ([.ref h0, .int (nI tt), .ref s0, .int (nI i)]) (n := 8) (Nat.le_of_ble_eq_true rfl)
  rw [lg_entry_eq]
  generalize (lg_sl ([.ref h0, .int (nI tt), .ref s0, .int (nI i)]) ++ List.replicate (8 - (lg_sl ([.ref h0, .int (nI tt), .ref s0, .int (nI i)])).length) Slot.unset).toArray = ls at hl ⊢
  replace hl : lv_has ls 8 [(0, .ref h0), (1, .int (nI tt)), (2, .ref s0), (3, .int (nI i))] := hl
  have hi_X2 : ∀ w ∈ wsX20, w ∈ wsX4_costOfSpelling := by decide +kernel
  have k_f19 := hts (.fieldLink RX4 19 "TongueTeller$Script" "starts" "[I") (by decide +kernel)
  have k_f24 := hts (.fieldLink RX4 24 "TongueTeller$Script" "lengths" "[I") (by decide +kernel)
  have k_f27 := hts (.fieldLink RX4 27 "TongueTeller$Script" "signs" "[B") (by decide +kernel)
  refine lv_iconst (v := 0) hx hb dX4_costOfSpelling_0 (by decide) ?_
  refine lv_istore (lv' := [(4, .int 0), (0, .ref h0), (1, .int (nI tt)), (2, .ref s0), (3, .int (nI i))]) hx hb dX4_costOfSpelling_1 hl (by decide) rfl (fun ls hl => ?_)
  refine lv_bipush (v := 27) hx hb dX4_costOfSpelling_3 (by decide) ?_
  refine lv_istore (lv' := [(5, .int 27), (4, .int 0), (0, .ref h0), (1, .int (nI tt)), (2, .ref s0), (3, .int (nI i))]) hx hb dX4_costOfSpelling_5 hl (by decide) rfl (fun ls hl => ?_)
  refine lv_aload_n hx hb dX4_costOfSpelling_7 rfl (lv_at hl 4 rfl) ?_
  refine va_get (D := (dC, dI)) (ci := 2) (v := .ref d1) (C := RX2) (T := TX2) (N := 5) hx hb hts hi_X2 hown hK hP 2 rfl rfl 1 (by decide) k_f19 (fun _ h9 => h9) rfl dX4_costOfSpelling_8 ?_
  refine lv_iload_n hx hb dX4_costOfSpelling_11 rfl (lv_at hl 5 rfl) ?_
  refine va_iald hx hb hK hP 4 2 rfl rfl (i := nI i) (vp_in_nI (by omega) (by omega)) dX4_costOfSpelling_12 ?_
  refine lv_topi (fun x_12 ex_12 => ?_)
  obtain rfl : nI (sb i) = x_12 := Eq.symm (ex_12.trans (nR_at (by omega)))
  refine lv_aload_n hx hb dX4_costOfSpelling_13 rfl (lv_at hl 4 rfl) ?_
  refine va_get (D := (dC, dI)) (ci := 2) (v := .ref d2) (C := RX2) (T := TX2) (N := 5) hx hb hts hi_X2 hown hK hP 2 rfl rfl 2 (by decide) k_f24 (fun _ h9 => h9) rfl dX4_costOfSpelling_14 ?_
  refine lv_iload_n hx hb dX4_costOfSpelling_17 rfl (lv_at hl 5 rfl) ?_
  refine va_iald hx hb hK hP 5 3 rfl rfl (i := nI i) (vp_in_nI (by omega) (by omega)) dX4_costOfSpelling_18 ?_
  refine lv_topi (fun x_18 ex_18 => ?_)
  obtain rfl : nI (ln i) = x_18 := Eq.symm (ex_18.trans (nR_at (by omega)))
  refine lv_iadd hx hb dX4_costOfSpelling_19 ?_
  refine lv_topi (fun x_19 ex_19 => ?_)
  obtain rfl : nI (sb i + (ln i)) = x_19 := Eq.symm (ex_19.trans (nI_add (sb i) (ln i)))
  refine lv_istore (lv' := [(6, .int (nI (sb i + (ln i)))), (5, .int 27), (4, .int 0), (0, .ref h0), (1, .int (nI tt)), (2, .ref s0), (3, .int (nI i))]) hx hb dX4_costOfSpelling_20 hl (by decide) rfl (fun ls hl => ?_)
  refine lv_aload_n hx hb dX4_costOfSpelling_22 rfl (lv_at hl 5 rfl) ?_
  refine va_get (D := (dC, dI)) (ci := 2) (v := .ref d1) (C := RX2) (T := TX2) (N := 5) hx hb hts hi_X2 hown hK hP 2 rfl rfl 1 (by decide) k_f19 (fun _ h9 => h9) rfl dX4_costOfSpelling_23 ?_
  refine lv_iload_n hx hb dX4_costOfSpelling_26 rfl (lv_at hl 6 rfl) ?_
  refine va_iald hx hb hK hP 4 2 rfl rfl (i := nI i) (vp_in_nI (by omega) (by omega)) dX4_costOfSpelling_27 ?_
  refine lv_topi (fun x_27 ex_27 => ?_)
  obtain rfl : nI (sb i) = x_27 := Eq.symm (ex_27.trans (nR_at (by omega)))
  refine lv_istore (lv' := [(7, .int (nI (sb i))), (6, .int (nI (sb i + (ln i)))), (5, .int 27), (4, .int 0), (0, .ref h0), (1, .int (nI tt)), (2, .ref s0), (3, .int (nI i))]) hx hb dX4_costOfSpelling_28 hl (by decide) rfl (fun ls hl => ?_)
  obtain ⟨kk, e_kk⟩ : ∃ y : Nat, y = 0 := ⟨_, rfl⟩
  replace hl : lv_has ls 8 [(0, .ref h0), (1, .int (nI tt)), (2, .ref s0), (3, .int (nI i)), (4, .int (nI (spS f tt g (sb i) kk))), (5, .int (nI (fmr g (sb i) kk))), (6, .int (nI (sb i + (ln i)))), (7, .int (nI (sb i + kk)))] := by subst e_kk; exact lv_sub hl [4, 5, 6, 7, 3, 2, 1, 0] rfl
  have hk1 : kk ≤ ln i := by subst e_kk; exact Nat.zero_le _
  clear e_kk
  obtain ⟨nn30, hnn30⟩ : ∃ q : Nat, ln i - kk < q := ⟨_, Nat.lt_succ_self _⟩
  induction nn30 generalizing kk ls with
  | zero => exact absurd hnn30 (Nat.not_lt_zero _)
  | succ nn30 ih30 =>
    refine lv_iload hx hb dX4_costOfSpelling_30 (lv_at hl 7 rfl) ?_
    refine lv_iload hx hb dX4_costOfSpelling_32 (lv_at hl 6 rfl) ?_
    refine lv_icmp_ge (tgt := 71) hx hb dX4_costOfSpelling_34 (by decide) (fun c_34 => ?_) (fun c_34 => ?_)
    · have n_34 : (sb i + (ln i)) ≤ (sb i + kk) := (nI_leI (a := (sb i + (ln i))) (b := (sb i + kk)) (by omega) (by omega)).mp c_34
      have hs37 := spS_le f tt g (sb i) kk
      have hf37 := fmr_lt (g := g) (s := sb i) (k := kk) (fun j hj => hlr j (by omega))
      have hc37 := cost1_le (f (ix3 tt (fmr g (sb i) kk) 27))
      refine lv_iload hx hb dX4_costOfSpelling_71 (lv_at hl 4 rfl) ?_
      refine lv_aload_n hx hb dX4_costOfSpelling_73 rfl (lv_at hl 0 rfl) ?_
      refine lv_iload_n hx hb dX4_costOfSpelling_74 rfl (lv_at hl 1 rfl) ?_
      refine lv_iload hx hb dX4_costOfSpelling_75 (lv_at hl 5 rfl) ?_
      refine lv_bipush (v := 27) hx hb dX4_costOfSpelling_77 (by decide) ?_
      have hPc := hP.sub (ws' := [(h0, .inr (4, [.ref b0, .int (nI z)])), (b0, .inl (kc, 6272, .inl f))]) [0, 1] rfl
      have hKc := hK.sub (tys' := [(kc, .int)]) [0] rfl
      refine vp_callSi (W.runV (As := [.int (nI tt), .int (nI (fmr g (sb i) kk)), .int 27]) (rest := [.int (nI (spS f tt g (sb i) kk))]) ⟨hx, hb, hml, hown, hts⟩ (g_X4_costOfPair l dC dI h0 b0 z kc f tt (fmr g (sb i) kk) 27 (by first | assumption | omega) (by first | assumption | omega) (by first | assumption | omega)) (cwV 3 hts gX4_costOfSpelling_X4_costOfPair rfl rfl rfl (by decide +kernel) ⟨Nat.le_of_ble_eq_true rfl, Nat.le_of_ble_eq_true rfl⟩) ⟨fun a U g mk q => by obtain ⟨q0, qP, qK⟩ := q; exact ⟨q0, qP, va_K.moved (u := U) (U := U.calling g mk a) (Vm.Alike.refl U.vm) qK⟩, va_recv hK hP (ci := 4) (q0 := 0) rfl rfl, fun U hU hW => ⟨rfl, by rw [hU]; exact hPc, va_K.moved hW.alike hKc⟩⟩ rfl rfl hl.1 rfl (lv_room (Nat.le_of_ble_eq_true rfl)) dX4_costOfSpelling_79 ⟨Nat.le_of_ble_eq_true rfl, Nat.le_of_ble_eq_true rfl⟩) (fun r_79 hw_79 => ?_)
      clear hPc
      have hr_79 := hw_79
      obtain rfl : nI (cost1 (f (ix3 tt (fmr g (sb i) kk) 27))) = r_79 := Eq.symm hr_79
      refine lv_iadd hx hb dX4_costOfSpelling_82 ?_
      refine lv_topi (fun x_82 ex_82 => ?_)
      obtain rfl : nI (spS f tt g (sb i) kk + (cost1 (f (ix3 tt (fmr g (sb i) kk) 27)))) = x_82 := Eq.symm (ex_82.trans (nI_add (spS f tt g (sb i) kk) (cost1 (f (ix3 tt (fmr g (sb i) kk) 27)))))
      exact W.iret (v := nI (spS f tt g (sb i) kk + (cost1 (f (ix3 tt (fmr g (sb i) kk) 27))))) hx hb hr (fun t ht hW => ⟨nI (spS f tt g (sb i) kk + (cost1 (f (ix3 tt (fmr g (sb i) kk) 27)))), rfl, by rw [show ln i = kk by omega]; rfl, ht⟩) (fun _ h => absurd h List.not_mem_nil) dX4_costOfSpelling_83
    · have n_34 : (sb i + kk) < (sb i + (ln i)) := Nat.not_le.mp (fun h9 => c_34 ((nI_leI (a := (sb i + (ln i))) (b := (sb i + kk)) (by omega) (by omega)).mpr h9))
      have hs37 := spS_le f tt g (sb i) kk
      have hf37 := fmr_lt (g := g) (s := sb i) (k := kk) (fun j hj => hlr j (by omega))
      have hg37 := hlr kk (by omega)
      have hc37 := cost1_le (f (ix3 tt (fmr g (sb i) kk) (g (sb i + kk))))
      refine lv_iload hx hb dX4_costOfSpelling_37 (lv_at hl 4 rfl) ?_
      refine lv_aload_n hx hb dX4_costOfSpelling_39 rfl (lv_at hl 0 rfl) ?_
      refine lv_iload_n hx hb dX4_costOfSpelling_40 rfl (lv_at hl 1 rfl) ?_
      refine lv_iload hx hb dX4_costOfSpelling_41 (lv_at hl 5 rfl) ?_
      refine lv_aload_n hx hb dX4_costOfSpelling_43 rfl (lv_at hl 2 rfl) ?_
      refine va_get (D := (dC, dI)) (ci := 2) (v := .ref d0) (C := RX2) (T := TX2) (N := 5) hx hb hts hi_X2 hown hK hP 2 rfl rfl 0 (by decide) k_f27 (fun _ h9 => h9) rfl dX4_costOfSpelling_44 ?_
      refine lv_iload hx hb dX4_costOfSpelling_47 (lv_at hl 7 rfl) ?_
      refine va_bald hx hb hK hP 3 1 rfl rfl (i := nI (sb i + kk)) (vp_in_nI (by omega) (by omega)) dX4_costOfSpelling_49 ?_
      refine lv_topi (fun x_49 ex_49 => ?_)
      obtain rfl : nI (g (sb i + kk)) = x_49 := Eq.symm (ex_49.trans (nR_at (by omega)))
      have hPc := hP.sub (ws' := [(h0, .inr (4, [.ref b0, .int (nI z)])), (b0, .inl (kc, 6272, .inl f))]) [0, 1] rfl
      have hKc := hK.sub (tys' := [(kc, .int)]) [0] rfl
      refine vp_callSi (W.runV (As := [.int (nI tt), .int (nI (fmr g (sb i) kk)), .int (nI (g (sb i + kk)))]) (rest := [.int (nI (spS f tt g (sb i) kk))]) ⟨hx, hb, hml, hown, hts⟩ (g_X4_costOfPair l dC dI h0 b0 z kc f tt (fmr g (sb i) kk) (g (sb i + kk)) (by first | assumption | omega) (by first | assumption | omega) (by first | assumption | omega)) (cwV 3 hts gX4_costOfSpelling_X4_costOfPair rfl rfl rfl (by decide +kernel) ⟨Nat.le_of_ble_eq_true rfl, Nat.le_of_ble_eq_true rfl⟩) ⟨fun a U g mk q => by obtain ⟨q0, qP, qK⟩ := q; exact ⟨q0, qP, va_K.moved (u := U) (U := U.calling g mk a) (Vm.Alike.refl U.vm) qK⟩, va_recv hK hP (ci := 4) (q0 := 0) rfl rfl, fun U hU hW => ⟨rfl, by rw [hU]; exact hPc, va_K.moved hW.alike hKc⟩⟩ rfl rfl hl.1 rfl (lv_room (Nat.le_of_ble_eq_true rfl)) dX4_costOfSpelling_50 ⟨Nat.le_of_ble_eq_true rfl, Nat.le_of_ble_eq_true rfl⟩) (fun r_50 hw_50 => ?_)
      clear hPc
      have hr_50 := hw_50
      obtain rfl : nI (cost1 (f (ix3 tt (fmr g (sb i) kk) (g (sb i + kk))))) = r_50 := Eq.symm hr_50
      refine lv_iadd hx hb dX4_costOfSpelling_53 ?_
      refine lv_topi (fun x_53 ex_53 => ?_)
      obtain rfl : nI (spS f tt g (sb i) kk + (cost1 (f (ix3 tt (fmr g (sb i) kk) (g (sb i + kk)))))) = x_53 := Eq.symm (ex_53.trans (nI_add (spS f tt g (sb i) kk) (cost1 (f (ix3 tt (fmr g (sb i) kk) (g (sb i + kk)))))))
      refine lv_istore (lv' := [(4, .int (nI (spS f tt g (sb i) kk + (cost1 (f (ix3 tt (fmr g (sb i) kk) (g (sb i + kk)))))))), (0, .ref h0), (1, .int (nI tt)), (2, .ref s0), (3, .int (nI i)), (5, .int (nI (fmr g (sb i) kk))), (6, .int (nI (sb i + (ln i)))), (7, .int (nI (sb i + kk)))]) hx hb dX4_costOfSpelling_54 hl (by decide) rfl (fun ls hl => ?_)
      refine lv_aload_n hx hb dX4_costOfSpelling_56 rfl (lv_at hl 3 rfl) ?_
      refine va_get (D := (dC, dI)) (ci := 2) (v := .ref d0) (C := RX2) (T := TX2) (N := 5) hx hb hts hi_X2 hown hK hP 2 rfl rfl 0 (by decide) k_f27 (fun _ h9 => h9) rfl dX4_costOfSpelling_57 ?_
      refine lv_iload hx hb dX4_costOfSpelling_60 (lv_at hl 7 rfl) ?_
      refine va_bald hx hb hK hP 3 1 rfl rfl (i := nI (sb i + kk)) (vp_in_nI (by omega) (by omega)) dX4_costOfSpelling_62 ?_
      refine lv_topi (fun x_62 ex_62 => ?_)
      obtain rfl : nI (g (sb i + kk)) = x_62 := Eq.symm (ex_62.trans (nR_at (by omega)))
      refine lv_istore (lv' := [(5, .int (nI (g (sb i + kk)))), (4, .int (nI (spS f tt g (sb i) kk + (cost1 (f (ix3 tt (fmr g (sb i) kk) (g (sb i + kk)))))))), (0, .ref h0), (1, .int (nI tt)), (2, .ref s0), (3, .int (nI i)), (6, .int (nI (sb i + (ln i)))), (7, .int (nI (sb i + kk)))]) hx hb dX4_costOfSpelling_63 hl (by decide) rfl (fun ls hl => ?_)
      replace hl : lv_has ls 8 [(5, .int (nI (fmr g (sb i) (kk + 1)))), (4, .int (nI (spS f tt g (sb i) (kk + 1)))), (0, .ref h0), (1, .int (nI tt)), (2, .ref s0), (3, .int (nI i)), (6, .int (nI (sb i + (ln i)))), (7, .int (nI (sb i + kk)))] := by rw [fmr_s]; exact hl
      refine lv_iinc (v := nI (sb i + kk + 1)) (lv' := [(7, .int (nI (sb i + kk + 1))), (5, .int (nI (fmr g (sb i) (kk + 1)))), (4, .int (nI (spS f tt g (sb i) (kk + 1)))), (0, .ref h0), (1, .int (nI tt)), (2, .ref s0), (3, .int (nI i)), (6, .int (nI (sb i + (ln i))))]) hx hb dX4_costOfSpelling_65 hl (k := 7) rfl (nI_1 _) (by decide) rfl (fun ls hl => ?_)
      refine lv_goto (tgt := 30) hx hb dX4_costOfSpelling_68 (by decide) ?_
      replace hl : lv_has ls 8 [(0, .ref h0), (1, .int (nI tt)), (2, .ref s0), (3, .int (nI i)), (4, .int (nI (spS f tt g (sb i) (kk + 1)))), (5, .int (nI (fmr g (sb i) (kk + 1)))), (6, .int (nI (sb i + (ln i)))), (7, .int (nI (sb i + (kk + 1))))] := lv_sub hl [3, 4, 5, 6, 2, 1, 7, 0] rfl
      apply ih30 (kk := kk + 1) <;> first | assumption | omega

set_option maxHeartbeats 4000000 in
set_option maxRecDepth 100000 in
theorem g_X4_countTrail (l : Launch) (dC : Nat → ClassId) (dI : Nat → Nat → Nat) (h0 : Nat) (b0 : Nat) (z : Nat) (kc : ClassId) (f : Nat → Int32) (tt : Nat) (tr : Nat) (tl : Nat) (kr : ClassId) (gt : Nat → Nat) (p0 : Int32) (sz : Nat) (ht : tt < 8) (htl : 1 ≤ tl ∧ tl ≤ 1000) (hgt : ∀ j, gt j < 28) : Met l yX4_countTrail wsX4_countTrail ({ frames := 0, cells := 0, slots := 0, locals := 0 }) (va_Pc [.ref h0, .int (nI tt), .ref tr, .int p0] (fun U => U.heap.size = sz ∧ va_P (dC, dI) vwCl [(h0, .inr (4, [.ref b0, .int (nI z)])), (b0, .inl (kc, 6272, .inl f)), (tr, .inl (kr, tl, .inl (nR gt)))] U.heap ∧ va_K (dC, dI) vwCl [(kc, .int), (kr, .byte)] U ∧ va_D (fun _ => True) [(h0, .inr (4, [.ref b0, .int (nI z)])), (b0, .inl (kc, 6272, .inl f)), (tr, .inl (kr, tl, .inl (nR gt)))])) (va_Qv (fun (u : Nat → Int32) => match u with | fo => (fo = cT f tt gt p0 tl)) (fun (u : Nat → Int32) (t : State) => match u with | fo => va_P (dC, dI) vwCl [(h0, .inr (4, [.ref b0, .int (nI z)])), (b0, .inl (kc, 6272, .inl fo)), (tr, .inl (kr, tl, .inl (nR gt)))] t.heap ∧ va_D (va_A [(h0, .inr (4, [.ref b0, .int (nI z)])), (b0, .inl (kc, 6272, .inl f)), (tr, .inl (kr, tl, .inl (nR gt)))] sz) [(h0, .inr (4, [.ref b0, .int (nI z)])), (b0, .inl (kc, 6272, .inl fo)), (tr, .inl (kr, tl, .inl (nR gt)))]) (va_A [(h0, .inr (4, [.ref b0, .int (nI z)])), (b0, .inl (kc, 6272, .inl f)), (tr, .inl (kr, tl, .inl (nR gt)))] sz)) 0 0 (va_A [(h0, .inr (4, [.ref b0, .int (nI z)])), (b0, .inl (kc, 6272, .inl f)), (tr, .inl (kr, tl, .inl (nR gt)))] sz) := by
  refine Met.ofW (cc := cX4_countTrail) (maxL := 5) (ret := none) (by decide) rfl ?_
  intro p e s m args below meth c s₁ B hml hv
  obtain ⟨rfl, hsz, hP, hK, hD0⟩ := hv
  have hx := B.exec
  have hb := B.bytes
  have hr := B.returns
  have hts := atoms_spec (ws := wsX4_countTrail) B.pre
  have hown : s.vm.findClass RX4 = some m.cls := findClass_of_methodNamed B.named
  have hlocks := B.notSynchronized
  subst hsz
  have hD := hD0.self (sz := s.heap.size)
  clear hD0
  generalize hAe : va_A [(h0, .inr (4, [.ref b0, .int (nI z)])), (b0, .inl (kc, 6272, .inl f)), (tr, .inl (kr, tl, .inl (nR gt)))] s.heap.size = A at hD ⊢
  have hA : ∀ q : Nat, s.heap.size ≤ q → A q := fun q h => by rw [← hAe]; exact Or.inr h
  clear hAe
  have hS : va_S A s.heap s.heap [] := va_S.rf
  replace hP : va_P (dC, dI) vwCl [(h0, .inr (4, [.ref b0, .int (nI z)])), (b0, .inl (kc, 6272, .inl f)), (tr, .inl (kr, tl, .inl (nR gt)))] s.heap := hP
  have hl := lv_entry ([.ref h0, .int (nI tt), .ref tr, .int p0]) (n := 5) (Nat.le_of_ble_eq_true rfl)
  rw [lg_entry_eq]
  generalize (lg_sl ([.ref h0, .int (nI tt), .ref tr, .int p0]) ++ List.replicate (5 - (lg_sl ([.ref h0, .int (nI tt), .ref tr, .int p0])).length) Slot.unset).toArray = ls at hl ⊢
  replace hl : lv_has ls 5 [(0, .ref h0), (1, .int (nI tt)), (2, .ref tr), (3, .int p0)] := hl
  have hi_X4 : ∀ w ∈ wsX40, w ∈ wsX4_countTrail := by decide +kernel
  have k_f9 := hts (.fieldLink RX4 9 "TongueTeller$Tongues" "counts" "[I") (by decide +kernel)
  refine lv_iconst (v := 1) hx hb dX4_countTrail_0 (by decide) ?_
  refine lv_istore (lv' := [(4, .int 1), (0, .ref h0), (1, .int (nI tt)), (2, .ref tr), (3, .int p0)]) hx hb dX4_countTrail_1 hl (by decide) rfl (fun ls hl => ?_)
  obtain ⟨locs, hlo⟩ : ∃ q : List Loc, q = [] := ⟨_, rfl⟩
  obtain ⟨H, hH⟩ : ∃ q : Heap, q = s.heap := ⟨_, rfl⟩
  rw [← hH, ← hlo]
  replace hS : va_S A s.heap H locs := by rw [hH, hlo]; exact hS
  replace hP : va_P (dC, dI) vwCl [(h0, .inr (4, [.ref b0, .int (nI z)])), (b0, .inl (kc, 6272, .inl f)), (tr, .inl (kr, tl, .inl (nR gt)))] H := by rw [hH]; exact hP
  clear hH hlo
  obtain ⟨kk, e_kk⟩ : ∃ y : Nat, y = 1 := ⟨_, rfl⟩
  obtain ⟨fc, e_fc⟩ : ∃ y : Nat → Int32, y = f := ⟨_, rfl⟩
  replace hl : lv_has ls 5 [(0, .ref h0), (1, .int (nI tt)), (2, .ref tr), (3, .int p0), (4, .int (nI kk))] := by subst e_kk; subst e_fc; exact lv_sub hl [1, 2, 3, 4, 0] rfl
  replace hP : va_P (dC, dI) vwCl [(h0, .inr (4, [.ref b0, .int (nI z)])), (b0, .inl (kc, 6272, .inl fc)), (tr, .inl (kr, tl, .inl (nR gt)))] H := by subst e_kk; subst e_fc; exact hP
  replace hD : va_D A [(h0, .inr (4, [.ref b0, .int (nI z)])), (b0, .inl (kc, 6272, .inl fc)), (tr, .inl (kr, tl, .inl (nR gt)))] := by subst e_kk; subst e_fc; exact hD
  have hk1 : 1 ≤ kk := by subst e_kk; subst e_fc; omega
  have hk2 : kk ≤ tl := by subst e_kk; subst e_fc; omega
  have hk3 : fc = cT f tt gt p0 kk := by subst e_kk; subst e_fc; exact (cT_1 _ _ _ _).symm
  clear e_kk e_fc
  obtain ⟨nn3, hnn3⟩ : ∃ q : Nat, tl - kk < q := ⟨_, Nat.lt_succ_self _⟩
  induction nn3 generalizing kk fc H locs ls with
  | zero => exact absurd hnn3 (Nat.not_lt_zero _)
  | succ nn3 ih3 =>
    refine lv_iload hx hb dX4_countTrail_3 (lv_at hl 4 rfl) ?_
    refine lv_aload_n hx hb dX4_countTrail_5 rfl (lv_at hl 2 rfl) ?_
    refine va_alen (v := nI tl) hx hb hK hP 2 1 rfl rfl rfl dX4_countTrail_6 ?_
    refine lv_icmp_ge (tgt := 44) hx hb dX4_countTrail_7 (by decide) (fun c_7 => ?_) (fun c_7 => ?_)
    · have n_7 : tl ≤ kk := (nI_leI (a := tl) (b := kk) (by omega) (by omega)).mp c_7
      have hP9 := hP.sub (ws' := [(h0, .inr (4, [.ref b0, .int (nI z)])), (b0, .inl (kc, 6272, .inl fc)), (tr, .inl (kr, tl, .inl (nR gt)))]) [0, 1, 2] rfl
      have hD9 := hD.sub (ws' := [(h0, .inr (4, [.ref b0, .int (nI z)])), (b0, .inl (kc, 6272, .inl fc)), (tr, .inl (kr, tl, .inl (nR gt)))]) [0, 1, 2] (by decide) rfl
      exact W.vret hx hb hr (fun t ht hW => ⟨⟨fc, rfl, by rw [hk3, show kk = tl by omega], by rw [ht]; exact hP9, hD9⟩, hS.F ht⟩) hS.2.2 dX4_countTrail_44
    · have n_7 : kk < tl := Nat.not_le.mp (fun h9 => c_7 ((nI_leI (a := tl) (b := kk) (by omega) (by omega)).mpr h9))
      have hg10 := hgt (kk - 1)
      have hg11 := hgt kk
      refine lv_aload_n hx hb dX4_countTrail_10 rfl (lv_at hl 0 rfl) ?_
      refine va_get (D := (dC, dI)) (ci := 4) (v := .ref b0) (C := RX4) (T := TX4) (N := 2) hx hb hts hi_X4 hown hK hP 0 rfl rfl 0 (by decide) k_f9 (fun _ h9 => h9) rfl dX4_countTrail_11 ?_
      refine lv_iload_n hx hb dX4_countTrail_14 rfl (lv_at hl 1 rfl) ?_
      refine lv_bipush (v := 28) hx hb dX4_countTrail_15 (by decide) ?_
      refine lv_imul hx hb dX4_countTrail_17 ?_
      refine lv_topi (fun x_17 ex_17 => ?_)
      obtain rfl : nI (tt * 28) = x_17 := Eq.symm (ex_17.trans (pk_mul tt 28))
      refine lv_aload_n hx hb dX4_countTrail_18 rfl (lv_at hl 2 rfl) ?_
      refine lv_iload hx hb dX4_countTrail_19 (lv_at hl 4 rfl) ?_
      refine lv_iconst (v := 1) hx hb dX4_countTrail_21 (by decide) ?_
      refine lv_isub hx hb dX4_countTrail_22 ?_
      refine lv_topi (fun x_22 ex_22 => ?_)
      obtain rfl : nI (kk - 1) = x_22 := Eq.symm (ex_22.trans (pk_sub (a := kk) (b := 1) (by omega)))
      refine va_bald hx hb hK hP 2 1 rfl rfl (i := nI (kk - 1)) (vp_in_nI (by omega) (by omega)) dX4_countTrail_23 ?_
      refine lv_topi (fun x_23 ex_23 => ?_)
      obtain rfl : nI (gt (kk - 1)) = x_23 := Eq.symm (ex_23.trans (nR_at (by omega)))
      refine lv_iadd hx hb dX4_countTrail_24 ?_
      refine lv_topi (fun x_24 ex_24 => ?_)
      obtain rfl : nI (tt * 28 + (gt (kk - 1))) = x_24 := Eq.symm (ex_24.trans (nI_add (tt * 28) (gt (kk - 1))))
      refine lv_bipush (v := 28) hx hb dX4_countTrail_25 (by decide) ?_
      refine lv_imul hx hb dX4_countTrail_27 ?_
      refine lv_topi (fun x_27 ex_27 => ?_)
      obtain rfl : nI ((tt * 28 + (gt (kk - 1))) * 28) = x_27 := Eq.symm (ex_27.trans (pk_mul (tt * 28 + (gt (kk - 1))) 28))
      refine lv_aload_n hx hb dX4_countTrail_28 rfl (lv_at hl 2 rfl) ?_
      refine lv_iload hx hb dX4_countTrail_29 (lv_at hl 4 rfl) ?_
      refine va_bald hx hb hK hP 2 1 rfl rfl (i := nI kk) (vp_in_nI (by omega) (by omega)) dX4_countTrail_31 ?_
      refine lv_topi (fun x_31 ex_31 => ?_)
      obtain rfl : nI (gt kk) = x_31 := Eq.symm (ex_31.trans (nR_at (by omega)))
      refine lv_iadd hx hb dX4_countTrail_32 ?_
      refine lv_topi (fun x_32 ex_32 => ?_)
      obtain rfl : nI ((tt * 28 + (gt (kk - 1))) * 28 + (gt kk)) = x_32 := Eq.symm (ex_32.trans (nI_add ((tt * 28 + (gt (kk - 1))) * 28) (gt kk)))
      refine lv_dup2_11 hx hb dX4_countTrail_33 rfl rfl ?_
      refine va_iald hx hb hK hP 1 0 rfl rfl (i := nI ((tt * 28 + (gt (kk - 1))) * 28 + (gt kk))) (vp_in_nI (by omega) (by omega)) dX4_countTrail_34 ?_
      refine lv_topi (fun x_34 ex_34 => ?_)
      obtain rfl : fc ((tt * 28 + (gt (kk - 1))) * 28 + (gt kk)) = x_34 := Eq.symm (ex_34.trans (fR_at (by omega)))
      refine lv_iload_n hx hb dX4_countTrail_35 rfl (lv_at hl 3 rfl) ?_
      refine lv_iadd hx hb dX4_countTrail_36 ?_
      refine va_iast hx hb hK hP hD hS 1 0 rfl rfl (i := nI ((tt * 28 + (gt (kk - 1))) * 28 + (gt kk))) (x := (fc ((tt * 28 + (gt (kk - 1))) * 28 + (gt kk))) + p0) (vp_in_nI (by omega) (by omega)) dX4_countTrail_37 (fun H locs hP hD hS => ?_)
      have er_37 : upd fc (nI ((tt * 28 + (gt (kk - 1))) * 28 + (gt kk)) : Int32).toNatClampNeg ((fc ((tt * 28 + (gt (kk - 1))) * 28 + (gt kk))) + p0) = upd fc ((tt * 28 + (gt (kk - 1))) * 28 + (gt kk)) ((fc ((tt * 28 + (gt (kk - 1))) * 28 + (gt kk))) + p0) := upd_at (by omega)
      replace hP : va_P (dC, dI) vwCl [(h0, .inr (4, [.ref b0, .int (nI z)])), (b0, .inl (kc, 6272, .inl (upd fc ((tt * 28 + (gt (kk - 1))) * 28 + (gt kk)) ((fc ((tt * 28 + (gt (kk - 1))) * 28 + (gt kk))) + p0)))), (tr, .inl (kr, tl, .inl (nR gt)))] H := by rw [← er_37]; exact hP
      replace hD : va_D A [(h0, .inr (4, [.ref b0, .int (nI z)])), (b0, .inl (kc, 6272, .inl (upd fc ((tt * 28 + (gt (kk - 1))) * 28 + (gt kk)) ((fc ((tt * 28 + (gt (kk - 1))) * 28 + (gt kk))) + p0)))), (tr, .inl (kr, tl, .inl (nR gt)))] := by rw [← er_37]; exact hD
      refine lv_iinc (v := nI (kk + 1)) (lv' := [(4, .int (nI (kk + 1))), (0, .ref h0), (1, .int (nI tt)), (2, .ref tr), (3, .int p0)]) hx hb dX4_countTrail_38 hl (k := 4) rfl (nI_1 _) (by decide) rfl (fun ls hl => ?_)
      refine lv_goto (tgt := 3) hx hb dX4_countTrail_41 (by decide) ?_
      replace hl : lv_has ls 5 [(0, .ref h0), (1, .int (nI tt)), (2, .ref tr), (3, .int p0), (4, .int (nI (kk + 1)))] := lv_sub hl [1, 2, 3, 4, 0] rfl
      replace hP : va_P (dC, dI) vwCl [(h0, .inr (4, [.ref b0, .int (nI z)])), (b0, .inl (kc, 6272, .inl (upd fc ((tt * 28 + (gt (kk - 1))) * 28 + (gt kk)) ((fc ((tt * 28 + (gt (kk - 1))) * 28 + (gt kk))) + p0)))), (tr, .inl (kr, tl, .inl (nR gt)))] H := hP
      replace hD : va_D A [(h0, .inr (4, [.ref b0, .int (nI z)])), (b0, .inl (kc, 6272, .inl (upd fc ((tt * 28 + (gt (kk - 1))) * 28 + (gt kk)) ((fc ((tt * 28 + (gt (kk - 1))) * 28 + (gt kk))) + p0)))), (tr, .inl (kr, tl, .inl (nR gt)))] := hD
      have hk39 : (upd fc ((tt * 28 + (gt (kk - 1))) * 28 + (gt kk)) ((fc ((tt * 28 + (gt (kk - 1))) * 28 + (gt kk))) + p0)) = cT f tt gt p0 (kk + 1) := by rw [cT_s f tt gt p0 hk1, ← hk3]
      apply ih3 (kk := kk + 1) (fc := upd fc ((tt * 28 + (gt (kk - 1))) * 28 + (gt kk)) ((fc ((tt * 28 + (gt (kk - 1))) * 28 + (gt kk))) + p0)) <;> first | assumption | omega

set_option maxHeartbeats 4000000 in
set_option maxRecDepth 100000 in
theorem g_X0_init (l : Launch) (dC : Nat → ClassId) (dI : Nat → Nat → Nat) (h0 : Nat) (tr : Nat) (p0 : Int32) (p1 : Int32) (sz : Nat) : Met l yX0_init wsX0_init ({ frames := 1, cells := 0, slots := 0, locals := 12 }) (va_Pc [.ref h0, .int p0, .int p1, .ref tr] (fun U => U.heap.size = sz ∧ va_P (dC, dI) vwCl [(h0, .inr (0, [.int 0, .int 0, .null]))] U.heap ∧ va_K (dC, dI) vwCl [] U ∧ va_D (fun _ => True) [(h0, .inr (0, [.int 0, .int 0, .null]))])) (va_Qv (fun (_ : Unit) => True) (fun (_ : Unit) (t : State) => va_P (dC, dI) vwCl [(h0, .inr (0, [.int p0, .int p1, .ref tr]))] t.heap ∧ va_D (va_A [(h0, .inr (0, [.int 0, .int 0, .null]))] sz) [(h0, .inr (0, [.int p0, .int p1, .ref tr]))]) (va_A [(h0, .inr (0, [.int 0, .int 0, .null]))] sz)) 0 0 (va_A [(h0, .inr (0, [.int 0, .int 0, .null]))] sz) := by
  refine Met.ofW (cc := cX0_init) (maxL := 4) (ret := none) (by decide) rfl ?_
  intro p e s m args below meth c s₁ B hml hv
  obtain ⟨rfl, hsz, hP, hK, hD0⟩ := hv
  have hx := B.exec
  have hb := B.bytes
  have hr := B.returns
  have hts := atoms_spec (ws := wsX0_init) B.pre
  have hown : s.vm.findClass RX0 = some m.cls := findClass_of_methodNamed B.named
  have hlocks := B.notSynchronized
  have hin : meth.name = "<init>" := (name_of_methodNamed B.named B.method).1
  subst hsz
  have hD := hD0.self (sz := s.heap.size)
  clear hD0
  generalize hAe : va_A [(h0, .inr (0, [.int 0, .int 0, .null]))] s.heap.size = A at hD ⊢
  have hA : ∀ q : Nat, s.heap.size ≤ q → A q := fun q h => by rw [← hAe]; exact Or.inr h
  clear hAe
  have hS : va_S A s.heap s.heap [] := va_S.rf
  replace hP : va_P (dC, dI) vwCl [(h0, .inr (0, [.int 0, .int 0, .null]))] s.heap := hP
  have hl := lv_entry ([.ref h0, .int p0, .int p1, .ref tr]) (n := 4) (Nat.le_of_ble_eq_true rfl)
  rw [lg_entry_eq]
  generalize (lg_sl ([.ref h0, .int p0, .int p1, .ref tr]) ++ List.replicate (4 - (lg_sl ([.ref h0, .int p0, .int p1, .ref tr])).length) Slot.unset).toArray = ls at hl ⊢
  replace hl : lv_has ls 4 [(0, .ref h0), (1, .int p0), (2, .int p1), (3, .ref tr)] := hl
  have hi_X0 : ∀ w ∈ wsX00, w ∈ wsX0_init := by decide +kernel
  have k_f7 := hts (.fieldLink RX0 7 "TongueTeller$Learnt" "number" "I") (by decide +kernel)
  have k_f13 := hts (.fieldLink RX0 13 "TongueTeller$Learnt" "tongue" "I") (by decide +kernel)
  have k_f16 := hts (.fieldLink RX0 16 "TongueTeller$Learnt" "trail" "[B") (by decide +kernel)
  refine lv_aload_n hx hb dX0_init_0 rfl (lv_at hl 0 rfl) ?_
  refine W.objInit hx hb hown (hts (.methodLink RX0 1 objectInit) (by decide +kernel)) (hts (.instanceMethod objectInit) (by decide +kernel)) (hts (.code objectInit ⟨#[0xb1]⟩ 1 none) (List.mem_of_getElem? (i := 3) rfl)) rfl (by rw [hml]; exact hl.1) rfl dX0_init_1 (Nat.le_of_ble_eq_true rfl) (Nat.le_of_ble_eq_true rfl) ?_
  refine W.eq (g2 := F0 m 4 ls []) rfl ?_
  refine lv_aload_n hx hb dX0_init_4 rfl (lv_at hl 0 rfl) ?_
  refine lv_iload_n hx hb dX0_init_5 rfl (lv_at hl 1 rfl) ?_
  refine va_putF (D := (dC, dI)) (ci := 0) (v := .int p0) (ty := .int) (C := RX0) (T := TX0) (N := 3) hx hb hts hi_X0 tyX0 tyX0_ok nmX0 hown hK hP hD hS 0 rfl rfl 0 (by decide) k_f7 (fun _ h9 => h9) rfl hin rfl (by decide +kernel) rfl rfl (Nat.le_of_ble_eq_true rfl) dX0_init_6 (fun H locs hP hD hS => ?_)
  replace hP : va_P (dC, dI) vwCl [(h0, .inr (0, [.int p0, .int 0, .null]))] H := hP
  replace hD : va_D A [(h0, .inr (0, [.int p0, .int 0, .null]))] := hD
  refine lv_aload_n hx hb dX0_init_9 rfl (lv_at hl 0 rfl) ?_
  refine lv_iload_n hx hb dX0_init_10 rfl (lv_at hl 2 rfl) ?_
  refine va_putF (D := (dC, dI)) (ci := 0) (v := .int p1) (ty := .int) (C := RX0) (T := TX0) (N := 3) hx hb hts hi_X0 tyX0 tyX0_ok nmX0 hown hK hP hD hS 0 rfl rfl 1 (by decide) k_f13 (fun _ h9 => h9) rfl hin rfl (by decide +kernel) rfl rfl (Nat.le_of_ble_eq_true rfl) dX0_init_11 (fun H locs hP hD hS => ?_)
  replace hP : va_P (dC, dI) vwCl [(h0, .inr (0, [.int p0, .int p1, .null]))] H := hP
  replace hD : va_D A [(h0, .inr (0, [.int p0, .int p1, .null]))] := hD
  refine lv_aload_n hx hb dX0_init_14 rfl (lv_at hl 0 rfl) ?_
  refine lv_aload_n hx hb dX0_init_15 rfl (lv_at hl 3 rfl) ?_
  refine va_putF (D := (dC, dI)) (ci := 0) (v := .ref tr) (ty := .array .byte) (C := RX0) (T := TX0) (N := 3) hx hb hts hi_X0 tyX0 tyX0_ok nmX0 hown hK hP hD hS 0 rfl rfl 2 (by decide) k_f16 (fun _ h9 => h9) rfl hin rfl (by decide +kernel) rfl rfl (Nat.le_of_ble_eq_true rfl) dX0_init_16 (fun H locs hP hD hS => ?_)
  replace hP : va_P (dC, dI) vwCl [(h0, .inr (0, [.int p0, .int p1, .ref tr]))] H := hP
  replace hD : va_D A [(h0, .inr (0, [.int p0, .int p1, .ref tr]))] := hD
  have hP9 := hP.sub (ws' := [(h0, .inr (0, [.int p0, .int p1, .ref tr]))]) [0] rfl
  have hD9 := hD.sub (ws' := [(h0, .inr (0, [.int p0, .int p1, .ref tr]))]) [0] (by decide) rfl
  exact W.vret hx hb hr (fun t ht hW => ⟨⟨(), rfl, trivial, by rw [ht]; exact hP9, hD9⟩, hS.F ht⟩) hS.2.2 dX0_init_19
