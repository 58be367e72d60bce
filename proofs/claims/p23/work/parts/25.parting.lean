set_option maxHeartbeats 4000000 in
set_option maxRecDepth 100000 in
theorem g_X1_keep (l : Launch) (dC : Nat → ClassId) (dI : Nat → Nat → Nat) (h0 : Nat) (r0 : Nat) (z : Nat) (md : Int32) (kr : ClassId) (fr : Nat → Int32) (src : Nat) (k : Nat) (ks : ClassId) (gs : Nat → Nat) (sz : Nat) (hk : k ≤ 60) : Met l yX1_keep wsX1_keep ({ frames := 1, cells := 0, slots := 0, locals := 18 }) (va_Pc [.ref h0, .ref src, .int (nI k)] (fun U => U.heap.size = sz ∧ va_P (dC, dI) vwCl [(h0, .inr (1, [.ref r0, .int (nI z), .int md])), (r0, .inl (kr, 60, .inl fr)), (src, .inl (ks, 60, .inl (nR gs)))] U.heap ∧ va_K (dC, dI) vwCl [(kr, .int), (ks, .int)] U ∧ va_D (fun _ => True) [(h0, .inr (1, [.ref r0, .int (nI z), .int md])), (r0, .inl (kr, 60, .inl fr)), (src, .inl (ks, 60, .inl (nR gs)))])) (va_Qv (fun (u : Nat → Int32) => match u with | ro => (ro = va_cpy (nR gs) fr 0 0 k)) (fun (u : Nat → Int32) (t : State) => match u with | ro => va_P (dC, dI) vwCl [(h0, .inr (1, [.ref r0, .int (nI k), .int 1])), (r0, .inl (kr, 60, .inl ro)), (src, .inl (ks, 60, .inl (nR gs)))] t.heap ∧ va_D (va_A [(h0, .inr (1, [.ref r0, .int (nI z), .int md])), (r0, .inl (kr, 60, .inl fr)), (src, .inl (ks, 60, .inl (nR gs)))] sz) [(h0, .inr (1, [.ref r0, .int (nI k), .int 1])), (r0, .inl (kr, 60, .inl ro)), (src, .inl (ks, 60, .inl (nR gs)))]) (va_A [(h0, .inr (1, [.ref r0, .int (nI z), .int md])), (r0, .inl (kr, 60, .inl fr)), (src, .inl (ks, 60, .inl (nR gs)))] sz)) 0 0 (va_A [(h0, .inr (1, [.ref r0, .int (nI z), .int md])), (r0, .inl (kr, 60, .inl fr)), (src, .inl (ks, 60, .inl (nR gs)))] sz) := by
  refine Met.ofW (cc := cX1_keep) (maxL := 3) (ret := none) (by decide) rfl ?_
  intro p e s m args below meth c s₁ B hml hv
  obtain ⟨rfl, hsz, hP, hK, hD0⟩ := hv
  have hx := B.exec
  have hb := B.bytes
  have hr := B.returns
  have hts := atoms_spec (ws := wsX1_keep) B.pre
  have hown : s.vm.findClass RX1 = some m.cls := findClass_of_methodNamed B.named
  have hlocks := B.notSynchronized
  subst hsz
  have hD := hD0.self (sz := s.heap.size)
  clear hD0
  generalize hAe : va_A [(h0, .inr (1, [.ref r0, .int (nI z), .int md])), (r0, .inl (kr, 60, .inl fr)), (src, .inl (ks, 60, .inl (nR gs)))] s.heap.size = A at hD ⊢
  have hA : ∀ q : Nat, s.heap.size ≤ q → A q := fun q h => by rw [← hAe]; exact Or.inr h
  clear hAe
  have hS : va_S A s.heap s.heap [] := va_S.rf
  replace hP : va_P (dC, dI) vwCl [(h0, .inr (1, [.ref r0, .int (nI z), .int md])), (r0, .inl (kr, 60, .inl fr)), (src, .inl (ks, 60, .inl (nR gs)))] s.heap := hP
  have hl := lv_entry ([.ref h0, .ref src, .int (nI k)]) (n := 3) (Nat.le_of_ble_eq_true rfl)
  rw [lg_entry_eq]
  generalize (lg_sl ([.ref h0, .ref src, .int (nI k)]) ++ List.replicate (3 - (lg_sl ([.ref h0, .ref src, .int (nI k)])).length) Slot.unset).toArray = ls at hl ⊢
  replace hl : lv_has ls 3 [(0, .ref h0), (1, .ref src), (2, .int (nI k))] := hl
  have hi_X1 : ∀ w ∈ wsX10, w ∈ wsX1_keep := by decide +kernel
  have k_f9 := hts (.fieldLink RX1 9 "TongueTeller$Parting" "row" "[I") (by decide +kernel)
  have k_f15 := hts (.fieldLink RX1 15 "TongueTeller$Parting" "size" "I") (by decide +kernel)
  have k_f19 := hts (.fieldLink RX1 19 "TongueTeller$Parting" "made" "Z") (by decide +kernel)
  refine lv_aload_n hx hb dX1_keep_0 rfl (lv_at hl 1 rfl) ?_
  refine lv_iconst (v := 0) hx hb dX1_keep_1 (by decide) ?_
  refine lv_aload_n hx hb dX1_keep_2 rfl (lv_at hl 0 rfl) ?_
  refine va_get (D := (dC, dI)) (ci := 1) (v := .ref r0) (C := RX1) (T := TX1) (N := 3) hx hb hts hi_X1 hown hK hP 0 rfl rfl 0 (by decide) k_f9 (fun _ h9 => h9) rfl dX1_keep_3 ?_
  refine lv_iconst (v := 0) hx hb dX1_keep_6 (by decide) ?_
  refine lv_iload_n hx hb dX1_keep_7 rfl (lv_at hl 2 rfl) ?_
  refine va_copyi hx hb (by rw [hml]; exact hl.1.symm) hown (hts (.methodLink RX1 23 arraycopyName) (by decide +kernel)) (hts (.native arraycopyName) (by decide +kernel)) (hts (.static arraycopyName) (by decide +kernel)) (hts (.initialized "java/lang/System") (by decide +kernel)) hK hP hD hS 2 1 1 0 (ty := .int) rfl rfl rfl rfl rfl (sp := nI 0) (dp := nI 0) (n := nI k) (nI_pos (by omega)) (nI_pos (by omega)) (nI_pos (by omega)) (by rw [nI_clamp (n := 0) (by omega), nI_clamp (n := k) (by omega)]; omega) (by rw [nI_clamp (n := 0) (by omega), nI_clamp (n := k) (by omega)]; omega) (fun i _ => rfl) (Nat.le_of_ble_eq_true rfl) (Nat.le_of_ble_eq_true rfl) dX1_keep_8 (fun H locs hP hD hS => ?_)
  have er_8 : va_cpy (nR gs) fr (nI 0).toNatClampNeg (nI 0).toNatClampNeg (nI k).toNatClampNeg = va_cpy (nR gs) fr 0 0 k := by rw [nI_clamp (n := 0) (by omega), nI_clamp (n := k) (by omega)]
  replace hP : va_P (dC, dI) vwCl [(h0, .inr (1, [.ref r0, .int (nI z), .int md])), (r0, .inl (kr, 60, .inl (va_cpy (nR gs) fr 0 0 k))), (src, .inl (ks, 60, .inl (nR gs)))] H := by rw [← er_8]; exact hP
  replace hD : va_D A [(h0, .inr (1, [.ref r0, .int (nI z), .int md])), (r0, .inl (kr, 60, .inl (va_cpy (nR gs) fr 0 0 k))), (src, .inl (ks, 60, .inl (nR gs)))] := by rw [← er_8]; exact hD
  refine lv_aload_n hx hb dX1_keep_11 rfl (lv_at hl 0 rfl) ?_
  refine lv_iload_n hx hb dX1_keep_12 rfl (lv_at hl 2 rfl) ?_
  refine va_put (D := (dC, dI)) (ci := 1) (v := .int (nI k)) (ty := .int) (C := RX1) (T := TX1) (N := 3) hx hb hts hi_X1 tyX1 tyX1_ok nmX1 hown hK hP hD hS 0 rfl rfl 1 (by decide) k_f15 (fun _ h9 => h9) rfl (by decide +kernel) rfl rfl (Nat.le_of_ble_eq_true rfl) dX1_keep_13 (fun H locs hP hD hS => ?_)
  replace hP : va_P (dC, dI) vwCl [(h0, .inr (1, [.ref r0, .int (nI k), .int md])), (r0, .inl (kr, 60, .inl (va_cpy (nR gs) fr 0 0 k))), (src, .inl (ks, 60, .inl (nR gs)))] H := hP
  replace hD : va_D A [(h0, .inr (1, [.ref r0, .int (nI k), .int md])), (r0, .inl (kr, 60, .inl (va_cpy (nR gs) fr 0 0 k))), (src, .inl (ks, 60, .inl (nR gs)))] := hD
  refine lv_aload_n hx hb dX1_keep_16 rfl (lv_at hl 0 rfl) ?_
  refine lv_iconst (v := 1) hx hb dX1_keep_17 (by decide) ?_
  refine va_put (D := (dC, dI)) (ci := 1) (v := .int 1) (ty := .boolean) (C := RX1) (T := TX1) (N := 3) hx hb hts hi_X1 tyX1 tyX1_ok nmX1 hown hK hP hD hS 0 rfl rfl 2 (by decide) k_f19 (fun _ h9 => h9) rfl (by decide +kernel) rfl rfl (Nat.le_of_ble_eq_true rfl) dX1_keep_18 (fun H locs hP hD hS => ?_)
  replace hP : va_P (dC, dI) vwCl [(h0, .inr (1, [.ref r0, .int (nI k), .int 1])), (r0, .inl (kr, 60, .inl (va_cpy (nR gs) fr 0 0 k))), (src, .inl (ks, 60, .inl (nR gs)))] H := hP
  replace hD : va_D A [(h0, .inr (1, [.ref r0, .int (nI k), .int 1])), (r0, .inl (kr, 60, .inl (va_cpy (nR gs) fr 0 0 k))), (src, .inl (ks, 60, .inl (nR gs)))] := hD
  have hP9 := hP.sub (ws' := [(h0, .inr (1, [.ref r0, .int (nI k), .int 1])), (r0, .inl (kr, 60, .inl (va_cpy (nR gs) fr 0 0 k))), (src, .inl (ks, 60, .inl (nR gs)))]) [0, 1, 2] rfl
  have hD9 := hD.sub (ws' := [(h0, .inr (1, [.ref r0, .int (nI k), .int 1])), (r0, .inl (kr, 60, .inl (va_cpy (nR gs) fr 0 0 k))), (src, .inl (ks, 60, .inl (nR gs)))]) [0, 1, 2] (by decide) rfl
  exact W.vret hx hb hr (fun t ht hW => ⟨⟨(va_cpy (nR gs) fr 0 0 k), rfl, by rfl, by rw [ht]; exact hP9, hD9⟩, hS.F ht⟩) hS.2.2 dX1_keep_21

set_option maxHeartbeats 4000000 in
set_option maxRecDepth 100000 in
theorem g_X1_beginsSpan (l : Launch) (dC : Nat → ClassId) (dI : Nat → Nat → Nat) (h0 : Nat) (r0 : Nat) (z : Nat) (md : Int32) (kr : ClassId) (fr : Nat → Int32) (i : Nat) (hi : i < 60) : Met l yX1_beginsSpan wsX1_beginsSpan ({ frames := 0, cells := 0, slots := 0, locals := 0 }) (va_Pc [.ref h0, .int (nI i)] (fun U => va_P (dC, dI) vwCl [(h0, .inr (1, [.ref r0, .int (nI z), .int md])), (r0, .inl (kr, 60, .inl fr))] U.heap ∧ va_K (dC, dI) vwCl [(kr, .int)] U)) (vp_Si (fun r => ((r = 1 ∧ (bS fr i)) ∨ (r = 0 ∧ ¬ (bS fr i))))) 0 0 (fun _ => False) := by
  refine Met.ofW (cc := cX1_beginsSpan) (maxL := 2) (ret := (some .boolean)) (by decide) rfl ?_
  intro p e s m args below meth c s₁ B hml hv
  obtain ⟨rfl, hP, hK⟩ := hv
  have hx := B.exec
  have hb := B.bytes
  have hr := B.returns
  have hts := atoms_spec (ws := wsX1_beginsSpan) B.pre
  have hown : s.vm.findClass RX1 = some m.cls := findClass_of_methodNamed B.named
  have hlocks := B.notSynchronized
  replace hP : va_P (dC, dI) vwCl [(h0, .inr (1, [.ref r0, .int (nI z), .int md])), (r0, .inl (kr, 60, .inl fr))] s.heap := hP
  have hl := lv_entry ([.ref h0, .int (nI i)]) (n := 2) (Nat.le_of_ble_eq_true rfl)
  rw [lg_entry_eq]
  generalize (lg_sl ([.ref h0, .int (nI i)]) ++ List.replicate (2 - (lg_sl ([.ref h0, .int (nI i)])).length) Slot.unset).toArray = ls at hl ⊢
  replace hl : lv_has ls 2 [(0, .ref h0), (1, .int (nI i))] := hl
  have hi_X1 : ∀ w ∈ wsX10, w ∈ wsX1_beginsSpan := by decide +kernel
  have k_f9 := hts (.fieldLink RX1 9 "TongueTeller$Parting" "row" "[I") (by decide +kernel)
  refine lv_iload_n hx hb dX1_beginsSpan_0 rfl (lv_at hl 1 rfl) ?_
  refine lv_if_eq (tgt := 21) hx hb dX1_beginsSpan_1 (by decide) (fun c_1 => ?_) (fun c_1 => ?_)
  · have n_1 : i = 0 := (nI_eq (a := i) (b := 0) (by omega) (by omega)).mp c_1
    refine lv_iconst (v := 1) hx hb dX1_beginsSpan_21 (by decide) ?_
    refine lv_goto (tgt := 26) hx hb dX1_beginsSpan_22 (by decide) ?_
    exact W.zret (v := 1) hx hb hr (rfl) (fun t ht hW => ⟨1, rfl, Or.inl ⟨rfl, by exact Or.inl n_1⟩, ht⟩) (fun _ h => absurd h List.not_mem_nil) dX1_beginsSpan_26
  · have n_1 : i ≠ 0 := fun h9 => c_1 ((nI_eq (a := i) (b := 0) (by omega) (by omega)).mpr h9)
    refine lv_aload_n hx hb dX1_beginsSpan_4 rfl (lv_at hl 0 rfl) ?_
    refine va_get (D := (dC, dI)) (ci := 1) (v := .ref r0) (C := RX1) (T := TX1) (N := 3) hx hb hts hi_X1 hown hK hP 0 rfl rfl 0 (by decide) k_f9 (fun _ h9 => h9) rfl dX1_beginsSpan_5 ?_
    refine lv_iload_n hx hb dX1_beginsSpan_8 rfl (lv_at hl 1 rfl) ?_
    refine va_iald hx hb hK hP 1 0 rfl rfl (i := nI i) (vp_in_nI (by omega) (by omega)) dX1_beginsSpan_9 ?_
    refine lv_topi (fun x_9 ex_9 => ?_)
    obtain rfl : fr i = x_9 := Eq.symm (ex_9.trans (fR_at (by omega)))
    refine lv_aload_n hx hb dX1_beginsSpan_10 rfl (lv_at hl 0 rfl) ?_
    refine va_get (D := (dC, dI)) (ci := 1) (v := .ref r0) (C := RX1) (T := TX1) (N := 3) hx hb hts hi_X1 hown hK hP 0 rfl rfl 0 (by decide) k_f9 (fun _ h9 => h9) rfl dX1_beginsSpan_11 ?_
    refine lv_iload_n hx hb dX1_beginsSpan_14 rfl (lv_at hl 1 rfl) ?_
    refine lv_iconst (v := 1) hx hb dX1_beginsSpan_15 (by decide) ?_
    refine lv_isub hx hb dX1_beginsSpan_16 ?_
    refine lv_topi (fun x_16 ex_16 => ?_)
    obtain rfl : nI (i - 1) = x_16 := Eq.symm (ex_16.trans (pk_sub (a := i) (b := 1) (by omega)))
    refine va_iald hx hb hK hP 1 0 rfl rfl (i := nI (i - 1)) (vp_in_nI (by omega) (by omega)) dX1_beginsSpan_17 ?_
    refine lv_topi (fun x_17 ex_17 => ?_)
    obtain rfl : fr (i - 1) = x_17 := Eq.symm (ex_17.trans (fR_at (by omega)))
    refine lv_icmp_eq (tgt := 25) hx hb dX1_beginsSpan_18 (by decide) (fun c_18 => ?_) (fun c_18 => ?_)
    · refine lv_iconst (v := 0) hx hb dX1_beginsSpan_25 (by decide) ?_
      exact W.zret (v := 0) hx hb hr (rfl) (fun t ht hW => ⟨0, rfl, Or.inr ⟨rfl, by exact fun h => h.elim n_1 (fun h => h c_18)⟩, ht⟩) (fun _ h => absurd h List.not_mem_nil) dX1_beginsSpan_26
    · refine lv_iconst (v := 1) hx hb dX1_beginsSpan_21 (by decide) ?_
      refine lv_goto (tgt := 26) hx hb dX1_beginsSpan_22 (by decide) ?_
      exact W.zret (v := 1) hx hb hr (rfl) (fun t ht hW => ⟨1, rfl, Or.inl ⟨rfl, by exact Or.inr c_18⟩, ht⟩) (fun _ h => absurd h List.not_mem_nil) dX1_beginsSpan_26

set_option maxHeartbeats 4000000 in
set_option maxRecDepth 100000 in
theorem g_X1_spansIn (l : Launch) (dC : Nat → ClassId) (dI : Nat → Nat → Nat) (h0 : Nat) (r0 : Nat) (z : Nat) (md : Int32) (kr : ClassId) (fr : Nat → Int32) (hz : z ≤ 60) : Met l yX1_spansIn wsX1_spansIn ({ frames := 1, cells := 0, slots := 0, locals := 21 }) (va_Pc [.ref h0] (fun U => va_P (dC, dI) vwCl [(h0, .inr (1, [.ref r0, .int (nI z), .int md])), (r0, .inl (kr, 60, .inl fr))] U.heap ∧ va_K (dC, dI) vwCl [(kr, .int)] U)) (vp_Si (fun r => r = nI (cS fr z))) 0 0 (fun _ => False) := by
  refine Met.ofW (cc := cX1_spansIn) (maxL := 3) (ret := (some .int)) (by decide) rfl ?_
  intro p e s m args below meth c s₁ B hml hv
  obtain ⟨rfl, hP, hK⟩ := hv
  have hx := B.exec
  have hb := B.bytes
  have hr := B.returns
  have hts := atoms_spec (ws := wsX1_spansIn) B.pre
  have hown : s.vm.findClass RX1 = some m.cls := findClass_of_methodNamed B.named
  have hlocks := B.notSynchronized
  replace hP : va_P (dC, dI) vwCl [(h0, .inr (1, [.ref r0, .int (nI z), .int md])), (r0, .inl (kr, 60, .inl fr))] s.heap := hP
  have hl := lv_entry ([.ref h0]) (n := 3) (Nat.le_of_ble_eq_true rfl)
  rw [lg_entry_eq]
  generalize (lg_sl ([.ref h0]) ++ List.replicate (3 - (lg_sl ([.ref h0])).length) Slot.unset).toArray = ls at hl ⊢
  replace hl : lv_has ls 3 [(0, .ref h0)] := hl
  have hi_X1 : ∀ w ∈ wsX10, w ∈ wsX1_spansIn := by decide +kernel
  have k_f15 := hts (.fieldLink RX1 15 "TongueTeller$Parting" "size" "I") (by decide +kernel)
  refine lv_iconst (v := 0) hx hb dX1_spansIn_0 (by decide) ?_
  refine lv_istore_n (lv' := [(1, .int 0), (0, .ref h0)]) hx hb dX1_spansIn_1 rfl hl (by decide) rfl (fun ls hl => ?_)
  refine lv_iconst (v := 0) hx hb dX1_spansIn_2 (by decide) ?_
  refine lv_istore_n (lv' := [(2, .int 0), (1, .int 0), (0, .ref h0)]) hx hb dX1_spansIn_3 rfl hl (by decide) rfl (fun ls hl => ?_)
  obtain ⟨i, e_i⟩ : ∃ y : Nat, y = 0 := ⟨_, rfl⟩
  replace hl : lv_has ls 3 [(0, .ref h0), (1, .int (nI (cS fr i))), (2, .int (nI i))] := by subst e_i; exact lv_sub hl [2, 1, 0] rfl
  have hi1 : i ≤ z := by subst e_i; omega
  clear e_i
  obtain ⟨nn4, hnn4⟩ : ∃ q : Nat, z - i < q := ⟨_, Nat.lt_succ_self _⟩
  induction nn4 generalizing i ls with
  | zero => exact absurd hnn4 (Nat.not_lt_zero _)
  | succ nn4 ih4 =>
    refine lv_iload_n hx hb dX1_spansIn_4 rfl (lv_at hl 2 rfl) ?_
    refine lv_aload_n hx hb dX1_spansIn_5 rfl (lv_at hl 0 rfl) ?_
    refine va_get (D := (dC, dI)) (ci := 1) (v := .int (nI z)) (C := RX1) (T := TX1) (N := 3) hx hb hts hi_X1 hown hK hP 0 rfl rfl 1 (by decide) k_f15 (fun _ h9 => h9) rfl dX1_spansIn_6 ?_
    refine lv_icmp_ge (tgt := 34) hx hb dX1_spansIn_9 (by decide) (fun c_9 => ?_) (fun c_9 => ?_)
    · have n_9 : z ≤ i := (nI_leI (a := z) (b := i) (by omega) (by omega)).mp c_9
      refine lv_iload_n hx hb dX1_spansIn_34 rfl (lv_at hl 1 rfl) ?_
      exact W.iret (v := nI (cS fr i)) hx hb hr (fun t ht hW => ⟨nI (cS fr i), rfl, congrArg (fun y => nI (cS fr y)) (show i = z by omega), ht⟩) (fun _ h => absurd h List.not_mem_nil) dX1_spansIn_35
    · have n_9 : i < z := Nat.not_le.mp (fun h9 => c_9 ((nI_leI (a := z) (b := i) (by omega) (by omega)).mpr h9))
      refine lv_iload_n hx hb dX1_spansIn_12 rfl (lv_at hl 1 rfl) ?_
      refine lv_aload_n hx hb dX1_spansIn_13 rfl (lv_at hl 0 rfl) ?_
      refine lv_iload_n hx hb dX1_spansIn_14 rfl (lv_at hl 2 rfl) ?_
      have hPc := hP.sub (ws' := [(h0, .inr (1, [.ref r0, .int (nI z), .int md])), (r0, .inl (kr, 60, .inl fr))]) [0, 1] rfl
      have hKc := hK.sub (tys' := [(kr, .int)]) [0] rfl
      refine vp_callSi (W.runV (As := [.int (nI i)]) (rest := [.int (nI (cS fr i))]) ⟨hx, hb, hml, hown, hts⟩ (g_X1_beginsSpan l dC dI h0 r0 z md kr fr i (by first | assumption | omega)) (cwV 1 hts gX1_spansIn_X1_beginsSpan rfl rfl rfl (by decide +kernel) ⟨Nat.le_of_ble_eq_true rfl, Nat.le_of_ble_eq_true rfl⟩) ⟨fun a U g mk q => by obtain ⟨q0, qP, qK⟩ := q; exact ⟨q0, qP, va_K.moved (u := U) (U := U.calling g mk a) (Vm.Alike.refl U.vm) qK⟩, va_recv hK hP (ci := 1) (q0 := 0) rfl rfl, fun U hU hW => ⟨rfl, by rw [hU]; exact hPc, va_K.moved hW.alike hKc⟩⟩ rfl rfl hl.1 rfl (lv_room (Nat.le_of_ble_eq_true rfl)) dX1_spansIn_15 ⟨Nat.le_of_ble_eq_true rfl, Nat.le_of_ble_eq_true rfl⟩) (fun r_15 hw_15 => ?_)
      clear hPc
      rcases hw_15 with ⟨hr_15, hb_15⟩ | ⟨hr_15, hb_15⟩
      · subst hr_15
        refine lv_if_eq (tgt := 25) hx hb dX1_spansIn_18 (by decide) (fun c_18 => ?_) (fun c_18 => ?_)
        · exact absurd c_18 (by decide)
        refine lv_iconst (v := 1) hx hb dX1_spansIn_21 (by decide) ?_
        refine lv_goto (tgt := 26) hx hb dX1_spansIn_22 (by decide) ?_
        refine lv_iadd hx hb dX1_spansIn_26 ?_
        refine lv_topi (fun x_26 ex_26 => ?_)
        obtain rfl : nI (cS fr i + 1) = x_26 := Eq.symm (ex_26.trans (nI_add (cS fr i) 1))
        refine lv_istore_n (lv' := [(1, .int (nI (cS fr i + 1))), (0, .ref h0), (2, .int (nI i))]) hx hb dX1_spansIn_27 rfl hl (by decide) rfl (fun ls hl => ?_)
        replace hl : lv_has ls 3 [(1, .int (nI (cS fr (i + 1)))), (0, .ref h0), (2, .int (nI i))] := by rw [cS_y hb_15]; exact hl
        refine lv_iinc (v := nI (i + 1)) (lv' := [(2, .int (nI (i + 1))), (1, .int (nI (cS fr (i + 1)))), (0, .ref h0)]) hx hb dX1_spansIn_28 hl (k := 2) rfl (nI_1 _) (by decide) rfl (fun ls hl => ?_)
        refine lv_goto (tgt := 4) hx hb dX1_spansIn_31 (by decide) ?_
        replace hl : lv_has ls 3 [(0, .ref h0), (1, .int (nI (cS fr (i + 1)))), (2, .int (nI (i + 1)))] := lv_sub hl [2, 1, 0] rfl
        apply ih4 (i := i + 1) <;> first | assumption | omega
      · subst hr_15
        refine lv_if_eq (tgt := 25) hx hb dX1_spansIn_18 (by decide) (fun c_18 => ?_) (fun c_18 => ?_)
        rotate_left
        · exact absurd (by decide) c_18
        refine lv_iconst (v := 0) hx hb dX1_spansIn_25 (by decide) ?_
        refine lv_iadd hx hb dX1_spansIn_26 ?_
        refine lv_topi (fun x_26 ex_26 => ?_)
        obtain rfl : nI (cS fr i) = x_26 := Eq.symm (ex_26.trans (nI_add (cS fr i) 0))
        refine lv_istore_n (lv' := [(1, .int (nI (cS fr i))), (0, .ref h0), (2, .int (nI i))]) hx hb dX1_spansIn_27 rfl hl (by decide) rfl (fun ls hl => ?_)
        replace hl : lv_has ls 3 [(1, .int (nI (cS fr (i + 1)))), (0, .ref h0), (2, .int (nI i))] := by rw [cS_n hb_15]; exact hl
        refine lv_iinc (v := nI (i + 1)) (lv' := [(2, .int (nI (i + 1))), (1, .int (nI (cS fr (i + 1)))), (0, .ref h0)]) hx hb dX1_spansIn_28 hl (k := 2) rfl (nI_1 _) (by decide) rfl (fun ls hl => ?_)
        refine lv_goto (tgt := 4) hx hb dX1_spansIn_31 (by decide) ?_
        replace hl : lv_has ls 3 [(0, .ref h0), (1, .int (nI (cS fr (i + 1)))), (2, .int (nI (i + 1)))] := lv_sub hl [2, 1, 0] rfl
        apply ih4 (i := i + 1) <;> first | assumption | omega

set_option maxHeartbeats 4000000 in
set_option maxRecDepth 100000 in
theorem g_X1_firstOfSpan (l : Launch) (dC : Nat → ClassId) (dI : Nat → Nat → Nat) (h0 : Nat) (r0 : Nat) (z : Nat) (md : Int32) (kr : ClassId) (fr : Nat → Int32) (p0 : Int32) (hz : z ≤ 60) : Met l yX1_firstOfSpan wsX1_firstOfSpan ({ frames := 1, cells := 0, slots := 0, locals := 21 }) (va_Pc [.ref h0, .int p0] (fun U => va_P (dC, dI) vwCl [(h0, .inr (1, [.ref r0, .int (nI z), .int md])), (r0, .inl (kr, 60, .inl fr))] U.heap ∧ va_K (dC, dI) vwCl [(kr, .int)] U)) (vp_Si (fun r => ((r = (-1) ∧ (∀ j, j < z → bS fr j → ¬ nI (cS fr j) = p0)) ∨ (∃ pp : Nat, r = nI pp ∧ (pp < z ∧ bS fr pp ∧ nI (cS fr pp) = p0))))) 0 0 (fun _ => False) := by
  refine Met.ofW (cc := cX1_firstOfSpan) (maxL := 4) (ret := (some .int)) (by decide) rfl ?_
  intro p e s m args below meth c s₁ B hml hv
  obtain ⟨rfl, hP, hK⟩ := hv
  have hx := B.exec
  have hb := B.bytes
  have hr := B.returns
  have hts := atoms_spec (ws := wsX1_firstOfSpan) B.pre
  have hown : s.vm.findClass RX1 = some m.cls := findClass_of_methodNamed B.named
  have hlocks := B.notSynchronized
  replace hP : va_P (dC, dI) vwCl [(h0, .inr (1, [.ref r0, .int (nI z), .int md])), (r0, .inl (kr, 60, .inl fr))] s.heap := hP
  have hl := lv_entry ([.ref h0, .int p0]) (n := 4) (Nat.le_of_ble_eq_true rfl)
  rw [lg_entry_eq]
  generalize (lg_sl ([.ref h0, .int p0]) ++ List.replicate (4 - (lg_sl ([.ref h0, .int p0])).length) Slot.unset).toArray = ls at hl ⊢
  replace hl : lv_has ls 4 [(0, .ref h0), (1, .int p0)] := hl
  have hi_X1 : ∀ w ∈ wsX10, w ∈ wsX1_firstOfSpan := by decide +kernel
  have k_f15 := hts (.fieldLink RX1 15 "TongueTeller$Parting" "size" "I") (by decide +kernel)
  refine lv_iconst (v := 0) hx hb dX1_firstOfSpan_0 (by decide) ?_
  refine lv_istore_n (lv' := [(2, .int 0), (0, .ref h0), (1, .int p0)]) hx hb dX1_firstOfSpan_1 rfl hl (by decide) rfl (fun ls hl => ?_)
  refine lv_iconst (v := 0) hx hb dX1_firstOfSpan_2 (by decide) ?_
  refine lv_istore_n (lv' := [(3, .int 0), (2, .int 0), (0, .ref h0), (1, .int p0)]) hx hb dX1_firstOfSpan_3 rfl hl (by decide) rfl (fun ls hl => ?_)
  obtain ⟨i, e_i⟩ : ∃ y : Nat, y = 0 := ⟨_, rfl⟩
  replace hl : lv_has ls 4 [(0, .ref h0), (1, .int p0), (2, .int (nI (cS fr i))), (3, .int (nI i))] := by subst e_i; exact lv_sub hl [2, 3, 1, 0] rfl
  have hi1 : i ≤ z := by subst e_i; omega
  have hi2 : ∀ j, j < i → bS fr j → ¬ nI (cS fr j) = p0 := by subst e_i; exact fun j hj => absurd hj (Nat.not_lt_zero j)
  clear e_i
  obtain ⟨nn4, hnn4⟩ : ∃ q : Nat, z - i < q := ⟨_, Nat.lt_succ_self _⟩
  induction nn4 generalizing i ls with
  | zero => exact absurd hnn4 (Nat.not_lt_zero _)
  | succ nn4 ih4 =>
    refine lv_iload_n hx hb dX1_firstOfSpan_4 rfl (lv_at hl 3 rfl) ?_
    refine lv_aload_n hx hb dX1_firstOfSpan_5 rfl (lv_at hl 0 rfl) ?_
    refine va_get (D := (dC, dI)) (ci := 1) (v := .int (nI z)) (C := RX1) (T := TX1) (N := 3) hx hb hts hi_X1 hown hK hP 0 rfl rfl 1 (by decide) k_f15 (fun _ h9 => h9) rfl dX1_firstOfSpan_6 ?_
    refine lv_icmp_ge (tgt := 36) hx hb dX1_firstOfSpan_9 (by decide) (fun c_9 => ?_) (fun c_9 => ?_)
    · have n_9 : z ≤ i := (nI_leI (a := z) (b := i) (by omega) (by omega)).mp c_9
      refine lv_iconst (v := (-1)) hx hb dX1_firstOfSpan_36 (by decide) ?_
      exact W.iret (v := (-1)) hx hb hr (fun t ht hW => ⟨(-1), rfl, Or.inl ⟨rfl, by exact fun j hj => hi2 j (by omega)⟩, ht⟩) (fun _ h => absurd h List.not_mem_nil) dX1_firstOfSpan_37
    · have n_9 : i < z := Nat.not_le.mp (fun h9 => c_9 ((nI_leI (a := z) (b := i) (by omega) (by omega)).mpr h9))
      have hcs := cS_le fr i
      refine lv_aload_n hx hb dX1_firstOfSpan_12 rfl (lv_at hl 0 rfl) ?_
      refine lv_iload_n hx hb dX1_firstOfSpan_13 rfl (lv_at hl 3 rfl) ?_
      have hPc := hP.sub (ws' := [(h0, .inr (1, [.ref r0, .int (nI z), .int md])), (r0, .inl (kr, 60, .inl fr))]) [0, 1] rfl
      have hKc := hK.sub (tys' := [(kr, .int)]) [0] rfl
      refine vp_callSi (W.runV (As := [.int (nI i)]) (rest := []) ⟨hx, hb, hml, hown, hts⟩ (g_X1_beginsSpan l dC dI h0 r0 z md kr fr i (by first | assumption | omega)) (cwV 1 hts gX1_firstOfSpan_X1_beginsSpan rfl rfl rfl (by decide +kernel) ⟨Nat.le_of_ble_eq_true rfl, Nat.le_of_ble_eq_true rfl⟩) ⟨fun a U g mk q => by obtain ⟨q0, qP, qK⟩ := q; exact ⟨q0, qP, va_K.moved (u := U) (U := U.calling g mk a) (Vm.Alike.refl U.vm) qK⟩, va_recv hK hP (ci := 1) (q0 := 0) rfl rfl, fun U hU hW => ⟨rfl, by rw [hU]; exact hPc, va_K.moved hW.alike hKc⟩⟩ rfl rfl hl.1 rfl (lv_room (Nat.le_of_ble_eq_true rfl)) dX1_firstOfSpan_14 ⟨Nat.le_of_ble_eq_true rfl, Nat.le_of_ble_eq_true rfl⟩) (fun r_14 hw_14 => ?_)
      clear hPc
      rcases hw_14 with ⟨hr_14, hb_14⟩ | ⟨hr_14, hb_14⟩
      · subst hr_14
        refine lv_if_eq (tgt := 30) hx hb dX1_firstOfSpan_17 (by decide) (fun c_17 => ?_) (fun c_17 => ?_)
        · exact absurd c_17 (by decide)
        refine lv_iload_n hx hb dX1_firstOfSpan_20 rfl (lv_at hl 2 rfl) ?_
        refine lv_iload_n hx hb dX1_firstOfSpan_21 rfl (lv_at hl 1 rfl) ?_
        refine lv_icmp_ne (tgt := 27) hx hb dX1_firstOfSpan_22 (by decide) (fun c_22 => ?_) (fun c_22 => ?_)
        · refine lv_iinc (v := nI (cS fr i + 1)) (lv' := [(2, .int (nI (cS fr i + 1))), (0, .ref h0), (1, .int p0), (3, .int (nI i))]) hx hb dX1_firstOfSpan_27 hl (k := 2) rfl (nI_1 _) (by decide) rfl (fun ls hl => ?_)
          replace hl : lv_has ls 4 [(2, .int (nI (cS fr (i + 1)))), (0, .ref h0), (1, .int p0), (3, .int (nI i))] := by rw [cS_y hb_14]; exact hl
          refine lv_iinc (v := nI (i + 1)) (lv' := [(3, .int (nI (i + 1))), (2, .int (nI (cS fr (i + 1)))), (0, .ref h0), (1, .int p0)]) hx hb dX1_firstOfSpan_30 hl (k := 3) rfl (nI_1 _) (by decide) rfl (fun ls hl => ?_)
          refine lv_goto (tgt := 4) hx hb dX1_firstOfSpan_33 (by decide) ?_
          replace hl : lv_has ls 4 [(0, .ref h0), (1, .int p0), (2, .int (nI (cS fr (i + 1)))), (3, .int (nI (i + 1)))] := lv_sub hl [2, 3, 1, 0] rfl
          have hi29 : ∀ j, j < (i + 1) → bS fr j → ¬ nI (cS fr j) = p0 := lt_s hi2 (fun _ => c_22)
          apply ih4 (i := i + 1) <;> first | assumption | omega
        · refine lv_iload_n hx hb dX1_firstOfSpan_25 rfl (lv_at hl 3 rfl) ?_
          exact W.iret (v := nI i) hx hb hr (fun t ht hW => ⟨nI i, rfl, Or.inr ⟨i, rfl, by exact ⟨by omega, hb_14, c_22⟩⟩, ht⟩) (fun _ h => absurd h List.not_mem_nil) dX1_firstOfSpan_26
      · subst hr_14
        refine lv_if_eq (tgt := 30) hx hb dX1_firstOfSpan_17 (by decide) (fun c_17 => ?_) (fun c_17 => ?_)
        rotate_left
        · exact absurd (by decide) c_17
        replace hl : lv_has ls 4 [(0, .ref h0), (1, .int p0), (2, .int (nI (cS fr (i + 1)))), (3, .int (nI i))] := by rw [cS_n hb_14]; exact hl
        refine lv_iinc (v := nI (i + 1)) (lv' := [(3, .int (nI (i + 1))), (0, .ref h0), (1, .int p0), (2, .int (nI (cS fr (i + 1))))]) hx hb dX1_firstOfSpan_30 hl (k := 3) rfl (nI_1 _) (by decide) rfl (fun ls hl => ?_)
        refine lv_goto (tgt := 4) hx hb dX1_firstOfSpan_33 (by decide) ?_
        replace hl : lv_has ls 4 [(0, .ref h0), (1, .int p0), (2, .int (nI (cS fr (i + 1)))), (3, .int (nI (i + 1)))] := lv_sub hl [1, 2, 3, 0] rfl
        have hi29 : ∀ j, j < (i + 1) → bS fr j → ¬ nI (cS fr j) = p0 := lt_s hi2 (fun h9 => absurd h9 hb_14)
        apply ih4 (i := i + 1) <;> first | assumption | omega

set_option maxHeartbeats 4000000 in
set_option maxRecDepth 100000 in
theorem g_X1_lengthOfSpan (l : Launch) (dC : Nat → ClassId) (dI : Nat → Nat → Nat) (h0 : Nat) (r0 : Nat) (z : Nat) (md : Int32) (kr : ClassId) (fr : Nat → Int32) (fi : Nat) (hz : z ≤ 60) (hfi : fi < z) : Met l yX1_lengthOfSpan wsX1_lengthOfSpan ({ frames := 1, cells := 0, slots := 0, locals := 21 }) (va_Pc [.ref h0, .int (nI fi)] (fun U => va_P (dC, dI) vwCl [(h0, .inr (1, [.ref r0, .int (nI z), .int md])), (r0, .inl (kr, 60, .inl fr))] U.heap ∧ va_K (dC, dI) vwCl [(kr, .int)] U)) (vp_Si (fun r => ∃ (ee : Nat), r = nI (ee - fi) ∧ (fi + 1 ≤ ee ∧ ee ≤ z ∧ (∀ j, fi < j → j < ee → ¬ bS fr j) ∧ (ee = z ∨ bS fr ee)))) 0 0 (fun _ => False) := by
  refine Met.ofW (cc := cX1_lengthOfSpan) (maxL := 3) (ret := (some .int)) (by decide) rfl ?_
  intro p e s m args below meth c s₁ B hml hv
  obtain ⟨rfl, hP, hK⟩ := hv
  have hx := B.exec
  have hb := B.bytes
  have hr := B.returns
  have hts := atoms_spec (ws := wsX1_lengthOfSpan) B.pre
  have hown : s.vm.findClass RX1 = some m.cls := findClass_of_methodNamed B.named
  have hlocks := B.notSynchronized
  replace hP : va_P (dC, dI) vwCl [(h0, .inr (1, [.ref r0, .int (nI z), .int md])), (r0, .inl (kr, 60, .inl fr))] s.heap := hP
  have hl := lv_entry ([.ref h0, .int (nI fi)]) (n := 3) (Nat.le_of_ble_eq_true rfl)
  rw [lg_entry_eq]
  generalize (lg_sl ([.ref h0, .int (nI fi)]) ++ List.replicate (3 - (lg_sl ([.ref h0, .int (nI fi)])).length) Slot.unset).toArray = ls at hl ⊢
  replace hl : lv_has ls 3 [(0, .ref h0), (1, .int (nI fi))] := hl
  have hi_X1 : ∀ w ∈ wsX10, w ∈ wsX1_lengthOfSpan := by decide +kernel
  have k_f15 := hts (.fieldLink RX1 15 "TongueTeller$Parting" "size" "I") (by decide +kernel)
  refine lv_iload_n hx hb dX1_lengthOfSpan_0 rfl (lv_at hl 1 rfl) ?_
  refine lv_iconst (v := 1) hx hb dX1_lengthOfSpan_1 (by decide) ?_
  refine lv_iadd hx hb dX1_lengthOfSpan_2 ?_
  refine lv_topi (fun x_2 ex_2 => ?_)
  obtain rfl : nI (fi + 1) = x_2 := Eq.symm (ex_2.trans (nI_add fi 1))
  refine lv_istore_n (lv' := [(2, .int (nI (fi + 1))), (0, .ref h0), (1, .int (nI fi))]) hx hb dX1_lengthOfSpan_3 rfl hl (by decide) rfl (fun ls hl => ?_)
  obtain ⟨ee, e_ee⟩ : ∃ y : Nat, y = fi + 1 := ⟨_, rfl⟩
  replace hl : lv_has ls 3 [(0, .ref h0), (1, .int (nI fi)), (2, .int (nI ee))] := by subst e_ee; exact lv_sub hl [1, 2, 0] rfl
  have he1 : fi + 1 ≤ ee := by subst e_ee; omega
  have he2 : ee ≤ z := by subst e_ee; omega
  have he3 : ∀ j, fi < j → j < ee → ¬ bS fr j := by subst e_ee; exact fun j h1 h2 => absurd h1 (by omega)
  clear e_ee
  obtain ⟨nn4, hnn4⟩ : ∃ q : Nat, z - ee < q := ⟨_, Nat.lt_succ_self _⟩
  induction nn4 generalizing ee ls with
  | zero => exact absurd hnn4 (Nat.not_lt_zero _)
  | succ nn4 ih4 =>
    refine lv_iload_n hx hb dX1_lengthOfSpan_4 rfl (lv_at hl 2 rfl) ?_
    refine lv_aload_n hx hb dX1_lengthOfSpan_5 rfl (lv_at hl 0 rfl) ?_
    refine va_get (D := (dC, dI)) (ci := 1) (v := .int (nI z)) (C := RX1) (T := TX1) (N := 3) hx hb hts hi_X1 hown hK hP 0 rfl rfl 1 (by decide) k_f15 (fun _ h9 => h9) rfl dX1_lengthOfSpan_6 ?_
    refine lv_icmp_ge (tgt := 26) hx hb dX1_lengthOfSpan_9 (by decide) (fun c_9 => ?_) (fun c_9 => ?_)
    · have n_9 : z ≤ ee := (nI_leI (a := z) (b := ee) (by omega) (by omega)).mp c_9
      refine lv_iload_n hx hb dX1_lengthOfSpan_26 rfl (lv_at hl 2 rfl) ?_
      refine lv_iload_n hx hb dX1_lengthOfSpan_27 rfl (lv_at hl 1 rfl) ?_
      refine lv_isub hx hb dX1_lengthOfSpan_28 ?_
      refine lv_topi (fun x_28 ex_28 => ?_)
      obtain rfl : nI (ee - fi) = x_28 := Eq.symm (ex_28.trans (pk_sub (a := ee) (b := fi) (by omega)))
      exact W.iret (v := nI (ee - fi)) hx hb hr (fun t ht hW => ⟨nI (ee - fi), rfl, ⟨ee, rfl, by exact ⟨he1, he2, he3, Or.inl (by omega)⟩⟩, ht⟩) (fun _ h => absurd h List.not_mem_nil) dX1_lengthOfSpan_29
    · have n_9 : ee < z := Nat.not_le.mp (fun h9 => c_9 ((nI_leI (a := z) (b := ee) (by omega) (by omega)).mpr h9))
      refine lv_aload_n hx hb dX1_lengthOfSpan_12 rfl (lv_at hl 0 rfl) ?_
      refine lv_iload_n hx hb dX1_lengthOfSpan_13 rfl (lv_at hl 2 rfl) ?_
      have hPc := hP.sub (ws' := [(h0, .inr (1, [.ref r0, .int (nI z), .int md])), (r0, .inl (kr, 60, .inl fr))]) [0, 1] rfl
      have hKc := hK.sub (tys' := [(kr, .int)]) [0] rfl
      refine vp_callSi (W.runV (As := [.int (nI ee)]) (rest := []) ⟨hx, hb, hml, hown, hts⟩ (g_X1_beginsSpan l dC dI h0 r0 z md kr fr ee (by first | assumption | omega)) (cwV 1 hts gX1_lengthOfSpan_X1_beginsSpan rfl rfl rfl (by decide +kernel) ⟨Nat.le_of_ble_eq_true rfl, Nat.le_of_ble_eq_true rfl⟩) ⟨fun a U g mk q => by obtain ⟨q0, qP, qK⟩ := q; exact ⟨q0, qP, va_K.moved (u := U) (U := U.calling g mk a) (Vm.Alike.refl U.vm) qK⟩, va_recv hK hP (ci := 1) (q0 := 0) rfl rfl, fun U hU hW => ⟨rfl, by rw [hU]; exact hPc, va_K.moved hW.alike hKc⟩⟩ rfl rfl hl.1 rfl (lv_room (Nat.le_of_ble_eq_true rfl)) dX1_lengthOfSpan_14 ⟨Nat.le_of_ble_eq_true rfl, Nat.le_of_ble_eq_true rfl⟩) (fun r_14 hw_14 => ?_)
      clear hPc
      rcases hw_14 with ⟨hr_14, hb_14⟩ | ⟨hr_14, hb_14⟩
      · subst hr_14
        refine lv_if_ne (tgt := 26) hx hb dX1_lengthOfSpan_17 (by decide) (fun c_17 => ?_) (fun c_17 => ?_)
        rotate_left
        · exact absurd c_17 (by decide)
        refine lv_iload_n hx hb dX1_lengthOfSpan_26 rfl (lv_at hl 2 rfl) ?_
        refine lv_iload_n hx hb dX1_lengthOfSpan_27 rfl (lv_at hl 1 rfl) ?_
        refine lv_isub hx hb dX1_lengthOfSpan_28 ?_
        refine lv_topi (fun x_28 ex_28 => ?_)
        obtain rfl : nI (ee - fi) = x_28 := Eq.symm (ex_28.trans (pk_sub (a := ee) (b := fi) (by omega)))
        exact W.iret (v := nI (ee - fi)) hx hb hr (fun t ht hW => ⟨nI (ee - fi), rfl, ⟨ee, rfl, by exact ⟨he1, he2, he3, Or.inr hb_14⟩⟩, ht⟩) (fun _ h => absurd h List.not_mem_nil) dX1_lengthOfSpan_29
      · subst hr_14
        refine lv_if_ne (tgt := 26) hx hb dX1_lengthOfSpan_17 (by decide) (fun c_17 => ?_) (fun c_17 => ?_)
        · exact absurd (by decide) c_17
        refine lv_iinc (v := nI (ee + 1)) (lv' := [(2, .int (nI (ee + 1))), (0, .ref h0), (1, .int (nI fi))]) hx hb dX1_lengthOfSpan_20 hl (k := 2) rfl (nI_1 _) (by decide) rfl (fun ls hl => ?_)
        refine lv_goto (tgt := 4) hx hb dX1_lengthOfSpan_23 (by decide) ?_
        replace hl : lv_has ls 3 [(0, .ref h0), (1, .int (nI fi)), (2, .int (nI (ee + 1)))] := lv_sub hl [1, 2, 0] rfl
        have he39 : ∀ j, fi < j → j < (ee + 1) → ¬ bS fr j := (fun j h1 h2 => by by_cases e9 : j = ee; (rw [e9]; exact hb_14); (exact he3 j h1 (by omega)))
        apply ih4 (ee := ee + 1) <;> first | assumption | omega
