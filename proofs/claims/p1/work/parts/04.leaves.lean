set_option maxHeartbeats 4000000 in
set_option maxRecDepth 100000 in
theorem c_X7_refuse (l : Launch) (dC : Nat → ClassId) (dI : Nat → Nat → Nat) (h0 : Nat) (a0 : Nat) (v1 : Int32) (a2 : Nat) (a3 : Nat) (v4 : Int32) (v5 : Int32) (a6 : Nat) (a7 : Nat) (a8 : Nat) (v9 : Int32) (v10 : Int32) (a11 : Nat) (a12 : Nat) (v13 : Int32) (a14 : Nat) (a15 : Nat) (a16 : Nat) (v17 : Int32) (p0 : Int32) (sz : Nat) : Met l yX7_refuse wsX7_refuse ({ frames := 0, cells := 0, slots := 0, locals := 0 }) (va_Pc [.ref h0, .int p0] (fun U => U.heap.size = sz ∧ va_P (dC, dI) vwCl [(h0, .inr (7, [.ref a0, .int v1, .ref a2, .ref a3, .int v4, .int v5, .ref a6, .ref a7, .ref a8, .int v9, .int v10, .ref a11, .ref a12, .int v13, .ref a14, .ref a15, .ref a16, .int v17]))] U.heap ∧ va_K (dC, dI) vwCl [] U ∧ va_D (fun _ => True) [(h0, .inr (7, [.ref a0, .int v1, .ref a2, .ref a3, .int v4, .int v5, .ref a6, .ref a7, .ref a8, .int v9, .int v10, .ref a11, .ref a12, .int v13, .ref a14, .ref a15, .ref a16, .int v17]))])) (va_Qi (fun (r : Int32) (_ : Unit) => r = (-1)) (fun (_ : Unit) (t : State) => va_P (dC, dI) vwCl [(h0, .inr (7, [.ref a0, .int v1, .ref a2, .ref a3, .int v4, .int v5, .ref a6, .ref a7, .ref a8, .int v9, .int v10, .ref a11, .ref a12, .int v13, .ref a14, .ref a15, .ref a16, .int p0]))] t.heap ∧ va_D (va_A [(h0, .inr (7, [.ref a0, .int v1, .ref a2, .ref a3, .int v4, .int v5, .ref a6, .ref a7, .ref a8, .int v9, .int v10, .ref a11, .ref a12, .int v13, .ref a14, .ref a15, .ref a16, .int v17]))] sz) [(h0, .inr (7, [.ref a0, .int v1, .ref a2, .ref a3, .int v4, .int v5, .ref a6, .ref a7, .ref a8, .int v9, .int v10, .ref a11, .ref a12, .int v13, .ref a14, .ref a15, .ref a16, .int p0]))]) (va_A [(h0, .inr (7, [.ref a0, .int v1, .ref a2, .ref a3, .int v4, .int v5, .ref a6, .ref a7, .ref a8, .int v9, .int v10, .ref a11, .ref a12, .int v13, .ref a14, .ref a15, .ref a16, .int v17]))] sz)) 0 0 (va_A [(h0, .inr (7, [.ref a0, .int v1, .ref a2, .ref a3, .int v4, .int v5, .ref a6, .ref a7, .ref a8, .int v9, .int v10, .ref a11, .ref a12, .int v13, .ref a14, .ref a15, .ref a16, .int v17]))] sz) := by
  refine Met.ofW (cc := cX7_refuse) (maxL := 2) (ret := (some .int)) (by decide) rfl ?_
  intro p e s m args below meth c s₁ B hml hv
  obtain ⟨rfl, hsz, hP, hK, hD0⟩ := hv
  have hx := B.exec
  have hb := B.bytes
  have hr := B.returns
  have hts := atoms_spec (ws := wsX7_refuse) B.pre
  have hown : s.vm.findClass RX7 = some m.cls := findClass_of_methodNamed B.named
  have hlocks := B.notSynchronized
  subst hsz
  have hD := hD0.self (sz := s.heap.size)
  generalize hAe : va_A [(h0, .inr (7, [.ref a0, .int v1, .ref a2, .ref a3, .int v4, .int v5, .ref a6, .ref a7, .ref a8, .int v9, .int v10, .ref a11, .ref a12, .int v13, .ref a14, .ref a15, .ref a16, .int v17]))] s.heap.size = A at hD ⊢
  have hA : ∀ q : Nat, s.heap.size ≤ q → A q := fun q h => by rw [← hAe]; exact Or.inr h
  have hS : va_S A s.heap s.heap [] := va_S.rf
  replace hP : va_P (dC, dI) vwCl [(h0, .inr (7, [.ref a0, .int v1, .ref a2, .ref a3, .int v4, .int v5, .ref a6, .ref a7, .ref a8, .int v9, .int v10, .ref a11, .ref a12, .int v13, .ref a14, .ref a15, .ref a16, .int v17]))] s.heap := hP
  have hl := lv_entry ([.ref h0, .int p0]) (n := 2) (Nat.le_of_ble_eq_true rfl)
  rw [lg_entry_eq]
  generalize (lg_sl ([.ref h0, .int p0]) ++ List.replicate (2 - (lg_sl ([.ref h0, .int p0])).length) Slot.unset).toArray = ls at hl ⊢
  replace hl : lv_has ls 2 [(0, .ref h0), (1, .int p0)] := hl
  have hi_X7 : ∀ w ∈ wsX70, w ∈ wsX7_refuse := by decide +kernel
  have k_f93 := hts (.fieldLink RX7 93 "TongueTeller" "latestTrouble" "I") (by decide +kernel)
  refine lv_aload_n hx hb dX7_refuse_0 rfl (lv_at hl 0 rfl) ?_
  refine lv_iload_n hx hb dX7_refuse_1 rfl (lv_at hl 1 rfl) ?_
  refine va_put (D := (dC, dI)) (ci := 7) (v := .int p0) (ty := .int) (C := RX7) (T := TX7) (N := 18) hx hb hts hi_X7 tyX7 tyX7_ok nmX7 hown hK hP hD hS 0 rfl rfl 17 (by decide) k_f93 (fun _ h9 => h9) rfl (by decide +kernel) rfl rfl (Nat.le_of_ble_eq_true rfl) dX7_refuse_2 (fun H locs hP hD hS => ?_)
  replace hP : va_P (dC, dI) vwCl [(h0, .inr (7, [.ref a0, .int v1, .ref a2, .ref a3, .int v4, .int v5, .ref a6, .ref a7, .ref a8, .int v9, .int v10, .ref a11, .ref a12, .int v13, .ref a14, .ref a15, .ref a16, .int p0]))] H := hP
  replace hD : va_D A [(h0, .inr (7, [.ref a0, .int v1, .ref a2, .ref a3, .int v4, .int v5, .ref a6, .ref a7, .ref a8, .int v9, .int v10, .ref a11, .ref a12, .int v13, .ref a14, .ref a15, .ref a16, .int p0]))] := hD
  refine lv_iconst (v := (-1)) hx hb dX7_refuse_5 (by decide) ?_
  have hP9 := hP.sub (ws' := [(h0, .inr (7, [.ref a0, .int v1, .ref a2, .ref a3, .int v4, .int v5, .ref a6, .ref a7, .ref a8, .int v9, .int v10, .ref a11, .ref a12, .int v13, .ref a14, .ref a15, .ref a16, .int p0]))]) [0] rfl
  have hD9 := hD.sub (ws' := [(h0, .inr (7, [.ref a0, .int v1, .ref a2, .ref a3, .int v4, .int v5, .ref a6, .ref a7, .ref a8, .int v9, .int v10, .ref a11, .ref a12, .int v13, .ref a14, .ref a15, .ref a16, .int p0]))]) [0] (by decide) rfl
  exact W.iret (v := (-1)) hx hb hr (fun t ht hW => ⟨⟨(-1), (), rfl, rfl, by rw [ht]; exact hP9, hD9⟩, hS.F ht⟩) hS.2.2 dX7_refuse_6

set_option maxHeartbeats 4000000 in
set_option maxRecDepth 100000 in
theorem c_X7_grant (l : Launch) (dC : Nat → ClassId) (dI : Nat → Nat → Nat) (h0 : Nat) (a0 : Nat) (v1 : Int32) (a2 : Nat) (a3 : Nat) (v4 : Int32) (v5 : Int32) (a6 : Nat) (a7 : Nat) (a8 : Nat) (v9 : Int32) (v10 : Int32) (a11 : Nat) (a12 : Nat) (v13 : Int32) (a14 : Nat) (a15 : Nat) (a16 : Nat) (v17 : Int32) (p0 : Int32) (sz : Nat) : Met l yX7_grant wsX7_grant ({ frames := 0, cells := 0, slots := 0, locals := 0 }) (va_Pc [.ref h0, .int p0] (fun U => U.heap.size = sz ∧ va_P (dC, dI) vwCl [(h0, .inr (7, [.ref a0, .int v1, .ref a2, .ref a3, .int v4, .int v5, .ref a6, .ref a7, .ref a8, .int v9, .int v10, .ref a11, .ref a12, .int v13, .ref a14, .ref a15, .ref a16, .int v17]))] U.heap ∧ va_K (dC, dI) vwCl [] U ∧ va_D (fun _ => True) [(h0, .inr (7, [.ref a0, .int v1, .ref a2, .ref a3, .int v4, .int v5, .ref a6, .ref a7, .ref a8, .int v9, .int v10, .ref a11, .ref a12, .int v13, .ref a14, .ref a15, .ref a16, .int v17]))])) (va_Qi (fun (r : Int32) (_ : Unit) => r = p0) (fun (_ : Unit) (t : State) => va_P (dC, dI) vwCl [(h0, .inr (7, [.ref a0, .int v1, .ref a2, .ref a3, .int v4, .int v5, .ref a6, .ref a7, .ref a8, .int v9, .int v10, .ref a11, .ref a12, .int v13, .ref a14, .ref a15, .ref a16, .int 0]))] t.heap ∧ va_D (va_A [(h0, .inr (7, [.ref a0, .int v1, .ref a2, .ref a3, .int v4, .int v5, .ref a6, .ref a7, .ref a8, .int v9, .int v10, .ref a11, .ref a12, .int v13, .ref a14, .ref a15, .ref a16, .int v17]))] sz) [(h0, .inr (7, [.ref a0, .int v1, .ref a2, .ref a3, .int v4, .int v5, .ref a6, .ref a7, .ref a8, .int v9, .int v10, .ref a11, .ref a12, .int v13, .ref a14, .ref a15, .ref a16, .int 0]))]) (va_A [(h0, .inr (7, [.ref a0, .int v1, .ref a2, .ref a3, .int v4, .int v5, .ref a6, .ref a7, .ref a8, .int v9, .int v10, .ref a11, .ref a12, .int v13, .ref a14, .ref a15, .ref a16, .int v17]))] sz)) 0 0 (va_A [(h0, .inr (7, [.ref a0, .int v1, .ref a2, .ref a3, .int v4, .int v5, .ref a6, .ref a7, .ref a8, .int v9, .int v10, .ref a11, .ref a12, .int v13, .ref a14, .ref a15, .ref a16, .int v17]))] sz) := by
  refine Met.ofW (cc := cX7_grant) (maxL := 2) (ret := (some .int)) (by decide) rfl ?_
  intro p e s m args below meth c s₁ B hml hv
  obtain ⟨rfl, hsz, hP, hK, hD0⟩ := hv
  have hx := B.exec
  have hb := B.bytes
  have hr := B.returns
  have hts := atoms_spec (ws := wsX7_grant) B.pre
  have hown : s.vm.findClass RX7 = some m.cls := findClass_of_methodNamed B.named
  have hlocks := B.notSynchronized
  subst hsz
  have hD := hD0.self (sz := s.heap.size)
  generalize hAe : va_A [(h0, .inr (7, [.ref a0, .int v1, .ref a2, .ref a3, .int v4, .int v5, .ref a6, .ref a7, .ref a8, .int v9, .int v10, .ref a11, .ref a12, .int v13, .ref a14, .ref a15, .ref a16, .int v17]))] s.heap.size = A at hD ⊢
  have hA : ∀ q : Nat, s.heap.size ≤ q → A q := fun q h => by rw [← hAe]; exact Or.inr h
  have hS : va_S A s.heap s.heap [] := va_S.rf
  replace hP : va_P (dC, dI) vwCl [(h0, .inr (7, [.ref a0, .int v1, .ref a2, .ref a3, .int v4, .int v5, .ref a6, .ref a7, .ref a8, .int v9, .int v10, .ref a11, .ref a12, .int v13, .ref a14, .ref a15, .ref a16, .int v17]))] s.heap := hP
  have hl := lv_entry ([.ref h0, .int p0]) (n := 2) (Nat.le_of_ble_eq_true rfl)
  rw [lg_entry_eq]
  generalize (lg_sl ([.ref h0, .int p0]) ++ List.replicate (2 - (lg_sl ([.ref h0, .int p0])).length) Slot.unset).toArray = ls at hl ⊢
  replace hl : lv_has ls 2 [(0, .ref h0), (1, .int p0)] := hl
  have hi_X7 : ∀ w ∈ wsX70, w ∈ wsX7_grant := by decide +kernel
  have k_f93 := hts (.fieldLink RX7 93 "TongueTeller" "latestTrouble" "I") (by decide +kernel)
  refine lv_aload_n hx hb dX7_grant_0 rfl (lv_at hl 0 rfl) ?_
  refine lv_iconst (v := 0) hx hb dX7_grant_1 (by decide) ?_
  refine va_put (D := (dC, dI)) (ci := 7) (v := .int 0) (ty := .int) (C := RX7) (T := TX7) (N := 18) hx hb hts hi_X7 tyX7 tyX7_ok nmX7 hown hK hP hD hS 0 rfl rfl 17 (by decide) k_f93 (fun _ h9 => h9) rfl (by decide +kernel) rfl rfl (Nat.le_of_ble_eq_true rfl) dX7_grant_2 (fun H locs hP hD hS => ?_)
  replace hP : va_P (dC, dI) vwCl [(h0, .inr (7, [.ref a0, .int v1, .ref a2, .ref a3, .int v4, .int v5, .ref a6, .ref a7, .ref a8, .int v9, .int v10, .ref a11, .ref a12, .int v13, .ref a14, .ref a15, .ref a16, .int 0]))] H := hP
  replace hD : va_D A [(h0, .inr (7, [.ref a0, .int v1, .ref a2, .ref a3, .int v4, .int v5, .ref a6, .ref a7, .ref a8, .int v9, .int v10, .ref a11, .ref a12, .int v13, .ref a14, .ref a15, .ref a16, .int 0]))] := hD
  refine lv_iload_n hx hb dX7_grant_5 rfl (lv_at hl 1 rfl) ?_
  have hP9 := hP.sub (ws' := [(h0, .inr (7, [.ref a0, .int v1, .ref a2, .ref a3, .int v4, .int v5, .ref a6, .ref a7, .ref a8, .int v9, .int v10, .ref a11, .ref a12, .int v13, .ref a14, .ref a15, .ref a16, .int 0]))]) [0] rfl
  have hD9 := hD.sub (ws' := [(h0, .inr (7, [.ref a0, .int v1, .ref a2, .ref a3, .int v4, .int v5, .ref a6, .ref a7, .ref a8, .int v9, .int v10, .ref a11, .ref a12, .int v13, .ref a14, .ref a15, .ref a16, .int 0]))]) [0] (by decide) rfl
  exact W.iret (v := p0) hx hb hr (fun t ht hW => ⟨⟨p0, (), rfl, rfl, by rw [ht]; exact hP9, hD9⟩, hS.F ht⟩) hS.2.2 dX7_grant_6

set_option maxHeartbeats 4000000 in
set_option maxRecDepth 100000 in
theorem c_X7_signOf (l : Launch) (dC : Nat → ClassId) (dI : Nat → Nat → Nat) (p0 : Int32) : Met l yX7_signOf wsX7_signOf ({ frames := 0, cells := 0, slots := 0, locals := 0 }) (va_Pc [.int p0] (fun _ => True)) (vp_Si (fun r => True)) 0 0 (fun _ => False) := by
  refine Met.ofW (cc := cX7_signOf) (maxL := 1) (ret := (some .int)) (by decide) rfl ?_
  intro p e s m args below meth c s₁ B hml hv
  obtain ⟨rfl, -⟩ := hv
  have hx := B.exec
  have hb := B.bytes
  have hr := B.returns
  have hts := atoms_spec (ws := wsX7_signOf) B.pre
  have hown : s.vm.findClass RX7 = some m.cls := findClass_of_methodNamed B.named
  have hlocks := B.notSynchronized
  have hl := lv_entry ([.int p0]) (n := 1) (Nat.le_of_ble_eq_true rfl)
  rw [lg_entry_eq]
  generalize (lg_sl ([.int p0]) ++ List.replicate (1 - (lg_sl ([.int p0])).length) Slot.unset).toArray = ls at hl ⊢
  replace hl : lv_has ls 1 [(0, .int p0)] := hl
  refine lv_iload_n hx hb dX7_signOf_0 rfl (lv_at hl 0 rfl) ?_
  refine lv_bipush (v := 97) hx hb dX7_signOf_1 (by decide) ?_
  refine lv_icmp_lt (tgt := 17) hx hb dX7_signOf_3 (by decide) (fun c_3 => ?_) (fun c_3 => ?_)
  · refine lv_iload_n hx hb dX7_signOf_17 rfl (lv_at hl 0 rfl) ?_
    refine lv_bipush (v := 65) hx hb dX7_signOf_18 (by decide) ?_
    refine lv_icmp_lt (tgt := 34) hx hb dX7_signOf_20 (by decide) (fun c_20 => ?_) (fun c_20 => ?_)
    · refine lv_iload_n hx hb dX7_signOf_34 rfl (lv_at hl 0 rfl) ?_
      refine lv_bipush (v := 48) hx hb dX7_signOf_35 (by decide) ?_
      refine lv_icmp_lt (tgt := 49) hx hb dX7_signOf_37 (by decide) (fun c_37 => ?_) (fun c_37 => ?_)
      · refine lv_iload_n hx hb dX7_signOf_49 rfl (lv_at hl 0 rfl) ?_
        refine lv_bipush (v := 39) hx hb dX7_signOf_50 (by decide) ?_
        refine lv_icmp_ne (tgt := 60) hx hb dX7_signOf_52 (by decide) (fun c_52 => ?_) (fun c_52 => ?_)
        · refine lv_bipush (v := 29) hx hb dX7_signOf_60 (by decide) ?_
          exact W.iret (v := 29) hx hb hr (fun t ht hW => ⟨29, rfl, trivial, ht⟩) (fun _ h => absurd h List.not_mem_nil) dX7_signOf_62
        · refine lv_bipush (v := 26) hx hb dX7_signOf_55 (by decide) ?_
          refine lv_goto (tgt := 62) hx hb dX7_signOf_57 (by decide) ?_
          exact W.iret (v := 26) hx hb hr (fun t ht hW => ⟨26, rfl, trivial, ht⟩) (fun _ h => absurd h List.not_mem_nil) dX7_signOf_62
      · refine lv_iload_n hx hb dX7_signOf_40 rfl (lv_at hl 0 rfl) ?_
        refine lv_bipush (v := 57) hx hb dX7_signOf_41 (by decide) ?_
        refine lv_icmp_gt (tgt := 49) hx hb dX7_signOf_43 (by decide) (fun c_43 => ?_) (fun c_43 => ?_)
        · refine lv_iload_n hx hb dX7_signOf_49 rfl (lv_at hl 0 rfl) ?_
          refine lv_bipush (v := 39) hx hb dX7_signOf_50 (by decide) ?_
          refine lv_icmp_ne (tgt := 60) hx hb dX7_signOf_52 (by decide) (fun c_52 => ?_) (fun c_52 => ?_)
          · refine lv_bipush (v := 29) hx hb dX7_signOf_60 (by decide) ?_
            exact W.iret (v := 29) hx hb hr (fun t ht hW => ⟨29, rfl, trivial, ht⟩) (fun _ h => absurd h List.not_mem_nil) dX7_signOf_62
          · refine lv_bipush (v := 26) hx hb dX7_signOf_55 (by decide) ?_
            refine lv_goto (tgt := 62) hx hb dX7_signOf_57 (by decide) ?_
            exact W.iret (v := 26) hx hb hr (fun t ht hW => ⟨26, rfl, trivial, ht⟩) (fun _ h => absurd h List.not_mem_nil) dX7_signOf_62
        · refine lv_bipush (v := 28) hx hb dX7_signOf_46 (by decide) ?_
          exact W.iret (v := 28) hx hb hr (fun t ht hW => ⟨28, rfl, trivial, ht⟩) (fun _ h => absurd h List.not_mem_nil) dX7_signOf_48
    · refine lv_iload_n hx hb dX7_signOf_23 rfl (lv_at hl 0 rfl) ?_
      refine lv_bipush (v := 90) hx hb dX7_signOf_24 (by decide) ?_
      refine lv_icmp_gt (tgt := 34) hx hb dX7_signOf_26 (by decide) (fun c_26 => ?_) (fun c_26 => ?_)
      · refine lv_iload_n hx hb dX7_signOf_34 rfl (lv_at hl 0 rfl) ?_
        refine lv_bipush (v := 48) hx hb dX7_signOf_35 (by decide) ?_
        refine lv_icmp_lt (tgt := 49) hx hb dX7_signOf_37 (by decide) (fun c_37 => ?_) (fun c_37 => ?_)
        · refine lv_iload_n hx hb dX7_signOf_49 rfl (lv_at hl 0 rfl) ?_
          refine lv_bipush (v := 39) hx hb dX7_signOf_50 (by decide) ?_
          refine lv_icmp_ne (tgt := 60) hx hb dX7_signOf_52 (by decide) (fun c_52 => ?_) (fun c_52 => ?_)
          · refine lv_bipush (v := 29) hx hb dX7_signOf_60 (by decide) ?_
            exact W.iret (v := 29) hx hb hr (fun t ht hW => ⟨29, rfl, trivial, ht⟩) (fun _ h => absurd h List.not_mem_nil) dX7_signOf_62
          · refine lv_bipush (v := 26) hx hb dX7_signOf_55 (by decide) ?_
            refine lv_goto (tgt := 62) hx hb dX7_signOf_57 (by decide) ?_
            exact W.iret (v := 26) hx hb hr (fun t ht hW => ⟨26, rfl, trivial, ht⟩) (fun _ h => absurd h List.not_mem_nil) dX7_signOf_62
        · refine lv_iload_n hx hb dX7_signOf_40 rfl (lv_at hl 0 rfl) ?_
          refine lv_bipush (v := 57) hx hb dX7_signOf_41 (by decide) ?_
          refine lv_icmp_gt (tgt := 49) hx hb dX7_signOf_43 (by decide) (fun c_43 => ?_) (fun c_43 => ?_)
          · refine lv_iload_n hx hb dX7_signOf_49 rfl (lv_at hl 0 rfl) ?_
            refine lv_bipush (v := 39) hx hb dX7_signOf_50 (by decide) ?_
            refine lv_icmp_ne (tgt := 60) hx hb dX7_signOf_52 (by decide) (fun c_52 => ?_) (fun c_52 => ?_)
            · refine lv_bipush (v := 29) hx hb dX7_signOf_60 (by decide) ?_
              exact W.iret (v := 29) hx hb hr (fun t ht hW => ⟨29, rfl, trivial, ht⟩) (fun _ h => absurd h List.not_mem_nil) dX7_signOf_62
            · refine lv_bipush (v := 26) hx hb dX7_signOf_55 (by decide) ?_
              refine lv_goto (tgt := 62) hx hb dX7_signOf_57 (by decide) ?_
              exact W.iret (v := 26) hx hb hr (fun t ht hW => ⟨26, rfl, trivial, ht⟩) (fun _ h => absurd h List.not_mem_nil) dX7_signOf_62
          · refine lv_bipush (v := 28) hx hb dX7_signOf_46 (by decide) ?_
            exact W.iret (v := 28) hx hb hr (fun t ht hW => ⟨28, rfl, trivial, ht⟩) (fun _ h => absurd h List.not_mem_nil) dX7_signOf_48
      · refine lv_iload_n hx hb dX7_signOf_29 rfl (lv_at hl 0 rfl) ?_
        refine lv_bipush (v := 65) hx hb dX7_signOf_30 (by decide) ?_
        refine lv_isub hx hb dX7_signOf_32 ?_
        exact W.iret (v := p0 - 65) hx hb hr (fun t ht hW => ⟨p0 - 65, rfl, trivial, ht⟩) (fun _ h => absurd h List.not_mem_nil) dX7_signOf_33
  · refine lv_iload_n hx hb dX7_signOf_6 rfl (lv_at hl 0 rfl) ?_
    refine lv_bipush (v := 122) hx hb dX7_signOf_7 (by decide) ?_
    refine lv_icmp_gt (tgt := 17) hx hb dX7_signOf_9 (by decide) (fun c_9 => ?_) (fun c_9 => ?_)
    · refine lv_iload_n hx hb dX7_signOf_17 rfl (lv_at hl 0 rfl) ?_
      refine lv_bipush (v := 65) hx hb dX7_signOf_18 (by decide) ?_
      refine lv_icmp_lt (tgt := 34) hx hb dX7_signOf_20 (by decide) (fun c_20 => ?_) (fun c_20 => ?_)
      · refine lv_iload_n hx hb dX7_signOf_34 rfl (lv_at hl 0 rfl) ?_
        refine lv_bipush (v := 48) hx hb dX7_signOf_35 (by decide) ?_
        refine lv_icmp_lt (tgt := 49) hx hb dX7_signOf_37 (by decide) (fun c_37 => ?_) (fun c_37 => ?_)
        · refine lv_iload_n hx hb dX7_signOf_49 rfl (lv_at hl 0 rfl) ?_
          refine lv_bipush (v := 39) hx hb dX7_signOf_50 (by decide) ?_
          refine lv_icmp_ne (tgt := 60) hx hb dX7_signOf_52 (by decide) (fun c_52 => ?_) (fun c_52 => ?_)
          · refine lv_bipush (v := 29) hx hb dX7_signOf_60 (by decide) ?_
            exact W.iret (v := 29) hx hb hr (fun t ht hW => ⟨29, rfl, trivial, ht⟩) (fun _ h => absurd h List.not_mem_nil) dX7_signOf_62
          · refine lv_bipush (v := 26) hx hb dX7_signOf_55 (by decide) ?_
            refine lv_goto (tgt := 62) hx hb dX7_signOf_57 (by decide) ?_
            exact W.iret (v := 26) hx hb hr (fun t ht hW => ⟨26, rfl, trivial, ht⟩) (fun _ h => absurd h List.not_mem_nil) dX7_signOf_62
        · refine lv_iload_n hx hb dX7_signOf_40 rfl (lv_at hl 0 rfl) ?_
          refine lv_bipush (v := 57) hx hb dX7_signOf_41 (by decide) ?_
          refine lv_icmp_gt (tgt := 49) hx hb dX7_signOf_43 (by decide) (fun c_43 => ?_) (fun c_43 => ?_)
          · refine lv_iload_n hx hb dX7_signOf_49 rfl (lv_at hl 0 rfl) ?_
            refine lv_bipush (v := 39) hx hb dX7_signOf_50 (by decide) ?_
            refine lv_icmp_ne (tgt := 60) hx hb dX7_signOf_52 (by decide) (fun c_52 => ?_) (fun c_52 => ?_)
            · refine lv_bipush (v := 29) hx hb dX7_signOf_60 (by decide) ?_
              exact W.iret (v := 29) hx hb hr (fun t ht hW => ⟨29, rfl, trivial, ht⟩) (fun _ h => absurd h List.not_mem_nil) dX7_signOf_62
            · refine lv_bipush (v := 26) hx hb dX7_signOf_55 (by decide) ?_
              refine lv_goto (tgt := 62) hx hb dX7_signOf_57 (by decide) ?_
              exact W.iret (v := 26) hx hb hr (fun t ht hW => ⟨26, rfl, trivial, ht⟩) (fun _ h => absurd h List.not_mem_nil) dX7_signOf_62
          · refine lv_bipush (v := 28) hx hb dX7_signOf_46 (by decide) ?_
            exact W.iret (v := 28) hx hb hr (fun t ht hW => ⟨28, rfl, trivial, ht⟩) (fun _ h => absurd h List.not_mem_nil) dX7_signOf_48
      · refine lv_iload_n hx hb dX7_signOf_23 rfl (lv_at hl 0 rfl) ?_
        refine lv_bipush (v := 90) hx hb dX7_signOf_24 (by decide) ?_
        refine lv_icmp_gt (tgt := 34) hx hb dX7_signOf_26 (by decide) (fun c_26 => ?_) (fun c_26 => ?_)
        · refine lv_iload_n hx hb dX7_signOf_34 rfl (lv_at hl 0 rfl) ?_
          refine lv_bipush (v := 48) hx hb dX7_signOf_35 (by decide) ?_
          refine lv_icmp_lt (tgt := 49) hx hb dX7_signOf_37 (by decide) (fun c_37 => ?_) (fun c_37 => ?_)
          · refine lv_iload_n hx hb dX7_signOf_49 rfl (lv_at hl 0 rfl) ?_
            refine lv_bipush (v := 39) hx hb dX7_signOf_50 (by decide) ?_
            refine lv_icmp_ne (tgt := 60) hx hb dX7_signOf_52 (by decide) (fun c_52 => ?_) (fun c_52 => ?_)
            · refine lv_bipush (v := 29) hx hb dX7_signOf_60 (by decide) ?_
              exact W.iret (v := 29) hx hb hr (fun t ht hW => ⟨29, rfl, trivial, ht⟩) (fun _ h => absurd h List.not_mem_nil) dX7_signOf_62
            · refine lv_bipush (v := 26) hx hb dX7_signOf_55 (by decide) ?_
              refine lv_goto (tgt := 62) hx hb dX7_signOf_57 (by decide) ?_
              exact W.iret (v := 26) hx hb hr (fun t ht hW => ⟨26, rfl, trivial, ht⟩) (fun _ h => absurd h List.not_mem_nil) dX7_signOf_62
          · refine lv_iload_n hx hb dX7_signOf_40 rfl (lv_at hl 0 rfl) ?_
            refine lv_bipush (v := 57) hx hb dX7_signOf_41 (by decide) ?_
            refine lv_icmp_gt (tgt := 49) hx hb dX7_signOf_43 (by decide) (fun c_43 => ?_) (fun c_43 => ?_)
            · refine lv_iload_n hx hb dX7_signOf_49 rfl (lv_at hl 0 rfl) ?_
              refine lv_bipush (v := 39) hx hb dX7_signOf_50 (by decide) ?_
              refine lv_icmp_ne (tgt := 60) hx hb dX7_signOf_52 (by decide) (fun c_52 => ?_) (fun c_52 => ?_)
              · refine lv_bipush (v := 29) hx hb dX7_signOf_60 (by decide) ?_
                exact W.iret (v := 29) hx hb hr (fun t ht hW => ⟨29, rfl, trivial, ht⟩) (fun _ h => absurd h List.not_mem_nil) dX7_signOf_62
              · refine lv_bipush (v := 26) hx hb dX7_signOf_55 (by decide) ?_
                refine lv_goto (tgt := 62) hx hb dX7_signOf_57 (by decide) ?_
                exact W.iret (v := 26) hx hb hr (fun t ht hW => ⟨26, rfl, trivial, ht⟩) (fun _ h => absurd h List.not_mem_nil) dX7_signOf_62
            · refine lv_bipush (v := 28) hx hb dX7_signOf_46 (by decide) ?_
              exact W.iret (v := 28) hx hb hr (fun t ht hW => ⟨28, rfl, trivial, ht⟩) (fun _ h => absurd h List.not_mem_nil) dX7_signOf_48
        · refine lv_iload_n hx hb dX7_signOf_29 rfl (lv_at hl 0 rfl) ?_
          refine lv_bipush (v := 65) hx hb dX7_signOf_30 (by decide) ?_
          refine lv_isub hx hb dX7_signOf_32 ?_
          exact W.iret (v := p0 - 65) hx hb hr (fun t ht hW => ⟨p0 - 65, rfl, trivial, ht⟩) (fun _ h => absurd h List.not_mem_nil) dX7_signOf_33
    · refine lv_iload_n hx hb dX7_signOf_12 rfl (lv_at hl 0 rfl) ?_
      refine lv_bipush (v := 97) hx hb dX7_signOf_13 (by decide) ?_
      refine lv_isub hx hb dX7_signOf_15 ?_
      exact W.iret (v := p0 - 97) hx hb hr (fun t ht hW => ⟨p0 - 97, rfl, trivial, ht⟩) (fun _ h => absurd h List.not_mem_nil) dX7_signOf_16

set_option maxHeartbeats 4000000 in
set_option maxRecDepth 100000 in
theorem c_X7_isOnTape (l : Launch) (dC : Nat → ClassId) (dI : Nat → Nat → Nat) (h0 : Nat) (a0 : Nat) (a2 : Nat) (a3 : Nat) (v4 : Int32) (v5 : Int32) (a6 : Nat) (a7 : Nat) (a8 : Nat) (v9 : Int32) (v10 : Int32) (a11 : Nat) (a12 : Nat) (v13 : Int32) (a14 : Nat) (a15 : Nat) (a16 : Nat) (v17 : Int32) (p0 : Int32) : Met l yX7_isOnTape wsX7_isOnTape ({ frames := 0, cells := 0, slots := 0, locals := 0 }) (va_Pc [.ref h0, .int p0] (fun U => va_P (dC, dI) vwCl [(h0, .inr (7, [.ref a0, .int 0, .ref a2, .ref a3, .int v4, .int v5, .ref a6, .ref a7, .ref a8, .int v9, .int v10, .ref a11, .ref a12, .int v13, .ref a14, .ref a15, .ref a16, .int v17]))] U.heap ∧ va_K (dC, dI) vwCl [] U)) (vp_Si (fun r => (r = 1 ∧ p0 = 0) ∨ (r = 0 ∧ ¬ p0 = 0))) 0 0 (fun _ => False) := by
  refine Met.ofW (cc := cX7_isOnTape) (maxL := 2) (ret := (some .boolean)) (by decide) rfl ?_
  intro p e s m args below meth c s₁ B hml hv
  obtain ⟨rfl, hP, hK⟩ := hv
  have hx := B.exec
  have hb := B.bytes
  have hr := B.returns
  have hts := atoms_spec (ws := wsX7_isOnTape) B.pre
  have hown : s.vm.findClass RX7 = some m.cls := findClass_of_methodNamed B.named
  have hlocks := B.notSynchronized
  replace hP : va_P (dC, dI) vwCl [(h0, .inr (7, [.ref a0, .int 0, .ref a2, .ref a3, .int v4, .int v5, .ref a6, .ref a7, .ref a8, .int v9, .int v10, .ref a11, .ref a12, .int v13, .ref a14, .ref a15, .ref a16, .int v17]))] s.heap := hP
  have hl := lv_entry ([.ref h0, .int p0]) (n := 2) (Nat.le_of_ble_eq_true rfl)
  rw [lg_entry_eq]
  generalize (lg_sl ([.ref h0, .int p0]) ++ List.replicate (2 - (lg_sl ([.ref h0, .int p0])).length) Slot.unset).toArray = ls at hl ⊢
  replace hl : lv_has ls 2 [(0, .ref h0), (1, .int p0)] := hl
  have hi_X7 : ∀ w ∈ wsX70, w ∈ wsX7_isOnTape := by decide +kernel
  have k_f13 := hts (.fieldLink RX7 13 "TongueTeller" "tapeSize" "I") (by decide +kernel)
  refine lv_iload_n hx hb dX7_isOnTape_0 rfl (lv_at hl 1 rfl) ?_
  refine lv_if_lt (tgt := 16) hx hb dX7_isOnTape_1 (by decide) (fun c_1 => ?_) (fun c_1 => ?_)
  · refine lv_iconst (v := 0) hx hb dX7_isOnTape_16 (by decide) ?_
    exact W.zret (v := 0) hx hb hr (rfl) (fun t ht hW => ⟨0, rfl, Or.inr ⟨rfl, fun h => by rw [h] at c_1; exact absurd c_1 (by decide)⟩, ht⟩) (fun _ h => absurd h List.not_mem_nil) dX7_isOnTape_17
  · refine lv_iload_n hx hb dX7_isOnTape_4 rfl (lv_at hl 1 rfl) ?_
    refine lv_aload_n hx hb dX7_isOnTape_5 rfl (lv_at hl 0 rfl) ?_
    refine va_get (D := (dC, dI)) (ci := 7) (v := .int 0) (C := RX7) (T := TX7) (N := 18) hx hb hts hi_X7 hown hK hP 0 rfl rfl 1 (by decide) k_f13 (fun _ h9 => h9) rfl dX7_isOnTape_6 ?_
    refine lv_icmp_gt (tgt := 16) hx hb dX7_isOnTape_9 (by decide) (fun c_9 => ?_) (fun c_9 => ?_)
    · refine lv_iconst (v := 0) hx hb dX7_isOnTape_16 (by decide) ?_
      exact W.zret (v := 0) hx hb hr (rfl) (fun t ht hW => ⟨0, rfl, Or.inr ⟨rfl, fun h => by rw [h] at c_9; exact absurd c_9 (by decide)⟩, ht⟩) (fun _ h => absurd h List.not_mem_nil) dX7_isOnTape_17
    · refine lv_iconst (v := 1) hx hb dX7_isOnTape_12 (by decide) ?_
      refine lv_goto (tgt := 17) hx hb dX7_isOnTape_13 (by decide) ?_
      exact W.zret (v := 1) hx hb hr (rfl) (fun t ht hW => ⟨1, rfl, Or.inl ⟨rfl, Int32.le_antisymm (Int32.not_lt.mp c_9) (Int32.not_lt.mp c_1)⟩, ht⟩) (fun _ h => absurd h List.not_mem_nil) dX7_isOnTape_17

set_option maxHeartbeats 4000000 in
set_option maxRecDepth 100000 in
theorem c_X4_has (l : Launch) (dC : Nat → ClassId) (dI : Nat → Nat → Nat) (h0 : Nat) (b0 : Nat) (p0 : Int32) : Met l yX4_has wsX4_has ({ frames := 0, cells := 0, slots := 0, locals := 0 }) (va_Pc [.ref h0, .int p0] (fun U => va_P (dC, dI) vwCl [(h0, .inr (4, [.ref b0, .int 0]))] U.heap ∧ va_K (dC, dI) vwCl [] U)) (vp_Si (fun r => r = 0)) 0 0 (fun _ => False) := by
  refine Met.ofW (cc := cX4_has) (maxL := 2) (ret := (some .boolean)) (by decide) rfl ?_
  intro p e s m args below meth c s₁ B hml hv
  obtain ⟨rfl, hP, hK⟩ := hv
  have hx := B.exec
  have hb := B.bytes
  have hr := B.returns
  have hts := atoms_spec (ws := wsX4_has) B.pre
  have hown : s.vm.findClass RX4 = some m.cls := findClass_of_methodNamed B.named
  have hlocks := B.notSynchronized
  replace hP : va_P (dC, dI) vwCl [(h0, .inr (4, [.ref b0, .int 0]))] s.heap := hP
  have hl := lv_entry ([.ref h0, .int p0]) (n := 2) (Nat.le_of_ble_eq_true rfl)
  rw [lg_entry_eq]
  generalize (lg_sl ([.ref h0, .int p0]) ++ List.replicate (2 - (lg_sl ([.ref h0, .int p0])).length) Slot.unset).toArray = ls at hl ⊢
  replace hl : lv_has ls 2 [(0, .ref h0), (1, .int p0)] := hl
  have hi_X4 : ∀ w ∈ wsX40, w ∈ wsX4_has := by decide +kernel
  have k_f15 := hts (.fieldLink RX4 15 "TongueTeller$Tongues" "size" "I") (by decide +kernel)
  refine lv_iload_n hx hb dX4_has_0 rfl (lv_at hl 1 rfl) ?_
  refine lv_if_lt (tgt := 16) hx hb dX4_has_1 (by decide) (fun c_1 => ?_) (fun c_1 => ?_)
  · refine lv_iconst (v := 0) hx hb dX4_has_16 (by decide) ?_
    exact W.zret (v := 0) hx hb hr (rfl) (fun t ht hW => ⟨0, rfl, rfl, ht⟩) (fun _ h => absurd h List.not_mem_nil) dX4_has_17
  · refine lv_iload_n hx hb dX4_has_4 rfl (lv_at hl 1 rfl) ?_
    refine lv_aload_n hx hb dX4_has_5 rfl (lv_at hl 0 rfl) ?_
    refine va_get (D := (dC, dI)) (ci := 4) (v := .int 0) (C := RX4) (T := TX4) (N := 2) hx hb hts hi_X4 hown hK hP 0 rfl rfl 1 (by decide) k_f15 (fun _ h9 => h9) rfl dX4_has_6 ?_
    refine lv_icmp_ge (tgt := 16) hx hb dX4_has_9 (by decide) (fun c_9 => ?_) (fun c_9 => ?_)
    rotate_left
    · exact absurd (Int32.not_lt.mp c_1) c_9
    refine lv_iconst (v := 0) hx hb dX4_has_16 (by decide) ?_
    exact W.zret (v := 0) hx hb hr (rfl) (fun t ht hW => ⟨0, rfl, rfl, ht⟩) (fun _ h => absurd h List.not_mem_nil) dX4_has_17

set_option maxHeartbeats 4000000 in
set_option maxRecDepth 100000 in
theorem c_X7_isWord (l : Launch) (dC : Nat → ClassId) (dI : Nat → Nat → Nat) (h0 : Nat) (a0 : Nat) (v1 : Int32) (a2 : Nat) (a3 : Nat) (v4 : Int32) (v5 : Int32) (a6 : Nat) (a7 : Nat) (a8 : Nat) (v9 : Int32) (v10 : Int32) (a11 : Nat) (a12 : Nat) (v13 : Int32) (a14 : Nat) (a15 : Nat) (a16 : Nat) (v17 : Int32) (t0 : Nat) (t1 : Nat) (t2 : Nat) (t3 : Int32) (p0 : Int32) : Met l yX7_isWord wsX7_isWord ({ frames := 0, cells := 0, slots := 0, locals := 0 }) (va_Pc [.ref h0, .int p0] (fun U => va_P (dC, dI) vwCl [(h0, .inr (7, [.ref a0, .int v1, .ref a2, .ref a3, .int v4, .int v5, .ref a6, .ref a7, .ref a8, .int v9, .int v10, .ref a11, .ref a12, .int v13, .ref a14, .ref a15, .ref a16, .int v17])), (a11, .inr (2, [.ref t0, .ref t1, .ref t2, .int t3, .int 0]))] U.heap ∧ va_K (dC, dI) vwCl [] U)) (vp_Si (fun r => r = 0)) 0 0 (fun _ => False) := by
  refine Met.ofW (cc := cX7_isWord) (maxL := 2) (ret := (some .boolean)) (by decide) rfl ?_
  intro p e s m args below meth c s₁ B hml hv
  obtain ⟨rfl, hP, hK⟩ := hv
  have hx := B.exec
  have hb := B.bytes
  have hr := B.returns
  have hts := atoms_spec (ws := wsX7_isWord) B.pre
  have hown : s.vm.findClass RX7 = some m.cls := findClass_of_methodNamed B.named
  have hlocks := B.notSynchronized
  replace hP : va_P (dC, dI) vwCl [(h0, .inr (7, [.ref a0, .int v1, .ref a2, .ref a3, .int v4, .int v5, .ref a6, .ref a7, .ref a8, .int v9, .int v10, .ref a11, .ref a12, .int v13, .ref a14, .ref a15, .ref a16, .int v17])), (a11, .inr (2, [.ref t0, .ref t1, .ref t2, .int t3, .int 0]))] s.heap := hP
  have hl := lv_entry ([.ref h0, .int p0]) (n := 2) (Nat.le_of_ble_eq_true rfl)
  rw [lg_entry_eq]
  generalize (lg_sl ([.ref h0, .int p0]) ++ List.replicate (2 - (lg_sl ([.ref h0, .int p0])).length) Slot.unset).toArray = ls at hl ⊢
  replace hl : lv_has ls 2 [(0, .ref h0), (1, .int p0)] := hl
  have hi_X7 : ∀ w ∈ wsX70, w ∈ wsX7_isWord := by decide +kernel
  have k_f61 := hts (.fieldLink RX7 61 "TongueTeller" "theText" "LTongueTeller$Script;") (by decide +kernel)
  have hi_X2 : ∀ w ∈ wsX20, w ∈ wsX7_isWord := by decide +kernel
  have k_f247 := hts (.fieldLink RX7 247 "TongueTeller$Script" "words" "I") (by decide +kernel)
  refine lv_iload_n hx hb dX7_isWord_0 rfl (lv_at hl 1 rfl) ?_
  refine lv_if_lt (tgt := 19) hx hb dX7_isWord_1 (by decide) (fun c_1 => ?_) (fun c_1 => ?_)
  · refine lv_iconst (v := 0) hx hb dX7_isWord_19 (by decide) ?_
    exact W.zret (v := 0) hx hb hr (rfl) (fun t ht hW => ⟨0, rfl, rfl, ht⟩) (fun _ h => absurd h List.not_mem_nil) dX7_isWord_20
  · refine lv_iload_n hx hb dX7_isWord_4 rfl (lv_at hl 1 rfl) ?_
    refine lv_aload_n hx hb dX7_isWord_5 rfl (lv_at hl 0 rfl) ?_
    refine va_get (D := (dC, dI)) (ci := 7) (v := .ref a11) (C := RX7) (T := TX7) (N := 18) hx hb hts hi_X7 hown hK hP 0 rfl rfl 11 (by decide) k_f61 (fun _ h9 => h9) rfl dX7_isWord_6 ?_
    refine va_get (D := (dC, dI)) (ci := 2) (v := .int 0) (C := RX2) (T := TX2) (N := 5) hx hb hts hi_X2 hown hK hP 1 rfl rfl 4 (by decide) k_f247 (fun _ h9 => h9) rfl dX7_isWord_9 ?_
    refine lv_icmp_ge (tgt := 19) hx hb dX7_isWord_12 (by decide) (fun c_12 => ?_) (fun c_12 => ?_)
    rotate_left
    · exact absurd (Int32.not_lt.mp c_1) c_12
    refine lv_iconst (v := 0) hx hb dX7_isWord_19 (by decide) ?_
    exact W.zret (v := 0) hx hb hr (rfl) (fun t ht hW => ⟨0, rfl, rfl, ht⟩) (fun _ h => absurd h List.not_mem_nil) dX7_isWord_20

set_option maxHeartbeats 4000000 in
set_option maxRecDepth 100000 in
theorem c_X7_canPart (l : Launch) (dC : Nat → ClassId) (dI : Nat → Nat → Nat) (h0 : Nat) (a0 : Nat) (v1 : Int32) (a2 : Nat) (a3 : Nat) (v4 : Int32) (v5 : Int32) (a6 : Nat) (a7 : Nat) (a8 : Nat) (v9 : Int32) (v10 : Int32) (a11 : Nat) (a12 : Nat) (a14 : Nat) (a15 : Nat) (a16 : Nat) (v17 : Int32) : Met l yX7_canPart wsX7_canPart ({ frames := 0, cells := 0, slots := 0, locals := 0 }) (va_Pc [.ref h0] (fun U => va_P (dC, dI) vwCl [(h0, .inr (7, [.ref a0, .int v1, .ref a2, .ref a3, .int v4, .int v5, .ref a6, .ref a7, .ref a8, .int v9, .int v10, .ref a11, .ref a12, .int 0, .ref a14, .ref a15, .ref a16, .int v17]))] U.heap ∧ va_K (dC, dI) vwCl [] U)) (vp_Si (fun r => r = 0)) 0 0 (fun _ => False) := by
  refine Met.ofW (cc := cX7_canPart) (maxL := 1) (ret := (some .boolean)) (by decide) rfl ?_
  intro p e s m args below meth c s₁ B hml hv
  obtain ⟨rfl, hP, hK⟩ := hv
  have hx := B.exec
  have hb := B.bytes
  have hr := B.returns
  have hts := atoms_spec (ws := wsX7_canPart) B.pre
  have hown : s.vm.findClass RX7 = some m.cls := findClass_of_methodNamed B.named
  have hlocks := B.notSynchronized
  replace hP : va_P (dC, dI) vwCl [(h0, .inr (7, [.ref a0, .int v1, .ref a2, .ref a3, .int v4, .int v5, .ref a6, .ref a7, .ref a8, .int v9, .int v10, .ref a11, .ref a12, .int 0, .ref a14, .ref a15, .ref a16, .int v17]))] s.heap := hP
  have hl := lv_entry ([.ref h0]) (n := 1) (Nat.le_of_ble_eq_true rfl)
  rw [lg_entry_eq]
  generalize (lg_sl ([.ref h0]) ++ List.replicate (1 - (lg_sl ([.ref h0])).length) Slot.unset).toArray = ls at hl ⊢
  replace hl : lv_has ls 1 [(0, .ref h0)] := hl
  have hi_X7 : ∀ w ∈ wsX70, w ∈ wsX7_canPart := by decide +kernel
  have k_f68 := hts (.fieldLink RX7 68 "TongueTeller" "hasText" "Z") (by decide +kernel)
  refine lv_aload_n hx hb dX7_canPart_0 rfl (lv_at hl 0 rfl) ?_
  refine va_get (D := (dC, dI)) (ci := 7) (v := .int 0) (C := RX7) (T := TX7) (N := 18) hx hb hts hi_X7 hown hK hP 0 rfl rfl 13 (by decide) k_f68 (fun _ h9 => h9) rfl dX7_canPart_1 ?_
  refine lv_if_eq (tgt := 21) hx hb dX7_canPart_4 (by decide) (fun c_4 => ?_) (fun c_4 => ?_)
  rotate_left
  · exact absurd (by decide) c_4
  refine lv_iconst (v := 0) hx hb dX7_canPart_21 (by decide) ?_
  exact W.zret (v := 0) hx hb hr (rfl) (fun t ht hW => ⟨0, rfl, rfl, ht⟩) (fun _ h => absurd h List.not_mem_nil) dX7_canPart_22

set_option maxHeartbeats 4000000 in
set_option maxRecDepth 100000 in
theorem c_X1_firstOfSpan (l : Launch) (dC : Nat → ClassId) (dI : Nat → Nat → Nat) (h0 : Nat) (b0 : Nat) (p0 : Int32) : Met l yX1_firstOfSpan wsX1_firstOfSpan ({ frames := 0, cells := 0, slots := 0, locals := 0 }) (va_Pc [.ref h0, .int p0] (fun U => va_P (dC, dI) vwCl [(h0, .inr (1, [.ref b0, .int 0, .int 0]))] U.heap ∧ va_K (dC, dI) vwCl [] U)) (vp_Si (fun r => r = (-1))) 0 0 (fun _ => False) := by
  refine Met.ofW (cc := cX1_firstOfSpan) (maxL := 4) (ret := (some .int)) (by decide) rfl ?_
  intro p e s m args below meth c s₁ B hml hv
  obtain ⟨rfl, hP, hK⟩ := hv
  have hx := B.exec
  have hb := B.bytes
  have hr := B.returns
  have hts := atoms_spec (ws := wsX1_firstOfSpan) B.pre
  have hown : s.vm.findClass RX1 = some m.cls := findClass_of_methodNamed B.named
  have hlocks := B.notSynchronized
  replace hP : va_P (dC, dI) vwCl [(h0, .inr (1, [.ref b0, .int 0, .int 0]))] s.heap := hP
  have hl := lv_entry ([.ref h0, .int p0]) (n := 4) (Nat.le_of_ble_eq_true rfl)
  rw [lg_entry_eq]
  generalize (lg_sl ([.ref h0, .int p0]) ++ List.replicate (4 - (lg_sl ([.ref h0, .int p0])).length) Slot.unset).toArray = ls at hl ⊢
  replace hl : lv_has ls 4 [(0, .ref h0), (1, .int p0)] := hl
  have hi_X1 : ∀ w ∈ wsX10, w ∈ wsX1_firstOfSpan := by decide +kernel
  have k_f15 := hts (.fieldLink RX1 15 "TongueTeller$Parting" "size" "I") (by decide +kernel)
  refine lv_iconst (v := 0) hx hb dX1_firstOfSpan_0 (by decide) ?_
  refine lv_istore_n (lv' := [(2, .int 0), (0, .ref h0), (1, .int p0)]) hx hb dX1_firstOfSpan_1 rfl hl (by decide) rfl (fun ls hl => ?_)
  refine lv_iconst (v := 0) hx hb dX1_firstOfSpan_2 (by decide) ?_
  refine lv_istore_n (lv' := [(3, .int 0), (2, .int 0), (0, .ref h0), (1, .int p0)]) hx hb dX1_firstOfSpan_3 rfl hl (by decide) rfl (fun ls hl => ?_)
  refine lv_iload_n hx hb dX1_firstOfSpan_4 rfl (lv_at hl 0 rfl) ?_
  refine lv_aload_n hx hb dX1_firstOfSpan_5 rfl (lv_at hl 2 rfl) ?_
  refine va_get (D := (dC, dI)) (ci := 1) (v := .int 0) (C := RX1) (T := TX1) (N := 3) hx hb hts hi_X1 hown hK hP 0 rfl rfl 1 (by decide) k_f15 (fun _ h9 => h9) rfl dX1_firstOfSpan_6 ?_
  refine lv_icmp_ge (tgt := 36) hx hb dX1_firstOfSpan_9 (by decide) (fun c_9 => ?_) (fun c_9 => ?_)
  rotate_left
  · exact absurd (by decide) c_9
  refine lv_iconst (v := (-1)) hx hb dX1_firstOfSpan_36 (by decide) ?_
  exact W.iret (v := (-1)) hx hb hr (fun t ht hW => ⟨(-1), rfl, rfl, ht⟩) (fun _ h => absurd h List.not_mem_nil) dX1_firstOfSpan_37

set_option maxHeartbeats 4000000 in
set_option maxRecDepth 100000 in
theorem c_X7_placeOf (l : Launch) (dC : Nat → ClassId) (dI : Nat → Nat → Nat) (h0 : Nat) (a0 : Nat) (v1 : Int32) (a2 : Nat) (a3 : Nat) (v4 : Int32) (v5 : Int32) (a6 : Nat) (a7 : Nat) (a8 : Nat) (v9 : Int32) (v10 : Int32) (a11 : Nat) (a12 : Nat) (v13 : Int32) (a14 : Nat) (a15 : Nat) (a16 : Nat) (v17 : Int32) (kh : ClassId) (p0 : Int32) : Met l yX7_placeOf wsX7_placeOf ({ frames := 0, cells := 0, slots := 0, locals := 0 }) (va_Pc [.ref h0, .int p0] (fun U => va_P (dC, dI) vwCl [(h0, .inr (7, [.ref a0, .int v1, .ref a2, .ref a3, .int v4, .int v5, .ref a6, .ref a7, .ref a8, .int v9, .int v10, .ref a11, .ref a12, .int v13, .ref a14, .ref a15, .ref a16, .int v17])), (a3, .inl (kh, 100, .inr (.inr (.inr (.inr (fun _ => none))))))] U.heap ∧ va_K (dC, dI) vwCl [(kh, .object "TongueTeller$Learnt")] U)) (vp_Si (fun r => r = (-1))) 0 0 (fun _ => False) := by
  refine Met.ofW (cc := cX7_placeOf) (maxL := 4) (ret := (some .int)) (by decide) rfl ?_
  intro p e s m args below meth c s₁ B hml hv
  obtain ⟨rfl, hP, hK⟩ := hv
  have hx := B.exec
  have hb := B.bytes
  have hr := B.returns
  have hts := atoms_spec (ws := wsX7_placeOf) B.pre
  have hown : s.vm.findClass RX7 = some m.cls := findClass_of_methodNamed B.named
  have hlocks := B.notSynchronized
  replace hP : va_P (dC, dI) vwCl [(h0, .inr (7, [.ref a0, .int v1, .ref a2, .ref a3, .int v4, .int v5, .ref a6, .ref a7, .ref a8, .int v9, .int v10, .ref a11, .ref a12, .int v13, .ref a14, .ref a15, .ref a16, .int v17])), (a3, .inl (kh, 100, .inr (.inr (.inr (.inr (fun _ => none))))))] s.heap := hP
  have hl := lv_entry ([.ref h0, .int p0]) (n := 4) (Nat.le_of_ble_eq_true rfl)
  rw [lg_entry_eq]
  generalize (lg_sl ([.ref h0, .int p0]) ++ List.replicate (4 - (lg_sl ([.ref h0, .int p0])).length) Slot.unset).toArray = ls at hl ⊢
  replace hl : lv_has ls 4 [(0, .ref h0), (1, .int p0)] := hl
  have hi_X7 : ∀ w ∈ wsX70, w ∈ wsX7_placeOf := by decide +kernel
  have k_f26 := hts (.fieldLink RX7 26 "TongueTeller" "held" "[LTongueTeller$Learnt;") (by decide +kernel)
  refine lv_iconst (v := 0) hx hb dX7_placeOf_0 (by decide) ?_
  refine lv_istore_n (lv' := [(2, .int 0), (0, .ref h0), (1, .int p0)]) hx hb dX7_placeOf_1 rfl hl (by decide) rfl (fun ls hl => ?_)
  obtain ⟨i, hi⟩ : ∃ i : Nat, i = 0 := ⟨0, rfl⟩
  replace hl : lv_has ls 4 [(0, .ref h0), (1, .int p0), (2, .int (nI i))] := by rw [hi, nI_0]; exact lv_sub hl [1, 2, 0] rfl
  have hi0 : i ≤ 100 := by omega
  obtain ⟨n, hn⟩ : ∃ n : Nat, 100 < i + n := ⟨101, by omega⟩
  clear hi
  induction n generalizing i ls with
  | zero => omega
  | succ n ih =>
    refine lv_iload_n hx hb dX7_placeOf_2 rfl (lv_at hl 2 rfl) ?_
    refine lv_aload_n hx hb dX7_placeOf_3 rfl (lv_at hl 0 rfl) ?_
    refine va_get (D := (dC, dI)) (ci := 7) (v := .ref a3) (C := RX7) (T := TX7) (N := 18) hx hb hts hi_X7 hown hK hP 0 rfl rfl 3 (by decide) k_f26 (fun _ h9 => h9) rfl dX7_placeOf_4 ?_
    refine va_alen (v := 100) hx hb hK hP 1 0 rfl rfl (by first | rfl | decide) dX7_placeOf_7 ?_
    refine lv_icmp_ge (tgt := 38) hx hb dX7_placeOf_8 (by decide) (fun c_8 => ?_) (fun c_8 => ?_)
    · refine lv_iconst (v := (-1)) hx hb dX7_placeOf_38 (by decide) ?_
      exact W.iret (v := (-1)) hx hb hr (fun t ht hW => ⟨(-1), rfl, rfl, ht⟩) (fun _ h => absurd h List.not_mem_nil) dX7_placeOf_39
    · refine lv_aload_n hx hb dX7_placeOf_11 rfl (lv_at hl 0 rfl) ?_
      refine va_get (D := (dC, dI)) (ci := 7) (v := .ref a3) (C := RX7) (T := TX7) (N := 18) hx hb hts hi_X7 hown hK hP 0 rfl rfl 3 (by decide) k_f26 (fun _ h9 => h9) rfl dX7_placeOf_12 ?_
      refine lv_iload_n hx hb dX7_placeOf_15 rfl (lv_at hl 2 rfl) ?_
      refine va_aldq hx hb hK hP 1 0 rfl rfl (i := nI i) (vp_in_nI (by rcases Nat.lt_or_ge i 100 with h | h; exact h; exact absurd (nI_le h (by omega)) c_8) (by omega)) dX7_placeOf_16 ?_
      refine lv_astore_nN (lv' := [(3, .null), (0, .ref h0), (1, .int p0), (2, .int (nI i))]) hx hb dX7_placeOf_17 rfl hl (by decide) rfl (fun ls hl => ?_)
      refine lv_aload_nN hx hb dX7_placeOf_18 rfl (lv_at hl 0 rfl) ?_
      refine lv_ifnullN (tgt := 32) hx hb dX7_placeOf_19 (by decide) ?_
      have hi1 : i < 100 := by rcases Nat.lt_or_ge i 100 with h | h; exact h; exact absurd (nI_le h (by omega)) c_8
      refine lv_iinc (v := (nI i) + 1) (lv' := [(2, .int ((nI i) + 1)), (3, .null), (0, .ref h0), (1, .int p0)]) hx hb dX7_placeOf_32 hl (k := 3) rfl rfl (by decide) rfl (fun ls hl => ?_)
      refine lv_goto (tgt := 2) hx hb dX7_placeOf_35 (by decide) ?_
      replace hl : lv_has ls 4 [(0, .ref h0), (1, .int p0), (2, .int (nI (i + 1)))] := by rw [← nI_1]; exact lv_sub hl [2, 3, 0] rfl
      apply ih (i := i + 1) <;> first | assumption | omega

set_option maxHeartbeats 4000000 in
set_option maxRecDepth 100000 in
theorem c_X2_empty (l : Launch) (dC : Nat → ClassId) (dI : Nat → Nat → Nat) (h0 : Nat) (d0 : Nat) (d1 : Nat) (d2 : Nat) (d3 : Int32) (d4 : Int32) (sz : Nat) : Met l yX2_empty wsX2_empty ({ frames := 0, cells := 0, slots := 0, locals := 0 }) (va_Pc [.ref h0] (fun U => U.heap.size = sz ∧ va_P (dC, dI) vwCl [(h0, .inr (2, [.ref d0, .ref d1, .ref d2, .int d3, .int d4]))] U.heap ∧ va_K (dC, dI) vwCl [] U ∧ va_D (fun _ => True) [(h0, .inr (2, [.ref d0, .ref d1, .ref d2, .int d3, .int d4]))])) (va_Qv (fun (_ : Unit) => True) (fun (_ : Unit) (t : State) => va_P (dC, dI) vwCl [(h0, .inr (2, [.ref d0, .ref d1, .ref d2, .int 0, .int 0]))] t.heap ∧ va_D (va_A [(h0, .inr (2, [.ref d0, .ref d1, .ref d2, .int d3, .int d4]))] sz) [(h0, .inr (2, [.ref d0, .ref d1, .ref d2, .int 0, .int 0]))]) (va_A [(h0, .inr (2, [.ref d0, .ref d1, .ref d2, .int d3, .int d4]))] sz)) 0 0 (va_A [(h0, .inr (2, [.ref d0, .ref d1, .ref d2, .int d3, .int d4]))] sz) := by
  refine Met.ofW (cc := cX2_empty) (maxL := 1) (ret := none) (by decide) rfl ?_
  intro p e s m args below meth c s₁ B hml hv
  obtain ⟨rfl, hsz, hP, hK, hD0⟩ := hv
  have hx := B.exec
  have hb := B.bytes
  have hr := B.returns
  have hts := atoms_spec (ws := wsX2_empty) B.pre
  have hown : s.vm.findClass RX2 = some m.cls := findClass_of_methodNamed B.named
  have hlocks := B.notSynchronized
  subst hsz
  have hD := hD0.self (sz := s.heap.size)
  generalize hAe : va_A [(h0, .inr (2, [.ref d0, .ref d1, .ref d2, .int d3, .int d4]))] s.heap.size = A at hD ⊢
  have hA : ∀ q : Nat, s.heap.size ≤ q → A q := fun q h => by rw [← hAe]; exact Or.inr h
  have hS : va_S A s.heap s.heap [] := va_S.rf
  replace hP : va_P (dC, dI) vwCl [(h0, .inr (2, [.ref d0, .ref d1, .ref d2, .int d3, .int d4]))] s.heap := hP
  have hl := lv_entry ([.ref h0]) (n := 1) (Nat.le_of_ble_eq_true rfl)
  rw [lg_entry_eq]
  generalize (lg_sl ([.ref h0]) ++ List.replicate (1 - (lg_sl ([.ref h0])).length) Slot.unset).toArray = ls at hl ⊢
  replace hl : lv_has ls 1 [(0, .ref h0)] := hl
  have hi_X2 : ∀ w ∈ wsX20, w ∈ wsX2_empty := by decide +kernel
  have k_f22 := hts (.fieldLink RX2 22 "TongueTeller$Script" "size" "I") (by decide +kernel)
  have k_f26 := hts (.fieldLink RX2 26 "TongueTeller$Script" "words" "I") (by decide +kernel)
  refine lv_aload_n hx hb dX2_empty_0 rfl (lv_at hl 0 rfl) ?_
  refine lv_iconst (v := 0) hx hb dX2_empty_1 (by decide) ?_
  refine va_put (D := (dC, dI)) (ci := 2) (v := .int 0) (ty := .int) (C := RX2) (T := TX2) (N := 5) hx hb hts hi_X2 tyX2 tyX2_ok nmX2 hown hK hP hD hS 0 rfl rfl 3 (by decide) k_f22 (fun _ h9 => h9) rfl (by decide +kernel) rfl rfl (Nat.le_of_ble_eq_true rfl) dX2_empty_2 (fun H locs hP hD hS => ?_)
  replace hP : va_P (dC, dI) vwCl [(h0, .inr (2, [.ref d0, .ref d1, .ref d2, .int 0, .int d4]))] H := hP
  replace hD : va_D A [(h0, .inr (2, [.ref d0, .ref d1, .ref d2, .int 0, .int d4]))] := hD
  refine lv_aload_n hx hb dX2_empty_5 rfl (lv_at hl 0 rfl) ?_
  refine lv_iconst (v := 0) hx hb dX2_empty_6 (by decide) ?_
  refine va_put (D := (dC, dI)) (ci := 2) (v := .int 0) (ty := .int) (C := RX2) (T := TX2) (N := 5) hx hb hts hi_X2 tyX2 tyX2_ok nmX2 hown hK hP hD hS 0 rfl rfl 4 (by decide) k_f26 (fun _ h9 => h9) rfl (by decide +kernel) rfl rfl (Nat.le_of_ble_eq_true rfl) dX2_empty_7 (fun H locs hP hD hS => ?_)
  replace hP : va_P (dC, dI) vwCl [(h0, .inr (2, [.ref d0, .ref d1, .ref d2, .int 0, .int 0]))] H := hP
  replace hD : va_D A [(h0, .inr (2, [.ref d0, .ref d1, .ref d2, .int 0, .int 0]))] := hD
  have hP9 := hP.sub (ws' := [(h0, .inr (2, [.ref d0, .ref d1, .ref d2, .int 0, .int 0]))]) [0] rfl
  have hD9 := hD.sub (ws' := [(h0, .inr (2, [.ref d0, .ref d1, .ref d2, .int 0, .int 0]))]) [0] (by decide) rfl
  exact W.vret hx hb hr (fun t ht hW => ⟨⟨(), rfl, trivial, by rw [ht]; exact hP9, hD9⟩, hS.F ht⟩) hS.2.2 dX2_empty_10

set_option maxHeartbeats 4000000 in
set_option maxRecDepth 100000 in
theorem c_X2_append_0 (l : Launch) (dC : Nat → ClassId) (dI : Nat → Nat → Nat) (h0 : Nat) (d0 : Nat) (d1 : Nat) (d2 : Nat) (d4 : Int32) (fr : Nat) (kd : ClassId) (kf : ClassId) (fd : Nat → Int32) (ff : Nat → Int32) (sz : Nat) : Met l yX2_append wsX2_append ({ frames := 1, cells := 0, slots := 0, locals := 18 }) (va_Pc [.ref h0, .ref fr, .int 0] (fun U => U.heap.size = sz ∧ va_P (dC, dI) vwCl [(h0, .inr (2, [.ref d0, .ref d1, .ref d2, .int 0, .int d4])), (d0, .inl (kd, 600, .inl fd)), (fr, .inl (kf, 600, .inl ff))] U.heap ∧ va_K (dC, dI) vwCl [(kd, .byte), (kf, .byte)] U ∧ va_D (fun _ => True) [(h0, .inr (2, [.ref d0, .ref d1, .ref d2, .int 0, .int d4])), (d0, .inl (kd, 600, .inl fd)), (fr, .inl (kf, 600, .inl ff))])) (va_Qi (fun (r : Int32) (u : Nat → Int32) => match u with | fo => r = 1) (fun (u : Nat → Int32) (t : State) => match u with | fo => va_P (dC, dI) vwCl [(h0, .inr (2, [.ref d0, .ref d1, .ref d2, .int 0, .int d4])), (d0, .inl (kd, 600, .inl fo)), (fr, .inl (kf, 600, .inl ff))] t.heap ∧ va_D (va_A [(h0, .inr (2, [.ref d0, .ref d1, .ref d2, .int 0, .int d4])), (d0, .inl (kd, 600, .inl fd)), (fr, .inl (kf, 600, .inl ff))] sz) [(h0, .inr (2, [.ref d0, .ref d1, .ref d2, .int 0, .int d4])), (d0, .inl (kd, 600, .inl fo)), (fr, .inl (kf, 600, .inl ff))]) (va_A [(h0, .inr (2, [.ref d0, .ref d1, .ref d2, .int 0, .int d4])), (d0, .inl (kd, 600, .inl fd)), (fr, .inl (kf, 600, .inl ff))] sz)) 0 0 (va_A [(h0, .inr (2, [.ref d0, .ref d1, .ref d2, .int 0, .int d4])), (d0, .inl (kd, 600, .inl fd)), (fr, .inl (kf, 600, .inl ff))] sz) := by
  refine Met.ofW (cc := cX2_append) (maxL := 3) (ret := (some .boolean)) (by decide) rfl ?_
  intro p e s m args below meth c s₁ B hml hv
  obtain ⟨rfl, hsz, hP, hK, hD0⟩ := hv
  have hx := B.exec
  have hb := B.bytes
  have hr := B.returns
  have hts := atoms_spec (ws := wsX2_append) B.pre
  have hown : s.vm.findClass RX2 = some m.cls := findClass_of_methodNamed B.named
  have hlocks := B.notSynchronized
  subst hsz
  have hD := hD0.self (sz := s.heap.size)
  generalize hAe : va_A [(h0, .inr (2, [.ref d0, .ref d1, .ref d2, .int 0, .int d4])), (d0, .inl (kd, 600, .inl fd)), (fr, .inl (kf, 600, .inl ff))] s.heap.size = A at hD ⊢
  have hA : ∀ q : Nat, s.heap.size ≤ q → A q := fun q h => by rw [← hAe]; exact Or.inr h
  have hS : va_S A s.heap s.heap [] := va_S.rf
  replace hP : va_P (dC, dI) vwCl [(h0, .inr (2, [.ref d0, .ref d1, .ref d2, .int 0, .int d4])), (d0, .inl (kd, 600, .inl fd)), (fr, .inl (kf, 600, .inl ff))] s.heap := hP
  have hl := lv_entry ([.ref h0, .ref fr, .int 0]) (n := 3) (Nat.le_of_ble_eq_true rfl)
  rw [lg_entry_eq]
  generalize (lg_sl ([.ref h0, .ref fr, .int 0]) ++ List.replicate (3 - (lg_sl ([.ref h0, .ref fr, .int 0])).length) Slot.unset).toArray = ls at hl ⊢
  replace hl : lv_has ls 3 [(0, .ref h0), (1, .ref fr), (2, .int 0)] := hl
  have hi_X2 : ∀ w ∈ wsX20, w ∈ wsX2_append := by decide +kernel
  have k_f9 := hts (.fieldLink RX2 9 "TongueTeller$Script" "signs" "[B") (by decide +kernel)
  have k_f22 := hts (.fieldLink RX2 22 "TongueTeller$Script" "size" "I") (by decide +kernel)
  refine lv_iload_n hx hb dX2_append_0 rfl (lv_at hl 2 rfl) ?_
  refine lv_if_lt (tgt := 24) hx hb dX2_append_1 (by decide) (fun c_1 => ?_) (fun c_1 => ?_)
  · exact absurd c_1 (by decide)
  refine lv_iload_n hx hb dX2_append_4 rfl (lv_at hl 2 rfl) ?_
  refine lv_aload_n hx hb dX2_append_5 rfl (lv_at hl 1 rfl) ?_
  refine va_alen (v := 600) hx hb hK hP 2 1 rfl rfl (by first | rfl | decide) dX2_append_6 ?_
  refine lv_icmp_gt (tgt := 24) hx hb dX2_append_7 (by decide) (fun c_7 => ?_) (fun c_7 => ?_)
  · exact absurd c_7 (by decide)
  refine lv_iload_n hx hb dX2_append_10 rfl (lv_at hl 2 rfl) ?_
  refine lv_aload_n hx hb dX2_append_11 rfl (lv_at hl 0 rfl) ?_
  refine va_get (D := (dC, dI)) (ci := 2) (v := .ref d0) (C := RX2) (T := TX2) (N := 5) hx hb hts hi_X2 hown hK hP 0 rfl rfl 0 (by decide) k_f9 (fun _ h9 => h9) rfl dX2_append_12 ?_
  refine va_alen (v := 600) hx hb hK hP 1 0 rfl rfl (by first | rfl | decide) dX2_append_15 ?_
  refine lv_aload_n hx hb dX2_append_16 rfl (lv_at hl 0 rfl) ?_
  refine va_get (D := (dC, dI)) (ci := 2) (v := .int 0) (C := RX2) (T := TX2) (N := 5) hx hb hts hi_X2 hown hK hP 0 rfl rfl 3 (by decide) k_f22 (fun _ h9 => h9) rfl dX2_append_17 ?_
  refine lv_isub hx hb dX2_append_20 ?_
  refine lv_icmp_le (tgt := 26) hx hb dX2_append_21 (by decide) (fun c_21 => ?_) (fun c_21 => ?_)
  rotate_left
  · exact absurd (by decide) c_21
  refine lv_aload_n hx hb dX2_append_26 rfl (lv_at hl 1 rfl) ?_
  refine lv_iconst (v := 0) hx hb dX2_append_27 (by decide) ?_
  refine lv_aload_n hx hb dX2_append_28 rfl (lv_at hl 0 rfl) ?_
  refine va_get (D := (dC, dI)) (ci := 2) (v := .ref d0) (C := RX2) (T := TX2) (N := 5) hx hb hts hi_X2 hown hK hP 0 rfl rfl 0 (by decide) k_f9 (fun _ h9 => h9) rfl dX2_append_29 ?_
  refine lv_aload_n hx hb dX2_append_32 rfl (lv_at hl 0 rfl) ?_
  refine va_get (D := (dC, dI)) (ci := 2) (v := .int 0) (C := RX2) (T := TX2) (N := 5) hx hb hts hi_X2 hown hK hP 0 rfl rfl 3 (by decide) k_f22 (fun _ h9 => h9) rfl dX2_append_33 ?_
  refine lv_iload_n hx hb dX2_append_36 rfl (lv_at hl 2 rfl) ?_
  refine va_copyi hx hb (by rw [hml]; exact hl.1.symm) hown (hts (.methodLink RX2 29 arraycopyName) (by decide +kernel)) (hts (.native arraycopyName) (by decide +kernel)) (hts (.static arraycopyName) (by decide +kernel)) (hts (.initialized "java/lang/System") (by decide +kernel)) hK hP hD hS 2 1 1 0 (ty := .byte) rfl rfl rfl rfl rfl (by decide) (by decide) (by decide) (by decide) (by decide) (fun i h => absurd h (Nat.not_lt_zero i)) (Nat.le_of_ble_eq_true rfl) (Nat.le_of_ble_eq_true rfl) dX2_append_37 (fun H locs hP hD hS => ?_)
  replace hP : va_P (dC, dI) vwCl [(h0, .inr (2, [.ref d0, .ref d1, .ref d2, .int 0, .int d4])), (d0, .inl (kd, 600, .inl (va_cpy ff fd (0 : Int32).toNatClampNeg (0 : Int32).toNatClampNeg (0 : Int32).toNatClampNeg))), (fr, .inl (kf, 600, .inl ff))] H := hP
  replace hD : va_D A [(h0, .inr (2, [.ref d0, .ref d1, .ref d2, .int 0, .int d4])), (d0, .inl (kd, 600, .inl (va_cpy ff fd (0 : Int32).toNatClampNeg (0 : Int32).toNatClampNeg (0 : Int32).toNatClampNeg))), (fr, .inl (kf, 600, .inl ff))] := hD
  refine lv_aload_n hx hb dX2_append_40 rfl (lv_at hl 0 rfl) ?_
  refine lv_dup hx hb dX2_append_41 rfl ?_
  refine va_get (D := (dC, dI)) (ci := 2) (v := .int 0) (C := RX2) (T := TX2) (N := 5) hx hb hts hi_X2 hown hK hP 0 rfl rfl 3 (by decide) k_f22 (fun _ h9 => h9) rfl dX2_append_42 ?_
  refine lv_iload_n hx hb dX2_append_45 rfl (lv_at hl 2 rfl) ?_
  refine lv_iadd hx hb dX2_append_46 ?_
  refine lv_topi (fun x_46 ex_46 => ?_)
  obtain rfl : x_46 = 0 := ex_46.trans (by decide)
  refine va_put (D := (dC, dI)) (ci := 2) (v := .int 0) (ty := .int) (C := RX2) (T := TX2) (N := 5) hx hb hts hi_X2 tyX2 tyX2_ok nmX2 hown hK hP hD hS 0 rfl rfl 3 (by decide) k_f22 (fun _ h9 => h9) rfl (by decide +kernel) rfl rfl (Nat.le_of_ble_eq_true rfl) dX2_append_47 (fun H locs hP hD hS => ?_)
  replace hP : va_P (dC, dI) vwCl [(h0, .inr (2, [.ref d0, .ref d1, .ref d2, .int 0, .int d4])), (d0, .inl (kd, 600, .inl (va_cpy ff fd (0 : Int32).toNatClampNeg (0 : Int32).toNatClampNeg (0 : Int32).toNatClampNeg))), (fr, .inl (kf, 600, .inl ff))] H := hP
  replace hD : va_D A [(h0, .inr (2, [.ref d0, .ref d1, .ref d2, .int 0, .int d4])), (d0, .inl (kd, 600, .inl (va_cpy ff fd (0 : Int32).toNatClampNeg (0 : Int32).toNatClampNeg (0 : Int32).toNatClampNeg))), (fr, .inl (kf, 600, .inl ff))] := hD
  refine lv_iconst (v := 1) hx hb dX2_append_50 (by decide) ?_
  have hP9 := hP.sub (ws' := [(h0, .inr (2, [.ref d0, .ref d1, .ref d2, .int 0, .int d4])), (d0, .inl (kd, 600, .inl (va_cpy ff fd (0 : Int32).toNatClampNeg (0 : Int32).toNatClampNeg (0 : Int32).toNatClampNeg))), (fr, .inl (kf, 600, .inl ff))]) [0, 1, 2] rfl
  have hD9 := hD.sub (ws' := [(h0, .inr (2, [.ref d0, .ref d1, .ref d2, .int 0, .int d4])), (d0, .inl (kd, 600, .inl (va_cpy ff fd (0 : Int32).toNatClampNeg (0 : Int32).toNatClampNeg (0 : Int32).toNatClampNeg))), (fr, .inl (kf, 600, .inl ff))]) [0, 1, 2] (by decide) rfl
  exact W.zret (v := 1) hx hb hr (rfl) (fun t ht hW => ⟨⟨1, (va_cpy ff fd (0 : Int32).toNatClampNeg (0 : Int32).toNatClampNeg (0 : Int32).toNatClampNeg), rfl, rfl, by rw [ht]; exact hP9, hD9⟩, hS.F ht⟩) hS.2.2 dX2_append_51

set_option maxHeartbeats 4000000 in
set_option maxRecDepth 100000 in
theorem c_X2_findWords_0 (l : Launch) (dC : Nat → ClassId) (dI : Nat → Nat → Nat) (h0 : Nat) (d0 : Nat) (d1 : Nat) (d2 : Nat) (d4 : Int32) (sz : Nat) : Met l yX2_findWords wsX2_findWords ({ frames := 0, cells := 0, slots := 0, locals := 0 }) (va_Pc [.ref h0] (fun U => U.heap.size = sz ∧ va_P (dC, dI) vwCl [(h0, .inr (2, [.ref d0, .ref d1, .ref d2, .int 0, .int d4]))] U.heap ∧ va_K (dC, dI) vwCl [] U ∧ va_D (fun _ => True) [(h0, .inr (2, [.ref d0, .ref d1, .ref d2, .int 0, .int d4]))])) (va_Qi (fun (r : Int32) (_ : Unit) => r = 1) (fun (_ : Unit) (t : State) => va_P (dC, dI) vwCl [(h0, .inr (2, [.ref d0, .ref d1, .ref d2, .int 0, .int 0]))] t.heap ∧ va_D (va_A [(h0, .inr (2, [.ref d0, .ref d1, .ref d2, .int 0, .int d4]))] sz) [(h0, .inr (2, [.ref d0, .ref d1, .ref d2, .int 0, .int 0]))]) (va_A [(h0, .inr (2, [.ref d0, .ref d1, .ref d2, .int 0, .int d4]))] sz)) 0 0 (va_A [(h0, .inr (2, [.ref d0, .ref d1, .ref d2, .int 0, .int d4]))] sz) := by
  refine Met.ofW (cc := cX2_findWords) (maxL := 2) (ret := (some .boolean)) (by decide) rfl ?_
  intro p e s m args below meth c s₁ B hml hv
  obtain ⟨rfl, hsz, hP, hK, hD0⟩ := hv
  have hx := B.exec
  have hb := B.bytes
  have hr := B.returns
  have hts := atoms_spec (ws := wsX2_findWords) B.pre
  have hown : s.vm.findClass RX2 = some m.cls := findClass_of_methodNamed B.named
  have hlocks := B.notSynchronized
  subst hsz
  have hD := hD0.self (sz := s.heap.size)
  generalize hAe : va_A [(h0, .inr (2, [.ref d0, .ref d1, .ref d2, .int 0, .int d4]))] s.heap.size = A at hD ⊢
  have hA : ∀ q : Nat, s.heap.size ≤ q → A q := fun q h => by rw [← hAe]; exact Or.inr h
  have hS : va_S A s.heap s.heap [] := va_S.rf
  replace hP : va_P (dC, dI) vwCl [(h0, .inr (2, [.ref d0, .ref d1, .ref d2, .int 0, .int d4]))] s.heap := hP
  have hl := lv_entry ([.ref h0]) (n := 2) (Nat.le_of_ble_eq_true rfl)
  rw [lg_entry_eq]
  generalize (lg_sl ([.ref h0]) ++ List.replicate (2 - (lg_sl ([.ref h0])).length) Slot.unset).toArray = ls at hl ⊢
  replace hl : lv_has ls 2 [(0, .ref h0)] := hl
  have hi_X2 : ∀ w ∈ wsX20, w ∈ wsX2_findWords := by decide +kernel
  have k_f26 := hts (.fieldLink RX2 26 "TongueTeller$Script" "words" "I") (by decide +kernel)
  have k_f22 := hts (.fieldLink RX2 22 "TongueTeller$Script" "size" "I") (by decide +kernel)
  refine lv_aload_n hx hb dX2_findWords_0 rfl (lv_at hl 0 rfl) ?_
  refine lv_iconst (v := 0) hx hb dX2_findWords_1 (by decide) ?_
  refine va_put (D := (dC, dI)) (ci := 2) (v := .int 0) (ty := .int) (C := RX2) (T := TX2) (N := 5) hx hb hts hi_X2 tyX2 tyX2_ok nmX2 hown hK hP hD hS 0 rfl rfl 4 (by decide) k_f26 (fun _ h9 => h9) rfl (by decide +kernel) rfl rfl (Nat.le_of_ble_eq_true rfl) dX2_findWords_2 (fun H locs hP hD hS => ?_)
  replace hP : va_P (dC, dI) vwCl [(h0, .inr (2, [.ref d0, .ref d1, .ref d2, .int 0, .int 0]))] H := hP
  replace hD : va_D A [(h0, .inr (2, [.ref d0, .ref d1, .ref d2, .int 0, .int 0]))] := hD
  refine lv_iconst (v := 0) hx hb dX2_findWords_5 (by decide) ?_
  refine lv_istore_n (lv' := [(1, .int 0), (0, .ref h0)]) hx hb dX2_findWords_6 rfl hl (by decide) rfl (fun ls hl => ?_)
  refine lv_iload_n hx hb dX2_findWords_7 rfl (lv_at hl 0 rfl) ?_
  refine lv_aload_n hx hb dX2_findWords_8 rfl (lv_at hl 1 rfl) ?_
  refine va_get (D := (dC, dI)) (ci := 2) (v := .int 0) (C := RX2) (T := TX2) (N := 5) hx hb hts hi_X2 hown hK hP 0 rfl rfl 3 (by decide) k_f22 (fun _ h9 => h9) rfl dX2_findWords_9 ?_
  refine lv_icmp_ge (tgt := 74) hx hb dX2_findWords_12 (by decide) (fun c_12 => ?_) (fun c_12 => ?_)
  rotate_left
  · exact absurd (by decide) c_12
  refine lv_iconst (v := 1) hx hb dX2_findWords_74 (by decide) ?_
  have hP9 := hP.sub (ws' := [(h0, .inr (2, [.ref d0, .ref d1, .ref d2, .int 0, .int 0]))]) [0] rfl
  have hD9 := hD.sub (ws' := [(h0, .inr (2, [.ref d0, .ref d1, .ref d2, .int 0, .int 0]))]) [0] (by decide) rfl
  exact W.zret (v := 1) hx hb hr (rfl) (fun t ht hW => ⟨⟨1, (), rfl, rfl, by rw [ht]; exact hP9, hD9⟩, hS.F ht⟩) hS.2.2 dX2_findWords_75

set_option maxHeartbeats 4000000 in
set_option maxRecDepth 100000 in
theorem c_X7_putBytes (l : Launch) (dC : Nat → ClassId) (dI : Nat → Nat → Nat) (h0 : Nat) (a0 : Nat) (a2 : Nat) (a3 : Nat) (v4 : Int32) (v5 : Int32) (a6 : Nat) (a7 : Nat) (a8 : Nat) (v9 : Int32) (v10 : Int32) (a11 : Nat) (a12 : Nat) (v13 : Int32) (a14 : Nat) (a15 : Nat) (a16 : Nat) (v17 : Int32) (kt : ClassId) (ft : Nat → Int32) (k : Nat) (p0 : Int32) (v1 : Int32) (sz : Nat) (hk : k + 4 ≤ 600) (e1 : v1 = nI k) : Met l yX7_putBytes wsX7_putBytes ({ frames := 1, cells := 0, slots := 0, locals := 20 }) (va_Pc [.ref h0, .int p0] (fun U => U.heap.size = sz ∧ va_P (dC, dI) vwCl [(h0, .inr (7, [.ref a0, .int v1, .ref a2, .ref a3, .int v4, .int v5, .ref a6, .ref a7, .ref a8, .int v9, .int v10, .ref a11, .ref a12, .int v13, .ref a14, .ref a15, .ref a16, .int v17])), (a0, .inl (kt, 600, .inl ft))] U.heap ∧ va_K (dC, dI) vwCl [(kt, .byte)] U ∧ va_D (fun _ => True) [(h0, .inr (7, [.ref a0, .int v1, .ref a2, .ref a3, .int v4, .int v5, .ref a6, .ref a7, .ref a8, .int v9, .int v10, .ref a11, .ref a12, .int v13, .ref a14, .ref a15, .ref a16, .int v17])), (a0, .inl (kt, 600, .inl ft))])) (va_Qv (fun (u : Nat → Int32) => match u with | fo => True) (fun (u : Nat → Int32) (t : State) => match u with | fo => va_P (dC, dI) vwCl [(h0, .inr (7, [.ref a0, .int (nI (k + 1 + 1 + 1 + 1)), .ref a2, .ref a3, .int v4, .int v5, .ref a6, .ref a7, .ref a8, .int v9, .int v10, .ref a11, .ref a12, .int v13, .ref a14, .ref a15, .ref a16, .int v17])), (a0, .inl (kt, 600, .inl fo))] t.heap ∧ va_D (va_A [(h0, .inr (7, [.ref a0, .int v1, .ref a2, .ref a3, .int v4, .int v5, .ref a6, .ref a7, .ref a8, .int v9, .int v10, .ref a11, .ref a12, .int v13, .ref a14, .ref a15, .ref a16, .int v17])), (a0, .inl (kt, 600, .inl ft))] sz) [(h0, .inr (7, [.ref a0, .int (nI (k + 1 + 1 + 1 + 1)), .ref a2, .ref a3, .int v4, .int v5, .ref a6, .ref a7, .ref a8, .int v9, .int v10, .ref a11, .ref a12, .int v13, .ref a14, .ref a15, .ref a16, .int v17])), (a0, .inl (kt, 600, .inl fo))]) (va_A [(h0, .inr (7, [.ref a0, .int v1, .ref a2, .ref a3, .int v4, .int v5, .ref a6, .ref a7, .ref a8, .int v9, .int v10, .ref a11, .ref a12, .int v13, .ref a14, .ref a15, .ref a16, .int v17])), (a0, .inl (kt, 600, .inl ft))] sz)) 0 0 (va_A [(h0, .inr (7, [.ref a0, .int v1, .ref a2, .ref a3, .int v4, .int v5, .ref a6, .ref a7, .ref a8, .int v9, .int v10, .ref a11, .ref a12, .int v13, .ref a14, .ref a15, .ref a16, .int v17])), (a0, .inl (kt, 600, .inl ft))] sz) := by
  refine Met.ofW (cc := cX7_putBytes) (maxL := 3) (ret := none) (by decide) rfl ?_
  intro p e s m args below meth c s₁ B hml hv
  obtain ⟨rfl, hsz, hP, hK, hD0⟩ := hv
  have hx := B.exec
  have hb := B.bytes
  have hr := B.returns
  have hts := atoms_spec (ws := wsX7_putBytes) B.pre
  have hown : s.vm.findClass RX7 = some m.cls := findClass_of_methodNamed B.named
  have hlocks := B.notSynchronized
  subst hsz
  have hD := hD0.self (sz := s.heap.size)
  generalize hAe : va_A [(h0, .inr (7, [.ref a0, .int v1, .ref a2, .ref a3, .int v4, .int v5, .ref a6, .ref a7, .ref a8, .int v9, .int v10, .ref a11, .ref a12, .int v13, .ref a14, .ref a15, .ref a16, .int v17])), (a0, .inl (kt, 600, .inl ft))] s.heap.size = A at hD ⊢
  have hA : ∀ q : Nat, s.heap.size ≤ q → A q := fun q h => by rw [← hAe]; exact Or.inr h
  have hS : va_S A s.heap s.heap [] := va_S.rf
  replace hP : va_P (dC, dI) vwCl [(h0, .inr (7, [.ref a0, .int v1, .ref a2, .ref a3, .int v4, .int v5, .ref a6, .ref a7, .ref a8, .int v9, .int v10, .ref a11, .ref a12, .int v13, .ref a14, .ref a15, .ref a16, .int v17])), (a0, .inl (kt, 600, .inl ft))] s.heap := hP
  have hl := lv_entry ([.ref h0, .int p0]) (n := 3) (Nat.le_of_ble_eq_true rfl)
  rw [lg_entry_eq]
  generalize (lg_sl ([.ref h0, .int p0]) ++ List.replicate (3 - (lg_sl ([.ref h0, .int p0])).length) Slot.unset).toArray = ls at hl ⊢
  replace hl : lv_has ls 3 [(0, .ref h0), (1, .int p0)] := hl
  subst e1
  have hi_X7 : ∀ w ∈ wsX70, w ∈ wsX7_putBytes := by decide +kernel
  have k_f9 := hts (.fieldLink RX7 9 "TongueTeller" "tape" "[B") (by decide +kernel)
  have k_f13 := hts (.fieldLink RX7 13 "TongueTeller" "tapeSize" "I") (by decide +kernel)
  refine lv_bipush (v := 24) hx hb dX7_putBytes_0 (by decide) ?_
  refine lv_istore_n (lv' := [(2, .int 24), (0, .ref h0), (1, .int p0)]) hx hb dX7_putBytes_2 rfl hl (by decide) rfl (fun ls hl => ?_)
  refine lv_iload_n hx hb dX7_putBytes_3 rfl (lv_at hl 0 rfl) ?_
  refine lv_if_lt (tgt := 43) hx hb dX7_putBytes_4 (by decide) (fun c_4 => ?_) (fun c_4 => ?_)
  · exact absurd c_4 (by decide)
  refine lv_aload_n hx hb dX7_putBytes_7 rfl (lv_at hl 1 rfl) ?_
  refine va_get (D := (dC, dI)) (ci := 7) (v := .ref a0) (C := RX7) (T := TX7) (N := 18) hx hb hts hi_X7 hown hK hP 0 rfl rfl 0 (by decide) k_f9 (fun _ h9 => h9) rfl dX7_putBytes_8 ?_
  refine lv_aload_n hx hb dX7_putBytes_11 rfl (lv_at hl 1 rfl) ?_
  refine va_get (D := (dC, dI)) (ci := 7) (v := .int (nI k)) (C := RX7) (T := TX7) (N := 18) hx hb hts hi_X7 hown hK hP 0 rfl rfl 1 (by decide) k_f13 (fun _ h9 => h9) rfl dX7_putBytes_12 ?_
  refine lv_iload_n hx hb dX7_putBytes_15 rfl (lv_at hl 2 rfl) ?_
  refine lv_iload_n hx hb dX7_putBytes_16 rfl (lv_at hl 0 rfl) ?_
  refine lv_iushr hx hb dX7_putBytes_17 rfl ?_
  refine lv_sipush (v := 255) hx hb dX7_putBytes_18 (by decide) ?_
  refine lv_iand hx hb dX7_putBytes_21 ?_
  refine vp_callSi (W.runS (As := [.int (((p0.toUInt32 >>> (Int32.toUInt32 24 &&& Int32.toUInt32 31)).toInt32) &&& 255)]) (rest := [.int (nI k), .ref a0]) ⟨hx, hb, hml, hown, hts⟩ (c_X7_signOf l dC dI (((p0.toUInt32 >>> (Int32.toUInt32 24 &&& Int32.toUInt32 31)).toInt32) &&& 255)) (va_cwS 1 hts gX7_putBytes_X7_signOf rfl rfl rfl (by decide +kernel) ⟨Nat.le_of_ble_eq_true rfl, Nat.le_of_ble_eq_true rfl⟩) ⟨fun a U g mk q => q, fun U hU hW => ⟨rfl, trivial⟩⟩ rfl rfl hl.1 rfl (lv_room (Nat.le_of_ble_eq_true rfl)) dX7_putBytes_22 ⟨Nat.le_of_ble_eq_true rfl, Nat.le_of_ble_eq_true rfl⟩) (fun r_22 hw_22 => ?_)
  refine lv_i2b hx hb dX7_putBytes_25 rfl ?_
  refine va_bast hx hb hK hP hD hS 1 0 rfl rfl (i := nI k) (x := r_22.toInt8.toInt32) (vp_in_nI (by omega) (by omega)) dX7_putBytes_26 (fun H locs hP hD hS => ?_)
  replace hP : va_P (dC, dI) vwCl [(h0, .inr (7, [.ref a0, .int (nI k), .ref a2, .ref a3, .int v4, .int v5, .ref a6, .ref a7, .ref a8, .int v9, .int v10, .ref a11, .ref a12, .int v13, .ref a14, .ref a15, .ref a16, .int v17])), (a0, .inl (kt, 600, .inl (upd ft (nI k : Int32).toNatClampNeg (vp_nar .byte r_22.toInt8.toInt32))))] H := hP
  replace hD : va_D A [(h0, .inr (7, [.ref a0, .int (nI k), .ref a2, .ref a3, .int v4, .int v5, .ref a6, .ref a7, .ref a8, .int v9, .int v10, .ref a11, .ref a12, .int v13, .ref a14, .ref a15, .ref a16, .int v17])), (a0, .inl (kt, 600, .inl (upd ft (nI k : Int32).toNatClampNeg (vp_nar .byte r_22.toInt8.toInt32))))] := hD
  obtain ⟨g1, eg1⟩ : ∃ y : Nat → Int32, y = upd ft (nI k : Int32).toNatClampNeg (vp_nar .byte r_22.toInt8.toInt32) := ⟨_, rfl⟩
  replace hP : va_P (dC, dI) vwCl [(h0, .inr (7, [.ref a0, .int (nI k), .ref a2, .ref a3, .int v4, .int v5, .ref a6, .ref a7, .ref a8, .int v9, .int v10, .ref a11, .ref a12, .int v13, .ref a14, .ref a15, .ref a16, .int v17])), (a0, .inl (kt, 600, .inl g1))] H := by rw [eg1]; exact hP
  replace hD : va_D A [(h0, .inr (7, [.ref a0, .int (nI k), .ref a2, .ref a3, .int v4, .int v5, .ref a6, .ref a7, .ref a8, .int v9, .int v10, .ref a11, .ref a12, .int v13, .ref a14, .ref a15, .ref a16, .int v17])), (a0, .inl (kt, 600, .inl g1))] := by rw [eg1]; exact hD
  refine lv_aload_n hx hb dX7_putBytes_27 rfl (lv_at hl 1 rfl) ?_
  refine lv_dup hx hb dX7_putBytes_28 rfl ?_
  refine va_get (D := (dC, dI)) (ci := 7) (v := .int (nI k)) (C := RX7) (T := TX7) (N := 18) hx hb hts hi_X7 hown hK hP 0 rfl rfl 1 (by decide) k_f13 (fun _ h9 => h9) rfl dX7_putBytes_29 ?_
  refine lv_iconst (v := 1) hx hb dX7_putBytes_32 (by decide) ?_
  refine lv_iadd hx hb dX7_putBytes_33 ?_
  refine lv_topi (fun x_33 ex_33 => ?_)
  obtain rfl : x_33 = nI (k + 1) := ex_33.trans (nI_1 _)
  refine va_put (D := (dC, dI)) (ci := 7) (v := .int (nI (k + 1))) (ty := .int) (C := RX7) (T := TX7) (N := 18) hx hb hts hi_X7 tyX7 tyX7_ok nmX7 hown hK hP hD hS 0 rfl rfl 1 (by decide) k_f13 (fun _ h9 => h9) rfl (by decide +kernel) rfl rfl (Nat.le_of_ble_eq_true rfl) dX7_putBytes_34 (fun H locs hP hD hS => ?_)
  replace hP : va_P (dC, dI) vwCl [(h0, .inr (7, [.ref a0, .int (nI (k + 1)), .ref a2, .ref a3, .int v4, .int v5, .ref a6, .ref a7, .ref a8, .int v9, .int v10, .ref a11, .ref a12, .int v13, .ref a14, .ref a15, .ref a16, .int v17])), (a0, .inl (kt, 600, .inl g1))] H := hP
  replace hD : va_D A [(h0, .inr (7, [.ref a0, .int (nI (k + 1)), .ref a2, .ref a3, .int v4, .int v5, .ref a6, .ref a7, .ref a8, .int v9, .int v10, .ref a11, .ref a12, .int v13, .ref a14, .ref a15, .ref a16, .int v17])), (a0, .inl (kt, 600, .inl g1))] := hD
  refine lv_iinc (v := 16) (lv' := [(2, .int 16), (0, .ref h0), (1, .int p0)]) hx hb dX7_putBytes_37 hl (k := 0) rfl (by decide) (by decide) rfl (fun ls hl => ?_)
  refine lv_goto (tgt := 3) hx hb dX7_putBytes_40 (by decide) ?_
  refine lv_iload_n hx hb dX7_putBytes_3 rfl (lv_at hl 0 rfl) ?_
  refine lv_if_lt (tgt := 43) hx hb dX7_putBytes_4 (by decide) (fun c_4_2 => ?_) (fun c_4_2 => ?_)
  · exact absurd c_4_2 (by decide)
  refine lv_aload_n hx hb dX7_putBytes_7 rfl (lv_at hl 1 rfl) ?_
  refine va_get (D := (dC, dI)) (ci := 7) (v := .ref a0) (C := RX7) (T := TX7) (N := 18) hx hb hts hi_X7 hown hK hP 0 rfl rfl 0 (by decide) k_f9 (fun _ h9 => h9) rfl dX7_putBytes_8 ?_
  refine lv_aload_n hx hb dX7_putBytes_11 rfl (lv_at hl 1 rfl) ?_
  refine va_get (D := (dC, dI)) (ci := 7) (v := .int (nI (k + 1))) (C := RX7) (T := TX7) (N := 18) hx hb hts hi_X7 hown hK hP 0 rfl rfl 1 (by decide) k_f13 (fun _ h9 => h9) rfl dX7_putBytes_12 ?_
  refine lv_iload_n hx hb dX7_putBytes_15 rfl (lv_at hl 2 rfl) ?_
  refine lv_iload_n hx hb dX7_putBytes_16 rfl (lv_at hl 0 rfl) ?_
  refine lv_iushr hx hb dX7_putBytes_17 rfl ?_
  refine lv_sipush (v := 255) hx hb dX7_putBytes_18 (by decide) ?_
  refine lv_iand hx hb dX7_putBytes_21 ?_
  refine vp_callSi (W.runS (As := [.int (((p0.toUInt32 >>> (Int32.toUInt32 16 &&& Int32.toUInt32 31)).toInt32) &&& 255)]) (rest := [.int (nI (k + 1)), .ref a0]) ⟨hx, hb, hml, hown, hts⟩ (c_X7_signOf l dC dI (((p0.toUInt32 >>> (Int32.toUInt32 16 &&& Int32.toUInt32 31)).toInt32) &&& 255)) (va_cwS 1 hts gX7_putBytes_X7_signOf rfl rfl rfl (by decide +kernel) ⟨Nat.le_of_ble_eq_true rfl, Nat.le_of_ble_eq_true rfl⟩) ⟨fun a U g mk q => q, fun U hU hW => ⟨rfl, trivial⟩⟩ rfl rfl hl.1 rfl (lv_room (Nat.le_of_ble_eq_true rfl)) dX7_putBytes_22 ⟨Nat.le_of_ble_eq_true rfl, Nat.le_of_ble_eq_true rfl⟩) (fun r_22_2 hw_22_2 => ?_)
  refine lv_i2b hx hb dX7_putBytes_25 rfl ?_
  refine va_bast hx hb hK hP hD hS 1 0 rfl rfl (i := nI (k + 1)) (x := r_22_2.toInt8.toInt32) (vp_in_nI (by omega) (by omega)) dX7_putBytes_26 (fun H locs hP hD hS => ?_)
  replace hP : va_P (dC, dI) vwCl [(h0, .inr (7, [.ref a0, .int (nI (k + 1)), .ref a2, .ref a3, .int v4, .int v5, .ref a6, .ref a7, .ref a8, .int v9, .int v10, .ref a11, .ref a12, .int v13, .ref a14, .ref a15, .ref a16, .int v17])), (a0, .inl (kt, 600, .inl (upd g1 (nI (k + 1) : Int32).toNatClampNeg (vp_nar .byte r_22_2.toInt8.toInt32))))] H := hP
  replace hD : va_D A [(h0, .inr (7, [.ref a0, .int (nI (k + 1)), .ref a2, .ref a3, .int v4, .int v5, .ref a6, .ref a7, .ref a8, .int v9, .int v10, .ref a11, .ref a12, .int v13, .ref a14, .ref a15, .ref a16, .int v17])), (a0, .inl (kt, 600, .inl (upd g1 (nI (k + 1) : Int32).toNatClampNeg (vp_nar .byte r_22_2.toInt8.toInt32))))] := hD
  obtain ⟨g2, eg2⟩ : ∃ y : Nat → Int32, y = upd g1 (nI (k + 1) : Int32).toNatClampNeg (vp_nar .byte r_22_2.toInt8.toInt32) := ⟨_, rfl⟩
  replace hP : va_P (dC, dI) vwCl [(h0, .inr (7, [.ref a0, .int (nI (k + 1)), .ref a2, .ref a3, .int v4, .int v5, .ref a6, .ref a7, .ref a8, .int v9, .int v10, .ref a11, .ref a12, .int v13, .ref a14, .ref a15, .ref a16, .int v17])), (a0, .inl (kt, 600, .inl g2))] H := by rw [eg2]; exact hP
  replace hD : va_D A [(h0, .inr (7, [.ref a0, .int (nI (k + 1)), .ref a2, .ref a3, .int v4, .int v5, .ref a6, .ref a7, .ref a8, .int v9, .int v10, .ref a11, .ref a12, .int v13, .ref a14, .ref a15, .ref a16, .int v17])), (a0, .inl (kt, 600, .inl g2))] := by rw [eg2]; exact hD
  refine lv_aload_n hx hb dX7_putBytes_27 rfl (lv_at hl 1 rfl) ?_
  refine lv_dup hx hb dX7_putBytes_28 rfl ?_
  refine va_get (D := (dC, dI)) (ci := 7) (v := .int (nI (k + 1))) (C := RX7) (T := TX7) (N := 18) hx hb hts hi_X7 hown hK hP 0 rfl rfl 1 (by decide) k_f13 (fun _ h9 => h9) rfl dX7_putBytes_29 ?_
  refine lv_iconst (v := 1) hx hb dX7_putBytes_32 (by decide) ?_
  refine lv_iadd hx hb dX7_putBytes_33 ?_
  refine lv_topi (fun x_33_2 ex_33_2 => ?_)
  obtain rfl : x_33_2 = nI (k + 1 + 1) := ex_33_2.trans (nI_1 _)
  refine va_put (D := (dC, dI)) (ci := 7) (v := .int (nI (k + 1 + 1))) (ty := .int) (C := RX7) (T := TX7) (N := 18) hx hb hts hi_X7 tyX7 tyX7_ok nmX7 hown hK hP hD hS 0 rfl rfl 1 (by decide) k_f13 (fun _ h9 => h9) rfl (by decide +kernel) rfl rfl (Nat.le_of_ble_eq_true rfl) dX7_putBytes_34 (fun H locs hP hD hS => ?_)
  replace hP : va_P (dC, dI) vwCl [(h0, .inr (7, [.ref a0, .int (nI (k + 1 + 1)), .ref a2, .ref a3, .int v4, .int v5, .ref a6, .ref a7, .ref a8, .int v9, .int v10, .ref a11, .ref a12, .int v13, .ref a14, .ref a15, .ref a16, .int v17])), (a0, .inl (kt, 600, .inl g2))] H := hP
  replace hD : va_D A [(h0, .inr (7, [.ref a0, .int (nI (k + 1 + 1)), .ref a2, .ref a3, .int v4, .int v5, .ref a6, .ref a7, .ref a8, .int v9, .int v10, .ref a11, .ref a12, .int v13, .ref a14, .ref a15, .ref a16, .int v17])), (a0, .inl (kt, 600, .inl g2))] := hD
  refine lv_iinc (v := 8) (lv' := [(2, .int 8), (0, .ref h0), (1, .int p0)]) hx hb dX7_putBytes_37 hl (k := 0) rfl (by decide) (by decide) rfl (fun ls hl => ?_)
  refine lv_goto (tgt := 3) hx hb dX7_putBytes_40 (by decide) ?_
  refine lv_iload_n hx hb dX7_putBytes_3 rfl (lv_at hl 0 rfl) ?_
  refine lv_if_lt (tgt := 43) hx hb dX7_putBytes_4 (by decide) (fun c_4_3 => ?_) (fun c_4_3 => ?_)
  · exact absurd c_4_3 (by decide)
  refine lv_aload_n hx hb dX7_putBytes_7 rfl (lv_at hl 1 rfl) ?_
  refine va_get (D := (dC, dI)) (ci := 7) (v := .ref a0) (C := RX7) (T := TX7) (N := 18) hx hb hts hi_X7 hown hK hP 0 rfl rfl 0 (by decide) k_f9 (fun _ h9 => h9) rfl dX7_putBytes_8 ?_
  refine lv_aload_n hx hb dX7_putBytes_11 rfl (lv_at hl 1 rfl) ?_
  refine va_get (D := (dC, dI)) (ci := 7) (v := .int (nI (k + 1 + 1))) (C := RX7) (T := TX7) (N := 18) hx hb hts hi_X7 hown hK hP 0 rfl rfl 1 (by decide) k_f13 (fun _ h9 => h9) rfl dX7_putBytes_12 ?_
  refine lv_iload_n hx hb dX7_putBytes_15 rfl (lv_at hl 2 rfl) ?_
  refine lv_iload_n hx hb dX7_putBytes_16 rfl (lv_at hl 0 rfl) ?_
  refine lv_iushr hx hb dX7_putBytes_17 rfl ?_
  refine lv_sipush (v := 255) hx hb dX7_putBytes_18 (by decide) ?_
  refine lv_iand hx hb dX7_putBytes_21 ?_
  refine vp_callSi (W.runS (As := [.int (((p0.toUInt32 >>> (Int32.toUInt32 8 &&& Int32.toUInt32 31)).toInt32) &&& 255)]) (rest := [.int (nI (k + 1 + 1)), .ref a0]) ⟨hx, hb, hml, hown, hts⟩ (c_X7_signOf l dC dI (((p0.toUInt32 >>> (Int32.toUInt32 8 &&& Int32.toUInt32 31)).toInt32) &&& 255)) (va_cwS 1 hts gX7_putBytes_X7_signOf rfl rfl rfl (by decide +kernel) ⟨Nat.le_of_ble_eq_true rfl, Nat.le_of_ble_eq_true rfl⟩) ⟨fun a U g mk q => q, fun U hU hW => ⟨rfl, trivial⟩⟩ rfl rfl hl.1 rfl (lv_room (Nat.le_of_ble_eq_true rfl)) dX7_putBytes_22 ⟨Nat.le_of_ble_eq_true rfl, Nat.le_of_ble_eq_true rfl⟩) (fun r_22_3 hw_22_3 => ?_)
  refine lv_i2b hx hb dX7_putBytes_25 rfl ?_
  refine va_bast hx hb hK hP hD hS 1 0 rfl rfl (i := nI (k + 1 + 1)) (x := r_22_3.toInt8.toInt32) (vp_in_nI (by omega) (by omega)) dX7_putBytes_26 (fun H locs hP hD hS => ?_)
  replace hP : va_P (dC, dI) vwCl [(h0, .inr (7, [.ref a0, .int (nI (k + 1 + 1)), .ref a2, .ref a3, .int v4, .int v5, .ref a6, .ref a7, .ref a8, .int v9, .int v10, .ref a11, .ref a12, .int v13, .ref a14, .ref a15, .ref a16, .int v17])), (a0, .inl (kt, 600, .inl (upd g2 (nI (k + 1 + 1) : Int32).toNatClampNeg (vp_nar .byte r_22_3.toInt8.toInt32))))] H := hP
  replace hD : va_D A [(h0, .inr (7, [.ref a0, .int (nI (k + 1 + 1)), .ref a2, .ref a3, .int v4, .int v5, .ref a6, .ref a7, .ref a8, .int v9, .int v10, .ref a11, .ref a12, .int v13, .ref a14, .ref a15, .ref a16, .int v17])), (a0, .inl (kt, 600, .inl (upd g2 (nI (k + 1 + 1) : Int32).toNatClampNeg (vp_nar .byte r_22_3.toInt8.toInt32))))] := hD
  obtain ⟨g3, eg3⟩ : ∃ y : Nat → Int32, y = upd g2 (nI (k + 1 + 1) : Int32).toNatClampNeg (vp_nar .byte r_22_3.toInt8.toInt32) := ⟨_, rfl⟩
  replace hP : va_P (dC, dI) vwCl [(h0, .inr (7, [.ref a0, .int (nI (k + 1 + 1)), .ref a2, .ref a3, .int v4, .int v5, .ref a6, .ref a7, .ref a8, .int v9, .int v10, .ref a11, .ref a12, .int v13, .ref a14, .ref a15, .ref a16, .int v17])), (a0, .inl (kt, 600, .inl g3))] H := by rw [eg3]; exact hP
  replace hD : va_D A [(h0, .inr (7, [.ref a0, .int (nI (k + 1 + 1)), .ref a2, .ref a3, .int v4, .int v5, .ref a6, .ref a7, .ref a8, .int v9, .int v10, .ref a11, .ref a12, .int v13, .ref a14, .ref a15, .ref a16, .int v17])), (a0, .inl (kt, 600, .inl g3))] := by rw [eg3]; exact hD
  refine lv_aload_n hx hb dX7_putBytes_27 rfl (lv_at hl 1 rfl) ?_
  refine lv_dup hx hb dX7_putBytes_28 rfl ?_
  refine va_get (D := (dC, dI)) (ci := 7) (v := .int (nI (k + 1 + 1))) (C := RX7) (T := TX7) (N := 18) hx hb hts hi_X7 hown hK hP 0 rfl rfl 1 (by decide) k_f13 (fun _ h9 => h9) rfl dX7_putBytes_29 ?_
  refine lv_iconst (v := 1) hx hb dX7_putBytes_32 (by decide) ?_
  refine lv_iadd hx hb dX7_putBytes_33 ?_
  refine lv_topi (fun x_33_3 ex_33_3 => ?_)
  obtain rfl : x_33_3 = nI (k + 1 + 1 + 1) := ex_33_3.trans (nI_1 _)
  refine va_put (D := (dC, dI)) (ci := 7) (v := .int (nI (k + 1 + 1 + 1))) (ty := .int) (C := RX7) (T := TX7) (N := 18) hx hb hts hi_X7 tyX7 tyX7_ok nmX7 hown hK hP hD hS 0 rfl rfl 1 (by decide) k_f13 (fun _ h9 => h9) rfl (by decide +kernel) rfl rfl (Nat.le_of_ble_eq_true rfl) dX7_putBytes_34 (fun H locs hP hD hS => ?_)
  replace hP : va_P (dC, dI) vwCl [(h0, .inr (7, [.ref a0, .int (nI (k + 1 + 1 + 1)), .ref a2, .ref a3, .int v4, .int v5, .ref a6, .ref a7, .ref a8, .int v9, .int v10, .ref a11, .ref a12, .int v13, .ref a14, .ref a15, .ref a16, .int v17])), (a0, .inl (kt, 600, .inl g3))] H := hP
  replace hD : va_D A [(h0, .inr (7, [.ref a0, .int (nI (k + 1 + 1 + 1)), .ref a2, .ref a3, .int v4, .int v5, .ref a6, .ref a7, .ref a8, .int v9, .int v10, .ref a11, .ref a12, .int v13, .ref a14, .ref a15, .ref a16, .int v17])), (a0, .inl (kt, 600, .inl g3))] := hD
  refine lv_iinc (v := 0) (lv' := [(2, .int 0), (0, .ref h0), (1, .int p0)]) hx hb dX7_putBytes_37 hl (k := 0) rfl (by decide) (by decide) rfl (fun ls hl => ?_)
  refine lv_goto (tgt := 3) hx hb dX7_putBytes_40 (by decide) ?_
  refine lv_iload_n hx hb dX7_putBytes_3 rfl (lv_at hl 0 rfl) ?_
  refine lv_if_lt (tgt := 43) hx hb dX7_putBytes_4 (by decide) (fun c_4_4 => ?_) (fun c_4_4 => ?_)
  · exact absurd c_4_4 (by decide)
  refine lv_aload_n hx hb dX7_putBytes_7 rfl (lv_at hl 1 rfl) ?_
  refine va_get (D := (dC, dI)) (ci := 7) (v := .ref a0) (C := RX7) (T := TX7) (N := 18) hx hb hts hi_X7 hown hK hP 0 rfl rfl 0 (by decide) k_f9 (fun _ h9 => h9) rfl dX7_putBytes_8 ?_
  refine lv_aload_n hx hb dX7_putBytes_11 rfl (lv_at hl 1 rfl) ?_
  refine va_get (D := (dC, dI)) (ci := 7) (v := .int (nI (k + 1 + 1 + 1))) (C := RX7) (T := TX7) (N := 18) hx hb hts hi_X7 hown hK hP 0 rfl rfl 1 (by decide) k_f13 (fun _ h9 => h9) rfl dX7_putBytes_12 ?_
  refine lv_iload_n hx hb dX7_putBytes_15 rfl (lv_at hl 2 rfl) ?_
  refine lv_iload_n hx hb dX7_putBytes_16 rfl (lv_at hl 0 rfl) ?_
  refine lv_iushr hx hb dX7_putBytes_17 rfl ?_
  refine lv_sipush (v := 255) hx hb dX7_putBytes_18 (by decide) ?_
  refine lv_iand hx hb dX7_putBytes_21 ?_
  refine vp_callSi (W.runS (As := [.int (((p0.toUInt32 >>> (Int32.toUInt32 0 &&& Int32.toUInt32 31)).toInt32) &&& 255)]) (rest := [.int (nI (k + 1 + 1 + 1)), .ref a0]) ⟨hx, hb, hml, hown, hts⟩ (c_X7_signOf l dC dI (((p0.toUInt32 >>> (Int32.toUInt32 0 &&& Int32.toUInt32 31)).toInt32) &&& 255)) (va_cwS 1 hts gX7_putBytes_X7_signOf rfl rfl rfl (by decide +kernel) ⟨Nat.le_of_ble_eq_true rfl, Nat.le_of_ble_eq_true rfl⟩) ⟨fun a U g mk q => q, fun U hU hW => ⟨rfl, trivial⟩⟩ rfl rfl hl.1 rfl (lv_room (Nat.le_of_ble_eq_true rfl)) dX7_putBytes_22 ⟨Nat.le_of_ble_eq_true rfl, Nat.le_of_ble_eq_true rfl⟩) (fun r_22_4 hw_22_4 => ?_)
  refine lv_i2b hx hb dX7_putBytes_25 rfl ?_
  refine va_bast hx hb hK hP hD hS 1 0 rfl rfl (i := nI (k + 1 + 1 + 1)) (x := r_22_4.toInt8.toInt32) (vp_in_nI (by omega) (by omega)) dX7_putBytes_26 (fun H locs hP hD hS => ?_)
  replace hP : va_P (dC, dI) vwCl [(h0, .inr (7, [.ref a0, .int (nI (k + 1 + 1 + 1)), .ref a2, .ref a3, .int v4, .int v5, .ref a6, .ref a7, .ref a8, .int v9, .int v10, .ref a11, .ref a12, .int v13, .ref a14, .ref a15, .ref a16, .int v17])), (a0, .inl (kt, 600, .inl (upd g3 (nI (k + 1 + 1 + 1) : Int32).toNatClampNeg (vp_nar .byte r_22_4.toInt8.toInt32))))] H := hP
  replace hD : va_D A [(h0, .inr (7, [.ref a0, .int (nI (k + 1 + 1 + 1)), .ref a2, .ref a3, .int v4, .int v5, .ref a6, .ref a7, .ref a8, .int v9, .int v10, .ref a11, .ref a12, .int v13, .ref a14, .ref a15, .ref a16, .int v17])), (a0, .inl (kt, 600, .inl (upd g3 (nI (k + 1 + 1 + 1) : Int32).toNatClampNeg (vp_nar .byte r_22_4.toInt8.toInt32))))] := hD
  obtain ⟨g4, eg4⟩ : ∃ y : Nat → Int32, y = upd g3 (nI (k + 1 + 1 + 1) : Int32).toNatClampNeg (vp_nar .byte r_22_4.toInt8.toInt32) := ⟨_, rfl⟩
  replace hP : va_P (dC, dI) vwCl [(h0, .inr (7, [.ref a0, .int (nI (k + 1 + 1 + 1)), .ref a2, .ref a3, .int v4, .int v5, .ref a6, .ref a7, .ref a8, .int v9, .int v10, .ref a11, .ref a12, .int v13, .ref a14, .ref a15, .ref a16, .int v17])), (a0, .inl (kt, 600, .inl g4))] H := by rw [eg4]; exact hP
  replace hD : va_D A [(h0, .inr (7, [.ref a0, .int (nI (k + 1 + 1 + 1)), .ref a2, .ref a3, .int v4, .int v5, .ref a6, .ref a7, .ref a8, .int v9, .int v10, .ref a11, .ref a12, .int v13, .ref a14, .ref a15, .ref a16, .int v17])), (a0, .inl (kt, 600, .inl g4))] := by rw [eg4]; exact hD
  refine lv_aload_n hx hb dX7_putBytes_27 rfl (lv_at hl 1 rfl) ?_
  refine lv_dup hx hb dX7_putBytes_28 rfl ?_
  refine va_get (D := (dC, dI)) (ci := 7) (v := .int (nI (k + 1 + 1 + 1))) (C := RX7) (T := TX7) (N := 18) hx hb hts hi_X7 hown hK hP 0 rfl rfl 1 (by decide) k_f13 (fun _ h9 => h9) rfl dX7_putBytes_29 ?_
  refine lv_iconst (v := 1) hx hb dX7_putBytes_32 (by decide) ?_
  refine lv_iadd hx hb dX7_putBytes_33 ?_
  refine lv_topi (fun x_33_4 ex_33_4 => ?_)
  obtain rfl : x_33_4 = nI (k + 1 + 1 + 1 + 1) := ex_33_4.trans (nI_1 _)
  refine va_put (D := (dC, dI)) (ci := 7) (v := .int (nI (k + 1 + 1 + 1 + 1))) (ty := .int) (C := RX7) (T := TX7) (N := 18) hx hb hts hi_X7 tyX7 tyX7_ok nmX7 hown hK hP hD hS 0 rfl rfl 1 (by decide) k_f13 (fun _ h9 => h9) rfl (by decide +kernel) rfl rfl (Nat.le_of_ble_eq_true rfl) dX7_putBytes_34 (fun H locs hP hD hS => ?_)
  replace hP : va_P (dC, dI) vwCl [(h0, .inr (7, [.ref a0, .int (nI (k + 1 + 1 + 1 + 1)), .ref a2, .ref a3, .int v4, .int v5, .ref a6, .ref a7, .ref a8, .int v9, .int v10, .ref a11, .ref a12, .int v13, .ref a14, .ref a15, .ref a16, .int v17])), (a0, .inl (kt, 600, .inl g4))] H := hP
  replace hD : va_D A [(h0, .inr (7, [.ref a0, .int (nI (k + 1 + 1 + 1 + 1)), .ref a2, .ref a3, .int v4, .int v5, .ref a6, .ref a7, .ref a8, .int v9, .int v10, .ref a11, .ref a12, .int v13, .ref a14, .ref a15, .ref a16, .int v17])), (a0, .inl (kt, 600, .inl g4))] := hD
  refine lv_iinc (v := (-8)) (lv' := [(2, .int (-8)), (0, .ref h0), (1, .int p0)]) hx hb dX7_putBytes_37 hl (k := 0) rfl (by decide) (by decide) rfl (fun ls hl => ?_)
  refine lv_goto (tgt := 3) hx hb dX7_putBytes_40 (by decide) ?_
  refine lv_iload_n hx hb dX7_putBytes_3 rfl (lv_at hl 0 rfl) ?_
  refine lv_if_lt (tgt := 43) hx hb dX7_putBytes_4 (by decide) (fun c_4_5 => ?_) (fun c_4_5 => ?_)
  rotate_left
  · exact absurd (by decide) c_4_5
  have hP9 := hP.sub (ws' := [(h0, .inr (7, [.ref a0, .int (nI (k + 1 + 1 + 1 + 1)), .ref a2, .ref a3, .int v4, .int v5, .ref a6, .ref a7, .ref a8, .int v9, .int v10, .ref a11, .ref a12, .int v13, .ref a14, .ref a15, .ref a16, .int v17])), (a0, .inl (kt, 600, .inl g4))]) [0, 1] rfl
  have hD9 := hD.sub (ws' := [(h0, .inr (7, [.ref a0, .int (nI (k + 1 + 1 + 1 + 1)), .ref a2, .ref a3, .int v4, .int v5, .ref a6, .ref a7, .ref a8, .int v9, .int v10, .ref a11, .ref a12, .int v13, .ref a14, .ref a15, .ref a16, .int v17])), (a0, .inl (kt, 600, .inl g4))]) [0, 1] (by decide) rfl
  exact W.vret hx hb hr (fun t ht hW => ⟨⟨g4, rfl, trivial, by rw [ht]; exact hP9, hD9⟩, hS.F ht⟩) hS.2.2 dX7_putBytes_43
