set_option maxHeartbeats 4000000 in
set_option maxRecDepth 100000 in
theorem g_X8_signOf (l : Launch) (dC : Nat → ClassId) (dI : Nat → Nat → Nat) (aa : Nat) (ha : aa < 256) : Met l yX8_signOf wsX8_signOf ({ frames := 0, cells := 0, slots := 0, locals := 0 }) (va_Pc [.int (nI aa)] (fun _ => True)) (vp_Si (fun r => ((r = (-1) ∧ (26 < sgF aa)) ∨ (∃ pp : Nat, r = nI pp ∧ (pp = sgF aa ∧ pp ≤ 26))))) 0 0 (fun _ => False) := by
  refine Met.ofW (cc := cX8_signOf) (maxL := 1) (ret := (some .int)) (by decide) rfl ?_
  intro p e s m args below meth c s₁ B hml hv
  obtain ⟨rfl, -⟩ := hv
  have hx := B.exec
  have hb := B.bytes
  have hr := B.returns
  have hts := atoms_spec (ws := wsX8_signOf) B.pre
  have hown : s.vm.findClass RX8 = some m.cls := findClass_of_methodNamed B.named
  have hlocks := B.notSynchronized
  have hl := lv_entry ([.int (nI aa)]) (n := 1) (Nat.le_of_ble_eq_true rfl)
  rw [lg_entry_eq]
  generalize (lg_sl ([.int (nI aa)]) ++ List.replicate (1 - (lg_sl ([.int (nI aa)])).length) Slot.unset).toArray = ls at hl ⊢
  replace hl : lv_has ls 1 [(0, .int (nI aa))] := hl
  refine lv_iload_n hx hb dX8_signOf_0 rfl (lv_at hl 0 rfl) ?_
  refine lv_bipush (v := 97) hx hb dX8_signOf_1 (by decide) ?_
  refine lv_icmp_lt (tgt := 17) hx hb dX8_signOf_3 (by decide) (fun c_3 => ?_) (fun c_3 => ?_)
  · have n_3 : aa < 97 := (nI_ltI (a := aa) (b := 97) (by omega) (by omega)).mp c_3
    refine lv_iload_n hx hb dX8_signOf_17 rfl (lv_at hl 0 rfl) ?_
    refine lv_bipush (v := 65) hx hb dX8_signOf_18 (by decide) ?_
    refine lv_icmp_lt (tgt := 34) hx hb dX8_signOf_20 (by decide) (fun c_20 => ?_) (fun c_20 => ?_)
    · have n_20 : aa < 65 := (nI_ltI (a := aa) (b := 65) (by omega) (by omega)).mp c_20
      refine lv_iload_n hx hb dX8_signOf_34 rfl (lv_at hl 0 rfl) ?_
      refine lv_bipush (v := 39) hx hb dX8_signOf_35 (by decide) ?_
      refine lv_icmp_ne (tgt := 45) hx hb dX8_signOf_37 (by decide) (fun c_37 => ?_) (fun c_37 => ?_)
      · have n_37 : aa ≠ 39 := fun h9 => c_37 ((nI_eq (a := aa) (b := 39) (by omega) (by omega)).mpr h9)
        refine lv_iconst (v := (-1)) hx hb dX8_signOf_45 (by decide) ?_
        exact W.iret (v := (-1)) hx hb hr (fun t ht hW => ⟨(-1), rfl, by first | (exfalso; omega) | exact Or.inl ⟨rfl, sgF_hi (by omega) (by omega) n_37⟩, ht⟩) (fun _ h => absurd h List.not_mem_nil) dX8_signOf_46
      · have n_37 : aa = 39 := (nI_eq (a := aa) (b := 39) (by omega) (by omega)).mp c_37
        refine lv_bipush (v := 26) hx hb dX8_signOf_40 (by decide) ?_
        refine lv_goto (tgt := 46) hx hb dX8_signOf_42 (by decide) ?_
        exact W.iret (v := 26) hx hb hr (fun t ht hW => ⟨26, rfl, by first | (exfalso; omega) | exact Or.inr ⟨26, rfl, by unfold sgF; (repeat (first | rw [if_pos (by omega)] | rw [if_neg (by omega)])); omega⟩, ht⟩) (fun _ h => absurd h List.not_mem_nil) dX8_signOf_46
    · have n_20 : 65 ≤ aa := Nat.not_lt.mp (fun h9 => c_20 ((nI_ltI (a := aa) (b := 65) (by omega) (by omega)).mpr h9))
      refine lv_iload_n hx hb dX8_signOf_23 rfl (lv_at hl 0 rfl) ?_
      refine lv_bipush (v := 90) hx hb dX8_signOf_24 (by decide) ?_
      refine lv_icmp_gt (tgt := 34) hx hb dX8_signOf_26 (by decide) (fun c_26 => ?_) (fun c_26 => ?_)
      · have n_26 : 90 < aa := (nI_ltI (a := 90) (b := aa) (by omega) (by omega)).mp c_26
        refine lv_iload_n hx hb dX8_signOf_34 rfl (lv_at hl 0 rfl) ?_
        refine lv_bipush (v := 39) hx hb dX8_signOf_35 (by decide) ?_
        refine lv_icmp_ne (tgt := 45) hx hb dX8_signOf_37 (by decide) (fun c_37 => ?_) (fun c_37 => ?_)
        · have n_37 : aa ≠ 39 := fun h9 => c_37 ((nI_eq (a := aa) (b := 39) (by omega) (by omega)).mpr h9)
          refine lv_iconst (v := (-1)) hx hb dX8_signOf_45 (by decide) ?_
          exact W.iret (v := (-1)) hx hb hr (fun t ht hW => ⟨(-1), rfl, by first | (exfalso; omega) | exact Or.inl ⟨rfl, sgF_hi (by omega) (by omega) n_37⟩, ht⟩) (fun _ h => absurd h List.not_mem_nil) dX8_signOf_46
        · have n_37 : aa = 39 := (nI_eq (a := aa) (b := 39) (by omega) (by omega)).mp c_37
          refine lv_bipush (v := 26) hx hb dX8_signOf_40 (by decide) ?_
          refine lv_goto (tgt := 46) hx hb dX8_signOf_42 (by decide) ?_
          exact W.iret (v := 26) hx hb hr (fun t ht hW => ⟨26, rfl, by first | (exfalso; omega) | exact Or.inr ⟨26, rfl, by unfold sgF; (repeat (first | rw [if_pos (by omega)] | rw [if_neg (by omega)])); omega⟩, ht⟩) (fun _ h => absurd h List.not_mem_nil) dX8_signOf_46
      · have n_26 : aa ≤ 90 := Nat.not_lt.mp (fun h9 => c_26 ((nI_ltI (a := 90) (b := aa) (by omega) (by omega)).mpr h9))
        refine lv_iload_n hx hb dX8_signOf_29 rfl (lv_at hl 0 rfl) ?_
        refine lv_bipush (v := 65) hx hb dX8_signOf_30 (by decide) ?_
        refine lv_isub hx hb dX8_signOf_32 ?_
        refine lv_topi (fun x_32 ex_32 => ?_)
        obtain rfl : nI (aa - 65) = x_32 := Eq.symm (ex_32.trans (pk_sub (a := aa) (b := 65) (by omega)))
        exact W.iret (v := nI (aa - 65)) hx hb hr (fun t ht hW => ⟨nI (aa - 65), rfl, by first | (exfalso; omega) | exact Or.inr ⟨aa - 65, rfl, by unfold sgF; (repeat (first | rw [if_pos (by omega)] | rw [if_neg (by omega)])); omega⟩, ht⟩) (fun _ h => absurd h List.not_mem_nil) dX8_signOf_33
  · have n_3 : 97 ≤ aa := Nat.not_lt.mp (fun h9 => c_3 ((nI_ltI (a := aa) (b := 97) (by omega) (by omega)).mpr h9))
    refine lv_iload_n hx hb dX8_signOf_6 rfl (lv_at hl 0 rfl) ?_
    refine lv_bipush (v := 122) hx hb dX8_signOf_7 (by decide) ?_
    refine lv_icmp_gt (tgt := 17) hx hb dX8_signOf_9 (by decide) (fun c_9 => ?_) (fun c_9 => ?_)
    · have n_9 : 122 < aa := (nI_ltI (a := 122) (b := aa) (by omega) (by omega)).mp c_9
      refine lv_iload_n hx hb dX8_signOf_17 rfl (lv_at hl 0 rfl) ?_
      refine lv_bipush (v := 65) hx hb dX8_signOf_18 (by decide) ?_
      refine lv_icmp_lt (tgt := 34) hx hb dX8_signOf_20 (by decide) (fun c_20 => ?_) (fun c_20 => ?_)
      · have n_20 : aa < 65 := (nI_ltI (a := aa) (b := 65) (by omega) (by omega)).mp c_20
        refine lv_iload_n hx hb dX8_signOf_34 rfl (lv_at hl 0 rfl) ?_
        refine lv_bipush (v := 39) hx hb dX8_signOf_35 (by decide) ?_
        refine lv_icmp_ne (tgt := 45) hx hb dX8_signOf_37 (by decide) (fun c_37 => ?_) (fun c_37 => ?_)
        · have n_37 : aa ≠ 39 := fun h9 => c_37 ((nI_eq (a := aa) (b := 39) (by omega) (by omega)).mpr h9)
          refine lv_iconst (v := (-1)) hx hb dX8_signOf_45 (by decide) ?_
          exact W.iret (v := (-1)) hx hb hr (fun t ht hW => ⟨(-1), rfl, by first | (exfalso; omega) | exact Or.inl ⟨rfl, sgF_hi (by omega) (by omega) n_37⟩, ht⟩) (fun _ h => absurd h List.not_mem_nil) dX8_signOf_46
        · have n_37 : aa = 39 := (nI_eq (a := aa) (b := 39) (by omega) (by omega)).mp c_37
          refine lv_bipush (v := 26) hx hb dX8_signOf_40 (by decide) ?_
          refine lv_goto (tgt := 46) hx hb dX8_signOf_42 (by decide) ?_
          exact W.iret (v := 26) hx hb hr (fun t ht hW => ⟨26, rfl, by first | (exfalso; omega) | exact Or.inr ⟨26, rfl, by unfold sgF; (repeat (first | rw [if_pos (by omega)] | rw [if_neg (by omega)])); omega⟩, ht⟩) (fun _ h => absurd h List.not_mem_nil) dX8_signOf_46
      · have n_20 : 65 ≤ aa := Nat.not_lt.mp (fun h9 => c_20 ((nI_ltI (a := aa) (b := 65) (by omega) (by omega)).mpr h9))
        refine lv_iload_n hx hb dX8_signOf_23 rfl (lv_at hl 0 rfl) ?_
        refine lv_bipush (v := 90) hx hb dX8_signOf_24 (by decide) ?_
        refine lv_icmp_gt (tgt := 34) hx hb dX8_signOf_26 (by decide) (fun c_26 => ?_) (fun c_26 => ?_)
        · have n_26 : 90 < aa := (nI_ltI (a := 90) (b := aa) (by omega) (by omega)).mp c_26
          refine lv_iload_n hx hb dX8_signOf_34 rfl (lv_at hl 0 rfl) ?_
          refine lv_bipush (v := 39) hx hb dX8_signOf_35 (by decide) ?_
          refine lv_icmp_ne (tgt := 45) hx hb dX8_signOf_37 (by decide) (fun c_37 => ?_) (fun c_37 => ?_)
          · have n_37 : aa ≠ 39 := fun h9 => c_37 ((nI_eq (a := aa) (b := 39) (by omega) (by omega)).mpr h9)
            refine lv_iconst (v := (-1)) hx hb dX8_signOf_45 (by decide) ?_
            exact W.iret (v := (-1)) hx hb hr (fun t ht hW => ⟨(-1), rfl, by first | (exfalso; omega) | exact Or.inl ⟨rfl, sgF_hi (by omega) (by omega) n_37⟩, ht⟩) (fun _ h => absurd h List.not_mem_nil) dX8_signOf_46
          · have n_37 : aa = 39 := (nI_eq (a := aa) (b := 39) (by omega) (by omega)).mp c_37
            refine lv_bipush (v := 26) hx hb dX8_signOf_40 (by decide) ?_
            refine lv_goto (tgt := 46) hx hb dX8_signOf_42 (by decide) ?_
            exact W.iret (v := 26) hx hb hr (fun t ht hW => ⟨26, rfl, by first | (exfalso; omega) | exact Or.inr ⟨26, rfl, by unfold sgF; (repeat (first | rw [if_pos (by omega)] | rw [if_neg (by omega)])); omega⟩, ht⟩) (fun _ h => absurd h List.not_mem_nil) dX8_signOf_46
        · have n_26 : aa ≤ 90 := Nat.not_lt.mp (fun h9 => c_26 ((nI_ltI (a := 90) (b := aa) (by omega) (by omega)).mpr h9))
          refine lv_iload_n hx hb dX8_signOf_29 rfl (lv_at hl 0 rfl) ?_
          refine lv_bipush (v := 65) hx hb dX8_signOf_30 (by decide) ?_
          refine lv_isub hx hb dX8_signOf_32 ?_
          refine lv_topi (fun x_32 ex_32 => ?_)
          obtain rfl : nI (aa - 65) = x_32 := Eq.symm (ex_32.trans (pk_sub (a := aa) (b := 65) (by omega)))
          exact W.iret (v := nI (aa - 65)) hx hb hr (fun t ht hW => ⟨nI (aa - 65), rfl, by first | (exfalso; omega) | exact Or.inr ⟨aa - 65, rfl, by unfold sgF; (repeat (first | rw [if_pos (by omega)] | rw [if_neg (by omega)])); omega⟩, ht⟩) (fun _ h => absurd h List.not_mem_nil) dX8_signOf_33
    · have n_9 : aa ≤ 122 := Nat.not_lt.mp (fun h9 => c_9 ((nI_ltI (a := 122) (b := aa) (by omega) (by omega)).mpr h9))
      refine lv_iload_n hx hb dX8_signOf_12 rfl (lv_at hl 0 rfl) ?_
      refine lv_bipush (v := 97) hx hb dX8_signOf_13 (by decide) ?_
      refine lv_isub hx hb dX8_signOf_15 ?_
      refine lv_topi (fun x_15 ex_15 => ?_)
      obtain rfl : nI (aa - 97) = x_15 := Eq.symm (ex_15.trans (pk_sub (a := aa) (b := 97) (by omega)))
      exact W.iret (v := nI (aa - 97)) hx hb hr (fun t ht hW => ⟨nI (aa - 97), rfl, by first | (exfalso; omega) | exact Or.inr ⟨aa - 97, rfl, by unfold sgF; (repeat (first | rw [if_pos (by omega)] | rw [if_neg (by omega)])); omega⟩, ht⟩) (fun _ h => absurd h List.not_mem_nil) dX8_signOf_16

set_option maxHeartbeats 4000000 in
set_option maxRecDepth 100000 in
theorem g_X8_isDigit (l : Launch) (dC : Nat → ClassId) (dI : Nat → Nat → Nat) (aa : Nat) (ha : aa < 256) : Met l yX8_isDigit wsX8_isDigit ({ frames := 0, cells := 0, slots := 0, locals := 0 }) (va_Pc [.int (nI aa)] (fun _ => True)) (vp_Si (fun r => ((r = 1 ∧ (sgF aa = 28)) ∨ (r = 0 ∧ ¬ (sgF aa = 28))))) 0 0 (fun _ => False) := by
  refine Met.ofW (cc := cX8_isDigit) (maxL := 1) (ret := (some .boolean)) (by decide) rfl ?_
  intro p e s m args below meth c s₁ B hml hv
  obtain ⟨rfl, -⟩ := hv
  have hx := B.exec
  have hb := B.bytes
  have hr := B.returns
  have hts := atoms_spec (ws := wsX8_isDigit) B.pre
  have hown : s.vm.findClass RX8 = some m.cls := findClass_of_methodNamed B.named
  have hlocks := B.notSynchronized
  have hl := lv_entry ([.int (nI aa)]) (n := 1) (Nat.le_of_ble_eq_true rfl)
  rw [lg_entry_eq]
  generalize (lg_sl ([.int (nI aa)]) ++ List.replicate (1 - (lg_sl ([.int (nI aa)])).length) Slot.unset).toArray = ls at hl ⊢
  replace hl : lv_has ls 1 [(0, .int (nI aa))] := hl
  refine lv_iload_n hx hb dX8_isDigit_0 rfl (lv_at hl 0 rfl) ?_
  refine lv_bipush (v := 48) hx hb dX8_isDigit_1 (by decide) ?_
  refine lv_icmp_lt (tgt := 16) hx hb dX8_isDigit_3 (by decide) (fun c_3 => ?_) (fun c_3 => ?_)
  · have n_3 : aa < 48 := (nI_ltI (a := aa) (b := 48) (by omega) (by omega)).mp c_3
    refine lv_iconst (v := 0) hx hb dX8_isDigit_16 (by decide) ?_
    exact W.zret (v := 0) hx hb hr (rfl) (fun t ht hW => ⟨0, rfl, Or.inr ⟨rfl, by exact fun h9 => absurd (sgF_d.mp h9) (by omega)⟩, ht⟩) (fun _ h => absurd h List.not_mem_nil) dX8_isDigit_17
  · have n_3 : 48 ≤ aa := Nat.not_lt.mp (fun h9 => c_3 ((nI_ltI (a := aa) (b := 48) (by omega) (by omega)).mpr h9))
    refine lv_iload_n hx hb dX8_isDigit_6 rfl (lv_at hl 0 rfl) ?_
    refine lv_bipush (v := 57) hx hb dX8_isDigit_7 (by decide) ?_
    refine lv_icmp_gt (tgt := 16) hx hb dX8_isDigit_9 (by decide) (fun c_9 => ?_) (fun c_9 => ?_)
    · have n_9 : 57 < aa := (nI_ltI (a := 57) (b := aa) (by omega) (by omega)).mp c_9
      refine lv_iconst (v := 0) hx hb dX8_isDigit_16 (by decide) ?_
      exact W.zret (v := 0) hx hb hr (rfl) (fun t ht hW => ⟨0, rfl, Or.inr ⟨rfl, by exact fun h9 => absurd (sgF_d.mp h9) (by omega)⟩, ht⟩) (fun _ h => absurd h List.not_mem_nil) dX8_isDigit_17
    · have n_9 : aa ≤ 57 := Nat.not_lt.mp (fun h9 => c_9 ((nI_ltI (a := 57) (b := aa) (by omega) (by omega)).mpr h9))
      refine lv_iconst (v := 1) hx hb dX8_isDigit_12 (by decide) ?_
      refine lv_goto (tgt := 17) hx hb dX8_isDigit_13 (by decide) ?_
      exact W.zret (v := 1) hx hb hr (rfl) (fun t ht hW => ⟨1, rfl, Or.inl ⟨rfl, by exact sgF_d.mpr (by omega)⟩, ht⟩) (fun _ h => absurd h List.not_mem_nil) dX8_isDigit_17

set_option maxHeartbeats 4000000 in
set_option maxRecDepth 100000 in
theorem g_X8_most (l : Launch) (dC : Nat → ClassId) (dI : Nat → Nat → Nat) (nn_ : Nat) (hn : nn_ ≤ 600) : Met l yX8_most wsX8_most ({ frames := 1, cells := 0, slots := 0, locals := 13 }) (va_Pc [.int (nI nn_)] (fun _ => True)) (vp_Si (fun r => r = nI (mst nn_))) 0 0 (fun _ => False) := by
  refine Met.ofW (cc := cX8_most) (maxL := 1) (ret := (some .int)) (by decide) rfl ?_
  intro p e s m args below meth c s₁ B hml hv
  obtain ⟨rfl, -⟩ := hv
  have hx := B.exec
  have hb := B.bytes
  have hr := B.returns
  have hts := atoms_spec (ws := wsX8_most) B.pre
  have hown : s.vm.findClass RX8 = some m.cls := findClass_of_methodNamed B.named
  have hlocks := B.notSynchronized
  have hl := lv_entry ([.int (nI nn_)]) (n := 1) (Nat.le_of_ble_eq_true rfl)
  rw [lg_entry_eq]
  generalize (lg_sl ([.int (nI nn_)]) ++ List.replicate (1 - (lg_sl ([.int (nI nn_)])).length) Slot.unset).toArray = ls at hl ⊢
  replace hl : lv_has ls 1 [(0, .int (nI nn_))] := hl
  refine lv_iload_n hx hb dX8_most_0 rfl (lv_at hl 0 rfl) ?_
  refine lv_bipush (v := 24) hx hb dX8_most_1 (by decide) ?_
  refine va_mmin hx hb (by rw [hml]; exact hl.1.symm) hown (hts (.methodLink RX8 114 Lib.Math.min.name) (by decide +kernel)) (hts (.static Lib.Math.min.name) (by decide +kernel)) (hts (.initialized "java/lang/Math") (by decide +kernel)) (hts (.code Lib.Math.min.name Lib.Math.min.code 2 (some .int)) (by decide +kernel)) (Nat.le_of_ble_eq_true rfl) (Nat.le_of_ble_eq_true rfl) (Nat.le_of_ble_eq_true rfl) (Nat.le_of_ble_eq_true rfl) dX8_most_3 ?_
  refine lv_topi (fun y_1 ey_1 => ?_)
  obtain rfl : nI (mst nn_) = y_1 := Eq.symm (ey_1.trans (mst_min (by omega)))
  exact W.iret (v := nI (mst nn_)) hx hb hr (fun t ht hW => ⟨nI (mst nn_), rfl, rfl, ht⟩) (fun _ h => absurd h List.not_mem_nil) dX8_most_6

set_option maxHeartbeats 4000000 in
set_option maxRecDepth 100000 in
theorem g_X8_isSame (l : Launch) (dC : Nat → ClassId) (dI : Nat → Nat → Nat) (ra : Nat) (rb : Nat) (s0 : Nat) (mm : Nat) (t0 : Nat) (ll : Nat) (qb : Nat) (ka : ClassId) (kb : ClassId) (f : Nat → Int32) (lt : Nat → Nat) (hs : s0 + mm ≤ 600) (ht : t0 + ll ≤ qb ∧ qb ≤ 1440 ∧ ll ≤ 24) (hlt : ∀ j, lt j < 30) : Met l yX8_isSame wsX8_isSame ({ frames := 1, cells := 0, slots := 0, locals := 20 }) (va_Pc [.ref ra, .int (nI s0), .int (nI mm), .ref rb, .int (nI t0), .int (nI ll)] (fun U => va_P (dC, dI) vwCl [(ra, .inl (ka, 600, .inl f)), (rb, .inl (kb, qb, .inl (nR lt)))] U.heap ∧ va_K (dC, dI) vwCl [(ka, .byte), (kb, .byte)] U)) (vp_Si (fun r => ((r = 1 ∧ (mW f lt s0 mm t0 ll)) ∨ (r = 0 ∧ ¬ (mW f lt s0 mm t0 ll))))) 0 0 (fun _ => False) := by
  refine Met.ofW (cc := cX8_isSame) (maxL := 8) (ret := (some .boolean)) (by decide) rfl ?_
  intro p e s m args below meth c s₁ B hml hv
  obtain ⟨rfl, hP, hK⟩ := hv
  have hx := B.exec
  have hb := B.bytes
  have hr := B.returns
  have hts := atoms_spec (ws := wsX8_isSame) B.pre
  have hown : s.vm.findClass RX8 = some m.cls := findClass_of_methodNamed B.named
  have hlocks := B.notSynchronized
  replace hP : va_P (dC, dI) vwCl [(ra, .inl (ka, 600, .inl f)), (rb, .inl (kb, qb, .inl (nR lt)))] s.heap := hP
  have hl := lv_entry ([.ref ra, .int (nI s0), .int (nI mm), .ref rb, .int (nI t0), .int (nI ll)]) (n := 8) (Nat.le_of_ble_eq_true rfl)
  rw [lg_entry_eq]
  generalize (lg_sl ([.ref ra, .int (nI s0), .int (nI mm), .ref rb, .int (nI t0), .int (nI ll)]) ++ List.replicate (8 - (lg_sl ([.ref ra, .int (nI s0), .int (nI mm), .ref rb, .int (nI t0), .int (nI ll)])).length) Slot.unset).toArray = ls at hl ⊢
  replace hl : lv_has ls 8 [(0, .ref ra), (1, .int (nI s0)), (2, .int (nI mm)), (3, .ref rb), (4, .int (nI t0)), (5, .int (nI ll))] := hl
  refine lv_iload_n hx hb dX8_isSame_0 rfl (lv_at hl 2 rfl) ?_
  refine lv_iload hx hb dX8_isSame_1 (lv_at hl 5 rfl) ?_
  refine lv_icmp_ne (tgt := 10) hx hb dX8_isSame_3 (by decide) (fun c_3 => ?_) (fun c_3 => ?_)
  · have n_3 : mm ≠ ll := fun h9 => c_3 ((nI_eq (a := mm) (b := ll) (by omega) (by omega)).mpr h9)
    refine lv_iconst (v := 0) hx hb dX8_isSame_10 (by decide) ?_
    refine lv_istore (lv' := [(6, .int 0), (0, .ref ra), (1, .int (nI s0)), (2, .int (nI mm)), (3, .ref rb), (4, .int (nI t0)), (5, .int (nI ll))]) hx hb dX8_isSame_11 hl (by decide) rfl (fun ls hl => ?_)
    refine lv_iconst (v := 0) hx hb dX8_isSame_13 (by decide) ?_
    refine lv_istore (lv' := [(7, .int 0), (6, .int 0), (0, .ref ra), (1, .int (nI s0)), (2, .int (nI mm)), (3, .ref rb), (4, .int (nI t0)), (5, .int (nI ll))]) hx hb dX8_isSame_14 hl (by decide) rfl (fun ls hl => ?_)
    refine lv_iload hx hb dX8_isSame_16 (lv_at hl 0 rfl) ?_
    refine lv_iload hx hb dX8_isSame_18 (lv_at hl 7 rfl) ?_
    refine lv_icmp_ge (tgt := 64) hx hb dX8_isSame_20 (by decide) (fun c_20 => ?_) (fun c_20 => ?_)
    · have n_20 : ll ≤ 0 := (nI_leI (a := ll) (b := 0) (by omega) (by omega)).mp c_20
      refine lv_iload hx hb dX8_isSame_64 (lv_at hl 1 rfl) ?_
      exact W.zret (v := 0) hx hb hr (rfl) (fun t ht hW => ⟨0, rfl, Or.inr ⟨rfl, by exact fun h => n_3 h.1⟩, ht⟩) (fun _ h => absurd h List.not_mem_nil) dX8_isSame_66
    · have n_20 : 0 < ll := Nat.not_le.mp (fun h9 => c_20 ((nI_leI (a := ll) (b := 0) (by omega) (by omega)).mpr h9))
      refine lv_iload hx hb dX8_isSame_23 (lv_at hl 1 rfl) ?_
      refine lv_if_eq (tgt := 64) hx hb dX8_isSame_25 (by decide) (fun c_25 => ?_) (fun c_25 => ?_)
      rotate_left
      · exact absurd (by decide) c_25
      refine lv_iload hx hb dX8_isSame_64 (lv_at hl 1 rfl) ?_
      exact W.zret (v := 0) hx hb hr (rfl) (fun t ht hW => ⟨0, rfl, Or.inr ⟨rfl, by exact fun h => n_3 h.1⟩, ht⟩) (fun _ h => absurd h List.not_mem_nil) dX8_isSame_66
  · have n_3 : mm = ll := (nI_eq (a := mm) (b := ll) (by omega) (by omega)).mp c_3
    refine lv_iconst (v := 1) hx hb dX8_isSame_6 (by decide) ?_
    refine lv_goto (tgt := 11) hx hb dX8_isSame_7 (by decide) ?_
    refine lv_istore (lv' := [(6, .int 1), (0, .ref ra), (1, .int (nI s0)), (2, .int (nI mm)), (3, .ref rb), (4, .int (nI t0)), (5, .int (nI ll))]) hx hb dX8_isSame_11 hl (by decide) rfl (fun ls hl => ?_)
    refine lv_iconst (v := 0) hx hb dX8_isSame_13 (by decide) ?_
    refine lv_istore (lv' := [(7, .int 0), (6, .int 1), (0, .ref ra), (1, .int (nI s0)), (2, .int (nI mm)), (3, .ref rb), (4, .int (nI t0)), (5, .int (nI ll))]) hx hb dX8_isSame_14 hl (by decide) rfl (fun ls hl => ?_)
    obtain ⟨kk, e_kk⟩ : ∃ y : Nat, y = 0 := ⟨_, rfl⟩
    replace hl : lv_has ls 8 [(0, .ref ra), (1, .int (nI s0)), (2, .int (nI mm)), (3, .ref rb), (4, .int (nI t0)), (5, .int (nI ll)), (6, .int 1), (7, .int (nI kk))] := by subst e_kk; exact lv_sub hl [2, 3, 4, 5, 6, 7, 1, 0] rfl
    have hk1 : kk ≤ ll := by subst e_kk; exact Nat.zero_le _
    have hk2 : ∀ k, k < kk → gm f (s0 + k) ≤ 26 ∧ gm f (s0 + k) = lt (t0 + k) := by subst e_kk; exact fun k hk => absurd hk (Nat.not_lt_zero k)
    clear e_kk
    obtain ⟨nn16, hnn16⟩ : ∃ q : Nat, ll - kk < q := ⟨_, Nat.lt_succ_self _⟩
    induction nn16 generalizing kk ls with
    | zero => exact absurd hnn16 (Nat.not_lt_zero _)
    | succ nn16 ih16 =>
      refine lv_iload hx hb dX8_isSame_16 (lv_at hl 7 rfl) ?_
      refine lv_iload hx hb dX8_isSame_18 (lv_at hl 5 rfl) ?_
      refine lv_icmp_ge (tgt := 64) hx hb dX8_isSame_20 (by decide) (fun c_20 => ?_) (fun c_20 => ?_)
      · have n_20 : ll ≤ kk := (nI_leI (a := ll) (b := kk) (by omega) (by omega)).mp c_20
        refine lv_iload hx hb dX8_isSame_64 (lv_at hl 6 rfl) ?_
        exact W.zret (v := 1) hx hb hr (rfl) (fun t ht hW => ⟨1, rfl, Or.inl ⟨rfl, by exact ⟨n_3, fun k hk => hk2 k (by omega)⟩⟩, ht⟩) (fun _ h => absurd h List.not_mem_nil) dX8_isSame_66
      · have n_20 : kk < ll := Nat.not_le.mp (fun h9 => c_20 ((nI_leI (a := ll) (b := kk) (by omega) (by omega)).mpr h9))
        refine lv_iload hx hb dX8_isSame_23 (lv_at hl 6 rfl) ?_
        refine lv_if_eq (tgt := 64) hx hb dX8_isSame_25 (by decide) (fun c_25 => ?_) (fun c_25 => ?_)
        · exact absurd c_25 (by decide)
        refine lv_aload_n hx hb dX8_isSame_28 rfl (lv_at hl 0 rfl) ?_
        refine lv_iload_n hx hb dX8_isSame_29 rfl (lv_at hl 1 rfl) ?_
        refine lv_iload hx hb dX8_isSame_30 (lv_at hl 7 rfl) ?_
        refine lv_iadd hx hb dX8_isSame_32 ?_
        refine lv_topi (fun x_32 ex_32 => ?_)
        obtain rfl : nI (s0 + kk) = x_32 := Eq.symm (ex_32.trans (nI_add s0 kk))
        refine va_bald hx hb hK hP 0 0 rfl rfl (i := nI (s0 + kk)) (vp_in_nI (by omega) (by omega)) dX8_isSame_33 ?_
        refine lv_topi (fun x_33 ex_33 => ?_)
        obtain rfl : f (s0 + kk) = x_33 := Eq.symm (ex_33.trans (fR_at (by omega)))
        refine lv_sipush (v := 255) hx hb dX8_isSame_34 (by decide) ?_
        refine lv_iand hx hb dX8_isSame_37 ?_
        refine lv_topi (fun x_37 ex_37 => ?_)
        obtain rfl : nI ((f (s0 + kk)).toBitVec.toNat % 256) = x_37 := Eq.symm (ex_37.trans (pk_and _ 8 (by decide)))
        refine vp_callSi (W.runS (As := [.int (nI ((f (s0 + kk)).toBitVec.toNat % 256))]) (rest := []) ⟨hx, hb, hml, hown, hts⟩ (g_X8_signOf l dC dI ((f (s0 + kk)).toBitVec.toNat % 256) (Nat.mod_lt _ (by decide))) (va_cwS 1 hts gX8_isSame_X8_signOf rfl rfl rfl (by decide +kernel) ⟨Nat.le_of_ble_eq_true rfl, Nat.le_of_ble_eq_true rfl⟩) ⟨fun a U g mk q => q, fun U hU hW => ⟨rfl, trivial⟩⟩ rfl rfl hl.1 rfl (lv_room (Nat.le_of_ble_eq_true rfl)) dX8_isSame_38 ⟨Nat.le_of_ble_eq_true rfl, Nat.le_of_ble_eq_true rfl⟩) (fun r_38 hw_38 => ?_)
        rcases hw_38 with ⟨hr_38, hb_38⟩ | ⟨pp_38, hr_38, hb_38⟩
        · subst hr_38
          have hbg : 26 < gm f (s0 + kk) := hb_38
          refine lv_aload_n hx hb dX8_isSame_41 rfl (lv_at hl 3 rfl) ?_
          refine lv_iload hx hb dX8_isSame_42 (lv_at hl 4 rfl) ?_
          refine lv_iload hx hb dX8_isSame_44 (lv_at hl 7 rfl) ?_
          refine lv_iadd hx hb dX8_isSame_46 ?_
          refine lv_topi (fun x_46 ex_46 => ?_)
          obtain rfl : nI (t0 + kk) = x_46 := Eq.symm (ex_46.trans (nI_add t0 kk))
          refine va_bald hx hb hK hP 1 1 rfl rfl (i := nI (t0 + kk)) (vp_in_nI (by omega) (by omega)) dX8_isSame_47 ?_
          refine lv_topi (fun x_47 ex_47 => ?_)
          obtain rfl : nI (lt (t0 + kk)) = x_47 := Eq.symm (ex_47.trans (nR_at (by omega)))
          have h48 := hlt (t0 + kk)
          refine lv_icmp_ne (tgt := 55) hx hb dX8_isSame_48 (by decide) (fun c_48 => ?_) (fun c_48 => ?_)
          rotate_left
          · exact absurd c_48 (fun h9 => nI_nm1 (by omega) h9.symm)
          refine lv_iconst (v := 0) hx hb dX8_isSame_55 (by decide) ?_
          refine lv_istore (lv' := [(6, .int 0), (0, .ref ra), (1, .int (nI s0)), (2, .int (nI mm)), (3, .ref rb), (4, .int (nI t0)), (5, .int (nI ll)), (7, .int (nI kk))]) hx hb dX8_isSame_56 hl (by decide) rfl (fun ls hl => ?_)
          refine lv_iinc (v := nI (kk + 1)) (lv' := [(7, .int (nI (kk + 1))), (6, .int 0), (0, .ref ra), (1, .int (nI s0)), (2, .int (nI mm)), (3, .ref rb), (4, .int (nI t0)), (5, .int (nI ll))]) hx hb dX8_isSame_58 hl (k := 7) rfl (nI_1 _) (by decide) rfl (fun ls hl => ?_)
          refine lv_goto (tgt := 16) hx hb dX8_isSame_61 (by decide) ?_
          refine lv_iload hx hb dX8_isSame_16 (lv_at hl 0 rfl) ?_
          refine lv_iload hx hb dX8_isSame_18 (lv_at hl 7 rfl) ?_
          refine lv_icmp_ge (tgt := 64) hx hb dX8_isSame_20 (by decide) (fun c_20_2 => ?_) (fun c_20_2 => ?_)
          · have n_20_2 : ll ≤ (kk + 1) := (nI_leI (a := ll) (b := (kk + 1)) (by omega) (by omega)).mp c_20_2
            refine lv_iload hx hb dX8_isSame_64 (lv_at hl 1 rfl) ?_
            exact W.zret (v := 0) hx hb hr (rfl) (fun t ht hW => ⟨0, rfl, Or.inr ⟨rfl, by exact fun h => absurd (h.2 kk (by omega)).1 (by omega)⟩, ht⟩) (fun _ h => absurd h List.not_mem_nil) dX8_isSame_66
          · have n_20_2 : (kk + 1) < ll := Nat.not_le.mp (fun h9 => c_20_2 ((nI_leI (a := ll) (b := (kk + 1)) (by omega) (by omega)).mpr h9))
            refine lv_iload hx hb dX8_isSame_23 (lv_at hl 1 rfl) ?_
            refine lv_if_eq (tgt := 64) hx hb dX8_isSame_25 (by decide) (fun c_25_2 => ?_) (fun c_25_2 => ?_)
            rotate_left
            · exact absurd (by decide) c_25_2
            refine lv_iload hx hb dX8_isSame_64 (lv_at hl 1 rfl) ?_
            exact W.zret (v := 0) hx hb hr (rfl) (fun t ht hW => ⟨0, rfl, Or.inr ⟨rfl, by exact fun h => absurd (h.2 kk (by omega)).1 (by omega)⟩, ht⟩) (fun _ h => absurd h List.not_mem_nil) dX8_isSame_66
        · subst hr_38
          have hbg : pp_38 = gm f (s0 + kk) ∧ pp_38 ≤ 26 := hb_38
          refine lv_aload_n hx hb dX8_isSame_41 rfl (lv_at hl 3 rfl) ?_
          refine lv_iload hx hb dX8_isSame_42 (lv_at hl 4 rfl) ?_
          refine lv_iload hx hb dX8_isSame_44 (lv_at hl 7 rfl) ?_
          refine lv_iadd hx hb dX8_isSame_46 ?_
          refine lv_topi (fun x_46 ex_46 => ?_)
          obtain rfl : nI (t0 + kk) = x_46 := Eq.symm (ex_46.trans (nI_add t0 kk))
          refine va_bald hx hb hK hP 1 1 rfl rfl (i := nI (t0 + kk)) (vp_in_nI (by omega) (by omega)) dX8_isSame_47 ?_
          refine lv_topi (fun x_47 ex_47 => ?_)
          obtain rfl : nI (lt (t0 + kk)) = x_47 := Eq.symm (ex_47.trans (nR_at (by omega)))
          have h48 := hlt (t0 + kk)
          refine lv_icmp_ne (tgt := 55) hx hb dX8_isSame_48 (by decide) (fun c_48 => ?_) (fun c_48 => ?_)
          · have n_48 : pp_38 ≠ (lt (t0 + kk)) := fun h9 => c_48 ((nI_eq (a := pp_38) (b := (lt (t0 + kk))) (by omega) (by omega)).mpr h9)
            refine lv_iconst (v := 0) hx hb dX8_isSame_55 (by decide) ?_
            refine lv_istore (lv' := [(6, .int 0), (0, .ref ra), (1, .int (nI s0)), (2, .int (nI mm)), (3, .ref rb), (4, .int (nI t0)), (5, .int (nI ll)), (7, .int (nI kk))]) hx hb dX8_isSame_56 hl (by decide) rfl (fun ls hl => ?_)
            refine lv_iinc (v := nI (kk + 1)) (lv' := [(7, .int (nI (kk + 1))), (6, .int 0), (0, .ref ra), (1, .int (nI s0)), (2, .int (nI mm)), (3, .ref rb), (4, .int (nI t0)), (5, .int (nI ll))]) hx hb dX8_isSame_58 hl (k := 7) rfl (nI_1 _) (by decide) rfl (fun ls hl => ?_)
            refine lv_goto (tgt := 16) hx hb dX8_isSame_61 (by decide) ?_
            refine lv_iload hx hb dX8_isSame_16 (lv_at hl 0 rfl) ?_
            refine lv_iload hx hb dX8_isSame_18 (lv_at hl 7 rfl) ?_
            refine lv_icmp_ge (tgt := 64) hx hb dX8_isSame_20 (by decide) (fun c_20_2 => ?_) (fun c_20_2 => ?_)
            · have n_20_2 : ll ≤ (kk + 1) := (nI_leI (a := ll) (b := (kk + 1)) (by omega) (by omega)).mp c_20_2
              refine lv_iload hx hb dX8_isSame_64 (lv_at hl 1 rfl) ?_
              exact W.zret (v := 0) hx hb hr (rfl) (fun t ht hW => ⟨0, rfl, Or.inr ⟨rfl, by exact fun h => n_48 (by rw [hbg.1]; exact (h.2 kk (by omega)).2)⟩, ht⟩) (fun _ h => absurd h List.not_mem_nil) dX8_isSame_66
            · have n_20_2 : (kk + 1) < ll := Nat.not_le.mp (fun h9 => c_20_2 ((nI_leI (a := ll) (b := (kk + 1)) (by omega) (by omega)).mpr h9))
              refine lv_iload hx hb dX8_isSame_23 (lv_at hl 1 rfl) ?_
              refine lv_if_eq (tgt := 64) hx hb dX8_isSame_25 (by decide) (fun c_25_2 => ?_) (fun c_25_2 => ?_)
              rotate_left
              · exact absurd (by decide) c_25_2
              refine lv_iload hx hb dX8_isSame_64 (lv_at hl 1 rfl) ?_
              exact W.zret (v := 0) hx hb hr (rfl) (fun t ht hW => ⟨0, rfl, Or.inr ⟨rfl, by exact fun h => n_48 (by rw [hbg.1]; exact (h.2 kk (by omega)).2)⟩, ht⟩) (fun _ h => absurd h List.not_mem_nil) dX8_isSame_66
          · have n_48 : pp_38 = (lt (t0 + kk)) := (nI_eq (a := pp_38) (b := (lt (t0 + kk))) (by omega) (by omega)).mp c_48
            refine lv_iconst (v := 1) hx hb dX8_isSame_51 (by decide) ?_
            refine lv_goto (tgt := 56) hx hb dX8_isSame_52 (by decide) ?_
            refine lv_istore (lv' := [(6, .int 1), (0, .ref ra), (1, .int (nI s0)), (2, .int (nI mm)), (3, .ref rb), (4, .int (nI t0)), (5, .int (nI ll)), (7, .int (nI kk))]) hx hb dX8_isSame_56 hl (by decide) rfl (fun ls hl => ?_)
            refine lv_iinc (v := nI (kk + 1)) (lv' := [(7, .int (nI (kk + 1))), (6, .int 1), (0, .ref ra), (1, .int (nI s0)), (2, .int (nI mm)), (3, .ref rb), (4, .int (nI t0)), (5, .int (nI ll))]) hx hb dX8_isSame_58 hl (k := 7) rfl (nI_1 _) (by decide) rfl (fun ls hl => ?_)
            refine lv_goto (tgt := 16) hx hb dX8_isSame_61 (by decide) ?_
            replace hl : lv_has ls 8 [(0, .ref ra), (1, .int (nI s0)), (2, .int (nI mm)), (3, .ref rb), (4, .int (nI t0)), (5, .int (nI ll)), (6, .int 1), (7, .int (nI (kk + 1)))] := lv_sub hl [2, 3, 4, 5, 6, 7, 1, 0] rfl
            have hk29 : ∀ k, k < (kk + 1) → gm f (s0 + k) ≤ 26 ∧ gm f (s0 + k) = lt (t0 + k) := mW_s hk2 (by omega) (by omega)
            apply ih16 (kk := kk + 1) <;> first | assumption | omega

set_option maxHeartbeats 4000000 in
set_option maxRecDepth 100000 in
theorem g_X8_refused (l : Launch) (dC : Nat → ClassId) (dI : Nat → Nat → Nat) (h0 : Nat) (x0 : Int32) (x1 : Int32) (m2 : Nat) (c3 : Nat) (m4 : Nat) (m5 : Nat) (m6 : Nat) (m7 : Nat) (m8 : Nat) (m9 : Nat) (m10 : Nat) (m11 : Nat) (c12 : Nat) (c13 : Nat) (c14 : Nat) (m15 : Nat) (m16 : Nat) (m17 : Nat) (m18 : Nat) (m19 : Nat) (c20 : Nat) (x21 : Int32) (c22 : Nat) (c23 : Nat) (m24 : Nat) (m25 : Nat) (c26 : Nat) (c27 : Nat) (x28 : Int32) (m29 : Nat) (m30 : Nat) (m31 : Nat) (m32 : Nat) (m33 : Nat) (m34 : Nat) (x35 : Int32) (m36 : Nat) (c37 : Nat) (p0 : Int32) (sz : Nat) : Met l yX8_refused wsX8_refused ({ frames := 0, cells := 0, slots := 0, locals := 0 }) (va_Pc [.ref h0, .int p0] (fun U => U.heap.size = sz ∧ va_P (dC, dI) vwCl [(h0, .inr (8, [.int x0, .int x1, .ref m2, .int (nI c3), .ref m4, .ref m5, .ref m6, .ref m7, .ref m8, .ref m9, .ref m10, .ref m11, .int (nI c12), .int (nI c13), .int (nI c14), .ref m15, .ref m16, .ref m17, .ref m18, .ref m19, .int (nI c20), .int x21, .int (nI c22), .int (nI c23), .ref m24, .ref m25, .int (nI c26), .int (nI c27), .int x28, .ref m29, .ref m30, .ref m31, .ref m32, .ref m33, .ref m34, .int x35, .ref m36, .int (nI c37)]))] U.heap ∧ va_K (dC, dI) vwCl [] U ∧ va_D (fun _ => True) [(h0, .inr (8, [.int x0, .int x1, .ref m2, .int (nI c3), .ref m4, .ref m5, .ref m6, .ref m7, .ref m8, .ref m9, .ref m10, .ref m11, .int (nI c12), .int (nI c13), .int (nI c14), .ref m15, .ref m16, .ref m17, .ref m18, .ref m19, .int (nI c20), .int x21, .int (nI c22), .int (nI c23), .ref m24, .ref m25, .int (nI c26), .int (nI c27), .int x28, .ref m29, .ref m30, .ref m31, .ref m32, .ref m33, .ref m34, .int x35, .ref m36, .int (nI c37)]))])) (va_Qi (fun (r : Int32) (_ : Unit) => r = (-1)) (fun (_ : Unit) (t : State) => va_P (dC, dI) vwCl [(h0, .inr (8, [.int x0, .int p0, .ref m2, .int (nI c3), .ref m4, .ref m5, .ref m6, .ref m7, .ref m8, .ref m9, .ref m10, .ref m11, .int (nI c12), .int (nI c13), .int (nI c14), .ref m15, .ref m16, .ref m17, .ref m18, .ref m19, .int (nI c20), .int x21, .int (nI c22), .int (nI c23), .ref m24, .ref m25, .int (nI c26), .int (nI c27), .int x28, .ref m29, .ref m30, .ref m31, .ref m32, .ref m33, .ref m34, .int x35, .ref m36, .int (nI c37)]))] t.heap ∧ va_D (va_A [(h0, .inr (8, [.int x0, .int x1, .ref m2, .int (nI c3), .ref m4, .ref m5, .ref m6, .ref m7, .ref m8, .ref m9, .ref m10, .ref m11, .int (nI c12), .int (nI c13), .int (nI c14), .ref m15, .ref m16, .ref m17, .ref m18, .ref m19, .int (nI c20), .int x21, .int (nI c22), .int (nI c23), .ref m24, .ref m25, .int (nI c26), .int (nI c27), .int x28, .ref m29, .ref m30, .ref m31, .ref m32, .ref m33, .ref m34, .int x35, .ref m36, .int (nI c37)]))] sz) [(h0, .inr (8, [.int x0, .int p0, .ref m2, .int (nI c3), .ref m4, .ref m5, .ref m6, .ref m7, .ref m8, .ref m9, .ref m10, .ref m11, .int (nI c12), .int (nI c13), .int (nI c14), .ref m15, .ref m16, .ref m17, .ref m18, .ref m19, .int (nI c20), .int x21, .int (nI c22), .int (nI c23), .ref m24, .ref m25, .int (nI c26), .int (nI c27), .int x28, .ref m29, .ref m30, .ref m31, .ref m32, .ref m33, .ref m34, .int x35, .ref m36, .int (nI c37)]))]) (va_A [(h0, .inr (8, [.int x0, .int x1, .ref m2, .int (nI c3), .ref m4, .ref m5, .ref m6, .ref m7, .ref m8, .ref m9, .ref m10, .ref m11, .int (nI c12), .int (nI c13), .int (nI c14), .ref m15, .ref m16, .ref m17, .ref m18, .ref m19, .int (nI c20), .int x21, .int (nI c22), .int (nI c23), .ref m24, .ref m25, .int (nI c26), .int (nI c27), .int x28, .ref m29, .ref m30, .ref m31, .ref m32, .ref m33, .ref m34, .int x35, .ref m36, .int (nI c37)]))] sz)) 0 0 (va_A [(h0, .inr (8, [.int x0, .int x1, .ref m2, .int (nI c3), .ref m4, .ref m5, .ref m6, .ref m7, .ref m8, .ref m9, .ref m10, .ref m11, .int (nI c12), .int (nI c13), .int (nI c14), .ref m15, .ref m16, .ref m17, .ref m18, .ref m19, .int (nI c20), .int x21, .int (nI c22), .int (nI c23), .ref m24, .ref m25, .int (nI c26), .int (nI c27), .int x28, .ref m29, .ref m30, .ref m31, .ref m32, .ref m33, .ref m34, .int x35, .ref m36, .int (nI c37)]))] sz) := by
  refine Met.ofW (cc := cX8_refused) (maxL := 2) (ret := (some .int)) (by decide) rfl ?_
  intro p e s m args below meth c s₁ B hml hv
  obtain ⟨rfl, hsz, hP, hK, hD0⟩ := hv
  have hx := B.exec
  have hb := B.bytes
  have hr := B.returns
  have hts := atoms_spec (ws := wsX8_refused) B.pre
  have hown : s.vm.findClass RX8 = some m.cls := findClass_of_methodNamed B.named
  have hlocks := B.notSynchronized
  subst hsz
  have hD := hD0.self (sz := s.heap.size)
  clear hD0
  generalize hAe : va_A [(h0, .inr (8, [.int x0, .int x1, .ref m2, .int (nI c3), .ref m4, .ref m5, .ref m6, .ref m7, .ref m8, .ref m9, .ref m10, .ref m11, .int (nI c12), .int (nI c13), .int (nI c14), .ref m15, .ref m16, .ref m17, .ref m18, .ref m19, .int (nI c20), .int x21, .int (nI c22), .int (nI c23), .ref m24, .ref m25, .int (nI c26), .int (nI c27), .int x28, .ref m29, .ref m30, .ref m31, .ref m32, .ref m33, .ref m34, .int x35, .ref m36, .int (nI c37)]))] s.heap.size = A at hD ⊢
  have hA : ∀ q : Nat, s.heap.size ≤ q → A q := fun q h => by rw [← hAe]; exact Or.inr h
  clear hAe
  have hS : va_S A s.heap s.heap [] := va_S.rf
  replace hP : va_P (dC, dI) vwCl [(h0, .inr (8, [.int x0, .int x1, .ref m2, .int (nI c3), .ref m4, .ref m5, .ref m6, .ref m7, .ref m8, .ref m9, .ref m10, .ref m11, .int (nI c12), .int (nI c13), .int (nI c14), .ref m15, .ref m16, .ref m17, .ref m18, .ref m19, .int (nI c20), .int x21, .int (nI c22), .int (nI c23), .ref m24, .ref m25, .int (nI c26), .int (nI c27), .int x28, .ref m29, .ref m30, .ref m31, .ref m32, .ref m33, .ref m34, .int x35, .ref m36, .int (nI c37)]))] s.heap := hP
  have hl := lv_entry ([.ref h0, .int p0]) (n := 2) (Nat.le_of_ble_eq_true rfl)
  rw [lg_entry_eq]
  generalize (lg_sl ([.ref h0, .int p0]) ++ List.replicate (2 - (lg_sl ([.ref h0, .int p0])).length) Slot.unset).toArray = ls at hl ⊢
  replace hl : lv_has ls 2 [(0, .ref h0), (1, .int p0)] := hl
  have hi_X8 : ∀ w ∈ wsX80, w ∈ wsX8_refused := by decide +kernel
  have k_f100 := hts (.fieldLink RX8 100 "TongueTellerModel" "trouble" "I") (by decide +kernel)
  refine lv_aload_n hx hb dX8_refused_0 rfl (lv_at hl 0 rfl) ?_
  refine lv_iload_n hx hb dX8_refused_1 rfl (lv_at hl 1 rfl) ?_
  refine va_put (D := (dC, dI)) (ci := 8) (v := .int p0) (ty := .int) (C := RX8) (T := TX8) (N := 38) hx hb hts hi_X8 tyX8 tyX8_ok nmX8 hown hK hP hD hS 0 rfl rfl 1 (by decide) k_f100 (fun _ h9 => h9) rfl (by decide +kernel) rfl rfl (Nat.le_of_ble_eq_true rfl) dX8_refused_2 (fun H locs hP hD hS => ?_)
  replace hP : va_P (dC, dI) vwCl [(h0, .inr (8, [.int x0, .int p0, .ref m2, .int (nI c3), .ref m4, .ref m5, .ref m6, .ref m7, .ref m8, .ref m9, .ref m10, .ref m11, .int (nI c12), .int (nI c13), .int (nI c14), .ref m15, .ref m16, .ref m17, .ref m18, .ref m19, .int (nI c20), .int x21, .int (nI c22), .int (nI c23), .ref m24, .ref m25, .int (nI c26), .int (nI c27), .int x28, .ref m29, .ref m30, .ref m31, .ref m32, .ref m33, .ref m34, .int x35, .ref m36, .int (nI c37)]))] H := hP
  replace hD : va_D A [(h0, .inr (8, [.int x0, .int p0, .ref m2, .int (nI c3), .ref m4, .ref m5, .ref m6, .ref m7, .ref m8, .ref m9, .ref m10, .ref m11, .int (nI c12), .int (nI c13), .int (nI c14), .ref m15, .ref m16, .ref m17, .ref m18, .ref m19, .int (nI c20), .int x21, .int (nI c22), .int (nI c23), .ref m24, .ref m25, .int (nI c26), .int (nI c27), .int x28, .ref m29, .ref m30, .ref m31, .ref m32, .ref m33, .ref m34, .int x35, .ref m36, .int (nI c37)]))] := hD
  refine lv_iconst (v := (-1)) hx hb dX8_refused_5 (by decide) ?_
  have hP9 := hP.sub (ws' := [(h0, .inr (8, [.int x0, .int p0, .ref m2, .int (nI c3), .ref m4, .ref m5, .ref m6, .ref m7, .ref m8, .ref m9, .ref m10, .ref m11, .int (nI c12), .int (nI c13), .int (nI c14), .ref m15, .ref m16, .ref m17, .ref m18, .ref m19, .int (nI c20), .int x21, .int (nI c22), .int (nI c23), .ref m24, .ref m25, .int (nI c26), .int (nI c27), .int x28, .ref m29, .ref m30, .ref m31, .ref m32, .ref m33, .ref m34, .int x35, .ref m36, .int (nI c37)]))]) [0] rfl
  have hD9 := hD.sub (ws' := [(h0, .inr (8, [.int x0, .int p0, .ref m2, .int (nI c3), .ref m4, .ref m5, .ref m6, .ref m7, .ref m8, .ref m9, .ref m10, .ref m11, .int (nI c12), .int (nI c13), .int (nI c14), .ref m15, .ref m16, .ref m17, .ref m18, .ref m19, .int (nI c20), .int x21, .int (nI c22), .int (nI c23), .ref m24, .ref m25, .int (nI c26), .int (nI c27), .int x28, .ref m29, .ref m30, .ref m31, .ref m32, .ref m33, .ref m34, .int x35, .ref m36, .int (nI c37)]))]) [0] (by decide) rfl
  exact W.iret (v := (-1)) hx hb hr (fun t ht hW => ⟨⟨(-1), (), rfl, rfl, by rw [ht]; exact hP9, hD9⟩, hS.F ht⟩) hS.2.2 dX8_refused_6

set_option maxHeartbeats 4000000 in
set_option maxRecDepth 100000 in
theorem g_X8_done (l : Launch) (dC : Nat → ClassId) (dI : Nat → Nat → Nat) (h0 : Nat) (x0 : Int32) (x1 : Int32) (m2 : Nat) (c3 : Nat) (m4 : Nat) (m5 : Nat) (m6 : Nat) (m7 : Nat) (m8 : Nat) (m9 : Nat) (m10 : Nat) (m11 : Nat) (c12 : Nat) (c13 : Nat) (c14 : Nat) (m15 : Nat) (m16 : Nat) (m17 : Nat) (m18 : Nat) (m19 : Nat) (c20 : Nat) (x21 : Int32) (c22 : Nat) (c23 : Nat) (m24 : Nat) (m25 : Nat) (c26 : Nat) (c27 : Nat) (x28 : Int32) (m29 : Nat) (m30 : Nat) (m31 : Nat) (m32 : Nat) (m33 : Nat) (m34 : Nat) (x35 : Int32) (m36 : Nat) (c37 : Nat) (p0 : Int32) (sz : Nat) : Met l yX8_done wsX8_done ({ frames := 0, cells := 0, slots := 0, locals := 0 }) (va_Pc [.ref h0, .int p0] (fun U => U.heap.size = sz ∧ va_P (dC, dI) vwCl [(h0, .inr (8, [.int x0, .int x1, .ref m2, .int (nI c3), .ref m4, .ref m5, .ref m6, .ref m7, .ref m8, .ref m9, .ref m10, .ref m11, .int (nI c12), .int (nI c13), .int (nI c14), .ref m15, .ref m16, .ref m17, .ref m18, .ref m19, .int (nI c20), .int x21, .int (nI c22), .int (nI c23), .ref m24, .ref m25, .int (nI c26), .int (nI c27), .int x28, .ref m29, .ref m30, .ref m31, .ref m32, .ref m33, .ref m34, .int x35, .ref m36, .int (nI c37)]))] U.heap ∧ va_K (dC, dI) vwCl [] U ∧ va_D (fun _ => True) [(h0, .inr (8, [.int x0, .int x1, .ref m2, .int (nI c3), .ref m4, .ref m5, .ref m6, .ref m7, .ref m8, .ref m9, .ref m10, .ref m11, .int (nI c12), .int (nI c13), .int (nI c14), .ref m15, .ref m16, .ref m17, .ref m18, .ref m19, .int (nI c20), .int x21, .int (nI c22), .int (nI c23), .ref m24, .ref m25, .int (nI c26), .int (nI c27), .int x28, .ref m29, .ref m30, .ref m31, .ref m32, .ref m33, .ref m34, .int x35, .ref m36, .int (nI c37)]))])) (va_Qi (fun (r : Int32) (_ : Unit) => r = p0) (fun (_ : Unit) (t : State) => va_P (dC, dI) vwCl [(h0, .inr (8, [.int x0, .int 0, .ref m2, .int (nI c3), .ref m4, .ref m5, .ref m6, .ref m7, .ref m8, .ref m9, .ref m10, .ref m11, .int (nI c12), .int (nI c13), .int (nI c14), .ref m15, .ref m16, .ref m17, .ref m18, .ref m19, .int (nI c20), .int x21, .int (nI c22), .int (nI c23), .ref m24, .ref m25, .int (nI c26), .int (nI c27), .int x28, .ref m29, .ref m30, .ref m31, .ref m32, .ref m33, .ref m34, .int x35, .ref m36, .int (nI c37)]))] t.heap ∧ va_D (va_A [(h0, .inr (8, [.int x0, .int x1, .ref m2, .int (nI c3), .ref m4, .ref m5, .ref m6, .ref m7, .ref m8, .ref m9, .ref m10, .ref m11, .int (nI c12), .int (nI c13), .int (nI c14), .ref m15, .ref m16, .ref m17, .ref m18, .ref m19, .int (nI c20), .int x21, .int (nI c22), .int (nI c23), .ref m24, .ref m25, .int (nI c26), .int (nI c27), .int x28, .ref m29, .ref m30, .ref m31, .ref m32, .ref m33, .ref m34, .int x35, .ref m36, .int (nI c37)]))] sz) [(h0, .inr (8, [.int x0, .int 0, .ref m2, .int (nI c3), .ref m4, .ref m5, .ref m6, .ref m7, .ref m8, .ref m9, .ref m10, .ref m11, .int (nI c12), .int (nI c13), .int (nI c14), .ref m15, .ref m16, .ref m17, .ref m18, .ref m19, .int (nI c20), .int x21, .int (nI c22), .int (nI c23), .ref m24, .ref m25, .int (nI c26), .int (nI c27), .int x28, .ref m29, .ref m30, .ref m31, .ref m32, .ref m33, .ref m34, .int x35, .ref m36, .int (nI c37)]))]) (va_A [(h0, .inr (8, [.int x0, .int x1, .ref m2, .int (nI c3), .ref m4, .ref m5, .ref m6, .ref m7, .ref m8, .ref m9, .ref m10, .ref m11, .int (nI c12), .int (nI c13), .int (nI c14), .ref m15, .ref m16, .ref m17, .ref m18, .ref m19, .int (nI c20), .int x21, .int (nI c22), .int (nI c23), .ref m24, .ref m25, .int (nI c26), .int (nI c27), .int x28, .ref m29, .ref m30, .ref m31, .ref m32, .ref m33, .ref m34, .int x35, .ref m36, .int (nI c37)]))] sz)) 0 0 (va_A [(h0, .inr (8, [.int x0, .int x1, .ref m2, .int (nI c3), .ref m4, .ref m5, .ref m6, .ref m7, .ref m8, .ref m9, .ref m10, .ref m11, .int (nI c12), .int (nI c13), .int (nI c14), .ref m15, .ref m16, .ref m17, .ref m18, .ref m19, .int (nI c20), .int x21, .int (nI c22), .int (nI c23), .ref m24, .ref m25, .int (nI c26), .int (nI c27), .int x28, .ref m29, .ref m30, .ref m31, .ref m32, .ref m33, .ref m34, .int x35, .ref m36, .int (nI c37)]))] sz) := by
  refine Met.ofW (cc := cX8_done) (maxL := 2) (ret := (some .int)) (by decide) rfl ?_
  intro p e s m args below meth c s₁ B hml hv
  obtain ⟨rfl, hsz, hP, hK, hD0⟩ := hv
  have hx := B.exec
  have hb := B.bytes
  have hr := B.returns
  have hts := atoms_spec (ws := wsX8_done) B.pre
  have hown : s.vm.findClass RX8 = some m.cls := findClass_of_methodNamed B.named
  have hlocks := B.notSynchronized
  subst hsz
  have hD := hD0.self (sz := s.heap.size)
  clear hD0
  generalize hAe : va_A [(h0, .inr (8, [.int x0, .int x1, .ref m2, .int (nI c3), .ref m4, .ref m5, .ref m6, .ref m7, .ref m8, .ref m9, .ref m10, .ref m11, .int (nI c12), .int (nI c13), .int (nI c14), .ref m15, .ref m16, .ref m17, .ref m18, .ref m19, .int (nI c20), .int x21, .int (nI c22), .int (nI c23), .ref m24, .ref m25, .int (nI c26), .int (nI c27), .int x28, .ref m29, .ref m30, .ref m31, .ref m32, .ref m33, .ref m34, .int x35, .ref m36, .int (nI c37)]))] s.heap.size = A at hD ⊢
  have hA : ∀ q : Nat, s.heap.size ≤ q → A q := fun q h => by rw [← hAe]; exact Or.inr h
  clear hAe
  have hS : va_S A s.heap s.heap [] := va_S.rf
  replace hP : va_P (dC, dI) vwCl [(h0, .inr (8, [.int x0, .int x1, .ref m2, .int (nI c3), .ref m4, .ref m5, .ref m6, .ref m7, .ref m8, .ref m9, .ref m10, .ref m11, .int (nI c12), .int (nI c13), .int (nI c14), .ref m15, .ref m16, .ref m17, .ref m18, .ref m19, .int (nI c20), .int x21, .int (nI c22), .int (nI c23), .ref m24, .ref m25, .int (nI c26), .int (nI c27), .int x28, .ref m29, .ref m30, .ref m31, .ref m32, .ref m33, .ref m34, .int x35, .ref m36, .int (nI c37)]))] s.heap := hP
  have hl := lv_entry ([.ref h0, .int p0]) (n := 2) (Nat.le_of_ble_eq_true rfl)
  rw [lg_entry_eq]
  generalize (lg_sl ([.ref h0, .int p0]) ++ List.replicate (2 - (lg_sl ([.ref h0, .int p0])).length) Slot.unset).toArray = ls at hl ⊢
  replace hl : lv_has ls 2 [(0, .ref h0), (1, .int p0)] := hl
  have hi_X8 : ∀ w ∈ wsX80, w ∈ wsX8_done := by decide +kernel
  have k_f100 := hts (.fieldLink RX8 100 "TongueTellerModel" "trouble" "I") (by decide +kernel)
  refine lv_aload_n hx hb dX8_done_0 rfl (lv_at hl 0 rfl) ?_
  refine lv_iconst (v := 0) hx hb dX8_done_1 (by decide) ?_
  refine va_put (D := (dC, dI)) (ci := 8) (v := .int 0) (ty := .int) (C := RX8) (T := TX8) (N := 38) hx hb hts hi_X8 tyX8 tyX8_ok nmX8 hown hK hP hD hS 0 rfl rfl 1 (by decide) k_f100 (fun _ h9 => h9) rfl (by decide +kernel) rfl rfl (Nat.le_of_ble_eq_true rfl) dX8_done_2 (fun H locs hP hD hS => ?_)
  replace hP : va_P (dC, dI) vwCl [(h0, .inr (8, [.int x0, .int 0, .ref m2, .int (nI c3), .ref m4, .ref m5, .ref m6, .ref m7, .ref m8, .ref m9, .ref m10, .ref m11, .int (nI c12), .int (nI c13), .int (nI c14), .ref m15, .ref m16, .ref m17, .ref m18, .ref m19, .int (nI c20), .int x21, .int (nI c22), .int (nI c23), .ref m24, .ref m25, .int (nI c26), .int (nI c27), .int x28, .ref m29, .ref m30, .ref m31, .ref m32, .ref m33, .ref m34, .int x35, .ref m36, .int (nI c37)]))] H := hP
  replace hD : va_D A [(h0, .inr (8, [.int x0, .int 0, .ref m2, .int (nI c3), .ref m4, .ref m5, .ref m6, .ref m7, .ref m8, .ref m9, .ref m10, .ref m11, .int (nI c12), .int (nI c13), .int (nI c14), .ref m15, .ref m16, .ref m17, .ref m18, .ref m19, .int (nI c20), .int x21, .int (nI c22), .int (nI c23), .ref m24, .ref m25, .int (nI c26), .int (nI c27), .int x28, .ref m29, .ref m30, .ref m31, .ref m32, .ref m33, .ref m34, .int x35, .ref m36, .int (nI c37)]))] := hD
  refine lv_iload_n hx hb dX8_done_5 rfl (lv_at hl 1 rfl) ?_
  have hP9 := hP.sub (ws' := [(h0, .inr (8, [.int x0, .int 0, .ref m2, .int (nI c3), .ref m4, .ref m5, .ref m6, .ref m7, .ref m8, .ref m9, .ref m10, .ref m11, .int (nI c12), .int (nI c13), .int (nI c14), .ref m15, .ref m16, .ref m17, .ref m18, .ref m19, .int (nI c20), .int x21, .int (nI c22), .int (nI c23), .ref m24, .ref m25, .int (nI c26), .int (nI c27), .int x28, .ref m29, .ref m30, .ref m31, .ref m32, .ref m33, .ref m34, .int x35, .ref m36, .int (nI c37)]))]) [0] rfl
  have hD9 := hD.sub (ws' := [(h0, .inr (8, [.int x0, .int 0, .ref m2, .int (nI c3), .ref m4, .ref m5, .ref m6, .ref m7, .ref m8, .ref m9, .ref m10, .ref m11, .int (nI c12), .int (nI c13), .int (nI c14), .ref m15, .ref m16, .ref m17, .ref m18, .ref m19, .int (nI c20), .int x21, .int (nI c22), .int (nI c23), .ref m24, .ref m25, .int (nI c26), .int (nI c27), .int x28, .ref m29, .ref m30, .ref m31, .ref m32, .ref m33, .ref m34, .int x35, .ref m36, .int (nI c37)]))]) [0] (by decide) rfl
  exact W.iret (v := p0) hx hb hr (fun t ht hW => ⟨⟨p0, (), rfl, rfl, by rw [ht]; exact hP9, hD9⟩, hS.F ht⟩) hS.2.2 dX8_done_6

set_option maxHeartbeats 4000000 in
set_option maxRecDepth 100000 in
theorem g_X8_isTaped (l : Launch) (dC : Nat → ClassId) (dI : Nat → Nat → Nat) (h0 : Nat) (x0 : Int32) (x1 : Int32) (m2 : Nat) (c3 : Nat) (m4 : Nat) (m5 : Nat) (m6 : Nat) (m7 : Nat) (m8 : Nat) (m9 : Nat) (m10 : Nat) (m11 : Nat) (c12 : Nat) (c13 : Nat) (c14 : Nat) (m15 : Nat) (m16 : Nat) (m17 : Nat) (m18 : Nat) (m19 : Nat) (c20 : Nat) (x21 : Int32) (c22 : Nat) (c23 : Nat) (m24 : Nat) (m25 : Nat) (c26 : Nat) (c27 : Nat) (x28 : Int32) (m29 : Nat) (m30 : Nat) (m31 : Nat) (m32 : Nat) (m33 : Nat) (m34 : Nat) (x35 : Int32) (m36 : Nat) (c37 : Nat) (p0 : Int32) (htp : c3 ≤ 600) : Met l yX8_isTaped wsX8_isTaped ({ frames := 0, cells := 0, slots := 0, locals := 0 }) (va_Pc [.ref h0, .int p0] (fun U => va_P (dC, dI) vwCl [(h0, .inr (8, [.int x0, .int x1, .ref m2, .int (nI c3), .ref m4, .ref m5, .ref m6, .ref m7, .ref m8, .ref m9, .ref m10, .ref m11, .int (nI c12), .int (nI c13), .int (nI c14), .ref m15, .ref m16, .ref m17, .ref m18, .ref m19, .int (nI c20), .int x21, .int (nI c22), .int (nI c23), .ref m24, .ref m25, .int (nI c26), .int (nI c27), .int x28, .ref m29, .ref m30, .ref m31, .ref m32, .ref m33, .ref m34, .int x35, .ref m36, .int (nI c37)]))] U.heap ∧ va_K (dC, dI) vwCl [] U)) (vp_Si (fun r => ((r = 1 ∧ (onT c3 p0)) ∨ (r = 0 ∧ ¬ (onT c3 p0))))) 0 0 (fun _ => False) := by
  refine Met.ofW (cc := cX8_isTaped) (maxL := 2) (ret := (some .boolean)) (by decide) rfl ?_
  intro p e s m args below meth c s₁ B hml hv
  obtain ⟨rfl, hP, hK⟩ := hv
  have hx := B.exec
  have hb := B.bytes
  have hr := B.returns
  have hts := atoms_spec (ws := wsX8_isTaped) B.pre
  have hown : s.vm.findClass RX8 = some m.cls := findClass_of_methodNamed B.named
  have hlocks := B.notSynchronized
  replace hP : va_P (dC, dI) vwCl [(h0, .inr (8, [.int x0, .int x1, .ref m2, .int (nI c3), .ref m4, .ref m5, .ref m6, .ref m7, .ref m8, .ref m9, .ref m10, .ref m11, .int (nI c12), .int (nI c13), .int (nI c14), .ref m15, .ref m16, .ref m17, .ref m18, .ref m19, .int (nI c20), .int x21, .int (nI c22), .int (nI c23), .ref m24, .ref m25, .int (nI c26), .int (nI c27), .int x28, .ref m29, .ref m30, .ref m31, .ref m32, .ref m33, .ref m34, .int x35, .ref m36, .int (nI c37)]))] s.heap := hP
  have hl := lv_entry ([.ref h0, .int p0]) (n := 2) (Nat.le_of_ble_eq_true rfl)
  rw [lg_entry_eq]
  generalize (lg_sl ([.ref h0, .int p0]) ++ List.replicate (2 - (lg_sl ([.ref h0, .int p0])).length) Slot.unset).toArray = ls at hl ⊢
  replace hl : lv_has ls 2 [(0, .ref h0), (1, .int p0)] := hl
  have hi_X8 : ∀ w ∈ wsX80, w ∈ wsX8_isTaped := by decide +kernel
  have k_f103 := hts (.fieldLink RX8 103 "TongueTellerModel" "taped" "I") (by decide +kernel)
  refine lv_iload_n hx hb dX8_isTaped_0 rfl (lv_at hl 1 rfl) ?_
  refine lv_if_lt (tgt := 16) hx hb dX8_isTaped_1 (by decide) (fun c_1 => ?_) (fun c_1 => ?_)
  · refine lv_iconst (v := 0) hx hb dX8_isTaped_16 (by decide) ?_
    exact W.zret (v := 0) hx hb hr (rfl) (fun t ht hW => ⟨0, rfl, Or.inr ⟨rfl, by exact nin_lt2 (by omega) c_1⟩, ht⟩) (fun _ h => absurd h List.not_mem_nil) dX8_isTaped_17
  · refine lv_iload_n hx hb dX8_isTaped_4 rfl (lv_at hl 1 rfl) ?_
    refine lv_aload_n hx hb dX8_isTaped_5 rfl (lv_at hl 0 rfl) ?_
    refine va_get (D := (dC, dI)) (ci := 8) (v := .int (nI c3)) (C := RX8) (T := TX8) (N := 38) hx hb hts hi_X8 hown hK hP 0 rfl rfl 3 (by decide) k_f103 (fun _ h9 => h9) rfl dX8_isTaped_6 ?_
    refine lv_icmp_gt (tgt := 16) hx hb dX8_isTaped_9 (by decide) (fun c_9 => ?_) (fun c_9 => ?_)
    · refine lv_iconst (v := 0) hx hb dX8_isTaped_16 (by decide) ?_
      exact W.zret (v := 0) hx hb hr (rfl) (fun t ht hW => ⟨0, rfl, Or.inr ⟨rfl, by exact nin_gt (by omega) c_9⟩, ht⟩) (fun _ h => absurd h List.not_mem_nil) dX8_isTaped_17
    · refine lv_iconst (v := 1) hx hb dX8_isTaped_12 (by decide) ?_
      refine lv_goto (tgt := 17) hx hb dX8_isTaped_13 (by decide) ?_
      exact W.zret (v := 1) hx hb hr (rfl) (fun t ht hW => ⟨1, rfl, Or.inl ⟨rfl, by exact in_le (by omega) c_1 c_9⟩, ht⟩) (fun _ h => absurd h List.not_mem_nil) dX8_isTaped_17

set_option maxHeartbeats 4000000 in
set_option maxRecDepth 100000 in
theorem g_X8_isTongue (l : Launch) (dC : Nat → ClassId) (dI : Nat → Nat → Nat) (h0 : Nat) (x0 : Int32) (x1 : Int32) (m2 : Nat) (c3 : Nat) (m4 : Nat) (m5 : Nat) (m6 : Nat) (m7 : Nat) (m8 : Nat) (m9 : Nat) (m10 : Nat) (m11 : Nat) (c12 : Nat) (c13 : Nat) (c14 : Nat) (m15 : Nat) (m16 : Nat) (m17 : Nat) (m18 : Nat) (m19 : Nat) (c20 : Nat) (x21 : Int32) (c22 : Nat) (c23 : Nat) (m24 : Nat) (m25 : Nat) (c26 : Nat) (c27 : Nat) (x28 : Int32) (m29 : Nat) (m30 : Nat) (m31 : Nat) (m32 : Nat) (m33 : Nat) (m34 : Nat) (x35 : Int32) (m36 : Nat) (c37 : Nat) (p0 : Int32) (htg : c14 ≤ 8) : Met l yX8_isTongue wsX8_isTongue ({ frames := 0, cells := 0, slots := 0, locals := 0 }) (va_Pc [.ref h0, .int p0] (fun U => va_P (dC, dI) vwCl [(h0, .inr (8, [.int x0, .int x1, .ref m2, .int (nI c3), .ref m4, .ref m5, .ref m6, .ref m7, .ref m8, .ref m9, .ref m10, .ref m11, .int (nI c12), .int (nI c13), .int (nI c14), .ref m15, .ref m16, .ref m17, .ref m18, .ref m19, .int (nI c20), .int x21, .int (nI c22), .int (nI c23), .ref m24, .ref m25, .int (nI c26), .int (nI c27), .int x28, .ref m29, .ref m30, .ref m31, .ref m32, .ref m33, .ref m34, .int x35, .ref m36, .int (nI c37)]))] U.heap ∧ va_K (dC, dI) vwCl [] U)) (vp_Si (fun r => ((r = 1 ∧ (inT c14 p0)) ∨ (r = 0 ∧ ¬ (inT c14 p0))))) 0 0 (fun _ => False) := by
  refine Met.ofW (cc := cX8_isTongue) (maxL := 2) (ret := (some .boolean)) (by decide) rfl ?_
  intro p e s m args below meth c s₁ B hml hv
  obtain ⟨rfl, hP, hK⟩ := hv
  have hx := B.exec
  have hb := B.bytes
  have hr := B.returns
  have hts := atoms_spec (ws := wsX8_isTongue) B.pre
  have hown : s.vm.findClass RX8 = some m.cls := findClass_of_methodNamed B.named
  have hlocks := B.notSynchronized
  replace hP : va_P (dC, dI) vwCl [(h0, .inr (8, [.int x0, .int x1, .ref m2, .int (nI c3), .ref m4, .ref m5, .ref m6, .ref m7, .ref m8, .ref m9, .ref m10, .ref m11, .int (nI c12), .int (nI c13), .int (nI c14), .ref m15, .ref m16, .ref m17, .ref m18, .ref m19, .int (nI c20), .int x21, .int (nI c22), .int (nI c23), .ref m24, .ref m25, .int (nI c26), .int (nI c27), .int x28, .ref m29, .ref m30, .ref m31, .ref m32, .ref m33, .ref m34, .int x35, .ref m36, .int (nI c37)]))] s.heap := hP
  have hl := lv_entry ([.ref h0, .int p0]) (n := 2) (Nat.le_of_ble_eq_true rfl)
  rw [lg_entry_eq]
  generalize (lg_sl ([.ref h0, .int p0]) ++ List.replicate (2 - (lg_sl ([.ref h0, .int p0])).length) Slot.unset).toArray = ls at hl ⊢
  replace hl : lv_has ls 2 [(0, .ref h0), (1, .int p0)] := hl
  have hi_X8 : ∀ w ∈ wsX80, w ∈ wsX8_isTongue := by decide +kernel
  have k_f133 := hts (.fieldLink RX8 133 "TongueTellerModel" "tongues" "I") (by decide +kernel)
  refine lv_iload_n hx hb dX8_isTongue_0 rfl (lv_at hl 1 rfl) ?_
  refine lv_if_lt (tgt := 16) hx hb dX8_isTongue_1 (by decide) (fun c_1 => ?_) (fun c_1 => ?_)
  · refine lv_iconst (v := 0) hx hb dX8_isTongue_16 (by decide) ?_
    exact W.zret (v := 0) hx hb hr (rfl) (fun t ht hW => ⟨0, rfl, Or.inr ⟨rfl, by exact nin_lt (by omega) c_1⟩, ht⟩) (fun _ h => absurd h List.not_mem_nil) dX8_isTongue_17
  · refine lv_iload_n hx hb dX8_isTongue_4 rfl (lv_at hl 1 rfl) ?_
    refine lv_aload_n hx hb dX8_isTongue_5 rfl (lv_at hl 0 rfl) ?_
    refine va_get (D := (dC, dI)) (ci := 8) (v := .int (nI c14)) (C := RX8) (T := TX8) (N := 38) hx hb hts hi_X8 hown hK hP 0 rfl rfl 14 (by decide) k_f133 (fun _ h9 => h9) rfl dX8_isTongue_6 ?_
    refine lv_icmp_ge (tgt := 16) hx hb dX8_isTongue_9 (by decide) (fun c_9 => ?_) (fun c_9 => ?_)
    · refine lv_iconst (v := 0) hx hb dX8_isTongue_16 (by decide) ?_
      exact W.zret (v := 0) hx hb hr (rfl) (fun t ht hW => ⟨0, rfl, Or.inr ⟨rfl, by exact nin_ge (by omega) c_9⟩, ht⟩) (fun _ h => absurd h List.not_mem_nil) dX8_isTongue_17
    · refine lv_iconst (v := 1) hx hb dX8_isTongue_12 (by decide) ?_
      refine lv_goto (tgt := 17) hx hb dX8_isTongue_13 (by decide) ?_
      exact W.zret (v := 1) hx hb hr (rfl) (fun t ht hW => ⟨1, rfl, Or.inl ⟨rfl, by exact in_of (by omega) c_1 c_9⟩, ht⟩) (fun _ h => absurd h List.not_mem_nil) dX8_isTongue_17

set_option maxHeartbeats 4000000 in
set_option maxRecDepth 100000 in
theorem g_X8_isAsked (l : Launch) (dC : Nat → ClassId) (dI : Nat → Nat → Nat) (h0 : Nat) (x0 : Int32) (x1 : Int32) (m2 : Nat) (c3 : Nat) (m4 : Nat) (m5 : Nat) (m6 : Nat) (m7 : Nat) (m8 : Nat) (m9 : Nat) (m10 : Nat) (m11 : Nat) (c12 : Nat) (c13 : Nat) (c14 : Nat) (m15 : Nat) (m16 : Nat) (m17 : Nat) (m18 : Nat) (m19 : Nat) (c20 : Nat) (x21 : Int32) (c22 : Nat) (c23 : Nat) (m24 : Nat) (m25 : Nat) (c26 : Nat) (c27 : Nat) (x28 : Int32) (m29 : Nat) (m30 : Nat) (m31 : Nat) (m32 : Nat) (m33 : Nat) (m34 : Nat) (x35 : Int32) (m36 : Nat) (c37 : Nat) (htg : c14 ≤ 8) : Met l yX8_isAsked wsX8_isAsked ({ frames := 0, cells := 0, slots := 0, locals := 0 }) (va_Pc [.ref h0] (fun U => va_P (dC, dI) vwCl [(h0, .inr (8, [.int x0, .int x1, .ref m2, .int (nI c3), .ref m4, .ref m5, .ref m6, .ref m7, .ref m8, .ref m9, .ref m10, .ref m11, .int (nI c12), .int (nI c13), .int (nI c14), .ref m15, .ref m16, .ref m17, .ref m18, .ref m19, .int (nI c20), .int x21, .int (nI c22), .int (nI c23), .ref m24, .ref m25, .int (nI c26), .int (nI c27), .int x28, .ref m29, .ref m30, .ref m31, .ref m32, .ref m33, .ref m34, .int x35, .ref m36, .int (nI c37)]))] U.heap ∧ va_K (dC, dI) vwCl [] U)) (vp_Si (fun r => ((r = 1 ∧ (¬ x28 = 0 ∧ 0 < c14)) ∨ (r = 0 ∧ ¬ (¬ x28 = 0 ∧ 0 < c14))))) 0 0 (fun _ => False) := by
  refine Met.ofW (cc := cX8_isAsked) (maxL := 1) (ret := (some .boolean)) (by decide) rfl ?_
  intro p e s m args below meth c s₁ B hml hv
  obtain ⟨rfl, hP, hK⟩ := hv
  have hx := B.exec
  have hb := B.bytes
  have hr := B.returns
  have hts := atoms_spec (ws := wsX8_isAsked) B.pre
  have hown : s.vm.findClass RX8 = some m.cls := findClass_of_methodNamed B.named
  have hlocks := B.notSynchronized
  replace hP : va_P (dC, dI) vwCl [(h0, .inr (8, [.int x0, .int x1, .ref m2, .int (nI c3), .ref m4, .ref m5, .ref m6, .ref m7, .ref m8, .ref m9, .ref m10, .ref m11, .int (nI c12), .int (nI c13), .int (nI c14), .ref m15, .ref m16, .ref m17, .ref m18, .ref m19, .int (nI c20), .int x21, .int (nI c22), .int (nI c23), .ref m24, .ref m25, .int (nI c26), .int (nI c27), .int x28, .ref m29, .ref m30, .ref m31, .ref m32, .ref m33, .ref m34, .int x35, .ref m36, .int (nI c37)]))] s.heap := hP
  have hl := lv_entry ([.ref h0]) (n := 1) (Nat.le_of_ble_eq_true rfl)
  rw [lg_entry_eq]
  generalize (lg_sl ([.ref h0]) ++ List.replicate (1 - (lg_sl ([.ref h0])).length) Slot.unset).toArray = ls at hl ⊢
  replace hl : lv_has ls 1 [(0, .ref h0)] := hl
  have hi_X8 : ∀ w ∈ wsX80, w ∈ wsX8_isAsked := by decide +kernel
  have k_f178 := hts (.fieldLink RX8 178 "TongueTellerModel" "isText" "Z") (by decide +kernel)
  have k_f133 := hts (.fieldLink RX8 133 "TongueTellerModel" "tongues" "I") (by decide +kernel)
  refine lv_aload_n hx hb dX8_isAsked_0 rfl (lv_at hl 0 rfl) ?_
  refine va_get (D := (dC, dI)) (ci := 8) (v := .int x28) (C := RX8) (T := TX8) (N := 38) hx hb hts hi_X8 hown hK hP 0 rfl rfl 28 (by decide) k_f178 (fun _ h9 => h9) rfl dX8_isAsked_1 ?_
  refine lv_if_eq (tgt := 18) hx hb dX8_isAsked_4 (by decide) (fun c_4 => ?_) (fun c_4 => ?_)
  · refine lv_iconst (v := 0) hx hb dX8_isAsked_18 (by decide) ?_
    exact W.zret (v := 0) hx hb hr (rfl) (fun t ht hW => ⟨0, rfl, Or.inr ⟨rfl, by exact fun h => h.1 c_4⟩, ht⟩) (fun _ h => absurd h List.not_mem_nil) dX8_isAsked_19
  · refine lv_aload_n hx hb dX8_isAsked_7 rfl (lv_at hl 0 rfl) ?_
    refine va_get (D := (dC, dI)) (ci := 8) (v := .int (nI c14)) (C := RX8) (T := TX8) (N := 38) hx hb hts hi_X8 hown hK hP 0 rfl rfl 14 (by decide) k_f133 (fun _ h9 => h9) rfl dX8_isAsked_8 ?_
    refine lv_if_le (tgt := 18) hx hb dX8_isAsked_11 (by decide) (fun c_11 => ?_) (fun c_11 => ?_)
    · have n_11 : c14 ≤ 0 := (nI_leI (a := c14) (b := 0) (by omega) (by omega)).mp c_11
      refine lv_iconst (v := 0) hx hb dX8_isAsked_18 (by decide) ?_
      exact W.zret (v := 0) hx hb hr (rfl) (fun t ht hW => ⟨0, rfl, Or.inr ⟨rfl, by exact fun h => absurd h.2 (by omega)⟩, ht⟩) (fun _ h => absurd h List.not_mem_nil) dX8_isAsked_19
    · have n_11 : 0 < c14 := Nat.not_le.mp (fun h9 => c_11 ((nI_leI (a := c14) (b := 0) (by omega) (by omega)).mpr h9))
      refine lv_iconst (v := 1) hx hb dX8_isAsked_14 (by decide) ?_
      refine lv_goto (tgt := 19) hx hb dX8_isAsked_15 (by decide) ?_
      exact W.zret (v := 1) hx hb hr (rfl) (fun t ht hW => ⟨1, rfl, Or.inl ⟨rfl, by exact ⟨c_4, n_11⟩⟩, ht⟩) (fun _ h => absurd h List.not_mem_nil) dX8_isAsked_19

set_option maxHeartbeats 4000000 in
set_option maxRecDepth 100000 in
theorem g_X8_trouble (l : Launch) (dC : Nat → ClassId) (dI : Nat → Nat → Nat) (h0 : Nat) (x0 : Int32) (x1 : Int32) (m2 : Nat) (c3 : Nat) (m4 : Nat) (m5 : Nat) (m6 : Nat) (m7 : Nat) (m8 : Nat) (m9 : Nat) (m10 : Nat) (m11 : Nat) (c12 : Nat) (c13 : Nat) (c14 : Nat) (m15 : Nat) (m16 : Nat) (m17 : Nat) (m18 : Nat) (m19 : Nat) (c20 : Nat) (x21 : Int32) (c22 : Nat) (c23 : Nat) (m24 : Nat) (m25 : Nat) (c26 : Nat) (c27 : Nat) (x28 : Int32) (m29 : Nat) (m30 : Nat) (m31 : Nat) (m32 : Nat) (m33 : Nat) (m34 : Nat) (x35 : Int32) (m36 : Nat) (c37 : Nat) (sz : Nat) : Met l yX8_trouble wsX8_trouble ({ frames := 0, cells := 0, slots := 0, locals := 0 }) (va_Pc [.ref h0] (fun U => U.heap.size = sz ∧ va_P (dC, dI) vwCl [(h0, .inr (8, [.int x0, .int x1, .ref m2, .int (nI c3), .ref m4, .ref m5, .ref m6, .ref m7, .ref m8, .ref m9, .ref m10, .ref m11, .int (nI c12), .int (nI c13), .int (nI c14), .ref m15, .ref m16, .ref m17, .ref m18, .ref m19, .int (nI c20), .int x21, .int (nI c22), .int (nI c23), .ref m24, .ref m25, .int (nI c26), .int (nI c27), .int x28, .ref m29, .ref m30, .ref m31, .ref m32, .ref m33, .ref m34, .int x35, .ref m36, .int (nI c37)]))] U.heap ∧ va_K (dC, dI) vwCl [] U ∧ va_D (fun _ => True) [(h0, .inr (8, [.int x0, .int x1, .ref m2, .int (nI c3), .ref m4, .ref m5, .ref m6, .ref m7, .ref m8, .ref m9, .ref m10, .ref m11, .int (nI c12), .int (nI c13), .int (nI c14), .ref m15, .ref m16, .ref m17, .ref m18, .ref m19, .int (nI c20), .int x21, .int (nI c22), .int (nI c23), .ref m24, .ref m25, .int (nI c26), .int (nI c27), .int x28, .ref m29, .ref m30, .ref m31, .ref m32, .ref m33, .ref m34, .int x35, .ref m36, .int (nI c37)]))])) (va_Qi (fun (r : Int32) (_ : Unit) => r = x1) (fun (_ : Unit) (t : State) => va_P (dC, dI) vwCl [(h0, .inr (8, [.int 0, .int x1, .ref m2, .int (nI c3), .ref m4, .ref m5, .ref m6, .ref m7, .ref m8, .ref m9, .ref m10, .ref m11, .int (nI c12), .int (nI c13), .int (nI c14), .ref m15, .ref m16, .ref m17, .ref m18, .ref m19, .int (nI c20), .int x21, .int (nI c22), .int (nI c23), .ref m24, .ref m25, .int (nI c26), .int (nI c27), .int x28, .ref m29, .ref m30, .ref m31, .ref m32, .ref m33, .ref m34, .int x35, .ref m36, .int (nI c37)]))] t.heap ∧ va_D (va_A [(h0, .inr (8, [.int x0, .int x1, .ref m2, .int (nI c3), .ref m4, .ref m5, .ref m6, .ref m7, .ref m8, .ref m9, .ref m10, .ref m11, .int (nI c12), .int (nI c13), .int (nI c14), .ref m15, .ref m16, .ref m17, .ref m18, .ref m19, .int (nI c20), .int x21, .int (nI c22), .int (nI c23), .ref m24, .ref m25, .int (nI c26), .int (nI c27), .int x28, .ref m29, .ref m30, .ref m31, .ref m32, .ref m33, .ref m34, .int x35, .ref m36, .int (nI c37)]))] sz) [(h0, .inr (8, [.int 0, .int x1, .ref m2, .int (nI c3), .ref m4, .ref m5, .ref m6, .ref m7, .ref m8, .ref m9, .ref m10, .ref m11, .int (nI c12), .int (nI c13), .int (nI c14), .ref m15, .ref m16, .ref m17, .ref m18, .ref m19, .int (nI c20), .int x21, .int (nI c22), .int (nI c23), .ref m24, .ref m25, .int (nI c26), .int (nI c27), .int x28, .ref m29, .ref m30, .ref m31, .ref m32, .ref m33, .ref m34, .int x35, .ref m36, .int (nI c37)]))]) (va_A [(h0, .inr (8, [.int x0, .int x1, .ref m2, .int (nI c3), .ref m4, .ref m5, .ref m6, .ref m7, .ref m8, .ref m9, .ref m10, .ref m11, .int (nI c12), .int (nI c13), .int (nI c14), .ref m15, .ref m16, .ref m17, .ref m18, .ref m19, .int (nI c20), .int x21, .int (nI c22), .int (nI c23), .ref m24, .ref m25, .int (nI c26), .int (nI c27), .int x28, .ref m29, .ref m30, .ref m31, .ref m32, .ref m33, .ref m34, .int x35, .ref m36, .int (nI c37)]))] sz)) 0 0 (va_A [(h0, .inr (8, [.int x0, .int x1, .ref m2, .int (nI c3), .ref m4, .ref m5, .ref m6, .ref m7, .ref m8, .ref m9, .ref m10, .ref m11, .int (nI c12), .int (nI c13), .int (nI c14), .ref m15, .ref m16, .ref m17, .ref m18, .ref m19, .int (nI c20), .int x21, .int (nI c22), .int (nI c23), .ref m24, .ref m25, .int (nI c26), .int (nI c27), .int x28, .ref m29, .ref m30, .ref m31, .ref m32, .ref m33, .ref m34, .int x35, .ref m36, .int (nI c37)]))] sz) := by
  refine Met.ofW (cc := cX8_trouble) (maxL := 1) (ret := (some .int)) (by decide) rfl ?_
  intro p e s m args below meth c s₁ B hml hv
  obtain ⟨rfl, hsz, hP, hK, hD0⟩ := hv
  have hx := B.exec
  have hb := B.bytes
  have hr := B.returns
  have hts := atoms_spec (ws := wsX8_trouble) B.pre
  have hown : s.vm.findClass RX8 = some m.cls := findClass_of_methodNamed B.named
  have hlocks := B.notSynchronized
  subst hsz
  have hD := hD0.self (sz := s.heap.size)
  clear hD0
  generalize hAe : va_A [(h0, .inr (8, [.int x0, .int x1, .ref m2, .int (nI c3), .ref m4, .ref m5, .ref m6, .ref m7, .ref m8, .ref m9, .ref m10, .ref m11, .int (nI c12), .int (nI c13), .int (nI c14), .ref m15, .ref m16, .ref m17, .ref m18, .ref m19, .int (nI c20), .int x21, .int (nI c22), .int (nI c23), .ref m24, .ref m25, .int (nI c26), .int (nI c27), .int x28, .ref m29, .ref m30, .ref m31, .ref m32, .ref m33, .ref m34, .int x35, .ref m36, .int (nI c37)]))] s.heap.size = A at hD ⊢
  have hA : ∀ q : Nat, s.heap.size ≤ q → A q := fun q h => by rw [← hAe]; exact Or.inr h
  clear hAe
  have hS : va_S A s.heap s.heap [] := va_S.rf
  replace hP : va_P (dC, dI) vwCl [(h0, .inr (8, [.int x0, .int x1, .ref m2, .int (nI c3), .ref m4, .ref m5, .ref m6, .ref m7, .ref m8, .ref m9, .ref m10, .ref m11, .int (nI c12), .int (nI c13), .int (nI c14), .ref m15, .ref m16, .ref m17, .ref m18, .ref m19, .int (nI c20), .int x21, .int (nI c22), .int (nI c23), .ref m24, .ref m25, .int (nI c26), .int (nI c27), .int x28, .ref m29, .ref m30, .ref m31, .ref m32, .ref m33, .ref m34, .int x35, .ref m36, .int (nI c37)]))] s.heap := hP
  have hl := lv_entry ([.ref h0]) (n := 1) (Nat.le_of_ble_eq_true rfl)
  rw [lg_entry_eq]
  generalize (lg_sl ([.ref h0]) ++ List.replicate (1 - (lg_sl ([.ref h0])).length) Slot.unset).toArray = ls at hl ⊢
  replace hl : lv_has ls 1 [(0, .ref h0)] := hl
  have hi_X8 : ∀ w ∈ wsX80, w ∈ wsX8_trouble := by decide +kernel
  have k_f97 := hts (.fieldLink RX8 97 "TongueTellerModel" "thrown" "I") (by decide +kernel)
  have k_f100 := hts (.fieldLink RX8 100 "TongueTellerModel" "trouble" "I") (by decide +kernel)
  refine lv_aload_n hx hb dX8_trouble_0 rfl (lv_at hl 0 rfl) ?_
  refine lv_iconst (v := 0) hx hb dX8_trouble_1 (by decide) ?_
  refine va_put (D := (dC, dI)) (ci := 8) (v := .int 0) (ty := .int) (C := RX8) (T := TX8) (N := 38) hx hb hts hi_X8 tyX8 tyX8_ok nmX8 hown hK hP hD hS 0 rfl rfl 0 (by decide) k_f97 (fun _ h9 => h9) rfl (by decide +kernel) rfl rfl (Nat.le_of_ble_eq_true rfl) dX8_trouble_2 (fun H locs hP hD hS => ?_)
  replace hP : va_P (dC, dI) vwCl [(h0, .inr (8, [.int 0, .int x1, .ref m2, .int (nI c3), .ref m4, .ref m5, .ref m6, .ref m7, .ref m8, .ref m9, .ref m10, .ref m11, .int (nI c12), .int (nI c13), .int (nI c14), .ref m15, .ref m16, .ref m17, .ref m18, .ref m19, .int (nI c20), .int x21, .int (nI c22), .int (nI c23), .ref m24, .ref m25, .int (nI c26), .int (nI c27), .int x28, .ref m29, .ref m30, .ref m31, .ref m32, .ref m33, .ref m34, .int x35, .ref m36, .int (nI c37)]))] H := hP
  replace hD : va_D A [(h0, .inr (8, [.int 0, .int x1, .ref m2, .int (nI c3), .ref m4, .ref m5, .ref m6, .ref m7, .ref m8, .ref m9, .ref m10, .ref m11, .int (nI c12), .int (nI c13), .int (nI c14), .ref m15, .ref m16, .ref m17, .ref m18, .ref m19, .int (nI c20), .int x21, .int (nI c22), .int (nI c23), .ref m24, .ref m25, .int (nI c26), .int (nI c27), .int x28, .ref m29, .ref m30, .ref m31, .ref m32, .ref m33, .ref m34, .int x35, .ref m36, .int (nI c37)]))] := hD
  refine lv_aload_n hx hb dX8_trouble_5 rfl (lv_at hl 0 rfl) ?_
  refine va_get (D := (dC, dI)) (ci := 8) (v := .int x1) (C := RX8) (T := TX8) (N := 38) hx hb hts hi_X8 hown hK hP 0 rfl rfl 1 (by decide) k_f100 (fun _ h9 => h9) rfl dX8_trouble_6 ?_
  have hP9 := hP.sub (ws' := [(h0, .inr (8, [.int 0, .int x1, .ref m2, .int (nI c3), .ref m4, .ref m5, .ref m6, .ref m7, .ref m8, .ref m9, .ref m10, .ref m11, .int (nI c12), .int (nI c13), .int (nI c14), .ref m15, .ref m16, .ref m17, .ref m18, .ref m19, .int (nI c20), .int x21, .int (nI c22), .int (nI c23), .ref m24, .ref m25, .int (nI c26), .int (nI c27), .int x28, .ref m29, .ref m30, .ref m31, .ref m32, .ref m33, .ref m34, .int x35, .ref m36, .int (nI c37)]))]) [0] rfl
  have hD9 := hD.sub (ws' := [(h0, .inr (8, [.int 0, .int x1, .ref m2, .int (nI c3), .ref m4, .ref m5, .ref m6, .ref m7, .ref m8, .ref m9, .ref m10, .ref m11, .int (nI c12), .int (nI c13), .int (nI c14), .ref m15, .ref m16, .ref m17, .ref m18, .ref m19, .int (nI c20), .int x21, .int (nI c22), .int (nI c23), .ref m24, .ref m25, .int (nI c26), .int (nI c27), .int x28, .ref m29, .ref m30, .ref m31, .ref m32, .ref m33, .ref m34, .int x35, .ref m36, .int (nI c37)]))]) [0] (by decide) rfl
  exact W.iret (v := x1) hx hb hr (fun t ht hW => ⟨⟨x1, (), rfl, rfl, by rw [ht]; exact hP9, hD9⟩, hS.F ht⟩) hS.2.2 dX8_trouble_9

set_option maxHeartbeats 4000000 in
set_option maxRecDepth 100000 in
theorem g_X8_tongue (l : Launch) (dC : Nat → ClassId) (dI : Nat → Nat → Nat) (h0 : Nat) (x0 : Int32) (x1 : Int32) (m2 : Nat) (c3 : Nat) (m4 : Nat) (m5 : Nat) (m6 : Nat) (m7 : Nat) (m8 : Nat) (m9 : Nat) (m10 : Nat) (m11 : Nat) (c12 : Nat) (c13 : Nat) (c14 : Nat) (m15 : Nat) (m16 : Nat) (m17 : Nat) (m18 : Nat) (m19 : Nat) (c20 : Nat) (x21 : Int32) (c22 : Nat) (c23 : Nat) (m24 : Nat) (m25 : Nat) (c26 : Nat) (c27 : Nat) (x28 : Int32) (m29 : Nat) (m30 : Nat) (m31 : Nat) (m32 : Nat) (m33 : Nat) (m34 : Nat) (x35 : Int32) (m36 : Nat) (c37 : Nat) (sz : Nat) (htg : c14 ≤ 8) : Met l yX8_tongue wsX8_tongue ({ frames := 1, cells := 0, slots := 0, locals := 21 }) (va_Pc [.ref h0] (fun U => U.heap.size = sz ∧ va_P (dC, dI) vwCl [(h0, .inr (8, [.int x0, .int x1, .ref m2, .int (nI c3), .ref m4, .ref m5, .ref m6, .ref m7, .ref m8, .ref m9, .ref m10, .ref m11, .int (nI c12), .int (nI c13), .int (nI c14), .ref m15, .ref m16, .ref m17, .ref m18, .ref m19, .int (nI c20), .int x21, .int (nI c22), .int (nI c23), .ref m24, .ref m25, .int (nI c26), .int (nI c27), .int x28, .ref m29, .ref m30, .ref m31, .ref m32, .ref m33, .ref m34, .int x35, .ref m36, .int (nI c37)]))] U.heap ∧ va_K (dC, dI) vwCl [] U ∧ va_D (fun _ => True) [(h0, .inr (8, [.int x0, .int x1, .ref m2, .int (nI c3), .ref m4, .ref m5, .ref m6, .ref m7, .ref m8, .ref m9, .ref m10, .ref m11, .int (nI c12), .int (nI c13), .int (nI c14), .ref m15, .ref m16, .ref m17, .ref m18, .ref m19, .int (nI c20), .int x21, .int (nI c22), .int (nI c23), .ref m24, .ref m25, .int (nI c26), .int (nI c27), .int x28, .ref m29, .ref m30, .ref m31, .ref m32, .ref m33, .ref m34, .int x35, .ref m36, .int (nI c37)]))])) (va_Qi (fun (r : Int32) (u : Nat × Int32) => match u with | (zo, vo) => ((c14 < 8 → r = nI c14 ∧ zo = c14 + 1 ∧ vo = 0) ∧ (¬ c14 < 8 → r = (-1) ∧ zo = c14 ∧ vo = 3))) (fun (u : Nat × Int32) (t : State) => match u with | (zo, vo) => va_P (dC, dI) vwCl [(h0, .inr (8, [.int 0, .int vo, .ref m2, .int (nI c3), .ref m4, .ref m5, .ref m6, .ref m7, .ref m8, .ref m9, .ref m10, .ref m11, .int (nI c12), .int (nI c13), .int (nI zo), .ref m15, .ref m16, .ref m17, .ref m18, .ref m19, .int (nI c20), .int x21, .int (nI c22), .int (nI c23), .ref m24, .ref m25, .int (nI c26), .int (nI c27), .int x28, .ref m29, .ref m30, .ref m31, .ref m32, .ref m33, .ref m34, .int x35, .ref m36, .int (nI c37)]))] t.heap ∧ va_D (va_A [(h0, .inr (8, [.int x0, .int x1, .ref m2, .int (nI c3), .ref m4, .ref m5, .ref m6, .ref m7, .ref m8, .ref m9, .ref m10, .ref m11, .int (nI c12), .int (nI c13), .int (nI c14), .ref m15, .ref m16, .ref m17, .ref m18, .ref m19, .int (nI c20), .int x21, .int (nI c22), .int (nI c23), .ref m24, .ref m25, .int (nI c26), .int (nI c27), .int x28, .ref m29, .ref m30, .ref m31, .ref m32, .ref m33, .ref m34, .int x35, .ref m36, .int (nI c37)]))] sz) [(h0, .inr (8, [.int 0, .int vo, .ref m2, .int (nI c3), .ref m4, .ref m5, .ref m6, .ref m7, .ref m8, .ref m9, .ref m10, .ref m11, .int (nI c12), .int (nI c13), .int (nI zo), .ref m15, .ref m16, .ref m17, .ref m18, .ref m19, .int (nI c20), .int x21, .int (nI c22), .int (nI c23), .ref m24, .ref m25, .int (nI c26), .int (nI c27), .int x28, .ref m29, .ref m30, .ref m31, .ref m32, .ref m33, .ref m34, .int x35, .ref m36, .int (nI c37)]))]) (va_A [(h0, .inr (8, [.int x0, .int x1, .ref m2, .int (nI c3), .ref m4, .ref m5, .ref m6, .ref m7, .ref m8, .ref m9, .ref m10, .ref m11, .int (nI c12), .int (nI c13), .int (nI c14), .ref m15, .ref m16, .ref m17, .ref m18, .ref m19, .int (nI c20), .int x21, .int (nI c22), .int (nI c23), .ref m24, .ref m25, .int (nI c26), .int (nI c27), .int x28, .ref m29, .ref m30, .ref m31, .ref m32, .ref m33, .ref m34, .int x35, .ref m36, .int (nI c37)]))] sz)) 0 0 (va_A [(h0, .inr (8, [.int x0, .int x1, .ref m2, .int (nI c3), .ref m4, .ref m5, .ref m6, .ref m7, .ref m8, .ref m9, .ref m10, .ref m11, .int (nI c12), .int (nI c13), .int (nI c14), .ref m15, .ref m16, .ref m17, .ref m18, .ref m19, .int (nI c20), .int x21, .int (nI c22), .int (nI c23), .ref m24, .ref m25, .int (nI c26), .int (nI c27), .int x28, .ref m29, .ref m30, .ref m31, .ref m32, .ref m33, .ref m34, .int x35, .ref m36, .int (nI c37)]))] sz) := by
  refine Met.ofW (cc := cX8_tongue) (maxL := 1) (ret := (some .int)) (by decide) rfl ?_
  intro p e s m args below meth c s₁ B hml hv
  obtain ⟨rfl, hsz, hP, hK, hD0⟩ := hv
  have hx := B.exec
  have hb := B.bytes
  have hr := B.returns
  have hts := atoms_spec (ws := wsX8_tongue) B.pre
  have hown : s.vm.findClass RX8 = some m.cls := findClass_of_methodNamed B.named
  have hlocks := B.notSynchronized
  subst hsz
  have hD := hD0.self (sz := s.heap.size)
  clear hD0
  generalize hAe : va_A [(h0, .inr (8, [.int x0, .int x1, .ref m2, .int (nI c3), .ref m4, .ref m5, .ref m6, .ref m7, .ref m8, .ref m9, .ref m10, .ref m11, .int (nI c12), .int (nI c13), .int (nI c14), .ref m15, .ref m16, .ref m17, .ref m18, .ref m19, .int (nI c20), .int x21, .int (nI c22), .int (nI c23), .ref m24, .ref m25, .int (nI c26), .int (nI c27), .int x28, .ref m29, .ref m30, .ref m31, .ref m32, .ref m33, .ref m34, .int x35, .ref m36, .int (nI c37)]))] s.heap.size = A at hD ⊢
  have hA : ∀ q : Nat, s.heap.size ≤ q → A q := fun q h => by rw [← hAe]; exact Or.inr h
  clear hAe
  have hS : va_S A s.heap s.heap [] := va_S.rf
  replace hP : va_P (dC, dI) vwCl [(h0, .inr (8, [.int x0, .int x1, .ref m2, .int (nI c3), .ref m4, .ref m5, .ref m6, .ref m7, .ref m8, .ref m9, .ref m10, .ref m11, .int (nI c12), .int (nI c13), .int (nI c14), .ref m15, .ref m16, .ref m17, .ref m18, .ref m19, .int (nI c20), .int x21, .int (nI c22), .int (nI c23), .ref m24, .ref m25, .int (nI c26), .int (nI c27), .int x28, .ref m29, .ref m30, .ref m31, .ref m32, .ref m33, .ref m34, .int x35, .ref m36, .int (nI c37)]))] s.heap := hP
  have hl := lv_entry ([.ref h0]) (n := 1) (Nat.le_of_ble_eq_true rfl)
  rw [lg_entry_eq]
  generalize (lg_sl ([.ref h0]) ++ List.replicate (1 - (lg_sl ([.ref h0])).length) Slot.unset).toArray = ls at hl ⊢
  replace hl : lv_has ls 1 [(0, .ref h0)] := hl
  have hi_X8 : ∀ w ∈ wsX80, w ∈ wsX8_tongue := by decide +kernel
  have k_f97 := hts (.fieldLink RX8 97 "TongueTellerModel" "thrown" "I") (by decide +kernel)
  have k_f133 := hts (.fieldLink RX8 133 "TongueTellerModel" "tongues" "I") (by decide +kernel)
  refine lv_aload_n hx hb dX8_tongue_0 rfl (lv_at hl 0 rfl) ?_
  refine lv_iconst (v := 0) hx hb dX8_tongue_1 (by decide) ?_
  refine va_put (D := (dC, dI)) (ci := 8) (v := .int 0) (ty := .int) (C := RX8) (T := TX8) (N := 38) hx hb hts hi_X8 tyX8 tyX8_ok nmX8 hown hK hP hD hS 0 rfl rfl 0 (by decide) k_f97 (fun _ h9 => h9) rfl (by decide +kernel) rfl rfl (Nat.le_of_ble_eq_true rfl) dX8_tongue_2 (fun H locs hP hD hS => ?_)
  replace hP : va_P (dC, dI) vwCl [(h0, .inr (8, [.int 0, .int x1, .ref m2, .int (nI c3), .ref m4, .ref m5, .ref m6, .ref m7, .ref m8, .ref m9, .ref m10, .ref m11, .int (nI c12), .int (nI c13), .int (nI c14), .ref m15, .ref m16, .ref m17, .ref m18, .ref m19, .int (nI c20), .int x21, .int (nI c22), .int (nI c23), .ref m24, .ref m25, .int (nI c26), .int (nI c27), .int x28, .ref m29, .ref m30, .ref m31, .ref m32, .ref m33, .ref m34, .int x35, .ref m36, .int (nI c37)]))] H := hP
  replace hD : va_D A [(h0, .inr (8, [.int 0, .int x1, .ref m2, .int (nI c3), .ref m4, .ref m5, .ref m6, .ref m7, .ref m8, .ref m9, .ref m10, .ref m11, .int (nI c12), .int (nI c13), .int (nI c14), .ref m15, .ref m16, .ref m17, .ref m18, .ref m19, .int (nI c20), .int x21, .int (nI c22), .int (nI c23), .ref m24, .ref m25, .int (nI c26), .int (nI c27), .int x28, .ref m29, .ref m30, .ref m31, .ref m32, .ref m33, .ref m34, .int x35, .ref m36, .int (nI c37)]))] := hD
  refine lv_aload_n hx hb dX8_tongue_5 rfl (lv_at hl 0 rfl) ?_
  refine va_get (D := (dC, dI)) (ci := 8) (v := .int (nI c14)) (C := RX8) (T := TX8) (N := 38) hx hb hts hi_X8 hown hK hP 0 rfl rfl 14 (by decide) k_f133 (fun _ h9 => h9) rfl dX8_tongue_6 ?_
  refine lv_bipush (v := 8) hx hb dX8_tongue_9 (by decide) ?_
  refine lv_icmp_ne (tgt := 20) hx hb dX8_tongue_11 (by decide) (fun c_11 => ?_) (fun c_11 => ?_)
  · have n_11 : c14 ≠ 8 := fun h9 => c_11 ((nI_eq (a := c14) (b := 8) (by omega) (by omega)).mpr h9)
    refine lv_aload_n hx hb dX8_tongue_20 rfl (lv_at hl 0 rfl) ?_
    refine lv_dup hx hb dX8_tongue_21 rfl ?_
    refine va_get (D := (dC, dI)) (ci := 8) (v := .int (nI c14)) (C := RX8) (T := TX8) (N := 38) hx hb hts hi_X8 hown hK hP 0 rfl rfl 14 (by decide) k_f133 (fun _ h9 => h9) rfl dX8_tongue_22 ?_
    refine lv_iconst (v := 1) hx hb dX8_tongue_25 (by decide) ?_
    refine lv_iadd hx hb dX8_tongue_26 ?_
    refine lv_topi (fun x_26 ex_26 => ?_)
    obtain rfl : nI (c14 + 1) = x_26 := Eq.symm (ex_26.trans (nI_add c14 1))
    refine va_put (D := (dC, dI)) (ci := 8) (v := .int (nI (c14 + 1))) (ty := .int) (C := RX8) (T := TX8) (N := 38) hx hb hts hi_X8 tyX8 tyX8_ok nmX8 hown hK hP hD hS 0 rfl rfl 14 (by decide) k_f133 (fun _ h9 => h9) rfl (by decide +kernel) rfl rfl (Nat.le_of_ble_eq_true rfl) dX8_tongue_27 (fun H locs hP hD hS => ?_)
    replace hP : va_P (dC, dI) vwCl [(h0, .inr (8, [.int 0, .int x1, .ref m2, .int (nI c3), .ref m4, .ref m5, .ref m6, .ref m7, .ref m8, .ref m9, .ref m10, .ref m11, .int (nI c12), .int (nI c13), .int (nI (c14 + 1)), .ref m15, .ref m16, .ref m17, .ref m18, .ref m19, .int (nI c20), .int x21, .int (nI c22), .int (nI c23), .ref m24, .ref m25, .int (nI c26), .int (nI c27), .int x28, .ref m29, .ref m30, .ref m31, .ref m32, .ref m33, .ref m34, .int x35, .ref m36, .int (nI c37)]))] H := hP
    replace hD : va_D A [(h0, .inr (8, [.int 0, .int x1, .ref m2, .int (nI c3), .ref m4, .ref m5, .ref m6, .ref m7, .ref m8, .ref m9, .ref m10, .ref m11, .int (nI c12), .int (nI c13), .int (nI (c14 + 1)), .ref m15, .ref m16, .ref m17, .ref m18, .ref m19, .int (nI c20), .int x21, .int (nI c22), .int (nI c23), .ref m24, .ref m25, .int (nI c26), .int (nI c27), .int x28, .ref m29, .ref m30, .ref m31, .ref m32, .ref m33, .ref m34, .int x35, .ref m36, .int (nI c37)]))] := hD
    refine lv_aload_n hx hb dX8_tongue_30 rfl (lv_at hl 0 rfl) ?_
    refine lv_aload_n hx hb dX8_tongue_31 rfl (lv_at hl 0 rfl) ?_
    refine va_get (D := (dC, dI)) (ci := 8) (v := .int (nI (c14 + 1))) (C := RX8) (T := TX8) (N := 38) hx hb hts hi_X8 hown hK hP 0 rfl rfl 14 (by decide) k_f133 (fun _ h9 => h9) rfl dX8_tongue_32 ?_
    refine lv_iconst (v := 1) hx hb dX8_tongue_35 (by decide) ?_
    refine lv_isub hx hb dX8_tongue_36 ?_
    refine lv_topi (fun x_36 ex_36 => ?_)
    obtain rfl : nI ((c14 + 1) - 1) = x_36 := Eq.symm (ex_36.trans (pk_sub (a := c14 + 1) (b := 1) (by omega)))
    have hPc := hP.sub (ws' := [(h0, .inr (8, [.int 0, .int x1, .ref m2, .int (nI c3), .ref m4, .ref m5, .ref m6, .ref m7, .ref m8, .ref m9, .ref m10, .ref m11, .int (nI c12), .int (nI c13), .int (nI (c14 + 1)), .ref m15, .ref m16, .ref m17, .ref m18, .ref m19, .int (nI c20), .int x21, .int (nI c22), .int (nI c23), .ref m24, .ref m25, .int (nI c26), .int (nI c27), .int x28, .ref m29, .ref m30, .ref m31, .ref m32, .ref m33, .ref m34, .int x35, .ref m36, .int (nI c37)]))]) [0] rfl
    have hDc := hD.sub (ws' := [(h0, .inr (8, [.int 0, .int x1, .ref m2, .int (nI c3), .ref m4, .ref m5, .ref m6, .ref m7, .ref m8, .ref m9, .ref m10, .ref m11, .int (nI c12), .int (nI c13), .int (nI (c14 + 1)), .ref m15, .ref m16, .ref m17, .ref m18, .ref m19, .int (nI c20), .int x21, .int (nI c22), .int (nI c23), .ref m24, .ref m25, .int (nI c26), .int (nI c27), .int x28, .ref m29, .ref m30, .ref m31, .ref m32, .ref m33, .ref m34, .int x35, .ref m36, .int (nI c37)]))]) [0] (by decide) rfl
    have hKc := hK.sub (tys' := []) [] rfl
    have hFc := va_free (wc := [(h0, .inr (8, [.int 0, .int x1, .ref m2, .int (nI c3), .ref m4, .ref m5, .ref m6, .ref m7, .ref m8, .ref m9, .ref m10, .ref m11, .int (nI c12), .int (nI c13), .int (nI (c14 + 1)), .ref m15, .ref m16, .ref m17, .ref m18, .ref m19, .int (nI c20), .int x21, .int (nI c22), .int (nI c23), .ref m24, .ref m25, .int (nI c26), .int (nI c27), .int x28, .ref m29, .ref m30, .ref m31, .ref m32, .ref m33, .ref m34, .int x35, .ref m36, .int (nI c37)]))]) hD hS hA [0] rfl
    refine va_calli (va_runV (As := [.int (nI ((c14 + 1) - 1))]) (rest := []) ⟨hx, hb, hml, hown, hts⟩ (g_X8_done l dC dI h0 0 x1 m2 c3 m4 m5 m6 m7 m8 m9 m10 m11 c12 c13 (c14 + 1) m15 m16 m17 m18 m19 c20 x21 c22 c23 m24 m25 c26 c27 x28 m29 m30 m31 m32 m33 m34 x35 m36 c37 (nI ((c14 + 1) - 1)) H.size) (cwV 1 hts gX8_tongue_X8_done rfl rfl rfl (by decide +kernel) ⟨Nat.le_of_ble_eq_true rfl, Nat.le_of_ble_eq_true rfl⟩) ⟨fun a U g mk q => by obtain ⟨q0, q1, qP, qK, qD⟩ := q; exact ⟨q0, q1, qP, va_K.moved (u := U) (U := U.calling g mk a) (Vm.Alike.refl U.vm) qK, qD⟩, va_recv hK hP (ci := 8) (q0 := 0) rfl rfl, fun U hU hW => ⟨rfl, by rw [hU], by rw [hU]; exact hPc, va_K.moved hW.alike hKc, hDc.weaken (fun _ _ _ _ => trivial)⟩⟩ rfl rfl hl.1 rfl (lv_room (Nat.le_of_ble_eq_true rfl)) dX8_tongue_37 ⟨Nat.le_of_ble_eq_true rfl, Nat.le_of_ble_eq_true rfl⟩) hS (fun q _ h => hFc q h) hFc (fun r_37 u t H1 locs ht hvm hw_37 hB hz1 hk1 hS => ?_)
    obtain ⟨hP1, hD1⟩ := hB
    rw [ht] at hP1
    obtain ⟨hP, hD⟩ := va_join (wr := []) (w1 := [(h0, .inr (8, [.int 0, .int 0, .ref m2, .int (nI c3), .ref m4, .ref m5, .ref m6, .ref m7, .ref m8, .ref m9, .ref m10, .ref m11, .int (nI c12), .int (nI c13), .int (nI (c14 + 1)), .ref m15, .ref m16, .ref m17, .ref m18, .ref m19, .int (nI c20), .int x21, .int (nI c22), .int (nI c23), .ref m24, .ref m25, .int (nI c26), .int (nI c27), .int x28, .ref m29, .ref m30, .ref m31, .ref m32, .ref m33, .ref m34, .int x35, .ref m36, .int (nI c37)]))]) hP hD [0] [] rfl rfl (by decide) (by decide) hk1 hFc hP1 hD1
    generalize H1 = H at hP hS ⊢
    replace hP : va_P (dC, dI) vwCl [(h0, .inr (8, [.int 0, .int 0, .ref m2, .int (nI c3), .ref m4, .ref m5, .ref m6, .ref m7, .ref m8, .ref m9, .ref m10, .ref m11, .int (nI c12), .int (nI c13), .int (nI (c14 + 1)), .ref m15, .ref m16, .ref m17, .ref m18, .ref m19, .int (nI c20), .int x21, .int (nI c22), .int (nI c23), .ref m24, .ref m25, .int (nI c26), .int (nI c27), .int x28, .ref m29, .ref m30, .ref m31, .ref m32, .ref m33, .ref m34, .int x35, .ref m36, .int (nI c37)]))] H := hP
    replace hD : va_D A [(h0, .inr (8, [.int 0, .int 0, .ref m2, .int (nI c3), .ref m4, .ref m5, .ref m6, .ref m7, .ref m8, .ref m9, .ref m10, .ref m11, .int (nI c12), .int (nI c13), .int (nI (c14 + 1)), .ref m15, .ref m16, .ref m17, .ref m18, .ref m19, .int (nI c20), .int x21, .int (nI c22), .int (nI c23), .ref m24, .ref m25, .int (nI c26), .int (nI c27), .int x28, .ref m29, .ref m30, .ref m31, .ref m32, .ref m33, .ref m34, .int x35, .ref m36, .int (nI c37)]))] := hD
    obtain rfl : (nI ((c14 + 1) - 1)) = r_37 := Eq.symm hw_37
    have hP9 := hP.sub (ws' := [(h0, .inr (8, [.int 0, .int 0, .ref m2, .int (nI c3), .ref m4, .ref m5, .ref m6, .ref m7, .ref m8, .ref m9, .ref m10, .ref m11, .int (nI c12), .int (nI c13), .int (nI (c14 + 1)), .ref m15, .ref m16, .ref m17, .ref m18, .ref m19, .int (nI c20), .int x21, .int (nI c22), .int (nI c23), .ref m24, .ref m25, .int (nI c26), .int (nI c27), .int x28, .ref m29, .ref m30, .ref m31, .ref m32, .ref m33, .ref m34, .int x35, .ref m36, .int (nI c37)]))]) [0] rfl
    have hD9 := hD.sub (ws' := [(h0, .inr (8, [.int 0, .int 0, .ref m2, .int (nI c3), .ref m4, .ref m5, .ref m6, .ref m7, .ref m8, .ref m9, .ref m10, .ref m11, .int (nI c12), .int (nI c13), .int (nI (c14 + 1)), .ref m15, .ref m16, .ref m17, .ref m18, .ref m19, .int (nI c20), .int x21, .int (nI c22), .int (nI c23), .ref m24, .ref m25, .int (nI c26), .int (nI c27), .int x28, .ref m29, .ref m30, .ref m31, .ref m32, .ref m33, .ref m34, .int x35, .ref m36, .int (nI c37)]))]) [0] (by decide) rfl
    exact W.iret (v := (nI ((c14 + 1) - 1))) hx hb hr (fun t ht hW => ⟨⟨(nI ((c14 + 1) - 1)), ((c14 + 1), 0), rfl, by exact ⟨fun _ => ⟨rfl, rfl, rfl⟩, fun h => absurd (by omega) h⟩, by rw [ht]; exact hP9, hD9⟩, hS.F ht⟩) hS.2.2 dX8_tongue_40
  · have n_11 : c14 = 8 := (nI_eq (a := c14) (b := 8) (by omega) (by omega)).mp c_11
    refine lv_aload_n hx hb dX8_tongue_14 rfl (lv_at hl 0 rfl) ?_
    refine lv_iconst (v := 3) hx hb dX8_tongue_15 (by decide) ?_
    have hPc := hP.sub (ws' := [(h0, .inr (8, [.int 0, .int x1, .ref m2, .int (nI c3), .ref m4, .ref m5, .ref m6, .ref m7, .ref m8, .ref m9, .ref m10, .ref m11, .int (nI c12), .int (nI c13), .int (nI c14), .ref m15, .ref m16, .ref m17, .ref m18, .ref m19, .int (nI c20), .int x21, .int (nI c22), .int (nI c23), .ref m24, .ref m25, .int (nI c26), .int (nI c27), .int x28, .ref m29, .ref m30, .ref m31, .ref m32, .ref m33, .ref m34, .int x35, .ref m36, .int (nI c37)]))]) [0] rfl
    have hDc := hD.sub (ws' := [(h0, .inr (8, [.int 0, .int x1, .ref m2, .int (nI c3), .ref m4, .ref m5, .ref m6, .ref m7, .ref m8, .ref m9, .ref m10, .ref m11, .int (nI c12), .int (nI c13), .int (nI c14), .ref m15, .ref m16, .ref m17, .ref m18, .ref m19, .int (nI c20), .int x21, .int (nI c22), .int (nI c23), .ref m24, .ref m25, .int (nI c26), .int (nI c27), .int x28, .ref m29, .ref m30, .ref m31, .ref m32, .ref m33, .ref m34, .int x35, .ref m36, .int (nI c37)]))]) [0] (by decide) rfl
    have hKc := hK.sub (tys' := []) [] rfl
    have hFc := va_free (wc := [(h0, .inr (8, [.int 0, .int x1, .ref m2, .int (nI c3), .ref m4, .ref m5, .ref m6, .ref m7, .ref m8, .ref m9, .ref m10, .ref m11, .int (nI c12), .int (nI c13), .int (nI c14), .ref m15, .ref m16, .ref m17, .ref m18, .ref m19, .int (nI c20), .int x21, .int (nI c22), .int (nI c23), .ref m24, .ref m25, .int (nI c26), .int (nI c27), .int x28, .ref m29, .ref m30, .ref m31, .ref m32, .ref m33, .ref m34, .int x35, .ref m36, .int (nI c37)]))]) hD hS hA [0] rfl
    refine va_calli (va_runV (As := [.int 3]) (rest := []) ⟨hx, hb, hml, hown, hts⟩ (g_X8_refused l dC dI h0 0 x1 m2 c3 m4 m5 m6 m7 m8 m9 m10 m11 c12 c13 c14 m15 m16 m17 m18 m19 c20 x21 c22 c23 m24 m25 c26 c27 x28 m29 m30 m31 m32 m33 m34 x35 m36 c37 3 H.size) (cwV 1 hts gX8_tongue_X8_refused rfl rfl rfl (by decide +kernel) ⟨Nat.le_of_ble_eq_true rfl, Nat.le_of_ble_eq_true rfl⟩) ⟨fun a U g mk q => by obtain ⟨q0, q1, qP, qK, qD⟩ := q; exact ⟨q0, q1, qP, va_K.moved (u := U) (U := U.calling g mk a) (Vm.Alike.refl U.vm) qK, qD⟩, va_recv hK hP (ci := 8) (q0 := 0) rfl rfl, fun U hU hW => ⟨rfl, by rw [hU], by rw [hU]; exact hPc, va_K.moved hW.alike hKc, hDc.weaken (fun _ _ _ _ => trivial)⟩⟩ rfl rfl hl.1 rfl (lv_room (Nat.le_of_ble_eq_true rfl)) dX8_tongue_16 ⟨Nat.le_of_ble_eq_true rfl, Nat.le_of_ble_eq_true rfl⟩) hS (fun q _ h => hFc q h) hFc (fun r_16 u t H1 locs ht hvm hw_16 hB hz1 hk1 hS => ?_)
    obtain ⟨hP1, hD1⟩ := hB
    rw [ht] at hP1
    obtain ⟨hP, hD⟩ := va_join (wr := []) (w1 := [(h0, .inr (8, [.int 0, .int 3, .ref m2, .int (nI c3), .ref m4, .ref m5, .ref m6, .ref m7, .ref m8, .ref m9, .ref m10, .ref m11, .int (nI c12), .int (nI c13), .int (nI c14), .ref m15, .ref m16, .ref m17, .ref m18, .ref m19, .int (nI c20), .int x21, .int (nI c22), .int (nI c23), .ref m24, .ref m25, .int (nI c26), .int (nI c27), .int x28, .ref m29, .ref m30, .ref m31, .ref m32, .ref m33, .ref m34, .int x35, .ref m36, .int (nI c37)]))]) hP hD [0] [] rfl rfl (by decide) (by decide) hk1 hFc hP1 hD1
    generalize H1 = H at hP hS ⊢
    replace hP : va_P (dC, dI) vwCl [(h0, .inr (8, [.int 0, .int 3, .ref m2, .int (nI c3), .ref m4, .ref m5, .ref m6, .ref m7, .ref m8, .ref m9, .ref m10, .ref m11, .int (nI c12), .int (nI c13), .int (nI c14), .ref m15, .ref m16, .ref m17, .ref m18, .ref m19, .int (nI c20), .int x21, .int (nI c22), .int (nI c23), .ref m24, .ref m25, .int (nI c26), .int (nI c27), .int x28, .ref m29, .ref m30, .ref m31, .ref m32, .ref m33, .ref m34, .int x35, .ref m36, .int (nI c37)]))] H := hP
    replace hD : va_D A [(h0, .inr (8, [.int 0, .int 3, .ref m2, .int (nI c3), .ref m4, .ref m5, .ref m6, .ref m7, .ref m8, .ref m9, .ref m10, .ref m11, .int (nI c12), .int (nI c13), .int (nI c14), .ref m15, .ref m16, .ref m17, .ref m18, .ref m19, .int (nI c20), .int x21, .int (nI c22), .int (nI c23), .ref m24, .ref m25, .int (nI c26), .int (nI c27), .int x28, .ref m29, .ref m30, .ref m31, .ref m32, .ref m33, .ref m34, .int x35, .ref m36, .int (nI c37)]))] := hD
    obtain rfl : (-1) = r_16 := Eq.symm hw_16
    have hP9 := hP.sub (ws' := [(h0, .inr (8, [.int 0, .int 3, .ref m2, .int (nI c3), .ref m4, .ref m5, .ref m6, .ref m7, .ref m8, .ref m9, .ref m10, .ref m11, .int (nI c12), .int (nI c13), .int (nI c14), .ref m15, .ref m16, .ref m17, .ref m18, .ref m19, .int (nI c20), .int x21, .int (nI c22), .int (nI c23), .ref m24, .ref m25, .int (nI c26), .int (nI c27), .int x28, .ref m29, .ref m30, .ref m31, .ref m32, .ref m33, .ref m34, .int x35, .ref m36, .int (nI c37)]))]) [0] rfl
    have hD9 := hD.sub (ws' := [(h0, .inr (8, [.int 0, .int 3, .ref m2, .int (nI c3), .ref m4, .ref m5, .ref m6, .ref m7, .ref m8, .ref m9, .ref m10, .ref m11, .int (nI c12), .int (nI c13), .int (nI c14), .ref m15, .ref m16, .ref m17, .ref m18, .ref m19, .int (nI c20), .int x21, .int (nI c22), .int (nI c23), .ref m24, .ref m25, .int (nI c26), .int (nI c27), .int x28, .ref m29, .ref m30, .ref m31, .ref m32, .ref m33, .ref m34, .int x35, .ref m36, .int (nI c37)]))]) [0] (by decide) rfl
    exact W.iret (v := (-1)) hx hb hr (fun t ht hW => ⟨⟨(-1), (c14, 3), rfl, by exact ⟨fun h => absurd h (by omega), fun _ => ⟨rfl, rfl, rfl⟩⟩, by rw [ht]; exact hP9, hD9⟩, hS.F ht⟩) hS.2.2 dX8_tongue_19

set_option maxHeartbeats 4000000 in
set_option maxRecDepth 100000 in
theorem g_X8_set (l : Launch) (dC : Nat → ClassId) (dI : Nat → Nat → Nat) (h0 : Nat) (x0 : Int32) (x1 : Int32) (m2 : Nat) (c3 : Nat) (m4 : Nat) (m5 : Nat) (m6 : Nat) (m7 : Nat) (m8 : Nat) (m9 : Nat) (m10 : Nat) (m11 : Nat) (c12 : Nat) (c13 : Nat) (c14 : Nat) (m15 : Nat) (m16 : Nat) (m17 : Nat) (m18 : Nat) (m19 : Nat) (c20 : Nat) (x21 : Int32) (c22 : Nat) (c23 : Nat) (m24 : Nat) (m25 : Nat) (c26 : Nat) (c27 : Nat) (x28 : Int32) (m29 : Nat) (m30 : Nat) (m31 : Nat) (m32 : Nat) (m33 : Nat) (m34 : Nat) (x35 : Int32) (m36 : Nat) (c37 : Nat) (p0 : Int32) (p1 : Int32) (sz : Nat) : Met l yX8_set wsX8_set ({ frames := 0, cells := 0, slots := 0, locals := 0 }) (va_Pc [.ref h0, .int p0, .int p1] (fun U => U.heap.size = sz ∧ va_P (dC, dI) vwCl [(h0, .inr (8, [.int x0, .int x1, .ref m2, .int (nI c3), .ref m4, .ref m5, .ref m6, .ref m7, .ref m8, .ref m9, .ref m10, .ref m11, .int (nI c12), .int (nI c13), .int (nI c14), .ref m15, .ref m16, .ref m17, .ref m18, .ref m19, .int (nI c20), .int x21, .int (nI c22), .int (nI c23), .ref m24, .ref m25, .int (nI c26), .int (nI c27), .int x28, .ref m29, .ref m30, .ref m31, .ref m32, .ref m33, .ref m34, .int x35, .ref m36, .int (nI c37)]))] U.heap ∧ va_K (dC, dI) vwCl [] U ∧ va_D (fun _ => True) [(h0, .inr (8, [.int x0, .int x1, .ref m2, .int (nI c3), .ref m4, .ref m5, .ref m6, .ref m7, .ref m8, .ref m9, .ref m10, .ref m11, .int (nI c12), .int (nI c13), .int (nI c14), .ref m15, .ref m16, .ref m17, .ref m18, .ref m19, .int (nI c20), .int x21, .int (nI c22), .int (nI c23), .ref m24, .ref m25, .int (nI c26), .int (nI c27), .int x28, .ref m29, .ref m30, .ref m31, .ref m32, .ref m33, .ref m34, .int x35, .ref m36, .int (nI c37)]))])) (va_Qi (fun (r : Int32) (u : Nat × Nat × Int32) => match u with | (u1, u2, u3) => ((r = 1 ∧ (st_ok p0 p1)) ∨ (r = 0 ∧ ¬ (st_ok p0 p1))) ∧ ((st_ok p0 p1 → p0 = nI u1 ∧ p1 = nI u2 ∧ u1 ≤ 2000 ∧ 1 ≤ u2 ∧ u2 ≤ 5000 ∧ u3 = 0) ∧ (¬ st_ok p0 p1 → u1 = c22 ∧ u2 = c23 ∧ u3 = 2))) (fun (u : Nat × Nat × Int32) (t : State) => match u with | (u1, u2, u3) => va_P (dC, dI) vwCl [(h0, .inr (8, [.int 0, .int u3, .ref m2, .int (nI c3), .ref m4, .ref m5, .ref m6, .ref m7, .ref m8, .ref m9, .ref m10, .ref m11, .int (nI c12), .int (nI c13), .int (nI c14), .ref m15, .ref m16, .ref m17, .ref m18, .ref m19, .int (nI c20), .int x21, .int (nI u1), .int (nI u2), .ref m24, .ref m25, .int (nI c26), .int (nI c27), .int x28, .ref m29, .ref m30, .ref m31, .ref m32, .ref m33, .ref m34, .int x35, .ref m36, .int (nI c37)]))] t.heap ∧ va_D (va_A [(h0, .inr (8, [.int x0, .int x1, .ref m2, .int (nI c3), .ref m4, .ref m5, .ref m6, .ref m7, .ref m8, .ref m9, .ref m10, .ref m11, .int (nI c12), .int (nI c13), .int (nI c14), .ref m15, .ref m16, .ref m17, .ref m18, .ref m19, .int (nI c20), .int x21, .int (nI c22), .int (nI c23), .ref m24, .ref m25, .int (nI c26), .int (nI c27), .int x28, .ref m29, .ref m30, .ref m31, .ref m32, .ref m33, .ref m34, .int x35, .ref m36, .int (nI c37)]))] sz) [(h0, .inr (8, [.int 0, .int u3, .ref m2, .int (nI c3), .ref m4, .ref m5, .ref m6, .ref m7, .ref m8, .ref m9, .ref m10, .ref m11, .int (nI c12), .int (nI c13), .int (nI c14), .ref m15, .ref m16, .ref m17, .ref m18, .ref m19, .int (nI c20), .int x21, .int (nI u1), .int (nI u2), .ref m24, .ref m25, .int (nI c26), .int (nI c27), .int x28, .ref m29, .ref m30, .ref m31, .ref m32, .ref m33, .ref m34, .int x35, .ref m36, .int (nI c37)]))]) (va_A [(h0, .inr (8, [.int x0, .int x1, .ref m2, .int (nI c3), .ref m4, .ref m5, .ref m6, .ref m7, .ref m8, .ref m9, .ref m10, .ref m11, .int (nI c12), .int (nI c13), .int (nI c14), .ref m15, .ref m16, .ref m17, .ref m18, .ref m19, .int (nI c20), .int x21, .int (nI c22), .int (nI c23), .ref m24, .ref m25, .int (nI c26), .int (nI c27), .int x28, .ref m29, .ref m30, .ref m31, .ref m32, .ref m33, .ref m34, .int x35, .ref m36, .int (nI c37)]))] sz)) 0 0 (va_A [(h0, .inr (8, [.int x0, .int x1, .ref m2, .int (nI c3), .ref m4, .ref m5, .ref m6, .ref m7, .ref m8, .ref m9, .ref m10, .ref m11, .int (nI c12), .int (nI c13), .int (nI c14), .ref m15, .ref m16, .ref m17, .ref m18, .ref m19, .int (nI c20), .int x21, .int (nI c22), .int (nI c23), .ref m24, .ref m25, .int (nI c26), .int (nI c27), .int x28, .ref m29, .ref m30, .ref m31, .ref m32, .ref m33, .ref m34, .int x35, .ref m36, .int (nI c37)]))] sz) := by
  refine Met.ofW (cc := cX8_set) (maxL := 3) (ret := (some .boolean)) (by decide) rfl ?_
  intro p e s m args below meth c s₁ B hml hv
  obtain ⟨rfl, hsz, hP, hK, hD0⟩ := hv
  have hx := B.exec
  have hb := B.bytes
  have hr := B.returns
  have hts := atoms_spec (ws := wsX8_set) B.pre
  have hown : s.vm.findClass RX8 = some m.cls := findClass_of_methodNamed B.named
  have hlocks := B.notSynchronized
  subst hsz
  have hD := hD0.self (sz := s.heap.size)
  clear hD0
  generalize hAe : va_A [(h0, .inr (8, [.int x0, .int x1, .ref m2, .int (nI c3), .ref m4, .ref m5, .ref m6, .ref m7, .ref m8, .ref m9, .ref m10, .ref m11, .int (nI c12), .int (nI c13), .int (nI c14), .ref m15, .ref m16, .ref m17, .ref m18, .ref m19, .int (nI c20), .int x21, .int (nI c22), .int (nI c23), .ref m24, .ref m25, .int (nI c26), .int (nI c27), .int x28, .ref m29, .ref m30, .ref m31, .ref m32, .ref m33, .ref m34, .int x35, .ref m36, .int (nI c37)]))] s.heap.size = A at hD ⊢
  have hA : ∀ q : Nat, s.heap.size ≤ q → A q := fun q h => by rw [← hAe]; exact Or.inr h
  clear hAe
  have hS : va_S A s.heap s.heap [] := va_S.rf
  replace hP : va_P (dC, dI) vwCl [(h0, .inr (8, [.int x0, .int x1, .ref m2, .int (nI c3), .ref m4, .ref m5, .ref m6, .ref m7, .ref m8, .ref m9, .ref m10, .ref m11, .int (nI c12), .int (nI c13), .int (nI c14), .ref m15, .ref m16, .ref m17, .ref m18, .ref m19, .int (nI c20), .int x21, .int (nI c22), .int (nI c23), .ref m24, .ref m25, .int (nI c26), .int (nI c27), .int x28, .ref m29, .ref m30, .ref m31, .ref m32, .ref m33, .ref m34, .int x35, .ref m36, .int (nI c37)]))] s.heap := hP
  have hl := lv_entry ([.ref h0, .int p0, .int p1]) (n := 3) (Nat.le_of_ble_eq_true rfl)
  rw [lg_entry_eq]
  generalize (lg_sl ([.ref h0, .int p0, .int p1]) ++ List.replicate (3 - (lg_sl ([.ref h0, .int p0, .int p1])).length) Slot.unset).toArray = ls at hl ⊢
  replace hl : lv_has ls 3 [(0, .ref h0), (1, .int p0), (2, .int p1)] := hl
  have hi_X8 : ∀ w ∈ wsX80, w ∈ wsX8_set := by decide +kernel
  have k_f97 := hts (.fieldLink RX8 97 "TongueTellerModel" "thrown" "I") (by decide +kernel)
  have k_f100 := hts (.fieldLink RX8 100 "TongueTellerModel" "trouble" "I") (by decide +kernel)
  have k_f58 := hts (.fieldLink RX8 58 "TongueTellerModel" "change" "I") (by decide +kernel)
  have k_f62 := hts (.fieldLink RX8 62 "TongueTellerModel" "gap" "I") (by decide +kernel)
  refine lv_aload_n hx hb dX8_set_0 rfl (lv_at hl 0 rfl) ?_
  refine lv_iconst (v := 0) hx hb dX8_set_1 (by decide) ?_
  refine va_put (D := (dC, dI)) (ci := 8) (v := .int 0) (ty := .int) (C := RX8) (T := TX8) (N := 38) hx hb hts hi_X8 tyX8 tyX8_ok nmX8 hown hK hP hD hS 0 rfl rfl 0 (by decide) k_f97 (fun _ h9 => h9) rfl (by decide +kernel) rfl rfl (Nat.le_of_ble_eq_true rfl) dX8_set_2 (fun H locs hP hD hS => ?_)
  replace hP : va_P (dC, dI) vwCl [(h0, .inr (8, [.int 0, .int x1, .ref m2, .int (nI c3), .ref m4, .ref m5, .ref m6, .ref m7, .ref m8, .ref m9, .ref m10, .ref m11, .int (nI c12), .int (nI c13), .int (nI c14), .ref m15, .ref m16, .ref m17, .ref m18, .ref m19, .int (nI c20), .int x21, .int (nI c22), .int (nI c23), .ref m24, .ref m25, .int (nI c26), .int (nI c27), .int x28, .ref m29, .ref m30, .ref m31, .ref m32, .ref m33, .ref m34, .int x35, .ref m36, .int (nI c37)]))] H := hP
  replace hD : va_D A [(h0, .inr (8, [.int 0, .int x1, .ref m2, .int (nI c3), .ref m4, .ref m5, .ref m6, .ref m7, .ref m8, .ref m9, .ref m10, .ref m11, .int (nI c12), .int (nI c13), .int (nI c14), .ref m15, .ref m16, .ref m17, .ref m18, .ref m19, .int (nI c20), .int x21, .int (nI c22), .int (nI c23), .ref m24, .ref m25, .int (nI c26), .int (nI c27), .int x28, .ref m29, .ref m30, .ref m31, .ref m32, .ref m33, .ref m34, .int x35, .ref m36, .int (nI c37)]))] := hD
  refine lv_aload_n hx hb dX8_set_5 rfl (lv_at hl 0 rfl) ?_
  refine lv_iload_n hx hb dX8_set_6 rfl (lv_at hl 1 rfl) ?_
  refine lv_if_lt (tgt := 29) hx hb dX8_set_7 (by decide) (fun c_7 => ?_) (fun c_7 => ?_)
  · refine lv_iconst (v := 2) hx hb dX8_set_29 (by decide) ?_
    refine lv_goto (tgt := 34) hx hb dX8_set_30 (by decide) ?_
    refine va_put (D := (dC, dI)) (ci := 8) (v := .int 2) (ty := .int) (C := RX8) (T := TX8) (N := 38) hx hb hts hi_X8 tyX8 tyX8_ok nmX8 hown hK hP hD hS 0 rfl rfl 1 (by decide) k_f100 (fun _ h9 => h9) rfl (by decide +kernel) rfl rfl (Nat.le_of_ble_eq_true rfl) dX8_set_34 (fun H locs hP hD hS => ?_)
    replace hP : va_P (dC, dI) vwCl [(h0, .inr (8, [.int 0, .int 2, .ref m2, .int (nI c3), .ref m4, .ref m5, .ref m6, .ref m7, .ref m8, .ref m9, .ref m10, .ref m11, .int (nI c12), .int (nI c13), .int (nI c14), .ref m15, .ref m16, .ref m17, .ref m18, .ref m19, .int (nI c20), .int x21, .int (nI c22), .int (nI c23), .ref m24, .ref m25, .int (nI c26), .int (nI c27), .int x28, .ref m29, .ref m30, .ref m31, .ref m32, .ref m33, .ref m34, .int x35, .ref m36, .int (nI c37)]))] H := hP
    replace hD : va_D A [(h0, .inr (8, [.int 0, .int 2, .ref m2, .int (nI c3), .ref m4, .ref m5, .ref m6, .ref m7, .ref m8, .ref m9, .ref m10, .ref m11, .int (nI c12), .int (nI c13), .int (nI c14), .ref m15, .ref m16, .ref m17, .ref m18, .ref m19, .int (nI c20), .int x21, .int (nI c22), .int (nI c23), .ref m24, .ref m25, .int (nI c26), .int (nI c27), .int x28, .ref m29, .ref m30, .ref m31, .ref m32, .ref m33, .ref m34, .int x35, .ref m36, .int (nI c37)]))] := hD
    refine lv_aload_n hx hb dX8_set_37 rfl (lv_at hl 0 rfl) ?_
    refine va_get (D := (dC, dI)) (ci := 8) (v := .int 2) (C := RX8) (T := TX8) (N := 38) hx hb hts hi_X8 hown hK hP 0 rfl rfl 1 (by decide) k_f100 (fun _ h9 => h9) rfl dX8_set_38 ?_
    refine lv_if_le (tgt := 46) hx hb dX8_set_41 (by decide) (fun c_41 => ?_) (fun c_41 => ?_)
    · exact absurd c_41 (by decide)
    refine lv_iconst (v := 0) hx hb dX8_set_44 (by decide) ?_
    have hP9 := hP.sub (ws' := [(h0, .inr (8, [.int 0, .int 2, .ref m2, .int (nI c3), .ref m4, .ref m5, .ref m6, .ref m7, .ref m8, .ref m9, .ref m10, .ref m11, .int (nI c12), .int (nI c13), .int (nI c14), .ref m15, .ref m16, .ref m17, .ref m18, .ref m19, .int (nI c20), .int x21, .int (nI c22), .int (nI c23), .ref m24, .ref m25, .int (nI c26), .int (nI c27), .int x28, .ref m29, .ref m30, .ref m31, .ref m32, .ref m33, .ref m34, .int x35, .ref m36, .int (nI c37)]))]) [0] rfl
    have hD9 := hD.sub (ws' := [(h0, .inr (8, [.int 0, .int 2, .ref m2, .int (nI c3), .ref m4, .ref m5, .ref m6, .ref m7, .ref m8, .ref m9, .ref m10, .ref m11, .int (nI c12), .int (nI c13), .int (nI c14), .ref m15, .ref m16, .ref m17, .ref m18, .ref m19, .int (nI c20), .int x21, .int (nI c22), .int (nI c23), .ref m24, .ref m25, .int (nI c26), .int (nI c27), .int x28, .ref m29, .ref m30, .ref m31, .ref m32, .ref m33, .ref m34, .int x35, .ref m36, .int (nI c37)]))]) [0] (by decide) rfl
    exact W.zret (v := 0) hx hb hr (rfl) (fun t ht hW => ⟨⟨0, (c22, c23, 2), rfl, ⟨Or.inr ⟨rfl, by exact fun h => h.1 c_7⟩, by exact ⟨fun h => absurd c_7 h.1, fun _ => ⟨rfl, rfl, rfl⟩⟩⟩, by rw [ht]; exact hP9, hD9⟩, hS.F ht⟩) hS.2.2 dX8_set_45
  · refine lv_iload_n hx hb dX8_set_10 rfl (lv_at hl 1 rfl) ?_
    refine lv_sipush (v := 2000) hx hb dX8_set_11 (by decide) ?_
    refine lv_icmp_gt (tgt := 29) hx hb dX8_set_14 (by decide) (fun c_14 => ?_) (fun c_14 => ?_)
    · refine lv_iconst (v := 2) hx hb dX8_set_29 (by decide) ?_
      refine lv_goto (tgt := 34) hx hb dX8_set_30 (by decide) ?_
      refine va_put (D := (dC, dI)) (ci := 8) (v := .int 2) (ty := .int) (C := RX8) (T := TX8) (N := 38) hx hb hts hi_X8 tyX8 tyX8_ok nmX8 hown hK hP hD hS 0 rfl rfl 1 (by decide) k_f100 (fun _ h9 => h9) rfl (by decide +kernel) rfl rfl (Nat.le_of_ble_eq_true rfl) dX8_set_34 (fun H locs hP hD hS => ?_)
      replace hP : va_P (dC, dI) vwCl [(h0, .inr (8, [.int 0, .int 2, .ref m2, .int (nI c3), .ref m4, .ref m5, .ref m6, .ref m7, .ref m8, .ref m9, .ref m10, .ref m11, .int (nI c12), .int (nI c13), .int (nI c14), .ref m15, .ref m16, .ref m17, .ref m18, .ref m19, .int (nI c20), .int x21, .int (nI c22), .int (nI c23), .ref m24, .ref m25, .int (nI c26), .int (nI c27), .int x28, .ref m29, .ref m30, .ref m31, .ref m32, .ref m33, .ref m34, .int x35, .ref m36, .int (nI c37)]))] H := hP
      replace hD : va_D A [(h0, .inr (8, [.int 0, .int 2, .ref m2, .int (nI c3), .ref m4, .ref m5, .ref m6, .ref m7, .ref m8, .ref m9, .ref m10, .ref m11, .int (nI c12), .int (nI c13), .int (nI c14), .ref m15, .ref m16, .ref m17, .ref m18, .ref m19, .int (nI c20), .int x21, .int (nI c22), .int (nI c23), .ref m24, .ref m25, .int (nI c26), .int (nI c27), .int x28, .ref m29, .ref m30, .ref m31, .ref m32, .ref m33, .ref m34, .int x35, .ref m36, .int (nI c37)]))] := hD
      refine lv_aload_n hx hb dX8_set_37 rfl (lv_at hl 0 rfl) ?_
      refine va_get (D := (dC, dI)) (ci := 8) (v := .int 2) (C := RX8) (T := TX8) (N := 38) hx hb hts hi_X8 hown hK hP 0 rfl rfl 1 (by decide) k_f100 (fun _ h9 => h9) rfl dX8_set_38 ?_
      refine lv_if_le (tgt := 46) hx hb dX8_set_41 (by decide) (fun c_41 => ?_) (fun c_41 => ?_)
      · exact absurd c_41 (by decide)
      refine lv_iconst (v := 0) hx hb dX8_set_44 (by decide) ?_
      have hP9 := hP.sub (ws' := [(h0, .inr (8, [.int 0, .int 2, .ref m2, .int (nI c3), .ref m4, .ref m5, .ref m6, .ref m7, .ref m8, .ref m9, .ref m10, .ref m11, .int (nI c12), .int (nI c13), .int (nI c14), .ref m15, .ref m16, .ref m17, .ref m18, .ref m19, .int (nI c20), .int x21, .int (nI c22), .int (nI c23), .ref m24, .ref m25, .int (nI c26), .int (nI c27), .int x28, .ref m29, .ref m30, .ref m31, .ref m32, .ref m33, .ref m34, .int x35, .ref m36, .int (nI c37)]))]) [0] rfl
      have hD9 := hD.sub (ws' := [(h0, .inr (8, [.int 0, .int 2, .ref m2, .int (nI c3), .ref m4, .ref m5, .ref m6, .ref m7, .ref m8, .ref m9, .ref m10, .ref m11, .int (nI c12), .int (nI c13), .int (nI c14), .ref m15, .ref m16, .ref m17, .ref m18, .ref m19, .int (nI c20), .int x21, .int (nI c22), .int (nI c23), .ref m24, .ref m25, .int (nI c26), .int (nI c27), .int x28, .ref m29, .ref m30, .ref m31, .ref m32, .ref m33, .ref m34, .int x35, .ref m36, .int (nI c37)]))]) [0] (by decide) rfl
      exact W.zret (v := 0) hx hb hr (rfl) (fun t ht hW => ⟨⟨0, (c22, c23, 2), rfl, ⟨Or.inr ⟨rfl, by exact fun h => h.2.1 c_14⟩, by exact ⟨fun h => absurd c_14 h.2.1, fun _ => ⟨rfl, rfl, rfl⟩⟩⟩, by rw [ht]; exact hP9, hD9⟩, hS.F ht⟩) hS.2.2 dX8_set_45
    · refine lv_iload_n hx hb dX8_set_17 rfl (lv_at hl 2 rfl) ?_
      refine lv_iconst (v := 1) hx hb dX8_set_18 (by decide) ?_
      refine lv_icmp_lt (tgt := 29) hx hb dX8_set_19 (by decide) (fun c_19 => ?_) (fun c_19 => ?_)
      · refine lv_iconst (v := 2) hx hb dX8_set_29 (by decide) ?_
        refine lv_goto (tgt := 34) hx hb dX8_set_30 (by decide) ?_
        refine va_put (D := (dC, dI)) (ci := 8) (v := .int 2) (ty := .int) (C := RX8) (T := TX8) (N := 38) hx hb hts hi_X8 tyX8 tyX8_ok nmX8 hown hK hP hD hS 0 rfl rfl 1 (by decide) k_f100 (fun _ h9 => h9) rfl (by decide +kernel) rfl rfl (Nat.le_of_ble_eq_true rfl) dX8_set_34 (fun H locs hP hD hS => ?_)
        replace hP : va_P (dC, dI) vwCl [(h0, .inr (8, [.int 0, .int 2, .ref m2, .int (nI c3), .ref m4, .ref m5, .ref m6, .ref m7, .ref m8, .ref m9, .ref m10, .ref m11, .int (nI c12), .int (nI c13), .int (nI c14), .ref m15, .ref m16, .ref m17, .ref m18, .ref m19, .int (nI c20), .int x21, .int (nI c22), .int (nI c23), .ref m24, .ref m25, .int (nI c26), .int (nI c27), .int x28, .ref m29, .ref m30, .ref m31, .ref m32, .ref m33, .ref m34, .int x35, .ref m36, .int (nI c37)]))] H := hP
        replace hD : va_D A [(h0, .inr (8, [.int 0, .int 2, .ref m2, .int (nI c3), .ref m4, .ref m5, .ref m6, .ref m7, .ref m8, .ref m9, .ref m10, .ref m11, .int (nI c12), .int (nI c13), .int (nI c14), .ref m15, .ref m16, .ref m17, .ref m18, .ref m19, .int (nI c20), .int x21, .int (nI c22), .int (nI c23), .ref m24, .ref m25, .int (nI c26), .int (nI c27), .int x28, .ref m29, .ref m30, .ref m31, .ref m32, .ref m33, .ref m34, .int x35, .ref m36, .int (nI c37)]))] := hD
        refine lv_aload_n hx hb dX8_set_37 rfl (lv_at hl 0 rfl) ?_
        refine va_get (D := (dC, dI)) (ci := 8) (v := .int 2) (C := RX8) (T := TX8) (N := 38) hx hb hts hi_X8 hown hK hP 0 rfl rfl 1 (by decide) k_f100 (fun _ h9 => h9) rfl dX8_set_38 ?_
        refine lv_if_le (tgt := 46) hx hb dX8_set_41 (by decide) (fun c_41 => ?_) (fun c_41 => ?_)
        · exact absurd c_41 (by decide)
        refine lv_iconst (v := 0) hx hb dX8_set_44 (by decide) ?_
        have hP9 := hP.sub (ws' := [(h0, .inr (8, [.int 0, .int 2, .ref m2, .int (nI c3), .ref m4, .ref m5, .ref m6, .ref m7, .ref m8, .ref m9, .ref m10, .ref m11, .int (nI c12), .int (nI c13), .int (nI c14), .ref m15, .ref m16, .ref m17, .ref m18, .ref m19, .int (nI c20), .int x21, .int (nI c22), .int (nI c23), .ref m24, .ref m25, .int (nI c26), .int (nI c27), .int x28, .ref m29, .ref m30, .ref m31, .ref m32, .ref m33, .ref m34, .int x35, .ref m36, .int (nI c37)]))]) [0] rfl
        have hD9 := hD.sub (ws' := [(h0, .inr (8, [.int 0, .int 2, .ref m2, .int (nI c3), .ref m4, .ref m5, .ref m6, .ref m7, .ref m8, .ref m9, .ref m10, .ref m11, .int (nI c12), .int (nI c13), .int (nI c14), .ref m15, .ref m16, .ref m17, .ref m18, .ref m19, .int (nI c20), .int x21, .int (nI c22), .int (nI c23), .ref m24, .ref m25, .int (nI c26), .int (nI c27), .int x28, .ref m29, .ref m30, .ref m31, .ref m32, .ref m33, .ref m34, .int x35, .ref m36, .int (nI c37)]))]) [0] (by decide) rfl
        exact W.zret (v := 0) hx hb hr (rfl) (fun t ht hW => ⟨⟨0, (c22, c23, 2), rfl, ⟨Or.inr ⟨rfl, by exact fun h => h.2.2.1 c_19⟩, by exact ⟨fun h => absurd c_19 h.2.2.1, fun _ => ⟨rfl, rfl, rfl⟩⟩⟩, by rw [ht]; exact hP9, hD9⟩, hS.F ht⟩) hS.2.2 dX8_set_45
      · refine lv_iload_n hx hb dX8_set_22 rfl (lv_at hl 2 rfl) ?_
        refine lv_sipush (v := 5000) hx hb dX8_set_23 (by decide) ?_
        refine lv_icmp_le (tgt := 33) hx hb dX8_set_26 (by decide) (fun c_26 => ?_) (fun c_26 => ?_)
        · refine lv_iconst (v := 0) hx hb dX8_set_33 (by decide) ?_
          refine va_put (D := (dC, dI)) (ci := 8) (v := .int 0) (ty := .int) (C := RX8) (T := TX8) (N := 38) hx hb hts hi_X8 tyX8 tyX8_ok nmX8 hown hK hP hD hS 0 rfl rfl 1 (by decide) k_f100 (fun _ h9 => h9) rfl (by decide +kernel) rfl rfl (Nat.le_of_ble_eq_true rfl) dX8_set_34 (fun H locs hP hD hS => ?_)
          replace hP : va_P (dC, dI) vwCl [(h0, .inr (8, [.int 0, .int 0, .ref m2, .int (nI c3), .ref m4, .ref m5, .ref m6, .ref m7, .ref m8, .ref m9, .ref m10, .ref m11, .int (nI c12), .int (nI c13), .int (nI c14), .ref m15, .ref m16, .ref m17, .ref m18, .ref m19, .int (nI c20), .int x21, .int (nI c22), .int (nI c23), .ref m24, .ref m25, .int (nI c26), .int (nI c27), .int x28, .ref m29, .ref m30, .ref m31, .ref m32, .ref m33, .ref m34, .int x35, .ref m36, .int (nI c37)]))] H := hP
          replace hD : va_D A [(h0, .inr (8, [.int 0, .int 0, .ref m2, .int (nI c3), .ref m4, .ref m5, .ref m6, .ref m7, .ref m8, .ref m9, .ref m10, .ref m11, .int (nI c12), .int (nI c13), .int (nI c14), .ref m15, .ref m16, .ref m17, .ref m18, .ref m19, .int (nI c20), .int x21, .int (nI c22), .int (nI c23), .ref m24, .ref m25, .int (nI c26), .int (nI c27), .int x28, .ref m29, .ref m30, .ref m31, .ref m32, .ref m33, .ref m34, .int x35, .ref m36, .int (nI c37)]))] := hD
          refine lv_aload_n hx hb dX8_set_37 rfl (lv_at hl 0 rfl) ?_
          refine va_get (D := (dC, dI)) (ci := 8) (v := .int 0) (C := RX8) (T := TX8) (N := 38) hx hb hts hi_X8 hown hK hP 0 rfl rfl 1 (by decide) k_f100 (fun _ h9 => h9) rfl dX8_set_38 ?_
          refine lv_if_le (tgt := 46) hx hb dX8_set_41 (by decide) (fun c_41 => ?_) (fun c_41 => ?_)
          rotate_left
          · exact absurd (by decide) c_41
          obtain ⟨j0, j1, ep0, ep1, hj0, hj1, hj2⟩ := st_nat ⟨c_7, c_14, c_19, c_26⟩
          subst ep0
          subst ep1
          refine lv_aload_n hx hb dX8_set_46 rfl (lv_at hl 0 rfl) ?_
          refine lv_iload_n hx hb dX8_set_47 rfl (lv_at hl 1 rfl) ?_
          refine va_put (D := (dC, dI)) (ci := 8) (v := .int (nI j0)) (ty := .int) (C := RX8) (T := TX8) (N := 38) hx hb hts hi_X8 tyX8 tyX8_ok nmX8 hown hK hP hD hS 0 rfl rfl 22 (by decide) k_f58 (fun _ h9 => h9) rfl (by decide +kernel) rfl rfl (Nat.le_of_ble_eq_true rfl) dX8_set_48 (fun H locs hP hD hS => ?_)
          replace hP : va_P (dC, dI) vwCl [(h0, .inr (8, [.int 0, .int 0, .ref m2, .int (nI c3), .ref m4, .ref m5, .ref m6, .ref m7, .ref m8, .ref m9, .ref m10, .ref m11, .int (nI c12), .int (nI c13), .int (nI c14), .ref m15, .ref m16, .ref m17, .ref m18, .ref m19, .int (nI c20), .int x21, .int (nI j0), .int (nI c23), .ref m24, .ref m25, .int (nI c26), .int (nI c27), .int x28, .ref m29, .ref m30, .ref m31, .ref m32, .ref m33, .ref m34, .int x35, .ref m36, .int (nI c37)]))] H := hP
          replace hD : va_D A [(h0, .inr (8, [.int 0, .int 0, .ref m2, .int (nI c3), .ref m4, .ref m5, .ref m6, .ref m7, .ref m8, .ref m9, .ref m10, .ref m11, .int (nI c12), .int (nI c13), .int (nI c14), .ref m15, .ref m16, .ref m17, .ref m18, .ref m19, .int (nI c20), .int x21, .int (nI j0), .int (nI c23), .ref m24, .ref m25, .int (nI c26), .int (nI c27), .int x28, .ref m29, .ref m30, .ref m31, .ref m32, .ref m33, .ref m34, .int x35, .ref m36, .int (nI c37)]))] := hD
          refine lv_aload_n hx hb dX8_set_51 rfl (lv_at hl 0 rfl) ?_
          refine lv_iload_n hx hb dX8_set_52 rfl (lv_at hl 2 rfl) ?_
          refine va_put (D := (dC, dI)) (ci := 8) (v := .int (nI j1)) (ty := .int) (C := RX8) (T := TX8) (N := 38) hx hb hts hi_X8 tyX8 tyX8_ok nmX8 hown hK hP hD hS 0 rfl rfl 23 (by decide) k_f62 (fun _ h9 => h9) rfl (by decide +kernel) rfl rfl (Nat.le_of_ble_eq_true rfl) dX8_set_53 (fun H locs hP hD hS => ?_)
          replace hP : va_P (dC, dI) vwCl [(h0, .inr (8, [.int 0, .int 0, .ref m2, .int (nI c3), .ref m4, .ref m5, .ref m6, .ref m7, .ref m8, .ref m9, .ref m10, .ref m11, .int (nI c12), .int (nI c13), .int (nI c14), .ref m15, .ref m16, .ref m17, .ref m18, .ref m19, .int (nI c20), .int x21, .int (nI j0), .int (nI j1), .ref m24, .ref m25, .int (nI c26), .int (nI c27), .int x28, .ref m29, .ref m30, .ref m31, .ref m32, .ref m33, .ref m34, .int x35, .ref m36, .int (nI c37)]))] H := hP
          replace hD : va_D A [(h0, .inr (8, [.int 0, .int 0, .ref m2, .int (nI c3), .ref m4, .ref m5, .ref m6, .ref m7, .ref m8, .ref m9, .ref m10, .ref m11, .int (nI c12), .int (nI c13), .int (nI c14), .ref m15, .ref m16, .ref m17, .ref m18, .ref m19, .int (nI c20), .int x21, .int (nI j0), .int (nI j1), .ref m24, .ref m25, .int (nI c26), .int (nI c27), .int x28, .ref m29, .ref m30, .ref m31, .ref m32, .ref m33, .ref m34, .int x35, .ref m36, .int (nI c37)]))] := hD
          refine lv_iconst (v := 1) hx hb dX8_set_56 (by decide) ?_
          have hP9 := hP.sub (ws' := [(h0, .inr (8, [.int 0, .int 0, .ref m2, .int (nI c3), .ref m4, .ref m5, .ref m6, .ref m7, .ref m8, .ref m9, .ref m10, .ref m11, .int (nI c12), .int (nI c13), .int (nI c14), .ref m15, .ref m16, .ref m17, .ref m18, .ref m19, .int (nI c20), .int x21, .int (nI j0), .int (nI j1), .ref m24, .ref m25, .int (nI c26), .int (nI c27), .int x28, .ref m29, .ref m30, .ref m31, .ref m32, .ref m33, .ref m34, .int x35, .ref m36, .int (nI c37)]))]) [0] rfl
          have hD9 := hD.sub (ws' := [(h0, .inr (8, [.int 0, .int 0, .ref m2, .int (nI c3), .ref m4, .ref m5, .ref m6, .ref m7, .ref m8, .ref m9, .ref m10, .ref m11, .int (nI c12), .int (nI c13), .int (nI c14), .ref m15, .ref m16, .ref m17, .ref m18, .ref m19, .int (nI c20), .int x21, .int (nI j0), .int (nI j1), .ref m24, .ref m25, .int (nI c26), .int (nI c27), .int x28, .ref m29, .ref m30, .ref m31, .ref m32, .ref m33, .ref m34, .int x35, .ref m36, .int (nI c37)]))]) [0] (by decide) rfl
          exact W.zret (v := 1) hx hb hr (rfl) (fun t ht hW => ⟨⟨1, (j0, j1, 0), rfl, ⟨Or.inl ⟨rfl, by exact ⟨c_7, c_14, c_19, c_26⟩⟩, by exact ⟨fun _ => ⟨rfl, rfl, hj0, hj1, hj2, rfl⟩, fun h => absurd ⟨c_7, c_14, c_19, c_26⟩ h⟩⟩, by rw [ht]; exact hP9, hD9⟩, hS.F ht⟩) hS.2.2 dX8_set_57
        · refine lv_iconst (v := 2) hx hb dX8_set_29 (by decide) ?_
          refine lv_goto (tgt := 34) hx hb dX8_set_30 (by decide) ?_
          refine va_put (D := (dC, dI)) (ci := 8) (v := .int 2) (ty := .int) (C := RX8) (T := TX8) (N := 38) hx hb hts hi_X8 tyX8 tyX8_ok nmX8 hown hK hP hD hS 0 rfl rfl 1 (by decide) k_f100 (fun _ h9 => h9) rfl (by decide +kernel) rfl rfl (Nat.le_of_ble_eq_true rfl) dX8_set_34 (fun H locs hP hD hS => ?_)
          replace hP : va_P (dC, dI) vwCl [(h0, .inr (8, [.int 0, .int 2, .ref m2, .int (nI c3), .ref m4, .ref m5, .ref m6, .ref m7, .ref m8, .ref m9, .ref m10, .ref m11, .int (nI c12), .int (nI c13), .int (nI c14), .ref m15, .ref m16, .ref m17, .ref m18, .ref m19, .int (nI c20), .int x21, .int (nI c22), .int (nI c23), .ref m24, .ref m25, .int (nI c26), .int (nI c27), .int x28, .ref m29, .ref m30, .ref m31, .ref m32, .ref m33, .ref m34, .int x35, .ref m36, .int (nI c37)]))] H := hP
          replace hD : va_D A [(h0, .inr (8, [.int 0, .int 2, .ref m2, .int (nI c3), .ref m4, .ref m5, .ref m6, .ref m7, .ref m8, .ref m9, .ref m10, .ref m11, .int (nI c12), .int (nI c13), .int (nI c14), .ref m15, .ref m16, .ref m17, .ref m18, .ref m19, .int (nI c20), .int x21, .int (nI c22), .int (nI c23), .ref m24, .ref m25, .int (nI c26), .int (nI c27), .int x28, .ref m29, .ref m30, .ref m31, .ref m32, .ref m33, .ref m34, .int x35, .ref m36, .int (nI c37)]))] := hD
          refine lv_aload_n hx hb dX8_set_37 rfl (lv_at hl 0 rfl) ?_
          refine va_get (D := (dC, dI)) (ci := 8) (v := .int 2) (C := RX8) (T := TX8) (N := 38) hx hb hts hi_X8 hown hK hP 0 rfl rfl 1 (by decide) k_f100 (fun _ h9 => h9) rfl dX8_set_38 ?_
          refine lv_if_le (tgt := 46) hx hb dX8_set_41 (by decide) (fun c_41 => ?_) (fun c_41 => ?_)
          · exact absurd c_41 (by decide)
          refine lv_iconst (v := 0) hx hb dX8_set_44 (by decide) ?_
          have hP9 := hP.sub (ws' := [(h0, .inr (8, [.int 0, .int 2, .ref m2, .int (nI c3), .ref m4, .ref m5, .ref m6, .ref m7, .ref m8, .ref m9, .ref m10, .ref m11, .int (nI c12), .int (nI c13), .int (nI c14), .ref m15, .ref m16, .ref m17, .ref m18, .ref m19, .int (nI c20), .int x21, .int (nI c22), .int (nI c23), .ref m24, .ref m25, .int (nI c26), .int (nI c27), .int x28, .ref m29, .ref m30, .ref m31, .ref m32, .ref m33, .ref m34, .int x35, .ref m36, .int (nI c37)]))]) [0] rfl
          have hD9 := hD.sub (ws' := [(h0, .inr (8, [.int 0, .int 2, .ref m2, .int (nI c3), .ref m4, .ref m5, .ref m6, .ref m7, .ref m8, .ref m9, .ref m10, .ref m11, .int (nI c12), .int (nI c13), .int (nI c14), .ref m15, .ref m16, .ref m17, .ref m18, .ref m19, .int (nI c20), .int x21, .int (nI c22), .int (nI c23), .ref m24, .ref m25, .int (nI c26), .int (nI c27), .int x28, .ref m29, .ref m30, .ref m31, .ref m32, .ref m33, .ref m34, .int x35, .ref m36, .int (nI c37)]))]) [0] (by decide) rfl
          exact W.zret (v := 0) hx hb hr (rfl) (fun t ht hW => ⟨⟨0, (c22, c23, 2), rfl, ⟨Or.inr ⟨rfl, by exact fun h => c_26 h.2.2.2⟩, by exact ⟨fun h => absurd h.2.2.2 c_26, fun _ => ⟨rfl, rfl, rfl⟩⟩⟩, by rw [ht]; exact hP9, hD9⟩, hS.F ht⟩) hS.2.2 dX8_set_45

set_option maxHeartbeats 4000000 in
set_option maxRecDepth 100000 in
theorem g_X8_count (l : Launch) (dC : Nat → ClassId) (dI : Nat → Nat → Nat) (h0 : Nat) (x0 : Int32) (x1 : Int32) (m2 : Nat) (c3 : Nat) (m4 : Nat) (m5 : Nat) (m6 : Nat) (m7 : Nat) (m8 : Nat) (m9 : Nat) (m10 : Nat) (m11 : Nat) (c12 : Nat) (c13 : Nat) (c14 : Nat) (m15 : Nat) (m16 : Nat) (m17 : Nat) (m18 : Nat) (m19 : Nat) (c20 : Nat) (x21 : Int32) (c22 : Nat) (c23 : Nat) (m24 : Nat) (m25 : Nat) (c26 : Nat) (c27 : Nat) (x28 : Int32) (m29 : Nat) (m30 : Nat) (m31 : Nat) (m32 : Nat) (m33 : Nat) (m34 : Nat) (x35 : Int32) (m36 : Nat) (c37 : Nat) (p0 : Int32) (sz : Nat) : Met l yX8_count wsX8_count ({ frames := 0, cells := 0, slots := 0, locals := 0 }) (va_Pc [.ref h0, .int p0] (fun U => U.heap.size = sz ∧ va_P (dC, dI) vwCl [(h0, .inr (8, [.int x0, .int x1, .ref m2, .int (nI c3), .ref m4, .ref m5, .ref m6, .ref m7, .ref m8, .ref m9, .ref m10, .ref m11, .int (nI c12), .int (nI c13), .int (nI c14), .ref m15, .ref m16, .ref m17, .ref m18, .ref m19, .int (nI c20), .int x21, .int (nI c22), .int (nI c23), .ref m24, .ref m25, .int (nI c26), .int (nI c27), .int x28, .ref m29, .ref m30, .ref m31, .ref m32, .ref m33, .ref m34, .int x35, .ref m36, .int (nI c37)]))] U.heap ∧ va_K (dC, dI) vwCl [] U ∧ va_D (fun _ => True) [(h0, .inr (8, [.int x0, .int x1, .ref m2, .int (nI c3), .ref m4, .ref m5, .ref m6, .ref m7, .ref m8, .ref m9, .ref m10, .ref m11, .int (nI c12), .int (nI c13), .int (nI c14), .ref m15, .ref m16, .ref m17, .ref m18, .ref m19, .int (nI c20), .int x21, .int (nI c22), .int (nI c23), .ref m24, .ref m25, .int (nI c26), .int (nI c27), .int x28, .ref m29, .ref m30, .ref m31, .ref m32, .ref m33, .ref m34, .int x35, .ref m36, .int (nI c37)]))])) (va_Qi (fun (r : Int32) (_ : Unit) => (r = cntF p0 (nI c14) (nI c20) (nI c12) (nI c13) (nI c27) (nI c26) (nI c3))) (fun (_ : Unit) (t : State) => va_P (dC, dI) vwCl [(h0, .inr (8, [.int 0, .int x1, .ref m2, .int (nI c3), .ref m4, .ref m5, .ref m6, .ref m7, .ref m8, .ref m9, .ref m10, .ref m11, .int (nI c12), .int (nI c13), .int (nI c14), .ref m15, .ref m16, .ref m17, .ref m18, .ref m19, .int (nI c20), .int x21, .int (nI c22), .int (nI c23), .ref m24, .ref m25, .int (nI c26), .int (nI c27), .int x28, .ref m29, .ref m30, .ref m31, .ref m32, .ref m33, .ref m34, .int x35, .ref m36, .int (nI c37)]))] t.heap ∧ va_D (va_A [(h0, .inr (8, [.int x0, .int x1, .ref m2, .int (nI c3), .ref m4, .ref m5, .ref m6, .ref m7, .ref m8, .ref m9, .ref m10, .ref m11, .int (nI c12), .int (nI c13), .int (nI c14), .ref m15, .ref m16, .ref m17, .ref m18, .ref m19, .int (nI c20), .int x21, .int (nI c22), .int (nI c23), .ref m24, .ref m25, .int (nI c26), .int (nI c27), .int x28, .ref m29, .ref m30, .ref m31, .ref m32, .ref m33, .ref m34, .int x35, .ref m36, .int (nI c37)]))] sz) [(h0, .inr (8, [.int 0, .int x1, .ref m2, .int (nI c3), .ref m4, .ref m5, .ref m6, .ref m7, .ref m8, .ref m9, .ref m10, .ref m11, .int (nI c12), .int (nI c13), .int (nI c14), .ref m15, .ref m16, .ref m17, .ref m18, .ref m19, .int (nI c20), .int x21, .int (nI c22), .int (nI c23), .ref m24, .ref m25, .int (nI c26), .int (nI c27), .int x28, .ref m29, .ref m30, .ref m31, .ref m32, .ref m33, .ref m34, .int x35, .ref m36, .int (nI c37)]))]) (va_A [(h0, .inr (8, [.int x0, .int x1, .ref m2, .int (nI c3), .ref m4, .ref m5, .ref m6, .ref m7, .ref m8, .ref m9, .ref m10, .ref m11, .int (nI c12), .int (nI c13), .int (nI c14), .ref m15, .ref m16, .ref m17, .ref m18, .ref m19, .int (nI c20), .int x21, .int (nI c22), .int (nI c23), .ref m24, .ref m25, .int (nI c26), .int (nI c27), .int x28, .ref m29, .ref m30, .ref m31, .ref m32, .ref m33, .ref m34, .int x35, .ref m36, .int (nI c37)]))] sz)) 0 0 (va_A [(h0, .inr (8, [.int x0, .int x1, .ref m2, .int (nI c3), .ref m4, .ref m5, .ref m6, .ref m7, .ref m8, .ref m9, .ref m10, .ref m11, .int (nI c12), .int (nI c13), .int (nI c14), .ref m15, .ref m16, .ref m17, .ref m18, .ref m19, .int (nI c20), .int x21, .int (nI c22), .int (nI c23), .ref m24, .ref m25, .int (nI c26), .int (nI c27), .int x28, .ref m29, .ref m30, .ref m31, .ref m32, .ref m33, .ref m34, .int x35, .ref m36, .int (nI c37)]))] sz) := by
  refine Met.ofW (cc := cX8_count) (maxL := 2) (ret := (some .int)) (by decide) rfl ?_
  intro p e s m args below meth c s₁ B hml hv
  obtain ⟨rfl, hsz, hP, hK, hD0⟩ := hv
  have hx := B.exec
  have hb := B.bytes
  have hr := B.returns
  have hts := atoms_spec (ws := wsX8_count) B.pre
  have hown : s.vm.findClass RX8 = some m.cls := findClass_of_methodNamed B.named
  have hlocks := B.notSynchronized
  subst hsz
  have hD := hD0.self (sz := s.heap.size)
  clear hD0
  generalize hAe : va_A [(h0, .inr (8, [.int x0, .int x1, .ref m2, .int (nI c3), .ref m4, .ref m5, .ref m6, .ref m7, .ref m8, .ref m9, .ref m10, .ref m11, .int (nI c12), .int (nI c13), .int (nI c14), .ref m15, .ref m16, .ref m17, .ref m18, .ref m19, .int (nI c20), .int x21, .int (nI c22), .int (nI c23), .ref m24, .ref m25, .int (nI c26), .int (nI c27), .int x28, .ref m29, .ref m30, .ref m31, .ref m32, .ref m33, .ref m34, .int x35, .ref m36, .int (nI c37)]))] s.heap.size = A at hD ⊢
  have hA : ∀ q : Nat, s.heap.size ≤ q → A q := fun q h => by rw [← hAe]; exact Or.inr h
  clear hAe
  have hS : va_S A s.heap s.heap [] := va_S.rf
  replace hP : va_P (dC, dI) vwCl [(h0, .inr (8, [.int x0, .int x1, .ref m2, .int (nI c3), .ref m4, .ref m5, .ref m6, .ref m7, .ref m8, .ref m9, .ref m10, .ref m11, .int (nI c12), .int (nI c13), .int (nI c14), .ref m15, .ref m16, .ref m17, .ref m18, .ref m19, .int (nI c20), .int x21, .int (nI c22), .int (nI c23), .ref m24, .ref m25, .int (nI c26), .int (nI c27), .int x28, .ref m29, .ref m30, .ref m31, .ref m32, .ref m33, .ref m34, .int x35, .ref m36, .int (nI c37)]))] s.heap := hP
  have hl := lv_entry ([.ref h0, .int p0]) (n := 2) (Nat.le_of_ble_eq_true rfl)
  rw [lg_entry_eq]
  generalize (lg_sl ([.ref h0, .int p0]) ++ List.replicate (2 - (lg_sl ([.ref h0, .int p0])).length) Slot.unset).toArray = ls at hl ⊢
  replace hl : lv_has ls 2 [(0, .ref h0), (1, .int p0)] := hl
  have hi_X8 : ∀ w ∈ wsX80, w ∈ wsX8_count := by decide +kernel
  have k_f97 := hts (.fieldLink RX8 97 "TongueTellerModel" "thrown" "I") (by decide +kernel)
  have k_f133 := hts (.fieldLink RX8 133 "TongueTellerModel" "tongues" "I") (by decide +kernel)
  have k_f152 := hts (.fieldLink RX8 152 "TongueTellerModel" "learnt" "I") (by decide +kernel)
  have k_f130 := hts (.fieldLink RX8 130 "TongueTellerModel" "keywords" "I") (by decide +kernel)
  have k_f120 := hts (.fieldLink RX8 120 "TongueTellerModel" "names" "I") (by decide +kernel)
  have k_f175 := hts (.fieldLink RX8 175 "TongueTellerModel" "words" "I") (by decide +kernel)
  have k_f172 := hts (.fieldLink RX8 172 "TongueTellerModel" "size" "I") (by decide +kernel)
  have k_f103 := hts (.fieldLink RX8 103 "TongueTellerModel" "taped" "I") (by decide +kernel)
  refine lv_aload_n hx hb dX8_count_0 rfl (lv_at hl 0 rfl) ?_
  refine lv_iconst (v := 0) hx hb dX8_count_1 (by decide) ?_
  refine va_put (D := (dC, dI)) (ci := 8) (v := .int 0) (ty := .int) (C := RX8) (T := TX8) (N := 38) hx hb hts hi_X8 tyX8 tyX8_ok nmX8 hown hK hP hD hS 0 rfl rfl 0 (by decide) k_f97 (fun _ h9 => h9) rfl (by decide +kernel) rfl rfl (Nat.le_of_ble_eq_true rfl) dX8_count_2 (fun H locs hP hD hS => ?_)
  replace hP : va_P (dC, dI) vwCl [(h0, .inr (8, [.int 0, .int x1, .ref m2, .int (nI c3), .ref m4, .ref m5, .ref m6, .ref m7, .ref m8, .ref m9, .ref m10, .ref m11, .int (nI c12), .int (nI c13), .int (nI c14), .ref m15, .ref m16, .ref m17, .ref m18, .ref m19, .int (nI c20), .int x21, .int (nI c22), .int (nI c23), .ref m24, .ref m25, .int (nI c26), .int (nI c27), .int x28, .ref m29, .ref m30, .ref m31, .ref m32, .ref m33, .ref m34, .int x35, .ref m36, .int (nI c37)]))] H := hP
  replace hD : va_D A [(h0, .inr (8, [.int 0, .int x1, .ref m2, .int (nI c3), .ref m4, .ref m5, .ref m6, .ref m7, .ref m8, .ref m9, .ref m10, .ref m11, .int (nI c12), .int (nI c13), .int (nI c14), .ref m15, .ref m16, .ref m17, .ref m18, .ref m19, .int (nI c20), .int x21, .int (nI c22), .int (nI c23), .ref m24, .ref m25, .int (nI c26), .int (nI c27), .int x28, .ref m29, .ref m30, .ref m31, .ref m32, .ref m33, .ref m34, .int x35, .ref m36, .int (nI c37)]))] := hD
  refine lv_iload_n hx hb dX8_count_5 rfl (lv_at hl 1 rfl) ?_
  rcases pk_ix p0 (n := 7) (by decide) with hsw | hsw | ⟨jsw, hjsw, hsw⟩
  · refine lv_tableOut (tgt := 83) hx hb dX8_count_6 (Or.inl (Int32.lt_iff_toInt_lt.mp hsw)) (by decide) ?_
    refine lv_iconst (v := (-1)) hx hb dX8_count_83 (by decide) ?_
    have hP9 := hP.sub (ws' := [(h0, .inr (8, [.int 0, .int x1, .ref m2, .int (nI c3), .ref m4, .ref m5, .ref m6, .ref m7, .ref m8, .ref m9, .ref m10, .ref m11, .int (nI c12), .int (nI c13), .int (nI c14), .ref m15, .ref m16, .ref m17, .ref m18, .ref m19, .int (nI c20), .int x21, .int (nI c22), .int (nI c23), .ref m24, .ref m25, .int (nI c26), .int (nI c27), .int x28, .ref m29, .ref m30, .ref m31, .ref m32, .ref m33, .ref m34, .int x35, .ref m36, .int (nI c37)]))]) [0] rfl
    have hD9 := hD.sub (ws' := [(h0, .inr (8, [.int 0, .int x1, .ref m2, .int (nI c3), .ref m4, .ref m5, .ref m6, .ref m7, .ref m8, .ref m9, .ref m10, .ref m11, .int (nI c12), .int (nI c13), .int (nI c14), .ref m15, .ref m16, .ref m17, .ref m18, .ref m19, .int (nI c20), .int x21, .int (nI c22), .int (nI c23), .ref m24, .ref m25, .int (nI c26), .int (nI c27), .int x28, .ref m29, .ref m30, .ref m31, .ref m32, .ref m33, .ref m34, .int x35, .ref m36, .int (nI c37)]))]) [0] (by decide) rfl
    exact W.iret (v := (-1)) hx hb hr (fun t ht hW => ⟨⟨(-1), (), rfl, by exact (cntF_lt hsw).symm, by rw [ht]; exact hP9, hD9⟩, hS.F ht⟩) hS.2.2 dX8_count_84
  · refine lv_tableOut (tgt := 83) hx hb dX8_count_6 (Or.inr (by have h9 := Int32.le_iff_toInt_le.mp hsw; rw [nI_toInt (by decide)] at h9; omega)) (by decide) ?_
    refine lv_iconst (v := (-1)) hx hb dX8_count_83 (by decide) ?_
    have hP9 := hP.sub (ws' := [(h0, .inr (8, [.int 0, .int x1, .ref m2, .int (nI c3), .ref m4, .ref m5, .ref m6, .ref m7, .ref m8, .ref m9, .ref m10, .ref m11, .int (nI c12), .int (nI c13), .int (nI c14), .ref m15, .ref m16, .ref m17, .ref m18, .ref m19, .int (nI c20), .int x21, .int (nI c22), .int (nI c23), .ref m24, .ref m25, .int (nI c26), .int (nI c27), .int x28, .ref m29, .ref m30, .ref m31, .ref m32, .ref m33, .ref m34, .int x35, .ref m36, .int (nI c37)]))]) [0] rfl
    have hD9 := hD.sub (ws' := [(h0, .inr (8, [.int 0, .int x1, .ref m2, .int (nI c3), .ref m4, .ref m5, .ref m6, .ref m7, .ref m8, .ref m9, .ref m10, .ref m11, .int (nI c12), .int (nI c13), .int (nI c14), .ref m15, .ref m16, .ref m17, .ref m18, .ref m19, .int (nI c20), .int x21, .int (nI c22), .int (nI c23), .ref m24, .ref m25, .int (nI c26), .int (nI c27), .int x28, .ref m29, .ref m30, .ref m31, .ref m32, .ref m33, .ref m34, .int x35, .ref m36, .int (nI c37)]))]) [0] (by decide) rfl
    exact W.iret (v := (-1)) hx hb hr (fun t ht hW => ⟨⟨(-1), (), rfl, by exact (cntF_ge hsw).symm, by rw [ht]; exact hP9, hD9⟩, hS.F ht⟩) hS.2.2 dX8_count_84
  · match jsw, hjsw, hsw with
    | 0, _, hsw =>
      refine lv_topi (fun xj exj => ?_)
      rw [hsw] at exj
      subst exj
      refine lv_tableIn (off := 42) (tgt := 48) hx hb dX8_count_6 (by decide) (by decide) (by decide) (by decide) ?_
      refine lv_aload_n hx hb dX8_count_48 rfl (lv_at hl 0 rfl) ?_
      refine va_get (D := (dC, dI)) (ci := 8) (v := .int (nI c14)) (C := RX8) (T := TX8) (N := 38) hx hb hts hi_X8 hown hK hP 0 rfl rfl 14 (by decide) k_f133 (fun _ h9 => h9) rfl dX8_count_49 ?_
      have hP9 := hP.sub (ws' := [(h0, .inr (8, [.int 0, .int x1, .ref m2, .int (nI c3), .ref m4, .ref m5, .ref m6, .ref m7, .ref m8, .ref m9, .ref m10, .ref m11, .int (nI c12), .int (nI c13), .int (nI c14), .ref m15, .ref m16, .ref m17, .ref m18, .ref m19, .int (nI c20), .int x21, .int (nI c22), .int (nI c23), .ref m24, .ref m25, .int (nI c26), .int (nI c27), .int x28, .ref m29, .ref m30, .ref m31, .ref m32, .ref m33, .ref m34, .int x35, .ref m36, .int (nI c37)]))]) [0] rfl
      have hD9 := hD.sub (ws' := [(h0, .inr (8, [.int 0, .int x1, .ref m2, .int (nI c3), .ref m4, .ref m5, .ref m6, .ref m7, .ref m8, .ref m9, .ref m10, .ref m11, .int (nI c12), .int (nI c13), .int (nI c14), .ref m15, .ref m16, .ref m17, .ref m18, .ref m19, .int (nI c20), .int x21, .int (nI c22), .int (nI c23), .ref m24, .ref m25, .int (nI c26), .int (nI c27), .int x28, .ref m29, .ref m30, .ref m31, .ref m32, .ref m33, .ref m34, .int x35, .ref m36, .int (nI c37)]))]) [0] (by decide) rfl
      exact W.iret (v := nI c14) hx hb hr (fun t ht hW => ⟨⟨nI c14, (), rfl, by rw [hsw]; rfl, by rw [ht]; exact hP9, hD9⟩, hS.F ht⟩) hS.2.2 dX8_count_52
    | 1, _, hsw =>
      refine lv_topi (fun xj exj => ?_)
      rw [hsw] at exj
      subst exj
      refine lv_tableIn (off := 47) (tgt := 53) hx hb dX8_count_6 (by decide) (by decide) (by decide) (by decide) ?_
      refine lv_aload_n hx hb dX8_count_53 rfl (lv_at hl 0 rfl) ?_
      refine va_get (D := (dC, dI)) (ci := 8) (v := .int (nI c20)) (C := RX8) (T := TX8) (N := 38) hx hb hts hi_X8 hown hK hP 0 rfl rfl 20 (by decide) k_f152 (fun _ h9 => h9) rfl dX8_count_54 ?_
      have hP9 := hP.sub (ws' := [(h0, .inr (8, [.int 0, .int x1, .ref m2, .int (nI c3), .ref m4, .ref m5, .ref m6, .ref m7, .ref m8, .ref m9, .ref m10, .ref m11, .int (nI c12), .int (nI c13), .int (nI c14), .ref m15, .ref m16, .ref m17, .ref m18, .ref m19, .int (nI c20), .int x21, .int (nI c22), .int (nI c23), .ref m24, .ref m25, .int (nI c26), .int (nI c27), .int x28, .ref m29, .ref m30, .ref m31, .ref m32, .ref m33, .ref m34, .int x35, .ref m36, .int (nI c37)]))]) [0] rfl
      have hD9 := hD.sub (ws' := [(h0, .inr (8, [.int 0, .int x1, .ref m2, .int (nI c3), .ref m4, .ref m5, .ref m6, .ref m7, .ref m8, .ref m9, .ref m10, .ref m11, .int (nI c12), .int (nI c13), .int (nI c14), .ref m15, .ref m16, .ref m17, .ref m18, .ref m19, .int (nI c20), .int x21, .int (nI c22), .int (nI c23), .ref m24, .ref m25, .int (nI c26), .int (nI c27), .int x28, .ref m29, .ref m30, .ref m31, .ref m32, .ref m33, .ref m34, .int x35, .ref m36, .int (nI c37)]))]) [0] (by decide) rfl
      exact W.iret (v := nI c20) hx hb hr (fun t ht hW => ⟨⟨nI c20, (), rfl, by rw [hsw]; rfl, by rw [ht]; exact hP9, hD9⟩, hS.F ht⟩) hS.2.2 dX8_count_57
    | 2, _, hsw =>
      refine lv_topi (fun xj exj => ?_)
      rw [hsw] at exj
      subst exj
      refine lv_tableIn (off := 52) (tgt := 58) hx hb dX8_count_6 (by decide) (by decide) (by decide) (by decide) ?_
      refine lv_aload_n hx hb dX8_count_58 rfl (lv_at hl 0 rfl) ?_
      refine va_get (D := (dC, dI)) (ci := 8) (v := .int (nI c12)) (C := RX8) (T := TX8) (N := 38) hx hb hts hi_X8 hown hK hP 0 rfl rfl 12 (by decide) k_f130 (fun _ h9 => h9) rfl dX8_count_59 ?_
      have hP9 := hP.sub (ws' := [(h0, .inr (8, [.int 0, .int x1, .ref m2, .int (nI c3), .ref m4, .ref m5, .ref m6, .ref m7, .ref m8, .ref m9, .ref m10, .ref m11, .int (nI c12), .int (nI c13), .int (nI c14), .ref m15, .ref m16, .ref m17, .ref m18, .ref m19, .int (nI c20), .int x21, .int (nI c22), .int (nI c23), .ref m24, .ref m25, .int (nI c26), .int (nI c27), .int x28, .ref m29, .ref m30, .ref m31, .ref m32, .ref m33, .ref m34, .int x35, .ref m36, .int (nI c37)]))]) [0] rfl
      have hD9 := hD.sub (ws' := [(h0, .inr (8, [.int 0, .int x1, .ref m2, .int (nI c3), .ref m4, .ref m5, .ref m6, .ref m7, .ref m8, .ref m9, .ref m10, .ref m11, .int (nI c12), .int (nI c13), .int (nI c14), .ref m15, .ref m16, .ref m17, .ref m18, .ref m19, .int (nI c20), .int x21, .int (nI c22), .int (nI c23), .ref m24, .ref m25, .int (nI c26), .int (nI c27), .int x28, .ref m29, .ref m30, .ref m31, .ref m32, .ref m33, .ref m34, .int x35, .ref m36, .int (nI c37)]))]) [0] (by decide) rfl
      exact W.iret (v := nI c12) hx hb hr (fun t ht hW => ⟨⟨nI c12, (), rfl, by rw [hsw]; rfl, by rw [ht]; exact hP9, hD9⟩, hS.F ht⟩) hS.2.2 dX8_count_62
    | 3, _, hsw =>
      refine lv_topi (fun xj exj => ?_)
      rw [hsw] at exj
      subst exj
      refine lv_tableIn (off := 57) (tgt := 63) hx hb dX8_count_6 (by decide) (by decide) (by decide) (by decide) ?_
      refine lv_aload_n hx hb dX8_count_63 rfl (lv_at hl 0 rfl) ?_
      refine va_get (D := (dC, dI)) (ci := 8) (v := .int (nI c13)) (C := RX8) (T := TX8) (N := 38) hx hb hts hi_X8 hown hK hP 0 rfl rfl 13 (by decide) k_f120 (fun _ h9 => h9) rfl dX8_count_64 ?_
      have hP9 := hP.sub (ws' := [(h0, .inr (8, [.int 0, .int x1, .ref m2, .int (nI c3), .ref m4, .ref m5, .ref m6, .ref m7, .ref m8, .ref m9, .ref m10, .ref m11, .int (nI c12), .int (nI c13), .int (nI c14), .ref m15, .ref m16, .ref m17, .ref m18, .ref m19, .int (nI c20), .int x21, .int (nI c22), .int (nI c23), .ref m24, .ref m25, .int (nI c26), .int (nI c27), .int x28, .ref m29, .ref m30, .ref m31, .ref m32, .ref m33, .ref m34, .int x35, .ref m36, .int (nI c37)]))]) [0] rfl
      have hD9 := hD.sub (ws' := [(h0, .inr (8, [.int 0, .int x1, .ref m2, .int (nI c3), .ref m4, .ref m5, .ref m6, .ref m7, .ref m8, .ref m9, .ref m10, .ref m11, .int (nI c12), .int (nI c13), .int (nI c14), .ref m15, .ref m16, .ref m17, .ref m18, .ref m19, .int (nI c20), .int x21, .int (nI c22), .int (nI c23), .ref m24, .ref m25, .int (nI c26), .int (nI c27), .int x28, .ref m29, .ref m30, .ref m31, .ref m32, .ref m33, .ref m34, .int x35, .ref m36, .int (nI c37)]))]) [0] (by decide) rfl
      exact W.iret (v := nI c13) hx hb hr (fun t ht hW => ⟨⟨nI c13, (), rfl, by rw [hsw]; rfl, by rw [ht]; exact hP9, hD9⟩, hS.F ht⟩) hS.2.2 dX8_count_67
    | 4, _, hsw =>
      refine lv_topi (fun xj exj => ?_)
      rw [hsw] at exj
      subst exj
      refine lv_tableIn (off := 62) (tgt := 68) hx hb dX8_count_6 (by decide) (by decide) (by decide) (by decide) ?_
      refine lv_aload_n hx hb dX8_count_68 rfl (lv_at hl 0 rfl) ?_
      refine va_get (D := (dC, dI)) (ci := 8) (v := .int (nI c27)) (C := RX8) (T := TX8) (N := 38) hx hb hts hi_X8 hown hK hP 0 rfl rfl 27 (by decide) k_f175 (fun _ h9 => h9) rfl dX8_count_69 ?_
      have hP9 := hP.sub (ws' := [(h0, .inr (8, [.int 0, .int x1, .ref m2, .int (nI c3), .ref m4, .ref m5, .ref m6, .ref m7, .ref m8, .ref m9, .ref m10, .ref m11, .int (nI c12), .int (nI c13), .int (nI c14), .ref m15, .ref m16, .ref m17, .ref m18, .ref m19, .int (nI c20), .int x21, .int (nI c22), .int (nI c23), .ref m24, .ref m25, .int (nI c26), .int (nI c27), .int x28, .ref m29, .ref m30, .ref m31, .ref m32, .ref m33, .ref m34, .int x35, .ref m36, .int (nI c37)]))]) [0] rfl
      have hD9 := hD.sub (ws' := [(h0, .inr (8, [.int 0, .int x1, .ref m2, .int (nI c3), .ref m4, .ref m5, .ref m6, .ref m7, .ref m8, .ref m9, .ref m10, .ref m11, .int (nI c12), .int (nI c13), .int (nI c14), .ref m15, .ref m16, .ref m17, .ref m18, .ref m19, .int (nI c20), .int x21, .int (nI c22), .int (nI c23), .ref m24, .ref m25, .int (nI c26), .int (nI c27), .int x28, .ref m29, .ref m30, .ref m31, .ref m32, .ref m33, .ref m34, .int x35, .ref m36, .int (nI c37)]))]) [0] (by decide) rfl
      exact W.iret (v := nI c27) hx hb hr (fun t ht hW => ⟨⟨nI c27, (), rfl, by rw [hsw]; rfl, by rw [ht]; exact hP9, hD9⟩, hS.F ht⟩) hS.2.2 dX8_count_72
    | 5, _, hsw =>
      refine lv_topi (fun xj exj => ?_)
      rw [hsw] at exj
      subst exj
      refine lv_tableIn (off := 67) (tgt := 73) hx hb dX8_count_6 (by decide) (by decide) (by decide) (by decide) ?_
      refine lv_aload_n hx hb dX8_count_73 rfl (lv_at hl 0 rfl) ?_
      refine va_get (D := (dC, dI)) (ci := 8) (v := .int (nI c26)) (C := RX8) (T := TX8) (N := 38) hx hb hts hi_X8 hown hK hP 0 rfl rfl 26 (by decide) k_f172 (fun _ h9 => h9) rfl dX8_count_74 ?_
      have hP9 := hP.sub (ws' := [(h0, .inr (8, [.int 0, .int x1, .ref m2, .int (nI c3), .ref m4, .ref m5, .ref m6, .ref m7, .ref m8, .ref m9, .ref m10, .ref m11, .int (nI c12), .int (nI c13), .int (nI c14), .ref m15, .ref m16, .ref m17, .ref m18, .ref m19, .int (nI c20), .int x21, .int (nI c22), .int (nI c23), .ref m24, .ref m25, .int (nI c26), .int (nI c27), .int x28, .ref m29, .ref m30, .ref m31, .ref m32, .ref m33, .ref m34, .int x35, .ref m36, .int (nI c37)]))]) [0] rfl
      have hD9 := hD.sub (ws' := [(h0, .inr (8, [.int 0, .int x1, .ref m2, .int (nI c3), .ref m4, .ref m5, .ref m6, .ref m7, .ref m8, .ref m9, .ref m10, .ref m11, .int (nI c12), .int (nI c13), .int (nI c14), .ref m15, .ref m16, .ref m17, .ref m18, .ref m19, .int (nI c20), .int x21, .int (nI c22), .int (nI c23), .ref m24, .ref m25, .int (nI c26), .int (nI c27), .int x28, .ref m29, .ref m30, .ref m31, .ref m32, .ref m33, .ref m34, .int x35, .ref m36, .int (nI c37)]))]) [0] (by decide) rfl
      exact W.iret (v := nI c26) hx hb hr (fun t ht hW => ⟨⟨nI c26, (), rfl, by rw [hsw]; rfl, by rw [ht]; exact hP9, hD9⟩, hS.F ht⟩) hS.2.2 dX8_count_77
    | 6, _, hsw =>
      refine lv_topi (fun xj exj => ?_)
      rw [hsw] at exj
      subst exj
      refine lv_tableIn (off := 72) (tgt := 78) hx hb dX8_count_6 (by decide) (by decide) (by decide) (by decide) ?_
      refine lv_aload_n hx hb dX8_count_78 rfl (lv_at hl 0 rfl) ?_
      refine va_get (D := (dC, dI)) (ci := 8) (v := .int (nI c3)) (C := RX8) (T := TX8) (N := 38) hx hb hts hi_X8 hown hK hP 0 rfl rfl 3 (by decide) k_f103 (fun _ h9 => h9) rfl dX8_count_79 ?_
      have hP9 := hP.sub (ws' := [(h0, .inr (8, [.int 0, .int x1, .ref m2, .int (nI c3), .ref m4, .ref m5, .ref m6, .ref m7, .ref m8, .ref m9, .ref m10, .ref m11, .int (nI c12), .int (nI c13), .int (nI c14), .ref m15, .ref m16, .ref m17, .ref m18, .ref m19, .int (nI c20), .int x21, .int (nI c22), .int (nI c23), .ref m24, .ref m25, .int (nI c26), .int (nI c27), .int x28, .ref m29, .ref m30, .ref m31, .ref m32, .ref m33, .ref m34, .int x35, .ref m36, .int (nI c37)]))]) [0] rfl
      have hD9 := hD.sub (ws' := [(h0, .inr (8, [.int 0, .int x1, .ref m2, .int (nI c3), .ref m4, .ref m5, .ref m6, .ref m7, .ref m8, .ref m9, .ref m10, .ref m11, .int (nI c12), .int (nI c13), .int (nI c14), .ref m15, .ref m16, .ref m17, .ref m18, .ref m19, .int (nI c20), .int x21, .int (nI c22), .int (nI c23), .ref m24, .ref m25, .int (nI c26), .int (nI c27), .int x28, .ref m29, .ref m30, .ref m31, .ref m32, .ref m33, .ref m34, .int x35, .ref m36, .int (nI c37)]))]) [0] (by decide) rfl
      exact W.iret (v := nI c3) hx hb hr (fun t ht hW => ⟨⟨nI c3, (), rfl, by rw [hsw]; rfl, by rw [ht]; exact hP9, hD9⟩, hS.F ht⟩) hS.2.2 dX8_count_82
    | k + 7, h, _ => omega
