set_option maxHeartbeats 4000000 in
set_option maxRecDepth 100000 in
theorem g_X2_kindOf (l : Launch) (dC : Nat → ClassId) (dI : Nat → Nat → Nat) (a : Nat) (ha : a < 128) : Met l yX2_kindOf wsX2_kindOf ({ frames := 0, cells := 0, slots := 0, locals := 0 }) (va_Pc [.int (nI a)] (fun _ => True)) (vp_Si (fun r => r = nI (kN a))) 0 0 (fun _ => False) := by
  refine Met.ofW (cc := cX2_kindOf) (maxL := 1) (ret := (some .int)) (by decide) rfl ?_
  intro p e s m args below meth c s₁ B hml hv
  obtain ⟨rfl, -⟩ := hv
  have hx := B.exec
  have hb := B.bytes
  have hr := B.returns
  have hts := atoms_spec (ws := wsX2_kindOf) B.pre
  have hown : s.vm.findClass RX2 = some m.cls := findClass_of_methodNamed B.named
  have hlocks := B.notSynchronized
  have hl := lv_entry ([.int (nI a)]) (n := 1) (Nat.le_of_ble_eq_true rfl)
  rw [lg_entry_eq]
  generalize (lg_sl ([.int (nI a)]) ++ List.replicate (1 - (lg_sl ([.int (nI a)])).length) Slot.unset).toArray = ls at hl ⊢
  replace hl : lv_has ls 1 [(0, .int (nI a))] := hl
  refine lv_iload_n hx hb dX2_kindOf_0 rfl (lv_at hl 0 rfl) ?_
  refine lv_bipush (v := 26) hx hb dX2_kindOf_1 (by decide) ?_
  refine lv_icmp_gt (tgt := 10) hx hb dX2_kindOf_3 (by decide) (fun c_3 => ?_) (fun c_3 => ?_)
  · have n_3 : 26 < a := (nI_ltI (a := 26) (b := a) (by omega) (by omega)).mp c_3
    refine lv_iload_n hx hb dX2_kindOf_10 rfl (lv_at hl 0 rfl) ?_
    exact W.iret (v := nI a) hx hb hr (fun t ht hW => ⟨nI a, rfl, by rw [show kN a = a from if_neg (by omega)], ht⟩) (fun _ h => absurd h List.not_mem_nil) dX2_kindOf_11
  · have n_3 : a ≤ 26 := Nat.not_lt.mp (fun h9 => c_3 ((nI_ltI (a := 26) (b := a) (by omega) (by omega)).mpr h9))
    refine lv_iconst (v := 0) hx hb dX2_kindOf_6 (by decide) ?_
    refine lv_goto (tgt := 11) hx hb dX2_kindOf_7 (by decide) ?_
    exact W.iret (v := 0) hx hb hr (fun t ht hW => ⟨0, rfl, by rw [show kN a = 0 from if_pos n_3]; rfl, ht⟩) (fun _ h => absurd h List.not_mem_nil) dX2_kindOf_11

set_option maxHeartbeats 4000000 in
set_option maxRecDepth 100000 in
theorem g_X2_beginsWord (l : Launch) (dC : Nat → ClassId) (dI : Nat → Nat → Nat) (h0 : Nat) (d0 : Nat) (d1 : Nat) (d2 : Nat) (kd : ClassId) (n : Nat) (w : Nat) (at_ : Nat) (g : Nat → Nat) (hat : at_ < 600) (hg : ∀ j, g j < 30) : Met l yX2_beginsWord wsX2_beginsWord ({ frames := 1, cells := 0, slots := 0, locals := 20 }) (va_Pc [.ref h0, .int (nI at_)] (fun U => va_P (dC, dI) vwCl [(h0, .inr (2, [.ref d0, .ref d1, .ref d2, .int (nI n), .int (nI w)])), (d0, .inl (kd, 600, .inl (nR g)))] U.heap ∧ va_K (dC, dI) vwCl [(kd, .byte)] U)) (vp_Si (fun r => ((r = 1 ∧ (bW g at_)) ∨ (r = 0 ∧ ¬ (bW g at_))))) 0 0 (fun _ => False) := by
  refine Met.ofW (cc := cX2_beginsWord) (maxL := 3) (ret := (some .boolean)) (by decide) rfl ?_
  intro p e s m args below meth c s₁ B hml hv
  obtain ⟨rfl, hP, hK⟩ := hv
  have hx := B.exec
  have hb := B.bytes
  have hr := B.returns
  have hts := atoms_spec (ws := wsX2_beginsWord) B.pre
  have hown : s.vm.findClass RX2 = some m.cls := findClass_of_methodNamed B.named
  have hlocks := B.notSynchronized
  replace hP : va_P (dC, dI) vwCl [(h0, .inr (2, [.ref d0, .ref d1, .ref d2, .int (nI n), .int (nI w)])), (d0, .inl (kd, 600, .inl (nR g)))] s.heap := hP
  have hl := lv_entry ([.ref h0, .int (nI at_)]) (n := 3) (Nat.le_of_ble_eq_true rfl)
  rw [lg_entry_eq]
  generalize (lg_sl ([.ref h0, .int (nI at_)]) ++ List.replicate (3 - (lg_sl ([.ref h0, .int (nI at_)])).length) Slot.unset).toArray = ls at hl ⊢
  replace hl : lv_has ls 3 [(0, .ref h0), (1, .int (nI at_))] := hl
  have hi_X2 : ∀ w ∈ wsX20, w ∈ wsX2_beginsWord := by decide +kernel
  have k_f9 := hts (.fieldLink RX2 9 "TongueTeller$Script" "signs" "[B") (by decide +kernel)
  refine lv_aload_n hx hb dX2_beginsWord_0 rfl (lv_at hl 0 rfl) ?_
  refine va_get (D := (dC, dI)) (ci := 2) (v := .ref d0) (C := RX2) (T := TX2) (N := 5) hx hb hts hi_X2 hown hK hP 0 rfl rfl 0 (by decide) k_f9 (fun _ h9 => h9) rfl dX2_beginsWord_1 ?_
  refine lv_iload_n hx hb dX2_beginsWord_4 rfl (lv_at hl 1 rfl) ?_
  refine va_bald hx hb hK hP 1 0 rfl rfl (i := nI at_) (vp_in_nI (by omega) (by omega)) dX2_beginsWord_5 ?_
  refine lv_topi (fun x_5 ex_5 => ?_)
  obtain rfl : nI (g at_) = x_5 := Eq.symm (ex_5.trans (nR_at (by omega)))
  refine vp_callSi (W.runS (As := [.int (nI (g at_))]) (rest := []) ⟨hx, hb, hml, hown, hts⟩ (g_X2_kindOf l dC dI (g at_) (Nat.lt_trans (hg _) (by decide))) (va_cwS 1 hts gX2_beginsWord_X2_kindOf rfl rfl rfl (by decide +kernel) ⟨Nat.le_of_ble_eq_true rfl, Nat.le_of_ble_eq_true rfl⟩) ⟨fun a U g mk q => q, fun U hU hW => ⟨rfl, trivial⟩⟩ rfl rfl hl.1 rfl (lv_room (Nat.le_of_ble_eq_true rfl)) dX2_beginsWord_6 ⟨Nat.le_of_ble_eq_true rfl, Nat.le_of_ble_eq_true rfl⟩) (fun r_6 hw_6 => ?_)
  have hr_6 := hw_6
  obtain rfl : nI (kN (g at_)) = r_6 := Eq.symm hr_6
  have hk9 := kN_lt (hg at_)
  refine lv_istore_n (lv' := [(2, .int (nI (kN (g at_)))), (0, .ref h0), (1, .int (nI at_))]) hx hb dX2_beginsWord_9 rfl hl (by decide) rfl (fun ls hl => ?_)
  refine lv_iload_n hx hb dX2_beginsWord_10 rfl (lv_at hl 0 rfl) ?_
  refine lv_bipush (v := 29) hx hb dX2_beginsWord_11 (by decide) ?_
  refine lv_icmp_eq (tgt := 39) hx hb dX2_beginsWord_13 (by decide) (fun c_13 => ?_) (fun c_13 => ?_)
  · have n_13 : (kN (g at_)) = 29 := (nI_eq (a := (kN (g at_))) (b := 29) (by omega) (by omega)).mp c_13
    refine lv_iconst (v := 0) hx hb dX2_beginsWord_39 (by decide) ?_
    exact W.zret (v := 0) hx hb hr (rfl) (fun t ht hW => ⟨0, rfl, Or.inr ⟨rfl, by exact fun h => h.1 n_13⟩, ht⟩) (fun _ h => absurd h List.not_mem_nil) dX2_beginsWord_40
  · have n_13 : (kN (g at_)) ≠ 29 := fun h9 => c_13 ((nI_eq (a := (kN (g at_))) (b := 29) (by omega) (by omega)).mpr h9)
    refine lv_iload_n hx hb dX2_beginsWord_16 rfl (lv_at hl 2 rfl) ?_
    refine lv_if_eq (tgt := 35) hx hb dX2_beginsWord_17 (by decide) (fun c_17 => ?_) (fun c_17 => ?_)
    · have n_17 : at_ = 0 := (nI_eq (a := at_) (b := 0) (by omega) (by omega)).mp c_17
      refine lv_iconst (v := 1) hx hb dX2_beginsWord_35 (by decide) ?_
      refine lv_goto (tgt := 40) hx hb dX2_beginsWord_36 (by decide) ?_
      exact W.zret (v := 1) hx hb hr (rfl) (fun t ht hW => ⟨1, rfl, Or.inl ⟨rfl, by exact ⟨n_13, Or.inl n_17⟩⟩, ht⟩) (fun _ h => absurd h List.not_mem_nil) dX2_beginsWord_40
    · have n_17 : at_ ≠ 0 := fun h9 => c_17 ((nI_eq (a := at_) (b := 0) (by omega) (by omega)).mpr h9)
      refine lv_aload_n hx hb dX2_beginsWord_20 rfl (lv_at hl 1 rfl) ?_
      refine va_get (D := (dC, dI)) (ci := 2) (v := .ref d0) (C := RX2) (T := TX2) (N := 5) hx hb hts hi_X2 hown hK hP 0 rfl rfl 0 (by decide) k_f9 (fun _ h9 => h9) rfl dX2_beginsWord_21 ?_
      refine lv_iload_n hx hb dX2_beginsWord_24 rfl (lv_at hl 2 rfl) ?_
      refine lv_iconst (v := 1) hx hb dX2_beginsWord_25 (by decide) ?_
      refine lv_isub hx hb dX2_beginsWord_26 ?_
      refine lv_topi (fun x_26 ex_26 => ?_)
      obtain rfl : nI (at_ - 1) = x_26 := Eq.symm (ex_26.trans (pk_sub (a := at_) (b := 1) (by omega)))
      refine va_bald hx hb hK hP 1 0 rfl rfl (i := nI (at_ - 1)) (vp_in_nI (by omega) (by omega)) dX2_beginsWord_27 ?_
      refine lv_topi (fun x_27 ex_27 => ?_)
      obtain rfl : nI (g (at_ - 1)) = x_27 := Eq.symm (ex_27.trans (nR_at (by omega)))
      refine vp_callSi (W.runS (As := [.int (nI (g (at_ - 1)))]) (rest := []) ⟨hx, hb, hml, hown, hts⟩ (g_X2_kindOf l dC dI (g (at_ - 1)) (Nat.lt_trans (hg _) (by decide))) (va_cwS 1 hts gX2_beginsWord_X2_kindOf rfl rfl rfl (by decide +kernel) ⟨Nat.le_of_ble_eq_true rfl, Nat.le_of_ble_eq_true rfl⟩) ⟨fun a U g mk q => q, fun U hU hW => ⟨rfl, trivial⟩⟩ rfl rfl hl.1 rfl (lv_room (Nat.le_of_ble_eq_true rfl)) dX2_beginsWord_28 ⟨Nat.le_of_ble_eq_true rfl, Nat.le_of_ble_eq_true rfl⟩) (fun r_28 hw_28 => ?_)
      have hr_28 := hw_28
      obtain rfl : nI (kN (g (at_ - 1))) = r_28 := Eq.symm hr_28
      have hk31 := kN_lt (hg (at_ - 1))
      refine lv_iload_n hx hb dX2_beginsWord_31 rfl (lv_at hl 0 rfl) ?_
      refine lv_icmp_eq (tgt := 39) hx hb dX2_beginsWord_32 (by decide) (fun c_32 => ?_) (fun c_32 => ?_)
      · have n_32 : (kN (g (at_ - 1))) = (kN (g at_)) := (nI_eq (a := (kN (g (at_ - 1)))) (b := (kN (g at_))) (by omega) (by omega)).mp c_32
        refine lv_iconst (v := 0) hx hb dX2_beginsWord_39 (by decide) ?_
        exact W.zret (v := 0) hx hb hr (rfl) (fun t ht hW => ⟨0, rfl, Or.inr ⟨rfl, by exact fun h => h.2.elim n_17 (fun h => h n_32)⟩, ht⟩) (fun _ h => absurd h List.not_mem_nil) dX2_beginsWord_40
      · have n_32 : (kN (g (at_ - 1))) ≠ (kN (g at_)) := fun h9 => c_32 ((nI_eq (a := (kN (g (at_ - 1)))) (b := (kN (g at_))) (by omega) (by omega)).mpr h9)
        refine lv_iconst (v := 1) hx hb dX2_beginsWord_35 (by decide) ?_
        refine lv_goto (tgt := 40) hx hb dX2_beginsWord_36 (by decide) ?_
        exact W.zret (v := 1) hx hb hr (rfl) (fun t ht hW => ⟨1, rfl, Or.inl ⟨rfl, by exact ⟨n_13, Or.inr n_32⟩⟩, ht⟩) (fun _ h => absurd h List.not_mem_nil) dX2_beginsWord_40

set_option maxHeartbeats 4000000 in
set_option maxRecDepth 100000 in
theorem g_X2_isMark (l : Launch) (dC : Nat → ClassId) (dI : Nat → Nat → Nat) (h0 : Nat) (d0 : Nat) (d1 : Nat) (d2 : Nat) (kd : ClassId) (kb : ClassId) (n : Nat) (w : Nat) (i : Nat) (g : Nat → Nat) (sb : Nat → Nat) (hi : i < 60) (hg : ∀ j, g j < 30) (hs : sb i < 600) : Met l yX2_isMark wsX2_isMark ({ frames := 0, cells := 0, slots := 0, locals := 0 }) (va_Pc [.ref h0, .int (nI i)] (fun U => va_P (dC, dI) vwCl [(h0, .inr (2, [.ref d0, .ref d1, .ref d2, .int (nI n), .int (nI w)])), (d0, .inl (kd, 600, .inl (nR g))), (d1, .inl (kb, 60, .inl (nR sb)))] U.heap ∧ va_K (dC, dI) vwCl [(kd, .byte), (kb, .int)] U)) (vp_Si (fun r => ((r = 1 ∧ (g (sb i) = 28)) ∨ (r = 0 ∧ ¬ (g (sb i) = 28))))) 0 0 (fun _ => False) := by
  refine Met.ofW (cc := cX2_isMark) (maxL := 2) (ret := (some .boolean)) (by decide) rfl ?_
  intro p e s m args below meth c s₁ B hml hv
  obtain ⟨rfl, hP, hK⟩ := hv
  have hx := B.exec
  have hb := B.bytes
  have hr := B.returns
  have hts := atoms_spec (ws := wsX2_isMark) B.pre
  have hown : s.vm.findClass RX2 = some m.cls := findClass_of_methodNamed B.named
  have hlocks := B.notSynchronized
  replace hP : va_P (dC, dI) vwCl [(h0, .inr (2, [.ref d0, .ref d1, .ref d2, .int (nI n), .int (nI w)])), (d0, .inl (kd, 600, .inl (nR g))), (d1, .inl (kb, 60, .inl (nR sb)))] s.heap := hP
  have hl := lv_entry ([.ref h0, .int (nI i)]) (n := 2) (Nat.le_of_ble_eq_true rfl)
  rw [lg_entry_eq]
  generalize (lg_sl ([.ref h0, .int (nI i)]) ++ List.replicate (2 - (lg_sl ([.ref h0, .int (nI i)])).length) Slot.unset).toArray = ls at hl ⊢
  replace hl : lv_has ls 2 [(0, .ref h0), (1, .int (nI i))] := hl
  have hi_X2 : ∀ w ∈ wsX20, w ∈ wsX2_isMark := by decide +kernel
  have k_f9 := hts (.fieldLink RX2 9 "TongueTeller$Script" "signs" "[B") (by decide +kernel)
  have k_f15 := hts (.fieldLink RX2 15 "TongueTeller$Script" "starts" "[I") (by decide +kernel)
  refine lv_aload_n hx hb dX2_isMark_0 rfl (lv_at hl 0 rfl) ?_
  refine va_get (D := (dC, dI)) (ci := 2) (v := .ref d0) (C := RX2) (T := TX2) (N := 5) hx hb hts hi_X2 hown hK hP 0 rfl rfl 0 (by decide) k_f9 (fun _ h9 => h9) rfl dX2_isMark_1 ?_
  refine lv_aload_n hx hb dX2_isMark_4 rfl (lv_at hl 0 rfl) ?_
  refine va_get (D := (dC, dI)) (ci := 2) (v := .ref d1) (C := RX2) (T := TX2) (N := 5) hx hb hts hi_X2 hown hK hP 0 rfl rfl 1 (by decide) k_f15 (fun _ h9 => h9) rfl dX2_isMark_5 ?_
  refine lv_iload_n hx hb dX2_isMark_8 rfl (lv_at hl 1 rfl) ?_
  refine va_iald hx hb hK hP 2 1 rfl rfl (i := nI i) (vp_in_nI (by omega) (by omega)) dX2_isMark_9 ?_
  refine lv_topi (fun x_9 ex_9 => ?_)
  obtain rfl : nI (sb i) = x_9 := Eq.symm (ex_9.trans (nR_at (by omega)))
  refine va_bald hx hb hK hP 1 0 rfl rfl (i := nI (sb i)) (vp_in_nI (by omega) (by omega)) dX2_isMark_10 ?_
  refine lv_topi (fun x_10 ex_10 => ?_)
  obtain rfl : nI (g (sb i)) = x_10 := Eq.symm (ex_10.trans (nR_at (by omega)))
  have h11 := hg (sb i)
  refine lv_bipush (v := 28) hx hb dX2_isMark_11 (by decide) ?_
  refine lv_icmp_ne (tgt := 20) hx hb dX2_isMark_13 (by decide) (fun c_13 => ?_) (fun c_13 => ?_)
  · have n_13 : (g (sb i)) ≠ 28 := fun h9 => c_13 ((nI_eq (a := (g (sb i))) (b := 28) (by omega) (by omega)).mpr h9)
    refine lv_iconst (v := 0) hx hb dX2_isMark_20 (by decide) ?_
    exact W.zret (v := 0) hx hb hr (rfl) (fun t ht hW => ⟨0, rfl, Or.inr ⟨rfl, by assumption⟩, ht⟩) (fun _ h => absurd h List.not_mem_nil) dX2_isMark_21
  · have n_13 : (g (sb i)) = 28 := (nI_eq (a := (g (sb i))) (b := 28) (by omega) (by omega)).mp c_13
    refine lv_iconst (v := 1) hx hb dX2_isMark_16 (by decide) ?_
    refine lv_goto (tgt := 21) hx hb dX2_isMark_17 (by decide) ?_
    exact W.zret (v := 1) hx hb hr (rfl) (fun t ht hW => ⟨1, rfl, Or.inl ⟨rfl, by assumption⟩, ht⟩) (fun _ h => absurd h List.not_mem_nil) dX2_isMark_21

set_option maxHeartbeats 4000000 in
set_option maxRecDepth 100000 in
theorem g_X2_lengthFrom (l : Launch) (dC : Nat → ClassId) (dI : Nat → Nat → Nat) (h0 : Nat) (d0 : Nat) (d1 : Nat) (d2 : Nat) (kd : ClassId) (n : Nat) (w : Nat) (at_ : Nat) (g : Nat → Nat) (hat : at_ < n) (hn : n ≤ 600) (hg : ∀ j, g j < 30) : Met l yX2_lengthFrom wsX2_lengthFrom ({ frames := 1, cells := 0, slots := 0, locals := 20 }) (va_Pc [.ref h0, .int (nI at_)] (fun U => va_P (dC, dI) vwCl [(h0, .inr (2, [.ref d0, .ref d1, .ref d2, .int (nI n), .int (nI w)])), (d0, .inl (kd, 600, .inl (nR g)))] U.heap ∧ va_K (dC, dI) vwCl [(kd, .byte)] U)) (vp_Si (fun r => ∃ (L : Nat), r = nI L ∧ (LF g n at_ L))) 0 0 (fun _ => False) := by
  refine Met.ofW (cc := cX2_lengthFrom) (maxL := 5) (ret := (some .int)) (by decide) rfl ?_
  intro p e s m args below meth c s₁ B hml hv
  obtain ⟨rfl, hP, hK⟩ := hv
  have hx := B.exec
  have hb := B.bytes
  have hr := B.returns
  have hts := atoms_spec (ws := wsX2_lengthFrom) B.pre
  have hown : s.vm.findClass RX2 = some m.cls := findClass_of_methodNamed B.named
  have hlocks := B.notSynchronized
  replace hP : va_P (dC, dI) vwCl [(h0, .inr (2, [.ref d0, .ref d1, .ref d2, .int (nI n), .int (nI w)])), (d0, .inl (kd, 600, .inl (nR g)))] s.heap := hP
  have hl := lv_entry ([.ref h0, .int (nI at_)]) (n := 5) (Nat.le_of_ble_eq_true rfl)
  rw [lg_entry_eq]
  generalize (lg_sl ([.ref h0, .int (nI at_)]) ++ List.replicate (5 - (lg_sl ([.ref h0, .int (nI at_)])).length) Slot.unset).toArray = ls at hl ⊢
  replace hl : lv_has ls 5 [(0, .ref h0), (1, .int (nI at_))] := hl
  have hi_X2 : ∀ w ∈ wsX20, w ∈ wsX2_lengthFrom := by decide +kernel
  have k_f9 := hts (.fieldLink RX2 9 "TongueTeller$Script" "signs" "[B") (by decide +kernel)
  have k_f22 := hts (.fieldLink RX2 22 "TongueTeller$Script" "size" "I") (by decide +kernel)
  refine lv_aload_n hx hb dX2_lengthFrom_0 rfl (lv_at hl 0 rfl) ?_
  refine va_get (D := (dC, dI)) (ci := 2) (v := .ref d0) (C := RX2) (T := TX2) (N := 5) hx hb hts hi_X2 hown hK hP 0 rfl rfl 0 (by decide) k_f9 (fun _ h9 => h9) rfl dX2_lengthFrom_1 ?_
  refine lv_iload_n hx hb dX2_lengthFrom_4 rfl (lv_at hl 1 rfl) ?_
  refine va_bald hx hb hK hP 1 0 rfl rfl (i := nI at_) (vp_in_nI (by omega) (by omega)) dX2_lengthFrom_5 ?_
  refine lv_topi (fun x_5 ex_5 => ?_)
  obtain rfl : nI (g at_) = x_5 := Eq.symm (ex_5.trans (nR_at (by omega)))
  refine vp_callSi (W.runS (As := [.int (nI (g at_))]) (rest := []) ⟨hx, hb, hml, hown, hts⟩ (g_X2_kindOf l dC dI (g at_) (Nat.lt_trans (hg _) (by decide))) (va_cwS 1 hts gX2_lengthFrom_X2_kindOf rfl rfl rfl (by decide +kernel) ⟨Nat.le_of_ble_eq_true rfl, Nat.le_of_ble_eq_true rfl⟩) ⟨fun a U g mk q => q, fun U hU hW => ⟨rfl, trivial⟩⟩ rfl rfl hl.1 rfl (lv_room (Nat.le_of_ble_eq_true rfl)) dX2_lengthFrom_6 ⟨Nat.le_of_ble_eq_true rfl, Nat.le_of_ble_eq_true rfl⟩) (fun r_6 hw_6 => ?_)
  have hr_6 := hw_6
  obtain rfl : nI (kN (g at_)) = r_6 := Eq.symm hr_6
  have hk9 := kN_lt (hg at_)
  refine lv_istore_n (lv' := [(2, .int (nI (kN (g at_)))), (0, .ref h0), (1, .int (nI at_))]) hx hb dX2_lengthFrom_9 rfl hl (by decide) rfl (fun ls hl => ?_)
  refine lv_iload_n hx hb dX2_lengthFrom_10 rfl (lv_at hl 0 rfl) ?_
  refine lv_bipush (v := 28) hx hb dX2_lengthFrom_11 (by decide) ?_
  refine lv_icmp_ne (tgt := 23) hx hb dX2_lengthFrom_13 (by decide) (fun c_13 => ?_) (fun c_13 => ?_)
  · have n_13 : (kN (g at_)) ≠ 28 := fun h9 => c_13 ((nI_eq (a := (kN (g at_))) (b := 28) (by omega) (by omega)).mpr h9)
    refine lv_aload_n hx hb dX2_lengthFrom_23 rfl (lv_at hl 1 rfl) ?_
    refine va_get (D := (dC, dI)) (ci := 2) (v := .int (nI n)) (C := RX2) (T := TX2) (N := 5) hx hb hts hi_X2 hown hK hP 0 rfl rfl 3 (by decide) k_f22 (fun _ h9 => h9) rfl dX2_lengthFrom_24 ?_
    refine lv_iload_n hx hb dX2_lengthFrom_27 rfl (lv_at hl 2 rfl) ?_
    refine lv_bipush (v := 24) hx hb dX2_lengthFrom_28 (by decide) ?_
    refine lv_iadd hx hb dX2_lengthFrom_30 ?_
    refine lv_topi (fun x_30 ex_30 => ?_)
    obtain rfl : nI (at_ + 24) = x_30 := Eq.symm (ex_30.trans (nI_add at_ 24))
    refine va_mmin hx hb (by rw [hml]; exact hl.1.symm) hown (hts (.methodLink RX2 46 Lib.Math.min.name) (by decide +kernel)) (hts (.static Lib.Math.min.name) (by decide +kernel)) (hts (.initialized "java/lang/Math") (by decide +kernel)) (hts (.code Lib.Math.min.name Lib.Math.min.code 2 (some .int)) (by decide +kernel)) (Nat.le_of_ble_eq_true rfl) (Nat.le_of_ble_eq_true rfl) (Nat.le_of_ble_eq_true rfl) (Nat.le_of_ble_eq_true rfl) dX2_lengthFrom_31 ?_
    refine lv_topi (fun y_1 ey_1 => ?_)
    obtain rfl : nI (bD g n at_) = y_1 := Eq.symm (ey_1.trans (bD_min g hn hat n_13))
    obtain ⟨hb1, hb2, -, -⟩ := bD_spec g hat
    refine lv_istore_n (lv' := [(3, .int (nI (bD g n at_))), (2, .int (nI (kN (g at_)))), (0, .ref h0), (1, .int (nI at_))]) hx hb dX2_lengthFrom_34 rfl hl (by decide) rfl (fun ls hl => ?_)
    refine lv_iload_n hx hb dX2_lengthFrom_35 rfl (lv_at hl 3 rfl) ?_
    refine lv_iconst (v := 1) hx hb dX2_lengthFrom_36 (by decide) ?_
    refine lv_iadd hx hb dX2_lengthFrom_37 ?_
    refine lv_topi (fun x_37 ex_37 => ?_)
    obtain rfl : nI (at_ + 1) = x_37 := Eq.symm (ex_37.trans (nI_add at_ 1))
    refine lv_istore (lv' := [(4, .int (nI (at_ + 1))), (3, .int (nI (bD g n at_))), (2, .int (nI (kN (g at_)))), (0, .ref h0), (1, .int (nI at_))]) hx hb dX2_lengthFrom_38 hl (by decide) rfl (fun ls hl => ?_)
    obtain ⟨ee, e_ee⟩ : ∃ y : Nat, y = at_ + 1 := ⟨_, rfl⟩
    replace hl : lv_has ls 5 [(0, .ref h0), (1, .int (nI at_)), (2, .int (nI (kN (g at_)))), (3, .int (nI (bD g n at_))), (4, .int (nI ee))] := by subst e_ee; exact lv_sub hl [3, 4, 2, 1, 0] rfl
    have he1 : at_ + 1 ≤ ee := by subst e_ee; omega
    have he2 : ee ≤ bD g n at_ := by subst e_ee; exact hb2
    have he3 : ∀ k, at_ + k < ee → kN (g (at_ + k)) = kN (g at_) := by subst e_ee; exact LF_0
    clear e_ee
    obtain ⟨nn40, hnn40⟩ : ∃ q : Nat, bD g n at_ - ee < q := ⟨_, Nat.lt_succ_self _⟩
    induction nn40 generalizing ee ls with
    | zero => exact absurd hnn40 (Nat.not_lt_zero _)
    | succ nn40 ih40 =>
      refine lv_iload hx hb dX2_lengthFrom_40 (lv_at hl 4 rfl) ?_
      refine lv_iload_n hx hb dX2_lengthFrom_42 rfl (lv_at hl 3 rfl) ?_
      refine lv_icmp_ge (tgt := 66) hx hb dX2_lengthFrom_43 (by decide) (fun c_43 => ?_) (fun c_43 => ?_)
      · have n_43 : (bD g n at_) ≤ ee := (nI_leI (a := (bD g n at_)) (b := ee) (by omega) (by omega)).mp c_43
        refine lv_iload hx hb dX2_lengthFrom_66 (lv_at hl 4 rfl) ?_
        refine lv_iload_n hx hb dX2_lengthFrom_68 rfl (lv_at hl 1 rfl) ?_
        refine lv_isub hx hb dX2_lengthFrom_69 ?_
        refine lv_topi (fun x_69 ex_69 => ?_)
        obtain rfl : nI (ee - at_) = x_69 := Eq.symm (ex_69.trans (pk_sub (a := ee) (b := at_) (by omega)))
        exact W.iret (v := nI (ee - at_)) hx hb hr (fun t ht hW => ⟨nI (ee - at_), rfl, ⟨ee - at_, rfl, by exact LF_e hat he1 he2 he3 (Or.inl n_43)⟩, ht⟩) (fun _ h => absurd h List.not_mem_nil) dX2_lengthFrom_70
      · have n_43 : ee < (bD g n at_) := Nat.not_le.mp (fun h9 => c_43 ((nI_leI (a := (bD g n at_)) (b := ee) (by omega) (by omega)).mpr h9))
        refine lv_aload_n hx hb dX2_lengthFrom_46 rfl (lv_at hl 0 rfl) ?_
        refine va_get (D := (dC, dI)) (ci := 2) (v := .ref d0) (C := RX2) (T := TX2) (N := 5) hx hb hts hi_X2 hown hK hP 0 rfl rfl 0 (by decide) k_f9 (fun _ h9 => h9) rfl dX2_lengthFrom_47 ?_
        refine lv_iload hx hb dX2_lengthFrom_50 (lv_at hl 4 rfl) ?_
        refine va_bald hx hb hK hP 1 0 rfl rfl (i := nI ee) (vp_in_nI (by omega) (by omega)) dX2_lengthFrom_52 ?_
        refine lv_topi (fun x_52 ex_52 => ?_)
        obtain rfl : nI (g ee) = x_52 := Eq.symm (ex_52.trans (nR_at (by omega)))
        refine vp_callSi (W.runS (As := [.int (nI (g ee))]) (rest := []) ⟨hx, hb, hml, hown, hts⟩ (g_X2_kindOf l dC dI (g ee) (Nat.lt_trans (hg _) (by decide))) (va_cwS 1 hts gX2_lengthFrom_X2_kindOf rfl rfl rfl (by decide +kernel) ⟨Nat.le_of_ble_eq_true rfl, Nat.le_of_ble_eq_true rfl⟩) ⟨fun a U g mk q => q, fun U hU hW => ⟨rfl, trivial⟩⟩ rfl rfl hl.1 rfl (lv_room (Nat.le_of_ble_eq_true rfl)) dX2_lengthFrom_53 ⟨Nat.le_of_ble_eq_true rfl, Nat.le_of_ble_eq_true rfl⟩) (fun r_53 hw_53 => ?_)
        have hr_53 := hw_53
        obtain rfl : nI (kN (g ee)) = r_53 := Eq.symm hr_53
        have hk56 := kN_lt (hg ee)
        refine lv_iload_n hx hb dX2_lengthFrom_56 rfl (lv_at hl 2 rfl) ?_
        refine lv_icmp_ne (tgt := 66) hx hb dX2_lengthFrom_57 (by decide) (fun c_57 => ?_) (fun c_57 => ?_)
        · have n_57 : (kN (g ee)) ≠ (kN (g at_)) := fun h9 => c_57 ((nI_eq (a := (kN (g ee))) (b := (kN (g at_))) (by omega) (by omega)).mpr h9)
          refine lv_iload hx hb dX2_lengthFrom_66 (lv_at hl 4 rfl) ?_
          refine lv_iload_n hx hb dX2_lengthFrom_68 rfl (lv_at hl 1 rfl) ?_
          refine lv_isub hx hb dX2_lengthFrom_69 ?_
          refine lv_topi (fun x_69 ex_69 => ?_)
          obtain rfl : nI (ee - at_) = x_69 := Eq.symm (ex_69.trans (pk_sub (a := ee) (b := at_) (by omega)))
          exact W.iret (v := nI (ee - at_)) hx hb hr (fun t ht hW => ⟨nI (ee - at_), rfl, ⟨ee - at_, rfl, by exact LF_e hat he1 he2 he3 (Or.inr n_57)⟩, ht⟩) (fun _ h => absurd h List.not_mem_nil) dX2_lengthFrom_70
        · have n_57 : (kN (g ee)) = (kN (g at_)) := (nI_eq (a := (kN (g ee))) (b := (kN (g at_))) (by omega) (by omega)).mp c_57
          refine lv_iinc (v := nI (ee + 1)) (lv' := [(4, .int (nI (ee + 1))), (0, .ref h0), (1, .int (nI at_)), (2, .int (nI (kN (g at_)))), (3, .int (nI (bD g n at_)))]) hx hb dX2_lengthFrom_60 hl (k := 4) rfl (nI_1 _) (by decide) rfl (fun ls hl => ?_)
          refine lv_goto (tgt := 40) hx hb dX2_lengthFrom_63 (by decide) ?_
          replace hl : lv_has ls 5 [(0, .ref h0), (1, .int (nI at_)), (2, .int (nI (kN (g at_)))), (3, .int (nI (bD g n at_))), (4, .int (nI (ee + 1)))] := lv_sub hl [1, 2, 3, 4, 0] rfl
          have he39 : ∀ k, at_ + k < (ee + 1) → kN (g (at_ + k)) = kN (g at_) := LF_s he3 n_57
          apply ih40 (ee := ee + 1) <;> first | assumption | omega
  · have n_13 : (kN (g at_)) = 28 := (nI_eq (a := (kN (g at_))) (b := 28) (by omega) (by omega)).mp c_13
    refine lv_aload_n hx hb dX2_lengthFrom_16 rfl (lv_at hl 1 rfl) ?_
    refine va_get (D := (dC, dI)) (ci := 2) (v := .int (nI n)) (C := RX2) (T := TX2) (N := 5) hx hb hts hi_X2 hown hK hP 0 rfl rfl 3 (by decide) k_f22 (fun _ h9 => h9) rfl dX2_lengthFrom_17 ?_
    refine lv_goto (tgt := 34) hx hb dX2_lengthFrom_20 (by decide) ?_
    refine lv_topi (fun y_2 ey_2 => ?_)
    obtain rfl : nI (bD g n at_) = y_2 := Eq.symm (ey_2.trans (congrArg nI (if_pos n_13 : bD g n at_ = n).symm))
    obtain ⟨hb1, hb2, -, -⟩ := bD_spec g hat
    refine lv_istore_n (lv' := [(3, .int (nI (bD g n at_))), (2, .int (nI (kN (g at_)))), (0, .ref h0), (1, .int (nI at_))]) hx hb dX2_lengthFrom_34 rfl hl (by decide) rfl (fun ls hl => ?_)
    refine lv_iload_n hx hb dX2_lengthFrom_35 rfl (lv_at hl 3 rfl) ?_
    refine lv_iconst (v := 1) hx hb dX2_lengthFrom_36 (by decide) ?_
    refine lv_iadd hx hb dX2_lengthFrom_37 ?_
    refine lv_topi (fun x_37 ex_37 => ?_)
    obtain rfl : nI (at_ + 1) = x_37 := Eq.symm (ex_37.trans (nI_add at_ 1))
    refine lv_istore (lv' := [(4, .int (nI (at_ + 1))), (3, .int (nI (bD g n at_))), (2, .int (nI (kN (g at_)))), (0, .ref h0), (1, .int (nI at_))]) hx hb dX2_lengthFrom_38 hl (by decide) rfl (fun ls hl => ?_)
    obtain ⟨ee, e_ee⟩ : ∃ y : Nat, y = at_ + 1 := ⟨_, rfl⟩
    replace hl : lv_has ls 5 [(0, .ref h0), (1, .int (nI at_)), (2, .int (nI (kN (g at_)))), (3, .int (nI (bD g n at_))), (4, .int (nI ee))] := by subst e_ee; exact lv_sub hl [3, 4, 2, 1, 0] rfl
    have he1 : at_ + 1 ≤ ee := by subst e_ee; omega
    have he2 : ee ≤ bD g n at_ := by subst e_ee; exact hb2
    have he3 : ∀ k, at_ + k < ee → kN (g (at_ + k)) = kN (g at_) := by subst e_ee; exact LF_0
    clear e_ee
    obtain ⟨nn40, hnn40⟩ : ∃ q : Nat, bD g n at_ - ee < q := ⟨_, Nat.lt_succ_self _⟩
    induction nn40 generalizing ee ls with
    | zero => exact absurd hnn40 (Nat.not_lt_zero _)
    | succ nn40 ih40 =>
      refine lv_iload hx hb dX2_lengthFrom_40 (lv_at hl 4 rfl) ?_
      refine lv_iload_n hx hb dX2_lengthFrom_42 rfl (lv_at hl 3 rfl) ?_
      refine lv_icmp_ge (tgt := 66) hx hb dX2_lengthFrom_43 (by decide) (fun c_43 => ?_) (fun c_43 => ?_)
      · have n_43 : (bD g n at_) ≤ ee := (nI_leI (a := (bD g n at_)) (b := ee) (by omega) (by omega)).mp c_43
        refine lv_iload hx hb dX2_lengthFrom_66 (lv_at hl 4 rfl) ?_
        refine lv_iload_n hx hb dX2_lengthFrom_68 rfl (lv_at hl 1 rfl) ?_
        refine lv_isub hx hb dX2_lengthFrom_69 ?_
        refine lv_topi (fun x_69 ex_69 => ?_)
        obtain rfl : nI (ee - at_) = x_69 := Eq.symm (ex_69.trans (pk_sub (a := ee) (b := at_) (by omega)))
        exact W.iret (v := nI (ee - at_)) hx hb hr (fun t ht hW => ⟨nI (ee - at_), rfl, ⟨ee - at_, rfl, by exact LF_e hat he1 he2 he3 (Or.inl n_43)⟩, ht⟩) (fun _ h => absurd h List.not_mem_nil) dX2_lengthFrom_70
      · have n_43 : ee < (bD g n at_) := Nat.not_le.mp (fun h9 => c_43 ((nI_leI (a := (bD g n at_)) (b := ee) (by omega) (by omega)).mpr h9))
        refine lv_aload_n hx hb dX2_lengthFrom_46 rfl (lv_at hl 0 rfl) ?_
        refine va_get (D := (dC, dI)) (ci := 2) (v := .ref d0) (C := RX2) (T := TX2) (N := 5) hx hb hts hi_X2 hown hK hP 0 rfl rfl 0 (by decide) k_f9 (fun _ h9 => h9) rfl dX2_lengthFrom_47 ?_
        refine lv_iload hx hb dX2_lengthFrom_50 (lv_at hl 4 rfl) ?_
        refine va_bald hx hb hK hP 1 0 rfl rfl (i := nI ee) (vp_in_nI (by omega) (by omega)) dX2_lengthFrom_52 ?_
        refine lv_topi (fun x_52 ex_52 => ?_)
        obtain rfl : nI (g ee) = x_52 := Eq.symm (ex_52.trans (nR_at (by omega)))
        refine vp_callSi (W.runS (As := [.int (nI (g ee))]) (rest := []) ⟨hx, hb, hml, hown, hts⟩ (g_X2_kindOf l dC dI (g ee) (Nat.lt_trans (hg _) (by decide))) (va_cwS 1 hts gX2_lengthFrom_X2_kindOf rfl rfl rfl (by decide +kernel) ⟨Nat.le_of_ble_eq_true rfl, Nat.le_of_ble_eq_true rfl⟩) ⟨fun a U g mk q => q, fun U hU hW => ⟨rfl, trivial⟩⟩ rfl rfl hl.1 rfl (lv_room (Nat.le_of_ble_eq_true rfl)) dX2_lengthFrom_53 ⟨Nat.le_of_ble_eq_true rfl, Nat.le_of_ble_eq_true rfl⟩) (fun r_53 hw_53 => ?_)
        have hr_53 := hw_53
        obtain rfl : nI (kN (g ee)) = r_53 := Eq.symm hr_53
        have hk56 := kN_lt (hg ee)
        refine lv_iload_n hx hb dX2_lengthFrom_56 rfl (lv_at hl 2 rfl) ?_
        refine lv_icmp_ne (tgt := 66) hx hb dX2_lengthFrom_57 (by decide) (fun c_57 => ?_) (fun c_57 => ?_)
        · have n_57 : (kN (g ee)) ≠ (kN (g at_)) := fun h9 => c_57 ((nI_eq (a := (kN (g ee))) (b := (kN (g at_))) (by omega) (by omega)).mpr h9)
          refine lv_iload hx hb dX2_lengthFrom_66 (lv_at hl 4 rfl) ?_
          refine lv_iload_n hx hb dX2_lengthFrom_68 rfl (lv_at hl 1 rfl) ?_
          refine lv_isub hx hb dX2_lengthFrom_69 ?_
          refine lv_topi (fun x_69 ex_69 => ?_)
          obtain rfl : nI (ee - at_) = x_69 := Eq.symm (ex_69.trans (pk_sub (a := ee) (b := at_) (by omega)))
          exact W.iret (v := nI (ee - at_)) hx hb hr (fun t ht hW => ⟨nI (ee - at_), rfl, ⟨ee - at_, rfl, by exact LF_e hat he1 he2 he3 (Or.inr n_57)⟩, ht⟩) (fun _ h => absurd h List.not_mem_nil) dX2_lengthFrom_70
        · have n_57 : (kN (g ee)) = (kN (g at_)) := (nI_eq (a := (kN (g ee))) (b := (kN (g at_))) (by omega) (by omega)).mp c_57
          refine lv_iinc (v := nI (ee + 1)) (lv' := [(4, .int (nI (ee + 1))), (0, .ref h0), (1, .int (nI at_)), (2, .int (nI (kN (g at_)))), (3, .int (nI (bD g n at_)))]) hx hb dX2_lengthFrom_60 hl (k := 4) rfl (nI_1 _) (by decide) rfl (fun ls hl => ?_)
          refine lv_goto (tgt := 40) hx hb dX2_lengthFrom_63 (by decide) ?_
          replace hl : lv_has ls 5 [(0, .ref h0), (1, .int (nI at_)), (2, .int (nI (kN (g at_)))), (3, .int (nI (bD g n at_))), (4, .int (nI (ee + 1)))] := lv_sub hl [1, 2, 3, 4, 0] rfl
          have he39 : ∀ k, at_ + k < (ee + 1) → kN (g (at_ + k)) = kN (g at_) := LF_s he3 n_57
          apply ih40 (ee := ee + 1) <;> first | assumption | omega

set_option maxHeartbeats 4000000 in
set_option maxRecDepth 100000 in
theorem g_X2_empty (l : Launch) (dC : Nat → ClassId) (dI : Nat → Nat → Nat) (h0 : Nat) (d0 : Nat) (d1 : Nat) (d2 : Nat) (n : Nat) (w : Nat) (sz : Nat) : Met l yX2_empty wsX2_empty ({ frames := 0, cells := 0, slots := 0, locals := 0 }) (va_Pc [.ref h0] (fun U => U.heap.size = sz ∧ va_P (dC, dI) vwCl [(h0, .inr (2, [.ref d0, .ref d1, .ref d2, .int (nI n), .int (nI w)]))] U.heap ∧ va_K (dC, dI) vwCl [] U ∧ va_D (fun _ => True) [(h0, .inr (2, [.ref d0, .ref d1, .ref d2, .int (nI n), .int (nI w)]))])) (va_Qv (fun (_ : Unit) => True) (fun (_ : Unit) (t : State) => va_P (dC, dI) vwCl [(h0, .inr (2, [.ref d0, .ref d1, .ref d2, .int 0, .int 0]))] t.heap ∧ va_D (va_A [(h0, .inr (2, [.ref d0, .ref d1, .ref d2, .int (nI n), .int (nI w)]))] sz) [(h0, .inr (2, [.ref d0, .ref d1, .ref d2, .int 0, .int 0]))]) (va_A [(h0, .inr (2, [.ref d0, .ref d1, .ref d2, .int (nI n), .int (nI w)]))] sz)) 0 0 (va_A [(h0, .inr (2, [.ref d0, .ref d1, .ref d2, .int (nI n), .int (nI w)]))] sz) := by
  refine Met.ofW (cc := cX2_empty) (maxL := 1) (ret := none) (by decide) rfl ?_
  intro p e s m args below meth c s₁ B hml hv
  obtain ⟨rfl, hsz, hP, hK, hD0⟩ := hv
  have hx := B.exec
  have hb := B.bytes
  have hr := B.returns
  have hts := atoms_spec (ws := wsX2_empty) B.pre
  have hown : s.vm.findClass RX2 = some m.cls := findClass_of_methodNamed B.named
  have hlocks := B.notSynchronized
  subst hsz
  have hD := hD0.self (sz := s.heap.size)
  clear hD0
  generalize hAe : va_A [(h0, .inr (2, [.ref d0, .ref d1, .ref d2, .int (nI n), .int (nI w)]))] s.heap.size = A at hD ⊢
  have hA : ∀ q : Nat, s.heap.size ≤ q → A q := fun q h => by rw [← hAe]; exact Or.inr h
  clear hAe
  have hS : va_S A s.heap s.heap [] := va_S.rf
  replace hP : va_P (dC, dI) vwCl [(h0, .inr (2, [.ref d0, .ref d1, .ref d2, .int (nI n), .int (nI w)]))] s.heap := hP
  have hl := lv_entry ([.ref h0]) (n := 1) (Nat.le_of_ble_eq_true rfl)
  rw [lg_entry_eq]
  generalize (lg_sl ([.ref h0]) ++ List.replicate (1 - (lg_sl ([.ref h0])).length) Slot.unset).toArray = ls at hl ⊢
  replace hl : lv_has ls 1 [(0, .ref h0)] := hl
  have hi_X2 : ∀ w ∈ wsX20, w ∈ wsX2_empty := by decide +kernel
  have k_f22 := hts (.fieldLink RX2 22 "TongueTeller$Script" "size" "I") (by decide +kernel)
  have k_f26 := hts (.fieldLink RX2 26 "TongueTeller$Script" "words" "I") (by decide +kernel)
  refine lv_aload_n hx hb dX2_empty_0 rfl (lv_at hl 0 rfl) ?_
  refine lv_iconst (v := 0) hx hb dX2_empty_1 (by decide) ?_
  refine va_put (D := (dC, dI)) (ci := 2) (v := .int 0) (ty := .int) (C := RX2) (T := TX2) (N := 5) hx hb hts hi_X2 tyX2 tyX2_ok nmX2 hown hK hP hD hS 0 rfl rfl 3 (by decide) k_f22 (fun _ h9 => h9) rfl (by decide +kernel) rfl rfl (Nat.le_of_ble_eq_true rfl) dX2_empty_2 (fun H locs hP hD hS => ?_)
  replace hP : va_P (dC, dI) vwCl [(h0, .inr (2, [.ref d0, .ref d1, .ref d2, .int 0, .int (nI w)]))] H := hP
  replace hD : va_D A [(h0, .inr (2, [.ref d0, .ref d1, .ref d2, .int 0, .int (nI w)]))] := hD
  refine lv_aload_n hx hb dX2_empty_5 rfl (lv_at hl 0 rfl) ?_
  refine lv_iconst (v := 0) hx hb dX2_empty_6 (by decide) ?_
  refine va_put (D := (dC, dI)) (ci := 2) (v := .int 0) (ty := .int) (C := RX2) (T := TX2) (N := 5) hx hb hts hi_X2 tyX2 tyX2_ok nmX2 hown hK hP hD hS 0 rfl rfl 4 (by decide) k_f26 (fun _ h9 => h9) rfl (by decide +kernel) rfl rfl (Nat.le_of_ble_eq_true rfl) dX2_empty_7 (fun H locs hP hD hS => ?_)
  replace hP : va_P (dC, dI) vwCl [(h0, .inr (2, [.ref d0, .ref d1, .ref d2, .int 0, .int 0]))] H := hP
  replace hD : va_D A [(h0, .inr (2, [.ref d0, .ref d1, .ref d2, .int 0, .int 0]))] := hD
  have hP9 := hP.sub (ws' := [(h0, .inr (2, [.ref d0, .ref d1, .ref d2, .int 0, .int 0]))]) [0] rfl
  have hD9 := hD.sub (ws' := [(h0, .inr (2, [.ref d0, .ref d1, .ref d2, .int 0, .int 0]))]) [0] (by decide) rfl
  exact W.vret hx hb hr (fun t ht hW => ⟨⟨(), rfl, trivial, by rw [ht]; exact hP9, hD9⟩, hS.F ht⟩) hS.2.2 dX2_empty_10

set_option maxHeartbeats 4000000 in
set_option maxRecDepth 100000 in
theorem g_X2_append (l : Launch) (dC : Nat → ClassId) (dI : Nat → Nat → Nat) (h0 : Nat) (d0 : Nat) (d1 : Nat) (d2 : Nat) (kd : ClassId) (kf : ClassId) (n : Nat) (w : Nat) (fr : Nat) (k : Nat) (g : Nat → Nat) (gf : Nat → Nat) (sz : Nat) (hn : n ≤ 600) (hk : k ≤ 600) (hg : ∀ j, gf j < 30) : Met l yX2_append wsX2_append ({ frames := 1, cells := 0, slots := 0, locals := 18 }) (va_Pc [.ref h0, .ref fr, .int (nI k)] (fun U => U.heap.size = sz ∧ va_P (dC, dI) vwCl [(h0, .inr (2, [.ref d0, .ref d1, .ref d2, .int (nI n), .int (nI w)])), (d0, .inl (kd, 600, .inl (nR g))), (fr, .inl (kf, 600, .inl (nR gf)))] U.heap ∧ va_K (dC, dI) vwCl [(kd, .byte), (kf, .byte)] U ∧ va_D (fun _ => True) [(h0, .inr (2, [.ref d0, .ref d1, .ref d2, .int (nI n), .int (nI w)])), (d0, .inl (kd, 600, .inl (nR g))), (fr, .inl (kf, 600, .inl (nR gf)))])) (va_Qi (fun (r : Int32) (u : Nat × (Nat → Nat)) => match u with | (no, go) => ((r = 1 ∧ (n + k ≤ 600)) ∨ (r = 0 ∧ ¬ (n + k ≤ 600))) ∧ ((n + k ≤ 600 → no = n + k ∧ go = va_cpy gf g 0 n k) ∧ (¬ n + k ≤ 600 → no = n ∧ go = g))) (fun (u : Nat × (Nat → Nat)) (t : State) => match u with | (no, go) => va_P (dC, dI) vwCl [(h0, .inr (2, [.ref d0, .ref d1, .ref d2, .int (nI no), .int (nI w)])), (d0, .inl (kd, 600, .inl (nR go))), (fr, .inl (kf, 600, .inl (nR gf)))] t.heap ∧ va_D (va_A [(h0, .inr (2, [.ref d0, .ref d1, .ref d2, .int (nI n), .int (nI w)])), (d0, .inl (kd, 600, .inl (nR g))), (fr, .inl (kf, 600, .inl (nR gf)))] sz) [(h0, .inr (2, [.ref d0, .ref d1, .ref d2, .int (nI no), .int (nI w)])), (d0, .inl (kd, 600, .inl (nR go))), (fr, .inl (kf, 600, .inl (nR gf)))]) (va_A [(h0, .inr (2, [.ref d0, .ref d1, .ref d2, .int (nI n), .int (nI w)])), (d0, .inl (kd, 600, .inl (nR g))), (fr, .inl (kf, 600, .inl (nR gf)))] sz)) 0 0 (va_A [(h0, .inr (2, [.ref d0, .ref d1, .ref d2, .int (nI n), .int (nI w)])), (d0, .inl (kd, 600, .inl (nR g))), (fr, .inl (kf, 600, .inl (nR gf)))] sz) := by
  refine Met.ofW (cc := cX2_append) (maxL := 3) (ret := (some .boolean)) (by decide) rfl ?_
  intro p e s m args below meth c s₁ B hml hv
  obtain ⟨rfl, hsz, hP, hK, hD0⟩ := hv
  have hx := B.exec
  have hb := B.bytes
  have hr := B.returns
  have hts := atoms_spec (ws := wsX2_append) B.pre
  have hown : s.vm.findClass RX2 = some m.cls := findClass_of_methodNamed B.named
  have hlocks := B.notSynchronized
  subst hsz
  have hD := hD0.self (sz := s.heap.size)
  clear hD0
  generalize hAe : va_A [(h0, .inr (2, [.ref d0, .ref d1, .ref d2, .int (nI n), .int (nI w)])), (d0, .inl (kd, 600, .inl (nR g))), (fr, .inl (kf, 600, .inl (nR gf)))] s.heap.size = A at hD ⊢
  have hA : ∀ q : Nat, s.heap.size ≤ q → A q := fun q h => by rw [← hAe]; exact Or.inr h
  clear hAe
  have hS : va_S A s.heap s.heap [] := va_S.rf
  replace hP : va_P (dC, dI) vwCl [(h0, .inr (2, [.ref d0, .ref d1, .ref d2, .int (nI n), .int (nI w)])), (d0, .inl (kd, 600, .inl (nR g))), (fr, .inl (kf, 600, .inl (nR gf)))] s.heap := hP
  have hl := lv_entry ([.ref h0, .ref fr, .int (nI k)]) (n := 3) (Nat.le_of_ble_eq_true rfl)
  rw [lg_entry_eq]
  generalize (lg_sl ([.ref h0, .ref fr, .int (nI k)]) ++ List.replicate (3 - (lg_sl ([.ref h0, .ref fr, .int (nI k)])).length) Slot.unset).toArray = ls at hl ⊢
  replace hl : lv_has ls 3 [(0, .ref h0), (1, .ref fr), (2, .int (nI k))] := hl
  have hi_X2 : ∀ w ∈ wsX20, w ∈ wsX2_append := by decide +kernel
  have k_f9 := hts (.fieldLink RX2 9 "TongueTeller$Script" "signs" "[B") (by decide +kernel)
  have k_f22 := hts (.fieldLink RX2 22 "TongueTeller$Script" "size" "I") (by decide +kernel)
  refine lv_iload_n hx hb dX2_append_0 rfl (lv_at hl 2 rfl) ?_
  refine lv_if_lt (tgt := 24) hx hb dX2_append_1 (by decide) (fun c_1 => ?_) (fun c_1 => ?_)
  · exact absurd c_1 (nI_pos (by omega))
  refine lv_iload_n hx hb dX2_append_4 rfl (lv_at hl 2 rfl) ?_
  refine lv_aload_n hx hb dX2_append_5 rfl (lv_at hl 1 rfl) ?_
  refine va_alen (v := 600) hx hb hK hP 2 1 rfl rfl rfl dX2_append_6 ?_
  refine lv_icmp_gt (tgt := 24) hx hb dX2_append_7 (by decide) (fun c_7 => ?_) (fun c_7 => ?_)
  · exact absurd c_7 (nI_nlt (a := 600) (b := k) (by omega) (by omega))
  refine lv_iload_n hx hb dX2_append_10 rfl (lv_at hl 2 rfl) ?_
  refine lv_aload_n hx hb dX2_append_11 rfl (lv_at hl 0 rfl) ?_
  refine va_get (D := (dC, dI)) (ci := 2) (v := .ref d0) (C := RX2) (T := TX2) (N := 5) hx hb hts hi_X2 hown hK hP 0 rfl rfl 0 (by decide) k_f9 (fun _ h9 => h9) rfl dX2_append_12 ?_
  refine va_alen (v := 600) hx hb hK hP 1 0 rfl rfl rfl dX2_append_15 ?_
  refine lv_aload_n hx hb dX2_append_16 rfl (lv_at hl 0 rfl) ?_
  refine va_get (D := (dC, dI)) (ci := 2) (v := .int (nI n)) (C := RX2) (T := TX2) (N := 5) hx hb hts hi_X2 hown hK hP 0 rfl rfl 3 (by decide) k_f22 (fun _ h9 => h9) rfl dX2_append_17 ?_
  refine lv_isub hx hb dX2_append_20 ?_
  refine lv_topi (fun x_20 ex_20 => ?_)
  obtain rfl : nI (600 - n) = x_20 := Eq.symm (ex_20.trans (pk_sub (a := 600) (b := n) (by omega)))
  refine lv_icmp_le (tgt := 26) hx hb dX2_append_21 (by decide) (fun c_21 => ?_) (fun c_21 => ?_)
  · have n_21 : k ≤ (600 - n) := (nI_leI (a := k) (b := (600 - n)) (by omega) (by omega)).mp c_21
    refine lv_aload_n hx hb dX2_append_26 rfl (lv_at hl 1 rfl) ?_
    refine lv_iconst (v := 0) hx hb dX2_append_27 (by decide) ?_
    refine lv_aload_n hx hb dX2_append_28 rfl (lv_at hl 0 rfl) ?_
    refine va_get (D := (dC, dI)) (ci := 2) (v := .ref d0) (C := RX2) (T := TX2) (N := 5) hx hb hts hi_X2 hown hK hP 0 rfl rfl 0 (by decide) k_f9 (fun _ h9 => h9) rfl dX2_append_29 ?_
    refine lv_aload_n hx hb dX2_append_32 rfl (lv_at hl 0 rfl) ?_
    refine va_get (D := (dC, dI)) (ci := 2) (v := .int (nI n)) (C := RX2) (T := TX2) (N := 5) hx hb hts hi_X2 hown hK hP 0 rfl rfl 3 (by decide) k_f22 (fun _ h9 => h9) rfl dX2_append_33 ?_
    refine lv_iload_n hx hb dX2_append_36 rfl (lv_at hl 2 rfl) ?_
    refine va_copyi hx hb (by rw [hml]; exact hl.1.symm) hown (hts (.methodLink RX2 29 arraycopyName) (by decide +kernel)) (hts (.native arraycopyName) (by decide +kernel)) (hts (.static arraycopyName) (by decide +kernel)) (hts (.initialized "java/lang/System") (by decide +kernel)) hK hP hD hS 2 1 1 0 (ty := .byte) rfl rfl rfl rfl rfl (sp := nI 0) (dp := nI n) (n := nI k) (nI_pos (by omega)) (nI_pos (by omega)) (nI_pos (by omega)) (by rw [nI_clamp (n := 0) (by omega), nI_clamp (n := k) (by omega)]; omega) (by rw [nI_clamp (n := n) (by omega), nI_clamp (n := k) (by omega)]; omega) (fun i _ => fit_b (fun j => Nat.lt_trans (hg j) (by decide)) _) (Nat.le_of_ble_eq_true rfl) (Nat.le_of_ble_eq_true rfl) dX2_append_37 (fun H locs hP hD hS => ?_)
    have er_37 : va_cpy (nR gf) (nR g) (nI 0).toNatClampNeg (nI n).toNatClampNeg (nI k).toNatClampNeg = nR (va_cpy gf g 0 n k) := by rw [nI_clamp (n := 0) (by omega), nI_clamp (n := n) (by omega), nI_clamp (n := k) (by omega), cpy_nR]
    replace hP : va_P (dC, dI) vwCl [(h0, .inr (2, [.ref d0, .ref d1, .ref d2, .int (nI n), .int (nI w)])), (d0, .inl (kd, 600, .inl (nR (va_cpy gf g 0 n k)))), (fr, .inl (kf, 600, .inl (nR gf)))] H := by rw [← er_37]; exact hP
    replace hD : va_D A [(h0, .inr (2, [.ref d0, .ref d1, .ref d2, .int (nI n), .int (nI w)])), (d0, .inl (kd, 600, .inl (nR (va_cpy gf g 0 n k)))), (fr, .inl (kf, 600, .inl (nR gf)))] := by rw [← er_37]; exact hD
    refine lv_aload_n hx hb dX2_append_40 rfl (lv_at hl 0 rfl) ?_
    refine lv_dup hx hb dX2_append_41 rfl ?_
    refine va_get (D := (dC, dI)) (ci := 2) (v := .int (nI n)) (C := RX2) (T := TX2) (N := 5) hx hb hts hi_X2 hown hK hP 0 rfl rfl 3 (by decide) k_f22 (fun _ h9 => h9) rfl dX2_append_42 ?_
    refine lv_iload_n hx hb dX2_append_45 rfl (lv_at hl 2 rfl) ?_
    refine lv_iadd hx hb dX2_append_46 ?_
    refine lv_topi (fun x_46 ex_46 => ?_)
    obtain rfl : nI (n + k) = x_46 := Eq.symm (ex_46.trans (nI_add n k))
    refine va_put (D := (dC, dI)) (ci := 2) (v := .int (nI (n + k))) (ty := .int) (C := RX2) (T := TX2) (N := 5) hx hb hts hi_X2 tyX2 tyX2_ok nmX2 hown hK hP hD hS 0 rfl rfl 3 (by decide) k_f22 (fun _ h9 => h9) rfl (by decide +kernel) rfl rfl (Nat.le_of_ble_eq_true rfl) dX2_append_47 (fun H locs hP hD hS => ?_)
    replace hP : va_P (dC, dI) vwCl [(h0, .inr (2, [.ref d0, .ref d1, .ref d2, .int (nI (n + k)), .int (nI w)])), (d0, .inl (kd, 600, .inl (nR (va_cpy gf g 0 n k)))), (fr, .inl (kf, 600, .inl (nR gf)))] H := hP
    replace hD : va_D A [(h0, .inr (2, [.ref d0, .ref d1, .ref d2, .int (nI (n + k)), .int (nI w)])), (d0, .inl (kd, 600, .inl (nR (va_cpy gf g 0 n k)))), (fr, .inl (kf, 600, .inl (nR gf)))] := hD
    refine lv_iconst (v := 1) hx hb dX2_append_50 (by decide) ?_
    have hP9 := hP.sub (ws' := [(h0, .inr (2, [.ref d0, .ref d1, .ref d2, .int (nI (n + k)), .int (nI w)])), (d0, .inl (kd, 600, .inl (nR (va_cpy gf g 0 n k)))), (fr, .inl (kf, 600, .inl (nR gf)))]) [0, 1, 2] rfl
    have hD9 := hD.sub (ws' := [(h0, .inr (2, [.ref d0, .ref d1, .ref d2, .int (nI (n + k)), .int (nI w)])), (d0, .inl (kd, 600, .inl (nR (va_cpy gf g 0 n k)))), (fr, .inl (kf, 600, .inl (nR gf)))]) [0, 1, 2] (by decide) rfl
    exact W.zret (v := 1) hx hb hr (rfl) (fun t ht hW => ⟨⟨1, ((n + k), (va_cpy gf g 0 n k)), rfl, ⟨Or.inl ⟨rfl, by omega⟩, by exact ⟨fun _ => ⟨rfl, rfl⟩, fun h => absurd (by omega) h⟩⟩, by rw [ht]; exact hP9, hD9⟩, hS.F ht⟩) hS.2.2 dX2_append_51
  · have n_21 : (600 - n) < k := Nat.not_le.mp (fun h9 => c_21 ((nI_leI (a := k) (b := (600 - n)) (by omega) (by omega)).mpr h9))
    refine lv_iconst (v := 0) hx hb dX2_append_24 (by decide) ?_
    have hP9 := hP.sub (ws' := [(h0, .inr (2, [.ref d0, .ref d1, .ref d2, .int (nI n), .int (nI w)])), (d0, .inl (kd, 600, .inl (nR g))), (fr, .inl (kf, 600, .inl (nR gf)))]) [0, 1, 2] rfl
    have hD9 := hD.sub (ws' := [(h0, .inr (2, [.ref d0, .ref d1, .ref d2, .int (nI n), .int (nI w)])), (d0, .inl (kd, 600, .inl (nR g))), (fr, .inl (kf, 600, .inl (nR gf)))]) [0, 1, 2] (by decide) rfl
    exact W.zret (v := 0) hx hb hr (rfl) (fun t ht hW => ⟨⟨0, (n, g), rfl, ⟨Or.inr ⟨rfl, by omega⟩, by exact ⟨fun h => by omega, fun _ => ⟨rfl, rfl⟩⟩⟩, by rw [ht]; exact hP9, hD9⟩, hS.F ht⟩) hS.2.2 dX2_append_25

set_option maxHeartbeats 4000000 in
set_option maxRecDepth 100000 in
theorem g_X2_findWords (l : Launch) (dC : Nat → ClassId) (dI : Nat → Nat → Nat) (h0 : Nat) (d0 : Nat) (d1 : Nat) (d2 : Nat) (kd : ClassId) (kb : ClassId) (kl : ClassId) (n : Nat) (w : Nat) (g : Nat → Nat) (sb : Nat → Nat) (ln : Nat → Nat) (sz : Nat) (hn : n ≤ 600) (hg : ∀ j, g j < 30) : Met l yX2_findWords wsX2_findWords ({ frames := 2, cells := 0, slots := 0, locals := 44 }) (va_Pc [.ref h0] (fun U => U.heap.size = sz ∧ va_P (dC, dI) vwCl [(h0, .inr (2, [.ref d0, .ref d1, .ref d2, .int (nI n), .int (nI w)])), (d0, .inl (kd, 600, .inl (nR g))), (d1, .inl (kb, 60, .inl (nR sb))), (d2, .inl (kl, 60, .inl (nR ln)))] U.heap ∧ va_K (dC, dI) vwCl [(kd, .byte), (kb, .int), (kl, .int)] U ∧ va_D (fun _ => True) [(h0, .inr (2, [.ref d0, .ref d1, .ref d2, .int (nI n), .int (nI w)])), (d0, .inl (kd, 600, .inl (nR g))), (d1, .inl (kb, 60, .inl (nR sb))), (d2, .inl (kl, 60, .inl (nR ln)))])) (va_Qi (fun (r : Int32) (u : Nat × (Nat → Nat) × (Nat → Nat)) => match u with | (wo, so, lo) => ((r = 1 ∧ (cB g n ≤ 60)) ∨ (r = 0 ∧ ¬ (cB g n ≤ 60))) ∧ (wo ≤ 60) ∧ (cB g n ≤ 60 → wo = cB g n ∧ okW g so lo n n)) (fun (u : Nat × (Nat → Nat) × (Nat → Nat)) (t : State) => match u with | (wo, so, lo) => va_P (dC, dI) vwCl [(h0, .inr (2, [.ref d0, .ref d1, .ref d2, .int (nI n), .int (nI wo)])), (d0, .inl (kd, 600, .inl (nR g))), (d1, .inl (kb, 60, .inl (nR so))), (d2, .inl (kl, 60, .inl (nR lo)))] t.heap ∧ va_D (va_A [(h0, .inr (2, [.ref d0, .ref d1, .ref d2, .int (nI n), .int (nI w)])), (d0, .inl (kd, 600, .inl (nR g))), (d1, .inl (kb, 60, .inl (nR sb))), (d2, .inl (kl, 60, .inl (nR ln)))] sz) [(h0, .inr (2, [.ref d0, .ref d1, .ref d2, .int (nI n), .int (nI wo)])), (d0, .inl (kd, 600, .inl (nR g))), (d1, .inl (kb, 60, .inl (nR so))), (d2, .inl (kl, 60, .inl (nR lo)))]) (va_A [(h0, .inr (2, [.ref d0, .ref d1, .ref d2, .int (nI n), .int (nI w)])), (d0, .inl (kd, 600, .inl (nR g))), (d1, .inl (kb, 60, .inl (nR sb))), (d2, .inl (kl, 60, .inl (nR ln)))] sz)) 0 0 (va_A [(h0, .inr (2, [.ref d0, .ref d1, .ref d2, .int (nI n), .int (nI w)])), (d0, .inl (kd, 600, .inl (nR g))), (d1, .inl (kb, 60, .inl (nR sb))), (d2, .inl (kl, 60, .inl (nR ln)))] sz) := by
  refine Met.ofW (cc := cX2_findWords) (maxL := 2) (ret := (some .boolean)) (by decide) rfl ?_
  intro p e s m args below meth c s₁ B hml hv
  obtain ⟨rfl, hsz, hP, hK, hD0⟩ := hv
  have hx := B.exec
  have hb := B.bytes
  have hr := B.returns
  have hts := atoms_spec (ws := wsX2_findWords) B.pre
  have hown : s.vm.findClass RX2 = some m.cls := findClass_of_methodNamed B.named
  have hlocks := B.notSynchronized
  subst hsz
  have hD := hD0.self (sz := s.heap.size)
  clear hD0
  generalize hAe : va_A [(h0, .inr (2, [.ref d0, .ref d1, .ref d2, .int (nI n), .int (nI w)])), (d0, .inl (kd, 600, .inl (nR g))), (d1, .inl (kb, 60, .inl (nR sb))), (d2, .inl (kl, 60, .inl (nR ln)))] s.heap.size = A at hD ⊢
  have hA : ∀ q : Nat, s.heap.size ≤ q → A q := fun q h => by rw [← hAe]; exact Or.inr h
  clear hAe
  have hS : va_S A s.heap s.heap [] := va_S.rf
  replace hP : va_P (dC, dI) vwCl [(h0, .inr (2, [.ref d0, .ref d1, .ref d2, .int (nI n), .int (nI w)])), (d0, .inl (kd, 600, .inl (nR g))), (d1, .inl (kb, 60, .inl (nR sb))), (d2, .inl (kl, 60, .inl (nR ln)))] s.heap := hP
  have hl := lv_entry ([.ref h0]) (n := 2) (Nat.le_of_ble_eq_true rfl)
  rw [lg_entry_eq]
  generalize (lg_sl ([.ref h0]) ++ List.replicate (2 - (lg_sl ([.ref h0])).length) Slot.unset).toArray = ls at hl ⊢
  replace hl : lv_has ls 2 [(0, .ref h0)] := hl
  have hi_X2 : ∀ w ∈ wsX20, w ∈ wsX2_findWords := by decide +kernel
  have k_f26 := hts (.fieldLink RX2 26 "TongueTeller$Script" "words" "I") (by decide +kernel)
  have k_f22 := hts (.fieldLink RX2 22 "TongueTeller$Script" "size" "I") (by decide +kernel)
  have k_f15 := hts (.fieldLink RX2 15 "TongueTeller$Script" "starts" "[I") (by decide +kernel)
  have k_f19 := hts (.fieldLink RX2 19 "TongueTeller$Script" "lengths" "[I") (by decide +kernel)
  refine lv_aload_n hx hb dX2_findWords_0 rfl (lv_at hl 0 rfl) ?_
  refine lv_iconst (v := 0) hx hb dX2_findWords_1 (by decide) ?_
  refine va_put (D := (dC, dI)) (ci := 2) (v := .int 0) (ty := .int) (C := RX2) (T := TX2) (N := 5) hx hb hts hi_X2 tyX2 tyX2_ok nmX2 hown hK hP hD hS 0 rfl rfl 4 (by decide) k_f26 (fun _ h9 => h9) rfl (by decide +kernel) rfl rfl (Nat.le_of_ble_eq_true rfl) dX2_findWords_2 (fun H locs hP hD hS => ?_)
  replace hP : va_P (dC, dI) vwCl [(h0, .inr (2, [.ref d0, .ref d1, .ref d2, .int (nI n), .int 0])), (d0, .inl (kd, 600, .inl (nR g))), (d1, .inl (kb, 60, .inl (nR sb))), (d2, .inl (kl, 60, .inl (nR ln)))] H := hP
  replace hD : va_D A [(h0, .inr (2, [.ref d0, .ref d1, .ref d2, .int (nI n), .int 0])), (d0, .inl (kd, 600, .inl (nR g))), (d1, .inl (kb, 60, .inl (nR sb))), (d2, .inl (kl, 60, .inl (nR ln)))] := hD
  refine lv_iconst (v := 0) hx hb dX2_findWords_5 (by decide) ?_
  refine lv_istore_n (lv' := [(1, .int 0), (0, .ref h0)]) hx hb dX2_findWords_6 rfl hl (by decide) rfl (fun ls hl => ?_)
  obtain ⟨i, e_i⟩ : ∃ y : Nat, y = 0 := ⟨_, rfl⟩
  obtain ⟨sc, e_sc⟩ : ∃ y : Nat → Nat, y = sb := ⟨_, rfl⟩
  obtain ⟨lc, e_lc⟩ : ∃ y : Nat → Nat, y = ln := ⟨_, rfl⟩
  replace hl : lv_has ls 2 [(0, .ref h0), (1, .int (nI i))] := by subst e_i; subst e_sc; subst e_lc; exact lv_sub hl [1, 0] rfl
  replace hP : va_P (dC, dI) vwCl [(h0, .inr (2, [.ref d0, .ref d1, .ref d2, .int (nI n), .int (nI (cB g i))])), (d0, .inl (kd, 600, .inl (nR g))), (d1, .inl (kb, 60, .inl (nR sc))), (d2, .inl (kl, 60, .inl (nR lc)))] H := by subst e_i; subst e_sc; subst e_lc; exact hP
  replace hD : va_D A [(h0, .inr (2, [.ref d0, .ref d1, .ref d2, .int (nI n), .int (nI (cB g i))])), (d0, .inl (kd, 600, .inl (nR g))), (d1, .inl (kb, 60, .inl (nR sc))), (d2, .inl (kl, 60, .inl (nR lc)))] := by subst e_i; subst e_sc; subst e_lc; exact hD
  have hi1 : i ≤ n := by subst e_i; subst e_sc; subst e_lc; omega
  have hi2 : cB g i ≤ 60 := by subst e_i; subst e_sc; subst e_lc; exact Nat.zero_le _
  have hok : okW g sc lc n i := by subst e_i; subst e_sc; subst e_lc; exact okW_0
  clear e_i e_sc e_lc
  obtain ⟨nn7, hnn7⟩ : ∃ q : Nat, n - i < q := ⟨_, Nat.lt_succ_self _⟩
  induction nn7 generalizing i sc lc H locs ls with
  | zero => exact absurd hnn7 (Nat.not_lt_zero _)
  | succ nn7 ih7 =>
    refine lv_iload_n hx hb dX2_findWords_7 rfl (lv_at hl 1 rfl) ?_
    refine lv_aload_n hx hb dX2_findWords_8 rfl (lv_at hl 0 rfl) ?_
    refine va_get (D := (dC, dI)) (ci := 2) (v := .int (nI n)) (C := RX2) (T := TX2) (N := 5) hx hb hts hi_X2 hown hK hP 0 rfl rfl 3 (by decide) k_f22 (fun _ h9 => h9) rfl dX2_findWords_9 ?_
    refine lv_icmp_ge (tgt := 74) hx hb dX2_findWords_12 (by decide) (fun c_12 => ?_) (fun c_12 => ?_)
    · have n_12 : n ≤ i := (nI_leI (a := n) (b := i) (by omega) (by omega)).mp c_12
      refine lv_iconst (v := 1) hx hb dX2_findWords_74 (by decide) ?_
      have hP9 := hP.sub (ws' := [(h0, .inr (2, [.ref d0, .ref d1, .ref d2, .int (nI n), .int (nI (cB g i))])), (d0, .inl (kd, 600, .inl (nR g))), (d1, .inl (kb, 60, .inl (nR sc))), (d2, .inl (kl, 60, .inl (nR lc)))]) [0, 1, 2, 3] rfl
      have hD9 := hD.sub (ws' := [(h0, .inr (2, [.ref d0, .ref d1, .ref d2, .int (nI n), .int (nI (cB g i))])), (d0, .inl (kd, 600, .inl (nR g))), (d1, .inl (kb, 60, .inl (nR sc))), (d2, .inl (kl, 60, .inl (nR lc)))]) [0, 1, 2, 3] (by decide) rfl
      exact W.zret (v := 1) hx hb hr (rfl) (fun t ht hW => ⟨⟨1, ((cB g i), sc, lc), rfl, ⟨Or.inl ⟨rfl, by rw [show n = i by omega]; exact hi2⟩, by omega, by exact fun _ => ⟨by rw [show n = i by omega], by rw [show i = n by omega] at hok; exact hok⟩⟩, by rw [ht]; exact hP9, hD9⟩, hS.F ht⟩) hS.2.2 dX2_findWords_75
    · have n_12 : i < n := Nat.not_le.mp (fun h9 => c_12 ((nI_leI (a := n) (b := i) (by omega) (by omega)).mpr h9))
      refine lv_aload_n hx hb dX2_findWords_15 rfl (lv_at hl 0 rfl) ?_
      refine lv_iload_n hx hb dX2_findWords_16 rfl (lv_at hl 1 rfl) ?_
      have hPc := hP.sub (ws' := [(h0, .inr (2, [.ref d0, .ref d1, .ref d2, .int (nI n), .int (nI (cB g i))])), (d0, .inl (kd, 600, .inl (nR g)))]) [0, 1] rfl
      have hKc := hK.sub (tys' := [(kd, .byte)]) [0] rfl
      refine vp_callSi (W.runV (As := [.int (nI i)]) (rest := []) ⟨hx, hb, hml, hown, hts⟩ (g_X2_beginsWord l dC dI h0 d0 d1 d2 kd n (cB g i) i g (by first | assumption | omega) (by first | assumption | omega)) (cwV 1 hts gX2_findWords_X2_beginsWord rfl rfl rfl (by decide +kernel) ⟨Nat.le_of_ble_eq_true rfl, Nat.le_of_ble_eq_true rfl⟩) ⟨fun a U g mk q => by obtain ⟨q0, qP, qK⟩ := q; exact ⟨q0, qP, va_K.moved (u := U) (U := U.calling g mk a) (Vm.Alike.refl U.vm) qK⟩, va_recv hK hP (ci := 2) (q0 := 0) rfl rfl, fun U hU hW => ⟨rfl, by rw [hU]; exact hPc, va_K.moved hW.alike hKc⟩⟩ rfl rfl hl.1 rfl (lv_room (Nat.le_of_ble_eq_true rfl)) dX2_findWords_17 ⟨Nat.le_of_ble_eq_true rfl, Nat.le_of_ble_eq_true rfl⟩) (fun r_17 hw_17 => ?_)
      clear hPc
      rcases hw_17 with ⟨hr_17, hb_17⟩ | ⟨hr_17, hb_17⟩
      · subst hr_17
        refine lv_if_eq (tgt := 68) hx hb dX2_findWords_20 (by decide) (fun c_20 => ?_) (fun c_20 => ?_)
        · exact absurd c_20 (by decide)
        refine lv_aload_n hx hb dX2_findWords_23 rfl (lv_at hl 0 rfl) ?_
        refine va_get (D := (dC, dI)) (ci := 2) (v := .int (nI (cB g i))) (C := RX2) (T := TX2) (N := 5) hx hb hts hi_X2 hown hK hP 0 rfl rfl 4 (by decide) k_f26 (fun _ h9 => h9) rfl dX2_findWords_24 ?_
        refine lv_bipush (v := 60) hx hb dX2_findWords_27 (by decide) ?_
        refine lv_icmp_lt (tgt := 34) hx hb dX2_findWords_29 (by decide) (fun c_29 => ?_) (fun c_29 => ?_)
        · have n_29 : (cB g i) < 60 := (nI_ltI (a := (cB g i)) (b := 60) (by omega) (by omega)).mp c_29
          refine lv_aload_n hx hb dX2_findWords_34 rfl (lv_at hl 0 rfl) ?_
          refine va_get (D := (dC, dI)) (ci := 2) (v := .ref d1) (C := RX2) (T := TX2) (N := 5) hx hb hts hi_X2 hown hK hP 0 rfl rfl 1 (by decide) k_f15 (fun _ h9 => h9) rfl dX2_findWords_35 ?_
          refine lv_aload_n hx hb dX2_findWords_38 rfl (lv_at hl 0 rfl) ?_
          refine va_get (D := (dC, dI)) (ci := 2) (v := .int (nI (cB g i))) (C := RX2) (T := TX2) (N := 5) hx hb hts hi_X2 hown hK hP 0 rfl rfl 4 (by decide) k_f26 (fun _ h9 => h9) rfl dX2_findWords_39 ?_
          refine lv_iload_n hx hb dX2_findWords_42 rfl (lv_at hl 1 rfl) ?_
          refine va_iast hx hb hK hP hD hS 2 1 rfl rfl (i := nI (cB g i)) (x := nI i) (vp_in_nI (by omega) (by omega)) dX2_findWords_43 (fun H locs hP hD hS => ?_)
          have er_43 : upd (nR sc) (nI (cB g i) : Int32).toNatClampNeg (nI i) = nR (updN sc (cB g i) i) := upd_nR (by omega)
          replace hP : va_P (dC, dI) vwCl [(h0, .inr (2, [.ref d0, .ref d1, .ref d2, .int (nI n), .int (nI (cB g i))])), (d0, .inl (kd, 600, .inl (nR g))), (d1, .inl (kb, 60, .inl (nR (updN sc (cB g i) i)))), (d2, .inl (kl, 60, .inl (nR lc)))] H := by rw [← er_43]; exact hP
          replace hD : va_D A [(h0, .inr (2, [.ref d0, .ref d1, .ref d2, .int (nI n), .int (nI (cB g i))])), (d0, .inl (kd, 600, .inl (nR g))), (d1, .inl (kb, 60, .inl (nR (updN sc (cB g i) i)))), (d2, .inl (kl, 60, .inl (nR lc)))] := by rw [← er_43]; exact hD
          refine lv_aload_n hx hb dX2_findWords_44 rfl (lv_at hl 0 rfl) ?_
          refine va_get (D := (dC, dI)) (ci := 2) (v := .ref d2) (C := RX2) (T := TX2) (N := 5) hx hb hts hi_X2 hown hK hP 0 rfl rfl 2 (by decide) k_f19 (fun _ h9 => h9) rfl dX2_findWords_45 ?_
          refine lv_aload_n hx hb dX2_findWords_48 rfl (lv_at hl 0 rfl) ?_
          refine va_get (D := (dC, dI)) (ci := 2) (v := .int (nI (cB g i))) (C := RX2) (T := TX2) (N := 5) hx hb hts hi_X2 hown hK hP 0 rfl rfl 4 (by decide) k_f26 (fun _ h9 => h9) rfl dX2_findWords_49 ?_
          refine lv_aload_n hx hb dX2_findWords_52 rfl (lv_at hl 0 rfl) ?_
          refine lv_iload_n hx hb dX2_findWords_53 rfl (lv_at hl 1 rfl) ?_
          have hPc := hP.sub (ws' := [(h0, .inr (2, [.ref d0, .ref d1, .ref d2, .int (nI n), .int (nI (cB g i))])), (d0, .inl (kd, 600, .inl (nR g)))]) [0, 1] rfl
          have hKc := hK.sub (tys' := [(kd, .byte)]) [0] rfl
          refine vp_callSi (W.runV (As := [.int (nI i)]) (rest := [.int (nI (cB g i)), .ref d2]) ⟨hx, hb, hml, hown, hts⟩ (g_X2_lengthFrom l dC dI h0 d0 d1 d2 kd n (cB g i) i g (n_12) (hn) (hg)) (cwV 1 hts gX2_findWords_X2_lengthFrom rfl rfl rfl (by decide +kernel) ⟨Nat.le_of_ble_eq_true rfl, Nat.le_of_ble_eq_true rfl⟩) ⟨fun a U g mk q => by obtain ⟨q0, qP, qK⟩ := q; exact ⟨q0, qP, va_K.moved (u := U) (U := U.calling g mk a) (Vm.Alike.refl U.vm) qK⟩, va_recv hK hP (ci := 2) (q0 := 0) rfl rfl, fun U hU hW => ⟨rfl, by rw [hU]; exact hPc, va_K.moved hW.alike hKc⟩⟩ rfl rfl hl.1 rfl (lv_room (Nat.le_of_ble_eq_true rfl)) dX2_findWords_54 ⟨Nat.le_of_ble_eq_true rfl, Nat.le_of_ble_eq_true rfl⟩) (fun r_54 hw_54 => ?_)
          clear hPc
          obtain ⟨L_54, hr_54, hL_54⟩ := hw_54
          obtain rfl : nI L_54 = r_54 := Eq.symm hr_54
          refine va_iast hx hb hK hP hD hS 3 2 rfl rfl (i := nI (cB g i)) (x := nI L_54) (vp_in_nI (by omega) (by omega)) dX2_findWords_57 (fun H locs hP hD hS => ?_)
          have er_57 : upd (nR lc) (nI (cB g i) : Int32).toNatClampNeg (nI L_54) = nR (updN lc (cB g i) L_54) := upd_nR (by omega)
          replace hP : va_P (dC, dI) vwCl [(h0, .inr (2, [.ref d0, .ref d1, .ref d2, .int (nI n), .int (nI (cB g i))])), (d0, .inl (kd, 600, .inl (nR g))), (d1, .inl (kb, 60, .inl (nR (updN sc (cB g i) i)))), (d2, .inl (kl, 60, .inl (nR (updN lc (cB g i) L_54))))] H := by rw [← er_57]; exact hP
          replace hD : va_D A [(h0, .inr (2, [.ref d0, .ref d1, .ref d2, .int (nI n), .int (nI (cB g i))])), (d0, .inl (kd, 600, .inl (nR g))), (d1, .inl (kb, 60, .inl (nR (updN sc (cB g i) i)))), (d2, .inl (kl, 60, .inl (nR (updN lc (cB g i) L_54))))] := by rw [← er_57]; exact hD
          refine lv_aload_n hx hb dX2_findWords_58 rfl (lv_at hl 0 rfl) ?_
          refine lv_dup hx hb dX2_findWords_59 rfl ?_
          refine va_get (D := (dC, dI)) (ci := 2) (v := .int (nI (cB g i))) (C := RX2) (T := TX2) (N := 5) hx hb hts hi_X2 hown hK hP 0 rfl rfl 4 (by decide) k_f26 (fun _ h9 => h9) rfl dX2_findWords_60 ?_
          refine lv_iconst (v := 1) hx hb dX2_findWords_63 (by decide) ?_
          refine lv_iadd hx hb dX2_findWords_64 ?_
          refine lv_topi (fun x_64 ex_64 => ?_)
          obtain rfl : nI (cB g i + 1) = x_64 := Eq.symm (ex_64.trans (nI_add (cB g i) 1))
          refine va_put (D := (dC, dI)) (ci := 2) (v := .int (nI (cB g i + 1))) (ty := .int) (C := RX2) (T := TX2) (N := 5) hx hb hts hi_X2 tyX2 tyX2_ok nmX2 hown hK hP hD hS 0 rfl rfl 4 (by decide) k_f26 (fun _ h9 => h9) rfl (by decide +kernel) rfl rfl (Nat.le_of_ble_eq_true rfl) dX2_findWords_65 (fun H locs hP hD hS => ?_)
          replace hP : va_P (dC, dI) vwCl [(h0, .inr (2, [.ref d0, .ref d1, .ref d2, .int (nI n), .int (nI (cB g i + 1))])), (d0, .inl (kd, 600, .inl (nR g))), (d1, .inl (kb, 60, .inl (nR (updN sc (cB g i) i)))), (d2, .inl (kl, 60, .inl (nR (updN lc (cB g i) L_54))))] H := hP
          replace hD : va_D A [(h0, .inr (2, [.ref d0, .ref d1, .ref d2, .int (nI n), .int (nI (cB g i + 1))])), (d0, .inl (kd, 600, .inl (nR g))), (d1, .inl (kb, 60, .inl (nR (updN sc (cB g i) i)))), (d2, .inl (kl, 60, .inl (nR (updN lc (cB g i) L_54))))] := hD
          have ecb : cB g (i + 1) = cB g i + 1 := cB_y hb_17
          have hi29 : cB g (i + 1) ≤ 60 := by omega
          replace hP : va_P (dC, dI) vwCl [(h0, .inr (2, [.ref d0, .ref d1, .ref d2, .int (nI n), .int (nI (cB g (i + 1)))])), (d0, .inl (kd, 600, .inl (nR g))), (d1, .inl (kb, 60, .inl (nR (updN sc (cB g i) i)))), (d2, .inl (kl, 60, .inl (nR (updN lc (cB g i) L_54))))] H := by rw [ecb]; exact hP
          replace hD : va_D A [(h0, .inr (2, [.ref d0, .ref d1, .ref d2, .int (nI n), .int (nI (cB g (i + 1)))])), (d0, .inl (kd, 600, .inl (nR g))), (d1, .inl (kb, 60, .inl (nR (updN sc (cB g i) i)))), (d2, .inl (kl, 60, .inl (nR (updN lc (cB g i) L_54))))] := by rw [ecb]; exact hD
          refine lv_iinc (v := nI (i + 1)) (lv' := [(1, .int (nI (i + 1))), (0, .ref h0)]) hx hb dX2_findWords_68 hl (k := 1) rfl (nI_1 _) (by decide) rfl (fun ls hl => ?_)
          refine lv_goto (tgt := 7) hx hb dX2_findWords_71 (by decide) ?_
          replace hl : lv_has ls 2 [(0, .ref h0), (1, .int (nI (i + 1)))] := lv_sub hl [1, 0] rfl
          replace hP : va_P (dC, dI) vwCl [(h0, .inr (2, [.ref d0, .ref d1, .ref d2, .int (nI n), .int (nI (cB g (i + 1)))])), (d0, .inl (kd, 600, .inl (nR g))), (d1, .inl (kb, 60, .inl (nR (updN sc (cB g i) i)))), (d2, .inl (kl, 60, .inl (nR (updN lc (cB g i) L_54))))] H := hP
          replace hD : va_D A [(h0, .inr (2, [.ref d0, .ref d1, .ref d2, .int (nI n), .int (nI (cB g (i + 1)))])), (d0, .inl (kd, 600, .inl (nR g))), (d1, .inl (kb, 60, .inl (nR (updN sc (cB g i) i)))), (d2, .inl (kl, 60, .inl (nR (updN lc (cB g i) L_54))))] := hD
          have hok9 : okW g (updN sc (cB g i) i) (updN lc (cB g i) L_54) n (i + 1) := okW_y hok hb_17 hL_54
          apply ih7 (i := i + 1) (sc := updN sc (cB g i) i) (lc := updN lc (cB g i) L_54) <;> first | assumption | omega
        · have n_29 : 60 ≤ (cB g i) := Nat.not_lt.mp (fun h9 => c_29 ((nI_ltI (a := (cB g i)) (b := 60) (by omega) (by omega)).mpr h9))
          refine lv_iconst (v := 0) hx hb dX2_findWords_32 (by decide) ?_
          have hP9 := hP.sub (ws' := [(h0, .inr (2, [.ref d0, .ref d1, .ref d2, .int (nI n), .int (nI (cB g i))])), (d0, .inl (kd, 600, .inl (nR g))), (d1, .inl (kb, 60, .inl (nR sc))), (d2, .inl (kl, 60, .inl (nR lc)))]) [0, 1, 2, 3] rfl
          have hD9 := hD.sub (ws' := [(h0, .inr (2, [.ref d0, .ref d1, .ref d2, .int (nI n), .int (nI (cB g i))])), (d0, .inl (kd, 600, .inl (nR g))), (d1, .inl (kb, 60, .inl (nR sc))), (d2, .inl (kl, 60, .inl (nR lc)))]) [0, 1, 2, 3] (by decide) rfl
          exact W.zret (v := 0) hx hb hr (rfl) (fun t ht hW => ⟨⟨0, ((cB g i), sc, lc), rfl, ⟨Or.inr ⟨rfl, by have := cB_lt hb_17 n_12; omega⟩, by omega, by exact fun h => absurd h (by have := cB_lt hb_17 n_12; omega)⟩, by rw [ht]; exact hP9, hD9⟩, hS.F ht⟩) hS.2.2 dX2_findWords_33
      · subst hr_17
        refine lv_if_eq (tgt := 68) hx hb dX2_findWords_20 (by decide) (fun c_20 => ?_) (fun c_20 => ?_)
        rotate_left
        · exact absurd (by decide) c_20
        have ecb : cB g (i + 1) = cB g i := cB_n hb_17
        have hi29 : cB g (i + 1) ≤ 60 := by omega
        replace hP : va_P (dC, dI) vwCl [(h0, .inr (2, [.ref d0, .ref d1, .ref d2, .int (nI n), .int (nI (cB g (i + 1)))])), (d0, .inl (kd, 600, .inl (nR g))), (d1, .inl (kb, 60, .inl (nR sc))), (d2, .inl (kl, 60, .inl (nR lc)))] H := by rw [ecb]; exact hP
        replace hD : va_D A [(h0, .inr (2, [.ref d0, .ref d1, .ref d2, .int (nI n), .int (nI (cB g (i + 1)))])), (d0, .inl (kd, 600, .inl (nR g))), (d1, .inl (kb, 60, .inl (nR sc))), (d2, .inl (kl, 60, .inl (nR lc)))] := by rw [ecb]; exact hD
        refine lv_iinc (v := nI (i + 1)) (lv' := [(1, .int (nI (i + 1))), (0, .ref h0)]) hx hb dX2_findWords_68 hl (k := 1) rfl (nI_1 _) (by decide) rfl (fun ls hl => ?_)
        refine lv_goto (tgt := 7) hx hb dX2_findWords_71 (by decide) ?_
        replace hl : lv_has ls 2 [(0, .ref h0), (1, .int (nI (i + 1)))] := lv_sub hl [1, 0] rfl
        replace hP : va_P (dC, dI) vwCl [(h0, .inr (2, [.ref d0, .ref d1, .ref d2, .int (nI n), .int (nI (cB g (i + 1)))])), (d0, .inl (kd, 600, .inl (nR g))), (d1, .inl (kb, 60, .inl (nR sc))), (d2, .inl (kl, 60, .inl (nR lc)))] H := hP
        replace hD : va_D A [(h0, .inr (2, [.ref d0, .ref d1, .ref d2, .int (nI n), .int (nI (cB g (i + 1)))])), (d0, .inl (kd, 600, .inl (nR g))), (d1, .inl (kb, 60, .inl (nR sc))), (d2, .inl (kl, 60, .inl (nR lc)))] := hD
        have hok9 : okW g sc lc n (i + 1) := okW_n hok hb_17
        apply ih7 (i := i + 1) (sc := sc) (lc := lc) <;> first | assumption | omega
