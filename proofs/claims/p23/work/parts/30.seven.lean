set_option maxHeartbeats 4000000 in
set_option maxRecDepth 100000 in
theorem g_X7_refuse (l : Launch) (dC : Nat → ClassId) (dI : Nat → Nat → Nat) (h0 : Nat) (a0 : Nat) (ts : Nat) (a2 : Nat) (a3 : Nat) (v4 : Int32) (v5 : Int32) (a6 : Nat) (a7 : Nat) (a8 : Nat) (v9 : Nat) (v10 : Nat) (a11 : Nat) (a12 : Nat) (v13 : Int32) (a14 : Nat) (a15 : Nat) (a16 : Nat) (v17 : Int32) (p0 : Int32) (sz : Nat) : Met l yX7_refuse wsX7_refuse ({ frames := 0, cells := 0, slots := 0, locals := 0 }) (va_Pc [.ref h0, .int p0] (fun U => U.heap.size = sz ∧ va_P (dC, dI) vwCl [(h0, .inr (7, [.ref a0, .int (nI ts), .ref a2, .ref a3, .int v4, .int v5, .ref a6, .ref a7, .ref a8, .int (nI v9), .int (nI v10), .ref a11, .ref a12, .int v13, .ref a14, .ref a15, .ref a16, .int v17]))] U.heap ∧ va_K (dC, dI) vwCl [] U ∧ va_D (fun _ => True) [(h0, .inr (7, [.ref a0, .int (nI ts), .ref a2, .ref a3, .int v4, .int v5, .ref a6, .ref a7, .ref a8, .int (nI v9), .int (nI v10), .ref a11, .ref a12, .int v13, .ref a14, .ref a15, .ref a16, .int v17]))])) (va_Qi (fun (r : Int32) (_ : Unit) => r = (-1)) (fun (_ : Unit) (t : State) => va_P (dC, dI) vwCl [(h0, .inr (7, [.ref a0, .int (nI ts), .ref a2, .ref a3, .int v4, .int v5, .ref a6, .ref a7, .ref a8, .int (nI v9), .int (nI v10), .ref a11, .ref a12, .int v13, .ref a14, .ref a15, .ref a16, .int p0]))] t.heap ∧ va_D (va_A [(h0, .inr (7, [.ref a0, .int (nI ts), .ref a2, .ref a3, .int v4, .int v5, .ref a6, .ref a7, .ref a8, .int (nI v9), .int (nI v10), .ref a11, .ref a12, .int v13, .ref a14, .ref a15, .ref a16, .int v17]))] sz) [(h0, .inr (7, [.ref a0, .int (nI ts), .ref a2, .ref a3, .int v4, .int v5, .ref a6, .ref a7, .ref a8, .int (nI v9), .int (nI v10), .ref a11, .ref a12, .int v13, .ref a14, .ref a15, .ref a16, .int p0]))]) (va_A [(h0, .inr (7, [.ref a0, .int (nI ts), .ref a2, .ref a3, .int v4, .int v5, .ref a6, .ref a7, .ref a8, .int (nI v9), .int (nI v10), .ref a11, .ref a12, .int v13, .ref a14, .ref a15, .ref a16, .int v17]))] sz)) 0 0 (va_A [(h0, .inr (7, [.ref a0, .int (nI ts), .ref a2, .ref a3, .int v4, .int v5, .ref a6, .ref a7, .ref a8, .int (nI v9), .int (nI v10), .ref a11, .ref a12, .int v13, .ref a14, .ref a15, .ref a16, .int v17]))] sz) := by
  refine Met.ofW (cc := cX7_refuse) (maxL := 2) (ret := (some .int)) (by decide) rfl ?_
  intro p e s m args below meth c s₁ B hml hv
  obtain ⟨rfl, hsz, hP, hK, hD0⟩ := hv
  have hx := B.exec
  have hb := B.bytes
  have hr := B.returns
  have hts := atoms_spec (ws := wsX7_refuse) B.pre
  have hown : s.vm.findClass RX7 = some m.cls := findClass_of_methodNamed B.named
  have hlocks := B.notSynchronized
  subst hsz
  have hD := hD0.self (sz := s.heap.size)
  clear hD0
  generalize hAe : va_A [(h0, .inr (7, [.ref a0, .int (nI ts), .ref a2, .ref a3, .int v4, .int v5, .ref a6, .ref a7, .ref a8, .int (nI v9), .int (nI v10), .ref a11, .ref a12, .int v13, .ref a14, .ref a15, .ref a16, .int v17]))] s.heap.size = A at hD ⊢
  have hA : ∀ q : Nat, s.heap.size ≤ q → A q := fun q h => by rw [← hAe]; exact Or.inr h
  clear hAe
  have hS : va_S A s.heap s.heap [] := va_S.rf
  replace hP : va_P (dC, dI) vwCl [(h0, .inr (7, [.ref a0, .int (nI ts), .ref a2, .ref a3, .int v4, .int v5, .ref a6, .ref a7, .ref a8, .int (nI v9), .int (nI v10), .ref a11, .ref a12, .int v13, .ref a14, .ref a15, .ref a16, .int v17]))] s.heap := hP
  have hl := lv_entry ([.ref h0, .int p0]) (n := 2) (Nat.le_of_ble_eq_true rfl)
  rw [lg_entry_eq]
  generalize (lg_sl ([.ref h0, .int p0]) ++ List.replicate (2 - (lg_sl ([.ref h0, .int p0])).length) Slot.unset).toArray = ls at hl ⊢
  replace hl : lv_has ls 2 [(0, .ref h0), (1, .int p0)] := hl
  have hi_X7 : ∀ w ∈ wsX70, w ∈ wsX7_refuse := by decide +kernel
  have k_f93 := hts (.fieldLink RX7 93 "TongueTeller" "latestTrouble" "I") (by decide +kernel)
  refine lv_aload_n hx hb dX7_refuse_0 rfl (lv_at hl 0 rfl) ?_
  refine lv_iload_n hx hb dX7_refuse_1 rfl (lv_at hl 1 rfl) ?_
  refine va_put (D := (dC, dI)) (ci := 7) (v := .int p0) (ty := .int) (C := RX7) (T := TX7) (N := 18) hx hb hts hi_X7 tyX7 tyX7_ok nmX7 hown hK hP hD hS 0 rfl rfl 17 (by decide) k_f93 (fun _ h9 => h9) rfl (by decide +kernel) rfl rfl (Nat.le_of_ble_eq_true rfl) dX7_refuse_2 (fun H locs hP hD hS => ?_)
  replace hP : va_P (dC, dI) vwCl [(h0, .inr (7, [.ref a0, .int (nI ts), .ref a2, .ref a3, .int v4, .int v5, .ref a6, .ref a7, .ref a8, .int (nI v9), .int (nI v10), .ref a11, .ref a12, .int v13, .ref a14, .ref a15, .ref a16, .int p0]))] H := hP
  replace hD : va_D A [(h0, .inr (7, [.ref a0, .int (nI ts), .ref a2, .ref a3, .int v4, .int v5, .ref a6, .ref a7, .ref a8, .int (nI v9), .int (nI v10), .ref a11, .ref a12, .int v13, .ref a14, .ref a15, .ref a16, .int p0]))] := hD
  refine lv_iconst (v := (-1)) hx hb dX7_refuse_5 (by decide) ?_
  have hP9 := hP.sub (ws' := [(h0, .inr (7, [.ref a0, .int (nI ts), .ref a2, .ref a3, .int v4, .int v5, .ref a6, .ref a7, .ref a8, .int (nI v9), .int (nI v10), .ref a11, .ref a12, .int v13, .ref a14, .ref a15, .ref a16, .int p0]))]) [0] rfl
  have hD9 := hD.sub (ws' := [(h0, .inr (7, [.ref a0, .int (nI ts), .ref a2, .ref a3, .int v4, .int v5, .ref a6, .ref a7, .ref a8, .int (nI v9), .int (nI v10), .ref a11, .ref a12, .int v13, .ref a14, .ref a15, .ref a16, .int p0]))]) [0] (by decide) rfl
  exact W.iret (v := (-1)) hx hb hr (fun t ht hW => ⟨⟨(-1), (), rfl, rfl, by rw [ht]; exact hP9, hD9⟩, hS.F ht⟩) hS.2.2 dX7_refuse_6

set_option maxHeartbeats 4000000 in
set_option maxRecDepth 100000 in
theorem g_X7_grant (l : Launch) (dC : Nat → ClassId) (dI : Nat → Nat → Nat) (h0 : Nat) (a0 : Nat) (ts : Nat) (a2 : Nat) (a3 : Nat) (v4 : Int32) (v5 : Int32) (a6 : Nat) (a7 : Nat) (a8 : Nat) (v9 : Nat) (v10 : Nat) (a11 : Nat) (a12 : Nat) (v13 : Int32) (a14 : Nat) (a15 : Nat) (a16 : Nat) (v17 : Int32) (p0 : Int32) (sz : Nat) : Met l yX7_grant wsX7_grant ({ frames := 0, cells := 0, slots := 0, locals := 0 }) (va_Pc [.ref h0, .int p0] (fun U => U.heap.size = sz ∧ va_P (dC, dI) vwCl [(h0, .inr (7, [.ref a0, .int (nI ts), .ref a2, .ref a3, .int v4, .int v5, .ref a6, .ref a7, .ref a8, .int (nI v9), .int (nI v10), .ref a11, .ref a12, .int v13, .ref a14, .ref a15, .ref a16, .int v17]))] U.heap ∧ va_K (dC, dI) vwCl [] U ∧ va_D (fun _ => True) [(h0, .inr (7, [.ref a0, .int (nI ts), .ref a2, .ref a3, .int v4, .int v5, .ref a6, .ref a7, .ref a8, .int (nI v9), .int (nI v10), .ref a11, .ref a12, .int v13, .ref a14, .ref a15, .ref a16, .int v17]))])) (va_Qi (fun (r : Int32) (_ : Unit) => r = p0) (fun (_ : Unit) (t : State) => va_P (dC, dI) vwCl [(h0, .inr (7, [.ref a0, .int (nI ts), .ref a2, .ref a3, .int v4, .int v5, .ref a6, .ref a7, .ref a8, .int (nI v9), .int (nI v10), .ref a11, .ref a12, .int v13, .ref a14, .ref a15, .ref a16, .int 0]))] t.heap ∧ va_D (va_A [(h0, .inr (7, [.ref a0, .int (nI ts), .ref a2, .ref a3, .int v4, .int v5, .ref a6, .ref a7, .ref a8, .int (nI v9), .int (nI v10), .ref a11, .ref a12, .int v13, .ref a14, .ref a15, .ref a16, .int v17]))] sz) [(h0, .inr (7, [.ref a0, .int (nI ts), .ref a2, .ref a3, .int v4, .int v5, .ref a6, .ref a7, .ref a8, .int (nI v9), .int (nI v10), .ref a11, .ref a12, .int v13, .ref a14, .ref a15, .ref a16, .int 0]))]) (va_A [(h0, .inr (7, [.ref a0, .int (nI ts), .ref a2, .ref a3, .int v4, .int v5, .ref a6, .ref a7, .ref a8, .int (nI v9), .int (nI v10), .ref a11, .ref a12, .int v13, .ref a14, .ref a15, .ref a16, .int v17]))] sz)) 0 0 (va_A [(h0, .inr (7, [.ref a0, .int (nI ts), .ref a2, .ref a3, .int v4, .int v5, .ref a6, .ref a7, .ref a8, .int (nI v9), .int (nI v10), .ref a11, .ref a12, .int v13, .ref a14, .ref a15, .ref a16, .int v17]))] sz) := by
  refine Met.ofW (cc := cX7_grant) (maxL := 2) (ret := (some .int)) (by decide) rfl ?_
  intro p e s m args below meth c s₁ B hml hv
  obtain ⟨rfl, hsz, hP, hK, hD0⟩ := hv
  have hx := B.exec
  have hb := B.bytes
  have hr := B.returns
  have hts := atoms_spec (ws := wsX7_grant) B.pre
  have hown : s.vm.findClass RX7 = some m.cls := findClass_of_methodNamed B.named
  have hlocks := B.notSynchronized
  subst hsz
  have hD := hD0.self (sz := s.heap.size)
  clear hD0
  generalize hAe : va_A [(h0, .inr (7, [.ref a0, .int (nI ts), .ref a2, .ref a3, .int v4, .int v5, .ref a6, .ref a7, .ref a8, .int (nI v9), .int (nI v10), .ref a11, .ref a12, .int v13, .ref a14, .ref a15, .ref a16, .int v17]))] s.heap.size = A at hD ⊢
  have hA : ∀ q : Nat, s.heap.size ≤ q → A q := fun q h => by rw [← hAe]; exact Or.inr h
  clear hAe
  have hS : va_S A s.heap s.heap [] := va_S.rf
  replace hP : va_P (dC, dI) vwCl [(h0, .inr (7, [.ref a0, .int (nI ts), .ref a2, .ref a3, .int v4, .int v5, .ref a6, .ref a7, .ref a8, .int (nI v9), .int (nI v10), .ref a11, .ref a12, .int v13, .ref a14, .ref a15, .ref a16, .int v17]))] s.heap := hP
  have hl := lv_entry ([.ref h0, .int p0]) (n := 2) (Nat.le_of_ble_eq_true rfl)
  rw [lg_entry_eq]
  generalize (lg_sl ([.ref h0, .int p0]) ++ List.replicate (2 - (lg_sl ([.ref h0, .int p0])).length) Slot.unset).toArray = ls at hl ⊢
  replace hl : lv_has ls 2 [(0, .ref h0), (1, .int p0)] := hl
  have hi_X7 : ∀ w ∈ wsX70, w ∈ wsX7_grant := by decide +kernel
  have k_f93 := hts (.fieldLink RX7 93 "TongueTeller" "latestTrouble" "I") (by decide +kernel)
  refine lv_aload_n hx hb dX7_grant_0 rfl (lv_at hl 0 rfl) ?_
  refine lv_iconst (v := 0) hx hb dX7_grant_1 (by decide) ?_
  refine va_put (D := (dC, dI)) (ci := 7) (v := .int 0) (ty := .int) (C := RX7) (T := TX7) (N := 18) hx hb hts hi_X7 tyX7 tyX7_ok nmX7 hown hK hP hD hS 0 rfl rfl 17 (by decide) k_f93 (fun _ h9 => h9) rfl (by decide +kernel) rfl rfl (Nat.le_of_ble_eq_true rfl) dX7_grant_2 (fun H locs hP hD hS => ?_)
  replace hP : va_P (dC, dI) vwCl [(h0, .inr (7, [.ref a0, .int (nI ts), .ref a2, .ref a3, .int v4, .int v5, .ref a6, .ref a7, .ref a8, .int (nI v9), .int (nI v10), .ref a11, .ref a12, .int v13, .ref a14, .ref a15, .ref a16, .int 0]))] H := hP
  replace hD : va_D A [(h0, .inr (7, [.ref a0, .int (nI ts), .ref a2, .ref a3, .int v4, .int v5, .ref a6, .ref a7, .ref a8, .int (nI v9), .int (nI v10), .ref a11, .ref a12, .int v13, .ref a14, .ref a15, .ref a16, .int 0]))] := hD
  refine lv_iload_n hx hb dX7_grant_5 rfl (lv_at hl 1 rfl) ?_
  have hP9 := hP.sub (ws' := [(h0, .inr (7, [.ref a0, .int (nI ts), .ref a2, .ref a3, .int v4, .int v5, .ref a6, .ref a7, .ref a8, .int (nI v9), .int (nI v10), .ref a11, .ref a12, .int v13, .ref a14, .ref a15, .ref a16, .int 0]))]) [0] rfl
  have hD9 := hD.sub (ws' := [(h0, .inr (7, [.ref a0, .int (nI ts), .ref a2, .ref a3, .int v4, .int v5, .ref a6, .ref a7, .ref a8, .int (nI v9), .int (nI v10), .ref a11, .ref a12, .int v13, .ref a14, .ref a15, .ref a16, .int 0]))]) [0] (by decide) rfl
  exact W.iret (v := p0) hx hb hr (fun t ht hW => ⟨⟨p0, (), rfl, rfl, by rw [ht]; exact hP9, hD9⟩, hS.F ht⟩) hS.2.2 dX7_grant_6

set_option maxHeartbeats 4000000 in
set_option maxRecDepth 100000 in
theorem g_X7_isOnTape (l : Launch) (dC : Nat → ClassId) (dI : Nat → Nat → Nat) (h0 : Nat) (a0 : Nat) (ts : Nat) (a2 : Nat) (a3 : Nat) (v4 : Int32) (v5 : Int32) (a6 : Nat) (a7 : Nat) (a8 : Nat) (v9 : Nat) (v10 : Nat) (a11 : Nat) (a12 : Nat) (v13 : Int32) (a14 : Nat) (a15 : Nat) (a16 : Nat) (v17 : Int32) (p0 : Int32) (hts_ : ts ≤ 600) : Met l yX7_isOnTape wsX7_isOnTape ({ frames := 0, cells := 0, slots := 0, locals := 0 }) (va_Pc [.ref h0, .int p0] (fun U => va_P (dC, dI) vwCl [(h0, .inr (7, [.ref a0, .int (nI ts), .ref a2, .ref a3, .int v4, .int v5, .ref a6, .ref a7, .ref a8, .int (nI v9), .int (nI v10), .ref a11, .ref a12, .int v13, .ref a14, .ref a15, .ref a16, .int v17]))] U.heap ∧ va_K (dC, dI) vwCl [] U)) (vp_Si (fun r => ((r = 1 ∧ (onT ts p0)) ∨ (r = 0 ∧ ¬ (onT ts p0))))) 0 0 (fun _ => False) := by
  refine Met.ofW (cc := cX7_isOnTape) (maxL := 2) (ret := (some .boolean)) (by decide) rfl ?_
  intro p e s m args below meth c s₁ B hml hv
  obtain ⟨rfl, hP, hK⟩ := hv
  have hx := B.exec
  have hb := B.bytes
  have hr := B.returns
  have hts := atoms_spec (ws := wsX7_isOnTape) B.pre
  have hown : s.vm.findClass RX7 = some m.cls := findClass_of_methodNamed B.named
  have hlocks := B.notSynchronized
  replace hP : va_P (dC, dI) vwCl [(h0, .inr (7, [.ref a0, .int (nI ts), .ref a2, .ref a3, .int v4, .int v5, .ref a6, .ref a7, .ref a8, .int (nI v9), .int (nI v10), .ref a11, .ref a12, .int v13, .ref a14, .ref a15, .ref a16, .int v17]))] s.heap := hP
  have hl := lv_entry ([.ref h0, .int p0]) (n := 2) (Nat.le_of_ble_eq_true rfl)
  rw [lg_entry_eq]
  generalize (lg_sl ([.ref h0, .int p0]) ++ List.replicate (2 - (lg_sl ([.ref h0, .int p0])).length) Slot.unset).toArray = ls at hl ⊢
  replace hl : lv_has ls 2 [(0, .ref h0), (1, .int p0)] := hl
  have hi_X7 : ∀ w ∈ wsX70, w ∈ wsX7_isOnTape := by decide +kernel
  have k_f13 := hts (.fieldLink RX7 13 "TongueTeller" "tapeSize" "I") (by decide +kernel)
  refine lv_iload_n hx hb dX7_isOnTape_0 rfl (lv_at hl 1 rfl) ?_
  refine lv_if_lt (tgt := 16) hx hb dX7_isOnTape_1 (by decide) (fun c_1 => ?_) (fun c_1 => ?_)
  · refine lv_iconst (v := 0) hx hb dX7_isOnTape_16 (by decide) ?_
    exact W.zret (v := 0) hx hb hr (rfl) (fun t ht hW => ⟨0, rfl, Or.inr ⟨rfl, by exact nin_lt2 (by omega) c_1⟩, ht⟩) (fun _ h => absurd h List.not_mem_nil) dX7_isOnTape_17
  · refine lv_iload_n hx hb dX7_isOnTape_4 rfl (lv_at hl 1 rfl) ?_
    refine lv_aload_n hx hb dX7_isOnTape_5 rfl (lv_at hl 0 rfl) ?_
    refine va_get (D := (dC, dI)) (ci := 7) (v := .int (nI ts)) (C := RX7) (T := TX7) (N := 18) hx hb hts hi_X7 hown hK hP 0 rfl rfl 1 (by decide) k_f13 (fun _ h9 => h9) rfl dX7_isOnTape_6 ?_
    refine lv_icmp_gt (tgt := 16) hx hb dX7_isOnTape_9 (by decide) (fun c_9 => ?_) (fun c_9 => ?_)
    · refine lv_iconst (v := 0) hx hb dX7_isOnTape_16 (by decide) ?_
      exact W.zret (v := 0) hx hb hr (rfl) (fun t ht hW => ⟨0, rfl, Or.inr ⟨rfl, by exact nin_gt (by omega) c_9⟩, ht⟩) (fun _ h => absurd h List.not_mem_nil) dX7_isOnTape_17
    · refine lv_iconst (v := 1) hx hb dX7_isOnTape_12 (by decide) ?_
      refine lv_goto (tgt := 17) hx hb dX7_isOnTape_13 (by decide) ?_
      exact W.zret (v := 1) hx hb hr (rfl) (fun t ht hW => ⟨1, rfl, Or.inl ⟨rfl, by exact in_le (by omega) c_1 c_9⟩, ht⟩) (fun _ h => absurd h List.not_mem_nil) dX7_isOnTape_17

set_option maxHeartbeats 4000000 in
set_option maxRecDepth 100000 in
theorem g_X7_isWord (l : Launch) (dC : Nat → ClassId) (dI : Nat → Nat → Nat) (h0 : Nat) (a0 : Nat) (ts : Nat) (a2 : Nat) (a3 : Nat) (v4 : Int32) (v5 : Int32) (a6 : Nat) (a7 : Nat) (a8 : Nat) (v9 : Nat) (v10 : Nat) (a11 : Nat) (a12 : Nat) (v13 : Int32) (a14 : Nat) (a15 : Nat) (a16 : Nat) (v17 : Int32) (e1_0 : Nat) (e1_1 : Nat) (e1_2 : Nat) (n1 : Nat) (w1 : Nat) (p0 : Int32) (hw : w1 ≤ 60) : Met l yX7_isWord wsX7_isWord ({ frames := 0, cells := 0, slots := 0, locals := 0 }) (va_Pc [.ref h0, .int p0] (fun U => va_P (dC, dI) vwCl [(h0, .inr (7, [.ref a0, .int (nI ts), .ref a2, .ref a3, .int v4, .int v5, .ref a6, .ref a7, .ref a8, .int (nI v9), .int (nI v10), .ref a11, .ref a12, .int v13, .ref a14, .ref a15, .ref a16, .int v17])), (a11, .inr (2, [.ref e1_0, .ref e1_1, .ref e1_2, .int (nI n1), .int (nI w1)]))] U.heap ∧ va_K (dC, dI) vwCl [] U)) (vp_Si (fun r => ((r = 1 ∧ (inT w1 p0)) ∨ (r = 0 ∧ ¬ (inT w1 p0))))) 0 0 (fun _ => False) := by
  refine Met.ofW (cc := cX7_isWord) (maxL := 2) (ret := (some .boolean)) (by decide) rfl ?_
  intro p e s m args below meth c s₁ B hml hv
  obtain ⟨rfl, hP, hK⟩ := hv
  have hx := B.exec
  have hb := B.bytes
  have hr := B.returns
  have hts := atoms_spec (ws := wsX7_isWord) B.pre
  have hown : s.vm.findClass RX7 = some m.cls := findClass_of_methodNamed B.named
  have hlocks := B.notSynchronized
  replace hP : va_P (dC, dI) vwCl [(h0, .inr (7, [.ref a0, .int (nI ts), .ref a2, .ref a3, .int v4, .int v5, .ref a6, .ref a7, .ref a8, .int (nI v9), .int (nI v10), .ref a11, .ref a12, .int v13, .ref a14, .ref a15, .ref a16, .int v17])), (a11, .inr (2, [.ref e1_0, .ref e1_1, .ref e1_2, .int (nI n1), .int (nI w1)]))] s.heap := hP
  have hl := lv_entry ([.ref h0, .int p0]) (n := 2) (Nat.le_of_ble_eq_true rfl)
  rw [lg_entry_eq]
  generalize (lg_sl ([.ref h0, .int p0]) ++ List.replicate (2 - (lg_sl ([.ref h0, .int p0])).length) Slot.unset).toArray = ls at hl ⊢
  replace hl : lv_has ls 2 [(0, .ref h0), (1, .int p0)] := hl
  have hi_X7 : ∀ w ∈ wsX70, w ∈ wsX7_isWord := by decide +kernel
  have k_f61 := hts (.fieldLink RX7 61 "TongueTeller" "theText" "LTongueTeller$Script;") (by decide +kernel)
  have hi_X2 : ∀ w ∈ wsX20, w ∈ wsX7_isWord := by decide +kernel
  have k_f247 := hts (.fieldLink RX7 247 "TongueTeller$Script" "words" "I") (by decide +kernel)
  refine lv_iload_n hx hb dX7_isWord_0 rfl (lv_at hl 1 rfl) ?_
  refine lv_if_lt (tgt := 19) hx hb dX7_isWord_1 (by decide) (fun c_1 => ?_) (fun c_1 => ?_)
  · refine lv_iconst (v := 0) hx hb dX7_isWord_19 (by decide) ?_
    exact W.zret (v := 0) hx hb hr (rfl) (fun t ht hW => ⟨0, rfl, Or.inr ⟨rfl, by exact nin_lt (by omega) c_1⟩, ht⟩) (fun _ h => absurd h List.not_mem_nil) dX7_isWord_20
  · refine lv_iload_n hx hb dX7_isWord_4 rfl (lv_at hl 1 rfl) ?_
    refine lv_aload_n hx hb dX7_isWord_5 rfl (lv_at hl 0 rfl) ?_
    refine va_get (D := (dC, dI)) (ci := 7) (v := .ref a11) (C := RX7) (T := TX7) (N := 18) hx hb hts hi_X7 hown hK hP 0 rfl rfl 11 (by decide) k_f61 (fun _ h9 => h9) rfl dX7_isWord_6 ?_
    refine va_get (D := (dC, dI)) (ci := 2) (v := .int (nI w1)) (C := RX2) (T := TX2) (N := 5) hx hb hts hi_X2 hown hK hP 1 rfl rfl 4 (by decide) k_f247 (fun _ h9 => h9) rfl dX7_isWord_9 ?_
    refine lv_icmp_ge (tgt := 19) hx hb dX7_isWord_12 (by decide) (fun c_12 => ?_) (fun c_12 => ?_)
    · refine lv_iconst (v := 0) hx hb dX7_isWord_19 (by decide) ?_
      exact W.zret (v := 0) hx hb hr (rfl) (fun t ht hW => ⟨0, rfl, Or.inr ⟨rfl, by exact nin_ge (by omega) c_12⟩, ht⟩) (fun _ h => absurd h List.not_mem_nil) dX7_isWord_20
    · refine lv_iconst (v := 1) hx hb dX7_isWord_15 (by decide) ?_
      refine lv_goto (tgt := 20) hx hb dX7_isWord_16 (by decide) ?_
      exact W.zret (v := 1) hx hb hr (rfl) (fun t ht hW => ⟨1, rfl, Or.inl ⟨rfl, by exact in_of (by omega) c_1 c_12⟩, ht⟩) (fun _ h => absurd h List.not_mem_nil) dX7_isWord_20

set_option maxHeartbeats 4000000 in
set_option maxRecDepth 100000 in
theorem g_X7_isSign (l : Launch) (dC : Nat → ClassId) (dI : Nat → Nat → Nat) (p0 : Int32) : Met l yX7_isSign wsX7_isSign ({ frames := 0, cells := 0, slots := 0, locals := 0 }) (va_Pc [.int p0] (fun _ => True)) (vp_Si (fun r => ((r = 1 ∧ (inT 28 p0)) ∨ (r = 0 ∧ ¬ (inT 28 p0))))) 0 0 (fun _ => False) := by
  refine Met.ofW (cc := cX7_isSign) (maxL := 1) (ret := (some .boolean)) (by decide) rfl ?_
  intro p e s m args below meth c s₁ B hml hv
  obtain ⟨rfl, -⟩ := hv
  have hx := B.exec
  have hb := B.bytes
  have hr := B.returns
  have hts := atoms_spec (ws := wsX7_isSign) B.pre
  have hown : s.vm.findClass RX7 = some m.cls := findClass_of_methodNamed B.named
  have hlocks := B.notSynchronized
  have hl := lv_entry ([.int p0]) (n := 1) (Nat.le_of_ble_eq_true rfl)
  rw [lg_entry_eq]
  generalize (lg_sl ([.int p0]) ++ List.replicate (1 - (lg_sl ([.int p0])).length) Slot.unset).toArray = ls at hl ⊢
  replace hl : lv_has ls 1 [(0, .int p0)] := hl
  refine lv_iload_n hx hb dX7_isSign_0 rfl (lv_at hl 0 rfl) ?_
  refine lv_if_lt (tgt := 14) hx hb dX7_isSign_1 (by decide) (fun c_1 => ?_) (fun c_1 => ?_)
  · refine lv_iconst (v := 0) hx hb dX7_isSign_14 (by decide) ?_
    exact W.zret (v := 0) hx hb hr (rfl) (fun t ht hW => ⟨0, rfl, Or.inr ⟨rfl, by exact nin_lt (by omega) c_1⟩, ht⟩) (fun _ h => absurd h List.not_mem_nil) dX7_isSign_15
  · refine lv_iload_n hx hb dX7_isSign_4 rfl (lv_at hl 0 rfl) ?_
    refine lv_bipush (v := 28) hx hb dX7_isSign_5 (by decide) ?_
    refine lv_icmp_ge (tgt := 14) hx hb dX7_isSign_7 (by decide) (fun c_7 => ?_) (fun c_7 => ?_)
    · refine lv_iconst (v := 0) hx hb dX7_isSign_14 (by decide) ?_
      exact W.zret (v := 0) hx hb hr (rfl) (fun t ht hW => ⟨0, rfl, Or.inr ⟨rfl, by exact nin_ge (z := 28) (by omega) c_7⟩, ht⟩) (fun _ h => absurd h List.not_mem_nil) dX7_isSign_15
    · refine lv_iconst (v := 1) hx hb dX7_isSign_10 (by decide) ?_
      refine lv_goto (tgt := 15) hx hb dX7_isSign_11 (by decide) ?_
      exact W.zret (v := 1) hx hb hr (rfl) (fun t ht hW => ⟨1, rfl, Or.inl ⟨rfl, by exact in_of (z := 28) (by omega) c_1 c_7⟩, ht⟩) (fun _ h => absurd h List.not_mem_nil) dX7_isSign_15

set_option maxHeartbeats 4000000 in
set_option maxRecDepth 100000 in
theorem g_X7_canPart (l : Launch) (dC : Nat → ClassId) (dI : Nat → Nat → Nat) (h0 : Nat) (a0 : Nat) (ts : Nat) (a2 : Nat) (a3 : Nat) (v4 : Int32) (v5 : Int32) (a6 : Nat) (a7 : Nat) (a8 : Nat) (v9 : Nat) (v10 : Nat) (a11 : Nat) (a12 : Nat) (v13 : Int32) (a14 : Nat) (a15 : Nat) (a16 : Nat) (v17 : Int32) (b0 : Nat) (z : Nat) (hz : z ≤ 8) : Met l yX7_canPart wsX7_canPart ({ frames := 0, cells := 0, slots := 0, locals := 0 }) (va_Pc [.ref h0] (fun U => va_P (dC, dI) vwCl [(h0, .inr (7, [.ref a0, .int (nI ts), .ref a2, .ref a3, .int v4, .int v5, .ref a6, .ref a7, .ref a8, .int (nI v9), .int (nI v10), .ref a11, .ref a12, .int v13, .ref a14, .ref a15, .ref a16, .int v17])), (a2, .inr (4, [.ref b0, .int (nI z)]))] U.heap ∧ va_K (dC, dI) vwCl [] U)) (vp_Si (fun r => ((r = 1 ∧ (¬ v13 = 0 ∧ 0 < z)) ∨ (r = 0 ∧ ¬ (¬ v13 = 0 ∧ 0 < z))))) 0 0 (fun _ => False) := by
  refine Met.ofW (cc := cX7_canPart) (maxL := 1) (ret := (some .boolean)) (by decide) rfl ?_
  intro p e s m args below meth c s₁ B hml hv
  obtain ⟨rfl, hP, hK⟩ := hv
  have hx := B.exec
  have hb := B.bytes
  have hr := B.returns
  have hts := atoms_spec (ws := wsX7_canPart) B.pre
  have hown : s.vm.findClass RX7 = some m.cls := findClass_of_methodNamed B.named
  have hlocks := B.notSynchronized
  replace hP : va_P (dC, dI) vwCl [(h0, .inr (7, [.ref a0, .int (nI ts), .ref a2, .ref a3, .int v4, .int v5, .ref a6, .ref a7, .ref a8, .int (nI v9), .int (nI v10), .ref a11, .ref a12, .int v13, .ref a14, .ref a15, .ref a16, .int v17])), (a2, .inr (4, [.ref b0, .int (nI z)]))] s.heap := hP
  have hl := lv_entry ([.ref h0]) (n := 1) (Nat.le_of_ble_eq_true rfl)
  rw [lg_entry_eq]
  generalize (lg_sl ([.ref h0]) ++ List.replicate (1 - (lg_sl ([.ref h0])).length) Slot.unset).toArray = ls at hl ⊢
  replace hl : lv_has ls 1 [(0, .ref h0)] := hl
  have hi_X7 : ∀ w ∈ wsX70, w ∈ wsX7_canPart := by decide +kernel
  have k_f68 := hts (.fieldLink RX7 68 "TongueTeller" "hasText" "Z") (by decide +kernel)
  have k_f20 := hts (.fieldLink RX7 20 "TongueTeller" "tongues" "LTongueTeller$Tongues;") (by decide +kernel)
  have hi_X4 : ∀ w ∈ wsX40, w ∈ wsX7_canPart := by decide +kernel
  have k_f99 := hts (.fieldLink RX7 99 "TongueTeller$Tongues" "size" "I") (by decide +kernel)
  refine lv_aload_n hx hb dX7_canPart_0 rfl (lv_at hl 0 rfl) ?_
  refine va_get (D := (dC, dI)) (ci := 7) (v := .int v13) (C := RX7) (T := TX7) (N := 18) hx hb hts hi_X7 hown hK hP 0 rfl rfl 13 (by decide) k_f68 (fun _ h9 => h9) rfl dX7_canPart_1 ?_
  refine lv_if_eq (tgt := 21) hx hb dX7_canPart_4 (by decide) (fun c_4 => ?_) (fun c_4 => ?_)
  · refine lv_iconst (v := 0) hx hb dX7_canPart_21 (by decide) ?_
    exact W.zret (v := 0) hx hb hr (rfl) (fun t ht hW => ⟨0, rfl, Or.inr ⟨rfl, by exact fun h => h.1 c_4⟩, ht⟩) (fun _ h => absurd h List.not_mem_nil) dX7_canPart_22
  · refine lv_aload_n hx hb dX7_canPart_7 rfl (lv_at hl 0 rfl) ?_
    refine va_get (D := (dC, dI)) (ci := 7) (v := .ref a2) (C := RX7) (T := TX7) (N := 18) hx hb hts hi_X7 hown hK hP 0 rfl rfl 2 (by decide) k_f20 (fun _ h9 => h9) rfl dX7_canPart_8 ?_
    refine va_get (D := (dC, dI)) (ci := 4) (v := .int (nI z)) (C := RX4) (T := TX4) (N := 2) hx hb hts hi_X4 hown hK hP 1 rfl rfl 1 (by decide) k_f99 (fun _ h9 => h9) rfl dX7_canPart_11 ?_
    refine lv_if_le (tgt := 21) hx hb dX7_canPart_14 (by decide) (fun c_14 => ?_) (fun c_14 => ?_)
    · have n_14 : z ≤ 0 := (nI_leI (a := z) (b := 0) (by omega) (by omega)).mp c_14
      refine lv_iconst (v := 0) hx hb dX7_canPart_21 (by decide) ?_
      exact W.zret (v := 0) hx hb hr (rfl) (fun t ht hW => ⟨0, rfl, Or.inr ⟨rfl, by exact fun h => absurd h.2 (by omega)⟩, ht⟩) (fun _ h => absurd h List.not_mem_nil) dX7_canPart_22
    · have n_14 : 0 < z := Nat.not_le.mp (fun h9 => c_14 ((nI_leI (a := z) (b := 0) (by omega) (by omega)).mpr h9))
      refine lv_iconst (v := 1) hx hb dX7_canPart_17 (by decide) ?_
      refine lv_goto (tgt := 22) hx hb dX7_canPart_18 (by decide) ?_
      exact W.zret (v := 1) hx hb hr (rfl) (fun t ht hW => ⟨1, rfl, Or.inl ⟨rfl, by exact ⟨c_4, n_14⟩⟩, ht⟩) (fun _ h => absurd h List.not_mem_nil) dX7_canPart_22

set_option maxHeartbeats 4000000 in
set_option maxRecDepth 100000 in
theorem g_X7_signOf (l : Launch) (dC : Nat → ClassId) (dI : Nat → Nat → Nat) (aa : Nat) (ha : aa < 256) : Met l yX7_signOf wsX7_signOf ({ frames := 0, cells := 0, slots := 0, locals := 0 }) (va_Pc [.int (nI aa)] (fun _ => True)) (vp_Si (fun r => r = nI (sgF aa))) 0 0 (fun _ => False) := by
  refine Met.ofW (cc := cX7_signOf) (maxL := 1) (ret := (some .int)) (by decide) rfl ?_
  intro p e s m args below meth c s₁ B hml hv
  obtain ⟨rfl, -⟩ := hv
  have hx := B.exec
  have hb := B.bytes
  have hr := B.returns
  have hts := atoms_spec (ws := wsX7_signOf) B.pre
  have hown : s.vm.findClass RX7 = some m.cls := findClass_of_methodNamed B.named
  have hlocks := B.notSynchronized
  have hl := lv_entry ([.int (nI aa)]) (n := 1) (Nat.le_of_ble_eq_true rfl)
  rw [lg_entry_eq]
  generalize (lg_sl ([.int (nI aa)]) ++ List.replicate (1 - (lg_sl ([.int (nI aa)])).length) Slot.unset).toArray = ls at hl ⊢
  replace hl : lv_has ls 1 [(0, .int (nI aa))] := hl
  refine lv_iload_n hx hb dX7_signOf_0 rfl (lv_at hl 0 rfl) ?_
  refine lv_bipush (v := 97) hx hb dX7_signOf_1 (by decide) ?_
  refine lv_icmp_lt (tgt := 17) hx hb dX7_signOf_3 (by decide) (fun c_3 => ?_) (fun c_3 => ?_)
  · have n_3 : aa < 97 := (nI_ltI (a := aa) (b := 97) (by omega) (by omega)).mp c_3
    refine lv_iload_n hx hb dX7_signOf_17 rfl (lv_at hl 0 rfl) ?_
    refine lv_bipush (v := 65) hx hb dX7_signOf_18 (by decide) ?_
    refine lv_icmp_lt (tgt := 34) hx hb dX7_signOf_20 (by decide) (fun c_20 => ?_) (fun c_20 => ?_)
    · have n_20 : aa < 65 := (nI_ltI (a := aa) (b := 65) (by omega) (by omega)).mp c_20
      refine lv_iload_n hx hb dX7_signOf_34 rfl (lv_at hl 0 rfl) ?_
      refine lv_bipush (v := 48) hx hb dX7_signOf_35 (by decide) ?_
      refine lv_icmp_lt (tgt := 49) hx hb dX7_signOf_37 (by decide) (fun c_37 => ?_) (fun c_37 => ?_)
      · have n_37 : aa < 48 := (nI_ltI (a := aa) (b := 48) (by omega) (by omega)).mp c_37
        refine lv_iload_n hx hb dX7_signOf_49 rfl (lv_at hl 0 rfl) ?_
        refine lv_bipush (v := 39) hx hb dX7_signOf_50 (by decide) ?_
        refine lv_icmp_ne (tgt := 60) hx hb dX7_signOf_52 (by decide) (fun c_52 => ?_) (fun c_52 => ?_)
        · have n_52 : aa ≠ 39 := fun h9 => c_52 ((nI_eq (a := aa) (b := 39) (by omega) (by omega)).mpr h9)
          refine lv_bipush (v := 29) hx hb dX7_signOf_60 (by decide) ?_
          exact W.iret (v := 29) hx hb hr (fun t ht hW => ⟨29, rfl, by first | (exfalso; omega) | (show 29 = nI (sgF aa); rw [show sgF aa = 29 by unfold sgF; repeat (first | rw [if_pos (by omega)] | rw [if_neg (by omega)])]; rfl), ht⟩) (fun _ h => absurd h List.not_mem_nil) dX7_signOf_62
        · have n_52 : aa = 39 := (nI_eq (a := aa) (b := 39) (by omega) (by omega)).mp c_52
          refine lv_bipush (v := 26) hx hb dX7_signOf_55 (by decide) ?_
          refine lv_goto (tgt := 62) hx hb dX7_signOf_57 (by decide) ?_
          exact W.iret (v := 26) hx hb hr (fun t ht hW => ⟨26, rfl, by first | (exfalso; omega) | (show 26 = nI (sgF aa); rw [show sgF aa = 26 by unfold sgF; repeat (first | rw [if_pos (by omega)] | rw [if_neg (by omega)])]; rfl), ht⟩) (fun _ h => absurd h List.not_mem_nil) dX7_signOf_62
      · have n_37 : 48 ≤ aa := Nat.not_lt.mp (fun h9 => c_37 ((nI_ltI (a := aa) (b := 48) (by omega) (by omega)).mpr h9))
        refine lv_iload_n hx hb dX7_signOf_40 rfl (lv_at hl 0 rfl) ?_
        refine lv_bipush (v := 57) hx hb dX7_signOf_41 (by decide) ?_
        refine lv_icmp_gt (tgt := 49) hx hb dX7_signOf_43 (by decide) (fun c_43 => ?_) (fun c_43 => ?_)
        · have n_43 : 57 < aa := (nI_ltI (a := 57) (b := aa) (by omega) (by omega)).mp c_43
          refine lv_iload_n hx hb dX7_signOf_49 rfl (lv_at hl 0 rfl) ?_
          refine lv_bipush (v := 39) hx hb dX7_signOf_50 (by decide) ?_
          refine lv_icmp_ne (tgt := 60) hx hb dX7_signOf_52 (by decide) (fun c_52 => ?_) (fun c_52 => ?_)
          · have n_52 : aa ≠ 39 := fun h9 => c_52 ((nI_eq (a := aa) (b := 39) (by omega) (by omega)).mpr h9)
            refine lv_bipush (v := 29) hx hb dX7_signOf_60 (by decide) ?_
            exact W.iret (v := 29) hx hb hr (fun t ht hW => ⟨29, rfl, by first | (exfalso; omega) | (show 29 = nI (sgF aa); rw [show sgF aa = 29 by unfold sgF; repeat (first | rw [if_pos (by omega)] | rw [if_neg (by omega)])]; rfl), ht⟩) (fun _ h => absurd h List.not_mem_nil) dX7_signOf_62
          · have n_52 : aa = 39 := (nI_eq (a := aa) (b := 39) (by omega) (by omega)).mp c_52
            refine lv_bipush (v := 26) hx hb dX7_signOf_55 (by decide) ?_
            refine lv_goto (tgt := 62) hx hb dX7_signOf_57 (by decide) ?_
            exact W.iret (v := 26) hx hb hr (fun t ht hW => ⟨26, rfl, by first | (exfalso; omega) | (show 26 = nI (sgF aa); rw [show sgF aa = 26 by unfold sgF; repeat (first | rw [if_pos (by omega)] | rw [if_neg (by omega)])]; rfl), ht⟩) (fun _ h => absurd h List.not_mem_nil) dX7_signOf_62
        · have n_43 : aa ≤ 57 := Nat.not_lt.mp (fun h9 => c_43 ((nI_ltI (a := 57) (b := aa) (by omega) (by omega)).mpr h9))
          refine lv_bipush (v := 28) hx hb dX7_signOf_46 (by decide) ?_
          exact W.iret (v := 28) hx hb hr (fun t ht hW => ⟨28, rfl, by first | (exfalso; omega) | (show 28 = nI (sgF aa); rw [show sgF aa = 28 by unfold sgF; repeat (first | rw [if_pos (by omega)] | rw [if_neg (by omega)])]; rfl), ht⟩) (fun _ h => absurd h List.not_mem_nil) dX7_signOf_48
    · have n_20 : 65 ≤ aa := Nat.not_lt.mp (fun h9 => c_20 ((nI_ltI (a := aa) (b := 65) (by omega) (by omega)).mpr h9))
      refine lv_iload_n hx hb dX7_signOf_23 rfl (lv_at hl 0 rfl) ?_
      refine lv_bipush (v := 90) hx hb dX7_signOf_24 (by decide) ?_
      refine lv_icmp_gt (tgt := 34) hx hb dX7_signOf_26 (by decide) (fun c_26 => ?_) (fun c_26 => ?_)
      · have n_26 : 90 < aa := (nI_ltI (a := 90) (b := aa) (by omega) (by omega)).mp c_26
        refine lv_iload_n hx hb dX7_signOf_34 rfl (lv_at hl 0 rfl) ?_
        refine lv_bipush (v := 48) hx hb dX7_signOf_35 (by decide) ?_
        refine lv_icmp_lt (tgt := 49) hx hb dX7_signOf_37 (by decide) (fun c_37 => ?_) (fun c_37 => ?_)
        · have n_37 : aa < 48 := (nI_ltI (a := aa) (b := 48) (by omega) (by omega)).mp c_37
          refine lv_iload_n hx hb dX7_signOf_49 rfl (lv_at hl 0 rfl) ?_
          refine lv_bipush (v := 39) hx hb dX7_signOf_50 (by decide) ?_
          refine lv_icmp_ne (tgt := 60) hx hb dX7_signOf_52 (by decide) (fun c_52 => ?_) (fun c_52 => ?_)
          · have n_52 : aa ≠ 39 := fun h9 => c_52 ((nI_eq (a := aa) (b := 39) (by omega) (by omega)).mpr h9)
            refine lv_bipush (v := 29) hx hb dX7_signOf_60 (by decide) ?_
            exact W.iret (v := 29) hx hb hr (fun t ht hW => ⟨29, rfl, by first | (exfalso; omega) | (show 29 = nI (sgF aa); rw [show sgF aa = 29 by unfold sgF; repeat (first | rw [if_pos (by omega)] | rw [if_neg (by omega)])]; rfl), ht⟩) (fun _ h => absurd h List.not_mem_nil) dX7_signOf_62
          · have n_52 : aa = 39 := (nI_eq (a := aa) (b := 39) (by omega) (by omega)).mp c_52
            refine lv_bipush (v := 26) hx hb dX7_signOf_55 (by decide) ?_
            refine lv_goto (tgt := 62) hx hb dX7_signOf_57 (by decide) ?_
            exact W.iret (v := 26) hx hb hr (fun t ht hW => ⟨26, rfl, by first | (exfalso; omega) | (show 26 = nI (sgF aa); rw [show sgF aa = 26 by unfold sgF; repeat (first | rw [if_pos (by omega)] | rw [if_neg (by omega)])]; rfl), ht⟩) (fun _ h => absurd h List.not_mem_nil) dX7_signOf_62
        · have n_37 : 48 ≤ aa := Nat.not_lt.mp (fun h9 => c_37 ((nI_ltI (a := aa) (b := 48) (by omega) (by omega)).mpr h9))
          refine lv_iload_n hx hb dX7_signOf_40 rfl (lv_at hl 0 rfl) ?_
          refine lv_bipush (v := 57) hx hb dX7_signOf_41 (by decide) ?_
          refine lv_icmp_gt (tgt := 49) hx hb dX7_signOf_43 (by decide) (fun c_43 => ?_) (fun c_43 => ?_)
          · have n_43 : 57 < aa := (nI_ltI (a := 57) (b := aa) (by omega) (by omega)).mp c_43
            refine lv_iload_n hx hb dX7_signOf_49 rfl (lv_at hl 0 rfl) ?_
            refine lv_bipush (v := 39) hx hb dX7_signOf_50 (by decide) ?_
            refine lv_icmp_ne (tgt := 60) hx hb dX7_signOf_52 (by decide) (fun c_52 => ?_) (fun c_52 => ?_)
            · have n_52 : aa ≠ 39 := fun h9 => c_52 ((nI_eq (a := aa) (b := 39) (by omega) (by omega)).mpr h9)
              refine lv_bipush (v := 29) hx hb dX7_signOf_60 (by decide) ?_
              exact W.iret (v := 29) hx hb hr (fun t ht hW => ⟨29, rfl, by first | (exfalso; omega) | (show 29 = nI (sgF aa); rw [show sgF aa = 29 by unfold sgF; repeat (first | rw [if_pos (by omega)] | rw [if_neg (by omega)])]; rfl), ht⟩) (fun _ h => absurd h List.not_mem_nil) dX7_signOf_62
            · have n_52 : aa = 39 := (nI_eq (a := aa) (b := 39) (by omega) (by omega)).mp c_52
              refine lv_bipush (v := 26) hx hb dX7_signOf_55 (by decide) ?_
              refine lv_goto (tgt := 62) hx hb dX7_signOf_57 (by decide) ?_
              exact W.iret (v := 26) hx hb hr (fun t ht hW => ⟨26, rfl, by first | (exfalso; omega) | (show 26 = nI (sgF aa); rw [show sgF aa = 26 by unfold sgF; repeat (first | rw [if_pos (by omega)] | rw [if_neg (by omega)])]; rfl), ht⟩) (fun _ h => absurd h List.not_mem_nil) dX7_signOf_62
          · have n_43 : aa ≤ 57 := Nat.not_lt.mp (fun h9 => c_43 ((nI_ltI (a := 57) (b := aa) (by omega) (by omega)).mpr h9))
            refine lv_bipush (v := 28) hx hb dX7_signOf_46 (by decide) ?_
            exact W.iret (v := 28) hx hb hr (fun t ht hW => ⟨28, rfl, by first | (exfalso; omega) | (show 28 = nI (sgF aa); rw [show sgF aa = 28 by unfold sgF; repeat (first | rw [if_pos (by omega)] | rw [if_neg (by omega)])]; rfl), ht⟩) (fun _ h => absurd h List.not_mem_nil) dX7_signOf_48
      · have n_26 : aa ≤ 90 := Nat.not_lt.mp (fun h9 => c_26 ((nI_ltI (a := 90) (b := aa) (by omega) (by omega)).mpr h9))
        refine lv_iload_n hx hb dX7_signOf_29 rfl (lv_at hl 0 rfl) ?_
        refine lv_bipush (v := 65) hx hb dX7_signOf_30 (by decide) ?_
        refine lv_isub hx hb dX7_signOf_32 ?_
        refine lv_topi (fun x_32 ex_32 => ?_)
        obtain rfl : nI (aa - 65) = x_32 := Eq.symm (ex_32.trans (pk_sub (a := aa) (b := 65) (by omega)))
        exact W.iret (v := nI (aa - 65)) hx hb hr (fun t ht hW => ⟨nI (aa - 65), rfl, by first | (exfalso; omega) | (show nI (aa - 65) = nI (sgF aa); rw [show sgF aa = aa - 65 by unfold sgF; repeat (first | rw [if_pos (by omega)] | rw [if_neg (by omega)])]), ht⟩) (fun _ h => absurd h List.not_mem_nil) dX7_signOf_33
  · have n_3 : 97 ≤ aa := Nat.not_lt.mp (fun h9 => c_3 ((nI_ltI (a := aa) (b := 97) (by omega) (by omega)).mpr h9))
    refine lv_iload_n hx hb dX7_signOf_6 rfl (lv_at hl 0 rfl) ?_
    refine lv_bipush (v := 122) hx hb dX7_signOf_7 (by decide) ?_
    refine lv_icmp_gt (tgt := 17) hx hb dX7_signOf_9 (by decide) (fun c_9 => ?_) (fun c_9 => ?_)
    · have n_9 : 122 < aa := (nI_ltI (a := 122) (b := aa) (by omega) (by omega)).mp c_9
      refine lv_iload_n hx hb dX7_signOf_17 rfl (lv_at hl 0 rfl) ?_
      refine lv_bipush (v := 65) hx hb dX7_signOf_18 (by decide) ?_
      refine lv_icmp_lt (tgt := 34) hx hb dX7_signOf_20 (by decide) (fun c_20 => ?_) (fun c_20 => ?_)
      · have n_20 : aa < 65 := (nI_ltI (a := aa) (b := 65) (by omega) (by omega)).mp c_20
        refine lv_iload_n hx hb dX7_signOf_34 rfl (lv_at hl 0 rfl) ?_
        refine lv_bipush (v := 48) hx hb dX7_signOf_35 (by decide) ?_
        refine lv_icmp_lt (tgt := 49) hx hb dX7_signOf_37 (by decide) (fun c_37 => ?_) (fun c_37 => ?_)
        · have n_37 : aa < 48 := (nI_ltI (a := aa) (b := 48) (by omega) (by omega)).mp c_37
          refine lv_iload_n hx hb dX7_signOf_49 rfl (lv_at hl 0 rfl) ?_
          refine lv_bipush (v := 39) hx hb dX7_signOf_50 (by decide) ?_
          refine lv_icmp_ne (tgt := 60) hx hb dX7_signOf_52 (by decide) (fun c_52 => ?_) (fun c_52 => ?_)
          · have n_52 : aa ≠ 39 := fun h9 => c_52 ((nI_eq (a := aa) (b := 39) (by omega) (by omega)).mpr h9)
            refine lv_bipush (v := 29) hx hb dX7_signOf_60 (by decide) ?_
            exact W.iret (v := 29) hx hb hr (fun t ht hW => ⟨29, rfl, by first | (exfalso; omega) | (show 29 = nI (sgF aa); rw [show sgF aa = 29 by unfold sgF; repeat (first | rw [if_pos (by omega)] | rw [if_neg (by omega)])]; rfl), ht⟩) (fun _ h => absurd h List.not_mem_nil) dX7_signOf_62
          · have n_52 : aa = 39 := (nI_eq (a := aa) (b := 39) (by omega) (by omega)).mp c_52
            refine lv_bipush (v := 26) hx hb dX7_signOf_55 (by decide) ?_
            refine lv_goto (tgt := 62) hx hb dX7_signOf_57 (by decide) ?_
            exact W.iret (v := 26) hx hb hr (fun t ht hW => ⟨26, rfl, by first | (exfalso; omega) | (show 26 = nI (sgF aa); rw [show sgF aa = 26 by unfold sgF; repeat (first | rw [if_pos (by omega)] | rw [if_neg (by omega)])]; rfl), ht⟩) (fun _ h => absurd h List.not_mem_nil) dX7_signOf_62
        · have n_37 : 48 ≤ aa := Nat.not_lt.mp (fun h9 => c_37 ((nI_ltI (a := aa) (b := 48) (by omega) (by omega)).mpr h9))
          refine lv_iload_n hx hb dX7_signOf_40 rfl (lv_at hl 0 rfl) ?_
          refine lv_bipush (v := 57) hx hb dX7_signOf_41 (by decide) ?_
          refine lv_icmp_gt (tgt := 49) hx hb dX7_signOf_43 (by decide) (fun c_43 => ?_) (fun c_43 => ?_)
          · have n_43 : 57 < aa := (nI_ltI (a := 57) (b := aa) (by omega) (by omega)).mp c_43
            refine lv_iload_n hx hb dX7_signOf_49 rfl (lv_at hl 0 rfl) ?_
            refine lv_bipush (v := 39) hx hb dX7_signOf_50 (by decide) ?_
            refine lv_icmp_ne (tgt := 60) hx hb dX7_signOf_52 (by decide) (fun c_52 => ?_) (fun c_52 => ?_)
            · have n_52 : aa ≠ 39 := fun h9 => c_52 ((nI_eq (a := aa) (b := 39) (by omega) (by omega)).mpr h9)
              refine lv_bipush (v := 29) hx hb dX7_signOf_60 (by decide) ?_
              exact W.iret (v := 29) hx hb hr (fun t ht hW => ⟨29, rfl, by first | (exfalso; omega) | (show 29 = nI (sgF aa); rw [show sgF aa = 29 by unfold sgF; repeat (first | rw [if_pos (by omega)] | rw [if_neg (by omega)])]; rfl), ht⟩) (fun _ h => absurd h List.not_mem_nil) dX7_signOf_62
            · have n_52 : aa = 39 := (nI_eq (a := aa) (b := 39) (by omega) (by omega)).mp c_52
              refine lv_bipush (v := 26) hx hb dX7_signOf_55 (by decide) ?_
              refine lv_goto (tgt := 62) hx hb dX7_signOf_57 (by decide) ?_
              exact W.iret (v := 26) hx hb hr (fun t ht hW => ⟨26, rfl, by first | (exfalso; omega) | (show 26 = nI (sgF aa); rw [show sgF aa = 26 by unfold sgF; repeat (first | rw [if_pos (by omega)] | rw [if_neg (by omega)])]; rfl), ht⟩) (fun _ h => absurd h List.not_mem_nil) dX7_signOf_62
          · have n_43 : aa ≤ 57 := Nat.not_lt.mp (fun h9 => c_43 ((nI_ltI (a := 57) (b := aa) (by omega) (by omega)).mpr h9))
            refine lv_bipush (v := 28) hx hb dX7_signOf_46 (by decide) ?_
            exact W.iret (v := 28) hx hb hr (fun t ht hW => ⟨28, rfl, by first | (exfalso; omega) | (show 28 = nI (sgF aa); rw [show sgF aa = 28 by unfold sgF; repeat (first | rw [if_pos (by omega)] | rw [if_neg (by omega)])]; rfl), ht⟩) (fun _ h => absurd h List.not_mem_nil) dX7_signOf_48
      · have n_20 : 65 ≤ aa := Nat.not_lt.mp (fun h9 => c_20 ((nI_ltI (a := aa) (b := 65) (by omega) (by omega)).mpr h9))
        refine lv_iload_n hx hb dX7_signOf_23 rfl (lv_at hl 0 rfl) ?_
        refine lv_bipush (v := 90) hx hb dX7_signOf_24 (by decide) ?_
        refine lv_icmp_gt (tgt := 34) hx hb dX7_signOf_26 (by decide) (fun c_26 => ?_) (fun c_26 => ?_)
        · have n_26 : 90 < aa := (nI_ltI (a := 90) (b := aa) (by omega) (by omega)).mp c_26
          refine lv_iload_n hx hb dX7_signOf_34 rfl (lv_at hl 0 rfl) ?_
          refine lv_bipush (v := 48) hx hb dX7_signOf_35 (by decide) ?_
          refine lv_icmp_lt (tgt := 49) hx hb dX7_signOf_37 (by decide) (fun c_37 => ?_) (fun c_37 => ?_)
          · have n_37 : aa < 48 := (nI_ltI (a := aa) (b := 48) (by omega) (by omega)).mp c_37
            refine lv_iload_n hx hb dX7_signOf_49 rfl (lv_at hl 0 rfl) ?_
            refine lv_bipush (v := 39) hx hb dX7_signOf_50 (by decide) ?_
            refine lv_icmp_ne (tgt := 60) hx hb dX7_signOf_52 (by decide) (fun c_52 => ?_) (fun c_52 => ?_)
            · have n_52 : aa ≠ 39 := fun h9 => c_52 ((nI_eq (a := aa) (b := 39) (by omega) (by omega)).mpr h9)
              refine lv_bipush (v := 29) hx hb dX7_signOf_60 (by decide) ?_
              exact W.iret (v := 29) hx hb hr (fun t ht hW => ⟨29, rfl, by first | (exfalso; omega) | (show 29 = nI (sgF aa); rw [show sgF aa = 29 by unfold sgF; repeat (first | rw [if_pos (by omega)] | rw [if_neg (by omega)])]; rfl), ht⟩) (fun _ h => absurd h List.not_mem_nil) dX7_signOf_62
            · have n_52 : aa = 39 := (nI_eq (a := aa) (b := 39) (by omega) (by omega)).mp c_52
              refine lv_bipush (v := 26) hx hb dX7_signOf_55 (by decide) ?_
              refine lv_goto (tgt := 62) hx hb dX7_signOf_57 (by decide) ?_
              exact W.iret (v := 26) hx hb hr (fun t ht hW => ⟨26, rfl, by first | (exfalso; omega) | (show 26 = nI (sgF aa); rw [show sgF aa = 26 by unfold sgF; repeat (first | rw [if_pos (by omega)] | rw [if_neg (by omega)])]; rfl), ht⟩) (fun _ h => absurd h List.not_mem_nil) dX7_signOf_62
          · have n_37 : 48 ≤ aa := Nat.not_lt.mp (fun h9 => c_37 ((nI_ltI (a := aa) (b := 48) (by omega) (by omega)).mpr h9))
            refine lv_iload_n hx hb dX7_signOf_40 rfl (lv_at hl 0 rfl) ?_
            refine lv_bipush (v := 57) hx hb dX7_signOf_41 (by decide) ?_
            refine lv_icmp_gt (tgt := 49) hx hb dX7_signOf_43 (by decide) (fun c_43 => ?_) (fun c_43 => ?_)
            · have n_43 : 57 < aa := (nI_ltI (a := 57) (b := aa) (by omega) (by omega)).mp c_43
              refine lv_iload_n hx hb dX7_signOf_49 rfl (lv_at hl 0 rfl) ?_
              refine lv_bipush (v := 39) hx hb dX7_signOf_50 (by decide) ?_
              refine lv_icmp_ne (tgt := 60) hx hb dX7_signOf_52 (by decide) (fun c_52 => ?_) (fun c_52 => ?_)
              · have n_52 : aa ≠ 39 := fun h9 => c_52 ((nI_eq (a := aa) (b := 39) (by omega) (by omega)).mpr h9)
                refine lv_bipush (v := 29) hx hb dX7_signOf_60 (by decide) ?_
                exact W.iret (v := 29) hx hb hr (fun t ht hW => ⟨29, rfl, by first | (exfalso; omega) | (show 29 = nI (sgF aa); rw [show sgF aa = 29 by unfold sgF; repeat (first | rw [if_pos (by omega)] | rw [if_neg (by omega)])]; rfl), ht⟩) (fun _ h => absurd h List.not_mem_nil) dX7_signOf_62
              · have n_52 : aa = 39 := (nI_eq (a := aa) (b := 39) (by omega) (by omega)).mp c_52
                refine lv_bipush (v := 26) hx hb dX7_signOf_55 (by decide) ?_
                refine lv_goto (tgt := 62) hx hb dX7_signOf_57 (by decide) ?_
                exact W.iret (v := 26) hx hb hr (fun t ht hW => ⟨26, rfl, by first | (exfalso; omega) | (show 26 = nI (sgF aa); rw [show sgF aa = 26 by unfold sgF; repeat (first | rw [if_pos (by omega)] | rw [if_neg (by omega)])]; rfl), ht⟩) (fun _ h => absurd h List.not_mem_nil) dX7_signOf_62
            · have n_43 : aa ≤ 57 := Nat.not_lt.mp (fun h9 => c_43 ((nI_ltI (a := 57) (b := aa) (by omega) (by omega)).mpr h9))
              refine lv_bipush (v := 28) hx hb dX7_signOf_46 (by decide) ?_
              exact W.iret (v := 28) hx hb hr (fun t ht hW => ⟨28, rfl, by first | (exfalso; omega) | (show 28 = nI (sgF aa); rw [show sgF aa = 28 by unfold sgF; repeat (first | rw [if_pos (by omega)] | rw [if_neg (by omega)])]; rfl), ht⟩) (fun _ h => absurd h List.not_mem_nil) dX7_signOf_48
        · have n_26 : aa ≤ 90 := Nat.not_lt.mp (fun h9 => c_26 ((nI_ltI (a := 90) (b := aa) (by omega) (by omega)).mpr h9))
          refine lv_iload_n hx hb dX7_signOf_29 rfl (lv_at hl 0 rfl) ?_
          refine lv_bipush (v := 65) hx hb dX7_signOf_30 (by decide) ?_
          refine lv_isub hx hb dX7_signOf_32 ?_
          refine lv_topi (fun x_32 ex_32 => ?_)
          obtain rfl : nI (aa - 65) = x_32 := Eq.symm (ex_32.trans (pk_sub (a := aa) (b := 65) (by omega)))
          exact W.iret (v := nI (aa - 65)) hx hb hr (fun t ht hW => ⟨nI (aa - 65), rfl, by first | (exfalso; omega) | (show nI (aa - 65) = nI (sgF aa); rw [show sgF aa = aa - 65 by unfold sgF; repeat (first | rw [if_pos (by omega)] | rw [if_neg (by omega)])]), ht⟩) (fun _ h => absurd h List.not_mem_nil) dX7_signOf_33
    · have n_9 : aa ≤ 122 := Nat.not_lt.mp (fun h9 => c_9 ((nI_ltI (a := 122) (b := aa) (by omega) (by omega)).mpr h9))
      refine lv_iload_n hx hb dX7_signOf_12 rfl (lv_at hl 0 rfl) ?_
      refine lv_bipush (v := 97) hx hb dX7_signOf_13 (by decide) ?_
      refine lv_isub hx hb dX7_signOf_15 ?_
      refine lv_topi (fun x_15 ex_15 => ?_)
      obtain rfl : nI (aa - 97) = x_15 := Eq.symm (ex_15.trans (pk_sub (a := aa) (b := 97) (by omega)))
      exact W.iret (v := nI (aa - 97)) hx hb hr (fun t ht hW => ⟨nI (aa - 97), rfl, by first | (exfalso; omega) | (show nI (aa - 97) = nI (sgF aa); rw [show sgF aa = aa - 97 by unfold sgF; repeat (first | rw [if_pos (by omega)] | rw [if_neg (by omega)])]), ht⟩) (fun _ h => absurd h List.not_mem_nil) dX7_signOf_16

set_option maxHeartbeats 4000000 in
set_option maxRecDepth 100000 in
theorem g_X7_putBytes (l : Launch) (dC : Nat → ClassId) (dI : Nat → Nat → Nat) (h0 : Nat) (a0 : Nat) (ts : Nat) (a2 : Nat) (a3 : Nat) (v4 : Int32) (v5 : Int32) (a6 : Nat) (a7 : Nat) (a8 : Nat) (v9 : Nat) (v10 : Nat) (a11 : Nat) (a12 : Nat) (v13 : Int32) (a14 : Nat) (a15 : Nat) (a16 : Nat) (v17 : Int32) (kt : ClassId) (gt : Nat → Nat) (p0 : Int32) (sz : Nat) (hts_ : ts + 4 ≤ 600) (hgt : ∀ j, sgn (gt j)) : Met l yX7_putBytes wsX7_putBytes ({ frames := 1, cells := 0, slots := 0, locals := 20 }) (va_Pc [.ref h0, .int p0] (fun U => U.heap.size = sz ∧ va_P (dC, dI) vwCl [(h0, .inr (7, [.ref a0, .int (nI ts), .ref a2, .ref a3, .int v4, .int v5, .ref a6, .ref a7, .ref a8, .int (nI v9), .int (nI v10), .ref a11, .ref a12, .int v13, .ref a14, .ref a15, .ref a16, .int v17])), (a0, .inl (kt, 600, .inl (nR gt)))] U.heap ∧ va_K (dC, dI) vwCl [(kt, .byte)] U ∧ va_D (fun _ => True) [(h0, .inr (7, [.ref a0, .int (nI ts), .ref a2, .ref a3, .int v4, .int v5, .ref a6, .ref a7, .ref a8, .int (nI v9), .int (nI v10), .ref a11, .ref a12, .int v13, .ref a14, .ref a15, .ref a16, .int v17])), (a0, .inl (kt, 600, .inl (nR gt)))])) (va_Qv (fun (u : Nat → Nat) => match u with | go => (∀ j, sgn (go j)) ∧ (go = pb4 gt ts p0)) (fun (u : Nat → Nat) (t : State) => match u with | go => va_P (dC, dI) vwCl [(h0, .inr (7, [.ref a0, .int (nI (ts + 1 + 1 + 1 + 1)), .ref a2, .ref a3, .int v4, .int v5, .ref a6, .ref a7, .ref a8, .int (nI v9), .int (nI v10), .ref a11, .ref a12, .int v13, .ref a14, .ref a15, .ref a16, .int v17])), (a0, .inl (kt, 600, .inl (nR go)))] t.heap ∧ va_D (va_A [(h0, .inr (7, [.ref a0, .int (nI ts), .ref a2, .ref a3, .int v4, .int v5, .ref a6, .ref a7, .ref a8, .int (nI v9), .int (nI v10), .ref a11, .ref a12, .int v13, .ref a14, .ref a15, .ref a16, .int v17])), (a0, .inl (kt, 600, .inl (nR gt)))] sz) [(h0, .inr (7, [.ref a0, .int (nI (ts + 1 + 1 + 1 + 1)), .ref a2, .ref a3, .int v4, .int v5, .ref a6, .ref a7, .ref a8, .int (nI v9), .int (nI v10), .ref a11, .ref a12, .int v13, .ref a14, .ref a15, .ref a16, .int v17])), (a0, .inl (kt, 600, .inl (nR go)))]) (va_A [(h0, .inr (7, [.ref a0, .int (nI ts), .ref a2, .ref a3, .int v4, .int v5, .ref a6, .ref a7, .ref a8, .int (nI v9), .int (nI v10), .ref a11, .ref a12, .int v13, .ref a14, .ref a15, .ref a16, .int v17])), (a0, .inl (kt, 600, .inl (nR gt)))] sz)) 0 0 (va_A [(h0, .inr (7, [.ref a0, .int (nI ts), .ref a2, .ref a3, .int v4, .int v5, .ref a6, .ref a7, .ref a8, .int (nI v9), .int (nI v10), .ref a11, .ref a12, .int v13, .ref a14, .ref a15, .ref a16, .int v17])), (a0, .inl (kt, 600, .inl (nR gt)))] sz) := by
  refine Met.ofW (cc := cX7_putBytes) (maxL := 3) (ret := none) (by decide) rfl ?_
  intro p e s m args below meth c s₁ B hml hv
  obtain ⟨rfl, hsz, hP, hK, hD0⟩ := hv
  have hx := B.exec
  have hb := B.bytes
  have hr := B.returns
  have hts := atoms_spec (ws := wsX7_putBytes) B.pre
  have hown : s.vm.findClass RX7 = some m.cls := findClass_of_methodNamed B.named
  have hlocks := B.notSynchronized
  subst hsz
  have hD := hD0.self (sz := s.heap.size)
  clear hD0
  generalize hAe : va_A [(h0, .inr (7, [.ref a0, .int (nI ts), .ref a2, .ref a3, .int v4, .int v5, .ref a6, .ref a7, .ref a8, .int (nI v9), .int (nI v10), .ref a11, .ref a12, .int v13, .ref a14, .ref a15, .ref a16, .int v17])), (a0, .inl (kt, 600, .inl (nR gt)))] s.heap.size = A at hD ⊢
  have hA : ∀ q : Nat, s.heap.size ≤ q → A q := fun q h => by rw [← hAe]; exact Or.inr h
  clear hAe
  have hS : va_S A s.heap s.heap [] := va_S.rf
  replace hP : va_P (dC, dI) vwCl [(h0, .inr (7, [.ref a0, .int (nI ts), .ref a2, .ref a3, .int v4, .int v5, .ref a6, .ref a7, .ref a8, .int (nI v9), .int (nI v10), .ref a11, .ref a12, .int v13, .ref a14, .ref a15, .ref a16, .int v17])), (a0, .inl (kt, 600, .inl (nR gt)))] s.heap := hP
  have hl := lv_entry ([.ref h0, .int p0]) (n := 3) (Nat.le_of_ble_eq_true rfl)
  rw [lg_entry_eq]
  generalize (lg_sl ([.ref h0, .int p0]) ++ List.replicate (3 - (lg_sl ([.ref h0, .int p0])).length) Slot.unset).toArray = ls at hl ⊢
  replace hl : lv_has ls 3 [(0, .ref h0), (1, .int p0)] := hl
  have hi_X7 : ∀ w ∈ wsX70, w ∈ wsX7_putBytes := by decide +kernel
  have k_f9 := hts (.fieldLink RX7 9 "TongueTeller" "tape" "[B") (by decide +kernel)
  have k_f13 := hts (.fieldLink RX7 13 "TongueTeller" "tapeSize" "I") (by decide +kernel)
  refine lv_bipush (v := 24) hx hb dX7_putBytes_0 (by decide) ?_
  refine lv_istore_n (lv' := [(2, .int 24), (0, .ref h0), (1, .int p0)]) hx hb dX7_putBytes_2 rfl hl (by decide) rfl (fun ls hl => ?_)
  refine lv_iload_n hx hb dX7_putBytes_3 rfl (lv_at hl 0 rfl) ?_
  refine lv_if_lt (tgt := 43) hx hb dX7_putBytes_4 (by decide) (fun c_4 => ?_) (fun c_4 => ?_)
  · exact absurd c_4 (by decide)
  refine lv_aload_n hx hb dX7_putBytes_7 rfl (lv_at hl 1 rfl) ?_
  refine va_get (D := (dC, dI)) (ci := 7) (v := .ref a0) (C := RX7) (T := TX7) (N := 18) hx hb hts hi_X7 hown hK hP 0 rfl rfl 0 (by decide) k_f9 (fun _ h9 => h9) rfl dX7_putBytes_8 ?_
  refine lv_aload_n hx hb dX7_putBytes_11 rfl (lv_at hl 1 rfl) ?_
  refine va_get (D := (dC, dI)) (ci := 7) (v := .int (nI ts)) (C := RX7) (T := TX7) (N := 18) hx hb hts hi_X7 hown hK hP 0 rfl rfl 1 (by decide) k_f13 (fun _ h9 => h9) rfl dX7_putBytes_12 ?_
  refine lv_iload_n hx hb dX7_putBytes_15 rfl (lv_at hl 2 rfl) ?_
  refine lv_iload_n hx hb dX7_putBytes_16 rfl (lv_at hl 0 rfl) ?_
  refine lv_iushr hx hb dX7_putBytes_17 rfl ?_
  refine lv_sipush (v := 255) hx hb dX7_putBytes_18 (by decide) ?_
  refine lv_iand hx hb dX7_putBytes_21 ?_
  refine lv_topi (fun x_21 ex_21 => ?_)
  obtain rfl : nI (((p0.toUInt32 >>> (Int32.toUInt32 24 &&& Int32.toUInt32 31)).toInt32).toBitVec.toNat % 256) = x_21 := Eq.symm (ex_21.trans (pk_and _ 8 (by decide)))
  refine vp_callSi (W.runS (As := [.int (nI (((p0.toUInt32 >>> (Int32.toUInt32 24 &&& Int32.toUInt32 31)).toInt32).toBitVec.toNat % 256))]) (rest := [.int (nI ts), .ref a0]) ⟨hx, hb, hml, hown, hts⟩ (g_X7_signOf l dC dI (((p0.toUInt32 >>> (Int32.toUInt32 24 &&& Int32.toUInt32 31)).toInt32).toBitVec.toNat % 256) (Nat.mod_lt _ (by decide))) (va_cwS 1 hts gX7_putBytes_X7_signOf rfl rfl rfl (by decide +kernel) ⟨Nat.le_of_ble_eq_true rfl, Nat.le_of_ble_eq_true rfl⟩) ⟨fun a U g mk q => q, fun U hU hW => ⟨rfl, trivial⟩⟩ rfl rfl hl.1 rfl (lv_room (Nat.le_of_ble_eq_true rfl)) dX7_putBytes_22 ⟨Nat.le_of_ble_eq_true rfl, Nat.le_of_ble_eq_true rfl⟩) (fun r_22 hw_22 => ?_)
  obtain rfl : nI (sgF (((p0.toUInt32 >>> (Int32.toUInt32 24 &&& Int32.toUInt32 31)).toInt32).toBitVec.toNat % 256)) = r_22 := Eq.symm hw_22
  have hs_22 := sgF_ok (((p0.toUInt32 >>> (Int32.toUInt32 24 &&& Int32.toUInt32 31)).toInt32).toBitVec.toNat % 256)
  refine lv_i2b hx hb dX7_putBytes_25 rfl ?_
  refine lv_topi (fun x_25 ex_25 => ?_)
  obtain rfl : nI (sgF (((p0.toUInt32 >>> (Int32.toUInt32 24 &&& Int32.toUInt32 31)).toInt32).toBitVec.toNat % 256)) = x_25 := Eq.symm (ex_25.trans (i2b_nI (by omega)))
  refine va_bast hx hb hK hP hD hS 1 0 rfl rfl (i := nI ts) (x := nI (sgF (((p0.toUInt32 >>> (Int32.toUInt32 24 &&& Int32.toUInt32 31)).toInt32).toBitVec.toNat % 256))) (vp_in_nI (by omega) (by omega)) dX7_putBytes_26 (fun H locs hP hD hS => ?_)
  have er_26 : upd (nR gt) (nI ts : Int32).toNatClampNeg (vp_nar .byte (nI (sgF (((p0.toUInt32 >>> (Int32.toUInt32 24 &&& Int32.toUInt32 31)).toInt32).toBitVec.toNat % 256)))) = nR (updN gt ts (sgF (((p0.toUInt32 >>> (Int32.toUInt32 24 &&& Int32.toUInt32 31)).toInt32).toBitVec.toNat % 256))) := upd_nRb (by omega) (by omega)
  replace hP : va_P (dC, dI) vwCl [(h0, .inr (7, [.ref a0, .int (nI ts), .ref a2, .ref a3, .int v4, .int v5, .ref a6, .ref a7, .ref a8, .int (nI v9), .int (nI v10), .ref a11, .ref a12, .int v13, .ref a14, .ref a15, .ref a16, .int v17])), (a0, .inl (kt, 600, .inl (nR (updN gt ts (sgF (((p0.toUInt32 >>> (Int32.toUInt32 24 &&& Int32.toUInt32 31)).toInt32).toBitVec.toNat % 256))))))] H := by rw [← er_26]; exact hP
  replace hD : va_D A [(h0, .inr (7, [.ref a0, .int (nI ts), .ref a2, .ref a3, .int v4, .int v5, .ref a6, .ref a7, .ref a8, .int (nI v9), .int (nI v10), .ref a11, .ref a12, .int v13, .ref a14, .ref a15, .ref a16, .int v17])), (a0, .inl (kt, 600, .inl (nR (updN gt ts (sgF (((p0.toUInt32 >>> (Int32.toUInt32 24 &&& Int32.toUInt32 31)).toInt32).toBitVec.toNat % 256))))))] := by rw [← er_26]; exact hD
  refine lv_aload_n hx hb dX7_putBytes_27 rfl (lv_at hl 1 rfl) ?_
  refine lv_dup hx hb dX7_putBytes_28 rfl ?_
  refine va_get (D := (dC, dI)) (ci := 7) (v := .int (nI ts)) (C := RX7) (T := TX7) (N := 18) hx hb hts hi_X7 hown hK hP 0 rfl rfl 1 (by decide) k_f13 (fun _ h9 => h9) rfl dX7_putBytes_29 ?_
  refine lv_iconst (v := 1) hx hb dX7_putBytes_32 (by decide) ?_
  refine lv_iadd hx hb dX7_putBytes_33 ?_
  refine lv_topi (fun x_33 ex_33 => ?_)
  obtain rfl : nI (ts + 1) = x_33 := Eq.symm (ex_33.trans (nI_add ts 1))
  refine va_put (D := (dC, dI)) (ci := 7) (v := .int (nI (ts + 1))) (ty := .int) (C := RX7) (T := TX7) (N := 18) hx hb hts hi_X7 tyX7 tyX7_ok nmX7 hown hK hP hD hS 0 rfl rfl 1 (by decide) k_f13 (fun _ h9 => h9) rfl (by decide +kernel) rfl rfl (Nat.le_of_ble_eq_true rfl) dX7_putBytes_34 (fun H locs hP hD hS => ?_)
  replace hP : va_P (dC, dI) vwCl [(h0, .inr (7, [.ref a0, .int (nI (ts + 1)), .ref a2, .ref a3, .int v4, .int v5, .ref a6, .ref a7, .ref a8, .int (nI v9), .int (nI v10), .ref a11, .ref a12, .int v13, .ref a14, .ref a15, .ref a16, .int v17])), (a0, .inl (kt, 600, .inl (nR (updN gt ts (sgF (((p0.toUInt32 >>> (Int32.toUInt32 24 &&& Int32.toUInt32 31)).toInt32).toBitVec.toNat % 256))))))] H := hP
  replace hD : va_D A [(h0, .inr (7, [.ref a0, .int (nI (ts + 1)), .ref a2, .ref a3, .int v4, .int v5, .ref a6, .ref a7, .ref a8, .int (nI v9), .int (nI v10), .ref a11, .ref a12, .int v13, .ref a14, .ref a15, .ref a16, .int v17])), (a0, .inl (kt, 600, .inl (nR (updN gt ts (sgF (((p0.toUInt32 >>> (Int32.toUInt32 24 &&& Int32.toUInt32 31)).toInt32).toBitVec.toNat % 256))))))] := hD
  refine lv_iinc (v := 16) (lv' := [(2, .int 16), (0, .ref h0), (1, .int p0)]) hx hb dX7_putBytes_37 hl (k := 0) rfl (by decide) (by decide) rfl (fun ls hl => ?_)
  refine lv_goto (tgt := 3) hx hb dX7_putBytes_40 (by decide) ?_
  refine lv_iload_n hx hb dX7_putBytes_3 rfl (lv_at hl 0 rfl) ?_
  refine lv_if_lt (tgt := 43) hx hb dX7_putBytes_4 (by decide) (fun c_4_2 => ?_) (fun c_4_2 => ?_)
  · exact absurd c_4_2 (by decide)
  refine lv_aload_n hx hb dX7_putBytes_7 rfl (lv_at hl 1 rfl) ?_
  refine va_get (D := (dC, dI)) (ci := 7) (v := .ref a0) (C := RX7) (T := TX7) (N := 18) hx hb hts hi_X7 hown hK hP 0 rfl rfl 0 (by decide) k_f9 (fun _ h9 => h9) rfl dX7_putBytes_8 ?_
  refine lv_aload_n hx hb dX7_putBytes_11 rfl (lv_at hl 1 rfl) ?_
  refine va_get (D := (dC, dI)) (ci := 7) (v := .int (nI (ts + 1))) (C := RX7) (T := TX7) (N := 18) hx hb hts hi_X7 hown hK hP 0 rfl rfl 1 (by decide) k_f13 (fun _ h9 => h9) rfl dX7_putBytes_12 ?_
  refine lv_iload_n hx hb dX7_putBytes_15 rfl (lv_at hl 2 rfl) ?_
  refine lv_iload_n hx hb dX7_putBytes_16 rfl (lv_at hl 0 rfl) ?_
  refine lv_iushr hx hb dX7_putBytes_17 rfl ?_
  refine lv_sipush (v := 255) hx hb dX7_putBytes_18 (by decide) ?_
  refine lv_iand hx hb dX7_putBytes_21 ?_
  refine lv_topi (fun x_21_2 ex_21_2 => ?_)
  obtain rfl : nI (((p0.toUInt32 >>> (Int32.toUInt32 16 &&& Int32.toUInt32 31)).toInt32).toBitVec.toNat % 256) = x_21_2 := Eq.symm (ex_21_2.trans (pk_and _ 8 (by decide)))
  refine vp_callSi (W.runS (As := [.int (nI (((p0.toUInt32 >>> (Int32.toUInt32 16 &&& Int32.toUInt32 31)).toInt32).toBitVec.toNat % 256))]) (rest := [.int (nI (ts + 1)), .ref a0]) ⟨hx, hb, hml, hown, hts⟩ (g_X7_signOf l dC dI (((p0.toUInt32 >>> (Int32.toUInt32 16 &&& Int32.toUInt32 31)).toInt32).toBitVec.toNat % 256) (Nat.mod_lt _ (by decide))) (va_cwS 1 hts gX7_putBytes_X7_signOf rfl rfl rfl (by decide +kernel) ⟨Nat.le_of_ble_eq_true rfl, Nat.le_of_ble_eq_true rfl⟩) ⟨fun a U g mk q => q, fun U hU hW => ⟨rfl, trivial⟩⟩ rfl rfl hl.1 rfl (lv_room (Nat.le_of_ble_eq_true rfl)) dX7_putBytes_22 ⟨Nat.le_of_ble_eq_true rfl, Nat.le_of_ble_eq_true rfl⟩) (fun r_22_2 hw_22_2 => ?_)
  obtain rfl : nI (sgF (((p0.toUInt32 >>> (Int32.toUInt32 16 &&& Int32.toUInt32 31)).toInt32).toBitVec.toNat % 256)) = r_22_2 := Eq.symm hw_22_2
  have hs_22_2 := sgF_ok (((p0.toUInt32 >>> (Int32.toUInt32 16 &&& Int32.toUInt32 31)).toInt32).toBitVec.toNat % 256)
  refine lv_i2b hx hb dX7_putBytes_25 rfl ?_
  refine lv_topi (fun x_25_2 ex_25_2 => ?_)
  obtain rfl : nI (sgF (((p0.toUInt32 >>> (Int32.toUInt32 16 &&& Int32.toUInt32 31)).toInt32).toBitVec.toNat % 256)) = x_25_2 := Eq.symm (ex_25_2.trans (i2b_nI (by omega)))
  refine va_bast hx hb hK hP hD hS 1 0 rfl rfl (i := nI (ts + 1)) (x := nI (sgF (((p0.toUInt32 >>> (Int32.toUInt32 16 &&& Int32.toUInt32 31)).toInt32).toBitVec.toNat % 256))) (vp_in_nI (by omega) (by omega)) dX7_putBytes_26 (fun H locs hP hD hS => ?_)
  have er_26_2 : upd (nR (updN gt ts (sgF (((p0.toUInt32 >>> (Int32.toUInt32 24 &&& Int32.toUInt32 31)).toInt32).toBitVec.toNat % 256)))) (nI (ts + 1) : Int32).toNatClampNeg (vp_nar .byte (nI (sgF (((p0.toUInt32 >>> (Int32.toUInt32 16 &&& Int32.toUInt32 31)).toInt32).toBitVec.toNat % 256)))) = nR (updN (updN gt ts (sgF (((p0.toUInt32 >>> (Int32.toUInt32 24 &&& Int32.toUInt32 31)).toInt32).toBitVec.toNat % 256))) (ts + 1) (sgF (((p0.toUInt32 >>> (Int32.toUInt32 16 &&& Int32.toUInt32 31)).toInt32).toBitVec.toNat % 256))) := upd_nRb (by omega) (by omega)
  replace hP : va_P (dC, dI) vwCl [(h0, .inr (7, [.ref a0, .int (nI (ts + 1)), .ref a2, .ref a3, .int v4, .int v5, .ref a6, .ref a7, .ref a8, .int (nI v9), .int (nI v10), .ref a11, .ref a12, .int v13, .ref a14, .ref a15, .ref a16, .int v17])), (a0, .inl (kt, 600, .inl (nR (updN (updN gt ts (sgF (((p0.toUInt32 >>> (Int32.toUInt32 24 &&& Int32.toUInt32 31)).toInt32).toBitVec.toNat % 256))) (ts + 1) (sgF (((p0.toUInt32 >>> (Int32.toUInt32 16 &&& Int32.toUInt32 31)).toInt32).toBitVec.toNat % 256))))))] H := by rw [← er_26_2]; exact hP
  replace hD : va_D A [(h0, .inr (7, [.ref a0, .int (nI (ts + 1)), .ref a2, .ref a3, .int v4, .int v5, .ref a6, .ref a7, .ref a8, .int (nI v9), .int (nI v10), .ref a11, .ref a12, .int v13, .ref a14, .ref a15, .ref a16, .int v17])), (a0, .inl (kt, 600, .inl (nR (updN (updN gt ts (sgF (((p0.toUInt32 >>> (Int32.toUInt32 24 &&& Int32.toUInt32 31)).toInt32).toBitVec.toNat % 256))) (ts + 1) (sgF (((p0.toUInt32 >>> (Int32.toUInt32 16 &&& Int32.toUInt32 31)).toInt32).toBitVec.toNat % 256))))))] := by rw [← er_26_2]; exact hD
  refine lv_aload_n hx hb dX7_putBytes_27 rfl (lv_at hl 1 rfl) ?_
  refine lv_dup hx hb dX7_putBytes_28 rfl ?_
  refine va_get (D := (dC, dI)) (ci := 7) (v := .int (nI (ts + 1))) (C := RX7) (T := TX7) (N := 18) hx hb hts hi_X7 hown hK hP 0 rfl rfl 1 (by decide) k_f13 (fun _ h9 => h9) rfl dX7_putBytes_29 ?_
  refine lv_iconst (v := 1) hx hb dX7_putBytes_32 (by decide) ?_
  refine lv_iadd hx hb dX7_putBytes_33 ?_
  refine lv_topi (fun x_33_2 ex_33_2 => ?_)
  obtain rfl : nI (ts + 1 + 1) = x_33_2 := Eq.symm (ex_33_2.trans (nI_add (ts + 1) 1))
  refine va_put (D := (dC, dI)) (ci := 7) (v := .int (nI (ts + 1 + 1))) (ty := .int) (C := RX7) (T := TX7) (N := 18) hx hb hts hi_X7 tyX7 tyX7_ok nmX7 hown hK hP hD hS 0 rfl rfl 1 (by decide) k_f13 (fun _ h9 => h9) rfl (by decide +kernel) rfl rfl (Nat.le_of_ble_eq_true rfl) dX7_putBytes_34 (fun H locs hP hD hS => ?_)
  replace hP : va_P (dC, dI) vwCl [(h0, .inr (7, [.ref a0, .int (nI (ts + 1 + 1)), .ref a2, .ref a3, .int v4, .int v5, .ref a6, .ref a7, .ref a8, .int (nI v9), .int (nI v10), .ref a11, .ref a12, .int v13, .ref a14, .ref a15, .ref a16, .int v17])), (a0, .inl (kt, 600, .inl (nR (updN (updN gt ts (sgF (((p0.toUInt32 >>> (Int32.toUInt32 24 &&& Int32.toUInt32 31)).toInt32).toBitVec.toNat % 256))) (ts + 1) (sgF (((p0.toUInt32 >>> (Int32.toUInt32 16 &&& Int32.toUInt32 31)).toInt32).toBitVec.toNat % 256))))))] H := hP
  replace hD : va_D A [(h0, .inr (7, [.ref a0, .int (nI (ts + 1 + 1)), .ref a2, .ref a3, .int v4, .int v5, .ref a6, .ref a7, .ref a8, .int (nI v9), .int (nI v10), .ref a11, .ref a12, .int v13, .ref a14, .ref a15, .ref a16, .int v17])), (a0, .inl (kt, 600, .inl (nR (updN (updN gt ts (sgF (((p0.toUInt32 >>> (Int32.toUInt32 24 &&& Int32.toUInt32 31)).toInt32).toBitVec.toNat % 256))) (ts + 1) (sgF (((p0.toUInt32 >>> (Int32.toUInt32 16 &&& Int32.toUInt32 31)).toInt32).toBitVec.toNat % 256))))))] := hD
  refine lv_iinc (v := 8) (lv' := [(2, .int 8), (0, .ref h0), (1, .int p0)]) hx hb dX7_putBytes_37 hl (k := 0) rfl (by decide) (by decide) rfl (fun ls hl => ?_)
  refine lv_goto (tgt := 3) hx hb dX7_putBytes_40 (by decide) ?_
  refine lv_iload_n hx hb dX7_putBytes_3 rfl (lv_at hl 0 rfl) ?_
  refine lv_if_lt (tgt := 43) hx hb dX7_putBytes_4 (by decide) (fun c_4_3 => ?_) (fun c_4_3 => ?_)
  · exact absurd c_4_3 (by decide)
  refine lv_aload_n hx hb dX7_putBytes_7 rfl (lv_at hl 1 rfl) ?_
  refine va_get (D := (dC, dI)) (ci := 7) (v := .ref a0) (C := RX7) (T := TX7) (N := 18) hx hb hts hi_X7 hown hK hP 0 rfl rfl 0 (by decide) k_f9 (fun _ h9 => h9) rfl dX7_putBytes_8 ?_
  refine lv_aload_n hx hb dX7_putBytes_11 rfl (lv_at hl 1 rfl) ?_
  refine va_get (D := (dC, dI)) (ci := 7) (v := .int (nI (ts + 1 + 1))) (C := RX7) (T := TX7) (N := 18) hx hb hts hi_X7 hown hK hP 0 rfl rfl 1 (by decide) k_f13 (fun _ h9 => h9) rfl dX7_putBytes_12 ?_
  refine lv_iload_n hx hb dX7_putBytes_15 rfl (lv_at hl 2 rfl) ?_
  refine lv_iload_n hx hb dX7_putBytes_16 rfl (lv_at hl 0 rfl) ?_
  refine lv_iushr hx hb dX7_putBytes_17 rfl ?_
  refine lv_sipush (v := 255) hx hb dX7_putBytes_18 (by decide) ?_
  refine lv_iand hx hb dX7_putBytes_21 ?_
  refine lv_topi (fun x_21_3 ex_21_3 => ?_)
  obtain rfl : nI (((p0.toUInt32 >>> (Int32.toUInt32 8 &&& Int32.toUInt32 31)).toInt32).toBitVec.toNat % 256) = x_21_3 := Eq.symm (ex_21_3.trans (pk_and _ 8 (by decide)))
  refine vp_callSi (W.runS (As := [.int (nI (((p0.toUInt32 >>> (Int32.toUInt32 8 &&& Int32.toUInt32 31)).toInt32).toBitVec.toNat % 256))]) (rest := [.int (nI (ts + 1 + 1)), .ref a0]) ⟨hx, hb, hml, hown, hts⟩ (g_X7_signOf l dC dI (((p0.toUInt32 >>> (Int32.toUInt32 8 &&& Int32.toUInt32 31)).toInt32).toBitVec.toNat % 256) (Nat.mod_lt _ (by decide))) (va_cwS 1 hts gX7_putBytes_X7_signOf rfl rfl rfl (by decide +kernel) ⟨Nat.le_of_ble_eq_true rfl, Nat.le_of_ble_eq_true rfl⟩) ⟨fun a U g mk q => q, fun U hU hW => ⟨rfl, trivial⟩⟩ rfl rfl hl.1 rfl (lv_room (Nat.le_of_ble_eq_true rfl)) dX7_putBytes_22 ⟨Nat.le_of_ble_eq_true rfl, Nat.le_of_ble_eq_true rfl⟩) (fun r_22_3 hw_22_3 => ?_)
  obtain rfl : nI (sgF (((p0.toUInt32 >>> (Int32.toUInt32 8 &&& Int32.toUInt32 31)).toInt32).toBitVec.toNat % 256)) = r_22_3 := Eq.symm hw_22_3
  have hs_22_3 := sgF_ok (((p0.toUInt32 >>> (Int32.toUInt32 8 &&& Int32.toUInt32 31)).toInt32).toBitVec.toNat % 256)
  refine lv_i2b hx hb dX7_putBytes_25 rfl ?_
  refine lv_topi (fun x_25_3 ex_25_3 => ?_)
  obtain rfl : nI (sgF (((p0.toUInt32 >>> (Int32.toUInt32 8 &&& Int32.toUInt32 31)).toInt32).toBitVec.toNat % 256)) = x_25_3 := Eq.symm (ex_25_3.trans (i2b_nI (by omega)))
  refine va_bast hx hb hK hP hD hS 1 0 rfl rfl (i := nI (ts + 1 + 1)) (x := nI (sgF (((p0.toUInt32 >>> (Int32.toUInt32 8 &&& Int32.toUInt32 31)).toInt32).toBitVec.toNat % 256))) (vp_in_nI (by omega) (by omega)) dX7_putBytes_26 (fun H locs hP hD hS => ?_)
  have er_26_3 : upd (nR (updN (updN gt ts (sgF (((p0.toUInt32 >>> (Int32.toUInt32 24 &&& Int32.toUInt32 31)).toInt32).toBitVec.toNat % 256))) (ts + 1) (sgF (((p0.toUInt32 >>> (Int32.toUInt32 16 &&& Int32.toUInt32 31)).toInt32).toBitVec.toNat % 256)))) (nI (ts + 1 + 1) : Int32).toNatClampNeg (vp_nar .byte (nI (sgF (((p0.toUInt32 >>> (Int32.toUInt32 8 &&& Int32.toUInt32 31)).toInt32).toBitVec.toNat % 256)))) = nR (updN (updN (updN gt ts (sgF (((p0.toUInt32 >>> (Int32.toUInt32 24 &&& Int32.toUInt32 31)).toInt32).toBitVec.toNat % 256))) (ts + 1) (sgF (((p0.toUInt32 >>> (Int32.toUInt32 16 &&& Int32.toUInt32 31)).toInt32).toBitVec.toNat % 256))) (ts + 1 + 1) (sgF (((p0.toUInt32 >>> (Int32.toUInt32 8 &&& Int32.toUInt32 31)).toInt32).toBitVec.toNat % 256))) := upd_nRb (by omega) (by omega)
  replace hP : va_P (dC, dI) vwCl [(h0, .inr (7, [.ref a0, .int (nI (ts + 1 + 1)), .ref a2, .ref a3, .int v4, .int v5, .ref a6, .ref a7, .ref a8, .int (nI v9), .int (nI v10), .ref a11, .ref a12, .int v13, .ref a14, .ref a15, .ref a16, .int v17])), (a0, .inl (kt, 600, .inl (nR (updN (updN (updN gt ts (sgF (((p0.toUInt32 >>> (Int32.toUInt32 24 &&& Int32.toUInt32 31)).toInt32).toBitVec.toNat % 256))) (ts + 1) (sgF (((p0.toUInt32 >>> (Int32.toUInt32 16 &&& Int32.toUInt32 31)).toInt32).toBitVec.toNat % 256))) (ts + 1 + 1) (sgF (((p0.toUInt32 >>> (Int32.toUInt32 8 &&& Int32.toUInt32 31)).toInt32).toBitVec.toNat % 256))))))] H := by rw [← er_26_3]; exact hP
  replace hD : va_D A [(h0, .inr (7, [.ref a0, .int (nI (ts + 1 + 1)), .ref a2, .ref a3, .int v4, .int v5, .ref a6, .ref a7, .ref a8, .int (nI v9), .int (nI v10), .ref a11, .ref a12, .int v13, .ref a14, .ref a15, .ref a16, .int v17])), (a0, .inl (kt, 600, .inl (nR (updN (updN (updN gt ts (sgF (((p0.toUInt32 >>> (Int32.toUInt32 24 &&& Int32.toUInt32 31)).toInt32).toBitVec.toNat % 256))) (ts + 1) (sgF (((p0.toUInt32 >>> (Int32.toUInt32 16 &&& Int32.toUInt32 31)).toInt32).toBitVec.toNat % 256))) (ts + 1 + 1) (sgF (((p0.toUInt32 >>> (Int32.toUInt32 8 &&& Int32.toUInt32 31)).toInt32).toBitVec.toNat % 256))))))] := by rw [← er_26_3]; exact hD
  refine lv_aload_n hx hb dX7_putBytes_27 rfl (lv_at hl 1 rfl) ?_
  refine lv_dup hx hb dX7_putBytes_28 rfl ?_
  refine va_get (D := (dC, dI)) (ci := 7) (v := .int (nI (ts + 1 + 1))) (C := RX7) (T := TX7) (N := 18) hx hb hts hi_X7 hown hK hP 0 rfl rfl 1 (by decide) k_f13 (fun _ h9 => h9) rfl dX7_putBytes_29 ?_
  refine lv_iconst (v := 1) hx hb dX7_putBytes_32 (by decide) ?_
  refine lv_iadd hx hb dX7_putBytes_33 ?_
  refine lv_topi (fun x_33_3 ex_33_3 => ?_)
  obtain rfl : nI (ts + 1 + 1 + 1) = x_33_3 := Eq.symm (ex_33_3.trans (nI_add (ts + 1 + 1) 1))
  refine va_put (D := (dC, dI)) (ci := 7) (v := .int (nI (ts + 1 + 1 + 1))) (ty := .int) (C := RX7) (T := TX7) (N := 18) hx hb hts hi_X7 tyX7 tyX7_ok nmX7 hown hK hP hD hS 0 rfl rfl 1 (by decide) k_f13 (fun _ h9 => h9) rfl (by decide +kernel) rfl rfl (Nat.le_of_ble_eq_true rfl) dX7_putBytes_34 (fun H locs hP hD hS => ?_)
  replace hP : va_P (dC, dI) vwCl [(h0, .inr (7, [.ref a0, .int (nI (ts + 1 + 1 + 1)), .ref a2, .ref a3, .int v4, .int v5, .ref a6, .ref a7, .ref a8, .int (nI v9), .int (nI v10), .ref a11, .ref a12, .int v13, .ref a14, .ref a15, .ref a16, .int v17])), (a0, .inl (kt, 600, .inl (nR (updN (updN (updN gt ts (sgF (((p0.toUInt32 >>> (Int32.toUInt32 24 &&& Int32.toUInt32 31)).toInt32).toBitVec.toNat % 256))) (ts + 1) (sgF (((p0.toUInt32 >>> (Int32.toUInt32 16 &&& Int32.toUInt32 31)).toInt32).toBitVec.toNat % 256))) (ts + 1 + 1) (sgF (((p0.toUInt32 >>> (Int32.toUInt32 8 &&& Int32.toUInt32 31)).toInt32).toBitVec.toNat % 256))))))] H := hP
  replace hD : va_D A [(h0, .inr (7, [.ref a0, .int (nI (ts + 1 + 1 + 1)), .ref a2, .ref a3, .int v4, .int v5, .ref a6, .ref a7, .ref a8, .int (nI v9), .int (nI v10), .ref a11, .ref a12, .int v13, .ref a14, .ref a15, .ref a16, .int v17])), (a0, .inl (kt, 600, .inl (nR (updN (updN (updN gt ts (sgF (((p0.toUInt32 >>> (Int32.toUInt32 24 &&& Int32.toUInt32 31)).toInt32).toBitVec.toNat % 256))) (ts + 1) (sgF (((p0.toUInt32 >>> (Int32.toUInt32 16 &&& Int32.toUInt32 31)).toInt32).toBitVec.toNat % 256))) (ts + 1 + 1) (sgF (((p0.toUInt32 >>> (Int32.toUInt32 8 &&& Int32.toUInt32 31)).toInt32).toBitVec.toNat % 256))))))] := hD
  refine lv_iinc (v := 0) (lv' := [(2, .int 0), (0, .ref h0), (1, .int p0)]) hx hb dX7_putBytes_37 hl (k := 0) rfl (by decide) (by decide) rfl (fun ls hl => ?_)
  refine lv_goto (tgt := 3) hx hb dX7_putBytes_40 (by decide) ?_
  refine lv_iload_n hx hb dX7_putBytes_3 rfl (lv_at hl 0 rfl) ?_
  refine lv_if_lt (tgt := 43) hx hb dX7_putBytes_4 (by decide) (fun c_4_4 => ?_) (fun c_4_4 => ?_)
  · exact absurd c_4_4 (by decide)
  refine lv_aload_n hx hb dX7_putBytes_7 rfl (lv_at hl 1 rfl) ?_
  refine va_get (D := (dC, dI)) (ci := 7) (v := .ref a0) (C := RX7) (T := TX7) (N := 18) hx hb hts hi_X7 hown hK hP 0 rfl rfl 0 (by decide) k_f9 (fun _ h9 => h9) rfl dX7_putBytes_8 ?_
  refine lv_aload_n hx hb dX7_putBytes_11 rfl (lv_at hl 1 rfl) ?_
  refine va_get (D := (dC, dI)) (ci := 7) (v := .int (nI (ts + 1 + 1 + 1))) (C := RX7) (T := TX7) (N := 18) hx hb hts hi_X7 hown hK hP 0 rfl rfl 1 (by decide) k_f13 (fun _ h9 => h9) rfl dX7_putBytes_12 ?_
  refine lv_iload_n hx hb dX7_putBytes_15 rfl (lv_at hl 2 rfl) ?_
  refine lv_iload_n hx hb dX7_putBytes_16 rfl (lv_at hl 0 rfl) ?_
  refine lv_iushr hx hb dX7_putBytes_17 rfl ?_
  refine lv_sipush (v := 255) hx hb dX7_putBytes_18 (by decide) ?_
  refine lv_iand hx hb dX7_putBytes_21 ?_
  refine lv_topi (fun x_21_4 ex_21_4 => ?_)
  obtain rfl : nI (((p0.toUInt32 >>> (Int32.toUInt32 0 &&& Int32.toUInt32 31)).toInt32).toBitVec.toNat % 256) = x_21_4 := Eq.symm (ex_21_4.trans (pk_and _ 8 (by decide)))
  refine vp_callSi (W.runS (As := [.int (nI (((p0.toUInt32 >>> (Int32.toUInt32 0 &&& Int32.toUInt32 31)).toInt32).toBitVec.toNat % 256))]) (rest := [.int (nI (ts + 1 + 1 + 1)), .ref a0]) ⟨hx, hb, hml, hown, hts⟩ (g_X7_signOf l dC dI (((p0.toUInt32 >>> (Int32.toUInt32 0 &&& Int32.toUInt32 31)).toInt32).toBitVec.toNat % 256) (Nat.mod_lt _ (by decide))) (va_cwS 1 hts gX7_putBytes_X7_signOf rfl rfl rfl (by decide +kernel) ⟨Nat.le_of_ble_eq_true rfl, Nat.le_of_ble_eq_true rfl⟩) ⟨fun a U g mk q => q, fun U hU hW => ⟨rfl, trivial⟩⟩ rfl rfl hl.1 rfl (lv_room (Nat.le_of_ble_eq_true rfl)) dX7_putBytes_22 ⟨Nat.le_of_ble_eq_true rfl, Nat.le_of_ble_eq_true rfl⟩) (fun r_22_4 hw_22_4 => ?_)
  obtain rfl : nI (sgF (((p0.toUInt32 >>> (Int32.toUInt32 0 &&& Int32.toUInt32 31)).toInt32).toBitVec.toNat % 256)) = r_22_4 := Eq.symm hw_22_4
  have hs_22_4 := sgF_ok (((p0.toUInt32 >>> (Int32.toUInt32 0 &&& Int32.toUInt32 31)).toInt32).toBitVec.toNat % 256)
  refine lv_i2b hx hb dX7_putBytes_25 rfl ?_
  refine lv_topi (fun x_25_4 ex_25_4 => ?_)
  obtain rfl : nI (sgF (((p0.toUInt32 >>> (Int32.toUInt32 0 &&& Int32.toUInt32 31)).toInt32).toBitVec.toNat % 256)) = x_25_4 := Eq.symm (ex_25_4.trans (i2b_nI (by omega)))
  refine va_bast hx hb hK hP hD hS 1 0 rfl rfl (i := nI (ts + 1 + 1 + 1)) (x := nI (sgF (((p0.toUInt32 >>> (Int32.toUInt32 0 &&& Int32.toUInt32 31)).toInt32).toBitVec.toNat % 256))) (vp_in_nI (by omega) (by omega)) dX7_putBytes_26 (fun H locs hP hD hS => ?_)
  have er_26_4 : upd (nR (updN (updN (updN gt ts (sgF (((p0.toUInt32 >>> (Int32.toUInt32 24 &&& Int32.toUInt32 31)).toInt32).toBitVec.toNat % 256))) (ts + 1) (sgF (((p0.toUInt32 >>> (Int32.toUInt32 16 &&& Int32.toUInt32 31)).toInt32).toBitVec.toNat % 256))) (ts + 1 + 1) (sgF (((p0.toUInt32 >>> (Int32.toUInt32 8 &&& Int32.toUInt32 31)).toInt32).toBitVec.toNat % 256)))) (nI (ts + 1 + 1 + 1) : Int32).toNatClampNeg (vp_nar .byte (nI (sgF (((p0.toUInt32 >>> (Int32.toUInt32 0 &&& Int32.toUInt32 31)).toInt32).toBitVec.toNat % 256)))) = nR (updN (updN (updN (updN gt ts (sgF (((p0.toUInt32 >>> (Int32.toUInt32 24 &&& Int32.toUInt32 31)).toInt32).toBitVec.toNat % 256))) (ts + 1) (sgF (((p0.toUInt32 >>> (Int32.toUInt32 16 &&& Int32.toUInt32 31)).toInt32).toBitVec.toNat % 256))) (ts + 1 + 1) (sgF (((p0.toUInt32 >>> (Int32.toUInt32 8 &&& Int32.toUInt32 31)).toInt32).toBitVec.toNat % 256))) (ts + 1 + 1 + 1) (sgF (((p0.toUInt32 >>> (Int32.toUInt32 0 &&& Int32.toUInt32 31)).toInt32).toBitVec.toNat % 256))) := upd_nRb (by omega) (by omega)
  replace hP : va_P (dC, dI) vwCl [(h0, .inr (7, [.ref a0, .int (nI (ts + 1 + 1 + 1)), .ref a2, .ref a3, .int v4, .int v5, .ref a6, .ref a7, .ref a8, .int (nI v9), .int (nI v10), .ref a11, .ref a12, .int v13, .ref a14, .ref a15, .ref a16, .int v17])), (a0, .inl (kt, 600, .inl (nR (updN (updN (updN (updN gt ts (sgF (((p0.toUInt32 >>> (Int32.toUInt32 24 &&& Int32.toUInt32 31)).toInt32).toBitVec.toNat % 256))) (ts + 1) (sgF (((p0.toUInt32 >>> (Int32.toUInt32 16 &&& Int32.toUInt32 31)).toInt32).toBitVec.toNat % 256))) (ts + 1 + 1) (sgF (((p0.toUInt32 >>> (Int32.toUInt32 8 &&& Int32.toUInt32 31)).toInt32).toBitVec.toNat % 256))) (ts + 1 + 1 + 1) (sgF (((p0.toUInt32 >>> (Int32.toUInt32 0 &&& Int32.toUInt32 31)).toInt32).toBitVec.toNat % 256))))))] H := by rw [← er_26_4]; exact hP
  replace hD : va_D A [(h0, .inr (7, [.ref a0, .int (nI (ts + 1 + 1 + 1)), .ref a2, .ref a3, .int v4, .int v5, .ref a6, .ref a7, .ref a8, .int (nI v9), .int (nI v10), .ref a11, .ref a12, .int v13, .ref a14, .ref a15, .ref a16, .int v17])), (a0, .inl (kt, 600, .inl (nR (updN (updN (updN (updN gt ts (sgF (((p0.toUInt32 >>> (Int32.toUInt32 24 &&& Int32.toUInt32 31)).toInt32).toBitVec.toNat % 256))) (ts + 1) (sgF (((p0.toUInt32 >>> (Int32.toUInt32 16 &&& Int32.toUInt32 31)).toInt32).toBitVec.toNat % 256))) (ts + 1 + 1) (sgF (((p0.toUInt32 >>> (Int32.toUInt32 8 &&& Int32.toUInt32 31)).toInt32).toBitVec.toNat % 256))) (ts + 1 + 1 + 1) (sgF (((p0.toUInt32 >>> (Int32.toUInt32 0 &&& Int32.toUInt32 31)).toInt32).toBitVec.toNat % 256))))))] := by rw [← er_26_4]; exact hD
  refine lv_aload_n hx hb dX7_putBytes_27 rfl (lv_at hl 1 rfl) ?_
  refine lv_dup hx hb dX7_putBytes_28 rfl ?_
  refine va_get (D := (dC, dI)) (ci := 7) (v := .int (nI (ts + 1 + 1 + 1))) (C := RX7) (T := TX7) (N := 18) hx hb hts hi_X7 hown hK hP 0 rfl rfl 1 (by decide) k_f13 (fun _ h9 => h9) rfl dX7_putBytes_29 ?_
  refine lv_iconst (v := 1) hx hb dX7_putBytes_32 (by decide) ?_
  refine lv_iadd hx hb dX7_putBytes_33 ?_
  refine lv_topi (fun x_33_4 ex_33_4 => ?_)
  obtain rfl : nI (ts + 1 + 1 + 1 + 1) = x_33_4 := Eq.symm (ex_33_4.trans (nI_add (ts + 1 + 1 + 1) 1))
  refine va_put (D := (dC, dI)) (ci := 7) (v := .int (nI (ts + 1 + 1 + 1 + 1))) (ty := .int) (C := RX7) (T := TX7) (N := 18) hx hb hts hi_X7 tyX7 tyX7_ok nmX7 hown hK hP hD hS 0 rfl rfl 1 (by decide) k_f13 (fun _ h9 => h9) rfl (by decide +kernel) rfl rfl (Nat.le_of_ble_eq_true rfl) dX7_putBytes_34 (fun H locs hP hD hS => ?_)
  replace hP : va_P (dC, dI) vwCl [(h0, .inr (7, [.ref a0, .int (nI (ts + 1 + 1 + 1 + 1)), .ref a2, .ref a3, .int v4, .int v5, .ref a6, .ref a7, .ref a8, .int (nI v9), .int (nI v10), .ref a11, .ref a12, .int v13, .ref a14, .ref a15, .ref a16, .int v17])), (a0, .inl (kt, 600, .inl (nR (updN (updN (updN (updN gt ts (sgF (((p0.toUInt32 >>> (Int32.toUInt32 24 &&& Int32.toUInt32 31)).toInt32).toBitVec.toNat % 256))) (ts + 1) (sgF (((p0.toUInt32 >>> (Int32.toUInt32 16 &&& Int32.toUInt32 31)).toInt32).toBitVec.toNat % 256))) (ts + 1 + 1) (sgF (((p0.toUInt32 >>> (Int32.toUInt32 8 &&& Int32.toUInt32 31)).toInt32).toBitVec.toNat % 256))) (ts + 1 + 1 + 1) (sgF (((p0.toUInt32 >>> (Int32.toUInt32 0 &&& Int32.toUInt32 31)).toInt32).toBitVec.toNat % 256))))))] H := hP
  replace hD : va_D A [(h0, .inr (7, [.ref a0, .int (nI (ts + 1 + 1 + 1 + 1)), .ref a2, .ref a3, .int v4, .int v5, .ref a6, .ref a7, .ref a8, .int (nI v9), .int (nI v10), .ref a11, .ref a12, .int v13, .ref a14, .ref a15, .ref a16, .int v17])), (a0, .inl (kt, 600, .inl (nR (updN (updN (updN (updN gt ts (sgF (((p0.toUInt32 >>> (Int32.toUInt32 24 &&& Int32.toUInt32 31)).toInt32).toBitVec.toNat % 256))) (ts + 1) (sgF (((p0.toUInt32 >>> (Int32.toUInt32 16 &&& Int32.toUInt32 31)).toInt32).toBitVec.toNat % 256))) (ts + 1 + 1) (sgF (((p0.toUInt32 >>> (Int32.toUInt32 8 &&& Int32.toUInt32 31)).toInt32).toBitVec.toNat % 256))) (ts + 1 + 1 + 1) (sgF (((p0.toUInt32 >>> (Int32.toUInt32 0 &&& Int32.toUInt32 31)).toInt32).toBitVec.toNat % 256))))))] := hD
  refine lv_iinc (v := (-8)) (lv' := [(2, .int (-8)), (0, .ref h0), (1, .int p0)]) hx hb dX7_putBytes_37 hl (k := 0) rfl (by decide) (by decide) rfl (fun ls hl => ?_)
  refine lv_goto (tgt := 3) hx hb dX7_putBytes_40 (by decide) ?_
  refine lv_iload_n hx hb dX7_putBytes_3 rfl (lv_at hl 0 rfl) ?_
  refine lv_if_lt (tgt := 43) hx hb dX7_putBytes_4 (by decide) (fun c_4_5 => ?_) (fun c_4_5 => ?_)
  rotate_left
  · exact absurd (by decide) c_4_5
  have hP9 := hP.sub (ws' := [(h0, .inr (7, [.ref a0, .int (nI (ts + 1 + 1 + 1 + 1)), .ref a2, .ref a3, .int v4, .int v5, .ref a6, .ref a7, .ref a8, .int (nI v9), .int (nI v10), .ref a11, .ref a12, .int v13, .ref a14, .ref a15, .ref a16, .int v17])), (a0, .inl (kt, 600, .inl (nR (updN (updN (updN (updN gt ts (sgF (((p0.toUInt32 >>> (Int32.toUInt32 24 &&& Int32.toUInt32 31)).toInt32).toBitVec.toNat % 256))) (ts + 1) (sgF (((p0.toUInt32 >>> (Int32.toUInt32 16 &&& Int32.toUInt32 31)).toInt32).toBitVec.toNat % 256))) (ts + 1 + 1) (sgF (((p0.toUInt32 >>> (Int32.toUInt32 8 &&& Int32.toUInt32 31)).toInt32).toBitVec.toNat % 256))) (ts + 1 + 1 + 1) (sgF (((p0.toUInt32 >>> (Int32.toUInt32 0 &&& Int32.toUInt32 31)).toInt32).toBitVec.toNat % 256))))))]) [0, 1] rfl
  have hD9 := hD.sub (ws' := [(h0, .inr (7, [.ref a0, .int (nI (ts + 1 + 1 + 1 + 1)), .ref a2, .ref a3, .int v4, .int v5, .ref a6, .ref a7, .ref a8, .int (nI v9), .int (nI v10), .ref a11, .ref a12, .int v13, .ref a14, .ref a15, .ref a16, .int v17])), (a0, .inl (kt, 600, .inl (nR (updN (updN (updN (updN gt ts (sgF (((p0.toUInt32 >>> (Int32.toUInt32 24 &&& Int32.toUInt32 31)).toInt32).toBitVec.toNat % 256))) (ts + 1) (sgF (((p0.toUInt32 >>> (Int32.toUInt32 16 &&& Int32.toUInt32 31)).toInt32).toBitVec.toNat % 256))) (ts + 1 + 1) (sgF (((p0.toUInt32 >>> (Int32.toUInt32 8 &&& Int32.toUInt32 31)).toInt32).toBitVec.toNat % 256))) (ts + 1 + 1 + 1) (sgF (((p0.toUInt32 >>> (Int32.toUInt32 0 &&& Int32.toUInt32 31)).toInt32).toBitVec.toNat % 256))))))]) [0, 1] (by decide) rfl
  exact W.vret hx hb hr (fun t ht hW => ⟨⟨(updN (updN (updN (updN gt ts (sgF (((p0.toUInt32 >>> (Int32.toUInt32 24 &&& Int32.toUInt32 31)).toInt32).toBitVec.toNat % 256))) (ts + 1) (sgF (((p0.toUInt32 >>> (Int32.toUInt32 16 &&& Int32.toUInt32 31)).toInt32).toBitVec.toNat % 256))) (ts + 1 + 1) (sgF (((p0.toUInt32 >>> (Int32.toUInt32 8 &&& Int32.toUInt32 31)).toInt32).toBitVec.toNat % 256))) (ts + 1 + 1 + 1) (sgF (((p0.toUInt32 >>> (Int32.toUInt32 0 &&& Int32.toUInt32 31)).toInt32).toBitVec.toNat % 256))), rfl, ⟨by exact sgn_upd (sgn_upd (sgn_upd (sgn_upd hgt (sgF_ok _)) (sgF_ok _)) (sgF_ok _)) (sgF_ok _), by unfold pb4 byN; rw [pk_ushr p0 24 24 (by decide), pk_ushr p0 16 16 (by decide), pk_ushr p0 8 8 (by decide), pk_ushr p0 0 0 (by decide)]⟩, by rw [ht]; exact hP9, hD9⟩, hS.F ht⟩) hS.2.2 dX7_putBytes_43

set_option maxHeartbeats 4000000 in
set_option maxRecDepth 100000 in
theorem g_X7_feed (l : Launch) (dC : Nat → ClassId) (dI : Nat → Nat → Nat) (h0 : Nat) (a0 : Nat) (ts : Nat) (a2 : Nat) (a3 : Nat) (v4 : Int32) (v5 : Int32) (a6 : Nat) (a7 : Nat) (a8 : Nat) (v9 : Nat) (v10 : Nat) (a11 : Nat) (a12 : Nat) (v13 : Int32) (a14 : Nat) (a15 : Nat) (a16 : Nat) (v17 : Int32) (kt : ClassId) (gt : Nat → Nat) (p0 : Int32) (p1 : Int32) (p2 : Int32) (p3 : Int32) (p4 : Int32) (sz : Nat) (hts_ : ts ≤ 600) (hgt : ∀ j, sgn (gt j)) : Met l yX7_feed wsX7_feed ({ frames := 2, cells := 0, slots := 0, locals := 42 }) (va_Pc [.ref h0, .int p0, .int p1, .int p2, .int p3, .int p4] (fun U => U.heap.size = sz ∧ va_P (dC, dI) vwCl [(h0, .inr (7, [.ref a0, .int (nI ts), .ref a2, .ref a3, .int v4, .int v5, .ref a6, .ref a7, .ref a8, .int (nI v9), .int (nI v10), .ref a11, .ref a12, .int v13, .ref a14, .ref a15, .ref a16, .int v17])), (a0, .inl (kt, 600, .inl (nR gt)))] U.heap ∧ va_K (dC, dI) vwCl [(kt, .byte)] U ∧ va_D (fun _ => True) [(h0, .inr (7, [.ref a0, .int (nI ts), .ref a2, .ref a3, .int v4, .int v5, .ref a6, .ref a7, .ref a8, .int (nI v9), .int (nI v10), .ref a11, .ref a12, .int v13, .ref a14, .ref a15, .ref a16, .int v17])), (a0, .inl (kt, 600, .inl (nR gt)))])) (va_Qi (fun (r : Int32) (u : Nat × (Nat → Nat)) => match u with | (so, go) => ((580 < ts → r = (-1) ∧ so = ts) ∧ (ts ≤ 580 → r = nI (ts + 20) ∧ so = ts + 20)) ∧ (∀ j, sgn (go j)) ∧ (∀ j, go j = if ts ≤ j ∧ j < so then sgF (fdB p0 p1 p2 p3 p4 (j - ts)) else gt j)) (fun (u : Nat × (Nat → Nat)) (t : State) => match u with | (so, go) => va_P (dC, dI) vwCl [(h0, .inr (7, [.ref a0, .int (nI so), .ref a2, .ref a3, .int v4, .int v5, .ref a6, .ref a7, .ref a8, .int (nI v9), .int (nI v10), .ref a11, .ref a12, .int v13, .ref a14, .ref a15, .ref a16, .int v17])), (a0, .inl (kt, 600, .inl (nR go)))] t.heap ∧ va_D (va_A [(h0, .inr (7, [.ref a0, .int (nI ts), .ref a2, .ref a3, .int v4, .int v5, .ref a6, .ref a7, .ref a8, .int (nI v9), .int (nI v10), .ref a11, .ref a12, .int v13, .ref a14, .ref a15, .ref a16, .int v17])), (a0, .inl (kt, 600, .inl (nR gt)))] sz) [(h0, .inr (7, [.ref a0, .int (nI so), .ref a2, .ref a3, .int v4, .int v5, .ref a6, .ref a7, .ref a8, .int (nI v9), .int (nI v10), .ref a11, .ref a12, .int v13, .ref a14, .ref a15, .ref a16, .int v17])), (a0, .inl (kt, 600, .inl (nR go)))]) (va_A [(h0, .inr (7, [.ref a0, .int (nI ts), .ref a2, .ref a3, .int v4, .int v5, .ref a6, .ref a7, .ref a8, .int (nI v9), .int (nI v10), .ref a11, .ref a12, .int v13, .ref a14, .ref a15, .ref a16, .int v17])), (a0, .inl (kt, 600, .inl (nR gt)))] sz)) 0 0 (va_A [(h0, .inr (7, [.ref a0, .int (nI ts), .ref a2, .ref a3, .int v4, .int v5, .ref a6, .ref a7, .ref a8, .int (nI v9), .int (nI v10), .ref a11, .ref a12, .int v13, .ref a14, .ref a15, .ref a16, .int v17])), (a0, .inl (kt, 600, .inl (nR gt)))] sz) := by
  refine Met.ofW (cc := cX7_feed) (maxL := 6) (ret := (some .int)) (by decide) rfl ?_
  intro p e s m args below meth c s₁ B hml hv
  obtain ⟨rfl, hsz, hP, hK, hD0⟩ := hv
  have hx := B.exec
  have hb := B.bytes
  have hr := B.returns
  have hts := atoms_spec (ws := wsX7_feed) B.pre
  have hown : s.vm.findClass RX7 = some m.cls := findClass_of_methodNamed B.named
  have hlocks := B.notSynchronized
  subst hsz
  have hD := hD0.self (sz := s.heap.size)
  clear hD0
  generalize hAe : va_A [(h0, .inr (7, [.ref a0, .int (nI ts), .ref a2, .ref a3, .int v4, .int v5, .ref a6, .ref a7, .ref a8, .int (nI v9), .int (nI v10), .ref a11, .ref a12, .int v13, .ref a14, .ref a15, .ref a16, .int v17])), (a0, .inl (kt, 600, .inl (nR gt)))] s.heap.size = A at hD ⊢
  have hA : ∀ q : Nat, s.heap.size ≤ q → A q := fun q h => by rw [← hAe]; exact Or.inr h
  clear hAe
  have hS : va_S A s.heap s.heap [] := va_S.rf
  replace hP : va_P (dC, dI) vwCl [(h0, .inr (7, [.ref a0, .int (nI ts), .ref a2, .ref a3, .int v4, .int v5, .ref a6, .ref a7, .ref a8, .int (nI v9), .int (nI v10), .ref a11, .ref a12, .int v13, .ref a14, .ref a15, .ref a16, .int v17])), (a0, .inl (kt, 600, .inl (nR gt)))] s.heap := hP
  have hl := lv_entry ([.ref h0, .int p0, .int p1, .int p2, .int p3, .int p4]) (n := 6) (Nat.le_of_ble_eq_true rfl)
  rw [lg_entry_eq]
  generalize (lg_sl ([.ref h0, .int p0, .int p1, .int p2, .int p3, .int p4]) ++ List.replicate (6 - (lg_sl ([.ref h0, .int p0, .int p1, .int p2, .int p3, .int p4])).length) Slot.unset).toArray = ls at hl ⊢
  replace hl : lv_has ls 6 [(0, .ref h0), (1, .int p0), (2, .int p1), (3, .int p2), (4, .int p3), (5, .int p4)] := hl
  have hi_X7 : ∀ w ∈ wsX70, w ∈ wsX7_feed := by decide +kernel
  have k_f13 := hts (.fieldLink RX7 13 "TongueTeller" "tapeSize" "I") (by decide +kernel)
  refine lv_aload_n hx hb dX7_feed_0 rfl (lv_at hl 0 rfl) ?_
  refine va_get (D := (dC, dI)) (ci := 7) (v := .int (nI ts)) (C := RX7) (T := TX7) (N := 18) hx hb hts hi_X7 hown hK hP 0 rfl rfl 1 (by decide) k_f13 (fun _ h9 => h9) rfl dX7_feed_1 ?_
  refine lv_sipush (v := 580) hx hb dX7_feed_4 (by decide) ?_
  refine lv_icmp_le (tgt := 12) hx hb dX7_feed_7 (by decide) (fun c_7 => ?_) (fun c_7 => ?_)
  · have n_7 : ts ≤ 580 := (nI_leI (a := ts) (b := 580) (by omega) (by omega)).mp c_7
    refine lv_aload_n hx hb dX7_feed_12 rfl (lv_at hl 0 rfl) ?_
    refine lv_iload_n hx hb dX7_feed_13 rfl (lv_at hl 1 rfl) ?_
    have hPc := hP.sub (ws' := [(h0, .inr (7, [.ref a0, .int (nI ts), .ref a2, .ref a3, .int v4, .int v5, .ref a6, .ref a7, .ref a8, .int (nI v9), .int (nI v10), .ref a11, .ref a12, .int v13, .ref a14, .ref a15, .ref a16, .int v17])), (a0, .inl (kt, 600, .inl (nR gt)))]) [0, 1] rfl
    have hDc := hD.sub (ws' := [(h0, .inr (7, [.ref a0, .int (nI ts), .ref a2, .ref a3, .int v4, .int v5, .ref a6, .ref a7, .ref a8, .int (nI v9), .int (nI v10), .ref a11, .ref a12, .int v13, .ref a14, .ref a15, .ref a16, .int v17])), (a0, .inl (kt, 600, .inl (nR gt)))]) [0, 1] (by decide) rfl
    have hKc := hK.sub (tys' := [(kt, .byte)]) [0] rfl
    have hFc := va_free (wc := [(h0, .inr (7, [.ref a0, .int (nI ts), .ref a2, .ref a3, .int v4, .int v5, .ref a6, .ref a7, .ref a8, .int (nI v9), .int (nI v10), .ref a11, .ref a12, .int v13, .ref a14, .ref a15, .ref a16, .int v17])), (a0, .inl (kt, 600, .inl (nR gt)))]) hD hS hA [0, 1] rfl
    refine va_callv (va_runV (As := [.int p0]) (rest := []) ⟨hx, hb, hml, hown, hts⟩ (g_X7_putBytes l dC dI h0 a0 ts a2 a3 v4 v5 a6 a7 a8 v9 v10 a11 a12 v13 a14 a15 a16 v17 kt gt p0 s.heap.size (by first | assumption | omega) (by first | assumption | omega)) (cwV 1 hts gX7_feed_X7_putBytes rfl rfl rfl (by decide +kernel) ⟨Nat.le_of_ble_eq_true rfl, Nat.le_of_ble_eq_true rfl⟩) ⟨fun a U g mk q => by obtain ⟨q0, q1, qP, qK, qD⟩ := q; exact ⟨q0, q1, qP, va_K.moved (u := U) (U := U.calling g mk a) (Vm.Alike.refl U.vm) qK, qD⟩, va_recv hK hP (ci := 7) (q0 := 0) rfl rfl, fun U hU hW => ⟨rfl, by rw [hU], by rw [hU]; exact hPc, va_K.moved hW.alike hKc, hDc.weaken (fun _ _ _ _ => trivial)⟩⟩ rfl rfl hl.1 rfl (lv_room (Nat.le_of_ble_eq_true rfl)) dX7_feed_14 ⟨Nat.le_of_ble_eq_true rfl, Nat.le_of_ble_eq_true rfl⟩) hS (fun q _ h => hFc q h) hFc (fun u t H1 locs ht hvm hw_14 hB hz1 hk1 hS => ?_)
    obtain ⟨go_14, rfl⟩ : ∃ z, z = u := ⟨_, rfl⟩
    try dsimp only at hw_14 hB
    obtain ⟨hP1, hD1⟩ := hB
    rw [ht] at hP1
    obtain ⟨hP, hD⟩ := va_join (wr := []) (w1 := [(h0, .inr (7, [.ref a0, .int (nI (ts + 1 + 1 + 1 + 1)), .ref a2, .ref a3, .int v4, .int v5, .ref a6, .ref a7, .ref a8, .int (nI v9), .int (nI v10), .ref a11, .ref a12, .int v13, .ref a14, .ref a15, .ref a16, .int v17])), (a0, .inl (kt, 600, .inl (nR go_14)))]) hP hD [0, 1] [] rfl rfl (by decide) (by decide) hk1 hFc hP1 hD1
    generalize H1 = H at hP hS ⊢
    replace hP : va_P (dC, dI) vwCl [(h0, .inr (7, [.ref a0, .int (nI (ts + 1 + 1 + 1 + 1)), .ref a2, .ref a3, .int v4, .int v5, .ref a6, .ref a7, .ref a8, .int (nI v9), .int (nI v10), .ref a11, .ref a12, .int v13, .ref a14, .ref a15, .ref a16, .int v17])), (a0, .inl (kt, 600, .inl (nR go_14)))] H := hP
    replace hD : va_D A [(h0, .inr (7, [.ref a0, .int (nI (ts + 1 + 1 + 1 + 1)), .ref a2, .ref a3, .int v4, .int v5, .ref a6, .ref a7, .ref a8, .int (nI v9), .int (nI v10), .ref a11, .ref a12, .int v13, .ref a14, .ref a15, .ref a16, .int v17])), (a0, .inl (kt, 600, .inl (nR go_14)))] := hD
    obtain ⟨hgo_14, hgf_14⟩ := hw_14
    refine lv_aload_n hx hb dX7_feed_17 rfl (lv_at hl 0 rfl) ?_
    refine lv_iload_n hx hb dX7_feed_18 rfl (lv_at hl 2 rfl) ?_
    have hPc := hP.sub (ws' := [(h0, .inr (7, [.ref a0, .int (nI (ts + 1 + 1 + 1 + 1)), .ref a2, .ref a3, .int v4, .int v5, .ref a6, .ref a7, .ref a8, .int (nI v9), .int (nI v10), .ref a11, .ref a12, .int v13, .ref a14, .ref a15, .ref a16, .int v17])), (a0, .inl (kt, 600, .inl (nR go_14)))]) [0, 1] rfl
    have hDc := hD.sub (ws' := [(h0, .inr (7, [.ref a0, .int (nI (ts + 1 + 1 + 1 + 1)), .ref a2, .ref a3, .int v4, .int v5, .ref a6, .ref a7, .ref a8, .int (nI v9), .int (nI v10), .ref a11, .ref a12, .int v13, .ref a14, .ref a15, .ref a16, .int v17])), (a0, .inl (kt, 600, .inl (nR go_14)))]) [0, 1] (by decide) rfl
    have hKc := hK.sub (tys' := [(kt, .byte)]) [0] rfl
    have hFc := va_free (wc := [(h0, .inr (7, [.ref a0, .int (nI (ts + 1 + 1 + 1 + 1)), .ref a2, .ref a3, .int v4, .int v5, .ref a6, .ref a7, .ref a8, .int (nI v9), .int (nI v10), .ref a11, .ref a12, .int v13, .ref a14, .ref a15, .ref a16, .int v17])), (a0, .inl (kt, 600, .inl (nR go_14)))]) hD hS hA [0, 1] rfl
    refine va_callv (va_runV (As := [.int p1]) (rest := []) ⟨hx, hb, hml, hown, hts⟩ (g_X7_putBytes l dC dI h0 a0 (ts + 1 + 1 + 1 + 1) a2 a3 v4 v5 a6 a7 a8 v9 v10 a11 a12 v13 a14 a15 a16 v17 kt go_14 p1 H.size (by first | assumption | omega) (by first | assumption | omega)) (cwV 1 hts gX7_feed_X7_putBytes rfl rfl rfl (by decide +kernel) ⟨Nat.le_of_ble_eq_true rfl, Nat.le_of_ble_eq_true rfl⟩) ⟨fun a U g mk q => by obtain ⟨q0, q1, qP, qK, qD⟩ := q; exact ⟨q0, q1, qP, va_K.moved (u := U) (U := U.calling g mk a) (Vm.Alike.refl U.vm) qK, qD⟩, va_recv hK hP (ci := 7) (q0 := 0) rfl rfl, fun U hU hW => ⟨rfl, by rw [hU], by rw [hU]; exact hPc, va_K.moved hW.alike hKc, hDc.weaken (fun _ _ _ _ => trivial)⟩⟩ rfl rfl hl.1 rfl (lv_room (Nat.le_of_ble_eq_true rfl)) dX7_feed_19 ⟨Nat.le_of_ble_eq_true rfl, Nat.le_of_ble_eq_true rfl⟩) hS (fun q _ h => hFc q h) hFc (fun u t H1 locs ht hvm hw_19 hB hz1 hk1 hS => ?_)
    obtain ⟨go_19, rfl⟩ : ∃ z, z = u := ⟨_, rfl⟩
    try dsimp only at hw_19 hB
    obtain ⟨hP1, hD1⟩ := hB
    rw [ht] at hP1
    obtain ⟨hP, hD⟩ := va_join (wr := []) (w1 := [(h0, .inr (7, [.ref a0, .int (nI ((ts + 1 + 1 + 1 + 1) + 1 + 1 + 1 + 1)), .ref a2, .ref a3, .int v4, .int v5, .ref a6, .ref a7, .ref a8, .int (nI v9), .int (nI v10), .ref a11, .ref a12, .int v13, .ref a14, .ref a15, .ref a16, .int v17])), (a0, .inl (kt, 600, .inl (nR go_19)))]) hP hD [0, 1] [] rfl rfl (by decide) (by decide) hk1 hFc hP1 hD1
    generalize H1 = H at hP hS ⊢
    replace hP : va_P (dC, dI) vwCl [(h0, .inr (7, [.ref a0, .int (nI ((ts + 1 + 1 + 1 + 1) + 1 + 1 + 1 + 1)), .ref a2, .ref a3, .int v4, .int v5, .ref a6, .ref a7, .ref a8, .int (nI v9), .int (nI v10), .ref a11, .ref a12, .int v13, .ref a14, .ref a15, .ref a16, .int v17])), (a0, .inl (kt, 600, .inl (nR go_19)))] H := hP
    replace hD : va_D A [(h0, .inr (7, [.ref a0, .int (nI ((ts + 1 + 1 + 1 + 1) + 1 + 1 + 1 + 1)), .ref a2, .ref a3, .int v4, .int v5, .ref a6, .ref a7, .ref a8, .int (nI v9), .int (nI v10), .ref a11, .ref a12, .int v13, .ref a14, .ref a15, .ref a16, .int v17])), (a0, .inl (kt, 600, .inl (nR go_19)))] := hD
    obtain ⟨hgo_19, hgf_19⟩ := hw_19
    refine lv_aload_n hx hb dX7_feed_22 rfl (lv_at hl 0 rfl) ?_
    refine lv_iload_n hx hb dX7_feed_23 rfl (lv_at hl 3 rfl) ?_
    have hPc := hP.sub (ws' := [(h0, .inr (7, [.ref a0, .int (nI ((ts + 1 + 1 + 1 + 1) + 1 + 1 + 1 + 1)), .ref a2, .ref a3, .int v4, .int v5, .ref a6, .ref a7, .ref a8, .int (nI v9), .int (nI v10), .ref a11, .ref a12, .int v13, .ref a14, .ref a15, .ref a16, .int v17])), (a0, .inl (kt, 600, .inl (nR go_19)))]) [0, 1] rfl
    have hDc := hD.sub (ws' := [(h0, .inr (7, [.ref a0, .int (nI ((ts + 1 + 1 + 1 + 1) + 1 + 1 + 1 + 1)), .ref a2, .ref a3, .int v4, .int v5, .ref a6, .ref a7, .ref a8, .int (nI v9), .int (nI v10), .ref a11, .ref a12, .int v13, .ref a14, .ref a15, .ref a16, .int v17])), (a0, .inl (kt, 600, .inl (nR go_19)))]) [0, 1] (by decide) rfl
    have hKc := hK.sub (tys' := [(kt, .byte)]) [0] rfl
    have hFc := va_free (wc := [(h0, .inr (7, [.ref a0, .int (nI ((ts + 1 + 1 + 1 + 1) + 1 + 1 + 1 + 1)), .ref a2, .ref a3, .int v4, .int v5, .ref a6, .ref a7, .ref a8, .int (nI v9), .int (nI v10), .ref a11, .ref a12, .int v13, .ref a14, .ref a15, .ref a16, .int v17])), (a0, .inl (kt, 600, .inl (nR go_19)))]) hD hS hA [0, 1] rfl
    refine va_callv (va_runV (As := [.int p2]) (rest := []) ⟨hx, hb, hml, hown, hts⟩ (g_X7_putBytes l dC dI h0 a0 ((ts + 1 + 1 + 1 + 1) + 1 + 1 + 1 + 1) a2 a3 v4 v5 a6 a7 a8 v9 v10 a11 a12 v13 a14 a15 a16 v17 kt go_19 p2 H.size (by first | assumption | omega) (by first | assumption | omega)) (cwV 1 hts gX7_feed_X7_putBytes rfl rfl rfl (by decide +kernel) ⟨Nat.le_of_ble_eq_true rfl, Nat.le_of_ble_eq_true rfl⟩) ⟨fun a U g mk q => by obtain ⟨q0, q1, qP, qK, qD⟩ := q; exact ⟨q0, q1, qP, va_K.moved (u := U) (U := U.calling g mk a) (Vm.Alike.refl U.vm) qK, qD⟩, va_recv hK hP (ci := 7) (q0 := 0) rfl rfl, fun U hU hW => ⟨rfl, by rw [hU], by rw [hU]; exact hPc, va_K.moved hW.alike hKc, hDc.weaken (fun _ _ _ _ => trivial)⟩⟩ rfl rfl hl.1 rfl (lv_room (Nat.le_of_ble_eq_true rfl)) dX7_feed_24 ⟨Nat.le_of_ble_eq_true rfl, Nat.le_of_ble_eq_true rfl⟩) hS (fun q _ h => hFc q h) hFc (fun u t H1 locs ht hvm hw_24 hB hz1 hk1 hS => ?_)
    obtain ⟨go_24, rfl⟩ : ∃ z, z = u := ⟨_, rfl⟩
    try dsimp only at hw_24 hB
    obtain ⟨hP1, hD1⟩ := hB
    rw [ht] at hP1
    obtain ⟨hP, hD⟩ := va_join (wr := []) (w1 := [(h0, .inr (7, [.ref a0, .int (nI (((ts + 1 + 1 + 1 + 1) + 1 + 1 + 1 + 1) + 1 + 1 + 1 + 1)), .ref a2, .ref a3, .int v4, .int v5, .ref a6, .ref a7, .ref a8, .int (nI v9), .int (nI v10), .ref a11, .ref a12, .int v13, .ref a14, .ref a15, .ref a16, .int v17])), (a0, .inl (kt, 600, .inl (nR go_24)))]) hP hD [0, 1] [] rfl rfl (by decide) (by decide) hk1 hFc hP1 hD1
    generalize H1 = H at hP hS ⊢
    replace hP : va_P (dC, dI) vwCl [(h0, .inr (7, [.ref a0, .int (nI (((ts + 1 + 1 + 1 + 1) + 1 + 1 + 1 + 1) + 1 + 1 + 1 + 1)), .ref a2, .ref a3, .int v4, .int v5, .ref a6, .ref a7, .ref a8, .int (nI v9), .int (nI v10), .ref a11, .ref a12, .int v13, .ref a14, .ref a15, .ref a16, .int v17])), (a0, .inl (kt, 600, .inl (nR go_24)))] H := hP
    replace hD : va_D A [(h0, .inr (7, [.ref a0, .int (nI (((ts + 1 + 1 + 1 + 1) + 1 + 1 + 1 + 1) + 1 + 1 + 1 + 1)), .ref a2, .ref a3, .int v4, .int v5, .ref a6, .ref a7, .ref a8, .int (nI v9), .int (nI v10), .ref a11, .ref a12, .int v13, .ref a14, .ref a15, .ref a16, .int v17])), (a0, .inl (kt, 600, .inl (nR go_24)))] := hD
    obtain ⟨hgo_24, hgf_24⟩ := hw_24
    refine lv_aload_n hx hb dX7_feed_27 rfl (lv_at hl 0 rfl) ?_
    refine lv_iload hx hb dX7_feed_28 (lv_at hl 4 rfl) ?_
    have hPc := hP.sub (ws' := [(h0, .inr (7, [.ref a0, .int (nI (((ts + 1 + 1 + 1 + 1) + 1 + 1 + 1 + 1) + 1 + 1 + 1 + 1)), .ref a2, .ref a3, .int v4, .int v5, .ref a6, .ref a7, .ref a8, .int (nI v9), .int (nI v10), .ref a11, .ref a12, .int v13, .ref a14, .ref a15, .ref a16, .int v17])), (a0, .inl (kt, 600, .inl (nR go_24)))]) [0, 1] rfl
    have hDc := hD.sub (ws' := [(h0, .inr (7, [.ref a0, .int (nI (((ts + 1 + 1 + 1 + 1) + 1 + 1 + 1 + 1) + 1 + 1 + 1 + 1)), .ref a2, .ref a3, .int v4, .int v5, .ref a6, .ref a7, .ref a8, .int (nI v9), .int (nI v10), .ref a11, .ref a12, .int v13, .ref a14, .ref a15, .ref a16, .int v17])), (a0, .inl (kt, 600, .inl (nR go_24)))]) [0, 1] (by decide) rfl
    have hKc := hK.sub (tys' := [(kt, .byte)]) [0] rfl
    have hFc := va_free (wc := [(h0, .inr (7, [.ref a0, .int (nI (((ts + 1 + 1 + 1 + 1) + 1 + 1 + 1 + 1) + 1 + 1 + 1 + 1)), .ref a2, .ref a3, .int v4, .int v5, .ref a6, .ref a7, .ref a8, .int (nI v9), .int (nI v10), .ref a11, .ref a12, .int v13, .ref a14, .ref a15, .ref a16, .int v17])), (a0, .inl (kt, 600, .inl (nR go_24)))]) hD hS hA [0, 1] rfl
    refine va_callv (va_runV (As := [.int p3]) (rest := []) ⟨hx, hb, hml, hown, hts⟩ (g_X7_putBytes l dC dI h0 a0 (((ts + 1 + 1 + 1 + 1) + 1 + 1 + 1 + 1) + 1 + 1 + 1 + 1) a2 a3 v4 v5 a6 a7 a8 v9 v10 a11 a12 v13 a14 a15 a16 v17 kt go_24 p3 H.size (by first | assumption | omega) (by first | assumption | omega)) (cwV 1 hts gX7_feed_X7_putBytes rfl rfl rfl (by decide +kernel) ⟨Nat.le_of_ble_eq_true rfl, Nat.le_of_ble_eq_true rfl⟩) ⟨fun a U g mk q => by obtain ⟨q0, q1, qP, qK, qD⟩ := q; exact ⟨q0, q1, qP, va_K.moved (u := U) (U := U.calling g mk a) (Vm.Alike.refl U.vm) qK, qD⟩, va_recv hK hP (ci := 7) (q0 := 0) rfl rfl, fun U hU hW => ⟨rfl, by rw [hU], by rw [hU]; exact hPc, va_K.moved hW.alike hKc, hDc.weaken (fun _ _ _ _ => trivial)⟩⟩ rfl rfl hl.1 rfl (lv_room (Nat.le_of_ble_eq_true rfl)) dX7_feed_30 ⟨Nat.le_of_ble_eq_true rfl, Nat.le_of_ble_eq_true rfl⟩) hS (fun q _ h => hFc q h) hFc (fun u t H1 locs ht hvm hw_30 hB hz1 hk1 hS => ?_)
    obtain ⟨go_30, rfl⟩ : ∃ z, z = u := ⟨_, rfl⟩
    try dsimp only at hw_30 hB
    obtain ⟨hP1, hD1⟩ := hB
    rw [ht] at hP1
    obtain ⟨hP, hD⟩ := va_join (wr := []) (w1 := [(h0, .inr (7, [.ref a0, .int (nI ((((ts + 1 + 1 + 1 + 1) + 1 + 1 + 1 + 1) + 1 + 1 + 1 + 1) + 1 + 1 + 1 + 1)), .ref a2, .ref a3, .int v4, .int v5, .ref a6, .ref a7, .ref a8, .int (nI v9), .int (nI v10), .ref a11, .ref a12, .int v13, .ref a14, .ref a15, .ref a16, .int v17])), (a0, .inl (kt, 600, .inl (nR go_30)))]) hP hD [0, 1] [] rfl rfl (by decide) (by decide) hk1 hFc hP1 hD1
    generalize H1 = H at hP hS ⊢
    replace hP : va_P (dC, dI) vwCl [(h0, .inr (7, [.ref a0, .int (nI ((((ts + 1 + 1 + 1 + 1) + 1 + 1 + 1 + 1) + 1 + 1 + 1 + 1) + 1 + 1 + 1 + 1)), .ref a2, .ref a3, .int v4, .int v5, .ref a6, .ref a7, .ref a8, .int (nI v9), .int (nI v10), .ref a11, .ref a12, .int v13, .ref a14, .ref a15, .ref a16, .int v17])), (a0, .inl (kt, 600, .inl (nR go_30)))] H := hP
    replace hD : va_D A [(h0, .inr (7, [.ref a0, .int (nI ((((ts + 1 + 1 + 1 + 1) + 1 + 1 + 1 + 1) + 1 + 1 + 1 + 1) + 1 + 1 + 1 + 1)), .ref a2, .ref a3, .int v4, .int v5, .ref a6, .ref a7, .ref a8, .int (nI v9), .int (nI v10), .ref a11, .ref a12, .int v13, .ref a14, .ref a15, .ref a16, .int v17])), (a0, .inl (kt, 600, .inl (nR go_30)))] := hD
    obtain ⟨hgo_30, hgf_30⟩ := hw_30
    refine lv_aload_n hx hb dX7_feed_33 rfl (lv_at hl 0 rfl) ?_
    refine lv_iload hx hb dX7_feed_34 (lv_at hl 5 rfl) ?_
    have hPc := hP.sub (ws' := [(h0, .inr (7, [.ref a0, .int (nI ((((ts + 1 + 1 + 1 + 1) + 1 + 1 + 1 + 1) + 1 + 1 + 1 + 1) + 1 + 1 + 1 + 1)), .ref a2, .ref a3, .int v4, .int v5, .ref a6, .ref a7, .ref a8, .int (nI v9), .int (nI v10), .ref a11, .ref a12, .int v13, .ref a14, .ref a15, .ref a16, .int v17])), (a0, .inl (kt, 600, .inl (nR go_30)))]) [0, 1] rfl
    have hDc := hD.sub (ws' := [(h0, .inr (7, [.ref a0, .int (nI ((((ts + 1 + 1 + 1 + 1) + 1 + 1 + 1 + 1) + 1 + 1 + 1 + 1) + 1 + 1 + 1 + 1)), .ref a2, .ref a3, .int v4, .int v5, .ref a6, .ref a7, .ref a8, .int (nI v9), .int (nI v10), .ref a11, .ref a12, .int v13, .ref a14, .ref a15, .ref a16, .int v17])), (a0, .inl (kt, 600, .inl (nR go_30)))]) [0, 1] (by decide) rfl
    have hKc := hK.sub (tys' := [(kt, .byte)]) [0] rfl
    have hFc := va_free (wc := [(h0, .inr (7, [.ref a0, .int (nI ((((ts + 1 + 1 + 1 + 1) + 1 + 1 + 1 + 1) + 1 + 1 + 1 + 1) + 1 + 1 + 1 + 1)), .ref a2, .ref a3, .int v4, .int v5, .ref a6, .ref a7, .ref a8, .int (nI v9), .int (nI v10), .ref a11, .ref a12, .int v13, .ref a14, .ref a15, .ref a16, .int v17])), (a0, .inl (kt, 600, .inl (nR go_30)))]) hD hS hA [0, 1] rfl
    refine va_callv (va_runV (As := [.int p4]) (rest := []) ⟨hx, hb, hml, hown, hts⟩ (g_X7_putBytes l dC dI h0 a0 ((((ts + 1 + 1 + 1 + 1) + 1 + 1 + 1 + 1) + 1 + 1 + 1 + 1) + 1 + 1 + 1 + 1) a2 a3 v4 v5 a6 a7 a8 v9 v10 a11 a12 v13 a14 a15 a16 v17 kt go_30 p4 H.size (by first | assumption | omega) (by first | assumption | omega)) (cwV 1 hts gX7_feed_X7_putBytes rfl rfl rfl (by decide +kernel) ⟨Nat.le_of_ble_eq_true rfl, Nat.le_of_ble_eq_true rfl⟩) ⟨fun a U g mk q => by obtain ⟨q0, q1, qP, qK, qD⟩ := q; exact ⟨q0, q1, qP, va_K.moved (u := U) (U := U.calling g mk a) (Vm.Alike.refl U.vm) qK, qD⟩, va_recv hK hP (ci := 7) (q0 := 0) rfl rfl, fun U hU hW => ⟨rfl, by rw [hU], by rw [hU]; exact hPc, va_K.moved hW.alike hKc, hDc.weaken (fun _ _ _ _ => trivial)⟩⟩ rfl rfl hl.1 rfl (lv_room (Nat.le_of_ble_eq_true rfl)) dX7_feed_36 ⟨Nat.le_of_ble_eq_true rfl, Nat.le_of_ble_eq_true rfl⟩) hS (fun q _ h => hFc q h) hFc (fun u t H1 locs ht hvm hw_36 hB hz1 hk1 hS => ?_)
    obtain ⟨go_36, rfl⟩ : ∃ z, z = u := ⟨_, rfl⟩
    try dsimp only at hw_36 hB
    obtain ⟨hP1, hD1⟩ := hB
    rw [ht] at hP1
    obtain ⟨hP, hD⟩ := va_join (wr := []) (w1 := [(h0, .inr (7, [.ref a0, .int (nI (((((ts + 1 + 1 + 1 + 1) + 1 + 1 + 1 + 1) + 1 + 1 + 1 + 1) + 1 + 1 + 1 + 1) + 1 + 1 + 1 + 1)), .ref a2, .ref a3, .int v4, .int v5, .ref a6, .ref a7, .ref a8, .int (nI v9), .int (nI v10), .ref a11, .ref a12, .int v13, .ref a14, .ref a15, .ref a16, .int v17])), (a0, .inl (kt, 600, .inl (nR go_36)))]) hP hD [0, 1] [] rfl rfl (by decide) (by decide) hk1 hFc hP1 hD1
    generalize H1 = H at hP hS ⊢
    replace hP : va_P (dC, dI) vwCl [(h0, .inr (7, [.ref a0, .int (nI (((((ts + 1 + 1 + 1 + 1) + 1 + 1 + 1 + 1) + 1 + 1 + 1 + 1) + 1 + 1 + 1 + 1) + 1 + 1 + 1 + 1)), .ref a2, .ref a3, .int v4, .int v5, .ref a6, .ref a7, .ref a8, .int (nI v9), .int (nI v10), .ref a11, .ref a12, .int v13, .ref a14, .ref a15, .ref a16, .int v17])), (a0, .inl (kt, 600, .inl (nR go_36)))] H := hP
    replace hD : va_D A [(h0, .inr (7, [.ref a0, .int (nI (((((ts + 1 + 1 + 1 + 1) + 1 + 1 + 1 + 1) + 1 + 1 + 1 + 1) + 1 + 1 + 1 + 1) + 1 + 1 + 1 + 1)), .ref a2, .ref a3, .int v4, .int v5, .ref a6, .ref a7, .ref a8, .int (nI v9), .int (nI v10), .ref a11, .ref a12, .int v13, .ref a14, .ref a15, .ref a16, .int v17])), (a0, .inl (kt, 600, .inl (nR go_36)))] := hD
    obtain ⟨hgo_36, hgf_36⟩ := hw_36
    refine lv_aload_n hx hb dX7_feed_39 rfl (lv_at hl 0 rfl) ?_
    refine va_get (D := (dC, dI)) (ci := 7) (v := .int (nI (((((ts + 1 + 1 + 1 + 1) + 1 + 1 + 1 + 1) + 1 + 1 + 1 + 1) + 1 + 1 + 1 + 1) + 1 + 1 + 1 + 1))) (C := RX7) (T := TX7) (N := 18) hx hb hts hi_X7 hown hK hP 0 rfl rfl 1 (by decide) k_f13 (fun _ h9 => h9) rfl dX7_feed_40 ?_
    have hP9 := hP.sub (ws' := [(h0, .inr (7, [.ref a0, .int (nI (((((ts + 1 + 1 + 1 + 1) + 1 + 1 + 1 + 1) + 1 + 1 + 1 + 1) + 1 + 1 + 1 + 1) + 1 + 1 + 1 + 1)), .ref a2, .ref a3, .int v4, .int v5, .ref a6, .ref a7, .ref a8, .int (nI v9), .int (nI v10), .ref a11, .ref a12, .int v13, .ref a14, .ref a15, .ref a16, .int v17])), (a0, .inl (kt, 600, .inl (nR go_36)))]) [0, 1] rfl
    have hD9 := hD.sub (ws' := [(h0, .inr (7, [.ref a0, .int (nI (((((ts + 1 + 1 + 1 + 1) + 1 + 1 + 1 + 1) + 1 + 1 + 1 + 1) + 1 + 1 + 1 + 1) + 1 + 1 + 1 + 1)), .ref a2, .ref a3, .int v4, .int v5, .ref a6, .ref a7, .ref a8, .int (nI v9), .int (nI v10), .ref a11, .ref a12, .int v13, .ref a14, .ref a15, .ref a16, .int v17])), (a0, .inl (kt, 600, .inl (nR go_36)))]) [0, 1] (by decide) rfl
    exact W.iret (v := nI (((((ts + 1 + 1 + 1 + 1) + 1 + 1 + 1 + 1) + 1 + 1 + 1 + 1) + 1 + 1 + 1 + 1) + 1 + 1 + 1 + 1)) hx hb hr (fun t ht hW => ⟨⟨nI (((((ts + 1 + 1 + 1 + 1) + 1 + 1 + 1 + 1) + 1 + 1 + 1 + 1) + 1 + 1 + 1 + 1) + 1 + 1 + 1 + 1), ((((((ts + 1 + 1 + 1 + 1) + 1 + 1 + 1 + 1) + 1 + 1 + 1 + 1) + 1 + 1 + 1 + 1) + 1 + 1 + 1 + 1), go_36), rfl, ⟨by exact ⟨fun h => absurd h (by omega), fun _ => ⟨rfl, by omega⟩⟩, by assumption, by exact fun j => by rw [hgf_36, hgf_30, hgf_24, hgf_19, hgf_14]; exact fd_cls gt ts p0 p1 p2 p3 p4 j⟩, by rw [ht]; exact hP9, hD9⟩, hS.F ht⟩) hS.2.2 dX7_feed_43
  · have n_7 : 580 < ts := Nat.not_le.mp (fun h9 => c_7 ((nI_leI (a := ts) (b := 580) (by omega) (by omega)).mpr h9))
    refine lv_iconst (v := (-1)) hx hb dX7_feed_10 (by decide) ?_
    have hP9 := hP.sub (ws' := [(h0, .inr (7, [.ref a0, .int (nI ts), .ref a2, .ref a3, .int v4, .int v5, .ref a6, .ref a7, .ref a8, .int (nI v9), .int (nI v10), .ref a11, .ref a12, .int v13, .ref a14, .ref a15, .ref a16, .int v17])), (a0, .inl (kt, 600, .inl (nR gt)))]) [0, 1] rfl
    have hD9 := hD.sub (ws' := [(h0, .inr (7, [.ref a0, .int (nI ts), .ref a2, .ref a3, .int v4, .int v5, .ref a6, .ref a7, .ref a8, .int (nI v9), .int (nI v10), .ref a11, .ref a12, .int v13, .ref a14, .ref a15, .ref a16, .int v17])), (a0, .inl (kt, 600, .inl (nR gt)))]) [0, 1] (by decide) rfl
    exact W.iret (v := (-1)) hx hb hr (fun t ht hW => ⟨⟨(-1), (ts, gt), rfl, ⟨by exact ⟨fun _ => ⟨rfl, rfl⟩, fun h => absurd h (by omega)⟩, by assumption, by exact fun j => (if_neg (by omega)).symm⟩, by rw [ht]; exact hP9, hD9⟩, hS.F ht⟩) hS.2.2 dX7_feed_11

set_option maxHeartbeats 4000000 in
set_option maxRecDepth 100000 in
theorem g_X7_tongue (l : Launch) (dC : Nat → ClassId) (dI : Nat → Nat → Nat) (h0 : Nat) (a0 : Nat) (ts : Nat) (a2 : Nat) (a3 : Nat) (v4 : Int32) (v5 : Int32) (a6 : Nat) (a7 : Nat) (a8 : Nat) (v9 : Nat) (v10 : Nat) (a11 : Nat) (a12 : Nat) (v13 : Int32) (a14 : Nat) (a15 : Nat) (a16 : Nat) (v17 : Int32) (b0 : Nat) (z : Nat) (sz : Nat) (hz : z ≤ 8) : Met l yX7_tongue wsX7_tongue ({ frames := 1, cells := 0, slots := 0, locals := 21 }) (va_Pc [.ref h0] (fun U => U.heap.size = sz ∧ va_P (dC, dI) vwCl [(h0, .inr (7, [.ref a0, .int (nI ts), .ref a2, .ref a3, .int v4, .int v5, .ref a6, .ref a7, .ref a8, .int (nI v9), .int (nI v10), .ref a11, .ref a12, .int v13, .ref a14, .ref a15, .ref a16, .int v17])), (a2, .inr (4, [.ref b0, .int (nI z)]))] U.heap ∧ va_K (dC, dI) vwCl [] U ∧ va_D (fun _ => True) [(h0, .inr (7, [.ref a0, .int (nI ts), .ref a2, .ref a3, .int v4, .int v5, .ref a6, .ref a7, .ref a8, .int (nI v9), .int (nI v10), .ref a11, .ref a12, .int v13, .ref a14, .ref a15, .ref a16, .int v17])), (a2, .inr (4, [.ref b0, .int (nI z)]))])) (va_Qi (fun (r : Int32) (u : Nat × Int32) => match u with | (zo, vo) => ((z < 8 → r = nI z ∧ zo = z + 1 ∧ vo = 0) ∧ (¬ z < 8 → r = (-1) ∧ zo = z ∧ vo = 3))) (fun (u : Nat × Int32) (t : State) => match u with | (zo, vo) => va_P (dC, dI) vwCl [(h0, .inr (7, [.ref a0, .int (nI ts), .ref a2, .ref a3, .int v4, .int v5, .ref a6, .ref a7, .ref a8, .int (nI v9), .int (nI v10), .ref a11, .ref a12, .int v13, .ref a14, .ref a15, .ref a16, .int vo])), (a2, .inr (4, [.ref b0, .int (nI zo)]))] t.heap ∧ va_D (va_A [(h0, .inr (7, [.ref a0, .int (nI ts), .ref a2, .ref a3, .int v4, .int v5, .ref a6, .ref a7, .ref a8, .int (nI v9), .int (nI v10), .ref a11, .ref a12, .int v13, .ref a14, .ref a15, .ref a16, .int v17])), (a2, .inr (4, [.ref b0, .int (nI z)]))] sz) [(h0, .inr (7, [.ref a0, .int (nI ts), .ref a2, .ref a3, .int v4, .int v5, .ref a6, .ref a7, .ref a8, .int (nI v9), .int (nI v10), .ref a11, .ref a12, .int v13, .ref a14, .ref a15, .ref a16, .int vo])), (a2, .inr (4, [.ref b0, .int (nI zo)]))]) (va_A [(h0, .inr (7, [.ref a0, .int (nI ts), .ref a2, .ref a3, .int v4, .int v5, .ref a6, .ref a7, .ref a8, .int (nI v9), .int (nI v10), .ref a11, .ref a12, .int v13, .ref a14, .ref a15, .ref a16, .int v17])), (a2, .inr (4, [.ref b0, .int (nI z)]))] sz)) 0 0 (va_A [(h0, .inr (7, [.ref a0, .int (nI ts), .ref a2, .ref a3, .int v4, .int v5, .ref a6, .ref a7, .ref a8, .int (nI v9), .int (nI v10), .ref a11, .ref a12, .int v13, .ref a14, .ref a15, .ref a16, .int v17])), (a2, .inr (4, [.ref b0, .int (nI z)]))] sz) := by
  refine Met.ofW (cc := cX7_tongue) (maxL := 1) (ret := (some .int)) (by decide) rfl ?_
  intro p e s m args below meth c s₁ B hml hv
  obtain ⟨rfl, hsz, hP, hK, hD0⟩ := hv
  have hx := B.exec
  have hb := B.bytes
  have hr := B.returns
  have hts := atoms_spec (ws := wsX7_tongue) B.pre
  have hown : s.vm.findClass RX7 = some m.cls := findClass_of_methodNamed B.named
  have hlocks := B.notSynchronized
  subst hsz
  have hD := hD0.self (sz := s.heap.size)
  clear hD0
  generalize hAe : va_A [(h0, .inr (7, [.ref a0, .int (nI ts), .ref a2, .ref a3, .int v4, .int v5, .ref a6, .ref a7, .ref a8, .int (nI v9), .int (nI v10), .ref a11, .ref a12, .int v13, .ref a14, .ref a15, .ref a16, .int v17])), (a2, .inr (4, [.ref b0, .int (nI z)]))] s.heap.size = A at hD ⊢
  have hA : ∀ q : Nat, s.heap.size ≤ q → A q := fun q h => by rw [← hAe]; exact Or.inr h
  clear hAe
  have hS : va_S A s.heap s.heap [] := va_S.rf
  replace hP : va_P (dC, dI) vwCl [(h0, .inr (7, [.ref a0, .int (nI ts), .ref a2, .ref a3, .int v4, .int v5, .ref a6, .ref a7, .ref a8, .int (nI v9), .int (nI v10), .ref a11, .ref a12, .int v13, .ref a14, .ref a15, .ref a16, .int v17])), (a2, .inr (4, [.ref b0, .int (nI z)]))] s.heap := hP
  have hl := lv_entry ([.ref h0]) (n := 1) (Nat.le_of_ble_eq_true rfl)
  rw [lg_entry_eq]
  generalize (lg_sl ([.ref h0]) ++ List.replicate (1 - (lg_sl ([.ref h0])).length) Slot.unset).toArray = ls at hl ⊢
  replace hl : lv_has ls 1 [(0, .ref h0)] := hl
  have hi_X7 : ∀ w ∈ wsX70, w ∈ wsX7_tongue := by decide +kernel
  have k_f20 := hts (.fieldLink RX7 20 "TongueTeller" "tongues" "LTongueTeller$Tongues;") (by decide +kernel)
  have hi_X4 : ∀ w ∈ wsX40, w ∈ wsX7_tongue := by decide +kernel
  have k_f99 := hts (.fieldLink RX7 99 "TongueTeller$Tongues" "size" "I") (by decide +kernel)
  refine lv_aload_n hx hb dX7_tongue_0 rfl (lv_at hl 0 rfl) ?_
  refine va_get (D := (dC, dI)) (ci := 7) (v := .ref a2) (C := RX7) (T := TX7) (N := 18) hx hb hts hi_X7 hown hK hP 0 rfl rfl 2 (by decide) k_f20 (fun _ h9 => h9) rfl dX7_tongue_1 ?_
  refine va_get (D := (dC, dI)) (ci := 4) (v := .int (nI z)) (C := RX4) (T := TX4) (N := 2) hx hb hts hi_X4 hown hK hP 1 rfl rfl 1 (by decide) k_f99 (fun _ h9 => h9) rfl dX7_tongue_4 ?_
  refine lv_bipush (v := 8) hx hb dX7_tongue_7 (by decide) ?_
  refine lv_icmp_lt (tgt := 18) hx hb dX7_tongue_9 (by decide) (fun c_9 => ?_) (fun c_9 => ?_)
  · have n_9 : z < 8 := (nI_ltI (a := z) (b := 8) (by omega) (by omega)).mp c_9
    refine lv_aload_n hx hb dX7_tongue_18 rfl (lv_at hl 0 rfl) ?_
    refine va_get (D := (dC, dI)) (ci := 7) (v := .ref a2) (C := RX7) (T := TX7) (N := 18) hx hb hts hi_X7 hown hK hP 0 rfl rfl 2 (by decide) k_f20 (fun _ h9 => h9) rfl dX7_tongue_19 ?_
    refine lv_dup hx hb dX7_tongue_22 rfl ?_
    refine va_get (D := (dC, dI)) (ci := 4) (v := .int (nI z)) (C := RX4) (T := TX4) (N := 2) hx hb hts hi_X4 hown hK hP 1 rfl rfl 1 (by decide) k_f99 (fun _ h9 => h9) rfl dX7_tongue_23 ?_
    refine lv_iconst (v := 1) hx hb dX7_tongue_26 (by decide) ?_
    refine lv_iadd hx hb dX7_tongue_27 ?_
    refine lv_topi (fun x_27 ex_27 => ?_)
    obtain rfl : nI (z + 1) = x_27 := Eq.symm (ex_27.trans (nI_add z 1))
    refine va_put (D := (dC, dI)) (ci := 4) (v := .int (nI (z + 1))) (ty := .int) (C := RX4) (T := TX4) (N := 2) hx hb hts hi_X4 tyX4 tyX4_ok nmX4 hown hK hP hD hS 1 rfl rfl 1 (by decide) k_f99 (fun _ h9 => h9) rfl (by decide +kernel) rfl rfl (Nat.le_of_ble_eq_true rfl) dX7_tongue_28 (fun H locs hP hD hS => ?_)
    replace hP : va_P (dC, dI) vwCl [(h0, .inr (7, [.ref a0, .int (nI ts), .ref a2, .ref a3, .int v4, .int v5, .ref a6, .ref a7, .ref a8, .int (nI v9), .int (nI v10), .ref a11, .ref a12, .int v13, .ref a14, .ref a15, .ref a16, .int v17])), (a2, .inr (4, [.ref b0, .int (nI (z + 1))]))] H := hP
    replace hD : va_D A [(h0, .inr (7, [.ref a0, .int (nI ts), .ref a2, .ref a3, .int v4, .int v5, .ref a6, .ref a7, .ref a8, .int (nI v9), .int (nI v10), .ref a11, .ref a12, .int v13, .ref a14, .ref a15, .ref a16, .int v17])), (a2, .inr (4, [.ref b0, .int (nI (z + 1))]))] := hD
    refine lv_aload_n hx hb dX7_tongue_31 rfl (lv_at hl 0 rfl) ?_
    refine lv_aload_n hx hb dX7_tongue_32 rfl (lv_at hl 0 rfl) ?_
    refine va_get (D := (dC, dI)) (ci := 7) (v := .ref a2) (C := RX7) (T := TX7) (N := 18) hx hb hts hi_X7 hown hK hP 0 rfl rfl 2 (by decide) k_f20 (fun _ h9 => h9) rfl dX7_tongue_33 ?_
    refine va_get (D := (dC, dI)) (ci := 4) (v := .int (nI (z + 1))) (C := RX4) (T := TX4) (N := 2) hx hb hts hi_X4 hown hK hP 1 rfl rfl 1 (by decide) k_f99 (fun _ h9 => h9) rfl dX7_tongue_36 ?_
    refine lv_iconst (v := 1) hx hb dX7_tongue_39 (by decide) ?_
    refine lv_isub hx hb dX7_tongue_40 ?_
    refine lv_topi (fun x_40 ex_40 => ?_)
    obtain rfl : nI ((z + 1) - 1) = x_40 := Eq.symm (ex_40.trans (pk_sub (a := z + 1) (b := 1) (by omega)))
    have hPc := hP.sub (ws' := [(h0, .inr (7, [.ref a0, .int (nI ts), .ref a2, .ref a3, .int v4, .int v5, .ref a6, .ref a7, .ref a8, .int (nI v9), .int (nI v10), .ref a11, .ref a12, .int v13, .ref a14, .ref a15, .ref a16, .int v17]))]) [0] rfl
    have hDc := hD.sub (ws' := [(h0, .inr (7, [.ref a0, .int (nI ts), .ref a2, .ref a3, .int v4, .int v5, .ref a6, .ref a7, .ref a8, .int (nI v9), .int (nI v10), .ref a11, .ref a12, .int v13, .ref a14, .ref a15, .ref a16, .int v17]))]) [0] (by decide) rfl
    have hKc := hK.sub (tys' := []) [] rfl
    have hFc := va_free (wc := [(h0, .inr (7, [.ref a0, .int (nI ts), .ref a2, .ref a3, .int v4, .int v5, .ref a6, .ref a7, .ref a8, .int (nI v9), .int (nI v10), .ref a11, .ref a12, .int v13, .ref a14, .ref a15, .ref a16, .int v17]))]) hD hS hA [0] rfl
    refine va_calli (va_runV (As := [.int (nI ((z + 1) - 1))]) (rest := []) ⟨hx, hb, hml, hown, hts⟩ (g_X7_grant l dC dI h0 a0 ts a2 a3 v4 v5 a6 a7 a8 v9 v10 a11 a12 v13 a14 a15 a16 v17 (nI ((z + 1) - 1)) H.size) (cwV 1 hts gX7_tongue_X7_grant rfl rfl rfl (by decide +kernel) ⟨Nat.le_of_ble_eq_true rfl, Nat.le_of_ble_eq_true rfl⟩) ⟨fun a U g mk q => by obtain ⟨q0, q1, qP, qK, qD⟩ := q; exact ⟨q0, q1, qP, va_K.moved (u := U) (U := U.calling g mk a) (Vm.Alike.refl U.vm) qK, qD⟩, va_recv hK hP (ci := 7) (q0 := 0) rfl rfl, fun U hU hW => ⟨rfl, by rw [hU], by rw [hU]; exact hPc, va_K.moved hW.alike hKc, hDc.weaken (fun _ _ _ _ => trivial)⟩⟩ rfl rfl hl.1 rfl (lv_room (Nat.le_of_ble_eq_true rfl)) dX7_tongue_41 ⟨Nat.le_of_ble_eq_true rfl, Nat.le_of_ble_eq_true rfl⟩) hS (fun q _ h => hFc q h) hFc (fun r_41 u t H1 locs ht hvm hw_41 hB hz1 hk1 hS => ?_)
    obtain ⟨hP1, hD1⟩ := hB
    rw [ht] at hP1
    obtain ⟨hP, hD⟩ := va_join (wr := [(a2, .inr (4, [.ref b0, .int (nI (z + 1))]))]) (w1 := [(h0, .inr (7, [.ref a0, .int (nI ts), .ref a2, .ref a3, .int v4, .int v5, .ref a6, .ref a7, .ref a8, .int (nI v9), .int (nI v10), .ref a11, .ref a12, .int v13, .ref a14, .ref a15, .ref a16, .int 0]))]) hP hD [0] [1] rfl rfl (by decide) (by decide) hk1 hFc hP1 hD1
    generalize H1 = H at hP hS ⊢
    replace hP : va_P (dC, dI) vwCl [(a2, .inr (4, [.ref b0, .int (nI (z + 1))])), (h0, .inr (7, [.ref a0, .int (nI ts), .ref a2, .ref a3, .int v4, .int v5, .ref a6, .ref a7, .ref a8, .int (nI v9), .int (nI v10), .ref a11, .ref a12, .int v13, .ref a14, .ref a15, .ref a16, .int 0]))] H := hP
    replace hD : va_D A [(a2, .inr (4, [.ref b0, .int (nI (z + 1))])), (h0, .inr (7, [.ref a0, .int (nI ts), .ref a2, .ref a3, .int v4, .int v5, .ref a6, .ref a7, .ref a8, .int (nI v9), .int (nI v10), .ref a11, .ref a12, .int v13, .ref a14, .ref a15, .ref a16, .int 0]))] := hD
    obtain rfl : (nI ((z + 1) - 1)) = r_41 := Eq.symm hw_41
    have hP9 := hP.sub (ws' := [(h0, .inr (7, [.ref a0, .int (nI ts), .ref a2, .ref a3, .int v4, .int v5, .ref a6, .ref a7, .ref a8, .int (nI v9), .int (nI v10), .ref a11, .ref a12, .int v13, .ref a14, .ref a15, .ref a16, .int 0])), (a2, .inr (4, [.ref b0, .int (nI (z + 1))]))]) [1, 0] rfl
    have hD9 := hD.sub (ws' := [(h0, .inr (7, [.ref a0, .int (nI ts), .ref a2, .ref a3, .int v4, .int v5, .ref a6, .ref a7, .ref a8, .int (nI v9), .int (nI v10), .ref a11, .ref a12, .int v13, .ref a14, .ref a15, .ref a16, .int 0])), (a2, .inr (4, [.ref b0, .int (nI (z + 1))]))]) [1, 0] (by decide) rfl
    exact W.iret (v := (nI ((z + 1) - 1))) hx hb hr (fun t ht hW => ⟨⟨(nI ((z + 1) - 1)), ((z + 1), 0), rfl, by exact ⟨fun _ => ⟨rfl, rfl, rfl⟩, fun h => absurd n_9 h⟩, by rw [ht]; exact hP9, hD9⟩, hS.F ht⟩) hS.2.2 dX7_tongue_44
  · have n_9 : 8 ≤ z := Nat.not_lt.mp (fun h9 => c_9 ((nI_ltI (a := z) (b := 8) (by omega) (by omega)).mpr h9))
    refine lv_aload_n hx hb dX7_tongue_12 rfl (lv_at hl 0 rfl) ?_
    refine lv_iconst (v := 3) hx hb dX7_tongue_13 (by decide) ?_
    have hPc := hP.sub (ws' := [(h0, .inr (7, [.ref a0, .int (nI ts), .ref a2, .ref a3, .int v4, .int v5, .ref a6, .ref a7, .ref a8, .int (nI v9), .int (nI v10), .ref a11, .ref a12, .int v13, .ref a14, .ref a15, .ref a16, .int v17]))]) [0] rfl
    have hDc := hD.sub (ws' := [(h0, .inr (7, [.ref a0, .int (nI ts), .ref a2, .ref a3, .int v4, .int v5, .ref a6, .ref a7, .ref a8, .int (nI v9), .int (nI v10), .ref a11, .ref a12, .int v13, .ref a14, .ref a15, .ref a16, .int v17]))]) [0] (by decide) rfl
    have hKc := hK.sub (tys' := []) [] rfl
    have hFc := va_free (wc := [(h0, .inr (7, [.ref a0, .int (nI ts), .ref a2, .ref a3, .int v4, .int v5, .ref a6, .ref a7, .ref a8, .int (nI v9), .int (nI v10), .ref a11, .ref a12, .int v13, .ref a14, .ref a15, .ref a16, .int v17]))]) hD hS hA [0] rfl
    refine va_calli (va_runV (As := [.int 3]) (rest := []) ⟨hx, hb, hml, hown, hts⟩ (g_X7_refuse l dC dI h0 a0 ts a2 a3 v4 v5 a6 a7 a8 v9 v10 a11 a12 v13 a14 a15 a16 v17 3 s.heap.size) (cwV 1 hts gX7_tongue_X7_refuse rfl rfl rfl (by decide +kernel) ⟨Nat.le_of_ble_eq_true rfl, Nat.le_of_ble_eq_true rfl⟩) ⟨fun a U g mk q => by obtain ⟨q0, q1, qP, qK, qD⟩ := q; exact ⟨q0, q1, qP, va_K.moved (u := U) (U := U.calling g mk a) (Vm.Alike.refl U.vm) qK, qD⟩, va_recv hK hP (ci := 7) (q0 := 0) rfl rfl, fun U hU hW => ⟨rfl, by rw [hU], by rw [hU]; exact hPc, va_K.moved hW.alike hKc, hDc.weaken (fun _ _ _ _ => trivial)⟩⟩ rfl rfl hl.1 rfl (lv_room (Nat.le_of_ble_eq_true rfl)) dX7_tongue_14 ⟨Nat.le_of_ble_eq_true rfl, Nat.le_of_ble_eq_true rfl⟩) hS (fun q _ h => hFc q h) hFc (fun r_14 u t H1 locs ht hvm hw_14 hB hz1 hk1 hS => ?_)
    obtain ⟨hP1, hD1⟩ := hB
    rw [ht] at hP1
    obtain ⟨hP, hD⟩ := va_join (wr := [(a2, .inr (4, [.ref b0, .int (nI z)]))]) (w1 := [(h0, .inr (7, [.ref a0, .int (nI ts), .ref a2, .ref a3, .int v4, .int v5, .ref a6, .ref a7, .ref a8, .int (nI v9), .int (nI v10), .ref a11, .ref a12, .int v13, .ref a14, .ref a15, .ref a16, .int 3]))]) hP hD [0] [1] rfl rfl (by decide) (by decide) hk1 hFc hP1 hD1
    generalize H1 = H at hP hS ⊢
    replace hP : va_P (dC, dI) vwCl [(a2, .inr (4, [.ref b0, .int (nI z)])), (h0, .inr (7, [.ref a0, .int (nI ts), .ref a2, .ref a3, .int v4, .int v5, .ref a6, .ref a7, .ref a8, .int (nI v9), .int (nI v10), .ref a11, .ref a12, .int v13, .ref a14, .ref a15, .ref a16, .int 3]))] H := hP
    replace hD : va_D A [(a2, .inr (4, [.ref b0, .int (nI z)])), (h0, .inr (7, [.ref a0, .int (nI ts), .ref a2, .ref a3, .int v4, .int v5, .ref a6, .ref a7, .ref a8, .int (nI v9), .int (nI v10), .ref a11, .ref a12, .int v13, .ref a14, .ref a15, .ref a16, .int 3]))] := hD
    obtain rfl : (-1) = r_14 := Eq.symm hw_14
    have hP9 := hP.sub (ws' := [(h0, .inr (7, [.ref a0, .int (nI ts), .ref a2, .ref a3, .int v4, .int v5, .ref a6, .ref a7, .ref a8, .int (nI v9), .int (nI v10), .ref a11, .ref a12, .int v13, .ref a14, .ref a15, .ref a16, .int 3])), (a2, .inr (4, [.ref b0, .int (nI z)]))]) [1, 0] rfl
    have hD9 := hD.sub (ws' := [(h0, .inr (7, [.ref a0, .int (nI ts), .ref a2, .ref a3, .int v4, .int v5, .ref a6, .ref a7, .ref a8, .int (nI v9), .int (nI v10), .ref a11, .ref a12, .int v13, .ref a14, .ref a15, .ref a16, .int 3])), (a2, .inr (4, [.ref b0, .int (nI z)]))]) [1, 0] (by decide) rfl
    exact W.iret (v := (-1)) hx hb hr (fun t ht hW => ⟨⟨(-1), (z, 3), rfl, by exact ⟨fun h => absurd h (by omega), fun _ => ⟨rfl, rfl, rfl⟩⟩, by rw [ht]; exact hP9, hD9⟩, hS.F ht⟩) hS.2.2 dX7_tongue_17

set_option maxHeartbeats 4000000 in
set_option maxRecDepth 100000 in
theorem g_X7_set (l : Launch) (dC : Nat → ClassId) (dI : Nat → Nat → Nat) (h0 : Nat) (a0 : Nat) (ts : Nat) (a2 : Nat) (a3 : Nat) (v4 : Int32) (v5 : Int32) (a6 : Nat) (a7 : Nat) (a8 : Nat) (v9 : Nat) (v10 : Nat) (a11 : Nat) (a12 : Nat) (v13 : Int32) (a14 : Nat) (a15 : Nat) (a16 : Nat) (v17 : Int32) (p0 : Int32) (p1 : Int32) (sz : Nat) : Met l yX7_set wsX7_set ({ frames := 1, cells := 0, slots := 0, locals := 21 }) (va_Pc [.ref h0, .int p0, .int p1] (fun U => U.heap.size = sz ∧ va_P (dC, dI) vwCl [(h0, .inr (7, [.ref a0, .int (nI ts), .ref a2, .ref a3, .int v4, .int v5, .ref a6, .ref a7, .ref a8, .int (nI v9), .int (nI v10), .ref a11, .ref a12, .int v13, .ref a14, .ref a15, .ref a16, .int v17]))] U.heap ∧ va_K (dC, dI) vwCl [] U ∧ va_D (fun _ => True) [(h0, .inr (7, [.ref a0, .int (nI ts), .ref a2, .ref a3, .int v4, .int v5, .ref a6, .ref a7, .ref a8, .int (nI v9), .int (nI v10), .ref a11, .ref a12, .int v13, .ref a14, .ref a15, .ref a16, .int v17]))])) (va_Qi (fun (r : Int32) (u : Nat × Nat × Int32) => match u with | (u1, u2, u3) => ((r = 1 ∧ (st_ok p0 p1)) ∨ (r = 0 ∧ ¬ (st_ok p0 p1))) ∧ ((st_ok p0 p1 → p0 = nI u1 ∧ p1 = nI u2 ∧ u1 ≤ 2000 ∧ 1 ≤ u2 ∧ u2 ≤ 5000 ∧ u3 = 0) ∧ (¬ st_ok p0 p1 → u1 = v9 ∧ u2 = v10 ∧ u3 = 2))) (fun (u : Nat × Nat × Int32) (t : State) => match u with | (u1, u2, u3) => va_P (dC, dI) vwCl [(h0, .inr (7, [.ref a0, .int (nI ts), .ref a2, .ref a3, .int v4, .int v5, .ref a6, .ref a7, .ref a8, .int (nI u1), .int (nI u2), .ref a11, .ref a12, .int v13, .ref a14, .ref a15, .ref a16, .int u3]))] t.heap ∧ va_D (va_A [(h0, .inr (7, [.ref a0, .int (nI ts), .ref a2, .ref a3, .int v4, .int v5, .ref a6, .ref a7, .ref a8, .int (nI v9), .int (nI v10), .ref a11, .ref a12, .int v13, .ref a14, .ref a15, .ref a16, .int v17]))] sz) [(h0, .inr (7, [.ref a0, .int (nI ts), .ref a2, .ref a3, .int v4, .int v5, .ref a6, .ref a7, .ref a8, .int (nI u1), .int (nI u2), .ref a11, .ref a12, .int v13, .ref a14, .ref a15, .ref a16, .int u3]))]) (va_A [(h0, .inr (7, [.ref a0, .int (nI ts), .ref a2, .ref a3, .int v4, .int v5, .ref a6, .ref a7, .ref a8, .int (nI v9), .int (nI v10), .ref a11, .ref a12, .int v13, .ref a14, .ref a15, .ref a16, .int v17]))] sz)) 0 0 (va_A [(h0, .inr (7, [.ref a0, .int (nI ts), .ref a2, .ref a3, .int v4, .int v5, .ref a6, .ref a7, .ref a8, .int (nI v9), .int (nI v10), .ref a11, .ref a12, .int v13, .ref a14, .ref a15, .ref a16, .int v17]))] sz) := by
  refine Met.ofW (cc := cX7_set) (maxL := 3) (ret := (some .boolean)) (by decide) rfl ?_
  intro p e s m args below meth c s₁ B hml hv
  obtain ⟨rfl, hsz, hP, hK, hD0⟩ := hv
  have hx := B.exec
  have hb := B.bytes
  have hr := B.returns
  have hts := atoms_spec (ws := wsX7_set) B.pre
  have hown : s.vm.findClass RX7 = some m.cls := findClass_of_methodNamed B.named
  have hlocks := B.notSynchronized
  subst hsz
  have hD := hD0.self (sz := s.heap.size)
  clear hD0
  generalize hAe : va_A [(h0, .inr (7, [.ref a0, .int (nI ts), .ref a2, .ref a3, .int v4, .int v5, .ref a6, .ref a7, .ref a8, .int (nI v9), .int (nI v10), .ref a11, .ref a12, .int v13, .ref a14, .ref a15, .ref a16, .int v17]))] s.heap.size = A at hD ⊢
  have hA : ∀ q : Nat, s.heap.size ≤ q → A q := fun q h => by rw [← hAe]; exact Or.inr h
  clear hAe
  have hS : va_S A s.heap s.heap [] := va_S.rf
  replace hP : va_P (dC, dI) vwCl [(h0, .inr (7, [.ref a0, .int (nI ts), .ref a2, .ref a3, .int v4, .int v5, .ref a6, .ref a7, .ref a8, .int (nI v9), .int (nI v10), .ref a11, .ref a12, .int v13, .ref a14, .ref a15, .ref a16, .int v17]))] s.heap := hP
  have hl := lv_entry ([.ref h0, .int p0, .int p1]) (n := 3) (Nat.le_of_ble_eq_true rfl)
  rw [lg_entry_eq]
  generalize (lg_sl ([.ref h0, .int p0, .int p1]) ++ List.replicate (3 - (lg_sl ([.ref h0, .int p0, .int p1])).length) Slot.unset).toArray = ls at hl ⊢
  replace hl : lv_has ls 3 [(0, .ref h0), (1, .int p0), (2, .int p1)] := hl
  have hi_X7 : ∀ w ∈ wsX70, w ∈ wsX7_set := by decide +kernel
  have k_f52 := hts (.fieldLink RX7 52 "TongueTeller" "change" "I") (by decide +kernel)
  have k_f55 := hts (.fieldLink RX7 55 "TongueTeller" "gap" "I") (by decide +kernel)
  refine lv_iload_n hx hb dX7_set_0 rfl (lv_at hl 1 rfl) ?_
  refine lv_if_lt (tgt := 23) hx hb dX7_set_1 (by decide) (fun c_1 => ?_) (fun c_1 => ?_)
  · refine lv_aload_n hx hb dX7_set_23 rfl (lv_at hl 0 rfl) ?_
    refine lv_iconst (v := 2) hx hb dX7_set_24 (by decide) ?_
    have hPc := hP.sub (ws' := [(h0, .inr (7, [.ref a0, .int (nI ts), .ref a2, .ref a3, .int v4, .int v5, .ref a6, .ref a7, .ref a8, .int (nI v9), .int (nI v10), .ref a11, .ref a12, .int v13, .ref a14, .ref a15, .ref a16, .int v17]))]) [0] rfl
    have hDc := hD.sub (ws' := [(h0, .inr (7, [.ref a0, .int (nI ts), .ref a2, .ref a3, .int v4, .int v5, .ref a6, .ref a7, .ref a8, .int (nI v9), .int (nI v10), .ref a11, .ref a12, .int v13, .ref a14, .ref a15, .ref a16, .int v17]))]) [0] (by decide) rfl
    have hKc := hK.sub (tys' := []) [] rfl
    have hFc := va_free (wc := [(h0, .inr (7, [.ref a0, .int (nI ts), .ref a2, .ref a3, .int v4, .int v5, .ref a6, .ref a7, .ref a8, .int (nI v9), .int (nI v10), .ref a11, .ref a12, .int v13, .ref a14, .ref a15, .ref a16, .int v17]))]) hD hS hA [0] rfl
    refine va_calli (va_runV (As := [.int 2]) (rest := []) ⟨hx, hb, hml, hown, hts⟩ (g_X7_refuse l dC dI h0 a0 ts a2 a3 v4 v5 a6 a7 a8 v9 v10 a11 a12 v13 a14 a15 a16 v17 2 s.heap.size) (cwV 1 hts gX7_set_X7_refuse rfl rfl rfl (by decide +kernel) ⟨Nat.le_of_ble_eq_true rfl, Nat.le_of_ble_eq_true rfl⟩) ⟨fun a U g mk q => by obtain ⟨q0, q1, qP, qK, qD⟩ := q; exact ⟨q0, q1, qP, va_K.moved (u := U) (U := U.calling g mk a) (Vm.Alike.refl U.vm) qK, qD⟩, va_recv hK hP (ci := 7) (q0 := 0) rfl rfl, fun U hU hW => ⟨rfl, by rw [hU], by rw [hU]; exact hPc, va_K.moved hW.alike hKc, hDc.weaken (fun _ _ _ _ => trivial)⟩⟩ rfl rfl hl.1 rfl (lv_room (Nat.le_of_ble_eq_true rfl)) dX7_set_25 ⟨Nat.le_of_ble_eq_true rfl, Nat.le_of_ble_eq_true rfl⟩) hS (fun q _ h => hFc q h) hFc (fun r_25 u t H1 locs ht hvm hw_25 hB hz1 hk1 hS => ?_)
    obtain ⟨hP1, hD1⟩ := hB
    rw [ht] at hP1
    obtain ⟨hP, hD⟩ := va_join (wr := []) (w1 := [(h0, .inr (7, [.ref a0, .int (nI ts), .ref a2, .ref a3, .int v4, .int v5, .ref a6, .ref a7, .ref a8, .int (nI v9), .int (nI v10), .ref a11, .ref a12, .int v13, .ref a14, .ref a15, .ref a16, .int 2]))]) hP hD [0] [] rfl rfl (by decide) (by decide) hk1 hFc hP1 hD1
    generalize H1 = H at hP hS ⊢
    replace hP : va_P (dC, dI) vwCl [(h0, .inr (7, [.ref a0, .int (nI ts), .ref a2, .ref a3, .int v4, .int v5, .ref a6, .ref a7, .ref a8, .int (nI v9), .int (nI v10), .ref a11, .ref a12, .int v13, .ref a14, .ref a15, .ref a16, .int 2]))] H := hP
    replace hD : va_D A [(h0, .inr (7, [.ref a0, .int (nI ts), .ref a2, .ref a3, .int v4, .int v5, .ref a6, .ref a7, .ref a8, .int (nI v9), .int (nI v10), .ref a11, .ref a12, .int v13, .ref a14, .ref a15, .ref a16, .int 2]))] := hD
    obtain rfl : (-1) = r_25 := Eq.symm hw_25
    refine lv_pop hx hb dX7_set_28 rfl ?_
    refine lv_iconst (v := 0) hx hb dX7_set_29 (by decide) ?_
    have hP9 := hP.sub (ws' := [(h0, .inr (7, [.ref a0, .int (nI ts), .ref a2, .ref a3, .int v4, .int v5, .ref a6, .ref a7, .ref a8, .int (nI v9), .int (nI v10), .ref a11, .ref a12, .int v13, .ref a14, .ref a15, .ref a16, .int 2]))]) [0] rfl
    have hD9 := hD.sub (ws' := [(h0, .inr (7, [.ref a0, .int (nI ts), .ref a2, .ref a3, .int v4, .int v5, .ref a6, .ref a7, .ref a8, .int (nI v9), .int (nI v10), .ref a11, .ref a12, .int v13, .ref a14, .ref a15, .ref a16, .int 2]))]) [0] (by decide) rfl
    exact W.zret (v := 0) hx hb hr (rfl) (fun t ht hW => ⟨⟨0, (v9, v10, 2), rfl, ⟨Or.inr ⟨rfl, by exact fun h => h.1 c_1⟩, by exact ⟨fun h => absurd c_1 h.1, fun _ => ⟨rfl, rfl, rfl⟩⟩⟩, by rw [ht]; exact hP9, hD9⟩, hS.F ht⟩) hS.2.2 dX7_set_30
  · refine lv_iload_n hx hb dX7_set_4 rfl (lv_at hl 1 rfl) ?_
    refine lv_sipush (v := 2000) hx hb dX7_set_5 (by decide) ?_
    refine lv_icmp_gt (tgt := 23) hx hb dX7_set_8 (by decide) (fun c_8 => ?_) (fun c_8 => ?_)
    · refine lv_aload_n hx hb dX7_set_23 rfl (lv_at hl 0 rfl) ?_
      refine lv_iconst (v := 2) hx hb dX7_set_24 (by decide) ?_
      have hPc := hP.sub (ws' := [(h0, .inr (7, [.ref a0, .int (nI ts), .ref a2, .ref a3, .int v4, .int v5, .ref a6, .ref a7, .ref a8, .int (nI v9), .int (nI v10), .ref a11, .ref a12, .int v13, .ref a14, .ref a15, .ref a16, .int v17]))]) [0] rfl
      have hDc := hD.sub (ws' := [(h0, .inr (7, [.ref a0, .int (nI ts), .ref a2, .ref a3, .int v4, .int v5, .ref a6, .ref a7, .ref a8, .int (nI v9), .int (nI v10), .ref a11, .ref a12, .int v13, .ref a14, .ref a15, .ref a16, .int v17]))]) [0] (by decide) rfl
      have hKc := hK.sub (tys' := []) [] rfl
      have hFc := va_free (wc := [(h0, .inr (7, [.ref a0, .int (nI ts), .ref a2, .ref a3, .int v4, .int v5, .ref a6, .ref a7, .ref a8, .int (nI v9), .int (nI v10), .ref a11, .ref a12, .int v13, .ref a14, .ref a15, .ref a16, .int v17]))]) hD hS hA [0] rfl
      refine va_calli (va_runV (As := [.int 2]) (rest := []) ⟨hx, hb, hml, hown, hts⟩ (g_X7_refuse l dC dI h0 a0 ts a2 a3 v4 v5 a6 a7 a8 v9 v10 a11 a12 v13 a14 a15 a16 v17 2 s.heap.size) (cwV 1 hts gX7_set_X7_refuse rfl rfl rfl (by decide +kernel) ⟨Nat.le_of_ble_eq_true rfl, Nat.le_of_ble_eq_true rfl⟩) ⟨fun a U g mk q => by obtain ⟨q0, q1, qP, qK, qD⟩ := q; exact ⟨q0, q1, qP, va_K.moved (u := U) (U := U.calling g mk a) (Vm.Alike.refl U.vm) qK, qD⟩, va_recv hK hP (ci := 7) (q0 := 0) rfl rfl, fun U hU hW => ⟨rfl, by rw [hU], by rw [hU]; exact hPc, va_K.moved hW.alike hKc, hDc.weaken (fun _ _ _ _ => trivial)⟩⟩ rfl rfl hl.1 rfl (lv_room (Nat.le_of_ble_eq_true rfl)) dX7_set_25 ⟨Nat.le_of_ble_eq_true rfl, Nat.le_of_ble_eq_true rfl⟩) hS (fun q _ h => hFc q h) hFc (fun r_25 u t H1 locs ht hvm hw_25 hB hz1 hk1 hS => ?_)
      obtain ⟨hP1, hD1⟩ := hB
      rw [ht] at hP1
      obtain ⟨hP, hD⟩ := va_join (wr := []) (w1 := [(h0, .inr (7, [.ref a0, .int (nI ts), .ref a2, .ref a3, .int v4, .int v5, .ref a6, .ref a7, .ref a8, .int (nI v9), .int (nI v10), .ref a11, .ref a12, .int v13, .ref a14, .ref a15, .ref a16, .int 2]))]) hP hD [0] [] rfl rfl (by decide) (by decide) hk1 hFc hP1 hD1
      generalize H1 = H at hP hS ⊢
      replace hP : va_P (dC, dI) vwCl [(h0, .inr (7, [.ref a0, .int (nI ts), .ref a2, .ref a3, .int v4, .int v5, .ref a6, .ref a7, .ref a8, .int (nI v9), .int (nI v10), .ref a11, .ref a12, .int v13, .ref a14, .ref a15, .ref a16, .int 2]))] H := hP
      replace hD : va_D A [(h0, .inr (7, [.ref a0, .int (nI ts), .ref a2, .ref a3, .int v4, .int v5, .ref a6, .ref a7, .ref a8, .int (nI v9), .int (nI v10), .ref a11, .ref a12, .int v13, .ref a14, .ref a15, .ref a16, .int 2]))] := hD
      obtain rfl : (-1) = r_25 := Eq.symm hw_25
      refine lv_pop hx hb dX7_set_28 rfl ?_
      refine lv_iconst (v := 0) hx hb dX7_set_29 (by decide) ?_
      have hP9 := hP.sub (ws' := [(h0, .inr (7, [.ref a0, .int (nI ts), .ref a2, .ref a3, .int v4, .int v5, .ref a6, .ref a7, .ref a8, .int (nI v9), .int (nI v10), .ref a11, .ref a12, .int v13, .ref a14, .ref a15, .ref a16, .int 2]))]) [0] rfl
      have hD9 := hD.sub (ws' := [(h0, .inr (7, [.ref a0, .int (nI ts), .ref a2, .ref a3, .int v4, .int v5, .ref a6, .ref a7, .ref a8, .int (nI v9), .int (nI v10), .ref a11, .ref a12, .int v13, .ref a14, .ref a15, .ref a16, .int 2]))]) [0] (by decide) rfl
      exact W.zret (v := 0) hx hb hr (rfl) (fun t ht hW => ⟨⟨0, (v9, v10, 2), rfl, ⟨Or.inr ⟨rfl, by exact fun h => h.2.1 c_8⟩, by exact ⟨fun h => absurd c_8 h.2.1, fun _ => ⟨rfl, rfl, rfl⟩⟩⟩, by rw [ht]; exact hP9, hD9⟩, hS.F ht⟩) hS.2.2 dX7_set_30
    · refine lv_iload_n hx hb dX7_set_11 rfl (lv_at hl 2 rfl) ?_
      refine lv_iconst (v := 1) hx hb dX7_set_12 (by decide) ?_
      refine lv_icmp_lt (tgt := 23) hx hb dX7_set_13 (by decide) (fun c_13 => ?_) (fun c_13 => ?_)
      · refine lv_aload_n hx hb dX7_set_23 rfl (lv_at hl 0 rfl) ?_
        refine lv_iconst (v := 2) hx hb dX7_set_24 (by decide) ?_
        have hPc := hP.sub (ws' := [(h0, .inr (7, [.ref a0, .int (nI ts), .ref a2, .ref a3, .int v4, .int v5, .ref a6, .ref a7, .ref a8, .int (nI v9), .int (nI v10), .ref a11, .ref a12, .int v13, .ref a14, .ref a15, .ref a16, .int v17]))]) [0] rfl
        have hDc := hD.sub (ws' := [(h0, .inr (7, [.ref a0, .int (nI ts), .ref a2, .ref a3, .int v4, .int v5, .ref a6, .ref a7, .ref a8, .int (nI v9), .int (nI v10), .ref a11, .ref a12, .int v13, .ref a14, .ref a15, .ref a16, .int v17]))]) [0] (by decide) rfl
        have hKc := hK.sub (tys' := []) [] rfl
        have hFc := va_free (wc := [(h0, .inr (7, [.ref a0, .int (nI ts), .ref a2, .ref a3, .int v4, .int v5, .ref a6, .ref a7, .ref a8, .int (nI v9), .int (nI v10), .ref a11, .ref a12, .int v13, .ref a14, .ref a15, .ref a16, .int v17]))]) hD hS hA [0] rfl
        refine va_calli (va_runV (As := [.int 2]) (rest := []) ⟨hx, hb, hml, hown, hts⟩ (g_X7_refuse l dC dI h0 a0 ts a2 a3 v4 v5 a6 a7 a8 v9 v10 a11 a12 v13 a14 a15 a16 v17 2 s.heap.size) (cwV 1 hts gX7_set_X7_refuse rfl rfl rfl (by decide +kernel) ⟨Nat.le_of_ble_eq_true rfl, Nat.le_of_ble_eq_true rfl⟩) ⟨fun a U g mk q => by obtain ⟨q0, q1, qP, qK, qD⟩ := q; exact ⟨q0, q1, qP, va_K.moved (u := U) (U := U.calling g mk a) (Vm.Alike.refl U.vm) qK, qD⟩, va_recv hK hP (ci := 7) (q0 := 0) rfl rfl, fun U hU hW => ⟨rfl, by rw [hU], by rw [hU]; exact hPc, va_K.moved hW.alike hKc, hDc.weaken (fun _ _ _ _ => trivial)⟩⟩ rfl rfl hl.1 rfl (lv_room (Nat.le_of_ble_eq_true rfl)) dX7_set_25 ⟨Nat.le_of_ble_eq_true rfl, Nat.le_of_ble_eq_true rfl⟩) hS (fun q _ h => hFc q h) hFc (fun r_25 u t H1 locs ht hvm hw_25 hB hz1 hk1 hS => ?_)
        obtain ⟨hP1, hD1⟩ := hB
        rw [ht] at hP1
        obtain ⟨hP, hD⟩ := va_join (wr := []) (w1 := [(h0, .inr (7, [.ref a0, .int (nI ts), .ref a2, .ref a3, .int v4, .int v5, .ref a6, .ref a7, .ref a8, .int (nI v9), .int (nI v10), .ref a11, .ref a12, .int v13, .ref a14, .ref a15, .ref a16, .int 2]))]) hP hD [0] [] rfl rfl (by decide) (by decide) hk1 hFc hP1 hD1
        generalize H1 = H at hP hS ⊢
        replace hP : va_P (dC, dI) vwCl [(h0, .inr (7, [.ref a0, .int (nI ts), .ref a2, .ref a3, .int v4, .int v5, .ref a6, .ref a7, .ref a8, .int (nI v9), .int (nI v10), .ref a11, .ref a12, .int v13, .ref a14, .ref a15, .ref a16, .int 2]))] H := hP
        replace hD : va_D A [(h0, .inr (7, [.ref a0, .int (nI ts), .ref a2, .ref a3, .int v4, .int v5, .ref a6, .ref a7, .ref a8, .int (nI v9), .int (nI v10), .ref a11, .ref a12, .int v13, .ref a14, .ref a15, .ref a16, .int 2]))] := hD
        obtain rfl : (-1) = r_25 := Eq.symm hw_25
        refine lv_pop hx hb dX7_set_28 rfl ?_
        refine lv_iconst (v := 0) hx hb dX7_set_29 (by decide) ?_
        have hP9 := hP.sub (ws' := [(h0, .inr (7, [.ref a0, .int (nI ts), .ref a2, .ref a3, .int v4, .int v5, .ref a6, .ref a7, .ref a8, .int (nI v9), .int (nI v10), .ref a11, .ref a12, .int v13, .ref a14, .ref a15, .ref a16, .int 2]))]) [0] rfl
        have hD9 := hD.sub (ws' := [(h0, .inr (7, [.ref a0, .int (nI ts), .ref a2, .ref a3, .int v4, .int v5, .ref a6, .ref a7, .ref a8, .int (nI v9), .int (nI v10), .ref a11, .ref a12, .int v13, .ref a14, .ref a15, .ref a16, .int 2]))]) [0] (by decide) rfl
        exact W.zret (v := 0) hx hb hr (rfl) (fun t ht hW => ⟨⟨0, (v9, v10, 2), rfl, ⟨Or.inr ⟨rfl, by exact fun h => h.2.2.1 c_13⟩, by exact ⟨fun h => absurd c_13 h.2.2.1, fun _ => ⟨rfl, rfl, rfl⟩⟩⟩, by rw [ht]; exact hP9, hD9⟩, hS.F ht⟩) hS.2.2 dX7_set_30
      · refine lv_iload_n hx hb dX7_set_16 rfl (lv_at hl 2 rfl) ?_
        refine lv_sipush (v := 5000) hx hb dX7_set_17 (by decide) ?_
        refine lv_icmp_le (tgt := 31) hx hb dX7_set_20 (by decide) (fun c_20 => ?_) (fun c_20 => ?_)
        · obtain ⟨j0, j1, ep0, ep1, hj0, hj1, hj2⟩ := st_nat ⟨c_1, c_8, c_13, c_20⟩
          subst ep0
          subst ep1
          refine lv_aload_n hx hb dX7_set_31 rfl (lv_at hl 0 rfl) ?_
          refine lv_iload_n hx hb dX7_set_32 rfl (lv_at hl 1 rfl) ?_
          refine va_put (D := (dC, dI)) (ci := 7) (v := .int (nI j0)) (ty := .int) (C := RX7) (T := TX7) (N := 18) hx hb hts hi_X7 tyX7 tyX7_ok nmX7 hown hK hP hD hS 0 rfl rfl 9 (by decide) k_f52 (fun _ h9 => h9) rfl (by decide +kernel) rfl rfl (Nat.le_of_ble_eq_true rfl) dX7_set_33 (fun H locs hP hD hS => ?_)
          replace hP : va_P (dC, dI) vwCl [(h0, .inr (7, [.ref a0, .int (nI ts), .ref a2, .ref a3, .int v4, .int v5, .ref a6, .ref a7, .ref a8, .int (nI j0), .int (nI v10), .ref a11, .ref a12, .int v13, .ref a14, .ref a15, .ref a16, .int v17]))] H := hP
          replace hD : va_D A [(h0, .inr (7, [.ref a0, .int (nI ts), .ref a2, .ref a3, .int v4, .int v5, .ref a6, .ref a7, .ref a8, .int (nI j0), .int (nI v10), .ref a11, .ref a12, .int v13, .ref a14, .ref a15, .ref a16, .int v17]))] := hD
          refine lv_aload_n hx hb dX7_set_36 rfl (lv_at hl 0 rfl) ?_
          refine lv_iload_n hx hb dX7_set_37 rfl (lv_at hl 2 rfl) ?_
          refine va_put (D := (dC, dI)) (ci := 7) (v := .int (nI j1)) (ty := .int) (C := RX7) (T := TX7) (N := 18) hx hb hts hi_X7 tyX7 tyX7_ok nmX7 hown hK hP hD hS 0 rfl rfl 10 (by decide) k_f55 (fun _ h9 => h9) rfl (by decide +kernel) rfl rfl (Nat.le_of_ble_eq_true rfl) dX7_set_38 (fun H locs hP hD hS => ?_)
          replace hP : va_P (dC, dI) vwCl [(h0, .inr (7, [.ref a0, .int (nI ts), .ref a2, .ref a3, .int v4, .int v5, .ref a6, .ref a7, .ref a8, .int (nI j0), .int (nI j1), .ref a11, .ref a12, .int v13, .ref a14, .ref a15, .ref a16, .int v17]))] H := hP
          replace hD : va_D A [(h0, .inr (7, [.ref a0, .int (nI ts), .ref a2, .ref a3, .int v4, .int v5, .ref a6, .ref a7, .ref a8, .int (nI j0), .int (nI j1), .ref a11, .ref a12, .int v13, .ref a14, .ref a15, .ref a16, .int v17]))] := hD
          refine lv_aload_n hx hb dX7_set_41 rfl (lv_at hl 0 rfl) ?_
          refine lv_iconst (v := 0) hx hb dX7_set_42 (by decide) ?_
          have hPc := hP.sub (ws' := [(h0, .inr (7, [.ref a0, .int (nI ts), .ref a2, .ref a3, .int v4, .int v5, .ref a6, .ref a7, .ref a8, .int (nI j0), .int (nI j1), .ref a11, .ref a12, .int v13, .ref a14, .ref a15, .ref a16, .int v17]))]) [0] rfl
          have hDc := hD.sub (ws' := [(h0, .inr (7, [.ref a0, .int (nI ts), .ref a2, .ref a3, .int v4, .int v5, .ref a6, .ref a7, .ref a8, .int (nI j0), .int (nI j1), .ref a11, .ref a12, .int v13, .ref a14, .ref a15, .ref a16, .int v17]))]) [0] (by decide) rfl
          have hKc := hK.sub (tys' := []) [] rfl
          have hFc := va_free (wc := [(h0, .inr (7, [.ref a0, .int (nI ts), .ref a2, .ref a3, .int v4, .int v5, .ref a6, .ref a7, .ref a8, .int (nI j0), .int (nI j1), .ref a11, .ref a12, .int v13, .ref a14, .ref a15, .ref a16, .int v17]))]) hD hS hA [0] rfl
          refine va_calli (va_runV (As := [.int 0]) (rest := []) ⟨hx, hb, hml, hown, hts⟩ (g_X7_grant l dC dI h0 a0 ts a2 a3 v4 v5 a6 a7 a8 j0 j1 a11 a12 v13 a14 a15 a16 v17 0 H.size) (cwV 1 hts gX7_set_X7_grant rfl rfl rfl (by decide +kernel) ⟨Nat.le_of_ble_eq_true rfl, Nat.le_of_ble_eq_true rfl⟩) ⟨fun a U g mk q => by obtain ⟨q0, q1, qP, qK, qD⟩ := q; exact ⟨q0, q1, qP, va_K.moved (u := U) (U := U.calling g mk a) (Vm.Alike.refl U.vm) qK, qD⟩, va_recv hK hP (ci := 7) (q0 := 0) rfl rfl, fun U hU hW => ⟨rfl, by rw [hU], by rw [hU]; exact hPc, va_K.moved hW.alike hKc, hDc.weaken (fun _ _ _ _ => trivial)⟩⟩ rfl rfl hl.1 rfl (lv_room (Nat.le_of_ble_eq_true rfl)) dX7_set_43 ⟨Nat.le_of_ble_eq_true rfl, Nat.le_of_ble_eq_true rfl⟩) hS (fun q _ h => hFc q h) hFc (fun r_43 u t H1 locs ht hvm hw_43 hB hz1 hk1 hS => ?_)
          obtain ⟨hP1, hD1⟩ := hB
          rw [ht] at hP1
          obtain ⟨hP, hD⟩ := va_join (wr := []) (w1 := [(h0, .inr (7, [.ref a0, .int (nI ts), .ref a2, .ref a3, .int v4, .int v5, .ref a6, .ref a7, .ref a8, .int (nI j0), .int (nI j1), .ref a11, .ref a12, .int v13, .ref a14, .ref a15, .ref a16, .int 0]))]) hP hD [0] [] rfl rfl (by decide) (by decide) hk1 hFc hP1 hD1
          generalize H1 = H at hP hS ⊢
          replace hP : va_P (dC, dI) vwCl [(h0, .inr (7, [.ref a0, .int (nI ts), .ref a2, .ref a3, .int v4, .int v5, .ref a6, .ref a7, .ref a8, .int (nI j0), .int (nI j1), .ref a11, .ref a12, .int v13, .ref a14, .ref a15, .ref a16, .int 0]))] H := hP
          replace hD : va_D A [(h0, .inr (7, [.ref a0, .int (nI ts), .ref a2, .ref a3, .int v4, .int v5, .ref a6, .ref a7, .ref a8, .int (nI j0), .int (nI j1), .ref a11, .ref a12, .int v13, .ref a14, .ref a15, .ref a16, .int 0]))] := hD
          obtain rfl : 0 = r_43 := Eq.symm hw_43
          refine lv_pop hx hb dX7_set_46 rfl ?_
          refine lv_iconst (v := 1) hx hb dX7_set_47 (by decide) ?_
          have hP9 := hP.sub (ws' := [(h0, .inr (7, [.ref a0, .int (nI ts), .ref a2, .ref a3, .int v4, .int v5, .ref a6, .ref a7, .ref a8, .int (nI j0), .int (nI j1), .ref a11, .ref a12, .int v13, .ref a14, .ref a15, .ref a16, .int 0]))]) [0] rfl
          have hD9 := hD.sub (ws' := [(h0, .inr (7, [.ref a0, .int (nI ts), .ref a2, .ref a3, .int v4, .int v5, .ref a6, .ref a7, .ref a8, .int (nI j0), .int (nI j1), .ref a11, .ref a12, .int v13, .ref a14, .ref a15, .ref a16, .int 0]))]) [0] (by decide) rfl
          exact W.zret (v := 1) hx hb hr (rfl) (fun t ht hW => ⟨⟨1, (j0, j1, 0), rfl, ⟨Or.inl ⟨rfl, by exact ⟨c_1, c_8, c_13, c_20⟩⟩, by exact ⟨fun _ => ⟨rfl, rfl, hj0, hj1, hj2, rfl⟩, fun h => absurd ⟨c_1, c_8, c_13, c_20⟩ h⟩⟩, by rw [ht]; exact hP9, hD9⟩, hS.F ht⟩) hS.2.2 dX7_set_48
        · refine lv_aload_n hx hb dX7_set_23 rfl (lv_at hl 0 rfl) ?_
          refine lv_iconst (v := 2) hx hb dX7_set_24 (by decide) ?_
          have hPc := hP.sub (ws' := [(h0, .inr (7, [.ref a0, .int (nI ts), .ref a2, .ref a3, .int v4, .int v5, .ref a6, .ref a7, .ref a8, .int (nI v9), .int (nI v10), .ref a11, .ref a12, .int v13, .ref a14, .ref a15, .ref a16, .int v17]))]) [0] rfl
          have hDc := hD.sub (ws' := [(h0, .inr (7, [.ref a0, .int (nI ts), .ref a2, .ref a3, .int v4, .int v5, .ref a6, .ref a7, .ref a8, .int (nI v9), .int (nI v10), .ref a11, .ref a12, .int v13, .ref a14, .ref a15, .ref a16, .int v17]))]) [0] (by decide) rfl
          have hKc := hK.sub (tys' := []) [] rfl
          have hFc := va_free (wc := [(h0, .inr (7, [.ref a0, .int (nI ts), .ref a2, .ref a3, .int v4, .int v5, .ref a6, .ref a7, .ref a8, .int (nI v9), .int (nI v10), .ref a11, .ref a12, .int v13, .ref a14, .ref a15, .ref a16, .int v17]))]) hD hS hA [0] rfl
          refine va_calli (va_runV (As := [.int 2]) (rest := []) ⟨hx, hb, hml, hown, hts⟩ (g_X7_refuse l dC dI h0 a0 ts a2 a3 v4 v5 a6 a7 a8 v9 v10 a11 a12 v13 a14 a15 a16 v17 2 s.heap.size) (cwV 1 hts gX7_set_X7_refuse rfl rfl rfl (by decide +kernel) ⟨Nat.le_of_ble_eq_true rfl, Nat.le_of_ble_eq_true rfl⟩) ⟨fun a U g mk q => by obtain ⟨q0, q1, qP, qK, qD⟩ := q; exact ⟨q0, q1, qP, va_K.moved (u := U) (U := U.calling g mk a) (Vm.Alike.refl U.vm) qK, qD⟩, va_recv hK hP (ci := 7) (q0 := 0) rfl rfl, fun U hU hW => ⟨rfl, by rw [hU], by rw [hU]; exact hPc, va_K.moved hW.alike hKc, hDc.weaken (fun _ _ _ _ => trivial)⟩⟩ rfl rfl hl.1 rfl (lv_room (Nat.le_of_ble_eq_true rfl)) dX7_set_25 ⟨Nat.le_of_ble_eq_true rfl, Nat.le_of_ble_eq_true rfl⟩) hS (fun q _ h => hFc q h) hFc (fun r_25 u t H1 locs ht hvm hw_25 hB hz1 hk1 hS => ?_)
          obtain ⟨hP1, hD1⟩ := hB
          rw [ht] at hP1
          obtain ⟨hP, hD⟩ := va_join (wr := []) (w1 := [(h0, .inr (7, [.ref a0, .int (nI ts), .ref a2, .ref a3, .int v4, .int v5, .ref a6, .ref a7, .ref a8, .int (nI v9), .int (nI v10), .ref a11, .ref a12, .int v13, .ref a14, .ref a15, .ref a16, .int 2]))]) hP hD [0] [] rfl rfl (by decide) (by decide) hk1 hFc hP1 hD1
          generalize H1 = H at hP hS ⊢
          replace hP : va_P (dC, dI) vwCl [(h0, .inr (7, [.ref a0, .int (nI ts), .ref a2, .ref a3, .int v4, .int v5, .ref a6, .ref a7, .ref a8, .int (nI v9), .int (nI v10), .ref a11, .ref a12, .int v13, .ref a14, .ref a15, .ref a16, .int 2]))] H := hP
          replace hD : va_D A [(h0, .inr (7, [.ref a0, .int (nI ts), .ref a2, .ref a3, .int v4, .int v5, .ref a6, .ref a7, .ref a8, .int (nI v9), .int (nI v10), .ref a11, .ref a12, .int v13, .ref a14, .ref a15, .ref a16, .int 2]))] := hD
          obtain rfl : (-1) = r_25 := Eq.symm hw_25
          refine lv_pop hx hb dX7_set_28 rfl ?_
          refine lv_iconst (v := 0) hx hb dX7_set_29 (by decide) ?_
          have hP9 := hP.sub (ws' := [(h0, .inr (7, [.ref a0, .int (nI ts), .ref a2, .ref a3, .int v4, .int v5, .ref a6, .ref a7, .ref a8, .int (nI v9), .int (nI v10), .ref a11, .ref a12, .int v13, .ref a14, .ref a15, .ref a16, .int 2]))]) [0] rfl
          have hD9 := hD.sub (ws' := [(h0, .inr (7, [.ref a0, .int (nI ts), .ref a2, .ref a3, .int v4, .int v5, .ref a6, .ref a7, .ref a8, .int (nI v9), .int (nI v10), .ref a11, .ref a12, .int v13, .ref a14, .ref a15, .ref a16, .int 2]))]) [0] (by decide) rfl
          exact W.zret (v := 0) hx hb hr (rfl) (fun t ht hW => ⟨⟨0, (v9, v10, 2), rfl, ⟨Or.inr ⟨rfl, by exact fun h => c_20 h.2.2.2⟩, by exact ⟨fun h => absurd h.2.2.2 c_20, fun _ => ⟨rfl, rfl, rfl⟩⟩⟩, by rw [ht]; exact hP9, hD9⟩, hS.F ht⟩) hS.2.2 dX7_set_30

set_option maxHeartbeats 4000000 in
set_option maxRecDepth 100000 in
theorem g_X7_pair (l : Launch) (dC : Nat → ClassId) (dI : Nat → Nat → Nat) (h0 : Nat) (a0 : Nat) (ts : Nat) (a2 : Nat) (a3 : Nat) (v4 : Int32) (v5 : Int32) (a6 : Nat) (a7 : Nat) (a8 : Nat) (v9 : Nat) (v10 : Nat) (a11 : Nat) (a12 : Nat) (v13 : Int32) (a14 : Nat) (a15 : Nat) (a16 : Nat) (v17 : Int32) (b0 : Nat) (z : Nat) (kc : ClassId) (f : Nat → Int32) (p0 : Int32) (p1 : Int32) (p2 : Int32) (hz : z ≤ 8) : Met l yX7_pair wsX7_pair ({ frames := 1, cells := 0, slots := 0, locals := 23 }) (va_Pc [.ref h0, .int p0, .int p1, .int p2] (fun U => va_P (dC, dI) vwCl [(h0, .inr (7, [.ref a0, .int (nI ts), .ref a2, .ref a3, .int v4, .int v5, .ref a6, .ref a7, .ref a8, .int (nI v9), .int (nI v10), .ref a11, .ref a12, .int v13, .ref a14, .ref a15, .ref a16, .int v17])), (a2, .inr (4, [.ref b0, .int (nI z)])), (b0, .inl (kc, 6272, .inl f))] U.heap ∧ va_K (dC, dI) vwCl [(kc, .int)] U)) (vp_Si (fun r => ((r = (-1) ∧ ¬ (inT z p0 ∧ inT 28 p1 ∧ inT 28 p2)) ∨ (∃ a b c, a < z ∧ p0 = nI a ∧ b < 28 ∧ p1 = nI b ∧ c < 28 ∧ p2 = nI c ∧ r = f (ix3 a b c))))) 0 0 (fun _ => False) := by
  refine Met.ofW (cc := cX7_pair) (maxL := 4) (ret := (some .int)) (by decide) rfl ?_
  intro p e s m args below meth c s₁ B hml hv
  obtain ⟨rfl, hP, hK⟩ := hv
  have hx := B.exec
  have hb := B.bytes
  have hr := B.returns
  have hts := atoms_spec (ws := wsX7_pair) B.pre
  have hown : s.vm.findClass RX7 = some m.cls := findClass_of_methodNamed B.named
  have hlocks := B.notSynchronized
  replace hP : va_P (dC, dI) vwCl [(h0, .inr (7, [.ref a0, .int (nI ts), .ref a2, .ref a3, .int v4, .int v5, .ref a6, .ref a7, .ref a8, .int (nI v9), .int (nI v10), .ref a11, .ref a12, .int v13, .ref a14, .ref a15, .ref a16, .int v17])), (a2, .inr (4, [.ref b0, .int (nI z)])), (b0, .inl (kc, 6272, .inl f))] s.heap := hP
  have hl := lv_entry ([.ref h0, .int p0, .int p1, .int p2]) (n := 4) (Nat.le_of_ble_eq_true rfl)
  rw [lg_entry_eq]
  generalize (lg_sl ([.ref h0, .int p0, .int p1, .int p2]) ++ List.replicate (4 - (lg_sl ([.ref h0, .int p0, .int p1, .int p2])).length) Slot.unset).toArray = ls at hl ⊢
  replace hl : lv_has ls 4 [(0, .ref h0), (1, .int p0), (2, .int p1), (3, .int p2)] := hl
  have hi_X7 : ∀ w ∈ wsX70, w ∈ wsX7_pair := by decide +kernel
  have k_f20 := hts (.fieldLink RX7 20 "TongueTeller" "tongues" "LTongueTeller$Tongues;") (by decide +kernel)
  refine lv_aload_n hx hb dX7_pair_0 rfl (lv_at hl 0 rfl) ?_
  refine va_get (D := (dC, dI)) (ci := 7) (v := .ref a2) (C := RX7) (T := TX7) (N := 18) hx hb hts hi_X7 hown hK hP 0 rfl rfl 2 (by decide) k_f20 (fun _ h9 => h9) rfl dX7_pair_1 ?_
  refine lv_iload_n hx hb dX7_pair_4 rfl (lv_at hl 1 rfl) ?_
  have hPc := hP.sub (ws' := [(a2, .inr (4, [.ref b0, .int (nI z)]))]) [1] rfl
  have hKc := hK.sub (tys' := []) [] rfl
  refine vp_callSi (W.runV (As := [.int p0]) (rest := []) ⟨hx, hb, hml, hown, hts⟩ (g_X4_has l dC dI a2 b0 z p0 (by first | assumption | omega)) (cwV 1 hts gX7_pair_X4_has rfl rfl rfl (by decide +kernel) ⟨Nat.le_of_ble_eq_true rfl, Nat.le_of_ble_eq_true rfl⟩) ⟨fun a U g mk q => by obtain ⟨q0, qP, qK⟩ := q; exact ⟨q0, qP, va_K.moved (u := U) (U := U.calling g mk a) (Vm.Alike.refl U.vm) qK⟩, va_recv hK hP (ci := 4) (q0 := 1) rfl rfl, fun U hU hW => ⟨rfl, by rw [hU]; exact hPc, va_K.moved hW.alike hKc⟩⟩ rfl rfl hl.1 rfl (lv_room (Nat.le_of_ble_eq_true rfl)) dX7_pair_5 ⟨Nat.le_of_ble_eq_true rfl, Nat.le_of_ble_eq_true rfl⟩) (fun r_5 hw_5 => ?_)
  clear hPc
  rcases hw_5 with ⟨hr_5, hb_5⟩ | ⟨hr_5, hb_5⟩
  · subst hr_5
    obtain ⟨j0, hj0, ep_j0⟩ := hb_5
    subst ep_j0
    refine lv_if_eq (tgt := 25) hx hb dX7_pair_8 (by decide) (fun c_8 => ?_) (fun c_8 => ?_)
    · exact absurd c_8 (by decide)
    refine lv_iload_n hx hb dX7_pair_11 rfl (lv_at hl 2 rfl) ?_
    refine vp_callSi (W.runS (As := [.int p1]) (rest := []) ⟨hx, hb, hml, hown, hts⟩ (g_X7_isSign l dC dI p1) (va_cwS 1 hts gX7_pair_X7_isSign rfl rfl rfl (by decide +kernel) ⟨Nat.le_of_ble_eq_true rfl, Nat.le_of_ble_eq_true rfl⟩) ⟨fun a U g mk q => q, fun U hU hW => ⟨rfl, trivial⟩⟩ rfl rfl hl.1 rfl (lv_room (Nat.le_of_ble_eq_true rfl)) dX7_pair_12 ⟨Nat.le_of_ble_eq_true rfl, Nat.le_of_ble_eq_true rfl⟩) (fun r_12 hw_12 => ?_)
    rcases hw_12 with ⟨hr_12, hb_12⟩ | ⟨hr_12, hb_12⟩
    · subst hr_12
      obtain ⟨j1, hj1, ep_j1⟩ := hb_12
      subst ep_j1
      refine lv_if_eq (tgt := 25) hx hb dX7_pair_15 (by decide) (fun c_15 => ?_) (fun c_15 => ?_)
      · exact absurd c_15 (by decide)
      refine lv_iload_n hx hb dX7_pair_18 rfl (lv_at hl 3 rfl) ?_
      refine vp_callSi (W.runS (As := [.int p2]) (rest := []) ⟨hx, hb, hml, hown, hts⟩ (g_X7_isSign l dC dI p2) (va_cwS 1 hts gX7_pair_X7_isSign rfl rfl rfl (by decide +kernel) ⟨Nat.le_of_ble_eq_true rfl, Nat.le_of_ble_eq_true rfl⟩) ⟨fun a U g mk q => q, fun U hU hW => ⟨rfl, trivial⟩⟩ rfl rfl hl.1 rfl (lv_room (Nat.le_of_ble_eq_true rfl)) dX7_pair_19 ⟨Nat.le_of_ble_eq_true rfl, Nat.le_of_ble_eq_true rfl⟩) (fun r_19 hw_19 => ?_)
      rcases hw_19 with ⟨hr_19, hb_19⟩ | ⟨hr_19, hb_19⟩
      · subst hr_19
        obtain ⟨j2, hj2, ep_j2⟩ := hb_19
        subst ep_j2
        refine lv_if_ne (tgt := 27) hx hb dX7_pair_22 (by decide) (fun c_22 => ?_) (fun c_22 => ?_)
        rotate_left
        · exact absurd c_22 (by decide)
        refine lv_aload_n hx hb dX7_pair_27 rfl (lv_at hl 0 rfl) ?_
        refine va_get (D := (dC, dI)) (ci := 7) (v := .ref a2) (C := RX7) (T := TX7) (N := 18) hx hb hts hi_X7 hown hK hP 0 rfl rfl 2 (by decide) k_f20 (fun _ h9 => h9) rfl dX7_pair_28 ?_
        refine lv_iload_n hx hb dX7_pair_31 rfl (lv_at hl 1 rfl) ?_
        refine lv_iload_n hx hb dX7_pair_32 rfl (lv_at hl 2 rfl) ?_
        refine lv_iload_n hx hb dX7_pair_33 rfl (lv_at hl 3 rfl) ?_
        have hPc := hP.sub (ws' := [(a2, .inr (4, [.ref b0, .int (nI z)])), (b0, .inl (kc, 6272, .inl f))]) [1, 2] rfl
        have hKc := hK.sub (tys' := [(kc, .int)]) [0] rfl
        refine vp_callSi (W.runV (As := [.int (nI j0), .int (nI j1), .int (nI j2)]) (rest := []) ⟨hx, hb, hml, hown, hts⟩ (g_X4_counted l dC dI a2 b0 z kc f j0 j1 j2 (by first | assumption | omega) (by first | assumption | omega) (by first | assumption | omega)) (cwV 3 hts gX7_pair_X4_counted rfl rfl rfl (by decide +kernel) ⟨Nat.le_of_ble_eq_true rfl, Nat.le_of_ble_eq_true rfl⟩) ⟨fun a U g mk q => by obtain ⟨q0, qP, qK⟩ := q; exact ⟨q0, qP, va_K.moved (u := U) (U := U.calling g mk a) (Vm.Alike.refl U.vm) qK⟩, va_recv hK hP (ci := 4) (q0 := 1) rfl rfl, fun U hU hW => ⟨rfl, by rw [hU]; exact hPc, va_K.moved hW.alike hKc⟩⟩ rfl rfl hl.1 rfl (lv_room (Nat.le_of_ble_eq_true rfl)) dX7_pair_34 ⟨Nat.le_of_ble_eq_true rfl, Nat.le_of_ble_eq_true rfl⟩) (fun r_34 hw_34 => ?_)
        clear hPc
        obtain rfl : f (ix3 j0 j1 j2) = r_34 := Eq.symm hw_34
        exact W.iret (v := f (ix3 j0 j1 j2)) hx hb hr (fun t ht hW => ⟨f (ix3 j0 j1 j2), rfl, by exact Or.inr ⟨j0, j1, j2, hj0, rfl, hj1, rfl, hj2, rfl, rfl⟩, ht⟩) (fun _ h => absurd h List.not_mem_nil) dX7_pair_37
      · subst hr_19
        refine lv_if_ne (tgt := 27) hx hb dX7_pair_22 (by decide) (fun c_22 => ?_) (fun c_22 => ?_)
        · exact absurd (by decide) c_22
        refine lv_iconst (v := (-1)) hx hb dX7_pair_25 (by decide) ?_
        exact W.iret (v := (-1)) hx hb hr (fun t ht hW => ⟨(-1), rfl, by exact Or.inl ⟨rfl, fun h9 => hb_19 h9.2.2⟩, ht⟩) (fun _ h => absurd h List.not_mem_nil) dX7_pair_26
    · subst hr_12
      refine lv_if_eq (tgt := 25) hx hb dX7_pair_15 (by decide) (fun c_15 => ?_) (fun c_15 => ?_)
      rotate_left
      · exact absurd (by decide) c_15
      refine lv_iconst (v := (-1)) hx hb dX7_pair_25 (by decide) ?_
      exact W.iret (v := (-1)) hx hb hr (fun t ht hW => ⟨(-1), rfl, by exact Or.inl ⟨rfl, fun h9 => hb_12 h9.2.1⟩, ht⟩) (fun _ h => absurd h List.not_mem_nil) dX7_pair_26
  · subst hr_5
    refine lv_if_eq (tgt := 25) hx hb dX7_pair_8 (by decide) (fun c_8 => ?_) (fun c_8 => ?_)
    rotate_left
    · exact absurd (by decide) c_8
    refine lv_iconst (v := (-1)) hx hb dX7_pair_25 (by decide) ?_
    exact W.iret (v := (-1)) hx hb hr (fun t ht hW => ⟨(-1), rfl, by exact Or.inl ⟨rfl, fun h9 => hb_5 h9.1⟩, ht⟩) (fun _ h => absurd h List.not_mem_nil) dX7_pair_26
