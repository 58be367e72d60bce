set_option maxHeartbeats 4000000 in
set_option maxRecDepth 100000 in
theorem g_X5_begin (l : Launch) (dC : Nat → ClassId) (dI : Nat → Nat → Nat) (h0 : Nat) (c0 : Nat) (b0 : Nat) (h1 : Nat) (m1 : Nat) (w : Nat) (z : Nat) (ch : Nat) (bw : Int32) (ot : Int32) (w2 : Nat) (z2 : Nat) (c2 : Nat) (sz : Nat) : Met l yX5_begin wsX5_begin ({ frames := 0, cells := 0, slots := 0, locals := 0 }) (va_Pc [.ref h0, .int (nI w2), .int (nI z2), .int (nI c2)] (fun U => U.heap.size = sz ∧ va_P (dC, dI) vwCl [(h0, .inr (5, [.ref c0, .ref b0, .ref h1, .ref m1, .int (nI w), .int (nI z), .int (nI ch), .int bw, .int ot]))] U.heap ∧ va_K (dC, dI) vwCl [] U ∧ va_D (fun _ => True) [(h0, .inr (5, [.ref c0, .ref b0, .ref h1, .ref m1, .int (nI w), .int (nI z), .int (nI ch), .int bw, .int ot]))])) (va_Qv (fun (_ : Unit) => True) (fun (_ : Unit) (t : State) => va_P (dC, dI) vwCl [(h0, .inr (5, [.ref c0, .ref b0, .ref h1, .ref m1, .int (nI w2), .int (nI z2), .int (nI c2), .int (-1), .int ot]))] t.heap ∧ va_D (va_A [(h0, .inr (5, [.ref c0, .ref b0, .ref h1, .ref m1, .int (nI w), .int (nI z), .int (nI ch), .int bw, .int ot]))] sz) [(h0, .inr (5, [.ref c0, .ref b0, .ref h1, .ref m1, .int (nI w2), .int (nI z2), .int (nI c2), .int (-1), .int ot]))]) (va_A [(h0, .inr (5, [.ref c0, .ref b0, .ref h1, .ref m1, .int (nI w), .int (nI z), .int (nI ch), .int bw, .int ot]))] sz)) 0 0 (va_A [(h0, .inr (5, [.ref c0, .ref b0, .ref h1, .ref m1, .int (nI w), .int (nI z), .int (nI ch), .int bw, .int ot]))] sz) := by
  refine Met.ofW (cc := cX5_begin) (maxL := 4) (ret := none) (by decide) rfl ?_
  intro p e s m args below meth c s₁ B hml hv
  obtain ⟨rfl, hsz, hP, hK, hD0⟩ := hv
  have hx := B.exec
  have hb := B.bytes
  have hr := B.returns
  have hts := atoms_spec (ws := wsX5_begin) B.pre
  have hown : s.vm.findClass RX5 = some m.cls := findClass_of_methodNamed B.named
  have hlocks := B.notSynchronized
  subst hsz
  have hD := hD0.self (sz := s.heap.size)
  clear hD0
  generalize hAe : va_A [(h0, .inr (5, [.ref c0, .ref b0, .ref h1, .ref m1, .int (nI w), .int (nI z), .int (nI ch), .int bw, .int ot]))] s.heap.size = A at hD ⊢
  have hA : ∀ q : Nat, s.heap.size ≤ q → A q := fun q h => by rw [← hAe]; exact Or.inr h
  clear hAe
  have hS : va_S A s.heap s.heap [] := va_S.rf
  replace hP : va_P (dC, dI) vwCl [(h0, .inr (5, [.ref c0, .ref b0, .ref h1, .ref m1, .int (nI w), .int (nI z), .int (nI ch), .int bw, .int ot]))] s.heap := hP
  have hl := lv_entry ([.ref h0, .int (nI w2), .int (nI z2), .int (nI c2)]) (n := 4) (Nat.le_of_ble_eq_true rfl)
  rw [lg_entry_eq]
  generalize (lg_sl ([.ref h0, .int (nI w2), .int (nI z2), .int (nI c2)]) ++ List.replicate (4 - (lg_sl ([.ref h0, .int (nI w2), .int (nI z2), .int (nI c2)])).length) Slot.unset).toArray = ls at hl ⊢
  replace hl : lv_has ls 4 [(0, .ref h0), (1, .int (nI w2)), (2, .int (nI z2)), (3, .int (nI c2))] := hl
  have hi_X5 : ∀ w ∈ wsX50, w ∈ wsX5_begin := by decide +kernel
  have k_f24 := hts (.fieldLink RX5 24 "TongueTeller$Way" "words" "I") (by decide +kernel)
  have k_f28 := hts (.fieldLink RX5 28 "TongueTeller$Way" "tongues" "I") (by decide +kernel)
  have k_f31 := hts (.fieldLink RX5 31 "TongueTeller$Way" "change" "I") (by decide +kernel)
  have k_f34 := hts (.fieldLink RX5 34 "TongueTeller$Way" "boundWord" "I") (by decide +kernel)
  refine lv_aload_n hx hb dX5_begin_0 rfl (lv_at hl 0 rfl) ?_
  refine lv_iload_n hx hb dX5_begin_1 rfl (lv_at hl 1 rfl) ?_
  refine va_put (D := (dC, dI)) (ci := 5) (v := .int (nI w2)) (ty := .int) (C := RX5) (T := TX5) (N := 9) hx hb hts hi_X5 tyX5 tyX5_ok nmX5 hown hK hP hD hS 0 rfl rfl 4 (by decide) k_f24 (fun _ h9 => h9) rfl (by decide +kernel) rfl rfl (Nat.le_of_ble_eq_true rfl) dX5_begin_2 (fun H locs hP hD hS => ?_)
  replace hP : va_P (dC, dI) vwCl [(h0, .inr (5, [.ref c0, .ref b0, .ref h1, .ref m1, .int (nI w2), .int (nI z), .int (nI ch), .int bw, .int ot]))] H := hP
  replace hD : va_D A [(h0, .inr (5, [.ref c0, .ref b0, .ref h1, .ref m1, .int (nI w2), .int (nI z), .int (nI ch), .int bw, .int ot]))] := hD
  refine lv_aload_n hx hb dX5_begin_5 rfl (lv_at hl 0 rfl) ?_
  refine lv_iload_n hx hb dX5_begin_6 rfl (lv_at hl 2 rfl) ?_
  refine va_put (D := (dC, dI)) (ci := 5) (v := .int (nI z2)) (ty := .int) (C := RX5) (T := TX5) (N := 9) hx hb hts hi_X5 tyX5 tyX5_ok nmX5 hown hK hP hD hS 0 rfl rfl 5 (by decide) k_f28 (fun _ h9 => h9) rfl (by decide +kernel) rfl rfl (Nat.le_of_ble_eq_true rfl) dX5_begin_7 (fun H locs hP hD hS => ?_)
  replace hP : va_P (dC, dI) vwCl [(h0, .inr (5, [.ref c0, .ref b0, .ref h1, .ref m1, .int (nI w2), .int (nI z2), .int (nI ch), .int bw, .int ot]))] H := hP
  replace hD : va_D A [(h0, .inr (5, [.ref c0, .ref b0, .ref h1, .ref m1, .int (nI w2), .int (nI z2), .int (nI ch), .int bw, .int ot]))] := hD
  refine lv_aload_n hx hb dX5_begin_10 rfl (lv_at hl 0 rfl) ?_
  refine lv_iload_n hx hb dX5_begin_11 rfl (lv_at hl 3 rfl) ?_
  refine va_put (D := (dC, dI)) (ci := 5) (v := .int (nI c2)) (ty := .int) (C := RX5) (T := TX5) (N := 9) hx hb hts hi_X5 tyX5 tyX5_ok nmX5 hown hK hP hD hS 0 rfl rfl 6 (by decide) k_f31 (fun _ h9 => h9) rfl (by decide +kernel) rfl rfl (Nat.le_of_ble_eq_true rfl) dX5_begin_12 (fun H locs hP hD hS => ?_)
  replace hP : va_P (dC, dI) vwCl [(h0, .inr (5, [.ref c0, .ref b0, .ref h1, .ref m1, .int (nI w2), .int (nI z2), .int (nI c2), .int bw, .int ot]))] H := hP
  replace hD : va_D A [(h0, .inr (5, [.ref c0, .ref b0, .ref h1, .ref m1, .int (nI w2), .int (nI z2), .int (nI c2), .int bw, .int ot]))] := hD
  refine lv_aload_n hx hb dX5_begin_15 rfl (lv_at hl 0 rfl) ?_
  refine lv_iconst (v := (-1)) hx hb dX5_begin_16 (by decide) ?_
  refine va_put (D := (dC, dI)) (ci := 5) (v := .int (-1)) (ty := .int) (C := RX5) (T := TX5) (N := 9) hx hb hts hi_X5 tyX5 tyX5_ok nmX5 hown hK hP hD hS 0 rfl rfl 7 (by decide) k_f34 (fun _ h9 => h9) rfl (by decide +kernel) rfl rfl (Nat.le_of_ble_eq_true rfl) dX5_begin_17 (fun H locs hP hD hS => ?_)
  replace hP : va_P (dC, dI) vwCl [(h0, .inr (5, [.ref c0, .ref b0, .ref h1, .ref m1, .int (nI w2), .int (nI z2), .int (nI c2), .int (-1), .int ot]))] H := hP
  replace hD : va_D A [(h0, .inr (5, [.ref c0, .ref b0, .ref h1, .ref m1, .int (nI w2), .int (nI z2), .int (nI c2), .int (-1), .int ot]))] := hD
  have hP9 := hP.sub (ws' := [(h0, .inr (5, [.ref c0, .ref b0, .ref h1, .ref m1, .int (nI w2), .int (nI z2), .int (nI c2), .int (-1), .int ot]))]) [0] rfl
  have hD9 := hD.sub (ws' := [(h0, .inr (5, [.ref c0, .ref b0, .ref h1, .ref m1, .int (nI w2), .int (nI z2), .int (nI c2), .int (-1), .int ot]))]) [0] (by decide) rfl
  exact W.vret hx hb hr (fun t ht hW => ⟨⟨(), rfl, trivial, by rw [ht]; exact hP9, hD9⟩, hS.F ht⟩) hS.2.2 dX5_begin_20

set_option maxHeartbeats 4000000 in
set_option maxRecDepth 100000 in
theorem g_X5_leaveOpen (l : Launch) (dC : Nat → ClassId) (dI : Nat → Nat → Nat) (h0 : Nat) (c0 : Nat) (b0 : Nat) (h1 : Nat) (m1 : Nat) (w : Nat) (z : Nat) (ch : Nat) (bw : Int32) (ot : Int32) (p0 : Int32) (p1 : Int32) (sz : Nat) : Met l yX5_leaveOpen wsX5_leaveOpen ({ frames := 0, cells := 0, slots := 0, locals := 0 }) (va_Pc [.ref h0, .int p0, .int p1] (fun U => U.heap.size = sz ∧ va_P (dC, dI) vwCl [(h0, .inr (5, [.ref c0, .ref b0, .ref h1, .ref m1, .int (nI w), .int (nI z), .int (nI ch), .int bw, .int ot]))] U.heap ∧ va_K (dC, dI) vwCl [] U ∧ va_D (fun _ => True) [(h0, .inr (5, [.ref c0, .ref b0, .ref h1, .ref m1, .int (nI w), .int (nI z), .int (nI ch), .int bw, .int ot]))])) (va_Qv (fun (_ : Unit) => True) (fun (_ : Unit) (t : State) => va_P (dC, dI) vwCl [(h0, .inr (5, [.ref c0, .ref b0, .ref h1, .ref m1, .int (nI w), .int (nI z), .int (nI ch), .int p0, .int p1]))] t.heap ∧ va_D (va_A [(h0, .inr (5, [.ref c0, .ref b0, .ref h1, .ref m1, .int (nI w), .int (nI z), .int (nI ch), .int bw, .int ot]))] sz) [(h0, .inr (5, [.ref c0, .ref b0, .ref h1, .ref m1, .int (nI w), .int (nI z), .int (nI ch), .int p0, .int p1]))]) (va_A [(h0, .inr (5, [.ref c0, .ref b0, .ref h1, .ref m1, .int (nI w), .int (nI z), .int (nI ch), .int bw, .int ot]))] sz)) 0 0 (va_A [(h0, .inr (5, [.ref c0, .ref b0, .ref h1, .ref m1, .int (nI w), .int (nI z), .int (nI ch), .int bw, .int ot]))] sz) := by
  refine Met.ofW (cc := cX5_leaveOpen) (maxL := 3) (ret := none) (by decide) rfl ?_
  intro p e s m args below meth c s₁ B hml hv
  obtain ⟨rfl, hsz, hP, hK, hD0⟩ := hv
  have hx := B.exec
  have hb := B.bytes
  have hr := B.returns
  have hts := atoms_spec (ws := wsX5_leaveOpen) B.pre
  have hown : s.vm.findClass RX5 = some m.cls := findClass_of_methodNamed B.named
  have hlocks := B.notSynchronized
  subst hsz
  have hD := hD0.self (sz := s.heap.size)
  clear hD0
  generalize hAe : va_A [(h0, .inr (5, [.ref c0, .ref b0, .ref h1, .ref m1, .int (nI w), .int (nI z), .int (nI ch), .int bw, .int ot]))] s.heap.size = A at hD ⊢
  have hA : ∀ q : Nat, s.heap.size ≤ q → A q := fun q h => by rw [← hAe]; exact Or.inr h
  clear hAe
  have hS : va_S A s.heap s.heap [] := va_S.rf
  replace hP : va_P (dC, dI) vwCl [(h0, .inr (5, [.ref c0, .ref b0, .ref h1, .ref m1, .int (nI w), .int (nI z), .int (nI ch), .int bw, .int ot]))] s.heap := hP
  have hl := lv_entry ([.ref h0, .int p0, .int p1]) (n := 3) (Nat.le_of_ble_eq_true rfl)
  rw [lg_entry_eq]
  generalize (lg_sl ([.ref h0, .int p0, .int p1]) ++ List.replicate (3 - (lg_sl ([.ref h0, .int p0, .int p1])).length) Slot.unset).toArray = ls at hl ⊢
  replace hl : lv_has ls 3 [(0, .ref h0), (1, .int p0), (2, .int p1)] := hl
  have hi_X5 : ∀ w ∈ wsX50, w ∈ wsX5_leaveOpen := by decide +kernel
  have k_f34 := hts (.fieldLink RX5 34 "TongueTeller$Way" "boundWord" "I") (by decide +kernel)
  have k_f37 := hts (.fieldLink RX5 37 "TongueTeller$Way" "openTongues" "I") (by decide +kernel)
  refine lv_aload_n hx hb dX5_leaveOpen_0 rfl (lv_at hl 0 rfl) ?_
  refine lv_iload_n hx hb dX5_leaveOpen_1 rfl (lv_at hl 1 rfl) ?_
  refine va_put (D := (dC, dI)) (ci := 5) (v := .int p0) (ty := .int) (C := RX5) (T := TX5) (N := 9) hx hb hts hi_X5 tyX5 tyX5_ok nmX5 hown hK hP hD hS 0 rfl rfl 7 (by decide) k_f34 (fun _ h9 => h9) rfl (by decide +kernel) rfl rfl (Nat.le_of_ble_eq_true rfl) dX5_leaveOpen_2 (fun H locs hP hD hS => ?_)
  replace hP : va_P (dC, dI) vwCl [(h0, .inr (5, [.ref c0, .ref b0, .ref h1, .ref m1, .int (nI w), .int (nI z), .int (nI ch), .int p0, .int ot]))] H := hP
  replace hD : va_D A [(h0, .inr (5, [.ref c0, .ref b0, .ref h1, .ref m1, .int (nI w), .int (nI z), .int (nI ch), .int p0, .int ot]))] := hD
  refine lv_aload_n hx hb dX5_leaveOpen_5 rfl (lv_at hl 0 rfl) ?_
  refine lv_iload_n hx hb dX5_leaveOpen_6 rfl (lv_at hl 2 rfl) ?_
  refine va_put (D := (dC, dI)) (ci := 5) (v := .int p1) (ty := .int) (C := RX5) (T := TX5) (N := 9) hx hb hts hi_X5 tyX5 tyX5_ok nmX5 hown hK hP hD hS 0 rfl rfl 8 (by decide) k_f37 (fun _ h9 => h9) rfl (by decide +kernel) rfl rfl (Nat.le_of_ble_eq_true rfl) dX5_leaveOpen_7 (fun H locs hP hD hS => ?_)
  replace hP : va_P (dC, dI) vwCl [(h0, .inr (5, [.ref c0, .ref b0, .ref h1, .ref m1, .int (nI w), .int (nI z), .int (nI ch), .int p0, .int p1]))] H := hP
  replace hD : va_D A [(h0, .inr (5, [.ref c0, .ref b0, .ref h1, .ref m1, .int (nI w), .int (nI z), .int (nI ch), .int p0, .int p1]))] := hD
  have hP9 := hP.sub (ws' := [(h0, .inr (5, [.ref c0, .ref b0, .ref h1, .ref m1, .int (nI w), .int (nI z), .int (nI ch), .int p0, .int p1]))]) [0] rfl
  have hD9 := hD.sub (ws' := [(h0, .inr (5, [.ref c0, .ref b0, .ref h1, .ref m1, .int (nI w), .int (nI z), .int (nI ch), .int p0, .int p1]))]) [0] (by decide) rfl
  exact W.vret hx hb hr (fun t ht hW => ⟨⟨(), rfl, trivial, by rw [ht]; exact hP9, hD9⟩, hS.F ht⟩) hS.2.2 dX5_leaveOpen_10

set_option maxHeartbeats 4000000 in
set_option maxRecDepth 100000 in
theorem g_X5_isOpen (l : Launch) (dC : Nat → ClassId) (dI : Nat → Nat → Nat) (h0 : Nat) (c0 : Nat) (b0 : Nat) (h1 : Nat) (m1 : Nat) (w : Nat) (z : Nat) (ch : Nat) (bw : Int32) (ot : Int32) (p0 : Int32) (p1 : Int32) : Met l yX5_isOpen wsX5_isOpen ({ frames := 0, cells := 0, slots := 0, locals := 0 }) (va_Pc [.ref h0, .int p0, .int p1] (fun U => va_P (dC, dI) vwCl [(h0, .inr (5, [.ref c0, .ref b0, .ref h1, .ref m1, .int (nI w), .int (nI z), .int (nI ch), .int bw, .int ot]))] U.heap ∧ va_K (dC, dI) vwCl [] U)) (vp_Si (fun r => ((r = 1 ∧ (isOp bw ot p0 p1)) ∨ (r = 0 ∧ ¬ (isOp bw ot p0 p1))))) 0 0 (fun _ => False) := by
  refine Met.ofW (cc := cX5_isOpen) (maxL := 3) (ret := (some .boolean)) (by decide) rfl ?_
  intro p e s m args below meth c s₁ B hml hv
  obtain ⟨rfl, hP, hK⟩ := hv
  have hx := B.exec
  have hb := B.bytes
  have hr := B.returns
  have hts := atoms_spec (ws := wsX5_isOpen) B.pre
  have hown : s.vm.findClass RX5 = some m.cls := findClass_of_methodNamed B.named
  have hlocks := B.notSynchronized
  replace hP : va_P (dC, dI) vwCl [(h0, .inr (5, [.ref c0, .ref b0, .ref h1, .ref m1, .int (nI w), .int (nI z), .int (nI ch), .int bw, .int ot]))] s.heap := hP
  have hl := lv_entry ([.ref h0, .int p0, .int p1]) (n := 3) (Nat.le_of_ble_eq_true rfl)
  rw [lg_entry_eq]
  generalize (lg_sl ([.ref h0, .int p0, .int p1]) ++ List.replicate (3 - (lg_sl ([.ref h0, .int p0, .int p1])).length) Slot.unset).toArray = ls at hl ⊢
  replace hl : lv_has ls 3 [(0, .ref h0), (1, .int p0), (2, .int p1)] := hl
  have hi_X5 : ∀ w ∈ wsX50, w ∈ wsX5_isOpen := by decide +kernel
  have k_f34 := hts (.fieldLink RX5 34 "TongueTeller$Way" "boundWord" "I") (by decide +kernel)
  have k_f37 := hts (.fieldLink RX5 37 "TongueTeller$Way" "openTongues" "I") (by decide +kernel)
  refine lv_iload_n hx hb dX5_isOpen_0 rfl (lv_at hl 1 rfl) ?_
  refine lv_aload_n hx hb dX5_isOpen_1 rfl (lv_at hl 0 rfl) ?_
  refine va_get (D := (dC, dI)) (ci := 5) (v := .int bw) (C := RX5) (T := TX5) (N := 9) hx hb hts hi_X5 hown hK hP 0 rfl rfl 7 (by decide) k_f34 (fun _ h9 => h9) rfl dX5_isOpen_2 ?_
  refine lv_icmp_ne (tgt := 19) hx hb dX5_isOpen_5 (by decide) (fun c_5 => ?_) (fun c_5 => ?_)
  · refine lv_iconst (v := 1) hx hb dX5_isOpen_19 (by decide) ?_
    refine lv_goto (tgt := 24) hx hb dX5_isOpen_20 (by decide) ?_
    exact W.zret (v := 1) hx hb hr (rfl) (fun t ht hW => ⟨1, rfl, Or.inl ⟨rfl, by exact Or.inl c_5⟩, ht⟩) (fun _ h => absurd h List.not_mem_nil) dX5_isOpen_24
  · refine lv_aload_n hx hb dX5_isOpen_8 rfl (lv_at hl 0 rfl) ?_
    refine va_get (D := (dC, dI)) (ci := 5) (v := .int ot) (C := RX5) (T := TX5) (N := 9) hx hb hts hi_X5 hown hK hP 0 rfl rfl 8 (by decide) k_f37 (fun _ h9 => h9) rfl dX5_isOpen_9 ?_
    refine lv_iload_n hx hb dX5_isOpen_12 rfl (lv_at hl 2 rfl) ?_
    refine lv_ishr hx hb dX5_isOpen_13 ?_
    refine lv_iconst (v := 1) hx hb dX5_isOpen_14 (by decide) ?_
    refine lv_iand hx hb dX5_isOpen_15 ?_
    refine lv_if_eq (tgt := 23) hx hb dX5_isOpen_16 (by decide) (fun c_16 => ?_) (fun c_16 => ?_)
    · refine lv_iconst (v := 0) hx hb dX5_isOpen_23 (by decide) ?_
      exact W.zret (v := 0) hx hb hr (rfl) (fun t ht hW => ⟨0, rfl, Or.inr ⟨rfl, by exact fun h => h.elim (fun h => h c_5) (fun h => h c_16)⟩, ht⟩) (fun _ h => absurd h List.not_mem_nil) dX5_isOpen_24
    · refine lv_iconst (v := 1) hx hb dX5_isOpen_19 (by decide) ?_
      refine lv_goto (tgt := 24) hx hb dX5_isOpen_20 (by decide) ?_
      exact W.zret (v := 1) hx hb hr (rfl) (fun t ht hW => ⟨1, rfl, Or.inl ⟨rfl, by exact Or.inr c_16⟩, ht⟩) (fun _ h => absurd h List.not_mem_nil) dX5_isOpen_24

set_option maxHeartbeats 4000000 in
set_option maxRecDepth 100000 in
theorem g_X5_cheapestAt (l : Launch) (dC : Nat → ClassId) (dI : Nat → Nat → Nat) (h0 : Nat) (c0 : Nat) (b0 : Nat) (h1 : Nat) (m1 : Nat) (w : Nat) (z : Nat) (ch : Nat) (bw : Int32) (ot : Int32) (kc : ClassId) (kb : ClassId) (kh : ClassId) (km : ClassId) (gc : Nat → Nat) (gb : Nat → Nat) (gh : Nat → Nat) (gx : Nat → Nat) (i : Nat) (p1 : Int32) (hw : w ≤ 60) (hz : 0 < z ∧ z ≤ 8) (hch : ch ≤ 2000) (hi : i < 60) (hgb : ∀ t, t < z → gb (i * 8 + t) ≤ 268603456) : Met l yX5_cheapestAt wsX5_cheapestAt ({ frames := 0, cells := 0, slots := 0, locals := 0 }) (va_Pc [.ref h0, .int (nI i), .int p1] (fun U => va_P (dC, dI) vwCl [(h0, .inr (5, [.ref c0, .ref b0, .ref h1, .ref m1, .int (nI w), .int (nI z), .int (nI ch), .int bw, .int ot])), (c0, .inl (kc, 480, .inl (nR gc))), (b0, .inl (kb, 480, .inl (nR gb))), (h1, .inl (kh, 60, .inl (nR gh))), (m1, .inl (km, 60, .inl (nR gx)))] U.heap ∧ va_K (dC, dI) vwCl [(kc, .int), (kb, .int), (kh, .int), (km, .int)] U)) (vp_Si (fun r => r = nI (amN (wF gb p1 ch i) z))) 0 0 (fun _ => False) := by
  refine Met.ofW (cc := cX5_cheapestAt) (maxL := 8) (ret := (some .int)) (by decide) rfl ?_
  intro p e s m args below meth c s₁ B hml hv
  obtain ⟨rfl, hP, hK⟩ := hv
  have hx := B.exec
  have hb := B.bytes
  have hr := B.returns
  have hts := atoms_spec (ws := wsX5_cheapestAt) B.pre
  have hown : s.vm.findClass RX5 = some m.cls := findClass_of_methodNamed B.named
  have hlocks := B.notSynchronized
  replace hP : va_P (dC, dI) vwCl [(h0, .inr (5, [.ref c0, .ref b0, .ref h1, .ref m1, .int (nI w), .int (nI z), .int (nI ch), .int bw, .int ot])), (c0, .inl (kc, 480, .inl (nR gc))), (b0, .inl (kb, 480, .inl (nR gb))), (h1, .inl (kh, 60, .inl (nR gh))), (m1, .inl (km, 60, .inl (nR gx)))] s.heap := hP
  have hl := lv_entry ([.ref h0, .int (nI i), .int p1]) (n := 8) (Nat.le_of_ble_eq_true rfl)
  rw [lg_entry_eq]
  generalize (lg_sl ([.ref h0, .int (nI i), .int p1]) ++ List.replicate (8 - (lg_sl ([.ref h0, .int (nI i), .int p1])).length) Slot.unset).toArray = ls at hl ⊢
  replace hl : lv_has ls 8 [(0, .ref h0), (1, .int (nI i)), (2, .int p1)] := hl
  have hi_X5 : ∀ w ∈ wsX50, w ∈ wsX5_cheapestAt := by decide +kernel
  have k_f28 := hts (.fieldLink RX5 28 "TongueTeller$Way" "tongues" "I") (by decide +kernel)
  have k_f15 := hts (.fieldLink RX5 15 "TongueTeller$Way" "behind" "[I") (by decide +kernel)
  have k_f31 := hts (.fieldLink RX5 31 "TongueTeller$Way" "change" "I") (by decide +kernel)
  refine lv_iconst (v := 0) hx hb dX5_cheapestAt_0 (by decide) ?_
  refine lv_istore_n (lv' := [(3, .int 0), (0, .ref h0), (1, .int (nI i)), (2, .int p1)]) hx hb dX5_cheapestAt_1 rfl hl (by decide) rfl (fun ls hl => ?_)
  refine lv_ldc hx hb hown (hts (.constant RX5 67 (2147483647)) (by decide +kernel)) dX5_cheapestAt_2 ?_
  refine lv_istore (lv' := [(4, .int 2147483647), (3, .int 0), (0, .ref h0), (1, .int (nI i)), (2, .int p1)]) hx hb dX5_cheapestAt_4 hl (by decide) rfl (fun ls hl => ?_)
  refine lv_iconst (v := 0) hx hb dX5_cheapestAt_6 (by decide) ?_
  refine lv_istore (lv' := [(5, .int 0), (4, .int 2147483647), (3, .int 0), (0, .ref h0), (1, .int (nI i)), (2, .int p1)]) hx hb dX5_cheapestAt_7 hl (by decide) rfl (fun ls hl => ?_)
  obtain ⟨k, e_k⟩ : ∃ y : Nat, y = 0 := ⟨_, rfl⟩
  replace hl : lv_has ls 8 [(0, .ref h0), (1, .int (nI i)), (2, .int p1), (3, .int (nI (amN (wF gb p1 ch i) k))), (4, .int (nI (lsN (wF gb p1 ch i) k))), (5, .int (nI k))] := by subst e_k; exact lv_sub hl [3, 4, 5, 2, 1, 0] rfl
  have hk : k ≤ z := by subst e_k; omega
  clear e_k
  obtain ⟨nn9, hnn9⟩ : ∃ q : Nat, z - k < q := ⟨_, Nat.lt_succ_self _⟩
  induction nn9 generalizing k ls with
  | zero => exact absurd hnn9 (Nat.not_lt_zero _)
  | succ nn9 ih9 =>
    refine lv_iload hx hb dX5_cheapestAt_9 (lv_at hl 5 rfl) ?_
    refine lv_aload_n hx hb dX5_cheapestAt_11 rfl (lv_at hl 0 rfl) ?_
    refine va_get (D := (dC, dI)) (ci := 5) (v := .int (nI z)) (C := RX5) (T := TX5) (N := 9) hx hb hts hi_X5 hown hK hP 0 rfl rfl 5 (by decide) k_f28 (fun _ h9 => h9) rfl dX5_cheapestAt_12 ?_
    refine lv_icmp_ge (tgt := 76) hx hb dX5_cheapestAt_15 (by decide) (fun c_15 => ?_) (fun c_15 => ?_)
    · have n_15 : z ≤ k := (nI_leI (a := z) (b := k) (by omega) (by omega)).mp c_15
      refine lv_iload_n hx hb dX5_cheapestAt_76 rfl (lv_at hl 3 rfl) ?_
      exact W.iret (v := nI (amN (wF gb p1 ch i) k)) hx hb hr (fun t ht hW => ⟨nI (amN (wF gb p1 ch i) k), rfl, congrArg (fun y => nI (amN (wF gb p1 ch i) y)) (show k = z by omega), ht⟩) (fun _ h => absurd h List.not_mem_nil) dX5_cheapestAt_77
    · have n_15 : k < z := Nat.not_le.mp (fun h9 => c_15 ((nI_leI (a := z) (b := k) (by omega) (by omega)).mpr h9))
      refine lv_iload_n hx hb dX5_cheapestAt_18 rfl (lv_at hl 2 rfl) ?_
      refine lv_iconst (v := (-1)) hx hb dX5_cheapestAt_19 (by decide) ?_
      refine lv_icmp_eq (tgt := 29) hx hb dX5_cheapestAt_20 (by decide) (fun c_20 => ?_) (fun c_20 => ?_)
      · refine lv_iconst (v := 0) hx hb dX5_cheapestAt_29 (by decide) ?_
        refine lv_goto (tgt := 37) hx hb dX5_cheapestAt_30 (by decide) ?_
        refine lv_istore (lv' := [(6, .int 0), (0, .ref h0), (1, .int (nI i)), (2, .int p1), (3, .int (nI (amN (wF gb p1 ch i) k))), (4, .int (nI (lsN (wF gb p1 ch i) k))), (5, .int (nI k))]) hx hb dX5_cheapestAt_37 hl (by decide) rfl (fun ls hl => ?_)
        refine lv_aload_n hx hb dX5_cheapestAt_39 rfl (lv_at hl 1 rfl) ?_
        refine va_get (D := (dC, dI)) (ci := 5) (v := .ref b0) (C := RX5) (T := TX5) (N := 9) hx hb hts hi_X5 hown hK hP 0 rfl rfl 1 (by decide) k_f15 (fun _ h9 => h9) rfl dX5_cheapestAt_40 ?_
        refine lv_iload_n hx hb dX5_cheapestAt_43 rfl (lv_at hl 2 rfl) ?_
        refine lv_bipush (v := 8) hx hb dX5_cheapestAt_44 (by decide) ?_
        refine lv_imul hx hb dX5_cheapestAt_46 ?_
        refine lv_topi (fun x_46 ex_46 => ?_)
        obtain rfl : nI (i * 8) = x_46 := Eq.symm (ex_46.trans (pk_mul i 8))
        refine lv_iload hx hb dX5_cheapestAt_47 (lv_at hl 6 rfl) ?_
        refine lv_iadd hx hb dX5_cheapestAt_49 ?_
        refine lv_topi (fun x_49 ex_49 => ?_)
        obtain rfl : nI (i * 8 + k) = x_49 := Eq.symm (ex_49.trans (nI_add (i * 8) k))
        refine va_iald hx hb hK hP 2 1 rfl rfl (i := nI (i * 8 + k)) (vp_in_nI (by omega) (by omega)) dX5_cheapestAt_50 ?_
        refine lv_topi (fun x_50 ex_50 => ?_)
        obtain rfl : nI (gb (i * 8 + k)) = x_50 := Eq.symm (ex_50.trans (nR_at (by omega)))
        refine lv_iload hx hb dX5_cheapestAt_51 (lv_at hl 0 rfl) ?_
        refine lv_iadd hx hb dX5_cheapestAt_53 ?_
        refine lv_topi (fun x_53 ex_53 => ?_)
        obtain rfl : nI (gb (i * 8 + k)) = x_53 := Eq.symm (ex_53.trans (nI_add (gb (i * 8 + k)) 0))
        refine lv_istore (lv' := [(7, .int (nI (gb (i * 8 + k)))), (6, .int 0), (0, .ref h0), (1, .int (nI i)), (2, .int p1), (3, .int (nI (amN (wF gb p1 ch i) k))), (4, .int (nI (lsN (wF gb p1 ch i) k))), (5, .int (nI k))]) hx hb dX5_cheapestAt_54 hl (by decide) rfl (fun ls hl => ?_)
        have hb9 := hgb k (by omega)
        have hl9 := lsN_max (wF gb p1 ch i) k
        refine lv_iload hx hb dX5_cheapestAt_56 (lv_at hl 0 rfl) ?_
        refine lv_iload hx hb dX5_cheapestAt_58 (lv_at hl 6 rfl) ?_
        refine lv_icmp_ge (tgt := 70) hx hb dX5_cheapestAt_60 (by decide) (fun c_60 => ?_) (fun c_60 => ?_)
        · have n_60 : (lsN (wF gb p1 ch i) k) ≤ (gb (i * 8 + k)) := (nI_leI (a := (lsN (wF gb p1 ch i) k)) (b := (gb (i * 8 + k))) (by omega) (by omega)).mp c_60
          have eF : wF gb p1 ch i k = gb (i * 8 + k) := wF_0 (Or.inl c_20)
          have h70 : ¬ wF gb p1 ch i k < lsN (wF gb p1 ch i) k := by rw [eF]; omega
          have ea70 : amN (wF gb p1 ch i) (k + 1) = amN (wF gb p1 ch i) k := amN_s.trans (if_neg h70)
          have el70 : lsN (wF gb p1 ch i) (k + 1) = lsN (wF gb p1 ch i) k := (lsN_s.trans (if_neg h70))
          replace hl : lv_has ls 8 [(7, .int (nI (gb (i * 8 + k)))), (6, .int 0), (0, .ref h0), (1, .int (nI i)), (2, .int p1), (3, .int (nI (amN (wF gb p1 ch i) (k + 1)))), (4, .int (nI (lsN (wF gb p1 ch i) (k + 1)))), (5, .int (nI k))] := by rw [ea70, el70]; exact hl
          refine lv_iinc (v := nI (k + 1)) (lv' := [(5, .int (nI (k + 1))), (7, .int (nI (gb (i * 8 + k)))), (6, .int 0), (0, .ref h0), (1, .int (nI i)), (2, .int p1), (3, .int (nI (amN (wF gb p1 ch i) (k + 1)))), (4, .int (nI (lsN (wF gb p1 ch i) (k + 1))))]) hx hb dX5_cheapestAt_70 hl (k := 7) rfl (nI_1 _) (by decide) rfl (fun ls hl => ?_)
          refine lv_goto (tgt := 9) hx hb dX5_cheapestAt_73 (by decide) ?_
          replace hl : lv_has ls 8 [(0, .ref h0), (1, .int (nI i)), (2, .int p1), (3, .int (nI (amN (wF gb p1 ch i) (k + 1)))), (4, .int (nI (lsN (wF gb p1 ch i) (k + 1)))), (5, .int (nI (k + 1)))] := lv_sub hl [3, 4, 5, 6, 7, 0] rfl
          apply ih9 (k := k + 1) <;> first | assumption | omega
        · have n_60 : (gb (i * 8 + k)) < (lsN (wF gb p1 ch i) k) := Nat.not_le.mp (fun h9 => c_60 ((nI_leI (a := (lsN (wF gb p1 ch i) k)) (b := (gb (i * 8 + k))) (by omega) (by omega)).mpr h9))
          refine lv_iload hx hb dX5_cheapestAt_63 (lv_at hl 0 rfl) ?_
          refine lv_istore (lv' := [(4, .int (nI (gb (i * 8 + k)))), (7, .int (nI (gb (i * 8 + k)))), (6, .int 0), (0, .ref h0), (1, .int (nI i)), (2, .int p1), (3, .int (nI (amN (wF gb p1 ch i) k))), (5, .int (nI k))]) hx hb dX5_cheapestAt_65 hl (by decide) rfl (fun ls hl => ?_)
          refine lv_iload hx hb dX5_cheapestAt_67 (lv_at hl 7 rfl) ?_
          refine lv_istore_n (lv' := [(3, .int (nI k)), (4, .int (nI (gb (i * 8 + k)))), (7, .int (nI (gb (i * 8 + k)))), (6, .int 0), (0, .ref h0), (1, .int (nI i)), (2, .int p1), (5, .int (nI k))]) hx hb dX5_cheapestAt_69 rfl hl (by decide) rfl (fun ls hl => ?_)
          have eF : wF gb p1 ch i k = gb (i * 8 + k) := wF_0 (Or.inl c_20)
          have h70 : wF gb p1 ch i k < lsN (wF gb p1 ch i) k := by rw [eF]; omega
          have ea70 : amN (wF gb p1 ch i) (k + 1) = k := amN_s.trans (if_pos h70)
          have el70 : lsN (wF gb p1 ch i) (k + 1) = gb (i * 8 + k) := (lsN_s.trans (if_pos h70)).trans eF
          replace hl : lv_has ls 8 [(3, .int (nI (amN (wF gb p1 ch i) (k + 1)))), (4, .int (nI (lsN (wF gb p1 ch i) (k + 1)))), (7, .int (nI (gb (i * 8 + k)))), (6, .int 0), (0, .ref h0), (1, .int (nI i)), (2, .int p1), (5, .int (nI k))] := by rw [ea70, el70]; exact hl
          refine lv_iinc (v := nI (k + 1)) (lv' := [(5, .int (nI (k + 1))), (3, .int (nI (amN (wF gb p1 ch i) (k + 1)))), (4, .int (nI (lsN (wF gb p1 ch i) (k + 1)))), (7, .int (nI (gb (i * 8 + k)))), (6, .int 0), (0, .ref h0), (1, .int (nI i)), (2, .int p1)]) hx hb dX5_cheapestAt_70 hl (k := 7) rfl (nI_1 _) (by decide) rfl (fun ls hl => ?_)
          refine lv_goto (tgt := 9) hx hb dX5_cheapestAt_73 (by decide) ?_
          replace hl : lv_has ls 8 [(0, .ref h0), (1, .int (nI i)), (2, .int p1), (3, .int (nI (amN (wF gb p1 ch i) (k + 1)))), (4, .int (nI (lsN (wF gb p1 ch i) (k + 1)))), (5, .int (nI (k + 1)))] := lv_sub hl [5, 6, 7, 1, 2, 0] rfl
          apply ih9 (k := k + 1) <;> first | assumption | omega
      · refine lv_iload_n hx hb dX5_cheapestAt_23 rfl (lv_at hl 2 rfl) ?_
        refine lv_iload hx hb dX5_cheapestAt_24 (lv_at hl 5 rfl) ?_
        refine lv_icmp_ne (tgt := 33) hx hb dX5_cheapestAt_26 (by decide) (fun c_26 => ?_) (fun c_26 => ?_)
        · refine lv_aload_n hx hb dX5_cheapestAt_33 rfl (lv_at hl 0 rfl) ?_
          refine va_get (D := (dC, dI)) (ci := 5) (v := .int (nI ch)) (C := RX5) (T := TX5) (N := 9) hx hb hts hi_X5 hown hK hP 0 rfl rfl 6 (by decide) k_f31 (fun _ h9 => h9) rfl dX5_cheapestAt_34 ?_
          refine lv_istore (lv' := [(6, .int (nI ch)), (0, .ref h0), (1, .int (nI i)), (2, .int p1), (3, .int (nI (amN (wF gb p1 ch i) k))), (4, .int (nI (lsN (wF gb p1 ch i) k))), (5, .int (nI k))]) hx hb dX5_cheapestAt_37 hl (by decide) rfl (fun ls hl => ?_)
          refine lv_aload_n hx hb dX5_cheapestAt_39 rfl (lv_at hl 1 rfl) ?_
          refine va_get (D := (dC, dI)) (ci := 5) (v := .ref b0) (C := RX5) (T := TX5) (N := 9) hx hb hts hi_X5 hown hK hP 0 rfl rfl 1 (by decide) k_f15 (fun _ h9 => h9) rfl dX5_cheapestAt_40 ?_
          refine lv_iload_n hx hb dX5_cheapestAt_43 rfl (lv_at hl 2 rfl) ?_
          refine lv_bipush (v := 8) hx hb dX5_cheapestAt_44 (by decide) ?_
          refine lv_imul hx hb dX5_cheapestAt_46 ?_
          refine lv_topi (fun x_46 ex_46 => ?_)
          obtain rfl : nI (i * 8) = x_46 := Eq.symm (ex_46.trans (pk_mul i 8))
          refine lv_iload hx hb dX5_cheapestAt_47 (lv_at hl 6 rfl) ?_
          refine lv_iadd hx hb dX5_cheapestAt_49 ?_
          refine lv_topi (fun x_49 ex_49 => ?_)
          obtain rfl : nI (i * 8 + k) = x_49 := Eq.symm (ex_49.trans (nI_add (i * 8) k))
          refine va_iald hx hb hK hP 2 1 rfl rfl (i := nI (i * 8 + k)) (vp_in_nI (by omega) (by omega)) dX5_cheapestAt_50 ?_
          refine lv_topi (fun x_50 ex_50 => ?_)
          obtain rfl : nI (gb (i * 8 + k)) = x_50 := Eq.symm (ex_50.trans (nR_at (by omega)))
          refine lv_iload hx hb dX5_cheapestAt_51 (lv_at hl 0 rfl) ?_
          refine lv_iadd hx hb dX5_cheapestAt_53 ?_
          refine lv_topi (fun x_53 ex_53 => ?_)
          obtain rfl : nI (gb (i * 8 + k) + ch) = x_53 := Eq.symm (ex_53.trans (nI_add (gb (i * 8 + k)) ch))
          refine lv_istore (lv' := [(7, .int (nI (gb (i * 8 + k) + ch))), (6, .int (nI ch)), (0, .ref h0), (1, .int (nI i)), (2, .int p1), (3, .int (nI (amN (wF gb p1 ch i) k))), (4, .int (nI (lsN (wF gb p1 ch i) k))), (5, .int (nI k))]) hx hb dX5_cheapestAt_54 hl (by decide) rfl (fun ls hl => ?_)
          have hb9 := hgb k (by omega)
          have hl9 := lsN_max (wF gb p1 ch i) k
          refine lv_iload hx hb dX5_cheapestAt_56 (lv_at hl 0 rfl) ?_
          refine lv_iload hx hb dX5_cheapestAt_58 (lv_at hl 6 rfl) ?_
          refine lv_icmp_ge (tgt := 70) hx hb dX5_cheapestAt_60 (by decide) (fun c_60 => ?_) (fun c_60 => ?_)
          · have n_60 : (lsN (wF gb p1 ch i) k) ≤ (gb (i * 8 + k) + ch) := (nI_leI (a := (lsN (wF gb p1 ch i) k)) (b := (gb (i * 8 + k) + ch)) (by omega) (by omega)).mp c_60
            have eF : wF gb p1 ch i k = gb (i * 8 + k) + ch := wF_1 (fun h9 => h9.elim c_20 c_26)
            have h70 : ¬ wF gb p1 ch i k < lsN (wF gb p1 ch i) k := by rw [eF]; omega
            have ea70 : amN (wF gb p1 ch i) (k + 1) = amN (wF gb p1 ch i) k := amN_s.trans (if_neg h70)
            have el70 : lsN (wF gb p1 ch i) (k + 1) = lsN (wF gb p1 ch i) k := (lsN_s.trans (if_neg h70))
            replace hl : lv_has ls 8 [(7, .int (nI (gb (i * 8 + k) + ch))), (6, .int (nI ch)), (0, .ref h0), (1, .int (nI i)), (2, .int p1), (3, .int (nI (amN (wF gb p1 ch i) (k + 1)))), (4, .int (nI (lsN (wF gb p1 ch i) (k + 1)))), (5, .int (nI k))] := by rw [ea70, el70]; exact hl
            refine lv_iinc (v := nI (k + 1)) (lv' := [(5, .int (nI (k + 1))), (7, .int (nI (gb (i * 8 + k) + ch))), (6, .int (nI ch)), (0, .ref h0), (1, .int (nI i)), (2, .int p1), (3, .int (nI (amN (wF gb p1 ch i) (k + 1)))), (4, .int (nI (lsN (wF gb p1 ch i) (k + 1))))]) hx hb dX5_cheapestAt_70 hl (k := 7) rfl (nI_1 _) (by decide) rfl (fun ls hl => ?_)
            refine lv_goto (tgt := 9) hx hb dX5_cheapestAt_73 (by decide) ?_
            replace hl : lv_has ls 8 [(0, .ref h0), (1, .int (nI i)), (2, .int p1), (3, .int (nI (amN (wF gb p1 ch i) (k + 1)))), (4, .int (nI (lsN (wF gb p1 ch i) (k + 1)))), (5, .int (nI (k + 1)))] := lv_sub hl [3, 4, 5, 6, 7, 0] rfl
            apply ih9 (k := k + 1) <;> first | assumption | omega
          · have n_60 : (gb (i * 8 + k) + ch) < (lsN (wF gb p1 ch i) k) := Nat.not_le.mp (fun h9 => c_60 ((nI_leI (a := (lsN (wF gb p1 ch i) k)) (b := (gb (i * 8 + k) + ch)) (by omega) (by omega)).mpr h9))
            refine lv_iload hx hb dX5_cheapestAt_63 (lv_at hl 0 rfl) ?_
            refine lv_istore (lv' := [(4, .int (nI (gb (i * 8 + k) + ch))), (7, .int (nI (gb (i * 8 + k) + ch))), (6, .int (nI ch)), (0, .ref h0), (1, .int (nI i)), (2, .int p1), (3, .int (nI (amN (wF gb p1 ch i) k))), (5, .int (nI k))]) hx hb dX5_cheapestAt_65 hl (by decide) rfl (fun ls hl => ?_)
            refine lv_iload hx hb dX5_cheapestAt_67 (lv_at hl 7 rfl) ?_
            refine lv_istore_n (lv' := [(3, .int (nI k)), (4, .int (nI (gb (i * 8 + k) + ch))), (7, .int (nI (gb (i * 8 + k) + ch))), (6, .int (nI ch)), (0, .ref h0), (1, .int (nI i)), (2, .int p1), (5, .int (nI k))]) hx hb dX5_cheapestAt_69 rfl hl (by decide) rfl (fun ls hl => ?_)
            have eF : wF gb p1 ch i k = gb (i * 8 + k) + ch := wF_1 (fun h9 => h9.elim c_20 c_26)
            have h70 : wF gb p1 ch i k < lsN (wF gb p1 ch i) k := by rw [eF]; omega
            have ea70 : amN (wF gb p1 ch i) (k + 1) = k := amN_s.trans (if_pos h70)
            have el70 : lsN (wF gb p1 ch i) (k + 1) = gb (i * 8 + k) + ch := (lsN_s.trans (if_pos h70)).trans eF
            replace hl : lv_has ls 8 [(3, .int (nI (amN (wF gb p1 ch i) (k + 1)))), (4, .int (nI (lsN (wF gb p1 ch i) (k + 1)))), (7, .int (nI (gb (i * 8 + k) + ch))), (6, .int (nI ch)), (0, .ref h0), (1, .int (nI i)), (2, .int p1), (5, .int (nI k))] := by rw [ea70, el70]; exact hl
            refine lv_iinc (v := nI (k + 1)) (lv' := [(5, .int (nI (k + 1))), (3, .int (nI (amN (wF gb p1 ch i) (k + 1)))), (4, .int (nI (lsN (wF gb p1 ch i) (k + 1)))), (7, .int (nI (gb (i * 8 + k) + ch))), (6, .int (nI ch)), (0, .ref h0), (1, .int (nI i)), (2, .int p1)]) hx hb dX5_cheapestAt_70 hl (k := 7) rfl (nI_1 _) (by decide) rfl (fun ls hl => ?_)
            refine lv_goto (tgt := 9) hx hb dX5_cheapestAt_73 (by decide) ?_
            replace hl : lv_has ls 8 [(0, .ref h0), (1, .int (nI i)), (2, .int p1), (3, .int (nI (amN (wF gb p1 ch i) (k + 1)))), (4, .int (nI (lsN (wF gb p1 ch i) (k + 1)))), (5, .int (nI (k + 1)))] := lv_sub hl [5, 6, 7, 1, 2, 0] rfl
            apply ih9 (k := k + 1) <;> first | assumption | omega
        · refine lv_iconst (v := 0) hx hb dX5_cheapestAt_29 (by decide) ?_
          refine lv_goto (tgt := 37) hx hb dX5_cheapestAt_30 (by decide) ?_
          refine lv_istore (lv' := [(6, .int 0), (0, .ref h0), (1, .int (nI i)), (2, .int p1), (3, .int (nI (amN (wF gb p1 ch i) k))), (4, .int (nI (lsN (wF gb p1 ch i) k))), (5, .int (nI k))]) hx hb dX5_cheapestAt_37 hl (by decide) rfl (fun ls hl => ?_)
          refine lv_aload_n hx hb dX5_cheapestAt_39 rfl (lv_at hl 1 rfl) ?_
          refine va_get (D := (dC, dI)) (ci := 5) (v := .ref b0) (C := RX5) (T := TX5) (N := 9) hx hb hts hi_X5 hown hK hP 0 rfl rfl 1 (by decide) k_f15 (fun _ h9 => h9) rfl dX5_cheapestAt_40 ?_
          refine lv_iload_n hx hb dX5_cheapestAt_43 rfl (lv_at hl 2 rfl) ?_
          refine lv_bipush (v := 8) hx hb dX5_cheapestAt_44 (by decide) ?_
          refine lv_imul hx hb dX5_cheapestAt_46 ?_
          refine lv_topi (fun x_46 ex_46 => ?_)
          obtain rfl : nI (i * 8) = x_46 := Eq.symm (ex_46.trans (pk_mul i 8))
          refine lv_iload hx hb dX5_cheapestAt_47 (lv_at hl 6 rfl) ?_
          refine lv_iadd hx hb dX5_cheapestAt_49 ?_
          refine lv_topi (fun x_49 ex_49 => ?_)
          obtain rfl : nI (i * 8 + k) = x_49 := Eq.symm (ex_49.trans (nI_add (i * 8) k))
          refine va_iald hx hb hK hP 2 1 rfl rfl (i := nI (i * 8 + k)) (vp_in_nI (by omega) (by omega)) dX5_cheapestAt_50 ?_
          refine lv_topi (fun x_50 ex_50 => ?_)
          obtain rfl : nI (gb (i * 8 + k)) = x_50 := Eq.symm (ex_50.trans (nR_at (by omega)))
          refine lv_iload hx hb dX5_cheapestAt_51 (lv_at hl 0 rfl) ?_
          refine lv_iadd hx hb dX5_cheapestAt_53 ?_
          refine lv_topi (fun x_53 ex_53 => ?_)
          obtain rfl : nI (gb (i * 8 + k)) = x_53 := Eq.symm (ex_53.trans (nI_add (gb (i * 8 + k)) 0))
          refine lv_istore (lv' := [(7, .int (nI (gb (i * 8 + k)))), (6, .int 0), (0, .ref h0), (1, .int (nI i)), (2, .int p1), (3, .int (nI (amN (wF gb p1 ch i) k))), (4, .int (nI (lsN (wF gb p1 ch i) k))), (5, .int (nI k))]) hx hb dX5_cheapestAt_54 hl (by decide) rfl (fun ls hl => ?_)
          have hb9 := hgb k (by omega)
          have hl9 := lsN_max (wF gb p1 ch i) k
          refine lv_iload hx hb dX5_cheapestAt_56 (lv_at hl 0 rfl) ?_
          refine lv_iload hx hb dX5_cheapestAt_58 (lv_at hl 6 rfl) ?_
          refine lv_icmp_ge (tgt := 70) hx hb dX5_cheapestAt_60 (by decide) (fun c_60 => ?_) (fun c_60 => ?_)
          · have n_60 : (lsN (wF gb p1 ch i) k) ≤ (gb (i * 8 + k)) := (nI_leI (a := (lsN (wF gb p1 ch i) k)) (b := (gb (i * 8 + k))) (by omega) (by omega)).mp c_60
            have eF : wF gb p1 ch i k = gb (i * 8 + k) := wF_0 (Or.inr c_26)
            have h70 : ¬ wF gb p1 ch i k < lsN (wF gb p1 ch i) k := by rw [eF]; omega
            have ea70 : amN (wF gb p1 ch i) (k + 1) = amN (wF gb p1 ch i) k := amN_s.trans (if_neg h70)
            have el70 : lsN (wF gb p1 ch i) (k + 1) = lsN (wF gb p1 ch i) k := (lsN_s.trans (if_neg h70))
            replace hl : lv_has ls 8 [(7, .int (nI (gb (i * 8 + k)))), (6, .int 0), (0, .ref h0), (1, .int (nI i)), (2, .int p1), (3, .int (nI (amN (wF gb p1 ch i) (k + 1)))), (4, .int (nI (lsN (wF gb p1 ch i) (k + 1)))), (5, .int (nI k))] := by rw [ea70, el70]; exact hl
            refine lv_iinc (v := nI (k + 1)) (lv' := [(5, .int (nI (k + 1))), (7, .int (nI (gb (i * 8 + k)))), (6, .int 0), (0, .ref h0), (1, .int (nI i)), (2, .int p1), (3, .int (nI (amN (wF gb p1 ch i) (k + 1)))), (4, .int (nI (lsN (wF gb p1 ch i) (k + 1))))]) hx hb dX5_cheapestAt_70 hl (k := 7) rfl (nI_1 _) (by decide) rfl (fun ls hl => ?_)
            refine lv_goto (tgt := 9) hx hb dX5_cheapestAt_73 (by decide) ?_
            replace hl : lv_has ls 8 [(0, .ref h0), (1, .int (nI i)), (2, .int p1), (3, .int (nI (amN (wF gb p1 ch i) (k + 1)))), (4, .int (nI (lsN (wF gb p1 ch i) (k + 1)))), (5, .int (nI (k + 1)))] := lv_sub hl [3, 4, 5, 6, 7, 0] rfl
            apply ih9 (k := k + 1) <;> first | assumption | omega
          · have n_60 : (gb (i * 8 + k)) < (lsN (wF gb p1 ch i) k) := Nat.not_le.mp (fun h9 => c_60 ((nI_leI (a := (lsN (wF gb p1 ch i) k)) (b := (gb (i * 8 + k))) (by omega) (by omega)).mpr h9))
            refine lv_iload hx hb dX5_cheapestAt_63 (lv_at hl 0 rfl) ?_
            refine lv_istore (lv' := [(4, .int (nI (gb (i * 8 + k)))), (7, .int (nI (gb (i * 8 + k)))), (6, .int 0), (0, .ref h0), (1, .int (nI i)), (2, .int p1), (3, .int (nI (amN (wF gb p1 ch i) k))), (5, .int (nI k))]) hx hb dX5_cheapestAt_65 hl (by decide) rfl (fun ls hl => ?_)
            refine lv_iload hx hb dX5_cheapestAt_67 (lv_at hl 7 rfl) ?_
            refine lv_istore_n (lv' := [(3, .int (nI k)), (4, .int (nI (gb (i * 8 + k)))), (7, .int (nI (gb (i * 8 + k)))), (6, .int 0), (0, .ref h0), (1, .int (nI i)), (2, .int p1), (5, .int (nI k))]) hx hb dX5_cheapestAt_69 rfl hl (by decide) rfl (fun ls hl => ?_)
            have eF : wF gb p1 ch i k = gb (i * 8 + k) := wF_0 (Or.inr c_26)
            have h70 : wF gb p1 ch i k < lsN (wF gb p1 ch i) k := by rw [eF]; omega
            have ea70 : amN (wF gb p1 ch i) (k + 1) = k := amN_s.trans (if_pos h70)
            have el70 : lsN (wF gb p1 ch i) (k + 1) = gb (i * 8 + k) := (lsN_s.trans (if_pos h70)).trans eF
            replace hl : lv_has ls 8 [(3, .int (nI (amN (wF gb p1 ch i) (k + 1)))), (4, .int (nI (lsN (wF gb p1 ch i) (k + 1)))), (7, .int (nI (gb (i * 8 + k)))), (6, .int 0), (0, .ref h0), (1, .int (nI i)), (2, .int p1), (5, .int (nI k))] := by rw [ea70, el70]; exact hl
            refine lv_iinc (v := nI (k + 1)) (lv' := [(5, .int (nI (k + 1))), (3, .int (nI (amN (wF gb p1 ch i) (k + 1)))), (4, .int (nI (lsN (wF gb p1 ch i) (k + 1)))), (7, .int (nI (gb (i * 8 + k)))), (6, .int 0), (0, .ref h0), (1, .int (nI i)), (2, .int p1)]) hx hb dX5_cheapestAt_70 hl (k := 7) rfl (nI_1 _) (by decide) rfl (fun ls hl => ?_)
            refine lv_goto (tgt := 9) hx hb dX5_cheapestAt_73 (by decide) ?_
            replace hl : lv_has ls 8 [(0, .ref h0), (1, .int (nI i)), (2, .int p1), (3, .int (nI (amN (wF gb p1 ch i) (k + 1)))), (4, .int (nI (lsN (wF gb p1 ch i) (k + 1)))), (5, .int (nI (k + 1)))] := lv_sub hl [5, 6, 7, 1, 2, 0] rfl
            apply ih9 (k := k + 1) <;> first | assumption | omega

set_option maxHeartbeats 4000000 in
set_option maxRecDepth 100000 in
theorem g_X5_costsFromBehind (l : Launch) (dC : Nat → ClassId) (dI : Nat → Nat → Nat) (h0 : Nat) (c0 : Nat) (b0 : Nat) (h1 : Nat) (m1 : Nat) (w : Nat) (z : Nat) (ch : Nat) (bw : Int32) (ot : Int32) (kc : ClassId) (kb : ClassId) (kh : ClassId) (km : ClassId) (gc : Nat → Nat) (gb : Nat → Nat) (gh : Nat → Nat) (gx : Nat → Nat) (sz : Nat) (hw : w ≤ 60) (hz : 0 < z ∧ z ≤ 8) (hch : ch ≤ 2000) (hcc : CCB gc w z) : Met l yX5_costsFromBehind wsX5_costsFromBehind ({ frames := 1, cells := 0, slots := 0, locals := 22 }) (va_Pc [.ref h0] (fun U => U.heap.size = sz ∧ va_P (dC, dI) vwCl [(h0, .inr (5, [.ref c0, .ref b0, .ref h1, .ref m1, .int (nI w), .int (nI z), .int (nI ch), .int bw, .int ot])), (c0, .inl (kc, 480, .inl (nR gc))), (b0, .inl (kb, 480, .inl (nR gb))), (h1, .inl (kh, 60, .inl (nR gh))), (m1, .inl (km, 60, .inl (nR gx)))] U.heap ∧ va_K (dC, dI) vwCl [(kc, .int), (kb, .int), (kh, .int), (km, .int)] U ∧ va_D (fun _ => True) [(h0, .inr (5, [.ref c0, .ref b0, .ref h1, .ref m1, .int (nI w), .int (nI z), .int (nI ch), .int bw, .int ot])), (c0, .inl (kc, 480, .inl (nR gc))), (b0, .inl (kb, 480, .inl (nR gb))), (h1, .inl (kh, 60, .inl (nR gh))), (m1, .inl (km, 60, .inl (nR gx)))])) (va_Qi (fun (r : Int32) (u : Nat → Nat) => match u with | bo => (∀ j t, j < w → t < z → bo (j * 8 + t) = bhS (cbr gc bw ot) ch z w (w - 1 - j) t) ∧ ((w = 0 → r = 0) ∧ (0 < w → r = nI (lsN (bhS (cbr gc bw ot) ch z w (w - 1)) z)))) (fun (u : Nat → Nat) (t : State) => match u with | bo => va_P (dC, dI) vwCl [(h0, .inr (5, [.ref c0, .ref b0, .ref h1, .ref m1, .int (nI w), .int (nI z), .int (nI ch), .int bw, .int ot])), (c0, .inl (kc, 480, .inl (nR gc))), (b0, .inl (kb, 480, .inl (nR bo))), (h1, .inl (kh, 60, .inl (nR gh))), (m1, .inl (km, 60, .inl (nR gx)))] t.heap ∧ va_D (va_A [(h0, .inr (5, [.ref c0, .ref b0, .ref h1, .ref m1, .int (nI w), .int (nI z), .int (nI ch), .int bw, .int ot])), (c0, .inl (kc, 480, .inl (nR gc))), (b0, .inl (kb, 480, .inl (nR gb))), (h1, .inl (kh, 60, .inl (nR gh))), (m1, .inl (km, 60, .inl (nR gx)))] sz) [(h0, .inr (5, [.ref c0, .ref b0, .ref h1, .ref m1, .int (nI w), .int (nI z), .int (nI ch), .int bw, .int ot])), (c0, .inl (kc, 480, .inl (nR gc))), (b0, .inl (kb, 480, .inl (nR bo))), (h1, .inl (kh, 60, .inl (nR gh))), (m1, .inl (km, 60, .inl (nR gx)))]) (va_A [(h0, .inr (5, [.ref c0, .ref b0, .ref h1, .ref m1, .int (nI w), .int (nI z), .int (nI ch), .int bw, .int ot])), (c0, .inl (kc, 480, .inl (nR gc))), (b0, .inl (kb, 480, .inl (nR gb))), (h1, .inl (kh, 60, .inl (nR gh))), (m1, .inl (km, 60, .inl (nR gx)))] sz)) 0 0 (va_A [(h0, .inr (5, [.ref c0, .ref b0, .ref h1, .ref m1, .int (nI w), .int (nI z), .int (nI ch), .int bw, .int ot])), (c0, .inl (kc, 480, .inl (nR gc))), (b0, .inl (kb, 480, .inl (nR gb))), (h1, .inl (kh, 60, .inl (nR gh))), (m1, .inl (km, 60, .inl (nR gx)))] sz) := by
  refine Met.ofW (cc := cX5_costsFromBehind) (maxL := 7) (ret := (some .int)) (by decide) rfl ?_
  intro p e s m args below meth c s₁ B hml hv
  obtain ⟨rfl, hsz, hP, hK, hD0⟩ := hv
  have hx := B.exec
  have hb := B.bytes
  have hr := B.returns
  have hts := atoms_spec (ws := wsX5_costsFromBehind) B.pre
  have hown : s.vm.findClass RX5 = some m.cls := findClass_of_methodNamed B.named
  have hlocks := B.notSynchronized
  subst hsz
  have hD := hD0.self (sz := s.heap.size)
  clear hD0
  generalize hAe : va_A [(h0, .inr (5, [.ref c0, .ref b0, .ref h1, .ref m1, .int (nI w), .int (nI z), .int (nI ch), .int bw, .int ot])), (c0, .inl (kc, 480, .inl (nR gc))), (b0, .inl (kb, 480, .inl (nR gb))), (h1, .inl (kh, 60, .inl (nR gh))), (m1, .inl (km, 60, .inl (nR gx)))] s.heap.size = A at hD ⊢
  have hA : ∀ q : Nat, s.heap.size ≤ q → A q := fun q h => by rw [← hAe]; exact Or.inr h
  clear hAe
  have hS : va_S A s.heap s.heap [] := va_S.rf
  replace hP : va_P (dC, dI) vwCl [(h0, .inr (5, [.ref c0, .ref b0, .ref h1, .ref m1, .int (nI w), .int (nI z), .int (nI ch), .int bw, .int ot])), (c0, .inl (kc, 480, .inl (nR gc))), (b0, .inl (kb, 480, .inl (nR gb))), (h1, .inl (kh, 60, .inl (nR gh))), (m1, .inl (km, 60, .inl (nR gx)))] s.heap := hP
  have hl := lv_entry ([.ref h0]) (n := 7) (Nat.le_of_ble_eq_true rfl)
  rw [lg_entry_eq]
  generalize (lg_sl ([.ref h0]) ++ List.replicate (7 - (lg_sl ([.ref h0])).length) Slot.unset).toArray = ls at hl ⊢
  replace hl : lv_has ls 7 [(0, .ref h0)] := hl
  have hi_X5 : ∀ w ∈ wsX50, w ∈ wsX5_costsFromBehind := by decide +kernel
  have k_f24 := hts (.fieldLink RX5 24 "TongueTeller$Way" "words" "I") (by decide +kernel)
  have k_f28 := hts (.fieldLink RX5 28 "TongueTeller$Way" "tongues" "I") (by decide +kernel)
  have k_f15 := hts (.fieldLink RX5 15 "TongueTeller$Way" "behind" "[I") (by decide +kernel)
  have k_f31 := hts (.fieldLink RX5 31 "TongueTeller$Way" "change" "I") (by decide +kernel)
  have k_f9 := hts (.fieldLink RX5 9 "TongueTeller$Way" "costs" "[I") (by decide +kernel)
  obtain ⟨b9, hBD⟩ := cbr_bd (bw := bw) (ot := ot) hw hcc
  have hz8 := hz.2
  refine lv_iconst (v := 0) hx hb dX5_costsFromBehind_0 (by decide) ?_
  refine lv_istore_n (lv' := [(1, .int 0), (0, .ref h0)]) hx hb dX5_costsFromBehind_1 rfl hl (by decide) rfl (fun ls hl => ?_)
  refine lv_aload_n hx hb dX5_costsFromBehind_2 rfl (lv_at hl 1 rfl) ?_
  refine va_get (D := (dC, dI)) (ci := 5) (v := .int (nI w)) (C := RX5) (T := TX5) (N := 9) hx hb hts hi_X5 hown hK hP 0 rfl rfl 4 (by decide) k_f24 (fun _ h9 => h9) rfl dX5_costsFromBehind_3 ?_
  refine lv_iconst (v := 1) hx hb dX5_costsFromBehind_6 (by decide) ?_
  refine lv_isub hx hb dX5_costsFromBehind_7 ?_
  refine lv_topi (fun x_7 ex_7 => ?_)
  obtain rfl : x_7 = nI w + (-1) := ex_7.trans (Int32.sub_eq_add_neg _ _)
  refine lv_istore_n (lv' := [(2, .int (nI w + (-1))), (1, .int 0), (0, .ref h0)]) hx hb dX5_costsFromBehind_8 rfl hl (by decide) rfl (fun ls hl => ?_)
  obtain ⟨locs, hlo⟩ : ∃ q : List Loc, q = [] := ⟨_, rfl⟩
  obtain ⟨H, hH⟩ : ∃ q : Heap, q = s.heap := ⟨_, rfl⟩
  rw [← hH, ← hlo]
  replace hS : va_S A s.heap H locs := by rw [hH, hlo]; exact hS
  replace hP : va_P (dC, dI) vwCl [(h0, .inr (5, [.ref c0, .ref b0, .ref h1, .ref m1, .int (nI w), .int (nI z), .int (nI ch), .int bw, .int ot])), (c0, .inl (kc, 480, .inl (nR gc))), (b0, .inl (kb, 480, .inl (nR gb))), (h1, .inl (kh, 60, .inl (nR gh))), (m1, .inl (km, 60, .inl (nR gx)))] H := by rw [hH]; exact hP
  clear hH hlo
  obtain ⟨k, e_k⟩ : ∃ y : Nat, y = w := ⟨_, rfl⟩
  obtain ⟨lb, e_lb⟩ : ∃ y : Nat, y = 0 := ⟨_, rfl⟩
  obtain ⟨gq, e_gq⟩ : ∃ y : Nat → Nat, y = gb := ⟨_, rfl⟩
  replace hl : lv_has ls 7 [(0, .ref h0), (1, .int (nI lb)), (2, .int (nI k + (-1)))] := by subst e_k; subst e_lb; subst e_gq; exact lv_sub hl [2, 1, 0] rfl
  replace hP : va_P (dC, dI) vwCl [(h0, .inr (5, [.ref c0, .ref b0, .ref h1, .ref m1, .int (nI w), .int (nI z), .int (nI ch), .int bw, .int ot])), (c0, .inl (kc, 480, .inl (nR gc))), (b0, .inl (kb, 480, .inl (nR gq))), (h1, .inl (kh, 60, .inl (nR gh))), (m1, .inl (km, 60, .inl (nR gx)))] H := by subst e_k; subst e_lb; subst e_gq; exact hP
  replace hD : va_D A [(h0, .inr (5, [.ref c0, .ref b0, .ref h1, .ref m1, .int (nI w), .int (nI z), .int (nI ch), .int bw, .int ot])), (c0, .inl (kc, 480, .inl (nR gc))), (b0, .inl (kb, 480, .inl (nR gq))), (h1, .inl (kh, 60, .inl (nR gh))), (m1, .inl (km, 60, .inl (nR gx)))] := by subst e_k; subst e_lb; subst e_gq; exact hD
  have hk1 : k ≤ w := by subst e_k; subst e_lb; subst e_gq; omega
  have hbo : ∀ j t, k ≤ j → j < w → t < z → gq (j * 8 + t) = bhS (cbr gc bw ot) ch z w (w - 1 - j) t := by subst e_k; subst e_lb; subst e_gq; exact fun j t h1 h2 => absurd h2 (by omega)
  have hlb : k < w → lb = lsN (bhS (cbr gc bw ot) ch z w (w - 1 - k)) z := by subst e_k; subst e_lb; subst e_gq; exact fun h => absurd h (Nat.lt_irrefl _)
  have hl0 : k = w → lb = 0 := by subst e_k; subst e_lb; subst e_gq; exact fun _ => rfl
  clear e_k e_lb e_gq
  obtain ⟨nn9, hnn9⟩ : ∃ q : Nat, k < q := ⟨_, Nat.lt_succ_self _⟩
  induction nn9 generalizing k lb gq H locs ls with
  | zero => exact absurd hnn9 (Nat.not_lt_zero _)
  | succ nn9 ih9 =>
    refine lv_iload_n hx hb dX5_costsFromBehind_9 rfl (lv_at hl 2 rfl) ?_
    rcases Nat.eq_zero_or_pos k with hk | hk
    · subst hk
      refine lv_topi (fun xk exk => ?_)
      obtain rfl : (-1) = xk := Eq.symm (exk.trans (by decide))
      refine lv_if_lt (tgt := 132) hx hb dX5_costsFromBehind_10 (by decide) (fun c_10 => ?_) (fun c_10 => ?_)
      rotate_left
      · exact absurd (by decide) c_10
      refine lv_iload_n hx hb dX5_costsFromBehind_132 rfl (lv_at hl 1 rfl) ?_
      have hP9 := hP.sub (ws' := [(h0, .inr (5, [.ref c0, .ref b0, .ref h1, .ref m1, .int (nI w), .int (nI z), .int (nI ch), .int bw, .int ot])), (c0, .inl (kc, 480, .inl (nR gc))), (b0, .inl (kb, 480, .inl (nR gq))), (h1, .inl (kh, 60, .inl (nR gh))), (m1, .inl (km, 60, .inl (nR gx)))]) [0, 1, 2, 3, 4] rfl
      have hD9 := hD.sub (ws' := [(h0, .inr (5, [.ref c0, .ref b0, .ref h1, .ref m1, .int (nI w), .int (nI z), .int (nI ch), .int bw, .int ot])), (c0, .inl (kc, 480, .inl (nR gc))), (b0, .inl (kb, 480, .inl (nR gq))), (h1, .inl (kh, 60, .inl (nR gh))), (m1, .inl (km, 60, .inl (nR gx)))]) [0, 1, 2, 3, 4] (by decide) rfl
      exact W.iret (v := nI lb) hx hb hr (fun t ht hW => ⟨⟨nI lb, gq, rfl, ⟨by exact fun j t h1 h2 => hbo j t (Nat.zero_le j) h1 h2, by exact ⟨fun h => congrArg nI (hl0 h.symm), fun h => congrArg nI (hlb h)⟩⟩, by rw [ht]; exact hP9, hD9⟩, hS.F ht⟩) hS.2.2 dX5_costsFromBehind_133
    · refine lv_topi (fun x_10 ex_10 => ?_)
      obtain rfl : nI (k - 1) = x_10 := Eq.symm (ex_10.trans (nI_m1 hk))
      replace hl : lv_has ls 7 [(0, .ref h0), (1, .int (nI lb)), (2, .int (nI (k - 1)))] := by rw [← nI_m1 hk]; exact hl
      refine lv_if_lt (tgt := 132) hx hb dX5_costsFromBehind_10 (by decide) (fun c_10 => ?_) (fun c_10 => ?_)
      · exact absurd c_10 (nI_pos (by omega))
      refine lv_iload_n hx hb dX5_costsFromBehind_13 rfl (lv_at hl 1 rfl) ?_
      refine lv_istore_n (lv' := [(3, .int (nI lb)), (0, .ref h0), (1, .int (nI lb)), (2, .int (nI (k - 1)))]) hx hb dX5_costsFromBehind_14 rfl hl (by decide) rfl (fun ls hl => ?_)
      refine lv_ldc hx hb hown (hts (.constant RX5 67 (2147483647)) (by decide +kernel)) dX5_costsFromBehind_15 ?_
      refine lv_istore_n (lv' := [(1, .int 2147483647), (3, .int (nI lb)), (0, .ref h0), (2, .int (nI (k - 1)))]) hx hb dX5_costsFromBehind_17 rfl hl (by decide) rfl (fun ls hl => ?_)
      refine lv_iconst (v := 0) hx hb dX5_costsFromBehind_18 (by decide) ?_
      refine lv_istore (lv' := [(4, .int 0), (1, .int 2147483647), (3, .int (nI lb)), (0, .ref h0), (2, .int (nI (k - 1)))]) hx hb dX5_costsFromBehind_19 hl (by decide) rfl (fun ls hl => ?_)
      obtain ⟨tq, e_tq⟩ : ∃ y : Nat, y = 0 := ⟨_, rfl⟩
      obtain ⟨gr, e_gr⟩ : ∃ y : Nat → Nat, y = gq := ⟨_, rfl⟩
      replace hl : lv_has ls 7 [(0, .ref h0), (1, .int (nI (lsN (bhS (cbr gc bw ot) ch z w (w - k)) tq))), (2, .int (nI (k - 1))), (3, .int (nI lb)), (4, .int (nI tq))] := by subst e_tq; subst e_gr; exact lv_sub hl [3, 1, 4, 2, 0] rfl
      replace hP : va_P (dC, dI) vwCl [(h0, .inr (5, [.ref c0, .ref b0, .ref h1, .ref m1, .int (nI w), .int (nI z), .int (nI ch), .int bw, .int ot])), (c0, .inl (kc, 480, .inl (nR gc))), (b0, .inl (kb, 480, .inl (nR gr))), (h1, .inl (kh, 60, .inl (nR gh))), (m1, .inl (km, 60, .inl (nR gx)))] H := by subst e_tq; subst e_gr; exact hP
      replace hD : va_D A [(h0, .inr (5, [.ref c0, .ref b0, .ref h1, .ref m1, .int (nI w), .int (nI z), .int (nI ch), .int bw, .int ot])), (c0, .inl (kc, 480, .inl (nR gc))), (b0, .inl (kb, 480, .inl (nR gr))), (h1, .inl (kh, 60, .inl (nR gh))), (m1, .inl (km, 60, .inl (nR gx)))] := by subst e_tq; subst e_gr; exact hD
      have ht1 : tq ≤ z := by subst e_tq; subst e_gr; omega
      have hin : ∀ t, t < tq → gr ((k - 1) * 8 + t) = bhS (cbr gc bw ot) ch z w (w - k) t := by subst e_tq; subst e_gr; exact fun t ht => absurd ht (Nat.not_lt_zero t)
      have hou : ∀ j t, k ≤ j → j < w → t < z → gr (j * 8 + t) = bhS (cbr gc bw ot) ch z w (w - 1 - j) t := by subst e_tq; subst e_gr; exact hbo
      clear e_tq e_gr
      obtain ⟨nn21, hnn21⟩ : ∃ q : Nat, z - tq < q := ⟨_, Nat.lt_succ_self _⟩
      induction nn21 generalizing tq gr H locs ls with
      | zero => exact absurd hnn21 (Nat.not_lt_zero _)
      | succ nn21 ih21 =>
        refine lv_iload hx hb dX5_costsFromBehind_21 (lv_at hl 4 rfl) ?_
        refine lv_aload_n hx hb dX5_costsFromBehind_23 rfl (lv_at hl 0 rfl) ?_
        refine va_get (D := (dC, dI)) (ci := 5) (v := .int (nI z)) (C := RX5) (T := TX5) (N := 9) hx hb hts hi_X5 hown hK hP 0 rfl rfl 5 (by decide) k_f28 (fun _ h9 => h9) rfl dX5_costsFromBehind_24 ?_
        refine lv_icmp_ge (tgt := 126) hx hb dX5_costsFromBehind_27 (by decide) (fun c_27 => ?_) (fun c_27 => ?_)
        · have n_27 : z ≤ tq := (nI_leI (a := z) (b := tq) (by omega) (by omega)).mp c_27
          refine lv_iinc (v := (nI (k - 1)) + (-1)) (lv' := [(2, .int ((nI (k - 1)) + (-1))), (0, .ref h0), (1, .int (nI (lsN (bhS (cbr gc bw ot) ch z w (w - k)) tq))), (3, .int (nI lb)), (4, .int (nI tq))]) hx hb dX5_costsFromBehind_126 hl (k := 2) rfl rfl (by decide) rfl (fun ls hl => ?_)
          refine lv_goto (tgt := 9) hx hb dX5_costsFromBehind_129 (by decide) ?_
          replace hl : lv_has ls 7 [(0, .ref h0), (1, .int (nI (lsN (bhS (cbr gc bw ot) ch z w (w - k)) tq))), (2, .int (nI (k - 1) + (-1)))] := lv_sub hl [1, 2, 0] rfl
          replace hP : va_P (dC, dI) vwCl [(h0, .inr (5, [.ref c0, .ref b0, .ref h1, .ref m1, .int (nI w), .int (nI z), .int (nI ch), .int bw, .int ot])), (c0, .inl (kc, 480, .inl (nR gc))), (b0, .inl (kb, 480, .inl (nR gr))), (h1, .inl (kh, 60, .inl (nR gh))), (m1, .inl (km, 60, .inl (nR gx)))] H := hP
          replace hD : va_D A [(h0, .inr (5, [.ref c0, .ref b0, .ref h1, .ref m1, .int (nI w), .int (nI z), .int (nI ch), .int bw, .int ot])), (c0, .inl (kc, 480, .inl (nR gc))), (b0, .inl (kb, 480, .inl (nR gr))), (h1, .inl (kh, 60, .inl (nR gh))), (m1, .inl (km, 60, .inl (nR gx)))] := hD
          have hbo9 : ∀ j t, (k - 1) ≤ j → j < w → t < z → gr (j * 8 + t) = bhS (cbr gc bw ot) ch z w (w - 1 - j) t := (fun j t h1 h2 h3 => by by_cases e9 : j = k - 1; (rw [e9, hin t (by omega), show w - 1 - (k - 1) = w - k by omega]); (exact hou j t (by omega) h2 h3))
          have hlb9 : (k - 1) < w → (lsN (bhS (cbr gc bw ot) ch z w (w - k)) tq) = lsN (bhS (cbr gc bw ot) ch z w (w - 1 - (k - 1))) z := (fun _ => by rw [show w - 1 - (k - 1) = w - k by omega, show tq = z by omega])
          have hl09 : (k - 1) = w → (lsN (bhS (cbr gc bw ot) ch z w (w - k)) tq) = 0 := (fun h9 => absurd h9 (by omega))
          apply ih9 (k := k - 1) (lb := lsN (bhS (cbr gc bw ot) ch z w (w - k)) tq) (gq := gr) <;> first | assumption | omega
        · have n_27 : tq < z := Nat.not_le.mp (fun h9 => c_27 ((nI_leI (a := z) (b := tq) (by omega) (by omega)).mpr h9))
          refine lv_iload_n hx hb dX5_costsFromBehind_30 rfl (lv_at hl 2 rfl) ?_
          refine lv_bipush (v := 8) hx hb dX5_costsFromBehind_31 (by decide) ?_
          refine lv_imul hx hb dX5_costsFromBehind_33 ?_
          refine lv_topi (fun x_33 ex_33 => ?_)
          obtain rfl : nI ((k - 1) * 8) = x_33 := Eq.symm (ex_33.trans (pk_mul (k - 1) 8))
          refine lv_iload hx hb dX5_costsFromBehind_34 (lv_at hl 4 rfl) ?_
          refine lv_iadd hx hb dX5_costsFromBehind_36 ?_
          refine lv_topi (fun x_36 ex_36 => ?_)
          obtain rfl : nI ((k - 1) * 8 + tq) = x_36 := Eq.symm (ex_36.trans (nI_add ((k - 1) * 8) tq))
          refine lv_istore (lv' := [(5, .int (nI ((k - 1) * 8 + tq))), (0, .ref h0), (1, .int (nI (lsN (bhS (cbr gc bw ot) ch z w (w - k)) tq))), (2, .int (nI (k - 1))), (3, .int (nI lb)), (4, .int (nI tq))]) hx hb dX5_costsFromBehind_37 hl (by decide) rfl (fun ls hl => ?_)
          refine lv_iload_n hx hb dX5_costsFromBehind_39 rfl (lv_at hl 3 rfl) ?_
          refine lv_aload_n hx hb dX5_costsFromBehind_40 rfl (lv_at hl 1 rfl) ?_
          refine va_get (D := (dC, dI)) (ci := 5) (v := .int (nI w)) (C := RX5) (T := TX5) (N := 9) hx hb hts hi_X5 hown hK hP 0 rfl rfl 4 (by decide) k_f24 (fun _ h9 => h9) rfl dX5_costsFromBehind_41 ?_
          refine lv_iconst (v := 1) hx hb dX5_costsFromBehind_44 (by decide) ?_
          refine lv_isub hx hb dX5_costsFromBehind_45 ?_
          refine lv_topi (fun x_45 ex_45 => ?_)
          obtain rfl : nI (w - 1) = x_45 := Eq.symm (ex_45.trans (pk_sub (a := w) (b := 1) (by omega)))
          refine lv_icmp_ne (tgt := 53) hx hb dX5_costsFromBehind_46 (by decide) (fun c_46 => ?_) (fun c_46 => ?_)
          · have n_46 : (k - 1) ≠ (w - 1) := fun h9 => c_46 ((nI_eq (a := (k - 1)) (b := (w - 1)) (by omega) (by omega)).mpr h9)
            have hkw : k < w := by omega
            have e8 : gr (((k - 1) * 8 + tq) + 8) = bhS (cbr gc bw ot) ch z w (w - 1 - k) tq := by rw [show ((k - 1) * 8 + tq) + 8 = k * 8 + tq by omega]; exact hou k tq (Nat.le_refl k) hkw (by omega)
            have hlb9 := hlb hkw
            have hb8 := bhS_le (ch := ch) hBD hw (k := w - 1 - k) (show tq < z by omega) (by omega)
            have hb7 : lb ≤ 268603456 := by rw [hlb9]; exact Nat.le_trans (lsN_le z hz.1) (bhS_le (ch := ch) hBD hw hz.1 (by omega))
            refine lv_aload_n hx hb dX5_costsFromBehind_53 rfl (lv_at hl 1 rfl) ?_
            refine va_get (D := (dC, dI)) (ci := 5) (v := .ref b0) (C := RX5) (T := TX5) (N := 9) hx hb hts hi_X5 hown hK hP 0 rfl rfl 1 (by decide) k_f15 (fun _ h9 => h9) rfl dX5_costsFromBehind_54 ?_
            refine lv_iload hx hb dX5_costsFromBehind_57 (lv_at hl 0 rfl) ?_
            refine lv_bipush (v := 8) hx hb dX5_costsFromBehind_59 (by decide) ?_
            refine lv_iadd hx hb dX5_costsFromBehind_61 ?_
            refine lv_topi (fun x_61 ex_61 => ?_)
            obtain rfl : nI ((k - 1) * 8 + tq + 8) = x_61 := Eq.symm (ex_61.trans (nI_add ((k - 1) * 8 + tq) 8))
            refine va_iald hx hb hK hP 2 1 rfl rfl (i := nI ((k - 1) * 8 + tq + 8)) (vp_in_nI (by omega) (by omega)) dX5_costsFromBehind_62 ?_
            refine lv_topi (fun x_62 ex_62 => ?_)
            obtain rfl : nI (gr ((k - 1) * 8 + tq + 8)) = x_62 := Eq.symm (ex_62.trans (nR_at (by omega)))
            refine lv_iload_n hx hb dX5_costsFromBehind_63 rfl (lv_at hl 4 rfl) ?_
            refine lv_aload_n hx hb dX5_costsFromBehind_64 rfl (lv_at hl 1 rfl) ?_
            refine va_get (D := (dC, dI)) (ci := 5) (v := .int (nI ch)) (C := RX5) (T := TX5) (N := 9) hx hb hts hi_X5 hown hK hP 0 rfl rfl 6 (by decide) k_f31 (fun _ h9 => h9) rfl dX5_costsFromBehind_65 ?_
            refine lv_iadd hx hb dX5_costsFromBehind_68 ?_
            refine lv_topi (fun x_68 ex_68 => ?_)
            obtain rfl : nI (lb + ch) = x_68 := Eq.symm (ex_68.trans (nI_add lb ch))
            refine va_mmin hx hb (by rw [hml]; exact hl.1.symm) hown (hts (.methodLink RX5 68 Lib.Math.min.name) (by decide +kernel)) (hts (.static Lib.Math.min.name) (by decide +kernel)) (hts (.initialized "java/lang/Math") (by decide +kernel)) (hts (.code Lib.Math.min.name Lib.Math.min.code 2 (some .int)) (by decide +kernel)) (Nat.le_of_ble_eq_true rfl) (Nat.le_of_ble_eq_true rfl) (Nat.le_of_ble_eq_true rfl) (Nat.le_of_ble_eq_true rfl) dX5_costsFromBehind_69 ?_
            refine lv_topi (fun y_1 ey_1 => ?_)
            obtain rfl : nI (mnN (gr (((k - 1) * 8 + tq) + 8)) (lb + ch)) = y_1 := Eq.symm (ey_1.trans (mnN_I (by rw [e8]; omega) (by omega)))
            refine lv_istore (lv' := [(6, .int (nI (mnN (gr (((k - 1) * 8 + tq) + 8)) (lb + ch)))), (5, .int (nI ((k - 1) * 8 + tq))), (0, .ref h0), (1, .int (nI (lsN (bhS (cbr gc bw ot) ch z w (w - k)) tq))), (2, .int (nI (k - 1))), (3, .int (nI lb)), (4, .int (nI tq))]) hx hb dX5_costsFromBehind_72 hl (by decide) rfl (fun ls hl => ?_)
            refine lv_aload_n hx hb dX5_costsFromBehind_74 rfl (lv_at hl 2 rfl) ?_
            refine va_get (D := (dC, dI)) (ci := 5) (v := .ref b0) (C := RX5) (T := TX5) (N := 9) hx hb hts hi_X5 hown hK hP 0 rfl rfl 1 (by decide) k_f15 (fun _ h9 => h9) rfl dX5_costsFromBehind_75 ?_
            refine lv_iload hx hb dX5_costsFromBehind_78 (lv_at hl 1 rfl) ?_
            refine lv_aload_n hx hb dX5_costsFromBehind_80 rfl (lv_at hl 2 rfl) ?_
            refine va_get (D := (dC, dI)) (ci := 5) (v := .ref c0) (C := RX5) (T := TX5) (N := 9) hx hb hts hi_X5 hown hK hP 0 rfl rfl 0 (by decide) k_f9 (fun _ h9 => h9) rfl dX5_costsFromBehind_81 ?_
            refine lv_iload hx hb dX5_costsFromBehind_84 (lv_at hl 1 rfl) ?_
            refine va_iald hx hb hK hP 1 0 rfl rfl (i := nI ((k - 1) * 8 + tq)) (vp_in_nI (by omega) (by omega)) dX5_costsFromBehind_86 ?_
            refine lv_topi (fun x_86 ex_86 => ?_)
            obtain rfl : nI (gc ((k - 1) * 8 + tq)) = x_86 := Eq.symm (ex_86.trans (nR_at (by omega)))
            refine lv_iload hx hb dX5_costsFromBehind_87 (lv_at hl 0 rfl) ?_
            refine lv_iadd hx hb dX5_costsFromBehind_89 ?_
            refine lv_topi (fun x_89 ex_89 => ?_)
            obtain rfl : nI (gc ((k - 1) * 8 + tq) + (mnN (gr (((k - 1) * 8 + tq) + 8)) (lb + ch))) = x_89 := Eq.symm (ex_89.trans (nI_add (gc ((k - 1) * 8 + tq)) (mnN (gr (((k - 1) * 8 + tq) + 8)) (lb + ch))))
            refine lv_aload_n hx hb dX5_costsFromBehind_90 rfl (lv_at hl 2 rfl) ?_
            refine lv_iload_n hx hb dX5_costsFromBehind_91 rfl (lv_at hl 4 rfl) ?_
            refine lv_iload hx hb dX5_costsFromBehind_92 (lv_at hl 6 rfl) ?_
            have hPc := hP.sub (ws' := [(h0, .inr (5, [.ref c0, .ref b0, .ref h1, .ref m1, .int (nI w), .int (nI z), .int (nI ch), .int bw, .int ot]))]) [0] rfl
            have hKc := hK.sub (tys' := []) [] rfl
            refine vp_callSi (W.runV (As := [.int (nI (k - 1)), .int (nI tq)]) (rest := [.int (nI (gc ((k - 1) * 8 + tq) + (mnN (gr (((k - 1) * 8 + tq) + 8)) (lb + ch)))), .int (nI ((k - 1) * 8 + tq)), .ref b0]) ⟨hx, hb, hml, hown, hts⟩ (g_X5_isOpen l dC dI h0 c0 b0 h1 m1 w z ch bw ot (nI (k - 1)) (nI tq)) (cwV 2 hts gX5_costsFromBehind_X5_isOpen rfl rfl rfl (by decide +kernel) ⟨Nat.le_of_ble_eq_true rfl, Nat.le_of_ble_eq_true rfl⟩) ⟨fun a U g mk q => by obtain ⟨q0, qP, qK⟩ := q; exact ⟨q0, qP, va_K.moved (u := U) (U := U.calling g mk a) (Vm.Alike.refl U.vm) qK⟩, va_recv hK hP (ci := 5) (q0 := 0) rfl rfl, fun U hU hW => ⟨rfl, by rw [hU]; exact hPc, va_K.moved hW.alike hKc⟩⟩ rfl rfl hl.1 rfl (lv_room (Nat.le_of_ble_eq_true rfl)) dX5_costsFromBehind_94 ⟨Nat.le_of_ble_eq_true rfl, Nat.le_of_ble_eq_true rfl⟩) (fun r_94 hw_94 => ?_)
            clear hPc
            rcases hw_94 with ⟨hr_94, hb_94⟩ | ⟨hr_94, hb_94⟩
            · subst hr_94
              refine lv_if_eq (tgt := 104) hx hb dX5_costsFromBehind_97 (by decide) (fun c_97 => ?_) (fun c_97 => ?_)
              · exact absurd c_97 (by decide)
              refine lv_iconst (v := 0) hx hb dX5_costsFromBehind_100 (by decide) ?_
              refine lv_goto (tgt := 106) hx hb dX5_costsFromBehind_101 (by decide) ?_
              refine lv_iadd hx hb dX5_costsFromBehind_106 ?_
              refine lv_topi (fun x_106 ex_106 => ?_)
              obtain rfl : nI (gc ((k - 1) * 8 + tq) + (mnN (gr (((k - 1) * 8 + tq) + 8)) (lb + ch))) = x_106 := Eq.symm (ex_106.trans (nI_add (gc ((k - 1) * 8 + tq) + (mnN (gr (((k - 1) * 8 + tq) + 8)) (lb + ch))) 0))
              have ev : gc ((k - 1) * 8 + tq) + (mnN (gr (((k - 1) * 8 + tq) + 8)) (lb + ch)) = bhS (cbr gc bw ot) ch z w (w - k) tq := by rw [bh_p hk hkw, cbr_y hb_94, ← e8, ← hlb9] <;> omega
              refine va_iast hx hb hK hP hD hS 2 1 rfl rfl (i := nI ((k - 1) * 8 + tq)) (x := nI (gc ((k - 1) * 8 + tq) + (mnN (gr (((k - 1) * 8 + tq) + 8)) (lb + ch)))) (vp_in_nI (by omega) (by omega)) dX5_costsFromBehind_107 (fun H locs hP hD hS => ?_)
              have er_107 : upd (nR gr) (nI ((k - 1) * 8 + tq) : Int32).toNatClampNeg (nI (gc ((k - 1) * 8 + tq) + (mnN (gr (((k - 1) * 8 + tq) + 8)) (lb + ch)))) = nR (updN gr ((k - 1) * 8 + tq) (gc ((k - 1) * 8 + tq) + (mnN (gr (((k - 1) * 8 + tq) + 8)) (lb + ch)))) := upd_nR (by omega)
              replace hP : va_P (dC, dI) vwCl [(h0, .inr (5, [.ref c0, .ref b0, .ref h1, .ref m1, .int (nI w), .int (nI z), .int (nI ch), .int bw, .int ot])), (c0, .inl (kc, 480, .inl (nR gc))), (b0, .inl (kb, 480, .inl (nR (updN gr ((k - 1) * 8 + tq) (gc ((k - 1) * 8 + tq) + (mnN (gr (((k - 1) * 8 + tq) + 8)) (lb + ch))))))), (h1, .inl (kh, 60, .inl (nR gh))), (m1, .inl (km, 60, .inl (nR gx)))] H := by rw [← er_107]; exact hP
              replace hD : va_D A [(h0, .inr (5, [.ref c0, .ref b0, .ref h1, .ref m1, .int (nI w), .int (nI z), .int (nI ch), .int bw, .int ot])), (c0, .inl (kc, 480, .inl (nR gc))), (b0, .inl (kb, 480, .inl (nR (updN gr ((k - 1) * 8 + tq) (gc ((k - 1) * 8 + tq) + (mnN (gr (((k - 1) * 8 + tq) + 8)) (lb + ch))))))), (h1, .inl (kh, 60, .inl (nR gh))), (m1, .inl (km, 60, .inl (nR gx)))] := by rw [← er_107]; exact hD
              refine lv_iload_n hx hb dX5_costsFromBehind_108 rfl (lv_at hl 3 rfl) ?_
              refine lv_aload_n hx hb dX5_costsFromBehind_109 rfl (lv_at hl 2 rfl) ?_
              refine va_get (D := (dC, dI)) (ci := 5) (v := .ref b0) (C := RX5) (T := TX5) (N := 9) hx hb hts hi_X5 hown hK hP 0 rfl rfl 1 (by decide) k_f15 (fun _ h9 => h9) rfl dX5_costsFromBehind_110 ?_
              refine lv_iload hx hb dX5_costsFromBehind_113 (lv_at hl 1 rfl) ?_
              refine va_iald hx hb hK hP 2 1 rfl rfl (i := nI ((k - 1) * 8 + tq)) (vp_in_nI (by omega) (by omega)) dX5_costsFromBehind_115 ?_
              refine lv_topi (fun x_115 ex_115 => ?_)
              obtain rfl : nI ((updN gr ((k - 1) * 8 + tq) (gc ((k - 1) * 8 + tq) + (mnN (gr (((k - 1) * 8 + tq) + 8)) (lb + ch)))) ((k - 1) * 8 + tq)) = x_115 := Eq.symm (ex_115.trans (nR_at (by omega)))
              refine va_mmin hx hb (by rw [hml]; exact hl.1.symm) hown (hts (.methodLink RX5 68 Lib.Math.min.name) (by decide +kernel)) (hts (.static Lib.Math.min.name) (by decide +kernel)) (hts (.initialized "java/lang/Math") (by decide +kernel)) (hts (.code Lib.Math.min.name Lib.Math.min.code 2 (some .int)) (by decide +kernel)) (Nat.le_of_ble_eq_true rfl) (Nat.le_of_ble_eq_true rfl) (Nat.le_of_ble_eq_true rfl) (Nat.le_of_ble_eq_true rfl) dX5_costsFromBehind_116 ?_
              have hb6 := bhS_le (ch := ch) hBD hw (k := w - k) (show tq < z by omega) (by omega)
              have hl6 := lsN_max (bhS (cbr gc bw ot) ch z w (w - k)) tq
              refine lv_topi (fun y_2 ey_2 => ?_)
              obtain rfl : nI (mnN (lsN (bhS (cbr gc bw ot) ch z w (w - k)) tq) ((updN gr ((k - 1) * 8 + tq) (gc ((k - 1) * 8 + tq) + (mnN (gr (((k - 1) * 8 + tq) + 8)) (lb + ch)))) ((k - 1) * 8 + tq))) = y_2 := Eq.symm (ey_2.trans (mnN_I (by omega) (by rw [updN_s, ev]; omega)))
              refine lv_istore_n (lv' := [(1, .int (nI (mnN (lsN (bhS (cbr gc bw ot) ch z w (w - k)) tq) ((updN gr ((k - 1) * 8 + tq) (gc ((k - 1) * 8 + tq) + (mnN (gr (((k - 1) * 8 + tq) + 8)) (lb + ch)))) ((k - 1) * 8 + tq))))), (6, .int (nI (mnN (gr (((k - 1) * 8 + tq) + 8)) (lb + ch)))), (5, .int (nI ((k - 1) * 8 + tq))), (0, .ref h0), (2, .int (nI (k - 1))), (3, .int (nI lb)), (4, .int (nI tq))]) hx hb dX5_costsFromBehind_119 rfl hl (by decide) rfl (fun ls hl => ?_)
              have el : lsN (bhS (cbr gc bw ot) ch z w (w - k)) (tq + 1) = mnN (lsN (bhS (cbr gc bw ot) ch z w (w - k)) tq) ((updN gr ((k - 1) * 8 + tq) (gc ((k - 1) * 8 + tq) + (mnN (gr (((k - 1) * 8 + tq) + 8)) (lb + ch)))) ((k - 1) * 8 + tq)) := by rw [updN_s, ev]; rfl
              replace hl : lv_has ls 7 [(1, .int (nI (lsN (bhS (cbr gc bw ot) ch z w (w - k)) (tq + 1)))), (6, .int (nI (mnN (gr (((k - 1) * 8 + tq) + 8)) (lb + ch)))), (5, .int (nI ((k - 1) * 8 + tq))), (0, .ref h0), (2, .int (nI (k - 1))), (3, .int (nI lb)), (4, .int (nI tq))] := by rw [el]; exact hl
              refine lv_iinc (v := nI (tq + 1)) (lv' := [(4, .int (nI (tq + 1))), (1, .int (nI (lsN (bhS (cbr gc bw ot) ch z w (w - k)) (tq + 1)))), (6, .int (nI (mnN (gr (((k - 1) * 8 + tq) + 8)) (lb + ch)))), (5, .int (nI ((k - 1) * 8 + tq))), (0, .ref h0), (2, .int (nI (k - 1))), (3, .int (nI lb))]) hx hb dX5_costsFromBehind_120 hl (k := 6) rfl (nI_1 _) (by decide) rfl (fun ls hl => ?_)
              refine lv_goto (tgt := 21) hx hb dX5_costsFromBehind_123 (by decide) ?_
              replace hl : lv_has ls 7 [(0, .ref h0), (1, .int (nI (lsN (bhS (cbr gc bw ot) ch z w (w - k)) (tq + 1)))), (2, .int (nI (k - 1))), (3, .int (nI lb)), (4, .int (nI (tq + 1)))] := lv_sub hl [4, 1, 5, 6, 0] rfl
              replace hP : va_P (dC, dI) vwCl [(h0, .inr (5, [.ref c0, .ref b0, .ref h1, .ref m1, .int (nI w), .int (nI z), .int (nI ch), .int bw, .int ot])), (c0, .inl (kc, 480, .inl (nR gc))), (b0, .inl (kb, 480, .inl (nR (updN gr ((k - 1) * 8 + tq) (gc ((k - 1) * 8 + tq) + (mnN (gr (((k - 1) * 8 + tq) + 8)) (lb + ch))))))), (h1, .inl (kh, 60, .inl (nR gh))), (m1, .inl (km, 60, .inl (nR gx)))] H := hP
              replace hD : va_D A [(h0, .inr (5, [.ref c0, .ref b0, .ref h1, .ref m1, .int (nI w), .int (nI z), .int (nI ch), .int bw, .int ot])), (c0, .inl (kc, 480, .inl (nR gc))), (b0, .inl (kb, 480, .inl (nR (updN gr ((k - 1) * 8 + tq) (gc ((k - 1) * 8 + tq) + (mnN (gr (((k - 1) * 8 + tq) + 8)) (lb + ch))))))), (h1, .inl (kh, 60, .inl (nR gh))), (m1, .inl (km, 60, .inl (nR gx)))] := hD
              have hin9 : ∀ t, t < (tq + 1) → (updN gr ((k - 1) * 8 + tq) (gc ((k - 1) * 8 + tq) + (mnN (gr (((k - 1) * 8 + tq) + 8)) (lb + ch)))) ((k - 1) * 8 + t) = bhS (cbr gc bw ot) ch z w (w - k) t := (fun t ht => by by_cases e9 : t = tq; (rw [e9, updN_s]; exact ev); (rw [updN_n (by omega)]; exact hin t (by omega)))
              have hou9 : ∀ j t, k ≤ j → j < w → t < z → (updN gr ((k - 1) * 8 + tq) (gc ((k - 1) * 8 + tq) + (mnN (gr (((k - 1) * 8 + tq) + 8)) (lb + ch)))) (j * 8 + t) = bhS (cbr gc bw ot) ch z w (w - 1 - j) t := (fun j t h1 h2 h3 => by rw [updN_n (by omega)]; exact hou j t h1 h2 h3)
              apply ih21 (tq := tq + 1) (gr := updN gr ((k - 1) * 8 + tq) (gc ((k - 1) * 8 + tq) + (mnN (gr (((k - 1) * 8 + tq) + 8)) (lb + ch)))) <;> first | assumption | omega
            · subst hr_94
              refine lv_if_eq (tgt := 104) hx hb dX5_costsFromBehind_97 (by decide) (fun c_97 => ?_) (fun c_97 => ?_)
              rotate_left
              · exact absurd (by decide) c_97
              refine lv_ldc hx hb hown (hts (.constant RX5 77 (268435456)) (by decide +kernel)) dX5_costsFromBehind_104 ?_
              refine lv_iadd hx hb dX5_costsFromBehind_106 ?_
              refine lv_topi (fun x_106 ex_106 => ?_)
              obtain rfl : nI (gc ((k - 1) * 8 + tq) + (mnN (gr (((k - 1) * 8 + tq) + 8)) (lb + ch)) + 268435456) = x_106 := Eq.symm (ex_106.trans (nI_add (gc ((k - 1) * 8 + tq) + (mnN (gr (((k - 1) * 8 + tq) + 8)) (lb + ch))) 268435456))
              have ev : gc ((k - 1) * 8 + tq) + (mnN (gr (((k - 1) * 8 + tq) + 8)) (lb + ch)) + 268435456 = bhS (cbr gc bw ot) ch z w (w - k) tq := by rw [bh_p hk hkw, cbr_n hb_94, ← e8, ← hlb9] <;> omega
              refine va_iast hx hb hK hP hD hS 2 1 rfl rfl (i := nI ((k - 1) * 8 + tq)) (x := nI (gc ((k - 1) * 8 + tq) + (mnN (gr (((k - 1) * 8 + tq) + 8)) (lb + ch)) + 268435456)) (vp_in_nI (by omega) (by omega)) dX5_costsFromBehind_107 (fun H locs hP hD hS => ?_)
              have er_107 : upd (nR gr) (nI ((k - 1) * 8 + tq) : Int32).toNatClampNeg (nI (gc ((k - 1) * 8 + tq) + (mnN (gr (((k - 1) * 8 + tq) + 8)) (lb + ch)) + 268435456)) = nR (updN gr ((k - 1) * 8 + tq) (gc ((k - 1) * 8 + tq) + (mnN (gr (((k - 1) * 8 + tq) + 8)) (lb + ch)) + 268435456)) := upd_nR (by omega)
              replace hP : va_P (dC, dI) vwCl [(h0, .inr (5, [.ref c0, .ref b0, .ref h1, .ref m1, .int (nI w), .int (nI z), .int (nI ch), .int bw, .int ot])), (c0, .inl (kc, 480, .inl (nR gc))), (b0, .inl (kb, 480, .inl (nR (updN gr ((k - 1) * 8 + tq) (gc ((k - 1) * 8 + tq) + (mnN (gr (((k - 1) * 8 + tq) + 8)) (lb + ch)) + 268435456))))), (h1, .inl (kh, 60, .inl (nR gh))), (m1, .inl (km, 60, .inl (nR gx)))] H := by rw [← er_107]; exact hP
              replace hD : va_D A [(h0, .inr (5, [.ref c0, .ref b0, .ref h1, .ref m1, .int (nI w), .int (nI z), .int (nI ch), .int bw, .int ot])), (c0, .inl (kc, 480, .inl (nR gc))), (b0, .inl (kb, 480, .inl (nR (updN gr ((k - 1) * 8 + tq) (gc ((k - 1) * 8 + tq) + (mnN (gr (((k - 1) * 8 + tq) + 8)) (lb + ch)) + 268435456))))), (h1, .inl (kh, 60, .inl (nR gh))), (m1, .inl (km, 60, .inl (nR gx)))] := by rw [← er_107]; exact hD
              refine lv_iload_n hx hb dX5_costsFromBehind_108 rfl (lv_at hl 3 rfl) ?_
              refine lv_aload_n hx hb dX5_costsFromBehind_109 rfl (lv_at hl 2 rfl) ?_
              refine va_get (D := (dC, dI)) (ci := 5) (v := .ref b0) (C := RX5) (T := TX5) (N := 9) hx hb hts hi_X5 hown hK hP 0 rfl rfl 1 (by decide) k_f15 (fun _ h9 => h9) rfl dX5_costsFromBehind_110 ?_
              refine lv_iload hx hb dX5_costsFromBehind_113 (lv_at hl 1 rfl) ?_
              refine va_iald hx hb hK hP 2 1 rfl rfl (i := nI ((k - 1) * 8 + tq)) (vp_in_nI (by omega) (by omega)) dX5_costsFromBehind_115 ?_
              refine lv_topi (fun x_115 ex_115 => ?_)
              obtain rfl : nI ((updN gr ((k - 1) * 8 + tq) (gc ((k - 1) * 8 + tq) + (mnN (gr (((k - 1) * 8 + tq) + 8)) (lb + ch)) + 268435456)) ((k - 1) * 8 + tq)) = x_115 := Eq.symm (ex_115.trans (nR_at (by omega)))
              refine va_mmin hx hb (by rw [hml]; exact hl.1.symm) hown (hts (.methodLink RX5 68 Lib.Math.min.name) (by decide +kernel)) (hts (.static Lib.Math.min.name) (by decide +kernel)) (hts (.initialized "java/lang/Math") (by decide +kernel)) (hts (.code Lib.Math.min.name Lib.Math.min.code 2 (some .int)) (by decide +kernel)) (Nat.le_of_ble_eq_true rfl) (Nat.le_of_ble_eq_true rfl) (Nat.le_of_ble_eq_true rfl) (Nat.le_of_ble_eq_true rfl) dX5_costsFromBehind_116 ?_
              have hb6 := bhS_le (ch := ch) hBD hw (k := w - k) (show tq < z by omega) (by omega)
              have hl6 := lsN_max (bhS (cbr gc bw ot) ch z w (w - k)) tq
              refine lv_topi (fun y_3 ey_3 => ?_)
              obtain rfl : nI (mnN (lsN (bhS (cbr gc bw ot) ch z w (w - k)) tq) ((updN gr ((k - 1) * 8 + tq) (gc ((k - 1) * 8 + tq) + (mnN (gr (((k - 1) * 8 + tq) + 8)) (lb + ch)) + 268435456)) ((k - 1) * 8 + tq))) = y_3 := Eq.symm (ey_3.trans (mnN_I (by omega) (by rw [updN_s, ev]; omega)))
              refine lv_istore_n (lv' := [(1, .int (nI (mnN (lsN (bhS (cbr gc bw ot) ch z w (w - k)) tq) ((updN gr ((k - 1) * 8 + tq) (gc ((k - 1) * 8 + tq) + (mnN (gr (((k - 1) * 8 + tq) + 8)) (lb + ch)) + 268435456)) ((k - 1) * 8 + tq))))), (6, .int (nI (mnN (gr (((k - 1) * 8 + tq) + 8)) (lb + ch)))), (5, .int (nI ((k - 1) * 8 + tq))), (0, .ref h0), (2, .int (nI (k - 1))), (3, .int (nI lb)), (4, .int (nI tq))]) hx hb dX5_costsFromBehind_119 rfl hl (by decide) rfl (fun ls hl => ?_)
              have el : lsN (bhS (cbr gc bw ot) ch z w (w - k)) (tq + 1) = mnN (lsN (bhS (cbr gc bw ot) ch z w (w - k)) tq) ((updN gr ((k - 1) * 8 + tq) (gc ((k - 1) * 8 + tq) + (mnN (gr (((k - 1) * 8 + tq) + 8)) (lb + ch)) + 268435456)) ((k - 1) * 8 + tq)) := by rw [updN_s, ev]; rfl
              replace hl : lv_has ls 7 [(1, .int (nI (lsN (bhS (cbr gc bw ot) ch z w (w - k)) (tq + 1)))), (6, .int (nI (mnN (gr (((k - 1) * 8 + tq) + 8)) (lb + ch)))), (5, .int (nI ((k - 1) * 8 + tq))), (0, .ref h0), (2, .int (nI (k - 1))), (3, .int (nI lb)), (4, .int (nI tq))] := by rw [el]; exact hl
              refine lv_iinc (v := nI (tq + 1)) (lv' := [(4, .int (nI (tq + 1))), (1, .int (nI (lsN (bhS (cbr gc bw ot) ch z w (w - k)) (tq + 1)))), (6, .int (nI (mnN (gr (((k - 1) * 8 + tq) + 8)) (lb + ch)))), (5, .int (nI ((k - 1) * 8 + tq))), (0, .ref h0), (2, .int (nI (k - 1))), (3, .int (nI lb))]) hx hb dX5_costsFromBehind_120 hl (k := 6) rfl (nI_1 _) (by decide) rfl (fun ls hl => ?_)
              refine lv_goto (tgt := 21) hx hb dX5_costsFromBehind_123 (by decide) ?_
              replace hl : lv_has ls 7 [(0, .ref h0), (1, .int (nI (lsN (bhS (cbr gc bw ot) ch z w (w - k)) (tq + 1)))), (2, .int (nI (k - 1))), (3, .int (nI lb)), (4, .int (nI (tq + 1)))] := lv_sub hl [4, 1, 5, 6, 0] rfl
              replace hP : va_P (dC, dI) vwCl [(h0, .inr (5, [.ref c0, .ref b0, .ref h1, .ref m1, .int (nI w), .int (nI z), .int (nI ch), .int bw, .int ot])), (c0, .inl (kc, 480, .inl (nR gc))), (b0, .inl (kb, 480, .inl (nR (updN gr ((k - 1) * 8 + tq) (gc ((k - 1) * 8 + tq) + (mnN (gr (((k - 1) * 8 + tq) + 8)) (lb + ch)) + 268435456))))), (h1, .inl (kh, 60, .inl (nR gh))), (m1, .inl (km, 60, .inl (nR gx)))] H := hP
              replace hD : va_D A [(h0, .inr (5, [.ref c0, .ref b0, .ref h1, .ref m1, .int (nI w), .int (nI z), .int (nI ch), .int bw, .int ot])), (c0, .inl (kc, 480, .inl (nR gc))), (b0, .inl (kb, 480, .inl (nR (updN gr ((k - 1) * 8 + tq) (gc ((k - 1) * 8 + tq) + (mnN (gr (((k - 1) * 8 + tq) + 8)) (lb + ch)) + 268435456))))), (h1, .inl (kh, 60, .inl (nR gh))), (m1, .inl (km, 60, .inl (nR gx)))] := hD
              have hin9 : ∀ t, t < (tq + 1) → (updN gr ((k - 1) * 8 + tq) (gc ((k - 1) * 8 + tq) + (mnN (gr (((k - 1) * 8 + tq) + 8)) (lb + ch)) + 268435456)) ((k - 1) * 8 + t) = bhS (cbr gc bw ot) ch z w (w - k) t := (fun t ht => by by_cases e9 : t = tq; (rw [e9, updN_s]; exact ev); (rw [updN_n (by omega)]; exact hin t (by omega)))
              have hou9 : ∀ j t, k ≤ j → j < w → t < z → (updN gr ((k - 1) * 8 + tq) (gc ((k - 1) * 8 + tq) + (mnN (gr (((k - 1) * 8 + tq) + 8)) (lb + ch)) + 268435456)) (j * 8 + t) = bhS (cbr gc bw ot) ch z w (w - 1 - j) t := (fun j t h1 h2 h3 => by rw [updN_n (by omega)]; exact hou j t h1 h2 h3)
              apply ih21 (tq := tq + 1) (gr := updN gr ((k - 1) * 8 + tq) (gc ((k - 1) * 8 + tq) + (mnN (gr (((k - 1) * 8 + tq) + 8)) (lb + ch)) + 268435456)) <;> first | assumption | omega
          · have n_46 : (k - 1) = (w - 1) := (nI_eq (a := (k - 1)) (b := (w - 1)) (by omega) (by omega)).mp c_46
            refine lv_iconst (v := 0) hx hb dX5_costsFromBehind_49 (by decide) ?_
            refine lv_goto (tgt := 72) hx hb dX5_costsFromBehind_50 (by decide) ?_
            refine lv_istore (lv' := [(6, .int 0), (5, .int (nI ((k - 1) * 8 + tq))), (0, .ref h0), (1, .int (nI (lsN (bhS (cbr gc bw ot) ch z w (w - k)) tq))), (2, .int (nI (k - 1))), (3, .int (nI lb)), (4, .int (nI tq))]) hx hb dX5_costsFromBehind_72 hl (by decide) rfl (fun ls hl => ?_)
            refine lv_aload_n hx hb dX5_costsFromBehind_74 rfl (lv_at hl 2 rfl) ?_
            refine va_get (D := (dC, dI)) (ci := 5) (v := .ref b0) (C := RX5) (T := TX5) (N := 9) hx hb hts hi_X5 hown hK hP 0 rfl rfl 1 (by decide) k_f15 (fun _ h9 => h9) rfl dX5_costsFromBehind_75 ?_
            refine lv_iload hx hb dX5_costsFromBehind_78 (lv_at hl 1 rfl) ?_
            refine lv_aload_n hx hb dX5_costsFromBehind_80 rfl (lv_at hl 2 rfl) ?_
            refine va_get (D := (dC, dI)) (ci := 5) (v := .ref c0) (C := RX5) (T := TX5) (N := 9) hx hb hts hi_X5 hown hK hP 0 rfl rfl 0 (by decide) k_f9 (fun _ h9 => h9) rfl dX5_costsFromBehind_81 ?_
            refine lv_iload hx hb dX5_costsFromBehind_84 (lv_at hl 1 rfl) ?_
            refine va_iald hx hb hK hP 1 0 rfl rfl (i := nI ((k - 1) * 8 + tq)) (vp_in_nI (by omega) (by omega)) dX5_costsFromBehind_86 ?_
            refine lv_topi (fun x_86 ex_86 => ?_)
            obtain rfl : nI (gc ((k - 1) * 8 + tq)) = x_86 := Eq.symm (ex_86.trans (nR_at (by omega)))
            refine lv_iload hx hb dX5_costsFromBehind_87 (lv_at hl 0 rfl) ?_
            refine lv_iadd hx hb dX5_costsFromBehind_89 ?_
            refine lv_topi (fun x_89 ex_89 => ?_)
            obtain rfl : nI (gc ((k - 1) * 8 + tq)) = x_89 := Eq.symm (ex_89.trans (nI_add (gc ((k - 1) * 8 + tq)) 0))
            refine lv_aload_n hx hb dX5_costsFromBehind_90 rfl (lv_at hl 2 rfl) ?_
            refine lv_iload_n hx hb dX5_costsFromBehind_91 rfl (lv_at hl 4 rfl) ?_
            refine lv_iload hx hb dX5_costsFromBehind_92 (lv_at hl 6 rfl) ?_
            have hPc := hP.sub (ws' := [(h0, .inr (5, [.ref c0, .ref b0, .ref h1, .ref m1, .int (nI w), .int (nI z), .int (nI ch), .int bw, .int ot]))]) [0] rfl
            have hKc := hK.sub (tys' := []) [] rfl
            refine vp_callSi (W.runV (As := [.int (nI (k - 1)), .int (nI tq)]) (rest := [.int (nI (gc ((k - 1) * 8 + tq))), .int (nI ((k - 1) * 8 + tq)), .ref b0]) ⟨hx, hb, hml, hown, hts⟩ (g_X5_isOpen l dC dI h0 c0 b0 h1 m1 w z ch bw ot (nI (k - 1)) (nI tq)) (cwV 2 hts gX5_costsFromBehind_X5_isOpen rfl rfl rfl (by decide +kernel) ⟨Nat.le_of_ble_eq_true rfl, Nat.le_of_ble_eq_true rfl⟩) ⟨fun a U g mk q => by obtain ⟨q0, qP, qK⟩ := q; exact ⟨q0, qP, va_K.moved (u := U) (U := U.calling g mk a) (Vm.Alike.refl U.vm) qK⟩, va_recv hK hP (ci := 5) (q0 := 0) rfl rfl, fun U hU hW => ⟨rfl, by rw [hU]; exact hPc, va_K.moved hW.alike hKc⟩⟩ rfl rfl hl.1 rfl (lv_room (Nat.le_of_ble_eq_true rfl)) dX5_costsFromBehind_94 ⟨Nat.le_of_ble_eq_true rfl, Nat.le_of_ble_eq_true rfl⟩) (fun r_94 hw_94 => ?_)
            clear hPc
            rcases hw_94 with ⟨hr_94, hb_94⟩ | ⟨hr_94, hb_94⟩
            · subst hr_94
              refine lv_if_eq (tgt := 104) hx hb dX5_costsFromBehind_97 (by decide) (fun c_97 => ?_) (fun c_97 => ?_)
              · exact absurd c_97 (by decide)
              refine lv_iconst (v := 0) hx hb dX5_costsFromBehind_100 (by decide) ?_
              refine lv_goto (tgt := 106) hx hb dX5_costsFromBehind_101 (by decide) ?_
              refine lv_iadd hx hb dX5_costsFromBehind_106 ?_
              refine lv_topi (fun x_106 ex_106 => ?_)
              obtain rfl : nI (gc ((k - 1) * 8 + tq)) = x_106 := Eq.symm (ex_106.trans (nI_add (gc ((k - 1) * 8 + tq)) 0))
              have ev : gc ((k - 1) * 8 + tq) = bhS (cbr gc bw ot) ch z w (w - k) tq := by rw [bh_z n_46 hk hk1, cbr_y hb_94]
              refine va_iast hx hb hK hP hD hS 2 1 rfl rfl (i := nI ((k - 1) * 8 + tq)) (x := nI (gc ((k - 1) * 8 + tq))) (vp_in_nI (by omega) (by omega)) dX5_costsFromBehind_107 (fun H locs hP hD hS => ?_)
              have er_107 : upd (nR gr) (nI ((k - 1) * 8 + tq) : Int32).toNatClampNeg (nI (gc ((k - 1) * 8 + tq))) = nR (updN gr ((k - 1) * 8 + tq) (gc ((k - 1) * 8 + tq))) := upd_nR (by omega)
              replace hP : va_P (dC, dI) vwCl [(h0, .inr (5, [.ref c0, .ref b0, .ref h1, .ref m1, .int (nI w), .int (nI z), .int (nI ch), .int bw, .int ot])), (c0, .inl (kc, 480, .inl (nR gc))), (b0, .inl (kb, 480, .inl (nR (updN gr ((k - 1) * 8 + tq) (gc ((k - 1) * 8 + tq)))))), (h1, .inl (kh, 60, .inl (nR gh))), (m1, .inl (km, 60, .inl (nR gx)))] H := by rw [← er_107]; exact hP
              replace hD : va_D A [(h0, .inr (5, [.ref c0, .ref b0, .ref h1, .ref m1, .int (nI w), .int (nI z), .int (nI ch), .int bw, .int ot])), (c0, .inl (kc, 480, .inl (nR gc))), (b0, .inl (kb, 480, .inl (nR (updN gr ((k - 1) * 8 + tq) (gc ((k - 1) * 8 + tq)))))), (h1, .inl (kh, 60, .inl (nR gh))), (m1, .inl (km, 60, .inl (nR gx)))] := by rw [← er_107]; exact hD
              refine lv_iload_n hx hb dX5_costsFromBehind_108 rfl (lv_at hl 3 rfl) ?_
              refine lv_aload_n hx hb dX5_costsFromBehind_109 rfl (lv_at hl 2 rfl) ?_
              refine va_get (D := (dC, dI)) (ci := 5) (v := .ref b0) (C := RX5) (T := TX5) (N := 9) hx hb hts hi_X5 hown hK hP 0 rfl rfl 1 (by decide) k_f15 (fun _ h9 => h9) rfl dX5_costsFromBehind_110 ?_
              refine lv_iload hx hb dX5_costsFromBehind_113 (lv_at hl 1 rfl) ?_
              refine va_iald hx hb hK hP 2 1 rfl rfl (i := nI ((k - 1) * 8 + tq)) (vp_in_nI (by omega) (by omega)) dX5_costsFromBehind_115 ?_
              refine lv_topi (fun x_115 ex_115 => ?_)
              obtain rfl : nI ((updN gr ((k - 1) * 8 + tq) (gc ((k - 1) * 8 + tq))) ((k - 1) * 8 + tq)) = x_115 := Eq.symm (ex_115.trans (nR_at (by omega)))
              refine va_mmin hx hb (by rw [hml]; exact hl.1.symm) hown (hts (.methodLink RX5 68 Lib.Math.min.name) (by decide +kernel)) (hts (.static Lib.Math.min.name) (by decide +kernel)) (hts (.initialized "java/lang/Math") (by decide +kernel)) (hts (.code Lib.Math.min.name Lib.Math.min.code 2 (some .int)) (by decide +kernel)) (Nat.le_of_ble_eq_true rfl) (Nat.le_of_ble_eq_true rfl) (Nat.le_of_ble_eq_true rfl) (Nat.le_of_ble_eq_true rfl) dX5_costsFromBehind_116 ?_
              have hb6 := bhS_le (ch := ch) hBD hw (k := w - k) (show tq < z by omega) (by omega)
              have hl6 := lsN_max (bhS (cbr gc bw ot) ch z w (w - k)) tq
              refine lv_topi (fun y_4 ey_4 => ?_)
              obtain rfl : nI (mnN (lsN (bhS (cbr gc bw ot) ch z w (w - k)) tq) ((updN gr ((k - 1) * 8 + tq) (gc ((k - 1) * 8 + tq))) ((k - 1) * 8 + tq))) = y_4 := Eq.symm (ey_4.trans (mnN_I (by omega) (by rw [updN_s, ev]; omega)))
              refine lv_istore_n (lv' := [(1, .int (nI (mnN (lsN (bhS (cbr gc bw ot) ch z w (w - k)) tq) ((updN gr ((k - 1) * 8 + tq) (gc ((k - 1) * 8 + tq))) ((k - 1) * 8 + tq))))), (6, .int 0), (5, .int (nI ((k - 1) * 8 + tq))), (0, .ref h0), (2, .int (nI (k - 1))), (3, .int (nI lb)), (4, .int (nI tq))]) hx hb dX5_costsFromBehind_119 rfl hl (by decide) rfl (fun ls hl => ?_)
              have el : lsN (bhS (cbr gc bw ot) ch z w (w - k)) (tq + 1) = mnN (lsN (bhS (cbr gc bw ot) ch z w (w - k)) tq) ((updN gr ((k - 1) * 8 + tq) (gc ((k - 1) * 8 + tq))) ((k - 1) * 8 + tq)) := by rw [updN_s, ev]; rfl
              replace hl : lv_has ls 7 [(1, .int (nI (lsN (bhS (cbr gc bw ot) ch z w (w - k)) (tq + 1)))), (6, .int 0), (5, .int (nI ((k - 1) * 8 + tq))), (0, .ref h0), (2, .int (nI (k - 1))), (3, .int (nI lb)), (4, .int (nI tq))] := by rw [el]; exact hl
              refine lv_iinc (v := nI (tq + 1)) (lv' := [(4, .int (nI (tq + 1))), (1, .int (nI (lsN (bhS (cbr gc bw ot) ch z w (w - k)) (tq + 1)))), (6, .int 0), (5, .int (nI ((k - 1) * 8 + tq))), (0, .ref h0), (2, .int (nI (k - 1))), (3, .int (nI lb))]) hx hb dX5_costsFromBehind_120 hl (k := 6) rfl (nI_1 _) (by decide) rfl (fun ls hl => ?_)
              refine lv_goto (tgt := 21) hx hb dX5_costsFromBehind_123 (by decide) ?_
              replace hl : lv_has ls 7 [(0, .ref h0), (1, .int (nI (lsN (bhS (cbr gc bw ot) ch z w (w - k)) (tq + 1)))), (2, .int (nI (k - 1))), (3, .int (nI lb)), (4, .int (nI (tq + 1)))] := lv_sub hl [4, 1, 5, 6, 0] rfl
              replace hP : va_P (dC, dI) vwCl [(h0, .inr (5, [.ref c0, .ref b0, .ref h1, .ref m1, .int (nI w), .int (nI z), .int (nI ch), .int bw, .int ot])), (c0, .inl (kc, 480, .inl (nR gc))), (b0, .inl (kb, 480, .inl (nR (updN gr ((k - 1) * 8 + tq) (gc ((k - 1) * 8 + tq)))))), (h1, .inl (kh, 60, .inl (nR gh))), (m1, .inl (km, 60, .inl (nR gx)))] H := hP
              replace hD : va_D A [(h0, .inr (5, [.ref c0, .ref b0, .ref h1, .ref m1, .int (nI w), .int (nI z), .int (nI ch), .int bw, .int ot])), (c0, .inl (kc, 480, .inl (nR gc))), (b0, .inl (kb, 480, .inl (nR (updN gr ((k - 1) * 8 + tq) (gc ((k - 1) * 8 + tq)))))), (h1, .inl (kh, 60, .inl (nR gh))), (m1, .inl (km, 60, .inl (nR gx)))] := hD
              have hin9 : ∀ t, t < (tq + 1) → (updN gr ((k - 1) * 8 + tq) (gc ((k - 1) * 8 + tq))) ((k - 1) * 8 + t) = bhS (cbr gc bw ot) ch z w (w - k) t := (fun t ht => by by_cases e9 : t = tq; (rw [e9, updN_s]; exact ev); (rw [updN_n (by omega)]; exact hin t (by omega)))
              have hou9 : ∀ j t, k ≤ j → j < w → t < z → (updN gr ((k - 1) * 8 + tq) (gc ((k - 1) * 8 + tq))) (j * 8 + t) = bhS (cbr gc bw ot) ch z w (w - 1 - j) t := (fun j t h1 h2 h3 => by rw [updN_n (by omega)]; exact hou j t h1 h2 h3)
              apply ih21 (tq := tq + 1) (gr := updN gr ((k - 1) * 8 + tq) (gc ((k - 1) * 8 + tq))) <;> first | assumption | omega
            · subst hr_94
              refine lv_if_eq (tgt := 104) hx hb dX5_costsFromBehind_97 (by decide) (fun c_97 => ?_) (fun c_97 => ?_)
              rotate_left
              · exact absurd (by decide) c_97
              refine lv_ldc hx hb hown (hts (.constant RX5 77 (268435456)) (by decide +kernel)) dX5_costsFromBehind_104 ?_
              refine lv_iadd hx hb dX5_costsFromBehind_106 ?_
              refine lv_topi (fun x_106 ex_106 => ?_)
              obtain rfl : nI (gc ((k - 1) * 8 + tq) + 268435456) = x_106 := Eq.symm (ex_106.trans (nI_add (gc ((k - 1) * 8 + tq)) 268435456))
              have ev : gc ((k - 1) * 8 + tq) + 268435456 = bhS (cbr gc bw ot) ch z w (w - k) tq := by rw [bh_z n_46 hk hk1, cbr_n hb_94]
              refine va_iast hx hb hK hP hD hS 2 1 rfl rfl (i := nI ((k - 1) * 8 + tq)) (x := nI (gc ((k - 1) * 8 + tq) + 268435456)) (vp_in_nI (by omega) (by omega)) dX5_costsFromBehind_107 (fun H locs hP hD hS => ?_)
              have er_107 : upd (nR gr) (nI ((k - 1) * 8 + tq) : Int32).toNatClampNeg (nI (gc ((k - 1) * 8 + tq) + 268435456)) = nR (updN gr ((k - 1) * 8 + tq) (gc ((k - 1) * 8 + tq) + 268435456)) := upd_nR (by omega)
              replace hP : va_P (dC, dI) vwCl [(h0, .inr (5, [.ref c0, .ref b0, .ref h1, .ref m1, .int (nI w), .int (nI z), .int (nI ch), .int bw, .int ot])), (c0, .inl (kc, 480, .inl (nR gc))), (b0, .inl (kb, 480, .inl (nR (updN gr ((k - 1) * 8 + tq) (gc ((k - 1) * 8 + tq) + 268435456))))), (h1, .inl (kh, 60, .inl (nR gh))), (m1, .inl (km, 60, .inl (nR gx)))] H := by rw [← er_107]; exact hP
              replace hD : va_D A [(h0, .inr (5, [.ref c0, .ref b0, .ref h1, .ref m1, .int (nI w), .int (nI z), .int (nI ch), .int bw, .int ot])), (c0, .inl (kc, 480, .inl (nR gc))), (b0, .inl (kb, 480, .inl (nR (updN gr ((k - 1) * 8 + tq) (gc ((k - 1) * 8 + tq) + 268435456))))), (h1, .inl (kh, 60, .inl (nR gh))), (m1, .inl (km, 60, .inl (nR gx)))] := by rw [← er_107]; exact hD
              refine lv_iload_n hx hb dX5_costsFromBehind_108 rfl (lv_at hl 3 rfl) ?_
              refine lv_aload_n hx hb dX5_costsFromBehind_109 rfl (lv_at hl 2 rfl) ?_
              refine va_get (D := (dC, dI)) (ci := 5) (v := .ref b0) (C := RX5) (T := TX5) (N := 9) hx hb hts hi_X5 hown hK hP 0 rfl rfl 1 (by decide) k_f15 (fun _ h9 => h9) rfl dX5_costsFromBehind_110 ?_
              refine lv_iload hx hb dX5_costsFromBehind_113 (lv_at hl 1 rfl) ?_
              refine va_iald hx hb hK hP 2 1 rfl rfl (i := nI ((k - 1) * 8 + tq)) (vp_in_nI (by omega) (by omega)) dX5_costsFromBehind_115 ?_
              refine lv_topi (fun x_115 ex_115 => ?_)
              obtain rfl : nI ((updN gr ((k - 1) * 8 + tq) (gc ((k - 1) * 8 + tq) + 268435456)) ((k - 1) * 8 + tq)) = x_115 := Eq.symm (ex_115.trans (nR_at (by omega)))
              refine va_mmin hx hb (by rw [hml]; exact hl.1.symm) hown (hts (.methodLink RX5 68 Lib.Math.min.name) (by decide +kernel)) (hts (.static Lib.Math.min.name) (by decide +kernel)) (hts (.initialized "java/lang/Math") (by decide +kernel)) (hts (.code Lib.Math.min.name Lib.Math.min.code 2 (some .int)) (by decide +kernel)) (Nat.le_of_ble_eq_true rfl) (Nat.le_of_ble_eq_true rfl) (Nat.le_of_ble_eq_true rfl) (Nat.le_of_ble_eq_true rfl) dX5_costsFromBehind_116 ?_
              have hb6 := bhS_le (ch := ch) hBD hw (k := w - k) (show tq < z by omega) (by omega)
              have hl6 := lsN_max (bhS (cbr gc bw ot) ch z w (w - k)) tq
              refine lv_topi (fun y_5 ey_5 => ?_)
              obtain rfl : nI (mnN (lsN (bhS (cbr gc bw ot) ch z w (w - k)) tq) ((updN gr ((k - 1) * 8 + tq) (gc ((k - 1) * 8 + tq) + 268435456)) ((k - 1) * 8 + tq))) = y_5 := Eq.symm (ey_5.trans (mnN_I (by omega) (by rw [updN_s, ev]; omega)))
              refine lv_istore_n (lv' := [(1, .int (nI (mnN (lsN (bhS (cbr gc bw ot) ch z w (w - k)) tq) ((updN gr ((k - 1) * 8 + tq) (gc ((k - 1) * 8 + tq) + 268435456)) ((k - 1) * 8 + tq))))), (6, .int 0), (5, .int (nI ((k - 1) * 8 + tq))), (0, .ref h0), (2, .int (nI (k - 1))), (3, .int (nI lb)), (4, .int (nI tq))]) hx hb dX5_costsFromBehind_119 rfl hl (by decide) rfl (fun ls hl => ?_)
              have el : lsN (bhS (cbr gc bw ot) ch z w (w - k)) (tq + 1) = mnN (lsN (bhS (cbr gc bw ot) ch z w (w - k)) tq) ((updN gr ((k - 1) * 8 + tq) (gc ((k - 1) * 8 + tq) + 268435456)) ((k - 1) * 8 + tq)) := by rw [updN_s, ev]; rfl
              replace hl : lv_has ls 7 [(1, .int (nI (lsN (bhS (cbr gc bw ot) ch z w (w - k)) (tq + 1)))), (6, .int 0), (5, .int (nI ((k - 1) * 8 + tq))), (0, .ref h0), (2, .int (nI (k - 1))), (3, .int (nI lb)), (4, .int (nI tq))] := by rw [el]; exact hl
              refine lv_iinc (v := nI (tq + 1)) (lv' := [(4, .int (nI (tq + 1))), (1, .int (nI (lsN (bhS (cbr gc bw ot) ch z w (w - k)) (tq + 1)))), (6, .int 0), (5, .int (nI ((k - 1) * 8 + tq))), (0, .ref h0), (2, .int (nI (k - 1))), (3, .int (nI lb))]) hx hb dX5_costsFromBehind_120 hl (k := 6) rfl (nI_1 _) (by decide) rfl (fun ls hl => ?_)
              refine lv_goto (tgt := 21) hx hb dX5_costsFromBehind_123 (by decide) ?_
              replace hl : lv_has ls 7 [(0, .ref h0), (1, .int (nI (lsN (bhS (cbr gc bw ot) ch z w (w - k)) (tq + 1)))), (2, .int (nI (k - 1))), (3, .int (nI lb)), (4, .int (nI (tq + 1)))] := lv_sub hl [4, 1, 5, 6, 0] rfl
              replace hP : va_P (dC, dI) vwCl [(h0, .inr (5, [.ref c0, .ref b0, .ref h1, .ref m1, .int (nI w), .int (nI z), .int (nI ch), .int bw, .int ot])), (c0, .inl (kc, 480, .inl (nR gc))), (b0, .inl (kb, 480, .inl (nR (updN gr ((k - 1) * 8 + tq) (gc ((k - 1) * 8 + tq) + 268435456))))), (h1, .inl (kh, 60, .inl (nR gh))), (m1, .inl (km, 60, .inl (nR gx)))] H := hP
              replace hD : va_D A [(h0, .inr (5, [.ref c0, .ref b0, .ref h1, .ref m1, .int (nI w), .int (nI z), .int (nI ch), .int bw, .int ot])), (c0, .inl (kc, 480, .inl (nR gc))), (b0, .inl (kb, 480, .inl (nR (updN gr ((k - 1) * 8 + tq) (gc ((k - 1) * 8 + tq) + 268435456))))), (h1, .inl (kh, 60, .inl (nR gh))), (m1, .inl (km, 60, .inl (nR gx)))] := hD
              have hin9 : ∀ t, t < (tq + 1) → (updN gr ((k - 1) * 8 + tq) (gc ((k - 1) * 8 + tq) + 268435456)) ((k - 1) * 8 + t) = bhS (cbr gc bw ot) ch z w (w - k) t := (fun t ht => by by_cases e9 : t = tq; (rw [e9, updN_s]; exact ev); (rw [updN_n (by omega)]; exact hin t (by omega)))
              have hou9 : ∀ j t, k ≤ j → j < w → t < z → (updN gr ((k - 1) * 8 + tq) (gc ((k - 1) * 8 + tq) + 268435456)) (j * 8 + t) = bhS (cbr gc bw ot) ch z w (w - 1 - j) t := (fun j t h1 h2 h3 => by rw [updN_n (by omega)]; exact hou j t h1 h2 h3)
              apply ih21 (tq := tq + 1) (gr := updN gr ((k - 1) * 8 + tq) (gc ((k - 1) * 8 + tq) + 268435456)) <;> first | assumption | omega

set_option maxHeartbeats 4000000 in
set_option maxRecDepth 100000 in
theorem g_X5_walk (l : Launch) (dC : Nat → ClassId) (dI : Nat → Nat → Nat) (h0 : Nat) (c0 : Nat) (b0 : Nat) (h1 : Nat) (m1 : Nat) (w : Nat) (z : Nat) (ch : Nat) (bw : Int32) (ot : Int32) (kc : ClassId) (kb : ClassId) (kh : ClassId) (km : ClassId) (gc : Nat → Nat) (gb : Nat → Nat) (gh : Nat → Nat) (gx : Nat → Nat) (sz : Nat) (hw : w ≤ 60) (hz : 0 < z ∧ z ≤ 8) (hch : ch ≤ 2000) (hcc : CCB gc w z) : Met l yX5_walk wsX5_walk ({ frames := 2, cells := 0, slots := 0, locals := 48 }) (va_Pc [.ref h0] (fun U => U.heap.size = sz ∧ va_P (dC, dI) vwCl [(h0, .inr (5, [.ref c0, .ref b0, .ref h1, .ref m1, .int (nI w), .int (nI z), .int (nI ch), .int bw, .int ot])), (c0, .inl (kc, 480, .inl (nR gc))), (b0, .inl (kb, 480, .inl (nR gb))), (h1, .inl (kh, 60, .inl (nR gh))), (m1, .inl (km, 60, .inl (nR gx)))] U.heap ∧ va_K (dC, dI) vwCl [(kc, .int), (kb, .int), (kh, .int), (km, .int)] U ∧ va_D (fun _ => True) [(h0, .inr (5, [.ref c0, .ref b0, .ref h1, .ref m1, .int (nI w), .int (nI z), .int (nI ch), .int bw, .int ot])), (c0, .inl (kc, 480, .inl (nR gc))), (b0, .inl (kb, 480, .inl (nR gb))), (h1, .inl (kh, 60, .inl (nR gh))), (m1, .inl (km, 60, .inl (nR gx)))])) (va_Qi (fun (r : Int32) (u : (Nat → Nat) × (Nat → Nat)) => match u with | (bo, ho) => (OPT (cbr gc bw ot) ch z w ho ∧ r = nI (pfC (cbr gc bw ot) ch ho w))) (fun (u : (Nat → Nat) × (Nat → Nat)) (t : State) => match u with | (bo, ho) => va_P (dC, dI) vwCl [(h0, .inr (5, [.ref c0, .ref b0, .ref h1, .ref m1, .int (nI w), .int (nI z), .int (nI ch), .int bw, .int ot])), (c0, .inl (kc, 480, .inl (nR gc))), (b0, .inl (kb, 480, .inl (nR bo))), (h1, .inl (kh, 60, .inl (nR ho))), (m1, .inl (km, 60, .inl (nR gx)))] t.heap ∧ va_D (va_A [(h0, .inr (5, [.ref c0, .ref b0, .ref h1, .ref m1, .int (nI w), .int (nI z), .int (nI ch), .int bw, .int ot])), (c0, .inl (kc, 480, .inl (nR gc))), (b0, .inl (kb, 480, .inl (nR gb))), (h1, .inl (kh, 60, .inl (nR gh))), (m1, .inl (km, 60, .inl (nR gx)))] sz) [(h0, .inr (5, [.ref c0, .ref b0, .ref h1, .ref m1, .int (nI w), .int (nI z), .int (nI ch), .int bw, .int ot])), (c0, .inl (kc, 480, .inl (nR gc))), (b0, .inl (kb, 480, .inl (nR bo))), (h1, .inl (kh, 60, .inl (nR ho))), (m1, .inl (km, 60, .inl (nR gx)))]) (va_A [(h0, .inr (5, [.ref c0, .ref b0, .ref h1, .ref m1, .int (nI w), .int (nI z), .int (nI ch), .int bw, .int ot])), (c0, .inl (kc, 480, .inl (nR gc))), (b0, .inl (kb, 480, .inl (nR gb))), (h1, .inl (kh, 60, .inl (nR gh))), (m1, .inl (km, 60, .inl (nR gx)))] sz)) 0 0 (va_A [(h0, .inr (5, [.ref c0, .ref b0, .ref h1, .ref m1, .int (nI w), .int (nI z), .int (nI ch), .int bw, .int ot])), (c0, .inl (kc, 480, .inl (nR gc))), (b0, .inl (kb, 480, .inl (nR gb))), (h1, .inl (kh, 60, .inl (nR gh))), (m1, .inl (km, 60, .inl (nR gx)))] sz) := by
  refine Met.ofW (cc := cX5_walk) (maxL := 4) (ret := (some .int)) (by decide) rfl ?_
  intro p e s m args below meth c s₁ B hml hv
  obtain ⟨rfl, hsz, hP, hK, hD0⟩ := hv
  have hx := B.exec
  have hb := B.bytes
  have hr := B.returns
  have hts := atoms_spec (ws := wsX5_walk) B.pre
  have hown : s.vm.findClass RX5 = some m.cls := findClass_of_methodNamed B.named
  have hlocks := B.notSynchronized
  subst hsz
  have hD := hD0.self (sz := s.heap.size)
  clear hD0
  generalize hAe : va_A [(h0, .inr (5, [.ref c0, .ref b0, .ref h1, .ref m1, .int (nI w), .int (nI z), .int (nI ch), .int bw, .int ot])), (c0, .inl (kc, 480, .inl (nR gc))), (b0, .inl (kb, 480, .inl (nR gb))), (h1, .inl (kh, 60, .inl (nR gh))), (m1, .inl (km, 60, .inl (nR gx)))] s.heap.size = A at hD ⊢
  have hA : ∀ q : Nat, s.heap.size ≤ q → A q := fun q h => by rw [← hAe]; exact Or.inr h
  clear hAe
  have hS : va_S A s.heap s.heap [] := va_S.rf
  replace hP : va_P (dC, dI) vwCl [(h0, .inr (5, [.ref c0, .ref b0, .ref h1, .ref m1, .int (nI w), .int (nI z), .int (nI ch), .int bw, .int ot])), (c0, .inl (kc, 480, .inl (nR gc))), (b0, .inl (kb, 480, .inl (nR gb))), (h1, .inl (kh, 60, .inl (nR gh))), (m1, .inl (km, 60, .inl (nR gx)))] s.heap := hP
  have hl := lv_entry ([.ref h0]) (n := 4) (Nat.le_of_ble_eq_true rfl)
  rw [lg_entry_eq]
  generalize (lg_sl ([.ref h0]) ++ List.replicate (4 - (lg_sl ([.ref h0])).length) Slot.unset).toArray = ls at hl ⊢
  replace hl : lv_has ls 4 [(0, .ref h0)] := hl
  have hi_X5 : ∀ w ∈ wsX50, w ∈ wsX5_walk := by decide +kernel
  have k_f24 := hts (.fieldLink RX5 24 "TongueTeller$Way" "words" "I") (by decide +kernel)
  have k_f18 := hts (.fieldLink RX5 18 "TongueTeller$Way" "chosen" "[I") (by decide +kernel)
  obtain ⟨b9, hBD⟩ := cbr_bd (bw := bw) (ot := ot) hw hcc
  refine lv_aload_n hx hb dX5_walk_0 rfl (lv_at hl 0 rfl) ?_
  have hPc := hP.sub (ws' := [(h0, .inr (5, [.ref c0, .ref b0, .ref h1, .ref m1, .int (nI w), .int (nI z), .int (nI ch), .int bw, .int ot])), (c0, .inl (kc, 480, .inl (nR gc))), (b0, .inl (kb, 480, .inl (nR gb))), (h1, .inl (kh, 60, .inl (nR gh))), (m1, .inl (km, 60, .inl (nR gx)))]) [0, 1, 2, 3, 4] rfl
  have hDc := hD.sub (ws' := [(h0, .inr (5, [.ref c0, .ref b0, .ref h1, .ref m1, .int (nI w), .int (nI z), .int (nI ch), .int bw, .int ot])), (c0, .inl (kc, 480, .inl (nR gc))), (b0, .inl (kb, 480, .inl (nR gb))), (h1, .inl (kh, 60, .inl (nR gh))), (m1, .inl (km, 60, .inl (nR gx)))]) [0, 1, 2, 3, 4] (by decide) rfl
  have hKc := hK.sub (tys' := [(kc, .int), (kb, .int), (kh, .int), (km, .int)]) [0, 1, 2, 3] rfl
  have hFc := va_free (wc := [(h0, .inr (5, [.ref c0, .ref b0, .ref h1, .ref m1, .int (nI w), .int (nI z), .int (nI ch), .int bw, .int ot])), (c0, .inl (kc, 480, .inl (nR gc))), (b0, .inl (kb, 480, .inl (nR gb))), (h1, .inl (kh, 60, .inl (nR gh))), (m1, .inl (km, 60, .inl (nR gx)))]) hD hS hA [0, 1, 2, 3, 4] rfl
  refine va_calli (va_runV (As := []) (rest := []) ⟨hx, hb, hml, hown, hts⟩ (g_X5_costsFromBehind l dC dI h0 c0 b0 h1 m1 w z ch bw ot kc kb kh km gc gb gh gx s.heap.size (by first | assumption | omega) (by first | assumption | omega) (by first | assumption | omega) (by first | assumption | omega)) (cwV 0 hts gX5_walk_X5_costsFromBehind rfl rfl rfl (by decide +kernel) ⟨Nat.le_of_ble_eq_true rfl, Nat.le_of_ble_eq_true rfl⟩) ⟨fun a U g mk q => by obtain ⟨q0, q1, qP, qK, qD⟩ := q; exact ⟨q0, q1, qP, va_K.moved (u := U) (U := U.calling g mk a) (Vm.Alike.refl U.vm) qK, qD⟩, va_recv hK hP (ci := 5) (q0 := 0) rfl rfl, fun U hU hW => ⟨rfl, by rw [hU], by rw [hU]; exact hPc, va_K.moved hW.alike hKc, hDc.weaken (fun _ _ _ _ => trivial)⟩⟩ rfl rfl hl.1 rfl (lv_room (Nat.le_of_ble_eq_true rfl)) dX5_walk_1 ⟨Nat.le_of_ble_eq_true rfl, Nat.le_of_ble_eq_true rfl⟩) hS (fun q _ h => hFc q h) hFc (fun r_1 u t H1 locs ht hvm hw_1 hB hz1 hk1 hS => ?_)
  obtain ⟨bo_1, rfl⟩ : ∃ z, z = u := ⟨_, rfl⟩
  try dsimp only at hw_1 hB
  obtain ⟨hP1, hD1⟩ := hB
  rw [ht] at hP1
  obtain ⟨hP, hD⟩ := va_join (wr := []) (w1 := [(h0, .inr (5, [.ref c0, .ref b0, .ref h1, .ref m1, .int (nI w), .int (nI z), .int (nI ch), .int bw, .int ot])), (c0, .inl (kc, 480, .inl (nR gc))), (b0, .inl (kb, 480, .inl (nR bo_1))), (h1, .inl (kh, 60, .inl (nR gh))), (m1, .inl (km, 60, .inl (nR gx)))]) hP hD [0, 1, 2, 3, 4] [] rfl rfl (by decide) (by decide) hk1 hFc hP1 hD1
  generalize H1 = H at hP hS ⊢
  replace hP : va_P (dC, dI) vwCl [(h0, .inr (5, [.ref c0, .ref b0, .ref h1, .ref m1, .int (nI w), .int (nI z), .int (nI ch), .int bw, .int ot])), (c0, .inl (kc, 480, .inl (nR gc))), (b0, .inl (kb, 480, .inl (nR bo_1))), (h1, .inl (kh, 60, .inl (nR gh))), (m1, .inl (km, 60, .inl (nR gx)))] H := hP
  replace hD : va_D A [(h0, .inr (5, [.ref c0, .ref b0, .ref h1, .ref m1, .int (nI w), .int (nI z), .int (nI ch), .int bw, .int ot])), (c0, .inl (kc, 480, .inl (nR gc))), (b0, .inl (kb, 480, .inl (nR bo_1))), (h1, .inl (kh, 60, .inl (nR gh))), (m1, .inl (km, 60, .inl (nR gx)))] := hD
  obtain ⟨hcb_1, hcr_1⟩ := hw_1
  refine lv_istore_n (lv' := [(1, .int r_1), (0, .ref h0)]) hx hb dX5_walk_4 rfl hl (by decide) rfl (fun ls hl => ?_)
  refine lv_iconst (v := (-1)) hx hb dX5_walk_5 (by decide) ?_
  refine lv_istore_n (lv' := [(2, .int (-1)), (1, .int r_1), (0, .ref h0)]) hx hb dX5_walk_6 rfl hl (by decide) rfl (fun ls hl => ?_)
  refine lv_iconst (v := 0) hx hb dX5_walk_7 (by decide) ?_
  refine lv_istore_n (lv' := [(3, .int 0), (2, .int (-1)), (1, .int r_1), (0, .ref h0)]) hx hb dX5_walk_8 rfl hl (by decide) rfl (fun ls hl => ?_)
  obtain ⟨i, e_i⟩ : ∃ y : Nat, y = 0 := ⟨_, rfl⟩
  obtain ⟨x2, e_x2⟩ : ∃ y : Int32, y = (-1) := ⟨_, rfl⟩
  obtain ⟨gq, e_gq⟩ : ∃ y : Nat → Nat, y = gh := ⟨_, rfl⟩
  replace hl : lv_has ls 4 [(0, .ref h0), (1, .int r_1), (2, .int x2), (3, .int (nI i))] := by subst e_i; subst e_x2; subst e_gq; exact lv_sub hl [3, 2, 1, 0] rfl
  replace hP : va_P (dC, dI) vwCl [(h0, .inr (5, [.ref c0, .ref b0, .ref h1, .ref m1, .int (nI w), .int (nI z), .int (nI ch), .int bw, .int ot])), (c0, .inl (kc, 480, .inl (nR gc))), (b0, .inl (kb, 480, .inl (nR bo_1))), (h1, .inl (kh, 60, .inl (nR gq))), (m1, .inl (km, 60, .inl (nR gx)))] H := by subst e_i; subst e_x2; subst e_gq; exact hP
  replace hD : va_D A [(h0, .inr (5, [.ref c0, .ref b0, .ref h1, .ref m1, .int (nI w), .int (nI z), .int (nI ch), .int bw, .int ot])), (c0, .inl (kc, 480, .inl (nR gc))), (b0, .inl (kb, 480, .inl (nR bo_1))), (h1, .inl (kh, 60, .inl (nR gq))), (m1, .inl (km, 60, .inl (nR gx)))] := by subst e_i; subst e_x2; subst e_gq; exact hD
  have hi1 : i ≤ w := by subst e_i; subst e_x2; subst e_gq; omega
  have hx9 : x2 = fmI (chN (cbr gc bw ot) ch z w) i := by subst e_i; subst e_x2; subst e_gq; rfl
  have hq : ∀ j, j < i → gq j = chN (cbr gc bw ot) ch z w j := by subst e_i; subst e_x2; subst e_gq; exact fun j hj => absurd hj (Nat.not_lt_zero j)
  clear e_i e_x2 e_gq
  obtain ⟨nn9, hnn9⟩ : ∃ q : Nat, w - i < q := ⟨_, Nat.lt_succ_self _⟩
  induction nn9 generalizing i x2 gq H locs ls with
  | zero => exact absurd hnn9 (Nat.not_lt_zero _)
  | succ nn9 ih9 =>
    refine lv_iload_n hx hb dX5_walk_9 rfl (lv_at hl 3 rfl) ?_
    refine lv_aload_n hx hb dX5_walk_10 rfl (lv_at hl 0 rfl) ?_
    refine va_get (D := (dC, dI)) (ci := 5) (v := .int (nI w)) (C := RX5) (T := TX5) (N := 9) hx hb hts hi_X5 hown hK hP 0 rfl rfl 4 (by decide) k_f24 (fun _ h9 => h9) rfl dX5_walk_11 ?_
    refine lv_icmp_ge (tgt := 37) hx hb dX5_walk_14 (by decide) (fun c_14 => ?_) (fun c_14 => ?_)
    · have n_14 : w ≤ i := (nI_leI (a := w) (b := i) (by omega) (by omega)).mp c_14
      refine lv_iload_n hx hb dX5_walk_37 rfl (lv_at hl 1 rfl) ?_
      have hP9 := hP.sub (ws' := [(h0, .inr (5, [.ref c0, .ref b0, .ref h1, .ref m1, .int (nI w), .int (nI z), .int (nI ch), .int bw, .int ot])), (c0, .inl (kc, 480, .inl (nR gc))), (b0, .inl (kb, 480, .inl (nR bo_1))), (h1, .inl (kh, 60, .inl (nR gq))), (m1, .inl (km, 60, .inl (nR gx)))]) [0, 1, 2, 3, 4] rfl
      have hD9 := hD.sub (ws' := [(h0, .inr (5, [.ref c0, .ref b0, .ref h1, .ref m1, .int (nI w), .int (nI z), .int (nI ch), .int bw, .int ot])), (c0, .inl (kc, 480, .inl (nR gc))), (b0, .inl (kb, 480, .inl (nR bo_1))), (h1, .inl (kh, 60, .inl (nR gq))), (m1, .inl (km, 60, .inl (nR gx)))]) [0, 1, 2, 3, 4] (by decide) rfl
      exact W.iret (v := r_1) hx hb hr (fun t ht hW => ⟨⟨r_1, (bo_1, gq), rfl, by exact wk_ret hBD hw hch hz.1 (fun j hj => hq j (by omega)) hcr_1, by rw [ht]; exact hP9, hD9⟩, hS.F ht⟩) hS.2.2 dX5_walk_38
    · have n_14 : i < w := Nat.not_le.mp (fun h9 => c_14 ((nI_leI (a := w) (b := i) (by omega) (by omega)).mpr h9))
      refine lv_aload_n hx hb dX5_walk_17 rfl (lv_at hl 0 rfl) ?_
      refine lv_iload_n hx hb dX5_walk_18 rfl (lv_at hl 3 rfl) ?_
      refine lv_iload_n hx hb dX5_walk_19 rfl (lv_at hl 2 rfl) ?_
      have hPc := hP.sub (ws' := [(h0, .inr (5, [.ref c0, .ref b0, .ref h1, .ref m1, .int (nI w), .int (nI z), .int (nI ch), .int bw, .int ot])), (c0, .inl (kc, 480, .inl (nR gc))), (b0, .inl (kb, 480, .inl (nR bo_1))), (h1, .inl (kh, 60, .inl (nR gq))), (m1, .inl (km, 60, .inl (nR gx)))]) [0, 1, 2, 3, 4] rfl
      have hKc := hK.sub (tys' := [(kc, .int), (kb, .int), (kh, .int), (km, .int)]) [0, 1, 2, 3] rfl
      refine vp_callSi (W.runV (As := [.int (nI i), .int x2]) (rest := []) ⟨hx, hb, hml, hown, hts⟩ (g_X5_cheapestAt l dC dI h0 c0 b0 h1 m1 w z ch bw ot kc kb kh km gc bo_1 gq gx i x2 (hw) (hz) (hch) (by omega) (fun t ht => by rw [hcb_1 i t (by omega) ht]; exact bhS_le hBD hw ht (by omega))) (cwV 2 hts gX5_walk_X5_cheapestAt rfl rfl rfl (by decide +kernel) ⟨Nat.le_of_ble_eq_true rfl, Nat.le_of_ble_eq_true rfl⟩) ⟨fun a U g mk q => by obtain ⟨q0, qP, qK⟩ := q; exact ⟨q0, qP, va_K.moved (u := U) (U := U.calling g mk a) (Vm.Alike.refl U.vm) qK⟩, va_recv hK hP (ci := 5) (q0 := 0) rfl rfl, fun U hU hW => ⟨rfl, by rw [hU]; exact hPc, va_K.moved hW.alike hKc⟩⟩ rfl rfl hl.1 rfl (lv_room (Nat.le_of_ble_eq_true rfl)) dX5_walk_20 ⟨Nat.le_of_ble_eq_true rfl, Nat.le_of_ble_eq_true rfl⟩) (fun r_20 hw_20 => ?_)
      clear hPc
      have hr_20 := hw_20
      obtain rfl : nI (amN (wF bo_1 x2 ch i) z) = r_20 := Eq.symm hr_20
      have eA : amN (wF bo_1 x2 ch i) z = chN (cbr gc bw ot) ch z w i := by rw [chN_w]; apply amN_cg; intro t ht; show bo_1 (i * 8 + t) + fch x2 ch t = bhS (cbr gc bw ot) ch z w (w - 1 - i) t + cin ch (chN (cbr gc bw ot) ch z w) i t; rw [hcb_1 i t (by omega) ht, hx9, fch_cin (fun j => Nat.lt_of_lt_of_le (chN_lt hz.1 j) hz.2) (by omega)]
      refine lv_istore_n (lv' := [(2, .int (nI (amN (wF bo_1 x2 ch i) z))), (0, .ref h0), (1, .int r_1), (3, .int (nI i))]) hx hb dX5_walk_23 rfl hl (by decide) rfl (fun ls hl => ?_)
      refine lv_aload_n hx hb dX5_walk_24 rfl (lv_at hl 1 rfl) ?_
      refine va_get (D := (dC, dI)) (ci := 5) (v := .ref h1) (C := RX5) (T := TX5) (N := 9) hx hb hts hi_X5 hown hK hP 0 rfl rfl 2 (by decide) k_f18 (fun _ h9 => h9) rfl dX5_walk_25 ?_
      refine lv_iload_n hx hb dX5_walk_28 rfl (lv_at hl 3 rfl) ?_
      refine lv_iload_n hx hb dX5_walk_29 rfl (lv_at hl 0 rfl) ?_
      refine va_iast hx hb hK hP hD hS 3 2 rfl rfl (i := nI i) (x := nI (amN (wF bo_1 x2 ch i) z)) (vp_in_nI (by omega) (by omega)) dX5_walk_30 (fun H locs hP hD hS => ?_)
      have er_30 : upd (nR gq) (nI i : Int32).toNatClampNeg (nI (amN (wF bo_1 x2 ch i) z)) = nR (updN gq i (amN (wF bo_1 x2 ch i) z)) := upd_nR (by omega)
      replace hP : va_P (dC, dI) vwCl [(h0, .inr (5, [.ref c0, .ref b0, .ref h1, .ref m1, .int (nI w), .int (nI z), .int (nI ch), .int bw, .int ot])), (c0, .inl (kc, 480, .inl (nR gc))), (b0, .inl (kb, 480, .inl (nR bo_1))), (h1, .inl (kh, 60, .inl (nR (updN gq i (amN (wF bo_1 x2 ch i) z))))), (m1, .inl (km, 60, .inl (nR gx)))] H := by rw [← er_30]; exact hP
      replace hD : va_D A [(h0, .inr (5, [.ref c0, .ref b0, .ref h1, .ref m1, .int (nI w), .int (nI z), .int (nI ch), .int bw, .int ot])), (c0, .inl (kc, 480, .inl (nR gc))), (b0, .inl (kb, 480, .inl (nR bo_1))), (h1, .inl (kh, 60, .inl (nR (updN gq i (amN (wF bo_1 x2 ch i) z))))), (m1, .inl (km, 60, .inl (nR gx)))] := by rw [← er_30]; exact hD
      refine lv_iinc (v := nI (i + 1)) (lv' := [(3, .int (nI (i + 1))), (2, .int (nI (amN (wF bo_1 x2 ch i) z))), (0, .ref h0), (1, .int r_1)]) hx hb dX5_walk_31 hl (k := 3) rfl (nI_1 _) (by decide) rfl (fun ls hl => ?_)
      refine lv_goto (tgt := 9) hx hb dX5_walk_34 (by decide) ?_
      replace hl : lv_has ls 4 [(0, .ref h0), (1, .int r_1), (2, .int (nI (amN (wF bo_1 x2 ch i) z))), (3, .int (nI (i + 1)))] := lv_sub hl [2, 3, 1, 0] rfl
      replace hP : va_P (dC, dI) vwCl [(h0, .inr (5, [.ref c0, .ref b0, .ref h1, .ref m1, .int (nI w), .int (nI z), .int (nI ch), .int bw, .int ot])), (c0, .inl (kc, 480, .inl (nR gc))), (b0, .inl (kb, 480, .inl (nR bo_1))), (h1, .inl (kh, 60, .inl (nR (updN gq i (amN (wF bo_1 x2 ch i) z))))), (m1, .inl (km, 60, .inl (nR gx)))] H := hP
      replace hD : va_D A [(h0, .inr (5, [.ref c0, .ref b0, .ref h1, .ref m1, .int (nI w), .int (nI z), .int (nI ch), .int bw, .int ot])), (c0, .inl (kc, 480, .inl (nR gc))), (b0, .inl (kb, 480, .inl (nR bo_1))), (h1, .inl (kh, 60, .inl (nR (updN gq i (amN (wF bo_1 x2 ch i) z))))), (m1, .inl (km, 60, .inl (nR gx)))] := hD
      have hx99 : (nI (amN (wF bo_1 x2 ch i) z)) = fmI (chN (cbr gc bw ot) ch z w) (i + 1) := (by rw [eA]; exact fmI_s.symm)
      have hq9 : ∀ j, j < (i + 1) → (updN gq i (amN (wF bo_1 x2 ch i) z)) j = chN (cbr gc bw ot) ch z w j := (fun j hj => by by_cases e9 : j = i; (rw [e9, updN_s]; exact eA); (rw [updN_n e9]; exact hq j (by omega)))
      apply ih9 (i := i + 1) (x2 := nI (amN (wF bo_1 x2 ch i) z)) (gq := updN gq i (amN (wF bo_1 x2 ch i) z)) <;> first | assumption | omega

set_option maxHeartbeats 4000000 in
set_option maxRecDepth 100000 in
theorem g_X5_firstUnlike (l : Launch) (dC : Nat → ClassId) (dI : Nat → Nat → Nat) (h0 : Nat) (c0 : Nat) (b0 : Nat) (h1 : Nat) (m1 : Nat) (w : Nat) (z : Nat) (ch : Nat) (bw : Int32) (ot : Int32) (kc : ClassId) (kb : ClassId) (kh : ClassId) (km : ClassId) (gc : Nat → Nat) (gb : Nat → Nat) (gh : Nat → Nat) (gx : Nat → Nat) (b9 : Nat) (hb9 : b9 ≤ 60) (hgh : ∀ j, j < b9 → gh j < 8 ∧ gx j < 8) : Met l yX5_firstUnlike wsX5_firstUnlike ({ frames := 0, cells := 0, slots := 0, locals := 0 }) (va_Pc [.ref h0, .int (nI b9)] (fun U => va_P (dC, dI) vwCl [(h0, .inr (5, [.ref c0, .ref b0, .ref h1, .ref m1, .int (nI w), .int (nI z), .int (nI ch), .int bw, .int ot])), (c0, .inl (kc, 480, .inl (nR gc))), (b0, .inl (kb, 480, .inl (nR gb))), (h1, .inl (kh, 60, .inl (nR gh))), (m1, .inl (km, 60, .inl (nR gx)))] U.heap ∧ va_K (dC, dI) vwCl [(kc, .int), (kb, .int), (kh, .int), (km, .int)] U)) (vp_Si (fun r => ∃ (uo : Nat), r = nI uo ∧ (uo ≤ b9 ∧ (∀ j, j < uo → gh j = gx j) ∧ (uo = b9 ∨ ¬ gh uo = gx uo)))) 0 0 (fun _ => False) := by
  refine Met.ofW (cc := cX5_firstUnlike) (maxL := 3) (ret := (some .int)) (by decide) rfl ?_
  intro p e s m args below meth c s₁ B hml hv
  obtain ⟨rfl, hP, hK⟩ := hv
  have hx := B.exec
  have hb := B.bytes
  have hr := B.returns
  have hts := atoms_spec (ws := wsX5_firstUnlike) B.pre
  have hown : s.vm.findClass RX5 = some m.cls := findClass_of_methodNamed B.named
  have hlocks := B.notSynchronized
  replace hP : va_P (dC, dI) vwCl [(h0, .inr (5, [.ref c0, .ref b0, .ref h1, .ref m1, .int (nI w), .int (nI z), .int (nI ch), .int bw, .int ot])), (c0, .inl (kc, 480, .inl (nR gc))), (b0, .inl (kb, 480, .inl (nR gb))), (h1, .inl (kh, 60, .inl (nR gh))), (m1, .inl (km, 60, .inl (nR gx)))] s.heap := hP
  have hl := lv_entry ([.ref h0, .int (nI b9)]) (n := 3) (Nat.le_of_ble_eq_true rfl)
  rw [lg_entry_eq]
  generalize (lg_sl ([.ref h0, .int (nI b9)]) ++ List.replicate (3 - (lg_sl ([.ref h0, .int (nI b9)])).length) Slot.unset).toArray = ls at hl ⊢
  replace hl : lv_has ls 3 [(0, .ref h0), (1, .int (nI b9))] := hl
  have hi_X5 : ∀ w ∈ wsX50, w ∈ wsX5_firstUnlike := by decide +kernel
  have k_f18 := hts (.fieldLink RX5 18 "TongueTeller$Way" "chosen" "[I") (by decide +kernel)
  have k_f21 := hts (.fieldLink RX5 21 "TongueTeller$Way" "compared" "[I") (by decide +kernel)
  refine lv_iconst (v := 0) hx hb dX5_firstUnlike_0 (by decide) ?_
  refine lv_istore_n (lv' := [(2, .int 0), (0, .ref h0), (1, .int (nI b9))]) hx hb dX5_firstUnlike_1 rfl hl (by decide) rfl (fun ls hl => ?_)
  obtain ⟨i, e_i⟩ : ∃ y : Nat, y = 0 := ⟨_, rfl⟩
  replace hl : lv_has ls 3 [(0, .ref h0), (1, .int (nI b9)), (2, .int (nI i))] := by subst e_i; exact lv_sub hl [1, 2, 0] rfl
  have hi1 : i ≤ b9 := by subst e_i; omega
  have hi2 : ∀ j, j < i → gh j = gx j := by subst e_i; exact fun j hj => absurd hj (Nat.not_lt_zero j)
  clear e_i
  obtain ⟨nn2, hnn2⟩ : ∃ q : Nat, b9 - i < q := ⟨_, Nat.lt_succ_self _⟩
  induction nn2 generalizing i ls with
  | zero => exact absurd hnn2 (Nat.not_lt_zero _)
  | succ nn2 ih2 =>
    refine lv_iload_n hx hb dX5_firstUnlike_2 rfl (lv_at hl 2 rfl) ?_
    refine lv_iload_n hx hb dX5_firstUnlike_3 rfl (lv_at hl 1 rfl) ?_
    refine lv_icmp_ge (tgt := 30) hx hb dX5_firstUnlike_4 (by decide) (fun c_4 => ?_) (fun c_4 => ?_)
    · have n_4 : b9 ≤ i := (nI_leI (a := b9) (b := i) (by omega) (by omega)).mp c_4
      refine lv_iload_n hx hb dX5_firstUnlike_30 rfl (lv_at hl 1 rfl) ?_
      exact W.iret (v := nI b9) hx hb hr (fun t ht hW => ⟨nI b9, rfl, ⟨b9, rfl, by exact ⟨by omega, fun j hj => hi2 j (by omega), Or.inl rfl⟩⟩, ht⟩) (fun _ h => absurd h List.not_mem_nil) dX5_firstUnlike_31
    · have n_4 : i < b9 := Nat.not_le.mp (fun h9 => c_4 ((nI_leI (a := b9) (b := i) (by omega) (by omega)).mpr h9))
      have h7 := hgh i (by omega)
      refine lv_aload_n hx hb dX5_firstUnlike_7 rfl (lv_at hl 0 rfl) ?_
      refine va_get (D := (dC, dI)) (ci := 5) (v := .ref h1) (C := RX5) (T := TX5) (N := 9) hx hb hts hi_X5 hown hK hP 0 rfl rfl 2 (by decide) k_f18 (fun _ h9 => h9) rfl dX5_firstUnlike_8 ?_
      refine lv_iload_n hx hb dX5_firstUnlike_11 rfl (lv_at hl 2 rfl) ?_
      refine va_iald hx hb hK hP 3 2 rfl rfl (i := nI i) (vp_in_nI (by omega) (by omega)) dX5_firstUnlike_12 ?_
      refine lv_topi (fun x_12 ex_12 => ?_)
      obtain rfl : nI (gh i) = x_12 := Eq.symm (ex_12.trans (nR_at (by omega)))
      refine lv_aload_n hx hb dX5_firstUnlike_13 rfl (lv_at hl 0 rfl) ?_
      refine va_get (D := (dC, dI)) (ci := 5) (v := .ref m1) (C := RX5) (T := TX5) (N := 9) hx hb hts hi_X5 hown hK hP 0 rfl rfl 3 (by decide) k_f21 (fun _ h9 => h9) rfl dX5_firstUnlike_14 ?_
      refine lv_iload_n hx hb dX5_firstUnlike_17 rfl (lv_at hl 2 rfl) ?_
      refine va_iald hx hb hK hP 4 3 rfl rfl (i := nI i) (vp_in_nI (by omega) (by omega)) dX5_firstUnlike_18 ?_
      refine lv_topi (fun x_18 ex_18 => ?_)
      obtain rfl : nI (gx i) = x_18 := Eq.symm (ex_18.trans (nR_at (by omega)))
      refine lv_icmp_eq (tgt := 24) hx hb dX5_firstUnlike_19 (by decide) (fun c_19 => ?_) (fun c_19 => ?_)
      · have n_19 : (gh i) = (gx i) := (nI_eq (a := (gh i)) (b := (gx i)) (by omega) (by omega)).mp c_19
        refine lv_iinc (v := nI (i + 1)) (lv' := [(2, .int (nI (i + 1))), (0, .ref h0), (1, .int (nI b9))]) hx hb dX5_firstUnlike_24 hl (k := 2) rfl (nI_1 _) (by decide) rfl (fun ls hl => ?_)
        refine lv_goto (tgt := 2) hx hb dX5_firstUnlike_27 (by decide) ?_
        replace hl : lv_has ls 3 [(0, .ref h0), (1, .int (nI b9)), (2, .int (nI (i + 1)))] := lv_sub hl [1, 2, 0] rfl
        have hi29 : ∀ j, j < (i + 1) → gh j = gx j := lt_s hi2 n_19
        apply ih2 (i := i + 1) <;> first | assumption | omega
      · have n_19 : (gh i) ≠ (gx i) := fun h9 => c_19 ((nI_eq (a := (gh i)) (b := (gx i)) (by omega) (by omega)).mpr h9)
        refine lv_iload_n hx hb dX5_firstUnlike_22 rfl (lv_at hl 2 rfl) ?_
        exact W.iret (v := nI i) hx hb hr (fun t ht hW => ⟨nI i, rfl, ⟨i, rfl, by exact ⟨by omega, hi2, Or.inr n_19⟩⟩, ht⟩) (fun _ h => absurd h List.not_mem_nil) dX5_firstUnlike_23

set_option maxHeartbeats 4000000 in
set_option maxRecDepth 100000 in
theorem g_X5_alikeForEachEnd (l : Launch) (dC : Nat → ClassId) (dI : Nat → Nat → Nat) (h0 : Nat) (c0 : Nat) (b0 : Nat) (h1 : Nat) (m1 : Nat) (w : Nat) (z : Nat) (ch : Nat) (bw : Int32) (ot : Int32) (kc : ClassId) (kb : ClassId) (kh : ClassId) (km : ClassId) (gc : Nat → Nat) (gb : Nat → Nat) (gh : Nat → Nat) (gx : Nat → Nat) (sz : Nat) (hw : w ≤ 60) (hz : 0 < z ∧ z ≤ 8) (hch : ch ≤ 2000) (hcc : CCB gc w z) : Met l yX5_alikeForEachEnd wsX5_alikeForEachEnd ({ frames := 3, cells := 0, slots := 0, locals := 71 }) (va_Pc [.ref h0] (fun U => U.heap.size = sz ∧ va_P (dC, dI) vwCl [(h0, .inr (5, [.ref c0, .ref b0, .ref h1, .ref m1, .int (nI w), .int (nI z), .int (nI ch), .int bw, .int ot])), (c0, .inl (kc, 480, .inl (nR gc))), (b0, .inl (kb, 480, .inl (nR gb))), (h1, .inl (kh, 60, .inl (nR gh))), (m1, .inl (km, 60, .inl (nR gx)))] U.heap ∧ va_K (dC, dI) vwCl [(kc, .int), (kb, .int), (kh, .int), (km, .int)] U ∧ va_D (fun _ => True) [(h0, .inr (5, [.ref c0, .ref b0, .ref h1, .ref m1, .int (nI w), .int (nI z), .int (nI ch), .int bw, .int ot])), (c0, .inl (kc, 480, .inl (nR gc))), (b0, .inl (kb, 480, .inl (nR gb))), (h1, .inl (kh, 60, .inl (nR gh))), (m1, .inl (km, 60, .inl (nR gx)))])) (va_Qi (fun (r : Int32) (u : Int32 × Int32 × (Nat → Nat) × (Nat → Nat) × (Nat → Nat)) => match u with | (bx, ox, bo, ho, mo) => (∃ (P : Nat → Nat → Nat) (lo : Nat), (∀ e, e < z → OPT (cbr gc (nI w - 1) (1 <<< (nI e &&& 31))) ch z w (P e)) ∧ FXI P w z lo ∧ r = nI lo)) (fun (u : Int32 × Int32 × (Nat → Nat) × (Nat → Nat) × (Nat → Nat)) (t : State) => match u with | (bx, ox, bo, ho, mo) => va_P (dC, dI) vwCl [(h0, .inr (5, [.ref c0, .ref b0, .ref h1, .ref m1, .int (nI w), .int (nI z), .int (nI ch), .int bx, .int ox])), (c0, .inl (kc, 480, .inl (nR gc))), (b0, .inl (kb, 480, .inl (nR bo))), (h1, .inl (kh, 60, .inl (nR ho))), (m1, .inl (km, 60, .inl (nR mo)))] t.heap ∧ va_D (va_A [(h0, .inr (5, [.ref c0, .ref b0, .ref h1, .ref m1, .int (nI w), .int (nI z), .int (nI ch), .int bw, .int ot])), (c0, .inl (kc, 480, .inl (nR gc))), (b0, .inl (kb, 480, .inl (nR gb))), (h1, .inl (kh, 60, .inl (nR gh))), (m1, .inl (km, 60, .inl (nR gx)))] sz) [(h0, .inr (5, [.ref c0, .ref b0, .ref h1, .ref m1, .int (nI w), .int (nI z), .int (nI ch), .int bx, .int ox])), (c0, .inl (kc, 480, .inl (nR gc))), (b0, .inl (kb, 480, .inl (nR bo))), (h1, .inl (kh, 60, .inl (nR ho))), (m1, .inl (km, 60, .inl (nR mo)))]) (va_A [(h0, .inr (5, [.ref c0, .ref b0, .ref h1, .ref m1, .int (nI w), .int (nI z), .int (nI ch), .int bw, .int ot])), (c0, .inl (kc, 480, .inl (nR gc))), (b0, .inl (kb, 480, .inl (nR gb))), (h1, .inl (kh, 60, .inl (nR gh))), (m1, .inl (km, 60, .inl (nR gx)))] sz)) 0 0 (va_A [(h0, .inr (5, [.ref c0, .ref b0, .ref h1, .ref m1, .int (nI w), .int (nI z), .int (nI ch), .int bw, .int ot])), (c0, .inl (kc, 480, .inl (nR gc))), (b0, .inl (kb, 480, .inl (nR gb))), (h1, .inl (kh, 60, .inl (nR gh))), (m1, .inl (km, 60, .inl (nR gx)))] sz) := by
  refine Met.ofW (cc := cX5_alikeForEachEnd) (maxL := 3) (ret := (some .int)) (by decide) rfl ?_
  intro p e s m args below meth c s₁ B hml hv
  obtain ⟨rfl, hsz, hP, hK, hD0⟩ := hv
  have hx := B.exec
  have hb := B.bytes
  have hr := B.returns
  have hts := atoms_spec (ws := wsX5_alikeForEachEnd) B.pre
  have hown : s.vm.findClass RX5 = some m.cls := findClass_of_methodNamed B.named
  have hlocks := B.notSynchronized
  subst hsz
  have hD := hD0.self (sz := s.heap.size)
  clear hD0
  generalize hAe : va_A [(h0, .inr (5, [.ref c0, .ref b0, .ref h1, .ref m1, .int (nI w), .int (nI z), .int (nI ch), .int bw, .int ot])), (c0, .inl (kc, 480, .inl (nR gc))), (b0, .inl (kb, 480, .inl (nR gb))), (h1, .inl (kh, 60, .inl (nR gh))), (m1, .inl (km, 60, .inl (nR gx)))] s.heap.size = A at hD ⊢
  have hA : ∀ q : Nat, s.heap.size ≤ q → A q := fun q h => by rw [← hAe]; exact Or.inr h
  clear hAe
  have hS : va_S A s.heap s.heap [] := va_S.rf
  replace hP : va_P (dC, dI) vwCl [(h0, .inr (5, [.ref c0, .ref b0, .ref h1, .ref m1, .int (nI w), .int (nI z), .int (nI ch), .int bw, .int ot])), (c0, .inl (kc, 480, .inl (nR gc))), (b0, .inl (kb, 480, .inl (nR gb))), (h1, .inl (kh, 60, .inl (nR gh))), (m1, .inl (km, 60, .inl (nR gx)))] s.heap := hP
  have hl := lv_entry ([.ref h0]) (n := 3) (Nat.le_of_ble_eq_true rfl)
  rw [lg_entry_eq]
  generalize (lg_sl ([.ref h0]) ++ List.replicate (3 - (lg_sl ([.ref h0])).length) Slot.unset).toArray = ls at hl ⊢
  replace hl : lv_has ls 3 [(0, .ref h0)] := hl
  have hi_X5 : ∀ w ∈ wsX50, w ∈ wsX5_alikeForEachEnd := by decide +kernel
  have k_f24 := hts (.fieldLink RX5 24 "TongueTeller$Way" "words" "I") (by decide +kernel)
  have k_f28 := hts (.fieldLink RX5 28 "TongueTeller$Way" "tongues" "I") (by decide +kernel)
  have k_f18 := hts (.fieldLink RX5 18 "TongueTeller$Way" "chosen" "[I") (by decide +kernel)
  have k_f21 := hts (.fieldLink RX5 21 "TongueTeller$Way" "compared" "[I") (by decide +kernel)
  refine lv_aload_n hx hb dX5_alikeForEachEnd_0 rfl (lv_at hl 0 rfl) ?_
  refine va_get (D := (dC, dI)) (ci := 5) (v := .int (nI w)) (C := RX5) (T := TX5) (N := 9) hx hb hts hi_X5 hown hK hP 0 rfl rfl 4 (by decide) k_f24 (fun _ h9 => h9) rfl dX5_alikeForEachEnd_1 ?_
  refine lv_istore_n (lv' := [(1, .int (nI w)), (0, .ref h0)]) hx hb dX5_alikeForEachEnd_4 rfl hl (by decide) rfl (fun ls hl => ?_)
  refine lv_iconst (v := 0) hx hb dX5_alikeForEachEnd_5 (by decide) ?_
  refine lv_istore_n (lv' := [(2, .int 0), (1, .int (nI w)), (0, .ref h0)]) hx hb dX5_alikeForEachEnd_6 rfl hl (by decide) rfl (fun ls hl => ?_)
  obtain ⟨locs, hlo⟩ : ∃ q : List Loc, q = [] := ⟨_, rfl⟩
  obtain ⟨H, hH⟩ : ∃ q : Heap, q = s.heap := ⟨_, rfl⟩
  rw [← hH, ← hlo]
  replace hS : va_S A s.heap H locs := by rw [hH, hlo]; exact hS
  replace hP : va_P (dC, dI) vwCl [(h0, .inr (5, [.ref c0, .ref b0, .ref h1, .ref m1, .int (nI w), .int (nI z), .int (nI ch), .int bw, .int ot])), (c0, .inl (kc, 480, .inl (nR gc))), (b0, .inl (kb, 480, .inl (nR gb))), (h1, .inl (kh, 60, .inl (nR gh))), (m1, .inl (km, 60, .inl (nR gx)))] H := by rw [hH]; exact hP
  clear hH hlo
  obtain ⟨al, e_al⟩ : ∃ y : Nat, y = w := ⟨_, rfl⟩
  obtain ⟨ee, e_ee⟩ : ∃ y : Nat, y = 0 := ⟨_, rfl⟩
  obtain ⟨bq, e_bq⟩ : ∃ y : Int32, y = bw := ⟨_, rfl⟩
  obtain ⟨oq, e_oq⟩ : ∃ y : Int32, y = ot := ⟨_, rfl⟩
  obtain ⟨gbq, e_gbq⟩ : ∃ y : Nat → Nat, y = gb := ⟨_, rfl⟩
  obtain ⟨ghq, e_ghq⟩ : ∃ y : Nat → Nat, y = gh := ⟨_, rfl⟩
  obtain ⟨gxq, e_gxq⟩ : ∃ y : Nat → Nat, y = gx := ⟨_, rfl⟩
  obtain ⟨P, e_P⟩ : ∃ y : Nat → Nat → Nat, y = (fun _ _ => 0) := ⟨_, rfl⟩
  replace hl : lv_has ls 3 [(0, .ref h0), (1, .int (nI al)), (2, .int (nI ee))] := by subst e_al; subst e_ee; subst e_bq; subst e_oq; subst e_gbq; subst e_ghq; subst e_gxq; subst e_P; exact lv_sub hl [2, 1, 0] rfl
  replace hP : va_P (dC, dI) vwCl [(h0, .inr (5, [.ref c0, .ref b0, .ref h1, .ref m1, .int (nI w), .int (nI z), .int (nI ch), .int bq, .int oq])), (c0, .inl (kc, 480, .inl (nR gc))), (b0, .inl (kb, 480, .inl (nR gbq))), (h1, .inl (kh, 60, .inl (nR ghq))), (m1, .inl (km, 60, .inl (nR gxq)))] H := by subst e_al; subst e_ee; subst e_bq; subst e_oq; subst e_gbq; subst e_ghq; subst e_gxq; subst e_P; exact hP
  replace hD : va_D A [(h0, .inr (5, [.ref c0, .ref b0, .ref h1, .ref m1, .int (nI w), .int (nI z), .int (nI ch), .int bq, .int oq])), (c0, .inl (kc, 480, .inl (nR gc))), (b0, .inl (kb, 480, .inl (nR gbq))), (h1, .inl (kh, 60, .inl (nR ghq))), (m1, .inl (km, 60, .inl (nR gxq)))] := by subst e_al; subst e_ee; subst e_bq; subst e_oq; subst e_gbq; subst e_ghq; subst e_gxq; subst e_P; exact hD
  have he1 : ee ≤ z := by subst e_al; subst e_ee; subst e_bq; subst e_oq; subst e_gbq; subst e_ghq; subst e_gxq; subst e_P; omega
  have hPO : ∀ e, e < ee → OPT (cbr gc (nI w - 1) (1 <<< (nI e &&& 31))) ch z w (P e) := by subst e_al; subst e_ee; subst e_bq; subst e_oq; subst e_gbq; subst e_ghq; subst e_gxq; subst e_P; exact fun e he => absurd he (Nat.not_lt_zero e)
  have hPM : 0 < ee → ∀ j, j < w → gxq j = P 0 j := by subst e_al; subst e_ee; subst e_bq; subst e_oq; subst e_gbq; subst e_ghq; subst e_gxq; subst e_P; exact fun h => absurd h (Nat.lt_irrefl _)
  have hFX : FXI P w ee al := by subst e_al; subst e_ee; subst e_bq; subst e_oq; subst e_gbq; subst e_ghq; subst e_gxq; subst e_P; exact FX_0
  clear e_al e_ee e_bq e_oq e_gbq e_ghq e_gxq e_P
  obtain ⟨nn7, hnn7⟩ : ∃ q : Nat, z - ee < q := ⟨_, Nat.lt_succ_self _⟩
  induction nn7 generalizing al ee bq oq gbq ghq gxq P H locs ls with
  | zero => exact absurd hnn7 (Nat.not_lt_zero _)
  | succ nn7 ih7 =>
    refine lv_iload_n hx hb dX5_alikeForEachEnd_7 rfl (lv_at hl 2 rfl) ?_
    refine lv_aload_n hx hb dX5_alikeForEachEnd_8 rfl (lv_at hl 0 rfl) ?_
    refine va_get (D := (dC, dI)) (ci := 5) (v := .int (nI z)) (C := RX5) (T := TX5) (N := 9) hx hb hts hi_X5 hown hK hP 0 rfl rfl 5 (by decide) k_f28 (fun _ h9 => h9) rfl dX5_alikeForEachEnd_9 ?_
    refine lv_icmp_ge (tgt := 66) hx hb dX5_alikeForEachEnd_12 (by decide) (fun c_12 => ?_) (fun c_12 => ?_)
    · have n_12 : z ≤ ee := (nI_leI (a := z) (b := ee) (by omega) (by omega)).mp c_12
      refine lv_iload_n hx hb dX5_alikeForEachEnd_66 rfl (lv_at hl 1 rfl) ?_
      have hP9 := hP.sub (ws' := [(h0, .inr (5, [.ref c0, .ref b0, .ref h1, .ref m1, .int (nI w), .int (nI z), .int (nI ch), .int bq, .int oq])), (c0, .inl (kc, 480, .inl (nR gc))), (b0, .inl (kb, 480, .inl (nR gbq))), (h1, .inl (kh, 60, .inl (nR ghq))), (m1, .inl (km, 60, .inl (nR gxq)))]) [0, 1, 2, 3, 4] rfl
      have hD9 := hD.sub (ws' := [(h0, .inr (5, [.ref c0, .ref b0, .ref h1, .ref m1, .int (nI w), .int (nI z), .int (nI ch), .int bq, .int oq])), (c0, .inl (kc, 480, .inl (nR gc))), (b0, .inl (kb, 480, .inl (nR gbq))), (h1, .inl (kh, 60, .inl (nR ghq))), (m1, .inl (km, 60, .inl (nR gxq)))]) [0, 1, 2, 3, 4] (by decide) rfl
      exact W.iret (v := nI al) hx hb hr (fun t ht hW => ⟨⟨nI al, (bq, oq, gbq, ghq, gxq), rfl, by exact ⟨P, al, fun e he => hPO e (by omega), (show ee = z by omega) ▸ hFX, rfl⟩, by rw [ht]; exact hP9, hD9⟩, hS.F ht⟩) hS.2.2 dX5_alikeForEachEnd_67
    · have n_12 : ee < z := Nat.not_le.mp (fun h9 => c_12 ((nI_leI (a := z) (b := ee) (by omega) (by omega)).mpr h9))
      refine lv_aload_n hx hb dX5_alikeForEachEnd_15 rfl (lv_at hl 0 rfl) ?_
      refine lv_aload_n hx hb dX5_alikeForEachEnd_16 rfl (lv_at hl 0 rfl) ?_
      refine va_get (D := (dC, dI)) (ci := 5) (v := .int (nI w)) (C := RX5) (T := TX5) (N := 9) hx hb hts hi_X5 hown hK hP 0 rfl rfl 4 (by decide) k_f24 (fun _ h9 => h9) rfl dX5_alikeForEachEnd_17 ?_
      refine lv_iconst (v := 1) hx hb dX5_alikeForEachEnd_20 (by decide) ?_
      refine lv_isub hx hb dX5_alikeForEachEnd_21 ?_
      refine lv_iconst (v := 1) hx hb dX5_alikeForEachEnd_22 (by decide) ?_
      refine lv_iload_n hx hb dX5_alikeForEachEnd_23 rfl (lv_at hl 2 rfl) ?_
      refine lv_ishl hx hb dX5_alikeForEachEnd_24 ?_
      have hPc := hP.sub (ws' := [(h0, .inr (5, [.ref c0, .ref b0, .ref h1, .ref m1, .int (nI w), .int (nI z), .int (nI ch), .int bq, .int oq]))]) [0] rfl
      have hDc := hD.sub (ws' := [(h0, .inr (5, [.ref c0, .ref b0, .ref h1, .ref m1, .int (nI w), .int (nI z), .int (nI ch), .int bq, .int oq]))]) [0] (by decide) rfl
      have hKc := hK.sub (tys' := []) [] rfl
      have hFc := va_free (wc := [(h0, .inr (5, [.ref c0, .ref b0, .ref h1, .ref m1, .int (nI w), .int (nI z), .int (nI ch), .int bq, .int oq]))]) hD hS hA [0] rfl
      refine va_callv (va_runV (As := [.int ((nI w) - 1), .int (1 <<< ((nI ee) &&& 31))]) (rest := []) ⟨hx, hb, hml, hown, hts⟩ (g_X5_leaveOpen l dC dI h0 c0 b0 h1 m1 w z ch bq oq ((nI w) - 1) (1 <<< ((nI ee) &&& 31)) H.size) (cwV 2 hts gX5_alikeForEachEnd_X5_leaveOpen rfl rfl rfl (by decide +kernel) ⟨Nat.le_of_ble_eq_true rfl, Nat.le_of_ble_eq_true rfl⟩) ⟨fun a U g mk q => by obtain ⟨q0, q1, qP, qK, qD⟩ := q; exact ⟨q0, q1, qP, va_K.moved (u := U) (U := U.calling g mk a) (Vm.Alike.refl U.vm) qK, qD⟩, va_recv hK hP (ci := 5) (q0 := 0) rfl rfl, fun U hU hW => ⟨rfl, by rw [hU], by rw [hU]; exact hPc, va_K.moved hW.alike hKc, hDc.weaken (fun _ _ _ _ => trivial)⟩⟩ rfl rfl hl.1 rfl (lv_room (Nat.le_of_ble_eq_true rfl)) dX5_alikeForEachEnd_25 ⟨Nat.le_of_ble_eq_true rfl, Nat.le_of_ble_eq_true rfl⟩) hS (fun q _ h => hFc q h) hFc (fun u t H1 locs ht hvm hw_25 hB hz1 hk1 hS => ?_)
      obtain ⟨hP1, hD1⟩ := hB
      rw [ht] at hP1
      obtain ⟨hP, hD⟩ := va_join (wr := [(c0, .inl (kc, 480, .inl (nR gc))), (b0, .inl (kb, 480, .inl (nR gbq))), (h1, .inl (kh, 60, .inl (nR ghq))), (m1, .inl (km, 60, .inl (nR gxq)))]) (w1 := [(h0, .inr (5, [.ref c0, .ref b0, .ref h1, .ref m1, .int (nI w), .int (nI z), .int (nI ch), .int ((nI w) - 1), .int (1 <<< ((nI ee) &&& 31))]))]) hP hD [0] [1, 2, 3, 4] rfl rfl (by decide) (by decide) hk1 hFc hP1 hD1
      generalize H1 = H at hP hS ⊢
      replace hP : va_P (dC, dI) vwCl [(c0, .inl (kc, 480, .inl (nR gc))), (b0, .inl (kb, 480, .inl (nR gbq))), (h1, .inl (kh, 60, .inl (nR ghq))), (m1, .inl (km, 60, .inl (nR gxq))), (h0, .inr (5, [.ref c0, .ref b0, .ref h1, .ref m1, .int (nI w), .int (nI z), .int (nI ch), .int ((nI w) - 1), .int (1 <<< ((nI ee) &&& 31))]))] H := hP
      replace hD : va_D A [(c0, .inl (kc, 480, .inl (nR gc))), (b0, .inl (kb, 480, .inl (nR gbq))), (h1, .inl (kh, 60, .inl (nR ghq))), (m1, .inl (km, 60, .inl (nR gxq))), (h0, .inr (5, [.ref c0, .ref b0, .ref h1, .ref m1, .int (nI w), .int (nI z), .int (nI ch), .int ((nI w) - 1), .int (1 <<< ((nI ee) &&& 31))]))] := hD
      refine lv_aload_n hx hb dX5_alikeForEachEnd_28 rfl (lv_at hl 0 rfl) ?_
      have hPc := hP.sub (ws' := [(h0, .inr (5, [.ref c0, .ref b0, .ref h1, .ref m1, .int (nI w), .int (nI z), .int (nI ch), .int ((nI w) - 1), .int (1 <<< ((nI ee) &&& 31))])), (c0, .inl (kc, 480, .inl (nR gc))), (b0, .inl (kb, 480, .inl (nR gbq))), (h1, .inl (kh, 60, .inl (nR ghq))), (m1, .inl (km, 60, .inl (nR gxq)))]) [4, 0, 1, 2, 3] rfl
      have hDc := hD.sub (ws' := [(h0, .inr (5, [.ref c0, .ref b0, .ref h1, .ref m1, .int (nI w), .int (nI z), .int (nI ch), .int ((nI w) - 1), .int (1 <<< ((nI ee) &&& 31))])), (c0, .inl (kc, 480, .inl (nR gc))), (b0, .inl (kb, 480, .inl (nR gbq))), (h1, .inl (kh, 60, .inl (nR ghq))), (m1, .inl (km, 60, .inl (nR gxq)))]) [4, 0, 1, 2, 3] (by decide) rfl
      have hKc := hK.sub (tys' := [(kc, .int), (kb, .int), (kh, .int), (km, .int)]) [0, 1, 2, 3] rfl
      have hFc := va_free (wc := [(h0, .inr (5, [.ref c0, .ref b0, .ref h1, .ref m1, .int (nI w), .int (nI z), .int (nI ch), .int ((nI w) - 1), .int (1 <<< ((nI ee) &&& 31))])), (c0, .inl (kc, 480, .inl (nR gc))), (b0, .inl (kb, 480, .inl (nR gbq))), (h1, .inl (kh, 60, .inl (nR ghq))), (m1, .inl (km, 60, .inl (nR gxq)))]) hD hS hA [4, 0, 1, 2, 3] rfl
      refine va_calli (va_runV (As := []) (rest := []) ⟨hx, hb, hml, hown, hts⟩ (g_X5_walk l dC dI h0 c0 b0 h1 m1 w z ch ((nI w) - 1) (1 <<< ((nI ee) &&& 31)) kc kb kh km gc gbq ghq gxq H.size (by first | assumption | omega) (by first | assumption | omega) (by first | assumption | omega) (by first | assumption | omega)) (cwV 0 hts gX5_alikeForEachEnd_X5_walk rfl rfl rfl (by decide +kernel) ⟨Nat.le_of_ble_eq_true rfl, Nat.le_of_ble_eq_true rfl⟩) ⟨fun a U g mk q => by obtain ⟨q0, q1, qP, qK, qD⟩ := q; exact ⟨q0, q1, qP, va_K.moved (u := U) (U := U.calling g mk a) (Vm.Alike.refl U.vm) qK, qD⟩, va_recv hK hP (ci := 5) (q0 := 4) rfl rfl, fun U hU hW => ⟨rfl, by rw [hU], by rw [hU]; exact hPc, va_K.moved hW.alike hKc, hDc.weaken (fun _ _ _ _ => trivial)⟩⟩ rfl rfl hl.1 rfl (lv_room (Nat.le_of_ble_eq_true rfl)) dX5_alikeForEachEnd_29 ⟨Nat.le_of_ble_eq_true rfl, Nat.le_of_ble_eq_true rfl⟩) hS (fun q _ h => hFc q h) hFc (fun r_29 u t H1 locs ht hvm hw_29 hB hz1 hk1 hS => ?_)
      obtain ⟨bo_29, ho_29⟩ := u
      try dsimp only at hw_29 hB
      obtain ⟨hP1, hD1⟩ := hB
      rw [ht] at hP1
      obtain ⟨hP, hD⟩ := va_join (wr := []) (w1 := [(h0, .inr (5, [.ref c0, .ref b0, .ref h1, .ref m1, .int (nI w), .int (nI z), .int (nI ch), .int ((nI w) - 1), .int (1 <<< ((nI ee) &&& 31))])), (c0, .inl (kc, 480, .inl (nR gc))), (b0, .inl (kb, 480, .inl (nR bo_29))), (h1, .inl (kh, 60, .inl (nR ho_29))), (m1, .inl (km, 60, .inl (nR gxq)))]) hP hD [4, 0, 1, 2, 3] [] rfl rfl (by decide) (by decide) hk1 hFc hP1 hD1
      generalize H1 = H at hP hS ⊢
      replace hP : va_P (dC, dI) vwCl [(h0, .inr (5, [.ref c0, .ref b0, .ref h1, .ref m1, .int (nI w), .int (nI z), .int (nI ch), .int ((nI w) - 1), .int (1 <<< ((nI ee) &&& 31))])), (c0, .inl (kc, 480, .inl (nR gc))), (b0, .inl (kb, 480, .inl (nR bo_29))), (h1, .inl (kh, 60, .inl (nR ho_29))), (m1, .inl (km, 60, .inl (nR gxq)))] H := hP
      replace hD : va_D A [(h0, .inr (5, [.ref c0, .ref b0, .ref h1, .ref m1, .int (nI w), .int (nI z), .int (nI ch), .int ((nI w) - 1), .int (1 <<< ((nI ee) &&& 31))])), (c0, .inl (kc, 480, .inl (nR gc))), (b0, .inl (kb, 480, .inl (nR bo_29))), (h1, .inl (kh, 60, .inl (nR ho_29))), (m1, .inl (km, 60, .inl (nR gxq)))] := hD
      have hwk_29 := hw_29
      refine lv_pop hx hb dX5_alikeForEachEnd_32 rfl ?_
      refine lv_iload_n hx hb dX5_alikeForEachEnd_33 rfl (lv_at hl 2 rfl) ?_
      refine lv_if_ne (tgt := 54) hx hb dX5_alikeForEachEnd_34 (by decide) (fun c_34 => ?_) (fun c_34 => ?_)
      · have n_34 : ee ≠ 0 := fun h9 => c_34 ((nI_eq (a := ee) (b := 0) (by omega) (by omega)).mpr h9)
        have hM9 : ∀ j, j < w → gxq j = va_up P ee ho_29 0 j := fun j hj => by rw [va_up_ne _ _ (by omega)]; exact hPM (by omega) j hj
        have hG9 : ∀ j, j < al → ho_29 j < 8 ∧ gxq j < 8 := fun j hj => by have h8 := hFX.1; have h7 := hwk_29.1.1; refine ⟨Nat.lt_of_lt_of_le (h7 j (by omega)) hz.2, ?_⟩; rw [hM9 j (by omega)]; by_cases e9 : ee = 0; (rw [e9, va_up_self]; exact Nat.lt_of_lt_of_le (h7 j (by omega)) hz.2); (rw [va_up_ne _ _ (by omega)]; exact Nat.lt_of_lt_of_le ((hPO 0 (by omega)).1 j (by omega)) hz.2)
        refine lv_aload_n hx hb dX5_alikeForEachEnd_54 rfl (lv_at hl 0 rfl) ?_
        refine lv_iload_n hx hb dX5_alikeForEachEnd_55 rfl (lv_at hl 1 rfl) ?_
        have hPc := hP.sub (ws' := [(h0, .inr (5, [.ref c0, .ref b0, .ref h1, .ref m1, .int (nI w), .int (nI z), .int (nI ch), .int ((nI w) - 1), .int (1 <<< ((nI ee) &&& 31))])), (c0, .inl (kc, 480, .inl (nR gc))), (b0, .inl (kb, 480, .inl (nR bo_29))), (h1, .inl (kh, 60, .inl (nR ho_29))), (m1, .inl (km, 60, .inl (nR gxq)))]) [0, 1, 2, 3, 4] rfl
        have hKc := hK.sub (tys' := [(kc, .int), (kb, .int), (kh, .int), (km, .int)]) [0, 1, 2, 3] rfl
        refine vp_callSi (W.runV (As := [.int (nI al)]) (rest := []) ⟨hx, hb, hml, hown, hts⟩ (g_X5_firstUnlike l dC dI h0 c0 b0 h1 m1 w z ch ((nI w) - 1) (1 <<< ((nI ee) &&& 31)) kc kb kh km gc bo_29 ho_29 gxq al (by have := hFX.1; omega) (hG9)) (cwV 1 hts gX5_alikeForEachEnd_X5_firstUnlike rfl rfl rfl (by decide +kernel) ⟨Nat.le_of_ble_eq_true rfl, Nat.le_of_ble_eq_true rfl⟩) ⟨fun a U g mk q => by obtain ⟨q0, qP, qK⟩ := q; exact ⟨q0, qP, va_K.moved (u := U) (U := U.calling g mk a) (Vm.Alike.refl U.vm) qK⟩, va_recv hK hP (ci := 5) (q0 := 0) rfl rfl, fun U hU hW => ⟨rfl, by rw [hU]; exact hPc, va_K.moved hW.alike hKc⟩⟩ rfl rfl hl.1 rfl (lv_room (Nat.le_of_ble_eq_true rfl)) dX5_alikeForEachEnd_56 ⟨Nat.le_of_ble_eq_true rfl, Nat.le_of_ble_eq_true rfl⟩) (fun r_56 hw_56 => ?_)
        clear hPc
        obtain ⟨uo_56, hr_56, huo_56⟩ := hw_56
        obtain rfl : nI uo_56 = r_56 := Eq.symm hr_56
        refine lv_istore_n (lv' := [(1, .int (nI uo_56)), (0, .ref h0), (2, .int (nI ee))]) hx hb dX5_alikeForEachEnd_59 rfl hl (by decide) rfl (fun ls hl => ?_)
        refine lv_iinc (v := nI (ee + 1)) (lv' := [(2, .int (nI (ee + 1))), (1, .int (nI uo_56)), (0, .ref h0)]) hx hb dX5_alikeForEachEnd_60 hl (k := 2) rfl (nI_1 _) (by decide) rfl (fun ls hl => ?_)
        refine lv_goto (tgt := 7) hx hb dX5_alikeForEachEnd_63 (by decide) ?_
        replace hl : lv_has ls 3 [(0, .ref h0), (1, .int (nI uo_56)), (2, .int (nI (ee + 1)))] := lv_sub hl [2, 1, 0] rfl
        replace hP : va_P (dC, dI) vwCl [(h0, .inr (5, [.ref c0, .ref b0, .ref h1, .ref m1, .int (nI w), .int (nI z), .int (nI ch), .int ((nI w) - 1), .int (1 <<< ((nI ee) &&& 31))])), (c0, .inl (kc, 480, .inl (nR gc))), (b0, .inl (kb, 480, .inl (nR bo_29))), (h1, .inl (kh, 60, .inl (nR ho_29))), (m1, .inl (km, 60, .inl (nR gxq)))] H := hP
        replace hD : va_D A [(h0, .inr (5, [.ref c0, .ref b0, .ref h1, .ref m1, .int (nI w), .int (nI z), .int (nI ch), .int ((nI w) - 1), .int (1 <<< ((nI ee) &&& 31))])), (c0, .inl (kc, 480, .inl (nR gc))), (b0, .inl (kb, 480, .inl (nR bo_29))), (h1, .inl (kh, 60, .inl (nR ho_29))), (m1, .inl (km, 60, .inl (nR gxq)))] := hD
        have hPO9 : ∀ e, e < (ee + 1) → OPT (cbr gc (nI w - 1) (1 <<< (nI e &&& 31))) ch z w ((va_up P ee ho_29) e) := (fun e he => by by_cases e9 : e = ee; (rw [e9, va_up_self]; exact hwk_29.1); (rw [va_up_ne _ _ e9]; exact hPO e (by omega)))
        have hPM9 : 0 < (ee + 1) → ∀ j, j < w → gxq j = (va_up P ee ho_29) 0 j := (fun _ => hM9)
        have hFX9 : FXI (va_up P ee ho_29) w (ee + 1) uo_56 := (FX_s hFX huo_56.1 (fun j hj => (huo_56.2.1 j hj).trans (hM9 j (by have := hFX.1; omega))) (huo_56.2.2.elim Or.inl (fun h9 => (Nat.lt_or_ge uo_56 w).elim (fun hl9 => Or.inr (fun h8 => h9 (h8.trans (hM9 uo_56 hl9).symm))) (fun hl9 => Or.inl (by have := hFX.1; have := huo_56.1; omega)))))
        apply ih7 (al := uo_56) (ee := ee + 1) (bq := (nI w) - 1) (oq := 1 <<< ((nI ee) &&& 31)) (gbq := bo_29) (ghq := ho_29) (gxq := gxq) (P := (va_up P ee ho_29)) <;> first | assumption | omega
      · have n_34 : ee = 0 := (nI_eq (a := ee) (b := 0) (by omega) (by omega)).mp c_34
        refine lv_aload_n hx hb dX5_alikeForEachEnd_37 rfl (lv_at hl 0 rfl) ?_
        refine va_get (D := (dC, dI)) (ci := 5) (v := .ref h1) (C := RX5) (T := TX5) (N := 9) hx hb hts hi_X5 hown hK hP 0 rfl rfl 2 (by decide) k_f18 (fun _ h9 => h9) rfl dX5_alikeForEachEnd_38 ?_
        refine lv_iconst (v := 0) hx hb dX5_alikeForEachEnd_41 (by decide) ?_
        refine lv_aload_n hx hb dX5_alikeForEachEnd_42 rfl (lv_at hl 0 rfl) ?_
        refine va_get (D := (dC, dI)) (ci := 5) (v := .ref m1) (C := RX5) (T := TX5) (N := 9) hx hb hts hi_X5 hown hK hP 0 rfl rfl 3 (by decide) k_f21 (fun _ h9 => h9) rfl dX5_alikeForEachEnd_43 ?_
        refine lv_iconst (v := 0) hx hb dX5_alikeForEachEnd_46 (by decide) ?_
        refine lv_aload_n hx hb dX5_alikeForEachEnd_47 rfl (lv_at hl 0 rfl) ?_
        refine va_get (D := (dC, dI)) (ci := 5) (v := .int (nI w)) (C := RX5) (T := TX5) (N := 9) hx hb hts hi_X5 hown hK hP 0 rfl rfl 4 (by decide) k_f24 (fun _ h9 => h9) rfl dX5_alikeForEachEnd_48 ?_
        refine va_copyi hx hb (by rw [hml]; exact hl.1.symm) hown (hts (.methodLink RX5 55 arraycopyName) (by decide +kernel)) (hts (.native arraycopyName) (by decide +kernel)) (hts (.static arraycopyName) (by decide +kernel)) (hts (.initialized "java/lang/System") (by decide +kernel)) hK hP hD hS 3 4 2 3 (ty := .int) rfl rfl rfl rfl rfl (sp := nI 0) (dp := nI 0) (n := nI w) (nI_pos (by omega)) (nI_pos (by omega)) (nI_pos (by omega)) (by rw [nI_clamp (n := 0) (by omega), nI_clamp (n := w) (by omega)]; omega) (by rw [nI_clamp (n := 0) (by omega), nI_clamp (n := w) (by omega)]; omega) (fun i _ => rfl) (Nat.le_of_ble_eq_true rfl) (Nat.le_of_ble_eq_true rfl) dX5_alikeForEachEnd_51 (fun H locs hP hD hS => ?_)
        have er_51 : va_cpy (nR ho_29) (nR gxq) (nI 0).toNatClampNeg (nI 0).toNatClampNeg (nI w).toNatClampNeg = nR (va_cpy ho_29 gxq 0 0 w) := by rw [nI_clamp (n := 0) (by omega), nI_clamp (n := w) (by omega), cpy_nR]
        replace hP : va_P (dC, dI) vwCl [(h0, .inr (5, [.ref c0, .ref b0, .ref h1, .ref m1, .int (nI w), .int (nI z), .int (nI ch), .int ((nI w) - 1), .int (1 <<< ((nI ee) &&& 31))])), (c0, .inl (kc, 480, .inl (nR gc))), (b0, .inl (kb, 480, .inl (nR bo_29))), (h1, .inl (kh, 60, .inl (nR ho_29))), (m1, .inl (km, 60, .inl (nR (va_cpy ho_29 gxq 0 0 w))))] H := by rw [← er_51]; exact hP
        replace hD : va_D A [(h0, .inr (5, [.ref c0, .ref b0, .ref h1, .ref m1, .int (nI w), .int (nI z), .int (nI ch), .int ((nI w) - 1), .int (1 <<< ((nI ee) &&& 31))])), (c0, .inl (kc, 480, .inl (nR gc))), (b0, .inl (kb, 480, .inl (nR bo_29))), (h1, .inl (kh, 60, .inl (nR ho_29))), (m1, .inl (km, 60, .inl (nR (va_cpy ho_29 gxq 0 0 w))))] := by rw [← er_51]; exact hD
        have hM9 : ∀ j, j < w → (va_cpy ho_29 gxq 0 0 w) j = va_up P ee ho_29 0 j := fun j hj => by rw [n_34, va_up_self]; unfold va_cpy; rw [if_pos ⟨by omega, by omega⟩]; congr 1; omega
        have hG9 : ∀ j, j < al → ho_29 j < 8 ∧ (va_cpy ho_29 gxq 0 0 w) j < 8 := fun j hj => by have h8 := hFX.1; have h7 := hwk_29.1.1; refine ⟨Nat.lt_of_lt_of_le (h7 j (by omega)) hz.2, ?_⟩; rw [hM9 j (by omega)]; by_cases e9 : ee = 0; (rw [e9, va_up_self]; exact Nat.lt_of_lt_of_le (h7 j (by omega)) hz.2); (rw [va_up_ne _ _ (by omega)]; exact Nat.lt_of_lt_of_le ((hPO 0 (by omega)).1 j (by omega)) hz.2)
        refine lv_aload_n hx hb dX5_alikeForEachEnd_54 rfl (lv_at hl 0 rfl) ?_
        refine lv_iload_n hx hb dX5_alikeForEachEnd_55 rfl (lv_at hl 1 rfl) ?_
        have hPc := hP.sub (ws' := [(h0, .inr (5, [.ref c0, .ref b0, .ref h1, .ref m1, .int (nI w), .int (nI z), .int (nI ch), .int ((nI w) - 1), .int (1 <<< ((nI ee) &&& 31))])), (c0, .inl (kc, 480, .inl (nR gc))), (b0, .inl (kb, 480, .inl (nR bo_29))), (h1, .inl (kh, 60, .inl (nR ho_29))), (m1, .inl (km, 60, .inl (nR (va_cpy ho_29 gxq 0 0 w))))]) [0, 1, 2, 3, 4] rfl
        have hKc := hK.sub (tys' := [(kc, .int), (kb, .int), (kh, .int), (km, .int)]) [0, 1, 2, 3] rfl
        refine vp_callSi (W.runV (As := [.int (nI al)]) (rest := []) ⟨hx, hb, hml, hown, hts⟩ (g_X5_firstUnlike l dC dI h0 c0 b0 h1 m1 w z ch ((nI w) - 1) (1 <<< ((nI ee) &&& 31)) kc kb kh km gc bo_29 ho_29 (va_cpy ho_29 gxq 0 0 w) al (by have := hFX.1; omega) (hG9)) (cwV 1 hts gX5_alikeForEachEnd_X5_firstUnlike rfl rfl rfl (by decide +kernel) ⟨Nat.le_of_ble_eq_true rfl, Nat.le_of_ble_eq_true rfl⟩) ⟨fun a U g mk q => by obtain ⟨q0, qP, qK⟩ := q; exact ⟨q0, qP, va_K.moved (u := U) (U := U.calling g mk a) (Vm.Alike.refl U.vm) qK⟩, va_recv hK hP (ci := 5) (q0 := 0) rfl rfl, fun U hU hW => ⟨rfl, by rw [hU]; exact hPc, va_K.moved hW.alike hKc⟩⟩ rfl rfl hl.1 rfl (lv_room (Nat.le_of_ble_eq_true rfl)) dX5_alikeForEachEnd_56 ⟨Nat.le_of_ble_eq_true rfl, Nat.le_of_ble_eq_true rfl⟩) (fun r_56 hw_56 => ?_)
        clear hPc
        obtain ⟨uo_56, hr_56, huo_56⟩ := hw_56
        obtain rfl : nI uo_56 = r_56 := Eq.symm hr_56
        refine lv_istore_n (lv' := [(1, .int (nI uo_56)), (0, .ref h0), (2, .int (nI ee))]) hx hb dX5_alikeForEachEnd_59 rfl hl (by decide) rfl (fun ls hl => ?_)
        refine lv_iinc (v := nI (ee + 1)) (lv' := [(2, .int (nI (ee + 1))), (1, .int (nI uo_56)), (0, .ref h0)]) hx hb dX5_alikeForEachEnd_60 hl (k := 2) rfl (nI_1 _) (by decide) rfl (fun ls hl => ?_)
        refine lv_goto (tgt := 7) hx hb dX5_alikeForEachEnd_63 (by decide) ?_
        replace hl : lv_has ls 3 [(0, .ref h0), (1, .int (nI uo_56)), (2, .int (nI (ee + 1)))] := lv_sub hl [2, 1, 0] rfl
        replace hP : va_P (dC, dI) vwCl [(h0, .inr (5, [.ref c0, .ref b0, .ref h1, .ref m1, .int (nI w), .int (nI z), .int (nI ch), .int ((nI w) - 1), .int (1 <<< ((nI ee) &&& 31))])), (c0, .inl (kc, 480, .inl (nR gc))), (b0, .inl (kb, 480, .inl (nR bo_29))), (h1, .inl (kh, 60, .inl (nR ho_29))), (m1, .inl (km, 60, .inl (nR (va_cpy ho_29 gxq 0 0 w))))] H := hP
        replace hD : va_D A [(h0, .inr (5, [.ref c0, .ref b0, .ref h1, .ref m1, .int (nI w), .int (nI z), .int (nI ch), .int ((nI w) - 1), .int (1 <<< ((nI ee) &&& 31))])), (c0, .inl (kc, 480, .inl (nR gc))), (b0, .inl (kb, 480, .inl (nR bo_29))), (h1, .inl (kh, 60, .inl (nR ho_29))), (m1, .inl (km, 60, .inl (nR (va_cpy ho_29 gxq 0 0 w))))] := hD
        have hPO9 : ∀ e, e < (ee + 1) → OPT (cbr gc (nI w - 1) (1 <<< (nI e &&& 31))) ch z w ((va_up P ee ho_29) e) := (fun e he => by by_cases e9 : e = ee; (rw [e9, va_up_self]; exact hwk_29.1); (rw [va_up_ne _ _ e9]; exact hPO e (by omega)))
        have hPM9 : 0 < (ee + 1) → ∀ j, j < w → (va_cpy ho_29 gxq 0 0 w) j = (va_up P ee ho_29) 0 j := (fun _ => hM9)
        have hFX9 : FXI (va_up P ee ho_29) w (ee + 1) uo_56 := (FX_s hFX huo_56.1 (fun j hj => (huo_56.2.1 j hj).trans (hM9 j (by have := hFX.1; omega))) (huo_56.2.2.elim Or.inl (fun h9 => (Nat.lt_or_ge uo_56 w).elim (fun hl9 => Or.inr (fun h8 => h9 (h8.trans (hM9 uo_56 hl9).symm))) (fun hl9 => Or.inl (by have := hFX.1; have := huo_56.1; omega)))))
        apply ih7 (al := uo_56) (ee := ee + 1) (bq := (nI w) - 1) (oq := 1 <<< ((nI ee) &&& 31)) (gbq := bo_29) (ghq := ho_29) (gxq := va_cpy ho_29 gxq 0 0 w) (P := (va_up P ee ho_29)) <;> first | assumption | omega
