set_option maxHeartbeats 4000000 in
set_option maxRecDepth 100000 in
theorem g_X5_begin (l : Launch) (dC : Nat → ClassId) (dI : Nat → Nat → Nat) (h0 : Nat) (c0 : Nat) (b0 : Nat) (h1 : Nat) (m1 : Nat) (w : Nat) (z : Nat) (ch : Int32) (bw : Int32) (ot : Int32) (w2 : Nat) (z2 : Nat) (p2 : Int32) (sz : Nat) : Met l yX5_begin wsX5_begin ({ frames := 0, cells := 0, slots := 0, locals := 0 }) (va_Pc [.ref h0, .int (nI w2), .int (nI z2), .int p2] (fun U => U.heap.size = sz ∧ va_P (dC, dI) vwCl [(h0, .inr (5, [.ref c0, .ref b0, .ref h1, .ref m1, .int (nI w), .int (nI z), .int ch, .int bw, .int ot]))] U.heap ∧ va_K (dC, dI) vwCl [] U ∧ va_D (fun _ => True) [(h0, .inr (5, [.ref c0, .ref b0, .ref h1, .ref m1, .int (nI w), .int (nI z), .int ch, .int bw, .int ot]))])) (va_Qv (fun (_ : Unit) => True) (fun (_ : Unit) (t : State) => va_P (dC, dI) vwCl [(h0, .inr (5, [.ref c0, .ref b0, .ref h1, .ref m1, .int (nI w2), .int (nI z2), .int p2, .int (-1), .int ot]))] t.heap ∧ va_D (va_A [(h0, .inr (5, [.ref c0, .ref b0, .ref h1, .ref m1, .int (nI w), .int (nI z), .int ch, .int bw, .int ot]))] sz) [(h0, .inr (5, [.ref c0, .ref b0, .ref h1, .ref m1, .int (nI w2), .int (nI z2), .int p2, .int (-1), .int ot]))]) (va_A [(h0, .inr (5, [.ref c0, .ref b0, .ref h1, .ref m1, .int (nI w), .int (nI z), .int ch, .int bw, .int ot]))] sz)) 0 0 (va_A [(h0, .inr (5, [.ref c0, .ref b0, .ref h1, .ref m1, .int (nI w), .int (nI z), .int ch, .int bw, .int ot]))] sz) := by
  refine Met.ofW (cc := cX5_begin) (maxL := 4) (ret := none) (by decide) rfl ?_
  intro p e s m args below meth c s₁ B hml hv
  obtain ⟨rfl, hsz, hP, hK, hD0⟩ := hv
  have hx := B.exec
  have hb := B.bytes
  have hr := B.returns
  have hts := atoms_spec (ws := wsX5_begin) B.pre
  have hown : s.vm.findClass RX5 = some m.cls := findClass_of_methodNamed B.named
  have hlocks := B.notSynchronized
  subst hsz
  have hD := hD0.self (sz := s.heap.size)
  clear hD0
  generalize hAe : va_A [(h0, .inr (5, [.ref c0, .ref b0, .ref h1, .ref m1, .int (nI w), .int (nI z), .int ch, .int bw, .int ot]))] s.heap.size = A at hD ⊢
  have hA : ∀ q : Nat, s.heap.size ≤ q → A q := fun q h => by rw [← hAe]; exact Or.inr h
  clear hAe
  have hS : va_S A s.heap s.heap [] := va_S.rf
  replace hP : va_P (dC, dI) vwCl [(h0, .inr (5, [.ref c0, .ref b0, .ref h1, .ref m1, .int (nI w), .int (nI z), .int ch, .int bw, .int ot]))] s.heap := hP
  have hl := lv_entry ([.ref h0, .int (nI w2), .int (nI z2), .int p2]) (n := 4) (Nat.le_of_ble_eq_true rfl)
  rw [lg_entry_eq]
  generalize (lg_sl ([.ref h0, .int (nI w2), .int (nI z2), .int p2]) ++ List.replicate (4 - (lg_sl ([.ref h0, .int (nI w2), .int (nI z2), .int p2])).length) Slot.unset).toArray = ls at hl ⊢
  replace hl : lv_has ls 4 [(0, .ref h0), (1, .int (nI w2)), (2, .int (nI z2)), (3, .int p2)] := hl
  have hi_X5 : ∀ w ∈ wsX50, w ∈ wsX5_begin := by decide +kernel
  have k_f24 := hts (.fieldLink RX5 24 "TongueTeller$Way" "words" "I") (by decide +kernel)
  have k_f28 := hts (.fieldLink RX5 28 "TongueTeller$Way" "tongues" "I") (by decide +kernel)
  have k_f31 := hts (.fieldLink RX5 31 "TongueTeller$Way" "change" "I") (by decide +kernel)
  have k_f34 := hts (.fieldLink RX5 34 "TongueTeller$Way" "boundWord" "I") (by decide +kernel)
  refine lv_aload_n hx hb dX5_begin_0 rfl (lv_at hl 0 rfl) ?_
  refine lv_iload_n hx hb dX5_begin_1 rfl (lv_at hl 1 rfl) ?_
  refine va_put (D := (dC, dI)) (ci := 5) (v := .int (nI w2)) (ty := .int) (C := RX5) (T := TX5) (N := 9) hx hb hts hi_X5 tyX5 tyX5_ok nmX5 hown hK hP hD hS 0 rfl rfl 4 (by decide) k_f24 (fun _ h9 => h9) rfl (by decide +kernel) rfl rfl (Nat.le_of_ble_eq_true rfl) dX5_begin_2 (fun H locs hP hD hS => ?_)
  replace hP : va_P (dC, dI) vwCl [(h0, .inr (5, [.ref c0, .ref b0, .ref h1, .ref m1, .int (nI w2), .int (nI z), .int ch, .int bw, .int ot]))] H := hP
  replace hD : va_D A [(h0, .inr (5, [.ref c0, .ref b0, .ref h1, .ref m1, .int (nI w2), .int (nI z), .int ch, .int bw, .int ot]))] := hD
  refine lv_aload_n hx hb dX5_begin_5 rfl (lv_at hl 0 rfl) ?_
  refine lv_iload_n hx hb dX5_begin_6 rfl (lv_at hl 2 rfl) ?_
  refine va_put (D := (dC, dI)) (ci := 5) (v := .int (nI z2)) (ty := .int) (C := RX5) (T := TX5) (N := 9) hx hb hts hi_X5 tyX5 tyX5_ok nmX5 hown hK hP hD hS 0 rfl rfl 5 (by decide) k_f28 (fun _ h9 => h9) rfl (by decide +kernel) rfl rfl (Nat.le_of_ble_eq_true rfl) dX5_begin_7 (fun H locs hP hD hS => ?_)
  replace hP : va_P (dC, dI) vwCl [(h0, .inr (5, [.ref c0, .ref b0, .ref h1, .ref m1, .int (nI w2), .int (nI z2), .int ch, .int bw, .int ot]))] H := hP
  replace hD : va_D A [(h0, .inr (5, [.ref c0, .ref b0, .ref h1, .ref m1, .int (nI w2), .int (nI z2), .int ch, .int bw, .int ot]))] := hD
  refine lv_aload_n hx hb dX5_begin_10 rfl (lv_at hl 0 rfl) ?_
  refine lv_iload_n hx hb dX5_begin_11 rfl (lv_at hl 3 rfl) ?_
  refine va_put (D := (dC, dI)) (ci := 5) (v := .int p2) (ty := .int) (C := RX5) (T := TX5) (N := 9) hx hb hts hi_X5 tyX5 tyX5_ok nmX5 hown hK hP hD hS 0 rfl rfl 6 (by decide) k_f31 (fun _ h9 => h9) rfl (by decide +kernel) rfl rfl (Nat.le_of_ble_eq_true rfl) dX5_begin_12 (fun H locs hP hD hS => ?_)
  replace hP : va_P (dC, dI) vwCl [(h0, .inr (5, [.ref c0, .ref b0, .ref h1, .ref m1, .int (nI w2), .int (nI z2), .int p2, .int bw, .int ot]))] H := hP
  replace hD : va_D A [(h0, .inr (5, [.ref c0, .ref b0, .ref h1, .ref m1, .int (nI w2), .int (nI z2), .int p2, .int bw, .int ot]))] := hD
  refine lv_aload_n hx hb dX5_begin_15 rfl (lv_at hl 0 rfl) ?_
  refine lv_iconst (v := (-1)) hx hb dX5_begin_16 (by decide) ?_
  refine va_put (D := (dC, dI)) (ci := 5) (v := .int (-1)) (ty := .int) (C := RX5) (T := TX5) (N := 9) hx hb hts hi_X5 tyX5 tyX5_ok nmX5 hown hK hP hD hS 0 rfl rfl 7 (by decide) k_f34 (fun _ h9 => h9) rfl (by decide +kernel) rfl rfl (Nat.le_of_ble_eq_true rfl) dX5_begin_17 (fun H locs hP hD hS => ?_)
  replace hP : va_P (dC, dI) vwCl [(h0, .inr (5, [.ref c0, .ref b0, .ref h1, .ref m1, .int (nI w2), .int (nI z2), .int p2, .int (-1), .int ot]))] H := hP
  replace hD : va_D A [(h0, .inr (5, [.ref c0, .ref b0, .ref h1, .ref m1, .int (nI w2), .int (nI z2), .int p2, .int (-1), .int ot]))] := hD
  have hP9 := hP.sub (ws' := [(h0, .inr (5, [.ref c0, .ref b0, .ref h1, .ref m1, .int (nI w2), .int (nI z2), .int p2, .int (-1), .int ot]))]) [0] rfl
  have hD9 := hD.sub (ws' := [(h0, .inr (5, [.ref c0, .ref b0, .ref h1, .ref m1, .int (nI w2), .int (nI z2), .int p2, .int (-1), .int ot]))]) [0] (by decide) rfl
  exact W.vret hx hb hr (fun t ht hW => ⟨⟨(), rfl, trivial, by rw [ht]; exact hP9, hD9⟩, hS.F ht⟩) hS.2.2 dX5_begin_20

set_option maxHeartbeats 4000000 in
set_option maxRecDepth 100000 in
theorem g_X5_leaveOpen (l : Launch) (dC : Nat → ClassId) (dI : Nat → Nat → Nat) (h0 : Nat) (c0 : Nat) (b0 : Nat) (h1 : Nat) (m1 : Nat) (w : Nat) (z : Nat) (ch : Int32) (bw : Int32) (ot : Int32) (p0 : Int32) (p1 : Int32) (sz : Nat) : Met l yX5_leaveOpen wsX5_leaveOpen ({ frames := 0, cells := 0, slots := 0, locals := 0 }) (va_Pc [.ref h0, .int p0, .int p1] (fun U => U.heap.size = sz ∧ va_P (dC, dI) vwCl [(h0, .inr (5, [.ref c0, .ref b0, .ref h1, .ref m1, .int (nI w), .int (nI z), .int ch, .int bw, .int ot]))] U.heap ∧ va_K (dC, dI) vwCl [] U ∧ va_D (fun _ => True) [(h0, .inr (5, [.ref c0, .ref b0, .ref h1, .ref m1, .int (nI w), .int (nI z), .int ch, .int bw, .int ot]))])) (va_Qv (fun (_ : Unit) => True) (fun (_ : Unit) (t : State) => va_P (dC, dI) vwCl [(h0, .inr (5, [.ref c0, .ref b0, .ref h1, .ref m1, .int (nI w), .int (nI z), .int ch, .int p0, .int p1]))] t.heap ∧ va_D (va_A [(h0, .inr (5, [.ref c0, .ref b0, .ref h1, .ref m1, .int (nI w), .int (nI z), .int ch, .int bw, .int ot]))] sz) [(h0, .inr (5, [.ref c0, .ref b0, .ref h1, .ref m1, .int (nI w), .int (nI z), .int ch, .int p0, .int p1]))]) (va_A [(h0, .inr (5, [.ref c0, .ref b0, .ref h1, .ref m1, .int (nI w), .int (nI z), .int ch, .int bw, .int ot]))] sz)) 0 0 (va_A [(h0, .inr (5, [.ref c0, .ref b0, .ref h1, .ref m1, .int (nI w), .int (nI z), .int ch, .int bw, .int ot]))] sz) := by
  refine Met.ofW (cc := cX5_leaveOpen) (maxL := 3) (ret := none) (by decide) rfl ?_
  intro p e s m args below meth c s₁ B hml hv
  obtain ⟨rfl, hsz, hP, hK, hD0⟩ := hv
  have hx := B.exec
  have hb := B.bytes
  have hr := B.returns
  have hts := atoms_spec (ws := wsX5_leaveOpen) B.pre
  have hown : s.vm.findClass RX5 = some m.cls := findClass_of_methodNamed B.named
  have hlocks := B.notSynchronized
  subst hsz
  have hD := hD0.self (sz := s.heap.size)
  clear hD0
  generalize hAe : va_A [(h0, .inr (5, [.ref c0, .ref b0, .ref h1, .ref m1, .int (nI w), .int (nI z), .int ch, .int bw, .int ot]))] s.heap.size = A at hD ⊢
  have hA : ∀ q : Nat, s.heap.size ≤ q → A q := fun q h => by rw [← hAe]; exact Or.inr h
  clear hAe
  have hS : va_S A s.heap s.heap [] := va_S.rf
  replace hP : va_P (dC, dI) vwCl [(h0, .inr (5, [.ref c0, .ref b0, .ref h1, .ref m1, .int (nI w), .int (nI z), .int ch, .int bw, .int ot]))] s.heap := hP
  have hl := lv_entry ([.ref h0, .int p0, .int p1]) (n := 3) (Nat.le_of_ble_eq_true rfl)
  rw [lg_entry_eq]
  generalize (lg_sl ([.ref h0, .int p0, .int p1]) ++ List.replicate (3 - (lg_sl ([.ref h0, .int p0, .int p1])).length) Slot.unset).toArray = ls at hl ⊢
  replace hl : lv_has ls 3 [(0, .ref h0), (1, .int p0), (2, .int p1)] := hl
  have hi_X5 : ∀ w ∈ wsX50, w ∈ wsX5_leaveOpen := by decide +kernel
  have k_f34 := hts (.fieldLink RX5 34 "TongueTeller$Way" "boundWord" "I") (by decide +kernel)
  have k_f37 := hts (.fieldLink RX5 37 "TongueTeller$Way" "openTongues" "I") (by decide +kernel)
  refine lv_aload_n hx hb dX5_leaveOpen_0 rfl (lv_at hl 0 rfl) ?_
  refine lv_iload_n hx hb dX5_leaveOpen_1 rfl (lv_at hl 1 rfl) ?_
  refine va_put (D := (dC, dI)) (ci := 5) (v := .int p0) (ty := .int) (C := RX5) (T := TX5) (N := 9) hx hb hts hi_X5 tyX5 tyX5_ok nmX5 hown hK hP hD hS 0 rfl rfl 7 (by decide) k_f34 (fun _ h9 => h9) rfl (by decide +kernel) rfl rfl (Nat.le_of_ble_eq_true rfl) dX5_leaveOpen_2 (fun H locs hP hD hS => ?_)
  replace hP : va_P (dC, dI) vwCl [(h0, .inr (5, [.ref c0, .ref b0, .ref h1, .ref m1, .int (nI w), .int (nI z), .int ch, .int p0, .int ot]))] H := hP
  replace hD : va_D A [(h0, .inr (5, [.ref c0, .ref b0, .ref h1, .ref m1, .int (nI w), .int (nI z), .int ch, .int p0, .int ot]))] := hD
  refine lv_aload_n hx hb dX5_leaveOpen_5 rfl (lv_at hl 0 rfl) ?_
  refine lv_iload_n hx hb dX5_leaveOpen_6 rfl (lv_at hl 2 rfl) ?_
  refine va_put (D := (dC, dI)) (ci := 5) (v := .int p1) (ty := .int) (C := RX5) (T := TX5) (N := 9) hx hb hts hi_X5 tyX5 tyX5_ok nmX5 hown hK hP hD hS 0 rfl rfl 8 (by decide) k_f37 (fun _ h9 => h9) rfl (by decide +kernel) rfl rfl (Nat.le_of_ble_eq_true rfl) dX5_leaveOpen_7 (fun H locs hP hD hS => ?_)
  replace hP : va_P (dC, dI) vwCl [(h0, .inr (5, [.ref c0, .ref b0, .ref h1, .ref m1, .int (nI w), .int (nI z), .int ch, .int p0, .int p1]))] H := hP
  replace hD : va_D A [(h0, .inr (5, [.ref c0, .ref b0, .ref h1, .ref m1, .int (nI w), .int (nI z), .int ch, .int p0, .int p1]))] := hD
  have hP9 := hP.sub (ws' := [(h0, .inr (5, [.ref c0, .ref b0, .ref h1, .ref m1, .int (nI w), .int (nI z), .int ch, .int p0, .int p1]))]) [0] rfl
  have hD9 := hD.sub (ws' := [(h0, .inr (5, [.ref c0, .ref b0, .ref h1, .ref m1, .int (nI w), .int (nI z), .int ch, .int p0, .int p1]))]) [0] (by decide) rfl
  exact W.vret hx hb hr (fun t ht hW => ⟨⟨(), rfl, trivial, by rw [ht]; exact hP9, hD9⟩, hS.F ht⟩) hS.2.2 dX5_leaveOpen_10

set_option maxHeartbeats 4000000 in
set_option maxRecDepth 100000 in
theorem g_X5_isOpen (l : Launch) (dC : Nat → ClassId) (dI : Nat → Nat → Nat) (h0 : Nat) (c0 : Nat) (b0 : Nat) (h1 : Nat) (m1 : Nat) (w : Nat) (z : Nat) (ch : Int32) (bw : Int32) (ot : Int32) (p0 : Int32) (p1 : Int32) : Met l yX5_isOpen wsX5_isOpen ({ frames := 0, cells := 0, slots := 0, locals := 0 }) (va_Pc [.ref h0, .int p0, .int p1] (fun U => va_P (dC, dI) vwCl [(h0, .inr (5, [.ref c0, .ref b0, .ref h1, .ref m1, .int (nI w), .int (nI z), .int ch, .int bw, .int ot]))] U.heap ∧ va_K (dC, dI) vwCl [] U)) (vp_Si (fun r => ((r = 1 ∧ (isOp bw ot p0 p1)) ∨ (r = 0 ∧ ¬ (isOp bw ot p0 p1))))) 0 0 (fun _ => False) := by
  refine Met.ofW (cc := cX5_isOpen) (maxL := 3) (ret := (some .boolean)) (by decide) rfl ?_
  intro p e s m args below meth c s₁ B hml hv
  obtain ⟨rfl, hP, hK⟩ := hv
  have hx := B.exec
  have hb := B.bytes
  have hr := B.returns
  have hts := atoms_spec (ws := wsX5_isOpen) B.pre
  have hown : s.vm.findClass RX5 = some m.cls := findClass_of_methodNamed B.named
  have hlocks := B.notSynchronized
  replace hP : va_P (dC, dI) vwCl [(h0, .inr (5, [.ref c0, .ref b0, .ref h1, .ref m1, .int (nI w), .int (nI z), .int ch, .int bw, .int ot]))] s.heap := hP
  have hl := lv_entry ([.ref h0, .int p0, .int p1]) (n := 3) (Nat.le_of_ble_eq_true rfl)
  rw [lg_entry_eq]
  generalize (lg_sl ([.ref h0, .int p0, .int p1]) ++ List.replicate (3 - (lg_sl ([.ref h0, .int p0, .int p1])).length) Slot.unset).toArray = ls at hl ⊢
  replace hl : lv_has ls 3 [(0, .ref h0), (1, .int p0), (2, .int p1)] := hl
  have hi_X5 : ∀ w ∈ wsX50, w ∈ wsX5_isOpen := by decide +kernel
  have k_f34 := hts (.fieldLink RX5 34 "TongueTeller$Way" "boundWord" "I") (by decide +kernel)
  have k_f37 := hts (.fieldLink RX5 37 "TongueTeller$Way" "openTongues" "I") (by decide +kernel)
  refine lv_iload_n hx hb dX5_isOpen_0 rfl (lv_at hl 1 rfl) ?_
  refine lv_aload_n hx hb dX5_isOpen_1 rfl (lv_at hl 0 rfl) ?_
  refine va_get (D := (dC, dI)) (ci := 5) (v := .int bw) (C := RX5) (T := TX5) (N := 9) hx hb hts hi_X5 hown hK hP 0 rfl rfl 7 (by decide) k_f34 (fun _ h9 => h9) rfl dX5_isOpen_2 ?_
  refine lv_icmp_ne (tgt := 19) hx hb dX5_isOpen_5 (by decide) (fun c_5 => ?_) (fun c_5 => ?_)
  · refine lv_iconst (v := 1) hx hb dX5_isOpen_19 (by decide) ?_
    refine lv_goto (tgt := 24) hx hb dX5_isOpen_20 (by decide) ?_
    exact W.zret (v := 1) hx hb hr (rfl) (fun t ht hW => ⟨1, rfl, Or.inl ⟨rfl, by exact Or.inl c_5⟩, ht⟩) (fun _ h => absurd h List.not_mem_nil) dX5_isOpen_24
  · refine lv_aload_n hx hb dX5_isOpen_8 rfl (lv_at hl 0 rfl) ?_
    refine va_get (D := (dC, dI)) (ci := 5) (v := .int ot) (C := RX5) (T := TX5) (N := 9) hx hb hts hi_X5 hown hK hP 0 rfl rfl 8 (by decide) k_f37 (fun _ h9 => h9) rfl dX5_isOpen_9 ?_
    refine lv_iload_n hx hb dX5_isOpen_12 rfl (lv_at hl 2 rfl) ?_
    refine lv_ishr hx hb dX5_isOpen_13 ?_
    refine lv_iconst (v := 1) hx hb dX5_isOpen_14 (by decide) ?_
    refine lv_iand hx hb dX5_isOpen_15 ?_
    refine lv_if_eq (tgt := 23) hx hb dX5_isOpen_16 (by decide) (fun c_16 => ?_) (fun c_16 => ?_)
    · refine lv_iconst (v := 0) hx hb dX5_isOpen_23 (by decide) ?_
      exact W.zret (v := 0) hx hb hr (rfl) (fun t ht hW => ⟨0, rfl, Or.inr ⟨rfl, by exact fun h => h.elim (fun h => h c_5) (fun h => h c_16)⟩, ht⟩) (fun _ h => absurd h List.not_mem_nil) dX5_isOpen_24
    · refine lv_iconst (v := 1) hx hb dX5_isOpen_19 (by decide) ?_
      refine lv_goto (tgt := 24) hx hb dX5_isOpen_20 (by decide) ?_
      exact W.zret (v := 1) hx hb hr (rfl) (fun t ht hW => ⟨1, rfl, Or.inl ⟨rfl, by exact Or.inr c_16⟩, ht⟩) (fun _ h => absurd h List.not_mem_nil) dX5_isOpen_24

set_option maxHeartbeats 4000000 in
set_option maxRecDepth 100000 in
theorem g_X5_cheapestAt (l : Launch) (dC : Nat → ClassId) (dI : Nat → Nat → Nat) (h0 : Nat) (c0 : Nat) (b0 : Nat) (h1 : Nat) (m1 : Nat) (w : Nat) (z : Nat) (ch : Int32) (bw : Int32) (ot : Int32) (kc : ClassId) (kb : ClassId) (kh : ClassId) (km : ClassId) (fc : Nat → Int32) (fb : Nat → Int32) (fh : Nat → Int32) (fm : Nat → Int32) (i : Nat) (p1 : Int32) (hw : w ≤ 60) (hz : z ≤ 8) (hi : i < 60) : Met l yX5_cheapestAt wsX5_cheapestAt ({ frames := 0, cells := 0, slots := 0, locals := 0 }) (va_Pc [.ref h0, .int (nI i), .int p1] (fun U => va_P (dC, dI) vwCl [(h0, .inr (5, [.ref c0, .ref b0, .ref h1, .ref m1, .int (nI w), .int (nI z), .int ch, .int bw, .int ot])), (c0, .inl (kc, 480, .inl fc)), (b0, .inl (kb, 480, .inl fb)), (h1, .inl (kh, 60, .inl fh)), (m1, .inl (km, 60, .inl fm))] U.heap ∧ va_K (dC, dI) vwCl [(kc, .int), (kb, .int), (kh, .int), (km, .int)] U)) (vp_Si (fun r => ∃ (bo : Nat), r = nI bo ∧ (bo < 8))) 0 0 (fun _ => False) := by
  refine Met.ofW (cc := cX5_cheapestAt) (maxL := 8) (ret := (some .int)) (by decide) rfl ?_
  intro p e s m args below meth c s₁ B hml hv
  obtain ⟨rfl, hP, hK⟩ := hv
  have hx := B.exec
  have hb := B.bytes
  have hr := B.returns
  have hts := atoms_spec (ws := wsX5_cheapestAt) B.pre
  have hown : s.vm.findClass RX5 = some m.cls := findClass_of_methodNamed B.named
  have hlocks := B.notSynchronized
  replace hP : va_P (dC, dI) vwCl [(h0, .inr (5, [.ref c0, .ref b0, .ref h1, .ref m1, .int (nI w), .int (nI z), .int ch, .int bw, .int ot])), (c0, .inl (kc, 480, .inl fc)), (b0, .inl (kb, 480, .inl fb)), (h1, .inl (kh, 60, .inl fh)), (m1, .inl (km, 60, .inl fm))] s.heap := hP
  have hl := lv_entry ([.ref h0, .int (nI i), .int p1]) (n := 8) (Nat.le_of_ble_eq_true rfl)
  rw [lg_entry_eq]
  generalize (lg_sl ([.ref h0, .int (nI i), .int p1]) ++ List.replicate (8 - (lg_sl ([.ref h0, .int (nI i), .int p1])).length) Slot.unset).toArray = ls at hl ⊢
  replace hl : lv_has ls 8 [(0, .ref h0), (1, .int (nI i)), (2, .int p1)] := hl
  have hi_X5 : ∀ w ∈ wsX50, w ∈ wsX5_cheapestAt := by decide +kernel
  have k_f28 := hts (.fieldLink RX5 28 "TongueTeller$Way" "tongues" "I") (by decide +kernel)
  have k_f15 := hts (.fieldLink RX5 15 "TongueTeller$Way" "behind" "[I") (by decide +kernel)
  have k_f31 := hts (.fieldLink RX5 31 "TongueTeller$Way" "change" "I") (by decide +kernel)
  refine lv_iconst (v := 0) hx hb dX5_cheapestAt_0 (by decide) ?_
  refine lv_istore_n (lv' := [(3, .int 0), (0, .ref h0), (1, .int (nI i)), (2, .int p1)]) hx hb dX5_cheapestAt_1 rfl hl (by decide) rfl (fun ls hl => ?_)
  refine lv_ldc hx hb hown (hts (.constant RX5 67 (2147483647)) (by decide +kernel)) dX5_cheapestAt_2 ?_
  refine lv_istore (lv' := [(4, .int 2147483647), (3, .int 0), (0, .ref h0), (1, .int (nI i)), (2, .int p1)]) hx hb dX5_cheapestAt_4 hl (by decide) rfl (fun ls hl => ?_)
  refine lv_iconst (v := 0) hx hb dX5_cheapestAt_6 (by decide) ?_
  refine lv_istore (lv' := [(5, .int 0), (4, .int 2147483647), (3, .int 0), (0, .ref h0), (1, .int (nI i)), (2, .int p1)]) hx hb dX5_cheapestAt_7 hl (by decide) rfl (fun ls hl => ?_)
  obtain ⟨bs, e_bs⟩ : ∃ y : Nat, y = 0 := ⟨_, rfl⟩
  obtain ⟨x4, e_x4⟩ : ∃ y : Int32, y = 2147483647 := ⟨_, rfl⟩
  obtain ⟨k, e_k⟩ : ∃ y : Nat, y = 0 := ⟨_, rfl⟩
  replace hl : lv_has ls 8 [(0, .ref h0), (1, .int (nI i)), (2, .int p1), (3, .int (nI bs)), (4, .int x4), (5, .int (nI k))] := by subst e_bs; subst e_x4; subst e_k; exact lv_sub hl [3, 4, 5, 2, 1, 0] rfl
  have hk : k ≤ z := by subst e_bs; subst e_x4; subst e_k; omega
  have hbs : bs < 8 := by subst e_bs; subst e_x4; subst e_k; omega
  clear e_bs e_x4 e_k
  obtain ⟨nn9, hnn9⟩ : ∃ q : Nat, z - k < q := ⟨_, Nat.lt_succ_self _⟩
  induction nn9 generalizing bs x4 k ls with
  | zero => exact absurd hnn9 (Nat.not_lt_zero _)
  | succ nn9 ih9 =>
    refine lv_iload hx hb dX5_cheapestAt_9 (lv_at hl 5 rfl) ?_
    refine lv_aload_n hx hb dX5_cheapestAt_11 rfl (lv_at hl 0 rfl) ?_
    refine va_get (D := (dC, dI)) (ci := 5) (v := .int (nI z)) (C := RX5) (T := TX5) (N := 9) hx hb hts hi_X5 hown hK hP 0 rfl rfl 5 (by decide) k_f28 (fun _ h9 => h9) rfl dX5_cheapestAt_12 ?_
    refine lv_icmp_ge (tgt := 76) hx hb dX5_cheapestAt_15 (by decide) (fun c_15 => ?_) (fun c_15 => ?_)
    · have n_15 : z ≤ k := (nI_leI (a := z) (b := k) (by omega) (by omega)).mp c_15
      refine lv_iload_n hx hb dX5_cheapestAt_76 rfl (lv_at hl 3 rfl) ?_
      exact W.iret (v := nI bs) hx hb hr (fun t ht hW => ⟨nI bs, rfl, ⟨bs, rfl, by first | assumption | omega⟩, ht⟩) (fun _ h => absurd h List.not_mem_nil) dX5_cheapestAt_77
    · have n_15 : k < z := Nat.not_le.mp (fun h9 => c_15 ((nI_leI (a := z) (b := k) (by omega) (by omega)).mpr h9))
      refine lv_iload_n hx hb dX5_cheapestAt_18 rfl (lv_at hl 2 rfl) ?_
      refine lv_iconst (v := (-1)) hx hb dX5_cheapestAt_19 (by decide) ?_
      refine lv_icmp_eq (tgt := 29) hx hb dX5_cheapestAt_20 (by decide) (fun c_20 => ?_) (fun c_20 => ?_)
      · refine lv_iconst (v := 0) hx hb dX5_cheapestAt_29 (by decide) ?_
        refine lv_goto (tgt := 37) hx hb dX5_cheapestAt_30 (by decide) ?_
        refine lv_istore (lv' := [(6, .int 0), (0, .ref h0), (1, .int (nI i)), (2, .int p1), (3, .int (nI bs)), (4, .int x4), (5, .int (nI k))]) hx hb dX5_cheapestAt_37 hl (by decide) rfl (fun ls hl => ?_)
        refine lv_aload_n hx hb dX5_cheapestAt_39 rfl (lv_at hl 1 rfl) ?_
        refine va_get (D := (dC, dI)) (ci := 5) (v := .ref b0) (C := RX5) (T := TX5) (N := 9) hx hb hts hi_X5 hown hK hP 0 rfl rfl 1 (by decide) k_f15 (fun _ h9 => h9) rfl dX5_cheapestAt_40 ?_
        refine lv_iload_n hx hb dX5_cheapestAt_43 rfl (lv_at hl 2 rfl) ?_
        refine lv_bipush (v := 8) hx hb dX5_cheapestAt_44 (by decide) ?_
        refine lv_imul hx hb dX5_cheapestAt_46 ?_
        refine lv_topi (fun x_46 ex_46 => ?_)
        obtain rfl : nI (i * 8) = x_46 := Eq.symm (ex_46.trans (pk_mul i 8))
        refine lv_iload hx hb dX5_cheapestAt_47 (lv_at hl 6 rfl) ?_
        refine lv_iadd hx hb dX5_cheapestAt_49 ?_
        refine lv_topi (fun x_49 ex_49 => ?_)
        obtain rfl : nI (i * 8 + k) = x_49 := Eq.symm (ex_49.trans (nI_add (i * 8) k))
        refine va_iald hx hb hK hP 2 1 rfl rfl (i := nI (i * 8 + k)) (vp_in_nI (by omega) (by omega)) dX5_cheapestAt_50 ?_
        refine lv_topi (fun x_50 ex_50 => ?_)
        obtain rfl : fb (i * 8 + k) = x_50 := Eq.symm (ex_50.trans (fR_at (by omega)))
        refine lv_iload hx hb dX5_cheapestAt_51 (lv_at hl 0 rfl) ?_
        refine lv_iadd hx hb dX5_cheapestAt_53 ?_
        refine lv_istore (lv' := [(7, .int ((fb (i * 8 + k)) + 0)), (6, .int 0), (0, .ref h0), (1, .int (nI i)), (2, .int p1), (3, .int (nI bs)), (4, .int x4), (5, .int (nI k))]) hx hb dX5_cheapestAt_54 hl (by decide) rfl (fun ls hl => ?_)
        refine lv_iload hx hb dX5_cheapestAt_56 (lv_at hl 0 rfl) ?_
        refine lv_iload hx hb dX5_cheapestAt_58 (lv_at hl 6 rfl) ?_
        refine lv_icmp_ge (tgt := 70) hx hb dX5_cheapestAt_60 (by decide) (fun c_60 => ?_) (fun c_60 => ?_)
        · refine lv_iinc (v := nI (k + 1)) (lv' := [(5, .int (nI (k + 1))), (7, .int ((fb (i * 8 + k)) + 0)), (6, .int 0), (0, .ref h0), (1, .int (nI i)), (2, .int p1), (3, .int (nI bs)), (4, .int x4)]) hx hb dX5_cheapestAt_70 hl (k := 7) rfl (nI_1 _) (by decide) rfl (fun ls hl => ?_)
          refine lv_goto (tgt := 9) hx hb dX5_cheapestAt_73 (by decide) ?_
          replace hl : lv_has ls 8 [(0, .ref h0), (1, .int (nI i)), (2, .int p1), (3, .int (nI bs)), (4, .int x4), (5, .int (nI (k + 1)))] := lv_sub hl [3, 4, 5, 6, 7, 0] rfl
          apply ih9 (bs := bs) (x4 := x4) (k := k + 1) <;> first | assumption | omega
        · refine lv_iload hx hb dX5_cheapestAt_63 (lv_at hl 0 rfl) ?_
          refine lv_istore (lv' := [(4, .int ((fb (i * 8 + k)) + 0)), (7, .int ((fb (i * 8 + k)) + 0)), (6, .int 0), (0, .ref h0), (1, .int (nI i)), (2, .int p1), (3, .int (nI bs)), (5, .int (nI k))]) hx hb dX5_cheapestAt_65 hl (by decide) rfl (fun ls hl => ?_)
          refine lv_iload hx hb dX5_cheapestAt_67 (lv_at hl 7 rfl) ?_
          refine lv_istore_n (lv' := [(3, .int (nI k)), (4, .int ((fb (i * 8 + k)) + 0)), (7, .int ((fb (i * 8 + k)) + 0)), (6, .int 0), (0, .ref h0), (1, .int (nI i)), (2, .int p1), (5, .int (nI k))]) hx hb dX5_cheapestAt_69 rfl hl (by decide) rfl (fun ls hl => ?_)
          refine lv_iinc (v := nI (k + 1)) (lv' := [(5, .int (nI (k + 1))), (3, .int (nI k)), (4, .int ((fb (i * 8 + k)) + 0)), (7, .int ((fb (i * 8 + k)) + 0)), (6, .int 0), (0, .ref h0), (1, .int (nI i)), (2, .int p1)]) hx hb dX5_cheapestAt_70 hl (k := 7) rfl (nI_1 _) (by decide) rfl (fun ls hl => ?_)
          refine lv_goto (tgt := 9) hx hb dX5_cheapestAt_73 (by decide) ?_
          replace hl : lv_has ls 8 [(0, .ref h0), (1, .int (nI i)), (2, .int p1), (3, .int (nI k)), (4, .int ((fb (i * 8 + k)) + 0)), (5, .int (nI (k + 1)))] := lv_sub hl [5, 6, 7, 1, 2, 0] rfl
          apply ih9 (bs := k) (x4 := (fb (i * 8 + k)) + 0) (k := k + 1) <;> first | assumption | omega
      · refine lv_iload_n hx hb dX5_cheapestAt_23 rfl (lv_at hl 2 rfl) ?_
        refine lv_iload hx hb dX5_cheapestAt_24 (lv_at hl 5 rfl) ?_
        refine lv_icmp_ne (tgt := 33) hx hb dX5_cheapestAt_26 (by decide) (fun c_26 => ?_) (fun c_26 => ?_)
        · refine lv_aload_n hx hb dX5_cheapestAt_33 rfl (lv_at hl 0 rfl) ?_
          refine va_get (D := (dC, dI)) (ci := 5) (v := .int ch) (C := RX5) (T := TX5) (N := 9) hx hb hts hi_X5 hown hK hP 0 rfl rfl 6 (by decide) k_f31 (fun _ h9 => h9) rfl dX5_cheapestAt_34 ?_
          refine lv_istore (lv' := [(6, .int ch), (0, .ref h0), (1, .int (nI i)), (2, .int p1), (3, .int (nI bs)), (4, .int x4), (5, .int (nI k))]) hx hb dX5_cheapestAt_37 hl (by decide) rfl (fun ls hl => ?_)
          refine lv_aload_n hx hb dX5_cheapestAt_39 rfl (lv_at hl 1 rfl) ?_
          refine va_get (D := (dC, dI)) (ci := 5) (v := .ref b0) (C := RX5) (T := TX5) (N := 9) hx hb hts hi_X5 hown hK hP 0 rfl rfl 1 (by decide) k_f15 (fun _ h9 => h9) rfl dX5_cheapestAt_40 ?_
          refine lv_iload_n hx hb dX5_cheapestAt_43 rfl (lv_at hl 2 rfl) ?_
          refine lv_bipush (v := 8) hx hb dX5_cheapestAt_44 (by decide) ?_
          refine lv_imul hx hb dX5_cheapestAt_46 ?_
          refine lv_topi (fun x_46 ex_46 => ?_)
          obtain rfl : nI (i * 8) = x_46 := Eq.symm (ex_46.trans (pk_mul i 8))
          refine lv_iload hx hb dX5_cheapestAt_47 (lv_at hl 6 rfl) ?_
          refine lv_iadd hx hb dX5_cheapestAt_49 ?_
          refine lv_topi (fun x_49 ex_49 => ?_)
          obtain rfl : nI (i * 8 + k) = x_49 := Eq.symm (ex_49.trans (nI_add (i * 8) k))
          refine va_iald hx hb hK hP 2 1 rfl rfl (i := nI (i * 8 + k)) (vp_in_nI (by omega) (by omega)) dX5_cheapestAt_50 ?_
          refine lv_topi (fun x_50 ex_50 => ?_)
          obtain rfl : fb (i * 8 + k) = x_50 := Eq.symm (ex_50.trans (fR_at (by omega)))
          refine lv_iload hx hb dX5_cheapestAt_51 (lv_at hl 0 rfl) ?_
          refine lv_iadd hx hb dX5_cheapestAt_53 ?_
          refine lv_istore (lv' := [(7, .int ((fb (i * 8 + k)) + ch)), (6, .int ch), (0, .ref h0), (1, .int (nI i)), (2, .int p1), (3, .int (nI bs)), (4, .int x4), (5, .int (nI k))]) hx hb dX5_cheapestAt_54 hl (by decide) rfl (fun ls hl => ?_)
          refine lv_iload hx hb dX5_cheapestAt_56 (lv_at hl 0 rfl) ?_
          refine lv_iload hx hb dX5_cheapestAt_58 (lv_at hl 6 rfl) ?_
          refine lv_icmp_ge (tgt := 70) hx hb dX5_cheapestAt_60 (by decide) (fun c_60 => ?_) (fun c_60 => ?_)
          · refine lv_iinc (v := nI (k + 1)) (lv' := [(5, .int (nI (k + 1))), (7, .int ((fb (i * 8 + k)) + ch)), (6, .int ch), (0, .ref h0), (1, .int (nI i)), (2, .int p1), (3, .int (nI bs)), (4, .int x4)]) hx hb dX5_cheapestAt_70 hl (k := 7) rfl (nI_1 _) (by decide) rfl (fun ls hl => ?_)
            refine lv_goto (tgt := 9) hx hb dX5_cheapestAt_73 (by decide) ?_
            replace hl : lv_has ls 8 [(0, .ref h0), (1, .int (nI i)), (2, .int p1), (3, .int (nI bs)), (4, .int x4), (5, .int (nI (k + 1)))] := lv_sub hl [3, 4, 5, 6, 7, 0] rfl
            apply ih9 (bs := bs) (x4 := x4) (k := k + 1) <;> first | assumption | omega
          · refine lv_iload hx hb dX5_cheapestAt_63 (lv_at hl 0 rfl) ?_
            refine lv_istore (lv' := [(4, .int ((fb (i * 8 + k)) + ch)), (7, .int ((fb (i * 8 + k)) + ch)), (6, .int ch), (0, .ref h0), (1, .int (nI i)), (2, .int p1), (3, .int (nI bs)), (5, .int (nI k))]) hx hb dX5_cheapestAt_65 hl (by decide) rfl (fun ls hl => ?_)
            refine lv_iload hx hb dX5_cheapestAt_67 (lv_at hl 7 rfl) ?_
            refine lv_istore_n (lv' := [(3, .int (nI k)), (4, .int ((fb (i * 8 + k)) + ch)), (7, .int ((fb (i * 8 + k)) + ch)), (6, .int ch), (0, .ref h0), (1, .int (nI i)), (2, .int p1), (5, .int (nI k))]) hx hb dX5_cheapestAt_69 rfl hl (by decide) rfl (fun ls hl => ?_)
            refine lv_iinc (v := nI (k + 1)) (lv' := [(5, .int (nI (k + 1))), (3, .int (nI k)), (4, .int ((fb (i * 8 + k)) + ch)), (7, .int ((fb (i * 8 + k)) + ch)), (6, .int ch), (0, .ref h0), (1, .int (nI i)), (2, .int p1)]) hx hb dX5_cheapestAt_70 hl (k := 7) rfl (nI_1 _) (by decide) rfl (fun ls hl => ?_)
            refine lv_goto (tgt := 9) hx hb dX5_cheapestAt_73 (by decide) ?_
            replace hl : lv_has ls 8 [(0, .ref h0), (1, .int (nI i)), (2, .int p1), (3, .int (nI k)), (4, .int ((fb (i * 8 + k)) + ch)), (5, .int (nI (k + 1)))] := lv_sub hl [5, 6, 7, 1, 2, 0] rfl
            apply ih9 (bs := k) (x4 := (fb (i * 8 + k)) + ch) (k := k + 1) <;> first | assumption | omega
        · refine lv_iconst (v := 0) hx hb dX5_cheapestAt_29 (by decide) ?_
          refine lv_goto (tgt := 37) hx hb dX5_cheapestAt_30 (by decide) ?_
          refine lv_istore (lv' := [(6, .int 0), (0, .ref h0), (1, .int (nI i)), (2, .int p1), (3, .int (nI bs)), (4, .int x4), (5, .int (nI k))]) hx hb dX5_cheapestAt_37 hl (by decide) rfl (fun ls hl => ?_)
          refine lv_aload_n hx hb dX5_cheapestAt_39 rfl (lv_at hl 1 rfl) ?_
          refine va_get (D := (dC, dI)) (ci := 5) (v := .ref b0) (C := RX5) (T := TX5) (N := 9) hx hb hts hi_X5 hown hK hP 0 rfl rfl 1 (by decide) k_f15 (fun _ h9 => h9) rfl dX5_cheapestAt_40 ?_
          refine lv_iload_n hx hb dX5_cheapestAt_43 rfl (lv_at hl 2 rfl) ?_
          refine lv_bipush (v := 8) hx hb dX5_cheapestAt_44 (by decide) ?_
          refine lv_imul hx hb dX5_cheapestAt_46 ?_
          refine lv_topi (fun x_46 ex_46 => ?_)
          obtain rfl : nI (i * 8) = x_46 := Eq.symm (ex_46.trans (pk_mul i 8))
          refine lv_iload hx hb dX5_cheapestAt_47 (lv_at hl 6 rfl) ?_
          refine lv_iadd hx hb dX5_cheapestAt_49 ?_
          refine lv_topi (fun x_49 ex_49 => ?_)
          obtain rfl : nI (i * 8 + k) = x_49 := Eq.symm (ex_49.trans (nI_add (i * 8) k))
          refine va_iald hx hb hK hP 2 1 rfl rfl (i := nI (i * 8 + k)) (vp_in_nI (by omega) (by omega)) dX5_cheapestAt_50 ?_
          refine lv_topi (fun x_50 ex_50 => ?_)
          obtain rfl : fb (i * 8 + k) = x_50 := Eq.symm (ex_50.trans (fR_at (by omega)))
          refine lv_iload hx hb dX5_cheapestAt_51 (lv_at hl 0 rfl) ?_
          refine lv_iadd hx hb dX5_cheapestAt_53 ?_
          refine lv_istore (lv' := [(7, .int ((fb (i * 8 + k)) + 0)), (6, .int 0), (0, .ref h0), (1, .int (nI i)), (2, .int p1), (3, .int (nI bs)), (4, .int x4), (5, .int (nI k))]) hx hb dX5_cheapestAt_54 hl (by decide) rfl (fun ls hl => ?_)
          refine lv_iload hx hb dX5_cheapestAt_56 (lv_at hl 0 rfl) ?_
          refine lv_iload hx hb dX5_cheapestAt_58 (lv_at hl 6 rfl) ?_
          refine lv_icmp_ge (tgt := 70) hx hb dX5_cheapestAt_60 (by decide) (fun c_60 => ?_) (fun c_60 => ?_)
          · refine lv_iinc (v := nI (k + 1)) (lv' := [(5, .int (nI (k + 1))), (7, .int ((fb (i * 8 + k)) + 0)), (6, .int 0), (0, .ref h0), (1, .int (nI i)), (2, .int p1), (3, .int (nI bs)), (4, .int x4)]) hx hb dX5_cheapestAt_70 hl (k := 7) rfl (nI_1 _) (by decide) rfl (fun ls hl => ?_)
            refine lv_goto (tgt := 9) hx hb dX5_cheapestAt_73 (by decide) ?_
            replace hl : lv_has ls 8 [(0, .ref h0), (1, .int (nI i)), (2, .int p1), (3, .int (nI bs)), (4, .int x4), (5, .int (nI (k + 1)))] := lv_sub hl [3, 4, 5, 6, 7, 0] rfl
            apply ih9 (bs := bs) (x4 := x4) (k := k + 1) <;> first | assumption | omega
          · refine lv_iload hx hb dX5_cheapestAt_63 (lv_at hl 0 rfl) ?_
            refine lv_istore (lv' := [(4, .int ((fb (i * 8 + k)) + 0)), (7, .int ((fb (i * 8 + k)) + 0)), (6, .int 0), (0, .ref h0), (1, .int (nI i)), (2, .int p1), (3, .int (nI bs)), (5, .int (nI k))]) hx hb dX5_cheapestAt_65 hl (by decide) rfl (fun ls hl => ?_)
            refine lv_iload hx hb dX5_cheapestAt_67 (lv_at hl 7 rfl) ?_
            refine lv_istore_n (lv' := [(3, .int (nI k)), (4, .int ((fb (i * 8 + k)) + 0)), (7, .int ((fb (i * 8 + k)) + 0)), (6, .int 0), (0, .ref h0), (1, .int (nI i)), (2, .int p1), (5, .int (nI k))]) hx hb dX5_cheapestAt_69 rfl hl (by decide) rfl (fun ls hl => ?_)
            refine lv_iinc (v := nI (k + 1)) (lv' := [(5, .int (nI (k + 1))), (3, .int (nI k)), (4, .int ((fb (i * 8 + k)) + 0)), (7, .int ((fb (i * 8 + k)) + 0)), (6, .int 0), (0, .ref h0), (1, .int (nI i)), (2, .int p1)]) hx hb dX5_cheapestAt_70 hl (k := 7) rfl (nI_1 _) (by decide) rfl (fun ls hl => ?_)
            refine lv_goto (tgt := 9) hx hb dX5_cheapestAt_73 (by decide) ?_
            replace hl : lv_has ls 8 [(0, .ref h0), (1, .int (nI i)), (2, .int p1), (3, .int (nI k)), (4, .int ((fb (i * 8 + k)) + 0)), (5, .int (nI (k + 1)))] := lv_sub hl [5, 6, 7, 1, 2, 0] rfl
            apply ih9 (bs := k) (x4 := (fb (i * 8 + k)) + 0) (k := k + 1) <;> first | assumption | omega

set_option maxHeartbeats 4000000 in
set_option maxRecDepth 100000 in
theorem g_X5_costsFromBehind (l : Launch) (dC : Nat → ClassId) (dI : Nat → Nat → Nat) (h0 : Nat) (c0 : Nat) (b0 : Nat) (h1 : Nat) (m1 : Nat) (w : Nat) (z : Nat) (ch : Int32) (bw : Int32) (ot : Int32) (kc : ClassId) (kb : ClassId) (kh : ClassId) (km : ClassId) (fc : Nat → Int32) (fb : Nat → Int32) (fh : Nat → Int32) (fm : Nat → Int32) (sz : Nat) (hw : w ≤ 60) (hz : z ≤ 8) : Met l yX5_costsFromBehind wsX5_costsFromBehind ({ frames := 1, cells := 0, slots := 0, locals := 22 }) (va_Pc [.ref h0] (fun U => U.heap.size = sz ∧ va_P (dC, dI) vwCl [(h0, .inr (5, [.ref c0, .ref b0, .ref h1, .ref m1, .int (nI w), .int (nI z), .int ch, .int bw, .int ot])), (c0, .inl (kc, 480, .inl fc)), (b0, .inl (kb, 480, .inl fb)), (h1, .inl (kh, 60, .inl fh)), (m1, .inl (km, 60, .inl fm))] U.heap ∧ va_K (dC, dI) vwCl [(kc, .int), (kb, .int), (kh, .int), (km, .int)] U ∧ va_D (fun _ => True) [(h0, .inr (5, [.ref c0, .ref b0, .ref h1, .ref m1, .int (nI w), .int (nI z), .int ch, .int bw, .int ot])), (c0, .inl (kc, 480, .inl fc)), (b0, .inl (kb, 480, .inl fb)), (h1, .inl (kh, 60, .inl fh)), (m1, .inl (km, 60, .inl fm))])) (va_Qi (fun (r : Int32) (u : Nat → Int32) => match u with | bo => True) (fun (u : Nat → Int32) (t : State) => match u with | bo => va_P (dC, dI) vwCl [(h0, .inr (5, [.ref c0, .ref b0, .ref h1, .ref m1, .int (nI w), .int (nI z), .int ch, .int bw, .int ot])), (c0, .inl (kc, 480, .inl fc)), (b0, .inl (kb, 480, .inl bo)), (h1, .inl (kh, 60, .inl fh)), (m1, .inl (km, 60, .inl fm))] t.heap ∧ va_D (va_A [(h0, .inr (5, [.ref c0, .ref b0, .ref h1, .ref m1, .int (nI w), .int (nI z), .int ch, .int bw, .int ot])), (c0, .inl (kc, 480, .inl fc)), (b0, .inl (kb, 480, .inl fb)), (h1, .inl (kh, 60, .inl fh)), (m1, .inl (km, 60, .inl fm))] sz) [(h0, .inr (5, [.ref c0, .ref b0, .ref h1, .ref m1, .int (nI w), .int (nI z), .int ch, .int bw, .int ot])), (c0, .inl (kc, 480, .inl fc)), (b0, .inl (kb, 480, .inl bo)), (h1, .inl (kh, 60, .inl fh)), (m1, .inl (km, 60, .inl fm))]) (va_A [(h0, .inr (5, [.ref c0, .ref b0, .ref h1, .ref m1, .int (nI w), .int (nI z), .int ch, .int bw, .int ot])), (c0, .inl (kc, 480, .inl fc)), (b0, .inl (kb, 480, .inl fb)), (h1, .inl (kh, 60, .inl fh)), (m1, .inl (km, 60, .inl fm))] sz)) 0 0 (va_A [(h0, .inr (5, [.ref c0, .ref b0, .ref h1, .ref m1, .int (nI w), .int (nI z), .int ch, .int bw, .int ot])), (c0, .inl (kc, 480, .inl fc)), (b0, .inl (kb, 480, .inl fb)), (h1, .inl (kh, 60, .inl fh)), (m1, .inl (km, 60, .inl fm))] sz) := by
  refine Met.ofW (cc := cX5_costsFromBehind) (maxL := 7) (ret := (some .int)) (by decide) rfl ?_
  intro p e s m args below meth c s₁ B hml hv
  obtain ⟨rfl, hsz, hP, hK, hD0⟩ := hv
  have hx := B.exec
  have hb := B.bytes
  have hr := B.returns
  have hts := atoms_spec (ws := wsX5_costsFromBehind) B.pre
  have hown : s.vm.findClass RX5 = some m.cls := findClass_of_methodNamed B.named
  have hlocks := B.notSynchronized
  subst hsz
  have hD := hD0.self (sz := s.heap.size)
  clear hD0
  generalize hAe : va_A [(h0, .inr (5, [.ref c0, .ref b0, .ref h1, .ref m1, .int (nI w), .int (nI z), .int ch, .int bw, .int ot])), (c0, .inl (kc, 480, .inl fc)), (b0, .inl (kb, 480, .inl fb)), (h1, .inl (kh, 60, .inl fh)), (m1, .inl (km, 60, .inl fm))] s.heap.size = A at hD ⊢
  have hA : ∀ q : Nat, s.heap.size ≤ q → A q := fun q h => by rw [← hAe]; exact Or.inr h
  clear hAe
  have hS : va_S A s.heap s.heap [] := va_S.rf
  replace hP : va_P (dC, dI) vwCl [(h0, .inr (5, [.ref c0, .ref b0, .ref h1, .ref m1, .int (nI w), .int (nI z), .int ch, .int bw, .int ot])), (c0, .inl (kc, 480, .inl fc)), (b0, .inl (kb, 480, .inl fb)), (h1, .inl (kh, 60, .inl fh)), (m1, .inl (km, 60, .inl fm))] s.heap := hP
  have hl := lv_entry ([.ref h0]) (n := 7) (Nat.le_of_ble_eq_true rfl)
  rw [lg_entry_eq]
  generalize (lg_sl ([.ref h0]) ++ List.replicate (7 - (lg_sl ([.ref h0])).length) Slot.unset).toArray = ls at hl ⊢
  replace hl : lv_has ls 7 [(0, .ref h0)] := hl
  have hi_X5 : ∀ w ∈ wsX50, w ∈ wsX5_costsFromBehind := by decide +kernel
  have k_f24 := hts (.fieldLink RX5 24 "TongueTeller$Way" "words" "I") (by decide +kernel)
  have k_f28 := hts (.fieldLink RX5 28 "TongueTeller$Way" "tongues" "I") (by decide +kernel)
  have k_f15 := hts (.fieldLink RX5 15 "TongueTeller$Way" "behind" "[I") (by decide +kernel)
  have k_f31 := hts (.fieldLink RX5 31 "TongueTeller$Way" "change" "I") (by decide +kernel)
  have k_f9 := hts (.fieldLink RX5 9 "TongueTeller$Way" "costs" "[I") (by decide +kernel)
  refine lv_iconst (v := 0) hx hb dX5_costsFromBehind_0 (by decide) ?_
  refine lv_istore_n (lv' := [(1, .int 0), (0, .ref h0)]) hx hb dX5_costsFromBehind_1 rfl hl (by decide) rfl (fun ls hl => ?_)
  refine lv_aload_n hx hb dX5_costsFromBehind_2 rfl (lv_at hl 1 rfl) ?_
  refine va_get (D := (dC, dI)) (ci := 5) (v := .int (nI w)) (C := RX5) (T := TX5) (N := 9) hx hb hts hi_X5 hown hK hP 0 rfl rfl 4 (by decide) k_f24 (fun _ h9 => h9) rfl dX5_costsFromBehind_3 ?_
  refine lv_iconst (v := 1) hx hb dX5_costsFromBehind_6 (by decide) ?_
  refine lv_isub hx hb dX5_costsFromBehind_7 ?_
  refine lv_topi (fun x_7 ex_7 => ?_)
  obtain rfl : x_7 = nI w + (-1) := ex_7.trans (Int32.sub_eq_add_neg _ _)
  refine lv_istore_n (lv' := [(2, .int (nI w + (-1))), (1, .int 0), (0, .ref h0)]) hx hb dX5_costsFromBehind_8 rfl hl (by decide) rfl (fun ls hl => ?_)
  obtain ⟨locs, hlo⟩ : ∃ q : List Loc, q = [] := ⟨_, rfl⟩
  obtain ⟨H, hH⟩ : ∃ q : Heap, q = s.heap := ⟨_, rfl⟩
  rw [← hH, ← hlo]
  replace hS : va_S A s.heap H locs := by rw [hH, hlo]; exact hS
  replace hP : va_P (dC, dI) vwCl [(h0, .inr (5, [.ref c0, .ref b0, .ref h1, .ref m1, .int (nI w), .int (nI z), .int ch, .int bw, .int ot])), (c0, .inl (kc, 480, .inl fc)), (b0, .inl (kb, 480, .inl fb)), (h1, .inl (kh, 60, .inl fh)), (m1, .inl (km, 60, .inl fm))] H := by rw [hH]; exact hP
  clear hH hlo
  obtain ⟨k, e_k⟩ : ∃ y : Nat, y = w := ⟨_, rfl⟩
  obtain ⟨x1, e_x1⟩ : ∃ y : Int32, y = 0 := ⟨_, rfl⟩
  obtain ⟨fq, e_fq⟩ : ∃ y : Nat → Int32, y = fb := ⟨_, rfl⟩
  replace hl : lv_has ls 7 [(0, .ref h0), (1, .int x1), (2, .int (nI k + (-1)))] := by subst e_k; subst e_x1; subst e_fq; exact lv_sub hl [2, 1, 0] rfl
  replace hP : va_P (dC, dI) vwCl [(h0, .inr (5, [.ref c0, .ref b0, .ref h1, .ref m1, .int (nI w), .int (nI z), .int ch, .int bw, .int ot])), (c0, .inl (kc, 480, .inl fc)), (b0, .inl (kb, 480, .inl fq)), (h1, .inl (kh, 60, .inl fh)), (m1, .inl (km, 60, .inl fm))] H := by subst e_k; subst e_x1; subst e_fq; exact hP
  replace hD : va_D A [(h0, .inr (5, [.ref c0, .ref b0, .ref h1, .ref m1, .int (nI w), .int (nI z), .int ch, .int bw, .int ot])), (c0, .inl (kc, 480, .inl fc)), (b0, .inl (kb, 480, .inl fq)), (h1, .inl (kh, 60, .inl fh)), (m1, .inl (km, 60, .inl fm))] := by subst e_k; subst e_x1; subst e_fq; exact hD
  have hk1 : k ≤ w := by subst e_k; subst e_x1; subst e_fq; omega
  clear e_k e_x1 e_fq
  obtain ⟨nn9, hnn9⟩ : ∃ q : Nat, k < q := ⟨_, Nat.lt_succ_self _⟩
  induction nn9 generalizing k x1 fq H locs ls with
  | zero => exact absurd hnn9 (Nat.not_lt_zero _)
  | succ nn9 ih9 =>
    refine lv_iload_n hx hb dX5_costsFromBehind_9 rfl (lv_at hl 2 rfl) ?_
    rcases Nat.eq_zero_or_pos k with hk | hk
    · subst hk
      refine lv_topi (fun xk exk => ?_)
      obtain rfl : (-1) = xk := Eq.symm (exk.trans (by decide))
      refine lv_if_lt (tgt := 132) hx hb dX5_costsFromBehind_10 (by decide) (fun c_10 => ?_) (fun c_10 => ?_)
      rotate_left
      · exact absurd (by decide) c_10
      refine lv_iload_n hx hb dX5_costsFromBehind_132 rfl (lv_at hl 1 rfl) ?_
      have hP9 := hP.sub (ws' := [(h0, .inr (5, [.ref c0, .ref b0, .ref h1, .ref m1, .int (nI w), .int (nI z), .int ch, .int bw, .int ot])), (c0, .inl (kc, 480, .inl fc)), (b0, .inl (kb, 480, .inl fq)), (h1, .inl (kh, 60, .inl fh)), (m1, .inl (km, 60, .inl fm))]) [0, 1, 2, 3, 4] rfl
      have hD9 := hD.sub (ws' := [(h0, .inr (5, [.ref c0, .ref b0, .ref h1, .ref m1, .int (nI w), .int (nI z), .int ch, .int bw, .int ot])), (c0, .inl (kc, 480, .inl fc)), (b0, .inl (kb, 480, .inl fq)), (h1, .inl (kh, 60, .inl fh)), (m1, .inl (km, 60, .inl fm))]) [0, 1, 2, 3, 4] (by decide) rfl
      exact W.iret (v := x1) hx hb hr (fun t ht hW => ⟨⟨x1, fq, rfl, trivial, by rw [ht]; exact hP9, hD9⟩, hS.F ht⟩) hS.2.2 dX5_costsFromBehind_133
    · refine lv_topi (fun x_10 ex_10 => ?_)
      obtain rfl : nI (k - 1) = x_10 := Eq.symm (ex_10.trans (nI_m1 hk))
      replace hl : lv_has ls 7 [(0, .ref h0), (1, .int x1), (2, .int (nI (k - 1)))] := by rw [← nI_m1 hk]; exact hl
      refine lv_if_lt (tgt := 132) hx hb dX5_costsFromBehind_10 (by decide) (fun c_10 => ?_) (fun c_10 => ?_)
      · exact absurd c_10 (nI_pos (by omega))
      refine lv_iload_n hx hb dX5_costsFromBehind_13 rfl (lv_at hl 1 rfl) ?_
      refine lv_istore_n (lv' := [(3, .int x1), (0, .ref h0), (1, .int x1), (2, .int (nI (k - 1)))]) hx hb dX5_costsFromBehind_14 rfl hl (by decide) rfl (fun ls hl => ?_)
      refine lv_ldc hx hb hown (hts (.constant RX5 67 (2147483647)) (by decide +kernel)) dX5_costsFromBehind_15 ?_
      refine lv_istore_n (lv' := [(1, .int 2147483647), (3, .int x1), (0, .ref h0), (2, .int (nI (k - 1)))]) hx hb dX5_costsFromBehind_17 rfl hl (by decide) rfl (fun ls hl => ?_)
      refine lv_iconst (v := 0) hx hb dX5_costsFromBehind_18 (by decide) ?_
      refine lv_istore (lv' := [(4, .int 0), (1, .int 2147483647), (3, .int x1), (0, .ref h0), (2, .int (nI (k - 1)))]) hx hb dX5_costsFromBehind_19 hl (by decide) rfl (fun ls hl => ?_)
      obtain ⟨tq, e_tq⟩ : ∃ y : Nat, y = 0 := ⟨_, rfl⟩
      obtain ⟨x2, e_x2⟩ : ∃ y : Int32, y = 2147483647 := ⟨_, rfl⟩
      obtain ⟨fr, e_fr⟩ : ∃ y : Nat → Int32, y = fq := ⟨_, rfl⟩
      replace hl : lv_has ls 7 [(0, .ref h0), (1, .int x2), (2, .int (nI (k - 1))), (3, .int x1), (4, .int (nI tq))] := by subst e_tq; subst e_x2; subst e_fr; exact lv_sub hl [3, 1, 4, 2, 0] rfl
      replace hP : va_P (dC, dI) vwCl [(h0, .inr (5, [.ref c0, .ref b0, .ref h1, .ref m1, .int (nI w), .int (nI z), .int ch, .int bw, .int ot])), (c0, .inl (kc, 480, .inl fc)), (b0, .inl (kb, 480, .inl fr)), (h1, .inl (kh, 60, .inl fh)), (m1, .inl (km, 60, .inl fm))] H := by subst e_tq; subst e_x2; subst e_fr; exact hP
      replace hD : va_D A [(h0, .inr (5, [.ref c0, .ref b0, .ref h1, .ref m1, .int (nI w), .int (nI z), .int ch, .int bw, .int ot])), (c0, .inl (kc, 480, .inl fc)), (b0, .inl (kb, 480, .inl fr)), (h1, .inl (kh, 60, .inl fh)), (m1, .inl (km, 60, .inl fm))] := by subst e_tq; subst e_x2; subst e_fr; exact hD
      have ht1 : tq ≤ z := by subst e_tq; subst e_x2; subst e_fr; omega
      clear e_tq e_x2 e_fr
      obtain ⟨nn21, hnn21⟩ : ∃ q : Nat, z - tq < q := ⟨_, Nat.lt_succ_self _⟩
      induction nn21 generalizing tq x2 fr H locs ls with
      | zero => exact absurd hnn21 (Nat.not_lt_zero _)
      | succ nn21 ih21 =>
        refine lv_iload hx hb dX5_costsFromBehind_21 (lv_at hl 4 rfl) ?_
        refine lv_aload_n hx hb dX5_costsFromBehind_23 rfl (lv_at hl 0 rfl) ?_
        refine va_get (D := (dC, dI)) (ci := 5) (v := .int (nI z)) (C := RX5) (T := TX5) (N := 9) hx hb hts hi_X5 hown hK hP 0 rfl rfl 5 (by decide) k_f28 (fun _ h9 => h9) rfl dX5_costsFromBehind_24 ?_
        refine lv_icmp_ge (tgt := 126) hx hb dX5_costsFromBehind_27 (by decide) (fun c_27 => ?_) (fun c_27 => ?_)
        · have n_27 : z ≤ tq := (nI_leI (a := z) (b := tq) (by omega) (by omega)).mp c_27
          refine lv_iinc (v := (nI (k - 1)) + (-1)) (lv' := [(2, .int ((nI (k - 1)) + (-1))), (0, .ref h0), (1, .int x2), (3, .int x1), (4, .int (nI tq))]) hx hb dX5_costsFromBehind_126 hl (k := 2) rfl rfl (by decide) rfl (fun ls hl => ?_)
          refine lv_goto (tgt := 9) hx hb dX5_costsFromBehind_129 (by decide) ?_
          replace hl : lv_has ls 7 [(0, .ref h0), (1, .int x2), (2, .int (nI (k - 1) + (-1)))] := lv_sub hl [1, 2, 0] rfl
          replace hP : va_P (dC, dI) vwCl [(h0, .inr (5, [.ref c0, .ref b0, .ref h1, .ref m1, .int (nI w), .int (nI z), .int ch, .int bw, .int ot])), (c0, .inl (kc, 480, .inl fc)), (b0, .inl (kb, 480, .inl fr)), (h1, .inl (kh, 60, .inl fh)), (m1, .inl (km, 60, .inl fm))] H := hP
          replace hD : va_D A [(h0, .inr (5, [.ref c0, .ref b0, .ref h1, .ref m1, .int (nI w), .int (nI z), .int ch, .int bw, .int ot])), (c0, .inl (kc, 480, .inl fc)), (b0, .inl (kb, 480, .inl fr)), (h1, .inl (kh, 60, .inl fh)), (m1, .inl (km, 60, .inl fm))] := hD
          apply ih9 (k := k - 1) (x1 := x2) (fq := fr) <;> first | assumption | omega
        · have n_27 : tq < z := Nat.not_le.mp (fun h9 => c_27 ((nI_leI (a := z) (b := tq) (by omega) (by omega)).mpr h9))
          refine lv_iload_n hx hb dX5_costsFromBehind_30 rfl (lv_at hl 2 rfl) ?_
          refine lv_bipush (v := 8) hx hb dX5_costsFromBehind_31 (by decide) ?_
          refine lv_imul hx hb dX5_costsFromBehind_33 ?_
          refine lv_topi (fun x_33 ex_33 => ?_)
          obtain rfl : nI ((k - 1) * 8) = x_33 := Eq.symm (ex_33.trans (pk_mul (k - 1) 8))
          refine lv_iload hx hb dX5_costsFromBehind_34 (lv_at hl 4 rfl) ?_
          refine lv_iadd hx hb dX5_costsFromBehind_36 ?_
          refine lv_topi (fun x_36 ex_36 => ?_)
          obtain rfl : nI ((k - 1) * 8 + tq) = x_36 := Eq.symm (ex_36.trans (nI_add ((k - 1) * 8) tq))
          refine lv_istore (lv' := [(5, .int (nI ((k - 1) * 8 + tq))), (0, .ref h0), (1, .int x2), (2, .int (nI (k - 1))), (3, .int x1), (4, .int (nI tq))]) hx hb dX5_costsFromBehind_37 hl (by decide) rfl (fun ls hl => ?_)
          refine lv_iload_n hx hb dX5_costsFromBehind_39 rfl (lv_at hl 3 rfl) ?_
          refine lv_aload_n hx hb dX5_costsFromBehind_40 rfl (lv_at hl 1 rfl) ?_
          refine va_get (D := (dC, dI)) (ci := 5) (v := .int (nI w)) (C := RX5) (T := TX5) (N := 9) hx hb hts hi_X5 hown hK hP 0 rfl rfl 4 (by decide) k_f24 (fun _ h9 => h9) rfl dX5_costsFromBehind_41 ?_
          refine lv_iconst (v := 1) hx hb dX5_costsFromBehind_44 (by decide) ?_
          refine lv_isub hx hb dX5_costsFromBehind_45 ?_
          refine lv_topi (fun x_45 ex_45 => ?_)
          obtain rfl : nI (w - 1) = x_45 := Eq.symm (ex_45.trans (pk_sub (a := w) (b := 1) (by omega)))
          refine lv_icmp_ne (tgt := 53) hx hb dX5_costsFromBehind_46 (by decide) (fun c_46 => ?_) (fun c_46 => ?_)
          · have n_46 : (k - 1) ≠ (w - 1) := fun h9 => c_46 ((nI_eq (a := (k - 1)) (b := (w - 1)) (by omega) (by omega)).mpr h9)
            refine lv_aload_n hx hb dX5_costsFromBehind_53 rfl (lv_at hl 1 rfl) ?_
            refine va_get (D := (dC, dI)) (ci := 5) (v := .ref b0) (C := RX5) (T := TX5) (N := 9) hx hb hts hi_X5 hown hK hP 0 rfl rfl 1 (by decide) k_f15 (fun _ h9 => h9) rfl dX5_costsFromBehind_54 ?_
            refine lv_iload hx hb dX5_costsFromBehind_57 (lv_at hl 0 rfl) ?_
            refine lv_bipush (v := 8) hx hb dX5_costsFromBehind_59 (by decide) ?_
            refine lv_iadd hx hb dX5_costsFromBehind_61 ?_
            refine lv_topi (fun x_61 ex_61 => ?_)
            obtain rfl : nI ((k - 1) * 8 + tq + 8) = x_61 := Eq.symm (ex_61.trans (nI_add ((k - 1) * 8 + tq) 8))
            refine va_iald hx hb hK hP 2 1 rfl rfl (i := nI ((k - 1) * 8 + tq + 8)) (vp_in_nI (by omega) (by omega)) dX5_costsFromBehind_62 ?_
            refine lv_topi (fun x_62 ex_62 => ?_)
            obtain rfl : fr ((k - 1) * 8 + tq + 8) = x_62 := Eq.symm (ex_62.trans (fR_at (by omega)))
            refine lv_iload_n hx hb dX5_costsFromBehind_63 rfl (lv_at hl 4 rfl) ?_
            refine lv_aload_n hx hb dX5_costsFromBehind_64 rfl (lv_at hl 1 rfl) ?_
            refine va_get (D := (dC, dI)) (ci := 5) (v := .int ch) (C := RX5) (T := TX5) (N := 9) hx hb hts hi_X5 hown hK hP 0 rfl rfl 6 (by decide) k_f31 (fun _ h9 => h9) rfl dX5_costsFromBehind_65 ?_
            refine lv_iadd hx hb dX5_costsFromBehind_68 ?_
            refine va_mmin hx hb (by rw [hml]; exact hl.1.symm) hown (hts (.methodLink RX5 68 Lib.Math.min.name) (by decide +kernel)) (hts (.static Lib.Math.min.name) (by decide +kernel)) (hts (.initialized "java/lang/Math") (by decide +kernel)) (hts (.code Lib.Math.min.name Lib.Math.min.code 2 (some .int)) (by decide +kernel)) (Nat.le_of_ble_eq_true rfl) (Nat.le_of_ble_eq_true rfl) (Nat.le_of_ble_eq_true rfl) (Nat.le_of_ble_eq_true rfl) dX5_costsFromBehind_69 ?_
            refine lv_istore (lv' := [(6, .int (if x1 + ch < fr ((k - 1) * 8 + tq + 8) then x1 + ch else fr ((k - 1) * 8 + tq + 8))), (5, .int (nI ((k - 1) * 8 + tq))), (0, .ref h0), (1, .int x2), (2, .int (nI (k - 1))), (3, .int x1), (4, .int (nI tq))]) hx hb dX5_costsFromBehind_72 hl (by decide) rfl (fun ls hl => ?_)
            refine lv_aload_n hx hb dX5_costsFromBehind_74 rfl (lv_at hl 2 rfl) ?_
            refine va_get (D := (dC, dI)) (ci := 5) (v := .ref b0) (C := RX5) (T := TX5) (N := 9) hx hb hts hi_X5 hown hK hP 0 rfl rfl 1 (by decide) k_f15 (fun _ h9 => h9) rfl dX5_costsFromBehind_75 ?_
            refine lv_iload hx hb dX5_costsFromBehind_78 (lv_at hl 1 rfl) ?_
            refine lv_aload_n hx hb dX5_costsFromBehind_80 rfl (lv_at hl 2 rfl) ?_
            refine va_get (D := (dC, dI)) (ci := 5) (v := .ref c0) (C := RX5) (T := TX5) (N := 9) hx hb hts hi_X5 hown hK hP 0 rfl rfl 0 (by decide) k_f9 (fun _ h9 => h9) rfl dX5_costsFromBehind_81 ?_
            refine lv_iload hx hb dX5_costsFromBehind_84 (lv_at hl 1 rfl) ?_
            refine va_iald hx hb hK hP 1 0 rfl rfl (i := nI ((k - 1) * 8 + tq)) (vp_in_nI (by omega) (by omega)) dX5_costsFromBehind_86 ?_
            refine lv_topi (fun x_86 ex_86 => ?_)
            obtain rfl : fc ((k - 1) * 8 + tq) = x_86 := Eq.symm (ex_86.trans (fR_at (by omega)))
            refine lv_iload hx hb dX5_costsFromBehind_87 (lv_at hl 0 rfl) ?_
            refine lv_iadd hx hb dX5_costsFromBehind_89 ?_
            refine lv_aload_n hx hb dX5_costsFromBehind_90 rfl (lv_at hl 2 rfl) ?_
            refine lv_iload_n hx hb dX5_costsFromBehind_91 rfl (lv_at hl 4 rfl) ?_
            refine lv_iload hx hb dX5_costsFromBehind_92 (lv_at hl 6 rfl) ?_
            have hPc := hP.sub (ws' := [(h0, .inr (5, [.ref c0, .ref b0, .ref h1, .ref m1, .int (nI w), .int (nI z), .int ch, .int bw, .int ot]))]) [0] rfl
            have hKc := hK.sub (tys' := []) [] rfl
            refine vp_callSi (W.runV (As := [.int (nI (k - 1)), .int (nI tq)]) (rest := [.int ((fc ((k - 1) * 8 + tq)) + (if x1 + ch < fr ((k - 1) * 8 + tq + 8) then x1 + ch else fr ((k - 1) * 8 + tq + 8))), .int (nI ((k - 1) * 8 + tq)), .ref b0]) ⟨hx, hb, hml, hown, hts⟩ (g_X5_isOpen l dC dI h0 c0 b0 h1 m1 w z ch bw ot (nI (k - 1)) (nI tq)) (cwV 2 hts gX5_costsFromBehind_X5_isOpen rfl rfl rfl (by decide +kernel) ⟨Nat.le_of_ble_eq_true rfl, Nat.le_of_ble_eq_true rfl⟩) ⟨fun a U g mk q => by obtain ⟨q0, qP, qK⟩ := q; exact ⟨q0, qP, va_K.moved (u := U) (U := U.calling g mk a) (Vm.Alike.refl U.vm) qK⟩, va_recv hK hP (ci := 5) (q0 := 0) rfl rfl, fun U hU hW => ⟨rfl, by rw [hU]; exact hPc, va_K.moved hW.alike hKc⟩⟩ rfl rfl hl.1 rfl (lv_room (Nat.le_of_ble_eq_true rfl)) dX5_costsFromBehind_94 ⟨Nat.le_of_ble_eq_true rfl, Nat.le_of_ble_eq_true rfl⟩) (fun r_94 hw_94 => ?_)
            clear hPc
            rcases hw_94 with ⟨hr_94, hb_94⟩ | ⟨hr_94, hb_94⟩
            · subst hr_94
              refine lv_if_eq (tgt := 104) hx hb dX5_costsFromBehind_97 (by decide) (fun c_97 => ?_) (fun c_97 => ?_)
              · exact absurd c_97 (by decide)
              refine lv_iconst (v := 0) hx hb dX5_costsFromBehind_100 (by decide) ?_
              refine lv_goto (tgt := 106) hx hb dX5_costsFromBehind_101 (by decide) ?_
              refine lv_iadd hx hb dX5_costsFromBehind_106 ?_
              refine va_iast hx hb hK hP hD hS 2 1 rfl rfl (i := nI ((k - 1) * 8 + tq)) (x := ((fc ((k - 1) * 8 + tq)) + (if x1 + ch < fr ((k - 1) * 8 + tq + 8) then x1 + ch else fr ((k - 1) * 8 + tq + 8))) + 0) (vp_in_nI (by omega) (by omega)) dX5_costsFromBehind_107 (fun H locs hP hD hS => ?_)
              have er_107 : upd fr (nI ((k - 1) * 8 + tq) : Int32).toNatClampNeg (((fc ((k - 1) * 8 + tq)) + (if x1 + ch < fr ((k - 1) * 8 + tq + 8) then x1 + ch else fr ((k - 1) * 8 + tq + 8))) + 0) = upd fr ((k - 1) * 8 + tq) (((fc ((k - 1) * 8 + tq)) + (if x1 + ch < fr ((k - 1) * 8 + tq + 8) then x1 + ch else fr ((k - 1) * 8 + tq + 8))) + 0) := upd_at (by omega)
              replace hP : va_P (dC, dI) vwCl [(h0, .inr (5, [.ref c0, .ref b0, .ref h1, .ref m1, .int (nI w), .int (nI z), .int ch, .int bw, .int ot])), (c0, .inl (kc, 480, .inl fc)), (b0, .inl (kb, 480, .inl (upd fr ((k - 1) * 8 + tq) (((fc ((k - 1) * 8 + tq)) + (if x1 + ch < fr ((k - 1) * 8 + tq + 8) then x1 + ch else fr ((k - 1) * 8 + tq + 8))) + 0)))), (h1, .inl (kh, 60, .inl fh)), (m1, .inl (km, 60, .inl fm))] H := by rw [← er_107]; exact hP
              replace hD : va_D A [(h0, .inr (5, [.ref c0, .ref b0, .ref h1, .ref m1, .int (nI w), .int (nI z), .int ch, .int bw, .int ot])), (c0, .inl (kc, 480, .inl fc)), (b0, .inl (kb, 480, .inl (upd fr ((k - 1) * 8 + tq) (((fc ((k - 1) * 8 + tq)) + (if x1 + ch < fr ((k - 1) * 8 + tq + 8) then x1 + ch else fr ((k - 1) * 8 + tq + 8))) + 0)))), (h1, .inl (kh, 60, .inl fh)), (m1, .inl (km, 60, .inl fm))] := by rw [← er_107]; exact hD
              refine lv_iload_n hx hb dX5_costsFromBehind_108 rfl (lv_at hl 3 rfl) ?_
              refine lv_aload_n hx hb dX5_costsFromBehind_109 rfl (lv_at hl 2 rfl) ?_
              refine va_get (D := (dC, dI)) (ci := 5) (v := .ref b0) (C := RX5) (T := TX5) (N := 9) hx hb hts hi_X5 hown hK hP 0 rfl rfl 1 (by decide) k_f15 (fun _ h9 => h9) rfl dX5_costsFromBehind_110 ?_
              refine lv_iload hx hb dX5_costsFromBehind_113 (lv_at hl 1 rfl) ?_
              refine va_iald hx hb hK hP 2 1 rfl rfl (i := nI ((k - 1) * 8 + tq)) (vp_in_nI (by omega) (by omega)) dX5_costsFromBehind_115 ?_
              refine lv_topi (fun x_115 ex_115 => ?_)
              obtain rfl : (upd fr ((k - 1) * 8 + tq) (((fc ((k - 1) * 8 + tq)) + (if x1 + ch < fr ((k - 1) * 8 + tq + 8) then x1 + ch else fr ((k - 1) * 8 + tq + 8))) + 0)) ((k - 1) * 8 + tq) = x_115 := Eq.symm (ex_115.trans (fR_at (by omega)))
              refine va_mmin hx hb (by rw [hml]; exact hl.1.symm) hown (hts (.methodLink RX5 68 Lib.Math.min.name) (by decide +kernel)) (hts (.static Lib.Math.min.name) (by decide +kernel)) (hts (.initialized "java/lang/Math") (by decide +kernel)) (hts (.code Lib.Math.min.name Lib.Math.min.code 2 (some .int)) (by decide +kernel)) (Nat.le_of_ble_eq_true rfl) (Nat.le_of_ble_eq_true rfl) (Nat.le_of_ble_eq_true rfl) (Nat.le_of_ble_eq_true rfl) dX5_costsFromBehind_116 ?_
              refine lv_istore_n (lv' := [(1, .int (if (upd fr ((k - 1) * 8 + tq) (((fc ((k - 1) * 8 + tq)) + (if x1 + ch < fr ((k - 1) * 8 + tq + 8) then x1 + ch else fr ((k - 1) * 8 + tq + 8))) + 0)) ((k - 1) * 8 + tq) < x2 then (upd fr ((k - 1) * 8 + tq) (((fc ((k - 1) * 8 + tq)) + (if x1 + ch < fr ((k - 1) * 8 + tq + 8) then x1 + ch else fr ((k - 1) * 8 + tq + 8))) + 0)) ((k - 1) * 8 + tq) else x2)), (6, .int (if x1 + ch < fr ((k - 1) * 8 + tq + 8) then x1 + ch else fr ((k - 1) * 8 + tq + 8))), (5, .int (nI ((k - 1) * 8 + tq))), (0, .ref h0), (2, .int (nI (k - 1))), (3, .int x1), (4, .int (nI tq))]) hx hb dX5_costsFromBehind_119 rfl hl (by decide) rfl (fun ls hl => ?_)
              refine lv_iinc (v := nI (tq + 1)) (lv' := [(4, .int (nI (tq + 1))), (1, .int (if (upd fr ((k - 1) * 8 + tq) (((fc ((k - 1) * 8 + tq)) + (if x1 + ch < fr ((k - 1) * 8 + tq + 8) then x1 + ch else fr ((k - 1) * 8 + tq + 8))) + 0)) ((k - 1) * 8 + tq) < x2 then (upd fr ((k - 1) * 8 + tq) (((fc ((k - 1) * 8 + tq)) + (if x1 + ch < fr ((k - 1) * 8 + tq + 8) then x1 + ch else fr ((k - 1) * 8 + tq + 8))) + 0)) ((k - 1) * 8 + tq) else x2)), (6, .int (if x1 + ch < fr ((k - 1) * 8 + tq + 8) then x1 + ch else fr ((k - 1) * 8 + tq + 8))), (5, .int (nI ((k - 1) * 8 + tq))), (0, .ref h0), (2, .int (nI (k - 1))), (3, .int x1)]) hx hb dX5_costsFromBehind_120 hl (k := 6) rfl (nI_1 _) (by decide) rfl (fun ls hl => ?_)
              refine lv_goto (tgt := 21) hx hb dX5_costsFromBehind_123 (by decide) ?_
              replace hl : lv_has ls 7 [(0, .ref h0), (1, .int (if (upd fr ((k - 1) * 8 + tq) (((fc ((k - 1) * 8 + tq)) + (if x1 + ch < fr ((k - 1) * 8 + tq + 8) then x1 + ch else fr ((k - 1) * 8 + tq + 8))) + 0)) ((k - 1) * 8 + tq) < x2 then (upd fr ((k - 1) * 8 + tq) (((fc ((k - 1) * 8 + tq)) + (if x1 + ch < fr ((k - 1) * 8 + tq + 8) then x1 + ch else fr ((k - 1) * 8 + tq + 8))) + 0)) ((k - 1) * 8 + tq) else x2)), (2, .int (nI (k - 1))), (3, .int x1), (4, .int (nI (tq + 1)))] := lv_sub hl [4, 1, 5, 6, 0] rfl
              replace hP : va_P (dC, dI) vwCl [(h0, .inr (5, [.ref c0, .ref b0, .ref h1, .ref m1, .int (nI w), .int (nI z), .int ch, .int bw, .int ot])), (c0, .inl (kc, 480, .inl fc)), (b0, .inl (kb, 480, .inl (upd fr ((k - 1) * 8 + tq) (((fc ((k - 1) * 8 + tq)) + (if x1 + ch < fr ((k - 1) * 8 + tq + 8) then x1 + ch else fr ((k - 1) * 8 + tq + 8))) + 0)))), (h1, .inl (kh, 60, .inl fh)), (m1, .inl (km, 60, .inl fm))] H := hP
              replace hD : va_D A [(h0, .inr (5, [.ref c0, .ref b0, .ref h1, .ref m1, .int (nI w), .int (nI z), .int ch, .int bw, .int ot])), (c0, .inl (kc, 480, .inl fc)), (b0, .inl (kb, 480, .inl (upd fr ((k - 1) * 8 + tq) (((fc ((k - 1) * 8 + tq)) + (if x1 + ch < fr ((k - 1) * 8 + tq + 8) then x1 + ch else fr ((k - 1) * 8 + tq + 8))) + 0)))), (h1, .inl (kh, 60, .inl fh)), (m1, .inl (km, 60, .inl fm))] := hD
              apply ih21 (tq := tq + 1) (x2 := if (upd fr ((k - 1) * 8 + tq) (((fc ((k - 1) * 8 + tq)) + (if x1 + ch < fr ((k - 1) * 8 + tq + 8) then x1 + ch else fr ((k - 1) * 8 + tq + 8))) + 0)) ((k - 1) * 8 + tq) < x2 then (upd fr ((k - 1) * 8 + tq) (((fc ((k - 1) * 8 + tq)) + (if x1 + ch < fr ((k - 1) * 8 + tq + 8) then x1 + ch else fr ((k - 1) * 8 + tq + 8))) + 0)) ((k - 1) * 8 + tq) else x2) (fr := upd fr ((k - 1) * 8 + tq) (((fc ((k - 1) * 8 + tq)) + (if x1 + ch < fr ((k - 1) * 8 + tq + 8) then x1 + ch else fr ((k - 1) * 8 + tq + 8))) + 0)) <;> first | assumption | omega
            · subst hr_94
              refine lv_if_eq (tgt := 104) hx hb dX5_costsFromBehind_97 (by decide) (fun c_97 => ?_) (fun c_97 => ?_)
              rotate_left
              · exact absurd (by decide) c_97
              refine lv_ldc hx hb hown (hts (.constant RX5 77 (268435456)) (by decide +kernel)) dX5_costsFromBehind_104 ?_
              refine lv_iadd hx hb dX5_costsFromBehind_106 ?_
              refine va_iast hx hb hK hP hD hS 2 1 rfl rfl (i := nI ((k - 1) * 8 + tq)) (x := ((fc ((k - 1) * 8 + tq)) + (if x1 + ch < fr ((k - 1) * 8 + tq + 8) then x1 + ch else fr ((k - 1) * 8 + tq + 8))) + 268435456) (vp_in_nI (by omega) (by omega)) dX5_costsFromBehind_107 (fun H locs hP hD hS => ?_)
              have er_107 : upd fr (nI ((k - 1) * 8 + tq) : Int32).toNatClampNeg (((fc ((k - 1) * 8 + tq)) + (if x1 + ch < fr ((k - 1) * 8 + tq + 8) then x1 + ch else fr ((k - 1) * 8 + tq + 8))) + 268435456) = upd fr ((k - 1) * 8 + tq) (((fc ((k - 1) * 8 + tq)) + (if x1 + ch < fr ((k - 1) * 8 + tq + 8) then x1 + ch else fr ((k - 1) * 8 + tq + 8))) + 268435456) := upd_at (by omega)
              replace hP : va_P (dC, dI) vwCl [(h0, .inr (5, [.ref c0, .ref b0, .ref h1, .ref m1, .int (nI w), .int (nI z), .int ch, .int bw, .int ot])), (c0, .inl (kc, 480, .inl fc)), (b0, .inl (kb, 480, .inl (upd fr ((k - 1) * 8 + tq) (((fc ((k - 1) * 8 + tq)) + (if x1 + ch < fr ((k - 1) * 8 + tq + 8) then x1 + ch else fr ((k - 1) * 8 + tq + 8))) + 268435456)))), (h1, .inl (kh, 60, .inl fh)), (m1, .inl (km, 60, .inl fm))] H := by rw [← er_107]; exact hP
              replace hD : va_D A [(h0, .inr (5, [.ref c0, .ref b0, .ref h1, .ref m1, .int (nI w), .int (nI z), .int ch, .int bw, .int ot])), (c0, .inl (kc, 480, .inl fc)), (b0, .inl (kb, 480, .inl (upd fr ((k - 1) * 8 + tq) (((fc ((k - 1) * 8 + tq)) + (if x1 + ch < fr ((k - 1) * 8 + tq + 8) then x1 + ch else fr ((k - 1) * 8 + tq + 8))) + 268435456)))), (h1, .inl (kh, 60, .inl fh)), (m1, .inl (km, 60, .inl fm))] := by rw [← er_107]; exact hD
              refine lv_iload_n hx hb dX5_costsFromBehind_108 rfl (lv_at hl 3 rfl) ?_
              refine lv_aload_n hx hb dX5_costsFromBehind_109 rfl (lv_at hl 2 rfl) ?_
              refine va_get (D := (dC, dI)) (ci := 5) (v := .ref b0) (C := RX5) (T := TX5) (N := 9) hx hb hts hi_X5 hown hK hP 0 rfl rfl 1 (by decide) k_f15 (fun _ h9 => h9) rfl dX5_costsFromBehind_110 ?_
              refine lv_iload hx hb dX5_costsFromBehind_113 (lv_at hl 1 rfl) ?_
              refine va_iald hx hb hK hP 2 1 rfl rfl (i := nI ((k - 1) * 8 + tq)) (vp_in_nI (by omega) (by omega)) dX5_costsFromBehind_115 ?_
              refine lv_topi (fun x_115 ex_115 => ?_)
              obtain rfl : (upd fr ((k - 1) * 8 + tq) (((fc ((k - 1) * 8 + tq)) + (if x1 + ch < fr ((k - 1) * 8 + tq + 8) then x1 + ch else fr ((k - 1) * 8 + tq + 8))) + 268435456)) ((k - 1) * 8 + tq) = x_115 := Eq.symm (ex_115.trans (fR_at (by omega)))
              refine va_mmin hx hb (by rw [hml]; exact hl.1.symm) hown (hts (.methodLink RX5 68 Lib.Math.min.name) (by decide +kernel)) (hts (.static Lib.Math.min.name) (by decide +kernel)) (hts (.initialized "java/lang/Math") (by decide +kernel)) (hts (.code Lib.Math.min.name Lib.Math.min.code 2 (some .int)) (by decide +kernel)) (Nat.le_of_ble_eq_true rfl) (Nat.le_of_ble_eq_true rfl) (Nat.le_of_ble_eq_true rfl) (Nat.le_of_ble_eq_true rfl) dX5_costsFromBehind_116 ?_
              refine lv_istore_n (lv' := [(1, .int (if (upd fr ((k - 1) * 8 + tq) (((fc ((k - 1) * 8 + tq)) + (if x1 + ch < fr ((k - 1) * 8 + tq + 8) then x1 + ch else fr ((k - 1) * 8 + tq + 8))) + 268435456)) ((k - 1) * 8 + tq) < x2 then (upd fr ((k - 1) * 8 + tq) (((fc ((k - 1) * 8 + tq)) + (if x1 + ch < fr ((k - 1) * 8 + tq + 8) then x1 + ch else fr ((k - 1) * 8 + tq + 8))) + 268435456)) ((k - 1) * 8 + tq) else x2)), (6, .int (if x1 + ch < fr ((k - 1) * 8 + tq + 8) then x1 + ch else fr ((k - 1) * 8 + tq + 8))), (5, .int (nI ((k - 1) * 8 + tq))), (0, .ref h0), (2, .int (nI (k - 1))), (3, .int x1), (4, .int (nI tq))]) hx hb dX5_costsFromBehind_119 rfl hl (by decide) rfl (fun ls hl => ?_)
              refine lv_iinc (v := nI (tq + 1)) (lv' := [(4, .int (nI (tq + 1))), (1, .int (if (upd fr ((k - 1) * 8 + tq) (((fc ((k - 1) * 8 + tq)) + (if x1 + ch < fr ((k - 1) * 8 + tq + 8) then x1 + ch else fr ((k - 1) * 8 + tq + 8))) + 268435456)) ((k - 1) * 8 + tq) < x2 then (upd fr ((k - 1) * 8 + tq) (((fc ((k - 1) * 8 + tq)) + (if x1 + ch < fr ((k - 1) * 8 + tq + 8) then x1 + ch else fr ((k - 1) * 8 + tq + 8))) + 268435456)) ((k - 1) * 8 + tq) else x2)), (6, .int (if x1 + ch < fr ((k - 1) * 8 + tq + 8) then x1 + ch else fr ((k - 1) * 8 + tq + 8))), (5, .int (nI ((k - 1) * 8 + tq))), (0, .ref h0), (2, .int (nI (k - 1))), (3, .int x1)]) hx hb dX5_costsFromBehind_120 hl (k := 6) rfl (nI_1 _) (by decide) rfl (fun ls hl => ?_)
              refine lv_goto (tgt := 21) hx hb dX5_costsFromBehind_123 (by decide) ?_
              replace hl : lv_has ls 7 [(0, .ref h0), (1, .int (if (upd fr ((k - 1) * 8 + tq) (((fc ((k - 1) * 8 + tq)) + (if x1 + ch < fr ((k - 1) * 8 + tq + 8) then x1 + ch else fr ((k - 1) * 8 + tq + 8))) + 268435456)) ((k - 1) * 8 + tq) < x2 then (upd fr ((k - 1) * 8 + tq) (((fc ((k - 1) * 8 + tq)) + (if x1 + ch < fr ((k - 1) * 8 + tq + 8) then x1 + ch else fr ((k - 1) * 8 + tq + 8))) + 268435456)) ((k - 1) * 8 + tq) else x2)), (2, .int (nI (k - 1))), (3, .int x1), (4, .int (nI (tq + 1)))] := lv_sub hl [4, 1, 5, 6, 0] rfl
              replace hP : va_P (dC, dI) vwCl [(h0, .inr (5, [.ref c0, .ref b0, .ref h1, .ref m1, .int (nI w), .int (nI z), .int ch, .int bw, .int ot])), (c0, .inl (kc, 480, .inl fc)), (b0, .inl (kb, 480, .inl (upd fr ((k - 1) * 8 + tq) (((fc ((k - 1) * 8 + tq)) + (if x1 + ch < fr ((k - 1) * 8 + tq + 8) then x1 + ch else fr ((k - 1) * 8 + tq + 8))) + 268435456)))), (h1, .inl (kh, 60, .inl fh)), (m1, .inl (km, 60, .inl fm))] H := hP
              replace hD : va_D A [(h0, .inr (5, [.ref c0, .ref b0, .ref h1, .ref m1, .int (nI w), .int (nI z), .int ch, .int bw, .int ot])), (c0, .inl (kc, 480, .inl fc)), (b0, .inl (kb, 480, .inl (upd fr ((k - 1) * 8 + tq) (((fc ((k - 1) * 8 + tq)) + (if x1 + ch < fr ((k - 1) * 8 + tq + 8) then x1 + ch else fr ((k - 1) * 8 + tq + 8))) + 268435456)))), (h1, .inl (kh, 60, .inl fh)), (m1, .inl (km, 60, .inl fm))] := hD
              apply ih21 (tq := tq + 1) (x2 := if (upd fr ((k - 1) * 8 + tq) (((fc ((k - 1) * 8 + tq)) + (if x1 + ch < fr ((k - 1) * 8 + tq + 8) then x1 + ch else fr ((k - 1) * 8 + tq + 8))) + 268435456)) ((k - 1) * 8 + tq) < x2 then (upd fr ((k - 1) * 8 + tq) (((fc ((k - 1) * 8 + tq)) + (if x1 + ch < fr ((k - 1) * 8 + tq + 8) then x1 + ch else fr ((k - 1) * 8 + tq + 8))) + 268435456)) ((k - 1) * 8 + tq) else x2) (fr := upd fr ((k - 1) * 8 + tq) (((fc ((k - 1) * 8 + tq)) + (if x1 + ch < fr ((k - 1) * 8 + tq + 8) then x1 + ch else fr ((k - 1) * 8 + tq + 8))) + 268435456)) <;> first | assumption | omega
          · have n_46 : (k - 1) = (w - 1) := (nI_eq (a := (k - 1)) (b := (w - 1)) (by omega) (by omega)).mp c_46
            refine lv_iconst (v := 0) hx hb dX5_costsFromBehind_49 (by decide) ?_
            refine lv_goto (tgt := 72) hx hb dX5_costsFromBehind_50 (by decide) ?_
            refine lv_istore (lv' := [(6, .int 0), (5, .int (nI ((k - 1) * 8 + tq))), (0, .ref h0), (1, .int x2), (2, .int (nI (k - 1))), (3, .int x1), (4, .int (nI tq))]) hx hb dX5_costsFromBehind_72 hl (by decide) rfl (fun ls hl => ?_)
            refine lv_aload_n hx hb dX5_costsFromBehind_74 rfl (lv_at hl 2 rfl) ?_
            refine va_get (D := (dC, dI)) (ci := 5) (v := .ref b0) (C := RX5) (T := TX5) (N := 9) hx hb hts hi_X5 hown hK hP 0 rfl rfl 1 (by decide) k_f15 (fun _ h9 => h9) rfl dX5_costsFromBehind_75 ?_
            refine lv_iload hx hb dX5_costsFromBehind_78 (lv_at hl 1 rfl) ?_
            refine lv_aload_n hx hb dX5_costsFromBehind_80 rfl (lv_at hl 2 rfl) ?_
            refine va_get (D := (dC, dI)) (ci := 5) (v := .ref c0) (C := RX5) (T := TX5) (N := 9) hx hb hts hi_X5 hown hK hP 0 rfl rfl 0 (by decide) k_f9 (fun _ h9 => h9) rfl dX5_costsFromBehind_81 ?_
            refine lv_iload hx hb dX5_costsFromBehind_84 (lv_at hl 1 rfl) ?_
            refine va_iald hx hb hK hP 1 0 rfl rfl (i := nI ((k - 1) * 8 + tq)) (vp_in_nI (by omega) (by omega)) dX5_costsFromBehind_86 ?_
            refine lv_topi (fun x_86 ex_86 => ?_)
            obtain rfl : fc ((k - 1) * 8 + tq) = x_86 := Eq.symm (ex_86.trans (fR_at (by omega)))
            refine lv_iload hx hb dX5_costsFromBehind_87 (lv_at hl 0 rfl) ?_
            refine lv_iadd hx hb dX5_costsFromBehind_89 ?_
            refine lv_aload_n hx hb dX5_costsFromBehind_90 rfl (lv_at hl 2 rfl) ?_
            refine lv_iload_n hx hb dX5_costsFromBehind_91 rfl (lv_at hl 4 rfl) ?_
            refine lv_iload hx hb dX5_costsFromBehind_92 (lv_at hl 6 rfl) ?_
            have hPc := hP.sub (ws' := [(h0, .inr (5, [.ref c0, .ref b0, .ref h1, .ref m1, .int (nI w), .int (nI z), .int ch, .int bw, .int ot]))]) [0] rfl
            have hKc := hK.sub (tys' := []) [] rfl
            refine vp_callSi (W.runV (As := [.int (nI (k - 1)), .int (nI tq)]) (rest := [.int ((fc ((k - 1) * 8 + tq)) + 0), .int (nI ((k - 1) * 8 + tq)), .ref b0]) ⟨hx, hb, hml, hown, hts⟩ (g_X5_isOpen l dC dI h0 c0 b0 h1 m1 w z ch bw ot (nI (k - 1)) (nI tq)) (cwV 2 hts gX5_costsFromBehind_X5_isOpen rfl rfl rfl (by decide +kernel) ⟨Nat.le_of_ble_eq_true rfl, Nat.le_of_ble_eq_true rfl⟩) ⟨fun a U g mk q => by obtain ⟨q0, qP, qK⟩ := q; exact ⟨q0, qP, va_K.moved (u := U) (U := U.calling g mk a) (Vm.Alike.refl U.vm) qK⟩, va_recv hK hP (ci := 5) (q0 := 0) rfl rfl, fun U hU hW => ⟨rfl, by rw [hU]; exact hPc, va_K.moved hW.alike hKc⟩⟩ rfl rfl hl.1 rfl (lv_room (Nat.le_of_ble_eq_true rfl)) dX5_costsFromBehind_94 ⟨Nat.le_of_ble_eq_true rfl, Nat.le_of_ble_eq_true rfl⟩) (fun r_94 hw_94 => ?_)
            clear hPc
            rcases hw_94 with ⟨hr_94, hb_94⟩ | ⟨hr_94, hb_94⟩
            · subst hr_94
              refine lv_if_eq (tgt := 104) hx hb dX5_costsFromBehind_97 (by decide) (fun c_97 => ?_) (fun c_97 => ?_)
              · exact absurd c_97 (by decide)
              refine lv_iconst (v := 0) hx hb dX5_costsFromBehind_100 (by decide) ?_
              refine lv_goto (tgt := 106) hx hb dX5_costsFromBehind_101 (by decide) ?_
              refine lv_iadd hx hb dX5_costsFromBehind_106 ?_
              refine va_iast hx hb hK hP hD hS 2 1 rfl rfl (i := nI ((k - 1) * 8 + tq)) (x := ((fc ((k - 1) * 8 + tq)) + 0) + 0) (vp_in_nI (by omega) (by omega)) dX5_costsFromBehind_107 (fun H locs hP hD hS => ?_)
              have er_107 : upd fr (nI ((k - 1) * 8 + tq) : Int32).toNatClampNeg (((fc ((k - 1) * 8 + tq)) + 0) + 0) = upd fr ((k - 1) * 8 + tq) (((fc ((k - 1) * 8 + tq)) + 0) + 0) := upd_at (by omega)
              replace hP : va_P (dC, dI) vwCl [(h0, .inr (5, [.ref c0, .ref b0, .ref h1, .ref m1, .int (nI w), .int (nI z), .int ch, .int bw, .int ot])), (c0, .inl (kc, 480, .inl fc)), (b0, .inl (kb, 480, .inl (upd fr ((k - 1) * 8 + tq) (((fc ((k - 1) * 8 + tq)) + 0) + 0)))), (h1, .inl (kh, 60, .inl fh)), (m1, .inl (km, 60, .inl fm))] H := by rw [← er_107]; exact hP
              replace hD : va_D A [(h0, .inr (5, [.ref c0, .ref b0, .ref h1, .ref m1, .int (nI w), .int (nI z), .int ch, .int bw, .int ot])), (c0, .inl (kc, 480, .inl fc)), (b0, .inl (kb, 480, .inl (upd fr ((k - 1) * 8 + tq) (((fc ((k - 1) * 8 + tq)) + 0) + 0)))), (h1, .inl (kh, 60, .inl fh)), (m1, .inl (km, 60, .inl fm))] := by rw [← er_107]; exact hD
              refine lv_iload_n hx hb dX5_costsFromBehind_108 rfl (lv_at hl 3 rfl) ?_
              refine lv_aload_n hx hb dX5_costsFromBehind_109 rfl (lv_at hl 2 rfl) ?_
              refine va_get (D := (dC, dI)) (ci := 5) (v := .ref b0) (C := RX5) (T := TX5) (N := 9) hx hb hts hi_X5 hown hK hP 0 rfl rfl 1 (by decide) k_f15 (fun _ h9 => h9) rfl dX5_costsFromBehind_110 ?_
              refine lv_iload hx hb dX5_costsFromBehind_113 (lv_at hl 1 rfl) ?_
              refine va_iald hx hb hK hP 2 1 rfl rfl (i := nI ((k - 1) * 8 + tq)) (vp_in_nI (by omega) (by omega)) dX5_costsFromBehind_115 ?_
              refine lv_topi (fun x_115 ex_115 => ?_)
              obtain rfl : (upd fr ((k - 1) * 8 + tq) (((fc ((k - 1) * 8 + tq)) + 0) + 0)) ((k - 1) * 8 + tq) = x_115 := Eq.symm (ex_115.trans (fR_at (by omega)))
              refine va_mmin hx hb (by rw [hml]; exact hl.1.symm) hown (hts (.methodLink RX5 68 Lib.Math.min.name) (by decide +kernel)) (hts (.static Lib.Math.min.name) (by decide +kernel)) (hts (.initialized "java/lang/Math") (by decide +kernel)) (hts (.code Lib.Math.min.name Lib.Math.min.code 2 (some .int)) (by decide +kernel)) (Nat.le_of_ble_eq_true rfl) (Nat.le_of_ble_eq_true rfl) (Nat.le_of_ble_eq_true rfl) (Nat.le_of_ble_eq_true rfl) dX5_costsFromBehind_116 ?_
              refine lv_istore_n (lv' := [(1, .int (if (upd fr ((k - 1) * 8 + tq) (((fc ((k - 1) * 8 + tq)) + 0) + 0)) ((k - 1) * 8 + tq) < x2 then (upd fr ((k - 1) * 8 + tq) (((fc ((k - 1) * 8 + tq)) + 0) + 0)) ((k - 1) * 8 + tq) else x2)), (6, .int 0), (5, .int (nI ((k - 1) * 8 + tq))), (0, .ref h0), (2, .int (nI (k - 1))), (3, .int x1), (4, .int (nI tq))]) hx hb dX5_costsFromBehind_119 rfl hl (by decide) rfl (fun ls hl => ?_)
              refine lv_iinc (v := nI (tq + 1)) (lv' := [(4, .int (nI (tq + 1))), (1, .int (if (upd fr ((k - 1) * 8 + tq) (((fc ((k - 1) * 8 + tq)) + 0) + 0)) ((k - 1) * 8 + tq) < x2 then (upd fr ((k - 1) * 8 + tq) (((fc ((k - 1) * 8 + tq)) + 0) + 0)) ((k - 1) * 8 + tq) else x2)), (6, .int 0), (5, .int (nI ((k - 1) * 8 + tq))), (0, .ref h0), (2, .int (nI (k - 1))), (3, .int x1)]) hx hb dX5_costsFromBehind_120 hl (k := 6) rfl (nI_1 _) (by decide) rfl (fun ls hl => ?_)
              refine lv_goto (tgt := 21) hx hb dX5_costsFromBehind_123 (by decide) ?_
              replace hl : lv_has ls 7 [(0, .ref h0), (1, .int (if (upd fr ((k - 1) * 8 + tq) (((fc ((k - 1) * 8 + tq)) + 0) + 0)) ((k - 1) * 8 + tq) < x2 then (upd fr ((k - 1) * 8 + tq) (((fc ((k - 1) * 8 + tq)) + 0) + 0)) ((k - 1) * 8 + tq) else x2)), (2, .int (nI (k - 1))), (3, .int x1), (4, .int (nI (tq + 1)))] := lv_sub hl [4, 1, 5, 6, 0] rfl
              replace hP : va_P (dC, dI) vwCl [(h0, .inr (5, [.ref c0, .ref b0, .ref h1, .ref m1, .int (nI w), .int (nI z), .int ch, .int bw, .int ot])), (c0, .inl (kc, 480, .inl fc)), (b0, .inl (kb, 480, .inl (upd fr ((k - 1) * 8 + tq) (((fc ((k - 1) * 8 + tq)) + 0) + 0)))), (h1, .inl (kh, 60, .inl fh)), (m1, .inl (km, 60, .inl fm))] H := hP
              replace hD : va_D A [(h0, .inr (5, [.ref c0, .ref b0, .ref h1, .ref m1, .int (nI w), .int (nI z), .int ch, .int bw, .int ot])), (c0, .inl (kc, 480, .inl fc)), (b0, .inl (kb, 480, .inl (upd fr ((k - 1) * 8 + tq) (((fc ((k - 1) * 8 + tq)) + 0) + 0)))), (h1, .inl (kh, 60, .inl fh)), (m1, .inl (km, 60, .inl fm))] := hD
              apply ih21 (tq := tq + 1) (x2 := if (upd fr ((k - 1) * 8 + tq) (((fc ((k - 1) * 8 + tq)) + 0) + 0)) ((k - 1) * 8 + tq) < x2 then (upd fr ((k - 1) * 8 + tq) (((fc ((k - 1) * 8 + tq)) + 0) + 0)) ((k - 1) * 8 + tq) else x2) (fr := upd fr ((k - 1) * 8 + tq) (((fc ((k - 1) * 8 + tq)) + 0) + 0)) <;> first | assumption | omega
            · subst hr_94
              refine lv_if_eq (tgt := 104) hx hb dX5_costsFromBehind_97 (by decide) (fun c_97 => ?_) (fun c_97 => ?_)
              rotate_left
              · exact absurd (by decide) c_97
              refine lv_ldc hx hb hown (hts (.constant RX5 77 (268435456)) (by decide +kernel)) dX5_costsFromBehind_104 ?_
              refine lv_iadd hx hb dX5_costsFromBehind_106 ?_
              refine va_iast hx hb hK hP hD hS 2 1 rfl rfl (i := nI ((k - 1) * 8 + tq)) (x := ((fc ((k - 1) * 8 + tq)) + 0) + 268435456) (vp_in_nI (by omega) (by omega)) dX5_costsFromBehind_107 (fun H locs hP hD hS => ?_)
              have er_107 : upd fr (nI ((k - 1) * 8 + tq) : Int32).toNatClampNeg (((fc ((k - 1) * 8 + tq)) + 0) + 268435456) = upd fr ((k - 1) * 8 + tq) (((fc ((k - 1) * 8 + tq)) + 0) + 268435456) := upd_at (by omega)
              replace hP : va_P (dC, dI) vwCl [(h0, .inr (5, [.ref c0, .ref b0, .ref h1, .ref m1, .int (nI w), .int (nI z), .int ch, .int bw, .int ot])), (c0, .inl (kc, 480, .inl fc)), (b0, .inl (kb, 480, .inl (upd fr ((k - 1) * 8 + tq) (((fc ((k - 1) * 8 + tq)) + 0) + 268435456)))), (h1, .inl (kh, 60, .inl fh)), (m1, .inl (km, 60, .inl fm))] H := by rw [← er_107]; exact hP
              replace hD : va_D A [(h0, .inr (5, [.ref c0, .ref b0, .ref h1, .ref m1, .int (nI w), .int (nI z), .int ch, .int bw, .int ot])), (c0, .inl (kc, 480, .inl fc)), (b0, .inl (kb, 480, .inl (upd fr ((k - 1) * 8 + tq) (((fc ((k - 1) * 8 + tq)) + 0) + 268435456)))), (h1, .inl (kh, 60, .inl fh)), (m1, .inl (km, 60, .inl fm))] := by rw [← er_107]; exact hD
              refine lv_iload_n hx hb dX5_costsFromBehind_108 rfl (lv_at hl 3 rfl) ?_
              refine lv_aload_n hx hb dX5_costsFromBehind_109 rfl (lv_at hl 2 rfl) ?_
              refine va_get (D := (dC, dI)) (ci := 5) (v := .ref b0) (C := RX5) (T := TX5) (N := 9) hx hb hts hi_X5 hown hK hP 0 rfl rfl 1 (by decide) k_f15 (fun _ h9 => h9) rfl dX5_costsFromBehind_110 ?_
              refine lv_iload hx hb dX5_costsFromBehind_113 (lv_at hl 1 rfl) ?_
              refine va_iald hx hb hK hP 2 1 rfl rfl (i := nI ((k - 1) * 8 + tq)) (vp_in_nI (by omega) (by omega)) dX5_costsFromBehind_115 ?_
              refine lv_topi (fun x_115 ex_115 => ?_)
              obtain rfl : (upd fr ((k - 1) * 8 + tq) (((fc ((k - 1) * 8 + tq)) + 0) + 268435456)) ((k - 1) * 8 + tq) = x_115 := Eq.symm (ex_115.trans (fR_at (by omega)))
              refine va_mmin hx hb (by rw [hml]; exact hl.1.symm) hown (hts (.methodLink RX5 68 Lib.Math.min.name) (by decide +kernel)) (hts (.static Lib.Math.min.name) (by decide +kernel)) (hts (.initialized "java/lang/Math") (by decide +kernel)) (hts (.code Lib.Math.min.name Lib.Math.min.code 2 (some .int)) (by decide +kernel)) (Nat.le_of_ble_eq_true rfl) (Nat.le_of_ble_eq_true rfl) (Nat.le_of_ble_eq_true rfl) (Nat.le_of_ble_eq_true rfl) dX5_costsFromBehind_116 ?_
              refine lv_istore_n (lv' := [(1, .int (if (upd fr ((k - 1) * 8 + tq) (((fc ((k - 1) * 8 + tq)) + 0) + 268435456)) ((k - 1) * 8 + tq) < x2 then (upd fr ((k - 1) * 8 + tq) (((fc ((k - 1) * 8 + tq)) + 0) + 268435456)) ((k - 1) * 8 + tq) else x2)), (6, .int 0), (5, .int (nI ((k - 1) * 8 + tq))), (0, .ref h0), (2, .int (nI (k - 1))), (3, .int x1), (4, .int (nI tq))]) hx hb dX5_costsFromBehind_119 rfl hl (by decide) rfl (fun ls hl => ?_)
              refine lv_iinc (v := nI (tq + 1)) (lv' := [(4, .int (nI (tq + 1))), (1, .int (if (upd fr ((k - 1) * 8 + tq) (((fc ((k - 1) * 8 + tq)) + 0) + 268435456)) ((k - 1) * 8 + tq) < x2 then (upd fr ((k - 1) * 8 + tq) (((fc ((k - 1) * 8 + tq)) + 0) + 268435456)) ((k - 1) * 8 + tq) else x2)), (6, .int 0), (5, .int (nI ((k - 1) * 8 + tq))), (0, .ref h0), (2, .int (nI (k - 1))), (3, .int x1)]) hx hb dX5_costsFromBehind_120 hl (k := 6) rfl (nI_1 _) (by decide) rfl (fun ls hl => ?_)
              refine lv_goto (tgt := 21) hx hb dX5_costsFromBehind_123 (by decide) ?_
              replace hl : lv_has ls 7 [(0, .ref h0), (1, .int (if (upd fr ((k - 1) * 8 + tq) (((fc ((k - 1) * 8 + tq)) + 0) + 268435456)) ((k - 1) * 8 + tq) < x2 then (upd fr ((k - 1) * 8 + tq) (((fc ((k - 1) * 8 + tq)) + 0) + 268435456)) ((k - 1) * 8 + tq) else x2)), (2, .int (nI (k - 1))), (3, .int x1), (4, .int (nI (tq + 1)))] := lv_sub hl [4, 1, 5, 6, 0] rfl
              replace hP : va_P (dC, dI) vwCl [(h0, .inr (5, [.ref c0, .ref b0, .ref h1, .ref m1, .int (nI w), .int (nI z), .int ch, .int bw, .int ot])), (c0, .inl (kc, 480, .inl fc)), (b0, .inl (kb, 480, .inl (upd fr ((k - 1) * 8 + tq) (((fc ((k - 1) * 8 + tq)) + 0) + 268435456)))), (h1, .inl (kh, 60, .inl fh)), (m1, .inl (km, 60, .inl fm))] H := hP
              replace hD : va_D A [(h0, .inr (5, [.ref c0, .ref b0, .ref h1, .ref m1, .int (nI w), .int (nI z), .int ch, .int bw, .int ot])), (c0, .inl (kc, 480, .inl fc)), (b0, .inl (kb, 480, .inl (upd fr ((k - 1) * 8 + tq) (((fc ((k - 1) * 8 + tq)) + 0) + 268435456)))), (h1, .inl (kh, 60, .inl fh)), (m1, .inl (km, 60, .inl fm))] := hD
              apply ih21 (tq := tq + 1) (x2 := if (upd fr ((k - 1) * 8 + tq) (((fc ((k - 1) * 8 + tq)) + 0) + 268435456)) ((k - 1) * 8 + tq) < x2 then (upd fr ((k - 1) * 8 + tq) (((fc ((k - 1) * 8 + tq)) + 0) + 268435456)) ((k - 1) * 8 + tq) else x2) (fr := upd fr ((k - 1) * 8 + tq) (((fc ((k - 1) * 8 + tq)) + 0) + 268435456)) <;> first | assumption | omega

set_option maxHeartbeats 4000000 in
set_option maxRecDepth 100000 in
theorem g_X5_walk (l : Launch) (dC : Nat → ClassId) (dI : Nat → Nat → Nat) (h0 : Nat) (c0 : Nat) (b0 : Nat) (h1 : Nat) (m1 : Nat) (w : Nat) (z : Nat) (ch : Int32) (bw : Int32) (ot : Int32) (kc : ClassId) (kb : ClassId) (kh : ClassId) (km : ClassId) (fc : Nat → Int32) (fb : Nat → Int32) (fh : Nat → Int32) (fm : Nat → Int32) (sz : Nat) (hw : w ≤ 60) (hz : z ≤ 8) : Met l yX5_walk wsX5_walk ({ frames := 2, cells := 0, slots := 0, locals := 48 }) (va_Pc [.ref h0] (fun U => U.heap.size = sz ∧ va_P (dC, dI) vwCl [(h0, .inr (5, [.ref c0, .ref b0, .ref h1, .ref m1, .int (nI w), .int (nI z), .int ch, .int bw, .int ot])), (c0, .inl (kc, 480, .inl fc)), (b0, .inl (kb, 480, .inl fb)), (h1, .inl (kh, 60, .inl fh)), (m1, .inl (km, 60, .inl fm))] U.heap ∧ va_K (dC, dI) vwCl [(kc, .int), (kb, .int), (kh, .int), (km, .int)] U ∧ va_D (fun _ => True) [(h0, .inr (5, [.ref c0, .ref b0, .ref h1, .ref m1, .int (nI w), .int (nI z), .int ch, .int bw, .int ot])), (c0, .inl (kc, 480, .inl fc)), (b0, .inl (kb, 480, .inl fb)), (h1, .inl (kh, 60, .inl fh)), (m1, .inl (km, 60, .inl fm))])) (va_Qi (fun (r : Int32) (u : (Nat → Int32) × (Nat → Int32)) => match u with | (bo, ho) => True) (fun (u : (Nat → Int32) × (Nat → Int32)) (t : State) => match u with | (bo, ho) => va_P (dC, dI) vwCl [(h0, .inr (5, [.ref c0, .ref b0, .ref h1, .ref m1, .int (nI w), .int (nI z), .int ch, .int bw, .int ot])), (c0, .inl (kc, 480, .inl fc)), (b0, .inl (kb, 480, .inl bo)), (h1, .inl (kh, 60, .inl ho)), (m1, .inl (km, 60, .inl fm))] t.heap ∧ va_D (va_A [(h0, .inr (5, [.ref c0, .ref b0, .ref h1, .ref m1, .int (nI w), .int (nI z), .int ch, .int bw, .int ot])), (c0, .inl (kc, 480, .inl fc)), (b0, .inl (kb, 480, .inl fb)), (h1, .inl (kh, 60, .inl fh)), (m1, .inl (km, 60, .inl fm))] sz) [(h0, .inr (5, [.ref c0, .ref b0, .ref h1, .ref m1, .int (nI w), .int (nI z), .int ch, .int bw, .int ot])), (c0, .inl (kc, 480, .inl fc)), (b0, .inl (kb, 480, .inl bo)), (h1, .inl (kh, 60, .inl ho)), (m1, .inl (km, 60, .inl fm))]) (va_A [(h0, .inr (5, [.ref c0, .ref b0, .ref h1, .ref m1, .int (nI w), .int (nI z), .int ch, .int bw, .int ot])), (c0, .inl (kc, 480, .inl fc)), (b0, .inl (kb, 480, .inl fb)), (h1, .inl (kh, 60, .inl fh)), (m1, .inl (km, 60, .inl fm))] sz)) 0 0 (va_A [(h0, .inr (5, [.ref c0, .ref b0, .ref h1, .ref m1, .int (nI w), .int (nI z), .int ch, .int bw, .int ot])), (c0, .inl (kc, 480, .inl fc)), (b0, .inl (kb, 480, .inl fb)), (h1, .inl (kh, 60, .inl fh)), (m1, .inl (km, 60, .inl fm))] sz) := by
  refine Met.ofW (cc := cX5_walk) (maxL := 4) (ret := (some .int)) (by decide) rfl ?_
  intro p e s m args below meth c s₁ B hml hv
  obtain ⟨rfl, hsz, hP, hK, hD0⟩ := hv
  have hx := B.exec
  have hb := B.bytes
  have hr := B.returns
  have hts := atoms_spec (ws := wsX5_walk) B.pre
  have hown : s.vm.findClass RX5 = some m.cls := findClass_of_methodNamed B.named
  have hlocks := B.notSynchronized
  subst hsz
  have hD := hD0.self (sz := s.heap.size)
  clear hD0
  generalize hAe : va_A [(h0, .inr (5, [.ref c0, .ref b0, .ref h1, .ref m1, .int (nI w), .int (nI z), .int ch, .int bw, .int ot])), (c0, .inl (kc, 480, .inl fc)), (b0, .inl (kb, 480, .inl fb)), (h1, .inl (kh, 60, .inl fh)), (m1, .inl (km, 60, .inl fm))] s.heap.size = A at hD ⊢
  have hA : ∀ q : Nat, s.heap.size ≤ q → A q := fun q h => by rw [← hAe]; exact Or.inr h
  clear hAe
  have hS : va_S A s.heap s.heap [] := va_S.rf
  replace hP : va_P (dC, dI) vwCl [(h0, .inr (5, [.ref c0, .ref b0, .ref h1, .ref m1, .int (nI w), .int (nI z), .int ch, .int bw, .int ot])), (c0, .inl (kc, 480, .inl fc)), (b0, .inl (kb, 480, .inl fb)), (h1, .inl (kh, 60, .inl fh)), (m1, .inl (km, 60, .inl fm))] s.heap := hP
  have hl := lv_entry ([.ref h0]) (n := 4) (Nat.le_of_ble_eq_true rfl)
  rw [lg_entry_eq]
  generalize (lg_sl ([.ref h0]) ++ List.replicate (4 - (lg_sl ([.ref h0])).length) Slot.unset).toArray = ls at hl ⊢
  replace hl : lv_has ls 4 [(0, .ref h0)] := hl
  have hi_X5 : ∀ w ∈ wsX50, w ∈ wsX5_walk := by decide +kernel
  have k_f24 := hts (.fieldLink RX5 24 "TongueTeller$Way" "words" "I") (by decide +kernel)
  have k_f18 := hts (.fieldLink RX5 18 "TongueTeller$Way" "chosen" "[I") (by decide +kernel)
  refine lv_aload_n hx hb dX5_walk_0 rfl (lv_at hl 0 rfl) ?_
  have hPc := hP.sub (ws' := [(h0, .inr (5, [.ref c0, .ref b0, .ref h1, .ref m1, .int (nI w), .int (nI z), .int ch, .int bw, .int ot])), (c0, .inl (kc, 480, .inl fc)), (b0, .inl (kb, 480, .inl fb)), (h1, .inl (kh, 60, .inl fh)), (m1, .inl (km, 60, .inl fm))]) [0, 1, 2, 3, 4] rfl
  have hDc := hD.sub (ws' := [(h0, .inr (5, [.ref c0, .ref b0, .ref h1, .ref m1, .int (nI w), .int (nI z), .int ch, .int bw, .int ot])), (c0, .inl (kc, 480, .inl fc)), (b0, .inl (kb, 480, .inl fb)), (h1, .inl (kh, 60, .inl fh)), (m1, .inl (km, 60, .inl fm))]) [0, 1, 2, 3, 4] (by decide) rfl
  have hKc := hK.sub (tys' := [(kc, .int), (kb, .int), (kh, .int), (km, .int)]) [0, 1, 2, 3] rfl
  have hFc := va_free (wc := [(h0, .inr (5, [.ref c0, .ref b0, .ref h1, .ref m1, .int (nI w), .int (nI z), .int ch, .int bw, .int ot])), (c0, .inl (kc, 480, .inl fc)), (b0, .inl (kb, 480, .inl fb)), (h1, .inl (kh, 60, .inl fh)), (m1, .inl (km, 60, .inl fm))]) hD hS hA [0, 1, 2, 3, 4] rfl
  refine va_calli (va_runV (As := []) (rest := []) ⟨hx, hb, hml, hown, hts⟩ (g_X5_costsFromBehind l dC dI h0 c0 b0 h1 m1 w z ch bw ot kc kb kh km fc fb fh fm s.heap.size (by first | assumption | omega) (by first | assumption | omega)) (cwV 0 hts gX5_walk_X5_costsFromBehind rfl rfl rfl (by decide +kernel) ⟨Nat.le_of_ble_eq_true rfl, Nat.le_of_ble_eq_true rfl⟩) ⟨fun a U g mk q => by obtain ⟨q0, q1, qP, qK, qD⟩ := q; exact ⟨q0, q1, qP, va_K.moved (u := U) (U := U.calling g mk a) (Vm.Alike.refl U.vm) qK, qD⟩, va_recv hK hP (ci := 5) (q0 := 0) rfl rfl, fun U hU hW => ⟨rfl, by rw [hU], by rw [hU]; exact hPc, va_K.moved hW.alike hKc, hDc.weaken (fun _ _ _ _ => trivial)⟩⟩ rfl rfl hl.1 rfl (lv_room (Nat.le_of_ble_eq_true rfl)) dX5_walk_1 ⟨Nat.le_of_ble_eq_true rfl, Nat.le_of_ble_eq_true rfl⟩) hS (fun q _ h => hFc q h) hFc (fun r_1 u t H1 locs ht hvm hw_1 hB hz1 hk1 hS => ?_)
  obtain ⟨bo_1, rfl⟩ : ∃ z, z = u := ⟨_, rfl⟩
  try dsimp only at hw_1 hB
  obtain ⟨hP1, hD1⟩ := hB
  rw [ht] at hP1
  obtain ⟨hP, hD⟩ := va_join (wr := []) (w1 := [(h0, .inr (5, [.ref c0, .ref b0, .ref h1, .ref m1, .int (nI w), .int (nI z), .int ch, .int bw, .int ot])), (c0, .inl (kc, 480, .inl fc)), (b0, .inl (kb, 480, .inl bo_1)), (h1, .inl (kh, 60, .inl fh)), (m1, .inl (km, 60, .inl fm))]) hP hD [0, 1, 2, 3, 4] [] rfl rfl (by decide) (by decide) hk1 hFc hP1 hD1
  generalize H1 = H at hP hS ⊢
  replace hP : va_P (dC, dI) vwCl [(h0, .inr (5, [.ref c0, .ref b0, .ref h1, .ref m1, .int (nI w), .int (nI z), .int ch, .int bw, .int ot])), (c0, .inl (kc, 480, .inl fc)), (b0, .inl (kb, 480, .inl bo_1)), (h1, .inl (kh, 60, .inl fh)), (m1, .inl (km, 60, .inl fm))] H := hP
  replace hD : va_D A [(h0, .inr (5, [.ref c0, .ref b0, .ref h1, .ref m1, .int (nI w), .int (nI z), .int ch, .int bw, .int ot])), (c0, .inl (kc, 480, .inl fc)), (b0, .inl (kb, 480, .inl bo_1)), (h1, .inl (kh, 60, .inl fh)), (m1, .inl (km, 60, .inl fm))] := hD
  refine lv_istore_n (lv' := [(1, .int r_1), (0, .ref h0)]) hx hb dX5_walk_4 rfl hl (by decide) rfl (fun ls hl => ?_)
  refine lv_iconst (v := (-1)) hx hb dX5_walk_5 (by decide) ?_
  refine lv_istore_n (lv' := [(2, .int (-1)), (1, .int r_1), (0, .ref h0)]) hx hb dX5_walk_6 rfl hl (by decide) rfl (fun ls hl => ?_)
  refine lv_iconst (v := 0) hx hb dX5_walk_7 (by decide) ?_
  refine lv_istore_n (lv' := [(3, .int 0), (2, .int (-1)), (1, .int r_1), (0, .ref h0)]) hx hb dX5_walk_8 rfl hl (by decide) rfl (fun ls hl => ?_)
  obtain ⟨i, e_i⟩ : ∃ y : Nat, y = 0 := ⟨_, rfl⟩
  obtain ⟨x2, e_x2⟩ : ∃ y : Int32, y = (-1) := ⟨_, rfl⟩
  obtain ⟨fq, e_fq⟩ : ∃ y : Nat → Int32, y = fh := ⟨_, rfl⟩
  replace hl : lv_has ls 4 [(0, .ref h0), (1, .int r_1), (2, .int x2), (3, .int (nI i))] := by subst e_i; subst e_x2; subst e_fq; exact lv_sub hl [3, 2, 1, 0] rfl
  replace hP : va_P (dC, dI) vwCl [(h0, .inr (5, [.ref c0, .ref b0, .ref h1, .ref m1, .int (nI w), .int (nI z), .int ch, .int bw, .int ot])), (c0, .inl (kc, 480, .inl fc)), (b0, .inl (kb, 480, .inl bo_1)), (h1, .inl (kh, 60, .inl fq)), (m1, .inl (km, 60, .inl fm))] H := by subst e_i; subst e_x2; subst e_fq; exact hP
  replace hD : va_D A [(h0, .inr (5, [.ref c0, .ref b0, .ref h1, .ref m1, .int (nI w), .int (nI z), .int ch, .int bw, .int ot])), (c0, .inl (kc, 480, .inl fc)), (b0, .inl (kb, 480, .inl bo_1)), (h1, .inl (kh, 60, .inl fq)), (m1, .inl (km, 60, .inl fm))] := by subst e_i; subst e_x2; subst e_fq; exact hD
  have hi1 : i ≤ w := by subst e_i; subst e_x2; subst e_fq; omega
  clear e_i e_x2 e_fq
  obtain ⟨nn9, hnn9⟩ : ∃ q : Nat, w - i < q := ⟨_, Nat.lt_succ_self _⟩
  induction nn9 generalizing i x2 fq H locs ls with
  | zero => exact absurd hnn9 (Nat.not_lt_zero _)
  | succ nn9 ih9 =>
    refine lv_iload_n hx hb dX5_walk_9 rfl (lv_at hl 3 rfl) ?_
    refine lv_aload_n hx hb dX5_walk_10 rfl (lv_at hl 0 rfl) ?_
    refine va_get (D := (dC, dI)) (ci := 5) (v := .int (nI w)) (C := RX5) (T := TX5) (N := 9) hx hb hts hi_X5 hown hK hP 0 rfl rfl 4 (by decide) k_f24 (fun _ h9 => h9) rfl dX5_walk_11 ?_
    refine lv_icmp_ge (tgt := 37) hx hb dX5_walk_14 (by decide) (fun c_14 => ?_) (fun c_14 => ?_)
    · have n_14 : w ≤ i := (nI_leI (a := w) (b := i) (by omega) (by omega)).mp c_14
      refine lv_iload_n hx hb dX5_walk_37 rfl (lv_at hl 1 rfl) ?_
      have hP9 := hP.sub (ws' := [(h0, .inr (5, [.ref c0, .ref b0, .ref h1, .ref m1, .int (nI w), .int (nI z), .int ch, .int bw, .int ot])), (c0, .inl (kc, 480, .inl fc)), (b0, .inl (kb, 480, .inl bo_1)), (h1, .inl (kh, 60, .inl fq)), (m1, .inl (km, 60, .inl fm))]) [0, 1, 2, 3, 4] rfl
      have hD9 := hD.sub (ws' := [(h0, .inr (5, [.ref c0, .ref b0, .ref h1, .ref m1, .int (nI w), .int (nI z), .int ch, .int bw, .int ot])), (c0, .inl (kc, 480, .inl fc)), (b0, .inl (kb, 480, .inl bo_1)), (h1, .inl (kh, 60, .inl fq)), (m1, .inl (km, 60, .inl fm))]) [0, 1, 2, 3, 4] (by decide) rfl
      exact W.iret (v := r_1) hx hb hr (fun t ht hW => ⟨⟨r_1, (bo_1, fq), rfl, trivial, by rw [ht]; exact hP9, hD9⟩, hS.F ht⟩) hS.2.2 dX5_walk_38
    · have n_14 : i < w := Nat.not_le.mp (fun h9 => c_14 ((nI_leI (a := w) (b := i) (by omega) (by omega)).mpr h9))
      refine lv_aload_n hx hb dX5_walk_17 rfl (lv_at hl 0 rfl) ?_
      refine lv_iload_n hx hb dX5_walk_18 rfl (lv_at hl 3 rfl) ?_
      refine lv_iload_n hx hb dX5_walk_19 rfl (lv_at hl 2 rfl) ?_
      have hPc := hP.sub (ws' := [(h0, .inr (5, [.ref c0, .ref b0, .ref h1, .ref m1, .int (nI w), .int (nI z), .int ch, .int bw, .int ot])), (c0, .inl (kc, 480, .inl fc)), (b0, .inl (kb, 480, .inl bo_1)), (h1, .inl (kh, 60, .inl fq)), (m1, .inl (km, 60, .inl fm))]) [0, 1, 2, 3, 4] rfl
      have hKc := hK.sub (tys' := [(kc, .int), (kb, .int), (kh, .int), (km, .int)]) [0, 1, 2, 3] rfl
      refine vp_callSi (W.runV (As := [.int (nI i), .int x2]) (rest := []) ⟨hx, hb, hml, hown, hts⟩ (g_X5_cheapestAt l dC dI h0 c0 b0 h1 m1 w z ch bw ot kc kb kh km fc bo_1 fq fm i x2 (by first | assumption | omega) (by first | assumption | omega) (by first | assumption | omega)) (cwV 2 hts gX5_walk_X5_cheapestAt rfl rfl rfl (by decide +kernel) ⟨Nat.le_of_ble_eq_true rfl, Nat.le_of_ble_eq_true rfl⟩) ⟨fun a U g mk q => by obtain ⟨q0, qP, qK⟩ := q; exact ⟨q0, qP, va_K.moved (u := U) (U := U.calling g mk a) (Vm.Alike.refl U.vm) qK⟩, va_recv hK hP (ci := 5) (q0 := 0) rfl rfl, fun U hU hW => ⟨rfl, by rw [hU]; exact hPc, va_K.moved hW.alike hKc⟩⟩ rfl rfl hl.1 rfl (lv_room (Nat.le_of_ble_eq_true rfl)) dX5_walk_20 ⟨Nat.le_of_ble_eq_true rfl, Nat.le_of_ble_eq_true rfl⟩) (fun r_20 hw_20 => ?_)
      clear hPc
      obtain ⟨bo_20, hr_20, hbo_20⟩ := hw_20
      obtain rfl : nI bo_20 = r_20 := Eq.symm hr_20
      refine lv_istore_n (lv' := [(2, .int (nI bo_20)), (0, .ref h0), (1, .int r_1), (3, .int (nI i))]) hx hb dX5_walk_23 rfl hl (by decide) rfl (fun ls hl => ?_)
      refine lv_aload_n hx hb dX5_walk_24 rfl (lv_at hl 1 rfl) ?_
      refine va_get (D := (dC, dI)) (ci := 5) (v := .ref h1) (C := RX5) (T := TX5) (N := 9) hx hb hts hi_X5 hown hK hP 0 rfl rfl 2 (by decide) k_f18 (fun _ h9 => h9) rfl dX5_walk_25 ?_
      refine lv_iload_n hx hb dX5_walk_28 rfl (lv_at hl 3 rfl) ?_
      refine lv_iload_n hx hb dX5_walk_29 rfl (lv_at hl 0 rfl) ?_
      refine va_iast hx hb hK hP hD hS 3 2 rfl rfl (i := nI i) (x := nI bo_20) (vp_in_nI (by omega) (by omega)) dX5_walk_30 (fun H locs hP hD hS => ?_)
      have er_30 : upd fq (nI i : Int32).toNatClampNeg (nI bo_20) = upd fq i (nI bo_20) := upd_at (by omega)
      replace hP : va_P (dC, dI) vwCl [(h0, .inr (5, [.ref c0, .ref b0, .ref h1, .ref m1, .int (nI w), .int (nI z), .int ch, .int bw, .int ot])), (c0, .inl (kc, 480, .inl fc)), (b0, .inl (kb, 480, .inl bo_1)), (h1, .inl (kh, 60, .inl (upd fq i (nI bo_20)))), (m1, .inl (km, 60, .inl fm))] H := by rw [← er_30]; exact hP
      replace hD : va_D A [(h0, .inr (5, [.ref c0, .ref b0, .ref h1, .ref m1, .int (nI w), .int (nI z), .int ch, .int bw, .int ot])), (c0, .inl (kc, 480, .inl fc)), (b0, .inl (kb, 480, .inl bo_1)), (h1, .inl (kh, 60, .inl (upd fq i (nI bo_20)))), (m1, .inl (km, 60, .inl fm))] := by rw [← er_30]; exact hD
      refine lv_iinc (v := nI (i + 1)) (lv' := [(3, .int (nI (i + 1))), (2, .int (nI bo_20)), (0, .ref h0), (1, .int r_1)]) hx hb dX5_walk_31 hl (k := 3) rfl (nI_1 _) (by decide) rfl (fun ls hl => ?_)
      refine lv_goto (tgt := 9) hx hb dX5_walk_34 (by decide) ?_
      replace hl : lv_has ls 4 [(0, .ref h0), (1, .int r_1), (2, .int (nI bo_20)), (3, .int (nI (i + 1)))] := lv_sub hl [2, 3, 1, 0] rfl
      replace hP : va_P (dC, dI) vwCl [(h0, .inr (5, [.ref c0, .ref b0, .ref h1, .ref m1, .int (nI w), .int (nI z), .int ch, .int bw, .int ot])), (c0, .inl (kc, 480, .inl fc)), (b0, .inl (kb, 480, .inl bo_1)), (h1, .inl (kh, 60, .inl (upd fq i (nI bo_20)))), (m1, .inl (km, 60, .inl fm))] H := hP
      replace hD : va_D A [(h0, .inr (5, [.ref c0, .ref b0, .ref h1, .ref m1, .int (nI w), .int (nI z), .int ch, .int bw, .int ot])), (c0, .inl (kc, 480, .inl fc)), (b0, .inl (kb, 480, .inl bo_1)), (h1, .inl (kh, 60, .inl (upd fq i (nI bo_20)))), (m1, .inl (km, 60, .inl fm))] := hD
      apply ih9 (i := i + 1) (x2 := nI bo_20) (fq := upd fq i (nI bo_20)) <;> first | assumption | omega

set_option maxHeartbeats 4000000 in
set_option maxRecDepth 100000 in
theorem g_X5_firstUnlike (l : Launch) (dC : Nat → ClassId) (dI : Nat → Nat → Nat) (h0 : Nat) (c0 : Nat) (b0 : Nat) (h1 : Nat) (m1 : Nat) (w : Nat) (z : Nat) (ch : Int32) (bw : Int32) (ot : Int32) (kc : ClassId) (kb : ClassId) (kh : ClassId) (km : ClassId) (fc : Nat → Int32) (fb : Nat → Int32) (fh : Nat → Int32) (fm : Nat → Int32) (b9 : Nat) (hw : w ≤ 60) (hz : z ≤ 8) (hb9 : b9 ≤ 60) : Met l yX5_firstUnlike wsX5_firstUnlike ({ frames := 0, cells := 0, slots := 0, locals := 0 }) (va_Pc [.ref h0, .int (nI b9)] (fun U => va_P (dC, dI) vwCl [(h0, .inr (5, [.ref c0, .ref b0, .ref h1, .ref m1, .int (nI w), .int (nI z), .int ch, .int bw, .int ot])), (c0, .inl (kc, 480, .inl fc)), (b0, .inl (kb, 480, .inl fb)), (h1, .inl (kh, 60, .inl fh)), (m1, .inl (km, 60, .inl fm))] U.heap ∧ va_K (dC, dI) vwCl [(kc, .int), (kb, .int), (kh, .int), (km, .int)] U)) (vp_Si (fun r => ∃ (uo : Nat), r = nI uo ∧ (uo ≤ b9))) 0 0 (fun _ => False) := by
  refine Met.ofW (cc := cX5_firstUnlike) (maxL := 3) (ret := (some .int)) (by decide) rfl ?_
  intro p e s m args below meth c s₁ B hml hv
  obtain ⟨rfl, hP, hK⟩ := hv
  have hx := B.exec
  have hb := B.bytes
  have hr := B.returns
  have hts := atoms_spec (ws := wsX5_firstUnlike) B.pre
  have hown : s.vm.findClass RX5 = some m.cls := findClass_of_methodNamed B.named
  have hlocks := B.notSynchronized
  replace hP : va_P (dC, dI) vwCl [(h0, .inr (5, [.ref c0, .ref b0, .ref h1, .ref m1, .int (nI w), .int (nI z), .int ch, .int bw, .int ot])), (c0, .inl (kc, 480, .inl fc)), (b0, .inl (kb, 480, .inl fb)), (h1, .inl (kh, 60, .inl fh)), (m1, .inl (km, 60, .inl fm))] s.heap := hP
  have hl := lv_entry ([.ref h0, .int (nI b9)]) (n := 3) (Nat.le_of_ble_eq_true rfl)
  rw [lg_entry_eq]
  generalize (lg_sl ([.ref h0, .int (nI b9)]) ++ List.replicate (3 - (lg_sl ([.ref h0, .int (nI b9)])).length) Slot.unset).toArray = ls at hl ⊢
  replace hl : lv_has ls 3 [(0, .ref h0), (1, .int (nI b9))] := hl
  have hi_X5 : ∀ w ∈ wsX50, w ∈ wsX5_firstUnlike := by decide +kernel
  have k_f18 := hts (.fieldLink RX5 18 "TongueTeller$Way" "chosen" "[I") (by decide +kernel)
  have k_f21 := hts (.fieldLink RX5 21 "TongueTeller$Way" "compared" "[I") (by decide +kernel)
  refine lv_iconst (v := 0) hx hb dX5_firstUnlike_0 (by decide) ?_
  refine lv_istore_n (lv' := [(2, .int 0), (0, .ref h0), (1, .int (nI b9))]) hx hb dX5_firstUnlike_1 rfl hl (by decide) rfl (fun ls hl => ?_)
  obtain ⟨i, e_i⟩ : ∃ y : Nat, y = 0 := ⟨_, rfl⟩
  replace hl : lv_has ls 3 [(0, .ref h0), (1, .int (nI b9)), (2, .int (nI i))] := by subst e_i; exact lv_sub hl [1, 2, 0] rfl
  have hi1 : i ≤ b9 := by subst e_i; omega
  clear e_i
  obtain ⟨nn2, hnn2⟩ : ∃ q : Nat, b9 - i < q := ⟨_, Nat.lt_succ_self _⟩
  induction nn2 generalizing i ls with
  | zero => exact absurd hnn2 (Nat.not_lt_zero _)
  | succ nn2 ih2 =>
    refine lv_iload_n hx hb dX5_firstUnlike_2 rfl (lv_at hl 2 rfl) ?_
    refine lv_iload_n hx hb dX5_firstUnlike_3 rfl (lv_at hl 1 rfl) ?_
    refine lv_icmp_ge (tgt := 30) hx hb dX5_firstUnlike_4 (by decide) (fun c_4 => ?_) (fun c_4 => ?_)
    · have n_4 : b9 ≤ i := (nI_leI (a := b9) (b := i) (by omega) (by omega)).mp c_4
      refine lv_iload_n hx hb dX5_firstUnlike_30 rfl (lv_at hl 1 rfl) ?_
      exact W.iret (v := nI b9) hx hb hr (fun t ht hW => ⟨nI b9, rfl, ⟨b9, rfl, by first | assumption | omega⟩, ht⟩) (fun _ h => absurd h List.not_mem_nil) dX5_firstUnlike_31
    · have n_4 : i < b9 := Nat.not_le.mp (fun h9 => c_4 ((nI_leI (a := b9) (b := i) (by omega) (by omega)).mpr h9))
      refine lv_aload_n hx hb dX5_firstUnlike_7 rfl (lv_at hl 0 rfl) ?_
      refine va_get (D := (dC, dI)) (ci := 5) (v := .ref h1) (C := RX5) (T := TX5) (N := 9) hx hb hts hi_X5 hown hK hP 0 rfl rfl 2 (by decide) k_f18 (fun _ h9 => h9) rfl dX5_firstUnlike_8 ?_
      refine lv_iload_n hx hb dX5_firstUnlike_11 rfl (lv_at hl 2 rfl) ?_
      refine va_iald hx hb hK hP 3 2 rfl rfl (i := nI i) (vp_in_nI (by omega) (by omega)) dX5_firstUnlike_12 ?_
      refine lv_topi (fun x_12 ex_12 => ?_)
      obtain rfl : fh i = x_12 := Eq.symm (ex_12.trans (fR_at (by omega)))
      refine lv_aload_n hx hb dX5_firstUnlike_13 rfl (lv_at hl 0 rfl) ?_
      refine va_get (D := (dC, dI)) (ci := 5) (v := .ref m1) (C := RX5) (T := TX5) (N := 9) hx hb hts hi_X5 hown hK hP 0 rfl rfl 3 (by decide) k_f21 (fun _ h9 => h9) rfl dX5_firstUnlike_14 ?_
      refine lv_iload_n hx hb dX5_firstUnlike_17 rfl (lv_at hl 2 rfl) ?_
      refine va_iald hx hb hK hP 4 3 rfl rfl (i := nI i) (vp_in_nI (by omega) (by omega)) dX5_firstUnlike_18 ?_
      refine lv_topi (fun x_18 ex_18 => ?_)
      obtain rfl : fm i = x_18 := Eq.symm (ex_18.trans (fR_at (by omega)))
      refine lv_icmp_eq (tgt := 24) hx hb dX5_firstUnlike_19 (by decide) (fun c_19 => ?_) (fun c_19 => ?_)
      · refine lv_iinc (v := nI (i + 1)) (lv' := [(2, .int (nI (i + 1))), (0, .ref h0), (1, .int (nI b9))]) hx hb dX5_firstUnlike_24 hl (k := 2) rfl (nI_1 _) (by decide) rfl (fun ls hl => ?_)
        refine lv_goto (tgt := 2) hx hb dX5_firstUnlike_27 (by decide) ?_
        replace hl : lv_has ls 3 [(0, .ref h0), (1, .int (nI b9)), (2, .int (nI (i + 1)))] := lv_sub hl [1, 2, 0] rfl
        apply ih2 (i := i + 1) <;> first | assumption | omega
      · refine lv_iload_n hx hb dX5_firstUnlike_22 rfl (lv_at hl 2 rfl) ?_
        exact W.iret (v := nI i) hx hb hr (fun t ht hW => ⟨nI i, rfl, ⟨i, rfl, by first | assumption | omega⟩, ht⟩) (fun _ h => absurd h List.not_mem_nil) dX5_firstUnlike_23

set_option maxHeartbeats 4000000 in
set_option maxRecDepth 100000 in
theorem g_X5_alikeForEachEnd (l : Launch) (dC : Nat → ClassId) (dI : Nat → Nat → Nat) (h0 : Nat) (c0 : Nat) (b0 : Nat) (h1 : Nat) (m1 : Nat) (w : Nat) (z : Nat) (ch : Int32) (bw : Int32) (ot : Int32) (kc : ClassId) (kb : ClassId) (kh : ClassId) (km : ClassId) (fc : Nat → Int32) (fb : Nat → Int32) (fh : Nat → Int32) (fm : Nat → Int32) (sz : Nat) (hw : w ≤ 60) (hz : z ≤ 8) : Met l yX5_alikeForEachEnd wsX5_alikeForEachEnd ({ frames := 3, cells := 0, slots := 0, locals := 71 }) (va_Pc [.ref h0] (fun U => U.heap.size = sz ∧ va_P (dC, dI) vwCl [(h0, .inr (5, [.ref c0, .ref b0, .ref h1, .ref m1, .int (nI w), .int (nI z), .int ch, .int bw, .int ot])), (c0, .inl (kc, 480, .inl fc)), (b0, .inl (kb, 480, .inl fb)), (h1, .inl (kh, 60, .inl fh)), (m1, .inl (km, 60, .inl fm))] U.heap ∧ va_K (dC, dI) vwCl [(kc, .int), (kb, .int), (kh, .int), (km, .int)] U ∧ va_D (fun _ => True) [(h0, .inr (5, [.ref c0, .ref b0, .ref h1, .ref m1, .int (nI w), .int (nI z), .int ch, .int bw, .int ot])), (c0, .inl (kc, 480, .inl fc)), (b0, .inl (kb, 480, .inl fb)), (h1, .inl (kh, 60, .inl fh)), (m1, .inl (km, 60, .inl fm))])) (va_Qi (fun (r : Int32) (u : Int32 × Int32 × (Nat → Int32) × (Nat → Int32) × (Nat → Int32)) => match u with | (bx, ox, bo, ho, mo) => True) (fun (u : Int32 × Int32 × (Nat → Int32) × (Nat → Int32) × (Nat → Int32)) (t : State) => match u with | (bx, ox, bo, ho, mo) => va_P (dC, dI) vwCl [(h0, .inr (5, [.ref c0, .ref b0, .ref h1, .ref m1, .int (nI w), .int (nI z), .int ch, .int bx, .int ox])), (c0, .inl (kc, 480, .inl fc)), (b0, .inl (kb, 480, .inl bo)), (h1, .inl (kh, 60, .inl ho)), (m1, .inl (km, 60, .inl mo))] t.heap ∧ va_D (va_A [(h0, .inr (5, [.ref c0, .ref b0, .ref h1, .ref m1, .int (nI w), .int (nI z), .int ch, .int bw, .int ot])), (c0, .inl (kc, 480, .inl fc)), (b0, .inl (kb, 480, .inl fb)), (h1, .inl (kh, 60, .inl fh)), (m1, .inl (km, 60, .inl fm))] sz) [(h0, .inr (5, [.ref c0, .ref b0, .ref h1, .ref m1, .int (nI w), .int (nI z), .int ch, .int bx, .int ox])), (c0, .inl (kc, 480, .inl fc)), (b0, .inl (kb, 480, .inl bo)), (h1, .inl (kh, 60, .inl ho)), (m1, .inl (km, 60, .inl mo))]) (va_A [(h0, .inr (5, [.ref c0, .ref b0, .ref h1, .ref m1, .int (nI w), .int (nI z), .int ch, .int bw, .int ot])), (c0, .inl (kc, 480, .inl fc)), (b0, .inl (kb, 480, .inl fb)), (h1, .inl (kh, 60, .inl fh)), (m1, .inl (km, 60, .inl fm))] sz)) 0 0 (va_A [(h0, .inr (5, [.ref c0, .ref b0, .ref h1, .ref m1, .int (nI w), .int (nI z), .int ch, .int bw, .int ot])), (c0, .inl (kc, 480, .inl fc)), (b0, .inl (kb, 480, .inl fb)), (h1, .inl (kh, 60, .inl fh)), (m1, .inl (km, 60, .inl fm))] sz) := by
  refine Met.ofW (cc := cX5_alikeForEachEnd) (maxL := 3) (ret := (some .int)) (by decide) rfl ?_
  intro p e s m args below meth c s₁ B hml hv
  obtain ⟨rfl, hsz, hP, hK, hD0⟩ := hv
  have hx := B.exec
  have hb := B.bytes
  have hr := B.returns
  have hts := atoms_spec (ws := wsX5_alikeForEachEnd) B.pre
  have hown : s.vm.findClass RX5 = some m.cls := findClass_of_methodNamed B.named
  have hlocks := B.notSynchronized
  subst hsz
  have hD := hD0.self (sz := s.heap.size)
  clear hD0
  generalize hAe : va_A [(h0, .inr (5, [.ref c0, .ref b0, .ref h1, .ref m1, .int (nI w), .int (nI z), .int ch, .int bw, .int ot])), (c0, .inl (kc, 480, .inl fc)), (b0, .inl (kb, 480, .inl fb)), (h1, .inl (kh, 60, .inl fh)), (m1, .inl (km, 60, .inl fm))] s.heap.size = A at hD ⊢
  have hA : ∀ q : Nat, s.heap.size ≤ q → A q := fun q h => by rw [← hAe]; exact Or.inr h
  clear hAe
  have hS : va_S A s.heap s.heap [] := va_S.rf
  replace hP : va_P (dC, dI) vwCl [(h0, .inr (5, [.ref c0, .ref b0, .ref h1, .ref m1, .int (nI w), .int (nI z), .int ch, .int bw, .int ot])), (c0, .inl (kc, 480, .inl fc)), (b0, .inl (kb, 480, .inl fb)), (h1, .inl (kh, 60, .inl fh)), (m1, .inl (km, 60, .inl fm))] s.heap := hP
  have hl := lv_entry ([.ref h0]) (n := 3) (Nat.le_of_ble_eq_true rfl)
  rw [lg_entry_eq]
  generalize (lg_sl ([.ref h0]) ++ List.replicate (3 - (lg_sl ([.ref h0])).length) Slot.unset).toArray = ls at hl ⊢
  replace hl : lv_has ls 3 [(0, .ref h0)] := hl
  have hi_X5 : ∀ w ∈ wsX50, w ∈ wsX5_alikeForEachEnd := by decide +kernel
  have k_f24 := hts (.fieldLink RX5 24 "TongueTeller$Way" "words" "I") (by decide +kernel)
  have k_f28 := hts (.fieldLink RX5 28 "TongueTeller$Way" "tongues" "I") (by decide +kernel)
  have k_f18 := hts (.fieldLink RX5 18 "TongueTeller$Way" "chosen" "[I") (by decide +kernel)
  have k_f21 := hts (.fieldLink RX5 21 "TongueTeller$Way" "compared" "[I") (by decide +kernel)
  refine lv_aload_n hx hb dX5_alikeForEachEnd_0 rfl (lv_at hl 0 rfl) ?_
  refine va_get (D := (dC, dI)) (ci := 5) (v := .int (nI w)) (C := RX5) (T := TX5) (N := 9) hx hb hts hi_X5 hown hK hP 0 rfl rfl 4 (by decide) k_f24 (fun _ h9 => h9) rfl dX5_alikeForEachEnd_1 ?_
  refine lv_istore_n (lv' := [(1, .int (nI w)), (0, .ref h0)]) hx hb dX5_alikeForEachEnd_4 rfl hl (by decide) rfl (fun ls hl => ?_)
  refine lv_iconst (v := 0) hx hb dX5_alikeForEachEnd_5 (by decide) ?_
  refine lv_istore_n (lv' := [(2, .int 0), (1, .int (nI w)), (0, .ref h0)]) hx hb dX5_alikeForEachEnd_6 rfl hl (by decide) rfl (fun ls hl => ?_)
  obtain ⟨locs, hlo⟩ : ∃ q : List Loc, q = [] := ⟨_, rfl⟩
  obtain ⟨H, hH⟩ : ∃ q : Heap, q = s.heap := ⟨_, rfl⟩
  rw [← hH, ← hlo]
  replace hS : va_S A s.heap H locs := by rw [hH, hlo]; exact hS
  replace hP : va_P (dC, dI) vwCl [(h0, .inr (5, [.ref c0, .ref b0, .ref h1, .ref m1, .int (nI w), .int (nI z), .int ch, .int bw, .int ot])), (c0, .inl (kc, 480, .inl fc)), (b0, .inl (kb, 480, .inl fb)), (h1, .inl (kh, 60, .inl fh)), (m1, .inl (km, 60, .inl fm))] H := by rw [hH]; exact hP
  clear hH hlo
  obtain ⟨al, e_al⟩ : ∃ y : Nat, y = w := ⟨_, rfl⟩
  obtain ⟨ee, e_ee⟩ : ∃ y : Nat, y = 0 := ⟨_, rfl⟩
  obtain ⟨bq, e_bq⟩ : ∃ y : Int32, y = bw := ⟨_, rfl⟩
  obtain ⟨oq, e_oq⟩ : ∃ y : Int32, y = ot := ⟨_, rfl⟩
  obtain ⟨fq, e_fq⟩ : ∃ y : Nat → Int32, y = fb := ⟨_, rfl⟩
  obtain ⟨hq, e_hq⟩ : ∃ y : Nat → Int32, y = fh := ⟨_, rfl⟩
  obtain ⟨mq, e_mq⟩ : ∃ y : Nat → Int32, y = fm := ⟨_, rfl⟩
  replace hl : lv_has ls 3 [(0, .ref h0), (1, .int (nI al)), (2, .int (nI ee))] := by subst e_al; subst e_ee; subst e_bq; subst e_oq; subst e_fq; subst e_hq; subst e_mq; exact lv_sub hl [2, 1, 0] rfl
  replace hP : va_P (dC, dI) vwCl [(h0, .inr (5, [.ref c0, .ref b0, .ref h1, .ref m1, .int (nI w), .int (nI z), .int ch, .int bq, .int oq])), (c0, .inl (kc, 480, .inl fc)), (b0, .inl (kb, 480, .inl fq)), (h1, .inl (kh, 60, .inl hq)), (m1, .inl (km, 60, .inl mq))] H := by subst e_al; subst e_ee; subst e_bq; subst e_oq; subst e_fq; subst e_hq; subst e_mq; exact hP
  replace hD : va_D A [(h0, .inr (5, [.ref c0, .ref b0, .ref h1, .ref m1, .int (nI w), .int (nI z), .int ch, .int bq, .int oq])), (c0, .inl (kc, 480, .inl fc)), (b0, .inl (kb, 480, .inl fq)), (h1, .inl (kh, 60, .inl hq)), (m1, .inl (km, 60, .inl mq))] := by subst e_al; subst e_ee; subst e_bq; subst e_oq; subst e_fq; subst e_hq; subst e_mq; exact hD
  have he1 : ee ≤ z := by subst e_al; subst e_ee; subst e_bq; subst e_oq; subst e_fq; subst e_hq; subst e_mq; omega
  have hal : al ≤ w := by subst e_al; subst e_ee; subst e_bq; subst e_oq; subst e_fq; subst e_hq; subst e_mq; omega
  clear e_al e_ee e_bq e_oq e_fq e_hq e_mq
  obtain ⟨nn7, hnn7⟩ : ∃ q : Nat, z - ee < q := ⟨_, Nat.lt_succ_self _⟩
  induction nn7 generalizing al ee bq oq fq hq mq H locs ls with
  | zero => exact absurd hnn7 (Nat.not_lt_zero _)
  | succ nn7 ih7 =>
    refine lv_iload_n hx hb dX5_alikeForEachEnd_7 rfl (lv_at hl 2 rfl) ?_
    refine lv_aload_n hx hb dX5_alikeForEachEnd_8 rfl (lv_at hl 0 rfl) ?_
    refine va_get (D := (dC, dI)) (ci := 5) (v := .int (nI z)) (C := RX5) (T := TX5) (N := 9) hx hb hts hi_X5 hown hK hP 0 rfl rfl 5 (by decide) k_f28 (fun _ h9 => h9) rfl dX5_alikeForEachEnd_9 ?_
    refine lv_icmp_ge (tgt := 66) hx hb dX5_alikeForEachEnd_12 (by decide) (fun c_12 => ?_) (fun c_12 => ?_)
    · have n_12 : z ≤ ee := (nI_leI (a := z) (b := ee) (by omega) (by omega)).mp c_12
      refine lv_iload_n hx hb dX5_alikeForEachEnd_66 rfl (lv_at hl 1 rfl) ?_
      have hP9 := hP.sub (ws' := [(h0, .inr (5, [.ref c0, .ref b0, .ref h1, .ref m1, .int (nI w), .int (nI z), .int ch, .int bq, .int oq])), (c0, .inl (kc, 480, .inl fc)), (b0, .inl (kb, 480, .inl fq)), (h1, .inl (kh, 60, .inl hq)), (m1, .inl (km, 60, .inl mq))]) [0, 1, 2, 3, 4] rfl
      have hD9 := hD.sub (ws' := [(h0, .inr (5, [.ref c0, .ref b0, .ref h1, .ref m1, .int (nI w), .int (nI z), .int ch, .int bq, .int oq])), (c0, .inl (kc, 480, .inl fc)), (b0, .inl (kb, 480, .inl fq)), (h1, .inl (kh, 60, .inl hq)), (m1, .inl (km, 60, .inl mq))]) [0, 1, 2, 3, 4] (by decide) rfl
      exact W.iret (v := nI al) hx hb hr (fun t ht hW => ⟨⟨nI al, (bq, oq, fq, hq, mq), rfl, trivial, by rw [ht]; exact hP9, hD9⟩, hS.F ht⟩) hS.2.2 dX5_alikeForEachEnd_67
    · have n_12 : ee < z := Nat.not_le.mp (fun h9 => c_12 ((nI_leI (a := z) (b := ee) (by omega) (by omega)).mpr h9))
      refine lv_aload_n hx hb dX5_alikeForEachEnd_15 rfl (lv_at hl 0 rfl) ?_
      refine lv_aload_n hx hb dX5_alikeForEachEnd_16 rfl (lv_at hl 0 rfl) ?_
      refine va_get (D := (dC, dI)) (ci := 5) (v := .int (nI w)) (C := RX5) (T := TX5) (N := 9) hx hb hts hi_X5 hown hK hP 0 rfl rfl 4 (by decide) k_f24 (fun _ h9 => h9) rfl dX5_alikeForEachEnd_17 ?_
      refine lv_iconst (v := 1) hx hb dX5_alikeForEachEnd_20 (by decide) ?_
      refine lv_isub hx hb dX5_alikeForEachEnd_21 ?_
      refine lv_iconst (v := 1) hx hb dX5_alikeForEachEnd_22 (by decide) ?_
      refine lv_iload_n hx hb dX5_alikeForEachEnd_23 rfl (lv_at hl 2 rfl) ?_
      refine lv_ishl hx hb dX5_alikeForEachEnd_24 ?_
      have hPc := hP.sub (ws' := [(h0, .inr (5, [.ref c0, .ref b0, .ref h1, .ref m1, .int (nI w), .int (nI z), .int ch, .int bq, .int oq]))]) [0] rfl
      have hDc := hD.sub (ws' := [(h0, .inr (5, [.ref c0, .ref b0, .ref h1, .ref m1, .int (nI w), .int (nI z), .int ch, .int bq, .int oq]))]) [0] (by decide) rfl
      have hKc := hK.sub (tys' := []) [] rfl
      have hFc := va_free (wc := [(h0, .inr (5, [.ref c0, .ref b0, .ref h1, .ref m1, .int (nI w), .int (nI z), .int ch, .int bq, .int oq]))]) hD hS hA [0] rfl
      refine va_callv (va_runV (As := [.int ((nI w) - 1), .int (1 <<< ((nI ee) &&& 31))]) (rest := []) ⟨hx, hb, hml, hown, hts⟩ (g_X5_leaveOpen l dC dI h0 c0 b0 h1 m1 w z ch bq oq ((nI w) - 1) (1 <<< ((nI ee) &&& 31)) H.size) (cwV 2 hts gX5_alikeForEachEnd_X5_leaveOpen rfl rfl rfl (by decide +kernel) ⟨Nat.le_of_ble_eq_true rfl, Nat.le_of_ble_eq_true rfl⟩) ⟨fun a U g mk q => by obtain ⟨q0, q1, qP, qK, qD⟩ := q; exact ⟨q0, q1, qP, va_K.moved (u := U) (U := U.calling g mk a) (Vm.Alike.refl U.vm) qK, qD⟩, va_recv hK hP (ci := 5) (q0 := 0) rfl rfl, fun U hU hW => ⟨rfl, by rw [hU], by rw [hU]; exact hPc, va_K.moved hW.alike hKc, hDc.weaken (fun _ _ _ _ => trivial)⟩⟩ rfl rfl hl.1 rfl (lv_room (Nat.le_of_ble_eq_true rfl)) dX5_alikeForEachEnd_25 ⟨Nat.le_of_ble_eq_true rfl, Nat.le_of_ble_eq_true rfl⟩) hS (fun q _ h => hFc q h) hFc (fun u t H1 locs ht hvm hw_25 hB hz1 hk1 hS => ?_)
      obtain ⟨hP1, hD1⟩ := hB
      rw [ht] at hP1
      obtain ⟨hP, hD⟩ := va_join (wr := [(c0, .inl (kc, 480, .inl fc)), (b0, .inl (kb, 480, .inl fq)), (h1, .inl (kh, 60, .inl hq)), (m1, .inl (km, 60, .inl mq))]) (w1 := [(h0, .inr (5, [.ref c0, .ref b0, .ref h1, .ref m1, .int (nI w), .int (nI z), .int ch, .int ((nI w) - 1), .int (1 <<< ((nI ee) &&& 31))]))]) hP hD [0] [1, 2, 3, 4] rfl rfl (by decide) (by decide) hk1 hFc hP1 hD1
      generalize H1 = H at hP hS ⊢
      replace hP : va_P (dC, dI) vwCl [(c0, .inl (kc, 480, .inl fc)), (b0, .inl (kb, 480, .inl fq)), (h1, .inl (kh, 60, .inl hq)), (m1, .inl (km, 60, .inl mq)), (h0, .inr (5, [.ref c0, .ref b0, .ref h1, .ref m1, .int (nI w), .int (nI z), .int ch, .int ((nI w) - 1), .int (1 <<< ((nI ee) &&& 31))]))] H := hP
      replace hD : va_D A [(c0, .inl (kc, 480, .inl fc)), (b0, .inl (kb, 480, .inl fq)), (h1, .inl (kh, 60, .inl hq)), (m1, .inl (km, 60, .inl mq)), (h0, .inr (5, [.ref c0, .ref b0, .ref h1, .ref m1, .int (nI w), .int (nI z), .int ch, .int ((nI w) - 1), .int (1 <<< ((nI ee) &&& 31))]))] := hD
      refine lv_aload_n hx hb dX5_alikeForEachEnd_28 rfl (lv_at hl 0 rfl) ?_
      have hPc := hP.sub (ws' := [(h0, .inr (5, [.ref c0, .ref b0, .ref h1, .ref m1, .int (nI w), .int (nI z), .int ch, .int ((nI w) - 1), .int (1 <<< ((nI ee) &&& 31))])), (c0, .inl (kc, 480, .inl fc)), (b0, .inl (kb, 480, .inl fq)), (h1, .inl (kh, 60, .inl hq)), (m1, .inl (km, 60, .inl mq))]) [4, 0, 1, 2, 3] rfl
      have hDc := hD.sub (ws' := [(h0, .inr (5, [.ref c0, .ref b0, .ref h1, .ref m1, .int (nI w), .int (nI z), .int ch, .int ((nI w) - 1), .int (1 <<< ((nI ee) &&& 31))])), (c0, .inl (kc, 480, .inl fc)), (b0, .inl (kb, 480, .inl fq)), (h1, .inl (kh, 60, .inl hq)), (m1, .inl (km, 60, .inl mq))]) [4, 0, 1, 2, 3] (by decide) rfl
      have hKc := hK.sub (tys' := [(kc, .int), (kb, .int), (kh, .int), (km, .int)]) [0, 1, 2, 3] rfl
      have hFc := va_free (wc := [(h0, .inr (5, [.ref c0, .ref b0, .ref h1, .ref m1, .int (nI w), .int (nI z), .int ch, .int ((nI w) - 1), .int (1 <<< ((nI ee) &&& 31))])), (c0, .inl (kc, 480, .inl fc)), (b0, .inl (kb, 480, .inl fq)), (h1, .inl (kh, 60, .inl hq)), (m1, .inl (km, 60, .inl mq))]) hD hS hA [4, 0, 1, 2, 3] rfl
      refine va_calli (va_runV (As := []) (rest := []) ⟨hx, hb, hml, hown, hts⟩ (g_X5_walk l dC dI h0 c0 b0 h1 m1 w z ch ((nI w) - 1) (1 <<< ((nI ee) &&& 31)) kc kb kh km fc fq hq mq H.size (by first | assumption | omega) (by first | assumption | omega)) (cwV 0 hts gX5_alikeForEachEnd_X5_walk rfl rfl rfl (by decide +kernel) ⟨Nat.le_of_ble_eq_true rfl, Nat.le_of_ble_eq_true rfl⟩) ⟨fun a U g mk q => by obtain ⟨q0, q1, qP, qK, qD⟩ := q; exact ⟨q0, q1, qP, va_K.moved (u := U) (U := U.calling g mk a) (Vm.Alike.refl U.vm) qK, qD⟩, va_recv hK hP (ci := 5) (q0 := 4) rfl rfl, fun U hU hW => ⟨rfl, by rw [hU], by rw [hU]; exact hPc, va_K.moved hW.alike hKc, hDc.weaken (fun _ _ _ _ => trivial)⟩⟩ rfl rfl hl.1 rfl (lv_room (Nat.le_of_ble_eq_true rfl)) dX5_alikeForEachEnd_29 ⟨Nat.le_of_ble_eq_true rfl, Nat.le_of_ble_eq_true rfl⟩) hS (fun q _ h => hFc q h) hFc (fun r_29 u t H1 locs ht hvm hw_29 hB hz1 hk1 hS => ?_)
      obtain ⟨bo_29, ho_29⟩ := u
      try dsimp only at hw_29 hB
      obtain ⟨hP1, hD1⟩ := hB
      rw [ht] at hP1
      obtain ⟨hP, hD⟩ := va_join (wr := []) (w1 := [(h0, .inr (5, [.ref c0, .ref b0, .ref h1, .ref m1, .int (nI w), .int (nI z), .int ch, .int ((nI w) - 1), .int (1 <<< ((nI ee) &&& 31))])), (c0, .inl (kc, 480, .inl fc)), (b0, .inl (kb, 480, .inl bo_29)), (h1, .inl (kh, 60, .inl ho_29)), (m1, .inl (km, 60, .inl mq))]) hP hD [4, 0, 1, 2, 3] [] rfl rfl (by decide) (by decide) hk1 hFc hP1 hD1
      generalize H1 = H at hP hS ⊢
      replace hP : va_P (dC, dI) vwCl [(h0, .inr (5, [.ref c0, .ref b0, .ref h1, .ref m1, .int (nI w), .int (nI z), .int ch, .int ((nI w) - 1), .int (1 <<< ((nI ee) &&& 31))])), (c0, .inl (kc, 480, .inl fc)), (b0, .inl (kb, 480, .inl bo_29)), (h1, .inl (kh, 60, .inl ho_29)), (m1, .inl (km, 60, .inl mq))] H := hP
      replace hD : va_D A [(h0, .inr (5, [.ref c0, .ref b0, .ref h1, .ref m1, .int (nI w), .int (nI z), .int ch, .int ((nI w) - 1), .int (1 <<< ((nI ee) &&& 31))])), (c0, .inl (kc, 480, .inl fc)), (b0, .inl (kb, 480, .inl bo_29)), (h1, .inl (kh, 60, .inl ho_29)), (m1, .inl (km, 60, .inl mq))] := hD
      refine lv_pop hx hb dX5_alikeForEachEnd_32 rfl ?_
      refine lv_iload_n hx hb dX5_alikeForEachEnd_33 rfl (lv_at hl 2 rfl) ?_
      refine lv_if_ne (tgt := 54) hx hb dX5_alikeForEachEnd_34 (by decide) (fun c_34 => ?_) (fun c_34 => ?_)
      · have n_34 : ee ≠ 0 := fun h9 => c_34 ((nI_eq (a := ee) (b := 0) (by omega) (by omega)).mpr h9)
        refine lv_aload_n hx hb dX5_alikeForEachEnd_54 rfl (lv_at hl 0 rfl) ?_
        refine lv_iload_n hx hb dX5_alikeForEachEnd_55 rfl (lv_at hl 1 rfl) ?_
        have hPc := hP.sub (ws' := [(h0, .inr (5, [.ref c0, .ref b0, .ref h1, .ref m1, .int (nI w), .int (nI z), .int ch, .int ((nI w) - 1), .int (1 <<< ((nI ee) &&& 31))])), (c0, .inl (kc, 480, .inl fc)), (b0, .inl (kb, 480, .inl bo_29)), (h1, .inl (kh, 60, .inl ho_29)), (m1, .inl (km, 60, .inl mq))]) [0, 1, 2, 3, 4] rfl
        have hKc := hK.sub (tys' := [(kc, .int), (kb, .int), (kh, .int), (km, .int)]) [0, 1, 2, 3] rfl
        refine vp_callSi (W.runV (As := [.int (nI al)]) (rest := []) ⟨hx, hb, hml, hown, hts⟩ (g_X5_firstUnlike l dC dI h0 c0 b0 h1 m1 w z ch ((nI w) - 1) (1 <<< ((nI ee) &&& 31)) kc kb kh km fc bo_29 ho_29 mq al (by first | assumption | omega) (by first | assumption | omega) (by first | assumption | omega)) (cwV 1 hts gX5_alikeForEachEnd_X5_firstUnlike rfl rfl rfl (by decide +kernel) ⟨Nat.le_of_ble_eq_true rfl, Nat.le_of_ble_eq_true rfl⟩) ⟨fun a U g mk q => by obtain ⟨q0, qP, qK⟩ := q; exact ⟨q0, qP, va_K.moved (u := U) (U := U.calling g mk a) (Vm.Alike.refl U.vm) qK⟩, va_recv hK hP (ci := 5) (q0 := 0) rfl rfl, fun U hU hW => ⟨rfl, by rw [hU]; exact hPc, va_K.moved hW.alike hKc⟩⟩ rfl rfl hl.1 rfl (lv_room (Nat.le_of_ble_eq_true rfl)) dX5_alikeForEachEnd_56 ⟨Nat.le_of_ble_eq_true rfl, Nat.le_of_ble_eq_true rfl⟩) (fun r_56 hw_56 => ?_)
        clear hPc
        obtain ⟨uo_56, hr_56, huo_56⟩ := hw_56
        obtain rfl : nI uo_56 = r_56 := Eq.symm hr_56
        refine lv_istore_n (lv' := [(1, .int (nI uo_56)), (0, .ref h0), (2, .int (nI ee))]) hx hb dX5_alikeForEachEnd_59 rfl hl (by decide) rfl (fun ls hl => ?_)
        refine lv_iinc (v := nI (ee + 1)) (lv' := [(2, .int (nI (ee + 1))), (1, .int (nI uo_56)), (0, .ref h0)]) hx hb dX5_alikeForEachEnd_60 hl (k := 2) rfl (nI_1 _) (by decide) rfl (fun ls hl => ?_)
        refine lv_goto (tgt := 7) hx hb dX5_alikeForEachEnd_63 (by decide) ?_
        replace hl : lv_has ls 3 [(0, .ref h0), (1, .int (nI uo_56)), (2, .int (nI (ee + 1)))] := lv_sub hl [2, 1, 0] rfl
        replace hP : va_P (dC, dI) vwCl [(h0, .inr (5, [.ref c0, .ref b0, .ref h1, .ref m1, .int (nI w), .int (nI z), .int ch, .int ((nI w) - 1), .int (1 <<< ((nI ee) &&& 31))])), (c0, .inl (kc, 480, .inl fc)), (b0, .inl (kb, 480, .inl bo_29)), (h1, .inl (kh, 60, .inl ho_29)), (m1, .inl (km, 60, .inl mq))] H := hP
        replace hD : va_D A [(h0, .inr (5, [.ref c0, .ref b0, .ref h1, .ref m1, .int (nI w), .int (nI z), .int ch, .int ((nI w) - 1), .int (1 <<< ((nI ee) &&& 31))])), (c0, .inl (kc, 480, .inl fc)), (b0, .inl (kb, 480, .inl bo_29)), (h1, .inl (kh, 60, .inl ho_29)), (m1, .inl (km, 60, .inl mq))] := hD
        apply ih7 (al := uo_56) (ee := ee + 1) (bq := (nI w) - 1) (oq := 1 <<< ((nI ee) &&& 31)) (fq := bo_29) (hq := ho_29) (mq := mq) <;> first | assumption | omega
      · have n_34 : ee = 0 := (nI_eq (a := ee) (b := 0) (by omega) (by omega)).mp c_34
        refine lv_aload_n hx hb dX5_alikeForEachEnd_37 rfl (lv_at hl 0 rfl) ?_
        refine va_get (D := (dC, dI)) (ci := 5) (v := .ref h1) (C := RX5) (T := TX5) (N := 9) hx hb hts hi_X5 hown hK hP 0 rfl rfl 2 (by decide) k_f18 (fun _ h9 => h9) rfl dX5_alikeForEachEnd_38 ?_
        refine lv_iconst (v := 0) hx hb dX5_alikeForEachEnd_41 (by decide) ?_
        refine lv_aload_n hx hb dX5_alikeForEachEnd_42 rfl (lv_at hl 0 rfl) ?_
        refine va_get (D := (dC, dI)) (ci := 5) (v := .ref m1) (C := RX5) (T := TX5) (N := 9) hx hb hts hi_X5 hown hK hP 0 rfl rfl 3 (by decide) k_f21 (fun _ h9 => h9) rfl dX5_alikeForEachEnd_43 ?_
        refine lv_iconst (v := 0) hx hb dX5_alikeForEachEnd_46 (by decide) ?_
        refine lv_aload_n hx hb dX5_alikeForEachEnd_47 rfl (lv_at hl 0 rfl) ?_
        refine va_get (D := (dC, dI)) (ci := 5) (v := .int (nI w)) (C := RX5) (T := TX5) (N := 9) hx hb hts hi_X5 hown hK hP 0 rfl rfl 4 (by decide) k_f24 (fun _ h9 => h9) rfl dX5_alikeForEachEnd_48 ?_
        refine va_copyi hx hb (by rw [hml]; exact hl.1.symm) hown (hts (.methodLink RX5 55 arraycopyName) (by decide +kernel)) (hts (.native arraycopyName) (by decide +kernel)) (hts (.static arraycopyName) (by decide +kernel)) (hts (.initialized "java/lang/System") (by decide +kernel)) hK hP hD hS 3 4 2 3 (ty := .int) rfl rfl rfl rfl rfl (sp := nI 0) (dp := nI 0) (n := nI w) (nI_pos (by omega)) (nI_pos (by omega)) (nI_pos (by omega)) (by rw [nI_clamp (n := 0) (by omega), nI_clamp (n := w) (by omega)]; omega) (by rw [nI_clamp (n := 0) (by omega), nI_clamp (n := w) (by omega)]; omega) (fun i _ => rfl) (Nat.le_of_ble_eq_true rfl) (Nat.le_of_ble_eq_true rfl) dX5_alikeForEachEnd_51 (fun H locs hP hD hS => ?_)
        have er_51 : va_cpy ho_29 mq (nI 0).toNatClampNeg (nI 0).toNatClampNeg (nI w).toNatClampNeg = va_cpy ho_29 mq 0 0 w := by rw [nI_clamp (n := 0) (by omega), nI_clamp (n := w) (by omega)]
        replace hP : va_P (dC, dI) vwCl [(h0, .inr (5, [.ref c0, .ref b0, .ref h1, .ref m1, .int (nI w), .int (nI z), .int ch, .int ((nI w) - 1), .int (1 <<< ((nI ee) &&& 31))])), (c0, .inl (kc, 480, .inl fc)), (b0, .inl (kb, 480, .inl bo_29)), (h1, .inl (kh, 60, .inl ho_29)), (m1, .inl (km, 60, .inl (va_cpy ho_29 mq 0 0 w)))] H := by rw [← er_51]; exact hP
        replace hD : va_D A [(h0, .inr (5, [.ref c0, .ref b0, .ref h1, .ref m1, .int (nI w), .int (nI z), .int ch, .int ((nI w) - 1), .int (1 <<< ((nI ee) &&& 31))])), (c0, .inl (kc, 480, .inl fc)), (b0, .inl (kb, 480, .inl bo_29)), (h1, .inl (kh, 60, .inl ho_29)), (m1, .inl (km, 60, .inl (va_cpy ho_29 mq 0 0 w)))] := by rw [← er_51]; exact hD
        refine lv_aload_n hx hb dX5_alikeForEachEnd_54 rfl (lv_at hl 0 rfl) ?_
        refine lv_iload_n hx hb dX5_alikeForEachEnd_55 rfl (lv_at hl 1 rfl) ?_
        have hPc := hP.sub (ws' := [(h0, .inr (5, [.ref c0, .ref b0, .ref h1, .ref m1, .int (nI w), .int (nI z), .int ch, .int ((nI w) - 1), .int (1 <<< ((nI ee) &&& 31))])), (c0, .inl (kc, 480, .inl fc)), (b0, .inl (kb, 480, .inl bo_29)), (h1, .inl (kh, 60, .inl ho_29)), (m1, .inl (km, 60, .inl (va_cpy ho_29 mq 0 0 w)))]) [0, 1, 2, 3, 4] rfl
        have hKc := hK.sub (tys' := [(kc, .int), (kb, .int), (kh, .int), (km, .int)]) [0, 1, 2, 3] rfl
        refine vp_callSi (W.runV (As := [.int (nI al)]) (rest := []) ⟨hx, hb, hml, hown, hts⟩ (g_X5_firstUnlike l dC dI h0 c0 b0 h1 m1 w z ch ((nI w) - 1) (1 <<< ((nI ee) &&& 31)) kc kb kh km fc bo_29 ho_29 (va_cpy ho_29 mq 0 0 w) al (by first | assumption | omega) (by first | assumption | omega) (by first | assumption | omega)) (cwV 1 hts gX5_alikeForEachEnd_X5_firstUnlike rfl rfl rfl (by decide +kernel) ⟨Nat.le_of_ble_eq_true rfl, Nat.le_of_ble_eq_true rfl⟩) ⟨fun a U g mk q => by obtain ⟨q0, qP, qK⟩ := q; exact ⟨q0, qP, va_K.moved (u := U) (U := U.calling g mk a) (Vm.Alike.refl U.vm) qK⟩, va_recv hK hP (ci := 5) (q0 := 0) rfl rfl, fun U hU hW => ⟨rfl, by rw [hU]; exact hPc, va_K.moved hW.alike hKc⟩⟩ rfl rfl hl.1 rfl (lv_room (Nat.le_of_ble_eq_true rfl)) dX5_alikeForEachEnd_56 ⟨Nat.le_of_ble_eq_true rfl, Nat.le_of_ble_eq_true rfl⟩) (fun r_56 hw_56 => ?_)
        clear hPc
        obtain ⟨uo_56, hr_56, huo_56⟩ := hw_56
        obtain rfl : nI uo_56 = r_56 := Eq.symm hr_56
        refine lv_istore_n (lv' := [(1, .int (nI uo_56)), (0, .ref h0), (2, .int (nI ee))]) hx hb dX5_alikeForEachEnd_59 rfl hl (by decide) rfl (fun ls hl => ?_)
        refine lv_iinc (v := nI (ee + 1)) (lv' := [(2, .int (nI (ee + 1))), (1, .int (nI uo_56)), (0, .ref h0)]) hx hb dX5_alikeForEachEnd_60 hl (k := 2) rfl (nI_1 _) (by decide) rfl (fun ls hl => ?_)
        refine lv_goto (tgt := 7) hx hb dX5_alikeForEachEnd_63 (by decide) ?_
        replace hl : lv_has ls 3 [(0, .ref h0), (1, .int (nI uo_56)), (2, .int (nI (ee + 1)))] := lv_sub hl [2, 1, 0] rfl
        replace hP : va_P (dC, dI) vwCl [(h0, .inr (5, [.ref c0, .ref b0, .ref h1, .ref m1, .int (nI w), .int (nI z), .int ch, .int ((nI w) - 1), .int (1 <<< ((nI ee) &&& 31))])), (c0, .inl (kc, 480, .inl fc)), (b0, .inl (kb, 480, .inl bo_29)), (h1, .inl (kh, 60, .inl ho_29)), (m1, .inl (km, 60, .inl (va_cpy ho_29 mq 0 0 w)))] H := hP
        replace hD : va_D A [(h0, .inr (5, [.ref c0, .ref b0, .ref h1, .ref m1, .int (nI w), .int (nI z), .int ch, .int ((nI w) - 1), .int (1 <<< ((nI ee) &&& 31))])), (c0, .inl (kc, 480, .inl fc)), (b0, .inl (kb, 480, .inl bo_29)), (h1, .inl (kh, 60, .inl ho_29)), (m1, .inl (km, 60, .inl (va_cpy ho_29 mq 0 0 w)))] := hD
        apply ih7 (al := uo_56) (ee := ee + 1) (bq := (nI w) - 1) (oq := 1 <<< ((nI ee) &&& 31)) (fq := bo_29) (hq := ho_29) (mq := va_cpy ho_29 mq 0 0 w) <;> first | assumption | omega
