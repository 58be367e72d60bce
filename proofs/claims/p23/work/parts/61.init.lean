theorem va_AOA.moved {ty : FieldType} {u U : State} (hvm : u.vm.Alike U.vm) (h : va_AOA ty u) : va_AOA ty U := by
  have e : (Cond.arrayOver (.array ty)).before #[] U = (Cond.arrayOver (.array ty)).before #[] (u.setVm U.vm) := rfl
  unfold va_AOA
  rw [e, Cond.arrayOver_setVmC hvm]
  exact h
theorem pl0_P {D : va_G} {cl : List vw_C} {ws : va_W} {H : Heap} (h : va_P D cl ws H) (f : Nat → va_E) : va_P D cl (ws ++ va_pl [] f) H := by
  rw [show va_pl [] f = [] from rfl, List.append_nil]
  exact h
theorem pl0_D {A : Nat → Prop} {ws : va_W} (h : va_D A ws) (f : Nat → va_E) : va_D A (ws ++ va_pl [] f) := by
  rw [show va_pl [] f = [] from rfl, List.append_nil]
  exact h
theorem ROWS_nil {f : Nat → va_E} {kr : ClassId} : ROWS [] f kr [] := fun a ha => absurd ha List.not_mem_nil
theorem ROWS_mna {L : List Nat} {f : Nat → va_E} {kr : ClassId} {r : Nat → Nat} {h : Nat → Int32} (h0 : ROWS L f kr L) : ROWS (L ++ (List.range 8).map r) (vr_up f ((List.range 8).map r) (.inl (kr, 60, .inl h))) kr (L ++ (List.range 8).map r) := fun a ha => by
  refine ⟨ha, ?_⟩
  by_cases hr : a ∈ (List.range 8).map r
  · rw [vr_up_in hr]; exact ⟨h, rfl⟩
  · rw [vr_up_ne hr]; exact (h0 a ((List.mem_append.mp ha).resolve_right hr)).2
theorem RA_mna {L : List Nat} {r : Nat → Nat} : RA (fun i => if i < 8 then some (r i) else none) (L ++ (List.range 8).map r) := fun i hi => ⟨r i, List.mem_append_right _ (List.mem_map.mpr ⟨i, List.mem_range.mpr hi, rfl⟩), if_pos hi⟩
theorem RD_i {r : Nat → Nat} (h : ∀ i j : Nat, i < 8 → j < 8 → r i = r j → i = j) : ∀ i j a, i < 8 → j < 8 → (fun i => if i < 8 then some (r i) else none) i = some a → (fun i => if i < 8 then some (r i) else none) j = some a → i = j := fun i j a hi hj h1 h2 => by
  have e1 : some (r i) = some a := (if_pos hi : (if i < 8 then some (r i) else none) = some (r i)).symm.trans h1
  have e2 : some (r j) = some a := (if_pos hj : (if j < 8 then some (r j) else none) = some (r j)).symm.trans h2
  exact h i j hi hj (Option.some.inj (e1.trans e2.symm))
theorem RD_m {L : List Nat} {r : Nat → Nat} : ∀ i a, i < 8 → (fun i => if i < 8 then some (r i) else none) i = some a → a ∈ L ++ (List.range 8).map r := fun i a hi h1 => by
  have e1 : some (r i) = some a := (if_pos hi : (if i < 8 then some (r i) else none) = some (r i)).symm.trans h1
  rw [← Option.some.inj e1]
  exact List.mem_append_right _ (List.mem_map.mpr ⟨i, List.mem_range.mpr hi, rfl⟩)
theorem RD_z {L : List Nat} {r : Nat → Nat} (h : ∀ i : Nat, i < 8 → r i ∉ L) : ∀ i a, i < 8 → (fun i => if i < 8 then some (r i) else none) i = some a → a ∉ L := fun i a hi h1 => by
  have e1 : some (r i) = some a := (if_pos hi : (if i < 8 then some (r i) else none) = some (r i)).symm.trans h1
  rw [← Option.some.inj e1]
  exact h i hi
theorem RA_mono {fr : Nat → Option Nat} {L M : List Nat} (h : RA fr L) : RA fr (L ++ M) := fun i hi => by
  obtain ⟨a, h1, h2⟩ := h i hi
  exact ⟨a, List.mem_append_left _ h1, h2⟩
theorem nR_0 : nR (fun _ => 0) = fun _ => 0 := by funext j; exact nI_0

set_option maxHeartbeats 4000000 in
set_option maxRecDepth 100000 in
theorem c_X1_init (l : Launch) (dC : Nat → ClassId) (dI : Nat → Nat → Nat) (h0 : Nat) (sz : Nat) : Met l yX1_init wsX1_init ({ frames := 1, cells := 1, slots := 60, locals := 12 }) (va_Pc [.ref h0] (fun U => U.heap.size = sz ∧ va_P (dC, dI) vwCl [(h0, .inr (1, [.null, .int 0, .int 0]))] U.heap ∧ va_K (dC, dI) vwCl [] U ∧ va_D (fun _ => True) [(h0, .inr (1, [.null, .int 0, .int 0]))])) (va_Qv (fun (_ : Unit) => True) (fun (_ : Unit) (t : State) => ∃ (q0 : Nat) (k0 : ClassId), va_P (dC, dI) vwCl [(h0, .inr (1, [.ref q0, .int 0, .int 0])), (q0, .inl (k0, 60, .inl (fun _ => 0)))] t.heap ∧ va_K (dC, dI) vwCl [(k0, .int)] t ∧ va_D (va_A [(h0, .inr (1, [.null, .int 0, .int 0]))] sz) [(h0, .inr (1, [.ref q0, .int 0, .int 0])), (q0, .inl (k0, 60, .inl (fun _ => 0)))]) (va_A [(h0, .inr (1, [.null, .int 0, .int 0]))] sz)) 1 60 (va_A [(h0, .inr (1, [.null, .int 0, .int 0]))] sz) := by
  refine Met.ofW (cc := cX1_init) (maxL := 1) (ret := none) (by decide) rfl ?_
  intro p e s m args below meth c s₁ B hml hv
  obtain ⟨rfl, hsz, hP, hK, hD0⟩ := hv
  have hx := B.exec
  have hb := B.bytes
  have hr := B.returns
  have hts := atoms_spec (ws := wsX1_init) B.pre
  have hown : s.vm.findClass RX1 = some m.cls := findClass_of_methodNamed B.named
  have hlocks := B.notSynchronized
  have hin : meth.name = "<init>" := (name_of_methodNamed B.named B.method).1
  subst hsz
  have hD := hD0.self (sz := s.heap.size)
  generalize hAe : va_A [(h0, .inr (1, [.null, .int 0, .int 0]))] s.heap.size = A at hD ⊢
  have hA : ∀ q : Nat, s.heap.size ≤ q → A q := fun q h => by rw [← hAe]; exact Or.inr h
  have hS : va_S A s.heap s.heap [] := va_S.rf
  replace hP : va_P (dC, dI) vwCl [(h0, .inr (1, [.null, .int 0, .int 0]))] s.heap := hP
  have hl := lv_entry ([.ref h0]) (n := 1) (Nat.le_of_ble_eq_true rfl)
  rw [lg_entry_eq]
  generalize (lg_sl ([.ref h0]) ++ List.replicate (1 - (lg_sl ([.ref h0])).length) Slot.unset).toArray = ls at hl ⊢
  replace hl : lv_has ls 1 [(0, .ref h0)] := hl
  have hi_X1 : ∀ w ∈ wsX10, w ∈ wsX1_init := by decide +kernel
  have k_f9 := hts (.fieldLink RX1 9 "TongueTeller$Parting" "row" "[I") (by decide +kernel)
  have k_f15 := hts (.fieldLink RX1 15 "TongueTeller$Parting" "size" "I") (by decide +kernel)
  have k_f19 := hts (.fieldLink RX1 19 "TongueTeller$Parting" "made" "Z") (by decide +kernel)
  refine lv_aload_n hx hb dX1_init_0 rfl (lv_at hl 0 rfl) ?_
  refine W.objInit hx hb hown (hts (.methodLink RX1 3 objectInit) (by decide +kernel)) (hts (.instanceMethod objectInit) (by decide +kernel)) (hts (.code objectInit ⟨#[0xb1]⟩ 1 none) (List.mem_of_getElem? (i := 3) rfl)) rfl (by rw [hml]; exact hl.1) rfl dX1_init_1 (Nat.le_of_ble_eq_true rfl) (Nat.le_of_ble_eq_true rfl) ?_
  refine W.eq (g2 := F0 m 4 ls []) rfl ?_
  refine lv_aload_n hx hb dX1_init_4 rfl (lv_at hl 0 rfl) ?_
  refine lv_bipush (v := 60) hx hb dX1_init_5 (by decide) ?_
  have hSo := hS
  clear hS
  refine va_newa (atype := .int) (ty := .int) (N' := 60) (a0 := (60, .inl (fun _ => 0))) hx hb (hts (.arrayClass .int) (by decide +kernel)) rfl hK hP hD hSo hA (fun _ => rfl) (by decide) (by decide +kernel) (by decide +kernel) (Nat.le_of_ble_eq_true rfl) (Nat.le_of_ble_eq_true rfl) dX1_init_7 (fun q7 cA7 H hK hP hD hS => ?_)
  clear hSo
  replace hP : va_P (dC, dI) vwCl [(h0, .inr (1, [.null, .int 0, .int 0])), (q7, .inl (cA7, 60, .inl (fun _ => 0)))] H := hP
  replace hD : va_D A [(h0, .inr (1, [.null, .int 0, .int 0])), (q7, .inl (cA7, 60, .inl (fun _ => 0)))] := hD
  have hK : va_K (dC, dI) vwCl [(cA7, .int)] s := hK
  refine W.widen (k := 1) (n := 60) (by omega) (by omega) ?_
  refine va_putF (D := (dC, dI)) (ci := 1) (v := .ref q7) (ty := .array .int) (C := RX1) (T := TX1) (N := 3) hx hb hts hi_X1 tyX1 tyX1_ok nmX1 hown hK hP hD hS 0 rfl rfl 0 (by decide) k_f9 (fun _ h9 => h9) rfl hin rfl (by decide +kernel) rfl rfl (Nat.le_of_ble_eq_true rfl) dX1_init_9 (fun H locs hP hD hS => ?_)
  replace hP : va_P (dC, dI) vwCl [(h0, .inr (1, [.ref q7, .int 0, .int 0])), (q7, .inl (cA7, 60, .inl (fun _ => 0)))] H := hP
  replace hD : va_D A [(h0, .inr (1, [.ref q7, .int 0, .int 0])), (q7, .inl (cA7, 60, .inl (fun _ => 0)))] := hD
  refine lv_aload_n hx hb dX1_init_12 rfl (lv_at hl 0 rfl) ?_
  refine lv_iconst (v := 0) hx hb dX1_init_13 (by decide) ?_
  refine va_put (D := (dC, dI)) (ci := 1) (v := .int 0) (ty := .int) (C := RX1) (T := TX1) (N := 3) hx hb hts hi_X1 tyX1 tyX1_ok nmX1 hown hK hP hD hS 0 rfl rfl 1 (by decide) k_f15 (fun _ h9 => h9) rfl (by decide +kernel) rfl rfl (Nat.le_of_ble_eq_true rfl) dX1_init_14 (fun H locs hP hD hS => ?_)
  replace hP : va_P (dC, dI) vwCl [(h0, .inr (1, [.ref q7, .int 0, .int 0])), (q7, .inl (cA7, 60, .inl (fun _ => 0)))] H := hP
  replace hD : va_D A [(h0, .inr (1, [.ref q7, .int 0, .int 0])), (q7, .inl (cA7, 60, .inl (fun _ => 0)))] := hD
  refine lv_aload_n hx hb dX1_init_17 rfl (lv_at hl 0 rfl) ?_
  refine lv_iconst (v := 0) hx hb dX1_init_18 (by decide) ?_
  refine va_put (D := (dC, dI)) (ci := 1) (v := .int 0) (ty := .boolean) (C := RX1) (T := TX1) (N := 3) hx hb hts hi_X1 tyX1 tyX1_ok nmX1 hown hK hP hD hS 0 rfl rfl 2 (by decide) k_f19 (fun _ h9 => h9) rfl (by decide +kernel) rfl rfl (Nat.le_of_ble_eq_true rfl) dX1_init_19 (fun H locs hP hD hS => ?_)
  replace hP : va_P (dC, dI) vwCl [(h0, .inr (1, [.ref q7, .int 0, .int 0])), (q7, .inl (cA7, 60, .inl (fun _ => 0)))] H := hP
  replace hD : va_D A [(h0, .inr (1, [.ref q7, .int 0, .int 0])), (q7, .inl (cA7, 60, .inl (fun _ => 0)))] := hD
  have hP9 := hP.sub (ws' := [(h0, .inr (1, [.ref q7, .int 0, .int 0])), (q7, .inl (cA7, 60, .inl (fun _ => 0)))]) [0, 1] rfl
  have hD9 := hD.sub (ws' := [(h0, .inr (1, [.ref q7, .int 0, .int 0])), (q7, .inl (cA7, 60, .inl (fun _ => 0)))]) [0, 1] (by decide) rfl
  have hK9 := hK.sub (tys' := [(cA7, .int)]) [0] rfl
  refine W.widen (k := 1) (n := 60) (Nat.le_of_ble_eq_true rfl) (Nat.le_of_ble_eq_true rfl) ?_
  exact W.vret hx hb hr (fun t ht hW => ⟨⟨(), rfl, trivial, q7, cA7, by rw [ht]; exact hP9, va_K.moved hW.alike hK9, hD9⟩, hS.F ht⟩) hS.2.2 dX1_init_22

set_option maxHeartbeats 4000000 in
set_option maxRecDepth 100000 in
theorem c_X2_init (l : Launch) (dC : Nat → ClassId) (dI : Nat → Nat → Nat) (h0 : Nat) (sz : Nat) : Met l yX2_init wsX2_init ({ frames := 1, cells := 3, slots := 720, locals := 12 }) (va_Pc [.ref h0] (fun U => U.heap.size = sz ∧ va_P (dC, dI) vwCl [(h0, .inr (2, [.null, .null, .null, .int 0, .int 0]))] U.heap ∧ va_K (dC, dI) vwCl [] U ∧ va_D (fun _ => True) [(h0, .inr (2, [.null, .null, .null, .int 0, .int 0]))])) (va_Qv (fun (_ : Unit) => True) (fun (_ : Unit) (t : State) => ∃ (q0 q1 q2 : Nat) (k0 k1 k2 : ClassId), va_P (dC, dI) vwCl [(h0, .inr (2, [.ref q0, .ref q1, .ref q2, .int 0, .int 0])), (q0, .inl (k0, 600, .inl (fun _ => 0))), (q1, .inl (k1, 60, .inl (fun _ => 0))), (q2, .inl (k2, 60, .inl (fun _ => 0)))] t.heap ∧ va_K (dC, dI) vwCl [(k0, .byte), (k1, .int), (k2, .int)] t ∧ va_D (va_A [(h0, .inr (2, [.null, .null, .null, .int 0, .int 0]))] sz) [(h0, .inr (2, [.ref q0, .ref q1, .ref q2, .int 0, .int 0])), (q0, .inl (k0, 600, .inl (fun _ => 0))), (q1, .inl (k1, 60, .inl (fun _ => 0))), (q2, .inl (k2, 60, .inl (fun _ => 0)))]) (va_A [(h0, .inr (2, [.null, .null, .null, .int 0, .int 0]))] sz)) 3 720 (va_A [(h0, .inr (2, [.null, .null, .null, .int 0, .int 0]))] sz) := by
  refine Met.ofW (cc := cX2_init) (maxL := 1) (ret := none) (by decide) rfl ?_
  intro p e s m args below meth c s₁ B hml hv
  obtain ⟨rfl, hsz, hP, hK, hD0⟩ := hv
  have hx := B.exec
  have hb := B.bytes
  have hr := B.returns
  have hts := atoms_spec (ws := wsX2_init) B.pre
  have hown : s.vm.findClass RX2 = some m.cls := findClass_of_methodNamed B.named
  have hlocks := B.notSynchronized
  have hin : meth.name = "<init>" := (name_of_methodNamed B.named B.method).1
  subst hsz
  have hD := hD0.self (sz := s.heap.size)
  generalize hAe : va_A [(h0, .inr (2, [.null, .null, .null, .int 0, .int 0]))] s.heap.size = A at hD ⊢
  have hA : ∀ q : Nat, s.heap.size ≤ q → A q := fun q h => by rw [← hAe]; exact Or.inr h
  have hS : va_S A s.heap s.heap [] := va_S.rf
  replace hP : va_P (dC, dI) vwCl [(h0, .inr (2, [.null, .null, .null, .int 0, .int 0]))] s.heap := hP
  have hl := lv_entry ([.ref h0]) (n := 1) (Nat.le_of_ble_eq_true rfl)
  rw [lg_entry_eq]
  generalize (lg_sl ([.ref h0]) ++ List.replicate (1 - (lg_sl ([.ref h0])).length) Slot.unset).toArray = ls at hl ⊢
  replace hl : lv_has ls 1 [(0, .ref h0)] := hl
  have hi_X2 : ∀ w ∈ wsX20, w ∈ wsX2_init := by decide +kernel
  have k_f9 := hts (.fieldLink RX2 9 "TongueTeller$Script" "signs" "[B") (by decide +kernel)
  have k_f15 := hts (.fieldLink RX2 15 "TongueTeller$Script" "starts" "[I") (by decide +kernel)
  have k_f19 := hts (.fieldLink RX2 19 "TongueTeller$Script" "lengths" "[I") (by decide +kernel)
  have k_f22 := hts (.fieldLink RX2 22 "TongueTeller$Script" "size" "I") (by decide +kernel)
  have k_f26 := hts (.fieldLink RX2 26 "TongueTeller$Script" "words" "I") (by decide +kernel)
  refine lv_aload_n hx hb dX2_init_0 rfl (lv_at hl 0 rfl) ?_
  refine W.objInit hx hb hown (hts (.methodLink RX2 3 objectInit) (by decide +kernel)) (hts (.instanceMethod objectInit) (by decide +kernel)) (hts (.code objectInit ⟨#[0xb1]⟩ 1 none) (List.mem_of_getElem? (i := 3) rfl)) rfl (by rw [hml]; exact hl.1) rfl dX2_init_1 (Nat.le_of_ble_eq_true rfl) (Nat.le_of_ble_eq_true rfl) ?_
  refine W.eq (g2 := F0 m 4 ls []) rfl ?_
  refine lv_aload_n hx hb dX2_init_4 rfl (lv_at hl 0 rfl) ?_
  refine lv_sipush (v := 600) hx hb dX2_init_5 (by decide) ?_
  have hSo := hS
  clear hS
  refine va_newa (atype := .byte) (ty := .byte) (N' := 600) (a0 := (600, .inl (fun _ => 0))) hx hb (hts (.arrayClass .byte) (by decide +kernel)) rfl hK hP hD hSo hA (fun _ => rfl) (by decide) (by decide +kernel) (by decide +kernel) (Nat.le_of_ble_eq_true rfl) (Nat.le_of_ble_eq_true rfl) dX2_init_8 (fun q8 cA8 H hK hP hD hS => ?_)
  clear hSo
  replace hP : va_P (dC, dI) vwCl [(h0, .inr (2, [.null, .null, .null, .int 0, .int 0])), (q8, .inl (cA8, 600, .inl (fun _ => 0)))] H := hP
  replace hD : va_D A [(h0, .inr (2, [.null, .null, .null, .int 0, .int 0])), (q8, .inl (cA8, 600, .inl (fun _ => 0)))] := hD
  have hK : va_K (dC, dI) vwCl [(cA8, .byte)] s := hK
  refine W.widen (k := 1) (n := 600) (by omega) (by omega) ?_
  refine va_putF (D := (dC, dI)) (ci := 2) (v := .ref q8) (ty := .array .byte) (C := RX2) (T := TX2) (N := 5) hx hb hts hi_X2 tyX2 tyX2_ok nmX2 hown hK hP hD hS 0 rfl rfl 0 (by decide) k_f9 (fun _ h9 => h9) rfl hin rfl (by decide +kernel) rfl rfl (Nat.le_of_ble_eq_true rfl) dX2_init_10 (fun H locs hP hD hS => ?_)
  replace hP : va_P (dC, dI) vwCl [(h0, .inr (2, [.ref q8, .null, .null, .int 0, .int 0])), (q8, .inl (cA8, 600, .inl (fun _ => 0)))] H := hP
  replace hD : va_D A [(h0, .inr (2, [.ref q8, .null, .null, .int 0, .int 0])), (q8, .inl (cA8, 600, .inl (fun _ => 0)))] := hD
  refine lv_aload_n hx hb dX2_init_13 rfl (lv_at hl 0 rfl) ?_
  refine lv_bipush (v := 60) hx hb dX2_init_14 (by decide) ?_
  have hSo := hS
  clear hS
  refine va_newa (atype := .int) (ty := .int) (N' := 60) (a0 := (60, .inl (fun _ => 0))) hx hb (hts (.arrayClass .int) (by decide +kernel)) rfl hK hP hD hSo hA (fun _ => rfl) (by decide) (by decide +kernel) (by decide +kernel) (Nat.le_of_ble_eq_true rfl) (Nat.le_of_ble_eq_true rfl) dX2_init_16 (fun q16 cA16 H hK hP hD hS => ?_)
  clear hSo
  replace hP : va_P (dC, dI) vwCl [(h0, .inr (2, [.ref q8, .null, .null, .int 0, .int 0])), (q8, .inl (cA8, 600, .inl (fun _ => 0))), (q16, .inl (cA16, 60, .inl (fun _ => 0)))] H := hP
  replace hD : va_D A [(h0, .inr (2, [.ref q8, .null, .null, .int 0, .int 0])), (q8, .inl (cA8, 600, .inl (fun _ => 0))), (q16, .inl (cA16, 60, .inl (fun _ => 0)))] := hD
  have hK : va_K (dC, dI) vwCl [(cA8, .byte), (cA16, .int)] s := hK
  refine W.widen (k := 2) (n := 660) (by omega) (by omega) ?_
  refine va_putF (D := (dC, dI)) (ci := 2) (v := .ref q16) (ty := .array .int) (C := RX2) (T := TX2) (N := 5) hx hb hts hi_X2 tyX2 tyX2_ok nmX2 hown hK hP hD hS 0 rfl rfl 1 (by decide) k_f15 (fun _ h9 => h9) rfl hin rfl (by decide +kernel) rfl rfl (Nat.le_of_ble_eq_true rfl) dX2_init_18 (fun H locs hP hD hS => ?_)
  replace hP : va_P (dC, dI) vwCl [(h0, .inr (2, [.ref q8, .ref q16, .null, .int 0, .int 0])), (q8, .inl (cA8, 600, .inl (fun _ => 0))), (q16, .inl (cA16, 60, .inl (fun _ => 0)))] H := hP
  replace hD : va_D A [(h0, .inr (2, [.ref q8, .ref q16, .null, .int 0, .int 0])), (q8, .inl (cA8, 600, .inl (fun _ => 0))), (q16, .inl (cA16, 60, .inl (fun _ => 0)))] := hD
  refine lv_aload_n hx hb dX2_init_21 rfl (lv_at hl 0 rfl) ?_
  refine lv_bipush (v := 60) hx hb dX2_init_22 (by decide) ?_
  have hSo := hS
  clear hS
  refine va_newa (atype := .int) (ty := .int) (N' := 60) (a0 := (60, .inl (fun _ => 0))) hx hb (hts (.arrayClass .int) (by decide +kernel)) rfl hK hP hD hSo hA (fun _ => rfl) (by decide) (by decide +kernel) (by decide +kernel) (Nat.le_of_ble_eq_true rfl) (Nat.le_of_ble_eq_true rfl) dX2_init_24 (fun q24 cA24 H hK hP hD hS => ?_)
  clear hSo
  replace hP : va_P (dC, dI) vwCl [(h0, .inr (2, [.ref q8, .ref q16, .null, .int 0, .int 0])), (q8, .inl (cA8, 600, .inl (fun _ => 0))), (q16, .inl (cA16, 60, .inl (fun _ => 0))), (q24, .inl (cA24, 60, .inl (fun _ => 0)))] H := hP
  replace hD : va_D A [(h0, .inr (2, [.ref q8, .ref q16, .null, .int 0, .int 0])), (q8, .inl (cA8, 600, .inl (fun _ => 0))), (q16, .inl (cA16, 60, .inl (fun _ => 0))), (q24, .inl (cA24, 60, .inl (fun _ => 0)))] := hD
  have hK : va_K (dC, dI) vwCl [(cA8, .byte), (cA16, .int), (cA24, .int)] s := hK
  refine W.widen (k := 3) (n := 720) (by omega) (by omega) ?_
  refine va_putF (D := (dC, dI)) (ci := 2) (v := .ref q24) (ty := .array .int) (C := RX2) (T := TX2) (N := 5) hx hb hts hi_X2 tyX2 tyX2_ok nmX2 hown hK hP hD hS 0 rfl rfl 2 (by decide) k_f19 (fun _ h9 => h9) rfl hin rfl (by decide +kernel) rfl rfl (Nat.le_of_ble_eq_true rfl) dX2_init_26 (fun H locs hP hD hS => ?_)
  replace hP : va_P (dC, dI) vwCl [(h0, .inr (2, [.ref q8, .ref q16, .ref q24, .int 0, .int 0])), (q8, .inl (cA8, 600, .inl (fun _ => 0))), (q16, .inl (cA16, 60, .inl (fun _ => 0))), (q24, .inl (cA24, 60, .inl (fun _ => 0)))] H := hP
  replace hD : va_D A [(h0, .inr (2, [.ref q8, .ref q16, .ref q24, .int 0, .int 0])), (q8, .inl (cA8, 600, .inl (fun _ => 0))), (q16, .inl (cA16, 60, .inl (fun _ => 0))), (q24, .inl (cA24, 60, .inl (fun _ => 0)))] := hD
  refine lv_aload_n hx hb dX2_init_29 rfl (lv_at hl 0 rfl) ?_
  refine lv_iconst (v := 0) hx hb dX2_init_30 (by decide) ?_
  refine va_put (D := (dC, dI)) (ci := 2) (v := .int 0) (ty := .int) (C := RX2) (T := TX2) (N := 5) hx hb hts hi_X2 tyX2 tyX2_ok nmX2 hown hK hP hD hS 0 rfl rfl 3 (by decide) k_f22 (fun _ h9 => h9) rfl (by decide +kernel) rfl rfl (Nat.le_of_ble_eq_true rfl) dX2_init_31 (fun H locs hP hD hS => ?_)
  replace hP : va_P (dC, dI) vwCl [(h0, .inr (2, [.ref q8, .ref q16, .ref q24, .int 0, .int 0])), (q8, .inl (cA8, 600, .inl (fun _ => 0))), (q16, .inl (cA16, 60, .inl (fun _ => 0))), (q24, .inl (cA24, 60, .inl (fun _ => 0)))] H := hP
  replace hD : va_D A [(h0, .inr (2, [.ref q8, .ref q16, .ref q24, .int 0, .int 0])), (q8, .inl (cA8, 600, .inl (fun _ => 0))), (q16, .inl (cA16, 60, .inl (fun _ => 0))), (q24, .inl (cA24, 60, .inl (fun _ => 0)))] := hD
  refine lv_aload_n hx hb dX2_init_34 rfl (lv_at hl 0 rfl) ?_
  refine lv_iconst (v := 0) hx hb dX2_init_35 (by decide) ?_
  refine va_put (D := (dC, dI)) (ci := 2) (v := .int 0) (ty := .int) (C := RX2) (T := TX2) (N := 5) hx hb hts hi_X2 tyX2 tyX2_ok nmX2 hown hK hP hD hS 0 rfl rfl 4 (by decide) k_f26 (fun _ h9 => h9) rfl (by decide +kernel) rfl rfl (Nat.le_of_ble_eq_true rfl) dX2_init_36 (fun H locs hP hD hS => ?_)
  replace hP : va_P (dC, dI) vwCl [(h0, .inr (2, [.ref q8, .ref q16, .ref q24, .int 0, .int 0])), (q8, .inl (cA8, 600, .inl (fun _ => 0))), (q16, .inl (cA16, 60, .inl (fun _ => 0))), (q24, .inl (cA24, 60, .inl (fun _ => 0)))] H := hP
  replace hD : va_D A [(h0, .inr (2, [.ref q8, .ref q16, .ref q24, .int 0, .int 0])), (q8, .inl (cA8, 600, .inl (fun _ => 0))), (q16, .inl (cA16, 60, .inl (fun _ => 0))), (q24, .inl (cA24, 60, .inl (fun _ => 0)))] := hD
  have hP9 := hP.sub (ws' := [(h0, .inr (2, [.ref q8, .ref q16, .ref q24, .int 0, .int 0])), (q8, .inl (cA8, 600, .inl (fun _ => 0))), (q16, .inl (cA16, 60, .inl (fun _ => 0))), (q24, .inl (cA24, 60, .inl (fun _ => 0)))]) [0, 1, 2, 3] rfl
  have hD9 := hD.sub (ws' := [(h0, .inr (2, [.ref q8, .ref q16, .ref q24, .int 0, .int 0])), (q8, .inl (cA8, 600, .inl (fun _ => 0))), (q16, .inl (cA16, 60, .inl (fun _ => 0))), (q24, .inl (cA24, 60, .inl (fun _ => 0)))]) [0, 1, 2, 3] (by decide) rfl
  have hK9 := hK.sub (tys' := [(cA8, .byte), (cA16, .int), (cA24, .int)]) [0, 1, 2] rfl
  refine W.widen (k := 3) (n := 720) (Nat.le_of_ble_eq_true rfl) (Nat.le_of_ble_eq_true rfl) ?_
  exact W.vret hx hb hr (fun t ht hW => ⟨⟨(), rfl, trivial, q8, q16, q24, cA8, cA16, cA24, by rw [ht]; exact hP9, va_K.moved hW.alike hK9, hD9⟩, hS.F ht⟩) hS.2.2 dX2_init_39

set_option maxHeartbeats 4000000 in
set_option maxRecDepth 100000 in
theorem c_X3_init (l : Launch) (dC : Nat → ClassId) (dI : Nat → Nat → Nat) (h0 : Nat) (sz : Nat) : Met l yX3_init wsX3_init ({ frames := 1, cells := 2, slots := 120, locals := 12 }) (va_Pc [.ref h0] (fun U => U.heap.size = sz ∧ va_P (dC, dI) vwCl [(h0, .inr (3, [.null, .int 0, .null]))] U.heap ∧ va_K (dC, dI) vwCl [] U ∧ va_D (fun _ => True) [(h0, .inr (3, [.null, .int 0, .null]))])) (va_Qv (fun (_ : Unit) => True) (fun (_ : Unit) (t : State) => ∃ (q0 q1 : Nat) (k0 k1 : ClassId), va_P (dC, dI) vwCl [(h0, .inr (3, [.ref q0, .int 0, .ref q1])), (q0, .inl (k0, 60, .inl (fun _ => 0))), (q1, .inl (k1, 60, .inl (fun _ => 0)))] t.heap ∧ va_K (dC, dI) vwCl [(k0, .int), (k1, .boolean)] t ∧ va_D (va_A [(h0, .inr (3, [.null, .int 0, .null]))] sz) [(h0, .inr (3, [.ref q0, .int 0, .ref q1])), (q0, .inl (k0, 60, .inl (fun _ => 0))), (q1, .inl (k1, 60, .inl (fun _ => 0)))]) (va_A [(h0, .inr (3, [.null, .int 0, .null]))] sz)) 2 120 (va_A [(h0, .inr (3, [.null, .int 0, .null]))] sz) := by
  refine Met.ofW (cc := cX3_init) (maxL := 1) (ret := none) (by decide) rfl ?_
  intro p e s m args below meth c s₁ B hml hv
  obtain ⟨rfl, hsz, hP, hK, hD0⟩ := hv
  have hx := B.exec
  have hb := B.bytes
  have hr := B.returns
  have hts := atoms_spec (ws := wsX3_init) B.pre
  have hown : s.vm.findClass RX3 = some m.cls := findClass_of_methodNamed B.named
  have hlocks := B.notSynchronized
  have hin : meth.name = "<init>" := (name_of_methodNamed B.named B.method).1
  subst hsz
  have hD := hD0.self (sz := s.heap.size)
  generalize hAe : va_A [(h0, .inr (3, [.null, .int 0, .null]))] s.heap.size = A at hD ⊢
  have hA : ∀ q : Nat, s.heap.size ≤ q → A q := fun q h => by rw [← hAe]; exact Or.inr h
  have hS : va_S A s.heap s.heap [] := va_S.rf
  replace hP : va_P (dC, dI) vwCl [(h0, .inr (3, [.null, .int 0, .null]))] s.heap := hP
  have hl := lv_entry ([.ref h0]) (n := 1) (Nat.le_of_ble_eq_true rfl)
  rw [lg_entry_eq]
  generalize (lg_sl ([.ref h0]) ++ List.replicate (1 - (lg_sl ([.ref h0])).length) Slot.unset).toArray = ls at hl ⊢
  replace hl : lv_has ls 1 [(0, .ref h0)] := hl
  have hi_X3 : ∀ w ∈ wsX30, w ∈ wsX3_init := by decide +kernel
  have k_f9 := hts (.fieldLink RX3 9 "TongueTeller$Telling" "row" "[I") (by decide +kernel)
  have k_f15 := hts (.fieldLink RX3 15 "TongueTeller$Telling" "size" "I") (by decide +kernel)
  have k_f19 := hts (.fieldLink RX3 19 "TongueTeller$Telling" "taken" "[Z") (by decide +kernel)
  refine lv_aload_n hx hb dX3_init_0 rfl (lv_at hl 0 rfl) ?_
  refine W.objInit hx hb hown (hts (.methodLink RX3 3 objectInit) (by decide +kernel)) (hts (.instanceMethod objectInit) (by decide +kernel)) (hts (.code objectInit ⟨#[0xb1]⟩ 1 none) (List.mem_of_getElem? (i := 3) rfl)) rfl (by rw [hml]; exact hl.1) rfl dX3_init_1 (Nat.le_of_ble_eq_true rfl) (Nat.le_of_ble_eq_true rfl) ?_
  refine W.eq (g2 := F0 m 4 ls []) rfl ?_
  refine lv_aload_n hx hb dX3_init_4 rfl (lv_at hl 0 rfl) ?_
  refine lv_bipush (v := 60) hx hb dX3_init_5 (by decide) ?_
  have hSo := hS
  clear hS
  refine va_newa (atype := .int) (ty := .int) (N' := 60) (a0 := (60, .inl (fun _ => 0))) hx hb (hts (.arrayClass .int) (by decide +kernel)) rfl hK hP hD hSo hA (fun _ => rfl) (by decide) (by decide +kernel) (by decide +kernel) (Nat.le_of_ble_eq_true rfl) (Nat.le_of_ble_eq_true rfl) dX3_init_7 (fun q7 cA7 H hK hP hD hS => ?_)
  clear hSo
  replace hP : va_P (dC, dI) vwCl [(h0, .inr (3, [.null, .int 0, .null])), (q7, .inl (cA7, 60, .inl (fun _ => 0)))] H := hP
  replace hD : va_D A [(h0, .inr (3, [.null, .int 0, .null])), (q7, .inl (cA7, 60, .inl (fun _ => 0)))] := hD
  have hK : va_K (dC, dI) vwCl [(cA7, .int)] s := hK
  refine W.widen (k := 1) (n := 60) (by omega) (by omega) ?_
  refine va_putF (D := (dC, dI)) (ci := 3) (v := .ref q7) (ty := .array .int) (C := RX3) (T := TX3) (N := 3) hx hb hts hi_X3 tyX3 tyX3_ok nmX3 hown hK hP hD hS 0 rfl rfl 0 (by decide) k_f9 (fun _ h9 => h9) rfl hin rfl (by decide +kernel) rfl rfl (Nat.le_of_ble_eq_true rfl) dX3_init_9 (fun H locs hP hD hS => ?_)
  replace hP : va_P (dC, dI) vwCl [(h0, .inr (3, [.ref q7, .int 0, .null])), (q7, .inl (cA7, 60, .inl (fun _ => 0)))] H := hP
  replace hD : va_D A [(h0, .inr (3, [.ref q7, .int 0, .null])), (q7, .inl (cA7, 60, .inl (fun _ => 0)))] := hD
  refine lv_aload_n hx hb dX3_init_12 rfl (lv_at hl 0 rfl) ?_
  refine lv_iconst (v := 0) hx hb dX3_init_13 (by decide) ?_
  refine va_put (D := (dC, dI)) (ci := 3) (v := .int 0) (ty := .int) (C := RX3) (T := TX3) (N := 3) hx hb hts hi_X3 tyX3 tyX3_ok nmX3 hown hK hP hD hS 0 rfl rfl 1 (by decide) k_f15 (fun _ h9 => h9) rfl (by decide +kernel) rfl rfl (Nat.le_of_ble_eq_true rfl) dX3_init_14 (fun H locs hP hD hS => ?_)
  replace hP : va_P (dC, dI) vwCl [(h0, .inr (3, [.ref q7, .int 0, .null])), (q7, .inl (cA7, 60, .inl (fun _ => 0)))] H := hP
  replace hD : va_D A [(h0, .inr (3, [.ref q7, .int 0, .null])), (q7, .inl (cA7, 60, .inl (fun _ => 0)))] := hD
  refine lv_aload_n hx hb dX3_init_17 rfl (lv_at hl 0 rfl) ?_
  refine lv_bipush (v := 60) hx hb dX3_init_18 (by decide) ?_
  have hSo := hS
  clear hS
  refine va_newa (atype := .boolean) (ty := .boolean) (N' := 60) (a0 := (60, .inl (fun _ => 0))) hx hb (hts (.arrayClass .boolean) (by decide +kernel)) rfl hK hP hD hSo hA (fun _ => rfl) (by decide) (by decide +kernel) (by decide +kernel) (Nat.le_of_ble_eq_true rfl) (Nat.le_of_ble_eq_true rfl) dX3_init_20 (fun q20 cA20 H hK hP hD hS => ?_)
  clear hSo
  replace hP : va_P (dC, dI) vwCl [(h0, .inr (3, [.ref q7, .int 0, .null])), (q7, .inl (cA7, 60, .inl (fun _ => 0))), (q20, .inl (cA20, 60, .inl (fun _ => 0)))] H := hP
  replace hD : va_D A [(h0, .inr (3, [.ref q7, .int 0, .null])), (q7, .inl (cA7, 60, .inl (fun _ => 0))), (q20, .inl (cA20, 60, .inl (fun _ => 0)))] := hD
  have hK : va_K (dC, dI) vwCl [(cA7, .int), (cA20, .boolean)] s := hK
  refine W.widen (k := 2) (n := 120) (by omega) (by omega) ?_
  refine va_putF (D := (dC, dI)) (ci := 3) (v := .ref q20) (ty := .array .boolean) (C := RX3) (T := TX3) (N := 3) hx hb hts hi_X3 tyX3 tyX3_ok nmX3 hown hK hP hD hS 0 rfl rfl 2 (by decide) k_f19 (fun _ h9 => h9) rfl hin rfl (by decide +kernel) rfl rfl (Nat.le_of_ble_eq_true rfl) dX3_init_22 (fun H locs hP hD hS => ?_)
  replace hP : va_P (dC, dI) vwCl [(h0, .inr (3, [.ref q7, .int 0, .ref q20])), (q7, .inl (cA7, 60, .inl (fun _ => 0))), (q20, .inl (cA20, 60, .inl (fun _ => 0)))] H := hP
  replace hD : va_D A [(h0, .inr (3, [.ref q7, .int 0, .ref q20])), (q7, .inl (cA7, 60, .inl (fun _ => 0))), (q20, .inl (cA20, 60, .inl (fun _ => 0)))] := hD
  have hP9 := hP.sub (ws' := [(h0, .inr (3, [.ref q7, .int 0, .ref q20])), (q7, .inl (cA7, 60, .inl (fun _ => 0))), (q20, .inl (cA20, 60, .inl (fun _ => 0)))]) [0, 1, 2] rfl
  have hD9 := hD.sub (ws' := [(h0, .inr (3, [.ref q7, .int 0, .ref q20])), (q7, .inl (cA7, 60, .inl (fun _ => 0))), (q20, .inl (cA20, 60, .inl (fun _ => 0)))]) [0, 1, 2] (by decide) rfl
  have hK9 := hK.sub (tys' := [(cA7, .int), (cA20, .boolean)]) [0, 1] rfl
  refine W.widen (k := 2) (n := 120) (Nat.le_of_ble_eq_true rfl) (Nat.le_of_ble_eq_true rfl) ?_
  exact W.vret hx hb hr (fun t ht hW => ⟨⟨(), rfl, trivial, q7, q20, cA7, cA20, by rw [ht]; exact hP9, va_K.moved hW.alike hK9, hD9⟩, hS.F ht⟩) hS.2.2 dX3_init_25

set_option maxHeartbeats 4000000 in
set_option maxRecDepth 100000 in
theorem c_X4_init (l : Launch) (dC : Nat → ClassId) (dI : Nat → Nat → Nat) (h0 : Nat) (sz : Nat) : Met l yX4_init wsX4_init ({ frames := 1, cells := 1, slots := 6272, locals := 12 }) (va_Pc [.ref h0] (fun U => U.heap.size = sz ∧ va_P (dC, dI) vwCl [(h0, .inr (4, [.null, .int 0]))] U.heap ∧ va_K (dC, dI) vwCl [] U ∧ va_D (fun _ => True) [(h0, .inr (4, [.null, .int 0]))])) (va_Qv (fun (_ : Unit) => True) (fun (_ : Unit) (t : State) => ∃ (q0 : Nat) (k0 : ClassId), va_P (dC, dI) vwCl [(h0, .inr (4, [.ref q0, .int 0])), (q0, .inl (k0, 6272, .inl (fun _ => 0)))] t.heap ∧ va_K (dC, dI) vwCl [(k0, .int)] t ∧ va_D (va_A [(h0, .inr (4, [.null, .int 0]))] sz) [(h0, .inr (4, [.ref q0, .int 0])), (q0, .inl (k0, 6272, .inl (fun _ => 0)))]) (va_A [(h0, .inr (4, [.null, .int 0]))] sz)) 1 6272 (va_A [(h0, .inr (4, [.null, .int 0]))] sz) := by
  refine Met.ofW (cc := cX4_init) (maxL := 1) (ret := none) (by decide) rfl ?_
  intro p e s m args below meth c s₁ B hml hv
  obtain ⟨rfl, hsz, hP, hK, hD0⟩ := hv
  have hx := B.exec
  have hb := B.bytes
  have hr := B.returns
  have hts := atoms_spec (ws := wsX4_init) B.pre
  have hown : s.vm.findClass RX4 = some m.cls := findClass_of_methodNamed B.named
  have hlocks := B.notSynchronized
  have hin : meth.name = "<init>" := (name_of_methodNamed B.named B.method).1
  subst hsz
  have hD := hD0.self (sz := s.heap.size)
  generalize hAe : va_A [(h0, .inr (4, [.null, .int 0]))] s.heap.size = A at hD ⊢
  have hA : ∀ q : Nat, s.heap.size ≤ q → A q := fun q h => by rw [← hAe]; exact Or.inr h
  have hS : va_S A s.heap s.heap [] := va_S.rf
  replace hP : va_P (dC, dI) vwCl [(h0, .inr (4, [.null, .int 0]))] s.heap := hP
  have hl := lv_entry ([.ref h0]) (n := 1) (Nat.le_of_ble_eq_true rfl)
  rw [lg_entry_eq]
  generalize (lg_sl ([.ref h0]) ++ List.replicate (1 - (lg_sl ([.ref h0])).length) Slot.unset).toArray = ls at hl ⊢
  replace hl : lv_has ls 1 [(0, .ref h0)] := hl
  have hi_X4 : ∀ w ∈ wsX40, w ∈ wsX4_init := by decide +kernel
  have k_f9 := hts (.fieldLink RX4 9 "TongueTeller$Tongues" "counts" "[I") (by decide +kernel)
  have k_f15 := hts (.fieldLink RX4 15 "TongueTeller$Tongues" "size" "I") (by decide +kernel)
  refine lv_aload_n hx hb dX4_init_0 rfl (lv_at hl 0 rfl) ?_
  refine W.objInit hx hb hown (hts (.methodLink RX4 3 objectInit) (by decide +kernel)) (hts (.instanceMethod objectInit) (by decide +kernel)) (hts (.code objectInit ⟨#[0xb1]⟩ 1 none) (List.mem_of_getElem? (i := 3) rfl)) rfl (by rw [hml]; exact hl.1) rfl dX4_init_1 (Nat.le_of_ble_eq_true rfl) (Nat.le_of_ble_eq_true rfl) ?_
  refine W.eq (g2 := F0 m 4 ls []) rfl ?_
  refine lv_aload_n hx hb dX4_init_4 rfl (lv_at hl 0 rfl) ?_
  refine lv_sipush (v := 6272) hx hb dX4_init_5 (by decide) ?_
  have hSo := hS
  clear hS
  refine va_newa (atype := .int) (ty := .int) (N' := 6272) (a0 := (6272, .inl (fun _ => 0))) hx hb (hts (.arrayClass .int) (by decide +kernel)) rfl hK hP hD hSo hA (fun _ => rfl) (by decide) (by decide +kernel) (by decide +kernel) (Nat.le_of_ble_eq_true rfl) (Nat.le_of_ble_eq_true rfl) dX4_init_8 (fun q8 cA8 H hK hP hD hS => ?_)
  clear hSo
  replace hP : va_P (dC, dI) vwCl [(h0, .inr (4, [.null, .int 0])), (q8, .inl (cA8, 6272, .inl (fun _ => 0)))] H := hP
  replace hD : va_D A [(h0, .inr (4, [.null, .int 0])), (q8, .inl (cA8, 6272, .inl (fun _ => 0)))] := hD
  have hK : va_K (dC, dI) vwCl [(cA8, .int)] s := hK
  refine W.widen (k := 1) (n := 6272) (by omega) (by omega) ?_
  refine va_putF (D := (dC, dI)) (ci := 4) (v := .ref q8) (ty := .array .int) (C := RX4) (T := TX4) (N := 2) hx hb hts hi_X4 tyX4 tyX4_ok nmX4 hown hK hP hD hS 0 rfl rfl 0 (by decide) k_f9 (fun _ h9 => h9) rfl hin rfl (by decide +kernel) rfl rfl (Nat.le_of_ble_eq_true rfl) dX4_init_10 (fun H locs hP hD hS => ?_)
  replace hP : va_P (dC, dI) vwCl [(h0, .inr (4, [.ref q8, .int 0])), (q8, .inl (cA8, 6272, .inl (fun _ => 0)))] H := hP
  replace hD : va_D A [(h0, .inr (4, [.ref q8, .int 0])), (q8, .inl (cA8, 6272, .inl (fun _ => 0)))] := hD
  refine lv_aload_n hx hb dX4_init_13 rfl (lv_at hl 0 rfl) ?_
  refine lv_iconst (v := 0) hx hb dX4_init_14 (by decide) ?_
  refine va_put (D := (dC, dI)) (ci := 4) (v := .int 0) (ty := .int) (C := RX4) (T := TX4) (N := 2) hx hb hts hi_X4 tyX4 tyX4_ok nmX4 hown hK hP hD hS 0 rfl rfl 1 (by decide) k_f15 (fun _ h9 => h9) rfl (by decide +kernel) rfl rfl (Nat.le_of_ble_eq_true rfl) dX4_init_15 (fun H locs hP hD hS => ?_)
  replace hP : va_P (dC, dI) vwCl [(h0, .inr (4, [.ref q8, .int 0])), (q8, .inl (cA8, 6272, .inl (fun _ => 0)))] H := hP
  replace hD : va_D A [(h0, .inr (4, [.ref q8, .int 0])), (q8, .inl (cA8, 6272, .inl (fun _ => 0)))] := hD
  have hP9 := hP.sub (ws' := [(h0, .inr (4, [.ref q8, .int 0])), (q8, .inl (cA8, 6272, .inl (fun _ => 0)))]) [0, 1] rfl
  have hD9 := hD.sub (ws' := [(h0, .inr (4, [.ref q8, .int 0])), (q8, .inl (cA8, 6272, .inl (fun _ => 0)))]) [0, 1] (by decide) rfl
  have hK9 := hK.sub (tys' := [(cA8, .int)]) [0] rfl
  refine W.widen (k := 1) (n := 6272) (Nat.le_of_ble_eq_true rfl) (Nat.le_of_ble_eq_true rfl) ?_
  exact W.vret hx hb hr (fun t ht hW => ⟨⟨(), rfl, trivial, q8, cA8, by rw [ht]; exact hP9, va_K.moved hW.alike hK9, hD9⟩, hS.F ht⟩) hS.2.2 dX4_init_18

set_option maxHeartbeats 4000000 in
set_option maxRecDepth 100000 in
theorem c_X5_init (l : Launch) (dC : Nat → ClassId) (dI : Nat → Nat → Nat) (h0 : Nat) (sz : Nat) : Met l yX5_init wsX5_init ({ frames := 1, cells := 4, slots := 1080, locals := 12 }) (va_Pc [.ref h0] (fun U => U.heap.size = sz ∧ va_P (dC, dI) vwCl [(h0, .inr (5, [.null, .null, .null, .null, .int 0, .int 0, .int 0, .int 0, .int 0]))] U.heap ∧ va_K (dC, dI) vwCl [] U ∧ va_D (fun _ => True) [(h0, .inr (5, [.null, .null, .null, .null, .int 0, .int 0, .int 0, .int 0, .int 0]))])) (va_Qv (fun (_ : Unit) => True) (fun (_ : Unit) (t : State) => ∃ (q0 q1 q2 q3 : Nat) (k0 k1 k2 k3 : ClassId), va_P (dC, dI) vwCl [(h0, .inr (5, [.ref q0, .ref q1, .ref q2, .ref q3, .int 0, .int 0, .int 0, .int (-1), .int 0])), (q0, .inl (k0, 480, .inl (fun _ => 0))), (q1, .inl (k1, 480, .inl (fun _ => 0))), (q2, .inl (k2, 60, .inl (fun _ => 0))), (q3, .inl (k3, 60, .inl (fun _ => 0)))] t.heap ∧ va_K (dC, dI) vwCl [(k0, .int), (k1, .int), (k2, .int), (k3, .int)] t ∧ va_D (va_A [(h0, .inr (5, [.null, .null, .null, .null, .int 0, .int 0, .int 0, .int 0, .int 0]))] sz) [(h0, .inr (5, [.ref q0, .ref q1, .ref q2, .ref q3, .int 0, .int 0, .int 0, .int (-1), .int 0])), (q0, .inl (k0, 480, .inl (fun _ => 0))), (q1, .inl (k1, 480, .inl (fun _ => 0))), (q2, .inl (k2, 60, .inl (fun _ => 0))), (q3, .inl (k3, 60, .inl (fun _ => 0)))]) (va_A [(h0, .inr (5, [.null, .null, .null, .null, .int 0, .int 0, .int 0, .int 0, .int 0]))] sz)) 4 1080 (va_A [(h0, .inr (5, [.null, .null, .null, .null, .int 0, .int 0, .int 0, .int 0, .int 0]))] sz) := by
  refine Met.ofW (cc := cX5_init) (maxL := 1) (ret := none) (by decide) rfl ?_
  intro p e s m args below meth c s₁ B hml hv
  obtain ⟨rfl, hsz, hP, hK, hD0⟩ := hv
  have hx := B.exec
  have hb := B.bytes
  have hr := B.returns
  have hts := atoms_spec (ws := wsX5_init) B.pre
  have hown : s.vm.findClass RX5 = some m.cls := findClass_of_methodNamed B.named
  have hlocks := B.notSynchronized
  have hin : meth.name = "<init>" := (name_of_methodNamed B.named B.method).1
  subst hsz
  have hD := hD0.self (sz := s.heap.size)
  generalize hAe : va_A [(h0, .inr (5, [.null, .null, .null, .null, .int 0, .int 0, .int 0, .int 0, .int 0]))] s.heap.size = A at hD ⊢
  have hA : ∀ q : Nat, s.heap.size ≤ q → A q := fun q h => by rw [← hAe]; exact Or.inr h
  have hS : va_S A s.heap s.heap [] := va_S.rf
  replace hP : va_P (dC, dI) vwCl [(h0, .inr (5, [.null, .null, .null, .null, .int 0, .int 0, .int 0, .int 0, .int 0]))] s.heap := hP
  have hl := lv_entry ([.ref h0]) (n := 1) (Nat.le_of_ble_eq_true rfl)
  rw [lg_entry_eq]
  generalize (lg_sl ([.ref h0]) ++ List.replicate (1 - (lg_sl ([.ref h0])).length) Slot.unset).toArray = ls at hl ⊢
  replace hl : lv_has ls 1 [(0, .ref h0)] := hl
  have hi_X5 : ∀ w ∈ wsX50, w ∈ wsX5_init := by decide +kernel
  have k_f9 := hts (.fieldLink RX5 9 "TongueTeller$Way" "costs" "[I") (by decide +kernel)
  have k_f15 := hts (.fieldLink RX5 15 "TongueTeller$Way" "behind" "[I") (by decide +kernel)
  have k_f18 := hts (.fieldLink RX5 18 "TongueTeller$Way" "chosen" "[I") (by decide +kernel)
  have k_f21 := hts (.fieldLink RX5 21 "TongueTeller$Way" "compared" "[I") (by decide +kernel)
  have k_f24 := hts (.fieldLink RX5 24 "TongueTeller$Way" "words" "I") (by decide +kernel)
  have k_f28 := hts (.fieldLink RX5 28 "TongueTeller$Way" "tongues" "I") (by decide +kernel)
  have k_f31 := hts (.fieldLink RX5 31 "TongueTeller$Way" "change" "I") (by decide +kernel)
  have k_f34 := hts (.fieldLink RX5 34 "TongueTeller$Way" "boundWord" "I") (by decide +kernel)
  have k_f37 := hts (.fieldLink RX5 37 "TongueTeller$Way" "openTongues" "I") (by decide +kernel)
  refine lv_aload_n hx hb dX5_init_0 rfl (lv_at hl 0 rfl) ?_
  refine W.objInit hx hb hown (hts (.methodLink RX5 3 objectInit) (by decide +kernel)) (hts (.instanceMethod objectInit) (by decide +kernel)) (hts (.code objectInit ⟨#[0xb1]⟩ 1 none) (List.mem_of_getElem? (i := 3) rfl)) rfl (by rw [hml]; exact hl.1) rfl dX5_init_1 (Nat.le_of_ble_eq_true rfl) (Nat.le_of_ble_eq_true rfl) ?_
  refine W.eq (g2 := F0 m 4 ls []) rfl ?_
  refine lv_aload_n hx hb dX5_init_4 rfl (lv_at hl 0 rfl) ?_
  refine lv_sipush (v := 480) hx hb dX5_init_5 (by decide) ?_
  have hSo := hS
  clear hS
  refine va_newa (atype := .int) (ty := .int) (N' := 480) (a0 := (480, .inl (fun _ => 0))) hx hb (hts (.arrayClass .int) (by decide +kernel)) rfl hK hP hD hSo hA (fun _ => rfl) (by decide) (by decide +kernel) (by decide +kernel) (Nat.le_of_ble_eq_true rfl) (Nat.le_of_ble_eq_true rfl) dX5_init_8 (fun q8 cA8 H hK hP hD hS => ?_)
  clear hSo
  replace hP : va_P (dC, dI) vwCl [(h0, .inr (5, [.null, .null, .null, .null, .int 0, .int 0, .int 0, .int 0, .int 0])), (q8, .inl (cA8, 480, .inl (fun _ => 0)))] H := hP
  replace hD : va_D A [(h0, .inr (5, [.null, .null, .null, .null, .int 0, .int 0, .int 0, .int 0, .int 0])), (q8, .inl (cA8, 480, .inl (fun _ => 0)))] := hD
  have hK : va_K (dC, dI) vwCl [(cA8, .int)] s := hK
  refine W.widen (k := 1) (n := 480) (by omega) (by omega) ?_
  refine va_putF (D := (dC, dI)) (ci := 5) (v := .ref q8) (ty := .array .int) (C := RX5) (T := TX5) (N := 9) hx hb hts hi_X5 tyX5 tyX5_ok nmX5 hown hK hP hD hS 0 rfl rfl 0 (by decide) k_f9 (fun _ h9 => h9) rfl hin rfl (by decide +kernel) rfl rfl (Nat.le_of_ble_eq_true rfl) dX5_init_10 (fun H locs hP hD hS => ?_)
  replace hP : va_P (dC, dI) vwCl [(h0, .inr (5, [.ref q8, .null, .null, .null, .int 0, .int 0, .int 0, .int 0, .int 0])), (q8, .inl (cA8, 480, .inl (fun _ => 0)))] H := hP
  replace hD : va_D A [(h0, .inr (5, [.ref q8, .null, .null, .null, .int 0, .int 0, .int 0, .int 0, .int 0])), (q8, .inl (cA8, 480, .inl (fun _ => 0)))] := hD
  refine lv_aload_n hx hb dX5_init_13 rfl (lv_at hl 0 rfl) ?_
  refine lv_sipush (v := 480) hx hb dX5_init_14 (by decide) ?_
  have hSo := hS
  clear hS
  refine va_newa (atype := .int) (ty := .int) (N' := 480) (a0 := (480, .inl (fun _ => 0))) hx hb (hts (.arrayClass .int) (by decide +kernel)) rfl hK hP hD hSo hA (fun _ => rfl) (by decide) (by decide +kernel) (by decide +kernel) (Nat.le_of_ble_eq_true rfl) (Nat.le_of_ble_eq_true rfl) dX5_init_17 (fun q17 cA17 H hK hP hD hS => ?_)
  clear hSo
  replace hP : va_P (dC, dI) vwCl [(h0, .inr (5, [.ref q8, .null, .null, .null, .int 0, .int 0, .int 0, .int 0, .int 0])), (q8, .inl (cA8, 480, .inl (fun _ => 0))), (q17, .inl (cA17, 480, .inl (fun _ => 0)))] H := hP
  replace hD : va_D A [(h0, .inr (5, [.ref q8, .null, .null, .null, .int 0, .int 0, .int 0, .int 0, .int 0])), (q8, .inl (cA8, 480, .inl (fun _ => 0))), (q17, .inl (cA17, 480, .inl (fun _ => 0)))] := hD
  have hK : va_K (dC, dI) vwCl [(cA8, .int), (cA17, .int)] s := hK
  refine W.widen (k := 2) (n := 960) (by omega) (by omega) ?_
  refine va_putF (D := (dC, dI)) (ci := 5) (v := .ref q17) (ty := .array .int) (C := RX5) (T := TX5) (N := 9) hx hb hts hi_X5 tyX5 tyX5_ok nmX5 hown hK hP hD hS 0 rfl rfl 1 (by decide) k_f15 (fun _ h9 => h9) rfl hin rfl (by decide +kernel) rfl rfl (Nat.le_of_ble_eq_true rfl) dX5_init_19 (fun H locs hP hD hS => ?_)
  replace hP : va_P (dC, dI) vwCl [(h0, .inr (5, [.ref q8, .ref q17, .null, .null, .int 0, .int 0, .int 0, .int 0, .int 0])), (q8, .inl (cA8, 480, .inl (fun _ => 0))), (q17, .inl (cA17, 480, .inl (fun _ => 0)))] H := hP
  replace hD : va_D A [(h0, .inr (5, [.ref q8, .ref q17, .null, .null, .int 0, .int 0, .int 0, .int 0, .int 0])), (q8, .inl (cA8, 480, .inl (fun _ => 0))), (q17, .inl (cA17, 480, .inl (fun _ => 0)))] := hD
  refine lv_aload_n hx hb dX5_init_22 rfl (lv_at hl 0 rfl) ?_
  refine lv_bipush (v := 60) hx hb dX5_init_23 (by decide) ?_
  have hSo := hS
  clear hS
  refine va_newa (atype := .int) (ty := .int) (N' := 60) (a0 := (60, .inl (fun _ => 0))) hx hb (hts (.arrayClass .int) (by decide +kernel)) rfl hK hP hD hSo hA (fun _ => rfl) (by decide) (by decide +kernel) (by decide +kernel) (Nat.le_of_ble_eq_true rfl) (Nat.le_of_ble_eq_true rfl) dX5_init_25 (fun q25 cA25 H hK hP hD hS => ?_)
  clear hSo
  replace hP : va_P (dC, dI) vwCl [(h0, .inr (5, [.ref q8, .ref q17, .null, .null, .int 0, .int 0, .int 0, .int 0, .int 0])), (q8, .inl (cA8, 480, .inl (fun _ => 0))), (q17, .inl (cA17, 480, .inl (fun _ => 0))), (q25, .inl (cA25, 60, .inl (fun _ => 0)))] H := hP
  replace hD : va_D A [(h0, .inr (5, [.ref q8, .ref q17, .null, .null, .int 0, .int 0, .int 0, .int 0, .int 0])), (q8, .inl (cA8, 480, .inl (fun _ => 0))), (q17, .inl (cA17, 480, .inl (fun _ => 0))), (q25, .inl (cA25, 60, .inl (fun _ => 0)))] := hD
  have hK : va_K (dC, dI) vwCl [(cA8, .int), (cA17, .int), (cA25, .int)] s := hK
  refine W.widen (k := 3) (n := 1020) (by omega) (by omega) ?_
  refine va_putF (D := (dC, dI)) (ci := 5) (v := .ref q25) (ty := .array .int) (C := RX5) (T := TX5) (N := 9) hx hb hts hi_X5 tyX5 tyX5_ok nmX5 hown hK hP hD hS 0 rfl rfl 2 (by decide) k_f18 (fun _ h9 => h9) rfl hin rfl (by decide +kernel) rfl rfl (Nat.le_of_ble_eq_true rfl) dX5_init_27 (fun H locs hP hD hS => ?_)
  replace hP : va_P (dC, dI) vwCl [(h0, .inr (5, [.ref q8, .ref q17, .ref q25, .null, .int 0, .int 0, .int 0, .int 0, .int 0])), (q8, .inl (cA8, 480, .inl (fun _ => 0))), (q17, .inl (cA17, 480, .inl (fun _ => 0))), (q25, .inl (cA25, 60, .inl (fun _ => 0)))] H := hP
  replace hD : va_D A [(h0, .inr (5, [.ref q8, .ref q17, .ref q25, .null, .int 0, .int 0, .int 0, .int 0, .int 0])), (q8, .inl (cA8, 480, .inl (fun _ => 0))), (q17, .inl (cA17, 480, .inl (fun _ => 0))), (q25, .inl (cA25, 60, .inl (fun _ => 0)))] := hD
  refine lv_aload_n hx hb dX5_init_30 rfl (lv_at hl 0 rfl) ?_
  refine lv_bipush (v := 60) hx hb dX5_init_31 (by decide) ?_
  have hSo := hS
  clear hS
  refine va_newa (atype := .int) (ty := .int) (N' := 60) (a0 := (60, .inl (fun _ => 0))) hx hb (hts (.arrayClass .int) (by decide +kernel)) rfl hK hP hD hSo hA (fun _ => rfl) (by decide) (by decide +kernel) (by decide +kernel) (Nat.le_of_ble_eq_true rfl) (Nat.le_of_ble_eq_true rfl) dX5_init_33 (fun q33 cA33 H hK hP hD hS => ?_)
  clear hSo
  replace hP : va_P (dC, dI) vwCl [(h0, .inr (5, [.ref q8, .ref q17, .ref q25, .null, .int 0, .int 0, .int 0, .int 0, .int 0])), (q8, .inl (cA8, 480, .inl (fun _ => 0))), (q17, .inl (cA17, 480, .inl (fun _ => 0))), (q25, .inl (cA25, 60, .inl (fun _ => 0))), (q33, .inl (cA33, 60, .inl (fun _ => 0)))] H := hP
  replace hD : va_D A [(h0, .inr (5, [.ref q8, .ref q17, .ref q25, .null, .int 0, .int 0, .int 0, .int 0, .int 0])), (q8, .inl (cA8, 480, .inl (fun _ => 0))), (q17, .inl (cA17, 480, .inl (fun _ => 0))), (q25, .inl (cA25, 60, .inl (fun _ => 0))), (q33, .inl (cA33, 60, .inl (fun _ => 0)))] := hD
  have hK : va_K (dC, dI) vwCl [(cA8, .int), (cA17, .int), (cA25, .int), (cA33, .int)] s := hK
  refine W.widen (k := 4) (n := 1080) (by omega) (by omega) ?_
  refine va_putF (D := (dC, dI)) (ci := 5) (v := .ref q33) (ty := .array .int) (C := RX5) (T := TX5) (N := 9) hx hb hts hi_X5 tyX5 tyX5_ok nmX5 hown hK hP hD hS 0 rfl rfl 3 (by decide) k_f21 (fun _ h9 => h9) rfl hin rfl (by decide +kernel) rfl rfl (Nat.le_of_ble_eq_true rfl) dX5_init_35 (fun H locs hP hD hS => ?_)
  replace hP : va_P (dC, dI) vwCl [(h0, .inr (5, [.ref q8, .ref q17, .ref q25, .ref q33, .int 0, .int 0, .int 0, .int 0, .int 0])), (q8, .inl (cA8, 480, .inl (fun _ => 0))), (q17, .inl (cA17, 480, .inl (fun _ => 0))), (q25, .inl (cA25, 60, .inl (fun _ => 0))), (q33, .inl (cA33, 60, .inl (fun _ => 0)))] H := hP
  replace hD : va_D A [(h0, .inr (5, [.ref q8, .ref q17, .ref q25, .ref q33, .int 0, .int 0, .int 0, .int 0, .int 0])), (q8, .inl (cA8, 480, .inl (fun _ => 0))), (q17, .inl (cA17, 480, .inl (fun _ => 0))), (q25, .inl (cA25, 60, .inl (fun _ => 0))), (q33, .inl (cA33, 60, .inl (fun _ => 0)))] := hD
  refine lv_aload_n hx hb dX5_init_38 rfl (lv_at hl 0 rfl) ?_
  refine lv_iconst (v := 0) hx hb dX5_init_39 (by decide) ?_
  refine va_put (D := (dC, dI)) (ci := 5) (v := .int 0) (ty := .int) (C := RX5) (T := TX5) (N := 9) hx hb hts hi_X5 tyX5 tyX5_ok nmX5 hown hK hP hD hS 0 rfl rfl 4 (by decide) k_f24 (fun _ h9 => h9) rfl (by decide +kernel) rfl rfl (Nat.le_of_ble_eq_true rfl) dX5_init_40 (fun H locs hP hD hS => ?_)
  replace hP : va_P (dC, dI) vwCl [(h0, .inr (5, [.ref q8, .ref q17, .ref q25, .ref q33, .int 0, .int 0, .int 0, .int 0, .int 0])), (q8, .inl (cA8, 480, .inl (fun _ => 0))), (q17, .inl (cA17, 480, .inl (fun _ => 0))), (q25, .inl (cA25, 60, .inl (fun _ => 0))), (q33, .inl (cA33, 60, .inl (fun _ => 0)))] H := hP
  replace hD : va_D A [(h0, .inr (5, [.ref q8, .ref q17, .ref q25, .ref q33, .int 0, .int 0, .int 0, .int 0, .int 0])), (q8, .inl (cA8, 480, .inl (fun _ => 0))), (q17, .inl (cA17, 480, .inl (fun _ => 0))), (q25, .inl (cA25, 60, .inl (fun _ => 0))), (q33, .inl (cA33, 60, .inl (fun _ => 0)))] := hD
  refine lv_aload_n hx hb dX5_init_43 rfl (lv_at hl 0 rfl) ?_
  refine lv_iconst (v := 0) hx hb dX5_init_44 (by decide) ?_
  refine va_put (D := (dC, dI)) (ci := 5) (v := .int 0) (ty := .int) (C := RX5) (T := TX5) (N := 9) hx hb hts hi_X5 tyX5 tyX5_ok nmX5 hown hK hP hD hS 0 rfl rfl 5 (by decide) k_f28 (fun _ h9 => h9) rfl (by decide +kernel) rfl rfl (Nat.le_of_ble_eq_true rfl) dX5_init_45 (fun H locs hP hD hS => ?_)
  replace hP : va_P (dC, dI) vwCl [(h0, .inr (5, [.ref q8, .ref q17, .ref q25, .ref q33, .int 0, .int 0, .int 0, .int 0, .int 0])), (q8, .inl (cA8, 480, .inl (fun _ => 0))), (q17, .inl (cA17, 480, .inl (fun _ => 0))), (q25, .inl (cA25, 60, .inl (fun _ => 0))), (q33, .inl (cA33, 60, .inl (fun _ => 0)))] H := hP
  replace hD : va_D A [(h0, .inr (5, [.ref q8, .ref q17, .ref q25, .ref q33, .int 0, .int 0, .int 0, .int 0, .int 0])), (q8, .inl (cA8, 480, .inl (fun _ => 0))), (q17, .inl (cA17, 480, .inl (fun _ => 0))), (q25, .inl (cA25, 60, .inl (fun _ => 0))), (q33, .inl (cA33, 60, .inl (fun _ => 0)))] := hD
  refine lv_aload_n hx hb dX5_init_48 rfl (lv_at hl 0 rfl) ?_
  refine lv_iconst (v := 0) hx hb dX5_init_49 (by decide) ?_
  refine va_put (D := (dC, dI)) (ci := 5) (v := .int 0) (ty := .int) (C := RX5) (T := TX5) (N := 9) hx hb hts hi_X5 tyX5 tyX5_ok nmX5 hown hK hP hD hS 0 rfl rfl 6 (by decide) k_f31 (fun _ h9 => h9) rfl (by decide +kernel) rfl rfl (Nat.le_of_ble_eq_true rfl) dX5_init_50 (fun H locs hP hD hS => ?_)
  replace hP : va_P (dC, dI) vwCl [(h0, .inr (5, [.ref q8, .ref q17, .ref q25, .ref q33, .int 0, .int 0, .int 0, .int 0, .int 0])), (q8, .inl (cA8, 480, .inl (fun _ => 0))), (q17, .inl (cA17, 480, .inl (fun _ => 0))), (q25, .inl (cA25, 60, .inl (fun _ => 0))), (q33, .inl (cA33, 60, .inl (fun _ => 0)))] H := hP
  replace hD : va_D A [(h0, .inr (5, [.ref q8, .ref q17, .ref q25, .ref q33, .int 0, .int 0, .int 0, .int 0, .int 0])), (q8, .inl (cA8, 480, .inl (fun _ => 0))), (q17, .inl (cA17, 480, .inl (fun _ => 0))), (q25, .inl (cA25, 60, .inl (fun _ => 0))), (q33, .inl (cA33, 60, .inl (fun _ => 0)))] := hD
  refine lv_aload_n hx hb dX5_init_53 rfl (lv_at hl 0 rfl) ?_
  refine lv_iconst (v := (-1)) hx hb dX5_init_54 (by decide) ?_
  refine va_put (D := (dC, dI)) (ci := 5) (v := .int (-1)) (ty := .int) (C := RX5) (T := TX5) (N := 9) hx hb hts hi_X5 tyX5 tyX5_ok nmX5 hown hK hP hD hS 0 rfl rfl 7 (by decide) k_f34 (fun _ h9 => h9) rfl (by decide +kernel) rfl rfl (Nat.le_of_ble_eq_true rfl) dX5_init_55 (fun H locs hP hD hS => ?_)
  replace hP : va_P (dC, dI) vwCl [(h0, .inr (5, [.ref q8, .ref q17, .ref q25, .ref q33, .int 0, .int 0, .int 0, .int (-1), .int 0])), (q8, .inl (cA8, 480, .inl (fun _ => 0))), (q17, .inl (cA17, 480, .inl (fun _ => 0))), (q25, .inl (cA25, 60, .inl (fun _ => 0))), (q33, .inl (cA33, 60, .inl (fun _ => 0)))] H := hP
  replace hD : va_D A [(h0, .inr (5, [.ref q8, .ref q17, .ref q25, .ref q33, .int 0, .int 0, .int 0, .int (-1), .int 0])), (q8, .inl (cA8, 480, .inl (fun _ => 0))), (q17, .inl (cA17, 480, .inl (fun _ => 0))), (q25, .inl (cA25, 60, .inl (fun _ => 0))), (q33, .inl (cA33, 60, .inl (fun _ => 0)))] := hD
  refine lv_aload_n hx hb dX5_init_58 rfl (lv_at hl 0 rfl) ?_
  refine lv_iconst (v := 0) hx hb dX5_init_59 (by decide) ?_
  refine va_put (D := (dC, dI)) (ci := 5) (v := .int 0) (ty := .int) (C := RX5) (T := TX5) (N := 9) hx hb hts hi_X5 tyX5 tyX5_ok nmX5 hown hK hP hD hS 0 rfl rfl 8 (by decide) k_f37 (fun _ h9 => h9) rfl (by decide +kernel) rfl rfl (Nat.le_of_ble_eq_true rfl) dX5_init_60 (fun H locs hP hD hS => ?_)
  replace hP : va_P (dC, dI) vwCl [(h0, .inr (5, [.ref q8, .ref q17, .ref q25, .ref q33, .int 0, .int 0, .int 0, .int (-1), .int 0])), (q8, .inl (cA8, 480, .inl (fun _ => 0))), (q17, .inl (cA17, 480, .inl (fun _ => 0))), (q25, .inl (cA25, 60, .inl (fun _ => 0))), (q33, .inl (cA33, 60, .inl (fun _ => 0)))] H := hP
  replace hD : va_D A [(h0, .inr (5, [.ref q8, .ref q17, .ref q25, .ref q33, .int 0, .int 0, .int 0, .int (-1), .int 0])), (q8, .inl (cA8, 480, .inl (fun _ => 0))), (q17, .inl (cA17, 480, .inl (fun _ => 0))), (q25, .inl (cA25, 60, .inl (fun _ => 0))), (q33, .inl (cA33, 60, .inl (fun _ => 0)))] := hD
  have hP9 := hP.sub (ws' := [(h0, .inr (5, [.ref q8, .ref q17, .ref q25, .ref q33, .int 0, .int 0, .int 0, .int (-1), .int 0])), (q8, .inl (cA8, 480, .inl (fun _ => 0))), (q17, .inl (cA17, 480, .inl (fun _ => 0))), (q25, .inl (cA25, 60, .inl (fun _ => 0))), (q33, .inl (cA33, 60, .inl (fun _ => 0)))]) [0, 1, 2, 3, 4] rfl
  have hD9 := hD.sub (ws' := [(h0, .inr (5, [.ref q8, .ref q17, .ref q25, .ref q33, .int 0, .int 0, .int 0, .int (-1), .int 0])), (q8, .inl (cA8, 480, .inl (fun _ => 0))), (q17, .inl (cA17, 480, .inl (fun _ => 0))), (q25, .inl (cA25, 60, .inl (fun _ => 0))), (q33, .inl (cA33, 60, .inl (fun _ => 0)))]) [0, 1, 2, 3, 4] (by decide) rfl
  have hK9 := hK.sub (tys' := [(cA8, .int), (cA17, .int), (cA25, .int), (cA33, .int)]) [0, 1, 2, 3] rfl
  refine W.widen (k := 4) (n := 1080) (Nat.le_of_ble_eq_true rfl) (Nat.le_of_ble_eq_true rfl) ?_
  exact W.vret hx hb hr (fun t ht hW => ⟨⟨(), rfl, trivial, q8, q17, q25, q33, cA8, cA17, cA25, cA33, by rw [ht]; exact hP9, va_K.moved hW.alike hK9, hD9⟩, hS.F ht⟩) hS.2.2 dX5_init_63

set_option maxHeartbeats 4000000 in
set_option maxRecDepth 100000 in
theorem c_X6_init_60 (l : Launch) (dC : Nat → ClassId) (dI : Nat → Nat → Nat) (h0 : Nat) (sz : Nat) : Met l yX6_init wsX6_init ({ frames := 1, cells := 2, slots := 1500, locals := 14 }) (va_Pc [.ref h0, .int 60] (fun U => U.heap.size = sz ∧ va_P (dC, dI) vwCl [(h0, .inr (6, [.null, .null, .int 0]))] U.heap ∧ va_K (dC, dI) vwCl [] U ∧ va_D (fun _ => True) [(h0, .inr (6, [.null, .null, .int 0]))])) (va_Qv (fun (_ : Unit) => True) (fun (_ : Unit) (t : State) => ∃ (q0 q1 : Nat) (k0 k1 : ClassId), va_P (dC, dI) vwCl [(h0, .inr (6, [.ref q0, .ref q1, .int 0])), (q0, .inl (k0, 1440, .inl (fun _ => 0))), (q1, .inl (k1, 60, .inl (fun _ => 0)))] t.heap ∧ va_K (dC, dI) vwCl [(k0, .byte), (k1, .int)] t ∧ va_D (va_A [(h0, .inr (6, [.null, .null, .int 0]))] sz) [(h0, .inr (6, [.ref q0, .ref q1, .int 0])), (q0, .inl (k0, 1440, .inl (fun _ => 0))), (q1, .inl (k1, 60, .inl (fun _ => 0)))]) (va_A [(h0, .inr (6, [.null, .null, .int 0]))] sz)) 2 1500 (va_A [(h0, .inr (6, [.null, .null, .int 0]))] sz) := by
  refine Met.ofW (cc := cX6_init) (maxL := 3) (ret := none) (by decide) rfl ?_
  intro p e s m args below meth c s₁ B hml hv
  obtain ⟨rfl, hsz, hP, hK, hD0⟩ := hv
  have hx := B.exec
  have hb := B.bytes
  have hr := B.returns
  have hts := atoms_spec (ws := wsX6_init) B.pre
  have hown : s.vm.findClass RX6 = some m.cls := findClass_of_methodNamed B.named
  have hlocks := B.notSynchronized
  have hin : meth.name = "<init>" := (name_of_methodNamed B.named B.method).1
  subst hsz
  have hD := hD0.self (sz := s.heap.size)
  generalize hAe : va_A [(h0, .inr (6, [.null, .null, .int 0]))] s.heap.size = A at hD ⊢
  have hA : ∀ q : Nat, s.heap.size ≤ q → A q := fun q h => by rw [← hAe]; exact Or.inr h
  have hS : va_S A s.heap s.heap [] := va_S.rf
  replace hP : va_P (dC, dI) vwCl [(h0, .inr (6, [.null, .null, .int 0]))] s.heap := hP
  have hl := lv_entry ([.ref h0, .int 60]) (n := 3) (Nat.le_of_ble_eq_true rfl)
  rw [lg_entry_eq]
  generalize (lg_sl ([.ref h0, .int 60]) ++ List.replicate (3 - (lg_sl ([.ref h0, .int 60])).length) Slot.unset).toArray = ls at hl ⊢
  replace hl : lv_has ls 3 [(0, .ref h0), (1, .int 60)] := hl
  have hi_X6 : ∀ w ∈ wsX60, w ∈ wsX6_init := by decide +kernel
  have k_f9 := hts (.fieldLink RX6 9 "TongueTeller$WordList" "size" "I") (by decide +kernel)
  have k_f24 := hts (.fieldLink RX6 24 "TongueTeller$WordList" "letters" "[B") (by decide +kernel)
  have k_f28 := hts (.fieldLink RX6 28 "TongueTeller$WordList" "lengths" "[I") (by decide +kernel)
  refine lv_aload_n hx hb dX6_init_0 rfl (lv_at hl 0 rfl) ?_
  refine W.objInit hx hb hown (hts (.methodLink RX6 3 objectInit) (by decide +kernel)) (hts (.instanceMethod objectInit) (by decide +kernel)) (hts (.code objectInit ⟨#[0xb1]⟩ 1 none) (List.mem_of_getElem? (i := 3) rfl)) rfl (by rw [hml]; exact hl.1) rfl dX6_init_1 (Nat.le_of_ble_eq_true rfl) (Nat.le_of_ble_eq_true rfl) ?_
  refine W.eq (g2 := F0 m 4 ls []) rfl ?_
  refine lv_aload_n hx hb dX6_init_4 rfl (lv_at hl 0 rfl) ?_
  refine lv_iconst (v := 0) hx hb dX6_init_5 (by decide) ?_
  refine va_put (D := (dC, dI)) (ci := 6) (v := .int 0) (ty := .int) (C := RX6) (T := TX6) (N := 3) hx hb hts hi_X6 tyX6 tyX6_ok nmX6 hown hK hP hD hS 0 rfl rfl 2 (by decide) k_f9 (fun _ h9 => h9) rfl (by decide +kernel) rfl rfl (Nat.le_of_ble_eq_true rfl) dX6_init_6 (fun H locs hP hD hS => ?_)
  replace hP : va_P (dC, dI) vwCl [(h0, .inr (6, [.null, .null, .int 0]))] H := hP
  replace hD : va_D A [(h0, .inr (6, [.null, .null, .int 0]))] := hD
  refine lv_iconst (v := 0) hx hb dX6_init_9 (by decide) ?_
  refine lv_iload_n hx hb dX6_init_10 rfl (lv_at hl 1 rfl) ?_
  refine lv_bipush (v := 60) hx hb dX6_init_11 (by decide) ?_
  refine va_mmin hx hb (by rw [hml]; exact hl.1.symm) hown (hts (.methodLink RX6 15 Lib.Math.min.name) (by decide +kernel)) (hts (.static Lib.Math.min.name) (by decide +kernel)) (hts (.initialized "java/lang/Math") (by decide +kernel)) (hts (.code Lib.Math.min.name Lib.Math.min.code 2 (some .int)) (by decide +kernel)) (Nat.le_of_ble_eq_true rfl) (Nat.le_of_ble_eq_true rfl) (Nat.le_of_ble_eq_true rfl) (Nat.le_of_ble_eq_true rfl) dX6_init_13 ?_
  refine lv_topi (fun x_13 ex_13 => ?_)
  obtain rfl : x_13 = 60 := ex_13.trans (by decide)
  refine va_mmax hx hb (by rw [hml]; exact hl.1.symm) hown (hts (.methodLink RX6 21 Lib.Math.max.name) (by decide +kernel)) (hts (.static Lib.Math.max.name) (by decide +kernel)) (hts (.initialized "java/lang/Math") (by decide +kernel)) (hts (.code Lib.Math.max.name Lib.Math.max.code 2 (some .int)) (by decide +kernel)) (Nat.le_of_ble_eq_true rfl) (Nat.le_of_ble_eq_true rfl) (Nat.le_of_ble_eq_true rfl) (Nat.le_of_ble_eq_true rfl) dX6_init_16 ?_
  refine lv_topi (fun x_16 ex_16 => ?_)
  obtain rfl : x_16 = 60 := ex_16.trans (by decide)
  refine lv_istore_n (lv' := [(2, .int 60), (0, .ref h0), (1, .int 60)]) hx hb dX6_init_19 rfl hl (by decide) rfl (fun ls hl => ?_)
  refine lv_aload_n hx hb dX6_init_20 rfl (lv_at hl 1 rfl) ?_
  refine lv_iload_n hx hb dX6_init_21 rfl (lv_at hl 0 rfl) ?_
  refine lv_bipush (v := 24) hx hb dX6_init_22 (by decide) ?_
  refine lv_imul hx hb dX6_init_24 ?_
  refine lv_topi (fun x_24 ex_24 => ?_)
  obtain rfl : x_24 = 1440 := ex_24.trans (by decide)
  have hSo := hS
  clear hS
  refine va_newa (atype := .byte) (ty := .byte) (N' := 1440) (a0 := (1440, .inl (fun _ => 0))) hx hb (hts (.arrayClass .byte) (by decide +kernel)) rfl hK hP hD hSo hA (fun _ => rfl) (by decide) (by decide +kernel) (by decide +kernel) (Nat.le_of_ble_eq_true rfl) (Nat.le_of_ble_eq_true rfl) dX6_init_25 (fun q25 cA25 H hK hP hD hS => ?_)
  clear hSo
  replace hP : va_P (dC, dI) vwCl [(h0, .inr (6, [.null, .null, .int 0])), (q25, .inl (cA25, 1440, .inl (fun _ => 0)))] H := hP
  replace hD : va_D A [(h0, .inr (6, [.null, .null, .int 0])), (q25, .inl (cA25, 1440, .inl (fun _ => 0)))] := hD
  have hK : va_K (dC, dI) vwCl [(cA25, .byte)] s := hK
  refine W.widen (k := 1) (n := 1440) (by omega) (by omega) ?_
  refine va_putF (D := (dC, dI)) (ci := 6) (v := .ref q25) (ty := .array .byte) (C := RX6) (T := TX6) (N := 3) hx hb hts hi_X6 tyX6 tyX6_ok nmX6 hown hK hP hD hS 0 rfl rfl 0 (by decide) k_f24 (fun _ h9 => h9) rfl hin rfl (by decide +kernel) rfl rfl (Nat.le_of_ble_eq_true rfl) dX6_init_27 (fun H locs hP hD hS => ?_)
  replace hP : va_P (dC, dI) vwCl [(h0, .inr (6, [.ref q25, .null, .int 0])), (q25, .inl (cA25, 1440, .inl (fun _ => 0)))] H := hP
  replace hD : va_D A [(h0, .inr (6, [.ref q25, .null, .int 0])), (q25, .inl (cA25, 1440, .inl (fun _ => 0)))] := hD
  refine lv_aload_n hx hb dX6_init_30 rfl (lv_at hl 1 rfl) ?_
  refine lv_iload_n hx hb dX6_init_31 rfl (lv_at hl 0 rfl) ?_
  have hSo := hS
  clear hS
  refine va_newa (atype := .int) (ty := .int) (N' := 60) (a0 := (60, .inl (fun _ => 0))) hx hb (hts (.arrayClass .int) (by decide +kernel)) rfl hK hP hD hSo hA (fun _ => rfl) (by decide) (by decide +kernel) (by decide +kernel) (Nat.le_of_ble_eq_true rfl) (Nat.le_of_ble_eq_true rfl) dX6_init_32 (fun q32 cA32 H hK hP hD hS => ?_)
  clear hSo
  replace hP : va_P (dC, dI) vwCl [(h0, .inr (6, [.ref q25, .null, .int 0])), (q25, .inl (cA25, 1440, .inl (fun _ => 0))), (q32, .inl (cA32, 60, .inl (fun _ => 0)))] H := hP
  replace hD : va_D A [(h0, .inr (6, [.ref q25, .null, .int 0])), (q25, .inl (cA25, 1440, .inl (fun _ => 0))), (q32, .inl (cA32, 60, .inl (fun _ => 0)))] := hD
  have hK : va_K (dC, dI) vwCl [(cA25, .byte), (cA32, .int)] s := hK
  refine W.widen (k := 2) (n := 1500) (by omega) (by omega) ?_
  refine va_putF (D := (dC, dI)) (ci := 6) (v := .ref q32) (ty := .array .int) (C := RX6) (T := TX6) (N := 3) hx hb hts hi_X6 tyX6 tyX6_ok nmX6 hown hK hP hD hS 0 rfl rfl 1 (by decide) k_f28 (fun _ h9 => h9) rfl hin rfl (by decide +kernel) rfl rfl (Nat.le_of_ble_eq_true rfl) dX6_init_34 (fun H locs hP hD hS => ?_)
  replace hP : va_P (dC, dI) vwCl [(h0, .inr (6, [.ref q25, .ref q32, .int 0])), (q25, .inl (cA25, 1440, .inl (fun _ => 0))), (q32, .inl (cA32, 60, .inl (fun _ => 0)))] H := hP
  replace hD : va_D A [(h0, .inr (6, [.ref q25, .ref q32, .int 0])), (q25, .inl (cA25, 1440, .inl (fun _ => 0))), (q32, .inl (cA32, 60, .inl (fun _ => 0)))] := hD
  have hP9 := hP.sub (ws' := [(h0, .inr (6, [.ref q25, .ref q32, .int 0])), (q25, .inl (cA25, 1440, .inl (fun _ => 0))), (q32, .inl (cA32, 60, .inl (fun _ => 0)))]) [0, 1, 2] rfl
  have hD9 := hD.sub (ws' := [(h0, .inr (6, [.ref q25, .ref q32, .int 0])), (q25, .inl (cA25, 1440, .inl (fun _ => 0))), (q32, .inl (cA32, 60, .inl (fun _ => 0)))]) [0, 1, 2] (by decide) rfl
  have hK9 := hK.sub (tys' := [(cA25, .byte), (cA32, .int)]) [0, 1] rfl
  refine W.widen (k := 2) (n := 1500) (Nat.le_of_ble_eq_true rfl) (Nat.le_of_ble_eq_true rfl) ?_
  exact W.vret hx hb hr (fun t ht hW => ⟨⟨(), rfl, trivial, q25, q32, cA25, cA32, by rw [ht]; exact hP9, va_K.moved hW.alike hK9, hD9⟩, hS.F ht⟩) hS.2.2 dX6_init_37

set_option maxHeartbeats 4000000 in
set_option maxRecDepth 100000 in
theorem c_X6_init_30 (l : Launch) (dC : Nat → ClassId) (dI : Nat → Nat → Nat) (h0 : Nat) (sz : Nat) : Met l yX6_init wsX6_init ({ frames := 1, cells := 2, slots := 750, locals := 14 }) (va_Pc [.ref h0, .int 30] (fun U => U.heap.size = sz ∧ va_P (dC, dI) vwCl [(h0, .inr (6, [.null, .null, .int 0]))] U.heap ∧ va_K (dC, dI) vwCl [] U ∧ va_D (fun _ => True) [(h0, .inr (6, [.null, .null, .int 0]))])) (va_Qv (fun (_ : Unit) => True) (fun (_ : Unit) (t : State) => ∃ (q0 q1 : Nat) (k0 k1 : ClassId), va_P (dC, dI) vwCl [(h0, .inr (6, [.ref q0, .ref q1, .int 0])), (q0, .inl (k0, 720, .inl (fun _ => 0))), (q1, .inl (k1, 30, .inl (fun _ => 0)))] t.heap ∧ va_K (dC, dI) vwCl [(k0, .byte), (k1, .int)] t ∧ va_D (va_A [(h0, .inr (6, [.null, .null, .int 0]))] sz) [(h0, .inr (6, [.ref q0, .ref q1, .int 0])), (q0, .inl (k0, 720, .inl (fun _ => 0))), (q1, .inl (k1, 30, .inl (fun _ => 0)))]) (va_A [(h0, .inr (6, [.null, .null, .int 0]))] sz)) 2 750 (va_A [(h0, .inr (6, [.null, .null, .int 0]))] sz) := by
  refine Met.ofW (cc := cX6_init) (maxL := 3) (ret := none) (by decide) rfl ?_
  intro p e s m args below meth c s₁ B hml hv
  obtain ⟨rfl, hsz, hP, hK, hD0⟩ := hv
  have hx := B.exec
  have hb := B.bytes
  have hr := B.returns
  have hts := atoms_spec (ws := wsX6_init) B.pre
  have hown : s.vm.findClass RX6 = some m.cls := findClass_of_methodNamed B.named
  have hlocks := B.notSynchronized
  have hin : meth.name = "<init>" := (name_of_methodNamed B.named B.method).1
  subst hsz
  have hD := hD0.self (sz := s.heap.size)
  generalize hAe : va_A [(h0, .inr (6, [.null, .null, .int 0]))] s.heap.size = A at hD ⊢
  have hA : ∀ q : Nat, s.heap.size ≤ q → A q := fun q h => by rw [← hAe]; exact Or.inr h
  have hS : va_S A s.heap s.heap [] := va_S.rf
  replace hP : va_P (dC, dI) vwCl [(h0, .inr (6, [.null, .null, .int 0]))] s.heap := hP
  have hl := lv_entry ([.ref h0, .int 30]) (n := 3) (Nat.le_of_ble_eq_true rfl)
  rw [lg_entry_eq]
  generalize (lg_sl ([.ref h0, .int 30]) ++ List.replicate (3 - (lg_sl ([.ref h0, .int 30])).length) Slot.unset).toArray = ls at hl ⊢
  replace hl : lv_has ls 3 [(0, .ref h0), (1, .int 30)] := hl
  have hi_X6 : ∀ w ∈ wsX60, w ∈ wsX6_init := by decide +kernel
  have k_f9 := hts (.fieldLink RX6 9 "TongueTeller$WordList" "size" "I") (by decide +kernel)
  have k_f24 := hts (.fieldLink RX6 24 "TongueTeller$WordList" "letters" "[B") (by decide +kernel)
  have k_f28 := hts (.fieldLink RX6 28 "TongueTeller$WordList" "lengths" "[I") (by decide +kernel)
  refine lv_aload_n hx hb dX6_init_0 rfl (lv_at hl 0 rfl) ?_
  refine W.objInit hx hb hown (hts (.methodLink RX6 3 objectInit) (by decide +kernel)) (hts (.instanceMethod objectInit) (by decide +kernel)) (hts (.code objectInit ⟨#[0xb1]⟩ 1 none) (List.mem_of_getElem? (i := 3) rfl)) rfl (by rw [hml]; exact hl.1) rfl dX6_init_1 (Nat.le_of_ble_eq_true rfl) (Nat.le_of_ble_eq_true rfl) ?_
  refine W.eq (g2 := F0 m 4 ls []) rfl ?_
  refine lv_aload_n hx hb dX6_init_4 rfl (lv_at hl 0 rfl) ?_
  refine lv_iconst (v := 0) hx hb dX6_init_5 (by decide) ?_
  refine va_put (D := (dC, dI)) (ci := 6) (v := .int 0) (ty := .int) (C := RX6) (T := TX6) (N := 3) hx hb hts hi_X6 tyX6 tyX6_ok nmX6 hown hK hP hD hS 0 rfl rfl 2 (by decide) k_f9 (fun _ h9 => h9) rfl (by decide +kernel) rfl rfl (Nat.le_of_ble_eq_true rfl) dX6_init_6 (fun H locs hP hD hS => ?_)
  replace hP : va_P (dC, dI) vwCl [(h0, .inr (6, [.null, .null, .int 0]))] H := hP
  replace hD : va_D A [(h0, .inr (6, [.null, .null, .int 0]))] := hD
  refine lv_iconst (v := 0) hx hb dX6_init_9 (by decide) ?_
  refine lv_iload_n hx hb dX6_init_10 rfl (lv_at hl 1 rfl) ?_
  refine lv_bipush (v := 60) hx hb dX6_init_11 (by decide) ?_
  refine va_mmin hx hb (by rw [hml]; exact hl.1.symm) hown (hts (.methodLink RX6 15 Lib.Math.min.name) (by decide +kernel)) (hts (.static Lib.Math.min.name) (by decide +kernel)) (hts (.initialized "java/lang/Math") (by decide +kernel)) (hts (.code Lib.Math.min.name Lib.Math.min.code 2 (some .int)) (by decide +kernel)) (Nat.le_of_ble_eq_true rfl) (Nat.le_of_ble_eq_true rfl) (Nat.le_of_ble_eq_true rfl) (Nat.le_of_ble_eq_true rfl) dX6_init_13 ?_
  refine lv_topi (fun x_13 ex_13 => ?_)
  obtain rfl : x_13 = 30 := ex_13.trans (by decide)
  refine va_mmax hx hb (by rw [hml]; exact hl.1.symm) hown (hts (.methodLink RX6 21 Lib.Math.max.name) (by decide +kernel)) (hts (.static Lib.Math.max.name) (by decide +kernel)) (hts (.initialized "java/lang/Math") (by decide +kernel)) (hts (.code Lib.Math.max.name Lib.Math.max.code 2 (some .int)) (by decide +kernel)) (Nat.le_of_ble_eq_true rfl) (Nat.le_of_ble_eq_true rfl) (Nat.le_of_ble_eq_true rfl) (Nat.le_of_ble_eq_true rfl) dX6_init_16 ?_
  refine lv_topi (fun x_16 ex_16 => ?_)
  obtain rfl : x_16 = 30 := ex_16.trans (by decide)
  refine lv_istore_n (lv' := [(2, .int 30), (0, .ref h0), (1, .int 30)]) hx hb dX6_init_19 rfl hl (by decide) rfl (fun ls hl => ?_)
  refine lv_aload_n hx hb dX6_init_20 rfl (lv_at hl 1 rfl) ?_
  refine lv_iload_n hx hb dX6_init_21 rfl (lv_at hl 0 rfl) ?_
  refine lv_bipush (v := 24) hx hb dX6_init_22 (by decide) ?_
  refine lv_imul hx hb dX6_init_24 ?_
  refine lv_topi (fun x_24 ex_24 => ?_)
  obtain rfl : x_24 = 720 := ex_24.trans (by decide)
  have hSo := hS
  clear hS
  refine va_newa (atype := .byte) (ty := .byte) (N' := 720) (a0 := (720, .inl (fun _ => 0))) hx hb (hts (.arrayClass .byte) (by decide +kernel)) rfl hK hP hD hSo hA (fun _ => rfl) (by decide) (by decide +kernel) (by decide +kernel) (Nat.le_of_ble_eq_true rfl) (Nat.le_of_ble_eq_true rfl) dX6_init_25 (fun q25 cA25 H hK hP hD hS => ?_)
  clear hSo
  replace hP : va_P (dC, dI) vwCl [(h0, .inr (6, [.null, .null, .int 0])), (q25, .inl (cA25, 720, .inl (fun _ => 0)))] H := hP
  replace hD : va_D A [(h0, .inr (6, [.null, .null, .int 0])), (q25, .inl (cA25, 720, .inl (fun _ => 0)))] := hD
  have hK : va_K (dC, dI) vwCl [(cA25, .byte)] s := hK
  refine W.widen (k := 1) (n := 720) (by omega) (by omega) ?_
  refine va_putF (D := (dC, dI)) (ci := 6) (v := .ref q25) (ty := .array .byte) (C := RX6) (T := TX6) (N := 3) hx hb hts hi_X6 tyX6 tyX6_ok nmX6 hown hK hP hD hS 0 rfl rfl 0 (by decide) k_f24 (fun _ h9 => h9) rfl hin rfl (by decide +kernel) rfl rfl (Nat.le_of_ble_eq_true rfl) dX6_init_27 (fun H locs hP hD hS => ?_)
  replace hP : va_P (dC, dI) vwCl [(h0, .inr (6, [.ref q25, .null, .int 0])), (q25, .inl (cA25, 720, .inl (fun _ => 0)))] H := hP
  replace hD : va_D A [(h0, .inr (6, [.ref q25, .null, .int 0])), (q25, .inl (cA25, 720, .inl (fun _ => 0)))] := hD
  refine lv_aload_n hx hb dX6_init_30 rfl (lv_at hl 1 rfl) ?_
  refine lv_iload_n hx hb dX6_init_31 rfl (lv_at hl 0 rfl) ?_
  have hSo := hS
  clear hS
  refine va_newa (atype := .int) (ty := .int) (N' := 30) (a0 := (30, .inl (fun _ => 0))) hx hb (hts (.arrayClass .int) (by decide +kernel)) rfl hK hP hD hSo hA (fun _ => rfl) (by decide) (by decide +kernel) (by decide +kernel) (Nat.le_of_ble_eq_true rfl) (Nat.le_of_ble_eq_true rfl) dX6_init_32 (fun q32 cA32 H hK hP hD hS => ?_)
  clear hSo
  replace hP : va_P (dC, dI) vwCl [(h0, .inr (6, [.ref q25, .null, .int 0])), (q25, .inl (cA25, 720, .inl (fun _ => 0))), (q32, .inl (cA32, 30, .inl (fun _ => 0)))] H := hP
  replace hD : va_D A [(h0, .inr (6, [.ref q25, .null, .int 0])), (q25, .inl (cA25, 720, .inl (fun _ => 0))), (q32, .inl (cA32, 30, .inl (fun _ => 0)))] := hD
  have hK : va_K (dC, dI) vwCl [(cA25, .byte), (cA32, .int)] s := hK
  refine W.widen (k := 2) (n := 750) (by omega) (by omega) ?_
  refine va_putF (D := (dC, dI)) (ci := 6) (v := .ref q32) (ty := .array .int) (C := RX6) (T := TX6) (N := 3) hx hb hts hi_X6 tyX6 tyX6_ok nmX6 hown hK hP hD hS 0 rfl rfl 1 (by decide) k_f28 (fun _ h9 => h9) rfl hin rfl (by decide +kernel) rfl rfl (Nat.le_of_ble_eq_true rfl) dX6_init_34 (fun H locs hP hD hS => ?_)
  replace hP : va_P (dC, dI) vwCl [(h0, .inr (6, [.ref q25, .ref q32, .int 0])), (q25, .inl (cA25, 720, .inl (fun _ => 0))), (q32, .inl (cA32, 30, .inl (fun _ => 0)))] H := hP
  replace hD : va_D A [(h0, .inr (6, [.ref q25, .ref q32, .int 0])), (q25, .inl (cA25, 720, .inl (fun _ => 0))), (q32, .inl (cA32, 30, .inl (fun _ => 0)))] := hD
  have hP9 := hP.sub (ws' := [(h0, .inr (6, [.ref q25, .ref q32, .int 0])), (q25, .inl (cA25, 720, .inl (fun _ => 0))), (q32, .inl (cA32, 30, .inl (fun _ => 0)))]) [0, 1, 2] rfl
  have hD9 := hD.sub (ws' := [(h0, .inr (6, [.ref q25, .ref q32, .int 0])), (q25, .inl (cA25, 720, .inl (fun _ => 0))), (q32, .inl (cA32, 30, .inl (fun _ => 0)))]) [0, 1, 2] (by decide) rfl
  have hK9 := hK.sub (tys' := [(cA25, .byte), (cA32, .int)]) [0, 1] rfl
  refine W.widen (k := 2) (n := 750) (Nat.le_of_ble_eq_true rfl) (Nat.le_of_ble_eq_true rfl) ?_
  exact W.vret hx hb hr (fun t ht hW => ⟨⟨(), rfl, trivial, q25, q32, cA25, cA32, by rw [ht]; exact hP9, va_K.moved hW.alike hK9, hD9⟩, hS.F ht⟩) hS.2.2 dX6_init_37

set_option maxHeartbeats 4000000 in
set_option maxRecDepth 100000 in
/-- TongueTeller(): the world of a new one -/
theorem c_X7_init (l : Launch) (dC : Nat → ClassId) (dI : Nat → Nat → Nat) (h0 : Nat) (sz : Nat) : Met l yX7_init wsX7_init ({ frames := 2, cells := 29, slots := 12015, locals := 36 }) (va_Pc [.ref h0] (fun U => U.heap.size = sz ∧ va_P (dC, dI) vwCl [(h0, .inr (7, [.null, .int 0, .null, .null, .int 0, .int 0, .null, .null, .null, .int 0, .int 0, .null, .null, .int 0, .null, .null, .null, .int 0]))] U.heap ∧ va_K (dC, dI) vwCl [] U ∧ va_D (fun _ => True) [(h0, .inr (7, [.null, .int 0, .null, .null, .int 0, .int 0, .null, .null, .null, .int 0, .int 0, .null, .null, .int 0, .null, .null, .null, .int 0]))] ∧ va_Nw (.methodLinkNest RX7 19 yX4_init RX7) U ∧ va_Nw (.methodLinkNest RX7 60 yX2_init RX7) U ∧ va_Nw (.methodLinkNest RX7 74 yX5_init RX7) U ∧ va_Nw (.methodLinkNest RX7 81 yX1_init RX7) U ∧ va_Nw (.methodLinkNest RX7 88 yX3_init RX7) U ∧ va_AO "TongueTeller$Learnt" U)) (va_Qv (fun (_ : Unit) => True) (fun (_ : Unit) (t : State) => ∃ (xtape xtg xtgc xheld xkw xkwl xkwn xkp xnm xnml xnmn xtt xtts xttb xttl xdr xdrs xdrb xdrl xwy xwyc xwyb xwyh xwym xlt xltr xtl xtlr xtlt : Nat) (kxtape kxtgc kxheld kxkwl kxkwn kxkp kxnml kxnmn kxtts kxttb kxttl kxdrs kxdrb kxdrl kxwyc kxwyb kxwyh kxwym kxltr kxtlr kxtlt : ClassId), va_P (dC, dI) vwCl [(h0, .inr (7, [.ref xtape, .int 0, .ref xtg, .ref xheld, .int 0, .int 0, .ref xkw, .ref xkp, .ref xnm, .int 200, .int 100, .ref xtt, .ref xdr, .int 0, .ref xwy, .ref xlt, .ref xtl, .int 0])), (xtape, .inl (kxtape, 600, .inl (fun _ => 0))), (xtg, .inr (4, [.ref xtgc, .int 0])), (xtgc, .inl (kxtgc, 6272, .inl (fun _ => 0))), (xheld, .inl (kxheld, 100, .inr (.inr (.inr (.inr (fun _ => none)))))), (xkw, .inr (6, [.ref xkwl, .ref xkwn, .int 0])), (xkwl, .inl (kxkwl, 1440, .inl (fun _ => 0))), (xkwn, .inl (kxkwn, 60, .inl (fun _ => 0))), (xkp, .inl (kxkp, 60, .inl (fun _ => 0))), (xnm, .inr (6, [.ref xnml, .ref xnmn, .int 0])), (xnml, .inl (kxnml, 720, .inl (fun _ => 0))), (xnmn, .inl (kxnmn, 30, .inl (fun _ => 0))), (xtt, .inr (2, [.ref xtts, .ref xttb, .ref xttl, .int 0, .int 0])), (xtts, .inl (kxtts, 600, .inl (fun _ => 0))), (xttb, .inl (kxttb, 60, .inl (fun _ => 0))), (xttl, .inl (kxttl, 60, .inl (fun _ => 0))), (xdr, .inr (2, [.ref xdrs, .ref xdrb, .ref xdrl, .int 0, .int 0])), (xdrs, .inl (kxdrs, 600, .inl (fun _ => 0))), (xdrb, .inl (kxdrb, 60, .inl (fun _ => 0))), (xdrl, .inl (kxdrl, 60, .inl (fun _ => 0))), (xwy, .inr (5, [.ref xwyc, .ref xwyb, .ref xwyh, .ref xwym, .int 0, .int 0, .int 0, .int (-1), .int 0])), (xwyc, .inl (kxwyc, 480, .inl (fun _ => 0))), (xwyb, .inl (kxwyb, 480, .inl (fun _ => 0))), (xwyh, .inl (kxwyh, 60, .inl (fun _ => 0))), (xwym, .inl (kxwym, 60, .inl (fun _ => 0))), (xlt, .inr (1, [.ref xltr, .int 0, .int 0])), (xltr, .inl (kxltr, 60, .inl (fun _ => 0))), (xtl, .inr (3, [.ref xtlr, .int 0, .ref xtlt])), (xtlr, .inl (kxtlr, 60, .inl (fun _ => 0))), (xtlt, .inl (kxtlt, 60, .inl (fun _ => 0)))] t.heap ∧ va_K (dC, dI) vwCl [(kxtape, .byte), (kxtgc, .int), (kxheld, .object "TongueTeller$Learnt"), (kxkwl, .byte), (kxkwn, .int), (kxkp, .int), (kxnml, .byte), (kxnmn, .int), (kxtts, .byte), (kxttb, .int), (kxttl, .int), (kxdrs, .byte), (kxdrb, .int), (kxdrl, .int), (kxwyc, .int), (kxwyb, .int), (kxwyh, .int), (kxwym, .int), (kxltr, .int), (kxtlr, .int), (kxtlt, .boolean)] t ∧ va_D (va_A [(h0, .inr (7, [.null, .int 0, .null, .null, .int 0, .int 0, .null, .null, .null, .int 0, .int 0, .null, .null, .int 0, .null, .null, .null, .int 0]))] sz) [(h0, .inr (7, [.ref xtape, .int 0, .ref xtg, .ref xheld, .int 0, .int 0, .ref xkw, .ref xkp, .ref xnm, .int 200, .int 100, .ref xtt, .ref xdr, .int 0, .ref xwy, .ref xlt, .ref xtl, .int 0])), (xtape, .inl (kxtape, 600, .inl (fun _ => 0))), (xtg, .inr (4, [.ref xtgc, .int 0])), (xtgc, .inl (kxtgc, 6272, .inl (fun _ => 0))), (xheld, .inl (kxheld, 100, .inr (.inr (.inr (.inr (fun _ => none)))))), (xkw, .inr (6, [.ref xkwl, .ref xkwn, .int 0])), (xkwl, .inl (kxkwl, 1440, .inl (fun _ => 0))), (xkwn, .inl (kxkwn, 60, .inl (fun _ => 0))), (xkp, .inl (kxkp, 60, .inl (fun _ => 0))), (xnm, .inr (6, [.ref xnml, .ref xnmn, .int 0])), (xnml, .inl (kxnml, 720, .inl (fun _ => 0))), (xnmn, .inl (kxnmn, 30, .inl (fun _ => 0))), (xtt, .inr (2, [.ref xtts, .ref xttb, .ref xttl, .int 0, .int 0])), (xtts, .inl (kxtts, 600, .inl (fun _ => 0))), (xttb, .inl (kxttb, 60, .inl (fun _ => 0))), (xttl, .inl (kxttl, 60, .inl (fun _ => 0))), (xdr, .inr (2, [.ref xdrs, .ref xdrb, .ref xdrl, .int 0, .int 0])), (xdrs, .inl (kxdrs, 600, .inl (fun _ => 0))), (xdrb, .inl (kxdrb, 60, .inl (fun _ => 0))), (xdrl, .inl (kxdrl, 60, .inl (fun _ => 0))), (xwy, .inr (5, [.ref xwyc, .ref xwyb, .ref xwyh, .ref xwym, .int 0, .int 0, .int 0, .int (-1), .int 0])), (xwyc, .inl (kxwyc, 480, .inl (fun _ => 0))), (xwyb, .inl (kxwyb, 480, .inl (fun _ => 0))), (xwyh, .inl (kxwyh, 60, .inl (fun _ => 0))), (xwym, .inl (kxwym, 60, .inl (fun _ => 0))), (xlt, .inr (1, [.ref xltr, .int 0, .int 0])), (xltr, .inl (kxltr, 60, .inl (fun _ => 0))), (xtl, .inr (3, [.ref xtlr, .int 0, .ref xtlt])), (xtlr, .inl (kxtlr, 60, .inl (fun _ => 0))), (xtlt, .inl (kxtlt, 60, .inl (fun _ => 0)))]) (va_A [(h0, .inr (7, [.null, .int 0, .null, .null, .int 0, .int 0, .null, .null, .null, .int 0, .int 0, .null, .null, .int 0, .null, .null, .null, .int 0]))] sz)) 29 12015 (va_A [(h0, .inr (7, [.null, .int 0, .null, .null, .int 0, .int 0, .null, .null, .null, .int 0, .int 0, .null, .null, .int 0, .null, .null, .null, .int 0]))] sz) := by
  refine Met.ofW (cc := cX7_init) (maxL := 1) (ret := none) (by decide) rfl ?_
  intro p e s m args below meth c s₁ B hml hv
  obtain ⟨rfl, hsz, hP, hK, hD0, hnw_19, hnw_60, hnw_74, hnw_81, hnw_88, hao_32⟩ := hv
  have hx := B.exec
  have hb := B.bytes
  have hr := B.returns
  have hts := atoms_spec (ws := wsX7_init) B.pre
  have hown : s.vm.findClass RX7 = some m.cls := findClass_of_methodNamed B.named
  have hlocks := B.notSynchronized
  have hin : meth.name = "<init>" := (name_of_methodNamed B.named B.method).1
  subst hsz
  have hD := hD0.self (sz := s.heap.size)
  generalize hAe : va_A [(h0, .inr (7, [.null, .int 0, .null, .null, .int 0, .int 0, .null, .null, .null, .int 0, .int 0, .null, .null, .int 0, .null, .null, .null, .int 0]))] s.heap.size = A at hD ⊢
  have hA : ∀ q : Nat, s.heap.size ≤ q → A q := fun q h => by rw [← hAe]; exact Or.inr h
  have hS : va_S A s.heap s.heap [] := va_S.rf
  replace hP : va_P (dC, dI) vwCl [(h0, .inr (7, [.null, .int 0, .null, .null, .int 0, .int 0, .null, .null, .null, .int 0, .int 0, .null, .null, .int 0, .null, .null, .null, .int 0]))] s.heap := hP
  have hl := lv_entry ([.ref h0]) (n := 1) (Nat.le_of_ble_eq_true rfl)
  rw [lg_entry_eq]
  generalize (lg_sl ([.ref h0]) ++ List.replicate (1 - (lg_sl ([.ref h0])).length) Slot.unset).toArray = ls at hl ⊢
  replace hl : lv_has ls 1 [(0, .ref h0)] := hl
  have hi_X7 : ∀ w ∈ wsX70, w ∈ wsX7_init := by decide +kernel
  have k_f9 := hts (.fieldLink RX7 9 "TongueTeller" "tape" "[B") (by decide +kernel)
  have k_f13 := hts (.fieldLink RX7 13 "TongueTeller" "tapeSize" "I") (by decide +kernel)
  have hi_X4 : ∀ w ∈ wsX40, w ∈ wsX7_init := by decide +kernel
  have k_f20 := hts (.fieldLink RX7 20 "TongueTeller" "tongues" "LTongueTeller$Tongues;") (by decide +kernel)
  have k_f26 := hts (.fieldLink RX7 26 "TongueTeller" "held" "[LTongueTeller$Learnt;") (by decide +kernel)
  have k_f30 := hts (.fieldLink RX7 30 "TongueTeller" "heldCount" "I") (by decide +kernel)
  have k_f33 := hts (.fieldLink RX7 33 "TongueTeller" "nextLearnt" "I") (by decide +kernel)
  have hi_X6 : ∀ w ∈ wsX60, w ∈ wsX7_init := by decide +kernel
  have k_f41 := hts (.fieldLink RX7 41 "TongueTeller" "keywords" "LTongueTeller$WordList;") (by decide +kernel)
  have k_f45 := hts (.fieldLink RX7 45 "TongueTeller" "keepers" "[I") (by decide +kernel)
  have k_f49 := hts (.fieldLink RX7 49 "TongueTeller" "names" "LTongueTeller$WordList;") (by decide +kernel)
  have k_f52 := hts (.fieldLink RX7 52 "TongueTeller" "change" "I") (by decide +kernel)
  have k_f55 := hts (.fieldLink RX7 55 "TongueTeller" "gap" "I") (by decide +kernel)
  have hi_X2 : ∀ w ∈ wsX20, w ∈ wsX7_init := by decide +kernel
  have k_f61 := hts (.fieldLink RX7 61 "TongueTeller" "theText" "LTongueTeller$Script;") (by decide +kernel)
  have k_f65 := hts (.fieldLink RX7 65 "TongueTeller" "draft" "LTongueTeller$Script;") (by decide +kernel)
  have k_f68 := hts (.fieldLink RX7 68 "TongueTeller" "hasText" "Z") (by decide +kernel)
  have hi_X5 : ∀ w ∈ wsX50, w ∈ wsX7_init := by decide +kernel
  have k_f75 := hts (.fieldLink RX7 75 "TongueTeller" "way" "LTongueTeller$Way;") (by decide +kernel)
  have hi_X1 : ∀ w ∈ wsX10, w ∈ wsX7_init := by decide +kernel
  have k_f82 := hts (.fieldLink RX7 82 "TongueTeller" "latest" "LTongueTeller$Parting;") (by decide +kernel)
  have hi_X3 : ∀ w ∈ wsX30, w ∈ wsX7_init := by decide +kernel
  have k_f89 := hts (.fieldLink RX7 89 "TongueTeller" "tellers" "LTongueTeller$Telling;") (by decide +kernel)
  have k_f93 := hts (.fieldLink RX7 93 "TongueTeller" "latestTrouble" "I") (by decide +kernel)
  refine lv_aload_n hx hb dX7_init_0 rfl (lv_at hl 0 rfl) ?_
  refine W.objInit hx hb hown (hts (.methodLink RX7 1 objectInit) (by decide +kernel)) (hts (.instanceMethod objectInit) (by decide +kernel)) (hts (.code objectInit ⟨#[0xb1]⟩ 1 none) (List.mem_of_getElem? (i := 3) rfl)) rfl (by rw [hml]; exact hl.1) rfl dX7_init_1 (Nat.le_of_ble_eq_true rfl) (Nat.le_of_ble_eq_true rfl) ?_
  refine W.eq (g2 := F0 m 4 ls []) rfl ?_
  refine lv_aload_n hx hb dX7_init_4 rfl (lv_at hl 0 rfl) ?_
  refine lv_sipush (v := 600) hx hb dX7_init_5 (by decide) ?_
  have hSo := hS
  clear hS
  refine va_newa (atype := .byte) (ty := .byte) (N' := 600) (a0 := (600, .inl (fun _ => 0))) hx hb (hts (.arrayClass .byte) (by decide +kernel)) rfl hK hP hD hSo hA (fun _ => rfl) (by decide) (by decide +kernel) (by decide +kernel) (Nat.le_of_ble_eq_true rfl) (Nat.le_of_ble_eq_true rfl) dX7_init_8 (fun q8 cA8 H hK hP hD hS => ?_)
  clear hSo
  replace hP : va_P (dC, dI) vwCl [(h0, .inr (7, [.null, .int 0, .null, .null, .int 0, .int 0, .null, .null, .null, .int 0, .int 0, .null, .null, .int 0, .null, .null, .null, .int 0])), (q8, .inl (cA8, 600, .inl (fun _ => 0)))] H := hP
  replace hD : va_D A [(h0, .inr (7, [.null, .int 0, .null, .null, .int 0, .int 0, .null, .null, .null, .int 0, .int 0, .null, .null, .int 0, .null, .null, .null, .int 0])), (q8, .inl (cA8, 600, .inl (fun _ => 0)))] := hD
  have hK : va_K (dC, dI) vwCl [(cA8, .byte)] s := hK
  refine W.widen (k := 1) (n := 600) (by omega) (by omega) ?_
  refine va_putF (D := (dC, dI)) (ci := 7) (v := .ref q8) (ty := .array .byte) (C := RX7) (T := TX7) (N := 18) hx hb hts hi_X7 tyX7 tyX7_ok nmX7 hown hK hP hD hS 0 rfl rfl 0 (by decide) k_f9 (fun _ h9 => h9) rfl hin rfl (by decide +kernel) rfl rfl (Nat.le_of_ble_eq_true rfl) dX7_init_10 (fun H locs hP hD hS => ?_)
  replace hP : va_P (dC, dI) vwCl [(h0, .inr (7, [.ref q8, .int 0, .null, .null, .int 0, .int 0, .null, .null, .null, .int 0, .int 0, .null, .null, .int 0, .null, .null, .null, .int 0])), (q8, .inl (cA8, 600, .inl (fun _ => 0)))] H := hP
  replace hD : va_D A [(h0, .inr (7, [.ref q8, .int 0, .null, .null, .int 0, .int 0, .null, .null, .null, .int 0, .int 0, .null, .null, .int 0, .null, .null, .null, .int 0])), (q8, .inl (cA8, 600, .inl (fun _ => 0)))] := hD
  refine lv_aload_n hx hb dX7_init_13 rfl (lv_at hl 0 rfl) ?_
  refine lv_iconst (v := 0) hx hb dX7_init_14 (by decide) ?_
  refine va_put (D := (dC, dI)) (ci := 7) (v := .int 0) (ty := .int) (C := RX7) (T := TX7) (N := 18) hx hb hts hi_X7 tyX7 tyX7_ok nmX7 hown hK hP hD hS 0 rfl rfl 1 (by decide) k_f13 (fun _ h9 => h9) rfl (by decide +kernel) rfl rfl (Nat.le_of_ble_eq_true rfl) dX7_init_15 (fun H locs hP hD hS => ?_)
  replace hP : va_P (dC, dI) vwCl [(h0, .inr (7, [.ref q8, .int 0, .null, .null, .int 0, .int 0, .null, .null, .null, .int 0, .int 0, .null, .null, .int 0, .null, .null, .null, .int 0])), (q8, .inl (cA8, 600, .inl (fun _ => 0)))] H := hP
  replace hD : va_D A [(h0, .inr (7, [.ref q8, .int 0, .null, .null, .int 0, .int 0, .null, .null, .null, .int 0, .int 0, .null, .null, .int 0, .null, .null, .null, .int 0])), (q8, .inl (cA8, 600, .inl (fun _ => 0)))] := hD
  refine lv_aload_n hx hb dX7_init_18 rfl (lv_at hl 0 rfl) ?_
  have hSo := hS
  clear hS
  refine va_new (ci := 4) (fs := [.null, .int 0]) (C := RX4) (T := TX4) (N := 2) hx hb hts hi_X4 tyX4 tyX4_ok hown (hts (.classLink RX7 17 RX4) (by decide +kernel)) (hts (.instantiable RX4 2) (by decide +kernel)) (hts (.initialized RX4) (by decide +kernel)) hK hP hD hSo hA rfl (fun j hj => by match j, hj with | 0, _ => rfl | 1, _ => rfl | k + 2, h => omega) (Nat.le_of_ble_eq_true rfl) (Nat.le_of_ble_eq_true rfl) dX7_init_19 (fun q19 H hP hD hS => ?_)
  clear hSo
  replace hP : va_P (dC, dI) vwCl [(h0, .inr (7, [.ref q8, .int 0, .null, .null, .int 0, .int 0, .null, .null, .null, .int 0, .int 0, .null, .null, .int 0, .null, .null, .null, .int 0])), (q8, .inl (cA8, 600, .inl (fun _ => 0))), (q19, .inr (4, [.null, .int 0]))] H := hP
  replace hD : va_D A [(h0, .inr (7, [.ref q8, .int 0, .null, .null, .int 0, .int 0, .null, .null, .null, .int 0, .int 0, .null, .null, .int 0, .null, .null, .null, .int 0])), (q8, .inl (cA8, 600, .inl (fun _ => 0))), (q19, .inr (4, [.null, .int 0]))] := hD
  refine W.widen (k := 2) (n := 602) (by omega) (by omega) ?_
  refine lv_dup hx hb dX7_init_22 rfl ?_
  have hPc := hP.sub (ws' := [(q19, .inr (4, [.null, .int 0]))]) [2] rfl
  have hDc := hD.sub (ws' := [(q19, .inr (4, [.null, .int 0]))]) [2] (by decide) rfl
  have hKc := hK.sub (tys' := []) [] rfl
  have hFc := va_free (wc := [(q19, .inr (4, [.null, .int 0]))]) hD hS hA [2] rfl
  refine va_callv (va_runIN (As := []) (rest := [.ref q19, .ref h0]) ⟨hx, hb, hml, hown, hts⟩ (c_X4_init l dC dI q19 H.size) ⟨va_cnB 0 hts gX7_init_X4_init_n19 rfl rfl rfl hnw_19 (hts (.initialized RX4) (by decide +kernel)) (by decide +kernel) ⟨Nat.le_of_ble_eq_true rfl, Nat.le_of_ble_eq_true rfl⟩, rfl, hts (.instanceMethod yX4_init) (by decide +kernel)⟩ ⟨fun a U g mk q => by obtain ⟨q0, q1, qP, qK, qD⟩ := q; exact ⟨q0, q1, qP, va_K.moved (u := U) (U := U.calling g mk a) (Vm.Alike.refl U.vm) qK, qD⟩, fun U hU hW => ⟨rfl, by rw [hU], by rw [hU]; exact hPc, va_K.moved hW.alike hKc, hDc.weaken (fun _ _ _ _ => trivial)⟩⟩ rfl rfl hl.1 rfl (lv_room (Nat.le_of_ble_eq_true rfl)) dX7_init_23 ⟨Nat.le_of_ble_eq_true rfl, Nat.le_of_ble_eq_true rfl⟩) hS (fun q _ h => hFc q h) hFc (fun u t H1 locs ht hvm hw_23 hB hz1 hk1 hS => ?_)
  obtain ⟨q0_23, k0_23, hP1, hK1, hD1⟩ := hB
  rw [ht] at hP1
  obtain ⟨hP, hD⟩ := va_join (wr := [(h0, .inr (7, [.ref q8, .int 0, .null, .null, .int 0, .int 0, .null, .null, .null, .int 0, .int 0, .null, .null, .int 0, .null, .null, .null, .int 0])), (q8, .inl (cA8, 600, .inl (fun _ => 0)))]) (w1 := [(q19, .inr (4, [.ref q0_23, .int 0])), (q0_23, .inl (k0_23, 6272, .inl (fun _ => 0)))]) hP hD [2] [0, 1] rfl rfl (by decide) (by decide) hk1 hFc hP1 hD1
  have hK1 := va_K.moved hvm.symm hK1
  have hK := hK.app hK1
  have hK : va_K (dC, dI) vwCl [(cA8, .byte), (k0_23, .int)] s := hK
  generalize H1 = H at hP hS ⊢
  replace hP : va_P (dC, dI) vwCl [(h0, .inr (7, [.ref q8, .int 0, .null, .null, .int 0, .int 0, .null, .null, .null, .int 0, .int 0, .null, .null, .int 0, .null, .null, .null, .int 0])), (q8, .inl (cA8, 600, .inl (fun _ => 0))), (q19, .inr (4, [.ref q0_23, .int 0])), (q0_23, .inl (k0_23, 6272, .inl (fun _ => 0)))] H := hP
  replace hD : va_D A [(h0, .inr (7, [.ref q8, .int 0, .null, .null, .int 0, .int 0, .null, .null, .null, .int 0, .int 0, .null, .null, .int 0, .null, .null, .null, .int 0])), (q8, .inl (cA8, 600, .inl (fun _ => 0))), (q19, .inr (4, [.ref q0_23, .int 0])), (q0_23, .inl (k0_23, 6272, .inl (fun _ => 0)))] := hD
  refine W.widen (k := 3) (n := 6874) (by omega) (by omega) ?_
  refine va_putF (D := (dC, dI)) (ci := 7) (v := .ref q19) (ty := .object "TongueTeller$Tongues") (C := RX7) (T := TX7) (N := 18) hx hb hts hi_X7 tyX7 tyX7_ok nmX7 hown hK hP hD hS 0 rfl rfl 2 (by decide) k_f20 (fun _ h9 => h9) rfl hin rfl (by decide +kernel) rfl rfl (Nat.le_of_ble_eq_true rfl) dX7_init_26 (fun H locs hP hD hS => ?_)
  replace hP : va_P (dC, dI) vwCl [(h0, .inr (7, [.ref q8, .int 0, .ref q19, .null, .int 0, .int 0, .null, .null, .null, .int 0, .int 0, .null, .null, .int 0, .null, .null, .null, .int 0])), (q8, .inl (cA8, 600, .inl (fun _ => 0))), (q19, .inr (4, [.ref q0_23, .int 0])), (q0_23, .inl (k0_23, 6272, .inl (fun _ => 0)))] H := hP
  replace hD : va_D A [(h0, .inr (7, [.ref q8, .int 0, .ref q19, .null, .int 0, .int 0, .null, .null, .null, .int 0, .int 0, .null, .null, .int 0, .null, .null, .null, .int 0])), (q8, .inl (cA8, 600, .inl (fun _ => 0))), (q19, .inr (4, [.ref q0_23, .int 0])), (q0_23, .inl (k0_23, 6272, .inl (fun _ => 0)))] := hD
  refine lv_aload_n hx hb dX7_init_29 rfl (lv_at hl 0 rfl) ?_
  refine lv_bipush (v := 100) hx hb dX7_init_30 (by decide) ?_
  refine va_newq (N' := 100) hx hb hown (hts (.classLink RX7 24 RX0) (by decide +kernel)) hao_32 hK hP hD hS hA (by decide) (by decide +kernel) (by decide +kernel) (Nat.le_of_ble_eq_true rfl) (Nat.le_of_ble_eq_true rfl) dX7_init_32 (fun q32 cA32 H hK hP hD hS => ?_)
  replace hP : va_P (dC, dI) vwCl [(h0, .inr (7, [.ref q8, .int 0, .ref q19, .null, .int 0, .int 0, .null, .null, .null, .int 0, .int 0, .null, .null, .int 0, .null, .null, .null, .int 0])), (q8, .inl (cA8, 600, .inl (fun _ => 0))), (q19, .inr (4, [.ref q0_23, .int 0])), (q0_23, .inl (k0_23, 6272, .inl (fun _ => 0))), (q32, .inl (cA32, 100, .inr (.inr (.inr (.inr (fun _ => none))))))] H := hP
  replace hD : va_D A [(h0, .inr (7, [.ref q8, .int 0, .ref q19, .null, .int 0, .int 0, .null, .null, .null, .int 0, .int 0, .null, .null, .int 0, .null, .null, .null, .int 0])), (q8, .inl (cA8, 600, .inl (fun _ => 0))), (q19, .inr (4, [.ref q0_23, .int 0])), (q0_23, .inl (k0_23, 6272, .inl (fun _ => 0))), (q32, .inl (cA32, 100, .inr (.inr (.inr (.inr (fun _ => none))))))] := hD
  have hK : va_K (dC, dI) vwCl [(cA8, .byte), (k0_23, .int), (cA32, .object "TongueTeller$Learnt")] s := hK
  refine W.widen (k := 4) (n := 6974) (by omega) (by omega) ?_
  refine va_putF (D := (dC, dI)) (ci := 7) (v := .ref q32) (ty := .array (.object "TongueTeller$Learnt")) (C := RX7) (T := TX7) (N := 18) hx hb hts hi_X7 tyX7 tyX7_ok nmX7 hown hK hP hD hS 0 rfl rfl 3 (by decide) k_f26 (fun _ h9 => h9) rfl hin rfl (by decide +kernel) rfl rfl (Nat.le_of_ble_eq_true rfl) dX7_init_35 (fun H locs hP hD hS => ?_)
  replace hP : va_P (dC, dI) vwCl [(h0, .inr (7, [.ref q8, .int 0, .ref q19, .ref q32, .int 0, .int 0, .null, .null, .null, .int 0, .int 0, .null, .null, .int 0, .null, .null, .null, .int 0])), (q8, .inl (cA8, 600, .inl (fun _ => 0))), (q19, .inr (4, [.ref q0_23, .int 0])), (q0_23, .inl (k0_23, 6272, .inl (fun _ => 0))), (q32, .inl (cA32, 100, .inr (.inr (.inr (.inr (fun _ => none))))))] H := hP
  replace hD : va_D A [(h0, .inr (7, [.ref q8, .int 0, .ref q19, .ref q32, .int 0, .int 0, .null, .null, .null, .int 0, .int 0, .null, .null, .int 0, .null, .null, .null, .int 0])), (q8, .inl (cA8, 600, .inl (fun _ => 0))), (q19, .inr (4, [.ref q0_23, .int 0])), (q0_23, .inl (k0_23, 6272, .inl (fun _ => 0))), (q32, .inl (cA32, 100, .inr (.inr (.inr (.inr (fun _ => none))))))] := hD
  refine lv_aload_n hx hb dX7_init_38 rfl (lv_at hl 0 rfl) ?_
  refine lv_iconst (v := 0) hx hb dX7_init_39 (by decide) ?_
  refine va_put (D := (dC, dI)) (ci := 7) (v := .int 0) (ty := .int) (C := RX7) (T := TX7) (N := 18) hx hb hts hi_X7 tyX7 tyX7_ok nmX7 hown hK hP hD hS 0 rfl rfl 4 (by decide) k_f30 (fun _ h9 => h9) rfl (by decide +kernel) rfl rfl (Nat.le_of_ble_eq_true rfl) dX7_init_40 (fun H locs hP hD hS => ?_)
  replace hP : va_P (dC, dI) vwCl [(h0, .inr (7, [.ref q8, .int 0, .ref q19, .ref q32, .int 0, .int 0, .null, .null, .null, .int 0, .int 0, .null, .null, .int 0, .null, .null, .null, .int 0])), (q8, .inl (cA8, 600, .inl (fun _ => 0))), (q19, .inr (4, [.ref q0_23, .int 0])), (q0_23, .inl (k0_23, 6272, .inl (fun _ => 0))), (q32, .inl (cA32, 100, .inr (.inr (.inr (.inr (fun _ => none))))))] H := hP
  replace hD : va_D A [(h0, .inr (7, [.ref q8, .int 0, .ref q19, .ref q32, .int 0, .int 0, .null, .null, .null, .int 0, .int 0, .null, .null, .int 0, .null, .null, .null, .int 0])), (q8, .inl (cA8, 600, .inl (fun _ => 0))), (q19, .inr (4, [.ref q0_23, .int 0])), (q0_23, .inl (k0_23, 6272, .inl (fun _ => 0))), (q32, .inl (cA32, 100, .inr (.inr (.inr (.inr (fun _ => none))))))] := hD
  refine lv_aload_n hx hb dX7_init_43 rfl (lv_at hl 0 rfl) ?_
  refine lv_iconst (v := 0) hx hb dX7_init_44 (by decide) ?_
  refine va_put (D := (dC, dI)) (ci := 7) (v := .int 0) (ty := .int) (C := RX7) (T := TX7) (N := 18) hx hb hts hi_X7 tyX7 tyX7_ok nmX7 hown hK hP hD hS 0 rfl rfl 5 (by decide) k_f33 (fun _ h9 => h9) rfl (by decide +kernel) rfl rfl (Nat.le_of_ble_eq_true rfl) dX7_init_45 (fun H locs hP hD hS => ?_)
  replace hP : va_P (dC, dI) vwCl [(h0, .inr (7, [.ref q8, .int 0, .ref q19, .ref q32, .int 0, .int 0, .null, .null, .null, .int 0, .int 0, .null, .null, .int 0, .null, .null, .null, .int 0])), (q8, .inl (cA8, 600, .inl (fun _ => 0))), (q19, .inr (4, [.ref q0_23, .int 0])), (q0_23, .inl (k0_23, 6272, .inl (fun _ => 0))), (q32, .inl (cA32, 100, .inr (.inr (.inr (.inr (fun _ => none))))))] H := hP
  replace hD : va_D A [(h0, .inr (7, [.ref q8, .int 0, .ref q19, .ref q32, .int 0, .int 0, .null, .null, .null, .int 0, .int 0, .null, .null, .int 0, .null, .null, .null, .int 0])), (q8, .inl (cA8, 600, .inl (fun _ => 0))), (q19, .inr (4, [.ref q0_23, .int 0])), (q0_23, .inl (k0_23, 6272, .inl (fun _ => 0))), (q32, .inl (cA32, 100, .inr (.inr (.inr (.inr (fun _ => none))))))] := hD
  refine lv_aload_n hx hb dX7_init_48 rfl (lv_at hl 0 rfl) ?_
  have hSo := hS
  clear hS
  refine va_new (ci := 6) (fs := [.null, .null, .int 0]) (C := RX6) (T := TX6) (N := 3) hx hb hts hi_X6 tyX6 tyX6_ok hown (hts (.classLink RX7 36 RX6) (by decide +kernel)) (hts (.instantiable RX6 3) (by decide +kernel)) (hts (.initialized RX6) (by decide +kernel)) hK hP hD hSo hA rfl (fun j hj => by match j, hj with | 0, _ => rfl | 1, _ => rfl | 2, _ => rfl | k + 3, h => omega) (Nat.le_of_ble_eq_true rfl) (Nat.le_of_ble_eq_true rfl) dX7_init_49 (fun q49 H hP hD hS => ?_)
  clear hSo
  replace hP : va_P (dC, dI) vwCl [(h0, .inr (7, [.ref q8, .int 0, .ref q19, .ref q32, .int 0, .int 0, .null, .null, .null, .int 0, .int 0, .null, .null, .int 0, .null, .null, .null, .int 0])), (q8, .inl (cA8, 600, .inl (fun _ => 0))), (q19, .inr (4, [.ref q0_23, .int 0])), (q0_23, .inl (k0_23, 6272, .inl (fun _ => 0))), (q32, .inl (cA32, 100, .inr (.inr (.inr (.inr (fun _ => none)))))), (q49, .inr (6, [.null, .null, .int 0]))] H := hP
  replace hD : va_D A [(h0, .inr (7, [.ref q8, .int 0, .ref q19, .ref q32, .int 0, .int 0, .null, .null, .null, .int 0, .int 0, .null, .null, .int 0, .null, .null, .null, .int 0])), (q8, .inl (cA8, 600, .inl (fun _ => 0))), (q19, .inr (4, [.ref q0_23, .int 0])), (q0_23, .inl (k0_23, 6272, .inl (fun _ => 0))), (q32, .inl (cA32, 100, .inr (.inr (.inr (.inr (fun _ => none)))))), (q49, .inr (6, [.null, .null, .int 0]))] := hD
  refine W.widen (k := 5) (n := 6977) (by omega) (by omega) ?_
  refine lv_dup hx hb dX7_init_52 rfl ?_
  refine lv_bipush (v := 60) hx hb dX7_init_53 (by decide) ?_
  have hPc := hP.sub (ws' := [(q49, .inr (6, [.null, .null, .int 0]))]) [5] rfl
  have hDc := hD.sub (ws' := [(q49, .inr (6, [.null, .null, .int 0]))]) [5] (by decide) rfl
  have hKc := hK.sub (tys' := []) [] rfl
  have hFc := va_free (wc := [(q49, .inr (6, [.null, .null, .int 0]))]) hD hS hA [5] rfl
  refine va_callv (va_runI (As := [.int 60]) (rest := [.ref q49, .ref h0]) ⟨hx, hb, hml, hown, hts⟩ (c_X6_init_60 l dC dI q49 H.size) (cwI 1 hts gX7_init_X6_init rfl rfl rfl (hts (.initialized RX6) (by decide +kernel)) (hts (.methodLink RX7 38 yX6_init) (by decide +kernel)) (hts (.instanceMethod yX6_init) (by decide +kernel)) rfl (by decide +kernel) ⟨Nat.le_of_ble_eq_true rfl, Nat.le_of_ble_eq_true rfl⟩) ⟨fun a U g mk q => by obtain ⟨q0, q1, qP, qK, qD⟩ := q; exact ⟨q0, q1, qP, va_K.moved (u := U) (U := U.calling g mk a) (Vm.Alike.refl U.vm) qK, qD⟩, fun U hU hW => ⟨rfl, by rw [hU], by rw [hU]; exact hPc, va_K.moved hW.alike hKc, hDc.weaken (fun _ _ _ _ => trivial)⟩⟩ rfl rfl hl.1 rfl (lv_room (Nat.le_of_ble_eq_true rfl)) dX7_init_55 ⟨Nat.le_of_ble_eq_true rfl, Nat.le_of_ble_eq_true rfl⟩) hS (fun q _ h => hFc q h) hFc (fun u t H1 locs ht hvm hw_55 hB hz1 hk1 hS => ?_)
  obtain ⟨q0_55, q1_55, k0_55, k1_55, hP1, hK1, hD1⟩ := hB
  rw [ht] at hP1
  obtain ⟨hP, hD⟩ := va_join (wr := [(h0, .inr (7, [.ref q8, .int 0, .ref q19, .ref q32, .int 0, .int 0, .null, .null, .null, .int 0, .int 0, .null, .null, .int 0, .null, .null, .null, .int 0])), (q8, .inl (cA8, 600, .inl (fun _ => 0))), (q19, .inr (4, [.ref q0_23, .int 0])), (q0_23, .inl (k0_23, 6272, .inl (fun _ => 0))), (q32, .inl (cA32, 100, .inr (.inr (.inr (.inr (fun _ => none))))))]) (w1 := [(q49, .inr (6, [.ref q0_55, .ref q1_55, .int 0])), (q0_55, .inl (k0_55, 1440, .inl (fun _ => 0))), (q1_55, .inl (k1_55, 60, .inl (fun _ => 0)))]) hP hD [5] [0, 1, 2, 3, 4] rfl rfl (by decide) (by decide) hk1 hFc hP1 hD1
  have hK1 := va_K.moved hvm.symm hK1
  have hK := hK.app hK1
  have hK : va_K (dC, dI) vwCl [(cA8, .byte), (k0_23, .int), (cA32, .object "TongueTeller$Learnt"), (k0_55, .byte), (k1_55, .int)] s := hK
  generalize H1 = H at hP hS ⊢
  replace hP : va_P (dC, dI) vwCl [(h0, .inr (7, [.ref q8, .int 0, .ref q19, .ref q32, .int 0, .int 0, .null, .null, .null, .int 0, .int 0, .null, .null, .int 0, .null, .null, .null, .int 0])), (q8, .inl (cA8, 600, .inl (fun _ => 0))), (q19, .inr (4, [.ref q0_23, .int 0])), (q0_23, .inl (k0_23, 6272, .inl (fun _ => 0))), (q32, .inl (cA32, 100, .inr (.inr (.inr (.inr (fun _ => none)))))), (q49, .inr (6, [.ref q0_55, .ref q1_55, .int 0])), (q0_55, .inl (k0_55, 1440, .inl (fun _ => 0))), (q1_55, .inl (k1_55, 60, .inl (fun _ => 0)))] H := hP
  replace hD : va_D A [(h0, .inr (7, [.ref q8, .int 0, .ref q19, .ref q32, .int 0, .int 0, .null, .null, .null, .int 0, .int 0, .null, .null, .int 0, .null, .null, .null, .int 0])), (q8, .inl (cA8, 600, .inl (fun _ => 0))), (q19, .inr (4, [.ref q0_23, .int 0])), (q0_23, .inl (k0_23, 6272, .inl (fun _ => 0))), (q32, .inl (cA32, 100, .inr (.inr (.inr (.inr (fun _ => none)))))), (q49, .inr (6, [.ref q0_55, .ref q1_55, .int 0])), (q0_55, .inl (k0_55, 1440, .inl (fun _ => 0))), (q1_55, .inl (k1_55, 60, .inl (fun _ => 0)))] := hD
  refine W.widen (k := 7) (n := 8477) (by omega) (by omega) ?_
  refine va_putF (D := (dC, dI)) (ci := 7) (v := .ref q49) (ty := .object "TongueTeller$WordList") (C := RX7) (T := TX7) (N := 18) hx hb hts hi_X7 tyX7 tyX7_ok nmX7 hown hK hP hD hS 0 rfl rfl 6 (by decide) k_f41 (fun _ h9 => h9) rfl hin rfl (by decide +kernel) rfl rfl (Nat.le_of_ble_eq_true rfl) dX7_init_58 (fun H locs hP hD hS => ?_)
  replace hP : va_P (dC, dI) vwCl [(h0, .inr (7, [.ref q8, .int 0, .ref q19, .ref q32, .int 0, .int 0, .ref q49, .null, .null, .int 0, .int 0, .null, .null, .int 0, .null, .null, .null, .int 0])), (q8, .inl (cA8, 600, .inl (fun _ => 0))), (q19, .inr (4, [.ref q0_23, .int 0])), (q0_23, .inl (k0_23, 6272, .inl (fun _ => 0))), (q32, .inl (cA32, 100, .inr (.inr (.inr (.inr (fun _ => none)))))), (q49, .inr (6, [.ref q0_55, .ref q1_55, .int 0])), (q0_55, .inl (k0_55, 1440, .inl (fun _ => 0))), (q1_55, .inl (k1_55, 60, .inl (fun _ => 0)))] H := hP
  replace hD : va_D A [(h0, .inr (7, [.ref q8, .int 0, .ref q19, .ref q32, .int 0, .int 0, .ref q49, .null, .null, .int 0, .int 0, .null, .null, .int 0, .null, .null, .null, .int 0])), (q8, .inl (cA8, 600, .inl (fun _ => 0))), (q19, .inr (4, [.ref q0_23, .int 0])), (q0_23, .inl (k0_23, 6272, .inl (fun _ => 0))), (q32, .inl (cA32, 100, .inr (.inr (.inr (.inr (fun _ => none)))))), (q49, .inr (6, [.ref q0_55, .ref q1_55, .int 0])), (q0_55, .inl (k0_55, 1440, .inl (fun _ => 0))), (q1_55, .inl (k1_55, 60, .inl (fun _ => 0)))] := hD
  refine lv_aload_n hx hb dX7_init_61 rfl (lv_at hl 0 rfl) ?_
  refine lv_bipush (v := 60) hx hb dX7_init_62 (by decide) ?_
  have hSo := hS
  clear hS
  refine va_newa (atype := .int) (ty := .int) (N' := 60) (a0 := (60, .inl (fun _ => 0))) hx hb (hts (.arrayClass .int) (by decide +kernel)) rfl hK hP hD hSo hA (fun _ => rfl) (by decide) (by decide +kernel) (by decide +kernel) (Nat.le_of_ble_eq_true rfl) (Nat.le_of_ble_eq_true rfl) dX7_init_64 (fun q64 cA64 H hK hP hD hS => ?_)
  clear hSo
  replace hP : va_P (dC, dI) vwCl [(h0, .inr (7, [.ref q8, .int 0, .ref q19, .ref q32, .int 0, .int 0, .ref q49, .null, .null, .int 0, .int 0, .null, .null, .int 0, .null, .null, .null, .int 0])), (q8, .inl (cA8, 600, .inl (fun _ => 0))), (q19, .inr (4, [.ref q0_23, .int 0])), (q0_23, .inl (k0_23, 6272, .inl (fun _ => 0))), (q32, .inl (cA32, 100, .inr (.inr (.inr (.inr (fun _ => none)))))), (q49, .inr (6, [.ref q0_55, .ref q1_55, .int 0])), (q0_55, .inl (k0_55, 1440, .inl (fun _ => 0))), (q1_55, .inl (k1_55, 60, .inl (fun _ => 0))), (q64, .inl (cA64, 60, .inl (fun _ => 0)))] H := hP
  replace hD : va_D A [(h0, .inr (7, [.ref q8, .int 0, .ref q19, .ref q32, .int 0, .int 0, .ref q49, .null, .null, .int 0, .int 0, .null, .null, .int 0, .null, .null, .null, .int 0])), (q8, .inl (cA8, 600, .inl (fun _ => 0))), (q19, .inr (4, [.ref q0_23, .int 0])), (q0_23, .inl (k0_23, 6272, .inl (fun _ => 0))), (q32, .inl (cA32, 100, .inr (.inr (.inr (.inr (fun _ => none)))))), (q49, .inr (6, [.ref q0_55, .ref q1_55, .int 0])), (q0_55, .inl (k0_55, 1440, .inl (fun _ => 0))), (q1_55, .inl (k1_55, 60, .inl (fun _ => 0))), (q64, .inl (cA64, 60, .inl (fun _ => 0)))] := hD
  have hK : va_K (dC, dI) vwCl [(cA8, .byte), (k0_23, .int), (cA32, .object "TongueTeller$Learnt"), (k0_55, .byte), (k1_55, .int), (cA64, .int)] s := hK
  refine W.widen (k := 8) (n := 8537) (by omega) (by omega) ?_
  refine va_putF (D := (dC, dI)) (ci := 7) (v := .ref q64) (ty := .array .int) (C := RX7) (T := TX7) (N := 18) hx hb hts hi_X7 tyX7 tyX7_ok nmX7 hown hK hP hD hS 0 rfl rfl 7 (by decide) k_f45 (fun _ h9 => h9) rfl hin rfl (by decide +kernel) rfl rfl (Nat.le_of_ble_eq_true rfl) dX7_init_66 (fun H locs hP hD hS => ?_)
  replace hP : va_P (dC, dI) vwCl [(h0, .inr (7, [.ref q8, .int 0, .ref q19, .ref q32, .int 0, .int 0, .ref q49, .ref q64, .null, .int 0, .int 0, .null, .null, .int 0, .null, .null, .null, .int 0])), (q8, .inl (cA8, 600, .inl (fun _ => 0))), (q19, .inr (4, [.ref q0_23, .int 0])), (q0_23, .inl (k0_23, 6272, .inl (fun _ => 0))), (q32, .inl (cA32, 100, .inr (.inr (.inr (.inr (fun _ => none)))))), (q49, .inr (6, [.ref q0_55, .ref q1_55, .int 0])), (q0_55, .inl (k0_55, 1440, .inl (fun _ => 0))), (q1_55, .inl (k1_55, 60, .inl (fun _ => 0))), (q64, .inl (cA64, 60, .inl (fun _ => 0)))] H := hP
  replace hD : va_D A [(h0, .inr (7, [.ref q8, .int 0, .ref q19, .ref q32, .int 0, .int 0, .ref q49, .ref q64, .null, .int 0, .int 0, .null, .null, .int 0, .null, .null, .null, .int 0])), (q8, .inl (cA8, 600, .inl (fun _ => 0))), (q19, .inr (4, [.ref q0_23, .int 0])), (q0_23, .inl (k0_23, 6272, .inl (fun _ => 0))), (q32, .inl (cA32, 100, .inr (.inr (.inr (.inr (fun _ => none)))))), (q49, .inr (6, [.ref q0_55, .ref q1_55, .int 0])), (q0_55, .inl (k0_55, 1440, .inl (fun _ => 0))), (q1_55, .inl (k1_55, 60, .inl (fun _ => 0))), (q64, .inl (cA64, 60, .inl (fun _ => 0)))] := hD
  refine lv_aload_n hx hb dX7_init_69 rfl (lv_at hl 0 rfl) ?_
  have hSo := hS
  clear hS
  refine va_new (ci := 6) (fs := [.null, .null, .int 0]) (C := RX6) (T := TX6) (N := 3) hx hb hts hi_X6 tyX6 tyX6_ok hown (hts (.classLink RX7 36 RX6) (by decide +kernel)) (hts (.instantiable RX6 3) (by decide +kernel)) (hts (.initialized RX6) (by decide +kernel)) hK hP hD hSo hA rfl (fun j hj => by match j, hj with | 0, _ => rfl | 1, _ => rfl | 2, _ => rfl | k + 3, h => omega) (Nat.le_of_ble_eq_true rfl) (Nat.le_of_ble_eq_true rfl) dX7_init_70 (fun q70 H hP hD hS => ?_)
  clear hSo
  replace hP : va_P (dC, dI) vwCl [(h0, .inr (7, [.ref q8, .int 0, .ref q19, .ref q32, .int 0, .int 0, .ref q49, .ref q64, .null, .int 0, .int 0, .null, .null, .int 0, .null, .null, .null, .int 0])), (q8, .inl (cA8, 600, .inl (fun _ => 0))), (q19, .inr (4, [.ref q0_23, .int 0])), (q0_23, .inl (k0_23, 6272, .inl (fun _ => 0))), (q32, .inl (cA32, 100, .inr (.inr (.inr (.inr (fun _ => none)))))), (q49, .inr (6, [.ref q0_55, .ref q1_55, .int 0])), (q0_55, .inl (k0_55, 1440, .inl (fun _ => 0))), (q1_55, .inl (k1_55, 60, .inl (fun _ => 0))), (q64, .inl (cA64, 60, .inl (fun _ => 0))), (q70, .inr (6, [.null, .null, .int 0]))] H := hP
  replace hD : va_D A [(h0, .inr (7, [.ref q8, .int 0, .ref q19, .ref q32, .int 0, .int 0, .ref q49, .ref q64, .null, .int 0, .int 0, .null, .null, .int 0, .null, .null, .null, .int 0])), (q8, .inl (cA8, 600, .inl (fun _ => 0))), (q19, .inr (4, [.ref q0_23, .int 0])), (q0_23, .inl (k0_23, 6272, .inl (fun _ => 0))), (q32, .inl (cA32, 100, .inr (.inr (.inr (.inr (fun _ => none)))))), (q49, .inr (6, [.ref q0_55, .ref q1_55, .int 0])), (q0_55, .inl (k0_55, 1440, .inl (fun _ => 0))), (q1_55, .inl (k1_55, 60, .inl (fun _ => 0))), (q64, .inl (cA64, 60, .inl (fun _ => 0))), (q70, .inr (6, [.null, .null, .int 0]))] := hD
  refine W.widen (k := 9) (n := 8540) (by omega) (by omega) ?_
  refine lv_dup hx hb dX7_init_73 rfl ?_
  refine lv_bipush (v := 30) hx hb dX7_init_74 (by decide) ?_
  have hPc := hP.sub (ws' := [(q70, .inr (6, [.null, .null, .int 0]))]) [9] rfl
  have hDc := hD.sub (ws' := [(q70, .inr (6, [.null, .null, .int 0]))]) [9] (by decide) rfl
  have hKc := hK.sub (tys' := []) [] rfl
  have hFc := va_free (wc := [(q70, .inr (6, [.null, .null, .int 0]))]) hD hS hA [9] rfl
  refine va_callv (va_runI (As := [.int 30]) (rest := [.ref q70, .ref h0]) ⟨hx, hb, hml, hown, hts⟩ (c_X6_init_30 l dC dI q70 H.size) (cwI 1 hts gX7_init_X6_init rfl rfl rfl (hts (.initialized RX6) (by decide +kernel)) (hts (.methodLink RX7 38 yX6_init) (by decide +kernel)) (hts (.instanceMethod yX6_init) (by decide +kernel)) rfl (by decide +kernel) ⟨Nat.le_of_ble_eq_true rfl, Nat.le_of_ble_eq_true rfl⟩) ⟨fun a U g mk q => by obtain ⟨q0, q1, qP, qK, qD⟩ := q; exact ⟨q0, q1, qP, va_K.moved (u := U) (U := U.calling g mk a) (Vm.Alike.refl U.vm) qK, qD⟩, fun U hU hW => ⟨rfl, by rw [hU], by rw [hU]; exact hPc, va_K.moved hW.alike hKc, hDc.weaken (fun _ _ _ _ => trivial)⟩⟩ rfl rfl hl.1 rfl (lv_room (Nat.le_of_ble_eq_true rfl)) dX7_init_76 ⟨Nat.le_of_ble_eq_true rfl, Nat.le_of_ble_eq_true rfl⟩) hS (fun q _ h => hFc q h) hFc (fun u t H1 locs ht hvm hw_76 hB hz1 hk1 hS => ?_)
  obtain ⟨q0_76, q1_76, k0_76, k1_76, hP1, hK1, hD1⟩ := hB
  rw [ht] at hP1
  obtain ⟨hP, hD⟩ := va_join (wr := [(h0, .inr (7, [.ref q8, .int 0, .ref q19, .ref q32, .int 0, .int 0, .ref q49, .ref q64, .null, .int 0, .int 0, .null, .null, .int 0, .null, .null, .null, .int 0])), (q8, .inl (cA8, 600, .inl (fun _ => 0))), (q19, .inr (4, [.ref q0_23, .int 0])), (q0_23, .inl (k0_23, 6272, .inl (fun _ => 0))), (q32, .inl (cA32, 100, .inr (.inr (.inr (.inr (fun _ => none)))))), (q49, .inr (6, [.ref q0_55, .ref q1_55, .int 0])), (q0_55, .inl (k0_55, 1440, .inl (fun _ => 0))), (q1_55, .inl (k1_55, 60, .inl (fun _ => 0))), (q64, .inl (cA64, 60, .inl (fun _ => 0)))]) (w1 := [(q70, .inr (6, [.ref q0_76, .ref q1_76, .int 0])), (q0_76, .inl (k0_76, 720, .inl (fun _ => 0))), (q1_76, .inl (k1_76, 30, .inl (fun _ => 0)))]) hP hD [9] [0, 1, 2, 3, 4, 5, 6, 7, 8] rfl rfl (by decide) (by decide) hk1 hFc hP1 hD1
  have hK1 := va_K.moved hvm.symm hK1
  have hK := hK.app hK1
  have hK : va_K (dC, dI) vwCl [(cA8, .byte), (k0_23, .int), (cA32, .object "TongueTeller$Learnt"), (k0_55, .byte), (k1_55, .int), (cA64, .int), (k0_76, .byte), (k1_76, .int)] s := hK
  generalize H1 = H at hP hS ⊢
  replace hP : va_P (dC, dI) vwCl [(h0, .inr (7, [.ref q8, .int 0, .ref q19, .ref q32, .int 0, .int 0, .ref q49, .ref q64, .null, .int 0, .int 0, .null, .null, .int 0, .null, .null, .null, .int 0])), (q8, .inl (cA8, 600, .inl (fun _ => 0))), (q19, .inr (4, [.ref q0_23, .int 0])), (q0_23, .inl (k0_23, 6272, .inl (fun _ => 0))), (q32, .inl (cA32, 100, .inr (.inr (.inr (.inr (fun _ => none)))))), (q49, .inr (6, [.ref q0_55, .ref q1_55, .int 0])), (q0_55, .inl (k0_55, 1440, .inl (fun _ => 0))), (q1_55, .inl (k1_55, 60, .inl (fun _ => 0))), (q64, .inl (cA64, 60, .inl (fun _ => 0))), (q70, .inr (6, [.ref q0_76, .ref q1_76, .int 0])), (q0_76, .inl (k0_76, 720, .inl (fun _ => 0))), (q1_76, .inl (k1_76, 30, .inl (fun _ => 0)))] H := hP
  replace hD : va_D A [(h0, .inr (7, [.ref q8, .int 0, .ref q19, .ref q32, .int 0, .int 0, .ref q49, .ref q64, .null, .int 0, .int 0, .null, .null, .int 0, .null, .null, .null, .int 0])), (q8, .inl (cA8, 600, .inl (fun _ => 0))), (q19, .inr (4, [.ref q0_23, .int 0])), (q0_23, .inl (k0_23, 6272, .inl (fun _ => 0))), (q32, .inl (cA32, 100, .inr (.inr (.inr (.inr (fun _ => none)))))), (q49, .inr (6, [.ref q0_55, .ref q1_55, .int 0])), (q0_55, .inl (k0_55, 1440, .inl (fun _ => 0))), (q1_55, .inl (k1_55, 60, .inl (fun _ => 0))), (q64, .inl (cA64, 60, .inl (fun _ => 0))), (q70, .inr (6, [.ref q0_76, .ref q1_76, .int 0])), (q0_76, .inl (k0_76, 720, .inl (fun _ => 0))), (q1_76, .inl (k1_76, 30, .inl (fun _ => 0)))] := hD
  refine W.widen (k := 11) (n := 9290) (by omega) (by omega) ?_
  refine va_putF (D := (dC, dI)) (ci := 7) (v := .ref q70) (ty := .object "TongueTeller$WordList") (C := RX7) (T := TX7) (N := 18) hx hb hts hi_X7 tyX7 tyX7_ok nmX7 hown hK hP hD hS 0 rfl rfl 8 (by decide) k_f49 (fun _ h9 => h9) rfl hin rfl (by decide +kernel) rfl rfl (Nat.le_of_ble_eq_true rfl) dX7_init_79 (fun H locs hP hD hS => ?_)
  replace hP : va_P (dC, dI) vwCl [(h0, .inr (7, [.ref q8, .int 0, .ref q19, .ref q32, .int 0, .int 0, .ref q49, .ref q64, .ref q70, .int 0, .int 0, .null, .null, .int 0, .null, .null, .null, .int 0])), (q8, .inl (cA8, 600, .inl (fun _ => 0))), (q19, .inr (4, [.ref q0_23, .int 0])), (q0_23, .inl (k0_23, 6272, .inl (fun _ => 0))), (q32, .inl (cA32, 100, .inr (.inr (.inr (.inr (fun _ => none)))))), (q49, .inr (6, [.ref q0_55, .ref q1_55, .int 0])), (q0_55, .inl (k0_55, 1440, .inl (fun _ => 0))), (q1_55, .inl (k1_55, 60, .inl (fun _ => 0))), (q64, .inl (cA64, 60, .inl (fun _ => 0))), (q70, .inr (6, [.ref q0_76, .ref q1_76, .int 0])), (q0_76, .inl (k0_76, 720, .inl (fun _ => 0))), (q1_76, .inl (k1_76, 30, .inl (fun _ => 0)))] H := hP
  replace hD : va_D A [(h0, .inr (7, [.ref q8, .int 0, .ref q19, .ref q32, .int 0, .int 0, .ref q49, .ref q64, .ref q70, .int 0, .int 0, .null, .null, .int 0, .null, .null, .null, .int 0])), (q8, .inl (cA8, 600, .inl (fun _ => 0))), (q19, .inr (4, [.ref q0_23, .int 0])), (q0_23, .inl (k0_23, 6272, .inl (fun _ => 0))), (q32, .inl (cA32, 100, .inr (.inr (.inr (.inr (fun _ => none)))))), (q49, .inr (6, [.ref q0_55, .ref q1_55, .int 0])), (q0_55, .inl (k0_55, 1440, .inl (fun _ => 0))), (q1_55, .inl (k1_55, 60, .inl (fun _ => 0))), (q64, .inl (cA64, 60, .inl (fun _ => 0))), (q70, .inr (6, [.ref q0_76, .ref q1_76, .int 0])), (q0_76, .inl (k0_76, 720, .inl (fun _ => 0))), (q1_76, .inl (k1_76, 30, .inl (fun _ => 0)))] := hD
  refine lv_aload_n hx hb dX7_init_82 rfl (lv_at hl 0 rfl) ?_
  refine lv_sipush (v := 200) hx hb dX7_init_83 (by decide) ?_
  refine va_put (D := (dC, dI)) (ci := 7) (v := .int 200) (ty := .int) (C := RX7) (T := TX7) (N := 18) hx hb hts hi_X7 tyX7 tyX7_ok nmX7 hown hK hP hD hS 0 rfl rfl 9 (by decide) k_f52 (fun _ h9 => h9) rfl (by decide +kernel) rfl rfl (Nat.le_of_ble_eq_true rfl) dX7_init_86 (fun H locs hP hD hS => ?_)
  replace hP : va_P (dC, dI) vwCl [(h0, .inr (7, [.ref q8, .int 0, .ref q19, .ref q32, .int 0, .int 0, .ref q49, .ref q64, .ref q70, .int 200, .int 0, .null, .null, .int 0, .null, .null, .null, .int 0])), (q8, .inl (cA8, 600, .inl (fun _ => 0))), (q19, .inr (4, [.ref q0_23, .int 0])), (q0_23, .inl (k0_23, 6272, .inl (fun _ => 0))), (q32, .inl (cA32, 100, .inr (.inr (.inr (.inr (fun _ => none)))))), (q49, .inr (6, [.ref q0_55, .ref q1_55, .int 0])), (q0_55, .inl (k0_55, 1440, .inl (fun _ => 0))), (q1_55, .inl (k1_55, 60, .inl (fun _ => 0))), (q64, .inl (cA64, 60, .inl (fun _ => 0))), (q70, .inr (6, [.ref q0_76, .ref q1_76, .int 0])), (q0_76, .inl (k0_76, 720, .inl (fun _ => 0))), (q1_76, .inl (k1_76, 30, .inl (fun _ => 0)))] H := hP
  replace hD : va_D A [(h0, .inr (7, [.ref q8, .int 0, .ref q19, .ref q32, .int 0, .int 0, .ref q49, .ref q64, .ref q70, .int 200, .int 0, .null, .null, .int 0, .null, .null, .null, .int 0])), (q8, .inl (cA8, 600, .inl (fun _ => 0))), (q19, .inr (4, [.ref q0_23, .int 0])), (q0_23, .inl (k0_23, 6272, .inl (fun _ => 0))), (q32, .inl (cA32, 100, .inr (.inr (.inr (.inr (fun _ => none)))))), (q49, .inr (6, [.ref q0_55, .ref q1_55, .int 0])), (q0_55, .inl (k0_55, 1440, .inl (fun _ => 0))), (q1_55, .inl (k1_55, 60, .inl (fun _ => 0))), (q64, .inl (cA64, 60, .inl (fun _ => 0))), (q70, .inr (6, [.ref q0_76, .ref q1_76, .int 0])), (q0_76, .inl (k0_76, 720, .inl (fun _ => 0))), (q1_76, .inl (k1_76, 30, .inl (fun _ => 0)))] := hD
  refine lv_aload_n hx hb dX7_init_89 rfl (lv_at hl 0 rfl) ?_
  refine lv_bipush (v := 100) hx hb dX7_init_90 (by decide) ?_
  refine va_put (D := (dC, dI)) (ci := 7) (v := .int 100) (ty := .int) (C := RX7) (T := TX7) (N := 18) hx hb hts hi_X7 tyX7 tyX7_ok nmX7 hown hK hP hD hS 0 rfl rfl 10 (by decide) k_f55 (fun _ h9 => h9) rfl (by decide +kernel) rfl rfl (Nat.le_of_ble_eq_true rfl) dX7_init_92 (fun H locs hP hD hS => ?_)
  replace hP : va_P (dC, dI) vwCl [(h0, .inr (7, [.ref q8, .int 0, .ref q19, .ref q32, .int 0, .int 0, .ref q49, .ref q64, .ref q70, .int 200, .int 100, .null, .null, .int 0, .null, .null, .null, .int 0])), (q8, .inl (cA8, 600, .inl (fun _ => 0))), (q19, .inr (4, [.ref q0_23, .int 0])), (q0_23, .inl (k0_23, 6272, .inl (fun _ => 0))), (q32, .inl (cA32, 100, .inr (.inr (.inr (.inr (fun _ => none)))))), (q49, .inr (6, [.ref q0_55, .ref q1_55, .int 0])), (q0_55, .inl (k0_55, 1440, .inl (fun _ => 0))), (q1_55, .inl (k1_55, 60, .inl (fun _ => 0))), (q64, .inl (cA64, 60, .inl (fun _ => 0))), (q70, .inr (6, [.ref q0_76, .ref q1_76, .int 0])), (q0_76, .inl (k0_76, 720, .inl (fun _ => 0))), (q1_76, .inl (k1_76, 30, .inl (fun _ => 0)))] H := hP
  replace hD : va_D A [(h0, .inr (7, [.ref q8, .int 0, .ref q19, .ref q32, .int 0, .int 0, .ref q49, .ref q64, .ref q70, .int 200, .int 100, .null, .null, .int 0, .null, .null, .null, .int 0])), (q8, .inl (cA8, 600, .inl (fun _ => 0))), (q19, .inr (4, [.ref q0_23, .int 0])), (q0_23, .inl (k0_23, 6272, .inl (fun _ => 0))), (q32, .inl (cA32, 100, .inr (.inr (.inr (.inr (fun _ => none)))))), (q49, .inr (6, [.ref q0_55, .ref q1_55, .int 0])), (q0_55, .inl (k0_55, 1440, .inl (fun _ => 0))), (q1_55, .inl (k1_55, 60, .inl (fun _ => 0))), (q64, .inl (cA64, 60, .inl (fun _ => 0))), (q70, .inr (6, [.ref q0_76, .ref q1_76, .int 0])), (q0_76, .inl (k0_76, 720, .inl (fun _ => 0))), (q1_76, .inl (k1_76, 30, .inl (fun _ => 0)))] := hD
  refine lv_aload_n hx hb dX7_init_95 rfl (lv_at hl 0 rfl) ?_
  have hSo := hS
  clear hS
  refine va_new (ci := 2) (fs := [.null, .null, .null, .int 0, .int 0]) (C := RX2) (T := TX2) (N := 5) hx hb hts hi_X2 tyX2 tyX2_ok hown (hts (.classLink RX7 58 RX2) (by decide +kernel)) (hts (.instantiable RX2 5) (by decide +kernel)) (hts (.initialized RX2) (by decide +kernel)) hK hP hD hSo hA rfl (fun j hj => by match j, hj with | 0, _ => rfl | 1, _ => rfl | 2, _ => rfl | 3, _ => rfl | 4, _ => rfl | k + 5, h => omega) (Nat.le_of_ble_eq_true rfl) (Nat.le_of_ble_eq_true rfl) dX7_init_96 (fun q96 H hP hD hS => ?_)
  clear hSo
  replace hP : va_P (dC, dI) vwCl [(h0, .inr (7, [.ref q8, .int 0, .ref q19, .ref q32, .int 0, .int 0, .ref q49, .ref q64, .ref q70, .int 200, .int 100, .null, .null, .int 0, .null, .null, .null, .int 0])), (q8, .inl (cA8, 600, .inl (fun _ => 0))), (q19, .inr (4, [.ref q0_23, .int 0])), (q0_23, .inl (k0_23, 6272, .inl (fun _ => 0))), (q32, .inl (cA32, 100, .inr (.inr (.inr (.inr (fun _ => none)))))), (q49, .inr (6, [.ref q0_55, .ref q1_55, .int 0])), (q0_55, .inl (k0_55, 1440, .inl (fun _ => 0))), (q1_55, .inl (k1_55, 60, .inl (fun _ => 0))), (q64, .inl (cA64, 60, .inl (fun _ => 0))), (q70, .inr (6, [.ref q0_76, .ref q1_76, .int 0])), (q0_76, .inl (k0_76, 720, .inl (fun _ => 0))), (q1_76, .inl (k1_76, 30, .inl (fun _ => 0))), (q96, .inr (2, [.null, .null, .null, .int 0, .int 0]))] H := hP
  replace hD : va_D A [(h0, .inr (7, [.ref q8, .int 0, .ref q19, .ref q32, .int 0, .int 0, .ref q49, .ref q64, .ref q70, .int 200, .int 100, .null, .null, .int 0, .null, .null, .null, .int 0])), (q8, .inl (cA8, 600, .inl (fun _ => 0))), (q19, .inr (4, [.ref q0_23, .int 0])), (q0_23, .inl (k0_23, 6272, .inl (fun _ => 0))), (q32, .inl (cA32, 100, .inr (.inr (.inr (.inr (fun _ => none)))))), (q49, .inr (6, [.ref q0_55, .ref q1_55, .int 0])), (q0_55, .inl (k0_55, 1440, .inl (fun _ => 0))), (q1_55, .inl (k1_55, 60, .inl (fun _ => 0))), (q64, .inl (cA64, 60, .inl (fun _ => 0))), (q70, .inr (6, [.ref q0_76, .ref q1_76, .int 0])), (q0_76, .inl (k0_76, 720, .inl (fun _ => 0))), (q1_76, .inl (k1_76, 30, .inl (fun _ => 0))), (q96, .inr (2, [.null, .null, .null, .int 0, .int 0]))] := hD
  refine W.widen (k := 12) (n := 9295) (by omega) (by omega) ?_
  refine lv_dup hx hb dX7_init_99 rfl ?_
  have hPc := hP.sub (ws' := [(q96, .inr (2, [.null, .null, .null, .int 0, .int 0]))]) [12] rfl
  have hDc := hD.sub (ws' := [(q96, .inr (2, [.null, .null, .null, .int 0, .int 0]))]) [12] (by decide) rfl
  have hKc := hK.sub (tys' := []) [] rfl
  have hFc := va_free (wc := [(q96, .inr (2, [.null, .null, .null, .int 0, .int 0]))]) hD hS hA [12] rfl
  refine va_callv (va_runIN (As := []) (rest := [.ref q96, .ref h0]) ⟨hx, hb, hml, hown, hts⟩ (c_X2_init l dC dI q96 H.size) ⟨va_cnB 0 hts gX7_init_X2_init_n60 rfl rfl rfl hnw_60 (hts (.initialized RX2) (by decide +kernel)) (by decide +kernel) ⟨Nat.le_of_ble_eq_true rfl, Nat.le_of_ble_eq_true rfl⟩, rfl, hts (.instanceMethod yX2_init) (by decide +kernel)⟩ ⟨fun a U g mk q => by obtain ⟨q0, q1, qP, qK, qD⟩ := q; exact ⟨q0, q1, qP, va_K.moved (u := U) (U := U.calling g mk a) (Vm.Alike.refl U.vm) qK, qD⟩, fun U hU hW => ⟨rfl, by rw [hU], by rw [hU]; exact hPc, va_K.moved hW.alike hKc, hDc.weaken (fun _ _ _ _ => trivial)⟩⟩ rfl rfl hl.1 rfl (lv_room (Nat.le_of_ble_eq_true rfl)) dX7_init_100 ⟨Nat.le_of_ble_eq_true rfl, Nat.le_of_ble_eq_true rfl⟩) hS (fun q _ h => hFc q h) hFc (fun u t H1 locs ht hvm hw_100 hB hz1 hk1 hS => ?_)
  obtain ⟨q0_100, q1_100, q2_100, k0_100, k1_100, k2_100, hP1, hK1, hD1⟩ := hB
  rw [ht] at hP1
  obtain ⟨hP, hD⟩ := va_join (wr := [(h0, .inr (7, [.ref q8, .int 0, .ref q19, .ref q32, .int 0, .int 0, .ref q49, .ref q64, .ref q70, .int 200, .int 100, .null, .null, .int 0, .null, .null, .null, .int 0])), (q8, .inl (cA8, 600, .inl (fun _ => 0))), (q19, .inr (4, [.ref q0_23, .int 0])), (q0_23, .inl (k0_23, 6272, .inl (fun _ => 0))), (q32, .inl (cA32, 100, .inr (.inr (.inr (.inr (fun _ => none)))))), (q49, .inr (6, [.ref q0_55, .ref q1_55, .int 0])), (q0_55, .inl (k0_55, 1440, .inl (fun _ => 0))), (q1_55, .inl (k1_55, 60, .inl (fun _ => 0))), (q64, .inl (cA64, 60, .inl (fun _ => 0))), (q70, .inr (6, [.ref q0_76, .ref q1_76, .int 0])), (q0_76, .inl (k0_76, 720, .inl (fun _ => 0))), (q1_76, .inl (k1_76, 30, .inl (fun _ => 0)))]) (w1 := [(q96, .inr (2, [.ref q0_100, .ref q1_100, .ref q2_100, .int 0, .int 0])), (q0_100, .inl (k0_100, 600, .inl (fun _ => 0))), (q1_100, .inl (k1_100, 60, .inl (fun _ => 0))), (q2_100, .inl (k2_100, 60, .inl (fun _ => 0)))]) hP hD [12] [0, 1, 2, 3, 4, 5, 6, 7, 8, 9, 10, 11] rfl rfl (by decide) (by decide) hk1 hFc hP1 hD1
  have hK1 := va_K.moved hvm.symm hK1
  have hK := hK.app hK1
  have hK : va_K (dC, dI) vwCl [(cA8, .byte), (k0_23, .int), (cA32, .object "TongueTeller$Learnt"), (k0_55, .byte), (k1_55, .int), (cA64, .int), (k0_76, .byte), (k1_76, .int), (k0_100, .byte), (k1_100, .int), (k2_100, .int)] s := hK
  generalize H1 = H at hP hS ⊢
  replace hP : va_P (dC, dI) vwCl [(h0, .inr (7, [.ref q8, .int 0, .ref q19, .ref q32, .int 0, .int 0, .ref q49, .ref q64, .ref q70, .int 200, .int 100, .null, .null, .int 0, .null, .null, .null, .int 0])), (q8, .inl (cA8, 600, .inl (fun _ => 0))), (q19, .inr (4, [.ref q0_23, .int 0])), (q0_23, .inl (k0_23, 6272, .inl (fun _ => 0))), (q32, .inl (cA32, 100, .inr (.inr (.inr (.inr (fun _ => none)))))), (q49, .inr (6, [.ref q0_55, .ref q1_55, .int 0])), (q0_55, .inl (k0_55, 1440, .inl (fun _ => 0))), (q1_55, .inl (k1_55, 60, .inl (fun _ => 0))), (q64, .inl (cA64, 60, .inl (fun _ => 0))), (q70, .inr (6, [.ref q0_76, .ref q1_76, .int 0])), (q0_76, .inl (k0_76, 720, .inl (fun _ => 0))), (q1_76, .inl (k1_76, 30, .inl (fun _ => 0))), (q96, .inr (2, [.ref q0_100, .ref q1_100, .ref q2_100, .int 0, .int 0])), (q0_100, .inl (k0_100, 600, .inl (fun _ => 0))), (q1_100, .inl (k1_100, 60, .inl (fun _ => 0))), (q2_100, .inl (k2_100, 60, .inl (fun _ => 0)))] H := hP
  replace hD : va_D A [(h0, .inr (7, [.ref q8, .int 0, .ref q19, .ref q32, .int 0, .int 0, .ref q49, .ref q64, .ref q70, .int 200, .int 100, .null, .null, .int 0, .null, .null, .null, .int 0])), (q8, .inl (cA8, 600, .inl (fun _ => 0))), (q19, .inr (4, [.ref q0_23, .int 0])), (q0_23, .inl (k0_23, 6272, .inl (fun _ => 0))), (q32, .inl (cA32, 100, .inr (.inr (.inr (.inr (fun _ => none)))))), (q49, .inr (6, [.ref q0_55, .ref q1_55, .int 0])), (q0_55, .inl (k0_55, 1440, .inl (fun _ => 0))), (q1_55, .inl (k1_55, 60, .inl (fun _ => 0))), (q64, .inl (cA64, 60, .inl (fun _ => 0))), (q70, .inr (6, [.ref q0_76, .ref q1_76, .int 0])), (q0_76, .inl (k0_76, 720, .inl (fun _ => 0))), (q1_76, .inl (k1_76, 30, .inl (fun _ => 0))), (q96, .inr (2, [.ref q0_100, .ref q1_100, .ref q2_100, .int 0, .int 0])), (q0_100, .inl (k0_100, 600, .inl (fun _ => 0))), (q1_100, .inl (k1_100, 60, .inl (fun _ => 0))), (q2_100, .inl (k2_100, 60, .inl (fun _ => 0)))] := hD
  refine W.widen (k := 15) (n := 10015) (by omega) (by omega) ?_
  refine va_put (D := (dC, dI)) (ci := 7) (v := .ref q96) (ty := .object "TongueTeller$Script") (C := RX7) (T := TX7) (N := 18) hx hb hts hi_X7 tyX7 tyX7_ok nmX7 hown hK hP hD hS 0 rfl rfl 11 (by decide) k_f61 (fun _ h9 => h9) rfl (by decide +kernel) rfl rfl (Nat.le_of_ble_eq_true rfl) dX7_init_103 (fun H locs hP hD hS => ?_)
  replace hP : va_P (dC, dI) vwCl [(h0, .inr (7, [.ref q8, .int 0, .ref q19, .ref q32, .int 0, .int 0, .ref q49, .ref q64, .ref q70, .int 200, .int 100, .ref q96, .null, .int 0, .null, .null, .null, .int 0])), (q8, .inl (cA8, 600, .inl (fun _ => 0))), (q19, .inr (4, [.ref q0_23, .int 0])), (q0_23, .inl (k0_23, 6272, .inl (fun _ => 0))), (q32, .inl (cA32, 100, .inr (.inr (.inr (.inr (fun _ => none)))))), (q49, .inr (6, [.ref q0_55, .ref q1_55, .int 0])), (q0_55, .inl (k0_55, 1440, .inl (fun _ => 0))), (q1_55, .inl (k1_55, 60, .inl (fun _ => 0))), (q64, .inl (cA64, 60, .inl (fun _ => 0))), (q70, .inr (6, [.ref q0_76, .ref q1_76, .int 0])), (q0_76, .inl (k0_76, 720, .inl (fun _ => 0))), (q1_76, .inl (k1_76, 30, .inl (fun _ => 0))), (q96, .inr (2, [.ref q0_100, .ref q1_100, .ref q2_100, .int 0, .int 0])), (q0_100, .inl (k0_100, 600, .inl (fun _ => 0))), (q1_100, .inl (k1_100, 60, .inl (fun _ => 0))), (q2_100, .inl (k2_100, 60, .inl (fun _ => 0)))] H := hP
  replace hD : va_D A [(h0, .inr (7, [.ref q8, .int 0, .ref q19, .ref q32, .int 0, .int 0, .ref q49, .ref q64, .ref q70, .int 200, .int 100, .ref q96, .null, .int 0, .null, .null, .null, .int 0])), (q8, .inl (cA8, 600, .inl (fun _ => 0))), (q19, .inr (4, [.ref q0_23, .int 0])), (q0_23, .inl (k0_23, 6272, .inl (fun _ => 0))), (q32, .inl (cA32, 100, .inr (.inr (.inr (.inr (fun _ => none)))))), (q49, .inr (6, [.ref q0_55, .ref q1_55, .int 0])), (q0_55, .inl (k0_55, 1440, .inl (fun _ => 0))), (q1_55, .inl (k1_55, 60, .inl (fun _ => 0))), (q64, .inl (cA64, 60, .inl (fun _ => 0))), (q70, .inr (6, [.ref q0_76, .ref q1_76, .int 0])), (q0_76, .inl (k0_76, 720, .inl (fun _ => 0))), (q1_76, .inl (k1_76, 30, .inl (fun _ => 0))), (q96, .inr (2, [.ref q0_100, .ref q1_100, .ref q2_100, .int 0, .int 0])), (q0_100, .inl (k0_100, 600, .inl (fun _ => 0))), (q1_100, .inl (k1_100, 60, .inl (fun _ => 0))), (q2_100, .inl (k2_100, 60, .inl (fun _ => 0)))] := hD
  refine lv_aload_n hx hb dX7_init_106 rfl (lv_at hl 0 rfl) ?_
  have hSo := hS
  clear hS
  refine va_new (ci := 2) (fs := [.null, .null, .null, .int 0, .int 0]) (C := RX2) (T := TX2) (N := 5) hx hb hts hi_X2 tyX2 tyX2_ok hown (hts (.classLink RX7 58 RX2) (by decide +kernel)) (hts (.instantiable RX2 5) (by decide +kernel)) (hts (.initialized RX2) (by decide +kernel)) hK hP hD hSo hA rfl (fun j hj => by match j, hj with | 0, _ => rfl | 1, _ => rfl | 2, _ => rfl | 3, _ => rfl | 4, _ => rfl | k + 5, h => omega) (Nat.le_of_ble_eq_true rfl) (Nat.le_of_ble_eq_true rfl) dX7_init_107 (fun q107 H hP hD hS => ?_)
  clear hSo
  replace hP : va_P (dC, dI) vwCl [(h0, .inr (7, [.ref q8, .int 0, .ref q19, .ref q32, .int 0, .int 0, .ref q49, .ref q64, .ref q70, .int 200, .int 100, .ref q96, .null, .int 0, .null, .null, .null, .int 0])), (q8, .inl (cA8, 600, .inl (fun _ => 0))), (q19, .inr (4, [.ref q0_23, .int 0])), (q0_23, .inl (k0_23, 6272, .inl (fun _ => 0))), (q32, .inl (cA32, 100, .inr (.inr (.inr (.inr (fun _ => none)))))), (q49, .inr (6, [.ref q0_55, .ref q1_55, .int 0])), (q0_55, .inl (k0_55, 1440, .inl (fun _ => 0))), (q1_55, .inl (k1_55, 60, .inl (fun _ => 0))), (q64, .inl (cA64, 60, .inl (fun _ => 0))), (q70, .inr (6, [.ref q0_76, .ref q1_76, .int 0])), (q0_76, .inl (k0_76, 720, .inl (fun _ => 0))), (q1_76, .inl (k1_76, 30, .inl (fun _ => 0))), (q96, .inr (2, [.ref q0_100, .ref q1_100, .ref q2_100, .int 0, .int 0])), (q0_100, .inl (k0_100, 600, .inl (fun _ => 0))), (q1_100, .inl (k1_100, 60, .inl (fun _ => 0))), (q2_100, .inl (k2_100, 60, .inl (fun _ => 0))), (q107, .inr (2, [.null, .null, .null, .int 0, .int 0]))] H := hP
  replace hD : va_D A [(h0, .inr (7, [.ref q8, .int 0, .ref q19, .ref q32, .int 0, .int 0, .ref q49, .ref q64, .ref q70, .int 200, .int 100, .ref q96, .null, .int 0, .null, .null, .null, .int 0])), (q8, .inl (cA8, 600, .inl (fun _ => 0))), (q19, .inr (4, [.ref q0_23, .int 0])), (q0_23, .inl (k0_23, 6272, .inl (fun _ => 0))), (q32, .inl (cA32, 100, .inr (.inr (.inr (.inr (fun _ => none)))))), (q49, .inr (6, [.ref q0_55, .ref q1_55, .int 0])), (q0_55, .inl (k0_55, 1440, .inl (fun _ => 0))), (q1_55, .inl (k1_55, 60, .inl (fun _ => 0))), (q64, .inl (cA64, 60, .inl (fun _ => 0))), (q70, .inr (6, [.ref q0_76, .ref q1_76, .int 0])), (q0_76, .inl (k0_76, 720, .inl (fun _ => 0))), (q1_76, .inl (k1_76, 30, .inl (fun _ => 0))), (q96, .inr (2, [.ref q0_100, .ref q1_100, .ref q2_100, .int 0, .int 0])), (q0_100, .inl (k0_100, 600, .inl (fun _ => 0))), (q1_100, .inl (k1_100, 60, .inl (fun _ => 0))), (q2_100, .inl (k2_100, 60, .inl (fun _ => 0))), (q107, .inr (2, [.null, .null, .null, .int 0, .int 0]))] := hD
  refine W.widen (k := 16) (n := 10020) (by omega) (by omega) ?_
  refine lv_dup hx hb dX7_init_110 rfl ?_
  have hPc := hP.sub (ws' := [(q107, .inr (2, [.null, .null, .null, .int 0, .int 0]))]) [16] rfl
  have hDc := hD.sub (ws' := [(q107, .inr (2, [.null, .null, .null, .int 0, .int 0]))]) [16] (by decide) rfl
  have hKc := hK.sub (tys' := []) [] rfl
  have hFc := va_free (wc := [(q107, .inr (2, [.null, .null, .null, .int 0, .int 0]))]) hD hS hA [16] rfl
  refine va_callv (va_runIN (As := []) (rest := [.ref q107, .ref h0]) ⟨hx, hb, hml, hown, hts⟩ (c_X2_init l dC dI q107 H.size) ⟨va_cnB 0 hts gX7_init_X2_init_n60 rfl rfl rfl hnw_60 (hts (.initialized RX2) (by decide +kernel)) (by decide +kernel) ⟨Nat.le_of_ble_eq_true rfl, Nat.le_of_ble_eq_true rfl⟩, rfl, hts (.instanceMethod yX2_init) (by decide +kernel)⟩ ⟨fun a U g mk q => by obtain ⟨q0, q1, qP, qK, qD⟩ := q; exact ⟨q0, q1, qP, va_K.moved (u := U) (U := U.calling g mk a) (Vm.Alike.refl U.vm) qK, qD⟩, fun U hU hW => ⟨rfl, by rw [hU], by rw [hU]; exact hPc, va_K.moved hW.alike hKc, hDc.weaken (fun _ _ _ _ => trivial)⟩⟩ rfl rfl hl.1 rfl (lv_room (Nat.le_of_ble_eq_true rfl)) dX7_init_111 ⟨Nat.le_of_ble_eq_true rfl, Nat.le_of_ble_eq_true rfl⟩) hS (fun q _ h => hFc q h) hFc (fun u t H1 locs ht hvm hw_111 hB hz1 hk1 hS => ?_)
  obtain ⟨q0_111, q1_111, q2_111, k0_111, k1_111, k2_111, hP1, hK1, hD1⟩ := hB
  rw [ht] at hP1
  obtain ⟨hP, hD⟩ := va_join (wr := [(h0, .inr (7, [.ref q8, .int 0, .ref q19, .ref q32, .int 0, .int 0, .ref q49, .ref q64, .ref q70, .int 200, .int 100, .ref q96, .null, .int 0, .null, .null, .null, .int 0])), (q8, .inl (cA8, 600, .inl (fun _ => 0))), (q19, .inr (4, [.ref q0_23, .int 0])), (q0_23, .inl (k0_23, 6272, .inl (fun _ => 0))), (q32, .inl (cA32, 100, .inr (.inr (.inr (.inr (fun _ => none)))))), (q49, .inr (6, [.ref q0_55, .ref q1_55, .int 0])), (q0_55, .inl (k0_55, 1440, .inl (fun _ => 0))), (q1_55, .inl (k1_55, 60, .inl (fun _ => 0))), (q64, .inl (cA64, 60, .inl (fun _ => 0))), (q70, .inr (6, [.ref q0_76, .ref q1_76, .int 0])), (q0_76, .inl (k0_76, 720, .inl (fun _ => 0))), (q1_76, .inl (k1_76, 30, .inl (fun _ => 0))), (q96, .inr (2, [.ref q0_100, .ref q1_100, .ref q2_100, .int 0, .int 0])), (q0_100, .inl (k0_100, 600, .inl (fun _ => 0))), (q1_100, .inl (k1_100, 60, .inl (fun _ => 0))), (q2_100, .inl (k2_100, 60, .inl (fun _ => 0)))]) (w1 := [(q107, .inr (2, [.ref q0_111, .ref q1_111, .ref q2_111, .int 0, .int 0])), (q0_111, .inl (k0_111, 600, .inl (fun _ => 0))), (q1_111, .inl (k1_111, 60, .inl (fun _ => 0))), (q2_111, .inl (k2_111, 60, .inl (fun _ => 0)))]) hP hD [16] [0, 1, 2, 3, 4, 5, 6, 7, 8, 9, 10, 11, 12, 13, 14, 15] rfl rfl (by decide) (by decide) hk1 hFc hP1 hD1
  have hK1 := va_K.moved hvm.symm hK1
  have hK := hK.app hK1
  have hK : va_K (dC, dI) vwCl [(cA8, .byte), (k0_23, .int), (cA32, .object "TongueTeller$Learnt"), (k0_55, .byte), (k1_55, .int), (cA64, .int), (k0_76, .byte), (k1_76, .int), (k0_100, .byte), (k1_100, .int), (k2_100, .int), (k0_111, .byte), (k1_111, .int), (k2_111, .int)] s := hK
  generalize H1 = H at hP hS ⊢
  replace hP : va_P (dC, dI) vwCl [(h0, .inr (7, [.ref q8, .int 0, .ref q19, .ref q32, .int 0, .int 0, .ref q49, .ref q64, .ref q70, .int 200, .int 100, .ref q96, .null, .int 0, .null, .null, .null, .int 0])), (q8, .inl (cA8, 600, .inl (fun _ => 0))), (q19, .inr (4, [.ref q0_23, .int 0])), (q0_23, .inl (k0_23, 6272, .inl (fun _ => 0))), (q32, .inl (cA32, 100, .inr (.inr (.inr (.inr (fun _ => none)))))), (q49, .inr (6, [.ref q0_55, .ref q1_55, .int 0])), (q0_55, .inl (k0_55, 1440, .inl (fun _ => 0))), (q1_55, .inl (k1_55, 60, .inl (fun _ => 0))), (q64, .inl (cA64, 60, .inl (fun _ => 0))), (q70, .inr (6, [.ref q0_76, .ref q1_76, .int 0])), (q0_76, .inl (k0_76, 720, .inl (fun _ => 0))), (q1_76, .inl (k1_76, 30, .inl (fun _ => 0))), (q96, .inr (2, [.ref q0_100, .ref q1_100, .ref q2_100, .int 0, .int 0])), (q0_100, .inl (k0_100, 600, .inl (fun _ => 0))), (q1_100, .inl (k1_100, 60, .inl (fun _ => 0))), (q2_100, .inl (k2_100, 60, .inl (fun _ => 0))), (q107, .inr (2, [.ref q0_111, .ref q1_111, .ref q2_111, .int 0, .int 0])), (q0_111, .inl (k0_111, 600, .inl (fun _ => 0))), (q1_111, .inl (k1_111, 60, .inl (fun _ => 0))), (q2_111, .inl (k2_111, 60, .inl (fun _ => 0)))] H := hP
  replace hD : va_D A [(h0, .inr (7, [.ref q8, .int 0, .ref q19, .ref q32, .int 0, .int 0, .ref q49, .ref q64, .ref q70, .int 200, .int 100, .ref q96, .null, .int 0, .null, .null, .null, .int 0])), (q8, .inl (cA8, 600, .inl (fun _ => 0))), (q19, .inr (4, [.ref q0_23, .int 0])), (q0_23, .inl (k0_23, 6272, .inl (fun _ => 0))), (q32, .inl (cA32, 100, .inr (.inr (.inr (.inr (fun _ => none)))))), (q49, .inr (6, [.ref q0_55, .ref q1_55, .int 0])), (q0_55, .inl (k0_55, 1440, .inl (fun _ => 0))), (q1_55, .inl (k1_55, 60, .inl (fun _ => 0))), (q64, .inl (cA64, 60, .inl (fun _ => 0))), (q70, .inr (6, [.ref q0_76, .ref q1_76, .int 0])), (q0_76, .inl (k0_76, 720, .inl (fun _ => 0))), (q1_76, .inl (k1_76, 30, .inl (fun _ => 0))), (q96, .inr (2, [.ref q0_100, .ref q1_100, .ref q2_100, .int 0, .int 0])), (q0_100, .inl (k0_100, 600, .inl (fun _ => 0))), (q1_100, .inl (k1_100, 60, .inl (fun _ => 0))), (q2_100, .inl (k2_100, 60, .inl (fun _ => 0))), (q107, .inr (2, [.ref q0_111, .ref q1_111, .ref q2_111, .int 0, .int 0])), (q0_111, .inl (k0_111, 600, .inl (fun _ => 0))), (q1_111, .inl (k1_111, 60, .inl (fun _ => 0))), (q2_111, .inl (k2_111, 60, .inl (fun _ => 0)))] := hD
  refine W.widen (k := 19) (n := 10740) (by omega) (by omega) ?_
  refine va_put (D := (dC, dI)) (ci := 7) (v := .ref q107) (ty := .object "TongueTeller$Script") (C := RX7) (T := TX7) (N := 18) hx hb hts hi_X7 tyX7 tyX7_ok nmX7 hown hK hP hD hS 0 rfl rfl 12 (by decide) k_f65 (fun _ h9 => h9) rfl (by decide +kernel) rfl rfl (Nat.le_of_ble_eq_true rfl) dX7_init_114 (fun H locs hP hD hS => ?_)
  replace hP : va_P (dC, dI) vwCl [(h0, .inr (7, [.ref q8, .int 0, .ref q19, .ref q32, .int 0, .int 0, .ref q49, .ref q64, .ref q70, .int 200, .int 100, .ref q96, .ref q107, .int 0, .null, .null, .null, .int 0])), (q8, .inl (cA8, 600, .inl (fun _ => 0))), (q19, .inr (4, [.ref q0_23, .int 0])), (q0_23, .inl (k0_23, 6272, .inl (fun _ => 0))), (q32, .inl (cA32, 100, .inr (.inr (.inr (.inr (fun _ => none)))))), (q49, .inr (6, [.ref q0_55, .ref q1_55, .int 0])), (q0_55, .inl (k0_55, 1440, .inl (fun _ => 0))), (q1_55, .inl (k1_55, 60, .inl (fun _ => 0))), (q64, .inl (cA64, 60, .inl (fun _ => 0))), (q70, .inr (6, [.ref q0_76, .ref q1_76, .int 0])), (q0_76, .inl (k0_76, 720, .inl (fun _ => 0))), (q1_76, .inl (k1_76, 30, .inl (fun _ => 0))), (q96, .inr (2, [.ref q0_100, .ref q1_100, .ref q2_100, .int 0, .int 0])), (q0_100, .inl (k0_100, 600, .inl (fun _ => 0))), (q1_100, .inl (k1_100, 60, .inl (fun _ => 0))), (q2_100, .inl (k2_100, 60, .inl (fun _ => 0))), (q107, .inr (2, [.ref q0_111, .ref q1_111, .ref q2_111, .int 0, .int 0])), (q0_111, .inl (k0_111, 600, .inl (fun _ => 0))), (q1_111, .inl (k1_111, 60, .inl (fun _ => 0))), (q2_111, .inl (k2_111, 60, .inl (fun _ => 0)))] H := hP
  replace hD : va_D A [(h0, .inr (7, [.ref q8, .int 0, .ref q19, .ref q32, .int 0, .int 0, .ref q49, .ref q64, .ref q70, .int 200, .int 100, .ref q96, .ref q107, .int 0, .null, .null, .null, .int 0])), (q8, .inl (cA8, 600, .inl (fun _ => 0))), (q19, .inr (4, [.ref q0_23, .int 0])), (q0_23, .inl (k0_23, 6272, .inl (fun _ => 0))), (q32, .inl (cA32, 100, .inr (.inr (.inr (.inr (fun _ => none)))))), (q49, .inr (6, [.ref q0_55, .ref q1_55, .int 0])), (q0_55, .inl (k0_55, 1440, .inl (fun _ => 0))), (q1_55, .inl (k1_55, 60, .inl (fun _ => 0))), (q64, .inl (cA64, 60, .inl (fun _ => 0))), (q70, .inr (6, [.ref q0_76, .ref q1_76, .int 0])), (q0_76, .inl (k0_76, 720, .inl (fun _ => 0))), (q1_76, .inl (k1_76, 30, .inl (fun _ => 0))), (q96, .inr (2, [.ref q0_100, .ref q1_100, .ref q2_100, .int 0, .int 0])), (q0_100, .inl (k0_100, 600, .inl (fun _ => 0))), (q1_100, .inl (k1_100, 60, .inl (fun _ => 0))), (q2_100, .inl (k2_100, 60, .inl (fun _ => 0))), (q107, .inr (2, [.ref q0_111, .ref q1_111, .ref q2_111, .int 0, .int 0])), (q0_111, .inl (k0_111, 600, .inl (fun _ => 0))), (q1_111, .inl (k1_111, 60, .inl (fun _ => 0))), (q2_111, .inl (k2_111, 60, .inl (fun _ => 0)))] := hD
  refine lv_aload_n hx hb dX7_init_117 rfl (lv_at hl 0 rfl) ?_
  refine lv_iconst (v := 0) hx hb dX7_init_118 (by decide) ?_
  refine va_put (D := (dC, dI)) (ci := 7) (v := .int 0) (ty := .boolean) (C := RX7) (T := TX7) (N := 18) hx hb hts hi_X7 tyX7 tyX7_ok nmX7 hown hK hP hD hS 0 rfl rfl 13 (by decide) k_f68 (fun _ h9 => h9) rfl (by decide +kernel) rfl rfl (Nat.le_of_ble_eq_true rfl) dX7_init_119 (fun H locs hP hD hS => ?_)
  replace hP : va_P (dC, dI) vwCl [(h0, .inr (7, [.ref q8, .int 0, .ref q19, .ref q32, .int 0, .int 0, .ref q49, .ref q64, .ref q70, .int 200, .int 100, .ref q96, .ref q107, .int 0, .null, .null, .null, .int 0])), (q8, .inl (cA8, 600, .inl (fun _ => 0))), (q19, .inr (4, [.ref q0_23, .int 0])), (q0_23, .inl (k0_23, 6272, .inl (fun _ => 0))), (q32, .inl (cA32, 100, .inr (.inr (.inr (.inr (fun _ => none)))))), (q49, .inr (6, [.ref q0_55, .ref q1_55, .int 0])), (q0_55, .inl (k0_55, 1440, .inl (fun _ => 0))), (q1_55, .inl (k1_55, 60, .inl (fun _ => 0))), (q64, .inl (cA64, 60, .inl (fun _ => 0))), (q70, .inr (6, [.ref q0_76, .ref q1_76, .int 0])), (q0_76, .inl (k0_76, 720, .inl (fun _ => 0))), (q1_76, .inl (k1_76, 30, .inl (fun _ => 0))), (q96, .inr (2, [.ref q0_100, .ref q1_100, .ref q2_100, .int 0, .int 0])), (q0_100, .inl (k0_100, 600, .inl (fun _ => 0))), (q1_100, .inl (k1_100, 60, .inl (fun _ => 0))), (q2_100, .inl (k2_100, 60, .inl (fun _ => 0))), (q107, .inr (2, [.ref q0_111, .ref q1_111, .ref q2_111, .int 0, .int 0])), (q0_111, .inl (k0_111, 600, .inl (fun _ => 0))), (q1_111, .inl (k1_111, 60, .inl (fun _ => 0))), (q2_111, .inl (k2_111, 60, .inl (fun _ => 0)))] H := hP
  replace hD : va_D A [(h0, .inr (7, [.ref q8, .int 0, .ref q19, .ref q32, .int 0, .int 0, .ref q49, .ref q64, .ref q70, .int 200, .int 100, .ref q96, .ref q107, .int 0, .null, .null, .null, .int 0])), (q8, .inl (cA8, 600, .inl (fun _ => 0))), (q19, .inr (4, [.ref q0_23, .int 0])), (q0_23, .inl (k0_23, 6272, .inl (fun _ => 0))), (q32, .inl (cA32, 100, .inr (.inr (.inr (.inr (fun _ => none)))))), (q49, .inr (6, [.ref q0_55, .ref q1_55, .int 0])), (q0_55, .inl (k0_55, 1440, .inl (fun _ => 0))), (q1_55, .inl (k1_55, 60, .inl (fun _ => 0))), (q64, .inl (cA64, 60, .inl (fun _ => 0))), (q70, .inr (6, [.ref q0_76, .ref q1_76, .int 0])), (q0_76, .inl (k0_76, 720, .inl (fun _ => 0))), (q1_76, .inl (k1_76, 30, .inl (fun _ => 0))), (q96, .inr (2, [.ref q0_100, .ref q1_100, .ref q2_100, .int 0, .int 0])), (q0_100, .inl (k0_100, 600, .inl (fun _ => 0))), (q1_100, .inl (k1_100, 60, .inl (fun _ => 0))), (q2_100, .inl (k2_100, 60, .inl (fun _ => 0))), (q107, .inr (2, [.ref q0_111, .ref q1_111, .ref q2_111, .int 0, .int 0])), (q0_111, .inl (k0_111, 600, .inl (fun _ => 0))), (q1_111, .inl (k1_111, 60, .inl (fun _ => 0))), (q2_111, .inl (k2_111, 60, .inl (fun _ => 0)))] := hD
  refine lv_aload_n hx hb dX7_init_122 rfl (lv_at hl 0 rfl) ?_
  have hSo := hS
  clear hS
  refine va_new (ci := 5) (fs := [.null, .null, .null, .null, .int 0, .int 0, .int 0, .int 0, .int 0]) (C := RX5) (T := TX5) (N := 9) hx hb hts hi_X5 tyX5 tyX5_ok hown (hts (.classLink RX7 72 RX5) (by decide +kernel)) (hts (.instantiable RX5 9) (by decide +kernel)) (hts (.initialized RX5) (by decide +kernel)) hK hP hD hSo hA rfl (fun j hj => by match j, hj with | 0, _ => rfl | 1, _ => rfl | 2, _ => rfl | 3, _ => rfl | 4, _ => rfl | 5, _ => rfl | 6, _ => rfl | 7, _ => rfl | 8, _ => rfl | k + 9, h => omega) (Nat.le_of_ble_eq_true rfl) (Nat.le_of_ble_eq_true rfl) dX7_init_123 (fun q123 H hP hD hS => ?_)
  clear hSo
  replace hP : va_P (dC, dI) vwCl [(h0, .inr (7, [.ref q8, .int 0, .ref q19, .ref q32, .int 0, .int 0, .ref q49, .ref q64, .ref q70, .int 200, .int 100, .ref q96, .ref q107, .int 0, .null, .null, .null, .int 0])), (q8, .inl (cA8, 600, .inl (fun _ => 0))), (q19, .inr (4, [.ref q0_23, .int 0])), (q0_23, .inl (k0_23, 6272, .inl (fun _ => 0))), (q32, .inl (cA32, 100, .inr (.inr (.inr (.inr (fun _ => none)))))), (q49, .inr (6, [.ref q0_55, .ref q1_55, .int 0])), (q0_55, .inl (k0_55, 1440, .inl (fun _ => 0))), (q1_55, .inl (k1_55, 60, .inl (fun _ => 0))), (q64, .inl (cA64, 60, .inl (fun _ => 0))), (q70, .inr (6, [.ref q0_76, .ref q1_76, .int 0])), (q0_76, .inl (k0_76, 720, .inl (fun _ => 0))), (q1_76, .inl (k1_76, 30, .inl (fun _ => 0))), (q96, .inr (2, [.ref q0_100, .ref q1_100, .ref q2_100, .int 0, .int 0])), (q0_100, .inl (k0_100, 600, .inl (fun _ => 0))), (q1_100, .inl (k1_100, 60, .inl (fun _ => 0))), (q2_100, .inl (k2_100, 60, .inl (fun _ => 0))), (q107, .inr (2, [.ref q0_111, .ref q1_111, .ref q2_111, .int 0, .int 0])), (q0_111, .inl (k0_111, 600, .inl (fun _ => 0))), (q1_111, .inl (k1_111, 60, .inl (fun _ => 0))), (q2_111, .inl (k2_111, 60, .inl (fun _ => 0))), (q123, .inr (5, [.null, .null, .null, .null, .int 0, .int 0, .int 0, .int 0, .int 0]))] H := hP
  replace hD : va_D A [(h0, .inr (7, [.ref q8, .int 0, .ref q19, .ref q32, .int 0, .int 0, .ref q49, .ref q64, .ref q70, .int 200, .int 100, .ref q96, .ref q107, .int 0, .null, .null, .null, .int 0])), (q8, .inl (cA8, 600, .inl (fun _ => 0))), (q19, .inr (4, [.ref q0_23, .int 0])), (q0_23, .inl (k0_23, 6272, .inl (fun _ => 0))), (q32, .inl (cA32, 100, .inr (.inr (.inr (.inr (fun _ => none)))))), (q49, .inr (6, [.ref q0_55, .ref q1_55, .int 0])), (q0_55, .inl (k0_55, 1440, .inl (fun _ => 0))), (q1_55, .inl (k1_55, 60, .inl (fun _ => 0))), (q64, .inl (cA64, 60, .inl (fun _ => 0))), (q70, .inr (6, [.ref q0_76, .ref q1_76, .int 0])), (q0_76, .inl (k0_76, 720, .inl (fun _ => 0))), (q1_76, .inl (k1_76, 30, .inl (fun _ => 0))), (q96, .inr (2, [.ref q0_100, .ref q1_100, .ref q2_100, .int 0, .int 0])), (q0_100, .inl (k0_100, 600, .inl (fun _ => 0))), (q1_100, .inl (k1_100, 60, .inl (fun _ => 0))), (q2_100, .inl (k2_100, 60, .inl (fun _ => 0))), (q107, .inr (2, [.ref q0_111, .ref q1_111, .ref q2_111, .int 0, .int 0])), (q0_111, .inl (k0_111, 600, .inl (fun _ => 0))), (q1_111, .inl (k1_111, 60, .inl (fun _ => 0))), (q2_111, .inl (k2_111, 60, .inl (fun _ => 0))), (q123, .inr (5, [.null, .null, .null, .null, .int 0, .int 0, .int 0, .int 0, .int 0]))] := hD
  refine W.widen (k := 20) (n := 10749) (by omega) (by omega) ?_
  refine lv_dup hx hb dX7_init_126 rfl ?_
  have hPc := hP.sub (ws' := [(q123, .inr (5, [.null, .null, .null, .null, .int 0, .int 0, .int 0, .int 0, .int 0]))]) [20] rfl
  have hDc := hD.sub (ws' := [(q123, .inr (5, [.null, .null, .null, .null, .int 0, .int 0, .int 0, .int 0, .int 0]))]) [20] (by decide) rfl
  have hKc := hK.sub (tys' := []) [] rfl
  have hFc := va_free (wc := [(q123, .inr (5, [.null, .null, .null, .null, .int 0, .int 0, .int 0, .int 0, .int 0]))]) hD hS hA [20] rfl
  refine va_callv (va_runIN (As := []) (rest := [.ref q123, .ref h0]) ⟨hx, hb, hml, hown, hts⟩ (c_X5_init l dC dI q123 H.size) ⟨va_cnB 0 hts gX7_init_X5_init_n74 rfl rfl rfl hnw_74 (hts (.initialized RX5) (by decide +kernel)) (by decide +kernel) ⟨Nat.le_of_ble_eq_true rfl, Nat.le_of_ble_eq_true rfl⟩, rfl, hts (.instanceMethod yX5_init) (by decide +kernel)⟩ ⟨fun a U g mk q => by obtain ⟨q0, q1, qP, qK, qD⟩ := q; exact ⟨q0, q1, qP, va_K.moved (u := U) (U := U.calling g mk a) (Vm.Alike.refl U.vm) qK, qD⟩, fun U hU hW => ⟨rfl, by rw [hU], by rw [hU]; exact hPc, va_K.moved hW.alike hKc, hDc.weaken (fun _ _ _ _ => trivial)⟩⟩ rfl rfl hl.1 rfl (lv_room (Nat.le_of_ble_eq_true rfl)) dX7_init_127 ⟨Nat.le_of_ble_eq_true rfl, Nat.le_of_ble_eq_true rfl⟩) hS (fun q _ h => hFc q h) hFc (fun u t H1 locs ht hvm hw_127 hB hz1 hk1 hS => ?_)
  obtain ⟨q0_127, q1_127, q2_127, q3_127, k0_127, k1_127, k2_127, k3_127, hP1, hK1, hD1⟩ := hB
  rw [ht] at hP1
  obtain ⟨hP, hD⟩ := va_join (wr := [(h0, .inr (7, [.ref q8, .int 0, .ref q19, .ref q32, .int 0, .int 0, .ref q49, .ref q64, .ref q70, .int 200, .int 100, .ref q96, .ref q107, .int 0, .null, .null, .null, .int 0])), (q8, .inl (cA8, 600, .inl (fun _ => 0))), (q19, .inr (4, [.ref q0_23, .int 0])), (q0_23, .inl (k0_23, 6272, .inl (fun _ => 0))), (q32, .inl (cA32, 100, .inr (.inr (.inr (.inr (fun _ => none)))))), (q49, .inr (6, [.ref q0_55, .ref q1_55, .int 0])), (q0_55, .inl (k0_55, 1440, .inl (fun _ => 0))), (q1_55, .inl (k1_55, 60, .inl (fun _ => 0))), (q64, .inl (cA64, 60, .inl (fun _ => 0))), (q70, .inr (6, [.ref q0_76, .ref q1_76, .int 0])), (q0_76, .inl (k0_76, 720, .inl (fun _ => 0))), (q1_76, .inl (k1_76, 30, .inl (fun _ => 0))), (q96, .inr (2, [.ref q0_100, .ref q1_100, .ref q2_100, .int 0, .int 0])), (q0_100, .inl (k0_100, 600, .inl (fun _ => 0))), (q1_100, .inl (k1_100, 60, .inl (fun _ => 0))), (q2_100, .inl (k2_100, 60, .inl (fun _ => 0))), (q107, .inr (2, [.ref q0_111, .ref q1_111, .ref q2_111, .int 0, .int 0])), (q0_111, .inl (k0_111, 600, .inl (fun _ => 0))), (q1_111, .inl (k1_111, 60, .inl (fun _ => 0))), (q2_111, .inl (k2_111, 60, .inl (fun _ => 0)))]) (w1 := [(q123, .inr (5, [.ref q0_127, .ref q1_127, .ref q2_127, .ref q3_127, .int 0, .int 0, .int 0, .int (-1), .int 0])), (q0_127, .inl (k0_127, 480, .inl (fun _ => 0))), (q1_127, .inl (k1_127, 480, .inl (fun _ => 0))), (q2_127, .inl (k2_127, 60, .inl (fun _ => 0))), (q3_127, .inl (k3_127, 60, .inl (fun _ => 0)))]) hP hD [20] [0, 1, 2, 3, 4, 5, 6, 7, 8, 9, 10, 11, 12, 13, 14, 15, 16, 17, 18, 19] rfl rfl (by decide) (by decide) hk1 hFc hP1 hD1
  have hK1 := va_K.moved hvm.symm hK1
  have hK := hK.app hK1
  have hK : va_K (dC, dI) vwCl [(cA8, .byte), (k0_23, .int), (cA32, .object "TongueTeller$Learnt"), (k0_55, .byte), (k1_55, .int), (cA64, .int), (k0_76, .byte), (k1_76, .int), (k0_100, .byte), (k1_100, .int), (k2_100, .int), (k0_111, .byte), (k1_111, .int), (k2_111, .int), (k0_127, .int), (k1_127, .int), (k2_127, .int), (k3_127, .int)] s := hK
  generalize H1 = H at hP hS ⊢
  replace hP : va_P (dC, dI) vwCl [(h0, .inr (7, [.ref q8, .int 0, .ref q19, .ref q32, .int 0, .int 0, .ref q49, .ref q64, .ref q70, .int 200, .int 100, .ref q96, .ref q107, .int 0, .null, .null, .null, .int 0])), (q8, .inl (cA8, 600, .inl (fun _ => 0))), (q19, .inr (4, [.ref q0_23, .int 0])), (q0_23, .inl (k0_23, 6272, .inl (fun _ => 0))), (q32, .inl (cA32, 100, .inr (.inr (.inr (.inr (fun _ => none)))))), (q49, .inr (6, [.ref q0_55, .ref q1_55, .int 0])), (q0_55, .inl (k0_55, 1440, .inl (fun _ => 0))), (q1_55, .inl (k1_55, 60, .inl (fun _ => 0))), (q64, .inl (cA64, 60, .inl (fun _ => 0))), (q70, .inr (6, [.ref q0_76, .ref q1_76, .int 0])), (q0_76, .inl (k0_76, 720, .inl (fun _ => 0))), (q1_76, .inl (k1_76, 30, .inl (fun _ => 0))), (q96, .inr (2, [.ref q0_100, .ref q1_100, .ref q2_100, .int 0, .int 0])), (q0_100, .inl (k0_100, 600, .inl (fun _ => 0))), (q1_100, .inl (k1_100, 60, .inl (fun _ => 0))), (q2_100, .inl (k2_100, 60, .inl (fun _ => 0))), (q107, .inr (2, [.ref q0_111, .ref q1_111, .ref q2_111, .int 0, .int 0])), (q0_111, .inl (k0_111, 600, .inl (fun _ => 0))), (q1_111, .inl (k1_111, 60, .inl (fun _ => 0))), (q2_111, .inl (k2_111, 60, .inl (fun _ => 0))), (q123, .inr (5, [.ref q0_127, .ref q1_127, .ref q2_127, .ref q3_127, .int 0, .int 0, .int 0, .int (-1), .int 0])), (q0_127, .inl (k0_127, 480, .inl (fun _ => 0))), (q1_127, .inl (k1_127, 480, .inl (fun _ => 0))), (q2_127, .inl (k2_127, 60, .inl (fun _ => 0))), (q3_127, .inl (k3_127, 60, .inl (fun _ => 0)))] H := hP
  replace hD : va_D A [(h0, .inr (7, [.ref q8, .int 0, .ref q19, .ref q32, .int 0, .int 0, .ref q49, .ref q64, .ref q70, .int 200, .int 100, .ref q96, .ref q107, .int 0, .null, .null, .null, .int 0])), (q8, .inl (cA8, 600, .inl (fun _ => 0))), (q19, .inr (4, [.ref q0_23, .int 0])), (q0_23, .inl (k0_23, 6272, .inl (fun _ => 0))), (q32, .inl (cA32, 100, .inr (.inr (.inr (.inr (fun _ => none)))))), (q49, .inr (6, [.ref q0_55, .ref q1_55, .int 0])), (q0_55, .inl (k0_55, 1440, .inl (fun _ => 0))), (q1_55, .inl (k1_55, 60, .inl (fun _ => 0))), (q64, .inl (cA64, 60, .inl (fun _ => 0))), (q70, .inr (6, [.ref q0_76, .ref q1_76, .int 0])), (q0_76, .inl (k0_76, 720, .inl (fun _ => 0))), (q1_76, .inl (k1_76, 30, .inl (fun _ => 0))), (q96, .inr (2, [.ref q0_100, .ref q1_100, .ref q2_100, .int 0, .int 0])), (q0_100, .inl (k0_100, 600, .inl (fun _ => 0))), (q1_100, .inl (k1_100, 60, .inl (fun _ => 0))), (q2_100, .inl (k2_100, 60, .inl (fun _ => 0))), (q107, .inr (2, [.ref q0_111, .ref q1_111, .ref q2_111, .int 0, .int 0])), (q0_111, .inl (k0_111, 600, .inl (fun _ => 0))), (q1_111, .inl (k1_111, 60, .inl (fun _ => 0))), (q2_111, .inl (k2_111, 60, .inl (fun _ => 0))), (q123, .inr (5, [.ref q0_127, .ref q1_127, .ref q2_127, .ref q3_127, .int 0, .int 0, .int 0, .int (-1), .int 0])), (q0_127, .inl (k0_127, 480, .inl (fun _ => 0))), (q1_127, .inl (k1_127, 480, .inl (fun _ => 0))), (q2_127, .inl (k2_127, 60, .inl (fun _ => 0))), (q3_127, .inl (k3_127, 60, .inl (fun _ => 0)))] := hD
  refine W.widen (k := 24) (n := 11829) (by omega) (by omega) ?_
  refine va_putF (D := (dC, dI)) (ci := 7) (v := .ref q123) (ty := .object "TongueTeller$Way") (C := RX7) (T := TX7) (N := 18) hx hb hts hi_X7 tyX7 tyX7_ok nmX7 hown hK hP hD hS 0 rfl rfl 14 (by decide) k_f75 (fun _ h9 => h9) rfl hin rfl (by decide +kernel) rfl rfl (Nat.le_of_ble_eq_true rfl) dX7_init_130 (fun H locs hP hD hS => ?_)
  replace hP : va_P (dC, dI) vwCl [(h0, .inr (7, [.ref q8, .int 0, .ref q19, .ref q32, .int 0, .int 0, .ref q49, .ref q64, .ref q70, .int 200, .int 100, .ref q96, .ref q107, .int 0, .ref q123, .null, .null, .int 0])), (q8, .inl (cA8, 600, .inl (fun _ => 0))), (q19, .inr (4, [.ref q0_23, .int 0])), (q0_23, .inl (k0_23, 6272, .inl (fun _ => 0))), (q32, .inl (cA32, 100, .inr (.inr (.inr (.inr (fun _ => none)))))), (q49, .inr (6, [.ref q0_55, .ref q1_55, .int 0])), (q0_55, .inl (k0_55, 1440, .inl (fun _ => 0))), (q1_55, .inl (k1_55, 60, .inl (fun _ => 0))), (q64, .inl (cA64, 60, .inl (fun _ => 0))), (q70, .inr (6, [.ref q0_76, .ref q1_76, .int 0])), (q0_76, .inl (k0_76, 720, .inl (fun _ => 0))), (q1_76, .inl (k1_76, 30, .inl (fun _ => 0))), (q96, .inr (2, [.ref q0_100, .ref q1_100, .ref q2_100, .int 0, .int 0])), (q0_100, .inl (k0_100, 600, .inl (fun _ => 0))), (q1_100, .inl (k1_100, 60, .inl (fun _ => 0))), (q2_100, .inl (k2_100, 60, .inl (fun _ => 0))), (q107, .inr (2, [.ref q0_111, .ref q1_111, .ref q2_111, .int 0, .int 0])), (q0_111, .inl (k0_111, 600, .inl (fun _ => 0))), (q1_111, .inl (k1_111, 60, .inl (fun _ => 0))), (q2_111, .inl (k2_111, 60, .inl (fun _ => 0))), (q123, .inr (5, [.ref q0_127, .ref q1_127, .ref q2_127, .ref q3_127, .int 0, .int 0, .int 0, .int (-1), .int 0])), (q0_127, .inl (k0_127, 480, .inl (fun _ => 0))), (q1_127, .inl (k1_127, 480, .inl (fun _ => 0))), (q2_127, .inl (k2_127, 60, .inl (fun _ => 0))), (q3_127, .inl (k3_127, 60, .inl (fun _ => 0)))] H := hP
  replace hD : va_D A [(h0, .inr (7, [.ref q8, .int 0, .ref q19, .ref q32, .int 0, .int 0, .ref q49, .ref q64, .ref q70, .int 200, .int 100, .ref q96, .ref q107, .int 0, .ref q123, .null, .null, .int 0])), (q8, .inl (cA8, 600, .inl (fun _ => 0))), (q19, .inr (4, [.ref q0_23, .int 0])), (q0_23, .inl (k0_23, 6272, .inl (fun _ => 0))), (q32, .inl (cA32, 100, .inr (.inr (.inr (.inr (fun _ => none)))))), (q49, .inr (6, [.ref q0_55, .ref q1_55, .int 0])), (q0_55, .inl (k0_55, 1440, .inl (fun _ => 0))), (q1_55, .inl (k1_55, 60, .inl (fun _ => 0))), (q64, .inl (cA64, 60, .inl (fun _ => 0))), (q70, .inr (6, [.ref q0_76, .ref q1_76, .int 0])), (q0_76, .inl (k0_76, 720, .inl (fun _ => 0))), (q1_76, .inl (k1_76, 30, .inl (fun _ => 0))), (q96, .inr (2, [.ref q0_100, .ref q1_100, .ref q2_100, .int 0, .int 0])), (q0_100, .inl (k0_100, 600, .inl (fun _ => 0))), (q1_100, .inl (k1_100, 60, .inl (fun _ => 0))), (q2_100, .inl (k2_100, 60, .inl (fun _ => 0))), (q107, .inr (2, [.ref q0_111, .ref q1_111, .ref q2_111, .int 0, .int 0])), (q0_111, .inl (k0_111, 600, .inl (fun _ => 0))), (q1_111, .inl (k1_111, 60, .inl (fun _ => 0))), (q2_111, .inl (k2_111, 60, .inl (fun _ => 0))), (q123, .inr (5, [.ref q0_127, .ref q1_127, .ref q2_127, .ref q3_127, .int 0, .int 0, .int 0, .int (-1), .int 0])), (q0_127, .inl (k0_127, 480, .inl (fun _ => 0))), (q1_127, .inl (k1_127, 480, .inl (fun _ => 0))), (q2_127, .inl (k2_127, 60, .inl (fun _ => 0))), (q3_127, .inl (k3_127, 60, .inl (fun _ => 0)))] := hD
  refine lv_aload_n hx hb dX7_init_133 rfl (lv_at hl 0 rfl) ?_
  have hSo := hS
  clear hS
  refine va_new (ci := 1) (fs := [.null, .int 0, .int 0]) (C := RX1) (T := TX1) (N := 3) hx hb hts hi_X1 tyX1 tyX1_ok hown (hts (.classLink RX7 79 RX1) (by decide +kernel)) (hts (.instantiable RX1 3) (by decide +kernel)) (hts (.initialized RX1) (by decide +kernel)) hK hP hD hSo hA rfl (fun j hj => by match j, hj with | 0, _ => rfl | 1, _ => rfl | 2, _ => rfl | k + 3, h => omega) (Nat.le_of_ble_eq_true rfl) (Nat.le_of_ble_eq_true rfl) dX7_init_134 (fun q134 H hP hD hS => ?_)
  clear hSo
  replace hP : va_P (dC, dI) vwCl [(h0, .inr (7, [.ref q8, .int 0, .ref q19, .ref q32, .int 0, .int 0, .ref q49, .ref q64, .ref q70, .int 200, .int 100, .ref q96, .ref q107, .int 0, .ref q123, .null, .null, .int 0])), (q8, .inl (cA8, 600, .inl (fun _ => 0))), (q19, .inr (4, [.ref q0_23, .int 0])), (q0_23, .inl (k0_23, 6272, .inl (fun _ => 0))), (q32, .inl (cA32, 100, .inr (.inr (.inr (.inr (fun _ => none)))))), (q49, .inr (6, [.ref q0_55, .ref q1_55, .int 0])), (q0_55, .inl (k0_55, 1440, .inl (fun _ => 0))), (q1_55, .inl (k1_55, 60, .inl (fun _ => 0))), (q64, .inl (cA64, 60, .inl (fun _ => 0))), (q70, .inr (6, [.ref q0_76, .ref q1_76, .int 0])), (q0_76, .inl (k0_76, 720, .inl (fun _ => 0))), (q1_76, .inl (k1_76, 30, .inl (fun _ => 0))), (q96, .inr (2, [.ref q0_100, .ref q1_100, .ref q2_100, .int 0, .int 0])), (q0_100, .inl (k0_100, 600, .inl (fun _ => 0))), (q1_100, .inl (k1_100, 60, .inl (fun _ => 0))), (q2_100, .inl (k2_100, 60, .inl (fun _ => 0))), (q107, .inr (2, [.ref q0_111, .ref q1_111, .ref q2_111, .int 0, .int 0])), (q0_111, .inl (k0_111, 600, .inl (fun _ => 0))), (q1_111, .inl (k1_111, 60, .inl (fun _ => 0))), (q2_111, .inl (k2_111, 60, .inl (fun _ => 0))), (q123, .inr (5, [.ref q0_127, .ref q1_127, .ref q2_127, .ref q3_127, .int 0, .int 0, .int 0, .int (-1), .int 0])), (q0_127, .inl (k0_127, 480, .inl (fun _ => 0))), (q1_127, .inl (k1_127, 480, .inl (fun _ => 0))), (q2_127, .inl (k2_127, 60, .inl (fun _ => 0))), (q3_127, .inl (k3_127, 60, .inl (fun _ => 0))), (q134, .inr (1, [.null, .int 0, .int 0]))] H := hP
  replace hD : va_D A [(h0, .inr (7, [.ref q8, .int 0, .ref q19, .ref q32, .int 0, .int 0, .ref q49, .ref q64, .ref q70, .int 200, .int 100, .ref q96, .ref q107, .int 0, .ref q123, .null, .null, .int 0])), (q8, .inl (cA8, 600, .inl (fun _ => 0))), (q19, .inr (4, [.ref q0_23, .int 0])), (q0_23, .inl (k0_23, 6272, .inl (fun _ => 0))), (q32, .inl (cA32, 100, .inr (.inr (.inr (.inr (fun _ => none)))))), (q49, .inr (6, [.ref q0_55, .ref q1_55, .int 0])), (q0_55, .inl (k0_55, 1440, .inl (fun _ => 0))), (q1_55, .inl (k1_55, 60, .inl (fun _ => 0))), (q64, .inl (cA64, 60, .inl (fun _ => 0))), (q70, .inr (6, [.ref q0_76, .ref q1_76, .int 0])), (q0_76, .inl (k0_76, 720, .inl (fun _ => 0))), (q1_76, .inl (k1_76, 30, .inl (fun _ => 0))), (q96, .inr (2, [.ref q0_100, .ref q1_100, .ref q2_100, .int 0, .int 0])), (q0_100, .inl (k0_100, 600, .inl (fun _ => 0))), (q1_100, .inl (k1_100, 60, .inl (fun _ => 0))), (q2_100, .inl (k2_100, 60, .inl (fun _ => 0))), (q107, .inr (2, [.ref q0_111, .ref q1_111, .ref q2_111, .int 0, .int 0])), (q0_111, .inl (k0_111, 600, .inl (fun _ => 0))), (q1_111, .inl (k1_111, 60, .inl (fun _ => 0))), (q2_111, .inl (k2_111, 60, .inl (fun _ => 0))), (q123, .inr (5, [.ref q0_127, .ref q1_127, .ref q2_127, .ref q3_127, .int 0, .int 0, .int 0, .int (-1), .int 0])), (q0_127, .inl (k0_127, 480, .inl (fun _ => 0))), (q1_127, .inl (k1_127, 480, .inl (fun _ => 0))), (q2_127, .inl (k2_127, 60, .inl (fun _ => 0))), (q3_127, .inl (k3_127, 60, .inl (fun _ => 0))), (q134, .inr (1, [.null, .int 0, .int 0]))] := hD
  refine W.widen (k := 25) (n := 11832) (by omega) (by omega) ?_
  refine lv_dup hx hb dX7_init_137 rfl ?_
  have hPc := hP.sub (ws' := [(q134, .inr (1, [.null, .int 0, .int 0]))]) [25] rfl
  have hDc := hD.sub (ws' := [(q134, .inr (1, [.null, .int 0, .int 0]))]) [25] (by decide) rfl
  have hKc := hK.sub (tys' := []) [] rfl
  have hFc := va_free (wc := [(q134, .inr (1, [.null, .int 0, .int 0]))]) hD hS hA [25] rfl
  refine va_callv (va_runIN (As := []) (rest := [.ref q134, .ref h0]) ⟨hx, hb, hml, hown, hts⟩ (c_X1_init l dC dI q134 H.size) ⟨va_cnB 0 hts gX7_init_X1_init_n81 rfl rfl rfl hnw_81 (hts (.initialized RX1) (by decide +kernel)) (by decide +kernel) ⟨Nat.le_of_ble_eq_true rfl, Nat.le_of_ble_eq_true rfl⟩, rfl, hts (.instanceMethod yX1_init) (by decide +kernel)⟩ ⟨fun a U g mk q => by obtain ⟨q0, q1, qP, qK, qD⟩ := q; exact ⟨q0, q1, qP, va_K.moved (u := U) (U := U.calling g mk a) (Vm.Alike.refl U.vm) qK, qD⟩, fun U hU hW => ⟨rfl, by rw [hU], by rw [hU]; exact hPc, va_K.moved hW.alike hKc, hDc.weaken (fun _ _ _ _ => trivial)⟩⟩ rfl rfl hl.1 rfl (lv_room (Nat.le_of_ble_eq_true rfl)) dX7_init_138 ⟨Nat.le_of_ble_eq_true rfl, Nat.le_of_ble_eq_true rfl⟩) hS (fun q _ h => hFc q h) hFc (fun u t H1 locs ht hvm hw_138 hB hz1 hk1 hS => ?_)
  obtain ⟨q0_138, k0_138, hP1, hK1, hD1⟩ := hB
  rw [ht] at hP1
  obtain ⟨hP, hD⟩ := va_join (wr := [(h0, .inr (7, [.ref q8, .int 0, .ref q19, .ref q32, .int 0, .int 0, .ref q49, .ref q64, .ref q70, .int 200, .int 100, .ref q96, .ref q107, .int 0, .ref q123, .null, .null, .int 0])), (q8, .inl (cA8, 600, .inl (fun _ => 0))), (q19, .inr (4, [.ref q0_23, .int 0])), (q0_23, .inl (k0_23, 6272, .inl (fun _ => 0))), (q32, .inl (cA32, 100, .inr (.inr (.inr (.inr (fun _ => none)))))), (q49, .inr (6, [.ref q0_55, .ref q1_55, .int 0])), (q0_55, .inl (k0_55, 1440, .inl (fun _ => 0))), (q1_55, .inl (k1_55, 60, .inl (fun _ => 0))), (q64, .inl (cA64, 60, .inl (fun _ => 0))), (q70, .inr (6, [.ref q0_76, .ref q1_76, .int 0])), (q0_76, .inl (k0_76, 720, .inl (fun _ => 0))), (q1_76, .inl (k1_76, 30, .inl (fun _ => 0))), (q96, .inr (2, [.ref q0_100, .ref q1_100, .ref q2_100, .int 0, .int 0])), (q0_100, .inl (k0_100, 600, .inl (fun _ => 0))), (q1_100, .inl (k1_100, 60, .inl (fun _ => 0))), (q2_100, .inl (k2_100, 60, .inl (fun _ => 0))), (q107, .inr (2, [.ref q0_111, .ref q1_111, .ref q2_111, .int 0, .int 0])), (q0_111, .inl (k0_111, 600, .inl (fun _ => 0))), (q1_111, .inl (k1_111, 60, .inl (fun _ => 0))), (q2_111, .inl (k2_111, 60, .inl (fun _ => 0))), (q123, .inr (5, [.ref q0_127, .ref q1_127, .ref q2_127, .ref q3_127, .int 0, .int 0, .int 0, .int (-1), .int 0])), (q0_127, .inl (k0_127, 480, .inl (fun _ => 0))), (q1_127, .inl (k1_127, 480, .inl (fun _ => 0))), (q2_127, .inl (k2_127, 60, .inl (fun _ => 0))), (q3_127, .inl (k3_127, 60, .inl (fun _ => 0)))]) (w1 := [(q134, .inr (1, [.ref q0_138, .int 0, .int 0])), (q0_138, .inl (k0_138, 60, .inl (fun _ => 0)))]) hP hD [25] [0, 1, 2, 3, 4, 5, 6, 7, 8, 9, 10, 11, 12, 13, 14, 15, 16, 17, 18, 19, 20, 21, 22, 23, 24] rfl rfl (by decide) (by decide) hk1 hFc hP1 hD1
  have hK1 := va_K.moved hvm.symm hK1
  have hK := hK.app hK1
  have hK : va_K (dC, dI) vwCl [(cA8, .byte), (k0_23, .int), (cA32, .object "TongueTeller$Learnt"), (k0_55, .byte), (k1_55, .int), (cA64, .int), (k0_76, .byte), (k1_76, .int), (k0_100, .byte), (k1_100, .int), (k2_100, .int), (k0_111, .byte), (k1_111, .int), (k2_111, .int), (k0_127, .int), (k1_127, .int), (k2_127, .int), (k3_127, .int), (k0_138, .int)] s := hK
  generalize H1 = H at hP hS ⊢
  replace hP : va_P (dC, dI) vwCl [(h0, .inr (7, [.ref q8, .int 0, .ref q19, .ref q32, .int 0, .int 0, .ref q49, .ref q64, .ref q70, .int 200, .int 100, .ref q96, .ref q107, .int 0, .ref q123, .null, .null, .int 0])), (q8, .inl (cA8, 600, .inl (fun _ => 0))), (q19, .inr (4, [.ref q0_23, .int 0])), (q0_23, .inl (k0_23, 6272, .inl (fun _ => 0))), (q32, .inl (cA32, 100, .inr (.inr (.inr (.inr (fun _ => none)))))), (q49, .inr (6, [.ref q0_55, .ref q1_55, .int 0])), (q0_55, .inl (k0_55, 1440, .inl (fun _ => 0))), (q1_55, .inl (k1_55, 60, .inl (fun _ => 0))), (q64, .inl (cA64, 60, .inl (fun _ => 0))), (q70, .inr (6, [.ref q0_76, .ref q1_76, .int 0])), (q0_76, .inl (k0_76, 720, .inl (fun _ => 0))), (q1_76, .inl (k1_76, 30, .inl (fun _ => 0))), (q96, .inr (2, [.ref q0_100, .ref q1_100, .ref q2_100, .int 0, .int 0])), (q0_100, .inl (k0_100, 600, .inl (fun _ => 0))), (q1_100, .inl (k1_100, 60, .inl (fun _ => 0))), (q2_100, .inl (k2_100, 60, .inl (fun _ => 0))), (q107, .inr (2, [.ref q0_111, .ref q1_111, .ref q2_111, .int 0, .int 0])), (q0_111, .inl (k0_111, 600, .inl (fun _ => 0))), (q1_111, .inl (k1_111, 60, .inl (fun _ => 0))), (q2_111, .inl (k2_111, 60, .inl (fun _ => 0))), (q123, .inr (5, [.ref q0_127, .ref q1_127, .ref q2_127, .ref q3_127, .int 0, .int 0, .int 0, .int (-1), .int 0])), (q0_127, .inl (k0_127, 480, .inl (fun _ => 0))), (q1_127, .inl (k1_127, 480, .inl (fun _ => 0))), (q2_127, .inl (k2_127, 60, .inl (fun _ => 0))), (q3_127, .inl (k3_127, 60, .inl (fun _ => 0))), (q134, .inr (1, [.ref q0_138, .int 0, .int 0])), (q0_138, .inl (k0_138, 60, .inl (fun _ => 0)))] H := hP
  replace hD : va_D A [(h0, .inr (7, [.ref q8, .int 0, .ref q19, .ref q32, .int 0, .int 0, .ref q49, .ref q64, .ref q70, .int 200, .int 100, .ref q96, .ref q107, .int 0, .ref q123, .null, .null, .int 0])), (q8, .inl (cA8, 600, .inl (fun _ => 0))), (q19, .inr (4, [.ref q0_23, .int 0])), (q0_23, .inl (k0_23, 6272, .inl (fun _ => 0))), (q32, .inl (cA32, 100, .inr (.inr (.inr (.inr (fun _ => none)))))), (q49, .inr (6, [.ref q0_55, .ref q1_55, .int 0])), (q0_55, .inl (k0_55, 1440, .inl (fun _ => 0))), (q1_55, .inl (k1_55, 60, .inl (fun _ => 0))), (q64, .inl (cA64, 60, .inl (fun _ => 0))), (q70, .inr (6, [.ref q0_76, .ref q1_76, .int 0])), (q0_76, .inl (k0_76, 720, .inl (fun _ => 0))), (q1_76, .inl (k1_76, 30, .inl (fun _ => 0))), (q96, .inr (2, [.ref q0_100, .ref q1_100, .ref q2_100, .int 0, .int 0])), (q0_100, .inl (k0_100, 600, .inl (fun _ => 0))), (q1_100, .inl (k1_100, 60, .inl (fun _ => 0))), (q2_100, .inl (k2_100, 60, .inl (fun _ => 0))), (q107, .inr (2, [.ref q0_111, .ref q1_111, .ref q2_111, .int 0, .int 0])), (q0_111, .inl (k0_111, 600, .inl (fun _ => 0))), (q1_111, .inl (k1_111, 60, .inl (fun _ => 0))), (q2_111, .inl (k2_111, 60, .inl (fun _ => 0))), (q123, .inr (5, [.ref q0_127, .ref q1_127, .ref q2_127, .ref q3_127, .int 0, .int 0, .int 0, .int (-1), .int 0])), (q0_127, .inl (k0_127, 480, .inl (fun _ => 0))), (q1_127, .inl (k1_127, 480, .inl (fun _ => 0))), (q2_127, .inl (k2_127, 60, .inl (fun _ => 0))), (q3_127, .inl (k3_127, 60, .inl (fun _ => 0))), (q134, .inr (1, [.ref q0_138, .int 0, .int 0])), (q0_138, .inl (k0_138, 60, .inl (fun _ => 0)))] := hD
  refine W.widen (k := 26) (n := 11892) (by omega) (by omega) ?_
  refine va_putF (D := (dC, dI)) (ci := 7) (v := .ref q134) (ty := .object "TongueTeller$Parting") (C := RX7) (T := TX7) (N := 18) hx hb hts hi_X7 tyX7 tyX7_ok nmX7 hown hK hP hD hS 0 rfl rfl 15 (by decide) k_f82 (fun _ h9 => h9) rfl hin rfl (by decide +kernel) rfl rfl (Nat.le_of_ble_eq_true rfl) dX7_init_141 (fun H locs hP hD hS => ?_)
  replace hP : va_P (dC, dI) vwCl [(h0, .inr (7, [.ref q8, .int 0, .ref q19, .ref q32, .int 0, .int 0, .ref q49, .ref q64, .ref q70, .int 200, .int 100, .ref q96, .ref q107, .int 0, .ref q123, .ref q134, .null, .int 0])), (q8, .inl (cA8, 600, .inl (fun _ => 0))), (q19, .inr (4, [.ref q0_23, .int 0])), (q0_23, .inl (k0_23, 6272, .inl (fun _ => 0))), (q32, .inl (cA32, 100, .inr (.inr (.inr (.inr (fun _ => none)))))), (q49, .inr (6, [.ref q0_55, .ref q1_55, .int 0])), (q0_55, .inl (k0_55, 1440, .inl (fun _ => 0))), (q1_55, .inl (k1_55, 60, .inl (fun _ => 0))), (q64, .inl (cA64, 60, .inl (fun _ => 0))), (q70, .inr (6, [.ref q0_76, .ref q1_76, .int 0])), (q0_76, .inl (k0_76, 720, .inl (fun _ => 0))), (q1_76, .inl (k1_76, 30, .inl (fun _ => 0))), (q96, .inr (2, [.ref q0_100, .ref q1_100, .ref q2_100, .int 0, .int 0])), (q0_100, .inl (k0_100, 600, .inl (fun _ => 0))), (q1_100, .inl (k1_100, 60, .inl (fun _ => 0))), (q2_100, .inl (k2_100, 60, .inl (fun _ => 0))), (q107, .inr (2, [.ref q0_111, .ref q1_111, .ref q2_111, .int 0, .int 0])), (q0_111, .inl (k0_111, 600, .inl (fun _ => 0))), (q1_111, .inl (k1_111, 60, .inl (fun _ => 0))), (q2_111, .inl (k2_111, 60, .inl (fun _ => 0))), (q123, .inr (5, [.ref q0_127, .ref q1_127, .ref q2_127, .ref q3_127, .int 0, .int 0, .int 0, .int (-1), .int 0])), (q0_127, .inl (k0_127, 480, .inl (fun _ => 0))), (q1_127, .inl (k1_127, 480, .inl (fun _ => 0))), (q2_127, .inl (k2_127, 60, .inl (fun _ => 0))), (q3_127, .inl (k3_127, 60, .inl (fun _ => 0))), (q134, .inr (1, [.ref q0_138, .int 0, .int 0])), (q0_138, .inl (k0_138, 60, .inl (fun _ => 0)))] H := hP
  replace hD : va_D A [(h0, .inr (7, [.ref q8, .int 0, .ref q19, .ref q32, .int 0, .int 0, .ref q49, .ref q64, .ref q70, .int 200, .int 100, .ref q96, .ref q107, .int 0, .ref q123, .ref q134, .null, .int 0])), (q8, .inl (cA8, 600, .inl (fun _ => 0))), (q19, .inr (4, [.ref q0_23, .int 0])), (q0_23, .inl (k0_23, 6272, .inl (fun _ => 0))), (q32, .inl (cA32, 100, .inr (.inr (.inr (.inr (fun _ => none)))))), (q49, .inr (6, [.ref q0_55, .ref q1_55, .int 0])), (q0_55, .inl (k0_55, 1440, .inl (fun _ => 0))), (q1_55, .inl (k1_55, 60, .inl (fun _ => 0))), (q64, .inl (cA64, 60, .inl (fun _ => 0))), (q70, .inr (6, [.ref q0_76, .ref q1_76, .int 0])), (q0_76, .inl (k0_76, 720, .inl (fun _ => 0))), (q1_76, .inl (k1_76, 30, .inl (fun _ => 0))), (q96, .inr (2, [.ref q0_100, .ref q1_100, .ref q2_100, .int 0, .int 0])), (q0_100, .inl (k0_100, 600, .inl (fun _ => 0))), (q1_100, .inl (k1_100, 60, .inl (fun _ => 0))), (q2_100, .inl (k2_100, 60, .inl (fun _ => 0))), (q107, .inr (2, [.ref q0_111, .ref q1_111, .ref q2_111, .int 0, .int 0])), (q0_111, .inl (k0_111, 600, .inl (fun _ => 0))), (q1_111, .inl (k1_111, 60, .inl (fun _ => 0))), (q2_111, .inl (k2_111, 60, .inl (fun _ => 0))), (q123, .inr (5, [.ref q0_127, .ref q1_127, .ref q2_127, .ref q3_127, .int 0, .int 0, .int 0, .int (-1), .int 0])), (q0_127, .inl (k0_127, 480, .inl (fun _ => 0))), (q1_127, .inl (k1_127, 480, .inl (fun _ => 0))), (q2_127, .inl (k2_127, 60, .inl (fun _ => 0))), (q3_127, .inl (k3_127, 60, .inl (fun _ => 0))), (q134, .inr (1, [.ref q0_138, .int 0, .int 0])), (q0_138, .inl (k0_138, 60, .inl (fun _ => 0)))] := hD
  refine lv_aload_n hx hb dX7_init_144 rfl (lv_at hl 0 rfl) ?_
  have hSo := hS
  clear hS
  refine va_new (ci := 3) (fs := [.null, .int 0, .null]) (C := RX3) (T := TX3) (N := 3) hx hb hts hi_X3 tyX3 tyX3_ok hown (hts (.classLink RX7 86 RX3) (by decide +kernel)) (hts (.instantiable RX3 3) (by decide +kernel)) (hts (.initialized RX3) (by decide +kernel)) hK hP hD hSo hA rfl (fun j hj => by match j, hj with | 0, _ => rfl | 1, _ => rfl | 2, _ => rfl | k + 3, h => omega) (Nat.le_of_ble_eq_true rfl) (Nat.le_of_ble_eq_true rfl) dX7_init_145 (fun q145 H hP hD hS => ?_)
  clear hSo
  replace hP : va_P (dC, dI) vwCl [(h0, .inr (7, [.ref q8, .int 0, .ref q19, .ref q32, .int 0, .int 0, .ref q49, .ref q64, .ref q70, .int 200, .int 100, .ref q96, .ref q107, .int 0, .ref q123, .ref q134, .null, .int 0])), (q8, .inl (cA8, 600, .inl (fun _ => 0))), (q19, .inr (4, [.ref q0_23, .int 0])), (q0_23, .inl (k0_23, 6272, .inl (fun _ => 0))), (q32, .inl (cA32, 100, .inr (.inr (.inr (.inr (fun _ => none)))))), (q49, .inr (6, [.ref q0_55, .ref q1_55, .int 0])), (q0_55, .inl (k0_55, 1440, .inl (fun _ => 0))), (q1_55, .inl (k1_55, 60, .inl (fun _ => 0))), (q64, .inl (cA64, 60, .inl (fun _ => 0))), (q70, .inr (6, [.ref q0_76, .ref q1_76, .int 0])), (q0_76, .inl (k0_76, 720, .inl (fun _ => 0))), (q1_76, .inl (k1_76, 30, .inl (fun _ => 0))), (q96, .inr (2, [.ref q0_100, .ref q1_100, .ref q2_100, .int 0, .int 0])), (q0_100, .inl (k0_100, 600, .inl (fun _ => 0))), (q1_100, .inl (k1_100, 60, .inl (fun _ => 0))), (q2_100, .inl (k2_100, 60, .inl (fun _ => 0))), (q107, .inr (2, [.ref q0_111, .ref q1_111, .ref q2_111, .int 0, .int 0])), (q0_111, .inl (k0_111, 600, .inl (fun _ => 0))), (q1_111, .inl (k1_111, 60, .inl (fun _ => 0))), (q2_111, .inl (k2_111, 60, .inl (fun _ => 0))), (q123, .inr (5, [.ref q0_127, .ref q1_127, .ref q2_127, .ref q3_127, .int 0, .int 0, .int 0, .int (-1), .int 0])), (q0_127, .inl (k0_127, 480, .inl (fun _ => 0))), (q1_127, .inl (k1_127, 480, .inl (fun _ => 0))), (q2_127, .inl (k2_127, 60, .inl (fun _ => 0))), (q3_127, .inl (k3_127, 60, .inl (fun _ => 0))), (q134, .inr (1, [.ref q0_138, .int 0, .int 0])), (q0_138, .inl (k0_138, 60, .inl (fun _ => 0))), (q145, .inr (3, [.null, .int 0, .null]))] H := hP
  replace hD : va_D A [(h0, .inr (7, [.ref q8, .int 0, .ref q19, .ref q32, .int 0, .int 0, .ref q49, .ref q64, .ref q70, .int 200, .int 100, .ref q96, .ref q107, .int 0, .ref q123, .ref q134, .null, .int 0])), (q8, .inl (cA8, 600, .inl (fun _ => 0))), (q19, .inr (4, [.ref q0_23, .int 0])), (q0_23, .inl (k0_23, 6272, .inl (fun _ => 0))), (q32, .inl (cA32, 100, .inr (.inr (.inr (.inr (fun _ => none)))))), (q49, .inr (6, [.ref q0_55, .ref q1_55, .int 0])), (q0_55, .inl (k0_55, 1440, .inl (fun _ => 0))), (q1_55, .inl (k1_55, 60, .inl (fun _ => 0))), (q64, .inl (cA64, 60, .inl (fun _ => 0))), (q70, .inr (6, [.ref q0_76, .ref q1_76, .int 0])), (q0_76, .inl (k0_76, 720, .inl (fun _ => 0))), (q1_76, .inl (k1_76, 30, .inl (fun _ => 0))), (q96, .inr (2, [.ref q0_100, .ref q1_100, .ref q2_100, .int 0, .int 0])), (q0_100, .inl (k0_100, 600, .inl (fun _ => 0))), (q1_100, .inl (k1_100, 60, .inl (fun _ => 0))), (q2_100, .inl (k2_100, 60, .inl (fun _ => 0))), (q107, .inr (2, [.ref q0_111, .ref q1_111, .ref q2_111, .int 0, .int 0])), (q0_111, .inl (k0_111, 600, .inl (fun _ => 0))), (q1_111, .inl (k1_111, 60, .inl (fun _ => 0))), (q2_111, .inl (k2_111, 60, .inl (fun _ => 0))), (q123, .inr (5, [.ref q0_127, .ref q1_127, .ref q2_127, .ref q3_127, .int 0, .int 0, .int 0, .int (-1), .int 0])), (q0_127, .inl (k0_127, 480, .inl (fun _ => 0))), (q1_127, .inl (k1_127, 480, .inl (fun _ => 0))), (q2_127, .inl (k2_127, 60, .inl (fun _ => 0))), (q3_127, .inl (k3_127, 60, .inl (fun _ => 0))), (q134, .inr (1, [.ref q0_138, .int 0, .int 0])), (q0_138, .inl (k0_138, 60, .inl (fun _ => 0))), (q145, .inr (3, [.null, .int 0, .null]))] := hD
  refine W.widen (k := 27) (n := 11895) (by omega) (by omega) ?_
  refine lv_dup hx hb dX7_init_148 rfl ?_
  have hPc := hP.sub (ws' := [(q145, .inr (3, [.null, .int 0, .null]))]) [27] rfl
  have hDc := hD.sub (ws' := [(q145, .inr (3, [.null, .int 0, .null]))]) [27] (by decide) rfl
  have hKc := hK.sub (tys' := []) [] rfl
  have hFc := va_free (wc := [(q145, .inr (3, [.null, .int 0, .null]))]) hD hS hA [27] rfl
  refine va_callv (va_runIN (As := []) (rest := [.ref q145, .ref h0]) ⟨hx, hb, hml, hown, hts⟩ (c_X3_init l dC dI q145 H.size) ⟨va_cnB 0 hts gX7_init_X3_init_n88 rfl rfl rfl hnw_88 (hts (.initialized RX3) (by decide +kernel)) (by decide +kernel) ⟨Nat.le_of_ble_eq_true rfl, Nat.le_of_ble_eq_true rfl⟩, rfl, hts (.instanceMethod yX3_init) (by decide +kernel)⟩ ⟨fun a U g mk q => by obtain ⟨q0, q1, qP, qK, qD⟩ := q; exact ⟨q0, q1, qP, va_K.moved (u := U) (U := U.calling g mk a) (Vm.Alike.refl U.vm) qK, qD⟩, fun U hU hW => ⟨rfl, by rw [hU], by rw [hU]; exact hPc, va_K.moved hW.alike hKc, hDc.weaken (fun _ _ _ _ => trivial)⟩⟩ rfl rfl hl.1 rfl (lv_room (Nat.le_of_ble_eq_true rfl)) dX7_init_149 ⟨Nat.le_of_ble_eq_true rfl, Nat.le_of_ble_eq_true rfl⟩) hS (fun q _ h => hFc q h) hFc (fun u t H1 locs ht hvm hw_149 hB hz1 hk1 hS => ?_)
  obtain ⟨q0_149, q1_149, k0_149, k1_149, hP1, hK1, hD1⟩ := hB
  rw [ht] at hP1
  obtain ⟨hP, hD⟩ := va_join (wr := [(h0, .inr (7, [.ref q8, .int 0, .ref q19, .ref q32, .int 0, .int 0, .ref q49, .ref q64, .ref q70, .int 200, .int 100, .ref q96, .ref q107, .int 0, .ref q123, .ref q134, .null, .int 0])), (q8, .inl (cA8, 600, .inl (fun _ => 0))), (q19, .inr (4, [.ref q0_23, .int 0])), (q0_23, .inl (k0_23, 6272, .inl (fun _ => 0))), (q32, .inl (cA32, 100, .inr (.inr (.inr (.inr (fun _ => none)))))), (q49, .inr (6, [.ref q0_55, .ref q1_55, .int 0])), (q0_55, .inl (k0_55, 1440, .inl (fun _ => 0))), (q1_55, .inl (k1_55, 60, .inl (fun _ => 0))), (q64, .inl (cA64, 60, .inl (fun _ => 0))), (q70, .inr (6, [.ref q0_76, .ref q1_76, .int 0])), (q0_76, .inl (k0_76, 720, .inl (fun _ => 0))), (q1_76, .inl (k1_76, 30, .inl (fun _ => 0))), (q96, .inr (2, [.ref q0_100, .ref q1_100, .ref q2_100, .int 0, .int 0])), (q0_100, .inl (k0_100, 600, .inl (fun _ => 0))), (q1_100, .inl (k1_100, 60, .inl (fun _ => 0))), (q2_100, .inl (k2_100, 60, .inl (fun _ => 0))), (q107, .inr (2, [.ref q0_111, .ref q1_111, .ref q2_111, .int 0, .int 0])), (q0_111, .inl (k0_111, 600, .inl (fun _ => 0))), (q1_111, .inl (k1_111, 60, .inl (fun _ => 0))), (q2_111, .inl (k2_111, 60, .inl (fun _ => 0))), (q123, .inr (5, [.ref q0_127, .ref q1_127, .ref q2_127, .ref q3_127, .int 0, .int 0, .int 0, .int (-1), .int 0])), (q0_127, .inl (k0_127, 480, .inl (fun _ => 0))), (q1_127, .inl (k1_127, 480, .inl (fun _ => 0))), (q2_127, .inl (k2_127, 60, .inl (fun _ => 0))), (q3_127, .inl (k3_127, 60, .inl (fun _ => 0))), (q134, .inr (1, [.ref q0_138, .int 0, .int 0])), (q0_138, .inl (k0_138, 60, .inl (fun _ => 0)))]) (w1 := [(q145, .inr (3, [.ref q0_149, .int 0, .ref q1_149])), (q0_149, .inl (k0_149, 60, .inl (fun _ => 0))), (q1_149, .inl (k1_149, 60, .inl (fun _ => 0)))]) hP hD [27] [0, 1, 2, 3, 4, 5, 6, 7, 8, 9, 10, 11, 12, 13, 14, 15, 16, 17, 18, 19, 20, 21, 22, 23, 24, 25, 26] rfl rfl (by decide) (by decide) hk1 hFc hP1 hD1
  have hK1 := va_K.moved hvm.symm hK1
  have hK := hK.app hK1
  have hK : va_K (dC, dI) vwCl [(cA8, .byte), (k0_23, .int), (cA32, .object "TongueTeller$Learnt"), (k0_55, .byte), (k1_55, .int), (cA64, .int), (k0_76, .byte), (k1_76, .int), (k0_100, .byte), (k1_100, .int), (k2_100, .int), (k0_111, .byte), (k1_111, .int), (k2_111, .int), (k0_127, .int), (k1_127, .int), (k2_127, .int), (k3_127, .int), (k0_138, .int), (k0_149, .int), (k1_149, .boolean)] s := hK
  generalize H1 = H at hP hS ⊢
  replace hP : va_P (dC, dI) vwCl [(h0, .inr (7, [.ref q8, .int 0, .ref q19, .ref q32, .int 0, .int 0, .ref q49, .ref q64, .ref q70, .int 200, .int 100, .ref q96, .ref q107, .int 0, .ref q123, .ref q134, .null, .int 0])), (q8, .inl (cA8, 600, .inl (fun _ => 0))), (q19, .inr (4, [.ref q0_23, .int 0])), (q0_23, .inl (k0_23, 6272, .inl (fun _ => 0))), (q32, .inl (cA32, 100, .inr (.inr (.inr (.inr (fun _ => none)))))), (q49, .inr (6, [.ref q0_55, .ref q1_55, .int 0])), (q0_55, .inl (k0_55, 1440, .inl (fun _ => 0))), (q1_55, .inl (k1_55, 60, .inl (fun _ => 0))), (q64, .inl (cA64, 60, .inl (fun _ => 0))), (q70, .inr (6, [.ref q0_76, .ref q1_76, .int 0])), (q0_76, .inl (k0_76, 720, .inl (fun _ => 0))), (q1_76, .inl (k1_76, 30, .inl (fun _ => 0))), (q96, .inr (2, [.ref q0_100, .ref q1_100, .ref q2_100, .int 0, .int 0])), (q0_100, .inl (k0_100, 600, .inl (fun _ => 0))), (q1_100, .inl (k1_100, 60, .inl (fun _ => 0))), (q2_100, .inl (k2_100, 60, .inl (fun _ => 0))), (q107, .inr (2, [.ref q0_111, .ref q1_111, .ref q2_111, .int 0, .int 0])), (q0_111, .inl (k0_111, 600, .inl (fun _ => 0))), (q1_111, .inl (k1_111, 60, .inl (fun _ => 0))), (q2_111, .inl (k2_111, 60, .inl (fun _ => 0))), (q123, .inr (5, [.ref q0_127, .ref q1_127, .ref q2_127, .ref q3_127, .int 0, .int 0, .int 0, .int (-1), .int 0])), (q0_127, .inl (k0_127, 480, .inl (fun _ => 0))), (q1_127, .inl (k1_127, 480, .inl (fun _ => 0))), (q2_127, .inl (k2_127, 60, .inl (fun _ => 0))), (q3_127, .inl (k3_127, 60, .inl (fun _ => 0))), (q134, .inr (1, [.ref q0_138, .int 0, .int 0])), (q0_138, .inl (k0_138, 60, .inl (fun _ => 0))), (q145, .inr (3, [.ref q0_149, .int 0, .ref q1_149])), (q0_149, .inl (k0_149, 60, .inl (fun _ => 0))), (q1_149, .inl (k1_149, 60, .inl (fun _ => 0)))] H := hP
  replace hD : va_D A [(h0, .inr (7, [.ref q8, .int 0, .ref q19, .ref q32, .int 0, .int 0, .ref q49, .ref q64, .ref q70, .int 200, .int 100, .ref q96, .ref q107, .int 0, .ref q123, .ref q134, .null, .int 0])), (q8, .inl (cA8, 600, .inl (fun _ => 0))), (q19, .inr (4, [.ref q0_23, .int 0])), (q0_23, .inl (k0_23, 6272, .inl (fun _ => 0))), (q32, .inl (cA32, 100, .inr (.inr (.inr (.inr (fun _ => none)))))), (q49, .inr (6, [.ref q0_55, .ref q1_55, .int 0])), (q0_55, .inl (k0_55, 1440, .inl (fun _ => 0))), (q1_55, .inl (k1_55, 60, .inl (fun _ => 0))), (q64, .inl (cA64, 60, .inl (fun _ => 0))), (q70, .inr (6, [.ref q0_76, .ref q1_76, .int 0])), (q0_76, .inl (k0_76, 720, .inl (fun _ => 0))), (q1_76, .inl (k1_76, 30, .inl (fun _ => 0))), (q96, .inr (2, [.ref q0_100, .ref q1_100, .ref q2_100, .int 0, .int 0])), (q0_100, .inl (k0_100, 600, .inl (fun _ => 0))), (q1_100, .inl (k1_100, 60, .inl (fun _ => 0))), (q2_100, .inl (k2_100, 60, .inl (fun _ => 0))), (q107, .inr (2, [.ref q0_111, .ref q1_111, .ref q2_111, .int 0, .int 0])), (q0_111, .inl (k0_111, 600, .inl (fun _ => 0))), (q1_111, .inl (k1_111, 60, .inl (fun _ => 0))), (q2_111, .inl (k2_111, 60, .inl (fun _ => 0))), (q123, .inr (5, [.ref q0_127, .ref q1_127, .ref q2_127, .ref q3_127, .int 0, .int 0, .int 0, .int (-1), .int 0])), (q0_127, .inl (k0_127, 480, .inl (fun _ => 0))), (q1_127, .inl (k1_127, 480, .inl (fun _ => 0))), (q2_127, .inl (k2_127, 60, .inl (fun _ => 0))), (q3_127, .inl (k3_127, 60, .inl (fun _ => 0))), (q134, .inr (1, [.ref q0_138, .int 0, .int 0])), (q0_138, .inl (k0_138, 60, .inl (fun _ => 0))), (q145, .inr (3, [.ref q0_149, .int 0, .ref q1_149])), (q0_149, .inl (k0_149, 60, .inl (fun _ => 0))), (q1_149, .inl (k1_149, 60, .inl (fun _ => 0)))] := hD
  refine W.widen (k := 29) (n := 12015) (by omega) (by omega) ?_
  refine va_putF (D := (dC, dI)) (ci := 7) (v := .ref q145) (ty := .object "TongueTeller$Telling") (C := RX7) (T := TX7) (N := 18) hx hb hts hi_X7 tyX7 tyX7_ok nmX7 hown hK hP hD hS 0 rfl rfl 16 (by decide) k_f89 (fun _ h9 => h9) rfl hin rfl (by decide +kernel) rfl rfl (Nat.le_of_ble_eq_true rfl) dX7_init_152 (fun H locs hP hD hS => ?_)
  replace hP : va_P (dC, dI) vwCl [(h0, .inr (7, [.ref q8, .int 0, .ref q19, .ref q32, .int 0, .int 0, .ref q49, .ref q64, .ref q70, .int 200, .int 100, .ref q96, .ref q107, .int 0, .ref q123, .ref q134, .ref q145, .int 0])), (q8, .inl (cA8, 600, .inl (fun _ => 0))), (q19, .inr (4, [.ref q0_23, .int 0])), (q0_23, .inl (k0_23, 6272, .inl (fun _ => 0))), (q32, .inl (cA32, 100, .inr (.inr (.inr (.inr (fun _ => none)))))), (q49, .inr (6, [.ref q0_55, .ref q1_55, .int 0])), (q0_55, .inl (k0_55, 1440, .inl (fun _ => 0))), (q1_55, .inl (k1_55, 60, .inl (fun _ => 0))), (q64, .inl (cA64, 60, .inl (fun _ => 0))), (q70, .inr (6, [.ref q0_76, .ref q1_76, .int 0])), (q0_76, .inl (k0_76, 720, .inl (fun _ => 0))), (q1_76, .inl (k1_76, 30, .inl (fun _ => 0))), (q96, .inr (2, [.ref q0_100, .ref q1_100, .ref q2_100, .int 0, .int 0])), (q0_100, .inl (k0_100, 600, .inl (fun _ => 0))), (q1_100, .inl (k1_100, 60, .inl (fun _ => 0))), (q2_100, .inl (k2_100, 60, .inl (fun _ => 0))), (q107, .inr (2, [.ref q0_111, .ref q1_111, .ref q2_111, .int 0, .int 0])), (q0_111, .inl (k0_111, 600, .inl (fun _ => 0))), (q1_111, .inl (k1_111, 60, .inl (fun _ => 0))), (q2_111, .inl (k2_111, 60, .inl (fun _ => 0))), (q123, .inr (5, [.ref q0_127, .ref q1_127, .ref q2_127, .ref q3_127, .int 0, .int 0, .int 0, .int (-1), .int 0])), (q0_127, .inl (k0_127, 480, .inl (fun _ => 0))), (q1_127, .inl (k1_127, 480, .inl (fun _ => 0))), (q2_127, .inl (k2_127, 60, .inl (fun _ => 0))), (q3_127, .inl (k3_127, 60, .inl (fun _ => 0))), (q134, .inr (1, [.ref q0_138, .int 0, .int 0])), (q0_138, .inl (k0_138, 60, .inl (fun _ => 0))), (q145, .inr (3, [.ref q0_149, .int 0, .ref q1_149])), (q0_149, .inl (k0_149, 60, .inl (fun _ => 0))), (q1_149, .inl (k1_149, 60, .inl (fun _ => 0)))] H := hP
  replace hD : va_D A [(h0, .inr (7, [.ref q8, .int 0, .ref q19, .ref q32, .int 0, .int 0, .ref q49, .ref q64, .ref q70, .int 200, .int 100, .ref q96, .ref q107, .int 0, .ref q123, .ref q134, .ref q145, .int 0])), (q8, .inl (cA8, 600, .inl (fun _ => 0))), (q19, .inr (4, [.ref q0_23, .int 0])), (q0_23, .inl (k0_23, 6272, .inl (fun _ => 0))), (q32, .inl (cA32, 100, .inr (.inr (.inr (.inr (fun _ => none)))))), (q49, .inr (6, [.ref q0_55, .ref q1_55, .int 0])), (q0_55, .inl (k0_55, 1440, .inl (fun _ => 0))), (q1_55, .inl (k1_55, 60, .inl (fun _ => 0))), (q64, .inl (cA64, 60, .inl (fun _ => 0))), (q70, .inr (6, [.ref q0_76, .ref q1_76, .int 0])), (q0_76, .inl (k0_76, 720, .inl (fun _ => 0))), (q1_76, .inl (k1_76, 30, .inl (fun _ => 0))), (q96, .inr (2, [.ref q0_100, .ref q1_100, .ref q2_100, .int 0, .int 0])), (q0_100, .inl (k0_100, 600, .inl (fun _ => 0))), (q1_100, .inl (k1_100, 60, .inl (fun _ => 0))), (q2_100, .inl (k2_100, 60, .inl (fun _ => 0))), (q107, .inr (2, [.ref q0_111, .ref q1_111, .ref q2_111, .int 0, .int 0])), (q0_111, .inl (k0_111, 600, .inl (fun _ => 0))), (q1_111, .inl (k1_111, 60, .inl (fun _ => 0))), (q2_111, .inl (k2_111, 60, .inl (fun _ => 0))), (q123, .inr (5, [.ref q0_127, .ref q1_127, .ref q2_127, .ref q3_127, .int 0, .int 0, .int 0, .int (-1), .int 0])), (q0_127, .inl (k0_127, 480, .inl (fun _ => 0))), (q1_127, .inl (k1_127, 480, .inl (fun _ => 0))), (q2_127, .inl (k2_127, 60, .inl (fun _ => 0))), (q3_127, .inl (k3_127, 60, .inl (fun _ => 0))), (q134, .inr (1, [.ref q0_138, .int 0, .int 0])), (q0_138, .inl (k0_138, 60, .inl (fun _ => 0))), (q145, .inr (3, [.ref q0_149, .int 0, .ref q1_149])), (q0_149, .inl (k0_149, 60, .inl (fun _ => 0))), (q1_149, .inl (k1_149, 60, .inl (fun _ => 0)))] := hD
  refine lv_aload_n hx hb dX7_init_155 rfl (lv_at hl 0 rfl) ?_
  refine lv_iconst (v := 0) hx hb dX7_init_156 (by decide) ?_
  refine va_put (D := (dC, dI)) (ci := 7) (v := .int 0) (ty := .int) (C := RX7) (T := TX7) (N := 18) hx hb hts hi_X7 tyX7 tyX7_ok nmX7 hown hK hP hD hS 0 rfl rfl 17 (by decide) k_f93 (fun _ h9 => h9) rfl (by decide +kernel) rfl rfl (Nat.le_of_ble_eq_true rfl) dX7_init_157 (fun H locs hP hD hS => ?_)
  replace hP : va_P (dC, dI) vwCl [(h0, .inr (7, [.ref q8, .int 0, .ref q19, .ref q32, .int 0, .int 0, .ref q49, .ref q64, .ref q70, .int 200, .int 100, .ref q96, .ref q107, .int 0, .ref q123, .ref q134, .ref q145, .int 0])), (q8, .inl (cA8, 600, .inl (fun _ => 0))), (q19, .inr (4, [.ref q0_23, .int 0])), (q0_23, .inl (k0_23, 6272, .inl (fun _ => 0))), (q32, .inl (cA32, 100, .inr (.inr (.inr (.inr (fun _ => none)))))), (q49, .inr (6, [.ref q0_55, .ref q1_55, .int 0])), (q0_55, .inl (k0_55, 1440, .inl (fun _ => 0))), (q1_55, .inl (k1_55, 60, .inl (fun _ => 0))), (q64, .inl (cA64, 60, .inl (fun _ => 0))), (q70, .inr (6, [.ref q0_76, .ref q1_76, .int 0])), (q0_76, .inl (k0_76, 720, .inl (fun _ => 0))), (q1_76, .inl (k1_76, 30, .inl (fun _ => 0))), (q96, .inr (2, [.ref q0_100, .ref q1_100, .ref q2_100, .int 0, .int 0])), (q0_100, .inl (k0_100, 600, .inl (fun _ => 0))), (q1_100, .inl (k1_100, 60, .inl (fun _ => 0))), (q2_100, .inl (k2_100, 60, .inl (fun _ => 0))), (q107, .inr (2, [.ref q0_111, .ref q1_111, .ref q2_111, .int 0, .int 0])), (q0_111, .inl (k0_111, 600, .inl (fun _ => 0))), (q1_111, .inl (k1_111, 60, .inl (fun _ => 0))), (q2_111, .inl (k2_111, 60, .inl (fun _ => 0))), (q123, .inr (5, [.ref q0_127, .ref q1_127, .ref q2_127, .ref q3_127, .int 0, .int 0, .int 0, .int (-1), .int 0])), (q0_127, .inl (k0_127, 480, .inl (fun _ => 0))), (q1_127, .inl (k1_127, 480, .inl (fun _ => 0))), (q2_127, .inl (k2_127, 60, .inl (fun _ => 0))), (q3_127, .inl (k3_127, 60, .inl (fun _ => 0))), (q134, .inr (1, [.ref q0_138, .int 0, .int 0])), (q0_138, .inl (k0_138, 60, .inl (fun _ => 0))), (q145, .inr (3, [.ref q0_149, .int 0, .ref q1_149])), (q0_149, .inl (k0_149, 60, .inl (fun _ => 0))), (q1_149, .inl (k1_149, 60, .inl (fun _ => 0)))] H := hP
  replace hD : va_D A [(h0, .inr (7, [.ref q8, .int 0, .ref q19, .ref q32, .int 0, .int 0, .ref q49, .ref q64, .ref q70, .int 200, .int 100, .ref q96, .ref q107, .int 0, .ref q123, .ref q134, .ref q145, .int 0])), (q8, .inl (cA8, 600, .inl (fun _ => 0))), (q19, .inr (4, [.ref q0_23, .int 0])), (q0_23, .inl (k0_23, 6272, .inl (fun _ => 0))), (q32, .inl (cA32, 100, .inr (.inr (.inr (.inr (fun _ => none)))))), (q49, .inr (6, [.ref q0_55, .ref q1_55, .int 0])), (q0_55, .inl (k0_55, 1440, .inl (fun _ => 0))), (q1_55, .inl (k1_55, 60, .inl (fun _ => 0))), (q64, .inl (cA64, 60, .inl (fun _ => 0))), (q70, .inr (6, [.ref q0_76, .ref q1_76, .int 0])), (q0_76, .inl (k0_76, 720, .inl (fun _ => 0))), (q1_76, .inl (k1_76, 30, .inl (fun _ => 0))), (q96, .inr (2, [.ref q0_100, .ref q1_100, .ref q2_100, .int 0, .int 0])), (q0_100, .inl (k0_100, 600, .inl (fun _ => 0))), (q1_100, .inl (k1_100, 60, .inl (fun _ => 0))), (q2_100, .inl (k2_100, 60, .inl (fun _ => 0))), (q107, .inr (2, [.ref q0_111, .ref q1_111, .ref q2_111, .int 0, .int 0])), (q0_111, .inl (k0_111, 600, .inl (fun _ => 0))), (q1_111, .inl (k1_111, 60, .inl (fun _ => 0))), (q2_111, .inl (k2_111, 60, .inl (fun _ => 0))), (q123, .inr (5, [.ref q0_127, .ref q1_127, .ref q2_127, .ref q3_127, .int 0, .int 0, .int 0, .int (-1), .int 0])), (q0_127, .inl (k0_127, 480, .inl (fun _ => 0))), (q1_127, .inl (k1_127, 480, .inl (fun _ => 0))), (q2_127, .inl (k2_127, 60, .inl (fun _ => 0))), (q3_127, .inl (k3_127, 60, .inl (fun _ => 0))), (q134, .inr (1, [.ref q0_138, .int 0, .int 0])), (q0_138, .inl (k0_138, 60, .inl (fun _ => 0))), (q145, .inr (3, [.ref q0_149, .int 0, .ref q1_149])), (q0_149, .inl (k0_149, 60, .inl (fun _ => 0))), (q1_149, .inl (k1_149, 60, .inl (fun _ => 0)))] := hD
  have hP9 := hP.sub (ws' := [(h0, .inr (7, [.ref q8, .int 0, .ref q19, .ref q32, .int 0, .int 0, .ref q49, .ref q64, .ref q70, .int 200, .int 100, .ref q96, .ref q107, .int 0, .ref q123, .ref q134, .ref q145, .int 0])), (q8, .inl (cA8, 600, .inl (fun _ => 0))), (q19, .inr (4, [.ref q0_23, .int 0])), (q0_23, .inl (k0_23, 6272, .inl (fun _ => 0))), (q32, .inl (cA32, 100, .inr (.inr (.inr (.inr (fun _ => none)))))), (q49, .inr (6, [.ref q0_55, .ref q1_55, .int 0])), (q0_55, .inl (k0_55, 1440, .inl (fun _ => 0))), (q1_55, .inl (k1_55, 60, .inl (fun _ => 0))), (q64, .inl (cA64, 60, .inl (fun _ => 0))), (q70, .inr (6, [.ref q0_76, .ref q1_76, .int 0])), (q0_76, .inl (k0_76, 720, .inl (fun _ => 0))), (q1_76, .inl (k1_76, 30, .inl (fun _ => 0))), (q96, .inr (2, [.ref q0_100, .ref q1_100, .ref q2_100, .int 0, .int 0])), (q0_100, .inl (k0_100, 600, .inl (fun _ => 0))), (q1_100, .inl (k1_100, 60, .inl (fun _ => 0))), (q2_100, .inl (k2_100, 60, .inl (fun _ => 0))), (q107, .inr (2, [.ref q0_111, .ref q1_111, .ref q2_111, .int 0, .int 0])), (q0_111, .inl (k0_111, 600, .inl (fun _ => 0))), (q1_111, .inl (k1_111, 60, .inl (fun _ => 0))), (q2_111, .inl (k2_111, 60, .inl (fun _ => 0))), (q123, .inr (5, [.ref q0_127, .ref q1_127, .ref q2_127, .ref q3_127, .int 0, .int 0, .int 0, .int (-1), .int 0])), (q0_127, .inl (k0_127, 480, .inl (fun _ => 0))), (q1_127, .inl (k1_127, 480, .inl (fun _ => 0))), (q2_127, .inl (k2_127, 60, .inl (fun _ => 0))), (q3_127, .inl (k3_127, 60, .inl (fun _ => 0))), (q134, .inr (1, [.ref q0_138, .int 0, .int 0])), (q0_138, .inl (k0_138, 60, .inl (fun _ => 0))), (q145, .inr (3, [.ref q0_149, .int 0, .ref q1_149])), (q0_149, .inl (k0_149, 60, .inl (fun _ => 0))), (q1_149, .inl (k1_149, 60, .inl (fun _ => 0)))]) [0, 1, 2, 3, 4, 5, 6, 7, 8, 9, 10, 11, 12, 13, 14, 15, 16, 17, 18, 19, 20, 21, 22, 23, 24, 25, 26, 27, 28, 29] rfl
  have hD9 := hD.sub (ws' := [(h0, .inr (7, [.ref q8, .int 0, .ref q19, .ref q32, .int 0, .int 0, .ref q49, .ref q64, .ref q70, .int 200, .int 100, .ref q96, .ref q107, .int 0, .ref q123, .ref q134, .ref q145, .int 0])), (q8, .inl (cA8, 600, .inl (fun _ => 0))), (q19, .inr (4, [.ref q0_23, .int 0])), (q0_23, .inl (k0_23, 6272, .inl (fun _ => 0))), (q32, .inl (cA32, 100, .inr (.inr (.inr (.inr (fun _ => none)))))), (q49, .inr (6, [.ref q0_55, .ref q1_55, .int 0])), (q0_55, .inl (k0_55, 1440, .inl (fun _ => 0))), (q1_55, .inl (k1_55, 60, .inl (fun _ => 0))), (q64, .inl (cA64, 60, .inl (fun _ => 0))), (q70, .inr (6, [.ref q0_76, .ref q1_76, .int 0])), (q0_76, .inl (k0_76, 720, .inl (fun _ => 0))), (q1_76, .inl (k1_76, 30, .inl (fun _ => 0))), (q96, .inr (2, [.ref q0_100, .ref q1_100, .ref q2_100, .int 0, .int 0])), (q0_100, .inl (k0_100, 600, .inl (fun _ => 0))), (q1_100, .inl (k1_100, 60, .inl (fun _ => 0))), (q2_100, .inl (k2_100, 60, .inl (fun _ => 0))), (q107, .inr (2, [.ref q0_111, .ref q1_111, .ref q2_111, .int 0, .int 0])), (q0_111, .inl (k0_111, 600, .inl (fun _ => 0))), (q1_111, .inl (k1_111, 60, .inl (fun _ => 0))), (q2_111, .inl (k2_111, 60, .inl (fun _ => 0))), (q123, .inr (5, [.ref q0_127, .ref q1_127, .ref q2_127, .ref q3_127, .int 0, .int 0, .int 0, .int (-1), .int 0])), (q0_127, .inl (k0_127, 480, .inl (fun _ => 0))), (q1_127, .inl (k1_127, 480, .inl (fun _ => 0))), (q2_127, .inl (k2_127, 60, .inl (fun _ => 0))), (q3_127, .inl (k3_127, 60, .inl (fun _ => 0))), (q134, .inr (1, [.ref q0_138, .int 0, .int 0])), (q0_138, .inl (k0_138, 60, .inl (fun _ => 0))), (q145, .inr (3, [.ref q0_149, .int 0, .ref q1_149])), (q0_149, .inl (k0_149, 60, .inl (fun _ => 0))), (q1_149, .inl (k1_149, 60, .inl (fun _ => 0)))]) [0, 1, 2, 3, 4, 5, 6, 7, 8, 9, 10, 11, 12, 13, 14, 15, 16, 17, 18, 19, 20, 21, 22, 23, 24, 25, 26, 27, 28, 29] (by decide) rfl
  have hK9 := hK.sub (tys' := [(cA8, .byte), (k0_23, .int), (cA32, .object "TongueTeller$Learnt"), (k0_55, .byte), (k1_55, .int), (cA64, .int), (k0_76, .byte), (k1_76, .int), (k0_100, .byte), (k1_100, .int), (k2_100, .int), (k0_111, .byte), (k1_111, .int), (k2_111, .int), (k0_127, .int), (k1_127, .int), (k2_127, .int), (k3_127, .int), (k0_138, .int), (k0_149, .int), (k1_149, .boolean)]) [0, 1, 2, 3, 4, 5, 6, 7, 8, 9, 10, 11, 12, 13, 14, 15, 16, 17, 18, 19, 20] rfl
  refine W.widen (k := 29) (n := 12015) (Nat.le_of_ble_eq_true rfl) (Nat.le_of_ble_eq_true rfl) ?_
  exact W.vret hx hb hr (fun t ht hW => ⟨⟨(), rfl, trivial, q8, q19, q0_23, q32, q49, q0_55, q1_55, q64, q70, q0_76, q1_76, q96, q0_100, q1_100, q2_100, q107, q0_111, q1_111, q2_111, q123, q0_127, q1_127, q2_127, q3_127, q134, q0_138, q145, q0_149, q1_149, cA8, k0_23, cA32, k0_55, k1_55, cA64, k0_76, k1_76, k0_100, k1_100, k2_100, k0_111, k1_111, k2_111, k0_127, k1_127, k2_127, k3_127, k0_138, k0_149, k1_149, by rw [ht]; exact hP9, va_K.moved hW.alike hK9, hD9⟩, hS.F ht⟩) hS.2.2 dX7_init_160
