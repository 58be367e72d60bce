set_option maxHeartbeats 4000000 in
set_option maxRecDepth 100000 in
theorem c_X7_telling (l : Launch) (hst : l.stackTraces = false) (dC : Nat → ClassId) (dI : Nat → Nat → Nat) (h0 : Nat) (a0 : Nat) (v1 : Int32) (a2 : Nat) (a3 : Nat) (v4 : Int32) (v5 : Int32) (a6 : Nat) (a7 : Nat) (a8 : Nat) (v9 : Int32) (v10 : Int32) (a11 : Nat) (a12 : Nat) (v13 : Int32) (a14 : Nat) (a15 : Nat) (a16 : Nat) (v17 : Int32) (b0 : Nat) (b1 : Nat) (p0 : Int32) (sz : Nat) : vx_Met l yX7_telling wsX7_telling ({ frames := 6, cells := 1, slots := 6, locals := 81 }) (va_Pc [.ref h0, .int p0] (fun U => U.heap.size = sz ∧ va_P (dC, dI) vwCl [(h0, .inr (7, [.ref a0, .int v1, .ref a2, .ref a3, .int v4, .int v5, .ref a6, .ref a7, .ref a8, .int v9, .int v10, .ref a11, .ref a12, .int v13, .ref a14, .ref a15, .ref a16, .int v17])), (a16, .inr (3, [.ref b0, .int 0, .ref b1]))] U.heap ∧ va_K (dC, dI) vwCl [] U ∧ va_Nw (.castable "java/util/NoSuchElementException" "java/util/NoSuchElementException") U ∧ va_Nw (.declares ⟨"java/lang/RuntimeException", "<init>", "()V"⟩) U ∧ va_Nw (.declares ⟨"java/lang/Exception", "<init>", "()V"⟩) U ∧ va_Nw (.declares ⟨"java/lang/Throwable", "<init>", "()V"⟩) U ∧ vx_Zq Bundle.tN "UNASSIGNED_STACK" Bundle.steD (va_A [] sz) U U.heap ∧ vx_Zq Bundle.tN "SUPPRESSED_SENTINEL" Bundle.listD (va_A [] sz) U U.heap)) (va_Qi (fun (_ : Int32) (_ : Unit) => False) (fun _ _ => True) (va_A [] sz)) (vx_X (fun (_ : Unit) => True) (fun E _ _ => E = "java/util/NoSuchElementException") (va_A [] sz)) 1 6 (va_A [] sz) := by
  refine vx_ofW (cc := cX7_telling) (maxL := 2) (ret := (some .int)) (by decide) rfl ?_
  intro p e s m args below meth c s₁ B hml hex hv
  obtain ⟨rfl, hsz, hP, hK, hcast, hd1, hd2, hd3, hU, hN⟩ := hv
  have hx := B.exec
  have hb := B.bytes
  have hr := B.returns
  have hts := atoms_spec (ws := wsX7_telling) B.pre
  have hown : s.vm.findClass RX7 = some m.cls := findClass_of_methodNamed B.named
  have hlocks := B.notSynchronized
  subst hsz
  have hS : va_S (va_A [] s.heap.size) s.heap s.heap [] := va_S.rf
  have hP : va_P (dC, dI) vwCl [(h0, .inr (7, [.ref a0, .int v1, .ref a2, .ref a3, .int v4, .int v5, .ref a6, .ref a7, .ref a8, .int v9, .int v10, .ref a11, .ref a12, .int v13, .ref a14, .ref a15, .ref a16, .int v17])), (a16, .inr (3, [.ref b0, .int 0, .ref b1]))] s.heap := hP
  have hat := vx_hat (args := #[Value.ref h0, Value.int p0]) (s := s) (L := vx_at0 RX7 255 "java/util/NoSuchElementException" ["java/lang/RuntimeException", "java/lang/Exception"]) (B := [.castable "java/util/NoSuchElementException" "java/util/NoSuchElementException", .declares ⟨"java/lang/RuntimeException", "<init>", "()V"⟩, .declares ⟨"java/lang/Exception", "<init>", "()V"⟩, .declares ⟨"java/lang/Throwable", "<init>", "()V"⟩]) (fun w h => hts w (List.mem_cons_of_mem _ (List.mem_append_right _ h))) (by decide +kernel) (vx_c (va_Nw.use rfl hcast) (vx_c (va_Nw.use rfl hd1) (vx_c (va_Nw.use rfl hd2) (vx_c (va_Nw.use rfl hd3) vx_n))))
  have hl := lv_entry ([.ref h0, .int p0]) (n := 2) (Nat.le_of_ble_eq_true rfl)
  rw [lg_entry_eq]
  generalize (lg_sl ([.ref h0, .int p0]) ++ List.replicate (2 - (lg_sl ([.ref h0, .int p0])).length) Slot.unset).toArray = ls at hl ⊢
  have hl : lv_has ls 2 [(0, .ref h0), (1, .int p0)] := hl
  have hi_X7 : ∀ w ∈ wsX70, w ∈ wsX7_telling := by decide +kernel
  have k_f89 := hts (.fieldLink RX7 89 "TongueTeller" "tellers" "LTongueTeller$Telling;") (by decide +kernel)
  have hi_X3 : ∀ w ∈ wsX30, w ∈ wsX7_telling := by decide +kernel
  have k_f252 := hts (.fieldLink RX7 252 "TongueTeller$Telling" "size" "I") (by decide +kernel)
  refine lv_iload_n hx hb dX7_telling_0 rfl (lv_at hl 1 rfl) ?_
  refine lv_if_lt (tgt := 15) hx hb dX7_telling_1 (by decide) (fun c_1 => ?_) (fun c_1 => ?_)
  · exact vx_throw0 (names := ["java/lang/RuntimeException", "java/lang/Exception"]) (cls := "java/util/NoSuchElementException") (ik := 253) (ic := 255) hx hb hst hown (by decide) (by decide) (hts (.classLink RX7 253 "java/util/NoSuchElementException") (by decide +kernel)) (hts (.initialized "java/util/NoSuchElementException") (by decide +kernel)) hat (by decide +kernel) hU hN hS (hl.1.trans hml.symm) dX7_telling_15 dX7_telling_18 dX7_telling_19 dX7_telling_22 (fun x h => (hex x h).elim) (Nat.le_of_ble_eq_true rfl) (Nat.le_of_ble_eq_true rfl) (Nat.le_of_ble_eq_true rfl) (Nat.le_of_ble_eq_true rfl) hlocks (fun t hv hz hk => ⟨(), trivial, rfl, hz, fun q hq _ => hk q hq⟩) (fun _ h => absurd h List.not_mem_nil) (Nat.le_refl _) (Nat.le_refl _)
  · refine lv_iload_n hx hb dX7_telling_4 rfl (lv_at hl 1 rfl) ?_
    refine lv_aload_n hx hb dX7_telling_5 rfl (lv_at hl 0 rfl) ?_
    refine va_get (D := (dC, dI)) (ci := 7) (v := .ref a16) (C := RX7) (T := TX7) (N := 18) hx hb hts hi_X7 hown hK hP 0 rfl rfl 16 (by decide) k_f89 (fun _ h9 => h9) rfl dX7_telling_6 ?_
    refine va_get (D := (dC, dI)) (ci := 3) (v := .int 0) (C := RX3) (T := TX3) (N := 3) hx hb hts hi_X3 hown hK hP 1 rfl rfl 1 (by decide) k_f252 (fun _ h9 => h9) rfl dX7_telling_9 ?_
    refine lv_icmp_lt (tgt := 23) hx hb dX7_telling_12 (by decide) (fun c_12 => ?_) (fun c_12 => ?_)
    · exact absurd c_12 (fun h9 => absurd h9 c_1)
    exact vx_throw0 (names := ["java/lang/RuntimeException", "java/lang/Exception"]) (cls := "java/util/NoSuchElementException") (ik := 253) (ic := 255) hx hb hst hown (by decide) (by decide) (hts (.classLink RX7 253 "java/util/NoSuchElementException") (by decide +kernel)) (hts (.initialized "java/util/NoSuchElementException") (by decide +kernel)) hat (by decide +kernel) hU hN hS (hl.1.trans hml.symm) dX7_telling_15 dX7_telling_18 dX7_telling_19 dX7_telling_22 (fun x h => (hex x h).elim) (Nat.le_of_ble_eq_true rfl) (Nat.le_of_ble_eq_true rfl) (Nat.le_of_ble_eq_true rfl) (Nat.le_of_ble_eq_true rfl) hlocks (fun t hv hz hk => ⟨(), trivial, rfl, hz, fun q hq _ => hk q hq⟩) (fun _ h => absurd h List.not_mem_nil) (Nat.le_refl _) (Nat.le_refl _)

set_option maxHeartbeats 4000000 in
set_option maxRecDepth 100000 in
theorem c_L_telling (l : Launch) (hst : l.stackTraces = false) (dC : Nat → ClassId) (dI : Nat → Nat → Nat) (h0 : Nat) (a0 : Nat) (v1 : Int32) (a2 : Nat) (a3 : Nat) (v4 : Int32) (v5 : Int32) (a6 : Nat) (a7 : Nat) (a8 : Nat) (v9 : Int32) (v10 : Int32) (a11 : Nat) (a12 : Nat) (v13 : Int32) (a14 : Nat) (a15 : Nat) (a16 : Nat) (v17 : Int32) (b0 : Nat) (b1 : Nat) (p0 : Int32) (o0 : Nat) (sz : Nat) : Met l yL_telling wsL_telling ({ frames := 7, cells := 1, slots := 6, locals := 102 }) (va_Pc [.ref h0, .int p0, .ref o0] (fun U => U.heap.size = sz ∧ va_P (dC, dI) vwCl [(h0, .inr (7, [.ref a0, .int v1, .ref a2, .ref a3, .int v4, .int v5, .ref a6, .ref a7, .ref a8, .int v9, .int v10, .ref a11, .ref a12, .int v13, .ref a14, .ref a15, .ref a16, .int v17])), (a16, .inr (3, [.ref b0, .int 0, .ref b1]))] U.heap ∧ va_K (dC, dI) vwCl [] U ∧ va_Nw (.castable "java/util/NoSuchElementException" "java/util/NoSuchElementException") U ∧ va_Nw (.declares ⟨"java/lang/RuntimeException", "<init>", "()V"⟩) U ∧ va_Nw (.declares ⟨"java/lang/Exception", "<init>", "()V"⟩) U ∧ va_Nw (.declares ⟨"java/lang/Throwable", "<init>", "()V"⟩) U ∧ vx_Zq Bundle.tN "UNASSIGNED_STACK" Bundle.steD (va_A [] sz) U U.heap ∧ vx_Zq Bundle.tN "SUPPRESSED_SENTINEL" Bundle.listD (va_A [] sz) U U.heap)) (va_Qi (fun (r : Int32) (_ : Unit) => r = 1) (fun _ _ => True) (va_A [] sz)) 1 6 (va_A [] sz) := by
  refine va_MetW (cc := cL_telling) (maxL := 4) (ret := (some .int)) (hh := [(0, 9, 12, 13)]) (by decide) rfl ?_
  intro p e s m args below meth c s₁ B hml hv
  obtain ⟨rfl, hsz, hP, hK, hcast, hd1, hd2, hd3, hU, hN⟩ := hv
  have hx := B.exec
  have hb := B.bytes
  have hr := B.returns
  have hts := atoms_spec (ws := wsL_telling) B.pre
  have hown : s.vm.findClass RL = some m.cls := findClass_of_methodNamed B.named
  have hlocks := B.notSynchronized
  subst hsz
  have hZU := hU
  have hZN := hN
  have htab : c.exceptionTable.toList = [] ++ (⟨0, 9, 12, 13⟩ : ExceptionTableEntry) :: [] := by rw [vx_table (x := yL_telling) B (hts (.codeWith yL_telling cL_telling 4 (some .int) [(0, 9, 12, 13)]) List.mem_cons_self)]; rfl
  have hS : va_S (va_A [] s.heap.size) s.heap s.heap [] := va_S.rf
  have hP : va_P (dC, dI) vwCl [(h0, .inr (7, [.ref a0, .int v1, .ref a2, .ref a3, .int v4, .int v5, .ref a6, .ref a7, .ref a8, .int v9, .int v10, .ref a11, .ref a12, .int v13, .ref a14, .ref a15, .ref a16, .int v17])), (a16, .inr (3, [.ref b0, .int 0, .ref b1]))] s.heap := hP
  have hl := lv_entry ([.ref h0, .int p0, .ref o0]) (n := 4) (Nat.le_of_ble_eq_true rfl)
  rw [lg_entry_eq]
  generalize (lg_sl ([.ref h0, .int p0, .ref o0]) ++ List.replicate (4 - (lg_sl ([.ref h0, .int p0, .ref o0])).length) Slot.unset).toArray = ls at hl ⊢
  have hl : lv_has ls 4 [(0, .ref h0), (1, .int p0), (2, .ref o0)] := hl
  refine lv_aload_n hx hb dL_telling_0 rfl (lv_at hl 2 rfl) ?_
  refine lv_iconst (v := 0) hx hb dL_telling_1 (by decide) ?_
  refine lv_aload_n hx hb dL_telling_2 rfl (lv_at hl 0 rfl) ?_
  refine lv_iload_n hx hb dL_telling_3 rfl (lv_at hl 1 rfl) ?_
  refine vx_calli (vx_runV (As := [.int p0]) (rest := [.int 0, .ref o0]) ⟨hx, hb, hml, hown, hts⟩ (c_X7_telling l hst dC dI h0 a0 v1 a2 a3 v4 v5 a6 a7 a8 v9 v10 a11 a12 v13 a14 a15 a16 v17 b0 b1 p0 s.heap.size) (cwV 1 hts gL_telling_X7_telling rfl rfl rfl (by decide +kernel) ⟨Nat.le_of_ble_eq_true rfl, Nat.le_of_ble_eq_true rfl⟩) ⟨fun a U g mk q => by obtain ⟨q0, q1, qP, qK, qc, qd1, qd2, qd3, qU, qN⟩ := q; exact ⟨q0, q1, qP, va_K.moved (u := U) (U := U.calling g mk a) (Vm.Alike.refl U.vm) qK, va_Nw.same rfl (show U.vm = (U.calling g mk a).vm from rfl) qc, va_Nw.same rfl (show U.vm = (U.calling g mk a).vm from rfl) qd1, va_Nw.same rfl (show U.vm = (U.calling g mk a).vm from rfl) qd2, va_Nw.same rfl (show U.vm = (U.calling g mk a).vm from rfl) qd3, vx_Zq.moved (u := U) (U := U.calling g mk a) (Vm.Alike.refl U.vm) qU, vx_Zq.moved (u := U) (U := U.calling g mk a) (Vm.Alike.refl U.vm) qN⟩, va_recv hK hP (ci := 7) (q0 := 0) rfl rfl, fun U hU hW => ⟨rfl, by rw [hU], by rw [hU]; exact hP, va_K.moved hW.alike hK, va_Nw.warmC hW hcast, va_Nw.warmD hW hd1, va_Nw.warmD hW hd2, va_Nw.warmD hW hd3, by rw [hU]; exact vx_Zq.moved hW.alike hZU, by rw [hU]; exact vx_Zq.moved hW.alike hZN⟩⟩ rfl rfl hl.1 rfl (lv_room (Nat.le_of_ble_eq_true rfl)) dL_telling_4 ⟨Nat.le_of_ble_eq_true rfl, Nat.le_of_ble_eq_true rfl⟩) hS (fun q _ h => h) (fun q h => h) (fun q _ h => h) (fun E ce q9 u t H1 locs1 ht hvm hpx hBX hz hk hS hcell hv9 hcl => ?_) (fun r u t H1 locs1 ht hvm hw hB hz hk hS => hw.elim)
  subst hBX
  refine vx_widen (k := 1) (n := 6) (by omega) (by omega) ?_
  refine vx_catch (name := "java/util/NoSuchElementException") hown [] ⟨0, 9, 12, 13⟩ [] htab (fun z hz => absurd hz List.not_mem_nil) (by decide) (by decide) (hts (.classLink RL 13 "java/util/NoSuchElementException") (by decide +kernel)) (va_Nw.use rfl hcast) hcell hv9 hcl ?_
  refine lv_astore_n (lv' := [(3, .ref q9), (0, .ref h0), (1, .int p0), (2, .ref o0)]) hx hb dL_telling_12 rfl hl (by decide) rfl (fun ls hl => ?_)
  refine lv_iconst (v := 1) hx hb dL_telling_13 (by decide) ?_
  exact W.iret (v := 1) hx hb hr (fun t ht hW => ⟨⟨1, (), rfl, rfl, trivial⟩, hS.F ht⟩) hS.2.2 dL_telling_14
