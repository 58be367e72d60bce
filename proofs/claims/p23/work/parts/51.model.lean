set_option maxHeartbeats 4000000 in
set_option maxRecDepth 100000 in
theorem g_X8_isAhead (l : Launch) (dC : Nat → ClassId) (dI : Nat → Nat → Nat) (ra : Nat) (rb : Nat) (nn_ : Nat) (ka : ClassId) (kb : ClassId) (fa : Nat → Int32) (fb : Nat → Int32) (hn : nn_ ≤ 60) : Met l yX8_isAhead wsX8_isAhead ({ frames := 0, cells := 0, slots := 0, locals := 0 }) (va_Pc [.ref ra, .ref rb, .int (nI nn_)] (fun U => va_P (dC, dI) vwCl [(ra, .inl (ka, 60, .inl fa)), (rb, .inl (kb, 60, .inl fb))] U.heap ∧ va_K (dC, dI) vwCl [(ka, .byte), (kb, .byte)] U)) (vp_Si (fun r => ((r = 1 ∧ (ahd fa fb nn_)) ∨ (r = 0 ∧ ¬ (ahd fa fb nn_))))) 0 0 (fun _ => False) := by
  refine Met.ofW (cc := cX8_isAhead) (maxL := 4) (ret := (some .boolean)) (by decide) rfl ?_
  intro p e s m args below meth c s₁ B hml hv
  obtain ⟨rfl, hP, hK⟩ := hv
  have hx := B.exec
  have hb := B.bytes
  have hr := B.returns
  have hts := atoms_spec (ws := wsX8_isAhead) B.pre
  have hown : s.vm.findClass RX8 = some m.cls := findClass_of_methodNamed B.named
  have hlocks := B.notSynchronized
  replace hP : va_P (dC, dI) vwCl [(ra, .inl (ka, 60, .inl fa)), (rb, .inl (kb, 60, .inl fb))] s.heap := hP
  have hl := lv_entry ([.ref ra, .ref rb, .int (nI nn_)]) (n := 4) (Nat.le_of_ble_eq_true rfl)
  rw [lg_entry_eq]
  generalize (lg_sl ([.ref ra, .ref rb, .int (nI nn_)]) ++ List.replicate (4 - (lg_sl ([.ref ra, .ref rb, .int (nI nn_)])).length) Slot.unset).toArray = ls at hl ⊢
  replace hl : lv_has ls 4 [(0, .ref ra), (1, .ref rb), (2, .int (nI nn_))] := hl
  refine lv_iconst (v := 0) hx hb dX8_isAhead_0 (by decide) ?_
  refine lv_istore_n (lv' := [(3, .int 0), (0, .ref ra), (1, .ref rb), (2, .int (nI nn_))]) hx hb dX8_isAhead_1 rfl hl (by decide) rfl (fun ls hl => ?_)
  obtain ⟨kk, e_kk⟩ : ∃ y : Nat, y = 0 := ⟨_, rfl⟩
  replace hl : lv_has ls 4 [(0, .ref ra), (1, .ref rb), (2, .int (nI nn_)), (3, .int (nI kk))] := by (try rewrite [e_kk]); exact lv_sub hl [1, 2, 3, 0] rfl
  have hk1 : kk ≤ nn_ := by (try rewrite [e_kk]); omega
  have hk2 : ∀ j, j < kk → fa j = fb j := by (try rewrite [e_kk]); exact fun j hj => absurd hj (Nat.not_lt_zero j)
  clear e_kk
  obtain ⟨nn2, hnn2⟩ : ∃ q : Nat, nn_ - kk < q := ⟨_, Nat.lt_succ_self _⟩
  induction nn2 generalizing kk ls with
  | zero => exact absurd hnn2 (Nat.not_lt_zero _)
  | succ nn2 ih2 =>
    refine lv_iload_n hx hb dX8_isAhead_2 rfl (lv_at hl 3 rfl) ?_
    refine lv_iload_n hx hb dX8_isAhead_3 rfl (lv_at hl 2 rfl) ?_
    refine lv_icmp_ge (tgt := 22) hx hb dX8_isAhead_4 (by decide) (fun c_4 => ?_) (fun c_4 => ?_)
    · have n_4 : nn_ ≤ kk := (nI_leI (a := nn_) (b := kk) (by omega) (by omega)).mp c_4
      refine lv_iload_n hx hb dX8_isAhead_22 rfl (lv_at hl 3 rfl) ?_
      refine lv_iload_n hx hb dX8_isAhead_23 rfl (lv_at hl 2 rfl) ?_
      refine lv_icmp_ge (tgt := 40) hx hb dX8_isAhead_24 (by decide) (fun c_24 => ?_) (fun c_24 => ?_)
      · have n_24 : nn_ ≤ kk := (nI_leI (a := nn_) (b := kk) (by omega) (by omega)).mp c_24
        refine lv_iconst (v := 0) hx hb dX8_isAhead_40 (by decide) ?_
        exact W.zret (v := 0) hx hb hr (rfl) (fun t ht hW => ⟨0, rfl, Or.inr ⟨rfl, by first | (exfalso; omega) | exact fun ⟨k, h1, h2, h3⟩ => (by rw [hk2 k (by omega)] at h3; exact Int32.lt_irrefl h3)⟩, ht⟩) (fun _ h => absurd h List.not_mem_nil) dX8_isAhead_41
      · have n_24 : kk < nn_ := Nat.not_le.mp (fun h9 => c_24 ((nI_leI (a := nn_) (b := kk) (by omega) (by omega)).mpr h9))
        refine lv_aload_n hx hb dX8_isAhead_27 rfl (lv_at hl 0 rfl) ?_
        refine lv_iload_n hx hb dX8_isAhead_28 rfl (lv_at hl 3 rfl) ?_
        refine va_bald hx hb hK hP 0 0 rfl rfl (i := nI kk) (vp_in_nI (by omega) (by omega)) dX8_isAhead_29 ?_
        refine lv_topi (fun x_29 ex_29 => ?_)
        obtain rfl : fa kk = x_29 := Eq.symm (ex_29.trans (fR_at (by omega)))
        refine lv_aload_n hx hb dX8_isAhead_30 rfl (lv_at hl 1 rfl) ?_
        refine lv_iload_n hx hb dX8_isAhead_31 rfl (lv_at hl 3 rfl) ?_
        refine va_bald hx hb hK hP 1 1 rfl rfl (i := nI kk) (vp_in_nI (by omega) (by omega)) dX8_isAhead_32 ?_
        refine lv_topi (fun x_32 ex_32 => ?_)
        obtain rfl : fb kk = x_32 := Eq.symm (ex_32.trans (fR_at (by omega)))
        refine lv_icmp_ge (tgt := 40) hx hb dX8_isAhead_33 (by decide) (fun c_33 => ?_) (fun c_33 => ?_)
        · refine lv_iconst (v := 0) hx hb dX8_isAhead_40 (by decide) ?_
          exact W.zret (v := 0) hx hb hr (rfl) (fun t ht hW => ⟨0, rfl, Or.inr ⟨rfl, by first | (exfalso; omega) | exact fun ⟨k, h1, h2, h3⟩ => (by rw [hk2 k (by omega)] at h3; exact Int32.lt_irrefl h3)⟩, ht⟩) (fun _ h => absurd h List.not_mem_nil) dX8_isAhead_41
        · refine lv_iconst (v := 1) hx hb dX8_isAhead_36 (by decide) ?_
          refine lv_goto (tgt := 41) hx hb dX8_isAhead_37 (by decide) ?_
          exact W.zret (v := 1) hx hb hr (rfl) (fun t ht hW => ⟨1, rfl, Or.inl ⟨rfl, by exact ⟨kk, by omega, hk2, Int32.not_le.mp c_33⟩⟩, ht⟩) (fun _ h => absurd h List.not_mem_nil) dX8_isAhead_41
    · have n_4 : kk < nn_ := Nat.not_le.mp (fun h9 => c_4 ((nI_leI (a := nn_) (b := kk) (by omega) (by omega)).mpr h9))
      refine lv_aload_n hx hb dX8_isAhead_7 rfl (lv_at hl 0 rfl) ?_
      refine lv_iload_n hx hb dX8_isAhead_8 rfl (lv_at hl 3 rfl) ?_
      refine va_bald hx hb hK hP 0 0 rfl rfl (i := nI kk) (vp_in_nI (by omega) (by omega)) dX8_isAhead_9 ?_
      refine lv_topi (fun x_9 ex_9 => ?_)
      obtain rfl : fa kk = x_9 := Eq.symm (ex_9.trans (fR_at (by omega)))
      refine lv_aload_n hx hb dX8_isAhead_10 rfl (lv_at hl 1 rfl) ?_
      refine lv_iload_n hx hb dX8_isAhead_11 rfl (lv_at hl 3 rfl) ?_
      refine va_bald hx hb hK hP 1 1 rfl rfl (i := nI kk) (vp_in_nI (by omega) (by omega)) dX8_isAhead_12 ?_
      refine lv_topi (fun x_12 ex_12 => ?_)
      obtain rfl : fb kk = x_12 := Eq.symm (ex_12.trans (fR_at (by omega)))
      refine lv_icmp_ne (tgt := 22) hx hb dX8_isAhead_13 (by decide) (fun c_13 => ?_) (fun c_13 => ?_)
      · refine lv_iload_n hx hb dX8_isAhead_22 rfl (lv_at hl 3 rfl) ?_
        refine lv_iload_n hx hb dX8_isAhead_23 rfl (lv_at hl 2 rfl) ?_
        refine lv_icmp_ge (tgt := 40) hx hb dX8_isAhead_24 (by decide) (fun c_24 => ?_) (fun c_24 => ?_)
        · have n_24 : nn_ ≤ kk := (nI_leI (a := nn_) (b := kk) (by omega) (by omega)).mp c_24
          refine lv_iconst (v := 0) hx hb dX8_isAhead_40 (by decide) ?_
          exact W.zret (v := 0) hx hb hr (rfl) (fun t ht hW => ⟨0, rfl, Or.inr ⟨rfl, by first | (exfalso; omega) | exact fun ⟨k, h1, h2, h3⟩ => (by rw [hk2 k (by omega)] at h3; exact Int32.lt_irrefl h3)⟩, ht⟩) (fun _ h => absurd h List.not_mem_nil) dX8_isAhead_41
        · have n_24 : kk < nn_ := Nat.not_le.mp (fun h9 => c_24 ((nI_leI (a := nn_) (b := kk) (by omega) (by omega)).mpr h9))
          refine lv_aload_n hx hb dX8_isAhead_27 rfl (lv_at hl 0 rfl) ?_
          refine lv_iload_n hx hb dX8_isAhead_28 rfl (lv_at hl 3 rfl) ?_
          refine va_bald hx hb hK hP 0 0 rfl rfl (i := nI kk) (vp_in_nI (by omega) (by omega)) dX8_isAhead_29 ?_
          refine lv_topi (fun x_29 ex_29 => ?_)
          obtain rfl : fa kk = x_29 := Eq.symm (ex_29.trans (fR_at (by omega)))
          refine lv_aload_n hx hb dX8_isAhead_30 rfl (lv_at hl 1 rfl) ?_
          refine lv_iload_n hx hb dX8_isAhead_31 rfl (lv_at hl 3 rfl) ?_
          refine va_bald hx hb hK hP 1 1 rfl rfl (i := nI kk) (vp_in_nI (by omega) (by omega)) dX8_isAhead_32 ?_
          refine lv_topi (fun x_32 ex_32 => ?_)
          obtain rfl : fb kk = x_32 := Eq.symm (ex_32.trans (fR_at (by omega)))
          refine lv_icmp_ge (tgt := 40) hx hb dX8_isAhead_33 (by decide) (fun c_33 => ?_) (fun c_33 => ?_)
          · refine lv_iconst (v := 0) hx hb dX8_isAhead_40 (by decide) ?_
            exact W.zret (v := 0) hx hb hr (rfl) (fun t ht hW => ⟨0, rfl, Or.inr ⟨rfl, by exact fun ⟨k, h1, h2, h3⟩ => by rcases Nat.lt_trichotomy k kk with h | h | h; rw [hk2 k h] at h3; exact Int32.lt_irrefl h3; exact absurd h3 (by rw [h]; exact Int32.not_lt.mpr c_33); exact c_13 (h2 kk h)⟩, ht⟩) (fun _ h => absurd h List.not_mem_nil) dX8_isAhead_41
          · refine lv_iconst (v := 1) hx hb dX8_isAhead_36 (by decide) ?_
            refine lv_goto (tgt := 41) hx hb dX8_isAhead_37 (by decide) ?_
            exact W.zret (v := 1) hx hb hr (rfl) (fun t ht hW => ⟨1, rfl, Or.inl ⟨rfl, by exact ⟨kk, by omega, hk2, Int32.not_le.mp c_33⟩⟩, ht⟩) (fun _ h => absurd h List.not_mem_nil) dX8_isAhead_41
      · refine lv_iinc (v := nI (kk + 1)) (lv' := [(3, .int (nI (kk + 1))), (0, .ref ra), (1, .ref rb), (2, .int (nI nn_))]) hx hb dX8_isAhead_16 hl (k := 3) rfl (nI_1 _) (by decide) rfl (fun ls hl => ?_)
        refine lv_goto (tgt := 2) hx hb dX8_isAhead_19 (by decide) ?_
        replace hl : lv_has ls 4 [(0, .ref ra), (1, .ref rb), (2, .int (nI nn_)), (3, .int (nI (kk + 1)))] := lv_sub hl [1, 2, 3, 0] rfl
        have hk29 : ∀ j, j < (kk + 1) → fa j = fb j := lt_s hk2 c_13
        apply ih2 (kk := kk + 1) <;> first | assumption | omega

set_option maxHeartbeats 4000000 in
set_option maxRecDepth 100000 in
theorem g_X8_parts (l : Launch) (dC : Nat → ClassId) (dI : Nat → Nat → Nat) (h0 : Nat) (x0 : Int32) (x1 : Int32) (m2 : Nat) (c3 : Nat) (m4 : Nat) (m5 : Nat) (m6 : Nat) (m7 : Nat) (m8 : Nat) (m9 : Nat) (m10 : Nat) (m11 : Nat) (c12 : Nat) (c13 : Nat) (c14 : Nat) (m15 : Nat) (m16 : Nat) (m17 : Nat) (m18 : Nat) (m19 : Nat) (c20 : Nat) (x21 : Int32) (c22 : Nat) (c23 : Nat) (m24 : Nat) (m25 : Nat) (c26 : Nat) (c27 : Nat) (x28 : Int32) (m29 : Nat) (m30 : Nat) (m31 : Nat) (m32 : Nat) (m33 : Nat) (m34 : Nat) (x35 : Int32) (m36 : Nat) (c37 : Nat) (ktb : ClassId) (kch : ClassId) (knx : ClassId) (tb8 : Nat → Nat) (ch8 : Nat → Nat) (nx8 : Nat → Nat) (krw : ClassId) (krb : ClassId) (fr1 : Nat → Option Nat) (fr2 : Nat → Option Nat) (L : List Nat) (fp : Nat → va_E) (Rs : List Nat) (p0 : Int32) (p1 : Int32) (sz : Nat) (hw60 : c27 ≤ 60) (htg : c14 ≤ 8) (hch : c22 ≤ 2000) (hTB : TOK tb8 c27 c14) (hRW : ROWS L fp krb Rs) (hR1 : RA fr1 Rs) (hR2 : RA fr2 Rs) (hRD : RDS fr1 fr2) : Met l yX8_parts wsX8_parts ({ frames := 1, cells := 0, slots := 0, locals := 23 }) (va_Pc [.ref h0, .int p0, .int p1] (fun U => U.heap.size = sz ∧ va_P (dC, dI) vwCl (vpl [(h0, .inr (8, [.int x0, .int x1, .ref m2, .int (nI c3), .ref m4, .ref m5, .ref m6, .ref m7, .ref m8, .ref m9, .ref m10, .ref m11, .int (nI c12), .int (nI c13), .int (nI c14), .ref m15, .ref m16, .ref m17, .ref m18, .ref m19, .int (nI c20), .int x21, .int (nI c22), .int (nI c23), .ref m24, .ref m25, .int (nI c26), .int (nI c27), .int x28, .ref m29, .ref m30, .ref m31, .ref m32, .ref m33, .ref m34, .int x35, .ref m36, .int (nI c37)])), (m29, .inl (ktb, 480, .inl (nR tb8))), (m30, .inl (kch, 8, .inl (nR ch8))), (m31, .inl (knx, 8, .inl (nR nx8))), (m32, .inl (krw, 8, .inr (.inr (.inr (.inr fr1))))), (m33, .inl (krw, 8, .inr (.inr (.inr (.inr fr2)))))] L fp) U.heap ∧ va_K (dC, dI) vwCl [(ktb, .int), (kch, .int), (knx, .int), (krw, .array .byte), (krb, .byte)] U ∧ va_D (fun _ => True) (vpl [(h0, .inr (8, [.int x0, .int x1, .ref m2, .int (nI c3), .ref m4, .ref m5, .ref m6, .ref m7, .ref m8, .ref m9, .ref m10, .ref m11, .int (nI c12), .int (nI c13), .int (nI c14), .ref m15, .ref m16, .ref m17, .ref m18, .ref m19, .int (nI c20), .int x21, .int (nI c22), .int (nI c23), .ref m24, .ref m25, .int (nI c26), .int (nI c27), .int x28, .ref m29, .ref m30, .ref m31, .ref m32, .ref m33, .ref m34, .int x35, .ref m36, .int (nI c37)])), (m29, .inl (ktb, 480, .inl (nR tb8))), (m30, .inl (kch, 8, .inl (nR ch8))), (m31, .inl (knx, 8, .inl (nR nx8))), (m32, .inl (krw, 8, .inr (.inr (.inr (.inr fr1))))), (m33, .inl (krw, 8, .inr (.inr (.inr (.inr fr2)))))] L fp))) (va_Qv (fun (u : (Nat → Nat) × (Nat → Nat) × Nat × Nat × (Nat → Option Nat) × (Nat → Option Nat) × (Nat → va_E)) => match u with | (cho, nxo, ua_, ub_, f1o, f2o, fpo) => (ROWS L fpo krb Rs) ∧ (FRM fp fpo Rs) ∧ (RA f1o Rs) ∧ (RA f2o Rs) ∧ (0 < c27 → CHB cho c14 288000) ∧ (RDS f1o f2o) ∧ (0 < c27 → ∃ Q : Nat → Nat → Nat, ∀ t, t < c14 → MR (cs8 tb8) c22 c14 (opM p0 p1) c27 t (cho t) (Q t) ∧ (¬ cho t = 2147483647 → RWV fpo krb f1o (Q t) c27 t))) (fun (u : (Nat → Nat) × (Nat → Nat) × Nat × Nat × (Nat → Option Nat) × (Nat → Option Nat) × (Nat → va_E)) (t : State) => match u with | (cho, nxo, ua_, ub_, f1o, f2o, fpo) => va_P (dC, dI) vwCl (vpl [(h0, .inr (8, [.int x0, .int x1, .ref m2, .int (nI c3), .ref m4, .ref m5, .ref m6, .ref m7, .ref m8, .ref m9, .ref m10, .ref m11, .int (nI c12), .int (nI c13), .int (nI c14), .ref m15, .ref m16, .ref m17, .ref m18, .ref m19, .int (nI c20), .int x21, .int (nI c22), .int (nI c23), .ref m24, .ref m25, .int (nI c26), .int (nI c27), .int x28, .ref m29, .ref m30, .ref m31, .ref ua_, .ref ub_, .ref m34, .int x35, .ref m36, .int (nI c37)])), (m29, .inl (ktb, 480, .inl (nR tb8))), (m30, .inl (kch, 8, .inl (nR cho))), (m31, .inl (knx, 8, .inl (nR nxo))), (ua_, .inl (krw, 8, .inr (.inr (.inr (.inr f1o))))), (ub_, .inl (krw, 8, .inr (.inr (.inr (.inr f2o)))))] L fpo) t.heap ∧ va_D (va_A (vpl [(h0, .inr (8, [.int x0, .int x1, .ref m2, .int (nI c3), .ref m4, .ref m5, .ref m6, .ref m7, .ref m8, .ref m9, .ref m10, .ref m11, .int (nI c12), .int (nI c13), .int (nI c14), .ref m15, .ref m16, .ref m17, .ref m18, .ref m19, .int (nI c20), .int x21, .int (nI c22), .int (nI c23), .ref m24, .ref m25, .int (nI c26), .int (nI c27), .int x28, .ref m29, .ref m30, .ref m31, .ref m32, .ref m33, .ref m34, .int x35, .ref m36, .int (nI c37)])), (m29, .inl (ktb, 480, .inl (nR tb8))), (m30, .inl (kch, 8, .inl (nR ch8))), (m31, .inl (knx, 8, .inl (nR nx8))), (m32, .inl (krw, 8, .inr (.inr (.inr (.inr fr1))))), (m33, .inl (krw, 8, .inr (.inr (.inr (.inr fr2)))))] L fp) sz) (vpl [(h0, .inr (8, [.int x0, .int x1, .ref m2, .int (nI c3), .ref m4, .ref m5, .ref m6, .ref m7, .ref m8, .ref m9, .ref m10, .ref m11, .int (nI c12), .int (nI c13), .int (nI c14), .ref m15, .ref m16, .ref m17, .ref m18, .ref m19, .int (nI c20), .int x21, .int (nI c22), .int (nI c23), .ref m24, .ref m25, .int (nI c26), .int (nI c27), .int x28, .ref m29, .ref m30, .ref m31, .ref ua_, .ref ub_, .ref m34, .int x35, .ref m36, .int (nI c37)])), (m29, .inl (ktb, 480, .inl (nR tb8))), (m30, .inl (kch, 8, .inl (nR cho))), (m31, .inl (knx, 8, .inl (nR nxo))), (ua_, .inl (krw, 8, .inr (.inr (.inr (.inr f1o))))), (ub_, .inl (krw, 8, .inr (.inr (.inr (.inr f2o)))))] L fpo)) (va_A (vpl [(h0, .inr (8, [.int x0, .int x1, .ref m2, .int (nI c3), .ref m4, .ref m5, .ref m6, .ref m7, .ref m8, .ref m9, .ref m10, .ref m11, .int (nI c12), .int (nI c13), .int (nI c14), .ref m15, .ref m16, .ref m17, .ref m18, .ref m19, .int (nI c20), .int x21, .int (nI c22), .int (nI c23), .ref m24, .ref m25, .int (nI c26), .int (nI c27), .int x28, .ref m29, .ref m30, .ref m31, .ref m32, .ref m33, .ref m34, .int x35, .ref m36, .int (nI c37)])), (m29, .inl (ktb, 480, .inl (nR tb8))), (m30, .inl (kch, 8, .inl (nR ch8))), (m31, .inl (knx, 8, .inl (nR nx8))), (m32, .inl (krw, 8, .inr (.inr (.inr (.inr fr1))))), (m33, .inl (krw, 8, .inr (.inr (.inr (.inr fr2)))))] L fp) sz)) 0 0 (va_A (vpl [(h0, .inr (8, [.int x0, .int x1, .ref m2, .int (nI c3), .ref m4, .ref m5, .ref m6, .ref m7, .ref m8, .ref m9, .ref m10, .ref m11, .int (nI c12), .int (nI c13), .int (nI c14), .ref m15, .ref m16, .ref m17, .ref m18, .ref m19, .int (nI c20), .int x21, .int (nI c22), .int (nI c23), .ref m24, .ref m25, .int (nI c26), .int (nI c27), .int x28, .ref m29, .ref m30, .ref m31, .ref m32, .ref m33, .ref m34, .int x35, .ref m36, .int (nI c37)])), (m29, .inl (ktb, 480, .inl (nR tb8))), (m30, .inl (kch, 8, .inl (nR ch8))), (m31, .inl (knx, 8, .inl (nR nx8))), (m32, .inl (krw, 8, .inr (.inr (.inr (.inr fr1))))), (m33, .inl (krw, 8, .inr (.inr (.inr (.inr fr2)))))] L fp) sz) := by
  refine Met.ofW (cc := cX8_parts) (maxL := 9) (ret := none) (by decide) rfl ?_
  intro p e s m args below meth c s₁ B hml hv
  obtain ⟨rfl, hsz, hP, hK, hD0⟩ := hv
  have hx := B.exec
  have hb := B.bytes
  have hr := B.returns
  have hts := atoms_spec (ws := wsX8_parts) B.pre
  have hown : s.vm.findClass RX8 = some m.cls := findClass_of_methodNamed B.named
  have hlocks := B.notSynchronized
  subst hsz
  have hD := hD0.self (sz := s.heap.size)
  clear hD0
  generalize hAe : va_A (vpl [(h0, .inr (8, [.int x0, .int x1, .ref m2, .int (nI c3), .ref m4, .ref m5, .ref m6, .ref m7, .ref m8, .ref m9, .ref m10, .ref m11, .int (nI c12), .int (nI c13), .int (nI c14), .ref m15, .ref m16, .ref m17, .ref m18, .ref m19, .int (nI c20), .int x21, .int (nI c22), .int (nI c23), .ref m24, .ref m25, .int (nI c26), .int (nI c27), .int x28, .ref m29, .ref m30, .ref m31, .ref m32, .ref m33, .ref m34, .int x35, .ref m36, .int (nI c37)])), (m29, .inl (ktb, 480, .inl (nR tb8))), (m30, .inl (kch, 8, .inl (nR ch8))), (m31, .inl (knx, 8, .inl (nR nx8))), (m32, .inl (krw, 8, .inr (.inr (.inr (.inr fr1))))), (m33, .inl (krw, 8, .inr (.inr (.inr (.inr fr2)))))] L fp) s.heap.size = A at hD ⊢
  have hA : ∀ q : Nat, s.heap.size ≤ q → A q := fun q h => by rw [← hAe]; exact Or.inr h
  clear hAe
  have hS : va_S A s.heap s.heap [] := va_S.rf
  replace hP : va_P (dC, dI) vwCl (vpl [(h0, .inr (8, [.int x0, .int x1, .ref m2, .int (nI c3), .ref m4, .ref m5, .ref m6, .ref m7, .ref m8, .ref m9, .ref m10, .ref m11, .int (nI c12), .int (nI c13), .int (nI c14), .ref m15, .ref m16, .ref m17, .ref m18, .ref m19, .int (nI c20), .int x21, .int (nI c22), .int (nI c23), .ref m24, .ref m25, .int (nI c26), .int (nI c27), .int x28, .ref m29, .ref m30, .ref m31, .ref m32, .ref m33, .ref m34, .int x35, .ref m36, .int (nI c37)])), (m29, .inl (ktb, 480, .inl (nR tb8))), (m30, .inl (kch, 8, .inl (nR ch8))), (m31, .inl (knx, 8, .inl (nR nx8))), (m32, .inl (krw, 8, .inr (.inr (.inr (.inr fr1))))), (m33, .inl (krw, 8, .inr (.inr (.inr (.inr fr2)))))] L fp) s.heap := hP
  have hl := lv_entry ([.ref h0, .int p0, .int p1]) (n := 9) (Nat.le_of_ble_eq_true rfl)
  rw [lg_entry_eq]
  generalize (lg_sl ([.ref h0, .int p0, .int p1]) ++ List.replicate (9 - (lg_sl ([.ref h0, .int p0, .int p1])).length) Slot.unset).toArray = ls at hl ⊢
  replace hl : lv_has ls 9 [(0, .ref h0), (1, .int p0), (2, .int p1)] := hl
  have hi_X8 : ∀ w ∈ wsX80, w ∈ wsX8_parts := by decide +kernel
  have k_f175 := hts (.fieldLink RX8 175 "TongueTellerModel" "words" "I") (by decide +kernel)
  have k_f133 := hts (.fieldLink RX8 133 "TongueTellerModel" "tongues" "I") (by decide +kernel)
  have k_f82 := hts (.fieldLink RX8 82 "TongueTellerModel" "rows" "[[B") (by decide +kernel)
  have k_f85 := hts (.fieldLink RX8 85 "TongueTellerModel" "rowsNext" "[[B") (by decide +kernel)
  have k_f74 := hts (.fieldLink RX8 74 "TongueTellerModel" "cheap" "[I") (by decide +kernel)
  have k_f77 := hts (.fieldLink RX8 77 "TongueTellerModel" "next" "[I") (by decide +kernel)
  have k_f71 := hts (.fieldLink RX8 71 "TongueTellerModel" "table" "[I") (by decide +kernel)
  have k_f58 := hts (.fieldLink RX8 58 "TongueTellerModel" "change" "I") (by decide +kernel)
  refine lv_iconst (v := 0) hx hb dX8_parts_0 (by decide) ?_
  refine lv_istore_n (lv' := [(3, .int 0), (0, .ref h0), (1, .int p0), (2, .int p1)]) hx hb dX8_parts_1 rfl hl (by decide) rfl (fun ls hl => ?_)
  obtain ⟨locs, hlo⟩ : ∃ q : List Loc, q = [] := ⟨_, rfl⟩
  obtain ⟨H, hH⟩ : ∃ q : Heap, q = s.heap := ⟨_, rfl⟩
  rw [← hH, ← hlo]
  replace hS : va_S A s.heap H locs := by rw [hH, hlo]; exact hS
  replace hP : va_P (dC, dI) vwCl (vpl [(h0, .inr (8, [.int x0, .int x1, .ref m2, .int (nI c3), .ref m4, .ref m5, .ref m6, .ref m7, .ref m8, .ref m9, .ref m10, .ref m11, .int (nI c12), .int (nI c13), .int (nI c14), .ref m15, .ref m16, .ref m17, .ref m18, .ref m19, .int (nI c20), .int x21, .int (nI c22), .int (nI c23), .ref m24, .ref m25, .int (nI c26), .int (nI c27), .int x28, .ref m29, .ref m30, .ref m31, .ref m32, .ref m33, .ref m34, .int x35, .ref m36, .int (nI c37)])), (m29, .inl (ktb, 480, .inl (nR tb8))), (m30, .inl (kch, 8, .inl (nR ch8))), (m31, .inl (knx, 8, .inl (nR nx8))), (m32, .inl (krw, 8, .inr (.inr (.inr (.inr fr1))))), (m33, .inl (krw, 8, .inr (.inr (.inr (.inr fr2)))))] L fp) H := by rw [hH]; exact hP
  clear hH hlo
  obtain ⟨i, e_i⟩ : ∃ y : Nat, y = 0 := ⟨_, rfl⟩
  obtain ⟨ua, e_ua⟩ : ∃ y : Nat, y = m32 := ⟨_, rfl⟩
  obtain ⟨ub, e_ub⟩ : ∃ y : Nat, y = m33 := ⟨_, rfl⟩
  obtain ⟨fa, e_fa⟩ : ∃ y : Nat → Option Nat, y = fr1 := ⟨_, rfl⟩
  obtain ⟨fb, e_fb⟩ : ∃ y : Nat → Option Nat, y = fr2 := ⟨_, rfl⟩
  obtain ⟨fq, e_fq⟩ : ∃ y : Nat → va_E, y = fp := ⟨_, rfl⟩
  obtain ⟨cq, e_cq⟩ : ∃ y : Nat → Nat, y = ch8 := ⟨_, rfl⟩
  obtain ⟨nq, e_nq⟩ : ∃ y : Nat → Nat, y = nx8 := ⟨_, rfl⟩
  obtain ⟨Q, e_Q⟩ : ∃ y : Nat → Nat → Nat, y = (fun _ _ => 0) := ⟨_, rfl⟩
  replace hl : lv_has ls 9 [(0, .ref h0), (1, .int p0), (2, .int p1), (3, .int (nI i))] := by (try rewrite [e_i]); (try rewrite [e_ua]); (try rewrite [e_ub]); (try rewrite [e_fa]); (try rewrite [e_fb]); (try rewrite [e_fq]); (try rewrite [e_cq]); (try rewrite [e_nq]); (try rewrite [e_Q]); exact lv_sub hl [1, 2, 3, 0] rfl
  replace hP : va_P (dC, dI) vwCl (vpl [(h0, .inr (8, [.int x0, .int x1, .ref m2, .int (nI c3), .ref m4, .ref m5, .ref m6, .ref m7, .ref m8, .ref m9, .ref m10, .ref m11, .int (nI c12), .int (nI c13), .int (nI c14), .ref m15, .ref m16, .ref m17, .ref m18, .ref m19, .int (nI c20), .int x21, .int (nI c22), .int (nI c23), .ref m24, .ref m25, .int (nI c26), .int (nI c27), .int x28, .ref m29, .ref m30, .ref m31, .ref ua, .ref ub, .ref m34, .int x35, .ref m36, .int (nI c37)])), (m29, .inl (ktb, 480, .inl (nR tb8))), (m30, .inl (kch, 8, .inl (nR cq))), (m31, .inl (knx, 8, .inl (nR nq))), (ua, .inl (krw, 8, .inr (.inr (.inr (.inr fa))))), (ub, .inl (krw, 8, .inr (.inr (.inr (.inr fb)))))] L fq) H := by (try rewrite [e_i]); (try rewrite [e_ua]); (try rewrite [e_ub]); (try rewrite [e_fa]); (try rewrite [e_fb]); (try rewrite [e_fq]); (try rewrite [e_cq]); (try rewrite [e_nq]); (try rewrite [e_Q]); exact hP
  replace hD : va_D A (vpl [(h0, .inr (8, [.int x0, .int x1, .ref m2, .int (nI c3), .ref m4, .ref m5, .ref m6, .ref m7, .ref m8, .ref m9, .ref m10, .ref m11, .int (nI c12), .int (nI c13), .int (nI c14), .ref m15, .ref m16, .ref m17, .ref m18, .ref m19, .int (nI c20), .int x21, .int (nI c22), .int (nI c23), .ref m24, .ref m25, .int (nI c26), .int (nI c27), .int x28, .ref m29, .ref m30, .ref m31, .ref ua, .ref ub, .ref m34, .int x35, .ref m36, .int (nI c37)])), (m29, .inl (ktb, 480, .inl (nR tb8))), (m30, .inl (kch, 8, .inl (nR cq))), (m31, .inl (knx, 8, .inl (nR nq))), (ua, .inl (krw, 8, .inr (.inr (.inr (.inr fa))))), (ub, .inl (krw, 8, .inr (.inr (.inr (.inr fb)))))] L fq) := by (try rewrite [e_i]); (try rewrite [e_ua]); (try rewrite [e_ub]); (try rewrite [e_fa]); (try rewrite [e_fb]); (try rewrite [e_fq]); (try rewrite [e_cq]); (try rewrite [e_nq]); (try rewrite [e_Q]); exact hD
  have hi1 : i ≤ c27 := by (try rewrite [e_i]); (try rewrite [e_ua]); (try rewrite [e_ub]); (try rewrite [e_fa]); (try rewrite [e_fb]); (try rewrite [e_fq]); (try rewrite [e_cq]); (try rewrite [e_nq]); (try rewrite [e_Q]); omega
  have hRW : ROWS L fq krb Rs := by (try rewrite [e_i]); (try rewrite [e_ua]); (try rewrite [e_ub]); (try rewrite [e_fa]); (try rewrite [e_fb]); (try rewrite [e_fq]); (try rewrite [e_cq]); (try rewrite [e_nq]); (try rewrite [e_Q]); exact hRW
  have hFR : FRM fp fq Rs := by (try rewrite [e_i]); (try rewrite [e_ua]); (try rewrite [e_ub]); (try rewrite [e_fa]); (try rewrite [e_fb]); (try rewrite [e_fq]); (try rewrite [e_cq]); (try rewrite [e_nq]); (try rewrite [e_Q]); exact FRM_0
  have hRa : RA fa Rs := by (try rewrite [e_i]); (try rewrite [e_ua]); (try rewrite [e_ub]); (try rewrite [e_fa]); (try rewrite [e_fb]); (try rewrite [e_fq]); (try rewrite [e_cq]); (try rewrite [e_nq]); (try rewrite [e_Q]); exact hR1
  have hRb : RA fb Rs := by (try rewrite [e_i]); (try rewrite [e_ua]); (try rewrite [e_ub]); (try rewrite [e_fa]); (try rewrite [e_fb]); (try rewrite [e_fq]); (try rewrite [e_cq]); (try rewrite [e_nq]); (try rewrite [e_Q]); exact hR2
  have hcb : i = 0 ∨ CHB cq c14 (4800 * i) := by (try rewrite [e_i]); (try rewrite [e_ua]); (try rewrite [e_ub]); (try rewrite [e_fa]); (try rewrite [e_fb]); (try rewrite [e_fq]); (try rewrite [e_cq]); (try rewrite [e_nq]); (try rewrite [e_Q]); exact Or.inl rfl
  have hDS : RDS fa fb := by (try rewrite [e_i]); (try rewrite [e_ua]); (try rewrite [e_ub]); (try rewrite [e_fa]); (try rewrite [e_fb]); (try rewrite [e_fq]); (try rewrite [e_cq]); (try rewrite [e_nq]); (try rewrite [e_Q]); exact hRD
  have hQ : i = 0 ∨ ∀ t, t < c14 → MR (cs8 tb8) c22 c14 (opM p0 p1) i t (cq t) (Q t) ∧ (¬ cq t = 2147483647 → RWV fq krb fa (Q t) i t) := by (try rewrite [e_i]); (try rewrite [e_ua]); (try rewrite [e_ub]); (try rewrite [e_fa]); (try rewrite [e_fb]); (try rewrite [e_fq]); (try rewrite [e_cq]); (try rewrite [e_nq]); (try rewrite [e_Q]); exact Or.inl rfl
  clear e_i e_ua e_ub e_fa e_fb e_fq e_cq e_nq e_Q
  obtain ⟨nn2, hnn2⟩ : ∃ q : Nat, c27 - i < q := ⟨_, Nat.lt_succ_self _⟩
  induction nn2 generalizing i ua ub fa fb fq cq nq Q H locs ls with
  | zero => exact absurd hnn2 (Nat.not_lt_zero _)
  | succ nn2 ih2 =>
    refine lv_iload_n hx hb dX8_parts_2 rfl (lv_at hl 3 rfl) ?_
    refine lv_aload_n hx hb dX8_parts_3 rfl (lv_at hl 0 rfl) ?_
    refine va_get (D := (dC, dI)) (ci := 8) (v := .int (nI c27)) (C := RX8) (T := TX8) (N := 38) hx hb hts hi_X8 hown hK hP 0 rfl rfl 27 (by decide) k_f175 (fun _ h9 => h9) rfl dX8_parts_4 ?_
    refine lv_icmp_ge (tgt := 327) hx hb dX8_parts_7 (by decide) (fun c_7 => ?_) (fun c_7 => ?_)
    · have n_7 : c27 ≤ i := (nI_leI (a := c27) (b := i) (by omega) (by omega)).mp c_7
      have hP9 := va_P.part (cx := [(h0, .inr (8, [.int x0, .int x1, .ref m2, .int (nI c3), .ref m4, .ref m5, .ref m6, .ref m7, .ref m8, .ref m9, .ref m10, .ref m11, .int (nI c12), .int (nI c13), .int (nI c14), .ref m15, .ref m16, .ref m17, .ref m18, .ref m19, .int (nI c20), .int x21, .int (nI c22), .int (nI c23), .ref m24, .ref m25, .int (nI c26), .int (nI c27), .int x28, .ref m29, .ref m30, .ref m31, .ref ua, .ref ub, .ref m34, .int x35, .ref m36, .int (nI c37)])), (m29, .inl (ktb, 480, .inl (nR tb8))), (m30, .inl (kch, 8, .inl (nR cq))), (m31, .inl (knx, 8, .inl (nR nq))), (ua, .inl (krw, 8, .inr (.inr (.inr (.inr fa))))), (ub, .inl (krw, 8, .inr (.inr (.inr (.inr fb)))))]) hP [0, 1, 2, 3, 4, 5] rfl
      have hD9 := va_D.part (cx := [(h0, .inr (8, [.int x0, .int x1, .ref m2, .int (nI c3), .ref m4, .ref m5, .ref m6, .ref m7, .ref m8, .ref m9, .ref m10, .ref m11, .int (nI c12), .int (nI c13), .int (nI c14), .ref m15, .ref m16, .ref m17, .ref m18, .ref m19, .int (nI c20), .int x21, .int (nI c22), .int (nI c23), .ref m24, .ref m25, .int (nI c26), .int (nI c27), .int x28, .ref m29, .ref m30, .ref m31, .ref ua, .ref ub, .ref m34, .int x35, .ref m36, .int (nI c37)])), (m29, .inl (ktb, 480, .inl (nR tb8))), (m30, .inl (kch, 8, .inl (nR cq))), (m31, .inl (knx, 8, .inl (nR nq))), (ua, .inl (krw, 8, .inr (.inr (.inr (.inr fa))))), (ub, .inl (krw, 8, .inr (.inr (.inr (.inr fb)))))]) hD [0, 1, 2, 3, 4, 5] (by decide) rfl
      exact W.vret hx hb hr (fun t ht hW => ⟨⟨(cq, nq, ua, ub, fa, fb, fq), rfl, ⟨by exact hRW, by exact hFR, by exact hRa, by exact hRb, by exact fun h9 v hv => (hcb.resolve_left (by omega) v hv).elim Or.inl (fun h8 => Or.inr (by omega)), by exact hDS, by exact fun h9 => ⟨Q, fun t ht => by have h8 := hQ.resolve_left (by omega) t ht; rw [show i = c27 by omega] at h8; exact h8⟩⟩, by rw [ht]; exact hP9, hD9⟩, hS.F ht⟩) hS.2.2 dX8_parts_327
    · have n_7 : i < c27 := Nat.not_le.mp (fun h9 => c_7 ((nI_leI (a := c27) (b := i) (by omega) (by omega)).mpr h9))
      refine lv_iconst (v := 0) hx hb dX8_parts_10 (by decide) ?_
      refine lv_istore (lv' := [(4, .int 0), (0, .ref h0), (1, .int p0), (2, .int p1), (3, .int (nI i))]) hx hb dX8_parts_11 hl (by decide) rfl (fun ls hl => ?_)
      obtain ⟨t, e_t⟩ : ∃ y : Nat, y = 0 := ⟨_, rfl⟩
      obtain ⟨fq2, e_fq2⟩ : ∃ y : Nat → va_E, y = fq := ⟨_, rfl⟩
      obtain ⟨nq2, e_nq2⟩ : ∃ y : Nat → Nat, y = nq := ⟨_, rfl⟩
      obtain ⟨Q2, e_Q2⟩ : ∃ y : Nat → Nat → Nat, y = (fun _ _ => 0) := ⟨_, rfl⟩
      replace hl : lv_has ls 9 [(0, .ref h0), (1, .int p0), (2, .int p1), (3, .int (nI i)), (4, .int (nI t))] := by (try rewrite [e_t]); (try rewrite [e_fq2]); (try rewrite [e_nq2]); (try rewrite [e_Q2]); exact lv_sub hl [1, 2, 3, 4, 0] rfl
      replace hP : va_P (dC, dI) vwCl (vpl [(h0, .inr (8, [.int x0, .int x1, .ref m2, .int (nI c3), .ref m4, .ref m5, .ref m6, .ref m7, .ref m8, .ref m9, .ref m10, .ref m11, .int (nI c12), .int (nI c13), .int (nI c14), .ref m15, .ref m16, .ref m17, .ref m18, .ref m19, .int (nI c20), .int x21, .int (nI c22), .int (nI c23), .ref m24, .ref m25, .int (nI c26), .int (nI c27), .int x28, .ref m29, .ref m30, .ref m31, .ref ua, .ref ub, .ref m34, .int x35, .ref m36, .int (nI c37)])), (m29, .inl (ktb, 480, .inl (nR tb8))), (m30, .inl (kch, 8, .inl (nR cq))), (m31, .inl (knx, 8, .inl (nR nq2))), (ua, .inl (krw, 8, .inr (.inr (.inr (.inr fa))))), (ub, .inl (krw, 8, .inr (.inr (.inr (.inr fb)))))] L fq2) H := by (try rewrite [e_t]); (try rewrite [e_fq2]); (try rewrite [e_nq2]); (try rewrite [e_Q2]); exact hP
      replace hD : va_D A (vpl [(h0, .inr (8, [.int x0, .int x1, .ref m2, .int (nI c3), .ref m4, .ref m5, .ref m6, .ref m7, .ref m8, .ref m9, .ref m10, .ref m11, .int (nI c12), .int (nI c13), .int (nI c14), .ref m15, .ref m16, .ref m17, .ref m18, .ref m19, .int (nI c20), .int x21, .int (nI c22), .int (nI c23), .ref m24, .ref m25, .int (nI c26), .int (nI c27), .int x28, .ref m29, .ref m30, .ref m31, .ref ua, .ref ub, .ref m34, .int x35, .ref m36, .int (nI c37)])), (m29, .inl (ktb, 480, .inl (nR tb8))), (m30, .inl (kch, 8, .inl (nR cq))), (m31, .inl (knx, 8, .inl (nR nq2))), (ua, .inl (krw, 8, .inr (.inr (.inr (.inr fa))))), (ub, .inl (krw, 8, .inr (.inr (.inr (.inr fb)))))] L fq2) := by (try rewrite [e_t]); (try rewrite [e_fq2]); (try rewrite [e_nq2]); (try rewrite [e_Q2]); exact hD
      have ht1 : t ≤ c14 := by (try rewrite [e_t]); (try rewrite [e_fq2]); (try rewrite [e_nq2]); (try rewrite [e_Q2]); omega
      have hRW : ROWS L fq2 krb Rs := by (try rewrite [e_t]); (try rewrite [e_fq2]); (try rewrite [e_nq2]); (try rewrite [e_Q2]); exact hRW
      have hFR : FRM fp fq2 Rs := by (try rewrite [e_t]); (try rewrite [e_fq2]); (try rewrite [e_nq2]); (try rewrite [e_Q2]); exact hFR
      have hnb : CHB nq2 t (4800 * (i + 1)) := by (try rewrite [e_t]); (try rewrite [e_fq2]); (try rewrite [e_nq2]); (try rewrite [e_Q2]); exact fun u hu => absurd hu (Nat.not_lt_zero u)
      have hN : ∀ u, u < t → MR (cs8 tb8) c22 c14 (opM p0 p1) (i + 1) u (nq2 u) (Q2 u) ∧ (¬ nq2 u = 2147483647 → RWV fq2 krb fb (Q2 u) (i + 1) u) := by (try rewrite [e_t]); (try rewrite [e_fq2]); (try rewrite [e_nq2]); (try rewrite [e_Q2]); exact fun u hu => absurd hu (Nat.not_lt_zero u)
      have hO : i = 0 ∨ ∀ p, p < c14 → ¬ cq p = 2147483647 → RWV fq2 krb fa (Q p) i p := by (try rewrite [e_t]); (try rewrite [e_fq2]); (try rewrite [e_nq2]); (try rewrite [e_Q2]); exact hQ.imp id (fun h p hp => (h p hp).2)
      clear e_t e_fq2 e_nq2 e_Q2
      obtain ⟨nn13, hnn13⟩ : ∃ q : Nat, c14 - t < q := ⟨_, Nat.lt_succ_self _⟩
      induction nn13 generalizing t fq2 nq2 Q2 H locs ls with
      | zero => exact absurd hnn13 (Nat.not_lt_zero _)
      | succ nn13 ih13 =>
        refine lv_iload hx hb dX8_parts_13 (lv_at hl 4 rfl) ?_
        refine lv_aload_n hx hb dX8_parts_15 rfl (lv_at hl 0 rfl) ?_
        refine va_get (D := (dC, dI)) (ci := 8) (v := .int (nI c14)) (C := RX8) (T := TX8) (N := 38) hx hb hts hi_X8 hown hK hP 0 rfl rfl 14 (by decide) k_f133 (fun _ h9 => h9) rfl dX8_parts_16 ?_
        refine lv_icmp_ge (tgt := 269) hx hb dX8_parts_19 (by decide) (fun c_19 => ?_) (fun c_19 => ?_)
        · have n_19 : c14 ≤ t := (nI_leI (a := c14) (b := t) (by omega) (by omega)).mp c_19
          refine lv_iconst (v := 0) hx hb dX8_parts_269 (by decide) ?_
          refine lv_istore (lv' := [(4, .int 0), (0, .ref h0), (1, .int p0), (2, .int p1), (3, .int (nI i))]) hx hb dX8_parts_270 hl (by decide) rfl (fun ls hl => ?_)
          obtain ⟨u, e_u⟩ : ∃ y : Nat, y = 0 := ⟨_, rfl⟩
          obtain ⟨cq2, e_cq2⟩ : ∃ y : Nat → Nat, y = cq := ⟨_, rfl⟩
          replace hl : lv_has ls 9 [(0, .ref h0), (1, .int p0), (2, .int p1), (3, .int (nI i)), (4, .int (nI u))] := by (try rewrite [e_u]); (try rewrite [e_cq2]); exact lv_sub hl [1, 2, 3, 4, 0] rfl
          replace hP : va_P (dC, dI) vwCl (vpl [(h0, .inr (8, [.int x0, .int x1, .ref m2, .int (nI c3), .ref m4, .ref m5, .ref m6, .ref m7, .ref m8, .ref m9, .ref m10, .ref m11, .int (nI c12), .int (nI c13), .int (nI c14), .ref m15, .ref m16, .ref m17, .ref m18, .ref m19, .int (nI c20), .int x21, .int (nI c22), .int (nI c23), .ref m24, .ref m25, .int (nI c26), .int (nI c27), .int x28, .ref m29, .ref m30, .ref m31, .ref ua, .ref ub, .ref m34, .int x35, .ref m36, .int (nI c37)])), (m29, .inl (ktb, 480, .inl (nR tb8))), (m30, .inl (kch, 8, .inl (nR cq2))), (m31, .inl (knx, 8, .inl (nR nq2))), (ua, .inl (krw, 8, .inr (.inr (.inr (.inr fa))))), (ub, .inl (krw, 8, .inr (.inr (.inr (.inr fb)))))] L fq2) H := by (try rewrite [e_u]); (try rewrite [e_cq2]); exact hP
          replace hD : va_D A (vpl [(h0, .inr (8, [.int x0, .int x1, .ref m2, .int (nI c3), .ref m4, .ref m5, .ref m6, .ref m7, .ref m8, .ref m9, .ref m10, .ref m11, .int (nI c12), .int (nI c13), .int (nI c14), .ref m15, .ref m16, .ref m17, .ref m18, .ref m19, .int (nI c20), .int x21, .int (nI c22), .int (nI c23), .ref m24, .ref m25, .int (nI c26), .int (nI c27), .int x28, .ref m29, .ref m30, .ref m31, .ref ua, .ref ub, .ref m34, .int x35, .ref m36, .int (nI c37)])), (m29, .inl (ktb, 480, .inl (nR tb8))), (m30, .inl (kch, 8, .inl (nR cq2))), (m31, .inl (knx, 8, .inl (nR nq2))), (ua, .inl (krw, 8, .inr (.inr (.inr (.inr fa))))), (ub, .inl (krw, 8, .inr (.inr (.inr (.inr fb)))))] L fq2) := by (try rewrite [e_u]); (try rewrite [e_cq2]); exact hD
          have hu1 : u ≤ c14 := by (try rewrite [e_u]); (try rewrite [e_cq2]); omega
          have hce : ∀ v, v < u → cq2 v = nq2 v := by (try rewrite [e_u]); (try rewrite [e_cq2]); exact fun v hv => absurd hv (Nat.not_lt_zero v)
          clear e_u e_cq2
          obtain ⟨nn272, hnn272⟩ : ∃ q : Nat, c14 - u < q := ⟨_, Nat.lt_succ_self _⟩
          induction nn272 generalizing u cq2 H locs ls with
          | zero => exact absurd hnn272 (Nat.not_lt_zero _)
          | succ nn272 ih272 =>
            refine lv_iload hx hb dX8_parts_272 (lv_at hl 4 rfl) ?_
            refine lv_aload_n hx hb dX8_parts_274 rfl (lv_at hl 0 rfl) ?_
            refine va_get (D := (dC, dI)) (ci := 8) (v := .int (nI c14)) (C := RX8) (T := TX8) (N := 38) hx hb hts hi_X8 hown hK hP 0 rfl rfl 14 (by decide) k_f133 (fun _ h9 => h9) rfl dX8_parts_275 ?_
            refine lv_icmp_ge (tgt := 301) hx hb dX8_parts_278 (by decide) (fun c_278 => ?_) (fun c_278 => ?_)
            · have n_278 : c14 ≤ u := (nI_leI (a := c14) (b := u) (by omega) (by omega)).mp c_278
              refine lv_aload_n hx hb dX8_parts_301 rfl (lv_at hl 0 rfl) ?_
              refine va_get (D := (dC, dI)) (ci := 8) (v := .ref ua) (C := RX8) (T := TX8) (N := 38) hx hb hts hi_X8 hown hK hP 0 rfl rfl 32 (by decide) k_f82 (fun _ h9 => h9) rfl dX8_parts_302 ?_
              refine lv_astore (lv' := [(4, .ref ua), (0, .ref h0), (1, .int p0), (2, .int p1), (3, .int (nI i))]) hx hb dX8_parts_305 hl (by decide) rfl (fun ls hl => ?_)
              refine lv_aload_n hx hb dX8_parts_307 rfl (lv_at hl 1 rfl) ?_
              refine lv_aload_n hx hb dX8_parts_308 rfl (lv_at hl 1 rfl) ?_
              refine va_get (D := (dC, dI)) (ci := 8) (v := .ref ub) (C := RX8) (T := TX8) (N := 38) hx hb hts hi_X8 hown hK hP 0 rfl rfl 33 (by decide) k_f85 (fun _ h9 => h9) rfl dX8_parts_309 ?_
              refine va_put (D := (dC, dI)) (ci := 8) (v := .ref ub) (ty := .array (.array .byte)) (C := RX8) (T := TX8) (N := 38) hx hb hts hi_X8 tyX8 tyX8_ok nmX8 hown hK hP hD hS 0 rfl rfl 32 (by decide) k_f82 (fun _ h9 => h9) rfl (by decide +kernel) rfl rfl (Nat.le_of_ble_eq_true rfl) dX8_parts_312 (fun H locs hP hD hS => ?_)
              replace hP : va_P (dC, dI) vwCl (vpl [(h0, .inr (8, [.int x0, .int x1, .ref m2, .int (nI c3), .ref m4, .ref m5, .ref m6, .ref m7, .ref m8, .ref m9, .ref m10, .ref m11, .int (nI c12), .int (nI c13), .int (nI c14), .ref m15, .ref m16, .ref m17, .ref m18, .ref m19, .int (nI c20), .int x21, .int (nI c22), .int (nI c23), .ref m24, .ref m25, .int (nI c26), .int (nI c27), .int x28, .ref m29, .ref m30, .ref m31, .ref ub, .ref ub, .ref m34, .int x35, .ref m36, .int (nI c37)])), (m29, .inl (ktb, 480, .inl (nR tb8))), (m30, .inl (kch, 8, .inl (nR cq2))), (m31, .inl (knx, 8, .inl (nR nq2))), (ua, .inl (krw, 8, .inr (.inr (.inr (.inr fa))))), (ub, .inl (krw, 8, .inr (.inr (.inr (.inr fb)))))] L fq2) H := hP
              replace hD : va_D A (vpl [(h0, .inr (8, [.int x0, .int x1, .ref m2, .int (nI c3), .ref m4, .ref m5, .ref m6, .ref m7, .ref m8, .ref m9, .ref m10, .ref m11, .int (nI c12), .int (nI c13), .int (nI c14), .ref m15, .ref m16, .ref m17, .ref m18, .ref m19, .int (nI c20), .int x21, .int (nI c22), .int (nI c23), .ref m24, .ref m25, .int (nI c26), .int (nI c27), .int x28, .ref m29, .ref m30, .ref m31, .ref ub, .ref ub, .ref m34, .int x35, .ref m36, .int (nI c37)])), (m29, .inl (ktb, 480, .inl (nR tb8))), (m30, .inl (kch, 8, .inl (nR cq2))), (m31, .inl (knx, 8, .inl (nR nq2))), (ua, .inl (krw, 8, .inr (.inr (.inr (.inr fa))))), (ub, .inl (krw, 8, .inr (.inr (.inr (.inr fb)))))] L fq2) := hD
              refine lv_aload_n hx hb dX8_parts_315 rfl (lv_at hl 1 rfl) ?_
              refine lv_aload hx hb dX8_parts_316 (lv_at hl 0 rfl) ?_
              refine va_put (D := (dC, dI)) (ci := 8) (v := .ref ua) (ty := .array (.array .byte)) (C := RX8) (T := TX8) (N := 38) hx hb hts hi_X8 tyX8 tyX8_ok nmX8 hown hK hP hD hS 0 rfl rfl 33 (by decide) k_f85 (fun _ h9 => h9) rfl (by decide +kernel) rfl rfl (Nat.le_of_ble_eq_true rfl) dX8_parts_318 (fun H locs hP hD hS => ?_)
              replace hP : va_P (dC, dI) vwCl (vpl [(h0, .inr (8, [.int x0, .int x1, .ref m2, .int (nI c3), .ref m4, .ref m5, .ref m6, .ref m7, .ref m8, .ref m9, .ref m10, .ref m11, .int (nI c12), .int (nI c13), .int (nI c14), .ref m15, .ref m16, .ref m17, .ref m18, .ref m19, .int (nI c20), .int x21, .int (nI c22), .int (nI c23), .ref m24, .ref m25, .int (nI c26), .int (nI c27), .int x28, .ref m29, .ref m30, .ref m31, .ref ub, .ref ua, .ref m34, .int x35, .ref m36, .int (nI c37)])), (m29, .inl (ktb, 480, .inl (nR tb8))), (m30, .inl (kch, 8, .inl (nR cq2))), (m31, .inl (knx, 8, .inl (nR nq2))), (ua, .inl (krw, 8, .inr (.inr (.inr (.inr fa))))), (ub, .inl (krw, 8, .inr (.inr (.inr (.inr fb)))))] L fq2) H := hP
              replace hD : va_D A (vpl [(h0, .inr (8, [.int x0, .int x1, .ref m2, .int (nI c3), .ref m4, .ref m5, .ref m6, .ref m7, .ref m8, .ref m9, .ref m10, .ref m11, .int (nI c12), .int (nI c13), .int (nI c14), .ref m15, .ref m16, .ref m17, .ref m18, .ref m19, .int (nI c20), .int x21, .int (nI c22), .int (nI c23), .ref m24, .ref m25, .int (nI c26), .int (nI c27), .int x28, .ref m29, .ref m30, .ref m31, .ref ub, .ref ua, .ref m34, .int x35, .ref m36, .int (nI c37)])), (m29, .inl (ktb, 480, .inl (nR tb8))), (m30, .inl (kch, 8, .inl (nR cq2))), (m31, .inl (knx, 8, .inl (nR nq2))), (ua, .inl (krw, 8, .inr (.inr (.inr (.inr fa))))), (ub, .inl (krw, 8, .inr (.inr (.inr (.inr fb)))))] L fq2) := hD
              replace hP := va_P.part (cx := [(h0, .inr (8, [.int x0, .int x1, .ref m2, .int (nI c3), .ref m4, .ref m5, .ref m6, .ref m7, .ref m8, .ref m9, .ref m10, .ref m11, .int (nI c12), .int (nI c13), .int (nI c14), .ref m15, .ref m16, .ref m17, .ref m18, .ref m19, .int (nI c20), .int x21, .int (nI c22), .int (nI c23), .ref m24, .ref m25, .int (nI c26), .int (nI c27), .int x28, .ref m29, .ref m30, .ref m31, .ref ub, .ref ua, .ref m34, .int x35, .ref m36, .int (nI c37)])), (m29, .inl (ktb, 480, .inl (nR tb8))), (m30, .inl (kch, 8, .inl (nR cq2))), (m31, .inl (knx, 8, .inl (nR nq2))), (ub, .inl (krw, 8, .inr (.inr (.inr (.inr fb))))), (ua, .inl (krw, 8, .inr (.inr (.inr (.inr fa)))))]) hP [0, 1, 2, 3, 5, 4] rfl
              replace hD := va_D.part (cx := [(h0, .inr (8, [.int x0, .int x1, .ref m2, .int (nI c3), .ref m4, .ref m5, .ref m6, .ref m7, .ref m8, .ref m9, .ref m10, .ref m11, .int (nI c12), .int (nI c13), .int (nI c14), .ref m15, .ref m16, .ref m17, .ref m18, .ref m19, .int (nI c20), .int x21, .int (nI c22), .int (nI c23), .ref m24, .ref m25, .int (nI c26), .int (nI c27), .int x28, .ref m29, .ref m30, .ref m31, .ref ub, .ref ua, .ref m34, .int x35, .ref m36, .int (nI c37)])), (m29, .inl (ktb, 480, .inl (nR tb8))), (m30, .inl (kch, 8, .inl (nR cq2))), (m31, .inl (knx, 8, .inl (nR nq2))), (ub, .inl (krw, 8, .inr (.inr (.inr (.inr fb))))), (ua, .inl (krw, 8, .inr (.inr (.inr (.inr fa)))))]) hD [0, 1, 2, 3, 5, 4] (by decide) rfl
              replace hP : va_P (dC, dI) vwCl (vpl [(h0, .inr (8, [.int x0, .int x1, .ref m2, .int (nI c3), .ref m4, .ref m5, .ref m6, .ref m7, .ref m8, .ref m9, .ref m10, .ref m11, .int (nI c12), .int (nI c13), .int (nI c14), .ref m15, .ref m16, .ref m17, .ref m18, .ref m19, .int (nI c20), .int x21, .int (nI c22), .int (nI c23), .ref m24, .ref m25, .int (nI c26), .int (nI c27), .int x28, .ref m29, .ref m30, .ref m31, .ref ub, .ref ua, .ref m34, .int x35, .ref m36, .int (nI c37)])), (m29, .inl (ktb, 480, .inl (nR tb8))), (m30, .inl (kch, 8, .inl (nR cq2))), (m31, .inl (knx, 8, .inl (nR nq2))), (ub, .inl (krw, 8, .inr (.inr (.inr (.inr fb))))), (ua, .inl (krw, 8, .inr (.inr (.inr (.inr fa)))))] L fq2) H := hP
              replace hD : va_D A (vpl [(h0, .inr (8, [.int x0, .int x1, .ref m2, .int (nI c3), .ref m4, .ref m5, .ref m6, .ref m7, .ref m8, .ref m9, .ref m10, .ref m11, .int (nI c12), .int (nI c13), .int (nI c14), .ref m15, .ref m16, .ref m17, .ref m18, .ref m19, .int (nI c20), .int x21, .int (nI c22), .int (nI c23), .ref m24, .ref m25, .int (nI c26), .int (nI c27), .int x28, .ref m29, .ref m30, .ref m31, .ref ub, .ref ua, .ref m34, .int x35, .ref m36, .int (nI c37)])), (m29, .inl (ktb, 480, .inl (nR tb8))), (m30, .inl (kch, 8, .inl (nR cq2))), (m31, .inl (knx, 8, .inl (nR nq2))), (ub, .inl (krw, 8, .inr (.inr (.inr (.inr fb))))), (ua, .inl (krw, 8, .inr (.inr (.inr (.inr fa)))))] L fq2) := hD
              have hcb9 : i + 1 = 0 ∨ CHB cq2 c14 (4800 * (i + 1)) := Or.inr (fun v hv => by rw [hce v (by omega)]; exact hnb v (by omega))
              have hQ9 : i + 1 = 0 ∨ ∀ t, t < c14 → MR (cs8 tb8) c22 c14 (opM p0 p1) (i + 1) t (cq2 t) (Q2 t) ∧ (¬ cq2 t = 2147483647 → RWV fq2 krb fb (Q2 t) (i + 1) t) := Or.inr (fun v hv => by rw [hce v (by omega)]; exact hN v (by omega))
              refine lv_iinc (v := nI (i + 1)) (lv' := [(3, .int (nI (i + 1))), (4, .ref ua), (0, .ref h0), (1, .int p0), (2, .int p1)]) hx hb dX8_parts_321 hl (k := 4) rfl (nI_1 _) (by decide) rfl (fun ls hl => ?_)
              refine lv_goto (tgt := 2) hx hb dX8_parts_324 (by decide) ?_
              replace hl : lv_has ls 9 [(0, .ref h0), (1, .int p0), (2, .int p1), (3, .int (nI (i + 1)))] := lv_sub hl [2, 3, 4, 0] rfl
              replace hP : va_P (dC, dI) vwCl (vpl [(h0, .inr (8, [.int x0, .int x1, .ref m2, .int (nI c3), .ref m4, .ref m5, .ref m6, .ref m7, .ref m8, .ref m9, .ref m10, .ref m11, .int (nI c12), .int (nI c13), .int (nI c14), .ref m15, .ref m16, .ref m17, .ref m18, .ref m19, .int (nI c20), .int x21, .int (nI c22), .int (nI c23), .ref m24, .ref m25, .int (nI c26), .int (nI c27), .int x28, .ref m29, .ref m30, .ref m31, .ref ub, .ref ua, .ref m34, .int x35, .ref m36, .int (nI c37)])), (m29, .inl (ktb, 480, .inl (nR tb8))), (m30, .inl (kch, 8, .inl (nR cq2))), (m31, .inl (knx, 8, .inl (nR nq2))), (ub, .inl (krw, 8, .inr (.inr (.inr (.inr fb))))), (ua, .inl (krw, 8, .inr (.inr (.inr (.inr fa)))))] L fq2) H := hP
              replace hD : va_D A (vpl [(h0, .inr (8, [.int x0, .int x1, .ref m2, .int (nI c3), .ref m4, .ref m5, .ref m6, .ref m7, .ref m8, .ref m9, .ref m10, .ref m11, .int (nI c12), .int (nI c13), .int (nI c14), .ref m15, .ref m16, .ref m17, .ref m18, .ref m19, .int (nI c20), .int x21, .int (nI c22), .int (nI c23), .ref m24, .ref m25, .int (nI c26), .int (nI c27), .int x28, .ref m29, .ref m30, .ref m31, .ref ub, .ref ua, .ref m34, .int x35, .ref m36, .int (nI c37)])), (m29, .inl (ktb, 480, .inl (nR tb8))), (m30, .inl (kch, 8, .inl (nR cq2))), (m31, .inl (knx, 8, .inl (nR nq2))), (ub, .inl (krw, 8, .inr (.inr (.inr (.inr fb))))), (ua, .inl (krw, 8, .inr (.inr (.inr (.inr fa)))))] L fq2) := hD
              have hcb9 : (i + 1) = 0 ∨ CHB cq2 c14 (4800 * (i + 1)) := hcb9
              have hDS9 : RDS fb fa := hDS.sw
              have hQ9 : (i + 1) = 0 ∨ ∀ t, t < c14 → MR (cs8 tb8) c22 c14 (opM p0 p1) (i + 1) t (cq2 t) (Q2 t) ∧ (¬ cq2 t = 2147483647 → RWV fq2 krb fb (Q2 t) (i + 1) t) := hQ9
              apply ih2 (i := i + 1) (ua := ub) (ub := ua) (fa := fb) (fb := fa) (fq := fq2) (cq := cq2) (nq := nq2) (Q := Q2) <;> first | assumption | omega
            · have n_278 : u < c14 := Nat.not_le.mp (fun h9 => c_278 ((nI_leI (a := c14) (b := u) (by omega) (by omega)).mpr h9))
              refine lv_aload_n hx hb dX8_parts_281 rfl (lv_at hl 0 rfl) ?_
              refine va_get (D := (dC, dI)) (ci := 8) (v := .ref m30) (C := RX8) (T := TX8) (N := 38) hx hb hts hi_X8 hown hK hP 0 rfl rfl 30 (by decide) k_f74 (fun _ h9 => h9) rfl dX8_parts_282 ?_
              refine lv_iload hx hb dX8_parts_285 (lv_at hl 4 rfl) ?_
              refine lv_aload_n hx hb dX8_parts_287 rfl (lv_at hl 0 rfl) ?_
              refine va_get (D := (dC, dI)) (ci := 8) (v := .ref m31) (C := RX8) (T := TX8) (N := 38) hx hb hts hi_X8 hown hK hP 0 rfl rfl 31 (by decide) k_f77 (fun _ h9 => h9) rfl dX8_parts_288 ?_
              refine lv_iload hx hb dX8_parts_291 (lv_at hl 4 rfl) ?_
              refine va_iald hx hb hK hP 3 2 rfl rfl (i := nI u) (vp_in_nI (by omega) (by omega)) dX8_parts_293 ?_
              refine lv_topi (fun x_293 ex_293 => ?_)
              obtain rfl : nI (nq2 u) = x_293 := Eq.symm (ex_293.trans (nR_at (by omega)))
              refine va_iast hx hb hK hP hD hS 2 1 rfl rfl (i := nI u) (x := nI (nq2 u)) (vp_in_nI (by omega) (by omega)) dX8_parts_294 (fun H locs hP hD hS => ?_)
              have er_294 : upd (nR cq2) (nI u : Int32).toNatClampNeg (nI (nq2 u)) = nR (updN cq2 u (nq2 u)) := upd_nR (g := cq2) (i := u) (v := nq2 u) (by omega)
              replace hP : va_P (dC, dI) vwCl (vpl [(h0, .inr (8, [.int x0, .int x1, .ref m2, .int (nI c3), .ref m4, .ref m5, .ref m6, .ref m7, .ref m8, .ref m9, .ref m10, .ref m11, .int (nI c12), .int (nI c13), .int (nI c14), .ref m15, .ref m16, .ref m17, .ref m18, .ref m19, .int (nI c20), .int x21, .int (nI c22), .int (nI c23), .ref m24, .ref m25, .int (nI c26), .int (nI c27), .int x28, .ref m29, .ref m30, .ref m31, .ref ua, .ref ub, .ref m34, .int x35, .ref m36, .int (nI c37)])), (m29, .inl (ktb, 480, .inl (nR tb8))), (m30, .inl (kch, 8, .inl (nR (updN cq2 u (nq2 u))))), (m31, .inl (knx, 8, .inl (nR nq2))), (ua, .inl (krw, 8, .inr (.inr (.inr (.inr fa))))), (ub, .inl (krw, 8, .inr (.inr (.inr (.inr fb)))))] L fq2) H := by rw [← er_294]; exact hP
              replace hD : va_D A (vpl [(h0, .inr (8, [.int x0, .int x1, .ref m2, .int (nI c3), .ref m4, .ref m5, .ref m6, .ref m7, .ref m8, .ref m9, .ref m10, .ref m11, .int (nI c12), .int (nI c13), .int (nI c14), .ref m15, .ref m16, .ref m17, .ref m18, .ref m19, .int (nI c20), .int x21, .int (nI c22), .int (nI c23), .ref m24, .ref m25, .int (nI c26), .int (nI c27), .int x28, .ref m29, .ref m30, .ref m31, .ref ua, .ref ub, .ref m34, .int x35, .ref m36, .int (nI c37)])), (m29, .inl (ktb, 480, .inl (nR tb8))), (m30, .inl (kch, 8, .inl (nR (updN cq2 u (nq2 u))))), (m31, .inl (knx, 8, .inl (nR nq2))), (ua, .inl (krw, 8, .inr (.inr (.inr (.inr fa))))), (ub, .inl (krw, 8, .inr (.inr (.inr (.inr fb)))))] L fq2) := by rw [← er_294]; exact hD
              refine lv_iinc (v := nI (u + 1)) (lv' := [(4, .int (nI (u + 1))), (0, .ref h0), (1, .int p0), (2, .int p1), (3, .int (nI i))]) hx hb dX8_parts_295 hl (k := 4) rfl (nI_1 _) (by decide) rfl (fun ls hl => ?_)
              refine lv_goto (tgt := 272) hx hb dX8_parts_298 (by decide) ?_
              replace hl : lv_has ls 9 [(0, .ref h0), (1, .int p0), (2, .int p1), (3, .int (nI i)), (4, .int (nI (u + 1)))] := lv_sub hl [1, 2, 3, 4, 0] rfl
              replace hP : va_P (dC, dI) vwCl (vpl [(h0, .inr (8, [.int x0, .int x1, .ref m2, .int (nI c3), .ref m4, .ref m5, .ref m6, .ref m7, .ref m8, .ref m9, .ref m10, .ref m11, .int (nI c12), .int (nI c13), .int (nI c14), .ref m15, .ref m16, .ref m17, .ref m18, .ref m19, .int (nI c20), .int x21, .int (nI c22), .int (nI c23), .ref m24, .ref m25, .int (nI c26), .int (nI c27), .int x28, .ref m29, .ref m30, .ref m31, .ref ua, .ref ub, .ref m34, .int x35, .ref m36, .int (nI c37)])), (m29, .inl (ktb, 480, .inl (nR tb8))), (m30, .inl (kch, 8, .inl (nR (updN cq2 u (nq2 u))))), (m31, .inl (knx, 8, .inl (nR nq2))), (ua, .inl (krw, 8, .inr (.inr (.inr (.inr fa))))), (ub, .inl (krw, 8, .inr (.inr (.inr (.inr fb)))))] L fq2) H := hP
              replace hD : va_D A (vpl [(h0, .inr (8, [.int x0, .int x1, .ref m2, .int (nI c3), .ref m4, .ref m5, .ref m6, .ref m7, .ref m8, .ref m9, .ref m10, .ref m11, .int (nI c12), .int (nI c13), .int (nI c14), .ref m15, .ref m16, .ref m17, .ref m18, .ref m19, .int (nI c20), .int x21, .int (nI c22), .int (nI c23), .ref m24, .ref m25, .int (nI c26), .int (nI c27), .int x28, .ref m29, .ref m30, .ref m31, .ref ua, .ref ub, .ref m34, .int x35, .ref m36, .int (nI c37)])), (m29, .inl (ktb, 480, .inl (nR tb8))), (m30, .inl (kch, 8, .inl (nR (updN cq2 u (nq2 u))))), (m31, .inl (knx, 8, .inl (nR nq2))), (ua, .inl (krw, 8, .inr (.inr (.inr (.inr fa))))), (ub, .inl (krw, 8, .inr (.inr (.inr (.inr fb)))))] L fq2) := hD
              have hce9 : ∀ v, v < (u + 1) → (updN cq2 u (nq2 u)) v = nq2 v := (fun v hv => by unfold updN; by_cases e : v = u; (rw [if_pos e, e]); (rw [if_neg e]; exact hce v (by omega)))
              apply ih272 (u := u + 1) (cq2 := updN cq2 u (nq2 u)) <;> first | assumption | omega
        · have n_19 : t < c14 := Nat.not_le.mp (fun h9 => c_19 ((nI_leI (a := c14) (b := t) (by omega) (by omega)).mpr h9))
          refine lv_join (P := fun (ow : Nat) => (ow = 2147483647 ∧ (opM p0 p1) i t = false) ∨ (ow = (cs8 tb8) i t ∧ (opM p0 p1) i t = true ∧ ow ≤ 2800)) (fr := fun (ow : Nat) => F0 m 50 ls [.int (nI ow)]) (fun J50 => ?_) (fun ow how => ?_)
          · refine lv_iload_n hx hb dX8_parts_22 rfl (lv_at hl 3 rfl) ?_
            refine lv_iload_n hx hb dX8_parts_23 rfl (lv_at hl 1 rfl) ?_
            refine lv_icmp_ne (tgt := 38) hx hb dX8_parts_24 (by decide) (fun c_24 => ?_) (fun c_24 => ?_)
            · refine lv_aload_n hx hb dX8_parts_38 rfl (lv_at hl 0 rfl) ?_
              refine va_get (D := (dC, dI)) (ci := 8) (v := .ref m29) (C := RX8) (T := TX8) (N := 38) hx hb hts hi_X8 hown hK hP 0 rfl rfl 29 (by decide) k_f71 (fun _ h9 => h9) rfl dX8_parts_39 ?_
              refine lv_bipush (v := 8) hx hb dX8_parts_42 (by decide) ?_
              refine lv_iload_n hx hb dX8_parts_44 rfl (lv_at hl 3 rfl) ?_
              refine lv_imul hx hb dX8_parts_45 ?_
              refine lv_topi (fun x_45 ex_45 => ?_)
              obtain rfl : nI (8 * i) = x_45 := Eq.symm (ex_45.trans (pk_mul 8 i))
              refine lv_iload hx hb dX8_parts_46 (lv_at hl 4 rfl) ?_
              refine lv_iadd hx hb dX8_parts_48 ?_
              refine lv_topi (fun x_48 ex_48 => ?_)
              obtain rfl : nI (8 * i + t) = x_48 := Eq.symm (ex_48.trans (nI_add (8 * i) t))
              refine va_iald hx hb hK hP 1 0 rfl rfl (i := nI (8 * i + t)) (vp_in_nI (by omega) (by omega)) dX8_parts_49 ?_
              refine lv_topi (fun x_49 ex_49 => ?_)
              obtain rfl : nI (tb8 (8 * i + t)) = x_49 := Eq.symm (ex_49.trans (nR_at (by omega)))
              exact J50 (tb8 (8 * i + t)) (Or.inr ⟨rfl, opM_y (fun h9 => c_24 h9.1), hTB i t (by omega) (by omega)⟩)
            · refine lv_iload hx hb dX8_parts_27 (lv_at hl 4 rfl) ?_
              refine lv_iload_n hx hb dX8_parts_29 rfl (lv_at hl 2 rfl) ?_
              refine lv_icmp_ne (tgt := 38) hx hb dX8_parts_30 (by decide) (fun c_30 => ?_) (fun c_30 => ?_)
              · refine lv_aload_n hx hb dX8_parts_38 rfl (lv_at hl 0 rfl) ?_
                refine va_get (D := (dC, dI)) (ci := 8) (v := .ref m29) (C := RX8) (T := TX8) (N := 38) hx hb hts hi_X8 hown hK hP 0 rfl rfl 29 (by decide) k_f71 (fun _ h9 => h9) rfl dX8_parts_39 ?_
                refine lv_bipush (v := 8) hx hb dX8_parts_42 (by decide) ?_
                refine lv_iload_n hx hb dX8_parts_44 rfl (lv_at hl 3 rfl) ?_
                refine lv_imul hx hb dX8_parts_45 ?_
                refine lv_topi (fun x_45 ex_45 => ?_)
                obtain rfl : nI (8 * i) = x_45 := Eq.symm (ex_45.trans (pk_mul 8 i))
                refine lv_iload hx hb dX8_parts_46 (lv_at hl 4 rfl) ?_
                refine lv_iadd hx hb dX8_parts_48 ?_
                refine lv_topi (fun x_48 ex_48 => ?_)
                obtain rfl : nI (8 * i + t) = x_48 := Eq.symm (ex_48.trans (nI_add (8 * i) t))
                refine va_iald hx hb hK hP 1 0 rfl rfl (i := nI (8 * i + t)) (vp_in_nI (by omega) (by omega)) dX8_parts_49 ?_
                refine lv_topi (fun x_49 ex_49 => ?_)
                obtain rfl : nI (tb8 (8 * i + t)) = x_49 := Eq.symm (ex_49.trans (nR_at (by omega)))
                exact J50 (tb8 (8 * i + t)) (Or.inr ⟨rfl, opM_y (fun h9 => c_30 h9.2), hTB i t (by omega) (by omega)⟩)
              · refine lv_ldc hx hb hown (hts (.constant RX8 191 (2147483647)) (by decide +kernel)) dX8_parts_33 ?_
                refine lv_goto (tgt := 50) hx hb dX8_parts_35 (by decide) ?_
                exact J50 2147483647 (Or.inl ⟨rfl, opM_n c_24 c_30⟩)
          · skip
            have how2 : ow = 2147483647 ∨ ow ≤ 2800 := by rcases how with ⟨h9, _⟩ | ⟨_, _, h9⟩; exact Or.inl h9; exact Or.inr h9
            refine lv_istore (lv' := [(5, .int (nI ow)), (0, .ref h0), (1, .int p0), (2, .int p1), (3, .int (nI i)), (4, .int (nI t))]) hx hb dX8_parts_50 hl (by decide) rfl (fun ls hl => ?_)
            refine lv_aload_n hx hb dX8_parts_52 rfl (lv_at hl 1 rfl) ?_
            refine va_get (D := (dC, dI)) (ci := 8) (v := .ref m31) (C := RX8) (T := TX8) (N := 38) hx hb hts hi_X8 hown hK hP 0 rfl rfl 31 (by decide) k_f77 (fun _ h9 => h9) rfl dX8_parts_53 ?_
            refine lv_iload hx hb dX8_parts_56 (lv_at hl 5 rfl) ?_
            refine lv_ldc hx hb hown (hts (.constant RX8 191 (2147483647)) (by decide +kernel)) dX8_parts_58 ?_
            refine va_iast hx hb hK hP hD hS 3 2 rfl rfl (i := nI t) (x := 2147483647) (vp_in_nI (by omega) (by omega)) dX8_parts_60 (fun H locs hP hD hS => ?_)
            have er_60 : upd (nR nq2) (nI t : Int32).toNatClampNeg 2147483647 = nR (updN nq2 t 2147483647) := upd_nR (g := nq2) (i := t) (v := 2147483647) (by omega)
            replace hP : va_P (dC, dI) vwCl (vpl [(h0, .inr (8, [.int x0, .int x1, .ref m2, .int (nI c3), .ref m4, .ref m5, .ref m6, .ref m7, .ref m8, .ref m9, .ref m10, .ref m11, .int (nI c12), .int (nI c13), .int (nI c14), .ref m15, .ref m16, .ref m17, .ref m18, .ref m19, .int (nI c20), .int x21, .int (nI c22), .int (nI c23), .ref m24, .ref m25, .int (nI c26), .int (nI c27), .int x28, .ref m29, .ref m30, .ref m31, .ref ua, .ref ub, .ref m34, .int x35, .ref m36, .int (nI c37)])), (m29, .inl (ktb, 480, .inl (nR tb8))), (m30, .inl (kch, 8, .inl (nR cq))), (m31, .inl (knx, 8, .inl (nR (updN nq2 t 2147483647)))), (ua, .inl (krw, 8, .inr (.inr (.inr (.inr fa))))), (ub, .inl (krw, 8, .inr (.inr (.inr (.inr fb)))))] L fq2) H := by rw [← er_60]; exact hP
            replace hD : va_D A (vpl [(h0, .inr (8, [.int x0, .int x1, .ref m2, .int (nI c3), .ref m4, .ref m5, .ref m6, .ref m7, .ref m8, .ref m9, .ref m10, .ref m11, .int (nI c12), .int (nI c13), .int (nI c14), .ref m15, .ref m16, .ref m17, .ref m18, .ref m19, .int (nI c20), .int x21, .int (nI c22), .int (nI c23), .ref m24, .ref m25, .int (nI c26), .int (nI c27), .int x28, .ref m29, .ref m30, .ref m31, .ref ua, .ref ub, .ref m34, .int x35, .ref m36, .int (nI c37)])), (m29, .inl (ktb, 480, .inl (nR tb8))), (m30, .inl (kch, 8, .inl (nR cq))), (m31, .inl (knx, 8, .inl (nR (updN nq2 t 2147483647)))), (ua, .inl (krw, 8, .inr (.inr (.inr (.inr fa))))), (ub, .inl (krw, 8, .inr (.inr (.inr (.inr fb)))))] L fq2) := by rw [← er_60]; exact hD
            refine lv_iconst (v := (-1)) hx hb dX8_parts_61 (by decide) ?_
            refine lv_istore (lv' := [(6, .int (-1)), (5, .int (nI ow)), (0, .ref h0), (1, .int p0), (2, .int p1), (3, .int (nI i)), (4, .int (nI t))]) hx hb dX8_parts_62 hl (by decide) rfl (fun ls hl => ?_)
            refine lv_iconst (v := 0) hx hb dX8_parts_64 (by decide) ?_
            refine lv_istore (lv' := [(7, .int 0), (6, .int (-1)), (5, .int (nI ow)), (0, .ref h0), (1, .int p0), (2, .int p1), (3, .int (nI i)), (4, .int (nI t))]) hx hb dX8_parts_65 hl (by decide) rfl (fun ls hl => ?_)
            obtain ⟨pq, e_pq⟩ : ∃ y : Nat, y = 0 := ⟨_, rfl⟩
            obtain ⟨x6, e_x6⟩ : ∃ y : Int32, y = (-1) := ⟨_, rfl⟩
            obtain ⟨nq3, e_nq3⟩ : ∃ y : Nat → Nat, y = updN nq2 t 2147483647 := ⟨_, rfl⟩
            replace hl : lv_has ls 9 [(0, .ref h0), (1, .int p0), (2, .int p1), (3, .int (nI i)), (4, .int (nI t)), (5, .int (nI ow)), (6, .int x6), (7, .int (nI pq))] := by (try rewrite [e_pq]); (try rewrite [e_x6]); (try rewrite [e_nq3]); exact lv_sub hl [3, 4, 5, 6, 7, 2, 1, 0] rfl
            replace hP : va_P (dC, dI) vwCl (vpl [(h0, .inr (8, [.int x0, .int x1, .ref m2, .int (nI c3), .ref m4, .ref m5, .ref m6, .ref m7, .ref m8, .ref m9, .ref m10, .ref m11, .int (nI c12), .int (nI c13), .int (nI c14), .ref m15, .ref m16, .ref m17, .ref m18, .ref m19, .int (nI c20), .int x21, .int (nI c22), .int (nI c23), .ref m24, .ref m25, .int (nI c26), .int (nI c27), .int x28, .ref m29, .ref m30, .ref m31, .ref ua, .ref ub, .ref m34, .int x35, .ref m36, .int (nI c37)])), (m29, .inl (ktb, 480, .inl (nR tb8))), (m30, .inl (kch, 8, .inl (nR cq))), (m31, .inl (knx, 8, .inl (nR nq3))), (ua, .inl (krw, 8, .inr (.inr (.inr (.inr fa))))), (ub, .inl (krw, 8, .inr (.inr (.inr (.inr fb)))))] L fq2) H := by (try rewrite [e_pq]); (try rewrite [e_x6]); (try rewrite [e_nq3]); exact hP
            replace hD : va_D A (vpl [(h0, .inr (8, [.int x0, .int x1, .ref m2, .int (nI c3), .ref m4, .ref m5, .ref m6, .ref m7, .ref m8, .ref m9, .ref m10, .ref m11, .int (nI c12), .int (nI c13), .int (nI c14), .ref m15, .ref m16, .ref m17, .ref m18, .ref m19, .int (nI c20), .int x21, .int (nI c22), .int (nI c23), .ref m24, .ref m25, .int (nI c26), .int (nI c27), .int x28, .ref m29, .ref m30, .ref m31, .ref ua, .ref ub, .ref m34, .int x35, .ref m36, .int (nI c37)])), (m29, .inl (ktb, 480, .inl (nR tb8))), (m30, .inl (kch, 8, .inl (nR cq))), (m31, .inl (knx, 8, .inl (nR nq3))), (ua, .inl (krw, 8, .inr (.inr (.inr (.inr fa))))), (ub, .inl (krw, 8, .inr (.inr (.inr (.inr fb)))))] L fq2) := by (try rewrite [e_pq]); (try rewrite [e_x6]); (try rewrite [e_nq3]); exact hD
            have hp1 : pq ≤ c14 := by (try rewrite [e_pq]); (try rewrite [e_x6]); (try rewrite [e_nq3]); omega
            have hnb3 : CHB nq3 t (4800 * (i + 1)) := by (try rewrite [e_pq]); (try rewrite [e_x6]); (try rewrite [e_nq3]); exact CHB_k hnb
            have hby : BYP x6 (nq3 t) c14 (4800 * (i + 1)) := by (try rewrite [e_pq]); (try rewrite [e_x6]); (try rewrite [e_nq3]); exact Or.inl ⟨rfl, updN_s⟩
            have hbi : BYI cq Q c22 i t ow pq x6 (nq3 t) := by (try rewrite [e_pq]); (try rewrite [e_x6]); (try rewrite [e_nq3]); rw [updN_s]; exact BYI_0
            have hq0 : i = 0 ∨ ow = 2147483647 → pq = 0 := by (try rewrite [e_pq]); (try rewrite [e_x6]); (try rewrite [e_nq3]); exact fun _ => rfl
            have hnu : ∀ u, u < t → nq3 u = nq2 u := by (try rewrite [e_pq]); (try rewrite [e_x6]); (try rewrite [e_nq3]); exact fun u hu => updN_n (by omega)
            clear e_pq e_x6 e_nq3
            obtain ⟨nn67, hnn67⟩ : ∃ q : Nat, c14 - pq < q := ⟨_, Nat.lt_succ_self _⟩
            induction nn67 generalizing pq x6 nq3 H locs ls with
            | zero => exact absurd hnn67 (Nat.not_lt_zero _)
            | succ nn67 ih67 =>
              refine lv_join (P := fun (xj : Unit) => pq = c14 ∨ i = 0 ∨ ow = 2147483647) (fr := fun (xj : Unit) => F0 m 197 ls []) (fun J197 => ?_) (fun xj hJ197 => ?_)
              · refine lv_iload hx hb dX8_parts_67 (lv_at hl 7 rfl) ?_
                refine lv_aload_n hx hb dX8_parts_69 rfl (lv_at hl 0 rfl) ?_
                refine va_get (D := (dC, dI)) (ci := 8) (v := .int (nI c14)) (C := RX8) (T := TX8) (N := 38) hx hb hts hi_X8 hown hK hP 0 rfl rfl 14 (by decide) k_f133 (fun _ h9 => h9) rfl dX8_parts_70 ?_
                refine lv_icmp_ge (tgt := 197) hx hb dX8_parts_73 (by decide) (fun c_73 => ?_) (fun c_73 => ?_)
                · have n_73 : c14 ≤ pq := (nI_leI (a := c14) (b := pq) (by omega) (by omega)).mp c_73
                  exact J197 () (Or.inl (by omega))
                · have n_73 : pq < c14 := Nat.not_le.mp (fun h9 => c_73 ((nI_leI (a := c14) (b := pq) (by omega) (by omega)).mpr h9))
                  refine lv_iload_n hx hb dX8_parts_76 rfl (lv_at hl 3 rfl) ?_
                  refine lv_if_le (tgt := 197) hx hb dX8_parts_77 (by decide) (fun c_77 => ?_) (fun c_77 => ?_)
                  · have n_77 : i ≤ 0 := (nI_leI (a := i) (b := 0) (by omega) (by omega)).mp c_77
                    exact J197 () (Or.inr (Or.inl (by omega)))
                  · have n_77 : 0 < i := Nat.not_le.mp (fun h9 => c_77 ((nI_leI (a := i) (b := 0) (by omega) (by omega)).mpr h9))
                    refine lv_iload hx hb dX8_parts_80 (lv_at hl 5 rfl) ?_
                    refine lv_ldc hx hb hown (hts (.constant RX8 191 (2147483647)) (by decide +kernel)) dX8_parts_82 ?_
                    refine lv_icmp_eq (tgt := 197) hx hb dX8_parts_84 (by decide) (fun c_84 => ?_) (fun c_84 => ?_)
                    · have n_84 : ow = 2147483647 := (nI_eq (a := ow) (b := 2147483647) (by omega) (by omega)).mp c_84
                      exact J197 () (Or.inr (Or.inr n_84))
                    · have n_84 : ow ≠ 2147483647 := fun h9 => c_84 ((nI_eq (a := ow) (b := 2147483647) (by omega) (by omega)).mpr h9)
                      have hcp := (hcb.resolve_left (by omega)) pq (by omega)
                      refine lv_aload_n hx hb dX8_parts_87 rfl (lv_at hl 0 rfl) ?_
                      refine va_get (D := (dC, dI)) (ci := 8) (v := .ref m30) (C := RX8) (T := TX8) (N := 38) hx hb hts hi_X8 hown hK hP 0 rfl rfl 30 (by decide) k_f74 (fun _ h9 => h9) rfl dX8_parts_88 ?_
                      refine lv_iload hx hb dX8_parts_91 (lv_at hl 7 rfl) ?_
                      refine va_iald hx hb hK hP 2 1 rfl rfl (i := nI pq) (vp_in_nI (by omega) (by omega)) dX8_parts_93 ?_
                      refine lv_topi (fun x_93 ex_93 => ?_)
                      obtain rfl : nI (cq pq) = x_93 := Eq.symm (ex_93.trans (nR_at (by omega)))
                      refine lv_ldc hx hb hown (hts (.constant RX8 191 (2147483647)) (by decide +kernel)) dX8_parts_94 ?_
                      refine lv_icmp_ne (tgt := 102) hx hb dX8_parts_96 (by decide) (fun c_96 => ?_) (fun c_96 => ?_)
                      · have n_96 : (cq pq) ≠ 2147483647 := fun h9 => c_96 ((nI_eq (a := (cq pq)) (b := 2147483647) (by omega) (by omega)).mpr h9)
                        refine lv_aload_n hx hb dX8_parts_102 rfl (lv_at hl 0 rfl) ?_
                        refine va_get (D := (dC, dI)) (ci := 8) (v := .ref m30) (C := RX8) (T := TX8) (N := 38) hx hb hts hi_X8 hown hK hP 0 rfl rfl 30 (by decide) k_f74 (fun _ h9 => h9) rfl dX8_parts_103 ?_
                        refine lv_iload hx hb dX8_parts_106 (lv_at hl 7 rfl) ?_
                        refine va_iald hx hb hK hP 2 1 rfl rfl (i := nI pq) (vp_in_nI (by omega) (by omega)) dX8_parts_108 ?_
                        refine lv_topi (fun x_108 ex_108 => ?_)
                        obtain rfl : nI (cq pq) = x_108 := Eq.symm (ex_108.trans (nR_at (by omega)))
                        refine lv_iload hx hb dX8_parts_109 (lv_at hl 5 rfl) ?_
                        refine lv_iadd hx hb dX8_parts_111 ?_
                        refine lv_topi (fun x_111 ex_111 => ?_)
                        obtain rfl : nI (cq pq + ow) = x_111 := Eq.symm (ex_111.trans (nI_add (cq pq) ow))
                        refine lv_join (P := fun (cv : Nat) => cv = cq pq + ow + chg c22 pq t ∧ cv ≤ 4800 * (i + 1)) (fr := fun (cv : Nat) => F0 m 128 ls [.int (nI cv)]) (fun J128 => ?_) (fun cv hcv => ?_)
                        · refine lv_iload hx hb dX8_parts_112 (lv_at hl 7 rfl) ?_
                          refine lv_iload hx hb dX8_parts_114 (lv_at hl 4 rfl) ?_
                          refine lv_icmp_ne (tgt := 123) hx hb dX8_parts_116 (by decide) (fun c_116 => ?_) (fun c_116 => ?_)
                          · have n_116 : pq ≠ t := fun h9 => c_116 ((nI_eq (a := pq) (b := t) (by omega) (by omega)).mpr h9)
                            refine lv_aload_n hx hb dX8_parts_123 rfl (lv_at hl 0 rfl) ?_
                            refine va_get (D := (dC, dI)) (ci := 8) (v := .int (nI c22)) (C := RX8) (T := TX8) (N := 38) hx hb hts hi_X8 hown hK hP 0 rfl rfl 22 (by decide) k_f58 (fun _ h9 => h9) rfl dX8_parts_124 ?_
                            refine lv_iadd hx hb dX8_parts_127 ?_
                            refine lv_topi (fun x_127 ex_127 => ?_)
                            obtain rfl : nI (cq pq + ow + c22) = x_127 := Eq.symm (ex_127.trans (nI_add (cq pq + ow) c22))
                            exact J128 (cq pq + ow + c22) (⟨by have hc9 := chg_n (ch := c22) n_116; omega, by omega⟩)
                          · have n_116 : pq = t := (nI_eq (a := pq) (b := t) (by omega) (by omega)).mp c_116
                            refine lv_iconst (v := 0) hx hb dX8_parts_119 (by decide) ?_
                            refine lv_goto (tgt := 127) hx hb dX8_parts_120 (by decide) ?_
                            refine lv_iadd hx hb dX8_parts_127 ?_
                            refine lv_topi (fun x_127 ex_127 => ?_)
                            obtain rfl : nI (cq pq + ow) = x_127 := Eq.symm (ex_127.trans (nI_add (cq pq + ow) 0))
                            exact J128 (cq pq + ow) (⟨by have hc9 := chg_y (ch := c22) n_116; omega, by omega⟩)
                        · skip
                          have hcv2 := hcv.2
                          refine lv_istore (lv' := [(8, .int (nI cv)), (0, .ref h0), (1, .int p0), (2, .int p1), (3, .int (nI i)), (4, .int (nI t)), (5, .int (nI ow)), (6, .int x6), (7, .int (nI pq))]) hx hb dX8_parts_128 hl (by decide) rfl (fun ls hl => ?_)
                          have hnt : nq3 t ≤ 2147483647 := by rcases hby with ⟨_, h9⟩ | ⟨_, _, _, h9⟩ <;> omega
                          refine lv_iload hx hb dX8_parts_130 (lv_at hl 0 rfl) ?_
                          refine lv_aload_n hx hb dX8_parts_132 rfl (lv_at hl 1 rfl) ?_
                          refine va_get (D := (dC, dI)) (ci := 8) (v := .ref m31) (C := RX8) (T := TX8) (N := 38) hx hb hts hi_X8 hown hK hP 0 rfl rfl 31 (by decide) k_f77 (fun _ h9 => h9) rfl dX8_parts_133 ?_
                          refine lv_iload hx hb dX8_parts_136 (lv_at hl 5 rfl) ?_
                          refine va_iald hx hb hK hP 3 2 rfl rfl (i := nI t) (vp_in_nI (by omega) (by omega)) dX8_parts_138 ?_
                          refine lv_topi (fun x_138 ex_138 => ?_)
                          obtain rfl : nI (nq3 t) = x_138 := Eq.symm (ex_138.trans (nR_at (by omega)))
                          refine lv_icmp_gt (tgt := 191) hx hb dX8_parts_139 (by decide) (fun c_139 => ?_) (fun c_139 => ?_)
                          · have n_139 : (nq3 t) < cv := (nI_ltI (a := (nq3 t)) (b := cv) (by omega) (by omega)).mp c_139
                            refine lv_iinc (v := nI (pq + 1)) (lv' := [(7, .int (nI (pq + 1))), (8, .int (nI cv)), (0, .ref h0), (1, .int p0), (2, .int p1), (3, .int (nI i)), (4, .int (nI t)), (5, .int (nI ow)), (6, .int x6)]) hx hb dX8_parts_191 hl (k := 8) rfl (nI_1 _) (by decide) rfl (fun ls hl => ?_)
                            refine lv_goto (tgt := 67) hx hb dX8_parts_194 (by decide) ?_
                            replace hl : lv_has ls 9 [(0, .ref h0), (1, .int p0), (2, .int p1), (3, .int (nI i)), (4, .int (nI t)), (5, .int (nI ow)), (6, .int x6), (7, .int (nI (pq + 1)))] := lv_sub hl [2, 3, 4, 5, 6, 7, 8, 0] rfl
                            replace hP : va_P (dC, dI) vwCl (vpl [(h0, .inr (8, [.int x0, .int x1, .ref m2, .int (nI c3), .ref m4, .ref m5, .ref m6, .ref m7, .ref m8, .ref m9, .ref m10, .ref m11, .int (nI c12), .int (nI c13), .int (nI c14), .ref m15, .ref m16, .ref m17, .ref m18, .ref m19, .int (nI c20), .int x21, .int (nI c22), .int (nI c23), .ref m24, .ref m25, .int (nI c26), .int (nI c27), .int x28, .ref m29, .ref m30, .ref m31, .ref ua, .ref ub, .ref m34, .int x35, .ref m36, .int (nI c37)])), (m29, .inl (ktb, 480, .inl (nR tb8))), (m30, .inl (kch, 8, .inl (nR cq))), (m31, .inl (knx, 8, .inl (nR nq3))), (ua, .inl (krw, 8, .inr (.inr (.inr (.inr fa))))), (ub, .inl (krw, 8, .inr (.inr (.inr (.inr fb)))))] L fq2) H := hP
                            replace hD : va_D A (vpl [(h0, .inr (8, [.int x0, .int x1, .ref m2, .int (nI c3), .ref m4, .ref m5, .ref m6, .ref m7, .ref m8, .ref m9, .ref m10, .ref m11, .int (nI c12), .int (nI c13), .int (nI c14), .ref m15, .ref m16, .ref m17, .ref m18, .ref m19, .int (nI c20), .int x21, .int (nI c22), .int (nI c23), .ref m24, .ref m25, .int (nI c26), .int (nI c27), .int x28, .ref m29, .ref m30, .ref m31, .ref ua, .ref ub, .ref m34, .int x35, .ref m36, .int (nI c37)])), (m29, .inl (ktb, 480, .inl (nR tb8))), (m30, .inl (kch, 8, .inl (nR cq))), (m31, .inl (knx, 8, .inl (nR nq3))), (ua, .inl (krw, 8, .inr (.inr (.inr (.inr fa))))), (ub, .inl (krw, 8, .inr (.inr (.inr (.inr fb)))))] L fq2) := hD
                            have hbi9 : BYI cq Q c22 i t ow (pq + 1) x6 (nq3 t) := BYI_k hbi (by omega) (Or.inl (by omega))
                            have hq09 : i = 0 ∨ ow = 2147483647 → (pq + 1) = 0 := (fun h9 => by omega)
                            apply ih67 (pq := pq + 1) (x6 := x6) (nq3 := nq3) <;> first | assumption | omega
                          · have n_139 : cv ≤ (nq3 t) := Nat.not_lt.mp (fun h9 => c_139 ((nI_ltI (a := (nq3 t)) (b := cv) (by omega) (by omega)).mpr h9))
                            refine lv_iload hx hb dX8_parts_142 (lv_at hl 0 rfl) ?_
                            refine lv_aload_n hx hb dX8_parts_144 rfl (lv_at hl 1 rfl) ?_
                            refine va_get (D := (dC, dI)) (ci := 8) (v := .ref m31) (C := RX8) (T := TX8) (N := 38) hx hb hts hi_X8 hown hK hP 0 rfl rfl 31 (by decide) k_f77 (fun _ h9 => h9) rfl dX8_parts_145 ?_
                            refine lv_iload hx hb dX8_parts_148 (lv_at hl 5 rfl) ?_
                            refine va_iald hx hb hK hP 3 2 rfl rfl (i := nI t) (vp_in_nI (by omega) (by omega)) dX8_parts_150 ?_
                            refine lv_topi (fun x_150 ex_150 => ?_)
                            obtain rfl : nI (nq3 t) = x_150 := Eq.symm (ex_150.trans (nR_at (by omega)))
                            refine lv_icmp_ne (tgt := 178) hx hb dX8_parts_151 (by decide) (fun c_151 => ?_) (fun c_151 => ?_)
                            · have n_151 : cv ≠ (nq3 t) := fun h9 => c_151 ((nI_eq (a := cv) (b := (nq3 t)) (by omega) (by omega)).mpr h9)
                              refine lv_aload_n hx hb dX8_parts_178 rfl (lv_at hl 1 rfl) ?_
                              refine va_get (D := (dC, dI)) (ci := 8) (v := .ref m31) (C := RX8) (T := TX8) (N := 38) hx hb hts hi_X8 hown hK hP 0 rfl rfl 31 (by decide) k_f77 (fun _ h9 => h9) rfl dX8_parts_179 ?_
                              refine lv_iload hx hb dX8_parts_182 (lv_at hl 5 rfl) ?_
                              refine lv_iload hx hb dX8_parts_184 (lv_at hl 0 rfl) ?_
                              refine va_iast hx hb hK hP hD hS 3 2 rfl rfl (i := nI t) (x := nI cv) (vp_in_nI (by omega) (by omega)) dX8_parts_186 (fun H locs hP hD hS => ?_)
                              have er_186 : upd (nR nq3) (nI t : Int32).toNatClampNeg (nI cv) = nR (updN nq3 t cv) := upd_nR (g := nq3) (i := t) (v := cv) (by omega)
                              replace hP : va_P (dC, dI) vwCl (vpl [(h0, .inr (8, [.int x0, .int x1, .ref m2, .int (nI c3), .ref m4, .ref m5, .ref m6, .ref m7, .ref m8, .ref m9, .ref m10, .ref m11, .int (nI c12), .int (nI c13), .int (nI c14), .ref m15, .ref m16, .ref m17, .ref m18, .ref m19, .int (nI c20), .int x21, .int (nI c22), .int (nI c23), .ref m24, .ref m25, .int (nI c26), .int (nI c27), .int x28, .ref m29, .ref m30, .ref m31, .ref ua, .ref ub, .ref m34, .int x35, .ref m36, .int (nI c37)])), (m29, .inl (ktb, 480, .inl (nR tb8))), (m30, .inl (kch, 8, .inl (nR cq))), (m31, .inl (knx, 8, .inl (nR (updN nq3 t cv)))), (ua, .inl (krw, 8, .inr (.inr (.inr (.inr fa))))), (ub, .inl (krw, 8, .inr (.inr (.inr (.inr fb)))))] L fq2) H := by rw [← er_186]; exact hP
                              replace hD : va_D A (vpl [(h0, .inr (8, [.int x0, .int x1, .ref m2, .int (nI c3), .ref m4, .ref m5, .ref m6, .ref m7, .ref m8, .ref m9, .ref m10, .ref m11, .int (nI c12), .int (nI c13), .int (nI c14), .ref m15, .ref m16, .ref m17, .ref m18, .ref m19, .int (nI c20), .int x21, .int (nI c22), .int (nI c23), .ref m24, .ref m25, .int (nI c26), .int (nI c27), .int x28, .ref m29, .ref m30, .ref m31, .ref ua, .ref ub, .ref m34, .int x35, .ref m36, .int (nI c37)])), (m29, .inl (ktb, 480, .inl (nR tb8))), (m30, .inl (kch, 8, .inl (nR cq))), (m31, .inl (knx, 8, .inl (nR (updN nq3 t cv)))), (ua, .inl (krw, 8, .inr (.inr (.inr (.inr fa))))), (ub, .inl (krw, 8, .inr (.inr (.inr (.inr fb)))))] L fq2) := by rw [← er_186]; exact hD
                              refine lv_iload hx hb dX8_parts_187 (lv_at hl 8 rfl) ?_
                              refine lv_istore (lv' := [(6, .int (nI pq)), (8, .int (nI cv)), (0, .ref h0), (1, .int p0), (2, .int p1), (3, .int (nI i)), (4, .int (nI t)), (5, .int (nI ow)), (7, .int (nI pq))]) hx hb dX8_parts_189 hl (by decide) rfl (fun ls hl => ?_)
                              refine lv_iinc (v := nI (pq + 1)) (lv' := [(7, .int (nI (pq + 1))), (6, .int (nI pq)), (8, .int (nI cv)), (0, .ref h0), (1, .int p0), (2, .int p1), (3, .int (nI i)), (4, .int (nI t)), (5, .int (nI ow))]) hx hb dX8_parts_191 hl (k := 8) rfl (nI_1 _) (by decide) rfl (fun ls hl => ?_)
                              refine lv_goto (tgt := 67) hx hb dX8_parts_194 (by decide) ?_
                              replace hl : lv_has ls 9 [(0, .ref h0), (1, .int p0), (2, .int p1), (3, .int (nI i)), (4, .int (nI t)), (5, .int (nI ow)), (6, .int (nI pq)), (7, .int (nI (pq + 1)))] := lv_sub hl [3, 4, 5, 6, 7, 8, 1, 0] rfl
                              replace hP : va_P (dC, dI) vwCl (vpl [(h0, .inr (8, [.int x0, .int x1, .ref m2, .int (nI c3), .ref m4, .ref m5, .ref m6, .ref m7, .ref m8, .ref m9, .ref m10, .ref m11, .int (nI c12), .int (nI c13), .int (nI c14), .ref m15, .ref m16, .ref m17, .ref m18, .ref m19, .int (nI c20), .int x21, .int (nI c22), .int (nI c23), .ref m24, .ref m25, .int (nI c26), .int (nI c27), .int x28, .ref m29, .ref m30, .ref m31, .ref ua, .ref ub, .ref m34, .int x35, .ref m36, .int (nI c37)])), (m29, .inl (ktb, 480, .inl (nR tb8))), (m30, .inl (kch, 8, .inl (nR cq))), (m31, .inl (knx, 8, .inl (nR (updN nq3 t cv)))), (ua, .inl (krw, 8, .inr (.inr (.inr (.inr fa))))), (ub, .inl (krw, 8, .inr (.inr (.inr (.inr fb)))))] L fq2) H := hP
                              replace hD : va_D A (vpl [(h0, .inr (8, [.int x0, .int x1, .ref m2, .int (nI c3), .ref m4, .ref m5, .ref m6, .ref m7, .ref m8, .ref m9, .ref m10, .ref m11, .int (nI c12), .int (nI c13), .int (nI c14), .ref m15, .ref m16, .ref m17, .ref m18, .ref m19, .int (nI c20), .int x21, .int (nI c22), .int (nI c23), .ref m24, .ref m25, .int (nI c26), .int (nI c27), .int x28, .ref m29, .ref m30, .ref m31, .ref ua, .ref ub, .ref m34, .int x35, .ref m36, .int (nI c37)])), (m29, .inl (ktb, 480, .inl (nR tb8))), (m30, .inl (kch, 8, .inl (nR cq))), (m31, .inl (knx, 8, .inl (nR (updN nq3 t cv)))), (ua, .inl (krw, 8, .inr (.inr (.inr (.inr fa))))), (ub, .inl (krw, 8, .inr (.inr (.inr (.inr fb)))))] L fq2) := hD
                              have hnb39 : CHB (updN nq3 t cv) t (4800 * (i + 1)) := CHB_k hnb3
                              have hby9 : BYP (nI pq) ((updN nq3 t cv) t) c14 (4800 * (i + 1)) := Or.inr ⟨pq, by omega, rfl, by rw [updN_s]; omega⟩
                              have hbi9 : BYI cq Q c22 i t ow (pq + 1) (nI pq) ((updN nq3 t cv) t) := (by rw [updN_s]; exact BYI_u hbi n_96 hcv.1 (Or.inl (by omega)))
                              have hq09 : i = 0 ∨ ow = 2147483647 → (pq + 1) = 0 := (fun h9 => by omega)
                              have hnu9 : ∀ u, u < t → (updN nq3 t cv) u = nq2 u := (fun u hu => (updN_n (by omega)).trans (hnu u hu))
                              apply ih67 (pq := pq + 1) (x6 := nI pq) (nq3 := updN nq3 t cv) <;> first | assumption | omega
                            · have n_151 : cv = (nq3 t) := (nI_eq (a := cv) (b := (nq3 t)) (by omega) (by omega)).mp c_151
                              obtain ⟨j6, hj6, ej6, hn6⟩ := Or.resolve_left hby (fun h9 => by have := h9.2; omega)
                              subst ej6
                              refine lv_aload_n hx hb dX8_parts_154 rfl (lv_at hl 1 rfl) ?_
                              refine va_get (D := (dC, dI)) (ci := 8) (v := .ref ua) (C := RX8) (T := TX8) (N := 38) hx hb hts hi_X8 hown hK hP 0 rfl rfl 32 (by decide) k_f82 (fun _ h9 => h9) rfl dX8_parts_155 ?_
                              refine lv_iload hx hb dX8_parts_158 (lv_at hl 8 rfl) ?_
                              refine va_ald2 hx hb hK hP 4 3 rfl rfl (i := nI pq) (vp_in_nI (by omega) (by omega)) dX8_parts_160 ?_
                              obtain ⟨a_160, ha_160, hf_160⟩ := hRa pq (by omega)
                              rw [show (fa (nI pq).toNatClampNeg) = some a_160 from by rw [nI_clamp (by omega)]; exact hf_160]
                              obtain ⟨hm_160, h_160, hh_160⟩ := hRW a_160 ha_160
                              have hx_160 := pl_one hP hm_160 hh_160
                              refine lv_aload_n hx hb dX8_parts_161 rfl (lv_at hl 1 rfl) ?_
                              refine va_get (D := (dC, dI)) (ci := 8) (v := .ref ua) (C := RX8) (T := TX8) (N := 38) hx hb hts hi_X8 hown hK hP 0 rfl rfl 32 (by decide) k_f82 (fun _ h9 => h9) rfl dX8_parts_162 ?_
                              refine lv_iload hx hb dX8_parts_165 (lv_at hl 7 rfl) ?_
                              refine va_ald2 hx hb hK hP 4 3 rfl rfl (i := nI j6) (vp_in_nI (by omega) (by omega)) dX8_parts_167 ?_
                              obtain ⟨a_167, ha_167, hf_167⟩ := hRa j6 (by omega)
                              rw [show (fa (nI j6).toNatClampNeg) = some a_167 from by rw [nI_clamp (by omega)]; exact hf_167]
                              obtain ⟨hm_167, h_167, hh_167⟩ := hRW a_167 ha_167
                              have hx_167 := pl_one hP hm_167 hh_167
                              refine lv_iload_n hx hb dX8_parts_168 rfl (lv_at hl 4 rfl) ?_
                              have hPc : va_P (dC, dI) vwCl [(a_160, .inl (krb, 60, .inl h_160)), (a_167, .inl (krb, 60, .inl h_167))] H := va_P.app (hx_160) hx_167
                              have hKc := hK.sub (tys' := [(krb, .byte), (krb, .byte)]) [4, 4] rfl
                              refine vp_callSi (W.runS (As := [.ref a_160, .ref a_167, .int (nI i)]) (rest := []) ⟨hx, hb, hml, hown, hts⟩ (g_X8_isAhead l dC dI a_160 a_167 i krb krb h_160 h_167 (by omega)) (va_cwS 3 hts gX8_parts_X8_isAhead rfl rfl rfl (by decide +kernel) ⟨Nat.le_of_ble_eq_true rfl, Nat.le_of_ble_eq_true rfl⟩) ⟨fun a U g mk q => by obtain ⟨q0, qP, qK⟩ := q; exact ⟨q0, qP, va_K.moved (u := U) (U := U.calling g mk a) (Vm.Alike.refl U.vm) qK⟩, fun U hU hW => ⟨rfl, by rw [hU]; exact hPc, va_K.moved hW.alike hKc⟩⟩ rfl rfl hl.1 rfl (lv_room (Nat.le_of_ble_eq_true rfl)) dX8_parts_169 ⟨Nat.le_of_ble_eq_true rfl, Nat.le_of_ble_eq_true rfl⟩) (fun r_169 hw_169 => ?_)
                              clear hPc
                              rcases hw_169 with ⟨hr_169, hb_169⟩ | ⟨hr_169, hb_169⟩
                              · subst hr_169
                                have hgj := BYI_g hbi (by omega) (by omega)
                                have hg160 := RWV_g ((hO.resolve_left (by omega)) pq (by omega) n_96) hf_160 hh_160
                                have hg167 := RWV_g ((hO.resolve_left (by omega)) j6 (by omega) hgj.2) hf_167 hh_167
                                refine lv_if_ne (tgt := 178) hx hb dX8_parts_172 (by decide) (fun c_172 => ?_) (fun c_172 => ?_)
                                rotate_left
                                · exact absurd c_172 (by decide)
                                refine lv_aload_n hx hb dX8_parts_178 rfl (lv_at hl 1 rfl) ?_
                                refine va_get (D := (dC, dI)) (ci := 8) (v := .ref m31) (C := RX8) (T := TX8) (N := 38) hx hb hts hi_X8 hown hK hP 0 rfl rfl 31 (by decide) k_f77 (fun _ h9 => h9) rfl dX8_parts_179 ?_
                                refine lv_iload hx hb dX8_parts_182 (lv_at hl 5 rfl) ?_
                                refine lv_iload hx hb dX8_parts_184 (lv_at hl 0 rfl) ?_
                                refine va_iast hx hb hK hP hD hS 3 2 rfl rfl (i := nI t) (x := nI cv) (vp_in_nI (by omega) (by omega)) dX8_parts_186 (fun H locs hP hD hS => ?_)
                                have er_186 : upd (nR nq3) (nI t : Int32).toNatClampNeg (nI cv) = nR (updN nq3 t cv) := upd_nR (g := nq3) (i := t) (v := cv) (by omega)
                                replace hP : va_P (dC, dI) vwCl (vpl [(h0, .inr (8, [.int x0, .int x1, .ref m2, .int (nI c3), .ref m4, .ref m5, .ref m6, .ref m7, .ref m8, .ref m9, .ref m10, .ref m11, .int (nI c12), .int (nI c13), .int (nI c14), .ref m15, .ref m16, .ref m17, .ref m18, .ref m19, .int (nI c20), .int x21, .int (nI c22), .int (nI c23), .ref m24, .ref m25, .int (nI c26), .int (nI c27), .int x28, .ref m29, .ref m30, .ref m31, .ref ua, .ref ub, .ref m34, .int x35, .ref m36, .int (nI c37)])), (m29, .inl (ktb, 480, .inl (nR tb8))), (m30, .inl (kch, 8, .inl (nR cq))), (m31, .inl (knx, 8, .inl (nR (updN nq3 t cv)))), (ua, .inl (krw, 8, .inr (.inr (.inr (.inr fa))))), (ub, .inl (krw, 8, .inr (.inr (.inr (.inr fb)))))] L fq2) H := by rw [← er_186]; exact hP
                                replace hD : va_D A (vpl [(h0, .inr (8, [.int x0, .int x1, .ref m2, .int (nI c3), .ref m4, .ref m5, .ref m6, .ref m7, .ref m8, .ref m9, .ref m10, .ref m11, .int (nI c12), .int (nI c13), .int (nI c14), .ref m15, .ref m16, .ref m17, .ref m18, .ref m19, .int (nI c20), .int x21, .int (nI c22), .int (nI c23), .ref m24, .ref m25, .int (nI c26), .int (nI c27), .int x28, .ref m29, .ref m30, .ref m31, .ref ua, .ref ub, .ref m34, .int x35, .ref m36, .int (nI c37)])), (m29, .inl (ktb, 480, .inl (nR tb8))), (m30, .inl (kch, 8, .inl (nR cq))), (m31, .inl (knx, 8, .inl (nR (updN nq3 t cv)))), (ua, .inl (krw, 8, .inr (.inr (.inr (.inr fa))))), (ub, .inl (krw, 8, .inr (.inr (.inr (.inr fb)))))] L fq2) := by rw [← er_186]; exact hD
                                refine lv_iload hx hb dX8_parts_187 (lv_at hl 8 rfl) ?_
                                refine lv_istore (lv' := [(6, .int (nI pq)), (8, .int (nI cv)), (0, .ref h0), (1, .int p0), (2, .int p1), (3, .int (nI i)), (4, .int (nI t)), (5, .int (nI ow)), (7, .int (nI pq))]) hx hb dX8_parts_189 hl (by decide) rfl (fun ls hl => ?_)
                                refine lv_iinc (v := nI (pq + 1)) (lv' := [(7, .int (nI (pq + 1))), (6, .int (nI pq)), (8, .int (nI cv)), (0, .ref h0), (1, .int p0), (2, .int p1), (3, .int (nI i)), (4, .int (nI t)), (5, .int (nI ow))]) hx hb dX8_parts_191 hl (k := 8) rfl (nI_1 _) (by decide) rfl (fun ls hl => ?_)
                                refine lv_goto (tgt := 67) hx hb dX8_parts_194 (by decide) ?_
                                replace hl : lv_has ls 9 [(0, .ref h0), (1, .int p0), (2, .int p1), (3, .int (nI i)), (4, .int (nI t)), (5, .int (nI ow)), (6, .int (nI pq)), (7, .int (nI (pq + 1)))] := lv_sub hl [3, 4, 5, 6, 7, 8, 1, 0] rfl
                                replace hP : va_P (dC, dI) vwCl (vpl [(h0, .inr (8, [.int x0, .int x1, .ref m2, .int (nI c3), .ref m4, .ref m5, .ref m6, .ref m7, .ref m8, .ref m9, .ref m10, .ref m11, .int (nI c12), .int (nI c13), .int (nI c14), .ref m15, .ref m16, .ref m17, .ref m18, .ref m19, .int (nI c20), .int x21, .int (nI c22), .int (nI c23), .ref m24, .ref m25, .int (nI c26), .int (nI c27), .int x28, .ref m29, .ref m30, .ref m31, .ref ua, .ref ub, .ref m34, .int x35, .ref m36, .int (nI c37)])), (m29, .inl (ktb, 480, .inl (nR tb8))), (m30, .inl (kch, 8, .inl (nR cq))), (m31, .inl (knx, 8, .inl (nR (updN nq3 t cv)))), (ua, .inl (krw, 8, .inr (.inr (.inr (.inr fa))))), (ub, .inl (krw, 8, .inr (.inr (.inr (.inr fb)))))] L fq2) H := hP
                                replace hD : va_D A (vpl [(h0, .inr (8, [.int x0, .int x1, .ref m2, .int (nI c3), .ref m4, .ref m5, .ref m6, .ref m7, .ref m8, .ref m9, .ref m10, .ref m11, .int (nI c12), .int (nI c13), .int (nI c14), .ref m15, .ref m16, .ref m17, .ref m18, .ref m19, .int (nI c20), .int x21, .int (nI c22), .int (nI c23), .ref m24, .ref m25, .int (nI c26), .int (nI c27), .int x28, .ref m29, .ref m30, .ref m31, .ref ua, .ref ub, .ref m34, .int x35, .ref m36, .int (nI c37)])), (m29, .inl (ktb, 480, .inl (nR tb8))), (m30, .inl (kch, 8, .inl (nR cq))), (m31, .inl (knx, 8, .inl (nR (updN nq3 t cv)))), (ua, .inl (krw, 8, .inr (.inr (.inr (.inr fa))))), (ub, .inl (krw, 8, .inr (.inr (.inr (.inr fb)))))] L fq2) := hD
                                have hnb39 : CHB (updN nq3 t cv) t (4800 * (i + 1)) := CHB_k hnb3
                                have hby9 : BYP (nI pq) ((updN nq3 t cv) t) c14 (4800 * (i + 1)) := Or.inr ⟨pq, by omega, rfl, by rw [updN_s]; omega⟩
                                have hbi9 : BYI cq Q c22 i t ow (pq + 1) (nI pq) ((updN nq3 t cv) t) := (by rw [updN_s]; exact BYI_u hbi n_96 hcv.1 (Or.inr ⟨by omega, (fun j ej hj9 => by have e9 := (nI_eq (a := j6) (b := j) (by omega) (by omega)).mp ej; subst e9; exact ahd_y hg160 hg167 hb_169)⟩))
                                have hq09 : i = 0 ∨ ow = 2147483647 → (pq + 1) = 0 := (fun h9 => by omega)
                                have hnu9 : ∀ u, u < t → (updN nq3 t cv) u = nq2 u := (fun u hu => (updN_n (by omega)).trans (hnu u hu))
                                apply ih67 (pq := pq + 1) (x6 := nI pq) (nq3 := updN nq3 t cv) <;> first | assumption | omega
                              · subst hr_169
                                have hgj := BYI_g hbi (by omega) (by omega)
                                have hg160 := RWV_g ((hO.resolve_left (by omega)) pq (by omega) n_96) hf_160 hh_160
                                have hg167 := RWV_g ((hO.resolve_left (by omega)) j6 (by omega) hgj.2) hf_167 hh_167
                                refine lv_if_ne (tgt := 178) hx hb dX8_parts_172 (by decide) (fun c_172 => ?_) (fun c_172 => ?_)
                                · exact absurd (by decide) c_172
                                refine lv_goto (tgt := 191) hx hb dX8_parts_175 (by decide) ?_
                                refine lv_iinc (v := nI (pq + 1)) (lv' := [(7, .int (nI (pq + 1))), (8, .int (nI cv)), (0, .ref h0), (1, .int p0), (2, .int p1), (3, .int (nI i)), (4, .int (nI t)), (5, .int (nI ow)), (6, .int (nI j6))]) hx hb dX8_parts_191 hl (k := 8) rfl (nI_1 _) (by decide) rfl (fun ls hl => ?_)
                                refine lv_goto (tgt := 67) hx hb dX8_parts_194 (by decide) ?_
                                replace hl : lv_has ls 9 [(0, .ref h0), (1, .int p0), (2, .int p1), (3, .int (nI i)), (4, .int (nI t)), (5, .int (nI ow)), (6, .int (nI j6)), (7, .int (nI (pq + 1)))] := lv_sub hl [2, 3, 4, 5, 6, 7, 8, 0] rfl
                                replace hP : va_P (dC, dI) vwCl (vpl [(h0, .inr (8, [.int x0, .int x1, .ref m2, .int (nI c3), .ref m4, .ref m5, .ref m6, .ref m7, .ref m8, .ref m9, .ref m10, .ref m11, .int (nI c12), .int (nI c13), .int (nI c14), .ref m15, .ref m16, .ref m17, .ref m18, .ref m19, .int (nI c20), .int x21, .int (nI c22), .int (nI c23), .ref m24, .ref m25, .int (nI c26), .int (nI c27), .int x28, .ref m29, .ref m30, .ref m31, .ref ua, .ref ub, .ref m34, .int x35, .ref m36, .int (nI c37)])), (m29, .inl (ktb, 480, .inl (nR tb8))), (m30, .inl (kch, 8, .inl (nR cq))), (m31, .inl (knx, 8, .inl (nR nq3))), (ua, .inl (krw, 8, .inr (.inr (.inr (.inr fa))))), (ub, .inl (krw, 8, .inr (.inr (.inr (.inr fb)))))] L fq2) H := hP
                                replace hD : va_D A (vpl [(h0, .inr (8, [.int x0, .int x1, .ref m2, .int (nI c3), .ref m4, .ref m5, .ref m6, .ref m7, .ref m8, .ref m9, .ref m10, .ref m11, .int (nI c12), .int (nI c13), .int (nI c14), .ref m15, .ref m16, .ref m17, .ref m18, .ref m19, .int (nI c20), .int x21, .int (nI c22), .int (nI c23), .ref m24, .ref m25, .int (nI c26), .int (nI c27), .int x28, .ref m29, .ref m30, .ref m31, .ref ua, .ref ub, .ref m34, .int x35, .ref m36, .int (nI c37)])), (m29, .inl (ktb, 480, .inl (nR tb8))), (m30, .inl (kch, 8, .inl (nR cq))), (m31, .inl (knx, 8, .inl (nR nq3))), (ua, .inl (krw, 8, .inr (.inr (.inr (.inr fa))))), (ub, .inl (krw, 8, .inr (.inr (.inr (.inr fb)))))] L fq2) := hD
                                have hby9 : BYP (nI j6) (nq3 t) c14 (4800 * (i + 1)) := Or.inr ⟨j6, hj6, rfl, hn6⟩
                                have hbi9 : BYI cq Q c22 i t ow (pq + 1) (nI j6) (nq3 t) := BYI_k hbi (by omega) (Or.inr ⟨by omega, (fun j ej hj9 => by have e9 := (nI_eq (a := j6) (b := j) (by omega) (by omega)).mp ej; subst e9; exact ahd_n hg160 hg167 hb_169)⟩)
                                have hq09 : i = 0 ∨ ow = 2147483647 → (pq + 1) = 0 := (fun h9 => by omega)
                                apply ih67 (pq := pq + 1) (x6 := nI j6) (nq3 := nq3) <;> first | assumption | omega
                      · have n_96 : (cq pq) = 2147483647 := (nI_eq (a := (cq pq)) (b := 2147483647) (by omega) (by omega)).mp c_96
                        refine lv_goto (tgt := 191) hx hb dX8_parts_99 (by decide) ?_
                        refine lv_iinc (v := nI (pq + 1)) (lv' := [(7, .int (nI (pq + 1))), (0, .ref h0), (1, .int p0), (2, .int p1), (3, .int (nI i)), (4, .int (nI t)), (5, .int (nI ow)), (6, .int x6)]) hx hb dX8_parts_191 hl (k := 7) rfl (nI_1 _) (by decide) rfl (fun ls hl => ?_)
                        refine lv_goto (tgt := 67) hx hb dX8_parts_194 (by decide) ?_
                        replace hl : lv_has ls 9 [(0, .ref h0), (1, .int p0), (2, .int p1), (3, .int (nI i)), (4, .int (nI t)), (5, .int (nI ow)), (6, .int x6), (7, .int (nI (pq + 1)))] := lv_sub hl [1, 2, 3, 4, 5, 6, 7, 0] rfl
                        replace hP : va_P (dC, dI) vwCl (vpl [(h0, .inr (8, [.int x0, .int x1, .ref m2, .int (nI c3), .ref m4, .ref m5, .ref m6, .ref m7, .ref m8, .ref m9, .ref m10, .ref m11, .int (nI c12), .int (nI c13), .int (nI c14), .ref m15, .ref m16, .ref m17, .ref m18, .ref m19, .int (nI c20), .int x21, .int (nI c22), .int (nI c23), .ref m24, .ref m25, .int (nI c26), .int (nI c27), .int x28, .ref m29, .ref m30, .ref m31, .ref ua, .ref ub, .ref m34, .int x35, .ref m36, .int (nI c37)])), (m29, .inl (ktb, 480, .inl (nR tb8))), (m30, .inl (kch, 8, .inl (nR cq))), (m31, .inl (knx, 8, .inl (nR nq3))), (ua, .inl (krw, 8, .inr (.inr (.inr (.inr fa))))), (ub, .inl (krw, 8, .inr (.inr (.inr (.inr fb)))))] L fq2) H := hP
                        replace hD : va_D A (vpl [(h0, .inr (8, [.int x0, .int x1, .ref m2, .int (nI c3), .ref m4, .ref m5, .ref m6, .ref m7, .ref m8, .ref m9, .ref m10, .ref m11, .int (nI c12), .int (nI c13), .int (nI c14), .ref m15, .ref m16, .ref m17, .ref m18, .ref m19, .int (nI c20), .int x21, .int (nI c22), .int (nI c23), .ref m24, .ref m25, .int (nI c26), .int (nI c27), .int x28, .ref m29, .ref m30, .ref m31, .ref ua, .ref ub, .ref m34, .int x35, .ref m36, .int (nI c37)])), (m29, .inl (ktb, 480, .inl (nR tb8))), (m30, .inl (kch, 8, .inl (nR cq))), (m31, .inl (knx, 8, .inl (nR nq3))), (ua, .inl (krw, 8, .inr (.inr (.inr (.inr fa))))), (ub, .inl (krw, 8, .inr (.inr (.inr (.inr fb)))))] L fq2) := hD
                        have hbi9 : BYI cq Q c22 i t ow (pq + 1) x6 (nq3 t) := BYI_f hbi n_96
                        have hq09 : i = 0 ∨ ow = 2147483647 → (pq + 1) = 0 := (fun h9 => by omega)
                        apply ih67 (pq := pq + 1) (x6 := x6) (nq3 := nq3) <;> first | assumption | omega
              · skip
                refine lv_iload_n hx hb dX8_parts_197 rfl (lv_at hl 3 rfl) ?_
                refine lv_if_ne (tgt := 210) hx hb dX8_parts_198 (by decide) (fun c_198 => ?_) (fun c_198 => ?_)
                · have n_198 : i ≠ 0 := fun h9 => c_198 ((nI_eq (a := i) (b := 0) (by omega) (by omega)).mpr h9)
                  have hnb5 : CHB nq3 (t + 1) (4800 * (i + 1)) := CHB_1 hnb3 (by rcases hby with ⟨_, h9⟩ | ⟨_, _, _, h9⟩; exact Or.inl h9; exact Or.inr h9)
                  obtain ⟨jx, hjx, hxj, hMR⟩ := MR_all (c := (cs8 tb8)) (g := nq3 t) (hQ.imp id (fun h p hp => (h p hp).1)) (by omega) (show t < c14 by omega) how hch hbi hq0 hJ197 (Or.inr ⟨by omega, rfl⟩)
                  have hgu : ∀ u, u < t → nq3 u = nq2 u := fun u hu => hnu u hu
                  refine lv_iconst (v := 0) hx hb dX8_parts_210 (by decide) ?_
                  refine lv_istore (lv' := [(7, .int 0), (0, .ref h0), (1, .int p0), (2, .int p1), (3, .int (nI i)), (4, .int (nI t)), (5, .int (nI ow)), (6, .int x6)]) hx hb dX8_parts_211 hl (by decide) rfl (fun ls hl => ?_)
                  obtain ⟨k, e_k⟩ : ∃ y : Nat, y = 0 := ⟨_, rfl⟩
                  obtain ⟨fq5, e_fq5⟩ : ∃ y : Nat → va_E, y = fq2 := ⟨_, rfl⟩
                  replace hl : lv_has ls 9 [(0, .ref h0), (1, .int p0), (2, .int p1), (3, .int (nI i)), (4, .int (nI t)), (5, .int (nI ow)), (6, .int x6), (7, .int (nI k))] := by (try rewrite [e_k]); (try rewrite [e_fq5]); exact lv_sub hl [1, 2, 3, 4, 5, 6, 7, 0] rfl
                  replace hP : va_P (dC, dI) vwCl (vpl [(h0, .inr (8, [.int x0, .int x1, .ref m2, .int (nI c3), .ref m4, .ref m5, .ref m6, .ref m7, .ref m8, .ref m9, .ref m10, .ref m11, .int (nI c12), .int (nI c13), .int (nI c14), .ref m15, .ref m16, .ref m17, .ref m18, .ref m19, .int (nI c20), .int x21, .int (nI c22), .int (nI c23), .ref m24, .ref m25, .int (nI c26), .int (nI c27), .int x28, .ref m29, .ref m30, .ref m31, .ref ua, .ref ub, .ref m34, .int x35, .ref m36, .int (nI c37)])), (m29, .inl (ktb, 480, .inl (nR tb8))), (m30, .inl (kch, 8, .inl (nR cq))), (m31, .inl (knx, 8, .inl (nR nq3))), (ua, .inl (krw, 8, .inr (.inr (.inr (.inr fa))))), (ub, .inl (krw, 8, .inr (.inr (.inr (.inr fb)))))] L fq5) H := by (try rewrite [e_k]); (try rewrite [e_fq5]); exact hP
                  replace hD : va_D A (vpl [(h0, .inr (8, [.int x0, .int x1, .ref m2, .int (nI c3), .ref m4, .ref m5, .ref m6, .ref m7, .ref m8, .ref m9, .ref m10, .ref m11, .int (nI c12), .int (nI c13), .int (nI c14), .ref m15, .ref m16, .ref m17, .ref m18, .ref m19, .int (nI c20), .int x21, .int (nI c22), .int (nI c23), .ref m24, .ref m25, .int (nI c26), .int (nI c27), .int x28, .ref m29, .ref m30, .ref m31, .ref ua, .ref ub, .ref m34, .int x35, .ref m36, .int (nI c37)])), (m29, .inl (ktb, 480, .inl (nR tb8))), (m30, .inl (kch, 8, .inl (nR cq))), (m31, .inl (knx, 8, .inl (nR nq3))), (ua, .inl (krw, 8, .inr (.inr (.inr (.inr fa))))), (ub, .inl (krw, 8, .inr (.inr (.inr (.inr fb)))))] L fq5) := by (try rewrite [e_k]); (try rewrite [e_fq5]); exact hD
                  have hk1 : k ≤ i := by (try rewrite [e_k]); (try rewrite [e_fq5]); omega
                  have hRW : ROWS L fq5 krb Rs := by (try rewrite [e_k]); (try rewrite [e_fq5]); exact hRW
                  have hFR : FRM fp fq5 Rs := by (try rewrite [e_k]); (try rewrite [e_fq5]); exact hFR
                  have hOl : i = 0 ∨ ∀ p, p < c14 → ¬ cq p = 2147483647 → RWV fq5 krb fa (Q p) i p := by (try rewrite [e_k]); (try rewrite [e_fq5]); exact hO
                  have hNl : ∀ u, u < t → ¬ nq2 u = 2147483647 → RWV fq5 krb fb (Q2 u) (i + 1) u := by (try rewrite [e_k]); (try rewrite [e_fq5]); exact fun u hu => (hN u hu).2
                  have hCp : RWV fq5 krb fb (Q jx) k t := by (try rewrite [e_k]); (try rewrite [e_fq5]); rw [← e_fq5]; exact RWV_0 hRW hRb (by omega)
                  clear e_k e_fq5
                  obtain ⟨nn213, hnn213⟩ : ∃ q : Nat, i - k < q := ⟨_, Nat.lt_succ_self _⟩
                  induction nn213 generalizing k fq5 H locs ls with
                  | zero => exact absurd hnn213 (Nat.not_lt_zero _)
                  | succ nn213 ih213 =>
                    refine lv_join (P := fun (xj : Unit) => k = i ∨ x6 = (-1)) (fr := fun (xj : Unit) => F0 m 251 ls []) (fun J251 => ?_) (fun xj hJ251 => ?_)
                    · refine lv_iload hx hb dX8_parts_213 (lv_at hl 7 rfl) ?_
                      refine lv_iload_n hx hb dX8_parts_215 rfl (lv_at hl 3 rfl) ?_
                      refine lv_icmp_ge (tgt := 251) hx hb dX8_parts_216 (by decide) (fun c_216 => ?_) (fun c_216 => ?_)
                      · have n_216 : i ≤ k := (nI_leI (a := i) (b := k) (by omega) (by omega)).mp c_216
                        exact J251 () (Or.inl (by omega))
                      · have n_216 : k < i := Nat.not_le.mp (fun h9 => c_216 ((nI_leI (a := i) (b := k) (by omega) (by omega)).mpr h9))
                        refine lv_iload hx hb dX8_parts_219 (lv_at hl 6 rfl) ?_
                        refine lv_iconst (v := (-1)) hx hb dX8_parts_221 (by decide) ?_
                        refine lv_icmp_eq (tgt := 251) hx hb dX8_parts_222 (by decide) (fun c_222 => ?_) (fun c_222 => ?_)
                        · exact J251 () (Or.inr c_222)
                        · obtain ⟨j6, hj6, ej6, -⟩ := Or.resolve_left hby (fun h9 => c_222 h9.1)
                          subst ej6
                          have hjj : j6 = jx ∧ ¬ cq jx = 2147483647 ∧ ¬ i = 0 := by rcases hxj with ⟨h9, h8, h7⟩ | ⟨h9, _⟩; exact ⟨(nI_eq (by omega) (by omega)).mp h9, h7, h8⟩; exact absurd h9 (nI_nm1 (by omega))
                          refine lv_aload_n hx hb dX8_parts_225 rfl (lv_at hl 0 rfl) ?_
                          refine va_get (D := (dC, dI)) (ci := 8) (v := .ref ub) (C := RX8) (T := TX8) (N := 38) hx hb hts hi_X8 hown hK hP 0 rfl rfl 33 (by decide) k_f85 (fun _ h9 => h9) rfl dX8_parts_226 ?_
                          refine lv_iload hx hb dX8_parts_229 (lv_at hl 4 rfl) ?_
                          refine va_ald2 hx hb hK hP 5 3 rfl rfl (i := nI t) (vp_in_nI (by omega) (by omega)) dX8_parts_231 ?_
                          obtain ⟨a_231, ha_231, hf_231⟩ := hRb t (by omega)
                          rw [show (fb (nI t).toNatClampNeg) = some a_231 from by rw [nI_clamp (by omega)]; exact hf_231]
                          obtain ⟨hm_231, h_231, hh_231⟩ := hRW a_231 ha_231
                          have hx_231 := pl_one hP hm_231 hh_231
                          refine lv_iload hx hb dX8_parts_232 (lv_at hl 7 rfl) ?_
                          refine lv_aload_n hx hb dX8_parts_234 rfl (lv_at hl 0 rfl) ?_
                          refine va_get (D := (dC, dI)) (ci := 8) (v := .ref ua) (C := RX8) (T := TX8) (N := 38) hx hb hts hi_X8 hown hK hP 0 rfl rfl 32 (by decide) k_f82 (fun _ h9 => h9) rfl dX8_parts_235 ?_
                          refine lv_iload hx hb dX8_parts_238 (lv_at hl 6 rfl) ?_
                          refine va_ald2 hx hb hK hP 4 3 rfl rfl (i := nI j6) (vp_in_nI (by omega) (by omega)) dX8_parts_240 ?_
                          obtain ⟨a_240, ha_240, hf_240⟩ := hRa j6 (by omega)
                          rw [show (fa (nI j6).toNatClampNeg) = some a_240 from by rw [nI_clamp (by omega)]; exact hf_240]
                          obtain ⟨hm_240, h_240, hh_240⟩ := hRW a_240 ha_240
                          have hx_240 := pl_one hP hm_240 hh_240
                          refine lv_iload hx hb dX8_parts_241 (lv_at hl 7 rfl) ?_
                          refine va_bald hx hb hK hx_240 0 4 rfl rfl (i := nI k) (vp_in_nI (by omega) (by omega)) dX8_parts_243 ?_
                          refine lv_topi (fun x_243 ex_243 => ?_)
                          obtain rfl : h_240 k = x_243 := Eq.symm (ex_243.trans (fR_at (by omega)))
                          have hvk := RWV_g ((hOl.resolve_left hjj.2.2) j6 hj6 (by rw [hjj.1]; exact hjj.2.1)) hf_240 hh_240 k (by omega)
                          rw [hjj.1] at hvk
                          obtain ⟨k9, hk9⟩ := va_pl_get (X := [(h0, .inr (8, [.int x0, .int x1, .ref m2, .int (nI c3), .ref m4, .ref m5, .ref m6, .ref m7, .ref m8, .ref m9, .ref m10, .ref m11, .int (nI c12), .int (nI c13), .int (nI c14), .ref m15, .ref m16, .ref m17, .ref m18, .ref m19, .int (nI c20), .int x21, .int (nI c22), .int (nI c23), .ref m24, .ref m25, .int (nI c26), .int (nI c27), .int x28, .ref m29, .ref m30, .ref m31, .ref ua, .ref ub, .ref m34, .int x35, .ref m36, .int (nI c37)])), (m29, .inl (ktb, 480, .inl (nR tb8))), (m30, .inl (kch, 8, .inl (nR cq))), (m31, .inl (knx, 8, .inl (nR nq3))), (ua, .inl (krw, 8, .inr (.inr (.inr (.inr fa))))), (ub, .inl (krw, 8, .inr (.inr (.inr (.inr fb)))))]) (f := fq5) hm_231
                          have hk8 := hk9
                          rw [hh_231] at hk8
                          have hD8 := hD
                          refine va_bast hx hb hK hP hD hS k9 4 hk8 rfl (i := nI k) (x := h_240 k) (vp_in_nI (by omega) (by omega)) dX8_parts_244 (fun H locs hP hD hS => ?_)
                          rw [va_pl_set hD8 hm_231 hk9] at hP hD
                          obtain ⟨fq_244, e9⟩ : ∃ y : Nat → va_E, y = va_up fq5 a_231 (.inl (krb, 60, .inl (upd h_231 (nI k : Int32).toNatClampNeg (vp_nar .byte (h_240 k))))) := ⟨_, rfl⟩
                          rw [← e9] at hP hD
                          replace hRW : ROWS L fq_244 krb Rs := by rw [e9]; exact ROWS_up hRW
                          replace hFR : FRM fp fq_244 Rs := by rw [e9]; exact FRM_up hFR ha_231
                          have e9_244 := e9
                          clear e9 hk9 hk8 hD8 hx_231 hx_240
                          replace hP : va_P (dC, dI) vwCl (vpl [(h0, .inr (8, [.int x0, .int x1, .ref m2, .int (nI c3), .ref m4, .ref m5, .ref m6, .ref m7, .ref m8, .ref m9, .ref m10, .ref m11, .int (nI c12), .int (nI c13), .int (nI c14), .ref m15, .ref m16, .ref m17, .ref m18, .ref m19, .int (nI c20), .int x21, .int (nI c22), .int (nI c23), .ref m24, .ref m25, .int (nI c26), .int (nI c27), .int x28, .ref m29, .ref m30, .ref m31, .ref ua, .ref ub, .ref m34, .int x35, .ref m36, .int (nI c37)])), (m29, .inl (ktb, 480, .inl (nR tb8))), (m30, .inl (kch, 8, .inl (nR cq))), (m31, .inl (knx, 8, .inl (nR nq3))), (ua, .inl (krw, 8, .inr (.inr (.inr (.inr fa))))), (ub, .inl (krw, 8, .inr (.inr (.inr (.inr fb)))))] L fq_244) H := hP
                          replace hD : va_D A (vpl [(h0, .inr (8, [.int x0, .int x1, .ref m2, .int (nI c3), .ref m4, .ref m5, .ref m6, .ref m7, .ref m8, .ref m9, .ref m10, .ref m11, .int (nI c12), .int (nI c13), .int (nI c14), .ref m15, .ref m16, .ref m17, .ref m18, .ref m19, .int (nI c20), .int x21, .int (nI c22), .int (nI c23), .ref m24, .ref m25, .int (nI c26), .int (nI c27), .int x28, .ref m29, .ref m30, .ref m31, .ref ua, .ref ub, .ref m34, .int x35, .ref m36, .int (nI c37)])), (m29, .inl (ktb, 480, .inl (nR tb8))), (m30, .inl (kch, 8, .inl (nR cq))), (m31, .inl (knx, 8, .inl (nR nq3))), (ua, .inl (krw, 8, .inr (.inr (.inr (.inr fa))))), (ub, .inl (krw, 8, .inr (.inr (.inr (.inr fb)))))] L fq_244) := hD
                          have e9k : fq_244 = va_up fq5 a_231 (.inl (krb, 60, .inl (upd h_231 k (nI (Q jx k))))) := e9_244.trans (by rw [upd_e (by omega) hvk.1 (Nat.lt_trans hvk.2 (by decide))])
                          refine lv_iinc (v := nI (k + 1)) (lv' := [(7, .int (nI (k + 1))), (0, .ref h0), (1, .int p0), (2, .int p1), (3, .int (nI i)), (4, .int (nI t)), (5, .int (nI ow)), (6, .int (nI j6))]) hx hb dX8_parts_245 hl (k := 7) rfl (nI_1 _) (by decide) rfl (fun ls hl => ?_)
                          refine lv_goto (tgt := 213) hx hb dX8_parts_248 (by decide) ?_
                          replace hl : lv_has ls 9 [(0, .ref h0), (1, .int p0), (2, .int p1), (3, .int (nI i)), (4, .int (nI t)), (5, .int (nI ow)), (6, .int (nI j6)), (7, .int (nI (k + 1)))] := lv_sub hl [1, 2, 3, 4, 5, 6, 7, 0] rfl
                          replace hP : va_P (dC, dI) vwCl (vpl [(h0, .inr (8, [.int x0, .int x1, .ref m2, .int (nI c3), .ref m4, .ref m5, .ref m6, .ref m7, .ref m8, .ref m9, .ref m10, .ref m11, .int (nI c12), .int (nI c13), .int (nI c14), .ref m15, .ref m16, .ref m17, .ref m18, .ref m19, .int (nI c20), .int x21, .int (nI c22), .int (nI c23), .ref m24, .ref m25, .int (nI c26), .int (nI c27), .int x28, .ref m29, .ref m30, .ref m31, .ref ua, .ref ub, .ref m34, .int x35, .ref m36, .int (nI c37)])), (m29, .inl (ktb, 480, .inl (nR tb8))), (m30, .inl (kch, 8, .inl (nR cq))), (m31, .inl (knx, 8, .inl (nR nq3))), (ua, .inl (krw, 8, .inr (.inr (.inr (.inr fa))))), (ub, .inl (krw, 8, .inr (.inr (.inr (.inr fb)))))] L fq_244) H := hP
                          replace hD : va_D A (vpl [(h0, .inr (8, [.int x0, .int x1, .ref m2, .int (nI c3), .ref m4, .ref m5, .ref m6, .ref m7, .ref m8, .ref m9, .ref m10, .ref m11, .int (nI c12), .int (nI c13), .int (nI c14), .ref m15, .ref m16, .ref m17, .ref m18, .ref m19, .int (nI c20), .int x21, .int (nI c22), .int (nI c23), .ref m24, .ref m25, .int (nI c26), .int (nI c27), .int x28, .ref m29, .ref m30, .ref m31, .ref ua, .ref ub, .ref m34, .int x35, .ref m36, .int (nI c37)])), (m29, .inl (ktb, 480, .inl (nR tb8))), (m30, .inl (kch, 8, .inl (nR cq))), (m31, .inl (knx, 8, .inl (nR nq3))), (ua, .inl (krw, 8, .inr (.inr (.inr (.inr fa))))), (ub, .inl (krw, 8, .inr (.inr (.inr (.inr fb)))))] L fq_244) := hD
                          have hOl9 : i = 0 ∨ ∀ p, p < c14 → ¬ cq p = 2147483647 → RWV fq_244 krb fa (Q p) i p := (hOl.imp id (fun h p hp hn => by rw [e9k]; exact RWV_n (h p hp hn) (fun h9 => hDS.2.2 p t _ (by omega) (by omega) h9 hf_231)))
                          have hNl9 : ∀ u, u < t → ¬ nq2 u = 2147483647 → RWV fq_244 krb fb (Q2 u) (i + 1) u := (fun u hu hn => by rw [e9k]; exact RWV_n (hNl u hu hn) (fun h9 => absurd (hDS.2.1 u t _ (by omega) (by omega) h9 hf_231) (by omega)))
                          have hCp9 : RWV fq_244 krb fb (Q jx) (k + 1) t := (by rw [e9k]; exact RWV_c hf_231 (RWV_g hCp hf_231 hh_231) rfl hvk.2)
                          apply ih213 (k := k + 1) (fq5 := fq_244) <;> first | assumption | omega
                    · skip
                      refine lv_aload_n hx hb dX8_parts_251 rfl (lv_at hl 0 rfl) ?_
                      refine va_get (D := (dC, dI)) (ci := 8) (v := .ref ub) (C := RX8) (T := TX8) (N := 38) hx hb hts hi_X8 hown hK hP 0 rfl rfl 33 (by decide) k_f85 (fun _ h9 => h9) rfl dX8_parts_252 ?_
                      refine lv_iload hx hb dX8_parts_255 (lv_at hl 4 rfl) ?_
                      refine va_ald2 hx hb hK hP 5 3 rfl rfl (i := nI t) (vp_in_nI (by omega) (by omega)) dX8_parts_257 ?_
                      obtain ⟨a_257, ha_257, hf_257⟩ := hRb t (by omega)
                      rw [show (fb (nI t).toNatClampNeg) = some a_257 from by rw [nI_clamp (by omega)]; exact hf_257]
                      obtain ⟨hm_257, h_257, hh_257⟩ := hRW a_257 ha_257
                      have hx_257 := pl_one hP hm_257 hh_257
                      refine lv_iload_n hx hb dX8_parts_258 rfl (lv_at hl 3 rfl) ?_
                      refine lv_iload hx hb dX8_parts_259 (lv_at hl 4 rfl) ?_
                      refine lv_i2b hx hb dX8_parts_261 rfl ?_
                      refine lv_topi (fun x_261 ex_261 => ?_)
                      obtain rfl : nI t = x_261 := Eq.symm (ex_261.trans (i2b_nI (by omega)))
                      obtain ⟨k9, hk9⟩ := va_pl_get (X := [(h0, .inr (8, [.int x0, .int x1, .ref m2, .int (nI c3), .ref m4, .ref m5, .ref m6, .ref m7, .ref m8, .ref m9, .ref m10, .ref m11, .int (nI c12), .int (nI c13), .int (nI c14), .ref m15, .ref m16, .ref m17, .ref m18, .ref m19, .int (nI c20), .int x21, .int (nI c22), .int (nI c23), .ref m24, .ref m25, .int (nI c26), .int (nI c27), .int x28, .ref m29, .ref m30, .ref m31, .ref ua, .ref ub, .ref m34, .int x35, .ref m36, .int (nI c37)])), (m29, .inl (ktb, 480, .inl (nR tb8))), (m30, .inl (kch, 8, .inl (nR cq))), (m31, .inl (knx, 8, .inl (nR nq3))), (ua, .inl (krw, 8, .inr (.inr (.inr (.inr fa))))), (ub, .inl (krw, 8, .inr (.inr (.inr (.inr fb)))))]) (f := fq5) hm_257
                      have hk8 := hk9
                      rw [hh_257] at hk8
                      have hD8 := hD
                      refine va_bast hx hb hK hP hD hS k9 4 hk8 rfl (i := nI i) (x := nI t) (vp_in_nI (by omega) (by omega)) dX8_parts_262 (fun H locs hP hD hS => ?_)
                      rw [va_pl_set hD8 hm_257 hk9] at hP hD
                      obtain ⟨fq_262, e9⟩ : ∃ y : Nat → va_E, y = va_up fq5 a_257 (.inl (krb, 60, .inl (upd h_257 (nI i : Int32).toNatClampNeg (vp_nar .byte (nI t))))) := ⟨_, rfl⟩
                      rw [← e9] at hP hD
                      replace hRW : ROWS L fq_262 krb Rs := by rw [e9]; exact ROWS_up hRW
                      replace hFR : FRM fp fq_262 Rs := by rw [e9]; exact FRM_up hFR ha_257
                      have e9_262 := e9
                      clear e9 hk9 hk8 hD8 hx_257
                      replace hP : va_P (dC, dI) vwCl (vpl [(h0, .inr (8, [.int x0, .int x1, .ref m2, .int (nI c3), .ref m4, .ref m5, .ref m6, .ref m7, .ref m8, .ref m9, .ref m10, .ref m11, .int (nI c12), .int (nI c13), .int (nI c14), .ref m15, .ref m16, .ref m17, .ref m18, .ref m19, .int (nI c20), .int x21, .int (nI c22), .int (nI c23), .ref m24, .ref m25, .int (nI c26), .int (nI c27), .int x28, .ref m29, .ref m30, .ref m31, .ref ua, .ref ub, .ref m34, .int x35, .ref m36, .int (nI c37)])), (m29, .inl (ktb, 480, .inl (nR tb8))), (m30, .inl (kch, 8, .inl (nR cq))), (m31, .inl (knx, 8, .inl (nR nq3))), (ua, .inl (krw, 8, .inr (.inr (.inr (.inr fa))))), (ub, .inl (krw, 8, .inr (.inr (.inr (.inr fb)))))] L fq_262) H := hP
                      replace hD : va_D A (vpl [(h0, .inr (8, [.int x0, .int x1, .ref m2, .int (nI c3), .ref m4, .ref m5, .ref m6, .ref m7, .ref m8, .ref m9, .ref m10, .ref m11, .int (nI c12), .int (nI c13), .int (nI c14), .ref m15, .ref m16, .ref m17, .ref m18, .ref m19, .int (nI c20), .int x21, .int (nI c22), .int (nI c23), .ref m24, .ref m25, .int (nI c26), .int (nI c27), .int x28, .ref m29, .ref m30, .ref m31, .ref ua, .ref ub, .ref m34, .int x35, .ref m36, .int (nI c37)])), (m29, .inl (ktb, 480, .inl (nR tb8))), (m30, .inl (kch, 8, .inl (nR cq))), (m31, .inl (knx, 8, .inl (nR nq3))), (ua, .inl (krw, 8, .inr (.inr (.inr (.inr fa))))), (ub, .inl (krw, 8, .inr (.inr (.inr (.inr fb)))))] L fq_262) := hD
                      have e9t : fq_262 = va_up fq5 a_257 (.inl (krb, 60, .inl (upd h_257 i (nI t)))) := e9_262.trans (by rw [upd_e (by omega) rfl (by omega)])
                      have hki : ¬ nq3 t = 2147483647 → k = i := fun h9 => by rcases hJ251 with h8 | h8; exact h8; (rcases hxj with ⟨h7, _⟩ | ⟨_, h7⟩; exact absurd (h7.symm.trans h8) (nI_nm1 (by omega)); exact h7.elim (fun h6 => absurd h6 h9) (fun h6 => by omega))
                      have hNn : ∀ u, u < t + 1 → MR (cs8 tb8) c22 c14 (opM p0 p1) (i + 1) u (nq3 u) (va_up Q2 t (updN (Q jx) i t) u) ∧ (¬ nq3 u = 2147483647 → RWV fq_262 krb fb (va_up Q2 t (updN (Q jx) i t) u) (i + 1) u) := fun u hu => by
                        by_cases e : u = t
                        · rw [e, va_up_self]
                          refine ⟨hMR, fun h9 => ?_⟩
                          have hk9 := hki h9
                          rw [e9t]
                          exact RWV_y hf_257 (fun q hq => RWV_g hCp hf_257 hh_257 q (by omega)) (by omega)
                        · rw [va_up_ne _ _ e, hgu u (by omega)]
                          refine ⟨(hN u (by omega)).1, fun h9 => ?_⟩
                          rw [e9t]
                          exact RWV_n (hNl u (by omega) h9) (fun h8 => absurd (hDS.2.1 u t _ (by omega) (by omega) h8 hf_257) e)
                      have hOn : i = 0 ∨ ∀ p, p < c14 → ¬ cq p = 2147483647 → RWV fq_262 krb fa (Q p) i p := hOl.imp id (fun h p hp hn => by rw [e9t]; exact RWV_n (h p hp hn) (fun h9 => hDS.2.2 p t _ (by omega) (by omega) h9 hf_257))
                      refine lv_iinc (v := nI (t + 1)) (lv' := [(4, .int (nI (t + 1))), (0, .ref h0), (1, .int p0), (2, .int p1), (3, .int (nI i)), (5, .int (nI ow)), (6, .int x6), (7, .int (nI k))]) hx hb dX8_parts_263 hl (k := 4) rfl (nI_1 _) (by decide) rfl (fun ls hl => ?_)
                      refine lv_goto (tgt := 13) hx hb dX8_parts_266 (by decide) ?_
                      replace hl : lv_has ls 9 [(0, .ref h0), (1, .int p0), (2, .int p1), (3, .int (nI i)), (4, .int (nI (t + 1)))] := lv_sub hl [1, 2, 3, 4, 0] rfl
                      replace hP : va_P (dC, dI) vwCl (vpl [(h0, .inr (8, [.int x0, .int x1, .ref m2, .int (nI c3), .ref m4, .ref m5, .ref m6, .ref m7, .ref m8, .ref m9, .ref m10, .ref m11, .int (nI c12), .int (nI c13), .int (nI c14), .ref m15, .ref m16, .ref m17, .ref m18, .ref m19, .int (nI c20), .int x21, .int (nI c22), .int (nI c23), .ref m24, .ref m25, .int (nI c26), .int (nI c27), .int x28, .ref m29, .ref m30, .ref m31, .ref ua, .ref ub, .ref m34, .int x35, .ref m36, .int (nI c37)])), (m29, .inl (ktb, 480, .inl (nR tb8))), (m30, .inl (kch, 8, .inl (nR cq))), (m31, .inl (knx, 8, .inl (nR nq3))), (ua, .inl (krw, 8, .inr (.inr (.inr (.inr fa))))), (ub, .inl (krw, 8, .inr (.inr (.inr (.inr fb)))))] L fq_262) H := hP
                      replace hD : va_D A (vpl [(h0, .inr (8, [.int x0, .int x1, .ref m2, .int (nI c3), .ref m4, .ref m5, .ref m6, .ref m7, .ref m8, .ref m9, .ref m10, .ref m11, .int (nI c12), .int (nI c13), .int (nI c14), .ref m15, .ref m16, .ref m17, .ref m18, .ref m19, .int (nI c20), .int x21, .int (nI c22), .int (nI c23), .ref m24, .ref m25, .int (nI c26), .int (nI c27), .int x28, .ref m29, .ref m30, .ref m31, .ref ua, .ref ub, .ref m34, .int x35, .ref m36, .int (nI c37)])), (m29, .inl (ktb, 480, .inl (nR tb8))), (m30, .inl (kch, 8, .inl (nR cq))), (m31, .inl (knx, 8, .inl (nR nq3))), (ua, .inl (krw, 8, .inr (.inr (.inr (.inr fa))))), (ub, .inl (krw, 8, .inr (.inr (.inr (.inr fb)))))] L fq_262) := hD
                      have hN9 : ∀ u, u < (t + 1) → MR (cs8 tb8) c22 c14 (opM p0 p1) (i + 1) u (nq3 u) ((va_up Q2 t (updN (Q jx) i t)) u) ∧ (¬ nq3 u = 2147483647 → RWV fq_262 krb fb ((va_up Q2 t (updN (Q jx) i t)) u) (i + 1) u) := hNn
                      have hO9 : i = 0 ∨ ∀ p, p < c14 → ¬ cq p = 2147483647 → RWV fq_262 krb fa (Q p) i p := hOn
                      apply ih13 (t := t + 1) (fq2 := fq_262) (nq2 := nq3) (Q2 := (va_up Q2 t (updN (Q jx) i t))) <;> first | assumption | omega
                · have n_198 : i = 0 := (nI_eq (a := i) (b := 0) (by omega) (by omega)).mp c_198
                  refine lv_aload_n hx hb dX8_parts_201 rfl (lv_at hl 0 rfl) ?_
                  refine va_get (D := (dC, dI)) (ci := 8) (v := .ref m31) (C := RX8) (T := TX8) (N := 38) hx hb hts hi_X8 hown hK hP 0 rfl rfl 31 (by decide) k_f77 (fun _ h9 => h9) rfl dX8_parts_202 ?_
                  refine lv_iload hx hb dX8_parts_205 (lv_at hl 4 rfl) ?_
                  refine lv_iload hx hb dX8_parts_207 (lv_at hl 5 rfl) ?_
                  refine va_iast hx hb hK hP hD hS 3 2 rfl rfl (i := nI t) (x := nI ow) (vp_in_nI (by omega) (by omega)) dX8_parts_209 (fun H locs hP hD hS => ?_)
                  have er_209 : upd (nR nq3) (nI t : Int32).toNatClampNeg (nI ow) = nR (updN nq3 t ow) := upd_nR (g := nq3) (i := t) (v := ow) (by omega)
                  replace hP : va_P (dC, dI) vwCl (vpl [(h0, .inr (8, [.int x0, .int x1, .ref m2, .int (nI c3), .ref m4, .ref m5, .ref m6, .ref m7, .ref m8, .ref m9, .ref m10, .ref m11, .int (nI c12), .int (nI c13), .int (nI c14), .ref m15, .ref m16, .ref m17, .ref m18, .ref m19, .int (nI c20), .int x21, .int (nI c22), .int (nI c23), .ref m24, .ref m25, .int (nI c26), .int (nI c27), .int x28, .ref m29, .ref m30, .ref m31, .ref ua, .ref ub, .ref m34, .int x35, .ref m36, .int (nI c37)])), (m29, .inl (ktb, 480, .inl (nR tb8))), (m30, .inl (kch, 8, .inl (nR cq))), (m31, .inl (knx, 8, .inl (nR (updN nq3 t ow)))), (ua, .inl (krw, 8, .inr (.inr (.inr (.inr fa))))), (ub, .inl (krw, 8, .inr (.inr (.inr (.inr fb)))))] L fq2) H := by rw [← er_209]; exact hP
                  replace hD : va_D A (vpl [(h0, .inr (8, [.int x0, .int x1, .ref m2, .int (nI c3), .ref m4, .ref m5, .ref m6, .ref m7, .ref m8, .ref m9, .ref m10, .ref m11, .int (nI c12), .int (nI c13), .int (nI c14), .ref m15, .ref m16, .ref m17, .ref m18, .ref m19, .int (nI c20), .int x21, .int (nI c22), .int (nI c23), .ref m24, .ref m25, .int (nI c26), .int (nI c27), .int x28, .ref m29, .ref m30, .ref m31, .ref ua, .ref ub, .ref m34, .int x35, .ref m36, .int (nI c37)])), (m29, .inl (ktb, 480, .inl (nR tb8))), (m30, .inl (kch, 8, .inl (nR cq))), (m31, .inl (knx, 8, .inl (nR (updN nq3 t ow)))), (ua, .inl (krw, 8, .inr (.inr (.inr (.inr fa))))), (ub, .inl (krw, 8, .inr (.inr (.inr (.inr fb)))))] L fq2) := by rw [← er_209]; exact hD
                  have hnb5 : CHB (updN nq3 t ow) (t + 1) (4800 * (i + 1)) := CHB_s hnb3 (by omega)
                  obtain ⟨jx, hjx, hxj, hMR⟩ := MR_all (c := (cs8 tb8)) (g := (updN nq3 t ow) t) (hQ.imp id (fun h p hp => (h p hp).1)) (by omega) (show t < c14 by omega) how hch hbi hq0 hJ197 (Or.inl ⟨by omega, updN_s⟩)
                  have hgu : ∀ u, u < t → (updN nq3 t ow) u = nq2 u := fun u hu => (updN_n (by omega)).trans (hnu u hu)
                  refine lv_iconst (v := 0) hx hb dX8_parts_210 (by decide) ?_
                  refine lv_istore (lv' := [(7, .int 0), (0, .ref h0), (1, .int p0), (2, .int p1), (3, .int (nI i)), (4, .int (nI t)), (5, .int (nI ow)), (6, .int x6)]) hx hb dX8_parts_211 hl (by decide) rfl (fun ls hl => ?_)
                  obtain ⟨k, e_k⟩ : ∃ y : Nat, y = 0 := ⟨_, rfl⟩
                  obtain ⟨fq5, e_fq5⟩ : ∃ y : Nat → va_E, y = fq2 := ⟨_, rfl⟩
                  replace hl : lv_has ls 9 [(0, .ref h0), (1, .int p0), (2, .int p1), (3, .int (nI i)), (4, .int (nI t)), (5, .int (nI ow)), (6, .int x6), (7, .int (nI k))] := by (try rewrite [e_k]); (try rewrite [e_fq5]); exact lv_sub hl [1, 2, 3, 4, 5, 6, 7, 0] rfl
                  replace hP : va_P (dC, dI) vwCl (vpl [(h0, .inr (8, [.int x0, .int x1, .ref m2, .int (nI c3), .ref m4, .ref m5, .ref m6, .ref m7, .ref m8, .ref m9, .ref m10, .ref m11, .int (nI c12), .int (nI c13), .int (nI c14), .ref m15, .ref m16, .ref m17, .ref m18, .ref m19, .int (nI c20), .int x21, .int (nI c22), .int (nI c23), .ref m24, .ref m25, .int (nI c26), .int (nI c27), .int x28, .ref m29, .ref m30, .ref m31, .ref ua, .ref ub, .ref m34, .int x35, .ref m36, .int (nI c37)])), (m29, .inl (ktb, 480, .inl (nR tb8))), (m30, .inl (kch, 8, .inl (nR cq))), (m31, .inl (knx, 8, .inl (nR (updN nq3 t ow)))), (ua, .inl (krw, 8, .inr (.inr (.inr (.inr fa))))), (ub, .inl (krw, 8, .inr (.inr (.inr (.inr fb)))))] L fq5) H := by (try rewrite [e_k]); (try rewrite [e_fq5]); exact hP
                  replace hD : va_D A (vpl [(h0, .inr (8, [.int x0, .int x1, .ref m2, .int (nI c3), .ref m4, .ref m5, .ref m6, .ref m7, .ref m8, .ref m9, .ref m10, .ref m11, .int (nI c12), .int (nI c13), .int (nI c14), .ref m15, .ref m16, .ref m17, .ref m18, .ref m19, .int (nI c20), .int x21, .int (nI c22), .int (nI c23), .ref m24, .ref m25, .int (nI c26), .int (nI c27), .int x28, .ref m29, .ref m30, .ref m31, .ref ua, .ref ub, .ref m34, .int x35, .ref m36, .int (nI c37)])), (m29, .inl (ktb, 480, .inl (nR tb8))), (m30, .inl (kch, 8, .inl (nR cq))), (m31, .inl (knx, 8, .inl (nR (updN nq3 t ow)))), (ua, .inl (krw, 8, .inr (.inr (.inr (.inr fa))))), (ub, .inl (krw, 8, .inr (.inr (.inr (.inr fb)))))] L fq5) := by (try rewrite [e_k]); (try rewrite [e_fq5]); exact hD
                  have hk1 : k ≤ i := by (try rewrite [e_k]); (try rewrite [e_fq5]); omega
                  have hRW : ROWS L fq5 krb Rs := by (try rewrite [e_k]); (try rewrite [e_fq5]); exact hRW
                  have hFR : FRM fp fq5 Rs := by (try rewrite [e_k]); (try rewrite [e_fq5]); exact hFR
                  have hOl : i = 0 ∨ ∀ p, p < c14 → ¬ cq p = 2147483647 → RWV fq5 krb fa (Q p) i p := by (try rewrite [e_k]); (try rewrite [e_fq5]); exact hO
                  have hNl : ∀ u, u < t → ¬ nq2 u = 2147483647 → RWV fq5 krb fb (Q2 u) (i + 1) u := by (try rewrite [e_k]); (try rewrite [e_fq5]); exact fun u hu => (hN u hu).2
                  have hCp : RWV fq5 krb fb (Q jx) k t := by (try rewrite [e_k]); (try rewrite [e_fq5]); rw [← e_fq5]; exact RWV_0 hRW hRb (by omega)
                  clear e_k e_fq5
                  obtain ⟨nn213, hnn213⟩ : ∃ q : Nat, i - k < q := ⟨_, Nat.lt_succ_self _⟩
                  induction nn213 generalizing k fq5 H locs ls with
                  | zero => exact absurd hnn213 (Nat.not_lt_zero _)
                  | succ nn213 ih213 =>
                    refine lv_join (P := fun (xj : Unit) => k = i ∨ x6 = (-1)) (fr := fun (xj : Unit) => F0 m 251 ls []) (fun J251 => ?_) (fun xj hJ251 => ?_)
                    · refine lv_iload hx hb dX8_parts_213 (lv_at hl 7 rfl) ?_
                      refine lv_iload_n hx hb dX8_parts_215 rfl (lv_at hl 3 rfl) ?_
                      refine lv_icmp_ge (tgt := 251) hx hb dX8_parts_216 (by decide) (fun c_216 => ?_) (fun c_216 => ?_)
                      · have n_216 : i ≤ k := (nI_leI (a := i) (b := k) (by omega) (by omega)).mp c_216
                        exact J251 () (Or.inl (by omega))
                      · have n_216 : k < i := Nat.not_le.mp (fun h9 => c_216 ((nI_leI (a := i) (b := k) (by omega) (by omega)).mpr h9))
                        refine lv_iload hx hb dX8_parts_219 (lv_at hl 6 rfl) ?_
                        refine lv_iconst (v := (-1)) hx hb dX8_parts_221 (by decide) ?_
                        refine lv_icmp_eq (tgt := 251) hx hb dX8_parts_222 (by decide) (fun c_222 => ?_) (fun c_222 => ?_)
                        · exact J251 () (Or.inr c_222)
                        · obtain ⟨j6, hj6, ej6, -⟩ := Or.resolve_left hby (fun h9 => c_222 h9.1)
                          subst ej6
                          have hjj : j6 = jx ∧ ¬ cq jx = 2147483647 ∧ ¬ i = 0 := by rcases hxj with ⟨h9, h8, h7⟩ | ⟨h9, _⟩; exact ⟨(nI_eq (by omega) (by omega)).mp h9, h7, h8⟩; exact absurd h9 (nI_nm1 (by omega))
                          refine lv_aload_n hx hb dX8_parts_225 rfl (lv_at hl 0 rfl) ?_
                          refine va_get (D := (dC, dI)) (ci := 8) (v := .ref ub) (C := RX8) (T := TX8) (N := 38) hx hb hts hi_X8 hown hK hP 0 rfl rfl 33 (by decide) k_f85 (fun _ h9 => h9) rfl dX8_parts_226 ?_
                          refine lv_iload hx hb dX8_parts_229 (lv_at hl 4 rfl) ?_
                          refine va_ald2 hx hb hK hP 5 3 rfl rfl (i := nI t) (vp_in_nI (by omega) (by omega)) dX8_parts_231 ?_
                          obtain ⟨a_231, ha_231, hf_231⟩ := hRb t (by omega)
                          rw [show (fb (nI t).toNatClampNeg) = some a_231 from by rw [nI_clamp (by omega)]; exact hf_231]
                          obtain ⟨hm_231, h_231, hh_231⟩ := hRW a_231 ha_231
                          have hx_231 := pl_one hP hm_231 hh_231
                          refine lv_iload hx hb dX8_parts_232 (lv_at hl 7 rfl) ?_
                          refine lv_aload_n hx hb dX8_parts_234 rfl (lv_at hl 0 rfl) ?_
                          refine va_get (D := (dC, dI)) (ci := 8) (v := .ref ua) (C := RX8) (T := TX8) (N := 38) hx hb hts hi_X8 hown hK hP 0 rfl rfl 32 (by decide) k_f82 (fun _ h9 => h9) rfl dX8_parts_235 ?_
                          refine lv_iload hx hb dX8_parts_238 (lv_at hl 6 rfl) ?_
                          refine va_ald2 hx hb hK hP 4 3 rfl rfl (i := nI j6) (vp_in_nI (by omega) (by omega)) dX8_parts_240 ?_
                          obtain ⟨a_240, ha_240, hf_240⟩ := hRa j6 (by omega)
                          rw [show (fa (nI j6).toNatClampNeg) = some a_240 from by rw [nI_clamp (by omega)]; exact hf_240]
                          obtain ⟨hm_240, h_240, hh_240⟩ := hRW a_240 ha_240
                          have hx_240 := pl_one hP hm_240 hh_240
                          refine lv_iload hx hb dX8_parts_241 (lv_at hl 7 rfl) ?_
                          refine va_bald hx hb hK hx_240 0 4 rfl rfl (i := nI k) (vp_in_nI (by omega) (by omega)) dX8_parts_243 ?_
                          refine lv_topi (fun x_243 ex_243 => ?_)
                          obtain rfl : h_240 k = x_243 := Eq.symm (ex_243.trans (fR_at (by omega)))
                          have hvk := RWV_g ((hOl.resolve_left hjj.2.2) j6 hj6 (by rw [hjj.1]; exact hjj.2.1)) hf_240 hh_240 k (by omega)
                          rw [hjj.1] at hvk
                          obtain ⟨k9, hk9⟩ := va_pl_get (X := [(h0, .inr (8, [.int x0, .int x1, .ref m2, .int (nI c3), .ref m4, .ref m5, .ref m6, .ref m7, .ref m8, .ref m9, .ref m10, .ref m11, .int (nI c12), .int (nI c13), .int (nI c14), .ref m15, .ref m16, .ref m17, .ref m18, .ref m19, .int (nI c20), .int x21, .int (nI c22), .int (nI c23), .ref m24, .ref m25, .int (nI c26), .int (nI c27), .int x28, .ref m29, .ref m30, .ref m31, .ref ua, .ref ub, .ref m34, .int x35, .ref m36, .int (nI c37)])), (m29, .inl (ktb, 480, .inl (nR tb8))), (m30, .inl (kch, 8, .inl (nR cq))), (m31, .inl (knx, 8, .inl (nR (updN nq3 t ow)))), (ua, .inl (krw, 8, .inr (.inr (.inr (.inr fa))))), (ub, .inl (krw, 8, .inr (.inr (.inr (.inr fb)))))]) (f := fq5) hm_231
                          have hk8 := hk9
                          rw [hh_231] at hk8
                          have hD8 := hD
                          refine va_bast hx hb hK hP hD hS k9 4 hk8 rfl (i := nI k) (x := h_240 k) (vp_in_nI (by omega) (by omega)) dX8_parts_244 (fun H locs hP hD hS => ?_)
                          rw [va_pl_set hD8 hm_231 hk9] at hP hD
                          obtain ⟨fq_244, e9⟩ : ∃ y : Nat → va_E, y = va_up fq5 a_231 (.inl (krb, 60, .inl (upd h_231 (nI k : Int32).toNatClampNeg (vp_nar .byte (h_240 k))))) := ⟨_, rfl⟩
                          rw [← e9] at hP hD
                          replace hRW : ROWS L fq_244 krb Rs := by rw [e9]; exact ROWS_up hRW
                          replace hFR : FRM fp fq_244 Rs := by rw [e9]; exact FRM_up hFR ha_231
                          have e9_244 := e9
                          clear e9 hk9 hk8 hD8 hx_231 hx_240
                          replace hP : va_P (dC, dI) vwCl (vpl [(h0, .inr (8, [.int x0, .int x1, .ref m2, .int (nI c3), .ref m4, .ref m5, .ref m6, .ref m7, .ref m8, .ref m9, .ref m10, .ref m11, .int (nI c12), .int (nI c13), .int (nI c14), .ref m15, .ref m16, .ref m17, .ref m18, .ref m19, .int (nI c20), .int x21, .int (nI c22), .int (nI c23), .ref m24, .ref m25, .int (nI c26), .int (nI c27), .int x28, .ref m29, .ref m30, .ref m31, .ref ua, .ref ub, .ref m34, .int x35, .ref m36, .int (nI c37)])), (m29, .inl (ktb, 480, .inl (nR tb8))), (m30, .inl (kch, 8, .inl (nR cq))), (m31, .inl (knx, 8, .inl (nR (updN nq3 t ow)))), (ua, .inl (krw, 8, .inr (.inr (.inr (.inr fa))))), (ub, .inl (krw, 8, .inr (.inr (.inr (.inr fb)))))] L fq_244) H := hP
                          replace hD : va_D A (vpl [(h0, .inr (8, [.int x0, .int x1, .ref m2, .int (nI c3), .ref m4, .ref m5, .ref m6, .ref m7, .ref m8, .ref m9, .ref m10, .ref m11, .int (nI c12), .int (nI c13), .int (nI c14), .ref m15, .ref m16, .ref m17, .ref m18, .ref m19, .int (nI c20), .int x21, .int (nI c22), .int (nI c23), .ref m24, .ref m25, .int (nI c26), .int (nI c27), .int x28, .ref m29, .ref m30, .ref m31, .ref ua, .ref ub, .ref m34, .int x35, .ref m36, .int (nI c37)])), (m29, .inl (ktb, 480, .inl (nR tb8))), (m30, .inl (kch, 8, .inl (nR cq))), (m31, .inl (knx, 8, .inl (nR (updN nq3 t ow)))), (ua, .inl (krw, 8, .inr (.inr (.inr (.inr fa))))), (ub, .inl (krw, 8, .inr (.inr (.inr (.inr fb)))))] L fq_244) := hD
                          have e9k : fq_244 = va_up fq5 a_231 (.inl (krb, 60, .inl (upd h_231 k (nI (Q jx k))))) := e9_244.trans (by rw [upd_e (by omega) hvk.1 (Nat.lt_trans hvk.2 (by decide))])
                          refine lv_iinc (v := nI (k + 1)) (lv' := [(7, .int (nI (k + 1))), (0, .ref h0), (1, .int p0), (2, .int p1), (3, .int (nI i)), (4, .int (nI t)), (5, .int (nI ow)), (6, .int (nI j6))]) hx hb dX8_parts_245 hl (k := 7) rfl (nI_1 _) (by decide) rfl (fun ls hl => ?_)
                          refine lv_goto (tgt := 213) hx hb dX8_parts_248 (by decide) ?_
                          replace hl : lv_has ls 9 [(0, .ref h0), (1, .int p0), (2, .int p1), (3, .int (nI i)), (4, .int (nI t)), (5, .int (nI ow)), (6, .int (nI j6)), (7, .int (nI (k + 1)))] := lv_sub hl [1, 2, 3, 4, 5, 6, 7, 0] rfl
                          replace hP : va_P (dC, dI) vwCl (vpl [(h0, .inr (8, [.int x0, .int x1, .ref m2, .int (nI c3), .ref m4, .ref m5, .ref m6, .ref m7, .ref m8, .ref m9, .ref m10, .ref m11, .int (nI c12), .int (nI c13), .int (nI c14), .ref m15, .ref m16, .ref m17, .ref m18, .ref m19, .int (nI c20), .int x21, .int (nI c22), .int (nI c23), .ref m24, .ref m25, .int (nI c26), .int (nI c27), .int x28, .ref m29, .ref m30, .ref m31, .ref ua, .ref ub, .ref m34, .int x35, .ref m36, .int (nI c37)])), (m29, .inl (ktb, 480, .inl (nR tb8))), (m30, .inl (kch, 8, .inl (nR cq))), (m31, .inl (knx, 8, .inl (nR (updN nq3 t ow)))), (ua, .inl (krw, 8, .inr (.inr (.inr (.inr fa))))), (ub, .inl (krw, 8, .inr (.inr (.inr (.inr fb)))))] L fq_244) H := hP
                          replace hD : va_D A (vpl [(h0, .inr (8, [.int x0, .int x1, .ref m2, .int (nI c3), .ref m4, .ref m5, .ref m6, .ref m7, .ref m8, .ref m9, .ref m10, .ref m11, .int (nI c12), .int (nI c13), .int (nI c14), .ref m15, .ref m16, .ref m17, .ref m18, .ref m19, .int (nI c20), .int x21, .int (nI c22), .int (nI c23), .ref m24, .ref m25, .int (nI c26), .int (nI c27), .int x28, .ref m29, .ref m30, .ref m31, .ref ua, .ref ub, .ref m34, .int x35, .ref m36, .int (nI c37)])), (m29, .inl (ktb, 480, .inl (nR tb8))), (m30, .inl (kch, 8, .inl (nR cq))), (m31, .inl (knx, 8, .inl (nR (updN nq3 t ow)))), (ua, .inl (krw, 8, .inr (.inr (.inr (.inr fa))))), (ub, .inl (krw, 8, .inr (.inr (.inr (.inr fb)))))] L fq_244) := hD
                          have hOl9 : i = 0 ∨ ∀ p, p < c14 → ¬ cq p = 2147483647 → RWV fq_244 krb fa (Q p) i p := (hOl.imp id (fun h p hp hn => by rw [e9k]; exact RWV_n (h p hp hn) (fun h9 => hDS.2.2 p t _ (by omega) (by omega) h9 hf_231)))
                          have hNl9 : ∀ u, u < t → ¬ nq2 u = 2147483647 → RWV fq_244 krb fb (Q2 u) (i + 1) u := (fun u hu hn => by rw [e9k]; exact RWV_n (hNl u hu hn) (fun h9 => absurd (hDS.2.1 u t _ (by omega) (by omega) h9 hf_231) (by omega)))
                          have hCp9 : RWV fq_244 krb fb (Q jx) (k + 1) t := (by rw [e9k]; exact RWV_c hf_231 (RWV_g hCp hf_231 hh_231) rfl hvk.2)
                          apply ih213 (k := k + 1) (fq5 := fq_244) <;> first | assumption | omega
                    · skip
                      refine lv_aload_n hx hb dX8_parts_251 rfl (lv_at hl 0 rfl) ?_
                      refine va_get (D := (dC, dI)) (ci := 8) (v := .ref ub) (C := RX8) (T := TX8) (N := 38) hx hb hts hi_X8 hown hK hP 0 rfl rfl 33 (by decide) k_f85 (fun _ h9 => h9) rfl dX8_parts_252 ?_
                      refine lv_iload hx hb dX8_parts_255 (lv_at hl 4 rfl) ?_
                      refine va_ald2 hx hb hK hP 5 3 rfl rfl (i := nI t) (vp_in_nI (by omega) (by omega)) dX8_parts_257 ?_
                      obtain ⟨a_257, ha_257, hf_257⟩ := hRb t (by omega)
                      rw [show (fb (nI t).toNatClampNeg) = some a_257 from by rw [nI_clamp (by omega)]; exact hf_257]
                      obtain ⟨hm_257, h_257, hh_257⟩ := hRW a_257 ha_257
                      have hx_257 := pl_one hP hm_257 hh_257
                      refine lv_iload_n hx hb dX8_parts_258 rfl (lv_at hl 3 rfl) ?_
                      refine lv_iload hx hb dX8_parts_259 (lv_at hl 4 rfl) ?_
                      refine lv_i2b hx hb dX8_parts_261 rfl ?_
                      refine lv_topi (fun x_261 ex_261 => ?_)
                      obtain rfl : nI t = x_261 := Eq.symm (ex_261.trans (i2b_nI (by omega)))
                      obtain ⟨k9, hk9⟩ := va_pl_get (X := [(h0, .inr (8, [.int x0, .int x1, .ref m2, .int (nI c3), .ref m4, .ref m5, .ref m6, .ref m7, .ref m8, .ref m9, .ref m10, .ref m11, .int (nI c12), .int (nI c13), .int (nI c14), .ref m15, .ref m16, .ref m17, .ref m18, .ref m19, .int (nI c20), .int x21, .int (nI c22), .int (nI c23), .ref m24, .ref m25, .int (nI c26), .int (nI c27), .int x28, .ref m29, .ref m30, .ref m31, .ref ua, .ref ub, .ref m34, .int x35, .ref m36, .int (nI c37)])), (m29, .inl (ktb, 480, .inl (nR tb8))), (m30, .inl (kch, 8, .inl (nR cq))), (m31, .inl (knx, 8, .inl (nR (updN nq3 t ow)))), (ua, .inl (krw, 8, .inr (.inr (.inr (.inr fa))))), (ub, .inl (krw, 8, .inr (.inr (.inr (.inr fb)))))]) (f := fq5) hm_257
                      have hk8 := hk9
                      rw [hh_257] at hk8
                      have hD8 := hD
                      refine va_bast hx hb hK hP hD hS k9 4 hk8 rfl (i := nI i) (x := nI t) (vp_in_nI (by omega) (by omega)) dX8_parts_262 (fun H locs hP hD hS => ?_)
                      rw [va_pl_set hD8 hm_257 hk9] at hP hD
                      obtain ⟨fq_262, e9⟩ : ∃ y : Nat → va_E, y = va_up fq5 a_257 (.inl (krb, 60, .inl (upd h_257 (nI i : Int32).toNatClampNeg (vp_nar .byte (nI t))))) := ⟨_, rfl⟩
                      rw [← e9] at hP hD
                      replace hRW : ROWS L fq_262 krb Rs := by rw [e9]; exact ROWS_up hRW
                      replace hFR : FRM fp fq_262 Rs := by rw [e9]; exact FRM_up hFR ha_257
                      have e9_262 := e9
                      clear e9 hk9 hk8 hD8 hx_257
                      replace hP : va_P (dC, dI) vwCl (vpl [(h0, .inr (8, [.int x0, .int x1, .ref m2, .int (nI c3), .ref m4, .ref m5, .ref m6, .ref m7, .ref m8, .ref m9, .ref m10, .ref m11, .int (nI c12), .int (nI c13), .int (nI c14), .ref m15, .ref m16, .ref m17, .ref m18, .ref m19, .int (nI c20), .int x21, .int (nI c22), .int (nI c23), .ref m24, .ref m25, .int (nI c26), .int (nI c27), .int x28, .ref m29, .ref m30, .ref m31, .ref ua, .ref ub, .ref m34, .int x35, .ref m36, .int (nI c37)])), (m29, .inl (ktb, 480, .inl (nR tb8))), (m30, .inl (kch, 8, .inl (nR cq))), (m31, .inl (knx, 8, .inl (nR (updN nq3 t ow)))), (ua, .inl (krw, 8, .inr (.inr (.inr (.inr fa))))), (ub, .inl (krw, 8, .inr (.inr (.inr (.inr fb)))))] L fq_262) H := hP
                      replace hD : va_D A (vpl [(h0, .inr (8, [.int x0, .int x1, .ref m2, .int (nI c3), .ref m4, .ref m5, .ref m6, .ref m7, .ref m8, .ref m9, .ref m10, .ref m11, .int (nI c12), .int (nI c13), .int (nI c14), .ref m15, .ref m16, .ref m17, .ref m18, .ref m19, .int (nI c20), .int x21, .int (nI c22), .int (nI c23), .ref m24, .ref m25, .int (nI c26), .int (nI c27), .int x28, .ref m29, .ref m30, .ref m31, .ref ua, .ref ub, .ref m34, .int x35, .ref m36, .int (nI c37)])), (m29, .inl (ktb, 480, .inl (nR tb8))), (m30, .inl (kch, 8, .inl (nR cq))), (m31, .inl (knx, 8, .inl (nR (updN nq3 t ow)))), (ua, .inl (krw, 8, .inr (.inr (.inr (.inr fa))))), (ub, .inl (krw, 8, .inr (.inr (.inr (.inr fb)))))] L fq_262) := hD
                      have e9t : fq_262 = va_up fq5 a_257 (.inl (krb, 60, .inl (upd h_257 i (nI t)))) := e9_262.trans (by rw [upd_e (by omega) rfl (by omega)])
                      have hki : ¬ (updN nq3 t ow) t = 2147483647 → k = i := fun h9 => by rcases hJ251 with h8 | h8; exact h8; (rcases hxj with ⟨h7, _⟩ | ⟨_, h7⟩; exact absurd (h7.symm.trans h8) (nI_nm1 (by omega)); exact h7.elim (fun h6 => absurd h6 h9) (fun h6 => by omega))
                      have hNn : ∀ u, u < t + 1 → MR (cs8 tb8) c22 c14 (opM p0 p1) (i + 1) u ((updN nq3 t ow) u) (va_up Q2 t (updN (Q jx) i t) u) ∧ (¬ (updN nq3 t ow) u = 2147483647 → RWV fq_262 krb fb (va_up Q2 t (updN (Q jx) i t) u) (i + 1) u) := fun u hu => by
                        by_cases e : u = t
                        · rw [e, va_up_self]
                          refine ⟨hMR, fun h9 => ?_⟩
                          have hk9 := hki h9
                          rw [e9t]
                          exact RWV_y hf_257 (fun q hq => RWV_g hCp hf_257 hh_257 q (by omega)) (by omega)
                        · rw [va_up_ne _ _ e, hgu u (by omega)]
                          refine ⟨(hN u (by omega)).1, fun h9 => ?_⟩
                          rw [e9t]
                          exact RWV_n (hNl u (by omega) h9) (fun h8 => absurd (hDS.2.1 u t _ (by omega) (by omega) h8 hf_257) e)
                      have hOn : i = 0 ∨ ∀ p, p < c14 → ¬ cq p = 2147483647 → RWV fq_262 krb fa (Q p) i p := hOl.imp id (fun h p hp hn => by rw [e9t]; exact RWV_n (h p hp hn) (fun h9 => hDS.2.2 p t _ (by omega) (by omega) h9 hf_257))
                      refine lv_iinc (v := nI (t + 1)) (lv' := [(4, .int (nI (t + 1))), (0, .ref h0), (1, .int p0), (2, .int p1), (3, .int (nI i)), (5, .int (nI ow)), (6, .int x6), (7, .int (nI k))]) hx hb dX8_parts_263 hl (k := 4) rfl (nI_1 _) (by decide) rfl (fun ls hl => ?_)
                      refine lv_goto (tgt := 13) hx hb dX8_parts_266 (by decide) ?_
                      replace hl : lv_has ls 9 [(0, .ref h0), (1, .int p0), (2, .int p1), (3, .int (nI i)), (4, .int (nI (t + 1)))] := lv_sub hl [1, 2, 3, 4, 0] rfl
                      replace hP : va_P (dC, dI) vwCl (vpl [(h0, .inr (8, [.int x0, .int x1, .ref m2, .int (nI c3), .ref m4, .ref m5, .ref m6, .ref m7, .ref m8, .ref m9, .ref m10, .ref m11, .int (nI c12), .int (nI c13), .int (nI c14), .ref m15, .ref m16, .ref m17, .ref m18, .ref m19, .int (nI c20), .int x21, .int (nI c22), .int (nI c23), .ref m24, .ref m25, .int (nI c26), .int (nI c27), .int x28, .ref m29, .ref m30, .ref m31, .ref ua, .ref ub, .ref m34, .int x35, .ref m36, .int (nI c37)])), (m29, .inl (ktb, 480, .inl (nR tb8))), (m30, .inl (kch, 8, .inl (nR cq))), (m31, .inl (knx, 8, .inl (nR (updN nq3 t ow)))), (ua, .inl (krw, 8, .inr (.inr (.inr (.inr fa))))), (ub, .inl (krw, 8, .inr (.inr (.inr (.inr fb)))))] L fq_262) H := hP
                      replace hD : va_D A (vpl [(h0, .inr (8, [.int x0, .int x1, .ref m2, .int (nI c3), .ref m4, .ref m5, .ref m6, .ref m7, .ref m8, .ref m9, .ref m10, .ref m11, .int (nI c12), .int (nI c13), .int (nI c14), .ref m15, .ref m16, .ref m17, .ref m18, .ref m19, .int (nI c20), .int x21, .int (nI c22), .int (nI c23), .ref m24, .ref m25, .int (nI c26), .int (nI c27), .int x28, .ref m29, .ref m30, .ref m31, .ref ua, .ref ub, .ref m34, .int x35, .ref m36, .int (nI c37)])), (m29, .inl (ktb, 480, .inl (nR tb8))), (m30, .inl (kch, 8, .inl (nR cq))), (m31, .inl (knx, 8, .inl (nR (updN nq3 t ow)))), (ua, .inl (krw, 8, .inr (.inr (.inr (.inr fa))))), (ub, .inl (krw, 8, .inr (.inr (.inr (.inr fb)))))] L fq_262) := hD
                      have hN9 : ∀ u, u < (t + 1) → MR (cs8 tb8) c22 c14 (opM p0 p1) (i + 1) u ((updN nq3 t ow) u) ((va_up Q2 t (updN (Q jx) i t)) u) ∧ (¬ (updN nq3 t ow) u = 2147483647 → RWV fq_262 krb fb ((va_up Q2 t (updN (Q jx) i t)) u) (i + 1) u) := hNn
                      have hO9 : i = 0 ∨ ∀ p, p < c14 → ¬ cq p = 2147483647 → RWV fq_262 krb fa (Q p) i p := hOn
                      apply ih13 (t := t + 1) (fq2 := fq_262) (nq2 := updN nq3 t ow) (Q2 := (va_up Q2 t (updN (Q jx) i t))) <;> first | assumption | omega
