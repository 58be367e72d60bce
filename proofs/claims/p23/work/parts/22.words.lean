set_option maxHeartbeats 4000000 in
set_option maxRecDepth 100000 in
theorem g_X6_isSame (l : Launch) (dC : Nat → ClassId) (dI : Nat → Nat → Nat) (h0 : Nat) (l0 : Nat) (l1 : Nat) (z : Nat) (mm : Nat) (qq : Nat) (kt : ClassId) (kw : ClassId) (lt : Nat → Nat) (lw : Nat → Nat) (s0 : Nat) (d0 : Nat) (d1 : Nat) (d2 : Nat) (n : Nat) (w : Nat) (kd : ClassId) (kb : ClassId) (kl : ClassId) (g : Nat → Nat) (sb : Nat → Nat) (ln : Nat → Nat) (pl : Nat) (i : Nat) (hm : mm ≤ 60) (hq : 24 * mm ≤ qq ∧ qq ≤ 1440) (hlt : ∀ j, lt j < 30) (hi : i < 60) (hsl : sb i + ln i ≤ 600) (hg : ∀ j, g j < 30) (hp : pl < mm) (hlw : lw pl ≤ 24) : Met l yX6_isSame wsX6_isSame ({ frames := 0, cells := 0, slots := 0, locals := 0 }) (va_Pc [.ref h0, .int (nI pl), .ref s0, .int (nI i)] (fun U => va_P (dC, dI) vwCl [(h0, .inr (6, [.ref l0, .ref l1, .int (nI z)])), (l0, .inl (kt, qq, .inl (nR lt))), (l1, .inl (kw, mm, .inl (nR lw))), (s0, .inr (2, [.ref d0, .ref d1, .ref d2, .int (nI n), .int (nI w)])), (d0, .inl (kd, 600, .inl (nR g))), (d1, .inl (kb, 60, .inl (nR sb))), (d2, .inl (kl, 60, .inl (nR ln)))] U.heap ∧ va_K (dC, dI) vwCl [(kt, .byte), (kw, .int), (kd, .byte), (kb, .int), (kl, .int)] U)) (vp_Si (fun r => ((r = 1 ∧ (sW lt lw g (sb i) (ln i) pl)) ∨ (r = 0 ∧ ¬ (sW lt lw g (sb i) (ln i) pl))))) 0 0 (fun _ => False) := by
  refine Met.ofW (cc := cX6_isSame) (maxL := 7) (ret := (some .boolean)) (by decide) rfl ?_
  intro p e s m args below meth c s₁ B hml hv
  obtain ⟨rfl, hP, hK⟩ := hv
  have hx := B.exec
  have hb := B.bytes
  have hr := B.returns
  have hts := atoms_spec (ws := wsX6_isSame) B.pre
  have hown : s.vm.findClass RX6 = some m.cls := findClass_of_methodNamed B.named
  have hlocks := B.notSynchronized
  replace hP : va_P (dC, dI) vwCl [(h0, .inr (6, [.ref l0, .ref l1, .int (nI z)])), (l0, .inl (kt, qq, .inl (nR lt))), (l1, .inl (kw, mm, .inl (nR lw))), (s0, .inr (2, [.ref d0, .ref d1, .ref d2, .int (nI n), .int (nI w)])), (d0, .inl (kd, 600, .inl (nR g))), (d1, .inl (kb, 60, .inl (nR sb))), (d2, .inl (kl, 60, .inl (nR ln)))] s.heap := hP
  have hl := lv_entry ([.ref h0, .int (nI pl), .ref s0, .int (nI i)]) (n := 7) (Nat.le_of_ble_eq_true rfl)
  rw [lg_entry_eq]
  generalize (lg_sl ([.ref h0, .int (nI pl), .ref s0, .int (nI i)]) ++ List.replicate (7 - (lg_sl ([.ref h0, .int (nI pl), .ref s0, .int (nI i)])).length) Slot.unset).toArray = ls at hl ⊢
  replace hl : lv_has ls 7 [(0, .ref h0), (1, .int (nI pl)), (2, .ref s0), (3, .int (nI i))] := hl
  have hi_X6 : ∀ w ∈ wsX60, w ∈ wsX6_isSame := by decide +kernel
  have k_f28 := hts (.fieldLink RX6 28 "TongueTeller$WordList" "lengths" "[I") (by decide +kernel)
  have hi_X2 : ∀ w ∈ wsX20, w ∈ wsX6_isSame := by decide +kernel
  have k_f36 := hts (.fieldLink RX6 36 "TongueTeller$Script" "lengths" "[I") (by decide +kernel)
  have k_f42 := hts (.fieldLink RX6 42 "TongueTeller$Script" "starts" "[I") (by decide +kernel)
  have k_f24 := hts (.fieldLink RX6 24 "TongueTeller$WordList" "letters" "[B") (by decide +kernel)
  have k_f39 := hts (.fieldLink RX6 39 "TongueTeller$Script" "signs" "[B") (by decide +kernel)
  refine lv_aload_n hx hb dX6_isSame_0 rfl (lv_at hl 0 rfl) ?_
  refine va_get (D := (dC, dI)) (ci := 6) (v := .ref l1) (C := RX6) (T := TX6) (N := 3) hx hb hts hi_X6 hown hK hP 0 rfl rfl 1 (by decide) k_f28 (fun _ h9 => h9) rfl dX6_isSame_1 ?_
  refine lv_iload_n hx hb dX6_isSame_4 rfl (lv_at hl 1 rfl) ?_
  refine va_iald hx hb hK hP 2 1 rfl rfl (i := nI pl) (vp_in_nI (by omega) (by omega)) dX6_isSame_5 ?_
  refine lv_topi (fun x_5 ex_5 => ?_)
  obtain rfl : nI (lw pl) = x_5 := Eq.symm (ex_5.trans (nR_at (by omega)))
  refine lv_istore (lv' := [(4, .int (nI (lw pl))), (0, .ref h0), (1, .int (nI pl)), (2, .ref s0), (3, .int (nI i))]) hx hb dX6_isSame_6 hl (by decide) rfl (fun ls hl => ?_)
  refine lv_aload_n hx hb dX6_isSame_8 rfl (lv_at hl 3 rfl) ?_
  refine va_get (D := (dC, dI)) (ci := 2) (v := .ref d2) (C := RX2) (T := TX2) (N := 5) hx hb hts hi_X2 hown hK hP 3 rfl rfl 2 (by decide) k_f36 (fun _ h9 => h9) rfl dX6_isSame_9 ?_
  refine lv_iload_n hx hb dX6_isSame_12 rfl (lv_at hl 4 rfl) ?_
  refine va_iald hx hb hK hP 6 4 rfl rfl (i := nI i) (vp_in_nI (by omega) (by omega)) dX6_isSame_13 ?_
  refine lv_topi (fun x_13 ex_13 => ?_)
  obtain rfl : nI (ln i) = x_13 := Eq.symm (ex_13.trans (nR_at (by omega)))
  refine lv_iload hx hb dX6_isSame_14 (lv_at hl 0 rfl) ?_
  refine lv_icmp_eq (tgt := 21) hx hb dX6_isSame_16 (by decide) (fun c_16 => ?_) (fun c_16 => ?_)
  · have n_16 : (ln i) = (lw pl) := (nI_eq (a := (ln i)) (b := (lw pl)) (by omega) (by omega)).mp c_16
    refine lv_aload_n hx hb dX6_isSame_21 rfl (lv_at hl 3 rfl) ?_
    refine va_get (D := (dC, dI)) (ci := 2) (v := .ref d1) (C := RX2) (T := TX2) (N := 5) hx hb hts hi_X2 hown hK hP 3 rfl rfl 1 (by decide) k_f42 (fun _ h9 => h9) rfl dX6_isSame_22 ?_
    refine lv_iload_n hx hb dX6_isSame_25 rfl (lv_at hl 4 rfl) ?_
    refine va_iald hx hb hK hP 5 3 rfl rfl (i := nI i) (vp_in_nI (by omega) (by omega)) dX6_isSame_26 ?_
    refine lv_topi (fun x_26 ex_26 => ?_)
    obtain rfl : nI (sb i) = x_26 := Eq.symm (ex_26.trans (nR_at (by omega)))
    refine lv_istore (lv' := [(5, .int (nI (sb i))), (4, .int (nI (lw pl))), (0, .ref h0), (1, .int (nI pl)), (2, .ref s0), (3, .int (nI i))]) hx hb dX6_isSame_27 hl (by decide) rfl (fun ls hl => ?_)
    refine lv_iconst (v := 0) hx hb dX6_isSame_29 (by decide) ?_
    refine lv_istore (lv' := [(6, .int 0), (5, .int (nI (sb i))), (4, .int (nI (lw pl))), (0, .ref h0), (1, .int (nI pl)), (2, .ref s0), (3, .int (nI i))]) hx hb dX6_isSame_30 hl (by decide) rfl (fun ls hl => ?_)
    obtain ⟨kk, e_kk⟩ : ∃ y : Nat, y = 0 := ⟨_, rfl⟩
    replace hl : lv_has ls 7 [(0, .ref h0), (1, .int (nI pl)), (2, .ref s0), (3, .int (nI i)), (4, .int (nI (lw pl))), (5, .int (nI (sb i))), (6, .int (nI kk))] := by subst e_kk; exact lv_sub hl [3, 4, 5, 6, 2, 1, 0] rfl
    have hk1 : kk ≤ lw pl := by subst e_kk; exact Nat.zero_le _
    have hk2 : ∀ k, k < kk → lt (pl * 24 + k) = g (sb i + k) := by subst e_kk; exact fun k hk => absurd hk (Nat.not_lt_zero k)
    clear e_kk
    obtain ⟨nn32, hnn32⟩ : ∃ q : Nat, lw pl - kk < q := ⟨_, Nat.lt_succ_self _⟩
    induction nn32 generalizing kk ls with
    | zero => exact absurd hnn32 (Nat.not_lt_zero _)
    | succ nn32 ih32 =>
      refine lv_iload hx hb dX6_isSame_32 (lv_at hl 6 rfl) ?_
      refine lv_iload hx hb dX6_isSame_34 (lv_at hl 4 rfl) ?_
      refine lv_icmp_ge (tgt := 72) hx hb dX6_isSame_36 (by decide) (fun c_36 => ?_) (fun c_36 => ?_)
      · have n_36 : (lw pl) ≤ kk := (nI_leI (a := (lw pl)) (b := kk) (by omega) (by omega)).mp c_36
        refine lv_iconst (v := 1) hx hb dX6_isSame_72 (by decide) ?_
        exact W.zret (v := 1) hx hb hr (rfl) (fun t ht hW => ⟨1, rfl, Or.inl ⟨rfl, by exact ⟨n_16.symm, fun k hk => hk2 k (by omega)⟩⟩, ht⟩) (fun _ h => absurd h List.not_mem_nil) dX6_isSame_73
      · have n_36 : kk < (lw pl) := Nat.not_le.mp (fun h9 => c_36 ((nI_leI (a := (lw pl)) (b := kk) (by omega) (by omega)).mpr h9))
        refine lv_aload_n hx hb dX6_isSame_39 rfl (lv_at hl 0 rfl) ?_
        refine va_get (D := (dC, dI)) (ci := 6) (v := .ref l0) (C := RX6) (T := TX6) (N := 3) hx hb hts hi_X6 hown hK hP 0 rfl rfl 0 (by decide) k_f24 (fun _ h9 => h9) rfl dX6_isSame_40 ?_
        refine lv_iload_n hx hb dX6_isSame_43 rfl (lv_at hl 1 rfl) ?_
        refine lv_bipush (v := 24) hx hb dX6_isSame_44 (by decide) ?_
        refine lv_imul hx hb dX6_isSame_46 ?_
        refine lv_topi (fun x_46 ex_46 => ?_)
        obtain rfl : nI (pl * 24) = x_46 := Eq.symm (ex_46.trans (pk_mul pl 24))
        refine lv_iload hx hb dX6_isSame_47 (lv_at hl 6 rfl) ?_
        refine lv_iadd hx hb dX6_isSame_49 ?_
        refine lv_topi (fun x_49 ex_49 => ?_)
        obtain rfl : nI (pl * 24 + kk) = x_49 := Eq.symm (ex_49.trans (nI_add (pl * 24) kk))
        refine va_bald hx hb hK hP 1 0 rfl rfl (i := nI (pl * 24 + kk)) (vp_in_nI (by omega) (by omega)) dX6_isSame_50 ?_
        refine lv_topi (fun x_50 ex_50 => ?_)
        obtain rfl : nI (lt (pl * 24 + kk)) = x_50 := Eq.symm (ex_50.trans (nR_at (by omega)))
        refine lv_aload_n hx hb dX6_isSame_51 rfl (lv_at hl 2 rfl) ?_
        refine va_get (D := (dC, dI)) (ci := 2) (v := .ref d0) (C := RX2) (T := TX2) (N := 5) hx hb hts hi_X2 hown hK hP 3 rfl rfl 0 (by decide) k_f39 (fun _ h9 => h9) rfl dX6_isSame_52 ?_
        refine lv_iload hx hb dX6_isSame_55 (lv_at hl 5 rfl) ?_
        refine lv_iload hx hb dX6_isSame_57 (lv_at hl 6 rfl) ?_
        refine lv_iadd hx hb dX6_isSame_59 ?_
        refine lv_topi (fun x_59 ex_59 => ?_)
        obtain rfl : nI (sb i + kk) = x_59 := Eq.symm (ex_59.trans (nI_add (sb i) kk))
        refine va_bald hx hb hK hP 4 2 rfl rfl (i := nI (sb i + kk)) (vp_in_nI (by omega) (by omega)) dX6_isSame_60 ?_
        refine lv_topi (fun x_60 ex_60 => ?_)
        obtain rfl : nI (g (sb i + kk)) = x_60 := Eq.symm (ex_60.trans (nR_at (by omega)))
        have h61a := hlt ((pl * 24) + kk)
        have h61b := hg (sb i + kk)
        refine lv_icmp_eq (tgt := 66) hx hb dX6_isSame_61 (by decide) (fun c_61 => ?_) (fun c_61 => ?_)
        · have n_61 : (lt (pl * 24 + kk)) = (g (sb i + kk)) := (nI_eq (a := (lt (pl * 24 + kk))) (b := (g (sb i + kk))) (by omega) (by omega)).mp c_61
          refine lv_iinc (v := nI (kk + 1)) (lv' := [(6, .int (nI (kk + 1))), (0, .ref h0), (1, .int (nI pl)), (2, .ref s0), (3, .int (nI i)), (4, .int (nI (lw pl))), (5, .int (nI (sb i)))]) hx hb dX6_isSame_66 hl (k := 6) rfl (nI_1 _) (by decide) rfl (fun ls hl => ?_)
          refine lv_goto (tgt := 32) hx hb dX6_isSame_69 (by decide) ?_
          replace hl : lv_has ls 7 [(0, .ref h0), (1, .int (nI pl)), (2, .ref s0), (3, .int (nI i)), (4, .int (nI (lw pl))), (5, .int (nI (sb i))), (6, .int (nI (kk + 1)))] := lv_sub hl [1, 2, 3, 4, 5, 6, 0] rfl
          have hk29 : ∀ k, k < (kk + 1) → lt (pl * 24 + k) = g (sb i + k) := sW_s hk2 n_61
          apply ih32 (kk := kk + 1) <;> first | assumption | omega
        · have n_61 : (lt (pl * 24 + kk)) ≠ (g (sb i + kk)) := fun h9 => c_61 ((nI_eq (a := (lt (pl * 24 + kk))) (b := (g (sb i + kk))) (by omega) (by omega)).mpr h9)
          refine lv_iconst (v := 0) hx hb dX6_isSame_64 (by decide) ?_
          exact W.zret (v := 0) hx hb hr (rfl) (fun t ht hW => ⟨0, rfl, Or.inr ⟨rfl, by exact fun h => n_61 (h.2 kk (by omega))⟩, ht⟩) (fun _ h => absurd h List.not_mem_nil) dX6_isSame_65
  · have n_16 : (ln i) ≠ (lw pl) := fun h9 => c_16 ((nI_eq (a := (ln i)) (b := (lw pl)) (by omega) (by omega)).mpr h9)
    refine lv_iconst (v := 0) hx hb dX6_isSame_19 (by decide) ?_
    exact W.zret (v := 0) hx hb hr (rfl) (fun t ht hW => ⟨0, rfl, Or.inr ⟨rfl, by exact fun h => n_16 h.1.symm⟩, ht⟩) (fun _ h => absurd h List.not_mem_nil) dX6_isSame_20

set_option maxHeartbeats 4000000 in
set_option maxRecDepth 100000 in
theorem g_X6_placeOf (l : Launch) (dC : Nat → ClassId) (dI : Nat → Nat → Nat) (h0 : Nat) (l0 : Nat) (l1 : Nat) (z : Nat) (mm : Nat) (qq : Nat) (kt : ClassId) (kw : ClassId) (lt : Nat → Nat) (lw : Nat → Nat) (s0 : Nat) (d0 : Nat) (d1 : Nat) (d2 : Nat) (n : Nat) (w : Nat) (kd : ClassId) (kb : ClassId) (kl : ClassId) (g : Nat → Nat) (sb : Nat → Nat) (ln : Nat → Nat) (i : Nat) (hm : mm ≤ 60) (hq : 24 * mm ≤ qq ∧ qq ≤ 1440) (hlt : ∀ j, lt j < 30) (hi : i < 60) (hsl : sb i + ln i ≤ 600) (hg : ∀ j, g j < 30) (hz : z ≤ mm) (hlw : ∀ p, p < z → lw p ≤ 24) : Met l yX6_placeOf wsX6_placeOf ({ frames := 1, cells := 0, slots := 0, locals := 26 }) (va_Pc [.ref h0, .ref s0, .int (nI i)] (fun U => va_P (dC, dI) vwCl [(h0, .inr (6, [.ref l0, .ref l1, .int (nI z)])), (l0, .inl (kt, qq, .inl (nR lt))), (l1, .inl (kw, mm, .inl (nR lw))), (s0, .inr (2, [.ref d0, .ref d1, .ref d2, .int (nI n), .int (nI w)])), (d0, .inl (kd, 600, .inl (nR g))), (d1, .inl (kb, 60, .inl (nR sb))), (d2, .inl (kl, 60, .inl (nR ln)))] U.heap ∧ va_K (dC, dI) vwCl [(kt, .byte), (kw, .int), (kd, .byte), (kb, .int), (kl, .int)] U)) (vp_Si (fun r => ((r = (-1) ∧ (∀ p, p < z → ¬ sW lt lw g (sb i) (ln i) p)) ∨ (∃ pp : Nat, r = nI pp ∧ (pp < z ∧ sW lt lw g (sb i) (ln i) pp ∧ ∀ p, p < pp → ¬ sW lt lw g (sb i) (ln i) p))))) 0 0 (fun _ => False) := by
  refine Met.ofW (cc := cX6_placeOf) (maxL := 4) (ret := (some .int)) (by decide) rfl ?_
  intro p e s m args below meth c s₁ B hml hv
  obtain ⟨rfl, hP, hK⟩ := hv
  have hx := B.exec
  have hb := B.bytes
  have hr := B.returns
  have hts := atoms_spec (ws := wsX6_placeOf) B.pre
  have hown : s.vm.findClass RX6 = some m.cls := findClass_of_methodNamed B.named
  have hlocks := B.notSynchronized
  replace hP : va_P (dC, dI) vwCl [(h0, .inr (6, [.ref l0, .ref l1, .int (nI z)])), (l0, .inl (kt, qq, .inl (nR lt))), (l1, .inl (kw, mm, .inl (nR lw))), (s0, .inr (2, [.ref d0, .ref d1, .ref d2, .int (nI n), .int (nI w)])), (d0, .inl (kd, 600, .inl (nR g))), (d1, .inl (kb, 60, .inl (nR sb))), (d2, .inl (kl, 60, .inl (nR ln)))] s.heap := hP
  have hl := lv_entry ([.ref h0, .ref s0, .int (nI i)]) (n := 4) (Nat.le_of_ble_eq_true rfl)
  rw [lg_entry_eq]
  generalize (lg_sl ([.ref h0, .ref s0, .int (nI i)]) ++ List.replicate (4 - (lg_sl ([.ref h0, .ref s0, .int (nI i)])).length) Slot.unset).toArray = ls at hl ⊢
  replace hl : lv_has ls 4 [(0, .ref h0), (1, .ref s0), (2, .int (nI i))] := hl
  have hi_X6 : ∀ w ∈ wsX60, w ∈ wsX6_placeOf := by decide +kernel
  have k_f9 := hts (.fieldLink RX6 9 "TongueTeller$WordList" "size" "I") (by decide +kernel)
  refine lv_iconst (v := 0) hx hb dX6_placeOf_0 (by decide) ?_
  refine lv_istore_n (lv' := [(3, .int 0), (0, .ref h0), (1, .ref s0), (2, .int (nI i))]) hx hb dX6_placeOf_1 rfl hl (by decide) rfl (fun ls hl => ?_)
  obtain ⟨pp, e_pp⟩ : ∃ y : Nat, y = 0 := ⟨_, rfl⟩
  replace hl : lv_has ls 4 [(0, .ref h0), (1, .ref s0), (2, .int (nI i)), (3, .int (nI pp))] := by subst e_pp; exact lv_sub hl [1, 2, 3, 0] rfl
  have hp1 : pp ≤ z := by subst e_pp; exact Nat.zero_le _
  have hp2 : ∀ p, p < pp → ¬ sW lt lw g (sb i) (ln i) p := by subst e_pp; exact fun p hp => absurd hp (Nat.not_lt_zero p)
  clear e_pp
  obtain ⟨nn2, hnn2⟩ : ∃ q : Nat, z - pp < q := ⟨_, Nat.lt_succ_self _⟩
  induction nn2 generalizing pp ls with
  | zero => exact absurd hnn2 (Nat.not_lt_zero _)
  | succ nn2 ih2 =>
    refine lv_iload_n hx hb dX6_placeOf_2 rfl (lv_at hl 3 rfl) ?_
    refine lv_aload_n hx hb dX6_placeOf_3 rfl (lv_at hl 0 rfl) ?_
    refine va_get (D := (dC, dI)) (ci := 6) (v := .int (nI z)) (C := RX6) (T := TX6) (N := 3) hx hb hts hi_X6 hown hK hP 0 rfl rfl 2 (by decide) k_f9 (fun _ h9 => h9) rfl dX6_placeOf_4 ?_
    refine lv_icmp_ge (tgt := 28) hx hb dX6_placeOf_7 (by decide) (fun c_7 => ?_) (fun c_7 => ?_)
    · have n_7 : z ≤ pp := (nI_leI (a := z) (b := pp) (by omega) (by omega)).mp c_7
      refine lv_iconst (v := (-1)) hx hb dX6_placeOf_28 (by decide) ?_
      exact W.iret (v := (-1)) hx hb hr (fun t ht hW => ⟨(-1), rfl, Or.inl ⟨rfl, by exact fun p hp => hp2 p (by omega)⟩, ht⟩) (fun _ h => absurd h List.not_mem_nil) dX6_placeOf_29
    · have n_7 : pp < z := Nat.not_le.mp (fun h9 => c_7 ((nI_leI (a := z) (b := pp) (by omega) (by omega)).mpr h9))
      refine lv_aload_n hx hb dX6_placeOf_10 rfl (lv_at hl 0 rfl) ?_
      refine lv_iload_n hx hb dX6_placeOf_11 rfl (lv_at hl 3 rfl) ?_
      refine lv_aload_n hx hb dX6_placeOf_12 rfl (lv_at hl 1 rfl) ?_
      refine lv_iload_n hx hb dX6_placeOf_13 rfl (lv_at hl 2 rfl) ?_
      have hPc := hP.sub (ws' := [(h0, .inr (6, [.ref l0, .ref l1, .int (nI z)])), (l0, .inl (kt, qq, .inl (nR lt))), (l1, .inl (kw, mm, .inl (nR lw))), (s0, .inr (2, [.ref d0, .ref d1, .ref d2, .int (nI n), .int (nI w)])), (d0, .inl (kd, 600, .inl (nR g))), (d1, .inl (kb, 60, .inl (nR sb))), (d2, .inl (kl, 60, .inl (nR ln)))]) [0, 1, 2, 3, 4, 5, 6] rfl
      have hKc := hK.sub (tys' := [(kt, .byte), (kw, .int), (kd, .byte), (kb, .int), (kl, .int)]) [0, 1, 2, 3, 4] rfl
      refine vp_callSi (W.runV (As := [.int (nI pp), .ref s0, .int (nI i)]) (rest := []) ⟨hx, hb, hml, hown, hts⟩ (g_X6_isSame l dC dI h0 l0 l1 z mm qq kt kw lt lw s0 d0 d1 d2 n w kd kb kl g sb ln pp i (hm) (hq) (hlt) (hi) (hsl) (hg) (by omega) (hlw _ (by omega))) (cwV 3 hts gX6_placeOf_X6_isSame rfl rfl rfl (by decide +kernel) ⟨Nat.le_of_ble_eq_true rfl, Nat.le_of_ble_eq_true rfl⟩) ⟨fun a U g mk q => by obtain ⟨q0, qP, qK⟩ := q; exact ⟨q0, qP, va_K.moved (u := U) (U := U.calling g mk a) (Vm.Alike.refl U.vm) qK⟩, va_recv hK hP (ci := 6) (q0 := 0) rfl rfl, fun U hU hW => ⟨rfl, by rw [hU]; exact hPc, va_K.moved hW.alike hKc⟩⟩ rfl rfl hl.1 rfl (lv_room (Nat.le_of_ble_eq_true rfl)) dX6_placeOf_14 ⟨Nat.le_of_ble_eq_true rfl, Nat.le_of_ble_eq_true rfl⟩) (fun r_14 hw_14 => ?_)
      clear hPc
      rcases hw_14 with ⟨hr_14, hb_14⟩ | ⟨hr_14, hb_14⟩
      · subst hr_14
        refine lv_if_eq (tgt := 22) hx hb dX6_placeOf_17 (by decide) (fun c_17 => ?_) (fun c_17 => ?_)
        · exact absurd c_17 (by decide)
        refine lv_iload_n hx hb dX6_placeOf_20 rfl (lv_at hl 3 rfl) ?_
        exact W.iret (v := nI pp) hx hb hr (fun t ht hW => ⟨nI pp, rfl, Or.inr ⟨pp, rfl, by exact ⟨n_7, hb_14, hp2⟩⟩, ht⟩) (fun _ h => absurd h List.not_mem_nil) dX6_placeOf_21
      · subst hr_14
        refine lv_if_eq (tgt := 22) hx hb dX6_placeOf_17 (by decide) (fun c_17 => ?_) (fun c_17 => ?_)
        rotate_left
        · exact absurd (by decide) c_17
        refine lv_iinc (v := nI (pp + 1)) (lv' := [(3, .int (nI (pp + 1))), (0, .ref h0), (1, .ref s0), (2, .int (nI i))]) hx hb dX6_placeOf_22 hl (k := 3) rfl (nI_1 _) (by decide) rfl (fun ls hl => ?_)
        refine lv_goto (tgt := 2) hx hb dX6_placeOf_25 (by decide) ?_
        replace hl : lv_has ls 4 [(0, .ref h0), (1, .ref s0), (2, .int (nI i)), (3, .int (nI (pp + 1)))] := lv_sub hl [1, 2, 3, 0] rfl
        have hp29 : ∀ p, p < (pp + 1) → ¬ sW lt lw g (sb i) (ln i) p := lt_s hp2 hb_14
        apply ih2 (pp := pp + 1) <;> first | assumption | omega

set_option maxHeartbeats 4000000 in
set_option maxRecDepth 100000 in
theorem g_X6_take (l : Launch) (dC : Nat → ClassId) (dI : Nat → Nat → Nat) (h0 : Nat) (l0 : Nat) (l1 : Nat) (z : Nat) (mm : Nat) (qq : Nat) (kt : ClassId) (kw : ClassId) (lt : Nat → Nat) (lw : Nat → Nat) (s0 : Nat) (d0 : Nat) (d1 : Nat) (d2 : Nat) (n : Nat) (w : Nat) (kd : ClassId) (kb : ClassId) (kl : ClassId) (g : Nat → Nat) (sb : Nat → Nat) (ln : Nat → Nat) (i : Nat) (sz : Nat) (hm : mm ≤ 60) (hq : 24 * mm ≤ qq ∧ qq ≤ 1440) (hlt : ∀ j, lt j < 30) (hi : i < 60) (hsl : sb i + ln i ≤ 600) (hg : ∀ j, g j < 30) (hz : z ≤ mm) : Met l yX6_take wsX6_take ({ frames := 1, cells := 0, slots := 0, locals := 18 }) (va_Pc [.ref h0, .ref s0, .int (nI i)] (fun U => U.heap.size = sz ∧ va_P (dC, dI) vwCl [(h0, .inr (6, [.ref l0, .ref l1, .int (nI z)])), (l0, .inl (kt, qq, .inl (nR lt))), (l1, .inl (kw, mm, .inl (nR lw))), (s0, .inr (2, [.ref d0, .ref d1, .ref d2, .int (nI n), .int (nI w)])), (d0, .inl (kd, 600, .inl (nR g))), (d1, .inl (kb, 60, .inl (nR sb))), (d2, .inl (kl, 60, .inl (nR ln)))] U.heap ∧ va_K (dC, dI) vwCl [(kt, .byte), (kw, .int), (kd, .byte), (kb, .int), (kl, .int)] U ∧ va_D (fun _ => True) [(h0, .inr (6, [.ref l0, .ref l1, .int (nI z)])), (l0, .inl (kt, qq, .inl (nR lt))), (l1, .inl (kw, mm, .inl (nR lw))), (s0, .inr (2, [.ref d0, .ref d1, .ref d2, .int (nI n), .int (nI w)])), (d0, .inl (kd, 600, .inl (nR g))), (d1, .inl (kb, 60, .inl (nR sb))), (d2, .inl (kl, 60, .inl (nR ln)))])) (va_Qi (fun (r : Int32) (u : Nat × (Nat → Nat) × (Nat → Nat)) => match u with | (zo, to, wo) => ((r = (-1) ∧ ((mm ≤ z ∨ 24 < ln i) ∧ zo = z ∧ to = lt ∧ wo = lw)) ∨ (∃ pp : Nat, r = nI pp ∧ (pp = z ∧ z < mm ∧ ln i ≤ 24 ∧ zo = z + 1 ∧ to = va_cpy g lt (sb i) (z * 24) (ln i) ∧ wo = updN lw z (ln i))))) (fun (u : Nat × (Nat → Nat) × (Nat → Nat)) (t : State) => match u with | (zo, to, wo) => va_P (dC, dI) vwCl [(h0, .inr (6, [.ref l0, .ref l1, .int (nI zo)])), (l0, .inl (kt, qq, .inl (nR to))), (l1, .inl (kw, mm, .inl (nR wo))), (s0, .inr (2, [.ref d0, .ref d1, .ref d2, .int (nI n), .int (nI w)])), (d0, .inl (kd, 600, .inl (nR g))), (d1, .inl (kb, 60, .inl (nR sb))), (d2, .inl (kl, 60, .inl (nR ln)))] t.heap ∧ va_D (va_A [(h0, .inr (6, [.ref l0, .ref l1, .int (nI z)])), (l0, .inl (kt, qq, .inl (nR lt))), (l1, .inl (kw, mm, .inl (nR lw))), (s0, .inr (2, [.ref d0, .ref d1, .ref d2, .int (nI n), .int (nI w)])), (d0, .inl (kd, 600, .inl (nR g))), (d1, .inl (kb, 60, .inl (nR sb))), (d2, .inl (kl, 60, .inl (nR ln)))] sz) [(h0, .inr (6, [.ref l0, .ref l1, .int (nI zo)])), (l0, .inl (kt, qq, .inl (nR to))), (l1, .inl (kw, mm, .inl (nR wo))), (s0, .inr (2, [.ref d0, .ref d1, .ref d2, .int (nI n), .int (nI w)])), (d0, .inl (kd, 600, .inl (nR g))), (d1, .inl (kb, 60, .inl (nR sb))), (d2, .inl (kl, 60, .inl (nR ln)))]) (va_A [(h0, .inr (6, [.ref l0, .ref l1, .int (nI z)])), (l0, .inl (kt, qq, .inl (nR lt))), (l1, .inl (kw, mm, .inl (nR lw))), (s0, .inr (2, [.ref d0, .ref d1, .ref d2, .int (nI n), .int (nI w)])), (d0, .inl (kd, 600, .inl (nR g))), (d1, .inl (kb, 60, .inl (nR sb))), (d2, .inl (kl, 60, .inl (nR ln)))] sz)) 0 0 (va_A [(h0, .inr (6, [.ref l0, .ref l1, .int (nI z)])), (l0, .inl (kt, qq, .inl (nR lt))), (l1, .inl (kw, mm, .inl (nR lw))), (s0, .inr (2, [.ref d0, .ref d1, .ref d2, .int (nI n), .int (nI w)])), (d0, .inl (kd, 600, .inl (nR g))), (d1, .inl (kb, 60, .inl (nR sb))), (d2, .inl (kl, 60, .inl (nR ln)))] sz) := by
  refine Met.ofW (cc := cX6_take) (maxL := 4) (ret := (some .int)) (by decide) rfl ?_
  intro p e s m args below meth c s₁ B hml hv
  obtain ⟨rfl, hsz, hP, hK, hD0⟩ := hv
  have hx := B.exec
  have hb := B.bytes
  have hr := B.returns
  have hts := atoms_spec (ws := wsX6_take) B.pre
  have hown : s.vm.findClass RX6 = some m.cls := findClass_of_methodNamed B.named
  have hlocks := B.notSynchronized
  subst hsz
  have hD := hD0.self (sz := s.heap.size)
  clear hD0
  generalize hAe : va_A [(h0, .inr (6, [.ref l0, .ref l1, .int (nI z)])), (l0, .inl (kt, qq, .inl (nR lt))), (l1, .inl (kw, mm, .inl (nR lw))), (s0, .inr (2, [.ref d0, .ref d1, .ref d2, .int (nI n), .int (nI w)])), (d0, .inl (kd, 600, .inl (nR g))), (d1, .inl (kb, 60, .inl (nR sb))), (d2, .inl (kl, 60, .inl (nR ln)))] s.heap.size = A at hD ⊢
  have hA : ∀ q : Nat, s.heap.size ≤ q → A q := fun q h => by rw [← hAe]; exact Or.inr h
  clear hAe
  have hS : va_S A s.heap s.heap [] := va_S.rf
  replace hP : va_P (dC, dI) vwCl [(h0, .inr (6, [.ref l0, .ref l1, .int (nI z)])), (l0, .inl (kt, qq, .inl (nR lt))), (l1, .inl (kw, mm, .inl (nR lw))), (s0, .inr (2, [.ref d0, .ref d1, .ref d2, .int (nI n), .int (nI w)])), (d0, .inl (kd, 600, .inl (nR g))), (d1, .inl (kb, 60, .inl (nR sb))), (d2, .inl (kl, 60, .inl (nR ln)))] s.heap := hP
  have hl := lv_entry ([.ref h0, .ref s0, .int (nI i)]) (n := 4) (Nat.le_of_ble_eq_true rfl)
  rw [lg_entry_eq]
  generalize (lg_sl ([.ref h0, .ref s0, .int (nI i)]) ++ List.replicate (4 - (lg_sl ([.ref h0, .ref s0, .int (nI i)])).length) Slot.unset).toArray = ls at hl ⊢
  replace hl : lv_has ls 4 [(0, .ref h0), (1, .ref s0), (2, .int (nI i))] := hl
  have hi_X2 : ∀ w ∈ wsX20, w ∈ wsX6_take := by decide +kernel
  have k_f36 := hts (.fieldLink RX6 36 "TongueTeller$Script" "lengths" "[I") (by decide +kernel)
  have hi_X6 : ∀ w ∈ wsX60, w ∈ wsX6_take := by decide +kernel
  have k_f9 := hts (.fieldLink RX6 9 "TongueTeller$WordList" "size" "I") (by decide +kernel)
  have k_f28 := hts (.fieldLink RX6 28 "TongueTeller$WordList" "lengths" "[I") (by decide +kernel)
  have k_f39 := hts (.fieldLink RX6 39 "TongueTeller$Script" "signs" "[B") (by decide +kernel)
  have k_f42 := hts (.fieldLink RX6 42 "TongueTeller$Script" "starts" "[I") (by decide +kernel)
  have k_f24 := hts (.fieldLink RX6 24 "TongueTeller$WordList" "letters" "[B") (by decide +kernel)
  refine lv_aload_n hx hb dX6_take_0 rfl (lv_at hl 1 rfl) ?_
  refine va_get (D := (dC, dI)) (ci := 2) (v := .ref d2) (C := RX2) (T := TX2) (N := 5) hx hb hts hi_X2 hown hK hP 3 rfl rfl 2 (by decide) k_f36 (fun _ h9 => h9) rfl dX6_take_1 ?_
  refine lv_iload_n hx hb dX6_take_4 rfl (lv_at hl 2 rfl) ?_
  refine va_iald hx hb hK hP 6 4 rfl rfl (i := nI i) (vp_in_nI (by omega) (by omega)) dX6_take_5 ?_
  refine lv_topi (fun x_5 ex_5 => ?_)
  obtain rfl : nI (ln i) = x_5 := Eq.symm (ex_5.trans (nR_at (by omega)))
  refine lv_istore_n (lv' := [(3, .int (nI (ln i))), (0, .ref h0), (1, .ref s0), (2, .int (nI i))]) hx hb dX6_take_6 rfl hl (by decide) rfl (fun ls hl => ?_)
  refine lv_aload_n hx hb dX6_take_7 rfl (lv_at hl 1 rfl) ?_
  refine va_get (D := (dC, dI)) (ci := 6) (v := .int (nI z)) (C := RX6) (T := TX6) (N := 3) hx hb hts hi_X6 hown hK hP 0 rfl rfl 2 (by decide) k_f9 (fun _ h9 => h9) rfl dX6_take_8 ?_
  refine lv_aload_n hx hb dX6_take_11 rfl (lv_at hl 1 rfl) ?_
  refine va_get (D := (dC, dI)) (ci := 6) (v := .ref l1) (C := RX6) (T := TX6) (N := 3) hx hb hts hi_X6 hown hK hP 0 rfl rfl 1 (by decide) k_f28 (fun _ h9 => h9) rfl dX6_take_12 ?_
  refine va_alen (v := nI mm) hx hb hK hP 2 1 rfl rfl rfl dX6_take_15 ?_
  refine lv_icmp_ge (tgt := 25) hx hb dX6_take_16 (by decide) (fun c_16 => ?_) (fun c_16 => ?_)
  · have n_16 : mm ≤ z := (nI_leI (a := mm) (b := z) (by omega) (by omega)).mp c_16
    refine lv_iconst (v := (-1)) hx hb dX6_take_25 (by decide) ?_
    have hP9 := hP.sub (ws' := [(h0, .inr (6, [.ref l0, .ref l1, .int (nI z)])), (l0, .inl (kt, qq, .inl (nR lt))), (l1, .inl (kw, mm, .inl (nR lw))), (s0, .inr (2, [.ref d0, .ref d1, .ref d2, .int (nI n), .int (nI w)])), (d0, .inl (kd, 600, .inl (nR g))), (d1, .inl (kb, 60, .inl (nR sb))), (d2, .inl (kl, 60, .inl (nR ln)))]) [0, 1, 2, 3, 4, 5, 6] rfl
    have hD9 := hD.sub (ws' := [(h0, .inr (6, [.ref l0, .ref l1, .int (nI z)])), (l0, .inl (kt, qq, .inl (nR lt))), (l1, .inl (kw, mm, .inl (nR lw))), (s0, .inr (2, [.ref d0, .ref d1, .ref d2, .int (nI n), .int (nI w)])), (d0, .inl (kd, 600, .inl (nR g))), (d1, .inl (kb, 60, .inl (nR sb))), (d2, .inl (kl, 60, .inl (nR ln)))]) [0, 1, 2, 3, 4, 5, 6] (by decide) rfl
    exact W.iret (v := (-1)) hx hb hr (fun t ht hW => ⟨⟨(-1), (z, lt, lw), rfl, Or.inl ⟨rfl, by exact ⟨Or.inl n_16, rfl, rfl, rfl⟩⟩, by rw [ht]; exact hP9, hD9⟩, hS.F ht⟩) hS.2.2 dX6_take_26
  · have n_16 : z < mm := Nat.not_le.mp (fun h9 => c_16 ((nI_leI (a := mm) (b := z) (by omega) (by omega)).mpr h9))
    refine lv_iload_n hx hb dX6_take_19 rfl (lv_at hl 0 rfl) ?_
    refine lv_bipush (v := 24) hx hb dX6_take_20 (by decide) ?_
    refine lv_icmp_le (tgt := 27) hx hb dX6_take_22 (by decide) (fun c_22 => ?_) (fun c_22 => ?_)
    · have n_22 : (ln i) ≤ 24 := (nI_leI (a := (ln i)) (b := 24) (by omega) (by omega)).mp c_22
      refine lv_aload_n hx hb dX6_take_27 rfl (lv_at hl 2 rfl) ?_
      refine va_get (D := (dC, dI)) (ci := 2) (v := .ref d0) (C := RX2) (T := TX2) (N := 5) hx hb hts hi_X2 hown hK hP 3 rfl rfl 0 (by decide) k_f39 (fun _ h9 => h9) rfl dX6_take_28 ?_
      refine lv_aload_n hx hb dX6_take_31 rfl (lv_at hl 2 rfl) ?_
      refine va_get (D := (dC, dI)) (ci := 2) (v := .ref d1) (C := RX2) (T := TX2) (N := 5) hx hb hts hi_X2 hown hK hP 3 rfl rfl 1 (by decide) k_f42 (fun _ h9 => h9) rfl dX6_take_32 ?_
      refine lv_iload_n hx hb dX6_take_35 rfl (lv_at hl 3 rfl) ?_
      refine va_iald hx hb hK hP 5 3 rfl rfl (i := nI i) (vp_in_nI (by omega) (by omega)) dX6_take_36 ?_
      refine lv_topi (fun x_36 ex_36 => ?_)
      obtain rfl : nI (sb i) = x_36 := Eq.symm (ex_36.trans (nR_at (by omega)))
      refine lv_aload_n hx hb dX6_take_37 rfl (lv_at hl 1 rfl) ?_
      refine va_get (D := (dC, dI)) (ci := 6) (v := .ref l0) (C := RX6) (T := TX6) (N := 3) hx hb hts hi_X6 hown hK hP 0 rfl rfl 0 (by decide) k_f24 (fun _ h9 => h9) rfl dX6_take_38 ?_
      refine lv_aload_n hx hb dX6_take_41 rfl (lv_at hl 1 rfl) ?_
      refine va_get (D := (dC, dI)) (ci := 6) (v := .int (nI z)) (C := RX6) (T := TX6) (N := 3) hx hb hts hi_X6 hown hK hP 0 rfl rfl 2 (by decide) k_f9 (fun _ h9 => h9) rfl dX6_take_42 ?_
      refine lv_bipush (v := 24) hx hb dX6_take_45 (by decide) ?_
      refine lv_imul hx hb dX6_take_47 ?_
      refine lv_topi (fun x_47 ex_47 => ?_)
      obtain rfl : nI (z * 24) = x_47 := Eq.symm (ex_47.trans (pk_mul z 24))
      refine lv_iload_n hx hb dX6_take_48 rfl (lv_at hl 0 rfl) ?_
      refine va_copyi hx hb (by rw [hml]; exact hl.1.symm) hown (hts (.methodLink RX6 45 arraycopyName) (by decide +kernel)) (hts (.native arraycopyName) (by decide +kernel)) (hts (.static arraycopyName) (by decide +kernel)) (hts (.initialized "java/lang/System") (by decide +kernel)) hK hP hD hS 4 1 2 0 (ty := .byte) rfl rfl rfl rfl rfl (sp := nI (sb i)) (dp := nI (z * 24)) (n := nI (ln i)) (nI_pos (by omega)) (nI_pos (by omega)) (nI_pos (by omega)) (by rw [nI_clamp (n := sb i) (by omega), nI_clamp (n := ln i) (by omega)]; omega) (by rw [nI_clamp (n := z * 24) (by omega), nI_clamp (n := ln i) (by omega)]; omega) (fun i _ => fit_b (fun j => Nat.lt_trans (hg j) (by decide)) _) (Nat.le_of_ble_eq_true rfl) (Nat.le_of_ble_eq_true rfl) dX6_take_49 (fun H locs hP hD hS => ?_)
      have er_49 : va_cpy (nR g) (nR lt) (nI (sb i)).toNatClampNeg (nI (z * 24)).toNatClampNeg (nI (ln i)).toNatClampNeg = nR (va_cpy g lt (sb i) (z * 24) (ln i)) := by rw [nI_clamp (n := sb i) (by omega), nI_clamp (n := z * 24) (by omega), nI_clamp (n := ln i) (by omega), cpy_nR]
      replace hP : va_P (dC, dI) vwCl [(h0, .inr (6, [.ref l0, .ref l1, .int (nI z)])), (l0, .inl (kt, qq, .inl (nR (va_cpy g lt (sb i) (z * 24) (ln i))))), (l1, .inl (kw, mm, .inl (nR lw))), (s0, .inr (2, [.ref d0, .ref d1, .ref d2, .int (nI n), .int (nI w)])), (d0, .inl (kd, 600, .inl (nR g))), (d1, .inl (kb, 60, .inl (nR sb))), (d2, .inl (kl, 60, .inl (nR ln)))] H := by rw [← er_49]; exact hP
      replace hD : va_D A [(h0, .inr (6, [.ref l0, .ref l1, .int (nI z)])), (l0, .inl (kt, qq, .inl (nR (va_cpy g lt (sb i) (z * 24) (ln i))))), (l1, .inl (kw, mm, .inl (nR lw))), (s0, .inr (2, [.ref d0, .ref d1, .ref d2, .int (nI n), .int (nI w)])), (d0, .inl (kd, 600, .inl (nR g))), (d1, .inl (kb, 60, .inl (nR sb))), (d2, .inl (kl, 60, .inl (nR ln)))] := by rw [← er_49]; exact hD
      refine lv_aload_n hx hb dX6_take_52 rfl (lv_at hl 1 rfl) ?_
      refine va_get (D := (dC, dI)) (ci := 6) (v := .ref l1) (C := RX6) (T := TX6) (N := 3) hx hb hts hi_X6 hown hK hP 0 rfl rfl 1 (by decide) k_f28 (fun _ h9 => h9) rfl dX6_take_53 ?_
      refine lv_aload_n hx hb dX6_take_56 rfl (lv_at hl 1 rfl) ?_
      refine va_get (D := (dC, dI)) (ci := 6) (v := .int (nI z)) (C := RX6) (T := TX6) (N := 3) hx hb hts hi_X6 hown hK hP 0 rfl rfl 2 (by decide) k_f9 (fun _ h9 => h9) rfl dX6_take_57 ?_
      refine lv_iload_n hx hb dX6_take_60 rfl (lv_at hl 0 rfl) ?_
      refine va_iast hx hb hK hP hD hS 2 1 rfl rfl (i := nI z) (x := nI (ln i)) (vp_in_nI (by omega) (by omega)) dX6_take_61 (fun H locs hP hD hS => ?_)
      have er_61 : upd (nR lw) (nI z : Int32).toNatClampNeg (nI (ln i)) = nR (updN lw z (ln i)) := upd_nR (by omega)
      replace hP : va_P (dC, dI) vwCl [(h0, .inr (6, [.ref l0, .ref l1, .int (nI z)])), (l0, .inl (kt, qq, .inl (nR (va_cpy g lt (sb i) (z * 24) (ln i))))), (l1, .inl (kw, mm, .inl (nR (updN lw z (ln i))))), (s0, .inr (2, [.ref d0, .ref d1, .ref d2, .int (nI n), .int (nI w)])), (d0, .inl (kd, 600, .inl (nR g))), (d1, .inl (kb, 60, .inl (nR sb))), (d2, .inl (kl, 60, .inl (nR ln)))] H := by rw [← er_61]; exact hP
      replace hD : va_D A [(h0, .inr (6, [.ref l0, .ref l1, .int (nI z)])), (l0, .inl (kt, qq, .inl (nR (va_cpy g lt (sb i) (z * 24) (ln i))))), (l1, .inl (kw, mm, .inl (nR (updN lw z (ln i))))), (s0, .inr (2, [.ref d0, .ref d1, .ref d2, .int (nI n), .int (nI w)])), (d0, .inl (kd, 600, .inl (nR g))), (d1, .inl (kb, 60, .inl (nR sb))), (d2, .inl (kl, 60, .inl (nR ln)))] := by rw [← er_61]; exact hD
      refine lv_aload_n hx hb dX6_take_62 rfl (lv_at hl 1 rfl) ?_
      refine lv_dup hx hb dX6_take_63 rfl ?_
      refine va_get (D := (dC, dI)) (ci := 6) (v := .int (nI z)) (C := RX6) (T := TX6) (N := 3) hx hb hts hi_X6 hown hK hP 0 rfl rfl 2 (by decide) k_f9 (fun _ h9 => h9) rfl dX6_take_64 ?_
      refine lv_iconst (v := 1) hx hb dX6_take_67 (by decide) ?_
      refine lv_iadd hx hb dX6_take_68 ?_
      refine lv_topi (fun x_68 ex_68 => ?_)
      obtain rfl : nI (z + 1) = x_68 := Eq.symm (ex_68.trans (nI_add z 1))
      refine va_put (D := (dC, dI)) (ci := 6) (v := .int (nI (z + 1))) (ty := .int) (C := RX6) (T := TX6) (N := 3) hx hb hts hi_X6 tyX6 tyX6_ok nmX6 hown hK hP hD hS 0 rfl rfl 2 (by decide) k_f9 (fun _ h9 => h9) rfl (by decide +kernel) rfl rfl (Nat.le_of_ble_eq_true rfl) dX6_take_69 (fun H locs hP hD hS => ?_)
      replace hP : va_P (dC, dI) vwCl [(h0, .inr (6, [.ref l0, .ref l1, .int (nI (z + 1))])), (l0, .inl (kt, qq, .inl (nR (va_cpy g lt (sb i) (z * 24) (ln i))))), (l1, .inl (kw, mm, .inl (nR (updN lw z (ln i))))), (s0, .inr (2, [.ref d0, .ref d1, .ref d2, .int (nI n), .int (nI w)])), (d0, .inl (kd, 600, .inl (nR g))), (d1, .inl (kb, 60, .inl (nR sb))), (d2, .inl (kl, 60, .inl (nR ln)))] H := hP
      replace hD : va_D A [(h0, .inr (6, [.ref l0, .ref l1, .int (nI (z + 1))])), (l0, .inl (kt, qq, .inl (nR (va_cpy g lt (sb i) (z * 24) (ln i))))), (l1, .inl (kw, mm, .inl (nR (updN lw z (ln i))))), (s0, .inr (2, [.ref d0, .ref d1, .ref d2, .int (nI n), .int (nI w)])), (d0, .inl (kd, 600, .inl (nR g))), (d1, .inl (kb, 60, .inl (nR sb))), (d2, .inl (kl, 60, .inl (nR ln)))] := hD
      refine lv_aload_n hx hb dX6_take_72 rfl (lv_at hl 1 rfl) ?_
      refine va_get (D := (dC, dI)) (ci := 6) (v := .int (nI (z + 1))) (C := RX6) (T := TX6) (N := 3) hx hb hts hi_X6 hown hK hP 0 rfl rfl 2 (by decide) k_f9 (fun _ h9 => h9) rfl dX6_take_73 ?_
      refine lv_iconst (v := 1) hx hb dX6_take_76 (by decide) ?_
      refine lv_isub hx hb dX6_take_77 ?_
      refine lv_topi (fun x_77 ex_77 => ?_)
      obtain rfl : nI ((z + 1) - 1) = x_77 := Eq.symm (ex_77.trans (pk_sub (a := z + 1) (b := 1) (by omega)))
      have hP9 := hP.sub (ws' := [(h0, .inr (6, [.ref l0, .ref l1, .int (nI (z + 1))])), (l0, .inl (kt, qq, .inl (nR (va_cpy g lt (sb i) (z * 24) (ln i))))), (l1, .inl (kw, mm, .inl (nR (updN lw z (ln i))))), (s0, .inr (2, [.ref d0, .ref d1, .ref d2, .int (nI n), .int (nI w)])), (d0, .inl (kd, 600, .inl (nR g))), (d1, .inl (kb, 60, .inl (nR sb))), (d2, .inl (kl, 60, .inl (nR ln)))]) [0, 1, 2, 3, 4, 5, 6] rfl
      have hD9 := hD.sub (ws' := [(h0, .inr (6, [.ref l0, .ref l1, .int (nI (z + 1))])), (l0, .inl (kt, qq, .inl (nR (va_cpy g lt (sb i) (z * 24) (ln i))))), (l1, .inl (kw, mm, .inl (nR (updN lw z (ln i))))), (s0, .inr (2, [.ref d0, .ref d1, .ref d2, .int (nI n), .int (nI w)])), (d0, .inl (kd, 600, .inl (nR g))), (d1, .inl (kb, 60, .inl (nR sb))), (d2, .inl (kl, 60, .inl (nR ln)))]) [0, 1, 2, 3, 4, 5, 6] (by decide) rfl
      exact W.iret (v := nI ((z + 1) - 1)) hx hb hr (fun t ht hW => ⟨⟨nI ((z + 1) - 1), ((z + 1), (va_cpy g lt (sb i) (z * 24) (ln i)), (updN lw z (ln i))), rfl, Or.inr ⟨(z + 1) - 1, rfl, by exact ⟨rfl, n_16, n_22, rfl, rfl, rfl⟩⟩, by rw [ht]; exact hP9, hD9⟩, hS.F ht⟩) hS.2.2 dX6_take_78
    · have n_22 : 24 < (ln i) := Nat.not_le.mp (fun h9 => c_22 ((nI_leI (a := (ln i)) (b := 24) (by omega) (by omega)).mpr h9))
      refine lv_iconst (v := (-1)) hx hb dX6_take_25 (by decide) ?_
      have hP9 := hP.sub (ws' := [(h0, .inr (6, [.ref l0, .ref l1, .int (nI z)])), (l0, .inl (kt, qq, .inl (nR lt))), (l1, .inl (kw, mm, .inl (nR lw))), (s0, .inr (2, [.ref d0, .ref d1, .ref d2, .int (nI n), .int (nI w)])), (d0, .inl (kd, 600, .inl (nR g))), (d1, .inl (kb, 60, .inl (nR sb))), (d2, .inl (kl, 60, .inl (nR ln)))]) [0, 1, 2, 3, 4, 5, 6] rfl
      have hD9 := hD.sub (ws' := [(h0, .inr (6, [.ref l0, .ref l1, .int (nI z)])), (l0, .inl (kt, qq, .inl (nR lt))), (l1, .inl (kw, mm, .inl (nR lw))), (s0, .inr (2, [.ref d0, .ref d1, .ref d2, .int (nI n), .int (nI w)])), (d0, .inl (kd, 600, .inl (nR g))), (d1, .inl (kb, 60, .inl (nR sb))), (d2, .inl (kl, 60, .inl (nR ln)))]) [0, 1, 2, 3, 4, 5, 6] (by decide) rfl
      exact W.iret (v := (-1)) hx hb hr (fun t ht hW => ⟨⟨(-1), (z, lt, lw), rfl, Or.inl ⟨rfl, by exact ⟨Or.inr n_22, rfl, rfl, rfl⟩⟩, by rw [ht]; exact hP9, hD9⟩, hS.F ht⟩) hS.2.2 dX6_take_26
