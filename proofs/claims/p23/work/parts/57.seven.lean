set_option maxHeartbeats 4000000 in
set_option maxRecDepth 100000 in
theorem g_X7_freePlace (l : Launch) (dC : Nat → ClassId) (dI : Nat → Nat → Nat) (h0 : Nat) (a0 : Nat) (ts : Nat) (a2 : Nat) (a3 : Nat) (v4 : Int32) (v5 : Int32) (a6 : Nat) (a7 : Nat) (a8 : Nat) (v9 : Nat) (v10 : Nat) (a11 : Nat) (a12 : Nat) (v13 : Int32) (a14 : Nat) (a15 : Nat) (a16 : Nat) (v17 : Int32) (kh : ClassId) (hq : Nat → Option Nat) : Met l yX7_freePlace wsX7_freePlace ({ frames := 0, cells := 0, slots := 0, locals := 0 }) (va_Pc [.ref h0] (fun U => va_P (dC, dI) vwCl [(h0, .inr (7, [.ref a0, .int (nI ts), .ref a2, .ref a3, .int v4, .int v5, .ref a6, .ref a7, .ref a8, .int (nI v9), .int (nI v10), .ref a11, .ref a12, .int v13, .ref a14, .ref a15, .ref a16, .int v17])), (a3, .inl (kh, 100, .inr (.inr (.inr (.inr hq)))))] U.heap ∧ va_K (dC, dI) vwCl [(kh, .object "TongueTeller$Learnt")] U)) (vp_Si (fun r => ((r = (-1) ∧ (∀ p, p < 100 → ¬ hq p = none)) ∨ (∃ pp : Nat, r = nI pp ∧ (pp < 100 ∧ hq pp = none ∧ ∀ p, p < pp → ¬ hq p = none))))) 0 0 (fun _ => False) := by
  refine Met.ofW (cc := cX7_freePlace) (maxL := 2) (ret := (some .int)) (by decide) rfl ?_
  intro p e s m args below meth c s₁ B hml hv
  obtain ⟨rfl, hP, hK⟩ := hv
  have hx := B.exec
  have hb := B.bytes
  have hr := B.returns
  have hts := atoms_spec (ws := wsX7_freePlace) B.pre
  have hown : s.vm.findClass RX7 = some m.cls := findClass_of_methodNamed B.named
  have hlocks := B.notSynchronized
  replace hP : va_P (dC, dI) vwCl [(h0, .inr (7, [.ref a0, .int (nI ts), .ref a2, .ref a3, .int v4, .int v5, .ref a6, .ref a7, .ref a8, .int (nI v9), .int (nI v10), .ref a11, .ref a12, .int v13, .ref a14, .ref a15, .ref a16, .int v17])), (a3, .inl (kh, 100, .inr (.inr (.inr (.inr hq)))))] s.heap := hP
  have hl := lv_entry ([.ref h0]) (n := 2) (Nat.le_of_ble_eq_true rfl)
  rw [lg_entry_eq]
  generalize (lg_sl ([.ref h0]) ++ List.replicate (2 - (lg_sl ([.ref h0])).length) Slot.unset).toArray = ls at hl ⊢
  replace hl : lv_has ls 2 [(0, .ref h0)] := hl
  have hi_X7 : ∀ w ∈ wsX70, w ∈ wsX7_freePlace := by decide +kernel
  have k_f26 := hts (.fieldLink RX7 26 "TongueTeller" "held" "[LTongueTeller$Learnt;") (by decide +kernel)
  refine lv_iconst (v := 0) hx hb dX7_freePlace_0 (by decide) ?_
  refine lv_istore_n (lv' := [(1, .int 0), (0, .ref h0)]) hx hb dX7_freePlace_1 rfl hl (by decide) rfl (fun ls hl => ?_)
  obtain ⟨pp, e_pp⟩ : ∃ y : Nat, y = 0 := ⟨_, rfl⟩
  replace hl : lv_has ls 2 [(0, .ref h0), (1, .int (nI pp))] := by (try rewrite [e_pp]); exact lv_sub hl [1, 0] rfl
  have hp1 : pp ≤ 100 := by (try rewrite [e_pp]); omega
  have hp2 : ∀ p, p < pp → ¬ hq p = none := by (try rewrite [e_pp]); exact fun p hp => absurd hp (Nat.not_lt_zero p)
  clear e_pp
  obtain ⟨nn2, hnn2⟩ : ∃ q : Nat, 100 - pp < q := ⟨_, Nat.lt_succ_self _⟩
  induction nn2 generalizing pp ls with
  | zero => exact absurd hnn2 (Nat.not_lt_zero _)
  | succ nn2 ih2 =>
    refine lv_iload_n hx hb dX7_freePlace_2 rfl (lv_at hl 1 rfl) ?_
    refine lv_aload_n hx hb dX7_freePlace_3 rfl (lv_at hl 0 rfl) ?_
    refine va_get (D := (dC, dI)) (ci := 7) (v := .ref a3) (C := RX7) (T := TX7) (N := 18) hx hb hts hi_X7 hown hK hP 0 rfl rfl 3 (by decide) k_f26 (fun _ h9 => h9) rfl dX7_freePlace_4 ?_
    refine va_alen (v := 100) hx hb hK hP 1 0 rfl rfl rfl dX7_freePlace_7 ?_
    refine lv_icmp_ge (tgt := 28) hx hb dX7_freePlace_8 (by decide) (fun c_8 => ?_) (fun c_8 => ?_)
    · have n_8 : 100 ≤ pp := (nI_leI (a := 100) (b := pp) (by omega) (by omega)).mp c_8
      refine lv_iconst (v := (-1)) hx hb dX7_freePlace_28 (by decide) ?_
      exact W.iret (v := (-1)) hx hb hr (fun t ht hW => ⟨(-1), rfl, Or.inl ⟨rfl, by exact fun p hp => hp2 p (by omega)⟩, ht⟩) (fun _ h => absurd h List.not_mem_nil) dX7_freePlace_29
    · have n_8 : pp < 100 := Nat.not_le.mp (fun h9 => c_8 ((nI_leI (a := 100) (b := pp) (by omega) (by omega)).mpr h9))
      refine lv_aload_n hx hb dX7_freePlace_11 rfl (lv_at hl 0 rfl) ?_
      refine va_get (D := (dC, dI)) (ci := 7) (v := .ref a3) (C := RX7) (T := TX7) (N := 18) hx hb hts hi_X7 hown hK hP 0 rfl rfl 3 (by decide) k_f26 (fun _ h9 => h9) rfl dX7_freePlace_12 ?_
      refine lv_iload_n hx hb dX7_freePlace_15 rfl (lv_at hl 1 rfl) ?_
      refine va_aldq hx hb hK hP 1 0 rfl rfl (i := nI pp) (vp_in_nI (by omega) (by omega)) dX7_freePlace_16 ?_
      rcases hq_16 : hq pp with _ | a_16
      · rw [show (hq (nI pp).toNatClampNeg) = none from by rw [nI_clamp (by omega)]; exact hq_16]
        refine lv_ifnonnullN hx hb dX7_freePlace_17 ?_
        refine lv_iload_n hx hb dX7_freePlace_20 rfl (lv_at hl 1 rfl) ?_
        exact W.iret (v := nI pp) hx hb hr (fun t ht hW => ⟨nI pp, rfl, Or.inr ⟨pp, rfl, by exact ⟨by omega, hq_16, hp2⟩⟩, ht⟩) (fun _ h => absurd h List.not_mem_nil) dX7_freePlace_21
      · rw [show (hq (nI pp).toNatClampNeg) = (some a_16) from by rw [nI_clamp (by omega)]; exact hq_16]
        refine lv_ifnonnull (tgt := 22) hx hb dX7_freePlace_17 (by decide) ?_
        refine lv_iinc (v := nI (pp + 1)) (lv' := [(1, .int (nI (pp + 1))), (0, .ref h0)]) hx hb dX7_freePlace_22 hl (k := 1) rfl (nI_1 _) (by decide) rfl (fun ls hl => ?_)
        refine lv_goto (tgt := 2) hx hb dX7_freePlace_25 (by decide) ?_
        replace hl : lv_has ls 2 [(0, .ref h0), (1, .int (nI (pp + 1)))] := lv_sub hl [1, 0] rfl
        have hp29 : ∀ p, p < (pp + 1) → ¬ hq p = none := lt_s hp2 (by rw [hq_16]; exact fun h9 => nomatch h9)
        apply ih2 (pp := pp + 1) <;> first | assumption | omega

set_option maxHeartbeats 4000000 in
set_option maxRecDepth 100000 in
theorem g_X7_placeOf (l : Launch) (dC : Nat → ClassId) (dI : Nat → Nat → Nat) (h0 : Nat) (a0 : Nat) (ts : Nat) (a2 : Nat) (a3 : Nat) (v4 : Int32) (v5 : Int32) (a6 : Nat) (a7 : Nat) (a8 : Nat) (v9 : Nat) (v10 : Nat) (a11 : Nat) (a12 : Nat) (v13 : Int32) (a14 : Nat) (a15 : Nat) (a16 : Nat) (v17 : Int32) (kh : ClassId) (krb : ClassId) (hq : Nat → Option Nat) (L : List Nat) (fp : Nat → va_E) (Rs : List Nat) (nu : Nat → Int32) (tg : Nat → Nat) (tr : Nat → Nat) (tl : Nat → Nat) (gg : Nat → Nat → Nat) (p0 : Int32) (hHL : HLD L fp Rs hq krb nu tg tr tl gg) : Met l yX7_placeOf wsX7_placeOf ({ frames := 0, cells := 0, slots := 0, locals := 0 }) (va_Pc [.ref h0, .int p0] (fun U => va_P (dC, dI) vwCl (vpl [(h0, .inr (7, [.ref a0, .int (nI ts), .ref a2, .ref a3, .int v4, .int v5, .ref a6, .ref a7, .ref a8, .int (nI v9), .int (nI v10), .ref a11, .ref a12, .int v13, .ref a14, .ref a15, .ref a16, .int v17])), (a3, .inl (kh, 100, .inr (.inr (.inr (.inr hq)))))] L fp) U.heap ∧ va_K (dC, dI) vwCl [(kh, .object "TongueTeller$Learnt")] U)) (vp_Si (fun r => ((r = (-1) ∧ (∀ p, p < 100 → ∀ a, hq p = some a → ¬ nu p = p0)) ∨ (∃ pp : Nat, r = nI pp ∧ (pp < 100 ∧ (∃ a, hq pp = some a) ∧ nu pp = p0 ∧ ∀ p, p < pp → ∀ a, hq p = some a → ¬ nu p = p0))))) 0 0 (fun _ => False) := by
  refine Met.ofW (cc := cX7_placeOf) (maxL := 4) (ret := (some .int)) (by decide) rfl ?_
  intro p e s m args below meth c s₁ B hml hv
  obtain ⟨rfl, hP, hK⟩ := hv
  have hx := B.exec
  have hb := B.bytes
  have hr := B.returns
  have hts := atoms_spec (ws := wsX7_placeOf) B.pre
  have hown : s.vm.findClass RX7 = some m.cls := findClass_of_methodNamed B.named
  have hlocks := B.notSynchronized
  replace hP : va_P (dC, dI) vwCl (vpl [(h0, .inr (7, [.ref a0, .int (nI ts), .ref a2, .ref a3, .int v4, .int v5, .ref a6, .ref a7, .ref a8, .int (nI v9), .int (nI v10), .ref a11, .ref a12, .int v13, .ref a14, .ref a15, .ref a16, .int v17])), (a3, .inl (kh, 100, .inr (.inr (.inr (.inr hq)))))] L fp) s.heap := hP
  have hl := lv_entry ([.ref h0, .int p0]) (n := 4) (Nat.le_of_ble_eq_true rfl)
  rw [lg_entry_eq]
  generalize (lg_sl ([.ref h0, .int p0]) ++ List.replicate (4 - (lg_sl ([.ref h0, .int p0])).length) Slot.unset).toArray = ls at hl ⊢
  replace hl : lv_has ls 4 [(0, .ref h0), (1, .int p0)] := hl
  have hi_X7 : ∀ w ∈ wsX70, w ∈ wsX7_placeOf := by decide +kernel
  have k_f26 := hts (.fieldLink RX7 26 "TongueTeller" "held" "[LTongueTeller$Learnt;") (by decide +kernel)
  have hi_X0 : ∀ w ∈ wsX00, w ∈ wsX7_placeOf := by decide +kernel
  have k_f137 := hts (.fieldLink RX7 137 "TongueTeller$Learnt" "number" "I") (by decide +kernel)
  refine lv_iconst (v := 0) hx hb dX7_placeOf_0 (by decide) ?_
  refine lv_istore_n (lv' := [(2, .int 0), (0, .ref h0), (1, .int p0)]) hx hb dX7_placeOf_1 rfl hl (by decide) rfl (fun ls hl => ?_)
  obtain ⟨pp, e_pp⟩ : ∃ y : Nat, y = 0 := ⟨_, rfl⟩
  replace hl : lv_has ls 4 [(0, .ref h0), (1, .int p0), (2, .int (nI pp))] := by (try rewrite [e_pp]); exact lv_sub hl [1, 2, 0] rfl
  have hp1 : pp ≤ 100 := by (try rewrite [e_pp]); omega
  have hp2 : ∀ p, p < pp → ∀ a, hq p = some a → ¬ nu p = p0 := by (try rewrite [e_pp]); exact fun p hp => absurd hp (Nat.not_lt_zero p)
  clear e_pp
  obtain ⟨nn2, hnn2⟩ : ∃ q : Nat, 100 - pp < q := ⟨_, Nat.lt_succ_self _⟩
  induction nn2 generalizing pp ls with
  | zero => exact absurd hnn2 (Nat.not_lt_zero _)
  | succ nn2 ih2 =>
    refine lv_iload_n hx hb dX7_placeOf_2 rfl (lv_at hl 2 rfl) ?_
    refine lv_aload_n hx hb dX7_placeOf_3 rfl (lv_at hl 0 rfl) ?_
    refine va_get (D := (dC, dI)) (ci := 7) (v := .ref a3) (C := RX7) (T := TX7) (N := 18) hx hb hts hi_X7 hown hK hP 0 rfl rfl 3 (by decide) k_f26 (fun _ h9 => h9) rfl dX7_placeOf_4 ?_
    refine va_alen (v := 100) hx hb hK hP 1 0 rfl rfl rfl dX7_placeOf_7 ?_
    refine lv_icmp_ge (tgt := 38) hx hb dX7_placeOf_8 (by decide) (fun c_8 => ?_) (fun c_8 => ?_)
    · have n_8 : 100 ≤ pp := (nI_leI (a := 100) (b := pp) (by omega) (by omega)).mp c_8
      refine lv_iconst (v := (-1)) hx hb dX7_placeOf_38 (by decide) ?_
      exact W.iret (v := (-1)) hx hb hr (fun t ht hW => ⟨(-1), rfl, Or.inl ⟨rfl, by exact fun p hp => hp2 p (by omega)⟩, ht⟩) (fun _ h => absurd h List.not_mem_nil) dX7_placeOf_39
    · have n_8 : pp < 100 := Nat.not_le.mp (fun h9 => c_8 ((nI_leI (a := 100) (b := pp) (by omega) (by omega)).mpr h9))
      refine lv_aload_n hx hb dX7_placeOf_11 rfl (lv_at hl 0 rfl) ?_
      refine va_get (D := (dC, dI)) (ci := 7) (v := .ref a3) (C := RX7) (T := TX7) (N := 18) hx hb hts hi_X7 hown hK hP 0 rfl rfl 3 (by decide) k_f26 (fun _ h9 => h9) rfl dX7_placeOf_12 ?_
      refine lv_iload_n hx hb dX7_placeOf_15 rfl (lv_at hl 2 rfl) ?_
      refine va_aldq hx hb hK hP 1 0 rfl rfl (i := nI pp) (vp_in_nI (by omega) (by omega)) dX7_placeOf_16 ?_
      rcases hq_16 : hq pp with _ | a_16
      · rw [show (hq (nI pp).toNatClampNeg) = none from by rw [nI_clamp (by omega)]; exact hq_16]
        refine lv_astore_nN (lv' := [(3, .null), (0, .ref h0), (1, .int p0), (2, .int (nI pp))]) hx hb dX7_placeOf_17 rfl hl (by decide) rfl (fun ls hl => ?_)
        refine lv_aload_nN hx hb dX7_placeOf_18 rfl (lv_at hl 0 rfl) ?_
        refine lv_ifnullN (tgt := 32) hx hb dX7_placeOf_19 (by decide) ?_
        refine lv_iinc (v := nI (pp + 1)) (lv' := [(2, .int (nI (pp + 1))), (3, .null), (0, .ref h0), (1, .int p0)]) hx hb dX7_placeOf_32 hl (k := 3) rfl (nI_1 _) (by decide) rfl (fun ls hl => ?_)
        refine lv_goto (tgt := 2) hx hb dX7_placeOf_35 (by decide) ?_
        replace hl : lv_has ls 4 [(0, .ref h0), (1, .int p0), (2, .int (nI (pp + 1)))] := lv_sub hl [2, 3, 0] rfl
        have hp29 : ∀ p, p < (pp + 1) → ∀ a, hq p = some a → ¬ nu p = p0 := lt_s hp2 (fun a9 ha9 => by rw [hq_16] at ha9; cases ha9)
        apply ih2 (pp := pp + 1) <;> first | assumption | omega
      · rw [show (hq (nI pp).toNatClampNeg) = (some a_16) from by rw [nI_clamp (by omega)]; exact hq_16]
        obtain ⟨hm_16, hnr_16, hf_16, htm_16, htn_16, htf_16, hd1_16, hd2_16, hd3_16⟩ := hHL pp (by omega) a_16 hq_16
        have hx_16 := pl_one hP hm_16 hf_16
        refine lv_astore_n (lv' := [(3, .ref a_16), (0, .ref h0), (1, .int p0), (2, .int (nI pp))]) hx hb dX7_placeOf_17 rfl hl (by decide) rfl (fun ls hl => ?_)
        refine lv_aload_n hx hb dX7_placeOf_18 rfl (lv_at hl 0 rfl) ?_
        refine lv_ifnull hx hb dX7_placeOf_19 ?_
        refine lv_aload_n hx hb dX7_placeOf_22 rfl (lv_at hl 0 rfl) ?_
        refine va_get (D := (dC, dI)) (ci := 0) (v := .int (nu pp)) (C := RX0) (T := TX0) (N := 3) hx hb hts hi_X0 hown hK hx_16 0 rfl rfl 0 (by decide) k_f137 (fun _ h9 => h9) rfl dX7_placeOf_23 ?_
        refine lv_iload_n hx hb dX7_placeOf_26 rfl (lv_at hl 2 rfl) ?_
        refine lv_icmp_ne (tgt := 32) hx hb dX7_placeOf_27 (by decide) (fun c_27 => ?_) (fun c_27 => ?_)
        · refine lv_iinc (v := nI (pp + 1)) (lv' := [(2, .int (nI (pp + 1))), (3, .ref a_16), (0, .ref h0), (1, .int p0)]) hx hb dX7_placeOf_32 hl (k := 3) rfl (nI_1 _) (by decide) rfl (fun ls hl => ?_)
          refine lv_goto (tgt := 2) hx hb dX7_placeOf_35 (by decide) ?_
          replace hl : lv_has ls 4 [(0, .ref h0), (1, .int p0), (2, .int (nI (pp + 1)))] := lv_sub hl [2, 3, 0] rfl
          have hp29 : ∀ p, p < (pp + 1) → ∀ a, hq p = some a → ¬ nu p = p0 := lt_s hp2 (fun _ _ => c_27)
          apply ih2 (pp := pp + 1) <;> first | assumption | omega
        · refine lv_iload_n hx hb dX7_placeOf_30 rfl (lv_at hl 3 rfl) ?_
          exact W.iret (v := nI pp) hx hb hr (fun t ht hW => ⟨nI pp, rfl, Or.inr ⟨pp, rfl, by exact ⟨by omega, ⟨_, hq_16⟩, c_27, hp2⟩⟩, ht⟩) (fun _ h => absurd h List.not_mem_nil) dX7_placeOf_31

set_option maxHeartbeats 4000000 in
set_option maxRecDepth 100000 in
theorem g_X7_countsInDraft (l : Launch) (dC : Nat → ClassId) (dI : Nat → Nat → Nat) (h0 : Nat) (a0 : Nat) (ts : Nat) (a2 : Nat) (a3 : Nat) (v4 : Int32) (v5 : Int32) (a6 : Nat) (a7 : Nat) (a8 : Nat) (v9 : Nat) (v10 : Nat) (a11 : Nat) (a12 : Nat) (v13 : Int32) (a14 : Nat) (a15 : Nat) (a16 : Nat) (v17 : Int32) (e2_0 : Nat) (e2_1 : Nat) (e2_2 : Nat) (ke2_0 : ClassId) (ke2_1 : ClassId) (ke2_2 : ClassId) (n2 : Nat) (w2 : Nat) (g2 : Nat → Nat) (s2 : Nat → Nat) (l2 : Nat → Nat) (y8_0 : Nat) (y8_1 : Nat) (ky8_0 : ClassId) (ky8_1 : ClassId) (z8 : Nat) (t8 : Nat → Nat) (u8 : Nat → Nat) (i : Nat) (hT : SOK g2 s2 l2 n2 w2) (hNM : WOK t8 u8 z8 30) (hi : i < w2) : Met l yX7_countsInDraft wsX7_countsInDraft ({ frames := 2, cells := 0, slots := 0, locals := 49 }) (va_Pc [.ref h0, .int (nI i)] (fun U => va_P (dC, dI) vwCl [(h0, .inr (7, [.ref a0, .int (nI ts), .ref a2, .ref a3, .int v4, .int v5, .ref a6, .ref a7, .ref a8, .int (nI v9), .int (nI v10), .ref a11, .ref a12, .int v13, .ref a14, .ref a15, .ref a16, .int v17])), (a12, .inr (2, [.ref e2_0, .ref e2_1, .ref e2_2, .int (nI n2), .int (nI w2)])), (e2_0, .inl (ke2_0, 600, .inl (nR g2))), (e2_1, .inl (ke2_1, 60, .inl (nR s2))), (e2_2, .inl (ke2_2, 60, .inl (nR l2))), (a8, .inr (6, [.ref y8_0, .ref y8_1, .int (nI z8)])), (y8_0, .inl (ky8_0, 720, .inl (nR t8))), (y8_1, .inl (ky8_1, 30, .inl (nR u8)))] U.heap ∧ va_K (dC, dI) vwCl [(ke2_0, .byte), (ke2_1, .int), (ke2_2, .int), (ky8_0, .byte), (ky8_1, .int)] U)) (vp_Si (fun r => ((r = 1 ∧ (cnD t8 u8 z8 g2 s2 l2 i)) ∨ (r = 0 ∧ ¬ (cnD t8 u8 z8 g2 s2 l2 i))))) 0 0 (fun _ => False) := by
  refine Met.ofW (cc := cX7_countsInDraft) (maxL := 2) (ret := (some .boolean)) (by decide) rfl ?_
  intro p e s m args below meth c s₁ B hml hv
  obtain ⟨rfl, hP, hK⟩ := hv
  have hx := B.exec
  have hb := B.bytes
  have hr := B.returns
  have hts := atoms_spec (ws := wsX7_countsInDraft) B.pre
  have hown : s.vm.findClass RX7 = some m.cls := findClass_of_methodNamed B.named
  have hlocks := B.notSynchronized
  replace hP : va_P (dC, dI) vwCl [(h0, .inr (7, [.ref a0, .int (nI ts), .ref a2, .ref a3, .int v4, .int v5, .ref a6, .ref a7, .ref a8, .int (nI v9), .int (nI v10), .ref a11, .ref a12, .int v13, .ref a14, .ref a15, .ref a16, .int v17])), (a12, .inr (2, [.ref e2_0, .ref e2_1, .ref e2_2, .int (nI n2), .int (nI w2)])), (e2_0, .inl (ke2_0, 600, .inl (nR g2))), (e2_1, .inl (ke2_1, 60, .inl (nR s2))), (e2_2, .inl (ke2_2, 60, .inl (nR l2))), (a8, .inr (6, [.ref y8_0, .ref y8_1, .int (nI z8)])), (y8_0, .inl (ky8_0, 720, .inl (nR t8))), (y8_1, .inl (ky8_1, 30, .inl (nR u8)))] s.heap := hP
  have hl := lv_entry ([.ref h0, .int (nI i)]) (n := 2) (Nat.le_of_ble_eq_true rfl)
  rw [lg_entry_eq]
  generalize (lg_sl ([.ref h0, .int (nI i)]) ++ List.replicate (2 - (lg_sl ([.ref h0, .int (nI i)])).length) Slot.unset).toArray = ls at hl ⊢
  replace hl : lv_has ls 2 [(0, .ref h0), (1, .int (nI i))] := hl
  have hi_X7 : ∀ w ∈ wsX70, w ∈ wsX7_countsInDraft := by decide +kernel
  have k_f65 := hts (.fieldLink RX7 65 "TongueTeller" "draft" "LTongueTeller$Script;") (by decide +kernel)
  have k_f49 := hts (.fieldLink RX7 49 "TongueTeller" "names" "LTongueTeller$WordList;") (by decide +kernel)
  have hnz := hNM.1
  obtain ⟨hwa, hwb, hwc, hwe, hwf⟩ := hT.wd (i := i) (by omega)
  refine lv_aload_n hx hb dX7_countsInDraft_0 rfl (lv_at hl 0 rfl) ?_
  refine va_get (D := (dC, dI)) (ci := 7) (v := .ref a12) (C := RX7) (T := TX7) (N := 18) hx hb hts hi_X7 hown hK hP 0 rfl rfl 12 (by decide) k_f65 (fun _ h9 => h9) rfl dX7_countsInDraft_1 ?_
  refine lv_iload_n hx hb dX7_countsInDraft_4 rfl (lv_at hl 1 rfl) ?_
  have hPc := hP.sub (ws' := [(a12, .inr (2, [.ref e2_0, .ref e2_1, .ref e2_2, .int (nI n2), .int (nI w2)])), (e2_0, .inl (ke2_0, 600, .inl (nR g2))), (e2_1, .inl (ke2_1, 60, .inl (nR s2)))]) [1, 2, 3] rfl
  have hKc := hK.sub (tys' := [(ke2_0, .byte), (ke2_1, .int)]) [0, 1] rfl
  refine vp_callSi (W.runV (As := [.int (nI i)]) (rest := []) ⟨hx, hb, hml, hown, hts⟩ (g_X2_isMark l dC dI a12 e2_0 e2_1 e2_2 ke2_0 ke2_1 n2 w2 i g2 s2 (hwa) (hT.hg) (by omega)) (cwV 1 hts gX7_countsInDraft_X2_isMark rfl rfl rfl (by decide +kernel) ⟨Nat.le_of_ble_eq_true rfl, Nat.le_of_ble_eq_true rfl⟩) ⟨fun a U g mk q => by obtain ⟨q0, qP, qK⟩ := q; exact ⟨q0, qP, va_K.moved (u := U) (U := U.calling g mk a) (Vm.Alike.refl U.vm) qK⟩, va_recv hK hP (ci := 2) (q0 := 1) rfl rfl, fun U hU hW => ⟨rfl, by rw [hU]; exact hPc, va_K.moved hW.alike hKc⟩⟩ rfl rfl hl.1 rfl (lv_room (Nat.le_of_ble_eq_true rfl)) dX7_countsInDraft_5 ⟨Nat.le_of_ble_eq_true rfl, Nat.le_of_ble_eq_true rfl⟩) (fun r_5 hw_5 => ?_)
  clear hPc
  rcases hw_5 with ⟨hr_5, hb_5⟩ | ⟨hr_5, hb_5⟩
  · subst hr_5
    refine lv_if_ne (tgt := 31) hx hb dX7_countsInDraft_8 (by decide) (fun c_8 => ?_) (fun c_8 => ?_)
    rotate_left
    · exact absurd c_8 (by decide)
    refine lv_iconst (v := 0) hx hb dX7_countsInDraft_31 (by decide) ?_
    exact W.zret (v := 0) hx hb hr (rfl) (fun t ht hW => ⟨0, rfl, Or.inr ⟨rfl, by exact fun h => h.1 hb_5⟩, ht⟩) (fun _ h => absurd h List.not_mem_nil) dX7_countsInDraft_32
  · subst hr_5
    refine lv_if_ne (tgt := 31) hx hb dX7_countsInDraft_8 (by decide) (fun c_8 => ?_) (fun c_8 => ?_)
    · exact absurd (by decide) c_8
    refine lv_aload_n hx hb dX7_countsInDraft_11 rfl (lv_at hl 0 rfl) ?_
    refine va_get (D := (dC, dI)) (ci := 7) (v := .ref a8) (C := RX7) (T := TX7) (N := 18) hx hb hts hi_X7 hown hK hP 0 rfl rfl 8 (by decide) k_f49 (fun _ h9 => h9) rfl dX7_countsInDraft_12 ?_
    refine lv_aload_n hx hb dX7_countsInDraft_15 rfl (lv_at hl 0 rfl) ?_
    refine va_get (D := (dC, dI)) (ci := 7) (v := .ref a12) (C := RX7) (T := TX7) (N := 18) hx hb hts hi_X7 hown hK hP 0 rfl rfl 12 (by decide) k_f65 (fun _ h9 => h9) rfl dX7_countsInDraft_16 ?_
    refine lv_iload_n hx hb dX7_countsInDraft_19 rfl (lv_at hl 1 rfl) ?_
    have hPc := hP.sub (ws' := [(a8, .inr (6, [.ref y8_0, .ref y8_1, .int (nI z8)])), (y8_0, .inl (ky8_0, 720, .inl (nR t8))), (y8_1, .inl (ky8_1, 30, .inl (nR u8))), (a12, .inr (2, [.ref e2_0, .ref e2_1, .ref e2_2, .int (nI n2), .int (nI w2)])), (e2_0, .inl (ke2_0, 600, .inl (nR g2))), (e2_1, .inl (ke2_1, 60, .inl (nR s2))), (e2_2, .inl (ke2_2, 60, .inl (nR l2)))]) [5, 6, 7, 1, 2, 3, 4] rfl
    have hKc := hK.sub (tys' := [(ky8_0, .byte), (ky8_1, .int), (ke2_0, .byte), (ke2_1, .int), (ke2_2, .int)]) [3, 4, 0, 1, 2] rfl
    refine vp_callSi (W.runV (As := [.ref a12, .int (nI i)]) (rest := []) ⟨hx, hb, hml, hown, hts⟩ (g_X6_placeOf l dC dI a8 y8_0 y8_1 z8 30 720 ky8_0 ky8_1 t8 u8 a12 e2_0 e2_1 e2_2 n2 w2 ke2_0 ke2_1 ke2_2 g2 s2 l2 i (by omega) (by omega) (hNM.hlt) (by omega) (by omega) (hT.hg) (hNM.1) (hNM.2.2)) (cwV 2 hts gX7_countsInDraft_X6_placeOf rfl rfl rfl (by decide +kernel) ⟨Nat.le_of_ble_eq_true rfl, Nat.le_of_ble_eq_true rfl⟩) ⟨fun a U g mk q => by obtain ⟨q0, qP, qK⟩ := q; exact ⟨q0, qP, va_K.moved (u := U) (U := U.calling g mk a) (Vm.Alike.refl U.vm) qK⟩, va_recv hK hP (ci := 6) (q0 := 5) rfl rfl, fun U hU hW => ⟨rfl, by rw [hU]; exact hPc, va_K.moved hW.alike hKc⟩⟩ rfl rfl hl.1 rfl (lv_room (Nat.le_of_ble_eq_true rfl)) dX7_countsInDraft_20 ⟨Nat.le_of_ble_eq_true rfl, Nat.le_of_ble_eq_true rfl⟩) (fun r_20 hw_20 => ?_)
    clear hPc
    rcases hw_20 with ⟨hr_20, hb_20⟩ | ⟨pp_20, hr_20, hb_20⟩
    · subst hr_20
      refine lv_iconst (v := (-1)) hx hb dX7_countsInDraft_23 (by decide) ?_
      refine lv_icmp_ne (tgt := 31) hx hb dX7_countsInDraft_24 (by decide) (fun c_24 => ?_) (fun c_24 => ?_)
      · exact absurd (by decide) c_24
      refine lv_iconst (v := 1) hx hb dX7_countsInDraft_27 (by decide) ?_
      refine lv_goto (tgt := 32) hx hb dX7_countsInDraft_28 (by decide) ?_
      exact W.zret (v := 1) hx hb hr (rfl) (fun t ht hW => ⟨1, rfl, Or.inl ⟨rfl, by exact ⟨hb_5, hb_20⟩⟩, ht⟩) (fun _ h => absurd h List.not_mem_nil) dX7_countsInDraft_32
    · subst hr_20
      refine lv_iconst (v := (-1)) hx hb dX7_countsInDraft_23 (by decide) ?_
      refine lv_icmp_ne (tgt := 31) hx hb dX7_countsInDraft_24 (by decide) (fun c_24 => ?_) (fun c_24 => ?_)
      rotate_left
      · exact absurd c_24 (nI_nm1 (by omega))
      refine lv_iconst (v := 0) hx hb dX7_countsInDraft_31 (by decide) ?_
      exact W.zret (v := 0) hx hb hr (rfl) (fun t ht hW => ⟨0, rfl, Or.inr ⟨rfl, by exact fun h => h.2 _ hb_20.1 hb_20.2.1⟩, ht⟩) (fun _ h => absurd h List.not_mem_nil) dX7_countsInDraft_32

set_option maxHeartbeats 4000000 in
set_option maxRecDepth 100000 in
theorem g_X7_trailOfDraft (l : Launch) (dC : Nat → ClassId) (dI : Nat → Nat → Nat) (h0 : Nat) (a0 : Nat) (ts : Nat) (a2 : Nat) (a3 : Nat) (v4 : Int32) (v5 : Int32) (a6 : Nat) (a7 : Nat) (a8 : Nat) (v9 : Nat) (v10 : Nat) (a11 : Nat) (a12 : Nat) (v13 : Int32) (a14 : Nat) (a15 : Nat) (a16 : Nat) (v17 : Int32) (e2_0 : Nat) (e2_1 : Nat) (e2_2 : Nat) (ke2_0 : ClassId) (ke2_1 : ClassId) (ke2_2 : ClassId) (n2 : Nat) (w2 : Nat) (g2 : Nat → Nat) (s2 : Nat → Nat) (l2 : Nat → Nat) (y8_0 : Nat) (y8_1 : Nat) (ky8_0 : ClassId) (ky8_1 : ClassId) (z8 : Nat) (t8 : Nat → Nat) (u8 : Nat → Nat) (sz : Nat) (hT : SOK g2 s2 l2 n2 w2) (hNM : WOK t8 u8 z8 30) : Met l yX7_trailOfDraft wsX7_trailOfDraft ({ frames := 3, cells := 1, slots := 661, locals := 70 }) (va_Pc [.ref h0] (fun U => U.heap.size = sz ∧ va_P (dC, dI) vwCl [(h0, .inr (7, [.ref a0, .int (nI ts), .ref a2, .ref a3, .int v4, .int v5, .ref a6, .ref a7, .ref a8, .int (nI v9), .int (nI v10), .ref a11, .ref a12, .int v13, .ref a14, .ref a15, .ref a16, .int v17])), (a12, .inr (2, [.ref e2_0, .ref e2_1, .ref e2_2, .int (nI n2), .int (nI w2)])), (e2_0, .inl (ke2_0, 600, .inl (nR g2))), (e2_1, .inl (ke2_1, 60, .inl (nR s2))), (e2_2, .inl (ke2_2, 60, .inl (nR l2))), (a8, .inr (6, [.ref y8_0, .ref y8_1, .int (nI z8)])), (y8_0, .inl (ky8_0, 720, .inl (nR t8))), (y8_1, .inl (ky8_1, 30, .inl (nR u8)))] U.heap ∧ va_K (dC, dI) vwCl [(ke2_0, .byte), (ke2_1, .int), (ke2_2, .int), (ky8_0, .byte), (ky8_1, .int)] U ∧ va_D (fun _ => True) [(h0, .inr (7, [.ref a0, .int (nI ts), .ref a2, .ref a3, .int v4, .int v5, .ref a6, .ref a7, .ref a8, .int (nI v9), .int (nI v10), .ref a11, .ref a12, .int v13, .ref a14, .ref a15, .ref a16, .int v17])), (a12, .inr (2, [.ref e2_0, .ref e2_1, .ref e2_2, .int (nI n2), .int (nI w2)])), (e2_0, .inl (ke2_0, 600, .inl (nR g2))), (e2_1, .inl (ke2_1, 60, .inl (nR s2))), (e2_2, .inl (ke2_2, 60, .inl (nR l2))), (a8, .inr (6, [.ref y8_0, .ref y8_1, .int (nI z8)])), (y8_0, .inl (ky8_0, 720, .inl (nR t8))), (y8_1, .inl (ky8_1, 30, .inl (nR u8)))])) (va_Qr (fun (u : Nat × (Nat → Nat)) => match u with | (tlo, gto) => (tlo = tln t8 u8 z8 g2 s2 l2 w2) ∧ (gto = tgr t8 u8 z8 g2 s2 l2 w2)) (fun (u : Nat × (Nat → Nat)) (ra : Nat) (t : State) => match u with | (tlo, gto) => va_P (dC, dI) vwCl [(h0, .inr (7, [.ref a0, .int (nI ts), .ref a2, .ref a3, .int v4, .int v5, .ref a6, .ref a7, .ref a8, .int (nI v9), .int (nI v10), .ref a11, .ref a12, .int v13, .ref a14, .ref a15, .ref a16, .int v17])), (a12, .inr (2, [.ref e2_0, .ref e2_1, .ref e2_2, .int (nI n2), .int (nI w2)])), (e2_0, .inl (ke2_0, 600, .inl (nR g2))), (e2_1, .inl (ke2_1, 60, .inl (nR s2))), (e2_2, .inl (ke2_2, 60, .inl (nR l2))), (a8, .inr (6, [.ref y8_0, .ref y8_1, .int (nI z8)])), (y8_0, .inl (ky8_0, 720, .inl (nR t8))), (y8_1, .inl (ky8_1, 30, .inl (nR u8))), (ra, .inl (ke2_0, tlo, .inl (nR gto)))] t.heap ∧ va_D (va_A [(h0, .inr (7, [.ref a0, .int (nI ts), .ref a2, .ref a3, .int v4, .int v5, .ref a6, .ref a7, .ref a8, .int (nI v9), .int (nI v10), .ref a11, .ref a12, .int v13, .ref a14, .ref a15, .ref a16, .int v17])), (a12, .inr (2, [.ref e2_0, .ref e2_1, .ref e2_2, .int (nI n2), .int (nI w2)])), (e2_0, .inl (ke2_0, 600, .inl (nR g2))), (e2_1, .inl (ke2_1, 60, .inl (nR s2))), (e2_2, .inl (ke2_2, 60, .inl (nR l2))), (a8, .inr (6, [.ref y8_0, .ref y8_1, .int (nI z8)])), (y8_0, .inl (ky8_0, 720, .inl (nR t8))), (y8_1, .inl (ky8_1, 30, .inl (nR u8)))] sz) [(h0, .inr (7, [.ref a0, .int (nI ts), .ref a2, .ref a3, .int v4, .int v5, .ref a6, .ref a7, .ref a8, .int (nI v9), .int (nI v10), .ref a11, .ref a12, .int v13, .ref a14, .ref a15, .ref a16, .int v17])), (a12, .inr (2, [.ref e2_0, .ref e2_1, .ref e2_2, .int (nI n2), .int (nI w2)])), (e2_0, .inl (ke2_0, 600, .inl (nR g2))), (e2_1, .inl (ke2_1, 60, .inl (nR s2))), (e2_2, .inl (ke2_2, 60, .inl (nR l2))), (a8, .inr (6, [.ref y8_0, .ref y8_1, .int (nI z8)])), (y8_0, .inl (ky8_0, 720, .inl (nR t8))), (y8_1, .inl (ky8_1, 30, .inl (nR u8))), (ra, .inl (ke2_0, tlo, .inl (nR gto)))]) (va_A [(h0, .inr (7, [.ref a0, .int (nI ts), .ref a2, .ref a3, .int v4, .int v5, .ref a6, .ref a7, .ref a8, .int (nI v9), .int (nI v10), .ref a11, .ref a12, .int v13, .ref a14, .ref a15, .ref a16, .int v17])), (a12, .inr (2, [.ref e2_0, .ref e2_1, .ref e2_2, .int (nI n2), .int (nI w2)])), (e2_0, .inl (ke2_0, 600, .inl (nR g2))), (e2_1, .inl (ke2_1, 60, .inl (nR s2))), (e2_2, .inl (ke2_2, 60, .inl (nR l2))), (a8, .inr (6, [.ref y8_0, .ref y8_1, .int (nI z8)])), (y8_0, .inl (ky8_0, 720, .inl (nR t8))), (y8_1, .inl (ky8_1, 30, .inl (nR u8)))] sz)) 1 661 (va_A [(h0, .inr (7, [.ref a0, .int (nI ts), .ref a2, .ref a3, .int v4, .int v5, .ref a6, .ref a7, .ref a8, .int (nI v9), .int (nI v10), .ref a11, .ref a12, .int v13, .ref a14, .ref a15, .ref a16, .int v17])), (a12, .inr (2, [.ref e2_0, .ref e2_1, .ref e2_2, .int (nI n2), .int (nI w2)])), (e2_0, .inl (ke2_0, 600, .inl (nR g2))), (e2_1, .inl (ke2_1, 60, .inl (nR s2))), (e2_2, .inl (ke2_2, 60, .inl (nR l2))), (a8, .inr (6, [.ref y8_0, .ref y8_1, .int (nI z8)])), (y8_0, .inl (ky8_0, 720, .inl (nR t8))), (y8_1, .inl (ky8_1, 30, .inl (nR u8)))] sz) := by
  refine Met.ofW (cc := cX7_trailOfDraft) (maxL := 5) (ret := (some (.array .byte))) (by decide) rfl ?_
  intro p e s m args below meth c s₁ B hml hv
  obtain ⟨rfl, hsz, hP, hK, hD0⟩ := hv
  have hx := B.exec
  have hb := B.bytes
  have hr := B.returns
  have hts := atoms_spec (ws := wsX7_trailOfDraft) B.pre
  have hown : s.vm.findClass RX7 = some m.cls := findClass_of_methodNamed B.named
  have hlocks := B.notSynchronized
  subst hsz
  have hD := hD0.self (sz := s.heap.size)
  clear hD0
  generalize hAe : va_A [(h0, .inr (7, [.ref a0, .int (nI ts), .ref a2, .ref a3, .int v4, .int v5, .ref a6, .ref a7, .ref a8, .int (nI v9), .int (nI v10), .ref a11, .ref a12, .int v13, .ref a14, .ref a15, .ref a16, .int v17])), (a12, .inr (2, [.ref e2_0, .ref e2_1, .ref e2_2, .int (nI n2), .int (nI w2)])), (e2_0, .inl (ke2_0, 600, .inl (nR g2))), (e2_1, .inl (ke2_1, 60, .inl (nR s2))), (e2_2, .inl (ke2_2, 60, .inl (nR l2))), (a8, .inr (6, [.ref y8_0, .ref y8_1, .int (nI z8)])), (y8_0, .inl (ky8_0, 720, .inl (nR t8))), (y8_1, .inl (ky8_1, 30, .inl (nR u8)))] s.heap.size = A at hD ⊢
  have hA : ∀ q : Nat, s.heap.size ≤ q → A q := fun q h => by rw [← hAe]; exact Or.inr h
  clear hAe
  have hS : va_S A s.heap s.heap [] := va_S.rf
  replace hP : va_P (dC, dI) vwCl [(h0, .inr (7, [.ref a0, .int (nI ts), .ref a2, .ref a3, .int v4, .int v5, .ref a6, .ref a7, .ref a8, .int (nI v9), .int (nI v10), .ref a11, .ref a12, .int v13, .ref a14, .ref a15, .ref a16, .int v17])), (a12, .inr (2, [.ref e2_0, .ref e2_1, .ref e2_2, .int (nI n2), .int (nI w2)])), (e2_0, .inl (ke2_0, 600, .inl (nR g2))), (e2_1, .inl (ke2_1, 60, .inl (nR s2))), (e2_2, .inl (ke2_2, 60, .inl (nR l2))), (a8, .inr (6, [.ref y8_0, .ref y8_1, .int (nI z8)])), (y8_0, .inl (ky8_0, 720, .inl (nR t8))), (y8_1, .inl (ky8_1, 30, .inl (nR u8)))] s.heap := hP
  have hl := lv_entry ([.ref h0]) (n := 5) (Nat.le_of_ble_eq_true rfl)
  rw [lg_entry_eq]
  generalize (lg_sl ([.ref h0]) ++ List.replicate (5 - (lg_sl ([.ref h0])).length) Slot.unset).toArray = ls at hl ⊢
  replace hl : lv_has ls 5 [(0, .ref h0)] := hl
  have hi_X7 : ∀ w ∈ wsX70, w ∈ wsX7_trailOfDraft := by decide +kernel
  have k_f65 := hts (.fieldLink RX7 65 "TongueTeller" "draft" "LTongueTeller$Script;") (by decide +kernel)
  have hi_X2 : ∀ w ∈ wsX20, w ∈ wsX7_trailOfDraft := by decide +kernel
  have k_f247 := hts (.fieldLink RX7 247 "TongueTeller$Script" "words" "I") (by decide +kernel)
  have k_f174 := hts (.fieldLink RX7 174 "TongueTeller$Script" "signs" "[B") (by decide +kernel)
  have k_f188 := hts (.fieldLink RX7 188 "TongueTeller$Script" "starts" "[I") (by decide +kernel)
  have k_f191 := hts (.fieldLink RX7 191 "TongueTeller$Script" "lengths" "[I") (by decide +kernel)
  have hw60 := hT.2.1
  refine lv_iconst (v := 1) hx hb dX7_trailOfDraft_0 (by decide) ?_
  refine lv_istore_n (lv' := [(1, .int 1), (0, .ref h0)]) hx hb dX7_trailOfDraft_1 rfl hl (by decide) rfl (fun ls hl => ?_)
  refine lv_iconst (v := 0) hx hb dX7_trailOfDraft_2 (by decide) ?_
  refine lv_istore_n (lv' := [(2, .int 0), (1, .int 1), (0, .ref h0)]) hx hb dX7_trailOfDraft_3 rfl hl (by decide) rfl (fun ls hl => ?_)
  obtain ⟨i, e_i⟩ : ∃ y : Nat, y = 0 := ⟨_, rfl⟩
  replace hl : lv_has ls 5 [(0, .ref h0), (1, .int (nI (tln t8 u8 z8 g2 s2 l2 i))), (2, .int (nI i))] := by (try rewrite [e_i]); exact lv_sub hl [2, 1, 0] rfl
  have hi1 : i ≤ w2 := by (try rewrite [e_i]); omega
  clear e_i
  obtain ⟨nn4, hnn4⟩ : ∃ q : Nat, w2 - i < q := ⟨_, Nat.lt_succ_self _⟩
  induction nn4 generalizing i ls with
  | zero => exact absurd hnn4 (Nat.not_lt_zero _)
  | succ nn4 ih4 =>
    refine lv_iload_n hx hb dX7_trailOfDraft_4 rfl (lv_at hl 2 rfl) ?_
    refine lv_aload_n hx hb dX7_trailOfDraft_5 rfl (lv_at hl 0 rfl) ?_
    refine va_get (D := (dC, dI)) (ci := 7) (v := .ref a12) (C := RX7) (T := TX7) (N := 18) hx hb hts hi_X7 hown hK hP 0 rfl rfl 12 (by decide) k_f65 (fun _ h9 => h9) rfl dX7_trailOfDraft_6 ?_
    refine va_get (D := (dC, dI)) (ci := 2) (v := .int (nI w2)) (C := RX2) (T := TX2) (N := 5) hx hb hts hi_X2 hown hK hP 1 rfl rfl 4 (by decide) k_f247 (fun _ h9 => h9) rfl dX7_trailOfDraft_9 ?_
    refine lv_icmp_ge (tgt := 47) hx hb dX7_trailOfDraft_12 (by decide) (fun c_12 => ?_) (fun c_12 => ?_)
    · have n_12 : w2 ≤ i := (nI_leI (a := w2) (b := i) (by omega) (by omega)).mp c_12
      obtain rfl : w2 = i := by omega
      have htl := tln_le (lt := t8) (lw := u8) (z := z8) hT (i := w2) (by omega)
      have htl1 := tln_1 (lt := t8) (lw := u8) (z := z8) (g := g2) (sb := s2) (ln := l2) w2
      refine lv_iload_n hx hb dX7_trailOfDraft_47 rfl (lv_at hl 1 rfl) ?_
      have hSo := hS
      clear hS
      refine va_newa (atype := .byte) (ty := .byte) (N' := (tln t8 u8 z8 g2 s2 l2 w2)) (a0 := ((tln t8 u8 z8 g2 s2 l2 w2), .inl (fun _ => 0))) hx hb (hts (.arrayClass .byte) (by decide +kernel)) rfl hK hP hD hSo hA (fun _ => rfl) (nI_pos (by omega)) (nI_clamp (by omega)) (by rw [show componentBytes .byte = 1 from rfl]; omega) (Nat.le_of_ble_eq_true rfl) (show 0 + (tln t8 u8 z8 g2 s2 l2 w2) ≤ 661 by omega) dX7_trailOfDraft_48 (fun q48 cA48 H hK hP hD hS => ?_)
      clear hSo
      obtain rfl : ke2_0 = cA48 := K_one hK 0 5 rfl rfl
      replace hP : va_P (dC, dI) vwCl [(h0, .inr (7, [.ref a0, .int (nI ts), .ref a2, .ref a3, .int v4, .int v5, .ref a6, .ref a7, .ref a8, .int (nI v9), .int (nI v10), .ref a11, .ref a12, .int v13, .ref a14, .ref a15, .ref a16, .int v17])), (a12, .inr (2, [.ref e2_0, .ref e2_1, .ref e2_2, .int (nI n2), .int (nI w2)])), (e2_0, .inl (ke2_0, 600, .inl (nR g2))), (e2_1, .inl (ke2_1, 60, .inl (nR s2))), (e2_2, .inl (ke2_2, 60, .inl (nR l2))), (a8, .inr (6, [.ref y8_0, .ref y8_1, .int (nI z8)])), (y8_0, .inl (ky8_0, 720, .inl (nR t8))), (y8_1, .inl (ky8_1, 30, .inl (nR u8))), (q48, .inl (ke2_0, tln t8 u8 z8 g2 s2 l2 w2, .inl (fun _ => 0)))] H := hP
      replace hD : va_D A [(h0, .inr (7, [.ref a0, .int (nI ts), .ref a2, .ref a3, .int v4, .int v5, .ref a6, .ref a7, .ref a8, .int (nI v9), .int (nI v10), .ref a11, .ref a12, .int v13, .ref a14, .ref a15, .ref a16, .int v17])), (a12, .inr (2, [.ref e2_0, .ref e2_1, .ref e2_2, .int (nI n2), .int (nI w2)])), (e2_0, .inl (ke2_0, 600, .inl (nR g2))), (e2_1, .inl (ke2_1, 60, .inl (nR s2))), (e2_2, .inl (ke2_2, 60, .inl (nR l2))), (a8, .inr (6, [.ref y8_0, .ref y8_1, .int (nI z8)])), (y8_0, .inl (ky8_0, 720, .inl (nR t8))), (y8_1, .inl (ky8_1, 30, .inl (nR u8))), (q48, .inl (ke2_0, tln t8 u8 z8 g2 s2 l2 w2, .inl (fun _ => 0)))] := hD
      have hK : va_K (dC, dI) vwCl [(ke2_0, .byte), (ke2_1, .int), (ke2_2, .int), (ky8_0, .byte), (ky8_1, .int), (ke2_0, .byte)] s := hK
      refine W.widen (k := 1) (n := 661) (by omega) (by omega) ?_
      refine lv_astore_n (lv' := [(2, .ref q48), (0, .ref h0), (1, .int (nI (tln t8 u8 z8 g2 s2 l2 w2)))]) hx hb dX7_trailOfDraft_50 rfl hl (by decide) rfl (fun ls hl => ?_)
      refine lv_aload_n hx hb dX7_trailOfDraft_51 rfl (lv_at hl 0 rfl) ?_
      refine lv_iconst (v := 0) hx hb dX7_trailOfDraft_52 (by decide) ?_
      refine lv_bipush (v := 27) hx hb dX7_trailOfDraft_53 (by decide) ?_
      refine va_bast hx hb hK hP hD hS 8 0 rfl rfl (i := 0) (x := 27) (show vp_in (nI 0) _ from vp_in_nI (by omega) (by omega)) dX7_trailOfDraft_55 (fun H locs hP hD hS => ?_)
      have er_55 : upd (fun _ => 0) (0 : Int32).toNatClampNeg (vp_nar .byte 27) = nR (updN (fun _ => 0) 0 27) := upd_nRb (g := (fun _ => 0)) (i := 0) (v := 27) (by omega) (by omega)
      replace hP : va_P (dC, dI) vwCl [(h0, .inr (7, [.ref a0, .int (nI ts), .ref a2, .ref a3, .int v4, .int v5, .ref a6, .ref a7, .ref a8, .int (nI v9), .int (nI v10), .ref a11, .ref a12, .int v13, .ref a14, .ref a15, .ref a16, .int v17])), (a12, .inr (2, [.ref e2_0, .ref e2_1, .ref e2_2, .int (nI n2), .int (nI w2)])), (e2_0, .inl (ke2_0, 600, .inl (nR g2))), (e2_1, .inl (ke2_1, 60, .inl (nR s2))), (e2_2, .inl (ke2_2, 60, .inl (nR l2))), (a8, .inr (6, [.ref y8_0, .ref y8_1, .int (nI z8)])), (y8_0, .inl (ky8_0, 720, .inl (nR t8))), (y8_1, .inl (ky8_1, 30, .inl (nR u8))), (q48, .inl (ke2_0, tln t8 u8 z8 g2 s2 l2 w2, .inl (nR (updN (fun _ => 0) 0 27))))] H := by rw [← er_55]; exact hP
      replace hD : va_D A [(h0, .inr (7, [.ref a0, .int (nI ts), .ref a2, .ref a3, .int v4, .int v5, .ref a6, .ref a7, .ref a8, .int (nI v9), .int (nI v10), .ref a11, .ref a12, .int v13, .ref a14, .ref a15, .ref a16, .int v17])), (a12, .inr (2, [.ref e2_0, .ref e2_1, .ref e2_2, .int (nI n2), .int (nI w2)])), (e2_0, .inl (ke2_0, 600, .inl (nR g2))), (e2_1, .inl (ke2_1, 60, .inl (nR s2))), (e2_2, .inl (ke2_2, 60, .inl (nR l2))), (a8, .inr (6, [.ref y8_0, .ref y8_1, .int (nI z8)])), (y8_0, .inl (ky8_0, 720, .inl (nR t8))), (y8_1, .inl (ky8_1, 30, .inl (nR u8))), (q48, .inl (ke2_0, tln t8 u8 z8 g2 s2 l2 w2, .inl (nR (updN (fun _ => 0) 0 27))))] := by rw [← er_55]; exact hD
      refine lv_iconst (v := 1) hx hb dX7_trailOfDraft_56 (by decide) ?_
      refine lv_istore_n (lv' := [(3, .int 1), (2, .ref q48), (0, .ref h0), (1, .int (nI (tln t8 u8 z8 g2 s2 l2 w2)))]) hx hb dX7_trailOfDraft_57 rfl hl (by decide) rfl (fun ls hl => ?_)
      refine lv_iconst (v := 0) hx hb dX7_trailOfDraft_58 (by decide) ?_
      refine lv_istore (lv' := [(4, .int 0), (3, .int 1), (2, .ref q48), (0, .ref h0), (1, .int (nI (tln t8 u8 z8 g2 s2 l2 w2)))]) hx hb dX7_trailOfDraft_59 hl (by decide) rfl (fun ls hl => ?_)
      obtain ⟨i2, e_i2⟩ : ∃ y : Nat, y = 0 := ⟨_, rfl⟩
      obtain ⟨tq, e_tq⟩ : ∃ y : Nat → Nat, y = updN (fun _ => 0) 0 27 := ⟨_, rfl⟩
      replace hl : lv_has ls 5 [(0, .ref h0), (2, .ref q48), (3, .int (nI (tln t8 u8 z8 g2 s2 l2 i2))), (4, .int (nI i2))] := by (try rewrite [e_i2]); (try rewrite [e_tq]); exact lv_sub hl [3, 2, 1, 0] rfl
      replace hP : va_P (dC, dI) vwCl [(h0, .inr (7, [.ref a0, .int (nI ts), .ref a2, .ref a3, .int v4, .int v5, .ref a6, .ref a7, .ref a8, .int (nI v9), .int (nI v10), .ref a11, .ref a12, .int v13, .ref a14, .ref a15, .ref a16, .int v17])), (a12, .inr (2, [.ref e2_0, .ref e2_1, .ref e2_2, .int (nI n2), .int (nI w2)])), (e2_0, .inl (ke2_0, 600, .inl (nR g2))), (e2_1, .inl (ke2_1, 60, .inl (nR s2))), (e2_2, .inl (ke2_2, 60, .inl (nR l2))), (a8, .inr (6, [.ref y8_0, .ref y8_1, .int (nI z8)])), (y8_0, .inl (ky8_0, 720, .inl (nR t8))), (y8_1, .inl (ky8_1, 30, .inl (nR u8))), (q48, .inl (ke2_0, tln t8 u8 z8 g2 s2 l2 w2, .inl (nR tq)))] H := by (try rewrite [e_i2]); (try rewrite [e_tq]); exact hP
      replace hD : va_D A [(h0, .inr (7, [.ref a0, .int (nI ts), .ref a2, .ref a3, .int v4, .int v5, .ref a6, .ref a7, .ref a8, .int (nI v9), .int (nI v10), .ref a11, .ref a12, .int v13, .ref a14, .ref a15, .ref a16, .int v17])), (a12, .inr (2, [.ref e2_0, .ref e2_1, .ref e2_2, .int (nI n2), .int (nI w2)])), (e2_0, .inl (ke2_0, 600, .inl (nR g2))), (e2_1, .inl (ke2_1, 60, .inl (nR s2))), (e2_2, .inl (ke2_2, 60, .inl (nR l2))), (a8, .inr (6, [.ref y8_0, .ref y8_1, .int (nI z8)])), (y8_0, .inl (ky8_0, 720, .inl (nR t8))), (y8_1, .inl (ky8_1, 30, .inl (nR u8))), (q48, .inl (ke2_0, tln t8 u8 z8 g2 s2 l2 w2, .inl (nR tq)))] := by (try rewrite [e_i2]); (try rewrite [e_tq]); exact hD
      have hi2 : i2 ≤ w2 := by (try rewrite [e_i2]); (try rewrite [e_tq]); omega
      have htq : tq = tgr t8 u8 z8 g2 s2 l2 i2 := by (try rewrite [e_i2]); (try rewrite [e_tq]); rfl
      clear e_i2 e_tq
      obtain ⟨nn61, hnn61⟩ : ∃ q : Nat, w2 - i2 < q := ⟨_, Nat.lt_succ_self _⟩
      induction nn61 generalizing i2 tq H locs ls with
      | zero => exact absurd hnn61 (Nat.not_lt_zero _)
      | succ nn61 ih61 =>
        refine lv_iload hx hb dX7_trailOfDraft_61 (lv_at hl 3 rfl) ?_
        refine lv_aload_n hx hb dX7_trailOfDraft_63 rfl (lv_at hl 0 rfl) ?_
        refine va_get (D := (dC, dI)) (ci := 7) (v := .ref a12) (C := RX7) (T := TX7) (N := 18) hx hb hts hi_X7 hown hK hP 0 rfl rfl 12 (by decide) k_f65 (fun _ h9 => h9) rfl dX7_trailOfDraft_64 ?_
        refine va_get (D := (dC, dI)) (ci := 2) (v := .int (nI w2)) (C := RX2) (T := TX2) (N := 5) hx hb hts hi_X2 hown hK hP 1 rfl rfl 4 (by decide) k_f247 (fun _ h9 => h9) rfl dX7_trailOfDraft_67 ?_
        refine lv_icmp_ge (tgt := 141) hx hb dX7_trailOfDraft_70 (by decide) (fun c_70 => ?_) (fun c_70 => ?_)
        · have n_70 : w2 ≤ i2 := (nI_leI (a := w2) (b := i2) (by omega) (by omega)).mp c_70
          refine lv_aload_n hx hb dX7_trailOfDraft_141 rfl (lv_at hl 1 rfl) ?_
          have hP9 := hP.sub (ws' := [(h0, .inr (7, [.ref a0, .int (nI ts), .ref a2, .ref a3, .int v4, .int v5, .ref a6, .ref a7, .ref a8, .int (nI v9), .int (nI v10), .ref a11, .ref a12, .int v13, .ref a14, .ref a15, .ref a16, .int v17])), (a12, .inr (2, [.ref e2_0, .ref e2_1, .ref e2_2, .int (nI n2), .int (nI w2)])), (e2_0, .inl (ke2_0, 600, .inl (nR g2))), (e2_1, .inl (ke2_1, 60, .inl (nR s2))), (e2_2, .inl (ke2_2, 60, .inl (nR l2))), (a8, .inr (6, [.ref y8_0, .ref y8_1, .int (nI z8)])), (y8_0, .inl (ky8_0, 720, .inl (nR t8))), (y8_1, .inl (ky8_1, 30, .inl (nR u8))), (q48, .inl (ke2_0, tln t8 u8 z8 g2 s2 l2 w2, .inl (nR tq)))]) [0, 1, 2, 3, 4, 5, 6, 7, 8] rfl
          have hD9 := hD.sub (ws' := [(h0, .inr (7, [.ref a0, .int (nI ts), .ref a2, .ref a3, .int v4, .int v5, .ref a6, .ref a7, .ref a8, .int (nI v9), .int (nI v10), .ref a11, .ref a12, .int v13, .ref a14, .ref a15, .ref a16, .int v17])), (a12, .inr (2, [.ref e2_0, .ref e2_1, .ref e2_2, .int (nI n2), .int (nI w2)])), (e2_0, .inl (ke2_0, 600, .inl (nR g2))), (e2_1, .inl (ke2_1, 60, .inl (nR s2))), (e2_2, .inl (ke2_2, 60, .inl (nR l2))), (a8, .inr (6, [.ref y8_0, .ref y8_1, .int (nI z8)])), (y8_0, .inl (ky8_0, 720, .inl (nR t8))), (y8_1, .inl (ky8_1, 30, .inl (nR u8))), (q48, .inl (ke2_0, tln t8 u8 z8 g2 s2 l2 w2, .inl (nR tq)))]) [0, 1, 2, 3, 4, 5, 6, 7, 8] (by decide) rfl
          refine W.widen (k := 1) (n := 661) (Nat.le_of_ble_eq_true rfl) (Nat.le_of_ble_eq_true rfl) ?_
          exact W.aret (v := .ref q48) hx hb hr (Or.inr ⟨_, rfl⟩) (Or.inr ⟨_, rfl⟩) (fun t ht hW => ⟨⟨((tln t8 u8 z8 g2 s2 l2 w2), tq), q48, rfl, ⟨by rfl, by rw [htq, show i2 = w2 by omega]⟩, by rw [ht]; exact hP9, hD9⟩, hS.F ht⟩) hS.2.2 dX7_trailOfDraft_142
        · have n_70 : i2 < w2 := Nat.not_le.mp (fun h9 => c_70 ((nI_leI (a := w2) (b := i2) (by omega) (by omega)).mpr h9))
          refine lv_aload_n hx hb dX7_trailOfDraft_73 rfl (lv_at hl 0 rfl) ?_
          refine lv_iload hx hb dX7_trailOfDraft_74 (lv_at hl 3 rfl) ?_
          have hPc := hP.sub (ws' := [(h0, .inr (7, [.ref a0, .int (nI ts), .ref a2, .ref a3, .int v4, .int v5, .ref a6, .ref a7, .ref a8, .int (nI v9), .int (nI v10), .ref a11, .ref a12, .int v13, .ref a14, .ref a15, .ref a16, .int v17])), (a12, .inr (2, [.ref e2_0, .ref e2_1, .ref e2_2, .int (nI n2), .int (nI w2)])), (e2_0, .inl (ke2_0, 600, .inl (nR g2))), (e2_1, .inl (ke2_1, 60, .inl (nR s2))), (e2_2, .inl (ke2_2, 60, .inl (nR l2))), (a8, .inr (6, [.ref y8_0, .ref y8_1, .int (nI z8)])), (y8_0, .inl (ky8_0, 720, .inl (nR t8))), (y8_1, .inl (ky8_1, 30, .inl (nR u8)))]) [0, 1, 2, 3, 4, 5, 6, 7] rfl
          have hKc := hK.sub (tys' := [(ke2_0, .byte), (ke2_1, .int), (ke2_2, .int), (ky8_0, .byte), (ky8_1, .int)]) [0, 1, 2, 3, 4] rfl
          refine vp_callSi (W.runV (As := [.int (nI i2)]) (rest := []) ⟨hx, hb, hml, hown, hts⟩ (g_X7_countsInDraft l dC dI h0 a0 ts a2 a3 v4 v5 a6 a7 a8 v9 v10 a11 a12 v13 a14 a15 a16 v17 e2_0 e2_1 e2_2 ke2_0 ke2_1 ke2_2 n2 w2 g2 s2 l2 y8_0 y8_1 ky8_0 ky8_1 z8 t8 u8 i2 (hT) (hNM) (by omega)) (cwV 1 hts gX7_trailOfDraft_X7_countsInDraft rfl rfl rfl (by decide +kernel) ⟨Nat.le_of_ble_eq_true rfl, Nat.le_of_ble_eq_true rfl⟩) ⟨fun a U g mk q => by obtain ⟨q0, qP, qK⟩ := q; exact ⟨q0, qP, va_K.moved (u := U) (U := U.calling g mk a) (Vm.Alike.refl U.vm) qK⟩, va_recv hK hP (ci := 7) (q0 := 0) rfl rfl, fun U hU hW => ⟨rfl, by rw [hU]; exact hPc, va_K.moved hW.alike hKc⟩⟩ rfl rfl hl.1 rfl (lv_room (Nat.le_of_ble_eq_true rfl)) dX7_trailOfDraft_76 ⟨Nat.le_of_ble_eq_true rfl, Nat.le_of_ble_eq_true rfl⟩) (fun r_76 hw_76 => ?_)
          clear hPc
          rcases hw_76 with ⟨hr_76, hb_76⟩ | ⟨hr_76, hb_76⟩
          · subst hr_76
            obtain ⟨hwa, hwb, hwc, hwe, hwf⟩ := hT.wd (i := i2) (by omega)
            have htl2 := tln_le (lt := t8) (lw := u8) (z := z8) hT (i := i2) (by omega)
            refine lv_if_eq (tgt := 135) hx hb dX7_trailOfDraft_79 (by decide) (fun c_79 => ?_) (fun c_79 => ?_)
            · exact absurd c_79 (by decide)
            have hmm := tln_m (lt := t8) (lw := u8) (z := z8) (g := g2) (sb := s2) (ln := l2) (i := i2 + 1) (j := w2) (by omega)
            rw [tln_y hb_76] at hmm
            refine lv_aload_n hx hb dX7_trailOfDraft_82 rfl (lv_at hl 0 rfl) ?_
            refine va_get (D := (dC, dI)) (ci := 7) (v := .ref a12) (C := RX7) (T := TX7) (N := 18) hx hb hts hi_X7 hown hK hP 0 rfl rfl 12 (by decide) k_f65 (fun _ h9 => h9) rfl dX7_trailOfDraft_83 ?_
            refine va_get (D := (dC, dI)) (ci := 2) (v := .ref e2_0) (C := RX2) (T := TX2) (N := 5) hx hb hts hi_X2 hown hK hP 1 rfl rfl 0 (by decide) k_f174 (fun _ h9 => h9) rfl dX7_trailOfDraft_86 ?_
            refine lv_aload_n hx hb dX7_trailOfDraft_89 rfl (lv_at hl 0 rfl) ?_
            refine va_get (D := (dC, dI)) (ci := 7) (v := .ref a12) (C := RX7) (T := TX7) (N := 18) hx hb hts hi_X7 hown hK hP 0 rfl rfl 12 (by decide) k_f65 (fun _ h9 => h9) rfl dX7_trailOfDraft_90 ?_
            refine va_get (D := (dC, dI)) (ci := 2) (v := .ref e2_1) (C := RX2) (T := TX2) (N := 5) hx hb hts hi_X2 hown hK hP 1 rfl rfl 1 (by decide) k_f188 (fun _ h9 => h9) rfl dX7_trailOfDraft_93 ?_
            refine lv_iload hx hb dX7_trailOfDraft_96 (lv_at hl 3 rfl) ?_
            refine va_iald hx hb hK hP 3 1 rfl rfl (i := nI i2) (vp_in_nI (by omega) (by omega)) dX7_trailOfDraft_98 ?_
            refine lv_topi (fun x_98 ex_98 => ?_)
            obtain rfl : nI (s2 i2) = x_98 := Eq.symm (ex_98.trans (nR_at (by omega)))
            refine lv_aload_n hx hb dX7_trailOfDraft_99 rfl (lv_at hl 1 rfl) ?_
            refine lv_iload_n hx hb dX7_trailOfDraft_100 rfl (lv_at hl 2 rfl) ?_
            refine lv_aload_n hx hb dX7_trailOfDraft_101 rfl (lv_at hl 0 rfl) ?_
            refine va_get (D := (dC, dI)) (ci := 7) (v := .ref a12) (C := RX7) (T := TX7) (N := 18) hx hb hts hi_X7 hown hK hP 0 rfl rfl 12 (by decide) k_f65 (fun _ h9 => h9) rfl dX7_trailOfDraft_102 ?_
            refine va_get (D := (dC, dI)) (ci := 2) (v := .ref e2_2) (C := RX2) (T := TX2) (N := 5) hx hb hts hi_X2 hown hK hP 1 rfl rfl 2 (by decide) k_f191 (fun _ h9 => h9) rfl dX7_trailOfDraft_105 ?_
            refine lv_iload hx hb dX7_trailOfDraft_108 (lv_at hl 3 rfl) ?_
            refine va_iald hx hb hK hP 4 2 rfl rfl (i := nI i2) (vp_in_nI (by omega) (by omega)) dX7_trailOfDraft_110 ?_
            refine lv_topi (fun x_110 ex_110 => ?_)
            obtain rfl : nI (l2 i2) = x_110 := Eq.symm (ex_110.trans (nR_at (by omega)))
            refine va_copyi hx hb (by rw [hml]; exact hl.1.symm) hown (hts (.methodLink RX7 269 arraycopyName) (by decide +kernel)) (hts (.native arraycopyName) (by decide +kernel)) (hts (.static arraycopyName) (by decide +kernel)) (hts (.initialized "java/lang/System") (by decide +kernel)) hK hP hD hS 2 8 0 0 (ty := .byte) rfl rfl rfl rfl rfl (sp := nI (s2 i2)) (dp := nI (tln t8 u8 z8 g2 s2 l2 i2)) (n := nI (l2 i2)) (nI_pos (by omega)) (nI_pos (by omega)) (nI_pos (by omega)) (by rw [nI_clamp (n := s2 i2) (by omega), nI_clamp (n := l2 i2) (by omega)]; omega) (by rw [nI_clamp (n := tln t8 u8 z8 g2 s2 l2 i2) (by omega), nI_clamp (n := l2 i2) (by omega)]; omega) (fun i _ => fit_b (fun j => Nat.lt_trans (hT.hg j) (by decide)) _) (Nat.le_of_ble_eq_true rfl) (Nat.le_of_ble_eq_true rfl) dX7_trailOfDraft_111 (fun H locs hP hD hS => ?_)
            have er_111 : va_cpy (nR g2) (nR tq) (nI (s2 i2)).toNatClampNeg (nI (tln t8 u8 z8 g2 s2 l2 i2)).toNatClampNeg (nI (l2 i2)).toNatClampNeg = nR (va_cpy g2 tq (s2 i2) (tln t8 u8 z8 g2 s2 l2 i2) (l2 i2)) := by rw [nI_clamp (n := s2 i2) (by omega), nI_clamp (n := tln t8 u8 z8 g2 s2 l2 i2) (by omega), nI_clamp (n := l2 i2) (by omega), cpy_nR]
            replace hP : va_P (dC, dI) vwCl [(h0, .inr (7, [.ref a0, .int (nI ts), .ref a2, .ref a3, .int v4, .int v5, .ref a6, .ref a7, .ref a8, .int (nI v9), .int (nI v10), .ref a11, .ref a12, .int v13, .ref a14, .ref a15, .ref a16, .int v17])), (a12, .inr (2, [.ref e2_0, .ref e2_1, .ref e2_2, .int (nI n2), .int (nI w2)])), (e2_0, .inl (ke2_0, 600, .inl (nR g2))), (e2_1, .inl (ke2_1, 60, .inl (nR s2))), (e2_2, .inl (ke2_2, 60, .inl (nR l2))), (a8, .inr (6, [.ref y8_0, .ref y8_1, .int (nI z8)])), (y8_0, .inl (ky8_0, 720, .inl (nR t8))), (y8_1, .inl (ky8_1, 30, .inl (nR u8))), (q48, .inl (ke2_0, tln t8 u8 z8 g2 s2 l2 w2, .inl (nR (va_cpy g2 tq (s2 i2) (tln t8 u8 z8 g2 s2 l2 i2) (l2 i2)))))] H := by rw [← er_111]; exact hP
            replace hD : va_D A [(h0, .inr (7, [.ref a0, .int (nI ts), .ref a2, .ref a3, .int v4, .int v5, .ref a6, .ref a7, .ref a8, .int (nI v9), .int (nI v10), .ref a11, .ref a12, .int v13, .ref a14, .ref a15, .ref a16, .int v17])), (a12, .inr (2, [.ref e2_0, .ref e2_1, .ref e2_2, .int (nI n2), .int (nI w2)])), (e2_0, .inl (ke2_0, 600, .inl (nR g2))), (e2_1, .inl (ke2_1, 60, .inl (nR s2))), (e2_2, .inl (ke2_2, 60, .inl (nR l2))), (a8, .inr (6, [.ref y8_0, .ref y8_1, .int (nI z8)])), (y8_0, .inl (ky8_0, 720, .inl (nR t8))), (y8_1, .inl (ky8_1, 30, .inl (nR u8))), (q48, .inl (ke2_0, tln t8 u8 z8 g2 s2 l2 w2, .inl (nR (va_cpy g2 tq (s2 i2) (tln t8 u8 z8 g2 s2 l2 i2) (l2 i2)))))] := by rw [← er_111]; exact hD
            refine lv_iload_n hx hb dX7_trailOfDraft_114 rfl (lv_at hl 2 rfl) ?_
            refine lv_aload_n hx hb dX7_trailOfDraft_115 rfl (lv_at hl 0 rfl) ?_
            refine va_get (D := (dC, dI)) (ci := 7) (v := .ref a12) (C := RX7) (T := TX7) (N := 18) hx hb hts hi_X7 hown hK hP 0 rfl rfl 12 (by decide) k_f65 (fun _ h9 => h9) rfl dX7_trailOfDraft_116 ?_
            refine va_get (D := (dC, dI)) (ci := 2) (v := .ref e2_2) (C := RX2) (T := TX2) (N := 5) hx hb hts hi_X2 hown hK hP 1 rfl rfl 2 (by decide) k_f191 (fun _ h9 => h9) rfl dX7_trailOfDraft_119 ?_
            refine lv_iload hx hb dX7_trailOfDraft_122 (lv_at hl 3 rfl) ?_
            refine va_iald hx hb hK hP 4 2 rfl rfl (i := nI i2) (vp_in_nI (by omega) (by omega)) dX7_trailOfDraft_124 ?_
            refine lv_topi (fun x_124 ex_124 => ?_)
            obtain rfl : nI (l2 i2) = x_124 := Eq.symm (ex_124.trans (nR_at (by omega)))
            refine lv_iadd hx hb dX7_trailOfDraft_125 ?_
            refine lv_topi (fun x_125 ex_125 => ?_)
            obtain rfl : nI (tln t8 u8 z8 g2 s2 l2 i2 + (l2 i2)) = x_125 := Eq.symm (ex_125.trans (nI_add (tln t8 u8 z8 g2 s2 l2 i2) (l2 i2)))
            refine lv_istore_n (lv' := [(3, .int (nI (tln t8 u8 z8 g2 s2 l2 i2 + (l2 i2)))), (0, .ref h0), (2, .ref q48), (4, .int (nI i2))]) hx hb dX7_trailOfDraft_126 rfl hl (by decide) rfl (fun ls hl => ?_)
            refine lv_aload_n hx hb dX7_trailOfDraft_127 rfl (lv_at hl 2 rfl) ?_
            refine lv_iload_n hx hb dX7_trailOfDraft_128 rfl (lv_at hl 0 rfl) ?_
            refine lv_bipush (v := 27) hx hb dX7_trailOfDraft_129 (by decide) ?_
            refine va_bast hx hb hK hP hD hS 8 0 rfl rfl (i := nI (tln t8 u8 z8 g2 s2 l2 i2 + (l2 i2))) (x := 27) (vp_in_nI (by omega) (by omega)) dX7_trailOfDraft_131 (fun H locs hP hD hS => ?_)
            have er_131 : upd (nR (va_cpy g2 tq (s2 i2) (tln t8 u8 z8 g2 s2 l2 i2) (l2 i2))) (nI (tln t8 u8 z8 g2 s2 l2 i2 + (l2 i2)) : Int32).toNatClampNeg (vp_nar .byte 27) = nR (updN (va_cpy g2 tq (s2 i2) (tln t8 u8 z8 g2 s2 l2 i2) (l2 i2)) (tln t8 u8 z8 g2 s2 l2 i2 + (l2 i2)) 27) := upd_nRb (g := va_cpy g2 tq (s2 i2) (tln t8 u8 z8 g2 s2 l2 i2) (l2 i2)) (i := tln t8 u8 z8 g2 s2 l2 i2 + (l2 i2)) (v := 27) (by omega) (by omega)
            replace hP : va_P (dC, dI) vwCl [(h0, .inr (7, [.ref a0, .int (nI ts), .ref a2, .ref a3, .int v4, .int v5, .ref a6, .ref a7, .ref a8, .int (nI v9), .int (nI v10), .ref a11, .ref a12, .int v13, .ref a14, .ref a15, .ref a16, .int v17])), (a12, .inr (2, [.ref e2_0, .ref e2_1, .ref e2_2, .int (nI n2), .int (nI w2)])), (e2_0, .inl (ke2_0, 600, .inl (nR g2))), (e2_1, .inl (ke2_1, 60, .inl (nR s2))), (e2_2, .inl (ke2_2, 60, .inl (nR l2))), (a8, .inr (6, [.ref y8_0, .ref y8_1, .int (nI z8)])), (y8_0, .inl (ky8_0, 720, .inl (nR t8))), (y8_1, .inl (ky8_1, 30, .inl (nR u8))), (q48, .inl (ke2_0, tln t8 u8 z8 g2 s2 l2 w2, .inl (nR (updN (va_cpy g2 tq (s2 i2) (tln t8 u8 z8 g2 s2 l2 i2) (l2 i2)) (tln t8 u8 z8 g2 s2 l2 i2 + (l2 i2)) 27))))] H := by rw [← er_131]; exact hP
            replace hD : va_D A [(h0, .inr (7, [.ref a0, .int (nI ts), .ref a2, .ref a3, .int v4, .int v5, .ref a6, .ref a7, .ref a8, .int (nI v9), .int (nI v10), .ref a11, .ref a12, .int v13, .ref a14, .ref a15, .ref a16, .int v17])), (a12, .inr (2, [.ref e2_0, .ref e2_1, .ref e2_2, .int (nI n2), .int (nI w2)])), (e2_0, .inl (ke2_0, 600, .inl (nR g2))), (e2_1, .inl (ke2_1, 60, .inl (nR s2))), (e2_2, .inl (ke2_2, 60, .inl (nR l2))), (a8, .inr (6, [.ref y8_0, .ref y8_1, .int (nI z8)])), (y8_0, .inl (ky8_0, 720, .inl (nR t8))), (y8_1, .inl (ky8_1, 30, .inl (nR u8))), (q48, .inl (ke2_0, tln t8 u8 z8 g2 s2 l2 w2, .inl (nR (updN (va_cpy g2 tq (s2 i2) (tln t8 u8 z8 g2 s2 l2 i2) (l2 i2)) (tln t8 u8 z8 g2 s2 l2 i2 + (l2 i2)) 27))))] := by rw [← er_131]; exact hD
            refine lv_iinc (v := nI (tln t8 u8 z8 g2 s2 l2 i2 + (l2 i2) + 1)) (lv' := [(3, .int (nI (tln t8 u8 z8 g2 s2 l2 i2 + (l2 i2) + 1))), (0, .ref h0), (2, .ref q48), (4, .int (nI i2))]) hx hb dX7_trailOfDraft_132 hl (k := 0) rfl (nI_1 _) (by decide) rfl (fun ls hl => ?_)
            replace hl : lv_has ls 5 [(3, .int (nI (tln t8 u8 z8 g2 s2 l2 (i2 + 1)))), (0, .ref h0), (2, .ref q48), (4, .int (nI i2))] := by rw [tln_y hb_76]; exact hl
            refine lv_iinc (v := nI (i2 + 1)) (lv' := [(4, .int (nI (i2 + 1))), (3, .int (nI (tln t8 u8 z8 g2 s2 l2 (i2 + 1)))), (0, .ref h0), (2, .ref q48)]) hx hb dX7_trailOfDraft_135 hl (k := 3) rfl (nI_1 _) (by decide) rfl (fun ls hl => ?_)
            refine lv_goto (tgt := 61) hx hb dX7_trailOfDraft_138 (by decide) ?_
            replace hl : lv_has ls 5 [(0, .ref h0), (2, .ref q48), (3, .int (nI (tln t8 u8 z8 g2 s2 l2 (i2 + 1)))), (4, .int (nI (i2 + 1)))] := lv_sub hl [2, 3, 1, 0] rfl
            replace hP : va_P (dC, dI) vwCl [(h0, .inr (7, [.ref a0, .int (nI ts), .ref a2, .ref a3, .int v4, .int v5, .ref a6, .ref a7, .ref a8, .int (nI v9), .int (nI v10), .ref a11, .ref a12, .int v13, .ref a14, .ref a15, .ref a16, .int v17])), (a12, .inr (2, [.ref e2_0, .ref e2_1, .ref e2_2, .int (nI n2), .int (nI w2)])), (e2_0, .inl (ke2_0, 600, .inl (nR g2))), (e2_1, .inl (ke2_1, 60, .inl (nR s2))), (e2_2, .inl (ke2_2, 60, .inl (nR l2))), (a8, .inr (6, [.ref y8_0, .ref y8_1, .int (nI z8)])), (y8_0, .inl (ky8_0, 720, .inl (nR t8))), (y8_1, .inl (ky8_1, 30, .inl (nR u8))), (q48, .inl (ke2_0, tln t8 u8 z8 g2 s2 l2 w2, .inl (nR (updN (va_cpy g2 tq (s2 i2) (tln t8 u8 z8 g2 s2 l2 i2) (l2 i2)) (tln t8 u8 z8 g2 s2 l2 i2 + (l2 i2)) 27))))] H := hP
            replace hD : va_D A [(h0, .inr (7, [.ref a0, .int (nI ts), .ref a2, .ref a3, .int v4, .int v5, .ref a6, .ref a7, .ref a8, .int (nI v9), .int (nI v10), .ref a11, .ref a12, .int v13, .ref a14, .ref a15, .ref a16, .int v17])), (a12, .inr (2, [.ref e2_0, .ref e2_1, .ref e2_2, .int (nI n2), .int (nI w2)])), (e2_0, .inl (ke2_0, 600, .inl (nR g2))), (e2_1, .inl (ke2_1, 60, .inl (nR s2))), (e2_2, .inl (ke2_2, 60, .inl (nR l2))), (a8, .inr (6, [.ref y8_0, .ref y8_1, .int (nI z8)])), (y8_0, .inl (ky8_0, 720, .inl (nR t8))), (y8_1, .inl (ky8_1, 30, .inl (nR u8))), (q48, .inl (ke2_0, tln t8 u8 z8 g2 s2 l2 w2, .inl (nR (updN (va_cpy g2 tq (s2 i2) (tln t8 u8 z8 g2 s2 l2 i2) (l2 i2)) (tln t8 u8 z8 g2 s2 l2 i2 + (l2 i2)) 27))))] := hD
            have htq9 : (updN (va_cpy g2 tq (s2 i2) (tln t8 u8 z8 g2 s2 l2 i2) (l2 i2)) (tln t8 u8 z8 g2 s2 l2 i2 + (l2 i2)) 27) = tgr t8 u8 z8 g2 s2 l2 (i2 + 1) := (by rw [htq]; exact (tgr_y hb_76).symm)
            apply ih61 (i2 := i2 + 1) (tq := updN (va_cpy g2 tq (s2 i2) (tln t8 u8 z8 g2 s2 l2 i2) (l2 i2)) (tln t8 u8 z8 g2 s2 l2 i2 + (l2 i2)) 27) <;> first | assumption | omega
          · subst hr_76
            obtain ⟨hwa, hwb, hwc, hwe, hwf⟩ := hT.wd (i := i2) (by omega)
            have htl2 := tln_le (lt := t8) (lw := u8) (z := z8) hT (i := i2) (by omega)
            refine lv_if_eq (tgt := 135) hx hb dX7_trailOfDraft_79 (by decide) (fun c_79 => ?_) (fun c_79 => ?_)
            rotate_left
            · exact absurd (by decide) c_79
            replace hl : lv_has ls 5 [(0, .ref h0), (2, .ref q48), (3, .int (nI (tln t8 u8 z8 g2 s2 l2 (i2 + 1)))), (4, .int (nI i2))] := by rw [tln_n hb_76]; exact hl
            refine lv_iinc (v := nI (i2 + 1)) (lv' := [(4, .int (nI (i2 + 1))), (0, .ref h0), (2, .ref q48), (3, .int (nI (tln t8 u8 z8 g2 s2 l2 (i2 + 1))))]) hx hb dX7_trailOfDraft_135 hl (k := 3) rfl (nI_1 _) (by decide) rfl (fun ls hl => ?_)
            refine lv_goto (tgt := 61) hx hb dX7_trailOfDraft_138 (by decide) ?_
            replace hl : lv_has ls 5 [(0, .ref h0), (2, .ref q48), (3, .int (nI (tln t8 u8 z8 g2 s2 l2 (i2 + 1)))), (4, .int (nI (i2 + 1)))] := lv_sub hl [1, 2, 3, 0] rfl
            replace hP : va_P (dC, dI) vwCl [(h0, .inr (7, [.ref a0, .int (nI ts), .ref a2, .ref a3, .int v4, .int v5, .ref a6, .ref a7, .ref a8, .int (nI v9), .int (nI v10), .ref a11, .ref a12, .int v13, .ref a14, .ref a15, .ref a16, .int v17])), (a12, .inr (2, [.ref e2_0, .ref e2_1, .ref e2_2, .int (nI n2), .int (nI w2)])), (e2_0, .inl (ke2_0, 600, .inl (nR g2))), (e2_1, .inl (ke2_1, 60, .inl (nR s2))), (e2_2, .inl (ke2_2, 60, .inl (nR l2))), (a8, .inr (6, [.ref y8_0, .ref y8_1, .int (nI z8)])), (y8_0, .inl (ky8_0, 720, .inl (nR t8))), (y8_1, .inl (ky8_1, 30, .inl (nR u8))), (q48, .inl (ke2_0, tln t8 u8 z8 g2 s2 l2 w2, .inl (nR tq)))] H := hP
            replace hD : va_D A [(h0, .inr (7, [.ref a0, .int (nI ts), .ref a2, .ref a3, .int v4, .int v5, .ref a6, .ref a7, .ref a8, .int (nI v9), .int (nI v10), .ref a11, .ref a12, .int v13, .ref a14, .ref a15, .ref a16, .int v17])), (a12, .inr (2, [.ref e2_0, .ref e2_1, .ref e2_2, .int (nI n2), .int (nI w2)])), (e2_0, .inl (ke2_0, 600, .inl (nR g2))), (e2_1, .inl (ke2_1, 60, .inl (nR s2))), (e2_2, .inl (ke2_2, 60, .inl (nR l2))), (a8, .inr (6, [.ref y8_0, .ref y8_1, .int (nI z8)])), (y8_0, .inl (ky8_0, 720, .inl (nR t8))), (y8_1, .inl (ky8_1, 30, .inl (nR u8))), (q48, .inl (ke2_0, tln t8 u8 z8 g2 s2 l2 w2, .inl (nR tq)))] := hD
            have htq9 : tq = tgr t8 u8 z8 g2 s2 l2 (i2 + 1) := (by rw [htq]; exact (tgr_n hb_76).symm)
            apply ih61 (i2 := i2 + 1) (tq := tq) <;> first | assumption | omega
    · have n_12 : i < w2 := Nat.not_le.mp (fun h9 => c_12 ((nI_leI (a := w2) (b := i) (by omega) (by omega)).mpr h9))
      refine lv_iload_n hx hb dX7_trailOfDraft_15 rfl (lv_at hl 1 rfl) ?_
      refine lv_aload_n hx hb dX7_trailOfDraft_16 rfl (lv_at hl 0 rfl) ?_
      refine lv_iload_n hx hb dX7_trailOfDraft_17 rfl (lv_at hl 2 rfl) ?_
      have hPc := hP.sub (ws' := [(h0, .inr (7, [.ref a0, .int (nI ts), .ref a2, .ref a3, .int v4, .int v5, .ref a6, .ref a7, .ref a8, .int (nI v9), .int (nI v10), .ref a11, .ref a12, .int v13, .ref a14, .ref a15, .ref a16, .int v17])), (a12, .inr (2, [.ref e2_0, .ref e2_1, .ref e2_2, .int (nI n2), .int (nI w2)])), (e2_0, .inl (ke2_0, 600, .inl (nR g2))), (e2_1, .inl (ke2_1, 60, .inl (nR s2))), (e2_2, .inl (ke2_2, 60, .inl (nR l2))), (a8, .inr (6, [.ref y8_0, .ref y8_1, .int (nI z8)])), (y8_0, .inl (ky8_0, 720, .inl (nR t8))), (y8_1, .inl (ky8_1, 30, .inl (nR u8)))]) [0, 1, 2, 3, 4, 5, 6, 7] rfl
      have hKc := hK.sub (tys' := [(ke2_0, .byte), (ke2_1, .int), (ke2_2, .int), (ky8_0, .byte), (ky8_1, .int)]) [0, 1, 2, 3, 4] rfl
      refine vp_callSi (W.runV (As := [.int (nI i)]) (rest := [.int (nI (tln t8 u8 z8 g2 s2 l2 i))]) ⟨hx, hb, hml, hown, hts⟩ (g_X7_countsInDraft l dC dI h0 a0 ts a2 a3 v4 v5 a6 a7 a8 v9 v10 a11 a12 v13 a14 a15 a16 v17 e2_0 e2_1 e2_2 ke2_0 ke2_1 ke2_2 n2 w2 g2 s2 l2 y8_0 y8_1 ky8_0 ky8_1 z8 t8 u8 i (hT) (hNM) (by omega)) (cwV 1 hts gX7_trailOfDraft_X7_countsInDraft rfl rfl rfl (by decide +kernel) ⟨Nat.le_of_ble_eq_true rfl, Nat.le_of_ble_eq_true rfl⟩) ⟨fun a U g mk q => by obtain ⟨q0, qP, qK⟩ := q; exact ⟨q0, qP, va_K.moved (u := U) (U := U.calling g mk a) (Vm.Alike.refl U.vm) qK⟩, va_recv hK hP (ci := 7) (q0 := 0) rfl rfl, fun U hU hW => ⟨rfl, by rw [hU]; exact hPc, va_K.moved hW.alike hKc⟩⟩ rfl rfl hl.1 rfl (lv_room (Nat.le_of_ble_eq_true rfl)) dX7_trailOfDraft_18 ⟨Nat.le_of_ble_eq_true rfl, Nat.le_of_ble_eq_true rfl⟩) (fun r_18 hw_18 => ?_)
      clear hPc
      rcases hw_18 with ⟨hr_18, hb_18⟩ | ⟨hr_18, hb_18⟩
      · subst hr_18
        obtain ⟨hwa, hwb, hwc, hwe, hwf⟩ := hT.wd (i := i) (by omega)
        have htl := tln_le (lt := t8) (lw := u8) (z := z8) hT (i := i) (by omega)
        refine lv_if_eq (tgt := 38) hx hb dX7_trailOfDraft_21 (by decide) (fun c_21 => ?_) (fun c_21 => ?_)
        · exact absurd c_21 (by decide)
        refine lv_aload_n hx hb dX7_trailOfDraft_24 rfl (lv_at hl 0 rfl) ?_
        refine va_get (D := (dC, dI)) (ci := 7) (v := .ref a12) (C := RX7) (T := TX7) (N := 18) hx hb hts hi_X7 hown hK hP 0 rfl rfl 12 (by decide) k_f65 (fun _ h9 => h9) rfl dX7_trailOfDraft_25 ?_
        refine va_get (D := (dC, dI)) (ci := 2) (v := .ref e2_2) (C := RX2) (T := TX2) (N := 5) hx hb hts hi_X2 hown hK hP 1 rfl rfl 2 (by decide) k_f191 (fun _ h9 => h9) rfl dX7_trailOfDraft_28 ?_
        refine lv_iload_n hx hb dX7_trailOfDraft_31 rfl (lv_at hl 2 rfl) ?_
        refine va_iald hx hb hK hP 4 2 rfl rfl (i := nI i) (vp_in_nI (by omega) (by omega)) dX7_trailOfDraft_32 ?_
        refine lv_topi (fun x_32 ex_32 => ?_)
        obtain rfl : nI (l2 i) = x_32 := Eq.symm (ex_32.trans (nR_at (by omega)))
        refine lv_iconst (v := 1) hx hb dX7_trailOfDraft_33 (by decide) ?_
        refine lv_iadd hx hb dX7_trailOfDraft_34 ?_
        refine lv_topi (fun x_34 ex_34 => ?_)
        obtain rfl : nI (l2 i + 1) = x_34 := Eq.symm (ex_34.trans (nI_add (l2 i) 1))
        refine lv_goto (tgt := 39) hx hb dX7_trailOfDraft_35 (by decide) ?_
        refine lv_iadd hx hb dX7_trailOfDraft_39 ?_
        refine lv_topi (fun x_39 ex_39 => ?_)
        obtain rfl : nI (tln t8 u8 z8 g2 s2 l2 i + (l2 i + 1)) = x_39 := Eq.symm (ex_39.trans (nI_add (tln t8 u8 z8 g2 s2 l2 i) (l2 i + 1)))
        refine lv_istore_n (lv' := [(1, .int (nI (tln t8 u8 z8 g2 s2 l2 i + (l2 i + 1)))), (0, .ref h0), (2, .int (nI i))]) hx hb dX7_trailOfDraft_40 rfl hl (by decide) rfl (fun ls hl => ?_)
        replace hl : lv_has ls 5 [(1, .int (nI (tln t8 u8 z8 g2 s2 l2 (i + 1)))), (0, .ref h0), (2, .int (nI i))] := by rw [tln_y hb_18]; exact hl
        refine lv_iinc (v := nI (i + 1)) (lv' := [(2, .int (nI (i + 1))), (1, .int (nI (tln t8 u8 z8 g2 s2 l2 (i + 1)))), (0, .ref h0)]) hx hb dX7_trailOfDraft_41 hl (k := 2) rfl (nI_1 _) (by decide) rfl (fun ls hl => ?_)
        refine lv_goto (tgt := 4) hx hb dX7_trailOfDraft_44 (by decide) ?_
        replace hl : lv_has ls 5 [(0, .ref h0), (1, .int (nI (tln t8 u8 z8 g2 s2 l2 (i + 1)))), (2, .int (nI (i + 1)))] := lv_sub hl [2, 1, 0] rfl
        apply ih4 (i := i + 1) <;> first | assumption | omega
      · subst hr_18
        obtain ⟨hwa, hwb, hwc, hwe, hwf⟩ := hT.wd (i := i) (by omega)
        have htl := tln_le (lt := t8) (lw := u8) (z := z8) hT (i := i) (by omega)
        refine lv_if_eq (tgt := 38) hx hb dX7_trailOfDraft_21 (by decide) (fun c_21 => ?_) (fun c_21 => ?_)
        rotate_left
        · exact absurd (by decide) c_21
        refine lv_iconst (v := 0) hx hb dX7_trailOfDraft_38 (by decide) ?_
        refine lv_iadd hx hb dX7_trailOfDraft_39 ?_
        refine lv_topi (fun x_39 ex_39 => ?_)
        obtain rfl : nI (tln t8 u8 z8 g2 s2 l2 i) = x_39 := Eq.symm (ex_39.trans (nI_add (tln t8 u8 z8 g2 s2 l2 i) 0))
        refine lv_istore_n (lv' := [(1, .int (nI (tln t8 u8 z8 g2 s2 l2 i))), (0, .ref h0), (2, .int (nI i))]) hx hb dX7_trailOfDraft_40 rfl hl (by decide) rfl (fun ls hl => ?_)
        replace hl : lv_has ls 5 [(1, .int (nI (tln t8 u8 z8 g2 s2 l2 (i + 1)))), (0, .ref h0), (2, .int (nI i))] := by rw [tln_n hb_18]; exact hl
        refine lv_iinc (v := nI (i + 1)) (lv' := [(2, .int (nI (i + 1))), (1, .int (nI (tln t8 u8 z8 g2 s2 l2 (i + 1)))), (0, .ref h0)]) hx hb dX7_trailOfDraft_41 hl (k := 2) rfl (nI_1 _) (by decide) rfl (fun ls hl => ?_)
        refine lv_goto (tgt := 4) hx hb dX7_trailOfDraft_44 (by decide) ?_
        replace hl : lv_has ls 5 [(0, .ref h0), (1, .int (nI (tln t8 u8 z8 g2 s2 l2 (i + 1)))), (2, .int (nI (i + 1)))] := lv_sub hl [2, 1, 0] rfl
        apply ih4 (i := i + 1) <;> first | assumption | omega
