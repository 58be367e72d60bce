set_option maxHeartbeats 4000000 in
set_option maxRecDepth 100000 in
/-- THE LAW'S LOOP: at its head, with k calls done -/
theorem law_loop {p : Program} {l : Launch} {e : Env} {s : State} {m : MethodId} {below : List Frame} {meth : Method} {c : Code} {dC : Nat → ClassId} {dI : Nat → Nat → Nat} {b L : Nat} {xs : Nat → Int32} (C0 : lw_At p s m meth c b L xs) (hst : l.stackTraces = false) (hL : L ≤ 3072) {X0 Y0 O0 : Nat} {KB KI KH KZ KS KW KL : ClassId} {Rs : List Nat} (hK : va_K (dC, dI) vwCl [(KB, .byte), (KI, .int), (KZ, .boolean), (KS, .short), (KH, .object "TongueTeller$Learnt"), (KW, .array .byte), (KL, .long)] s) : ∀ (n k : Nat) (Nn : Nat → Nat) (Ii : Nat → Int32) (Gg : Nat → Nat → Nat) (Ff : Nat → Nat → Int32) (Qq : Nat → Nat → Option Nat) (Jj : Nat → Nat → Int64) (Lp : List Nat) (fp : Nat → va_E) (nu : Nat → Int32) (tg : Nat → Nat) (tr : Nat → Nat) (tl : Nat → Nat) (gg : Nat → Nat → Nat) (Nm : Nat) (H : Heap) (locs : List Loc) (ls : Array Slot), 6 * k ≤ L + 5 → 512 < k + n → (va_P (dC, dI) vwCl (vpl (WLD X0 Y0 O0 KB KI KH KZ KS KW KL Nn Ii Gg Ff Qq Jj) Lp fp) H) → (va_D (fun q : Nat => s.heap.size ≤ q) (vpl (WLD X0 Y0 O0 KB KI KH KZ KS KW KL Nn Ii Gg Ff Qq Jj) Lp fp)) → (FCT (6 * k) KB Rs Nn Ii Gg Ff Qq Jj Lp fp nu tg tr tl gg Nm) → va_S (fun q : Nat => s.heap.size ≤ q) s.heap H locs → lv_has ls 7 [(0, .ref b), (1, .ref X0), (2, .ref Y0), (3, .ref O0), (4, .int (nI (6 * k)))] → W p l e room_1 s m #[Value.ref b] below meth c H locs (71 + 3 * k) (90526 + 730 * k) (lw_Z below #[Value.ref b] s) (F0 m 23 ls []) := by
  obtain ⟨hx, hb, hr, hml, hown, hts0, hXs, hbl, hlocks, hgv⟩ := id C0
  have hts : ∀ w ∈ wsL_law, w.before #[Value.ref b] s = true := fun w h => hts0 w (wsL_law_in w h)
  have hA : ∀ q : Nat, s.heap.size ≤ q → (fun q : Nat => s.heap.size ≤ q) q := fun _ h => h
  have hbA : ¬ (fun q : Nat => s.heap.size ≤ q) b := Nat.not_le.mpr hbl
  intro n
  induction n with
  | zero => intro k _ _ _ _ _ _ _ _ _ _ _ _ _ _ H locs ls h1 h2; omega
  | succ n ih =>
    intro k Nn Ii Gg Ff Qq Jj Lp fp nu tg tr tl gg Nm H locs ls hk hn hP hD hF hS hl
    refine lv_iload hx hb dL_law_23 (lv_at hl 4 rfl) ?_
    refine lv_aload_n hx hb dL_law_25 rfl (lv_at hl 0 rfl) ?_
    refine va_slen hx hb hXs hbl hbA hS dL_law_26 ?_
    refine lv_bipush (v := 6) hx hb dL_law_27 (by decide) ?_
    refine lv_isub hx hb dL_law_29 ?_
    refine lv_icmp_gt (tgt := 828) hx hb dL_law_30 (by decide) (fun c_30 => ?_) (fun c_30 => ?_)
    · refine lv_iconst (v := 1) hx hb dL_law_828 (by decide) ?_
      refine va_forget (fun q hq => hS.2.2 q hq) ?_
      refine W.widen (k := 601024) (n := 7293034) (by omega) (by omega) ?_
      exact lw_ret hx hb hr hlocks dL_law_829
    · have hi := hd_le (i := 6 * k) (L := L) (by omega) (by omega) c_30
      refine lv_aload_n hx hb dL_law_33 rfl (lv_at hl 0 rfl) ?_
      refine lv_iload hx hb dL_law_34 (lv_at hl 4 rfl) ?_
      refine va_sld hx hb hXs hbl hbA hS (i := nI (6 * k)) (vp_in_nI (by omega) (by omega)) dL_law_36 ?_
      refine lv_bipush (v := 31) hx hb dL_law_37 (by decide) ?_
      refine lv_iand hx hb dL_law_39 ?_
      obtain ⟨j, hj, ej⟩ := pk_andE (xs (nI (6 * k)).toNatClampNeg) (m := 31) 5 (by decide)
      refine lv_topi (fun xj exj => ?_)
      rw [ej] at exj
      subst exj
      have KK : ∀ (Nn : Nat → Nat) (Ii : Nat → Int32) (Gg : Nat → Nat → Nat) (Ff : Nat → Nat → Int32) (Qq : Nat → Nat → Option Nat) (Jj : Nat → Nat → Int64) (Lp : List Nat) (fp : Nat → va_E) (nu : Nat → Int32) (tg : Nat → Nat) (tr : Nat → Nat) (tl : Nat → Nat) (gg : Nat → Nat → Nat) (Nm : Nat) (H : Heap) (locs : List Loc) (ls : Array Slot), (va_P (dC, dI) vwCl (vpl (WLD X0 Y0 O0 KB KI KH KZ KS KW KL Nn Ii Gg Ff Qq Jj) Lp fp) H) → (va_D (fun q : Nat => s.heap.size ≤ q) (vpl (WLD X0 Y0 O0 KB KI KH KZ KS KW KL Nn Ii Gg Ff Qq Jj) Lp fp)) → (FCT (6 * k + 6) KB Rs Nn Ii Gg Ff Qq Jj Lp fp nu tg tr tl gg Nm) → va_S (fun q : Nat => s.heap.size ≤ q) s.heap H locs → lv_has ls 7 [(0, .ref b), (1, .ref X0), (2, .ref Y0), (3, .ref O0), (4, .int (nI (6 * k)))] → W p l e room_1 s m #[Value.ref b] below meth c H locs (71 + 3 * k + 3) (90526 + 730 * k + 730) (lw_Z below #[Value.ref b] s) (F0 m 822 ls []) := by
        intro Nn Ii Gg Ff Qq Jj Lp fp nu tg tr tl gg Nm H locs ls hP hD hF hS hl
        refine lv_iinc (v := nI (6 * (k + 1))) (lv' := [(4, .int (nI (6 * (k + 1)))), (0, .ref b), (1, .ref X0), (2, .ref Y0), (3, .ref O0)]) hx hb dL_law_822 hl (k := 4) rfl (by rw [show 6 * (k + 1) = 6 * k + 6 from rfl]; exact nI_add (6 * k) 6) (by decide) rfl (fun ls hl => ?_)
        refine lv_goto (tgt := 23) hx hb dL_law_825 (by decide) ?_
        refine W.widen (k := 71 + 3 * (k + 1)) (n := 90526 + 730 * (k + 1)) (by omega) (by omega) ?_
        exact ih (k + 1) Nn Ii Gg Ff Qq Jj Lp fp nu tg tr tl gg Nm H _ _ (by omega) (by omega) hP hD hF hS (lv_sub hl [1, 2, 3, 4, 0] rfl)
      match j, hj with
      | 0, _ =>
        refine lv_tableIn (off := 108) (tgt := 148) hx hb dL_law_40 (by decide) (by decide) (by decide) (by decide) ?_
        exact law_feed C0 hst hi hL (by omega) (by omega) hK hP hD hF hS hl KK
      | 1, _ =>
        refine lv_tableIn (off := 181) (tgt := 221) hx hb dL_law_40 (by decide) (by decide) (by decide) (by decide) ?_
        exact law_tongue C0 hst hi hL (by omega) (by omega) hK hP hD hF hS hl KK
      | 2, _ =>
        refine lv_tableIn (off := 194) (tgt := 234) hx hb dL_law_40 (by decide) (by decide) (by decide) (by decide) ?_
        exact law_learn C0 hst hi hL (by omega) (by omega) hK hP hD hF hS hl KK
      | 3, _ =>
        refine lv_tableIn (off := 231) (tgt := 271) hx hb dL_law_40 (by decide) (by decide) (by decide) (by decide) ?_
        exact law_forget C0 hst hi hL (by omega) (by omega) hK hP hD hF hS hl KK
      | 4, _ =>
        refine lv_tableIn (off := 256) (tgt := 296) hx hb dL_law_40 (by decide) (by decide) (by decide) (by decide) ?_
        exact law_keyword C0 hst hi hL (by omega) (by omega) hK hP hD hF hS hl KK
      | 5, _ =>
        refine lv_tableIn (off := 293) (tgt := 333) hx hb dL_law_40 (by decide) (by decide) (by decide) (by decide) ?_
        exact law_name C0 hst hi hL (by omega) (by omega) hK hP hD hF hS hl KK
      | 6, _ =>
        refine lv_tableIn (off := 318) (tgt := 358) hx hb dL_law_40 (by decide) (by decide) (by decide) (by decide) ?_
        exact law_set C0 hst hi hL (by omega) (by omega) hK hP hD hF hS hl KK
      | 7, _ =>
        refine lv_tableIn (off := 355) (tgt := 395) hx hb dL_law_40 (by decide) (by decide) (by decide) (by decide) ?_
        exact law_pair C0 hst hi hL (by omega) (by omega) hK hP hD hF hS hl KK
      | 8, _ =>
        refine lv_tableIn (off := 404) (tgt := 444) hx hb dL_law_40 (by decide) (by decide) (by decide) (by decide) ?_
        exact law_text C0 hst hi hL (by omega) (by omega) hK hP hD hF hS hl KK
      | 9, _ =>
        refine lv_tableIn (off := 429) (tgt := 469) hx hb dL_law_40 (by decide) (by decide) (by decide) (by decide) ?_
        exact law_more C0 hst hi hL (by omega) (by omega) hK hP hD hF hS hl KK
      | 10, _ =>
        refine lv_tableIn (off := 454) (tgt := 494) hx hb dL_law_40 (by decide) (by decide) (by decide) (by decide) ?_
        exact law_word C0 hst hi hL (by omega) (by omega) hK hP hD hF hS hl KK
      | 11, _ =>
        refine lv_tableIn (off := 491) (tgt := 531) hx hb dL_law_40 (by decide) (by decide) (by decide) (by decide) ?_
        exact law_cost C0 hst hi hL (by omega) (by omega) hK hP hD hF hS hl KK
      | 12, _ =>
        refine lv_tableIn (off := 528) (tgt := 568) hx hb dL_law_40 (by decide) (by decide) (by decide) (by decide) ?_
        exact law_part C0 hst hi hL (by omega) (by omega) hK hP hD hF hS hl KK
      | 13, _ =>
        refine lv_tableIn (off := 541) (tgt := 581) hx hb dL_law_40 (by decide) (by decide) (by decide) (by decide) ?_
        exact law_told C0 hst hi hL (by omega) (by omega) hK hP hD hF hS hl KK
      | 14, _ =>
        refine lv_tableIn (off := 566) (tgt := 606) hx hb dL_law_40 (by decide) (by decide) (by decide) (by decide) ?_
        exact law_spans C0 hst hi hL (by omega) (by omega) hK hP hD hF hS hl KK
      | 15, _ =>
        refine lv_tableIn (off := 579) (tgt := 619) hx hb dL_law_40 (by decide) (by decide) (by decide) (by decide) ?_
        exact law_span C0 hst hi hL (by omega) (by omega) hK hP hD hF hS hl KK
      | 16, _ =>
        refine lv_tableIn (off := 616) (tgt := 656) hx hb dL_law_40 (by decide) (by decide) (by decide) (by decide) ?_
        exact law_sure C0 hst hi hL (by omega) (by omega) hK hP hD hF hS hl KK
      | 17, _ =>
        refine lv_tableIn (off := 641) (tgt := 681) hx hb dL_law_40 (by decide) (by decide) (by decide) (by decide) ?_
        exact law_fixed C0 hst hi hL (by omega) (by omega) hK hP hD hF hS hl KK
      | 18, _ =>
        refine lv_tableIn (off := 654) (tgt := 694) hx hb dL_law_40 (by decide) (by decide) (by decide) (by decide) ?_
        exact law_whole C0 hst hi hL (by omega) (by omega) hK hP hD hF hS hl KK
      | 19, _ =>
        refine lv_tableIn (off := 679) (tgt := 719) hx hb dL_law_40 (by decide) (by decide) (by decide) (by decide) ?_
        exact law_tells C0 hst hi hL (by omega) (by omega) hK hP hD hF hS hl KK
      | 20, _ =>
        refine lv_tableIn (off := 716) (tgt := 756) hx hb dL_law_40 (by decide) (by decide) (by decide) (by decide) ?_
        exact law_telling C0 hst hi hL (by omega) (by omega) hK hP hD hF hS hl KK
      | 21, _ =>
        refine lv_tableIn (off := 744) (tgt := 784) hx hb dL_law_40 (by decide) (by decide) (by decide) (by decide) ?_
        exact law_count C0 hst hi hL (by omega) (by omega) hK hP hD hF hS hl KK
      | 22, _ =>
        refine lv_tableIn (off := 769) (tgt := 809) hx hb dL_law_40 (by decide) (by decide) (by decide) (by decide) ?_
        exact law_trouble C0 hst hi hL (by omega) (by omega) hK hP hD hF hS hl KK
      | 23, _ =>
        refine lv_tableOut (tgt := 822) hx hb dL_law_40 (Or.inr (by decide)) (by decide) ?_
        refine W.widen (k := 71 + 3 * k + 3) (n := 90526 + 730 * k + 730) (by omega) (by omega) ?_
        obtain ⟨hts_, hgt, hz, hT, hdr, hKW, hNM, hHL, hRL, hls, htz, htp, htg, hX, hN8, hK8, hLR, hl1_, hch, hgp, htl, hTM, hRW, hR1, hR2, hrt, hrz, hrs, hrn, hrx, hrk, hrN, hrw, hrK, hrq, hrc, hr4, hr5, hr6, hrh, hrb, hrv, hri, hrg, hrp, hkn, hrl, hre, hRD⟩ := hF
        exact KK Nn Ii Gg Ff Qq Jj Lp fp nu tg tr tl gg Nm H _ _ hP hD ⟨hts_, hgt, hz, hT, hdr, hKW, hNM, hHL, hRL, hls, htz, htp, htg, hX, hN8, hK8, hLR, hl1_, hch, hgp, htl, hTM, hRW, hR1, hR2, hrt, hrz, hrs, hrn, hrx, hrk, hrN, hrw, hrK, hrq, hrc, hr4, hr5, hr6, hrh, (by omega), hrv, hri, hrg, hrp, hkn, hrl, hre, hRD⟩ hS hl
      | 24, _ =>
        refine lv_tableOut (tgt := 822) hx hb dL_law_40 (Or.inr (by decide)) (by decide) ?_
        refine W.widen (k := 71 + 3 * k + 3) (n := 90526 + 730 * k + 730) (by omega) (by omega) ?_
        obtain ⟨hts_, hgt, hz, hT, hdr, hKW, hNM, hHL, hRL, hls, htz, htp, htg, hX, hN8, hK8, hLR, hl1_, hch, hgp, htl, hTM, hRW, hR1, hR2, hrt, hrz, hrs, hrn, hrx, hrk, hrN, hrw, hrK, hrq, hrc, hr4, hr5, hr6, hrh, hrb, hrv, hri, hrg, hrp, hkn, hrl, hre, hRD⟩ := hF
        exact KK Nn Ii Gg Ff Qq Jj Lp fp nu tg tr tl gg Nm H _ _ hP hD ⟨hts_, hgt, hz, hT, hdr, hKW, hNM, hHL, hRL, hls, htz, htp, htg, hX, hN8, hK8, hLR, hl1_, hch, hgp, htl, hTM, hRW, hR1, hR2, hrt, hrz, hrs, hrn, hrx, hrk, hrN, hrw, hrK, hrq, hrc, hr4, hr5, hr6, hrh, (by omega), hrv, hri, hrg, hrp, hkn, hrl, hre, hRD⟩ hS hl
      | 25, _ =>
        refine lv_tableOut (tgt := 822) hx hb dL_law_40 (Or.inr (by decide)) (by decide) ?_
        refine W.widen (k := 71 + 3 * k + 3) (n := 90526 + 730 * k + 730) (by omega) (by omega) ?_
        obtain ⟨hts_, hgt, hz, hT, hdr, hKW, hNM, hHL, hRL, hls, htz, htp, htg, hX, hN8, hK8, hLR, hl1_, hch, hgp, htl, hTM, hRW, hR1, hR2, hrt, hrz, hrs, hrn, hrx, hrk, hrN, hrw, hrK, hrq, hrc, hr4, hr5, hr6, hrh, hrb, hrv, hri, hrg, hrp, hkn, hrl, hre, hRD⟩ := hF
        exact KK Nn Ii Gg Ff Qq Jj Lp fp nu tg tr tl gg Nm H _ _ hP hD ⟨hts_, hgt, hz, hT, hdr, hKW, hNM, hHL, hRL, hls, htz, htp, htg, hX, hN8, hK8, hLR, hl1_, hch, hgp, htl, hTM, hRW, hR1, hR2, hrt, hrz, hrs, hrn, hrx, hrk, hrN, hrw, hrK, hrq, hrc, hr4, hr5, hr6, hrh, (by omega), hrv, hri, hrg, hrp, hkn, hrl, hre, hRD⟩ hS hl
      | 26, _ =>
        refine lv_tableOut (tgt := 822) hx hb dL_law_40 (Or.inr (by decide)) (by decide) ?_
        refine W.widen (k := 71 + 3 * k + 3) (n := 90526 + 730 * k + 730) (by omega) (by omega) ?_
        obtain ⟨hts_, hgt, hz, hT, hdr, hKW, hNM, hHL, hRL, hls, htz, htp, htg, hX, hN8, hK8, hLR, hl1_, hch, hgp, htl, hTM, hRW, hR1, hR2, hrt, hrz, hrs, hrn, hrx, hrk, hrN, hrw, hrK, hrq, hrc, hr4, hr5, hr6, hrh, hrb, hrv, hri, hrg, hrp, hkn, hrl, hre, hRD⟩ := hF
        exact KK Nn Ii Gg Ff Qq Jj Lp fp nu tg tr tl gg Nm H _ _ hP hD ⟨hts_, hgt, hz, hT, hdr, hKW, hNM, hHL, hRL, hls, htz, htp, htg, hX, hN8, hK8, hLR, hl1_, hch, hgp, htl, hTM, hRW, hR1, hR2, hrt, hrz, hrs, hrn, hrx, hrk, hrN, hrw, hrK, hrq, hrc, hr4, hr5, hr6, hrh, (by omega), hrv, hri, hrg, hrp, hkn, hrl, hre, hRD⟩ hS hl
      | 27, _ =>
        refine lv_tableOut (tgt := 822) hx hb dL_law_40 (Or.inr (by decide)) (by decide) ?_
        refine W.widen (k := 71 + 3 * k + 3) (n := 90526 + 730 * k + 730) (by omega) (by omega) ?_
        obtain ⟨hts_, hgt, hz, hT, hdr, hKW, hNM, hHL, hRL, hls, htz, htp, htg, hX, hN8, hK8, hLR, hl1_, hch, hgp, htl, hTM, hRW, hR1, hR2, hrt, hrz, hrs, hrn, hrx, hrk, hrN, hrw, hrK, hrq, hrc, hr4, hr5, hr6, hrh, hrb, hrv, hri, hrg, hrp, hkn, hrl, hre, hRD⟩ := hF
        exact KK Nn Ii Gg Ff Qq Jj Lp fp nu tg tr tl gg Nm H _ _ hP hD ⟨hts_, hgt, hz, hT, hdr, hKW, hNM, hHL, hRL, hls, htz, htp, htg, hX, hN8, hK8, hLR, hl1_, hch, hgp, htl, hTM, hRW, hR1, hR2, hrt, hrz, hrs, hrn, hrx, hrk, hrN, hrw, hrK, hrq, hrc, hr4, hr5, hr6, hrh, (by omega), hrv, hri, hrg, hrp, hkn, hrl, hre, hRD⟩ hS hl
      | 28, _ =>
        refine lv_tableOut (tgt := 822) hx hb dL_law_40 (Or.inr (by decide)) (by decide) ?_
        refine W.widen (k := 71 + 3 * k + 3) (n := 90526 + 730 * k + 730) (by omega) (by omega) ?_
        obtain ⟨hts_, hgt, hz, hT, hdr, hKW, hNM, hHL, hRL, hls, htz, htp, htg, hX, hN8, hK8, hLR, hl1_, hch, hgp, htl, hTM, hRW, hR1, hR2, hrt, hrz, hrs, hrn, hrx, hrk, hrN, hrw, hrK, hrq, hrc, hr4, hr5, hr6, hrh, hrb, hrv, hri, hrg, hrp, hkn, hrl, hre, hRD⟩ := hF
        exact KK Nn Ii Gg Ff Qq Jj Lp fp nu tg tr tl gg Nm H _ _ hP hD ⟨hts_, hgt, hz, hT, hdr, hKW, hNM, hHL, hRL, hls, htz, htp, htg, hX, hN8, hK8, hLR, hl1_, hch, hgp, htl, hTM, hRW, hR1, hR2, hrt, hrz, hrs, hrn, hrx, hrk, hrN, hrw, hrK, hrq, hrc, hr4, hr5, hr6, hrh, (by omega), hrv, hri, hrg, hrp, hkn, hrl, hre, hRD⟩ hS hl
      | 29, _ =>
        refine lv_tableOut (tgt := 822) hx hb dL_law_40 (Or.inr (by decide)) (by decide) ?_
        refine W.widen (k := 71 + 3 * k + 3) (n := 90526 + 730 * k + 730) (by omega) (by omega) ?_
        obtain ⟨hts_, hgt, hz, hT, hdr, hKW, hNM, hHL, hRL, hls, htz, htp, htg, hX, hN8, hK8, hLR, hl1_, hch, hgp, htl, hTM, hRW, hR1, hR2, hrt, hrz, hrs, hrn, hrx, hrk, hrN, hrw, hrK, hrq, hrc, hr4, hr5, hr6, hrh, hrb, hrv, hri, hrg, hrp, hkn, hrl, hre, hRD⟩ := hF
        exact KK Nn Ii Gg Ff Qq Jj Lp fp nu tg tr tl gg Nm H _ _ hP hD ⟨hts_, hgt, hz, hT, hdr, hKW, hNM, hHL, hRL, hls, htz, htp, htg, hX, hN8, hK8, hLR, hl1_, hch, hgp, htl, hTM, hRW, hR1, hR2, hrt, hrz, hrs, hrn, hrx, hrk, hrN, hrw, hrK, hrq, hrc, hr4, hr5, hr6, hrh, (by omega), hrv, hri, hrg, hrp, hkn, hrl, hre, hRD⟩ hS hl
      | 30, _ =>
        refine lv_tableOut (tgt := 822) hx hb dL_law_40 (Or.inr (by decide)) (by decide) ?_
        refine W.widen (k := 71 + 3 * k + 3) (n := 90526 + 730 * k + 730) (by omega) (by omega) ?_
        obtain ⟨hts_, hgt, hz, hT, hdr, hKW, hNM, hHL, hRL, hls, htz, htp, htg, hX, hN8, hK8, hLR, hl1_, hch, hgp, htl, hTM, hRW, hR1, hR2, hrt, hrz, hrs, hrn, hrx, hrk, hrN, hrw, hrK, hrq, hrc, hr4, hr5, hr6, hrh, hrb, hrv, hri, hrg, hrp, hkn, hrl, hre, hRD⟩ := hF
        exact KK Nn Ii Gg Ff Qq Jj Lp fp nu tg tr tl gg Nm H _ _ hP hD ⟨hts_, hgt, hz, hT, hdr, hKW, hNM, hHL, hRL, hls, htz, htp, htg, hX, hN8, hK8, hLR, hl1_, hch, hgp, htl, hTM, hRW, hR1, hR2, hrt, hrz, hrs, hrn, hrx, hrk, hrN, hrw, hrK, hrq, hrc, hr4, hr5, hr6, hrh, (by omega), hrv, hri, hrg, hrp, hkn, hrl, hre, hRD⟩ hS hl
      | 31, _ =>
        refine lv_tableOut (tgt := 822) hx hb dL_law_40 (Or.inr (by decide)) (by decide) ?_
        refine W.widen (k := 71 + 3 * k + 3) (n := 90526 + 730 * k + 730) (by omega) (by omega) ?_
        obtain ⟨hts_, hgt, hz, hT, hdr, hKW, hNM, hHL, hRL, hls, htz, htp, htg, hX, hN8, hK8, hLR, hl1_, hch, hgp, htl, hTM, hRW, hR1, hR2, hrt, hrz, hrs, hrn, hrx, hrk, hrN, hrw, hrK, hrq, hrc, hr4, hr5, hr6, hrh, hrb, hrv, hri, hrg, hrp, hkn, hrl, hre, hRD⟩ := hF
        exact KK Nn Ii Gg Ff Qq Jj Lp fp nu tg tr tl gg Nm H _ _ hP hD ⟨hts_, hgt, hz, hT, hdr, hKW, hNM, hHL, hRL, hls, htz, htp, htg, hX, hN8, hK8, hLR, hl1_, hch, hgp, htl, hTM, hRW, hR1, hR2, hrt, hrz, hrs, hrn, hrx, hrk, hrN, hrw, hrK, hrq, hrc, hr4, hr5, hr6, hrh, (by omega), hrv, hri, hrg, hrp, hkn, hrl, hre, hRD⟩ hS hl
      | k + 32, h => omega
